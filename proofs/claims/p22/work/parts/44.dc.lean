/-! the law's small methods: does, call, both; two halls side by side -/
def cNN : List (String × String) := [(xIO, xIA), (xIO, xIS), (xIA, xIO), (xIA, xIS), (xIS, xIO), (xIS, xIA)]
def cN (U : State) : Prop := ∀ q ∈ cNN, va_Nc q.1 q.2 U
theorem cN.moved {u U : State} (hvm : u.vm.Alike U.vm) (h : cN u) : cN U := fun q hq => va_Nc.moved hvm (h q hq)
def wPx (de mi : Nat) (D : va_G) (cy : Nat → ClassId) (M : mM) (sz : Nat) (av : List Value) : Array Value → State → Prop := va_Pc av (fun U => (U.heap.size = sz ∧ pm D M U.heap ∧ mK D cy U ∧ cX de mi (mA M sz) U U.heap) ∧ cN U)
theorem wPx_blind {de mi : Nat} {D : va_G} {cy : Nat → ClassId} {M : mM} {sz : Nat} {av : List Value} : FrameBlind (wPx de mi D cy M sz av) := fun a U g mk q => ⟨q.1, ⟨q.2.1.1, q.2.1.2.1, va_K.moved (u := U) (U := U.calling g mk a) (Vm.Alike.refl U.vm) q.2.1.2.2.1, q.2.1.2.2.2.call g mk a⟩, cN.moved (u := U) (U := U.calling g mk a) (Vm.Alike.refl U.vm) q.2.2⟩
/-- nothing is thrown -/
def wXC (M : mM) (sz : Nat) : String → State → State → Prop := vx_X (fun _ : Unit => False) (fun _ _ _ => True) (mA M sz)
def wMet (l : Launch) (y : MethodName) (ws : List Cond) (rm : Room) (de mi : Nat) (D : va_G) (cy : Nat → ClassId) (M : mM) (sz : Nat) (av : List Value) (post : Int32 → mM → Prop) (mc ms : Nat) : Prop := vx_Met l y ws rm (wPx de mi D cy M sz av) (va_Qi post (mB D M sz) (mA M sz)) (wXC M sz) mc ms (mA M sz)
theorem wMet.of {l : Launch} {y : MethodName} {ws ws' : List Cond} {rm : Room} {de mi : Nat} {D : va_G} {cy : Nat → ClassId} {M : mM} {av : List Value} {cc : ByteArray} {maxL : Nat} {ret : Option FieldType} {hh : List (Nat × Nat × Nat × Nat)} {post : Int32 → mM → Prop} {sz mc ms : Nat} (hy : plainName y.cls = true) (hw : ws = Cond.codeWith y cc maxL ret hh :: ws') (hn : (lg_sl av).length ≤ maxL)
    (body : ∀ (p : Program) (e : Env) (s : State) (m : MethodId) (args : Array Value) (below : List Frame) (meth : Method) (c : Code) (ls : Array Slot), sz = s.heap.size → p.tables.exec = Jvm.exec → c.code = cc → meth.sig.returnType = ret → (∀ w ∈ ws, w.before args s = true) → s.vm.findClass y.cls = some m.cls → meth.locks = false → c.maxLocals = maxL → c.exceptionTable.toList = tableOf hh → pm D M s.heap → mD (mA M sz) M → va_S (mA M sz) s.heap s.heap [] → (∀ q : Nat, s.heap.size ≤ q → mA M sz q) → mK D cy s → cX de mi (mA M sz) s s.heap → cN s → lv_has ls maxL (lv_args 0 av) →
      W p l e rm s m args below meth c s.heap [] 0 0 (vx_MQ below (va_Qi post (mB D M sz) (mA M sz)) (wXC M sz) args s mc ms (mA M sz)) (F0 m 0 ls [])) : wMet l y ws rm de mi D cy M sz av post mc ms := by
  refine vx_ofWH (cc := cc) (maxL := maxL) (ret := ret) (hh := hh) hy hw ?_
  intro p e s m args below meth c s₁ B hml hv
  obtain ⟨rfl, ⟨hsz, hP, hK, hX⟩, hN⟩ := hv
  have hl := lv_entry av (n := maxL) hn
  rw [lg_entry_eq]
  have hts := atoms_spec (ws := ws) B.pre
  exact body p e s m av.toArray below meth c _ hsz.symm B.exec B.bytes B.returns hts (findClass_of_methodNamed B.named) B.notSynchronized hml (vx_table (x := y) B (hts _ (by rw [hw]; exact List.mem_cons_self))) hP (fun q h => Or.inl h) va_S.rf (fun q h => Or.inr (by rw [← hsz]; exact h)) hK hX hN hl
theorem pm_out {D : va_G} {M : mM} {o : Nat} {e : va_E} {H : Heap} (ho : M o = none) (hP : pm D (mset M o e) H) : pm D M H := fun a f ha => hP a f (by rw [mset_ne (fun z => by rw [z, ho] at ha; cases ha)]; exact ha)
theorem mD_out {A : Nat → Prop} {M : mM} {o : Nat} {e : va_E} (hD : mD A (mset M o e)) : mD A M := fun q hq => hD q (mset_mono hq)
theorem out_keep {D : va_G} {M M1 : mM} {o : Nat} {e : va_E} {H H1 : Heap} (hP : pm D (mset M o e) H) (ho : M o = none) (hP1 : pm D M1 H1) (hd : mD (mA M H.size) M1) (hk : ∀ q : Nat, q < H.size → ¬ mA M H.size q → H1[q]? = H[q]?) : M1 o = none ∧ pm D (mset M1 o e) H1 := by
  have hlt : o < H.size := hP.lt' (by rw [mset_self]; exact fun z => by cases z)
  have hno : ¬ mA M H.size o := fun z => z.elim (fun z => z ho) (fun z => by omega)
  refine ⟨?_, fun q f hq => ?_⟩
  · cases h : M1 o with
    | none => rfl
    | some f => exact absurd (hd o (by rw [h]; exact fun z => by cases z)) hno
  · by_cases eq : q = o
    · subst eq
      rw [mset_self] at hq
      cases hq
      exact (hP q e (mset_self _ _ _)).kept (hk q hlt hno)
    · rw [mset_ne eq] at hq
      exact hP1 q f hq
section WC
variable {p : Program} {l : Launch} {e : Env} {R : Room} {s : State} {m : MethodId} {args : Array Value} {below : List Frame} {meth : Method} {c : Code} {H : Heap} {locs : List Loc} {cells slots : Nat} {Q : State → Prop}
variable {pc : Nat} {ls : Array Slot} {rest st0 : List Value} {D : va_G} {M : mM} {A : Nat → Prop} {mc ms : Nat} {postX : String → Prop} {a : Array Value}
theorem w_calli {post : Int32 → mM → Prop} (hr : vx_Run p l e R s m args below meth c H locs cells slots mc ms (F0 m pc ls st0) rest (va_Qi post (mB D M H.size) (mA M H.size) a) (mXC D M H.size postX) (mA M H.size)) (hD : mD A M) (hA : ∀ q, s.heap.size ≤ q → A q) (hS : va_S A s.heap H locs)
    (kx : ∀ (E : String) (ce : Cell) (q9 : Addr) (H1 : Heap) (locs1 : List Loc), postX E → pm D M H1 → va_S A s.heap H1 locs1 → H.size ≤ H1.size → (∀ q : Nat, q < H.size → ¬ mA M H.size q → H1[q]? = H[q]?) → H1[q9]? = some ce → ce.vm = .none → s.vm.findClass E = some ce.cls → vx_W p l e R s m args below meth c H1 locs1 (cells + mc) (slots + ms) Q (F0 m pc ls rest) q9)
    (kk : ∀ (r : Int32) (M1 : mM) (H1 : Heap) (locs1 : List Loc), post r M1 → pm D M1 H1 → mD A M1 → va_S A s.heap H1 locs1 → H.size ≤ H1.size → mD (mA M H.size) M1 → (∀ q : Nat, q < H.size → ¬ mA M H.size q → H1[q]? = H[q]?) → W p l e R s m args below meth c H1 locs1 (cells + mc) (slots + ms) Q (F0 m (pc + 3) ls (.int r :: rest))) : W p l e R s m args below meth c H locs cells slots Q (F0 m pc ls st0) :=
  vx_calli hr hS (fun q _ h => mA_sub hD hS hA q h) (mA_sub hD hS hA) (fun q _ h => mA_sub hD hS hA q h)
    (fun E ce q9 u t H1 locs1 ht _ _ hB hz hk hS1 hce hcv hcl => kx E ce q9 H1 locs1 hB.1 (by rw [← ht]; exact hB.2) hS1 hz hk hce hcv hcl)
    (fun r u t H1 locs1 ht _ hw hB hz hk hS1 => kk r u H1 locs1 hw (by rw [← ht]; exact hB.1) (fun q hq => mA_sub hD hS hA q (hB.2 q hq)) hS1 hz hB.2 hk)
/-- a call of a wrapper -/
theorem w_call {post : Int32 → mM → Prop} (hr : vx_Run p l e R s m args below meth c H locs cells slots mc ms (F0 m pc ls st0) rest (va_Qi post (mB D M H.size) (mA M H.size) a) (wXC M H.size) (mA M H.size)) (hD : mD A M) (hA : ∀ q, s.heap.size ≤ q → A q) (hS : va_S A s.heap H locs)
    (kk : ∀ (r : Int32) (M1 : mM) (H1 : Heap) (locs1 : List Loc), post r M1 → pm D M1 H1 → mD A M1 → va_S A s.heap H1 locs1 → H.size ≤ H1.size → mD (mA M H.size) M1 → (∀ q : Nat, q < H.size → ¬ mA M H.size q → H1[q]? = H[q]?) → W p l e R s m args below meth c H1 locs1 (cells + mc) (slots + ms) Q (F0 m (pc + 3) ls (.int r :: rest))) : W p l e R s m args below meth c H locs cells slots Q (F0 m pc ls st0) :=
  vx_calli hr hS (fun q _ h => mA_sub hD hS hA q h) (mA_sub hD hS hA) (fun q _ h => mA_sub hD hS hA q h)
    (fun E ce q9 u t H1 locs1 ht _ hF hB hz hk hS1 hce hcv hcl => hF.elim)
    (fun r u t H1 locs1 ht _ hw hB hz hk hS1 => kk r u H1 locs1 hw (by rw [← ht]; exact hB.1) (fun q hq => mA_sub hD hS hA q (hB.2 q hq)) hS1 hz hB.2 hk)
end WC
def dj (P Q : mM) : Prop := ∀ q : Nat, P q ≠ none → Q q = none
theorem dj.sy {P Q : mM} (h : dj P Q) : dj Q P := fun q hq => by
  cases hp : P q with
  | none => rfl
  | some e => exact absurd (h q (by rw [hp]; exact fun z => by cases z)) hq
/-- another picture stays -/
theorem pm_frame {D : va_G} {M N : mM} {H H1 : Heap} (hN : pm D N H) (hd : dj N M) (hk : ∀ q : Nat, q < H.size → ¬ mA M H.size q → H1[q]? = H[q]?) : pm D N H1 :=
  hN.kept fun q hq => hk q (hN.lt' hq) (fun z => z.elim (fun z => z (hd q hq)) (fun z => absurd (hN.lt' hq) (by omega)))
theorem dj_after {D : va_G} {M M1 N : mM} {H : Heap} (hN : pm D N H) (hd : dj N M) (h1 : mD (mA M H.size) M1) : dj N M1 := fun q hq => by
  cases hm : M1 q with
  | none => rfl
  | some e =>
    rcases h1 q (by rw [hm]; exact fun z => by cases z) with h | h
    · exact absurd (hd q hq) h
    · exact absurd (hN.lt' hq) (by omega)
theorem wPreS {de mi : Nat} {D : va_G} {cy : Nat → ClassId} {M : mM} {s : State} {H : Heap} {As : List Value} {A : Nat → Prop} {locs : List Loc} (hX : cX de mi A s s.heap) (hNN : cN s) (hD : mD A M) (hS : va_S A s.heap H locs) (hA : ∀ q, s.heap.size ≤ q → A q) (hK : mK D cy s) (hP : pm D M H) : PreS s H (wPx de mi D cy M H.size As) As :=
  ⟨wPx_blind, fun U hU hW => ⟨rfl, ⟨by rw [hU], by rw [hU]; exact hP, va_K.moved hW.alike hK, hX.at hD hS hA hU hW⟩, cN.moved hW.alike hNN⟩⟩
def lMi (l : Launch) (y : MethodName) (ws : List Cond) (rm : Room) (de mi : Nat) (D : va_G) (cy : Nat → ClassId) (M : mM) (sz : Nat) (av : List Value) (post : Int32 → mM → Prop) (mc ms : Nat) : Prop := Met l y ws rm (wPx de mi D cy M sz av) (va_Qi post (mB D M sz) (mA M sz)) mc ms (mA M sz)
def lMl (l : Launch) (y : MethodName) (ws : List Cond) (rm : Room) (de mi : Nat) (D : va_G) (cy : Nat → ClassId) (M : mM) (sz : Nat) (av : List Value) (post : Int64 → mM → Prop) (mc ms : Nat) : Prop := Met l y ws rm (wPx de mi D cy M sz av) (va_Ql post (mB D M sz) (mA M sz)) mc ms (mA M sz)
theorem lM.of {l : Launch} {y : MethodName} {ws ws' : List Cond} {rm : Room} {de mi : Nat} {D : va_G} {cy : Nat → ClassId} {M : mM} {av : List Value} {cc : ByteArray} {maxL : Nat} {ret : Option FieldType} {Qc : Array Value → State → Outcome → State → Prop} {sz mc ms : Nat} (hy : plainName y.cls = true) (hw : ws = Cond.code y cc maxL ret :: ws') (hn : (lg_sl av).length ≤ maxL)
    (body : ∀ (p : Program) (e : Env) (s : State) (m : MethodId) (args : Array Value) (below : List Frame) (meth : Method) (c : Code) (ls : Array Slot), sz = s.heap.size → p.tables.exec = Jvm.exec → c.code = cc → meth.sig.returnType = ret → (∀ w ∈ ws, w.before args s = true) → s.vm.findClass y.cls = some m.cls → meth.locks = false → c.maxLocals = maxL → pm D M s.heap → mD (mA M sz) M → va_S (mA M sz) s.heap s.heap [] → (∀ q : Nat, s.heap.size ≤ q → mA M sz q) → mK D cy s → cX de mi (mA M sz) s s.heap → cN s → lv_has ls maxL (lv_args 0 av) →
      W p l e rm s m args below meth c s.heap [] 0 0 (MQ below Qc args s mc ms (mA M sz)) (F0 m 0 ls [])) : Met l y ws rm (wPx de mi D cy M sz av) Qc mc ms (mA M sz) := by
  refine Met.ofW (cc := cc) (maxL := maxL) (ret := ret) hy hw ?_
  intro p e s m args below meth c s₁ B hml hv
  obtain ⟨rfl, ⟨hsz, hP, hK, hX⟩, hN⟩ := hv
  have hl := lv_entry av (n := maxL) hn
  rw [lg_entry_eq]
  exact body p e s m av.toArray below meth c _ hsz.symm B.exec B.bytes B.returns (atoms_spec (ws := ws) B.pre) (findClass_of_methodNamed B.named) B.notSynchronized hml hP (fun q h => Or.inl h) va_S.rf (fun q h => Or.inr (by rw [← hsz]; exact h)) hK hX hN hl
/-! pictures put together -/
def iwU (P Q : mM) : mM := fun q => match P q with
  | some e => some e
  | none => Q q
section PU
variable {P Q : mM} {q : Nat} {e : va_E} {D : va_G} {H : Heap} {A : Nat → Prop}
theorem iwU_l (h : P q = some e) : iwU P Q q = some e := by unfold iwU; rw [h]
theorem iwU_r (h : P q = none) : iwU P Q q = Q q := by unfold iwU; rw [h]
theorem dj.rn (hd : dj P Q) (h : Q q = some e) : P q = none := by
  cases hp : P q with
  | none => rfl
  | some f => rw [hd q (by rw [hp]; exact fun z => by cases z)] at h; cases h
theorem iwU_r2 (hd : dj P Q) (h : Q q = some e) : iwU P Q q = some e := (iwU_r (hd.rn h)).trans h
theorem iwU_ne (h : iwU P Q q ≠ none) : P q ≠ none ∨ Q q ≠ none := by
  cases hp : P q with
  | none => rw [iwU_r hp] at h; exact Or.inr h
  | some f => exact Or.inl (fun z => by cases z)
theorem pm_Ul (h : pm D (iwU P Q) H) : pm D P H := fun a f ha => h a f (iwU_l ha)
theorem pm_Ur (h : pm D (iwU P Q) H) (hd : dj P Q) : pm D Q H := fun a f ha => h a f (iwU_r2 hd ha)
theorem pm_U (h1 : pm D P H) (h2 : pm D Q H) : pm D (iwU P Q) H := fun a f ha => by
  cases hp : P a with
  | none => rw [iwU_r hp] at ha; exact h2 a f ha
  | some f' => rw [iwU_l hp] at ha; exact h1 a f (hp.trans ha)
theorem mD_Ul (h : mD A (iwU P Q)) : mD A P := fun q hq => h q (by
  cases hp : P q with
  | none => exact absurd hp hq
  | some f => rw [iwU_l hp]; exact fun z => by cases z)
theorem mD_Ur (h : mD A (iwU P Q)) (hd : dj P Q) : mD A Q := fun q hq => h q (by
  cases hp : Q q with
  | none => exact absurd hp hq
  | some f => rw [iwU_r2 hd hp]; exact fun z => by cases z)
theorem mD_U (h1 : mD A P) (h2 : mD A Q) : mD A (iwU P Q) := fun q hq => (iwU_ne hq).elim (h1 q) (h2 q)
theorem iwU_set (h : P q = none) : mset (iwU P Q) q e = iwU P (mset Q q e) := by
  funext a
  by_cases ea : a = q
  · rw [ea, mset_self, iwU_r h, mset_self]
  · rw [mset_ne ea]
    unfold iwU
    rw [mset_ne ea]
theorem dj.set (hd : dj P Q) (h : P q = none) : dj P (mset Q q e) := fun a ha => by
  rw [mset_ne (fun z => ha (by rw [z]; exact h))]
  exact hd a ha
theorem dj_U {R : mM} (h1 : dj P R) (h2 : dj Q R) : dj (iwU P Q) R := fun a ha => (iwU_ne ha).elim (h1 a) (h2 a)
end PU
/-- both halls -/
def TW (cy : Nat → ClassId) (de : Nat) (M : mM) (o t : Nat) (c : Nat → Nat) (x : Nat → Nat → Nat) : Prop := ∃ Mo Mt : mM, M = iwU Mo Mt ∧ dj Mo Mt ∧ hall cy de Mo o c x ∧ hall cy de Mt t c x
section TWS
variable {cy : Nat → ClassId} {de : Nat} {M N : mM} {o t : Nat} {c : Nat → Nat} {x : Nat → Nat → Nat}
theorem TW.ho (h : TW cy de M o t c x) : hall cy de M o c x := by
  obtain ⟨Mo, Mt, rfl, hd, h1, h2⟩ := h
  exact h1.sub (fun q e hq => iwU_l hq)
theorem TW.ht (h : TW cy de M o t c x) : hall cy de M t c x := by
  obtain ⟨Mo, Mt, rfl, hd, h1, h2⟩ := h
  exact h2.sub (fun q e hq => iwU_r2 hd hq)
theorem TW.ou (h : TW cy de M o t c x) : hall cy de (iwU M N) o c x := h.ho.sub (fun q e hq => iwU_l hq)
theorem TW.tu (h : TW cy de M o t c x) : hall cy de (iwU M N) t c x := h.ht.sub (fun q e hq => iwU_l hq)
end TWS
abbrev rmD : Room := { frames := 8, cells := 12, slots := 120, locals := 204 }
abbrev rmC : Room := { frames := 9, cells := 12, slots := 120, locals := 228 }
abbrev rmB : Room := { frames := 10, cells := 24, slots := 240, locals := 253 }
/-- what 'call' leaves -/
def callP (post : Int32 → mM → Prop) (postX : String → Prop) (M : mM) : Int32 → mM → Prop := fun r M' => post r M' ∨ (M' = M ∧ ((postX xIO ∧ r = zI (-2000000001)) ∨ (postX xIA ∧ r = zI (-2000000002)) ∨ (postX xIS ∧ r = zI (-2000000003))))

set_option maxRecDepth 100000 in
set_option maxHeartbeats 4000000 in
theorem d_stroke (l : Launch) (de mi : Nat) (D : va_G) (cy : Nat → ClassId) (M : mM) (sz a : Nat) (fs : List Value) (x1 x2 x3 : Int32) (post : Int32 → mM → Prop) (postX : String → Prop) (ha : M a = some (.inr (6, fs))) (hcal : ∀ sz : Nat, mVi l yX5_stroke wsX5_stroke ({ frames := 7, cells := 4, slots := 24, locals := 102 } : Room) de mi D cy M sz [.ref a, .int x1, .int x2] post postX 4 24) : mVi l yL_does wsL_does rmD de mi D cy M sz [.ref a, .int (nI 0), .int x1, .int x2, .int x3] post postX 12 120 := by
  refine mV.of (cc := cL_does) (maxL := 5) (ret := some .int) (by decide) rfl (Nat.le_of_ble_eq_true rfl) ?_
  intro p e s m args below meth c ls hsz hx hb hr hts hown hlocks hml hout hname hP hD hS hA hK hX hl
  have hl : lv_has ls 5 [(0, .ref a), (1, .int (nI 0)), (2, .int x1), (3, .int x2), (4, .int x3)] := hl
  have hown : s.vm.findClass RL = some m.cls := hown
  refine lv_iload_n hx hb dL_does_0 rfl (lv_at hl 1 rfl) ?_
  refine lv_tableIn (off := 87) (tgt := 88) hx hb dL_does_1 (by decide) (by decide) (by decide +kernel) (by decide) ?_
  refine lv_aload_n hx hb dL_does_88 rfl (lv_at hl 0 rfl) ?_
  refine lv_iload_n hx hb dL_does_89 rfl (lv_at hl 2 rfl) ?_
  refine lv_iload_n hx hb dL_does_90 rfl (lv_at hl 3 rfl) ?_
  refine x_calli (vx_runV (C := RX5) (As := [.int x1, .int x2]) (rest := []) ⟨hx, hb, hml, hown, hts⟩ (hcal _) (cwV 2 hts gL_does_X5_stroke rfl rfl rfl (by decide +kernel) ⟨Nat.le_of_ble_eq_true rfl, Nat.le_of_ble_eq_true rfl⟩) (mPreXV hX hD hS hA hK hP ha (ci := 6) rfl) rfl rfl hl.1 rfl (lv_room (Nat.le_of_ble_eq_true rfl)) dL_does_91 ⟨Nat.le_of_ble_eq_true rfl, Nat.le_of_ble_eq_true rfl⟩) hD hA hS hout hlocks (fun _ h => h) (Nat.le_of_ble_eq_true rfl) (Nat.le_of_ble_eq_true rfl) (fun r M1 H1 locs1 hq9 hP1 hD1 hS1 hz9 => ?_)
  exact vx_ret (e_wi hx hb hr hlocks hP1 hD1 hS1 hq9 dL_does_94)
set_option maxRecDepth 100000 in
set_option maxHeartbeats 4000000 in
theorem d_lift (l : Launch) (de mi : Nat) (D : va_G) (cy : Nat → ClassId) (M : mM) (sz a : Nat) (fs : List Value) (x1 x2 x3 : Int32) (post : Int32 → mM → Prop) (postX : String → Prop) (ha : M a = some (.inr (6, fs))) (hcal : ∀ sz : Nat, mWi l yX5_lift wsX5_lift ({ frames := 1, cells := 0, slots := 0, locals := 20 } : Room) D cy M sz [.ref a] post 0 0) : mVi l yL_does wsL_does rmD de mi D cy M sz [.ref a, .int (nI 1), .int x1, .int x2, .int x3] post postX 12 120 := by
  refine mV.of (cc := cL_does) (maxL := 5) (ret := some .int) (by decide) rfl (Nat.le_of_ble_eq_true rfl) ?_
  intro p e s m args below meth c ls hsz hx hb hr hts hown hlocks hml hout hname hP hD hS hA hK hX hl
  have hl : lv_has ls 5 [(0, .ref a), (1, .int (nI 1)), (2, .int x1), (3, .int x2), (4, .int x3)] := hl
  have hown : s.vm.findClass RL = some m.cls := hown
  refine lv_iload_n hx hb dL_does_0 rfl (lv_at hl 1 rfl) ?_
  refine lv_tableIn (off := 94) (tgt := 95) hx hb dL_does_1 (by decide) (by decide) (by decide +kernel) (by decide) ?_
  refine lv_aload_n hx hb dL_does_95 rfl (lv_at hl 0 rfl) ?_
  refine m_calli (va_runV (C := RX5) (As := []) (rest := []) ⟨hx, hb, hml, hown, hts⟩ (hcal _) (cwV 0 hts gL_does_X5_lift rfl rfl rfl (by decide +kernel) ⟨Nat.le_of_ble_eq_true rfl, Nat.le_of_ble_eq_true rfl⟩) (mPreWV hK hP ha (ci := 6) rfl) rfl rfl hl.1 rfl (lv_room (Nat.le_of_ble_eq_true rfl)) dL_does_96 ⟨Nat.le_of_ble_eq_true rfl, Nat.le_of_ble_eq_true rfl⟩) hD hA hS (fun r M1 H1 locs1 hq9 hP1 hD1 hS1 hz9 hd9 hk9 => ?_)
  exact vx_ret (e_wi hx hb hr hlocks hP1 hD1 hS1 hq9 dL_does_99)
set_option maxRecDepth 100000 in
set_option maxHeartbeats 4000000 in
theorem d_letter (l : Launch) (de mi : Nat) (D : va_G) (cy : Nat → ClassId) (M : mM) (sz a : Nat) (fs : List Value) (x1 x2 x3 : Int32) (post : Int32 → mM → Prop) (postX : String → Prop) (ha : M a = some (.inr (6, fs))) (hcal : ∀ sz : Nat, mVi l yX5_letter wsX5_letter ({ frames := 7, cells := 4, slots := 90, locals := 178 } : Room) de mi D cy M sz [.ref a] post postX 4 90) : mVi l yL_does wsL_does rmD de mi D cy M sz [.ref a, .int (nI 2), .int x1, .int x2, .int x3] post postX 12 120 := by
  refine mV.of (cc := cL_does) (maxL := 5) (ret := some .int) (by decide) rfl (Nat.le_of_ble_eq_true rfl) ?_
  intro p e s m args below meth c ls hsz hx hb hr hts hown hlocks hml hout hname hP hD hS hA hK hX hl
  have hl : lv_has ls 5 [(0, .ref a), (1, .int (nI 2)), (2, .int x1), (3, .int x2), (4, .int x3)] := hl
  have hown : s.vm.findClass RL = some m.cls := hown
  refine lv_iload_n hx hb dL_does_0 rfl (lv_at hl 1 rfl) ?_
  refine lv_tableIn (off := 99) (tgt := 100) hx hb dL_does_1 (by decide) (by decide) (by decide +kernel) (by decide) ?_
  refine lv_aload_n hx hb dL_does_100 rfl (lv_at hl 0 rfl) ?_
  refine x_calli (vx_runV (C := RX5) (As := []) (rest := []) ⟨hx, hb, hml, hown, hts⟩ (hcal _) (cwV 0 hts gL_does_X5_letter rfl rfl rfl (by decide +kernel) ⟨Nat.le_of_ble_eq_true rfl, Nat.le_of_ble_eq_true rfl⟩) (mPreXV hX hD hS hA hK hP ha (ci := 6) rfl) rfl rfl hl.1 rfl (lv_room (Nat.le_of_ble_eq_true rfl)) dL_does_101 ⟨Nat.le_of_ble_eq_true rfl, Nat.le_of_ble_eq_true rfl⟩) hD hA hS hout hlocks (fun _ h => h) (Nat.le_of_ble_eq_true rfl) (Nat.le_of_ble_eq_true rfl) (fun r M1 H1 locs1 hq9 hP1 hD1 hS1 hz9 => ?_)
  exact vx_ret (e_wi hx hb hr hlocks hP1 hD1 hS1 hq9 dL_does_104)
set_option maxRecDepth 100000 in
set_option maxHeartbeats 4000000 in
theorem d_strokeOf (l : Launch) (de mi : Nat) (D : va_G) (cy : Nat → ClassId) (M : mM) (sz a : Nat) (fs : List Value) (x1 x2 x3 : Int32) (post : Int32 → mM → Prop) (postX : String → Prop) (ha : M a = some (.inr (6, fs))) (hcal : ∀ sz : Nat, mVi l yX5_strokeOf wsX5_strokeOf ({ frames := 7, cells := 4, slots := 24, locals := 103 } : Room) de mi D cy M sz [.ref a, .int x1, .int x2] post postX 4 24) : mVi l yL_does wsL_does rmD de mi D cy M sz [.ref a, .int (nI 3), .int x1, .int x2, .int x3] post postX 12 120 := by
  refine mV.of (cc := cL_does) (maxL := 5) (ret := some .int) (by decide) rfl (Nat.le_of_ble_eq_true rfl) ?_
  intro p e s m args below meth c ls hsz hx hb hr hts hown hlocks hml hout hname hP hD hS hA hK hX hl
  have hl : lv_has ls 5 [(0, .ref a), (1, .int (nI 3)), (2, .int x1), (3, .int x2), (4, .int x3)] := hl
  have hown : s.vm.findClass RL = some m.cls := hown
  refine lv_iload_n hx hb dL_does_0 rfl (lv_at hl 1 rfl) ?_
  refine lv_tableIn (off := 104) (tgt := 105) hx hb dL_does_1 (by decide) (by decide) (by decide +kernel) (by decide) ?_
  refine lv_aload_n hx hb dL_does_105 rfl (lv_at hl 0 rfl) ?_
  refine lv_iload_n hx hb dL_does_106 rfl (lv_at hl 2 rfl) ?_
  refine lv_iload_n hx hb dL_does_107 rfl (lv_at hl 3 rfl) ?_
  refine x_calli (vx_runV (C := RX5) (As := [.int x1, .int x2]) (rest := []) ⟨hx, hb, hml, hown, hts⟩ (hcal _) (cwV 2 hts gL_does_X5_strokeOf rfl rfl rfl (by decide +kernel) ⟨Nat.le_of_ble_eq_true rfl, Nat.le_of_ble_eq_true rfl⟩) (mPreXV hX hD hS hA hK hP ha (ci := 6) rfl) rfl rfl hl.1 rfl (lv_room (Nat.le_of_ble_eq_true rfl)) dL_does_108 ⟨Nat.le_of_ble_eq_true rfl, Nat.le_of_ble_eq_true rfl⟩) hD hA hS hout hlocks (fun _ h => h) (Nat.le_of_ble_eq_true rfl) (Nat.le_of_ble_eq_true rfl) (fun r M1 H1 locs1 hq9 hP1 hD1 hS1 hz9 => ?_)
  exact vx_ret (e_wi hx hb hr hlocks hP1 hD1 hS1 hq9 dL_does_111)
set_option maxRecDepth 100000 in
set_option maxHeartbeats 4000000 in
theorem d_pupil (l : Launch) (de mi : Nat) (D : va_G) (cy : Nat → ClassId) (M : mM) (sz a : Nat) (fs : List Value) (x1 x2 x3 : Int32) (post : Int32 → mM → Prop) (postX : String → Prop) (ha : M a = some (.inr (6, fs))) (hcal : ∀ sz : Nat, mVi l yX5_pupil wsX5_pupil ({ frames := 7, cells := 4, slots := 90, locals := 178 } : Room) de mi D cy M sz [.ref a, .int x1, .int x2, .int (nI (b2 (decide (x3.toInt = 1))))] post postX 4 90) : mVi l yL_does wsL_does rmD de mi D cy M sz [.ref a, .int (nI 4), .int x1, .int x2, .int x3] post postX 12 120 := by
  refine mV.of (cc := cL_does) (maxL := 5) (ret := some .int) (by decide) rfl (Nat.le_of_ble_eq_true rfl) ?_
  intro p e s m args below meth c ls hsz hx hb hr hts hown hlocks hml hout hname hP hD hS hA hK hX hl
  have hl : lv_has ls 5 [(0, .ref a), (1, .int (nI 4)), (2, .int x1), (3, .int x2), (4, .int x3)] := hl
  have hown : s.vm.findClass RL = some m.cls := hown
  refine lv_iload_n hx hb dL_does_0 rfl (lv_at hl 1 rfl) ?_
  refine lv_tableIn (off := 111) (tgt := 112) hx hb dL_does_1 (by decide) (by decide) (by decide +kernel) (by decide) ?_
  refine lv_aload_n hx hb dL_does_112 rfl (lv_at hl 0 rfl) ?_
  refine lv_iload_n hx hb dL_does_113 rfl (lv_at hl 2 rfl) ?_
  refine lv_iload_n hx hb dL_does_114 rfl (lv_at hl 3 rfl) ?_
  refine lv_iload hx hb dL_does_115 (lv_at hl 4 rfl) ?_
  refine lv_iconst (v := nI 1) hx hb dL_does_117 (by decide) ?_
  refine z_icmp_ne (u := x3.toInt) (v := 1) (tgt := 125) hx hb rfl (by decide) dL_does_118 (by decide) (fun h9 => ?_) (fun h9 => ?_)
  · have hcal2 : ∀ sz : Nat, mVi l yX5_pupil wsX5_pupil ({ frames := 7, cells := 4, slots := 90, locals := 178 } : Room) de mi D cy M sz [.ref a, .int x1, .int x2, .int (nI 0)] post postX 4 90 := fun sz => by
      have h8 := hcal sz
      rw [decide_eq_false h9] at h8
      exact h8
    refine lv_iconst (v := nI 0) hx hb dL_does_125 (by decide) ?_
    refine x_calli (vx_runV (C := RX5) (As := [.int x1, .int x2, .int (nI 0)]) (rest := []) ⟨hx, hb, hml, hown, hts⟩ (hcal2 _) (cwV 3 hts gL_does_X5_pupil rfl rfl rfl (by decide +kernel) ⟨Nat.le_of_ble_eq_true rfl, Nat.le_of_ble_eq_true rfl⟩) (mPreXV hX hD hS hA hK hP ha (ci := 6) rfl) rfl rfl hl.1 rfl (lv_room (Nat.le_of_ble_eq_true rfl)) dL_does_126 ⟨Nat.le_of_ble_eq_true rfl, Nat.le_of_ble_eq_true rfl⟩) hD hA hS hout hlocks (fun _ h => h) (Nat.le_of_ble_eq_true rfl) (Nat.le_of_ble_eq_true rfl) (fun r M1 H1 locs1 hq9 hP1 hD1 hS1 hz9 => ?_)
    exact vx_ret (e_wi hx hb hr hlocks hP1 hD1 hS1 hq9 dL_does_129)
  · have hcal2 : ∀ sz : Nat, mVi l yX5_pupil wsX5_pupil ({ frames := 7, cells := 4, slots := 90, locals := 178 } : Room) de mi D cy M sz [.ref a, .int x1, .int x2, .int (nI 1)] post postX 4 90 := fun sz => by
      have h8 := hcal sz
      rw [decide_eq_true h9] at h8
      exact h8
    refine lv_iconst (v := nI 1) hx hb dL_does_121 (by decide) ?_
    refine lv_goto (tgt := 126) hx hb dL_does_122 (by decide) ?_
    refine x_calli (vx_runV (C := RX5) (As := [.int x1, .int x2, .int (nI 1)]) (rest := []) ⟨hx, hb, hml, hown, hts⟩ (hcal2 _) (cwV 3 hts gL_does_X5_pupil rfl rfl rfl (by decide +kernel) ⟨Nat.le_of_ble_eq_true rfl, Nat.le_of_ble_eq_true rfl⟩) (mPreXV hX hD hS hA hK hP ha (ci := 6) rfl) rfl rfl hl.1 rfl (lv_room (Nat.le_of_ble_eq_true rfl)) dL_does_126 ⟨Nat.le_of_ble_eq_true rfl, Nat.le_of_ble_eq_true rfl⟩) hD hA hS hout hlocks (fun _ h => h) (Nat.le_of_ble_eq_true rfl) (Nat.le_of_ble_eq_true rfl) (fun r M1 H1 locs1 hq9 hP1 hD1 hS1 hz9 => ?_)
    exact vx_ret (e_wi hx hb hr hlocks hP1 hD1 hS1 hq9 dL_does_129)
set_option maxRecDepth 100000 in
set_option maxHeartbeats 4000000 in
theorem d_print (l : Launch) (de mi : Nat) (D : va_G) (cy : Nat → ClassId) (M : mM) (sz a : Nat) (fs : List Value) (x1 x2 x3 : Int32) (post : Int32 → mM → Prop) (postX : String → Prop) (ha : M a = some (.inr (6, fs))) (hcal : ∀ sz : Nat, mVi l yX5_print wsX5_print ({ frames := 7, cells := 4, slots := 24, locals := 102 } : Room) de mi D cy M sz [.ref a, .int x1, .int (nI (b2 (decide (x2.toInt = 1)))), .int x3] post postX 4 24) : mVi l yL_does wsL_does rmD de mi D cy M sz [.ref a, .int (nI 5), .int x1, .int x2, .int x3] post postX 12 120 := by
  refine mV.of (cc := cL_does) (maxL := 5) (ret := some .int) (by decide) rfl (Nat.le_of_ble_eq_true rfl) ?_
  intro p e s m args below meth c ls hsz hx hb hr hts hown hlocks hml hout hname hP hD hS hA hK hX hl
  have hl : lv_has ls 5 [(0, .ref a), (1, .int (nI 5)), (2, .int x1), (3, .int x2), (4, .int x3)] := hl
  have hown : s.vm.findClass RL = some m.cls := hown
  refine lv_iload_n hx hb dL_does_0 rfl (lv_at hl 1 rfl) ?_
  refine lv_tableIn (off := 129) (tgt := 130) hx hb dL_does_1 (by decide) (by decide) (by decide +kernel) (by decide) ?_
  refine lv_aload_n hx hb dL_does_130 rfl (lv_at hl 0 rfl) ?_
  refine lv_iload_n hx hb dL_does_131 rfl (lv_at hl 2 rfl) ?_
  refine lv_iload_n hx hb dL_does_132 rfl (lv_at hl 3 rfl) ?_
  refine lv_iconst (v := nI 1) hx hb dL_does_133 (by decide) ?_
  refine z_icmp_ne (u := x2.toInt) (v := 1) (tgt := 141) hx hb rfl (by decide) dL_does_134 (by decide) (fun h9 => ?_) (fun h9 => ?_)
  · have hcal2 : ∀ sz : Nat, mVi l yX5_print wsX5_print ({ frames := 7, cells := 4, slots := 24, locals := 102 } : Room) de mi D cy M sz [.ref a, .int x1, .int (nI 0), .int x3] post postX 4 24 := fun sz => by
      have h8 := hcal sz
      rw [decide_eq_false h9] at h8
      exact h8
    refine lv_iconst (v := nI 0) hx hb dL_does_141 (by decide) ?_
    refine lv_iload hx hb dL_does_142 (lv_at hl 4 rfl) ?_
    refine x_calli (vx_runV (C := RX5) (As := [.int x1, .int (nI 0), .int x3]) (rest := []) ⟨hx, hb, hml, hown, hts⟩ (hcal2 _) (cwV 3 hts gL_does_X5_print rfl rfl rfl (by decide +kernel) ⟨Nat.le_of_ble_eq_true rfl, Nat.le_of_ble_eq_true rfl⟩) (mPreXV hX hD hS hA hK hP ha (ci := 6) rfl) rfl rfl hl.1 rfl (lv_room (Nat.le_of_ble_eq_true rfl)) dL_does_144 ⟨Nat.le_of_ble_eq_true rfl, Nat.le_of_ble_eq_true rfl⟩) hD hA hS hout hlocks (fun _ h => h) (Nat.le_of_ble_eq_true rfl) (Nat.le_of_ble_eq_true rfl) (fun r M1 H1 locs1 hq9 hP1 hD1 hS1 hz9 => ?_)
    exact vx_ret (e_wi hx hb hr hlocks hP1 hD1 hS1 hq9 dL_does_147)
  · have hcal2 : ∀ sz : Nat, mVi l yX5_print wsX5_print ({ frames := 7, cells := 4, slots := 24, locals := 102 } : Room) de mi D cy M sz [.ref a, .int x1, .int (nI 1), .int x3] post postX 4 24 := fun sz => by
      have h8 := hcal sz
      rw [decide_eq_true h9] at h8
      exact h8
    refine lv_iconst (v := nI 1) hx hb dL_does_137 (by decide) ?_
    refine lv_goto (tgt := 142) hx hb dL_does_138 (by decide) ?_
    refine lv_iload hx hb dL_does_142 (lv_at hl 4 rfl) ?_
    refine x_calli (vx_runV (C := RX5) (As := [.int x1, .int (nI 1), .int x3]) (rest := []) ⟨hx, hb, hml, hown, hts⟩ (hcal2 _) (cwV 3 hts gL_does_X5_print rfl rfl rfl (by decide +kernel) ⟨Nat.le_of_ble_eq_true rfl, Nat.le_of_ble_eq_true rfl⟩) (mPreXV hX hD hS hA hK hP ha (ci := 6) rfl) rfl rfl hl.1 rfl (lv_room (Nat.le_of_ble_eq_true rfl)) dL_does_144 ⟨Nat.le_of_ble_eq_true rfl, Nat.le_of_ble_eq_true rfl⟩) hD hA hS hout hlocks (fun _ h => h) (Nat.le_of_ble_eq_true rfl) (Nat.le_of_ble_eq_true rfl) (fun r M1 H1 locs1 hq9 hP1 hD1 hS1 hz9 => ?_)
    exact vx_ret (e_wi hx hb hr hlocks hP1 hD1 hS1 hq9 dL_does_147)
set_option maxRecDepth 100000 in
set_option maxHeartbeats 4000000 in
theorem d_sheets (l : Launch) (de mi : Nat) (D : va_G) (cy : Nat → ClassId) (M : mM) (sz a : Nat) (fs : List Value) (x1 x2 x3 : Int32) (post : Int32 → mM → Prop) (postX : String → Prop) (ha : M a = some (.inr (6, fs))) (hcal : ∀ sz : Nat, mVi l yX5_sheets wsX5_sheets ({ frames := 7, cells := 1, slots := 6, locals := 102 } : Room) de mi D cy M sz [.ref a, .int x1, .int (nI (b2 (decide (x2.toInt = 1))))] post postX 1 6) : mVi l yL_does wsL_does rmD de mi D cy M sz [.ref a, .int (nI 6), .int x1, .int x2, .int x3] post postX 12 120 := by
  refine mV.of (cc := cL_does) (maxL := 5) (ret := some .int) (by decide) rfl (Nat.le_of_ble_eq_true rfl) ?_
  intro p e s m args below meth c ls hsz hx hb hr hts hown hlocks hml hout hname hP hD hS hA hK hX hl
  have hl : lv_has ls 5 [(0, .ref a), (1, .int (nI 6)), (2, .int x1), (3, .int x2), (4, .int x3)] := hl
  have hown : s.vm.findClass RL = some m.cls := hown
  refine lv_iload_n hx hb dL_does_0 rfl (lv_at hl 1 rfl) ?_
  refine lv_tableIn (off := 147) (tgt := 148) hx hb dL_does_1 (by decide) (by decide) (by decide +kernel) (by decide) ?_
  refine lv_aload_n hx hb dL_does_148 rfl (lv_at hl 0 rfl) ?_
  refine lv_iload_n hx hb dL_does_149 rfl (lv_at hl 2 rfl) ?_
  refine lv_iload_n hx hb dL_does_150 rfl (lv_at hl 3 rfl) ?_
  refine lv_iconst (v := nI 1) hx hb dL_does_151 (by decide) ?_
  refine z_icmp_ne (u := x2.toInt) (v := 1) (tgt := 159) hx hb rfl (by decide) dL_does_152 (by decide) (fun h9 => ?_) (fun h9 => ?_)
  · have hcal2 : ∀ sz : Nat, mVi l yX5_sheets wsX5_sheets ({ frames := 7, cells := 1, slots := 6, locals := 102 } : Room) de mi D cy M sz [.ref a, .int x1, .int (nI 0)] post postX 1 6 := fun sz => by
      have h8 := hcal sz
      rw [decide_eq_false h9] at h8
      exact h8
    refine lv_iconst (v := nI 0) hx hb dL_does_159 (by decide) ?_
    refine x_calli (vx_runV (C := RX5) (As := [.int x1, .int (nI 0)]) (rest := []) ⟨hx, hb, hml, hown, hts⟩ (hcal2 _) (cwV 2 hts gL_does_X5_sheets rfl rfl rfl (by decide +kernel) ⟨Nat.le_of_ble_eq_true rfl, Nat.le_of_ble_eq_true rfl⟩) (mPreXV hX hD hS hA hK hP ha (ci := 6) rfl) rfl rfl hl.1 rfl (lv_room (Nat.le_of_ble_eq_true rfl)) dL_does_160 ⟨Nat.le_of_ble_eq_true rfl, Nat.le_of_ble_eq_true rfl⟩) hD hA hS hout hlocks (fun _ h => h) (Nat.le_of_ble_eq_true rfl) (Nat.le_of_ble_eq_true rfl) (fun r M1 H1 locs1 hq9 hP1 hD1 hS1 hz9 => ?_)
    exact vx_ret (e_wi hx hb hr hlocks hP1 hD1 hS1 hq9 dL_does_163)
  · have hcal2 : ∀ sz : Nat, mVi l yX5_sheets wsX5_sheets ({ frames := 7, cells := 1, slots := 6, locals := 102 } : Room) de mi D cy M sz [.ref a, .int x1, .int (nI 1)] post postX 1 6 := fun sz => by
      have h8 := hcal sz
      rw [decide_eq_true h9] at h8
      exact h8
    refine lv_iconst (v := nI 1) hx hb dL_does_155 (by decide) ?_
    refine lv_goto (tgt := 160) hx hb dL_does_156 (by decide) ?_
    refine x_calli (vx_runV (C := RX5) (As := [.int x1, .int (nI 1)]) (rest := []) ⟨hx, hb, hml, hown, hts⟩ (hcal2 _) (cwV 2 hts gL_does_X5_sheets rfl rfl rfl (by decide +kernel) ⟨Nat.le_of_ble_eq_true rfl, Nat.le_of_ble_eq_true rfl⟩) (mPreXV hX hD hS hA hK hP ha (ci := 6) rfl) rfl rfl hl.1 rfl (lv_room (Nat.le_of_ble_eq_true rfl)) dL_does_160 ⟨Nat.le_of_ble_eq_true rfl, Nat.le_of_ble_eq_true rfl⟩) hD hA hS hout hlocks (fun _ h => h) (Nat.le_of_ble_eq_true rfl) (Nat.le_of_ble_eq_true rfl) (fun r M1 H1 locs1 hq9 hP1 hD1 hS1 hz9 => ?_)
    exact vx_ret (e_wi hx hb hr hlocks hP1 hD1 hS1 hq9 dL_does_163)
set_option maxRecDepth 100000 in
set_option maxHeartbeats 4000000 in
theorem d_write (l : Launch) (de mi : Nat) (D : va_G) (cy : Nat → ClassId) (M : mM) (sz a : Nat) (fs : List Value) (x1 x2 x3 : Int32) (post : Int32 → mM → Prop) (postX : String → Prop) (ha : M a = some (.inr (6, fs))) (hcal : ∀ sz : Nat, mVi l yX5_write wsX5_write ({ frames := 7, cells := 12, slots := 120, locals := 178 } : Room) de mi D cy M sz [.ref a, .int x1, .int x2] post postX 12 120) : mVi l yL_does wsL_does rmD de mi D cy M sz [.ref a, .int (nI 7), .int x1, .int x2, .int x3] post postX 12 120 := by
  refine mV.of (cc := cL_does) (maxL := 5) (ret := some .int) (by decide) rfl (Nat.le_of_ble_eq_true rfl) ?_
  intro p e s m args below meth c ls hsz hx hb hr hts hown hlocks hml hout hname hP hD hS hA hK hX hl
  have hl : lv_has ls 5 [(0, .ref a), (1, .int (nI 7)), (2, .int x1), (3, .int x2), (4, .int x3)] := hl
  have hown : s.vm.findClass RL = some m.cls := hown
  refine lv_iload_n hx hb dL_does_0 rfl (lv_at hl 1 rfl) ?_
  refine lv_tableIn (off := 163) (tgt := 164) hx hb dL_does_1 (by decide) (by decide) (by decide +kernel) (by decide) ?_
  refine lv_aload_n hx hb dL_does_164 rfl (lv_at hl 0 rfl) ?_
  refine lv_iload_n hx hb dL_does_165 rfl (lv_at hl 2 rfl) ?_
  refine lv_iload_n hx hb dL_does_166 rfl (lv_at hl 3 rfl) ?_
  refine x_calli (vx_runV (C := RX5) (As := [.int x1, .int x2]) (rest := []) ⟨hx, hb, hml, hown, hts⟩ (hcal _) (cwV 2 hts gL_does_X5_write rfl rfl rfl (by decide +kernel) ⟨Nat.le_of_ble_eq_true rfl, Nat.le_of_ble_eq_true rfl⟩) (mPreXV hX hD hS hA hK hP ha (ci := 6) rfl) rfl rfl hl.1 rfl (lv_room (Nat.le_of_ble_eq_true rfl)) dL_does_167 ⟨Nat.le_of_ble_eq_true rfl, Nat.le_of_ble_eq_true rfl⟩) hD hA hS hout hlocks (fun _ h => h) (Nat.le_of_ble_eq_true rfl) (Nat.le_of_ble_eq_true rfl) (fun r M1 H1 locs1 hq9 hP1 hD1 hS1 hz9 => ?_)
  exact vx_ret (e_wi hx hb hr hlocks hP1 hD1 hS1 hq9 dL_does_170)
set_option maxRecDepth 100000 in
set_option maxHeartbeats 4000000 in
theorem d_slips (l : Launch) (de mi : Nat) (D : va_G) (cy : Nat → ClassId) (M : mM) (sz a : Nat) (fs : List Value) (x1 x2 x3 : Int32) (post : Int32 → mM → Prop) (postX : String → Prop) (ha : M a = some (.inr (6, fs))) (hcal : ∀ sz : Nat, mVi l yX5_slips wsX5_slips ({ frames := 7, cells := 4, slots := 24, locals := 103 } : Room) de mi D cy M sz [.ref a, .int x1, .int x2] post postX 4 24) : mVi l yL_does wsL_does rmD de mi D cy M sz [.ref a, .int (nI 8), .int x1, .int x2, .int x3] post postX 12 120 := by
  refine mV.of (cc := cL_does) (maxL := 5) (ret := some .int) (by decide) rfl (Nat.le_of_ble_eq_true rfl) ?_
  intro p e s m args below meth c ls hsz hx hb hr hts hown hlocks hml hout hname hP hD hS hA hK hX hl
  have hl : lv_has ls 5 [(0, .ref a), (1, .int (nI 8)), (2, .int x1), (3, .int x2), (4, .int x3)] := hl
  have hown : s.vm.findClass RL = some m.cls := hown
  refine lv_iload_n hx hb dL_does_0 rfl (lv_at hl 1 rfl) ?_
  refine lv_tableIn (off := 170) (tgt := 171) hx hb dL_does_1 (by decide) (by decide) (by decide +kernel) (by decide) ?_
  refine lv_aload_n hx hb dL_does_171 rfl (lv_at hl 0 rfl) ?_
  refine lv_iload_n hx hb dL_does_172 rfl (lv_at hl 2 rfl) ?_
  refine lv_iload_n hx hb dL_does_173 rfl (lv_at hl 3 rfl) ?_
  refine x_calli (vx_runV (C := RX5) (As := [.int x1, .int x2]) (rest := []) ⟨hx, hb, hml, hown, hts⟩ (hcal _) (cwV 2 hts gL_does_X5_slips rfl rfl rfl (by decide +kernel) ⟨Nat.le_of_ble_eq_true rfl, Nat.le_of_ble_eq_true rfl⟩) (mPreXV hX hD hS hA hK hP ha (ci := 6) rfl) rfl rfl hl.1 rfl (lv_room (Nat.le_of_ble_eq_true rfl)) dL_does_174 ⟨Nat.le_of_ble_eq_true rfl, Nat.le_of_ble_eq_true rfl⟩) hD hA hS hout hlocks (fun _ h => h) (Nat.le_of_ble_eq_true rfl) (Nat.le_of_ble_eq_true rfl) (fun r M1 H1 locs1 hq9 hP1 hD1 hS1 hz9 => ?_)
  exact vx_ret (e_wi hx hb hr hlocks hP1 hD1 hS1 hq9 dL_does_177)
set_option maxRecDepth 100000 in
set_option maxHeartbeats 4000000 in
theorem d_orderAnew (l : Launch) (de mi : Nat) (D : va_G) (cy : Nat → ClassId) (M : mM) (sz a : Nat) (fs : List Value) (x1 x2 x3 : Int32) (post : Int32 → mM → Prop) (postX : String → Prop) (ha : M a = some (.inr (6, fs))) (hcal : ∀ sz : Nat, mVi l yX5_orderAnew wsX5_orderAnew ({ frames := 7, cells := 1, slots := 6, locals := 103 } : Room) de mi D cy M sz [.ref a, .int x1] post postX 1 6) : mVi l yL_does wsL_does rmD de mi D cy M sz [.ref a, .int (nI 9), .int x1, .int x2, .int x3] post postX 12 120 := by
  refine mV.of (cc := cL_does) (maxL := 5) (ret := some .int) (by decide) rfl (Nat.le_of_ble_eq_true rfl) ?_
  intro p e s m args below meth c ls hsz hx hb hr hts hown hlocks hml hout hname hP hD hS hA hK hX hl
  have hl : lv_has ls 5 [(0, .ref a), (1, .int (nI 9)), (2, .int x1), (3, .int x2), (4, .int x3)] := hl
  have hown : s.vm.findClass RL = some m.cls := hown
  refine lv_iload_n hx hb dL_does_0 rfl (lv_at hl 1 rfl) ?_
  refine lv_tableIn (off := 177) (tgt := 178) hx hb dL_does_1 (by decide) (by decide) (by decide +kernel) (by decide) ?_
  refine lv_aload_n hx hb dL_does_178 rfl (lv_at hl 0 rfl) ?_
  refine lv_iload_n hx hb dL_does_179 rfl (lv_at hl 2 rfl) ?_
  refine x_calli (vx_runV (C := RX5) (As := [.int x1]) (rest := []) ⟨hx, hb, hml, hown, hts⟩ (hcal _) (cwV 1 hts gL_does_X5_orderAnew rfl rfl rfl (by decide +kernel) ⟨Nat.le_of_ble_eq_true rfl, Nat.le_of_ble_eq_true rfl⟩) (mPreXV hX hD hS hA hK hP ha (ci := 6) rfl) rfl rfl hl.1 rfl (lv_room (Nat.le_of_ble_eq_true rfl)) dL_does_180 ⟨Nat.le_of_ble_eq_true rfl, Nat.le_of_ble_eq_true rfl⟩) hD hA hS hout hlocks (fun _ h => h) (Nat.le_of_ble_eq_true rfl) (Nat.le_of_ble_eq_true rfl) (fun r M1 H1 locs1 hq9 hP1 hD1 hS1 hz9 => ?_)
  exact vx_ret (e_wi hx hb hr hlocks hP1 hD1 hS1 hq9 dL_does_183)
set_option maxRecDepth 100000 in
set_option maxHeartbeats 4000000 in
theorem d_mark (l : Launch) (de mi : Nat) (D : va_G) (cy : Nat → ClassId) (M : mM) (sz a : Nat) (fs : List Value) (x1 x2 x3 : Int32) (post : Int32 → mM → Prop) (postX : String → Prop) (ha : M a = some (.inr (6, fs))) (hcal : ∀ sz : Nat, mVi l yX5_mark wsX5_mark ({ frames := 7, cells := 4, slots := 24, locals := 103 } : Room) de mi D cy M sz [.ref a, .int x1, .int x2, .int x3] post postX 4 24) : mVi l yL_does wsL_does rmD de mi D cy M sz [.ref a, .int (nI 10), .int x1, .int x2, .int x3] post postX 12 120 := by
  refine mV.of (cc := cL_does) (maxL := 5) (ret := some .int) (by decide) rfl (Nat.le_of_ble_eq_true rfl) ?_
  intro p e s m args below meth c ls hsz hx hb hr hts hown hlocks hml hout hname hP hD hS hA hK hX hl
  have hl : lv_has ls 5 [(0, .ref a), (1, .int (nI 10)), (2, .int x1), (3, .int x2), (4, .int x3)] := hl
  have hown : s.vm.findClass RL = some m.cls := hown
  refine lv_iload_n hx hb dL_does_0 rfl (lv_at hl 1 rfl) ?_
  refine lv_tableIn (off := 183) (tgt := 184) hx hb dL_does_1 (by decide) (by decide) (by decide +kernel) (by decide) ?_
  refine lv_aload_n hx hb dL_does_184 rfl (lv_at hl 0 rfl) ?_
  refine lv_iload_n hx hb dL_does_185 rfl (lv_at hl 2 rfl) ?_
  refine lv_iload_n hx hb dL_does_186 rfl (lv_at hl 3 rfl) ?_
  refine lv_iload hx hb dL_does_187 (lv_at hl 4 rfl) ?_
  refine x_calli (vx_runV (C := RX5) (As := [.int x1, .int x2, .int x3]) (rest := []) ⟨hx, hb, hml, hown, hts⟩ (hcal _) (cwV 3 hts gL_does_X5_mark rfl rfl rfl (by decide +kernel) ⟨Nat.le_of_ble_eq_true rfl, Nat.le_of_ble_eq_true rfl⟩) (mPreXV hX hD hS hA hK hP ha (ci := 6) rfl) rfl rfl hl.1 rfl (lv_room (Nat.le_of_ble_eq_true rfl)) dL_does_189 ⟨Nat.le_of_ble_eq_true rfl, Nat.le_of_ble_eq_true rfl⟩) hD hA hS hout hlocks (fun _ h => h) (Nat.le_of_ble_eq_true rfl) (Nat.le_of_ble_eq_true rfl) (fun r M1 H1 locs1 hq9 hP1 hD1 hS1 hz9 => ?_)
  exact vx_ret (e_wi hx hb hr hlocks hP1 hD1 hS1 hq9 dL_does_192)
set_option maxRecDepth 100000 in
set_option maxHeartbeats 4000000 in
theorem d_grade (l : Launch) (de mi : Nat) (D : va_G) (cy : Nat → ClassId) (M : mM) (sz a : Nat) (fs : List Value) (x1 x2 x3 : Int32) (post : Int32 → mM → Prop) (postX : String → Prop) (ha : M a = some (.inr (6, fs))) (hcal : ∀ sz : Nat, mVi l yX5_grade wsX5_grade ({ frames := 7, cells := 1, slots := 6, locals := 103 } : Room) de mi D cy M sz [.ref a, .int x1] post postX 1 6) : mVi l yL_does wsL_does rmD de mi D cy M sz [.ref a, .int (nI 11), .int x1, .int x2, .int x3] post postX 12 120 := by
  refine mV.of (cc := cL_does) (maxL := 5) (ret := some .int) (by decide) rfl (Nat.le_of_ble_eq_true rfl) ?_
  intro p e s m args below meth c ls hsz hx hb hr hts hown hlocks hml hout hname hP hD hS hA hK hX hl
  have hl : lv_has ls 5 [(0, .ref a), (1, .int (nI 11)), (2, .int x1), (3, .int x2), (4, .int x3)] := hl
  have hown : s.vm.findClass RL = some m.cls := hown
  refine lv_iload_n hx hb dL_does_0 rfl (lv_at hl 1 rfl) ?_
  refine lv_tableIn (off := 192) (tgt := 193) hx hb dL_does_1 (by decide) (by decide) (by decide +kernel) (by decide) ?_
  refine lv_aload_n hx hb dL_does_193 rfl (lv_at hl 0 rfl) ?_
  refine lv_iload_n hx hb dL_does_194 rfl (lv_at hl 2 rfl) ?_
  refine x_calli (vx_runV (C := RX5) (As := [.int x1]) (rest := []) ⟨hx, hb, hml, hown, hts⟩ (hcal _) (cwV 1 hts gL_does_X5_grade rfl rfl rfl (by decide +kernel) ⟨Nat.le_of_ble_eq_true rfl, Nat.le_of_ble_eq_true rfl⟩) (mPreXV hX hD hS hA hK hP ha (ci := 6) rfl) rfl rfl hl.1 rfl (lv_room (Nat.le_of_ble_eq_true rfl)) dL_does_195 ⟨Nat.le_of_ble_eq_true rfl, Nat.le_of_ble_eq_true rfl⟩) hD hA hS hout hlocks (fun _ h => h) (Nat.le_of_ble_eq_true rfl) (Nat.le_of_ble_eq_true rfl) (fun r M1 H1 locs1 hq9 hP1 hD1 hS1 hz9 => ?_)
  exact vx_ret (e_wi hx hb hr hlocks hP1 hD1 hS1 hq9 dL_does_198)
set_option maxRecDepth 100000 in
set_option maxHeartbeats 4000000 in
theorem d_lacks (l : Launch) (de mi : Nat) (D : va_G) (cy : Nat → ClassId) (M : mM) (sz a : Nat) (fs : List Value) (x1 x2 x3 : Int32) (post : Int32 → mM → Prop) (postX : String → Prop) (ha : M a = some (.inr (6, fs))) (hcal : ∀ sz : Nat, mVi l yX5_lacks wsX5_lacks ({ frames := 7, cells := 1, slots := 6, locals := 103 } : Room) de mi D cy M sz [.ref a, .int x1] post postX 1 6) : mVi l yL_does wsL_does rmD de mi D cy M sz [.ref a, .int (nI 12), .int x1, .int x2, .int x3] post postX 12 120 := by
  refine mV.of (cc := cL_does) (maxL := 5) (ret := some .int) (by decide) rfl (Nat.le_of_ble_eq_true rfl) ?_
  intro p e s m args below meth c ls hsz hx hb hr hts hown hlocks hml hout hname hP hD hS hA hK hX hl
  have hl : lv_has ls 5 [(0, .ref a), (1, .int (nI 12)), (2, .int x1), (3, .int x2), (4, .int x3)] := hl
  have hown : s.vm.findClass RL = some m.cls := hown
  refine lv_iload_n hx hb dL_does_0 rfl (lv_at hl 1 rfl) ?_
  refine lv_tableIn (off := 198) (tgt := 199) hx hb dL_does_1 (by decide) (by decide) (by decide +kernel) (by decide) ?_
  refine lv_aload_n hx hb dL_does_199 rfl (lv_at hl 0 rfl) ?_
  refine lv_iload_n hx hb dL_does_200 rfl (lv_at hl 2 rfl) ?_
  refine x_calli (vx_runV (C := RX5) (As := [.int x1]) (rest := []) ⟨hx, hb, hml, hown, hts⟩ (hcal _) (cwV 1 hts gL_does_X5_lacks rfl rfl rfl (by decide +kernel) ⟨Nat.le_of_ble_eq_true rfl, Nat.le_of_ble_eq_true rfl⟩) (mPreXV hX hD hS hA hK hP ha (ci := 6) rfl) rfl rfl hl.1 rfl (lv_room (Nat.le_of_ble_eq_true rfl)) dL_does_201 ⟨Nat.le_of_ble_eq_true rfl, Nat.le_of_ble_eq_true rfl⟩) hD hA hS hout hlocks (fun _ h => h) (Nat.le_of_ble_eq_true rfl) (Nat.le_of_ble_eq_true rfl) (fun r M1 H1 locs1 hq9 hP1 hD1 hS1 hz9 => ?_)
  exact vx_ret (e_wi hx hb hr hlocks hP1 hD1 hS1 hq9 dL_does_204)
set_option maxRecDepth 100000 in
set_option maxHeartbeats 4000000 in
theorem d_takeOut (l : Launch) (de mi : Nat) (D : va_G) (cy : Nat → ClassId) (M : mM) (sz a : Nat) (fs : List Value) (x1 x2 x3 : Int32) (post : Int32 → mM → Prop) (postX : String → Prop) (ha : M a = some (.inr (6, fs))) (hcal : ∀ sz : Nat, mVi l yX5_takeOut wsX5_takeOut ({ frames := 7, cells := 4, slots := 24, locals := 102 } : Room) de mi D cy M sz [.ref a, .int x1] post postX 4 24) : mVi l yL_does wsL_does rmD de mi D cy M sz [.ref a, .int (nI 13), .int x1, .int x2, .int x3] post postX 12 120 := by
  refine mV.of (cc := cL_does) (maxL := 5) (ret := some .int) (by decide) rfl (Nat.le_of_ble_eq_true rfl) ?_
  intro p e s m args below meth c ls hsz hx hb hr hts hown hlocks hml hout hname hP hD hS hA hK hX hl
  have hl : lv_has ls 5 [(0, .ref a), (1, .int (nI 13)), (2, .int x1), (3, .int x2), (4, .int x3)] := hl
  have hown : s.vm.findClass RL = some m.cls := hown
  refine lv_iload_n hx hb dL_does_0 rfl (lv_at hl 1 rfl) ?_
  refine lv_tableIn (off := 204) (tgt := 205) hx hb dL_does_1 (by decide) (by decide) (by decide +kernel) (by decide) ?_
  refine lv_aload_n hx hb dL_does_205 rfl (lv_at hl 0 rfl) ?_
  refine lv_iload_n hx hb dL_does_206 rfl (lv_at hl 2 rfl) ?_
  refine x_calli (vx_runV (C := RX5) (As := [.int x1]) (rest := []) ⟨hx, hb, hml, hown, hts⟩ (hcal _) (cwV 1 hts gL_does_X5_takeOut rfl rfl rfl (by decide +kernel) ⟨Nat.le_of_ble_eq_true rfl, Nat.le_of_ble_eq_true rfl⟩) (mPreXV hX hD hS hA hK hP ha (ci := 6) rfl) rfl rfl hl.1 rfl (lv_room (Nat.le_of_ble_eq_true rfl)) dL_does_207 ⟨Nat.le_of_ble_eq_true rfl, Nat.le_of_ble_eq_true rfl⟩) hD hA hS hout hlocks (fun _ h => h) (Nat.le_of_ble_eq_true rfl) (Nat.le_of_ble_eq_true rfl) (fun r M1 H1 locs1 hq9 hP1 hD1 hS1 hz9 => ?_)
  exact vx_ret (e_wi hx hb hr hlocks hP1 hD1 hS1 hq9 dL_does_210)
set_option maxRecDepth 100000 in
set_option maxHeartbeats 4000000 in
theorem d_show (l : Launch) (de mi : Nat) (D : va_G) (cy : Nat → ClassId) (M : mM) (sz a : Nat) (fs : List Value) (x1 x2 x3 : Int32) (post : Int32 → mM → Prop) (postX : String → Prop) (ha : M a = some (.inr (6, fs))) (hcal : ∀ sz : Nat, mVi l yX5_show wsX5_show ({ frames := 7, cells := 4, slots := 24, locals := 103 } : Room) de mi D cy M sz [.ref a, .int x1] post postX 4 24) : mVi l yL_does wsL_does rmD de mi D cy M sz [.ref a, .int (nI 14), .int x1, .int x2, .int x3] post postX 12 120 := by
  refine mV.of (cc := cL_does) (maxL := 5) (ret := some .int) (by decide) rfl (Nat.le_of_ble_eq_true rfl) ?_
  intro p e s m args below meth c ls hsz hx hb hr hts hown hlocks hml hout hname hP hD hS hA hK hX hl
  have hl : lv_has ls 5 [(0, .ref a), (1, .int (nI 14)), (2, .int x1), (3, .int x2), (4, .int x3)] := hl
  have hown : s.vm.findClass RL = some m.cls := hown
  refine lv_iload_n hx hb dL_does_0 rfl (lv_at hl 1 rfl) ?_
  refine lv_tableIn (off := 210) (tgt := 211) hx hb dL_does_1 (by decide) (by decide) (by decide +kernel) (by decide) ?_
  refine lv_aload_n hx hb dL_does_211 rfl (lv_at hl 0 rfl) ?_
  refine lv_iload_n hx hb dL_does_212 rfl (lv_at hl 2 rfl) ?_
  refine x_calli (vx_runV (C := RX5) (As := [.int x1]) (rest := []) ⟨hx, hb, hml, hown, hts⟩ (hcal _) (cwV 1 hts gL_does_X5_show rfl rfl rfl (by decide +kernel) ⟨Nat.le_of_ble_eq_true rfl, Nat.le_of_ble_eq_true rfl⟩) (mPreXV hX hD hS hA hK hP ha (ci := 6) rfl) rfl rfl hl.1 rfl (lv_room (Nat.le_of_ble_eq_true rfl)) dL_does_213 ⟨Nat.le_of_ble_eq_true rfl, Nat.le_of_ble_eq_true rfl⟩) hD hA hS hout hlocks (fun _ h => h) (Nat.le_of_ble_eq_true rfl) (Nat.le_of_ble_eq_true rfl) (fun r M1 H1 locs1 hq9 hP1 hD1 hS1 hz9 => ?_)
  exact vx_ret (e_wi hx hb hr hlocks hP1 hD1 hS1 hq9 dL_does_216)
set_option maxRecDepth 100000 in
set_option maxHeartbeats 4000000 in
theorem d_vote (l : Launch) (de mi : Nat) (D : va_G) (cy : Nat → ClassId) (M : mM) (sz a : Nat) (fs : List Value) (x1 x2 x3 : Int32) (post : Int32 → mM → Prop) (postX : String → Prop) (ha : M a = some (.inr (6, fs))) (hcal : ∀ sz : Nat, mVi l yX5_vote wsX5_vote ({ frames := 7, cells := 4, slots := 24, locals := 103 } : Room) de mi D cy M sz [.ref a, .int x1, .int x2, .int x3] post postX 4 24) : mVi l yL_does wsL_does rmD de mi D cy M sz [.ref a, .int (nI 15), .int x1, .int x2, .int x3] post postX 12 120 := by
  refine mV.of (cc := cL_does) (maxL := 5) (ret := some .int) (by decide) rfl (Nat.le_of_ble_eq_true rfl) ?_
  intro p e s m args below meth c ls hsz hx hb hr hts hown hlocks hml hout hname hP hD hS hA hK hX hl
  have hl : lv_has ls 5 [(0, .ref a), (1, .int (nI 15)), (2, .int x1), (3, .int x2), (4, .int x3)] := hl
  have hown : s.vm.findClass RL = some m.cls := hown
  refine lv_iload_n hx hb dL_does_0 rfl (lv_at hl 1 rfl) ?_
  refine lv_tableIn (off := 216) (tgt := 217) hx hb dL_does_1 (by decide) (by decide) (by decide +kernel) (by decide) ?_
  refine lv_aload_n hx hb dL_does_217 rfl (lv_at hl 0 rfl) ?_
  refine lv_iload_n hx hb dL_does_218 rfl (lv_at hl 2 rfl) ?_
  refine lv_iload_n hx hb dL_does_219 rfl (lv_at hl 3 rfl) ?_
  refine lv_iload hx hb dL_does_220 (lv_at hl 4 rfl) ?_
  refine x_calli (vx_runV (C := RX5) (As := [.int x1, .int x2, .int x3]) (rest := []) ⟨hx, hb, hml, hown, hts⟩ (hcal _) (cwV 3 hts gL_does_X5_vote rfl rfl rfl (by decide +kernel) ⟨Nat.le_of_ble_eq_true rfl, Nat.le_of_ble_eq_true rfl⟩) (mPreXV hX hD hS hA hK hP ha (ci := 6) rfl) rfl rfl hl.1 rfl (lv_room (Nat.le_of_ble_eq_true rfl)) dL_does_222 ⟨Nat.le_of_ble_eq_true rfl, Nat.le_of_ble_eq_true rfl⟩) hD hA hS hout hlocks (fun _ h => h) (Nat.le_of_ble_eq_true rfl) (Nat.le_of_ble_eq_true rfl) (fun r M1 H1 locs1 hq9 hP1 hD1 hS1 hz9 => ?_)
  exact vx_ret (e_wi hx hb hr hlocks hP1 hD1 hS1 hq9 dL_does_225)
set_option maxRecDepth 100000 in
set_option maxHeartbeats 4000000 in
theorem d_worth (l : Launch) (de mi : Nat) (D : va_G) (cy : Nat → ClassId) (M : mM) (sz a : Nat) (fs : List Value) (x1 x2 x3 : Int32) (post : Int32 → mM → Prop) (postX : String → Prop) (ha : M a = some (.inr (6, fs))) (hcal : ∀ sz : Nat, mVi l yX5_worth wsX5_worth ({ frames := 7, cells := 1, slots := 6, locals := 103 } : Room) de mi D cy M sz [.ref a, .int x1] post postX 1 6) : mVi l yL_does wsL_does rmD de mi D cy M sz [.ref a, .int (nI 16), .int x1, .int x2, .int x3] post postX 12 120 := by
  refine mV.of (cc := cL_does) (maxL := 5) (ret := some .int) (by decide) rfl (Nat.le_of_ble_eq_true rfl) ?_
  intro p e s m args below meth c ls hsz hx hb hr hts hown hlocks hml hout hname hP hD hS hA hK hX hl
  have hl : lv_has ls 5 [(0, .ref a), (1, .int (nI 16)), (2, .int x1), (3, .int x2), (4, .int x3)] := hl
  have hown : s.vm.findClass RL = some m.cls := hown
  refine lv_iload_n hx hb dL_does_0 rfl (lv_at hl 1 rfl) ?_
  refine lv_tableIn (off := 225) (tgt := 226) hx hb dL_does_1 (by decide) (by decide) (by decide +kernel) (by decide) ?_
  refine lv_aload_n hx hb dL_does_226 rfl (lv_at hl 0 rfl) ?_
  refine lv_iload_n hx hb dL_does_227 rfl (lv_at hl 2 rfl) ?_
  refine x_calli (vx_runV (C := RX5) (As := [.int x1]) (rest := []) ⟨hx, hb, hml, hown, hts⟩ (hcal _) (cwV 1 hts gL_does_X5_worth rfl rfl rfl (by decide +kernel) ⟨Nat.le_of_ble_eq_true rfl, Nat.le_of_ble_eq_true rfl⟩) (mPreXV hX hD hS hA hK hP ha (ci := 6) rfl) rfl rfl hl.1 rfl (lv_room (Nat.le_of_ble_eq_true rfl)) dL_does_228 ⟨Nat.le_of_ble_eq_true rfl, Nat.le_of_ble_eq_true rfl⟩) hD hA hS hout hlocks (fun _ h => h) (Nat.le_of_ble_eq_true rfl) (Nat.le_of_ble_eq_true rfl) (fun r M1 H1 locs1 hq9 hP1 hD1 hS1 hz9 => ?_)
  exact vx_ret (e_wi hx hb hr hlocks hP1 hD1 hS1 hq9 dL_does_231)
set_option maxRecDepth 100000 in
set_option maxHeartbeats 4000000 in
theorem d_place (l : Launch) (de mi : Nat) (D : va_G) (cy : Nat → ClassId) (M : mM) (sz a : Nat) (fs : List Value) (x1 x2 x3 : Int32) (post : Int32 → mM → Prop) (postX : String → Prop) (ha : M a = some (.inr (6, fs))) (hcal : ∀ sz : Nat, mVi l yX5_place wsX5_place ({ frames := 7, cells := 4, slots := 24, locals := 103 } : Room) de mi D cy M sz [.ref a, .int x1] post postX 4 24) : mVi l yL_does wsL_does rmD de mi D cy M sz [.ref a, .int (nI 17), .int x1, .int x2, .int x3] post postX 12 120 := by
  refine mV.of (cc := cL_does) (maxL := 5) (ret := some .int) (by decide) rfl (Nat.le_of_ble_eq_true rfl) ?_
  intro p e s m args below meth c ls hsz hx hb hr hts hown hlocks hml hout hname hP hD hS hA hK hX hl
  have hl : lv_has ls 5 [(0, .ref a), (1, .int (nI 17)), (2, .int x1), (3, .int x2), (4, .int x3)] := hl
  have hown : s.vm.findClass RL = some m.cls := hown
  refine lv_iload_n hx hb dL_does_0 rfl (lv_at hl 1 rfl) ?_
  refine lv_tableIn (off := 231) (tgt := 232) hx hb dL_does_1 (by decide) (by decide) (by decide +kernel) (by decide) ?_
  refine lv_aload_n hx hb dL_does_232 rfl (lv_at hl 0 rfl) ?_
  refine lv_iload_n hx hb dL_does_233 rfl (lv_at hl 2 rfl) ?_
  refine x_calli (vx_runV (C := RX5) (As := [.int x1]) (rest := []) ⟨hx, hb, hml, hown, hts⟩ (hcal _) (cwV 1 hts gL_does_X5_place rfl rfl rfl (by decide +kernel) ⟨Nat.le_of_ble_eq_true rfl, Nat.le_of_ble_eq_true rfl⟩) (mPreXV hX hD hS hA hK hP ha (ci := 6) rfl) rfl rfl hl.1 rfl (lv_room (Nat.le_of_ble_eq_true rfl)) dL_does_234 ⟨Nat.le_of_ble_eq_true rfl, Nat.le_of_ble_eq_true rfl⟩) hD hA hS hout hlocks (fun _ h => h) (Nat.le_of_ble_eq_true rfl) (Nat.le_of_ble_eq_true rfl) (fun r M1 H1 locs1 hq9 hP1 hD1 hS1 hz9 => ?_)
  exact vx_ret (e_wi hx hb hr hlocks hP1 hD1 hS1 hq9 dL_does_237)
set_option maxRecDepth 100000 in
set_option maxHeartbeats 4000000 in
theorem d_at (l : Launch) (de mi : Nat) (D : va_G) (cy : Nat → ClassId) (M : mM) (sz a : Nat) (fs : List Value) (x1 x2 x3 : Int32) (post : Int32 → mM → Prop) (postX : String → Prop) (ha : M a = some (.inr (6, fs))) (hcal : ∀ sz : Nat, mVi l yX5_at wsX5_at ({ frames := 6, cells := 4, slots := 24, locals := 102 } : Room) de mi D cy M sz [.ref a, .int x1] post postX 4 24) : mVi l yL_does wsL_does rmD de mi D cy M sz [.ref a, .int (nI 18), .int x1, .int x2, .int x3] post postX 12 120 := by
  refine mV.of (cc := cL_does) (maxL := 5) (ret := some .int) (by decide) rfl (Nat.le_of_ble_eq_true rfl) ?_
  intro p e s m args below meth c ls hsz hx hb hr hts hown hlocks hml hout hname hP hD hS hA hK hX hl
  have hl : lv_has ls 5 [(0, .ref a), (1, .int (nI 18)), (2, .int x1), (3, .int x2), (4, .int x3)] := hl
  have hown : s.vm.findClass RL = some m.cls := hown
  refine lv_iload_n hx hb dL_does_0 rfl (lv_at hl 1 rfl) ?_
  refine lv_tableOut (tgt := 238) hx hb dL_does_1 (Or.inr (by decide)) (by decide) ?_
  refine lv_aload_n hx hb dL_does_238 rfl (lv_at hl 0 rfl) ?_
  refine lv_iload_n hx hb dL_does_239 rfl (lv_at hl 2 rfl) ?_
  refine x_calli (vx_runV (C := RX5) (As := [.int x1]) (rest := []) ⟨hx, hb, hml, hown, hts⟩ (hcal _) (cwV 1 hts gL_does_X5_at rfl rfl rfl (by decide +kernel) ⟨Nat.le_of_ble_eq_true rfl, Nat.le_of_ble_eq_true rfl⟩) (mPreXV hX hD hS hA hK hP ha (ci := 6) rfl) rfl rfl hl.1 rfl (lv_room (Nat.le_of_ble_eq_true rfl)) dL_does_240 ⟨Nat.le_of_ble_eq_true rfl, Nat.le_of_ble_eq_true rfl⟩) hD hA hS hout hlocks (fun _ h => h) (Nat.le_of_ble_eq_true rfl) (Nat.le_of_ble_eq_true rfl) (fun r M1 H1 locs1 hq9 hP1 hD1 hS1 hz9 => ?_)
  exact vx_ret (e_wi hx hb hr hlocks hP1 hD1 hS1 hq9 dL_does_243)
set_option maxRecDepth 100000 in
set_option maxHeartbeats 4000000 in
theorem c_L_call (l : Launch) (de mi : Nat) (D : va_G) (cy : Nat → ClassId) (M : mM) (sz a : Nat) (w x1 x2 x3 : Int32) (post : Int32 → mM → Prop) (postX : String → Prop) (hcal : ∀ sz : Nat, mVi l yL_does wsL_does rmD de mi D cy M sz [.ref a, .int w, .int x1, .int x2, .int x3] post postX 12 120) (hE : ∀ E, postX E → E = xIO ∨ E = xIA ∨ E = xIS) : wMet l yL_call wsL_call rmC de mi D cy M sz [.ref a, .int w, .int x1, .int x2, .int x3] (callP post postX M) 12 120 := by
  refine wMet.of (cc := cL_call) (maxL := 6) (ret := some .int) (hh := [(0, 9, 10, 15), (0, 9, 15, 18), (0, 9, 20, 21)]) (by decide) rfl (Nat.le_of_ble_eq_true rfl) ?_
  intro p e s m args below meth c ls hsz hx hb hr hts hown hlocks hml htab hP hD hS hA hK hX hN hl
  have hown : s.vm.findClass RL = some m.cls := hown
  have hl : lv_has ls 6 [(0, .ref a), (1, .int w), (2, .int x1), (3, .int x2), (4, .int x3)] := hl
  refine lv_aload_n hx hb dL_call_0 rfl (lv_at hl 0 rfl) ?_
  refine lv_iload_n hx hb dL_call_1 rfl (lv_at hl 1 rfl) ?_
  refine lv_iload_n hx hb dL_call_2 rfl (lv_at hl 2 rfl) ?_
  refine lv_iload_n hx hb dL_call_3 rfl (lv_at hl 3 rfl) ?_
  refine lv_iload hx hb dL_call_4 (lv_at hl 4 rfl) ?_
  refine w_calli (vx_runS (As := [.ref a, .int w, .int x1, .int x2, .int x3]) (rest := []) ⟨hx, hb, hml, hown, hts⟩ (hcal _) (va_cwS 5 hts gL_call_L_does rfl rfl rfl (by decide +kernel) ⟨Nat.le_of_ble_eq_true rfl, Nat.le_of_ble_eq_true rfl⟩) (mPreXS hX hD hS hA hK hP) rfl rfl hl.1 rfl (lv_room (Nat.le_of_ble_eq_true rfl)) dL_call_6 ⟨Nat.le_of_ble_eq_true rfl, Nat.le_of_ble_eq_true rfl⟩) hD hA hS (fun E ce q9 H1 locs1 hpx hP1 hS1 hz1 hk1 hce hcv hcl => ?_) (fun v M1 H1 locs1 hq9 hP1 hD1 hS1 hz1 hd1 hk1 => ?_)
  · rcases hE E hpx with rfl | rfl | rfl
    · refine vx_catch (name := xIO) hown [] ⟨0, 9, 10, 15⟩ [⟨0, 9, 15, 18⟩, ⟨0, 9, 20, 21⟩] htab (fun z hz => absurd hz List.not_mem_nil) (by decide) (by decide) (hts _ (List.mem_of_getElem? (i := 1) rfl)) (va_Nw.use (cDW_tab _ (List.mem_of_getElem? (i := 3) rfl)) (hX.2.2.2.2.2.2.2.2.2 _ (List.mem_of_getElem? (i := 3) rfl))) hce hcv hcl ?_
      refine lv_astore (lv' := [(5, .ref q9), (0, .ref a), (1, .int w), (2, .int x1), (3, .int x2), (4, .int x3)]) hx hb dL_call_10 hl (by decide) rfl (fun ls hl => ?_)
      refine lv_ldc (v := zI (-2000000001)) hx hb hown (by rw [show zI (-2000000001) = (-2000000001 : Int32) by decide]; exact hts _ (List.mem_of_getElem? (i := 4) rfl)) dL_call_12 ?_
      exact vx_ret (e_wi hx hb hr hlocks hP1 hD hS1 (Or.inr ⟨rfl, Or.inl ⟨hpx, rfl⟩⟩) dL_call_14)
    · refine vx_catch (name := xIA) hown [⟨0, 9, 10, 15⟩] ⟨0, 9, 15, 18⟩ [⟨0, 9, 20, 21⟩] htab (fun z hz => by
      rcases List.mem_cons.mp hz with rfl | hz
      · exact Or.inr ⟨by decide, xIO, (hts _ (List.mem_of_getElem? (i := 1) rfl)), hN (xIA, xIO) (List.mem_of_getElem? (i := 2) rfl)⟩
      exact absurd hz List.not_mem_nil) (by decide) (by decide) (hts _ (List.mem_of_getElem? (i := 2) rfl)) (va_Nw.use (cDW_tab _ (List.mem_of_getElem? (i := 4) rfl)) (hX.2.2.2.2.2.2.2.2.2 _ (List.mem_of_getElem? (i := 4) rfl))) hce hcv hcl ?_
      refine lv_astore (lv' := [(5, .ref q9), (0, .ref a), (1, .int w), (2, .int x1), (3, .int x2), (4, .int x3)]) hx hb dL_call_15 hl (by decide) rfl (fun ls hl => ?_)
      refine lv_ldc (v := zI (-2000000002)) hx hb hown (by rw [show zI (-2000000002) = (-2000000002 : Int32) by decide]; exact hts _ (List.mem_of_getElem? (i := 5) rfl)) dL_call_17 ?_
      exact vx_ret (e_wi hx hb hr hlocks hP1 hD hS1 (Or.inr ⟨rfl, Or.inr (Or.inl ⟨hpx, rfl⟩)⟩) dL_call_19)
    · refine vx_catch (name := xIS) hown [⟨0, 9, 10, 15⟩, ⟨0, 9, 15, 18⟩] ⟨0, 9, 20, 21⟩ [] htab (fun z hz => by
      rcases List.mem_cons.mp hz with rfl | hz
      · exact Or.inr ⟨by decide, xIO, (hts _ (List.mem_of_getElem? (i := 1) rfl)), hN (xIS, xIO) (List.mem_of_getElem? (i := 4) rfl)⟩
      rcases List.mem_cons.mp hz with rfl | hz
      · exact Or.inr ⟨by decide, xIA, (hts _ (List.mem_of_getElem? (i := 2) rfl)), hN (xIS, xIA) (List.mem_of_getElem? (i := 5) rfl)⟩
      exact absurd hz List.not_mem_nil) (by decide) (by decide) (hts _ (List.mem_of_getElem? (i := 3) rfl)) (va_Nw.use (cDW_tab _ (List.mem_of_getElem? (i := 5) rfl)) (hX.2.2.2.2.2.2.2.2.2 _ (List.mem_of_getElem? (i := 5) rfl))) hce hcv hcl ?_
      refine lv_astore (lv' := [(5, .ref q9), (0, .ref a), (1, .int w), (2, .int x1), (3, .int x2), (4, .int x3)]) hx hb dL_call_20 hl (by decide) rfl (fun ls hl => ?_)
      refine lv_ldc (v := zI (-2000000003)) hx hb hown (by rw [show zI (-2000000003) = (-2000000003 : Int32) by decide]; exact hts _ (List.mem_of_getElem? (i := 6) rfl)) dL_call_22 ?_
      exact vx_ret (e_wi hx hb hr hlocks hP1 hD hS1 (Or.inr ⟨rfl, Or.inr (Or.inr ⟨hpx, rfl⟩)⟩) dL_call_24)
  · exact vx_ret (e_wi hx hb hr hlocks hP1 hD1 hS1 (Or.inl hq9) dL_call_9)
set_option maxRecDepth 100000 in
set_option maxHeartbeats 4000000 in
theorem c_L_both (l : Launch) (de mi : Nat) (D : va_G) (cy : Nat → ClassId) (Mo Mt : mM) (sz o t : Nat) (w x1 x2 x3 : Int32) (po pt : Int32 → mM → Prop) (hdj : dj Mo Mt) (hco : ∀ sz : Nat, wMet l yL_call wsL_call rmC de mi D cy Mo sz [.ref o, .int w, .int x1, .int x2, .int x3] po 12 120) (hct : ∀ sz : Nat, wMet l yL_call wsL_call rmC de mi D cy Mt sz [.ref t, .int w, .int x1, .int x2, .int x3] pt 12 120) : lMi l yL_both wsL_both rmB de mi D cy (iwU Mo Mt) sz [.ref o, .ref t, .int w, .int x1, .int x2, .int x3] (fun r M' => ∃ (r1 r2 : Int32) (Mo' Mt' : mM), po r1 Mo' ∧ pt r2 Mt' ∧ (r1 = r2 → r = r1) ∧ M' = iwU Mo' Mt' ∧ dj Mo' Mt') 24 240 := by
  refine lM.of (cc := cL_both) (maxL := 7) (ret := some .int) (by decide) rfl (Nat.le_of_ble_eq_true rfl) ?_
  intro p e s m args below meth c ls hsz hx hb hr hts hown hlocks hml hP hD hS hA hK hX hN hl
  have hown : s.vm.findClass RL = some m.cls := hown
  have hl : lv_has ls 7 [(0, .ref o), (1, .ref t), (2, .int w), (3, .int x1), (4, .int x2), (5, .int x3)] := hl
  have hPo := pm_Ul hP
  have hPt := pm_Ur hP hdj
  have hDo := mD_Ul hD
  have hDt := mD_Ur hD hdj
  refine lv_aload_n hx hb dL_both_0 rfl (lv_at hl 0 rfl) ?_
  refine lv_iload_n hx hb dL_both_1 rfl (lv_at hl 2 rfl) ?_
  refine lv_iload_n hx hb dL_both_2 rfl (lv_at hl 3 rfl) ?_
  refine lv_iload hx hb dL_both_3 (lv_at hl 4 rfl) ?_
  refine lv_iload hx hb dL_both_5 (lv_at hl 5 rfl) ?_
  refine w_call (vx_runSX (As := [.ref o, .int w, .int x1, .int x2, .int x3]) (rest := []) ⟨hx, hb, hml, hown, hts⟩ (hco _) (vx_cwSW 5 hts gL_both_L_call rfl rfl rfl (by decide +kernel) ⟨Nat.le_of_ble_eq_true rfl, Nat.le_of_ble_eq_true rfl⟩) (wPreS hX hN hDo hS hA hK hPo) rfl rfl hl.1 rfl (lv_room (Nat.le_of_ble_eq_true rfl)) dL_both_7 ⟨Nat.le_of_ble_eq_true rfl, Nat.le_of_ble_eq_true rfl⟩) hDo hA hS (fun r1 Mo1 H1 locs1 hq1 hPo1 hDo1 hS1 hz1 hd1 hk1 => ?_)
  have hPt1 := pm_frame hPt hdj.sy hk1
  have hdj1 := dj_after hPt hdj.sy hd1
  refine lv_istore (lv' := [(6, .int r1), (0, .ref o), (1, .ref t), (2, .int w), (3, .int x1), (4, .int x2), (5, .int x3)]) hx hb dL_both_10 hl (by decide) rfl (fun ls hl => ?_)
  refine lv_iload hx hb dL_both_12 (lv_at hl 0 rfl) ?_
  refine lv_aload_n hx hb dL_both_14 rfl (lv_at hl 2 rfl) ?_
  refine lv_iload_n hx hb dL_both_15 rfl (lv_at hl 3 rfl) ?_
  refine lv_iload_n hx hb dL_both_16 rfl (lv_at hl 4 rfl) ?_
  refine lv_iload hx hb dL_both_17 (lv_at hl 5 rfl) ?_
  refine lv_iload hx hb dL_both_19 (lv_at hl 6 rfl) ?_
  refine w_call (vx_runSX (As := [.ref t, .int w, .int x1, .int x2, .int x3]) (rest := [.int r1]) ⟨hx, hb, hml, hown, hts⟩ (hct _) (vx_cwSW 5 hts gL_both_L_call rfl rfl rfl (by decide +kernel) ⟨Nat.le_of_ble_eq_true rfl, Nat.le_of_ble_eq_true rfl⟩) (wPreS hX hN hDt hS1 hA hK hPt1) rfl rfl hl.1 rfl (lv_room (Nat.le_of_ble_eq_true rfl)) dL_both_21 ⟨Nat.le_of_ble_eq_true rfl, Nat.le_of_ble_eq_true rfl⟩) hDt hA hS1 (fun r2 Mt1 H2 locs2 hq2 hPt2 hDt2 hS2 hz2 hd2 hk2 => ?_)
  have hPo2 := pm_frame hPo1 hdj1.sy hk2
  have hdj2 := dj_after hPo1 hdj1.sy hd2
  have hPU := pm_U hPo2 hPt2
  have hDU := mD_U hDo1 hDt2
  refine z_icmp_ne (u := r1.toInt) (v := r2.toInt) (tgt := 32) hx hb rfl rfl dL_both_24 (by decide) (fun h9 => ?_) (fun h9 => ?_)
  · refine lv_ldc (v := zI (-2000000099)) hx hb hown (by rw [show zI (-2000000099) = (-2000000099 : Int32) by decide]; exact hts _ (List.mem_of_getElem? (i := 1) rfl)) dL_both_32 ?_
    exact e_wi hx hb hr hlocks hPU hDU hS2 ⟨r1, r2, Mo1, Mt1, hq1, hq2, fun z => absurd (congrArg Int32.toInt z) h9, rfl, hdj2⟩ dL_both_34
  · refine lv_iload hx hb dL_both_27 (lv_at hl 0 rfl) ?_
    refine lv_goto (tgt := 34) hx hb dL_both_29 (by decide) ?_
    exact e_wi hx hb hr hlocks hPU hDU hS2 ⟨r1, r2, Mo1, Mt1, hq1, hq2, fun _ => rfl, rfl, hdj2⟩ dL_both_34
/-- one call to both: they answer the same, and stay the same -/
def twP (cy : Nat → ClassId) (de o t : Nat) (I A S : Prop) (v : Int32) (c : Nat → Nat) (x : Nat → Nat → Nat) (c' : Nat → Nat) (x' : Nat → Nat → Nat) : Int32 → mM → Prop := fun r M' =>
  (¬ I ∧ r = zI (-2000000001) ∧ TW cy de M' o t c x) ∨ (I ∧ ¬ A ∧ r = zI (-2000000002) ∧ TW cy de M' o t c x) ∨ (I ∧ A ∧ ¬ S ∧ r = zI (-2000000003) ∧ TW cy de M' o t c x) ∨ (I ∧ A ∧ S ∧ r = v ∧ TW cy de M' o t c' x')
theorem callP_of {cy : Nat → ClassId} {de a : Nat} {I A S : Prop} {v : Int32} {c c' : Nat → Nat} {x x' : Nat → Nat → Nat} {M M' : mM} {r : Int32} (hh : hall cy de M a c x) (h : callP (oP cy de a I A S v c' x') (oX I A S) M r M') :
    (¬ I ∧ r = zI (-2000000001) ∧ hall cy de M' a c x) ∨ (I ∧ ¬ A ∧ r = zI (-2000000002) ∧ hall cy de M' a c x) ∨ (I ∧ A ∧ ¬ S ∧ r = zI (-2000000003) ∧ hall cy de M' a c x) ∨ (I ∧ A ∧ S ∧ r = v ∧ hall cy de M' a c' x') := by
  rcases h with ⟨⟨h1, h2, h3⟩, h4, h5⟩ | ⟨rfl, h⟩
  · exact Or.inr (Or.inr (Or.inr ⟨h1, h2, h3, h4, h5⟩))
  · rcases h with ⟨h, hr⟩ | ⟨h, hr⟩ | ⟨h, hr⟩
    · rcases h with ⟨-, h⟩ | ⟨h, -⟩ | ⟨h, -⟩
      · exact Or.inl ⟨h, hr, hh⟩
      · exact absurd h (by decide)
      · exact absurd h (by decide)
    · rcases h with ⟨h, -⟩ | ⟨-, h1, h2⟩ | ⟨h, -⟩
      · exact absurd h (by decide)
      · exact Or.inr (Or.inl ⟨h1, h2, hr, hh⟩)
      · exact absurd h (by decide)
    · rcases h with ⟨h, -⟩ | ⟨h, -⟩ | ⟨-, h1, h2, h3⟩
      · exact absurd h (by decide)
      · exact absurd h (by decide)
      · exact Or.inr (Or.inr (Or.inl ⟨h1, h2, h3, hr, hh⟩))
theorem lMi.mono {l : Launch} {y : MethodName} {ws : List Cond} {rm : Room} {de mi : Nat} {D : va_G} {cy : Nat → ClassId} {M : mM} {sz : Nat} {av : List Value} {mc ms : Nat} {post post' : Int32 → mM → Prop} (h : lMi l y ws rm de mi D cy M sz av post mc ms) (h1 : ∀ r M', post r M' → post' r M') : lMi l y ws rm de mi D cy M sz av post' mc ms := by
  intro p e ha hc hk s m args below hf happ hP hK
  obtain ⟨n, o, a1, a2, a3, a4⟩ := h p e ha hc hk s m args below hf happ hP hK
  refine ⟨n, o, a1, a2, a3, ?_⟩
  obtain ⟨⟨⟨r, u, b1, b2, b3⟩, b4⟩, b5⟩ := a4
  exact ⟨⟨⟨r, u, b1, h1 r u b2, b3⟩, b4⟩, b5⟩
theorem both_of {l : Launch} {de mi : Nat} {D : va_G} {cy : Nat → ClassId} {M : mM} {sz o t : Nat} {w x1 x2 x3 : Int32} {I A S : Prop} {v : Int32} {c c' : Nat → Nat} {x x' : Nat → Nat → Nat} (hT : TW cy de M o t c x)
    (hdo : ∀ (M' : mM) (a sz : Nat), hall cy de M' a c x → mVi l yL_does wsL_does rmD de mi D cy M' sz [.ref a, .int w, .int x1, .int x2, .int x3] (oP cy de a I A S v c' x') (oX I A S) 12 120) :
    lMi l yL_both wsL_both rmB de mi D cy M sz [.ref o, .ref t, .int w, .int x1, .int x2, .int x3] (twP cy de o t I A S v c x c' x') 24 240 := by
  obtain ⟨Mo, Mt, rfl, hd, ho, ht⟩ := hT
  refine (c_L_both l de mi D cy Mo Mt sz o t w x1 x2 x3 _ _ hd (fun sz => c_L_call l de mi D cy Mo sz o w x1 x2 x3 _ _ (fun sz => hdo Mo o sz ho) oX3) (fun sz => c_L_call l de mi D cy Mt sz t w x1 x2 x3 _ _ (fun sz => hdo Mt t sz ht) oX3)).mono (fun r M' h => ?_)
  obtain ⟨r1, r2, Mo', Mt', h1, h2, hr, rfl, hd'⟩ := h
  have k1 := callP_of ho h1
  have k2 := callP_of ht h2
  have fin : ∀ {c9 : Nat → Nat} {x9 : Nat → Nat → Nat}, hall cy de Mo' o c9 x9 → hall cy de Mt' t c9 x9 → TW cy de (iwU Mo' Mt') o t c9 x9 := fun a b => ⟨Mo', Mt', rfl, hd', a, b⟩
  rcases k1 with ⟨a1, a2, a3⟩ | ⟨a1, a2, a3, a4⟩ | ⟨a1, a2, a3, a4, a5⟩ | ⟨a1, a2, a3, a4, a5⟩
  · rcases k2 with ⟨b1, b2, b3⟩ | ⟨b1, -⟩ | ⟨b1, -⟩ | ⟨b1, -⟩
    · exact Or.inl ⟨a1, (hr (a2.trans b2.symm)).trans a2, fin a3 b3⟩
    · exact absurd b1 a1
    · exact absurd b1 a1
    · exact absurd b1 a1
  · rcases k2 with ⟨b1, -⟩ | ⟨b1, b2, b3, b4⟩ | ⟨b1, b2, -⟩ | ⟨b1, b2, -⟩
    · exact absurd a1 b1
    · exact Or.inr (Or.inl ⟨a1, a2, (hr (a3.trans b3.symm)).trans a3, fin a4 b4⟩)
    · exact absurd b2 a2
    · exact absurd b2 a2
  · rcases k2 with ⟨b1, -⟩ | ⟨b1, b2, -⟩ | ⟨b1, b2, b3, b4, b5⟩ | ⟨b1, b2, b3, -⟩
    · exact absurd a1 b1
    · exact absurd a2 b2
    · exact Or.inr (Or.inr (Or.inl ⟨a1, a2, a3, (hr (a4.trans b4.symm)).trans a4, fin a5 b5⟩))
    · exact absurd b3 a3
  · rcases k2 with ⟨b1, -⟩ | ⟨b1, b2, -⟩ | ⟨b1, b2, b3, -⟩ | ⟨b1, b2, b3, b4, b5⟩
    · exact absurd a1 b1
    · exact absurd a2 b2
    · exact absurd a3 b3
    · exact Or.inr (Or.inr (Or.inr ⟨a1, a2, a3, (hr (a4.trans b4.symm)).trans a4, fin a5 b5⟩))
/-- a call that is refused -/
theorem k_thr {post : Int32 → mM → Prop} {postX : String → Prop} {M M' : mM} {r : Int32} (h : callP post postX M r M') (hp : ∀ r M', ¬ post r M') : M' = M ∧ ((postX xIO ∧ r = zI (-2000000001)) ∨ (postX xIA ∧ r = zI (-2000000002)) ∨ (postX xIS ∧ r = zI (-2000000003))) := h.elim (fun z => absurd z (hp _ _)) id
theorem oX_I {I A S : Prop} (h : oX I A S xIO) : ¬ I := by
  rcases h with ⟨-, h⟩ | ⟨h, -⟩ | ⟨h, -⟩
  · exact h
  · exact absurd h (by decide)
  · exact absurd h (by decide)
theorem oX_A {I A S : Prop} (h : oX I A S xIA) : I ∧ ¬ A := by
  rcases h with ⟨h, -⟩ | ⟨-, h⟩ | ⟨h, -⟩
  · exact absurd h (by decide)
  · exact h
  · exact absurd h (by decide)
theorem oX_S {I A S : Prop} (h : oX I A S xIS) : I ∧ A ∧ ¬ S := by
  rcases h with ⟨h, -⟩ | ⟨h, -⟩ | ⟨-, h⟩
  · exact absurd h (by decide)
  · exact absurd h (by decide)
  · exact h
theorem k_I {post : Int32 → mM → Prop} {I A S : Prop} {M M' : mM} {r : Int32} (h : callP post (oX I A S) M r M') (hp : ∀ r M', post r M' → I) (hI : ¬ I) : r = zI (-2000000001) ∧ M' = M := by
  obtain ⟨h1, h2⟩ := k_thr h (fun r M' z => hI (hp r M' z))
  rcases h2 with h2 | h2 | h2
  · exact ⟨h2.2, h1⟩
  · exact absurd (oX_A h2.1).1 hI
  · exact absurd (oX_S h2.1).1 hI
theorem k_A {post : Int32 → mM → Prop} {I A S : Prop} {M M' : mM} {r : Int32} (h : callP post (oX I A S) M r M') (hp : ∀ r M', post r M' → A) (hI : I) (hA : ¬ A) : r = zI (-2000000002) ∧ M' = M := by
  obtain ⟨h1, h2⟩ := k_thr h (fun r M' z => hA (hp r M' z))
  rcases h2 with h2 | h2 | h2
  · exact absurd hI (oX_I h2.1)
  · exact ⟨h2.2, h1⟩
  · exact absurd (oX_S h2.1).2.1 hA
theorem k_S {post : Int32 → mM → Prop} {I A S : Prop} {M M' : mM} {r : Int32} (h : callP post (oX I A S) M r M') (hp : ∀ r M', post r M' → S) (hI : I) (hA : A) (hS : ¬ S) : r = zI (-2000000003) ∧ M' = M := by
  obtain ⟨h1, h2⟩ := k_thr h (fun r M' z => hS (hp r M' z))
  rcases h2 with h2 | h2 | h2
  · exact absurd hI (oX_I h2.1)
  · exact absurd hA (oX_A h2.1).2
  · exact ⟨h2.2, h1⟩
