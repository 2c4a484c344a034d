/-! the law's wrappers: what the class throws is caught and numbered -/
abbrev xIO : String := "java/lang/IndexOutOfBoundsException"
abbrev xIA : String := "java/lang/IllegalArgumentException"
abbrev xIS : String := "java/lang/IllegalStateException"
def cNN : List (String × String) := [(xIO, xIA), (xIO, xIS), (xIA, xIO), (xIA, xIS), (xIS, xIO), (xIS, xIA)]
def cN (U : State) : Prop := ∀ q ∈ cNN, va_Nc q.1 q.2 U
theorem cN.moved {u U : State} (hvm : u.vm.Alike U.vm) (h : cN u) : cN U := fun q hq => va_Nc.moved hvm (h q hq)
def wPx (de mi : Nat) (D : va_G) (cy : Nat → ClassId) (M : mM) (sz : Nat) (av : List Value) : Array Value → State → Prop := va_Pc av (fun U => (U.heap.size = sz ∧ pm D M U.heap ∧ mK D cy U ∧ cX de mi (mA M sz) U U.heap) ∧ cN U)
theorem wPx_blind {de mi : Nat} {D : va_G} {cy : Nat → ClassId} {M : mM} {sz : Nat} {av : List Value} : FrameBlind (wPx de mi D cy M sz av) := fun a U g mk q => ⟨q.1, ⟨q.2.1.1, q.2.1.2.1, va_K.moved (u := U) (U := U.calling g mk a) (Vm.Alike.refl U.vm) q.2.1.2.2.1, q.2.1.2.2.2.call g mk a⟩, cN.moved (u := U) (U := U.calling g mk a) (Vm.Alike.refl U.vm) q.2.2⟩
/-- nothing is thrown -/
def wXC (M : mM) (sz : Nat) : String → State → State → Prop := vx_X (fun _ : Unit => False) (fun _ _ _ => True) (mA M sz)
def wMet (l : Launch) (y : MethodName) (ws : List Cond) (rm : Room) (de mi : Nat) (D : va_G) (cy : Nat → ClassId) (M : mM) (sz : Nat) (av : List Value) (post : Int32 → mM → Prop) (mc ms : Nat) : Prop := vx_Met l y ws rm (wPx de mi D cy M sz av) (va_Qi post (mB D M sz) (mA M sz)) (wXC M sz) mc ms (mA M sz)
theorem wMet.of {l : Launch} {y : MethodName} {ws ws' : List Cond} {rm : Room} {de mi : Nat} {D : va_G} {cy : Nat → ClassId} {M : mM} {av : List Value} {cc : ByteArray} {maxL : Nat} {ret : Option FieldType} {hh : List (Nat × Nat × Nat × Nat)} {post : Int32 → mM → Prop} {sz mc ms : Nat} (hy : plainName y.cls = true) (hw : ws = Cond.codeWith y cc maxL ret hh :: ws') (hn : (lg_sl av).length ≤ maxL)
    (body : ∀ (p : Program) (e : Env) (s : State) (m : MethodId) (args : Array Value) (below : List Frame) (meth : Method) (c : Code) (ls : Array Slot), sz = s.heap.size → p.tables.exec = Jvm.exec → c.code = cc → meth.sig.returnType = ret → (∀ w ∈ ws, w.before args s = true) → s.vm.findClass y.cls = some m.cls → meth.locks = false → c.maxLocals = maxL → c.exceptionTable.toList = tableOf hh → pm D M s.heap → mD (mA M sz) M → va_S (mA M sz) s.heap s.heap [] → (∀ q : Nat, s.heap.size ≤ q → mA M sz q) → mK D cy s → cX de mi (mA M sz) s s.heap → cN s → lv_has ls maxL (lv_args 0 av) →
      W p l e rm s m args below meth c s.heap [] 0 0 (vx_MQ below (va_Qi post (mB D M sz) (mA M sz)) (wXC M sz) args s mc ms (mA M sz)) (F0 m 0 ls [])) : wMet l y ws rm de mi D cy M sz av post mc ms := by
  refine vx_ofWH (cc := cc) (maxL := maxL) (ret := ret) (hh := hh) hy hw ?_
  intro p e s m args below meth c s₁ B hml hv
  obtain ⟨rfl, ⟨hsz, hP, hK, hX⟩, hN⟩ := hv
  have hl := lv_entry av (n := maxL) hn
  rw [lg_entry_eq]
  have hts := atoms_spec (ws := ws) B.pre
  exact body p e s m av.toArray below meth c _ hsz.symm B.exec B.bytes B.returns hts (findClass_of_methodNamed B.named) B.notSynchronized hml (vx_table (x := y) B (hts _ (by rw [hw]; exact List.mem_cons_self))) hP (fun q h => Or.inl h) va_S.rf (fun q h => Or.inr (by rw [← hsz]; exact h)) hK hX hN hl
/-- what a wrapper leaves: the answer in the row at o, or the number of what was thrown -/
def wPost (cy : Nat → ClassId) (Mh : mM) (o : Nat) (post : Int32 → mM → Prop) (postX : String → Prop) (tab : List (String × Nat)) (r : Int32) (M' : mM) : Prop :=
  (∃ (v : Int32) (Mh' : mM) (g : Nat → Int64), post v Mh' ∧ Mh' o = none ∧ M' = mset Mh' o (eJ cy 1 g) ∧ g 0 = v.toInt64 ∧ r = nI 0) ∨ (∃ (E : String) (k : Nat) (g : Nat → Int64), postX E ∧ (E, k) ∈ tab ∧ M' = mset Mh o (eJ cy 1 g) ∧ r = nI k)
theorem pm_out {D : va_G} {M : mM} {o : Nat} {e : va_E} {H : Heap} (ho : M o = none) (hP : pm D (mset M o e) H) : pm D M H := fun a f ha => hP a f (by rw [mset_ne (fun z => by rw [z, ho] at ha; cases ha)]; exact ha)
theorem mD_out {A : Nat → Prop} {M : mM} {o : Nat} {e : va_E} (hD : mD A (mset M o e)) : mD A M := fun q hq => hD q (mset_mono hq)
theorem out_keep {D : va_G} {M M1 : mM} {o : Nat} {e : va_E} {H H1 : Heap} (hP : pm D (mset M o e) H) (ho : M o = none) (hP1 : pm D M1 H1) (hd : mD (mA M H.size) M1) (hk : ∀ q : Nat, q < H.size → ¬ mA M H.size q → H1[q]? = H[q]?) : M1 o = none ∧ pm D (mset M1 o e) H1 := by
  have hlt : o < H.size := hP.lt' (by rw [mset_self]; exact fun z => by cases z)
  have hno : ¬ mA M H.size o := fun z => z.elim (fun z => z ho) (fun z => by omega)
  refine ⟨?_, fun q f hq => ?_⟩
  · cases h : M1 o with
    | none => rfl
    | some f => exact absurd (hd o (by rw [h]; exact fun z => by cases z)) hno
  · by_cases eq : q = o
    · subst eq
      rw [mset_self] at hq
      cases hq
      exact (hP q e (mset_self _ _ _)).kept (hk q hlt hno)
    · rw [mset_ne eq] at hq
      exact hP1 q f hq
section WC
variable {p : Program} {l : Launch} {e : Env} {R : Room} {s : State} {m : MethodId} {args : Array Value} {below : List Frame} {meth : Method} {c : Code} {H : Heap} {locs : List Loc} {cells slots : Nat} {Q : State → Prop}
variable {pc : Nat} {ls : Array Slot} {rest st0 : List Value} {D : va_G} {M : mM} {A : Nat → Prop} {mc ms : Nat} {postX : String → Prop} {a : Array Value}
theorem w_calli {post : Int32 → mM → Prop} (hr : vx_Run p l e R s m args below meth c H locs cells slots mc ms (F0 m pc ls st0) rest (va_Qi post (mB D M H.size) (mA M H.size) a) (mXC D M H.size postX) (mA M H.size)) (hD : mD A M) (hA : ∀ q, s.heap.size ≤ q → A q) (hS : va_S A s.heap H locs)
    (kx : ∀ (E : String) (ce : Cell) (q9 : Addr) (H1 : Heap) (locs1 : List Loc), postX E → pm D M H1 → va_S A s.heap H1 locs1 → H.size ≤ H1.size → (∀ q : Nat, q < H.size → ¬ mA M H.size q → H1[q]? = H[q]?) → H1[q9]? = some ce → ce.vm = .none → s.vm.findClass E = some ce.cls → vx_W p l e R s m args below meth c H1 locs1 (cells + mc) (slots + ms) Q (F0 m pc ls rest) q9)
    (kk : ∀ (r : Int32) (M1 : mM) (H1 : Heap) (locs1 : List Loc), post r M1 → pm D M1 H1 → mD A M1 → va_S A s.heap H1 locs1 → H.size ≤ H1.size → mD (mA M H.size) M1 → (∀ q : Nat, q < H.size → ¬ mA M H.size q → H1[q]? = H[q]?) → W p l e R s m args below meth c H1 locs1 (cells + mc) (slots + ms) Q (F0 m (pc + 3) ls (.int r :: rest))) : W p l e R s m args below meth c H locs cells slots Q (F0 m pc ls st0) :=
  vx_calli hr hS (fun q _ h => mA_sub hD hS hA q h) (mA_sub hD hS hA) (fun q _ h => mA_sub hD hS hA q h)
    (fun E ce q9 u t H1 locs1 ht _ _ hB hz hk hS1 hce hcv hcl => kx E ce q9 H1 locs1 hB.1 (by rw [← ht]; exact hB.2) hS1 hz hk hce hcv hcl)
    (fun r u t H1 locs1 ht _ hw hB hz hk hS1 => kk r u H1 locs1 hw (by rw [← ht]; exact hB.1) (fun q hq => mA_sub hD hS hA q (hB.2 q hq)) hS1 hz hB.2 hk)
/-- a call of a wrapper -/
theorem w_call {post : Int32 → mM → Prop} (hr : vx_Run p l e R s m args below meth c H locs cells slots mc ms (F0 m pc ls st0) rest (va_Qi post (mB D M H.size) (mA M H.size) a) (wXC M H.size) (mA M H.size)) (hD : mD A M) (hA : ∀ q, s.heap.size ≤ q → A q) (hS : va_S A s.heap H locs)
    (kk : ∀ (r : Int32) (M1 : mM) (H1 : Heap) (locs1 : List Loc), post r M1 → pm D M1 H1 → mD A M1 → va_S A s.heap H1 locs1 → H.size ≤ H1.size → mD (mA M H.size) M1 → (∀ q : Nat, q < H.size → ¬ mA M H.size q → H1[q]? = H[q]?) → W p l e R s m args below meth c H1 locs1 (cells + mc) (slots + ms) Q (F0 m (pc + 3) ls (.int r :: rest))) : W p l e R s m args below meth c H locs cells slots Q (F0 m pc ls st0) :=
  vx_calli hr hS (fun q _ h => mA_sub hD hS hA q h) (mA_sub hD hS hA) (fun q _ h => mA_sub hD hS hA q h)
    (fun E ce q9 u t H1 locs1 ht _ hF hB hz hk hS1 hce hcv hcl => hF.elim)
    (fun r u t H1 locs1 ht _ hw hB hz hk hS1 => kk r u H1 locs1 hw (by rw [← ht]; exact hB.1) (fun q hq => mA_sub hD hS hA q (hB.2 q hq)) hS1 hz hB.2 hk)
end WC
