/-! what the class reads of the machine's own cells: a static field, class objects, strings -/
def cStr : List (Nat × String) := [(46, "a stroke goes to another dot"), (57, "the pen has all strokes that it can have"), (70, "a letter has 1 to 6 strokes"), (76, "two strokes are on one line"), (79, "there are all letters that there can be"), (94, "places begin at 0"), (104, "an age is 5 to 16"), (106, "there are all pupils that there can be"), (119, "the press prints 1 to 50 sheets"), (132, "there are all scripts that there can be"), (145, "there is no sheet for it"), (165, "there is no such kind of slips"), (183, "a mark is 0 to 20"), (185, "the examiner was taken out"), (193, "the examiner has marked it"), (198, "no more marks are taken"), (207, "the examiner was taken out before"), (219, "the script is shown"), (221, "the script has no grade"), (226, "a class votes with 0 to 5 points"), (228, "the script is not shown"), (231, "the script is by a pupil of the class"), (245, "places begin at 1"), (247, "there is no such dot"), (249, "there is no such class"), (251, "there is no such band"), (253, "there is no such examiner"), (255, "there is no such letter"), (257, "there is no such pupil"), (259, "there is no such script")]
/-- words of a throw that hang on the classes' tables -/
def cDW : List Cond := [.declares ⟨"java/lang/RuntimeException", "<init>", "(Ljava/lang/String;)V"⟩, .declares ⟨"java/lang/Exception", "<init>", "(Ljava/lang/String;)V"⟩, .declares ⟨"java/lang/Throwable", "<init>", "(Ljava/lang/String;)V"⟩, .castable "java/lang/IndexOutOfBoundsException" "java/lang/IndexOutOfBoundsException", .castable "java/lang/IllegalArgumentException" "java/lang/IllegalArgumentException", .castable "java/lang/IllegalStateException" "java/lang/IllegalStateException"]
theorem cDW_tab : ∀ w ∈ cDW, w.onTables = true := by
  intro w hw
  simp only [cDW, List.mem_cons, List.not_mem_nil, or_false] at hw
  rcases hw with rfl | rfl | rfl | rfl | rfl | rfl <;> rfl
theorem cDW_warm {s U : State} (hW : s.WarmedH U.vm) (h : ∀ w ∈ cDW, va_Nw w s) : ∀ w ∈ cDW, va_Nw w U := by
  intro w hw
  have h1 := h w hw
  simp only [cDW, List.mem_cons, List.not_mem_nil, or_false] at hw
  rcases hw with rfl | rfl | rfl | rfl | rfl | rfl
  · exact va_Nw.warmD hW h1
  · exact va_Nw.warmD hW h1
  · exact va_Nw.warmD hW h1
  · exact va_Nw.warmC hW h1
  · exact va_Nw.warmC hW h1
  · exact va_Nw.warmC hW h1
def cX (de mi : Nat) (A : Nat → Prop) (U : State) (H : Heap) : Prop :=
  va_Z "java/util/ArrayList" "DEFAULTCAPACITY_EMPTY_ELEMENTDATA" "[Ljava/lang/Object;" (.ref de) A U H ∧
  va_T (.object "java/lang/Object") de 0 (fun _ => .null) A U H ∧
  vx_Zq Bundle.tN "UNASSIGNED_STACK" Bundle.steD A U H ∧ vx_Zq Bundle.tN "SUPPRESSED_SENTINEL" Bundle.listD A U H ∧
  va_Mi "[Ljava/lang/Object;" mi U ∧ va_Dc U ∧ va_AO "java/lang/Object" U ∧ (∀ C ∈ ["InkHall$Strokes", "InkHall$Pupil", "InkHall$Script"], va_Nw (.castable C "java/lang/Object") U) ∧
  (∀ x ∈ cStr, ∃ sa : Nat, vk_R RX5 x.1 x.2 sa U) ∧ ∀ w ∈ cDW, va_Nw w U
section CX
variable {de mi : Nat} {A B : Nat → Prop} {U s : State} {H H1 : Heap}
theorem cX.kept (h : cX de mi A U H) (hq : ∀ a : Nat, a < H.size → ¬ A a → H1[a]? = H[a]?) : cX de mi A U H1 :=
  ⟨h.1.kept hq, h.2.1.kept hq, h.2.2.1.kept hq, h.2.2.2.1.kept hq, h.2.2.2.2⟩
theorem cX.narrow (h : cX de mi A U H) (hAB : ∀ q, B q → A q) : cX de mi B U H :=
  ⟨h.1.narrow hAB, h.2.1.narrow hAB, h.2.2.1.narrow hAB, h.2.2.2.1.narrow hAB, h.2.2.2.2⟩
theorem cX.warm (hW : s.WarmedH U.vm) (h : cX de mi A s H) : cX de mi A U H :=
  ⟨va_Z.moved hW.alike h.1, va_T.moved hW.alike h.2.1, vx_Zq.moved hW.alike h.2.2.1, vx_Zq.moved hW.alike h.2.2.2.1, va_Mi.moved hW.alike h.2.2.2.2.1, va_Dc.moved hW.alike h.2.2.2.2.2.1, va_AO.moved hW.alike h.2.2.2.2.2.2.1,
    fun C hC => va_Nw.warmC hW (h.2.2.2.2.2.2.2.1 C hC), fun x hx => (h.2.2.2.2.2.2.2.2.1 x hx).imp fun sa hsa => vk_R.warm hW hsa, cDW_warm hW h.2.2.2.2.2.2.2.2.2⟩
theorem cX.call (h : cX de mi A U H) (g : JFrame) (mk : MethodId) (a : Array Value) : cX de mi A (U.calling g mk a) H :=
  ⟨va_Z.moved (u := U) (Vm.Alike.refl U.vm) h.1, va_T.moved (u := U) (Vm.Alike.refl U.vm) h.2.1, vx_Zq.moved (u := U) (Vm.Alike.refl U.vm) h.2.2.1, vx_Zq.moved (u := U) (Vm.Alike.refl U.vm) h.2.2.2.1, va_Mi.moved (u := U) (Vm.Alike.refl U.vm) h.2.2.2.2.1, va_Dc.moved (u := U) (Vm.Alike.refl U.vm) h.2.2.2.2.2.1, va_AO.moved (u := U) (Vm.Alike.refl U.vm) h.2.2.2.2.2.2.1,
    fun C hC => va_Nw.same (u := U) (U := U.calling g mk a) rfl rfl (h.2.2.2.2.2.2.2.1 C hC), fun x hx => (h.2.2.2.2.2.2.2.2.1 x hx).imp fun sa hsa => vk_R.same (u := U) (U := U.calling g mk a) rfl hsa, fun w hw => va_Nw.same (u := U) (U := U.calling g mk a) (cDW_tab w hw) rfl (h.2.2.2.2.2.2.2.2.2 w hw)⟩
end CX
/-- a start that has them -/
def mPx (de mi : Nat) (D : va_G) (cy : Nat → ClassId) (M : mM) (sz : Nat) (av : List Value) : Array Value → State → Prop := va_Pc av (fun U => U.heap.size = sz ∧ pm D M U.heap ∧ mK D cy U ∧ cX de mi (mA M sz) U U.heap)
theorem mPx_blind {de mi : Nat} {D : va_G} {cy : Nat → ClassId} {M : mM} {sz : Nat} {av : List Value} : FrameBlind (mPx de mi D cy M sz av) := fun a U g mk q => ⟨q.1, q.2.1, q.2.2.1, va_K.moved (u := U) (U := U.calling g mk a) (Vm.Alike.refl U.vm) q.2.2.2.1, q.2.2.2.2.call g mk a⟩
def mXi (l : Launch) (y : MethodName) (ws : List Cond) (rm : Room) (de mi : Nat) (D : va_G) (cy : Nat → ClassId) (M : mM) (sz : Nat) (av : List Value) (post : Int32 → mM → Prop) (mc ms : Nat) : Prop := Met l y ws rm (mPx de mi D cy M sz av) (va_Qi post (mB D M sz) (mA M sz)) mc ms (mA M sz)
def mXv (l : Launch) (y : MethodName) (ws : List Cond) (rm : Room) (de mi : Nat) (D : va_G) (cy : Nat → ClassId) (M : mM) (sz : Nat) (av : List Value) (post : mM → Prop) (mc ms : Nat) : Prop := Met l y ws rm (mPx de mi D cy M sz av) (va_Qv post (mB D M sz) (mA M sz)) mc ms (mA M sz)
def mBr (D : va_G) (M : mM) (sz : Nat) (post : Nat → mM → Prop) : mM → Nat → State → Prop := fun M' a t => (pm D M' t.heap ∧ mD (mA M sz) M') ∧ post a M'
/-- .. and an answer that is a reference -/
def mXr (l : Launch) (y : MethodName) (ws : List Cond) (rm : Room) (de mi : Nat) (D : va_G) (cy : Nat → ClassId) (M : mM) (sz : Nat) (av : List Value) (post : Nat → mM → Prop) (mc ms : Nat) : Prop := Met l y ws rm (mPx de mi D cy M sz av) (va_Qr (fun _ => True) (mBr D M sz post) (mA M sz)) mc ms (mA M sz)
def mWr (l : Launch) (y : MethodName) (ws : List Cond) (rm : Room) (D : va_G) (cy : Nat → ClassId) (M : mM) (sz : Nat) (av : List Value) (post : Nat → mM → Prop) (mc ms : Nat) : Prop := Met l y ws rm (mPw D cy M sz av) (va_Qr (fun _ => True) (mBr D M sz post) (mA M sz)) mc ms (mA M sz)
section XP
variable {de mi : Nat} {D : va_G} {cy : Nat → ClassId} {M : mM} {s : State} {H : Heap} {b ci : Nat} {fs : List Value} {q : vw_C} {As : List Value} {A : Nat → Prop} {locs : List Loc}
theorem cX.at (hX : cX de mi A s s.heap) (hD : mD A M) (hS : va_S A s.heap H locs) (hA : ∀ q, s.heap.size ≤ q → A q) {U : State} (hU : U.heap = H) (hW : s.WarmedH U.vm) : cX de mi (mA M H.size) U U.heap := by
  rw [hU]
  exact ((hX.kept hS.2.1).narrow (mA_sub hD hS hA)).warm hW
theorem mPreXV (hX : cX de mi A s s.heap) (hD : mD A M) (hS : va_S A s.heap H locs) (hA : ∀ q, s.heap.size ≤ q → A q) (hK : mK D cy s) (hP : pm D M H) (he : M b = some (.inr (ci, fs))) (hc : vwCl[ci]? = some q) : PreV s H q.1 b (mPx de mi D cy M H.size (.ref b :: As)) As :=
  ⟨mPx_blind, va_recv hK (hP.one he) hc (q0 := 0) rfl, fun U hU hW => ⟨rfl, by rw [hU], by rw [hU]; exact hP, va_K.moved hW.alike hK, hX.at hD hS hA hU hW⟩⟩
theorem mPreXS (hX : cX de mi A s s.heap) (hD : mD A M) (hS : va_S A s.heap H locs) (hA : ∀ q, s.heap.size ≤ q → A q) (hK : mK D cy s) (hP : pm D M H) : PreS s H (mPx de mi D cy M H.size As) As :=
  ⟨mPx_blind, fun U hU hW => ⟨rfl, by rw [hU], by rw [hU]; exact hP, va_K.moved hW.alike hK, hX.at hD hS hA hU hW⟩⟩
end XP
theorem mX.of {l : Launch} {y : MethodName} {ws ws' : List Cond} {rm : Room} {de mi : Nat} {D : va_G} {cy : Nat → ClassId} {M : mM} {av : List Value} {cc : ByteArray} {maxL : Nat} {ret : Option FieldType} {Qc : Array Value → State → Outcome → State → Prop} {sz mc ms : Nat} (hy : plainName y.cls = true) (hw : ws = Cond.code y cc maxL ret :: ws') (hn : (lg_sl av).length ≤ maxL)
    (body : ∀ (p : Program) (e : Env) (s : State) (m : MethodId) (args : Array Value) (below : List Frame) (meth : Method) (c : Code) (ls : Array Slot), sz = s.heap.size → p.tables.exec = Jvm.exec → c.code = cc → meth.sig.returnType = ret → (∀ w ∈ ws, w.before args s = true) → s.vm.findClass y.cls = some m.cls → meth.locks = false → c.maxLocals = maxL → meth.name = y.name → pm D M s.heap → mD (mA M sz) M → va_S (mA M sz) s.heap s.heap [] → (∀ q : Nat, s.heap.size ≤ q → mA M sz q) → mK D cy s → cX de mi (mA M sz) s s.heap → lv_has ls maxL (lv_args 0 av) →
      W p l e rm s m args below meth c s.heap [] 0 0 (MQ below Qc args s mc ms (mA M sz)) (F0 m 0 ls [])) : Met l y ws rm (mPx de mi D cy M sz av) Qc mc ms (mA M sz) := by
  refine Met.ofW (cc := cc) (maxL := maxL) (ret := ret) hy hw ?_
  intro p e s m args below meth c s₁ B hml hv
  obtain ⟨rfl, hsz, hP, hK, hX⟩ := hv
  have hl := lv_entry av (n := maxL) hn
  rw [lg_entry_eq]
  exact body p e s m av.toArray below meth c _ hsz.symm B.exec B.bytes B.returns (atoms_spec (ws := ws) B.pre) (findClass_of_methodNamed B.named) B.notSynchronized hml (name_of_methodNamed B.named B.method).1 hP (fun q h => Or.inl h) va_S.rf (fun q h => Or.inr (by rw [← hsz]; exact h)) hK hX hl
section XE
variable {p : Program} {l : Launch} {e : Env} {R : Room} {s : State} {m : MethodId} {args : Array Value} {below : List Frame} {meth : Method} {c : Code} {H : Heap} {locs : List Loc} {cells slots : Nat} {Q : State → Prop}
variable {cc : ByteArray} {pc : Nat} {ls : Array Slot} {rest : List Value} {D : va_G} {A : Nat → Prop} {cy : Nat → ClassId} {M M0 : mM} {sz mc ms a : Nat} {H0 : Heap}
theorem e_wr {post : Nat → mM → Prop} {rt : FieldType} (hexec : p.tables.exec = Jvm.exec) (hb : c.code = cc) (hr : meth.sig.returnType = some rt) (hrt : (∃ n, rt = .object n) ∨ ∃ t, rt = .array t) (hlocks : meth.locks = false) (hP : pm D M H) (hD : mD (mA M0 sz) M) (hS : va_S (mA M0 sz) s.heap H locs) (hp : post a M) (hdg : decode cc pc = .ok (.areturn, 1)) (hc : cells ≤ mc := by exact Nat.le_of_ble_eq_true rfl) (hs : slots ≤ ms := by exact Nat.le_of_ble_eq_true rfl) : W p l e R s m args below meth c H locs cells slots (MQ below (va_Qr (fun _ => True) (mBr D M0 sz post) (mA M0 sz)) args s mc ms (mA M0 sz)) (F0 m pc ls [.ref a]) :=
  W.widen hc hs (W.aret hexec hb hr hrt (Or.inr ⟨a, rfl⟩) (fun t ht hW => ⟨⟨M, a, rfl, trivial, ⟨by rw [ht]; exact hP, hD⟩, hp⟩, hS.F ht⟩) hS.2.2 hdg hlocks)
theorem m_callr {st0 : List Value} {a9 : Array Value} {post : Nat → mM → Prop} (hr : va_Run p l e R s m args below meth c H locs cells slots mc ms (F0 m pc ls st0) rest (va_Qr (fun _ => True) (mBr D M H.size post) (mA M H.size) a9) (mA M H.size)) (hD : mD A M) (hA : ∀ q, s.heap.size ≤ q → A q) (hS : va_S A s.heap H locs)
    (kk : ∀ (r : Nat) (M1 : mM) (H1 : Heap) (locs1 : List Loc), post r M1 → pm D M1 H1 → mD A M1 → va_S A s.heap H1 locs1 → H.size ≤ H1.size → mD (mA M H.size) M1 → (∀ q : Nat, q < H.size → ¬ mA M H.size q → H1[q]? = H[q]?) → W p l e R s m args below meth c H1 locs1 (cells + mc) (slots + ms) Q (F0 m (pc + 3) ls (.ref r :: rest))) : W p l e R s m args below meth c H locs cells slots Q (F0 m pc ls st0) :=
  va_callr hr hS (fun q _ h => mA_sub hD hS hA q h) (mA_sub hD hS hA) (fun u ra t H1 locs1 ht hvm _ hB hz hk hS1 => kk ra u H1 locs1 hB.2 (by rw [← ht]; exact hB.1.1) (fun q hq => mA_sub hD hS hA q (hB.1.2 q hq)) hS1 hz hB.1.2 hk)
theorem m_ald {g : Nat → Option Nat} {n i x : Nat} (hexec : p.tables.exec = Jvm.exec) (hb : c.code = cc) (hK : mK D cy s) (hP : pm D M H) (he : M a = some (eQ cy n g)) (hi : i < n) (hn : n < 2 ^ 31) (hx : g i = some x) (hdg : decode cc pc = .ok (.aaload, 1))
    (kk : W p l e R s m args below meth c H locs cells slots Q (F0 m (pc + 1) ls (.ref x :: rest))) : W p l e R s m args below meth c H locs cells slots Q (F0 m pc ls (.int (nI i) :: .ref a :: rest)) := by
  refine n_qald hexec hb hK hP he hi hn hdg ?_
  rw [hx]
  exact kk
/-- an object into a row of references -/
theorem m_qst {g : Nat → Option Nat} {n i x ci : Nat} {fs : List Value} {r : vw_C} (hexec : p.tables.exec = Jvm.exec) (hb : c.code = cc) (hK : mK D cy s) (hP : pm D M H) (hD : mD A M) (hS : va_S A H0 H locs) (he : M a = some (eQ cy n g)) (hx : M x = some (.inr (ci, fs))) (hc : vwCl[ci]? = some r) (hca : va_Nw (.castable r.1 "java/lang/Object") s) (hi : i < n) (hn : n < 2 ^ 31) (hdg : decode cc pc = .ok (.aastore, 1))
    (kk : ∀ (H1 : Heap) (locs1 : List Loc), pm D (mset M a (eQ cy n (va_up g i (some x)))) H1 → mD A (mset M a (eQ cy n (va_up g i (some x)))) → va_S A H0 H1 locs1 → W p l e R s m args below meth c H1 locs1 cells slots Q (F0 m (pc + 1) ls rest)) : W p l e R s m args below meth c H locs cells slots Q (F0 m pc ls (.ref x :: .int (nI i) :: .ref a :: rest)) := by
  obtain ⟨r', hr', cellV, g1, g2, g3, -⟩ := hP x _ hx
  have hcls := (hK.1 ci r hc).2
  obtain ⟨kA, comp, k1, k2, k3, -⟩ := (hK.2 2 _ rfl).2
  obtain ⟨kE, hkE, -⟩ := Vm.findClass_spec k3
  obtain ⟨c0, t1, f1, f2, f3⟩ := Cond.castable_spec (va_Nw.use (A := args) rfl hca)
  cases hcls.1.symm.trans f1
  cases k3.symm.trans f2
  obtain ⟨kC, hkC, -⟩ := hcls.2
  refine W.aast hexec hb (hP a _ he) (fun q h => by cases h) (fun h => by cases h) k1 k2 rfl hkE ⟨nI_pos (by omega), by show _ < (arrV _ _ _).slots.size; rw [arrV_size, nI_clamp (by omega)]; exact hi⟩ g1 (fun q h => by rw [g3] at h; cases h) (by rw [g2]; exact hkC) (by rw [g2]; exact f3) rfl rfl hdg fun H1 e z oq => ?_
  refine kk H1 _ (hP.set ?_ oq) (hD.set (hD.at he)) (hS.put z oq (hD.at he))
  show H1[a]? = some (vp_cell _ _)
  rw [e, vp_cell_q, vp_cell_q, arrV_store, nI_clamp (by omega)]
  congr 2
  funext q
  by_cases hq : q = i
  · subst hq
    simp [updV, va_up, va_rf]
  · simp [updV, va_up, hq]
/-- a new row of references -/
theorem m_newq {own : String} {index n : Nat} (hexec : p.tables.exec = Jvm.exec) (hb : c.code = cc) (hown : s.vm.findClass own = some m.cls) (hcl : (Cond.classLink own index "java/lang/Object").before args s = true) (hover : va_AO "java/lang/Object" s) (hK : mK D cy s) (hP : pm D M H) (hD : mD A M) (hS : va_S A H0 H locs) (hA : ∀ q, H0.size ≤ q → A q)
    (hn : n < 2 ^ 29) (hbytes : n * 4 ≤ 536870912) (hcells : cells + 1 ≤ R.cells) (hslots : slots + n ≤ R.slots) (hdg : decode cc pc = .ok (.anewarray index, 3))
    (kk : ∀ (q : Nat) (H1 : Heap), M q = none → q = H.size → H1.size = H.size + 1 → pm D (mset M q (eQ cy n (fun _ => none))) H1 → mD A (mset M q (eQ cy n (fun _ => none))) → va_S A H0 H1 locs →
      W p l e R s m args below meth c H1 locs (cells + 1) (slots + n) Q (F0 m (pc + 3) ls (.ref q :: rest))) : W p l e R s m args below meth c H locs cells slots Q (F0 m pc ls (.int (nI n) :: rest)) := by
  refine W.anew hexec hb hown hcl (va_AO.use hover) rfl hdg rfl (nI_pos (by omega)) (by rw [nI_clamp (by omega)]; exact hbytes) hcells (by rw [nI_clamp (by omega)]; exact hslots) fun cA kA comp f1 f2 f3 f4 => ?_
  rw [nI_clamp (by omega)]
  have hcA : cA = cy 2 := by
    obtain ⟨kB, comp2, -, -, -, h4⟩ := (hK.2 2 _ rfl).2
    exact Option.some.inj (f1.symm.trans h4)
  subst hcA
  generalize hH1 : H.push ({ cls := cy 2, slots := Array.replicate n .null, vm := .none } : Cell) = H1
  have z1 : H1.size = H.size + 1 := by rw [← hH1, Array.size_push]
  have e1 : H1[H.size]? = some (arrV (cy 2) n (fun _ => .null)) := by rw [← hH1, Array.getElem?_push_size, ← arrV_new]
  have o1 : ∀ q : Nat, q < H.size → H1[q]? = H[q]? := fun q hq => by rw [← hH1, Array.getElem?_push, if_neg (Nat.ne_of_lt hq)]
  refine kk H.size H1 (hP.fresh (Nat.le_refl _)) rfl z1 ?_ (hD.set (hA _ hS.1)) ⟨Nat.le_trans hS.1 (by omega), fun x h1 h2 => (o1 x (Nat.lt_of_lt_of_le h1 hS.1)).trans (hS.2.1 x h1 h2), hS.2.2⟩
  intro q e' hq
  by_cases hqa : q = H.size
  · subst hqa
    rw [mset_self] at hq
    cases hq
    exact e1
  · rw [mset_ne hqa] at hq
    exact (hP q e' hq).kept (o1 q (hP.lt hq))
end XE
theorem m_cast {p : Program} {l : Launch} {e : Env} {R : Room} {s : State} {m : MethodId} {args : Array Value} {below : List Frame} {meth : Method} {c : Code} {H : Heap} {locs : List Loc} {cells slots : Nat} {Q : State → Prop} {cc : ByteArray} {pc : Nat} {ls : Array Slot} {rest : List Value} {D : va_G} {cy : Nat → ClassId} {M : mM} {own nm : String} {index ci a : Nat} {fs : List Value} {r : vw_C} (hexec : p.tables.exec = Jvm.exec) (hb : c.code = cc) (hown : s.vm.findClass own = some m.cls) (hlink : (Cond.classLink own index nm).before args s = true) (hK : mK D cy s) (hP : pm D M H) (he : M a = some (.inr (ci, fs))) (hc : vwCl[ci]? = some r) (hn : r.1 = nm) (hdg : decode cc pc = .ok (.checkcast index, 3))
    (k : W p l e R s m args below meth c H locs cells slots Q (F0 m (pc + 3) ls (.ref a :: rest))) : W p l e R s m args below meth c H locs cells slots Q (F0 m pc ls (.ref a :: rest)) := by
  subst hn
  have hcl := (hK.1 ci r hc).2
  obtain ⟨r', hr', cellV, g1, g2, g3, -⟩ := hP a _ he
  exact va_castS hexec hb hown hlink hcl ⟨cellV, g1, by rw [g3]; rfl, by rw [g2]; exact hcl.1⟩ hdg k
theorem pm.two {D : va_G} {M : mM} {H : Heap} (h : pm D M H) {a b : Nat} {e f : va_E} (he : M a = some e) (hf : M b = some f) : va_P D vwCl [(a, e), (b, f)] H := fun k q hk => by
  match k with
  | 0 => cases hk; exact h a e he
  | 1 => cases hk; exact h b f hf
  | k + 2 => cases hk
theorem mD.two {A : Nat → Prop} {M : mM} (h : mD A M) {a b : Nat} {e f : va_E} (he : M a = some e) (hf : M b = some f) (hab : a ≠ b) : va_D A [(a, e), (b, f)] :=
  ⟨fun i j p q hi hj hpq => (by
    match i, j with
    | 0, 0 => rfl
    | 0, 1 => cases hi; cases hj; exact absurd hpq hab
    | 0, j + 2 => cases hj
    | 1, 0 => cases hi; cases hj; exact absurd hpq.symm hab
    | 1, 1 => rfl
    | 1, j + 2 => cases hj
    | i + 2, _ => cases hi), fun k q hk => (by
    match k with
    | 0 => cases hk; exact h.at he
    | 1 => cases hk; exact h.at hf
    | k + 2 => cases hk)⟩
/-- a contract from any start -/
theorem mG.of {l : Launch} {y : MethodName} {ws ws' : List Cond} {rm : Room} {av : List Value} {cc : ByteArray} {maxL : Nat} {ret : Option FieldType} {P0 : State → Prop} {Qc : Array Value → State → Outcome → State → Prop} {mc ms : Nat} {free : Addr → Prop} (hy : plainName y.cls = true) (hw : ws = Cond.code y cc maxL ret :: ws') (hn : (lg_sl av).length ≤ maxL)
    (body : ∀ (p : Program) (e : Env) (s : State) (m : MethodId) (args : Array Value) (below : List Frame) (meth : Method) (c : Code) (ls : Array Slot), p.tables.exec = Jvm.exec → c.code = cc → meth.sig.returnType = ret → (∀ w ∈ ws, w.before args s = true) → s.vm.findClass y.cls = some m.cls → meth.locks = false → c.maxLocals = maxL → P0 s → lv_has ls maxL (lv_args 0 av) →
      W p l e rm s m args below meth c s.heap [] 0 0 (MQ below Qc args s mc ms free) (F0 m 0 ls [])) : Met l y ws rm (va_Pc av P0) Qc mc ms free := by
  refine Met.ofW (cc := cc) (maxL := maxL) (ret := ret) hy hw ?_
  intro p e s m args below meth c s₁ B hml hv
  obtain ⟨rfl, hv⟩ := hv
  have hl := lv_entry av (n := maxL) hn
  rw [lg_entry_eq]
  exact body p e s m av.toArray below meth c _ B.exec B.bytes B.returns (atoms_spec (ws := ws) B.pre) (findClass_of_methodNamed B.named) B.notSynchronized hml hv hl
section MU
variable {p : Program} {l : Launch} {e : Env} {R : Room} {s : State} {m : MethodId} {args : Array Value} {below : List Frame} {meth : Method} {c : Code} {H : Heap} {locs : List Loc} {cells slots : Nat} {Q : State → Prop}
variable {cc : ByteArray} {pc : Nat} {ls : Array Slot} {rest : List Value} {D : va_G} {A : Nat → Prop} {M : mM} {a : Nat} {H0 : Heap}
/-- a field that the pool names by a class below the one that declares it -/
theorem m_getU {own ref C : String} {T : u_T} {N ci index : Nat} {tys : List (ClassId × FieldType)} (hexec : p.tables.exec = Jvm.exec) (hb : c.code = cc) (hts : ∀ w ∈ u_ws C T N, w.before args s = true) (hown : s.vm.findClass own = some m.cls) (hK : va_K D vwCl tys s) (hP : pm D M H) {fs : List Value} (he : M a = some (.inr (ci, fs))) (hc : vwCl[ci]? = some (C, T, N)) (k : Nat) (hk : k < N) (hlink : (Cond.fieldLink own index ref (T k).2.1 (T k).2.2.1).before args s = true) (hsm : (Cond.sameField ref (T k).1 (T k).2.1 (T k).2.2.1).before args s = true) {v : Value} (hv : fs[k]? = some v) (hdg : decode cc pc = .ok (.getfield index, 3))
    (kk : W p l e R s m args below meth c H locs cells slots Q (F0 m (pc + 3) ls (v :: rest))) : W p l e R s m args below meth c H locs cells slots Q (F0 m pc ls (.ref a :: rest)) :=
  va_get hexec hb hts (fun _ h => h) hown hK (hP.one he) 0 rfl hc k hk hlink (fun x h => u_same hsm x h) hv hdg kk
theorem m_putU {own ref C : String} {T : u_T} {N ci index : Nat} {tys : List (ClassId × FieldType)} (hexec : p.tables.exec = Jvm.exec) (hb : c.code = cc) (hts : ∀ w ∈ u_ws C T N, w.before args s = true) (ty0 : Nat → FieldType) (hty : ∀ k, k < N → parseFieldDescriptor (T k).2.2.1 = some (ty0 k)) (hnm : ∀ a, a < N → ∀ b, b < N → a ≠ b → (T a).2.1 ≠ (T b).2.1) (hown : s.vm.findClass own = some m.cls) (hK : va_K D vwCl tys s) (hP : pm D M H) (hD : mD A M) (hS0 : va_S A H0 H locs) {fs : List Value} (he : M a = some (.inr (ci, fs))) (hc : vwCl[ci]? = some (C, T, N)) (k : Nat) (hk : k < N) (hlink : (Cond.fieldLink own index ref (T k).2.1 (T k).2.2.1).before args s = true) (hsm : (Cond.sameField ref (T k).1 (T k).2.1 (T k).2.2.1).before args s = true) (hfin : (T k).2.2.2 = false) {v : Value} (hn : narrow (ty0 k) v = v) (hfit : fits (ty0 k) v = true) (hl : k < fs.length)
    (hdg : decode cc pc = .ok (.putfield index, 3)) (kk : ∀ (H1 : Heap) (locs1 : List Loc), pm D (mset M a (.inr (ci, fs.set k v))) H1 → mD A (mset M a (.inr (ci, fs.set k v))) → va_S A H0 H1 locs1 → W p l e R s m args below meth c H1 locs1 cells slots Q (F0 m (pc + 3) ls rest)) : W p l e R s m args below meth c H locs cells slots Q (F0 m pc ls (v :: .ref a :: rest)) := by
  have hap := va_apart (own := own) hts (fun _ h => h) ty0 hty hnm hK hc
  obtain ⟨r, h1, cell, q1, q2, q3, q4⟩ := hP a _ he
  have hr : r = (C, T, N) := Option.some.inj (h1.symm.trans hc)
  subst hr
  obtain ⟨hS, hfc, kC, hkC, hkind⟩ := hK.1 ci _ hc
  obtain ⟨cf, kf, fi, f, hi, hsl⟩ := hS k hk
  have hlay := hts _ (u_in_lay hk)
  unfold u_lay at hlay
  rw [if_neg (by rw [hfin]; decide)] at hlay
  have hst := (u_facts hfc hkC (u_lays hts (fun _ h => h) hk) hi).1
  have h6 := u_store hfc hkC hkind hlay hi (hty k hk) hn hfit
  refine W.putK hexec hb (f := f) ⟨hown, hlink, ⟨_, _, _, u_same hsm _ hi⟩, hst⟩ (by rw [q2]; exact h6) q1 q3 (by rw [hsl]; exact k2_hasslot (q4 k hk)) rfl rfl hdg fun H' e1 e2 e3 => ?_
  rw [hsl] at e1 ⊢
  exact kk H' _ (hP.set ⟨_, hc, t_OB.to (V := updV (vp_V fs) k v) ⟨_, e1, q2, q3, t_set q4 hap hk v⟩ (fun j _ => vp_updV_set hl v j)⟩ e3) (hD.set (hD.at he)) (hS0.put e2 e3 (hD.at he))
end MU
