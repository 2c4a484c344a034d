/-! a method that may throw: then the picture is as it was -/
def mXC (D : va_G) (M : mM) (sz : Nat) (postX : String → Prop) : String → State → State → Prop := vx_X (fun _ : Unit => True) (fun E _ t => postX E ∧ pm D M t.heap) (mA M sz)
def mVi (l : Launch) (y : MethodName) (ws : List Cond) (rm : Room) (de mi : Nat) (D : va_G) (cy : Nat → ClassId) (M : mM) (sz : Nat) (av : List Value) (post : Int32 → mM → Prop) (postX : String → Prop) (mc ms : Nat) : Prop := vx_Met l y ws rm (mPx de mi D cy M sz av) (va_Qi post (mB D M sz) (mA M sz)) (mXC D M sz postX) mc ms (mA M sz)
def mVv (l : Launch) (y : MethodName) (ws : List Cond) (rm : Room) (de mi : Nat) (D : va_G) (cy : Nat → ClassId) (M : mM) (sz : Nat) (av : List Value) (post : mM → Prop) (postX : String → Prop) (mc ms : Nat) : Prop := vx_Met l y ws rm (mPx de mi D cy M sz av) (va_Qv post (mB D M sz) (mA M sz)) (mXC D M sz postX) mc ms (mA M sz)
def mVr (l : Launch) (y : MethodName) (ws : List Cond) (rm : Room) (de mi : Nat) (D : va_G) (cy : Nat → ClassId) (M : mM) (sz : Nat) (av : List Value) (post : Nat → mM → Prop) (postX : String → Prop) (mc ms : Nat) : Prop := vx_Met l y ws rm (mPx de mi D cy M sz av) (va_Qr (fun _ => True) (mBr D M sz post) (mA M sz)) (mXC D M sz postX) mc ms (mA M sz)
theorem mV.of {l : Launch} {y : MethodName} {ws ws' : List Cond} {rm : Room} {de mi : Nat} {D : va_G} {cy : Nat → ClassId} {M : mM} {av : List Value} {cc : ByteArray} {maxL : Nat} {ret : Option FieldType} {Qc : Array Value → State → Outcome → State → Prop} {XC : String → State → State → Prop} {sz mc ms : Nat} (hy : plainName y.cls = true) (hw : ws = Cond.code y cc maxL ret :: ws') (hn : (lg_sl av).length ≤ maxL)
    (body : ∀ (p : Program) (e : Env) (s : State) (m : MethodId) (args : Array Value) (below : List Frame) (meth : Method) (c : Code) (ls : Array Slot), sz = s.heap.size → p.tables.exec = Jvm.exec → c.code = cc → meth.sig.returnType = ret → (∀ w ∈ ws, w.before args s = true) → s.vm.findClass y.cls = some m.cls → meth.locks = false → c.maxLocals = maxL → (∀ x ∈ c.exceptionTable.toList, False) → meth.name = y.name → pm D M s.heap → mD (mA M sz) M → va_S (mA M sz) s.heap s.heap [] → (∀ q : Nat, s.heap.size ≤ q → mA M sz q) → mK D cy s → cX de mi (mA M sz) s s.heap → lv_has ls maxL (lv_args 0 av) →
      W p l e rm s m args below meth c s.heap [] 0 0 (vx_MQ below Qc XC args s mc ms (mA M sz)) (F0 m 0 ls [])) : vx_Met l y ws rm (mPx de mi D cy M sz av) Qc XC mc ms (mA M sz) := by
  refine vx_ofW (cc := cc) (maxL := maxL) (ret := ret) hy hw ?_
  intro p e s m args below meth c s₁ B hml hout hv
  obtain ⟨rfl, hsz, hP, hK, hX⟩ := hv
  have hl := lv_entry av (n := maxL) hn
  rw [lg_entry_eq]
  exact body p e s m av.toArray below meth c _ hsz.symm B.exec B.bytes B.returns (atoms_spec (ws := ws) B.pre) (findClass_of_methodNamed B.named) B.notSynchronized hml hout (name_of_methodNamed B.named B.method).1 hP (fun q h => Or.inl h) va_S.rf (fun q h => Or.inr (by rw [← hsz]; exact h)) hK hX hl
section VE
variable {p : Program} {l : Launch} {e : Env} {R : Room} {s : State} {m : MethodId} {args : Array Value} {below : List Frame} {meth : Method} {c : Code} {H : Heap} {locs : List Loc} {cells slots : Nat} {Q : State → Prop}
variable {cc : ByteArray} {pc : Nat} {ls : Array Slot} {rest : List Value} {D : va_G} {cy : Nat → ClassId} {M M0 : mM} {de mi sz mc ms a : Nat} {Qc : Array Value → State → Outcome → State → Prop} {postX : String → Prop}
abbrev xNM : List String := ["java/lang/RuntimeException", "java/lang/Exception"]
theorem mXC_of {E : String} {t : State} {H : Heap} (hP : pm D M H) (hS : va_S (mA M sz) s.heap H locs) (hpx : postX E) (h1 : H.size ≤ t.heap.size) (h2 : ∀ q : Nat, q < H.size → t.heap[q]? = H[q]?) : mXC D M sz postX E s t :=
  ⟨(), trivial, ⟨hpx, hP.kept fun q hq => h2 q (hP.lt' hq)⟩, Nat.le_trans hS.1 h1, fun q hq hn => (h2 q (Nat.lt_of_lt_of_le hq hS.1)).trans (hS.2.1 q hq hn)⟩
theorem x_hat {ic : Nat} {cls : String} {A : Nat → Prop} (hX : cX de mi A s s.heap) (h1 : ∀ w ∈ (vx_atS RX5 ic cls xNM).filter goodWord, w.before args s = true) (hng : ∀ w ∈ (vx_atS RX5 ic cls xNM).filter (fun w => !goodWord w), w ∈ cDW) : ∀ w ∈ vx_atS RX5 ic cls xNM, w.before args s = true :=
  vx_hat h1 hng (fun w hw => va_Nw.use (cDW_tab w hw) (hX.2.2.2.2.2.2.2.2.2 w hw))
/-- throw new cls(text), the text by ldc -/
theorem e_thS {cls text : String} {ik is ic : Nat} (hexec : p.tables.exec = Jvm.exec) (hb : c.code = cc) (hst : l.stackTraces = false) (hown : s.vm.findClass RX5 = some m.cls) (hcls : Bundle.fit cls = true) (hk : (Cond.classLink RX5 ik cls).before args s = true) (hini : (Cond.initialized cls).before args s = true)
    (hat : ∀ w ∈ (vx_atS RX5 ic cls xNM).filter goodWord, w.before args s = true) (hng : ∀ w ∈ (vx_atS RX5 ic cls xNM).filter (fun w => !goodWord w), w ∈ cDW) (hgood : ∀ w ∈ Cond.classLink RX5 ik cls :: Cond.initialized cls :: vx_atS RX5 ic cls xNM, vx_ot w = true) (hmem : (is, text) ∈ cStr)
    (hX : cX de mi (mA M sz) s s.heap) (hP : pm D M H) (hS : va_S (mA M sz) s.heap H locs) (hsize : ls.size = c.maxLocals)
    (d0 : decode cc pc = .ok (.new ik, 3)) (d3 : decode cc (pc + 3) = .ok (.dup, 1)) (d4 : decode cc (pc + 4) = .ok (.ldc is, 2)) (d6 : decode cc (pc + 6) = .ok (.invokespecial ic, 3)) (d9 : decode cc (pc + 9) = .ok (.athrow, 1))
    (hout : ∀ x ∈ c.exceptionTable.toList, False) (hRf : 5 < R.frames) (hRl : (rest.map fun v => v.category).sum + 82 ≤ R.locals) (hRc : cells + 1 ≤ R.cells) (hRs : slots + 6 ≤ R.slots) (hlocks : meth.locks = false) (hpx : postX cls) (hc : cells + 1 ≤ mc) (hs : slots + 6 ≤ ms) :
    W p l e R s m args below meth c H locs cells slots (vx_MQ below Qc (mXC D M sz postX) args s mc ms (mA M sz)) (F0 m pc ls rest) := by
  obtain ⟨sa, hsa⟩ := hX.2.2.2.2.2.2.2.2.1 _ hmem
  exact vx_throwS (names := xNM) hexec hb hst hown hcls (by decide) hk hini hsa (x_hat hX hat hng) hgood hX.2.2.1 hX.2.2.2.1 hS hsize d0 d3 d4 d6 d9 (fun x hx => (hout x hx).elim) hRf hRl hRc hRs hlocks (fun t _ h1 h2 => mXC_of hP hS hpx h1 h2) hS.2.2 hc hs
/-- .. by ldc_w -/
theorem e_thW {cls text : String} {ik is ic : Nat} (hexec : p.tables.exec = Jvm.exec) (hb : c.code = cc) (hst : l.stackTraces = false) (hown : s.vm.findClass RX5 = some m.cls) (hcls : Bundle.fit cls = true) (hk : (Cond.classLink RX5 ik cls).before args s = true) (hini : (Cond.initialized cls).before args s = true)
    (hat : ∀ w ∈ (vx_atS RX5 ic cls xNM).filter goodWord, w.before args s = true) (hng : ∀ w ∈ (vx_atS RX5 ic cls xNM).filter (fun w => !goodWord w), w ∈ cDW) (hgood : ∀ w ∈ Cond.classLink RX5 ik cls :: Cond.initialized cls :: vx_atS RX5 ic cls xNM, vx_ot w = true) (hmem : (is, text) ∈ cStr)
    (hX : cX de mi (mA M sz) s s.heap) (hP : pm D M H) (hS : va_S (mA M sz) s.heap H locs) (hsize : ls.size = c.maxLocals)
    (d0 : decode cc pc = .ok (.new ik, 3)) (d3 : decode cc (pc + 3) = .ok (.dup, 1)) (d4 : decode cc (pc + 4) = .ok (.ldc_w is, 3)) (d7 : decode cc (pc + 7) = .ok (.invokespecial ic, 3)) (d10 : decode cc (pc + 10) = .ok (.athrow, 1))
    (hout : ∀ x ∈ c.exceptionTable.toList, False) (hRf : 5 < R.frames) (hRl : (rest.map fun v => v.category).sum + 82 ≤ R.locals) (hRc : cells + 1 ≤ R.cells) (hRs : slots + 6 ≤ R.slots) (hlocks : meth.locks = false) (hpx : postX cls) (hc : cells + 1 ≤ mc) (hs : slots + 6 ≤ ms) :
    W p l e R s m args below meth c H locs cells slots (vx_MQ below Qc (mXC D M sz postX) args s mc ms (mA M sz)) (F0 m pc ls rest) := by
  obtain ⟨sa, hsa⟩ := hX.2.2.2.2.2.2.2.2.1 _ hmem
  exact vx_throwSW (names := xNM) hexec hb hst hown hcls (by decide) hk hini hsa (x_hat hX hat hng) hgood hX.2.2.1 hX.2.2.2.1 hS hsize d0 d3 d4 d7 d10 (fun x hx => (hout x hx).elim) hRf hRl hRc hRs hlocks (fun t _ h1 h2 => mXC_of hP hS hpx h1 h2) hS.2.2 hc hs
end VE
theorem ng_I : ∀ w ∈ (vx_atS RX5 96 "java/lang/IndexOutOfBoundsException" xNM).filter (fun w => !goodWord w), w ∈ cDW := by decide +kernel
theorem ng_A : ∀ w ∈ (vx_atS RX5 48 "java/lang/IllegalArgumentException" xNM).filter (fun w => !goodWord w), w ∈ cDW := by decide +kernel
theorem ng_S : ∀ w ∈ (vx_atS RX5 59 "java/lang/IllegalStateException" xNM).filter (fun w => !goodWord w), w ∈ cDW := by decide +kernel
theorem gd_I : ∀ w ∈ Cond.classLink RX5 92 "java/lang/IndexOutOfBoundsException" :: Cond.initialized "java/lang/IndexOutOfBoundsException" :: vx_atS RX5 96 "java/lang/IndexOutOfBoundsException" xNM, vx_ot w = true := by decide +kernel
theorem gd_A : ∀ w ∈ Cond.classLink RX5 44 "java/lang/IllegalArgumentException" :: Cond.initialized "java/lang/IllegalArgumentException" :: vx_atS RX5 48 "java/lang/IllegalArgumentException" xNM, vx_ot w = true := by decide +kernel
theorem gd_S : ∀ w ∈ Cond.classLink RX5 55 "java/lang/IllegalStateException" :: Cond.initialized "java/lang/IllegalStateException" :: vx_atS RX5 59 "java/lang/IllegalStateException" xNM, vx_ot w = true := by decide +kernel
section VC
variable {p : Program} {l : Launch} {e : Env} {R : Room} {s : State} {m : MethodId} {args : Array Value} {below : List Frame} {meth : Method} {c : Code} {H : Heap} {locs : List Loc} {cells slots : Nat}
variable {cc : ByteArray} {pc : Nat} {ls : Array Slot} {rest st0 : List Value} {D : va_G} {cy : Nat → ClassId} {M : mM} {sz mc ms mc9 ms9 : Nat} {Qc : Array Value → State → Outcome → State → Prop} {postX postX9 : String → Prop} {a : Array Value}
theorem x_keep {st₀ t T' : State} {L : List Loc} {A1 A0 : Nat → Prop} {H0 : Heap} {free : Addr → Prop} (h0 : st₀.heap = H) (e1 : T'.heap = t.heap) (hS : va_S A0 H0 H locs) (hA : ∀ q, q < H.size → A1 q → A0 q) (hf : ∀ q, free q → A0 q) (hL : ∀ q ∈ L, free q.base) (hF : va_F A1 st₀ t) : H.size ≤ T'.heap.size ∧ (∀ q : Nat, q < H.size → ¬ A1 q → T'.heap[q]? = H[q]?) ∧ va_S A0 H0 T'.heap (locs ++ L) := vx_keep h0 e1 hS hA hf hL hF
/-- what a callee threw goes on -/
theorem e_pass {E : String} {ce : Cell} {q9 : Addr} {t : State} {H1 : Heap} {locs1 : List Loc} (hout : ∀ x ∈ c.exceptionTable.toList, False) (hlocks : meth.locks = false) (ht : t.heap = H1) (hB : pm D M t.heap) (hpx : postX9 E) (hS1 : va_S (mA M sz) s.heap H1 locs1) (hce : H1[q9]? = some ce) (hcv : ce.vm = .none) (hcl : s.vm.findClass E = some ce.cls) (hc : cells ≤ mc9) (hs : slots ≤ ms9) :
    vx_W p l e R s m args below meth c H1 locs1 cells slots (vx_MQ below Qc (mXC D M sz postX9) args s mc9 ms9 (mA M sz)) (F0 m pc ls rest) q9 :=
  vx_out (fun x hx => (hout x hx).elim) hlocks hce hcv hcl (fun t2 ht2 _ => ⟨(), trivial, ⟨hpx, by rw [ht2, ← ht]; exact hB⟩, hS1.F ht2⟩) hS1.2.2 hc hs
theorem x_calli {post : Int32 → mM → Prop} (hr : vx_Run p l e R s m args below meth c H locs cells slots mc ms (F0 m pc ls st0) rest (va_Qi post (mB D M H.size) (mA M H.size) a) (mXC D M H.size postX) (mA M H.size)) (hD : mD (mA M sz) M) (hA : ∀ q, s.heap.size ≤ q → mA M sz q) (hS : va_S (mA M sz) s.heap H locs) (hout : ∀ x ∈ c.exceptionTable.toList, False) (hlocks : meth.locks = false) (hpx : ∀ E, postX E → postX9 E) (hc : cells + mc ≤ mc9) (hs : slots + ms ≤ ms9)
    (kk : ∀ (r : Int32) (M1 : mM) (H1 : Heap) (locs1 : List Loc), post r M1 → pm D M1 H1 → mD (mA M sz) M1 → va_S (mA M sz) s.heap H1 locs1 → H.size ≤ H1.size → W p l e R s m args below meth c H1 locs1 (cells + mc) (slots + ms) (vx_MQ below Qc (mXC D M sz postX9) args s mc9 ms9 (mA M sz)) (F0 m (pc + 3) ls (.int r :: rest))) : W p l e R s m args below meth c H locs cells slots (vx_MQ below Qc (mXC D M sz postX9) args s mc9 ms9 (mA M sz)) (F0 m pc ls st0) :=
  vx_calli hr hS (fun q _ h => mA_sub hD hS hA q h) (mA_sub hD hS hA) (fun q _ h => mA_sub hD hS hA q h)
    (fun E ce q9 u t H1 locs1 ht _ _ hB hz hk hS1 hce hcv hcl => e_pass hout hlocks ht hB.2 (hpx E hB.1) hS1 hce hcv hcl hc hs)
    (fun r u t H1 locs1 ht _ hw hB hz hk hS1 => kk r u H1 locs1 hw (by rw [← ht]; exact hB.1) (fun q hq => mA_sub hD hS hA q (hB.2 q hq)) hS1 hz)
theorem x_callv {post : mM → Prop} (hr : vx_Run p l e R s m args below meth c H locs cells slots mc ms (F0 m pc ls st0) rest (va_Qv post (mB D M H.size) (mA M H.size) a) (mXC D M H.size postX) (mA M H.size)) (hD : mD (mA M sz) M) (hA : ∀ q, s.heap.size ≤ q → mA M sz q) (hS : va_S (mA M sz) s.heap H locs) (hout : ∀ x ∈ c.exceptionTable.toList, False) (hlocks : meth.locks = false) (hpx : ∀ E, postX E → postX9 E) (hc : cells + mc ≤ mc9) (hs : slots + ms ≤ ms9)
    (kk : ∀ (M1 : mM) (H1 : Heap) (locs1 : List Loc), post M1 → pm D M1 H1 → mD (mA M sz) M1 → va_S (mA M sz) s.heap H1 locs1 → H.size ≤ H1.size → W p l e R s m args below meth c H1 locs1 (cells + mc) (slots + ms) (vx_MQ below Qc (mXC D M sz postX9) args s mc9 ms9 (mA M sz)) (F0 m (pc + 3) ls rest)) : W p l e R s m args below meth c H locs cells slots (vx_MQ below Qc (mXC D M sz postX9) args s mc9 ms9 (mA M sz)) (F0 m pc ls st0) :=
  vx_callv hr hS (fun q _ h => mA_sub hD hS hA q h) (mA_sub hD hS hA) (fun q _ h => mA_sub hD hS hA q h)
    (fun E ce q9 u t H1 locs1 ht _ _ hB hz hk hS1 hce hcv hcl => e_pass hout hlocks ht hB.2 (hpx E hB.1) hS1 hce hcv hcl hc hs)
    (fun u t H1 locs1 ht _ hw hB hz hk hS1 => kk u H1 locs1 hw (by rw [← ht]; exact hB.1) (fun q hq => mA_sub hD hS hA q (hB.2 q hq)) hS1 hz)
theorem x_callr {post : Nat → mM → Prop} (hr : vx_Run p l e R s m args below meth c H locs cells slots mc ms (F0 m pc ls st0) rest (va_Qr (fun _ => True) (mBr D M H.size post) (mA M H.size) a) (mXC D M H.size postX) (mA M H.size)) (hD : mD (mA M sz) M) (hA : ∀ q, s.heap.size ≤ q → mA M sz q) (hS : va_S (mA M sz) s.heap H locs) (hout : ∀ x ∈ c.exceptionTable.toList, False) (hlocks : meth.locks = false) (hpx : ∀ E, postX E → postX9 E) (hc : cells + mc ≤ mc9) (hs : slots + ms ≤ ms9)
    (kk : ∀ (r : Nat) (M1 : mM) (H1 : Heap) (locs1 : List Loc), post r M1 → pm D M1 H1 → mD (mA M sz) M1 → va_S (mA M sz) s.heap H1 locs1 → H.size ≤ H1.size → W p l e R s m args below meth c H1 locs1 (cells + mc) (slots + ms) (vx_MQ below Qc (mXC D M sz postX9) args s mc9 ms9 (mA M sz)) (F0 m (pc + 3) ls (.ref r :: rest))) : W p l e R s m args below meth c H locs cells slots (vx_MQ below Qc (mXC D M sz postX9) args s mc9 ms9 (mA M sz)) (F0 m pc ls st0) := by
  intro T hT X
  rcases hr T hT X with ⟨v, st₀, t, T', L, h0, X', hL, e1, e2, ⟨⟨u, ra, hv, -, hb⟩, hF⟩, st⟩ | ⟨q, st₀, t, T', L, E, ce, h0, X', hL, e1, e2, ⟨u, hp, hb, hF⟩, hce, hcv, hcl, st⟩
  · cases hv
    obtain ⟨k1, k2, k3⟩ := x_keep h0 e1 hS (fun q _ h => mA_sub hD hS hA q h) (mA_sub hD hS hA) hL hF
    obtain ⟨t2, a1, b1⟩ := kk ra u T'.heap (locs ++ L) hb.2 (by rw [e1]; exact hb.1.1) (fun q hq => mA_sub hD hS hA q (hb.1.2 q hq)) k3 k1 T' rfl X'
    exact ⟨t2, st t2 a1, b1⟩
  · obtain ⟨k1, k2, k3⟩ := x_keep h0 e1 hS (fun q _ h => mA_sub hD hS hA q h) (mA_sub hD hS hA) hL hF
    obtain ⟨t2, a1, b1⟩ := e_pass (H1 := T'.heap) hout hlocks e1.symm hb.2 (hpx E hb.1) k3 (by rw [e1]; exact hce) hcv hcl hc hs T' rfl X'
    exact ⟨t2, st.trans a1, b1⟩
end VC
