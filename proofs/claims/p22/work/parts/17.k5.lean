/-! Arrays.copyOf of a row of references whose elements are of one class C -/
abbrev cM0 (cy : Nat → ClassId) (a0 n : Nat) (f : Nat → Option Nat) : mM := mset (fun _ => none) a0 (eQ cy n f)
def cpP (mi : Nat) (D : va_G) (cy : Nat → ClassId) (sz a0 n : Nat) (f : Nat → Option Nat) (C : String) : State → Prop := fun U =>
  U.heap.size = sz ∧ pm D (cM0 cy a0 n f) U.heap ∧ mK D cy U ∧ va_Mi "[Ljava/lang/Object;" mi U ∧ va_Dc U ∧ va_AO "java/lang/Object" U ∧ va_Nw (.castable C "java/lang/Object") U ∧
  ∀ i : Nat, i < n → ∀ y : Nat, f i = some y → y ≠ a0 ∧ ∃ cell : Cell, U.heap[y]? = some cell ∧ cell.vm.isStatics = false ∧ U.vm.findClass C = some cell.cls
theorem cpP_pre {mi : Nat} {D : va_G} {cy : Nat → ClassId} {a0 n : Nat} {f : Nat → Option Nat} {C : String} {s : State} {H : Heap} {As : List Value} (hP : pm D (cM0 cy a0 n f) H) (hK : mK D cy s) (h1 : va_Mi "[Ljava/lang/Object;" mi s) (h2 : va_Dc s) (h3 : va_AO "java/lang/Object" s) (h4 : va_Nw (.castable C "java/lang/Object") s)
    (h5 : ∀ i : Nat, i < n → ∀ y : Nat, f i = some y → y ≠ a0 ∧ ∃ cell : Cell, H[y]? = some cell ∧ cell.vm.isStatics = false ∧ s.vm.findClass C = some cell.cls) : PreS s H (va_Pc As (cpP mi D cy H.size a0 n f C)) As :=
  ⟨fun a U g mk q => ⟨q.1, q.2.1, q.2.2.1, va_K.moved (u := U) (U := U.calling g mk a) (Vm.Alike.refl U.vm) q.2.2.2.1, va_Mi.moved (u := U) (U := U.calling g mk a) (Vm.Alike.refl U.vm) q.2.2.2.2.1, va_Dc.moved (u := U) (U := U.calling g mk a) (Vm.Alike.refl U.vm) q.2.2.2.2.2.1, va_AO.moved (u := U) (U := U.calling g mk a) (Vm.Alike.refl U.vm) q.2.2.2.2.2.2.1, va_Nw.same (u := U) (U := U.calling g mk a) rfl rfl q.2.2.2.2.2.2.2.1, q.2.2.2.2.2.2.2.2⟩,
    fun U hU hW => ⟨rfl, by rw [hU], by rw [hU]; exact hP, va_K.moved hW.alike hK, va_Mi.moved hW.alike h1, va_Dc.moved hW.alike h2, va_AO.moved hW.alike h3, va_Nw.warmC hW h4, fun i hi y hy => by
      obtain ⟨g0, cell, g1, g2, g3⟩ := h5 i hi y hy
      exact ⟨g0, cell, by rw [hU]; exact g1, g2, by rw [hW.alike.findClass]; exact g3⟩⟩⟩
def cpPost (cy : Nat → ClassId) (a0 n n9 : Nat) (f : Nat → Option Nat) : Nat → mM → Prop := fun q M' => cM0 cy a0 n f q = none ∧ M' = mset (cM0 cy a0 n f) q (eQ cy n9 (va_cpy f (fun _ => none) 0 0 n))
def cpM (l : Launch) (y : MethodName) (ws : List Cond) (rm : Room) (mi : Nat) (D : va_G) (cy : Nat → ClassId) (sz a0 n n9 : Nat) (f : Nat → Option Nat) (C : String) (av : List Value) : Prop := Met l y ws rm (va_Pc av (cpP mi D cy sz a0 n f C)) (va_Qr (fun _ => True) (mBr D (cM0 cy a0 n f) sz (cpPost cy a0 n n9 f)) (mA (cM0 cy a0 n f) sz)) 1 58 (mA (cM0 cy a0 n f) sz)
set_option maxRecDepth 100000 in
theorem c_copyOf3 (l : Launch) (mi : Nat) (D : va_G) (cy : Nat → ClassId) (sz a0 n n9 : Nat) (f : Nat → Option Nat) (C : String) (hn : n ≤ n9) (hn9 : n9 ≤ 58) : cpM l yJ7_copyOf_6403c wsJ7_copyOf_6403c ({ frames := 1, cells := 1, slots := 58, locals := 40 } : Room) mi D cy sz a0 n n9 f C [.ref a0, .int (nI n9), .ref mi] := by
  refine mG.of (cc := cJ7_copyOf_6403c) (maxL := 4) (ret := (some (.array (.object "java/lang/Object")))) (by decide) rfl (Nat.le_of_ble_eq_true rfl) ?_
  intro p e s m args below meth c ls hx hb hr hts hown hlocks hml h0 hl
  obtain ⟨rfl, hP, hK, hMi, hDc, hAO, hca, hel⟩ := h0
  have hown : s.vm.findClass RJ7 = some m.cls := hown
  have hl : lv_has ls 4 [(0, .ref a0), (1, .int (nI n9)), (2, .ref mi)] := hl
  have hD : mD (mA (cM0 cy a0 n f) s.heap.size) (cM0 cy a0 n f) := fun q h => Or.inl h
  have hA : ∀ q, s.heap.size ≤ q → mA (cM0 cy a0 n f) s.heap.size q := fun q h => Or.inr h
  have hS : va_S (mA (cM0 cy a0 n f) s.heap.size) s.heap s.heap [] := va_S.rf
  have ha0 : cM0 cy a0 n f a0 = some (eQ cy n f) := mset_self _ _ _
  refine lv_aload_n hx hb dJ7_copyOf_6403c_0 rfl (lv_at hl 2 rfl) ?_
  refine va_ldcM hx hb hown (C := "[Ljava/lang/Object;") ((hts _ (List.mem_of_getElem? (i := 1) rfl))) hMi dJ7_copyOf_6403c_1 ?_
  refine lv_acmp_ne (rx := some mi) (ry := some mi) (tgt := 13) hx hb dJ7_copyOf_6403c_3 (by decide) (fun h => absurd rfl h) (fun _ => ?_)
  refine lv_iload_n hx hb dJ7_copyOf_6403c_6 rfl (lv_at hl 1 rfl) ?_
  refine m_newq (n := n9) hx hb hown ((hts _ (List.mem_of_getElem? (i := 2) rfl))) hAO hK hP hD hS hA (by omega) (by omega) (Nat.le_of_ble_eq_true rfl) (by show 0 + n9 ≤ 58; omega) dJ7_copyOf_6403c_7 (fun q H hnq hq hz hP hD hS => ?_)
  refine lv_goto (tgt := 24) hx hb dJ7_copyOf_6403c_10 (by decide) ?_
  refine lv_astore_n (lv' := [(3, .ref q), (0, .ref a0), (1, .int (nI n9)), (2, .ref mi)]) hx hb dJ7_copyOf_6403c_24 rfl hl (by decide) rfl (fun ls hl => ?_)
  have hne : a0 ≠ q := fun h => by rw [← h, ha0] at hnq; cases hnq
  have hb0 : mset (cM0 cy a0 n f) q (eQ cy n9 (fun _ => none)) a0 = some (eQ cy n f) := (mset_ne hne).trans ha0
  have hb1 : mset (cM0 cy a0 n f) q (eQ cy n9 (fun _ => none)) q = some (eQ cy n9 (fun _ => none)) := mset_self _ _ _
  refine lv_aload_n hx hb dJ7_copyOf_6403c_25 rfl (lv_at hl 1 rfl) ?_
  refine lv_iconst (v := nI 0) hx hb dJ7_copyOf_6403c_26 (by decide) ?_
  refine lv_aload_n hx hb dJ7_copyOf_6403c_27 rfl (lv_at hl 0 rfl) ?_
  refine lv_iconst (v := nI 0) hx hb dJ7_copyOf_6403c_28 (by decide) ?_
  refine lv_aload_n hx hb dJ7_copyOf_6403c_29 rfl (lv_at hl 1 rfl) ?_
  refine m_alen (n := n) (t0 := 2) hx hb hK hP hb0 rfl rfl dJ7_copyOf_6403c_30 ?_
  refine lv_iload_n hx hb dJ7_copyOf_6403c_31 rfl (lv_at hl 2 rfl) ?_
  refine n_min (x := n) (y := n9) hx hb (hml.trans hl.1.symm) hown ((hts _ (List.mem_of_getElem? (i := 3) rfl))) ((hts _ (List.mem_of_getElem? (i := 4) rfl))) ((hts _ (List.mem_of_getElem? (i := 5) rfl))) ((hts _ (List.mem_of_getElem? (i := 6) rfl))) (Nat.le_of_ble_eq_true rfl) (Nat.le_of_ble_eq_true rfl) (Nat.le_of_ble_eq_true rfl) (by show 0 + n9 ≤ 58; omega) (by omega) (by omega) dJ7_copyOf_6403c_32 ?_
  refine n_name (show nI (min n n9) = nI n by rw [Nat.min_eq_left hn]) ?_
  have hc0 : (nI 0).toNatClampNeg = 0 := nI_clamp (by decide)
  have hcn : (nI n).toNatClampNeg = n := nI_clamp (by omega)
  refine va_copyq (C := C) (f := f) (g := fun _ => none) hx hb (hml.trans hl.1.symm) hown ((hts _ (List.mem_of_getElem? (i := 7) rfl))) ((hts _ (List.mem_of_getElem? (i := 8) rfl))) ((hts _ (List.mem_of_getElem? (i := 9) rfl))) ((hts _ (List.mem_of_getElem? (i := 10) rfl))) hK (hP.two hb0 hb1) (hD.two hb0 hb1 hne) hS 0 1 2 2 rfl rfl rfl rfl (nI_pos (by decide)) (nI_pos (by decide)) (nI_pos (by omega)) (by rw [hc0, hcn]; omega) (by rw [hc0, hcn]; omega) ?_ (fun comp c0 h1 h2 => vb_asgC hca comp c0 h1 h2) (Nat.le_of_ble_eq_true rfl) (by decide) dJ7_copyOf_6403c_35 (fun H1 locs1 hP1 hD1 hS1 => ?_)
  · intro i hi y hy
    rw [hcn] at hi
    rw [hc0, Nat.zero_add] at hy
    obtain ⟨g0, cell, g1, g2, g3⟩ := hel i hi y hy
    refine ⟨cell, ?_, g2, g3⟩
    rw [hS.2.1 y (Array.getElem?_eq_some_iff.mp g1).1 (fun h => ?_)]
    · exact g1
    · rcases h with h | h
      · exact h (mset_ne g0)
      · exact absurd (Array.getElem?_eq_some_iff.mp g1).1 (by omega)
  · rw [hc0, hcn] at hP1 hD1
    refine lv_aload_n hx hb dJ7_copyOf_6403c_38 rfl (lv_at hl 0 rfl) ?_
    have hP2 : pm D (mset (cM0 cy a0 n f) q (eQ cy n9 (va_cpy f (fun _ => none) 0 0 n))) H1 := by
      intro z e9 hz9
      by_cases h1 : z = q
      · subst h1
        rw [mset_self] at hz9
        cases hz9
        exact hP1 1 _ rfl
      · rw [mset_ne h1] at hz9
        by_cases h2 : z = a0
        · subst h2
          rw [ha0] at hz9
          cases hz9
          exact hP1 0 _ rfl
        · rw [show cM0 cy a0 n f z = none from mset_ne h2] at hz9
          cases hz9
    have hD2 : mD (mA (cM0 cy a0 n f) s.heap.size) (mset (cM0 cy a0 n f) q (eQ cy n9 (va_cpy f (fun _ => none) 0 0 n))) := fun z hz9 => by
      rcases mset_some hz9 with h1 | h1
      · exact Or.inr (by omega)
      · exact Or.inl h1
    exact e_wr hx hb hr (Or.inr ⟨_, rfl⟩) hlocks hP2 hD2 hS1 ⟨hnq, rfl⟩ dJ7_copyOf_6403c_39 (Nat.le_of_ble_eq_true rfl) (by show 0 + n9 ≤ 58; omega)
set_option maxRecDepth 100000 in
theorem c_copyOf (l : Launch) (mi : Nat) (D : va_G) (cy : Nat → ClassId) (sz a0 n n9 : Nat) (f : Nat → Option Nat) (C : String) (hn : n ≤ n9) (hn9 : n9 ≤ 58) : cpM l yJ7_copyOf_1904c wsJ7_copyOf_1904c ({ frames := 2, cells := 1, slots := 58, locals := 70 } : Room) mi D cy sz a0 n n9 f C [.ref a0, .int (nI n9)] := by
  refine mG.of (cc := cJ7_copyOf_1904c) (maxL := 2) (ret := (some (.array (.object "java/lang/Object")))) (by decide) rfl (Nat.le_of_ble_eq_true rfl) ?_
  intro p e s m args below meth c ls hx hb hr hts hown hlocks hml h0 hl
  obtain ⟨rfl, hP, hK, hMi, hDc, hAO, hca, hel⟩ := h0
  have hown : s.vm.findClass RJ7 = some m.cls := hown
  have hl : lv_has ls 2 [(0, .ref a0), (1, .int (nI n9))] := hl
  have hD : mD (mA (cM0 cy a0 n f) s.heap.size) (cM0 cy a0 n f) := fun q h => Or.inl h
  have hA : ∀ q, s.heap.size ≤ q → mA (cM0 cy a0 n f) s.heap.size q := fun q h => Or.inr h
  have hS : va_S (mA (cM0 cy a0 n f) s.heap.size) s.heap s.heap [] := va_S.rf
  have ha0 : cM0 cy a0 n f a0 = some (eQ cy n f) := mset_self _ _ _
  refine lv_aload_n hx hb dJ7_copyOf_1904c_0 rfl (lv_at hl 0 rfl) ?_
  refine lv_iload_n hx hb dJ7_copyOf_1904c_1 rfl (lv_at hl 1 rfl) ?_
  refine lv_aload_n hx hb dJ7_copyOf_1904c_2 rfl (lv_at hl 0 rfl) ?_
  refine va_getC (C := "[Ljava/lang/Object;") hx hb (hml.trans hl.1.symm) hown ((hts _ (List.mem_of_getElem? (i := 1) rfl))) (va_Dc.use hDc) ((hts _ (List.mem_of_getElem? (i := 2) rfl))) ((hts _ (List.mem_of_getElem? (i := 3) rfl))) ((hts _ (List.mem_of_getElem? (i := 4) rfl))) hMi ⟨_, hP a0 _ ha0, rfl, va_nmO (hK.2 2 _ rfl).2 rfl⟩ (Nat.le_of_ble_eq_true rfl) (Nat.le_of_ble_eq_true rfl) dJ7_copyOf_1904c_3 ?_
  refine m_callr (va_runS (As := [.ref a0, .int (nI n9), .ref mi]) (rest := []) ⟨hx, hb, hml, hown, hts⟩ (c_copyOf3 l mi D cy s.heap.size a0 n n9 f C hn hn9) (va_cwS 3 hts gJ7_copyOf_1904c_J7_copyOf_6403c rfl rfl rfl (by decide +kernel) ⟨Nat.le_of_ble_eq_true rfl, Nat.le_of_ble_eq_true rfl⟩) (cpP_pre hP hK hMi hDc hAO hca hel) rfl rfl hl.1 rfl (lv_room (Nat.le_of_ble_eq_true rfl)) dJ7_copyOf_1904c_6 ⟨Nat.le_of_ble_eq_true rfl, Nat.le_of_ble_eq_true rfl⟩) hD hA hS (fun r Mn H locs hq9 hP hD hS hz9 hd9 hk9 => ?_)
  exact e_wr hx hb hr (Or.inr ⟨_, rfl⟩) hlocks hP hD hS hq9 dJ7_copyOf_1904c_9
