
theorem shr_1 {n : Nat} (h : n < 2 ^ 31) : nI n >>> (nI 1 &&& 31) = nI (n / 2) := by
  have k := pk_shrN (n := n) h ((1 : Int32) &&& 31) 1 (by decide)
  rw [Nat.pow_one] at k
  exact k
theorem cp_join {D : va_G} {cy : Nat → ClassId} {M : mM} {H H1 : Heap} {el n ra : Nat} {g : Nat → Option Nat} {E : va_E} (hP : pm D M H) (hel : M el = some (eQ cy n g)) (hB : pm D (mset (cM0 cy el n g) ra E) H1) (hd : mD (mA (cM0 cy el n g) H.size) (mset (cM0 cy el n g) ra E)) (hq : cM0 cy el n g ra = none) (hk : ∀ q : Nat, q < H.size → ¬ mA (cM0 cy el n g) H.size q → H1[q]? = H[q]?) : M ra = none ∧ H.size ≤ ra ∧ pm D (mset M ra E) H1 := by
  have h1 : H.size ≤ ra := by
    rcases hd ra (by rw [mset_self]; exact fun z => by cases z) with h | h
    · exact absurd hq h
    · exact h
  refine ⟨hP.fresh h1, h1, fun z e9 hz => ?_⟩
  by_cases e1 : z = ra
  · subst e1
    rw [mset_self] at hz
    cases hz
    exact hB z _ (mset_self _ _ _)
  · rw [mset_ne e1] at hz
    by_cases e2 : z = el
    · subst e2
      rw [hel] at hz
      cases hz
      exact hB z _ ((mset_ne e1).trans (mset_self _ _ _))
    · refine (hP z e9 hz).kept (hk z (hP.lt hz) (fun h => ?_))
      rcases h with h | h
      · exact h (mset_ne e2)
      · exact absurd (hP.lt hz) (by omega)

set_option maxRecDepth 100000 in
set_option maxHeartbeats 4000000 in
theorem c_J3_checkIndex_8e157 (l : Launch) (x y : Nat)  (hxy : x < y) (hy2 : y < 1000) : mS l yJ3_checkIndex_8e157 wsJ3_checkIndex_8e157 ({ frames := 0, cells := 0, slots := 0, locals := 0 } : Room) [.int (nI x), .int (nI y), .null] (fun r => r = nI x) := by
  refine mS.of (cc := cJ3_checkIndex_8e157) (maxL := 3) (ret := (some .int)) (by decide) rfl (Nat.le_of_ble_eq_true rfl) ?_
  intro p e s m args below meth c ls hx hb hr hts hown hlocks hml hl
  have hl : lv_has ls 3 [(0, .int (nI x)), (1, .int (nI y)), (2, .null)] := hl
  have hown : s.vm.findClass RJ3 = some m.cls := hown
  refine lv_iload_n hx hb dJ3_checkIndex_8e157_0 rfl (lv_at hl 0 rfl) ?_
  refine z_if_lt (u := ((x : Nat) : Int)) (tgt := 9) hx hb (nI_toInt (by omega)) dJ3_checkIndex_8e157_1 (by decide) (fun c_1 => ?_) (fun c_1 => ?_)
  · exfalso; omega
  · refine lv_iload_n hx hb dJ3_checkIndex_8e157_4 rfl (lv_at hl 0 rfl) ?_
    refine lv_iload_n hx hb dJ3_checkIndex_8e157_5 rfl (lv_at hl 1 rfl) ?_
    refine z_icmp_lt (u := ((x : Nat) : Int)) (v := ((y : Nat) : Int)) (tgt := 16) hx hb (nI_toInt (by omega)) (nI_toInt (by omega)) dJ3_checkIndex_8e157_6 (by decide) (fun c_6 => ?_) (fun c_6 => ?_)
    · refine lv_iload_n hx hb dJ3_checkIndex_8e157_16 rfl (lv_at hl 0 rfl) ?_
      exact e_ri hx hb hr hlocks (rfl) dJ3_checkIndex_8e157_17
    · exfalso; omega

set_option maxRecDepth 100000 in
set_option maxHeartbeats 4000000 in
theorem c_J15_checkIndex_7cf53 (l : Launch) (x y : Nat)  (hxy : x < y) (hy2 : y < 1000) : mS l yJ15_checkIndex_7cf53 wsJ15_checkIndex_7cf53 ({ frames := 1, cells := 0, slots := 0, locals := 22 } : Room) [.int (nI x), .int (nI y)] (fun r => r = nI x) := by
  refine mS.of (cc := cJ15_checkIndex_7cf53) (maxL := 2) (ret := (some .int)) (by decide) rfl (Nat.le_of_ble_eq_true rfl) ?_
  intro p e s m args below meth c ls hx hb hr hts hown hlocks hml hl
  have hl : lv_has ls 2 [(0, .int (nI x)), (1, .int (nI y))] := hl
  have hown : s.vm.findClass RJ15 = some m.cls := hown
  refine lv_iload_n hx hb dJ15_checkIndex_7cf53_0 rfl (lv_at hl 0 rfl) ?_
  refine lv_iload_n hx hb dJ15_checkIndex_7cf53_1 rfl (lv_at hl 1 rfl) ?_
  refine lv_null hx hb dJ15_checkIndex_7cf53_2 ?_
  refine vp_callSi (W.runS (As := [.int (nI x), .int (nI y), .null]) (rest := []) ⟨hx, hb, hml, hown, hts⟩ (c_J3_checkIndex_8e157 l x y hxy hy2) (va_cwS 3 hts gJ15_checkIndex_7cf53_J3_checkIndex_8e157 rfl rfl rfl (by decide +kernel) ⟨Nat.le_of_ble_eq_true rfl, Nat.le_of_ble_eq_true rfl⟩) mPre0 rfl rfl hl.1 rfl (lv_room (Nat.le_of_ble_eq_true rfl)) dJ15_checkIndex_7cf53_3 ⟨Nat.le_of_ble_eq_true rfl, Nat.le_of_ble_eq_true rfl⟩) (fun r9 hr9 => ?_)
  have hr9 : r9 = (nI x) := hr9
  subst hr9
  exact e_ri hx hb hr hlocks (rfl) dJ15_checkIndex_7cf53_6

set_option maxRecDepth 100000 in
set_option maxHeartbeats 4000000 in
theorem c_J8_newLength_cabcc (l : Launch) (x y z : Nat)  (hx1 : 0 < x) (hx2 : x < 1000) (hy2 : y < 1000) (hz2 : z < 1000) : mS l yJ8_newLength_cabcc wsJ8_newLength_cabcc ({ frames := 1, cells := 0, slots := 0, locals := 14 } : Room) [.int (nI x), .int (nI y), .int (nI z)] (fun r => r = nI (x + max y z)) := by
  refine mS.of (cc := cJ8_newLength_cabcc) (maxL := 4) (ret := (some .int)) (by decide) rfl (Nat.le_of_ble_eq_true rfl) ?_
  intro p e s m args below meth c ls hx hb hr hts hown hlocks hml hl
  have hl : lv_has ls 4 [(0, .int (nI x)), (1, .int (nI y)), (2, .int (nI z))] := hl
  have hown : s.vm.findClass RJ8 = some m.cls := hown
  refine lv_iload_n hx hb dJ8_newLength_cabcc_0 rfl (lv_at hl 0 rfl) ?_
  refine lv_iload_n hx hb dJ8_newLength_cabcc_1 rfl (lv_at hl 1 rfl) ?_
  refine lv_iload_n hx hb dJ8_newLength_cabcc_2 rfl (lv_at hl 2 rfl) ?_
  refine n_max (x := y) (y := z) hx hb (hml.trans hl.1.symm) hown (hts _ (List.mem_of_getElem? (i := 1) rfl)) (hts _ (List.mem_of_getElem? (i := 2) rfl)) (hts _ (List.mem_of_getElem? (i := 3) rfl)) (hts _ (List.mem_of_getElem? (i := 4) rfl)) (Nat.le_of_ble_eq_true rfl) (Nat.le_of_ble_eq_true rfl) (Nat.le_of_ble_eq_true rfl) (Nat.le_of_ble_eq_true rfl) (by omega) (by omega) dJ8_newLength_cabcc_3 ?_
  refine n_add (x := x) (y := max y z) hx hb dJ8_newLength_cabcc_6 ?_
  refine lv_istore_n (lv' := [(3, .int (nI (x + (max y z)))), (0, .int (nI x)), (1, .int (nI y)), (2, .int (nI z))]) hx hb dJ8_newLength_cabcc_7 rfl hl (by decide) rfl (fun ls hl => ?_)
  refine lv_iconst (v := (nI 0)) hx hb dJ8_newLength_cabcc_8 (by decide) ?_
  refine lv_iload_n hx hb dJ8_newLength_cabcc_9 rfl (lv_at hl 0 rfl) ?_
  refine z_icmp_ge (u := ((0 : Nat) : Int)) (v := ((x + (max y z) : Nat) : Int)) (tgt := 21) hx hb (nI_toInt (by omega)) (nI_toInt (by omega)) dJ8_newLength_cabcc_10 (by decide) (fun c_10 => ?_) (fun c_10 => ?_)
  · exfalso; omega
  · refine lv_iload_n hx hb dJ8_newLength_cabcc_13 rfl (lv_at hl 0 rfl) ?_
    refine lv_ldc (v := nI 2147483639) hx hb hown (hts _ (List.mem_of_getElem? (i := 5) rfl)) dJ8_newLength_cabcc_14 ?_
    refine z_icmp_gt (u := ((x + (max y z) : Nat) : Int)) (v := ((2147483639 : Nat) : Int)) (tgt := 21) hx hb (nI_toInt (by omega)) (nI_toInt (by omega)) dJ8_newLength_cabcc_16 (by decide) (fun c_16 => ?_) (fun c_16 => ?_)
    · exfalso; omega
    · refine lv_iload_n hx hb dJ8_newLength_cabcc_19 rfl (lv_at hl 0 rfl) ?_
      exact e_ri hx hb hr hlocks (rfl) dJ8_newLength_cabcc_20

set_option maxRecDepth 100000 in
set_option maxHeartbeats 4000000 in
theorem c_Jxa1e45_init_da8c8 (l : Launch) (D : va_G) (cy : Nat → ClassId) (M : mM) (sz : Nat) (a : Nat)   : mWv l yJxa1e45_init_da8c8 wsJxa1e45_init_da8c8 ({ frames := 1, cells := 0, slots := 0, locals := 12 } : Room) D cy M sz [.ref a] (fun M' => M' = M) 0 0 := by
  refine mW.of (cc := cJxa1e45_init_da8c8) (maxL := 1) (ret := none) (by decide) rfl (Nat.le_of_ble_eq_true rfl) ?_
  intro p e s m args below meth c ls hsz hx hb hr hts hown hlocks hml hname hP hD hS hA hK hl
  have hl : lv_has ls 1 [(0, .ref a)] := hl
  have hown : s.vm.findClass RJxa1e45 = some m.cls := hown
  refine lv_aload_n hx hb dJxa1e45_init_da8c8_0 rfl (lv_at hl 0 rfl) ?_
  refine W.objInit hx hb hown (hts _ (List.mem_of_getElem? (i := 1) rfl)) (hts _ (List.mem_of_getElem? (i := 2) rfl)) (hts _ (List.mem_of_getElem? (i := 3) rfl)) rfl (by rw [hml]; exact hl.1) rfl dJxa1e45_init_da8c8_1 (Nat.le_of_ble_eq_true rfl) (Nat.le_of_ble_eq_true rfl) ?_
  refine W.eq (g2 := F0 m 4 ls []) rfl ?_
  exact e_wv hx hb hr hlocks hP hD hS (rfl) dJxa1e45_init_da8c8_4

set_option maxRecDepth 100000 in
set_option maxHeartbeats 4000000 in
theorem c_Jxc12de_init_da8c8 (l : Launch) (D : va_G) (cy : Nat → ClassId) (M : mM) (sz : Nat) (a : Nat)  (f_a : M a = some (.inr (0, [.int (nI 0), .null, .int (nI 0)])))  : mWv l yJxc12de_init_da8c8 wsJxc12de_init_da8c8 ({ frames := 2, cells := 0, slots := 0, locals := 32 } : Room) D cy M sz [.ref a] (fun M' => M' = M) 0 0 := by
  refine mW.of (cc := cJxc12de_init_da8c8) (maxL := 1) (ret := none) (by decide) rfl (Nat.le_of_ble_eq_true rfl) ?_
  intro p e s m args below meth c ls hsz hx hb hr hts hown hlocks hml hname hP hD hS hA hK hl
  have hl : lv_has ls 1 [(0, .ref a)] := hl
  have hown : s.vm.findClass RJxc12de = some m.cls := hown
  have hwJx4a65c : ∀ w ∈ wsJx4a65c0, w.before args s = true := fun w h => hts w (List.mem_cons_of_mem _ (List.mem_append_right _ (h)))
  refine lv_aload_n hx hb dJxc12de_init_da8c8_0 rfl (lv_at hl 0 rfl) ?_
  refine m_callv (va_runI (As := []) (rest := []) ⟨hx, hb, hml, hown, hts⟩ (c_Jxa1e45_init_da8c8 l D cy _ _ a) (cwI 0 hts gJxc12de_init_da8c8_Jxa1e45_init_da8c8 rfl rfl rfl (hts _ (List.mem_of_getElem? (i := 4) rfl)) (hts _ (List.mem_of_getElem? (i := 2) rfl)) (hts _ (List.mem_of_getElem? (i := 3) rfl)) rfl (by decide +kernel) ⟨Nat.le_of_ble_eq_true rfl, Nat.le_of_ble_eq_true rfl⟩) (mPreWS hK hP) rfl rfl hl.1 rfl (lv_room (Nat.le_of_ble_eq_true rfl)) dJxc12de_init_da8c8_1 ⟨Nat.le_of_ble_eq_true rfl, Nat.le_of_ble_eq_true rfl⟩) hD hA hS (fun Mn H locs hq9 hP hD hS hz9 hd9 hk9 => ?_)
  have hq9 : Mn = M := hq9
  rw [hq9] at hP hD
  refine lv_aload_n hx hb dJxc12de_init_da8c8_4 rfl (lv_at hl 0 rfl) ?_
  refine lv_iconst (v := (nI 0)) hx hb dJxc12de_init_da8c8_5 (by decide) ?_
  refine m_put (T := TJx4a65c) (N := 3) (ci := 0) (fs := [.int (nI 0), .null, .int (nI 0)]) (v := .int (nI 0)) hx hb hwJx4a65c tyJx4a65c tyJx4a65c_ok nmJx4a65c hown hK hP hD hS f_a rfl 0 (by decide) (hts _ (List.mem_of_getElem? (i := 1) rfl)) rfl (rfl) rfl (Nat.le_of_ble_eq_true rfl) dJxc12de_init_da8c8_6 (fun H locs hP hD hS => ?_)
  have hP : pm D (mset M a (.inr (0, [.int (nI 0), .null, .int (nI 0)]))) H := hP
  have hD : mD (mA M sz) (mset M a (.inr (0, [.int (nI 0), .null, .int (nI 0)]))) := hD
  exact e_wv hx hb hr hlocks hP hD hS ((mset_id f_a)) dJxc12de_init_da8c8_9

set_option maxRecDepth 100000 in
set_option maxHeartbeats 4000000 in
theorem c_Jx4a65c_init_da8c8 (l : Launch) (de mi : Nat) (D : va_G) (cy : Nat → ClassId) (M : mM) (sz : Nat) (a : Nat)  (f_a : M a = some (.inr (0, [.int (nI 0), .null, .int (nI 0)])))  : mXv l yJx4a65c_init_da8c8 wsJx4a65c_init_da8c8 ({ frames := 3, cells := 0, slots := 0, locals := 52 } : Room) de mi D cy M sz [.ref a] (fun M' => M' = mset M a (.inr (0, [.int (nI (0)), .ref de, .int (nI (0))]))) 0 0 := by
  refine mX.of (cc := cJx4a65c_init_da8c8) (maxL := 1) (ret := none) (by decide) rfl (Nat.le_of_ble_eq_true rfl) ?_
  intro p e s m args below meth c ls hsz hx hb hr hts hown hlocks hml hname hP hD hS hA hK hX hl
  have hl : lv_has ls 1 [(0, .ref a)] := hl
  have hown : s.vm.findClass RJx4a65c = some m.cls := hown
  have hwJx4a65c : ∀ w ∈ wsJx4a65c0, w.before args s = true := fun w h => hts w (List.mem_cons_of_mem _ (List.mem_append_right _ (h)))
  refine lv_aload_n hx hb dJx4a65c_init_da8c8_0 rfl (lv_at hl 0 rfl) ?_
  refine m_callv (va_runI (As := []) (rest := []) ⟨hx, hb, hml, hown, hts⟩ (c_Jxc12de_init_da8c8 l D cy _ _ a f_a) (cwI 0 hts gJx4a65c_init_da8c8_Jxc12de_init_da8c8 rfl rfl rfl (hts _ (List.mem_of_getElem? (i := 5) rfl)) (hts _ (List.mem_of_getElem? (i := 3) rfl)) (hts _ (List.mem_of_getElem? (i := 4) rfl)) rfl (by decide +kernel) ⟨Nat.le_of_ble_eq_true rfl, Nat.le_of_ble_eq_true rfl⟩) (mPreWS hK hP) rfl rfl hl.1 rfl (lv_room (Nat.le_of_ble_eq_true rfl)) dJx4a65c_init_da8c8_1 ⟨Nat.le_of_ble_eq_true rfl, Nat.le_of_ble_eq_true rfl⟩) hD hA hS (fun Mn H locs hq9 hP hD hS hz9 hd9 hk9 => ?_)
  have hq9 : Mn = M := hq9
  rw [hq9] at hP hD
  refine lv_aload_n hx hb dJx4a65c_init_da8c8_4 rfl (lv_at hl 0 rfl) ?_
  refine va_gets hx hb hX.1 hS hown (hts _ (List.mem_of_getElem? (i := 1) rfl)) (fun _ h9 => h9) dJx4a65c_init_da8c8_5 ?_
  refine m_put (T := TJx4a65c) (N := 3) (ci := 0) (fs := [.int (nI 0), .null, .int (nI 0)]) (v := .ref de) hx hb hwJx4a65c tyJx4a65c tyJx4a65c_ok nmJx4a65c hown hK hP hD hS f_a rfl 1 (by decide) (hts _ (List.mem_of_getElem? (i := 2) rfl)) rfl (rfl) rfl (Nat.le_of_ble_eq_true rfl) dJx4a65c_init_da8c8_8 (fun H locs hP hD hS => ?_)
  have hP : pm D (mset M a (.inr (0, [.int (nI 0), .ref de, .int (nI 0)]))) H := hP
  have hD : mD (mA M sz) (mset M a (.inr (0, [.int (nI 0), .ref de, .int (nI 0)]))) := hD
  exact e_wv hx hb hr hlocks hP hD hS (rfl) dJx4a65c_init_da8c8_11

set_option maxRecDepth 100000 in
set_option maxHeartbeats 4000000 in
theorem c_Jx4a65c_size_8abf5 (l : Launch) (D : va_G) (cy : Nat → ClassId) (M : mM) (a n mo de : Nat)  (f_a : M a = some (.inr (0, [.int (nI mo), .ref de, .int (nI n)])))  : mR l yJx4a65c_size_8abf5 wsJx4a65c_size_8abf5 ({ frames := 0, cells := 0, slots := 0, locals := 0 } : Room) D cy M [.ref a] (fun r => r = nI n) := by
  refine mR.of (cc := cJx4a65c_size_8abf5) (maxL := 1) (ret := (some .int)) (by decide) rfl (Nat.le_of_ble_eq_true rfl) ?_
  intro p e s m args below meth c ls hx hb hr hts hown hlocks hml hP hK hl
  have hl : lv_has ls 1 [(0, .ref a)] := hl
  have hown : s.vm.findClass RJx4a65c = some m.cls := hown
  have hwJx4a65c : ∀ w ∈ wsJx4a65c0, w.before args s = true := fun w h => hts w (List.mem_cons_of_mem _ (List.mem_append_right _ (h)))
  refine lv_aload_n hx hb dJx4a65c_size_8abf5_0 rfl (lv_at hl 0 rfl) ?_
  refine m_get (T := TJx4a65c) (N := 3) (ci := 0) (fs := [.int (nI mo), .ref de, .int (nI n)]) hx hb hwJx4a65c hown hK hP f_a rfl 2 (by decide) (hts _ (List.mem_of_getElem? (i := 1) rfl)) (v := .int (nI n)) rfl dJx4a65c_size_8abf5_1 ?_
  exact e_ri hx hb hr hlocks (rfl) dJx4a65c_size_8abf5_4

set_option maxRecDepth 100000 in
set_option maxHeartbeats 4000000 in
theorem c_Jx4a65c_elementData_915e3 (l : Launch) (D : va_G) (cy : Nat → ClassId) (M : mM) (sz : Nat) (a el n mo cap : Nat) (g : Nat → Option Nat) (j x : Nat)  (f_a : M a = some (.inr (0, [.int (nI mo), .ref el, .int (nI n)]))) (f_el : M el = some (eQ cy cap g)) (hj : j < cap) (hcap : cap < 1000) (hgx : g j = some x) : mWr l yJx4a65c_elementData_915e3 wsJx4a65c_elementData_915e3 ({ frames := 0, cells := 0, slots := 0, locals := 0 } : Room) D cy M sz [.ref a, .int (nI j)] (fun r M' => r = x ∧ M' = M) 0 0 := by
  refine mW.of (cc := cJx4a65c_elementData_915e3) (maxL := 2) (ret := (some (.object "java/lang/Object"))) (by decide) rfl (Nat.le_of_ble_eq_true rfl) ?_
  intro p e s m args below meth c ls hsz hx hb hr hts hown hlocks hml hname hP hD hS hA hK hl
  have hl : lv_has ls 2 [(0, .ref a), (1, .int (nI j))] := hl
  have hown : s.vm.findClass RJx4a65c = some m.cls := hown
  have hwJx4a65c : ∀ w ∈ wsJx4a65c0, w.before args s = true := fun w h => hts w (List.mem_cons_of_mem _ (List.mem_append_right _ (h)))
  have n_a_el : a ≠ el := ne_cell f_a f_el (fun h9 => by simp at h9)
  refine lv_aload_n hx hb dJx4a65c_elementData_915e3_0 rfl (lv_at hl 0 rfl) ?_
  refine m_get (T := TJx4a65c) (N := 3) (ci := 0) (fs := [.int (nI mo), .ref el, .int (nI n)]) hx hb hwJx4a65c hown hK hP f_a rfl 1 (by decide) (hts _ (List.mem_of_getElem? (i := 1) rfl)) (v := .ref el) rfl dJx4a65c_elementData_915e3_1 ?_
  refine lv_iload_n hx hb dJx4a65c_elementData_915e3_4 rfl (lv_at hl 1 rfl) ?_
  refine m_ald (g := g) (n := cap) (i := j) (x := x) hx hb hK hP f_el (by omega) (by omega) hgx dJx4a65c_elementData_915e3_5 ?_
  exact e_wr hx hb hr (Or.inl ⟨_, rfl⟩) hlocks hP hD hS (⟨rfl, rfl⟩) dJx4a65c_elementData_915e3_6

set_option maxRecDepth 100000 in
set_option maxHeartbeats 4000000 in
theorem c_Jx4a65c_get_915e3 (l : Launch) (D : va_G) (cy : Nat → ClassId) (M : mM) (sz : Nat) (a el n mo cap : Nat) (g : Nat → Option Nat) (j x : Nat)  (f_a : M a = some (.inr (0, [.int (nI mo), .ref el, .int (nI n)]))) (f_el : M el = some (eQ cy cap g)) (hj : j < n) (hnc : n ≤ cap) (hcap : cap < 1000) (hgx : g j = some x) : mWr l yJx4a65c_get_915e3 wsJx4a65c_get_915e3 ({ frames := 2, cells := 0, slots := 0, locals := 43 } : Room) D cy M sz [.ref a, .int (nI j)] (fun r M' => r = x ∧ M' = M) 0 0 := by
  refine mW.of (cc := cJx4a65c_get_915e3) (maxL := 2) (ret := (some (.object "java/lang/Object"))) (by decide) rfl (Nat.le_of_ble_eq_true rfl) ?_
  intro p e s m args below meth c ls hsz hx hb hr hts hown hlocks hml hname hP hD hS hA hK hl
  have hl : lv_has ls 2 [(0, .ref a), (1, .int (nI j))] := hl
  have hown : s.vm.findClass RJx4a65c = some m.cls := hown
  have hwJx4a65c : ∀ w ∈ wsJx4a65c0, w.before args s = true := fun w h => hts w (List.mem_cons_of_mem _ (List.mem_append_right _ (h)))
  have n_a_el : a ≠ el := ne_cell f_a f_el (fun h9 => by simp at h9)
  refine lv_iload_n hx hb dJx4a65c_get_915e3_0 rfl (lv_at hl 1 rfl) ?_
  refine lv_aload_n hx hb dJx4a65c_get_915e3_1 rfl (lv_at hl 0 rfl) ?_
  refine m_get (T := TJx4a65c) (N := 3) (ci := 0) (fs := [.int (nI mo), .ref el, .int (nI n)]) hx hb hwJx4a65c hown hK hP f_a rfl 2 (by decide) (hts _ (List.mem_of_getElem? (i := 1) rfl)) (v := .int (nI n)) rfl dJx4a65c_get_915e3_2 ?_
  refine vp_callSi (W.runS (As := [.int (nI j), .int (nI n)]) (rest := []) ⟨hx, hb, hml, hown, hts⟩ (c_J15_checkIndex_7cf53 l j n hj (by omega)) (va_cwS 2 hts gJx4a65c_get_915e3_J15_checkIndex_7cf53 rfl rfl rfl (by decide +kernel) ⟨Nat.le_of_ble_eq_true rfl, Nat.le_of_ble_eq_true rfl⟩) mPre0 rfl rfl hl.1 rfl (lv_room (Nat.le_of_ble_eq_true rfl)) dJx4a65c_get_915e3_5 ⟨Nat.le_of_ble_eq_true rfl, Nat.le_of_ble_eq_true rfl⟩) (fun r9 hr9 => ?_)
  have hr9 : r9 = (nI j) := hr9
  subst hr9
  refine lv_pop hx hb dJx4a65c_get_915e3_8 rfl ?_
  refine lv_aload_n hx hb dJx4a65c_get_915e3_9 rfl (lv_at hl 0 rfl) ?_
  refine lv_iload_n hx hb dJx4a65c_get_915e3_10 rfl (lv_at hl 1 rfl) ?_
  refine m_callr (va_runV (C := RJx4a65c) (As := [.int (nI j)]) (rest := []) ⟨hx, hb, hml, hown, hts⟩ (c_Jx4a65c_elementData_915e3 l D cy _ _ a el n mo cap g j x f_a f_el (by omega) hcap hgx) (cwV 1 hts gJx4a65c_get_915e3_Jx4a65c_elementData_915e3 rfl rfl rfl (by decide +kernel) ⟨Nat.le_of_ble_eq_true rfl, Nat.le_of_ble_eq_true rfl⟩) (mPreWV hK hP f_a (ci := 0) rfl) rfl rfl hl.1 rfl (lv_room (Nat.le_of_ble_eq_true rfl)) dJx4a65c_get_915e3_11 ⟨Nat.le_of_ble_eq_true rfl, Nat.le_of_ble_eq_true rfl⟩) hD hA hS (fun r9 Mn H locs hq9 hP hD hS hz9 hd9 hk9 => ?_)
  obtain ⟨hr9, hq9⟩ := hq9
  rw [hr9]
  have hq9 : Mn = M := hq9
  rw [hq9] at hP hD
  exact e_wr hx hb hr (Or.inl ⟨_, rfl⟩) hlocks hP hD hS (⟨rfl, rfl⟩) dJx4a65c_get_915e3_14

set_option maxRecDepth 100000 in
set_option maxHeartbeats 4000000 in
theorem c_grow1F (l : Launch) (de mi : Nat) (D : va_G) (cy : Nat → ClassId) (M : mM) (sz : Nat) (a mo : Nat)  (f_a : M a = some (.inr (0, [.int (nI mo), .ref de, .int (nI 0)])))  : mXr l yJx4a65c_grow_92f84 wsJx4a65c_grow_92f84 ({ frames := 1, cells := 1, slots := 10, locals := 14 } : Room) de mi D cy M sz [.ref a, .int (nI 1)] (fun r M' => M r = none ∧ M' = mset (mset M r (eQ cy 10 (fun _ => none))) a (.inr (0, [.int (nI (mo)), .ref r, .int (nI (0))]))) 1 10 := by
  refine mX.of (cc := cJx4a65c_grow_92f84) (maxL := 4) (ret := (some (.array (.object "java/lang/Object")))) (by decide) rfl (Nat.le_of_ble_eq_true rfl) ?_
  intro p e s m args below meth c ls hsz hx hb hr hts hown hlocks hml hname hP hD hS hA hK hX hl
  have hl : lv_has ls 4 [(0, .ref a), (1, .int (nI 1))] := hl
  have hown : s.vm.findClass RJx4a65c = some m.cls := hown
  have hwJx4a65c : ∀ w ∈ wsJx4a65c0, w.before args s = true := fun w h => hts w (List.mem_cons_of_mem _ (List.mem_append_right _ (h)))
  refine lv_aload_n hx hb dJx4a65c_grow_92f84_0 rfl (lv_at hl 0 rfl) ?_
  refine m_get (T := TJx4a65c) (N := 3) (ci := 0) (fs := [.int (nI mo), .ref de, .int (nI 0)]) hx hb hwJx4a65c hown hK hP f_a rfl 1 (by decide) (hts _ (List.mem_of_getElem? (i := 1) rfl)) (v := .ref de) rfl dJx4a65c_grow_92f84_1 ?_
  refine va_tlen (v := nI 0) hx hb hX.2.1 hS rfl dJx4a65c_grow_92f84_4 ?_
  refine lv_istore_n (lv' := [(2, .int (nI 0)), (0, .ref a), (1, .int (nI 1))]) hx hb dJx4a65c_grow_92f84_5 rfl hl (by decide) rfl (fun ls hl => ?_)
  refine lv_iload_n hx hb dJx4a65c_grow_92f84_6 rfl (lv_at hl 0 rfl) ?_
  refine z_if_gt (u := ((0 : Nat) : Int)) (tgt := 20) hx hb (nI_toInt (by omega)) dJx4a65c_grow_92f84_7 (by decide) (fun c_7 => ?_) (fun c_7 => ?_)
  · first | exact absurd rfl c_17 | (exfalso; omega)
  · refine lv_aload_n hx hb dJx4a65c_grow_92f84_10 rfl (lv_at hl 1 rfl) ?_
    refine m_get (T := TJx4a65c) (N := 3) (ci := 0) (fs := [.int (nI mo), .ref de, .int (nI 0)]) hx hb hwJx4a65c hown hK hP f_a rfl 1 (by decide) (hts _ (List.mem_of_getElem? (i := 1) rfl)) (v := .ref de) rfl dJx4a65c_grow_92f84_11 ?_
    refine va_gets hx hb hX.1 hS hown (hts _ (List.mem_of_getElem? (i := 2) rfl)) (fun _ h9 => h9) dJx4a65c_grow_92f84_14 ?_
    refine lv_acmp_eq (rx := some de) (ry := some de) (tgt := 45) hx hb dJx4a65c_grow_92f84_17 (by decide) (fun c_17 => ?_) (fun c_17 => ?_)
    · refine lv_aload_n hx hb dJx4a65c_grow_92f84_45 rfl (lv_at hl 1 rfl) ?_
      refine lv_bipush (v := (nI 10)) hx hb dJx4a65c_grow_92f84_46 (by decide) ?_
      refine lv_iload_n hx hb dJx4a65c_grow_92f84_48 rfl (lv_at hl 2 rfl) ?_
      refine n_max (x := 10) (y := 1) hx hb (hml.trans hl.1.symm) hown (hts _ (List.mem_of_getElem? (i := 3) rfl)) (hts _ (List.mem_of_getElem? (i := 4) rfl)) (hts _ (List.mem_of_getElem? (i := 5) rfl)) (hts _ (List.mem_of_getElem? (i := 6) rfl)) (Nat.le_of_ble_eq_true rfl) (Nat.le_of_ble_eq_true rfl) (Nat.le_of_ble_eq_true rfl) (Nat.le_of_ble_eq_true rfl) (by omega) (by omega) dJx4a65c_grow_92f84_49 ?_
      refine n_name (show nI (max 10 1) = nI 10 from rfl) ?_
      refine m_newq (n := 10) hx hb hown (hts _ (List.mem_of_getElem? (i := 7) rfl)) hX.2.2.2.2.2.2.1 hK hP hD hS hA (by omega) (by omega) (Nat.le_of_ble_eq_true rfl) (by first | exact Nat.le_of_ble_eq_true rfl | (show _ ≤ _; omega)) dJx4a65c_grow_92f84_52 (fun q_1 H hn_q_1 hq_q_1 hz_q_1 hP hD hS => ?_)
      have n_a_q_1 : a ≠ q_1 := ne_none (f_a) hn_q_1
      have hP : pm D (mset M q_1 (eQ cy 10 (fun _ => none))) H := hP
      have hD : mD (mA M sz) (mset M q_1 (eQ cy 10 (fun _ => none))) := hD
      refine lv_dup_x1 hx hb dJx4a65c_grow_92f84_55 rfl rfl ?_
      refine m_put (T := TJx4a65c) (N := 3) (ci := 0) (fs := [.int (nI mo), .ref de, .int (nI 0)]) (v := .ref q_1) hx hb hwJx4a65c tyJx4a65c tyJx4a65c_ok nmJx4a65c hown hK hP hD hS ((mset_ne n_a_q_1).trans (f_a)) rfl 1 (by decide) (hts _ (List.mem_of_getElem? (i := 1) rfl)) rfl (rfl) rfl (Nat.le_of_ble_eq_true rfl) dJx4a65c_grow_92f84_56 (fun H locs hP hD hS => ?_)
      have hP : pm D (mset (mset M q_1 (eQ cy 10 (fun _ => none))) a (.inr (0, [.int (nI mo), .ref q_1, .int (nI 0)]))) H := hP
      have hD : mD (mA M sz) (mset (mset M q_1 (eQ cy 10 (fun _ => none))) a (.inr (0, [.int (nI mo), .ref q_1, .int (nI 0)]))) := hD
      exact e_wr hx hb hr (Or.inr ⟨_, rfl⟩) hlocks hP hD hS (⟨hn_q_1, rfl⟩) dJx4a65c_grow_92f84_59
    · first | exact absurd rfl c_17 | (exfalso; omega)

set_option maxRecDepth 100000 in
set_option maxHeartbeats 4000000 in
theorem c_grow1G (l : Launch) (de mi : Nat) (D : va_G) (cy : Nat → ClassId) (M : mM) (sz : Nat) (a el n mo : Nat) (g : Nat → Option Nat)  (f_a : M a = some (.inr (0, [.int (nI mo), .ref el, .int (nI n)]))) (f_el : M el = some (eQ cy n g)) (hn1 : 10 ≤ n) (hn2 : n < 40) (C : String) (hC : C ∈ ["InkHall$Strokes", "InkHall$Pupil", "InkHall$Script"]) (hel9 : ∀ i : Nat, i < n → ∀ y : Nat, g i = some y → ∃ (ci : Nat) (fs : List Value) (r : vw_C), M y = some (.inr (ci, fs)) ∧ vwCl[ci]? = some r ∧ r.1 = C) : mXr l yJx4a65c_grow_92f84 wsJx4a65c_grow_92f84 ({ frames := 3, cells := 1, slots := 58, locals := 91 } : Room) de mi D cy M sz [.ref a, .int (nI (n + 1))] (fun r M' => M r = none ∧ M' = mset (mset M r (eQ cy (n + n / 2) (va_cpy g (fun _ => none) 0 0 n))) a (.inr (0, [.int (nI (mo)), .ref r, .int (nI (n))]))) 1 58 := by
  refine mX.of (cc := cJx4a65c_grow_92f84) (maxL := 4) (ret := (some (.array (.object "java/lang/Object")))) (by decide) rfl (Nat.le_of_ble_eq_true rfl) ?_
  intro p e s m args below meth c ls hsz hx hb hr hts hown hlocks hml hname hP hD hS hA hK hX hl
  have hl : lv_has ls 4 [(0, .ref a), (1, .int (nI (n + 1)))] := hl
  have hown : s.vm.findClass RJx4a65c = some m.cls := hown
  have hwJx4a65c : ∀ w ∈ wsJx4a65c0, w.before args s = true := fun w h => hts w (List.mem_cons_of_mem _ (List.mem_append_right _ (h)))
  have n_a_el : a ≠ el := ne_cell f_a f_el (fun h9 => by simp at h9)
  refine lv_aload_n hx hb dJx4a65c_grow_92f84_0 rfl (lv_at hl 0 rfl) ?_
  refine m_get (T := TJx4a65c) (N := 3) (ci := 0) (fs := [.int (nI mo), .ref el, .int (nI n)]) hx hb hwJx4a65c hown hK hP f_a rfl 1 (by decide) (hts _ (List.mem_of_getElem? (i := 1) rfl)) (v := .ref el) rfl dJx4a65c_grow_92f84_1 ?_
  refine m_alen (n := n) (t0 := 2) hx hb hK hP f_el rfl rfl dJx4a65c_grow_92f84_4 ?_
  refine lv_istore_n (lv' := [(2, .int (nI n)), (0, .ref a), (1, .int (nI (n + 1)))]) hx hb dJx4a65c_grow_92f84_5 rfl hl (by decide) rfl (fun ls hl => ?_)
  refine lv_iload_n hx hb dJx4a65c_grow_92f84_6 rfl (lv_at hl 0 rfl) ?_
  refine z_if_gt (u := ((n : Nat) : Int)) (tgt := 20) hx hb (nI_toInt (by omega)) dJx4a65c_grow_92f84_7 (by decide) (fun c_7 => ?_) (fun c_7 => ?_)
  · refine lv_iload_n hx hb dJx4a65c_grow_92f84_20 rfl (lv_at hl 0 rfl) ?_
    refine lv_iload_n hx hb dJx4a65c_grow_92f84_21 rfl (lv_at hl 2 rfl) ?_
    refine lv_iload_n hx hb dJx4a65c_grow_92f84_22 rfl (lv_at hl 0 rfl) ?_
    refine n_sub (x := n + 1) (y := n) hx hb (by omega) dJx4a65c_grow_92f84_23 ?_
    refine lv_iload_n hx hb dJx4a65c_grow_92f84_24 rfl (lv_at hl 0 rfl) ?_
    refine lv_iconst (v := (nI 1)) hx hb dJx4a65c_grow_92f84_25 (by decide) ?_
    refine lv_ishr hx hb dJx4a65c_grow_92f84_26 ?_
    refine n_name (show (nI n) >>> ((nI 1) &&& 31) = (nI (n / 2)) from shr_1 (by omega)) ?_
    refine vp_callSi (W.runS (As := [.int (nI n), .int (nI ((n + 1) - n)), .int (nI (n / 2))]) (rest := []) ⟨hx, hb, hml, hown, hts⟩ (c_J8_newLength_cabcc l n (n + 1 - n) (n / 2) (by omega) (by omega) (by omega) (by omega)) (va_cwS 3 hts gJx4a65c_grow_92f84_J8_newLength_cabcc rfl rfl rfl (by decide +kernel) ⟨Nat.le_of_ble_eq_true rfl, Nat.le_of_ble_eq_true rfl⟩) mPre0 rfl rfl hl.1 rfl (lv_room (Nat.le_of_ble_eq_true rfl)) dJx4a65c_grow_92f84_27 ⟨Nat.le_of_ble_eq_true rfl, Nat.le_of_ble_eq_true rfl⟩) (fun r9 hr9 => ?_)
    have hr9 : r9 = (nI (n + max (n + 1 - n) (n / 2))) := hr9
    subst hr9
    refine n_name (show nI (n + max (n + 1 - n) (n / 2)) = nI (n + n / 2) from congrArg nI (by omega)) ?_
    refine lv_istore_n (lv' := [(3, .int (nI (n + n / 2))), (2, .int (nI n)), (0, .ref a), (1, .int (nI (n + 1)))]) hx hb dJx4a65c_grow_92f84_30 rfl hl (by decide) rfl (fun ls hl => ?_)
    refine lv_aload_n hx hb dJx4a65c_grow_92f84_31 rfl (lv_at hl 2 rfl) ?_
    refine lv_aload_n hx hb dJx4a65c_grow_92f84_32 rfl (lv_at hl 2 rfl) ?_
    refine m_get (T := TJx4a65c) (N := 3) (ci := 0) (fs := [.int (nI mo), .ref el, .int (nI n)]) hx hb hwJx4a65c hown hK hP f_a rfl 1 (by decide) (hts _ (List.mem_of_getElem? (i := 1) rfl)) (v := .ref el) rfl dJx4a65c_grow_92f84_33 ?_
    refine lv_iload_n hx hb dJx4a65c_grow_92f84_36 rfl (lv_at hl 0 rfl) ?_
    have hel8 : ∀ i : Nat, i < n → ∀ y : Nat, g i = some y → y ≠ el ∧ ∃ cell : Cell, s.heap[y]? = some cell ∧ cell.vm.isStatics = false ∧ s.vm.findClass C = some cell.cls := by
      intro i hi y hy
      obtain ⟨ci, fs, r, h1, h2, h3⟩ := hel9 i hi y hy
      obtain ⟨r8, hr8, cellV, g1, g2, g3, -⟩ := hP y _ h1
      subst h3
      exact ⟨fun h => (by rw [h, f_el] at h1; cases h1), cellV, g1, (by rw [g3]; rfl), (by rw [g2]; exact (hK.1 ci r h2).2.1)⟩
    refine va_callr (va_runS (As := [.ref el, .int (nI (n + n / 2))]) (rest := [.ref a]) ⟨hx, hb, hml, hown, hts⟩ (c_copyOf l mi D cy s.heap.size el n (n + n / 2) g C (by omega) (by omega)) (va_cwS 2 hts gJx4a65c_grow_92f84_J7_copyOf_1904c rfl rfl rfl (by decide +kernel) ⟨Nat.le_of_ble_eq_true rfl, Nat.le_of_ble_eq_true rfl⟩) (cpP_pre (fun z e9 hz => by by_cases h : z = el; (subst h; rw [show cM0 cy z n g z = _ from mset_self _ _ _] at hz; cases hz; exact hP z _ f_el); (rw [show cM0 cy el n g z = none from mset_ne h] at hz; cases hz)) hK hX.2.2.2.2.1 hX.2.2.2.2.2.1 hX.2.2.2.2.2.2.1 (hX.2.2.2.2.2.2.2.1 C hC) hel8) rfl rfl hl.1 rfl (lv_room (Nat.le_of_ble_eq_true rfl)) dJx4a65c_grow_92f84_37 ⟨Nat.le_of_ble_eq_true rfl, Nat.le_of_ble_eq_true rfl⟩) hS (fun q _ h => (by rcases h with h | h; (by_cases h2 : q = el; (rw [h2]; exact hD.at f_el); exact absurd (mset_ne h2) h); exact hA q (Nat.le_trans hS.1 h))) (fun q h => (by rcases h with h | h; (by_cases h2 : q = el; (rw [h2]; exact hD.at f_el); exact absurd (mset_ne h2) h); exact hA q (Nat.le_trans hS.1 h))) (fun u9 ra t9 H1 locs1 ht9 hvm9 _ hB9 hz9 hk9 hS1 => ?_)
    obtain ⟨⟨hB1, hB2⟩, hB3, rfl⟩ := hB9
    rw [ht9] at hB1
    obtain ⟨hn_ra, hge9, hP⟩ := cp_join hP f_el hB1 hB2 hB3 hk9
    have hD : mD (mA M sz) _ := hD.set (a := ra) (e := eQ cy (n + n / 2) (va_cpy g (fun _ => none) 0 0 n)) (hA ra (Nat.le_trans hS.1 hge9))
    have hS := hS1
    clear hS1
    have n_a_ra : a ≠ ra := ne_none (f_a) hn_ra
    have n_el_ra : el ≠ ra := ne_none (f_el) hn_ra
    refine lv_dup_x1 hx hb dJx4a65c_grow_92f84_40 rfl rfl ?_
    refine m_put (T := TJx4a65c) (N := 3) (ci := 0) (fs := [.int (nI mo), .ref el, .int (nI n)]) (v := .ref ra) hx hb hwJx4a65c tyJx4a65c tyJx4a65c_ok nmJx4a65c hown hK hP hD hS ((mset_ne n_a_ra).trans (f_a)) rfl 1 (by decide) (hts _ (List.mem_of_getElem? (i := 1) rfl)) rfl (rfl) rfl (Nat.le_of_ble_eq_true rfl) dJx4a65c_grow_92f84_41 (fun H locs hP hD hS => ?_)
    have hP : pm D (mset (mset M ra (eQ cy (n + n / 2) (va_cpy g (fun _ => none) 0 0 n))) a (.inr (0, [.int (nI mo), .ref ra, .int (nI n)]))) H := hP
    have hD : mD (mA M sz) (mset (mset M ra (eQ cy (n + n / 2) (va_cpy g (fun _ => none) 0 0 n))) a (.inr (0, [.int (nI mo), .ref ra, .int (nI n)]))) := hD
    exact e_wr hx hb hr (Or.inr ⟨_, rfl⟩) hlocks hP hD hS (⟨hn_ra, rfl⟩) dJx4a65c_grow_92f84_44
  · exfalso; omega

set_option maxRecDepth 100000 in
set_option maxHeartbeats 4000000 in
theorem c_grow0F (l : Launch) (de mi : Nat) (D : va_G) (cy : Nat → ClassId) (M : mM) (sz : Nat) (a mo : Nat)  (f_a : M a = some (.inr (0, [.int (nI mo), .ref de, .int (nI 0)])))  : mXr l yJx4a65c_grow_d5877 wsJx4a65c_grow_d5877 ({ frames := 2, cells := 1, slots := 10, locals := 37 } : Room) de mi D cy M sz [.ref a] (fun r M' => M r = none ∧ M' = mset (mset M r (eQ cy (10) (fun _ => none))) a (.inr (0, [.int (nI (mo)), .ref r, .int (nI (0))]))) 1 10 := by
  refine mX.of (cc := cJx4a65c_grow_d5877) (maxL := 1) (ret := (some (.array (.object "java/lang/Object")))) (by decide) rfl (Nat.le_of_ble_eq_true rfl) ?_
  intro p e s m args below meth c ls hsz hx hb hr hts hown hlocks hml hname hP hD hS hA hK hX hl
  have hl : lv_has ls 1 [(0, .ref a)] := hl
  have hown : s.vm.findClass RJx4a65c = some m.cls := hown
  have hwJx4a65c : ∀ w ∈ wsJx4a65c0, w.before args s = true := fun w h => hts w (List.mem_cons_of_mem _ (List.mem_append_right _ (h)))
  refine lv_aload_n hx hb dJx4a65c_grow_d5877_0 rfl (lv_at hl 0 rfl) ?_
  refine lv_aload_n hx hb dJx4a65c_grow_d5877_1 rfl (lv_at hl 0 rfl) ?_
  refine m_get (T := TJx4a65c) (N := 3) (ci := 0) (fs := [.int (nI mo), .ref de, .int (nI 0)]) hx hb hwJx4a65c hown hK hP f_a rfl 2 (by decide) (hts _ (List.mem_of_getElem? (i := 1) rfl)) (v := .int (nI 0)) rfl dJx4a65c_grow_d5877_2 ?_
  refine lv_iconst (v := (nI 1)) hx hb dJx4a65c_grow_d5877_5 (by decide) ?_
  refine n_add (x := 0) (y := 1) hx hb dJx4a65c_grow_d5877_6 ?_
  refine n_name (show nI (0 + 1) = nI 1 from rfl) ?_
  refine m_callr (va_runV (C := RJx4a65c) (As := [.int (nI 1)]) (rest := []) ⟨hx, hb, hml, hown, hts⟩ (c_grow1F l de mi D cy _ _ a mo f_a) (cwV 1 hts gJx4a65c_grow_d5877_Jx4a65c_grow_92f84 rfl rfl rfl (by decide +kernel) ⟨Nat.le_of_ble_eq_true rfl, Nat.le_of_ble_eq_true rfl⟩) (mPreXV hX hD hS hA hK hP f_a (ci := 0) rfl) rfl rfl hl.1 rfl (lv_room (Nat.le_of_ble_eq_true rfl)) dJx4a65c_grow_d5877_7 ⟨Nat.le_of_ble_eq_true rfl, Nat.le_of_ble_eq_true rfl⟩) hD hA hS (fun ra Mn H locs hq9 hP hD hS hz9 hd9 hk9 => ?_)
  obtain ⟨hn_ra, hq9⟩ := hq9
  have n_a_ra : a ≠ ra := ne_none (f_a) hn_ra
  have hq9 : Mn = (mset (mset M ra (eQ cy 10 (fun _ => none))) a (.inr (0, [.int (nI mo), .ref ra, .int (nI 0)]))) := hq9
  subst hq9
  exact e_wr hx hb hr (Or.inr ⟨_, rfl⟩) hlocks hP hD hS (⟨hn_ra, rfl⟩) dJx4a65c_grow_d5877_10

set_option maxRecDepth 100000 in
set_option maxHeartbeats 4000000 in
theorem c_grow0G (l : Launch) (de mi : Nat) (D : va_G) (cy : Nat → ClassId) (M : mM) (sz : Nat) (a el n mo : Nat) (g : Nat → Option Nat)  (f_a : M a = some (.inr (0, [.int (nI mo), .ref el, .int (nI n)]))) (f_el : M el = some (eQ cy n g)) (hn1 : 10 ≤ n) (hn2 : n < 40) (C : String) (hC : C ∈ ["InkHall$Strokes", "InkHall$Pupil", "InkHall$Script"]) (hel9 : ∀ i : Nat, i < n → ∀ y : Nat, g i = some y → ∃ (ci : Nat) (fs : List Value) (r : vw_C), M y = some (.inr (ci, fs)) ∧ vwCl[ci]? = some r ∧ r.1 = C) : mXr l yJx4a65c_grow_d5877 wsJx4a65c_grow_d5877 ({ frames := 4, cells := 1, slots := 58, locals := 114 } : Room) de mi D cy M sz [.ref a] (fun r M' => M r = none ∧ M' = mset (mset M r (eQ cy (n + n / 2) (va_cpy g (fun _ => none) 0 0 n))) a (.inr (0, [.int (nI (mo)), .ref r, .int (nI (n))]))) 1 58 := by
  refine mX.of (cc := cJx4a65c_grow_d5877) (maxL := 1) (ret := (some (.array (.object "java/lang/Object")))) (by decide) rfl (Nat.le_of_ble_eq_true rfl) ?_
  intro p e s m args below meth c ls hsz hx hb hr hts hown hlocks hml hname hP hD hS hA hK hX hl
  have hl : lv_has ls 1 [(0, .ref a)] := hl
  have hown : s.vm.findClass RJx4a65c = some m.cls := hown
  have hwJx4a65c : ∀ w ∈ wsJx4a65c0, w.before args s = true := fun w h => hts w (List.mem_cons_of_mem _ (List.mem_append_right _ (h)))
  have n_a_el : a ≠ el := ne_cell f_a f_el (fun h9 => by simp at h9)
  refine lv_aload_n hx hb dJx4a65c_grow_d5877_0 rfl (lv_at hl 0 rfl) ?_
  refine lv_aload_n hx hb dJx4a65c_grow_d5877_1 rfl (lv_at hl 0 rfl) ?_
  refine m_get (T := TJx4a65c) (N := 3) (ci := 0) (fs := [.int (nI mo), .ref el, .int (nI n)]) hx hb hwJx4a65c hown hK hP f_a rfl 2 (by decide) (hts _ (List.mem_of_getElem? (i := 1) rfl)) (v := .int (nI n)) rfl dJx4a65c_grow_d5877_2 ?_
  refine lv_iconst (v := (nI 1)) hx hb dJx4a65c_grow_d5877_5 (by decide) ?_
  refine n_add (x := n) (y := 1) hx hb dJx4a65c_grow_d5877_6 ?_
  refine m_callr (va_runV (C := RJx4a65c) (As := [.int (nI (n + 1))]) (rest := []) ⟨hx, hb, hml, hown, hts⟩ (c_grow1G l de mi D cy _ _ a el n mo g f_a f_el hn1 hn2 C hC hel9) (cwV 1 hts gJx4a65c_grow_d5877_Jx4a65c_grow_92f84 rfl rfl rfl (by decide +kernel) ⟨Nat.le_of_ble_eq_true rfl, Nat.le_of_ble_eq_true rfl⟩) (mPreXV hX hD hS hA hK hP f_a (ci := 0) rfl) rfl rfl hl.1 rfl (lv_room (Nat.le_of_ble_eq_true rfl)) dJx4a65c_grow_d5877_7 ⟨Nat.le_of_ble_eq_true rfl, Nat.le_of_ble_eq_true rfl⟩) hD hA hS (fun ra Mn H locs hq9 hP hD hS hz9 hd9 hk9 => ?_)
  obtain ⟨hn_ra, hq9⟩ := hq9
  have n_a_ra : a ≠ ra := ne_none (f_a) hn_ra
  have n_el_ra : el ≠ ra := ne_none (f_el) hn_ra
  have hq9 : Mn = (mset (mset M ra (eQ cy (n + n / 2) (va_cpy g (fun _ => none) 0 0 n))) a (.inr (0, [.int (nI mo), .ref ra, .int (nI n)]))) := hq9
  subst hq9
  exact e_wr hx hb hr (Or.inr ⟨_, rfl⟩) hlocks hP hD hS (⟨hn_ra, rfl⟩) dJx4a65c_grow_d5877_10

set_option maxRecDepth 100000 in
set_option maxHeartbeats 4000000 in
theorem c_add3G (l : Launch) (de mi : Nat) (D : va_G) (cy : Nat → ClassId) (M : mM) (sz : Nat) (a el n mo : Nat) (g : Nat → Option Nat) (x ci : Nat) (fs : List Value) (r0 : vw_C) (C : String)  (f_a : M a = some (.inr (0, [.int (nI mo), .ref el, .int (nI n)]))) (f_el : M el = some (eQ cy n g)) (f_x : M x = some (.inr (ci, fs))) (n_x_a : x ≠ a)  (hcl9 : vwCl[ci]? = some r0) (hr0 : r0.1 = C) (hC : C ∈ ["InkHall$Strokes", "InkHall$Pupil", "InkHall$Script"]) (hn1 : 10 ≤ n) (hn2 : n < 40) (hel9 : ∀ i : Nat, i < n → ∀ y : Nat, g i = some y → ∃ (ci : Nat) (fs : List Value) (r : vw_C), M y = some (.inr (ci, fs)) ∧ vwCl[ci]? = some r ∧ r.1 = C) : mXv l yJx4a65c_add_72be8 wsJx4a65c_add_72be8 ({ frames := 5, cells := 1, slots := 58, locals := 134 } : Room) de mi D cy M sz [.ref a, .ref x, .ref el, .int (nI n)] (fun M' => ∃ r, M r = none ∧ M' = mset (mset M r (eQ cy (n + n / 2) (va_up (va_cpy g (fun _ => none) 0 0 n) n (some x)))) a (.inr (0, [.int (nI (mo)), .ref r, .int (nI (n + 1))]))) 1 58 := by
  refine mX.of (cc := cJx4a65c_add_72be8) (maxL := 4) (ret := none) (by decide) rfl (Nat.le_of_ble_eq_true rfl) ?_
  intro p e s m args below meth c ls hsz hx hb hr hts hown hlocks hml hname hP hD hS hA hK hX hl
  have hl : lv_has ls 4 [(0, .ref a), (1, .ref x), (2, .ref el), (3, .int (nI n))] := hl
  have hown : s.vm.findClass RJx4a65c = some m.cls := hown
  have hwJx4a65c : ∀ w ∈ wsJx4a65c0, w.before args s = true := fun w h => hts w (List.mem_cons_of_mem _ (List.mem_append_right _ (h)))
  have n_a_el : a ≠ el := ne_cell f_a f_el (fun h9 => by simp at h9)
  have n_el_x : el ≠ x := ne_cell f_el f_x (fun h9 => by simp at h9)
  have hca9 : va_Nw (.castable r0.1 "java/lang/Object") s := (by rw [hr0]; exact hX.2.2.2.2.2.2.2.1 C hC)
  refine lv_iload_n hx hb dJx4a65c_add_72be8_0 rfl (lv_at hl 3 rfl) ?_
  refine lv_aload_n hx hb dJx4a65c_add_72be8_1 rfl (lv_at hl 2 rfl) ?_
  refine m_alen (n := n) (t0 := 2) hx hb hK hP f_el rfl rfl dJx4a65c_add_72be8_2 ?_
  refine z_icmp_ne (u := ((n : Nat) : Int)) (v := ((n : Nat) : Int)) (tgt := 11) hx hb (nI_toInt (by omega)) (nI_toInt (by omega)) dJx4a65c_add_72be8_3 (by decide) (fun c_3 => ?_) (fun c_3 => ?_)
  · exfalso; omega
  · refine lv_aload_n hx hb dJx4a65c_add_72be8_6 rfl (lv_at hl 0 rfl) ?_
    refine m_callr (va_runV (C := RJx4a65c) (As := []) (rest := []) ⟨hx, hb, hml, hown, hts⟩ (c_grow0G l de mi D cy _ _ a el n mo g f_a f_el hn1 hn2 C hC hel9) (cwV 0 hts gJx4a65c_add_72be8_Jx4a65c_grow_d5877 rfl rfl rfl (by decide +kernel) ⟨Nat.le_of_ble_eq_true rfl, Nat.le_of_ble_eq_true rfl⟩) (mPreXV hX hD hS hA hK hP f_a (ci := 0) rfl) rfl rfl hl.1 rfl (lv_room (Nat.le_of_ble_eq_true rfl)) dJx4a65c_add_72be8_7 ⟨Nat.le_of_ble_eq_true rfl, Nat.le_of_ble_eq_true rfl⟩) hD hA hS (fun ra Mn H locs hq9 hP hD hS hz9 hd9 hk9 => ?_)
    obtain ⟨hn_ra, hq9⟩ := hq9
    have n_a_ra : a ≠ ra := ne_none (f_a) hn_ra
    have n_el_ra : el ≠ ra := ne_none (f_el) hn_ra
    have n_x_ra : x ≠ ra := ne_none (f_x) hn_ra
    have hq9 : Mn = (mset (mset M ra (eQ cy (n + n / 2) (va_cpy g (fun _ => none) 0 0 n))) a (.inr (0, [.int (nI mo), .ref ra, .int (nI n)]))) := hq9
    subst hq9
    refine lv_astore_n (lv' := [(2, .ref ra), (0, .ref a), (1, .ref x), (3, .int (nI n))]) hx hb dJx4a65c_add_72be8_10 rfl hl (by decide) rfl (fun ls hl => ?_)
    refine lv_aload_n hx hb dJx4a65c_add_72be8_11 rfl (lv_at hl 0 rfl) ?_
    refine lv_iload_n hx hb dJx4a65c_add_72be8_12 rfl (lv_at hl 3 rfl) ?_
    refine lv_aload_n hx hb dJx4a65c_add_72be8_13 rfl (lv_at hl 2 rfl) ?_
    refine m_qst (g := (va_cpy g (fun _ => none) 0 0 n)) (n := n + n / 2) (i := n) (x := x) (ci := ci) (fs := fs) hx hb hK hP hD hS ((mset_ne (Ne.symm n_a_ra)).trans (mset_self _ _ _)) ((mset_ne n_x_a).trans ((mset_ne n_x_ra).trans (f_x))) (hcl9) (hca9) (by omega) (by omega) dJx4a65c_add_72be8_14 (fun H locs hP hD hS => ?_)
    have hP : pm D (mset (mset (mset M ra (eQ cy (n + n / 2) (va_cpy g (fun _ => none) 0 0 n))) a (.inr (0, [.int (nI mo), .ref ra, .int (nI n)]))) ra (eQ cy (n + n / 2) (va_up (va_cpy g (fun _ => none) 0 0 n) n (some x)))) H := hP
    have hD : mD (mA M sz) (mset (mset (mset M ra (eQ cy (n + n / 2) (va_cpy g (fun _ => none) 0 0 n))) a (.inr (0, [.int (nI mo), .ref ra, .int (nI n)]))) ra (eQ cy (n + n / 2) (va_up (va_cpy g (fun _ => none) 0 0 n) n (some x)))) := hD
    rw [mset_comm _ (eQ cy (n + n / 2) (va_cpy g (fun _ => none) 0 0 n)) (.inr (0, [.int (nI mo), .ref ra, .int (nI n)])) ((Ne.symm n_a_ra)), mset_mset _ ra (eQ cy (n + n / 2) (va_cpy g (fun _ => none) 0 0 n)) (eQ cy (n + n / 2) (va_up (va_cpy g (fun _ => none) 0 0 n) n (some x)))] at hP hD
    refine lv_aload_n hx hb dJx4a65c_add_72be8_15 rfl (lv_at hl 1 rfl) ?_
    refine lv_iload_n hx hb dJx4a65c_add_72be8_16 rfl (lv_at hl 3 rfl) ?_
    refine lv_iconst (v := (nI 1)) hx hb dJx4a65c_add_72be8_17 (by decide) ?_
    refine n_add (x := n) (y := 1) hx hb dJx4a65c_add_72be8_18 ?_
    refine m_put (T := TJx4a65c) (N := 3) (ci := 0) (fs := [.int (nI mo), .ref ra, .int (nI n)]) (v := .int (nI (n + 1))) hx hb hwJx4a65c tyJx4a65c tyJx4a65c_ok nmJx4a65c hown hK hP hD hS ((mset_ne n_a_ra).trans (mset_self _ _ _)) rfl 2 (by decide) (hts _ (List.mem_of_getElem? (i := 1) rfl)) rfl (rfl) rfl (Nat.le_of_ble_eq_true rfl) dJx4a65c_add_72be8_19 (fun H locs hP hD hS => ?_)
    have hP : pm D (mset (mset (mset M a (.inr (0, [.int (nI mo), .ref ra, .int (nI n)]))) ra (eQ cy (n + n / 2) (va_up (va_cpy g (fun _ => none) 0 0 n) n (some x)))) a (.inr (0, [.int (nI mo), .ref ra, .int (nI (n + 1))]))) H := hP
    have hD : mD (mA M sz) (mset (mset (mset M a (.inr (0, [.int (nI mo), .ref ra, .int (nI n)]))) ra (eQ cy (n + n / 2) (va_up (va_cpy g (fun _ => none) 0 0 n) n (some x)))) a (.inr (0, [.int (nI mo), .ref ra, .int (nI (n + 1))]))) := hD
    rw [mset_comm _ (.inr (0, [.int (nI mo), .ref ra, .int (nI n)])) (eQ cy (n + n / 2) (va_up (va_cpy g (fun _ => none) 0 0 n) n (some x))) (n_a_ra), mset_mset _ a (.inr (0, [.int (nI mo), .ref ra, .int (nI n)])) (.inr (0, [.int (nI mo), .ref ra, .int (nI (n + 1))]))] at hP hD
    exact e_wv hx hb hr hlocks hP hD hS (⟨ra, hn_ra, (rfl)⟩) dJx4a65c_add_72be8_22

set_option maxRecDepth 100000 in
set_option maxHeartbeats 4000000 in
theorem c_addG (l : Launch) (de mi : Nat) (D : va_G) (cy : Nat → ClassId) (M : mM) (sz : Nat) (a el n mo : Nat) (g : Nat → Option Nat) (x ci : Nat) (fs : List Value) (r0 : vw_C) (C : String)  (f_a : M a = some (.inr (0, [.int (nI mo), .ref el, .int (nI n)]))) (f_el : M el = some (eQ cy n g)) (f_x : M x = some (.inr (ci, fs))) (n_x_a : x ≠ a)  (hcl9 : vwCl[ci]? = some r0) (hr0 : r0.1 = C) (hC : C ∈ ["InkHall$Strokes", "InkHall$Pupil", "InkHall$Script"]) (hn1 : 10 ≤ n) (hn2 : n < 40) (hel9 : ∀ i : Nat, i < n → ∀ y : Nat, g i = some y → ∃ (ci : Nat) (fs : List Value) (r : vw_C), M y = some (.inr (ci, fs)) ∧ vwCl[ci]? = some r ∧ r.1 = C) (hnol : ∀ i : Nat, i < n → g i ≠ some a) : mXi l yJx4a65c_add_9ea2d wsJx4a65c_add_9ea2d ({ frames := 6, cells := 1, slots := 58, locals := 157 } : Room) de mi D cy M sz [.ref a, .ref x] (fun r9 M' => r9 = nI 1 ∧ ∃ (el9 cap9 : Nat) (g9 : Nat → Option Nat), M' = mset (mset M el9 (eQ cy cap9 g9)) a (.inr (0, [.int (nI (mo + 1)), .ref el9, .int (nI (n + 1))])) ∧ (el9 = el ∨ M el9 = none) ∧ 10 ≤ cap9 ∧ cap9 ≤ 58 ∧ n + 1 ≤ cap9 ∧ (∀ j, j < n → g9 j = g j) ∧ g9 n = some x) 1 58 := by
  refine mX.of (cc := cJx4a65c_add_9ea2d) (maxL := 2) (ret := (some .boolean)) (by decide) rfl (Nat.le_of_ble_eq_true rfl) ?_
  intro p e s m args below meth c ls hsz hx hb hr hts hown hlocks hml hname hP hD hS hA hK hX hl
  have hl : lv_has ls 2 [(0, .ref a), (1, .ref x)] := hl
  have hown : s.vm.findClass RJx4a65c = some m.cls := hown
  have hwJx4a65c : ∀ w ∈ wsJx4a65c0, w.before args s = true := fun w h => hts w (List.mem_cons_of_mem _ (List.mem_append_right _ (h)))
  have n_a_el : a ≠ el := ne_cell f_a f_el (fun h9 => by simp at h9)
  have n_el_x : el ≠ x := ne_cell f_el f_x (fun h9 => by simp at h9)
  have hael9 : ∀ i : Nat, i < n → ∀ y : Nat, g i = some y → y ≠ a := fun i hi y hy h => hnol i hi (h ▸ hy)
  refine lv_aload_n hx hb dJx4a65c_add_9ea2d_0 rfl (lv_at hl 0 rfl) ?_
  refine lv_dup hx hb dJx4a65c_add_9ea2d_1 rfl ?_
  refine m_getU (T := TJx4a65c) (N := 3) (ci := 0) (fs := [.int (nI mo), .ref el, .int (nI n)]) hx hb hwJx4a65c hown hK hP f_a rfl 0 (by decide) (hts _ (List.mem_of_getElem? (i := 1) rfl)) (hts _ (List.mem_of_getElem? (i := 2) rfl)) (v := .int (nI mo)) rfl dJx4a65c_add_9ea2d_2 ?_
  refine lv_iconst (v := (nI 1)) hx hb dJx4a65c_add_9ea2d_5 (by decide) ?_
  refine n_add (x := mo) (y := 1) hx hb dJx4a65c_add_9ea2d_6 ?_
  refine m_putU (T := TJx4a65c) (N := 3) (ci := 0) (fs := [.int (nI mo), .ref el, .int (nI n)]) (v := .int (nI (mo + 1))) hx hb hwJx4a65c tyJx4a65c tyJx4a65c_ok nmJx4a65c hown hK hP hD hS f_a rfl 0 (by decide) (hts _ (List.mem_of_getElem? (i := 1) rfl)) (hts _ (List.mem_of_getElem? (i := 2) rfl)) rfl (rfl) rfl (Nat.le_of_ble_eq_true rfl) dJx4a65c_add_9ea2d_7 (fun H locs hP hD hS => ?_)
  have hP : pm D (mset M a (.inr (0, [.int (nI (mo + 1)), .ref el, .int (nI n)]))) H := hP
  have hD : mD (mA M sz) (mset M a (.inr (0, [.int (nI (mo + 1)), .ref el, .int (nI n)]))) := hD
  refine lv_aload_n hx hb dJx4a65c_add_9ea2d_10 rfl (lv_at hl 0 rfl) ?_
  refine lv_aload_n hx hb dJx4a65c_add_9ea2d_11 rfl (lv_at hl 1 rfl) ?_
  refine lv_aload_n hx hb dJx4a65c_add_9ea2d_12 rfl (lv_at hl 0 rfl) ?_
  refine m_get (T := TJx4a65c) (N := 3) (ci := 0) (fs := [.int (nI (mo + 1)), .ref el, .int (nI n)]) hx hb hwJx4a65c hown hK hP (mset_self _ _ _) rfl 1 (by decide) (hts _ (List.mem_of_getElem? (i := 3) rfl)) (v := .ref el) rfl dJx4a65c_add_9ea2d_13 ?_
  refine lv_aload_n hx hb dJx4a65c_add_9ea2d_16 rfl (lv_at hl 0 rfl) ?_
  refine m_get (T := TJx4a65c) (N := 3) (ci := 0) (fs := [.int (nI (mo + 1)), .ref el, .int (nI n)]) hx hb hwJx4a65c hown hK hP (mset_self _ _ _) rfl 2 (by decide) (hts _ (List.mem_of_getElem? (i := 4) rfl)) (v := .int (nI n)) rfl dJx4a65c_add_9ea2d_17 ?_
  refine m_callv (va_runV (C := RJx4a65c) (As := [.ref x, .ref el, .int (nI n)]) (rest := []) ⟨hx, hb, hml, hown, hts⟩ (c_add3G l de mi D cy _ _ a el n (mo + 1) g x ci fs r0 C (mset_self _ _ _) ((mset_ne (Ne.symm n_a_el)).trans (f_el)) ((mset_ne n_x_a).trans (f_x)) n_x_a hcl9 hr0 hC hn1 hn2 (fun i hi y hy => (hel9 i hi y hy).imp (fun ci8 h8 => h8.imp (fun fs8 h8 => h8.imp (fun r8 h8 => ⟨(mset_ne (fun h7 => hael9 i hi y hy h7)).trans h8.1, h8.2⟩))))) (cwV 3 hts gJx4a65c_add_9ea2d_Jx4a65c_add_72be8 rfl rfl rfl (by decide +kernel) ⟨Nat.le_of_ble_eq_true rfl, Nat.le_of_ble_eq_true rfl⟩) (mPreXV hX hD hS hA hK hP (mset_self _ _ _) (ci := 0) rfl) rfl rfl hl.1 rfl (lv_room (Nat.le_of_ble_eq_true rfl)) dJx4a65c_add_9ea2d_20 ⟨Nat.le_of_ble_eq_true rfl, Nat.le_of_ble_eq_true rfl⟩) hD hA hS (fun Mn H locs hq9 hP hD hS hz9 hd9 hk9 => ?_)
  obtain ⟨ra, hn_ra, hq9⟩ := hq9
  have n_a_ra : a ≠ ra := ne_none (mset_self _ _ _) hn_ra
  have n_el_ra : el ≠ ra := ne_none ((mset_ne (Ne.symm n_a_el)).trans (f_el)) hn_ra
  have n_x_ra : x ≠ ra := ne_none ((mset_ne n_x_a).trans (f_x)) hn_ra
  have hq9 : Mn = (mset (mset (mset M a (.inr (0, [.int (nI (mo + 1)), .ref el, .int (nI n)]))) ra (eQ cy (n + n / 2) (va_up (va_cpy g (fun _ => none) 0 0 n) n (some x)))) a (.inr (0, [.int (nI (mo + 1)), .ref ra, .int (nI (n + 1))]))) := hq9
  subst hq9
  rw [mset_comm _ (.inr (0, [.int (nI (mo + 1)), .ref el, .int (nI n)])) (eQ cy (n + n / 2) (va_up (va_cpy g (fun _ => none) 0 0 n) n (some x))) (n_a_ra), mset_mset _ a (.inr (0, [.int (nI (mo + 1)), .ref el, .int (nI n)])) (.inr (0, [.int (nI (mo + 1)), .ref ra, .int (nI (n + 1))]))] at hP hD
  refine lv_iconst (v := (nI 1)) hx hb dJx4a65c_add_9ea2d_23 (by decide) ?_
  exact e_wz hx hb hr hlocks (by first | decide | exact b2_le _ | omega) hP hD hS (⟨rfl, ra, n + n / 2, va_up (va_cpy g (fun _ => none) 0 0 n) n (some x), (rfl), (Or.inr ((none_of hn_ra))), by omega, by omega, by omega, (fun j hj => (va_up_ne _ _ (by omega)).trans ((pk_cpy_in (Nat.zero_le _) (by omega)).trans (congrArg g (by omega)))), va_up_self _ _ _⟩) dJx4a65c_add_9ea2d_24

set_option maxRecDepth 100000 in
set_option maxHeartbeats 4000000 in
theorem c_add3F (l : Launch) (de mi : Nat) (D : va_G) (cy : Nat → ClassId) (M : mM) (sz : Nat) (a mo : Nat) (x ci : Nat) (fs : List Value) (r0 : vw_C) (C : String)  (f_a : M a = some (.inr (0, [.int (nI mo), .ref de, .int (nI 0)]))) (f_x : M x = some (.inr (ci, fs))) (n_x_a : x ≠ a)  (hcl9 : vwCl[ci]? = some r0) (hr0 : r0.1 = C) (hC : C ∈ ["InkHall$Strokes", "InkHall$Pupil", "InkHall$Script"]) : mXv l yJx4a65c_add_72be8 wsJx4a65c_add_72be8 ({ frames := 3, cells := 1, slots := 10, locals := 57 } : Room) de mi D cy M sz [.ref a, .ref x, .ref de, .int (nI 0)] (fun M' => ∃ r, M r = none ∧ M' = mset (mset M r (eQ cy (10) (va_up (fun _ => none) 0 (some x)))) a (.inr (0, [.int (nI (mo)), .ref r, .int (nI (0 + 1))]))) 1 10 := by
  refine mX.of (cc := cJx4a65c_add_72be8) (maxL := 4) (ret := none) (by decide) rfl (Nat.le_of_ble_eq_true rfl) ?_
  intro p e s m args below meth c ls hsz hx hb hr hts hown hlocks hml hname hP hD hS hA hK hX hl
  have hl : lv_has ls 4 [(0, .ref a), (1, .ref x), (2, .ref de), (3, .int (nI 0))] := hl
  have hown : s.vm.findClass RJx4a65c = some m.cls := hown
  have hwJx4a65c : ∀ w ∈ wsJx4a65c0, w.before args s = true := fun w h => hts w (List.mem_cons_of_mem _ (List.mem_append_right _ (h)))
  have hca9 : va_Nw (.castable r0.1 "java/lang/Object") s := (by rw [hr0]; exact hX.2.2.2.2.2.2.2.1 C hC)
  refine lv_iload_n hx hb dJx4a65c_add_72be8_0 rfl (lv_at hl 3 rfl) ?_
  refine lv_aload_n hx hb dJx4a65c_add_72be8_1 rfl (lv_at hl 2 rfl) ?_
  refine va_tlen (v := nI 0) hx hb hX.2.1 hS rfl dJx4a65c_add_72be8_2 ?_
  refine z_icmp_ne (u := ((0 : Nat) : Int)) (v := ((0 : Nat) : Int)) (tgt := 11) hx hb (nI_toInt (by omega)) (nI_toInt (by omega)) dJx4a65c_add_72be8_3 (by decide) (fun c_3 => ?_) (fun c_3 => ?_)
  · exfalso; omega
  · refine lv_aload_n hx hb dJx4a65c_add_72be8_6 rfl (lv_at hl 0 rfl) ?_
    refine m_callr (va_runV (C := RJx4a65c) (As := []) (rest := []) ⟨hx, hb, hml, hown, hts⟩ (c_grow0F l de mi D cy _ _ a mo f_a) (cwV 0 hts gJx4a65c_add_72be8_Jx4a65c_grow_d5877 rfl rfl rfl (by decide +kernel) ⟨Nat.le_of_ble_eq_true rfl, Nat.le_of_ble_eq_true rfl⟩) (mPreXV hX hD hS hA hK hP f_a (ci := 0) rfl) rfl rfl hl.1 rfl (lv_room (Nat.le_of_ble_eq_true rfl)) dJx4a65c_add_72be8_7 ⟨Nat.le_of_ble_eq_true rfl, Nat.le_of_ble_eq_true rfl⟩) hD hA hS (fun ra Mn H locs hq9 hP hD hS hz9 hd9 hk9 => ?_)
    obtain ⟨hn_ra, hq9⟩ := hq9
    have n_a_ra : a ≠ ra := ne_none (f_a) hn_ra
    have n_x_ra : x ≠ ra := ne_none (f_x) hn_ra
    have hq9 : Mn = (mset (mset M ra (eQ cy 10 (fun _ => none))) a (.inr (0, [.int (nI mo), .ref ra, .int (nI 0)]))) := hq9
    subst hq9
    refine lv_astore_n (lv' := [(2, .ref ra), (0, .ref a), (1, .ref x), (3, .int (nI 0))]) hx hb dJx4a65c_add_72be8_10 rfl hl (by decide) rfl (fun ls hl => ?_)
    refine lv_aload_n hx hb dJx4a65c_add_72be8_11 rfl (lv_at hl 0 rfl) ?_
    refine lv_iload_n hx hb dJx4a65c_add_72be8_12 rfl (lv_at hl 3 rfl) ?_
    refine lv_aload_n hx hb dJx4a65c_add_72be8_13 rfl (lv_at hl 2 rfl) ?_
    refine m_qst (g := (fun _ => none)) (n := 10) (i := 0) (x := x) (ci := ci) (fs := fs) hx hb hK hP hD hS ((mset_ne (Ne.symm n_a_ra)).trans (mset_self _ _ _)) ((mset_ne n_x_a).trans ((mset_ne n_x_ra).trans (f_x))) (hcl9) (hca9) (by omega) (by omega) dJx4a65c_add_72be8_14 (fun H locs hP hD hS => ?_)
    have hP : pm D (mset (mset (mset M ra (eQ cy 10 (fun _ => none))) a (.inr (0, [.int (nI mo), .ref ra, .int (nI 0)]))) ra (eQ cy 10 (va_up (fun _ => none) 0 (some x)))) H := hP
    have hD : mD (mA M sz) (mset (mset (mset M ra (eQ cy 10 (fun _ => none))) a (.inr (0, [.int (nI mo), .ref ra, .int (nI 0)]))) ra (eQ cy 10 (va_up (fun _ => none) 0 (some x)))) := hD
    rw [mset_comm _ (eQ cy 10 (fun _ => none)) (.inr (0, [.int (nI mo), .ref ra, .int (nI 0)])) ((Ne.symm n_a_ra)), mset_mset _ ra (eQ cy 10 (fun _ => none)) (eQ cy 10 (va_up (fun _ => none) 0 (some x)))] at hP hD
    refine lv_aload_n hx hb dJx4a65c_add_72be8_15 rfl (lv_at hl 1 rfl) ?_
    refine lv_iload_n hx hb dJx4a65c_add_72be8_16 rfl (lv_at hl 3 rfl) ?_
    refine lv_iconst (v := (nI 1)) hx hb dJx4a65c_add_72be8_17 (by decide) ?_
    refine n_add (x := 0) (y := 1) hx hb dJx4a65c_add_72be8_18 ?_
    refine m_put (T := TJx4a65c) (N := 3) (ci := 0) (fs := [.int (nI mo), .ref ra, .int (nI 0)]) (v := .int (nI (0 + 1))) hx hb hwJx4a65c tyJx4a65c tyJx4a65c_ok nmJx4a65c hown hK hP hD hS ((mset_ne n_a_ra).trans (mset_self _ _ _)) rfl 2 (by decide) (hts _ (List.mem_of_getElem? (i := 1) rfl)) rfl (rfl) rfl (Nat.le_of_ble_eq_true rfl) dJx4a65c_add_72be8_19 (fun H locs hP hD hS => ?_)
    have hP : pm D (mset (mset (mset M a (.inr (0, [.int (nI mo), .ref ra, .int (nI 0)]))) ra (eQ cy 10 (va_up (fun _ => none) 0 (some x)))) a (.inr (0, [.int (nI mo), .ref ra, .int (nI (0 + 1))]))) H := hP
    have hD : mD (mA M sz) (mset (mset (mset M a (.inr (0, [.int (nI mo), .ref ra, .int (nI 0)]))) ra (eQ cy 10 (va_up (fun _ => none) 0 (some x)))) a (.inr (0, [.int (nI mo), .ref ra, .int (nI (0 + 1))]))) := hD
    rw [mset_comm _ (.inr (0, [.int (nI mo), .ref ra, .int (nI 0)])) (eQ cy 10 (va_up (fun _ => none) 0 (some x))) (n_a_ra), mset_mset _ a (.inr (0, [.int (nI mo), .ref ra, .int (nI 0)])) (.inr (0, [.int (nI mo), .ref ra, .int (nI (0 + 1))]))] at hP hD
    exact e_wv hx hb hr hlocks hP hD hS (⟨ra, hn_ra, (rfl)⟩) dJx4a65c_add_72be8_22

set_option maxRecDepth 100000 in
set_option maxHeartbeats 4000000 in
theorem c_addF (l : Launch) (de mi : Nat) (D : va_G) (cy : Nat → ClassId) (M : mM) (sz : Nat) (a mo : Nat) (x ci : Nat) (fs : List Value) (r0 : vw_C) (C : String)  (f_a : M a = some (.inr (0, [.int (nI mo), .ref de, .int (nI 0)]))) (f_x : M x = some (.inr (ci, fs))) (n_x_a : x ≠ a)  (hcl9 : vwCl[ci]? = some r0) (hr0 : r0.1 = C) (hC : C ∈ ["InkHall$Strokes", "InkHall$Pupil", "InkHall$Script"]) (g : Nat → Option Nat) : mXi l yJx4a65c_add_9ea2d wsJx4a65c_add_9ea2d ({ frames := 6, cells := 1, slots := 58, locals := 157 } : Room) de mi D cy M sz [.ref a, .ref x] (fun r9 M' => r9 = nI 1 ∧ ∃ (el9 cap9 : Nat) (g9 : Nat → Option Nat), M' = mset (mset M el9 (eQ cy cap9 g9)) a (.inr (0, [.int (nI (mo + 1)), .ref el9, .int (nI (0 + 1))])) ∧ (el9 = de ∨ M el9 = none) ∧ 10 ≤ cap9 ∧ cap9 ≤ 58 ∧ 0 + 1 ≤ cap9 ∧ (∀ j, j < 0 → g9 j = g j) ∧ g9 0 = some x) 1 58 := by
  refine mX.of (cc := cJx4a65c_add_9ea2d) (maxL := 2) (ret := (some .boolean)) (by decide) rfl (Nat.le_of_ble_eq_true rfl) ?_
  intro p e s m args below meth c ls hsz hx hb hr hts hown hlocks hml hname hP hD hS hA hK hX hl
  have hl : lv_has ls 2 [(0, .ref a), (1, .ref x)] := hl
  have hown : s.vm.findClass RJx4a65c = some m.cls := hown
  have hwJx4a65c : ∀ w ∈ wsJx4a65c0, w.before args s = true := fun w h => hts w (List.mem_cons_of_mem _ (List.mem_append_right _ (h)))
  refine lv_aload_n hx hb dJx4a65c_add_9ea2d_0 rfl (lv_at hl 0 rfl) ?_
  refine lv_dup hx hb dJx4a65c_add_9ea2d_1 rfl ?_
  refine m_getU (T := TJx4a65c) (N := 3) (ci := 0) (fs := [.int (nI mo), .ref de, .int (nI 0)]) hx hb hwJx4a65c hown hK hP f_a rfl 0 (by decide) (hts _ (List.mem_of_getElem? (i := 1) rfl)) (hts _ (List.mem_of_getElem? (i := 2) rfl)) (v := .int (nI mo)) rfl dJx4a65c_add_9ea2d_2 ?_
  refine lv_iconst (v := (nI 1)) hx hb dJx4a65c_add_9ea2d_5 (by decide) ?_
  refine n_add (x := mo) (y := 1) hx hb dJx4a65c_add_9ea2d_6 ?_
  refine m_putU (T := TJx4a65c) (N := 3) (ci := 0) (fs := [.int (nI mo), .ref de, .int (nI 0)]) (v := .int (nI (mo + 1))) hx hb hwJx4a65c tyJx4a65c tyJx4a65c_ok nmJx4a65c hown hK hP hD hS f_a rfl 0 (by decide) (hts _ (List.mem_of_getElem? (i := 1) rfl)) (hts _ (List.mem_of_getElem? (i := 2) rfl)) rfl (rfl) rfl (Nat.le_of_ble_eq_true rfl) dJx4a65c_add_9ea2d_7 (fun H locs hP hD hS => ?_)
  have hP : pm D (mset M a (.inr (0, [.int (nI (mo + 1)), .ref de, .int (nI 0)]))) H := hP
  have hD : mD (mA M sz) (mset M a (.inr (0, [.int (nI (mo + 1)), .ref de, .int (nI 0)]))) := hD
  refine lv_aload_n hx hb dJx4a65c_add_9ea2d_10 rfl (lv_at hl 0 rfl) ?_
  refine lv_aload_n hx hb dJx4a65c_add_9ea2d_11 rfl (lv_at hl 1 rfl) ?_
  refine lv_aload_n hx hb dJx4a65c_add_9ea2d_12 rfl (lv_at hl 0 rfl) ?_
  refine m_get (T := TJx4a65c) (N := 3) (ci := 0) (fs := [.int (nI (mo + 1)), .ref de, .int (nI 0)]) hx hb hwJx4a65c hown hK hP (mset_self _ _ _) rfl 1 (by decide) (hts _ (List.mem_of_getElem? (i := 3) rfl)) (v := .ref de) rfl dJx4a65c_add_9ea2d_13 ?_
  refine lv_aload_n hx hb dJx4a65c_add_9ea2d_16 rfl (lv_at hl 0 rfl) ?_
  refine m_get (T := TJx4a65c) (N := 3) (ci := 0) (fs := [.int (nI (mo + 1)), .ref de, .int (nI 0)]) hx hb hwJx4a65c hown hK hP (mset_self _ _ _) rfl 2 (by decide) (hts _ (List.mem_of_getElem? (i := 4) rfl)) (v := .int (nI 0)) rfl dJx4a65c_add_9ea2d_17 ?_
  refine m_callv (va_runV (C := RJx4a65c) (As := [.ref x, .ref de, .int (nI 0)]) (rest := []) ⟨hx, hb, hml, hown, hts⟩ (c_add3F l de mi D cy _ _ a (mo + 1) x ci fs r0 C (mset_self _ _ _) ((mset_ne n_x_a).trans (f_x)) n_x_a hcl9 hr0 hC) (cwV 3 hts gJx4a65c_add_9ea2d_Jx4a65c_add_72be8 rfl rfl rfl (by decide +kernel) ⟨Nat.le_of_ble_eq_true rfl, Nat.le_of_ble_eq_true rfl⟩) (mPreXV hX hD hS hA hK hP (mset_self _ _ _) (ci := 0) rfl) rfl rfl hl.1 rfl (lv_room (Nat.le_of_ble_eq_true rfl)) dJx4a65c_add_9ea2d_20 ⟨Nat.le_of_ble_eq_true rfl, Nat.le_of_ble_eq_true rfl⟩) hD hA hS (fun Mn H locs hq9 hP hD hS hz9 hd9 hk9 => ?_)
  obtain ⟨ra, hn_ra, hq9⟩ := hq9
  have n_a_ra : a ≠ ra := ne_none (mset_self _ _ _) hn_ra
  have n_x_ra : x ≠ ra := ne_none ((mset_ne n_x_a).trans (f_x)) hn_ra
  have hq9 : Mn = (mset (mset (mset M a (.inr (0, [.int (nI (mo + 1)), .ref de, .int (nI 0)]))) ra (eQ cy 10 (va_up (fun _ => none) 0 (some x)))) a (.inr (0, [.int (nI (mo + 1)), .ref ra, .int (nI (0 + 1))]))) := hq9
  subst hq9
  rw [mset_comm _ (.inr (0, [.int (nI (mo + 1)), .ref de, .int (nI 0)])) (eQ cy 10 (va_up (fun _ => none) 0 (some x))) (n_a_ra), mset_mset _ a (.inr (0, [.int (nI (mo + 1)), .ref de, .int (nI 0)])) (.inr (0, [.int (nI (mo + 1)), .ref ra, .int (nI (0 + 1))]))] at hP hD
  refine lv_iconst (v := (nI 1)) hx hb dJx4a65c_add_9ea2d_23 (by decide) ?_
  exact e_wz hx hb hr hlocks (by first | decide | exact b2_le _ | omega) hP hD hS (⟨rfl, ra, 10, va_up (fun _ => none) 0 (some x), (rfl), (Or.inr ((none_of hn_ra))), by omega, by omega, by omega, (fun j hj => absurd hj (Nat.not_lt_zero j)), va_up_self _ _ _⟩) dJx4a65c_add_9ea2d_24

set_option maxRecDepth 100000 in
set_option maxHeartbeats 4000000 in
theorem c_add3R (l : Launch) (de mi : Nat) (D : va_G) (cy : Nat → ClassId) (M : mM) (sz : Nat) (a el n mo cap : Nat) (g : Nat → Option Nat) (x ci : Nat) (fs : List Value) (r0 : vw_C) (C : String)  (f_a : M a = some (.inr (0, [.int (nI mo), .ref el, .int (nI n)]))) (f_el : M el = some (eQ cy cap g)) (f_x : M x = some (.inr (ci, fs))) (n_x_a : x ≠ a)  (hcl9 : vwCl[ci]? = some r0) (hr0 : r0.1 = C) (hC : C ∈ ["InkHall$Strokes", "InkHall$Pupil", "InkHall$Script"]) (hnc : n < cap) (hcap : cap < 1000) : mXv l yJx4a65c_add_72be8 wsJx4a65c_add_72be8 ({ frames := 0, cells := 0, slots := 0, locals := 0 } : Room) de mi D cy M sz [.ref a, .ref x, .ref el, .int (nI n)] (fun M' => M' = mset (mset M el (eQ cy (cap) (va_up g n (some x)))) a (.inr (0, [.int (nI (mo)), .ref el, .int (nI (n + 1))]))) 0 0 := by
  refine mX.of (cc := cJx4a65c_add_72be8) (maxL := 4) (ret := none) (by decide) rfl (Nat.le_of_ble_eq_true rfl) ?_
  intro p e s m args below meth c ls hsz hx hb hr hts hown hlocks hml hname hP hD hS hA hK hX hl
  have hl : lv_has ls 4 [(0, .ref a), (1, .ref x), (2, .ref el), (3, .int (nI n))] := hl
  have hown : s.vm.findClass RJx4a65c = some m.cls := hown
  have hwJx4a65c : ∀ w ∈ wsJx4a65c0, w.before args s = true := fun w h => hts w (List.mem_cons_of_mem _ (List.mem_append_right _ (h)))
  have n_a_el : a ≠ el := ne_cell f_a f_el (fun h9 => by simp at h9)
  have n_el_x : el ≠ x := ne_cell f_el f_x (fun h9 => by simp at h9)
  have hca9 : va_Nw (.castable r0.1 "java/lang/Object") s := (by rw [hr0]; exact hX.2.2.2.2.2.2.2.1 C hC)
  refine lv_iload_n hx hb dJx4a65c_add_72be8_0 rfl (lv_at hl 3 rfl) ?_
  refine lv_aload_n hx hb dJx4a65c_add_72be8_1 rfl (lv_at hl 2 rfl) ?_
  refine m_alen (n := cap) (t0 := 2) hx hb hK hP f_el rfl rfl dJx4a65c_add_72be8_2 ?_
  refine z_icmp_ne (u := ((n : Nat) : Int)) (v := ((cap : Nat) : Int)) (tgt := 11) hx hb (nI_toInt (by omega)) (nI_toInt (by omega)) dJx4a65c_add_72be8_3 (by decide) (fun c_3 => ?_) (fun c_3 => ?_)
  · refine lv_aload_n hx hb dJx4a65c_add_72be8_11 rfl (lv_at hl 2 rfl) ?_
    refine lv_iload_n hx hb dJx4a65c_add_72be8_12 rfl (lv_at hl 3 rfl) ?_
    refine lv_aload_n hx hb dJx4a65c_add_72be8_13 rfl (lv_at hl 1 rfl) ?_
    refine m_qst (g := g) (n := cap) (i := n) (x := x) (ci := ci) (fs := fs) hx hb hK hP hD hS f_el f_x (hcl9) (hca9) (by omega) (by omega) dJx4a65c_add_72be8_14 (fun H locs hP hD hS => ?_)
    have hP : pm D (mset M el (eQ cy cap (va_up g n (some x)))) H := hP
    have hD : mD (mA M sz) (mset M el (eQ cy cap (va_up g n (some x)))) := hD
    refine lv_aload_n hx hb dJx4a65c_add_72be8_15 rfl (lv_at hl 0 rfl) ?_
    refine lv_iload_n hx hb dJx4a65c_add_72be8_16 rfl (lv_at hl 3 rfl) ?_
    refine lv_iconst (v := (nI 1)) hx hb dJx4a65c_add_72be8_17 (by decide) ?_
    refine n_add (x := n) (y := 1) hx hb dJx4a65c_add_72be8_18 ?_
    refine m_put (T := TJx4a65c) (N := 3) (ci := 0) (fs := [.int (nI mo), .ref el, .int (nI n)]) (v := .int (nI (n + 1))) hx hb hwJx4a65c tyJx4a65c tyJx4a65c_ok nmJx4a65c hown hK hP hD hS ((mset_ne n_a_el).trans (f_a)) rfl 2 (by decide) (hts _ (List.mem_of_getElem? (i := 1) rfl)) rfl (rfl) rfl (Nat.le_of_ble_eq_true rfl) dJx4a65c_add_72be8_19 (fun H locs hP hD hS => ?_)
    have hP : pm D (mset (mset M el (eQ cy cap (va_up g n (some x)))) a (.inr (0, [.int (nI mo), .ref el, .int (nI (n + 1))]))) H := hP
    have hD : mD (mA M sz) (mset (mset M el (eQ cy cap (va_up g n (some x)))) a (.inr (0, [.int (nI mo), .ref el, .int (nI (n + 1))]))) := hD
    exact e_wv hx hb hr hlocks hP hD hS ((rfl)) dJx4a65c_add_72be8_22
  · exfalso; omega

set_option maxRecDepth 100000 in
set_option maxHeartbeats 4000000 in
theorem c_addR (l : Launch) (de mi : Nat) (D : va_G) (cy : Nat → ClassId) (M : mM) (sz : Nat) (a el n mo cap : Nat) (g : Nat → Option Nat) (x ci : Nat) (fs : List Value) (r0 : vw_C) (C : String)  (f_a : M a = some (.inr (0, [.int (nI mo), .ref el, .int (nI n)]))) (f_el : M el = some (eQ cy cap g)) (f_x : M x = some (.inr (ci, fs))) (n_x_a : x ≠ a)  (hcl9 : vwCl[ci]? = some r0) (hr0 : r0.1 = C) (hC : C ∈ ["InkHall$Strokes", "InkHall$Pupil", "InkHall$Script"]) (hnc : n < cap) (hcap : cap < 1000) (hc10 : 10 ≤ cap) (hc58 : cap ≤ 58) : mXi l yJx4a65c_add_9ea2d wsJx4a65c_add_9ea2d ({ frames := 6, cells := 1, slots := 58, locals := 157 } : Room) de mi D cy M sz [.ref a, .ref x] (fun r9 M' => r9 = nI 1 ∧ ∃ (el9 cap9 : Nat) (g9 : Nat → Option Nat), M' = mset (mset M el9 (eQ cy cap9 g9)) a (.inr (0, [.int (nI (mo + 1)), .ref el9, .int (nI (n + 1))])) ∧ (el9 = el ∨ M el9 = none) ∧ 10 ≤ cap9 ∧ cap9 ≤ 58 ∧ n + 1 ≤ cap9 ∧ (∀ j, j < n → g9 j = g j) ∧ g9 n = some x) 1 58 := by
  refine mX.of (cc := cJx4a65c_add_9ea2d) (maxL := 2) (ret := (some .boolean)) (by decide) rfl (Nat.le_of_ble_eq_true rfl) ?_
  intro p e s m args below meth c ls hsz hx hb hr hts hown hlocks hml hname hP hD hS hA hK hX hl
  have hl : lv_has ls 2 [(0, .ref a), (1, .ref x)] := hl
  have hown : s.vm.findClass RJx4a65c = some m.cls := hown
  have hwJx4a65c : ∀ w ∈ wsJx4a65c0, w.before args s = true := fun w h => hts w (List.mem_cons_of_mem _ (List.mem_append_right _ (h)))
  have n_a_el : a ≠ el := ne_cell f_a f_el (fun h9 => by simp at h9)
  have n_el_x : el ≠ x := ne_cell f_el f_x (fun h9 => by simp at h9)
  refine lv_aload_n hx hb dJx4a65c_add_9ea2d_0 rfl (lv_at hl 0 rfl) ?_
  refine lv_dup hx hb dJx4a65c_add_9ea2d_1 rfl ?_
  refine m_getU (T := TJx4a65c) (N := 3) (ci := 0) (fs := [.int (nI mo), .ref el, .int (nI n)]) hx hb hwJx4a65c hown hK hP f_a rfl 0 (by decide) (hts _ (List.mem_of_getElem? (i := 1) rfl)) (hts _ (List.mem_of_getElem? (i := 2) rfl)) (v := .int (nI mo)) rfl dJx4a65c_add_9ea2d_2 ?_
  refine lv_iconst (v := (nI 1)) hx hb dJx4a65c_add_9ea2d_5 (by decide) ?_
  refine n_add (x := mo) (y := 1) hx hb dJx4a65c_add_9ea2d_6 ?_
  refine m_putU (T := TJx4a65c) (N := 3) (ci := 0) (fs := [.int (nI mo), .ref el, .int (nI n)]) (v := .int (nI (mo + 1))) hx hb hwJx4a65c tyJx4a65c tyJx4a65c_ok nmJx4a65c hown hK hP hD hS f_a rfl 0 (by decide) (hts _ (List.mem_of_getElem? (i := 1) rfl)) (hts _ (List.mem_of_getElem? (i := 2) rfl)) rfl (rfl) rfl (Nat.le_of_ble_eq_true rfl) dJx4a65c_add_9ea2d_7 (fun H locs hP hD hS => ?_)
  have hP : pm D (mset M a (.inr (0, [.int (nI (mo + 1)), .ref el, .int (nI n)]))) H := hP
  have hD : mD (mA M sz) (mset M a (.inr (0, [.int (nI (mo + 1)), .ref el, .int (nI n)]))) := hD
  refine lv_aload_n hx hb dJx4a65c_add_9ea2d_10 rfl (lv_at hl 0 rfl) ?_
  refine lv_aload_n hx hb dJx4a65c_add_9ea2d_11 rfl (lv_at hl 1 rfl) ?_
  refine lv_aload_n hx hb dJx4a65c_add_9ea2d_12 rfl (lv_at hl 0 rfl) ?_
  refine m_get (T := TJx4a65c) (N := 3) (ci := 0) (fs := [.int (nI (mo + 1)), .ref el, .int (nI n)]) hx hb hwJx4a65c hown hK hP (mset_self _ _ _) rfl 1 (by decide) (hts _ (List.mem_of_getElem? (i := 3) rfl)) (v := .ref el) rfl dJx4a65c_add_9ea2d_13 ?_
  refine lv_aload_n hx hb dJx4a65c_add_9ea2d_16 rfl (lv_at hl 0 rfl) ?_
  refine m_get (T := TJx4a65c) (N := 3) (ci := 0) (fs := [.int (nI (mo + 1)), .ref el, .int (nI n)]) hx hb hwJx4a65c hown hK hP (mset_self _ _ _) rfl 2 (by decide) (hts _ (List.mem_of_getElem? (i := 4) rfl)) (v := .int (nI n)) rfl dJx4a65c_add_9ea2d_17 ?_
  refine m_callv (va_runV (C := RJx4a65c) (As := [.ref x, .ref el, .int (nI n)]) (rest := []) ⟨hx, hb, hml, hown, hts⟩ (c_add3R l de mi D cy _ _ a el n (mo + 1) cap g x ci fs r0 C (mset_self _ _ _) ((mset_ne (Ne.symm n_a_el)).trans (f_el)) ((mset_ne n_x_a).trans (f_x)) n_x_a hcl9 hr0 hC hnc hcap) (cwV 3 hts gJx4a65c_add_9ea2d_Jx4a65c_add_72be8 rfl rfl rfl (by decide +kernel) ⟨Nat.le_of_ble_eq_true rfl, Nat.le_of_ble_eq_true rfl⟩) (mPreXV hX hD hS hA hK hP (mset_self _ _ _) (ci := 0) rfl) rfl rfl hl.1 rfl (lv_room (Nat.le_of_ble_eq_true rfl)) dJx4a65c_add_9ea2d_20 ⟨Nat.le_of_ble_eq_true rfl, Nat.le_of_ble_eq_true rfl⟩) hD hA hS (fun Mn H locs hq9 hP hD hS hz9 hd9 hk9 => ?_)
  have hq9 : Mn = (mset (mset (mset M a (.inr (0, [.int (nI (mo + 1)), .ref el, .int (nI n)]))) el (eQ cy cap (va_up g n (some x)))) a (.inr (0, [.int (nI (mo + 1)), .ref el, .int (nI (n + 1))]))) := hq9
  subst hq9
  rw [mset_comm _ (.inr (0, [.int (nI (mo + 1)), .ref el, .int (nI n)])) (eQ cy cap (va_up g n (some x))) (n_a_el), mset_mset _ a (.inr (0, [.int (nI (mo + 1)), .ref el, .int (nI n)])) (.inr (0, [.int (nI (mo + 1)), .ref el, .int (nI (n + 1))]))] at hP hD
  refine lv_iconst (v := (nI 1)) hx hb dJx4a65c_add_9ea2d_23 (by decide) ?_
  exact e_wz hx hb hr hlocks (by first | decide | exact b2_le _ | omega) hP hD hS (⟨rfl, el, cap, va_up g n (some x), (rfl), (Or.inl rfl), by omega, by omega, by omega, (fun j hj => va_up_ne _ _ (by omega)), va_up_self _ _ _⟩) dJx4a65c_add_9ea2d_24

theorem c_listAdd (l : Launch) (de mi : Nat) (D : va_G) (cy : Nat → ClassId) (M : mM) (sz : Nat) (a el n mo cap : Nat) (g : Nat → Option Nat) (x ci : Nat) (fs : List Value) (r0 : vw_C) (C : String) (f_a : M a = some (.inr (0, [.int (nI (mo)), .ref el, .int (nI (n))]))) (f_x : M x = some (.inr (ci, fs))) (n_x_a : x ≠ a) (hcl9 : vwCl[ci]? = some r0) (hr0 : r0.1 = C) (hC : C ∈ ["InkHall$Strokes", "InkHall$Pupil", "InkHall$Script"]) (hcases : (n < cap ∧ 10 ≤ cap ∧ cap ≤ 58 ∧ M el = some (eQ cy cap g)) ∨ (n = 0 ∧ el = de) ∨ (10 ≤ n ∧ n < 40 ∧ M el = some (eQ cy n g))) (hel9 : ∀ i : Nat, i < n → ∀ y : Nat, g i = some y → ∃ (ci : Nat) (fs : List Value) (r : vw_C), M y = some (.inr (ci, fs)) ∧ vwCl[ci]? = some r ∧ r.1 = C) (hnol : ∀ i : Nat, i < n → g i ≠ some a) : mXi l yJx4a65c_add_9ea2d wsJx4a65c_add_9ea2d ({ frames := 6, cells := 1, slots := 58, locals := 157 } : Room) de mi D cy M sz [.ref a, .ref x] (fun r9 M' => r9 = nI 1 ∧ ∃ (el9 cap9 : Nat) (g9 : Nat → Option Nat), M' = mset (mset M el9 (eQ cy cap9 g9)) a (.inr (0, [.int (nI (mo + 1)), .ref el9, .int (nI (n + 1))])) ∧ (el9 = el ∨ M el9 = none) ∧ 10 ≤ cap9 ∧ cap9 ≤ 58 ∧ n + 1 ≤ cap9 ∧ (∀ j, j < n → g9 j = g j) ∧ g9 n = some x) 1 58 := by
  rcases hcases with ⟨h1, h2, h3, h4⟩ | ⟨rfl, rfl⟩ | ⟨h1, h2, h3⟩
  · exact c_addR l de mi D cy M sz a el n mo cap g x ci fs r0 C f_a h4 f_x n_x_a hcl9 hr0 hC h1 (by omega) h2 h3
  · exact c_addF l el mi D cy M sz a mo x ci fs r0 C f_a f_x n_x_a hcl9 hr0 hC g
  · exact c_addG l de mi D cy M sz a el n mo g x ci fs r0 C f_a h3 f_x n_x_a hcl9 hr0 hC h1 h2 hel9 hnol
