theorem xm_0 (n s : Nat) : xMax n (1000 + 8 * s) = 5 := by
  unfold xMax
  rw [if_pos (by omega), if_pos (by omega)]
theorem xm_1 (n s : Nat) : xMax n (1001 + 8 * s) = 20 := by
  unfold xMax
  rw [if_pos (by omega), if_neg (by omega), if_pos (by omega)]
theorem xm_2 (n s : Nat) : xMax n (1002 + 8 * s) = 8 := by
  unfold xMax
  rw [if_pos (by omega), if_neg (by omega), if_neg (by omega), if_pos (by omega)]
theorem xm_3 (n s : Nat) : xMax n (1003 + 8 * s) = 5 := by
  unfold xMax
  rw [if_pos (by omega), if_neg (by omega), if_neg (by omega), if_neg (by omega), if_pos (by omega)]
theorem xm_4 (n s : Nat) : xMax n (1004 + 8 * s) = 8 := by
  unfold xMax
  rw [if_pos (by omega), if_neg (by omega), if_neg (by omega), if_neg (by omega), if_neg (by omega)]

set_option maxRecDepth 100000 in
set_option maxHeartbeats 4000000 in
theorem c_X5_sheets (l : Launch) (hst : l.stackTraces = false) (de mi : Nat) (D : va_G) (cy : Nat → ClassId) (M : mM) (sz : Nat) (B : Nat → Nat) (P : Nat → Option va_E) (cn : Nat → Nat) (x : Nat → Nat → Nat) (E : Nat → Nat → Option Nat) (nc : Nat) (y : Int32) (uy : Int) (b : Bool)  (hH : hHolds M B P) (hSH : SH de cy B P cn x E) (hN : NB nc cn x) (py : y.toInt = uy) : mVi l yX5_sheets wsX5_sheets ({ frames := 7, cells := 1, slots := 6, locals := 102 } : Room) de mi D cy M sz [.ref (B 0), .int y, .int (nI (b2 b))] (fun r M' => (0 ≤ uy ∧ uy < 3) ∧ r = nI (cntC (x 3) (x 4) (b2 b) uy.toNat) ∧ M' = M) (fun E9 => (E9 = "java/lang/IndexOutOfBoundsException" ∧ ¬ (0 ≤ uy ∧ uy < 3))) 1 6 := by
  refine mV.of (cc := cX5_sheets) (maxL := 3) (ret := (some .int)) (by decide) rfl (Nat.le_of_ble_eq_true rfl) ?_
  intro p e s m args below meth c ls hsz hx hb hr hts hown hlocks hml hout hname hP hD hS hA hK hX hl
  have hl : lv_has ls 3 [(0, .ref (B 0)), (1, .int y), (2, .int (nI (b2 b)))] := hl
  have hown : s.vm.findClass RX5 = some m.cls := hown
  have hwX5 : ∀ w ∈ wsX50, w.before args s = true := fun w h => hts w (List.mem_cons_of_mem _ (List.mem_append_left _ (List.mem_append_left _ (List.mem_append_right _ (h)))))
  have hwX1 : ∀ w ∈ wsX10, w.before args s = true := fun w h => hts w (List.mem_cons_of_mem _ (List.mem_append_left _ (List.mem_append_right _ (h))))
  obtain ⟨hnc9, hc0, hc1, hc2, hc3, hxm⟩ := id hN
  have p_B_0 : P 0 = some (.inr (6, [.ref (B 1), .ref (B 3), .ref (B 6), .ref (B 8), .ref (B 10), .ref (B 12)])) := hSH.1.1
  have f_B_0 : M (B 0) = some (.inr (6, [.ref (B 1), .ref (B 3), .ref (B 6), .ref (B 8), .ref (B 10), .ref (B 12)])) := hH.1 _ _ p_B_0
  have p_B_3 : P 3 = some (.inr (2, [.ref (B 4), .ref (B 5)])) := hSH.1.2.2.2.1
  have f_B_3 : M (B 3) = some (.inr (2, [.ref (B 4), .ref (B 5)])) := hH.1 _ _ p_B_3
  have n_B_0_B_3 : nEq (B 0) (B 3) := hH.ne p_B_0 p_B_3 (by omega)
  have p_B_4 : P 4 = some (eI cy 3 (x 3)) := hSH.1.2.2.2.2.1
  have f_B_4 : M (B 4) = some (eI cy 3 (x 3)) := hH.1 _ _ p_B_4
  have n_B_0_B_4 : nEq (B 0) (B 4) := hH.ne p_B_0 p_B_4 (by omega)
  have n_B_3_B_4 : nEq (B 3) (B 4) := hH.ne p_B_3 p_B_4 (by omega)
  have p_B_5 : P 5 = some (eI cy 3 (x 4)) := hSH.1.2.2.2.2.2.1
  have f_B_5 : M (B 5) = some (eI cy 3 (x 4)) := hH.1 _ _ p_B_5
  have n_B_0_B_5 : nEq (B 0) (B 5) := hH.ne p_B_0 p_B_5 (by omega)
  have n_B_3_B_5 : nEq (B 3) (B 5) := hH.ne p_B_3 p_B_5 (by omega)
  have n_B_4_B_5 : nEq (B 4) (B 5) := hH.ne p_B_4 p_B_5 (by omega)
  refine lv_iload_n hx hb dX5_sheets_0 rfl (lv_at hl 1 rfl) ?_
  refine x_callv (vx_runS (As := [.int y]) (rest := []) ⟨hx, hb, hml, hown, hts⟩ (c_X5_checkBand l hst de mi D cy _ _ y uy py) (va_cwS 1 hts gX5_sheets_X5_checkBand rfl rfl rfl (by decide +kernel) ⟨Nat.le_of_ble_eq_true rfl, Nat.le_of_ble_eq_true rfl⟩) (mPreXS hX hD hS hA hK hP) rfl rfl hl.1 rfl (lv_room (Nat.le_of_ble_eq_true rfl)) dX5_sheets_1 ⟨Nat.le_of_ble_eq_true rfl, Nat.le_of_ble_eq_true rfl⟩) hD hA hS hout hlocks (fun E9 h9 => h9) (Nat.le_of_ble_eq_true rfl) (Nat.le_of_ble_eq_true rfl) (fun Mn H locs hq9 hP hD hS hz9 => ?_)
  obtain ⟨hck_1, hq9⟩ := hq9
  rw [hq9] at hP hD
  have ex_1 : y = (nI uy.toNat) := nI_of_toInt (py) (by omega)
  have hl : lv_has ls 3 [(0, .ref (B 0)), (1, .int (nI uy.toNat)), (2, .int (nI (b2 b)))] := by
    rw [← ex_1]
    exact hl
  refine lv_aload_n hx hb dX5_sheets_4 rfl (lv_at hl 0 rfl) ?_
  refine m_get (T := TX5) (N := 6) (ci := 6) (fs := [.ref (B 1), .ref (B 3), .ref (B 6), .ref (B 8), .ref (B 10), .ref (B 12)]) hx hb hwX5 hown hK hP f_B_0 rfl 1 (by decide) (hts _ (List.mem_of_getElem? (i := 1) rfl)) (v := .ref (B 3)) rfl dX5_sheets_5 ?_
  refine lv_iload_n hx hb dX5_sheets_8 rfl (lv_at hl 1 rfl) ?_
  refine lv_iload_n hx hb dX5_sheets_9 rfl (lv_at hl 2 rfl) ?_
  refine vp_callSi (W.runV (C := RX1) (As := [.int (nI uy.toNat), .int (nI (b2 b))]) (rest := []) ⟨hx, hb, hml, hown, hts⟩ (c_X1_countOf l D cy _ (B 3) (B 4) (B 5) (x 3) (x 4) uy.toNat (b2 b) (f_B_3) (f_B_4) (f_B_5) (by omega) (b2_le b)) (cwV 2 hts gX5_sheets_X1_countOf rfl rfl rfl (by decide +kernel) ⟨Nat.le_of_ble_eq_true rfl, Nat.le_of_ble_eq_true rfl⟩) (mPreV hK hP f_B_3 (ci := 2) rfl) rfl rfl hl.1 rfl (lv_room (Nat.le_of_ble_eq_true rfl)) dX5_sheets_10 ⟨Nat.le_of_ble_eq_true rfl, Nat.le_of_ble_eq_true rfl⟩) (fun r9 hr9 => ?_)
  have hr9 : r9 = (nI (cntC (x 3) (x 4) (b2 b) uy.toNat)) := hr9
  subst hr9
  exact vx_ret (e_wi hx hb hr hlocks hP hD hS (⟨by omega, rfl, rfl⟩) dX5_sheets_13)

set_option maxRecDepth 100000 in
set_option maxHeartbeats 4000000 in
theorem c_X5_lacks (l : Launch) (hst : l.stackTraces = false) (de mi : Nat) (D : va_G) (cy : Nat → ClassId) (M : mM) (sz : Nat) (B : Nat → Nat) (P : Nat → Option va_E) (cn : Nat → Nat) (x : Nat → Nat → Nat) (E : Nat → Nat → Option Nat) (nc : Nat) (y : Int32) (uy : Int)  (hH : hHolds M B P) (hSH : SH de cy B P cn x E) (hN : NB nc cn x) (py : y.toInt = uy) : mVi l yX5_lacks wsX5_lacks ({ frames := 7, cells := 1, slots := 6, locals := 103 } : Room) de mi D cy M sz [.ref (B 0), .int y] (fun r M' => (0 ≤ uy ∧ uy < cn 3) ∧ r = zI (lackC (x (1001 + 8 * (uy).toNat)) (x 13 (uy).toNat)) ∧ M' = M) (fun E9 => (E9 = "java/lang/IndexOutOfBoundsException" ∧ ¬ (0 ≤ uy ∧ uy < cn 3))) 1 6 := by
  refine mV.of (cc := cX5_lacks) (maxL := 2) (ret := (some .int)) (by decide) rfl (Nat.le_of_ble_eq_true rfl) ?_
  intro p e s m args below meth c ls hsz hx hb hr hts hown hlocks hml hout hname hP hD hS hA hK hX hl
  have hl : lv_has ls 2 [(0, .ref (B 0)), (1, .int y)] := hl
  have hown : s.vm.findClass RX5 = some m.cls := hown
  have hwX3 : ∀ w ∈ wsX30, w.before args s = true := fun w h => hts w (List.mem_cons_of_mem _ (List.mem_append_left _ (List.mem_append_left _ (List.mem_append_left _ (List.mem_append_left _ (List.mem_append_right _ (h)))))))
  have hwX5 : ∀ w ∈ wsX50, w.before args s = true := fun w h => hts w (List.mem_cons_of_mem _ (List.mem_append_left _ (List.mem_append_left _ (List.mem_append_left _ (List.mem_append_right _ (h))))))
  have hwJx4a65c : ∀ w ∈ wsJx4a65c0, w.before args s = true := fun w h => hts w (List.mem_cons_of_mem _ (List.mem_append_left _ (List.mem_append_left _ (List.mem_append_right _ (h)))))
  have hwX0 : ∀ w ∈ wsX00, w.before args s = true := fun w h => hts w (List.mem_cons_of_mem _ (List.mem_append_left _ (List.mem_append_right _ (h))))
  obtain ⟨hnc9, hc0, hc1, hc2, hc3, hxm⟩ := id hN
  have p_B_0 : P 0 = some (.inr (6, [.ref (B 1), .ref (B 3), .ref (B 6), .ref (B 8), .ref (B 10), .ref (B 12)])) := hSH.1.1
  have f_B_0 : M (B 0) = some (.inr (6, [.ref (B 1), .ref (B 3), .ref (B 6), .ref (B 8), .ref (B 10), .ref (B 12)])) := hH.1 _ _ p_B_0
  have p_B_10 : P 10 = some (.inr (0, [.int (nI (x 1 10)), .ref (B 11), .int (nI (cn 3))])) := hSH.2.2.2.1.1
  have f_B_10 : M (B 10) = some (.inr (0, [.int (nI (x 1 10)), .ref (B 11), .int (nI (cn 3))])) := hH.1 _ _ p_B_10
  have n_B_0_B_10 : nEq (B 0) (B 10) := hH.ne p_B_0 p_B_10 (by omega)
  refine lv_aload_n hx hb dX5_lacks_0 rfl (lv_at hl 0 rfl) ?_
  refine lv_iload_n hx hb dX5_lacks_1 rfl (lv_at hl 1 rfl) ?_
  obtain ⟨hl1_2, hl2_2, hl3_2, hl4_2⟩ := LI.num hSH.2.2.2.1 hH (ci := 4) (fs := scF B x) (fun j hj => (hSH.2.2.2.2.2.2 j hj).1)
  refine x_callr (vx_runV (C := RX5) (As := [.int y]) (rest := []) ⟨hx, hb, hml, hown, hts⟩ (c_X5_scriptNumbered l hst de mi D cy _ _ (B 0) (B 1) (B 3) (B 6) (B 8) (B 10) (B 12) (B 11) (cn 3) (x 1 10) (x 0 10) (E 10) (fun j => B (60 + 7 * j)) (scF B x) y uy (f_B_0) (f_B_10) hl1_2 hl2_2 hl3_2 hl4_2 py) (cwV 1 hts gX5_lacks_X5_scriptNumbered rfl rfl rfl (by decide +kernel) ⟨Nat.le_of_ble_eq_true rfl, Nat.le_of_ble_eq_true rfl⟩) (mPreXV hX hD hS hA hK hP f_B_0 (ci := 6) rfl) rfl rfl hl.1 rfl (lv_room (Nat.le_of_ble_eq_true rfl)) dX5_lacks_2 ⟨Nat.le_of_ble_eq_true rfl, Nat.le_of_ble_eq_true rfl⟩) hD hA hS hout hlocks (fun E9 h9 => h9) (Nat.le_of_ble_eq_true rfl) (Nat.le_of_ble_eq_true rfl) (fun r9 Mn H locs hq9 hP hD hS hz9 => ?_)
  obtain ⟨hsc, hr9, hq9⟩ := hq9
  rw [hq9] at hP hD
  have hr9 : r9 = B (60 + 7 * (uy).toNat) := hr9
  rw [hr9]
  have hscn : (uy).toNat < cn 3 := (by omega)
  have p_B_60_7_uy_toNat : P (60 + 7 * (uy).toNat) = some (.inr (4, [.int (nI (x 10 (uy).toNat)), .ref (B (61 + 7 * (uy).toNat)), .int (nI (x 11 (uy).toNat)), .ref (B (64 + 7 * (uy).toNat)), .ref (B (65 + 7 * (uy).toNat)), .ref (B (66 + 7 * (uy).toNat)), .int (nI (x 12 (uy).toNat))])) := (hSH.2.2.2.2.2.2 (uy).toNat hscn).1
  have f_B_60_7_uy_toNat : M (B (60 + 7 * (uy).toNat)) = some (.inr (4, [.int (nI (x 10 (uy).toNat)), .ref (B (61 + 7 * (uy).toNat)), .int (nI (x 11 (uy).toNat)), .ref (B (64 + 7 * (uy).toNat)), .ref (B (65 + 7 * (uy).toNat)), .ref (B (66 + 7 * (uy).toNat)), .int (nI (x 12 (uy).toNat))])) := hH.1 _ _ p_B_60_7_uy_toNat
  have n_B_0_B_60_7_uy_toNat : nEq (B 0) (B (60 + 7 * (uy).toNat)) := hH.ne p_B_0 p_B_60_7_uy_toNat (by omega)
  have n_B_10_B_60_7_uy_toNat : nEq (B 10) (B (60 + 7 * (uy).toNat)) := hH.ne p_B_10 p_B_60_7_uy_toNat (by omega)
  have p_B_61_7_uy_toNat : P (61 + 7 * (uy).toNat) = some (.inr (1, [.ref (B (62 + 7 * (uy).toNat)), .ref (B (63 + 7 * (uy).toNat)), .int (nI (x 13 (uy).toNat))])) := (hSH.2.2.2.2.2.2 (uy).toNat hscn).2.1
  have f_B_61_7_uy_toNat : M (B (61 + 7 * (uy).toNat)) = some (.inr (1, [.ref (B (62 + 7 * (uy).toNat)), .ref (B (63 + 7 * (uy).toNat)), .int (nI (x 13 (uy).toNat))])) := hH.1 _ _ p_B_61_7_uy_toNat
  have n_B_0_B_61_7_uy_toNat : nEq (B 0) (B (61 + 7 * (uy).toNat)) := hH.ne p_B_0 p_B_61_7_uy_toNat (by omega)
  have n_B_10_B_61_7_uy_toNat : nEq (B 10) (B (61 + 7 * (uy).toNat)) := hH.ne p_B_10 p_B_61_7_uy_toNat (by omega)
  have n_B_60_7_uy_toNat_B_61_7_uy_toNat : nEq (B (60 + 7 * (uy).toNat)) (B (61 + 7 * (uy).toNat)) := hH.ne p_B_60_7_uy_toNat p_B_61_7_uy_toNat (by omega)
  have p_B_62_7_uy_toNat : P (62 + 7 * (uy).toNat) = some (eI cy 3 (x (1000 + 8 * (uy).toNat))) := (hSH.2.2.2.2.2.2 (uy).toNat hscn).2.2.1
  have f_B_62_7_uy_toNat : M (B (62 + 7 * (uy).toNat)) = some (eI cy 3 (x (1000 + 8 * (uy).toNat))) := hH.1 _ _ p_B_62_7_uy_toNat
  have n_B_0_B_62_7_uy_toNat : nEq (B 0) (B (62 + 7 * (uy).toNat)) := hH.ne p_B_0 p_B_62_7_uy_toNat (by omega)
  have n_B_10_B_62_7_uy_toNat : nEq (B 10) (B (62 + 7 * (uy).toNat)) := hH.ne p_B_10 p_B_62_7_uy_toNat (by omega)
  have n_B_60_7_uy_toNat_B_62_7_uy_toNat : nEq (B (60 + 7 * (uy).toNat)) (B (62 + 7 * (uy).toNat)) := hH.ne p_B_60_7_uy_toNat p_B_62_7_uy_toNat (by omega)
  have n_B_61_7_uy_toNat_B_62_7_uy_toNat : nEq (B (61 + 7 * (uy).toNat)) (B (62 + 7 * (uy).toNat)) := hH.ne p_B_61_7_uy_toNat p_B_62_7_uy_toNat (by omega)
  have p_B_63_7_uy_toNat : P (63 + 7 * (uy).toNat) = some (eI cy 3 (x (1001 + 8 * (uy).toNat))) := (hSH.2.2.2.2.2.2 (uy).toNat hscn).2.2.2.1
  have f_B_63_7_uy_toNat : M (B (63 + 7 * (uy).toNat)) = some (eI cy 3 (x (1001 + 8 * (uy).toNat))) := hH.1 _ _ p_B_63_7_uy_toNat
  have n_B_0_B_63_7_uy_toNat : nEq (B 0) (B (63 + 7 * (uy).toNat)) := hH.ne p_B_0 p_B_63_7_uy_toNat (by omega)
  have n_B_10_B_63_7_uy_toNat : nEq (B 10) (B (63 + 7 * (uy).toNat)) := hH.ne p_B_10 p_B_63_7_uy_toNat (by omega)
  have n_B_60_7_uy_toNat_B_63_7_uy_toNat : nEq (B (60 + 7 * (uy).toNat)) (B (63 + 7 * (uy).toNat)) := hH.ne p_B_60_7_uy_toNat p_B_63_7_uy_toNat (by omega)
  have n_B_61_7_uy_toNat_B_63_7_uy_toNat : nEq (B (61 + 7 * (uy).toNat)) (B (63 + 7 * (uy).toNat)) := hH.ne p_B_61_7_uy_toNat p_B_63_7_uy_toNat (by omega)
  have n_B_62_7_uy_toNat_B_63_7_uy_toNat : nEq (B (62 + 7 * (uy).toNat)) (B (63 + 7 * (uy).toNat)) := hH.ne p_B_62_7_uy_toNat p_B_63_7_uy_toNat (by omega)
  have p_B_64_7_uy_toNat : P (64 + 7 * (uy).toNat) = some (eI cy 5 (x (1002 + 8 * (uy).toNat))) := (hSH.2.2.2.2.2.2 (uy).toNat hscn).2.2.2.2.1
  have f_B_64_7_uy_toNat : M (B (64 + 7 * (uy).toNat)) = some (eI cy 5 (x (1002 + 8 * (uy).toNat))) := hH.1 _ _ p_B_64_7_uy_toNat
  have n_B_0_B_64_7_uy_toNat : nEq (B 0) (B (64 + 7 * (uy).toNat)) := hH.ne p_B_0 p_B_64_7_uy_toNat (by omega)
  have n_B_10_B_64_7_uy_toNat : nEq (B 10) (B (64 + 7 * (uy).toNat)) := hH.ne p_B_10 p_B_64_7_uy_toNat (by omega)
  have n_B_60_7_uy_toNat_B_64_7_uy_toNat : nEq (B (60 + 7 * (uy).toNat)) (B (64 + 7 * (uy).toNat)) := hH.ne p_B_60_7_uy_toNat p_B_64_7_uy_toNat (by omega)
  have n_B_61_7_uy_toNat_B_64_7_uy_toNat : nEq (B (61 + 7 * (uy).toNat)) (B (64 + 7 * (uy).toNat)) := hH.ne p_B_61_7_uy_toNat p_B_64_7_uy_toNat (by omega)
  have n_B_62_7_uy_toNat_B_64_7_uy_toNat : nEq (B (62 + 7 * (uy).toNat)) (B (64 + 7 * (uy).toNat)) := hH.ne p_B_62_7_uy_toNat p_B_64_7_uy_toNat (by omega)
  have n_B_63_7_uy_toNat_B_64_7_uy_toNat : nEq (B (63 + 7 * (uy).toNat)) (B (64 + 7 * (uy).toNat)) := hH.ne p_B_63_7_uy_toNat p_B_64_7_uy_toNat (by omega)
  have p_B_65_7_uy_toNat : P (65 + 7 * (uy).toNat) = some (eI cy 4 (x (1003 + 8 * (uy).toNat))) := (hSH.2.2.2.2.2.2 (uy).toNat hscn).2.2.2.2.2.1
  have f_B_65_7_uy_toNat : M (B (65 + 7 * (uy).toNat)) = some (eI cy 4 (x (1003 + 8 * (uy).toNat))) := hH.1 _ _ p_B_65_7_uy_toNat
  have n_B_0_B_65_7_uy_toNat : nEq (B 0) (B (65 + 7 * (uy).toNat)) := hH.ne p_B_0 p_B_65_7_uy_toNat (by omega)
  have n_B_10_B_65_7_uy_toNat : nEq (B 10) (B (65 + 7 * (uy).toNat)) := hH.ne p_B_10 p_B_65_7_uy_toNat (by omega)
  have n_B_60_7_uy_toNat_B_65_7_uy_toNat : nEq (B (60 + 7 * (uy).toNat)) (B (65 + 7 * (uy).toNat)) := hH.ne p_B_60_7_uy_toNat p_B_65_7_uy_toNat (by omega)
  have n_B_61_7_uy_toNat_B_65_7_uy_toNat : nEq (B (61 + 7 * (uy).toNat)) (B (65 + 7 * (uy).toNat)) := hH.ne p_B_61_7_uy_toNat p_B_65_7_uy_toNat (by omega)
  have n_B_62_7_uy_toNat_B_65_7_uy_toNat : nEq (B (62 + 7 * (uy).toNat)) (B (65 + 7 * (uy).toNat)) := hH.ne p_B_62_7_uy_toNat p_B_65_7_uy_toNat (by omega)
  have n_B_63_7_uy_toNat_B_65_7_uy_toNat : nEq (B (63 + 7 * (uy).toNat)) (B (65 + 7 * (uy).toNat)) := hH.ne p_B_63_7_uy_toNat p_B_65_7_uy_toNat (by omega)
  have n_B_64_7_uy_toNat_B_65_7_uy_toNat : nEq (B (64 + 7 * (uy).toNat)) (B (65 + 7 * (uy).toNat)) := hH.ne p_B_64_7_uy_toNat p_B_65_7_uy_toNat (by omega)
  have p_B_66_7_uy_toNat : P (66 + 7 * (uy).toNat) = some (eI cy 6 (x (1004 + 8 * (uy).toNat))) := (hSH.2.2.2.2.2.2 (uy).toNat hscn).2.2.2.2.2.2
  have f_B_66_7_uy_toNat : M (B (66 + 7 * (uy).toNat)) = some (eI cy 6 (x (1004 + 8 * (uy).toNat))) := hH.1 _ _ p_B_66_7_uy_toNat
  have n_B_0_B_66_7_uy_toNat : nEq (B 0) (B (66 + 7 * (uy).toNat)) := hH.ne p_B_0 p_B_66_7_uy_toNat (by omega)
  have n_B_10_B_66_7_uy_toNat : nEq (B 10) (B (66 + 7 * (uy).toNat)) := hH.ne p_B_10 p_B_66_7_uy_toNat (by omega)
  have n_B_60_7_uy_toNat_B_66_7_uy_toNat : nEq (B (60 + 7 * (uy).toNat)) (B (66 + 7 * (uy).toNat)) := hH.ne p_B_60_7_uy_toNat p_B_66_7_uy_toNat (by omega)
  have n_B_61_7_uy_toNat_B_66_7_uy_toNat : nEq (B (61 + 7 * (uy).toNat)) (B (66 + 7 * (uy).toNat)) := hH.ne p_B_61_7_uy_toNat p_B_66_7_uy_toNat (by omega)
  have n_B_62_7_uy_toNat_B_66_7_uy_toNat : nEq (B (62 + 7 * (uy).toNat)) (B (66 + 7 * (uy).toNat)) := hH.ne p_B_62_7_uy_toNat p_B_66_7_uy_toNat (by omega)
  have n_B_63_7_uy_toNat_B_66_7_uy_toNat : nEq (B (63 + 7 * (uy).toNat)) (B (66 + 7 * (uy).toNat)) := hH.ne p_B_63_7_uy_toNat p_B_66_7_uy_toNat (by omega)
  have n_B_64_7_uy_toNat_B_66_7_uy_toNat : nEq (B (64 + 7 * (uy).toNat)) (B (66 + 7 * (uy).toNat)) := hH.ne p_B_64_7_uy_toNat p_B_66_7_uy_toNat (by omega)
  have n_B_65_7_uy_toNat_B_66_7_uy_toNat : nEq (B (65 + 7 * (uy).toNat)) (B (66 + 7 * (uy).toNat)) := hH.ne p_B_65_7_uy_toNat p_B_66_7_uy_toNat (by omega)
  refine m_get (T := TX3) (N := 7) (ci := 4) (fs := [.int (nI (x 10 (uy).toNat)), .ref (B (61 + 7 * (uy).toNat)), .int (nI (x 11 (uy).toNat)), .ref (B (64 + 7 * (uy).toNat)), .ref (B (65 + 7 * (uy).toNat)), .ref (B (66 + 7 * (uy).toNat)), .int (nI (x 12 (uy).toNat))]) hx hb hwX3 hown hK hP f_B_60_7_uy_toNat rfl 1 (by decide) (hts _ (List.mem_of_getElem? (i := 1) rfl)) (v := .ref (B (61 + 7 * (uy).toNat))) rfl dX5_lacks_5 ?_
  have hvv : ∀ j, x (1001 + 8 * (uy).toNat) j ≤ 20 := (fun j => Nat.le_trans (hxm (1001 + 8 * (uy).toNat) j) (Nat.le_of_eq (xm_1 nc (uy).toNat)))
  have hss : ∀ j, x (1002 + 8 * (uy).toNat) j ≤ 8 := (fun j => Nat.le_trans (hxm (1002 + 8 * (uy).toNat) j) (Nat.le_of_eq (xm_2 nc (uy).toNat)))
  have hpp : ∀ j, x (1003 + 8 * (uy).toNat) j ≤ 5 := (fun j => Nat.le_trans (hxm (1003 + 8 * (uy).toNat) j) (Nat.le_of_eq (xm_3 nc (uy).toNat)))
  have hrr : ∀ j, x (1004 + 8 * (uy).toNat) j ≤ 8 := (fun j => Nat.le_trans (hxm (1004 + 8 * (uy).toNat) j) (Nat.le_of_eq (xm_4 nc (uy).toNat)))
  have h13 : x 13 (uy).toNat ≤ 3 := hxm 13 (uy).toNat
  have h12 : x 12 (uy).toNat ≤ 6 := hxm 12 (uy).toNat
  have h11 : x 11 (uy).toNat ≤ 1 := hxm 11 (uy).toNat
  refine vp_callSi (W.runV (C := RX0) (As := []) (rest := []) ⟨hx, hb, hml, hown, hts⟩ (c_X0_lacking l D cy _ (B (61 + 7 * (uy).toNat)) (B (62 + 7 * (uy).toNat)) (B (63 + 7 * (uy).toNat)) (x 13 (uy).toNat) (x (1000 + 8 * (uy).toNat)) (x (1001 + 8 * (uy).toNat)) (f_B_61_7_uy_toNat) (f_B_62_7_uy_toNat) (f_B_63_7_uy_toNat) h13 hvv) (cwV 0 hts gX5_lacks_X0_lacking rfl rfl rfl (by decide +kernel) ⟨Nat.le_of_ble_eq_true rfl, Nat.le_of_ble_eq_true rfl⟩) (mPreV hK hP f_B_61_7_uy_toNat (ci := 1) rfl) rfl rfl hl.1 rfl (lv_room (Nat.le_of_ble_eq_true rfl)) dX5_lacks_8 ⟨Nat.le_of_ble_eq_true rfl, Nat.le_of_ble_eq_true rfl⟩) (fun r9 hr9 => ?_)
  have hr9 : r9 = (zI (lackC (x (1001 + 8 * (uy).toNat)) (x 13 (uy).toNat))) := hr9
  subst hr9
  exact vx_ret (e_wi hx hb hr hlocks hP hD hS (⟨by omega, rfl, rfl⟩) dX5_lacks_11)

set_option maxRecDepth 100000 in
set_option maxHeartbeats 4000000 in
theorem c_X5_grade (l : Launch) (hst : l.stackTraces = false) (de mi : Nat) (D : va_G) (cy : Nat → ClassId) (M : mM) (sz : Nat) (B : Nat → Nat) (P : Nat → Option va_E) (cn : Nat → Nat) (x : Nat → Nat → Nat) (E : Nat → Nat → Option Nat) (nc : Nat) (y : Int32) (uy : Int)  (hH : hHolds M B P) (hSH : SH de cy B P cn x E) (hN : NB nc cn x) (py : y.toInt = uy) : mVi l yX5_grade wsX5_grade ({ frames := 7, cells := 1, slots := 6, locals := 103 } : Room) de mi D cy M sz [.ref (B 0), .int y] (fun r M' => (0 ≤ uy ∧ uy < cn 3) ∧ r = zI (gradeC (x (1001 + 8 * (uy).toNat)) (x 13 (uy).toNat)) ∧ M' = M) (fun E9 => (E9 = "java/lang/IndexOutOfBoundsException" ∧ ¬ (0 ≤ uy ∧ uy < cn 3))) 1 6 := by
  refine mV.of (cc := cX5_grade) (maxL := 2) (ret := (some .int)) (by decide) rfl (Nat.le_of_ble_eq_true rfl) ?_
  intro p e s m args below meth c ls hsz hx hb hr hts hown hlocks hml hout hname hP hD hS hA hK hX hl
  have hl : lv_has ls 2 [(0, .ref (B 0)), (1, .int y)] := hl
  have hown : s.vm.findClass RX5 = some m.cls := hown
  have hwX3 : ∀ w ∈ wsX30, w.before args s = true := fun w h => hts w (List.mem_cons_of_mem _ (List.mem_append_left _ (List.mem_append_left _ (List.mem_append_left _ (List.mem_append_left _ (List.mem_append_right _ (h)))))))
  have hwX5 : ∀ w ∈ wsX50, w.before args s = true := fun w h => hts w (List.mem_cons_of_mem _ (List.mem_append_left _ (List.mem_append_left _ (List.mem_append_left _ (List.mem_append_right _ (h))))))
  have hwJx4a65c : ∀ w ∈ wsJx4a65c0, w.before args s = true := fun w h => hts w (List.mem_cons_of_mem _ (List.mem_append_left _ (List.mem_append_left _ (List.mem_append_right _ (h)))))
  have hwX0 : ∀ w ∈ wsX00, w.before args s = true := fun w h => hts w (List.mem_cons_of_mem _ (List.mem_append_left _ (List.mem_append_right _ (h))))
  obtain ⟨hnc9, hc0, hc1, hc2, hc3, hxm⟩ := id hN
  have p_B_0 : P 0 = some (.inr (6, [.ref (B 1), .ref (B 3), .ref (B 6), .ref (B 8), .ref (B 10), .ref (B 12)])) := hSH.1.1
  have f_B_0 : M (B 0) = some (.inr (6, [.ref (B 1), .ref (B 3), .ref (B 6), .ref (B 8), .ref (B 10), .ref (B 12)])) := hH.1 _ _ p_B_0
  have p_B_10 : P 10 = some (.inr (0, [.int (nI (x 1 10)), .ref (B 11), .int (nI (cn 3))])) := hSH.2.2.2.1.1
  have f_B_10 : M (B 10) = some (.inr (0, [.int (nI (x 1 10)), .ref (B 11), .int (nI (cn 3))])) := hH.1 _ _ p_B_10
  have n_B_0_B_10 : nEq (B 0) (B 10) := hH.ne p_B_0 p_B_10 (by omega)
  refine lv_aload_n hx hb dX5_grade_0 rfl (lv_at hl 0 rfl) ?_
  refine lv_iload_n hx hb dX5_grade_1 rfl (lv_at hl 1 rfl) ?_
  obtain ⟨hl1_2, hl2_2, hl3_2, hl4_2⟩ := LI.num hSH.2.2.2.1 hH (ci := 4) (fs := scF B x) (fun j hj => (hSH.2.2.2.2.2.2 j hj).1)
  refine x_callr (vx_runV (C := RX5) (As := [.int y]) (rest := []) ⟨hx, hb, hml, hown, hts⟩ (c_X5_scriptNumbered l hst de mi D cy _ _ (B 0) (B 1) (B 3) (B 6) (B 8) (B 10) (B 12) (B 11) (cn 3) (x 1 10) (x 0 10) (E 10) (fun j => B (60 + 7 * j)) (scF B x) y uy (f_B_0) (f_B_10) hl1_2 hl2_2 hl3_2 hl4_2 py) (cwV 1 hts gX5_grade_X5_scriptNumbered rfl rfl rfl (by decide +kernel) ⟨Nat.le_of_ble_eq_true rfl, Nat.le_of_ble_eq_true rfl⟩) (mPreXV hX hD hS hA hK hP f_B_0 (ci := 6) rfl) rfl rfl hl.1 rfl (lv_room (Nat.le_of_ble_eq_true rfl)) dX5_grade_2 ⟨Nat.le_of_ble_eq_true rfl, Nat.le_of_ble_eq_true rfl⟩) hD hA hS hout hlocks (fun E9 h9 => h9) (Nat.le_of_ble_eq_true rfl) (Nat.le_of_ble_eq_true rfl) (fun r9 Mn H locs hq9 hP hD hS hz9 => ?_)
  obtain ⟨hsc, hr9, hq9⟩ := hq9
  rw [hq9] at hP hD
  have hr9 : r9 = B (60 + 7 * (uy).toNat) := hr9
  rw [hr9]
  have hscn : (uy).toNat < cn 3 := (by omega)
  have p_B_60_7_uy_toNat : P (60 + 7 * (uy).toNat) = some (.inr (4, [.int (nI (x 10 (uy).toNat)), .ref (B (61 + 7 * (uy).toNat)), .int (nI (x 11 (uy).toNat)), .ref (B (64 + 7 * (uy).toNat)), .ref (B (65 + 7 * (uy).toNat)), .ref (B (66 + 7 * (uy).toNat)), .int (nI (x 12 (uy).toNat))])) := (hSH.2.2.2.2.2.2 (uy).toNat hscn).1
  have f_B_60_7_uy_toNat : M (B (60 + 7 * (uy).toNat)) = some (.inr (4, [.int (nI (x 10 (uy).toNat)), .ref (B (61 + 7 * (uy).toNat)), .int (nI (x 11 (uy).toNat)), .ref (B (64 + 7 * (uy).toNat)), .ref (B (65 + 7 * (uy).toNat)), .ref (B (66 + 7 * (uy).toNat)), .int (nI (x 12 (uy).toNat))])) := hH.1 _ _ p_B_60_7_uy_toNat
  have n_B_0_B_60_7_uy_toNat : nEq (B 0) (B (60 + 7 * (uy).toNat)) := hH.ne p_B_0 p_B_60_7_uy_toNat (by omega)
  have n_B_10_B_60_7_uy_toNat : nEq (B 10) (B (60 + 7 * (uy).toNat)) := hH.ne p_B_10 p_B_60_7_uy_toNat (by omega)
  have p_B_61_7_uy_toNat : P (61 + 7 * (uy).toNat) = some (.inr (1, [.ref (B (62 + 7 * (uy).toNat)), .ref (B (63 + 7 * (uy).toNat)), .int (nI (x 13 (uy).toNat))])) := (hSH.2.2.2.2.2.2 (uy).toNat hscn).2.1
  have f_B_61_7_uy_toNat : M (B (61 + 7 * (uy).toNat)) = some (.inr (1, [.ref (B (62 + 7 * (uy).toNat)), .ref (B (63 + 7 * (uy).toNat)), .int (nI (x 13 (uy).toNat))])) := hH.1 _ _ p_B_61_7_uy_toNat
  have n_B_0_B_61_7_uy_toNat : nEq (B 0) (B (61 + 7 * (uy).toNat)) := hH.ne p_B_0 p_B_61_7_uy_toNat (by omega)
  have n_B_10_B_61_7_uy_toNat : nEq (B 10) (B (61 + 7 * (uy).toNat)) := hH.ne p_B_10 p_B_61_7_uy_toNat (by omega)
  have n_B_60_7_uy_toNat_B_61_7_uy_toNat : nEq (B (60 + 7 * (uy).toNat)) (B (61 + 7 * (uy).toNat)) := hH.ne p_B_60_7_uy_toNat p_B_61_7_uy_toNat (by omega)
  have p_B_62_7_uy_toNat : P (62 + 7 * (uy).toNat) = some (eI cy 3 (x (1000 + 8 * (uy).toNat))) := (hSH.2.2.2.2.2.2 (uy).toNat hscn).2.2.1
  have f_B_62_7_uy_toNat : M (B (62 + 7 * (uy).toNat)) = some (eI cy 3 (x (1000 + 8 * (uy).toNat))) := hH.1 _ _ p_B_62_7_uy_toNat
  have n_B_0_B_62_7_uy_toNat : nEq (B 0) (B (62 + 7 * (uy).toNat)) := hH.ne p_B_0 p_B_62_7_uy_toNat (by omega)
  have n_B_10_B_62_7_uy_toNat : nEq (B 10) (B (62 + 7 * (uy).toNat)) := hH.ne p_B_10 p_B_62_7_uy_toNat (by omega)
  have n_B_60_7_uy_toNat_B_62_7_uy_toNat : nEq (B (60 + 7 * (uy).toNat)) (B (62 + 7 * (uy).toNat)) := hH.ne p_B_60_7_uy_toNat p_B_62_7_uy_toNat (by omega)
  have n_B_61_7_uy_toNat_B_62_7_uy_toNat : nEq (B (61 + 7 * (uy).toNat)) (B (62 + 7 * (uy).toNat)) := hH.ne p_B_61_7_uy_toNat p_B_62_7_uy_toNat (by omega)
  have p_B_63_7_uy_toNat : P (63 + 7 * (uy).toNat) = some (eI cy 3 (x (1001 + 8 * (uy).toNat))) := (hSH.2.2.2.2.2.2 (uy).toNat hscn).2.2.2.1
  have f_B_63_7_uy_toNat : M (B (63 + 7 * (uy).toNat)) = some (eI cy 3 (x (1001 + 8 * (uy).toNat))) := hH.1 _ _ p_B_63_7_uy_toNat
  have n_B_0_B_63_7_uy_toNat : nEq (B 0) (B (63 + 7 * (uy).toNat)) := hH.ne p_B_0 p_B_63_7_uy_toNat (by omega)
  have n_B_10_B_63_7_uy_toNat : nEq (B 10) (B (63 + 7 * (uy).toNat)) := hH.ne p_B_10 p_B_63_7_uy_toNat (by omega)
  have n_B_60_7_uy_toNat_B_63_7_uy_toNat : nEq (B (60 + 7 * (uy).toNat)) (B (63 + 7 * (uy).toNat)) := hH.ne p_B_60_7_uy_toNat p_B_63_7_uy_toNat (by omega)
  have n_B_61_7_uy_toNat_B_63_7_uy_toNat : nEq (B (61 + 7 * (uy).toNat)) (B (63 + 7 * (uy).toNat)) := hH.ne p_B_61_7_uy_toNat p_B_63_7_uy_toNat (by omega)
  have n_B_62_7_uy_toNat_B_63_7_uy_toNat : nEq (B (62 + 7 * (uy).toNat)) (B (63 + 7 * (uy).toNat)) := hH.ne p_B_62_7_uy_toNat p_B_63_7_uy_toNat (by omega)
  have p_B_64_7_uy_toNat : P (64 + 7 * (uy).toNat) = some (eI cy 5 (x (1002 + 8 * (uy).toNat))) := (hSH.2.2.2.2.2.2 (uy).toNat hscn).2.2.2.2.1
  have f_B_64_7_uy_toNat : M (B (64 + 7 * (uy).toNat)) = some (eI cy 5 (x (1002 + 8 * (uy).toNat))) := hH.1 _ _ p_B_64_7_uy_toNat
  have n_B_0_B_64_7_uy_toNat : nEq (B 0) (B (64 + 7 * (uy).toNat)) := hH.ne p_B_0 p_B_64_7_uy_toNat (by omega)
  have n_B_10_B_64_7_uy_toNat : nEq (B 10) (B (64 + 7 * (uy).toNat)) := hH.ne p_B_10 p_B_64_7_uy_toNat (by omega)
  have n_B_60_7_uy_toNat_B_64_7_uy_toNat : nEq (B (60 + 7 * (uy).toNat)) (B (64 + 7 * (uy).toNat)) := hH.ne p_B_60_7_uy_toNat p_B_64_7_uy_toNat (by omega)
  have n_B_61_7_uy_toNat_B_64_7_uy_toNat : nEq (B (61 + 7 * (uy).toNat)) (B (64 + 7 * (uy).toNat)) := hH.ne p_B_61_7_uy_toNat p_B_64_7_uy_toNat (by omega)
  have n_B_62_7_uy_toNat_B_64_7_uy_toNat : nEq (B (62 + 7 * (uy).toNat)) (B (64 + 7 * (uy).toNat)) := hH.ne p_B_62_7_uy_toNat p_B_64_7_uy_toNat (by omega)
  have n_B_63_7_uy_toNat_B_64_7_uy_toNat : nEq (B (63 + 7 * (uy).toNat)) (B (64 + 7 * (uy).toNat)) := hH.ne p_B_63_7_uy_toNat p_B_64_7_uy_toNat (by omega)
  have p_B_65_7_uy_toNat : P (65 + 7 * (uy).toNat) = some (eI cy 4 (x (1003 + 8 * (uy).toNat))) := (hSH.2.2.2.2.2.2 (uy).toNat hscn).2.2.2.2.2.1
  have f_B_65_7_uy_toNat : M (B (65 + 7 * (uy).toNat)) = some (eI cy 4 (x (1003 + 8 * (uy).toNat))) := hH.1 _ _ p_B_65_7_uy_toNat
  have n_B_0_B_65_7_uy_toNat : nEq (B 0) (B (65 + 7 * (uy).toNat)) := hH.ne p_B_0 p_B_65_7_uy_toNat (by omega)
  have n_B_10_B_65_7_uy_toNat : nEq (B 10) (B (65 + 7 * (uy).toNat)) := hH.ne p_B_10 p_B_65_7_uy_toNat (by omega)
  have n_B_60_7_uy_toNat_B_65_7_uy_toNat : nEq (B (60 + 7 * (uy).toNat)) (B (65 + 7 * (uy).toNat)) := hH.ne p_B_60_7_uy_toNat p_B_65_7_uy_toNat (by omega)
  have n_B_61_7_uy_toNat_B_65_7_uy_toNat : nEq (B (61 + 7 * (uy).toNat)) (B (65 + 7 * (uy).toNat)) := hH.ne p_B_61_7_uy_toNat p_B_65_7_uy_toNat (by omega)
  have n_B_62_7_uy_toNat_B_65_7_uy_toNat : nEq (B (62 + 7 * (uy).toNat)) (B (65 + 7 * (uy).toNat)) := hH.ne p_B_62_7_uy_toNat p_B_65_7_uy_toNat (by omega)
  have n_B_63_7_uy_toNat_B_65_7_uy_toNat : nEq (B (63 + 7 * (uy).toNat)) (B (65 + 7 * (uy).toNat)) := hH.ne p_B_63_7_uy_toNat p_B_65_7_uy_toNat (by omega)
  have n_B_64_7_uy_toNat_B_65_7_uy_toNat : nEq (B (64 + 7 * (uy).toNat)) (B (65 + 7 * (uy).toNat)) := hH.ne p_B_64_7_uy_toNat p_B_65_7_uy_toNat (by omega)
  have p_B_66_7_uy_toNat : P (66 + 7 * (uy).toNat) = some (eI cy 6 (x (1004 + 8 * (uy).toNat))) := (hSH.2.2.2.2.2.2 (uy).toNat hscn).2.2.2.2.2.2
  have f_B_66_7_uy_toNat : M (B (66 + 7 * (uy).toNat)) = some (eI cy 6 (x (1004 + 8 * (uy).toNat))) := hH.1 _ _ p_B_66_7_uy_toNat
  have n_B_0_B_66_7_uy_toNat : nEq (B 0) (B (66 + 7 * (uy).toNat)) := hH.ne p_B_0 p_B_66_7_uy_toNat (by omega)
  have n_B_10_B_66_7_uy_toNat : nEq (B 10) (B (66 + 7 * (uy).toNat)) := hH.ne p_B_10 p_B_66_7_uy_toNat (by omega)
  have n_B_60_7_uy_toNat_B_66_7_uy_toNat : nEq (B (60 + 7 * (uy).toNat)) (B (66 + 7 * (uy).toNat)) := hH.ne p_B_60_7_uy_toNat p_B_66_7_uy_toNat (by omega)
  have n_B_61_7_uy_toNat_B_66_7_uy_toNat : nEq (B (61 + 7 * (uy).toNat)) (B (66 + 7 * (uy).toNat)) := hH.ne p_B_61_7_uy_toNat p_B_66_7_uy_toNat (by omega)
  have n_B_62_7_uy_toNat_B_66_7_uy_toNat : nEq (B (62 + 7 * (uy).toNat)) (B (66 + 7 * (uy).toNat)) := hH.ne p_B_62_7_uy_toNat p_B_66_7_uy_toNat (by omega)
  have n_B_63_7_uy_toNat_B_66_7_uy_toNat : nEq (B (63 + 7 * (uy).toNat)) (B (66 + 7 * (uy).toNat)) := hH.ne p_B_63_7_uy_toNat p_B_66_7_uy_toNat (by omega)
  have n_B_64_7_uy_toNat_B_66_7_uy_toNat : nEq (B (64 + 7 * (uy).toNat)) (B (66 + 7 * (uy).toNat)) := hH.ne p_B_64_7_uy_toNat p_B_66_7_uy_toNat (by omega)
  have n_B_65_7_uy_toNat_B_66_7_uy_toNat : nEq (B (65 + 7 * (uy).toNat)) (B (66 + 7 * (uy).toNat)) := hH.ne p_B_65_7_uy_toNat p_B_66_7_uy_toNat (by omega)
  refine m_get (T := TX3) (N := 7) (ci := 4) (fs := [.int (nI (x 10 (uy).toNat)), .ref (B (61 + 7 * (uy).toNat)), .int (nI (x 11 (uy).toNat)), .ref (B (64 + 7 * (uy).toNat)), .ref (B (65 + 7 * (uy).toNat)), .ref (B (66 + 7 * (uy).toNat)), .int (nI (x 12 (uy).toNat))]) hx hb hwX3 hown hK hP f_B_60_7_uy_toNat rfl 1 (by decide) (hts _ (List.mem_of_getElem? (i := 1) rfl)) (v := .ref (B (61 + 7 * (uy).toNat))) rfl dX5_grade_5 ?_
  have hvv : ∀ j, x (1001 + 8 * (uy).toNat) j ≤ 20 := (fun j => Nat.le_trans (hxm (1001 + 8 * (uy).toNat) j) (Nat.le_of_eq (xm_1 nc (uy).toNat)))
  have hss : ∀ j, x (1002 + 8 * (uy).toNat) j ≤ 8 := (fun j => Nat.le_trans (hxm (1002 + 8 * (uy).toNat) j) (Nat.le_of_eq (xm_2 nc (uy).toNat)))
  have hpp : ∀ j, x (1003 + 8 * (uy).toNat) j ≤ 5 := (fun j => Nat.le_trans (hxm (1003 + 8 * (uy).toNat) j) (Nat.le_of_eq (xm_3 nc (uy).toNat)))
  have hrr : ∀ j, x (1004 + 8 * (uy).toNat) j ≤ 8 := (fun j => Nat.le_trans (hxm (1004 + 8 * (uy).toNat) j) (Nat.le_of_eq (xm_4 nc (uy).toNat)))
  have h13 : x 13 (uy).toNat ≤ 3 := hxm 13 (uy).toNat
  have h12 : x 12 (uy).toNat ≤ 6 := hxm 12 (uy).toNat
  have h11 : x 11 (uy).toNat ≤ 1 := hxm 11 (uy).toNat
  refine vp_callSi (W.runV (C := RX0) (As := []) (rest := []) ⟨hx, hb, hml, hown, hts⟩ (c_X0_result l D cy _ (B (61 + 7 * (uy).toNat)) (B (62 + 7 * (uy).toNat)) (B (63 + 7 * (uy).toNat)) (x 13 (uy).toNat) (x (1000 + 8 * (uy).toNat)) (x (1001 + 8 * (uy).toNat)) (f_B_61_7_uy_toNat) (f_B_62_7_uy_toNat) (f_B_63_7_uy_toNat) h13 hvv) (cwV 0 hts gX5_grade_X0_result rfl rfl rfl (by decide +kernel) ⟨Nat.le_of_ble_eq_true rfl, Nat.le_of_ble_eq_true rfl⟩) (mPreV hK hP f_B_61_7_uy_toNat (ci := 1) rfl) rfl rfl hl.1 rfl (lv_room (Nat.le_of_ble_eq_true rfl)) dX5_grade_8 ⟨Nat.le_of_ble_eq_true rfl, Nat.le_of_ble_eq_true rfl⟩) (fun r9 hr9 => ?_)
  have hr9 : r9 = (zI (gradeC (x (1001 + 8 * (uy).toNat)) (x 13 (uy).toNat))) := hr9
  subst hr9
  exact vx_ret (e_wi hx hb hr hlocks hP hD hS (⟨by omega, rfl, rfl⟩) dX5_grade_11)

set_option maxRecDepth 100000 in
set_option maxHeartbeats 4000000 in
theorem c_X5_worth (l : Launch) (hst : l.stackTraces = false) (de mi : Nat) (D : va_G) (cy : Nat → ClassId) (M : mM) (sz : Nat) (B : Nat → Nat) (P : Nat → Option va_E) (cn : Nat → Nat) (x : Nat → Nat → Nat) (E : Nat → Nat → Option Nat) (nc : Nat) (y : Int32) (uy : Int)  (hH : hHolds M B P) (hSH : SH de cy B P cn x E) (hN : NB nc cn x) (py : y.toInt = uy) : mVi l yX5_worth wsX5_worth ({ frames := 7, cells := 1, slots := 6, locals := 103 } : Room) de mi D cy M sz [.ref (B 0), .int y] (fun r M' => (0 ≤ uy ∧ uy < cn 3) ∧ r = zI (worthC (x (1001 + 8 * (uy).toNat)) (x 13 (uy).toNat) (x 11 (uy).toNat) (x (1003 + 8 * (uy).toNat)) (x (1002 + 8 * (uy).toNat))) ∧ M' = M) (fun E9 => (E9 = "java/lang/IndexOutOfBoundsException" ∧ ¬ (0 ≤ uy ∧ uy < cn 3))) 1 6 := by
  refine mV.of (cc := cX5_worth) (maxL := 2) (ret := (some .int)) (by decide) rfl (Nat.le_of_ble_eq_true rfl) ?_
  intro p e s m args below meth c ls hsz hx hb hr hts hown hlocks hml hout hname hP hD hS hA hK hX hl
  have hl : lv_has ls 2 [(0, .ref (B 0)), (1, .int y)] := hl
  have hown : s.vm.findClass RX5 = some m.cls := hown
  have hwX5 : ∀ w ∈ wsX50, w.before args s = true := fun w h => hts w (List.mem_cons_of_mem _ (List.mem_append_left _ (List.mem_append_left _ (List.mem_append_left _ (List.mem_append_left _ (List.mem_append_right _ (h)))))))
  have hwJx4a65c : ∀ w ∈ wsJx4a65c0, w.before args s = true := fun w h => hts w (List.mem_cons_of_mem _ (List.mem_append_left _ (List.mem_append_left _ (List.mem_append_left _ (List.mem_append_right _ (h))))))
  have hwX3 : ∀ w ∈ wsX30, w.before args s = true := fun w h => hts w (List.mem_cons_of_mem _ (List.mem_append_left _ (List.mem_append_left _ (List.mem_append_right _ (h)))))
  have hwX0 : ∀ w ∈ wsX00, w.before args s = true := fun w h => hts w (List.mem_cons_of_mem _ (List.mem_append_left _ (List.mem_append_right _ (h))))
  obtain ⟨hnc9, hc0, hc1, hc2, hc3, hxm⟩ := id hN
  have p_B_0 : P 0 = some (.inr (6, [.ref (B 1), .ref (B 3), .ref (B 6), .ref (B 8), .ref (B 10), .ref (B 12)])) := hSH.1.1
  have f_B_0 : M (B 0) = some (.inr (6, [.ref (B 1), .ref (B 3), .ref (B 6), .ref (B 8), .ref (B 10), .ref (B 12)])) := hH.1 _ _ p_B_0
  have p_B_10 : P 10 = some (.inr (0, [.int (nI (x 1 10)), .ref (B 11), .int (nI (cn 3))])) := hSH.2.2.2.1.1
  have f_B_10 : M (B 10) = some (.inr (0, [.int (nI (x 1 10)), .ref (B 11), .int (nI (cn 3))])) := hH.1 _ _ p_B_10
  have n_B_0_B_10 : nEq (B 0) (B 10) := hH.ne p_B_0 p_B_10 (by omega)
  refine lv_aload_n hx hb dX5_worth_0 rfl (lv_at hl 0 rfl) ?_
  refine lv_iload_n hx hb dX5_worth_1 rfl (lv_at hl 1 rfl) ?_
  obtain ⟨hl1_2, hl2_2, hl3_2, hl4_2⟩ := LI.num hSH.2.2.2.1 hH (ci := 4) (fs := scF B x) (fun j hj => (hSH.2.2.2.2.2.2 j hj).1)
  refine x_callr (vx_runV (C := RX5) (As := [.int y]) (rest := []) ⟨hx, hb, hml, hown, hts⟩ (c_X5_scriptNumbered l hst de mi D cy _ _ (B 0) (B 1) (B 3) (B 6) (B 8) (B 10) (B 12) (B 11) (cn 3) (x 1 10) (x 0 10) (E 10) (fun j => B (60 + 7 * j)) (scF B x) y uy (f_B_0) (f_B_10) hl1_2 hl2_2 hl3_2 hl4_2 py) (cwV 1 hts gX5_worth_X5_scriptNumbered rfl rfl rfl (by decide +kernel) ⟨Nat.le_of_ble_eq_true rfl, Nat.le_of_ble_eq_true rfl⟩) (mPreXV hX hD hS hA hK hP f_B_0 (ci := 6) rfl) rfl rfl hl.1 rfl (lv_room (Nat.le_of_ble_eq_true rfl)) dX5_worth_2 ⟨Nat.le_of_ble_eq_true rfl, Nat.le_of_ble_eq_true rfl⟩) hD hA hS hout hlocks (fun E9 h9 => h9) (Nat.le_of_ble_eq_true rfl) (Nat.le_of_ble_eq_true rfl) (fun r9 Mn H locs hq9 hP hD hS hz9 => ?_)
  obtain ⟨hsc, hr9, hq9⟩ := hq9
  rw [hq9] at hP hD
  have hr9 : r9 = B (60 + 7 * (uy).toNat) := hr9
  rw [hr9]
  have hscn : (uy).toNat < cn 3 := (by omega)
  have p_B_60_7_uy_toNat : P (60 + 7 * (uy).toNat) = some (.inr (4, [.int (nI (x 10 (uy).toNat)), .ref (B (61 + 7 * (uy).toNat)), .int (nI (x 11 (uy).toNat)), .ref (B (64 + 7 * (uy).toNat)), .ref (B (65 + 7 * (uy).toNat)), .ref (B (66 + 7 * (uy).toNat)), .int (nI (x 12 (uy).toNat))])) := (hSH.2.2.2.2.2.2 (uy).toNat hscn).1
  have f_B_60_7_uy_toNat : M (B (60 + 7 * (uy).toNat)) = some (.inr (4, [.int (nI (x 10 (uy).toNat)), .ref (B (61 + 7 * (uy).toNat)), .int (nI (x 11 (uy).toNat)), .ref (B (64 + 7 * (uy).toNat)), .ref (B (65 + 7 * (uy).toNat)), .ref (B (66 + 7 * (uy).toNat)), .int (nI (x 12 (uy).toNat))])) := hH.1 _ _ p_B_60_7_uy_toNat
  have n_B_0_B_60_7_uy_toNat : nEq (B 0) (B (60 + 7 * (uy).toNat)) := hH.ne p_B_0 p_B_60_7_uy_toNat (by omega)
  have n_B_10_B_60_7_uy_toNat : nEq (B 10) (B (60 + 7 * (uy).toNat)) := hH.ne p_B_10 p_B_60_7_uy_toNat (by omega)
  have p_B_61_7_uy_toNat : P (61 + 7 * (uy).toNat) = some (.inr (1, [.ref (B (62 + 7 * (uy).toNat)), .ref (B (63 + 7 * (uy).toNat)), .int (nI (x 13 (uy).toNat))])) := (hSH.2.2.2.2.2.2 (uy).toNat hscn).2.1
  have f_B_61_7_uy_toNat : M (B (61 + 7 * (uy).toNat)) = some (.inr (1, [.ref (B (62 + 7 * (uy).toNat)), .ref (B (63 + 7 * (uy).toNat)), .int (nI (x 13 (uy).toNat))])) := hH.1 _ _ p_B_61_7_uy_toNat
  have n_B_0_B_61_7_uy_toNat : nEq (B 0) (B (61 + 7 * (uy).toNat)) := hH.ne p_B_0 p_B_61_7_uy_toNat (by omega)
  have n_B_10_B_61_7_uy_toNat : nEq (B 10) (B (61 + 7 * (uy).toNat)) := hH.ne p_B_10 p_B_61_7_uy_toNat (by omega)
  have n_B_60_7_uy_toNat_B_61_7_uy_toNat : nEq (B (60 + 7 * (uy).toNat)) (B (61 + 7 * (uy).toNat)) := hH.ne p_B_60_7_uy_toNat p_B_61_7_uy_toNat (by omega)
  have p_B_62_7_uy_toNat : P (62 + 7 * (uy).toNat) = some (eI cy 3 (x (1000 + 8 * (uy).toNat))) := (hSH.2.2.2.2.2.2 (uy).toNat hscn).2.2.1
  have f_B_62_7_uy_toNat : M (B (62 + 7 * (uy).toNat)) = some (eI cy 3 (x (1000 + 8 * (uy).toNat))) := hH.1 _ _ p_B_62_7_uy_toNat
  have n_B_0_B_62_7_uy_toNat : nEq (B 0) (B (62 + 7 * (uy).toNat)) := hH.ne p_B_0 p_B_62_7_uy_toNat (by omega)
  have n_B_10_B_62_7_uy_toNat : nEq (B 10) (B (62 + 7 * (uy).toNat)) := hH.ne p_B_10 p_B_62_7_uy_toNat (by omega)
  have n_B_60_7_uy_toNat_B_62_7_uy_toNat : nEq (B (60 + 7 * (uy).toNat)) (B (62 + 7 * (uy).toNat)) := hH.ne p_B_60_7_uy_toNat p_B_62_7_uy_toNat (by omega)
  have n_B_61_7_uy_toNat_B_62_7_uy_toNat : nEq (B (61 + 7 * (uy).toNat)) (B (62 + 7 * (uy).toNat)) := hH.ne p_B_61_7_uy_toNat p_B_62_7_uy_toNat (by omega)
  have p_B_63_7_uy_toNat : P (63 + 7 * (uy).toNat) = some (eI cy 3 (x (1001 + 8 * (uy).toNat))) := (hSH.2.2.2.2.2.2 (uy).toNat hscn).2.2.2.1
  have f_B_63_7_uy_toNat : M (B (63 + 7 * (uy).toNat)) = some (eI cy 3 (x (1001 + 8 * (uy).toNat))) := hH.1 _ _ p_B_63_7_uy_toNat
  have n_B_0_B_63_7_uy_toNat : nEq (B 0) (B (63 + 7 * (uy).toNat)) := hH.ne p_B_0 p_B_63_7_uy_toNat (by omega)
  have n_B_10_B_63_7_uy_toNat : nEq (B 10) (B (63 + 7 * (uy).toNat)) := hH.ne p_B_10 p_B_63_7_uy_toNat (by omega)
  have n_B_60_7_uy_toNat_B_63_7_uy_toNat : nEq (B (60 + 7 * (uy).toNat)) (B (63 + 7 * (uy).toNat)) := hH.ne p_B_60_7_uy_toNat p_B_63_7_uy_toNat (by omega)
  have n_B_61_7_uy_toNat_B_63_7_uy_toNat : nEq (B (61 + 7 * (uy).toNat)) (B (63 + 7 * (uy).toNat)) := hH.ne p_B_61_7_uy_toNat p_B_63_7_uy_toNat (by omega)
  have n_B_62_7_uy_toNat_B_63_7_uy_toNat : nEq (B (62 + 7 * (uy).toNat)) (B (63 + 7 * (uy).toNat)) := hH.ne p_B_62_7_uy_toNat p_B_63_7_uy_toNat (by omega)
  have p_B_64_7_uy_toNat : P (64 + 7 * (uy).toNat) = some (eI cy 5 (x (1002 + 8 * (uy).toNat))) := (hSH.2.2.2.2.2.2 (uy).toNat hscn).2.2.2.2.1
  have f_B_64_7_uy_toNat : M (B (64 + 7 * (uy).toNat)) = some (eI cy 5 (x (1002 + 8 * (uy).toNat))) := hH.1 _ _ p_B_64_7_uy_toNat
  have n_B_0_B_64_7_uy_toNat : nEq (B 0) (B (64 + 7 * (uy).toNat)) := hH.ne p_B_0 p_B_64_7_uy_toNat (by omega)
  have n_B_10_B_64_7_uy_toNat : nEq (B 10) (B (64 + 7 * (uy).toNat)) := hH.ne p_B_10 p_B_64_7_uy_toNat (by omega)
  have n_B_60_7_uy_toNat_B_64_7_uy_toNat : nEq (B (60 + 7 * (uy).toNat)) (B (64 + 7 * (uy).toNat)) := hH.ne p_B_60_7_uy_toNat p_B_64_7_uy_toNat (by omega)
  have n_B_61_7_uy_toNat_B_64_7_uy_toNat : nEq (B (61 + 7 * (uy).toNat)) (B (64 + 7 * (uy).toNat)) := hH.ne p_B_61_7_uy_toNat p_B_64_7_uy_toNat (by omega)
  have n_B_62_7_uy_toNat_B_64_7_uy_toNat : nEq (B (62 + 7 * (uy).toNat)) (B (64 + 7 * (uy).toNat)) := hH.ne p_B_62_7_uy_toNat p_B_64_7_uy_toNat (by omega)
  have n_B_63_7_uy_toNat_B_64_7_uy_toNat : nEq (B (63 + 7 * (uy).toNat)) (B (64 + 7 * (uy).toNat)) := hH.ne p_B_63_7_uy_toNat p_B_64_7_uy_toNat (by omega)
  have p_B_65_7_uy_toNat : P (65 + 7 * (uy).toNat) = some (eI cy 4 (x (1003 + 8 * (uy).toNat))) := (hSH.2.2.2.2.2.2 (uy).toNat hscn).2.2.2.2.2.1
  have f_B_65_7_uy_toNat : M (B (65 + 7 * (uy).toNat)) = some (eI cy 4 (x (1003 + 8 * (uy).toNat))) := hH.1 _ _ p_B_65_7_uy_toNat
  have n_B_0_B_65_7_uy_toNat : nEq (B 0) (B (65 + 7 * (uy).toNat)) := hH.ne p_B_0 p_B_65_7_uy_toNat (by omega)
  have n_B_10_B_65_7_uy_toNat : nEq (B 10) (B (65 + 7 * (uy).toNat)) := hH.ne p_B_10 p_B_65_7_uy_toNat (by omega)
  have n_B_60_7_uy_toNat_B_65_7_uy_toNat : nEq (B (60 + 7 * (uy).toNat)) (B (65 + 7 * (uy).toNat)) := hH.ne p_B_60_7_uy_toNat p_B_65_7_uy_toNat (by omega)
  have n_B_61_7_uy_toNat_B_65_7_uy_toNat : nEq (B (61 + 7 * (uy).toNat)) (B (65 + 7 * (uy).toNat)) := hH.ne p_B_61_7_uy_toNat p_B_65_7_uy_toNat (by omega)
  have n_B_62_7_uy_toNat_B_65_7_uy_toNat : nEq (B (62 + 7 * (uy).toNat)) (B (65 + 7 * (uy).toNat)) := hH.ne p_B_62_7_uy_toNat p_B_65_7_uy_toNat (by omega)
  have n_B_63_7_uy_toNat_B_65_7_uy_toNat : nEq (B (63 + 7 * (uy).toNat)) (B (65 + 7 * (uy).toNat)) := hH.ne p_B_63_7_uy_toNat p_B_65_7_uy_toNat (by omega)
  have n_B_64_7_uy_toNat_B_65_7_uy_toNat : nEq (B (64 + 7 * (uy).toNat)) (B (65 + 7 * (uy).toNat)) := hH.ne p_B_64_7_uy_toNat p_B_65_7_uy_toNat (by omega)
  have p_B_66_7_uy_toNat : P (66 + 7 * (uy).toNat) = some (eI cy 6 (x (1004 + 8 * (uy).toNat))) := (hSH.2.2.2.2.2.2 (uy).toNat hscn).2.2.2.2.2.2
  have f_B_66_7_uy_toNat : M (B (66 + 7 * (uy).toNat)) = some (eI cy 6 (x (1004 + 8 * (uy).toNat))) := hH.1 _ _ p_B_66_7_uy_toNat
  have n_B_0_B_66_7_uy_toNat : nEq (B 0) (B (66 + 7 * (uy).toNat)) := hH.ne p_B_0 p_B_66_7_uy_toNat (by omega)
  have n_B_10_B_66_7_uy_toNat : nEq (B 10) (B (66 + 7 * (uy).toNat)) := hH.ne p_B_10 p_B_66_7_uy_toNat (by omega)
  have n_B_60_7_uy_toNat_B_66_7_uy_toNat : nEq (B (60 + 7 * (uy).toNat)) (B (66 + 7 * (uy).toNat)) := hH.ne p_B_60_7_uy_toNat p_B_66_7_uy_toNat (by omega)
  have n_B_61_7_uy_toNat_B_66_7_uy_toNat : nEq (B (61 + 7 * (uy).toNat)) (B (66 + 7 * (uy).toNat)) := hH.ne p_B_61_7_uy_toNat p_B_66_7_uy_toNat (by omega)
  have n_B_62_7_uy_toNat_B_66_7_uy_toNat : nEq (B (62 + 7 * (uy).toNat)) (B (66 + 7 * (uy).toNat)) := hH.ne p_B_62_7_uy_toNat p_B_66_7_uy_toNat (by omega)
  have n_B_63_7_uy_toNat_B_66_7_uy_toNat : nEq (B (63 + 7 * (uy).toNat)) (B (66 + 7 * (uy).toNat)) := hH.ne p_B_63_7_uy_toNat p_B_66_7_uy_toNat (by omega)
  have n_B_64_7_uy_toNat_B_66_7_uy_toNat : nEq (B (64 + 7 * (uy).toNat)) (B (66 + 7 * (uy).toNat)) := hH.ne p_B_64_7_uy_toNat p_B_66_7_uy_toNat (by omega)
  have n_B_65_7_uy_toNat_B_66_7_uy_toNat : nEq (B (65 + 7 * (uy).toNat)) (B (66 + 7 * (uy).toNat)) := hH.ne p_B_65_7_uy_toNat p_B_66_7_uy_toNat (by omega)
  have hvv : ∀ j, x (1001 + 8 * (uy).toNat) j ≤ 20 := (fun j => Nat.le_trans (hxm (1001 + 8 * (uy).toNat) j) (Nat.le_of_eq (xm_1 nc (uy).toNat)))
  have hss : ∀ j, x (1002 + 8 * (uy).toNat) j ≤ 8 := (fun j => Nat.le_trans (hxm (1002 + 8 * (uy).toNat) j) (Nat.le_of_eq (xm_2 nc (uy).toNat)))
  have hpp : ∀ j, x (1003 + 8 * (uy).toNat) j ≤ 5 := (fun j => Nat.le_trans (hxm (1003 + 8 * (uy).toNat) j) (Nat.le_of_eq (xm_3 nc (uy).toNat)))
  have hrr : ∀ j, x (1004 + 8 * (uy).toNat) j ≤ 8 := (fun j => Nat.le_trans (hxm (1004 + 8 * (uy).toNat) j) (Nat.le_of_eq (xm_4 nc (uy).toNat)))
  have h13 : x 13 (uy).toNat ≤ 3 := hxm 13 (uy).toNat
  have h12 : x 12 (uy).toNat ≤ 6 := hxm 12 (uy).toNat
  have h11 : x 11 (uy).toNat ≤ 1 := hxm 11 (uy).toNat
  refine vp_callSi (W.runV (C := RX3) (As := []) (rest := []) ⟨hx, hb, hml, hown, hts⟩ (c_X3_worthNow l D cy _ (B (60 + 7 * (uy).toNat)) (B (61 + 7 * (uy).toNat)) (B (64 + 7 * (uy).toNat)) (B (65 + 7 * (uy).toNat)) (B (66 + 7 * (uy).toNat)) (x 10 (uy).toNat) (x 11 (uy).toNat) (x 12 (uy).toNat) (x (1002 + 8 * (uy).toNat)) (x (1003 + 8 * (uy).toNat)) (x (1004 + 8 * (uy).toNat)) (B (62 + 7 * (uy).toNat)) (B (63 + 7 * (uy).toNat)) (x 13 (uy).toNat) (x (1000 + 8 * (uy).toNat)) (x (1001 + 8 * (uy).toNat)) (f_B_60_7_uy_toNat) (f_B_64_7_uy_toNat) (f_B_65_7_uy_toNat) (f_B_66_7_uy_toNat) (f_B_61_7_uy_toNat) (f_B_62_7_uy_toNat) (f_B_63_7_uy_toNat) h13 hvv hpp hss h11) (cwV 0 hts gX5_worth_X3_worthNow rfl rfl rfl (by decide +kernel) ⟨Nat.le_of_ble_eq_true rfl, Nat.le_of_ble_eq_true rfl⟩) (mPreV hK hP f_B_60_7_uy_toNat (ci := 4) rfl) rfl rfl hl.1 rfl (lv_room (Nat.le_of_ble_eq_true rfl)) dX5_worth_5 ⟨Nat.le_of_ble_eq_true rfl, Nat.le_of_ble_eq_true rfl⟩) (fun r9 hr9 => ?_)
  have hr9 : r9 = (zI (worthC (x (1001 + 8 * (uy).toNat)) (x 13 (uy).toNat) (x 11 (uy).toNat) (x (1003 + 8 * (uy).toNat)) (x (1002 + 8 * (uy).toNat)))) := hr9
  subst hr9
  exact vx_ret (e_wi hx hb hr hlocks hP hD hS (⟨by omega, rfl, rfl⟩) dX5_worth_8)

set_option maxRecDepth 100000 in
set_option maxHeartbeats 4000000 in
theorem c_X5_orderAnew (l : Launch) (hst : l.stackTraces = false) (de mi : Nat) (D : va_G) (cy : Nat → ClassId) (M : mM) (sz : Nat) (B : Nat → Nat) (P : Nat → Option va_E) (cn : Nat → Nat) (x : Nat → Nat → Nat) (E : Nat → Nat → Option Nat) (nc : Nat) (y : Int32) (uy : Int)  (hH : hHolds M B P) (hSH : SH de cy B P cn x E) (hN : NB nc cn x) (py : y.toInt = uy) : mVi l yX5_orderAnew wsX5_orderAnew ({ frames := 7, cells := 1, slots := 6, locals := 103 } : Room) de mi D cy M sz [.ref (B 0), .int y] (fun r M' => (0 ≤ uy ∧ uy < cn 3) ∧ r = nI (fewL (x (1004 + 8 * (uy).toNat)) (x 12 (uy).toNat)) ∧ M' = M) (fun E9 => (E9 = "java/lang/IndexOutOfBoundsException" ∧ ¬ (0 ≤ uy ∧ uy < cn 3))) 1 6 := by
  refine mV.of (cc := cX5_orderAnew) (maxL := 2) (ret := (some .int)) (by decide) rfl (Nat.le_of_ble_eq_true rfl) ?_
  intro p e s m args below meth c ls hsz hx hb hr hts hown hlocks hml hout hname hP hD hS hA hK hX hl
  have hl : lv_has ls 2 [(0, .ref (B 0)), (1, .int y)] := hl
  have hown : s.vm.findClass RX5 = some m.cls := hown
  have hwX5 : ∀ w ∈ wsX50, w.before args s = true := fun w h => hts w (List.mem_cons_of_mem _ (List.mem_append_left _ (List.mem_append_left _ (List.mem_append_left _ (List.mem_append_right _ (h))))))
  have hwJx4a65c : ∀ w ∈ wsJx4a65c0, w.before args s = true := fun w h => hts w (List.mem_cons_of_mem _ (List.mem_append_left _ (List.mem_append_left _ (List.mem_append_right _ (h)))))
  have hwX3 : ∀ w ∈ wsX30, w.before args s = true := fun w h => hts w (List.mem_cons_of_mem _ (List.mem_append_left _ (List.mem_append_right _ (h))))
  obtain ⟨hnc9, hc0, hc1, hc2, hc3, hxm⟩ := id hN
  have p_B_0 : P 0 = some (.inr (6, [.ref (B 1), .ref (B 3), .ref (B 6), .ref (B 8), .ref (B 10), .ref (B 12)])) := hSH.1.1
  have f_B_0 : M (B 0) = some (.inr (6, [.ref (B 1), .ref (B 3), .ref (B 6), .ref (B 8), .ref (B 10), .ref (B 12)])) := hH.1 _ _ p_B_0
  have p_B_10 : P 10 = some (.inr (0, [.int (nI (x 1 10)), .ref (B 11), .int (nI (cn 3))])) := hSH.2.2.2.1.1
  have f_B_10 : M (B 10) = some (.inr (0, [.int (nI (x 1 10)), .ref (B 11), .int (nI (cn 3))])) := hH.1 _ _ p_B_10
  have n_B_0_B_10 : nEq (B 0) (B 10) := hH.ne p_B_0 p_B_10 (by omega)
  refine lv_aload_n hx hb dX5_orderAnew_0 rfl (lv_at hl 0 rfl) ?_
  refine lv_iload_n hx hb dX5_orderAnew_1 rfl (lv_at hl 1 rfl) ?_
  obtain ⟨hl1_2, hl2_2, hl3_2, hl4_2⟩ := LI.num hSH.2.2.2.1 hH (ci := 4) (fs := scF B x) (fun j hj => (hSH.2.2.2.2.2.2 j hj).1)
  refine x_callr (vx_runV (C := RX5) (As := [.int y]) (rest := []) ⟨hx, hb, hml, hown, hts⟩ (c_X5_scriptNumbered l hst de mi D cy _ _ (B 0) (B 1) (B 3) (B 6) (B 8) (B 10) (B 12) (B 11) (cn 3) (x 1 10) (x 0 10) (E 10) (fun j => B (60 + 7 * j)) (scF B x) y uy (f_B_0) (f_B_10) hl1_2 hl2_2 hl3_2 hl4_2 py) (cwV 1 hts gX5_orderAnew_X5_scriptNumbered rfl rfl rfl (by decide +kernel) ⟨Nat.le_of_ble_eq_true rfl, Nat.le_of_ble_eq_true rfl⟩) (mPreXV hX hD hS hA hK hP f_B_0 (ci := 6) rfl) rfl rfl hl.1 rfl (lv_room (Nat.le_of_ble_eq_true rfl)) dX5_orderAnew_2 ⟨Nat.le_of_ble_eq_true rfl, Nat.le_of_ble_eq_true rfl⟩) hD hA hS hout hlocks (fun E9 h9 => h9) (Nat.le_of_ble_eq_true rfl) (Nat.le_of_ble_eq_true rfl) (fun r9 Mn H locs hq9 hP hD hS hz9 => ?_)
  obtain ⟨hsc, hr9, hq9⟩ := hq9
  rw [hq9] at hP hD
  have hr9 : r9 = B (60 + 7 * (uy).toNat) := hr9
  rw [hr9]
  have hscn : (uy).toNat < cn 3 := (by omega)
  have p_B_60_7_uy_toNat : P (60 + 7 * (uy).toNat) = some (.inr (4, [.int (nI (x 10 (uy).toNat)), .ref (B (61 + 7 * (uy).toNat)), .int (nI (x 11 (uy).toNat)), .ref (B (64 + 7 * (uy).toNat)), .ref (B (65 + 7 * (uy).toNat)), .ref (B (66 + 7 * (uy).toNat)), .int (nI (x 12 (uy).toNat))])) := (hSH.2.2.2.2.2.2 (uy).toNat hscn).1
  have f_B_60_7_uy_toNat : M (B (60 + 7 * (uy).toNat)) = some (.inr (4, [.int (nI (x 10 (uy).toNat)), .ref (B (61 + 7 * (uy).toNat)), .int (nI (x 11 (uy).toNat)), .ref (B (64 + 7 * (uy).toNat)), .ref (B (65 + 7 * (uy).toNat)), .ref (B (66 + 7 * (uy).toNat)), .int (nI (x 12 (uy).toNat))])) := hH.1 _ _ p_B_60_7_uy_toNat
  have n_B_0_B_60_7_uy_toNat : nEq (B 0) (B (60 + 7 * (uy).toNat)) := hH.ne p_B_0 p_B_60_7_uy_toNat (by omega)
  have n_B_10_B_60_7_uy_toNat : nEq (B 10) (B (60 + 7 * (uy).toNat)) := hH.ne p_B_10 p_B_60_7_uy_toNat (by omega)
  have p_B_61_7_uy_toNat : P (61 + 7 * (uy).toNat) = some (.inr (1, [.ref (B (62 + 7 * (uy).toNat)), .ref (B (63 + 7 * (uy).toNat)), .int (nI (x 13 (uy).toNat))])) := (hSH.2.2.2.2.2.2 (uy).toNat hscn).2.1
  have f_B_61_7_uy_toNat : M (B (61 + 7 * (uy).toNat)) = some (.inr (1, [.ref (B (62 + 7 * (uy).toNat)), .ref (B (63 + 7 * (uy).toNat)), .int (nI (x 13 (uy).toNat))])) := hH.1 _ _ p_B_61_7_uy_toNat
  have n_B_0_B_61_7_uy_toNat : nEq (B 0) (B (61 + 7 * (uy).toNat)) := hH.ne p_B_0 p_B_61_7_uy_toNat (by omega)
  have n_B_10_B_61_7_uy_toNat : nEq (B 10) (B (61 + 7 * (uy).toNat)) := hH.ne p_B_10 p_B_61_7_uy_toNat (by omega)
  have n_B_60_7_uy_toNat_B_61_7_uy_toNat : nEq (B (60 + 7 * (uy).toNat)) (B (61 + 7 * (uy).toNat)) := hH.ne p_B_60_7_uy_toNat p_B_61_7_uy_toNat (by omega)
  have p_B_62_7_uy_toNat : P (62 + 7 * (uy).toNat) = some (eI cy 3 (x (1000 + 8 * (uy).toNat))) := (hSH.2.2.2.2.2.2 (uy).toNat hscn).2.2.1
  have f_B_62_7_uy_toNat : M (B (62 + 7 * (uy).toNat)) = some (eI cy 3 (x (1000 + 8 * (uy).toNat))) := hH.1 _ _ p_B_62_7_uy_toNat
  have n_B_0_B_62_7_uy_toNat : nEq (B 0) (B (62 + 7 * (uy).toNat)) := hH.ne p_B_0 p_B_62_7_uy_toNat (by omega)
  have n_B_10_B_62_7_uy_toNat : nEq (B 10) (B (62 + 7 * (uy).toNat)) := hH.ne p_B_10 p_B_62_7_uy_toNat (by omega)
  have n_B_60_7_uy_toNat_B_62_7_uy_toNat : nEq (B (60 + 7 * (uy).toNat)) (B (62 + 7 * (uy).toNat)) := hH.ne p_B_60_7_uy_toNat p_B_62_7_uy_toNat (by omega)
  have n_B_61_7_uy_toNat_B_62_7_uy_toNat : nEq (B (61 + 7 * (uy).toNat)) (B (62 + 7 * (uy).toNat)) := hH.ne p_B_61_7_uy_toNat p_B_62_7_uy_toNat (by omega)
  have p_B_63_7_uy_toNat : P (63 + 7 * (uy).toNat) = some (eI cy 3 (x (1001 + 8 * (uy).toNat))) := (hSH.2.2.2.2.2.2 (uy).toNat hscn).2.2.2.1
  have f_B_63_7_uy_toNat : M (B (63 + 7 * (uy).toNat)) = some (eI cy 3 (x (1001 + 8 * (uy).toNat))) := hH.1 _ _ p_B_63_7_uy_toNat
  have n_B_0_B_63_7_uy_toNat : nEq (B 0) (B (63 + 7 * (uy).toNat)) := hH.ne p_B_0 p_B_63_7_uy_toNat (by omega)
  have n_B_10_B_63_7_uy_toNat : nEq (B 10) (B (63 + 7 * (uy).toNat)) := hH.ne p_B_10 p_B_63_7_uy_toNat (by omega)
  have n_B_60_7_uy_toNat_B_63_7_uy_toNat : nEq (B (60 + 7 * (uy).toNat)) (B (63 + 7 * (uy).toNat)) := hH.ne p_B_60_7_uy_toNat p_B_63_7_uy_toNat (by omega)
  have n_B_61_7_uy_toNat_B_63_7_uy_toNat : nEq (B (61 + 7 * (uy).toNat)) (B (63 + 7 * (uy).toNat)) := hH.ne p_B_61_7_uy_toNat p_B_63_7_uy_toNat (by omega)
  have n_B_62_7_uy_toNat_B_63_7_uy_toNat : nEq (B (62 + 7 * (uy).toNat)) (B (63 + 7 * (uy).toNat)) := hH.ne p_B_62_7_uy_toNat p_B_63_7_uy_toNat (by omega)
  have p_B_64_7_uy_toNat : P (64 + 7 * (uy).toNat) = some (eI cy 5 (x (1002 + 8 * (uy).toNat))) := (hSH.2.2.2.2.2.2 (uy).toNat hscn).2.2.2.2.1
  have f_B_64_7_uy_toNat : M (B (64 + 7 * (uy).toNat)) = some (eI cy 5 (x (1002 + 8 * (uy).toNat))) := hH.1 _ _ p_B_64_7_uy_toNat
  have n_B_0_B_64_7_uy_toNat : nEq (B 0) (B (64 + 7 * (uy).toNat)) := hH.ne p_B_0 p_B_64_7_uy_toNat (by omega)
  have n_B_10_B_64_7_uy_toNat : nEq (B 10) (B (64 + 7 * (uy).toNat)) := hH.ne p_B_10 p_B_64_7_uy_toNat (by omega)
  have n_B_60_7_uy_toNat_B_64_7_uy_toNat : nEq (B (60 + 7 * (uy).toNat)) (B (64 + 7 * (uy).toNat)) := hH.ne p_B_60_7_uy_toNat p_B_64_7_uy_toNat (by omega)
  have n_B_61_7_uy_toNat_B_64_7_uy_toNat : nEq (B (61 + 7 * (uy).toNat)) (B (64 + 7 * (uy).toNat)) := hH.ne p_B_61_7_uy_toNat p_B_64_7_uy_toNat (by omega)
  have n_B_62_7_uy_toNat_B_64_7_uy_toNat : nEq (B (62 + 7 * (uy).toNat)) (B (64 + 7 * (uy).toNat)) := hH.ne p_B_62_7_uy_toNat p_B_64_7_uy_toNat (by omega)
  have n_B_63_7_uy_toNat_B_64_7_uy_toNat : nEq (B (63 + 7 * (uy).toNat)) (B (64 + 7 * (uy).toNat)) := hH.ne p_B_63_7_uy_toNat p_B_64_7_uy_toNat (by omega)
  have p_B_65_7_uy_toNat : P (65 + 7 * (uy).toNat) = some (eI cy 4 (x (1003 + 8 * (uy).toNat))) := (hSH.2.2.2.2.2.2 (uy).toNat hscn).2.2.2.2.2.1
  have f_B_65_7_uy_toNat : M (B (65 + 7 * (uy).toNat)) = some (eI cy 4 (x (1003 + 8 * (uy).toNat))) := hH.1 _ _ p_B_65_7_uy_toNat
  have n_B_0_B_65_7_uy_toNat : nEq (B 0) (B (65 + 7 * (uy).toNat)) := hH.ne p_B_0 p_B_65_7_uy_toNat (by omega)
  have n_B_10_B_65_7_uy_toNat : nEq (B 10) (B (65 + 7 * (uy).toNat)) := hH.ne p_B_10 p_B_65_7_uy_toNat (by omega)
  have n_B_60_7_uy_toNat_B_65_7_uy_toNat : nEq (B (60 + 7 * (uy).toNat)) (B (65 + 7 * (uy).toNat)) := hH.ne p_B_60_7_uy_toNat p_B_65_7_uy_toNat (by omega)
  have n_B_61_7_uy_toNat_B_65_7_uy_toNat : nEq (B (61 + 7 * (uy).toNat)) (B (65 + 7 * (uy).toNat)) := hH.ne p_B_61_7_uy_toNat p_B_65_7_uy_toNat (by omega)
  have n_B_62_7_uy_toNat_B_65_7_uy_toNat : nEq (B (62 + 7 * (uy).toNat)) (B (65 + 7 * (uy).toNat)) := hH.ne p_B_62_7_uy_toNat p_B_65_7_uy_toNat (by omega)
  have n_B_63_7_uy_toNat_B_65_7_uy_toNat : nEq (B (63 + 7 * (uy).toNat)) (B (65 + 7 * (uy).toNat)) := hH.ne p_B_63_7_uy_toNat p_B_65_7_uy_toNat (by omega)
  have n_B_64_7_uy_toNat_B_65_7_uy_toNat : nEq (B (64 + 7 * (uy).toNat)) (B (65 + 7 * (uy).toNat)) := hH.ne p_B_64_7_uy_toNat p_B_65_7_uy_toNat (by omega)
  have p_B_66_7_uy_toNat : P (66 + 7 * (uy).toNat) = some (eI cy 6 (x (1004 + 8 * (uy).toNat))) := (hSH.2.2.2.2.2.2 (uy).toNat hscn).2.2.2.2.2.2
  have f_B_66_7_uy_toNat : M (B (66 + 7 * (uy).toNat)) = some (eI cy 6 (x (1004 + 8 * (uy).toNat))) := hH.1 _ _ p_B_66_7_uy_toNat
  have n_B_0_B_66_7_uy_toNat : nEq (B 0) (B (66 + 7 * (uy).toNat)) := hH.ne p_B_0 p_B_66_7_uy_toNat (by omega)
  have n_B_10_B_66_7_uy_toNat : nEq (B 10) (B (66 + 7 * (uy).toNat)) := hH.ne p_B_10 p_B_66_7_uy_toNat (by omega)
  have n_B_60_7_uy_toNat_B_66_7_uy_toNat : nEq (B (60 + 7 * (uy).toNat)) (B (66 + 7 * (uy).toNat)) := hH.ne p_B_60_7_uy_toNat p_B_66_7_uy_toNat (by omega)
  have n_B_61_7_uy_toNat_B_66_7_uy_toNat : nEq (B (61 + 7 * (uy).toNat)) (B (66 + 7 * (uy).toNat)) := hH.ne p_B_61_7_uy_toNat p_B_66_7_uy_toNat (by omega)
  have n_B_62_7_uy_toNat_B_66_7_uy_toNat : nEq (B (62 + 7 * (uy).toNat)) (B (66 + 7 * (uy).toNat)) := hH.ne p_B_62_7_uy_toNat p_B_66_7_uy_toNat (by omega)
  have n_B_63_7_uy_toNat_B_66_7_uy_toNat : nEq (B (63 + 7 * (uy).toNat)) (B (66 + 7 * (uy).toNat)) := hH.ne p_B_63_7_uy_toNat p_B_66_7_uy_toNat (by omega)
  have n_B_64_7_uy_toNat_B_66_7_uy_toNat : nEq (B (64 + 7 * (uy).toNat)) (B (66 + 7 * (uy).toNat)) := hH.ne p_B_64_7_uy_toNat p_B_66_7_uy_toNat (by omega)
  have n_B_65_7_uy_toNat_B_66_7_uy_toNat : nEq (B (65 + 7 * (uy).toNat)) (B (66 + 7 * (uy).toNat)) := hH.ne p_B_65_7_uy_toNat p_B_66_7_uy_toNat (by omega)
  have hvv : ∀ j, x (1001 + 8 * (uy).toNat) j ≤ 20 := (fun j => Nat.le_trans (hxm (1001 + 8 * (uy).toNat) j) (Nat.le_of_eq (xm_1 nc (uy).toNat)))
  have hss : ∀ j, x (1002 + 8 * (uy).toNat) j ≤ 8 := (fun j => Nat.le_trans (hxm (1002 + 8 * (uy).toNat) j) (Nat.le_of_eq (xm_2 nc (uy).toNat)))
  have hpp : ∀ j, x (1003 + 8 * (uy).toNat) j ≤ 5 := (fun j => Nat.le_trans (hxm (1003 + 8 * (uy).toNat) j) (Nat.le_of_eq (xm_3 nc (uy).toNat)))
  have hrr : ∀ j, x (1004 + 8 * (uy).toNat) j ≤ 8 := (fun j => Nat.le_trans (hxm (1004 + 8 * (uy).toNat) j) (Nat.le_of_eq (xm_4 nc (uy).toNat)))
  have h13 : x 13 (uy).toNat ≤ 3 := hxm 13 (uy).toNat
  have h12 : x 12 (uy).toNat ≤ 6 := hxm 12 (uy).toNat
  have h11 : x 11 (uy).toNat ≤ 1 := hxm 11 (uy).toNat
  refine vp_callSi (W.runV (C := RX3) (As := []) (rest := []) ⟨hx, hb, hml, hown, hts⟩ (c_X3_fewestLeftOut l D cy _ (B (60 + 7 * (uy).toNat)) (B (61 + 7 * (uy).toNat)) (B (64 + 7 * (uy).toNat)) (B (65 + 7 * (uy).toNat)) (B (66 + 7 * (uy).toNat)) (x 10 (uy).toNat) (x 11 (uy).toNat) (x 12 (uy).toNat) (x (1002 + 8 * (uy).toNat)) (x (1003 + 8 * (uy).toNat)) (x (1004 + 8 * (uy).toNat)) (f_B_60_7_uy_toNat) (f_B_64_7_uy_toNat) (f_B_65_7_uy_toNat) (f_B_66_7_uy_toNat) h12 hrr) (cwV 0 hts gX5_orderAnew_X3_fewestLeftOut rfl rfl rfl (by decide +kernel) ⟨Nat.le_of_ble_eq_true rfl, Nat.le_of_ble_eq_true rfl⟩) (mPreV hK hP f_B_60_7_uy_toNat (ci := 4) rfl) rfl rfl hl.1 rfl (lv_room (Nat.le_of_ble_eq_true rfl)) dX5_orderAnew_5 ⟨Nat.le_of_ble_eq_true rfl, Nat.le_of_ble_eq_true rfl⟩) (fun r9 hr9 => ?_)
  have hr9 : r9 = (nI (fewL (x (1004 + 8 * (uy).toNat)) (x 12 (uy).toNat))) := hr9
  subst hr9
  exact vx_ret (e_wi hx hb hr hlocks hP hD hS (⟨by omega, rfl, rfl⟩) dX5_orderAnew_8)
