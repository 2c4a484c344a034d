set_option maxRecDepth 100000 in
set_option maxHeartbeats 4000000 in
theorem c_X5_mark (l : Launch) (hst : l.stackTraces = false) (de mi : Nat) (D : va_G) (cy : Nat → ClassId) (M : mM) (sz : Nat) (B : Nat → Nat) (P : Nat → Option va_E) (cn : Nat → Nat) (x : Nat → Nat → Nat) (E : Nat → Nat → Option Nat) (nc : Nat) (y : Int32) (uy : Int) (z : Int32) (uz : Int) (t : Int32) (ut : Int)  (hH : hHolds M B P) (hSH : SH de cy B P cn x E) (hN : NB nc cn x) (py : y.toInt = uy) (pz : z.toInt = uz) (pt : t.toInt = ut) (h3m : ∀ s, s < cn 3 → x 13 s = 3 → lackC (x (1001 + 8 * s)) 3 = 0) : mVi l yX5_mark wsX5_mark ({ frames := 7, cells := 4, slots := 24, locals := 103 } : Room) de mi D cy M sz [.ref (B 0), .int y, .int z, .int t] (fun r M' => (((0 ≤ uy ∧ uy < 6) ∧ 0 ≤ uz ∧ uz < cn 3) ∧ (0 ≤ ut ∧ ut ≤ 20) ∧ x 5 uy.toNat = 0 ∧ hasC (x (1000 + 8 * (uz).toNat)) uy.toNat (x 13 (uz).toNat) = false ∧ lackC (x (1001 + 8 * (uz).toNat)) (x 13 (uz).toNat) ≠ 0) ∧ r = nI (x 13 (uz).toNat + 1) ∧ ∃ (B9 : Nat → Nat) (P9 : Nat → Option va_E) (E9 : Nat → Nat → Option Nat), hHolds M' B9 P9 ∧ SH de cy B9 P9 (cn) (va_up (va_up (va_up x (1000 + 8 * (uz).toNat) (va_up (x (1000 + 8 * (uz).toNat)) (x 13 (uz).toNat) uy.toNat)) (1001 + 8 * (uz).toNat) (va_up (x (1001 + 8 * (uz).toNat)) (x 13 (uz).toNat) ut.toNat)) 13 (va_up (x 13) (uz).toNat (x 13 (uz).toNat + 1))) E9 ∧ B9 0 = B 0) (fun E9 => (E9 = "java/lang/IndexOutOfBoundsException" ∧ ¬ ((0 ≤ uy ∧ uy < 6) ∧ 0 ≤ uz ∧ uz < cn 3)) ∨ (E9 = "java/lang/IllegalArgumentException" ∧ ((0 ≤ uy ∧ uy < 6) ∧ 0 ≤ uz ∧ uz < cn 3) ∧ ¬ (0 ≤ ut ∧ ut ≤ 20)) ∨ (E9 = "java/lang/IllegalStateException" ∧ ((0 ≤ uy ∧ uy < 6) ∧ 0 ≤ uz ∧ uz < cn 3) ∧ (0 ≤ ut ∧ ut ≤ 20) ∧ ¬ (x 5 uy.toNat = 0 ∧ hasC (x (1000 + 8 * (uz).toNat)) uy.toNat (x 13 (uz).toNat) = false ∧ lackC (x (1001 + 8 * (uz).toNat)) (x 13 (uz).toNat) ≠ 0))) 4 24 := by
  refine mV.of (cc := cX5_mark) (maxL := 5) (ret := (some .int)) (by decide) rfl (Nat.le_of_ble_eq_true rfl) ?_
  intro p e s m args below meth c ls hsz hx hb hr hts hown hlocks hml hout hname hP hD hS hA hK hX hl
  have hl : lv_has ls 5 [(0, .ref (B 0)), (1, .int y), (2, .int z), (3, .int t)] := hl
  have hown : s.vm.findClass RX5 = some m.cls := hown
  have hwX3 : ∀ w ∈ wsX30, w.before args s = true := fun w h => hts w (List.mem_cons_of_mem _ (List.mem_append_left _ (List.mem_append_left _ (List.mem_append_left _ (List.mem_append_left _ (List.mem_append_left _ (List.mem_append_left _ (List.mem_append_right _ (h)))))))))
  have hwX5 : ∀ w ∈ wsX50, w.before args s = true := fun w h => hts w (List.mem_cons_of_mem _ (List.mem_append_left _ (List.mem_append_left _ (List.mem_append_left _ (List.mem_append_left _ (List.mem_append_left _ (List.mem_append_right _ (h))))))))
  have hwJx4a65c : ∀ w ∈ wsJx4a65c0, w.before args s = true := fun w h => hts w (List.mem_cons_of_mem _ (List.mem_append_left _ (List.mem_append_left _ (List.mem_append_left _ (List.mem_append_left _ (List.mem_append_right _ (h)))))))
  have hwX0 : ∀ w ∈ wsX00, w.before args s = true := fun w h => hts w (List.mem_cons_of_mem _ (List.mem_append_left _ (List.mem_append_left _ (List.mem_append_left _ (List.mem_append_right _ (h))))))
  obtain ⟨hnc9, hc0, hc1, hc2, hc3, hxm⟩ := id hN
  have p_B_0 : P 0 = some (.inr (6, [.ref (B 1), .ref (B 3), .ref (B 6), .ref (B 8), .ref (B 10), .ref (B 12)])) := hSH.1.1
  have f_B_0 : M (B 0) = some (.inr (6, [.ref (B 1), .ref (B 3), .ref (B 6), .ref (B 8), .ref (B 10), .ref (B 12)])) := hH.1 _ _ p_B_0
  have p_B_10 : P 10 = some (.inr (0, [.int (nI (x 1 10)), .ref (B 11), .int (nI (cn 3))])) := hSH.2.2.2.1.1
  have f_B_10 : M (B 10) = some (.inr (0, [.int (nI (x 1 10)), .ref (B 11), .int (nI (cn 3))])) := hH.1 _ _ p_B_10
  have n_B_0_B_10 : nEq (B 0) (B 10) := hH.ne p_B_0 p_B_10 (by omega)
  have p_B_12 : P 12 = some (eZ cy 6 (x 5)) := hSH.1.2.2.2.2.2.2
  have f_B_12 : M (B 12) = some (eZ cy 6 (x 5)) := hH.1 _ _ p_B_12
  have n_B_0_B_12 : nEq (B 0) (B 12) := hH.ne p_B_0 p_B_12 (by omega)
  have n_B_10_B_12 : nEq (B 10) (B 12) := hH.ne p_B_10 p_B_12 (by omega)
  refine lv_iload_n hx hb dX5_mark_0 rfl (lv_at hl 1 rfl) ?_
  refine x_callv (vx_runS (As := [.int y]) (rest := []) ⟨hx, hb, hml, hown, hts⟩ (c_X5_checkExaminer l hst de mi D cy _ _ y uy py) (va_cwS 1 hts gX5_mark_X5_checkExaminer rfl rfl rfl (by decide +kernel) ⟨Nat.le_of_ble_eq_true rfl, Nat.le_of_ble_eq_true rfl⟩) (mPreXS hX hD hS hA hK hP) rfl rfl hl.1 rfl (lv_room (Nat.le_of_ble_eq_true rfl)) dX5_mark_1 ⟨Nat.le_of_ble_eq_true rfl, Nat.le_of_ble_eq_true rfl⟩) hD hA hS hout hlocks (fun E9 h9 => Or.inl ⟨h9.1, fun h8 => h9.2 h8.1⟩) (Nat.le_of_ble_eq_true rfl) (Nat.le_of_ble_eq_true rfl) (fun Mn H locs hq9 hP hD hS hz9 => ?_)
  obtain ⟨hck_1, hq9⟩ := hq9
  rw [hq9] at hP hD
  refine lv_aload_n hx hb dX5_mark_4 rfl (lv_at hl 0 rfl) ?_
  refine lv_iload_n hx hb dX5_mark_5 rfl (lv_at hl 2 rfl) ?_
  obtain ⟨hl1_6, hl2_6, hl3_6, hl4_6⟩ := LI.num hSH.2.2.2.1 hH (ci := 4) (fs := scF B x) (fun j hj => (hSH.2.2.2.2.2.2 j hj).1)
  refine x_callr (vx_runV (C := RX5) (As := [.int z]) (rest := []) ⟨hx, hb, hml, hown, hts⟩ (c_X5_scriptNumbered l hst de mi D cy _ _ (B 0) (B 1) (B 3) (B 6) (B 8) (B 10) (B 12) (B 11) (cn 3) (x 1 10) (x 0 10) (E 10) (fun j => B (60 + 7 * j)) (scF B x) z uz (f_B_0) (f_B_10) hl1_6 hl2_6 hl3_6 hl4_6 pz) (cwV 1 hts gX5_mark_X5_scriptNumbered rfl rfl rfl (by decide +kernel) ⟨Nat.le_of_ble_eq_true rfl, Nat.le_of_ble_eq_true rfl⟩) (mPreXV hX hD hS hA hK hP f_B_0 (ci := 6) rfl) rfl rfl hl.1 rfl (lv_room (Nat.le_of_ble_eq_true rfl)) dX5_mark_6 ⟨Nat.le_of_ble_eq_true rfl, Nat.le_of_ble_eq_true rfl⟩) hD hA hS hout hlocks (fun E9 h9 => Or.inl ⟨h9.1, fun h8 => h9.2 h8.2⟩) (Nat.le_of_ble_eq_true rfl) (Nat.le_of_ble_eq_true rfl) (fun r9 Mn H locs hq9 hP hD hS hz9 => ?_)
  obtain ⟨hsc, hr9, hq9⟩ := hq9
  rw [hq9] at hP hD
  have hr9 : r9 = B (60 + 7 * (uz).toNat) := hr9
  rw [hr9]
  have hscn : (uz).toNat < cn 3 := (by omega)
  have p_B_60_7_uz_toNat : P (60 + 7 * (uz).toNat) = some (.inr (4, [.int (nI (x 10 (uz).toNat)), .ref (B (61 + 7 * (uz).toNat)), .int (nI (x 11 (uz).toNat)), .ref (B (64 + 7 * (uz).toNat)), .ref (B (65 + 7 * (uz).toNat)), .ref (B (66 + 7 * (uz).toNat)), .int (nI (x 12 (uz).toNat))])) := (hSH.2.2.2.2.2.2 (uz).toNat hscn).1
  have f_B_60_7_uz_toNat : M (B (60 + 7 * (uz).toNat)) = some (.inr (4, [.int (nI (x 10 (uz).toNat)), .ref (B (61 + 7 * (uz).toNat)), .int (nI (x 11 (uz).toNat)), .ref (B (64 + 7 * (uz).toNat)), .ref (B (65 + 7 * (uz).toNat)), .ref (B (66 + 7 * (uz).toNat)), .int (nI (x 12 (uz).toNat))])) := hH.1 _ _ p_B_60_7_uz_toNat
  have n_B_0_B_60_7_uz_toNat : nEq (B 0) (B (60 + 7 * (uz).toNat)) := hH.ne p_B_0 p_B_60_7_uz_toNat (by omega)
  have n_B_10_B_60_7_uz_toNat : nEq (B 10) (B (60 + 7 * (uz).toNat)) := hH.ne p_B_10 p_B_60_7_uz_toNat (by omega)
  have n_B_12_B_60_7_uz_toNat : nEq (B 12) (B (60 + 7 * (uz).toNat)) := hH.ne p_B_12 p_B_60_7_uz_toNat (by omega)
  have p_B_61_7_uz_toNat : P (61 + 7 * (uz).toNat) = some (.inr (1, [.ref (B (62 + 7 * (uz).toNat)), .ref (B (63 + 7 * (uz).toNat)), .int (nI (x 13 (uz).toNat))])) := (hSH.2.2.2.2.2.2 (uz).toNat hscn).2.1
  have f_B_61_7_uz_toNat : M (B (61 + 7 * (uz).toNat)) = some (.inr (1, [.ref (B (62 + 7 * (uz).toNat)), .ref (B (63 + 7 * (uz).toNat)), .int (nI (x 13 (uz).toNat))])) := hH.1 _ _ p_B_61_7_uz_toNat
  have n_B_0_B_61_7_uz_toNat : nEq (B 0) (B (61 + 7 * (uz).toNat)) := hH.ne p_B_0 p_B_61_7_uz_toNat (by omega)
  have n_B_10_B_61_7_uz_toNat : nEq (B 10) (B (61 + 7 * (uz).toNat)) := hH.ne p_B_10 p_B_61_7_uz_toNat (by omega)
  have n_B_12_B_61_7_uz_toNat : nEq (B 12) (B (61 + 7 * (uz).toNat)) := hH.ne p_B_12 p_B_61_7_uz_toNat (by omega)
  have n_B_60_7_uz_toNat_B_61_7_uz_toNat : nEq (B (60 + 7 * (uz).toNat)) (B (61 + 7 * (uz).toNat)) := hH.ne p_B_60_7_uz_toNat p_B_61_7_uz_toNat (by omega)
  have p_B_62_7_uz_toNat : P (62 + 7 * (uz).toNat) = some (eI cy 3 (x (1000 + 8 * (uz).toNat))) := (hSH.2.2.2.2.2.2 (uz).toNat hscn).2.2.1
  have f_B_62_7_uz_toNat : M (B (62 + 7 * (uz).toNat)) = some (eI cy 3 (x (1000 + 8 * (uz).toNat))) := hH.1 _ _ p_B_62_7_uz_toNat
  have n_B_0_B_62_7_uz_toNat : nEq (B 0) (B (62 + 7 * (uz).toNat)) := hH.ne p_B_0 p_B_62_7_uz_toNat (by omega)
  have n_B_10_B_62_7_uz_toNat : nEq (B 10) (B (62 + 7 * (uz).toNat)) := hH.ne p_B_10 p_B_62_7_uz_toNat (by omega)
  have n_B_12_B_62_7_uz_toNat : nEq (B 12) (B (62 + 7 * (uz).toNat)) := hH.ne p_B_12 p_B_62_7_uz_toNat (by omega)
  have n_B_60_7_uz_toNat_B_62_7_uz_toNat : nEq (B (60 + 7 * (uz).toNat)) (B (62 + 7 * (uz).toNat)) := hH.ne p_B_60_7_uz_toNat p_B_62_7_uz_toNat (by omega)
  have n_B_61_7_uz_toNat_B_62_7_uz_toNat : nEq (B (61 + 7 * (uz).toNat)) (B (62 + 7 * (uz).toNat)) := hH.ne p_B_61_7_uz_toNat p_B_62_7_uz_toNat (by omega)
  have p_B_63_7_uz_toNat : P (63 + 7 * (uz).toNat) = some (eI cy 3 (x (1001 + 8 * (uz).toNat))) := (hSH.2.2.2.2.2.2 (uz).toNat hscn).2.2.2.1
  have f_B_63_7_uz_toNat : M (B (63 + 7 * (uz).toNat)) = some (eI cy 3 (x (1001 + 8 * (uz).toNat))) := hH.1 _ _ p_B_63_7_uz_toNat
  have n_B_0_B_63_7_uz_toNat : nEq (B 0) (B (63 + 7 * (uz).toNat)) := hH.ne p_B_0 p_B_63_7_uz_toNat (by omega)
  have n_B_10_B_63_7_uz_toNat : nEq (B 10) (B (63 + 7 * (uz).toNat)) := hH.ne p_B_10 p_B_63_7_uz_toNat (by omega)
  have n_B_12_B_63_7_uz_toNat : nEq (B 12) (B (63 + 7 * (uz).toNat)) := hH.ne p_B_12 p_B_63_7_uz_toNat (by omega)
  have n_B_60_7_uz_toNat_B_63_7_uz_toNat : nEq (B (60 + 7 * (uz).toNat)) (B (63 + 7 * (uz).toNat)) := hH.ne p_B_60_7_uz_toNat p_B_63_7_uz_toNat (by omega)
  have n_B_61_7_uz_toNat_B_63_7_uz_toNat : nEq (B (61 + 7 * (uz).toNat)) (B (63 + 7 * (uz).toNat)) := hH.ne p_B_61_7_uz_toNat p_B_63_7_uz_toNat (by omega)
  have n_B_62_7_uz_toNat_B_63_7_uz_toNat : nEq (B (62 + 7 * (uz).toNat)) (B (63 + 7 * (uz).toNat)) := hH.ne p_B_62_7_uz_toNat p_B_63_7_uz_toNat (by omega)
  have p_B_64_7_uz_toNat : P (64 + 7 * (uz).toNat) = some (eI cy 5 (x (1002 + 8 * (uz).toNat))) := (hSH.2.2.2.2.2.2 (uz).toNat hscn).2.2.2.2.1
  have f_B_64_7_uz_toNat : M (B (64 + 7 * (uz).toNat)) = some (eI cy 5 (x (1002 + 8 * (uz).toNat))) := hH.1 _ _ p_B_64_7_uz_toNat
  have n_B_0_B_64_7_uz_toNat : nEq (B 0) (B (64 + 7 * (uz).toNat)) := hH.ne p_B_0 p_B_64_7_uz_toNat (by omega)
  have n_B_10_B_64_7_uz_toNat : nEq (B 10) (B (64 + 7 * (uz).toNat)) := hH.ne p_B_10 p_B_64_7_uz_toNat (by omega)
  have n_B_12_B_64_7_uz_toNat : nEq (B 12) (B (64 + 7 * (uz).toNat)) := hH.ne p_B_12 p_B_64_7_uz_toNat (by omega)
  have n_B_60_7_uz_toNat_B_64_7_uz_toNat : nEq (B (60 + 7 * (uz).toNat)) (B (64 + 7 * (uz).toNat)) := hH.ne p_B_60_7_uz_toNat p_B_64_7_uz_toNat (by omega)
  have n_B_61_7_uz_toNat_B_64_7_uz_toNat : nEq (B (61 + 7 * (uz).toNat)) (B (64 + 7 * (uz).toNat)) := hH.ne p_B_61_7_uz_toNat p_B_64_7_uz_toNat (by omega)
  have n_B_62_7_uz_toNat_B_64_7_uz_toNat : nEq (B (62 + 7 * (uz).toNat)) (B (64 + 7 * (uz).toNat)) := hH.ne p_B_62_7_uz_toNat p_B_64_7_uz_toNat (by omega)
  have n_B_63_7_uz_toNat_B_64_7_uz_toNat : nEq (B (63 + 7 * (uz).toNat)) (B (64 + 7 * (uz).toNat)) := hH.ne p_B_63_7_uz_toNat p_B_64_7_uz_toNat (by omega)
  have p_B_65_7_uz_toNat : P (65 + 7 * (uz).toNat) = some (eI cy 4 (x (1003 + 8 * (uz).toNat))) := (hSH.2.2.2.2.2.2 (uz).toNat hscn).2.2.2.2.2.1
  have f_B_65_7_uz_toNat : M (B (65 + 7 * (uz).toNat)) = some (eI cy 4 (x (1003 + 8 * (uz).toNat))) := hH.1 _ _ p_B_65_7_uz_toNat
  have n_B_0_B_65_7_uz_toNat : nEq (B 0) (B (65 + 7 * (uz).toNat)) := hH.ne p_B_0 p_B_65_7_uz_toNat (by omega)
  have n_B_10_B_65_7_uz_toNat : nEq (B 10) (B (65 + 7 * (uz).toNat)) := hH.ne p_B_10 p_B_65_7_uz_toNat (by omega)
  have n_B_12_B_65_7_uz_toNat : nEq (B 12) (B (65 + 7 * (uz).toNat)) := hH.ne p_B_12 p_B_65_7_uz_toNat (by omega)
  have n_B_60_7_uz_toNat_B_65_7_uz_toNat : nEq (B (60 + 7 * (uz).toNat)) (B (65 + 7 * (uz).toNat)) := hH.ne p_B_60_7_uz_toNat p_B_65_7_uz_toNat (by omega)
  have n_B_61_7_uz_toNat_B_65_7_uz_toNat : nEq (B (61 + 7 * (uz).toNat)) (B (65 + 7 * (uz).toNat)) := hH.ne p_B_61_7_uz_toNat p_B_65_7_uz_toNat (by omega)
  have n_B_62_7_uz_toNat_B_65_7_uz_toNat : nEq (B (62 + 7 * (uz).toNat)) (B (65 + 7 * (uz).toNat)) := hH.ne p_B_62_7_uz_toNat p_B_65_7_uz_toNat (by omega)
  have n_B_63_7_uz_toNat_B_65_7_uz_toNat : nEq (B (63 + 7 * (uz).toNat)) (B (65 + 7 * (uz).toNat)) := hH.ne p_B_63_7_uz_toNat p_B_65_7_uz_toNat (by omega)
  have n_B_64_7_uz_toNat_B_65_7_uz_toNat : nEq (B (64 + 7 * (uz).toNat)) (B (65 + 7 * (uz).toNat)) := hH.ne p_B_64_7_uz_toNat p_B_65_7_uz_toNat (by omega)
  have p_B_66_7_uz_toNat : P (66 + 7 * (uz).toNat) = some (eI cy 6 (x (1004 + 8 * (uz).toNat))) := (hSH.2.2.2.2.2.2 (uz).toNat hscn).2.2.2.2.2.2
  have f_B_66_7_uz_toNat : M (B (66 + 7 * (uz).toNat)) = some (eI cy 6 (x (1004 + 8 * (uz).toNat))) := hH.1 _ _ p_B_66_7_uz_toNat
  have n_B_0_B_66_7_uz_toNat : nEq (B 0) (B (66 + 7 * (uz).toNat)) := hH.ne p_B_0 p_B_66_7_uz_toNat (by omega)
  have n_B_10_B_66_7_uz_toNat : nEq (B 10) (B (66 + 7 * (uz).toNat)) := hH.ne p_B_10 p_B_66_7_uz_toNat (by omega)
  have n_B_12_B_66_7_uz_toNat : nEq (B 12) (B (66 + 7 * (uz).toNat)) := hH.ne p_B_12 p_B_66_7_uz_toNat (by omega)
  have n_B_60_7_uz_toNat_B_66_7_uz_toNat : nEq (B (60 + 7 * (uz).toNat)) (B (66 + 7 * (uz).toNat)) := hH.ne p_B_60_7_uz_toNat p_B_66_7_uz_toNat (by omega)
  have n_B_61_7_uz_toNat_B_66_7_uz_toNat : nEq (B (61 + 7 * (uz).toNat)) (B (66 + 7 * (uz).toNat)) := hH.ne p_B_61_7_uz_toNat p_B_66_7_uz_toNat (by omega)
  have n_B_62_7_uz_toNat_B_66_7_uz_toNat : nEq (B (62 + 7 * (uz).toNat)) (B (66 + 7 * (uz).toNat)) := hH.ne p_B_62_7_uz_toNat p_B_66_7_uz_toNat (by omega)
  have n_B_63_7_uz_toNat_B_66_7_uz_toNat : nEq (B (63 + 7 * (uz).toNat)) (B (66 + 7 * (uz).toNat)) := hH.ne p_B_63_7_uz_toNat p_B_66_7_uz_toNat (by omega)
  have n_B_64_7_uz_toNat_B_66_7_uz_toNat : nEq (B (64 + 7 * (uz).toNat)) (B (66 + 7 * (uz).toNat)) := hH.ne p_B_64_7_uz_toNat p_B_66_7_uz_toNat (by omega)
  have n_B_65_7_uz_toNat_B_66_7_uz_toNat : nEq (B (65 + 7 * (uz).toNat)) (B (66 + 7 * (uz).toNat)) := hH.ne p_B_65_7_uz_toNat p_B_66_7_uz_toNat (by omega)
  refine m_get (T := TX3) (N := 7) (ci := 4) (fs := [.int (nI (x 10 (uz).toNat)), .ref (B (61 + 7 * (uz).toNat)), .int (nI (x 11 (uz).toNat)), .ref (B (64 + 7 * (uz).toNat)), .ref (B (65 + 7 * (uz).toNat)), .ref (B (66 + 7 * (uz).toNat)), .int (nI (x 12 (uz).toNat))]) hx hb hwX3 hown hK hP f_B_60_7_uz_toNat rfl 1 (by decide) (hts _ (List.mem_of_getElem? (i := 5) rfl)) (v := .ref (B (61 + 7 * (uz).toNat))) rfl dX5_mark_9 ?_
  refine lv_astore (lv' := [(4, .ref (B (61 + 7 * (uz).toNat))), (0, .ref (B 0)), (1, .int y), (2, .int z), (3, .int t)]) hx hb dX5_mark_12 hl (by decide) rfl (fun ls hl => ?_)
  refine lv_iload_n hx hb dX5_mark_14 rfl (lv_at hl 4 rfl) ?_
  refine z_if_lt (u := ut) (tgt := 24) hx hb (pt) dX5_mark_15 (by decide) (fun c_15 => ?_) (fun c_15 => ?_)
  · exact e_thS (text := "a mark is 0 to 20") hx hb hst hown (by decide) (hts _ (List.mem_of_getElem? (i := 1) rfl)) (hts _ (List.mem_of_getElem? (i := 2) rfl)) (fun w h => hts w (List.mem_cons_of_mem _ (List.mem_append_left _ (List.mem_append_left _ (List.mem_append_right _ (h)))))) ng_A gd_A (by decide +kernel) hX hP hS (hl.1.trans hml.symm) dX5_mark_24 dX5_mark_27 dX5_mark_28 dX5_mark_30 dX5_mark_33 hout (Nat.le_of_ble_eq_true rfl) (Nat.le_of_ble_eq_true rfl) (Nat.le_of_ble_eq_true rfl) (Nat.le_of_ble_eq_true rfl) hlocks (Or.inr (Or.inl ⟨rfl, by omega, by omega⟩)) (Nat.le_of_ble_eq_true rfl) (Nat.le_of_ble_eq_true rfl)
  · refine lv_iload_n hx hb dX5_mark_18 rfl (lv_at hl 4 rfl) ?_
    refine lv_bipush (v := (nI 20)) hx hb dX5_mark_19 (by decide) ?_
    refine z_icmp_le (u := ut) (v := ((20 : Nat) : Int)) (tgt := 34) hx hb (pt) (nI_toInt (by omega)) dX5_mark_21 (by decide) (fun c_21 => ?_) (fun c_21 => ?_)
    · have ex_1 : y = (nI uy.toNat) := nI_of_toInt (py) (by omega)
      have hl : lv_has ls 5 [(4, .ref (B (61 + 7 * (uz).toNat))), (0, .ref (B 0)), (1, .int (nI uy.toNat)), (2, .int z), (3, .int t)] := by
        rw [← ex_1]
        exact hl
      have hvv : ∀ i9, x (1001 + 8 * (uz).toNat) i9 ≤ 20 := (fun i9 => Nat.le_trans (hxm (1001 + 8 * (uz).toNat) i9) (Nat.le_of_eq (xm_1 nc (uz).toNat)))
      have hxx : ∀ i9, x (1000 + 8 * (uz).toNat) i9 ≤ 5 := (fun i9 => Nat.le_trans (hxm (1000 + 8 * (uz).toNat) i9) (Nat.le_of_eq (xm_0 nc (uz).toNat)))
      have hss : ∀ i9, x (1002 + 8 * (uz).toNat) i9 ≤ 8 := (fun i9 => Nat.le_trans (hxm (1002 + 8 * (uz).toNat) i9) (Nat.le_of_eq (xm_2 nc (uz).toNat)))
      have hpp : ∀ i9, x (1003 + 8 * (uz).toNat) i9 ≤ 5 := (fun i9 => Nat.le_trans (hxm (1003 + 8 * (uz).toNat) i9) (Nat.le_of_eq (xm_3 nc (uz).toNat)))
      have hrr : ∀ i9, x (1004 + 8 * (uz).toNat) i9 ≤ 8 := (fun i9 => Nat.le_trans (hxm (1004 + 8 * (uz).toNat) i9) (Nat.le_of_eq (xm_4 nc (uz).toNat)))
      have h13 : x 13 (uz).toNat ≤ 3 := hxm 13 (uz).toNat
      have h12 : x 12 (uz).toNat ≤ 6 := hxm 12 (uz).toNat
      have h11 : x 11 (uz).toNat ≤ 1 := hxm 11 (uz).toNat
      have h5e : x 5 uy.toNat ≤ 1 := hxm 5 uy.toNat
      refine lv_aload_n hx hb dX5_mark_34 rfl (lv_at hl 1 rfl) ?_
      refine m_get (T := TX5) (N := 6) (ci := 6) (fs := [.ref (B 1), .ref (B 3), .ref (B 6), .ref (B 8), .ref (B 10), .ref (B 12)]) hx hb hwX5 hown hK hP f_B_0 rfl 5 (by decide) (hts _ (List.mem_of_getElem? (i := 6) rfl)) (v := .ref (B 12)) rfl dX5_mark_35 ?_
      refine lv_iload_n hx hb dX5_mark_38 rfl (lv_at hl 2 rfl) ?_
      refine n_zald (g := (x 5)) (n := 6) (i := uy.toNat) hx hb hK hP f_B_12 (by omega) (by omega) dX5_mark_39 ?_
      refine z_if_eq (u := (((x 5) uy.toNat : Nat) : Int)) (tgt := 53) hx hb (nI_toInt (by omega)) dX5_mark_40 (by decide) (fun c_40 => ?_) (fun c_40 => ?_)
      · refine lv_aload hx hb dX5_mark_53 (lv_at hl 0 rfl) ?_
        refine lv_iload_n hx hb dX5_mark_55 rfl (lv_at hl 2 rfl) ?_
        refine vp_callSi (W.runV (C := RX0) (As := [.int (nI uy.toNat)]) (rest := []) ⟨hx, hb, hml, hown, hts⟩ (c_X0_hasOneOf l D cy _ (B (61 + 7 * (uz).toNat)) (B (62 + 7 * (uz).toNat)) (B (63 + 7 * (uz).toNat)) (x 13 (uz).toNat) (x (1000 + 8 * (uz).toNat)) (x (1001 + 8 * (uz).toNat)) uy.toNat (f_B_61_7_uz_toNat) (f_B_62_7_uz_toNat) (f_B_63_7_uz_toNat) h13 hxx (by omega)) (cwV 1 hts gX5_mark_X0_hasOneOf rfl rfl rfl (by decide +kernel) ⟨Nat.le_of_ble_eq_true rfl, Nat.le_of_ble_eq_true rfl⟩) (mPreV hK hP f_B_61_7_uz_toNat (ci := 1) rfl) rfl rfl hl.1 rfl (lv_room (Nat.le_of_ble_eq_true rfl)) dX5_mark_56 ⟨Nat.le_of_ble_eq_true rfl, Nat.le_of_ble_eq_true rfl⟩) (fun r9 hr9 => ?_)
        have hr9 : r9 = (nI (b2 (hasC (x (1000 + 8 * (uz).toNat)) uy.toNat (x 13 (uz).toNat)))) := hr9
        subst hr9
        refine b_if_eq (b := hasC (x (1000 + 8 * (uz).toNat)) uy.toNat (x 13 (uz).toNat)) (tgt := 72) hx hb dX5_mark_59 (by decide) (fun c_59 => ?_) (fun c_59 => ?_)
        · refine lv_aload hx hb dX5_mark_72 (lv_at hl 0 rfl) ?_
          refine vp_callSi (W.runV (C := RX0) (As := []) (rest := []) ⟨hx, hb, hml, hown, hts⟩ (c_X0_lacking l D cy _ (B (61 + 7 * (uz).toNat)) (B (62 + 7 * (uz).toNat)) (B (63 + 7 * (uz).toNat)) (x 13 (uz).toNat) (x (1000 + 8 * (uz).toNat)) (x (1001 + 8 * (uz).toNat)) (f_B_61_7_uz_toNat) (f_B_62_7_uz_toNat) (f_B_63_7_uz_toNat) h13 hvv) (cwV 0 hts gX5_mark_X0_lacking rfl rfl rfl (by decide +kernel) ⟨Nat.le_of_ble_eq_true rfl, Nat.le_of_ble_eq_true rfl⟩) (mPreV hK hP f_B_61_7_uz_toNat (ci := 1) rfl) rfl rfl hl.1 rfl (lv_room (Nat.le_of_ble_eq_true rfl)) dX5_mark_74 ⟨Nat.le_of_ble_eq_true rfl, Nat.le_of_ble_eq_true rfl⟩) (fun r9 hr9 => ?_)
          have hr9 : r9 = (zI (lackC (x (1001 + 8 * (uz).toNat)) (x 13 (uz).toNat))) := hr9
          subst hr9
          have hlb9 : -3 ≤ lackC (x (1001 + 8 * (uz).toNat)) (x 13 (uz).toNat) ∧ lackC (x (1001 + 8 * (uz).toNat)) (x 13 (uz).toNat) ≤ 3 := (by unfold lackC; split <;> omega)
          refine z_if_ne (u := (lackC (x (1001 + 8 * (uz).toNat)) (x 13 (uz).toNat))) (tgt := 90) hx hb (zI_toInt (by omega) (by omega)) dX5_mark_77 (by decide) (fun c_77 => ?_) (fun c_77 => ?_)
          · have ex_3 : t = (nI ut.toNat) := nI_of_toInt (pt) (by omega)
            have hl : lv_has ls 5 [(4, .ref (B (61 + 7 * (uz).toNat))), (0, .ref (B 0)), (1, .int (nI uy.toNat)), (2, .int z), (3, .int (nI ut.toNat))] := by
              rw [← ex_3]
              exact hl
            have hn9 : x 13 (uz).toNat < 3 := (by rcases Nat.lt_or_ge (x 13 (uz).toNat) 3 with h8 | h8; exact h8; exact absurd (show lackC (x (1001 + 8 * (uz).toNat)) (x 13 (uz).toNat) = 0 by (rw [show x 13 (uz).toNat = 3 by omega]; exact h3m (uz).toNat hscn (by omega))) (by omega))
            refine lv_aload hx hb dX5_mark_90 (lv_at hl 0 rfl) ?_
            refine lv_iload_n hx hb dX5_mark_92 rfl (lv_at hl 2 rfl) ?_
            refine lv_iload_n hx hb dX5_mark_93 rfl (lv_at hl 4 rfl) ?_
            refine m_callv (va_runV (C := RX0) (As := [.int (nI uy.toNat), .int (nI ut.toNat)]) (rest := []) ⟨hx, hb, hml, hown, hts⟩ (c_X0_add l D cy _ _ (B (61 + 7 * (uz).toNat)) (B (62 + 7 * (uz).toNat)) (B (63 + 7 * (uz).toNat)) (x 13 (uz).toNat) (x (1000 + 8 * (uz).toNat)) (x (1001 + 8 * (uz).toNat)) uy.toNat ut.toNat (f_B_61_7_uz_toNat) (f_B_62_7_uz_toNat) (f_B_63_7_uz_toNat) n_B_62_7_uz_toNat_B_63_7_uz_toNat hn9) (cwV 2 hts gX5_mark_X0_add rfl rfl rfl (by decide +kernel) ⟨Nat.le_of_ble_eq_true rfl, Nat.le_of_ble_eq_true rfl⟩) (mPreWV hK hP f_B_61_7_uz_toNat (ci := 1) rfl) rfl rfl hl.1 rfl (lv_room (Nat.le_of_ble_eq_true rfl)) dX5_mark_94 ⟨Nat.le_of_ble_eq_true rfl, Nat.le_of_ble_eq_true rfl⟩) hD hA hS (fun Mn H locs hq9 hP hD hS hz9 hd9 hk9 => ?_)
            have hq9 : Mn = (mset (mset (mset M (B (62 + 7 * (uz).toNat)) (eI cy 3 (va_up (x (1000 + 8 * (uz).toNat)) (x 13 (uz).toNat) uy.toNat))) (B (63 + 7 * (uz).toNat)) (eI cy 3 (va_up (x (1001 + 8 * (uz).toNat)) (x 13 (uz).toNat) ut.toNat))) (B (61 + 7 * (uz).toNat)) (.inr (1, [.ref (B (62 + 7 * (uz).toNat)), .ref (B (63 + 7 * (uz).toNat)), .int (nI (x 13 (uz).toNat + 1))]))) := hq9
            subst hq9
            refine lv_aload hx hb dX5_mark_97 (lv_at hl 0 rfl) ?_
            refine vp_callSi (W.runV (C := RX0) (As := []) (rest := []) ⟨hx, hb, hml, hown, hts⟩ (c_X0_size l D cy _ (B (61 + 7 * (uz).toNat)) (B (62 + 7 * (uz).toNat)) (B (63 + 7 * (uz).toNat)) (x 13 (uz).toNat + 1) (va_up (x (1000 + 8 * (uz).toNat)) (x 13 (uz).toNat) uy.toNat) (va_up (x (1001 + 8 * (uz).toNat)) (x 13 (uz).toNat) ut.toNat) (mset_self _ _ _) ((mset_ne (Ne.symm n_B_61_7_uz_toNat_B_62_7_uz_toNat)).trans ((mset_ne n_B_62_7_uz_toNat_B_63_7_uz_toNat).trans (mset_self _ _ _))) ((mset_ne (Ne.symm n_B_61_7_uz_toNat_B_63_7_uz_toNat)).trans (mset_self _ _ _))) (cwV 0 hts gX5_mark_X0_size rfl rfl rfl (by decide +kernel) ⟨Nat.le_of_ble_eq_true rfl, Nat.le_of_ble_eq_true rfl⟩) (mPreV hK hP (mset_self _ _ _) (ci := 1) rfl) rfl rfl hl.1 rfl (lv_room (Nat.le_of_ble_eq_true rfl)) dX5_mark_99 ⟨Nat.le_of_ble_eq_true rfl, Nat.le_of_ble_eq_true rfl⟩) (fun r9 hr9 => ?_)
            have hr9 : r9 = (nI (x 13 (uz).toNat + 1)) := hr9
            subst hr9
            exact vx_ret (e_wi hx hb hr hlocks hP hD hS (⟨⟨by omega, by omega, by omega, c_59, by omega⟩, rfl, B, _, E, (((hH.put (62 + 7 * (uz).toNat) _ (p_ne p_B_62_7_uz_toNat)).put (63 + 7 * (uz).toNat) _ (by rw [va_up_ne _ _ (by omega)]; exact p_ne p_B_63_7_uz_toNat)).put (61 + 7 * (uz).toNat) _ (by rw [va_up_ne _ _ (by omega), va_up_ne _ _ (by omega)]; exact p_ne p_B_61_7_uz_toNat)), hSH.marks hc1 hc2 _ _ _ _, rfl⟩) dX5_mark_102)
          · exact e_thS (text := "no more marks are taken") hx hb hst hown (by decide) (hts _ (List.mem_of_getElem? (i := 3) rfl)) (hts _ (List.mem_of_getElem? (i := 4) rfl)) (fun w h => hts w (List.mem_cons_of_mem _ (List.mem_append_left _ (List.mem_append_right _ (h))))) ng_S gd_S (by decide +kernel) hX hP hS (hl.1.trans hml.symm) dX5_mark_80 dX5_mark_83 dX5_mark_84 dX5_mark_86 dX5_mark_89 hout (Nat.le_of_ble_eq_true rfl) (Nat.le_of_ble_eq_true rfl) (Nat.le_of_ble_eq_true rfl) (Nat.le_of_ble_eq_true rfl) hlocks (Or.inr (Or.inr ⟨rfl, by omega, by omega, fun h8 => (by first | exact absurd h8.1 (by omega) | (rw [h8.2.1] at c_59; cases c_59) | exact h8.2.2 (by omega))⟩)) (Nat.le_of_ble_eq_true rfl) (Nat.le_of_ble_eq_true rfl)
        · exact e_thS (text := "the examiner has marked it") hx hb hst hown (by decide) (hts _ (List.mem_of_getElem? (i := 3) rfl)) (hts _ (List.mem_of_getElem? (i := 4) rfl)) (fun w h => hts w (List.mem_cons_of_mem _ (List.mem_append_left _ (List.mem_append_right _ (h))))) ng_S gd_S (by decide +kernel) hX hP hS (hl.1.trans hml.symm) dX5_mark_62 dX5_mark_65 dX5_mark_66 dX5_mark_68 dX5_mark_71 hout (Nat.le_of_ble_eq_true rfl) (Nat.le_of_ble_eq_true rfl) (Nat.le_of_ble_eq_true rfl) (Nat.le_of_ble_eq_true rfl) hlocks (Or.inr (Or.inr ⟨rfl, by omega, by omega, fun h8 => (by first | exact absurd h8.1 (by omega) | (rw [h8.2.1] at c_59; cases c_59) | exact h8.2.2 (by omega))⟩)) (Nat.le_of_ble_eq_true rfl) (Nat.le_of_ble_eq_true rfl)
      · exact e_thS (text := "the examiner was taken out") hx hb hst hown (by decide) (hts _ (List.mem_of_getElem? (i := 3) rfl)) (hts _ (List.mem_of_getElem? (i := 4) rfl)) (fun w h => hts w (List.mem_cons_of_mem _ (List.mem_append_left _ (List.mem_append_right _ (h))))) ng_S gd_S (by decide +kernel) hX hP hS (hl.1.trans hml.symm) dX5_mark_43 dX5_mark_46 dX5_mark_47 dX5_mark_49 dX5_mark_52 hout (Nat.le_of_ble_eq_true rfl) (Nat.le_of_ble_eq_true rfl) (Nat.le_of_ble_eq_true rfl) (Nat.le_of_ble_eq_true rfl) hlocks (Or.inr (Or.inr ⟨rfl, by omega, by omega, fun h8 => (by first | exact absurd h8.1 (by omega) | (rw [h8.2.1] at c_59; cases c_59) | exact h8.2.2 (by omega))⟩)) (Nat.le_of_ble_eq_true rfl) (Nat.le_of_ble_eq_true rfl)
    · exact e_thS (text := "a mark is 0 to 20") hx hb hst hown (by decide) (hts _ (List.mem_of_getElem? (i := 1) rfl)) (hts _ (List.mem_of_getElem? (i := 2) rfl)) (fun w h => hts w (List.mem_cons_of_mem _ (List.mem_append_left _ (List.mem_append_left _ (List.mem_append_right _ (h)))))) ng_A gd_A (by decide +kernel) hX hP hS (hl.1.trans hml.symm) dX5_mark_24 dX5_mark_27 dX5_mark_28 dX5_mark_30 dX5_mark_33 hout (Nat.le_of_ble_eq_true rfl) (Nat.le_of_ble_eq_true rfl) (Nat.le_of_ble_eq_true rfl) (Nat.le_of_ble_eq_true rfl) hlocks (Or.inr (Or.inl ⟨rfl, by omega, by omega⟩)) (Nat.le_of_ble_eq_true rfl) (Nat.le_of_ble_eq_true rfl)

set_option maxRecDepth 100000 in
set_option maxHeartbeats 4000000 in
theorem c_X5_show (l : Launch) (hst : l.stackTraces = false) (de mi : Nat) (D : va_G) (cy : Nat → ClassId) (M : mM) (sz : Nat) (B : Nat → Nat) (P : Nat → Option va_E) (cn : Nat → Nat) (x : Nat → Nat → Nat) (E : Nat → Nat → Option Nat) (nc : Nat) (y : Int32) (uy : Int)  (hH : hHolds M B P) (hSH : SH de cy B P cn x E) (hN : NB nc cn x) (py : y.toInt = uy) : mVi l yX5_show wsX5_show ({ frames := 7, cells := 4, slots := 24, locals := 103 } : Room) de mi D cy M sz [.ref (B 0), .int y] (fun r M' => ((0 ≤ uy ∧ uy < cn 3) ∧ x 11 (uy).toNat = 0 ∧ gradeC (x (1001 + 8 * (uy).toNat)) (x 13 (uy).toNat) ≠ -1) ∧ r = nI (shC (va_up x 11 (va_up (x 11) (uy).toNat 1)) (cn 3)) ∧ ∃ (B9 : Nat → Nat) (P9 : Nat → Option va_E) (E9 : Nat → Nat → Option Nat), hHolds M' B9 P9 ∧ SH de cy B9 P9 (cn) (va_up x 11 (va_up (x 11) (uy).toNat 1)) E9 ∧ B9 0 = B 0) (fun E9 => (E9 = "java/lang/IndexOutOfBoundsException" ∧ ¬ (0 ≤ uy ∧ uy < cn 3)) ∨ (E9 = "java/lang/IllegalStateException" ∧ (0 ≤ uy ∧ uy < cn 3) ∧ ¬ (x 11 (uy).toNat = 0 ∧ gradeC (x (1001 + 8 * (uy).toNat)) (x 13 (uy).toNat) ≠ -1))) 4 24 := by
  refine mV.of (cc := cX5_show) (maxL := 3) (ret := (some .int)) (by decide) rfl (Nat.le_of_ble_eq_true rfl) ?_
  intro p e s m args below meth c ls hsz hx hb hr hts hown hlocks hml hout hname hP hD hS hA hK hX hl
  have hl : lv_has ls 3 [(0, .ref (B 0)), (1, .int y)] := hl
  have hown : s.vm.findClass RX5 = some m.cls := hown
  have hwX3 : ∀ w ∈ wsX30, w.before args s = true := fun w h => hts w (List.mem_cons_of_mem _ (List.mem_append_left _ (List.mem_append_left _ (List.mem_append_left _ (List.mem_append_left _ (List.mem_append_left _ (List.mem_append_right _ (h))))))))
  have hwX5 : ∀ w ∈ wsX50, w.before args s = true := fun w h => hts w (List.mem_cons_of_mem _ (List.mem_append_left _ (List.mem_append_left _ (List.mem_append_left _ (List.mem_append_left _ (List.mem_append_right _ (h)))))))
  have hwJx4a65c : ∀ w ∈ wsJx4a65c0, w.before args s = true := fun w h => hts w (List.mem_cons_of_mem _ (List.mem_append_left _ (List.mem_append_left _ (List.mem_append_left _ (List.mem_append_right _ (h))))))
  have hwX0 : ∀ w ∈ wsX00, w.before args s = true := fun w h => hts w (List.mem_cons_of_mem _ (List.mem_append_left _ (List.mem_append_left _ (List.mem_append_right _ (h)))))
  obtain ⟨hnc9, hc0, hc1, hc2, hc3, hxm⟩ := id hN
  have p_B_0 : P 0 = some (.inr (6, [.ref (B 1), .ref (B 3), .ref (B 6), .ref (B 8), .ref (B 10), .ref (B 12)])) := hSH.1.1
  have f_B_0 : M (B 0) = some (.inr (6, [.ref (B 1), .ref (B 3), .ref (B 6), .ref (B 8), .ref (B 10), .ref (B 12)])) := hH.1 _ _ p_B_0
  have p_B_10 : P 10 = some (.inr (0, [.int (nI (x 1 10)), .ref (B 11), .int (nI (cn 3))])) := hSH.2.2.2.1.1
  have f_B_10 : M (B 10) = some (.inr (0, [.int (nI (x 1 10)), .ref (B 11), .int (nI (cn 3))])) := hH.1 _ _ p_B_10
  have n_B_0_B_10 : nEq (B 0) (B 10) := hH.ne p_B_0 p_B_10 (by omega)
  refine lv_aload_n hx hb dX5_show_0 rfl (lv_at hl 0 rfl) ?_
  refine lv_iload_n hx hb dX5_show_1 rfl (lv_at hl 1 rfl) ?_
  obtain ⟨hl1_2, hl2_2, hl3_2, hl4_2⟩ := LI.num hSH.2.2.2.1 hH (ci := 4) (fs := scF B x) (fun j hj => (hSH.2.2.2.2.2.2 j hj).1)
  refine x_callr (vx_runV (C := RX5) (As := [.int y]) (rest := []) ⟨hx, hb, hml, hown, hts⟩ (c_X5_scriptNumbered l hst de mi D cy _ _ (B 0) (B 1) (B 3) (B 6) (B 8) (B 10) (B 12) (B 11) (cn 3) (x 1 10) (x 0 10) (E 10) (fun j => B (60 + 7 * j)) (scF B x) y uy (f_B_0) (f_B_10) hl1_2 hl2_2 hl3_2 hl4_2 py) (cwV 1 hts gX5_show_X5_scriptNumbered rfl rfl rfl (by decide +kernel) ⟨Nat.le_of_ble_eq_true rfl, Nat.le_of_ble_eq_true rfl⟩) (mPreXV hX hD hS hA hK hP f_B_0 (ci := 6) rfl) rfl rfl hl.1 rfl (lv_room (Nat.le_of_ble_eq_true rfl)) dX5_show_2 ⟨Nat.le_of_ble_eq_true rfl, Nat.le_of_ble_eq_true rfl⟩) hD hA hS hout hlocks (fun E9 h9 => Or.inl h9) (Nat.le_of_ble_eq_true rfl) (Nat.le_of_ble_eq_true rfl) (fun r9 Mn H locs hq9 hP hD hS hz9 => ?_)
  obtain ⟨hsc, hr9, hq9⟩ := hq9
  rw [hq9] at hP hD
  have hr9 : r9 = B (60 + 7 * (uy).toNat) := hr9
  rw [hr9]
  have hscn : (uy).toNat < cn 3 := (by omega)
  have p_B_60_7_uy_toNat : P (60 + 7 * (uy).toNat) = some (.inr (4, [.int (nI (x 10 (uy).toNat)), .ref (B (61 + 7 * (uy).toNat)), .int (nI (x 11 (uy).toNat)), .ref (B (64 + 7 * (uy).toNat)), .ref (B (65 + 7 * (uy).toNat)), .ref (B (66 + 7 * (uy).toNat)), .int (nI (x 12 (uy).toNat))])) := (hSH.2.2.2.2.2.2 (uy).toNat hscn).1
  have f_B_60_7_uy_toNat : M (B (60 + 7 * (uy).toNat)) = some (.inr (4, [.int (nI (x 10 (uy).toNat)), .ref (B (61 + 7 * (uy).toNat)), .int (nI (x 11 (uy).toNat)), .ref (B (64 + 7 * (uy).toNat)), .ref (B (65 + 7 * (uy).toNat)), .ref (B (66 + 7 * (uy).toNat)), .int (nI (x 12 (uy).toNat))])) := hH.1 _ _ p_B_60_7_uy_toNat
  have n_B_0_B_60_7_uy_toNat : nEq (B 0) (B (60 + 7 * (uy).toNat)) := hH.ne p_B_0 p_B_60_7_uy_toNat (by omega)
  have n_B_10_B_60_7_uy_toNat : nEq (B 10) (B (60 + 7 * (uy).toNat)) := hH.ne p_B_10 p_B_60_7_uy_toNat (by omega)
  have p_B_61_7_uy_toNat : P (61 + 7 * (uy).toNat) = some (.inr (1, [.ref (B (62 + 7 * (uy).toNat)), .ref (B (63 + 7 * (uy).toNat)), .int (nI (x 13 (uy).toNat))])) := (hSH.2.2.2.2.2.2 (uy).toNat hscn).2.1
  have f_B_61_7_uy_toNat : M (B (61 + 7 * (uy).toNat)) = some (.inr (1, [.ref (B (62 + 7 * (uy).toNat)), .ref (B (63 + 7 * (uy).toNat)), .int (nI (x 13 (uy).toNat))])) := hH.1 _ _ p_B_61_7_uy_toNat
  have n_B_0_B_61_7_uy_toNat : nEq (B 0) (B (61 + 7 * (uy).toNat)) := hH.ne p_B_0 p_B_61_7_uy_toNat (by omega)
  have n_B_10_B_61_7_uy_toNat : nEq (B 10) (B (61 + 7 * (uy).toNat)) := hH.ne p_B_10 p_B_61_7_uy_toNat (by omega)
  have n_B_60_7_uy_toNat_B_61_7_uy_toNat : nEq (B (60 + 7 * (uy).toNat)) (B (61 + 7 * (uy).toNat)) := hH.ne p_B_60_7_uy_toNat p_B_61_7_uy_toNat (by omega)
  have p_B_62_7_uy_toNat : P (62 + 7 * (uy).toNat) = some (eI cy 3 (x (1000 + 8 * (uy).toNat))) := (hSH.2.2.2.2.2.2 (uy).toNat hscn).2.2.1
  have f_B_62_7_uy_toNat : M (B (62 + 7 * (uy).toNat)) = some (eI cy 3 (x (1000 + 8 * (uy).toNat))) := hH.1 _ _ p_B_62_7_uy_toNat
  have n_B_0_B_62_7_uy_toNat : nEq (B 0) (B (62 + 7 * (uy).toNat)) := hH.ne p_B_0 p_B_62_7_uy_toNat (by omega)
  have n_B_10_B_62_7_uy_toNat : nEq (B 10) (B (62 + 7 * (uy).toNat)) := hH.ne p_B_10 p_B_62_7_uy_toNat (by omega)
  have n_B_60_7_uy_toNat_B_62_7_uy_toNat : nEq (B (60 + 7 * (uy).toNat)) (B (62 + 7 * (uy).toNat)) := hH.ne p_B_60_7_uy_toNat p_B_62_7_uy_toNat (by omega)
  have n_B_61_7_uy_toNat_B_62_7_uy_toNat : nEq (B (61 + 7 * (uy).toNat)) (B (62 + 7 * (uy).toNat)) := hH.ne p_B_61_7_uy_toNat p_B_62_7_uy_toNat (by omega)
  have p_B_63_7_uy_toNat : P (63 + 7 * (uy).toNat) = some (eI cy 3 (x (1001 + 8 * (uy).toNat))) := (hSH.2.2.2.2.2.2 (uy).toNat hscn).2.2.2.1
  have f_B_63_7_uy_toNat : M (B (63 + 7 * (uy).toNat)) = some (eI cy 3 (x (1001 + 8 * (uy).toNat))) := hH.1 _ _ p_B_63_7_uy_toNat
  have n_B_0_B_63_7_uy_toNat : nEq (B 0) (B (63 + 7 * (uy).toNat)) := hH.ne p_B_0 p_B_63_7_uy_toNat (by omega)
  have n_B_10_B_63_7_uy_toNat : nEq (B 10) (B (63 + 7 * (uy).toNat)) := hH.ne p_B_10 p_B_63_7_uy_toNat (by omega)
  have n_B_60_7_uy_toNat_B_63_7_uy_toNat : nEq (B (60 + 7 * (uy).toNat)) (B (63 + 7 * (uy).toNat)) := hH.ne p_B_60_7_uy_toNat p_B_63_7_uy_toNat (by omega)
  have n_B_61_7_uy_toNat_B_63_7_uy_toNat : nEq (B (61 + 7 * (uy).toNat)) (B (63 + 7 * (uy).toNat)) := hH.ne p_B_61_7_uy_toNat p_B_63_7_uy_toNat (by omega)
  have n_B_62_7_uy_toNat_B_63_7_uy_toNat : nEq (B (62 + 7 * (uy).toNat)) (B (63 + 7 * (uy).toNat)) := hH.ne p_B_62_7_uy_toNat p_B_63_7_uy_toNat (by omega)
  have p_B_64_7_uy_toNat : P (64 + 7 * (uy).toNat) = some (eI cy 5 (x (1002 + 8 * (uy).toNat))) := (hSH.2.2.2.2.2.2 (uy).toNat hscn).2.2.2.2.1
  have f_B_64_7_uy_toNat : M (B (64 + 7 * (uy).toNat)) = some (eI cy 5 (x (1002 + 8 * (uy).toNat))) := hH.1 _ _ p_B_64_7_uy_toNat
  have n_B_0_B_64_7_uy_toNat : nEq (B 0) (B (64 + 7 * (uy).toNat)) := hH.ne p_B_0 p_B_64_7_uy_toNat (by omega)
  have n_B_10_B_64_7_uy_toNat : nEq (B 10) (B (64 + 7 * (uy).toNat)) := hH.ne p_B_10 p_B_64_7_uy_toNat (by omega)
  have n_B_60_7_uy_toNat_B_64_7_uy_toNat : nEq (B (60 + 7 * (uy).toNat)) (B (64 + 7 * (uy).toNat)) := hH.ne p_B_60_7_uy_toNat p_B_64_7_uy_toNat (by omega)
  have n_B_61_7_uy_toNat_B_64_7_uy_toNat : nEq (B (61 + 7 * (uy).toNat)) (B (64 + 7 * (uy).toNat)) := hH.ne p_B_61_7_uy_toNat p_B_64_7_uy_toNat (by omega)
  have n_B_62_7_uy_toNat_B_64_7_uy_toNat : nEq (B (62 + 7 * (uy).toNat)) (B (64 + 7 * (uy).toNat)) := hH.ne p_B_62_7_uy_toNat p_B_64_7_uy_toNat (by omega)
  have n_B_63_7_uy_toNat_B_64_7_uy_toNat : nEq (B (63 + 7 * (uy).toNat)) (B (64 + 7 * (uy).toNat)) := hH.ne p_B_63_7_uy_toNat p_B_64_7_uy_toNat (by omega)
  have p_B_65_7_uy_toNat : P (65 + 7 * (uy).toNat) = some (eI cy 4 (x (1003 + 8 * (uy).toNat))) := (hSH.2.2.2.2.2.2 (uy).toNat hscn).2.2.2.2.2.1
  have f_B_65_7_uy_toNat : M (B (65 + 7 * (uy).toNat)) = some (eI cy 4 (x (1003 + 8 * (uy).toNat))) := hH.1 _ _ p_B_65_7_uy_toNat
  have n_B_0_B_65_7_uy_toNat : nEq (B 0) (B (65 + 7 * (uy).toNat)) := hH.ne p_B_0 p_B_65_7_uy_toNat (by omega)
  have n_B_10_B_65_7_uy_toNat : nEq (B 10) (B (65 + 7 * (uy).toNat)) := hH.ne p_B_10 p_B_65_7_uy_toNat (by omega)
  have n_B_60_7_uy_toNat_B_65_7_uy_toNat : nEq (B (60 + 7 * (uy).toNat)) (B (65 + 7 * (uy).toNat)) := hH.ne p_B_60_7_uy_toNat p_B_65_7_uy_toNat (by omega)
  have n_B_61_7_uy_toNat_B_65_7_uy_toNat : nEq (B (61 + 7 * (uy).toNat)) (B (65 + 7 * (uy).toNat)) := hH.ne p_B_61_7_uy_toNat p_B_65_7_uy_toNat (by omega)
  have n_B_62_7_uy_toNat_B_65_7_uy_toNat : nEq (B (62 + 7 * (uy).toNat)) (B (65 + 7 * (uy).toNat)) := hH.ne p_B_62_7_uy_toNat p_B_65_7_uy_toNat (by omega)
  have n_B_63_7_uy_toNat_B_65_7_uy_toNat : nEq (B (63 + 7 * (uy).toNat)) (B (65 + 7 * (uy).toNat)) := hH.ne p_B_63_7_uy_toNat p_B_65_7_uy_toNat (by omega)
  have n_B_64_7_uy_toNat_B_65_7_uy_toNat : nEq (B (64 + 7 * (uy).toNat)) (B (65 + 7 * (uy).toNat)) := hH.ne p_B_64_7_uy_toNat p_B_65_7_uy_toNat (by omega)
  have p_B_66_7_uy_toNat : P (66 + 7 * (uy).toNat) = some (eI cy 6 (x (1004 + 8 * (uy).toNat))) := (hSH.2.2.2.2.2.2 (uy).toNat hscn).2.2.2.2.2.2
  have f_B_66_7_uy_toNat : M (B (66 + 7 * (uy).toNat)) = some (eI cy 6 (x (1004 + 8 * (uy).toNat))) := hH.1 _ _ p_B_66_7_uy_toNat
  have n_B_0_B_66_7_uy_toNat : nEq (B 0) (B (66 + 7 * (uy).toNat)) := hH.ne p_B_0 p_B_66_7_uy_toNat (by omega)
  have n_B_10_B_66_7_uy_toNat : nEq (B 10) (B (66 + 7 * (uy).toNat)) := hH.ne p_B_10 p_B_66_7_uy_toNat (by omega)
  have n_B_60_7_uy_toNat_B_66_7_uy_toNat : nEq (B (60 + 7 * (uy).toNat)) (B (66 + 7 * (uy).toNat)) := hH.ne p_B_60_7_uy_toNat p_B_66_7_uy_toNat (by omega)
  have n_B_61_7_uy_toNat_B_66_7_uy_toNat : nEq (B (61 + 7 * (uy).toNat)) (B (66 + 7 * (uy).toNat)) := hH.ne p_B_61_7_uy_toNat p_B_66_7_uy_toNat (by omega)
  have n_B_62_7_uy_toNat_B_66_7_uy_toNat : nEq (B (62 + 7 * (uy).toNat)) (B (66 + 7 * (uy).toNat)) := hH.ne p_B_62_7_uy_toNat p_B_66_7_uy_toNat (by omega)
  have n_B_63_7_uy_toNat_B_66_7_uy_toNat : nEq (B (63 + 7 * (uy).toNat)) (B (66 + 7 * (uy).toNat)) := hH.ne p_B_63_7_uy_toNat p_B_66_7_uy_toNat (by omega)
  have n_B_64_7_uy_toNat_B_66_7_uy_toNat : nEq (B (64 + 7 * (uy).toNat)) (B (66 + 7 * (uy).toNat)) := hH.ne p_B_64_7_uy_toNat p_B_66_7_uy_toNat (by omega)
  have n_B_65_7_uy_toNat_B_66_7_uy_toNat : nEq (B (65 + 7 * (uy).toNat)) (B (66 + 7 * (uy).toNat)) := hH.ne p_B_65_7_uy_toNat p_B_66_7_uy_toNat (by omega)
  refine lv_astore_n (lv' := [(2, .ref (B (60 + 7 * (uy).toNat))), (0, .ref (B 0)), (1, .int y)]) hx hb dX5_show_5 rfl hl (by decide) rfl (fun ls hl => ?_)
  have hvv : ∀ i9, x (1001 + 8 * (uy).toNat) i9 ≤ 20 := (fun i9 => Nat.le_trans (hxm (1001 + 8 * (uy).toNat) i9) (Nat.le_of_eq (xm_1 nc (uy).toNat)))
  have hxx : ∀ i9, x (1000 + 8 * (uy).toNat) i9 ≤ 5 := (fun i9 => Nat.le_trans (hxm (1000 + 8 * (uy).toNat) i9) (Nat.le_of_eq (xm_0 nc (uy).toNat)))
  have hss : ∀ i9, x (1002 + 8 * (uy).toNat) i9 ≤ 8 := (fun i9 => Nat.le_trans (hxm (1002 + 8 * (uy).toNat) i9) (Nat.le_of_eq (xm_2 nc (uy).toNat)))
  have hpp : ∀ i9, x (1003 + 8 * (uy).toNat) i9 ≤ 5 := (fun i9 => Nat.le_trans (hxm (1003 + 8 * (uy).toNat) i9) (Nat.le_of_eq (xm_3 nc (uy).toNat)))
  have hrr : ∀ i9, x (1004 + 8 * (uy).toNat) i9 ≤ 8 := (fun i9 => Nat.le_trans (hxm (1004 + 8 * (uy).toNat) i9) (Nat.le_of_eq (xm_4 nc (uy).toNat)))
  have h13 : x 13 (uy).toNat ≤ 3 := hxm 13 (uy).toNat
  have h12 : x 12 (uy).toNat ≤ 6 := hxm 12 (uy).toNat
  have h11 : x 11 (uy).toNat ≤ 1 := hxm 11 (uy).toNat
  have hgb9 := gradeC_bd (n := x 13 (uy).toNat) hvv
  refine lv_aload_n hx hb dX5_show_6 rfl (lv_at hl 0 rfl) ?_
  refine m_get (T := TX3) (N := 7) (ci := 4) (fs := [.int (nI (x 10 (uy).toNat)), .ref (B (61 + 7 * (uy).toNat)), .int (nI (x 11 (uy).toNat)), .ref (B (64 + 7 * (uy).toNat)), .ref (B (65 + 7 * (uy).toNat)), .ref (B (66 + 7 * (uy).toNat)), .int (nI (x 12 (uy).toNat))]) hx hb hwX3 hown hK hP f_B_60_7_uy_toNat rfl 2 (by decide) (hts _ (List.mem_of_getElem? (i := 3) rfl)) (v := .int (nI (x 11 (uy).toNat))) rfl dX5_show_7 ?_
  refine z_if_eq (u := ((x 11 (uy).toNat : Nat) : Int)) (tgt := 23) hx hb (nI_toInt (by omega)) dX5_show_10 (by decide) (fun c_10 => ?_) (fun c_10 => ?_)
  · refine lv_aload_n hx hb dX5_show_23 rfl (lv_at hl 0 rfl) ?_
    refine m_get (T := TX3) (N := 7) (ci := 4) (fs := [.int (nI (x 10 (uy).toNat)), .ref (B (61 + 7 * (uy).toNat)), .int (nI (x 11 (uy).toNat)), .ref (B (64 + 7 * (uy).toNat)), .ref (B (65 + 7 * (uy).toNat)), .ref (B (66 + 7 * (uy).toNat)), .int (nI (x 12 (uy).toNat))]) hx hb hwX3 hown hK hP f_B_60_7_uy_toNat rfl 1 (by decide) (hts _ (List.mem_of_getElem? (i := 4) rfl)) (v := .ref (B (61 + 7 * (uy).toNat))) rfl dX5_show_24 ?_
    refine vp_callSi (W.runV (C := RX0) (As := []) (rest := []) ⟨hx, hb, hml, hown, hts⟩ (c_X0_result l D cy _ (B (61 + 7 * (uy).toNat)) (B (62 + 7 * (uy).toNat)) (B (63 + 7 * (uy).toNat)) (x 13 (uy).toNat) (x (1000 + 8 * (uy).toNat)) (x (1001 + 8 * (uy).toNat)) (f_B_61_7_uy_toNat) (f_B_62_7_uy_toNat) (f_B_63_7_uy_toNat) h13 hvv) (cwV 0 hts gX5_show_X0_result rfl rfl rfl (by decide +kernel) ⟨Nat.le_of_ble_eq_true rfl, Nat.le_of_ble_eq_true rfl⟩) (mPreV hK hP f_B_61_7_uy_toNat (ci := 1) rfl) rfl rfl hl.1 rfl (lv_room (Nat.le_of_ble_eq_true rfl)) dX5_show_27 ⟨Nat.le_of_ble_eq_true rfl, Nat.le_of_ble_eq_true rfl⟩) (fun r9 hr9 => ?_)
    have hr9 : r9 = (zI (gradeC (x (1001 + 8 * (uy).toNat)) (x 13 (uy).toNat))) := hr9
    subst hr9
    refine lv_iconst (v := (zI (-1))) hx hb dX5_show_30 (by decide) ?_
    refine z_icmp_ne (u := (gradeC (x (1001 + 8 * (uy).toNat)) (x 13 (uy).toNat))) (v := (-1)) (tgt := 44) hx hb (zI_toInt (by omega) (by omega)) (zI_toInt (by omega) (by omega)) dX5_show_31 (by decide) (fun c_31 => ?_) (fun c_31 => ?_)
    · refine lv_aload_n hx hb dX5_show_44 rfl (lv_at hl 0 rfl) ?_
      refine lv_iconst (v := (nI 1)) hx hb dX5_show_45 (by decide) ?_
      refine m_put (T := TX3) (N := 7) (ci := 4) (fs := [.int (nI (x 10 (uy).toNat)), .ref (B (61 + 7 * (uy).toNat)), .int (nI (x 11 (uy).toNat)), .ref (B (64 + 7 * (uy).toNat)), .ref (B (65 + 7 * (uy).toNat)), .ref (B (66 + 7 * (uy).toNat)), .int (nI (x 12 (uy).toNat))]) (v := .int (nI 1)) hx hb hwX3 tyX3 tyX3_ok nmX3 hown hK hP hD hS f_B_60_7_uy_toNat rfl 2 (by decide) (hts _ (List.mem_of_getElem? (i := 3) rfl)) rfl (nar_bool (by omega)) (fit_bool (by omega)) (Nat.le_of_ble_eq_true rfl) dX5_show_46 (fun H locs hP hD hS => ?_)
      have hP : pm D (mset M (B (60 + 7 * (uy).toNat)) (.inr (4, [.int (nI (x 10 (uy).toNat)), .ref (B (61 + 7 * (uy).toNat)), .int (nI 1), .ref (B (64 + 7 * (uy).toNat)), .ref (B (65 + 7 * (uy).toNat)), .ref (B (66 + 7 * (uy).toNat)), .int (nI (x 12 (uy).toNat))]))) H := hP
      have hD : mD (mA M sz) (mset M (B (60 + 7 * (uy).toNat)) (.inr (4, [.int (nI (x 10 (uy).toNat)), .ref (B (61 + 7 * (uy).toNat)), .int (nI 1), .ref (B (64 + 7 * (uy).toNat)), .ref (B (65 + 7 * (uy).toNat)), .ref (B (66 + 7 * (uy).toNat)), .int (nI (x 12 (uy).toNat))]))) := hD
      refine lv_aload_n hx hb dX5_show_49 rfl (lv_at hl 1 rfl) ?_
      refine m_calli (va_runV (C := RX5) (As := []) (rest := []) ⟨hx, hb, hml, hown, hts⟩ (c_X5_shownCount l D cy _ _ de B _ cn (va_up x 11 (va_up (x 11) (uy).toNat 1)) E nc (hH.put (60 + 7 * (uy).toNat) _ (p_ne p_B_60_7_uy_toNat)) (hSH.shown hc1 hc2 (uy).toNat 1) (hN.up 11 (fun j9 => up_le (g := x 11) (b := 1) (fun j8 => hxm 11 j8) (Nat.le_refl 1) j9))) (cwV 0 hts gX5_show_X5_shownCount rfl rfl rfl (by decide +kernel) ⟨Nat.le_of_ble_eq_true rfl, Nat.le_of_ble_eq_true rfl⟩) (mPreWV hK hP ((mset_ne n_B_0_B_60_7_uy_toNat).trans (f_B_0)) (ci := 6) rfl) rfl rfl hl.1 rfl (lv_room (Nat.le_of_ble_eq_true rfl)) dX5_show_50 ⟨Nat.le_of_ble_eq_true rfl, Nat.le_of_ble_eq_true rfl⟩) hD hA hS (fun r9 Mn H locs hq9 hP hD hS hz9 hd9 hk9 => ?_)
      obtain ⟨hr9, hq9⟩ := hq9
      have hr9 : r9 = (nI (shC (va_up x 11 (va_up (x 11) (uy).toNat 1)) (cn 3))) := hr9
      subst hr9
      have hq9 : Mn = (mset M (B (60 + 7 * (uy).toNat)) (.inr (4, [.int (nI (x 10 (uy).toNat)), .ref (B (61 + 7 * (uy).toNat)), .int (nI 1), .ref (B (64 + 7 * (uy).toNat)), .ref (B (65 + 7 * (uy).toNat)), .ref (B (66 + 7 * (uy).toNat)), .int (nI (x 12 (uy).toNat))]))) := hq9
      subst hq9
      exact vx_ret (e_wi hx hb hr hlocks hP hD hS (⟨⟨by omega, by omega, by omega⟩, rfl, B, _, E, (hH.put (60 + 7 * (uy).toNat) _ (p_ne p_B_60_7_uy_toNat)), hSH.shown hc1 hc2 _ _, rfl⟩) dX5_show_53)
    · exact e_thS (text := "the script has no grade") hx hb hst hown (by decide) (hts _ (List.mem_of_getElem? (i := 1) rfl)) (hts _ (List.mem_of_getElem? (i := 2) rfl)) (fun w h => hts w (List.mem_cons_of_mem _ (List.mem_append_left _ (List.mem_append_right _ (h))))) ng_S gd_S (by decide +kernel) hX hP hS (hl.1.trans hml.symm) dX5_show_34 dX5_show_37 dX5_show_38 dX5_show_40 dX5_show_43 hout (Nat.le_of_ble_eq_true rfl) (Nat.le_of_ble_eq_true rfl) (Nat.le_of_ble_eq_true rfl) (Nat.le_of_ble_eq_true rfl) hlocks (Or.inr ⟨rfl, by omega, by omega⟩) (Nat.le_of_ble_eq_true rfl) (Nat.le_of_ble_eq_true rfl)
  · exact e_thS (text := "the script is shown") hx hb hst hown (by decide) (hts _ (List.mem_of_getElem? (i := 1) rfl)) (hts _ (List.mem_of_getElem? (i := 2) rfl)) (fun w h => hts w (List.mem_cons_of_mem _ (List.mem_append_left _ (List.mem_append_right _ (h))))) ng_S gd_S (by decide +kernel) hX hP hS (hl.1.trans hml.symm) dX5_show_13 dX5_show_16 dX5_show_17 dX5_show_19 dX5_show_22 hout (Nat.le_of_ble_eq_true rfl) (Nat.le_of_ble_eq_true rfl) (Nat.le_of_ble_eq_true rfl) (Nat.le_of_ble_eq_true rfl) hlocks (Or.inr ⟨rfl, by omega, by omega⟩) (Nat.le_of_ble_eq_true rfl) (Nat.le_of_ble_eq_true rfl)

set_option maxRecDepth 100000 in
set_option maxHeartbeats 4000000 in
theorem c_X5_vote (l : Launch) (hst : l.stackTraces = false) (de mi : Nat) (D : va_G) (cy : Nat → ClassId) (M : mM) (sz : Nat) (B : Nat → Nat) (P : Nat → Option va_E) (cn : Nat → Nat) (x : Nat → Nat → Nat) (E : Nat → Nat → Option Nat) (nc : Nat) (y : Int32) (uy : Int) (z : Int32) (uz : Int) (t : Int32) (ut : Int)  (hH : hHolds M B P) (hSH : SH de cy B P cn x E) (hN : NB nc cn x) (py : y.toInt = uy) (pz : z.toInt = uz) (pt : t.toInt = ut) : mVi l yX5_vote wsX5_vote ({ frames := 7, cells := 4, slots := 24, locals := 103 } : Room) de mi D cy M sz [.ref (B 0), .int y, .int z, .int t] (fun r M' => (((0 ≤ uy ∧ uy < 4) ∧ 0 ≤ uz ∧ uz < cn 3) ∧ (0 ≤ ut ∧ ut ≤ 5) ∧ x 11 (uz).toNat ≠ 0 ∧ (x 10 (uz).toNat : Int) ≠ uy) ∧ r = nI (sumA (va_up (x (1003 + 8 * (uz).toNat)) uy.toNat ut.toNat) 4) ∧ ∃ (B9 : Nat → Nat) (P9 : Nat → Option va_E) (E9 : Nat → Nat → Option Nat), hHolds M' B9 P9 ∧ SH de cy B9 P9 (cn) (va_up x (1003 + 8 * (uz).toNat) (va_up (x (1003 + 8 * (uz).toNat)) uy.toNat ut.toNat)) E9 ∧ B9 0 = B 0) (fun E9 => (E9 = "java/lang/IndexOutOfBoundsException" ∧ ¬ ((0 ≤ uy ∧ uy < 4) ∧ 0 ≤ uz ∧ uz < cn 3)) ∨ (E9 = "java/lang/IllegalArgumentException" ∧ ((0 ≤ uy ∧ uy < 4) ∧ 0 ≤ uz ∧ uz < cn 3) ∧ ¬ (0 ≤ ut ∧ ut ≤ 5)) ∨ (E9 = "java/lang/IllegalStateException" ∧ ((0 ≤ uy ∧ uy < 4) ∧ 0 ≤ uz ∧ uz < cn 3) ∧ (0 ≤ ut ∧ ut ≤ 5) ∧ ¬ (x 11 (uz).toNat ≠ 0 ∧ (x 10 (uz).toNat : Int) ≠ uy))) 4 24 := by
  refine mV.of (cc := cX5_vote) (maxL := 5) (ret := (some .int)) (by decide) rfl (Nat.le_of_ble_eq_true rfl) ?_
  intro p e s m args below meth c ls hsz hx hb hr hts hown hlocks hml hout hname hP hD hS hA hK hX hl
  have hl : lv_has ls 5 [(0, .ref (B 0)), (1, .int y), (2, .int z), (3, .int t)] := hl
  have hown : s.vm.findClass RX5 = some m.cls := hown
  have hwX3 : ∀ w ∈ wsX30, w.before args s = true := fun w h => hts w (List.mem_cons_of_mem _ (List.mem_append_left _ (List.mem_append_left _ (List.mem_append_left _ (List.mem_append_left _ (List.mem_append_left _ (List.mem_append_right _ (h))))))))
  have hwX5 : ∀ w ∈ wsX50, w.before args s = true := fun w h => hts w (List.mem_cons_of_mem _ (List.mem_append_left _ (List.mem_append_left _ (List.mem_append_left _ (List.mem_append_left _ (List.mem_append_right _ (h)))))))
  have hwJx4a65c : ∀ w ∈ wsJx4a65c0, w.before args s = true := fun w h => hts w (List.mem_cons_of_mem _ (List.mem_append_left _ (List.mem_append_left _ (List.mem_append_left _ (List.mem_append_right _ (h))))))
  obtain ⟨hnc9, hc0, hc1, hc2, hc3, hxm⟩ := id hN
  have p_B_0 : P 0 = some (.inr (6, [.ref (B 1), .ref (B 3), .ref (B 6), .ref (B 8), .ref (B 10), .ref (B 12)])) := hSH.1.1
  have f_B_0 : M (B 0) = some (.inr (6, [.ref (B 1), .ref (B 3), .ref (B 6), .ref (B 8), .ref (B 10), .ref (B 12)])) := hH.1 _ _ p_B_0
  have p_B_10 : P 10 = some (.inr (0, [.int (nI (x 1 10)), .ref (B 11), .int (nI (cn 3))])) := hSH.2.2.2.1.1
  have f_B_10 : M (B 10) = some (.inr (0, [.int (nI (x 1 10)), .ref (B 11), .int (nI (cn 3))])) := hH.1 _ _ p_B_10
  have n_B_0_B_10 : nEq (B 0) (B 10) := hH.ne p_B_0 p_B_10 (by omega)
  refine lv_iload_n hx hb dX5_vote_0 rfl (lv_at hl 1 rfl) ?_
  refine x_callv (vx_runS (As := [.int y]) (rest := []) ⟨hx, hb, hml, hown, hts⟩ (c_X5_checkClass l hst de mi D cy _ _ y uy py) (va_cwS 1 hts gX5_vote_X5_checkClass rfl rfl rfl (by decide +kernel) ⟨Nat.le_of_ble_eq_true rfl, Nat.le_of_ble_eq_true rfl⟩) (mPreXS hX hD hS hA hK hP) rfl rfl hl.1 rfl (lv_room (Nat.le_of_ble_eq_true rfl)) dX5_vote_1 ⟨Nat.le_of_ble_eq_true rfl, Nat.le_of_ble_eq_true rfl⟩) hD hA hS hout hlocks (fun E9 h9 => Or.inl ⟨h9.1, fun h8 => h9.2 h8.1⟩) (Nat.le_of_ble_eq_true rfl) (Nat.le_of_ble_eq_true rfl) (fun Mn H locs hq9 hP hD hS hz9 => ?_)
  obtain ⟨hck_1, hq9⟩ := hq9
  rw [hq9] at hP hD
  refine lv_aload_n hx hb dX5_vote_4 rfl (lv_at hl 0 rfl) ?_
  refine lv_iload_n hx hb dX5_vote_5 rfl (lv_at hl 2 rfl) ?_
  obtain ⟨hl1_6, hl2_6, hl3_6, hl4_6⟩ := LI.num hSH.2.2.2.1 hH (ci := 4) (fs := scF B x) (fun j hj => (hSH.2.2.2.2.2.2 j hj).1)
  refine x_callr (vx_runV (C := RX5) (As := [.int z]) (rest := []) ⟨hx, hb, hml, hown, hts⟩ (c_X5_scriptNumbered l hst de mi D cy _ _ (B 0) (B 1) (B 3) (B 6) (B 8) (B 10) (B 12) (B 11) (cn 3) (x 1 10) (x 0 10) (E 10) (fun j => B (60 + 7 * j)) (scF B x) z uz (f_B_0) (f_B_10) hl1_6 hl2_6 hl3_6 hl4_6 pz) (cwV 1 hts gX5_vote_X5_scriptNumbered rfl rfl rfl (by decide +kernel) ⟨Nat.le_of_ble_eq_true rfl, Nat.le_of_ble_eq_true rfl⟩) (mPreXV hX hD hS hA hK hP f_B_0 (ci := 6) rfl) rfl rfl hl.1 rfl (lv_room (Nat.le_of_ble_eq_true rfl)) dX5_vote_6 ⟨Nat.le_of_ble_eq_true rfl, Nat.le_of_ble_eq_true rfl⟩) hD hA hS hout hlocks (fun E9 h9 => Or.inl ⟨h9.1, fun h8 => h9.2 h8.2⟩) (Nat.le_of_ble_eq_true rfl) (Nat.le_of_ble_eq_true rfl) (fun r9 Mn H locs hq9 hP hD hS hz9 => ?_)
  obtain ⟨hsc, hr9, hq9⟩ := hq9
  rw [hq9] at hP hD
  have hr9 : r9 = B (60 + 7 * (uz).toNat) := hr9
  rw [hr9]
  have hscn : (uz).toNat < cn 3 := (by omega)
  have p_B_60_7_uz_toNat : P (60 + 7 * (uz).toNat) = some (.inr (4, [.int (nI (x 10 (uz).toNat)), .ref (B (61 + 7 * (uz).toNat)), .int (nI (x 11 (uz).toNat)), .ref (B (64 + 7 * (uz).toNat)), .ref (B (65 + 7 * (uz).toNat)), .ref (B (66 + 7 * (uz).toNat)), .int (nI (x 12 (uz).toNat))])) := (hSH.2.2.2.2.2.2 (uz).toNat hscn).1
  have f_B_60_7_uz_toNat : M (B (60 + 7 * (uz).toNat)) = some (.inr (4, [.int (nI (x 10 (uz).toNat)), .ref (B (61 + 7 * (uz).toNat)), .int (nI (x 11 (uz).toNat)), .ref (B (64 + 7 * (uz).toNat)), .ref (B (65 + 7 * (uz).toNat)), .ref (B (66 + 7 * (uz).toNat)), .int (nI (x 12 (uz).toNat))])) := hH.1 _ _ p_B_60_7_uz_toNat
  have n_B_0_B_60_7_uz_toNat : nEq (B 0) (B (60 + 7 * (uz).toNat)) := hH.ne p_B_0 p_B_60_7_uz_toNat (by omega)
  have n_B_10_B_60_7_uz_toNat : nEq (B 10) (B (60 + 7 * (uz).toNat)) := hH.ne p_B_10 p_B_60_7_uz_toNat (by omega)
  have p_B_61_7_uz_toNat : P (61 + 7 * (uz).toNat) = some (.inr (1, [.ref (B (62 + 7 * (uz).toNat)), .ref (B (63 + 7 * (uz).toNat)), .int (nI (x 13 (uz).toNat))])) := (hSH.2.2.2.2.2.2 (uz).toNat hscn).2.1
  have f_B_61_7_uz_toNat : M (B (61 + 7 * (uz).toNat)) = some (.inr (1, [.ref (B (62 + 7 * (uz).toNat)), .ref (B (63 + 7 * (uz).toNat)), .int (nI (x 13 (uz).toNat))])) := hH.1 _ _ p_B_61_7_uz_toNat
  have n_B_0_B_61_7_uz_toNat : nEq (B 0) (B (61 + 7 * (uz).toNat)) := hH.ne p_B_0 p_B_61_7_uz_toNat (by omega)
  have n_B_10_B_61_7_uz_toNat : nEq (B 10) (B (61 + 7 * (uz).toNat)) := hH.ne p_B_10 p_B_61_7_uz_toNat (by omega)
  have n_B_60_7_uz_toNat_B_61_7_uz_toNat : nEq (B (60 + 7 * (uz).toNat)) (B (61 + 7 * (uz).toNat)) := hH.ne p_B_60_7_uz_toNat p_B_61_7_uz_toNat (by omega)
  have p_B_62_7_uz_toNat : P (62 + 7 * (uz).toNat) = some (eI cy 3 (x (1000 + 8 * (uz).toNat))) := (hSH.2.2.2.2.2.2 (uz).toNat hscn).2.2.1
  have f_B_62_7_uz_toNat : M (B (62 + 7 * (uz).toNat)) = some (eI cy 3 (x (1000 + 8 * (uz).toNat))) := hH.1 _ _ p_B_62_7_uz_toNat
  have n_B_0_B_62_7_uz_toNat : nEq (B 0) (B (62 + 7 * (uz).toNat)) := hH.ne p_B_0 p_B_62_7_uz_toNat (by omega)
  have n_B_10_B_62_7_uz_toNat : nEq (B 10) (B (62 + 7 * (uz).toNat)) := hH.ne p_B_10 p_B_62_7_uz_toNat (by omega)
  have n_B_60_7_uz_toNat_B_62_7_uz_toNat : nEq (B (60 + 7 * (uz).toNat)) (B (62 + 7 * (uz).toNat)) := hH.ne p_B_60_7_uz_toNat p_B_62_7_uz_toNat (by omega)
  have n_B_61_7_uz_toNat_B_62_7_uz_toNat : nEq (B (61 + 7 * (uz).toNat)) (B (62 + 7 * (uz).toNat)) := hH.ne p_B_61_7_uz_toNat p_B_62_7_uz_toNat (by omega)
  have p_B_63_7_uz_toNat : P (63 + 7 * (uz).toNat) = some (eI cy 3 (x (1001 + 8 * (uz).toNat))) := (hSH.2.2.2.2.2.2 (uz).toNat hscn).2.2.2.1
  have f_B_63_7_uz_toNat : M (B (63 + 7 * (uz).toNat)) = some (eI cy 3 (x (1001 + 8 * (uz).toNat))) := hH.1 _ _ p_B_63_7_uz_toNat
  have n_B_0_B_63_7_uz_toNat : nEq (B 0) (B (63 + 7 * (uz).toNat)) := hH.ne p_B_0 p_B_63_7_uz_toNat (by omega)
  have n_B_10_B_63_7_uz_toNat : nEq (B 10) (B (63 + 7 * (uz).toNat)) := hH.ne p_B_10 p_B_63_7_uz_toNat (by omega)
  have n_B_60_7_uz_toNat_B_63_7_uz_toNat : nEq (B (60 + 7 * (uz).toNat)) (B (63 + 7 * (uz).toNat)) := hH.ne p_B_60_7_uz_toNat p_B_63_7_uz_toNat (by omega)
  have n_B_61_7_uz_toNat_B_63_7_uz_toNat : nEq (B (61 + 7 * (uz).toNat)) (B (63 + 7 * (uz).toNat)) := hH.ne p_B_61_7_uz_toNat p_B_63_7_uz_toNat (by omega)
  have n_B_62_7_uz_toNat_B_63_7_uz_toNat : nEq (B (62 + 7 * (uz).toNat)) (B (63 + 7 * (uz).toNat)) := hH.ne p_B_62_7_uz_toNat p_B_63_7_uz_toNat (by omega)
  have p_B_64_7_uz_toNat : P (64 + 7 * (uz).toNat) = some (eI cy 5 (x (1002 + 8 * (uz).toNat))) := (hSH.2.2.2.2.2.2 (uz).toNat hscn).2.2.2.2.1
  have f_B_64_7_uz_toNat : M (B (64 + 7 * (uz).toNat)) = some (eI cy 5 (x (1002 + 8 * (uz).toNat))) := hH.1 _ _ p_B_64_7_uz_toNat
  have n_B_0_B_64_7_uz_toNat : nEq (B 0) (B (64 + 7 * (uz).toNat)) := hH.ne p_B_0 p_B_64_7_uz_toNat (by omega)
  have n_B_10_B_64_7_uz_toNat : nEq (B 10) (B (64 + 7 * (uz).toNat)) := hH.ne p_B_10 p_B_64_7_uz_toNat (by omega)
  have n_B_60_7_uz_toNat_B_64_7_uz_toNat : nEq (B (60 + 7 * (uz).toNat)) (B (64 + 7 * (uz).toNat)) := hH.ne p_B_60_7_uz_toNat p_B_64_7_uz_toNat (by omega)
  have n_B_61_7_uz_toNat_B_64_7_uz_toNat : nEq (B (61 + 7 * (uz).toNat)) (B (64 + 7 * (uz).toNat)) := hH.ne p_B_61_7_uz_toNat p_B_64_7_uz_toNat (by omega)
  have n_B_62_7_uz_toNat_B_64_7_uz_toNat : nEq (B (62 + 7 * (uz).toNat)) (B (64 + 7 * (uz).toNat)) := hH.ne p_B_62_7_uz_toNat p_B_64_7_uz_toNat (by omega)
  have n_B_63_7_uz_toNat_B_64_7_uz_toNat : nEq (B (63 + 7 * (uz).toNat)) (B (64 + 7 * (uz).toNat)) := hH.ne p_B_63_7_uz_toNat p_B_64_7_uz_toNat (by omega)
  have p_B_65_7_uz_toNat : P (65 + 7 * (uz).toNat) = some (eI cy 4 (x (1003 + 8 * (uz).toNat))) := (hSH.2.2.2.2.2.2 (uz).toNat hscn).2.2.2.2.2.1
  have f_B_65_7_uz_toNat : M (B (65 + 7 * (uz).toNat)) = some (eI cy 4 (x (1003 + 8 * (uz).toNat))) := hH.1 _ _ p_B_65_7_uz_toNat
  have n_B_0_B_65_7_uz_toNat : nEq (B 0) (B (65 + 7 * (uz).toNat)) := hH.ne p_B_0 p_B_65_7_uz_toNat (by omega)
  have n_B_10_B_65_7_uz_toNat : nEq (B 10) (B (65 + 7 * (uz).toNat)) := hH.ne p_B_10 p_B_65_7_uz_toNat (by omega)
  have n_B_60_7_uz_toNat_B_65_7_uz_toNat : nEq (B (60 + 7 * (uz).toNat)) (B (65 + 7 * (uz).toNat)) := hH.ne p_B_60_7_uz_toNat p_B_65_7_uz_toNat (by omega)
  have n_B_61_7_uz_toNat_B_65_7_uz_toNat : nEq (B (61 + 7 * (uz).toNat)) (B (65 + 7 * (uz).toNat)) := hH.ne p_B_61_7_uz_toNat p_B_65_7_uz_toNat (by omega)
  have n_B_62_7_uz_toNat_B_65_7_uz_toNat : nEq (B (62 + 7 * (uz).toNat)) (B (65 + 7 * (uz).toNat)) := hH.ne p_B_62_7_uz_toNat p_B_65_7_uz_toNat (by omega)
  have n_B_63_7_uz_toNat_B_65_7_uz_toNat : nEq (B (63 + 7 * (uz).toNat)) (B (65 + 7 * (uz).toNat)) := hH.ne p_B_63_7_uz_toNat p_B_65_7_uz_toNat (by omega)
  have n_B_64_7_uz_toNat_B_65_7_uz_toNat : nEq (B (64 + 7 * (uz).toNat)) (B (65 + 7 * (uz).toNat)) := hH.ne p_B_64_7_uz_toNat p_B_65_7_uz_toNat (by omega)
  have p_B_66_7_uz_toNat : P (66 + 7 * (uz).toNat) = some (eI cy 6 (x (1004 + 8 * (uz).toNat))) := (hSH.2.2.2.2.2.2 (uz).toNat hscn).2.2.2.2.2.2
  have f_B_66_7_uz_toNat : M (B (66 + 7 * (uz).toNat)) = some (eI cy 6 (x (1004 + 8 * (uz).toNat))) := hH.1 _ _ p_B_66_7_uz_toNat
  have n_B_0_B_66_7_uz_toNat : nEq (B 0) (B (66 + 7 * (uz).toNat)) := hH.ne p_B_0 p_B_66_7_uz_toNat (by omega)
  have n_B_10_B_66_7_uz_toNat : nEq (B 10) (B (66 + 7 * (uz).toNat)) := hH.ne p_B_10 p_B_66_7_uz_toNat (by omega)
  have n_B_60_7_uz_toNat_B_66_7_uz_toNat : nEq (B (60 + 7 * (uz).toNat)) (B (66 + 7 * (uz).toNat)) := hH.ne p_B_60_7_uz_toNat p_B_66_7_uz_toNat (by omega)
  have n_B_61_7_uz_toNat_B_66_7_uz_toNat : nEq (B (61 + 7 * (uz).toNat)) (B (66 + 7 * (uz).toNat)) := hH.ne p_B_61_7_uz_toNat p_B_66_7_uz_toNat (by omega)
  have n_B_62_7_uz_toNat_B_66_7_uz_toNat : nEq (B (62 + 7 * (uz).toNat)) (B (66 + 7 * (uz).toNat)) := hH.ne p_B_62_7_uz_toNat p_B_66_7_uz_toNat (by omega)
  have n_B_63_7_uz_toNat_B_66_7_uz_toNat : nEq (B (63 + 7 * (uz).toNat)) (B (66 + 7 * (uz).toNat)) := hH.ne p_B_63_7_uz_toNat p_B_66_7_uz_toNat (by omega)
  have n_B_64_7_uz_toNat_B_66_7_uz_toNat : nEq (B (64 + 7 * (uz).toNat)) (B (66 + 7 * (uz).toNat)) := hH.ne p_B_64_7_uz_toNat p_B_66_7_uz_toNat (by omega)
  have n_B_65_7_uz_toNat_B_66_7_uz_toNat : nEq (B (65 + 7 * (uz).toNat)) (B (66 + 7 * (uz).toNat)) := hH.ne p_B_65_7_uz_toNat p_B_66_7_uz_toNat (by omega)
  refine lv_astore (lv' := [(4, .ref (B (60 + 7 * (uz).toNat))), (0, .ref (B 0)), (1, .int y), (2, .int z), (3, .int t)]) hx hb dX5_vote_9 hl (by decide) rfl (fun ls hl => ?_)
  refine lv_iload_n hx hb dX5_vote_11 rfl (lv_at hl 4 rfl) ?_
  refine z_if_lt (u := ut) (tgt := 20) hx hb (pt) dX5_vote_12 (by decide) (fun c_12 => ?_) (fun c_12 => ?_)
  · exact e_thS (text := "a class votes with 0 to 5 points") hx hb hst hown (by decide) (hts _ (List.mem_of_getElem? (i := 1) rfl)) (hts _ (List.mem_of_getElem? (i := 2) rfl)) (fun w h => hts w (List.mem_cons_of_mem _ (List.mem_append_left _ (List.mem_append_left _ (List.mem_append_right _ (h)))))) ng_A gd_A (by decide +kernel) hX hP hS (hl.1.trans hml.symm) dX5_vote_20 dX5_vote_23 dX5_vote_24 dX5_vote_26 dX5_vote_29 hout (Nat.le_of_ble_eq_true rfl) (Nat.le_of_ble_eq_true rfl) (Nat.le_of_ble_eq_true rfl) (Nat.le_of_ble_eq_true rfl) hlocks (Or.inr (Or.inl ⟨rfl, by omega, by omega⟩)) (Nat.le_of_ble_eq_true rfl) (Nat.le_of_ble_eq_true rfl)
  · refine lv_iload_n hx hb dX5_vote_15 rfl (lv_at hl 4 rfl) ?_
    refine lv_iconst (v := (nI 5)) hx hb dX5_vote_16 (by decide) ?_
    refine z_icmp_le (u := ut) (v := ((5 : Nat) : Int)) (tgt := 30) hx hb (pt) (nI_toInt (by omega)) dX5_vote_17 (by decide) (fun c_17 => ?_) (fun c_17 => ?_)
    · have hvv : ∀ i9, x (1001 + 8 * (uz).toNat) i9 ≤ 20 := (fun i9 => Nat.le_trans (hxm (1001 + 8 * (uz).toNat) i9) (Nat.le_of_eq (xm_1 nc (uz).toNat)))
      have hxx : ∀ i9, x (1000 + 8 * (uz).toNat) i9 ≤ 5 := (fun i9 => Nat.le_trans (hxm (1000 + 8 * (uz).toNat) i9) (Nat.le_of_eq (xm_0 nc (uz).toNat)))
      have hss : ∀ i9, x (1002 + 8 * (uz).toNat) i9 ≤ 8 := (fun i9 => Nat.le_trans (hxm (1002 + 8 * (uz).toNat) i9) (Nat.le_of_eq (xm_2 nc (uz).toNat)))
      have hpp : ∀ i9, x (1003 + 8 * (uz).toNat) i9 ≤ 5 := (fun i9 => Nat.le_trans (hxm (1003 + 8 * (uz).toNat) i9) (Nat.le_of_eq (xm_3 nc (uz).toNat)))
      have hrr : ∀ i9, x (1004 + 8 * (uz).toNat) i9 ≤ 8 := (fun i9 => Nat.le_trans (hxm (1004 + 8 * (uz).toNat) i9) (Nat.le_of_eq (xm_4 nc (uz).toNat)))
      have h13 : x 13 (uz).toNat ≤ 3 := hxm 13 (uz).toNat
      have h12 : x 12 (uz).toNat ≤ 6 := hxm 12 (uz).toNat
      have h11 : x 11 (uz).toNat ≤ 1 := hxm 11 (uz).toNat
      have h10 : x 10 (uz).toNat ≤ 3 := hxm 10 (uz).toNat
      refine lv_aload hx hb dX5_vote_30 (lv_at hl 0 rfl) ?_
      refine m_get (T := TX3) (N := 7) (ci := 4) (fs := [.int (nI (x 10 (uz).toNat)), .ref (B (61 + 7 * (uz).toNat)), .int (nI (x 11 (uz).toNat)), .ref (B (64 + 7 * (uz).toNat)), .ref (B (65 + 7 * (uz).toNat)), .ref (B (66 + 7 * (uz).toNat)), .int (nI (x 12 (uz).toNat))]) hx hb hwX3 hown hK hP f_B_60_7_uz_toNat rfl 2 (by decide) (hts _ (List.mem_of_getElem? (i := 5) rfl)) (v := .int (nI (x 11 (uz).toNat))) rfl dX5_vote_32 ?_
      refine z_if_ne (u := ((x 11 (uz).toNat : Nat) : Int)) (tgt := 48) hx hb (nI_toInt (by omega)) dX5_vote_35 (by decide) (fun c_35 => ?_) (fun c_35 => ?_)
      · refine lv_aload hx hb dX5_vote_48 (lv_at hl 0 rfl) ?_
        refine m_get (T := TX3) (N := 7) (ci := 4) (fs := [.int (nI (x 10 (uz).toNat)), .ref (B (61 + 7 * (uz).toNat)), .int (nI (x 11 (uz).toNat)), .ref (B (64 + 7 * (uz).toNat)), .ref (B (65 + 7 * (uz).toNat)), .ref (B (66 + 7 * (uz).toNat)), .int (nI (x 12 (uz).toNat))]) hx hb hwX3 hown hK hP f_B_60_7_uz_toNat rfl 0 (by decide) (hts _ (List.mem_of_getElem? (i := 6) rfl)) (v := .int (nI (x 10 (uz).toNat))) rfl dX5_vote_50 ?_
        refine lv_iload_n hx hb dX5_vote_53 rfl (lv_at hl 2 rfl) ?_
        refine z_icmp_ne (u := ((x 10 (uz).toNat : Nat) : Int)) (v := uy) (tgt := 67) hx hb (nI_toInt (by omega)) (py) dX5_vote_54 (by decide) (fun c_54 => ?_) (fun c_54 => ?_)
        · have ex_1 : y = (nI uy.toNat) := nI_of_toInt (py) (by omega)
          have ex_3 : t = (nI ut.toNat) := nI_of_toInt (pt) (by omega)
          have hl : lv_has ls 5 [(4, .ref (B (60 + 7 * (uz).toNat))), (0, .ref (B 0)), (1, .int (nI uy.toNat)), (2, .int z), (3, .int (nI ut.toNat))] := by
            rw [← ex_1, ← ex_3]
            exact hl
          refine lv_aload hx hb dX5_vote_67 (lv_at hl 0 rfl) ?_
          refine lv_iload_n hx hb dX5_vote_69 rfl (lv_at hl 2 rfl) ?_
          refine lv_iload_n hx hb dX5_vote_70 rfl (lv_at hl 4 rfl) ?_
          refine m_callv (va_runV (C := RX3) (As := [.int (nI uy.toNat), .int (nI ut.toNat)]) (rest := []) ⟨hx, hb, hml, hown, hts⟩ (c_X3_setPoints l D cy _ _ (B (60 + 7 * (uz).toNat)) (B (61 + 7 * (uz).toNat)) (B (64 + 7 * (uz).toNat)) (B (65 + 7 * (uz).toNat)) (B (66 + 7 * (uz).toNat)) (x 10 (uz).toNat) (x 11 (uz).toNat) (x 12 (uz).toNat) (x (1002 + 8 * (uz).toNat)) (x (1003 + 8 * (uz).toNat)) (x (1004 + 8 * (uz).toNat)) uy.toNat ut.toNat (f_B_60_7_uz_toNat) (f_B_64_7_uz_toNat) (f_B_65_7_uz_toNat) (f_B_66_7_uz_toNat) (by omega)) (cwV 2 hts gX5_vote_X3_setPoints rfl rfl rfl (by decide +kernel) ⟨Nat.le_of_ble_eq_true rfl, Nat.le_of_ble_eq_true rfl⟩) (mPreWV hK hP f_B_60_7_uz_toNat (ci := 4) rfl) rfl rfl hl.1 rfl (lv_room (Nat.le_of_ble_eq_true rfl)) dX5_vote_71 ⟨Nat.le_of_ble_eq_true rfl, Nat.le_of_ble_eq_true rfl⟩) hD hA hS (fun Mn H locs hq9 hP hD hS hz9 hd9 hk9 => ?_)
          have hq9 : Mn = (mset M (B (65 + 7 * (uz).toNat)) (eI cy 4 (va_up (x (1003 + 8 * (uz).toNat)) uy.toNat ut.toNat))) := hq9
          subst hq9
          refine lv_aload hx hb dX5_vote_74 (lv_at hl 0 rfl) ?_
          refine vp_callSi (W.runV (C := RX3) (As := []) (rest := []) ⟨hx, hb, hml, hown, hts⟩ (c_X3_allPoints l D cy _ (B (60 + 7 * (uz).toNat)) (B (61 + 7 * (uz).toNat)) (B (64 + 7 * (uz).toNat)) (B (65 + 7 * (uz).toNat)) (B (66 + 7 * (uz).toNat)) (x 10 (uz).toNat) (x 11 (uz).toNat) (x 12 (uz).toNat) (x (1002 + 8 * (uz).toNat)) (va_up (x (1003 + 8 * (uz).toNat)) uy.toNat ut.toNat) (x (1004 + 8 * (uz).toNat)) ((mset_ne n_B_60_7_uz_toNat_B_65_7_uz_toNat).trans (f_B_60_7_uz_toNat)) ((mset_ne n_B_64_7_uz_toNat_B_65_7_uz_toNat).trans (f_B_64_7_uz_toNat)) (mset_self _ _ _) ((mset_ne (Ne.symm n_B_65_7_uz_toNat_B_66_7_uz_toNat)).trans (f_B_66_7_uz_toNat)) (up_le (g := x (1003 + 8 * (uz).toNat)) hpp (by omega))) (cwV 0 hts gX5_vote_X3_allPoints rfl rfl rfl (by decide +kernel) ⟨Nat.le_of_ble_eq_true rfl, Nat.le_of_ble_eq_true rfl⟩) (mPreV hK hP ((mset_ne n_B_60_7_uz_toNat_B_65_7_uz_toNat).trans (f_B_60_7_uz_toNat)) (ci := 4) rfl) rfl rfl hl.1 rfl (lv_room (Nat.le_of_ble_eq_true rfl)) dX5_vote_76 ⟨Nat.le_of_ble_eq_true rfl, Nat.le_of_ble_eq_true rfl⟩) (fun r9 hr9 => ?_)
          have hr9 : r9 = (nI (sumA (va_up (x (1003 + 8 * (uz).toNat)) uy.toNat ut.toNat) 4)) := hr9
          subst hr9
          exact vx_ret (e_wi hx hb hr hlocks hP hD hS (⟨⟨by omega, by omega, by omega⟩, rfl, B, _, E, (hH.put (65 + 7 * (uz).toNat) _ (p_ne p_B_65_7_uz_toNat)), hSH.points hc1 hc2 _ _, rfl⟩) dX5_vote_79)
        · exact e_thS (text := "the script is by a pupil of the class") hx hb hst hown (by decide) (hts _ (List.mem_of_getElem? (i := 3) rfl)) (hts _ (List.mem_of_getElem? (i := 4) rfl)) (fun w h => hts w (List.mem_cons_of_mem _ (List.mem_append_left _ (List.mem_append_right _ (h))))) ng_S gd_S (by decide +kernel) hX hP hS (hl.1.trans hml.symm) dX5_vote_57 dX5_vote_60 dX5_vote_61 dX5_vote_63 dX5_vote_66 hout (Nat.le_of_ble_eq_true rfl) (Nat.le_of_ble_eq_true rfl) (Nat.le_of_ble_eq_true rfl) (Nat.le_of_ble_eq_true rfl) hlocks (Or.inr (Or.inr ⟨rfl, by omega, by omega, by omega⟩)) (Nat.le_of_ble_eq_true rfl) (Nat.le_of_ble_eq_true rfl)
      · exact e_thS (text := "the script is not shown") hx hb hst hown (by decide) (hts _ (List.mem_of_getElem? (i := 3) rfl)) (hts _ (List.mem_of_getElem? (i := 4) rfl)) (fun w h => hts w (List.mem_cons_of_mem _ (List.mem_append_left _ (List.mem_append_right _ (h))))) ng_S gd_S (by decide +kernel) hX hP hS (hl.1.trans hml.symm) dX5_vote_38 dX5_vote_41 dX5_vote_42 dX5_vote_44 dX5_vote_47 hout (Nat.le_of_ble_eq_true rfl) (Nat.le_of_ble_eq_true rfl) (Nat.le_of_ble_eq_true rfl) (Nat.le_of_ble_eq_true rfl) hlocks (Or.inr (Or.inr ⟨rfl, by omega, by omega, by omega⟩)) (Nat.le_of_ble_eq_true rfl) (Nat.le_of_ble_eq_true rfl)
    · exact e_thS (text := "a class votes with 0 to 5 points") hx hb hst hown (by decide) (hts _ (List.mem_of_getElem? (i := 1) rfl)) (hts _ (List.mem_of_getElem? (i := 2) rfl)) (fun w h => hts w (List.mem_cons_of_mem _ (List.mem_append_left _ (List.mem_append_left _ (List.mem_append_right _ (h)))))) ng_A gd_A (by decide +kernel) hX hP hS (hl.1.trans hml.symm) dX5_vote_20 dX5_vote_23 dX5_vote_24 dX5_vote_26 dX5_vote_29 hout (Nat.le_of_ble_eq_true rfl) (Nat.le_of_ble_eq_true rfl) (Nat.le_of_ble_eq_true rfl) (Nat.le_of_ble_eq_true rfl) hlocks (Or.inr (Or.inl ⟨rfl, by omega, by omega⟩)) (Nat.le_of_ble_eq_true rfl) (Nat.le_of_ble_eq_true rfl)
