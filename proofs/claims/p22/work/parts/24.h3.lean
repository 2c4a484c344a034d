set_option maxRecDepth 100000 in
set_option maxHeartbeats 4000000 in
theorem c_X5_stroke (l : Launch) (hst : l.stackTraces = false) (de mi : Nat) (D : va_G) (cy : Nat → ClassId) (M : mM) (sz : Nat) (B : Nat → Nat) (P : Nat → Option va_E) (cn : Nat → Nat) (x : Nat → Nat → Nat) (E : Nat → Nat → Option Nat) (nc : Nat) (y : Int32) (uy : Int) (z : Int32) (uz : Int)  (hH : hHolds M B P) (hSH : SH de cy B P cn x E) (hN : NB nc cn x) (py : y.toInt = uy) (pz : z.toInt = uz) : mVi l yX5_stroke wsX5_stroke ({ frames := 7, cells := 4, slots := 24, locals := 102 } : Room) de mi D cy M sz [.ref (B 0), .int y, .int z] (fun r M' => (((0 ≤ uy ∧ uy < 9) ∧ (0 ≤ uz ∧ uz < 9)) ∧ uy ≠ uz ∧ cn 0 < 8) ∧ r = nI (cn 0 + 1) ∧ ∃ (B9 : Nat → Nat) (P9 : Nat → Option va_E) (E9 : Nat → Nat → Option Nat), hHolds M' B9 P9 ∧ SH de cy B9 P9 (va_up cn 0 (cn 0 + 1)) (va_up x 2 (va_up (x 2) (cn 0) (10 * uy.toNat + uz.toNat))) E9 ∧ B9 0 = B 0) (fun E9 => (E9 = "java/lang/IndexOutOfBoundsException" ∧ ¬ ((0 ≤ uy ∧ uy < 9) ∧ (0 ≤ uz ∧ uz < 9))) ∨ (E9 = "java/lang/IllegalArgumentException" ∧ ((0 ≤ uy ∧ uy < 9) ∧ (0 ≤ uz ∧ uz < 9)) ∧ uy = uz) ∨ (E9 = "java/lang/IllegalStateException" ∧ ((0 ≤ uy ∧ uy < 9) ∧ (0 ≤ uz ∧ uz < 9)) ∧ uy ≠ uz ∧ ¬ cn 0 < 8)) 4 24 := by
  refine mV.of (cc := cX5_stroke) (maxL := 3) (ret := (some .int)) (by decide) rfl (Nat.le_of_ble_eq_true rfl) ?_
  intro p e s m args below meth c ls hsz hx hb hr hts hown hlocks hml hout hname hP hD hS hA hK hX hl
  have hl : lv_has ls 3 [(0, .ref (B 0)), (1, .int y), (2, .int z)] := hl
  have hown : s.vm.findClass RX5 = some m.cls := hown
  have hwX5 : ∀ w ∈ wsX50, w.before args s = true := fun w h => hts w (List.mem_cons_of_mem _ (List.mem_append_left _ (List.mem_append_left _ (List.mem_append_left _ (List.mem_append_left _ (List.mem_append_right _ (h)))))))
  have hwX4 : ∀ w ∈ wsX40, w.before args s = true := fun w h => hts w (List.mem_cons_of_mem _ (List.mem_append_left _ (List.mem_append_left _ (List.mem_append_left _ (List.mem_append_right _ (h))))))
  obtain ⟨hnc9, hc0, hc1, hc2, hc3, hxm⟩ := id hN
  have p_B_0 : P 0 = some (.inr (6, [.ref (B 1), .ref (B 3), .ref (B 6), .ref (B 8), .ref (B 10), .ref (B 12)])) := hSH.1.1
  have f_B_0 : M (B 0) = some (.inr (6, [.ref (B 1), .ref (B 3), .ref (B 6), .ref (B 8), .ref (B 10), .ref (B 12)])) := hH.1 _ _ p_B_0
  have p_B_1 : P 1 = some (.inr (5, [.ref (B 2), .int (nI (cn 0))])) := hSH.1.2.1
  have f_B_1 : M (B 1) = some (.inr (5, [.ref (B 2), .int (nI (cn 0))])) := hH.1 _ _ p_B_1
  have n_B_0_B_1 : nEq (B 0) (B 1) := hH.ne p_B_0 p_B_1 (by omega)
  have p_B_2 : P 2 = some (eI cy 8 (x 2)) := hSH.1.2.2.1
  have f_B_2 : M (B 2) = some (eI cy 8 (x 2)) := hH.1 _ _ p_B_2
  have n_B_0_B_2 : nEq (B 0) (B 2) := hH.ne p_B_0 p_B_2 (by omega)
  have n_B_1_B_2 : nEq (B 1) (B 2) := hH.ne p_B_1 p_B_2 (by omega)
  refine lv_iload_n hx hb dX5_stroke_0 rfl (lv_at hl 1 rfl) ?_
  refine x_callv (vx_runS (As := [.int y]) (rest := []) ⟨hx, hb, hml, hown, hts⟩ (c_X5_checkDot l hst de mi D cy _ _ y uy py) (va_cwS 1 hts gX5_stroke_X5_checkDot rfl rfl rfl (by decide +kernel) ⟨Nat.le_of_ble_eq_true rfl, Nat.le_of_ble_eq_true rfl⟩) (mPreXS hX hD hS hA hK hP) rfl rfl hl.1 rfl (lv_room (Nat.le_of_ble_eq_true rfl)) dX5_stroke_1 ⟨Nat.le_of_ble_eq_true rfl, Nat.le_of_ble_eq_true rfl⟩) hD hA hS hout hlocks (fun E9 h9 => Or.inl ⟨h9.1, fun h8 => h9.2 h8.1⟩) (Nat.le_of_ble_eq_true rfl) (Nat.le_of_ble_eq_true rfl) (fun Mn H locs hq9 hP hD hS hz9 => ?_)
  obtain ⟨hck_1, hq9⟩ := hq9
  rw [hq9] at hP hD
  refine lv_iload_n hx hb dX5_stroke_4 rfl (lv_at hl 2 rfl) ?_
  refine x_callv (vx_runS (As := [.int z]) (rest := []) ⟨hx, hb, hml, hown, hts⟩ (c_X5_checkDot l hst de mi D cy _ _ z uz pz) (va_cwS 1 hts gX5_stroke_X5_checkDot rfl rfl rfl (by decide +kernel) ⟨Nat.le_of_ble_eq_true rfl, Nat.le_of_ble_eq_true rfl⟩) (mPreXS hX hD hS hA hK hP) rfl rfl hl.1 rfl (lv_room (Nat.le_of_ble_eq_true rfl)) dX5_stroke_5 ⟨Nat.le_of_ble_eq_true rfl, Nat.le_of_ble_eq_true rfl⟩) hD hA hS hout hlocks (fun E9 h9 => Or.inl ⟨h9.1, fun h8 => h9.2 h8.2⟩) (Nat.le_of_ble_eq_true rfl) (Nat.le_of_ble_eq_true rfl) (fun Mn H locs hq9 hP hD hS hz9 => ?_)
  obtain ⟨hck_5, hq9⟩ := hq9
  rw [hq9] at hP hD
  refine lv_iload_n hx hb dX5_stroke_8 rfl (lv_at hl 1 rfl) ?_
  refine lv_iload_n hx hb dX5_stroke_9 rfl (lv_at hl 2 rfl) ?_
  refine z_icmp_ne (u := uy) (v := uz) (tgt := 23) hx hb (py) (pz) dX5_stroke_10 (by decide) (fun c_10 => ?_) (fun c_10 => ?_)
  · refine lv_aload_n hx hb dX5_stroke_23 rfl (lv_at hl 0 rfl) ?_
    refine m_get (T := TX5) (N := 6) (ci := 6) (fs := [.ref (B 1), .ref (B 3), .ref (B 6), .ref (B 8), .ref (B 10), .ref (B 12)]) hx hb hwX5 hown hK hP f_B_0 rfl 0 (by decide) (hts _ (List.mem_of_getElem? (i := 5) rfl)) (v := .ref (B 1)) rfl dX5_stroke_24 ?_
    refine vp_callSi (W.runV (C := RX4) (As := []) (rest := []) ⟨hx, hb, hml, hown, hts⟩ (c_X4_size l D cy _ (B 1) (B 2) (cn 0) (x 2) (f_B_1) (f_B_2)) (cwV 0 hts gX5_stroke_X4_size rfl rfl rfl (by decide +kernel) ⟨Nat.le_of_ble_eq_true rfl, Nat.le_of_ble_eq_true rfl⟩) (mPreV hK hP f_B_1 (ci := 5) rfl) rfl rfl hl.1 rfl (lv_room (Nat.le_of_ble_eq_true rfl)) dX5_stroke_27 ⟨Nat.le_of_ble_eq_true rfl, Nat.le_of_ble_eq_true rfl⟩) (fun r9 hr9 => ?_)
    have hr9 : r9 = (nI (cn 0)) := hr9
    subst hr9
    refine lv_bipush (v := (nI 8)) hx hb dX5_stroke_30 (by decide) ?_
    refine z_icmp_lt (u := ((cn 0 : Nat) : Int)) (v := ((8 : Nat) : Int)) (tgt := 45) hx hb (nI_toInt (by omega)) (nI_toInt (by omega)) dX5_stroke_32 (by decide) (fun c_32 => ?_) (fun c_32 => ?_)
    · have ex_1 : y = (nI uy.toNat) := nI_of_toInt (py) (by omega)
      have ex_2 : z = (nI uz.toNat) := nI_of_toInt (pz) (by omega)
      have hl : lv_has ls 3 [(0, .ref (B 0)), (1, .int (nI uy.toNat)), (2, .int (nI uz.toNat))] := by
        rw [← ex_1, ← ex_2]
        exact hl
      refine lv_aload_n hx hb dX5_stroke_45 rfl (lv_at hl 0 rfl) ?_
      refine m_get (T := TX5) (N := 6) (ci := 6) (fs := [.ref (B 1), .ref (B 3), .ref (B 6), .ref (B 8), .ref (B 10), .ref (B 12)]) hx hb hwX5 hown hK hP f_B_0 rfl 0 (by decide) (hts _ (List.mem_of_getElem? (i := 5) rfl)) (v := .ref (B 1)) rfl dX5_stroke_46 ?_
      refine lv_iload_n hx hb dX5_stroke_49 rfl (lv_at hl 1 rfl) ?_
      refine lv_iload_n hx hb dX5_stroke_50 rfl (lv_at hl 2 rfl) ?_
      refine vp_callSi (W.runS (As := [.int (nI uy.toNat), .int (nI uz.toNat)]) (rest := [.ref (B 1)]) ⟨hx, hb, hml, hown, hts⟩ (c_X4_codeOf l uy.toNat uz.toNat (by omega) (by omega)) (va_cwS 2 hts gX5_stroke_X4_codeOf rfl rfl rfl (by decide +kernel) ⟨Nat.le_of_ble_eq_true rfl, Nat.le_of_ble_eq_true rfl⟩) mPre0 rfl rfl hl.1 rfl (lv_room (Nat.le_of_ble_eq_true rfl)) dX5_stroke_51 ⟨Nat.le_of_ble_eq_true rfl, Nat.le_of_ble_eq_true rfl⟩) (fun r9 hr9 => ?_)
      have hr9 : r9 = (nI (10 * uy.toNat + uz.toNat)) := hr9
      subst hr9
      refine m_callv (va_runV (C := RX4) (As := [.int (nI (10 * uy.toNat + uz.toNat))]) (rest := []) ⟨hx, hb, hml, hown, hts⟩ (c_X4_add l D cy _ _ (B 1) (B 2) (cn 0) (x 2) (10 * uy.toNat + uz.toNat) (f_B_1) (f_B_2) (by omega)) (cwV 1 hts gX5_stroke_X4_add rfl rfl rfl (by decide +kernel) ⟨Nat.le_of_ble_eq_true rfl, Nat.le_of_ble_eq_true rfl⟩) (mPreWV hK hP f_B_1 (ci := 5) rfl) rfl rfl hl.1 rfl (lv_room (Nat.le_of_ble_eq_true rfl)) dX5_stroke_54 ⟨Nat.le_of_ble_eq_true rfl, Nat.le_of_ble_eq_true rfl⟩) hD hA hS (fun Mn H locs hq9 hP hD hS hz9 hd9 hk9 => ?_)
      have hq9 : Mn = (mset (mset M (B 2) (eI cy 8 (va_up (x 2) (cn 0) (10 * uy.toNat + uz.toNat)))) (B 1) (.inr (5, [.ref (B 2), .int (nI (cn 0 + 1))]))) := hq9
      subst hq9
      refine lv_aload_n hx hb dX5_stroke_57 rfl (lv_at hl 0 rfl) ?_
      refine m_get (T := TX5) (N := 6) (ci := 6) (fs := [.ref (B 1), .ref (B 3), .ref (B 6), .ref (B 8), .ref (B 10), .ref (B 12)]) hx hb hwX5 hown hK hP ((mset_ne n_B_0_B_1).trans ((mset_ne n_B_0_B_2).trans (f_B_0))) rfl 0 (by decide) (hts _ (List.mem_of_getElem? (i := 5) rfl)) (v := .ref (B 1)) rfl dX5_stroke_58 ?_
      refine vp_callSi (W.runV (C := RX4) (As := []) (rest := []) ⟨hx, hb, hml, hown, hts⟩ (c_X4_size l D cy _ (B 1) (B 2) (cn 0 + 1) (va_up (x 2) (cn 0) (10 * uy.toNat + uz.toNat)) (mset_self _ _ _) ((mset_ne (Ne.symm n_B_1_B_2)).trans (mset_self _ _ _))) (cwV 0 hts gX5_stroke_X4_size rfl rfl rfl (by decide +kernel) ⟨Nat.le_of_ble_eq_true rfl, Nat.le_of_ble_eq_true rfl⟩) (mPreV hK hP (mset_self _ _ _) (ci := 5) rfl) rfl rfl hl.1 rfl (lv_room (Nat.le_of_ble_eq_true rfl)) dX5_stroke_61 ⟨Nat.le_of_ble_eq_true rfl, Nat.le_of_ble_eq_true rfl⟩) (fun r9 hr9 => ?_)
      have hr9 : r9 = (nI (cn 0 + 1)) := hr9
      subst hr9
      exact vx_ret (e_wi hx hb hr hlocks hP hD hS (⟨by omega, rfl, B, _, E, ((hH.put (2) _ (p_ne p_B_2)).put (1) _ (by rw [va_up_ne _ _ (by omega)]; exact p_ne p_B_1)), hSH.pen _ _, rfl⟩) dX5_stroke_64)
    · exact e_thS (text := "the pen has all strokes that it can have") hx hb hst hown (by decide) (hts _ (List.mem_of_getElem? (i := 3) rfl)) (hts _ (List.mem_of_getElem? (i := 4) rfl)) (fun w h => hts w (List.mem_cons_of_mem _ (List.mem_append_left _ (List.mem_append_right _ (h))))) ng_S gd_S (by decide +kernel) hX hP hS (hl.1.trans hml.symm) dX5_stroke_35 dX5_stroke_38 dX5_stroke_39 dX5_stroke_41 dX5_stroke_44 hout (Nat.le_of_ble_eq_true rfl) (Nat.le_of_ble_eq_true rfl) (Nat.le_of_ble_eq_true rfl) (Nat.le_of_ble_eq_true rfl) hlocks (Or.inr (Or.inr ⟨rfl, by omega⟩)) (Nat.le_of_ble_eq_true rfl) (Nat.le_of_ble_eq_true rfl)
  · exact e_thS (text := "a stroke goes to another dot") hx hb hst hown (by decide) (hts _ (List.mem_of_getElem? (i := 1) rfl)) (hts _ (List.mem_of_getElem? (i := 2) rfl)) (fun w h => hts w (List.mem_cons_of_mem _ (List.mem_append_left _ (List.mem_append_left _ (List.mem_append_right _ (h)))))) ng_A gd_A (by decide +kernel) hX hP hS (hl.1.trans hml.symm) dX5_stroke_13 dX5_stroke_16 dX5_stroke_17 dX5_stroke_19 dX5_stroke_22 hout (Nat.le_of_ble_eq_true rfl) (Nat.le_of_ble_eq_true rfl) (Nat.le_of_ble_eq_true rfl) (Nat.le_of_ble_eq_true rfl) hlocks (Or.inr (Or.inl ⟨rfl, by omega⟩)) (Nat.le_of_ble_eq_true rfl) (Nat.le_of_ble_eq_true rfl)

set_option maxRecDepth 100000 in
set_option maxHeartbeats 4000000 in
theorem c_X5_lift (l : Launch) (D : va_G) (cy : Nat → ClassId) (M : mM) (sz : Nat) (de : Nat) (B : Nat → Nat) (P : Nat → Option va_E) (cn : Nat → Nat) (x : Nat → Nat → Nat) (E : Nat → Nat → Option Nat) (nc : Nat)  (hH : hHolds M B P) (hSH : SH de cy B P cn x E) (hN : NB nc cn x)  : mWi l yX5_lift wsX5_lift ({ frames := 1, cells := 0, slots := 0, locals := 20 } : Room) D cy M sz [.ref (B 0)] (fun r M' => r = nI (cn 0) ∧ ∃ (B9 : Nat → Nat) (P9 : Nat → Option va_E) (E9 : Nat → Nat → Option Nat), hHolds M' B9 P9 ∧ SH de cy B9 P9 (va_up cn 0 0) (x) E9 ∧ B9 0 = B 0) 0 0 := by
  refine mW.of (cc := cX5_lift) (maxL := 2) (ret := (some .int)) (by decide) rfl (Nat.le_of_ble_eq_true rfl) ?_
  intro p e s m args below meth c ls hsz hx hb hr hts hown hlocks hml hname hP hD hS hA hK hl
  have hl : lv_has ls 2 [(0, .ref (B 0))] := hl
  have hown : s.vm.findClass RX5 = some m.cls := hown
  have hwX5 : ∀ w ∈ wsX50, w.before args s = true := fun w h => hts w (List.mem_cons_of_mem _ (List.mem_append_left _ (List.mem_append_right _ (h))))
  have hwX4 : ∀ w ∈ wsX40, w.before args s = true := fun w h => hts w (List.mem_cons_of_mem _ (List.mem_append_right _ (h)))
  obtain ⟨hnc9, hc0, hc1, hc2, hc3, hxm⟩ := id hN
  have p_B_0 : P 0 = some (.inr (6, [.ref (B 1), .ref (B 3), .ref (B 6), .ref (B 8), .ref (B 10), .ref (B 12)])) := hSH.1.1
  have f_B_0 : M (B 0) = some (.inr (6, [.ref (B 1), .ref (B 3), .ref (B 6), .ref (B 8), .ref (B 10), .ref (B 12)])) := hH.1 _ _ p_B_0
  have p_B_1 : P 1 = some (.inr (5, [.ref (B 2), .int (nI (cn 0))])) := hSH.1.2.1
  have f_B_1 : M (B 1) = some (.inr (5, [.ref (B 2), .int (nI (cn 0))])) := hH.1 _ _ p_B_1
  have n_B_0_B_1 : nEq (B 0) (B 1) := hH.ne p_B_0 p_B_1 (by omega)
  have p_B_2 : P 2 = some (eI cy 8 (x 2)) := hSH.1.2.2.1
  have f_B_2 : M (B 2) = some (eI cy 8 (x 2)) := hH.1 _ _ p_B_2
  have n_B_0_B_2 : nEq (B 0) (B 2) := hH.ne p_B_0 p_B_2 (by omega)
  have n_B_1_B_2 : nEq (B 1) (B 2) := hH.ne p_B_1 p_B_2 (by omega)
  refine lv_aload_n hx hb dX5_lift_0 rfl (lv_at hl 0 rfl) ?_
  refine m_get (T := TX5) (N := 6) (ci := 6) (fs := [.ref (B 1), .ref (B 3), .ref (B 6), .ref (B 8), .ref (B 10), .ref (B 12)]) hx hb hwX5 hown hK hP f_B_0 rfl 0 (by decide) (hts _ (List.mem_of_getElem? (i := 1) rfl)) (v := .ref (B 1)) rfl dX5_lift_1 ?_
  refine vp_callSi (W.runV (C := RX4) (As := []) (rest := []) ⟨hx, hb, hml, hown, hts⟩ (c_X4_size l D cy _ (B 1) (B 2) (cn 0) (x 2) (f_B_1) (f_B_2)) (cwV 0 hts gX5_lift_X4_size rfl rfl rfl (by decide +kernel) ⟨Nat.le_of_ble_eq_true rfl, Nat.le_of_ble_eq_true rfl⟩) (mPreV hK hP f_B_1 (ci := 5) rfl) rfl rfl hl.1 rfl (lv_room (Nat.le_of_ble_eq_true rfl)) dX5_lift_4 ⟨Nat.le_of_ble_eq_true rfl, Nat.le_of_ble_eq_true rfl⟩) (fun r9 hr9 => ?_)
  have hr9 : r9 = (nI (cn 0)) := hr9
  subst hr9
  refine lv_istore_n (lv' := [(1, .int (nI (cn 0))), (0, .ref (B 0))]) hx hb dX5_lift_7 rfl hl (by decide) rfl (fun ls hl => ?_)
  refine lv_aload_n hx hb dX5_lift_8 rfl (lv_at hl 1 rfl) ?_
  refine m_get (T := TX5) (N := 6) (ci := 6) (fs := [.ref (B 1), .ref (B 3), .ref (B 6), .ref (B 8), .ref (B 10), .ref (B 12)]) hx hb hwX5 hown hK hP f_B_0 rfl 0 (by decide) (hts _ (List.mem_of_getElem? (i := 1) rfl)) (v := .ref (B 1)) rfl dX5_lift_9 ?_
  refine m_callv (va_runV (C := RX4) (As := []) (rest := []) ⟨hx, hb, hml, hown, hts⟩ (c_X4_clear l D cy _ _ (B 1) (B 2) (cn 0) (x 2) (f_B_1) (f_B_2)) (cwV 0 hts gX5_lift_X4_clear rfl rfl rfl (by decide +kernel) ⟨Nat.le_of_ble_eq_true rfl, Nat.le_of_ble_eq_true rfl⟩) (mPreWV hK hP f_B_1 (ci := 5) rfl) rfl rfl hl.1 rfl (lv_room (Nat.le_of_ble_eq_true rfl)) dX5_lift_12 ⟨Nat.le_of_ble_eq_true rfl, Nat.le_of_ble_eq_true rfl⟩) hD hA hS (fun Mn H locs hq9 hP hD hS hz9 hd9 hk9 => ?_)
  have hq9 : Mn = (mset M (B 1) (.inr (5, [.ref (B 2), .int (nI 0)]))) := hq9
  subst hq9
  refine lv_iload_n hx hb dX5_lift_15 rfl (lv_at hl 0 rfl) ?_
  exact e_wi hx hb hr hlocks hP hD hS (⟨rfl, B, _, E, (hH.put (1) _ (p_ne p_B_1)), hSH.lift _, rfl⟩) dX5_lift_16

set_option maxRecDepth 100000 in
set_option maxHeartbeats 4000000 in
theorem c_X5_print (l : Launch) (hst : l.stackTraces = false) (de mi : Nat) (D : va_G) (cy : Nat → ClassId) (M : mM) (sz : Nat) (B : Nat → Nat) (P : Nat → Option va_E) (cn : Nat → Nat) (x : Nat → Nat → Nat) (E : Nat → Nat → Option Nat) (nc : Nat) (y : Int32) (uy : Int) (b : Bool) (z : Int32) (uz : Int)  (hH : hHolds M B P) (hSH : SH de cy B P cn x E) (hN : NB nc cn x) (py : y.toInt = uy) (pz : z.toInt = uz) : mVi l yX5_print wsX5_print ({ frames := 7, cells := 4, slots := 24, locals := 102 } : Room) de mi D cy M sz [.ref (B 0), .int y, .int (nI (b2 b)), .int z] (fun r M' => ((0 ≤ uy ∧ uy < 3) ∧ 1 ≤ uz ∧ uz ≤ 50) ∧ r = nI (cntC (x 3) (x 4) (b2 b) uy.toNat + uz.toNat) ∧ ∃ (B9 : Nat → Nat) (P9 : Nat → Option va_E) (E9 : Nat → Nat → Option Nat), hHolds M' B9 P9 ∧ SH de cy B9 P9 (cn) (if b2 b = 0 then va_up x 4 (va_up (x 4) uy.toNat (x 4 uy.toNat + uz.toNat)) else va_up x 3 (va_up (x 3) uy.toNat (x 3 uy.toNat + uz.toNat))) E9 ∧ B9 0 = B 0) (fun E9 => (E9 = "java/lang/IndexOutOfBoundsException" ∧ ¬ (0 ≤ uy ∧ uy < 3)) ∨ (E9 = "java/lang/IllegalArgumentException" ∧ (0 ≤ uy ∧ uy < 3) ∧ ¬ (1 ≤ uz ∧ uz ≤ 50))) 4 24 := by
  refine mV.of (cc := cX5_print) (maxL := 4) (ret := (some .int)) (by decide) rfl (Nat.le_of_ble_eq_true rfl) ?_
  intro p e s m args below meth c ls hsz hx hb hr hts hown hlocks hml hout hname hP hD hS hA hK hX hl
  have hl : lv_has ls 4 [(0, .ref (B 0)), (1, .int y), (2, .int (nI (b2 b))), (3, .int z)] := hl
  have hown : s.vm.findClass RX5 = some m.cls := hown
  have hwX5 : ∀ w ∈ wsX50, w.before args s = true := fun w h => hts w (List.mem_cons_of_mem _ (List.mem_append_left _ (List.mem_append_left _ (List.mem_append_left _ (List.mem_append_right _ (h))))))
  have hwX1 : ∀ w ∈ wsX10, w.before args s = true := fun w h => hts w (List.mem_cons_of_mem _ (List.mem_append_left _ (List.mem_append_left _ (List.mem_append_right _ (h)))))
  obtain ⟨hnc9, hc0, hc1, hc2, hc3, hxm⟩ := id hN
  have p_B_0 : P 0 = some (.inr (6, [.ref (B 1), .ref (B 3), .ref (B 6), .ref (B 8), .ref (B 10), .ref (B 12)])) := hSH.1.1
  have f_B_0 : M (B 0) = some (.inr (6, [.ref (B 1), .ref (B 3), .ref (B 6), .ref (B 8), .ref (B 10), .ref (B 12)])) := hH.1 _ _ p_B_0
  have p_B_3 : P 3 = some (.inr (2, [.ref (B 4), .ref (B 5)])) := hSH.1.2.2.2.1
  have f_B_3 : M (B 3) = some (.inr (2, [.ref (B 4), .ref (B 5)])) := hH.1 _ _ p_B_3
  have n_B_0_B_3 : nEq (B 0) (B 3) := hH.ne p_B_0 p_B_3 (by omega)
  have p_B_4 : P 4 = some (eI cy 3 (x 3)) := hSH.1.2.2.2.2.1
  have f_B_4 : M (B 4) = some (eI cy 3 (x 3)) := hH.1 _ _ p_B_4
  have n_B_0_B_4 : nEq (B 0) (B 4) := hH.ne p_B_0 p_B_4 (by omega)
  have n_B_3_B_4 : nEq (B 3) (B 4) := hH.ne p_B_3 p_B_4 (by omega)
  have p_B_5 : P 5 = some (eI cy 3 (x 4)) := hSH.1.2.2.2.2.2.1
  have f_B_5 : M (B 5) = some (eI cy 3 (x 4)) := hH.1 _ _ p_B_5
  have n_B_0_B_5 : nEq (B 0) (B 5) := hH.ne p_B_0 p_B_5 (by omega)
  have n_B_3_B_5 : nEq (B 3) (B 5) := hH.ne p_B_3 p_B_5 (by omega)
  have n_B_4_B_5 : nEq (B 4) (B 5) := hH.ne p_B_4 p_B_5 (by omega)
  refine lv_iload_n hx hb dX5_print_0 rfl (lv_at hl 1 rfl) ?_
  refine x_callv (vx_runS (As := [.int y]) (rest := []) ⟨hx, hb, hml, hown, hts⟩ (c_X5_checkBand l hst de mi D cy _ _ y uy py) (va_cwS 1 hts gX5_print_X5_checkBand rfl rfl rfl (by decide +kernel) ⟨Nat.le_of_ble_eq_true rfl, Nat.le_of_ble_eq_true rfl⟩) (mPreXS hX hD hS hA hK hP) rfl rfl hl.1 rfl (lv_room (Nat.le_of_ble_eq_true rfl)) dX5_print_1 ⟨Nat.le_of_ble_eq_true rfl, Nat.le_of_ble_eq_true rfl⟩) hD hA hS hout hlocks (fun E9 h9 => Or.inl ⟨h9.1, h9.2⟩) (Nat.le_of_ble_eq_true rfl) (Nat.le_of_ble_eq_true rfl) (fun Mn H locs hq9 hP hD hS hz9 => ?_)
  obtain ⟨hck_1, hq9⟩ := hq9
  rw [hq9] at hP hD
  refine lv_iload_n hx hb dX5_print_4 rfl (lv_at hl 3 rfl) ?_
  refine lv_iconst (v := (nI 1)) hx hb dX5_print_5 (by decide) ?_
  refine z_icmp_lt (u := uz) (v := ((1 : Nat) : Int)) (tgt := 15) hx hb (pz) (nI_toInt (by omega)) dX5_print_6 (by decide) (fun c_6 => ?_) (fun c_6 => ?_)
  · exact e_thS (text := "the press prints 1 to 50 sheets") hx hb hst hown (by decide) (hts _ (List.mem_of_getElem? (i := 1) rfl)) (hts _ (List.mem_of_getElem? (i := 2) rfl)) (fun w h => hts w (List.mem_cons_of_mem _ (List.mem_append_left _ (List.mem_append_right _ (h))))) ng_A gd_A (by decide +kernel) hX hP hS (hl.1.trans hml.symm) dX5_print_15 dX5_print_18 dX5_print_19 dX5_print_21 dX5_print_24 hout (Nat.le_of_ble_eq_true rfl) (Nat.le_of_ble_eq_true rfl) (Nat.le_of_ble_eq_true rfl) (Nat.le_of_ble_eq_true rfl) hlocks (Or.inr ⟨rfl, by omega⟩) (Nat.le_of_ble_eq_true rfl) (Nat.le_of_ble_eq_true rfl)
  · refine lv_iload_n hx hb dX5_print_9 rfl (lv_at hl 3 rfl) ?_
    refine lv_bipush (v := (nI 50)) hx hb dX5_print_10 (by decide) ?_
    refine z_icmp_le (u := uz) (v := ((50 : Nat) : Int)) (tgt := 25) hx hb (pz) (nI_toInt (by omega)) dX5_print_12 (by decide) (fun c_12 => ?_) (fun c_12 => ?_)
    · have ex_1 : y = (nI uy.toNat) := nI_of_toInt (py) (by omega)
      have ex_3 : z = (nI uz.toNat) := nI_of_toInt (pz) (by omega)
      have hl : lv_has ls 4 [(0, .ref (B 0)), (1, .int (nI uy.toNat)), (2, .int (nI (b2 b))), (3, .int (nI uz.toNat))] := by
        rw [← ex_1, ← ex_3]
        exact hl
      by_cases hb9 : b2 b = 0
      · refine lv_aload_n hx hb dX5_print_25 rfl (lv_at hl 0 rfl) ?_
        refine m_get (T := TX5) (N := 6) (ci := 6) (fs := [.ref (B 1), .ref (B 3), .ref (B 6), .ref (B 8), .ref (B 10), .ref (B 12)]) hx hb hwX5 hown hK hP f_B_0 rfl 1 (by decide) (hts _ (List.mem_of_getElem? (i := 3) rfl)) (v := .ref (B 3)) rfl dX5_print_26 ?_
        refine lv_iload_n hx hb dX5_print_29 rfl (lv_at hl 1 rfl) ?_
        refine lv_iload_n hx hb dX5_print_30 rfl (lv_at hl 2 rfl) ?_
        refine lv_iload_n hx hb dX5_print_31 rfl (lv_at hl 3 rfl) ?_
        refine m_callv (va_runV (C := RX1) (As := [.int (nI uy.toNat), .int (nI (b2 b)), .int (nI uz.toNat)]) (rest := []) ⟨hx, hb, hml, hown, hts⟩ (c_X1_add l D cy _ _ (B 3) (B 4) (B 5) (x 3) (x 4) uy.toNat (b2 b) uz.toNat (f_B_3) (f_B_4) (f_B_5) n_B_4_B_5 (by omega) (b2_le b)) (cwV 3 hts gX5_print_X1_add rfl rfl rfl (by decide +kernel) ⟨Nat.le_of_ble_eq_true rfl, Nat.le_of_ble_eq_true rfl⟩) (mPreWV hK hP f_B_3 (ci := 2) rfl) rfl rfl hl.1 rfl (lv_room (Nat.le_of_ble_eq_true rfl)) dX5_print_32 ⟨Nat.le_of_ble_eq_true rfl, Nat.le_of_ble_eq_true rfl⟩) hD hA hS (fun Mn H locs hq9 hP hD hS hz9 hd9 hk9 => ?_)
        rw [if_pos hb9] at hq9
        have hq9 : Mn = (mset M (B 5) (eI cy 3 (va_up (x 4) uy.toNat (x 4 uy.toNat + uz.toNat)))) := hq9
        subst hq9
        refine lv_aload_n hx hb dX5_print_35 rfl (lv_at hl 0 rfl) ?_
        refine m_get (T := TX5) (N := 6) (ci := 6) (fs := [.ref (B 1), .ref (B 3), .ref (B 6), .ref (B 8), .ref (B 10), .ref (B 12)]) hx hb hwX5 hown hK hP ((mset_ne n_B_0_B_5).trans (f_B_0)) rfl 1 (by decide) (hts _ (List.mem_of_getElem? (i := 3) rfl)) (v := .ref (B 3)) rfl dX5_print_36 ?_
        refine lv_iload_n hx hb dX5_print_39 rfl (lv_at hl 1 rfl) ?_
        refine lv_iload_n hx hb dX5_print_40 rfl (lv_at hl 2 rfl) ?_
        refine vp_callSi (W.runV (C := RX1) (As := [.int (nI uy.toNat), .int (nI (b2 b))]) (rest := []) ⟨hx, hb, hml, hown, hts⟩ (c_X1_countOf l D cy _ (B 3) (B 4) (B 5) (x 3) (va_up (x 4) uy.toNat (x 4 uy.toNat + uz.toNat)) uy.toNat (b2 b) ((mset_ne n_B_3_B_5).trans (f_B_3)) ((mset_ne n_B_4_B_5).trans (f_B_4)) (mset_self _ _ _) (by omega) (b2_le b)) (cwV 2 hts gX5_print_X1_countOf rfl rfl rfl (by decide +kernel) ⟨Nat.le_of_ble_eq_true rfl, Nat.le_of_ble_eq_true rfl⟩) (mPreV hK hP ((mset_ne n_B_3_B_5).trans (f_B_3)) (ci := 2) rfl) rfl rfl hl.1 rfl (lv_room (Nat.le_of_ble_eq_true rfl)) dX5_print_41 ⟨Nat.le_of_ble_eq_true rfl, Nat.le_of_ble_eq_true rfl⟩) (fun r9 hr9 => ?_)
        have hr9 : r9 = (nI (cntC (x 3) (va_up (x 4) uy.toNat (x 4 uy.toNat + uz.toNat)) (b2 b) uy.toNat)) := hr9
        subst hr9
        exact vx_ret (e_wi hx hb hr hlocks hP hD hS (⟨by omega, (by unfold cntC; rw [if_pos hb9, if_pos hb9, va_up_self]), B, _, E, (hH.put (5) _ (p_ne p_B_5)), (by rw [if_pos hb9]; exact hSH.right _), rfl⟩) dX5_print_44)
      · refine lv_aload_n hx hb dX5_print_25 rfl (lv_at hl 0 rfl) ?_
        refine m_get (T := TX5) (N := 6) (ci := 6) (fs := [.ref (B 1), .ref (B 3), .ref (B 6), .ref (B 8), .ref (B 10), .ref (B 12)]) hx hb hwX5 hown hK hP f_B_0 rfl 1 (by decide) (hts _ (List.mem_of_getElem? (i := 3) rfl)) (v := .ref (B 3)) rfl dX5_print_26 ?_
        refine lv_iload_n hx hb dX5_print_29 rfl (lv_at hl 1 rfl) ?_
        refine lv_iload_n hx hb dX5_print_30 rfl (lv_at hl 2 rfl) ?_
        refine lv_iload_n hx hb dX5_print_31 rfl (lv_at hl 3 rfl) ?_
        refine m_callv (va_runV (C := RX1) (As := [.int (nI uy.toNat), .int (nI (b2 b)), .int (nI uz.toNat)]) (rest := []) ⟨hx, hb, hml, hown, hts⟩ (c_X1_add l D cy _ _ (B 3) (B 4) (B 5) (x 3) (x 4) uy.toNat (b2 b) uz.toNat (f_B_3) (f_B_4) (f_B_5) n_B_4_B_5 (by omega) (b2_le b)) (cwV 3 hts gX5_print_X1_add rfl rfl rfl (by decide +kernel) ⟨Nat.le_of_ble_eq_true rfl, Nat.le_of_ble_eq_true rfl⟩) (mPreWV hK hP f_B_3 (ci := 2) rfl) rfl rfl hl.1 rfl (lv_room (Nat.le_of_ble_eq_true rfl)) dX5_print_32 ⟨Nat.le_of_ble_eq_true rfl, Nat.le_of_ble_eq_true rfl⟩) hD hA hS (fun Mn H locs hq9 hP hD hS hz9 hd9 hk9 => ?_)
        rw [if_neg hb9] at hq9
        have hq9 : Mn = (mset M (B 4) (eI cy 3 (va_up (x 3) uy.toNat (x 3 uy.toNat + uz.toNat)))) := hq9
        subst hq9
        refine lv_aload_n hx hb dX5_print_35 rfl (lv_at hl 0 rfl) ?_
        refine m_get (T := TX5) (N := 6) (ci := 6) (fs := [.ref (B 1), .ref (B 3), .ref (B 6), .ref (B 8), .ref (B 10), .ref (B 12)]) hx hb hwX5 hown hK hP ((mset_ne n_B_0_B_4).trans (f_B_0)) rfl 1 (by decide) (hts _ (List.mem_of_getElem? (i := 3) rfl)) (v := .ref (B 3)) rfl dX5_print_36 ?_
        refine lv_iload_n hx hb dX5_print_39 rfl (lv_at hl 1 rfl) ?_
        refine lv_iload_n hx hb dX5_print_40 rfl (lv_at hl 2 rfl) ?_
        refine vp_callSi (W.runV (C := RX1) (As := [.int (nI uy.toNat), .int (nI (b2 b))]) (rest := []) ⟨hx, hb, hml, hown, hts⟩ (c_X1_countOf l D cy _ (B 3) (B 4) (B 5) (va_up (x 3) uy.toNat (x 3 uy.toNat + uz.toNat)) (x 4) uy.toNat (b2 b) ((mset_ne n_B_3_B_4).trans (f_B_3)) (mset_self _ _ _) ((mset_ne (Ne.symm n_B_4_B_5)).trans (f_B_5)) (by omega) (b2_le b)) (cwV 2 hts gX5_print_X1_countOf rfl rfl rfl (by decide +kernel) ⟨Nat.le_of_ble_eq_true rfl, Nat.le_of_ble_eq_true rfl⟩) (mPreV hK hP ((mset_ne n_B_3_B_4).trans (f_B_3)) (ci := 2) rfl) rfl rfl hl.1 rfl (lv_room (Nat.le_of_ble_eq_true rfl)) dX5_print_41 ⟨Nat.le_of_ble_eq_true rfl, Nat.le_of_ble_eq_true rfl⟩) (fun r9 hr9 => ?_)
        have hr9 : r9 = (nI (cntC (va_up (x 3) uy.toNat (x 3 uy.toNat + uz.toNat)) (x 4) (b2 b) uy.toNat)) := hr9
        subst hr9
        exact vx_ret (e_wi hx hb hr hlocks hP hD hS (⟨by omega, (by unfold cntC; rw [if_neg hb9, if_neg hb9, va_up_self]), B, _, E, (hH.put (4) _ (p_ne p_B_4)), (by rw [if_neg hb9]; exact hSH.left _), rfl⟩) dX5_print_44)
    · exact e_thS (text := "the press prints 1 to 50 sheets") hx hb hst hown (by decide) (hts _ (List.mem_of_getElem? (i := 1) rfl)) (hts _ (List.mem_of_getElem? (i := 2) rfl)) (fun w h => hts w (List.mem_cons_of_mem _ (List.mem_append_left _ (List.mem_append_right _ (h))))) ng_A gd_A (by decide +kernel) hX hP hS (hl.1.trans hml.symm) dX5_print_15 dX5_print_18 dX5_print_19 dX5_print_21 dX5_print_24 hout (Nat.le_of_ble_eq_true rfl) (Nat.le_of_ble_eq_true rfl) (Nat.le_of_ble_eq_true rfl) (Nat.le_of_ble_eq_true rfl) hlocks (Or.inr ⟨rfl, by omega⟩) (Nat.le_of_ble_eq_true rfl) (Nat.le_of_ble_eq_true rfl)

set_option maxRecDepth 100000 in
set_option maxHeartbeats 4000000 in
theorem c_X5_strokeOf (l : Launch) (hst : l.stackTraces = false) (de mi : Nat) (D : va_G) (cy : Nat → ClassId) (M : mM) (sz : Nat) (B : Nat → Nat) (P : Nat → Option va_E) (cn : Nat → Nat) (x : Nat → Nat → Nat) (E : Nat → Nat → Option Nat) (nc : Nat) (y : Int32) (uy : Int) (z : Int32) (uz : Int)  (hH : hHolds M B P) (hSH : SH de cy B P cn x E) (hN : NB nc cn x) (py : y.toInt = uy) (pz : z.toInt = uz) : mVi l yX5_strokeOf wsX5_strokeOf ({ frames := 7, cells := 4, slots := 24, locals := 103 } : Room) de mi D cy M sz [.ref (B 0), .int y, .int z] (fun r M' => ((0 ≤ uy ∧ uy < cn 1) ∧ 0 ≤ uz) ∧ r = zI (if 0 ≤ uz ∧ uz < (x 6 (uy).toNat : Int) then (x (400 + (uy).toNat) uz.toNat : Int) else -1) ∧ M' = M) (fun E9 => (E9 = "java/lang/IndexOutOfBoundsException" ∧ ¬ ((0 ≤ uy ∧ uy < cn 1) ∧ 0 ≤ uz))) 4 24 := by
  refine mV.of (cc := cX5_strokeOf) (maxL := 4) (ret := (some .int)) (by decide) rfl (Nat.le_of_ble_eq_true rfl) ?_
  intro p e s m args below meth c ls hsz hx hb hr hts hown hlocks hml hout hname hP hD hS hA hK hX hl
  have hl : lv_has ls 4 [(0, .ref (B 0)), (1, .int y), (2, .int z)] := hl
  have hown : s.vm.findClass RX5 = some m.cls := hown
  have hwX5 : ∀ w ∈ wsX50, w.before args s = true := fun w h => hts w (List.mem_cons_of_mem _ (List.mem_append_left _ (List.mem_append_left _ (List.mem_append_left _ (List.mem_append_right _ (h))))))
  have hwJx4a65c : ∀ w ∈ wsJx4a65c0, w.before args s = true := fun w h => hts w (List.mem_cons_of_mem _ (List.mem_append_left _ (List.mem_append_left _ (List.mem_append_right _ (h)))))
  have hwX4 : ∀ w ∈ wsX40, w.before args s = true := fun w h => hts w (List.mem_cons_of_mem _ (List.mem_append_left _ (List.mem_append_right _ (h))))
  obtain ⟨hnc9, hc0, hc1, hc2, hc3, hxm⟩ := id hN
  have p_B_0 : P 0 = some (.inr (6, [.ref (B 1), .ref (B 3), .ref (B 6), .ref (B 8), .ref (B 10), .ref (B 12)])) := hSH.1.1
  have f_B_0 : M (B 0) = some (.inr (6, [.ref (B 1), .ref (B 3), .ref (B 6), .ref (B 8), .ref (B 10), .ref (B 12)])) := hH.1 _ _ p_B_0
  have p_B_6 : P 6 = some (.inr (0, [.int (nI (x 1 6)), .ref (B 7), .int (nI (cn 1))])) := hSH.2.1.1
  have f_B_6 : M (B 6) = some (.inr (0, [.int (nI (x 1 6)), .ref (B 7), .int (nI (cn 1))])) := hH.1 _ _ p_B_6
  have n_B_0_B_6 : nEq (B 0) (B 6) := hH.ne p_B_0 p_B_6 (by omega)
  refine lv_aload_n hx hb dX5_strokeOf_0 rfl (lv_at hl 0 rfl) ?_
  refine lv_iload_n hx hb dX5_strokeOf_1 rfl (lv_at hl 1 rfl) ?_
  obtain ⟨hl1_2, hl2_2, hl3_2, hl4_2⟩ := LI.num hSH.2.1 hH (ci := 5) (fs := leF B x) (fun j hj => (hSH.2.2.2.2.1 j hj).1)
  refine x_callr (vx_runV (C := RX5) (As := [.int y]) (rest := []) ⟨hx, hb, hml, hown, hts⟩ (c_X5_letterNumbered l hst de mi D cy _ _ (B 0) (B 1) (B 3) (B 6) (B 8) (B 10) (B 12) (B 7) (cn 1) (x 1 6) (x 0 6) (E 6) (fun j => B (20 + 2 * j)) (leF B x) y uy (f_B_0) (f_B_6) hl1_2 hl2_2 hl3_2 hl4_2 py) (cwV 1 hts gX5_strokeOf_X5_letterNumbered rfl rfl rfl (by decide +kernel) ⟨Nat.le_of_ble_eq_true rfl, Nat.le_of_ble_eq_true rfl⟩) (mPreXV hX hD hS hA hK hP f_B_0 (ci := 6) rfl) rfl rfl hl.1 rfl (lv_room (Nat.le_of_ble_eq_true rfl)) dX5_strokeOf_2 ⟨Nat.le_of_ble_eq_true rfl, Nat.le_of_ble_eq_true rfl⟩) hD hA hS hout hlocks (fun E9 h9 => ⟨h9.1, fun h8 => h9.2 h8.1⟩) (Nat.le_of_ble_eq_true rfl) (Nat.le_of_ble_eq_true rfl) (fun r9 Mn H locs hq9 hP hD hS hz9 => ?_)
  obtain ⟨hle, hr9, hq9⟩ := hq9
  rw [hq9] at hP hD
  have hr9 : r9 = B (20 + 2 * (uy).toNat) := hr9
  rw [hr9]
  have hlen : (uy).toNat < cn 1 := (by omega)
  have p_B_20_2_uy_toNat : P (20 + 2 * (uy).toNat) = some (.inr (5, [.ref (B (21 + 2 * (uy).toNat)), .int (nI (x 6 (uy).toNat))])) := (hSH.2.2.2.2.1 (uy).toNat hlen).1
  have f_B_20_2_uy_toNat : M (B (20 + 2 * (uy).toNat)) = some (.inr (5, [.ref (B (21 + 2 * (uy).toNat)), .int (nI (x 6 (uy).toNat))])) := hH.1 _ _ p_B_20_2_uy_toNat
  have n_B_0_B_20_2_uy_toNat : nEq (B 0) (B (20 + 2 * (uy).toNat)) := hH.ne p_B_0 p_B_20_2_uy_toNat (by omega)
  have n_B_6_B_20_2_uy_toNat : nEq (B 6) (B (20 + 2 * (uy).toNat)) := hH.ne p_B_6 p_B_20_2_uy_toNat (by omega)
  have p_B_21_2_uy_toNat : P (21 + 2 * (uy).toNat) = some (eI cy 8 (x (400 + (uy).toNat))) := (hSH.2.2.2.2.1 (uy).toNat hlen).2
  have f_B_21_2_uy_toNat : M (B (21 + 2 * (uy).toNat)) = some (eI cy 8 (x (400 + (uy).toNat))) := hH.1 _ _ p_B_21_2_uy_toNat
  have n_B_0_B_21_2_uy_toNat : nEq (B 0) (B (21 + 2 * (uy).toNat)) := hH.ne p_B_0 p_B_21_2_uy_toNat (by omega)
  have n_B_6_B_21_2_uy_toNat : nEq (B 6) (B (21 + 2 * (uy).toNat)) := hH.ne p_B_6 p_B_21_2_uy_toNat (by omega)
  have n_B_20_2_uy_toNat_B_21_2_uy_toNat : nEq (B (20 + 2 * (uy).toNat)) (B (21 + 2 * (uy).toNat)) := hH.ne p_B_20_2_uy_toNat p_B_21_2_uy_toNat (by omega)
  refine lv_astore_n (lv' := [(3, .ref (B (20 + 2 * (uy).toNat))), (0, .ref (B 0)), (1, .int y), (2, .int z)]) hx hb dX5_strokeOf_5 rfl hl (by decide) rfl (fun ls hl => ?_)
  refine lv_iload_n hx hb dX5_strokeOf_6 rfl (lv_at hl 3 rfl) ?_
  refine z_if_ge (u := uz) (tgt := 20) hx hb (pz) dX5_strokeOf_7 (by decide) (fun c_7 => ?_) (fun c_7 => ?_)
  · refine lv_aload_n hx hb dX5_strokeOf_20 rfl (lv_at hl 0 rfl) ?_
    refine lv_iload_n hx hb dX5_strokeOf_21 rfl (lv_at hl 3 rfl) ?_
    refine vp_callSi (W.runV (C := RX4) (As := [.int z]) (rest := []) ⟨hx, hb, hml, hown, hts⟩ (c_X4_codeAt l D cy _ (B (20 + 2 * (uy).toNat)) (B (21 + 2 * (uy).toNat)) (x 6 (uy).toNat) (x (400 + (uy).toNat)) z uz (f_B_20_2_uy_toNat) (f_B_21_2_uy_toNat) (Nat.le_trans (hxm 6 (uy).toNat) (show 6 ≤ 8 by decide)) pz) (cwV 1 hts gX5_strokeOf_X4_codeAt rfl rfl rfl (by decide +kernel) ⟨Nat.le_of_ble_eq_true rfl, Nat.le_of_ble_eq_true rfl⟩) (mPreV hK hP f_B_20_2_uy_toNat (ci := 5) rfl) rfl rfl hl.1 rfl (lv_room (Nat.le_of_ble_eq_true rfl)) dX5_strokeOf_22 ⟨Nat.le_of_ble_eq_true rfl, Nat.le_of_ble_eq_true rfl⟩) (fun r9 hr9 => ?_)
    have hr9 : r9 = (zI (if 0 ≤ uz ∧ uz < (x 6 (uy).toNat : Int) then (x (400 + (uy).toNat) uz.toNat : Int) else -1)) := hr9
    subst hr9
    exact vx_ret (e_wi hx hb hr hlocks hP hD hS (⟨by omega, rfl, rfl⟩) dX5_strokeOf_25)
  · exact e_thS (text := "places begin at 0") hx hb hst hown (by decide) (hts _ (List.mem_of_getElem? (i := 1) rfl)) (hts _ (List.mem_of_getElem? (i := 2) rfl)) (fun w h => hts w (List.mem_cons_of_mem _ (List.mem_append_right _ (h)))) ng_I gd_I (by decide +kernel) hX hP hS (hl.1.trans hml.symm) dX5_strokeOf_10 dX5_strokeOf_13 dX5_strokeOf_14 dX5_strokeOf_16 dX5_strokeOf_19 hout (Nat.le_of_ble_eq_true rfl) (Nat.le_of_ble_eq_true rfl) (Nat.le_of_ble_eq_true rfl) (Nat.le_of_ble_eq_true rfl) hlocks (⟨rfl, by omega⟩) (Nat.le_of_ble_eq_true rfl) (Nat.le_of_ble_eq_true rfl)

set_option maxRecDepth 100000 in
set_option maxHeartbeats 4000000 in
theorem c_X5_slips (l : Launch) (hst : l.stackTraces = false) (de mi : Nat) (D : va_G) (cy : Nat → ClassId) (M : mM) (sz : Nat) (B : Nat → Nat) (P : Nat → Option va_E) (cn : Nat → Nat) (x : Nat → Nat → Nat) (E : Nat → Nat → Option Nat) (nc : Nat) (y : Int32) (uy : Int) (z : Int32) (uz : Int)  (hH : hHolds M B P) (hSH : SH de cy B P cn x E) (hN : NB nc cn x) (py : y.toInt = uy) (pz : z.toInt = uz) : mVi l yX5_slips wsX5_slips ({ frames := 7, cells := 4, slots := 24, locals := 103 } : Room) de mi D cy M sz [.ref (B 0), .int y, .int z] (fun r M' => ((0 ≤ uy ∧ uy < cn 3) ∧ 0 ≤ uz ∧ uz ≤ 5) ∧ r = nI (if uz = 5 then sumA (x (1002 + 8 * (uy).toNat)) 5 else x (1002 + 8 * (uy).toNat) uz.toNat) ∧ M' = M) (fun E9 => (E9 = "java/lang/IndexOutOfBoundsException" ∧ ¬ (0 ≤ uy ∧ uy < cn 3)) ∨ (E9 = "java/lang/IllegalArgumentException" ∧ (0 ≤ uy ∧ uy < cn 3) ∧ ¬ (0 ≤ uz ∧ uz ≤ 5))) 4 24 := by
  refine mV.of (cc := cX5_slips) (maxL := 4) (ret := (some .int)) (by decide) rfl (Nat.le_of_ble_eq_true rfl) ?_
  intro p e s m args below meth c ls hsz hx hb hr hts hown hlocks hml hout hname hP hD hS hA hK hX hl
  have hl : lv_has ls 4 [(0, .ref (B 0)), (1, .int y), (2, .int z)] := hl
  have hown : s.vm.findClass RX5 = some m.cls := hown
  have hwX5 : ∀ w ∈ wsX50, w.before args s = true := fun w h => hts w (List.mem_cons_of_mem _ (List.mem_append_left _ (List.mem_append_left _ (List.mem_append_left _ (List.mem_append_left _ (List.mem_append_right _ (h)))))))
  have hwJx4a65c : ∀ w ∈ wsJx4a65c0, w.before args s = true := fun w h => hts w (List.mem_cons_of_mem _ (List.mem_append_left _ (List.mem_append_left _ (List.mem_append_left _ (List.mem_append_right _ (h))))))
  have hwX3 : ∀ w ∈ wsX30, w.before args s = true := fun w h => hts w (List.mem_cons_of_mem _ (List.mem_append_left _ (List.mem_append_left _ (List.mem_append_right _ (h)))))
  obtain ⟨hnc9, hc0, hc1, hc2, hc3, hxm⟩ := id hN
  have p_B_0 : P 0 = some (.inr (6, [.ref (B 1), .ref (B 3), .ref (B 6), .ref (B 8), .ref (B 10), .ref (B 12)])) := hSH.1.1
  have f_B_0 : M (B 0) = some (.inr (6, [.ref (B 1), .ref (B 3), .ref (B 6), .ref (B 8), .ref (B 10), .ref (B 12)])) := hH.1 _ _ p_B_0
  have p_B_10 : P 10 = some (.inr (0, [.int (nI (x 1 10)), .ref (B 11), .int (nI (cn 3))])) := hSH.2.2.2.1.1
  have f_B_10 : M (B 10) = some (.inr (0, [.int (nI (x 1 10)), .ref (B 11), .int (nI (cn 3))])) := hH.1 _ _ p_B_10
  have n_B_0_B_10 : nEq (B 0) (B 10) := hH.ne p_B_0 p_B_10 (by omega)
  refine lv_aload_n hx hb dX5_slips_0 rfl (lv_at hl 0 rfl) ?_
  refine lv_iload_n hx hb dX5_slips_1 rfl (lv_at hl 1 rfl) ?_
  obtain ⟨hl1_2, hl2_2, hl3_2, hl4_2⟩ := LI.num hSH.2.2.2.1 hH (ci := 4) (fs := scF B x) (fun j hj => (hSH.2.2.2.2.2.2 j hj).1)
  refine x_callr (vx_runV (C := RX5) (As := [.int y]) (rest := []) ⟨hx, hb, hml, hown, hts⟩ (c_X5_scriptNumbered l hst de mi D cy _ _ (B 0) (B 1) (B 3) (B 6) (B 8) (B 10) (B 12) (B 11) (cn 3) (x 1 10) (x 0 10) (E 10) (fun j => B (60 + 7 * j)) (scF B x) y uy (f_B_0) (f_B_10) hl1_2 hl2_2 hl3_2 hl4_2 py) (cwV 1 hts gX5_slips_X5_scriptNumbered rfl rfl rfl (by decide +kernel) ⟨Nat.le_of_ble_eq_true rfl, Nat.le_of_ble_eq_true rfl⟩) (mPreXV hX hD hS hA hK hP f_B_0 (ci := 6) rfl) rfl rfl hl.1 rfl (lv_room (Nat.le_of_ble_eq_true rfl)) dX5_slips_2 ⟨Nat.le_of_ble_eq_true rfl, Nat.le_of_ble_eq_true rfl⟩) hD hA hS hout hlocks (fun E9 h9 => Or.inl ⟨h9.1, h9.2⟩) (Nat.le_of_ble_eq_true rfl) (Nat.le_of_ble_eq_true rfl) (fun r9 Mn H locs hq9 hP hD hS hz9 => ?_)
  obtain ⟨hsc, hr9, hq9⟩ := hq9
  rw [hq9] at hP hD
  have hr9 : r9 = B (60 + 7 * (uy).toNat) := hr9
  rw [hr9]
  have hscn : (uy).toNat < cn 3 := (by omega)
  have p_B_60_7_uy_toNat : P (60 + 7 * (uy).toNat) = some (.inr (4, [.int (nI (x 10 (uy).toNat)), .ref (B (61 + 7 * (uy).toNat)), .int (nI (x 11 (uy).toNat)), .ref (B (64 + 7 * (uy).toNat)), .ref (B (65 + 7 * (uy).toNat)), .ref (B (66 + 7 * (uy).toNat)), .int (nI (x 12 (uy).toNat))])) := (hSH.2.2.2.2.2.2 (uy).toNat hscn).1
  have f_B_60_7_uy_toNat : M (B (60 + 7 * (uy).toNat)) = some (.inr (4, [.int (nI (x 10 (uy).toNat)), .ref (B (61 + 7 * (uy).toNat)), .int (nI (x 11 (uy).toNat)), .ref (B (64 + 7 * (uy).toNat)), .ref (B (65 + 7 * (uy).toNat)), .ref (B (66 + 7 * (uy).toNat)), .int (nI (x 12 (uy).toNat))])) := hH.1 _ _ p_B_60_7_uy_toNat
  have n_B_0_B_60_7_uy_toNat : nEq (B 0) (B (60 + 7 * (uy).toNat)) := hH.ne p_B_0 p_B_60_7_uy_toNat (by omega)
  have n_B_10_B_60_7_uy_toNat : nEq (B 10) (B (60 + 7 * (uy).toNat)) := hH.ne p_B_10 p_B_60_7_uy_toNat (by omega)
  have p_B_61_7_uy_toNat : P (61 + 7 * (uy).toNat) = some (.inr (1, [.ref (B (62 + 7 * (uy).toNat)), .ref (B (63 + 7 * (uy).toNat)), .int (nI (x 13 (uy).toNat))])) := (hSH.2.2.2.2.2.2 (uy).toNat hscn).2.1
  have f_B_61_7_uy_toNat : M (B (61 + 7 * (uy).toNat)) = some (.inr (1, [.ref (B (62 + 7 * (uy).toNat)), .ref (B (63 + 7 * (uy).toNat)), .int (nI (x 13 (uy).toNat))])) := hH.1 _ _ p_B_61_7_uy_toNat
  have n_B_0_B_61_7_uy_toNat : nEq (B 0) (B (61 + 7 * (uy).toNat)) := hH.ne p_B_0 p_B_61_7_uy_toNat (by omega)
  have n_B_10_B_61_7_uy_toNat : nEq (B 10) (B (61 + 7 * (uy).toNat)) := hH.ne p_B_10 p_B_61_7_uy_toNat (by omega)
  have n_B_60_7_uy_toNat_B_61_7_uy_toNat : nEq (B (60 + 7 * (uy).toNat)) (B (61 + 7 * (uy).toNat)) := hH.ne p_B_60_7_uy_toNat p_B_61_7_uy_toNat (by omega)
  have p_B_62_7_uy_toNat : P (62 + 7 * (uy).toNat) = some (eI cy 3 (x (1000 + 8 * (uy).toNat))) := (hSH.2.2.2.2.2.2 (uy).toNat hscn).2.2.1
  have f_B_62_7_uy_toNat : M (B (62 + 7 * (uy).toNat)) = some (eI cy 3 (x (1000 + 8 * (uy).toNat))) := hH.1 _ _ p_B_62_7_uy_toNat
  have n_B_0_B_62_7_uy_toNat : nEq (B 0) (B (62 + 7 * (uy).toNat)) := hH.ne p_B_0 p_B_62_7_uy_toNat (by omega)
  have n_B_10_B_62_7_uy_toNat : nEq (B 10) (B (62 + 7 * (uy).toNat)) := hH.ne p_B_10 p_B_62_7_uy_toNat (by omega)
  have n_B_60_7_uy_toNat_B_62_7_uy_toNat : nEq (B (60 + 7 * (uy).toNat)) (B (62 + 7 * (uy).toNat)) := hH.ne p_B_60_7_uy_toNat p_B_62_7_uy_toNat (by omega)
  have n_B_61_7_uy_toNat_B_62_7_uy_toNat : nEq (B (61 + 7 * (uy).toNat)) (B (62 + 7 * (uy).toNat)) := hH.ne p_B_61_7_uy_toNat p_B_62_7_uy_toNat (by omega)
  have p_B_63_7_uy_toNat : P (63 + 7 * (uy).toNat) = some (eI cy 3 (x (1001 + 8 * (uy).toNat))) := (hSH.2.2.2.2.2.2 (uy).toNat hscn).2.2.2.1
  have f_B_63_7_uy_toNat : M (B (63 + 7 * (uy).toNat)) = some (eI cy 3 (x (1001 + 8 * (uy).toNat))) := hH.1 _ _ p_B_63_7_uy_toNat
  have n_B_0_B_63_7_uy_toNat : nEq (B 0) (B (63 + 7 * (uy).toNat)) := hH.ne p_B_0 p_B_63_7_uy_toNat (by omega)
  have n_B_10_B_63_7_uy_toNat : nEq (B 10) (B (63 + 7 * (uy).toNat)) := hH.ne p_B_10 p_B_63_7_uy_toNat (by omega)
  have n_B_60_7_uy_toNat_B_63_7_uy_toNat : nEq (B (60 + 7 * (uy).toNat)) (B (63 + 7 * (uy).toNat)) := hH.ne p_B_60_7_uy_toNat p_B_63_7_uy_toNat (by omega)
  have n_B_61_7_uy_toNat_B_63_7_uy_toNat : nEq (B (61 + 7 * (uy).toNat)) (B (63 + 7 * (uy).toNat)) := hH.ne p_B_61_7_uy_toNat p_B_63_7_uy_toNat (by omega)
  have n_B_62_7_uy_toNat_B_63_7_uy_toNat : nEq (B (62 + 7 * (uy).toNat)) (B (63 + 7 * (uy).toNat)) := hH.ne p_B_62_7_uy_toNat p_B_63_7_uy_toNat (by omega)
  have p_B_64_7_uy_toNat : P (64 + 7 * (uy).toNat) = some (eI cy 5 (x (1002 + 8 * (uy).toNat))) := (hSH.2.2.2.2.2.2 (uy).toNat hscn).2.2.2.2.1
  have f_B_64_7_uy_toNat : M (B (64 + 7 * (uy).toNat)) = some (eI cy 5 (x (1002 + 8 * (uy).toNat))) := hH.1 _ _ p_B_64_7_uy_toNat
  have n_B_0_B_64_7_uy_toNat : nEq (B 0) (B (64 + 7 * (uy).toNat)) := hH.ne p_B_0 p_B_64_7_uy_toNat (by omega)
  have n_B_10_B_64_7_uy_toNat : nEq (B 10) (B (64 + 7 * (uy).toNat)) := hH.ne p_B_10 p_B_64_7_uy_toNat (by omega)
  have n_B_60_7_uy_toNat_B_64_7_uy_toNat : nEq (B (60 + 7 * (uy).toNat)) (B (64 + 7 * (uy).toNat)) := hH.ne p_B_60_7_uy_toNat p_B_64_7_uy_toNat (by omega)
  have n_B_61_7_uy_toNat_B_64_7_uy_toNat : nEq (B (61 + 7 * (uy).toNat)) (B (64 + 7 * (uy).toNat)) := hH.ne p_B_61_7_uy_toNat p_B_64_7_uy_toNat (by omega)
  have n_B_62_7_uy_toNat_B_64_7_uy_toNat : nEq (B (62 + 7 * (uy).toNat)) (B (64 + 7 * (uy).toNat)) := hH.ne p_B_62_7_uy_toNat p_B_64_7_uy_toNat (by omega)
  have n_B_63_7_uy_toNat_B_64_7_uy_toNat : nEq (B (63 + 7 * (uy).toNat)) (B (64 + 7 * (uy).toNat)) := hH.ne p_B_63_7_uy_toNat p_B_64_7_uy_toNat (by omega)
  have p_B_65_7_uy_toNat : P (65 + 7 * (uy).toNat) = some (eI cy 4 (x (1003 + 8 * (uy).toNat))) := (hSH.2.2.2.2.2.2 (uy).toNat hscn).2.2.2.2.2.1
  have f_B_65_7_uy_toNat : M (B (65 + 7 * (uy).toNat)) = some (eI cy 4 (x (1003 + 8 * (uy).toNat))) := hH.1 _ _ p_B_65_7_uy_toNat
  have n_B_0_B_65_7_uy_toNat : nEq (B 0) (B (65 + 7 * (uy).toNat)) := hH.ne p_B_0 p_B_65_7_uy_toNat (by omega)
  have n_B_10_B_65_7_uy_toNat : nEq (B 10) (B (65 + 7 * (uy).toNat)) := hH.ne p_B_10 p_B_65_7_uy_toNat (by omega)
  have n_B_60_7_uy_toNat_B_65_7_uy_toNat : nEq (B (60 + 7 * (uy).toNat)) (B (65 + 7 * (uy).toNat)) := hH.ne p_B_60_7_uy_toNat p_B_65_7_uy_toNat (by omega)
  have n_B_61_7_uy_toNat_B_65_7_uy_toNat : nEq (B (61 + 7 * (uy).toNat)) (B (65 + 7 * (uy).toNat)) := hH.ne p_B_61_7_uy_toNat p_B_65_7_uy_toNat (by omega)
  have n_B_62_7_uy_toNat_B_65_7_uy_toNat : nEq (B (62 + 7 * (uy).toNat)) (B (65 + 7 * (uy).toNat)) := hH.ne p_B_62_7_uy_toNat p_B_65_7_uy_toNat (by omega)
  have n_B_63_7_uy_toNat_B_65_7_uy_toNat : nEq (B (63 + 7 * (uy).toNat)) (B (65 + 7 * (uy).toNat)) := hH.ne p_B_63_7_uy_toNat p_B_65_7_uy_toNat (by omega)
  have n_B_64_7_uy_toNat_B_65_7_uy_toNat : nEq (B (64 + 7 * (uy).toNat)) (B (65 + 7 * (uy).toNat)) := hH.ne p_B_64_7_uy_toNat p_B_65_7_uy_toNat (by omega)
  have p_B_66_7_uy_toNat : P (66 + 7 * (uy).toNat) = some (eI cy 6 (x (1004 + 8 * (uy).toNat))) := (hSH.2.2.2.2.2.2 (uy).toNat hscn).2.2.2.2.2.2
  have f_B_66_7_uy_toNat : M (B (66 + 7 * (uy).toNat)) = some (eI cy 6 (x (1004 + 8 * (uy).toNat))) := hH.1 _ _ p_B_66_7_uy_toNat
  have n_B_0_B_66_7_uy_toNat : nEq (B 0) (B (66 + 7 * (uy).toNat)) := hH.ne p_B_0 p_B_66_7_uy_toNat (by omega)
  have n_B_10_B_66_7_uy_toNat : nEq (B 10) (B (66 + 7 * (uy).toNat)) := hH.ne p_B_10 p_B_66_7_uy_toNat (by omega)
  have n_B_60_7_uy_toNat_B_66_7_uy_toNat : nEq (B (60 + 7 * (uy).toNat)) (B (66 + 7 * (uy).toNat)) := hH.ne p_B_60_7_uy_toNat p_B_66_7_uy_toNat (by omega)
  have n_B_61_7_uy_toNat_B_66_7_uy_toNat : nEq (B (61 + 7 * (uy).toNat)) (B (66 + 7 * (uy).toNat)) := hH.ne p_B_61_7_uy_toNat p_B_66_7_uy_toNat (by omega)
  have n_B_62_7_uy_toNat_B_66_7_uy_toNat : nEq (B (62 + 7 * (uy).toNat)) (B (66 + 7 * (uy).toNat)) := hH.ne p_B_62_7_uy_toNat p_B_66_7_uy_toNat (by omega)
  have n_B_63_7_uy_toNat_B_66_7_uy_toNat : nEq (B (63 + 7 * (uy).toNat)) (B (66 + 7 * (uy).toNat)) := hH.ne p_B_63_7_uy_toNat p_B_66_7_uy_toNat (by omega)
  have n_B_64_7_uy_toNat_B_66_7_uy_toNat : nEq (B (64 + 7 * (uy).toNat)) (B (66 + 7 * (uy).toNat)) := hH.ne p_B_64_7_uy_toNat p_B_66_7_uy_toNat (by omega)
  have n_B_65_7_uy_toNat_B_66_7_uy_toNat : nEq (B (65 + 7 * (uy).toNat)) (B (66 + 7 * (uy).toNat)) := hH.ne p_B_65_7_uy_toNat p_B_66_7_uy_toNat (by omega)
  refine lv_astore_n (lv' := [(3, .ref (B (60 + 7 * (uy).toNat))), (0, .ref (B 0)), (1, .int y), (2, .int z)]) hx hb dX5_slips_5 rfl hl (by decide) rfl (fun ls hl => ?_)
  refine lv_iload_n hx hb dX5_slips_6 rfl (lv_at hl 3 rfl) ?_
  refine z_if_lt (u := uz) (tgt := 15) hx hb (pz) dX5_slips_7 (by decide) (fun c_7 => ?_) (fun c_7 => ?_)
  · exact e_thS (text := "there is no such kind of slips") hx hb hst hown (by decide) (hts _ (List.mem_of_getElem? (i := 1) rfl)) (hts _ (List.mem_of_getElem? (i := 2) rfl)) (fun w h => hts w (List.mem_cons_of_mem _ (List.mem_append_left _ (List.mem_append_right _ (h))))) ng_A gd_A (by decide +kernel) hX hP hS (hl.1.trans hml.symm) dX5_slips_15 dX5_slips_18 dX5_slips_19 dX5_slips_21 dX5_slips_24 hout (Nat.le_of_ble_eq_true rfl) (Nat.le_of_ble_eq_true rfl) (Nat.le_of_ble_eq_true rfl) (Nat.le_of_ble_eq_true rfl) hlocks (Or.inr ⟨rfl, by omega⟩) (Nat.le_of_ble_eq_true rfl) (Nat.le_of_ble_eq_true rfl)
  · refine lv_iload_n hx hb dX5_slips_10 rfl (lv_at hl 3 rfl) ?_
    refine lv_iconst (v := (nI 5)) hx hb dX5_slips_11 (by decide) ?_
    refine z_icmp_le (u := uz) (v := ((5 : Nat) : Int)) (tgt := 25) hx hb (pz) (nI_toInt (by omega)) dX5_slips_12 (by decide) (fun c_12 => ?_) (fun c_12 => ?_)
    · have hvv : ∀ i9, x (1001 + 8 * (uy).toNat) i9 ≤ 20 := (fun i9 => Nat.le_trans (hxm (1001 + 8 * (uy).toNat) i9) (Nat.le_of_eq (xm_1 nc (uy).toNat)))
      have hxx : ∀ i9, x (1000 + 8 * (uy).toNat) i9 ≤ 5 := (fun i9 => Nat.le_trans (hxm (1000 + 8 * (uy).toNat) i9) (Nat.le_of_eq (xm_0 nc (uy).toNat)))
      have hss : ∀ i9, x (1002 + 8 * (uy).toNat) i9 ≤ 8 := (fun i9 => Nat.le_trans (hxm (1002 + 8 * (uy).toNat) i9) (Nat.le_of_eq (xm_2 nc (uy).toNat)))
      have hpp : ∀ i9, x (1003 + 8 * (uy).toNat) i9 ≤ 5 := (fun i9 => Nat.le_trans (hxm (1003 + 8 * (uy).toNat) i9) (Nat.le_of_eq (xm_3 nc (uy).toNat)))
      have hrr : ∀ i9, x (1004 + 8 * (uy).toNat) i9 ≤ 8 := (fun i9 => Nat.le_trans (hxm (1004 + 8 * (uy).toNat) i9) (Nat.le_of_eq (xm_4 nc (uy).toNat)))
      have h13 : x 13 (uy).toNat ≤ 3 := hxm 13 (uy).toNat
      have h12 : x 12 (uy).toNat ≤ 6 := hxm 12 (uy).toNat
      have h11 : x 11 (uy).toNat ≤ 1 := hxm 11 (uy).toNat
      refine lv_iload_n hx hb dX5_slips_25 rfl (lv_at hl 3 rfl) ?_
      refine lv_iconst (v := (nI 5)) hx hb dX5_slips_26 (by decide) ?_
      refine z_icmp_ne (u := uz) (v := ((5 : Nat) : Int)) (tgt := 37) hx hb (pz) (nI_toInt (by omega)) dX5_slips_27 (by decide) (fun c_27 => ?_) (fun c_27 => ?_)
      · have ex_2 : z = (nI uz.toNat) := nI_of_toInt (pz) (by omega)
        have hl : lv_has ls 4 [(3, .ref (B (60 + 7 * (uy).toNat))), (0, .ref (B 0)), (1, .int y), (2, .int (nI uz.toNat))] := by
          rw [← ex_2]
          exact hl
        refine lv_aload_n hx hb dX5_slips_37 rfl (lv_at hl 0 rfl) ?_
        refine lv_iload_n hx hb dX5_slips_38 rfl (lv_at hl 3 rfl) ?_
        refine vp_callSi (W.runV (C := RX3) (As := [.int (nI uz.toNat)]) (rest := []) ⟨hx, hb, hml, hown, hts⟩ (c_X3_slipsOf l D cy _ (B (60 + 7 * (uy).toNat)) (B (61 + 7 * (uy).toNat)) (B (64 + 7 * (uy).toNat)) (B (65 + 7 * (uy).toNat)) (B (66 + 7 * (uy).toNat)) (x 10 (uy).toNat) (x 11 (uy).toNat) (x 12 (uy).toNat) (x (1002 + 8 * (uy).toNat)) (x (1003 + 8 * (uy).toNat)) (x (1004 + 8 * (uy).toNat)) uz.toNat (f_B_60_7_uy_toNat) (f_B_64_7_uy_toNat) (f_B_65_7_uy_toNat) (f_B_66_7_uy_toNat) (by omega)) (cwV 1 hts gX5_slips_X3_slipsOf rfl rfl rfl (by decide +kernel) ⟨Nat.le_of_ble_eq_true rfl, Nat.le_of_ble_eq_true rfl⟩) (mPreV hK hP f_B_60_7_uy_toNat (ci := 4) rfl) rfl rfl hl.1 rfl (lv_room (Nat.le_of_ble_eq_true rfl)) dX5_slips_39 ⟨Nat.le_of_ble_eq_true rfl, Nat.le_of_ble_eq_true rfl⟩) (fun r9 hr9 => ?_)
        have hr9 : r9 = (nI (x (1002 + 8 * (uy).toNat) uz.toNat)) := hr9
        subst hr9
        exact vx_ret (e_wi hx hb hr hlocks hP hD hS (⟨by omega, (by first | rw [if_pos (by omega)] | rw [if_neg (by omega)]), rfl⟩) dX5_slips_42)
      · refine lv_aload_n hx hb dX5_slips_30 rfl (lv_at hl 0 rfl) ?_
        refine vp_callSi (W.runV (C := RX3) (As := []) (rest := []) ⟨hx, hb, hml, hown, hts⟩ (c_X3_allSlips l D cy _ (B (60 + 7 * (uy).toNat)) (B (61 + 7 * (uy).toNat)) (B (64 + 7 * (uy).toNat)) (B (65 + 7 * (uy).toNat)) (B (66 + 7 * (uy).toNat)) (x 10 (uy).toNat) (x 11 (uy).toNat) (x 12 (uy).toNat) (x (1002 + 8 * (uy).toNat)) (x (1003 + 8 * (uy).toNat)) (x (1004 + 8 * (uy).toNat)) (f_B_60_7_uy_toNat) (f_B_64_7_uy_toNat) (f_B_65_7_uy_toNat) (f_B_66_7_uy_toNat) hss) (cwV 0 hts gX5_slips_X3_allSlips rfl rfl rfl (by decide +kernel) ⟨Nat.le_of_ble_eq_true rfl, Nat.le_of_ble_eq_true rfl⟩) (mPreV hK hP f_B_60_7_uy_toNat (ci := 4) rfl) rfl rfl hl.1 rfl (lv_room (Nat.le_of_ble_eq_true rfl)) dX5_slips_31 ⟨Nat.le_of_ble_eq_true rfl, Nat.le_of_ble_eq_true rfl⟩) (fun r9 hr9 => ?_)
        have hr9 : r9 = (nI (sumA (x (1002 + 8 * (uy).toNat)) 5)) := hr9
        subst hr9
        refine lv_goto (tgt := 42) hx hb dX5_slips_34 (by decide) ?_
        exact vx_ret (e_wi hx hb hr hlocks hP hD hS (⟨by omega, (by first | rw [if_pos (by omega)] | rw [if_neg (by omega)]), rfl⟩) dX5_slips_42)
    · exact e_thS (text := "there is no such kind of slips") hx hb hst hown (by decide) (hts _ (List.mem_of_getElem? (i := 1) rfl)) (hts _ (List.mem_of_getElem? (i := 2) rfl)) (fun w h => hts w (List.mem_cons_of_mem _ (List.mem_append_left _ (List.mem_append_right _ (h))))) ng_A gd_A (by decide +kernel) hX hP hS (hl.1.trans hml.symm) dX5_slips_15 dX5_slips_18 dX5_slips_19 dX5_slips_21 dX5_slips_24 hout (Nat.le_of_ble_eq_true rfl) (Nat.le_of_ble_eq_true rfl) (Nat.le_of_ble_eq_true rfl) (Nat.le_of_ble_eq_true rfl) hlocks (Or.inr ⟨rfl, by omega⟩) (Nat.le_of_ble_eq_true rfl) (Nat.le_of_ble_eq_true rfl)
