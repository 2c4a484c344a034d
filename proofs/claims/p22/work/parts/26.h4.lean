set_option maxRecDepth 100000 in
set_option maxHeartbeats 4000000 in
theorem c_X5_shownCount (l : Launch) (D : va_G) (cy : Nat → ClassId) (M : mM) (sz : Nat) (de : Nat) (B : Nat → Nat) (P : Nat → Option va_E) (cn : Nat → Nat) (x : Nat → Nat → Nat) (E : Nat → Nat → Option Nat) (nc : Nat)  (hH : hHolds M B P) (hSH : SH de cy B P cn x E) (hN : NB nc cn x)  : mWi l yX5_shownCount wsX5_shownCount ({ frames := 3, cells := 0, slots := 0, locals := 64 } : Room) D cy M sz [.ref (B 0)] (fun r M' => r = nI (shC x (cn 3)) ∧ M' = M) 0 0 := by
  refine mW.of (cc := cX5_shownCount) (maxL := 3) (ret := (some .int)) (by decide) rfl (Nat.le_of_ble_eq_true rfl) ?_
  intro p e s m args below meth c ls hsz hx hb hr hts hown hlocks hml hname hP hD hS hA hK hl
  have hl : lv_has ls 3 [(0, .ref (B 0))] := hl
  have hown : s.vm.findClass RX5 = some m.cls := hown
  have hwX5 : ∀ w ∈ wsX50, w.before args s = true := fun w h => hts w (List.mem_cons_of_mem _ (List.mem_append_left _ (List.mem_append_left _ (List.mem_append_right _ (h)))))
  have hwX3 : ∀ w ∈ wsX30, w.before args s = true := fun w h => hts w (List.mem_cons_of_mem _ (List.mem_append_left _ (List.mem_append_right _ (h))))
  have hwJx4a65c : ∀ w ∈ wsJx4a65c0, w.before args s = true := fun w h => hts w (List.mem_cons_of_mem _ (List.mem_append_right _ (h)))
  obtain ⟨hnc9, hc0, hc1, hc2, hc3, hxm⟩ := id hN
  have p_B_0 : P 0 = some (.inr (6, [.ref (B 1), .ref (B 3), .ref (B 6), .ref (B 8), .ref (B 10), .ref (B 12)])) := hSH.1.1
  have f_B_0 : M (B 0) = some (.inr (6, [.ref (B 1), .ref (B 3), .ref (B 6), .ref (B 8), .ref (B 10), .ref (B 12)])) := hH.1 _ _ p_B_0
  have p_B_10 : P 10 = some (.inr (0, [.int (nI (x 1 10)), .ref (B 11), .int (nI (cn 3))])) := hSH.2.2.2.1.1
  have f_B_10 : M (B 10) = some (.inr (0, [.int (nI (x 1 10)), .ref (B 11), .int (nI (cn 3))])) := hH.1 _ _ p_B_10
  have n_B_0_B_10 : nEq (B 0) (B 10) := hH.ne p_B_0 p_B_10 (by omega)
  obtain ⟨hl1, hl2, hl3, hl4⟩ := LI.num hSH.2.2.2.1 hH (ci := 4) (fs := scF B x) (fun j hj => (hSH.2.2.2.2.2.2 j hj).1)
  refine lv_iconst (v := (nI 0)) hx hb dX5_shownCount_0 (by decide) ?_
  refine lv_istore_n (lv' := [(1, .int (nI 0)), (0, .ref (B 0))]) hx hb dX5_shownCount_1 rfl hl (by decide) rfl (fun ls hl => ?_)
  refine lv_iconst (v := (nI 0)) hx hb dX5_shownCount_2 (by decide) ?_
  refine lv_istore_n (lv' := [(2, .int (nI 0)), (1, .int (nI 0)), (0, .ref (B 0))]) hx hb dX5_shownCount_3 rfl hl (by decide) rfl (fun ls hl => ?_)
  have K4 : ∀ (n9 : Nat) (j : Nat), 41 - j < n9 → (j ≤ cn 3) → ∀ (Mq : mM) (H : Heap) (locs : List Loc), pm D Mq H → mD (mA M sz) Mq → va_S (mA M sz) s.heap H locs → (Mq = M) → ∀ (ls : Array Slot), lv_has ls 3 [(0, .ref (B 0)), (1, .int (nI (shC x j))), (2, .int (nI j))] → W p l e ({ frames := 3, cells := 0, slots := 0, locals := 64 } : Room) s m args below meth c H locs 0 0 (MQ below (va_Qi (fun r M' => r = nI (shC x (cn 3)) ∧ M' = M) (mB D M sz) (mA M sz)) args s 0 0 (mA M sz)) (F0 m 4 ls []) := by
    intro n9
    induction n9 with
    | zero => intro j hn; exact absurd hn (by omega)
    | succ n9 ih4 =>
      intro j hn4 i4_0 Mq H locs hP hD hS hW ls hl
      have hsh9 := shC_le (x := x) (fun j => hxm 11 j) j
      rw [hW] at hP hD
      refine lv_iload_n hx hb dX5_shownCount_4 rfl (lv_at hl 2 rfl) ?_
      refine lv_aload_n hx hb dX5_shownCount_5 rfl (lv_at hl 0 rfl) ?_
      refine m_get (T := TX5) (N := 6) (ci := 6) (fs := [.ref (B 1), .ref (B 3), .ref (B 6), .ref (B 8), .ref (B 10), .ref (B 12)]) hx hb hwX5 hown hK hP f_B_0 rfl 4 (by decide) (hts _ (List.mem_of_getElem? (i := 1) rfl)) (v := .ref (B 10)) rfl dX5_shownCount_6 ?_
      refine vp_callSi (W.runV (C := RJx4a65c) (As := []) (rest := [.int (nI j)]) ⟨hx, hb, hml, hown, hts⟩ (c_Jx4a65c_size_8abf5 l D cy _ (B 10) (cn 3) (x 1 10) (B 11) (f_B_10)) (cwV 0 hts gX5_shownCount_Jx4a65c_size_8abf5 rfl rfl rfl (by decide +kernel) ⟨Nat.le_of_ble_eq_true rfl, Nat.le_of_ble_eq_true rfl⟩) (mPreV hK hP f_B_10 (ci := 0) rfl) rfl rfl hl.1 rfl (lv_room (Nat.le_of_ble_eq_true rfl)) dX5_shownCount_9 ⟨Nat.le_of_ble_eq_true rfl, Nat.le_of_ble_eq_true rfl⟩) (fun r9 hr9 => ?_)
      have hr9 : r9 = (nI (cn 3)) := hr9
      subst hr9
      refine z_icmp_ge (u := ((j : Nat) : Int)) (v := ((cn 3 : Nat) : Int)) (tgt := 41) hx hb (nI_toInt (by omega)) (nI_toInt (by omega)) dX5_shownCount_12 (by decide) (fun c_12 => ?_) (fun c_12 => ?_)
      · refine lv_iload_n hx hb dX5_shownCount_41 rfl (lv_at hl 1 rfl) ?_
        exact e_wi hx hb hr hlocks hP hD hS (⟨(by rw [show cn 3 = j by omega]), rfl⟩) dX5_shownCount_42
      · have hjn : j < cn 3 := (by omega)
        refine lv_aload_n hx hb dX5_shownCount_15 rfl (lv_at hl 0 rfl) ?_
        refine m_get (T := TX5) (N := 6) (ci := 6) (fs := [.ref (B 1), .ref (B 3), .ref (B 6), .ref (B 8), .ref (B 10), .ref (B 12)]) hx hb hwX5 hown hK hP f_B_0 rfl 4 (by decide) (hts _ (List.mem_of_getElem? (i := 1) rfl)) (v := .ref (B 10)) rfl dX5_shownCount_16 ?_
        refine lv_iload_n hx hb dX5_shownCount_19 rfl (lv_at hl 2 rfl) ?_
        refine m_callr (va_runV (C := RJx4a65c) (As := [.int (nI j)]) (rest := []) ⟨hx, hb, hml, hown, hts⟩ (c_Jx4a65c_get_915e3 l D cy _ _ (B 10) (B 11) (cn 3) (x 1 10) (x 0 10) (E 10) j (B (60 + 7 * j)) (f_B_10) (hl3 (by omega)) hjn hl1 hl2 (hl4 j hjn).1) (cwV 1 hts gX5_shownCount_Jx4a65c_get_915e3 rfl rfl rfl (by decide +kernel) ⟨Nat.le_of_ble_eq_true rfl, Nat.le_of_ble_eq_true rfl⟩) (mPreWV hK hP f_B_10 (ci := 0) rfl) rfl rfl hl.1 rfl (lv_room (Nat.le_of_ble_eq_true rfl)) dX5_shownCount_20 ⟨Nat.le_of_ble_eq_true rfl, Nat.le_of_ble_eq_true rfl⟩) hD hA hS (fun r9 Mn H locs hq9 hP hD hS hz9 hd9 hk9 => ?_)
        obtain ⟨hr9, hq9⟩ := hq9
        rw [hr9]
        have hq9 : Mn = M := hq9
        rw [hq9] at hP hD
        have hvv : ∀ i9, x (1001 + 8 * j) i9 ≤ 20 := (fun i9 => Nat.le_trans (hxm (1001 + 8 * j) i9) (Nat.le_of_eq (xm_1 nc j)))
        have hxx : ∀ i9, x (1000 + 8 * j) i9 ≤ 5 := (fun i9 => Nat.le_trans (hxm (1000 + 8 * j) i9) (Nat.le_of_eq (xm_0 nc j)))
        have hss : ∀ i9, x (1002 + 8 * j) i9 ≤ 8 := (fun i9 => Nat.le_trans (hxm (1002 + 8 * j) i9) (Nat.le_of_eq (xm_2 nc j)))
        have hpp : ∀ i9, x (1003 + 8 * j) i9 ≤ 5 := (fun i9 => Nat.le_trans (hxm (1003 + 8 * j) i9) (Nat.le_of_eq (xm_3 nc j)))
        have hrr : ∀ i9, x (1004 + 8 * j) i9 ≤ 8 := (fun i9 => Nat.le_trans (hxm (1004 + 8 * j) i9) (Nat.le_of_eq (xm_4 nc j)))
        have h13 : x 13 j ≤ 3 := hxm 13 j
        have h12 : x 12 j ≤ 6 := hxm 12 j
        have h11 : x 11 j ≤ 1 := hxm 11 j
        have p_B_60_7_j : P (60 + 7 * j) = some (.inr (4, [.int (nI (x 10 j)), .ref (B (61 + 7 * j)), .int (nI (x 11 j)), .ref (B (64 + 7 * j)), .ref (B (65 + 7 * j)), .ref (B (66 + 7 * j)), .int (nI (x 12 j))])) := (hSH.2.2.2.2.2.2 j hjn).1
        have f_B_60_7_j : M (B (60 + 7 * j)) = some (.inr (4, [.int (nI (x 10 j)), .ref (B (61 + 7 * j)), .int (nI (x 11 j)), .ref (B (64 + 7 * j)), .ref (B (65 + 7 * j)), .ref (B (66 + 7 * j)), .int (nI (x 12 j))])) := hH.1 _ _ p_B_60_7_j
        have n_B_0_B_60_7_j : nEq (B 0) (B (60 + 7 * j)) := hH.ne p_B_0 p_B_60_7_j (by omega)
        have n_B_10_B_60_7_j : nEq (B 10) (B (60 + 7 * j)) := hH.ne p_B_10 p_B_60_7_j (by omega)
        have p_B_61_7_j : P (61 + 7 * j) = some (.inr (1, [.ref (B (62 + 7 * j)), .ref (B (63 + 7 * j)), .int (nI (x 13 j))])) := (hSH.2.2.2.2.2.2 j hjn).2.1
        have f_B_61_7_j : M (B (61 + 7 * j)) = some (.inr (1, [.ref (B (62 + 7 * j)), .ref (B (63 + 7 * j)), .int (nI (x 13 j))])) := hH.1 _ _ p_B_61_7_j
        have n_B_0_B_61_7_j : nEq (B 0) (B (61 + 7 * j)) := hH.ne p_B_0 p_B_61_7_j (by omega)
        have n_B_10_B_61_7_j : nEq (B 10) (B (61 + 7 * j)) := hH.ne p_B_10 p_B_61_7_j (by omega)
        have n_B_60_7_j_B_61_7_j : nEq (B (60 + 7 * j)) (B (61 + 7 * j)) := hH.ne p_B_60_7_j p_B_61_7_j (by omega)
        have p_B_62_7_j : P (62 + 7 * j) = some (eI cy 3 (x (1000 + 8 * j))) := (hSH.2.2.2.2.2.2 j hjn).2.2.1
        have f_B_62_7_j : M (B (62 + 7 * j)) = some (eI cy 3 (x (1000 + 8 * j))) := hH.1 _ _ p_B_62_7_j
        have n_B_0_B_62_7_j : nEq (B 0) (B (62 + 7 * j)) := hH.ne p_B_0 p_B_62_7_j (by omega)
        have n_B_10_B_62_7_j : nEq (B 10) (B (62 + 7 * j)) := hH.ne p_B_10 p_B_62_7_j (by omega)
        have n_B_60_7_j_B_62_7_j : nEq (B (60 + 7 * j)) (B (62 + 7 * j)) := hH.ne p_B_60_7_j p_B_62_7_j (by omega)
        have n_B_61_7_j_B_62_7_j : nEq (B (61 + 7 * j)) (B (62 + 7 * j)) := hH.ne p_B_61_7_j p_B_62_7_j (by omega)
        have p_B_63_7_j : P (63 + 7 * j) = some (eI cy 3 (x (1001 + 8 * j))) := (hSH.2.2.2.2.2.2 j hjn).2.2.2.1
        have f_B_63_7_j : M (B (63 + 7 * j)) = some (eI cy 3 (x (1001 + 8 * j))) := hH.1 _ _ p_B_63_7_j
        have n_B_0_B_63_7_j : nEq (B 0) (B (63 + 7 * j)) := hH.ne p_B_0 p_B_63_7_j (by omega)
        have n_B_10_B_63_7_j : nEq (B 10) (B (63 + 7 * j)) := hH.ne p_B_10 p_B_63_7_j (by omega)
        have n_B_60_7_j_B_63_7_j : nEq (B (60 + 7 * j)) (B (63 + 7 * j)) := hH.ne p_B_60_7_j p_B_63_7_j (by omega)
        have n_B_61_7_j_B_63_7_j : nEq (B (61 + 7 * j)) (B (63 + 7 * j)) := hH.ne p_B_61_7_j p_B_63_7_j (by omega)
        have n_B_62_7_j_B_63_7_j : nEq (B (62 + 7 * j)) (B (63 + 7 * j)) := hH.ne p_B_62_7_j p_B_63_7_j (by omega)
        have p_B_64_7_j : P (64 + 7 * j) = some (eI cy 5 (x (1002 + 8 * j))) := (hSH.2.2.2.2.2.2 j hjn).2.2.2.2.1
        have f_B_64_7_j : M (B (64 + 7 * j)) = some (eI cy 5 (x (1002 + 8 * j))) := hH.1 _ _ p_B_64_7_j
        have n_B_0_B_64_7_j : nEq (B 0) (B (64 + 7 * j)) := hH.ne p_B_0 p_B_64_7_j (by omega)
        have n_B_10_B_64_7_j : nEq (B 10) (B (64 + 7 * j)) := hH.ne p_B_10 p_B_64_7_j (by omega)
        have n_B_60_7_j_B_64_7_j : nEq (B (60 + 7 * j)) (B (64 + 7 * j)) := hH.ne p_B_60_7_j p_B_64_7_j (by omega)
        have n_B_61_7_j_B_64_7_j : nEq (B (61 + 7 * j)) (B (64 + 7 * j)) := hH.ne p_B_61_7_j p_B_64_7_j (by omega)
        have n_B_62_7_j_B_64_7_j : nEq (B (62 + 7 * j)) (B (64 + 7 * j)) := hH.ne p_B_62_7_j p_B_64_7_j (by omega)
        have n_B_63_7_j_B_64_7_j : nEq (B (63 + 7 * j)) (B (64 + 7 * j)) := hH.ne p_B_63_7_j p_B_64_7_j (by omega)
        have p_B_65_7_j : P (65 + 7 * j) = some (eI cy 4 (x (1003 + 8 * j))) := (hSH.2.2.2.2.2.2 j hjn).2.2.2.2.2.1
        have f_B_65_7_j : M (B (65 + 7 * j)) = some (eI cy 4 (x (1003 + 8 * j))) := hH.1 _ _ p_B_65_7_j
        have n_B_0_B_65_7_j : nEq (B 0) (B (65 + 7 * j)) := hH.ne p_B_0 p_B_65_7_j (by omega)
        have n_B_10_B_65_7_j : nEq (B 10) (B (65 + 7 * j)) := hH.ne p_B_10 p_B_65_7_j (by omega)
        have n_B_60_7_j_B_65_7_j : nEq (B (60 + 7 * j)) (B (65 + 7 * j)) := hH.ne p_B_60_7_j p_B_65_7_j (by omega)
        have n_B_61_7_j_B_65_7_j : nEq (B (61 + 7 * j)) (B (65 + 7 * j)) := hH.ne p_B_61_7_j p_B_65_7_j (by omega)
        have n_B_62_7_j_B_65_7_j : nEq (B (62 + 7 * j)) (B (65 + 7 * j)) := hH.ne p_B_62_7_j p_B_65_7_j (by omega)
        have n_B_63_7_j_B_65_7_j : nEq (B (63 + 7 * j)) (B (65 + 7 * j)) := hH.ne p_B_63_7_j p_B_65_7_j (by omega)
        have n_B_64_7_j_B_65_7_j : nEq (B (64 + 7 * j)) (B (65 + 7 * j)) := hH.ne p_B_64_7_j p_B_65_7_j (by omega)
        have p_B_66_7_j : P (66 + 7 * j) = some (eI cy 6 (x (1004 + 8 * j))) := (hSH.2.2.2.2.2.2 j hjn).2.2.2.2.2.2
        have f_B_66_7_j : M (B (66 + 7 * j)) = some (eI cy 6 (x (1004 + 8 * j))) := hH.1 _ _ p_B_66_7_j
        have n_B_0_B_66_7_j : nEq (B 0) (B (66 + 7 * j)) := hH.ne p_B_0 p_B_66_7_j (by omega)
        have n_B_10_B_66_7_j : nEq (B 10) (B (66 + 7 * j)) := hH.ne p_B_10 p_B_66_7_j (by omega)
        have n_B_60_7_j_B_66_7_j : nEq (B (60 + 7 * j)) (B (66 + 7 * j)) := hH.ne p_B_60_7_j p_B_66_7_j (by omega)
        have n_B_61_7_j_B_66_7_j : nEq (B (61 + 7 * j)) (B (66 + 7 * j)) := hH.ne p_B_61_7_j p_B_66_7_j (by omega)
        have n_B_62_7_j_B_66_7_j : nEq (B (62 + 7 * j)) (B (66 + 7 * j)) := hH.ne p_B_62_7_j p_B_66_7_j (by omega)
        have n_B_63_7_j_B_66_7_j : nEq (B (63 + 7 * j)) (B (66 + 7 * j)) := hH.ne p_B_63_7_j p_B_66_7_j (by omega)
        have n_B_64_7_j_B_66_7_j : nEq (B (64 + 7 * j)) (B (66 + 7 * j)) := hH.ne p_B_64_7_j p_B_66_7_j (by omega)
        have n_B_65_7_j_B_66_7_j : nEq (B (65 + 7 * j)) (B (66 + 7 * j)) := hH.ne p_B_65_7_j p_B_66_7_j (by omega)
        refine m_cast (ci := 4) hx hb hown (hts _ (List.mem_of_getElem? (i := 2) rfl)) hK hP f_B_60_7_j rfl rfl dX5_shownCount_23 ?_
        refine m_get (T := TX3) (N := 7) (ci := 4) (fs := [.int (nI (x 10 j)), .ref (B (61 + 7 * j)), .int (nI (x 11 j)), .ref (B (64 + 7 * j)), .ref (B (65 + 7 * j)), .ref (B (66 + 7 * j)), .int (nI (x 12 j))]) hx hb hwX3 hown hK hP f_B_60_7_j rfl 2 (by decide) (hts _ (List.mem_of_getElem? (i := 3) rfl)) (v := .int (nI (x 11 j))) rfl dX5_shownCount_26 ?_
        refine z_if_eq (u := ((x 11 j : Nat) : Int)) (tgt := 35) hx hb (nI_toInt (by omega)) dX5_shownCount_29 (by decide) (fun c_29 => ?_) (fun c_29 => ?_)
        · refine n_iinc (x := j) (k := 1) (lv' := [(2, .int (nI (j + 1))), (0, .ref (B 0)), (1, .int (nI (shC x j)))]) hx hb dX5_shownCount_35 rfl hl (q := 2) rfl (by decide) rfl (fun ls hl => ?_)
          refine lv_goto (tgt := 4) hx hb dX5_shownCount_38 (by decide) ?_
          have hl : lv_has ls 3 [(2, .int (nI (j + 1))), (0, .ref (B 0)), (1, .int (nI (shC x (j + 1))))] := by
            have heq0 : (.int (nI (shC x (j + 1))) : Value) = .int (nI (shC x j)) := congrArg Value.int (congrArg nI (by show shC x j + x 11 j = _; omega))
            rw [heq0]
            exact hl
          exact ih4  (j + 1) (by omega) (by omega) _ _ _ hP hD hS (rfl) _ (lv_sub hl [1, 2, 0] rfl)
        · refine n_iinc (x := shC x j) (k := 1) (lv' := [(1, .int (nI ((shC x j) + 1))), (0, .ref (B 0)), (2, .int (nI j))]) hx hb dX5_shownCount_32 rfl hl (q := 1) rfl (by decide) rfl (fun ls hl => ?_)
          refine n_iinc (x := j) (k := 1) (lv' := [(2, .int (nI (j + 1))), (1, .int (nI ((shC x j) + 1))), (0, .ref (B 0))]) hx hb dX5_shownCount_35 rfl hl (q := 2) rfl (by decide) rfl (fun ls hl => ?_)
          refine lv_goto (tgt := 4) hx hb dX5_shownCount_38 (by decide) ?_
          have hl : lv_has ls 3 [(2, .int (nI (j + 1))), (1, .int (nI (shC x (j + 1)))), (0, .ref (B 0))] := by
            have heq0 : (.int (nI (shC x (j + 1))) : Value) = .int (nI ((shC x j) + 1)) := congrArg Value.int (congrArg nI (by show shC x j + x 11 j = _; omega))
            rw [heq0]
            exact hl
          exact ih4  (j + 1) (by omega) (by omega) _ _ _ hP hD hS (rfl) _ (lv_sub hl [2, 1, 0] rfl)
  exact K4 (41 - 0 + 1) 0 (Nat.lt_succ_self _) (Nat.zero_le _) _ _ _ hP hD hS (rfl) _ (lv_sub hl [2, 1, 0] rfl)

set_option maxRecDepth 100000 in
set_option maxHeartbeats 4000000 in
theorem c_X5_placeNow (l : Launch) (D : va_G) (cy : Nat → ClassId) (M : mM) (sz : Nat) (de : Nat) (B : Nat → Nat) (P : Nat → Option va_E) (cn : Nat → Nat) (x : Nat → Nat → Nat) (E : Nat → Nat → Option Nat) (nc : Nat) (s1 : Nat) (w : Int)  (hH : hHolds M B P) (hSH : SH de cy B P cn x E) (hN : NB nc cn x) (hs1 : s1 < 1000) (hw1 : -9999 ≤ w) (hw2 : w ≤ 1000) : mWi l yX5_placeNow wsX5_placeNow ({ frames := 4, cells := 0, slots := 0, locals := 77 } : Room) D cy M sz [.ref (B 0), .int (nI s1), .int (zI w)] (fun r M' => r = zI (plC x (cn 3) w s1) ∧ M' = M) 0 0 := by
  refine mW.of (cc := cX5_placeNow) (maxL := 6) (ret := (some .int)) (by decide) rfl (Nat.le_of_ble_eq_true rfl) ?_
  intro p e s m args below meth c ls hsz hx hb hr hts hown hlocks hml hname hP hD hS hA hK hl
  have hl : lv_has ls 6 [(0, .ref (B 0)), (1, .int (nI s1)), (2, .int (zI w))] := hl
  have hown : s.vm.findClass RX5 = some m.cls := hown
  have hwX5 : ∀ w ∈ wsX50, w.before args s = true := fun w h => hts w (List.mem_cons_of_mem _ (List.mem_append_left _ (List.mem_append_left _ (List.mem_append_left _ (List.mem_append_right _ (h))))))
  have hwJx4a65c : ∀ w ∈ wsJx4a65c0, w.before args s = true := fun w h => hts w (List.mem_cons_of_mem _ (List.mem_append_left _ (List.mem_append_left _ (List.mem_append_right _ (h)))))
  have hwX3 : ∀ w ∈ wsX30, w.before args s = true := fun w h => hts w (List.mem_cons_of_mem _ (List.mem_append_left _ (List.mem_append_right _ (h))))
  have hwX0 : ∀ w ∈ wsX00, w.before args s = true := fun w h => hts w (List.mem_cons_of_mem _ (List.mem_append_right _ (h)))
  obtain ⟨hnc9, hc0, hc1, hc2, hc3, hxm⟩ := id hN
  have p_B_0 : P 0 = some (.inr (6, [.ref (B 1), .ref (B 3), .ref (B 6), .ref (B 8), .ref (B 10), .ref (B 12)])) := hSH.1.1
  have f_B_0 : M (B 0) = some (.inr (6, [.ref (B 1), .ref (B 3), .ref (B 6), .ref (B 8), .ref (B 10), .ref (B 12)])) := hH.1 _ _ p_B_0
  have p_B_10 : P 10 = some (.inr (0, [.int (nI (x 1 10)), .ref (B 11), .int (nI (cn 3))])) := hSH.2.2.2.1.1
  have f_B_10 : M (B 10) = some (.inr (0, [.int (nI (x 1 10)), .ref (B 11), .int (nI (cn 3))])) := hH.1 _ _ p_B_10
  have n_B_0_B_10 : nEq (B 0) (B 10) := hH.ne p_B_0 p_B_10 (by omega)
  obtain ⟨hl1, hl2, hl3, hl4⟩ := LI.num hSH.2.2.2.1 hH (ci := 4) (fs := scF B x) (fun j hj => (hSH.2.2.2.2.2.2 j hj).1)
  refine lv_iload_n hx hb dX5_placeNow_0 rfl (lv_at hl 2 rfl) ?_
  refine lv_sipush (v := (zI (-9999))) hx hb dX5_placeNow_1 (by decide) ?_
  refine z_icmp_ne (u := w) (v := (-9999)) (tgt := 9) hx hb (zI_toInt (by omega) (by omega)) (zI_toInt (by omega) (by omega)) dX5_placeNow_4 (by decide) (fun c_4 => ?_) (fun c_4 => ?_)
  · refine lv_iconst (v := (nI 1)) hx hb dX5_placeNow_9 (by decide) ?_
    refine lv_istore_n (lv' := [(3, .int (nI 1)), (0, .ref (B 0)), (1, .int (nI s1)), (2, .int (zI w))]) hx hb dX5_placeNow_10 rfl hl (by decide) rfl (fun ls hl => ?_)
    refine lv_iconst (v := (nI 0)) hx hb dX5_placeNow_11 (by decide) ?_
    refine lv_istore (lv' := [(4, .int (nI 0)), (3, .int (nI 1)), (0, .ref (B 0)), (1, .int (nI s1)), (2, .int (zI w))]) hx hb dX5_placeNow_12 hl (by decide) rfl (fun ls hl => ?_)
    have K14 : ∀ (n9 : Nat) (j : Nat), 41 - j < n9 → (j ≤ cn 3) → ∀ (Mq : mM) (H : Heap) (locs : List Loc), pm D Mq H → mD (mA M sz) Mq → va_S (mA M sz) s.heap H locs → (Mq = M) → ∀ (ls : Array Slot), lv_has ls 6 [(0, .ref (B 0)), (1, .int (nI s1)), (2, .int (zI w)), (3, .int (nI (plA x w s1 j))), (4, .int (nI j))] → W p l e ({ frames := 4, cells := 0, slots := 0, locals := 77 } : Room) s m args below meth c H locs 0 0 (MQ below (va_Qi (fun r M' => r = zI (plC x (cn 3) w s1) ∧ M' = M) (mB D M sz) (mA M sz)) args s 0 0 (mA M sz)) (F0 m 14 ls []) := by
      intro n9
      induction n9 with
      | zero => intro j hn; exact absurd hn (by omega)
      | succ n9 ih14 =>
        intro j hn14 i14_0 Mq H locs hP hD hS hW ls hl
        have hpl9 := plA_le x w s1 j
        rw [hW] at hP hD
        refine lv_iload hx hb dX5_placeNow_14 (lv_at hl 4 rfl) ?_
        refine lv_aload_n hx hb dX5_placeNow_16 rfl (lv_at hl 0 rfl) ?_
        refine m_get (T := TX5) (N := 6) (ci := 6) (fs := [.ref (B 1), .ref (B 3), .ref (B 6), .ref (B 8), .ref (B 10), .ref (B 12)]) hx hb hwX5 hown hK hP f_B_0 rfl 4 (by decide) (hts _ (List.mem_of_getElem? (i := 1) rfl)) (v := .ref (B 10)) rfl dX5_placeNow_17 ?_
        refine vp_callSi (W.runV (C := RJx4a65c) (As := []) (rest := [.int (nI j)]) ⟨hx, hb, hml, hown, hts⟩ (c_Jx4a65c_size_8abf5 l D cy _ (B 10) (cn 3) (x 1 10) (B 11) (f_B_10)) (cwV 0 hts gX5_placeNow_Jx4a65c_size_8abf5 rfl rfl rfl (by decide +kernel) ⟨Nat.le_of_ble_eq_true rfl, Nat.le_of_ble_eq_true rfl⟩) (mPreV hK hP f_B_10 (ci := 0) rfl) rfl rfl hl.1 rfl (lv_room (Nat.le_of_ble_eq_true rfl)) dX5_placeNow_20 ⟨Nat.le_of_ble_eq_true rfl, Nat.le_of_ble_eq_true rfl⟩) (fun r9 hr9 => ?_)
        have hr9 : r9 = (nI (cn 3)) := hr9
        subst hr9
        refine z_icmp_ge (u := ((j : Nat) : Int)) (v := ((cn 3 : Nat) : Int)) (tgt := 70) hx hb (nI_toInt (by omega)) (nI_toInt (by omega)) dX5_placeNow_23 (by decide) (fun c_23 => ?_) (fun c_23 => ?_)
        · refine lv_iload_n hx hb dX5_placeNow_70 rfl (lv_at hl 3 rfl) ?_
          exact e_wi hx hb hr hlocks hP hD hS (⟨(by unfold plC; rw [if_neg (by omega), show cn 3 = j by omega]; exact nI_zI _), rfl⟩) dX5_placeNow_71
        · have hjn : j < cn 3 := (by omega)
          refine lv_aload_n hx hb dX5_placeNow_26 rfl (lv_at hl 0 rfl) ?_
          refine m_get (T := TX5) (N := 6) (ci := 6) (fs := [.ref (B 1), .ref (B 3), .ref (B 6), .ref (B 8), .ref (B 10), .ref (B 12)]) hx hb hwX5 hown hK hP f_B_0 rfl 4 (by decide) (hts _ (List.mem_of_getElem? (i := 1) rfl)) (v := .ref (B 10)) rfl dX5_placeNow_27 ?_
          refine lv_iload hx hb dX5_placeNow_30 (lv_at hl 4 rfl) ?_
          refine m_callr (va_runV (C := RJx4a65c) (As := [.int (nI j)]) (rest := []) ⟨hx, hb, hml, hown, hts⟩ (c_Jx4a65c_get_915e3 l D cy _ _ (B 10) (B 11) (cn 3) (x 1 10) (x 0 10) (E 10) j (B (60 + 7 * j)) (f_B_10) (hl3 (by omega)) hjn hl1 hl2 (hl4 j hjn).1) (cwV 1 hts gX5_placeNow_Jx4a65c_get_915e3 rfl rfl rfl (by decide +kernel) ⟨Nat.le_of_ble_eq_true rfl, Nat.le_of_ble_eq_true rfl⟩) (mPreWV hK hP f_B_10 (ci := 0) rfl) rfl rfl hl.1 rfl (lv_room (Nat.le_of_ble_eq_true rfl)) dX5_placeNow_32 ⟨Nat.le_of_ble_eq_true rfl, Nat.le_of_ble_eq_true rfl⟩) hD hA hS (fun r9 Mn H locs hq9 hP hD hS hz9 hd9 hk9 => ?_)
          obtain ⟨hr9, hq9⟩ := hq9
          rw [hr9]
          have hq9 : Mn = M := hq9
          rw [hq9] at hP hD
          have hvv : ∀ i9, x (1001 + 8 * j) i9 ≤ 20 := (fun i9 => Nat.le_trans (hxm (1001 + 8 * j) i9) (Nat.le_of_eq (xm_1 nc j)))
          have hxx : ∀ i9, x (1000 + 8 * j) i9 ≤ 5 := (fun i9 => Nat.le_trans (hxm (1000 + 8 * j) i9) (Nat.le_of_eq (xm_0 nc j)))
          have hss : ∀ i9, x (1002 + 8 * j) i9 ≤ 8 := (fun i9 => Nat.le_trans (hxm (1002 + 8 * j) i9) (Nat.le_of_eq (xm_2 nc j)))
          have hpp : ∀ i9, x (1003 + 8 * j) i9 ≤ 5 := (fun i9 => Nat.le_trans (hxm (1003 + 8 * j) i9) (Nat.le_of_eq (xm_3 nc j)))
          have hrr : ∀ i9, x (1004 + 8 * j) i9 ≤ 8 := (fun i9 => Nat.le_trans (hxm (1004 + 8 * j) i9) (Nat.le_of_eq (xm_4 nc j)))
          have h13 : x 13 j ≤ 3 := hxm 13 j
          have h12 : x 12 j ≤ 6 := hxm 12 j
          have h11 : x 11 j ≤ 1 := hxm 11 j
          have p_B_60_7_j : P (60 + 7 * j) = some (.inr (4, [.int (nI (x 10 j)), .ref (B (61 + 7 * j)), .int (nI (x 11 j)), .ref (B (64 + 7 * j)), .ref (B (65 + 7 * j)), .ref (B (66 + 7 * j)), .int (nI (x 12 j))])) := (hSH.2.2.2.2.2.2 j hjn).1
          have f_B_60_7_j : M (B (60 + 7 * j)) = some (.inr (4, [.int (nI (x 10 j)), .ref (B (61 + 7 * j)), .int (nI (x 11 j)), .ref (B (64 + 7 * j)), .ref (B (65 + 7 * j)), .ref (B (66 + 7 * j)), .int (nI (x 12 j))])) := hH.1 _ _ p_B_60_7_j
          have n_B_0_B_60_7_j : nEq (B 0) (B (60 + 7 * j)) := hH.ne p_B_0 p_B_60_7_j (by omega)
          have n_B_10_B_60_7_j : nEq (B 10) (B (60 + 7 * j)) := hH.ne p_B_10 p_B_60_7_j (by omega)
          have p_B_61_7_j : P (61 + 7 * j) = some (.inr (1, [.ref (B (62 + 7 * j)), .ref (B (63 + 7 * j)), .int (nI (x 13 j))])) := (hSH.2.2.2.2.2.2 j hjn).2.1
          have f_B_61_7_j : M (B (61 + 7 * j)) = some (.inr (1, [.ref (B (62 + 7 * j)), .ref (B (63 + 7 * j)), .int (nI (x 13 j))])) := hH.1 _ _ p_B_61_7_j
          have n_B_0_B_61_7_j : nEq (B 0) (B (61 + 7 * j)) := hH.ne p_B_0 p_B_61_7_j (by omega)
          have n_B_10_B_61_7_j : nEq (B 10) (B (61 + 7 * j)) := hH.ne p_B_10 p_B_61_7_j (by omega)
          have n_B_60_7_j_B_61_7_j : nEq (B (60 + 7 * j)) (B (61 + 7 * j)) := hH.ne p_B_60_7_j p_B_61_7_j (by omega)
          have p_B_62_7_j : P (62 + 7 * j) = some (eI cy 3 (x (1000 + 8 * j))) := (hSH.2.2.2.2.2.2 j hjn).2.2.1
          have f_B_62_7_j : M (B (62 + 7 * j)) = some (eI cy 3 (x (1000 + 8 * j))) := hH.1 _ _ p_B_62_7_j
          have n_B_0_B_62_7_j : nEq (B 0) (B (62 + 7 * j)) := hH.ne p_B_0 p_B_62_7_j (by omega)
          have n_B_10_B_62_7_j : nEq (B 10) (B (62 + 7 * j)) := hH.ne p_B_10 p_B_62_7_j (by omega)
          have n_B_60_7_j_B_62_7_j : nEq (B (60 + 7 * j)) (B (62 + 7 * j)) := hH.ne p_B_60_7_j p_B_62_7_j (by omega)
          have n_B_61_7_j_B_62_7_j : nEq (B (61 + 7 * j)) (B (62 + 7 * j)) := hH.ne p_B_61_7_j p_B_62_7_j (by omega)
          have p_B_63_7_j : P (63 + 7 * j) = some (eI cy 3 (x (1001 + 8 * j))) := (hSH.2.2.2.2.2.2 j hjn).2.2.2.1
          have f_B_63_7_j : M (B (63 + 7 * j)) = some (eI cy 3 (x (1001 + 8 * j))) := hH.1 _ _ p_B_63_7_j
          have n_B_0_B_63_7_j : nEq (B 0) (B (63 + 7 * j)) := hH.ne p_B_0 p_B_63_7_j (by omega)
          have n_B_10_B_63_7_j : nEq (B 10) (B (63 + 7 * j)) := hH.ne p_B_10 p_B_63_7_j (by omega)
          have n_B_60_7_j_B_63_7_j : nEq (B (60 + 7 * j)) (B (63 + 7 * j)) := hH.ne p_B_60_7_j p_B_63_7_j (by omega)
          have n_B_61_7_j_B_63_7_j : nEq (B (61 + 7 * j)) (B (63 + 7 * j)) := hH.ne p_B_61_7_j p_B_63_7_j (by omega)
          have n_B_62_7_j_B_63_7_j : nEq (B (62 + 7 * j)) (B (63 + 7 * j)) := hH.ne p_B_62_7_j p_B_63_7_j (by omega)
          have p_B_64_7_j : P (64 + 7 * j) = some (eI cy 5 (x (1002 + 8 * j))) := (hSH.2.2.2.2.2.2 j hjn).2.2.2.2.1
          have f_B_64_7_j : M (B (64 + 7 * j)) = some (eI cy 5 (x (1002 + 8 * j))) := hH.1 _ _ p_B_64_7_j
          have n_B_0_B_64_7_j : nEq (B 0) (B (64 + 7 * j)) := hH.ne p_B_0 p_B_64_7_j (by omega)
          have n_B_10_B_64_7_j : nEq (B 10) (B (64 + 7 * j)) := hH.ne p_B_10 p_B_64_7_j (by omega)
          have n_B_60_7_j_B_64_7_j : nEq (B (60 + 7 * j)) (B (64 + 7 * j)) := hH.ne p_B_60_7_j p_B_64_7_j (by omega)
          have n_B_61_7_j_B_64_7_j : nEq (B (61 + 7 * j)) (B (64 + 7 * j)) := hH.ne p_B_61_7_j p_B_64_7_j (by omega)
          have n_B_62_7_j_B_64_7_j : nEq (B (62 + 7 * j)) (B (64 + 7 * j)) := hH.ne p_B_62_7_j p_B_64_7_j (by omega)
          have n_B_63_7_j_B_64_7_j : nEq (B (63 + 7 * j)) (B (64 + 7 * j)) := hH.ne p_B_63_7_j p_B_64_7_j (by omega)
          have p_B_65_7_j : P (65 + 7 * j) = some (eI cy 4 (x (1003 + 8 * j))) := (hSH.2.2.2.2.2.2 j hjn).2.2.2.2.2.1
          have f_B_65_7_j : M (B (65 + 7 * j)) = some (eI cy 4 (x (1003 + 8 * j))) := hH.1 _ _ p_B_65_7_j
          have n_B_0_B_65_7_j : nEq (B 0) (B (65 + 7 * j)) := hH.ne p_B_0 p_B_65_7_j (by omega)
          have n_B_10_B_65_7_j : nEq (B 10) (B (65 + 7 * j)) := hH.ne p_B_10 p_B_65_7_j (by omega)
          have n_B_60_7_j_B_65_7_j : nEq (B (60 + 7 * j)) (B (65 + 7 * j)) := hH.ne p_B_60_7_j p_B_65_7_j (by omega)
          have n_B_61_7_j_B_65_7_j : nEq (B (61 + 7 * j)) (B (65 + 7 * j)) := hH.ne p_B_61_7_j p_B_65_7_j (by omega)
          have n_B_62_7_j_B_65_7_j : nEq (B (62 + 7 * j)) (B (65 + 7 * j)) := hH.ne p_B_62_7_j p_B_65_7_j (by omega)
          have n_B_63_7_j_B_65_7_j : nEq (B (63 + 7 * j)) (B (65 + 7 * j)) := hH.ne p_B_63_7_j p_B_65_7_j (by omega)
          have n_B_64_7_j_B_65_7_j : nEq (B (64 + 7 * j)) (B (65 + 7 * j)) := hH.ne p_B_64_7_j p_B_65_7_j (by omega)
          have p_B_66_7_j : P (66 + 7 * j) = some (eI cy 6 (x (1004 + 8 * j))) := (hSH.2.2.2.2.2.2 j hjn).2.2.2.2.2.2
          have f_B_66_7_j : M (B (66 + 7 * j)) = some (eI cy 6 (x (1004 + 8 * j))) := hH.1 _ _ p_B_66_7_j
          have n_B_0_B_66_7_j : nEq (B 0) (B (66 + 7 * j)) := hH.ne p_B_0 p_B_66_7_j (by omega)
          have n_B_10_B_66_7_j : nEq (B 10) (B (66 + 7 * j)) := hH.ne p_B_10 p_B_66_7_j (by omega)
          have n_B_60_7_j_B_66_7_j : nEq (B (60 + 7 * j)) (B (66 + 7 * j)) := hH.ne p_B_60_7_j p_B_66_7_j (by omega)
          have n_B_61_7_j_B_66_7_j : nEq (B (61 + 7 * j)) (B (66 + 7 * j)) := hH.ne p_B_61_7_j p_B_66_7_j (by omega)
          have n_B_62_7_j_B_66_7_j : nEq (B (62 + 7 * j)) (B (66 + 7 * j)) := hH.ne p_B_62_7_j p_B_66_7_j (by omega)
          have n_B_63_7_j_B_66_7_j : nEq (B (63 + 7 * j)) (B (66 + 7 * j)) := hH.ne p_B_63_7_j p_B_66_7_j (by omega)
          have n_B_64_7_j_B_66_7_j : nEq (B (64 + 7 * j)) (B (66 + 7 * j)) := hH.ne p_B_64_7_j p_B_66_7_j (by omega)
          have n_B_65_7_j_B_66_7_j : nEq (B (65 + 7 * j)) (B (66 + 7 * j)) := hH.ne p_B_65_7_j p_B_66_7_j (by omega)
          refine m_cast (ci := 4) hx hb hown (hts _ (List.mem_of_getElem? (i := 2) rfl)) hK hP f_B_60_7_j rfl rfl dX5_placeNow_35 ?_
          refine vp_callSi (W.runV (C := RX3) (As := []) (rest := []) ⟨hx, hb, hml, hown, hts⟩ (c_X3_worthNow l D cy _ (B (60 + 7 * j)) (B (61 + 7 * j)) (B (64 + 7 * j)) (B (65 + 7 * j)) (B (66 + 7 * j)) (x 10 j) (x 11 j) (x 12 j) (x (1002 + 8 * j)) (x (1003 + 8 * j)) (x (1004 + 8 * j)) (B (62 + 7 * j)) (B (63 + 7 * j)) (x 13 j) (x (1000 + 8 * j)) (x (1001 + 8 * j)) (f_B_60_7_j) (f_B_64_7_j) (f_B_65_7_j) (f_B_66_7_j) (f_B_61_7_j) (f_B_62_7_j) (f_B_63_7_j) h13 hvv hpp hss h11) (cwV 0 hts gX5_placeNow_X3_worthNow rfl rfl rfl (by decide +kernel) ⟨Nat.le_of_ble_eq_true rfl, Nat.le_of_ble_eq_true rfl⟩) (mPreV hK hP f_B_60_7_j (ci := 4) rfl) rfl rfl hl.1 rfl (lv_room (Nat.le_of_ble_eq_true rfl)) dX5_placeNow_38 ⟨Nat.le_of_ble_eq_true rfl, Nat.le_of_ble_eq_true rfl⟩) (fun r9 hr9 => ?_)
          have hr9 : r9 = (zI (wC x j)) := hr9
          subst hr9
          have hwb9 := wC_bd (x := x) (s := j) hvv hpp hss
          refine lv_istore (lv' := [(5, .int (zI (wC x j))), (0, .ref (B 0)), (1, .int (nI s1)), (2, .int (zI w)), (3, .int (nI (plA x w s1 j))), (4, .int (nI j))]) hx hb dX5_placeNow_41 hl (by decide) rfl (fun ls hl => ?_)
          refine lv_iload hx hb dX5_placeNow_43 (lv_at hl 0 rfl) ?_
          refine lv_iload_n hx hb dX5_placeNow_45 rfl (lv_at hl 3 rfl) ?_
          refine z_icmp_gt (u := (wC x j)) (v := w) (tgt := 61) hx hb (zI_toInt (by omega) (by omega)) (zI_toInt (by omega) (by omega)) dX5_placeNow_46 (by decide) (fun c_46 => ?_) (fun c_46 => ?_)
          · refine n_iinc (x := plA x w s1 j) (k := 1) (lv' := [(3, .int (nI ((plA x w s1 j) + 1))), (5, .int (zI (wC x j))), (0, .ref (B 0)), (1, .int (nI s1)), (2, .int (zI w)), (4, .int (nI j))]) hx hb dX5_placeNow_61 rfl hl (q := 4) rfl (by decide) rfl (fun ls hl => ?_)
            refine n_iinc (x := j) (k := 1) (lv' := [(4, .int (nI (j + 1))), (3, .int (nI ((plA x w s1 j) + 1))), (5, .int (zI (wC x j))), (0, .ref (B 0)), (1, .int (nI s1)), (2, .int (zI w))]) hx hb dX5_placeNow_64 rfl hl (q := 5) rfl (by decide) rfl (fun ls hl => ?_)
            refine lv_goto (tgt := 14) hx hb dX5_placeNow_67 (by decide) ?_
            have hl : lv_has ls 6 [(4, .int (nI (j + 1))), (3, .int (nI (plA x w s1 (j + 1)))), (5, .int (zI (wC x j))), (0, .ref (B 0)), (1, .int (nI s1)), (2, .int (zI w))] := by
              have heq0 : (.int (nI (plA x w s1 (j + 1))) : Value) = .int (nI ((plA x w s1 j) + 1)) := congrArg Value.int (congrArg nI (by show plA x w s1 j + b2 (decide (w < wC x j ∨ (wC x j = w ∧ j < s1))) = _; first | (rw [decide_eq_true (by omega)]; rfl) | (rw [decide_eq_false (by omega)]; rfl)))
              rw [heq0]
              exact hl
            exact ih14  (j + 1) (by omega) (by omega) _ _ _ hP hD hS (rfl) _ (lv_sub hl [3, 4, 5, 1, 0] rfl)
          · refine lv_iload hx hb dX5_placeNow_49 (lv_at hl 0 rfl) ?_
            refine lv_iload_n hx hb dX5_placeNow_51 rfl (lv_at hl 3 rfl) ?_
            refine z_icmp_ne (u := (wC x j)) (v := w) (tgt := 64) hx hb (zI_toInt (by omega) (by omega)) (zI_toInt (by omega) (by omega)) dX5_placeNow_52 (by decide) (fun c_52 => ?_) (fun c_52 => ?_)
            · refine n_iinc (x := j) (k := 1) (lv' := [(4, .int (nI (j + 1))), (5, .int (zI (wC x j))), (0, .ref (B 0)), (1, .int (nI s1)), (2, .int (zI w)), (3, .int (nI (plA x w s1 j)))]) hx hb dX5_placeNow_64 rfl hl (q := 5) rfl (by decide) rfl (fun ls hl => ?_)
              refine lv_goto (tgt := 14) hx hb dX5_placeNow_67 (by decide) ?_
              have hl : lv_has ls 6 [(4, .int (nI (j + 1))), (5, .int (zI (wC x j))), (0, .ref (B 0)), (1, .int (nI s1)), (2, .int (zI w)), (3, .int (nI (plA x w s1 (j + 1))))] := by
                have heq0 : (.int (nI (plA x w s1 (j + 1))) : Value) = .int (nI (plA x w s1 j)) := congrArg Value.int (congrArg nI (by show plA x w s1 j + b2 (decide (w < wC x j ∨ (wC x j = w ∧ j < s1))) = _; first | (rw [decide_eq_true (by omega)]; rfl) | (rw [decide_eq_false (by omega)]; rfl)))
                rw [heq0]
                exact hl
              exact ih14  (j + 1) (by omega) (by omega) _ _ _ hP hD hS (rfl) _ (lv_sub hl [2, 3, 4, 5, 0] rfl)
            · refine lv_iload hx hb dX5_placeNow_55 (lv_at hl 5 rfl) ?_
              refine lv_iload_n hx hb dX5_placeNow_57 rfl (lv_at hl 2 rfl) ?_
              refine z_icmp_ge (u := ((j : Nat) : Int)) (v := ((s1 : Nat) : Int)) (tgt := 64) hx hb (nI_toInt (by omega)) (nI_toInt (by omega)) dX5_placeNow_58 (by decide) (fun c_58 => ?_) (fun c_58 => ?_)
              · refine n_iinc (x := j) (k := 1) (lv' := [(4, .int (nI (j + 1))), (5, .int (zI (wC x j))), (0, .ref (B 0)), (1, .int (nI s1)), (2, .int (zI w)), (3, .int (nI (plA x w s1 j)))]) hx hb dX5_placeNow_64 rfl hl (q := 5) rfl (by decide) rfl (fun ls hl => ?_)
                refine lv_goto (tgt := 14) hx hb dX5_placeNow_67 (by decide) ?_
                have hl : lv_has ls 6 [(4, .int (nI (j + 1))), (5, .int (zI (wC x j))), (0, .ref (B 0)), (1, .int (nI s1)), (2, .int (zI w)), (3, .int (nI (plA x w s1 (j + 1))))] := by
                  have heq0 : (.int (nI (plA x w s1 (j + 1))) : Value) = .int (nI (plA x w s1 j)) := congrArg Value.int (congrArg nI (by show plA x w s1 j + b2 (decide (w < wC x j ∨ (wC x j = w ∧ j < s1))) = _; first | (rw [decide_eq_true (by omega)]; rfl) | (rw [decide_eq_false (by omega)]; rfl)))
                  rw [heq0]
                  exact hl
                exact ih14  (j + 1) (by omega) (by omega) _ _ _ hP hD hS (rfl) _ (lv_sub hl [2, 3, 4, 5, 0] rfl)
              · refine n_iinc (x := plA x w s1 j) (k := 1) (lv' := [(3, .int (nI ((plA x w s1 j) + 1))), (5, .int (zI (wC x j))), (0, .ref (B 0)), (1, .int (nI s1)), (2, .int (zI w)), (4, .int (nI j))]) hx hb dX5_placeNow_61 rfl hl (q := 4) rfl (by decide) rfl (fun ls hl => ?_)
                refine n_iinc (x := j) (k := 1) (lv' := [(4, .int (nI (j + 1))), (3, .int (nI ((plA x w s1 j) + 1))), (5, .int (zI (wC x j))), (0, .ref (B 0)), (1, .int (nI s1)), (2, .int (zI w))]) hx hb dX5_placeNow_64 rfl hl (q := 5) rfl (by decide) rfl (fun ls hl => ?_)
                refine lv_goto (tgt := 14) hx hb dX5_placeNow_67 (by decide) ?_
                have hl : lv_has ls 6 [(4, .int (nI (j + 1))), (3, .int (nI (plA x w s1 (j + 1)))), (5, .int (zI (wC x j))), (0, .ref (B 0)), (1, .int (nI s1)), (2, .int (zI w))] := by
                  have heq0 : (.int (nI (plA x w s1 (j + 1))) : Value) = .int (nI ((plA x w s1 j) + 1)) := congrArg Value.int (congrArg nI (by show plA x w s1 j + b2 (decide (w < wC x j ∨ (wC x j = w ∧ j < s1))) = _; first | (rw [decide_eq_true (by omega)]; rfl) | (rw [decide_eq_false (by omega)]; rfl)))
                  rw [heq0]
                  exact hl
                exact ih14  (j + 1) (by omega) (by omega) _ _ _ hP hD hS (rfl) _ (lv_sub hl [3, 4, 5, 1, 0] rfl)
    exact K14 (41 - 0 + 1) 0 (Nat.lt_succ_self _) (Nat.zero_le _) _ _ _ hP hD hS (rfl) _ (lv_sub hl [2, 3, 4, 1, 0] rfl)
  · refine lv_iconst (v := (zI (-1))) hx hb dX5_placeNow_7 (by decide) ?_
    exact e_wi hx hb hr hlocks hP hD hS (⟨(by unfold plC; rw [if_pos (by omega)]), rfl⟩) dX5_placeNow_8

set_option maxRecDepth 100000 in
set_option maxHeartbeats 4000000 in
theorem c_X5_place (l : Launch) (hst : l.stackTraces = false) (de mi : Nat) (D : va_G) (cy : Nat → ClassId) (M : mM) (sz : Nat) (B : Nat → Nat) (P : Nat → Option va_E) (cn : Nat → Nat) (x : Nat → Nat → Nat) (E : Nat → Nat → Option Nat) (nc : Nat) (y : Int32) (uy : Int)  (hH : hHolds M B P) (hSH : SH de cy B P cn x E) (hN : NB nc cn x) (py : y.toInt = uy) : mVi l yX5_place wsX5_place ({ frames := 7, cells := 4, slots := 24, locals := 103 } : Room) de mi D cy M sz [.ref (B 0), .int y] (fun r M' => (0 ≤ uy ∧ uy < cn 3) ∧ r = zI (plC x (cn 3) (wC x (uy).toNat) (uy).toNat) ∧ M' = M) (fun E9 => (E9 = "java/lang/IndexOutOfBoundsException" ∧ ¬ (0 ≤ uy ∧ uy < cn 3))) 4 24 := by
  refine mV.of (cc := cX5_place) (maxL := 2) (ret := (some .int)) (by decide) rfl (Nat.le_of_ble_eq_true rfl) ?_
  intro p e s m args below meth c ls hsz hx hb hr hts hown hlocks hml hout hname hP hD hS hA hK hX hl
  have hl : lv_has ls 2 [(0, .ref (B 0)), (1, .int y)] := hl
  have hown : s.vm.findClass RX5 = some m.cls := hown
  have hwX5 : ∀ w ∈ wsX50, w.before args s = true := fun w h => hts w (List.mem_cons_of_mem _ (List.mem_append_left _ (List.mem_append_left _ (List.mem_append_left _ (List.mem_append_left _ (List.mem_append_right _ (h)))))))
  have hwJx4a65c : ∀ w ∈ wsJx4a65c0, w.before args s = true := fun w h => hts w (List.mem_cons_of_mem _ (List.mem_append_left _ (List.mem_append_left _ (List.mem_append_left _ (List.mem_append_right _ (h))))))
  have hwX3 : ∀ w ∈ wsX30, w.before args s = true := fun w h => hts w (List.mem_cons_of_mem _ (List.mem_append_left _ (List.mem_append_left _ (List.mem_append_right _ (h)))))
  have hwX0 : ∀ w ∈ wsX00, w.before args s = true := fun w h => hts w (List.mem_cons_of_mem _ (List.mem_append_left _ (List.mem_append_right _ (h))))
  obtain ⟨hnc9, hc0, hc1, hc2, hc3, hxm⟩ := id hN
  have p_B_0 : P 0 = some (.inr (6, [.ref (B 1), .ref (B 3), .ref (B 6), .ref (B 8), .ref (B 10), .ref (B 12)])) := hSH.1.1
  have f_B_0 : M (B 0) = some (.inr (6, [.ref (B 1), .ref (B 3), .ref (B 6), .ref (B 8), .ref (B 10), .ref (B 12)])) := hH.1 _ _ p_B_0
  have p_B_10 : P 10 = some (.inr (0, [.int (nI (x 1 10)), .ref (B 11), .int (nI (cn 3))])) := hSH.2.2.2.1.1
  have f_B_10 : M (B 10) = some (.inr (0, [.int (nI (x 1 10)), .ref (B 11), .int (nI (cn 3))])) := hH.1 _ _ p_B_10
  have n_B_0_B_10 : nEq (B 0) (B 10) := hH.ne p_B_0 p_B_10 (by omega)
  refine lv_aload_n hx hb dX5_place_0 rfl (lv_at hl 0 rfl) ?_
  refine lv_iload_n hx hb dX5_place_1 rfl (lv_at hl 1 rfl) ?_
  refine lv_aload_n hx hb dX5_place_2 rfl (lv_at hl 0 rfl) ?_
  refine lv_iload_n hx hb dX5_place_3 rfl (lv_at hl 1 rfl) ?_
  obtain ⟨hl1_4, hl2_4, hl3_4, hl4_4⟩ := LI.num hSH.2.2.2.1 hH (ci := 4) (fs := scF B x) (fun j hj => (hSH.2.2.2.2.2.2 j hj).1)
  refine x_callr (vx_runV (C := RX5) (As := [.int y]) (rest := [.int y, .ref (B 0)]) ⟨hx, hb, hml, hown, hts⟩ (c_X5_scriptNumbered l hst de mi D cy _ _ (B 0) (B 1) (B 3) (B 6) (B 8) (B 10) (B 12) (B 11) (cn 3) (x 1 10) (x 0 10) (E 10) (fun j => B (60 + 7 * j)) (scF B x) y uy (f_B_0) (f_B_10) hl1_4 hl2_4 hl3_4 hl4_4 py) (cwV 1 hts gX5_place_X5_scriptNumbered rfl rfl rfl (by decide +kernel) ⟨Nat.le_of_ble_eq_true rfl, Nat.le_of_ble_eq_true rfl⟩) (mPreXV hX hD hS hA hK hP f_B_0 (ci := 6) rfl) rfl rfl hl.1 rfl (lv_room (Nat.le_of_ble_eq_true rfl)) dX5_place_4 ⟨Nat.le_of_ble_eq_true rfl, Nat.le_of_ble_eq_true rfl⟩) hD hA hS hout hlocks (fun E9 h9 => h9) (Nat.le_of_ble_eq_true rfl) (Nat.le_of_ble_eq_true rfl) (fun r9 Mn H locs hq9 hP hD hS hz9 => ?_)
  obtain ⟨hsc, hr9, hq9⟩ := hq9
  rw [hq9] at hP hD
  have hr9 : r9 = B (60 + 7 * (uy).toNat) := hr9
  rw [hr9]
  have hscn : (uy).toNat < cn 3 := (by omega)
  have p_B_60_7_uy_toNat : P (60 + 7 * (uy).toNat) = some (.inr (4, [.int (nI (x 10 (uy).toNat)), .ref (B (61 + 7 * (uy).toNat)), .int (nI (x 11 (uy).toNat)), .ref (B (64 + 7 * (uy).toNat)), .ref (B (65 + 7 * (uy).toNat)), .ref (B (66 + 7 * (uy).toNat)), .int (nI (x 12 (uy).toNat))])) := (hSH.2.2.2.2.2.2 (uy).toNat hscn).1
  have f_B_60_7_uy_toNat : M (B (60 + 7 * (uy).toNat)) = some (.inr (4, [.int (nI (x 10 (uy).toNat)), .ref (B (61 + 7 * (uy).toNat)), .int (nI (x 11 (uy).toNat)), .ref (B (64 + 7 * (uy).toNat)), .ref (B (65 + 7 * (uy).toNat)), .ref (B (66 + 7 * (uy).toNat)), .int (nI (x 12 (uy).toNat))])) := hH.1 _ _ p_B_60_7_uy_toNat
  have n_B_0_B_60_7_uy_toNat : nEq (B 0) (B (60 + 7 * (uy).toNat)) := hH.ne p_B_0 p_B_60_7_uy_toNat (by omega)
  have n_B_10_B_60_7_uy_toNat : nEq (B 10) (B (60 + 7 * (uy).toNat)) := hH.ne p_B_10 p_B_60_7_uy_toNat (by omega)
  have p_B_61_7_uy_toNat : P (61 + 7 * (uy).toNat) = some (.inr (1, [.ref (B (62 + 7 * (uy).toNat)), .ref (B (63 + 7 * (uy).toNat)), .int (nI (x 13 (uy).toNat))])) := (hSH.2.2.2.2.2.2 (uy).toNat hscn).2.1
  have f_B_61_7_uy_toNat : M (B (61 + 7 * (uy).toNat)) = some (.inr (1, [.ref (B (62 + 7 * (uy).toNat)), .ref (B (63 + 7 * (uy).toNat)), .int (nI (x 13 (uy).toNat))])) := hH.1 _ _ p_B_61_7_uy_toNat
  have n_B_0_B_61_7_uy_toNat : nEq (B 0) (B (61 + 7 * (uy).toNat)) := hH.ne p_B_0 p_B_61_7_uy_toNat (by omega)
  have n_B_10_B_61_7_uy_toNat : nEq (B 10) (B (61 + 7 * (uy).toNat)) := hH.ne p_B_10 p_B_61_7_uy_toNat (by omega)
  have n_B_60_7_uy_toNat_B_61_7_uy_toNat : nEq (B (60 + 7 * (uy).toNat)) (B (61 + 7 * (uy).toNat)) := hH.ne p_B_60_7_uy_toNat p_B_61_7_uy_toNat (by omega)
  have p_B_62_7_uy_toNat : P (62 + 7 * (uy).toNat) = some (eI cy 3 (x (1000 + 8 * (uy).toNat))) := (hSH.2.2.2.2.2.2 (uy).toNat hscn).2.2.1
  have f_B_62_7_uy_toNat : M (B (62 + 7 * (uy).toNat)) = some (eI cy 3 (x (1000 + 8 * (uy).toNat))) := hH.1 _ _ p_B_62_7_uy_toNat
  have n_B_0_B_62_7_uy_toNat : nEq (B 0) (B (62 + 7 * (uy).toNat)) := hH.ne p_B_0 p_B_62_7_uy_toNat (by omega)
  have n_B_10_B_62_7_uy_toNat : nEq (B 10) (B (62 + 7 * (uy).toNat)) := hH.ne p_B_10 p_B_62_7_uy_toNat (by omega)
  have n_B_60_7_uy_toNat_B_62_7_uy_toNat : nEq (B (60 + 7 * (uy).toNat)) (B (62 + 7 * (uy).toNat)) := hH.ne p_B_60_7_uy_toNat p_B_62_7_uy_toNat (by omega)
  have n_B_61_7_uy_toNat_B_62_7_uy_toNat : nEq (B (61 + 7 * (uy).toNat)) (B (62 + 7 * (uy).toNat)) := hH.ne p_B_61_7_uy_toNat p_B_62_7_uy_toNat (by omega)
  have p_B_63_7_uy_toNat : P (63 + 7 * (uy).toNat) = some (eI cy 3 (x (1001 + 8 * (uy).toNat))) := (hSH.2.2.2.2.2.2 (uy).toNat hscn).2.2.2.1
  have f_B_63_7_uy_toNat : M (B (63 + 7 * (uy).toNat)) = some (eI cy 3 (x (1001 + 8 * (uy).toNat))) := hH.1 _ _ p_B_63_7_uy_toNat
  have n_B_0_B_63_7_uy_toNat : nEq (B 0) (B (63 + 7 * (uy).toNat)) := hH.ne p_B_0 p_B_63_7_uy_toNat (by omega)
  have n_B_10_B_63_7_uy_toNat : nEq (B 10) (B (63 + 7 * (uy).toNat)) := hH.ne p_B_10 p_B_63_7_uy_toNat (by omega)
  have n_B_60_7_uy_toNat_B_63_7_uy_toNat : nEq (B (60 + 7 * (uy).toNat)) (B (63 + 7 * (uy).toNat)) := hH.ne p_B_60_7_uy_toNat p_B_63_7_uy_toNat (by omega)
  have n_B_61_7_uy_toNat_B_63_7_uy_toNat : nEq (B (61 + 7 * (uy).toNat)) (B (63 + 7 * (uy).toNat)) := hH.ne p_B_61_7_uy_toNat p_B_63_7_uy_toNat (by omega)
  have n_B_62_7_uy_toNat_B_63_7_uy_toNat : nEq (B (62 + 7 * (uy).toNat)) (B (63 + 7 * (uy).toNat)) := hH.ne p_B_62_7_uy_toNat p_B_63_7_uy_toNat (by omega)
  have p_B_64_7_uy_toNat : P (64 + 7 * (uy).toNat) = some (eI cy 5 (x (1002 + 8 * (uy).toNat))) := (hSH.2.2.2.2.2.2 (uy).toNat hscn).2.2.2.2.1
  have f_B_64_7_uy_toNat : M (B (64 + 7 * (uy).toNat)) = some (eI cy 5 (x (1002 + 8 * (uy).toNat))) := hH.1 _ _ p_B_64_7_uy_toNat
  have n_B_0_B_64_7_uy_toNat : nEq (B 0) (B (64 + 7 * (uy).toNat)) := hH.ne p_B_0 p_B_64_7_uy_toNat (by omega)
  have n_B_10_B_64_7_uy_toNat : nEq (B 10) (B (64 + 7 * (uy).toNat)) := hH.ne p_B_10 p_B_64_7_uy_toNat (by omega)
  have n_B_60_7_uy_toNat_B_64_7_uy_toNat : nEq (B (60 + 7 * (uy).toNat)) (B (64 + 7 * (uy).toNat)) := hH.ne p_B_60_7_uy_toNat p_B_64_7_uy_toNat (by omega)
  have n_B_61_7_uy_toNat_B_64_7_uy_toNat : nEq (B (61 + 7 * (uy).toNat)) (B (64 + 7 * (uy).toNat)) := hH.ne p_B_61_7_uy_toNat p_B_64_7_uy_toNat (by omega)
  have n_B_62_7_uy_toNat_B_64_7_uy_toNat : nEq (B (62 + 7 * (uy).toNat)) (B (64 + 7 * (uy).toNat)) := hH.ne p_B_62_7_uy_toNat p_B_64_7_uy_toNat (by omega)
  have n_B_63_7_uy_toNat_B_64_7_uy_toNat : nEq (B (63 + 7 * (uy).toNat)) (B (64 + 7 * (uy).toNat)) := hH.ne p_B_63_7_uy_toNat p_B_64_7_uy_toNat (by omega)
  have p_B_65_7_uy_toNat : P (65 + 7 * (uy).toNat) = some (eI cy 4 (x (1003 + 8 * (uy).toNat))) := (hSH.2.2.2.2.2.2 (uy).toNat hscn).2.2.2.2.2.1
  have f_B_65_7_uy_toNat : M (B (65 + 7 * (uy).toNat)) = some (eI cy 4 (x (1003 + 8 * (uy).toNat))) := hH.1 _ _ p_B_65_7_uy_toNat
  have n_B_0_B_65_7_uy_toNat : nEq (B 0) (B (65 + 7 * (uy).toNat)) := hH.ne p_B_0 p_B_65_7_uy_toNat (by omega)
  have n_B_10_B_65_7_uy_toNat : nEq (B 10) (B (65 + 7 * (uy).toNat)) := hH.ne p_B_10 p_B_65_7_uy_toNat (by omega)
  have n_B_60_7_uy_toNat_B_65_7_uy_toNat : nEq (B (60 + 7 * (uy).toNat)) (B (65 + 7 * (uy).toNat)) := hH.ne p_B_60_7_uy_toNat p_B_65_7_uy_toNat (by omega)
  have n_B_61_7_uy_toNat_B_65_7_uy_toNat : nEq (B (61 + 7 * (uy).toNat)) (B (65 + 7 * (uy).toNat)) := hH.ne p_B_61_7_uy_toNat p_B_65_7_uy_toNat (by omega)
  have n_B_62_7_uy_toNat_B_65_7_uy_toNat : nEq (B (62 + 7 * (uy).toNat)) (B (65 + 7 * (uy).toNat)) := hH.ne p_B_62_7_uy_toNat p_B_65_7_uy_toNat (by omega)
  have n_B_63_7_uy_toNat_B_65_7_uy_toNat : nEq (B (63 + 7 * (uy).toNat)) (B (65 + 7 * (uy).toNat)) := hH.ne p_B_63_7_uy_toNat p_B_65_7_uy_toNat (by omega)
  have n_B_64_7_uy_toNat_B_65_7_uy_toNat : nEq (B (64 + 7 * (uy).toNat)) (B (65 + 7 * (uy).toNat)) := hH.ne p_B_64_7_uy_toNat p_B_65_7_uy_toNat (by omega)
  have p_B_66_7_uy_toNat : P (66 + 7 * (uy).toNat) = some (eI cy 6 (x (1004 + 8 * (uy).toNat))) := (hSH.2.2.2.2.2.2 (uy).toNat hscn).2.2.2.2.2.2
  have f_B_66_7_uy_toNat : M (B (66 + 7 * (uy).toNat)) = some (eI cy 6 (x (1004 + 8 * (uy).toNat))) := hH.1 _ _ p_B_66_7_uy_toNat
  have n_B_0_B_66_7_uy_toNat : nEq (B 0) (B (66 + 7 * (uy).toNat)) := hH.ne p_B_0 p_B_66_7_uy_toNat (by omega)
  have n_B_10_B_66_7_uy_toNat : nEq (B 10) (B (66 + 7 * (uy).toNat)) := hH.ne p_B_10 p_B_66_7_uy_toNat (by omega)
  have n_B_60_7_uy_toNat_B_66_7_uy_toNat : nEq (B (60 + 7 * (uy).toNat)) (B (66 + 7 * (uy).toNat)) := hH.ne p_B_60_7_uy_toNat p_B_66_7_uy_toNat (by omega)
  have n_B_61_7_uy_toNat_B_66_7_uy_toNat : nEq (B (61 + 7 * (uy).toNat)) (B (66 + 7 * (uy).toNat)) := hH.ne p_B_61_7_uy_toNat p_B_66_7_uy_toNat (by omega)
  have n_B_62_7_uy_toNat_B_66_7_uy_toNat : nEq (B (62 + 7 * (uy).toNat)) (B (66 + 7 * (uy).toNat)) := hH.ne p_B_62_7_uy_toNat p_B_66_7_uy_toNat (by omega)
  have n_B_63_7_uy_toNat_B_66_7_uy_toNat : nEq (B (63 + 7 * (uy).toNat)) (B (66 + 7 * (uy).toNat)) := hH.ne p_B_63_7_uy_toNat p_B_66_7_uy_toNat (by omega)
  have n_B_64_7_uy_toNat_B_66_7_uy_toNat : nEq (B (64 + 7 * (uy).toNat)) (B (66 + 7 * (uy).toNat)) := hH.ne p_B_64_7_uy_toNat p_B_66_7_uy_toNat (by omega)
  have n_B_65_7_uy_toNat_B_66_7_uy_toNat : nEq (B (65 + 7 * (uy).toNat)) (B (66 + 7 * (uy).toNat)) := hH.ne p_B_65_7_uy_toNat p_B_66_7_uy_toNat (by omega)
  have hvv : ∀ i9, x (1001 + 8 * (uy).toNat) i9 ≤ 20 := (fun i9 => Nat.le_trans (hxm (1001 + 8 * (uy).toNat) i9) (Nat.le_of_eq (xm_1 nc (uy).toNat)))
  have hxx : ∀ i9, x (1000 + 8 * (uy).toNat) i9 ≤ 5 := (fun i9 => Nat.le_trans (hxm (1000 + 8 * (uy).toNat) i9) (Nat.le_of_eq (xm_0 nc (uy).toNat)))
  have hss : ∀ i9, x (1002 + 8 * (uy).toNat) i9 ≤ 8 := (fun i9 => Nat.le_trans (hxm (1002 + 8 * (uy).toNat) i9) (Nat.le_of_eq (xm_2 nc (uy).toNat)))
  have hpp : ∀ i9, x (1003 + 8 * (uy).toNat) i9 ≤ 5 := (fun i9 => Nat.le_trans (hxm (1003 + 8 * (uy).toNat) i9) (Nat.le_of_eq (xm_3 nc (uy).toNat)))
  have hrr : ∀ i9, x (1004 + 8 * (uy).toNat) i9 ≤ 8 := (fun i9 => Nat.le_trans (hxm (1004 + 8 * (uy).toNat) i9) (Nat.le_of_eq (xm_4 nc (uy).toNat)))
  have h13 : x 13 (uy).toNat ≤ 3 := hxm 13 (uy).toNat
  have h12 : x 12 (uy).toNat ≤ 6 := hxm 12 (uy).toNat
  have h11 : x 11 (uy).toNat ≤ 1 := hxm 11 (uy).toNat
  rw [show y = nI (uy).toNat from nI_of_toInt py (by omega)]
  refine vp_callSi (W.runV (C := RX3) (As := []) (rest := [.int (nI ((uy).toNat)), .ref (B 0)]) ⟨hx, hb, hml, hown, hts⟩ (c_X3_worthNow l D cy _ (B (60 + 7 * (uy).toNat)) (B (61 + 7 * (uy).toNat)) (B (64 + 7 * (uy).toNat)) (B (65 + 7 * (uy).toNat)) (B (66 + 7 * (uy).toNat)) (x 10 (uy).toNat) (x 11 (uy).toNat) (x 12 (uy).toNat) (x (1002 + 8 * (uy).toNat)) (x (1003 + 8 * (uy).toNat)) (x (1004 + 8 * (uy).toNat)) (B (62 + 7 * (uy).toNat)) (B (63 + 7 * (uy).toNat)) (x 13 (uy).toNat) (x (1000 + 8 * (uy).toNat)) (x (1001 + 8 * (uy).toNat)) (f_B_60_7_uy_toNat) (f_B_64_7_uy_toNat) (f_B_65_7_uy_toNat) (f_B_66_7_uy_toNat) (f_B_61_7_uy_toNat) (f_B_62_7_uy_toNat) (f_B_63_7_uy_toNat) h13 hvv hpp hss h11) (cwV 0 hts gX5_place_X3_worthNow rfl rfl rfl (by decide +kernel) ⟨Nat.le_of_ble_eq_true rfl, Nat.le_of_ble_eq_true rfl⟩) (mPreV hK hP f_B_60_7_uy_toNat (ci := 4) rfl) rfl rfl hl.1 rfl (lv_room (Nat.le_of_ble_eq_true rfl)) dX5_place_7 ⟨Nat.le_of_ble_eq_true rfl, Nat.le_of_ble_eq_true rfl⟩) (fun r9 hr9 => ?_)
  have hr9 : r9 = (zI (wC x (uy).toNat)) := hr9
  subst hr9
  have hwb9 := wC_bd (x := x) (s := (uy).toNat) hvv hpp hss
  refine m_calli (va_runV (C := RX5) (As := [.int (nI ((uy).toNat)), .int (zI (wC x (uy).toNat))]) (rest := []) ⟨hx, hb, hml, hown, hts⟩ (c_X5_placeNow l D cy _ _ de B P cn x E nc (uy).toNat (wC x (uy).toNat) hH hSH hN (by omega) (by omega) (by omega)) (cwV 2 hts gX5_place_X5_placeNow rfl rfl rfl (by decide +kernel) ⟨Nat.le_of_ble_eq_true rfl, Nat.le_of_ble_eq_true rfl⟩) (mPreWV hK hP f_B_0 (ci := 6) rfl) rfl rfl hl.1 rfl (lv_room (Nat.le_of_ble_eq_true rfl)) dX5_place_10 ⟨Nat.le_of_ble_eq_true rfl, Nat.le_of_ble_eq_true rfl⟩) hD hA hS (fun r9 Mn H locs hq9 hP hD hS hz9 hd9 hk9 => ?_)
  obtain ⟨hr9, hq9⟩ := hq9
  have hr9 : r9 = (zI (plC x (cn 3) (wC x (uy).toNat) (uy).toNat)) := hr9
  subst hr9
  have hq9 : Mn = M := hq9
  rw [hq9] at hP hD
  exact vx_ret (e_wi hx hb hr hlocks hP hD hS (⟨by omega, rfl, rfl⟩) dX5_place_13)

set_option maxRecDepth 100000 in
set_option maxHeartbeats 4000000 in
theorem c_X5_at (l : Launch) (hst : l.stackTraces = false) (de mi : Nat) (D : va_G) (cy : Nat → ClassId) (M : mM) (sz : Nat) (B : Nat → Nat) (P : Nat → Option va_E) (cn : Nat → Nat) (x : Nat → Nat → Nat) (E : Nat → Nat → Option Nat) (nc : Nat) (y : Int32) (uy : Int)  (hH : hHolds M B P) (hSH : SH de cy B P cn x E) (hN : NB nc cn x) (py : y.toInt = uy) : mVi l yX5_at wsX5_at ({ frames := 6, cells := 4, slots := 24, locals := 102 } : Room) de mi D cy M sz [.ref (B 0), .int y] (fun r M' => 1 ≤ uy ∧ r = zI (atC x (cn 3) uy (cn 3)) ∧ M' = M) (fun E9 => (E9 = "java/lang/IndexOutOfBoundsException" ∧ ¬ 1 ≤ uy)) 4 24 := by
  refine mV.of (cc := cX5_at) (maxL := 3) (ret := (some .int)) (by decide) rfl (Nat.le_of_ble_eq_true rfl) ?_
  intro p e s m args below meth c ls hsz hx hb hr hts hown hlocks hml hout hname hP hD hS hA hK hX hl
  have hl : lv_has ls 3 [(0, .ref (B 0)), (1, .int y)] := hl
  have hown : s.vm.findClass RX5 = some m.cls := hown
  have hwX5 : ∀ w ∈ wsX50, w.before args s = true := fun w h => hts w (List.mem_cons_of_mem _ (List.mem_append_left _ (List.mem_append_left _ (List.mem_append_left _ (List.mem_append_left _ (List.mem_append_right _ (h)))))))
  have hwJx4a65c : ∀ w ∈ wsJx4a65c0, w.before args s = true := fun w h => hts w (List.mem_cons_of_mem _ (List.mem_append_left _ (List.mem_append_left _ (List.mem_append_left _ (List.mem_append_right _ (h))))))
  have hwX3 : ∀ w ∈ wsX30, w.before args s = true := fun w h => hts w (List.mem_cons_of_mem _ (List.mem_append_left _ (List.mem_append_left _ (List.mem_append_right _ (h)))))
  have hwX0 : ∀ w ∈ wsX00, w.before args s = true := fun w h => hts w (List.mem_cons_of_mem _ (List.mem_append_left _ (List.mem_append_right _ (h))))
  obtain ⟨hnc9, hc0, hc1, hc2, hc3, hxm⟩ := id hN
  have p_B_0 : P 0 = some (.inr (6, [.ref (B 1), .ref (B 3), .ref (B 6), .ref (B 8), .ref (B 10), .ref (B 12)])) := hSH.1.1
  have f_B_0 : M (B 0) = some (.inr (6, [.ref (B 1), .ref (B 3), .ref (B 6), .ref (B 8), .ref (B 10), .ref (B 12)])) := hH.1 _ _ p_B_0
  have p_B_10 : P 10 = some (.inr (0, [.int (nI (x 1 10)), .ref (B 11), .int (nI (cn 3))])) := hSH.2.2.2.1.1
  have f_B_10 : M (B 10) = some (.inr (0, [.int (nI (x 1 10)), .ref (B 11), .int (nI (cn 3))])) := hH.1 _ _ p_B_10
  have n_B_0_B_10 : nEq (B 0) (B 10) := hH.ne p_B_0 p_B_10 (by omega)
  obtain ⟨hl1, hl2, hl3, hl4⟩ := LI.num hSH.2.2.2.1 hH (ci := 4) (fs := scF B x) (fun j hj => (hSH.2.2.2.2.2.2 j hj).1)
  refine lv_iload_n hx hb dX5_at_0 rfl (lv_at hl 1 rfl) ?_
  refine lv_iconst (v := (nI 1)) hx hb dX5_at_1 (by decide) ?_
  refine z_icmp_ge (u := uy) (v := ((1 : Nat) : Int)) (tgt := 15) hx hb (py) (nI_toInt (by omega)) dX5_at_2 (by decide) (fun c_2 => ?_) (fun c_2 => ?_)
  · refine lv_iconst (v := (nI 0)) hx hb dX5_at_15 (by decide) ?_
    refine lv_istore_n (lv' := [(2, .int (nI 0)), (0, .ref (B 0)), (1, .int y)]) hx hb dX5_at_16 rfl hl (by decide) rfl (fun ls hl => ?_)
    have K17 : ∀ (n9 : Nat) (j : Nat), 41 - j < n9 → (j ≤ cn 3) → (atC x (cn 3) uy j = -1) → ∀ (Mq : mM) (H : Heap) (locs : List Loc), pm D Mq H → mD (mA M sz) Mq → va_S (mA M sz) s.heap H locs → (Mq = M) → ∀ (ls : Array Slot), lv_has ls 3 [(0, .ref (B 0)), (1, .int y), (2, .int (nI j))] → W p l e ({ frames := 6, cells := 4, slots := 24, locals := 102 } : Room) s m args below meth c H locs 0 0 (vx_MQ below (va_Qi (fun r M' => 1 ≤ uy ∧ r = zI (atC x (cn 3) uy (cn 3)) ∧ M' = M) (mB D M sz) (mA M sz)) (mXC D M sz (fun E9 => (E9 = "java/lang/IndexOutOfBoundsException" ∧ ¬ 1 ≤ uy))) args s 4 24 (mA M sz)) (F0 m 17 ls []) := by
      intro n9
      induction n9 with
      | zero => intro j hn; exact absurd hn (by omega)
      | succ n9 ih17 =>
        intro j hn17 i17_0 i17_1 Mq H locs hP hD hS hW ls hl
        rw [hW] at hP hD
        refine lv_iload_n hx hb dX5_at_17 rfl (lv_at hl 2 rfl) ?_
        refine lv_aload_n hx hb dX5_at_18 rfl (lv_at hl 0 rfl) ?_
        refine m_get (T := TX5) (N := 6) (ci := 6) (fs := [.ref (B 1), .ref (B 3), .ref (B 6), .ref (B 8), .ref (B 10), .ref (B 12)]) hx hb hwX5 hown hK hP f_B_0 rfl 4 (by decide) (hts _ (List.mem_of_getElem? (i := 3) rfl)) (v := .ref (B 10)) rfl dX5_at_19 ?_
        refine vp_callSi (W.runV (C := RJx4a65c) (As := []) (rest := [.int (nI j)]) ⟨hx, hb, hml, hown, hts⟩ (c_Jx4a65c_size_8abf5 l D cy _ (B 10) (cn 3) (x 1 10) (B 11) (f_B_10)) (cwV 0 hts gX5_at_Jx4a65c_size_8abf5 rfl rfl rfl (by decide +kernel) ⟨Nat.le_of_ble_eq_true rfl, Nat.le_of_ble_eq_true rfl⟩) (mPreV hK hP f_B_10 (ci := 0) rfl) rfl rfl hl.1 rfl (lv_room (Nat.le_of_ble_eq_true rfl)) dX5_at_22 ⟨Nat.le_of_ble_eq_true rfl, Nat.le_of_ble_eq_true rfl⟩) (fun r9 hr9 => ?_)
        have hr9 : r9 = (nI (cn 3)) := hr9
        subst hr9
        refine z_icmp_ge (u := ((j : Nat) : Int)) (v := ((cn 3 : Nat) : Int)) (tgt := 59) hx hb (nI_toInt (by omega)) (nI_toInt (by omega)) dX5_at_25 (by decide) (fun c_25 => ?_) (fun c_25 => ?_)
        · refine lv_iconst (v := (zI (-1))) hx hb dX5_at_59 (by decide) ?_
          exact vx_ret (e_wi hx hb hr hlocks hP hD hS (⟨by omega, (congrArg zI (by have e9 : j = cn 3 := (by omega); rw [e9] at i17_1; exact i17_1.symm)), rfl⟩) dX5_at_60)
        · have hjn : j < cn 3 := (by omega)
          refine lv_aload_n hx hb dX5_at_28 rfl (lv_at hl 0 rfl) ?_
          refine lv_iload_n hx hb dX5_at_29 rfl (lv_at hl 2 rfl) ?_
          refine lv_aload_n hx hb dX5_at_30 rfl (lv_at hl 0 rfl) ?_
          refine m_get (T := TX5) (N := 6) (ci := 6) (fs := [.ref (B 1), .ref (B 3), .ref (B 6), .ref (B 8), .ref (B 10), .ref (B 12)]) hx hb hwX5 hown hK hP f_B_0 rfl 4 (by decide) (hts _ (List.mem_of_getElem? (i := 3) rfl)) (v := .ref (B 10)) rfl dX5_at_31 ?_
          refine lv_iload_n hx hb dX5_at_34 rfl (lv_at hl 2 rfl) ?_
          refine m_callr (va_runV (C := RJx4a65c) (As := [.int (nI j)]) (rest := [.int (nI j), .ref (B 0)]) ⟨hx, hb, hml, hown, hts⟩ (c_Jx4a65c_get_915e3 l D cy _ _ (B 10) (B 11) (cn 3) (x 1 10) (x 0 10) (E 10) j (B (60 + 7 * j)) (f_B_10) (hl3 (by omega)) hjn hl1 hl2 (hl4 j hjn).1) (cwV 1 hts gX5_at_Jx4a65c_get_915e3 rfl rfl rfl (by decide +kernel) ⟨Nat.le_of_ble_eq_true rfl, Nat.le_of_ble_eq_true rfl⟩) (mPreWV hK hP f_B_10 (ci := 0) rfl) rfl rfl hl.1 rfl (lv_room (Nat.le_of_ble_eq_true rfl)) dX5_at_35 ⟨Nat.le_of_ble_eq_true rfl, Nat.le_of_ble_eq_true rfl⟩) hD hA hS (fun r9 Mn H locs hq9 hP hD hS hz9 hd9 hk9 => ?_)
          obtain ⟨hr9, hq9⟩ := hq9
          rw [hr9]
          have hq9 : Mn = M := hq9
          rw [hq9] at hP hD
          have hvv : ∀ i9, x (1001 + 8 * j) i9 ≤ 20 := (fun i9 => Nat.le_trans (hxm (1001 + 8 * j) i9) (Nat.le_of_eq (xm_1 nc j)))
          have hxx : ∀ i9, x (1000 + 8 * j) i9 ≤ 5 := (fun i9 => Nat.le_trans (hxm (1000 + 8 * j) i9) (Nat.le_of_eq (xm_0 nc j)))
          have hss : ∀ i9, x (1002 + 8 * j) i9 ≤ 8 := (fun i9 => Nat.le_trans (hxm (1002 + 8 * j) i9) (Nat.le_of_eq (xm_2 nc j)))
          have hpp : ∀ i9, x (1003 + 8 * j) i9 ≤ 5 := (fun i9 => Nat.le_trans (hxm (1003 + 8 * j) i9) (Nat.le_of_eq (xm_3 nc j)))
          have hrr : ∀ i9, x (1004 + 8 * j) i9 ≤ 8 := (fun i9 => Nat.le_trans (hxm (1004 + 8 * j) i9) (Nat.le_of_eq (xm_4 nc j)))
          have h13 : x 13 j ≤ 3 := hxm 13 j
          have h12 : x 12 j ≤ 6 := hxm 12 j
          have h11 : x 11 j ≤ 1 := hxm 11 j
          have p_B_60_7_j : P (60 + 7 * j) = some (.inr (4, [.int (nI (x 10 j)), .ref (B (61 + 7 * j)), .int (nI (x 11 j)), .ref (B (64 + 7 * j)), .ref (B (65 + 7 * j)), .ref (B (66 + 7 * j)), .int (nI (x 12 j))])) := (hSH.2.2.2.2.2.2 j hjn).1
          have f_B_60_7_j : M (B (60 + 7 * j)) = some (.inr (4, [.int (nI (x 10 j)), .ref (B (61 + 7 * j)), .int (nI (x 11 j)), .ref (B (64 + 7 * j)), .ref (B (65 + 7 * j)), .ref (B (66 + 7 * j)), .int (nI (x 12 j))])) := hH.1 _ _ p_B_60_7_j
          have n_B_0_B_60_7_j : nEq (B 0) (B (60 + 7 * j)) := hH.ne p_B_0 p_B_60_7_j (by omega)
          have n_B_10_B_60_7_j : nEq (B 10) (B (60 + 7 * j)) := hH.ne p_B_10 p_B_60_7_j (by omega)
          have p_B_61_7_j : P (61 + 7 * j) = some (.inr (1, [.ref (B (62 + 7 * j)), .ref (B (63 + 7 * j)), .int (nI (x 13 j))])) := (hSH.2.2.2.2.2.2 j hjn).2.1
          have f_B_61_7_j : M (B (61 + 7 * j)) = some (.inr (1, [.ref (B (62 + 7 * j)), .ref (B (63 + 7 * j)), .int (nI (x 13 j))])) := hH.1 _ _ p_B_61_7_j
          have n_B_0_B_61_7_j : nEq (B 0) (B (61 + 7 * j)) := hH.ne p_B_0 p_B_61_7_j (by omega)
          have n_B_10_B_61_7_j : nEq (B 10) (B (61 + 7 * j)) := hH.ne p_B_10 p_B_61_7_j (by omega)
          have n_B_60_7_j_B_61_7_j : nEq (B (60 + 7 * j)) (B (61 + 7 * j)) := hH.ne p_B_60_7_j p_B_61_7_j (by omega)
          have p_B_62_7_j : P (62 + 7 * j) = some (eI cy 3 (x (1000 + 8 * j))) := (hSH.2.2.2.2.2.2 j hjn).2.2.1
          have f_B_62_7_j : M (B (62 + 7 * j)) = some (eI cy 3 (x (1000 + 8 * j))) := hH.1 _ _ p_B_62_7_j
          have n_B_0_B_62_7_j : nEq (B 0) (B (62 + 7 * j)) := hH.ne p_B_0 p_B_62_7_j (by omega)
          have n_B_10_B_62_7_j : nEq (B 10) (B (62 + 7 * j)) := hH.ne p_B_10 p_B_62_7_j (by omega)
          have n_B_60_7_j_B_62_7_j : nEq (B (60 + 7 * j)) (B (62 + 7 * j)) := hH.ne p_B_60_7_j p_B_62_7_j (by omega)
          have n_B_61_7_j_B_62_7_j : nEq (B (61 + 7 * j)) (B (62 + 7 * j)) := hH.ne p_B_61_7_j p_B_62_7_j (by omega)
          have p_B_63_7_j : P (63 + 7 * j) = some (eI cy 3 (x (1001 + 8 * j))) := (hSH.2.2.2.2.2.2 j hjn).2.2.2.1
          have f_B_63_7_j : M (B (63 + 7 * j)) = some (eI cy 3 (x (1001 + 8 * j))) := hH.1 _ _ p_B_63_7_j
          have n_B_0_B_63_7_j : nEq (B 0) (B (63 + 7 * j)) := hH.ne p_B_0 p_B_63_7_j (by omega)
          have n_B_10_B_63_7_j : nEq (B 10) (B (63 + 7 * j)) := hH.ne p_B_10 p_B_63_7_j (by omega)
          have n_B_60_7_j_B_63_7_j : nEq (B (60 + 7 * j)) (B (63 + 7 * j)) := hH.ne p_B_60_7_j p_B_63_7_j (by omega)
          have n_B_61_7_j_B_63_7_j : nEq (B (61 + 7 * j)) (B (63 + 7 * j)) := hH.ne p_B_61_7_j p_B_63_7_j (by omega)
          have n_B_62_7_j_B_63_7_j : nEq (B (62 + 7 * j)) (B (63 + 7 * j)) := hH.ne p_B_62_7_j p_B_63_7_j (by omega)
          have p_B_64_7_j : P (64 + 7 * j) = some (eI cy 5 (x (1002 + 8 * j))) := (hSH.2.2.2.2.2.2 j hjn).2.2.2.2.1
          have f_B_64_7_j : M (B (64 + 7 * j)) = some (eI cy 5 (x (1002 + 8 * j))) := hH.1 _ _ p_B_64_7_j
          have n_B_0_B_64_7_j : nEq (B 0) (B (64 + 7 * j)) := hH.ne p_B_0 p_B_64_7_j (by omega)
          have n_B_10_B_64_7_j : nEq (B 10) (B (64 + 7 * j)) := hH.ne p_B_10 p_B_64_7_j (by omega)
          have n_B_60_7_j_B_64_7_j : nEq (B (60 + 7 * j)) (B (64 + 7 * j)) := hH.ne p_B_60_7_j p_B_64_7_j (by omega)
          have n_B_61_7_j_B_64_7_j : nEq (B (61 + 7 * j)) (B (64 + 7 * j)) := hH.ne p_B_61_7_j p_B_64_7_j (by omega)
          have n_B_62_7_j_B_64_7_j : nEq (B (62 + 7 * j)) (B (64 + 7 * j)) := hH.ne p_B_62_7_j p_B_64_7_j (by omega)
          have n_B_63_7_j_B_64_7_j : nEq (B (63 + 7 * j)) (B (64 + 7 * j)) := hH.ne p_B_63_7_j p_B_64_7_j (by omega)
          have p_B_65_7_j : P (65 + 7 * j) = some (eI cy 4 (x (1003 + 8 * j))) := (hSH.2.2.2.2.2.2 j hjn).2.2.2.2.2.1
          have f_B_65_7_j : M (B (65 + 7 * j)) = some (eI cy 4 (x (1003 + 8 * j))) := hH.1 _ _ p_B_65_7_j
          have n_B_0_B_65_7_j : nEq (B 0) (B (65 + 7 * j)) := hH.ne p_B_0 p_B_65_7_j (by omega)
          have n_B_10_B_65_7_j : nEq (B 10) (B (65 + 7 * j)) := hH.ne p_B_10 p_B_65_7_j (by omega)
          have n_B_60_7_j_B_65_7_j : nEq (B (60 + 7 * j)) (B (65 + 7 * j)) := hH.ne p_B_60_7_j p_B_65_7_j (by omega)
          have n_B_61_7_j_B_65_7_j : nEq (B (61 + 7 * j)) (B (65 + 7 * j)) := hH.ne p_B_61_7_j p_B_65_7_j (by omega)
          have n_B_62_7_j_B_65_7_j : nEq (B (62 + 7 * j)) (B (65 + 7 * j)) := hH.ne p_B_62_7_j p_B_65_7_j (by omega)
          have n_B_63_7_j_B_65_7_j : nEq (B (63 + 7 * j)) (B (65 + 7 * j)) := hH.ne p_B_63_7_j p_B_65_7_j (by omega)
          have n_B_64_7_j_B_65_7_j : nEq (B (64 + 7 * j)) (B (65 + 7 * j)) := hH.ne p_B_64_7_j p_B_65_7_j (by omega)
          have p_B_66_7_j : P (66 + 7 * j) = some (eI cy 6 (x (1004 + 8 * j))) := (hSH.2.2.2.2.2.2 j hjn).2.2.2.2.2.2
          have f_B_66_7_j : M (B (66 + 7 * j)) = some (eI cy 6 (x (1004 + 8 * j))) := hH.1 _ _ p_B_66_7_j
          have n_B_0_B_66_7_j : nEq (B 0) (B (66 + 7 * j)) := hH.ne p_B_0 p_B_66_7_j (by omega)
          have n_B_10_B_66_7_j : nEq (B 10) (B (66 + 7 * j)) := hH.ne p_B_10 p_B_66_7_j (by omega)
          have n_B_60_7_j_B_66_7_j : nEq (B (60 + 7 * j)) (B (66 + 7 * j)) := hH.ne p_B_60_7_j p_B_66_7_j (by omega)
          have n_B_61_7_j_B_66_7_j : nEq (B (61 + 7 * j)) (B (66 + 7 * j)) := hH.ne p_B_61_7_j p_B_66_7_j (by omega)
          have n_B_62_7_j_B_66_7_j : nEq (B (62 + 7 * j)) (B (66 + 7 * j)) := hH.ne p_B_62_7_j p_B_66_7_j (by omega)
          have n_B_63_7_j_B_66_7_j : nEq (B (63 + 7 * j)) (B (66 + 7 * j)) := hH.ne p_B_63_7_j p_B_66_7_j (by omega)
          have n_B_64_7_j_B_66_7_j : nEq (B (64 + 7 * j)) (B (66 + 7 * j)) := hH.ne p_B_64_7_j p_B_66_7_j (by omega)
          have n_B_65_7_j_B_66_7_j : nEq (B (65 + 7 * j)) (B (66 + 7 * j)) := hH.ne p_B_65_7_j p_B_66_7_j (by omega)
          refine m_cast (ci := 4) hx hb hown (hts _ (List.mem_of_getElem? (i := 4) rfl)) hK hP f_B_60_7_j rfl rfl dX5_at_38 ?_
          refine vp_callSi (W.runV (C := RX3) (As := []) (rest := [.int (nI j), .ref (B 0)]) ⟨hx, hb, hml, hown, hts⟩ (c_X3_worthNow l D cy _ (B (60 + 7 * j)) (B (61 + 7 * j)) (B (64 + 7 * j)) (B (65 + 7 * j)) (B (66 + 7 * j)) (x 10 j) (x 11 j) (x 12 j) (x (1002 + 8 * j)) (x (1003 + 8 * j)) (x (1004 + 8 * j)) (B (62 + 7 * j)) (B (63 + 7 * j)) (x 13 j) (x (1000 + 8 * j)) (x (1001 + 8 * j)) (f_B_60_7_j) (f_B_64_7_j) (f_B_65_7_j) (f_B_66_7_j) (f_B_61_7_j) (f_B_62_7_j) (f_B_63_7_j) h13 hvv hpp hss h11) (cwV 0 hts gX5_at_X3_worthNow rfl rfl rfl (by decide +kernel) ⟨Nat.le_of_ble_eq_true rfl, Nat.le_of_ble_eq_true rfl⟩) (mPreV hK hP f_B_60_7_j (ci := 4) rfl) rfl rfl hl.1 rfl (lv_room (Nat.le_of_ble_eq_true rfl)) dX5_at_41 ⟨Nat.le_of_ble_eq_true rfl, Nat.le_of_ble_eq_true rfl⟩) (fun r9 hr9 => ?_)
          have hr9 : r9 = (zI (wC x j)) := hr9
          subst hr9
          have hwb9 := wC_bd (x := x) (s := j) hvv hpp hss
          refine m_calli (va_runV (C := RX5) (As := [.int (nI j), .int (zI (wC x j))]) (rest := []) ⟨hx, hb, hml, hown, hts⟩ (c_X5_placeNow l D cy _ _ de B P cn x E nc j (wC x j) hH hSH hN (by omega) (by omega) (by omega)) (cwV 2 hts gX5_at_X5_placeNow rfl rfl rfl (by decide +kernel) ⟨Nat.le_of_ble_eq_true rfl, Nat.le_of_ble_eq_true rfl⟩) (mPreWV hK hP f_B_0 (ci := 6) rfl) rfl rfl hl.1 rfl (lv_room (Nat.le_of_ble_eq_true rfl)) dX5_at_44 ⟨Nat.le_of_ble_eq_true rfl, Nat.le_of_ble_eq_true rfl⟩) hD hA hS (fun r9 Mn H locs hq9 hP hD hS hz9 hd9 hk9 => ?_)
          obtain ⟨hr9, hq9⟩ := hq9
          have hr9 : r9 = (zI (plC x (cn 3) (wC x j) j)) := hr9
          subst hr9
          have hq9 : Mn = M := hq9
          rw [hq9] at hP hD
          have hpb9 := plC_bd x (wC x j) j (n := cn 3) hc3
          refine lv_iload_n hx hb dX5_at_47 rfl (lv_at hl 1 rfl) ?_
          refine z_icmp_ne (u := (plC x (cn 3) (wC x j) j)) (v := uy) (tgt := 53) hx hb (zI_toInt (by omega) (by omega)) (py) dX5_at_48 (by decide) (fun c_48 => ?_) (fun c_48 => ?_)
          · refine n_iinc (x := j) (k := 1) (lv' := [(2, .int (nI (j + 1))), (0, .ref (B 0)), (1, .int y)]) hx hb dX5_at_53 rfl hl (q := 2) rfl (by decide) rfl (fun ls hl => ?_)
            refine lv_goto (tgt := 17) hx hb dX5_at_56 (by decide) ?_
            exact ih17  (j + 1) (by omega) (by omega) (atC_miss i17_1 (by omega)) _ _ _ hP hD hS (rfl) _ (lv_sub hl [1, 2, 0] rfl)
          · refine lv_iload_n hx hb dX5_at_51 rfl (lv_at hl 2 rfl) ?_
            exact vx_ret (e_wi hx hb hr hlocks hP hD hS (⟨by omega, (nI_zI _).trans (congrArg zI (atC_hit i17_1 (by omega) (by omega)).symm), rfl⟩) dX5_at_52)
    exact K17 (41 - 0 + 1) 0 (Nat.lt_succ_self _) (Nat.zero_le _) (rfl) _ _ _ hP hD hS (rfl) _ (lv_sub hl [1, 2, 0] rfl)
  · exact e_thS (text := "places begin at 1") hx hb hst hown (by decide) (hts _ (List.mem_of_getElem? (i := 1) rfl)) (hts _ (List.mem_of_getElem? (i := 2) rfl)) (fun w h => hts w (List.mem_cons_of_mem _ (List.mem_append_right _ (h)))) ng_I gd_I (by decide +kernel) hX hP hS (hl.1.trans hml.symm) dX5_at_5 dX5_at_8 dX5_at_9 dX5_at_11 dX5_at_14 hout (Nat.le_of_ble_eq_true rfl) (Nat.le_of_ble_eq_true rfl) (Nat.le_of_ble_eq_true rfl) (Nat.le_of_ble_eq_true rfl) hlocks (⟨rfl, by omega⟩) (Nat.le_of_ble_eq_true rfl) (Nat.le_of_ble_eq_true rfl)
