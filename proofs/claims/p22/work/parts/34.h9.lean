set_option maxRecDepth 100000 in
set_option maxHeartbeats 4000000 in
theorem c_X5_takeOut (l : Launch) (hst : l.stackTraces = false) (de mi : Nat) (D : va_G) (cy : Nat → ClassId) (M : mM) (sz : Nat) (B : Nat → Nat) (P : Nat → Option va_E) (cn : Nat → Nat) (x : Nat → Nat → Nat) (E : Nat → Nat → Option Nat) (nc : Nat) (y : Int32) (uy : Int)  (hH : hHolds M B P) (hSH : SH de cy B P cn x E) (hN : NB nc cn x) (py : y.toInt = uy) : mVi l yX5_takeOut wsX5_takeOut ({ frames := 7, cells := 4, slots := 24, locals := 102 } : Room) de mi D cy M sz [.ref (B 0), .int y] (fun r M' => ((0 ≤ uy ∧ uy < 6) ∧ x 5 uy.toNat = 0) ∧ r = nI (tkA (va_up x 5 (va_up (x 5) uy.toNat 1)) uy.toNat (cn 3)).1 ∧ ∃ (B9 : Nat → Nat) (P9 : Nat → Option va_E) (E9 : Nat → Nat → Option Nat), hHolds M' B9 P9 ∧ SH de cy B9 P9 (cn) ((tkA (va_up x 5 (va_up (x 5) uy.toNat 1)) uy.toNat (cn 3)).2) E9 ∧ B9 0 = B 0) (fun E9 => (E9 = "java/lang/IndexOutOfBoundsException" ∧ ¬ (0 ≤ uy ∧ uy < 6)) ∨ (E9 = "java/lang/IllegalStateException" ∧ (0 ≤ uy ∧ uy < 6) ∧ ¬ x 5 uy.toNat = 0)) 4 24 := by
  refine mV.of (cc := cX5_takeOut) (maxL := 6) (ret := (some .int)) (by decide) rfl (Nat.le_of_ble_eq_true rfl) ?_
  intro p e s m args below meth c ls hsz hx hb hr hts hown hlocks hml hout hname hP hD hS hA hK hX hl
  have hl : lv_has ls 6 [(0, .ref (B 0)), (1, .int y)] := hl
  have hown : s.vm.findClass RX5 = some m.cls := hown
  have hwX5 : ∀ w ∈ wsX50, w.before args s = true := fun w h => hts w (List.mem_cons_of_mem _ (List.mem_append_left _ (List.mem_append_left _ (List.mem_append_left _ (List.mem_append_left _ (List.mem_append_left _ (List.mem_append_right _ (h))))))))
  have hwX3 : ∀ w ∈ wsX30, w.before args s = true := fun w h => hts w (List.mem_cons_of_mem _ (List.mem_append_left _ (List.mem_append_left _ (List.mem_append_left _ (List.mem_append_left _ (List.mem_append_right _ (h)))))))
  have hwJx4a65c : ∀ w ∈ wsJx4a65c0, w.before args s = true := fun w h => hts w (List.mem_cons_of_mem _ (List.mem_append_left _ (List.mem_append_left _ (List.mem_append_left _ (List.mem_append_right _ (h))))))
  have hwX0 : ∀ w ∈ wsX00, w.before args s = true := fun w h => hts w (List.mem_cons_of_mem _ (List.mem_append_left _ (List.mem_append_left _ (List.mem_append_right _ (h)))))
  obtain ⟨hnc9, hc0, hc1, hc2, hc3, hxm⟩ := id hN
  have p_B_0 : P 0 = some (.inr (6, [.ref (B 1), .ref (B 3), .ref (B 6), .ref (B 8), .ref (B 10), .ref (B 12)])) := hSH.1.1
  have f_B_0 : M (B 0) = some (.inr (6, [.ref (B 1), .ref (B 3), .ref (B 6), .ref (B 8), .ref (B 10), .ref (B 12)])) := hH.1 _ _ p_B_0
  have p_B_10 : P 10 = some (.inr (0, [.int (nI (x 1 10)), .ref (B 11), .int (nI (cn 3))])) := hSH.2.2.2.1.1
  have f_B_10 : M (B 10) = some (.inr (0, [.int (nI (x 1 10)), .ref (B 11), .int (nI (cn 3))])) := hH.1 _ _ p_B_10
  have n_B_0_B_10 : nEq (B 0) (B 10) := hH.ne p_B_0 p_B_10 (by omega)
  have p_B_12 : P 12 = some (eZ cy 6 (x 5)) := hSH.1.2.2.2.2.2.2
  have f_B_12 : M (B 12) = some (eZ cy 6 (x 5)) := hH.1 _ _ p_B_12
  have n_B_0_B_12 : nEq (B 0) (B 12) := hH.ne p_B_0 p_B_12 (by omega)
  have n_B_10_B_12 : nEq (B 10) (B 12) := hH.ne p_B_10 p_B_12 (by omega)
  refine lv_iload_n hx hb dX5_takeOut_0 rfl (lv_at hl 1 rfl) ?_
  refine x_callv (vx_runS (As := [.int y]) (rest := []) ⟨hx, hb, hml, hown, hts⟩ (c_X5_checkExaminer l hst de mi D cy _ _ y uy py) (va_cwS 1 hts gX5_takeOut_X5_checkExaminer rfl rfl rfl (by decide +kernel) ⟨Nat.le_of_ble_eq_true rfl, Nat.le_of_ble_eq_true rfl⟩) (mPreXS hX hD hS hA hK hP) rfl rfl hl.1 rfl (lv_room (Nat.le_of_ble_eq_true rfl)) dX5_takeOut_1 ⟨Nat.le_of_ble_eq_true rfl, Nat.le_of_ble_eq_true rfl⟩) hD hA hS hout hlocks (fun E9 h9 => Or.inl h9) (Nat.le_of_ble_eq_true rfl) (Nat.le_of_ble_eq_true rfl) (fun Mn H locs hq9 hP hD hS hz9 => ?_)
  obtain ⟨hck_1, hq9⟩ := hq9
  rw [hq9] at hP hD
  have ex_1 : y = (nI uy.toNat) := nI_of_toInt (py) (by omega)
  have hl : lv_has ls 6 [(0, .ref (B 0)), (1, .int (nI uy.toNat))] := by
    rw [← ex_1]
    exact hl
  have h5e : x 5 uy.toNat ≤ 1 := hxm 5 uy.toNat
  refine lv_aload_n hx hb dX5_takeOut_4 rfl (lv_at hl 0 rfl) ?_
  refine m_get (T := TX5) (N := 6) (ci := 6) (fs := [.ref (B 1), .ref (B 3), .ref (B 6), .ref (B 8), .ref (B 10), .ref (B 12)]) hx hb hwX5 hown hK hP f_B_0 rfl 5 (by decide) (hts _ (List.mem_of_getElem? (i := 3) rfl)) (v := .ref (B 12)) rfl dX5_takeOut_5 ?_
  refine lv_iload_n hx hb dX5_takeOut_8 rfl (lv_at hl 1 rfl) ?_
  refine n_zald (g := (x 5)) (n := 6) (i := uy.toNat) hx hb hK hP f_B_12 (by omega) (by omega) dX5_takeOut_9 ?_
  refine z_if_eq (u := (((x 5) uy.toNat : Nat) : Int)) (tgt := 23) hx hb (nI_toInt (by omega)) dX5_takeOut_10 (by decide) (fun c_10 => ?_) (fun c_10 => ?_)
  · refine lv_aload_n hx hb dX5_takeOut_23 rfl (lv_at hl 0 rfl) ?_
    refine m_get (T := TX5) (N := 6) (ci := 6) (fs := [.ref (B 1), .ref (B 3), .ref (B 6), .ref (B 8), .ref (B 10), .ref (B 12)]) hx hb hwX5 hown hK hP f_B_0 rfl 5 (by decide) (hts _ (List.mem_of_getElem? (i := 3) rfl)) (v := .ref (B 12)) rfl dX5_takeOut_24 ?_
    refine lv_iload_n hx hb dX5_takeOut_27 rfl (lv_at hl 1 rfl) ?_
    refine lv_iconst (v := (nI 1)) hx hb dX5_takeOut_28 (by decide) ?_
    refine n_zast (g := (x 5)) (n := 6) (i := uy.toNat) (v := 1) hx hb hK hP hD hS f_B_12 (by omega) (by omega) (by omega) dX5_takeOut_29 (fun H locs hP hD hS => ?_)
    have hP : pm D (mset M (B 12) (eZ cy 6 (va_up (x 5) uy.toNat 1))) H := hP
    have hD : mD (mA M sz) (mset M (B 12) (eZ cy 6 (va_up (x 5) uy.toNat 1))) := hD
    obtain ⟨e9, he9⟩ : ∃ e9, e9 = uy.toNat := ⟨_, rfl⟩
    obtain ⟨x9, hx9⟩ : ∃ x9, x9 = va_up x 5 (va_up (x 5) uy.toNat 1) := ⟨_, rfl⟩
    have hH9 := hH.put 12 (eZ cy 6 (va_up (x 5) uy.toNat 1)) (p_ne p_B_12)
    have hSH9 : SH de cy B _ cn x9 E := hx9 ▸ hSH.out (va_up (x 5) uy.toNat 1)
    have hN9 : NB nc cn x9 := hx9 ▸ hN.up 5 (fun j9 => up_le (g := x 5) (b := 1) (fun j8 => hxm 5 j8) (Nat.le_refl 1) j9)
    have he6 : e9 < 6 := (by omega)
    have hl : lv_has ls 6 [(1, .int (nI e9)), (0, .ref (B 0))] := (by rw [he9]; exact lv_sub hl [1, 0] rfl)
    refine lv_iconst (v := (nI 0)) hx hb dX5_takeOut_30 (by decide) ?_
    refine lv_istore_n (lv' := [(2, .int (nI 0)), (1, .int (nI e9)), (0, .ref (B 0))]) hx hb dX5_takeOut_31 rfl hl (by decide) rfl (fun ls hl => ?_)
    refine lv_iconst (v := (nI 0)) hx hb dX5_takeOut_32 (by decide) ?_
    refine lv_istore_n (lv' := [(3, .int (nI 0)), (2, .int (nI 0)), (1, .int (nI e9)), (0, .ref (B 0))]) hx hb dX5_takeOut_33 rfl hl (by decide) rfl (fun ls hl => ?_)
    have K34 : ∀ (n9 : Nat) (j : Nat) (Pq : Nat → Option va_E), 41 - j < n9 → (j ≤ cn 3) → ∀ (Mq : mM) (H : Heap) (locs : List Loc), pm D Mq H → mD (mA M sz) Mq → va_S (mA M sz) s.heap H locs → (hHolds Mq B Pq) → (SH de cy B Pq cn (tkA x9 e9 j).2 E) → ∀ (ls : Array Slot), lv_has ls 6 [(0, .ref (B 0)), (1, .int (nI e9)), (2, .int (nI ((tkA x9 e9 j).1))), (3, .int (nI j))] → W p l e ({ frames := 7, cells := 4, slots := 24, locals := 102 } : Room) s m args below meth c H locs 1 6 (vx_MQ below (va_Qi (fun r M' => ((0 ≤ uy ∧ uy < 6) ∧ x 5 uy.toNat = 0) ∧ r = nI (tkA (va_up x 5 (va_up (x 5) uy.toNat 1)) uy.toNat (cn 3)).1 ∧ ∃ (B9 : Nat → Nat) (P9 : Nat → Option va_E) (E9 : Nat → Nat → Option Nat), hHolds M' B9 P9 ∧ SH de cy B9 P9 (cn) ((tkA (va_up x 5 (va_up (x 5) uy.toNat 1)) uy.toNat (cn 3)).2) E9 ∧ B9 0 = B 0) (mB D M sz) (mA M sz)) (mXC D M sz (fun E9 => (E9 = "java/lang/IndexOutOfBoundsException" ∧ ¬ (0 ≤ uy ∧ uy < 6)) ∨ (E9 = "java/lang/IllegalStateException" ∧ (0 ≤ uy ∧ uy < 6) ∧ ¬ x 5 uy.toNat = 0))) args s 4 24 (mA M sz)) (F0 m 34 ls []) := by
      intro n9
      induction n9 with
      | zero => intro j Pq hn; exact absurd hn (by omega)
      | succ n9 ih34 =>
        intro j Pq hn34 i34_0 Mq H locs hP hD hS hW hg ls hl
        have htk9 := tkA_le x9 e9 j
        have hH := hW
        have hSH := hg
        have hN := hN9.tkA e9 j
        obtain ⟨y, hy⟩ : ∃ y, y = (tkA x9 e9 j).2 := ⟨_, rfl⟩
        rw [← hy] at hSH hN
        obtain ⟨hnc9, hc0, hc1, hc2, hc3, hxm⟩ := id hN
        have p_B_0 : Pq 0 = some (.inr (6, [.ref (B 1), .ref (B 3), .ref (B 6), .ref (B 8), .ref (B 10), .ref (B 12)])) := hSH.1.1
        have f_B_0 : Mq (B 0) = some (.inr (6, [.ref (B 1), .ref (B 3), .ref (B 6), .ref (B 8), .ref (B 10), .ref (B 12)])) := hH.1 _ _ p_B_0
        have p_B_10 : Pq 10 = some (.inr (0, [.int (nI (y 1 10)), .ref (B 11), .int (nI (cn 3))])) := hSH.2.2.2.1.1
        have f_B_10 : Mq (B 10) = some (.inr (0, [.int (nI (y 1 10)), .ref (B 11), .int (nI (cn 3))])) := hH.1 _ _ p_B_10
        have n_B_0_B_10 : nEq (B 0) (B 10) := hH.ne p_B_0 p_B_10 (by omega)
        refine lv_iload_n hx hb dX5_takeOut_34 rfl (lv_at hl 3 rfl) ?_
        refine lv_aload_n hx hb dX5_takeOut_35 rfl (lv_at hl 0 rfl) ?_
        refine m_get (T := TX5) (N := 6) (ci := 6) (fs := [.ref (B 1), .ref (B 3), .ref (B 6), .ref (B 8), .ref (B 10), .ref (B 12)]) hx hb hwX5 hown hK hP f_B_0 rfl 4 (by decide) (hts _ (List.mem_of_getElem? (i := 4) rfl)) (v := .ref (B 10)) rfl dX5_takeOut_36 ?_
        refine vp_callSi (W.runV (C := RJx4a65c) (As := []) (rest := [.int (nI j)]) ⟨hx, hb, hml, hown, hts⟩ (c_Jx4a65c_size_8abf5 l D cy _ (B 10) (cn 3) (y 1 10) (B 11) (f_B_10)) (cwV 0 hts gX5_takeOut_Jx4a65c_size_8abf5 rfl rfl rfl (by decide +kernel) ⟨Nat.le_of_ble_eq_true rfl, Nat.le_of_ble_eq_true rfl⟩) (mPreV hK hP f_B_10 (ci := 0) rfl) rfl rfl hl.1 rfl (lv_room (Nat.le_of_ble_eq_true rfl)) dX5_takeOut_39 ⟨Nat.le_of_ble_eq_true rfl, Nat.le_of_ble_eq_true rfl⟩) (fun r9 hr9 => ?_)
        have hr9 : r9 = (nI (cn 3)) := hr9
        subst hr9
        refine z_icmp_ge (u := ((j : Nat) : Int)) (v := ((cn 3 : Nat) : Int)) (tgt := 93) hx hb (nI_toInt (by omega)) (nI_toInt (by omega)) dX5_takeOut_42 (by decide) (fun c_42 => ?_) (fun c_42 => ?_)
        · refine lv_iload_n hx hb dX5_takeOut_93 rfl (lv_at hl 2 rfl) ?_
          exact vx_ret (e_wi hx hb hr hlocks hP hD hS (⟨⟨by omega, by omega⟩, (by rw [← hx9, ← he9, show cn 3 = j by omega]), B, Pq, E, hW, (by have e8 : cn 3 = j := (by omega); rw [← hx9, ← he9, show (tkA x9 e9 (cn 3)).2 = (tkA x9 e9 j).2 by rw [e8]]; exact hg), rfl⟩) dX5_takeOut_94)
        · have hjn : j < cn 3 := (by omega)
          obtain ⟨hl1, hl2, hl3, hl4⟩ := LI.num hSH.2.2.2.1 hH (ci := 4) (fs := scF B y) (fun j hj => (hSH.2.2.2.2.2.2 j hj).1)
          refine lv_aload_n hx hb dX5_takeOut_45 rfl (lv_at hl 0 rfl) ?_
          refine m_get (T := TX5) (N := 6) (ci := 6) (fs := [.ref (B 1), .ref (B 3), .ref (B 6), .ref (B 8), .ref (B 10), .ref (B 12)]) hx hb hwX5 hown hK hP f_B_0 rfl 4 (by decide) (hts _ (List.mem_of_getElem? (i := 4) rfl)) (v := .ref (B 10)) rfl dX5_takeOut_46 ?_
          refine lv_iload_n hx hb dX5_takeOut_49 rfl (lv_at hl 3 rfl) ?_
          refine m_callr (va_runV (C := RJx4a65c) (As := [.int (nI j)]) (rest := []) ⟨hx, hb, hml, hown, hts⟩ (c_Jx4a65c_get_915e3 l D cy _ _ (B 10) (B 11) (cn 3) (y 1 10) (y 0 10) (E 10) j (B (60 + 7 * j)) (f_B_10) (hl3 (by omega)) hjn hl1 hl2 (hl4 j hjn).1) (cwV 1 hts gX5_takeOut_Jx4a65c_get_915e3 rfl rfl rfl (by decide +kernel) ⟨Nat.le_of_ble_eq_true rfl, Nat.le_of_ble_eq_true rfl⟩) (mPreWV hK hP f_B_10 (ci := 0) rfl) rfl rfl hl.1 rfl (lv_room (Nat.le_of_ble_eq_true rfl)) dX5_takeOut_50 ⟨Nat.le_of_ble_eq_true rfl, Nat.le_of_ble_eq_true rfl⟩) hD hA hS (fun r9 Mn H locs hq9 hP hD hS hz9 hd9 hk9 => ?_)
          obtain ⟨hr9, hq9⟩ := hq9
          rw [hr9]
          have hq9 : Mn = Mq := hq9
          rw [hq9] at hP hD
          have hvv : ∀ i9, y (1001 + 8 * j) i9 ≤ 20 := (fun i9 => Nat.le_trans (hxm (1001 + 8 * j) i9) (Nat.le_of_eq (xm_1 nc j)))
          have hxx : ∀ i9, y (1000 + 8 * j) i9 ≤ 5 := (fun i9 => Nat.le_trans (hxm (1000 + 8 * j) i9) (Nat.le_of_eq (xm_0 nc j)))
          have hss : ∀ i9, y (1002 + 8 * j) i9 ≤ 8 := (fun i9 => Nat.le_trans (hxm (1002 + 8 * j) i9) (Nat.le_of_eq (xm_2 nc j)))
          have hpp : ∀ i9, y (1003 + 8 * j) i9 ≤ 5 := (fun i9 => Nat.le_trans (hxm (1003 + 8 * j) i9) (Nat.le_of_eq (xm_3 nc j)))
          have hrr : ∀ i9, y (1004 + 8 * j) i9 ≤ 8 := (fun i9 => Nat.le_trans (hxm (1004 + 8 * j) i9) (Nat.le_of_eq (xm_4 nc j)))
          have h13 : y 13 j ≤ 3 := hxm 13 j
          have h12 : y 12 j ≤ 6 := hxm 12 j
          have h11 : y 11 j ≤ 1 := hxm 11 j
          have p_B_60_7_j : Pq (60 + 7 * j) = some (.inr (4, [.int (nI (y 10 j)), .ref (B (61 + 7 * j)), .int (nI (y 11 j)), .ref (B (64 + 7 * j)), .ref (B (65 + 7 * j)), .ref (B (66 + 7 * j)), .int (nI (y 12 j))])) := (hSH.2.2.2.2.2.2 j hjn).1
          have f_B_60_7_j : Mq (B (60 + 7 * j)) = some (.inr (4, [.int (nI (y 10 j)), .ref (B (61 + 7 * j)), .int (nI (y 11 j)), .ref (B (64 + 7 * j)), .ref (B (65 + 7 * j)), .ref (B (66 + 7 * j)), .int (nI (y 12 j))])) := hH.1 _ _ p_B_60_7_j
          have n_B_0_B_60_7_j : nEq (B 0) (B (60 + 7 * j)) := hH.ne p_B_0 p_B_60_7_j (by omega)
          have n_B_10_B_60_7_j : nEq (B 10) (B (60 + 7 * j)) := hH.ne p_B_10 p_B_60_7_j (by omega)
          have p_B_61_7_j : Pq (61 + 7 * j) = some (.inr (1, [.ref (B (62 + 7 * j)), .ref (B (63 + 7 * j)), .int (nI (y 13 j))])) := (hSH.2.2.2.2.2.2 j hjn).2.1
          have f_B_61_7_j : Mq (B (61 + 7 * j)) = some (.inr (1, [.ref (B (62 + 7 * j)), .ref (B (63 + 7 * j)), .int (nI (y 13 j))])) := hH.1 _ _ p_B_61_7_j
          have n_B_0_B_61_7_j : nEq (B 0) (B (61 + 7 * j)) := hH.ne p_B_0 p_B_61_7_j (by omega)
          have n_B_10_B_61_7_j : nEq (B 10) (B (61 + 7 * j)) := hH.ne p_B_10 p_B_61_7_j (by omega)
          have n_B_60_7_j_B_61_7_j : nEq (B (60 + 7 * j)) (B (61 + 7 * j)) := hH.ne p_B_60_7_j p_B_61_7_j (by omega)
          have p_B_62_7_j : Pq (62 + 7 * j) = some (eI cy 3 (y (1000 + 8 * j))) := (hSH.2.2.2.2.2.2 j hjn).2.2.1
          have f_B_62_7_j : Mq (B (62 + 7 * j)) = some (eI cy 3 (y (1000 + 8 * j))) := hH.1 _ _ p_B_62_7_j
          have n_B_0_B_62_7_j : nEq (B 0) (B (62 + 7 * j)) := hH.ne p_B_0 p_B_62_7_j (by omega)
          have n_B_10_B_62_7_j : nEq (B 10) (B (62 + 7 * j)) := hH.ne p_B_10 p_B_62_7_j (by omega)
          have n_B_60_7_j_B_62_7_j : nEq (B (60 + 7 * j)) (B (62 + 7 * j)) := hH.ne p_B_60_7_j p_B_62_7_j (by omega)
          have n_B_61_7_j_B_62_7_j : nEq (B (61 + 7 * j)) (B (62 + 7 * j)) := hH.ne p_B_61_7_j p_B_62_7_j (by omega)
          have p_B_63_7_j : Pq (63 + 7 * j) = some (eI cy 3 (y (1001 + 8 * j))) := (hSH.2.2.2.2.2.2 j hjn).2.2.2.1
          have f_B_63_7_j : Mq (B (63 + 7 * j)) = some (eI cy 3 (y (1001 + 8 * j))) := hH.1 _ _ p_B_63_7_j
          have n_B_0_B_63_7_j : nEq (B 0) (B (63 + 7 * j)) := hH.ne p_B_0 p_B_63_7_j (by omega)
          have n_B_10_B_63_7_j : nEq (B 10) (B (63 + 7 * j)) := hH.ne p_B_10 p_B_63_7_j (by omega)
          have n_B_60_7_j_B_63_7_j : nEq (B (60 + 7 * j)) (B (63 + 7 * j)) := hH.ne p_B_60_7_j p_B_63_7_j (by omega)
          have n_B_61_7_j_B_63_7_j : nEq (B (61 + 7 * j)) (B (63 + 7 * j)) := hH.ne p_B_61_7_j p_B_63_7_j (by omega)
          have n_B_62_7_j_B_63_7_j : nEq (B (62 + 7 * j)) (B (63 + 7 * j)) := hH.ne p_B_62_7_j p_B_63_7_j (by omega)
          have p_B_64_7_j : Pq (64 + 7 * j) = some (eI cy 5 (y (1002 + 8 * j))) := (hSH.2.2.2.2.2.2 j hjn).2.2.2.2.1
          have f_B_64_7_j : Mq (B (64 + 7 * j)) = some (eI cy 5 (y (1002 + 8 * j))) := hH.1 _ _ p_B_64_7_j
          have n_B_0_B_64_7_j : nEq (B 0) (B (64 + 7 * j)) := hH.ne p_B_0 p_B_64_7_j (by omega)
          have n_B_10_B_64_7_j : nEq (B 10) (B (64 + 7 * j)) := hH.ne p_B_10 p_B_64_7_j (by omega)
          have n_B_60_7_j_B_64_7_j : nEq (B (60 + 7 * j)) (B (64 + 7 * j)) := hH.ne p_B_60_7_j p_B_64_7_j (by omega)
          have n_B_61_7_j_B_64_7_j : nEq (B (61 + 7 * j)) (B (64 + 7 * j)) := hH.ne p_B_61_7_j p_B_64_7_j (by omega)
          have n_B_62_7_j_B_64_7_j : nEq (B (62 + 7 * j)) (B (64 + 7 * j)) := hH.ne p_B_62_7_j p_B_64_7_j (by omega)
          have n_B_63_7_j_B_64_7_j : nEq (B (63 + 7 * j)) (B (64 + 7 * j)) := hH.ne p_B_63_7_j p_B_64_7_j (by omega)
          have p_B_65_7_j : Pq (65 + 7 * j) = some (eI cy 4 (y (1003 + 8 * j))) := (hSH.2.2.2.2.2.2 j hjn).2.2.2.2.2.1
          have f_B_65_7_j : Mq (B (65 + 7 * j)) = some (eI cy 4 (y (1003 + 8 * j))) := hH.1 _ _ p_B_65_7_j
          have n_B_0_B_65_7_j : nEq (B 0) (B (65 + 7 * j)) := hH.ne p_B_0 p_B_65_7_j (by omega)
          have n_B_10_B_65_7_j : nEq (B 10) (B (65 + 7 * j)) := hH.ne p_B_10 p_B_65_7_j (by omega)
          have n_B_60_7_j_B_65_7_j : nEq (B (60 + 7 * j)) (B (65 + 7 * j)) := hH.ne p_B_60_7_j p_B_65_7_j (by omega)
          have n_B_61_7_j_B_65_7_j : nEq (B (61 + 7 * j)) (B (65 + 7 * j)) := hH.ne p_B_61_7_j p_B_65_7_j (by omega)
          have n_B_62_7_j_B_65_7_j : nEq (B (62 + 7 * j)) (B (65 + 7 * j)) := hH.ne p_B_62_7_j p_B_65_7_j (by omega)
          have n_B_63_7_j_B_65_7_j : nEq (B (63 + 7 * j)) (B (65 + 7 * j)) := hH.ne p_B_63_7_j p_B_65_7_j (by omega)
          have n_B_64_7_j_B_65_7_j : nEq (B (64 + 7 * j)) (B (65 + 7 * j)) := hH.ne p_B_64_7_j p_B_65_7_j (by omega)
          have p_B_66_7_j : Pq (66 + 7 * j) = some (eI cy 6 (y (1004 + 8 * j))) := (hSH.2.2.2.2.2.2 j hjn).2.2.2.2.2.2
          have f_B_66_7_j : Mq (B (66 + 7 * j)) = some (eI cy 6 (y (1004 + 8 * j))) := hH.1 _ _ p_B_66_7_j
          have n_B_0_B_66_7_j : nEq (B 0) (B (66 + 7 * j)) := hH.ne p_B_0 p_B_66_7_j (by omega)
          have n_B_10_B_66_7_j : nEq (B 10) (B (66 + 7 * j)) := hH.ne p_B_10 p_B_66_7_j (by omega)
          have n_B_60_7_j_B_66_7_j : nEq (B (60 + 7 * j)) (B (66 + 7 * j)) := hH.ne p_B_60_7_j p_B_66_7_j (by omega)
          have n_B_61_7_j_B_66_7_j : nEq (B (61 + 7 * j)) (B (66 + 7 * j)) := hH.ne p_B_61_7_j p_B_66_7_j (by omega)
          have n_B_62_7_j_B_66_7_j : nEq (B (62 + 7 * j)) (B (66 + 7 * j)) := hH.ne p_B_62_7_j p_B_66_7_j (by omega)
          have n_B_63_7_j_B_66_7_j : nEq (B (63 + 7 * j)) (B (66 + 7 * j)) := hH.ne p_B_63_7_j p_B_66_7_j (by omega)
          have n_B_64_7_j_B_66_7_j : nEq (B (64 + 7 * j)) (B (66 + 7 * j)) := hH.ne p_B_64_7_j p_B_66_7_j (by omega)
          have n_B_65_7_j_B_66_7_j : nEq (B (65 + 7 * j)) (B (66 + 7 * j)) := hH.ne p_B_65_7_j p_B_66_7_j (by omega)
          refine m_cast (ci := 4) hx hb hown (hts _ (List.mem_of_getElem? (i := 5) rfl)) hK hP f_B_60_7_j rfl rfl dX5_takeOut_53 ?_
          refine m_get (T := TX3) (N := 7) (ci := 4) (fs := [.int (nI (y 10 j)), .ref (B (61 + 7 * j)), .int (nI (y 11 j)), .ref (B (64 + 7 * j)), .ref (B (65 + 7 * j)), .ref (B (66 + 7 * j)), .int (nI (y 12 j))]) hx hb hwX3 hown hK hP f_B_60_7_j rfl 1 (by decide) (hts _ (List.mem_of_getElem? (i := 6) rfl)) (v := .ref (B (61 + 7 * j))) rfl dX5_takeOut_56 ?_
          refine lv_astore (lv' := [(4, .ref (B (61 + 7 * j))), (0, .ref (B 0)), (1, .int (nI e9)), (2, .int (nI ((tkA x9 e9 j).1))), (3, .int (nI j))]) hx hb dX5_takeOut_59 hl (by decide) rfl (fun ls hl => ?_)
          refine lv_aload hx hb dX5_takeOut_61 (lv_at hl 0 rfl) ?_
          refine vp_callSi (W.runV (C := RX0) (As := []) (rest := []) ⟨hx, hb, hml, hown, hts⟩ (c_X0_result l D cy _ (B (61 + 7 * j)) (B (62 + 7 * j)) (B (63 + 7 * j)) (y 13 j) (y (1000 + 8 * j)) (y (1001 + 8 * j)) (f_B_61_7_j) (f_B_62_7_j) (f_B_63_7_j) h13 hvv) (cwV 0 hts gX5_takeOut_X0_result rfl rfl rfl (by decide +kernel) ⟨Nat.le_of_ble_eq_true rfl, Nat.le_of_ble_eq_true rfl⟩) (mPreV hK hP f_B_61_7_j (ci := 1) rfl) rfl rfl hl.1 rfl (lv_room (Nat.le_of_ble_eq_true rfl)) dX5_takeOut_63 ⟨Nat.le_of_ble_eq_true rfl, Nat.le_of_ble_eq_true rfl⟩) (fun r9 hr9 => ?_)
          have hr9 : r9 = (zI (gradeC (y (1001 + 8 * j)) (y 13 j))) := hr9
          subst hr9
          have hgb1 := gradeC_bd (n := y 13 j) hvv
          refine lv_istore (lv' := [(5, .int (zI (gradeC (y (1001 + 8 * j)) (y 13 j)))), (4, .ref (B (61 + 7 * j))), (0, .ref (B 0)), (1, .int (nI e9)), (2, .int (nI ((tkA x9 e9 j).1))), (3, .int (nI j))]) hx hb dX5_takeOut_66 hl (by decide) rfl (fun ls hl => ?_)
          refine lv_aload hx hb dX5_takeOut_68 (lv_at hl 1 rfl) ?_
          refine lv_iload_n hx hb dX5_takeOut_70 rfl (lv_at hl 3 rfl) ?_
          refine m_callv (va_runV (C := RX0) (As := [.int (nI e9)]) (rest := []) ⟨hx, hb, hml, hown, hts⟩ (c_X0_removeOf l D cy _ _ (B (61 + 7 * j)) (B (62 + 7 * j)) (B (63 + 7 * j)) (y 13 j) (y (1000 + 8 * j)) (y (1001 + 8 * j)) e9 (f_B_61_7_j) (f_B_62_7_j) (f_B_63_7_j) n_B_62_7_j_B_63_7_j h13 hxx (by omega)) (cwV 1 hts gX5_takeOut_X0_removeOf rfl rfl rfl (by decide +kernel) ⟨Nat.le_of_ble_eq_true rfl, Nat.le_of_ble_eq_true rfl⟩) (mPreWV hK hP f_B_61_7_j (ci := 1) rfl) rfl rfl hl.1 rfl (lv_room (Nat.le_of_ble_eq_true rfl)) dX5_takeOut_71 ⟨Nat.le_of_ble_eq_true rfl, Nat.le_of_ble_eq_true rfl⟩) hD hA hS (fun Mn H locs hq9 hP hD hS hz9 hd9 hk9 => ?_)
          have hq9 : Mn = (mset (mset (mset Mq (B (62 + 7 * j)) (eI cy 3 ((tkM y e9 j).2.1))) (B (63 + 7 * j)) (eI cy 3 ((tkM y e9 j).2.2))) (B (61 + 7 * j)) (.inr (1, [.ref (B (62 + 7 * j)), .ref (B (63 + 7 * j)), .int (nI ((tkM y e9 j).1))]))) := hq9
          subst hq9
          have hv2 : ∀ i9, (tkM y e9 j).2.2 i9 ≤ 20 := remA_v hvv e9 _
          have hn2 : (tkM y e9 j).1 ≤ 3 := Nat.le_trans (remA_le _ _ _ _) h13
          have hgb2 := gradeC_bd (n := (tkM y e9 j).1) hv2
          refine lv_aload hx hb dX5_takeOut_74 (lv_at hl 1 rfl) ?_
          refine vp_callSi (W.runV (C := RX0) (As := []) (rest := []) ⟨hx, hb, hml, hown, hts⟩ (c_X0_result l D cy _ (B (61 + 7 * j)) (B (62 + 7 * j)) (B (63 + 7 * j)) ((tkM y e9 j).1) ((tkM y e9 j).2.1) ((tkM y e9 j).2.2) (mset_self _ _ _) ((mset_ne (Ne.symm n_B_61_7_j_B_62_7_j)).trans ((mset_ne n_B_62_7_j_B_63_7_j).trans (mset_self _ _ _))) ((mset_ne (Ne.symm n_B_61_7_j_B_63_7_j)).trans (mset_self _ _ _)) hn2 hv2) (cwV 0 hts gX5_takeOut_X0_result rfl rfl rfl (by decide +kernel) ⟨Nat.le_of_ble_eq_true rfl, Nat.le_of_ble_eq_true rfl⟩) (mPreV hK hP (mset_self _ _ _) (ci := 1) rfl) rfl rfl hl.1 rfl (lv_room (Nat.le_of_ble_eq_true rfl)) dX5_takeOut_76 ⟨Nat.le_of_ble_eq_true rfl, Nat.le_of_ble_eq_true rfl⟩) (fun r9 hr9 => ?_)
          have hr9 : r9 = (zI (gradeC (tkM y e9 j).2.2 (tkM y e9 j).1)) := hr9
          subst hr9
          have hfin9 := ((hH.put (62 + 7 * j) (eI cy 3 (tkM y e9 j).2.1) (p_ne p_B_62_7_j)).put (63 + 7 * j) (eI cy 3 (tkM y e9 j).2.2) (by rw [va_up_ne _ _ (by omega)]; exact p_ne p_B_63_7_j)).put (61 + 7 * j) (.inr (1, [.ref (B (62 + 7 * j)), .ref (B (63 + 7 * j)), .int (nI (tkM y e9 j).1)])) (by rw [va_up_ne _ _ (by omega), va_up_ne _ _ (by omega)]; exact p_ne p_B_61_7_j)
          have hfs9 : SH de cy B _ cn (tkA x9 e9 (j + 1)).2 E := (show SH de cy B _ cn (tkX (tkA x9 e9 j).2 e9 j) E from (by rw [← hy]; exact hSH.marks hc1 hc2 j (tkM y e9 j).1 (tkM y e9 j).2.1 (tkM y e9 j).2.2))
          refine lv_iload hx hb dX5_takeOut_79 (lv_at hl 0 rfl) ?_
          refine z_icmp_eq (u := (gradeC (tkM y e9 j).2.2 (tkM y e9 j).1)) (v := (gradeC (y (1001 + 8 * j)) (y 13 j))) (tgt := 87) hx hb (zI_toInt (by omega) (by omega)) (zI_toInt (by omega) (by omega)) dX5_takeOut_81 (by decide) (fun c_81 => ?_) (fun c_81 => ?_)
          · refine n_iinc (x := j) (k := 1) (lv' := [(3, .int (nI (j + 1))), (5, .int (zI (gradeC (y (1001 + 8 * j)) (y 13 j)))), (4, .ref (B (61 + 7 * j))), (0, .ref (B 0)), (1, .int (nI e9)), (2, .int (nI ((tkA x9 e9 j).1)))]) hx hb dX5_takeOut_87 rfl hl (q := 5) rfl (by decide) rfl (fun ls hl => ?_)
            refine lv_goto (tgt := 34) hx hb dX5_takeOut_90 (by decide) ?_
            have hl : lv_has ls 6 [(3, .int (nI (j + 1))), (5, .int (zI (gradeC (y (1001 + 8 * j)) (y 13 j)))), (4, .ref (B (61 + 7 * j))), (0, .ref (B 0)), (1, .int (nI e9)), (2, .int (nI ((tkA x9 e9 (j + 1)).1)))] := by
              have heq0 : (.int (nI ((tkA x9 e9 (j + 1)).1)) : Value) = .int (nI ((tkA x9 e9 j).1)) := congrArg Value.int (congrArg nI (by show (tkA x9 e9 j).1 + b2 (decide _) = _; rw [← hy]; first | (rw [decide_eq_true (by omega)]; rfl) | (rw [decide_eq_false (by omega)]; rfl)))
              rw [heq0]
              exact hl
            exact ih34  (j + 1) _ (by omega) (by omega) _ _ _ hP hD hS (hfin9) (hfs9) _ (lv_sub hl [3, 4, 5, 0] rfl)
          · refine n_iinc (x := (tkA x9 e9 j).1) (k := 1) (lv' := [(2, .int (nI (((tkA x9 e9 j).1) + 1))), (5, .int (zI (gradeC (y (1001 + 8 * j)) (y 13 j)))), (4, .ref (B (61 + 7 * j))), (0, .ref (B 0)), (1, .int (nI e9)), (3, .int (nI j))]) hx hb dX5_takeOut_84 rfl hl (q := 4) rfl (by decide) rfl (fun ls hl => ?_)
            refine n_iinc (x := j) (k := 1) (lv' := [(3, .int (nI (j + 1))), (2, .int (nI (((tkA x9 e9 j).1) + 1))), (5, .int (zI (gradeC (y (1001 + 8 * j)) (y 13 j)))), (4, .ref (B (61 + 7 * j))), (0, .ref (B 0)), (1, .int (nI e9))]) hx hb dX5_takeOut_87 rfl hl (q := 5) rfl (by decide) rfl (fun ls hl => ?_)
            refine lv_goto (tgt := 34) hx hb dX5_takeOut_90 (by decide) ?_
            have hl : lv_has ls 6 [(3, .int (nI (j + 1))), (2, .int (nI ((tkA x9 e9 (j + 1)).1))), (5, .int (zI (gradeC (y (1001 + 8 * j)) (y 13 j)))), (4, .ref (B (61 + 7 * j))), (0, .ref (B 0)), (1, .int (nI e9))] := by
              have heq0 : (.int (nI ((tkA x9 e9 (j + 1)).1)) : Value) = .int (nI (((tkA x9 e9 j).1) + 1)) := congrArg Value.int (congrArg nI (by show (tkA x9 e9 j).1 + b2 (decide _) = _; rw [← hy]; first | (rw [decide_eq_true (by omega)]; rfl) | (rw [decide_eq_false (by omega)]; rfl)))
              rw [heq0]
              exact hl
            exact ih34  (j + 1) _ (by omega) (by omega) _ _ _ hP hD hS (hfin9) (hfs9) _ (lv_sub hl [4, 5, 1, 0] rfl)
    exact K34 (41 - 0 + 1) 0 _ (Nat.lt_succ_self _) (Nat.zero_le _) _ _ _ hP hD hS (hH9) (hSH9) _ (lv_sub hl [3, 2, 1, 0] rfl)
  · exact e_thS (text := "the examiner was taken out before") hx hb hst hown (by decide) (hts _ (List.mem_of_getElem? (i := 1) rfl)) (hts _ (List.mem_of_getElem? (i := 2) rfl)) (fun w h => hts w (List.mem_cons_of_mem _ (List.mem_append_left _ (List.mem_append_right _ (h))))) ng_S gd_S (by decide +kernel) hX hP hS (hl.1.trans hml.symm) dX5_takeOut_13 dX5_takeOut_16 dX5_takeOut_17 dX5_takeOut_19 dX5_takeOut_22 hout (Nat.le_of_ble_eq_true rfl) (Nat.le_of_ble_eq_true rfl) (Nat.le_of_ble_eq_true rfl) (Nat.le_of_ble_eq_true rfl) hlocks (Or.inr ⟨rfl, by omega, by omega⟩) (Nat.le_of_ble_eq_true rfl) (Nat.le_of_ble_eq_true rfl)
