set_option maxRecDepth 100000 in
set_option maxHeartbeats 4000000 in
/-- counts(s, k) -/
theorem c_X6_counts (l : Launch) (D : va_G) (cy : Nat → ClassId) (M : mM) (h : Nat) (ad : Nat → Nat) (t : Nat) (i : Nat → Nat) (f : Nat → Nat → Nat) (nc : Nat) (s1 k : Nat) (hW : MW cy M h ad t i f) (hI : MI nc i f) (hs : s1 < 40) (hk : k < 8) : mR l yX6_counts wsX6_counts ({ frames := 2, cells := 0, slots := 0, locals := 46 } : Room) D cy M [.ref h, .int (nI s1), .int (nI k)] (fun r => r = nI (b2 (cnts f s1 k))) := by
  refine mR.of (cc := cX6_counts) (maxL := 5) (ret := (some .boolean)) (by decide) rfl (Nat.le_of_ble_eq_true rfl) ?_
  intro p e s m args below meth c ls hx hb hr hts hown hlocks hml hP hK hl
  have hl : lv_has ls 5 [(0, .ref h), (1, .int (nI s1)), (2, .int (nI k))] := hl
  have hown : s.vm.findClass RX6 = some m.cls := hown
  have hwX6 : ∀ w ∈ wsX60, w.before args s = true := fun w h => hts w (List.mem_cons_of_mem _ (List.mem_append_right _ (h)))
  refine lv_aload_n hx hb dX6_counts_0 rfl (lv_at hl 0 rfl) ?_
  refine lv_iload_n hx hb dX6_counts_1 rfl (lv_at hl 1 rfl) ?_
  refine lv_iload_n hx hb dX6_counts_2 rfl (lv_at hl 2 rfl) ?_
  refine vp_callSi (W.runV (C := RX6) (As := [.int (nI s1), .int (nI k)]) (rest := []) ⟨hx, hb, hml, hown, hts⟩ (c_X6_strokeOn l D cy _ h ad t i f nc s1 k hW hI (by omega) (by omega)) (cwV 2 hts gX6_counts_X6_strokeOn rfl rfl rfl (by decide +kernel) ⟨Nat.le_of_ble_eq_true rfl, Nat.le_of_ble_eq_true rfl⟩) (mPreV hK hP hW.1 (ci := 7) rfl) rfl rfl hl.1 rfl (lv_room (Nat.le_of_ble_eq_true rfl)) dX6_counts_3 ⟨Nat.le_of_ble_eq_true rfl, Nat.le_of_ble_eq_true rfl⟩) (fun r9 hr9 => ?_)
  have hr9 : r9 = (zI (sOn f s1 k)) := hr9
  subst hr9
  have bs_1 : -1 ≤ sOn f s1 k ∧ sOn f s1 k < 6 := sOn_bd hI _ _
  refine lv_iconst (v := (zI (-1))) hx hb dX6_counts_6 (by decide) ?_
  refine z_icmp_eq (u := (sOn f s1 k)) (v := (-1)) (tgt := 14) hx hb (zI_toInt (by omega) (by omega)) (zI_toInt (by omega) (by omega)) dX6_counts_7 (by decide) (fun c_7 => ?_) (fun c_7 => ?_)
  · refine lv_iconst (v := (nI 0)) hx hb dX6_counts_14 (by decide) ?_
    refine lv_istore_n (lv' := [(3, .int (nI 0)), (0, .ref h), (1, .int (nI s1)), (2, .int (nI k))]) hx hb dX6_counts_15 rfl hl (by decide) rfl (fun ls hl => ?_)
    refine lv_iconst (v := (nI 0)) hx hb dX6_counts_16 (by decide) ?_
    refine lv_istore (lv' := [(4, .int (nI 0)), (3, .int (nI 0)), (0, .ref h), (1, .int (nI s1)), (2, .int (nI k))]) hx hb dX6_counts_17 hl (by decide) rfl (fun ls hl => ?_)
    have K19 : ∀ (n : Nat) (j : Nat), 8 - j < n → (j ≤ k) → ∀ (ls : Array Slot), lv_has ls 5 [(0, .ref h), (1, .int (nI s1)), (2, .int (nI k)), (3, .int (nI (b2 (cntsA f s1 k j)))), (4, .int (nI j))] → W p l e ({ frames := 2, cells := 0, slots := 0, locals := 46 } : Room) s m args below meth c s.heap [] 0 0 (MQ below (vp_Si (fun r => r = nI (b2 (cnts f s1 k)))) args s 0 0 (fun _ => False)) (F0 m 19 ls []) := by
      intro n
      induction n with
      | zero => intro j hn; exact absurd hn (by omega)
      | succ n ih19 =>
        intro j hn19 i19_0 ls hl
        refine lv_iload hx hb dX6_counts_19 (lv_at hl 4 rfl) ?_
        refine lv_iload_n hx hb dX6_counts_21 rfl (lv_at hl 2 rfl) ?_
        refine z_icmp_ge (u := ((j : Nat) : Int)) (v := ((k : Nat) : Int)) (tgt := 57) hx hb (nI_toInt (by omega)) (nI_toInt (by omega)) dX6_counts_22 (by decide) (fun c_22 => ?_) (fun c_22 => ?_)
        · refine lv_iload_n hx hb dX6_counts_57 rfl (lv_at hl 3 rfl) ?_
          exact e_rz hx hb hr hlocks (by first | decide | exact b2_le _ | omega) ((show nI (b2 (cntsA f s1 k j)) = nI (b2 (cnts f s1 k)) by unfold cnts; rw [show j = k by omega])) dX6_counts_58
        · refine lv_iload_n hx hb dX6_counts_25 rfl (lv_at hl 3 rfl) ?_
          refine b_if_eq (b := cntsA f s1 k j) (tgt := 49) hx hb dX6_counts_26 (by decide) (fun c_26 => ?_) (fun c_26 => ?_)
          · refine lv_iconst (v := (nI 0)) hx hb dX6_counts_49 (by decide) ?_
            refine lv_istore_n (lv' := [(3, .int (nI 0)), (0, .ref h), (1, .int (nI s1)), (2, .int (nI k)), (4, .int (nI j))]) hx hb dX6_counts_50 rfl hl (by decide) rfl (fun ls hl => ?_)
            refine n_iinc (x := j) (k := 1) (lv' := [(4, .int (nI (j + 1))), (3, .int (nI 0)), (0, .ref h), (1, .int (nI s1)), (2, .int (nI k))]) hx hb dX6_counts_51 rfl hl (q := 4) rfl (by decide) rfl (fun ls hl => ?_)
            refine lv_goto (tgt := 19) hx hb dX6_counts_54 (by decide) ?_
            have hl : lv_has ls 5 [(4, .int (nI (j + 1))), (3, .int (nI (b2 (cntsA f s1 k (j + 1))))), (0, .ref h), (1, .int (nI s1)), (2, .int (nI k))] := by
              have heq0 : (.int (nI (b2 (cntsA f s1 k (j + 1)))) : Value) = .int (nI 0) := congrArg Value.int (by first | (exact b2_f (by rw [cntsA, c_26]; rfl)) | (exact b2_t (by rw [cntsA, c_26, decide_eq_true (by omega)]; rfl)) | (exact b2_f (by rw [cntsA, c_26, decide_eq_false (by omega)]; rfl)))
              rw [heq0]
              exact hl
            exact ih19  (j + 1) (by omega) (by omega) _ (lv_sub hl [2, 3, 4, 1, 0] rfl)
          · refine lv_aload_n hx hb dX6_counts_29 rfl (lv_at hl 0 rfl) ?_
            refine lv_iload_n hx hb dX6_counts_30 rfl (lv_at hl 1 rfl) ?_
            refine lv_iload hx hb dX6_counts_31 (lv_at hl 4 rfl) ?_
            refine vp_callSi (W.runV (C := RX6) (As := [.int (nI s1), .int (nI j)]) (rest := []) ⟨hx, hb, hml, hown, hts⟩ (c_X6_strokeOn l D cy _ h ad t i f nc s1 j hW hI (by omega) (by omega)) (cwV 2 hts gX6_counts_X6_strokeOn rfl rfl rfl (by decide +kernel) ⟨Nat.le_of_ble_eq_true rfl, Nat.le_of_ble_eq_true rfl⟩) (mPreV hK hP hW.1 (ci := 7) rfl) rfl rfl hl.1 rfl (lv_room (Nat.le_of_ble_eq_true rfl)) dX6_counts_33 ⟨Nat.le_of_ble_eq_true rfl, Nat.le_of_ble_eq_true rfl⟩) (fun r9 hr9 => ?_)
            have hr9 : r9 = (zI (sOn f s1 j)) := hr9
            subst hr9
            have bs_2 : -1 ≤ sOn f s1 j ∧ sOn f s1 j < 6 := sOn_bd hI _ _
            refine lv_aload_n hx hb dX6_counts_36 rfl (lv_at hl 0 rfl) ?_
            refine lv_iload_n hx hb dX6_counts_37 rfl (lv_at hl 1 rfl) ?_
            refine lv_iload_n hx hb dX6_counts_38 rfl (lv_at hl 2 rfl) ?_
            refine vp_callSi (W.runV (C := RX6) (As := [.int (nI s1), .int (nI k)]) (rest := [.int (zI (sOn f s1 j))]) ⟨hx, hb, hml, hown, hts⟩ (c_X6_strokeOn l D cy _ h ad t i f nc s1 k hW hI (by omega) (by omega)) (cwV 2 hts gX6_counts_X6_strokeOn rfl rfl rfl (by decide +kernel) ⟨Nat.le_of_ble_eq_true rfl, Nat.le_of_ble_eq_true rfl⟩) (mPreV hK hP hW.1 (ci := 7) rfl) rfl rfl hl.1 rfl (lv_room (Nat.le_of_ble_eq_true rfl)) dX6_counts_39 ⟨Nat.le_of_ble_eq_true rfl, Nat.le_of_ble_eq_true rfl⟩) (fun r9 hr9 => ?_)
            have hr9 : r9 = (zI (sOn f s1 k)) := hr9
            subst hr9
            have bs_3 : -1 ≤ sOn f s1 k ∧ sOn f s1 k < 6 := sOn_bd hI _ _
            refine z_icmp_eq (u := (sOn f s1 j)) (v := (sOn f s1 k)) (tgt := 49) hx hb (zI_toInt (by omega) (by omega)) (zI_toInt (by omega) (by omega)) dX6_counts_42 (by decide) (fun c_42 => ?_) (fun c_42 => ?_)
            · refine lv_iconst (v := (nI 0)) hx hb dX6_counts_49 (by decide) ?_
              refine lv_istore_n (lv' := [(3, .int (nI 0)), (0, .ref h), (1, .int (nI s1)), (2, .int (nI k)), (4, .int (nI j))]) hx hb dX6_counts_50 rfl hl (by decide) rfl (fun ls hl => ?_)
              refine n_iinc (x := j) (k := 1) (lv' := [(4, .int (nI (j + 1))), (3, .int (nI 0)), (0, .ref h), (1, .int (nI s1)), (2, .int (nI k))]) hx hb dX6_counts_51 rfl hl (q := 4) rfl (by decide) rfl (fun ls hl => ?_)
              refine lv_goto (tgt := 19) hx hb dX6_counts_54 (by decide) ?_
              have hl : lv_has ls 5 [(4, .int (nI (j + 1))), (3, .int (nI (b2 (cntsA f s1 k (j + 1))))), (0, .ref h), (1, .int (nI s1)), (2, .int (nI k))] := by
                have heq0 : (.int (nI (b2 (cntsA f s1 k (j + 1)))) : Value) = .int (nI 0) := congrArg Value.int (by first | (exact b2_f (by rw [cntsA, c_26]; rfl)) | (exact b2_t (by rw [cntsA, c_26, decide_eq_true (by omega)]; rfl)) | (exact b2_f (by rw [cntsA, c_26, decide_eq_false (by omega)]; rfl)))
                rw [heq0]
                exact hl
              exact ih19  (j + 1) (by omega) (by omega) _ (lv_sub hl [2, 3, 4, 1, 0] rfl)
            · refine lv_iconst (v := (nI 1)) hx hb dX6_counts_45 (by decide) ?_
              refine lv_goto (tgt := 50) hx hb dX6_counts_46 (by decide) ?_
              refine lv_istore_n (lv' := [(3, .int (nI 1)), (0, .ref h), (1, .int (nI s1)), (2, .int (nI k)), (4, .int (nI j))]) hx hb dX6_counts_50 rfl hl (by decide) rfl (fun ls hl => ?_)
              refine n_iinc (x := j) (k := 1) (lv' := [(4, .int (nI (j + 1))), (3, .int (nI 1)), (0, .ref h), (1, .int (nI s1)), (2, .int (nI k))]) hx hb dX6_counts_51 rfl hl (q := 4) rfl (by decide) rfl (fun ls hl => ?_)
              refine lv_goto (tgt := 19) hx hb dX6_counts_54 (by decide) ?_
              have hl : lv_has ls 5 [(4, .int (nI (j + 1))), (3, .int (nI (b2 (cntsA f s1 k (j + 1))))), (0, .ref h), (1, .int (nI s1)), (2, .int (nI k))] := by
                have heq0 : (.int (nI (b2 (cntsA f s1 k (j + 1)))) : Value) = .int (nI 1) := congrArg Value.int (by first | (exact b2_f (by rw [cntsA, c_26]; rfl)) | (exact b2_t (by rw [cntsA, c_26, decide_eq_true (by omega)]; rfl)) | (exact b2_f (by rw [cntsA, c_26, decide_eq_false (by omega)]; rfl)))
                rw [heq0]
                exact hl
              exact ih19  (j + 1) (by omega) (by omega) _ (lv_sub hl [2, 3, 4, 1, 0] rfl)
    have hl : lv_has ls 5 [(4, .int (nI 0)), (3, .int (nI (b2 (cntsA f s1 k 0)))), (0, .ref h), (1, .int (nI s1)), (2, .int (nI k))] := by
      have heq0 : (.int (nI (b2 (cntsA f s1 k 0))) : Value) = .int (nI 0) := congrArg Value.int (b2_n (by omega))
      rw [heq0]
      exact hl
    exact K19 (8 - 0 + 1) 0 (Nat.lt_succ_self _) (Nat.zero_le _) _ (lv_sub hl [2, 3, 4, 1, 0] rfl)
  · refine lv_iconst (v := (nI 1)) hx hb dX6_counts_10 (by decide) ?_
    refine lv_goto (tgt := 15) hx hb dX6_counts_11 (by decide) ?_
    refine lv_istore_n (lv' := [(3, .int (nI 1)), (0, .ref h), (1, .int (nI s1)), (2, .int (nI k))]) hx hb dX6_counts_15 rfl hl (by decide) rfl (fun ls hl => ?_)
    refine lv_iconst (v := (nI 0)) hx hb dX6_counts_16 (by decide) ?_
    refine lv_istore (lv' := [(4, .int (nI 0)), (3, .int (nI 1)), (0, .ref h), (1, .int (nI s1)), (2, .int (nI k))]) hx hb dX6_counts_17 hl (by decide) rfl (fun ls hl => ?_)
    have K19 : ∀ (n : Nat) (j : Nat), 8 - j < n → (j ≤ k) → ∀ (ls : Array Slot), lv_has ls 5 [(0, .ref h), (1, .int (nI s1)), (2, .int (nI k)), (3, .int (nI (b2 (cntsA f s1 k j)))), (4, .int (nI j))] → W p l e ({ frames := 2, cells := 0, slots := 0, locals := 46 } : Room) s m args below meth c s.heap [] 0 0 (MQ below (vp_Si (fun r => r = nI (b2 (cnts f s1 k)))) args s 0 0 (fun _ => False)) (F0 m 19 ls []) := by
      intro n
      induction n with
      | zero => intro j hn; exact absurd hn (by omega)
      | succ n ih19 =>
        intro j hn19 i19_0 ls hl
        refine lv_iload hx hb dX6_counts_19 (lv_at hl 4 rfl) ?_
        refine lv_iload_n hx hb dX6_counts_21 rfl (lv_at hl 2 rfl) ?_
        refine z_icmp_ge (u := ((j : Nat) : Int)) (v := ((k : Nat) : Int)) (tgt := 57) hx hb (nI_toInt (by omega)) (nI_toInt (by omega)) dX6_counts_22 (by decide) (fun c_22 => ?_) (fun c_22 => ?_)
        · refine lv_iload_n hx hb dX6_counts_57 rfl (lv_at hl 3 rfl) ?_
          exact e_rz hx hb hr hlocks (by first | decide | exact b2_le _ | omega) ((show nI (b2 (cntsA f s1 k j)) = nI (b2 (cnts f s1 k)) by unfold cnts; rw [show j = k by omega])) dX6_counts_58
        · refine lv_iload_n hx hb dX6_counts_25 rfl (lv_at hl 3 rfl) ?_
          refine b_if_eq (b := cntsA f s1 k j) (tgt := 49) hx hb dX6_counts_26 (by decide) (fun c_26 => ?_) (fun c_26 => ?_)
          · refine lv_iconst (v := (nI 0)) hx hb dX6_counts_49 (by decide) ?_
            refine lv_istore_n (lv' := [(3, .int (nI 0)), (0, .ref h), (1, .int (nI s1)), (2, .int (nI k)), (4, .int (nI j))]) hx hb dX6_counts_50 rfl hl (by decide) rfl (fun ls hl => ?_)
            refine n_iinc (x := j) (k := 1) (lv' := [(4, .int (nI (j + 1))), (3, .int (nI 0)), (0, .ref h), (1, .int (nI s1)), (2, .int (nI k))]) hx hb dX6_counts_51 rfl hl (q := 4) rfl (by decide) rfl (fun ls hl => ?_)
            refine lv_goto (tgt := 19) hx hb dX6_counts_54 (by decide) ?_
            have hl : lv_has ls 5 [(4, .int (nI (j + 1))), (3, .int (nI (b2 (cntsA f s1 k (j + 1))))), (0, .ref h), (1, .int (nI s1)), (2, .int (nI k))] := by
              have heq0 : (.int (nI (b2 (cntsA f s1 k (j + 1)))) : Value) = .int (nI 0) := congrArg Value.int (by first | (exact b2_f (by rw [cntsA, c_26]; rfl)) | (exact b2_t (by rw [cntsA, c_26, decide_eq_true (by omega)]; rfl)) | (exact b2_f (by rw [cntsA, c_26, decide_eq_false (by omega)]; rfl)))
              rw [heq0]
              exact hl
            exact ih19  (j + 1) (by omega) (by omega) _ (lv_sub hl [2, 3, 4, 1, 0] rfl)
          · refine lv_aload_n hx hb dX6_counts_29 rfl (lv_at hl 0 rfl) ?_
            refine lv_iload_n hx hb dX6_counts_30 rfl (lv_at hl 1 rfl) ?_
            refine lv_iload hx hb dX6_counts_31 (lv_at hl 4 rfl) ?_
            refine vp_callSi (W.runV (C := RX6) (As := [.int (nI s1), .int (nI j)]) (rest := []) ⟨hx, hb, hml, hown, hts⟩ (c_X6_strokeOn l D cy _ h ad t i f nc s1 j hW hI (by omega) (by omega)) (cwV 2 hts gX6_counts_X6_strokeOn rfl rfl rfl (by decide +kernel) ⟨Nat.le_of_ble_eq_true rfl, Nat.le_of_ble_eq_true rfl⟩) (mPreV hK hP hW.1 (ci := 7) rfl) rfl rfl hl.1 rfl (lv_room (Nat.le_of_ble_eq_true rfl)) dX6_counts_33 ⟨Nat.le_of_ble_eq_true rfl, Nat.le_of_ble_eq_true rfl⟩) (fun r9 hr9 => ?_)
            have hr9 : r9 = (zI (sOn f s1 j)) := hr9
            subst hr9
            have bs_4 : -1 ≤ sOn f s1 j ∧ sOn f s1 j < 6 := sOn_bd hI _ _
            refine lv_aload_n hx hb dX6_counts_36 rfl (lv_at hl 0 rfl) ?_
            refine lv_iload_n hx hb dX6_counts_37 rfl (lv_at hl 1 rfl) ?_
            refine lv_iload_n hx hb dX6_counts_38 rfl (lv_at hl 2 rfl) ?_
            refine vp_callSi (W.runV (C := RX6) (As := [.int (nI s1), .int (nI k)]) (rest := [.int (zI (sOn f s1 j))]) ⟨hx, hb, hml, hown, hts⟩ (c_X6_strokeOn l D cy _ h ad t i f nc s1 k hW hI (by omega) (by omega)) (cwV 2 hts gX6_counts_X6_strokeOn rfl rfl rfl (by decide +kernel) ⟨Nat.le_of_ble_eq_true rfl, Nat.le_of_ble_eq_true rfl⟩) (mPreV hK hP hW.1 (ci := 7) rfl) rfl rfl hl.1 rfl (lv_room (Nat.le_of_ble_eq_true rfl)) dX6_counts_39 ⟨Nat.le_of_ble_eq_true rfl, Nat.le_of_ble_eq_true rfl⟩) (fun r9 hr9 => ?_)
            have hr9 : r9 = (zI (sOn f s1 k)) := hr9
            subst hr9
            have bs_5 : -1 ≤ sOn f s1 k ∧ sOn f s1 k < 6 := sOn_bd hI _ _
            refine z_icmp_eq (u := (sOn f s1 j)) (v := (sOn f s1 k)) (tgt := 49) hx hb (zI_toInt (by omega) (by omega)) (zI_toInt (by omega) (by omega)) dX6_counts_42 (by decide) (fun c_42 => ?_) (fun c_42 => ?_)
            · refine lv_iconst (v := (nI 0)) hx hb dX6_counts_49 (by decide) ?_
              refine lv_istore_n (lv' := [(3, .int (nI 0)), (0, .ref h), (1, .int (nI s1)), (2, .int (nI k)), (4, .int (nI j))]) hx hb dX6_counts_50 rfl hl (by decide) rfl (fun ls hl => ?_)
              refine n_iinc (x := j) (k := 1) (lv' := [(4, .int (nI (j + 1))), (3, .int (nI 0)), (0, .ref h), (1, .int (nI s1)), (2, .int (nI k))]) hx hb dX6_counts_51 rfl hl (q := 4) rfl (by decide) rfl (fun ls hl => ?_)
              refine lv_goto (tgt := 19) hx hb dX6_counts_54 (by decide) ?_
              have hl : lv_has ls 5 [(4, .int (nI (j + 1))), (3, .int (nI (b2 (cntsA f s1 k (j + 1))))), (0, .ref h), (1, .int (nI s1)), (2, .int (nI k))] := by
                have heq0 : (.int (nI (b2 (cntsA f s1 k (j + 1)))) : Value) = .int (nI 0) := congrArg Value.int (by first | (exact b2_f (by rw [cntsA, c_26]; rfl)) | (exact b2_t (by rw [cntsA, c_26, decide_eq_true (by omega)]; rfl)) | (exact b2_f (by rw [cntsA, c_26, decide_eq_false (by omega)]; rfl)))
                rw [heq0]
                exact hl
              exact ih19  (j + 1) (by omega) (by omega) _ (lv_sub hl [2, 3, 4, 1, 0] rfl)
            · refine lv_iconst (v := (nI 1)) hx hb dX6_counts_45 (by decide) ?_
              refine lv_goto (tgt := 50) hx hb dX6_counts_46 (by decide) ?_
              refine lv_istore_n (lv' := [(3, .int (nI 1)), (0, .ref h), (1, .int (nI s1)), (2, .int (nI k)), (4, .int (nI j))]) hx hb dX6_counts_50 rfl hl (by decide) rfl (fun ls hl => ?_)
              refine n_iinc (x := j) (k := 1) (lv' := [(4, .int (nI (j + 1))), (3, .int (nI 1)), (0, .ref h), (1, .int (nI s1)), (2, .int (nI k))]) hx hb dX6_counts_51 rfl hl (q := 4) rfl (by decide) rfl (fun ls hl => ?_)
              refine lv_goto (tgt := 19) hx hb dX6_counts_54 (by decide) ?_
              have hl : lv_has ls 5 [(4, .int (nI (j + 1))), (3, .int (nI (b2 (cntsA f s1 k (j + 1))))), (0, .ref h), (1, .int (nI s1)), (2, .int (nI k))] := by
                have heq0 : (.int (nI (b2 (cntsA f s1 k (j + 1)))) : Value) = .int (nI 1) := congrArg Value.int (by first | (exact b2_f (by rw [cntsA, c_26]; rfl)) | (exact b2_t (by rw [cntsA, c_26, decide_eq_true (by omega)]; rfl)) | (exact b2_f (by rw [cntsA, c_26, decide_eq_false (by omega)]; rfl)))
                rw [heq0]
                exact hl
              exact ih19  (j + 1) (by omega) (by omega) _ (lv_sub hl [2, 3, 4, 1, 0] rfl)
    have hl : lv_has ls 5 [(4, .int (nI 0)), (3, .int (nI (b2 (cntsA f s1 k 0)))), (0, .ref h), (1, .int (nI s1)), (2, .int (nI k))] := by
      have heq0 : (.int (nI (b2 (cntsA f s1 k 0))) : Value) = .int (nI 1) := congrArg Value.int (b2_d (by omega))
      rw [heq0]
      exact hl
    exact K19 (8 - 0 + 1) 0 (Nat.lt_succ_self _) (Nat.zero_le _) _ (lv_sub hl [2, 3, 4, 1, 0] rfl)

set_option maxRecDepth 100000 in
set_option maxHeartbeats 4000000 in
/-- counting -/
theorem c_X6_counting (l : Launch) (D : va_G) (cy : Nat → ClassId) (M : mM) (h : Nat) (ad : Nat → Nat) (t : Nat) (i : Nat → Nat) (f : Nat → Nat → Nat) (nc : Nat) (s1 : Nat) (hW : MW cy M h ad t i f) (hI : MI nc i f) (hs : s1 < 40) : mR l yX6_counting wsX6_counting ({ frames := 3, cells := 0, slots := 0, locals := 70 } : Room) D cy M [.ref h, .int (nI s1)] (fun r => r = nI (count f s1)) := by
  refine mR.of (cc := cX6_counting) (maxL := 4) (ret := (some .int)) (by decide) rfl (Nat.le_of_ble_eq_true rfl) ?_
  intro p e s m args below meth c ls hx hb hr hts hown hlocks hml hP hK hl
  have hl : lv_has ls 4 [(0, .ref h), (1, .int (nI s1))] := hl
  have hown : s.vm.findClass RX6 = some m.cls := hown
  have hwX6 : ∀ w ∈ wsX60, w.before args s = true := fun w h => hts w (List.mem_cons_of_mem _ (List.mem_append_right _ (h)))
  refine lv_iconst (v := (nI 0)) hx hb dX6_counting_0 (by decide) ?_
  refine lv_istore_n (lv' := [(2, .int (nI 0)), (0, .ref h), (1, .int (nI s1))]) hx hb dX6_counting_1 rfl hl (by decide) rfl (fun ls hl => ?_)
  refine lv_iconst (v := (nI 0)) hx hb dX6_counting_2 (by decide) ?_
  refine lv_istore_n (lv' := [(3, .int (nI 0)), (2, .int (nI 0)), (0, .ref h), (1, .int (nI s1))]) hx hb dX6_counting_3 rfl hl (by decide) rfl (fun ls hl => ?_)
  have K4 : ∀ (n : Nat) (j : Nat), 8 - j < n → (j ≤ f 12 s1) → ∀ (ls : Array Slot), lv_has ls 4 [(0, .ref h), (1, .int (nI s1)), (2, .int (nI (countA f s1 j))), (3, .int (nI j))] → W p l e ({ frames := 3, cells := 0, slots := 0, locals := 70 } : Room) s m args below meth c s.heap [] 0 0 (MQ below (vp_Si (fun r => r = nI (count f s1))) args s 0 0 (fun _ => False)) (F0 m 4 ls []) := by
    intro n
    induction n with
    | zero => intro j hn; exact absurd hn (by omega)
    | succ n ih4 =>
      intro j hn4 i4_0 ls hl
      have hle := countA_le f s1 j
      refine lv_iload_n hx hb dX6_counting_4 rfl (lv_at hl 3 rfl) ?_
      refine lv_aload_n hx hb dX6_counting_5 rfl (lv_at hl 0 rfl) ?_
      refine m_get (T := TX6) (N := 24) (ci := 7) (fs := (moF ad t i)) hx hb hwX6 hown hK hP hW.1 rfl 12 (by decide) (hts _ (List.mem_of_getElem? (i := 1) rfl)) (v := .ref (ad 12)) rfl dX6_counting_6 ?_
      refine lv_iload_n hx hb dX6_counting_9 rfl (lv_at hl 1 rfl) ?_
      have bd_1 : (f 12) s1 ≤ 8 := hI.2.2.2.2.2 12 s1
      refine n_iald (g := (f 12)) (n := 40) (i := s1) hx hb hK hP (hW.2.1 12 (by decide)) (by omega) (by omega) dX6_counting_10 ?_
      refine z_icmp_ge (u := ((j : Nat) : Int)) (v := (((f 12) s1 : Nat) : Int)) (tgt := 37) hx hb (nI_toInt (by omega)) (nI_toInt (by omega)) dX6_counting_11 (by decide) (fun c_11 => ?_) (fun c_11 => ?_)
      · refine lv_iload_n hx hb dX6_counting_37 rfl (lv_at hl 2 rfl) ?_
        exact e_ri hx hb hr hlocks ((show nI (countA f s1 j) = nI (count f s1) by unfold count; rw [show f 12 s1 = j by omega])) dX6_counting_38
      · refine lv_iload_n hx hb dX6_counting_14 rfl (lv_at hl 2 rfl) ?_
        refine lv_aload_n hx hb dX6_counting_15 rfl (lv_at hl 0 rfl) ?_
        refine lv_iload_n hx hb dX6_counting_16 rfl (lv_at hl 1 rfl) ?_
        refine lv_iload_n hx hb dX6_counting_17 rfl (lv_at hl 3 rfl) ?_
        refine vp_callSi (W.runV (C := RX6) (As := [.int (nI s1), .int (nI j)]) (rest := [.int (nI (countA f s1 j))]) ⟨hx, hb, hml, hown, hts⟩ (c_X6_counts l D cy _ h ad t i f nc s1 j hW hI (by omega) (by omega)) (cwV 2 hts gX6_counting_X6_counts rfl rfl rfl (by decide +kernel) ⟨Nat.le_of_ble_eq_true rfl, Nat.le_of_ble_eq_true rfl⟩) (mPreV hK hP hW.1 (ci := 7) rfl) rfl rfl hl.1 rfl (lv_room (Nat.le_of_ble_eq_true rfl)) dX6_counting_18 ⟨Nat.le_of_ble_eq_true rfl, Nat.le_of_ble_eq_true rfl⟩) (fun r9 hr9 => ?_)
        have hr9 : r9 = (nI (b2 (cnts f s1 j))) := hr9
        subst hr9
        refine b_if_eq (b := cnts f s1 j) (tgt := 28) hx hb dX6_counting_21 (by decide) (fun c_21 => ?_) (fun c_21 => ?_)
        · refine lv_iconst (v := (nI 0)) hx hb dX6_counting_28 (by decide) ?_
          refine n_add (x := countA f s1 j) (y := 0) hx hb dX6_counting_29 ?_
          refine lv_istore_n (lv' := [(2, .int (nI ((countA f s1 j) + 0))), (0, .ref h), (1, .int (nI s1)), (3, .int (nI j))]) hx hb dX6_counting_30 rfl hl (by decide) rfl (fun ls hl => ?_)
          refine n_iinc (x := j) (k := 1) (lv' := [(3, .int (nI (j + 1))), (2, .int (nI ((countA f s1 j) + 0))), (0, .ref h), (1, .int (nI s1))]) hx hb dX6_counting_31 rfl hl (q := 3) rfl (by decide) rfl (fun ls hl => ?_)
          refine lv_goto (tgt := 4) hx hb dX6_counting_34 (by decide) ?_
          have hl : lv_has ls 4 [(3, .int (nI (j + 1))), (2, .int (nI (countA f s1 (j + 1)))), (0, .ref h), (1, .int (nI s1))] := by
            have heq0 : (.int (nI (countA f s1 (j + 1))) : Value) = .int (nI ((countA f s1 j) + 0)) := congrArg Value.int (congrArg nI (by show countA f s1 j + b2 (cnts f s1 j) = _; rw [c_21]; rfl))
            rw [heq0]
            exact hl
          exact ih4  (j + 1) (by omega) (by omega) _ (lv_sub hl [2, 3, 1, 0] rfl)
        · refine lv_iconst (v := (nI 1)) hx hb dX6_counting_24 (by decide) ?_
          refine lv_goto (tgt := 29) hx hb dX6_counting_25 (by decide) ?_
          refine n_add (x := countA f s1 j) (y := 1) hx hb dX6_counting_29 ?_
          refine lv_istore_n (lv' := [(2, .int (nI ((countA f s1 j) + 1))), (0, .ref h), (1, .int (nI s1)), (3, .int (nI j))]) hx hb dX6_counting_30 rfl hl (by decide) rfl (fun ls hl => ?_)
          refine n_iinc (x := j) (k := 1) (lv' := [(3, .int (nI (j + 1))), (2, .int (nI ((countA f s1 j) + 1))), (0, .ref h), (1, .int (nI s1))]) hx hb dX6_counting_31 rfl hl (q := 3) rfl (by decide) rfl (fun ls hl => ?_)
          refine lv_goto (tgt := 4) hx hb dX6_counting_34 (by decide) ?_
          have hl : lv_has ls 4 [(3, .int (nI (j + 1))), (2, .int (nI (countA f s1 (j + 1)))), (0, .ref h), (1, .int (nI s1))] := by
            have heq0 : (.int (nI (countA f s1 (j + 1))) : Value) = .int (nI ((countA f s1 j) + 1)) := congrArg Value.int (congrArg nI (by show countA f s1 j + b2 (cnts f s1 j) = _; rw [c_21]; rfl))
            rw [heq0]
            exact hl
          exact ih4  (j + 1) (by omega) (by omega) _ (lv_sub hl [2, 3, 1, 0] rfl)
  exact K4 (8 - 0 + 1) 0 (Nat.lt_succ_self _) (Nat.zero_le _) _ (lv_sub hl [2, 3, 1, 0] rfl)

set_option maxRecDepth 100000 in
set_option maxHeartbeats 4000000 in
/-- turned -/
theorem c_X6_turned (l : Launch) (D : va_G) (cy : Nat → ClassId) (M : mM) (h : Nat) (ad : Nat → Nat) (t : Nat) (i : Nat → Nat) (f : Nat → Nat → Nat) (nc : Nat) (s1 : Nat) (hW : MW cy M h ad t i f) (hI : MI nc i f) (hs : s1 < 40) : mR l yX6_turned wsX6_turned ({ frames := 3, cells := 0, slots := 0, locals := 70 } : Room) D cy M [.ref h, .int (nI s1)] (fun r => r = nI (turn f s1)) := by
  refine mR.of (cc := cX6_turned) (maxL := 5) (ret := (some .int)) (by decide) rfl (Nat.le_of_ble_eq_true rfl) ?_
  intro p e s m args below meth c ls hx hb hr hts hown hlocks hml hP hK hl
  have hl : lv_has ls 5 [(0, .ref h), (1, .int (nI s1))] := hl
  have hown : s.vm.findClass RX6 = some m.cls := hown
  have hwX6 : ∀ w ∈ wsX60, w.before args s = true := fun w h => hts w (List.mem_cons_of_mem _ (List.mem_append_right _ (h)))
  refine lv_iconst (v := (nI 0)) hx hb dX6_turned_0 (by decide) ?_
  refine lv_istore_n (lv' := [(2, .int (nI 0)), (0, .ref h), (1, .int (nI s1))]) hx hb dX6_turned_1 rfl hl (by decide) rfl (fun ls hl => ?_)
  refine lv_iconst (v := (nI 0)) hx hb dX6_turned_2 (by decide) ?_
  refine lv_istore_n (lv' := [(3, .int (nI 0)), (2, .int (nI 0)), (0, .ref h), (1, .int (nI s1))]) hx hb dX6_turned_3 rfl hl (by decide) rfl (fun ls hl => ?_)
  have K4 : ∀ (n : Nat) (j : Nat), 8 - j < n → (j ≤ f 12 s1) → ∀ (ls : Array Slot), lv_has ls 5 [(0, .ref h), (1, .int (nI s1)), (2, .int (nI (turnA f s1 j))), (3, .int (nI j))] → W p l e ({ frames := 3, cells := 0, slots := 0, locals := 70 } : Room) s m args below meth c s.heap [] 0 0 (MQ below (vp_Si (fun r => r = nI (turn f s1))) args s 0 0 (fun _ => False)) (F0 m 4 ls []) := by
    intro n
    induction n with
    | zero => intro j hn; exact absurd hn (by omega)
    | succ n ih4 =>
      intro j hn4 i4_0 ls hl
      have hle := turnA_le f s1 j
      refine lv_iload_n hx hb dX6_turned_4 rfl (lv_at hl 3 rfl) ?_
      refine lv_aload_n hx hb dX6_turned_5 rfl (lv_at hl 0 rfl) ?_
      refine m_get (T := TX6) (N := 24) (ci := 7) (fs := (moF ad t i)) hx hb hwX6 hown hK hP hW.1 rfl 12 (by decide) (hts _ (List.mem_of_getElem? (i := 1) rfl)) (v := .ref (ad 12)) rfl dX6_turned_6 ?_
      refine lv_iload_n hx hb dX6_turned_9 rfl (lv_at hl 1 rfl) ?_
      have bd_1 : (f 12) s1 ≤ 8 := hI.2.2.2.2.2 12 s1
      refine n_iald (g := (f 12)) (n := 40) (i := s1) hx hb hK hP (hW.2.1 12 (by decide)) (by omega) (by omega) dX6_turned_10 ?_
      refine z_icmp_ge (u := ((j : Nat) : Int)) (v := (((f 12) s1 : Nat) : Int)) (tgt := 84) hx hb (nI_toInt (by omega)) (nI_toInt (by omega)) dX6_turned_11 (by decide) (fun c_11 => ?_) (fun c_11 => ?_)
      · refine lv_iload_n hx hb dX6_turned_84 rfl (lv_at hl 2 rfl) ?_
        exact e_ri hx hb hr hlocks ((show nI (turnA f s1 j) = nI (turn f s1) by unfold turn; rw [show f 12 s1 = j by omega])) dX6_turned_85
      · refine lv_aload_n hx hb dX6_turned_14 rfl (lv_at hl 0 rfl) ?_
        refine lv_iload_n hx hb dX6_turned_15 rfl (lv_at hl 1 rfl) ?_
        refine lv_iload_n hx hb dX6_turned_16 rfl (lv_at hl 3 rfl) ?_
        refine vp_callSi (W.runV (C := RX6) (As := [.int (nI s1), .int (nI j)]) (rest := []) ⟨hx, hb, hml, hown, hts⟩ (c_X6_counts l D cy _ h ad t i f nc s1 j hW hI (by omega) (by omega)) (cwV 2 hts gX6_turned_X6_counts rfl rfl rfl (by decide +kernel) ⟨Nat.le_of_ble_eq_true rfl, Nat.le_of_ble_eq_true rfl⟩) (mPreV hK hP hW.1 (ci := 7) rfl) rfl rfl hl.1 rfl (lv_room (Nat.le_of_ble_eq_true rfl)) dX6_turned_17 ⟨Nat.le_of_ble_eq_true rfl, Nat.le_of_ble_eq_true rfl⟩) (fun r9 hr9 => ?_)
        have hr9 : r9 = (nI (b2 (cnts f s1 j))) := hr9
        subst hr9
        refine b_if_eq (b := cnts f s1 j) (tgt := 62) hx hb dX6_turned_20 (by decide) (fun c_20 => ?_) (fun c_20 => ?_)
        · refine lv_iconst (v := (nI 0)) hx hb dX6_turned_62 (by decide) ?_
          refine lv_istore (lv' := [(4, .int (nI 0)), (0, .ref h), (1, .int (nI s1)), (2, .int (nI (turnA f s1 j))), (3, .int (nI j))]) hx hb dX6_turned_63 hl (by decide) rfl (fun ls hl => ?_)
          refine lv_iload_n hx hb dX6_turned_65 rfl (lv_at hl 3 rfl) ?_
          refine lv_iload hx hb dX6_turned_66 (lv_at hl 0 rfl) ?_
          refine k_if_eq_0 (tgt := 75) hx hb dX6_turned_68 (by decide) ?_
          refine lv_iconst (v := (nI 0)) hx hb dX6_turned_75 (by decide) ?_
          refine n_add (x := turnA f s1 j) (y := 0) hx hb dX6_turned_76 ?_
          refine lv_istore_n (lv' := [(2, .int (nI ((turnA f s1 j) + 0))), (4, .int (nI 0)), (0, .ref h), (1, .int (nI s1)), (3, .int (nI j))]) hx hb dX6_turned_77 rfl hl (by decide) rfl (fun ls hl => ?_)
          refine n_iinc (x := j) (k := 1) (lv' := [(3, .int (nI (j + 1))), (2, .int (nI ((turnA f s1 j) + 0))), (4, .int (nI 0)), (0, .ref h), (1, .int (nI s1))]) hx hb dX6_turned_78 rfl hl (q := 4) rfl (by decide) rfl (fun ls hl => ?_)
          refine lv_goto (tgt := 4) hx hb dX6_turned_81 (by decide) ?_
          have hl : lv_has ls 5 [(3, .int (nI (j + 1))), (2, .int (nI (turnA f s1 (j + 1)))), (4, .int (nI 0)), (0, .ref h), (1, .int (nI s1))] := by
            have heq0 : (.int (nI (turnA f s1 (j + 1))) : Value) = .int (nI ((turnA f s1 j) + 0)) := congrArg Value.int (congrArg nI (by show turnA f s1 j + b2 (turnsAt f s1 j) = _; unfold turnsAt; first | (rw [c_20]; rfl) | (rw [c_20, decide_eq_true (by omega)]; rfl) | (rw [c_20, decide_eq_false (by omega)]; rfl)))
            rw [heq0]
            exact hl
          exact ih4  (j + 1) (by omega) (by omega) _ (lv_sub hl [3, 4, 1, 0] rfl)
        · refine lv_aload_n hx hb dX6_turned_23 rfl (lv_at hl 0 rfl) ?_
          refine m_get (T := TX6) (N := 24) (ci := 7) (fs := (moF ad t i)) hx hb hwX6 hown hK hP hW.1 rfl 3 (by decide) (hts _ (List.mem_of_getElem? (i := 2) rfl)) (v := .ref (ad 3)) rfl dX6_turned_24 ?_
          refine lv_bipush (v := (nI 6)) hx hb dX6_turned_27 (by decide) ?_
          refine lv_aload_n hx hb dX6_turned_29 rfl (lv_at hl 0 rfl) ?_
          refine m_get (T := TX6) (N := 24) (ci := 7) (fs := (moF ad t i)) hx hb hwX6 hown hK hP hW.1 rfl 14 (by decide) (hts _ (List.mem_of_getElem? (i := 3) rfl)) (v := .ref (ad 14)) rfl dX6_turned_30 ?_
          refine lv_iload_n hx hb dX6_turned_33 rfl (lv_at hl 1 rfl) ?_
          have bd_2 : (f 14) s1 ≤ 9 := hI.2.2.2.2.2 14 s1
          refine n_iald (g := (f 14)) (n := 40) (i := s1) hx hb hK hP (hW.2.1 14 (by decide)) (by omega) (by omega) dX6_turned_34 ?_
          refine n_mul (x := 6) (y := (f 14) s1) hx hb dX6_turned_35 ?_
          refine lv_aload_n hx hb dX6_turned_36 rfl (lv_at hl 0 rfl) ?_
          refine lv_iload_n hx hb dX6_turned_37 rfl (lv_at hl 1 rfl) ?_
          refine lv_iload_n hx hb dX6_turned_38 rfl (lv_at hl 3 rfl) ?_
          refine vp_callSi (W.runV (C := RX6) (As := [.int (nI s1), .int (nI j)]) (rest := [.int (nI (6 * ((f 14) s1))), .ref (ad 3)]) ⟨hx, hb, hml, hown, hts⟩ (c_X6_strokeOn l D cy _ h ad t i f nc s1 j hW hI (by omega) (by omega)) (cwV 2 hts gX6_turned_X6_strokeOn rfl rfl rfl (by decide +kernel) ⟨Nat.le_of_ble_eq_true rfl, Nat.le_of_ble_eq_true rfl⟩) (mPreV hK hP hW.1 (ci := 7) rfl) rfl rfl hl.1 rfl (lv_room (Nat.le_of_ble_eq_true rfl)) dX6_turned_39 ⟨Nat.le_of_ble_eq_true rfl, Nat.le_of_ble_eq_true rfl⟩) (fun r9 hr9 => ?_)
          have hr9 : r9 = (zI (sOn f s1 j)) := hr9
          subst hr9
          have bs_3 : -1 ≤ sOn f s1 j ∧ sOn f s1 j < 6 := sOn_bd hI _ _
          have hne : sOn f s1 j ≠ -1 := cnts_ne c_20
          refine n_name (show (zI (sOn f s1 j)) = (nI ((sOn f s1 j).toNat)) from zI_nI (by omega)) ?_
          refine n_add (x := 6 * ((f 14) s1)) (y := (sOn f s1 j).toNat) hx hb dX6_turned_42 ?_
          have bd_4 : (f 3) ((6 * ((f 14) s1)) + ((sOn f s1 j).toNat)) ≤ 88 := hI.2.2.2.2.2 3 ((6 * ((f 14) s1)) + ((sOn f s1 j).toNat))
          refine n_iald (g := (f 3)) (n := 60) (i := (6 * ((f 14) s1)) + ((sOn f s1 j).toNat)) hx hb hK hP (hW.2.1 3 (by decide)) (by omega) (by omega) dX6_turned_43 ?_
          refine lv_aload_n hx hb dX6_turned_44 rfl (lv_at hl 0 rfl) ?_
          refine m_get (T := TX6) (N := 24) (ci := 7) (fs := (moF ad t i)) hx hb hwX6 hown hK hP hW.1 rfl 11 (by decide) (hts _ (List.mem_of_getElem? (i := 4) rfl)) (v := .ref (ad 11)) rfl dX6_turned_45 ?_
          refine lv_bipush (v := (nI 8)) hx hb dX6_turned_48 (by decide) ?_
          refine lv_iload_n hx hb dX6_turned_50 rfl (lv_at hl 1 rfl) ?_
          refine n_mul (x := 8) (y := s1) hx hb dX6_turned_51 ?_
          refine lv_iload_n hx hb dX6_turned_52 rfl (lv_at hl 3 rfl) ?_
          refine n_add (x := 8 * s1) (y := j) hx hb dX6_turned_53 ?_
          have bd_5 : (f 11) ((8 * s1) + j) ≤ 88 := hI.2.2.2.2.2 11 ((8 * s1) + j)
          refine n_iald (g := (f 11)) (n := 320) (i := (8 * s1) + j) hx hb hK hP (hW.2.1 11 (by decide)) (by omega) (by omega) dX6_turned_54 ?_
          refine z_icmp_eq (u := (((f 3) ((6 * ((f 14) s1)) + ((sOn f s1 j).toNat)) : Nat) : Int)) (v := (((f 11) ((8 * s1) + j) : Nat) : Int)) (tgt := 62) hx hb (nI_toInt (by omega)) (nI_toInt (by omega)) dX6_turned_55 (by decide) (fun c_55 => ?_) (fun c_55 => ?_)
          · refine lv_iconst (v := (nI 0)) hx hb dX6_turned_62 (by decide) ?_
            refine lv_istore (lv' := [(4, .int (nI 0)), (0, .ref h), (1, .int (nI s1)), (2, .int (nI (turnA f s1 j))), (3, .int (nI j))]) hx hb dX6_turned_63 hl (by decide) rfl (fun ls hl => ?_)
            refine lv_iload_n hx hb dX6_turned_65 rfl (lv_at hl 3 rfl) ?_
            refine lv_iload hx hb dX6_turned_66 (lv_at hl 0 rfl) ?_
            refine k_if_eq_0 (tgt := 75) hx hb dX6_turned_68 (by decide) ?_
            refine lv_iconst (v := (nI 0)) hx hb dX6_turned_75 (by decide) ?_
            refine n_add (x := turnA f s1 j) (y := 0) hx hb dX6_turned_76 ?_
            refine lv_istore_n (lv' := [(2, .int (nI ((turnA f s1 j) + 0))), (4, .int (nI 0)), (0, .ref h), (1, .int (nI s1)), (3, .int (nI j))]) hx hb dX6_turned_77 rfl hl (by decide) rfl (fun ls hl => ?_)
            refine n_iinc (x := j) (k := 1) (lv' := [(3, .int (nI (j + 1))), (2, .int (nI ((turnA f s1 j) + 0))), (4, .int (nI 0)), (0, .ref h), (1, .int (nI s1))]) hx hb dX6_turned_78 rfl hl (q := 4) rfl (by decide) rfl (fun ls hl => ?_)
            refine lv_goto (tgt := 4) hx hb dX6_turned_81 (by decide) ?_
            have hl : lv_has ls 5 [(3, .int (nI (j + 1))), (2, .int (nI (turnA f s1 (j + 1)))), (4, .int (nI 0)), (0, .ref h), (1, .int (nI s1))] := by
              have heq0 : (.int (nI (turnA f s1 (j + 1))) : Value) = .int (nI ((turnA f s1 j) + 0)) := congrArg Value.int (congrArg nI (by show turnA f s1 j + b2 (turnsAt f s1 j) = _; unfold turnsAt; first | (rw [c_20]; rfl) | (rw [c_20, decide_eq_true (by omega)]; rfl) | (rw [c_20, decide_eq_false (by omega)]; rfl)))
              rw [heq0]
              exact hl
            exact ih4  (j + 1) (by omega) (by omega) _ (lv_sub hl [3, 4, 1, 0] rfl)
          · refine lv_iconst (v := (nI 1)) hx hb dX6_turned_58 (by decide) ?_
            refine lv_goto (tgt := 63) hx hb dX6_turned_59 (by decide) ?_
            refine lv_istore (lv' := [(4, .int (nI 1)), (0, .ref h), (1, .int (nI s1)), (2, .int (nI (turnA f s1 j))), (3, .int (nI j))]) hx hb dX6_turned_63 hl (by decide) rfl (fun ls hl => ?_)
            refine lv_iload_n hx hb dX6_turned_65 rfl (lv_at hl 3 rfl) ?_
            refine lv_iload hx hb dX6_turned_66 (lv_at hl 0 rfl) ?_
            refine k_if_eq_1 (tgt := 75) hx hb dX6_turned_68 (by decide) ?_
            refine lv_iconst (v := (nI 1)) hx hb dX6_turned_71 (by decide) ?_
            refine lv_goto (tgt := 76) hx hb dX6_turned_72 (by decide) ?_
            refine n_add (x := turnA f s1 j) (y := 1) hx hb dX6_turned_76 ?_
            refine lv_istore_n (lv' := [(2, .int (nI ((turnA f s1 j) + 1))), (4, .int (nI 1)), (0, .ref h), (1, .int (nI s1)), (3, .int (nI j))]) hx hb dX6_turned_77 rfl hl (by decide) rfl (fun ls hl => ?_)
            refine n_iinc (x := j) (k := 1) (lv' := [(3, .int (nI (j + 1))), (2, .int (nI ((turnA f s1 j) + 1))), (4, .int (nI 1)), (0, .ref h), (1, .int (nI s1))]) hx hb dX6_turned_78 rfl hl (q := 4) rfl (by decide) rfl (fun ls hl => ?_)
            refine lv_goto (tgt := 4) hx hb dX6_turned_81 (by decide) ?_
            have hl : lv_has ls 5 [(3, .int (nI (j + 1))), (2, .int (nI (turnA f s1 (j + 1)))), (4, .int (nI 1)), (0, .ref h), (1, .int (nI s1))] := by
              have heq0 : (.int (nI (turnA f s1 (j + 1))) : Value) = .int (nI ((turnA f s1 j) + 1)) := congrArg Value.int (congrArg nI (by show turnA f s1 j + b2 (turnsAt f s1 j) = _; unfold turnsAt; first | (rw [c_20]; rfl) | (rw [c_20, decide_eq_true (by omega)]; rfl) | (rw [c_20, decide_eq_false (by omega)]; rfl)))
              rw [heq0]
              exact hl
            exact ih4  (j + 1) (by omega) (by omega) _ (lv_sub hl [3, 4, 1, 0] rfl)
  exact K4 (8 - 0 + 1) 0 (Nat.lt_succ_self _) (Nat.zero_le _) _ (lv_sub hl [2, 3, 1, 0] rfl)

set_option maxRecDepth 100000 in
set_option maxHeartbeats 4000000 in
/-- inOrder(s) -/
theorem c_X6_inOrder (l : Launch) (D : va_G) (cy : Nat → ClassId) (M : mM) (sz : Nat) (h : Nat) (ad : Nat → Nat) (t : Nat) (i : Nat → Nat) (f : Nat → Nat → Nat) (nc : Nat) (s1 : Nat) (hW : MW cy M h ad t i f) (hI : MI nc i f) (hs : s1 < 40) : mWi l yX6_inOrder wsX6_inOrder ({ frames := 3, cells := 0, slots := 0, locals := 70 } : Room) D cy M sz [.ref h, .int (nI s1)] (fun r M' => r = nI (inOrd f s1) ∧ MW cy M' h ad t i f) 0 0 := by
  refine mW.of (cc := cX6_inOrder) (maxL := 6) (ret := (some .int)) (by decide) rfl (Nat.le_of_ble_eq_true rfl) ?_
  intro p e s m args below meth c ls hsz hx hb hr hts hown hlocks hml hname hP hD hS hA hK hl
  have hl : lv_has ls 6 [(0, .ref h), (1, .int (nI s1))] := hl
  have hown : s.vm.findClass RX6 = some m.cls := hown
  have hwX6 : ∀ w ∈ wsX60, w.before args s = true := fun w h => hts w (List.mem_cons_of_mem _ (List.mem_append_right _ (h)))
  obtain ⟨g0, hg⟩ := hW.2.2.2.1
  refine lv_iconst (v := (nI 0)) hx hb dX6_inOrder_0 (by decide) ?_
  refine lv_istore_n (lv' := [(2, .int (nI 0)), (0, .ref h), (1, .int (nI s1))]) hx hb dX6_inOrder_1 rfl hl (by decide) rfl (fun ls hl => ?_)
  refine lv_iconst (v := (nI 0)) hx hb dX6_inOrder_2 (by decide) ?_
  refine lv_istore_n (lv' := [(3, .int (nI 0)), (2, .int (nI 0)), (0, .ref h), (1, .int (nI s1))]) hx hb dX6_inOrder_3 rfl hl (by decide) rfl (fun ls hl => ?_)
  have K4 : ∀ (n : Nat) (j : Nat) (gq : Nat → Nat), 8 - j < n → (j ≤ f 12 s1) → (∀ x, x < j → gq x = lon f s1 x) → ∀ (Mq : mM) (H : Heap) (locs : List Loc), pm D Mq H → mD (mA M sz) Mq → va_S (mA M sz) s.heap H locs → (MW cy Mq h ad t i f) → (Mq (ad 23) = some (eI cy 8 gq)) → ∀ (ls : Array Slot), lv_has ls 6 [(0, .ref h), (1, .int (nI s1)), (2, .int (nI (inOrdA f s1 j))), (3, .int (nI j))] → W p l e ({ frames := 3, cells := 0, slots := 0, locals := 70 } : Room) s m args below meth c H locs 0 0 (MQ below (va_Qi (fun r M' => r = nI (inOrd f s1) ∧ MW cy M' h ad t i f) (mB D M sz) (mA M sz)) args s 0 0 (mA M sz)) (F0 m 4 ls []) := by
    intro n
    induction n with
    | zero => intro j gq hn; exact absurd hn (by omega)
    | succ n ih4 =>
      intro j gq hn4 i4_0 i4_1 Mq H locs hP hD hS hW hg ls hl
      have hle := inOrdA_le f s1 j
      have hll := lon_le f s1 j
      have hgl : ∀ x, x < j → gq x ≤ x + 1 := fun x hx9 => by rw [i4_1 x hx9]; exact lon_le f s1 x
      refine lv_iload_n hx hb dX6_inOrder_4 rfl (lv_at hl 3 rfl) ?_
      refine lv_aload_n hx hb dX6_inOrder_5 rfl (lv_at hl 0 rfl) ?_
      refine m_get (T := TX6) (N := 24) (ci := 7) (fs := (moF ad t i)) hx hb hwX6 hown hK hP hW.1 rfl 12 (by decide) (hts _ (List.mem_of_getElem? (i := 1) rfl)) (v := .ref (ad 12)) rfl dX6_inOrder_6 ?_
      refine lv_iload_n hx hb dX6_inOrder_9 rfl (lv_at hl 1 rfl) ?_
      have bd_1 : (f 12) s1 ≤ 8 := hI.2.2.2.2.2 12 s1
      refine n_iald (g := (f 12)) (n := 40) (i := s1) hx hb hK hP (hW.2.1 12 (by decide)) (by omega) (by omega) dX6_inOrder_10 ?_
      refine z_icmp_ge (u := ((j : Nat) : Int)) (v := (((f 12) s1 : Nat) : Int)) (tgt := 163) hx hb (nI_toInt (by omega)) (nI_toInt (by omega)) dX6_inOrder_11 (by decide) (fun c_11 => ?_) (fun c_11 => ?_)
      · refine lv_iload_n hx hb dX6_inOrder_163 rfl (lv_at hl 2 rfl) ?_
        exact e_wi hx hb hr hlocks hP hD hS (⟨(show nI (inOrdA f s1 j) = nI (inOrd f s1) by unfold inOrd; rw [show f 12 s1 = j by omega]), hW⟩) dX6_inOrder_164
      · have KJ33 : ∀ (Mq : mM) (H : Heap) (locs : List Loc), pm D Mq H → mD (mA M sz) Mq → va_S (mA M sz) s.heap H locs → (MW cy Mq h ad t i f) → (Mq (ad 23) = some (eI cy 8 gq)) → ∀ (ls : Array Slot), lv_has ls 6 [(0, .ref h), (1, .int (nI s1)), (2, .int (nI (inOrdA f s1 j))), (3, .int (nI j))] → W p l e ({ frames := 3, cells := 0, slots := 0, locals := 70 } : Room) s m args below meth c H locs 0 0 (MQ below (va_Qi (fun r M' => r = nI (inOrd f s1) ∧ MW cy M' h ad t i f) (mB D M sz) (mA M sz)) args s 0 0 (mA M sz)) (F0 m 33 ls [.int (nI (b2 (cnts f s1 j))), .int (nI j), .ref (ad 23)]) := by
          intro   Mq H locs hP hD hS hW hg ls hl
          refine n_iast (g := gq) (n := 8) (i := j) (v := b2 (cnts f s1 j)) hx hb hK hP hD hS hg (by omega) (by omega) dX6_inOrder_33 (fun H locs hP hD hS => ?_)
          have hg := mset_self Mq (ad 23) (eI cy 8 (va_up gq j (b2 (cnts f s1 j))))
          have hW := hW.set23 (va_up gq j (b2 (cnts f s1 j)))
          have KJ136 : ∀ (Mq : mM) (H : Heap) (locs : List Loc), pm D Mq H → mD (mA M sz) Mq → va_S (mA M sz) s.heap H locs → (MW cy Mq h ad t i f) → (Mq (ad 23) = some (eI cy 8 (va_up gq j (lon f s1 j)))) → ∀ (ls : Array Slot), lv_has ls 6 [(0, .ref h), (1, .int (nI s1)), (2, .int (nI (inOrdA f s1 j))), (3, .int (nI j))] → W p l e ({ frames := 3, cells := 0, slots := 0, locals := 70 } : Room) s m args below meth c H locs 0 0 (MQ below (va_Qi (fun r M' => r = nI (inOrd f s1) ∧ MW cy M' h ad t i f) (mB D M sz) (mA M sz)) args s 0 0 (mA M sz)) (F0 m 136 ls []) := by
            intro   Mq H locs hP hD hS hW hg ls hl
            refine lv_aload_n hx hb dX6_inOrder_136 rfl (lv_at hl 0 rfl) ?_
            refine m_get (T := TX6) (N := 24) (ci := 7) (fs := (moF ad t i)) hx hb hwX6 hown hK hP hW.1 rfl 23 (by decide) (hts _ (List.mem_of_getElem? (i := 2) rfl)) (v := .ref (ad 23)) rfl dX6_inOrder_137 ?_
            refine lv_iload_n hx hb dX6_inOrder_140 rfl (lv_at hl 3 rfl) ?_
            refine n_iald (g := (va_up gq j (lon f s1 j))) (n := 8) (i := j) hx hb hK hP hg (by omega) (by omega) dX6_inOrder_141 ?_
            refine n_name (show (nI ((va_up gq j (lon f s1 j)) j)) = (nI (lon f s1 j)) from congrArg nI (va_up_self _ _ _)) ?_
            refine lv_iload_n hx hb dX6_inOrder_142 rfl (lv_at hl 2 rfl) ?_
            refine z_icmp_le (u := ((lon f s1 j : Nat) : Int)) (v := ((inOrdA f s1 j : Nat) : Int)) (tgt := 155) hx hb (nI_toInt (by omega)) (nI_toInt (by omega)) dX6_inOrder_143 (by decide) (fun c_143 => ?_) (fun c_143 => ?_)
            · refine lv_iload_n hx hb dX6_inOrder_155 rfl (lv_at hl 2 rfl) ?_
              refine lv_istore_n (lv' := [(2, .int (nI (inOrdA f s1 j))), (0, .ref h), (1, .int (nI s1)), (3, .int (nI j))]) hx hb dX6_inOrder_156 rfl hl (by decide) rfl (fun ls hl => ?_)
              refine n_iinc (x := j) (k := 1) (lv' := [(3, .int (nI (j + 1))), (2, .int (nI (inOrdA f s1 j))), (0, .ref h), (1, .int (nI s1))]) hx hb dX6_inOrder_157 rfl hl (q := 3) rfl (by decide) rfl (fun ls hl => ?_)
              refine lv_goto (tgt := 4) hx hb dX6_inOrder_160 (by decide) ?_
              have hl : lv_has ls 6 [(3, .int (nI (j + 1))), (2, .int (nI (inOrdA f s1 (j + 1)))), (0, .ref h), (1, .int (nI s1))] := by
                have heq0 : (.int (nI (inOrdA f s1 (j + 1))) : Value) = .int (nI (inOrdA f s1 j)) := congrArg Value.int (congrArg nI (by show (if _ then _ else _) = _; first | rw [if_pos (by omega)] | rw [if_neg (by omega)]))
                rw [heq0]
                exact hl
              exact ih4  (j + 1) (va_up gq j (lon f s1 j)) (by omega) (by omega) (fun x hx9 => row_next i4_1 x hx9) _ _ _ hP hD hS (hW) (hg) _ (lv_sub hl [2, 3, 1, 0] rfl)
            · refine lv_aload_n hx hb dX6_inOrder_146 rfl (lv_at hl 0 rfl) ?_
              refine m_get (T := TX6) (N := 24) (ci := 7) (fs := (moF ad t i)) hx hb hwX6 hown hK hP hW.1 rfl 23 (by decide) (hts _ (List.mem_of_getElem? (i := 2) rfl)) (v := .ref (ad 23)) rfl dX6_inOrder_147 ?_
              refine lv_iload_n hx hb dX6_inOrder_150 rfl (lv_at hl 3 rfl) ?_
              refine n_iald (g := (va_up gq j (lon f s1 j))) (n := 8) (i := j) hx hb hK hP hg (by omega) (by omega) dX6_inOrder_151 ?_
              refine n_name (show (nI ((va_up gq j (lon f s1 j)) j)) = (nI (lon f s1 j)) from congrArg nI (va_up_self _ _ _)) ?_
              refine lv_goto (tgt := 156) hx hb dX6_inOrder_152 (by decide) ?_
              refine lv_istore_n (lv' := [(2, .int (nI (lon f s1 j))), (0, .ref h), (1, .int (nI s1)), (3, .int (nI j))]) hx hb dX6_inOrder_156 rfl hl (by decide) rfl (fun ls hl => ?_)
              refine n_iinc (x := j) (k := 1) (lv' := [(3, .int (nI (j + 1))), (2, .int (nI (lon f s1 j))), (0, .ref h), (1, .int (nI s1))]) hx hb dX6_inOrder_157 rfl hl (q := 3) rfl (by decide) rfl (fun ls hl => ?_)
              refine lv_goto (tgt := 4) hx hb dX6_inOrder_160 (by decide) ?_
              have hl : lv_has ls 6 [(3, .int (nI (j + 1))), (2, .int (nI (inOrdA f s1 (j + 1)))), (0, .ref h), (1, .int (nI s1))] := by
                have heq0 : (.int (nI (inOrdA f s1 (j + 1))) : Value) = .int (nI (lon f s1 j)) := congrArg Value.int (congrArg nI (by show (if _ then _ else _) = _; first | rw [if_pos (by omega)] | rw [if_neg (by omega)]))
                rw [heq0]
                exact hl
              exact ih4  (j + 1) (va_up gq j (lon f s1 j)) (by omega) (by omega) (fun x hx9 => row_next i4_1 x hx9) _ _ _ hP hD hS (hW) (hg) _ (lv_sub hl [2, 3, 1, 0] rfl)
          refine lv_iconst (v := (nI 0)) hx hb dX6_inOrder_34 (by decide) ?_
          refine lv_istore (lv' := [(4, .int (nI 0)), (0, .ref h), (1, .int (nI s1)), (2, .int (nI (inOrdA f s1 j))), (3, .int (nI j))]) hx hb dX6_inOrder_35 hl (by decide) rfl (fun ls hl => ?_)
          have K37 : ∀ (n : Nat) (n1 : Nat), 8 - n1 < n → (n1 ≤ j) → ∀ (Mq : mM) (H : Heap) (locs : List Loc), pm D Mq H → mD (mA M sz) Mq → va_S (mA M sz) s.heap H locs → (MW cy Mq h ad t i f) → (Mq (ad 23) = some (eI cy 8 (va_up gq j (lonJ f s1 gq j n1)))) → ∀ (ls : Array Slot), lv_has ls 6 [(0, .ref h), (1, .int (nI s1)), (2, .int (nI (inOrdA f s1 j))), (3, .int (nI j)), (4, .int (nI n1))] → W p l e ({ frames := 3, cells := 0, slots := 0, locals := 70 } : Room) s m args below meth c H locs 0 0 (MQ below (va_Qi (fun r M' => r = nI (inOrd f s1) ∧ MW cy M' h ad t i f) (mB D M sz) (mA M sz)) args s 0 0 (mA M sz)) (F0 m 37 ls []) := by
            intro n
            induction n with
            | zero => intro n1 hn; exact absurd hn (by omega)
            | succ n ih37 =>
              intro n1 hn37 i37_0 Mq H locs hP hD hS hW hg ls hl
              have hjl := lonJ_le f s1 gq j n1 (fun x hx9 => hgl x (by omega))
              refine lv_iload hx hb dX6_inOrder_37 (lv_at hl 4 rfl) ?_
              refine lv_iload_n hx hb dX6_inOrder_39 rfl (lv_at hl 3 rfl) ?_
              refine z_icmp_ge (u := ((n1 : Nat) : Int)) (v := ((j : Nat) : Int)) (tgt := 136) hx hb (nI_toInt (by omega)) (nI_toInt (by omega)) dX6_inOrder_40 (by decide) (fun c_40 => ?_) (fun c_40 => ?_)
              · exact KJ136     _ _ _ hP hD hS (hW) (by have e9 : lonJ f s1 gq j n1 = lon f s1 j := (by first | exact (lonJ_zero (by omega) j).symm.trans (lonJ_lon i4_1) | (rw [show n1 = j by omega]; exact lonJ_lon i4_1)); rw [← e9]; exact hg) _ (lv_sub hl [0, 1, 2, 3] rfl)
              · refine lv_aload_n hx hb dX6_inOrder_43 rfl (lv_at hl 0 rfl) ?_
                refine m_get (T := TX6) (N := 24) (ci := 7) (fs := (moF ad t i)) hx hb hwX6 hown hK hP hW.1 rfl 23 (by decide) (hts _ (List.mem_of_getElem? (i := 2) rfl)) (v := .ref (ad 23)) rfl dX6_inOrder_44 ?_
                refine lv_iload_n hx hb dX6_inOrder_47 rfl (lv_at hl 3 rfl) ?_
                refine n_iald (g := (va_up gq j (lonJ f s1 gq j n1))) (n := 8) (i := j) hx hb hK hP hg (by omega) (by omega) dX6_inOrder_48 ?_
                refine n_name (show (nI ((va_up gq j (lonJ f s1 gq j n1)) j)) = (nI (lonJ f s1 gq j n1)) from congrArg nI (va_up_self _ _ _)) ?_
                refine z_if_le (u := ((lonJ f s1 gq j n1 : Nat) : Int)) (tgt := 136) hx hb (nI_toInt (by omega)) dX6_inOrder_49 (by decide) (fun c_49 => ?_) (fun c_49 => ?_)
                · exact KJ136     _ _ _ hP hD hS (hW) (by have e9 : lonJ f s1 gq j n1 = lon f s1 j := (by first | exact (lonJ_zero (by omega) j).symm.trans (lonJ_lon i4_1) | (rw [show n1 = j by omega]; exact lonJ_lon i4_1)); rw [← e9]; exact hg) _ (lv_sub hl [0, 1, 2, 3] rfl)
                · have hcn : cnts f s1 j = true := lonJ_pos (by omega : 0 < lonJ f s1 gq j n1)
                  have hgn := hgl n1 (by omega)
                  refine lv_aload_n hx hb dX6_inOrder_52 rfl (lv_at hl 0 rfl) ?_
                  refine m_get (T := TX6) (N := 24) (ci := 7) (fs := (moF ad t i)) hx hb hwX6 hown hK hP hW.1 rfl 23 (by decide) (hts _ (List.mem_of_getElem? (i := 2) rfl)) (v := .ref (ad 23)) rfl dX6_inOrder_53 ?_
                  refine lv_iload hx hb dX6_inOrder_56 (lv_at hl 4 rfl) ?_
                  refine n_iald (g := (va_up gq j (lonJ f s1 gq j n1))) (n := 8) (i := n1) hx hb hK hP hg (by omega) (by omega) dX6_inOrder_58 ?_
                  refine n_name (show (nI ((va_up gq j (lonJ f s1 gq j n1)) n1)) = (nI (gq n1)) from congrArg nI (va_up_ne _ _ (by omega))) ?_
                  refine z_if_le (u := ((gq n1 : Nat) : Int)) (tgt := 82) hx hb (nI_toInt (by omega)) dX6_inOrder_59 (by decide) (fun c_59 => ?_) (fun c_59 => ?_)
                  · refine lv_iconst (v := (nI 0)) hx hb dX6_inOrder_82 (by decide) ?_
                    refine lv_istore (lv' := [(5, .int (nI 0)), (0, .ref h), (1, .int (nI s1)), (2, .int (nI (inOrdA f s1 j))), (3, .int (nI j)), (4, .int (nI n1))]) hx hb dX6_inOrder_83 hl (by decide) rfl (fun ls hl => ?_)
                    refine lv_aload_n hx hb dX6_inOrder_85 rfl (lv_at hl 1 rfl) ?_
                    refine m_get (T := TX6) (N := 24) (ci := 7) (fs := (moF ad t i)) hx hb hwX6 hown hK hP hW.1 rfl 23 (by decide) (hts _ (List.mem_of_getElem? (i := 2) rfl)) (v := .ref (ad 23)) rfl dX6_inOrder_86 ?_
                    refine lv_iload_n hx hb dX6_inOrder_89 rfl (lv_at hl 4 rfl) ?_
                    refine lv_iload hx hb dX6_inOrder_90 (lv_at hl 0 rfl) ?_
                    refine k_if_eq_0 (tgt := 123) hx hb dX6_inOrder_92 (by decide) ?_
                    refine lv_aload_n hx hb dX6_inOrder_123 rfl (lv_at hl 1 rfl) ?_
                    refine m_get (T := TX6) (N := 24) (ci := 7) (fs := (moF ad t i)) hx hb hwX6 hown hK hP hW.1 rfl 23 (by decide) (hts _ (List.mem_of_getElem? (i := 2) rfl)) (v := .ref (ad 23)) rfl dX6_inOrder_124 ?_
                    refine lv_iload_n hx hb dX6_inOrder_127 rfl (lv_at hl 4 rfl) ?_
                    refine n_iald (g := (va_up gq j (lonJ f s1 gq j n1))) (n := 8) (i := j) hx hb hK hP hg (by omega) (by omega) dX6_inOrder_128 ?_
                    refine n_name (show (nI ((va_up gq j (lonJ f s1 gq j n1)) j)) = (nI (lonJ f s1 gq j n1)) from congrArg nI (va_up_self _ _ _)) ?_
                    refine n_iast (g := (va_up gq j (lonJ f s1 gq j n1))) (n := 8) (i := j) (v := lonJ f s1 gq j n1) hx hb hK hP hD hS hg (by omega) (by omega) dX6_inOrder_129 (fun H locs hP hD hS => ?_)
                    have hg := mset_self Mq (ad 23) (eI cy 8 (va_up (va_up gq j (lonJ f s1 gq j n1)) j (lonJ f s1 gq j n1)))
                    have hW := hW.set23 (va_up (va_up gq j (lonJ f s1 gq j n1)) j (lonJ f s1 gq j n1))
                    refine n_iinc (x := n1) (k := 1) (lv' := [(4, .int (nI (n1 + 1))), (5, .int (nI 0)), (0, .ref h), (1, .int (nI s1)), (2, .int (nI (inOrdA f s1 j))), (3, .int (nI j))]) hx hb dX6_inOrder_130 rfl hl (q := 5) rfl (by decide) rfl (fun ls hl => ?_)
                    refine lv_goto (tgt := 37) hx hb dX6_inOrder_133 (by decide) ?_
                    exact ih37  (n1 + 1) (by omega) (by omega) _ _ _ hP hD hS (hW) (hg.trans (congrArg (fun z => some (eI cy 8 z)) (by rw [bx_uu]; first | rw [lonJ_up hcn (by omega)] | rw [lonJ_same hcn (by omega)]))) _ (lv_sub hl [2, 3, 4, 5, 0] rfl)
                  · refine lv_aload_n hx hb dX6_inOrder_62 rfl (lv_at hl 0 rfl) ?_
                    refine lv_iload_n hx hb dX6_inOrder_63 rfl (lv_at hl 1 rfl) ?_
                    refine lv_iload hx hb dX6_inOrder_64 (lv_at hl 4 rfl) ?_
                    refine vp_callSi (W.runV (C := RX6) (As := [.int (nI s1), .int (nI n1)]) (rest := []) ⟨hx, hb, hml, hown, hts⟩ (c_X6_strokeOn l D cy _ h ad t i f nc s1 n1 hW hI (by omega) (by omega)) (cwV 2 hts gX6_inOrder_X6_strokeOn rfl rfl rfl (by decide +kernel) ⟨Nat.le_of_ble_eq_true rfl, Nat.le_of_ble_eq_true rfl⟩) (mPreV hK hP hW.1 (ci := 7) rfl) rfl rfl hl.1 rfl (lv_room (Nat.le_of_ble_eq_true rfl)) dX6_inOrder_66 ⟨Nat.le_of_ble_eq_true rfl, Nat.le_of_ble_eq_true rfl⟩) (fun r9 hr9 => ?_)
                    have hr9 : r9 = (zI (sOn f s1 n1)) := hr9
                    subst hr9
                    have bs_2 : -1 ≤ sOn f s1 n1 ∧ sOn f s1 n1 < 6 := sOn_bd hI _ _
                    refine lv_aload_n hx hb dX6_inOrder_69 rfl (lv_at hl 0 rfl) ?_
                    refine lv_iload_n hx hb dX6_inOrder_70 rfl (lv_at hl 1 rfl) ?_
                    refine lv_iload_n hx hb dX6_inOrder_71 rfl (lv_at hl 3 rfl) ?_
                    refine vp_callSi (W.runV (C := RX6) (As := [.int (nI s1), .int (nI j)]) (rest := [.int (zI (sOn f s1 n1))]) ⟨hx, hb, hml, hown, hts⟩ (c_X6_strokeOn l D cy _ h ad t i f nc s1 j hW hI (by omega) (by omega)) (cwV 2 hts gX6_inOrder_X6_strokeOn rfl rfl rfl (by decide +kernel) ⟨Nat.le_of_ble_eq_true rfl, Nat.le_of_ble_eq_true rfl⟩) (mPreV hK hP hW.1 (ci := 7) rfl) rfl rfl hl.1 rfl (lv_room (Nat.le_of_ble_eq_true rfl)) dX6_inOrder_72 ⟨Nat.le_of_ble_eq_true rfl, Nat.le_of_ble_eq_true rfl⟩) (fun r9 hr9 => ?_)
                    have hr9 : r9 = (zI (sOn f s1 j)) := hr9
                    subst hr9
                    have bs_3 : -1 ≤ sOn f s1 j ∧ sOn f s1 j < 6 := sOn_bd hI _ _
                    refine z_icmp_ge (u := (sOn f s1 n1)) (v := (sOn f s1 j)) (tgt := 82) hx hb (zI_toInt (by omega) (by omega)) (zI_toInt (by omega) (by omega)) dX6_inOrder_75 (by decide) (fun c_75 => ?_) (fun c_75 => ?_)
                    · refine lv_iconst (v := (nI 0)) hx hb dX6_inOrder_82 (by decide) ?_
                      refine lv_istore (lv' := [(5, .int (nI 0)), (0, .ref h), (1, .int (nI s1)), (2, .int (nI (inOrdA f s1 j))), (3, .int (nI j)), (4, .int (nI n1))]) hx hb dX6_inOrder_83 hl (by decide) rfl (fun ls hl => ?_)
                      refine lv_aload_n hx hb dX6_inOrder_85 rfl (lv_at hl 1 rfl) ?_
                      refine m_get (T := TX6) (N := 24) (ci := 7) (fs := (moF ad t i)) hx hb hwX6 hown hK hP hW.1 rfl 23 (by decide) (hts _ (List.mem_of_getElem? (i := 2) rfl)) (v := .ref (ad 23)) rfl dX6_inOrder_86 ?_
                      refine lv_iload_n hx hb dX6_inOrder_89 rfl (lv_at hl 4 rfl) ?_
                      refine lv_iload hx hb dX6_inOrder_90 (lv_at hl 0 rfl) ?_
                      refine k_if_eq_0 (tgt := 123) hx hb dX6_inOrder_92 (by decide) ?_
                      refine lv_aload_n hx hb dX6_inOrder_123 rfl (lv_at hl 1 rfl) ?_
                      refine m_get (T := TX6) (N := 24) (ci := 7) (fs := (moF ad t i)) hx hb hwX6 hown hK hP hW.1 rfl 23 (by decide) (hts _ (List.mem_of_getElem? (i := 2) rfl)) (v := .ref (ad 23)) rfl dX6_inOrder_124 ?_
                      refine lv_iload_n hx hb dX6_inOrder_127 rfl (lv_at hl 4 rfl) ?_
                      refine n_iald (g := (va_up gq j (lonJ f s1 gq j n1))) (n := 8) (i := j) hx hb hK hP hg (by omega) (by omega) dX6_inOrder_128 ?_
                      refine n_name (show (nI ((va_up gq j (lonJ f s1 gq j n1)) j)) = (nI (lonJ f s1 gq j n1)) from congrArg nI (va_up_self _ _ _)) ?_
                      refine n_iast (g := (va_up gq j (lonJ f s1 gq j n1))) (n := 8) (i := j) (v := lonJ f s1 gq j n1) hx hb hK hP hD hS hg (by omega) (by omega) dX6_inOrder_129 (fun H locs hP hD hS => ?_)
                      have hg := mset_self Mq (ad 23) (eI cy 8 (va_up (va_up gq j (lonJ f s1 gq j n1)) j (lonJ f s1 gq j n1)))
                      have hW := hW.set23 (va_up (va_up gq j (lonJ f s1 gq j n1)) j (lonJ f s1 gq j n1))
                      refine n_iinc (x := n1) (k := 1) (lv' := [(4, .int (nI (n1 + 1))), (5, .int (nI 0)), (0, .ref h), (1, .int (nI s1)), (2, .int (nI (inOrdA f s1 j))), (3, .int (nI j))]) hx hb dX6_inOrder_130 rfl hl (q := 5) rfl (by decide) rfl (fun ls hl => ?_)
                      refine lv_goto (tgt := 37) hx hb dX6_inOrder_133 (by decide) ?_
                      exact ih37  (n1 + 1) (by omega) (by omega) _ _ _ hP hD hS (hW) (hg.trans (congrArg (fun z => some (eI cy 8 z)) (by rw [bx_uu]; first | rw [lonJ_up hcn (by omega)] | rw [lonJ_same hcn (by omega)]))) _ (lv_sub hl [2, 3, 4, 5, 0] rfl)
                    · refine lv_iconst (v := (nI 1)) hx hb dX6_inOrder_78 (by decide) ?_
                      refine lv_goto (tgt := 83) hx hb dX6_inOrder_79 (by decide) ?_
                      refine lv_istore (lv' := [(5, .int (nI 1)), (0, .ref h), (1, .int (nI s1)), (2, .int (nI (inOrdA f s1 j))), (3, .int (nI j)), (4, .int (nI n1))]) hx hb dX6_inOrder_83 hl (by decide) rfl (fun ls hl => ?_)
                      refine lv_aload_n hx hb dX6_inOrder_85 rfl (lv_at hl 1 rfl) ?_
                      refine m_get (T := TX6) (N := 24) (ci := 7) (fs := (moF ad t i)) hx hb hwX6 hown hK hP hW.1 rfl 23 (by decide) (hts _ (List.mem_of_getElem? (i := 2) rfl)) (v := .ref (ad 23)) rfl dX6_inOrder_86 ?_
                      refine lv_iload_n hx hb dX6_inOrder_89 rfl (lv_at hl 4 rfl) ?_
                      refine lv_iload hx hb dX6_inOrder_90 (lv_at hl 0 rfl) ?_
                      refine k_if_eq_1 (tgt := 123) hx hb dX6_inOrder_92 (by decide) ?_
                      refine lv_aload_n hx hb dX6_inOrder_95 rfl (lv_at hl 1 rfl) ?_
                      refine m_get (T := TX6) (N := 24) (ci := 7) (fs := (moF ad t i)) hx hb hwX6 hown hK hP hW.1 rfl 23 (by decide) (hts _ (List.mem_of_getElem? (i := 2) rfl)) (v := .ref (ad 23)) rfl dX6_inOrder_96 ?_
                      refine lv_iload hx hb dX6_inOrder_99 (lv_at hl 5 rfl) ?_
                      refine n_iald (g := (va_up gq j (lonJ f s1 gq j n1))) (n := 8) (i := n1) hx hb hK hP hg (by omega) (by omega) dX6_inOrder_101 ?_
                      refine n_name (show (nI ((va_up gq j (lonJ f s1 gq j n1)) n1)) = (nI (gq n1)) from congrArg nI (va_up_ne _ _ (by omega))) ?_
                      refine lv_aload_n hx hb dX6_inOrder_102 rfl (lv_at hl 1 rfl) ?_
                      refine m_get (T := TX6) (N := 24) (ci := 7) (fs := (moF ad t i)) hx hb hwX6 hown hK hP hW.1 rfl 23 (by decide) (hts _ (List.mem_of_getElem? (i := 2) rfl)) (v := .ref (ad 23)) rfl dX6_inOrder_103 ?_
                      refine lv_iload_n hx hb dX6_inOrder_106 rfl (lv_at hl 4 rfl) ?_
                      refine n_iald (g := (va_up gq j (lonJ f s1 gq j n1))) (n := 8) (i := j) hx hb hK hP hg (by omega) (by omega) dX6_inOrder_107 ?_
                      refine n_name (show (nI ((va_up gq j (lonJ f s1 gq j n1)) j)) = (nI (lonJ f s1 gq j n1)) from congrArg nI (va_up_self _ _ _)) ?_
                      refine z_icmp_lt (u := ((gq n1 : Nat) : Int)) (v := ((lonJ f s1 gq j n1 : Nat) : Int)) (tgt := 123) hx hb (nI_toInt (by omega)) (nI_toInt (by omega)) dX6_inOrder_108 (by decide) (fun c_108 => ?_) (fun c_108 => ?_)
                      · refine lv_aload_n hx hb dX6_inOrder_123 rfl (lv_at hl 1 rfl) ?_
                        refine m_get (T := TX6) (N := 24) (ci := 7) (fs := (moF ad t i)) hx hb hwX6 hown hK hP hW.1 rfl 23 (by decide) (hts _ (List.mem_of_getElem? (i := 2) rfl)) (v := .ref (ad 23)) rfl dX6_inOrder_124 ?_
                        refine lv_iload_n hx hb dX6_inOrder_127 rfl (lv_at hl 4 rfl) ?_
                        refine n_iald (g := (va_up gq j (lonJ f s1 gq j n1))) (n := 8) (i := j) hx hb hK hP hg (by omega) (by omega) dX6_inOrder_128 ?_
                        refine n_name (show (nI ((va_up gq j (lonJ f s1 gq j n1)) j)) = (nI (lonJ f s1 gq j n1)) from congrArg nI (va_up_self _ _ _)) ?_
                        refine n_iast (g := (va_up gq j (lonJ f s1 gq j n1))) (n := 8) (i := j) (v := lonJ f s1 gq j n1) hx hb hK hP hD hS hg (by omega) (by omega) dX6_inOrder_129 (fun H locs hP hD hS => ?_)
                        have hg := mset_self Mq (ad 23) (eI cy 8 (va_up (va_up gq j (lonJ f s1 gq j n1)) j (lonJ f s1 gq j n1)))
                        have hW := hW.set23 (va_up (va_up gq j (lonJ f s1 gq j n1)) j (lonJ f s1 gq j n1))
                        refine n_iinc (x := n1) (k := 1) (lv' := [(4, .int (nI (n1 + 1))), (5, .int (nI 1)), (0, .ref h), (1, .int (nI s1)), (2, .int (nI (inOrdA f s1 j))), (3, .int (nI j))]) hx hb dX6_inOrder_130 rfl hl (q := 5) rfl (by decide) rfl (fun ls hl => ?_)
                        refine lv_goto (tgt := 37) hx hb dX6_inOrder_133 (by decide) ?_
                        exact ih37  (n1 + 1) (by omega) (by omega) _ _ _ hP hD hS (hW) (hg.trans (congrArg (fun z => some (eI cy 8 z)) (by rw [bx_uu]; first | rw [lonJ_up hcn (by omega)] | rw [lonJ_same hcn (by omega)]))) _ (lv_sub hl [2, 3, 4, 5, 0] rfl)
                      · refine lv_aload_n hx hb dX6_inOrder_111 rfl (lv_at hl 1 rfl) ?_
                        refine m_get (T := TX6) (N := 24) (ci := 7) (fs := (moF ad t i)) hx hb hwX6 hown hK hP hW.1 rfl 23 (by decide) (hts _ (List.mem_of_getElem? (i := 2) rfl)) (v := .ref (ad 23)) rfl dX6_inOrder_112 ?_
                        refine lv_iload hx hb dX6_inOrder_115 (lv_at hl 5 rfl) ?_
                        refine n_iald (g := (va_up gq j (lonJ f s1 gq j n1))) (n := 8) (i := n1) hx hb hK hP hg (by omega) (by omega) dX6_inOrder_117 ?_
                        refine n_name (show (nI ((va_up gq j (lonJ f s1 gq j n1)) n1)) = (nI (gq n1)) from congrArg nI (va_up_ne _ _ (by omega))) ?_
                        refine lv_iconst (v := (nI 1)) hx hb dX6_inOrder_118 (by decide) ?_
                        refine n_add (x := gq n1) (y := 1) hx hb dX6_inOrder_119 ?_
                        refine lv_goto (tgt := 129) hx hb dX6_inOrder_120 (by decide) ?_
                        refine n_iast (g := (va_up gq j (lonJ f s1 gq j n1))) (n := 8) (i := j) (v := (gq n1) + 1) hx hb hK hP hD hS hg (by omega) (by omega) dX6_inOrder_129 (fun H locs hP hD hS => ?_)
                        have hg := mset_self Mq (ad 23) (eI cy 8 (va_up (va_up gq j (lonJ f s1 gq j n1)) j ((gq n1) + 1)))
                        have hW := hW.set23 (va_up (va_up gq j (lonJ f s1 gq j n1)) j ((gq n1) + 1))
                        refine n_iinc (x := n1) (k := 1) (lv' := [(4, .int (nI (n1 + 1))), (5, .int (nI 1)), (0, .ref h), (1, .int (nI s1)), (2, .int (nI (inOrdA f s1 j))), (3, .int (nI j))]) hx hb dX6_inOrder_130 rfl hl (q := 5) rfl (by decide) rfl (fun ls hl => ?_)
                        refine lv_goto (tgt := 37) hx hb dX6_inOrder_133 (by decide) ?_
                        exact ih37  (n1 + 1) (by omega) (by omega) _ _ _ hP hD hS (hW) (hg.trans (congrArg (fun z => some (eI cy 8 z)) (by rw [bx_uu]; first | rw [lonJ_up hcn (by omega)] | rw [lonJ_same hcn (by omega)]))) _ (lv_sub hl [2, 3, 4, 5, 0] rfl)
          exact K37 (8 - 0 + 1) 0 (Nat.lt_succ_self _) (Nat.zero_le _) _ _ _ hP hD hS (hW) (by rw [lonJ_0]; exact hg) _ (lv_sub hl [1, 2, 3, 4, 0] rfl)
        refine lv_aload_n hx hb dX6_inOrder_14 rfl (lv_at hl 0 rfl) ?_
        refine m_get (T := TX6) (N := 24) (ci := 7) (fs := (moF ad t i)) hx hb hwX6 hown hK hP hW.1 rfl 23 (by decide) (hts _ (List.mem_of_getElem? (i := 2) rfl)) (v := .ref (ad 23)) rfl dX6_inOrder_15 ?_
        refine lv_iload_n hx hb dX6_inOrder_18 rfl (lv_at hl 3 rfl) ?_
        refine lv_aload_n hx hb dX6_inOrder_19 rfl (lv_at hl 0 rfl) ?_
        refine lv_iload_n hx hb dX6_inOrder_20 rfl (lv_at hl 1 rfl) ?_
        refine lv_iload_n hx hb dX6_inOrder_21 rfl (lv_at hl 3 rfl) ?_
        refine vp_callSi (W.runV (C := RX6) (As := [.int (nI s1), .int (nI j)]) (rest := [.int (nI j), .ref (ad 23)]) ⟨hx, hb, hml, hown, hts⟩ (c_X6_counts l D cy _ h ad t i f nc s1 j hW hI (by omega) (by omega)) (cwV 2 hts gX6_inOrder_X6_counts rfl rfl rfl (by decide +kernel) ⟨Nat.le_of_ble_eq_true rfl, Nat.le_of_ble_eq_true rfl⟩) (mPreV hK hP hW.1 (ci := 7) rfl) rfl rfl hl.1 rfl (lv_room (Nat.le_of_ble_eq_true rfl)) dX6_inOrder_22 ⟨Nat.le_of_ble_eq_true rfl, Nat.le_of_ble_eq_true rfl⟩) (fun r9 hr9 => ?_)
        have hr9 : r9 = (nI (b2 (cnts f s1 j))) := hr9
        subst hr9
        refine b_if_eq (b := cnts f s1 j) (tgt := 32) hx hb dX6_inOrder_25 (by decide) (fun c_25 => ?_) (fun c_25 => ?_)
        · refine lv_iconst (v := (nI 0)) hx hb dX6_inOrder_32 (by decide) ?_
          refine n_name (show (nI 0) = (nI (b2 (cnts f s1 j))) from (b2_f c_25).symm) ?_
          exact KJ33     _ _ _ hP hD hS (hW) (hg) _ (lv_sub hl [0, 1, 2, 3] rfl)
        · refine lv_iconst (v := (nI 1)) hx hb dX6_inOrder_28 (by decide) ?_
          refine lv_goto (tgt := 33) hx hb dX6_inOrder_29 (by decide) ?_
          refine n_name (show (nI 1) = (nI (b2 (cnts f s1 j))) from (b2_t c_25).symm) ?_
          exact KJ33     _ _ _ hP hD hS (hW) (hg) _ (lv_sub hl [0, 1, 2, 3] rfl)
  exact K4 (8 - 0 + 1) 0 g0 (Nat.lt_succ_self _) (Nat.zero_le _) (fun x h => absurd h (Nat.not_lt_zero x)) _ _ _ hP hD hS (hW) (hg) _ (lv_sub hl [2, 3, 1, 0] rfl)
