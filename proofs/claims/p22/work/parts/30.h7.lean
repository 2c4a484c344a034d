set_option maxRecDepth 100000 in
set_option maxHeartbeats 4000000 in
theorem c_X5_letter (l : Launch) (hst : l.stackTraces = false) (de mi : Nat) (D : va_G) (cy : Nat → ClassId) (M : mM) (sz : Nat) (B : Nat → Nat) (P : Nat → Option va_E) (cn : Nat → Nat) (x : Nat → Nat → Nat) (E : Nat → Nat → Option Nat) (nc : Nat)   (hH : hHolds M B P) (hSH : SH de cy B P cn x E) (hN : NB nc cn x)  : mVi l yX5_letter wsX5_letter ({ frames := 7, cells := 4, slots := 90, locals := 178 } : Room) de mi D cy M sz [.ref (B 0)] (fun r M' => ((1 ≤ cn 0 ∧ cn 0 ≤ 6) ∧ twA (x 2) (cn 0) (cn 0) = false ∧ cn 1 < 10) ∧ r = nI (cn 1) ∧ ∃ cap9, 10 ≤ cap9 ∧ cap9 ≤ 58 ∧ ∃ (B9 : Nat → Nat) (P9 : Nat → Option va_E) (E9 : Nat → Nat → Option Nat), hHolds M' B9 P9 ∧ SH de cy B9 P9 (va_up (va_up cn 1 (cn 1 + 1)) 0 0) (va_up (va_up (xLst x 6 cap9 (x 1 6 + 1)) 6 (va_up (x 6) (cn 1) (0 + cn 0))) (400 + cn 1) (cpA (fun _ => 0) 0 (x 2) (cn 0))) E9 ∧ B9 0 = B 0) (fun E9 => (E9 = "java/lang/IllegalStateException" ∧ ¬ ((1 ≤ cn 0 ∧ cn 0 ≤ 6) ∧ twA (x 2) (cn 0) (cn 0) = false ∧ cn 1 < 10))) 4 90 := by
  refine mV.of (cc := cX5_letter) (maxL := 2) (ret := (some .int)) (by decide) rfl (Nat.le_of_ble_eq_true rfl) ?_
  intro p e s m args below meth c ls hsz hx hb hr hts hown hlocks hml hout hname hP hD hS hA hK hX hl
  have hl : lv_has ls 2 [(0, .ref (B 0))] := hl
  have hown : s.vm.findClass RX5 = some m.cls := hown
  have hwX5 : ∀ w ∈ wsX50, w.before args s = true := fun w h => hts w (List.mem_cons_of_mem _ (List.mem_append_left _ (List.mem_append_left _ (List.mem_append_left _ (List.mem_append_right _ (h))))))
  have hwX4 : ∀ w ∈ wsX40, w.before args s = true := fun w h => hts w (List.mem_cons_of_mem _ (List.mem_append_left _ (List.mem_append_left _ (List.mem_append_right _ (h)))))
  have hwJx4a65c : ∀ w ∈ wsJx4a65c0, w.before args s = true := fun w h => hts w (List.mem_cons_of_mem _ (List.mem_append_left _ (List.mem_append_right _ (h))))
  obtain ⟨hnc9, hc0, hc1, hc2, hc3, hxm⟩ := id hN
  have p_B_0 : P 0 = some (.inr (6, [.ref (B 1), .ref (B 3), .ref (B 6), .ref (B 8), .ref (B 10), .ref (B 12)])) := hSH.1.1
  have f_B_0 : M (B 0) = some (.inr (6, [.ref (B 1), .ref (B 3), .ref (B 6), .ref (B 8), .ref (B 10), .ref (B 12)])) := hH.1 _ _ p_B_0
  have p_B_1 : P 1 = some (.inr (5, [.ref (B 2), .int (nI (cn 0))])) := hSH.1.2.1
  have f_B_1 : M (B 1) = some (.inr (5, [.ref (B 2), .int (nI (cn 0))])) := hH.1 _ _ p_B_1
  have n_B_0_B_1 : nEq (B 0) (B 1) := hH.ne p_B_0 p_B_1 (by omega)
  have p_B_2 : P 2 = some (eI cy 8 (x 2)) := hSH.1.2.2.1
  have f_B_2 : M (B 2) = some (eI cy 8 (x 2)) := hH.1 _ _ p_B_2
  have n_B_0_B_2 : nEq (B 0) (B 2) := hH.ne p_B_0 p_B_2 (by omega)
  have n_B_1_B_2 : nEq (B 1) (B 2) := hH.ne p_B_1 p_B_2 (by omega)
  have p_B_6 : P 6 = some (.inr (0, [.int (nI (x 1 6)), .ref (B 7), .int (nI (cn 1))])) := hSH.2.1.1
  have f_B_6 : M (B 6) = some (.inr (0, [.int (nI (x 1 6)), .ref (B 7), .int (nI (cn 1))])) := hH.1 _ _ p_B_6
  have n_B_0_B_6 : nEq (B 0) (B 6) := hH.ne p_B_0 p_B_6 (by omega)
  have n_B_1_B_6 : nEq (B 1) (B 6) := hH.ne p_B_1 p_B_6 (by omega)
  have n_B_2_B_6 : nEq (B 2) (B 6) := hH.ne p_B_2 p_B_6 (by omega)
  refine lv_aload_n hx hb dX5_letter_0 rfl (lv_at hl 0 rfl) ?_
  refine m_get (T := TX5) (N := 6) (ci := 6) (fs := [.ref (B 1), .ref (B 3), .ref (B 6), .ref (B 8), .ref (B 10), .ref (B 12)]) hx hb hwX5 hown hK hP f_B_0 rfl 0 (by decide) (hts _ (List.mem_of_getElem? (i := 3) rfl)) (v := .ref (B 1)) rfl dX5_letter_1 ?_
  refine vp_callSi (W.runV (C := RX4) (As := []) (rest := []) ⟨hx, hb, hml, hown, hts⟩ (c_X4_size l D cy _ (B 1) (B 2) (cn 0) (x 2) (f_B_1) (f_B_2)) (cwV 0 hts gX5_letter_X4_size rfl rfl rfl (by decide +kernel) ⟨Nat.le_of_ble_eq_true rfl, Nat.le_of_ble_eq_true rfl⟩) (mPreV hK hP f_B_1 (ci := 5) rfl) rfl rfl hl.1 rfl (lv_room (Nat.le_of_ble_eq_true rfl)) dX5_letter_4 ⟨Nat.le_of_ble_eq_true rfl, Nat.le_of_ble_eq_true rfl⟩) (fun r9 hr9 => ?_)
  have hr9 : r9 = (nI (cn 0)) := hr9
  subst hr9
  refine z_if_eq (u := ((cn 0 : Nat) : Int)) (tgt := 22) hx hb (nI_toInt (by omega)) dX5_letter_7 (by decide) (fun c_7 => ?_) (fun c_7 => ?_)
  · exact e_thS (text := "a letter has 1 to 6 strokes") hx hb hst hown (by decide) (hts _ (List.mem_of_getElem? (i := 1) rfl)) (hts _ (List.mem_of_getElem? (i := 2) rfl)) (fun w h => hts w (List.mem_cons_of_mem _ (List.mem_append_right _ (h)))) ng_S gd_S (by decide +kernel) hX hP hS (hl.1.trans hml.symm) dX5_letter_22 dX5_letter_25 dX5_letter_26 dX5_letter_28 dX5_letter_31 hout (Nat.le_of_ble_eq_true rfl) (Nat.le_of_ble_eq_true rfl) (Nat.le_of_ble_eq_true rfl) (Nat.le_of_ble_eq_true rfl) hlocks (⟨rfl, fun h8 => (by first | omega | (rw [h8.2.1] at c_39; cases c_39))⟩) (Nat.le_of_ble_eq_true rfl) (Nat.le_of_ble_eq_true rfl)
  · refine lv_aload_n hx hb dX5_letter_10 rfl (lv_at hl 0 rfl) ?_
    refine m_get (T := TX5) (N := 6) (ci := 6) (fs := [.ref (B 1), .ref (B 3), .ref (B 6), .ref (B 8), .ref (B 10), .ref (B 12)]) hx hb hwX5 hown hK hP f_B_0 rfl 0 (by decide) (hts _ (List.mem_of_getElem? (i := 3) rfl)) (v := .ref (B 1)) rfl dX5_letter_11 ?_
    refine vp_callSi (W.runV (C := RX4) (As := []) (rest := []) ⟨hx, hb, hml, hown, hts⟩ (c_X4_size l D cy _ (B 1) (B 2) (cn 0) (x 2) (f_B_1) (f_B_2)) (cwV 0 hts gX5_letter_X4_size rfl rfl rfl (by decide +kernel) ⟨Nat.le_of_ble_eq_true rfl, Nat.le_of_ble_eq_true rfl⟩) (mPreV hK hP f_B_1 (ci := 5) rfl) rfl rfl hl.1 rfl (lv_room (Nat.le_of_ble_eq_true rfl)) dX5_letter_14 ⟨Nat.le_of_ble_eq_true rfl, Nat.le_of_ble_eq_true rfl⟩) (fun r9 hr9 => ?_)
    have hr9 : r9 = (nI (cn 0)) := hr9
    subst hr9
    refine lv_bipush (v := (nI 6)) hx hb dX5_letter_17 (by decide) ?_
    refine z_icmp_le (u := ((cn 0 : Nat) : Int)) (v := ((6 : Nat) : Int)) (tgt := 32) hx hb (nI_toInt (by omega)) (nI_toInt (by omega)) dX5_letter_19 (by decide) (fun c_19 => ?_) (fun c_19 => ?_)
    · refine lv_aload_n hx hb dX5_letter_32 rfl (lv_at hl 0 rfl) ?_
      refine m_get (T := TX5) (N := 6) (ci := 6) (fs := [.ref (B 1), .ref (B 3), .ref (B 6), .ref (B 8), .ref (B 10), .ref (B 12)]) hx hb hwX5 hown hK hP f_B_0 rfl 0 (by decide) (hts _ (List.mem_of_getElem? (i := 3) rfl)) (v := .ref (B 1)) rfl dX5_letter_33 ?_
      refine vp_callSi (W.runV (C := RX4) (As := []) (rest := []) ⟨hx, hb, hml, hown, hts⟩ (c_X4_hasLineTwice l D cy _ (B 1) (B 2) (cn 0) (x 2) (f_B_1) (f_B_2) hc0 (fun j9 => hxm 2 j9)) (cwV 0 hts gX5_letter_X4_hasLineTwice rfl rfl rfl (by decide +kernel) ⟨Nat.le_of_ble_eq_true rfl, Nat.le_of_ble_eq_true rfl⟩) (mPreV hK hP f_B_1 (ci := 5) rfl) rfl rfl hl.1 rfl (lv_room (Nat.le_of_ble_eq_true rfl)) dX5_letter_36 ⟨Nat.le_of_ble_eq_true rfl, Nat.le_of_ble_eq_true rfl⟩) (fun r9 hr9 => ?_)
      have hr9 : r9 = (nI (b2 (twA (x 2) (cn 0) (cn 0)))) := hr9
      subst hr9
      refine b_if_eq (b := twA (x 2) (cn 0) (cn 0)) (tgt := 52) hx hb dX5_letter_39 (by decide) (fun c_39 => ?_) (fun c_39 => ?_)
      · refine lv_aload_n hx hb dX5_letter_52 rfl (lv_at hl 0 rfl) ?_
        refine m_get (T := TX5) (N := 6) (ci := 6) (fs := [.ref (B 1), .ref (B 3), .ref (B 6), .ref (B 8), .ref (B 10), .ref (B 12)]) hx hb hwX5 hown hK hP f_B_0 rfl 2 (by decide) (hts _ (List.mem_of_getElem? (i := 4) rfl)) (v := .ref (B 6)) rfl dX5_letter_53 ?_
        refine vp_callSi (W.runV (C := RJx4a65c) (As := []) (rest := []) ⟨hx, hb, hml, hown, hts⟩ (c_Jx4a65c_size_8abf5 l D cy _ (B 6) (cn 1) (x 1 6) (B 7) (f_B_6)) (cwV 0 hts gX5_letter_Jx4a65c_size_8abf5 rfl rfl rfl (by decide +kernel) ⟨Nat.le_of_ble_eq_true rfl, Nat.le_of_ble_eq_true rfl⟩) (mPreV hK hP f_B_6 (ci := 0) rfl) rfl rfl hl.1 rfl (lv_room (Nat.le_of_ble_eq_true rfl)) dX5_letter_56 ⟨Nat.le_of_ble_eq_true rfl, Nat.le_of_ble_eq_true rfl⟩) (fun r9 hr9 => ?_)
        have hr9 : r9 = (nI (cn 1)) := hr9
        subst hr9
        refine lv_bipush (v := (nI 10)) hx hb dX5_letter_59 (by decide) ?_
        refine z_icmp_lt (u := ((cn 1 : Nat) : Int)) (v := ((10 : Nat) : Int)) (tgt := 74) hx hb (nI_toInt (by omega)) (nI_toInt (by omega)) dX5_letter_61 (by decide) (fun c_61 => ?_) (fun c_61 => ?_)
        · refine m_new (T := TX4) (N := 2) (ci := 5) (fs := [.null, .int (nI 0)]) hx hb hwX4 tyX4 tyX4_ok hown (hts _ (List.mem_of_getElem? (i := 5) rfl)) (hts _ (List.mem_of_getElem? (i := 6) rfl)) (hts _ (List.mem_of_getElem? (i := 7) rfl)) hK hP hD hS hA rfl (fun j hj => by rcases (show j = 0 ∨ j = 1 by omega) with rfl | rfl <;> rfl) (Nat.le_of_ble_eq_true rfl) (Nat.le_of_ble_eq_true rfl) dX5_letter_74 (fun q_1 H hn_q_1 hq_q_1 hz_q_1 hP hD hS => ?_)
          have n_B_0_q_1 : nEq (B 0) q_1 := ne_none (f_B_0) hn_q_1
          have n_B_1_q_1 : nEq (B 1) q_1 := ne_none (f_B_1) hn_q_1
          have n_B_2_q_1 : nEq (B 2) q_1 := ne_none (f_B_2) hn_q_1
          have n_B_6_q_1 : nEq (B 6) q_1 := ne_none (f_B_6) hn_q_1
          have hP : pm D (mset M q_1 (.inr (5, [.null, .int (nI 0)]))) H := hP
          have hD : mD (mA M sz) (mset M q_1 (.inr (5, [.null, .int (nI 0)]))) := hD
          refine lv_dup hx hb dX5_letter_77 rfl ?_
          refine m_callv (va_runI (As := []) (rest := [.ref q_1]) ⟨hx, hb, hml, hown, hts⟩ (c_X4_init l D cy _ _ q_1 (mset_self _ _ _)) (cwI 0 hts gX5_letter_X4_init rfl rfl rfl (hts _ (List.mem_of_getElem? (i := 7) rfl)) (hts _ (List.mem_of_getElem? (i := 34) rfl)) (hts _ (List.mem_of_getElem? (i := 35) rfl)) rfl (by decide +kernel) ⟨Nat.le_of_ble_eq_true rfl, Nat.le_of_ble_eq_true rfl⟩) (mPreWS hK hP) rfl rfl hl.1 rfl (lv_room (Nat.le_of_ble_eq_true rfl)) dX5_letter_78 ⟨Nat.le_of_ble_eq_true rfl, Nat.le_of_ble_eq_true rfl⟩) hD hA hS (fun Mn H locs hq9 hP hD hS hz9 hd9 hk9 => ?_)
          obtain ⟨q_8, hn_q_8, hq9⟩ := hq9
          have n_B_0_q_8 : nEq (B 0) q_8 := ne_none ((mset_ne n_B_0_q_1).trans (f_B_0)) hn_q_8
          have n_B_1_q_8 : nEq (B 1) q_8 := ne_none ((mset_ne n_B_1_q_1).trans (f_B_1)) hn_q_8
          have n_B_2_q_8 : nEq (B 2) q_8 := ne_none ((mset_ne n_B_2_q_1).trans (f_B_2)) hn_q_8
          have n_B_6_q_8 : nEq (B 6) q_8 := ne_none ((mset_ne n_B_6_q_1).trans (f_B_6)) hn_q_8
          have n_q_1_q_8 : nEq q_1 q_8 := ne_none (mset_self _ _ _) hn_q_8
          have hq9 : Mn = (mset (mset (mset M q_1 (.inr (5, [.null, .int (nI 0)]))) q_8 (eI cy 8 (fun _ => 0))) q_1 (.inr (5, [.ref q_8, .int (nI 0)]))) := hq9
          subst hq9
          rw [mset_comm _ (.inr (5, [.null, .int (nI 0)])) (eI cy 8 (fun _ => 0)) (n_q_1_q_8), mset_mset _ q_1 (.inr (5, [.null, .int (nI 0)])) (.inr (5, [.ref q_8, .int (nI 0)]))] at hP hD
          refine lv_astore_n (lv' := [(1, .ref q_1), (0, .ref (B 0))]) hx hb dX5_letter_81 rfl hl (by decide) rfl (fun ls hl => ?_)
          refine lv_aload_n hx hb dX5_letter_82 rfl (lv_at hl 0 rfl) ?_
          refine lv_aload_n hx hb dX5_letter_83 rfl (lv_at hl 1 rfl) ?_
          refine m_get (T := TX5) (N := 6) (ci := 6) (fs := [.ref (B 1), .ref (B 3), .ref (B 6), .ref (B 8), .ref (B 10), .ref (B 12)]) hx hb hwX5 hown hK hP ((mset_ne n_B_0_q_1).trans ((mset_ne n_B_0_q_8).trans (f_B_0))) rfl 0 (by decide) (hts _ (List.mem_of_getElem? (i := 3) rfl)) (v := .ref (B 1)) rfl dX5_letter_84 ?_
          refine m_callv (va_runV (C := RX4) (As := [.ref (B 1)]) (rest := []) ⟨hx, hb, hml, hown, hts⟩ (c_X4_addAll l D cy _ _ q_1 q_8 0 (fun _ => 0) (B 1) (B 2) (cn 0) (x 2) (mset_self _ _ _) ((mset_ne (Ne.symm n_q_1_q_8)).trans (mset_self _ _ _)) ((mset_ne n_B_1_q_1).trans ((mset_ne n_B_1_q_8).trans (f_B_1))) ((mset_ne n_B_2_q_1).trans ((mset_ne n_B_2_q_8).trans (f_B_2))) (Ne.symm n_B_1_q_1) (Ne.symm n_B_2_q_8) (by omega) (fun j9 => hxm 2 j9)) (cwV 1 hts gX5_letter_X4_addAll rfl rfl rfl (by decide +kernel) ⟨Nat.le_of_ble_eq_true rfl, Nat.le_of_ble_eq_true rfl⟩) (mPreWV hK hP (mset_self _ _ _) (ci := 5) rfl) rfl rfl hl.1 rfl (lv_room (Nat.le_of_ble_eq_true rfl)) dX5_letter_87 ⟨Nat.le_of_ble_eq_true rfl, Nat.le_of_ble_eq_true rfl⟩) hD hA hS (fun Mn H locs hq9 hP hD hS hz9 hd9 hk9 => ?_)
          have hq9 : Mn = (mset (mset (mset (mset M q_8 (eI cy 8 (fun _ => 0))) q_1 (.inr (5, [.ref q_8, .int (nI 0)]))) q_8 (eI cy 8 (cpA (fun _ => 0) 0 (x 2) (cn 0)))) q_1 (.inr (5, [.ref q_8, .int (nI (0 + cn 0))]))) := hq9
          subst hq9
          rw [mset_comm _ (.inr (5, [.ref q_8, .int (nI 0)])) (eI cy 8 (cpA (fun _ => 0) 0 (x 2) (cn 0))) (n_q_1_q_8), mset_mset _ q_1 (.inr (5, [.ref q_8, .int (nI 0)])) (.inr (5, [.ref q_8, .int (nI (0 + cn 0))])), mset_mset _ q_8 (eI cy 8 (fun _ => 0)) (eI cy 8 (cpA (fun _ => 0) 0 (x 2) (cn 0)))] at hP hD
          refine lv_aload_n hx hb dX5_letter_90 rfl (lv_at hl 1 rfl) ?_
          refine m_get (T := TX5) (N := 6) (ci := 6) (fs := [.ref (B 1), .ref (B 3), .ref (B 6), .ref (B 8), .ref (B 10), .ref (B 12)]) hx hb hwX5 hown hK hP ((mset_ne n_B_0_q_1).trans ((mset_ne n_B_0_q_8).trans (f_B_0))) rfl 2 (by decide) (hts _ (List.mem_of_getElem? (i := 4) rfl)) (v := .ref (B 6)) rfl dX5_letter_91 ?_
          refine lv_aload_n hx hb dX5_letter_94 rfl (lv_at hl 0 rfl) ?_
          have hn8 : M q_8 = none := (none_of hn_q_8)
          have hcs8 := LI.add (M := M) (M1 := (mset (mset M q_8 (eI cy 8 (cpA (fun _ => 0) 0 (x 2) (cn 0)))) q_1 (.inr (5, [.ref q_8, .int (nI (0 + cn 0))])))) hSH.2.1 hH (fun a9 h9 => (mset_ne (fun z9 => h9 (by rw [z9]; exact hn_q_1))).trans (mset_ne (fun z9 => h9 (by rw [z9]; exact hn8)))) (by omega) (ci := 5) (fs := leF B x) (fun j hj => (hSH.2.2.2.2.1 j hj).1) (r := (RX4, TX4, 2)) rfl (C := "InkHall$Strokes") rfl (by decide)
          obtain ⟨hcs9, hel9, hnol9⟩ := hcs8
          have hde9 : (mset (mset M q_8 (eI cy 8 (cpA (fun _ => 0) 0 (x 2) (cn 0)))) q_1 (.inr (5, [.ref q_8, .int (nI (0 + cn 0))]))) de = none := (by cases hz8 : (mset (mset M q_8 (eI cy 8 (cpA (fun _ => 0) 0 (x 2) (cn 0)))) q_1 (.inr (5, [.ref q_8, .int (nI (0 + cn 0))]))) de with | none => rfl | some e8 => exact absurd (hD de (by rw [hz8]; exact fun z => by cases z)) hX.2.1.out)
          refine m_calli (va_runV (C := RJx4a65c) (As := [.ref q_1]) (rest := []) ⟨hx, hb, hml, hown, hts⟩ (c_listAdd l de mi D cy _ _ (B 6) (B 7) (cn 1) (x 1 6) (x 0 6) (E 6) q_1 5 [.ref q_8, .int (nI (0 + cn 0))] (RX4, TX4, 2) "InkHall$Strokes" ((mset_ne n_B_6_q_1).trans ((mset_ne n_B_6_q_8).trans (f_B_6))) (mset_self _ _ _) (Ne.symm n_B_6_q_1) rfl rfl (by decide) hcs9 hel9 hnol9) (cwV 1 hts gX5_letter_Jx4a65c_add_9ea2d rfl rfl rfl (by decide +kernel) ⟨Nat.le_of_ble_eq_true rfl, Nat.le_of_ble_eq_true rfl⟩) (mPreXV hX hD hS hA hK hP ((mset_ne n_B_6_q_1).trans ((mset_ne n_B_6_q_8).trans (f_B_6))) (ci := 0) rfl) rfl rfl hl.1 rfl (lv_room (Nat.le_of_ble_eq_true rfl)) dX5_letter_95 ⟨Nat.le_of_ble_eq_true rfl, Nat.le_of_ble_eq_true rfl⟩) hD hA hS (fun r9 Mn H locs hq9 hP hD hS hz9 hd9 hk9 => ?_)
          obtain ⟨hr9, el9, cap9, g9, hq9, hel8, hc10, hc58, hcn, hg9, hgn⟩ := hq9
          have hr9 : r9 = nI 1 := hr9
          subst hr9
          have hrw9 := LI.row hSH.2.1 hde9 hel8
          rw [hq9] at hP hD
          have n_B_0_el9 : nEq (B 0) el9 := (by rcases hrw9 with ⟨h8, h7⟩ | h8; (rw [h8]; exact fun z9 => absurd (hH.2 0 7 (p_ne p_B_0) h7 z9) (by decide)); exact ne_none (M := (mset (mset M q_8 (eI cy 8 (cpA (fun _ => 0) 0 (x 2) (cn 0)))) q_1 (.inr (5, [.ref q_8, .int (nI (0 + cn 0))])))) ((mset_ne n_B_0_q_1).trans ((mset_ne n_B_0_q_8).trans (f_B_0))) h8)
          have n_B_1_el9 : nEq (B 1) el9 := (by rcases hrw9 with ⟨h8, h7⟩ | h8; (rw [h8]; exact fun z9 => absurd (hH.2 1 7 (p_ne p_B_1) h7 z9) (by decide)); exact ne_none (M := (mset (mset M q_8 (eI cy 8 (cpA (fun _ => 0) 0 (x 2) (cn 0)))) q_1 (.inr (5, [.ref q_8, .int (nI (0 + cn 0))])))) ((mset_ne n_B_1_q_1).trans ((mset_ne n_B_1_q_8).trans (f_B_1))) h8)
          have n_B_2_el9 : nEq (B 2) el9 := (by rcases hrw9 with ⟨h8, h7⟩ | h8; (rw [h8]; exact fun z9 => absurd (hH.2 2 7 (p_ne p_B_2) h7 z9) (by decide)); exact ne_none (M := (mset (mset M q_8 (eI cy 8 (cpA (fun _ => 0) 0 (x 2) (cn 0)))) q_1 (.inr (5, [.ref q_8, .int (nI (0 + cn 0))])))) ((mset_ne n_B_2_q_1).trans ((mset_ne n_B_2_q_8).trans (f_B_2))) h8)
          refine lv_pop hx hb dX5_letter_98 rfl ?_
          refine lv_aload_n hx hb dX5_letter_99 rfl (lv_at hl 1 rfl) ?_
          refine m_get (T := TX5) (N := 6) (ci := 6) (fs := [.ref (B 1), .ref (B 3), .ref (B 6), .ref (B 8), .ref (B 10), .ref (B 12)]) hx hb hwX5 hown hK hP ((mset_ne n_B_0_B_6).trans ((mset_ne n_B_0_el9).trans ((mset_ne n_B_0_q_1).trans ((mset_ne n_B_0_q_8).trans (f_B_0))))) rfl 0 (by decide) (hts _ (List.mem_of_getElem? (i := 3) rfl)) (v := .ref (B 1)) rfl dX5_letter_100 ?_
          refine m_callv (va_runV (C := RX4) (As := []) (rest := []) ⟨hx, hb, hml, hown, hts⟩ (c_X4_clear l D cy _ _ (B 1) (B 2) (cn 0) (x 2) ((mset_ne n_B_1_B_6).trans ((mset_ne n_B_1_el9).trans ((mset_ne n_B_1_q_1).trans ((mset_ne n_B_1_q_8).trans (f_B_1))))) ((mset_ne n_B_2_B_6).trans ((mset_ne n_B_2_el9).trans ((mset_ne n_B_2_q_1).trans ((mset_ne n_B_2_q_8).trans (f_B_2)))))) (cwV 0 hts gX5_letter_X4_clear rfl rfl rfl (by decide +kernel) ⟨Nat.le_of_ble_eq_true rfl, Nat.le_of_ble_eq_true rfl⟩) (mPreWV hK hP ((mset_ne n_B_1_B_6).trans ((mset_ne n_B_1_el9).trans ((mset_ne n_B_1_q_1).trans ((mset_ne n_B_1_q_8).trans (f_B_1))))) (ci := 5) rfl) rfl rfl hl.1 rfl (lv_room (Nat.le_of_ble_eq_true rfl)) dX5_letter_103 ⟨Nat.le_of_ble_eq_true rfl, Nat.le_of_ble_eq_true rfl⟩) hD hA hS (fun Mn H locs hq9 hP hD hS hz9 hd9 hk9 => ?_)
          have hq9 : Mn = (mset (mset (mset (mset (mset M q_8 (eI cy 8 (cpA (fun _ => 0) 0 (x 2) (cn 0)))) q_1 (.inr (5, [.ref q_8, .int (nI (0 + cn 0))]))) el9 (eQ cy cap9 g9)) (B 6) (.inr (0, [.int (nI (x 1 6 + 1)), .ref el9, .int (nI (cn 1 + 1))]))) (B 1) (.inr (5, [.ref (B 2), .int (nI 0)]))) := hq9
          subst hq9
          refine lv_aload_n hx hb dX5_letter_106 rfl (lv_at hl 1 rfl) ?_
          refine m_get (T := TX5) (N := 6) (ci := 6) (fs := [.ref (B 1), .ref (B 3), .ref (B 6), .ref (B 8), .ref (B 10), .ref (B 12)]) hx hb hwX5 hown hK hP ((mset_ne n_B_0_B_1).trans ((mset_ne n_B_0_B_6).trans ((mset_ne n_B_0_el9).trans ((mset_ne n_B_0_q_1).trans ((mset_ne n_B_0_q_8).trans (f_B_0)))))) rfl 2 (by decide) (hts _ (List.mem_of_getElem? (i := 4) rfl)) (v := .ref (B 6)) rfl dX5_letter_107 ?_
          refine vp_callSi (W.runV (C := RJx4a65c) (As := []) (rest := []) ⟨hx, hb, hml, hown, hts⟩ (c_Jx4a65c_size_8abf5 l D cy _ (B 6) (cn 1 + 1) (x 1 6 + 1) el9 ((mset_ne (Ne.symm n_B_1_B_6)).trans (mset_self _ _ _))) (cwV 0 hts gX5_letter_Jx4a65c_size_8abf5 rfl rfl rfl (by decide +kernel) ⟨Nat.le_of_ble_eq_true rfl, Nat.le_of_ble_eq_true rfl⟩) (mPreV hK hP ((mset_ne (Ne.symm n_B_1_B_6)).trans (mset_self _ _ _)) (ci := 0) rfl) rfl rfl hl.1 rfl (lv_room (Nat.le_of_ble_eq_true rfl)) dX5_letter_110 ⟨Nat.le_of_ble_eq_true rfl, Nat.le_of_ble_eq_true rfl⟩) (fun r9 hr9 => ?_)
          have hr9 : r9 = (nI (cn 1 + 1)) := hr9
          subst hr9
          refine lv_iconst (v := (nI 1)) hx hb dX5_letter_113 (by decide) ?_
          refine n_sub (x := cn 1 + 1) (y := 1) hx hb (by omega) dX5_letter_114 ?_
          have hfin9 := ((((hH.move (21 + 2 * cn 1) q_8 (eI cy 8 (cpA (fun _ => 0) 0 (x 2) (cn 0))) hn8).move (20 + 2 * cn 1) q_1 (.inr (5, [.ref q_8, .int (nI (0 + cn 0))])) ((mset_ne n_q_1_q_8).trans hn_q_1)).row 7 el9 (eQ cy cap9 g9) (by rcases hrw9 with ⟨h8, h7⟩ | h8; exact Or.inl ⟨by rw [va_up_ne _ _ (by omega), va_up_ne _ _ (by omega)]; exact h8, by rw [va_up_ne _ _ (by omega), va_up_ne _ _ (by omega)]; exact h7⟩; exact Or.inr h8)).put 6 (.inr (0, [.int (nI (x 1 6 + 1)), .ref el9, .int (nI (cn 1 + 1))])) (by rw [va_up_ne _ _ (by omega), va_up_ne _ _ (by omega), va_up_ne _ _ (by omega)]; exact p_ne p_B_6)).put 1 (.inr (5, [.ref (B 2), .int (nI 0)])) (by rw [va_up_ne _ _ (by omega), va_up_ne _ _ (by omega), va_up_ne _ _ (by omega), va_up_ne _ _ (by omega)]; exact p_ne p_B_1)
          rw [show va_up (va_up (va_up B (21 + 2 * cn 1) q_8) (20 + 2 * cn 1) q_1) 7 el9 6 = B 6 from (by rw [va_up_ne _ _ (by omega), va_up_ne _ _ (by omega), va_up_ne _ _ (by omega)])] at hfin9
          rw [show (va_up (va_up (va_up B (21 + 2 * cn 1) q_8) (20 + 2 * cn 1) q_1) 7 el9) 1 = B 1 from (by rw [va_up_ne _ _ (by omega), va_up_ne _ _ (by omega), va_up_ne _ _ (by omega)])] at hfin9
          have hm9 := hSH.letter (by omega) hc2 q_1 q_8 el9 cap9 (0 + cn 0) (cpA (fun _ => 0) 0 (x 2) (cn 0)) g9 hc10 hc58 hcn hg9 hgn
          exact vx_ret (e_wi hx hb hr hlocks hP hD hS (⟨⟨by omega, c_39, by omega⟩, (congrArg nI (by omega)), cap9, hc10, hc58, _, _, _, hfin9, hm9, (by rw [va_up_ne _ _ (by omega), va_up_ne _ _ (by omega), va_up_ne _ _ (by omega)])⟩) dX5_letter_115)
        · exact e_thS (text := "there are all letters that there can be") hx hb hst hown (by decide) (hts _ (List.mem_of_getElem? (i := 1) rfl)) (hts _ (List.mem_of_getElem? (i := 2) rfl)) (fun w h => hts w (List.mem_cons_of_mem _ (List.mem_append_right _ (h)))) ng_S gd_S (by decide +kernel) hX hP hS (hl.1.trans hml.symm) dX5_letter_64 dX5_letter_67 dX5_letter_68 dX5_letter_70 dX5_letter_73 hout (Nat.le_of_ble_eq_true rfl) (Nat.le_of_ble_eq_true rfl) (Nat.le_of_ble_eq_true rfl) (Nat.le_of_ble_eq_true rfl) hlocks (⟨rfl, fun h8 => (by first | omega | (rw [h8.2.1] at c_39; cases c_39))⟩) (Nat.le_of_ble_eq_true rfl) (Nat.le_of_ble_eq_true rfl)
      · exact e_thS (text := "two strokes are on one line") hx hb hst hown (by decide) (hts _ (List.mem_of_getElem? (i := 1) rfl)) (hts _ (List.mem_of_getElem? (i := 2) rfl)) (fun w h => hts w (List.mem_cons_of_mem _ (List.mem_append_right _ (h)))) ng_S gd_S (by decide +kernel) hX hP hS (hl.1.trans hml.symm) dX5_letter_42 dX5_letter_45 dX5_letter_46 dX5_letter_48 dX5_letter_51 hout (Nat.le_of_ble_eq_true rfl) (Nat.le_of_ble_eq_true rfl) (Nat.le_of_ble_eq_true rfl) (Nat.le_of_ble_eq_true rfl) hlocks (⟨rfl, fun h8 => (by first | omega | (rw [h8.2.1] at c_39; cases c_39))⟩) (Nat.le_of_ble_eq_true rfl) (Nat.le_of_ble_eq_true rfl)
    · exact e_thS (text := "a letter has 1 to 6 strokes") hx hb hst hown (by decide) (hts _ (List.mem_of_getElem? (i := 1) rfl)) (hts _ (List.mem_of_getElem? (i := 2) rfl)) (fun w h => hts w (List.mem_cons_of_mem _ (List.mem_append_right _ (h)))) ng_S gd_S (by decide +kernel) hX hP hS (hl.1.trans hml.symm) dX5_letter_22 dX5_letter_25 dX5_letter_26 dX5_letter_28 dX5_letter_31 hout (Nat.le_of_ble_eq_true rfl) (Nat.le_of_ble_eq_true rfl) (Nat.le_of_ble_eq_true rfl) (Nat.le_of_ble_eq_true rfl) hlocks (⟨rfl, fun h8 => (by first | omega | (rw [h8.2.1] at c_39; cases c_39))⟩) (Nat.le_of_ble_eq_true rfl) (Nat.le_of_ble_eq_true rfl)
