set_option maxRecDepth 100000 in
set_option maxHeartbeats 4000000 in
/-- slipsOf(s, k) -/
theorem c_X6_slipsOf (l : Launch) (D : va_G) (cy : Nat → ClassId) (M : mM) (sz : Nat) (h : Nat) (ad : Nat → Nat) (t : Nat) (i : Nat → Nat) (f : Nat → Nat → Nat) (nc : Nat) (s1 k : Nat) (hW : MW cy M h ad t i f) (hI : MI nc i f) (hs : s1 < 40) (hk : k < 6) : mWi l yX6_slipsOf wsX6_slipsOf ({ frames := 4, cells := 0, slots := 0, locals := 95 } : Room) D cy M sz [.ref h, .int (nI s1), .int (nI k)] (fun r M' => r = zI (slipsK f s1 k) ∧ MW cy M' h ad t i f) 0 0 := by
  refine mW.of (cc := cX6_slipsOf) (maxL := 4) (ret := (some .int)) (by decide) rfl (Nat.le_of_ble_eq_true rfl) ?_
  intro p e s m args below meth c ls hsz hx hb hr hts hown hlocks hml hname hP hD hS hA hK hl
  have hl : lv_has ls 4 [(0, .ref h), (1, .int (nI s1)), (2, .int (nI k))] := hl
  have hown : s.vm.findClass RX6 = some m.cls := hown
  have hwX6 : ∀ w ∈ wsX60, w.before args s = true := fun w h => hts w (List.mem_cons_of_mem _ (List.mem_append_right _ (h)))
  refine lv_aload_n hx hb dX6_slipsOf_0 rfl (lv_at hl 0 rfl) ?_
  refine lv_iload_n hx hb dX6_slipsOf_1 rfl (lv_at hl 1 rfl) ?_
  refine vp_callSi (W.runV (C := RX6) (As := [.int (nI s1)]) (rest := []) ⟨hx, hb, hml, hown, hts⟩ (c_X6_counting l D cy _ h ad t i f nc s1 hW hI (by omega)) (cwV 1 hts gX6_slipsOf_X6_counting rfl rfl rfl (by decide +kernel) ⟨Nat.le_of_ble_eq_true rfl, Nat.le_of_ble_eq_true rfl⟩) (mPreV hK hP hW.1 (ci := 7) rfl) rfl rfl hl.1 rfl (lv_room (Nat.le_of_ble_eq_true rfl)) dX6_slipsOf_2 ⟨Nat.le_of_ble_eq_true rfl, Nat.le_of_ble_eq_true rfl⟩) (fun r9 hr9 => ?_)
  have hr9 : r9 = (nI (count f s1)) := hr9
  subst hr9
  have bs_1 : count f s1 ≤ 8 := count_le hI _
  refine lv_istore_n (lv' := [(3, .int (nI (count f s1))), (0, .ref h), (1, .int (nI s1)), (2, .int (nI k))]) hx hb dX6_slipsOf_5 rfl hl (by decide) rfl (fun ls hl => ?_)
  refine lv_iload_n hx hb dX6_slipsOf_6 rfl (lv_at hl 3 rfl) ?_
  rcases (show k = 0 ∨ k = 1 ∨ k = 2 ∨ k = 3 ∨ 4 ≤ k by omega) with hsw | hsw | hsw | hsw | hsw
  · refine lv_tableIn (off := 29) (tgt := 36) hx hb dX6_slipsOf_7 (by rw [nI_toInt (by omega)]; omega) (by rw [nI_toInt (by omega)]; omega) (by rw [hsw]; rfl) (by decide) ?_
    refine lv_aload_n hx hb dX6_slipsOf_36 rfl (lv_at hl 1 rfl) ?_
    refine m_get (T := TX6) (N := 24) (ci := 7) (fs := (moF ad t i)) hx hb hwX6 hown hK hP hW.1 rfl 4 (by decide) (hts _ (List.mem_of_getElem? (i := 1) rfl)) (v := .ref (ad 4)) rfl dX6_slipsOf_37 ?_
    refine lv_aload_n hx hb dX6_slipsOf_40 rfl (lv_at hl 1 rfl) ?_
    refine m_get (T := TX6) (N := 24) (ci := 7) (fs := (moF ad t i)) hx hb hwX6 hown hK hP hW.1 rfl 14 (by decide) (hts _ (List.mem_of_getElem? (i := 2) rfl)) (v := .ref (ad 14)) rfl dX6_slipsOf_41 ?_
    refine lv_iload_n hx hb dX6_slipsOf_44 rfl (lv_at hl 2 rfl) ?_
    have bd_2 : (f 14) s1 ≤ 9 := hI.2.2.2.2.2 14 s1
    refine n_iald (g := (f 14)) (n := 40) (i := s1) hx hb hK hP (hW.2.1 14 (by decide)) (by omega) (by omega) dX6_slipsOf_45 ?_
    have bd_3 : (f 4) ((f 14) s1) ≤ 6 := hI.2.2.2.2.2 4 ((f 14) s1)
    refine n_iald (g := (f 4)) (n := 10) (i := (f 14) s1) hx hb hK hP (hW.2.1 4 (by decide)) (by omega) (by omega) dX6_slipsOf_46 ?_
    refine lv_iload_n hx hb dX6_slipsOf_47 rfl (lv_at hl 0 rfl) ?_
    refine z_sub (u := (((f 4) ((f 14) s1) : Nat) : Int)) (v := ((count f s1 : Nat) : Int)) hx hb (nI_zI _) (nI_zI _) dX6_slipsOf_48 ?_
    exact e_wi hx hb hr hlocks hP hD hS (⟨(congrArg zI (by unfold slipsK; (repeat (first | rw [if_pos (by omega)] | rw [if_neg (by omega)])); (first | done | rfl | omega))), hW⟩) dX6_slipsOf_49
  · refine lv_tableIn (off := 43) (tgt := 50) hx hb dX6_slipsOf_7 (by rw [nI_toInt (by omega)]; omega) (by rw [nI_toInt (by omega)]; omega) (by rw [hsw]; rfl) (by decide) ?_
    refine lv_aload_n hx hb dX6_slipsOf_50 rfl (lv_at hl 1 rfl) ?_
    refine m_get (T := TX6) (N := 24) (ci := 7) (fs := (moF ad t i)) hx hb hwX6 hown hK hP hW.1 rfl 12 (by decide) (hts _ (List.mem_of_getElem? (i := 3) rfl)) (v := .ref (ad 12)) rfl dX6_slipsOf_51 ?_
    refine lv_iload_n hx hb dX6_slipsOf_54 rfl (lv_at hl 2 rfl) ?_
    have bd_4 : (f 12) s1 ≤ 8 := hI.2.2.2.2.2 12 s1
    refine n_iald (g := (f 12)) (n := 40) (i := s1) hx hb hK hP (hW.2.1 12 (by decide)) (by omega) (by omega) dX6_slipsOf_55 ?_
    refine lv_iload_n hx hb dX6_slipsOf_56 rfl (lv_at hl 0 rfl) ?_
    refine z_sub (u := (((f 12) s1 : Nat) : Int)) (v := ((count f s1 : Nat) : Int)) hx hb (nI_zI _) (nI_zI _) dX6_slipsOf_57 ?_
    exact e_wi hx hb hr hlocks hP hD hS (⟨(congrArg zI (by unfold slipsK; (repeat (first | rw [if_pos (by omega)] | rw [if_neg (by omega)])); (first | done | rfl | omega))), hW⟩) dX6_slipsOf_58
  · refine lv_tableIn (off := 52) (tgt := 59) hx hb dX6_slipsOf_7 (by rw [nI_toInt (by omega)]; omega) (by rw [nI_toInt (by omega)]; omega) (by rw [hsw]; rfl) (by decide) ?_
    refine lv_aload_n hx hb dX6_slipsOf_59 rfl (lv_at hl 1 rfl) ?_
    refine lv_iload_n hx hb dX6_slipsOf_60 rfl (lv_at hl 2 rfl) ?_
    refine vp_callSi (W.runV (C := RX6) (As := [.int (nI s1)]) (rest := []) ⟨hx, hb, hml, hown, hts⟩ (c_X6_turned l D cy _ h ad t i f nc s1 hW hI (by omega)) (cwV 1 hts gX6_slipsOf_X6_turned rfl rfl rfl (by decide +kernel) ⟨Nat.le_of_ble_eq_true rfl, Nat.le_of_ble_eq_true rfl⟩) (mPreV hK hP hW.1 (ci := 7) rfl) rfl rfl hl.1 rfl (lv_room (Nat.le_of_ble_eq_true rfl)) dX6_slipsOf_61 ⟨Nat.le_of_ble_eq_true rfl, Nat.le_of_ble_eq_true rfl⟩) (fun r9 hr9 => ?_)
    have hr9 : r9 = (nI (turn f s1)) := hr9
    subst hr9
    have bs_5 : turn f s1 ≤ 8 := turn_le hI _
    exact e_wi hx hb hr hlocks hP hD hS (⟨((nI_zI _).trans (congrArg zI (by unfold slipsK; (repeat (first | rw [if_pos (by omega)] | rw [if_neg (by omega)])); (first | done | rfl | omega)))), hW⟩) dX6_slipsOf_64
  · refine lv_tableIn (off := 58) (tgt := 65) hx hb dX6_slipsOf_7 (by rw [nI_toInt (by omega)]; omega) (by rw [nI_toInt (by omega)]; omega) (by rw [hsw]; rfl) (by decide) ?_
    refine lv_iload_n hx hb dX6_slipsOf_65 rfl (lv_at hl 0 rfl) ?_
    refine lv_aload_n hx hb dX6_slipsOf_66 rfl (lv_at hl 1 rfl) ?_
    refine lv_iload_n hx hb dX6_slipsOf_67 rfl (lv_at hl 2 rfl) ?_
    refine m_calli (va_runV (C := RX6) (As := [.int (nI s1)]) (rest := [.int (nI (count f s1))]) ⟨hx, hb, hml, hown, hts⟩ (c_X6_inOrder l D cy _ _ h ad t i f nc s1 hW hI (by omega)) (cwV 1 hts gX6_slipsOf_X6_inOrder rfl rfl rfl (by decide +kernel) ⟨Nat.le_of_ble_eq_true rfl, Nat.le_of_ble_eq_true rfl⟩) (mPreWV hK hP hW.1 (ci := 7) rfl) rfl rfl hl.1 rfl (lv_room (Nat.le_of_ble_eq_true rfl)) dX6_slipsOf_68 ⟨Nat.le_of_ble_eq_true rfl, Nat.le_of_ble_eq_true rfl⟩) hD hA hS (fun r9 Mn H locs hq9 hP hD hS hz9 hd9 hk9 => ?_)
    obtain ⟨hr9, hW⟩ := hq9
    have hr9 : r9 = (nI (inOrd f s1)) := hr9
    subst hr9
    have hW : MW cy Mn h ad t i f := hW
    have bs_6 : inOrd f s1 ≤ 8 := inOrd_le hI _
    refine z_sub (u := ((count f s1 : Nat) : Int)) (v := ((inOrd f s1 : Nat) : Int)) hx hb (nI_zI _) (nI_zI _) dX6_slipsOf_71 ?_
    exact e_wi hx hb hr hlocks hP hD hS (⟨(congrArg zI (by unfold slipsK; (repeat (first | rw [if_pos (by omega)] | rw [if_neg (by omega)])); (first | done | rfl | omega))), hW⟩) dX6_slipsOf_72
  · refine lv_tableOut (tgt := 73) hx hb dX6_slipsOf_7 (Or.inr (by rw [nI_toInt (by omega)]; omega)) (by decide) ?_
    refine lv_aload_n hx hb dX6_slipsOf_73 rfl (lv_at hl 1 rfl) ?_
    refine m_get (T := TX6) (N := 24) (ci := 7) (fs := (moF ad t i)) hx hb hwX6 hown hK hP hW.1 rfl 15 (by decide) (hts _ (List.mem_of_getElem? (i := 4) rfl)) (v := .ref (ad 15)) rfl dX6_slipsOf_74 ?_
    refine lv_iload_n hx hb dX6_slipsOf_77 rfl (lv_at hl 2 rfl) ?_
    have bd_7 : (f 15) s1 ≤ 1 := hI.2.2.2.2.2 15 s1
    refine n_zald (g := (f 15)) (n := 40) (i := s1) hx hb hK hP (hW.2.2.1 15 (by decide)) (by omega) (by omega) dX6_slipsOf_78 ?_
    refine z_if_eq (u := (((f 15) s1 : Nat) : Int)) (tgt := 86) hx hb (nI_toInt (by omega)) dX6_slipsOf_79 (by decide) (fun c_79 => ?_) (fun c_79 => ?_)
    · refine lv_iconst (v := (nI 0)) hx hb dX6_slipsOf_86 (by decide) ?_
      exact e_wi hx hb hr hlocks hP hD hS (⟨((nI_zI _).trans (congrArg zI (by unfold slipsK; (repeat (first | rw [if_pos (by omega)] | rw [if_neg (by omega)])); (first | done | rfl | omega)))), hW⟩) dX6_slipsOf_87
    · refine lv_iconst (v := (nI 1)) hx hb dX6_slipsOf_82 (by decide) ?_
      refine lv_goto (tgt := 87) hx hb dX6_slipsOf_83 (by decide) ?_
      exact e_wi hx hb hr hlocks hP hD hS (⟨((nI_zI _).trans (congrArg zI (by unfold slipsK; (repeat (first | rw [if_pos (by omega)] | rw [if_neg (by omega)])); (first | done | rfl | omega)))), hW⟩) dX6_slipsOf_87

set_option maxRecDepth 100000 in
set_option maxHeartbeats 4000000 in
/-- allSlips(s) -/
theorem c_X6_allSlips (l : Launch) (D : va_G) (cy : Nat → ClassId) (M : mM) (sz : Nat) (h : Nat) (ad : Nat → Nat) (t : Nat) (i : Nat → Nat) (f : Nat → Nat → Nat) (nc : Nat) (s1 : Nat) (hW : MW cy M h ad t i f) (hI : MI nc i f) (hs : s1 < 40) : mWi l yX6_allSlips wsX6_allSlips ({ frames := 5, cells := 0, slots := 0, locals := 118 } : Room) D cy M sz [.ref h, .int (nI s1)] (fun r M' => r = zI (allSlips f s1) ∧ MW cy M' h ad t i f) 0 0 := by
  refine mW.of (cc := cX6_allSlips) (maxL := 4) (ret := (some .int)) (by decide) rfl (Nat.le_of_ble_eq_true rfl) ?_
  intro p e s m args below meth c ls hsz hx hb hr hts hown hlocks hml hname hP hD hS hA hK hl
  have hl : lv_has ls 4 [(0, .ref h), (1, .int (nI s1))] := hl
  have hown : s.vm.findClass RX6 = some m.cls := hown
  have hwX6 : ∀ w ∈ wsX60, w.before args s = true := fun w h => hts w (List.mem_cons_of_mem _ (List.mem_append_right _ (h)))
  refine lv_iconst (v := (nI 0)) hx hb dX6_allSlips_0 (by decide) ?_
  refine lv_istore_n (lv' := [(2, .int (nI 0)), (0, .ref h), (1, .int (nI s1))]) hx hb dX6_allSlips_1 rfl hl (by decide) rfl (fun ls hl => ?_)
  refine lv_iconst (v := (nI 0)) hx hb dX6_allSlips_2 (by decide) ?_
  refine lv_istore_n (lv' := [(3, .int (nI 0)), (2, .int (nI 0)), (0, .ref h), (1, .int (nI s1))]) hx hb dX6_allSlips_3 rfl hl (by decide) rfl (fun ls hl => ?_)
  have K4 : ∀ (n : Nat) (j : Nat), 6 - j < n → (j ≤ 5) → ∀ (Mq : mM) (H : Heap) (locs : List Loc), pm D Mq H → mD (mA M sz) Mq → va_S (mA M sz) s.heap H locs → (MW cy Mq h ad t i f) → ∀ (ls : Array Slot), lv_has ls 4 [(0, .ref h), (1, .int (nI s1)), (2, .int (zI (allSlipsA f s1 j))), (3, .int (nI j))] → W p l e ({ frames := 5, cells := 0, slots := 0, locals := 118 } : Room) s m args below meth c H locs 0 0 (MQ below (va_Qi (fun r M' => r = zI (allSlips f s1) ∧ MW cy M' h ad t i f) (mB D M sz) (mA M sz)) args s 0 0 (mA M sz)) (F0 m 4 ls []) := by
    intro n
    induction n with
    | zero => intro j hn; exact absurd hn (by omega)
    | succ n ih4 =>
      intro j hn4 i4_0 Mq H locs hP hD hS hW ls hl
      have hle := allSlipsA_bd hI s1 j
      refine lv_iload_n hx hb dX6_allSlips_4 rfl (lv_at hl 3 rfl) ?_
      refine lv_iconst (v := (nI 4)) hx hb dX6_allSlips_5 (by decide) ?_
      refine z_icmp_gt (u := ((j : Nat) : Int)) (v := ((4 : Nat) : Int)) (tgt := 24) hx hb (nI_toInt (by omega)) (nI_toInt (by omega)) dX6_allSlips_6 (by decide) (fun c_6 => ?_) (fun c_6 => ?_)
      · refine lv_iload_n hx hb dX6_allSlips_24 rfl (lv_at hl 2 rfl) ?_
        exact e_wi hx hb hr hlocks hP hD hS (⟨(show zI (allSlipsA f s1 j) = zI (allSlips f s1) by unfold allSlips; rw [show (5 : Nat) = j by omega]), hW⟩) dX6_allSlips_25
      · refine lv_iload_n hx hb dX6_allSlips_9 rfl (lv_at hl 2 rfl) ?_
        refine lv_aload_n hx hb dX6_allSlips_10 rfl (lv_at hl 0 rfl) ?_
        refine lv_iload_n hx hb dX6_allSlips_11 rfl (lv_at hl 1 rfl) ?_
        refine lv_iload_n hx hb dX6_allSlips_12 rfl (lv_at hl 3 rfl) ?_
        refine m_calli (va_runV (C := RX6) (As := [.int (nI s1), .int (nI j)]) (rest := [.int (zI (allSlipsA f s1 j))]) ⟨hx, hb, hml, hown, hts⟩ (c_X6_slipsOf l D cy _ _ h ad t i f nc s1 j hW hI (by omega) (by omega)) (cwV 2 hts gX6_allSlips_X6_slipsOf rfl rfl rfl (by decide +kernel) ⟨Nat.le_of_ble_eq_true rfl, Nat.le_of_ble_eq_true rfl⟩) (mPreWV hK hP hW.1 (ci := 7) rfl) rfl rfl hl.1 rfl (lv_room (Nat.le_of_ble_eq_true rfl)) dX6_allSlips_13 ⟨Nat.le_of_ble_eq_true rfl, Nat.le_of_ble_eq_true rfl⟩) hD hA hS (fun r9 Mn H locs hq9 hP hD hS hz9 hd9 hk9 => ?_)
        obtain ⟨hr9, hW⟩ := hq9
        have hr9 : r9 = (zI (slipsK f s1 j)) := hr9
        subst hr9
        have hW : MW cy Mn h ad t i f := hW
        have bs_1 := slipsK_bd hI s1 j
        refine z_add (u := (allSlipsA f s1 j)) (v := (slipsK f s1 j)) hx hb (rfl) (rfl) dX6_allSlips_16 ?_
        refine lv_istore_n (lv' := [(2, .int (zI ((allSlipsA f s1 j) + (slipsK f s1 j)))), (0, .ref h), (1, .int (nI s1)), (3, .int (nI j))]) hx hb dX6_allSlips_17 rfl hl (by decide) rfl (fun ls hl => ?_)
        refine n_iinc (x := j) (k := 1) (lv' := [(3, .int (nI (j + 1))), (2, .int (zI ((allSlipsA f s1 j) + (slipsK f s1 j)))), (0, .ref h), (1, .int (nI s1))]) hx hb dX6_allSlips_18 rfl hl (q := 3) rfl (by decide) rfl (fun ls hl => ?_)
        refine lv_goto (tgt := 4) hx hb dX6_allSlips_21 (by decide) ?_
        exact ih4  (j + 1) (by omega) (by omega) _ _ _ hP hD hS (hW) _ (lv_sub hl [2, 3, 1, 0] rfl)
  have hl : lv_has ls 4 [(3, .int (nI 0)), (2, .int (zI (allSlipsA f s1 0))), (0, .ref h), (1, .int (nI s1))] := by
    have heq0 : (.int (zI (allSlipsA f s1 0)) : Value) = .int (nI 0) := congrArg Value.int (nI_zI 0).symm
    rw [heq0]
    exact hl
  exact K4 (6 - 0 + 1) 0 (Nat.lt_succ_self _) (Nat.zero_le _) _ _ _ hP hD hS (hW) _ (lv_sub hl [2, 3, 1, 0] rfl)

set_option maxRecDepth 100000 in
set_option maxHeartbeats 4000000 in
/-- lacking(s) -/
theorem c_X6_lacking (l : Launch) (D : va_G) (cy : Nat → ClassId) (M : mM) (h : Nat) (ad : Nat → Nat) (t : Nat) (i : Nat → Nat) (f : Nat → Nat → Nat) (nc : Nat) (s1 : Nat) (hW : MW cy M h ad t i f) (hI : MI nc i f) (hs : s1 < 40) : mR l yX6_lacking wsX6_lacking ({ frames := 0, cells := 0, slots := 0, locals := 0 } : Room) D cy M [.ref h, .int (nI s1)] (fun r => r = nI (lackS f s1)) := by
  refine mR.of (cc := cX6_lacking) (maxL := 4) (ret := (some .int)) (by decide) rfl (Nat.le_of_ble_eq_true rfl) ?_
  intro p e s m args below meth c ls hx hb hr hts hown hlocks hml hP hK hl
  have hl : lv_has ls 4 [(0, .ref h), (1, .int (nI s1))] := hl
  have hown : s.vm.findClass RX6 = some m.cls := hown
  have hwX6 : ∀ w ∈ wsX60, w.before args s = true := fun w h => hts w (List.mem_cons_of_mem _ (List.mem_append_right _ (h)))
  refine lv_aload_n hx hb dX6_lacking_0 rfl (lv_at hl 0 rfl) ?_
  refine m_get (T := TX6) (N := 24) (ci := 7) (fs := (moF ad t i)) hx hb hwX6 hown hK hP hW.1 rfl 18 (by decide) (hts _ (List.mem_of_getElem? (i := 1) rfl)) (v := .ref (ad 18)) rfl dX6_lacking_1 ?_
  refine lv_iload_n hx hb dX6_lacking_4 rfl (lv_at hl 1 rfl) ?_
  have bd_1 : (f 18) s1 ≤ 3 := hI.2.2.2.2.2 18 s1
  refine n_iald (g := (f 18)) (n := 40) (i := s1) hx hb hK hP (hW.2.1 18 (by decide)) (by omega) (by omega) dX6_lacking_5 ?_
  refine lv_istore_n (lv' := [(2, .int (nI ((f 18) s1))), (0, .ref h), (1, .int (nI s1))]) hx hb dX6_lacking_6 rfl hl (by decide) rfl (fun ls hl => ?_)
  refine lv_iload_n hx hb dX6_lacking_7 rfl (lv_at hl 0 rfl) ?_
  refine lv_iconst (v := (nI 2)) hx hb dX6_lacking_8 (by decide) ?_
  refine z_icmp_ge (u := (((f 18) s1 : Nat) : Int)) (v := ((2 : Nat) : Int)) (tgt := 16) hx hb (nI_toInt (by omega)) (nI_toInt (by omega)) dX6_lacking_9 (by decide) (fun c_9 => ?_) (fun c_9 => ?_)
  · refine lv_aload_n hx hb dX6_lacking_16 rfl (lv_at hl 1 rfl) ?_
    refine m_get (T := TX6) (N := 24) (ci := 7) (fs := (moF ad t i)) hx hb hwX6 hown hK hP hW.1 rfl 16 (by decide) (hts _ (List.mem_of_getElem? (i := 2) rfl)) (v := .ref (ad 16)) rfl dX6_lacking_17 ?_
    refine lv_iconst (v := (nI 3)) hx hb dX6_lacking_20 (by decide) ?_
    refine lv_iload_n hx hb dX6_lacking_21 rfl (lv_at hl 2 rfl) ?_
    refine n_mul (x := 3) (y := s1) hx hb dX6_lacking_22 ?_
    have bd_2 : (f 16) (3 * s1) ≤ 20 := hI.2.2.2.2.2 16 (3 * s1)
    refine n_iald (g := (f 16)) (n := 120) (i := 3 * s1) hx hb hK hP (hW.2.1 16 (by decide)) (by omega) (by omega) dX6_lacking_23 ?_
    refine lv_aload_n hx hb dX6_lacking_24 rfl (lv_at hl 1 rfl) ?_
    refine m_get (T := TX6) (N := 24) (ci := 7) (fs := (moF ad t i)) hx hb hwX6 hown hK hP hW.1 rfl 16 (by decide) (hts _ (List.mem_of_getElem? (i := 2) rfl)) (v := .ref (ad 16)) rfl dX6_lacking_25 ?_
    refine lv_iconst (v := (nI 3)) hx hb dX6_lacking_28 (by decide) ?_
    refine lv_iload_n hx hb dX6_lacking_29 rfl (lv_at hl 2 rfl) ?_
    refine n_mul (x := 3) (y := s1) hx hb dX6_lacking_30 ?_
    refine lv_iconst (v := (nI 1)) hx hb dX6_lacking_31 (by decide) ?_
    refine n_add (x := 3 * s1) (y := 1) hx hb dX6_lacking_32 ?_
    have bd_3 : (f 16) ((3 * s1) + 1) ≤ 20 := hI.2.2.2.2.2 16 ((3 * s1) + 1)
    refine n_iald (g := (f 16)) (n := 120) (i := (3 * s1) + 1) hx hb hK hP (hW.2.1 16 (by decide)) (by omega) (by omega) dX6_lacking_33 ?_
    refine z_sub (u := (((f 16) (3 * s1) : Nat) : Int)) (v := (((f 16) ((3 * s1) + 1) : Nat) : Int)) hx hb (nI_zI _) (nI_zI _) dX6_lacking_34 ?_
    refine lv_istore_n (lv' := [(3, .int (zI ((((f 16) (3 * s1) : Nat) : Int) - (((f 16) ((3 * s1) + 1) : Nat) : Int)))), (2, .int (nI ((f 18) s1))), (0, .ref h), (1, .int (nI s1))]) hx hb dX6_lacking_35 rfl hl (by decide) rfl (fun ls hl => ?_)
    refine lv_iload_n hx hb dX6_lacking_36 rfl (lv_at hl 1 rfl) ?_
    refine lv_iconst (v := (nI 2)) hx hb dX6_lacking_37 (by decide) ?_
    refine z_icmp_ne (u := (((f 18) s1 : Nat) : Int)) (v := ((2 : Nat) : Int)) (tgt := 56) hx hb (nI_toInt (by omega)) (nI_toInt (by omega)) dX6_lacking_38 (by decide) (fun c_38 => ?_) (fun c_38 => ?_)
    · refine lv_iconst (v := (nI 0)) hx hb dX6_lacking_56 (by decide) ?_
      exact e_ri hx hb hr hlocks ((congrArg nI (by unfold lackS; (repeat (first | rw [if_pos (by omega)] | rw [if_neg (by omega)])); (first | done | rfl | omega)))) dX6_lacking_57
    · refine lv_iload_n hx hb dX6_lacking_41 rfl (lv_at hl 0 rfl) ?_
      refine lv_iconst (v := (nI 3)) hx hb dX6_lacking_42 (by decide) ?_
      refine z_icmp_gt (u := ((((f 16) (3 * s1) : Nat) : Int) - (((f 16) ((3 * s1) + 1) : Nat) : Int))) (v := ((3 : Nat) : Int)) (tgt := 52) hx hb (zI_toInt (by omega) (by omega)) (nI_toInt (by omega)) dX6_lacking_43 (by decide) (fun c_43 => ?_) (fun c_43 => ?_)
      · refine lv_iconst (v := (nI 1)) hx hb dX6_lacking_52 (by decide) ?_
        refine lv_goto (tgt := 57) hx hb dX6_lacking_53 (by decide) ?_
        exact e_ri hx hb hr hlocks ((congrArg nI (by unfold lackS; (repeat (first | rw [if_pos (by omega)] | rw [if_neg (by omega)])); (first | done | rfl | omega)))) dX6_lacking_57
      · refine lv_iload_n hx hb dX6_lacking_46 rfl (lv_at hl 0 rfl) ?_
        refine lv_bipush (v := (zI (-3))) hx hb dX6_lacking_47 (by decide) ?_
        refine z_icmp_ge (u := ((((f 16) (3 * s1) : Nat) : Int) - (((f 16) ((3 * s1) + 1) : Nat) : Int))) (v := (-3)) (tgt := 56) hx hb (zI_toInt (by omega) (by omega)) (zI_toInt (by omega) (by omega)) dX6_lacking_49 (by decide) (fun c_49 => ?_) (fun c_49 => ?_)
        · refine lv_iconst (v := (nI 0)) hx hb dX6_lacking_56 (by decide) ?_
          exact e_ri hx hb hr hlocks ((congrArg nI (by unfold lackS; (repeat (first | rw [if_pos (by omega)] | rw [if_neg (by omega)])); (first | done | rfl | omega)))) dX6_lacking_57
        · refine lv_iconst (v := (nI 1)) hx hb dX6_lacking_52 (by decide) ?_
          refine lv_goto (tgt := 57) hx hb dX6_lacking_53 (by decide) ?_
          exact e_ri hx hb hr hlocks ((congrArg nI (by unfold lackS; (repeat (first | rw [if_pos (by omega)] | rw [if_neg (by omega)])); (first | done | rfl | omega)))) dX6_lacking_57
  · refine lv_iconst (v := (nI 2)) hx hb dX6_lacking_12 (by decide) ?_
    refine lv_iload_n hx hb dX6_lacking_13 rfl (lv_at hl 0 rfl) ?_
    refine n_sub (x := 2) (y := (f 18) s1) hx hb (by omega) dX6_lacking_14 ?_
    exact e_ri hx hb hr hlocks ((congrArg nI (by unfold lackS; (repeat (first | rw [if_pos (by omega)] | rw [if_neg (by omega)])); (first | done | rfl | omega)))) dX6_lacking_15

set_option maxRecDepth 100000 in
set_option maxHeartbeats 4000000 in
/-- gradeOf(s) -/
theorem c_X6_gradeOf (l : Launch) (D : va_G) (cy : Nat → ClassId) (M : mM) (h : Nat) (ad : Nat → Nat) (t : Nat) (i : Nat → Nat) (f : Nat → Nat → Nat) (nc : Nat) (s1 : Nat) (hW : MW cy M h ad t i f) (hI : MI nc i f) (hs : s1 < 40) : mR l yX6_gradeOf wsX6_gradeOf ({ frames := 1, cells := 0, slots := 0, locals := 23 } : Room) D cy M [.ref h, .int (nI s1)] (fun r => r = zI (gradeS f s1)) := by
  refine mR.of (cc := cX6_gradeOf) (maxL := 7) (ret := (some .int)) (by decide) rfl (Nat.le_of_ble_eq_true rfl) ?_
  intro p e s m args below meth c ls hx hb hr hts hown hlocks hml hP hK hl
  have hl : lv_has ls 7 [(0, .ref h), (1, .int (nI s1))] := hl
  have hown : s.vm.findClass RX6 = some m.cls := hown
  have hwX6 : ∀ w ∈ wsX60, w.before args s = true := fun w h => hts w (List.mem_cons_of_mem _ (List.mem_append_right _ (h)))
  refine lv_aload_n hx hb dX6_gradeOf_0 rfl (lv_at hl 0 rfl) ?_
  refine lv_iload_n hx hb dX6_gradeOf_1 rfl (lv_at hl 1 rfl) ?_
  refine vp_callSi (W.runV (C := RX6) (As := [.int (nI s1)]) (rest := []) ⟨hx, hb, hml, hown, hts⟩ (c_X6_lacking l D cy _ h ad t i f nc s1 hW hI (by omega)) (cwV 1 hts gX6_gradeOf_X6_lacking rfl rfl rfl (by decide +kernel) ⟨Nat.le_of_ble_eq_true rfl, Nat.le_of_ble_eq_true rfl⟩) (mPreV hK hP hW.1 (ci := 7) rfl) rfl rfl hl.1 rfl (lv_room (Nat.le_of_ble_eq_true rfl)) dX6_gradeOf_2 ⟨Nat.le_of_ble_eq_true rfl, Nat.le_of_ble_eq_true rfl⟩) (fun r9 hr9 => ?_)
  have hr9 : r9 = (nI (lackS f s1)) := hr9
  subst hr9
  have bs_1 : lackS f s1 ≤ 2 := lackS_le _ _
  refine z_if_le (u := ((lackS f s1 : Nat) : Int)) (tgt := 10) hx hb (nI_toInt (by omega)) dX6_gradeOf_5 (by decide) (fun c_5 => ?_) (fun c_5 => ?_)
  · refine lv_aload_n hx hb dX6_gradeOf_10 rfl (lv_at hl 0 rfl) ?_
    refine m_get (T := TX6) (N := 24) (ci := 7) (fs := (moF ad t i)) hx hb hwX6 hown hK hP hW.1 rfl 16 (by decide) (hts _ (List.mem_of_getElem? (i := 1) rfl)) (v := .ref (ad 16)) rfl dX6_gradeOf_11 ?_
    refine lv_iconst (v := (nI 3)) hx hb dX6_gradeOf_14 (by decide) ?_
    refine lv_iload_n hx hb dX6_gradeOf_15 rfl (lv_at hl 1 rfl) ?_
    refine n_mul (x := 3) (y := s1) hx hb dX6_gradeOf_16 ?_
    have bd_2 : (f 16) (3 * s1) ≤ 20 := hI.2.2.2.2.2 16 (3 * s1)
    refine n_iald (g := (f 16)) (n := 120) (i := 3 * s1) hx hb hK hP (hW.2.1 16 (by decide)) (by omega) (by omega) dX6_gradeOf_17 ?_
    refine lv_istore_n (lv' := [(2, .int (nI ((f 16) (3 * s1)))), (0, .ref h), (1, .int (nI s1))]) hx hb dX6_gradeOf_18 rfl hl (by decide) rfl (fun ls hl => ?_)
    refine lv_aload_n hx hb dX6_gradeOf_19 rfl (lv_at hl 1 rfl) ?_
    refine m_get (T := TX6) (N := 24) (ci := 7) (fs := (moF ad t i)) hx hb hwX6 hown hK hP hW.1 rfl 16 (by decide) (hts _ (List.mem_of_getElem? (i := 1) rfl)) (v := .ref (ad 16)) rfl dX6_gradeOf_20 ?_
    refine lv_iconst (v := (nI 3)) hx hb dX6_gradeOf_23 (by decide) ?_
    refine lv_iload_n hx hb dX6_gradeOf_24 rfl (lv_at hl 2 rfl) ?_
    refine n_mul (x := 3) (y := s1) hx hb dX6_gradeOf_25 ?_
    refine lv_iconst (v := (nI 1)) hx hb dX6_gradeOf_26 (by decide) ?_
    refine n_add (x := 3 * s1) (y := 1) hx hb dX6_gradeOf_27 ?_
    have bd_3 : (f 16) ((3 * s1) + 1) ≤ 20 := hI.2.2.2.2.2 16 ((3 * s1) + 1)
    refine n_iald (g := (f 16)) (n := 120) (i := (3 * s1) + 1) hx hb hK hP (hW.2.1 16 (by decide)) (by omega) (by omega) dX6_gradeOf_28 ?_
    refine lv_istore_n (lv' := [(3, .int (nI ((f 16) ((3 * s1) + 1)))), (2, .int (nI ((f 16) (3 * s1)))), (0, .ref h), (1, .int (nI s1))]) hx hb dX6_gradeOf_29 rfl hl (by decide) rfl (fun ls hl => ?_)
    refine lv_aload_n hx hb dX6_gradeOf_30 rfl (lv_at hl 2 rfl) ?_
    refine m_get (T := TX6) (N := 24) (ci := 7) (fs := (moF ad t i)) hx hb hwX6 hown hK hP hW.1 rfl 16 (by decide) (hts _ (List.mem_of_getElem? (i := 1) rfl)) (v := .ref (ad 16)) rfl dX6_gradeOf_31 ?_
    refine lv_iconst (v := (nI 3)) hx hb dX6_gradeOf_34 (by decide) ?_
    refine lv_iload_n hx hb dX6_gradeOf_35 rfl (lv_at hl 3 rfl) ?_
    refine n_mul (x := 3) (y := s1) hx hb dX6_gradeOf_36 ?_
    refine lv_iconst (v := (nI 2)) hx hb dX6_gradeOf_37 (by decide) ?_
    refine n_add (x := 3 * s1) (y := 2) hx hb dX6_gradeOf_38 ?_
    have bd_4 : (f 16) ((3 * s1) + 2) ≤ 20 := hI.2.2.2.2.2 16 ((3 * s1) + 2)
    refine n_iald (g := (f 16)) (n := 120) (i := (3 * s1) + 2) hx hb hK hP (hW.2.1 16 (by decide)) (by omega) (by omega) dX6_gradeOf_39 ?_
    refine lv_istore (lv' := [(4, .int (nI ((f 16) ((3 * s1) + 2)))), (3, .int (nI ((f 16) ((3 * s1) + 1)))), (2, .int (nI ((f 16) (3 * s1)))), (0, .ref h), (1, .int (nI s1))]) hx hb dX6_gradeOf_40 hl (by decide) rfl (fun ls hl => ?_)
    refine lv_aload_n hx hb dX6_gradeOf_42 rfl (lv_at hl 3 rfl) ?_
    refine m_get (T := TX6) (N := 24) (ci := 7) (fs := (moF ad t i)) hx hb hwX6 hown hK hP hW.1 rfl 18 (by decide) (hts _ (List.mem_of_getElem? (i := 2) rfl)) (v := .ref (ad 18)) rfl dX6_gradeOf_43 ?_
    refine lv_iload_n hx hb dX6_gradeOf_46 rfl (lv_at hl 4 rfl) ?_
    have bd_5 : (f 18) s1 ≤ 3 := hI.2.2.2.2.2 18 s1
    refine n_iald (g := (f 18)) (n := 40) (i := s1) hx hb hK hP (hW.2.1 18 (by decide)) (by omega) (by omega) dX6_gradeOf_47 ?_
    refine lv_iconst (v := (nI 2)) hx hb dX6_gradeOf_48 (by decide) ?_
    refine z_icmp_ne (u := (((f 18) s1 : Nat) : Int)) (v := ((2 : Nat) : Int)) (tgt := 58) hx hb (nI_toInt (by omega)) (nI_toInt (by omega)) dX6_gradeOf_49 (by decide) (fun c_49 => ?_) (fun c_49 => ?_)
    · refine lv_iload_n hx hb dX6_gradeOf_58 rfl (lv_at hl 2 rfl) ?_
      refine lv_iload_n hx hb dX6_gradeOf_59 rfl (lv_at hl 1 rfl) ?_
      refine z_icmp_ge (u := (((f 16) (3 * s1) : Nat) : Int)) (v := (((f 16) ((3 * s1) + 1) : Nat) : Int)) (tgt := 67) hx hb (nI_toInt (by omega)) (nI_toInt (by omega)) dX6_gradeOf_60 (by decide) (fun c_60 => ?_) (fun c_60 => ?_)
      · refine lv_iload_n hx hb dX6_gradeOf_67 rfl (lv_at hl 1 rfl) ?_
        refine lv_istore (lv' := [(5, .int (nI ((f 16) ((3 * s1) + 1)))), (4, .int (nI ((f 16) ((3 * s1) + 2)))), (3, .int (nI ((f 16) ((3 * s1) + 1)))), (2, .int (nI ((f 16) (3 * s1)))), (0, .ref h), (1, .int (nI s1))]) hx hb dX6_gradeOf_68 hl (by decide) rfl (fun ls hl => ?_)
        refine lv_iload_n hx hb dX6_gradeOf_70 rfl (lv_at hl 3 rfl) ?_
        refine lv_iload_n hx hb dX6_gradeOf_71 rfl (lv_at hl 2 rfl) ?_
        refine z_icmp_ge (u := (((f 16) (3 * s1) : Nat) : Int)) (v := (((f 16) ((3 * s1) + 1) : Nat) : Int)) (tgt := 79) hx hb (nI_toInt (by omega)) (nI_toInt (by omega)) dX6_gradeOf_72 (by decide) (fun c_72 => ?_) (fun c_72 => ?_)
        · refine lv_iload_n hx hb dX6_gradeOf_79 rfl (lv_at hl 3 rfl) ?_
          refine lv_istore (lv' := [(6, .int (nI ((f 16) (3 * s1)))), (5, .int (nI ((f 16) ((3 * s1) + 1)))), (4, .int (nI ((f 16) ((3 * s1) + 2)))), (3, .int (nI ((f 16) ((3 * s1) + 1)))), (2, .int (nI ((f 16) (3 * s1)))), (0, .ref h), (1, .int (nI s1))]) hx hb dX6_gradeOf_80 hl (by decide) rfl (fun ls hl => ?_)
          refine lv_iload hx hb dX6_gradeOf_82 (lv_at hl 2 rfl) ?_
          refine lv_iload hx hb dX6_gradeOf_84 (lv_at hl 1 rfl) ?_
          refine z_icmp_ge (u := (((f 16) ((3 * s1) + 2) : Nat) : Int)) (v := (((f 16) ((3 * s1) + 1) : Nat) : Int)) (tgt := 94) hx hb (nI_toInt (by omega)) (nI_toInt (by omega)) dX6_gradeOf_86 (by decide) (fun c_86 => ?_) (fun c_86 => ?_)
          · refine lv_iload hx hb dX6_gradeOf_94 (lv_at hl 2 rfl) ?_
            refine lv_iload hx hb dX6_gradeOf_96 (lv_at hl 0 rfl) ?_
            refine z_icmp_le (u := (((f 16) ((3 * s1) + 2) : Nat) : Int)) (v := (((f 16) (3 * s1) : Nat) : Int)) (tgt := 106) hx hb (nI_toInt (by omega)) (nI_toInt (by omega)) dX6_gradeOf_98 (by decide) (fun c_98 => ?_) (fun c_98 => ?_)
            · refine lv_iload hx hb dX6_gradeOf_106 (lv_at hl 2 rfl) ?_
              exact e_ri hx hb hr hlocks (((nI_zI _).trans (congrArg zI (by unfold gradeS; (repeat (first | rw [if_pos (by omega)] | rw [if_neg (by omega)])); (first | done | rfl | omega))))) dX6_gradeOf_108
            · refine lv_iload hx hb dX6_gradeOf_101 (lv_at hl 0 rfl) ?_
              refine lv_goto (tgt := 108) hx hb dX6_gradeOf_103 (by decide) ?_
              exact e_ri hx hb hr hlocks (((nI_zI _).trans (congrArg zI (by unfold gradeS; (repeat (first | rw [if_pos (by omega)] | rw [if_neg (by omega)])); (first | done | rfl | omega))))) dX6_gradeOf_108
          · refine lv_iload hx hb dX6_gradeOf_89 (lv_at hl 1 rfl) ?_
            refine lv_goto (tgt := 108) hx hb dX6_gradeOf_91 (by decide) ?_
            exact e_ri hx hb hr hlocks (((nI_zI _).trans (congrArg zI (by unfold gradeS; (repeat (first | rw [if_pos (by omega)] | rw [if_neg (by omega)])); (first | done | rfl | omega))))) dX6_gradeOf_108
        · refine lv_iload_n hx hb dX6_gradeOf_75 rfl (lv_at hl 2 rfl) ?_
          refine lv_goto (tgt := 80) hx hb dX6_gradeOf_76 (by decide) ?_
          refine lv_istore (lv' := [(6, .int (nI ((f 16) ((3 * s1) + 1)))), (5, .int (nI ((f 16) ((3 * s1) + 1)))), (4, .int (nI ((f 16) ((3 * s1) + 2)))), (3, .int (nI ((f 16) ((3 * s1) + 1)))), (2, .int (nI ((f 16) (3 * s1)))), (0, .ref h), (1, .int (nI s1))]) hx hb dX6_gradeOf_80 hl (by decide) rfl (fun ls hl => ?_)
          refine lv_iload hx hb dX6_gradeOf_82 (lv_at hl 2 rfl) ?_
          refine lv_iload hx hb dX6_gradeOf_84 (lv_at hl 1 rfl) ?_
          refine z_icmp_ge (u := (((f 16) ((3 * s1) + 2) : Nat) : Int)) (v := (((f 16) ((3 * s1) + 1) : Nat) : Int)) (tgt := 94) hx hb (nI_toInt (by omega)) (nI_toInt (by omega)) dX6_gradeOf_86 (by decide) (fun c_86 => ?_) (fun c_86 => ?_)
          · refine lv_iload hx hb dX6_gradeOf_94 (lv_at hl 2 rfl) ?_
            refine lv_iload hx hb dX6_gradeOf_96 (lv_at hl 0 rfl) ?_
            refine z_icmp_le (u := (((f 16) ((3 * s1) + 2) : Nat) : Int)) (v := (((f 16) ((3 * s1) + 1) : Nat) : Int)) (tgt := 106) hx hb (nI_toInt (by omega)) (nI_toInt (by omega)) dX6_gradeOf_98 (by decide) (fun c_98 => ?_) (fun c_98 => ?_)
            · refine lv_iload hx hb dX6_gradeOf_106 (lv_at hl 2 rfl) ?_
              exact e_ri hx hb hr hlocks (((nI_zI _).trans (congrArg zI (by unfold gradeS; (repeat (first | rw [if_pos (by omega)] | rw [if_neg (by omega)])); (first | done | rfl | omega))))) dX6_gradeOf_108
            · refine lv_iload hx hb dX6_gradeOf_101 (lv_at hl 0 rfl) ?_
              refine lv_goto (tgt := 108) hx hb dX6_gradeOf_103 (by decide) ?_
              exact e_ri hx hb hr hlocks (((nI_zI _).trans (congrArg zI (by unfold gradeS; (repeat (first | rw [if_pos (by omega)] | rw [if_neg (by omega)])); (first | done | rfl | omega))))) dX6_gradeOf_108
          · refine lv_iload hx hb dX6_gradeOf_89 (lv_at hl 1 rfl) ?_
            refine lv_goto (tgt := 108) hx hb dX6_gradeOf_91 (by decide) ?_
            exact e_ri hx hb hr hlocks (((nI_zI _).trans (congrArg zI (by unfold gradeS; (repeat (first | rw [if_pos (by omega)] | rw [if_neg (by omega)])); (first | done | rfl | omega))))) dX6_gradeOf_108
      · refine lv_iload_n hx hb dX6_gradeOf_63 rfl (lv_at hl 2 rfl) ?_
        refine lv_goto (tgt := 68) hx hb dX6_gradeOf_64 (by decide) ?_
        refine lv_istore (lv' := [(5, .int (nI ((f 16) (3 * s1)))), (4, .int (nI ((f 16) ((3 * s1) + 2)))), (3, .int (nI ((f 16) ((3 * s1) + 1)))), (2, .int (nI ((f 16) (3 * s1)))), (0, .ref h), (1, .int (nI s1))]) hx hb dX6_gradeOf_68 hl (by decide) rfl (fun ls hl => ?_)
        refine lv_iload_n hx hb dX6_gradeOf_70 rfl (lv_at hl 3 rfl) ?_
        refine lv_iload_n hx hb dX6_gradeOf_71 rfl (lv_at hl 2 rfl) ?_
        refine z_icmp_ge (u := (((f 16) (3 * s1) : Nat) : Int)) (v := (((f 16) ((3 * s1) + 1) : Nat) : Int)) (tgt := 79) hx hb (nI_toInt (by omega)) (nI_toInt (by omega)) dX6_gradeOf_72 (by decide) (fun c_72 => ?_) (fun c_72 => ?_)
        · refine lv_iload_n hx hb dX6_gradeOf_79 rfl (lv_at hl 3 rfl) ?_
          refine lv_istore (lv' := [(6, .int (nI ((f 16) (3 * s1)))), (5, .int (nI ((f 16) (3 * s1)))), (4, .int (nI ((f 16) ((3 * s1) + 2)))), (3, .int (nI ((f 16) ((3 * s1) + 1)))), (2, .int (nI ((f 16) (3 * s1)))), (0, .ref h), (1, .int (nI s1))]) hx hb dX6_gradeOf_80 hl (by decide) rfl (fun ls hl => ?_)
          refine lv_iload hx hb dX6_gradeOf_82 (lv_at hl 2 rfl) ?_
          refine lv_iload hx hb dX6_gradeOf_84 (lv_at hl 1 rfl) ?_
          refine z_icmp_ge (u := (((f 16) ((3 * s1) + 2) : Nat) : Int)) (v := (((f 16) (3 * s1) : Nat) : Int)) (tgt := 94) hx hb (nI_toInt (by omega)) (nI_toInt (by omega)) dX6_gradeOf_86 (by decide) (fun c_86 => ?_) (fun c_86 => ?_)
          · refine lv_iload hx hb dX6_gradeOf_94 (lv_at hl 2 rfl) ?_
            refine lv_iload hx hb dX6_gradeOf_96 (lv_at hl 0 rfl) ?_
            refine z_icmp_le (u := (((f 16) ((3 * s1) + 2) : Nat) : Int)) (v := (((f 16) (3 * s1) : Nat) : Int)) (tgt := 106) hx hb (nI_toInt (by omega)) (nI_toInt (by omega)) dX6_gradeOf_98 (by decide) (fun c_98 => ?_) (fun c_98 => ?_)
            · refine lv_iload hx hb dX6_gradeOf_106 (lv_at hl 2 rfl) ?_
              exact e_ri hx hb hr hlocks (((nI_zI _).trans (congrArg zI (by unfold gradeS; (repeat (first | rw [if_pos (by omega)] | rw [if_neg (by omega)])); (first | done | rfl | omega))))) dX6_gradeOf_108
            · refine lv_iload hx hb dX6_gradeOf_101 (lv_at hl 0 rfl) ?_
              refine lv_goto (tgt := 108) hx hb dX6_gradeOf_103 (by decide) ?_
              exact e_ri hx hb hr hlocks (((nI_zI _).trans (congrArg zI (by unfold gradeS; (repeat (first | rw [if_pos (by omega)] | rw [if_neg (by omega)])); (first | done | rfl | omega))))) dX6_gradeOf_108
          · refine lv_iload hx hb dX6_gradeOf_89 (lv_at hl 1 rfl) ?_
            refine lv_goto (tgt := 108) hx hb dX6_gradeOf_91 (by decide) ?_
            exact e_ri hx hb hr hlocks (((nI_zI _).trans (congrArg zI (by unfold gradeS; (repeat (first | rw [if_pos (by omega)] | rw [if_neg (by omega)])); (first | done | rfl | omega))))) dX6_gradeOf_108
        · refine lv_iload_n hx hb dX6_gradeOf_75 rfl (lv_at hl 2 rfl) ?_
          refine lv_goto (tgt := 80) hx hb dX6_gradeOf_76 (by decide) ?_
          refine lv_istore (lv' := [(6, .int (nI ((f 16) ((3 * s1) + 1)))), (5, .int (nI ((f 16) (3 * s1)))), (4, .int (nI ((f 16) ((3 * s1) + 2)))), (3, .int (nI ((f 16) ((3 * s1) + 1)))), (2, .int (nI ((f 16) (3 * s1)))), (0, .ref h), (1, .int (nI s1))]) hx hb dX6_gradeOf_80 hl (by decide) rfl (fun ls hl => ?_)
          refine lv_iload hx hb dX6_gradeOf_82 (lv_at hl 2 rfl) ?_
          refine lv_iload hx hb dX6_gradeOf_84 (lv_at hl 1 rfl) ?_
          refine z_icmp_ge (u := (((f 16) ((3 * s1) + 2) : Nat) : Int)) (v := (((f 16) (3 * s1) : Nat) : Int)) (tgt := 94) hx hb (nI_toInt (by omega)) (nI_toInt (by omega)) dX6_gradeOf_86 (by decide) (fun c_86 => ?_) (fun c_86 => ?_)
          · refine lv_iload hx hb dX6_gradeOf_94 (lv_at hl 2 rfl) ?_
            refine lv_iload hx hb dX6_gradeOf_96 (lv_at hl 0 rfl) ?_
            refine z_icmp_le (u := (((f 16) ((3 * s1) + 2) : Nat) : Int)) (v := (((f 16) ((3 * s1) + 1) : Nat) : Int)) (tgt := 106) hx hb (nI_toInt (by omega)) (nI_toInt (by omega)) dX6_gradeOf_98 (by decide) (fun c_98 => ?_) (fun c_98 => ?_)
            · refine lv_iload hx hb dX6_gradeOf_106 (lv_at hl 2 rfl) ?_
              exact e_ri hx hb hr hlocks (((nI_zI _).trans (congrArg zI (by unfold gradeS; (repeat (first | rw [if_pos (by omega)] | rw [if_neg (by omega)])); (first | done | rfl | omega))))) dX6_gradeOf_108
            · refine lv_iload hx hb dX6_gradeOf_101 (lv_at hl 0 rfl) ?_
              refine lv_goto (tgt := 108) hx hb dX6_gradeOf_103 (by decide) ?_
              exact e_ri hx hb hr hlocks (((nI_zI _).trans (congrArg zI (by unfold gradeS; (repeat (first | rw [if_pos (by omega)] | rw [if_neg (by omega)])); (first | done | rfl | omega))))) dX6_gradeOf_108
          · refine lv_iload hx hb dX6_gradeOf_89 (lv_at hl 1 rfl) ?_
            refine lv_goto (tgt := 108) hx hb dX6_gradeOf_91 (by decide) ?_
            exact e_ri hx hb hr hlocks (((nI_zI _).trans (congrArg zI (by unfold gradeS; (repeat (first | rw [if_pos (by omega)] | rw [if_neg (by omega)])); (first | done | rfl | omega))))) dX6_gradeOf_108
    · refine lv_iload_n hx hb dX6_gradeOf_52 rfl (lv_at hl 2 rfl) ?_
      refine lv_iload_n hx hb dX6_gradeOf_53 rfl (lv_at hl 1 rfl) ?_
      refine n_add (x := (f 16) (3 * s1)) (y := (f 16) ((3 * s1) + 1)) hx hb dX6_gradeOf_54 ?_
      refine lv_iconst (v := (nI 2)) hx hb dX6_gradeOf_55 (by decide) ?_
      refine n_div (x := ((f 16) (3 * s1)) + ((f 16) ((3 * s1) + 1))) (y := 2) hx hb (by omega) (by omega) (by omega) dX6_gradeOf_56 ?_
      exact e_ri hx hb hr hlocks (((nI_zI _).trans (congrArg zI (by unfold gradeS; (repeat (first | rw [if_pos (by omega)] | rw [if_neg (by omega)])); (first | done | rfl | omega))))) dX6_gradeOf_57
  · refine lv_iconst (v := (zI (-1))) hx hb dX6_gradeOf_8 (by decide) ?_
    exact e_ri hx hb hr hlocks ((congrArg zI (by unfold gradeS; (repeat (first | rw [if_pos (by omega)] | rw [if_neg (by omega)])); (first | done | rfl | omega)))) dX6_gradeOf_9

set_option maxRecDepth 100000 in
set_option maxHeartbeats 4000000 in
/-- hasMarked(a, s) -/
theorem c_X6_hasMarked (l : Launch) (D : va_G) (cy : Nat → ClassId) (M : mM) (h : Nat) (ad : Nat → Nat) (t : Nat) (i : Nat → Nat) (f : Nat → Nat → Nat) (nc : Nat) (a s1 : Nat) (hW : MW cy M h ad t i f) (hI : MI nc i f) (ha : a < 6) (hs : s1 < 40) : mR l yX6_hasMarked wsX6_hasMarked ({ frames := 0, cells := 0, slots := 0, locals := 0 } : Room) D cy M [.ref h, .int (nI a), .int (nI s1)] (fun r => r = nI (b2 (has f a s1))) := by
  refine mR.of (cc := cX6_hasMarked) (maxL := 5) (ret := (some .boolean)) (by decide) rfl (Nat.le_of_ble_eq_true rfl) ?_
  intro p e s m args below meth c ls hx hb hr hts hown hlocks hml hP hK hl
  have hl : lv_has ls 5 [(0, .ref h), (1, .int (nI a)), (2, .int (nI s1))] := hl
  have hown : s.vm.findClass RX6 = some m.cls := hown
  have hwX6 : ∀ w ∈ wsX60, w.before args s = true := fun w h => hts w (List.mem_cons_of_mem _ (List.mem_append_right _ (h)))
  refine lv_iconst (v := (nI 0)) hx hb dX6_hasMarked_0 (by decide) ?_
  refine lv_istore_n (lv' := [(3, .int (nI 0)), (0, .ref h), (1, .int (nI a)), (2, .int (nI s1))]) hx hb dX6_hasMarked_1 rfl hl (by decide) rfl (fun ls hl => ?_)
  refine lv_iconst (v := (nI 0)) hx hb dX6_hasMarked_2 (by decide) ?_
  refine lv_istore (lv' := [(4, .int (nI 0)), (3, .int (nI 0)), (0, .ref h), (1, .int (nI a)), (2, .int (nI s1))]) hx hb dX6_hasMarked_3 hl (by decide) rfl (fun ls hl => ?_)
  have K5 : ∀ (n : Nat) (j : Nat), 4 - j < n → (j ≤ f 18 s1) → ∀ (ls : Array Slot), lv_has ls 5 [(0, .ref h), (1, .int (nI a)), (2, .int (nI s1)), (3, .int (nI (b2 (hasA f a s1 j)))), (4, .int (nI j))] → W p l e ({ frames := 0, cells := 0, slots := 0, locals := 0 } : Room) s m args below meth c s.heap [] 0 0 (MQ below (vp_Si (fun r => r = nI (b2 (has f a s1)))) args s 0 0 (fun _ => False)) (F0 m 5 ls []) := by
    intro n
    induction n with
    | zero => intro j hn; exact absurd hn (by omega)
    | succ n ih5 =>
      intro j hn5 i5_0 ls hl
      refine lv_iload hx hb dX6_hasMarked_5 (lv_at hl 4 rfl) ?_
      refine lv_aload_n hx hb dX6_hasMarked_7 rfl (lv_at hl 0 rfl) ?_
      refine m_get (T := TX6) (N := 24) (ci := 7) (fs := (moF ad t i)) hx hb hwX6 hown hK hP hW.1 rfl 18 (by decide) (hts _ (List.mem_of_getElem? (i := 1) rfl)) (v := .ref (ad 18)) rfl dX6_hasMarked_8 ?_
      refine lv_iload_n hx hb dX6_hasMarked_11 rfl (lv_at hl 2 rfl) ?_
      have bd_1 : (f 18) s1 ≤ 3 := hI.2.2.2.2.2 18 s1
      refine n_iald (g := (f 18)) (n := 40) (i := s1) hx hb hK hP (hW.2.1 18 (by decide)) (by omega) (by omega) dX6_hasMarked_12 ?_
      refine z_icmp_ge (u := ((j : Nat) : Int)) (v := (((f 18) s1 : Nat) : Int)) (tgt := 47) hx hb (nI_toInt (by omega)) (nI_toInt (by omega)) dX6_hasMarked_13 (by decide) (fun c_13 => ?_) (fun c_13 => ?_)
      · refine lv_iload_n hx hb dX6_hasMarked_47 rfl (lv_at hl 3 rfl) ?_
        exact e_rz hx hb hr hlocks (by first | decide | exact b2_le _ | omega) ((show nI (b2 (hasA f a s1 j)) = nI (b2 (has f a s1)) by unfold has; rw [show f 18 s1 = j by omega])) dX6_hasMarked_48
      · refine lv_iload_n hx hb dX6_hasMarked_16 rfl (lv_at hl 3 rfl) ?_
        refine b_if_ne (b := hasA f a s1 j) (tgt := 35) hx hb dX6_hasMarked_17 (by decide) (fun c_17 => ?_) (fun c_17 => ?_)
        · refine lv_iconst (v := (nI 1)) hx hb dX6_hasMarked_35 (by decide) ?_
          refine lv_goto (tgt := 40) hx hb dX6_hasMarked_36 (by decide) ?_
          refine lv_istore_n (lv' := [(3, .int (nI 1)), (0, .ref h), (1, .int (nI a)), (2, .int (nI s1)), (4, .int (nI j))]) hx hb dX6_hasMarked_40 rfl hl (by decide) rfl (fun ls hl => ?_)
          refine n_iinc (x := j) (k := 1) (lv' := [(4, .int (nI (j + 1))), (3, .int (nI 1)), (0, .ref h), (1, .int (nI a)), (2, .int (nI s1))]) hx hb dX6_hasMarked_41 rfl hl (q := 4) rfl (by decide) rfl (fun ls hl => ?_)
          refine lv_goto (tgt := 5) hx hb dX6_hasMarked_44 (by decide) ?_
          have hl : lv_has ls 5 [(4, .int (nI (j + 1))), (3, .int (nI (b2 (hasA f a s1 (j + 1))))), (0, .ref h), (1, .int (nI a)), (2, .int (nI s1))] := by
            have heq0 : (.int (nI (b2 (hasA f a s1 (j + 1)))) : Value) = .int (nI 1) := congrArg Value.int (by first | (exact b2_t (by rw [hasA, c_17]; rfl)) | (exact b2_t (by rw [hasA, decide_eq_true (by omega)]; exact Bool.or_true _)) | (exact b2_f (by rw [hasA, c_17, decide_eq_false (by omega)]; rfl)))
            rw [heq0]
            exact hl
          exact ih5  (j + 1) (by omega) (by omega) _ (lv_sub hl [2, 3, 4, 1, 0] rfl)
        · refine lv_aload_n hx hb dX6_hasMarked_20 rfl (lv_at hl 0 rfl) ?_
          refine m_get (T := TX6) (N := 24) (ci := 7) (fs := (moF ad t i)) hx hb hwX6 hown hK hP hW.1 rfl 17 (by decide) (hts _ (List.mem_of_getElem? (i := 2) rfl)) (v := .ref (ad 17)) rfl dX6_hasMarked_21 ?_
          refine lv_iconst (v := (nI 3)) hx hb dX6_hasMarked_24 (by decide) ?_
          refine lv_iload_n hx hb dX6_hasMarked_25 rfl (lv_at hl 2 rfl) ?_
          refine n_mul (x := 3) (y := s1) hx hb dX6_hasMarked_26 ?_
          refine lv_iload hx hb dX6_hasMarked_27 (lv_at hl 4 rfl) ?_
          refine n_add (x := 3 * s1) (y := j) hx hb dX6_hasMarked_29 ?_
          have bd_2 : (f 17) ((3 * s1) + j) ≤ 5 := hI.2.2.2.2.2 17 ((3 * s1) + j)
          refine n_iald (g := (f 17)) (n := 120) (i := (3 * s1) + j) hx hb hK hP (hW.2.1 17 (by decide)) (by omega) (by omega) dX6_hasMarked_30 ?_
          refine lv_iload_n hx hb dX6_hasMarked_31 rfl (lv_at hl 1 rfl) ?_
          refine z_icmp_ne (u := (((f 17) ((3 * s1) + j) : Nat) : Int)) (v := ((a : Nat) : Int)) (tgt := 39) hx hb (nI_toInt (by omega)) (nI_toInt (by omega)) dX6_hasMarked_32 (by decide) (fun c_32 => ?_) (fun c_32 => ?_)
          · refine lv_iconst (v := (nI 0)) hx hb dX6_hasMarked_39 (by decide) ?_
            refine lv_istore_n (lv' := [(3, .int (nI 0)), (0, .ref h), (1, .int (nI a)), (2, .int (nI s1)), (4, .int (nI j))]) hx hb dX6_hasMarked_40 rfl hl (by decide) rfl (fun ls hl => ?_)
            refine n_iinc (x := j) (k := 1) (lv' := [(4, .int (nI (j + 1))), (3, .int (nI 0)), (0, .ref h), (1, .int (nI a)), (2, .int (nI s1))]) hx hb dX6_hasMarked_41 rfl hl (q := 4) rfl (by decide) rfl (fun ls hl => ?_)
            refine lv_goto (tgt := 5) hx hb dX6_hasMarked_44 (by decide) ?_
            have hl : lv_has ls 5 [(4, .int (nI (j + 1))), (3, .int (nI (b2 (hasA f a s1 (j + 1))))), (0, .ref h), (1, .int (nI a)), (2, .int (nI s1))] := by
              have heq0 : (.int (nI (b2 (hasA f a s1 (j + 1)))) : Value) = .int (nI 0) := congrArg Value.int (by first | (exact b2_t (by rw [hasA, c_17]; rfl)) | (exact b2_t (by rw [hasA, decide_eq_true (by omega)]; exact Bool.or_true _)) | (exact b2_f (by rw [hasA, c_17, decide_eq_false (by omega)]; rfl)))
              rw [heq0]
              exact hl
            exact ih5  (j + 1) (by omega) (by omega) _ (lv_sub hl [2, 3, 4, 1, 0] rfl)
          · refine lv_iconst (v := (nI 1)) hx hb dX6_hasMarked_35 (by decide) ?_
            refine lv_goto (tgt := 40) hx hb dX6_hasMarked_36 (by decide) ?_
            refine lv_istore_n (lv' := [(3, .int (nI 1)), (0, .ref h), (1, .int (nI a)), (2, .int (nI s1)), (4, .int (nI j))]) hx hb dX6_hasMarked_40 rfl hl (by decide) rfl (fun ls hl => ?_)
            refine n_iinc (x := j) (k := 1) (lv' := [(4, .int (nI (j + 1))), (3, .int (nI 1)), (0, .ref h), (1, .int (nI a)), (2, .int (nI s1))]) hx hb dX6_hasMarked_41 rfl hl (q := 4) rfl (by decide) rfl (fun ls hl => ?_)
            refine lv_goto (tgt := 5) hx hb dX6_hasMarked_44 (by decide) ?_
            have hl : lv_has ls 5 [(4, .int (nI (j + 1))), (3, .int (nI (b2 (hasA f a s1 (j + 1))))), (0, .ref h), (1, .int (nI a)), (2, .int (nI s1))] := by
              have heq0 : (.int (nI (b2 (hasA f a s1 (j + 1)))) : Value) = .int (nI 1) := congrArg Value.int (by first | (exact b2_t (by rw [hasA, c_17]; rfl)) | (exact b2_t (by rw [hasA, decide_eq_true (by omega)]; exact Bool.or_true _)) | (exact b2_f (by rw [hasA, c_17, decide_eq_false (by omega)]; rfl)))
              rw [heq0]
              exact hl
            exact ih5  (j + 1) (by omega) (by omega) _ (lv_sub hl [2, 3, 4, 1, 0] rfl)
  exact K5 (4 - 0 + 1) 0 (Nat.lt_succ_self _) (Nat.zero_le _) _ (lv_sub hl [2, 3, 4, 1, 0] rfl)

set_option maxRecDepth 100000 in
set_option maxHeartbeats 4000000 in
/-- pointsOf(s) -/
theorem c_X6_pointsOf (l : Launch) (D : va_G) (cy : Nat → ClassId) (M : mM) (h : Nat) (ad : Nat → Nat) (t : Nat) (i : Nat → Nat) (f : Nat → Nat → Nat) (nc : Nat) (s1 : Nat) (hW : MW cy M h ad t i f) (hI : MI nc i f) (hs : s1 < 40) : mR l yX6_pointsOf wsX6_pointsOf ({ frames := 0, cells := 0, slots := 0, locals := 0 } : Room) D cy M [.ref h, .int (nI s1)] (fun r => r = nI (pts f s1)) := by
  refine mR.of (cc := cX6_pointsOf) (maxL := 4) (ret := (some .int)) (by decide) rfl (Nat.le_of_ble_eq_true rfl) ?_
  intro p e s m args below meth c ls hx hb hr hts hown hlocks hml hP hK hl
  have hl : lv_has ls 4 [(0, .ref h), (1, .int (nI s1))] := hl
  have hown : s.vm.findClass RX6 = some m.cls := hown
  have hwX6 : ∀ w ∈ wsX60, w.before args s = true := fun w h => hts w (List.mem_cons_of_mem _ (List.mem_append_right _ (h)))
  refine lv_iconst (v := (nI 0)) hx hb dX6_pointsOf_0 (by decide) ?_
  refine lv_istore_n (lv' := [(2, .int (nI 0)), (0, .ref h), (1, .int (nI s1))]) hx hb dX6_pointsOf_1 rfl hl (by decide) rfl (fun ls hl => ?_)
  refine lv_iconst (v := (nI 0)) hx hb dX6_pointsOf_2 (by decide) ?_
  refine lv_istore_n (lv' := [(3, .int (nI 0)), (2, .int (nI 0)), (0, .ref h), (1, .int (nI s1))]) hx hb dX6_pointsOf_3 rfl hl (by decide) rfl (fun ls hl => ?_)
  have K4 : ∀ (n : Nat) (j : Nat), 5 - j < n → (j ≤ 4) → ∀ (ls : Array Slot), lv_has ls 4 [(0, .ref h), (1, .int (nI s1)), (2, .int (nI (ptsA f s1 j))), (3, .int (nI j))] → W p l e ({ frames := 0, cells := 0, slots := 0, locals := 0 } : Room) s m args below meth c s.heap [] 0 0 (MQ below (vp_Si (fun r => r = nI (pts f s1))) args s 0 0 (fun _ => False)) (F0 m 4 ls []) := by
    intro n
    induction n with
    | zero => intro j hn; exact absurd hn (by omega)
    | succ n ih4 =>
      intro j hn4 i4_0 ls hl
      have hle := ptsA_le hI s1 j
      refine lv_iload_n hx hb dX6_pointsOf_4 rfl (lv_at hl 3 rfl) ?_
      refine lv_iconst (v := (nI 4)) hx hb dX6_pointsOf_5 (by decide) ?_
      refine z_icmp_ge (u := ((j : Nat) : Int)) (v := ((4 : Nat) : Int)) (tgt := 28) hx hb (nI_toInt (by omega)) (nI_toInt (by omega)) dX6_pointsOf_6 (by decide) (fun c_6 => ?_) (fun c_6 => ?_)
      · refine lv_iload_n hx hb dX6_pointsOf_28 rfl (lv_at hl 2 rfl) ?_
        exact e_ri hx hb hr hlocks ((show nI (ptsA f s1 j) = nI (pts f s1) by unfold pts; rw [show (4 : Nat) = j by omega])) dX6_pointsOf_29
      · refine lv_iload_n hx hb dX6_pointsOf_9 rfl (lv_at hl 2 rfl) ?_
        refine lv_aload_n hx hb dX6_pointsOf_10 rfl (lv_at hl 0 rfl) ?_
        refine m_get (T := TX6) (N := 24) (ci := 7) (fs := (moF ad t i)) hx hb hwX6 hown hK hP hW.1 rfl 21 (by decide) (hts _ (List.mem_of_getElem? (i := 1) rfl)) (v := .ref (ad 21)) rfl dX6_pointsOf_11 ?_
        refine lv_iconst (v := (nI 4)) hx hb dX6_pointsOf_14 (by decide) ?_
        refine lv_iload_n hx hb dX6_pointsOf_15 rfl (lv_at hl 1 rfl) ?_
        refine n_mul (x := 4) (y := s1) hx hb dX6_pointsOf_16 ?_
        refine lv_iload_n hx hb dX6_pointsOf_17 rfl (lv_at hl 3 rfl) ?_
        refine n_add (x := 4 * s1) (y := j) hx hb dX6_pointsOf_18 ?_
        have bd_1 : (f 21) ((4 * s1) + j) ≤ 5 := hI.2.2.2.2.2 21 ((4 * s1) + j)
        refine n_iald (g := (f 21)) (n := 160) (i := (4 * s1) + j) hx hb hK hP (hW.2.1 21 (by decide)) (by omega) (by omega) dX6_pointsOf_19 ?_
        refine n_add (x := ptsA f s1 j) (y := (f 21) ((4 * s1) + j)) hx hb dX6_pointsOf_20 ?_
        refine lv_istore_n (lv' := [(2, .int (nI ((ptsA f s1 j) + ((f 21) ((4 * s1) + j))))), (0, .ref h), (1, .int (nI s1)), (3, .int (nI j))]) hx hb dX6_pointsOf_21 rfl hl (by decide) rfl (fun ls hl => ?_)
        refine n_iinc (x := j) (k := 1) (lv' := [(3, .int (nI (j + 1))), (2, .int (nI ((ptsA f s1 j) + ((f 21) ((4 * s1) + j))))), (0, .ref h), (1, .int (nI s1))]) hx hb dX6_pointsOf_22 rfl hl (q := 3) rfl (by decide) rfl (fun ls hl => ?_)
        refine lv_goto (tgt := 4) hx hb dX6_pointsOf_25 (by decide) ?_
        exact ih4  (j + 1) (by omega) (by omega) _ (lv_sub hl [2, 3, 1, 0] rfl)
  exact K4 (5 - 0 + 1) 0 (Nat.lt_succ_self _) (Nat.zero_le _) _ (lv_sub hl [2, 3, 1, 0] rfl)

set_option maxRecDepth 100000 in
set_option maxHeartbeats 4000000 in
/-- dropsMarks(a, s) -/
theorem c_X6_dropsMarks (l : Launch) (D : va_G) (cy : Nat → ClassId) (M : mM) (sz : Nat) (h : Nat) (ad : Nat → Nat) (t : Nat) (i : Nat → Nat) (f : Nat → Nat → Nat) (nc : Nat) (a s1 : Nat) (hW : MW cy M h ad t i f) (hI : MI nc i f) (hs : s1 < 40) (ha : a < 6) : mWv l yX6_dropsMarks wsX6_dropsMarks ({ frames := 0, cells := 0, slots := 0, locals := 0 } : Room) D cy M sz [.ref h, .int (nI a), .int (nI s1)] (fun M' => MW cy M' h ad t i (dropF f a s1)) 0 0 := by
  refine mW.of (cc := cX6_dropsMarks) (maxL := 6) (ret := none) (by decide) rfl (Nat.le_of_ble_eq_true rfl) ?_
  intro p e s m args below meth c ls hsz hx hb hr hts hown hlocks hml hname hP hD hS hA hK hl
  have hl : lv_has ls 6 [(0, .ref h), (1, .int (nI a)), (2, .int (nI s1))] := hl
  have hown : s.vm.findClass RX6 = some m.cls := hown
  have hwX6 : ∀ w ∈ wsX60, w.before args s = true := fun w h => hts w (List.mem_cons_of_mem _ (List.mem_append_right _ (h)))
  refine lv_iconst (v := (nI 0)) hx hb dX6_dropsMarks_0 (by decide) ?_
  refine lv_istore_n (lv' := [(3, .int (nI 0)), (0, .ref h), (1, .int (nI a)), (2, .int (nI s1))]) hx hb dX6_dropsMarks_1 rfl hl (by decide) rfl (fun ls hl => ?_)
  refine lv_iconst (v := (nI 0)) hx hb dX6_dropsMarks_2 (by decide) ?_
  refine lv_istore (lv' := [(4, .int (nI 0)), (3, .int (nI 0)), (0, .ref h), (1, .int (nI a)), (2, .int (nI s1))]) hx hb dX6_dropsMarks_3 hl (by decide) rfl (fun ls hl => ?_)
  have K5 : ∀ (n : Nat) (j : Nat), 4 - j < n → (j ≤ f 18 s1) → ∀ (Mq : mM) (H : Heap) (locs : List Loc), pm D Mq H → mD (mA M sz) Mq → va_S (mA M sz) s.heap H locs → (MW cy Mq h ad t i (dropM f a s1 j)) → ∀ (ls : Array Slot), lv_has ls 6 [(0, .ref h), (1, .int (nI a)), (2, .int (nI s1)), (3, .int (nI ((dropA f a s1 j).1))), (4, .int (nI j))] → W p l e ({ frames := 0, cells := 0, slots := 0, locals := 0 } : Room) s m args below meth c H locs 0 0 (MQ below (va_Qv (fun M' => MW cy M' h ad t i (dropF f a s1)) (mB D M sz) (mA M sz)) args s 0 0 (mA M sz)) (F0 m 5 ls []) := by
    intro n
    induction n with
    | zero => intro j hn; exact absurd hn (by omega)
    | succ n ih5 =>
      intro j hn5 i5_0 Mq H locs hP hD hS hW ls hl
      have hle := dropA_le f a s1 j
      refine lv_iload hx hb dX6_dropsMarks_5 (lv_at hl 4 rfl) ?_
      refine lv_aload_n hx hb dX6_dropsMarks_7 rfl (lv_at hl 0 rfl) ?_
      refine m_get (T := TX6) (N := 24) (ci := 7) (fs := (moF ad t i)) hx hb hwX6 hown hK hP hW.1 rfl 18 (by decide) (hts _ (List.mem_of_getElem? (i := 1) rfl)) (v := .ref (ad 18)) rfl dX6_dropsMarks_8 ?_
      refine lv_iload_n hx hb dX6_dropsMarks_11 rfl (lv_at hl 2 rfl) ?_
      have bd_1 : (f 18) s1 ≤ 3 := (MI.dropM hI a s1 j).2.2.2.2.2 18 s1
      refine n_iald (g := (f 18)) (n := 40) (i := s1) hx hb hK hP (hW.2.1 18 (by decide)) (by omega) (by omega) dX6_dropsMarks_12 ?_
      refine z_icmp_ge (u := ((j : Nat) : Int)) (v := (((f 18) s1 : Nat) : Int)) (tgt := 78) hx hb (nI_toInt (by omega)) (nI_toInt (by omega)) dX6_dropsMarks_13 (by decide) (fun c_13 => ?_) (fun c_13 => ?_)
      · refine lv_aload_n hx hb dX6_dropsMarks_78 rfl (lv_at hl 0 rfl) ?_
        refine m_get (T := TX6) (N := 24) (ci := 7) (fs := (moF ad t i)) hx hb hwX6 hown hK hP hW.1 rfl 18 (by decide) (hts _ (List.mem_of_getElem? (i := 1) rfl)) (v := .ref (ad 18)) rfl dX6_dropsMarks_79 ?_
        refine lv_iload_n hx hb dX6_dropsMarks_82 rfl (lv_at hl 2 rfl) ?_
        refine lv_iload_n hx hb dX6_dropsMarks_83 rfl (lv_at hl 3 rfl) ?_
        refine n_iast (g := (f 18)) (n := 40) (i := s1) (v := (dropA f a s1 j).1) hx hb hK hP hD hS (hW.2.1 18 (by decide)) (by omega) (by omega) dX6_dropsMarks_84 (fun H locs hP hD hS => ?_)
        have hW := hW.setI 18 (by decide) (va_up (f 18) s1 ((dropA f a s1 j).1))
        exact e_wv hx hb hr hlocks hP hD hS ((by have e9 : f 18 s1 = j := (by omega); unfold dropF; rw [e9]; exact hW)) dX6_dropsMarks_85
      · refine lv_iconst (v := (nI 3)) hx hb dX6_dropsMarks_16 (by decide) ?_
        refine lv_iload_n hx hb dX6_dropsMarks_17 rfl (lv_at hl 2 rfl) ?_
        refine n_mul (x := 3) (y := s1) hx hb dX6_dropsMarks_18 ?_
        refine lv_iload hx hb dX6_dropsMarks_19 (lv_at hl 4 rfl) ?_
        refine n_add (x := 3 * s1) (y := j) hx hb dX6_dropsMarks_21 ?_
        refine lv_istore (lv' := [(5, .int (nI ((3 * s1) + j))), (0, .ref h), (1, .int (nI a)), (2, .int (nI s1)), (3, .int (nI ((dropA f a s1 j).1))), (4, .int (nI j))]) hx hb dX6_dropsMarks_22 hl (by decide) rfl (fun ls hl => ?_)
        refine lv_aload_n hx hb dX6_dropsMarks_24 rfl (lv_at hl 1 rfl) ?_
        refine m_get (T := TX6) (N := 24) (ci := 7) (fs := (moF ad t i)) hx hb hwX6 hown hK hP hW.1 rfl 17 (by decide) (hts _ (List.mem_of_getElem? (i := 2) rfl)) (v := .ref (ad 17)) rfl dX6_dropsMarks_25 ?_
        refine lv_iload hx hb dX6_dropsMarks_28 (lv_at hl 0 rfl) ?_
        have bd_2 : ((dropA f a s1 j).2.2) ((3 * s1) + j) ≤ 5 := (MI.dropM hI a s1 j).2.2.2.2.2 17 ((3 * s1) + j)
        refine n_iald (g := ((dropA f a s1 j).2.2)) (n := 120) (i := (3 * s1) + j) hx hb hK hP (hW.2.1 17 (by decide)) (by omega) (by omega) dX6_dropsMarks_30 ?_
        refine lv_iload_n hx hb dX6_dropsMarks_31 rfl (lv_at hl 2 rfl) ?_
        refine z_icmp_eq (u := ((((dropA f a s1 j).2.2) ((3 * s1) + j) : Nat) : Int)) (v := ((a : Nat) : Int)) (tgt := 72) hx hb (nI_toInt (by omega)) (nI_toInt (by omega)) dX6_dropsMarks_32 (by decide) (fun c_32 => ?_) (fun c_32 => ?_)
        · refine n_iinc (x := j) (k := 1) (lv' := [(4, .int (nI (j + 1))), (5, .int (nI ((3 * s1) + j))), (0, .ref h), (1, .int (nI a)), (2, .int (nI s1)), (3, .int (nI ((dropA f a s1 j).1)))]) hx hb dX6_dropsMarks_72 rfl hl (q := 5) rfl (by decide) rfl (fun ls hl => ?_)
          refine lv_goto (tgt := 5) hx hb dX6_dropsMarks_75 (by decide) ?_
          have hl : lv_has ls 6 [(4, .int (nI (j + 1))), (5, .int (nI ((3 * s1) + j))), (0, .ref h), (1, .int (nI a)), (2, .int (nI s1)), (3, .int (nI ((dropA f a s1 (j + 1)).1)))] := by
            have heq0 : (.int (nI ((dropA f a s1 (j + 1)).1)) : Value) = .int (nI ((dropA f a s1 j).1)) := by first | rw [dropA_eq (by omega)] | rw [dropA_ne (by omega)]
            rw [heq0]
            exact hl
          exact ih5  (j + 1) (by omega) (by omega) _ _ _ hP hD hS (by first | (rw [dropM_eq (by omega)]; exact hW) | (rw [dropM_ne (by omega)]; exact hW)) _ (lv_sub hl [2, 3, 4, 5, 0] rfl)
        · refine lv_aload_n hx hb dX6_dropsMarks_35 rfl (lv_at hl 1 rfl) ?_
          refine m_get (T := TX6) (N := 24) (ci := 7) (fs := (moF ad t i)) hx hb hwX6 hown hK hP hW.1 rfl 16 (by decide) (hts _ (List.mem_of_getElem? (i := 3) rfl)) (v := .ref (ad 16)) rfl dX6_dropsMarks_36 ?_
          refine lv_iconst (v := (nI 3)) hx hb dX6_dropsMarks_39 (by decide) ?_
          refine lv_iload_n hx hb dX6_dropsMarks_40 rfl (lv_at hl 3 rfl) ?_
          refine n_mul (x := 3) (y := s1) hx hb dX6_dropsMarks_41 ?_
          refine lv_iload_n hx hb dX6_dropsMarks_42 rfl (lv_at hl 4 rfl) ?_
          refine n_add (x := 3 * s1) (y := (dropA f a s1 j).1) hx hb dX6_dropsMarks_43 ?_
          refine lv_aload_n hx hb dX6_dropsMarks_44 rfl (lv_at hl 1 rfl) ?_
          refine m_get (T := TX6) (N := 24) (ci := 7) (fs := (moF ad t i)) hx hb hwX6 hown hK hP hW.1 rfl 16 (by decide) (hts _ (List.mem_of_getElem? (i := 3) rfl)) (v := .ref (ad 16)) rfl dX6_dropsMarks_45 ?_
          refine lv_iload hx hb dX6_dropsMarks_48 (lv_at hl 0 rfl) ?_
          have bd_3 : ((dropA f a s1 j).2.1) ((3 * s1) + j) ≤ 20 := (MI.dropM hI a s1 j).2.2.2.2.2 16 ((3 * s1) + j)
          refine n_iald (g := ((dropA f a s1 j).2.1)) (n := 120) (i := (3 * s1) + j) hx hb hK hP (hW.2.1 16 (by decide)) (by omega) (by omega) dX6_dropsMarks_50 ?_
          refine n_iast (g := ((dropA f a s1 j).2.1)) (n := 120) (i := (3 * s1) + ((dropA f a s1 j).1)) (v := ((dropA f a s1 j).2.1) ((3 * s1) + j)) hx hb hK hP hD hS (hW.2.1 16 (by decide)) (by omega) (by omega) dX6_dropsMarks_51 (fun H locs hP hD hS => ?_)
          have hW := hW.setI 16 (by decide) (va_up ((dropA f a s1 j).2.1) ((3 * s1) + ((dropA f a s1 j).1)) (((dropA f a s1 j).2.1) ((3 * s1) + j)))
          refine lv_aload_n hx hb dX6_dropsMarks_52 rfl (lv_at hl 1 rfl) ?_
          refine m_get (T := TX6) (N := 24) (ci := 7) (fs := (moF ad t i)) hx hb hwX6 hown hK hP hW.1 rfl 17 (by decide) (hts _ (List.mem_of_getElem? (i := 2) rfl)) (v := .ref (ad 17)) rfl dX6_dropsMarks_53 ?_
          refine lv_iconst (v := (nI 3)) hx hb dX6_dropsMarks_56 (by decide) ?_
          refine lv_iload_n hx hb dX6_dropsMarks_57 rfl (lv_at hl 3 rfl) ?_
          refine n_mul (x := 3) (y := s1) hx hb dX6_dropsMarks_58 ?_
          refine lv_iload_n hx hb dX6_dropsMarks_59 rfl (lv_at hl 4 rfl) ?_
          refine n_add (x := 3 * s1) (y := (dropA f a s1 j).1) hx hb dX6_dropsMarks_60 ?_
          refine lv_aload_n hx hb dX6_dropsMarks_61 rfl (lv_at hl 1 rfl) ?_
          refine m_get (T := TX6) (N := 24) (ci := 7) (fs := (moF ad t i)) hx hb hwX6 hown hK hP hW.1 rfl 17 (by decide) (hts _ (List.mem_of_getElem? (i := 2) rfl)) (v := .ref (ad 17)) rfl dX6_dropsMarks_62 ?_
          refine lv_iload hx hb dX6_dropsMarks_65 (lv_at hl 0 rfl) ?_
          have bd_4 : ((dropA f a s1 j).2.2) ((3 * s1) + j) ≤ 5 := (MI.dropM hI a s1 j).2.2.2.2.2 17 ((3 * s1) + j)
          refine n_iald (g := ((dropA f a s1 j).2.2)) (n := 120) (i := (3 * s1) + j) hx hb hK hP (hW.2.1 17 (by decide)) (by omega) (by omega) dX6_dropsMarks_67 ?_
          refine n_iast (g := ((dropA f a s1 j).2.2)) (n := 120) (i := (3 * s1) + ((dropA f a s1 j).1)) (v := ((dropA f a s1 j).2.2) ((3 * s1) + j)) hx hb hK hP hD hS (hW.2.1 17 (by decide)) (by omega) (by omega) dX6_dropsMarks_68 (fun H locs hP hD hS => ?_)
          have hW := hW.setI 17 (by decide) (va_up ((dropA f a s1 j).2.2) ((3 * s1) + ((dropA f a s1 j).1)) (((dropA f a s1 j).2.2) ((3 * s1) + j)))
          refine n_iinc (x := (dropA f a s1 j).1) (k := 1) (lv' := [(3, .int (nI (((dropA f a s1 j).1) + 1))), (5, .int (nI ((3 * s1) + j))), (0, .ref h), (1, .int (nI a)), (2, .int (nI s1)), (4, .int (nI j))]) hx hb dX6_dropsMarks_69 rfl hl (q := 4) rfl (by decide) rfl (fun ls hl => ?_)
          refine n_iinc (x := j) (k := 1) (lv' := [(4, .int (nI (j + 1))), (3, .int (nI (((dropA f a s1 j).1) + 1))), (5, .int (nI ((3 * s1) + j))), (0, .ref h), (1, .int (nI a)), (2, .int (nI s1))]) hx hb dX6_dropsMarks_72 rfl hl (q := 5) rfl (by decide) rfl (fun ls hl => ?_)
          refine lv_goto (tgt := 5) hx hb dX6_dropsMarks_75 (by decide) ?_
          have hl : lv_has ls 6 [(4, .int (nI (j + 1))), (3, .int (nI ((dropA f a s1 (j + 1)).1))), (5, .int (nI ((3 * s1) + j))), (0, .ref h), (1, .int (nI a)), (2, .int (nI s1))] := by
            have heq0 : (.int (nI ((dropA f a s1 (j + 1)).1)) : Value) = .int (nI (((dropA f a s1 j).1) + 1)) := by first | rw [dropA_eq (by omega)] | rw [dropA_ne (by omega)]
            rw [heq0]
            exact hl
          exact ih5  (j + 1) (by omega) (by omega) _ _ _ hP hD hS (by first | (rw [dropM_eq (by omega)]; exact hW) | (rw [dropM_ne (by omega)]; exact hW)) _ (lv_sub hl [3, 4, 5, 1, 0] rfl)
  exact K5 (4 - 0 + 1) 0 (Nat.lt_succ_self _) (Nat.zero_le _) _ _ _ hP hD hS (by rw [dropM_0]; exact hW) _ (lv_sub hl [2, 3, 4, 1, 0] rfl)

set_option maxRecDepth 100000 in
set_option maxHeartbeats 4000000 in
/-- worthOf(s) -/
theorem c_X6_worthOf (l : Launch) (D : va_G) (cy : Nat → ClassId) (M : mM) (sz : Nat) (h : Nat) (ad : Nat → Nat) (t : Nat) (i : Nat → Nat) (f : Nat → Nat → Nat) (nc : Nat) (s1 : Nat) (hW : MW cy M h ad t i f) (hI : MI nc i f) (hs : s1 < 40) : mWi l yX6_worthOf wsX6_worthOf ({ frames := 6, cells := 0, slots := 0, locals := 141 } : Room) D cy M sz [.ref h, .int (nI s1)] (fun r M' => r = zI (worthS f s1) ∧ MW cy M' h ad t i f) 0 0 := by
  refine mW.of (cc := cX6_worthOf) (maxL := 3) (ret := (some .int)) (by decide) rfl (Nat.le_of_ble_eq_true rfl) ?_
  intro p e s m args below meth c ls hsz hx hb hr hts hown hlocks hml hname hP hD hS hA hK hl
  have hl : lv_has ls 3 [(0, .ref h), (1, .int (nI s1))] := hl
  have hown : s.vm.findClass RX6 = some m.cls := hown
  have hwX6 : ∀ w ∈ wsX60, w.before args s = true := fun w h => hts w (List.mem_cons_of_mem _ (List.mem_append_right _ (h)))
  refine lv_aload_n hx hb dX6_worthOf_0 rfl (lv_at hl 0 rfl) ?_
  refine lv_iload_n hx hb dX6_worthOf_1 rfl (lv_at hl 1 rfl) ?_
  refine vp_callSi (W.runV (C := RX6) (As := [.int (nI s1)]) (rest := []) ⟨hx, hb, hml, hown, hts⟩ (c_X6_gradeOf l D cy _ h ad t i f nc s1 hW hI (by omega)) (cwV 1 hts gX6_worthOf_X6_gradeOf rfl rfl rfl (by decide +kernel) ⟨Nat.le_of_ble_eq_true rfl, Nat.le_of_ble_eq_true rfl⟩) (mPreV hK hP hW.1 (ci := 7) rfl) rfl rfl hl.1 rfl (lv_room (Nat.le_of_ble_eq_true rfl)) dX6_worthOf_2 ⟨Nat.le_of_ble_eq_true rfl, Nat.le_of_ble_eq_true rfl⟩) (fun r9 hr9 => ?_)
  have hr9 : r9 = (zI (gradeS f s1)) := hr9
  subst hr9
  have bs_1 : -1 ≤ gradeS f s1 ∧ gradeS f s1 ≤ 20 := gradeS_bd hI _
  refine lv_istore_n (lv' := [(2, .int (zI (gradeS f s1))), (0, .ref h), (1, .int (nI s1))]) hx hb dX6_worthOf_5 rfl hl (by decide) rfl (fun ls hl => ?_)
  refine lv_iload_n hx hb dX6_worthOf_6 rfl (lv_at hl 0 rfl) ?_
  refine lv_iconst (v := (zI (-1))) hx hb dX6_worthOf_7 (by decide) ?_
  refine z_icmp_eq (u := (gradeS f s1)) (v := (-1)) (tgt := 20) hx hb (zI_toInt (by omega) (by omega)) (zI_toInt (by omega) (by omega)) dX6_worthOf_8 (by decide) (fun c_8 => ?_) (fun c_8 => ?_)
  · refine lv_sipush (v := (zI (-9999))) hx hb dX6_worthOf_20 (by decide) ?_
    refine lv_goto (tgt := 43) hx hb dX6_worthOf_23 (by decide) ?_
    exact e_wi hx hb hr hlocks hP hD hS (⟨(congrArg zI (by unfold worthS; (repeat (first | rw [if_pos (by omega)] | rw [if_neg (by omega)])); (first | done | rfl | omega))), hW⟩) dX6_worthOf_43
  · refine lv_aload_n hx hb dX6_worthOf_11 rfl (lv_at hl 1 rfl) ?_
    refine m_get (T := TX6) (N := 24) (ci := 7) (fs := (moF ad t i)) hx hb hwX6 hown hK hP hW.1 rfl 20 (by decide) (hts _ (List.mem_of_getElem? (i := 1) rfl)) (v := .ref (ad 20)) rfl dX6_worthOf_12 ?_
    refine lv_iload_n hx hb dX6_worthOf_15 rfl (lv_at hl 2 rfl) ?_
    have bd_2 : (f 20) s1 ≤ 1 := hI.2.2.2.2.2 20 s1
    refine n_zald (g := (f 20)) (n := 40) (i := s1) hx hb hK hP (hW.2.2.1 20 (by decide)) (by omega) (by omega) dX6_worthOf_16 ?_
    refine z_if_ne (u := (((f 20) s1 : Nat) : Int)) (tgt := 26) hx hb (nI_toInt (by omega)) dX6_worthOf_17 (by decide) (fun c_17 => ?_) (fun c_17 => ?_)
    · refine lv_iconst (v := (nI 3)) hx hb dX6_worthOf_26 (by decide) ?_
      refine lv_iload_n hx hb dX6_worthOf_27 rfl (lv_at hl 0 rfl) ?_
      refine z_mul (u := ((3 : Nat) : Int)) (v := (gradeS f s1)) hx hb (nI_zI _) (rfl) dX6_worthOf_28 ?_
      refine lv_iconst (v := (nI 2)) hx hb dX6_worthOf_29 (by decide) ?_
      refine lv_aload_n hx hb dX6_worthOf_30 rfl (lv_at hl 1 rfl) ?_
      refine lv_iload_n hx hb dX6_worthOf_31 rfl (lv_at hl 2 rfl) ?_
      refine vp_callSi (W.runV (C := RX6) (As := [.int (nI s1)]) (rest := [.int (nI 2), .int (zI (((3 : Nat) : Int) * (gradeS f s1)))]) ⟨hx, hb, hml, hown, hts⟩ (c_X6_pointsOf l D cy _ h ad t i f nc s1 hW hI (by omega)) (cwV 1 hts gX6_worthOf_X6_pointsOf rfl rfl rfl (by decide +kernel) ⟨Nat.le_of_ble_eq_true rfl, Nat.le_of_ble_eq_true rfl⟩) (mPreV hK hP hW.1 (ci := 7) rfl) rfl rfl hl.1 rfl (lv_room (Nat.le_of_ble_eq_true rfl)) dX6_worthOf_32 ⟨Nat.le_of_ble_eq_true rfl, Nat.le_of_ble_eq_true rfl⟩) (fun r9 hr9 => ?_)
      have hr9 : r9 = (nI (pts f s1)) := hr9
      subst hr9
      have bs_3 : pts f s1 ≤ 20 := pts_le hI _
      refine n_mul (x := 2) (y := pts f s1) hx hb dX6_worthOf_35 ?_
      refine z_add (u := (((3 : Nat) : Int) * (gradeS f s1))) (v := ((2 * (pts f s1) : Nat) : Int)) hx hb (rfl) (nI_zI _) dX6_worthOf_36 ?_
      refine lv_aload_n hx hb dX6_worthOf_37 rfl (lv_at hl 1 rfl) ?_
      refine lv_iload_n hx hb dX6_worthOf_38 rfl (lv_at hl 2 rfl) ?_
      refine m_calli (va_runV (C := RX6) (As := [.int (nI s1)]) (rest := [.int (zI ((((3 : Nat) : Int) * (gradeS f s1)) + ((2 * (pts f s1) : Nat) : Int)))]) ⟨hx, hb, hml, hown, hts⟩ (c_X6_allSlips l D cy _ _ h ad t i f nc s1 hW hI (by omega)) (cwV 1 hts gX6_worthOf_X6_allSlips rfl rfl rfl (by decide +kernel) ⟨Nat.le_of_ble_eq_true rfl, Nat.le_of_ble_eq_true rfl⟩) (mPreWV hK hP hW.1 (ci := 7) rfl) rfl rfl hl.1 rfl (lv_room (Nat.le_of_ble_eq_true rfl)) dX6_worthOf_39 ⟨Nat.le_of_ble_eq_true rfl, Nat.le_of_ble_eq_true rfl⟩) hD hA hS (fun r9 Mn H locs hq9 hP hD hS hz9 hd9 hk9 => ?_)
      obtain ⟨hr9, hW⟩ := hq9
      have hr9 : r9 = (zI (allSlips f s1)) := hr9
      subst hr9
      have hW : MW cy Mn h ad t i f := hW
      have bs_4 := allSlips_bd hI s1
      refine z_sub (u := ((((3 : Nat) : Int) * (gradeS f s1)) + ((2 * (pts f s1) : Nat) : Int))) (v := (allSlips f s1)) hx hb (rfl) (rfl) dX6_worthOf_42 ?_
      exact e_wi hx hb hr hlocks hP hD hS (⟨(congrArg zI (by unfold worthS; (repeat (first | rw [if_pos (by omega)] | rw [if_neg (by omega)])); (first | done | rfl | omega))), hW⟩) dX6_worthOf_43
    · refine lv_sipush (v := (zI (-9999))) hx hb dX6_worthOf_20 (by decide) ?_
      refine lv_goto (tgt := 43) hx hb dX6_worthOf_23 (by decide) ?_
      exact e_wi hx hb hr hlocks hP hD hS (⟨(congrArg zI (by unfold worthS; (repeat (first | rw [if_pos (by omega)] | rw [if_neg (by omega)])); (first | done | rfl | omega))), hW⟩) dX6_worthOf_43

set_option maxRecDepth 100000 in
set_option maxHeartbeats 4000000 in
/-- placeOf(s) -/
theorem c_X6_placeOf (l : Launch) (D : va_G) (cy : Nat → ClassId) (M : mM) (sz : Nat) (h : Nat) (ad : Nat → Nat) (t : Nat) (i : Nat → Nat) (f : Nat → Nat → Nat) (nc : Nat) (s1 : Nat) (hW : MW cy M h ad t i f) (hI : MI nc i f) (hs : s1 < 40) : mWi l yX6_placeOf wsX6_placeOf ({ frames := 7, cells := 0, slots := 0, locals := 163 } : Room) D cy M sz [.ref h, .int (nI s1)] (fun r M' => r = zI (placeS f (i 10) s1) ∧ MW cy M' h ad t i f) 0 0 := by
  refine mW.of (cc := cX6_placeOf) (maxL := 7) (ret := (some .int)) (by decide) rfl (Nat.le_of_ble_eq_true rfl) ?_
  intro p e s m args below meth c ls hsz hx hb hr hts hown hlocks hml hname hP hD hS hA hK hl
  have hl : lv_has ls 7 [(0, .ref h), (1, .int (nI s1))] := hl
  have hown : s.vm.findClass RX6 = some m.cls := hown
  have hwX6 : ∀ w ∈ wsX60, w.before args s = true := fun w h => hts w (List.mem_cons_of_mem _ (List.mem_append_right _ (h)))
  obtain ⟨-, -, -, -, hi10, -⟩ := id hI
  refine lv_aload_n hx hb dX6_placeOf_0 rfl (lv_at hl 0 rfl) ?_
  refine lv_iload_n hx hb dX6_placeOf_1 rfl (lv_at hl 1 rfl) ?_
  refine m_calli (va_runV (C := RX6) (As := [.int (nI s1)]) (rest := []) ⟨hx, hb, hml, hown, hts⟩ (c_X6_worthOf l D cy _ _ h ad t i f nc s1 hW hI (by omega)) (cwV 1 hts gX6_placeOf_X6_worthOf rfl rfl rfl (by decide +kernel) ⟨Nat.le_of_ble_eq_true rfl, Nat.le_of_ble_eq_true rfl⟩) (mPreWV hK hP hW.1 (ci := 7) rfl) rfl rfl hl.1 rfl (lv_room (Nat.le_of_ble_eq_true rfl)) dX6_placeOf_2 ⟨Nat.le_of_ble_eq_true rfl, Nat.le_of_ble_eq_true rfl⟩) hD hA hS (fun r9 Mn H locs hq9 hP hD hS hz9 hd9 hk9 => ?_)
  obtain ⟨hr9, hW⟩ := hq9
  have hr9 : r9 = (zI (worthS f s1)) := hr9
  subst hr9
  have hW : MW cy Mn h ad t i f := hW
  have bs_1 := worthS_bd hI s1
  refine lv_istore_n (lv' := [(2, .int (zI (worthS f s1))), (0, .ref h), (1, .int (nI s1))]) hx hb dX6_placeOf_5 rfl hl (by decide) rfl (fun ls hl => ?_)
  refine lv_iload_n hx hb dX6_placeOf_6 rfl (lv_at hl 0 rfl) ?_
  refine lv_sipush (v := (zI (-9999))) hx hb dX6_placeOf_7 (by decide) ?_
  refine z_icmp_ne (u := (worthS f s1)) (v := (-9999)) (tgt := 15) hx hb (zI_toInt (by omega) (by omega)) (zI_toInt (by omega) (by omega)) dX6_placeOf_10 (by decide) (fun c_10 => ?_) (fun c_10 => ?_)
  · refine lv_iconst (v := (nI 1)) hx hb dX6_placeOf_15 (by decide) ?_
    refine lv_istore_n (lv' := [(3, .int (nI 1)), (2, .int (zI (worthS f s1))), (0, .ref h), (1, .int (nI s1))]) hx hb dX6_placeOf_16 rfl hl (by decide) rfl (fun ls hl => ?_)
    refine lv_iconst (v := (nI 0)) hx hb dX6_placeOf_17 (by decide) ?_
    refine lv_istore (lv' := [(4, .int (nI 0)), (3, .int (nI 1)), (2, .int (zI (worthS f s1))), (0, .ref h), (1, .int (nI s1))]) hx hb dX6_placeOf_18 hl (by decide) rfl (fun ls hl => ?_)
    have K20 : ∀ (n : Nat) (j : Nat), 41 - j < n → (j ≤ i 10) → ∀ (Mq : mM) (H : Heap) (locs : List Loc), pm D Mq H → mD (mA M sz) Mq → va_S (mA M sz) s.heap H locs → (MW cy Mq h ad t i f) → ∀ (ls : Array Slot), lv_has ls 7 [(0, .ref h), (1, .int (nI s1)), (2, .int (zI (worthS f s1))), (3, .int (nI (placeA f (worthS f s1) s1 j))), (4, .int (nI j))] → W p l e ({ frames := 7, cells := 0, slots := 0, locals := 163 } : Room) s m args below meth c H locs 0 0 (MQ below (va_Qi (fun r M' => r = zI (placeS f (i 10) s1) ∧ MW cy M' h ad t i f) (mB D M sz) (mA M sz)) args s 0 0 (mA M sz)) (F0 m 20 ls []) := by
      intro n
      induction n with
      | zero => intro j hn; exact absurd hn (by omega)
      | succ n ih20 =>
        intro j hn20 i20_0 Mq H locs hP hD hS hW ls hl
        have hle := placeA_le f (worthS f s1) s1 j
        refine lv_iload hx hb dX6_placeOf_20 (lv_at hl 4 rfl) ?_
        refine lv_aload_n hx hb dX6_placeOf_22 rfl (lv_at hl 0 rfl) ?_
        refine m_get (T := TX6) (N := 24) (ci := 7) (fs := (moF ad t i)) hx hb hwX6 hown hK hP hW.1 rfl 10 (by decide) (hts _ (List.mem_of_getElem? (i := 1) rfl)) (v := .int (nI (i 10))) rfl dX6_placeOf_23 ?_
        refine z_icmp_ge (u := ((j : Nat) : Int)) (v := ((i 10 : Nat) : Int)) (tgt := 89) hx hb (nI_toInt (by omega)) (nI_toInt (by omega)) dX6_placeOf_26 (by decide) (fun c_26 => ?_) (fun c_26 => ?_)
        · refine lv_iload_n hx hb dX6_placeOf_89 rfl (lv_at hl 3 rfl) ?_
          exact e_wi hx hb hr hlocks hP hD hS (⟨(nI_zI _).trans (congrArg zI (by unfold placeS; rw [if_neg (by omega), show i 10 = j by omega])), hW⟩) dX6_placeOf_90
        · refine lv_aload_n hx hb dX6_placeOf_29 rfl (lv_at hl 0 rfl) ?_
          refine lv_iload hx hb dX6_placeOf_30 (lv_at hl 4 rfl) ?_
          refine m_calli (va_runV (C := RX6) (As := [.int (nI j)]) (rest := []) ⟨hx, hb, hml, hown, hts⟩ (c_X6_worthOf l D cy _ _ h ad t i f nc j hW hI (by omega)) (cwV 1 hts gX6_placeOf_X6_worthOf rfl rfl rfl (by decide +kernel) ⟨Nat.le_of_ble_eq_true rfl, Nat.le_of_ble_eq_true rfl⟩) (mPreWV hK hP hW.1 (ci := 7) rfl) rfl rfl hl.1 rfl (lv_room (Nat.le_of_ble_eq_true rfl)) dX6_placeOf_32 ⟨Nat.le_of_ble_eq_true rfl, Nat.le_of_ble_eq_true rfl⟩) hD hA hS (fun r9 Mn H locs hq9 hP hD hS hz9 hd9 hk9 => ?_)
          obtain ⟨hr9, hW⟩ := hq9
          have hr9 : r9 = (zI (worthS f j)) := hr9
          subst hr9
          have hW : MW cy Mn h ad t i f := hW
          have bs_2 := worthS_bd hI j
          refine lv_istore (lv' := [(5, .int (zI (worthS f j))), (0, .ref h), (1, .int (nI s1)), (2, .int (zI (worthS f s1))), (3, .int (nI (placeA f (worthS f s1) s1 j))), (4, .int (nI j))]) hx hb dX6_placeOf_35 hl (by decide) rfl (fun ls hl => ?_)
          refine lv_iload hx hb dX6_placeOf_37 (lv_at hl 0 rfl) ?_
          refine lv_sipush (v := (zI (-9999))) hx hb dX6_placeOf_39 (by decide) ?_
          refine z_icmp_eq (u := (worthS f j)) (v := (-9999)) (tgt := 67) hx hb (zI_toInt (by omega) (by omega)) (zI_toInt (by omega) (by omega)) dX6_placeOf_42 (by decide) (fun c_42 => ?_) (fun c_42 => ?_)
          · refine lv_iconst (v := (nI 0)) hx hb dX6_placeOf_67 (by decide) ?_
            refine lv_istore (lv' := [(6, .int (nI 0)), (5, .int (zI (worthS f j))), (0, .ref h), (1, .int (nI s1)), (2, .int (zI (worthS f s1))), (3, .int (nI (placeA f (worthS f s1) s1 j))), (4, .int (nI j))]) hx hb dX6_placeOf_68 hl (by decide) rfl (fun ls hl => ?_)
            refine lv_iload_n hx hb dX6_placeOf_70 rfl (lv_at hl 5 rfl) ?_
            refine lv_iload hx hb dX6_placeOf_71 (lv_at hl 0 rfl) ?_
            refine k_if_eq_0 (tgt := 80) hx hb dX6_placeOf_73 (by decide) ?_
            refine lv_iconst (v := (nI 0)) hx hb dX6_placeOf_80 (by decide) ?_
            refine n_add (x := placeA f (worthS f s1) s1 j) (y := 0) hx hb dX6_placeOf_81 ?_
            refine lv_istore_n (lv' := [(3, .int (nI ((placeA f (worthS f s1) s1 j) + 0))), (6, .int (nI 0)), (5, .int (zI (worthS f j))), (0, .ref h), (1, .int (nI s1)), (2, .int (zI (worthS f s1))), (4, .int (nI j))]) hx hb dX6_placeOf_82 rfl hl (by decide) rfl (fun ls hl => ?_)
            refine n_iinc (x := j) (k := 1) (lv' := [(4, .int (nI (j + 1))), (3, .int (nI ((placeA f (worthS f s1) s1 j) + 0))), (6, .int (nI 0)), (5, .int (zI (worthS f j))), (0, .ref h), (1, .int (nI s1)), (2, .int (zI (worthS f s1)))]) hx hb dX6_placeOf_83 rfl hl (q := 6) rfl (by decide) rfl (fun ls hl => ?_)
            refine lv_goto (tgt := 20) hx hb dX6_placeOf_86 (by decide) ?_
            have hl : lv_has ls 7 [(4, .int (nI (j + 1))), (3, .int (nI (placeA f (worthS f s1) s1 (j + 1)))), (6, .int (nI 0)), (5, .int (zI (worthS f j))), (0, .ref h), (1, .int (nI s1)), (2, .int (zI (worthS f s1)))] := by
              have heq0 : (.int (nI (placeA f (worthS f s1) s1 (j + 1))) : Value) = .int (nI ((placeA f (worthS f s1) s1 j) + 0)) := congrArg Value.int (congrArg nI (by show placeA f (worthS f s1) s1 j + b2 (aheadS f (worthS f s1) s1 j) = _; first | (rw [show aheadS f (worthS f s1) s1 j = true from decide_eq_true (by omega)]; rfl) | (rw [show aheadS f (worthS f s1) s1 j = false from decide_eq_false (by omega)]; rfl)))
              rw [heq0]
              exact hl
            exact ih20  (j + 1) (by omega) (by omega) _ _ _ hP hD hS (hW) _ (lv_sub hl [4, 5, 6, 1, 0] rfl)
          · refine lv_iload hx hb dX6_placeOf_45 (lv_at hl 0 rfl) ?_
            refine lv_iload_n hx hb dX6_placeOf_47 rfl (lv_at hl 3 rfl) ?_
            refine z_icmp_gt (u := (worthS f j)) (v := (worthS f s1)) (tgt := 63) hx hb (zI_toInt (by omega) (by omega)) (zI_toInt (by omega) (by omega)) dX6_placeOf_48 (by decide) (fun c_48 => ?_) (fun c_48 => ?_)
            · refine lv_iconst (v := (nI 1)) hx hb dX6_placeOf_63 (by decide) ?_
              refine lv_goto (tgt := 68) hx hb dX6_placeOf_64 (by decide) ?_
              refine lv_istore (lv' := [(6, .int (nI 1)), (5, .int (zI (worthS f j))), (0, .ref h), (1, .int (nI s1)), (2, .int (zI (worthS f s1))), (3, .int (nI (placeA f (worthS f s1) s1 j))), (4, .int (nI j))]) hx hb dX6_placeOf_68 hl (by decide) rfl (fun ls hl => ?_)
              refine lv_iload_n hx hb dX6_placeOf_70 rfl (lv_at hl 5 rfl) ?_
              refine lv_iload hx hb dX6_placeOf_71 (lv_at hl 0 rfl) ?_
              refine k_if_eq_1 (tgt := 80) hx hb dX6_placeOf_73 (by decide) ?_
              refine lv_iconst (v := (nI 1)) hx hb dX6_placeOf_76 (by decide) ?_
              refine lv_goto (tgt := 81) hx hb dX6_placeOf_77 (by decide) ?_
              refine n_add (x := placeA f (worthS f s1) s1 j) (y := 1) hx hb dX6_placeOf_81 ?_
              refine lv_istore_n (lv' := [(3, .int (nI ((placeA f (worthS f s1) s1 j) + 1))), (6, .int (nI 1)), (5, .int (zI (worthS f j))), (0, .ref h), (1, .int (nI s1)), (2, .int (zI (worthS f s1))), (4, .int (nI j))]) hx hb dX6_placeOf_82 rfl hl (by decide) rfl (fun ls hl => ?_)
              refine n_iinc (x := j) (k := 1) (lv' := [(4, .int (nI (j + 1))), (3, .int (nI ((placeA f (worthS f s1) s1 j) + 1))), (6, .int (nI 1)), (5, .int (zI (worthS f j))), (0, .ref h), (1, .int (nI s1)), (2, .int (zI (worthS f s1)))]) hx hb dX6_placeOf_83 rfl hl (q := 6) rfl (by decide) rfl (fun ls hl => ?_)
              refine lv_goto (tgt := 20) hx hb dX6_placeOf_86 (by decide) ?_
              have hl : lv_has ls 7 [(4, .int (nI (j + 1))), (3, .int (nI (placeA f (worthS f s1) s1 (j + 1)))), (6, .int (nI 1)), (5, .int (zI (worthS f j))), (0, .ref h), (1, .int (nI s1)), (2, .int (zI (worthS f s1)))] := by
                have heq0 : (.int (nI (placeA f (worthS f s1) s1 (j + 1))) : Value) = .int (nI ((placeA f (worthS f s1) s1 j) + 1)) := congrArg Value.int (congrArg nI (by show placeA f (worthS f s1) s1 j + b2 (aheadS f (worthS f s1) s1 j) = _; first | (rw [show aheadS f (worthS f s1) s1 j = true from decide_eq_true (by omega)]; rfl) | (rw [show aheadS f (worthS f s1) s1 j = false from decide_eq_false (by omega)]; rfl)))
                rw [heq0]
                exact hl
              exact ih20  (j + 1) (by omega) (by omega) _ _ _ hP hD hS (hW) _ (lv_sub hl [4, 5, 6, 1, 0] rfl)
            · refine lv_iload hx hb dX6_placeOf_51 (lv_at hl 0 rfl) ?_
              refine lv_iload_n hx hb dX6_placeOf_53 rfl (lv_at hl 3 rfl) ?_
              refine z_icmp_ne (u := (worthS f j)) (v := (worthS f s1)) (tgt := 67) hx hb (zI_toInt (by omega) (by omega)) (zI_toInt (by omega) (by omega)) dX6_placeOf_54 (by decide) (fun c_54 => ?_) (fun c_54 => ?_)
              · refine lv_iconst (v := (nI 0)) hx hb dX6_placeOf_67 (by decide) ?_
                refine lv_istore (lv' := [(6, .int (nI 0)), (5, .int (zI (worthS f j))), (0, .ref h), (1, .int (nI s1)), (2, .int (zI (worthS f s1))), (3, .int (nI (placeA f (worthS f s1) s1 j))), (4, .int (nI j))]) hx hb dX6_placeOf_68 hl (by decide) rfl (fun ls hl => ?_)
                refine lv_iload_n hx hb dX6_placeOf_70 rfl (lv_at hl 5 rfl) ?_
                refine lv_iload hx hb dX6_placeOf_71 (lv_at hl 0 rfl) ?_
                refine k_if_eq_0 (tgt := 80) hx hb dX6_placeOf_73 (by decide) ?_
                refine lv_iconst (v := (nI 0)) hx hb dX6_placeOf_80 (by decide) ?_
                refine n_add (x := placeA f (worthS f s1) s1 j) (y := 0) hx hb dX6_placeOf_81 ?_
                refine lv_istore_n (lv' := [(3, .int (nI ((placeA f (worthS f s1) s1 j) + 0))), (6, .int (nI 0)), (5, .int (zI (worthS f j))), (0, .ref h), (1, .int (nI s1)), (2, .int (zI (worthS f s1))), (4, .int (nI j))]) hx hb dX6_placeOf_82 rfl hl (by decide) rfl (fun ls hl => ?_)
                refine n_iinc (x := j) (k := 1) (lv' := [(4, .int (nI (j + 1))), (3, .int (nI ((placeA f (worthS f s1) s1 j) + 0))), (6, .int (nI 0)), (5, .int (zI (worthS f j))), (0, .ref h), (1, .int (nI s1)), (2, .int (zI (worthS f s1)))]) hx hb dX6_placeOf_83 rfl hl (q := 6) rfl (by decide) rfl (fun ls hl => ?_)
                refine lv_goto (tgt := 20) hx hb dX6_placeOf_86 (by decide) ?_
                have hl : lv_has ls 7 [(4, .int (nI (j + 1))), (3, .int (nI (placeA f (worthS f s1) s1 (j + 1)))), (6, .int (nI 0)), (5, .int (zI (worthS f j))), (0, .ref h), (1, .int (nI s1)), (2, .int (zI (worthS f s1)))] := by
                  have heq0 : (.int (nI (placeA f (worthS f s1) s1 (j + 1))) : Value) = .int (nI ((placeA f (worthS f s1) s1 j) + 0)) := congrArg Value.int (congrArg nI (by show placeA f (worthS f s1) s1 j + b2 (aheadS f (worthS f s1) s1 j) = _; first | (rw [show aheadS f (worthS f s1) s1 j = true from decide_eq_true (by omega)]; rfl) | (rw [show aheadS f (worthS f s1) s1 j = false from decide_eq_false (by omega)]; rfl)))
                  rw [heq0]
                  exact hl
                exact ih20  (j + 1) (by omega) (by omega) _ _ _ hP hD hS (hW) _ (lv_sub hl [4, 5, 6, 1, 0] rfl)
              · refine lv_iload hx hb dX6_placeOf_57 (lv_at hl 5 rfl) ?_
                refine lv_iload_n hx hb dX6_placeOf_59 rfl (lv_at hl 2 rfl) ?_
                refine z_icmp_ge (u := ((j : Nat) : Int)) (v := ((s1 : Nat) : Int)) (tgt := 67) hx hb (nI_toInt (by omega)) (nI_toInt (by omega)) dX6_placeOf_60 (by decide) (fun c_60 => ?_) (fun c_60 => ?_)
                · refine lv_iconst (v := (nI 0)) hx hb dX6_placeOf_67 (by decide) ?_
                  refine lv_istore (lv' := [(6, .int (nI 0)), (5, .int (zI (worthS f j))), (0, .ref h), (1, .int (nI s1)), (2, .int (zI (worthS f s1))), (3, .int (nI (placeA f (worthS f s1) s1 j))), (4, .int (nI j))]) hx hb dX6_placeOf_68 hl (by decide) rfl (fun ls hl => ?_)
                  refine lv_iload_n hx hb dX6_placeOf_70 rfl (lv_at hl 5 rfl) ?_
                  refine lv_iload hx hb dX6_placeOf_71 (lv_at hl 0 rfl) ?_
                  refine k_if_eq_0 (tgt := 80) hx hb dX6_placeOf_73 (by decide) ?_
                  refine lv_iconst (v := (nI 0)) hx hb dX6_placeOf_80 (by decide) ?_
                  refine n_add (x := placeA f (worthS f s1) s1 j) (y := 0) hx hb dX6_placeOf_81 ?_
                  refine lv_istore_n (lv' := [(3, .int (nI ((placeA f (worthS f s1) s1 j) + 0))), (6, .int (nI 0)), (5, .int (zI (worthS f j))), (0, .ref h), (1, .int (nI s1)), (2, .int (zI (worthS f s1))), (4, .int (nI j))]) hx hb dX6_placeOf_82 rfl hl (by decide) rfl (fun ls hl => ?_)
                  refine n_iinc (x := j) (k := 1) (lv' := [(4, .int (nI (j + 1))), (3, .int (nI ((placeA f (worthS f s1) s1 j) + 0))), (6, .int (nI 0)), (5, .int (zI (worthS f j))), (0, .ref h), (1, .int (nI s1)), (2, .int (zI (worthS f s1)))]) hx hb dX6_placeOf_83 rfl hl (q := 6) rfl (by decide) rfl (fun ls hl => ?_)
                  refine lv_goto (tgt := 20) hx hb dX6_placeOf_86 (by decide) ?_
                  have hl : lv_has ls 7 [(4, .int (nI (j + 1))), (3, .int (nI (placeA f (worthS f s1) s1 (j + 1)))), (6, .int (nI 0)), (5, .int (zI (worthS f j))), (0, .ref h), (1, .int (nI s1)), (2, .int (zI (worthS f s1)))] := by
                    have heq0 : (.int (nI (placeA f (worthS f s1) s1 (j + 1))) : Value) = .int (nI ((placeA f (worthS f s1) s1 j) + 0)) := congrArg Value.int (congrArg nI (by show placeA f (worthS f s1) s1 j + b2 (aheadS f (worthS f s1) s1 j) = _; first | (rw [show aheadS f (worthS f s1) s1 j = true from decide_eq_true (by omega)]; rfl) | (rw [show aheadS f (worthS f s1) s1 j = false from decide_eq_false (by omega)]; rfl)))
                    rw [heq0]
                    exact hl
                  exact ih20  (j + 1) (by omega) (by omega) _ _ _ hP hD hS (hW) _ (lv_sub hl [4, 5, 6, 1, 0] rfl)
                · refine lv_iconst (v := (nI 1)) hx hb dX6_placeOf_63 (by decide) ?_
                  refine lv_goto (tgt := 68) hx hb dX6_placeOf_64 (by decide) ?_
                  refine lv_istore (lv' := [(6, .int (nI 1)), (5, .int (zI (worthS f j))), (0, .ref h), (1, .int (nI s1)), (2, .int (zI (worthS f s1))), (3, .int (nI (placeA f (worthS f s1) s1 j))), (4, .int (nI j))]) hx hb dX6_placeOf_68 hl (by decide) rfl (fun ls hl => ?_)
                  refine lv_iload_n hx hb dX6_placeOf_70 rfl (lv_at hl 5 rfl) ?_
                  refine lv_iload hx hb dX6_placeOf_71 (lv_at hl 0 rfl) ?_
                  refine k_if_eq_1 (tgt := 80) hx hb dX6_placeOf_73 (by decide) ?_
                  refine lv_iconst (v := (nI 1)) hx hb dX6_placeOf_76 (by decide) ?_
                  refine lv_goto (tgt := 81) hx hb dX6_placeOf_77 (by decide) ?_
                  refine n_add (x := placeA f (worthS f s1) s1 j) (y := 1) hx hb dX6_placeOf_81 ?_
                  refine lv_istore_n (lv' := [(3, .int (nI ((placeA f (worthS f s1) s1 j) + 1))), (6, .int (nI 1)), (5, .int (zI (worthS f j))), (0, .ref h), (1, .int (nI s1)), (2, .int (zI (worthS f s1))), (4, .int (nI j))]) hx hb dX6_placeOf_82 rfl hl (by decide) rfl (fun ls hl => ?_)
                  refine n_iinc (x := j) (k := 1) (lv' := [(4, .int (nI (j + 1))), (3, .int (nI ((placeA f (worthS f s1) s1 j) + 1))), (6, .int (nI 1)), (5, .int (zI (worthS f j))), (0, .ref h), (1, .int (nI s1)), (2, .int (zI (worthS f s1)))]) hx hb dX6_placeOf_83 rfl hl (q := 6) rfl (by decide) rfl (fun ls hl => ?_)
                  refine lv_goto (tgt := 20) hx hb dX6_placeOf_86 (by decide) ?_
                  have hl : lv_has ls 7 [(4, .int (nI (j + 1))), (3, .int (nI (placeA f (worthS f s1) s1 (j + 1)))), (6, .int (nI 1)), (5, .int (zI (worthS f j))), (0, .ref h), (1, .int (nI s1)), (2, .int (zI (worthS f s1)))] := by
                    have heq0 : (.int (nI (placeA f (worthS f s1) s1 (j + 1))) : Value) = .int (nI ((placeA f (worthS f s1) s1 j) + 1)) := congrArg Value.int (congrArg nI (by show placeA f (worthS f s1) s1 j + b2 (aheadS f (worthS f s1) s1 j) = _; first | (rw [show aheadS f (worthS f s1) s1 j = true from decide_eq_true (by omega)]; rfl) | (rw [show aheadS f (worthS f s1) s1 j = false from decide_eq_false (by omega)]; rfl)))
                    rw [heq0]
                    exact hl
                  exact ih20  (j + 1) (by omega) (by omega) _ _ _ hP hD hS (hW) _ (lv_sub hl [4, 5, 6, 1, 0] rfl)
    exact K20 (41 - 0 + 1) 0 (Nat.lt_succ_self _) (Nat.zero_le _) _ _ _ hP hD hS (hW) _ (lv_sub hl [3, 4, 2, 1, 0] rfl)
  · refine lv_iconst (v := (zI (-1))) hx hb dX6_placeOf_13 (by decide) ?_
    exact e_wi hx hb hr hlocks hP hD hS (⟨congrArg zI (by unfold placeS; rw [if_pos (by omega)]), hW⟩) dX6_placeOf_14
