set_option maxRecDepth 100000 in
set_option maxHeartbeats 4000000 in
theorem c_X5_pupil (l : Launch) (hst : l.stackTraces = false) (de mi : Nat) (D : va_G) (cy : Nat → ClassId) (M : mM) (sz : Nat) (B : Nat → Nat) (P : Nat → Option va_E) (cn : Nat → Nat) (x : Nat → Nat → Nat) (E : Nat → Nat → Option Nat) (nc : Nat) (y : Int32) (uy : Int) (z : Int32) (uz : Int) (b : Bool)  (hH : hHolds M B P) (hSH : SH de cy B P cn x E) (hN : NB nc cn x) (py : y.toInt = uy) (pz : z.toInt = uz) : mVi l yX5_pupil wsX5_pupil ({ frames := 7, cells := 4, slots := 90, locals := 178 } : Room) de mi D cy M sz [.ref (B 0), .int y, .int z, .int (nI (b2 b))] (fun r M' => (((0 ≤ uy ∧ uy < 4) ∧ 5 ≤ uz ∧ uz ≤ 16) ∧ cn 2 < 20) ∧ r = nI (cn 2) ∧ ∃ cap9, 10 ≤ cap9 ∧ cap9 ≤ 58 ∧ ∃ (B9 : Nat → Nat) (P9 : Nat → Option va_E) (E9 : Nat → Nat → Option Nat), hHolds M' B9 P9 ∧ SH de cy B9 P9 (va_up cn 2 (cn 2 + 1)) (va_up (va_up (va_up (xLst x 8 cap9 (x 1 8 + 1)) 7 (va_up (x 7) (cn 2) uy.toNat)) 8 (va_up (x 8) (cn 2) (if uz ≤ 7 then 0 else if uz ≤ 11 then 1 else 2))) 9 (va_up (x 9) (cn 2) (b2 b))) E9 ∧ B9 0 = B 0) (fun E9 => (E9 = "java/lang/IndexOutOfBoundsException" ∧ ¬ (0 ≤ uy ∧ uy < 4)) ∨ (E9 = "java/lang/IllegalArgumentException" ∧ (0 ≤ uy ∧ uy < 4) ∧ ¬ (5 ≤ uz ∧ uz ≤ 16)) ∨ (E9 = "java/lang/IllegalStateException" ∧ ((0 ≤ uy ∧ uy < 4) ∧ 5 ≤ uz ∧ uz ≤ 16) ∧ ¬ cn 2 < 20)) 4 90 := by
  refine mV.of (cc := cX5_pupil) (maxL := 4) (ret := (some .int)) (by decide) rfl (Nat.le_of_ble_eq_true rfl) ?_
  intro p e s m args below meth c ls hsz hx hb hr hts hown hlocks hml hout hname hP hD hS hA hK hX hl
  have hl : lv_has ls 4 [(0, .ref (B 0)), (1, .int y), (2, .int z), (3, .int (nI (b2 b)))] := hl
  have hown : s.vm.findClass RX5 = some m.cls := hown
  have hwX5 : ∀ w ∈ wsX50, w.before args s = true := fun w h => hts w (List.mem_cons_of_mem _ (List.mem_append_left _ (List.mem_append_left _ (List.mem_append_left _ (List.mem_append_left _ (List.mem_append_left _ (List.mem_append_right _ (h))))))))
  have hwX2 : ∀ w ∈ wsX20, w.before args s = true := fun w h => hts w (List.mem_cons_of_mem _ (List.mem_append_left _ (List.mem_append_left _ (List.mem_append_left _ (List.mem_append_left _ (List.mem_append_right _ (h)))))))
  have hwJx4a65c : ∀ w ∈ wsJx4a65c0, w.before args s = true := fun w h => hts w (List.mem_cons_of_mem _ (List.mem_append_left _ (List.mem_append_left _ (List.mem_append_left _ (List.mem_append_right _ (h))))))
  obtain ⟨hnc9, hc0, hc1, hc2, hc3, hxm⟩ := id hN
  have p_B_0 : P 0 = some (.inr (6, [.ref (B 1), .ref (B 3), .ref (B 6), .ref (B 8), .ref (B 10), .ref (B 12)])) := hSH.1.1
  have f_B_0 : M (B 0) = some (.inr (6, [.ref (B 1), .ref (B 3), .ref (B 6), .ref (B 8), .ref (B 10), .ref (B 12)])) := hH.1 _ _ p_B_0
  have p_B_8 : P 8 = some (.inr (0, [.int (nI (x 1 8)), .ref (B 9), .int (nI (cn 2))])) := hSH.2.2.1.1
  have f_B_8 : M (B 8) = some (.inr (0, [.int (nI (x 1 8)), .ref (B 9), .int (nI (cn 2))])) := hH.1 _ _ p_B_8
  have n_B_0_B_8 : nEq (B 0) (B 8) := hH.ne p_B_0 p_B_8 (by omega)
  refine lv_iload_n hx hb dX5_pupil_0 rfl (lv_at hl 1 rfl) ?_
  refine x_callv (vx_runS (As := [.int y]) (rest := []) ⟨hx, hb, hml, hown, hts⟩ (c_X5_checkClass l hst de mi D cy _ _ y uy py) (va_cwS 1 hts gX5_pupil_X5_checkClass rfl rfl rfl (by decide +kernel) ⟨Nat.le_of_ble_eq_true rfl, Nat.le_of_ble_eq_true rfl⟩) (mPreXS hX hD hS hA hK hP) rfl rfl hl.1 rfl (lv_room (Nat.le_of_ble_eq_true rfl)) dX5_pupil_1 ⟨Nat.le_of_ble_eq_true rfl, Nat.le_of_ble_eq_true rfl⟩) hD hA hS hout hlocks (fun E9 h9 => Or.inl h9) (Nat.le_of_ble_eq_true rfl) (Nat.le_of_ble_eq_true rfl) (fun Mn H locs hq9 hP hD hS hz9 => ?_)
  obtain ⟨hck_1, hq9⟩ := hq9
  rw [hq9] at hP hD
  refine lv_iload_n hx hb dX5_pupil_4 rfl (lv_at hl 2 rfl) ?_
  refine lv_iconst (v := (nI 5)) hx hb dX5_pupil_5 (by decide) ?_
  refine z_icmp_lt (u := uz) (v := ((5 : Nat) : Int)) (tgt := 15) hx hb (pz) (nI_toInt (by omega)) dX5_pupil_6 (by decide) (fun c_6 => ?_) (fun c_6 => ?_)
  · exact e_thS (text := "an age is 5 to 16") hx hb hst hown (by decide) (hts _ (List.mem_of_getElem? (i := 1) rfl)) (hts _ (List.mem_of_getElem? (i := 2) rfl)) (fun w h => hts w (List.mem_cons_of_mem _ (List.mem_append_left _ (List.mem_append_left _ (List.mem_append_right _ (h)))))) ng_A gd_A (by decide +kernel) hX hP hS (hl.1.trans hml.symm) dX5_pupil_15 dX5_pupil_18 dX5_pupil_19 dX5_pupil_21 dX5_pupil_24 hout (Nat.le_of_ble_eq_true rfl) (Nat.le_of_ble_eq_true rfl) (Nat.le_of_ble_eq_true rfl) (Nat.le_of_ble_eq_true rfl) hlocks (Or.inr (Or.inl ⟨rfl, by omega, by omega⟩)) (Nat.le_of_ble_eq_true rfl) (Nat.le_of_ble_eq_true rfl)
  · refine lv_iload_n hx hb dX5_pupil_9 rfl (lv_at hl 2 rfl) ?_
    refine lv_bipush (v := (nI 16)) hx hb dX5_pupil_10 (by decide) ?_
    refine z_icmp_le (u := uz) (v := ((16 : Nat) : Int)) (tgt := 25) hx hb (pz) (nI_toInt (by omega)) dX5_pupil_12 (by decide) (fun c_12 => ?_) (fun c_12 => ?_)
    · refine lv_aload_n hx hb dX5_pupil_25 rfl (lv_at hl 0 rfl) ?_
      refine m_get (T := TX5) (N := 6) (ci := 6) (fs := [.ref (B 1), .ref (B 3), .ref (B 6), .ref (B 8), .ref (B 10), .ref (B 12)]) hx hb hwX5 hown hK hP f_B_0 rfl 3 (by decide) (hts _ (List.mem_of_getElem? (i := 5) rfl)) (v := .ref (B 8)) rfl dX5_pupil_26 ?_
      refine vp_callSi (W.runV (C := RJx4a65c) (As := []) (rest := []) ⟨hx, hb, hml, hown, hts⟩ (c_Jx4a65c_size_8abf5 l D cy _ (B 8) (cn 2) (x 1 8) (B 9) (f_B_8)) (cwV 0 hts gX5_pupil_Jx4a65c_size_8abf5 rfl rfl rfl (by decide +kernel) ⟨Nat.le_of_ble_eq_true rfl, Nat.le_of_ble_eq_true rfl⟩) (mPreV hK hP f_B_8 (ci := 0) rfl) rfl rfl hl.1 rfl (lv_room (Nat.le_of_ble_eq_true rfl)) dX5_pupil_29 ⟨Nat.le_of_ble_eq_true rfl, Nat.le_of_ble_eq_true rfl⟩) (fun r9 hr9 => ?_)
      have hr9 : r9 = (nI (cn 2)) := hr9
      subst hr9
      refine lv_bipush (v := (nI 20)) hx hb dX5_pupil_32 (by decide) ?_
      refine z_icmp_lt (u := ((cn 2 : Nat) : Int)) (v := ((20 : Nat) : Int)) (tgt := 47) hx hb (nI_toInt (by omega)) (nI_toInt (by omega)) dX5_pupil_34 (by decide) (fun c_34 => ?_) (fun c_34 => ?_)
      · have ex_1 : y = (nI uy.toNat) := nI_of_toInt (py) (by omega)
        have hl : lv_has ls 4 [(0, .ref (B 0)), (1, .int (nI uy.toNat)), (2, .int z), (3, .int (nI (b2 b)))] := by
          rw [← ex_1]
          exact hl
        refine lv_aload_n hx hb dX5_pupil_47 rfl (lv_at hl 0 rfl) ?_
        refine m_get (T := TX5) (N := 6) (ci := 6) (fs := [.ref (B 1), .ref (B 3), .ref (B 6), .ref (B 8), .ref (B 10), .ref (B 12)]) hx hb hwX5 hown hK hP f_B_0 rfl 3 (by decide) (hts _ (List.mem_of_getElem? (i := 5) rfl)) (v := .ref (B 8)) rfl dX5_pupil_48 ?_
        refine m_new (T := TX2) (N := 3) (ci := 3) (fs := [.int (nI 0), .int (nI 0), .int (nI 0)]) hx hb hwX2 tyX2 tyX2_ok hown (hts _ (List.mem_of_getElem? (i := 6) rfl)) (hts _ (List.mem_of_getElem? (i := 7) rfl)) (hts _ (List.mem_of_getElem? (i := 8) rfl)) hK hP hD hS hA rfl (fun j hj => by rcases (show j = 0 ∨ j = 1 ∨ j = 2 by omega) with rfl | rfl | rfl <;> rfl) (Nat.le_of_ble_eq_true rfl) (Nat.le_of_ble_eq_true rfl) dX5_pupil_51 (fun q_1 H hn_q_1 hq_q_1 hz_q_1 hP hD hS => ?_)
        have n_B_0_q_1 : B 0 ≠ q_1 := ne_none (f_B_0) hn_q_1
        have n_B_8_q_1 : B 8 ≠ q_1 := ne_none (f_B_8) hn_q_1
        have hP : pm D (mset M q_1 (.inr (3, [.int (nI 0), .int (nI 0), .int (nI 0)]))) H := hP
        have hD : mD (mA M sz) (mset M q_1 (.inr (3, [.int (nI 0), .int (nI 0), .int (nI 0)]))) := hD
        refine lv_dup hx hb dX5_pupil_54 rfl ?_
        refine lv_iload_n hx hb dX5_pupil_55 rfl (lv_at hl 1 rfl) ?_
        refine lv_iload_n hx hb dX5_pupil_56 rfl (lv_at hl 2 rfl) ?_
        refine vp_callSi (W.runS (As := [.int z]) (rest := [.int (nI uy.toNat), .ref q_1, .ref q_1, .ref (B 8)]) ⟨hx, hb, hml, hown, hts⟩ (c_X5_bandOf l z uz pz) (va_cwS 1 hts gX5_pupil_X5_bandOf rfl rfl rfl (by decide +kernel) ⟨Nat.le_of_ble_eq_true rfl, Nat.le_of_ble_eq_true rfl⟩) mPre0 rfl rfl hl.1 rfl (lv_room (Nat.le_of_ble_eq_true rfl)) dX5_pupil_57 ⟨Nat.le_of_ble_eq_true rfl, Nat.le_of_ble_eq_true rfl⟩) (fun r9 hr9 => ?_)
        have hr9 : r9 = (nI (if uz ≤ 7 then 0 else if uz ≤ 11 then 1 else 2)) := hr9
        subst hr9
        refine lv_iload_n hx hb dX5_pupil_60 rfl (lv_at hl 3 rfl) ?_
        refine m_callv (va_runI (As := [.int (nI uy.toNat), .int (nI (if uz ≤ 7 then 0 else if uz ≤ 11 then 1 else 2)), .int (nI (b2 b))]) (rest := [.ref q_1, .ref (B 8)]) ⟨hx, hb, hml, hown, hts⟩ (c_X2_init l D cy _ _ q_1 uy.toNat (if uz ≤ 7 then 0 else if uz ≤ 11 then 1 else 2) (b2 b) (mset_self _ _ _) (b2_le b)) (cwI 3 hts gX5_pupil_X2_init rfl rfl rfl (hts _ (List.mem_of_getElem? (i := 8) rfl)) (hts _ (List.mem_of_getElem? (i := 24) rfl)) (hts _ (List.mem_of_getElem? (i := 25) rfl)) rfl (by decide +kernel) ⟨Nat.le_of_ble_eq_true rfl, Nat.le_of_ble_eq_true rfl⟩) (mPreWS hK hP) rfl rfl hl.1 rfl (lv_room (Nat.le_of_ble_eq_true rfl)) dX5_pupil_61 ⟨Nat.le_of_ble_eq_true rfl, Nat.le_of_ble_eq_true rfl⟩) hD hA hS (fun Mn H locs hq9 hP hD hS hz9 hd9 hk9 => ?_)
        have hq9 : Mn = (mset (mset M q_1 (.inr (3, [.int (nI 0), .int (nI 0), .int (nI 0)]))) q_1 (.inr (3, [.int (nI uy.toNat), .int (nI (if uz ≤ 7 then 0 else if uz ≤ 11 then 1 else 2)), .int (nI (b2 b))]))) := hq9
        subst hq9
        rw [mset_mset _ q_1 (.inr (3, [.int (nI 0), .int (nI 0), .int (nI 0)])) (.inr (3, [.int (nI uy.toNat), .int (nI (if uz ≤ 7 then 0 else if uz ≤ 11 then 1 else 2)), .int (nI (b2 b))]))] at hP hD
        have hcs8 := LI.add (M := M) (M1 := (mset M q_1 (.inr (3, [.int (nI uy.toNat), .int (nI (if uz ≤ 7 then 0 else if uz ≤ 11 then 1 else 2)), .int (nI (b2 b))])))) hSH.2.2.1 hH (fun a9 h9 => mset_ne (fun z9 => h9 (by rw [z9]; exact hn_q_1))) (by omega) (ci := 3) (fs := puF x) (fun j hj => hSH.2.2.2.2.2.1 j hj) (r := (RX2, TX2, 3)) rfl (C := "InkHall$Pupil") rfl (by decide)
        obtain ⟨hcs9, hel9, hnol9⟩ := hcs8
        have hde9 : (mset M q_1 (.inr (3, [.int (nI uy.toNat), .int (nI (if uz ≤ 7 then 0 else if uz ≤ 11 then 1 else 2)), .int (nI (b2 b))]))) de = none := (by cases hz8 : (mset M q_1 (.inr (3, [.int (nI uy.toNat), .int (nI (if uz ≤ 7 then 0 else if uz ≤ 11 then 1 else 2)), .int (nI (b2 b))]))) de with | none => rfl | some e8 => exact absurd (hD de (by rw [hz8]; exact fun z => by cases z)) hX.2.1.out)
        refine m_calli (va_runV (C := RJx4a65c) (As := [.ref q_1]) (rest := []) ⟨hx, hb, hml, hown, hts⟩ (c_listAdd l de mi D cy _ _ (B 8) (B 9) (cn 2) (x 1 8) (x 0 8) (E 8) q_1 3 [.int (nI uy.toNat), .int (nI (if uz ≤ 7 then 0 else if uz ≤ 11 then 1 else 2)), .int (nI (b2 b))] (RX2, TX2, 3) "InkHall$Pupil" ((mset_ne n_B_8_q_1).trans (f_B_8)) (mset_self _ _ _) (Ne.symm n_B_8_q_1) rfl rfl (by decide) hcs9 hel9 hnol9) (cwV 1 hts gX5_pupil_Jx4a65c_add_9ea2d rfl rfl rfl (by decide +kernel) ⟨Nat.le_of_ble_eq_true rfl, Nat.le_of_ble_eq_true rfl⟩) (mPreXV hX hD hS hA hK hP ((mset_ne n_B_8_q_1).trans (f_B_8)) (ci := 0) rfl) rfl rfl hl.1 rfl (lv_room (Nat.le_of_ble_eq_true rfl)) dX5_pupil_64 ⟨Nat.le_of_ble_eq_true rfl, Nat.le_of_ble_eq_true rfl⟩) hD hA hS (fun r9 Mn H locs hq9 hP hD hS hz9 hd9 hk9 => ?_)
        obtain ⟨hr9, el9, cap9, g9, hq9, hel8, hc10, hc58, hcn, hg9, hgn⟩ := hq9
        have hr9 : r9 = nI 1 := hr9
        subst hr9
        have hrw9 := LI.row hSH.2.2.1 hde9 hel8
        rw [hq9] at hP hD
        have hel0 : B 0 ≠ el9 := (by rcases hrw9 with ⟨h8, h7⟩ | h8; (rw [h8]; exact fun z9 => absurd (hH.2 0 9 (p_ne p_B_0) h7 z9) (by decide)); exact ne_none (M := (mset M q_1 (.inr (3, [.int (nI uy.toNat), .int (nI (if uz ≤ 7 then 0 else if uz ≤ 11 then 1 else 2)), .int (nI (b2 b))])))) ((mset_ne n_B_0_q_1).trans (f_B_0)) h8)
        refine lv_pop hx hb dX5_pupil_67 rfl ?_
        refine lv_aload_n hx hb dX5_pupil_68 rfl (lv_at hl 0 rfl) ?_
        refine m_get (T := TX5) (N := 6) (ci := 6) (fs := [.ref (B 1), .ref (B 3), .ref (B 6), .ref (B 8), .ref (B 10), .ref (B 12)]) hx hb hwX5 hown hK hP ((mset_ne n_B_0_B_8).trans ((mset_ne hel0).trans ((mset_ne n_B_0_q_1).trans (f_B_0)))) rfl 3 (by decide) (hts _ (List.mem_of_getElem? (i := 5) rfl)) (v := .ref (B 8)) rfl dX5_pupil_69 ?_
        refine vp_callSi (W.runV (C := RJx4a65c) (As := []) (rest := []) ⟨hx, hb, hml, hown, hts⟩ (c_Jx4a65c_size_8abf5 l D cy _ (B 8) (cn 2 + 1) (x 1 8 + 1) el9 (mset_self _ _ _)) (cwV 0 hts gX5_pupil_Jx4a65c_size_8abf5 rfl rfl rfl (by decide +kernel) ⟨Nat.le_of_ble_eq_true rfl, Nat.le_of_ble_eq_true rfl⟩) (mPreV hK hP (mset_self _ _ _) (ci := 0) rfl) rfl rfl hl.1 rfl (lv_room (Nat.le_of_ble_eq_true rfl)) dX5_pupil_72 ⟨Nat.le_of_ble_eq_true rfl, Nat.le_of_ble_eq_true rfl⟩) (fun r9 hr9 => ?_)
        have hr9 : r9 = (nI (cn 2 + 1)) := hr9
        subst hr9
        refine lv_iconst (v := (nI 1)) hx hb dX5_pupil_75 (by decide) ?_
        refine n_sub (x := cn 2 + 1) (y := 1) hx hb (by omega) dX5_pupil_76 ?_
        have hfin9 := ((hH.move (40 + 1 * cn 2) q_1 (.inr (3, [.int (nI uy.toNat), .int (nI (if uz ≤ 7 then 0 else if uz ≤ 11 then 1 else 2)), .int (nI (b2 b))])) hn_q_1).row 9 el9 (eQ cy cap9 g9) (by rcases hrw9 with ⟨h8, h7⟩ | h8; exact Or.inl ⟨by rw [va_up_ne _ _ (by omega)]; exact h8, by rw [va_up_ne _ _ (by omega)]; exact h7⟩; exact Or.inr h8)).put 8 (.inr (0, [.int (nI (x 1 8 + 1)), .ref el9, .int (nI (cn 2 + 1))])) (by rw [va_up_ne _ _ (by omega), va_up_ne _ _ (by omega)]; exact p_ne p_B_8)
        rw [show va_up (va_up B (40 + 1 * cn 2) q_1) 9 el9 8 = B 8 from (by rw [va_up_ne _ _ (by omega), va_up_ne _ _ (by omega)])] at hfin9
        exact vx_ret (e_wi hx hb hr hlocks hP hD hS (⟨⟨by omega, by omega⟩, (congrArg nI (by omega)), cap9, hc10, hc58, _, _, _, hfin9, hSH.pupil hc1 (by omega) q_1 el9 cap9 _ _ _ g9 hc10 hc58 hcn hg9 hgn, (by rw [va_up_ne _ _ (by omega), va_up_ne _ _ (by omega)])⟩) dX5_pupil_77)
      · exact e_thS (text := "there are all pupils that there can be") hx hb hst hown (by decide) (hts _ (List.mem_of_getElem? (i := 3) rfl)) (hts _ (List.mem_of_getElem? (i := 4) rfl)) (fun w h => hts w (List.mem_cons_of_mem _ (List.mem_append_left _ (List.mem_append_right _ (h))))) ng_S gd_S (by decide +kernel) hX hP hS (hl.1.trans hml.symm) dX5_pupil_37 dX5_pupil_40 dX5_pupil_41 dX5_pupil_43 dX5_pupil_46 hout (Nat.le_of_ble_eq_true rfl) (Nat.le_of_ble_eq_true rfl) (Nat.le_of_ble_eq_true rfl) (Nat.le_of_ble_eq_true rfl) hlocks (Or.inr (Or.inr ⟨rfl, by omega, by omega⟩)) (Nat.le_of_ble_eq_true rfl) (Nat.le_of_ble_eq_true rfl)
    · exact e_thS (text := "an age is 5 to 16") hx hb hst hown (by decide) (hts _ (List.mem_of_getElem? (i := 1) rfl)) (hts _ (List.mem_of_getElem? (i := 2) rfl)) (fun w h => hts w (List.mem_cons_of_mem _ (List.mem_append_left _ (List.mem_append_left _ (List.mem_append_right _ (h)))))) ng_A gd_A (by decide +kernel) hX hP hS (hl.1.trans hml.symm) dX5_pupil_15 dX5_pupil_18 dX5_pupil_19 dX5_pupil_21 dX5_pupil_24 hout (Nat.le_of_ble_eq_true rfl) (Nat.le_of_ble_eq_true rfl) (Nat.le_of_ble_eq_true rfl) (Nat.le_of_ble_eq_true rfl) hlocks (Or.inr (Or.inl ⟨rfl, by omega, by omega⟩)) (Nat.le_of_ble_eq_true rfl) (Nat.le_of_ble_eq_true rfl)
