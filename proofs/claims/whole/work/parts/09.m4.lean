set_option maxRecDepth 100000 in
set_option maxHeartbeats 4000000 in
/-- stroke -/
theorem c_X6_stroke (l : Launch) (D : va_G) (cy : Nat → ClassId) (M : mM) (sz : Nat) (h : Nat) (ad : Nat → Nat) (t : Nat) (i : Nat → Nat) (f : Nat → Nat → Nat) (nc : Nat)  (x : Int32) (ux : Int) (y : Int32) (uy : Int) (hW : MW cy M h ad t i f) (hI : MI nc i f)  (px : x.toInt = ux) (py : y.toInt = uy) : mWi l yX6_stroke wsX6_stroke ({ frames := 1, cells := 0, slots := 0, locals := 22 } : Room) D cy M sz [.ref h, .int x, .int y] (mPost cy h ad (oStroke ux uy i f)) 0 0 := by
  refine mW.of (cc := cX6_stroke) (maxL := 3) (ret := (some .int)) (by decide) rfl (Nat.le_of_ble_eq_true rfl) ?_
  intro p e s m args below meth c ls hsz hx hb hr hts hown hlocks hml hname hP hD hS hA hK hl
  have hl : lv_has ls 3 [(0, .ref h), (1, .int x), (2, .int y)] := hl
  have hown : s.vm.findClass RX6 = some m.cls := hown
  have hwX6 : ∀ w ∈ wsX60, w.before args s = true := fun w h => hts w (List.mem_cons_of_mem _ (List.mem_append_right _ (h)))
  obtain ⟨hn, hi1, hi2, hi5, hi10, -⟩ := id hI
  have rgx := i32_rng x
  rw [px] at rgx
  have rgy := i32_rng y
  rw [py] at rgy
  refine lv_aload_n hx hb dX6_stroke_0 rfl (lv_at hl 0 rfl) ?_
  refine lv_iload_n hx hb dX6_stroke_1 rfl (lv_at hl 1 rfl) ?_
  refine lv_iconst (v := (nI 0)) hx hb dX6_stroke_2 (by decide) ?_
  refine lv_bipush (v := (nI 8)) hx hb dX6_stroke_3 (by decide) ?_
  refine vp_callSi (W.runS (As := [.int x, .int (nI 0), .int (nI 8)]) (rest := [.ref h]) ⟨hx, hb, hml, hown, hts⟩ (c_X6_in l x (nI 0) (nI 8) ux ((0 : Nat) : Int) ((8 : Nat) : Int) (px) (nI_toInt (by omega)) (nI_toInt (by omega))) (va_cwS 3 hts gX6_stroke_X6_in rfl rfl rfl (by decide +kernel) ⟨Nat.le_of_ble_eq_true rfl, Nat.le_of_ble_eq_true rfl⟩) mPre0 rfl rfl hl.1 rfl (lv_room (Nat.le_of_ble_eq_true rfl)) dX6_stroke_5 ⟨Nat.le_of_ble_eq_true rfl, Nat.le_of_ble_eq_true rfl⟩) (fun r9 hr9 => ?_)
  have hr9 : r9 = (nI (b2 (inB ux ((0 : Nat) : Int) ((8 : Nat) : Int)))) := hr9
  subst hr9
  refine b_if_eq (b := inB ux ((0 : Nat) : Int) ((8 : Nat) : Int)) (tgt := 25) hx hb dX6_stroke_8 (by decide) (fun c_8 => ?_) (fun c_8 => ?_)
  · have c_8 := inB_f c_8
    refine lv_iconst (v := (nI 0)) hx hb dX6_stroke_25 (by decide) ?_
    refine m_calli (va_runV (C := RX6) (As := [.int (nI 0)]) (rest := []) ⟨hx, hb, hml, hown, hts⟩ (c_X6_asks l D cy _ _ h ad t i f nc false hW hI) (cwV 1 hts gX6_stroke_X6_asks rfl rfl rfl (by decide +kernel) ⟨Nat.le_of_ble_eq_true rfl, Nat.le_of_ble_eq_true rfl⟩) (mPreWV hK hP hW.1 (ci := 7) rfl) rfl rfl hl.1 rfl (lv_room (Nat.le_of_ble_eq_true rfl)) dX6_stroke_26 ⟨Nat.le_of_ble_eq_true rfl, Nat.le_of_ble_eq_true rfl⟩) hD hA hS (fun r9 Mn H locs hq9 hP hD hS hz9 hd9 hk9 => ?_)
    obtain ⟨hr9, hW⟩ := hq9
    have hr9 : r9 = (nI 0) := hr9
    subst hr9
    have hW : MW cy Mn h ad 1 i f := hW
    refine k_if_ne_0 (tgt := 34) hx hb dX6_stroke_29 (by decide) ?_
    refine lv_iconst (v := (nI 0)) hx hb dX6_stroke_32 (by decide) ?_
    exact e_wi hx hb hr hlocks hP hD hS (mPost_of (a := 1) (b := ((0 : Nat) : Int)) (i := i) (f := f) (by unfold oStroke; (repeat (first | rw [if_pos (by omega)] | rw [if_neg (by omega)])); (first | done | rfl | omega)) (nI_zI _) hW) dX6_stroke_33
  · have c_8 := inB_t c_8
    refine lv_iload_n hx hb dX6_stroke_11 rfl (lv_at hl 2 rfl) ?_
    refine lv_iconst (v := (nI 0)) hx hb dX6_stroke_12 (by decide) ?_
    refine lv_bipush (v := (nI 8)) hx hb dX6_stroke_13 (by decide) ?_
    refine vp_callSi (W.runS (As := [.int y, .int (nI 0), .int (nI 8)]) (rest := [.ref h]) ⟨hx, hb, hml, hown, hts⟩ (c_X6_in l y (nI 0) (nI 8) uy ((0 : Nat) : Int) ((8 : Nat) : Int) (py) (nI_toInt (by omega)) (nI_toInt (by omega))) (va_cwS 3 hts gX6_stroke_X6_in rfl rfl rfl (by decide +kernel) ⟨Nat.le_of_ble_eq_true rfl, Nat.le_of_ble_eq_true rfl⟩) mPre0 rfl rfl hl.1 rfl (lv_room (Nat.le_of_ble_eq_true rfl)) dX6_stroke_15 ⟨Nat.le_of_ble_eq_true rfl, Nat.le_of_ble_eq_true rfl⟩) (fun r9 hr9 => ?_)
    have hr9 : r9 = (nI (b2 (inB uy ((0 : Nat) : Int) ((8 : Nat) : Int)))) := hr9
    subst hr9
    refine b_if_eq (b := inB uy ((0 : Nat) : Int) ((8 : Nat) : Int)) (tgt := 25) hx hb dX6_stroke_18 (by decide) (fun c_18 => ?_) (fun c_18 => ?_)
    · have c_18 := inB_f c_18
      refine lv_iconst (v := (nI 0)) hx hb dX6_stroke_25 (by decide) ?_
      refine m_calli (va_runV (C := RX6) (As := [.int (nI 0)]) (rest := []) ⟨hx, hb, hml, hown, hts⟩ (c_X6_asks l D cy _ _ h ad t i f nc false hW hI) (cwV 1 hts gX6_stroke_X6_asks rfl rfl rfl (by decide +kernel) ⟨Nat.le_of_ble_eq_true rfl, Nat.le_of_ble_eq_true rfl⟩) (mPreWV hK hP hW.1 (ci := 7) rfl) rfl rfl hl.1 rfl (lv_room (Nat.le_of_ble_eq_true rfl)) dX6_stroke_26 ⟨Nat.le_of_ble_eq_true rfl, Nat.le_of_ble_eq_true rfl⟩) hD hA hS (fun r9 Mn H locs hq9 hP hD hS hz9 hd9 hk9 => ?_)
      obtain ⟨hr9, hW⟩ := hq9
      have hr9 : r9 = (nI 0) := hr9
      subst hr9
      have hW : MW cy Mn h ad 1 i f := hW
      refine k_if_ne_0 (tgt := 34) hx hb dX6_stroke_29 (by decide) ?_
      refine lv_iconst (v := (nI 0)) hx hb dX6_stroke_32 (by decide) ?_
      exact e_wi hx hb hr hlocks hP hD hS (mPost_of (a := 1) (b := ((0 : Nat) : Int)) (i := i) (f := f) (by unfold oStroke; (repeat (first | rw [if_pos (by omega)] | rw [if_neg (by omega)])); (first | done | rfl | omega)) (nI_zI _) hW) dX6_stroke_33
    · have c_18 := inB_t c_18
      refine lv_iconst (v := (nI 1)) hx hb dX6_stroke_21 (by decide) ?_
      refine lv_goto (tgt := 26) hx hb dX6_stroke_22 (by decide) ?_
      refine m_calli (va_runV (C := RX6) (As := [.int (nI 1)]) (rest := []) ⟨hx, hb, hml, hown, hts⟩ (c_X6_asks l D cy _ _ h ad t i f nc true hW hI) (cwV 1 hts gX6_stroke_X6_asks rfl rfl rfl (by decide +kernel) ⟨Nat.le_of_ble_eq_true rfl, Nat.le_of_ble_eq_true rfl⟩) (mPreWV hK hP hW.1 (ci := 7) rfl) rfl rfl hl.1 rfl (lv_room (Nat.le_of_ble_eq_true rfl)) dX6_stroke_26 ⟨Nat.le_of_ble_eq_true rfl, Nat.le_of_ble_eq_true rfl⟩) hD hA hS (fun r9 Mn H locs hq9 hP hD hS hz9 hd9 hk9 => ?_)
      obtain ⟨hr9, hW⟩ := hq9
      have hr9 : r9 = (nI 1) := hr9
      subst hr9
      have hW : MW cy Mn h ad 0 i f := hW
      refine k_if_ne_1 (tgt := 34) hx hb dX6_stroke_29 (by decide) ?_
      have ex_1 : x = (nI ux.toNat) := nI_of_toInt (px) (by omega)
      have ex_2 : y = (nI uy.toNat) := nI_of_toInt (py) (by omega)
      have hl : lv_has ls 3 [(0, .ref h), (1, .int (nI ux.toNat)), (2, .int (nI uy.toNat))] := by
        rw [← ex_1, ← ex_2]
        exact hl
      refine lv_iload_n hx hb dX6_stroke_34 rfl (lv_at hl 1 rfl) ?_
      refine lv_iload_n hx hb dX6_stroke_35 rfl (lv_at hl 2 rfl) ?_
      refine z_icmp_ne (u := ((ux.toNat : Nat) : Int)) (v := ((uy.toNat : Nat) : Int)) (tgt := 45) hx hb (nI_toInt (by omega)) (nI_toInt (by omega)) dX6_stroke_36 (by decide) (fun c_36 => ?_) (fun c_36 => ?_)
      · refine lv_aload_n hx hb dX6_stroke_45 rfl (lv_at hl 0 rfl) ?_
        refine m_get (T := TX6) (N := 24) (ci := 7) (fs := (moF ad 0 i)) hx hb hwX6 hown hK hP hW.1 rfl 1 (by decide) (hts _ (List.mem_of_getElem? (i := 1) rfl)) (v := .int (nI (i 1))) rfl dX6_stroke_46 ?_
        refine lv_bipush (v := (nI 8)) hx hb dX6_stroke_49 (by decide) ?_
        refine z_icmp_ne (u := ((i 1 : Nat) : Int)) (v := ((8 : Nat) : Int)) (tgt := 60) hx hb (nI_toInt (by omega)) (nI_toInt (by omega)) dX6_stroke_51 (by decide) (fun c_51 => ?_) (fun c_51 => ?_)
        · refine lv_aload_n hx hb dX6_stroke_60 rfl (lv_at hl 0 rfl) ?_
          refine m_get (T := TX6) (N := 24) (ci := 7) (fs := (moF ad 0 i)) hx hb hwX6 hown hK hP hW.1 rfl 0 (by decide) (hts _ (List.mem_of_getElem? (i := 2) rfl)) (v := .ref (ad 0)) rfl dX6_stroke_61 ?_
          refine lv_aload_n hx hb dX6_stroke_64 rfl (lv_at hl 0 rfl) ?_
          refine m_get (T := TX6) (N := 24) (ci := 7) (fs := (moF ad 0 i)) hx hb hwX6 hown hK hP hW.1 rfl 1 (by decide) (hts _ (List.mem_of_getElem? (i := 1) rfl)) (v := .int (nI (i 1))) rfl dX6_stroke_65 ?_
          refine lv_bipush (v := (nI 10)) hx hb dX6_stroke_68 (by decide) ?_
          refine lv_iload_n hx hb dX6_stroke_70 rfl (lv_at hl 1 rfl) ?_
          refine n_mul (x := 10) (y := ux.toNat) hx hb dX6_stroke_71 ?_
          refine lv_iload_n hx hb dX6_stroke_72 rfl (lv_at hl 2 rfl) ?_
          refine n_add (x := 10 * ux.toNat) (y := uy.toNat) hx hb dX6_stroke_73 ?_
          refine n_iast (g := (f 0)) (n := 8) (i := i 1) (v := (10 * ux.toNat) + uy.toNat) hx hb hK hP hD hS (hW.2.1 0 (by decide)) (by omega) (by omega) dX6_stroke_74 (fun H locs hP hD hS => ?_)
          have hW := hW.setI 0 (by decide) (va_up (f 0) (i 1) ((10 * ux.toNat) + uy.toNat))
          refine lv_aload_n hx hb dX6_stroke_75 rfl (lv_at hl 0 rfl) ?_
          refine lv_dup hx hb dX6_stroke_76 rfl ?_
          refine m_get (T := TX6) (N := 24) (ci := 7) (fs := (moF ad 0 i)) hx hb hwX6 hown hK hP hW.1 rfl 1 (by decide) (hts _ (List.mem_of_getElem? (i := 1) rfl)) (v := .int (nI (i 1))) rfl dX6_stroke_77 ?_
          refine lv_iconst (v := (nI 1)) hx hb dX6_stroke_80 (by decide) ?_
          refine n_add (x := i 1) (y := 1) hx hb dX6_stroke_81 ?_
          refine m_put (T := TX6) (N := 24) (ci := 7) (fs := (moF ad 0 i)) (v := .int (nI ((i 1) + 1))) hx hb hwX6 tyX6 tyX6_ok nmX6 hown hK hP hD hS hW.1 rfl 1 (by decide) (hts _ (List.mem_of_getElem? (i := 1) rfl)) rfl (rfl) rfl (Nat.le_of_ble_eq_true rfl) dX6_stroke_82 (fun H locs hP hD hS => ?_)
          have hW := hW.setO 0 (va_up i 1 ((i 1) + 1))
          refine lv_aload_n hx hb dX6_stroke_85 rfl (lv_at hl 0 rfl) ?_
          refine m_get (T := TX6) (N := 24) (ci := 7) (fs := (moF ad 0 (va_up i 1 ((i 1) + 1)))) hx hb hwX6 hown hK hP hW.1 rfl 1 (by decide) (hts _ (List.mem_of_getElem? (i := 1) rfl)) (v := .int (nI ((i 1) + 1))) rfl dX6_stroke_86 ?_
          exact e_wi hx hb hr hlocks hP hD hS (mPost_of (a := 0) (b := (((i 1) + 1 : Nat) : Int)) (i := va_up i 1 ((i 1) + 1)) (f := va_up f 0 (va_up (f 0) (i 1) ((10 * ux.toNat) + uy.toNat))) (by unfold oStroke; (repeat (first | rw [if_pos (by omega)] | rw [if_neg (by omega)])); (first | done | rfl | omega)) (nI_zI _) hW) dX6_stroke_89
        · refine lv_aload_n hx hb dX6_stroke_54 rfl (lv_at hl 0 rfl) ?_
          refine lv_iconst (v := (nI 3)) hx hb dX6_stroke_55 (by decide) ?_
          refine m_calli (va_runV (C := RX6) (As := [.int (nI 3)]) (rest := []) ⟨hx, hb, hml, hown, hts⟩ (c_X6_fails l D cy _ _ h ad 0 i f nc 3 hW hI) (cwV 1 hts gX6_stroke_X6_fails rfl rfl rfl (by decide +kernel) ⟨Nat.le_of_ble_eq_true rfl, Nat.le_of_ble_eq_true rfl⟩) (mPreWV hK hP hW.1 (ci := 7) rfl) rfl rfl hl.1 rfl (lv_room (Nat.le_of_ble_eq_true rfl)) dX6_stroke_56 ⟨Nat.le_of_ble_eq_true rfl, Nat.le_of_ble_eq_true rfl⟩) hD hA hS (fun r9 Mn H locs hq9 hP hD hS hz9 hd9 hk9 => ?_)
          obtain ⟨hr9, hW⟩ := hq9
          have hr9 : r9 = (nI 0) := hr9
          subst hr9
          have hW : MW cy Mn h ad 3 i f := hW
          exact e_wi hx hb hr hlocks hP hD hS (mPost_of (a := 3) (b := ((0 : Nat) : Int)) (i := i) (f := f) (by unfold oStroke; (repeat (first | rw [if_pos (by omega)] | rw [if_neg (by omega)])); (first | done | rfl | omega)) (nI_zI _) hW) dX6_stroke_59
      · refine lv_aload_n hx hb dX6_stroke_39 rfl (lv_at hl 0 rfl) ?_
        refine lv_iconst (v := (nI 2)) hx hb dX6_stroke_40 (by decide) ?_
        refine m_calli (va_runV (C := RX6) (As := [.int (nI 2)]) (rest := []) ⟨hx, hb, hml, hown, hts⟩ (c_X6_fails l D cy _ _ h ad 0 i f nc 2 hW hI) (cwV 1 hts gX6_stroke_X6_fails rfl rfl rfl (by decide +kernel) ⟨Nat.le_of_ble_eq_true rfl, Nat.le_of_ble_eq_true rfl⟩) (mPreWV hK hP hW.1 (ci := 7) rfl) rfl rfl hl.1 rfl (lv_room (Nat.le_of_ble_eq_true rfl)) dX6_stroke_41 ⟨Nat.le_of_ble_eq_true rfl, Nat.le_of_ble_eq_true rfl⟩) hD hA hS (fun r9 Mn H locs hq9 hP hD hS hz9 hd9 hk9 => ?_)
        obtain ⟨hr9, hW⟩ := hq9
        have hr9 : r9 = (nI 0) := hr9
        subst hr9
        have hW : MW cy Mn h ad 2 i f := hW
        exact e_wi hx hb hr hlocks hP hD hS (mPost_of (a := 2) (b := ((0 : Nat) : Int)) (i := i) (f := f) (by unfold oStroke; (repeat (first | rw [if_pos (by omega)] | rw [if_neg (by omega)])); (first | done | rfl | omega)) (nI_zI _) hW) dX6_stroke_44

set_option maxRecDepth 100000 in
set_option maxHeartbeats 4000000 in
/-- lift -/
theorem c_X6_lift (l : Launch) (D : va_G) (cy : Nat → ClassId) (M : mM) (sz : Nat) (h : Nat) (ad : Nat → Nat) (t : Nat) (i : Nat → Nat) (f : Nat → Nat → Nat) (nc : Nat)  (hW : MW cy M h ad t i f) (hI : MI nc i f)  : mWi l yX6_lift wsX6_lift ({ frames := 0, cells := 0, slots := 0, locals := 0 } : Room) D cy M sz [.ref h] (mPost cy h ad (oLift  i f)) 0 0 := by
  refine mW.of (cc := cX6_lift) (maxL := 2) (ret := (some .int)) (by decide) rfl (Nat.le_of_ble_eq_true rfl) ?_
  intro p e s m args below meth c ls hsz hx hb hr hts hown hlocks hml hname hP hD hS hA hK hl
  have hl : lv_has ls 2 [(0, .ref h)] := hl
  have hown : s.vm.findClass RX6 = some m.cls := hown
  have hwX6 : ∀ w ∈ wsX60, w.before args s = true := fun w h => hts w (List.mem_cons_of_mem _ (List.mem_append_right _ (h)))
  obtain ⟨hn, hi1, hi2, hi5, hi10, -⟩ := id hI
  refine lv_aload_n hx hb dX6_lift_0 rfl (lv_at hl 0 rfl) ?_
  refine lv_iconst (v := (nI 0)) hx hb dX6_lift_1 (by decide) ?_
  refine m_put (T := TX6) (N := 24) (ci := 7) (fs := (moF ad t i)) (v := .int (nI 0)) hx hb hwX6 tyX6 tyX6_ok nmX6 hown hK hP hD hS hW.1 rfl 22 (by decide) (hts _ (List.mem_of_getElem? (i := 1) rfl)) rfl (rfl) rfl (Nat.le_of_ble_eq_true rfl) dX6_lift_2 (fun H locs hP hD hS => ?_)
  have hW := hW.setO 0 i
  refine lv_aload_n hx hb dX6_lift_5 rfl (lv_at hl 0 rfl) ?_
  refine m_get (T := TX6) (N := 24) (ci := 7) (fs := (moF ad 0 i)) hx hb hwX6 hown hK hP hW.1 rfl 1 (by decide) (hts _ (List.mem_of_getElem? (i := 2) rfl)) (v := .int (nI (i 1))) rfl dX6_lift_6 ?_
  refine lv_istore_n (lv' := [(1, .int (nI (i 1))), (0, .ref h)]) hx hb dX6_lift_9 rfl hl (by decide) rfl (fun ls hl => ?_)
  refine lv_aload_n hx hb dX6_lift_10 rfl (lv_at hl 1 rfl) ?_
  refine lv_iconst (v := (nI 0)) hx hb dX6_lift_11 (by decide) ?_
  refine m_put (T := TX6) (N := 24) (ci := 7) (fs := (moF ad 0 i)) (v := .int (nI 0)) hx hb hwX6 tyX6 tyX6_ok nmX6 hown hK hP hD hS hW.1 rfl 1 (by decide) (hts _ (List.mem_of_getElem? (i := 2) rfl)) rfl (rfl) rfl (Nat.le_of_ble_eq_true rfl) dX6_lift_12 (fun H locs hP hD hS => ?_)
  have hW := hW.setO 0 (va_up i 1 0)
  refine lv_iload_n hx hb dX6_lift_15 rfl (lv_at hl 0 rfl) ?_
  exact e_wi hx hb hr hlocks hP hD hS (mPost_of (a := 0) (b := ((i 1 : Nat) : Int)) (i := va_up i 1 0) (f := f) (by unfold oLift; (repeat (first | rw [if_pos (by omega)] | rw [if_neg (by omega)])); (first | done | rfl | omega)) (nI_zI _) hW) dX6_lift_16

set_option maxRecDepth 100000 in
set_option maxHeartbeats 4000000 in
/-- strokeOf -/
theorem c_X6_strokeOf (l : Launch) (D : va_G) (cy : Nat → ClassId) (M : mM) (sz : Nat) (h : Nat) (ad : Nat → Nat) (t : Nat) (i : Nat → Nat) (f : Nat → Nat → Nat) (nc : Nat)  (x : Int32) (ux : Int) (y : Int32) (uy : Int) (hW : MW cy M h ad t i f) (hI : MI nc i f)  (px : x.toInt = ux) (py : y.toInt = uy) : mWi l yX6_strokeOf wsX6_strokeOf ({ frames := 2, cells := 0, slots := 0, locals := 43 } : Room) D cy M sz [.ref h, .int x, .int y] (mPost cy h ad (oStrokeOf ux uy i f)) 0 0 := by
  refine mW.of (cc := cX6_strokeOf) (maxL := 3) (ret := (some .int)) (by decide) rfl (Nat.le_of_ble_eq_true rfl) ?_
  intro p e s m args below meth c ls hsz hx hb hr hts hown hlocks hml hname hP hD hS hA hK hl
  have hl : lv_has ls 3 [(0, .ref h), (1, .int x), (2, .int y)] := hl
  have hown : s.vm.findClass RX6 = some m.cls := hown
  have hwX6 : ∀ w ∈ wsX60, w.before args s = true := fun w h => hts w (List.mem_cons_of_mem _ (List.mem_append_right _ (h)))
  obtain ⟨hn, hi1, hi2, hi5, hi10, -⟩ := id hI
  have rgx := i32_rng x
  rw [px] at rgx
  have rgy := i32_rng y
  rw [py] at rgy
  refine lv_aload_n hx hb dX6_strokeOf_0 rfl (lv_at hl 0 rfl) ?_
  refine lv_aload_n hx hb dX6_strokeOf_1 rfl (lv_at hl 0 rfl) ?_
  refine lv_iload_n hx hb dX6_strokeOf_2 rfl (lv_at hl 1 rfl) ?_
  refine vp_callSi (W.runV (C := RX6) (As := [.int x]) (rest := [.ref h]) ⟨hx, hb, hml, hown, hts⟩ (c_X6_isLetter l D cy _ h ad t i f nc x ux hW hI (px)) (cwV 1 hts gX6_strokeOf_X6_isLetter rfl rfl rfl (by decide +kernel) ⟨Nat.le_of_ble_eq_true rfl, Nat.le_of_ble_eq_true rfl⟩) (mPreV hK hP hW.1 (ci := 7) rfl) rfl rfl hl.1 rfl (lv_room (Nat.le_of_ble_eq_true rfl)) dX6_strokeOf_3 ⟨Nat.le_of_ble_eq_true rfl, Nat.le_of_ble_eq_true rfl⟩) (fun r9 hr9 => ?_)
  have hr9 : r9 = (nI (b2 (inB ux 0 ((i 2 : Int) - 1)))) := hr9
  subst hr9
  refine b_if_eq (b := inB ux 0 ((i 2 : Int) - 1)) (tgt := 17) hx hb dX6_strokeOf_6 (by decide) (fun c_6 => ?_) (fun c_6 => ?_)
  · have c_6 := inB_f c_6
    refine lv_iconst (v := (nI 0)) hx hb dX6_strokeOf_17 (by decide) ?_
    refine m_calli (va_runV (C := RX6) (As := [.int (nI 0)]) (rest := []) ⟨hx, hb, hml, hown, hts⟩ (c_X6_asks l D cy _ _ h ad t i f nc false hW hI) (cwV 1 hts gX6_strokeOf_X6_asks rfl rfl rfl (by decide +kernel) ⟨Nat.le_of_ble_eq_true rfl, Nat.le_of_ble_eq_true rfl⟩) (mPreWV hK hP hW.1 (ci := 7) rfl) rfl rfl hl.1 rfl (lv_room (Nat.le_of_ble_eq_true rfl)) dX6_strokeOf_18 ⟨Nat.le_of_ble_eq_true rfl, Nat.le_of_ble_eq_true rfl⟩) hD hA hS (fun r9 Mn H locs hq9 hP hD hS hz9 hd9 hk9 => ?_)
    obtain ⟨hr9, hW⟩ := hq9
    have hr9 : r9 = (nI 0) := hr9
    subst hr9
    have hW : MW cy Mn h ad 1 i f := hW
    refine k_if_ne_0 (tgt := 26) hx hb dX6_strokeOf_21 (by decide) ?_
    refine lv_iconst (v := (nI 0)) hx hb dX6_strokeOf_24 (by decide) ?_
    exact e_wi hx hb hr hlocks hP hD hS (mPost_of (a := 1) (b := ((0 : Nat) : Int)) (i := i) (f := f) (by unfold oStrokeOf; (repeat (first | rw [if_pos (by omega)] | rw [if_neg (by omega)])); (first | done | rfl | omega)) (nI_zI _) hW) dX6_strokeOf_25
  · have c_6 := inB_t c_6
    refine lv_iload_n hx hb dX6_strokeOf_9 rfl (lv_at hl 2 rfl) ?_
    refine z_if_lt (u := uy) (tgt := 17) hx hb (py) dX6_strokeOf_10 (by decide) (fun c_10 => ?_) (fun c_10 => ?_)
    · refine lv_iconst (v := (nI 0)) hx hb dX6_strokeOf_17 (by decide) ?_
      refine m_calli (va_runV (C := RX6) (As := [.int (nI 0)]) (rest := []) ⟨hx, hb, hml, hown, hts⟩ (c_X6_asks l D cy _ _ h ad t i f nc false hW hI) (cwV 1 hts gX6_strokeOf_X6_asks rfl rfl rfl (by decide +kernel) ⟨Nat.le_of_ble_eq_true rfl, Nat.le_of_ble_eq_true rfl⟩) (mPreWV hK hP hW.1 (ci := 7) rfl) rfl rfl hl.1 rfl (lv_room (Nat.le_of_ble_eq_true rfl)) dX6_strokeOf_18 ⟨Nat.le_of_ble_eq_true rfl, Nat.le_of_ble_eq_true rfl⟩) hD hA hS (fun r9 Mn H locs hq9 hP hD hS hz9 hd9 hk9 => ?_)
      obtain ⟨hr9, hW⟩ := hq9
      have hr9 : r9 = (nI 0) := hr9
      subst hr9
      have hW : MW cy Mn h ad 1 i f := hW
      refine k_if_ne_0 (tgt := 26) hx hb dX6_strokeOf_21 (by decide) ?_
      refine lv_iconst (v := (nI 0)) hx hb dX6_strokeOf_24 (by decide) ?_
      exact e_wi hx hb hr hlocks hP hD hS (mPost_of (a := 1) (b := ((0 : Nat) : Int)) (i := i) (f := f) (by unfold oStrokeOf; (repeat (first | rw [if_pos (by omega)] | rw [if_neg (by omega)])); (first | done | rfl | omega)) (nI_zI _) hW) dX6_strokeOf_25
    · refine lv_iconst (v := (nI 1)) hx hb dX6_strokeOf_13 (by decide) ?_
      refine lv_goto (tgt := 18) hx hb dX6_strokeOf_14 (by decide) ?_
      refine m_calli (va_runV (C := RX6) (As := [.int (nI 1)]) (rest := []) ⟨hx, hb, hml, hown, hts⟩ (c_X6_asks l D cy _ _ h ad t i f nc true hW hI) (cwV 1 hts gX6_strokeOf_X6_asks rfl rfl rfl (by decide +kernel) ⟨Nat.le_of_ble_eq_true rfl, Nat.le_of_ble_eq_true rfl⟩) (mPreWV hK hP hW.1 (ci := 7) rfl) rfl rfl hl.1 rfl (lv_room (Nat.le_of_ble_eq_true rfl)) dX6_strokeOf_18 ⟨Nat.le_of_ble_eq_true rfl, Nat.le_of_ble_eq_true rfl⟩) hD hA hS (fun r9 Mn H locs hq9 hP hD hS hz9 hd9 hk9 => ?_)
      obtain ⟨hr9, hW⟩ := hq9
      have hr9 : r9 = (nI 1) := hr9
      subst hr9
      have hW : MW cy Mn h ad 0 i f := hW
      refine k_if_ne_1 (tgt := 26) hx hb dX6_strokeOf_21 (by decide) ?_
      have ex_1 : x = (nI ux.toNat) := nI_of_toInt (px) (by omega)
      have ex_2 : y = (nI uy.toNat) := nI_of_toInt (py) (by omega)
      have hl : lv_has ls 3 [(0, .ref h), (1, .int (nI ux.toNat)), (2, .int (nI uy.toNat))] := by
        rw [← ex_1, ← ex_2]
        exact hl
      refine lv_iload_n hx hb dX6_strokeOf_26 rfl (lv_at hl 2 rfl) ?_
      refine lv_aload_n hx hb dX6_strokeOf_27 rfl (lv_at hl 0 rfl) ?_
      refine m_get (T := TX6) (N := 24) (ci := 7) (fs := (moF ad 0 i)) hx hb hwX6 hown hK hP hW.1 rfl 4 (by decide) (hts _ (List.mem_of_getElem? (i := 1) rfl)) (v := .ref (ad 4)) rfl dX6_strokeOf_28 ?_
      refine lv_iload_n hx hb dX6_strokeOf_31 rfl (lv_at hl 1 rfl) ?_
      have bd_1 : (f 4) ux.toNat ≤ 6 := hI.2.2.2.2.2 4 ux.toNat
      refine n_iald (g := (f 4)) (n := 10) (i := ux.toNat) hx hb hK hP (hW.2.1 4 (by decide)) (by omega) (by omega) dX6_strokeOf_32 ?_
      refine z_icmp_ge (u := ((uy.toNat : Nat) : Int)) (v := (((f 4) ux.toNat : Nat) : Int)) (tgt := 50) hx hb (nI_toInt (by omega)) (nI_toInt (by omega)) dX6_strokeOf_33 (by decide) (fun c_33 => ?_) (fun c_33 => ?_)
      · refine lv_iconst (v := (zI (-1))) hx hb dX6_strokeOf_50 (by decide) ?_
        exact e_wi hx hb hr hlocks hP hD hS (mPost_of (a := 0) (b := -1) (i := i) (f := f) (by unfold oStrokeOf; (repeat (first | rw [if_pos (by omega)] | rw [if_neg (by omega)])); (first | done | rfl | omega)) (rfl) hW) dX6_strokeOf_51
      · refine lv_aload_n hx hb dX6_strokeOf_36 rfl (lv_at hl 0 rfl) ?_
        refine m_get (T := TX6) (N := 24) (ci := 7) (fs := (moF ad 0 i)) hx hb hwX6 hown hK hP hW.1 rfl 3 (by decide) (hts _ (List.mem_of_getElem? (i := 2) rfl)) (v := .ref (ad 3)) rfl dX6_strokeOf_37 ?_
        refine lv_bipush (v := (nI 6)) hx hb dX6_strokeOf_40 (by decide) ?_
        refine lv_iload_n hx hb dX6_strokeOf_42 rfl (lv_at hl 1 rfl) ?_
        refine n_mul (x := 6) (y := ux.toNat) hx hb dX6_strokeOf_43 ?_
        refine lv_iload_n hx hb dX6_strokeOf_44 rfl (lv_at hl 2 rfl) ?_
        refine n_add (x := 6 * ux.toNat) (y := uy.toNat) hx hb dX6_strokeOf_45 ?_
        have bd_2 : (f 3) ((6 * ux.toNat) + uy.toNat) ≤ 88 := hI.2.2.2.2.2 3 ((6 * ux.toNat) + uy.toNat)
        refine n_iald (g := (f 3)) (n := 60) (i := (6 * ux.toNat) + uy.toNat) hx hb hK hP (hW.2.1 3 (by decide)) (by omega) (by omega) dX6_strokeOf_46 ?_
        refine lv_goto (tgt := 51) hx hb dX6_strokeOf_47 (by decide) ?_
        exact e_wi hx hb hr hlocks hP hD hS (mPost_of (a := 0) (b := (((f 3) ((6 * ux.toNat) + uy.toNat) : Nat) : Int)) (i := i) (f := f) (by unfold oStrokeOf; (repeat (first | rw [if_pos (by omega)] | rw [if_neg (by omega)])); (first | done | rfl | omega)) (nI_zI _) hW) dX6_strokeOf_51

set_option maxRecDepth 100000 in
set_option maxHeartbeats 4000000 in
/-- pupil -/
theorem c_X6_pupil (l : Launch) (D : va_G) (cy : Nat → ClassId) (M : mM) (sz : Nat) (h : Nat) (ad : Nat → Nat) (t : Nat) (i : Nat → Nat) (f : Nat → Nat → Nat) (nc : Nat)  (x : Int32) (ux : Int) (y : Int32) (uy : Int) (b : Bool) (hW : MW cy M h ad t i f) (hI : MI nc i f)  (px : x.toInt = ux) (py : y.toInt = uy) : mWi l yX6_pupil wsX6_pupil ({ frames := 1, cells := 0, slots := 0, locals := 22 } : Room) D cy M sz [.ref h, .int x, .int y, .int (nI (b2 b))] (mPost cy h ad (oPupil ux uy b i f)) 0 0 := by
  refine mW.of (cc := cX6_pupil) (maxL := 4) (ret := (some .int)) (by decide) rfl (Nat.le_of_ble_eq_true rfl) ?_
  intro p e s m args below meth c ls hsz hx hb hr hts hown hlocks hml hname hP hD hS hA hK hl
  have hl : lv_has ls 4 [(0, .ref h), (1, .int x), (2, .int y), (3, .int (nI (b2 b)))] := hl
  have hown : s.vm.findClass RX6 = some m.cls := hown
  have hwX6 : ∀ w ∈ wsX60, w.before args s = true := fun w h => hts w (List.mem_cons_of_mem _ (List.mem_append_right _ (h)))
  obtain ⟨hn, hi1, hi2, hi5, hi10, -⟩ := id hI
  have rgx := i32_rng x
  rw [px] at rgx
  have rgy := i32_rng y
  rw [py] at rgy
  refine lv_aload_n hx hb dX6_pupil_0 rfl (lv_at hl 0 rfl) ?_
  refine lv_iload_n hx hb dX6_pupil_1 rfl (lv_at hl 1 rfl) ?_
  refine lv_iconst (v := (nI 0)) hx hb dX6_pupil_2 (by decide) ?_
  refine lv_iconst (v := (nI 3)) hx hb dX6_pupil_3 (by decide) ?_
  refine vp_callSi (W.runS (As := [.int x, .int (nI 0), .int (nI 3)]) (rest := [.ref h]) ⟨hx, hb, hml, hown, hts⟩ (c_X6_in l x (nI 0) (nI 3) ux ((0 : Nat) : Int) ((3 : Nat) : Int) (px) (nI_toInt (by omega)) (nI_toInt (by omega))) (va_cwS 3 hts gX6_pupil_X6_in rfl rfl rfl (by decide +kernel) ⟨Nat.le_of_ble_eq_true rfl, Nat.le_of_ble_eq_true rfl⟩) mPre0 rfl rfl hl.1 rfl (lv_room (Nat.le_of_ble_eq_true rfl)) dX6_pupil_4 ⟨Nat.le_of_ble_eq_true rfl, Nat.le_of_ble_eq_true rfl⟩) (fun r9 hr9 => ?_)
  have hr9 : r9 = (nI (b2 (inB ux ((0 : Nat) : Int) ((3 : Nat) : Int)))) := hr9
  subst hr9
  refine m_calli (va_runV (C := RX6) (As := [.int (nI (b2 (inB ux ((0 : Nat) : Int) ((3 : Nat) : Int))))]) (rest := []) ⟨hx, hb, hml, hown, hts⟩ (c_X6_asks l D cy _ _ h ad t i f nc (inB ux ((0 : Nat) : Int) ((3 : Nat) : Int)) hW hI) (cwV 1 hts gX6_pupil_X6_asks rfl rfl rfl (by decide +kernel) ⟨Nat.le_of_ble_eq_true rfl, Nat.le_of_ble_eq_true rfl⟩) (mPreWV hK hP hW.1 (ci := 7) rfl) rfl rfl hl.1 rfl (lv_room (Nat.le_of_ble_eq_true rfl)) dX6_pupil_7 ⟨Nat.le_of_ble_eq_true rfl, Nat.le_of_ble_eq_true rfl⟩) hD hA hS (fun r9 Mn H locs hq9 hP hD hS hz9 hd9 hk9 => ?_)
  obtain ⟨hr9, hW⟩ := hq9
  have hr9 : r9 = (nI (b2 (inB ux ((0 : Nat) : Int) ((3 : Nat) : Int)))) := hr9
  subst hr9
  have hW : MW cy Mn h ad (b2 (!(inB ux ((0 : Nat) : Int) ((3 : Nat) : Int)))) i f := hW
  refine b_if_ne (b := inB ux ((0 : Nat) : Int) ((3 : Nat) : Int)) (tgt := 15) hx hb dX6_pupil_10 (by decide) (fun c_10 => ?_) (fun c_10 => ?_)
  · have hW := MW.tt hW c_10
    have c_10 := inB_t c_10
    refine lv_iload_n hx hb dX6_pupil_15 rfl (lv_at hl 2 rfl) ?_
    refine lv_iconst (v := (nI 5)) hx hb dX6_pupil_16 (by decide) ?_
    refine lv_bipush (v := (nI 16)) hx hb dX6_pupil_17 (by decide) ?_
    refine vp_callSi (W.runS (As := [.int y, .int (nI 5), .int (nI 16)]) (rest := []) ⟨hx, hb, hml, hown, hts⟩ (c_X6_in l y (nI 5) (nI 16) uy ((5 : Nat) : Int) ((16 : Nat) : Int) (py) (nI_toInt (by omega)) (nI_toInt (by omega))) (va_cwS 3 hts gX6_pupil_X6_in rfl rfl rfl (by decide +kernel) ⟨Nat.le_of_ble_eq_true rfl, Nat.le_of_ble_eq_true rfl⟩) mPre0 rfl rfl hl.1 rfl (lv_room (Nat.le_of_ble_eq_true rfl)) dX6_pupil_19 ⟨Nat.le_of_ble_eq_true rfl, Nat.le_of_ble_eq_true rfl⟩) (fun r9 hr9 => ?_)
    have hr9 : r9 = (nI (b2 (inB uy ((5 : Nat) : Int) ((16 : Nat) : Int)))) := hr9
    subst hr9
    refine b_if_ne (b := inB uy ((5 : Nat) : Int) ((16 : Nat) : Int)) (tgt := 31) hx hb dX6_pupil_22 (by decide) (fun c_22 => ?_) (fun c_22 => ?_)
    · have c_22 := inB_t c_22
      have ex_1 : x = (nI ux.toNat) := nI_of_toInt (px) (by omega)
      have ex_2 : y = (nI uy.toNat) := nI_of_toInt (py) (by omega)
      have hl : lv_has ls 4 [(0, .ref h), (1, .int (nI ux.toNat)), (2, .int (nI uy.toNat)), (3, .int (nI (b2 b)))] := by
        rw [← ex_1, ← ex_2]
        exact hl
      refine lv_aload_n hx hb dX6_pupil_31 rfl (lv_at hl 0 rfl) ?_
      refine m_get (T := TX6) (N := 24) (ci := 7) (fs := (moF ad 0 i)) hx hb hwX6 hown hK hP hW.1 rfl 5 (by decide) (hts _ (List.mem_of_getElem? (i := 1) rfl)) (v := .int (nI (i 5))) rfl dX6_pupil_32 ?_
      refine lv_bipush (v := (nI 20)) hx hb dX6_pupil_35 (by decide) ?_
      refine z_icmp_ne (u := ((i 5 : Nat) : Int)) (v := ((20 : Nat) : Int)) (tgt := 46) hx hb (nI_toInt (by omega)) (nI_toInt (by omega)) dX6_pupil_37 (by decide) (fun c_37 => ?_) (fun c_37 => ?_)
      · refine lv_aload_n hx hb dX6_pupil_46 rfl (lv_at hl 0 rfl) ?_
        refine m_get (T := TX6) (N := 24) (ci := 7) (fs := (moF ad 0 i)) hx hb hwX6 hown hK hP hW.1 rfl 6 (by decide) (hts _ (List.mem_of_getElem? (i := 2) rfl)) (v := .ref (ad 6)) rfl dX6_pupil_47 ?_
        refine lv_aload_n hx hb dX6_pupil_50 rfl (lv_at hl 0 rfl) ?_
        refine m_get (T := TX6) (N := 24) (ci := 7) (fs := (moF ad 0 i)) hx hb hwX6 hown hK hP hW.1 rfl 5 (by decide) (hts _ (List.mem_of_getElem? (i := 1) rfl)) (v := .int (nI (i 5))) rfl dX6_pupil_51 ?_
        refine lv_iload_n hx hb dX6_pupil_54 rfl (lv_at hl 1 rfl) ?_
        refine n_iast (g := (f 6)) (n := 20) (i := i 5) (v := ux.toNat) hx hb hK hP hD hS (hW.2.1 6 (by decide)) (by omega) (by omega) dX6_pupil_55 (fun H locs hP hD hS => ?_)
        have hW := hW.setI 6 (by decide) (va_up (f 6) (i 5) ux.toNat)
        refine lv_aload_n hx hb dX6_pupil_56 rfl (lv_at hl 0 rfl) ?_
        refine m_get (T := TX6) (N := 24) (ci := 7) (fs := (moF ad 0 i)) hx hb hwX6 hown hK hP hW.1 rfl 7 (by decide) (hts _ (List.mem_of_getElem? (i := 3) rfl)) (v := .ref (ad 7)) rfl dX6_pupil_57 ?_
        refine lv_aload_n hx hb dX6_pupil_60 rfl (lv_at hl 0 rfl) ?_
        refine m_get (T := TX6) (N := 24) (ci := 7) (fs := (moF ad 0 i)) hx hb hwX6 hown hK hP hW.1 rfl 5 (by decide) (hts _ (List.mem_of_getElem? (i := 1) rfl)) (v := .int (nI (i 5))) rfl dX6_pupil_61 ?_
        refine lv_iload_n hx hb dX6_pupil_64 rfl (lv_at hl 2 rfl) ?_
        refine n_iast (g := (f 7)) (n := 20) (i := i 5) (v := uy.toNat) hx hb hK hP hD hS (hW.2.1 7 (by decide)) (by omega) (by omega) dX6_pupil_65 (fun H locs hP hD hS => ?_)
        have hW := hW.setI 7 (by decide) (va_up (f 7) (i 5) uy.toNat)
        refine lv_aload_n hx hb dX6_pupil_66 rfl (lv_at hl 0 rfl) ?_
        refine m_get (T := TX6) (N := 24) (ci := 7) (fs := (moF ad 0 i)) hx hb hwX6 hown hK hP hW.1 rfl 8 (by decide) (hts _ (List.mem_of_getElem? (i := 4) rfl)) (v := .ref (ad 8)) rfl dX6_pupil_67 ?_
        refine lv_aload_n hx hb dX6_pupil_70 rfl (lv_at hl 0 rfl) ?_
        refine m_get (T := TX6) (N := 24) (ci := 7) (fs := (moF ad 0 i)) hx hb hwX6 hown hK hP hW.1 rfl 5 (by decide) (hts _ (List.mem_of_getElem? (i := 1) rfl)) (v := .int (nI (i 5))) rfl dX6_pupil_71 ?_
        refine lv_iload_n hx hb dX6_pupil_74 rfl (lv_at hl 3 rfl) ?_
        refine n_zast (g := (f 8)) (n := 20) (i := i 5) (v := b2 b) hx hb hK hP hD hS (hW.2.2.1 8 (by decide)) (by omega) (by omega) (b2_le _) dX6_pupil_75 (fun H locs hP hD hS => ?_)
        have hW := hW.setZ 8 (by decide) (va_up (f 8) (i 5) (b2 b))
        refine lv_aload_n hx hb dX6_pupil_76 rfl (lv_at hl 0 rfl) ?_
        refine lv_dup hx hb dX6_pupil_77 rfl ?_
        refine m_get (T := TX6) (N := 24) (ci := 7) (fs := (moF ad 0 i)) hx hb hwX6 hown hK hP hW.1 rfl 5 (by decide) (hts _ (List.mem_of_getElem? (i := 1) rfl)) (v := .int (nI (i 5))) rfl dX6_pupil_78 ?_
        refine lv_iconst (v := (nI 1)) hx hb dX6_pupil_81 (by decide) ?_
        refine n_add (x := i 5) (y := 1) hx hb dX6_pupil_82 ?_
        refine m_put (T := TX6) (N := 24) (ci := 7) (fs := (moF ad 0 i)) (v := .int (nI ((i 5) + 1))) hx hb hwX6 tyX6 tyX6_ok nmX6 hown hK hP hD hS hW.1 rfl 5 (by decide) (hts _ (List.mem_of_getElem? (i := 1) rfl)) rfl (rfl) rfl (Nat.le_of_ble_eq_true rfl) dX6_pupil_83 (fun H locs hP hD hS => ?_)
        have hW := hW.setO 0 (va_up i 5 ((i 5) + 1))
        refine lv_aload_n hx hb dX6_pupil_86 rfl (lv_at hl 0 rfl) ?_
        refine m_get (T := TX6) (N := 24) (ci := 7) (fs := (moF ad 0 (va_up i 5 ((i 5) + 1)))) hx hb hwX6 hown hK hP hW.1 rfl 5 (by decide) (hts _ (List.mem_of_getElem? (i := 1) rfl)) (v := .int (nI ((i 5) + 1))) rfl dX6_pupil_87 ?_
        refine lv_iconst (v := (nI 1)) hx hb dX6_pupil_90 (by decide) ?_
        refine n_sub (x := (i 5) + 1) (y := 1) hx hb (by omega) dX6_pupil_91 ?_
        refine n_name (show (nI (((i 5) + 1) - 1)) = nI (i 5) from congrArg nI (by omega)) ?_
        exact e_wi hx hb hr hlocks hP hD hS (mPost_of (a := 0) (b := ((i 5 : Nat) : Int)) (i := va_up i 5 ((i 5) + 1)) (f := va_up (va_up (va_up f 6 (va_up (f 6) (i 5) ux.toNat)) 7 (va_up (f 7) (i 5) uy.toNat)) 8 (va_up (f 8) (i 5) (b2 b))) (by unfold oPupil; (repeat (first | rw [if_pos (by omega)] | rw [if_neg (by omega)])); (first | done | rfl | omega)) (nI_zI _) hW) dX6_pupil_92
      · refine lv_aload_n hx hb dX6_pupil_40 rfl (lv_at hl 0 rfl) ?_
        refine lv_iconst (v := (nI 3)) hx hb dX6_pupil_41 (by decide) ?_
        refine m_calli (va_runV (C := RX6) (As := [.int (nI 3)]) (rest := []) ⟨hx, hb, hml, hown, hts⟩ (c_X6_fails l D cy _ _ h ad 0 i f nc 3 hW hI) (cwV 1 hts gX6_pupil_X6_fails rfl rfl rfl (by decide +kernel) ⟨Nat.le_of_ble_eq_true rfl, Nat.le_of_ble_eq_true rfl⟩) (mPreWV hK hP hW.1 (ci := 7) rfl) rfl rfl hl.1 rfl (lv_room (Nat.le_of_ble_eq_true rfl)) dX6_pupil_42 ⟨Nat.le_of_ble_eq_true rfl, Nat.le_of_ble_eq_true rfl⟩) hD hA hS (fun r9 Mn H locs hq9 hP hD hS hz9 hd9 hk9 => ?_)
        obtain ⟨hr9, hW⟩ := hq9
        have hr9 : r9 = (nI 0) := hr9
        subst hr9
        have hW : MW cy Mn h ad 3 i f := hW
        exact e_wi hx hb hr hlocks hP hD hS (mPost_of (a := 3) (b := ((0 : Nat) : Int)) (i := i) (f := f) (by unfold oPupil; (repeat (first | rw [if_pos (by omega)] | rw [if_neg (by omega)])); (first | done | rfl | omega)) (nI_zI _) hW) dX6_pupil_45
    · have c_22 := inB_f c_22
      refine lv_aload_n hx hb dX6_pupil_25 rfl (lv_at hl 0 rfl) ?_
      refine lv_iconst (v := (nI 2)) hx hb dX6_pupil_26 (by decide) ?_
      refine m_calli (va_runV (C := RX6) (As := [.int (nI 2)]) (rest := []) ⟨hx, hb, hml, hown, hts⟩ (c_X6_fails l D cy _ _ h ad 0 i f nc 2 hW hI) (cwV 1 hts gX6_pupil_X6_fails rfl rfl rfl (by decide +kernel) ⟨Nat.le_of_ble_eq_true rfl, Nat.le_of_ble_eq_true rfl⟩) (mPreWV hK hP hW.1 (ci := 7) rfl) rfl rfl hl.1 rfl (lv_room (Nat.le_of_ble_eq_true rfl)) dX6_pupil_27 ⟨Nat.le_of_ble_eq_true rfl, Nat.le_of_ble_eq_true rfl⟩) hD hA hS (fun r9 Mn H locs hq9 hP hD hS hz9 hd9 hk9 => ?_)
      obtain ⟨hr9, hW⟩ := hq9
      have hr9 : r9 = (nI 0) := hr9
      subst hr9
      have hW : MW cy Mn h ad 2 i f := hW
      exact e_wi hx hb hr hlocks hP hD hS (mPost_of (a := 2) (b := ((0 : Nat) : Int)) (i := i) (f := f) (by unfold oPupil; (repeat (first | rw [if_pos (by omega)] | rw [if_neg (by omega)])); (first | done | rfl | omega)) (nI_zI _) hW) dX6_pupil_30
  · have hW := MW.tf hW c_10
    have c_10 := inB_f c_10
    refine lv_iconst (v := (nI 0)) hx hb dX6_pupil_13 (by decide) ?_
    exact e_wi hx hb hr hlocks hP hD hS (mPost_of (a := 1) (b := ((0 : Nat) : Int)) (i := i) (f := f) (by unfold oPupil; (repeat (first | rw [if_pos (by omega)] | rw [if_neg (by omega)])); (first | done | rfl | omega)) (nI_zI _) hW) dX6_pupil_14

set_option maxRecDepth 100000 in
set_option maxHeartbeats 4000000 in
/-- print -/
theorem c_X6_print (l : Launch) (D : va_G) (cy : Nat → ClassId) (M : mM) (sz : Nat) (h : Nat) (ad : Nat → Nat) (t : Nat) (i : Nat → Nat) (f : Nat → Nat → Nat) (nc : Nat)  (x : Int32) (ux : Int) (b : Bool) (y : Int32) (uy : Int) (hW : MW cy M h ad t i f) (hI : MI nc i f)  (px : x.toInt = ux) (py : y.toInt = uy) : mWi l yX6_print wsX6_print ({ frames := 2, cells := 0, slots := 0, locals := 42 } : Room) D cy M sz [.ref h, .int x, .int (nI (b2 b)), .int y] (mPost cy h ad (oPrint ux b uy i f)) 0 0 := by
  refine mW.of (cc := cX6_print) (maxL := 4) (ret := (some .int)) (by decide) rfl (Nat.le_of_ble_eq_true rfl) ?_
  intro p e s m args below meth c ls hsz hx hb hr hts hown hlocks hml hname hP hD hS hA hK hl
  have hl : lv_has ls 4 [(0, .ref h), (1, .int x), (2, .int (nI (b2 b))), (3, .int y)] := hl
  have hown : s.vm.findClass RX6 = some m.cls := hown
  have hwX6 : ∀ w ∈ wsX60, w.before args s = true := fun w h => hts w (List.mem_cons_of_mem _ (List.mem_append_right _ (h)))
  obtain ⟨hn, hi1, hi2, hi5, hi10, -⟩ := id hI
  have rgx := i32_rng x
  rw [px] at rgx
  have rgy := i32_rng y
  rw [py] at rgy
  refine lv_aload_n hx hb dX6_print_0 rfl (lv_at hl 0 rfl) ?_
  refine lv_iload_n hx hb dX6_print_1 rfl (lv_at hl 1 rfl) ?_
  refine vp_callSi (W.runS (As := [.int x]) (rest := [.ref h]) ⟨hx, hb, hml, hown, hts⟩ (c_X6_isBand l x ux (px)) (va_cwS 1 hts gX6_print_X6_isBand rfl rfl rfl (by decide +kernel) ⟨Nat.le_of_ble_eq_true rfl, Nat.le_of_ble_eq_true rfl⟩) mPre0 rfl rfl hl.1 rfl (lv_room (Nat.le_of_ble_eq_true rfl)) dX6_print_2 ⟨Nat.le_of_ble_eq_true rfl, Nat.le_of_ble_eq_true rfl⟩) (fun r9 hr9 => ?_)
  have hr9 : r9 = (nI (b2 (inB ux 0 2))) := hr9
  subst hr9
  refine m_calli (va_runV (C := RX6) (As := [.int (nI (b2 (inB ux 0 2)))]) (rest := []) ⟨hx, hb, hml, hown, hts⟩ (c_X6_asks l D cy _ _ h ad t i f nc (inB ux 0 2) hW hI) (cwV 1 hts gX6_print_X6_asks rfl rfl rfl (by decide +kernel) ⟨Nat.le_of_ble_eq_true rfl, Nat.le_of_ble_eq_true rfl⟩) (mPreWV hK hP hW.1 (ci := 7) rfl) rfl rfl hl.1 rfl (lv_room (Nat.le_of_ble_eq_true rfl)) dX6_print_5 ⟨Nat.le_of_ble_eq_true rfl, Nat.le_of_ble_eq_true rfl⟩) hD hA hS (fun r9 Mn H locs hq9 hP hD hS hz9 hd9 hk9 => ?_)
  obtain ⟨hr9, hW⟩ := hq9
  have hr9 : r9 = (nI (b2 (inB ux 0 2))) := hr9
  subst hr9
  have hW : MW cy Mn h ad (b2 (!(inB ux 0 2))) i f := hW
  refine b_if_ne (b := inB ux 0 2) (tgt := 13) hx hb dX6_print_8 (by decide) (fun c_8 => ?_) (fun c_8 => ?_)
  · have hW := MW.tt hW c_8
    have c_8 := inB_t c_8
    refine lv_iload_n hx hb dX6_print_13 rfl (lv_at hl 3 rfl) ?_
    refine lv_iconst (v := (nI 1)) hx hb dX6_print_14 (by decide) ?_
    refine lv_bipush (v := (nI 50)) hx hb dX6_print_15 (by decide) ?_
    refine vp_callSi (W.runS (As := [.int y, .int (nI 1), .int (nI 50)]) (rest := []) ⟨hx, hb, hml, hown, hts⟩ (c_X6_in l y (nI 1) (nI 50) uy ((1 : Nat) : Int) ((50 : Nat) : Int) (py) (nI_toInt (by omega)) (nI_toInt (by omega))) (va_cwS 3 hts gX6_print_X6_in rfl rfl rfl (by decide +kernel) ⟨Nat.le_of_ble_eq_true rfl, Nat.le_of_ble_eq_true rfl⟩) mPre0 rfl rfl hl.1 rfl (lv_room (Nat.le_of_ble_eq_true rfl)) dX6_print_17 ⟨Nat.le_of_ble_eq_true rfl, Nat.le_of_ble_eq_true rfl⟩) (fun r9 hr9 => ?_)
    have hr9 : r9 = (nI (b2 (inB uy ((1 : Nat) : Int) ((50 : Nat) : Int)))) := hr9
    subst hr9
    refine b_if_ne (b := inB uy ((1 : Nat) : Int) ((50 : Nat) : Int)) (tgt := 29) hx hb dX6_print_20 (by decide) (fun c_20 => ?_) (fun c_20 => ?_)
    · have c_20 := inB_t c_20
      have ex_1 : x = (nI ux.toNat) := nI_of_toInt (px) (by omega)
      have ex_3 : y = (nI uy.toNat) := nI_of_toInt (py) (by omega)
      have hl : lv_has ls 4 [(0, .ref h), (1, .int (nI ux.toNat)), (2, .int (nI (b2 b))), (3, .int (nI uy.toNat))] := by
        rw [← ex_1, ← ex_3]
        exact hl
      refine lv_aload_n hx hb dX6_print_29 rfl (lv_at hl 0 rfl) ?_
      refine m_get (T := TX6) (N := 24) (ci := 7) (fs := (moF ad 0 i)) hx hb hwX6 hown hK hP hW.1 rfl 9 (by decide) (hts _ (List.mem_of_getElem? (i := 1) rfl)) (v := .ref (ad 9)) rfl dX6_print_30 ?_
      refine lv_iload_n hx hb dX6_print_33 rfl (lv_at hl 1 rfl) ?_
      refine lv_iload_n hx hb dX6_print_34 rfl (lv_at hl 2 rfl) ?_
      refine vp_callSi (W.runS (As := [.int (nI ux.toNat), .int (nI (b2 b))]) (rest := [.ref (ad 9)]) ⟨hx, hb, hml, hown, hts⟩ (c_X6_stack l ux.toNat (b2 b) (by omega) (b2_le _)) (va_cwS 2 hts gX6_print_X6_stack rfl rfl rfl (by decide +kernel) ⟨Nat.le_of_ble_eq_true rfl, Nat.le_of_ble_eq_true rfl⟩) mPre0 rfl rfl hl.1 rfl (lv_room (Nat.le_of_ble_eq_true rfl)) dX6_print_35 ⟨Nat.le_of_ble_eq_true rfl, Nat.le_of_ble_eq_true rfl⟩) (fun r9 hr9 => ?_)
      have hr9 : r9 = (nI (stackN ux.toNat (b2 b))) := hr9
      subst hr9
      have sk_1 : stackN ux.toNat (b2 b) ≤ 3 + ux.toNat := stackN_le _ _
      refine lv_dup2_11 hx hb dX6_print_38 rfl rfl ?_
      have bd_2 : (f 9) (stackN ux.toNat (b2 b)) ≤ 25600 := Nat.le_trans (hI.2.2.2.2.2 9 (stackN ux.toNat (b2 b))) (show 50 * nc ≤ 25600 by have := hI.1; omega)
      refine n_iald (g := (f 9)) (n := 6) (i := stackN ux.toNat (b2 b)) hx hb hK hP (hW.2.1 9 (by decide)) (by omega) (by omega) dX6_print_39 ?_
      refine lv_iload_n hx hb dX6_print_40 rfl (lv_at hl 3 rfl) ?_
      refine n_add (x := (f 9) (stackN ux.toNat (b2 b))) (y := uy.toNat) hx hb dX6_print_41 ?_
      refine n_iast (g := (f 9)) (n := 6) (i := stackN ux.toNat (b2 b)) (v := ((f 9) (stackN ux.toNat (b2 b))) + uy.toNat) hx hb hK hP hD hS (hW.2.1 9 (by decide)) (by omega) (by omega) dX6_print_42 (fun H locs hP hD hS => ?_)
      have hW := hW.setI 9 (by decide) (va_up (f 9) (stackN ux.toNat (b2 b)) (((f 9) (stackN ux.toNat (b2 b))) + uy.toNat))
      refine lv_aload_n hx hb dX6_print_43 rfl (lv_at hl 0 rfl) ?_
      refine m_get (T := TX6) (N := 24) (ci := 7) (fs := (moF ad 0 i)) hx hb hwX6 hown hK hP hW.1 rfl 9 (by decide) (hts _ (List.mem_of_getElem? (i := 1) rfl)) (v := .ref (ad 9)) rfl dX6_print_44 ?_
      refine lv_iload_n hx hb dX6_print_47 rfl (lv_at hl 1 rfl) ?_
      refine lv_iload_n hx hb dX6_print_48 rfl (lv_at hl 2 rfl) ?_
      refine vp_callSi (W.runS (As := [.int (nI ux.toNat), .int (nI (b2 b))]) (rest := [.ref (ad 9)]) ⟨hx, hb, hml, hown, hts⟩ (c_X6_stack l ux.toNat (b2 b) (by omega) (b2_le _)) (va_cwS 2 hts gX6_print_X6_stack rfl rfl rfl (by decide +kernel) ⟨Nat.le_of_ble_eq_true rfl, Nat.le_of_ble_eq_true rfl⟩) mPre0 rfl rfl hl.1 rfl (lv_room (Nat.le_of_ble_eq_true rfl)) dX6_print_49 ⟨Nat.le_of_ble_eq_true rfl, Nat.le_of_ble_eq_true rfl⟩) (fun r9 hr9 => ?_)
      have hr9 : r9 = (nI (stackN ux.toNat (b2 b))) := hr9
      subst hr9
      have sk_3 : stackN ux.toNat (b2 b) ≤ 3 + ux.toNat := stackN_le _ _
      refine n_iald (g := (va_up (f 9) (stackN ux.toNat (b2 b)) (((f 9) (stackN ux.toNat (b2 b))) + uy.toNat))) (n := 6) (i := stackN ux.toNat (b2 b)) hx hb hK hP (hW.2.1 9 (by decide)) (by omega) (by omega) dX6_print_52 ?_
      refine n_name (show (nI ((va_up (f 9) (stackN ux.toNat (b2 b)) (((f 9) (stackN ux.toNat (b2 b))) + uy.toNat)) (stackN ux.toNat (b2 b)))) = (nI (f 9 (stackN ux.toNat (b2 b)) + uy.toNat)) from congrArg nI (va_up_self _ _ _)) ?_
      exact e_wi hx hb hr hlocks hP hD hS (mPost_of (a := 0) (b := ((f 9 (stackN ux.toNat (b2 b)) + uy.toNat : Nat) : Int)) (i := i) (f := va_up f 9 (va_up (f 9) (stackN ux.toNat (b2 b)) (((f 9) (stackN ux.toNat (b2 b))) + uy.toNat))) (by unfold oPrint; (repeat (first | rw [if_pos (by omega)] | rw [if_neg (by omega)])); (first | done | rfl | omega)) (nI_zI _) hW) dX6_print_53
    · have c_20 := inB_f c_20
      refine lv_aload_n hx hb dX6_print_23 rfl (lv_at hl 0 rfl) ?_
      refine lv_iconst (v := (nI 2)) hx hb dX6_print_24 (by decide) ?_
      refine m_calli (va_runV (C := RX6) (As := [.int (nI 2)]) (rest := []) ⟨hx, hb, hml, hown, hts⟩ (c_X6_fails l D cy _ _ h ad 0 i f nc 2 hW hI) (cwV 1 hts gX6_print_X6_fails rfl rfl rfl (by decide +kernel) ⟨Nat.le_of_ble_eq_true rfl, Nat.le_of_ble_eq_true rfl⟩) (mPreWV hK hP hW.1 (ci := 7) rfl) rfl rfl hl.1 rfl (lv_room (Nat.le_of_ble_eq_true rfl)) dX6_print_25 ⟨Nat.le_of_ble_eq_true rfl, Nat.le_of_ble_eq_true rfl⟩) hD hA hS (fun r9 Mn H locs hq9 hP hD hS hz9 hd9 hk9 => ?_)
      obtain ⟨hr9, hW⟩ := hq9
      have hr9 : r9 = (nI 0) := hr9
      subst hr9
      have hW : MW cy Mn h ad 2 i f := hW
      exact e_wi hx hb hr hlocks hP hD hS (mPost_of (a := 2) (b := ((0 : Nat) : Int)) (i := i) (f := f) (by unfold oPrint; (repeat (first | rw [if_pos (by omega)] | rw [if_neg (by omega)])); (first | done | rfl | omega)) (nI_zI _) hW) dX6_print_28
  · have hW := MW.tf hW c_8
    have c_8 := inB_f c_8
    refine lv_iconst (v := (nI 0)) hx hb dX6_print_11 (by decide) ?_
    exact e_wi hx hb hr hlocks hP hD hS (mPost_of (a := 1) (b := ((0 : Nat) : Int)) (i := i) (f := f) (by unfold oPrint; (repeat (first | rw [if_pos (by omega)] | rw [if_neg (by omega)])); (first | done | rfl | omega)) (nI_zI _) hW) dX6_print_12

set_option maxRecDepth 100000 in
set_option maxHeartbeats 4000000 in
/-- sheets -/
theorem c_X6_sheets (l : Launch) (D : va_G) (cy : Nat → ClassId) (M : mM) (sz : Nat) (h : Nat) (ad : Nat → Nat) (t : Nat) (i : Nat → Nat) (f : Nat → Nat → Nat) (nc : Nat)  (x : Int32) (ux : Int) (b : Bool) (hW : MW cy M h ad t i f) (hI : MI nc i f)  (px : x.toInt = ux) : mWi l yX6_sheets wsX6_sheets ({ frames := 2, cells := 0, slots := 0, locals := 42 } : Room) D cy M sz [.ref h, .int x, .int (nI (b2 b))] (mPost cy h ad (oSheets ux b i f)) 0 0 := by
  refine mW.of (cc := cX6_sheets) (maxL := 3) (ret := (some .int)) (by decide) rfl (Nat.le_of_ble_eq_true rfl) ?_
  intro p e s m args below meth c ls hsz hx hb hr hts hown hlocks hml hname hP hD hS hA hK hl
  have hl : lv_has ls 3 [(0, .ref h), (1, .int x), (2, .int (nI (b2 b)))] := hl
  have hown : s.vm.findClass RX6 = some m.cls := hown
  have hwX6 : ∀ w ∈ wsX60, w.before args s = true := fun w h => hts w (List.mem_cons_of_mem _ (List.mem_append_right _ (h)))
  obtain ⟨hn, hi1, hi2, hi5, hi10, -⟩ := id hI
  have rgx := i32_rng x
  rw [px] at rgx
  refine lv_aload_n hx hb dX6_sheets_0 rfl (lv_at hl 0 rfl) ?_
  refine lv_iload_n hx hb dX6_sheets_1 rfl (lv_at hl 1 rfl) ?_
  refine vp_callSi (W.runS (As := [.int x]) (rest := [.ref h]) ⟨hx, hb, hml, hown, hts⟩ (c_X6_isBand l x ux (px)) (va_cwS 1 hts gX6_sheets_X6_isBand rfl rfl rfl (by decide +kernel) ⟨Nat.le_of_ble_eq_true rfl, Nat.le_of_ble_eq_true rfl⟩) mPre0 rfl rfl hl.1 rfl (lv_room (Nat.le_of_ble_eq_true rfl)) dX6_sheets_2 ⟨Nat.le_of_ble_eq_true rfl, Nat.le_of_ble_eq_true rfl⟩) (fun r9 hr9 => ?_)
  have hr9 : r9 = (nI (b2 (inB ux 0 2))) := hr9
  subst hr9
  refine m_calli (va_runV (C := RX6) (As := [.int (nI (b2 (inB ux 0 2)))]) (rest := []) ⟨hx, hb, hml, hown, hts⟩ (c_X6_asks l D cy _ _ h ad t i f nc (inB ux 0 2) hW hI) (cwV 1 hts gX6_sheets_X6_asks rfl rfl rfl (by decide +kernel) ⟨Nat.le_of_ble_eq_true rfl, Nat.le_of_ble_eq_true rfl⟩) (mPreWV hK hP hW.1 (ci := 7) rfl) rfl rfl hl.1 rfl (lv_room (Nat.le_of_ble_eq_true rfl)) dX6_sheets_5 ⟨Nat.le_of_ble_eq_true rfl, Nat.le_of_ble_eq_true rfl⟩) hD hA hS (fun r9 Mn H locs hq9 hP hD hS hz9 hd9 hk9 => ?_)
  obtain ⟨hr9, hW⟩ := hq9
  have hr9 : r9 = (nI (b2 (inB ux 0 2))) := hr9
  subst hr9
  have hW : MW cy Mn h ad (b2 (!(inB ux 0 2))) i f := hW
  refine b_if_eq (b := inB ux 0 2) (tgt := 24) hx hb dX6_sheets_8 (by decide) (fun c_8 => ?_) (fun c_8 => ?_)
  · have hW := MW.tf hW c_8
    have c_8 := inB_f c_8
    refine lv_iconst (v := (nI 0)) hx hb dX6_sheets_24 (by decide) ?_
    exact e_wi hx hb hr hlocks hP hD hS (mPost_of (a := 1) (b := ((0 : Nat) : Int)) (i := i) (f := f) (by unfold oSheets; (repeat (first | rw [if_pos (by omega)] | rw [if_neg (by omega)])); (first | done | rfl | omega)) (nI_zI _) hW) dX6_sheets_25
  · have hW := MW.tt hW c_8
    have c_8 := inB_t c_8
    have ex_1 : x = (nI ux.toNat) := nI_of_toInt (px) (by omega)
    have hl : lv_has ls 3 [(0, .ref h), (1, .int (nI ux.toNat)), (2, .int (nI (b2 b)))] := by
      rw [← ex_1]
      exact hl
    refine lv_aload_n hx hb dX6_sheets_11 rfl (lv_at hl 0 rfl) ?_
    refine m_get (T := TX6) (N := 24) (ci := 7) (fs := (moF ad 0 i)) hx hb hwX6 hown hK hP hW.1 rfl 9 (by decide) (hts _ (List.mem_of_getElem? (i := 1) rfl)) (v := .ref (ad 9)) rfl dX6_sheets_12 ?_
    refine lv_iload_n hx hb dX6_sheets_15 rfl (lv_at hl 1 rfl) ?_
    refine lv_iload_n hx hb dX6_sheets_16 rfl (lv_at hl 2 rfl) ?_
    refine vp_callSi (W.runS (As := [.int (nI ux.toNat), .int (nI (b2 b))]) (rest := [.ref (ad 9)]) ⟨hx, hb, hml, hown, hts⟩ (c_X6_stack l ux.toNat (b2 b) (by omega) (b2_le _)) (va_cwS 2 hts gX6_sheets_X6_stack rfl rfl rfl (by decide +kernel) ⟨Nat.le_of_ble_eq_true rfl, Nat.le_of_ble_eq_true rfl⟩) mPre0 rfl rfl hl.1 rfl (lv_room (Nat.le_of_ble_eq_true rfl)) dX6_sheets_17 ⟨Nat.le_of_ble_eq_true rfl, Nat.le_of_ble_eq_true rfl⟩) (fun r9 hr9 => ?_)
    have hr9 : r9 = (nI (stackN ux.toNat (b2 b))) := hr9
    subst hr9
    have sk_1 : stackN ux.toNat (b2 b) ≤ 3 + ux.toNat := stackN_le _ _
    have bd_2 : (f 9) (stackN ux.toNat (b2 b)) ≤ 25600 := Nat.le_trans (hI.2.2.2.2.2 9 (stackN ux.toNat (b2 b))) (show 50 * nc ≤ 25600 by have := hI.1; omega)
    refine n_iald (g := (f 9)) (n := 6) (i := stackN ux.toNat (b2 b)) hx hb hK hP (hW.2.1 9 (by decide)) (by omega) (by omega) dX6_sheets_20 ?_
    refine lv_goto (tgt := 25) hx hb dX6_sheets_21 (by decide) ?_
    exact e_wi hx hb hr hlocks hP hD hS (mPost_of (a := 0) (b := (((f 9) (stackN ux.toNat (b2 b)) : Nat) : Int)) (i := i) (f := f) (by unfold oSheets; (repeat (first | rw [if_pos (by omega)] | rw [if_neg (by omega)])); (first | done | rfl | omega)) (nI_zI _) hW) dX6_sheets_25

set_option maxRecDepth 100000 in
set_option maxHeartbeats 4000000 in
/-- orderAnew -/
theorem c_X6_orderAnew (l : Launch) (D : va_G) (cy : Nat → ClassId) (M : mM) (sz : Nat) (h : Nat) (ad : Nat → Nat) (t : Nat) (i : Nat → Nat) (f : Nat → Nat → Nat) (nc : Nat)  (x : Int32) (ux : Int) (hW : MW cy M h ad t i f) (hI : MI nc i f)  (px : x.toInt = ux) : mWi l yX6_orderAnew wsX6_orderAnew ({ frames := 5, cells := 0, slots := 0, locals := 118 } : Room) D cy M sz [.ref h, .int x] (mPost cy h ad (oOrder ux i f)) 0 0 := by
  refine mW.of (cc := cX6_orderAnew) (maxL := 2) (ret := (some .int)) (by decide) rfl (Nat.le_of_ble_eq_true rfl) ?_
  intro p e s m args below meth c ls hsz hx hb hr hts hown hlocks hml hname hP hD hS hA hK hl
  have hl : lv_has ls 2 [(0, .ref h), (1, .int x)] := hl
  have hown : s.vm.findClass RX6 = some m.cls := hown
  have hwX6 : ∀ w ∈ wsX60, w.before args s = true := fun w h => hts w (List.mem_cons_of_mem _ (List.mem_append_right _ (h)))
  obtain ⟨hn, hi1, hi2, hi5, hi10, -⟩ := id hI
  have rgx := i32_rng x
  rw [px] at rgx
  refine lv_aload_n hx hb dX6_orderAnew_0 rfl (lv_at hl 0 rfl) ?_
  refine lv_aload_n hx hb dX6_orderAnew_1 rfl (lv_at hl 0 rfl) ?_
  refine lv_iload_n hx hb dX6_orderAnew_2 rfl (lv_at hl 1 rfl) ?_
  refine vp_callSi (W.runV (C := RX6) (As := [.int x]) (rest := [.ref h]) ⟨hx, hb, hml, hown, hts⟩ (c_X6_isScript l D cy _ h ad t i f nc x ux hW hI (px)) (cwV 1 hts gX6_orderAnew_X6_isScript rfl rfl rfl (by decide +kernel) ⟨Nat.le_of_ble_eq_true rfl, Nat.le_of_ble_eq_true rfl⟩) (mPreV hK hP hW.1 (ci := 7) rfl) rfl rfl hl.1 rfl (lv_room (Nat.le_of_ble_eq_true rfl)) dX6_orderAnew_3 ⟨Nat.le_of_ble_eq_true rfl, Nat.le_of_ble_eq_true rfl⟩) (fun r9 hr9 => ?_)
  have hr9 : r9 = (nI (b2 (inB ux 0 ((i 10 : Int) - 1)))) := hr9
  subst hr9
  refine m_calli (va_runV (C := RX6) (As := [.int (nI (b2 (inB ux 0 ((i 10 : Int) - 1))))]) (rest := []) ⟨hx, hb, hml, hown, hts⟩ (c_X6_asks l D cy _ _ h ad t i f nc (inB ux 0 ((i 10 : Int) - 1)) hW hI) (cwV 1 hts gX6_orderAnew_X6_asks rfl rfl rfl (by decide +kernel) ⟨Nat.le_of_ble_eq_true rfl, Nat.le_of_ble_eq_true rfl⟩) (mPreWV hK hP hW.1 (ci := 7) rfl) rfl rfl hl.1 rfl (lv_room (Nat.le_of_ble_eq_true rfl)) dX6_orderAnew_6 ⟨Nat.le_of_ble_eq_true rfl, Nat.le_of_ble_eq_true rfl⟩) hD hA hS (fun r9 Mn H locs hq9 hP hD hS hz9 hd9 hk9 => ?_)
  obtain ⟨hr9, hW⟩ := hq9
  have hr9 : r9 = (nI (b2 (inB ux 0 ((i 10 : Int) - 1)))) := hr9
  subst hr9
  have hW : MW cy Mn h ad (b2 (!(inB ux 0 ((i 10 : Int) - 1)))) i f := hW
  refine b_if_eq (b := inB ux 0 ((i 10 : Int) - 1)) (tgt := 21) hx hb dX6_orderAnew_9 (by decide) (fun c_9 => ?_) (fun c_9 => ?_)
  · have hW := MW.tf hW c_9
    have c_9 := inB_f c_9
    refine lv_iconst (v := (nI 0)) hx hb dX6_orderAnew_21 (by decide) ?_
    exact e_wi hx hb hr hlocks hP hD hS (mPost_of (a := 1) (b := ((0 : Nat) : Int)) (i := i) (f := f) (by unfold oOrder; (repeat (first | rw [if_pos (by omega)] | rw [if_neg (by omega)])); (first | done | rfl | omega)) (nI_zI _) hW) dX6_orderAnew_22
  · have hW := MW.tt hW c_9
    have c_9 := inB_t c_9
    have ex_1 : x = (nI ux.toNat) := nI_of_toInt (px) (by omega)
    have hl : lv_has ls 2 [(0, .ref h), (1, .int (nI ux.toNat))] := by
      rw [← ex_1]
      exact hl
    refine lv_aload_n hx hb dX6_orderAnew_12 rfl (lv_at hl 0 rfl) ?_
    refine lv_iload_n hx hb dX6_orderAnew_13 rfl (lv_at hl 1 rfl) ?_
    refine lv_iconst (v := (nI 3)) hx hb dX6_orderAnew_14 (by decide) ?_
    refine m_calli (va_runV (C := RX6) (As := [.int (nI ux.toNat), .int (nI 3)]) (rest := []) ⟨hx, hb, hml, hown, hts⟩ (c_X6_slipsOf l D cy _ _ h ad 0 i f nc ux.toNat 3 hW hI (by omega) (by omega)) (cwV 2 hts gX6_orderAnew_X6_slipsOf rfl rfl rfl (by decide +kernel) ⟨Nat.le_of_ble_eq_true rfl, Nat.le_of_ble_eq_true rfl⟩) (mPreWV hK hP hW.1 (ci := 7) rfl) rfl rfl hl.1 rfl (lv_room (Nat.le_of_ble_eq_true rfl)) dX6_orderAnew_15 ⟨Nat.le_of_ble_eq_true rfl, Nat.le_of_ble_eq_true rfl⟩) hD hA hS (fun r9 Mn H locs hq9 hP hD hS hz9 hd9 hk9 => ?_)
    obtain ⟨hr9, hW⟩ := hq9
    have hr9 : r9 = (zI (slipsK f ux.toNat 3)) := hr9
    subst hr9
    have hW : MW cy Mn h ad 0 i f := hW
    have bs_1 := slipsK_bd hI ux.toNat 3
    refine lv_goto (tgt := 22) hx hb dX6_orderAnew_18 (by decide) ?_
    exact e_wi hx hb hr hlocks hP hD hS (mPost_of (a := 0) (b := slipsK f ux.toNat 3) (i := i) (f := f) (by unfold oOrder; (repeat (first | rw [if_pos (by omega)] | rw [if_neg (by omega)])); (first | done | rfl | omega)) (rfl) hW) dX6_orderAnew_22

set_option maxRecDepth 100000 in
set_option maxHeartbeats 4000000 in
/-- grade -/
theorem c_X6_grade (l : Launch) (D : va_G) (cy : Nat → ClassId) (M : mM) (sz : Nat) (h : Nat) (ad : Nat → Nat) (t : Nat) (i : Nat → Nat) (f : Nat → Nat → Nat) (nc : Nat)  (x : Int32) (ux : Int) (hW : MW cy M h ad t i f) (hI : MI nc i f)  (px : x.toInt = ux) : mWi l yX6_grade wsX6_grade ({ frames := 2, cells := 0, slots := 0, locals := 49 } : Room) D cy M sz [.ref h, .int x] (mPost cy h ad (oGrade ux i f)) 0 0 := by
  refine mW.of (cc := cX6_grade) (maxL := 2) (ret := (some .int)) (by decide) rfl (Nat.le_of_ble_eq_true rfl) ?_
  intro p e s m args below meth c ls hsz hx hb hr hts hown hlocks hml hname hP hD hS hA hK hl
  have hl : lv_has ls 2 [(0, .ref h), (1, .int x)] := hl
  have hown : s.vm.findClass RX6 = some m.cls := hown
  have hwX6 : ∀ w ∈ wsX60, w.before args s = true := fun w h => hts w (List.mem_cons_of_mem _ (List.mem_append_right _ (h)))
  obtain ⟨hn, hi1, hi2, hi5, hi10, -⟩ := id hI
  have rgx := i32_rng x
  rw [px] at rgx
  refine lv_aload_n hx hb dX6_grade_0 rfl (lv_at hl 0 rfl) ?_
  refine lv_aload_n hx hb dX6_grade_1 rfl (lv_at hl 0 rfl) ?_
  refine lv_iload_n hx hb dX6_grade_2 rfl (lv_at hl 1 rfl) ?_
  refine vp_callSi (W.runV (C := RX6) (As := [.int x]) (rest := [.ref h]) ⟨hx, hb, hml, hown, hts⟩ (c_X6_isScript l D cy _ h ad t i f nc x ux hW hI (px)) (cwV 1 hts gX6_grade_X6_isScript rfl rfl rfl (by decide +kernel) ⟨Nat.le_of_ble_eq_true rfl, Nat.le_of_ble_eq_true rfl⟩) (mPreV hK hP hW.1 (ci := 7) rfl) rfl rfl hl.1 rfl (lv_room (Nat.le_of_ble_eq_true rfl)) dX6_grade_3 ⟨Nat.le_of_ble_eq_true rfl, Nat.le_of_ble_eq_true rfl⟩) (fun r9 hr9 => ?_)
  have hr9 : r9 = (nI (b2 (inB ux 0 ((i 10 : Int) - 1)))) := hr9
  subst hr9
  refine m_calli (va_runV (C := RX6) (As := [.int (nI (b2 (inB ux 0 ((i 10 : Int) - 1))))]) (rest := []) ⟨hx, hb, hml, hown, hts⟩ (c_X6_asks l D cy _ _ h ad t i f nc (inB ux 0 ((i 10 : Int) - 1)) hW hI) (cwV 1 hts gX6_grade_X6_asks rfl rfl rfl (by decide +kernel) ⟨Nat.le_of_ble_eq_true rfl, Nat.le_of_ble_eq_true rfl⟩) (mPreWV hK hP hW.1 (ci := 7) rfl) rfl rfl hl.1 rfl (lv_room (Nat.le_of_ble_eq_true rfl)) dX6_grade_6 ⟨Nat.le_of_ble_eq_true rfl, Nat.le_of_ble_eq_true rfl⟩) hD hA hS (fun r9 Mn H locs hq9 hP hD hS hz9 hd9 hk9 => ?_)
  obtain ⟨hr9, hW⟩ := hq9
  have hr9 : r9 = (nI (b2 (inB ux 0 ((i 10 : Int) - 1)))) := hr9
  subst hr9
  have hW : MW cy Mn h ad (b2 (!(inB ux 0 ((i 10 : Int) - 1)))) i f := hW
  refine b_if_eq (b := inB ux 0 ((i 10 : Int) - 1)) (tgt := 20) hx hb dX6_grade_9 (by decide) (fun c_9 => ?_) (fun c_9 => ?_)
  · have hW := MW.tf hW c_9
    have c_9 := inB_f c_9
    refine lv_iconst (v := (nI 0)) hx hb dX6_grade_20 (by decide) ?_
    exact e_wi hx hb hr hlocks hP hD hS (mPost_of (a := 1) (b := ((0 : Nat) : Int)) (i := i) (f := f) (by unfold oGrade; (repeat (first | rw [if_pos (by omega)] | rw [if_neg (by omega)])); (first | done | rfl | omega)) (nI_zI _) hW) dX6_grade_21
  · have hW := MW.tt hW c_9
    have c_9 := inB_t c_9
    have ex_1 : x = (nI ux.toNat) := nI_of_toInt (px) (by omega)
    have hl : lv_has ls 2 [(0, .ref h), (1, .int (nI ux.toNat))] := by
      rw [← ex_1]
      exact hl
    refine lv_aload_n hx hb dX6_grade_12 rfl (lv_at hl 0 rfl) ?_
    refine lv_iload_n hx hb dX6_grade_13 rfl (lv_at hl 1 rfl) ?_
    refine vp_callSi (W.runV (C := RX6) (As := [.int (nI ux.toNat)]) (rest := []) ⟨hx, hb, hml, hown, hts⟩ (c_X6_gradeOf l D cy _ h ad 0 i f nc ux.toNat hW hI (by omega)) (cwV 1 hts gX6_grade_X6_gradeOf rfl rfl rfl (by decide +kernel) ⟨Nat.le_of_ble_eq_true rfl, Nat.le_of_ble_eq_true rfl⟩) (mPreV hK hP hW.1 (ci := 7) rfl) rfl rfl hl.1 rfl (lv_room (Nat.le_of_ble_eq_true rfl)) dX6_grade_14 ⟨Nat.le_of_ble_eq_true rfl, Nat.le_of_ble_eq_true rfl⟩) (fun r9 hr9 => ?_)
    have hr9 : r9 = (zI (gradeS f ux.toNat)) := hr9
    subst hr9
    have bs_1 : -1 ≤ gradeS f ux.toNat ∧ gradeS f ux.toNat ≤ 20 := gradeS_bd hI _
    refine lv_goto (tgt := 21) hx hb dX6_grade_17 (by decide) ?_
    exact e_wi hx hb hr hlocks hP hD hS (mPost_of (a := 0) (b := gradeS f ux.toNat) (i := i) (f := f) (by unfold oGrade; (repeat (first | rw [if_pos (by omega)] | rw [if_neg (by omega)])); (first | done | rfl | omega)) (rfl) hW) dX6_grade_21

set_option maxRecDepth 100000 in
set_option maxHeartbeats 4000000 in
/-- lacks -/
theorem c_X6_lacks (l : Launch) (D : va_G) (cy : Nat → ClassId) (M : mM) (sz : Nat) (h : Nat) (ad : Nat → Nat) (t : Nat) (i : Nat → Nat) (f : Nat → Nat → Nat) (nc : Nat)  (x : Int32) (ux : Int) (hW : MW cy M h ad t i f) (hI : MI nc i f)  (px : x.toInt = ux) : mWi l yX6_lacks wsX6_lacks ({ frames := 2, cells := 0, slots := 0, locals := 43 } : Room) D cy M sz [.ref h, .int x] (mPost cy h ad (oLacks ux i f)) 0 0 := by
  refine mW.of (cc := cX6_lacks) (maxL := 2) (ret := (some .int)) (by decide) rfl (Nat.le_of_ble_eq_true rfl) ?_
  intro p e s m args below meth c ls hsz hx hb hr hts hown hlocks hml hname hP hD hS hA hK hl
  have hl : lv_has ls 2 [(0, .ref h), (1, .int x)] := hl
  have hown : s.vm.findClass RX6 = some m.cls := hown
  have hwX6 : ∀ w ∈ wsX60, w.before args s = true := fun w h => hts w (List.mem_cons_of_mem _ (List.mem_append_right _ (h)))
  obtain ⟨hn, hi1, hi2, hi5, hi10, -⟩ := id hI
  have rgx := i32_rng x
  rw [px] at rgx
  refine lv_aload_n hx hb dX6_lacks_0 rfl (lv_at hl 0 rfl) ?_
  refine lv_aload_n hx hb dX6_lacks_1 rfl (lv_at hl 0 rfl) ?_
  refine lv_iload_n hx hb dX6_lacks_2 rfl (lv_at hl 1 rfl) ?_
  refine vp_callSi (W.runV (C := RX6) (As := [.int x]) (rest := [.ref h]) ⟨hx, hb, hml, hown, hts⟩ (c_X6_isScript l D cy _ h ad t i f nc x ux hW hI (px)) (cwV 1 hts gX6_lacks_X6_isScript rfl rfl rfl (by decide +kernel) ⟨Nat.le_of_ble_eq_true rfl, Nat.le_of_ble_eq_true rfl⟩) (mPreV hK hP hW.1 (ci := 7) rfl) rfl rfl hl.1 rfl (lv_room (Nat.le_of_ble_eq_true rfl)) dX6_lacks_3 ⟨Nat.le_of_ble_eq_true rfl, Nat.le_of_ble_eq_true rfl⟩) (fun r9 hr9 => ?_)
  have hr9 : r9 = (nI (b2 (inB ux 0 ((i 10 : Int) - 1)))) := hr9
  subst hr9
  refine m_calli (va_runV (C := RX6) (As := [.int (nI (b2 (inB ux 0 ((i 10 : Int) - 1))))]) (rest := []) ⟨hx, hb, hml, hown, hts⟩ (c_X6_asks l D cy _ _ h ad t i f nc (inB ux 0 ((i 10 : Int) - 1)) hW hI) (cwV 1 hts gX6_lacks_X6_asks rfl rfl rfl (by decide +kernel) ⟨Nat.le_of_ble_eq_true rfl, Nat.le_of_ble_eq_true rfl⟩) (mPreWV hK hP hW.1 (ci := 7) rfl) rfl rfl hl.1 rfl (lv_room (Nat.le_of_ble_eq_true rfl)) dX6_lacks_6 ⟨Nat.le_of_ble_eq_true rfl, Nat.le_of_ble_eq_true rfl⟩) hD hA hS (fun r9 Mn H locs hq9 hP hD hS hz9 hd9 hk9 => ?_)
  obtain ⟨hr9, hW⟩ := hq9
  have hr9 : r9 = (nI (b2 (inB ux 0 ((i 10 : Int) - 1)))) := hr9
  subst hr9
  have hW : MW cy Mn h ad (b2 (!(inB ux 0 ((i 10 : Int) - 1)))) i f := hW
  refine b_if_eq (b := inB ux 0 ((i 10 : Int) - 1)) (tgt := 20) hx hb dX6_lacks_9 (by decide) (fun c_9 => ?_) (fun c_9 => ?_)
  · have hW := MW.tf hW c_9
    have c_9 := inB_f c_9
    refine lv_iconst (v := (nI 0)) hx hb dX6_lacks_20 (by decide) ?_
    exact e_wi hx hb hr hlocks hP hD hS (mPost_of (a := 1) (b := ((0 : Nat) : Int)) (i := i) (f := f) (by unfold oLacks; (repeat (first | rw [if_pos (by omega)] | rw [if_neg (by omega)])); (first | done | rfl | omega)) (nI_zI _) hW) dX6_lacks_21
  · have hW := MW.tt hW c_9
    have c_9 := inB_t c_9
    have ex_1 : x = (nI ux.toNat) := nI_of_toInt (px) (by omega)
    have hl : lv_has ls 2 [(0, .ref h), (1, .int (nI ux.toNat))] := by
      rw [← ex_1]
      exact hl
    refine lv_aload_n hx hb dX6_lacks_12 rfl (lv_at hl 0 rfl) ?_
    refine lv_iload_n hx hb dX6_lacks_13 rfl (lv_at hl 1 rfl) ?_
    refine vp_callSi (W.runV (C := RX6) (As := [.int (nI ux.toNat)]) (rest := []) ⟨hx, hb, hml, hown, hts⟩ (c_X6_lacking l D cy _ h ad 0 i f nc ux.toNat hW hI (by omega)) (cwV 1 hts gX6_lacks_X6_lacking rfl rfl rfl (by decide +kernel) ⟨Nat.le_of_ble_eq_true rfl, Nat.le_of_ble_eq_true rfl⟩) (mPreV hK hP hW.1 (ci := 7) rfl) rfl rfl hl.1 rfl (lv_room (Nat.le_of_ble_eq_true rfl)) dX6_lacks_14 ⟨Nat.le_of_ble_eq_true rfl, Nat.le_of_ble_eq_true rfl⟩) (fun r9 hr9 => ?_)
    have hr9 : r9 = (nI (lackS f ux.toNat)) := hr9
    subst hr9
    have bs_1 : lackS f ux.toNat ≤ 2 := lackS_le _ _
    refine lv_goto (tgt := 21) hx hb dX6_lacks_17 (by decide) ?_
    exact e_wi hx hb hr hlocks hP hD hS (mPost_of (a := 0) (b := ((lackS f ux.toNat : Nat) : Int)) (i := i) (f := f) (by unfold oLacks; (repeat (first | rw [if_pos (by omega)] | rw [if_neg (by omega)])); (first | done | rfl | omega)) (nI_zI _) hW) dX6_lacks_21

set_option maxRecDepth 100000 in
set_option maxHeartbeats 4000000 in
/-- worth -/
theorem c_X6_worth (l : Launch) (D : va_G) (cy : Nat → ClassId) (M : mM) (sz : Nat) (h : Nat) (ad : Nat → Nat) (t : Nat) (i : Nat → Nat) (f : Nat → Nat → Nat) (nc : Nat)  (x : Int32) (ux : Int) (hW : MW cy M h ad t i f) (hI : MI nc i f)  (px : x.toInt = ux) : mWi l yX6_worth wsX6_worth ({ frames := 7, cells := 0, slots := 0, locals := 163 } : Room) D cy M sz [.ref h, .int x] (mPost cy h ad (oWorth ux i f)) 0 0 := by
  refine mW.of (cc := cX6_worth) (maxL := 2) (ret := (some .int)) (by decide) rfl (Nat.le_of_ble_eq_true rfl) ?_
  intro p e s m args below meth c ls hsz hx hb hr hts hown hlocks hml hname hP hD hS hA hK hl
  have hl : lv_has ls 2 [(0, .ref h), (1, .int x)] := hl
  have hown : s.vm.findClass RX6 = some m.cls := hown
  have hwX6 : ∀ w ∈ wsX60, w.before args s = true := fun w h => hts w (List.mem_cons_of_mem _ (List.mem_append_right _ (h)))
  obtain ⟨hn, hi1, hi2, hi5, hi10, -⟩ := id hI
  have rgx := i32_rng x
  rw [px] at rgx
  refine lv_aload_n hx hb dX6_worth_0 rfl (lv_at hl 0 rfl) ?_
  refine lv_aload_n hx hb dX6_worth_1 rfl (lv_at hl 0 rfl) ?_
  refine lv_iload_n hx hb dX6_worth_2 rfl (lv_at hl 1 rfl) ?_
  refine vp_callSi (W.runV (C := RX6) (As := [.int x]) (rest := [.ref h]) ⟨hx, hb, hml, hown, hts⟩ (c_X6_isScript l D cy _ h ad t i f nc x ux hW hI (px)) (cwV 1 hts gX6_worth_X6_isScript rfl rfl rfl (by decide +kernel) ⟨Nat.le_of_ble_eq_true rfl, Nat.le_of_ble_eq_true rfl⟩) (mPreV hK hP hW.1 (ci := 7) rfl) rfl rfl hl.1 rfl (lv_room (Nat.le_of_ble_eq_true rfl)) dX6_worth_3 ⟨Nat.le_of_ble_eq_true rfl, Nat.le_of_ble_eq_true rfl⟩) (fun r9 hr9 => ?_)
  have hr9 : r9 = (nI (b2 (inB ux 0 ((i 10 : Int) - 1)))) := hr9
  subst hr9
  refine m_calli (va_runV (C := RX6) (As := [.int (nI (b2 (inB ux 0 ((i 10 : Int) - 1))))]) (rest := []) ⟨hx, hb, hml, hown, hts⟩ (c_X6_asks l D cy _ _ h ad t i f nc (inB ux 0 ((i 10 : Int) - 1)) hW hI) (cwV 1 hts gX6_worth_X6_asks rfl rfl rfl (by decide +kernel) ⟨Nat.le_of_ble_eq_true rfl, Nat.le_of_ble_eq_true rfl⟩) (mPreWV hK hP hW.1 (ci := 7) rfl) rfl rfl hl.1 rfl (lv_room (Nat.le_of_ble_eq_true rfl)) dX6_worth_6 ⟨Nat.le_of_ble_eq_true rfl, Nat.le_of_ble_eq_true rfl⟩) hD hA hS (fun r9 Mn H locs hq9 hP hD hS hz9 hd9 hk9 => ?_)
  obtain ⟨hr9, hW⟩ := hq9
  have hr9 : r9 = (nI (b2 (inB ux 0 ((i 10 : Int) - 1)))) := hr9
  subst hr9
  have hW : MW cy Mn h ad (b2 (!(inB ux 0 ((i 10 : Int) - 1)))) i f := hW
  refine b_if_eq (b := inB ux 0 ((i 10 : Int) - 1)) (tgt := 20) hx hb dX6_worth_9 (by decide) (fun c_9 => ?_) (fun c_9 => ?_)
  · have hW := MW.tf hW c_9
    have c_9 := inB_f c_9
    refine lv_iconst (v := (nI 0)) hx hb dX6_worth_20 (by decide) ?_
    exact e_wi hx hb hr hlocks hP hD hS (mPost_of (a := 1) (b := ((0 : Nat) : Int)) (i := i) (f := f) (by unfold oWorth; (repeat (first | rw [if_pos (by omega)] | rw [if_neg (by omega)])); (first | done | rfl | omega)) (nI_zI _) hW) dX6_worth_21
  · have hW := MW.tt hW c_9
    have c_9 := inB_t c_9
    have ex_1 : x = (nI ux.toNat) := nI_of_toInt (px) (by omega)
    have hl : lv_has ls 2 [(0, .ref h), (1, .int (nI ux.toNat))] := by
      rw [← ex_1]
      exact hl
    refine lv_aload_n hx hb dX6_worth_12 rfl (lv_at hl 0 rfl) ?_
    refine lv_iload_n hx hb dX6_worth_13 rfl (lv_at hl 1 rfl) ?_
    refine m_calli (va_runV (C := RX6) (As := [.int (nI ux.toNat)]) (rest := []) ⟨hx, hb, hml, hown, hts⟩ (c_X6_worthOf l D cy _ _ h ad 0 i f nc ux.toNat hW hI (by omega)) (cwV 1 hts gX6_worth_X6_worthOf rfl rfl rfl (by decide +kernel) ⟨Nat.le_of_ble_eq_true rfl, Nat.le_of_ble_eq_true rfl⟩) (mPreWV hK hP hW.1 (ci := 7) rfl) rfl rfl hl.1 rfl (lv_room (Nat.le_of_ble_eq_true rfl)) dX6_worth_14 ⟨Nat.le_of_ble_eq_true rfl, Nat.le_of_ble_eq_true rfl⟩) hD hA hS (fun r9 Mn H locs hq9 hP hD hS hz9 hd9 hk9 => ?_)
    obtain ⟨hr9, hW⟩ := hq9
    have hr9 : r9 = (zI (worthS f ux.toNat)) := hr9
    subst hr9
    have hW : MW cy Mn h ad 0 i f := hW
    have bs_1 := worthS_bd hI ux.toNat
    refine lv_goto (tgt := 21) hx hb dX6_worth_17 (by decide) ?_
    exact e_wi hx hb hr hlocks hP hD hS (mPost_of (a := 0) (b := worthS f ux.toNat) (i := i) (f := f) (by unfold oWorth; (repeat (first | rw [if_pos (by omega)] | rw [if_neg (by omega)])); (first | done | rfl | omega)) (rfl) hW) dX6_worth_21

set_option maxRecDepth 100000 in
set_option maxHeartbeats 4000000 in
/-- place -/
theorem c_X6_place (l : Launch) (D : va_G) (cy : Nat → ClassId) (M : mM) (sz : Nat) (h : Nat) (ad : Nat → Nat) (t : Nat) (i : Nat → Nat) (f : Nat → Nat → Nat) (nc : Nat)  (x : Int32) (ux : Int) (hW : MW cy M h ad t i f) (hI : MI nc i f)  (px : x.toInt = ux) : mWi l yX6_place wsX6_place ({ frames := 8, cells := 0, slots := 0, locals := 189 } : Room) D cy M sz [.ref h, .int x] (mPost cy h ad (oPlace ux i f)) 0 0 := by
  refine mW.of (cc := cX6_place) (maxL := 2) (ret := (some .int)) (by decide) rfl (Nat.le_of_ble_eq_true rfl) ?_
  intro p e s m args below meth c ls hsz hx hb hr hts hown hlocks hml hname hP hD hS hA hK hl
  have hl : lv_has ls 2 [(0, .ref h), (1, .int x)] := hl
  have hown : s.vm.findClass RX6 = some m.cls := hown
  have hwX6 : ∀ w ∈ wsX60, w.before args s = true := fun w h => hts w (List.mem_cons_of_mem _ (List.mem_append_right _ (h)))
  obtain ⟨hn, hi1, hi2, hi5, hi10, -⟩ := id hI
  have rgx := i32_rng x
  rw [px] at rgx
  refine lv_aload_n hx hb dX6_place_0 rfl (lv_at hl 0 rfl) ?_
  refine lv_aload_n hx hb dX6_place_1 rfl (lv_at hl 0 rfl) ?_
  refine lv_iload_n hx hb dX6_place_2 rfl (lv_at hl 1 rfl) ?_
  refine vp_callSi (W.runV (C := RX6) (As := [.int x]) (rest := [.ref h]) ⟨hx, hb, hml, hown, hts⟩ (c_X6_isScript l D cy _ h ad t i f nc x ux hW hI (px)) (cwV 1 hts gX6_place_X6_isScript rfl rfl rfl (by decide +kernel) ⟨Nat.le_of_ble_eq_true rfl, Nat.le_of_ble_eq_true rfl⟩) (mPreV hK hP hW.1 (ci := 7) rfl) rfl rfl hl.1 rfl (lv_room (Nat.le_of_ble_eq_true rfl)) dX6_place_3 ⟨Nat.le_of_ble_eq_true rfl, Nat.le_of_ble_eq_true rfl⟩) (fun r9 hr9 => ?_)
  have hr9 : r9 = (nI (b2 (inB ux 0 ((i 10 : Int) - 1)))) := hr9
  subst hr9
  refine m_calli (va_runV (C := RX6) (As := [.int (nI (b2 (inB ux 0 ((i 10 : Int) - 1))))]) (rest := []) ⟨hx, hb, hml, hown, hts⟩ (c_X6_asks l D cy _ _ h ad t i f nc (inB ux 0 ((i 10 : Int) - 1)) hW hI) (cwV 1 hts gX6_place_X6_asks rfl rfl rfl (by decide +kernel) ⟨Nat.le_of_ble_eq_true rfl, Nat.le_of_ble_eq_true rfl⟩) (mPreWV hK hP hW.1 (ci := 7) rfl) rfl rfl hl.1 rfl (lv_room (Nat.le_of_ble_eq_true rfl)) dX6_place_6 ⟨Nat.le_of_ble_eq_true rfl, Nat.le_of_ble_eq_true rfl⟩) hD hA hS (fun r9 Mn H locs hq9 hP hD hS hz9 hd9 hk9 => ?_)
  obtain ⟨hr9, hW⟩ := hq9
  have hr9 : r9 = (nI (b2 (inB ux 0 ((i 10 : Int) - 1)))) := hr9
  subst hr9
  have hW : MW cy Mn h ad (b2 (!(inB ux 0 ((i 10 : Int) - 1)))) i f := hW
  refine b_if_eq (b := inB ux 0 ((i 10 : Int) - 1)) (tgt := 20) hx hb dX6_place_9 (by decide) (fun c_9 => ?_) (fun c_9 => ?_)
  · have hW := MW.tf hW c_9
    have c_9 := inB_f c_9
    refine lv_iconst (v := (nI 0)) hx hb dX6_place_20 (by decide) ?_
    exact e_wi hx hb hr hlocks hP hD hS (mPost_of (a := 1) (b := ((0 : Nat) : Int)) (i := i) (f := f) (by unfold oPlace; (repeat (first | rw [if_pos (by omega)] | rw [if_neg (by omega)])); (first | done | rfl | omega)) (nI_zI _) hW) dX6_place_21
  · have hW := MW.tt hW c_9
    have c_9 := inB_t c_9
    have ex_1 : x = (nI ux.toNat) := nI_of_toInt (px) (by omega)
    have hl : lv_has ls 2 [(0, .ref h), (1, .int (nI ux.toNat))] := by
      rw [← ex_1]
      exact hl
    refine lv_aload_n hx hb dX6_place_12 rfl (lv_at hl 0 rfl) ?_
    refine lv_iload_n hx hb dX6_place_13 rfl (lv_at hl 1 rfl) ?_
    refine m_calli (va_runV (C := RX6) (As := [.int (nI ux.toNat)]) (rest := []) ⟨hx, hb, hml, hown, hts⟩ (c_X6_placeOf l D cy _ _ h ad 0 i f nc ux.toNat hW hI (by omega)) (cwV 1 hts gX6_place_X6_placeOf rfl rfl rfl (by decide +kernel) ⟨Nat.le_of_ble_eq_true rfl, Nat.le_of_ble_eq_true rfl⟩) (mPreWV hK hP hW.1 (ci := 7) rfl) rfl rfl hl.1 rfl (lv_room (Nat.le_of_ble_eq_true rfl)) dX6_place_14 ⟨Nat.le_of_ble_eq_true rfl, Nat.le_of_ble_eq_true rfl⟩) hD hA hS (fun r9 Mn H locs hq9 hP hD hS hz9 hd9 hk9 => ?_)
    obtain ⟨hr9, hW⟩ := hq9
    have hr9 : r9 = (zI (placeS f (i 10) ux.toNat)) := hr9
    subst hr9
    have hW : MW cy Mn h ad 0 i f := hW
    have bs_1 := placeS_bd f (i 10) ux.toNat
    refine lv_goto (tgt := 21) hx hb dX6_place_17 (by decide) ?_
    exact e_wi hx hb hr hlocks hP hD hS (mPost_of (a := 0) (b := placeS f (i 10) ux.toNat) (i := i) (f := f) (by unfold oPlace; (repeat (first | rw [if_pos (by omega)] | rw [if_neg (by omega)])); (first | done | rfl | omega)) (rfl) hW) dX6_place_21

set_option maxRecDepth 100000 in
set_option maxHeartbeats 4000000 in
/-- slips -/
theorem c_X6_slips (l : Launch) (D : va_G) (cy : Nat → ClassId) (M : mM) (sz : Nat) (h : Nat) (ad : Nat → Nat) (t : Nat) (i : Nat → Nat) (f : Nat → Nat → Nat) (nc : Nat)  (x : Int32) (ux : Int) (y : Int32) (uy : Int) (hW : MW cy M h ad t i f) (hI : MI nc i f)  (px : x.toInt = ux) (py : y.toInt = uy) : mWi l yX6_slips wsX6_slips ({ frames := 6, cells := 0, slots := 0, locals := 141 } : Room) D cy M sz [.ref h, .int x, .int y] (mPost cy h ad (oSlips ux uy i f)) 0 0 := by
  refine mW.of (cc := cX6_slips) (maxL := 3) (ret := (some .int)) (by decide) rfl (Nat.le_of_ble_eq_true rfl) ?_
  intro p e s m args below meth c ls hsz hx hb hr hts hown hlocks hml hname hP hD hS hA hK hl
  have hl : lv_has ls 3 [(0, .ref h), (1, .int x), (2, .int y)] := hl
  have hown : s.vm.findClass RX6 = some m.cls := hown
  have hwX6 : ∀ w ∈ wsX60, w.before args s = true := fun w h => hts w (List.mem_cons_of_mem _ (List.mem_append_right _ (h)))
  obtain ⟨hn, hi1, hi2, hi5, hi10, -⟩ := id hI
  have rgx := i32_rng x
  rw [px] at rgx
  have rgy := i32_rng y
  rw [py] at rgy
  refine lv_aload_n hx hb dX6_slips_0 rfl (lv_at hl 0 rfl) ?_
  refine lv_aload_n hx hb dX6_slips_1 rfl (lv_at hl 0 rfl) ?_
  refine lv_iload_n hx hb dX6_slips_2 rfl (lv_at hl 1 rfl) ?_
  refine vp_callSi (W.runV (C := RX6) (As := [.int x]) (rest := [.ref h]) ⟨hx, hb, hml, hown, hts⟩ (c_X6_isScript l D cy _ h ad t i f nc x ux hW hI (px)) (cwV 1 hts gX6_slips_X6_isScript rfl rfl rfl (by decide +kernel) ⟨Nat.le_of_ble_eq_true rfl, Nat.le_of_ble_eq_true rfl⟩) (mPreV hK hP hW.1 (ci := 7) rfl) rfl rfl hl.1 rfl (lv_room (Nat.le_of_ble_eq_true rfl)) dX6_slips_3 ⟨Nat.le_of_ble_eq_true rfl, Nat.le_of_ble_eq_true rfl⟩) (fun r9 hr9 => ?_)
  have hr9 : r9 = (nI (b2 (inB ux 0 ((i 10 : Int) - 1)))) := hr9
  subst hr9
  refine m_calli (va_runV (C := RX6) (As := [.int (nI (b2 (inB ux 0 ((i 10 : Int) - 1))))]) (rest := []) ⟨hx, hb, hml, hown, hts⟩ (c_X6_asks l D cy _ _ h ad t i f nc (inB ux 0 ((i 10 : Int) - 1)) hW hI) (cwV 1 hts gX6_slips_X6_asks rfl rfl rfl (by decide +kernel) ⟨Nat.le_of_ble_eq_true rfl, Nat.le_of_ble_eq_true rfl⟩) (mPreWV hK hP hW.1 (ci := 7) rfl) rfl rfl hl.1 rfl (lv_room (Nat.le_of_ble_eq_true rfl)) dX6_slips_6 ⟨Nat.le_of_ble_eq_true rfl, Nat.le_of_ble_eq_true rfl⟩) hD hA hS (fun r9 Mn H locs hq9 hP hD hS hz9 hd9 hk9 => ?_)
  obtain ⟨hr9, hW⟩ := hq9
  have hr9 : r9 = (nI (b2 (inB ux 0 ((i 10 : Int) - 1)))) := hr9
  subst hr9
  have hW : MW cy Mn h ad (b2 (!(inB ux 0 ((i 10 : Int) - 1)))) i f := hW
  refine b_if_ne (b := inB ux 0 ((i 10 : Int) - 1)) (tgt := 14) hx hb dX6_slips_9 (by decide) (fun c_9 => ?_) (fun c_9 => ?_)
  · have hW := MW.tt hW c_9
    have c_9 := inB_t c_9
    refine lv_iload_n hx hb dX6_slips_14 rfl (lv_at hl 2 rfl) ?_
    refine lv_iconst (v := (nI 0)) hx hb dX6_slips_15 (by decide) ?_
    refine lv_iconst (v := (nI 5)) hx hb dX6_slips_16 (by decide) ?_
    refine vp_callSi (W.runS (As := [.int y, .int (nI 0), .int (nI 5)]) (rest := []) ⟨hx, hb, hml, hown, hts⟩ (c_X6_in l y (nI 0) (nI 5) uy ((0 : Nat) : Int) ((5 : Nat) : Int) (py) (nI_toInt (by omega)) (nI_toInt (by omega))) (va_cwS 3 hts gX6_slips_X6_in rfl rfl rfl (by decide +kernel) ⟨Nat.le_of_ble_eq_true rfl, Nat.le_of_ble_eq_true rfl⟩) mPre0 rfl rfl hl.1 rfl (lv_room (Nat.le_of_ble_eq_true rfl)) dX6_slips_17 ⟨Nat.le_of_ble_eq_true rfl, Nat.le_of_ble_eq_true rfl⟩) (fun r9 hr9 => ?_)
    have hr9 : r9 = (nI (b2 (inB uy ((0 : Nat) : Int) ((5 : Nat) : Int)))) := hr9
    subst hr9
    refine b_if_ne (b := inB uy ((0 : Nat) : Int) ((5 : Nat) : Int)) (tgt := 29) hx hb dX6_slips_20 (by decide) (fun c_20 => ?_) (fun c_20 => ?_)
    · have c_20 := inB_t c_20
      have ex_1 : x = (nI ux.toNat) := nI_of_toInt (px) (by omega)
      have ex_2 : y = (nI uy.toNat) := nI_of_toInt (py) (by omega)
      have hl : lv_has ls 3 [(0, .ref h), (1, .int (nI ux.toNat)), (2, .int (nI uy.toNat))] := by
        rw [← ex_1, ← ex_2]
        exact hl
      refine lv_iload_n hx hb dX6_slips_29 rfl (lv_at hl 2 rfl) ?_
      refine lv_iconst (v := (nI 4)) hx hb dX6_slips_30 (by decide) ?_
      refine z_icmp_le (u := ((uy.toNat : Nat) : Int)) (v := ((4 : Nat) : Int)) (tgt := 42) hx hb (nI_toInt (by omega)) (nI_toInt (by omega)) dX6_slips_31 (by decide) (fun c_31 => ?_) (fun c_31 => ?_)
      · refine lv_aload_n hx hb dX6_slips_42 rfl (lv_at hl 0 rfl) ?_
        refine lv_iload_n hx hb dX6_slips_43 rfl (lv_at hl 1 rfl) ?_
        refine lv_iload_n hx hb dX6_slips_44 rfl (lv_at hl 2 rfl) ?_
        refine m_calli (va_runV (C := RX6) (As := [.int (nI ux.toNat), .int (nI uy.toNat)]) (rest := []) ⟨hx, hb, hml, hown, hts⟩ (c_X6_slipsOf l D cy _ _ h ad 0 i f nc ux.toNat uy.toNat hW hI (by omega) (by omega)) (cwV 2 hts gX6_slips_X6_slipsOf rfl rfl rfl (by decide +kernel) ⟨Nat.le_of_ble_eq_true rfl, Nat.le_of_ble_eq_true rfl⟩) (mPreWV hK hP hW.1 (ci := 7) rfl) rfl rfl hl.1 rfl (lv_room (Nat.le_of_ble_eq_true rfl)) dX6_slips_45 ⟨Nat.le_of_ble_eq_true rfl, Nat.le_of_ble_eq_true rfl⟩) hD hA hS (fun r9 Mn H locs hq9 hP hD hS hz9 hd9 hk9 => ?_)
        obtain ⟨hr9, hW⟩ := hq9
        have hr9 : r9 = (zI (slipsK f ux.toNat uy.toNat)) := hr9
        subst hr9
        have hW : MW cy Mn h ad 0 i f := hW
        have bs_1 := slipsK_bd hI ux.toNat uy.toNat
        exact e_wi hx hb hr hlocks hP hD hS (mPost_of (a := 0) (b := slipsK f ux.toNat uy.toNat) (i := i) (f := f) (by unfold oSlips; (repeat (first | rw [if_pos (by omega)] | rw [if_neg (by omega)])); (first | done | rfl | omega)) (rfl) hW) dX6_slips_48
      · refine lv_aload_n hx hb dX6_slips_34 rfl (lv_at hl 0 rfl) ?_
        refine lv_iload_n hx hb dX6_slips_35 rfl (lv_at hl 1 rfl) ?_
        refine m_calli (va_runV (C := RX6) (As := [.int (nI ux.toNat)]) (rest := []) ⟨hx, hb, hml, hown, hts⟩ (c_X6_allSlips l D cy _ _ h ad 0 i f nc ux.toNat hW hI (by omega)) (cwV 1 hts gX6_slips_X6_allSlips rfl rfl rfl (by decide +kernel) ⟨Nat.le_of_ble_eq_true rfl, Nat.le_of_ble_eq_true rfl⟩) (mPreWV hK hP hW.1 (ci := 7) rfl) rfl rfl hl.1 rfl (lv_room (Nat.le_of_ble_eq_true rfl)) dX6_slips_36 ⟨Nat.le_of_ble_eq_true rfl, Nat.le_of_ble_eq_true rfl⟩) hD hA hS (fun r9 Mn H locs hq9 hP hD hS hz9 hd9 hk9 => ?_)
        obtain ⟨hr9, hW⟩ := hq9
        have hr9 : r9 = (zI (allSlips f ux.toNat)) := hr9
        subst hr9
        have hW : MW cy Mn h ad 0 i f := hW
        have bs_2 := allSlips_bd hI ux.toNat
        refine lv_goto (tgt := 48) hx hb dX6_slips_39 (by decide) ?_
        exact e_wi hx hb hr hlocks hP hD hS (mPost_of (a := 0) (b := allSlips f ux.toNat) (i := i) (f := f) (by unfold oSlips; (repeat (first | rw [if_pos (by omega)] | rw [if_neg (by omega)])); (first | done | rfl | omega)) (rfl) hW) dX6_slips_48
    · have c_20 := inB_f c_20
      refine lv_aload_n hx hb dX6_slips_23 rfl (lv_at hl 0 rfl) ?_
      refine lv_iconst (v := (nI 2)) hx hb dX6_slips_24 (by decide) ?_
      refine m_calli (va_runV (C := RX6) (As := [.int (nI 2)]) (rest := []) ⟨hx, hb, hml, hown, hts⟩ (c_X6_fails l D cy _ _ h ad 0 i f nc 2 hW hI) (cwV 1 hts gX6_slips_X6_fails rfl rfl rfl (by decide +kernel) ⟨Nat.le_of_ble_eq_true rfl, Nat.le_of_ble_eq_true rfl⟩) (mPreWV hK hP hW.1 (ci := 7) rfl) rfl rfl hl.1 rfl (lv_room (Nat.le_of_ble_eq_true rfl)) dX6_slips_25 ⟨Nat.le_of_ble_eq_true rfl, Nat.le_of_ble_eq_true rfl⟩) hD hA hS (fun r9 Mn H locs hq9 hP hD hS hz9 hd9 hk9 => ?_)
      obtain ⟨hr9, hW⟩ := hq9
      have hr9 : r9 = (nI 0) := hr9
      subst hr9
      have hW : MW cy Mn h ad 2 i f := hW
      exact e_wi hx hb hr hlocks hP hD hS (mPost_of (a := 2) (b := ((0 : Nat) : Int)) (i := i) (f := f) (by unfold oSlips; (repeat (first | rw [if_pos (by omega)] | rw [if_neg (by omega)])); (first | done | rfl | omega)) (nI_zI _) hW) dX6_slips_28
  · have hW := MW.tf hW c_9
    have c_9 := inB_f c_9
    refine lv_iconst (v := (nI 0)) hx hb dX6_slips_12 (by decide) ?_
    exact e_wi hx hb hr hlocks hP hD hS (mPost_of (a := 1) (b := ((0 : Nat) : Int)) (i := i) (f := f) (by unfold oSlips; (repeat (first | rw [if_pos (by omega)] | rw [if_neg (by omega)])); (first | done | rfl | omega)) (nI_zI _) hW) dX6_slips_13

set_option maxRecDepth 100000 in
set_option maxHeartbeats 4000000 in
/-- mark -/
theorem c_X6_mark (l : Launch) (D : va_G) (cy : Nat → ClassId) (M : mM) (sz : Nat) (h : Nat) (ad : Nat → Nat) (t : Nat) (i : Nat → Nat) (f : Nat → Nat → Nat) (nc : Nat)  (x : Int32) (ux : Int) (y : Int32) (uy : Int) (z : Int32) (uz : Int) (hW : MW cy M h ad t i f) (hI : MI nc i f)  (px : x.toInt = ux) (py : y.toInt = uy) (pz : z.toInt = uz) : mWi l yX6_mark wsX6_mark ({ frames := 2, cells := 0, slots := 0, locals := 43 } : Room) D cy M sz [.ref h, .int x, .int y, .int z] (mPost cy h ad (oMark ux uy uz i f)) 0 0 := by
  refine mW.of (cc := cX6_mark) (maxL := 4) (ret := (some .int)) (by decide) rfl (Nat.le_of_ble_eq_true rfl) ?_
  intro p e s m args below meth c ls hsz hx hb hr hts hown hlocks hml hname hP hD hS hA hK hl
  have hl : lv_has ls 4 [(0, .ref h), (1, .int x), (2, .int y), (3, .int z)] := hl
  have hown : s.vm.findClass RX6 = some m.cls := hown
  have hwX6 : ∀ w ∈ wsX60, w.before args s = true := fun w h => hts w (List.mem_cons_of_mem _ (List.mem_append_right _ (h)))
  obtain ⟨hn, hi1, hi2, hi5, hi10, -⟩ := id hI
  have rgx := i32_rng x
  rw [px] at rgx
  have rgy := i32_rng y
  rw [py] at rgy
  have rgz := i32_rng z
  rw [pz] at rgz
  refine lv_aload_n hx hb dX6_mark_0 rfl (lv_at hl 0 rfl) ?_
  refine lv_iload_n hx hb dX6_mark_1 rfl (lv_at hl 1 rfl) ?_
  refine vp_callSi (W.runS (As := [.int x]) (rest := [.ref h]) ⟨hx, hb, hml, hown, hts⟩ (c_X6_isExaminer l x ux (px)) (va_cwS 1 hts gX6_mark_X6_isExaminer rfl rfl rfl (by decide +kernel) ⟨Nat.le_of_ble_eq_true rfl, Nat.le_of_ble_eq_true rfl⟩) mPre0 rfl rfl hl.1 rfl (lv_room (Nat.le_of_ble_eq_true rfl)) dX6_mark_2 ⟨Nat.le_of_ble_eq_true rfl, Nat.le_of_ble_eq_true rfl⟩) (fun r9 hr9 => ?_)
  have hr9 : r9 = (nI (b2 (inB ux 0 5))) := hr9
  subst hr9
  refine b_if_eq (b := inB ux 0 5) (tgt := 20) hx hb dX6_mark_5 (by decide) (fun c_5 => ?_) (fun c_5 => ?_)
  · have c_5 := inB_f c_5
    refine lv_iconst (v := (nI 0)) hx hb dX6_mark_20 (by decide) ?_
    refine m_calli (va_runV (C := RX6) (As := [.int (nI 0)]) (rest := []) ⟨hx, hb, hml, hown, hts⟩ (c_X6_asks l D cy _ _ h ad t i f nc false hW hI) (cwV 1 hts gX6_mark_X6_asks rfl rfl rfl (by decide +kernel) ⟨Nat.le_of_ble_eq_true rfl, Nat.le_of_ble_eq_true rfl⟩) (mPreWV hK hP hW.1 (ci := 7) rfl) rfl rfl hl.1 rfl (lv_room (Nat.le_of_ble_eq_true rfl)) dX6_mark_21 ⟨Nat.le_of_ble_eq_true rfl, Nat.le_of_ble_eq_true rfl⟩) hD hA hS (fun r9 Mn H locs hq9 hP hD hS hz9 hd9 hk9 => ?_)
    obtain ⟨hr9, hW⟩ := hq9
    have hr9 : r9 = (nI 0) := hr9
    subst hr9
    have hW : MW cy Mn h ad 1 i f := hW
    refine k_if_ne_0 (tgt := 29) hx hb dX6_mark_24 (by decide) ?_
    refine lv_iconst (v := (nI 0)) hx hb dX6_mark_27 (by decide) ?_
    exact e_wi hx hb hr hlocks hP hD hS (mPost_of (a := 1) (b := ((0 : Nat) : Int)) (i := i) (f := f) (by unfold oMark; (repeat (first | rw [if_pos (by omega)] | rw [if_neg (by omega)] | rw [if_pos (Or.inl (by omega))] | rw [if_pos (Or.inr (Or.inl c_60))] | rw [if_pos (Or.inr (Or.inr (by omega)))] | rw [if_neg (fun h9 => by rcases h9 with h9 | h9 | h9; (omega); (rw [c_60] at h9; cases h9); (omega))])); (first | done | rfl | omega)) (nI_zI _) hW) dX6_mark_28
  · have c_5 := inB_t c_5
    refine lv_aload_n hx hb dX6_mark_8 rfl (lv_at hl 0 rfl) ?_
    refine lv_iload_n hx hb dX6_mark_9 rfl (lv_at hl 2 rfl) ?_
    refine vp_callSi (W.runV (C := RX6) (As := [.int y]) (rest := [.ref h]) ⟨hx, hb, hml, hown, hts⟩ (c_X6_isScript l D cy _ h ad t i f nc y uy hW hI (py)) (cwV 1 hts gX6_mark_X6_isScript rfl rfl rfl (by decide +kernel) ⟨Nat.le_of_ble_eq_true rfl, Nat.le_of_ble_eq_true rfl⟩) (mPreV hK hP hW.1 (ci := 7) rfl) rfl rfl hl.1 rfl (lv_room (Nat.le_of_ble_eq_true rfl)) dX6_mark_10 ⟨Nat.le_of_ble_eq_true rfl, Nat.le_of_ble_eq_true rfl⟩) (fun r9 hr9 => ?_)
    have hr9 : r9 = (nI (b2 (inB uy 0 ((i 10 : Int) - 1)))) := hr9
    subst hr9
    refine b_if_eq (b := inB uy 0 ((i 10 : Int) - 1)) (tgt := 20) hx hb dX6_mark_13 (by decide) (fun c_13 => ?_) (fun c_13 => ?_)
    · have c_13 := inB_f c_13
      refine lv_iconst (v := (nI 0)) hx hb dX6_mark_20 (by decide) ?_
      refine m_calli (va_runV (C := RX6) (As := [.int (nI 0)]) (rest := []) ⟨hx, hb, hml, hown, hts⟩ (c_X6_asks l D cy _ _ h ad t i f nc false hW hI) (cwV 1 hts gX6_mark_X6_asks rfl rfl rfl (by decide +kernel) ⟨Nat.le_of_ble_eq_true rfl, Nat.le_of_ble_eq_true rfl⟩) (mPreWV hK hP hW.1 (ci := 7) rfl) rfl rfl hl.1 rfl (lv_room (Nat.le_of_ble_eq_true rfl)) dX6_mark_21 ⟨Nat.le_of_ble_eq_true rfl, Nat.le_of_ble_eq_true rfl⟩) hD hA hS (fun r9 Mn H locs hq9 hP hD hS hz9 hd9 hk9 => ?_)
      obtain ⟨hr9, hW⟩ := hq9
      have hr9 : r9 = (nI 0) := hr9
      subst hr9
      have hW : MW cy Mn h ad 1 i f := hW
      refine k_if_ne_0 (tgt := 29) hx hb dX6_mark_24 (by decide) ?_
      refine lv_iconst (v := (nI 0)) hx hb dX6_mark_27 (by decide) ?_
      exact e_wi hx hb hr hlocks hP hD hS (mPost_of (a := 1) (b := ((0 : Nat) : Int)) (i := i) (f := f) (by unfold oMark; (repeat (first | rw [if_pos (by omega)] | rw [if_neg (by omega)] | rw [if_pos (Or.inl (by omega))] | rw [if_pos (Or.inr (Or.inl c_60))] | rw [if_pos (Or.inr (Or.inr (by omega)))] | rw [if_neg (fun h9 => by rcases h9 with h9 | h9 | h9; (omega); (rw [c_60] at h9; cases h9); (omega))])); (first | done | rfl | omega)) (nI_zI _) hW) dX6_mark_28
    · have c_13 := inB_t c_13
      refine lv_iconst (v := (nI 1)) hx hb dX6_mark_16 (by decide) ?_
      refine lv_goto (tgt := 21) hx hb dX6_mark_17 (by decide) ?_
      refine m_calli (va_runV (C := RX6) (As := [.int (nI 1)]) (rest := []) ⟨hx, hb, hml, hown, hts⟩ (c_X6_asks l D cy _ _ h ad t i f nc true hW hI) (cwV 1 hts gX6_mark_X6_asks rfl rfl rfl (by decide +kernel) ⟨Nat.le_of_ble_eq_true rfl, Nat.le_of_ble_eq_true rfl⟩) (mPreWV hK hP hW.1 (ci := 7) rfl) rfl rfl hl.1 rfl (lv_room (Nat.le_of_ble_eq_true rfl)) dX6_mark_21 ⟨Nat.le_of_ble_eq_true rfl, Nat.le_of_ble_eq_true rfl⟩) hD hA hS (fun r9 Mn H locs hq9 hP hD hS hz9 hd9 hk9 => ?_)
      obtain ⟨hr9, hW⟩ := hq9
      have hr9 : r9 = (nI 1) := hr9
      subst hr9
      have hW : MW cy Mn h ad 0 i f := hW
      refine k_if_ne_1 (tgt := 29) hx hb dX6_mark_24 (by decide) ?_
      refine lv_iload_n hx hb dX6_mark_29 rfl (lv_at hl 3 rfl) ?_
      refine lv_iconst (v := (nI 0)) hx hb dX6_mark_30 (by decide) ?_
      refine lv_bipush (v := (nI 20)) hx hb dX6_mark_31 (by decide) ?_
      refine vp_callSi (W.runS (As := [.int z, .int (nI 0), .int (nI 20)]) (rest := []) ⟨hx, hb, hml, hown, hts⟩ (c_X6_in l z (nI 0) (nI 20) uz ((0 : Nat) : Int) ((20 : Nat) : Int) (pz) (nI_toInt (by omega)) (nI_toInt (by omega))) (va_cwS 3 hts gX6_mark_X6_in rfl rfl rfl (by decide +kernel) ⟨Nat.le_of_ble_eq_true rfl, Nat.le_of_ble_eq_true rfl⟩) mPre0 rfl rfl hl.1 rfl (lv_room (Nat.le_of_ble_eq_true rfl)) dX6_mark_33 ⟨Nat.le_of_ble_eq_true rfl, Nat.le_of_ble_eq_true rfl⟩) (fun r9 hr9 => ?_)
      have hr9 : r9 = (nI (b2 (inB uz ((0 : Nat) : Int) ((20 : Nat) : Int)))) := hr9
      subst hr9
      refine b_if_ne (b := inB uz ((0 : Nat) : Int) ((20 : Nat) : Int)) (tgt := 45) hx hb dX6_mark_36 (by decide) (fun c_36 => ?_) (fun c_36 => ?_)
      · have c_36 := inB_t c_36
        have ex_1 : x = (nI ux.toNat) := nI_of_toInt (px) (by omega)
        have ex_2 : y = (nI uy.toNat) := nI_of_toInt (py) (by omega)
        have ex_3 : z = (nI uz.toNat) := nI_of_toInt (pz) (by omega)
        have hl : lv_has ls 4 [(0, .ref h), (1, .int (nI ux.toNat)), (2, .int (nI uy.toNat)), (3, .int (nI uz.toNat))] := by
          rw [← ex_1, ← ex_2, ← ex_3]
          exact hl
        refine lv_aload_n hx hb dX6_mark_45 rfl (lv_at hl 0 rfl) ?_
        refine m_get (T := TX6) (N := 24) (ci := 7) (fs := (moF ad 0 i)) hx hb hwX6 hown hK hP hW.1 rfl 19 (by decide) (hts _ (List.mem_of_getElem? (i := 1) rfl)) (v := .ref (ad 19)) rfl dX6_mark_46 ?_
        refine lv_iload_n hx hb dX6_mark_49 rfl (lv_at hl 1 rfl) ?_
        have bd_1 : (f 19) ux.toNat ≤ 1 := hI.2.2.2.2.2 19 ux.toNat
        refine n_zald (g := (f 19)) (n := 6) (i := ux.toNat) hx hb hK hP (hW.2.2.1 19 (by decide)) (by omega) (by omega) dX6_mark_50 ?_
        refine z_if_ne (u := (((f 19) ux.toNat : Nat) : Int)) (tgt := 71) hx hb (nI_toInt (by omega)) dX6_mark_51 (by decide) (fun c_51 => ?_) (fun c_51 => ?_)
        · refine lv_aload_n hx hb dX6_mark_71 rfl (lv_at hl 0 rfl) ?_
          refine lv_iconst (v := (nI 3)) hx hb dX6_mark_72 (by decide) ?_
          refine m_calli (va_runV (C := RX6) (As := [.int (nI 3)]) (rest := []) ⟨hx, hb, hml, hown, hts⟩ (c_X6_fails l D cy _ _ h ad 0 i f nc 3 hW hI) (cwV 1 hts gX6_mark_X6_fails rfl rfl rfl (by decide +kernel) ⟨Nat.le_of_ble_eq_true rfl, Nat.le_of_ble_eq_true rfl⟩) (mPreWV hK hP hW.1 (ci := 7) rfl) rfl rfl hl.1 rfl (lv_room (Nat.le_of_ble_eq_true rfl)) dX6_mark_73 ⟨Nat.le_of_ble_eq_true rfl, Nat.le_of_ble_eq_true rfl⟩) hD hA hS (fun r9 Mn H locs hq9 hP hD hS hz9 hd9 hk9 => ?_)
          obtain ⟨hr9, hW⟩ := hq9
          have hr9 : r9 = (nI 0) := hr9
          subst hr9
          have hW : MW cy Mn h ad 3 i f := hW
          exact e_wi hx hb hr hlocks hP hD hS (mPost_of (a := 3) (b := ((0 : Nat) : Int)) (i := i) (f := f) (by unfold oMark; (repeat (first | rw [if_pos (by omega)] | rw [if_neg (by omega)] | rw [if_pos (Or.inl (by omega))] | rw [if_pos (Or.inr (Or.inl c_60))] | rw [if_pos (Or.inr (Or.inr (by omega)))] | rw [if_neg (fun h9 => by rcases h9 with h9 | h9 | h9; (omega); (rw [c_60] at h9; cases h9); (omega))])); (first | done | rfl | omega)) (nI_zI _) hW) dX6_mark_76
        · refine lv_aload_n hx hb dX6_mark_54 rfl (lv_at hl 0 rfl) ?_
          refine lv_iload_n hx hb dX6_mark_55 rfl (lv_at hl 1 rfl) ?_
          refine lv_iload_n hx hb dX6_mark_56 rfl (lv_at hl 2 rfl) ?_
          refine vp_callSi (W.runV (C := RX6) (As := [.int (nI ux.toNat), .int (nI uy.toNat)]) (rest := []) ⟨hx, hb, hml, hown, hts⟩ (c_X6_hasMarked l D cy _ h ad 0 i f nc ux.toNat uy.toNat hW hI (by omega) (by omega)) (cwV 2 hts gX6_mark_X6_hasMarked rfl rfl rfl (by decide +kernel) ⟨Nat.le_of_ble_eq_true rfl, Nat.le_of_ble_eq_true rfl⟩) (mPreV hK hP hW.1 (ci := 7) rfl) rfl rfl hl.1 rfl (lv_room (Nat.le_of_ble_eq_true rfl)) dX6_mark_57 ⟨Nat.le_of_ble_eq_true rfl, Nat.le_of_ble_eq_true rfl⟩) (fun r9 hr9 => ?_)
          have hr9 : r9 = (nI (b2 (has f ux.toNat uy.toNat))) := hr9
          subst hr9
          refine b_if_ne (b := has f ux.toNat uy.toNat) (tgt := 71) hx hb dX6_mark_60 (by decide) (fun c_60 => ?_) (fun c_60 => ?_)
          · refine lv_aload_n hx hb dX6_mark_71 rfl (lv_at hl 0 rfl) ?_
            refine lv_iconst (v := (nI 3)) hx hb dX6_mark_72 (by decide) ?_
            refine m_calli (va_runV (C := RX6) (As := [.int (nI 3)]) (rest := []) ⟨hx, hb, hml, hown, hts⟩ (c_X6_fails l D cy _ _ h ad 0 i f nc 3 hW hI) (cwV 1 hts gX6_mark_X6_fails rfl rfl rfl (by decide +kernel) ⟨Nat.le_of_ble_eq_true rfl, Nat.le_of_ble_eq_true rfl⟩) (mPreWV hK hP hW.1 (ci := 7) rfl) rfl rfl hl.1 rfl (lv_room (Nat.le_of_ble_eq_true rfl)) dX6_mark_73 ⟨Nat.le_of_ble_eq_true rfl, Nat.le_of_ble_eq_true rfl⟩) hD hA hS (fun r9 Mn H locs hq9 hP hD hS hz9 hd9 hk9 => ?_)
            obtain ⟨hr9, hW⟩ := hq9
            have hr9 : r9 = (nI 0) := hr9
            subst hr9
            have hW : MW cy Mn h ad 3 i f := hW
            exact e_wi hx hb hr hlocks hP hD hS (mPost_of (a := 3) (b := ((0 : Nat) : Int)) (i := i) (f := f) (by unfold oMark; (repeat (first | rw [if_pos (by omega)] | rw [if_neg (by omega)] | rw [if_pos (Or.inl (by omega))] | rw [if_pos (Or.inr (Or.inl c_60))] | rw [if_pos (Or.inr (Or.inr (by omega)))] | rw [if_neg (fun h9 => by rcases h9 with h9 | h9 | h9; (omega); (rw [c_60] at h9; cases h9); (omega))])); (first | done | rfl | omega)) (nI_zI _) hW) dX6_mark_76
          · refine lv_aload_n hx hb dX6_mark_63 rfl (lv_at hl 0 rfl) ?_
            refine lv_iload_n hx hb dX6_mark_64 rfl (lv_at hl 2 rfl) ?_
            refine vp_callSi (W.runV (C := RX6) (As := [.int (nI uy.toNat)]) (rest := []) ⟨hx, hb, hml, hown, hts⟩ (c_X6_lacking l D cy _ h ad 0 i f nc uy.toNat hW hI (by omega)) (cwV 1 hts gX6_mark_X6_lacking rfl rfl rfl (by decide +kernel) ⟨Nat.le_of_ble_eq_true rfl, Nat.le_of_ble_eq_true rfl⟩) (mPreV hK hP hW.1 (ci := 7) rfl) rfl rfl hl.1 rfl (lv_room (Nat.le_of_ble_eq_true rfl)) dX6_mark_65 ⟨Nat.le_of_ble_eq_true rfl, Nat.le_of_ble_eq_true rfl⟩) (fun r9 hr9 => ?_)
            have hr9 : r9 = (nI (lackS f uy.toNat)) := hr9
            subst hr9
            have bs_2 : lackS f uy.toNat ≤ 2 := lackS_le _ _
            refine z_if_ne (u := ((lackS f uy.toNat : Nat) : Int)) (tgt := 77) hx hb (nI_toInt (by omega)) dX6_mark_68 (by decide) (fun c_68 => ?_) (fun c_68 => ?_)
            · have h18 : f 18 uy.toNat ≤ 2 := lackS_ne (by omega)
              refine lv_aload_n hx hb dX6_mark_77 rfl (lv_at hl 0 rfl) ?_
              refine m_get (T := TX6) (N := 24) (ci := 7) (fs := (moF ad 0 i)) hx hb hwX6 hown hK hP hW.1 rfl 16 (by decide) (hts _ (List.mem_of_getElem? (i := 2) rfl)) (v := .ref (ad 16)) rfl dX6_mark_78 ?_
              refine lv_iconst (v := (nI 3)) hx hb dX6_mark_81 (by decide) ?_
              refine lv_iload_n hx hb dX6_mark_82 rfl (lv_at hl 2 rfl) ?_
              refine n_mul (x := 3) (y := uy.toNat) hx hb dX6_mark_83 ?_
              refine lv_aload_n hx hb dX6_mark_84 rfl (lv_at hl 0 rfl) ?_
              refine m_get (T := TX6) (N := 24) (ci := 7) (fs := (moF ad 0 i)) hx hb hwX6 hown hK hP hW.1 rfl 18 (by decide) (hts _ (List.mem_of_getElem? (i := 3) rfl)) (v := .ref (ad 18)) rfl dX6_mark_85 ?_
              refine lv_iload_n hx hb dX6_mark_88 rfl (lv_at hl 2 rfl) ?_
              have bd_3 : (f 18) uy.toNat ≤ 3 := hI.2.2.2.2.2 18 uy.toNat
              refine n_iald (g := (f 18)) (n := 40) (i := uy.toNat) hx hb hK hP (hW.2.1 18 (by decide)) (by omega) (by omega) dX6_mark_89 ?_
              refine n_add (x := 3 * uy.toNat) (y := (f 18) uy.toNat) hx hb dX6_mark_90 ?_
              refine lv_iload_n hx hb dX6_mark_91 rfl (lv_at hl 3 rfl) ?_
              refine n_iast (g := (f 16)) (n := 120) (i := (3 * uy.toNat) + ((f 18) uy.toNat)) (v := uz.toNat) hx hb hK hP hD hS (hW.2.1 16 (by decide)) (by omega) (by omega) dX6_mark_92 (fun H locs hP hD hS => ?_)
              have hW := hW.setI 16 (by decide) (va_up (f 16) ((3 * uy.toNat) + ((f 18) uy.toNat)) uz.toNat)
              refine lv_aload_n hx hb dX6_mark_93 rfl (lv_at hl 0 rfl) ?_
              refine m_get (T := TX6) (N := 24) (ci := 7) (fs := (moF ad 0 i)) hx hb hwX6 hown hK hP hW.1 rfl 17 (by decide) (hts _ (List.mem_of_getElem? (i := 4) rfl)) (v := .ref (ad 17)) rfl dX6_mark_94 ?_
              refine lv_iconst (v := (nI 3)) hx hb dX6_mark_97 (by decide) ?_
              refine lv_iload_n hx hb dX6_mark_98 rfl (lv_at hl 2 rfl) ?_
              refine n_mul (x := 3) (y := uy.toNat) hx hb dX6_mark_99 ?_
              refine lv_aload_n hx hb dX6_mark_100 rfl (lv_at hl 0 rfl) ?_
              refine m_get (T := TX6) (N := 24) (ci := 7) (fs := (moF ad 0 i)) hx hb hwX6 hown hK hP hW.1 rfl 18 (by decide) (hts _ (List.mem_of_getElem? (i := 3) rfl)) (v := .ref (ad 18)) rfl dX6_mark_101 ?_
              refine lv_iload_n hx hb dX6_mark_104 rfl (lv_at hl 2 rfl) ?_
              have bd_4 : (f 18) uy.toNat ≤ 3 := hI.2.2.2.2.2 18 uy.toNat
              refine n_iald (g := (f 18)) (n := 40) (i := uy.toNat) hx hb hK hP (hW.2.1 18 (by decide)) (by omega) (by omega) dX6_mark_105 ?_
              refine n_add (x := 3 * uy.toNat) (y := (f 18) uy.toNat) hx hb dX6_mark_106 ?_
              refine lv_iload_n hx hb dX6_mark_107 rfl (lv_at hl 1 rfl) ?_
              refine n_iast (g := (f 17)) (n := 120) (i := (3 * uy.toNat) + ((f 18) uy.toNat)) (v := ux.toNat) hx hb hK hP hD hS (hW.2.1 17 (by decide)) (by omega) (by omega) dX6_mark_108 (fun H locs hP hD hS => ?_)
              have hW := hW.setI 17 (by decide) (va_up (f 17) ((3 * uy.toNat) + ((f 18) uy.toNat)) ux.toNat)
              refine lv_aload_n hx hb dX6_mark_109 rfl (lv_at hl 0 rfl) ?_
              refine m_get (T := TX6) (N := 24) (ci := 7) (fs := (moF ad 0 i)) hx hb hwX6 hown hK hP hW.1 rfl 18 (by decide) (hts _ (List.mem_of_getElem? (i := 3) rfl)) (v := .ref (ad 18)) rfl dX6_mark_110 ?_
              refine lv_iload_n hx hb dX6_mark_113 rfl (lv_at hl 2 rfl) ?_
              refine lv_dup2_11 hx hb dX6_mark_114 rfl rfl ?_
              have bd_5 : (f 18) uy.toNat ≤ 3 := hI.2.2.2.2.2 18 uy.toNat
              refine n_iald (g := (f 18)) (n := 40) (i := uy.toNat) hx hb hK hP (hW.2.1 18 (by decide)) (by omega) (by omega) dX6_mark_115 ?_
              refine lv_iconst (v := (nI 1)) hx hb dX6_mark_116 (by decide) ?_
              refine n_add (x := (f 18) uy.toNat) (y := 1) hx hb dX6_mark_117 ?_
              refine n_iast (g := (f 18)) (n := 40) (i := uy.toNat) (v := ((f 18) uy.toNat) + 1) hx hb hK hP hD hS (hW.2.1 18 (by decide)) (by omega) (by omega) dX6_mark_118 (fun H locs hP hD hS => ?_)
              have hW := hW.setI 18 (by decide) (va_up (f 18) uy.toNat (((f 18) uy.toNat) + 1))
              refine lv_aload_n hx hb dX6_mark_119 rfl (lv_at hl 0 rfl) ?_
              refine m_get (T := TX6) (N := 24) (ci := 7) (fs := (moF ad 0 i)) hx hb hwX6 hown hK hP hW.1 rfl 18 (by decide) (hts _ (List.mem_of_getElem? (i := 3) rfl)) (v := .ref (ad 18)) rfl dX6_mark_120 ?_
              refine lv_iload_n hx hb dX6_mark_123 rfl (lv_at hl 2 rfl) ?_
              refine n_iald (g := (va_up (f 18) uy.toNat (((f 18) uy.toNat) + 1))) (n := 40) (i := uy.toNat) hx hb hK hP (hW.2.1 18 (by decide)) (by omega) (by omega) dX6_mark_124 ?_
              refine n_name (show (nI ((va_up (f 18) uy.toNat (((f 18) uy.toNat) + 1)) uy.toNat)) = (nI (f 18 uy.toNat + 1)) from congrArg nI (va_up_self _ _ _)) ?_
              exact e_wi hx hb hr hlocks hP hD hS (mPost_of (a := 0) (b := ((f 18 uy.toNat + 1 : Nat) : Int)) (i := i) (f := va_up (va_up (va_up f 16 (va_up (f 16) ((3 * uy.toNat) + ((f 18) uy.toNat)) uz.toNat)) 17 (va_up (f 17) ((3 * uy.toNat) + ((f 18) uy.toNat)) ux.toNat)) 18 (va_up (f 18) uy.toNat (((f 18) uy.toNat) + 1))) (by unfold oMark; (repeat (first | rw [if_pos (by omega)] | rw [if_neg (by omega)] | rw [if_pos (Or.inl (by omega))] | rw [if_pos (Or.inr (Or.inl c_60))] | rw [if_pos (Or.inr (Or.inr (by omega)))] | rw [if_neg (fun h9 => by rcases h9 with h9 | h9 | h9; (omega); (rw [c_60] at h9; cases h9); (omega))])); (first | done | rfl | omega)) (nI_zI _) hW) dX6_mark_125
            · refine lv_aload_n hx hb dX6_mark_71 rfl (lv_at hl 0 rfl) ?_
              refine lv_iconst (v := (nI 3)) hx hb dX6_mark_72 (by decide) ?_
              refine m_calli (va_runV (C := RX6) (As := [.int (nI 3)]) (rest := []) ⟨hx, hb, hml, hown, hts⟩ (c_X6_fails l D cy _ _ h ad 0 i f nc 3 hW hI) (cwV 1 hts gX6_mark_X6_fails rfl rfl rfl (by decide +kernel) ⟨Nat.le_of_ble_eq_true rfl, Nat.le_of_ble_eq_true rfl⟩) (mPreWV hK hP hW.1 (ci := 7) rfl) rfl rfl hl.1 rfl (lv_room (Nat.le_of_ble_eq_true rfl)) dX6_mark_73 ⟨Nat.le_of_ble_eq_true rfl, Nat.le_of_ble_eq_true rfl⟩) hD hA hS (fun r9 Mn H locs hq9 hP hD hS hz9 hd9 hk9 => ?_)
              obtain ⟨hr9, hW⟩ := hq9
              have hr9 : r9 = (nI 0) := hr9
              subst hr9
              have hW : MW cy Mn h ad 3 i f := hW
              exact e_wi hx hb hr hlocks hP hD hS (mPost_of (a := 3) (b := ((0 : Nat) : Int)) (i := i) (f := f) (by unfold oMark; (repeat (first | rw [if_pos (by omega)] | rw [if_neg (by omega)] | rw [if_pos (Or.inl (by omega))] | rw [if_pos (Or.inr (Or.inl c_60))] | rw [if_pos (Or.inr (Or.inr (by omega)))] | rw [if_neg (fun h9 => by rcases h9 with h9 | h9 | h9; (omega); (rw [c_60] at h9; cases h9); (omega))])); (first | done | rfl | omega)) (nI_zI _) hW) dX6_mark_76
      · have c_36 := inB_f c_36
        refine lv_aload_n hx hb dX6_mark_39 rfl (lv_at hl 0 rfl) ?_
        refine lv_iconst (v := (nI 2)) hx hb dX6_mark_40 (by decide) ?_
        refine m_calli (va_runV (C := RX6) (As := [.int (nI 2)]) (rest := []) ⟨hx, hb, hml, hown, hts⟩ (c_X6_fails l D cy _ _ h ad 0 i f nc 2 hW hI) (cwV 1 hts gX6_mark_X6_fails rfl rfl rfl (by decide +kernel) ⟨Nat.le_of_ble_eq_true rfl, Nat.le_of_ble_eq_true rfl⟩) (mPreWV hK hP hW.1 (ci := 7) rfl) rfl rfl hl.1 rfl (lv_room (Nat.le_of_ble_eq_true rfl)) dX6_mark_41 ⟨Nat.le_of_ble_eq_true rfl, Nat.le_of_ble_eq_true rfl⟩) hD hA hS (fun r9 Mn H locs hq9 hP hD hS hz9 hd9 hk9 => ?_)
        obtain ⟨hr9, hW⟩ := hq9
        have hr9 : r9 = (nI 0) := hr9
        subst hr9
        have hW : MW cy Mn h ad 2 i f := hW
        exact e_wi hx hb hr hlocks hP hD hS (mPost_of (a := 2) (b := ((0 : Nat) : Int)) (i := i) (f := f) (by unfold oMark; (repeat (first | rw [if_pos (by omega)] | rw [if_neg (by omega)] | rw [if_pos (Or.inl (by omega))] | rw [if_pos (Or.inr (Or.inl c_60))] | rw [if_pos (Or.inr (Or.inr (by omega)))] | rw [if_neg (fun h9 => by rcases h9 with h9 | h9 | h9; (omega); (rw [c_60] at h9; cases h9); (omega))])); (first | done | rfl | omega)) (nI_zI _) hW) dX6_mark_44

set_option maxRecDepth 100000 in
set_option maxHeartbeats 4000000 in
/-- show -/
theorem c_X6_show (l : Launch) (D : va_G) (cy : Nat → ClassId) (M : mM) (sz : Nat) (h : Nat) (ad : Nat → Nat) (t : Nat) (i : Nat → Nat) (f : Nat → Nat → Nat) (nc : Nat)  (x : Int32) (ux : Int) (hW : MW cy M h ad t i f) (hI : MI nc i f)  (px : x.toInt = ux) : mWi l yX6_show wsX6_show ({ frames := 2, cells := 0, slots := 0, locals := 49 } : Room) D cy M sz [.ref h, .int x] (mPost cy h ad (oShow ux i f)) 0 0 := by
  refine mW.of (cc := cX6_show) (maxL := 4) (ret := (some .int)) (by decide) rfl (Nat.le_of_ble_eq_true rfl) ?_
  intro p e s m args below meth c ls hsz hx hb hr hts hown hlocks hml hname hP hD hS hA hK hl
  have hl : lv_has ls 4 [(0, .ref h), (1, .int x)] := hl
  have hown : s.vm.findClass RX6 = some m.cls := hown
  have hwX6 : ∀ w ∈ wsX60, w.before args s = true := fun w h => hts w (List.mem_cons_of_mem _ (List.mem_append_right _ (h)))
  obtain ⟨hn, hi1, hi2, hi5, hi10, -⟩ := id hI
  have rgx := i32_rng x
  rw [px] at rgx
  refine lv_aload_n hx hb dX6_show_0 rfl (lv_at hl 0 rfl) ?_
  refine lv_aload_n hx hb dX6_show_1 rfl (lv_at hl 0 rfl) ?_
  refine lv_iload_n hx hb dX6_show_2 rfl (lv_at hl 1 rfl) ?_
  refine vp_callSi (W.runV (C := RX6) (As := [.int x]) (rest := [.ref h]) ⟨hx, hb, hml, hown, hts⟩ (c_X6_isScript l D cy _ h ad t i f nc x ux hW hI (px)) (cwV 1 hts gX6_show_X6_isScript rfl rfl rfl (by decide +kernel) ⟨Nat.le_of_ble_eq_true rfl, Nat.le_of_ble_eq_true rfl⟩) (mPreV hK hP hW.1 (ci := 7) rfl) rfl rfl hl.1 rfl (lv_room (Nat.le_of_ble_eq_true rfl)) dX6_show_3 ⟨Nat.le_of_ble_eq_true rfl, Nat.le_of_ble_eq_true rfl⟩) (fun r9 hr9 => ?_)
  have hr9 : r9 = (nI (b2 (inB ux 0 ((i 10 : Int) - 1)))) := hr9
  subst hr9
  refine m_calli (va_runV (C := RX6) (As := [.int (nI (b2 (inB ux 0 ((i 10 : Int) - 1))))]) (rest := []) ⟨hx, hb, hml, hown, hts⟩ (c_X6_asks l D cy _ _ h ad t i f nc (inB ux 0 ((i 10 : Int) - 1)) hW hI) (cwV 1 hts gX6_show_X6_asks rfl rfl rfl (by decide +kernel) ⟨Nat.le_of_ble_eq_true rfl, Nat.le_of_ble_eq_true rfl⟩) (mPreWV hK hP hW.1 (ci := 7) rfl) rfl rfl hl.1 rfl (lv_room (Nat.le_of_ble_eq_true rfl)) dX6_show_6 ⟨Nat.le_of_ble_eq_true rfl, Nat.le_of_ble_eq_true rfl⟩) hD hA hS (fun r9 Mn H locs hq9 hP hD hS hz9 hd9 hk9 => ?_)
  obtain ⟨hr9, hW⟩ := hq9
  have hr9 : r9 = (nI (b2 (inB ux 0 ((i 10 : Int) - 1)))) := hr9
  subst hr9
  have hW : MW cy Mn h ad (b2 (!(inB ux 0 ((i 10 : Int) - 1)))) i f := hW
  refine b_if_ne (b := inB ux 0 ((i 10 : Int) - 1)) (tgt := 14) hx hb dX6_show_9 (by decide) (fun c_9 => ?_) (fun c_9 => ?_)
  · have hW := MW.tt hW c_9
    have c_9 := inB_t c_9
    have ex_1 : x = (nI ux.toNat) := nI_of_toInt (px) (by omega)
    have hl : lv_has ls 4 [(0, .ref h), (1, .int (nI ux.toNat))] := by
      rw [← ex_1]
      exact hl
    refine lv_aload_n hx hb dX6_show_14 rfl (lv_at hl 0 rfl) ?_
    refine m_get (T := TX6) (N := 24) (ci := 7) (fs := (moF ad 0 i)) hx hb hwX6 hown hK hP hW.1 rfl 20 (by decide) (hts _ (List.mem_of_getElem? (i := 1) rfl)) (v := .ref (ad 20)) rfl dX6_show_15 ?_
    refine lv_iload_n hx hb dX6_show_18 rfl (lv_at hl 1 rfl) ?_
    have bd_1 : (f 20) ux.toNat ≤ 1 := hI.2.2.2.2.2 20 ux.toNat
    refine n_zald (g := (f 20)) (n := 40) (i := ux.toNat) hx hb hK hP (hW.2.2.1 20 (by decide)) (by omega) (by omega) dX6_show_19 ?_
    refine z_if_ne (u := (((f 20) ux.toNat : Nat) : Int)) (tgt := 32) hx hb (nI_toInt (by omega)) dX6_show_20 (by decide) (fun c_20 => ?_) (fun c_20 => ?_)
    · refine lv_aload_n hx hb dX6_show_32 rfl (lv_at hl 0 rfl) ?_
      refine lv_iconst (v := (nI 2)) hx hb dX6_show_33 (by decide) ?_
      refine m_calli (va_runV (C := RX6) (As := [.int (nI 2)]) (rest := []) ⟨hx, hb, hml, hown, hts⟩ (c_X6_fails l D cy _ _ h ad 0 i f nc 2 hW hI) (cwV 1 hts gX6_show_X6_fails rfl rfl rfl (by decide +kernel) ⟨Nat.le_of_ble_eq_true rfl, Nat.le_of_ble_eq_true rfl⟩) (mPreWV hK hP hW.1 (ci := 7) rfl) rfl rfl hl.1 rfl (lv_room (Nat.le_of_ble_eq_true rfl)) dX6_show_34 ⟨Nat.le_of_ble_eq_true rfl, Nat.le_of_ble_eq_true rfl⟩) hD hA hS (fun r9 Mn H locs hq9 hP hD hS hz9 hd9 hk9 => ?_)
      obtain ⟨hr9, hW⟩ := hq9
      have hr9 : r9 = (nI 0) := hr9
      subst hr9
      have hW : MW cy Mn h ad 2 i f := hW
      exact e_wi hx hb hr hlocks hP hD hS (mPost_of (a := 2) (b := ((0 : Nat) : Int)) (i := i) (f := f) (by unfold oShow; (repeat (first | rw [if_pos (by omega)] | rw [if_neg (by omega)])); (first | done | rfl | omega)) (nI_zI _) hW) dX6_show_37
    · refine lv_aload_n hx hb dX6_show_23 rfl (lv_at hl 0 rfl) ?_
      refine lv_iload_n hx hb dX6_show_24 rfl (lv_at hl 1 rfl) ?_
      refine vp_callSi (W.runV (C := RX6) (As := [.int (nI ux.toNat)]) (rest := []) ⟨hx, hb, hml, hown, hts⟩ (c_X6_gradeOf l D cy _ h ad 0 i f nc ux.toNat hW hI (by omega)) (cwV 1 hts gX6_show_X6_gradeOf rfl rfl rfl (by decide +kernel) ⟨Nat.le_of_ble_eq_true rfl, Nat.le_of_ble_eq_true rfl⟩) (mPreV hK hP hW.1 (ci := 7) rfl) rfl rfl hl.1 rfl (lv_room (Nat.le_of_ble_eq_true rfl)) dX6_show_25 ⟨Nat.le_of_ble_eq_true rfl, Nat.le_of_ble_eq_true rfl⟩) (fun r9 hr9 => ?_)
      have hr9 : r9 = (zI (gradeS f ux.toNat)) := hr9
      subst hr9
      have bs_2 : -1 ≤ gradeS f ux.toNat ∧ gradeS f ux.toNat ≤ 20 := gradeS_bd hI _
      refine lv_iconst (v := (zI (-1))) hx hb dX6_show_28 (by decide) ?_
      refine z_icmp_ne (u := (gradeS f ux.toNat)) (v := (-1)) (tgt := 38) hx hb (zI_toInt (by omega) (by omega)) (zI_toInt (by omega) (by omega)) dX6_show_29 (by decide) (fun c_29 => ?_) (fun c_29 => ?_)
      · refine lv_aload_n hx hb dX6_show_38 rfl (lv_at hl 0 rfl) ?_
        refine m_get (T := TX6) (N := 24) (ci := 7) (fs := (moF ad 0 i)) hx hb hwX6 hown hK hP hW.1 rfl 20 (by decide) (hts _ (List.mem_of_getElem? (i := 1) rfl)) (v := .ref (ad 20)) rfl dX6_show_39 ?_
        refine lv_iload_n hx hb dX6_show_42 rfl (lv_at hl 1 rfl) ?_
        refine lv_iconst (v := (nI 1)) hx hb dX6_show_43 (by decide) ?_
        refine n_zast (g := (f 20)) (n := 40) (i := ux.toNat) (v := 1) hx hb hK hP hD hS (hW.2.2.1 20 (by decide)) (by omega) (by omega) (by omega) dX6_show_44 (fun H locs hP hD hS => ?_)
        have hW := hW.setZ 20 (by decide) (va_up (f 20) ux.toNat 1)
        have hI2 := hI.row 20 (va_up (f 20) ux.toNat 1) (up_le (b := 1) (fun x => hI.2.2.2.2.2 20 x) (by omega))
        have hf2 : ∀ x, va_up (f 20) ux.toNat 1 x ≤ 1 := fun x => hI2.2.2.2.2.2 20 x
        refine lv_iconst (v := (nI 0)) hx hb dX6_show_45 (by decide) ?_
        refine lv_istore_n (lv' := [(2, .int (nI 0)), (0, .ref h), (1, .int (nI ux.toNat))]) hx hb dX6_show_46 rfl hl (by decide) rfl (fun ls hl => ?_)
        refine lv_iconst (v := (nI 0)) hx hb dX6_show_47 (by decide) ?_
        refine lv_istore_n (lv' := [(3, .int (nI 0)), (2, .int (nI 0)), (0, .ref h), (1, .int (nI ux.toNat))]) hx hb dX6_show_48 rfl hl (by decide) rfl (fun ls hl => ?_)
        have K49 : ∀ (n : Nat) (j : Nat), 41 - j < n → (j ≤ i 10) → ∀ (Mq : mM) (H : Heap) (locs : List Loc), pm D Mq H → mD (mA M sz) Mq → va_S (mA M sz) s.heap H locs → (MW cy Mq h ad 0 i (va_up f 20 (va_up (f 20) ux.toNat 1))) → ∀ (ls : Array Slot), lv_has ls 4 [(0, .ref h), (1, .int (nI ux.toNat)), (2, .int (nI (shownA (va_up f 20 (va_up (f 20) ux.toNat 1)) j))), (3, .int (nI j))] → W p l e ({ frames := 2, cells := 0, slots := 0, locals := 49 } : Room) s m args below meth c H locs 0 0 (MQ below (va_Qi (mPost cy h ad (oShow ux i f)) (mB D M sz) (mA M sz)) args s 0 0 (mA M sz)) (F0 m 49 ls []) := by
          intro n
          induction n with
          | zero => intro j hn; exact absurd hn (by omega)
          | succ n ih49 =>
            intro j hn49 i49_0 Mq H locs hP hD hS hW ls hl
            have hle := shownA_le (f := va_up f 20 (va_up (f 20) ux.toNat 1)) hf2 j
            have hb9 := hf2 j
            refine lv_iload_n hx hb dX6_show_49 rfl (lv_at hl 3 rfl) ?_
            refine lv_aload_n hx hb dX6_show_50 rfl (lv_at hl 0 rfl) ?_
            refine m_get (T := TX6) (N := 24) (ci := 7) (fs := (moF ad 0 i)) hx hb hwX6 hown hK hP hW.1 rfl 10 (by decide) (hts _ (List.mem_of_getElem? (i := 2) rfl)) (v := .int (nI (i 10))) rfl dX6_show_51 ?_
            refine z_icmp_ge (u := ((j : Nat) : Int)) (v := ((i 10 : Nat) : Int)) (tgt := 80) hx hb (nI_toInt (by omega)) (nI_toInt (by omega)) dX6_show_54 (by decide) (fun c_54 => ?_) (fun c_54 => ?_)
            · refine lv_iload_n hx hb dX6_show_80 rfl (lv_at hl 2 rfl) ?_
              exact e_wi hx hb hr hlocks hP hD hS (mPost_of (a := 0) (b := ((shownA (va_up f 20 (va_up (f 20) ux.toNat 1)) j : Nat) : Int)) (i := i) (f := va_up f 20 (va_up (f 20) ux.toNat 1)) (by unfold oShow; (repeat (first | rw [if_pos (by omega)] | rw [if_neg (by omega)])); rw [show i 10 = j by omega]) (nI_zI _) hW) dX6_show_81
            · refine lv_iload_n hx hb dX6_show_57 rfl (lv_at hl 2 rfl) ?_
              refine lv_aload_n hx hb dX6_show_58 rfl (lv_at hl 0 rfl) ?_
              refine m_get (T := TX6) (N := 24) (ci := 7) (fs := (moF ad 0 i)) hx hb hwX6 hown hK hP hW.1 rfl 20 (by decide) (hts _ (List.mem_of_getElem? (i := 1) rfl)) (v := .ref (ad 20)) rfl dX6_show_59 ?_
              refine lv_iload_n hx hb dX6_show_62 rfl (lv_at hl 3 rfl) ?_
              have bd_3 : (va_up (f 20) ux.toNat 1) j ≤ 1 := hI2.2.2.2.2.2 20 j
              refine n_zald (g := (va_up (f 20) ux.toNat 1)) (n := 40) (i := j) hx hb hK hP (hW.2.2.1 20 (by decide)) (by omega) (by omega) dX6_show_63 ?_
              refine z_if_eq (u := (((va_up (f 20) ux.toNat 1) j : Nat) : Int)) (tgt := 71) hx hb (nI_toInt (by omega)) dX6_show_64 (by decide) (fun c_64 => ?_) (fun c_64 => ?_)
              · refine lv_iconst (v := (nI 0)) hx hb dX6_show_71 (by decide) ?_
                refine n_add (x := shownA (va_up f 20 (va_up (f 20) ux.toNat 1)) j) (y := 0) hx hb dX6_show_72 ?_
                refine lv_istore_n (lv' := [(2, .int (nI ((shownA (va_up f 20 (va_up (f 20) ux.toNat 1)) j) + 0))), (0, .ref h), (1, .int (nI ux.toNat)), (3, .int (nI j))]) hx hb dX6_show_73 rfl hl (by decide) rfl (fun ls hl => ?_)
                refine n_iinc (x := j) (k := 1) (lv' := [(3, .int (nI (j + 1))), (2, .int (nI ((shownA (va_up f 20 (va_up (f 20) ux.toNat 1)) j) + 0))), (0, .ref h), (1, .int (nI ux.toNat))]) hx hb dX6_show_74 rfl hl (q := 3) rfl (by decide) rfl (fun ls hl => ?_)
                refine lv_goto (tgt := 49) hx hb dX6_show_77 (by decide) ?_
                have hl : lv_has ls 4 [(3, .int (nI (j + 1))), (2, .int (nI (shownA (va_up f 20 (va_up (f 20) ux.toNat 1)) (j + 1)))), (0, .ref h), (1, .int (nI ux.toNat))] := by
                  have heq0 : (.int (nI (shownA (va_up f 20 (va_up (f 20) ux.toNat 1)) (j + 1))) : Value) = .int (nI ((shownA (va_up f 20 (va_up (f 20) ux.toNat 1)) j) + 0)) := congrArg Value.int (congrArg nI (show shownA (va_up f 20 (va_up (f 20) ux.toNat 1)) j + va_up (f 20) ux.toNat 1 j = _ by omega))
                  rw [heq0]
                  exact hl
                exact ih49  (j + 1) (by omega) (by omega) _ _ _ hP hD hS (hW) _ (lv_sub hl [2, 3, 1, 0] rfl)
              · refine lv_iconst (v := (nI 1)) hx hb dX6_show_67 (by decide) ?_
                refine lv_goto (tgt := 72) hx hb dX6_show_68 (by decide) ?_
                refine n_add (x := shownA (va_up f 20 (va_up (f 20) ux.toNat 1)) j) (y := 1) hx hb dX6_show_72 ?_
                refine lv_istore_n (lv' := [(2, .int (nI ((shownA (va_up f 20 (va_up (f 20) ux.toNat 1)) j) + 1))), (0, .ref h), (1, .int (nI ux.toNat)), (3, .int (nI j))]) hx hb dX6_show_73 rfl hl (by decide) rfl (fun ls hl => ?_)
                refine n_iinc (x := j) (k := 1) (lv' := [(3, .int (nI (j + 1))), (2, .int (nI ((shownA (va_up f 20 (va_up (f 20) ux.toNat 1)) j) + 1))), (0, .ref h), (1, .int (nI ux.toNat))]) hx hb dX6_show_74 rfl hl (q := 3) rfl (by decide) rfl (fun ls hl => ?_)
                refine lv_goto (tgt := 49) hx hb dX6_show_77 (by decide) ?_
                have hl : lv_has ls 4 [(3, .int (nI (j + 1))), (2, .int (nI (shownA (va_up f 20 (va_up (f 20) ux.toNat 1)) (j + 1)))), (0, .ref h), (1, .int (nI ux.toNat))] := by
                  have heq0 : (.int (nI (shownA (va_up f 20 (va_up (f 20) ux.toNat 1)) (j + 1))) : Value) = .int (nI ((shownA (va_up f 20 (va_up (f 20) ux.toNat 1)) j) + 1)) := congrArg Value.int (congrArg nI (show shownA (va_up f 20 (va_up (f 20) ux.toNat 1)) j + va_up (f 20) ux.toNat 1 j = _ by omega))
                  rw [heq0]
                  exact hl
                exact ih49  (j + 1) (by omega) (by omega) _ _ _ hP hD hS (hW) _ (lv_sub hl [2, 3, 1, 0] rfl)
        exact K49 (41 - 0 + 1) 0 (Nat.lt_succ_self _) (Nat.zero_le _) _ _ _ hP hD hS (hW) _ (lv_sub hl [2, 3, 1, 0] rfl)
      · refine lv_aload_n hx hb dX6_show_32 rfl (lv_at hl 0 rfl) ?_
        refine lv_iconst (v := (nI 2)) hx hb dX6_show_33 (by decide) ?_
        refine m_calli (va_runV (C := RX6) (As := [.int (nI 2)]) (rest := []) ⟨hx, hb, hml, hown, hts⟩ (c_X6_fails l D cy _ _ h ad 0 i f nc 2 hW hI) (cwV 1 hts gX6_show_X6_fails rfl rfl rfl (by decide +kernel) ⟨Nat.le_of_ble_eq_true rfl, Nat.le_of_ble_eq_true rfl⟩) (mPreWV hK hP hW.1 (ci := 7) rfl) rfl rfl hl.1 rfl (lv_room (Nat.le_of_ble_eq_true rfl)) dX6_show_34 ⟨Nat.le_of_ble_eq_true rfl, Nat.le_of_ble_eq_true rfl⟩) hD hA hS (fun r9 Mn H locs hq9 hP hD hS hz9 hd9 hk9 => ?_)
        obtain ⟨hr9, hW⟩ := hq9
        have hr9 : r9 = (nI 0) := hr9
        subst hr9
        have hW : MW cy Mn h ad 2 i f := hW
        exact e_wi hx hb hr hlocks hP hD hS (mPost_of (a := 2) (b := ((0 : Nat) : Int)) (i := i) (f := f) (by unfold oShow; (repeat (first | rw [if_pos (by omega)] | rw [if_neg (by omega)])); (first | done | rfl | omega)) (nI_zI _) hW) dX6_show_37
  · have hW := MW.tf hW c_9
    have c_9 := inB_f c_9
    refine lv_iconst (v := (nI 0)) hx hb dX6_show_12 (by decide) ?_
    exact e_wi hx hb hr hlocks hP hD hS (mPost_of (a := 1) (b := ((0 : Nat) : Int)) (i := i) (f := f) (by unfold oShow; (repeat (first | rw [if_pos (by omega)] | rw [if_neg (by omega)])); (first | done | rfl | omega)) (nI_zI _) hW) dX6_show_13

set_option maxRecDepth 100000 in
set_option maxHeartbeats 4000000 in
/-- vote -/
theorem c_X6_vote (l : Launch) (D : va_G) (cy : Nat → ClassId) (M : mM) (sz : Nat) (h : Nat) (ad : Nat → Nat) (t : Nat) (i : Nat → Nat) (f : Nat → Nat → Nat) (nc : Nat)  (x : Int32) (ux : Int) (y : Int32) (uy : Int) (z : Int32) (uz : Int) (hW : MW cy M h ad t i f) (hI : MI nc i f)  (px : x.toInt = ux) (py : y.toInt = uy) (pz : z.toInt = uz) : mWi l yX6_vote wsX6_vote ({ frames := 2, cells := 0, slots := 0, locals := 43 } : Room) D cy M sz [.ref h, .int x, .int y, .int z] (mPost cy h ad (oVote ux uy uz i f)) 0 0 := by
  refine mW.of (cc := cX6_vote) (maxL := 4) (ret := (some .int)) (by decide) rfl (Nat.le_of_ble_eq_true rfl) ?_
  intro p e s m args below meth c ls hsz hx hb hr hts hown hlocks hml hname hP hD hS hA hK hl
  have hl : lv_has ls 4 [(0, .ref h), (1, .int x), (2, .int y), (3, .int z)] := hl
  have hown : s.vm.findClass RX6 = some m.cls := hown
  have hwX6 : ∀ w ∈ wsX60, w.before args s = true := fun w h => hts w (List.mem_cons_of_mem _ (List.mem_append_right _ (h)))
  obtain ⟨hn, hi1, hi2, hi5, hi10, -⟩ := id hI
  have rgx := i32_rng x
  rw [px] at rgx
  have rgy := i32_rng y
  rw [py] at rgy
  have rgz := i32_rng z
  rw [pz] at rgz
  refine lv_aload_n hx hb dX6_vote_0 rfl (lv_at hl 0 rfl) ?_
  refine lv_iload_n hx hb dX6_vote_1 rfl (lv_at hl 1 rfl) ?_
  refine lv_iconst (v := (nI 0)) hx hb dX6_vote_2 (by decide) ?_
  refine lv_iconst (v := (nI 3)) hx hb dX6_vote_3 (by decide) ?_
  refine vp_callSi (W.runS (As := [.int x, .int (nI 0), .int (nI 3)]) (rest := [.ref h]) ⟨hx, hb, hml, hown, hts⟩ (c_X6_in l x (nI 0) (nI 3) ux ((0 : Nat) : Int) ((3 : Nat) : Int) (px) (nI_toInt (by omega)) (nI_toInt (by omega))) (va_cwS 3 hts gX6_vote_X6_in rfl rfl rfl (by decide +kernel) ⟨Nat.le_of_ble_eq_true rfl, Nat.le_of_ble_eq_true rfl⟩) mPre0 rfl rfl hl.1 rfl (lv_room (Nat.le_of_ble_eq_true rfl)) dX6_vote_4 ⟨Nat.le_of_ble_eq_true rfl, Nat.le_of_ble_eq_true rfl⟩) (fun r9 hr9 => ?_)
  have hr9 : r9 = (nI (b2 (inB ux ((0 : Nat) : Int) ((3 : Nat) : Int)))) := hr9
  subst hr9
  refine b_if_eq (b := inB ux ((0 : Nat) : Int) ((3 : Nat) : Int)) (tgt := 22) hx hb dX6_vote_7 (by decide) (fun c_7 => ?_) (fun c_7 => ?_)
  · have c_7 := inB_f c_7
    refine lv_iconst (v := (nI 0)) hx hb dX6_vote_22 (by decide) ?_
    refine m_calli (va_runV (C := RX6) (As := [.int (nI 0)]) (rest := []) ⟨hx, hb, hml, hown, hts⟩ (c_X6_asks l D cy _ _ h ad t i f nc false hW hI) (cwV 1 hts gX6_vote_X6_asks rfl rfl rfl (by decide +kernel) ⟨Nat.le_of_ble_eq_true rfl, Nat.le_of_ble_eq_true rfl⟩) (mPreWV hK hP hW.1 (ci := 7) rfl) rfl rfl hl.1 rfl (lv_room (Nat.le_of_ble_eq_true rfl)) dX6_vote_23 ⟨Nat.le_of_ble_eq_true rfl, Nat.le_of_ble_eq_true rfl⟩) hD hA hS (fun r9 Mn H locs hq9 hP hD hS hz9 hd9 hk9 => ?_)
    obtain ⟨hr9, hW⟩ := hq9
    have hr9 : r9 = (nI 0) := hr9
    subst hr9
    have hW : MW cy Mn h ad 1 i f := hW
    refine k_if_ne_0 (tgt := 31) hx hb dX6_vote_26 (by decide) ?_
    refine lv_iconst (v := (nI 0)) hx hb dX6_vote_29 (by decide) ?_
    exact e_wi hx hb hr hlocks hP hD hS (mPost_of (a := 1) (b := ((0 : Nat) : Int)) (i := i) (f := f) (by unfold oVote; (repeat (first | rw [if_pos (by omega)] | rw [if_neg (by omega)])); (first | done | rfl | omega)) (nI_zI _) hW) dX6_vote_30
  · have c_7 := inB_t c_7
    refine lv_aload_n hx hb dX6_vote_10 rfl (lv_at hl 0 rfl) ?_
    refine lv_iload_n hx hb dX6_vote_11 rfl (lv_at hl 2 rfl) ?_
    refine vp_callSi (W.runV (C := RX6) (As := [.int y]) (rest := [.ref h]) ⟨hx, hb, hml, hown, hts⟩ (c_X6_isScript l D cy _ h ad t i f nc y uy hW hI (py)) (cwV 1 hts gX6_vote_X6_isScript rfl rfl rfl (by decide +kernel) ⟨Nat.le_of_ble_eq_true rfl, Nat.le_of_ble_eq_true rfl⟩) (mPreV hK hP hW.1 (ci := 7) rfl) rfl rfl hl.1 rfl (lv_room (Nat.le_of_ble_eq_true rfl)) dX6_vote_12 ⟨Nat.le_of_ble_eq_true rfl, Nat.le_of_ble_eq_true rfl⟩) (fun r9 hr9 => ?_)
    have hr9 : r9 = (nI (b2 (inB uy 0 ((i 10 : Int) - 1)))) := hr9
    subst hr9
    refine b_if_eq (b := inB uy 0 ((i 10 : Int) - 1)) (tgt := 22) hx hb dX6_vote_15 (by decide) (fun c_15 => ?_) (fun c_15 => ?_)
    · have c_15 := inB_f c_15
      refine lv_iconst (v := (nI 0)) hx hb dX6_vote_22 (by decide) ?_
      refine m_calli (va_runV (C := RX6) (As := [.int (nI 0)]) (rest := []) ⟨hx, hb, hml, hown, hts⟩ (c_X6_asks l D cy _ _ h ad t i f nc false hW hI) (cwV 1 hts gX6_vote_X6_asks rfl rfl rfl (by decide +kernel) ⟨Nat.le_of_ble_eq_true rfl, Nat.le_of_ble_eq_true rfl⟩) (mPreWV hK hP hW.1 (ci := 7) rfl) rfl rfl hl.1 rfl (lv_room (Nat.le_of_ble_eq_true rfl)) dX6_vote_23 ⟨Nat.le_of_ble_eq_true rfl, Nat.le_of_ble_eq_true rfl⟩) hD hA hS (fun r9 Mn H locs hq9 hP hD hS hz9 hd9 hk9 => ?_)
      obtain ⟨hr9, hW⟩ := hq9
      have hr9 : r9 = (nI 0) := hr9
      subst hr9
      have hW : MW cy Mn h ad 1 i f := hW
      refine k_if_ne_0 (tgt := 31) hx hb dX6_vote_26 (by decide) ?_
      refine lv_iconst (v := (nI 0)) hx hb dX6_vote_29 (by decide) ?_
      exact e_wi hx hb hr hlocks hP hD hS (mPost_of (a := 1) (b := ((0 : Nat) : Int)) (i := i) (f := f) (by unfold oVote; (repeat (first | rw [if_pos (by omega)] | rw [if_neg (by omega)])); (first | done | rfl | omega)) (nI_zI _) hW) dX6_vote_30
    · have c_15 := inB_t c_15
      refine lv_iconst (v := (nI 1)) hx hb dX6_vote_18 (by decide) ?_
      refine lv_goto (tgt := 23) hx hb dX6_vote_19 (by decide) ?_
      refine m_calli (va_runV (C := RX6) (As := [.int (nI 1)]) (rest := []) ⟨hx, hb, hml, hown, hts⟩ (c_X6_asks l D cy _ _ h ad t i f nc true hW hI) (cwV 1 hts gX6_vote_X6_asks rfl rfl rfl (by decide +kernel) ⟨Nat.le_of_ble_eq_true rfl, Nat.le_of_ble_eq_true rfl⟩) (mPreWV hK hP hW.1 (ci := 7) rfl) rfl rfl hl.1 rfl (lv_room (Nat.le_of_ble_eq_true rfl)) dX6_vote_23 ⟨Nat.le_of_ble_eq_true rfl, Nat.le_of_ble_eq_true rfl⟩) hD hA hS (fun r9 Mn H locs hq9 hP hD hS hz9 hd9 hk9 => ?_)
      obtain ⟨hr9, hW⟩ := hq9
      have hr9 : r9 = (nI 1) := hr9
      subst hr9
      have hW : MW cy Mn h ad 0 i f := hW
      refine k_if_ne_1 (tgt := 31) hx hb dX6_vote_26 (by decide) ?_
      refine lv_iload_n hx hb dX6_vote_31 rfl (lv_at hl 3 rfl) ?_
      refine lv_iconst (v := (nI 0)) hx hb dX6_vote_32 (by decide) ?_
      refine lv_iconst (v := (nI 5)) hx hb dX6_vote_33 (by decide) ?_
      refine vp_callSi (W.runS (As := [.int z, .int (nI 0), .int (nI 5)]) (rest := []) ⟨hx, hb, hml, hown, hts⟩ (c_X6_in l z (nI 0) (nI 5) uz ((0 : Nat) : Int) ((5 : Nat) : Int) (pz) (nI_toInt (by omega)) (nI_toInt (by omega))) (va_cwS 3 hts gX6_vote_X6_in rfl rfl rfl (by decide +kernel) ⟨Nat.le_of_ble_eq_true rfl, Nat.le_of_ble_eq_true rfl⟩) mPre0 rfl rfl hl.1 rfl (lv_room (Nat.le_of_ble_eq_true rfl)) dX6_vote_34 ⟨Nat.le_of_ble_eq_true rfl, Nat.le_of_ble_eq_true rfl⟩) (fun r9 hr9 => ?_)
      have hr9 : r9 = (nI (b2 (inB uz ((0 : Nat) : Int) ((5 : Nat) : Int)))) := hr9
      subst hr9
      refine b_if_ne (b := inB uz ((0 : Nat) : Int) ((5 : Nat) : Int)) (tgt := 46) hx hb dX6_vote_37 (by decide) (fun c_37 => ?_) (fun c_37 => ?_)
      · have c_37 := inB_t c_37
        have ex_1 : x = (nI ux.toNat) := nI_of_toInt (px) (by omega)
        have ex_2 : y = (nI uy.toNat) := nI_of_toInt (py) (by omega)
        have ex_3 : z = (nI uz.toNat) := nI_of_toInt (pz) (by omega)
        have hl : lv_has ls 4 [(0, .ref h), (1, .int (nI ux.toNat)), (2, .int (nI uy.toNat)), (3, .int (nI uz.toNat))] := by
          rw [← ex_1, ← ex_2, ← ex_3]
          exact hl
        refine lv_aload_n hx hb dX6_vote_46 rfl (lv_at hl 0 rfl) ?_
        refine m_get (T := TX6) (N := 24) (ci := 7) (fs := (moF ad 0 i)) hx hb hwX6 hown hK hP hW.1 rfl 20 (by decide) (hts _ (List.mem_of_getElem? (i := 1) rfl)) (v := .ref (ad 20)) rfl dX6_vote_47 ?_
        refine lv_iload_n hx hb dX6_vote_50 rfl (lv_at hl 2 rfl) ?_
        have bd_1 : (f 20) uy.toNat ≤ 1 := hI.2.2.2.2.2 20 uy.toNat
        refine n_zald (g := (f 20)) (n := 40) (i := uy.toNat) hx hb hK hP (hW.2.2.1 20 (by decide)) (by omega) (by omega) dX6_vote_51 ?_
        refine z_if_eq (u := (((f 20) uy.toNat : Nat) : Int)) (tgt := 70) hx hb (nI_toInt (by omega)) dX6_vote_52 (by decide) (fun c_52 => ?_) (fun c_52 => ?_)
        · refine lv_aload_n hx hb dX6_vote_70 rfl (lv_at hl 0 rfl) ?_
          refine lv_iconst (v := (nI 3)) hx hb dX6_vote_71 (by decide) ?_
          refine m_calli (va_runV (C := RX6) (As := [.int (nI 3)]) (rest := []) ⟨hx, hb, hml, hown, hts⟩ (c_X6_fails l D cy _ _ h ad 0 i f nc 3 hW hI) (cwV 1 hts gX6_vote_X6_fails rfl rfl rfl (by decide +kernel) ⟨Nat.le_of_ble_eq_true rfl, Nat.le_of_ble_eq_true rfl⟩) (mPreWV hK hP hW.1 (ci := 7) rfl) rfl rfl hl.1 rfl (lv_room (Nat.le_of_ble_eq_true rfl)) dX6_vote_72 ⟨Nat.le_of_ble_eq_true rfl, Nat.le_of_ble_eq_true rfl⟩) hD hA hS (fun r9 Mn H locs hq9 hP hD hS hz9 hd9 hk9 => ?_)
          obtain ⟨hr9, hW⟩ := hq9
          have hr9 : r9 = (nI 0) := hr9
          subst hr9
          have hW : MW cy Mn h ad 3 i f := hW
          exact e_wi hx hb hr hlocks hP hD hS (mPost_of (a := 3) (b := ((0 : Nat) : Int)) (i := i) (f := f) (by unfold oVote; (repeat (first | rw [if_pos (by omega)] | rw [if_neg (by omega)])); (first | done | rfl | omega)) (nI_zI _) hW) dX6_vote_75
        · refine lv_aload_n hx hb dX6_vote_55 rfl (lv_at hl 0 rfl) ?_
          refine m_get (T := TX6) (N := 24) (ci := 7) (fs := (moF ad 0 i)) hx hb hwX6 hown hK hP hW.1 rfl 6 (by decide) (hts _ (List.mem_of_getElem? (i := 2) rfl)) (v := .ref (ad 6)) rfl dX6_vote_56 ?_
          refine lv_aload_n hx hb dX6_vote_59 rfl (lv_at hl 0 rfl) ?_
          refine m_get (T := TX6) (N := 24) (ci := 7) (fs := (moF ad 0 i)) hx hb hwX6 hown hK hP hW.1 rfl 13 (by decide) (hts _ (List.mem_of_getElem? (i := 3) rfl)) (v := .ref (ad 13)) rfl dX6_vote_60 ?_
          refine lv_iload_n hx hb dX6_vote_63 rfl (lv_at hl 2 rfl) ?_
          have bd_2 : (f 13) uy.toNat ≤ 19 := hI.2.2.2.2.2 13 uy.toNat
          refine n_iald (g := (f 13)) (n := 40) (i := uy.toNat) hx hb hK hP (hW.2.1 13 (by decide)) (by omega) (by omega) dX6_vote_64 ?_
          have bd_3 : (f 6) ((f 13) uy.toNat) ≤ 3 := hI.2.2.2.2.2 6 ((f 13) uy.toNat)
          refine n_iald (g := (f 6)) (n := 20) (i := (f 13) uy.toNat) hx hb hK hP (hW.2.1 6 (by decide)) (by omega) (by omega) dX6_vote_65 ?_
          refine lv_iload_n hx hb dX6_vote_66 rfl (lv_at hl 1 rfl) ?_
          refine z_icmp_ne (u := (((f 6) ((f 13) uy.toNat) : Nat) : Int)) (v := ((ux.toNat : Nat) : Int)) (tgt := 76) hx hb (nI_toInt (by omega)) (nI_toInt (by omega)) dX6_vote_67 (by decide) (fun c_67 => ?_) (fun c_67 => ?_)
          · refine lv_aload_n hx hb dX6_vote_76 rfl (lv_at hl 0 rfl) ?_
            refine m_get (T := TX6) (N := 24) (ci := 7) (fs := (moF ad 0 i)) hx hb hwX6 hown hK hP hW.1 rfl 21 (by decide) (hts _ (List.mem_of_getElem? (i := 4) rfl)) (v := .ref (ad 21)) rfl dX6_vote_77 ?_
            refine lv_iconst (v := (nI 4)) hx hb dX6_vote_80 (by decide) ?_
            refine lv_iload_n hx hb dX6_vote_81 rfl (lv_at hl 2 rfl) ?_
            refine n_mul (x := 4) (y := uy.toNat) hx hb dX6_vote_82 ?_
            refine lv_iload_n hx hb dX6_vote_83 rfl (lv_at hl 1 rfl) ?_
            refine n_add (x := 4 * uy.toNat) (y := ux.toNat) hx hb dX6_vote_84 ?_
            refine lv_iload_n hx hb dX6_vote_85 rfl (lv_at hl 3 rfl) ?_
            refine n_iast (g := (f 21)) (n := 160) (i := (4 * uy.toNat) + ux.toNat) (v := uz.toNat) hx hb hK hP hD hS (hW.2.1 21 (by decide)) (by omega) (by omega) dX6_vote_86 (fun H locs hP hD hS => ?_)
            have hW := hW.setI 21 (by decide) (va_up (f 21) ((4 * uy.toNat) + ux.toNat) uz.toNat)
            have hI := hI.row 21 (va_up (f 21) (4 * uy.toNat + ux.toNat) uz.toNat) (up_le (b := 5) (fun x => hI.2.2.2.2.2 21 x) (by omega))
            refine lv_aload_n hx hb dX6_vote_87 rfl (lv_at hl 0 rfl) ?_
            refine lv_iload_n hx hb dX6_vote_88 rfl (lv_at hl 2 rfl) ?_
            refine vp_callSi (W.runV (C := RX6) (As := [.int (nI uy.toNat)]) (rest := []) ⟨hx, hb, hml, hown, hts⟩ (c_X6_pointsOf l D cy _ h ad 0 i (va_up f 21 (va_up (f 21) ((4 * uy.toNat) + ux.toNat) uz.toNat)) nc uy.toNat hW hI (by omega)) (cwV 1 hts gX6_vote_X6_pointsOf rfl rfl rfl (by decide +kernel) ⟨Nat.le_of_ble_eq_true rfl, Nat.le_of_ble_eq_true rfl⟩) (mPreV hK hP hW.1 (ci := 7) rfl) rfl rfl hl.1 rfl (lv_room (Nat.le_of_ble_eq_true rfl)) dX6_vote_89 ⟨Nat.le_of_ble_eq_true rfl, Nat.le_of_ble_eq_true rfl⟩) (fun r9 hr9 => ?_)
            have hr9 : r9 = (nI (pts (va_up f 21 (va_up (f 21) ((4 * uy.toNat) + ux.toNat) uz.toNat)) uy.toNat)) := hr9
            subst hr9
            have bs_4 : pts (va_up f 21 (va_up (f 21) ((4 * uy.toNat) + ux.toNat) uz.toNat)) uy.toNat ≤ 20 := pts_le hI _
            exact e_wi hx hb hr hlocks hP hD hS (mPost_of (a := 0) (b := ((pts (va_up f 21 (va_up (f 21) ((4 * uy.toNat) + ux.toNat) uz.toNat)) uy.toNat : Nat) : Int)) (i := i) (f := va_up f 21 (va_up (f 21) ((4 * uy.toNat) + ux.toNat) uz.toNat)) (by unfold oVote; (repeat (first | rw [if_pos (by omega)] | rw [if_neg (by omega)])); (first | done | rfl | omega)) (nI_zI _) hW) dX6_vote_92
          · refine lv_aload_n hx hb dX6_vote_70 rfl (lv_at hl 0 rfl) ?_
            refine lv_iconst (v := (nI 3)) hx hb dX6_vote_71 (by decide) ?_
            refine m_calli (va_runV (C := RX6) (As := [.int (nI 3)]) (rest := []) ⟨hx, hb, hml, hown, hts⟩ (c_X6_fails l D cy _ _ h ad 0 i f nc 3 hW hI) (cwV 1 hts gX6_vote_X6_fails rfl rfl rfl (by decide +kernel) ⟨Nat.le_of_ble_eq_true rfl, Nat.le_of_ble_eq_true rfl⟩) (mPreWV hK hP hW.1 (ci := 7) rfl) rfl rfl hl.1 rfl (lv_room (Nat.le_of_ble_eq_true rfl)) dX6_vote_72 ⟨Nat.le_of_ble_eq_true rfl, Nat.le_of_ble_eq_true rfl⟩) hD hA hS (fun r9 Mn H locs hq9 hP hD hS hz9 hd9 hk9 => ?_)
            obtain ⟨hr9, hW⟩ := hq9
            have hr9 : r9 = (nI 0) := hr9
            subst hr9
            have hW : MW cy Mn h ad 3 i f := hW
            exact e_wi hx hb hr hlocks hP hD hS (mPost_of (a := 3) (b := ((0 : Nat) : Int)) (i := i) (f := f) (by unfold oVote; (repeat (first | rw [if_pos (by omega)] | rw [if_neg (by omega)])); (first | done | rfl | omega)) (nI_zI _) hW) dX6_vote_75
      · have c_37 := inB_f c_37
        refine lv_aload_n hx hb dX6_vote_40 rfl (lv_at hl 0 rfl) ?_
        refine lv_iconst (v := (nI 2)) hx hb dX6_vote_41 (by decide) ?_
        refine m_calli (va_runV (C := RX6) (As := [.int (nI 2)]) (rest := []) ⟨hx, hb, hml, hown, hts⟩ (c_X6_fails l D cy _ _ h ad 0 i f nc 2 hW hI) (cwV 1 hts gX6_vote_X6_fails rfl rfl rfl (by decide +kernel) ⟨Nat.le_of_ble_eq_true rfl, Nat.le_of_ble_eq_true rfl⟩) (mPreWV hK hP hW.1 (ci := 7) rfl) rfl rfl hl.1 rfl (lv_room (Nat.le_of_ble_eq_true rfl)) dX6_vote_42 ⟨Nat.le_of_ble_eq_true rfl, Nat.le_of_ble_eq_true rfl⟩) hD hA hS (fun r9 Mn H locs hq9 hP hD hS hz9 hd9 hk9 => ?_)
        obtain ⟨hr9, hW⟩ := hq9
        have hr9 : r9 = (nI 0) := hr9
        subst hr9
        have hW : MW cy Mn h ad 2 i f := hW
        exact e_wi hx hb hr hlocks hP hD hS (mPost_of (a := 2) (b := ((0 : Nat) : Int)) (i := i) (f := f) (by unfold oVote; (repeat (first | rw [if_pos (by omega)] | rw [if_neg (by omega)])); (first | done | rfl | omega)) (nI_zI _) hW) dX6_vote_45

set_option maxRecDepth 100000 in
set_option maxHeartbeats 4000000 in
/-- at -/
theorem c_X6_at (l : Launch) (D : va_G) (cy : Nat → ClassId) (M : mM) (sz : Nat) (h : Nat) (ad : Nat → Nat) (t : Nat) (i : Nat → Nat) (f : Nat → Nat → Nat) (nc : Nat)  (x : Int32) (ux : Int) (hW : MW cy M h ad t i f) (hI : MI nc i f)  (px : x.toInt = ux) : mWi l yX6_at wsX6_at ({ frames := 8, cells := 0, slots := 0, locals := 189 } : Room) D cy M sz [.ref h, .int x] (mPost cy h ad (oAt ux i f)) 0 0 := by
  refine mW.of (cc := cX6_at) (maxL := 4) (ret := (some .int)) (by decide) rfl (Nat.le_of_ble_eq_true rfl) ?_
  intro p e s m args below meth c ls hsz hx hb hr hts hown hlocks hml hname hP hD hS hA hK hl
  have hl : lv_has ls 4 [(0, .ref h), (1, .int x)] := hl
  have hown : s.vm.findClass RX6 = some m.cls := hown
  have hwX6 : ∀ w ∈ wsX60, w.before args s = true := fun w h => hts w (List.mem_cons_of_mem _ (List.mem_append_right _ (h)))
  obtain ⟨hn, hi1, hi2, hi5, hi10, -⟩ := id hI
  have rgx := i32_rng x
  rw [px] at rgx
  refine lv_aload_n hx hb dX6_at_0 rfl (lv_at hl 0 rfl) ?_
  refine lv_iload_n hx hb dX6_at_1 rfl (lv_at hl 1 rfl) ?_
  refine lv_iconst (v := (nI 1)) hx hb dX6_at_2 (by decide) ?_
  refine z_icmp_lt (u := ux) (v := ((1 : Nat) : Int)) (tgt := 10) hx hb (px) (nI_toInt (by omega)) dX6_at_3 (by decide) (fun c_3 => ?_) (fun c_3 => ?_)
  · refine lv_iconst (v := (nI 0)) hx hb dX6_at_10 (by decide) ?_
    refine m_calli (va_runV (C := RX6) (As := [.int (nI 0)]) (rest := []) ⟨hx, hb, hml, hown, hts⟩ (c_X6_asks l D cy _ _ h ad t i f nc false hW hI) (cwV 1 hts gX6_at_X6_asks rfl rfl rfl (by decide +kernel) ⟨Nat.le_of_ble_eq_true rfl, Nat.le_of_ble_eq_true rfl⟩) (mPreWV hK hP hW.1 (ci := 7) rfl) rfl rfl hl.1 rfl (lv_room (Nat.le_of_ble_eq_true rfl)) dX6_at_11 ⟨Nat.le_of_ble_eq_true rfl, Nat.le_of_ble_eq_true rfl⟩) hD hA hS (fun r9 Mn H locs hq9 hP hD hS hz9 hd9 hk9 => ?_)
    obtain ⟨hr9, hW⟩ := hq9
    have hr9 : r9 = (nI 0) := hr9
    subst hr9
    have hW : MW cy Mn h ad 1 i f := hW
    refine k_if_ne_0 (tgt := 19) hx hb dX6_at_14 (by decide) ?_
    refine lv_iconst (v := (nI 0)) hx hb dX6_at_17 (by decide) ?_
    exact e_wi hx hb hr hlocks hP hD hS (mPost_of (a := 1) (b := ((0 : Nat) : Int)) (i := i) (f := f) (by unfold oAt; (repeat (first | rw [if_pos (by omega)] | rw [if_neg (by omega)])); (first | done | rfl | omega)) (nI_zI _) hW) dX6_at_18
  · refine lv_iconst (v := (nI 1)) hx hb dX6_at_6 (by decide) ?_
    refine lv_goto (tgt := 11) hx hb dX6_at_7 (by decide) ?_
    refine m_calli (va_runV (C := RX6) (As := [.int (nI 1)]) (rest := []) ⟨hx, hb, hml, hown, hts⟩ (c_X6_asks l D cy _ _ h ad t i f nc true hW hI) (cwV 1 hts gX6_at_X6_asks rfl rfl rfl (by decide +kernel) ⟨Nat.le_of_ble_eq_true rfl, Nat.le_of_ble_eq_true rfl⟩) (mPreWV hK hP hW.1 (ci := 7) rfl) rfl rfl hl.1 rfl (lv_room (Nat.le_of_ble_eq_true rfl)) dX6_at_11 ⟨Nat.le_of_ble_eq_true rfl, Nat.le_of_ble_eq_true rfl⟩) hD hA hS (fun r9 Mn H locs hq9 hP hD hS hz9 hd9 hk9 => ?_)
    obtain ⟨hr9, hW⟩ := hq9
    have hr9 : r9 = (nI 1) := hr9
    subst hr9
    have hW : MW cy Mn h ad 0 i f := hW
    refine k_if_ne_1 (tgt := 19) hx hb dX6_at_14 (by decide) ?_
    refine lv_iconst (v := (zI (-1))) hx hb dX6_at_19 (by decide) ?_
    refine lv_istore_n (lv' := [(2, .int (zI (-1))), (0, .ref h), (1, .int x)]) hx hb dX6_at_20 rfl hl (by decide) rfl (fun ls hl => ?_)
    refine lv_iconst (v := (nI 0)) hx hb dX6_at_21 (by decide) ?_
    refine lv_istore_n (lv' := [(3, .int (nI 0)), (2, .int (zI (-1))), (0, .ref h), (1, .int x)]) hx hb dX6_at_22 rfl hl (by decide) rfl (fun ls hl => ?_)
    have K23 : ∀ (n : Nat) (j : Nat), 41 - j < n → (j ≤ i 10) → ∀ (Mq : mM) (H : Heap) (locs : List Loc), pm D Mq H → mD (mA M sz) Mq → va_S (mA M sz) s.heap H locs → (MW cy Mq h ad 0 i f) → ∀ (ls : Array Slot), lv_has ls 4 [(0, .ref h), (1, .int x), (2, .int (zI (atA f (i 10) ux j))), (3, .int (nI j))] → W p l e ({ frames := 8, cells := 0, slots := 0, locals := 189 } : Room) s m args below meth c H locs 0 0 (MQ below (va_Qi (mPost cy h ad (oAt ux i f)) (mB D M sz) (mA M sz)) args s 0 0 (mA M sz)) (F0 m 23 ls []) := by
      intro n
      induction n with
      | zero => intro j hn; exact absurd hn (by omega)
      | succ n ih23 =>
        intro j hn23 i23_0 Mq H locs hP hD hS hW ls hl
        have hle := atA_bd f (i 10) ux j
        refine lv_iload_n hx hb dX6_at_23 rfl (lv_at hl 3 rfl) ?_
        refine lv_aload_n hx hb dX6_at_24 rfl (lv_at hl 0 rfl) ?_
        refine m_get (T := TX6) (N := 24) (ci := 7) (fs := (moF ad 0 i)) hx hb hwX6 hown hK hP hW.1 rfl 10 (by decide) (hts _ (List.mem_of_getElem? (i := 1) rfl)) (v := .int (nI (i 10))) rfl dX6_at_25 ?_
        refine z_icmp_ge (u := ((j : Nat) : Int)) (v := ((i 10 : Nat) : Int)) (tgt := 52) hx hb (nI_toInt (by omega)) (nI_toInt (by omega)) dX6_at_28 (by decide) (fun c_28 => ?_) (fun c_28 => ?_)
        · refine lv_iload_n hx hb dX6_at_52 rfl (lv_at hl 2 rfl) ?_
          exact e_wi hx hb hr hlocks hP hD hS (mPost_of (a := 0) (b := atA f (i 10) ux j) (i := i) (f := f) (by unfold oAt; (repeat (first | rw [if_pos (by omega)] | rw [if_neg (by omega)])); rw [show i 10 = j by omega]) rfl hW) dX6_at_53
        · refine lv_aload_n hx hb dX6_at_31 rfl (lv_at hl 0 rfl) ?_
          refine lv_iload_n hx hb dX6_at_32 rfl (lv_at hl 3 rfl) ?_
          refine m_calli (va_runV (C := RX6) (As := [.int (nI j)]) (rest := []) ⟨hx, hb, hml, hown, hts⟩ (c_X6_placeOf l D cy _ _ h ad 0 i f nc j hW hI (by omega)) (cwV 1 hts gX6_at_X6_placeOf rfl rfl rfl (by decide +kernel) ⟨Nat.le_of_ble_eq_true rfl, Nat.le_of_ble_eq_true rfl⟩) (mPreWV hK hP hW.1 (ci := 7) rfl) rfl rfl hl.1 rfl (lv_room (Nat.le_of_ble_eq_true rfl)) dX6_at_33 ⟨Nat.le_of_ble_eq_true rfl, Nat.le_of_ble_eq_true rfl⟩) hD hA hS (fun r9 Mn H locs hq9 hP hD hS hz9 hd9 hk9 => ?_)
          obtain ⟨hr9, hW⟩ := hq9
          have hr9 : r9 = (zI (placeS f (i 10) j)) := hr9
          subst hr9
          have hW : MW cy Mn h ad 0 i f := hW
          have bs_1 := placeS_bd f (i 10) j
          refine lv_iload_n hx hb dX6_at_36 rfl (lv_at hl 1 rfl) ?_
          refine z_icmp_ne (u := (placeS f (i 10) j)) (v := ux) (tgt := 44) hx hb (zI_toInt (by omega) (by omega)) (px) dX6_at_37 (by decide) (fun c_37 => ?_) (fun c_37 => ?_)
          · refine lv_iload_n hx hb dX6_at_44 rfl (lv_at hl 2 rfl) ?_
            refine lv_istore_n (lv' := [(2, .int (zI (atA f (i 10) ux j))), (0, .ref h), (1, .int x), (3, .int (nI j))]) hx hb dX6_at_45 rfl hl (by decide) rfl (fun ls hl => ?_)
            refine n_iinc (x := j) (k := 1) (lv' := [(3, .int (nI (j + 1))), (2, .int (zI (atA f (i 10) ux j))), (0, .ref h), (1, .int x)]) hx hb dX6_at_46 rfl hl (q := 3) rfl (by decide) rfl (fun ls hl => ?_)
            refine lv_goto (tgt := 23) hx hb dX6_at_49 (by decide) ?_
            have hl : lv_has ls 4 [(3, .int (nI (j + 1))), (2, .int (zI (atA f (i 10) ux (j + 1)))), (0, .ref h), (1, .int x)] := by
              have heq0 : (.int (zI (atA f (i 10) ux (j + 1))) : Value) = .int (zI (atA f (i 10) ux j)) := congrArg Value.int (by show zI (if _ then _ else _) = _; first | (rw [if_pos (by omega)]; exact (nI_zI _).symm) | rw [if_neg (by omega)])
              rw [heq0]
              exact hl
            exact ih23  (j + 1) (by omega) (by omega) _ _ _ hP hD hS (hW) _ (lv_sub hl [2, 3, 1, 0] rfl)
          · refine lv_iload_n hx hb dX6_at_40 rfl (lv_at hl 3 rfl) ?_
            refine lv_goto (tgt := 45) hx hb dX6_at_41 (by decide) ?_
            refine lv_istore_n (lv' := [(2, .int (nI j)), (0, .ref h), (1, .int x), (3, .int (nI j))]) hx hb dX6_at_45 rfl hl (by decide) rfl (fun ls hl => ?_)
            refine n_iinc (x := j) (k := 1) (lv' := [(3, .int (nI (j + 1))), (2, .int (nI j)), (0, .ref h), (1, .int x)]) hx hb dX6_at_46 rfl hl (q := 3) rfl (by decide) rfl (fun ls hl => ?_)
            refine lv_goto (tgt := 23) hx hb dX6_at_49 (by decide) ?_
            have hl : lv_has ls 4 [(3, .int (nI (j + 1))), (2, .int (zI (atA f (i 10) ux (j + 1)))), (0, .ref h), (1, .int x)] := by
              have heq0 : (.int (zI (atA f (i 10) ux (j + 1))) : Value) = .int (nI j) := congrArg Value.int (by show zI (if _ then _ else _) = _; first | (rw [if_pos (by omega)]; exact (nI_zI _).symm) | rw [if_neg (by omega)])
              rw [heq0]
              exact hl
            exact ih23  (j + 1) (by omega) (by omega) _ _ _ hP hD hS (hW) _ (lv_sub hl [2, 3, 1, 0] rfl)
    exact K23 (41 - 0 + 1) 0 (Nat.lt_succ_self _) (Nat.zero_le _) _ _ _ hP hD hS (hW) _ (lv_sub hl [2, 3, 1, 0] rfl)

set_option maxRecDepth 100000 in
set_option maxHeartbeats 4000000 in
/-- takeOut -/
theorem c_X6_takeOut (l : Launch) (D : va_G) (cy : Nat → ClassId) (M : mM) (sz : Nat) (h : Nat) (ad : Nat → Nat) (t : Nat) (i : Nat → Nat) (f : Nat → Nat → Nat) (nc : Nat)  (x : Int32) (ux : Int) (hW : MW cy M h ad t i f) (hI : MI nc i f)  (px : x.toInt = ux) : mWi l yX6_takeOut wsX6_takeOut ({ frames := 2, cells := 0, slots := 0, locals := 49 } : Room) D cy M sz [.ref h, .int x] (mPost cy h ad (oTakeOut ux i f)) 0 0 := by
  refine mW.of (cc := cX6_takeOut) (maxL := 5) (ret := (some .int)) (by decide) rfl (Nat.le_of_ble_eq_true rfl) ?_
  intro p e s m args below meth c ls hsz hx hb hr hts hown hlocks hml hname hP hD hS hA hK hl
  have hl : lv_has ls 5 [(0, .ref h), (1, .int x)] := hl
  have hown : s.vm.findClass RX6 = some m.cls := hown
  have hwX6 : ∀ w ∈ wsX60, w.before args s = true := fun w h => hts w (List.mem_cons_of_mem _ (List.mem_append_right _ (h)))
  obtain ⟨hn, hi1, hi2, hi5, hi10, -⟩ := id hI
  have rgx := i32_rng x
  rw [px] at rgx
  refine lv_aload_n hx hb dX6_takeOut_0 rfl (lv_at hl 0 rfl) ?_
  refine lv_iload_n hx hb dX6_takeOut_1 rfl (lv_at hl 1 rfl) ?_
  refine vp_callSi (W.runS (As := [.int x]) (rest := [.ref h]) ⟨hx, hb, hml, hown, hts⟩ (c_X6_isExaminer l x ux (px)) (va_cwS 1 hts gX6_takeOut_X6_isExaminer rfl rfl rfl (by decide +kernel) ⟨Nat.le_of_ble_eq_true rfl, Nat.le_of_ble_eq_true rfl⟩) mPre0 rfl rfl hl.1 rfl (lv_room (Nat.le_of_ble_eq_true rfl)) dX6_takeOut_2 ⟨Nat.le_of_ble_eq_true rfl, Nat.le_of_ble_eq_true rfl⟩) (fun r9 hr9 => ?_)
  have hr9 : r9 = (nI (b2 (inB ux 0 5))) := hr9
  subst hr9
  refine m_calli (va_runV (C := RX6) (As := [.int (nI (b2 (inB ux 0 5)))]) (rest := []) ⟨hx, hb, hml, hown, hts⟩ (c_X6_asks l D cy _ _ h ad t i f nc (inB ux 0 5) hW hI) (cwV 1 hts gX6_takeOut_X6_asks rfl rfl rfl (by decide +kernel) ⟨Nat.le_of_ble_eq_true rfl, Nat.le_of_ble_eq_true rfl⟩) (mPreWV hK hP hW.1 (ci := 7) rfl) rfl rfl hl.1 rfl (lv_room (Nat.le_of_ble_eq_true rfl)) dX6_takeOut_5 ⟨Nat.le_of_ble_eq_true rfl, Nat.le_of_ble_eq_true rfl⟩) hD hA hS (fun r9 Mn H locs hq9 hP hD hS hz9 hd9 hk9 => ?_)
  obtain ⟨hr9, hW⟩ := hq9
  have hr9 : r9 = (nI (b2 (inB ux 0 5))) := hr9
  subst hr9
  have hW : MW cy Mn h ad (b2 (!(inB ux 0 5))) i f := hW
  refine b_if_ne (b := inB ux 0 5) (tgt := 13) hx hb dX6_takeOut_8 (by decide) (fun c_8 => ?_) (fun c_8 => ?_)
  · have hW := MW.tt hW c_8
    have c_8 := inB_t c_8
    have ex_1 : x = (nI ux.toNat) := nI_of_toInt (px) (by omega)
    have hl : lv_has ls 5 [(0, .ref h), (1, .int (nI ux.toNat))] := by
      rw [← ex_1]
      exact hl
    refine lv_aload_n hx hb dX6_takeOut_13 rfl (lv_at hl 0 rfl) ?_
    refine m_get (T := TX6) (N := 24) (ci := 7) (fs := (moF ad 0 i)) hx hb hwX6 hown hK hP hW.1 rfl 19 (by decide) (hts _ (List.mem_of_getElem? (i := 1) rfl)) (v := .ref (ad 19)) rfl dX6_takeOut_14 ?_
    refine lv_iload_n hx hb dX6_takeOut_17 rfl (lv_at hl 1 rfl) ?_
    have bd_1 : (f 19) ux.toNat ≤ 1 := hI.2.2.2.2.2 19 ux.toNat
    refine n_zald (g := (f 19)) (n := 6) (i := ux.toNat) hx hb hK hP (hW.2.2.1 19 (by decide)) (by omega) (by omega) dX6_takeOut_18 ?_
    refine z_if_eq (u := (((f 19) ux.toNat : Nat) : Int)) (tgt := 28) hx hb (nI_toInt (by omega)) dX6_takeOut_19 (by decide) (fun c_19 => ?_) (fun c_19 => ?_)
    · refine lv_aload_n hx hb dX6_takeOut_28 rfl (lv_at hl 0 rfl) ?_
      refine m_get (T := TX6) (N := 24) (ci := 7) (fs := (moF ad 0 i)) hx hb hwX6 hown hK hP hW.1 rfl 19 (by decide) (hts _ (List.mem_of_getElem? (i := 1) rfl)) (v := .ref (ad 19)) rfl dX6_takeOut_29 ?_
      refine lv_iload_n hx hb dX6_takeOut_32 rfl (lv_at hl 1 rfl) ?_
      refine lv_iconst (v := (nI 1)) hx hb dX6_takeOut_33 (by decide) ?_
      refine n_zast (g := (f 19)) (n := 6) (i := ux.toNat) (v := 1) hx hb hK hP hD hS (hW.2.2.1 19 (by decide)) (by omega) (by omega) (by omega) dX6_takeOut_34 (fun H locs hP hD hS => ?_)
      have hW := hW.setZ 19 (by decide) (va_up (f 19) ux.toNat 1)
      have hI2 := hI.row 19 (va_up (f 19) ux.toNat 1) (up_le (b := 1) (fun x => hI.2.2.2.2.2 19 x) (by omega))
      refine lv_iconst (v := (nI 0)) hx hb dX6_takeOut_35 (by decide) ?_
      refine lv_istore_n (lv' := [(2, .int (nI 0)), (0, .ref h), (1, .int (nI ux.toNat))]) hx hb dX6_takeOut_36 rfl hl (by decide) rfl (fun ls hl => ?_)
      refine lv_iconst (v := (nI 0)) hx hb dX6_takeOut_37 (by decide) ?_
      refine lv_istore_n (lv' := [(3, .int (nI 0)), (2, .int (nI 0)), (0, .ref h), (1, .int (nI ux.toNat))]) hx hb dX6_takeOut_38 rfl hl (by decide) rfl (fun ls hl => ?_)
      have K39 : ∀ (n : Nat) (j : Nat), 41 - j < n → (j ≤ i 10) → ∀ (Mq : mM) (H : Heap) (locs : List Loc), pm D Mq H → mD (mA M sz) Mq → va_S (mA M sz) s.heap H locs → (MW cy Mq h ad 0 i ((outA (va_up f 19 (va_up (f 19) ux.toNat 1)) ux.toNat j).2)) → ∀ (ls : Array Slot), lv_has ls 5 [(0, .ref h), (1, .int (nI ux.toNat)), (2, .int (nI ((outA (va_up f 19 (va_up (f 19) ux.toNat 1)) ux.toNat j).1))), (3, .int (nI j))] → W p l e ({ frames := 2, cells := 0, slots := 0, locals := 49 } : Room) s m args below meth c H locs 0 0 (MQ below (va_Qi (mPost cy h ad (oTakeOut ux i f)) (mB D M sz) (mA M sz)) args s 0 0 (mA M sz)) (F0 m 39 ls []) := by
        intro n
        induction n with
        | zero => intro j hn; exact absurd hn (by omega)
        | succ n ih39 =>
          intro j hn39 i39_0 Mq H locs hP hD hS hW ls hl
          have hle := outA_le (va_up f 19 (va_up (f 19) ux.toNat 1)) ux.toNat j
          refine lv_iload_n hx hb dX6_takeOut_39 rfl (lv_at hl 3 rfl) ?_
          refine lv_aload_n hx hb dX6_takeOut_40 rfl (lv_at hl 0 rfl) ?_
          refine m_get (T := TX6) (N := 24) (ci := 7) (fs := (moF ad 0 i)) hx hb hwX6 hown hK hP hW.1 rfl 10 (by decide) (hts _ (List.mem_of_getElem? (i := 2) rfl)) (v := .int (nI (i 10))) rfl dX6_takeOut_41 ?_
          refine z_icmp_ge (u := ((j : Nat) : Int)) (v := ((i 10 : Nat) : Int)) (tgt := 84) hx hb (nI_toInt (by omega)) (nI_toInt (by omega)) dX6_takeOut_44 (by decide) (fun c_44 => ?_) (fun c_44 => ?_)
          · refine lv_iload_n hx hb dX6_takeOut_84 rfl (lv_at hl 2 rfl) ?_
            exact e_wi hx hb hr hlocks hP hD hS (mPost_of (a := 0) (b := (((outA (va_up f 19 (va_up (f 19) ux.toNat 1)) ux.toNat j).1 : Nat) : Int)) (i := i) (f := (outA (va_up f 19 (va_up (f 19) ux.toNat 1)) ux.toNat j).2) (by unfold oTakeOut; (repeat (first | rw [if_pos (by omega)] | rw [if_neg (by omega)])); rw [show i 10 = j by omega]) (nI_zI _) hW) dX6_takeOut_85
          · refine lv_aload_n hx hb dX6_takeOut_47 rfl (lv_at hl 0 rfl) ?_
            refine lv_iload_n hx hb dX6_takeOut_48 rfl (lv_at hl 3 rfl) ?_
            refine vp_callSi (W.runV (C := RX6) (As := [.int (nI j)]) (rest := []) ⟨hx, hb, hml, hown, hts⟩ (c_X6_gradeOf l D cy _ h ad 0 i ((outA (va_up f 19 (va_up (f 19) ux.toNat 1)) ux.toNat j).2) nc j hW (MI.out hI2 ux.toNat j) (by omega)) (cwV 1 hts gX6_takeOut_X6_gradeOf rfl rfl rfl (by decide +kernel) ⟨Nat.le_of_ble_eq_true rfl, Nat.le_of_ble_eq_true rfl⟩) (mPreV hK hP hW.1 (ci := 7) rfl) rfl rfl hl.1 rfl (lv_room (Nat.le_of_ble_eq_true rfl)) dX6_takeOut_49 ⟨Nat.le_of_ble_eq_true rfl, Nat.le_of_ble_eq_true rfl⟩) (fun r9 hr9 => ?_)
            have hr9 : r9 = (zI (gradeS ((outA (va_up f 19 (va_up (f 19) ux.toNat 1)) ux.toNat j).2) j)) := hr9
            subst hr9
            have bs_2 : -1 ≤ gradeS ((outA (va_up f 19 (va_up (f 19) ux.toNat 1)) ux.toNat j).2) j ∧ gradeS ((outA (va_up f 19 (va_up (f 19) ux.toNat 1)) ux.toNat j).2) j ≤ 20 := gradeS_bd (MI.out hI2 ux.toNat j) _
            refine lv_istore (lv' := [(4, .int (zI (gradeS ((outA (va_up f 19 (va_up (f 19) ux.toNat 1)) ux.toNat j).2) j))), (0, .ref h), (1, .int (nI ux.toNat)), (2, .int (nI ((outA (va_up f 19 (va_up (f 19) ux.toNat 1)) ux.toNat j).1))), (3, .int (nI j))]) hx hb dX6_takeOut_52 hl (by decide) rfl (fun ls hl => ?_)
            refine lv_aload_n hx hb dX6_takeOut_54 rfl (lv_at hl 1 rfl) ?_
            refine lv_iload_n hx hb dX6_takeOut_55 rfl (lv_at hl 2 rfl) ?_
            refine lv_iload_n hx hb dX6_takeOut_56 rfl (lv_at hl 4 rfl) ?_
            refine m_callv (va_runV (C := RX6) (As := [.int (nI ux.toNat), .int (nI j)]) (rest := []) ⟨hx, hb, hml, hown, hts⟩ (c_X6_dropsMarks l D cy _ _ h ad 0 i ((outA (va_up f 19 (va_up (f 19) ux.toNat 1)) ux.toNat j).2) nc ux.toNat j hW (MI.out hI2 ux.toNat j) (by omega) (by omega)) (cwV 2 hts gX6_takeOut_X6_dropsMarks rfl rfl rfl (by decide +kernel) ⟨Nat.le_of_ble_eq_true rfl, Nat.le_of_ble_eq_true rfl⟩) (mPreWV hK hP hW.1 (ci := 7) rfl) rfl rfl hl.1 rfl (lv_room (Nat.le_of_ble_eq_true rfl)) dX6_takeOut_57 ⟨Nat.le_of_ble_eq_true rfl, Nat.le_of_ble_eq_true rfl⟩) hD hA hS (fun Mn H locs hq9 hP hD hS hz9 hd9 hk9 => ?_)
            have hW := hq9
            have hW : MW cy Mn h ad 0 i (dropF ((outA (va_up f 19 (va_up (f 19) ux.toNat 1)) ux.toNat j).2) ux.toNat j) := hW
            refine lv_iload_n hx hb dX6_takeOut_60 rfl (lv_at hl 3 rfl) ?_
            refine lv_aload_n hx hb dX6_takeOut_61 rfl (lv_at hl 1 rfl) ?_
            refine lv_iload_n hx hb dX6_takeOut_62 rfl (lv_at hl 4 rfl) ?_
            refine vp_callSi (W.runV (C := RX6) (As := [.int (nI j)]) (rest := [.int (nI ((outA (va_up f 19 (va_up (f 19) ux.toNat 1)) ux.toNat j).1))]) ⟨hx, hb, hml, hown, hts⟩ (c_X6_gradeOf l D cy _ h ad 0 i (dropF ((outA (va_up f 19 (va_up (f 19) ux.toNat 1)) ux.toNat j).2) ux.toNat j) nc j hW (MI.drop (MI.out hI2 ux.toNat j) ux.toNat j) (by omega)) (cwV 1 hts gX6_takeOut_X6_gradeOf rfl rfl rfl (by decide +kernel) ⟨Nat.le_of_ble_eq_true rfl, Nat.le_of_ble_eq_true rfl⟩) (mPreV hK hP hW.1 (ci := 7) rfl) rfl rfl hl.1 rfl (lv_room (Nat.le_of_ble_eq_true rfl)) dX6_takeOut_63 ⟨Nat.le_of_ble_eq_true rfl, Nat.le_of_ble_eq_true rfl⟩) (fun r9 hr9 => ?_)
            have hr9 : r9 = (zI (gradeS (dropF ((outA (va_up f 19 (va_up (f 19) ux.toNat 1)) ux.toNat j).2) ux.toNat j) j)) := hr9
            subst hr9
            have bs_3 : -1 ≤ gradeS (dropF ((outA (va_up f 19 (va_up (f 19) ux.toNat 1)) ux.toNat j).2) ux.toNat j) j ∧ gradeS (dropF ((outA (va_up f 19 (va_up (f 19) ux.toNat 1)) ux.toNat j).2) ux.toNat j) j ≤ 20 := gradeS_bd (MI.drop (MI.out hI2 ux.toNat j) ux.toNat j) _
            refine lv_iload hx hb dX6_takeOut_66 (lv_at hl 0 rfl) ?_
            refine z_icmp_ne (u := (gradeS (dropF ((outA (va_up f 19 (va_up (f 19) ux.toNat 1)) ux.toNat j).2) ux.toNat j) j)) (v := (gradeS ((outA (va_up f 19 (va_up (f 19) ux.toNat 1)) ux.toNat j).2) j)) (tgt := 75) hx hb (zI_toInt (by omega) (by omega)) (zI_toInt (by omega) (by omega)) dX6_takeOut_68 (by decide) (fun c_68 => ?_) (fun c_68 => ?_)
            · refine lv_iconst (v := (nI 1)) hx hb dX6_takeOut_75 (by decide) ?_
              refine n_add (x := (outA (va_up f 19 (va_up (f 19) ux.toNat 1)) ux.toNat j).1) (y := 1) hx hb dX6_takeOut_76 ?_
              refine lv_istore_n (lv' := [(2, .int (nI (((outA (va_up f 19 (va_up (f 19) ux.toNat 1)) ux.toNat j).1) + 1))), (4, .int (zI (gradeS ((outA (va_up f 19 (va_up (f 19) ux.toNat 1)) ux.toNat j).2) j))), (0, .ref h), (1, .int (nI ux.toNat)), (3, .int (nI j))]) hx hb dX6_takeOut_77 rfl hl (by decide) rfl (fun ls hl => ?_)
              refine n_iinc (x := j) (k := 1) (lv' := [(3, .int (nI (j + 1))), (2, .int (nI (((outA (va_up f 19 (va_up (f 19) ux.toNat 1)) ux.toNat j).1) + 1))), (4, .int (zI (gradeS ((outA (va_up f 19 (va_up (f 19) ux.toNat 1)) ux.toNat j).2) j))), (0, .ref h), (1, .int (nI ux.toNat))]) hx hb dX6_takeOut_78 rfl hl (q := 4) rfl (by decide) rfl (fun ls hl => ?_)
              refine lv_goto (tgt := 39) hx hb dX6_takeOut_81 (by decide) ?_
              have hl : lv_has ls 5 [(3, .int (nI (j + 1))), (2, .int (nI ((outA (va_up f 19 (va_up (f 19) ux.toNat 1)) ux.toNat (j + 1)).1))), (4, .int (zI (gradeS ((outA (va_up f 19 (va_up (f 19) ux.toNat 1)) ux.toNat j).2) j))), (0, .ref h), (1, .int (nI ux.toNat))] := by
                have heq0 : (.int (nI ((outA (va_up f 19 (va_up (f 19) ux.toNat 1)) ux.toNat (j + 1)).1)) : Value) = .int (nI (((outA (va_up f 19 (va_up (f 19) ux.toNat 1)) ux.toNat j).1) + 1)) := congrArg Value.int (congrArg nI (by show (outA (va_up f 19 (va_up (f 19) ux.toNat 1)) ux.toNat j).1 + b2 (decide _) = _; first | (rw [decide_eq_true (by omega)]; rfl) | (rw [decide_eq_false (by omega)]; rfl)))
                rw [heq0]
                exact hl
              exact ih39  (j + 1) (by omega) (by omega) _ _ _ hP hD hS (hW) _ (lv_sub hl [3, 4, 1, 0] rfl)
            · refine lv_iconst (v := (nI 0)) hx hb dX6_takeOut_71 (by decide) ?_
              refine lv_goto (tgt := 76) hx hb dX6_takeOut_72 (by decide) ?_
              refine n_add (x := (outA (va_up f 19 (va_up (f 19) ux.toNat 1)) ux.toNat j).1) (y := 0) hx hb dX6_takeOut_76 ?_
              refine lv_istore_n (lv' := [(2, .int (nI (((outA (va_up f 19 (va_up (f 19) ux.toNat 1)) ux.toNat j).1) + 0))), (4, .int (zI (gradeS ((outA (va_up f 19 (va_up (f 19) ux.toNat 1)) ux.toNat j).2) j))), (0, .ref h), (1, .int (nI ux.toNat)), (3, .int (nI j))]) hx hb dX6_takeOut_77 rfl hl (by decide) rfl (fun ls hl => ?_)
              refine n_iinc (x := j) (k := 1) (lv' := [(3, .int (nI (j + 1))), (2, .int (nI (((outA (va_up f 19 (va_up (f 19) ux.toNat 1)) ux.toNat j).1) + 0))), (4, .int (zI (gradeS ((outA (va_up f 19 (va_up (f 19) ux.toNat 1)) ux.toNat j).2) j))), (0, .ref h), (1, .int (nI ux.toNat))]) hx hb dX6_takeOut_78 rfl hl (q := 4) rfl (by decide) rfl (fun ls hl => ?_)
              refine lv_goto (tgt := 39) hx hb dX6_takeOut_81 (by decide) ?_
              have hl : lv_has ls 5 [(3, .int (nI (j + 1))), (2, .int (nI ((outA (va_up f 19 (va_up (f 19) ux.toNat 1)) ux.toNat (j + 1)).1))), (4, .int (zI (gradeS ((outA (va_up f 19 (va_up (f 19) ux.toNat 1)) ux.toNat j).2) j))), (0, .ref h), (1, .int (nI ux.toNat))] := by
                have heq0 : (.int (nI ((outA (va_up f 19 (va_up (f 19) ux.toNat 1)) ux.toNat (j + 1)).1)) : Value) = .int (nI (((outA (va_up f 19 (va_up (f 19) ux.toNat 1)) ux.toNat j).1) + 0)) := congrArg Value.int (congrArg nI (by show (outA (va_up f 19 (va_up (f 19) ux.toNat 1)) ux.toNat j).1 + b2 (decide _) = _; first | (rw [decide_eq_true (by omega)]; rfl) | (rw [decide_eq_false (by omega)]; rfl)))
                rw [heq0]
                exact hl
              exact ih39  (j + 1) (by omega) (by omega) _ _ _ hP hD hS (hW) _ (lv_sub hl [3, 4, 1, 0] rfl)
      exact K39 (41 - 0 + 1) 0 (Nat.lt_succ_self _) (Nat.zero_le _) _ _ _ hP hD hS (hW) _ (lv_sub hl [2, 3, 1, 0] rfl)
    · refine lv_aload_n hx hb dX6_takeOut_22 rfl (lv_at hl 0 rfl) ?_
      refine lv_iconst (v := (nI 2)) hx hb dX6_takeOut_23 (by decide) ?_
      refine m_calli (va_runV (C := RX6) (As := [.int (nI 2)]) (rest := []) ⟨hx, hb, hml, hown, hts⟩ (c_X6_fails l D cy _ _ h ad 0 i f nc 2 hW hI) (cwV 1 hts gX6_takeOut_X6_fails rfl rfl rfl (by decide +kernel) ⟨Nat.le_of_ble_eq_true rfl, Nat.le_of_ble_eq_true rfl⟩) (mPreWV hK hP hW.1 (ci := 7) rfl) rfl rfl hl.1 rfl (lv_room (Nat.le_of_ble_eq_true rfl)) dX6_takeOut_24 ⟨Nat.le_of_ble_eq_true rfl, Nat.le_of_ble_eq_true rfl⟩) hD hA hS (fun r9 Mn H locs hq9 hP hD hS hz9 hd9 hk9 => ?_)
      obtain ⟨hr9, hW⟩ := hq9
      have hr9 : r9 = (nI 0) := hr9
      subst hr9
      have hW : MW cy Mn h ad 2 i f := hW
      exact e_wi hx hb hr hlocks hP hD hS (mPost_of (a := 2) (b := ((0 : Nat) : Int)) (i := i) (f := f) (by unfold oTakeOut; (repeat (first | rw [if_pos (by omega)] | rw [if_neg (by omega)])); (first | done | rfl | omega)) (nI_zI _) hW) dX6_takeOut_27
  · have hW := MW.tf hW c_8
    have c_8 := inB_f c_8
    refine lv_iconst (v := (nI 0)) hx hb dX6_takeOut_11 (by decide) ?_
    exact e_wi hx hb hr hlocks hP hD hS (mPost_of (a := 1) (b := ((0 : Nat) : Int)) (i := i) (f := f) (by unfold oTakeOut; (repeat (first | rw [if_pos (by omega)] | rw [if_neg (by omega)])); (first | done | rfl | omega)) (nI_zI _) hW) dX6_takeOut_12
