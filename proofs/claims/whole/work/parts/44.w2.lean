set_option maxRecDepth 100000 in
set_option maxHeartbeats 4000000 in
theorem w_stroke (l : Launch) (de mi : Nat) (D : va_G) (cy : Nat → ClassId) (Mh : mM) (sz o a : Nat) (g0 : Nat → Int64) (fs : List Value) (x : Int32) (y : Int32) (post : Int32 → mM → Prop) (postX : String → Prop) (ha : Mh a = some (.inr (6, fs))) (ho : Mh o = none) (hcal : ∀ sz : Nat, mVi l yX5_stroke wsX5_stroke ({ frames := 7, cells := 4, slots := 24, locals := 102 } : Room) de mi D cy Mh sz [.ref a, .int x, .int y] post postX 4 24) (hE : ∀ E, postX E → E = xIO ∨ E = xIA ∨ E = xIS) : wMet l yL_stroke wsL_stroke ({ frames := 8, cells := 4, slots := 24, locals := 124 } : Room) de mi D cy (mset Mh o (eJ cy 1 g0)) sz [.ref a, .int x, .int y, .ref o] (wPost cy Mh o post postX [(xIO, 1), (xIA, 2), (xIS, 3)]) 4 24 := by
  refine wMet.of (cc := cL_stroke) (maxL := 5) (ret := some .int) (hh := [(0, 10, 13, 13), (0, 10, 17, 15), (0, 10, 21, 17)]) (by decide) rfl (Nat.le_of_ble_eq_true rfl) ?_
  intro p e s m args below meth c ls hsz hx hb hr hts hown hlocks hml htab hP hD hS hA hK hX hN hl
  have hown : s.vm.findClass RL = some m.cls := hown
  have hl : lv_has ls 5 [(0, .ref a), (1, .int x), (2, .int y), (3, .ref o)] := hl
  have hPh := pm_out ho hP
  have hDh := mD_out hD
  have hAo : mA (mset Mh o (eJ cy 1 g0)) sz o := hD o (by rw [mset_self]; exact fun z => by cases z)
  refine lv_aload_n hx hb dL_stroke_0 rfl (lv_at hl 3 rfl) ?_
  refine lv_iconst (v := nI 0) hx hb dL_stroke_1 (by decide) ?_
  refine lv_aload_n hx hb dL_stroke_2 rfl (lv_at hl 0 rfl) ?_
  refine lv_iload_n hx hb dL_stroke_3 rfl (lv_at hl 1 rfl) ?_
  refine lv_iload_n hx hb dL_stroke_4 rfl (lv_at hl 2 rfl) ?_
  refine w_calli (vx_runV (C := RX5) (As := [.int x, .int y]) (rest := [.int (nI 0), .ref o]) ⟨hx, hb, hml, hown, hts⟩ (hcal _) (cwV 2 hts gL_stroke_X5_stroke rfl rfl rfl (by decide +kernel) ⟨Nat.le_of_ble_eq_true rfl, Nat.le_of_ble_eq_true rfl⟩) (mPreXV hX hDh hS hA hK hPh ha (ci := 6) rfl) rfl rfl hl.1 rfl (lv_room (Nat.le_of_ble_eq_true rfl)) dL_stroke_5 ⟨Nat.le_of_ble_eq_true rfl, Nat.le_of_ble_eq_true rfl⟩) hDh hA hS (fun E ce q9 H1 locs1 hpx hP1 hS1 hz1 hk1 hce hcv hcl => ?_) (fun v M1 H1 locs1 hq9 hP1 hD1 hS1 hz1 hd1 hk1 => ?_)
  · obtain ⟨-, hPo⟩ := out_keep hP ho hP1 (fun q hq => Or.inl hq) hk1
    rcases hE E hpx with rfl | rfl | rfl
    · refine vx_catch (name := xIO) hown [] ⟨0, 10, 13, 13⟩ [⟨0, 10, 17, 15⟩, ⟨0, 10, 21, 17⟩] htab (fun z hz => absurd hz List.not_mem_nil) (by decide) (by decide) (hts _ (List.mem_of_getElem? (i := 1) rfl)) (va_Nw.use (cDW_tab _ (List.mem_of_getElem? (i := 3) rfl)) (hX.2.2.2.2.2.2.2.2.2 _ (List.mem_of_getElem? (i := 3) rfl))) hce hcv hcl ?_
      refine lv_astore (lv' := [(4, .ref q9), (0, .ref a), (1, .int x), (2, .int y), (3, .ref o)]) hx hb dL_stroke_13 hl (by decide) rfl (fun ls hl => ?_)
      refine lv_iconst (v := nI 1) hx hb dL_stroke_15 (by decide) ?_
      exact vx_ret (e_wi hx hb hr hlocks hPo hD hS1 (Or.inr ⟨_, 1, g0, hpx, List.mem_of_getElem? (i := 0) rfl, rfl, rfl⟩) dL_stroke_16)
    · refine vx_catch (name := xIA) hown [⟨0, 10, 13, 13⟩] ⟨0, 10, 17, 15⟩ [⟨0, 10, 21, 17⟩] htab (fun z hz => by
      rcases List.mem_cons.mp hz with rfl | hz
      · exact Or.inr ⟨by decide, xIO, (hts _ (List.mem_of_getElem? (i := 1) rfl)), hN (xIA, xIO) (List.mem_of_getElem? (i := 2) rfl)⟩
      exact absurd hz List.not_mem_nil) (by decide) (by decide) (hts _ (List.mem_of_getElem? (i := 2) rfl)) (va_Nw.use (cDW_tab _ (List.mem_of_getElem? (i := 4) rfl)) (hX.2.2.2.2.2.2.2.2.2 _ (List.mem_of_getElem? (i := 4) rfl))) hce hcv hcl ?_
      refine lv_astore (lv' := [(4, .ref q9), (0, .ref a), (1, .int x), (2, .int y), (3, .ref o)]) hx hb dL_stroke_17 hl (by decide) rfl (fun ls hl => ?_)
      refine lv_iconst (v := nI 2) hx hb dL_stroke_19 (by decide) ?_
      exact vx_ret (e_wi hx hb hr hlocks hPo hD hS1 (Or.inr ⟨_, 2, g0, hpx, List.mem_of_getElem? (i := 1) rfl, rfl, rfl⟩) dL_stroke_20)
    · refine vx_catch (name := xIS) hown [⟨0, 10, 13, 13⟩, ⟨0, 10, 17, 15⟩] ⟨0, 10, 21, 17⟩ [] htab (fun z hz => by
      rcases List.mem_cons.mp hz with rfl | hz
      · exact Or.inr ⟨by decide, xIO, (hts _ (List.mem_of_getElem? (i := 1) rfl)), hN (xIS, xIO) (List.mem_of_getElem? (i := 4) rfl)⟩
      rcases List.mem_cons.mp hz with rfl | hz
      · exact Or.inr ⟨by decide, xIA, (hts _ (List.mem_of_getElem? (i := 2) rfl)), hN (xIS, xIA) (List.mem_of_getElem? (i := 5) rfl)⟩
      exact absurd hz List.not_mem_nil) (by decide) (by decide) (hts _ (List.mem_of_getElem? (i := 3) rfl)) (va_Nw.use (cDW_tab _ (List.mem_of_getElem? (i := 5) rfl)) (hX.2.2.2.2.2.2.2.2.2 _ (List.mem_of_getElem? (i := 5) rfl))) hce hcv hcl ?_
      refine lv_astore (lv' := [(4, .ref q9), (0, .ref a), (1, .int x), (2, .int y), (3, .ref o)]) hx hb dL_stroke_21 hl (by decide) rfl (fun ls hl => ?_)
      refine lv_iconst (v := nI 3) hx hb dL_stroke_23 (by decide) ?_
      exact vx_ret (e_wi hx hb hr hlocks hPo hD hS1 (Or.inr ⟨_, 3, g0, hpx, List.mem_of_getElem? (i := 2) rfl, rfl, rfl⟩) dL_stroke_24)
  · obtain ⟨ho1, hPo⟩ := out_keep hP ho hP1 hd1 hk1
    have hDo := hD1.set (a := o) (e := eJ cy 1 g0) hAo
    refine lv_i2l hx hb dL_stroke_8 rfl ?_
    refine n_jast (n := 1) (i := 0) hx hb hK hPo hDo hS1 (mset_self _ _ _) (by decide) (by decide) dL_stroke_9 (fun H2 locs2 hP2 hD2 hS2 => ?_)
    rw [mset_mset] at hP2 hD2
    refine lv_goto (tgt := 25) hx hb dL_stroke_10 (by decide) ?_
    refine lv_iconst (v := nI 0) hx hb dL_stroke_25 (by decide) ?_
    exact vx_ret (e_wi hx hb hr hlocks hP2 hD2 hS2 (Or.inl ⟨v, M1, _, hq9, ho1, rfl, va_up_self _ _ _, rfl⟩) dL_stroke_26)

set_option maxRecDepth 100000 in
set_option maxHeartbeats 4000000 in
theorem w_letter (l : Launch) (de mi : Nat) (D : va_G) (cy : Nat → ClassId) (Mh : mM) (sz o a : Nat) (g0 : Nat → Int64) (fs : List Value)  (post : Int32 → mM → Prop) (postX : String → Prop) (ha : Mh a = some (.inr (6, fs))) (ho : Mh o = none) (hcal : ∀ sz : Nat, mVi l yX5_letter wsX5_letter ({ frames := 7, cells := 4, slots := 90, locals := 178 } : Room) de mi D cy Mh sz [.ref a] post postX 4 90) (hE : ∀ E, postX E → E = xIS) : wMet l yL_letter wsL_letter ({ frames := 8, cells := 4, slots := 90, locals := 199 } : Room) de mi D cy (mset Mh o (eJ cy 1 g0)) sz [.ref a, .ref o] (wPost cy Mh o post postX [(xIS, 1)]) 4 90 := by
  refine wMet.of (cc := cL_letter) (maxL := 3) (ret := some .int) (hh := [(0, 8, 11, 17)]) (by decide) rfl (Nat.le_of_ble_eq_true rfl) ?_
  intro p e s m args below meth c ls hsz hx hb hr hts hown hlocks hml htab hP hD hS hA hK hX hN hl
  have hown : s.vm.findClass RL = some m.cls := hown
  have hl : lv_has ls 3 [(0, .ref a), (1, .ref o)] := hl
  have hPh := pm_out ho hP
  have hDh := mD_out hD
  have hAo : mA (mset Mh o (eJ cy 1 g0)) sz o := hD o (by rw [mset_self]; exact fun z => by cases z)
  refine lv_aload_n hx hb dL_letter_0 rfl (lv_at hl 1 rfl) ?_
  refine lv_iconst (v := nI 0) hx hb dL_letter_1 (by decide) ?_
  refine lv_aload_n hx hb dL_letter_2 rfl (lv_at hl 0 rfl) ?_
  refine w_calli (vx_runV (C := RX5) (As := []) (rest := [.int (nI 0), .ref o]) ⟨hx, hb, hml, hown, hts⟩ (hcal _) (cwV 0 hts gL_letter_X5_letter rfl rfl rfl (by decide +kernel) ⟨Nat.le_of_ble_eq_true rfl, Nat.le_of_ble_eq_true rfl⟩) (mPreXV hX hDh hS hA hK hPh ha (ci := 6) rfl) rfl rfl hl.1 rfl (lv_room (Nat.le_of_ble_eq_true rfl)) dL_letter_3 ⟨Nat.le_of_ble_eq_true rfl, Nat.le_of_ble_eq_true rfl⟩) hDh hA hS (fun E ce q9 H1 locs1 hpx hP1 hS1 hz1 hk1 hce hcv hcl => ?_) (fun v M1 H1 locs1 hq9 hP1 hD1 hS1 hz1 hd1 hk1 => ?_)
  · obtain ⟨-, hPo⟩ := out_keep hP ho hP1 (fun q hq => Or.inl hq) hk1
    rcases hE E hpx with rfl
    · refine vx_catch (name := xIS) hown [] ⟨0, 8, 11, 17⟩ [] htab (fun z hz => absurd hz List.not_mem_nil) (by decide) (by decide) (hts _ (List.mem_of_getElem? (i := 1) rfl)) (va_Nw.use (cDW_tab _ (List.mem_of_getElem? (i := 5) rfl)) (hX.2.2.2.2.2.2.2.2.2 _ (List.mem_of_getElem? (i := 5) rfl))) hce hcv hcl ?_
      refine lv_astore_n (lv' := [(2, .ref q9), (0, .ref a), (1, .ref o)]) hx hb dL_letter_11 rfl hl (by decide) rfl (fun ls hl => ?_)
      refine lv_iconst (v := nI 1) hx hb dL_letter_12 (by decide) ?_
      exact vx_ret (e_wi hx hb hr hlocks hPo hD hS1 (Or.inr ⟨_, 1, g0, hpx, List.mem_of_getElem? (i := 0) rfl, rfl, rfl⟩) dL_letter_13)
  · obtain ⟨ho1, hPo⟩ := out_keep hP ho hP1 hd1 hk1
    have hDo := hD1.set (a := o) (e := eJ cy 1 g0) hAo
    refine lv_i2l hx hb dL_letter_6 rfl ?_
    refine n_jast (n := 1) (i := 0) hx hb hK hPo hDo hS1 (mset_self _ _ _) (by decide) (by decide) dL_letter_7 (fun H2 locs2 hP2 hD2 hS2 => ?_)
    rw [mset_mset] at hP2 hD2
    refine lv_goto (tgt := 14) hx hb dL_letter_8 (by decide) ?_
    refine lv_iconst (v := nI 0) hx hb dL_letter_14 (by decide) ?_
    exact vx_ret (e_wi hx hb hr hlocks hP2 hD2 hS2 (Or.inl ⟨v, M1, _, hq9, ho1, rfl, va_up_self _ _ _, rfl⟩) dL_letter_15)

set_option maxRecDepth 100000 in
set_option maxHeartbeats 4000000 in
theorem w_strokeOf (l : Launch) (de mi : Nat) (D : va_G) (cy : Nat → ClassId) (Mh : mM) (sz o a : Nat) (g0 : Nat → Int64) (fs : List Value) (x : Int32) (y : Int32) (post : Int32 → mM → Prop) (postX : String → Prop) (ha : Mh a = some (.inr (6, fs))) (ho : Mh o = none) (hcal : ∀ sz : Nat, mVi l yX5_strokeOf wsX5_strokeOf ({ frames := 7, cells := 4, slots := 24, locals := 103 } : Room) de mi D cy Mh sz [.ref a, .int x, .int y] post postX 4 24) (hE : ∀ E, postX E → E = xIO) : wMet l yL_strokeOf wsL_strokeOf ({ frames := 8, cells := 4, slots := 24, locals := 126 } : Room) de mi D cy (mset Mh o (eJ cy 1 g0)) sz [.ref a, .int x, .int y, .ref o] (wPost cy Mh o post postX [(xIO, 1)]) 4 24 := by
  refine wMet.of (cc := cL_strokeOf) (maxL := 5) (ret := some .int) (hh := [(0, 10, 13, 13)]) (by decide) rfl (Nat.le_of_ble_eq_true rfl) ?_
  intro p e s m args below meth c ls hsz hx hb hr hts hown hlocks hml htab hP hD hS hA hK hX hN hl
  have hown : s.vm.findClass RL = some m.cls := hown
  have hl : lv_has ls 5 [(0, .ref a), (1, .int x), (2, .int y), (3, .ref o)] := hl
  have hPh := pm_out ho hP
  have hDh := mD_out hD
  have hAo : mA (mset Mh o (eJ cy 1 g0)) sz o := hD o (by rw [mset_self]; exact fun z => by cases z)
  refine lv_aload_n hx hb dL_strokeOf_0 rfl (lv_at hl 3 rfl) ?_
  refine lv_iconst (v := nI 0) hx hb dL_strokeOf_1 (by decide) ?_
  refine lv_aload_n hx hb dL_strokeOf_2 rfl (lv_at hl 0 rfl) ?_
  refine lv_iload_n hx hb dL_strokeOf_3 rfl (lv_at hl 1 rfl) ?_
  refine lv_iload_n hx hb dL_strokeOf_4 rfl (lv_at hl 2 rfl) ?_
  refine w_calli (vx_runV (C := RX5) (As := [.int x, .int y]) (rest := [.int (nI 0), .ref o]) ⟨hx, hb, hml, hown, hts⟩ (hcal _) (cwV 2 hts gL_strokeOf_X5_strokeOf rfl rfl rfl (by decide +kernel) ⟨Nat.le_of_ble_eq_true rfl, Nat.le_of_ble_eq_true rfl⟩) (mPreXV hX hDh hS hA hK hPh ha (ci := 6) rfl) rfl rfl hl.1 rfl (lv_room (Nat.le_of_ble_eq_true rfl)) dL_strokeOf_5 ⟨Nat.le_of_ble_eq_true rfl, Nat.le_of_ble_eq_true rfl⟩) hDh hA hS (fun E ce q9 H1 locs1 hpx hP1 hS1 hz1 hk1 hce hcv hcl => ?_) (fun v M1 H1 locs1 hq9 hP1 hD1 hS1 hz1 hd1 hk1 => ?_)
  · obtain ⟨-, hPo⟩ := out_keep hP ho hP1 (fun q hq => Or.inl hq) hk1
    rcases hE E hpx with rfl
    · refine vx_catch (name := xIO) hown [] ⟨0, 10, 13, 13⟩ [] htab (fun z hz => absurd hz List.not_mem_nil) (by decide) (by decide) (hts _ (List.mem_of_getElem? (i := 1) rfl)) (va_Nw.use (cDW_tab _ (List.mem_of_getElem? (i := 3) rfl)) (hX.2.2.2.2.2.2.2.2.2 _ (List.mem_of_getElem? (i := 3) rfl))) hce hcv hcl ?_
      refine lv_astore (lv' := [(4, .ref q9), (0, .ref a), (1, .int x), (2, .int y), (3, .ref o)]) hx hb dL_strokeOf_13 hl (by decide) rfl (fun ls hl => ?_)
      refine lv_iconst (v := nI 1) hx hb dL_strokeOf_15 (by decide) ?_
      exact vx_ret (e_wi hx hb hr hlocks hPo hD hS1 (Or.inr ⟨_, 1, g0, hpx, List.mem_of_getElem? (i := 0) rfl, rfl, rfl⟩) dL_strokeOf_16)
  · obtain ⟨ho1, hPo⟩ := out_keep hP ho hP1 hd1 hk1
    have hDo := hD1.set (a := o) (e := eJ cy 1 g0) hAo
    refine lv_i2l hx hb dL_strokeOf_8 rfl ?_
    refine n_jast (n := 1) (i := 0) hx hb hK hPo hDo hS1 (mset_self _ _ _) (by decide) (by decide) dL_strokeOf_9 (fun H2 locs2 hP2 hD2 hS2 => ?_)
    rw [mset_mset] at hP2 hD2
    refine lv_goto (tgt := 17) hx hb dL_strokeOf_10 (by decide) ?_
    refine lv_iconst (v := nI 0) hx hb dL_strokeOf_17 (by decide) ?_
    exact vx_ret (e_wi hx hb hr hlocks hP2 hD2 hS2 (Or.inl ⟨v, M1, _, hq9, ho1, rfl, va_up_self _ _ _, rfl⟩) dL_strokeOf_18)

set_option maxRecDepth 100000 in
set_option maxHeartbeats 4000000 in
theorem w_pupil (l : Launch) (de mi : Nat) (D : va_G) (cy : Nat → ClassId) (Mh : mM) (sz o a : Nat) (g0 : Nat → Int64) (fs : List Value) (x : Int32) (y : Int32) (z : Bool) (post : Int32 → mM → Prop) (postX : String → Prop) (ha : Mh a = some (.inr (6, fs))) (ho : Mh o = none) (hcal : ∀ sz : Nat, mVi l yX5_pupil wsX5_pupil ({ frames := 7, cells := 4, slots := 90, locals := 178 } : Room) de mi D cy Mh sz [.ref a, .int x, .int y, .int (nI (b2 z))] post postX 4 90) (hE : ∀ E, postX E → E = xIO ∨ E = xIA ∨ E = xIS) : wMet l yL_pupil wsL_pupil ({ frames := 8, cells := 4, slots := 90, locals := 201 } : Room) de mi D cy (mset Mh o (eJ cy 1 g0)) sz [.ref a, .int x, .int y, .int (nI (b2 z)), .ref o] (wPost cy Mh o post postX [(xIO, 1), (xIA, 2), (xIS, 3)]) 4 90 := by
  refine wMet.of (cc := cL_pupil) (maxL := 6) (ret := some .int) (hh := [(0, 12, 15, 13), (0, 12, 19, 15), (0, 12, 23, 17)]) (by decide) rfl (Nat.le_of_ble_eq_true rfl) ?_
  intro p e s m args below meth c ls hsz hx hb hr hts hown hlocks hml htab hP hD hS hA hK hX hN hl
  have hown : s.vm.findClass RL = some m.cls := hown
  have hl : lv_has ls 6 [(0, .ref a), (1, .int x), (2, .int y), (3, .int (nI (b2 z))), (4, .ref o)] := hl
  have hPh := pm_out ho hP
  have hDh := mD_out hD
  have hAo : mA (mset Mh o (eJ cy 1 g0)) sz o := hD o (by rw [mset_self]; exact fun z => by cases z)
  refine lv_aload hx hb dL_pupil_0 (lv_at hl 4 rfl) ?_
  refine lv_iconst (v := nI 0) hx hb dL_pupil_2 (by decide) ?_
  refine lv_aload_n hx hb dL_pupil_3 rfl (lv_at hl 0 rfl) ?_
  refine lv_iload_n hx hb dL_pupil_4 rfl (lv_at hl 1 rfl) ?_
  refine lv_iload_n hx hb dL_pupil_5 rfl (lv_at hl 2 rfl) ?_
  refine lv_iload_n hx hb dL_pupil_6 rfl (lv_at hl 3 rfl) ?_
  refine w_calli (vx_runV (C := RX5) (As := [.int x, .int y, .int (nI (b2 z))]) (rest := [.int (nI 0), .ref o]) ⟨hx, hb, hml, hown, hts⟩ (hcal _) (cwV 3 hts gL_pupil_X5_pupil rfl rfl rfl (by decide +kernel) ⟨Nat.le_of_ble_eq_true rfl, Nat.le_of_ble_eq_true rfl⟩) (mPreXV hX hDh hS hA hK hPh ha (ci := 6) rfl) rfl rfl hl.1 rfl (lv_room (Nat.le_of_ble_eq_true rfl)) dL_pupil_7 ⟨Nat.le_of_ble_eq_true rfl, Nat.le_of_ble_eq_true rfl⟩) hDh hA hS (fun E ce q9 H1 locs1 hpx hP1 hS1 hz1 hk1 hce hcv hcl => ?_) (fun v M1 H1 locs1 hq9 hP1 hD1 hS1 hz1 hd1 hk1 => ?_)
  · obtain ⟨-, hPo⟩ := out_keep hP ho hP1 (fun q hq => Or.inl hq) hk1
    rcases hE E hpx with rfl | rfl | rfl
    · refine vx_catch (name := xIO) hown [] ⟨0, 12, 15, 13⟩ [⟨0, 12, 19, 15⟩, ⟨0, 12, 23, 17⟩] htab (fun z hz => absurd hz List.not_mem_nil) (by decide) (by decide) (hts _ (List.mem_of_getElem? (i := 1) rfl)) (va_Nw.use (cDW_tab _ (List.mem_of_getElem? (i := 3) rfl)) (hX.2.2.2.2.2.2.2.2.2 _ (List.mem_of_getElem? (i := 3) rfl))) hce hcv hcl ?_
      refine lv_astore (lv' := [(5, .ref q9), (0, .ref a), (1, .int x), (2, .int y), (3, .int (nI (b2 z))), (4, .ref o)]) hx hb dL_pupil_15 hl (by decide) rfl (fun ls hl => ?_)
      refine lv_iconst (v := nI 1) hx hb dL_pupil_17 (by decide) ?_
      exact vx_ret (e_wi hx hb hr hlocks hPo hD hS1 (Or.inr ⟨_, 1, g0, hpx, List.mem_of_getElem? (i := 0) rfl, rfl, rfl⟩) dL_pupil_18)
    · refine vx_catch (name := xIA) hown [⟨0, 12, 15, 13⟩] ⟨0, 12, 19, 15⟩ [⟨0, 12, 23, 17⟩] htab (fun z hz => by
      rcases List.mem_cons.mp hz with rfl | hz
      · exact Or.inr ⟨by decide, xIO, (hts _ (List.mem_of_getElem? (i := 1) rfl)), hN (xIA, xIO) (List.mem_of_getElem? (i := 2) rfl)⟩
      exact absurd hz List.not_mem_nil) (by decide) (by decide) (hts _ (List.mem_of_getElem? (i := 2) rfl)) (va_Nw.use (cDW_tab _ (List.mem_of_getElem? (i := 4) rfl)) (hX.2.2.2.2.2.2.2.2.2 _ (List.mem_of_getElem? (i := 4) rfl))) hce hcv hcl ?_
      refine lv_astore (lv' := [(5, .ref q9), (0, .ref a), (1, .int x), (2, .int y), (3, .int (nI (b2 z))), (4, .ref o)]) hx hb dL_pupil_19 hl (by decide) rfl (fun ls hl => ?_)
      refine lv_iconst (v := nI 2) hx hb dL_pupil_21 (by decide) ?_
      exact vx_ret (e_wi hx hb hr hlocks hPo hD hS1 (Or.inr ⟨_, 2, g0, hpx, List.mem_of_getElem? (i := 1) rfl, rfl, rfl⟩) dL_pupil_22)
    · refine vx_catch (name := xIS) hown [⟨0, 12, 15, 13⟩, ⟨0, 12, 19, 15⟩] ⟨0, 12, 23, 17⟩ [] htab (fun z hz => by
      rcases List.mem_cons.mp hz with rfl | hz
      · exact Or.inr ⟨by decide, xIO, (hts _ (List.mem_of_getElem? (i := 1) rfl)), hN (xIS, xIO) (List.mem_of_getElem? (i := 4) rfl)⟩
      rcases List.mem_cons.mp hz with rfl | hz
      · exact Or.inr ⟨by decide, xIA, (hts _ (List.mem_of_getElem? (i := 2) rfl)), hN (xIS, xIA) (List.mem_of_getElem? (i := 5) rfl)⟩
      exact absurd hz List.not_mem_nil) (by decide) (by decide) (hts _ (List.mem_of_getElem? (i := 3) rfl)) (va_Nw.use (cDW_tab _ (List.mem_of_getElem? (i := 5) rfl)) (hX.2.2.2.2.2.2.2.2.2 _ (List.mem_of_getElem? (i := 5) rfl))) hce hcv hcl ?_
      refine lv_astore (lv' := [(5, .ref q9), (0, .ref a), (1, .int x), (2, .int y), (3, .int (nI (b2 z))), (4, .ref o)]) hx hb dL_pupil_23 hl (by decide) rfl (fun ls hl => ?_)
      refine lv_iconst (v := nI 3) hx hb dL_pupil_25 (by decide) ?_
      exact vx_ret (e_wi hx hb hr hlocks hPo hD hS1 (Or.inr ⟨_, 3, g0, hpx, List.mem_of_getElem? (i := 2) rfl, rfl, rfl⟩) dL_pupil_26)
  · obtain ⟨ho1, hPo⟩ := out_keep hP ho hP1 hd1 hk1
    have hDo := hD1.set (a := o) (e := eJ cy 1 g0) hAo
    refine lv_i2l hx hb dL_pupil_10 rfl ?_
    refine n_jast (n := 1) (i := 0) hx hb hK hPo hDo hS1 (mset_self _ _ _) (by decide) (by decide) dL_pupil_11 (fun H2 locs2 hP2 hD2 hS2 => ?_)
    rw [mset_mset] at hP2 hD2
    refine lv_goto (tgt := 27) hx hb dL_pupil_12 (by decide) ?_
    refine lv_iconst (v := nI 0) hx hb dL_pupil_27 (by decide) ?_
    exact vx_ret (e_wi hx hb hr hlocks hP2 hD2 hS2 (Or.inl ⟨v, M1, _, hq9, ho1, rfl, va_up_self _ _ _, rfl⟩) dL_pupil_28)

set_option maxRecDepth 100000 in
set_option maxHeartbeats 4000000 in
theorem w_print (l : Launch) (de mi : Nat) (D : va_G) (cy : Nat → ClassId) (Mh : mM) (sz o a : Nat) (g0 : Nat → Int64) (fs : List Value) (x : Int32) (y : Bool) (z : Int32) (post : Int32 → mM → Prop) (postX : String → Prop) (ha : Mh a = some (.inr (6, fs))) (ho : Mh o = none) (hcal : ∀ sz : Nat, mVi l yX5_print wsX5_print ({ frames := 7, cells := 4, slots := 24, locals := 102 } : Room) de mi D cy Mh sz [.ref a, .int x, .int (nI (b2 y)), .int z] post postX 4 24) (hE : ∀ E, postX E → E = xIO ∨ E = xIA) : wMet l yL_print wsL_print ({ frames := 8, cells := 4, slots := 24, locals := 125 } : Room) de mi D cy (mset Mh o (eJ cy 1 g0)) sz [.ref a, .int x, .int (nI (b2 y)), .int z, .ref o] (wPost cy Mh o post postX [(xIO, 1), (xIA, 2)]) 4 24 := by
  refine wMet.of (cc := cL_print) (maxL := 6) (ret := some .int) (hh := [(0, 12, 15, 13), (0, 12, 19, 15)]) (by decide) rfl (Nat.le_of_ble_eq_true rfl) ?_
  intro p e s m args below meth c ls hsz hx hb hr hts hown hlocks hml htab hP hD hS hA hK hX hN hl
  have hown : s.vm.findClass RL = some m.cls := hown
  have hl : lv_has ls 6 [(0, .ref a), (1, .int x), (2, .int (nI (b2 y))), (3, .int z), (4, .ref o)] := hl
  have hPh := pm_out ho hP
  have hDh := mD_out hD
  have hAo : mA (mset Mh o (eJ cy 1 g0)) sz o := hD o (by rw [mset_self]; exact fun z => by cases z)
  refine lv_aload hx hb dL_print_0 (lv_at hl 4 rfl) ?_
  refine lv_iconst (v := nI 0) hx hb dL_print_2 (by decide) ?_
  refine lv_aload_n hx hb dL_print_3 rfl (lv_at hl 0 rfl) ?_
  refine lv_iload_n hx hb dL_print_4 rfl (lv_at hl 1 rfl) ?_
  refine lv_iload_n hx hb dL_print_5 rfl (lv_at hl 2 rfl) ?_
  refine lv_iload_n hx hb dL_print_6 rfl (lv_at hl 3 rfl) ?_
  refine w_calli (vx_runV (C := RX5) (As := [.int x, .int (nI (b2 y)), .int z]) (rest := [.int (nI 0), .ref o]) ⟨hx, hb, hml, hown, hts⟩ (hcal _) (cwV 3 hts gL_print_X5_print rfl rfl rfl (by decide +kernel) ⟨Nat.le_of_ble_eq_true rfl, Nat.le_of_ble_eq_true rfl⟩) (mPreXV hX hDh hS hA hK hPh ha (ci := 6) rfl) rfl rfl hl.1 rfl (lv_room (Nat.le_of_ble_eq_true rfl)) dL_print_7 ⟨Nat.le_of_ble_eq_true rfl, Nat.le_of_ble_eq_true rfl⟩) hDh hA hS (fun E ce q9 H1 locs1 hpx hP1 hS1 hz1 hk1 hce hcv hcl => ?_) (fun v M1 H1 locs1 hq9 hP1 hD1 hS1 hz1 hd1 hk1 => ?_)
  · obtain ⟨-, hPo⟩ := out_keep hP ho hP1 (fun q hq => Or.inl hq) hk1
    rcases hE E hpx with rfl | rfl
    · refine vx_catch (name := xIO) hown [] ⟨0, 12, 15, 13⟩ [⟨0, 12, 19, 15⟩] htab (fun z hz => absurd hz List.not_mem_nil) (by decide) (by decide) (hts _ (List.mem_of_getElem? (i := 1) rfl)) (va_Nw.use (cDW_tab _ (List.mem_of_getElem? (i := 3) rfl)) (hX.2.2.2.2.2.2.2.2.2 _ (List.mem_of_getElem? (i := 3) rfl))) hce hcv hcl ?_
      refine lv_astore (lv' := [(5, .ref q9), (0, .ref a), (1, .int x), (2, .int (nI (b2 y))), (3, .int z), (4, .ref o)]) hx hb dL_print_15 hl (by decide) rfl (fun ls hl => ?_)
      refine lv_iconst (v := nI 1) hx hb dL_print_17 (by decide) ?_
      exact vx_ret (e_wi hx hb hr hlocks hPo hD hS1 (Or.inr ⟨_, 1, g0, hpx, List.mem_of_getElem? (i := 0) rfl, rfl, rfl⟩) dL_print_18)
    · refine vx_catch (name := xIA) hown [⟨0, 12, 15, 13⟩] ⟨0, 12, 19, 15⟩ [] htab (fun z hz => by
      rcases List.mem_cons.mp hz with rfl | hz
      · exact Or.inr ⟨by decide, xIO, (hts _ (List.mem_of_getElem? (i := 1) rfl)), hN (xIA, xIO) (List.mem_of_getElem? (i := 2) rfl)⟩
      exact absurd hz List.not_mem_nil) (by decide) (by decide) (hts _ (List.mem_of_getElem? (i := 2) rfl)) (va_Nw.use (cDW_tab _ (List.mem_of_getElem? (i := 4) rfl)) (hX.2.2.2.2.2.2.2.2.2 _ (List.mem_of_getElem? (i := 4) rfl))) hce hcv hcl ?_
      refine lv_astore (lv' := [(5, .ref q9), (0, .ref a), (1, .int x), (2, .int (nI (b2 y))), (3, .int z), (4, .ref o)]) hx hb dL_print_19 hl (by decide) rfl (fun ls hl => ?_)
      refine lv_iconst (v := nI 2) hx hb dL_print_21 (by decide) ?_
      exact vx_ret (e_wi hx hb hr hlocks hPo hD hS1 (Or.inr ⟨_, 2, g0, hpx, List.mem_of_getElem? (i := 1) rfl, rfl, rfl⟩) dL_print_22)
  · obtain ⟨ho1, hPo⟩ := out_keep hP ho hP1 hd1 hk1
    have hDo := hD1.set (a := o) (e := eJ cy 1 g0) hAo
    refine lv_i2l hx hb dL_print_10 rfl ?_
    refine n_jast (n := 1) (i := 0) hx hb hK hPo hDo hS1 (mset_self _ _ _) (by decide) (by decide) dL_print_11 (fun H2 locs2 hP2 hD2 hS2 => ?_)
    rw [mset_mset] at hP2 hD2
    refine lv_goto (tgt := 23) hx hb dL_print_12 (by decide) ?_
    refine lv_iconst (v := nI 0) hx hb dL_print_23 (by decide) ?_
    exact vx_ret (e_wi hx hb hr hlocks hP2 hD2 hS2 (Or.inl ⟨v, M1, _, hq9, ho1, rfl, va_up_self _ _ _, rfl⟩) dL_print_24)

set_option maxRecDepth 100000 in
set_option maxHeartbeats 4000000 in
theorem w_sheets (l : Launch) (de mi : Nat) (D : va_G) (cy : Nat → ClassId) (Mh : mM) (sz o a : Nat) (g0 : Nat → Int64) (fs : List Value) (x : Int32) (y : Bool) (post : Int32 → mM → Prop) (postX : String → Prop) (ha : Mh a = some (.inr (6, fs))) (ho : Mh o = none) (hcal : ∀ sz : Nat, mVi l yX5_sheets wsX5_sheets ({ frames := 7, cells := 1, slots := 6, locals := 102 } : Room) de mi D cy Mh sz [.ref a, .int x, .int (nI (b2 y))] post postX 1 6) (hE : ∀ E, postX E → E = xIO) : wMet l yL_sheets wsL_sheets ({ frames := 8, cells := 1, slots := 6, locals := 124 } : Room) de mi D cy (mset Mh o (eJ cy 1 g0)) sz [.ref a, .int x, .int (nI (b2 y)), .ref o] (wPost cy Mh o post postX [(xIO, 1)]) 1 6 := by
  refine wMet.of (cc := cL_sheets) (maxL := 5) (ret := some .int) (hh := [(0, 10, 13, 13)]) (by decide) rfl (Nat.le_of_ble_eq_true rfl) ?_
  intro p e s m args below meth c ls hsz hx hb hr hts hown hlocks hml htab hP hD hS hA hK hX hN hl
  have hown : s.vm.findClass RL = some m.cls := hown
  have hl : lv_has ls 5 [(0, .ref a), (1, .int x), (2, .int (nI (b2 y))), (3, .ref o)] := hl
  have hPh := pm_out ho hP
  have hDh := mD_out hD
  have hAo : mA (mset Mh o (eJ cy 1 g0)) sz o := hD o (by rw [mset_self]; exact fun z => by cases z)
  refine lv_aload_n hx hb dL_sheets_0 rfl (lv_at hl 3 rfl) ?_
  refine lv_iconst (v := nI 0) hx hb dL_sheets_1 (by decide) ?_
  refine lv_aload_n hx hb dL_sheets_2 rfl (lv_at hl 0 rfl) ?_
  refine lv_iload_n hx hb dL_sheets_3 rfl (lv_at hl 1 rfl) ?_
  refine lv_iload_n hx hb dL_sheets_4 rfl (lv_at hl 2 rfl) ?_
  refine w_calli (vx_runV (C := RX5) (As := [.int x, .int (nI (b2 y))]) (rest := [.int (nI 0), .ref o]) ⟨hx, hb, hml, hown, hts⟩ (hcal _) (cwV 2 hts gL_sheets_X5_sheets rfl rfl rfl (by decide +kernel) ⟨Nat.le_of_ble_eq_true rfl, Nat.le_of_ble_eq_true rfl⟩) (mPreXV hX hDh hS hA hK hPh ha (ci := 6) rfl) rfl rfl hl.1 rfl (lv_room (Nat.le_of_ble_eq_true rfl)) dL_sheets_5 ⟨Nat.le_of_ble_eq_true rfl, Nat.le_of_ble_eq_true rfl⟩) hDh hA hS (fun E ce q9 H1 locs1 hpx hP1 hS1 hz1 hk1 hce hcv hcl => ?_) (fun v M1 H1 locs1 hq9 hP1 hD1 hS1 hz1 hd1 hk1 => ?_)
  · obtain ⟨-, hPo⟩ := out_keep hP ho hP1 (fun q hq => Or.inl hq) hk1
    rcases hE E hpx with rfl
    · refine vx_catch (name := xIO) hown [] ⟨0, 10, 13, 13⟩ [] htab (fun z hz => absurd hz List.not_mem_nil) (by decide) (by decide) (hts _ (List.mem_of_getElem? (i := 1) rfl)) (va_Nw.use (cDW_tab _ (List.mem_of_getElem? (i := 3) rfl)) (hX.2.2.2.2.2.2.2.2.2 _ (List.mem_of_getElem? (i := 3) rfl))) hce hcv hcl ?_
      refine lv_astore (lv' := [(4, .ref q9), (0, .ref a), (1, .int x), (2, .int (nI (b2 y))), (3, .ref o)]) hx hb dL_sheets_13 hl (by decide) rfl (fun ls hl => ?_)
      refine lv_iconst (v := nI 1) hx hb dL_sheets_15 (by decide) ?_
      exact vx_ret (e_wi hx hb hr hlocks hPo hD hS1 (Or.inr ⟨_, 1, g0, hpx, List.mem_of_getElem? (i := 0) rfl, rfl, rfl⟩) dL_sheets_16)
  · obtain ⟨ho1, hPo⟩ := out_keep hP ho hP1 hd1 hk1
    have hDo := hD1.set (a := o) (e := eJ cy 1 g0) hAo
    refine lv_i2l hx hb dL_sheets_8 rfl ?_
    refine n_jast (n := 1) (i := 0) hx hb hK hPo hDo hS1 (mset_self _ _ _) (by decide) (by decide) dL_sheets_9 (fun H2 locs2 hP2 hD2 hS2 => ?_)
    rw [mset_mset] at hP2 hD2
    refine lv_goto (tgt := 17) hx hb dL_sheets_10 (by decide) ?_
    refine lv_iconst (v := nI 0) hx hb dL_sheets_17 (by decide) ?_
    exact vx_ret (e_wi hx hb hr hlocks hP2 hD2 hS2 (Or.inl ⟨v, M1, _, hq9, ho1, rfl, va_up_self _ _ _, rfl⟩) dL_sheets_18)

set_option maxRecDepth 100000 in
set_option maxHeartbeats 4000000 in
theorem w_write (l : Launch) (de mi : Nat) (D : va_G) (cy : Nat → ClassId) (Mh : mM) (sz o a : Nat) (g0 : Nat → Int64) (fs : List Value) (x : Int32) (y : Int32) (post : Int32 → mM → Prop) (postX : String → Prop) (ha : Mh a = some (.inr (6, fs))) (ho : Mh o = none) (hcal : ∀ sz : Nat, mVi l yX5_write wsX5_write ({ frames := 7, cells := 12, slots := 120, locals := 178 } : Room) de mi D cy Mh sz [.ref a, .int x, .int y] post postX 12 120) (hE : ∀ E, postX E → E = xIO ∨ E = xIS) : wMet l yL_write wsL_write ({ frames := 8, cells := 12, slots := 120, locals := 204 } : Room) de mi D cy (mset Mh o (eJ cy 1 g0)) sz [.ref a, .int x, .int y, .ref o] (wPost cy Mh o post postX [(xIO, 1), (xIS, 2)]) 12 120 := by
  refine wMet.of (cc := cL_write) (maxL := 5) (ret := some .int) (hh := [(0, 10, 13, 13), (0, 10, 17, 17)]) (by decide) rfl (Nat.le_of_ble_eq_true rfl) ?_
  intro p e s m args below meth c ls hsz hx hb hr hts hown hlocks hml htab hP hD hS hA hK hX hN hl
  have hown : s.vm.findClass RL = some m.cls := hown
  have hl : lv_has ls 5 [(0, .ref a), (1, .int x), (2, .int y), (3, .ref o)] := hl
  have hPh := pm_out ho hP
  have hDh := mD_out hD
  have hAo : mA (mset Mh o (eJ cy 1 g0)) sz o := hD o (by rw [mset_self]; exact fun z => by cases z)
  refine lv_aload_n hx hb dL_write_0 rfl (lv_at hl 3 rfl) ?_
  refine lv_iconst (v := nI 0) hx hb dL_write_1 (by decide) ?_
  refine lv_aload_n hx hb dL_write_2 rfl (lv_at hl 0 rfl) ?_
  refine lv_iload_n hx hb dL_write_3 rfl (lv_at hl 1 rfl) ?_
  refine lv_iload_n hx hb dL_write_4 rfl (lv_at hl 2 rfl) ?_
  refine w_calli (vx_runV (C := RX5) (As := [.int x, .int y]) (rest := [.int (nI 0), .ref o]) ⟨hx, hb, hml, hown, hts⟩ (hcal _) (cwV 2 hts gL_write_X5_write rfl rfl rfl (by decide +kernel) ⟨Nat.le_of_ble_eq_true rfl, Nat.le_of_ble_eq_true rfl⟩) (mPreXV hX hDh hS hA hK hPh ha (ci := 6) rfl) rfl rfl hl.1 rfl (lv_room (Nat.le_of_ble_eq_true rfl)) dL_write_5 ⟨Nat.le_of_ble_eq_true rfl, Nat.le_of_ble_eq_true rfl⟩) hDh hA hS (fun E ce q9 H1 locs1 hpx hP1 hS1 hz1 hk1 hce hcv hcl => ?_) (fun v M1 H1 locs1 hq9 hP1 hD1 hS1 hz1 hd1 hk1 => ?_)
  · obtain ⟨-, hPo⟩ := out_keep hP ho hP1 (fun q hq => Or.inl hq) hk1
    rcases hE E hpx with rfl | rfl
    · refine vx_catch (name := xIO) hown [] ⟨0, 10, 13, 13⟩ [⟨0, 10, 17, 17⟩] htab (fun z hz => absurd hz List.not_mem_nil) (by decide) (by decide) (hts _ (List.mem_of_getElem? (i := 1) rfl)) (va_Nw.use (cDW_tab _ (List.mem_of_getElem? (i := 3) rfl)) (hX.2.2.2.2.2.2.2.2.2 _ (List.mem_of_getElem? (i := 3) rfl))) hce hcv hcl ?_
      refine lv_astore (lv' := [(4, .ref q9), (0, .ref a), (1, .int x), (2, .int y), (3, .ref o)]) hx hb dL_write_13 hl (by decide) rfl (fun ls hl => ?_)
      refine lv_iconst (v := nI 1) hx hb dL_write_15 (by decide) ?_
      exact vx_ret (e_wi hx hb hr hlocks hPo hD hS1 (Or.inr ⟨_, 1, g0, hpx, List.mem_of_getElem? (i := 0) rfl, rfl, rfl⟩) dL_write_16)
    · refine vx_catch (name := xIS) hown [⟨0, 10, 13, 13⟩] ⟨0, 10, 17, 17⟩ [] htab (fun z hz => by
      rcases List.mem_cons.mp hz with rfl | hz
      · exact Or.inr ⟨by decide, xIO, (hts _ (List.mem_of_getElem? (i := 1) rfl)), hN (xIS, xIO) (List.mem_of_getElem? (i := 4) rfl)⟩
      exact absurd hz List.not_mem_nil) (by decide) (by decide) (hts _ (List.mem_of_getElem? (i := 2) rfl)) (va_Nw.use (cDW_tab _ (List.mem_of_getElem? (i := 5) rfl)) (hX.2.2.2.2.2.2.2.2.2 _ (List.mem_of_getElem? (i := 5) rfl))) hce hcv hcl ?_
      refine lv_astore (lv' := [(4, .ref q9), (0, .ref a), (1, .int x), (2, .int y), (3, .ref o)]) hx hb dL_write_17 hl (by decide) rfl (fun ls hl => ?_)
      refine lv_iconst (v := nI 2) hx hb dL_write_19 (by decide) ?_
      exact vx_ret (e_wi hx hb hr hlocks hPo hD hS1 (Or.inr ⟨_, 2, g0, hpx, List.mem_of_getElem? (i := 1) rfl, rfl, rfl⟩) dL_write_20)
  · obtain ⟨ho1, hPo⟩ := out_keep hP ho hP1 hd1 hk1
    have hDo := hD1.set (a := o) (e := eJ cy 1 g0) hAo
    refine lv_i2l hx hb dL_write_8 rfl ?_
    refine n_jast (n := 1) (i := 0) hx hb hK hPo hDo hS1 (mset_self _ _ _) (by decide) (by decide) dL_write_9 (fun H2 locs2 hP2 hD2 hS2 => ?_)
    rw [mset_mset] at hP2 hD2
    refine lv_goto (tgt := 21) hx hb dL_write_10 (by decide) ?_
    refine lv_iconst (v := nI 0) hx hb dL_write_21 (by decide) ?_
    exact vx_ret (e_wi hx hb hr hlocks hP2 hD2 hS2 (Or.inl ⟨v, M1, _, hq9, ho1, rfl, va_up_self _ _ _, rfl⟩) dL_write_22)

set_option maxRecDepth 100000 in
set_option maxHeartbeats 4000000 in
theorem w_slips (l : Launch) (de mi : Nat) (D : va_G) (cy : Nat → ClassId) (Mh : mM) (sz o a : Nat) (g0 : Nat → Int64) (fs : List Value) (x : Int32) (y : Int32) (post : Int32 → mM → Prop) (postX : String → Prop) (ha : Mh a = some (.inr (6, fs))) (ho : Mh o = none) (hcal : ∀ sz : Nat, mVi l yX5_slips wsX5_slips ({ frames := 7, cells := 4, slots := 24, locals := 103 } : Room) de mi D cy Mh sz [.ref a, .int x, .int y] post postX 4 24) (hE : ∀ E, postX E → E = xIO ∨ E = xIA) : wMet l yL_slips wsL_slips ({ frames := 8, cells := 4, slots := 24, locals := 126 } : Room) de mi D cy (mset Mh o (eJ cy 1 g0)) sz [.ref a, .int x, .int y, .ref o] (wPost cy Mh o post postX [(xIO, 1), (xIA, 2)]) 4 24 := by
  refine wMet.of (cc := cL_slips) (maxL := 5) (ret := some .int) (hh := [(0, 10, 13, 13), (0, 10, 17, 15)]) (by decide) rfl (Nat.le_of_ble_eq_true rfl) ?_
  intro p e s m args below meth c ls hsz hx hb hr hts hown hlocks hml htab hP hD hS hA hK hX hN hl
  have hown : s.vm.findClass RL = some m.cls := hown
  have hl : lv_has ls 5 [(0, .ref a), (1, .int x), (2, .int y), (3, .ref o)] := hl
  have hPh := pm_out ho hP
  have hDh := mD_out hD
  have hAo : mA (mset Mh o (eJ cy 1 g0)) sz o := hD o (by rw [mset_self]; exact fun z => by cases z)
  refine lv_aload_n hx hb dL_slips_0 rfl (lv_at hl 3 rfl) ?_
  refine lv_iconst (v := nI 0) hx hb dL_slips_1 (by decide) ?_
  refine lv_aload_n hx hb dL_slips_2 rfl (lv_at hl 0 rfl) ?_
  refine lv_iload_n hx hb dL_slips_3 rfl (lv_at hl 1 rfl) ?_
  refine lv_iload_n hx hb dL_slips_4 rfl (lv_at hl 2 rfl) ?_
  refine w_calli (vx_runV (C := RX5) (As := [.int x, .int y]) (rest := [.int (nI 0), .ref o]) ⟨hx, hb, hml, hown, hts⟩ (hcal _) (cwV 2 hts gL_slips_X5_slips rfl rfl rfl (by decide +kernel) ⟨Nat.le_of_ble_eq_true rfl, Nat.le_of_ble_eq_true rfl⟩) (mPreXV hX hDh hS hA hK hPh ha (ci := 6) rfl) rfl rfl hl.1 rfl (lv_room (Nat.le_of_ble_eq_true rfl)) dL_slips_5 ⟨Nat.le_of_ble_eq_true rfl, Nat.le_of_ble_eq_true rfl⟩) hDh hA hS (fun E ce q9 H1 locs1 hpx hP1 hS1 hz1 hk1 hce hcv hcl => ?_) (fun v M1 H1 locs1 hq9 hP1 hD1 hS1 hz1 hd1 hk1 => ?_)
  · obtain ⟨-, hPo⟩ := out_keep hP ho hP1 (fun q hq => Or.inl hq) hk1
    rcases hE E hpx with rfl | rfl
    · refine vx_catch (name := xIO) hown [] ⟨0, 10, 13, 13⟩ [⟨0, 10, 17, 15⟩] htab (fun z hz => absurd hz List.not_mem_nil) (by decide) (by decide) (hts _ (List.mem_of_getElem? (i := 1) rfl)) (va_Nw.use (cDW_tab _ (List.mem_of_getElem? (i := 3) rfl)) (hX.2.2.2.2.2.2.2.2.2 _ (List.mem_of_getElem? (i := 3) rfl))) hce hcv hcl ?_
      refine lv_astore (lv' := [(4, .ref q9), (0, .ref a), (1, .int x), (2, .int y), (3, .ref o)]) hx hb dL_slips_13 hl (by decide) rfl (fun ls hl => ?_)
      refine lv_iconst (v := nI 1) hx hb dL_slips_15 (by decide) ?_
      exact vx_ret (e_wi hx hb hr hlocks hPo hD hS1 (Or.inr ⟨_, 1, g0, hpx, List.mem_of_getElem? (i := 0) rfl, rfl, rfl⟩) dL_slips_16)
    · refine vx_catch (name := xIA) hown [⟨0, 10, 13, 13⟩] ⟨0, 10, 17, 15⟩ [] htab (fun z hz => by
      rcases List.mem_cons.mp hz with rfl | hz
      · exact Or.inr ⟨by decide, xIO, (hts _ (List.mem_of_getElem? (i := 1) rfl)), hN (xIA, xIO) (List.mem_of_getElem? (i := 2) rfl)⟩
      exact absurd hz List.not_mem_nil) (by decide) (by decide) (hts _ (List.mem_of_getElem? (i := 2) rfl)) (va_Nw.use (cDW_tab _ (List.mem_of_getElem? (i := 4) rfl)) (hX.2.2.2.2.2.2.2.2.2 _ (List.mem_of_getElem? (i := 4) rfl))) hce hcv hcl ?_
      refine lv_astore (lv' := [(4, .ref q9), (0, .ref a), (1, .int x), (2, .int y), (3, .ref o)]) hx hb dL_slips_17 hl (by decide) rfl (fun ls hl => ?_)
      refine lv_iconst (v := nI 2) hx hb dL_slips_19 (by decide) ?_
      exact vx_ret (e_wi hx hb hr hlocks hPo hD hS1 (Or.inr ⟨_, 2, g0, hpx, List.mem_of_getElem? (i := 1) rfl, rfl, rfl⟩) dL_slips_20)
  · obtain ⟨ho1, hPo⟩ := out_keep hP ho hP1 hd1 hk1
    have hDo := hD1.set (a := o) (e := eJ cy 1 g0) hAo
    refine lv_i2l hx hb dL_slips_8 rfl ?_
    refine n_jast (n := 1) (i := 0) hx hb hK hPo hDo hS1 (mset_self _ _ _) (by decide) (by decide) dL_slips_9 (fun H2 locs2 hP2 hD2 hS2 => ?_)
    rw [mset_mset] at hP2 hD2
    refine lv_goto (tgt := 21) hx hb dL_slips_10 (by decide) ?_
    refine lv_iconst (v := nI 0) hx hb dL_slips_21 (by decide) ?_
    exact vx_ret (e_wi hx hb hr hlocks hP2 hD2 hS2 (Or.inl ⟨v, M1, _, hq9, ho1, rfl, va_up_self _ _ _, rfl⟩) dL_slips_22)

set_option maxRecDepth 100000 in
set_option maxHeartbeats 4000000 in
theorem w_orderAnew (l : Launch) (de mi : Nat) (D : va_G) (cy : Nat → ClassId) (Mh : mM) (sz o a : Nat) (g0 : Nat → Int64) (fs : List Value) (x : Int32) (post : Int32 → mM → Prop) (postX : String → Prop) (ha : Mh a = some (.inr (6, fs))) (ho : Mh o = none) (hcal : ∀ sz : Nat, mVi l yX5_orderAnew wsX5_orderAnew ({ frames := 7, cells := 1, slots := 6, locals := 103 } : Room) de mi D cy Mh sz [.ref a, .int x] post postX 1 6) (hE : ∀ E, postX E → E = xIO) : wMet l yL_orderAnew wsL_orderAnew ({ frames := 8, cells := 1, slots := 6, locals := 124 } : Room) de mi D cy (mset Mh o (eJ cy 1 g0)) sz [.ref a, .int x, .ref o] (wPost cy Mh o post postX [(xIO, 1)]) 1 6 := by
  refine wMet.of (cc := cL_orderAnew) (maxL := 4) (ret := some .int) (hh := [(0, 9, 12, 13)]) (by decide) rfl (Nat.le_of_ble_eq_true rfl) ?_
  intro p e s m args below meth c ls hsz hx hb hr hts hown hlocks hml htab hP hD hS hA hK hX hN hl
  have hown : s.vm.findClass RL = some m.cls := hown
  have hl : lv_has ls 4 [(0, .ref a), (1, .int x), (2, .ref o)] := hl
  have hPh := pm_out ho hP
  have hDh := mD_out hD
  have hAo : mA (mset Mh o (eJ cy 1 g0)) sz o := hD o (by rw [mset_self]; exact fun z => by cases z)
  refine lv_aload_n hx hb dL_orderAnew_0 rfl (lv_at hl 2 rfl) ?_
  refine lv_iconst (v := nI 0) hx hb dL_orderAnew_1 (by decide) ?_
  refine lv_aload_n hx hb dL_orderAnew_2 rfl (lv_at hl 0 rfl) ?_
  refine lv_iload_n hx hb dL_orderAnew_3 rfl (lv_at hl 1 rfl) ?_
  refine w_calli (vx_runV (C := RX5) (As := [.int x]) (rest := [.int (nI 0), .ref o]) ⟨hx, hb, hml, hown, hts⟩ (hcal _) (cwV 1 hts gL_orderAnew_X5_orderAnew rfl rfl rfl (by decide +kernel) ⟨Nat.le_of_ble_eq_true rfl, Nat.le_of_ble_eq_true rfl⟩) (mPreXV hX hDh hS hA hK hPh ha (ci := 6) rfl) rfl rfl hl.1 rfl (lv_room (Nat.le_of_ble_eq_true rfl)) dL_orderAnew_4 ⟨Nat.le_of_ble_eq_true rfl, Nat.le_of_ble_eq_true rfl⟩) hDh hA hS (fun E ce q9 H1 locs1 hpx hP1 hS1 hz1 hk1 hce hcv hcl => ?_) (fun v M1 H1 locs1 hq9 hP1 hD1 hS1 hz1 hd1 hk1 => ?_)
  · obtain ⟨-, hPo⟩ := out_keep hP ho hP1 (fun q hq => Or.inl hq) hk1
    rcases hE E hpx with rfl
    · refine vx_catch (name := xIO) hown [] ⟨0, 9, 12, 13⟩ [] htab (fun z hz => absurd hz List.not_mem_nil) (by decide) (by decide) (hts _ (List.mem_of_getElem? (i := 1) rfl)) (va_Nw.use (cDW_tab _ (List.mem_of_getElem? (i := 3) rfl)) (hX.2.2.2.2.2.2.2.2.2 _ (List.mem_of_getElem? (i := 3) rfl))) hce hcv hcl ?_
      refine lv_astore_n (lv' := [(3, .ref q9), (0, .ref a), (1, .int x), (2, .ref o)]) hx hb dL_orderAnew_12 rfl hl (by decide) rfl (fun ls hl => ?_)
      refine lv_iconst (v := nI 1) hx hb dL_orderAnew_13 (by decide) ?_
      exact vx_ret (e_wi hx hb hr hlocks hPo hD hS1 (Or.inr ⟨_, 1, g0, hpx, List.mem_of_getElem? (i := 0) rfl, rfl, rfl⟩) dL_orderAnew_14)
  · obtain ⟨ho1, hPo⟩ := out_keep hP ho hP1 hd1 hk1
    have hDo := hD1.set (a := o) (e := eJ cy 1 g0) hAo
    refine lv_i2l hx hb dL_orderAnew_7 rfl ?_
    refine n_jast (n := 1) (i := 0) hx hb hK hPo hDo hS1 (mset_self _ _ _) (by decide) (by decide) dL_orderAnew_8 (fun H2 locs2 hP2 hD2 hS2 => ?_)
    rw [mset_mset] at hP2 hD2
    refine lv_goto (tgt := 15) hx hb dL_orderAnew_9 (by decide) ?_
    refine lv_iconst (v := nI 0) hx hb dL_orderAnew_15 (by decide) ?_
    exact vx_ret (e_wi hx hb hr hlocks hP2 hD2 hS2 (Or.inl ⟨v, M1, _, hq9, ho1, rfl, va_up_self _ _ _, rfl⟩) dL_orderAnew_16)

set_option maxRecDepth 100000 in
set_option maxHeartbeats 4000000 in
theorem w_mark (l : Launch) (de mi : Nat) (D : va_G) (cy : Nat → ClassId) (Mh : mM) (sz o a : Nat) (g0 : Nat → Int64) (fs : List Value) (x : Int32) (y : Int32) (z : Int32) (post : Int32 → mM → Prop) (postX : String → Prop) (ha : Mh a = some (.inr (6, fs))) (ho : Mh o = none) (hcal : ∀ sz : Nat, mVi l yX5_mark wsX5_mark ({ frames := 7, cells := 4, slots := 24, locals := 103 } : Room) de mi D cy Mh sz [.ref a, .int x, .int y, .int z] post postX 4 24) (hE : ∀ E, postX E → E = xIO ∨ E = xIA ∨ E = xIS) : wMet l yL_mark wsL_mark ({ frames := 8, cells := 4, slots := 24, locals := 127 } : Room) de mi D cy (mset Mh o (eJ cy 1 g0)) sz [.ref a, .int x, .int y, .int z, .ref o] (wPost cy Mh o post postX [(xIO, 1), (xIA, 2), (xIS, 3)]) 4 24 := by
  refine wMet.of (cc := cL_mark) (maxL := 6) (ret := some .int) (hh := [(0, 12, 15, 13), (0, 12, 19, 15), (0, 12, 23, 17)]) (by decide) rfl (Nat.le_of_ble_eq_true rfl) ?_
  intro p e s m args below meth c ls hsz hx hb hr hts hown hlocks hml htab hP hD hS hA hK hX hN hl
  have hown : s.vm.findClass RL = some m.cls := hown
  have hl : lv_has ls 6 [(0, .ref a), (1, .int x), (2, .int y), (3, .int z), (4, .ref o)] := hl
  have hPh := pm_out ho hP
  have hDh := mD_out hD
  have hAo : mA (mset Mh o (eJ cy 1 g0)) sz o := hD o (by rw [mset_self]; exact fun z => by cases z)
  refine lv_aload hx hb dL_mark_0 (lv_at hl 4 rfl) ?_
  refine lv_iconst (v := nI 0) hx hb dL_mark_2 (by decide) ?_
  refine lv_aload_n hx hb dL_mark_3 rfl (lv_at hl 0 rfl) ?_
  refine lv_iload_n hx hb dL_mark_4 rfl (lv_at hl 1 rfl) ?_
  refine lv_iload_n hx hb dL_mark_5 rfl (lv_at hl 2 rfl) ?_
  refine lv_iload_n hx hb dL_mark_6 rfl (lv_at hl 3 rfl) ?_
  refine w_calli (vx_runV (C := RX5) (As := [.int x, .int y, .int z]) (rest := [.int (nI 0), .ref o]) ⟨hx, hb, hml, hown, hts⟩ (hcal _) (cwV 3 hts gL_mark_X5_mark rfl rfl rfl (by decide +kernel) ⟨Nat.le_of_ble_eq_true rfl, Nat.le_of_ble_eq_true rfl⟩) (mPreXV hX hDh hS hA hK hPh ha (ci := 6) rfl) rfl rfl hl.1 rfl (lv_room (Nat.le_of_ble_eq_true rfl)) dL_mark_7 ⟨Nat.le_of_ble_eq_true rfl, Nat.le_of_ble_eq_true rfl⟩) hDh hA hS (fun E ce q9 H1 locs1 hpx hP1 hS1 hz1 hk1 hce hcv hcl => ?_) (fun v M1 H1 locs1 hq9 hP1 hD1 hS1 hz1 hd1 hk1 => ?_)
  · obtain ⟨-, hPo⟩ := out_keep hP ho hP1 (fun q hq => Or.inl hq) hk1
    rcases hE E hpx with rfl | rfl | rfl
    · refine vx_catch (name := xIO) hown [] ⟨0, 12, 15, 13⟩ [⟨0, 12, 19, 15⟩, ⟨0, 12, 23, 17⟩] htab (fun z hz => absurd hz List.not_mem_nil) (by decide) (by decide) (hts _ (List.mem_of_getElem? (i := 1) rfl)) (va_Nw.use (cDW_tab _ (List.mem_of_getElem? (i := 3) rfl)) (hX.2.2.2.2.2.2.2.2.2 _ (List.mem_of_getElem? (i := 3) rfl))) hce hcv hcl ?_
      refine lv_astore (lv' := [(5, .ref q9), (0, .ref a), (1, .int x), (2, .int y), (3, .int z), (4, .ref o)]) hx hb dL_mark_15 hl (by decide) rfl (fun ls hl => ?_)
      refine lv_iconst (v := nI 1) hx hb dL_mark_17 (by decide) ?_
      exact vx_ret (e_wi hx hb hr hlocks hPo hD hS1 (Or.inr ⟨_, 1, g0, hpx, List.mem_of_getElem? (i := 0) rfl, rfl, rfl⟩) dL_mark_18)
    · refine vx_catch (name := xIA) hown [⟨0, 12, 15, 13⟩] ⟨0, 12, 19, 15⟩ [⟨0, 12, 23, 17⟩] htab (fun z hz => by
      rcases List.mem_cons.mp hz with rfl | hz
      · exact Or.inr ⟨by decide, xIO, (hts _ (List.mem_of_getElem? (i := 1) rfl)), hN (xIA, xIO) (List.mem_of_getElem? (i := 2) rfl)⟩
      exact absurd hz List.not_mem_nil) (by decide) (by decide) (hts _ (List.mem_of_getElem? (i := 2) rfl)) (va_Nw.use (cDW_tab _ (List.mem_of_getElem? (i := 4) rfl)) (hX.2.2.2.2.2.2.2.2.2 _ (List.mem_of_getElem? (i := 4) rfl))) hce hcv hcl ?_
      refine lv_astore (lv' := [(5, .ref q9), (0, .ref a), (1, .int x), (2, .int y), (3, .int z), (4, .ref o)]) hx hb dL_mark_19 hl (by decide) rfl (fun ls hl => ?_)
      refine lv_iconst (v := nI 2) hx hb dL_mark_21 (by decide) ?_
      exact vx_ret (e_wi hx hb hr hlocks hPo hD hS1 (Or.inr ⟨_, 2, g0, hpx, List.mem_of_getElem? (i := 1) rfl, rfl, rfl⟩) dL_mark_22)
    · refine vx_catch (name := xIS) hown [⟨0, 12, 15, 13⟩, ⟨0, 12, 19, 15⟩] ⟨0, 12, 23, 17⟩ [] htab (fun z hz => by
      rcases List.mem_cons.mp hz with rfl | hz
      · exact Or.inr ⟨by decide, xIO, (hts _ (List.mem_of_getElem? (i := 1) rfl)), hN (xIS, xIO) (List.mem_of_getElem? (i := 4) rfl)⟩
      rcases List.mem_cons.mp hz with rfl | hz
      · exact Or.inr ⟨by decide, xIA, (hts _ (List.mem_of_getElem? (i := 2) rfl)), hN (xIS, xIA) (List.mem_of_getElem? (i := 5) rfl)⟩
      exact absurd hz List.not_mem_nil) (by decide) (by decide) (hts _ (List.mem_of_getElem? (i := 3) rfl)) (va_Nw.use (cDW_tab _ (List.mem_of_getElem? (i := 5) rfl)) (hX.2.2.2.2.2.2.2.2.2 _ (List.mem_of_getElem? (i := 5) rfl))) hce hcv hcl ?_
      refine lv_astore (lv' := [(5, .ref q9), (0, .ref a), (1, .int x), (2, .int y), (3, .int z), (4, .ref o)]) hx hb dL_mark_23 hl (by decide) rfl (fun ls hl => ?_)
      refine lv_iconst (v := nI 3) hx hb dL_mark_25 (by decide) ?_
      exact vx_ret (e_wi hx hb hr hlocks hPo hD hS1 (Or.inr ⟨_, 3, g0, hpx, List.mem_of_getElem? (i := 2) rfl, rfl, rfl⟩) dL_mark_26)
  · obtain ⟨ho1, hPo⟩ := out_keep hP ho hP1 hd1 hk1
    have hDo := hD1.set (a := o) (e := eJ cy 1 g0) hAo
    refine lv_i2l hx hb dL_mark_10 rfl ?_
    refine n_jast (n := 1) (i := 0) hx hb hK hPo hDo hS1 (mset_self _ _ _) (by decide) (by decide) dL_mark_11 (fun H2 locs2 hP2 hD2 hS2 => ?_)
    rw [mset_mset] at hP2 hD2
    refine lv_goto (tgt := 27) hx hb dL_mark_12 (by decide) ?_
    refine lv_iconst (v := nI 0) hx hb dL_mark_27 (by decide) ?_
    exact vx_ret (e_wi hx hb hr hlocks hP2 hD2 hS2 (Or.inl ⟨v, M1, _, hq9, ho1, rfl, va_up_self _ _ _, rfl⟩) dL_mark_28)

set_option maxRecDepth 100000 in
set_option maxHeartbeats 4000000 in
theorem w_grade (l : Launch) (de mi : Nat) (D : va_G) (cy : Nat → ClassId) (Mh : mM) (sz o a : Nat) (g0 : Nat → Int64) (fs : List Value) (x : Int32) (post : Int32 → mM → Prop) (postX : String → Prop) (ha : Mh a = some (.inr (6, fs))) (ho : Mh o = none) (hcal : ∀ sz : Nat, mVi l yX5_grade wsX5_grade ({ frames := 7, cells := 1, slots := 6, locals := 103 } : Room) de mi D cy Mh sz [.ref a, .int x] post postX 1 6) (hE : ∀ E, postX E → E = xIO) : wMet l yL_grade wsL_grade ({ frames := 8, cells := 1, slots := 6, locals := 124 } : Room) de mi D cy (mset Mh o (eJ cy 1 g0)) sz [.ref a, .int x, .ref o] (wPost cy Mh o post postX [(xIO, 1)]) 1 6 := by
  refine wMet.of (cc := cL_grade) (maxL := 4) (ret := some .int) (hh := [(0, 9, 12, 13)]) (by decide) rfl (Nat.le_of_ble_eq_true rfl) ?_
  intro p e s m args below meth c ls hsz hx hb hr hts hown hlocks hml htab hP hD hS hA hK hX hN hl
  have hown : s.vm.findClass RL = some m.cls := hown
  have hl : lv_has ls 4 [(0, .ref a), (1, .int x), (2, .ref o)] := hl
  have hPh := pm_out ho hP
  have hDh := mD_out hD
  have hAo : mA (mset Mh o (eJ cy 1 g0)) sz o := hD o (by rw [mset_self]; exact fun z => by cases z)
  refine lv_aload_n hx hb dL_grade_0 rfl (lv_at hl 2 rfl) ?_
  refine lv_iconst (v := nI 0) hx hb dL_grade_1 (by decide) ?_
  refine lv_aload_n hx hb dL_grade_2 rfl (lv_at hl 0 rfl) ?_
  refine lv_iload_n hx hb dL_grade_3 rfl (lv_at hl 1 rfl) ?_
  refine w_calli (vx_runV (C := RX5) (As := [.int x]) (rest := [.int (nI 0), .ref o]) ⟨hx, hb, hml, hown, hts⟩ (hcal _) (cwV 1 hts gL_grade_X5_grade rfl rfl rfl (by decide +kernel) ⟨Nat.le_of_ble_eq_true rfl, Nat.le_of_ble_eq_true rfl⟩) (mPreXV hX hDh hS hA hK hPh ha (ci := 6) rfl) rfl rfl hl.1 rfl (lv_room (Nat.le_of_ble_eq_true rfl)) dL_grade_4 ⟨Nat.le_of_ble_eq_true rfl, Nat.le_of_ble_eq_true rfl⟩) hDh hA hS (fun E ce q9 H1 locs1 hpx hP1 hS1 hz1 hk1 hce hcv hcl => ?_) (fun v M1 H1 locs1 hq9 hP1 hD1 hS1 hz1 hd1 hk1 => ?_)
  · obtain ⟨-, hPo⟩ := out_keep hP ho hP1 (fun q hq => Or.inl hq) hk1
    rcases hE E hpx with rfl
    · refine vx_catch (name := xIO) hown [] ⟨0, 9, 12, 13⟩ [] htab (fun z hz => absurd hz List.not_mem_nil) (by decide) (by decide) (hts _ (List.mem_of_getElem? (i := 1) rfl)) (va_Nw.use (cDW_tab _ (List.mem_of_getElem? (i := 3) rfl)) (hX.2.2.2.2.2.2.2.2.2 _ (List.mem_of_getElem? (i := 3) rfl))) hce hcv hcl ?_
      refine lv_astore_n (lv' := [(3, .ref q9), (0, .ref a), (1, .int x), (2, .ref o)]) hx hb dL_grade_12 rfl hl (by decide) rfl (fun ls hl => ?_)
      refine lv_iconst (v := nI 1) hx hb dL_grade_13 (by decide) ?_
      exact vx_ret (e_wi hx hb hr hlocks hPo hD hS1 (Or.inr ⟨_, 1, g0, hpx, List.mem_of_getElem? (i := 0) rfl, rfl, rfl⟩) dL_grade_14)
  · obtain ⟨ho1, hPo⟩ := out_keep hP ho hP1 hd1 hk1
    have hDo := hD1.set (a := o) (e := eJ cy 1 g0) hAo
    refine lv_i2l hx hb dL_grade_7 rfl ?_
    refine n_jast (n := 1) (i := 0) hx hb hK hPo hDo hS1 (mset_self _ _ _) (by decide) (by decide) dL_grade_8 (fun H2 locs2 hP2 hD2 hS2 => ?_)
    rw [mset_mset] at hP2 hD2
    refine lv_goto (tgt := 15) hx hb dL_grade_9 (by decide) ?_
    refine lv_iconst (v := nI 0) hx hb dL_grade_15 (by decide) ?_
    exact vx_ret (e_wi hx hb hr hlocks hP2 hD2 hS2 (Or.inl ⟨v, M1, _, hq9, ho1, rfl, va_up_self _ _ _, rfl⟩) dL_grade_16)

set_option maxRecDepth 100000 in
set_option maxHeartbeats 4000000 in
theorem w_lacks (l : Launch) (de mi : Nat) (D : va_G) (cy : Nat → ClassId) (Mh : mM) (sz o a : Nat) (g0 : Nat → Int64) (fs : List Value) (x : Int32) (post : Int32 → mM → Prop) (postX : String → Prop) (ha : Mh a = some (.inr (6, fs))) (ho : Mh o = none) (hcal : ∀ sz : Nat, mVi l yX5_lacks wsX5_lacks ({ frames := 7, cells := 1, slots := 6, locals := 103 } : Room) de mi D cy Mh sz [.ref a, .int x] post postX 1 6) (hE : ∀ E, postX E → E = xIO) : wMet l yL_lacks wsL_lacks ({ frames := 8, cells := 1, slots := 6, locals := 124 } : Room) de mi D cy (mset Mh o (eJ cy 1 g0)) sz [.ref a, .int x, .ref o] (wPost cy Mh o post postX [(xIO, 1)]) 1 6 := by
  refine wMet.of (cc := cL_lacks) (maxL := 4) (ret := some .int) (hh := [(0, 9, 12, 13)]) (by decide) rfl (Nat.le_of_ble_eq_true rfl) ?_
  intro p e s m args below meth c ls hsz hx hb hr hts hown hlocks hml htab hP hD hS hA hK hX hN hl
  have hown : s.vm.findClass RL = some m.cls := hown
  have hl : lv_has ls 4 [(0, .ref a), (1, .int x), (2, .ref o)] := hl
  have hPh := pm_out ho hP
  have hDh := mD_out hD
  have hAo : mA (mset Mh o (eJ cy 1 g0)) sz o := hD o (by rw [mset_self]; exact fun z => by cases z)
  refine lv_aload_n hx hb dL_lacks_0 rfl (lv_at hl 2 rfl) ?_
  refine lv_iconst (v := nI 0) hx hb dL_lacks_1 (by decide) ?_
  refine lv_aload_n hx hb dL_lacks_2 rfl (lv_at hl 0 rfl) ?_
  refine lv_iload_n hx hb dL_lacks_3 rfl (lv_at hl 1 rfl) ?_
  refine w_calli (vx_runV (C := RX5) (As := [.int x]) (rest := [.int (nI 0), .ref o]) ⟨hx, hb, hml, hown, hts⟩ (hcal _) (cwV 1 hts gL_lacks_X5_lacks rfl rfl rfl (by decide +kernel) ⟨Nat.le_of_ble_eq_true rfl, Nat.le_of_ble_eq_true rfl⟩) (mPreXV hX hDh hS hA hK hPh ha (ci := 6) rfl) rfl rfl hl.1 rfl (lv_room (Nat.le_of_ble_eq_true rfl)) dL_lacks_4 ⟨Nat.le_of_ble_eq_true rfl, Nat.le_of_ble_eq_true rfl⟩) hDh hA hS (fun E ce q9 H1 locs1 hpx hP1 hS1 hz1 hk1 hce hcv hcl => ?_) (fun v M1 H1 locs1 hq9 hP1 hD1 hS1 hz1 hd1 hk1 => ?_)
  · obtain ⟨-, hPo⟩ := out_keep hP ho hP1 (fun q hq => Or.inl hq) hk1
    rcases hE E hpx with rfl
    · refine vx_catch (name := xIO) hown [] ⟨0, 9, 12, 13⟩ [] htab (fun z hz => absurd hz List.not_mem_nil) (by decide) (by decide) (hts _ (List.mem_of_getElem? (i := 1) rfl)) (va_Nw.use (cDW_tab _ (List.mem_of_getElem? (i := 3) rfl)) (hX.2.2.2.2.2.2.2.2.2 _ (List.mem_of_getElem? (i := 3) rfl))) hce hcv hcl ?_
      refine lv_astore_n (lv' := [(3, .ref q9), (0, .ref a), (1, .int x), (2, .ref o)]) hx hb dL_lacks_12 rfl hl (by decide) rfl (fun ls hl => ?_)
      refine lv_iconst (v := nI 1) hx hb dL_lacks_13 (by decide) ?_
      exact vx_ret (e_wi hx hb hr hlocks hPo hD hS1 (Or.inr ⟨_, 1, g0, hpx, List.mem_of_getElem? (i := 0) rfl, rfl, rfl⟩) dL_lacks_14)
  · obtain ⟨ho1, hPo⟩ := out_keep hP ho hP1 hd1 hk1
    have hDo := hD1.set (a := o) (e := eJ cy 1 g0) hAo
    refine lv_i2l hx hb dL_lacks_7 rfl ?_
    refine n_jast (n := 1) (i := 0) hx hb hK hPo hDo hS1 (mset_self _ _ _) (by decide) (by decide) dL_lacks_8 (fun H2 locs2 hP2 hD2 hS2 => ?_)
    rw [mset_mset] at hP2 hD2
    refine lv_goto (tgt := 15) hx hb dL_lacks_9 (by decide) ?_
    refine lv_iconst (v := nI 0) hx hb dL_lacks_15 (by decide) ?_
    exact vx_ret (e_wi hx hb hr hlocks hP2 hD2 hS2 (Or.inl ⟨v, M1, _, hq9, ho1, rfl, va_up_self _ _ _, rfl⟩) dL_lacks_16)

set_option maxRecDepth 100000 in
set_option maxHeartbeats 4000000 in
theorem w_takeOut (l : Launch) (de mi : Nat) (D : va_G) (cy : Nat → ClassId) (Mh : mM) (sz o a : Nat) (g0 : Nat → Int64) (fs : List Value) (x : Int32) (post : Int32 → mM → Prop) (postX : String → Prop) (ha : Mh a = some (.inr (6, fs))) (ho : Mh o = none) (hcal : ∀ sz : Nat, mVi l yX5_takeOut wsX5_takeOut ({ frames := 7, cells := 4, slots := 24, locals := 102 } : Room) de mi D cy Mh sz [.ref a, .int x] post postX 4 24) (hE : ∀ E, postX E → E = xIO ∨ E = xIS) : wMet l yL_takeOut wsL_takeOut ({ frames := 8, cells := 4, slots := 24, locals := 127 } : Room) de mi D cy (mset Mh o (eJ cy 1 g0)) sz [.ref a, .int x, .ref o] (wPost cy Mh o post postX [(xIO, 1), (xIS, 2)]) 4 24 := by
  refine wMet.of (cc := cL_takeOut) (maxL := 4) (ret := some .int) (hh := [(0, 9, 12, 13), (0, 9, 15, 17)]) (by decide) rfl (Nat.le_of_ble_eq_true rfl) ?_
  intro p e s m args below meth c ls hsz hx hb hr hts hown hlocks hml htab hP hD hS hA hK hX hN hl
  have hown : s.vm.findClass RL = some m.cls := hown
  have hl : lv_has ls 4 [(0, .ref a), (1, .int x), (2, .ref o)] := hl
  have hPh := pm_out ho hP
  have hDh := mD_out hD
  have hAo : mA (mset Mh o (eJ cy 1 g0)) sz o := hD o (by rw [mset_self]; exact fun z => by cases z)
  refine lv_aload_n hx hb dL_takeOut_0 rfl (lv_at hl 2 rfl) ?_
  refine lv_iconst (v := nI 0) hx hb dL_takeOut_1 (by decide) ?_
  refine lv_aload_n hx hb dL_takeOut_2 rfl (lv_at hl 0 rfl) ?_
  refine lv_iload_n hx hb dL_takeOut_3 rfl (lv_at hl 1 rfl) ?_
  refine w_calli (vx_runV (C := RX5) (As := [.int x]) (rest := [.int (nI 0), .ref o]) ⟨hx, hb, hml, hown, hts⟩ (hcal _) (cwV 1 hts gL_takeOut_X5_takeOut rfl rfl rfl (by decide +kernel) ⟨Nat.le_of_ble_eq_true rfl, Nat.le_of_ble_eq_true rfl⟩) (mPreXV hX hDh hS hA hK hPh ha (ci := 6) rfl) rfl rfl hl.1 rfl (lv_room (Nat.le_of_ble_eq_true rfl)) dL_takeOut_4 ⟨Nat.le_of_ble_eq_true rfl, Nat.le_of_ble_eq_true rfl⟩) hDh hA hS (fun E ce q9 H1 locs1 hpx hP1 hS1 hz1 hk1 hce hcv hcl => ?_) (fun v M1 H1 locs1 hq9 hP1 hD1 hS1 hz1 hd1 hk1 => ?_)
  · obtain ⟨-, hPo⟩ := out_keep hP ho hP1 (fun q hq => Or.inl hq) hk1
    rcases hE E hpx with rfl | rfl
    · refine vx_catch (name := xIO) hown [] ⟨0, 9, 12, 13⟩ [⟨0, 9, 15, 17⟩] htab (fun z hz => absurd hz List.not_mem_nil) (by decide) (by decide) (hts _ (List.mem_of_getElem? (i := 1) rfl)) (va_Nw.use (cDW_tab _ (List.mem_of_getElem? (i := 3) rfl)) (hX.2.2.2.2.2.2.2.2.2 _ (List.mem_of_getElem? (i := 3) rfl))) hce hcv hcl ?_
      refine lv_astore_n (lv' := [(3, .ref q9), (0, .ref a), (1, .int x), (2, .ref o)]) hx hb dL_takeOut_12 rfl hl (by decide) rfl (fun ls hl => ?_)
      refine lv_iconst (v := nI 1) hx hb dL_takeOut_13 (by decide) ?_
      exact vx_ret (e_wi hx hb hr hlocks hPo hD hS1 (Or.inr ⟨_, 1, g0, hpx, List.mem_of_getElem? (i := 0) rfl, rfl, rfl⟩) dL_takeOut_14)
    · refine vx_catch (name := xIS) hown [⟨0, 9, 12, 13⟩] ⟨0, 9, 15, 17⟩ [] htab (fun z hz => by
      rcases List.mem_cons.mp hz with rfl | hz
      · exact Or.inr ⟨by decide, xIO, (hts _ (List.mem_of_getElem? (i := 1) rfl)), hN (xIS, xIO) (List.mem_of_getElem? (i := 4) rfl)⟩
      exact absurd hz List.not_mem_nil) (by decide) (by decide) (hts _ (List.mem_of_getElem? (i := 2) rfl)) (va_Nw.use (cDW_tab _ (List.mem_of_getElem? (i := 5) rfl)) (hX.2.2.2.2.2.2.2.2.2 _ (List.mem_of_getElem? (i := 5) rfl))) hce hcv hcl ?_
      refine lv_astore_n (lv' := [(3, .ref q9), (0, .ref a), (1, .int x), (2, .ref o)]) hx hb dL_takeOut_15 rfl hl (by decide) rfl (fun ls hl => ?_)
      refine lv_iconst (v := nI 2) hx hb dL_takeOut_16 (by decide) ?_
      exact vx_ret (e_wi hx hb hr hlocks hPo hD hS1 (Or.inr ⟨_, 2, g0, hpx, List.mem_of_getElem? (i := 1) rfl, rfl, rfl⟩) dL_takeOut_17)
  · obtain ⟨ho1, hPo⟩ := out_keep hP ho hP1 hd1 hk1
    have hDo := hD1.set (a := o) (e := eJ cy 1 g0) hAo
    refine lv_i2l hx hb dL_takeOut_7 rfl ?_
    refine n_jast (n := 1) (i := 0) hx hb hK hPo hDo hS1 (mset_self _ _ _) (by decide) (by decide) dL_takeOut_8 (fun H2 locs2 hP2 hD2 hS2 => ?_)
    rw [mset_mset] at hP2 hD2
    refine lv_goto (tgt := 18) hx hb dL_takeOut_9 (by decide) ?_
    refine lv_iconst (v := nI 0) hx hb dL_takeOut_18 (by decide) ?_
    exact vx_ret (e_wi hx hb hr hlocks hP2 hD2 hS2 (Or.inl ⟨v, M1, _, hq9, ho1, rfl, va_up_self _ _ _, rfl⟩) dL_takeOut_19)

set_option maxRecDepth 100000 in
set_option maxHeartbeats 4000000 in
theorem w_show (l : Launch) (de mi : Nat) (D : va_G) (cy : Nat → ClassId) (Mh : mM) (sz o a : Nat) (g0 : Nat → Int64) (fs : List Value) (x : Int32) (post : Int32 → mM → Prop) (postX : String → Prop) (ha : Mh a = some (.inr (6, fs))) (ho : Mh o = none) (hcal : ∀ sz : Nat, mVi l yX5_show wsX5_show ({ frames := 7, cells := 4, slots := 24, locals := 103 } : Room) de mi D cy Mh sz [.ref a, .int x] post postX 4 24) (hE : ∀ E, postX E → E = xIO ∨ E = xIS) : wMet l yL_show wsL_show ({ frames := 8, cells := 4, slots := 24, locals := 125 } : Room) de mi D cy (mset Mh o (eJ cy 1 g0)) sz [.ref a, .int x, .ref o] (wPost cy Mh o post postX [(xIO, 1), (xIS, 2)]) 4 24 := by
  refine wMet.of (cc := cL_show) (maxL := 4) (ret := some .int) (hh := [(0, 9, 12, 13), (0, 9, 15, 17)]) (by decide) rfl (Nat.le_of_ble_eq_true rfl) ?_
  intro p e s m args below meth c ls hsz hx hb hr hts hown hlocks hml htab hP hD hS hA hK hX hN hl
  have hown : s.vm.findClass RL = some m.cls := hown
  have hl : lv_has ls 4 [(0, .ref a), (1, .int x), (2, .ref o)] := hl
  have hPh := pm_out ho hP
  have hDh := mD_out hD
  have hAo : mA (mset Mh o (eJ cy 1 g0)) sz o := hD o (by rw [mset_self]; exact fun z => by cases z)
  refine lv_aload_n hx hb dL_show_0 rfl (lv_at hl 2 rfl) ?_
  refine lv_iconst (v := nI 0) hx hb dL_show_1 (by decide) ?_
  refine lv_aload_n hx hb dL_show_2 rfl (lv_at hl 0 rfl) ?_
  refine lv_iload_n hx hb dL_show_3 rfl (lv_at hl 1 rfl) ?_
  refine w_calli (vx_runV (C := RX5) (As := [.int x]) (rest := [.int (nI 0), .ref o]) ⟨hx, hb, hml, hown, hts⟩ (hcal _) (cwV 1 hts gL_show_X5_show rfl rfl rfl (by decide +kernel) ⟨Nat.le_of_ble_eq_true rfl, Nat.le_of_ble_eq_true rfl⟩) (mPreXV hX hDh hS hA hK hPh ha (ci := 6) rfl) rfl rfl hl.1 rfl (lv_room (Nat.le_of_ble_eq_true rfl)) dL_show_4 ⟨Nat.le_of_ble_eq_true rfl, Nat.le_of_ble_eq_true rfl⟩) hDh hA hS (fun E ce q9 H1 locs1 hpx hP1 hS1 hz1 hk1 hce hcv hcl => ?_) (fun v M1 H1 locs1 hq9 hP1 hD1 hS1 hz1 hd1 hk1 => ?_)
  · obtain ⟨-, hPo⟩ := out_keep hP ho hP1 (fun q hq => Or.inl hq) hk1
    rcases hE E hpx with rfl | rfl
    · refine vx_catch (name := xIO) hown [] ⟨0, 9, 12, 13⟩ [⟨0, 9, 15, 17⟩] htab (fun z hz => absurd hz List.not_mem_nil) (by decide) (by decide) (hts _ (List.mem_of_getElem? (i := 1) rfl)) (va_Nw.use (cDW_tab _ (List.mem_of_getElem? (i := 3) rfl)) (hX.2.2.2.2.2.2.2.2.2 _ (List.mem_of_getElem? (i := 3) rfl))) hce hcv hcl ?_
      refine lv_astore_n (lv' := [(3, .ref q9), (0, .ref a), (1, .int x), (2, .ref o)]) hx hb dL_show_12 rfl hl (by decide) rfl (fun ls hl => ?_)
      refine lv_iconst (v := nI 1) hx hb dL_show_13 (by decide) ?_
      exact vx_ret (e_wi hx hb hr hlocks hPo hD hS1 (Or.inr ⟨_, 1, g0, hpx, List.mem_of_getElem? (i := 0) rfl, rfl, rfl⟩) dL_show_14)
    · refine vx_catch (name := xIS) hown [⟨0, 9, 12, 13⟩] ⟨0, 9, 15, 17⟩ [] htab (fun z hz => by
      rcases List.mem_cons.mp hz with rfl | hz
      · exact Or.inr ⟨by decide, xIO, (hts _ (List.mem_of_getElem? (i := 1) rfl)), hN (xIS, xIO) (List.mem_of_getElem? (i := 4) rfl)⟩
      exact absurd hz List.not_mem_nil) (by decide) (by decide) (hts _ (List.mem_of_getElem? (i := 2) rfl)) (va_Nw.use (cDW_tab _ (List.mem_of_getElem? (i := 5) rfl)) (hX.2.2.2.2.2.2.2.2.2 _ (List.mem_of_getElem? (i := 5) rfl))) hce hcv hcl ?_
      refine lv_astore_n (lv' := [(3, .ref q9), (0, .ref a), (1, .int x), (2, .ref o)]) hx hb dL_show_15 rfl hl (by decide) rfl (fun ls hl => ?_)
      refine lv_iconst (v := nI 2) hx hb dL_show_16 (by decide) ?_
      exact vx_ret (e_wi hx hb hr hlocks hPo hD hS1 (Or.inr ⟨_, 2, g0, hpx, List.mem_of_getElem? (i := 1) rfl, rfl, rfl⟩) dL_show_17)
  · obtain ⟨ho1, hPo⟩ := out_keep hP ho hP1 hd1 hk1
    have hDo := hD1.set (a := o) (e := eJ cy 1 g0) hAo
    refine lv_i2l hx hb dL_show_7 rfl ?_
    refine n_jast (n := 1) (i := 0) hx hb hK hPo hDo hS1 (mset_self _ _ _) (by decide) (by decide) dL_show_8 (fun H2 locs2 hP2 hD2 hS2 => ?_)
    rw [mset_mset] at hP2 hD2
    refine lv_goto (tgt := 18) hx hb dL_show_9 (by decide) ?_
    refine lv_iconst (v := nI 0) hx hb dL_show_18 (by decide) ?_
    exact vx_ret (e_wi hx hb hr hlocks hP2 hD2 hS2 (Or.inl ⟨v, M1, _, hq9, ho1, rfl, va_up_self _ _ _, rfl⟩) dL_show_19)

set_option maxRecDepth 100000 in
set_option maxHeartbeats 4000000 in
theorem w_vote (l : Launch) (de mi : Nat) (D : va_G) (cy : Nat → ClassId) (Mh : mM) (sz o a : Nat) (g0 : Nat → Int64) (fs : List Value) (x : Int32) (y : Int32) (z : Int32) (post : Int32 → mM → Prop) (postX : String → Prop) (ha : Mh a = some (.inr (6, fs))) (ho : Mh o = none) (hcal : ∀ sz : Nat, mVi l yX5_vote wsX5_vote ({ frames := 7, cells := 4, slots := 24, locals := 103 } : Room) de mi D cy Mh sz [.ref a, .int x, .int y, .int z] post postX 4 24) (hE : ∀ E, postX E → E = xIO ∨ E = xIA ∨ E = xIS) : wMet l yL_vote wsL_vote ({ frames := 8, cells := 4, slots := 24, locals := 127 } : Room) de mi D cy (mset Mh o (eJ cy 1 g0)) sz [.ref a, .int x, .int y, .int z, .ref o] (wPost cy Mh o post postX [(xIO, 1), (xIA, 2), (xIS, 3)]) 4 24 := by
  refine wMet.of (cc := cL_vote) (maxL := 6) (ret := some .int) (hh := [(0, 12, 15, 13), (0, 12, 19, 15), (0, 12, 23, 17)]) (by decide) rfl (Nat.le_of_ble_eq_true rfl) ?_
  intro p e s m args below meth c ls hsz hx hb hr hts hown hlocks hml htab hP hD hS hA hK hX hN hl
  have hown : s.vm.findClass RL = some m.cls := hown
  have hl : lv_has ls 6 [(0, .ref a), (1, .int x), (2, .int y), (3, .int z), (4, .ref o)] := hl
  have hPh := pm_out ho hP
  have hDh := mD_out hD
  have hAo : mA (mset Mh o (eJ cy 1 g0)) sz o := hD o (by rw [mset_self]; exact fun z => by cases z)
  refine lv_aload hx hb dL_vote_0 (lv_at hl 4 rfl) ?_
  refine lv_iconst (v := nI 0) hx hb dL_vote_2 (by decide) ?_
  refine lv_aload_n hx hb dL_vote_3 rfl (lv_at hl 0 rfl) ?_
  refine lv_iload_n hx hb dL_vote_4 rfl (lv_at hl 1 rfl) ?_
  refine lv_iload_n hx hb dL_vote_5 rfl (lv_at hl 2 rfl) ?_
  refine lv_iload_n hx hb dL_vote_6 rfl (lv_at hl 3 rfl) ?_
  refine w_calli (vx_runV (C := RX5) (As := [.int x, .int y, .int z]) (rest := [.int (nI 0), .ref o]) ⟨hx, hb, hml, hown, hts⟩ (hcal _) (cwV 3 hts gL_vote_X5_vote rfl rfl rfl (by decide +kernel) ⟨Nat.le_of_ble_eq_true rfl, Nat.le_of_ble_eq_true rfl⟩) (mPreXV hX hDh hS hA hK hPh ha (ci := 6) rfl) rfl rfl hl.1 rfl (lv_room (Nat.le_of_ble_eq_true rfl)) dL_vote_7 ⟨Nat.le_of_ble_eq_true rfl, Nat.le_of_ble_eq_true rfl⟩) hDh hA hS (fun E ce q9 H1 locs1 hpx hP1 hS1 hz1 hk1 hce hcv hcl => ?_) (fun v M1 H1 locs1 hq9 hP1 hD1 hS1 hz1 hd1 hk1 => ?_)
  · obtain ⟨-, hPo⟩ := out_keep hP ho hP1 (fun q hq => Or.inl hq) hk1
    rcases hE E hpx with rfl | rfl | rfl
    · refine vx_catch (name := xIO) hown [] ⟨0, 12, 15, 13⟩ [⟨0, 12, 19, 15⟩, ⟨0, 12, 23, 17⟩] htab (fun z hz => absurd hz List.not_mem_nil) (by decide) (by decide) (hts _ (List.mem_of_getElem? (i := 1) rfl)) (va_Nw.use (cDW_tab _ (List.mem_of_getElem? (i := 3) rfl)) (hX.2.2.2.2.2.2.2.2.2 _ (List.mem_of_getElem? (i := 3) rfl))) hce hcv hcl ?_
      refine lv_astore (lv' := [(5, .ref q9), (0, .ref a), (1, .int x), (2, .int y), (3, .int z), (4, .ref o)]) hx hb dL_vote_15 hl (by decide) rfl (fun ls hl => ?_)
      refine lv_iconst (v := nI 1) hx hb dL_vote_17 (by decide) ?_
      exact vx_ret (e_wi hx hb hr hlocks hPo hD hS1 (Or.inr ⟨_, 1, g0, hpx, List.mem_of_getElem? (i := 0) rfl, rfl, rfl⟩) dL_vote_18)
    · refine vx_catch (name := xIA) hown [⟨0, 12, 15, 13⟩] ⟨0, 12, 19, 15⟩ [⟨0, 12, 23, 17⟩] htab (fun z hz => by
      rcases List.mem_cons.mp hz with rfl | hz
      · exact Or.inr ⟨by decide, xIO, (hts _ (List.mem_of_getElem? (i := 1) rfl)), hN (xIA, xIO) (List.mem_of_getElem? (i := 2) rfl)⟩
      exact absurd hz List.not_mem_nil) (by decide) (by decide) (hts _ (List.mem_of_getElem? (i := 2) rfl)) (va_Nw.use (cDW_tab _ (List.mem_of_getElem? (i := 4) rfl)) (hX.2.2.2.2.2.2.2.2.2 _ (List.mem_of_getElem? (i := 4) rfl))) hce hcv hcl ?_
      refine lv_astore (lv' := [(5, .ref q9), (0, .ref a), (1, .int x), (2, .int y), (3, .int z), (4, .ref o)]) hx hb dL_vote_19 hl (by decide) rfl (fun ls hl => ?_)
      refine lv_iconst (v := nI 2) hx hb dL_vote_21 (by decide) ?_
      exact vx_ret (e_wi hx hb hr hlocks hPo hD hS1 (Or.inr ⟨_, 2, g0, hpx, List.mem_of_getElem? (i := 1) rfl, rfl, rfl⟩) dL_vote_22)
    · refine vx_catch (name := xIS) hown [⟨0, 12, 15, 13⟩, ⟨0, 12, 19, 15⟩] ⟨0, 12, 23, 17⟩ [] htab (fun z hz => by
      rcases List.mem_cons.mp hz with rfl | hz
      · exact Or.inr ⟨by decide, xIO, (hts _ (List.mem_of_getElem? (i := 1) rfl)), hN (xIS, xIO) (List.mem_of_getElem? (i := 4) rfl)⟩
      rcases List.mem_cons.mp hz with rfl | hz
      · exact Or.inr ⟨by decide, xIA, (hts _ (List.mem_of_getElem? (i := 2) rfl)), hN (xIS, xIA) (List.mem_of_getElem? (i := 5) rfl)⟩
      exact absurd hz List.not_mem_nil) (by decide) (by decide) (hts _ (List.mem_of_getElem? (i := 3) rfl)) (va_Nw.use (cDW_tab _ (List.mem_of_getElem? (i := 5) rfl)) (hX.2.2.2.2.2.2.2.2.2 _ (List.mem_of_getElem? (i := 5) rfl))) hce hcv hcl ?_
      refine lv_astore (lv' := [(5, .ref q9), (0, .ref a), (1, .int x), (2, .int y), (3, .int z), (4, .ref o)]) hx hb dL_vote_23 hl (by decide) rfl (fun ls hl => ?_)
      refine lv_iconst (v := nI 3) hx hb dL_vote_25 (by decide) ?_
      exact vx_ret (e_wi hx hb hr hlocks hPo hD hS1 (Or.inr ⟨_, 3, g0, hpx, List.mem_of_getElem? (i := 2) rfl, rfl, rfl⟩) dL_vote_26)
  · obtain ⟨ho1, hPo⟩ := out_keep hP ho hP1 hd1 hk1
    have hDo := hD1.set (a := o) (e := eJ cy 1 g0) hAo
    refine lv_i2l hx hb dL_vote_10 rfl ?_
    refine n_jast (n := 1) (i := 0) hx hb hK hPo hDo hS1 (mset_self _ _ _) (by decide) (by decide) dL_vote_11 (fun H2 locs2 hP2 hD2 hS2 => ?_)
    rw [mset_mset] at hP2 hD2
    refine lv_goto (tgt := 27) hx hb dL_vote_12 (by decide) ?_
    refine lv_iconst (v := nI 0) hx hb dL_vote_27 (by decide) ?_
    exact vx_ret (e_wi hx hb hr hlocks hP2 hD2 hS2 (Or.inl ⟨v, M1, _, hq9, ho1, rfl, va_up_self _ _ _, rfl⟩) dL_vote_28)

set_option maxRecDepth 100000 in
set_option maxHeartbeats 4000000 in
theorem w_worth (l : Launch) (de mi : Nat) (D : va_G) (cy : Nat → ClassId) (Mh : mM) (sz o a : Nat) (g0 : Nat → Int64) (fs : List Value) (x : Int32) (post : Int32 → mM → Prop) (postX : String → Prop) (ha : Mh a = some (.inr (6, fs))) (ho : Mh o = none) (hcal : ∀ sz : Nat, mVi l yX5_worth wsX5_worth ({ frames := 7, cells := 1, slots := 6, locals := 103 } : Room) de mi D cy Mh sz [.ref a, .int x] post postX 1 6) (hE : ∀ E, postX E → E = xIO) : wMet l yL_worth wsL_worth ({ frames := 8, cells := 1, slots := 6, locals := 124 } : Room) de mi D cy (mset Mh o (eJ cy 1 g0)) sz [.ref a, .int x, .ref o] (wPost cy Mh o post postX [(xIO, 1)]) 1 6 := by
  refine wMet.of (cc := cL_worth) (maxL := 4) (ret := some .int) (hh := [(0, 9, 12, 13)]) (by decide) rfl (Nat.le_of_ble_eq_true rfl) ?_
  intro p e s m args below meth c ls hsz hx hb hr hts hown hlocks hml htab hP hD hS hA hK hX hN hl
  have hown : s.vm.findClass RL = some m.cls := hown
  have hl : lv_has ls 4 [(0, .ref a), (1, .int x), (2, .ref o)] := hl
  have hPh := pm_out ho hP
  have hDh := mD_out hD
  have hAo : mA (mset Mh o (eJ cy 1 g0)) sz o := hD o (by rw [mset_self]; exact fun z => by cases z)
  refine lv_aload_n hx hb dL_worth_0 rfl (lv_at hl 2 rfl) ?_
  refine lv_iconst (v := nI 0) hx hb dL_worth_1 (by decide) ?_
  refine lv_aload_n hx hb dL_worth_2 rfl (lv_at hl 0 rfl) ?_
  refine lv_iload_n hx hb dL_worth_3 rfl (lv_at hl 1 rfl) ?_
  refine w_calli (vx_runV (C := RX5) (As := [.int x]) (rest := [.int (nI 0), .ref o]) ⟨hx, hb, hml, hown, hts⟩ (hcal _) (cwV 1 hts gL_worth_X5_worth rfl rfl rfl (by decide +kernel) ⟨Nat.le_of_ble_eq_true rfl, Nat.le_of_ble_eq_true rfl⟩) (mPreXV hX hDh hS hA hK hPh ha (ci := 6) rfl) rfl rfl hl.1 rfl (lv_room (Nat.le_of_ble_eq_true rfl)) dL_worth_4 ⟨Nat.le_of_ble_eq_true rfl, Nat.le_of_ble_eq_true rfl⟩) hDh hA hS (fun E ce q9 H1 locs1 hpx hP1 hS1 hz1 hk1 hce hcv hcl => ?_) (fun v M1 H1 locs1 hq9 hP1 hD1 hS1 hz1 hd1 hk1 => ?_)
  · obtain ⟨-, hPo⟩ := out_keep hP ho hP1 (fun q hq => Or.inl hq) hk1
    rcases hE E hpx with rfl
    · refine vx_catch (name := xIO) hown [] ⟨0, 9, 12, 13⟩ [] htab (fun z hz => absurd hz List.not_mem_nil) (by decide) (by decide) (hts _ (List.mem_of_getElem? (i := 1) rfl)) (va_Nw.use (cDW_tab _ (List.mem_of_getElem? (i := 3) rfl)) (hX.2.2.2.2.2.2.2.2.2 _ (List.mem_of_getElem? (i := 3) rfl))) hce hcv hcl ?_
      refine lv_astore_n (lv' := [(3, .ref q9), (0, .ref a), (1, .int x), (2, .ref o)]) hx hb dL_worth_12 rfl hl (by decide) rfl (fun ls hl => ?_)
      refine lv_iconst (v := nI 1) hx hb dL_worth_13 (by decide) ?_
      exact vx_ret (e_wi hx hb hr hlocks hPo hD hS1 (Or.inr ⟨_, 1, g0, hpx, List.mem_of_getElem? (i := 0) rfl, rfl, rfl⟩) dL_worth_14)
  · obtain ⟨ho1, hPo⟩ := out_keep hP ho hP1 hd1 hk1
    have hDo := hD1.set (a := o) (e := eJ cy 1 g0) hAo
    refine lv_i2l hx hb dL_worth_7 rfl ?_
    refine n_jast (n := 1) (i := 0) hx hb hK hPo hDo hS1 (mset_self _ _ _) (by decide) (by decide) dL_worth_8 (fun H2 locs2 hP2 hD2 hS2 => ?_)
    rw [mset_mset] at hP2 hD2
    refine lv_goto (tgt := 15) hx hb dL_worth_9 (by decide) ?_
    refine lv_iconst (v := nI 0) hx hb dL_worth_15 (by decide) ?_
    exact vx_ret (e_wi hx hb hr hlocks hP2 hD2 hS2 (Or.inl ⟨v, M1, _, hq9, ho1, rfl, va_up_self _ _ _, rfl⟩) dL_worth_16)

set_option maxRecDepth 100000 in
set_option maxHeartbeats 4000000 in
theorem w_place (l : Launch) (de mi : Nat) (D : va_G) (cy : Nat → ClassId) (Mh : mM) (sz o a : Nat) (g0 : Nat → Int64) (fs : List Value) (x : Int32) (post : Int32 → mM → Prop) (postX : String → Prop) (ha : Mh a = some (.inr (6, fs))) (ho : Mh o = none) (hcal : ∀ sz : Nat, mVi l yX5_place wsX5_place ({ frames := 7, cells := 4, slots := 24, locals := 103 } : Room) de mi D cy Mh sz [.ref a, .int x] post postX 4 24) (hE : ∀ E, postX E → E = xIO) : wMet l yL_place wsL_place ({ frames := 8, cells := 4, slots := 24, locals := 124 } : Room) de mi D cy (mset Mh o (eJ cy 1 g0)) sz [.ref a, .int x, .ref o] (wPost cy Mh o post postX [(xIO, 1)]) 4 24 := by
  refine wMet.of (cc := cL_place) (maxL := 4) (ret := some .int) (hh := [(0, 9, 12, 13)]) (by decide) rfl (Nat.le_of_ble_eq_true rfl) ?_
  intro p e s m args below meth c ls hsz hx hb hr hts hown hlocks hml htab hP hD hS hA hK hX hN hl
  have hown : s.vm.findClass RL = some m.cls := hown
  have hl : lv_has ls 4 [(0, .ref a), (1, .int x), (2, .ref o)] := hl
  have hPh := pm_out ho hP
  have hDh := mD_out hD
  have hAo : mA (mset Mh o (eJ cy 1 g0)) sz o := hD o (by rw [mset_self]; exact fun z => by cases z)
  refine lv_aload_n hx hb dL_place_0 rfl (lv_at hl 2 rfl) ?_
  refine lv_iconst (v := nI 0) hx hb dL_place_1 (by decide) ?_
  refine lv_aload_n hx hb dL_place_2 rfl (lv_at hl 0 rfl) ?_
  refine lv_iload_n hx hb dL_place_3 rfl (lv_at hl 1 rfl) ?_
  refine w_calli (vx_runV (C := RX5) (As := [.int x]) (rest := [.int (nI 0), .ref o]) ⟨hx, hb, hml, hown, hts⟩ (hcal _) (cwV 1 hts gL_place_X5_place rfl rfl rfl (by decide +kernel) ⟨Nat.le_of_ble_eq_true rfl, Nat.le_of_ble_eq_true rfl⟩) (mPreXV hX hDh hS hA hK hPh ha (ci := 6) rfl) rfl rfl hl.1 rfl (lv_room (Nat.le_of_ble_eq_true rfl)) dL_place_4 ⟨Nat.le_of_ble_eq_true rfl, Nat.le_of_ble_eq_true rfl⟩) hDh hA hS (fun E ce q9 H1 locs1 hpx hP1 hS1 hz1 hk1 hce hcv hcl => ?_) (fun v M1 H1 locs1 hq9 hP1 hD1 hS1 hz1 hd1 hk1 => ?_)
  · obtain ⟨-, hPo⟩ := out_keep hP ho hP1 (fun q hq => Or.inl hq) hk1
    rcases hE E hpx with rfl
    · refine vx_catch (name := xIO) hown [] ⟨0, 9, 12, 13⟩ [] htab (fun z hz => absurd hz List.not_mem_nil) (by decide) (by decide) (hts _ (List.mem_of_getElem? (i := 1) rfl)) (va_Nw.use (cDW_tab _ (List.mem_of_getElem? (i := 3) rfl)) (hX.2.2.2.2.2.2.2.2.2 _ (List.mem_of_getElem? (i := 3) rfl))) hce hcv hcl ?_
      refine lv_astore_n (lv' := [(3, .ref q9), (0, .ref a), (1, .int x), (2, .ref o)]) hx hb dL_place_12 rfl hl (by decide) rfl (fun ls hl => ?_)
      refine lv_iconst (v := nI 1) hx hb dL_place_13 (by decide) ?_
      exact vx_ret (e_wi hx hb hr hlocks hPo hD hS1 (Or.inr ⟨_, 1, g0, hpx, List.mem_of_getElem? (i := 0) rfl, rfl, rfl⟩) dL_place_14)
  · obtain ⟨ho1, hPo⟩ := out_keep hP ho hP1 hd1 hk1
    have hDo := hD1.set (a := o) (e := eJ cy 1 g0) hAo
    refine lv_i2l hx hb dL_place_7 rfl ?_
    refine n_jast (n := 1) (i := 0) hx hb hK hPo hDo hS1 (mset_self _ _ _) (by decide) (by decide) dL_place_8 (fun H2 locs2 hP2 hD2 hS2 => ?_)
    rw [mset_mset] at hP2 hD2
    refine lv_goto (tgt := 15) hx hb dL_place_9 (by decide) ?_
    refine lv_iconst (v := nI 0) hx hb dL_place_15 (by decide) ?_
    exact vx_ret (e_wi hx hb hr hlocks hP2 hD2 hS2 (Or.inl ⟨v, M1, _, hq9, ho1, rfl, va_up_self _ _ _, rfl⟩) dL_place_16)

set_option maxRecDepth 100000 in
set_option maxHeartbeats 4000000 in
theorem w_at (l : Launch) (de mi : Nat) (D : va_G) (cy : Nat → ClassId) (Mh : mM) (sz o a : Nat) (g0 : Nat → Int64) (fs : List Value) (x : Int32) (post : Int32 → mM → Prop) (postX : String → Prop) (ha : Mh a = some (.inr (6, fs))) (ho : Mh o = none) (hcal : ∀ sz : Nat, mVi l yX5_at wsX5_at ({ frames := 6, cells := 4, slots := 24, locals := 102 } : Room) de mi D cy Mh sz [.ref a, .int x] post postX 4 24) (hE : ∀ E, postX E → E = xIO) : wMet l yL_at wsL_at ({ frames := 7, cells := 4, slots := 24, locals := 124 } : Room) de mi D cy (mset Mh o (eJ cy 1 g0)) sz [.ref a, .int x, .ref o] (wPost cy Mh o post postX [(xIO, 1)]) 4 24 := by
  refine wMet.of (cc := cL_at) (maxL := 4) (ret := some .int) (hh := [(0, 9, 12, 13)]) (by decide) rfl (Nat.le_of_ble_eq_true rfl) ?_
  intro p e s m args below meth c ls hsz hx hb hr hts hown hlocks hml htab hP hD hS hA hK hX hN hl
  have hown : s.vm.findClass RL = some m.cls := hown
  have hl : lv_has ls 4 [(0, .ref a), (1, .int x), (2, .ref o)] := hl
  have hPh := pm_out ho hP
  have hDh := mD_out hD
  have hAo : mA (mset Mh o (eJ cy 1 g0)) sz o := hD o (by rw [mset_self]; exact fun z => by cases z)
  refine lv_aload_n hx hb dL_at_0 rfl (lv_at hl 2 rfl) ?_
  refine lv_iconst (v := nI 0) hx hb dL_at_1 (by decide) ?_
  refine lv_aload_n hx hb dL_at_2 rfl (lv_at hl 0 rfl) ?_
  refine lv_iload_n hx hb dL_at_3 rfl (lv_at hl 1 rfl) ?_
  refine w_calli (vx_runV (C := RX5) (As := [.int x]) (rest := [.int (nI 0), .ref o]) ⟨hx, hb, hml, hown, hts⟩ (hcal _) (cwV 1 hts gL_at_X5_at rfl rfl rfl (by decide +kernel) ⟨Nat.le_of_ble_eq_true rfl, Nat.le_of_ble_eq_true rfl⟩) (mPreXV hX hDh hS hA hK hPh ha (ci := 6) rfl) rfl rfl hl.1 rfl (lv_room (Nat.le_of_ble_eq_true rfl)) dL_at_4 ⟨Nat.le_of_ble_eq_true rfl, Nat.le_of_ble_eq_true rfl⟩) hDh hA hS (fun E ce q9 H1 locs1 hpx hP1 hS1 hz1 hk1 hce hcv hcl => ?_) (fun v M1 H1 locs1 hq9 hP1 hD1 hS1 hz1 hd1 hk1 => ?_)
  · obtain ⟨-, hPo⟩ := out_keep hP ho hP1 (fun q hq => Or.inl hq) hk1
    rcases hE E hpx with rfl
    · refine vx_catch (name := xIO) hown [] ⟨0, 9, 12, 13⟩ [] htab (fun z hz => absurd hz List.not_mem_nil) (by decide) (by decide) (hts _ (List.mem_of_getElem? (i := 1) rfl)) (va_Nw.use (cDW_tab _ (List.mem_of_getElem? (i := 3) rfl)) (hX.2.2.2.2.2.2.2.2.2 _ (List.mem_of_getElem? (i := 3) rfl))) hce hcv hcl ?_
      refine lv_astore_n (lv' := [(3, .ref q9), (0, .ref a), (1, .int x), (2, .ref o)]) hx hb dL_at_12 rfl hl (by decide) rfl (fun ls hl => ?_)
      refine lv_iconst (v := nI 1) hx hb dL_at_13 (by decide) ?_
      exact vx_ret (e_wi hx hb hr hlocks hPo hD hS1 (Or.inr ⟨_, 1, g0, hpx, List.mem_of_getElem? (i := 0) rfl, rfl, rfl⟩) dL_at_14)
  · obtain ⟨ho1, hPo⟩ := out_keep hP ho hP1 hd1 hk1
    have hDo := hD1.set (a := o) (e := eJ cy 1 g0) hAo
    refine lv_i2l hx hb dL_at_7 rfl ?_
    refine n_jast (n := 1) (i := 0) hx hb hK hPo hDo hS1 (mset_self _ _ _) (by decide) (by decide) dL_at_8 (fun H2 locs2 hP2 hD2 hS2 => ?_)
    rw [mset_mset] at hP2 hD2
    refine lv_goto (tgt := 15) hx hb dL_at_9 (by decide) ?_
    refine lv_iconst (v := nI 0) hx hb dL_at_15 (by decide) ?_
    exact vx_ret (e_wi hx hb hr hlocks hP2 hD2 hS2 (Or.inl ⟨v, M1, _, hq9, ho1, rfl, va_up_self _ _ _, rfl⟩) dL_at_16)
