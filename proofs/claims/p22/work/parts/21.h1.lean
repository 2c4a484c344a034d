set_option maxRecDepth 100000 in
set_option maxHeartbeats 4000000 in
theorem c_X5_checkDot (l : Launch) (hst : l.stackTraces = false) (de mi : Nat) (D : va_G) (cy : Nat → ClassId) (M : mM) (sz : Nat) (x : Int32) (ux : Int)  (px : x.toInt = ux) : mVv l yX5_checkDot wsX5_checkDot ({ frames := 6, cells := 1, slots := 6, locals := 82 } : Room) de mi D cy M sz [.int x] (fun M' => (0 ≤ ux ∧ ux < 9) ∧ M' = M) (fun E => E = "java/lang/IndexOutOfBoundsException" ∧ ¬ (0 ≤ ux ∧ ux < 9)) 1 6 := by
  refine mV.of (cc := cX5_checkDot) (maxL := 1) (ret := none) (by decide) rfl (Nat.le_of_ble_eq_true rfl) ?_
  intro p e s m args below meth c ls hsz hx hb hr hts hown hlocks hml hout hname hP hD hS hA hK hX hl
  have hl : lv_has ls 1 [(0, .int x)] := hl
  have hown : s.vm.findClass RX5 = some m.cls := hown
  refine lv_iload_n hx hb dX5_checkDot_0 rfl (lv_at hl 0 rfl) ?_
  refine z_if_lt (u := ux) (tgt := 10) hx hb (px) dX5_checkDot_1 (by decide) (fun c_1 => ?_) (fun c_1 => ?_)
  · exact e_thS (text := "there is no such dot") hx hb hst hown (by decide) (hts _ (List.mem_of_getElem? (i := 1) rfl)) (hts _ (List.mem_of_getElem? (i := 2) rfl)) (fun w h => hts w (List.mem_cons_of_mem _ (List.mem_append_right _ (h)))) ng_I gd_I (by decide +kernel) hX hP hS (hl.1.trans hml.symm) dX5_checkDot_10 dX5_checkDot_13 dX5_checkDot_14 dX5_checkDot_16 dX5_checkDot_19 hout (Nat.le_of_ble_eq_true rfl) (Nat.le_of_ble_eq_true rfl) (Nat.le_of_ble_eq_true rfl) (Nat.le_of_ble_eq_true rfl) hlocks (⟨rfl, by omega⟩) (Nat.le_of_ble_eq_true rfl) (Nat.le_of_ble_eq_true rfl)
  · refine lv_iload_n hx hb dX5_checkDot_4 rfl (lv_at hl 0 rfl) ?_
    refine lv_bipush (v := (nI 9)) hx hb dX5_checkDot_5 (by decide) ?_
    refine z_icmp_lt (u := ux) (v := ((9 : Nat) : Int)) (tgt := 20) hx hb (px) (nI_toInt (by omega)) dX5_checkDot_7 (by decide) (fun c_7 => ?_) (fun c_7 => ?_)
    · exact vx_ret (e_wv hx hb hr hlocks hP hD hS (⟨by omega, rfl⟩) dX5_checkDot_20)
    · exact e_thS (text := "there is no such dot") hx hb hst hown (by decide) (hts _ (List.mem_of_getElem? (i := 1) rfl)) (hts _ (List.mem_of_getElem? (i := 2) rfl)) (fun w h => hts w (List.mem_cons_of_mem _ (List.mem_append_right _ (h)))) ng_I gd_I (by decide +kernel) hX hP hS (hl.1.trans hml.symm) dX5_checkDot_10 dX5_checkDot_13 dX5_checkDot_14 dX5_checkDot_16 dX5_checkDot_19 hout (Nat.le_of_ble_eq_true rfl) (Nat.le_of_ble_eq_true rfl) (Nat.le_of_ble_eq_true rfl) (Nat.le_of_ble_eq_true rfl) hlocks (⟨rfl, by omega⟩) (Nat.le_of_ble_eq_true rfl) (Nat.le_of_ble_eq_true rfl)

set_option maxRecDepth 100000 in
set_option maxHeartbeats 4000000 in
theorem c_X5_checkClass (l : Launch) (hst : l.stackTraces = false) (de mi : Nat) (D : va_G) (cy : Nat → ClassId) (M : mM) (sz : Nat) (x : Int32) (ux : Int)  (px : x.toInt = ux) : mVv l yX5_checkClass wsX5_checkClass ({ frames := 6, cells := 1, slots := 6, locals := 82 } : Room) de mi D cy M sz [.int x] (fun M' => (0 ≤ ux ∧ ux < 4) ∧ M' = M) (fun E => E = "java/lang/IndexOutOfBoundsException" ∧ ¬ (0 ≤ ux ∧ ux < 4)) 1 6 := by
  refine mV.of (cc := cX5_checkClass) (maxL := 1) (ret := none) (by decide) rfl (Nat.le_of_ble_eq_true rfl) ?_
  intro p e s m args below meth c ls hsz hx hb hr hts hown hlocks hml hout hname hP hD hS hA hK hX hl
  have hl : lv_has ls 1 [(0, .int x)] := hl
  have hown : s.vm.findClass RX5 = some m.cls := hown
  refine lv_iload_n hx hb dX5_checkClass_0 rfl (lv_at hl 0 rfl) ?_
  refine z_if_lt (u := ux) (tgt := 9) hx hb (px) dX5_checkClass_1 (by decide) (fun c_1 => ?_) (fun c_1 => ?_)
  · exact e_thS (text := "there is no such class") hx hb hst hown (by decide) (hts _ (List.mem_of_getElem? (i := 1) rfl)) (hts _ (List.mem_of_getElem? (i := 2) rfl)) (fun w h => hts w (List.mem_cons_of_mem _ (List.mem_append_right _ (h)))) ng_I gd_I (by decide +kernel) hX hP hS (hl.1.trans hml.symm) dX5_checkClass_9 dX5_checkClass_12 dX5_checkClass_13 dX5_checkClass_15 dX5_checkClass_18 hout (Nat.le_of_ble_eq_true rfl) (Nat.le_of_ble_eq_true rfl) (Nat.le_of_ble_eq_true rfl) (Nat.le_of_ble_eq_true rfl) hlocks (⟨rfl, by omega⟩) (Nat.le_of_ble_eq_true rfl) (Nat.le_of_ble_eq_true rfl)
  · refine lv_iload_n hx hb dX5_checkClass_4 rfl (lv_at hl 0 rfl) ?_
    refine lv_iconst (v := (nI 4)) hx hb dX5_checkClass_5 (by decide) ?_
    refine z_icmp_lt (u := ux) (v := ((4 : Nat) : Int)) (tgt := 19) hx hb (px) (nI_toInt (by omega)) dX5_checkClass_6 (by decide) (fun c_6 => ?_) (fun c_6 => ?_)
    · exact vx_ret (e_wv hx hb hr hlocks hP hD hS (⟨by omega, rfl⟩) dX5_checkClass_19)
    · exact e_thS (text := "there is no such class") hx hb hst hown (by decide) (hts _ (List.mem_of_getElem? (i := 1) rfl)) (hts _ (List.mem_of_getElem? (i := 2) rfl)) (fun w h => hts w (List.mem_cons_of_mem _ (List.mem_append_right _ (h)))) ng_I gd_I (by decide +kernel) hX hP hS (hl.1.trans hml.symm) dX5_checkClass_9 dX5_checkClass_12 dX5_checkClass_13 dX5_checkClass_15 dX5_checkClass_18 hout (Nat.le_of_ble_eq_true rfl) (Nat.le_of_ble_eq_true rfl) (Nat.le_of_ble_eq_true rfl) (Nat.le_of_ble_eq_true rfl) hlocks (⟨rfl, by omega⟩) (Nat.le_of_ble_eq_true rfl) (Nat.le_of_ble_eq_true rfl)

set_option maxRecDepth 100000 in
set_option maxHeartbeats 4000000 in
theorem c_X5_checkBand (l : Launch) (hst : l.stackTraces = false) (de mi : Nat) (D : va_G) (cy : Nat → ClassId) (M : mM) (sz : Nat) (x : Int32) (ux : Int)  (px : x.toInt = ux) : mVv l yX5_checkBand wsX5_checkBand ({ frames := 6, cells := 1, slots := 6, locals := 82 } : Room) de mi D cy M sz [.int x] (fun M' => (0 ≤ ux ∧ ux < 3) ∧ M' = M) (fun E => E = "java/lang/IndexOutOfBoundsException" ∧ ¬ (0 ≤ ux ∧ ux < 3)) 1 6 := by
  refine mV.of (cc := cX5_checkBand) (maxL := 1) (ret := none) (by decide) rfl (Nat.le_of_ble_eq_true rfl) ?_
  intro p e s m args below meth c ls hsz hx hb hr hts hown hlocks hml hout hname hP hD hS hA hK hX hl
  have hl : lv_has ls 1 [(0, .int x)] := hl
  have hown : s.vm.findClass RX5 = some m.cls := hown
  refine lv_iload_n hx hb dX5_checkBand_0 rfl (lv_at hl 0 rfl) ?_
  refine z_if_lt (u := ux) (tgt := 9) hx hb (px) dX5_checkBand_1 (by decide) (fun c_1 => ?_) (fun c_1 => ?_)
  · exact e_thS (text := "there is no such band") hx hb hst hown (by decide) (hts _ (List.mem_of_getElem? (i := 1) rfl)) (hts _ (List.mem_of_getElem? (i := 2) rfl)) (fun w h => hts w (List.mem_cons_of_mem _ (List.mem_append_right _ (h)))) ng_I gd_I (by decide +kernel) hX hP hS (hl.1.trans hml.symm) dX5_checkBand_9 dX5_checkBand_12 dX5_checkBand_13 dX5_checkBand_15 dX5_checkBand_18 hout (Nat.le_of_ble_eq_true rfl) (Nat.le_of_ble_eq_true rfl) (Nat.le_of_ble_eq_true rfl) (Nat.le_of_ble_eq_true rfl) hlocks (⟨rfl, by omega⟩) (Nat.le_of_ble_eq_true rfl) (Nat.le_of_ble_eq_true rfl)
  · refine lv_iload_n hx hb dX5_checkBand_4 rfl (lv_at hl 0 rfl) ?_
    refine lv_iconst (v := (nI 3)) hx hb dX5_checkBand_5 (by decide) ?_
    refine z_icmp_lt (u := ux) (v := ((3 : Nat) : Int)) (tgt := 19) hx hb (px) (nI_toInt (by omega)) dX5_checkBand_6 (by decide) (fun c_6 => ?_) (fun c_6 => ?_)
    · exact vx_ret (e_wv hx hb hr hlocks hP hD hS (⟨by omega, rfl⟩) dX5_checkBand_19)
    · exact e_thS (text := "there is no such band") hx hb hst hown (by decide) (hts _ (List.mem_of_getElem? (i := 1) rfl)) (hts _ (List.mem_of_getElem? (i := 2) rfl)) (fun w h => hts w (List.mem_cons_of_mem _ (List.mem_append_right _ (h)))) ng_I gd_I (by decide +kernel) hX hP hS (hl.1.trans hml.symm) dX5_checkBand_9 dX5_checkBand_12 dX5_checkBand_13 dX5_checkBand_15 dX5_checkBand_18 hout (Nat.le_of_ble_eq_true rfl) (Nat.le_of_ble_eq_true rfl) (Nat.le_of_ble_eq_true rfl) (Nat.le_of_ble_eq_true rfl) hlocks (⟨rfl, by omega⟩) (Nat.le_of_ble_eq_true rfl) (Nat.le_of_ble_eq_true rfl)

set_option maxRecDepth 100000 in
set_option maxHeartbeats 4000000 in
theorem c_X5_checkExaminer (l : Launch) (hst : l.stackTraces = false) (de mi : Nat) (D : va_G) (cy : Nat → ClassId) (M : mM) (sz : Nat) (x : Int32) (ux : Int)  (px : x.toInt = ux) : mVv l yX5_checkExaminer wsX5_checkExaminer ({ frames := 6, cells := 1, slots := 6, locals := 82 } : Room) de mi D cy M sz [.int x] (fun M' => (0 ≤ ux ∧ ux < 6) ∧ M' = M) (fun E => E = "java/lang/IndexOutOfBoundsException" ∧ ¬ (0 ≤ ux ∧ ux < 6)) 1 6 := by
  refine mV.of (cc := cX5_checkExaminer) (maxL := 1) (ret := none) (by decide) rfl (Nat.le_of_ble_eq_true rfl) ?_
  intro p e s m args below meth c ls hsz hx hb hr hts hown hlocks hml hout hname hP hD hS hA hK hX hl
  have hl : lv_has ls 1 [(0, .int x)] := hl
  have hown : s.vm.findClass RX5 = some m.cls := hown
  refine lv_iload_n hx hb dX5_checkExaminer_0 rfl (lv_at hl 0 rfl) ?_
  refine z_if_lt (u := ux) (tgt := 10) hx hb (px) dX5_checkExaminer_1 (by decide) (fun c_1 => ?_) (fun c_1 => ?_)
  · exact e_thS (text := "there is no such examiner") hx hb hst hown (by decide) (hts _ (List.mem_of_getElem? (i := 1) rfl)) (hts _ (List.mem_of_getElem? (i := 2) rfl)) (fun w h => hts w (List.mem_cons_of_mem _ (List.mem_append_right _ (h)))) ng_I gd_I (by decide +kernel) hX hP hS (hl.1.trans hml.symm) dX5_checkExaminer_10 dX5_checkExaminer_13 dX5_checkExaminer_14 dX5_checkExaminer_16 dX5_checkExaminer_19 hout (Nat.le_of_ble_eq_true rfl) (Nat.le_of_ble_eq_true rfl) (Nat.le_of_ble_eq_true rfl) (Nat.le_of_ble_eq_true rfl) hlocks (⟨rfl, by omega⟩) (Nat.le_of_ble_eq_true rfl) (Nat.le_of_ble_eq_true rfl)
  · refine lv_iload_n hx hb dX5_checkExaminer_4 rfl (lv_at hl 0 rfl) ?_
    refine lv_bipush (v := (nI 6)) hx hb dX5_checkExaminer_5 (by decide) ?_
    refine z_icmp_lt (u := ux) (v := ((6 : Nat) : Int)) (tgt := 20) hx hb (px) (nI_toInt (by omega)) dX5_checkExaminer_7 (by decide) (fun c_7 => ?_) (fun c_7 => ?_)
    · exact vx_ret (e_wv hx hb hr hlocks hP hD hS (⟨by omega, rfl⟩) dX5_checkExaminer_20)
    · exact e_thS (text := "there is no such examiner") hx hb hst hown (by decide) (hts _ (List.mem_of_getElem? (i := 1) rfl)) (hts _ (List.mem_of_getElem? (i := 2) rfl)) (fun w h => hts w (List.mem_cons_of_mem _ (List.mem_append_right _ (h)))) ng_I gd_I (by decide +kernel) hX hP hS (hl.1.trans hml.symm) dX5_checkExaminer_10 dX5_checkExaminer_13 dX5_checkExaminer_14 dX5_checkExaminer_16 dX5_checkExaminer_19 hout (Nat.le_of_ble_eq_true rfl) (Nat.le_of_ble_eq_true rfl) (Nat.le_of_ble_eq_true rfl) (Nat.le_of_ble_eq_true rfl) hlocks (⟨rfl, by omega⟩) (Nat.le_of_ble_eq_true rfl) (Nat.le_of_ble_eq_true rfl)

set_option maxRecDepth 100000 in
set_option maxHeartbeats 4000000 in
theorem c_X5_bandOf (l : Launch) (x : Int32) (ux : Int)  (px : x.toInt = ux) : mS l yX5_bandOf wsX5_bandOf ({ frames := 0, cells := 0, slots := 0, locals := 0 } : Room) [.int x] (fun r => r = nI (if ux ≤ 7 then 0 else if ux ≤ 11 then 1 else 2)) := by
  refine mS.of (cc := cX5_bandOf) (maxL := 1) (ret := (some .int)) (by decide) rfl (Nat.le_of_ble_eq_true rfl) ?_
  intro p e s m args below meth c ls hx hb hr hts hown hlocks hml hl
  have hl : lv_has ls 1 [(0, .int x)] := hl
  have hown : s.vm.findClass RX5 = some m.cls := hown
  refine lv_iload_n hx hb dX5_bandOf_0 rfl (lv_at hl 0 rfl) ?_
  refine lv_bipush (v := (nI 7)) hx hb dX5_bandOf_1 (by decide) ?_
  refine z_icmp_gt (u := ux) (v := ((7 : Nat) : Int)) (tgt := 8) hx hb (px) (nI_toInt (by omega)) dX5_bandOf_3 (by decide) (fun c_3 => ?_) (fun c_3 => ?_)
  · refine lv_iload_n hx hb dX5_bandOf_8 rfl (lv_at hl 0 rfl) ?_
    refine lv_bipush (v := (nI 11)) hx hb dX5_bandOf_9 (by decide) ?_
    refine z_icmp_gt (u := ux) (v := ((11 : Nat) : Int)) (tgt := 18) hx hb (px) (nI_toInt (by omega)) dX5_bandOf_11 (by decide) (fun c_11 => ?_) (fun c_11 => ?_)
    · refine lv_iconst (v := (nI 2)) hx hb dX5_bandOf_18 (by decide) ?_
      exact e_ri hx hb hr hlocks ((by first | rw [if_pos (by omega)] | (rw [if_neg (by omega)]; first | rw [if_pos (by omega)] | rw [if_neg (by omega)]))) dX5_bandOf_19
    · refine lv_iconst (v := (nI 1)) hx hb dX5_bandOf_14 (by decide) ?_
      refine lv_goto (tgt := 19) hx hb dX5_bandOf_15 (by decide) ?_
      exact e_ri hx hb hr hlocks ((by first | rw [if_pos (by omega)] | (rw [if_neg (by omega)]; first | rw [if_pos (by omega)] | rw [if_neg (by omega)]))) dX5_bandOf_19
  · refine lv_iconst (v := (nI 0)) hx hb dX5_bandOf_6 (by decide) ?_
    exact e_ri hx hb hr hlocks ((by first | rw [if_pos (by omega)] | (rw [if_neg (by omega)]; first | rw [if_pos (by omega)] | rw [if_neg (by omega)]))) dX5_bandOf_7

set_option maxRecDepth 100000 in
set_option maxHeartbeats 4000000 in
theorem c_X5_letterNumbered (l : Launch) (hst : l.stackTraces = false) (de mi : Nat) (D : va_G) (cy : Nat → ClassId) (M : mM) (sz : Nat) (a pe pr le pu sc io : Nat) (el n mo cap : Nat) (g : Nat → Option Nat) (ad : Nat → Nat) (fs : Nat → List Value) (x : Int32) (ux : Int)  (f_a : M a = some (.inr (6, [.ref pe, .ref pr, .ref le, .ref pu, .ref sc, .ref io]))) (f_le : M le = some (.inr (0, [.int (nI mo), .ref el, .int (nI n)]))) (hnc : n ≤ cap) (hcap : cap < 1000) (hel9 : 0 < n → M el = some (eQ cy cap g)) (hg9 : ∀ j : Nat, j < n → g j = some (ad j) ∧ M (ad j) = some (.inr (5, fs j))) (px : x.toInt = ux) : mVr l yX5_letterNumbered wsX5_letterNumbered ({ frames := 6, cells := 1, slots := 6, locals := 82 } : Room) de mi D cy M sz [.ref a, .int x] (fun r M' => (0 ≤ ux ∧ ux < n) ∧ r = ad ux.toNat ∧ M' = M) (fun E => E = "java/lang/IndexOutOfBoundsException" ∧ ¬ (0 ≤ ux ∧ ux < n)) 1 6 := by
  refine mV.of (cc := cX5_letterNumbered) (maxL := 2) (ret := (some (.object "InkHall$Strokes"))) (by decide) rfl (Nat.le_of_ble_eq_true rfl) ?_
  intro p e s m args below meth c ls hsz hx hb hr hts hown hlocks hml hout hname hP hD hS hA hK hX hl
  have hl : lv_has ls 2 [(0, .ref a), (1, .int x)] := hl
  have hown : s.vm.findClass RX5 = some m.cls := hown
  have hwX5 : ∀ w ∈ wsX50, w.before args s = true := fun w h => hts w (List.mem_cons_of_mem _ (List.mem_append_left _ (List.mem_append_left _ (List.mem_append_right _ (h)))))
  have hwJx4a65c : ∀ w ∈ wsJx4a65c0, w.before args s = true := fun w h => hts w (List.mem_cons_of_mem _ (List.mem_append_left _ (List.mem_append_right _ (h))))
  have n_a_le : a ≠ le := ne_cell f_a f_le (fun h9 => by simp at h9)
  refine lv_iload_n hx hb dX5_letterNumbered_0 rfl (lv_at hl 1 rfl) ?_
  refine z_if_lt (u := ux) (tgt := 15) hx hb (px) dX5_letterNumbered_1 (by decide) (fun c_1 => ?_) (fun c_1 => ?_)
  · exact e_thS (text := "there is no such letter") hx hb hst hown (by decide) (hts _ (List.mem_of_getElem? (i := 1) rfl)) (hts _ (List.mem_of_getElem? (i := 2) rfl)) (fun w h => hts w (List.mem_cons_of_mem _ (List.mem_append_right _ (h)))) ng_I gd_I (by decide +kernel) hX hP hS (hl.1.trans hml.symm) dX5_letterNumbered_15 dX5_letterNumbered_18 dX5_letterNumbered_19 dX5_letterNumbered_21 dX5_letterNumbered_24 hout (Nat.le_of_ble_eq_true rfl) (Nat.le_of_ble_eq_true rfl) (Nat.le_of_ble_eq_true rfl) (Nat.le_of_ble_eq_true rfl) hlocks (⟨rfl, by omega⟩) (Nat.le_of_ble_eq_true rfl) (Nat.le_of_ble_eq_true rfl)
  · refine lv_iload_n hx hb dX5_letterNumbered_4 rfl (lv_at hl 1 rfl) ?_
    refine lv_aload_n hx hb dX5_letterNumbered_5 rfl (lv_at hl 0 rfl) ?_
    refine m_get (T := TX5) (N := 6) (ci := 6) (fs := [.ref pe, .ref pr, .ref le, .ref pu, .ref sc, .ref io]) hx hb hwX5 hown hK hP f_a rfl 2 (by decide) (hts _ (List.mem_of_getElem? (i := 3) rfl)) (v := .ref le) rfl dX5_letterNumbered_6 ?_
    refine vp_callSi (W.runV (C := RJx4a65c) (As := []) (rest := [.int x]) ⟨hx, hb, hml, hown, hts⟩ (c_Jx4a65c_size_8abf5 l D cy _ le n mo el f_le) (cwV 0 hts gX5_letterNumbered_Jx4a65c_size_8abf5 rfl rfl rfl (by decide +kernel) ⟨Nat.le_of_ble_eq_true rfl, Nat.le_of_ble_eq_true rfl⟩) (mPreV hK hP f_le (ci := 0) rfl) rfl rfl hl.1 rfl (lv_room (Nat.le_of_ble_eq_true rfl)) dX5_letterNumbered_9 ⟨Nat.le_of_ble_eq_true rfl, Nat.le_of_ble_eq_true rfl⟩) (fun r9 hr9 => ?_)
    have hr9 : r9 = (nI n) := hr9
    subst hr9
    refine z_icmp_lt (u := ux) (v := ((n : Nat) : Int)) (tgt := 25) hx hb (px) (nI_toInt (by omega)) dX5_letterNumbered_12 (by decide) (fun c_12 => ?_) (fun c_12 => ?_)
    · refine lv_aload_n hx hb dX5_letterNumbered_25 rfl (lv_at hl 0 rfl) ?_
      have ex_1 : x = (nI ux.toNat) := nI_of_toInt (px) (by omega)
      have hl : lv_has ls 2 [(0, .ref a), (1, .int (nI ux.toNat))] := by
        rw [← ex_1]
        exact hl
      have hu9 : ux.toNat < n := (by omega)
      have f_el := hel9 (by omega)
      have f_ad := (hg9 ux.toNat hu9).2
      refine m_get (T := TX5) (N := 6) (ci := 6) (fs := [.ref pe, .ref pr, .ref le, .ref pu, .ref sc, .ref io]) hx hb hwX5 hown hK hP f_a rfl 2 (by decide) (hts _ (List.mem_of_getElem? (i := 3) rfl)) (v := .ref le) rfl dX5_letterNumbered_26 ?_
      refine lv_iload_n hx hb dX5_letterNumbered_29 rfl (lv_at hl 1 rfl) ?_
      refine m_callr (va_runV (C := RJx4a65c) (As := [.int (nI ux.toNat)]) (rest := []) ⟨hx, hb, hml, hown, hts⟩ (c_Jx4a65c_get_915e3 l D cy _ _ le el n mo cap g ux.toNat (ad ux.toNat) f_le f_el hu9 hnc hcap (hg9 ux.toNat hu9).1) (cwV 1 hts gX5_letterNumbered_Jx4a65c_get_915e3 rfl rfl rfl (by decide +kernel) ⟨Nat.le_of_ble_eq_true rfl, Nat.le_of_ble_eq_true rfl⟩) (mPreWV hK hP f_le (ci := 0) rfl) rfl rfl hl.1 rfl (lv_room (Nat.le_of_ble_eq_true rfl)) dX5_letterNumbered_30 ⟨Nat.le_of_ble_eq_true rfl, Nat.le_of_ble_eq_true rfl⟩) hD hA hS (fun r9 Mn H locs hq9 hP hD hS hz9 hd9 hk9 => ?_)
      obtain ⟨hr9, hq9⟩ := hq9
      rw [hr9]
      have hq9 : Mn = M := hq9
      rw [hq9] at hP hD
      refine m_cast (ci := 5) hx hb hown (hts _ (List.mem_of_getElem? (i := 4) rfl)) hK hP f_ad rfl rfl dX5_letterNumbered_33 ?_
      exact vx_ret (e_wr hx hb hr (Or.inl ⟨_, rfl⟩) hlocks hP hD hS (⟨by omega, rfl, rfl⟩) dX5_letterNumbered_36)
    · exact e_thS (text := "there is no such letter") hx hb hst hown (by decide) (hts _ (List.mem_of_getElem? (i := 1) rfl)) (hts _ (List.mem_of_getElem? (i := 2) rfl)) (fun w h => hts w (List.mem_cons_of_mem _ (List.mem_append_right _ (h)))) ng_I gd_I (by decide +kernel) hX hP hS (hl.1.trans hml.symm) dX5_letterNumbered_15 dX5_letterNumbered_18 dX5_letterNumbered_19 dX5_letterNumbered_21 dX5_letterNumbered_24 hout (Nat.le_of_ble_eq_true rfl) (Nat.le_of_ble_eq_true rfl) (Nat.le_of_ble_eq_true rfl) (Nat.le_of_ble_eq_true rfl) hlocks (⟨rfl, by omega⟩) (Nat.le_of_ble_eq_true rfl) (Nat.le_of_ble_eq_true rfl)

set_option maxRecDepth 100000 in
set_option maxHeartbeats 4000000 in
theorem c_X5_pupilNumbered (l : Launch) (hst : l.stackTraces = false) (de mi : Nat) (D : va_G) (cy : Nat → ClassId) (M : mM) (sz : Nat) (a pe pr le pu sc io : Nat) (el n mo cap : Nat) (g : Nat → Option Nat) (ad : Nat → Nat) (fs : Nat → List Value) (x : Int32) (ux : Int)  (f_a : M a = some (.inr (6, [.ref pe, .ref pr, .ref le, .ref pu, .ref sc, .ref io]))) (f_pu : M pu = some (.inr (0, [.int (nI mo), .ref el, .int (nI n)]))) (hnc : n ≤ cap) (hcap : cap < 1000) (hel9 : 0 < n → M el = some (eQ cy cap g)) (hg9 : ∀ j : Nat, j < n → g j = some (ad j) ∧ M (ad j) = some (.inr (3, fs j))) (px : x.toInt = ux) : mVr l yX5_pupilNumbered wsX5_pupilNumbered ({ frames := 6, cells := 1, slots := 6, locals := 82 } : Room) de mi D cy M sz [.ref a, .int x] (fun r M' => (0 ≤ ux ∧ ux < n) ∧ r = ad ux.toNat ∧ M' = M) (fun E => E = "java/lang/IndexOutOfBoundsException" ∧ ¬ (0 ≤ ux ∧ ux < n)) 1 6 := by
  refine mV.of (cc := cX5_pupilNumbered) (maxL := 2) (ret := (some (.object "InkHall$Pupil"))) (by decide) rfl (Nat.le_of_ble_eq_true rfl) ?_
  intro p e s m args below meth c ls hsz hx hb hr hts hown hlocks hml hout hname hP hD hS hA hK hX hl
  have hl : lv_has ls 2 [(0, .ref a), (1, .int x)] := hl
  have hown : s.vm.findClass RX5 = some m.cls := hown
  have hwX5 : ∀ w ∈ wsX50, w.before args s = true := fun w h => hts w (List.mem_cons_of_mem _ (List.mem_append_left _ (List.mem_append_left _ (List.mem_append_right _ (h)))))
  have hwJx4a65c : ∀ w ∈ wsJx4a65c0, w.before args s = true := fun w h => hts w (List.mem_cons_of_mem _ (List.mem_append_left _ (List.mem_append_right _ (h))))
  have n_a_pu : a ≠ pu := ne_cell f_a f_pu (fun h9 => by simp at h9)
  refine lv_iload_n hx hb dX5_pupilNumbered_0 rfl (lv_at hl 1 rfl) ?_
  refine z_if_lt (u := ux) (tgt := 15) hx hb (px) dX5_pupilNumbered_1 (by decide) (fun c_1 => ?_) (fun c_1 => ?_)
  · exact e_thW (text := "there is no such pupil") hx hb hst hown (by decide) (hts _ (List.mem_of_getElem? (i := 1) rfl)) (hts _ (List.mem_of_getElem? (i := 2) rfl)) (fun w h => hts w (List.mem_cons_of_mem _ (List.mem_append_right _ (h)))) ng_I gd_I (by decide +kernel) hX hP hS (hl.1.trans hml.symm) dX5_pupilNumbered_15 dX5_pupilNumbered_18 dX5_pupilNumbered_19 dX5_pupilNumbered_22 dX5_pupilNumbered_25 hout (Nat.le_of_ble_eq_true rfl) (Nat.le_of_ble_eq_true rfl) (Nat.le_of_ble_eq_true rfl) (Nat.le_of_ble_eq_true rfl) hlocks (⟨rfl, by omega⟩) (Nat.le_of_ble_eq_true rfl) (Nat.le_of_ble_eq_true rfl)
  · refine lv_iload_n hx hb dX5_pupilNumbered_4 rfl (lv_at hl 1 rfl) ?_
    refine lv_aload_n hx hb dX5_pupilNumbered_5 rfl (lv_at hl 0 rfl) ?_
    refine m_get (T := TX5) (N := 6) (ci := 6) (fs := [.ref pe, .ref pr, .ref le, .ref pu, .ref sc, .ref io]) hx hb hwX5 hown hK hP f_a rfl 3 (by decide) (hts _ (List.mem_of_getElem? (i := 3) rfl)) (v := .ref pu) rfl dX5_pupilNumbered_6 ?_
    refine vp_callSi (W.runV (C := RJx4a65c) (As := []) (rest := [.int x]) ⟨hx, hb, hml, hown, hts⟩ (c_Jx4a65c_size_8abf5 l D cy _ pu n mo el f_pu) (cwV 0 hts gX5_pupilNumbered_Jx4a65c_size_8abf5 rfl rfl rfl (by decide +kernel) ⟨Nat.le_of_ble_eq_true rfl, Nat.le_of_ble_eq_true rfl⟩) (mPreV hK hP f_pu (ci := 0) rfl) rfl rfl hl.1 rfl (lv_room (Nat.le_of_ble_eq_true rfl)) dX5_pupilNumbered_9 ⟨Nat.le_of_ble_eq_true rfl, Nat.le_of_ble_eq_true rfl⟩) (fun r9 hr9 => ?_)
    have hr9 : r9 = (nI n) := hr9
    subst hr9
    refine z_icmp_lt (u := ux) (v := ((n : Nat) : Int)) (tgt := 26) hx hb (px) (nI_toInt (by omega)) dX5_pupilNumbered_12 (by decide) (fun c_12 => ?_) (fun c_12 => ?_)
    · have ex_1 : x = (nI ux.toNat) := nI_of_toInt (px) (by omega)
      have hl : lv_has ls 2 [(0, .ref a), (1, .int (nI ux.toNat))] := by
        rw [← ex_1]
        exact hl
      have hu9 : ux.toNat < n := (by omega)
      have f_el := hel9 (by omega)
      have f_ad := (hg9 ux.toNat hu9).2
      refine lv_aload_n hx hb dX5_pupilNumbered_26 rfl (lv_at hl 0 rfl) ?_
      refine m_get (T := TX5) (N := 6) (ci := 6) (fs := [.ref pe, .ref pr, .ref le, .ref pu, .ref sc, .ref io]) hx hb hwX5 hown hK hP f_a rfl 3 (by decide) (hts _ (List.mem_of_getElem? (i := 3) rfl)) (v := .ref pu) rfl dX5_pupilNumbered_27 ?_
      refine lv_iload_n hx hb dX5_pupilNumbered_30 rfl (lv_at hl 1 rfl) ?_
      refine m_callr (va_runV (C := RJx4a65c) (As := [.int (nI ux.toNat)]) (rest := []) ⟨hx, hb, hml, hown, hts⟩ (c_Jx4a65c_get_915e3 l D cy _ _ pu el n mo cap g ux.toNat (ad ux.toNat) f_pu f_el hu9 hnc hcap (hg9 ux.toNat hu9).1) (cwV 1 hts gX5_pupilNumbered_Jx4a65c_get_915e3 rfl rfl rfl (by decide +kernel) ⟨Nat.le_of_ble_eq_true rfl, Nat.le_of_ble_eq_true rfl⟩) (mPreWV hK hP f_pu (ci := 0) rfl) rfl rfl hl.1 rfl (lv_room (Nat.le_of_ble_eq_true rfl)) dX5_pupilNumbered_31 ⟨Nat.le_of_ble_eq_true rfl, Nat.le_of_ble_eq_true rfl⟩) hD hA hS (fun r9 Mn H locs hq9 hP hD hS hz9 hd9 hk9 => ?_)
      obtain ⟨hr9, hq9⟩ := hq9
      rw [hr9]
      have hq9 : Mn = M := hq9
      rw [hq9] at hP hD
      refine m_cast (ci := 3) hx hb hown (hts _ (List.mem_of_getElem? (i := 4) rfl)) hK hP f_ad rfl rfl dX5_pupilNumbered_34 ?_
      exact vx_ret (e_wr hx hb hr (Or.inl ⟨_, rfl⟩) hlocks hP hD hS (⟨by omega, rfl, rfl⟩) dX5_pupilNumbered_37)
    · exact e_thW (text := "there is no such pupil") hx hb hst hown (by decide) (hts _ (List.mem_of_getElem? (i := 1) rfl)) (hts _ (List.mem_of_getElem? (i := 2) rfl)) (fun w h => hts w (List.mem_cons_of_mem _ (List.mem_append_right _ (h)))) ng_I gd_I (by decide +kernel) hX hP hS (hl.1.trans hml.symm) dX5_pupilNumbered_15 dX5_pupilNumbered_18 dX5_pupilNumbered_19 dX5_pupilNumbered_22 dX5_pupilNumbered_25 hout (Nat.le_of_ble_eq_true rfl) (Nat.le_of_ble_eq_true rfl) (Nat.le_of_ble_eq_true rfl) (Nat.le_of_ble_eq_true rfl) hlocks (⟨rfl, by omega⟩) (Nat.le_of_ble_eq_true rfl) (Nat.le_of_ble_eq_true rfl)

set_option maxRecDepth 100000 in
set_option maxHeartbeats 4000000 in
theorem c_X5_scriptNumbered (l : Launch) (hst : l.stackTraces = false) (de mi : Nat) (D : va_G) (cy : Nat → ClassId) (M : mM) (sz : Nat) (a pe pr le pu sc io : Nat) (el n mo cap : Nat) (g : Nat → Option Nat) (ad : Nat → Nat) (fs : Nat → List Value) (x : Int32) (ux : Int)  (f_a : M a = some (.inr (6, [.ref pe, .ref pr, .ref le, .ref pu, .ref sc, .ref io]))) (f_sc : M sc = some (.inr (0, [.int (nI mo), .ref el, .int (nI n)]))) (hnc : n ≤ cap) (hcap : cap < 1000) (hel9 : 0 < n → M el = some (eQ cy cap g)) (hg9 : ∀ j : Nat, j < n → g j = some (ad j) ∧ M (ad j) = some (.inr (4, fs j))) (px : x.toInt = ux) : mVr l yX5_scriptNumbered wsX5_scriptNumbered ({ frames := 6, cells := 1, slots := 6, locals := 82 } : Room) de mi D cy M sz [.ref a, .int x] (fun r M' => (0 ≤ ux ∧ ux < n) ∧ r = ad ux.toNat ∧ M' = M) (fun E => E = "java/lang/IndexOutOfBoundsException" ∧ ¬ (0 ≤ ux ∧ ux < n)) 1 6 := by
  refine mV.of (cc := cX5_scriptNumbered) (maxL := 2) (ret := (some (.object "InkHall$Script"))) (by decide) rfl (Nat.le_of_ble_eq_true rfl) ?_
  intro p e s m args below meth c ls hsz hx hb hr hts hown hlocks hml hout hname hP hD hS hA hK hX hl
  have hl : lv_has ls 2 [(0, .ref a), (1, .int x)] := hl
  have hown : s.vm.findClass RX5 = some m.cls := hown
  have hwX5 : ∀ w ∈ wsX50, w.before args s = true := fun w h => hts w (List.mem_cons_of_mem _ (List.mem_append_left _ (List.mem_append_left _ (List.mem_append_right _ (h)))))
  have hwJx4a65c : ∀ w ∈ wsJx4a65c0, w.before args s = true := fun w h => hts w (List.mem_cons_of_mem _ (List.mem_append_left _ (List.mem_append_right _ (h))))
  have n_a_sc : a ≠ sc := ne_cell f_a f_sc (fun h9 => by simp at h9)
  refine lv_iload_n hx hb dX5_scriptNumbered_0 rfl (lv_at hl 1 rfl) ?_
  refine z_if_lt (u := ux) (tgt := 15) hx hb (px) dX5_scriptNumbered_1 (by decide) (fun c_1 => ?_) (fun c_1 => ?_)
  · exact e_thW (text := "there is no such script") hx hb hst hown (by decide) (hts _ (List.mem_of_getElem? (i := 1) rfl)) (hts _ (List.mem_of_getElem? (i := 2) rfl)) (fun w h => hts w (List.mem_cons_of_mem _ (List.mem_append_right _ (h)))) ng_I gd_I (by decide +kernel) hX hP hS (hl.1.trans hml.symm) dX5_scriptNumbered_15 dX5_scriptNumbered_18 dX5_scriptNumbered_19 dX5_scriptNumbered_22 dX5_scriptNumbered_25 hout (Nat.le_of_ble_eq_true rfl) (Nat.le_of_ble_eq_true rfl) (Nat.le_of_ble_eq_true rfl) (Nat.le_of_ble_eq_true rfl) hlocks (⟨rfl, by omega⟩) (Nat.le_of_ble_eq_true rfl) (Nat.le_of_ble_eq_true rfl)
  · refine lv_iload_n hx hb dX5_scriptNumbered_4 rfl (lv_at hl 1 rfl) ?_
    refine lv_aload_n hx hb dX5_scriptNumbered_5 rfl (lv_at hl 0 rfl) ?_
    refine m_get (T := TX5) (N := 6) (ci := 6) (fs := [.ref pe, .ref pr, .ref le, .ref pu, .ref sc, .ref io]) hx hb hwX5 hown hK hP f_a rfl 4 (by decide) (hts _ (List.mem_of_getElem? (i := 3) rfl)) (v := .ref sc) rfl dX5_scriptNumbered_6 ?_
    refine vp_callSi (W.runV (C := RJx4a65c) (As := []) (rest := [.int x]) ⟨hx, hb, hml, hown, hts⟩ (c_Jx4a65c_size_8abf5 l D cy _ sc n mo el f_sc) (cwV 0 hts gX5_scriptNumbered_Jx4a65c_size_8abf5 rfl rfl rfl (by decide +kernel) ⟨Nat.le_of_ble_eq_true rfl, Nat.le_of_ble_eq_true rfl⟩) (mPreV hK hP f_sc (ci := 0) rfl) rfl rfl hl.1 rfl (lv_room (Nat.le_of_ble_eq_true rfl)) dX5_scriptNumbered_9 ⟨Nat.le_of_ble_eq_true rfl, Nat.le_of_ble_eq_true rfl⟩) (fun r9 hr9 => ?_)
    have hr9 : r9 = (nI n) := hr9
    subst hr9
    refine z_icmp_lt (u := ux) (v := ((n : Nat) : Int)) (tgt := 26) hx hb (px) (nI_toInt (by omega)) dX5_scriptNumbered_12 (by decide) (fun c_12 => ?_) (fun c_12 => ?_)
    · have ex_1 : x = (nI ux.toNat) := nI_of_toInt (px) (by omega)
      have hl : lv_has ls 2 [(0, .ref a), (1, .int (nI ux.toNat))] := by
        rw [← ex_1]
        exact hl
      have hu9 : ux.toNat < n := (by omega)
      have f_el := hel9 (by omega)
      have f_ad := (hg9 ux.toNat hu9).2
      refine lv_aload_n hx hb dX5_scriptNumbered_26 rfl (lv_at hl 0 rfl) ?_
      refine m_get (T := TX5) (N := 6) (ci := 6) (fs := [.ref pe, .ref pr, .ref le, .ref pu, .ref sc, .ref io]) hx hb hwX5 hown hK hP f_a rfl 4 (by decide) (hts _ (List.mem_of_getElem? (i := 3) rfl)) (v := .ref sc) rfl dX5_scriptNumbered_27 ?_
      refine lv_iload_n hx hb dX5_scriptNumbered_30 rfl (lv_at hl 1 rfl) ?_
      refine m_callr (va_runV (C := RJx4a65c) (As := [.int (nI ux.toNat)]) (rest := []) ⟨hx, hb, hml, hown, hts⟩ (c_Jx4a65c_get_915e3 l D cy _ _ sc el n mo cap g ux.toNat (ad ux.toNat) f_sc f_el hu9 hnc hcap (hg9 ux.toNat hu9).1) (cwV 1 hts gX5_scriptNumbered_Jx4a65c_get_915e3 rfl rfl rfl (by decide +kernel) ⟨Nat.le_of_ble_eq_true rfl, Nat.le_of_ble_eq_true rfl⟩) (mPreWV hK hP f_sc (ci := 0) rfl) rfl rfl hl.1 rfl (lv_room (Nat.le_of_ble_eq_true rfl)) dX5_scriptNumbered_31 ⟨Nat.le_of_ble_eq_true rfl, Nat.le_of_ble_eq_true rfl⟩) hD hA hS (fun r9 Mn H locs hq9 hP hD hS hz9 hd9 hk9 => ?_)
      obtain ⟨hr9, hq9⟩ := hq9
      rw [hr9]
      have hq9 : Mn = M := hq9
      rw [hq9] at hP hD
      refine m_cast (ci := 4) hx hb hown (hts _ (List.mem_of_getElem? (i := 4) rfl)) hK hP f_ad rfl rfl dX5_scriptNumbered_34 ?_
      exact vx_ret (e_wr hx hb hr (Or.inl ⟨_, rfl⟩) hlocks hP hD hS (⟨by omega, rfl, rfl⟩) dX5_scriptNumbered_37)
    · exact e_thW (text := "there is no such script") hx hb hst hown (by decide) (hts _ (List.mem_of_getElem? (i := 1) rfl)) (hts _ (List.mem_of_getElem? (i := 2) rfl)) (fun w h => hts w (List.mem_cons_of_mem _ (List.mem_append_right _ (h)))) ng_I gd_I (by decide +kernel) hX hP hS (hl.1.trans hml.symm) dX5_scriptNumbered_15 dX5_scriptNumbered_18 dX5_scriptNumbered_19 dX5_scriptNumbered_22 dX5_scriptNumbered_25 hout (Nat.le_of_ble_eq_true rfl) (Nat.le_of_ble_eq_true rfl) (Nat.le_of_ble_eq_true rfl) (Nat.le_of_ble_eq_true rfl) hlocks (⟨rfl, by omega⟩) (Nat.le_of_ble_eq_true rfl) (Nat.le_of_ble_eq_true rfl)
