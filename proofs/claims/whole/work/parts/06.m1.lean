set_option maxRecDepth 100000 in
set_option maxHeartbeats 4000000 in
/-- in(x, y, z) -/
theorem c_X6_in (l : Launch) (x y z : Int32) (u v w : Int) (px : x.toInt = u) (py : y.toInt = v) (pz : z.toInt = w) : mS l yX6_in wsX6_in ({ frames := 0, cells := 0, slots := 0, locals := 0 } : Room) [.int x, .int y, .int z] (fun r => r = nI (b2 (inB u v w))) := by
  refine mS.of (cc := cX6_in) (maxL := 3) (ret := (some .boolean)) (by decide) rfl (Nat.le_of_ble_eq_true rfl) ?_
  intro p e s m args below meth c ls hx hb hr hts hown hlocks hml hl
  have hl : lv_has ls 3 [(0, .int x), (1, .int y), (2, .int z)] := hl
  have hown : s.vm.findClass RX6 = some m.cls := hown
  refine lv_iload_n hx hb dX6_in_0 rfl (lv_at hl 0 rfl) ?_
  refine lv_iload_n hx hb dX6_in_1 rfl (lv_at hl 1 rfl) ?_
  refine z_icmp_lt (u := u) (v := v) (tgt := 14) hx hb (px) (py) dX6_in_2 (by decide) (fun c_2 => ?_) (fun c_2 => ?_)
  · refine lv_iconst (v := (nI 0)) hx hb dX6_in_14 (by decide) ?_
    exact e_rz hx hb hr hlocks (by first | decide | exact b2_le _ | omega) ((show nI 0 = nI (b2 (inB u v w)) from (b2_n (by omega)).symm)) dX6_in_15
  · refine lv_iload_n hx hb dX6_in_5 rfl (lv_at hl 0 rfl) ?_
    refine lv_iload_n hx hb dX6_in_6 rfl (lv_at hl 2 rfl) ?_
    refine z_icmp_gt (u := u) (v := w) (tgt := 14) hx hb (px) (pz) dX6_in_7 (by decide) (fun c_7 => ?_) (fun c_7 => ?_)
    · refine lv_iconst (v := (nI 0)) hx hb dX6_in_14 (by decide) ?_
      exact e_rz hx hb hr hlocks (by first | decide | exact b2_le _ | omega) ((show nI 0 = nI (b2 (inB u v w)) from (b2_n (by omega)).symm)) dX6_in_15
    · refine lv_iconst (v := (nI 1)) hx hb dX6_in_10 (by decide) ?_
      refine lv_goto (tgt := 15) hx hb dX6_in_11 (by decide) ?_
      exact e_rz hx hb hr hlocks (by first | decide | exact b2_le _ | omega) ((show nI 1 = nI (b2 (inB u v w)) from (b2_d (by omega)).symm)) dX6_in_15

set_option maxRecDepth 100000 in
set_option maxHeartbeats 4000000 in
/-- areOneLine(a, b) -/
theorem c_X6_areOneLine (l : Launch) (a b : Nat) (ha : a < 2147483648) (hb2 : b < 2147483648) : mS l yX6_areOneLine wsX6_areOneLine ({ frames := 0, cells := 0, slots := 0, locals := 0 } : Room) [.int (nI a), .int (nI b)] (fun r => r = nI (b2 (oneLine a b))) := by
  refine mS.of (cc := cX6_areOneLine) (maxL := 2) (ret := (some .boolean)) (by decide) rfl (Nat.le_of_ble_eq_true rfl) ?_
  intro p e s m args below meth c ls hx hb hr hts hown hlocks hml hl
  have hl : lv_has ls 2 [(0, .int (nI a)), (1, .int (nI b))] := hl
  have hown : s.vm.findClass RX6 = some m.cls := hown
  refine lv_iload_n hx hb dX6_areOneLine_0 rfl (lv_at hl 0 rfl) ?_
  refine lv_iload_n hx hb dX6_areOneLine_1 rfl (lv_at hl 1 rfl) ?_
  refine z_icmp_eq (u := ((a : Nat) : Int)) (v := ((b : Nat) : Int)) (tgt := 27) hx hb (nI_toInt (by omega)) (nI_toInt (by omega)) dX6_areOneLine_2 (by decide) (fun c_2 => ?_) (fun c_2 => ?_)
  · refine lv_iconst (v := (nI 1)) hx hb dX6_areOneLine_27 (by decide) ?_
    refine lv_goto (tgt := 32) hx hb dX6_areOneLine_28 (by decide) ?_
    exact e_rz hx hb hr hlocks (by first | decide | exact b2_le _ | omega) ((show nI 1 = nI (b2 (oneLine a b)) from (b2_d (by omega)).symm)) dX6_areOneLine_32
  · refine lv_iload_n hx hb dX6_areOneLine_5 rfl (lv_at hl 0 rfl) ?_
    refine lv_bipush (v := (nI 10)) hx hb dX6_areOneLine_6 (by decide) ?_
    refine n_div (x := a) (y := 10) hx hb (by omega) (by omega) (by omega) dX6_areOneLine_8 ?_
    refine lv_iload_n hx hb dX6_areOneLine_9 rfl (lv_at hl 1 rfl) ?_
    refine lv_bipush (v := (nI 10)) hx hb dX6_areOneLine_10 (by decide) ?_
    refine n_rem (x := b) (y := 10) hx hb (by omega) (by omega) (by omega) dX6_areOneLine_12 ?_
    refine z_icmp_ne (u := ((a / 10 : Nat) : Int)) (v := ((b % 10 : Nat) : Int)) (tgt := 31) hx hb (nI_toInt (by omega)) (nI_toInt (by omega)) dX6_areOneLine_13 (by decide) (fun c_13 => ?_) (fun c_13 => ?_)
    · refine lv_iconst (v := (nI 0)) hx hb dX6_areOneLine_31 (by decide) ?_
      exact e_rz hx hb hr hlocks (by first | decide | exact b2_le _ | omega) ((show nI 0 = nI (b2 (oneLine a b)) from (b2_n (by omega)).symm)) dX6_areOneLine_32
    · refine lv_iload_n hx hb dX6_areOneLine_16 rfl (lv_at hl 0 rfl) ?_
      refine lv_bipush (v := (nI 10)) hx hb dX6_areOneLine_17 (by decide) ?_
      refine n_rem (x := a) (y := 10) hx hb (by omega) (by omega) (by omega) dX6_areOneLine_19 ?_
      refine lv_iload_n hx hb dX6_areOneLine_20 rfl (lv_at hl 1 rfl) ?_
      refine lv_bipush (v := (nI 10)) hx hb dX6_areOneLine_21 (by decide) ?_
      refine n_div (x := b) (y := 10) hx hb (by omega) (by omega) (by omega) dX6_areOneLine_23 ?_
      refine z_icmp_ne (u := ((a % 10 : Nat) : Int)) (v := ((b / 10 : Nat) : Int)) (tgt := 31) hx hb (nI_toInt (by omega)) (nI_toInt (by omega)) dX6_areOneLine_24 (by decide) (fun c_24 => ?_) (fun c_24 => ?_)
      · refine lv_iconst (v := (nI 0)) hx hb dX6_areOneLine_31 (by decide) ?_
        exact e_rz hx hb hr hlocks (by first | decide | exact b2_le _ | omega) ((show nI 0 = nI (b2 (oneLine a b)) from (b2_n (by omega)).symm)) dX6_areOneLine_32
      · refine lv_iconst (v := (nI 1)) hx hb dX6_areOneLine_27 (by decide) ?_
        refine lv_goto (tgt := 32) hx hb dX6_areOneLine_28 (by decide) ?_
        exact e_rz hx hb hr hlocks (by first | decide | exact b2_le _ | omega) ((show nI 1 = nI (b2 (oneLine a b)) from (b2_d (by omega)).symm)) dX6_areOneLine_32

set_option maxRecDepth 100000 in
set_option maxHeartbeats 4000000 in
/-- stack(b, q) -/
theorem c_X6_stack (l : Launch) (b q : Nat) (hb2 : b < 1000) (hq : q ≤ 1) : mS l yX6_stack wsX6_stack ({ frames := 0, cells := 0, slots := 0, locals := 0 } : Room) [.int (nI b), .int (nI q)] (fun r => r = nI (stackN b q)) := by
  refine mS.of (cc := cX6_stack) (maxL := 2) (ret := (some .int)) (by decide) rfl (Nat.le_of_ble_eq_true rfl) ?_
  intro p e s m args below meth c ls hx hb hr hts hown hlocks hml hl
  have hl : lv_has ls 2 [(0, .int (nI b)), (1, .int (nI q))] := hl
  have hown : s.vm.findClass RX6 = some m.cls := hown
  refine lv_iload_n hx hb dX6_stack_0 rfl (lv_at hl 1 rfl) ?_
  refine z_if_eq (u := ((q : Nat) : Int)) (tgt := 10) hx hb (nI_toInt (by omega)) dX6_stack_1 (by decide) (fun c_1 => ?_) (fun c_1 => ?_)
  · refine lv_iload_n hx hb dX6_stack_10 rfl (lv_at hl 0 rfl) ?_
    exact e_ri hx hb hr hlocks ((show (nI b) = nI (stackN b q) by unfold stackN; first | (rw [if_pos (by omega)]; done) | (rw [if_neg (by omega)]; done))) dX6_stack_11
  · refine lv_iconst (v := (nI 3)) hx hb dX6_stack_4 (by decide) ?_
    refine lv_iload_n hx hb dX6_stack_5 rfl (lv_at hl 0 rfl) ?_
    refine n_add (x := 3) (y := b) hx hb dX6_stack_6 ?_
    refine lv_goto (tgt := 11) hx hb dX6_stack_7 (by decide) ?_
    exact e_ri hx hb hr hlocks ((show (nI (3 + b)) = nI (stackN b q) by unfold stackN; first | (rw [if_pos (by omega)]; done) | (rw [if_neg (by omega)]; done))) dX6_stack_11

set_option maxRecDepth 100000 in
set_option maxHeartbeats 4000000 in
/-- isBand -/
theorem c_X6_isBand (l : Launch) (x : Int32) (u : Int) (px : x.toInt = u) : mS l yX6_isBand wsX6_isBand ({ frames := 1, cells := 0, slots := 0, locals := 22 } : Room) [.int x] (fun r => r = nI (b2 (inB u 0 2))) := by
  refine mS.of (cc := cX6_isBand) (maxL := 1) (ret := (some .boolean)) (by decide) rfl (Nat.le_of_ble_eq_true rfl) ?_
  intro p e s m args below meth c ls hx hb hr hts hown hlocks hml hl
  have hl : lv_has ls 1 [(0, .int x)] := hl
  have hown : s.vm.findClass RX6 = some m.cls := hown
  refine lv_iload_n hx hb dX6_isBand_0 rfl (lv_at hl 0 rfl) ?_
  refine lv_iconst (v := (nI 0)) hx hb dX6_isBand_1 (by decide) ?_
  refine lv_iconst (v := (nI 2)) hx hb dX6_isBand_2 (by decide) ?_
  refine vp_callSi (W.runS (As := [.int x, .int (nI 0), .int (nI 2)]) (rest := []) ⟨hx, hb, hml, hown, hts⟩ (c_X6_in l x (nI 0) (nI 2) u ((0 : Nat) : Int) ((2 : Nat) : Int) (px) (nI_toInt (by omega)) (nI_toInt (by omega))) (va_cwS 3 hts gX6_isBand_X6_in rfl rfl rfl (by decide +kernel) ⟨Nat.le_of_ble_eq_true rfl, Nat.le_of_ble_eq_true rfl⟩) mPre0 rfl rfl hl.1 rfl (lv_room (Nat.le_of_ble_eq_true rfl)) dX6_isBand_3 ⟨Nat.le_of_ble_eq_true rfl, Nat.le_of_ble_eq_true rfl⟩) (fun r9 hr9 => ?_)
  have hr9 : r9 = (nI (b2 (inB u ((0 : Nat) : Int) ((2 : Nat) : Int)))) := hr9
  subst hr9
  exact e_rz hx hb hr hlocks (by first | decide | exact b2_le _ | omega) (rfl) dX6_isBand_6

set_option maxRecDepth 100000 in
set_option maxHeartbeats 4000000 in
/-- isExaminer -/
theorem c_X6_isExaminer (l : Launch) (x : Int32) (u : Int) (px : x.toInt = u) : mS l yX6_isExaminer wsX6_isExaminer ({ frames := 1, cells := 0, slots := 0, locals := 22 } : Room) [.int x] (fun r => r = nI (b2 (inB u 0 5))) := by
  refine mS.of (cc := cX6_isExaminer) (maxL := 1) (ret := (some .boolean)) (by decide) rfl (Nat.le_of_ble_eq_true rfl) ?_
  intro p e s m args below meth c ls hx hb hr hts hown hlocks hml hl
  have hl : lv_has ls 1 [(0, .int x)] := hl
  have hown : s.vm.findClass RX6 = some m.cls := hown
  refine lv_iload_n hx hb dX6_isExaminer_0 rfl (lv_at hl 0 rfl) ?_
  refine lv_iconst (v := (nI 0)) hx hb dX6_isExaminer_1 (by decide) ?_
  refine lv_iconst (v := (nI 5)) hx hb dX6_isExaminer_2 (by decide) ?_
  refine vp_callSi (W.runS (As := [.int x, .int (nI 0), .int (nI 5)]) (rest := []) ⟨hx, hb, hml, hown, hts⟩ (c_X6_in l x (nI 0) (nI 5) u ((0 : Nat) : Int) ((5 : Nat) : Int) (px) (nI_toInt (by omega)) (nI_toInt (by omega))) (va_cwS 3 hts gX6_isExaminer_X6_in rfl rfl rfl (by decide +kernel) ⟨Nat.le_of_ble_eq_true rfl, Nat.le_of_ble_eq_true rfl⟩) mPre0 rfl rfl hl.1 rfl (lv_room (Nat.le_of_ble_eq_true rfl)) dX6_isExaminer_3 ⟨Nat.le_of_ble_eq_true rfl, Nat.le_of_ble_eq_true rfl⟩) (fun r9 hr9 => ?_)
  have hr9 : r9 = (nI (b2 (inB u ((0 : Nat) : Int) ((5 : Nat) : Int)))) := hr9
  subst hr9
  exact e_rz hx hb hr hlocks (by first | decide | exact b2_le _ | omega) (rfl) dX6_isExaminer_6

set_option maxRecDepth 100000 in
set_option maxHeartbeats 4000000 in
/-- isScript -/
theorem c_X6_isScript (l : Launch) (D : va_G) (cy : Nat → ClassId) (M : mM) (h : Nat) (ad : Nat → Nat) (t : Nat) (i : Nat → Nat) (f : Nat → Nat → Nat) (nc : Nat) (x : Int32) (u : Int) (hW : MW cy M h ad t i f) (hI : MI nc i f) (px : x.toInt = u) : mR l yX6_isScript wsX6_isScript ({ frames := 1, cells := 0, slots := 0, locals := 22 } : Room) D cy M [.ref h, .int x] (fun r => r = nI (b2 (inB u 0 ((i 10 : Int) - 1)))) := by
  refine mR.of (cc := cX6_isScript) (maxL := 2) (ret := (some .boolean)) (by decide) rfl (Nat.le_of_ble_eq_true rfl) ?_
  intro p e s m args below meth c ls hx hb hr hts hown hlocks hml hP hK hl
  have hl : lv_has ls 2 [(0, .ref h), (1, .int x)] := hl
  have hown : s.vm.findClass RX6 = some m.cls := hown
  have hwX6 : ∀ w ∈ wsX60, w.before args s = true := fun w h => hts w (List.mem_cons_of_mem _ (List.mem_append_right _ (h)))
  obtain ⟨hn, hi1, hi2, hi5, hi10, -⟩ := id hI
  refine lv_iload_n hx hb dX6_isScript_0 rfl (lv_at hl 1 rfl) ?_
  refine lv_iconst (v := (nI 0)) hx hb dX6_isScript_1 (by decide) ?_
  refine lv_aload_n hx hb dX6_isScript_2 rfl (lv_at hl 0 rfl) ?_
  refine m_get (T := TX6) (N := 24) (ci := 7) (fs := (moF ad t i)) hx hb hwX6 hown hK hP hW.1 rfl 10 (by decide) (hts _ (List.mem_of_getElem? (i := 1) rfl)) (v := .int (nI (i 10))) rfl dX6_isScript_3 ?_
  refine lv_iconst (v := (nI 1)) hx hb dX6_isScript_6 (by decide) ?_
  refine z_sub (u := ((i 10 : Nat) : Int)) (v := ((1 : Nat) : Int)) hx hb (nI_zI _) (nI_zI _) dX6_isScript_7 ?_
  refine vp_callSi (W.runS (As := [.int x, .int (nI 0), .int (zI (((i 10 : Nat) : Int) - ((1 : Nat) : Int)))]) (rest := []) ⟨hx, hb, hml, hown, hts⟩ (c_X6_in l x (nI 0) (zI (((i 10 : Nat) : Int) - ((1 : Nat) : Int))) u ((0 : Nat) : Int) (((i 10 : Nat) : Int) - ((1 : Nat) : Int)) (px) (nI_toInt (by omega)) (zI_toInt (by omega) (by omega))) (va_cwS 3 hts gX6_isScript_X6_in rfl rfl rfl (by decide +kernel) ⟨Nat.le_of_ble_eq_true rfl, Nat.le_of_ble_eq_true rfl⟩) mPre0 rfl rfl hl.1 rfl (lv_room (Nat.le_of_ble_eq_true rfl)) dX6_isScript_8 ⟨Nat.le_of_ble_eq_true rfl, Nat.le_of_ble_eq_true rfl⟩) (fun r9 hr9 => ?_)
  have hr9 : r9 = (nI (b2 (inB u ((0 : Nat) : Int) (((i 10 : Nat) : Int) - ((1 : Nat) : Int))))) := hr9
  subst hr9
  exact e_rz hx hb hr hlocks (by first | decide | exact b2_le _ | omega) (rfl) dX6_isScript_11

set_option maxRecDepth 100000 in
set_option maxHeartbeats 4000000 in
/-- isLetter -/
theorem c_X6_isLetter (l : Launch) (D : va_G) (cy : Nat → ClassId) (M : mM) (h : Nat) (ad : Nat → Nat) (t : Nat) (i : Nat → Nat) (f : Nat → Nat → Nat) (nc : Nat) (x : Int32) (u : Int) (hW : MW cy M h ad t i f) (hI : MI nc i f) (px : x.toInt = u) : mR l yX6_isLetter wsX6_isLetter ({ frames := 1, cells := 0, slots := 0, locals := 22 } : Room) D cy M [.ref h, .int x] (fun r => r = nI (b2 (inB u 0 ((i 2 : Int) - 1)))) := by
  refine mR.of (cc := cX6_isLetter) (maxL := 2) (ret := (some .boolean)) (by decide) rfl (Nat.le_of_ble_eq_true rfl) ?_
  intro p e s m args below meth c ls hx hb hr hts hown hlocks hml hP hK hl
  have hl : lv_has ls 2 [(0, .ref h), (1, .int x)] := hl
  have hown : s.vm.findClass RX6 = some m.cls := hown
  have hwX6 : ∀ w ∈ wsX60, w.before args s = true := fun w h => hts w (List.mem_cons_of_mem _ (List.mem_append_right _ (h)))
  obtain ⟨hn, hi1, hi2, hi5, hi10, -⟩ := id hI
  refine lv_iload_n hx hb dX6_isLetter_0 rfl (lv_at hl 1 rfl) ?_
  refine lv_iconst (v := (nI 0)) hx hb dX6_isLetter_1 (by decide) ?_
  refine lv_aload_n hx hb dX6_isLetter_2 rfl (lv_at hl 0 rfl) ?_
  refine m_get (T := TX6) (N := 24) (ci := 7) (fs := (moF ad t i)) hx hb hwX6 hown hK hP hW.1 rfl 2 (by decide) (hts _ (List.mem_of_getElem? (i := 1) rfl)) (v := .int (nI (i 2))) rfl dX6_isLetter_3 ?_
  refine lv_iconst (v := (nI 1)) hx hb dX6_isLetter_6 (by decide) ?_
  refine z_sub (u := ((i 2 : Nat) : Int)) (v := ((1 : Nat) : Int)) hx hb (nI_zI _) (nI_zI _) dX6_isLetter_7 ?_
  refine vp_callSi (W.runS (As := [.int x, .int (nI 0), .int (zI (((i 2 : Nat) : Int) - ((1 : Nat) : Int)))]) (rest := []) ⟨hx, hb, hml, hown, hts⟩ (c_X6_in l x (nI 0) (zI (((i 2 : Nat) : Int) - ((1 : Nat) : Int))) u ((0 : Nat) : Int) (((i 2 : Nat) : Int) - ((1 : Nat) : Int)) (px) (nI_toInt (by omega)) (zI_toInt (by omega) (by omega))) (va_cwS 3 hts gX6_isLetter_X6_in rfl rfl rfl (by decide +kernel) ⟨Nat.le_of_ble_eq_true rfl, Nat.le_of_ble_eq_true rfl⟩) mPre0 rfl rfl hl.1 rfl (lv_room (Nat.le_of_ble_eq_true rfl)) dX6_isLetter_8 ⟨Nat.le_of_ble_eq_true rfl, Nat.le_of_ble_eq_true rfl⟩) (fun r9 hr9 => ?_)
  have hr9 : r9 = (nI (b2 (inB u ((0 : Nat) : Int) (((i 2 : Nat) : Int) - ((1 : Nat) : Int))))) := hr9
  subst hr9
  exact e_rz hx hb hr hlocks (by first | decide | exact b2_le _ | omega) (rfl) dX6_isLetter_11

set_option maxRecDepth 100000 in
set_option maxHeartbeats 4000000 in
/-- thrown() -/
theorem c_X6_thrown (l : Launch) (D : va_G) (cy : Nat → ClassId) (M : mM) (h : Nat) (ad : Nat → Nat) (t : Nat) (i : Nat → Nat) (f : Nat → Nat → Nat) (nc : Nat)  (hW : MW cy M h ad t i f) (hI : MI nc i f)  : mR l yX6_thrown wsX6_thrown ({ frames := 0, cells := 0, slots := 0, locals := 0 } : Room) D cy M [.ref h] (fun r => r = nI t) := by
  refine mR.of (cc := cX6_thrown) (maxL := 1) (ret := (some .int)) (by decide) rfl (Nat.le_of_ble_eq_true rfl) ?_
  intro p e s m args below meth c ls hx hb hr hts hown hlocks hml hP hK hl
  have hl : lv_has ls 1 [(0, .ref h)] := hl
  have hown : s.vm.findClass RX6 = some m.cls := hown
  have hwX6 : ∀ w ∈ wsX60, w.before args s = true := fun w h => hts w (List.mem_cons_of_mem _ (List.mem_append_right _ (h)))
  refine lv_aload_n hx hb dX6_thrown_0 rfl (lv_at hl 0 rfl) ?_
  refine m_get (T := TX6) (N := 24) (ci := 7) (fs := (moF ad t i)) hx hb hwX6 hown hK hP hW.1 rfl 22 (by decide) (hts _ (List.mem_of_getElem? (i := 1) rfl)) (v := .int (nI t)) rfl dX6_thrown_1 ?_
  exact e_ri hx hb hr hlocks (rfl) dX6_thrown_4

set_option maxRecDepth 100000 in
set_option maxHeartbeats 4000000 in
/-- bandOf(q) -/
theorem c_X6_bandOf (l : Launch) (D : va_G) (cy : Nat → ClassId) (M : mM) (h : Nat) (ad : Nat → Nat) (t : Nat) (i : Nat → Nat) (f : Nat → Nat → Nat) (nc : Nat) (q : Nat) (hW : MW cy M h ad t i f) (hI : MI nc i f) (hq : q < 20) : mR l yX6_bandOf wsX6_bandOf ({ frames := 0, cells := 0, slots := 0, locals := 0 } : Room) D cy M [.ref h, .int (nI q)] (fun r => r = nI (bandP f q)) := by
  refine mR.of (cc := cX6_bandOf) (maxL := 2) (ret := (some .int)) (by decide) rfl (Nat.le_of_ble_eq_true rfl) ?_
  intro p e s m args below meth c ls hx hb hr hts hown hlocks hml hP hK hl
  have hl : lv_has ls 2 [(0, .ref h), (1, .int (nI q))] := hl
  have hown : s.vm.findClass RX6 = some m.cls := hown
  have hwX6 : ∀ w ∈ wsX60, w.before args s = true := fun w h => hts w (List.mem_cons_of_mem _ (List.mem_append_right _ (h)))
  refine lv_aload_n hx hb dX6_bandOf_0 rfl (lv_at hl 0 rfl) ?_
  refine m_get (T := TX6) (N := 24) (ci := 7) (fs := (moF ad t i)) hx hb hwX6 hown hK hP hW.1 rfl 7 (by decide) (hts _ (List.mem_of_getElem? (i := 1) rfl)) (v := .ref (ad 7)) rfl dX6_bandOf_1 ?_
  refine lv_iload_n hx hb dX6_bandOf_4 rfl (lv_at hl 1 rfl) ?_
  have bd_1 : (f 7) q ≤ 16 := hI.2.2.2.2.2 7 q
  refine n_iald (g := (f 7)) (n := 20) (i := q) hx hb hK hP (hW.2.1 7 (by decide)) (by omega) (by omega) dX6_bandOf_5 ?_
  refine lv_bipush (v := (nI 8)) hx hb dX6_bandOf_6 (by decide) ?_
  refine z_icmp_ge (u := (((f 7) q : Nat) : Int)) (v := ((8 : Nat) : Int)) (tgt := 15) hx hb (nI_toInt (by omega)) (nI_toInt (by omega)) dX6_bandOf_8 (by decide) (fun c_8 => ?_) (fun c_8 => ?_)
  · refine lv_aload_n hx hb dX6_bandOf_15 rfl (lv_at hl 0 rfl) ?_
    refine m_get (T := TX6) (N := 24) (ci := 7) (fs := (moF ad t i)) hx hb hwX6 hown hK hP hW.1 rfl 7 (by decide) (hts _ (List.mem_of_getElem? (i := 1) rfl)) (v := .ref (ad 7)) rfl dX6_bandOf_16 ?_
    refine lv_iload_n hx hb dX6_bandOf_19 rfl (lv_at hl 1 rfl) ?_
    have bd_2 : (f 7) q ≤ 16 := hI.2.2.2.2.2 7 q
    refine n_iald (g := (f 7)) (n := 20) (i := q) hx hb hK hP (hW.2.1 7 (by decide)) (by omega) (by omega) dX6_bandOf_20 ?_
    refine lv_bipush (v := (nI 12)) hx hb dX6_bandOf_21 (by decide) ?_
    refine z_icmp_ge (u := (((f 7) q : Nat) : Int)) (v := ((12 : Nat) : Int)) (tgt := 30) hx hb (nI_toInt (by omega)) (nI_toInt (by omega)) dX6_bandOf_23 (by decide) (fun c_23 => ?_) (fun c_23 => ?_)
    · refine lv_iconst (v := (nI 2)) hx hb dX6_bandOf_30 (by decide) ?_
      exact e_ri hx hb hr hlocks ((show (nI 2) = nI (bandP f q) by unfold bandP; first | (rw [if_pos (by omega)]; done) | (rw [if_neg (by omega), if_pos (by omega)]; done) | (rw [if_neg (by omega), if_neg (by omega)]; done))) dX6_bandOf_31
    · refine lv_iconst (v := (nI 1)) hx hb dX6_bandOf_26 (by decide) ?_
      refine lv_goto (tgt := 31) hx hb dX6_bandOf_27 (by decide) ?_
      exact e_ri hx hb hr hlocks ((show (nI 1) = nI (bandP f q) by unfold bandP; first | (rw [if_pos (by omega)]; done) | (rw [if_neg (by omega), if_pos (by omega)]; done) | (rw [if_neg (by omega), if_neg (by omega)]; done))) dX6_bandOf_31
  · refine lv_iconst (v := (nI 0)) hx hb dX6_bandOf_11 (by decide) ?_
    refine lv_goto (tgt := 31) hx hb dX6_bandOf_12 (by decide) ?_
    exact e_ri hx hb hr hlocks ((show (nI 0) = nI (bandP f q) by unfold bandP; first | (rw [if_pos (by omega)]; done) | (rw [if_neg (by omega), if_pos (by omega)]; done) | (rw [if_neg (by omega), if_neg (by omega)]; done))) dX6_bandOf_31

set_option maxRecDepth 100000 in
set_option maxHeartbeats 4000000 in
/-- asks(b) -/
theorem c_X6_asks (l : Launch) (D : va_G) (cy : Nat → ClassId) (M : mM) (sz : Nat) (h : Nat) (ad : Nat → Nat) (t : Nat) (i : Nat → Nat) (f : Nat → Nat → Nat) (nc : Nat) (b : Bool) (hW : MW cy M h ad t i f) (hI : MI nc i f)  : mWi l yX6_asks wsX6_asks ({ frames := 0, cells := 0, slots := 0, locals := 0 } : Room) D cy M sz [.ref h, .int (nI (b2 b))] (fun r M' => r = nI (b2 b) ∧ MW cy M' h ad (b2 (!b)) i f) 0 0 := by
  refine mW.of (cc := cX6_asks) (maxL := 2) (ret := (some .boolean)) (by decide) rfl (Nat.le_of_ble_eq_true rfl) ?_
  intro p e s m args below meth c ls hsz hx hb hr hts hown hlocks hml hname hP hD hS hA hK hl
  have hl : lv_has ls 2 [(0, .ref h), (1, .int (nI (b2 b)))] := hl
  have hown : s.vm.findClass RX6 = some m.cls := hown
  have hwX6 : ∀ w ∈ wsX60, w.before args s = true := fun w h => hts w (List.mem_cons_of_mem _ (List.mem_append_right _ (h)))
  refine lv_aload_n hx hb dX6_asks_0 rfl (lv_at hl 0 rfl) ?_
  refine lv_iload_n hx hb dX6_asks_1 rfl (lv_at hl 1 rfl) ?_
  refine b_if_eq (b := b) (tgt := 9) hx hb dX6_asks_2 (by decide) (fun c_2 => ?_) (fun c_2 => ?_)
  · refine lv_iconst (v := (nI 1)) hx hb dX6_asks_9 (by decide) ?_
    refine m_put (T := TX6) (N := 24) (ci := 7) (fs := (moF ad t i)) (v := .int (nI 1)) hx hb hwX6 tyX6 tyX6_ok nmX6 hown hK hP hD hS hW.1 rfl 22 (by decide) (hts _ (List.mem_of_getElem? (i := 1) rfl)) rfl (rfl) rfl (Nat.le_of_ble_eq_true rfl) dX6_asks_10 (fun H locs hP hD hS => ?_)
    have hW := hW.setO 1 i
    refine lv_iload_n hx hb dX6_asks_13 rfl (lv_at hl 1 rfl) ?_
    exact e_wz hx hb hr hlocks (by first | decide | exact b2_le _ | omega) hP hD hS (⟨rfl, (by rw [c_2] ; exact hW)⟩) dX6_asks_14
  · refine lv_iconst (v := (nI 0)) hx hb dX6_asks_5 (by decide) ?_
    refine lv_goto (tgt := 10) hx hb dX6_asks_6 (by decide) ?_
    refine m_put (T := TX6) (N := 24) (ci := 7) (fs := (moF ad t i)) (v := .int (nI 0)) hx hb hwX6 tyX6 tyX6_ok nmX6 hown hK hP hD hS hW.1 rfl 22 (by decide) (hts _ (List.mem_of_getElem? (i := 1) rfl)) rfl (rfl) rfl (Nat.le_of_ble_eq_true rfl) dX6_asks_10 (fun H locs hP hD hS => ?_)
    have hW := hW.setO 0 i
    refine lv_iload_n hx hb dX6_asks_13 rfl (lv_at hl 1 rfl) ?_
    exact e_wz hx hb hr hlocks (by first | decide | exact b2_le _ | omega) hP hD hS (⟨rfl, (by rw [c_2] ; exact hW)⟩) dX6_asks_14

set_option maxRecDepth 100000 in
set_option maxHeartbeats 4000000 in
/-- fails(k) -/
theorem c_X6_fails (l : Launch) (D : va_G) (cy : Nat → ClassId) (M : mM) (sz : Nat) (h : Nat) (ad : Nat → Nat) (t : Nat) (i : Nat → Nat) (f : Nat → Nat → Nat) (nc : Nat) (k : Nat) (hW : MW cy M h ad t i f) (hI : MI nc i f)  : mWi l yX6_fails wsX6_fails ({ frames := 0, cells := 0, slots := 0, locals := 0 } : Room) D cy M sz [.ref h, .int (nI k)] (fun r M' => r = nI 0 ∧ MW cy M' h ad k i f) 0 0 := by
  refine mW.of (cc := cX6_fails) (maxL := 2) (ret := (some .int)) (by decide) rfl (Nat.le_of_ble_eq_true rfl) ?_
  intro p e s m args below meth c ls hsz hx hb hr hts hown hlocks hml hname hP hD hS hA hK hl
  have hl : lv_has ls 2 [(0, .ref h), (1, .int (nI k))] := hl
  have hown : s.vm.findClass RX6 = some m.cls := hown
  have hwX6 : ∀ w ∈ wsX60, w.before args s = true := fun w h => hts w (List.mem_cons_of_mem _ (List.mem_append_right _ (h)))
  refine lv_aload_n hx hb dX6_fails_0 rfl (lv_at hl 0 rfl) ?_
  refine lv_iload_n hx hb dX6_fails_1 rfl (lv_at hl 1 rfl) ?_
  refine m_put (T := TX6) (N := 24) (ci := 7) (fs := (moF ad t i)) (v := .int (nI k)) hx hb hwX6 tyX6 tyX6_ok nmX6 hown hK hP hD hS hW.1 rfl 22 (by decide) (hts _ (List.mem_of_getElem? (i := 1) rfl)) rfl (rfl) rfl (Nat.le_of_ble_eq_true rfl) dX6_fails_2 (fun H locs hP hD hS => ?_)
  have hW := hW.setO k i
  refine lv_iconst (v := (nI 0)) hx hb dX6_fails_5 (by decide) ?_
  exact e_wi hx hb hr hlocks hP hD hS (⟨rfl, hW⟩) dX6_fails_6

set_option maxRecDepth 100000 in
set_option maxHeartbeats 4000000 in
/-- strokeOn(s, k) -/
theorem c_X6_strokeOn (l : Launch) (D : va_G) (cy : Nat → ClassId) (M : mM) (h : Nat) (ad : Nat → Nat) (t : Nat) (i : Nat → Nat) (f : Nat → Nat → Nat) (nc : Nat) (s1 k : Nat) (hW : MW cy M h ad t i f) (hI : MI nc i f) (hs : s1 < 40) (hk : k < 8) : mR l yX6_strokeOn wsX6_strokeOn ({ frames := 1, cells := 0, slots := 0, locals := 21 } : Room) D cy M [.ref h, .int (nI s1), .int (nI k)] (fun r => r = zI (sOn f s1 k)) := by
  refine mR.of (cc := cX6_strokeOn) (maxL := 6) (ret := (some .int)) (by decide) rfl (Nat.le_of_ble_eq_true rfl) ?_
  intro p e s m args below meth c ls hx hb hr hts hown hlocks hml hP hK hl
  have hl : lv_has ls 6 [(0, .ref h), (1, .int (nI s1)), (2, .int (nI k))] := hl
  have hown : s.vm.findClass RX6 = some m.cls := hown
  have hwX6 : ∀ w ∈ wsX60, w.before args s = true := fun w h => hts w (List.mem_cons_of_mem _ (List.mem_append_right _ (h)))
  refine lv_aload_n hx hb dX6_strokeOn_0 rfl (lv_at hl 0 rfl) ?_
  refine m_get (T := TX6) (N := 24) (ci := 7) (fs := (moF ad t i)) hx hb hwX6 hown hK hP hW.1 rfl 14 (by decide) (hts _ (List.mem_of_getElem? (i := 1) rfl)) (v := .ref (ad 14)) rfl dX6_strokeOn_1 ?_
  refine lv_iload_n hx hb dX6_strokeOn_4 rfl (lv_at hl 1 rfl) ?_
  have bd_1 : (f 14) s1 ≤ 9 := hI.2.2.2.2.2 14 s1
  refine n_iald (g := (f 14)) (n := 40) (i := s1) hx hb hK hP (hW.2.1 14 (by decide)) (by omega) (by omega) dX6_strokeOn_5 ?_
  refine lv_istore_n (lv' := [(3, .int (nI ((f 14) s1))), (0, .ref h), (1, .int (nI s1)), (2, .int (nI k))]) hx hb dX6_strokeOn_6 rfl hl (by decide) rfl (fun ls hl => ?_)
  refine lv_iconst (v := (zI (-1))) hx hb dX6_strokeOn_7 (by decide) ?_
  refine lv_istore (lv' := [(4, .int (zI (-1))), (3, .int (nI ((f 14) s1))), (0, .ref h), (1, .int (nI s1)), (2, .int (nI k))]) hx hb dX6_strokeOn_8 hl (by decide) rfl (fun ls hl => ?_)
  refine lv_iconst (v := (nI 0)) hx hb dX6_strokeOn_10 (by decide) ?_
  refine lv_istore (lv' := [(5, .int (nI 0)), (4, .int (zI (-1))), (3, .int (nI ((f 14) s1))), (0, .ref h), (1, .int (nI s1)), (2, .int (nI k))]) hx hb dX6_strokeOn_11 hl (by decide) rfl (fun ls hl => ?_)
  have K13 : ∀ (n : Nat) (j : Nat), 6 - j < n → (j ≤ f 4 (f 14 s1)) → ∀ (ls : Array Slot), lv_has ls 6 [(0, .ref h), (1, .int (nI s1)), (2, .int (nI k)), (3, .int (nI (f 14 s1))), (4, .int (zI (sOnA f s1 k j))), (5, .int (nI j))] → W p l e ({ frames := 1, cells := 0, slots := 0, locals := 21 } : Room) s m args below meth c s.heap [] 0 0 (MQ below (vp_Si (fun r => r = zI (sOn f s1 k))) args s 0 0 (fun _ => False)) (F0 m 13 ls []) := by
    intro n
    induction n with
    | zero => intro j hn; exact absurd hn (by omega)
    | succ n ih13 =>
      intro j hn13 i13_0 ls hl
      refine lv_iload hx hb dX6_strokeOn_13 (lv_at hl 5 rfl) ?_
      refine lv_aload_n hx hb dX6_strokeOn_15 rfl (lv_at hl 0 rfl) ?_
      refine m_get (T := TX6) (N := 24) (ci := 7) (fs := (moF ad t i)) hx hb hwX6 hown hK hP hW.1 rfl 4 (by decide) (hts _ (List.mem_of_getElem? (i := 2) rfl)) (v := .ref (ad 4)) rfl dX6_strokeOn_16 ?_
      refine lv_iload_n hx hb dX6_strokeOn_19 rfl (lv_at hl 3 rfl) ?_
      have bd_2 : (f 4) (f 14 s1) ≤ 6 := hI.2.2.2.2.2 4 (f 14 s1)
      refine n_iald (g := (f 4)) (n := 10) (i := f 14 s1) hx hb hK hP (hW.2.1 4 (by decide)) (by omega) (by omega) dX6_strokeOn_20 ?_
      refine z_icmp_ge (u := ((j : Nat) : Int)) (v := (((f 4) (f 14 s1) : Nat) : Int)) (tgt := 68) hx hb (nI_toInt (by omega)) (nI_toInt (by omega)) dX6_strokeOn_21 (by decide) (fun c_21 => ?_) (fun c_21 => ?_)
      · refine lv_iload hx hb dX6_strokeOn_68 (lv_at hl 4 rfl) ?_
        exact e_ri hx hb hr hlocks ((show zI (sOnA f s1 k j) = zI (sOn f s1 k) by unfold sOn; rw [show f 4 (f 14 s1) = j by omega])) dX6_strokeOn_70
      · refine lv_aload_n hx hb dX6_strokeOn_24 rfl (lv_at hl 0 rfl) ?_
        refine m_get (T := TX6) (N := 24) (ci := 7) (fs := (moF ad t i)) hx hb hwX6 hown hK hP hW.1 rfl 3 (by decide) (hts _ (List.mem_of_getElem? (i := 3) rfl)) (v := .ref (ad 3)) rfl dX6_strokeOn_25 ?_
        refine lv_bipush (v := (nI 6)) hx hb dX6_strokeOn_28 (by decide) ?_
        refine lv_iload_n hx hb dX6_strokeOn_30 rfl (lv_at hl 3 rfl) ?_
        refine n_mul (x := 6) (y := f 14 s1) hx hb dX6_strokeOn_31 ?_
        refine lv_iload hx hb dX6_strokeOn_32 (lv_at hl 5 rfl) ?_
        refine n_add (x := 6 * (f 14 s1)) (y := j) hx hb dX6_strokeOn_34 ?_
        have bd_3 : (f 3) ((6 * (f 14 s1)) + j) ≤ 88 := hI.2.2.2.2.2 3 ((6 * (f 14 s1)) + j)
        refine n_iald (g := (f 3)) (n := 60) (i := (6 * (f 14 s1)) + j) hx hb hK hP (hW.2.1 3 (by decide)) (by omega) (by omega) dX6_strokeOn_35 ?_
        refine lv_aload_n hx hb dX6_strokeOn_36 rfl (lv_at hl 0 rfl) ?_
        refine m_get (T := TX6) (N := 24) (ci := 7) (fs := (moF ad t i)) hx hb hwX6 hown hK hP hW.1 rfl 11 (by decide) (hts _ (List.mem_of_getElem? (i := 4) rfl)) (v := .ref (ad 11)) rfl dX6_strokeOn_37 ?_
        refine lv_bipush (v := (nI 8)) hx hb dX6_strokeOn_40 (by decide) ?_
        refine lv_iload_n hx hb dX6_strokeOn_42 rfl (lv_at hl 1 rfl) ?_
        refine n_mul (x := 8) (y := s1) hx hb dX6_strokeOn_43 ?_
        refine lv_iload_n hx hb dX6_strokeOn_44 rfl (lv_at hl 2 rfl) ?_
        refine n_add (x := 8 * s1) (y := k) hx hb dX6_strokeOn_45 ?_
        have bd_4 : (f 11) ((8 * s1) + k) ≤ 88 := hI.2.2.2.2.2 11 ((8 * s1) + k)
        refine n_iald (g := (f 11)) (n := 320) (i := (8 * s1) + k) hx hb hK hP (hW.2.1 11 (by decide)) (by omega) (by omega) dX6_strokeOn_46 ?_
        refine vp_callSi (W.runS (As := [.int (nI ((f 3) ((6 * (f 14 s1)) + j))), .int (nI ((f 11) ((8 * s1) + k)))]) (rest := []) ⟨hx, hb, hml, hown, hts⟩ (c_X6_areOneLine l ((f 3) ((6 * (f 14 s1)) + j)) ((f 11) ((8 * s1) + k)) (by omega) (by omega)) (va_cwS 2 hts gX6_strokeOn_X6_areOneLine rfl rfl rfl (by decide +kernel) ⟨Nat.le_of_ble_eq_true rfl, Nat.le_of_ble_eq_true rfl⟩) mPre0 rfl rfl hl.1 rfl (lv_room (Nat.le_of_ble_eq_true rfl)) dX6_strokeOn_47 ⟨Nat.le_of_ble_eq_true rfl, Nat.le_of_ble_eq_true rfl⟩) (fun r9 hr9 => ?_)
        have hr9 : r9 = (nI (b2 (oneLine ((f 3) ((6 * (f 14 s1)) + j)) ((f 11) ((8 * s1) + k))))) := hr9
        subst hr9
        refine b_if_eq (b := oneLine ((f 3) ((6 * (f 14 s1)) + j)) ((f 11) ((8 * s1) + k))) (tgt := 58) hx hb dX6_strokeOn_50 (by decide) (fun c_50 => ?_) (fun c_50 => ?_)
        · refine lv_iload hx hb dX6_strokeOn_58 (lv_at hl 4 rfl) ?_
          refine lv_istore (lv' := [(4, .int (zI (sOnA f s1 k j))), (0, .ref h), (1, .int (nI s1)), (2, .int (nI k)), (3, .int (nI (f 14 s1))), (5, .int (nI j))]) hx hb dX6_strokeOn_60 hl (by decide) rfl (fun ls hl => ?_)
          refine n_iinc (x := j) (k := 1) (lv' := [(5, .int (nI (j + 1))), (4, .int (zI (sOnA f s1 k j))), (0, .ref h), (1, .int (nI s1)), (2, .int (nI k)), (3, .int (nI (f 14 s1)))]) hx hb dX6_strokeOn_62 rfl hl (q := 5) rfl (by decide) rfl (fun ls hl => ?_)
          refine lv_goto (tgt := 13) hx hb dX6_strokeOn_65 (by decide) ?_
          have hl : lv_has ls 6 [(5, .int (nI (j + 1))), (4, .int (zI (sOnA f s1 k (j + 1)))), (0, .ref h), (1, .int (nI s1)), (2, .int (nI k)), (3, .int (nI (f 14 s1)))] := by
            have heq0 : (.int (zI (sOnA f s1 k (j + 1))) : Value) = .int (zI (sOnA f s1 k j)) := congrArg Value.int (congrArg zI (if_neg (by rw [c_50]; decide)))
            rw [heq0]
            exact hl
          exact ih13  (j + 1) (by omega) (by omega) _ (lv_sub hl [2, 3, 4, 5, 1, 0] rfl)
        · refine lv_iload hx hb dX6_strokeOn_53 (lv_at hl 5 rfl) ?_
          refine lv_goto (tgt := 60) hx hb dX6_strokeOn_55 (by decide) ?_
          refine lv_istore (lv' := [(4, .int (nI j)), (0, .ref h), (1, .int (nI s1)), (2, .int (nI k)), (3, .int (nI (f 14 s1))), (5, .int (nI j))]) hx hb dX6_strokeOn_60 hl (by decide) rfl (fun ls hl => ?_)
          refine n_iinc (x := j) (k := 1) (lv' := [(5, .int (nI (j + 1))), (4, .int (nI j)), (0, .ref h), (1, .int (nI s1)), (2, .int (nI k)), (3, .int (nI (f 14 s1)))]) hx hb dX6_strokeOn_62 rfl hl (q := 5) rfl (by decide) rfl (fun ls hl => ?_)
          refine lv_goto (tgt := 13) hx hb dX6_strokeOn_65 (by decide) ?_
          have hl : lv_has ls 6 [(5, .int (nI (j + 1))), (4, .int (zI (sOnA f s1 k (j + 1)))), (0, .ref h), (1, .int (nI s1)), (2, .int (nI k)), (3, .int (nI (f 14 s1)))] := by
            have heq0 : (.int (zI (sOnA f s1 k (j + 1))) : Value) = .int (nI j) := congrArg Value.int (congrArg zI (if_pos c_50))
            rw [heq0]
            exact hl
          exact ih13  (j + 1) (by omega) (by omega) _ (lv_sub hl [2, 3, 4, 5, 1, 0] rfl)
  exact K13 (6 - 0 + 1) 0 (Nat.lt_succ_self _) (Nat.zero_le _) _ (lv_sub hl [3, 4, 5, 2, 1, 0] rfl)
