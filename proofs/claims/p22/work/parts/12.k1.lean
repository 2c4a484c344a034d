set_option maxRecDepth 100000 in
set_option maxHeartbeats 4000000 in
theorem c_X4_codeOf (l : Launch) (x y : Nat)  (hx2 : x < 1000) (hy2 : y < 1000) : mS l yX4_codeOf wsX4_codeOf ({ frames := 0, cells := 0, slots := 0, locals := 0 } : Room) [.int (nI x), .int (nI y)] (fun r => r = nI (10 * x + y)) := by
  refine mS.of (cc := cX4_codeOf) (maxL := 2) (ret := (some .int)) (by decide) rfl (Nat.le_of_ble_eq_true rfl) ?_
  intro p e s m args below meth c ls hx hb hr hts hown hlocks hml hl
  have hl : lv_has ls 2 [(0, .int (nI x)), (1, .int (nI y))] := hl
  have hown : s.vm.findClass RX4 = some m.cls := hown
  refine lv_bipush (v := (nI 10)) hx hb dX4_codeOf_0 (by decide) ?_
  refine lv_iload_n hx hb dX4_codeOf_2 rfl (lv_at hl 0 rfl) ?_
  refine n_mul (x := 10) (y := x) hx hb dX4_codeOf_3 ?_
  refine lv_iload_n hx hb dX4_codeOf_4 rfl (lv_at hl 1 rfl) ?_
  refine n_add (x := 10 * x) (y := y) hx hb dX4_codeOf_5 ?_
  exact e_ri hx hb hr hlocks (rfl) dX4_codeOf_6

set_option maxRecDepth 100000 in
set_option maxHeartbeats 4000000 in
theorem c_X4_turnedRound (l : Launch) (k : Nat)  (hk2 : k < 1000) : mS l yX4_turnedRound wsX4_turnedRound ({ frames := 1, cells := 0, slots := 0, locals := 21 } : Room) [.int (nI k)] (fun r => r = nI (turnedC k)) := by
  refine mS.of (cc := cX4_turnedRound) (maxL := 1) (ret := (some .int)) (by decide) rfl (Nat.le_of_ble_eq_true rfl) ?_
  intro p e s m args below meth c ls hx hb hr hts hown hlocks hml hl
  have hl : lv_has ls 1 [(0, .int (nI k))] := hl
  have hown : s.vm.findClass RX4 = some m.cls := hown
  refine lv_iload_n hx hb dX4_turnedRound_0 rfl (lv_at hl 0 rfl) ?_
  refine lv_bipush (v := (nI 10)) hx hb dX4_turnedRound_1 (by decide) ?_
  refine n_rem (x := k) (y := 10) hx hb (by omega) (by omega) (by omega) dX4_turnedRound_3 ?_
  refine lv_iload_n hx hb dX4_turnedRound_4 rfl (lv_at hl 0 rfl) ?_
  refine lv_bipush (v := (nI 10)) hx hb dX4_turnedRound_5 (by decide) ?_
  refine n_div (x := k) (y := 10) hx hb (by omega) (by omega) (by omega) dX4_turnedRound_7 ?_
  refine vp_callSi (W.runS (As := [.int (nI (k % 10)), .int (nI (k / 10))]) (rest := []) ⟨hx, hb, hml, hown, hts⟩ (c_X4_codeOf l (k % 10) (k / 10) (by omega) (by omega)) (va_cwS 2 hts gX4_turnedRound_X4_codeOf rfl rfl rfl (by decide +kernel) ⟨Nat.le_of_ble_eq_true rfl, Nat.le_of_ble_eq_true rfl⟩) mPre0 rfl rfl hl.1 rfl (lv_room (Nat.le_of_ble_eq_true rfl)) dX4_turnedRound_8 ⟨Nat.le_of_ble_eq_true rfl, Nat.le_of_ble_eq_true rfl⟩) (fun r9 hr9 => ?_)
  have hr9 : r9 = (nI (turnedC k)) := hr9
  subst hr9
  exact e_ri hx hb hr hlocks (rfl) dX4_turnedRound_11

set_option maxRecDepth 100000 in
set_option maxHeartbeats 4000000 in
theorem c_X4_size (l : Launch) (D : va_G) (cy : Nat → ClassId) (M : mM) (a q n : Nat) (g : Nat → Nat)  (f_a : M a = some (.inr (5, [.ref q, .int (nI n)]))) (f_q : M q = some (eI cy 8 g))  : mR l yX4_size wsX4_size ({ frames := 0, cells := 0, slots := 0, locals := 0 } : Room) D cy M [.ref a] (fun r => r = nI n) := by
  refine mR.of (cc := cX4_size) (maxL := 1) (ret := (some .int)) (by decide) rfl (Nat.le_of_ble_eq_true rfl) ?_
  intro p e s m args below meth c ls hx hb hr hts hown hlocks hml hP hK hl
  have hl : lv_has ls 1 [(0, .ref a)] := hl
  have hown : s.vm.findClass RX4 = some m.cls := hown
  have hwX4 : ∀ w ∈ wsX40, w.before args s = true := fun w h => hts w (List.mem_cons_of_mem _ (List.mem_append_right _ (h)))
  refine lv_aload_n hx hb dX4_size_0 rfl (lv_at hl 0 rfl) ?_
  refine m_get (T := TX4) (N := 2) (ci := 5) (fs := [.ref q, .int (nI n)]) hx hb hwX4 hown hK hP f_a rfl 1 (by decide) (hts _ (List.mem_of_getElem? (i := 1) rfl)) (v := .int (nI n)) rfl dX4_size_1 ?_
  exact e_ri hx hb hr hlocks (rfl) dX4_size_4

set_option maxRecDepth 100000 in
set_option maxHeartbeats 4000000 in
theorem c_X4_codeAt (l : Launch) (D : va_G) (cy : Nat → ClassId) (M : mM) (a q n : Nat) (g : Nat → Nat) (x : Int32) (u : Int)  (f_a : M a = some (.inr (5, [.ref q, .int (nI n)]))) (f_q : M q = some (eI cy 8 g)) (hn : n ≤ 8) (px : x.toInt = u) : mR l yX4_codeAt wsX4_codeAt ({ frames := 0, cells := 0, slots := 0, locals := 0 } : Room) D cy M [.ref a, .int x] (fun r => r = zI (if 0 ≤ u ∧ u < n then (g u.toNat : Int) else -1)) := by
  refine mR.of (cc := cX4_codeAt) (maxL := 2) (ret := (some .int)) (by decide) rfl (Nat.le_of_ble_eq_true rfl) ?_
  intro p e s m args below meth c ls hx hb hr hts hown hlocks hml hP hK hl
  have hl : lv_has ls 2 [(0, .ref a), (1, .int x)] := hl
  have hown : s.vm.findClass RX4 = some m.cls := hown
  have hwX4 : ∀ w ∈ wsX40, w.before args s = true := fun w h => hts w (List.mem_cons_of_mem _ (List.mem_append_right _ (h)))
  refine lv_iload_n hx hb dX4_codeAt_0 rfl (lv_at hl 1 rfl) ?_
  refine z_if_lt (u := u) (tgt := 21) hx hb (px) dX4_codeAt_1 (by decide) (fun c_1 => ?_) (fun c_1 => ?_)
  · refine lv_iconst (v := (zI (-1))) hx hb dX4_codeAt_21 (by decide) ?_
    exact e_ri hx hb hr hlocks ((congrArg zI (if_neg (by omega)).symm)) dX4_codeAt_22
  · refine lv_iload_n hx hb dX4_codeAt_4 rfl (lv_at hl 1 rfl) ?_
    refine lv_aload_n hx hb dX4_codeAt_5 rfl (lv_at hl 0 rfl) ?_
    refine m_get (T := TX4) (N := 2) (ci := 5) (fs := [.ref q, .int (nI n)]) hx hb hwX4 hown hK hP f_a rfl 1 (by decide) (hts _ (List.mem_of_getElem? (i := 1) rfl)) (v := .int (nI n)) rfl dX4_codeAt_6 ?_
    refine z_icmp_ge (u := u) (v := ((n : Nat) : Int)) (tgt := 21) hx hb (px) (nI_toInt (by omega)) dX4_codeAt_9 (by decide) (fun c_9 => ?_) (fun c_9 => ?_)
    · refine lv_iconst (v := (zI (-1))) hx hb dX4_codeAt_21 (by decide) ?_
      exact e_ri hx hb hr hlocks ((congrArg zI (if_neg (by omega)).symm)) dX4_codeAt_22
    · have ex_1 : x = (nI u.toNat) := nI_of_toInt (px) (by omega)
      have hl : lv_has ls 2 [(0, .ref a), (1, .int (nI u.toNat))] := by
        rw [← ex_1]
        exact hl
      refine lv_aload_n hx hb dX4_codeAt_12 rfl (lv_at hl 0 rfl) ?_
      refine m_get (T := TX4) (N := 2) (ci := 5) (fs := [.ref q, .int (nI n)]) hx hb hwX4 hown hK hP f_a rfl 0 (by decide) (hts _ (List.mem_of_getElem? (i := 2) rfl)) (v := .ref q) rfl dX4_codeAt_13 ?_
      refine lv_iload_n hx hb dX4_codeAt_16 rfl (lv_at hl 1 rfl) ?_
      refine n_iald (g := g) (n := 8) (i := u.toNat) hx hb hK hP f_q (by omega) (by omega) dX4_codeAt_17 ?_
      refine lv_goto (tgt := 22) hx hb dX4_codeAt_18 (by decide) ?_
      exact e_ri hx hb hr hlocks (((nI_zI _).trans (congrArg zI (if_pos (by omega)).symm))) dX4_codeAt_22

set_option maxRecDepth 100000 in
set_option maxHeartbeats 4000000 in
theorem c_X4_add (l : Launch) (D : va_G) (cy : Nat → ClassId) (M : mM) (sz : Nat) (a q n : Nat) (g : Nat → Nat) (k : Nat)  (f_a : M a = some (.inr (5, [.ref q, .int (nI n)]))) (f_q : M q = some (eI cy 8 g)) (hn : n < 8) : mWv l yX4_add wsX4_add ({ frames := 0, cells := 0, slots := 0, locals := 0 } : Room) D cy M sz [.ref a, .int (nI k)] (fun M' => M' = mset (mset M q (eI cy 8 (va_up g n k))) a (.inr (5, [.ref q, .int (nI (n + 1))]))) 0 0 := by
  refine mW.of (cc := cX4_add) (maxL := 2) (ret := none) (by decide) rfl (Nat.le_of_ble_eq_true rfl) ?_
  intro p e s m args below meth c ls hsz hx hb hr hts hown hlocks hml hname hP hD hS hA hK hl
  have hl : lv_has ls 2 [(0, .ref a), (1, .int (nI k))] := hl
  have hown : s.vm.findClass RX4 = some m.cls := hown
  have hwX4 : ∀ w ∈ wsX40, w.before args s = true := fun w h => hts w (List.mem_cons_of_mem _ (List.mem_append_right _ (h)))
  have n_a_q : a ≠ q := ne_cell f_a f_q (fun h9 => by simp at h9)
  refine lv_aload_n hx hb dX4_add_0 rfl (lv_at hl 0 rfl) ?_
  refine m_get (T := TX4) (N := 2) (ci := 5) (fs := [.ref q, .int (nI n)]) hx hb hwX4 hown hK hP f_a rfl 1 (by decide) (hts _ (List.mem_of_getElem? (i := 1) rfl)) (v := .int (nI n)) rfl dX4_add_1 ?_
  refine lv_bipush (v := (nI 8)) hx hb dX4_add_4 (by decide) ?_
  refine z_icmp_ge (u := ((n : Nat) : Int)) (v := ((8 : Nat) : Int)) (tgt := 29) hx hb (nI_toInt (by omega)) (nI_toInt (by omega)) dX4_add_6 (by decide) (fun c_6 => ?_) (fun c_6 => ?_)
  · exact e_wv hx hb hr hlocks hP hD hS ((by omega)) dX4_add_29
  · refine lv_aload_n hx hb dX4_add_9 rfl (lv_at hl 0 rfl) ?_
    refine m_get (T := TX4) (N := 2) (ci := 5) (fs := [.ref q, .int (nI n)]) hx hb hwX4 hown hK hP f_a rfl 0 (by decide) (hts _ (List.mem_of_getElem? (i := 2) rfl)) (v := .ref q) rfl dX4_add_10 ?_
    refine lv_aload_n hx hb dX4_add_13 rfl (lv_at hl 0 rfl) ?_
    refine m_get (T := TX4) (N := 2) (ci := 5) (fs := [.ref q, .int (nI n)]) hx hb hwX4 hown hK hP f_a rfl 1 (by decide) (hts _ (List.mem_of_getElem? (i := 1) rfl)) (v := .int (nI n)) rfl dX4_add_14 ?_
    refine lv_iload_n hx hb dX4_add_17 rfl (lv_at hl 1 rfl) ?_
    refine n_iast (g := g) (n := 8) (i := n) (v := k) hx hb hK hP hD hS f_q (by omega) (by omega) dX4_add_18 (fun H locs hP hD hS => ?_)
    have hP : pm D (mset M q (eI cy 8 (va_up g n k))) H := hP
    have hD : mD (mA M sz) (mset M q (eI cy 8 (va_up g n k))) := hD
    refine lv_aload_n hx hb dX4_add_19 rfl (lv_at hl 0 rfl) ?_
    refine lv_dup hx hb dX4_add_20 rfl ?_
    refine m_get (T := TX4) (N := 2) (ci := 5) (fs := [.ref q, .int (nI n)]) hx hb hwX4 hown hK hP ((mset_ne n_a_q).trans (f_a)) rfl 1 (by decide) (hts _ (List.mem_of_getElem? (i := 1) rfl)) (v := .int (nI n)) rfl dX4_add_21 ?_
    refine lv_iconst (v := (nI 1)) hx hb dX4_add_24 (by decide) ?_
    refine n_add (x := n) (y := 1) hx hb dX4_add_25 ?_
    refine m_put (T := TX4) (N := 2) (ci := 5) (fs := [.ref q, .int (nI n)]) (v := .int (nI (n + 1))) hx hb hwX4 tyX4 tyX4_ok nmX4 hown hK hP hD hS ((mset_ne n_a_q).trans (f_a)) rfl 1 (by decide) (hts _ (List.mem_of_getElem? (i := 1) rfl)) rfl (rfl) rfl (Nat.le_of_ble_eq_true rfl) dX4_add_26 (fun H locs hP hD hS => ?_)
    have hP : pm D (mset (mset M q (eI cy 8 (va_up g n k))) a (.inr (5, [.ref q, .int (nI (n + 1))]))) H := hP
    have hD : mD (mA M sz) (mset (mset M q (eI cy 8 (va_up g n k))) a (.inr (5, [.ref q, .int (nI (n + 1))]))) := hD
    exact e_wv hx hb hr hlocks hP hD hS (rfl) dX4_add_29

set_option maxRecDepth 100000 in
set_option maxHeartbeats 4000000 in
theorem c_X4_clear (l : Launch) (D : va_G) (cy : Nat → ClassId) (M : mM) (sz : Nat) (a q n : Nat) (g : Nat → Nat)  (f_a : M a = some (.inr (5, [.ref q, .int (nI n)]))) (f_q : M q = some (eI cy 8 g))  : mWv l yX4_clear wsX4_clear ({ frames := 0, cells := 0, slots := 0, locals := 0 } : Room) D cy M sz [.ref a] (fun M' => M' = mset M a (.inr (5, [.ref q, .int (nI 0)]))) 0 0 := by
  refine mW.of (cc := cX4_clear) (maxL := 1) (ret := none) (by decide) rfl (Nat.le_of_ble_eq_true rfl) ?_
  intro p e s m args below meth c ls hsz hx hb hr hts hown hlocks hml hname hP hD hS hA hK hl
  have hl : lv_has ls 1 [(0, .ref a)] := hl
  have hown : s.vm.findClass RX4 = some m.cls := hown
  have hwX4 : ∀ w ∈ wsX40, w.before args s = true := fun w h => hts w (List.mem_cons_of_mem _ (List.mem_append_right _ (h)))
  have n_a_q : a ≠ q := ne_cell f_a f_q (fun h9 => by simp at h9)
  refine lv_aload_n hx hb dX4_clear_0 rfl (lv_at hl 0 rfl) ?_
  refine lv_iconst (v := (nI 0)) hx hb dX4_clear_1 (by decide) ?_
  refine m_put (T := TX4) (N := 2) (ci := 5) (fs := [.ref q, .int (nI n)]) (v := .int (nI 0)) hx hb hwX4 tyX4 tyX4_ok nmX4 hown hK hP hD hS f_a rfl 1 (by decide) (hts _ (List.mem_of_getElem? (i := 1) rfl)) rfl (rfl) rfl (Nat.le_of_ble_eq_true rfl) dX4_clear_2 (fun H locs hP hD hS => ?_)
  have hP : pm D (mset M a (.inr (5, [.ref q, .int (nI 0)]))) H := hP
  have hD : mD (mA M sz) (mset M a (.inr (5, [.ref q, .int (nI 0)]))) := hD
  exact e_wv hx hb hr hlocks hP hD hS (rfl) dX4_clear_5

set_option maxRecDepth 100000 in
set_option maxHeartbeats 4000000 in
theorem c_X4_firstOnLineOf (l : Launch) (D : va_G) (cy : Nat → ClassId) (M : mM) (a q n : Nat) (g : Nat → Nat) (k : Nat)  (f_a : M a = some (.inr (5, [.ref q, .int (nI n)]))) (f_q : M q = some (eI cy 8 g)) (hn : n ≤ 8) (hg : ∀ j, g j ≤ 88) (hk : k ≤ 88) : mR l yX4_firstOnLineOf wsX4_firstOnLineOf ({ frames := 2, cells := 0, slots := 0, locals := 41 } : Room) D cy M [.ref a, .int (nI k)] (fun r => r = zI (folA g k n)) := by
  refine mR.of (cc := cX4_firstOnLineOf) (maxL := 3) (ret := (some .int)) (by decide) rfl (Nat.le_of_ble_eq_true rfl) ?_
  intro p e s m args below meth c ls hx hb hr hts hown hlocks hml hP hK hl
  have hl : lv_has ls 3 [(0, .ref a), (1, .int (nI k))] := hl
  have hown : s.vm.findClass RX4 = some m.cls := hown
  have hwX4 : ∀ w ∈ wsX40, w.before args s = true := fun w h => hts w (List.mem_cons_of_mem _ (List.mem_append_right _ (h)))
  refine lv_iconst (v := (nI 0)) hx hb dX4_firstOnLineOf_0 (by decide) ?_
  refine lv_istore_n (lv' := [(2, .int (nI 0)), (0, .ref a), (1, .int (nI k))]) hx hb dX4_firstOnLineOf_1 rfl hl (by decide) rfl (fun ls hl => ?_)
  have K2 : ∀ (n9 : Nat) (j : Nat), 9 - j < n9 → (j ≤ n) → (folA g k j = -1) → ∀ (ls : Array Slot), lv_has ls 3 [(0, .ref a), (1, .int (nI k)), (2, .int (nI j))] → W p l e ({ frames := 2, cells := 0, slots := 0, locals := 41 } : Room) s m args below meth c s.heap [] 0 0 (MQ below (vp_Si (fun r => r = zI (folA g k n))) args s 0 0 (fun _ => False)) (F0 m 2 ls []) := by
    intro n9
    induction n9 with
    | zero => intro j hn; exact absurd hn (by omega)
    | succ n9 ih2 =>
      intro j hn2 i2_0 i2_1 ls hl
      have hgj := hg j
      refine lv_iload_n hx hb dX4_firstOnLineOf_2 rfl (lv_at hl 2 rfl) ?_
      refine lv_aload_n hx hb dX4_firstOnLineOf_3 rfl (lv_at hl 0 rfl) ?_
      refine m_get (T := TX4) (N := 2) (ci := 5) (fs := [.ref q, .int (nI n)]) hx hb hwX4 hown hK hP f_a rfl 1 (by decide) (hts _ (List.mem_of_getElem? (i := 1) rfl)) (v := .int (nI n)) rfl dX4_firstOnLineOf_4 ?_
      refine z_icmp_ge (u := ((j : Nat) : Int)) (v := ((n : Nat) : Int)) (tgt := 41) hx hb (nI_toInt (by omega)) (nI_toInt (by omega)) dX4_firstOnLineOf_7 (by decide) (fun c_7 => ?_) (fun c_7 => ?_)
      · refine lv_iconst (v := (zI (-1))) hx hb dX4_firstOnLineOf_41 (by decide) ?_
        exact e_ri hx hb hr hlocks ((by rw [show n = j by omega, i2_1])) dX4_firstOnLineOf_42
      · refine lv_aload_n hx hb dX4_firstOnLineOf_10 rfl (lv_at hl 0 rfl) ?_
        refine m_get (T := TX4) (N := 2) (ci := 5) (fs := [.ref q, .int (nI n)]) hx hb hwX4 hown hK hP f_a rfl 0 (by decide) (hts _ (List.mem_of_getElem? (i := 2) rfl)) (v := .ref q) rfl dX4_firstOnLineOf_11 ?_
        refine lv_iload_n hx hb dX4_firstOnLineOf_14 rfl (lv_at hl 2 rfl) ?_
        refine n_iald (g := g) (n := 8) (i := j) hx hb hK hP f_q (by omega) (by omega) dX4_firstOnLineOf_15 ?_
        refine lv_iload_n hx hb dX4_firstOnLineOf_16 rfl (lv_at hl 1 rfl) ?_
        refine z_icmp_eq (u := ((g j : Nat) : Int)) (v := ((k : Nat) : Int)) (tgt := 33) hx hb (nI_toInt (by omega)) (nI_toInt (by omega)) dX4_firstOnLineOf_17 (by decide) (fun c_17 => ?_) (fun c_17 => ?_)
        · refine lv_iload_n hx hb dX4_firstOnLineOf_33 rfl (lv_at hl 2 rfl) ?_
          exact e_ri hx hb hr hlocks (((nI_zI _).trans (congrArg zI (folA_hit i2_1 (by omega) (by omega)).symm))) dX4_firstOnLineOf_34
        · refine lv_aload_n hx hb dX4_firstOnLineOf_20 rfl (lv_at hl 0 rfl) ?_
          refine m_get (T := TX4) (N := 2) (ci := 5) (fs := [.ref q, .int (nI n)]) hx hb hwX4 hown hK hP f_a rfl 0 (by decide) (hts _ (List.mem_of_getElem? (i := 2) rfl)) (v := .ref q) rfl dX4_firstOnLineOf_21 ?_
          refine lv_iload_n hx hb dX4_firstOnLineOf_24 rfl (lv_at hl 2 rfl) ?_
          refine n_iald (g := g) (n := 8) (i := j) hx hb hK hP f_q (by omega) (by omega) dX4_firstOnLineOf_25 ?_
          refine lv_iload_n hx hb dX4_firstOnLineOf_26 rfl (lv_at hl 1 rfl) ?_
          refine vp_callSi (W.runS (As := [.int (nI k)]) (rest := [.int (nI (g j))]) ⟨hx, hb, hml, hown, hts⟩ (c_X4_turnedRound l k (by omega)) (va_cwS 1 hts gX4_firstOnLineOf_X4_turnedRound rfl rfl rfl (by decide +kernel) ⟨Nat.le_of_ble_eq_true rfl, Nat.le_of_ble_eq_true rfl⟩) mPre0 rfl rfl hl.1 rfl (lv_room (Nat.le_of_ble_eq_true rfl)) dX4_firstOnLineOf_27 ⟨Nat.le_of_ble_eq_true rfl, Nat.le_of_ble_eq_true rfl⟩) (fun r9 hr9 => ?_)
          have hr9 : r9 = (nI (turnedC k)) := hr9
          subst hr9
          have ht9 : turnedC k ≤ 1000 := (by unfold turnedC; omega)
          refine z_icmp_ne (u := ((g j : Nat) : Int)) (v := ((turnedC k : Nat) : Int)) (tgt := 35) hx hb (nI_toInt (by omega)) (nI_toInt (by omega)) dX4_firstOnLineOf_30 (by decide) (fun c_30 => ?_) (fun c_30 => ?_)
          · refine n_iinc (x := j) (k := 1) (lv' := [(2, .int (nI (j + 1))), (0, .ref a), (1, .int (nI k))]) hx hb dX4_firstOnLineOf_35 rfl hl (q := 2) rfl (by decide) rfl (fun ls hl => ?_)
            refine lv_goto (tgt := 2) hx hb dX4_firstOnLineOf_38 (by decide) ?_
            exact ih2  (j + 1) (by omega) (by omega) (folA_miss i2_1 (by omega)) _ (lv_sub hl [1, 2, 0] rfl)
          · refine lv_iload_n hx hb dX4_firstOnLineOf_33 rfl (lv_at hl 2 rfl) ?_
            exact e_ri hx hb hr hlocks (((nI_zI _).trans (congrArg zI (folA_hit i2_1 (by omega) (by omega)).symm))) dX4_firstOnLineOf_34
  exact K2 (9 - 0 + 1) 0 (Nat.lt_succ_self _) (Nat.zero_le _) (rfl) _ (lv_sub hl [1, 2, 0] rfl)

set_option maxRecDepth 100000 in
set_option maxHeartbeats 4000000 in
theorem c_X4_hasLineTwice (l : Launch) (D : va_G) (cy : Nat → ClassId) (M : mM) (a q n : Nat) (g : Nat → Nat)  (f_a : M a = some (.inr (5, [.ref q, .int (nI n)]))) (f_q : M q = some (eI cy 8 g)) (hn : n ≤ 8) (hg : ∀ j, g j ≤ 88) : mR l yX4_hasLineTwice wsX4_hasLineTwice ({ frames := 3, cells := 0, slots := 0, locals := 63 } : Room) D cy M [.ref a] (fun r => r = nI (b2 (twA g n n))) := by
  refine mR.of (cc := cX4_hasLineTwice) (maxL := 2) (ret := (some .boolean)) (by decide) rfl (Nat.le_of_ble_eq_true rfl) ?_
  intro p e s m args below meth c ls hx hb hr hts hown hlocks hml hP hK hl
  have hl : lv_has ls 2 [(0, .ref a)] := hl
  have hown : s.vm.findClass RX4 = some m.cls := hown
  have hwX4 : ∀ w ∈ wsX40, w.before args s = true := fun w h => hts w (List.mem_cons_of_mem _ (List.mem_append_right _ (h)))
  refine lv_iconst (v := (nI 0)) hx hb dX4_hasLineTwice_0 (by decide) ?_
  refine lv_istore_n (lv' := [(1, .int (nI 0)), (0, .ref a)]) hx hb dX4_hasLineTwice_1 rfl hl (by decide) rfl (fun ls hl => ?_)
  have K2 : ∀ (n9 : Nat) (j : Nat), 9 - j < n9 → (j ≤ n) → (twA g n j = false) → ∀ (ls : Array Slot), lv_has ls 2 [(0, .ref a), (1, .int (nI j))] → W p l e ({ frames := 3, cells := 0, slots := 0, locals := 63 } : Room) s m args below meth c s.heap [] 0 0 (MQ below (vp_Si (fun r => r = nI (b2 (twA g n n)))) args s 0 0 (fun _ => False)) (F0 m 2 ls []) := by
    intro n9
    induction n9 with
    | zero => intro j hn; exact absurd hn (by omega)
    | succ n9 ih2 =>
      intro j hn2 i2_0 i2_1 ls hl
      have hgj := hg j
      refine lv_iload_n hx hb dX4_hasLineTwice_2 rfl (lv_at hl 1 rfl) ?_
      refine lv_aload_n hx hb dX4_hasLineTwice_3 rfl (lv_at hl 0 rfl) ?_
      refine m_get (T := TX4) (N := 2) (ci := 5) (fs := [.ref q, .int (nI n)]) hx hb hwX4 hown hK hP f_a rfl 1 (by decide) (hts _ (List.mem_of_getElem? (i := 1) rfl)) (v := .int (nI n)) rfl dX4_hasLineTwice_4 ?_
      refine z_icmp_ge (u := ((j : Nat) : Int)) (v := ((n : Nat) : Int)) (tgt := 32) hx hb (nI_toInt (by omega)) (nI_toInt (by omega)) dX4_hasLineTwice_7 (by decide) (fun c_7 => ?_) (fun c_7 => ?_)
      · refine lv_iconst (v := (nI 0)) hx hb dX4_hasLineTwice_32 (by decide) ?_
        exact e_rz hx hb hr hlocks (by first | decide | exact b2_le _ | omega) ((b2_f (by have e9 : j = n := (by omega); rw [e9] at i2_1; exact i2_1)).symm) dX4_hasLineTwice_33
      · refine lv_aload_n hx hb dX4_hasLineTwice_10 rfl (lv_at hl 0 rfl) ?_
        refine lv_aload_n hx hb dX4_hasLineTwice_11 rfl (lv_at hl 0 rfl) ?_
        refine m_get (T := TX4) (N := 2) (ci := 5) (fs := [.ref q, .int (nI n)]) hx hb hwX4 hown hK hP f_a rfl 0 (by decide) (hts _ (List.mem_of_getElem? (i := 2) rfl)) (v := .ref q) rfl dX4_hasLineTwice_12 ?_
        refine lv_iload_n hx hb dX4_hasLineTwice_15 rfl (lv_at hl 1 rfl) ?_
        refine n_iald (g := g) (n := 8) (i := j) hx hb hK hP f_q (by omega) (by omega) dX4_hasLineTwice_16 ?_
        refine vp_callSi (W.runV (C := RX4) (As := [.int (nI (g j))]) (rest := []) ⟨hx, hb, hml, hown, hts⟩ (c_X4_firstOnLineOf l D cy M a q n g (g j) f_a f_q hn hg (by omega)) (cwV 1 hts gX4_hasLineTwice_X4_firstOnLineOf rfl rfl rfl (by decide +kernel) ⟨Nat.le_of_ble_eq_true rfl, Nat.le_of_ble_eq_true rfl⟩) (mPreV hK hP f_a (ci := 5) rfl) rfl rfl hl.1 rfl (lv_room (Nat.le_of_ble_eq_true rfl)) dX4_hasLineTwice_17 ⟨Nat.le_of_ble_eq_true rfl, Nat.le_of_ble_eq_true rfl⟩) (fun r9 hr9 => ?_)
        have hr9 : r9 = (zI (folA g (g j) n)) := hr9
        subst hr9
        have hf9 := folA_bd g (g j) n
        refine lv_iload_n hx hb dX4_hasLineTwice_20 rfl (lv_at hl 1 rfl) ?_
        refine z_icmp_ge (u := (folA g (g j) n)) (v := ((j : Nat) : Int)) (tgt := 26) hx hb (zI_toInt (by omega) (by omega)) (nI_toInt (by omega)) dX4_hasLineTwice_21 (by decide) (fun c_21 => ?_) (fun c_21 => ?_)
        · refine n_iinc (x := j) (k := 1) (lv' := [(1, .int (nI (j + 1))), (0, .ref a)]) hx hb dX4_hasLineTwice_26 rfl hl (q := 1) rfl (by decide) rfl (fun ls hl => ?_)
          refine lv_goto (tgt := 2) hx hb dX4_hasLineTwice_29 (by decide) ?_
          exact ih2  (j + 1) (by omega) (by omega) (twA_miss i2_1 (by omega)) _ (lv_sub hl [1, 0] rfl)
        · refine lv_iconst (v := (nI 1)) hx hb dX4_hasLineTwice_24 (by decide) ?_
          exact e_rz hx hb hr hlocks (by first | decide | exact b2_le _ | omega) ((b2_t (twA_hit (by omega) (by omega))).symm) dX4_hasLineTwice_25
  exact K2 (9 - 0 + 1) 0 (Nat.lt_succ_self _) (Nat.zero_le _) (rfl) _ (lv_sub hl [1, 0] rfl)

set_option maxRecDepth 100000 in
set_option maxHeartbeats 4000000 in
theorem c_X4_addAll (l : Launch) (D : va_G) (cy : Nat → ClassId) (M : mM) (sz : Nat) (a q n : Nat) (g : Nat → Nat) (a2 q2 n2 : Nat) (g2 : Nat → Nat)  (f_a : M a = some (.inr (5, [.ref q, .int (nI n)]))) (f_q : M q = some (eI cy 8 g)) (f_a2 : M a2 = some (.inr (5, [.ref q2, .int (nI n2)]))) (f_q2 : M q2 = some (eI cy 8 g2)) (n_a_a2 : a ≠ a2) (n_q_q2 : q ≠ q2) (hn : n + n2 ≤ 8) (hg2 : ∀ j, g2 j ≤ 88) : mWv l yX4_addAll wsX4_addAll ({ frames := 1, cells := 0, slots := 0, locals := 21 } : Room) D cy M sz [.ref a, .ref a2] (fun M' => M' = mset (mset M q (eI cy 8 (cpA g n g2 n2))) a (.inr (5, [.ref q, .int (nI (n + n2))]))) 0 0 := by
  refine mW.of (cc := cX4_addAll) (maxL := 3) (ret := none) (by decide) rfl (Nat.le_of_ble_eq_true rfl) ?_
  intro p e s m args below meth c ls hsz hx hb hr hts hown hlocks hml hname hP hD hS hA hK hl
  have hl : lv_has ls 3 [(0, .ref a), (1, .ref a2)] := hl
  have hown : s.vm.findClass RX4 = some m.cls := hown
  have hwX4 : ∀ w ∈ wsX40, w.before args s = true := fun w h => hts w (List.mem_cons_of_mem _ (List.mem_append_right _ (h)))
  have n_a_q : a ≠ q := ne_cell f_a f_q (fun h9 => by simp at h9)
  have n_a_q2 : a ≠ q2 := ne_cell f_a f_q2 (fun h9 => by simp at h9)
  have n_q_a2 : q ≠ a2 := ne_cell f_q f_a2 (fun h9 => by simp at h9)
  have n_a2_q2 : a2 ≠ q2 := ne_cell f_a2 f_q2 (fun h9 => by simp at h9)
  refine lv_iconst (v := (nI 0)) hx hb dX4_addAll_0 (by decide) ?_
  refine lv_istore_n (lv' := [(2, .int (nI 0)), (0, .ref a), (1, .ref a2)]) hx hb dX4_addAll_1 rfl hl (by decide) rfl (fun ls hl => ?_)
  have K2 : ∀ (n9 : Nat) (j : Nat), 9 - j < n9 → (j ≤ n2) → ∀ (Mq : mM) (H : Heap) (locs : List Loc), pm D Mq H → mD (mA M sz) Mq → va_S (mA M sz) s.heap H locs → (Mq = (mset (mset M q (eI cy 8 (cpA g n g2 j))) a (.inr (5, [.ref q, .int (nI (n + j))])))) → ∀ (ls : Array Slot), lv_has ls 3 [(0, .ref a), (1, .ref a2), (2, .int (nI j))] → W p l e ({ frames := 1, cells := 0, slots := 0, locals := 21 } : Room) s m args below meth c H locs 0 0 (MQ below (va_Qv (fun M' => M' = mset (mset M q (eI cy 8 (cpA g n g2 n2))) a (.inr (5, [.ref q, .int (nI (n + n2))]))) (mB D M sz) (mA M sz)) args s 0 0 (mA M sz)) (F0 m 2 ls []) := by
    intro n9
    induction n9 with
    | zero => intro j hn; exact absurd hn (by omega)
    | succ n9 ih2 =>
      intro j hn2 i2_0 Mq H locs hP hD hS hW ls hl
      subst hW
      refine lv_iload_n hx hb dX4_addAll_2 rfl (lv_at hl 2 rfl) ?_
      refine lv_aload_n hx hb dX4_addAll_3 rfl (lv_at hl 1 rfl) ?_
      refine vp_callSi (W.runV (C := RX4) (As := []) (rest := [.int (nI j)]) ⟨hx, hb, hml, hown, hts⟩ (c_X4_size l D cy _ a2 q2 n2 g2 ((mset_ne (Ne.symm n_a_a2)).trans ((mset_ne (Ne.symm n_q_a2)).trans (f_a2))) ((mset_ne (Ne.symm n_a_q2)).trans ((mset_ne (Ne.symm n_q_q2)).trans (f_q2)))) (cwV 0 hts gX4_addAll_X4_size rfl rfl rfl (by decide +kernel) ⟨Nat.le_of_ble_eq_true rfl, Nat.le_of_ble_eq_true rfl⟩) (mPreV hK hP ((mset_ne (Ne.symm n_a_a2)).trans ((mset_ne (Ne.symm n_q_a2)).trans (f_a2))) (ci := 5) rfl) rfl rfl hl.1 rfl (lv_room (Nat.le_of_ble_eq_true rfl)) dX4_addAll_4 ⟨Nat.le_of_ble_eq_true rfl, Nat.le_of_ble_eq_true rfl⟩) (fun r9 hr9 => ?_)
      have hr9 : r9 = (nI n2) := hr9
      subst hr9
      refine z_icmp_ge (u := ((j : Nat) : Int)) (v := ((n2 : Nat) : Int)) (tgt := 25) hx hb (nI_toInt (by omega)) (nI_toInt (by omega)) dX4_addAll_7 (by decide) (fun c_7 => ?_) (fun c_7 => ?_)
      · exact e_wv hx hb hr hlocks hP hD hS ((by rw [show n2 = j by omega])) dX4_addAll_25
      · refine lv_aload_n hx hb dX4_addAll_10 rfl (lv_at hl 0 rfl) ?_
        refine lv_aload_n hx hb dX4_addAll_11 rfl (lv_at hl 1 rfl) ?_
        refine lv_iload_n hx hb dX4_addAll_12 rfl (lv_at hl 2 rfl) ?_
        refine vp_callSi (W.runV (C := RX4) (As := [.int (nI j)]) (rest := [.ref a]) ⟨hx, hb, hml, hown, hts⟩ (c_X4_codeAt l D cy _ a2 q2 n2 g2 (nI j) (j : Int) ((mset_ne (Ne.symm n_a_a2)).trans ((mset_ne (Ne.symm n_q_a2)).trans (f_a2))) ((mset_ne (Ne.symm n_a_q2)).trans ((mset_ne (Ne.symm n_q_q2)).trans (f_q2))) (by omega) (nI_toInt (by omega))) (cwV 1 hts gX4_addAll_X4_codeAt rfl rfl rfl (by decide +kernel) ⟨Nat.le_of_ble_eq_true rfl, Nat.le_of_ble_eq_true rfl⟩) (mPreV hK hP ((mset_ne (Ne.symm n_a_a2)).trans ((mset_ne (Ne.symm n_q_a2)).trans (f_a2))) (ci := 5) rfl) rfl rfl hl.1 rfl (lv_room (Nat.le_of_ble_eq_true rfl)) dX4_addAll_13 ⟨Nat.le_of_ble_eq_true rfl, Nat.le_of_ble_eq_true rfl⟩) (fun r9 hr9 => ?_)
        have hr9 : r9 = (zI (if 0 ≤ (j : Int) ∧ (j : Int) < n2 then (g2 (j : Int).toNat : Int) else -1)) := hr9
        subst hr9
        refine n_name (show (zI (if 0 ≤ (j : Int) ∧ (j : Int) < n2 then (g2 (j : Int).toNat : Int) else -1)) = nI (g2 j) from (congrArg zI (if_pos (by omega))).trans (nI_zI _).symm) ?_
        have hg9 := hg2 j
        refine m_callv (va_runV (C := RX4) (As := [.int (nI (g2 j))]) (rest := []) ⟨hx, hb, hml, hown, hts⟩ (c_X4_add l D cy _ _ a q (n + j) (cpA g n g2 j) (g2 j) (mset_self _ _ _) ((mset_ne (Ne.symm n_a_q)).trans (mset_self _ _ _)) (by omega)) (cwV 1 hts gX4_addAll_X4_add rfl rfl rfl (by decide +kernel) ⟨Nat.le_of_ble_eq_true rfl, Nat.le_of_ble_eq_true rfl⟩) (mPreWV hK hP (mset_self _ _ _) (ci := 5) rfl) rfl rfl hl.1 rfl (lv_room (Nat.le_of_ble_eq_true rfl)) dX4_addAll_16 ⟨Nat.le_of_ble_eq_true rfl, Nat.le_of_ble_eq_true rfl⟩) hD hA hS (fun Mn H locs hq9 hP hD hS hz9 hd9 hk9 => ?_)
        have hq9 : Mn = (mset (mset (mset (mset M q (eI cy 8 (cpA g n g2 j))) a (.inr (5, [.ref q, .int (nI (n + j))]))) q (eI cy 8 (cpA g n g2 (j + 1)))) a (.inr (5, [.ref q, .int (nI (n + (j + 1)))]))) := hq9
        subst hq9
        rw [mset_comm _ (.inr (5, [.ref q, .int (nI (n + j))])) (eI cy 8 (cpA g n g2 (j + 1))) (n_a_q), mset_mset _ a (.inr (5, [.ref q, .int (nI (n + j))])) (.inr (5, [.ref q, .int (nI (n + (j + 1)))])), mset_mset _ q (eI cy 8 (cpA g n g2 j)) (eI cy 8 (cpA g n g2 (j + 1)))] at hP hD
        refine n_iinc (x := j) (k := 1) (lv' := [(2, .int (nI (j + 1))), (0, .ref a), (1, .ref a2)]) hx hb dX4_addAll_19 rfl hl (q := 2) rfl (by decide) rfl (fun ls hl => ?_)
        refine lv_goto (tgt := 2) hx hb dX4_addAll_22 (by decide) ?_
        exact ih2  (j + 1) (by omega) (by omega) _ _ _ hP hD hS (rfl) _ (lv_sub hl [1, 2, 0] rfl)
  exact K2 (9 - 0 + 1) 0 (Nat.lt_succ_self _) (Nat.zero_le _) _ _ _ hP hD hS ((show M = mset (mset M q (eI cy 8 g)) a (.inr (5, [.ref q, .int (nI n)])) by rw [mset_id f_q, mset_id f_a])) _ (lv_sub hl [1, 2, 0] rfl)

set_option maxRecDepth 100000 in
set_option maxHeartbeats 4000000 in
theorem c_X4_init (l : Launch) (D : va_G) (cy : Nat → ClassId) (M : mM) (sz : Nat) (a : Nat)  (f_a : M a = some (.inr (5, [.null, .int (nI 0)])))  : mWv l yX4_init wsX4_init ({ frames := 1, cells := 1, slots := 8, locals := 12 } : Room) D cy M sz [.ref a] (fun M' => ∃ q, M q = none ∧ M' = mset (mset M q (eI cy 8 (fun _ => 0))) a (.inr (5, [.ref q, .int (nI 0)]))) 1 8 := by
  refine mW.of (cc := cX4_init) (maxL := 1) (ret := none) (by decide) rfl (Nat.le_of_ble_eq_true rfl) ?_
  intro p e s m args below meth c ls hsz hx hb hr hts hown hlocks hml hname hP hD hS hA hK hl
  have hl : lv_has ls 1 [(0, .ref a)] := hl
  have hown : s.vm.findClass RX4 = some m.cls := hown
  have hwX4 : ∀ w ∈ wsX40, w.before args s = true := fun w h => hts w (List.mem_cons_of_mem _ (List.mem_append_right _ (h)))
  refine lv_aload_n hx hb dX4_init_0 rfl (lv_at hl 0 rfl) ?_
  refine W.objInit hx hb hown (hts _ (List.mem_of_getElem? (i := 1) rfl)) (hts _ (List.mem_of_getElem? (i := 2) rfl)) (hts _ (List.mem_of_getElem? (i := 3) rfl)) rfl (by rw [hml]; exact hl.1) rfl dX4_init_1 (Nat.le_of_ble_eq_true rfl) (Nat.le_of_ble_eq_true rfl) ?_
  refine W.eq (g2 := F0 m 4 ls []) rfl ?_
  refine lv_aload_n hx hb dX4_init_4 rfl (lv_at hl 0 rfl) ?_
  refine lv_bipush (v := (nI 8)) hx hb dX4_init_5 (by decide) ?_
  refine n_newa (atype := .int) (n := 8) (x := (8, .inl (fun _ => nI 0))) hx hb (hts _ (List.mem_of_getElem? (i := 4) rfl)) hK hP hD hS hA 0 rfl (fun h9 => h9) rfl (by decide) (by decide) (Nat.le_of_ble_eq_true rfl) (Nat.le_of_ble_eq_true rfl) dX4_init_7 (fun q_1 H hn_q_1 hq_q_1 hz_q_1 hP hD hS => ?_)
  have n_a_q_1 : a ≠ q_1 := ne_none (f_a) hn_q_1
  have hP : pm D (mset M q_1 (eI cy 8 (fun _ => 0))) H := hP
  have hD : mD (mA M sz) (mset M q_1 (eI cy 8 (fun _ => 0))) := hD
  refine m_putF (T := TX4) (N := 2) (ci := 5) (fs := [.null, .int (nI 0)]) (v := .ref q_1) hx hb hwX4 tyX4 tyX4_ok nmX4 hown hK hP hD hS ((mset_ne n_a_q_1).trans (f_a)) rfl 0 (by decide) (hts _ (List.mem_of_getElem? (i := 5) rfl)) rfl hname rfl (rfl) rfl (Nat.le_of_ble_eq_true rfl) dX4_init_9 (fun H locs hP hD hS => ?_)
  have hP : pm D (mset (mset M q_1 (eI cy 8 (fun _ => 0))) a (.inr (5, [.ref q_1, .int (nI 0)]))) H := hP
  have hD : mD (mA M sz) (mset (mset M q_1 (eI cy 8 (fun _ => 0))) a (.inr (5, [.ref q_1, .int (nI 0)]))) := hD
  refine lv_aload_n hx hb dX4_init_12 rfl (lv_at hl 0 rfl) ?_
  refine lv_iconst (v := (nI 0)) hx hb dX4_init_13 (by decide) ?_
  refine m_put (T := TX4) (N := 2) (ci := 5) (fs := [.ref q_1, .int (nI 0)]) (v := .int (nI 0)) hx hb hwX4 tyX4 tyX4_ok nmX4 hown hK hP hD hS (mset_self _ _ _) rfl 1 (by decide) (hts _ (List.mem_of_getElem? (i := 6) rfl)) rfl (rfl) rfl (Nat.le_of_ble_eq_true rfl) dX4_init_14 (fun H locs hP hD hS => ?_)
  have hP : pm D (mset (mset (mset M q_1 (eI cy 8 (fun _ => 0))) a (.inr (5, [.ref q_1, .int (nI 0)]))) a (.inr (5, [.ref q_1, .int (nI 0)]))) H := hP
  have hD : mD (mA M sz) (mset (mset (mset M q_1 (eI cy 8 (fun _ => 0))) a (.inr (5, [.ref q_1, .int (nI 0)]))) a (.inr (5, [.ref q_1, .int (nI 0)]))) := hD
  rw [mset_mset _ a (.inr (5, [.ref q_1, .int (nI 0)])) (.inr (5, [.ref q_1, .int (nI 0)]))] at hP hD
  exact e_wv hx hb hr hlocks hP hD hS (⟨q_1, hn_q_1, rfl⟩) dX4_init_17
