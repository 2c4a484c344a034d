set_option maxRecDepth 100000 in
set_option maxHeartbeats 4000000 in
theorem c_X3_addRank (l : Launch) (D : va_G) (cy : Nat → ClassId) (M : mM) (sz : Nat) (a mk sc pt rk grp sh rc : Nat) (gs gp gr : Nat → Nat) (k : Nat)  (f_a : M a = some (.inr (4, [.int (nI grp), .ref mk, .int (nI sh), .ref sc, .ref pt, .ref rk, .int (nI rc)]))) (f_sc : M sc = some (eI cy 5 gs)) (f_pt : M pt = some (eI cy 4 gp)) (f_rk : M rk = some (eI cy 6 gr)) (hrc : rc < 6) : mWv l yX3_addRank wsX3_addRank ({ frames := 0, cells := 0, slots := 0, locals := 0 } : Room) D cy M sz [.ref a, .int (nI k)] (fun M' => M' = mset (mset M rk (eI cy 6 (va_up gr rc k))) a (.inr (4, [.int (nI grp), .ref mk, .int (nI sh), .ref sc, .ref pt, .ref rk, .int (nI (rc + 1))]))) 0 0 := by
  refine mW.of (cc := cX3_addRank) (maxL := 2) (ret := none) (by decide) rfl (Nat.le_of_ble_eq_true rfl) ?_
  intro p e s m args below meth c ls hsz hx hb hr hts hown hlocks hml hname hP hD hS hA hK hl
  have hl : lv_has ls 2 [(0, .ref a), (1, .int (nI k))] := hl
  have hown : s.vm.findClass RX3 = some m.cls := hown
  have hwX3 : ∀ w ∈ wsX30, w.before args s = true := fun w h => hts w (List.mem_cons_of_mem _ (List.mem_append_right _ (h)))
  have n_a_sc : a ≠ sc := ne_cell f_a f_sc (fun h9 => by simp at h9)
  have n_a_pt : a ≠ pt := ne_cell f_a f_pt (fun h9 => by simp at h9)
  have n_a_rk : a ≠ rk := ne_cell f_a f_rk (fun h9 => by simp at h9)
  have n_sc_pt : sc ≠ pt := ne_cell f_sc f_pt (fun h9 => by simp at h9)
  have n_sc_rk : sc ≠ rk := ne_cell f_sc f_rk (fun h9 => by simp at h9)
  have n_pt_rk : pt ≠ rk := ne_cell f_pt f_rk (fun h9 => by simp at h9)
  refine lv_aload_n hx hb dX3_addRank_0 rfl (lv_at hl 0 rfl) ?_
  refine m_get (T := TX3) (N := 7) (ci := 4) (fs := [.int (nI grp), .ref mk, .int (nI sh), .ref sc, .ref pt, .ref rk, .int (nI rc)]) hx hb hwX3 hown hK hP f_a rfl 6 (by decide) (hts _ (List.mem_of_getElem? (i := 1) rfl)) (v := .int (nI rc)) rfl dX3_addRank_1 ?_
  refine lv_bipush (v := (nI 6)) hx hb dX3_addRank_4 (by decide) ?_
  refine z_icmp_ge (u := ((rc : Nat) : Int)) (v := ((6 : Nat) : Int)) (tgt := 29) hx hb (nI_toInt (by omega)) (nI_toInt (by omega)) dX3_addRank_6 (by decide) (fun c_6 => ?_) (fun c_6 => ?_)
  · exact e_wv hx hb hr hlocks hP hD hS ((by omega)) dX3_addRank_29
  · refine lv_aload_n hx hb dX3_addRank_9 rfl (lv_at hl 0 rfl) ?_
    refine m_get (T := TX3) (N := 7) (ci := 4) (fs := [.int (nI grp), .ref mk, .int (nI sh), .ref sc, .ref pt, .ref rk, .int (nI rc)]) hx hb hwX3 hown hK hP f_a rfl 5 (by decide) (hts _ (List.mem_of_getElem? (i := 2) rfl)) (v := .ref rk) rfl dX3_addRank_10 ?_
    refine lv_aload_n hx hb dX3_addRank_13 rfl (lv_at hl 0 rfl) ?_
    refine m_get (T := TX3) (N := 7) (ci := 4) (fs := [.int (nI grp), .ref mk, .int (nI sh), .ref sc, .ref pt, .ref rk, .int (nI rc)]) hx hb hwX3 hown hK hP f_a rfl 6 (by decide) (hts _ (List.mem_of_getElem? (i := 1) rfl)) (v := .int (nI rc)) rfl dX3_addRank_14 ?_
    refine lv_iload_n hx hb dX3_addRank_17 rfl (lv_at hl 1 rfl) ?_
    refine n_iast (g := gr) (n := 6) (i := rc) (v := k) hx hb hK hP hD hS f_rk (by omega) (by omega) dX3_addRank_18 (fun H locs hP hD hS => ?_)
    have hP : pm D (mset M rk (eI cy 6 (va_up gr rc k))) H := hP
    have hD : mD (mA M sz) (mset M rk (eI cy 6 (va_up gr rc k))) := hD
    refine lv_aload_n hx hb dX3_addRank_19 rfl (lv_at hl 0 rfl) ?_
    refine lv_dup hx hb dX3_addRank_20 rfl ?_
    refine m_get (T := TX3) (N := 7) (ci := 4) (fs := [.int (nI grp), .ref mk, .int (nI sh), .ref sc, .ref pt, .ref rk, .int (nI rc)]) hx hb hwX3 hown hK hP ((mset_ne n_a_rk).trans (f_a)) rfl 6 (by decide) (hts _ (List.mem_of_getElem? (i := 1) rfl)) (v := .int (nI rc)) rfl dX3_addRank_21 ?_
    refine lv_iconst (v := (nI 1)) hx hb dX3_addRank_24 (by decide) ?_
    refine n_add (x := rc) (y := 1) hx hb dX3_addRank_25 ?_
    refine m_put (T := TX3) (N := 7) (ci := 4) (fs := [.int (nI grp), .ref mk, .int (nI sh), .ref sc, .ref pt, .ref rk, .int (nI rc)]) (v := .int (nI (rc + 1))) hx hb hwX3 tyX3 tyX3_ok nmX3 hown hK hP hD hS ((mset_ne n_a_rk).trans (f_a)) rfl 6 (by decide) (hts _ (List.mem_of_getElem? (i := 1) rfl)) rfl (rfl) rfl (Nat.le_of_ble_eq_true rfl) dX3_addRank_26 (fun H locs hP hD hS => ?_)
    have hP : pm D (mset (mset M rk (eI cy 6 (va_up gr rc k))) a (.inr (4, [.int (nI grp), .ref mk, .int (nI sh), .ref sc, .ref pt, .ref rk, .int (nI (rc + 1))]))) H := hP
    have hD : mD (mA M sz) (mset (mset M rk (eI cy 6 (va_up gr rc k))) a (.inr (4, [.int (nI grp), .ref mk, .int (nI sh), .ref sc, .ref pt, .ref rk, .int (nI (rc + 1))]))) := hD
    exact e_wv hx hb hr hlocks hP hD hS (rfl) dX3_addRank_29

set_option maxRecDepth 100000 in
set_option maxHeartbeats 4000000 in
theorem c_X3_addRankF (l : Launch) (D : va_G) (cy : Nat → ClassId) (M : mM) (sz : Nat) (a mk sc pt rk grp sh rc : Nat) (gs gp gr : Nat → Nat) (k : Nat)  (f_a : M a = some (.inr (4, [.int (nI grp), .ref mk, .int (nI sh), .ref sc, .ref pt, .ref rk, .int (nI rc)]))) (f_sc : M sc = some (eI cy 5 gs)) (f_pt : M pt = some (eI cy 4 gp)) (f_rk : M rk = some (eI cy 6 gr)) (hrc : ¬ rc < 6) (hrc2 : rc ≤ 6) : mWv l yX3_addRank wsX3_addRank ({ frames := 0, cells := 0, slots := 0, locals := 0 } : Room) D cy M sz [.ref a, .int (nI k)] (fun M' => M' = M) 0 0 := by
  refine mW.of (cc := cX3_addRank) (maxL := 2) (ret := none) (by decide) rfl (Nat.le_of_ble_eq_true rfl) ?_
  intro p e s m args below meth c ls hsz hx hb hr hts hown hlocks hml hname hP hD hS hA hK hl
  have hl : lv_has ls 2 [(0, .ref a), (1, .int (nI k))] := hl
  have hown : s.vm.findClass RX3 = some m.cls := hown
  have hwX3 : ∀ w ∈ wsX30, w.before args s = true := fun w h => hts w (List.mem_cons_of_mem _ (List.mem_append_right _ (h)))
  have n_a_sc : a ≠ sc := ne_cell f_a f_sc (fun h9 => by simp at h9)
  have n_a_pt : a ≠ pt := ne_cell f_a f_pt (fun h9 => by simp at h9)
  have n_a_rk : a ≠ rk := ne_cell f_a f_rk (fun h9 => by simp at h9)
  have n_sc_pt : sc ≠ pt := ne_cell f_sc f_pt (fun h9 => by simp at h9)
  have n_sc_rk : sc ≠ rk := ne_cell f_sc f_rk (fun h9 => by simp at h9)
  have n_pt_rk : pt ≠ rk := ne_cell f_pt f_rk (fun h9 => by simp at h9)
  refine lv_aload_n hx hb dX3_addRank_0 rfl (lv_at hl 0 rfl) ?_
  refine m_get (T := TX3) (N := 7) (ci := 4) (fs := [.int (nI grp), .ref mk, .int (nI sh), .ref sc, .ref pt, .ref rk, .int (nI rc)]) hx hb hwX3 hown hK hP f_a rfl 6 (by decide) (hts _ (List.mem_of_getElem? (i := 1) rfl)) (v := .int (nI rc)) rfl dX3_addRank_1 ?_
  refine lv_bipush (v := (nI 6)) hx hb dX3_addRank_4 (by decide) ?_
  refine z_icmp_ge (u := ((rc : Nat) : Int)) (v := ((6 : Nat) : Int)) (tgt := 29) hx hb (nI_toInt (by omega)) (nI_toInt (by omega)) dX3_addRank_6 (by decide) (fun c_6 => ?_) (fun c_6 => ?_)
  · exact e_wv hx hb hr hlocks hP hD hS (rfl) dX3_addRank_29
  · refine lv_aload_n hx hb dX3_addRank_9 rfl (lv_at hl 0 rfl) ?_
    refine m_get (T := TX3) (N := 7) (ci := 4) (fs := [.int (nI grp), .ref mk, .int (nI sh), .ref sc, .ref pt, .ref rk, .int (nI rc)]) hx hb hwX3 hown hK hP f_a rfl 5 (by decide) (hts _ (List.mem_of_getElem? (i := 2) rfl)) (v := .ref rk) rfl dX3_addRank_10 ?_
    refine lv_aload_n hx hb dX3_addRank_13 rfl (lv_at hl 0 rfl) ?_
    refine m_get (T := TX3) (N := 7) (ci := 4) (fs := [.int (nI grp), .ref mk, .int (nI sh), .ref sc, .ref pt, .ref rk, .int (nI rc)]) hx hb hwX3 hown hK hP f_a rfl 6 (by decide) (hts _ (List.mem_of_getElem? (i := 1) rfl)) (v := .int (nI rc)) rfl dX3_addRank_14 ?_
    refine lv_iload_n hx hb dX3_addRank_17 rfl (lv_at hl 1 rfl) ?_
    refine n_iast (g := gr) (n := 6) (i := rc) (v := k) hx hb hK hP hD hS f_rk (by omega) (by omega) dX3_addRank_18 (fun H locs hP hD hS => ?_)
    have hP : pm D (mset M rk (eI cy 6 (va_up gr rc k))) H := hP
    have hD : mD (mA M sz) (mset M rk (eI cy 6 (va_up gr rc k))) := hD
    refine lv_aload_n hx hb dX3_addRank_19 rfl (lv_at hl 0 rfl) ?_
    refine lv_dup hx hb dX3_addRank_20 rfl ?_
    refine m_get (T := TX3) (N := 7) (ci := 4) (fs := [.int (nI grp), .ref mk, .int (nI sh), .ref sc, .ref pt, .ref rk, .int (nI rc)]) hx hb hwX3 hown hK hP ((mset_ne n_a_rk).trans (f_a)) rfl 6 (by decide) (hts _ (List.mem_of_getElem? (i := 1) rfl)) (v := .int (nI rc)) rfl dX3_addRank_21 ?_
    refine lv_iconst (v := (nI 1)) hx hb dX3_addRank_24 (by decide) ?_
    refine n_add (x := rc) (y := 1) hx hb dX3_addRank_25 ?_
    refine m_put (T := TX3) (N := 7) (ci := 4) (fs := [.int (nI grp), .ref mk, .int (nI sh), .ref sc, .ref pt, .ref rk, .int (nI rc)]) (v := .int (nI (rc + 1))) hx hb hwX3 tyX3 tyX3_ok nmX3 hown hK hP hD hS ((mset_ne n_a_rk).trans (f_a)) rfl 6 (by decide) (hts _ (List.mem_of_getElem? (i := 1) rfl)) rfl (rfl) rfl (Nat.le_of_ble_eq_true rfl) dX3_addRank_26 (fun H locs hP hD hS => ?_)
    have hP : pm D (mset (mset M rk (eI cy 6 (va_up gr rc k))) a (.inr (4, [.int (nI grp), .ref mk, .int (nI sh), .ref sc, .ref pt, .ref rk, .int (nI (rc + 1))]))) H := hP
    have hD : mD (mA M sz) (mset (mset M rk (eI cy 6 (va_up gr rc k))) a (.inr (4, [.int (nI grp), .ref mk, .int (nI sh), .ref sc, .ref pt, .ref rk, .int (nI (rc + 1))]))) := hD
    exact e_wv hx hb hr hlocks hP hD hS ((by omega)) dX3_addRank_29

set_option maxRecDepth 100000 in
set_option maxHeartbeats 4000000 in
theorem c_X3_addWrongRuling (l : Launch) (D : va_G) (cy : Nat → ClassId) (M : mM) (sz : Nat) (a mk sc pt rk grp sh rc : Nat) (gs gp gr : Nat → Nat)  (f_a : M a = some (.inr (4, [.int (nI grp), .ref mk, .int (nI sh), .ref sc, .ref pt, .ref rk, .int (nI rc)]))) (f_sc : M sc = some (eI cy 5 gs)) (f_pt : M pt = some (eI cy 4 gp)) (f_rk : M rk = some (eI cy 6 gr))  : mWv l yX3_addWrongRuling wsX3_addWrongRuling ({ frames := 0, cells := 0, slots := 0, locals := 0 } : Room) D cy M sz [.ref a] (fun M' => M' = mset M sc (eI cy 5 (va_up gs 4 1))) 0 0 := by
  refine mW.of (cc := cX3_addWrongRuling) (maxL := 1) (ret := none) (by decide) rfl (Nat.le_of_ble_eq_true rfl) ?_
  intro p e s m args below meth c ls hsz hx hb hr hts hown hlocks hml hname hP hD hS hA hK hl
  have hl : lv_has ls 1 [(0, .ref a)] := hl
  have hown : s.vm.findClass RX3 = some m.cls := hown
  have hwX3 : ∀ w ∈ wsX30, w.before args s = true := fun w h => hts w (List.mem_cons_of_mem _ (List.mem_append_right _ (h)))
  have n_a_sc : a ≠ sc := ne_cell f_a f_sc (fun h9 => by simp at h9)
  have n_a_pt : a ≠ pt := ne_cell f_a f_pt (fun h9 => by simp at h9)
  have n_a_rk : a ≠ rk := ne_cell f_a f_rk (fun h9 => by simp at h9)
  have n_sc_pt : sc ≠ pt := ne_cell f_sc f_pt (fun h9 => by simp at h9)
  have n_sc_rk : sc ≠ rk := ne_cell f_sc f_rk (fun h9 => by simp at h9)
  have n_pt_rk : pt ≠ rk := ne_cell f_pt f_rk (fun h9 => by simp at h9)
  refine lv_aload_n hx hb dX3_addWrongRuling_0 rfl (lv_at hl 0 rfl) ?_
  refine m_get (T := TX3) (N := 7) (ci := 4) (fs := [.int (nI grp), .ref mk, .int (nI sh), .ref sc, .ref pt, .ref rk, .int (nI rc)]) hx hb hwX3 hown hK hP f_a rfl 3 (by decide) (hts _ (List.mem_of_getElem? (i := 1) rfl)) (v := .ref sc) rfl dX3_addWrongRuling_1 ?_
  refine lv_iconst (v := (nI 4)) hx hb dX3_addWrongRuling_4 (by decide) ?_
  refine lv_iconst (v := (nI 1)) hx hb dX3_addWrongRuling_5 (by decide) ?_
  refine n_iast (g := gs) (n := 5) (i := 4) (v := 1) hx hb hK hP hD hS f_sc (by omega) (by omega) dX3_addWrongRuling_6 (fun H locs hP hD hS => ?_)
  have hP : pm D (mset M sc (eI cy 5 (va_up gs 4 1))) H := hP
  have hD : mD (mA M sz) (mset M sc (eI cy 5 (va_up gs 4 1))) := hD
  exact e_wv hx hb hr hlocks hP hD hS (rfl) dX3_addWrongRuling_7

set_option maxRecDepth 100000 in
set_option maxHeartbeats 4000000 in
theorem c_X3_setPoints (l : Launch) (D : va_G) (cy : Nat → ClassId) (M : mM) (sz : Nat) (a mk sc pt rk grp sh rc : Nat) (gs gp gr : Nat → Nat) (k w : Nat)  (f_a : M a = some (.inr (4, [.int (nI grp), .ref mk, .int (nI sh), .ref sc, .ref pt, .ref rk, .int (nI rc)]))) (f_sc : M sc = some (eI cy 5 gs)) (f_pt : M pt = some (eI cy 4 gp)) (f_rk : M rk = some (eI cy 6 gr)) (hk : k < 4) : mWv l yX3_setPoints wsX3_setPoints ({ frames := 0, cells := 0, slots := 0, locals := 0 } : Room) D cy M sz [.ref a, .int (nI k), .int (nI w)] (fun M' => M' = mset M pt (eI cy 4 (va_up gp k w))) 0 0 := by
  refine mW.of (cc := cX3_setPoints) (maxL := 3) (ret := none) (by decide) rfl (Nat.le_of_ble_eq_true rfl) ?_
  intro p e s m args below meth c ls hsz hx hb hr hts hown hlocks hml hname hP hD hS hA hK hl
  have hl : lv_has ls 3 [(0, .ref a), (1, .int (nI k)), (2, .int (nI w))] := hl
  have hown : s.vm.findClass RX3 = some m.cls := hown
  have hwX3 : ∀ w ∈ wsX30, w.before args s = true := fun w h => hts w (List.mem_cons_of_mem _ (List.mem_append_right _ (h)))
  have n_a_sc : a ≠ sc := ne_cell f_a f_sc (fun h9 => by simp at h9)
  have n_a_pt : a ≠ pt := ne_cell f_a f_pt (fun h9 => by simp at h9)
  have n_a_rk : a ≠ rk := ne_cell f_a f_rk (fun h9 => by simp at h9)
  have n_sc_pt : sc ≠ pt := ne_cell f_sc f_pt (fun h9 => by simp at h9)
  have n_sc_rk : sc ≠ rk := ne_cell f_sc f_rk (fun h9 => by simp at h9)
  have n_pt_rk : pt ≠ rk := ne_cell f_pt f_rk (fun h9 => by simp at h9)
  refine lv_iload_n hx hb dX3_setPoints_0 rfl (lv_at hl 1 rfl) ?_
  refine z_if_lt (u := ((k : Nat) : Int)) (tgt := 16) hx hb (nI_toInt (by omega)) dX3_setPoints_1 (by decide) (fun c_1 => ?_) (fun c_1 => ?_)
  · exact e_wv hx hb hr hlocks hP hD hS ((by omega)) dX3_setPoints_16
  · refine lv_iload_n hx hb dX3_setPoints_4 rfl (lv_at hl 1 rfl) ?_
    refine lv_iconst (v := (nI 4)) hx hb dX3_setPoints_5 (by decide) ?_
    refine z_icmp_ge (u := ((k : Nat) : Int)) (v := ((4 : Nat) : Int)) (tgt := 16) hx hb (nI_toInt (by omega)) (nI_toInt (by omega)) dX3_setPoints_6 (by decide) (fun c_6 => ?_) (fun c_6 => ?_)
    · exact e_wv hx hb hr hlocks hP hD hS ((by omega)) dX3_setPoints_16
    · refine lv_aload_n hx hb dX3_setPoints_9 rfl (lv_at hl 0 rfl) ?_
      refine m_get (T := TX3) (N := 7) (ci := 4) (fs := [.int (nI grp), .ref mk, .int (nI sh), .ref sc, .ref pt, .ref rk, .int (nI rc)]) hx hb hwX3 hown hK hP f_a rfl 4 (by decide) (hts _ (List.mem_of_getElem? (i := 1) rfl)) (v := .ref pt) rfl dX3_setPoints_10 ?_
      refine lv_iload_n hx hb dX3_setPoints_13 rfl (lv_at hl 1 rfl) ?_
      refine lv_iload_n hx hb dX3_setPoints_14 rfl (lv_at hl 2 rfl) ?_
      refine n_iast (g := gp) (n := 4) (i := k) (v := w) hx hb hK hP hD hS f_pt (by omega) (by omega) dX3_setPoints_15 (fun H locs hP hD hS => ?_)
      have hP : pm D (mset M pt (eI cy 4 (va_up gp k w))) H := hP
      have hD : mD (mA M sz) (mset M pt (eI cy 4 (va_up gp k w))) := hD
      exact e_wv hx hb hr hlocks hP hD hS (rfl) dX3_setPoints_16

set_option maxRecDepth 100000 in
set_option maxHeartbeats 4000000 in
theorem c_X3_slipsOf (l : Launch) (D : va_G) (cy : Nat → ClassId) (M : mM) (a mk sc pt rk grp sh rc : Nat) (gs gp gr : Nat → Nat) (k : Nat)  (f_a : M a = some (.inr (4, [.int (nI grp), .ref mk, .int (nI sh), .ref sc, .ref pt, .ref rk, .int (nI rc)]))) (f_sc : M sc = some (eI cy 5 gs)) (f_pt : M pt = some (eI cy 4 gp)) (f_rk : M rk = some (eI cy 6 gr)) (hk : k < 5) : mR l yX3_slipsOf wsX3_slipsOf ({ frames := 0, cells := 0, slots := 0, locals := 0 } : Room) D cy M [.ref a, .int (nI k)] (fun r => r = nI (gs k)) := by
  refine mR.of (cc := cX3_slipsOf) (maxL := 2) (ret := (some .int)) (by decide) rfl (Nat.le_of_ble_eq_true rfl) ?_
  intro p e s m args below meth c ls hx hb hr hts hown hlocks hml hP hK hl
  have hl : lv_has ls 2 [(0, .ref a), (1, .int (nI k))] := hl
  have hown : s.vm.findClass RX3 = some m.cls := hown
  have hwX3 : ∀ w ∈ wsX30, w.before args s = true := fun w h => hts w (List.mem_cons_of_mem _ (List.mem_append_right _ (h)))
  refine lv_iload_n hx hb dX3_slipsOf_0 rfl (lv_at hl 1 rfl) ?_
  refine z_if_lt (u := ((k : Nat) : Int)) (tgt := 18) hx hb (nI_toInt (by omega)) dX3_slipsOf_1 (by decide) (fun c_1 => ?_) (fun c_1 => ?_)
  · refine lv_iconst (v := (nI 0)) hx hb dX3_slipsOf_18 (by decide) ?_
    exact e_ri hx hb hr hlocks ((by omega)) dX3_slipsOf_19
  · refine lv_iload_n hx hb dX3_slipsOf_4 rfl (lv_at hl 1 rfl) ?_
    refine lv_iconst (v := (nI 5)) hx hb dX3_slipsOf_5 (by decide) ?_
    refine z_icmp_ge (u := ((k : Nat) : Int)) (v := ((5 : Nat) : Int)) (tgt := 18) hx hb (nI_toInt (by omega)) (nI_toInt (by omega)) dX3_slipsOf_6 (by decide) (fun c_6 => ?_) (fun c_6 => ?_)
    · refine lv_iconst (v := (nI 0)) hx hb dX3_slipsOf_18 (by decide) ?_
      exact e_ri hx hb hr hlocks ((by omega)) dX3_slipsOf_19
    · refine lv_aload_n hx hb dX3_slipsOf_9 rfl (lv_at hl 0 rfl) ?_
      refine m_get (T := TX3) (N := 7) (ci := 4) (fs := [.int (nI grp), .ref mk, .int (nI sh), .ref sc, .ref pt, .ref rk, .int (nI rc)]) hx hb hwX3 hown hK hP f_a rfl 3 (by decide) (hts _ (List.mem_of_getElem? (i := 1) rfl)) (v := .ref sc) rfl dX3_slipsOf_10 ?_
      refine lv_iload_n hx hb dX3_slipsOf_13 rfl (lv_at hl 1 rfl) ?_
      refine n_iald (g := gs) (n := 5) (i := k) hx hb hK hP f_sc (by omega) (by omega) dX3_slipsOf_14 ?_
      refine lv_goto (tgt := 19) hx hb dX3_slipsOf_15 (by decide) ?_
      exact e_ri hx hb hr hlocks (rfl) dX3_slipsOf_19

set_option maxRecDepth 100000 in
set_option maxHeartbeats 4000000 in
theorem c_X3_allSlips (l : Launch) (D : va_G) (cy : Nat → ClassId) (M : mM) (a mk sc pt rk grp sh rc : Nat) (gs gp gr : Nat → Nat)  (f_a : M a = some (.inr (4, [.int (nI grp), .ref mk, .int (nI sh), .ref sc, .ref pt, .ref rk, .int (nI rc)]))) (f_sc : M sc = some (eI cy 5 gs)) (f_pt : M pt = some (eI cy 4 gp)) (f_rk : M rk = some (eI cy 6 gr)) (hb9 : ∀ j, gs j ≤ 8) : mR l yX3_allSlips wsX3_allSlips ({ frames := 0, cells := 0, slots := 0, locals := 0 } : Room) D cy M [.ref a] (fun r => r = nI (sumA gs 5)) := by
  refine mR.of (cc := cX3_allSlips) (maxL := 6) (ret := (some .int)) (by decide) rfl (Nat.le_of_ble_eq_true rfl) ?_
  intro p e s m args below meth c ls hx hb hr hts hown hlocks hml hP hK hl
  have hl : lv_has ls 6 [(0, .ref a)] := hl
  have hown : s.vm.findClass RX3 = some m.cls := hown
  have hwX3 : ∀ w ∈ wsX30, w.before args s = true := fun w h => hts w (List.mem_cons_of_mem _ (List.mem_append_right _ (h)))
  refine lv_iconst (v := (nI 0)) hx hb dX3_allSlips_0 (by decide) ?_
  refine lv_istore_n (lv' := [(1, .int (nI 0)), (0, .ref a)]) hx hb dX3_allSlips_1 rfl hl (by decide) rfl (fun ls hl => ?_)
  refine lv_aload_n hx hb dX3_allSlips_2 rfl (lv_at hl 1 rfl) ?_
  refine m_get (T := TX3) (N := 7) (ci := 4) (fs := [.int (nI grp), .ref mk, .int (nI sh), .ref sc, .ref pt, .ref rk, .int (nI rc)]) hx hb hwX3 hown hK hP f_a rfl 3 (by decide) (hts _ (List.mem_of_getElem? (i := 1) rfl)) (v := .ref sc) rfl dX3_allSlips_3 ?_
  refine lv_astore_n (lv' := [(2, .ref sc), (1, .int (nI 0)), (0, .ref a)]) hx hb dX3_allSlips_6 rfl hl (by decide) rfl (fun ls hl => ?_)
  refine lv_aload_n hx hb dX3_allSlips_7 rfl (lv_at hl 0 rfl) ?_
  refine m_alen (n := 5) (t0 := 0) hx hb hK hP f_sc rfl rfl dX3_allSlips_8 ?_
  refine lv_istore_n (lv' := [(3, .int (nI 5)), (2, .ref sc), (1, .int (nI 0)), (0, .ref a)]) hx hb dX3_allSlips_9 rfl hl (by decide) rfl (fun ls hl => ?_)
  refine lv_iconst (v := (nI 0)) hx hb dX3_allSlips_10 (by decide) ?_
  refine lv_istore (lv' := [(4, .int (nI 0)), (3, .int (nI 5)), (2, .ref sc), (1, .int (nI 0)), (0, .ref a)]) hx hb dX3_allSlips_11 hl (by decide) rfl (fun ls hl => ?_)
  have K13 : ∀ (n9 : Nat) (j : Nat), 6 - j < n9 → (j ≤ 5) → ∀ (ls : Array Slot), lv_has ls 6 [(0, .ref a), (1, .int (nI (sumA gs j))), (2, .ref sc), (3, .int (nI 5)), (4, .int (nI j))] → W p l e ({ frames := 0, cells := 0, slots := 0, locals := 0 } : Room) s m args below meth c s.heap [] 0 0 (MQ below (vp_Si (fun r => r = nI (sumA gs 5))) args s 0 0 (fun _ => False)) (F0 m 13 ls []) := by
    intro n9
    induction n9 with
    | zero => intro j hn; exact absurd hn (by omega)
    | succ n9 ih13 =>
      intro j hn13 i13_0 ls hl
      have hbj := hb9 j
      have hsm := sumA_le hb9 j
      refine lv_iload hx hb dX3_allSlips_13 (lv_at hl 4 rfl) ?_
      refine lv_iload_n hx hb dX3_allSlips_15 rfl (lv_at hl 3 rfl) ?_
      refine z_icmp_ge (u := ((j : Nat) : Int)) (v := ((5 : Nat) : Int)) (tgt := 36) hx hb (nI_toInt (by omega)) (nI_toInt (by omega)) dX3_allSlips_16 (by decide) (fun c_16 => ?_) (fun c_16 => ?_)
      · refine lv_iload_n hx hb dX3_allSlips_36 rfl (lv_at hl 1 rfl) ?_
        exact e_ri hx hb hr hlocks ((by rw [show (5 : Nat) = j by omega])) dX3_allSlips_37
      · refine lv_aload_n hx hb dX3_allSlips_19 rfl (lv_at hl 2 rfl) ?_
        refine lv_iload hx hb dX3_allSlips_20 (lv_at hl 4 rfl) ?_
        refine n_iald (g := gs) (n := 5) (i := j) hx hb hK hP f_sc (by omega) (by omega) dX3_allSlips_22 ?_
        refine lv_istore (lv' := [(5, .int (nI (gs j))), (0, .ref a), (1, .int (nI (sumA gs j))), (2, .ref sc), (3, .int (nI 5)), (4, .int (nI j))]) hx hb dX3_allSlips_23 hl (by decide) rfl (fun ls hl => ?_)
        refine lv_iload_n hx hb dX3_allSlips_25 rfl (lv_at hl 2 rfl) ?_
        refine lv_iload hx hb dX3_allSlips_26 (lv_at hl 0 rfl) ?_
        refine n_add (x := sumA gs j) (y := gs j) hx hb dX3_allSlips_28 ?_
        refine lv_istore_n (lv' := [(1, .int (nI ((sumA gs j) + (gs j)))), (5, .int (nI (gs j))), (0, .ref a), (2, .ref sc), (3, .int (nI 5)), (4, .int (nI j))]) hx hb dX3_allSlips_29 rfl hl (by decide) rfl (fun ls hl => ?_)
        refine n_iinc (x := j) (k := 1) (lv' := [(4, .int (nI (j + 1))), (1, .int (nI ((sumA gs j) + (gs j)))), (5, .int (nI (gs j))), (0, .ref a), (2, .ref sc), (3, .int (nI 5))]) hx hb dX3_allSlips_30 rfl hl (q := 5) rfl (by decide) rfl (fun ls hl => ?_)
        refine lv_goto (tgt := 13) hx hb dX3_allSlips_33 (by decide) ?_
        exact ih13  (j + 1) (by omega) (by omega) _ (lv_sub hl [3, 1, 4, 5, 0] rfl)
  exact K13 (6 - 0 + 1) 0 (Nat.lt_succ_self _) (Nat.zero_le _) _ (lv_sub hl [4, 3, 2, 1, 0] rfl)

set_option maxRecDepth 100000 in
set_option maxHeartbeats 4000000 in
theorem c_X3_allPoints (l : Launch) (D : va_G) (cy : Nat → ClassId) (M : mM) (a mk sc pt rk grp sh rc : Nat) (gs gp gr : Nat → Nat)  (f_a : M a = some (.inr (4, [.int (nI grp), .ref mk, .int (nI sh), .ref sc, .ref pt, .ref rk, .int (nI rc)]))) (f_sc : M sc = some (eI cy 5 gs)) (f_pt : M pt = some (eI cy 4 gp)) (f_rk : M rk = some (eI cy 6 gr)) (hb9 : ∀ j, gp j ≤ 5) : mR l yX3_allPoints wsX3_allPoints ({ frames := 0, cells := 0, slots := 0, locals := 0 } : Room) D cy M [.ref a] (fun r => r = nI (sumA gp 4)) := by
  refine mR.of (cc := cX3_allPoints) (maxL := 6) (ret := (some .int)) (by decide) rfl (Nat.le_of_ble_eq_true rfl) ?_
  intro p e s m args below meth c ls hx hb hr hts hown hlocks hml hP hK hl
  have hl : lv_has ls 6 [(0, .ref a)] := hl
  have hown : s.vm.findClass RX3 = some m.cls := hown
  have hwX3 : ∀ w ∈ wsX30, w.before args s = true := fun w h => hts w (List.mem_cons_of_mem _ (List.mem_append_right _ (h)))
  refine lv_iconst (v := (nI 0)) hx hb dX3_allPoints_0 (by decide) ?_
  refine lv_istore_n (lv' := [(1, .int (nI 0)), (0, .ref a)]) hx hb dX3_allPoints_1 rfl hl (by decide) rfl (fun ls hl => ?_)
  refine lv_aload_n hx hb dX3_allPoints_2 rfl (lv_at hl 1 rfl) ?_
  refine m_get (T := TX3) (N := 7) (ci := 4) (fs := [.int (nI grp), .ref mk, .int (nI sh), .ref sc, .ref pt, .ref rk, .int (nI rc)]) hx hb hwX3 hown hK hP f_a rfl 4 (by decide) (hts _ (List.mem_of_getElem? (i := 1) rfl)) (v := .ref pt) rfl dX3_allPoints_3 ?_
  refine lv_astore_n (lv' := [(2, .ref pt), (1, .int (nI 0)), (0, .ref a)]) hx hb dX3_allPoints_6 rfl hl (by decide) rfl (fun ls hl => ?_)
  refine lv_aload_n hx hb dX3_allPoints_7 rfl (lv_at hl 0 rfl) ?_
  refine m_alen (n := 4) (t0 := 0) hx hb hK hP f_pt rfl rfl dX3_allPoints_8 ?_
  refine lv_istore_n (lv' := [(3, .int (nI 4)), (2, .ref pt), (1, .int (nI 0)), (0, .ref a)]) hx hb dX3_allPoints_9 rfl hl (by decide) rfl (fun ls hl => ?_)
  refine lv_iconst (v := (nI 0)) hx hb dX3_allPoints_10 (by decide) ?_
  refine lv_istore (lv' := [(4, .int (nI 0)), (3, .int (nI 4)), (2, .ref pt), (1, .int (nI 0)), (0, .ref a)]) hx hb dX3_allPoints_11 hl (by decide) rfl (fun ls hl => ?_)
  have K13 : ∀ (n9 : Nat) (j : Nat), 5 - j < n9 → (j ≤ 4) → ∀ (ls : Array Slot), lv_has ls 6 [(0, .ref a), (1, .int (nI (sumA gp j))), (2, .ref pt), (3, .int (nI 4)), (4, .int (nI j))] → W p l e ({ frames := 0, cells := 0, slots := 0, locals := 0 } : Room) s m args below meth c s.heap [] 0 0 (MQ below (vp_Si (fun r => r = nI (sumA gp 4))) args s 0 0 (fun _ => False)) (F0 m 13 ls []) := by
    intro n9
    induction n9 with
    | zero => intro j hn; exact absurd hn (by omega)
    | succ n9 ih13 =>
      intro j hn13 i13_0 ls hl
      have hbj := hb9 j
      have hsm := sumA_le hb9 j
      refine lv_iload hx hb dX3_allPoints_13 (lv_at hl 4 rfl) ?_
      refine lv_iload_n hx hb dX3_allPoints_15 rfl (lv_at hl 3 rfl) ?_
      refine z_icmp_ge (u := ((j : Nat) : Int)) (v := ((4 : Nat) : Int)) (tgt := 36) hx hb (nI_toInt (by omega)) (nI_toInt (by omega)) dX3_allPoints_16 (by decide) (fun c_16 => ?_) (fun c_16 => ?_)
      · refine lv_iload_n hx hb dX3_allPoints_36 rfl (lv_at hl 1 rfl) ?_
        exact e_ri hx hb hr hlocks ((by rw [show (4 : Nat) = j by omega])) dX3_allPoints_37
      · refine lv_aload_n hx hb dX3_allPoints_19 rfl (lv_at hl 2 rfl) ?_
        refine lv_iload hx hb dX3_allPoints_20 (lv_at hl 4 rfl) ?_
        refine n_iald (g := gp) (n := 4) (i := j) hx hb hK hP f_pt (by omega) (by omega) dX3_allPoints_22 ?_
        refine lv_istore (lv' := [(5, .int (nI (gp j))), (0, .ref a), (1, .int (nI (sumA gp j))), (2, .ref pt), (3, .int (nI 4)), (4, .int (nI j))]) hx hb dX3_allPoints_23 hl (by decide) rfl (fun ls hl => ?_)
        refine lv_iload_n hx hb dX3_allPoints_25 rfl (lv_at hl 2 rfl) ?_
        refine lv_iload hx hb dX3_allPoints_26 (lv_at hl 0 rfl) ?_
        refine n_add (x := sumA gp j) (y := gp j) hx hb dX3_allPoints_28 ?_
        refine lv_istore_n (lv' := [(1, .int (nI ((sumA gp j) + (gp j)))), (5, .int (nI (gp j))), (0, .ref a), (2, .ref pt), (3, .int (nI 4)), (4, .int (nI j))]) hx hb dX3_allPoints_29 rfl hl (by decide) rfl (fun ls hl => ?_)
        refine n_iinc (x := j) (k := 1) (lv' := [(4, .int (nI (j + 1))), (1, .int (nI ((sumA gp j) + (gp j)))), (5, .int (nI (gp j))), (0, .ref a), (2, .ref pt), (3, .int (nI 4))]) hx hb dX3_allPoints_30 rfl hl (q := 5) rfl (by decide) rfl (fun ls hl => ?_)
        refine lv_goto (tgt := 13) hx hb dX3_allPoints_33 (by decide) ?_
        exact ih13  (j + 1) (by omega) (by omega) _ (lv_sub hl [3, 1, 4, 5, 0] rfl)
  exact K13 (5 - 0 + 1) 0 (Nat.lt_succ_self _) (Nat.zero_le _) _ (lv_sub hl [4, 3, 2, 1, 0] rfl)

set_option maxRecDepth 100000 in
set_option maxHeartbeats 4000000 in
theorem c_X3_isInOrderWithout (l : Launch) (D : va_G) (cy : Nat → ClassId) (M : mM) (a mk sc pt rk grp sh rc : Nat) (gs gp gr : Nat → Nat) (set1 : Nat)  (f_a : M a = some (.inr (4, [.int (nI grp), .ref mk, .int (nI sh), .ref sc, .ref pt, .ref rk, .int (nI rc)]))) (f_sc : M sc = some (eI cy 5 gs)) (f_pt : M pt = some (eI cy 4 gp)) (f_rk : M rk = some (eI cy 6 gr)) (hrc : rc ≤ 6) (hset : set1 < 64) (hgr : ∀ j, gr j ≤ 8) : mR l yX3_isInOrderWithout wsX3_isInOrderWithout ({ frames := 0, cells := 0, slots := 0, locals := 0 } : Room) D cy M [.ref a, .int (nI set1)] (fun r => r = nI (b2 (ordW gr rc set1))) := by
  refine mR.of (cc := cX3_isInOrderWithout) (maxL := 5) (ret := (some .boolean)) (by decide) rfl (Nat.le_of_ble_eq_true rfl) ?_
  intro p e s m args below meth c ls hx hb hr hts hown hlocks hml hP hK hl
  have hl : lv_has ls 5 [(0, .ref a), (1, .int (nI set1))] := hl
  have hown : s.vm.findClass RX3 = some m.cls := hown
  have hwX3 : ∀ w ∈ wsX30, w.before args s = true := fun w h => hts w (List.mem_cons_of_mem _ (List.mem_append_right _ (h)))
  refine lv_iconst (v := (zI (-1))) hx hb dX3_isInOrderWithout_0 (by decide) ?_
  refine lv_istore_n (lv' := [(2, .int (zI (-1))), (0, .ref a), (1, .int (nI set1))]) hx hb dX3_isInOrderWithout_1 rfl hl (by decide) rfl (fun ls hl => ?_)
  refine lv_iconst (v := (nI 0)) hx hb dX3_isInOrderWithout_2 (by decide) ?_
  refine lv_istore_n (lv' := [(3, .int (nI 0)), (2, .int (zI (-1))), (0, .ref a), (1, .int (nI set1))]) hx hb dX3_isInOrderWithout_3 rfl hl (by decide) rfl (fun ls hl => ?_)
  have K4 : ∀ (n9 : Nat) (j : Nat) (z : Int), 7 - j < n9 → (j ≤ rc) → (ordA gr set1 j = some z) → (-1 ≤ z ∧ z ≤ 8) → ∀ (ls : Array Slot), lv_has ls 5 [(0, .ref a), (1, .int (nI set1)), (2, .int (zI z)), (3, .int (nI j))] → W p l e ({ frames := 0, cells := 0, slots := 0, locals := 0 } : Room) s m args below meth c s.heap [] 0 0 (MQ below (vp_Si (fun r => r = nI (b2 (ordW gr rc set1)))) args s 0 0 (fun _ => False)) (F0 m 4 ls []) := by
    intro n9
    induction n9 with
    | zero => intro j z hn; exact absurd hn (by omega)
    | succ n9 ih4 =>
      intro j z hn4 i4_0 i4_1 i4_2 ls hl
      have hgj := hgr j
      refine lv_iload_n hx hb dX3_isInOrderWithout_4 rfl (lv_at hl 3 rfl) ?_
      refine lv_aload_n hx hb dX3_isInOrderWithout_5 rfl (lv_at hl 0 rfl) ?_
      refine m_get (T := TX3) (N := 7) (ci := 4) (fs := [.int (nI grp), .ref mk, .int (nI sh), .ref sc, .ref pt, .ref rk, .int (nI rc)]) hx hb hwX3 hown hK hP f_a rfl 6 (by decide) (hts _ (List.mem_of_getElem? (i := 1) rfl)) (v := .int (nI rc)) rfl dX3_isInOrderWithout_6 ?_
      refine z_icmp_ge (u := ((j : Nat) : Int)) (v := ((rc : Nat) : Int)) (tgt := 62) hx hb (nI_toInt (by omega)) (nI_toInt (by omega)) dX3_isInOrderWithout_9 (by decide) (fun c_9 => ?_) (fun c_9 => ?_)
      · refine lv_iconst (v := (nI 1)) hx hb dX3_isInOrderWithout_62 (by decide) ?_
        exact e_rz hx hb hr hlocks (by first | decide | exact b2_le _ | omega) ((b2_t (ordW_ok (z := z) (by rw [show rc = j by omega]; exact i4_1))).symm) dX3_isInOrderWithout_63
      · refine lv_iload_n hx hb dX3_isInOrderWithout_12 rfl (lv_at hl 1 rfl) ?_
        refine lv_iload_n hx hb dX3_isInOrderWithout_13 rfl (lv_at hl 3 rfl) ?_
        refine lv_ishr hx hb dX3_isInOrderWithout_14 ?_
        refine n_name (show (nI set1) >>> ((nI j) &&& 31) = (nI (set1 / 2 ^ j)) from shr_one set1 hset j (by omega)) ?_
        refine lv_iconst (v := (nI 1)) hx hb dX3_isInOrderWithout_15 (by decide) ?_
        refine lv_iand hx hb dX3_isInOrderWithout_16 ?_
        refine n_name (show (nI (set1 / 2 ^ j)) &&& (nI 1) = (nI (set1 / 2 ^ j % 2)) from and_one (set1 / 2 ^ j) (Nat.lt_of_le_of_lt (Nat.div_le_self _ _) hset)) ?_
        refine z_if_ne (u := ((set1 / 2 ^ j % 2 : Nat) : Int)) (tgt := 24) hx hb (nI_toInt (by omega)) dX3_isInOrderWithout_17 (by decide) (fun c_17 => ?_) (fun c_17 => ?_)
        · refine lv_iconst (v := (nI 0)) hx hb dX3_isInOrderWithout_24 (by decide) ?_
          refine lv_istore (lv' := [(4, .int (nI 0)), (0, .ref a), (1, .int (nI set1)), (2, .int (zI z)), (3, .int (nI j))]) hx hb dX3_isInOrderWithout_25 hl (by decide) rfl (fun ls hl => ?_)
          refine lv_iload hx hb dX3_isInOrderWithout_27 (lv_at hl 0 rfl) ?_
          refine k_if_eq_0 (tgt := 44) hx hb dX3_isInOrderWithout_29 (by decide) ?_
          refine lv_iload hx hb dX3_isInOrderWithout_44 (lv_at hl 0 rfl) ?_
          refine k_if_eq_0 (tgt := 56) hx hb dX3_isInOrderWithout_46 (by decide) ?_
          refine n_iinc (x := j) (k := 1) (lv' := [(3, .int (nI (j + 1))), (4, .int (nI 0)), (0, .ref a), (1, .int (nI set1)), (2, .int (zI z))]) hx hb dX3_isInOrderWithout_56 rfl hl (q := 4) rfl (by decide) rfl (fun ls hl => ?_)
          refine lv_goto (tgt := 4) hx hb dX3_isInOrderWithout_59 (by decide) ?_
          exact ih4  (j + 1) z (by omega) (by omega) (ordA_out i4_1 (outB_f (by omega))) (by omega) _ (lv_sub hl [2, 3, 4, 0] rfl)
        · refine lv_iconst (v := (nI 1)) hx hb dX3_isInOrderWithout_20 (by decide) ?_
          refine lv_goto (tgt := 25) hx hb dX3_isInOrderWithout_21 (by decide) ?_
          refine lv_istore (lv' := [(4, .int (nI 1)), (0, .ref a), (1, .int (nI set1)), (2, .int (zI z)), (3, .int (nI j))]) hx hb dX3_isInOrderWithout_25 hl (by decide) rfl (fun ls hl => ?_)
          refine lv_iload hx hb dX3_isInOrderWithout_27 (lv_at hl 0 rfl) ?_
          refine k_if_eq_1 (tgt := 44) hx hb dX3_isInOrderWithout_29 (by decide) ?_
          refine lv_aload_n hx hb dX3_isInOrderWithout_32 rfl (lv_at hl 1 rfl) ?_
          refine m_get (T := TX3) (N := 7) (ci := 4) (fs := [.int (nI grp), .ref mk, .int (nI sh), .ref sc, .ref pt, .ref rk, .int (nI rc)]) hx hb hwX3 hown hK hP f_a rfl 5 (by decide) (hts _ (List.mem_of_getElem? (i := 2) rfl)) (v := .ref rk) rfl dX3_isInOrderWithout_33 ?_
          refine lv_iload_n hx hb dX3_isInOrderWithout_36 rfl (lv_at hl 4 rfl) ?_
          refine n_iald (g := gr) (n := 6) (i := j) hx hb hK hP f_rk (by omega) (by omega) dX3_isInOrderWithout_37 ?_
          refine lv_iload_n hx hb dX3_isInOrderWithout_38 rfl (lv_at hl 3 rfl) ?_
          refine z_icmp_ge (u := ((gr j : Nat) : Int)) (v := z) (tgt := 44) hx hb (nI_toInt (by omega)) (zI_toInt (by omega) (by omega)) dX3_isInOrderWithout_39 (by decide) (fun c_39 => ?_) (fun c_39 => ?_)
          · refine lv_iload hx hb dX3_isInOrderWithout_44 (lv_at hl 0 rfl) ?_
            refine k_if_eq_1 (tgt := 56) hx hb dX3_isInOrderWithout_46 (by decide) ?_
            refine lv_aload_n hx hb dX3_isInOrderWithout_49 rfl (lv_at hl 1 rfl) ?_
            refine m_get (T := TX3) (N := 7) (ci := 4) (fs := [.int (nI grp), .ref mk, .int (nI sh), .ref sc, .ref pt, .ref rk, .int (nI rc)]) hx hb hwX3 hown hK hP f_a rfl 5 (by decide) (hts _ (List.mem_of_getElem? (i := 2) rfl)) (v := .ref rk) rfl dX3_isInOrderWithout_50 ?_
            refine lv_iload_n hx hb dX3_isInOrderWithout_53 rfl (lv_at hl 4 rfl) ?_
            refine n_iald (g := gr) (n := 6) (i := j) hx hb hK hP f_rk (by omega) (by omega) dX3_isInOrderWithout_54 ?_
            refine lv_istore_n (lv' := [(2, .int (nI (gr j))), (4, .int (nI 1)), (0, .ref a), (1, .int (nI set1)), (3, .int (nI j))]) hx hb dX3_isInOrderWithout_55 rfl hl (by decide) rfl (fun ls hl => ?_)
            refine n_iinc (x := j) (k := 1) (lv' := [(3, .int (nI (j + 1))), (2, .int (nI (gr j))), (4, .int (nI 1)), (0, .ref a), (1, .int (nI set1))]) hx hb dX3_isInOrderWithout_56 rfl hl (q := 4) rfl (by decide) rfl (fun ls hl => ?_)
            refine lv_goto (tgt := 4) hx hb dX3_isInOrderWithout_59 (by decide) ?_
            have hl : lv_has ls 5 [(3, .int (nI (j + 1))), (2, .int (zI ((gr j : Nat) : Int))), (4, .int (nI 1)), (0, .ref a), (1, .int (nI set1))] := by
              have heq0 : (.int (zI ((gr j : Nat) : Int)) : Value) = .int (nI (gr j)) := congrArg Value.int (nI_zI _).symm
              rw [heq0]
              exact hl
            exact ih4  (j + 1) ((gr j : Nat) : Int) (by omega) (by omega) (ordA_in i4_1 (outB_t (by omega)) (by omega)) (by omega) _ (lv_sub hl [3, 4, 1, 0] rfl)
          · refine lv_iconst (v := (nI 0)) hx hb dX3_isInOrderWithout_42 (by decide) ?_
            exact e_rz hx hb hr hlocks (by first | decide | exact b2_le _ | omega) ((b2_f (ordA_bad i4_1 (outB_t (by omega)) (by omega) (by omega))).symm) dX3_isInOrderWithout_43
  exact K4 (7 - 0 + 1) 0 (-1) (Nat.lt_succ_self _) (Nat.zero_le _) (rfl) (by omega) _ (lv_sub hl [2, 3, 1, 0] rfl)

theorem bit_all : ∀ k : Nat, k < 64 → ((((((((nI k - ((Int32.toUInt32 (nI k) >>> (Int32.toUInt32 1 &&& Int32.toUInt32 31)).toInt32 &&& 1431655765)) &&& 858993459) + ((Int32.toUInt32 (nI k - ((Int32.toUInt32 (nI k) >>> (Int32.toUInt32 1 &&& Int32.toUInt32 31)).toInt32 &&& 1431655765)) >>> (Int32.toUInt32 2 &&& Int32.toUInt32 31)).toInt32 &&& 858993459)) + (Int32.toUInt32 (((nI k - ((Int32.toUInt32 (nI k) >>> (Int32.toUInt32 1 &&& Int32.toUInt32 31)).toInt32 &&& 1431655765)) &&& 858993459) + ((Int32.toUInt32 (nI k - ((Int32.toUInt32 (nI k) >>> (Int32.toUInt32 1 &&& Int32.toUInt32 31)).toInt32 &&& 1431655765)) >>> (Int32.toUInt32 2 &&& Int32.toUInt32 31)).toInt32 &&& 858993459)) >>> (Int32.toUInt32 4 &&& Int32.toUInt32 31)).toInt32) &&& 252645135) + (Int32.toUInt32 (((((nI k - ((Int32.toUInt32 (nI k) >>> (Int32.toUInt32 1 &&& Int32.toUInt32 31)).toInt32 &&& 1431655765)) &&& 858993459) + ((Int32.toUInt32 (nI k - ((Int32.toUInt32 (nI k) >>> (Int32.toUInt32 1 &&& Int32.toUInt32 31)).toInt32 &&& 1431655765)) >>> (Int32.toUInt32 2 &&& Int32.toUInt32 31)).toInt32 &&& 858993459)) + (Int32.toUInt32 (((nI k - ((Int32.toUInt32 (nI k) >>> (Int32.toUInt32 1 &&& Int32.toUInt32 31)).toInt32 &&& 1431655765)) &&& 858993459) + ((Int32.toUInt32 (nI k - ((Int32.toUInt32 (nI k) >>> (Int32.toUInt32 1 &&& Int32.toUInt32 31)).toInt32 &&& 1431655765)) >>> (Int32.toUInt32 2 &&& Int32.toUInt32 31)).toInt32 &&& 858993459)) >>> (Int32.toUInt32 4 &&& Int32.toUInt32 31)).toInt32) &&& 252645135) >>> (Int32.toUInt32 8 &&& Int32.toUInt32 31)).toInt32) + (Int32.toUInt32 ((((((nI k - ((Int32.toUInt32 (nI k) >>> (Int32.toUInt32 1 &&& Int32.toUInt32 31)).toInt32 &&& 1431655765)) &&& 858993459) + ((Int32.toUInt32 (nI k - ((Int32.toUInt32 (nI k) >>> (Int32.toUInt32 1 &&& Int32.toUInt32 31)).toInt32 &&& 1431655765)) >>> (Int32.toUInt32 2 &&& Int32.toUInt32 31)).toInt32 &&& 858993459)) + (Int32.toUInt32 (((nI k - ((Int32.toUInt32 (nI k) >>> (Int32.toUInt32 1 &&& Int32.toUInt32 31)).toInt32 &&& 1431655765)) &&& 858993459) + ((Int32.toUInt32 (nI k - ((Int32.toUInt32 (nI k) >>> (Int32.toUInt32 1 &&& Int32.toUInt32 31)).toInt32 &&& 1431655765)) >>> (Int32.toUInt32 2 &&& Int32.toUInt32 31)).toInt32 &&& 858993459)) >>> (Int32.toUInt32 4 &&& Int32.toUInt32 31)).toInt32) &&& 252645135) + (Int32.toUInt32 (((((nI k - ((Int32.toUInt32 (nI k) >>> (Int32.toUInt32 1 &&& Int32.toUInt32 31)).toInt32 &&& 1431655765)) &&& 858993459) + ((Int32.toUInt32 (nI k - ((Int32.toUInt32 (nI k) >>> (Int32.toUInt32 1 &&& Int32.toUInt32 31)).toInt32 &&& 1431655765)) >>> (Int32.toUInt32 2 &&& Int32.toUInt32 31)).toInt32 &&& 858993459)) + (Int32.toUInt32 (((nI k - ((Int32.toUInt32 (nI k) >>> (Int32.toUInt32 1 &&& Int32.toUInt32 31)).toInt32 &&& 1431655765)) &&& 858993459) + ((Int32.toUInt32 (nI k - ((Int32.toUInt32 (nI k) >>> (Int32.toUInt32 1 &&& Int32.toUInt32 31)).toInt32 &&& 1431655765)) >>> (Int32.toUInt32 2 &&& Int32.toUInt32 31)).toInt32 &&& 858993459)) >>> (Int32.toUInt32 4 &&& Int32.toUInt32 31)).toInt32) &&& 252645135) >>> (Int32.toUInt32 8 &&& Int32.toUInt32 31)).toInt32) >>> (Int32.toUInt32 16 &&& Int32.toUInt32 31)).toInt32) &&& 63) = nI (popN k) := by decide +kernel
set_option maxRecDepth 100000 in
set_option maxHeartbeats 4000000 in
theorem c_bitCount (l : Launch) (k : Nat) (hk : k < 64) : mS l yJ6_bitCount_0f7a4 wsJ6_bitCount_0f7a4 ({ frames := 0, cells := 0, slots := 0, locals := 0 } : Room) [.int (nI k)] (fun r => r = nI (popN k)) := by
  refine mS.of (cc := cJ6_bitCount_0f7a4) (maxL := 1) (ret := (some .int)) (by decide) rfl (Nat.le_of_ble_eq_true rfl) ?_
  intro p e s m args below meth c ls hx hb hr hts hown hlocks hml hl
  have hl : lv_has ls 1 [(0, .int (nI k))] := hl
  have hown : s.vm.findClass RJ6 = some m.cls := hown
  refine lv_iload_n hx hb dJ6_bitCount_0f7a4_0 rfl (lv_at hl 0 rfl) ?_
  refine lv_iload_n hx hb dJ6_bitCount_0f7a4_1 rfl (lv_at hl 0 rfl) ?_
  refine lv_iconst (v := 1) hx hb dJ6_bitCount_0f7a4_2 (by decide) ?_
  refine lv_iushr hx hb dJ6_bitCount_0f7a4_3 rfl ?_
  refine lv_ldcw (v := 1431655765) hx hb hown (hts _ (List.mem_of_getElem? (i := 1) rfl)) dJ6_bitCount_0f7a4_4 ?_
  refine lv_iand hx hb dJ6_bitCount_0f7a4_7 ?_
  refine lv_isub hx hb dJ6_bitCount_0f7a4_8 ?_
  refine lv_topi (fun x1 ex1 => ?_)
  refine lv_istore_n (lv' := [(0, .int x1)]) hx hb dJ6_bitCount_0f7a4_9 rfl hl (by decide) rfl (fun ls hl => ?_)
  refine lv_iload_n hx hb dJ6_bitCount_0f7a4_10 rfl (lv_at hl 0 rfl) ?_
  refine lv_ldcw (v := 858993459) hx hb hown (hts _ (List.mem_of_getElem? (i := 2) rfl)) dJ6_bitCount_0f7a4_11 ?_
  refine lv_iand hx hb dJ6_bitCount_0f7a4_14 ?_
  refine lv_iload_n hx hb dJ6_bitCount_0f7a4_15 rfl (lv_at hl 0 rfl) ?_
  refine lv_iconst (v := 2) hx hb dJ6_bitCount_0f7a4_16 (by decide) ?_
  refine lv_iushr hx hb dJ6_bitCount_0f7a4_17 rfl ?_
  refine lv_ldcw (v := 858993459) hx hb hown (hts _ (List.mem_of_getElem? (i := 2) rfl)) dJ6_bitCount_0f7a4_18 ?_
  refine lv_iand hx hb dJ6_bitCount_0f7a4_21 ?_
  refine lv_iadd hx hb dJ6_bitCount_0f7a4_22 ?_
  refine lv_topi (fun x2 ex2 => ?_)
  refine lv_istore_n (lv' := [(0, .int x2)]) hx hb dJ6_bitCount_0f7a4_23 rfl hl (by decide) rfl (fun ls hl => ?_)
  refine lv_iload_n hx hb dJ6_bitCount_0f7a4_24 rfl (lv_at hl 0 rfl) ?_
  refine lv_iload_n hx hb dJ6_bitCount_0f7a4_25 rfl (lv_at hl 0 rfl) ?_
  refine lv_iconst (v := 4) hx hb dJ6_bitCount_0f7a4_26 (by decide) ?_
  refine lv_iushr hx hb dJ6_bitCount_0f7a4_27 rfl ?_
  refine lv_iadd hx hb dJ6_bitCount_0f7a4_28 ?_
  refine lv_ldcw (v := 252645135) hx hb hown (hts _ (List.mem_of_getElem? (i := 3) rfl)) dJ6_bitCount_0f7a4_29 ?_
  refine lv_iand hx hb dJ6_bitCount_0f7a4_32 ?_
  refine lv_topi (fun x3 ex3 => ?_)
  refine lv_istore_n (lv' := [(0, .int x3)]) hx hb dJ6_bitCount_0f7a4_33 rfl hl (by decide) rfl (fun ls hl => ?_)
  refine lv_iload_n hx hb dJ6_bitCount_0f7a4_34 rfl (lv_at hl 0 rfl) ?_
  refine lv_iload_n hx hb dJ6_bitCount_0f7a4_35 rfl (lv_at hl 0 rfl) ?_
  refine lv_bipush (v := 8) hx hb dJ6_bitCount_0f7a4_36 (by decide) ?_
  refine lv_iushr hx hb dJ6_bitCount_0f7a4_38 rfl ?_
  refine lv_iadd hx hb dJ6_bitCount_0f7a4_39 ?_
  refine lv_topi (fun x4 ex4 => ?_)
  refine lv_istore_n (lv' := [(0, .int x4)]) hx hb dJ6_bitCount_0f7a4_40 rfl hl (by decide) rfl (fun ls hl => ?_)
  refine lv_iload_n hx hb dJ6_bitCount_0f7a4_41 rfl (lv_at hl 0 rfl) ?_
  refine lv_iload_n hx hb dJ6_bitCount_0f7a4_42 rfl (lv_at hl 0 rfl) ?_
  refine lv_bipush (v := 16) hx hb dJ6_bitCount_0f7a4_43 (by decide) ?_
  refine lv_iushr hx hb dJ6_bitCount_0f7a4_45 rfl ?_
  refine lv_iadd hx hb dJ6_bitCount_0f7a4_46 ?_
  refine lv_topi (fun x5 ex5 => ?_)
  refine lv_istore_n (lv' := [(0, .int x5)]) hx hb dJ6_bitCount_0f7a4_47 rfl hl (by decide) rfl (fun ls hl => ?_)
  refine lv_iload_n hx hb dJ6_bitCount_0f7a4_48 rfl (lv_at hl 0 rfl) ?_
  refine lv_bipush (v := 63) hx hb dJ6_bitCount_0f7a4_49 (by decide) ?_
  refine lv_iand hx hb dJ6_bitCount_0f7a4_51 ?_
  exact e_ri hx hb hr hlocks (show (x5 &&& 63) = nI (popN k) by subst ex5 ex4 ex3 ex2 ex1; exact bit_all k hk) dJ6_bitCount_0f7a4_52

set_option maxRecDepth 100000 in
set_option maxHeartbeats 4000000 in
theorem c_X3_fewestLeftOut (l : Launch) (D : va_G) (cy : Nat → ClassId) (M : mM) (a mk sc pt rk grp sh rc : Nat) (gs gp gr : Nat → Nat)  (f_a : M a = some (.inr (4, [.int (nI grp), .ref mk, .int (nI sh), .ref sc, .ref pt, .ref rk, .int (nI rc)]))) (f_sc : M sc = some (eI cy 5 gs)) (f_pt : M pt = some (eI cy 4 gp)) (f_rk : M rk = some (eI cy 6 gr)) (hrc : rc ≤ 6) (hgr : ∀ j, gr j ≤ 8) : mR l yX3_fewestLeftOut wsX3_fewestLeftOut ({ frames := 1, cells := 0, slots := 0, locals := 24 } : Room) D cy M [.ref a] (fun r => r = nI (fewL gr rc)) := by
  refine mR.of (cc := cX3_fewestLeftOut) (maxL := 4) (ret := (some .int)) (by decide) rfl (Nat.le_of_ble_eq_true rfl) ?_
  intro p e s m args below meth c ls hx hb hr hts hown hlocks hml hP hK hl
  have hl : lv_has ls 4 [(0, .ref a)] := hl
  have hown : s.vm.findClass RX3 = some m.cls := hown
  have hwX3 : ∀ w ∈ wsX30, w.before args s = true := fun w h => hts w (List.mem_cons_of_mem _ (List.mem_append_right _ (h)))
  have h2p := two_pow_le hrc
  refine lv_iconst (v := (nI 1)) hx hb dX3_fewestLeftOut_0 (by decide) ?_
  refine lv_aload_n hx hb dX3_fewestLeftOut_1 rfl (lv_at hl 0 rfl) ?_
  refine m_get (T := TX3) (N := 7) (ci := 4) (fs := [.int (nI grp), .ref mk, .int (nI sh), .ref sc, .ref pt, .ref rk, .int (nI rc)]) hx hb hwX3 hown hK hP f_a rfl 6 (by decide) (hts _ (List.mem_of_getElem? (i := 1) rfl)) (v := .int (nI rc)) rfl dX3_fewestLeftOut_2 ?_
  refine lv_ishl hx hb dX3_fewestLeftOut_5 ?_
  refine n_name (show (nI 1) <<< ((nI rc) &&& 31) = (nI (2 ^ rc)) from shl_all rc hrc) ?_
  refine lv_istore_n (lv' := [(1, .int (nI (2 ^ rc))), (0, .ref a)]) hx hb dX3_fewestLeftOut_6 rfl hl (by decide) rfl (fun ls hl => ?_)
  refine lv_aload_n hx hb dX3_fewestLeftOut_7 rfl (lv_at hl 1 rfl) ?_
  refine m_get (T := TX3) (N := 7) (ci := 4) (fs := [.int (nI grp), .ref mk, .int (nI sh), .ref sc, .ref pt, .ref rk, .int (nI rc)]) hx hb hwX3 hown hK hP f_a rfl 6 (by decide) (hts _ (List.mem_of_getElem? (i := 1) rfl)) (v := .int (nI rc)) rfl dX3_fewestLeftOut_8 ?_
  refine lv_istore_n (lv' := [(2, .int (nI rc)), (1, .int (nI (2 ^ rc))), (0, .ref a)]) hx hb dX3_fewestLeftOut_11 rfl hl (by decide) rfl (fun ls hl => ?_)
  refine lv_iconst (v := (nI 0)) hx hb dX3_fewestLeftOut_12 (by decide) ?_
  refine lv_istore_n (lv' := [(3, .int (nI 0)), (2, .int (nI rc)), (1, .int (nI (2 ^ rc))), (0, .ref a)]) hx hb dX3_fewestLeftOut_13 rfl hl (by decide) rfl (fun ls hl => ?_)
  have K14 : ∀ (n9 : Nat) (j : Nat), 65 - j < n9 → (j ≤ 2 ^ rc) → ∀ (ls : Array Slot), lv_has ls 4 [(0, .ref a), (1, .int (nI (2 ^ rc))), (2, .int (nI (fewA gr rc j))), (3, .int (nI j))] → W p l e ({ frames := 1, cells := 0, slots := 0, locals := 24 } : Room) s m args below meth c s.heap [] 0 0 (MQ below (vp_Si (fun r => r = nI (fewL gr rc))) args s 0 0 (fun _ => False)) (F0 m 14 ls []) := by
    intro n9
    induction n9 with
    | zero => intro j hn; exact absurd hn (by omega)
    | succ n9 ih14 =>
      intro j hn14 i14_0 ls hl
      have hfw := fewA_le gr rc j
      refine lv_iload_n hx hb dX3_fewestLeftOut_14 rfl (lv_at hl 3 rfl) ?_
      refine lv_iload_n hx hb dX3_fewestLeftOut_15 rfl (lv_at hl 1 rfl) ?_
      refine z_icmp_ge (u := ((j : Nat) : Int)) (v := ((2 ^ rc : Nat) : Int)) (tgt := 42) hx hb (nI_toInt (by omega)) (nI_toInt (by omega)) dX3_fewestLeftOut_16 (by decide) (fun c_16 => ?_) (fun c_16 => ?_)
      · refine lv_iload_n hx hb dX3_fewestLeftOut_42 rfl (lv_at hl 2 rfl) ?_
        exact e_ri hx hb hr hlocks ((by unfold fewL; rw [show 2 ^ rc = j by omega])) dX3_fewestLeftOut_43
      · refine lv_aload_n hx hb dX3_fewestLeftOut_19 rfl (lv_at hl 0 rfl) ?_
        refine lv_iload_n hx hb dX3_fewestLeftOut_20 rfl (lv_at hl 3 rfl) ?_
        refine vp_callSi (W.runV (C := RX3) (As := [.int (nI j)]) (rest := []) ⟨hx, hb, hml, hown, hts⟩ (c_X3_isInOrderWithout l D cy M a mk sc pt rk grp sh rc gs gp gr j f_a f_sc f_pt f_rk hrc (by omega) hgr) (cwV 1 hts gX3_fewestLeftOut_X3_isInOrderWithout rfl rfl rfl (by decide +kernel) ⟨Nat.le_of_ble_eq_true rfl, Nat.le_of_ble_eq_true rfl⟩) (mPreV hK hP f_a (ci := 4) rfl) rfl rfl hl.1 rfl (lv_room (Nat.le_of_ble_eq_true rfl)) dX3_fewestLeftOut_21 ⟨Nat.le_of_ble_eq_true rfl, Nat.le_of_ble_eq_true rfl⟩) (fun r9 hr9 => ?_)
        have hr9 : r9 = (nI (b2 (ordW gr rc j))) := hr9
        subst hr9
        refine b_if_eq (b := ordW gr rc j) (tgt := 36) hx hb dX3_fewestLeftOut_24 (by decide) (fun c_24 => ?_) (fun c_24 => ?_)
        · refine n_iinc (x := j) (k := 1) (lv' := [(3, .int (nI (j + 1))), (0, .ref a), (1, .int (nI (2 ^ rc))), (2, .int (nI (fewA gr rc j)))]) hx hb dX3_fewestLeftOut_36 rfl hl (q := 3) rfl (by decide) rfl (fun ls hl => ?_)
          refine lv_goto (tgt := 14) hx hb dX3_fewestLeftOut_39 (by decide) ?_
          have hl : lv_has ls 4 [(3, .int (nI (j + 1))), (0, .ref a), (1, .int (nI (2 ^ rc))), (2, .int (nI (fewA gr rc (j + 1))))] := by
            have heq0 : (.int (nI (fewA gr rc (j + 1))) : Value) = .int (nI (fewA gr rc j)) := congrArg Value.int (congrArg nI (by show (if _ then _ else _) = _; first | rw [if_pos c_24] | rw [if_neg (by rw [c_24]; decide)]))
            rw [heq0]
            exact hl
          exact ih14  (j + 1) (by omega) (by omega) _ (lv_sub hl [1, 2, 3, 0] rfl)
        · refine lv_iload_n hx hb dX3_fewestLeftOut_27 rfl (lv_at hl 2 rfl) ?_
          refine lv_iload_n hx hb dX3_fewestLeftOut_28 rfl (lv_at hl 3 rfl) ?_
          refine vp_callSi (W.runS (As := [.int (nI j)]) (rest := [.int (nI (fewA gr rc j))]) ⟨hx, hb, hml, hown, hts⟩ (c_bitCount l j (by omega)) (va_cwS 1 hts gX3_fewestLeftOut_J6_bitCount_0f7a4 rfl rfl rfl (by decide +kernel) ⟨Nat.le_of_ble_eq_true rfl, Nat.le_of_ble_eq_true rfl⟩) mPre0 rfl rfl hl.1 rfl (lv_room (Nat.le_of_ble_eq_true rfl)) dX3_fewestLeftOut_29 ⟨Nat.le_of_ble_eq_true rfl, Nat.le_of_ble_eq_true rfl⟩) (fun r9 hr9 => ?_)
          have hr9 : r9 = (nI (popN j)) := hr9
          subst hr9
          have hpn := popN_le j
          refine n_min (x := fewA gr rc j) (y := popN j) hx hb (hml.trans hl.1.symm) hown (hts _ (List.mem_of_getElem? (i := 2) rfl)) (hts _ (List.mem_of_getElem? (i := 3) rfl)) (hts _ (List.mem_of_getElem? (i := 4) rfl)) (hts _ (List.mem_of_getElem? (i := 5) rfl)) (Nat.le_of_ble_eq_true rfl) (Nat.le_of_ble_eq_true rfl) (Nat.le_of_ble_eq_true rfl) (Nat.le_of_ble_eq_true rfl) (by omega) (by omega) dX3_fewestLeftOut_32 ?_
          refine lv_istore_n (lv' := [(2, .int (nI (min (fewA gr rc j) (popN j)))), (0, .ref a), (1, .int (nI (2 ^ rc))), (3, .int (nI j))]) hx hb dX3_fewestLeftOut_35 rfl hl (by decide) rfl (fun ls hl => ?_)
          refine n_iinc (x := j) (k := 1) (lv' := [(3, .int (nI (j + 1))), (2, .int (nI (min (fewA gr rc j) (popN j)))), (0, .ref a), (1, .int (nI (2 ^ rc)))]) hx hb dX3_fewestLeftOut_36 rfl hl (q := 3) rfl (by decide) rfl (fun ls hl => ?_)
          refine lv_goto (tgt := 14) hx hb dX3_fewestLeftOut_39 (by decide) ?_
          have hl : lv_has ls 4 [(3, .int (nI (j + 1))), (2, .int (nI (fewA gr rc (j + 1)))), (0, .ref a), (1, .int (nI (2 ^ rc)))] := by
            have heq0 : (.int (nI (fewA gr rc (j + 1))) : Value) = .int (nI (min (fewA gr rc j) (popN j))) := congrArg Value.int (congrArg nI (by show (if _ then _ else _) = _; first | rw [if_pos c_24] | rw [if_neg (by rw [c_24]; decide)]))
            rw [heq0]
            exact hl
          exact ih14  (j + 1) (by omega) (by omega) _ (lv_sub hl [2, 3, 1, 0] rfl)
  exact K14 (65 - 0 + 1) 0 (Nat.lt_succ_self _) (Nat.zero_le _) _ (lv_sub hl [3, 2, 1, 0] rfl)

set_option maxRecDepth 100000 in
set_option maxHeartbeats 4000000 in
theorem c_X3_longestRise (l : Launch) (D : va_G) (cy : Nat → ClassId) (M : mM) (sz : Nat) (a mk sc pt rk grp sh rc : Nat) (gs gp gr : Nat → Nat)  (f_a : M a = some (.inr (4, [.int (nI grp), .ref mk, .int (nI sh), .ref sc, .ref pt, .ref rk, .int (nI rc)]))) (f_sc : M sc = some (eI cy 5 gs)) (f_pt : M pt = some (eI cy 4 gp)) (f_rk : M rk = some (eI cy 6 gr)) (hrc : rc ≤ 6) (hgr : ∀ j, gr j ≤ 8) : mWi l yX3_longestRise wsX3_longestRise ({ frames := 1, cells := 1, slots := 6, locals := 15 } : Room) D cy M sz [.ref a] (fun r M' => r = nI (lrM gr rc) ∧ ∃ q L, M q = none ∧ M' = mset M q (eI cy 6 L)) 1 6 := by
  refine mW.of (cc := cX3_longestRise) (maxL := 5) (ret := (some .int)) (by decide) rfl (Nat.le_of_ble_eq_true rfl) ?_
  intro p e s m args below meth c ls hsz hx hb hr hts hown hlocks hml hname hP hD hS hA hK hl
  have hl : lv_has ls 5 [(0, .ref a)] := hl
  have hown : s.vm.findClass RX3 = some m.cls := hown
  have hwX3 : ∀ w ∈ wsX30, w.before args s = true := fun w h => hts w (List.mem_cons_of_mem _ (List.mem_append_right _ (h)))
  have n_a_sc : a ≠ sc := ne_cell f_a f_sc (fun h9 => by simp at h9)
  have n_a_pt : a ≠ pt := ne_cell f_a f_pt (fun h9 => by simp at h9)
  have n_a_rk : a ≠ rk := ne_cell f_a f_rk (fun h9 => by simp at h9)
  have n_sc_pt : sc ≠ pt := ne_cell f_sc f_pt (fun h9 => by simp at h9)
  have n_sc_rk : sc ≠ rk := ne_cell f_sc f_rk (fun h9 => by simp at h9)
  have n_pt_rk : pt ≠ rk := ne_cell f_pt f_rk (fun h9 => by simp at h9)
  refine lv_bipush (v := (nI 6)) hx hb dX3_longestRise_0 (by decide) ?_
  refine n_newa (atype := .int) (n := 6) (x := (6, .inl (fun _ => nI 0))) hx hb (hts _ (List.mem_of_getElem? (i := 1) rfl)) hK hP hD hS hA 0 rfl (fun h9 => h9) rfl (by decide) (by decide) (Nat.le_of_ble_eq_true rfl) (Nat.le_of_ble_eq_true rfl) dX3_longestRise_2 (fun q_1 H hn_q_1 hq_q_1 hz_q_1 hP hD hS => ?_)
  have n_a_q_1 : a ≠ q_1 := ne_none (f_a) hn_q_1
  have n_sc_q_1 : sc ≠ q_1 := ne_none (f_sc) hn_q_1
  have n_pt_q_1 : pt ≠ q_1 := ne_none (f_pt) hn_q_1
  have n_rk_q_1 : rk ≠ q_1 := ne_none (f_rk) hn_q_1
  have hP : pm D (mset M q_1 (eI cy 6 (fun _ => 0))) H := hP
  have hD : mD (mA M sz) (mset M q_1 (eI cy 6 (fun _ => 0))) := hD
  refine lv_astore_n (lv' := [(1, .ref q_1), (0, .ref a)]) hx hb dX3_longestRise_4 rfl hl (by decide) rfl (fun ls hl => ?_)
  refine lv_iconst (v := (nI 0)) hx hb dX3_longestRise_5 (by decide) ?_
  refine lv_istore_n (lv' := [(2, .int (nI 0)), (1, .ref q_1), (0, .ref a)]) hx hb dX3_longestRise_6 rfl hl (by decide) rfl (fun ls hl => ?_)
  refine lv_iconst (v := (nI 0)) hx hb dX3_longestRise_7 (by decide) ?_
  refine lv_istore_n (lv' := [(3, .int (nI 0)), (2, .int (nI 0)), (1, .ref q_1), (0, .ref a)]) hx hb dX3_longestRise_8 rfl hl (by decide) rfl (fun ls hl => ?_)
  have K9 : ∀ (n9 : Nat) (j : Nat) (L : Nat → Nat), 7 - j < n9 → (j ≤ rc) → (∀ x, x < j → L x = lr gr x) → ∀ (Mq : mM) (H : Heap) (locs : List Loc), pm D Mq H → mD (mA M sz) Mq → va_S (mA M sz) s.heap H locs → (Mq = (mset M q_1 (eI cy 6 L))) → ∀ (ls : Array Slot), lv_has ls 5 [(0, .ref a), (1, .ref q_1), (2, .int (nI (lrM gr j))), (3, .int (nI j))] → W p l e ({ frames := 1, cells := 1, slots := 6, locals := 15 } : Room) s m args below meth c H locs 1 6 (MQ below (va_Qi (fun r M' => r = nI (lrM gr rc) ∧ ∃ q L, M q = none ∧ M' = mset M q (eI cy 6 L)) (mB D M sz) (mA M sz)) args s 1 6 (mA M sz)) (F0 m 9 ls []) := by
    intro n9
    induction n9 with
    | zero => intro j L hn; exact absurd hn (by omega)
    | succ n9 ih9 =>
      intro j L hn9 i9_0 i9_1 Mq H locs hP hD hS hW ls hl
      have hle := lrM_le gr j
      have hll := lr_le gr j
      have hLl : ∀ x, x < j → L x ≤ x + 1 := fun x hx9 => by rw [i9_1 x hx9]; exact lr_le gr x
      have hgj := hgr j
      subst hW
      refine lv_iload_n hx hb dX3_longestRise_9 rfl (lv_at hl 3 rfl) ?_
      refine lv_aload_n hx hb dX3_longestRise_10 rfl (lv_at hl 0 rfl) ?_
      refine m_get (T := TX3) (N := 7) (ci := 4) (fs := [.int (nI grp), .ref mk, .int (nI sh), .ref sc, .ref pt, .ref rk, .int (nI rc)]) hx hb hwX3 hown hK hP ((mset_ne n_a_q_1).trans (f_a)) rfl 6 (by decide) (hts _ (List.mem_of_getElem? (i := 2) rfl)) (v := .int (nI rc)) rfl dX3_longestRise_11 ?_
      refine z_icmp_ge (u := ((j : Nat) : Int)) (v := ((rc : Nat) : Int)) (tgt := 81) hx hb (nI_toInt (by omega)) (nI_toInt (by omega)) dX3_longestRise_14 (by decide) (fun c_14 => ?_) (fun c_14 => ?_)
      · refine lv_iload_n hx hb dX3_longestRise_81 rfl (lv_at hl 2 rfl) ?_
        exact e_wi hx hb hr hlocks hP hD hS (⟨(by rw [show rc = j by omega]), q_1, L, hn_q_1, rfl⟩) dX3_longestRise_82
      · refine lv_aload_n hx hb dX3_longestRise_17 rfl (lv_at hl 1 rfl) ?_
        refine lv_iload_n hx hb dX3_longestRise_18 rfl (lv_at hl 3 rfl) ?_
        refine lv_iconst (v := (nI 1)) hx hb dX3_longestRise_19 (by decide) ?_
        refine n_iast (g := L) (n := 6) (i := j) (v := 1) hx hb hK hP hD hS (mset_self _ _ _) (by omega) (by omega) dX3_longestRise_20 (fun H locs hP hD hS => ?_)
        have hP : pm D (mset (mset M q_1 (eI cy 6 L)) q_1 (eI cy 6 (va_up L j 1))) H := hP
        have hD : mD (mA M sz) (mset (mset M q_1 (eI cy 6 L)) q_1 (eI cy 6 (va_up L j 1))) := hD
        rw [mset_mset _ q_1 (eI cy 6 L) (eI cy 6 (va_up L j 1))] at hP hD
        refine lv_iconst (v := (nI 0)) hx hb dX3_longestRise_21 (by decide) ?_
        refine lv_istore (lv' := [(4, .int (nI 0)), (0, .ref a), (1, .ref q_1), (2, .int (nI (lrM gr j))), (3, .int (nI j))]) hx hb dX3_longestRise_22 hl (by decide) rfl (fun ls hl => ?_)
        have K24 : ∀ (n9 : Nat) (n1 : Nat), 7 - n1 < n9 → (n1 ≤ j) → ∀ (Mq : mM) (H : Heap) (locs : List Loc), pm D Mq H → mD (mA M sz) Mq → va_S (mA M sz) s.heap H locs → (Mq = (mset M q_1 (eI cy 6 (va_up L j (lrI gr L j n1))))) → ∀ (ls : Array Slot), lv_has ls 5 [(0, .ref a), (1, .ref q_1), (2, .int (nI (lrM gr j))), (3, .int (nI j)), (4, .int (nI n1))] → W p l e ({ frames := 1, cells := 1, slots := 6, locals := 15 } : Room) s m args below meth c H locs 1 6 (MQ below (va_Qi (fun r M' => r = nI (lrM gr rc) ∧ ∃ q L, M q = none ∧ M' = mset M q (eI cy 6 L)) (mB D M sz) (mA M sz)) args s 1 6 (mA M sz)) (F0 m 24 ls []) := by
          intro n9
          induction n9 with
          | zero => intro n1 hn; exact absurd hn (by omega)
          | succ n9 ih24 =>
            intro n1 hn24 i24_0 Mq H locs hP hD hS hW ls hl
            have hjl := lrI_le (r := gr) (L := L) (k := j) n1 (fun x hx9 => hLl x (by omega))
            have hgn := hgr n1
            have hln : n1 < j → L n1 ≤ n1 + 1 := fun h9 => hLl n1 h9
            subst hW
            refine lv_iload hx hb dX3_longestRise_24 (lv_at hl 4 rfl) ?_
            refine lv_iload_n hx hb dX3_longestRise_26 rfl (lv_at hl 3 rfl) ?_
            refine z_icmp_ge (u := ((n1 : Nat) : Int)) (v := ((j : Nat) : Int)) (tgt := 67) hx hb (nI_toInt (by omega)) (nI_toInt (by omega)) dX3_longestRise_27 (by decide) (fun c_27 => ?_) (fun c_27 => ?_)
            · refine lv_iload_n hx hb dX3_longestRise_67 rfl (lv_at hl 2 rfl) ?_
              refine lv_aload_n hx hb dX3_longestRise_68 rfl (lv_at hl 1 rfl) ?_
              refine lv_iload_n hx hb dX3_longestRise_69 rfl (lv_at hl 3 rfl) ?_
              refine n_iald (g := (va_up L j (lrI gr L j n1))) (n := 6) (i := j) hx hb hK hP (mset_self _ _ _) (by omega) (by omega) dX3_longestRise_70 ?_
              refine n_name (show (nI ((va_up L j (lrI gr L j n1)) j)) = (nI (lr gr j)) from congrArg nI ((va_up_self _ _ _).trans (by rw [show n1 = j by omega]; exact lr_eq i9_1))) ?_
              refine n_max (x := lrM gr j) (y := lr gr j) hx hb (hml.trans hl.1.symm) hown (hts _ (List.mem_of_getElem? (i := 4) rfl)) (hts _ (List.mem_of_getElem? (i := 5) rfl)) (hts _ (List.mem_of_getElem? (i := 6) rfl)) (hts _ (List.mem_of_getElem? (i := 7) rfl)) (Nat.le_of_ble_eq_true rfl) (Nat.le_of_ble_eq_true rfl) (Nat.le_of_ble_eq_true rfl) (Nat.le_of_ble_eq_true rfl) (by omega) (by omega) dX3_longestRise_71 ?_
              refine lv_istore_n (lv' := [(2, .int (nI (max (lrM gr j) (lr gr j)))), (0, .ref a), (1, .ref q_1), (3, .int (nI j)), (4, .int (nI n1))]) hx hb dX3_longestRise_74 rfl hl (by decide) rfl (fun ls hl => ?_)
              refine n_iinc (x := j) (k := 1) (lv' := [(3, .int (nI (j + 1))), (2, .int (nI (max (lrM gr j) (lr gr j)))), (0, .ref a), (1, .ref q_1), (4, .int (nI n1))]) hx hb dX3_longestRise_75 rfl hl (q := 3) rfl (by decide) rfl (fun ls hl => ?_)
              refine lv_goto (tgt := 9) hx hb dX3_longestRise_78 (by decide) ?_
              exact ih9  (j + 1) (va_up L j (lr gr j)) (by omega) (by omega) (fun x hx9 => row_next i9_1 x hx9) _ _ _ hP hD hS ((by rw [show n1 = j by omega, lr_eq i9_1])) _ (lv_sub hl [2, 3, 1, 0] rfl)
            · refine lv_aload_n hx hb dX3_longestRise_30 rfl (lv_at hl 0 rfl) ?_
              refine m_get (T := TX3) (N := 7) (ci := 4) (fs := [.int (nI grp), .ref mk, .int (nI sh), .ref sc, .ref pt, .ref rk, .int (nI rc)]) hx hb hwX3 hown hK hP ((mset_ne n_a_q_1).trans (f_a)) rfl 5 (by decide) (hts _ (List.mem_of_getElem? (i := 3) rfl)) (v := .ref rk) rfl dX3_longestRise_31 ?_
              refine lv_iload hx hb dX3_longestRise_34 (lv_at hl 4 rfl) ?_
              refine n_iald (g := gr) (n := 6) (i := n1) hx hb hK hP ((mset_ne n_rk_q_1).trans (f_rk)) (by omega) (by omega) dX3_longestRise_36 ?_
              refine lv_aload_n hx hb dX3_longestRise_37 rfl (lv_at hl 0 rfl) ?_
              refine m_get (T := TX3) (N := 7) (ci := 4) (fs := [.int (nI grp), .ref mk, .int (nI sh), .ref sc, .ref pt, .ref rk, .int (nI rc)]) hx hb hwX3 hown hK hP ((mset_ne n_a_q_1).trans (f_a)) rfl 5 (by decide) (hts _ (List.mem_of_getElem? (i := 3) rfl)) (v := .ref rk) rfl dX3_longestRise_38 ?_
              refine lv_iload_n hx hb dX3_longestRise_41 rfl (lv_at hl 3 rfl) ?_
              refine n_iald (g := gr) (n := 6) (i := j) hx hb hK hP ((mset_ne n_rk_q_1).trans (f_rk)) (by omega) (by omega) dX3_longestRise_42 ?_
              refine z_icmp_ge (u := ((gr n1 : Nat) : Int)) (v := ((gr j : Nat) : Int)) (tgt := 61) hx hb (nI_toInt (by omega)) (nI_toInt (by omega)) dX3_longestRise_43 (by decide) (fun c_43 => ?_) (fun c_43 => ?_)
              · refine n_iinc (x := n1) (k := 1) (lv' := [(4, .int (nI (n1 + 1))), (0, .ref a), (1, .ref q_1), (2, .int (nI (lrM gr j))), (3, .int (nI j))]) hx hb dX3_longestRise_61 rfl hl (q := 4) rfl (by decide) rfl (fun ls hl => ?_)
                refine lv_goto (tgt := 24) hx hb dX3_longestRise_64 (by decide) ?_
                exact ih24  (n1 + 1) (by omega) (by omega) _ _ _ hP hD hS ((congrArg (fun z => mset M q_1 (eI cy 6 z)) (by first | (rw [bx_uu]; congr 1; show _ = (if _ then _ else _); rw [if_pos (by omega)]) | (congr 1; show _ = (if _ then _ else _); rw [if_neg (by omega)])))) _ (lv_sub hl [1, 2, 3, 4, 0] rfl)
              · refine lv_aload_n hx hb dX3_longestRise_46 rfl (lv_at hl 1 rfl) ?_
                refine lv_iload_n hx hb dX3_longestRise_47 rfl (lv_at hl 3 rfl) ?_
                refine lv_aload_n hx hb dX3_longestRise_48 rfl (lv_at hl 1 rfl) ?_
                refine lv_iload_n hx hb dX3_longestRise_49 rfl (lv_at hl 3 rfl) ?_
                refine n_iald (g := (va_up L j (lrI gr L j n1))) (n := 6) (i := j) hx hb hK hP (mset_self _ _ _) (by omega) (by omega) dX3_longestRise_50 ?_
                refine n_name (show (nI ((va_up L j (lrI gr L j n1)) j)) = (nI (lrI gr L j n1)) from congrArg nI (va_up_self _ _ _)) ?_
                refine lv_aload_n hx hb dX3_longestRise_51 rfl (lv_at hl 1 rfl) ?_
                refine lv_iload hx hb dX3_longestRise_52 (lv_at hl 4 rfl) ?_
                refine n_iald (g := (va_up L j (lrI gr L j n1))) (n := 6) (i := n1) hx hb hK hP (mset_self _ _ _) (by omega) (by omega) dX3_longestRise_54 ?_
                refine n_name (show (nI ((va_up L j (lrI gr L j n1)) n1)) = (nI (L n1)) from congrArg nI (va_up_ne _ _ (by omega))) ?_
                refine lv_iconst (v := (nI 1)) hx hb dX3_longestRise_55 (by decide) ?_
                refine n_add (x := L n1) (y := 1) hx hb dX3_longestRise_56 ?_
                refine n_max (x := lrI gr L j n1) (y := (L n1) + 1) hx hb (hml.trans hl.1.symm) hown (hts _ (List.mem_of_getElem? (i := 4) rfl)) (hts _ (List.mem_of_getElem? (i := 5) rfl)) (hts _ (List.mem_of_getElem? (i := 6) rfl)) (hts _ (List.mem_of_getElem? (i := 7) rfl)) (Nat.le_of_ble_eq_true rfl) (Nat.le_of_ble_eq_true rfl) (Nat.le_of_ble_eq_true rfl) (Nat.le_of_ble_eq_true rfl) (by omega) (by omega) dX3_longestRise_57 ?_
                refine n_iast (g := (va_up L j (lrI gr L j n1))) (n := 6) (i := j) (v := max (lrI gr L j n1) ((L n1) + 1)) hx hb hK hP hD hS (mset_self _ _ _) (by omega) (by omega) dX3_longestRise_60 (fun H locs hP hD hS => ?_)
                have hP : pm D (mset (mset M q_1 (eI cy 6 (va_up L j (lrI gr L j n1)))) q_1 (eI cy 6 (va_up (va_up L j (lrI gr L j n1)) j (max (lrI gr L j n1) ((L n1) + 1))))) H := hP
                have hD : mD (mA M sz) (mset (mset M q_1 (eI cy 6 (va_up L j (lrI gr L j n1)))) q_1 (eI cy 6 (va_up (va_up L j (lrI gr L j n1)) j (max (lrI gr L j n1) ((L n1) + 1))))) := hD
                rw [mset_mset _ q_1 (eI cy 6 (va_up L j (lrI gr L j n1))) (eI cy 6 (va_up (va_up L j (lrI gr L j n1)) j (max (lrI gr L j n1) ((L n1) + 1))))] at hP hD
                refine n_iinc (x := n1) (k := 1) (lv' := [(4, .int (nI (n1 + 1))), (0, .ref a), (1, .ref q_1), (2, .int (nI (lrM gr j))), (3, .int (nI j))]) hx hb dX3_longestRise_61 rfl hl (q := 4) rfl (by decide) rfl (fun ls hl => ?_)
                refine lv_goto (tgt := 24) hx hb dX3_longestRise_64 (by decide) ?_
                exact ih24  (n1 + 1) (by omega) (by omega) _ _ _ hP hD hS ((congrArg (fun z => mset M q_1 (eI cy 6 z)) (by first | (rw [bx_uu]; congr 1; show _ = (if _ then _ else _); rw [if_pos (by omega)]) | (congr 1; show _ = (if _ then _ else _); rw [if_neg (by omega)])))) _ (lv_sub hl [1, 2, 3, 4, 0] rfl)
        exact K24 (7 - 0 + 1) 0 (Nat.lt_succ_self _) (Nat.zero_le _) _ _ _ hP hD hS (rfl) _ (lv_sub hl [1, 2, 3, 4, 0] rfl)
  exact K9 (7 - 0 + 1) 0 (fun _ => 0) (Nat.lt_succ_self _) (Nat.zero_le _) (fun x h => absurd h (Nat.not_lt_zero x)) _ _ _ hP hD hS (rfl) _ (lv_sub hl [3, 2, 1, 0] rfl)
