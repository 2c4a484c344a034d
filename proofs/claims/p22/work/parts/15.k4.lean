theorem c_X3_addRankB (l : Launch) (D : va_G) (cy : Nat → ClassId) (M : mM) (sz : Nat) (a mk sc pt rk grp sh rc : Nat) (gs gp gr : Nat → Nat) (k : Nat) (f_a : M a = some ((.inr (4, [.int (nI grp), .ref mk, .int (nI sh), .ref sc, .ref pt, .ref rk, .int (nI (rc))])))) (f_sc : M sc = some (eI cy 5 gs)) (f_pt : M pt = some (eI cy 4 gp)) (f_rk : M rk = some (eI cy 6 gr)) (hrc : rc ≤ 6) : mWv l yX3_addRank wsX3_addRank ({ frames := 0, cells := 0, slots := 0, locals := 0 } : Room) D cy M sz [.ref a, .int (nI k)] (fun M' => M' = mset (mset M rk (eI cy 6 (if rc < 6 then va_up gr rc k else gr))) a (.inr (4, [.int (nI grp), .ref mk, .int (nI sh), .ref sc, .ref pt, .ref rk, .int (nI (if rc < 6 then rc + 1 else rc))]))) 0 0 := by
  by_cases h : rc < 6
  · rw [if_pos h, if_pos h]
    exact c_X3_addRank l D cy M sz a mk sc pt rk grp sh rc gs gp gr k f_a f_sc f_pt f_rk h
  · rw [if_neg h, if_neg h, mset_id f_rk, mset_id f_a]
    exact c_X3_addRankF l D cy M sz a mk sc pt rk grp sh rc gs gp gr k f_a f_sc f_pt f_rk h hrc

set_option maxRecDepth 100000 in
set_option maxHeartbeats 4000000 in
theorem c_X3_compare (l : Launch) (D : va_G) (cy : Nat → ClassId) (M : mM) (sz : Nat) (a mk sc pt rk grp sh : Nat) (gp : Nat → Nat) (am qm nm : Nat) (gm : Nat → Nat) (ad qd nd : Nat) (gd : Nat → Nat)  (f_a : M a = some (.inr (4, [.int (nI grp), .ref mk, .int (nI sh), .ref sc, .ref pt, .ref rk, .int (nI 0)]))) (f_sc : M sc = some (eI cy 5 (fun _ => 0))) (f_pt : M pt = some (eI cy 4 gp)) (f_rk : M rk = some (eI cy 6 (fun _ => 0))) (f_am : M am = some (.inr (5, [.ref qm, .int (nI nm)]))) (f_qm : M qm = some (eI cy 8 gm)) (f_ad : M ad = some (.inr (5, [.ref qd, .int (nI nd)]))) (f_qd : M qd = some (eI cy 8 gd)) (hnm : nm ≤ 6) (hnd : nd ≤ 8) (hgm : ∀ j, gm j ≤ 88) (hgd : ∀ j, gd j ≤ 88) (hrk : (cmpA gm nm gd nd (fun _ => 0) nd).1 ≤ nm) : mWv l yX3_compare wsX3_compare ({ frames := 3, cells := 1, slots := 6, locals := 63 } : Room) D cy M sz [.ref a, .ref am, .ref ad] (fun M' => ∃ q L, M q = none ∧ M' = mset (mset (mset (mset M rk (eI cy 6 (cmpA gm nm gd nd (fun _ => 0) nd).2.1)) a (.inr (4, [.int (nI grp), .ref mk, .int (nI sh), .ref sc, .ref pt, .ref rk, .int (nI (cmpA gm nm gd nd (fun _ => 0) nd).1)]))) q (eI cy 6 L)) sc (eI cy 5 (slpC gm nm gd nd))) 1 6 := by
  refine mW.of (cc := cX3_compare) (maxL := 6) (ret := none) (by decide) rfl (Nat.le_of_ble_eq_true rfl) ?_
  intro p e s m args below meth c ls hsz hx hb hr hts hown hlocks hml hname hP hD hS hA hK hl
  have hl : lv_has ls 6 [(0, .ref a), (1, .ref am), (2, .ref ad)] := hl
  have hown : s.vm.findClass RX3 = some m.cls := hown
  have hwX3 : ∀ w ∈ wsX30, w.before args s = true := fun w h => hts w (List.mem_cons_of_mem _ (List.mem_append_left _ (List.mem_append_right _ (h))))
  have hwX4 : ∀ w ∈ wsX40, w.before args s = true := fun w h => hts w (List.mem_cons_of_mem _ (List.mem_append_right _ (h)))
  have n_a_sc : a ≠ sc := ne_cell f_a f_sc (fun h9 => by simp at h9)
  have n_a_pt : a ≠ pt := ne_cell f_a f_pt (fun h9 => by simp at h9)
  have n_a_rk : a ≠ rk := ne_cell f_a f_rk (fun h9 => by simp at h9)
  have n_a_am : a ≠ am := ne_cell f_a f_am (fun h9 => by simp at h9)
  have n_a_qm : a ≠ qm := ne_cell f_a f_qm (fun h9 => by simp at h9)
  have n_a_ad : a ≠ ad := ne_cell f_a f_ad (fun h9 => by simp at h9)
  have n_a_qd : a ≠ qd := ne_cell f_a f_qd (fun h9 => by simp at h9)
  have n_sc_pt : sc ≠ pt := ne_cell f_sc f_pt (fun h9 => by simp at h9)
  have n_sc_rk : sc ≠ rk := ne_cell f_sc f_rk (fun h9 => by simp at h9)
  have n_sc_am : sc ≠ am := ne_cell f_sc f_am (fun h9 => by simp at h9)
  have n_sc_qm : sc ≠ qm := ne_cell f_sc f_qm (fun h9 => by simp at h9)
  have n_sc_ad : sc ≠ ad := ne_cell f_sc f_ad (fun h9 => by simp at h9)
  have n_sc_qd : sc ≠ qd := ne_cell f_sc f_qd (fun h9 => by simp at h9)
  have n_pt_rk : pt ≠ rk := ne_cell f_pt f_rk (fun h9 => by simp at h9)
  have n_pt_am : pt ≠ am := ne_cell f_pt f_am (fun h9 => by simp at h9)
  have n_pt_qm : pt ≠ qm := ne_cell f_pt f_qm (fun h9 => by simp at h9)
  have n_pt_ad : pt ≠ ad := ne_cell f_pt f_ad (fun h9 => by simp at h9)
  have n_pt_qd : pt ≠ qd := ne_cell f_pt f_qd (fun h9 => by simp at h9)
  have n_rk_am : rk ≠ am := ne_cell f_rk f_am (fun h9 => by simp at h9)
  have n_rk_qm : rk ≠ qm := ne_cell f_rk f_qm (fun h9 => by simp at h9)
  have n_rk_ad : rk ≠ ad := ne_cell f_rk f_ad (fun h9 => by simp at h9)
  have n_rk_qd : rk ≠ qd := ne_cell f_rk f_qd (fun h9 => by simp at h9)
  have n_am_qm : am ≠ qm := ne_cell f_am f_qm (fun h9 => by simp at h9)
  have n_am_qd : am ≠ qd := ne_cell f_am f_qd (fun h9 => by simp at h9)
  have n_qm_ad : qm ≠ ad := ne_cell f_qm f_ad (fun h9 => by simp at h9)
  have n_ad_qd : ad ≠ qd := ne_cell f_ad f_qd (fun h9 => by simp at h9)
  refine lv_iconst (v := (nI 0)) hx hb dX3_compare_0 (by decide) ?_
  refine lv_istore_n (lv' := [(3, .int (nI 0)), (0, .ref a), (1, .ref am), (2, .ref ad)]) hx hb dX3_compare_1 rfl hl (by decide) rfl (fun ls hl => ?_)
  have K2 : ∀ (n9 : Nat) (j : Nat), 9 - j < n9 → (j ≤ nd) → ∀ (Mq : mM) (H : Heap) (locs : List Loc), pm D Mq H → mD (mA M sz) Mq → va_S (mA M sz) s.heap H locs → (Mq = (mset (mset (mset M rk (eI cy 6 ((cmpA gm nm gd nd (fun _ => 0) j).2.1))) a (.inr (4, [.int (nI grp), .ref mk, .int (nI sh), .ref sc, .ref pt, .ref rk, .int (nI ((cmpA gm nm gd nd (fun _ => 0) j).1))]))) sc (eI cy 5 (cmpS (cmpA gm nm gd nd (fun _ => 0) j).2.2.1 (cmpA gm nm gd nd (fun _ => 0) j).2.2.2)))) → ∀ (ls : Array Slot), lv_has ls 6 [(0, .ref a), (1, .ref am), (2, .ref ad), (3, .int (nI j))] → W p l e ({ frames := 3, cells := 1, slots := 6, locals := 63 } : Room) s m args below meth c H locs 0 0 (MQ below (va_Qv (fun M' => ∃ q L, M q = none ∧ M' = mset (mset (mset (mset M rk (eI cy 6 (cmpA gm nm gd nd (fun _ => 0) nd).2.1)) a (.inr (4, [.int (nI grp), .ref mk, .int (nI sh), .ref sc, .ref pt, .ref rk, .int (nI (cmpA gm nm gd nd (fun _ => 0) nd).1)]))) q (eI cy 6 L)) sc (eI cy 5 (slpC gm nm gd nd))) (mB D M sz) (mA M sz)) args s 1 6 (mA M sz)) (F0 m 2 ls []) := by
    intro n9
    induction n9 with
    | zero => intro j hn; exact absurd hn (by omega)
    | succ n9 ih2 =>
      intro j hn2 i2_0 Mq H locs hP hD hS hW ls hl
      obtain ⟨hE1, hE2, hE3, hE4⟩ := cmpA_rows (gm := gm) (nm := nm) (gd := gd) (nd := nd) (r0 := (fun _ => 0)) (fun _ => Nat.zero_le _) (by omega) j
      have hgj := hgd j
      have hfm := folA_bd gm (gd j) nm
      have hfd := folA_bd gd (gd j) nd
      subst hW
      refine lv_iload_n hx hb dX3_compare_2 rfl (lv_at hl 3 rfl) ?_
      refine lv_aload_n hx hb dX3_compare_3 rfl (lv_at hl 2 rfl) ?_
      refine vp_callSi (W.runV (C := RX4) (As := []) (rest := [.int (nI j)]) ⟨hx, hb, hml, hown, hts⟩ (c_X4_size l D cy _ ad qd nd gd ((mset_ne (Ne.symm n_sc_ad)).trans ((mset_ne (Ne.symm n_a_ad)).trans ((mset_ne (Ne.symm n_rk_ad)).trans (f_ad)))) ((mset_ne (Ne.symm n_sc_qd)).trans ((mset_ne (Ne.symm n_a_qd)).trans ((mset_ne (Ne.symm n_rk_qd)).trans (f_qd))))) (cwV 0 hts gX3_compare_X4_size rfl rfl rfl (by decide +kernel) ⟨Nat.le_of_ble_eq_true rfl, Nat.le_of_ble_eq_true rfl⟩) (mPreV hK hP ((mset_ne (Ne.symm n_sc_ad)).trans ((mset_ne (Ne.symm n_a_ad)).trans ((mset_ne (Ne.symm n_rk_ad)).trans (f_ad)))) (ci := 5) rfl) rfl rfl hl.1 rfl (lv_room (Nat.le_of_ble_eq_true rfl)) dX3_compare_4 ⟨Nat.le_of_ble_eq_true rfl, Nat.le_of_ble_eq_true rfl⟩) (fun r9 hr9 => ?_)
      have hr9 : r9 = (nI nd) := hr9
      subst hr9
      refine z_icmp_ge (u := ((j : Nat) : Int)) (v := ((nd : Nat) : Int)) (tgt := 87) hx hb (nI_toInt (by omega)) (nI_toInt (by omega)) dX3_compare_7 (by decide) (fun c_7 => ?_) (fun c_7 => ?_)
      · have hrk9 : (cmpA gm nm gd nd (fun _ => 0) j).1 ≤ nm := (by rw [show j = nd by omega]; exact hrk)
        have hlr9 := lrM_le (cmpA gm nm gd nd (fun _ => 0) j).2.1 (cmpA gm nm gd nd (fun _ => 0) j).1
        refine lv_aload_n hx hb dX3_compare_87 rfl (lv_at hl 0 rfl) ?_
        refine m_get (T := TX3) (N := 7) (ci := 4) (fs := [.int (nI grp), .ref mk, .int (nI sh), .ref sc, .ref pt, .ref rk, .int (nI ((cmpA gm nm gd nd (fun _ => 0) j).1))]) hx hb hwX3 hown hK hP ((mset_ne n_a_sc).trans (mset_self _ _ _)) rfl 3 (by decide) (hts _ (List.mem_of_getElem? (i := 1) rfl)) (v := .ref sc) rfl dX3_compare_88 ?_
        refine lv_iconst (v := (nI 0)) hx hb dX3_compare_91 (by decide) ?_
        refine lv_aload_n hx hb dX3_compare_92 rfl (lv_at hl 1 rfl) ?_
        refine vp_callSi (W.runV (C := RX4) (As := []) (rest := [.int (nI 0), .ref sc]) ⟨hx, hb, hml, hown, hts⟩ (c_X4_size l D cy _ am qm nm gm ((mset_ne (Ne.symm n_sc_am)).trans ((mset_ne (Ne.symm n_a_am)).trans ((mset_ne (Ne.symm n_rk_am)).trans (f_am)))) ((mset_ne (Ne.symm n_sc_qm)).trans ((mset_ne (Ne.symm n_a_qm)).trans ((mset_ne (Ne.symm n_rk_qm)).trans (f_qm))))) (cwV 0 hts gX3_compare_X4_size rfl rfl rfl (by decide +kernel) ⟨Nat.le_of_ble_eq_true rfl, Nat.le_of_ble_eq_true rfl⟩) (mPreV hK hP ((mset_ne (Ne.symm n_sc_am)).trans ((mset_ne (Ne.symm n_a_am)).trans ((mset_ne (Ne.symm n_rk_am)).trans (f_am)))) (ci := 5) rfl) rfl rfl hl.1 rfl (lv_room (Nat.le_of_ble_eq_true rfl)) dX3_compare_93 ⟨Nat.le_of_ble_eq_true rfl, Nat.le_of_ble_eq_true rfl⟩) (fun r9 hr9 => ?_)
        have hr9 : r9 = (nI nm) := hr9
        subst hr9
        refine lv_aload_n hx hb dX3_compare_96 rfl (lv_at hl 0 rfl) ?_
        refine m_get (T := TX3) (N := 7) (ci := 4) (fs := [.int (nI grp), .ref mk, .int (nI sh), .ref sc, .ref pt, .ref rk, .int (nI ((cmpA gm nm gd nd (fun _ => 0) j).1))]) hx hb hwX3 hown hK hP ((mset_ne n_a_sc).trans (mset_self _ _ _)) rfl 6 (by decide) (hts _ (List.mem_of_getElem? (i := 2) rfl)) (v := .int (nI ((cmpA gm nm gd nd (fun _ => 0) j).1))) rfl dX3_compare_97 ?_
        refine n_sub (x := nm) (y := (cmpA gm nm gd nd (fun _ => 0) j).1) hx hb (by omega) dX3_compare_100 ?_
        refine n_iast (g := (cmpS (cmpA gm nm gd nd (fun _ => 0) j).2.2.1 (cmpA gm nm gd nd (fun _ => 0) j).2.2.2)) (n := 5) (i := 0) (v := nm - ((cmpA gm nm gd nd (fun _ => 0) j).1)) hx hb hK hP hD hS (mset_self _ _ _) (by omega) (by omega) dX3_compare_101 (fun H locs hP hD hS => ?_)
        have hP : pm D (mset (mset (mset (mset M rk (eI cy 6 ((cmpA gm nm gd nd (fun _ => 0) j).2.1))) a (.inr (4, [.int (nI grp), .ref mk, .int (nI sh), .ref sc, .ref pt, .ref rk, .int (nI ((cmpA gm nm gd nd (fun _ => 0) j).1))]))) sc (eI cy 5 (cmpS (cmpA gm nm gd nd (fun _ => 0) j).2.2.1 (cmpA gm nm gd nd (fun _ => 0) j).2.2.2))) sc (eI cy 5 (va_up (cmpS (cmpA gm nm gd nd (fun _ => 0) j).2.2.1 (cmpA gm nm gd nd (fun _ => 0) j).2.2.2) 0 (nm - ((cmpA gm nm gd nd (fun _ => 0) j).1))))) H := hP
        have hD : mD (mA M sz) (mset (mset (mset (mset M rk (eI cy 6 ((cmpA gm nm gd nd (fun _ => 0) j).2.1))) a (.inr (4, [.int (nI grp), .ref mk, .int (nI sh), .ref sc, .ref pt, .ref rk, .int (nI ((cmpA gm nm gd nd (fun _ => 0) j).1))]))) sc (eI cy 5 (cmpS (cmpA gm nm gd nd (fun _ => 0) j).2.2.1 (cmpA gm nm gd nd (fun _ => 0) j).2.2.2))) sc (eI cy 5 (va_up (cmpS (cmpA gm nm gd nd (fun _ => 0) j).2.2.1 (cmpA gm nm gd nd (fun _ => 0) j).2.2.2) 0 (nm - ((cmpA gm nm gd nd (fun _ => 0) j).1))))) := hD
        rw [mset_mset _ sc (eI cy 5 (cmpS (cmpA gm nm gd nd (fun _ => 0) j).2.2.1 (cmpA gm nm gd nd (fun _ => 0) j).2.2.2)) (eI cy 5 (va_up (cmpS (cmpA gm nm gd nd (fun _ => 0) j).2.2.1 (cmpA gm nm gd nd (fun _ => 0) j).2.2.2) 0 (nm - ((cmpA gm nm gd nd (fun _ => 0) j).1))))] at hP hD
        refine lv_aload_n hx hb dX3_compare_102 rfl (lv_at hl 0 rfl) ?_
        refine m_get (T := TX3) (N := 7) (ci := 4) (fs := [.int (nI grp), .ref mk, .int (nI sh), .ref sc, .ref pt, .ref rk, .int (nI ((cmpA gm nm gd nd (fun _ => 0) j).1))]) hx hb hwX3 hown hK hP ((mset_ne n_a_sc).trans (mset_self _ _ _)) rfl 3 (by decide) (hts _ (List.mem_of_getElem? (i := 1) rfl)) (v := .ref sc) rfl dX3_compare_103 ?_
        refine lv_iconst (v := (nI 3)) hx hb dX3_compare_106 (by decide) ?_
        refine lv_aload_n hx hb dX3_compare_107 rfl (lv_at hl 0 rfl) ?_
        refine m_get (T := TX3) (N := 7) (ci := 4) (fs := [.int (nI grp), .ref mk, .int (nI sh), .ref sc, .ref pt, .ref rk, .int (nI ((cmpA gm nm gd nd (fun _ => 0) j).1))]) hx hb hwX3 hown hK hP ((mset_ne n_a_sc).trans (mset_self _ _ _)) rfl 6 (by decide) (hts _ (List.mem_of_getElem? (i := 2) rfl)) (v := .int (nI ((cmpA gm nm gd nd (fun _ => 0) j).1))) rfl dX3_compare_108 ?_
        refine lv_aload_n hx hb dX3_compare_111 rfl (lv_at hl 0 rfl) ?_
        refine m_calli (va_runV (C := RX3) (As := []) (rest := [.int (nI ((cmpA gm nm gd nd (fun _ => 0) j).1)), .int (nI 3), .ref sc]) ⟨hx, hb, hml, hown, hts⟩ (c_X3_longestRise l D cy _ _ a mk sc pt rk grp sh (cmpA gm nm gd nd (fun _ => 0) j).1 (va_up (cmpS (cmpA gm nm gd nd (fun _ => 0) j).2.2.1 (cmpA gm nm gd nd (fun _ => 0) j).2.2.2) 0 (nm - ((cmpA gm nm gd nd (fun _ => 0) j).1))) gp (cmpA gm nm gd nd (fun _ => 0) j).2.1 ((mset_ne n_a_sc).trans (mset_self _ _ _)) (mset_self _ _ _) ((mset_ne (Ne.symm n_sc_pt)).trans ((mset_ne (Ne.symm n_a_pt)).trans ((mset_ne n_pt_rk).trans (f_pt)))) ((mset_ne (Ne.symm n_sc_rk)).trans ((mset_ne (Ne.symm n_a_rk)).trans (mset_self _ _ _))) hE2 hE1) (cwV 0 hts gX3_compare_X3_longestRise rfl rfl rfl (by decide +kernel) ⟨Nat.le_of_ble_eq_true rfl, Nat.le_of_ble_eq_true rfl⟩) (mPreWV hK hP ((mset_ne n_a_sc).trans (mset_self _ _ _)) (ci := 4) rfl) rfl rfl hl.1 rfl (lv_room (Nat.le_of_ble_eq_true rfl)) dX3_compare_112 ⟨Nat.le_of_ble_eq_true rfl, Nat.le_of_ble_eq_true rfl⟩) hD hA hS (fun r9 Mn H locs hq9 hP hD hS hz9 hd9 hk9 => ?_)
        obtain ⟨hr9, hq9⟩ := hq9
        have hr9 : r9 = (nI (lrM (cmpA gm nm gd nd (fun _ => 0) j).2.1 (cmpA gm nm gd nd (fun _ => 0) j).1)) := hr9
        subst hr9
        obtain ⟨q_9, L_9, hn_q_9, hq9⟩ := hq9
        have n_a_q_9 : a ≠ q_9 := ne_none ((mset_ne n_a_sc).trans (mset_self _ _ _)) hn_q_9
        have n_sc_q_9 : sc ≠ q_9 := ne_none (mset_self _ _ _) hn_q_9
        have n_pt_q_9 : pt ≠ q_9 := ne_none ((mset_ne (Ne.symm n_sc_pt)).trans ((mset_ne (Ne.symm n_a_pt)).trans ((mset_ne n_pt_rk).trans (f_pt)))) hn_q_9
        have n_rk_q_9 : rk ≠ q_9 := ne_none ((mset_ne (Ne.symm n_sc_rk)).trans ((mset_ne (Ne.symm n_a_rk)).trans (mset_self _ _ _))) hn_q_9
        have n_am_q_9 : am ≠ q_9 := ne_none ((mset_ne (Ne.symm n_sc_am)).trans ((mset_ne (Ne.symm n_a_am)).trans ((mset_ne (Ne.symm n_rk_am)).trans (f_am)))) hn_q_9
        have n_qm_q_9 : qm ≠ q_9 := ne_none ((mset_ne (Ne.symm n_sc_qm)).trans ((mset_ne (Ne.symm n_a_qm)).trans ((mset_ne (Ne.symm n_rk_qm)).trans (f_qm)))) hn_q_9
        have n_ad_q_9 : ad ≠ q_9 := ne_none ((mset_ne (Ne.symm n_sc_ad)).trans ((mset_ne (Ne.symm n_a_ad)).trans ((mset_ne (Ne.symm n_rk_ad)).trans (f_ad)))) hn_q_9
        have n_qd_q_9 : qd ≠ q_9 := ne_none ((mset_ne (Ne.symm n_sc_qd)).trans ((mset_ne (Ne.symm n_a_qd)).trans ((mset_ne (Ne.symm n_rk_qd)).trans (f_qd)))) hn_q_9
        have hq9 : Mn = (mset (mset (mset (mset M rk (eI cy 6 ((cmpA gm nm gd nd (fun _ => 0) j).2.1))) a (.inr (4, [.int (nI grp), .ref mk, .int (nI sh), .ref sc, .ref pt, .ref rk, .int (nI ((cmpA gm nm gd nd (fun _ => 0) j).1))]))) sc (eI cy 5 (va_up (cmpS (cmpA gm nm gd nd (fun _ => 0) j).2.2.1 (cmpA gm nm gd nd (fun _ => 0) j).2.2.2) 0 (nm - ((cmpA gm nm gd nd (fun _ => 0) j).1))))) q_9 (eI cy 6 L_9)) := hq9
        subst hq9
        refine n_sub (x := (cmpA gm nm gd nd (fun _ => 0) j).1) (y := lrM (cmpA gm nm gd nd (fun _ => 0) j).2.1 (cmpA gm nm gd nd (fun _ => 0) j).1) hx hb (by omega) dX3_compare_115 ?_
        refine n_iast (g := (va_up (cmpS (cmpA gm nm gd nd (fun _ => 0) j).2.2.1 (cmpA gm nm gd nd (fun _ => 0) j).2.2.2) 0 (nm - ((cmpA gm nm gd nd (fun _ => 0) j).1)))) (n := 5) (i := 3) (v := ((cmpA gm nm gd nd (fun _ => 0) j).1) - (lrM (cmpA gm nm gd nd (fun _ => 0) j).2.1 (cmpA gm nm gd nd (fun _ => 0) j).1)) hx hb hK hP hD hS ((mset_ne n_sc_q_9).trans (mset_self _ _ _)) (by omega) (by omega) dX3_compare_116 (fun H locs hP hD hS => ?_)
        have hP : pm D (mset (mset (mset (mset (mset M rk (eI cy 6 ((cmpA gm nm gd nd (fun _ => 0) j).2.1))) a (.inr (4, [.int (nI grp), .ref mk, .int (nI sh), .ref sc, .ref pt, .ref rk, .int (nI ((cmpA gm nm gd nd (fun _ => 0) j).1))]))) sc (eI cy 5 (va_up (cmpS (cmpA gm nm gd nd (fun _ => 0) j).2.2.1 (cmpA gm nm gd nd (fun _ => 0) j).2.2.2) 0 (nm - ((cmpA gm nm gd nd (fun _ => 0) j).1))))) q_9 (eI cy 6 L_9)) sc (eI cy 5 (va_up (va_up (cmpS (cmpA gm nm gd nd (fun _ => 0) j).2.2.1 (cmpA gm nm gd nd (fun _ => 0) j).2.2.2) 0 (nm - ((cmpA gm nm gd nd (fun _ => 0) j).1))) 3 (((cmpA gm nm gd nd (fun _ => 0) j).1) - (lrM (cmpA gm nm gd nd (fun _ => 0) j).2.1 (cmpA gm nm gd nd (fun _ => 0) j).1))))) H := hP
        have hD : mD (mA M sz) (mset (mset (mset (mset (mset M rk (eI cy 6 ((cmpA gm nm gd nd (fun _ => 0) j).2.1))) a (.inr (4, [.int (nI grp), .ref mk, .int (nI sh), .ref sc, .ref pt, .ref rk, .int (nI ((cmpA gm nm gd nd (fun _ => 0) j).1))]))) sc (eI cy 5 (va_up (cmpS (cmpA gm nm gd nd (fun _ => 0) j).2.2.1 (cmpA gm nm gd nd (fun _ => 0) j).2.2.2) 0 (nm - ((cmpA gm nm gd nd (fun _ => 0) j).1))))) q_9 (eI cy 6 L_9)) sc (eI cy 5 (va_up (va_up (cmpS (cmpA gm nm gd nd (fun _ => 0) j).2.2.1 (cmpA gm nm gd nd (fun _ => 0) j).2.2.2) 0 (nm - ((cmpA gm nm gd nd (fun _ => 0) j).1))) 3 (((cmpA gm nm gd nd (fun _ => 0) j).1) - (lrM (cmpA gm nm gd nd (fun _ => 0) j).2.1 (cmpA gm nm gd nd (fun _ => 0) j).1))))) := hD
        rw [mset_comm _ (eI cy 5 (va_up (cmpS (cmpA gm nm gd nd (fun _ => 0) j).2.2.1 (cmpA gm nm gd nd (fun _ => 0) j).2.2.2) 0 (nm - ((cmpA gm nm gd nd (fun _ => 0) j).1)))) (eI cy 6 L_9) (n_sc_q_9), mset_mset _ sc (eI cy 5 (va_up (cmpS (cmpA gm nm gd nd (fun _ => 0) j).2.2.1 (cmpA gm nm gd nd (fun _ => 0) j).2.2.2) 0 (nm - ((cmpA gm nm gd nd (fun _ => 0) j).1)))) (eI cy 5 (va_up (va_up (cmpS (cmpA gm nm gd nd (fun _ => 0) j).2.2.1 (cmpA gm nm gd nd (fun _ => 0) j).2.2.2) 0 (nm - ((cmpA gm nm gd nd (fun _ => 0) j).1))) 3 (((cmpA gm nm gd nd (fun _ => 0) j).1) - (lrM (cmpA gm nm gd nd (fun _ => 0) j).2.1 (cmpA gm nm gd nd (fun _ => 0) j).1))))] at hP hD
        exact e_wv hx hb hr hlocks hP hD hS (⟨q_9, L_9, (none_of (none_of (none_of hn_q_9))), (by rw [show nd = j by omega]; rfl)⟩) dX3_compare_117
      · refine lv_aload_n hx hb dX3_compare_10 rfl (lv_at hl 2 rfl) ?_
        refine lv_iload_n hx hb dX3_compare_11 rfl (lv_at hl 3 rfl) ?_
        refine vp_callSi (W.runV (C := RX4) (As := [.int (nI j)]) (rest := []) ⟨hx, hb, hml, hown, hts⟩ (c_X4_codeAt l D cy _ ad qd nd gd (nI j) (j : Int) ((mset_ne (Ne.symm n_sc_ad)).trans ((mset_ne (Ne.symm n_a_ad)).trans ((mset_ne (Ne.symm n_rk_ad)).trans (f_ad)))) ((mset_ne (Ne.symm n_sc_qd)).trans ((mset_ne (Ne.symm n_a_qd)).trans ((mset_ne (Ne.symm n_rk_qd)).trans (f_qd)))) (by omega) (nI_toInt (by omega))) (cwV 1 hts gX3_compare_X4_codeAt rfl rfl rfl (by decide +kernel) ⟨Nat.le_of_ble_eq_true rfl, Nat.le_of_ble_eq_true rfl⟩) (mPreV hK hP ((mset_ne (Ne.symm n_sc_ad)).trans ((mset_ne (Ne.symm n_a_ad)).trans ((mset_ne (Ne.symm n_rk_ad)).trans (f_ad)))) (ci := 5) rfl) rfl rfl hl.1 rfl (lv_room (Nat.le_of_ble_eq_true rfl)) dX3_compare_12 ⟨Nat.le_of_ble_eq_true rfl, Nat.le_of_ble_eq_true rfl⟩) (fun r9 hr9 => ?_)
        have hr9 : r9 = (zI (if 0 ≤ (j : Int) ∧ (j : Int) < nd then (gd (j : Int).toNat : Int) else -1)) := hr9
        subst hr9
        refine n_name (show (zI (if 0 ≤ (j : Int) ∧ (j : Int) < nd then (gd (j : Int).toNat : Int) else -1)) = nI (gd j) from (congrArg zI (if_pos (by omega))).trans (nI_zI _).symm) ?_
        refine lv_istore (lv' := [(4, .int (nI (gd j))), (0, .ref a), (1, .ref am), (2, .ref ad), (3, .int (nI j))]) hx hb dX3_compare_15 hl (by decide) rfl (fun ls hl => ?_)
        refine lv_aload_n hx hb dX3_compare_17 rfl (lv_at hl 2 rfl) ?_
        refine lv_iload hx hb dX3_compare_18 (lv_at hl 0 rfl) ?_
        refine vp_callSi (W.runV (C := RX4) (As := [.int (nI (gd j))]) (rest := []) ⟨hx, hb, hml, hown, hts⟩ (c_X4_firstOnLineOf l D cy _ am qm nm gm (gd j) ((mset_ne (Ne.symm n_sc_am)).trans ((mset_ne (Ne.symm n_a_am)).trans ((mset_ne (Ne.symm n_rk_am)).trans (f_am)))) ((mset_ne (Ne.symm n_sc_qm)).trans ((mset_ne (Ne.symm n_a_qm)).trans ((mset_ne (Ne.symm n_rk_qm)).trans (f_qm)))) (by omega) hgm (by omega)) (cwV 1 hts gX3_compare_X4_firstOnLineOf rfl rfl rfl (by decide +kernel) ⟨Nat.le_of_ble_eq_true rfl, Nat.le_of_ble_eq_true rfl⟩) (mPreV hK hP ((mset_ne (Ne.symm n_sc_am)).trans ((mset_ne (Ne.symm n_a_am)).trans ((mset_ne (Ne.symm n_rk_am)).trans (f_am)))) (ci := 5) rfl) rfl rfl hl.1 rfl (lv_room (Nat.le_of_ble_eq_true rfl)) dX3_compare_20 ⟨Nat.le_of_ble_eq_true rfl, Nat.le_of_ble_eq_true rfl⟩) (fun r9 hr9 => ?_)
        have hr9 : r9 = (zI (folA gm (gd j) nm)) := hr9
        subst hr9
        refine lv_istore (lv' := [(5, .int (zI (folA gm (gd j) nm))), (4, .int (nI (gd j))), (0, .ref a), (1, .ref am), (2, .ref ad), (3, .int (nI j))]) hx hb dX3_compare_23 hl (by decide) rfl (fun ls hl => ?_)
        refine lv_iload hx hb dX3_compare_25 (lv_at hl 0 rfl) ?_
        refine lv_iconst (v := (zI (-1))) hx hb dX3_compare_27 (by decide) ?_
        refine z_icmp_eq (u := (folA gm (gd j) nm)) (v := (-1)) (tgt := 41) hx hb (zI_toInt (by omega) (by omega)) (zI_toInt (by omega) (by omega)) dX3_compare_28 (by decide) (fun c_28 => ?_) (fun c_28 => ?_)
        · refine lv_aload_n hx hb dX3_compare_41 rfl (lv_at hl 2 rfl) ?_
          refine m_get (T := TX3) (N := 7) (ci := 4) (fs := [.int (nI grp), .ref mk, .int (nI sh), .ref sc, .ref pt, .ref rk, .int (nI ((cmpA gm nm gd nd (fun _ => 0) j).1))]) hx hb hwX3 hown hK hP ((mset_ne n_a_sc).trans (mset_self _ _ _)) rfl 3 (by decide) (hts _ (List.mem_of_getElem? (i := 1) rfl)) (v := .ref sc) rfl dX3_compare_42 ?_
          refine lv_iconst (v := (nI 1)) hx hb dX3_compare_45 (by decide) ?_
          refine lv_dup2_11 hx hb dX3_compare_46 rfl rfl ?_
          refine n_iald (g := (cmpS (cmpA gm nm gd nd (fun _ => 0) j).2.2.1 (cmpA gm nm gd nd (fun _ => 0) j).2.2.2)) (n := 5) (i := 1) hx hb hK hP (mset_self _ _ _) (by omega) (by omega) dX3_compare_47 ?_
          refine n_name (show (nI ((cmpS (cmpA gm nm gd nd (fun _ => 0) j).2.2.1 (cmpA gm nm gd nd (fun _ => 0) j).2.2.2) 1)) = (nI ((cmpA gm nm gd nd (fun _ => 0) j).2.2.1)) from rfl) ?_
          refine lv_iconst (v := (nI 1)) hx hb dX3_compare_48 (by decide) ?_
          refine n_add (x := (cmpA gm nm gd nd (fun _ => 0) j).2.2.1) (y := 1) hx hb dX3_compare_49 ?_
          refine n_iast (g := (cmpS (cmpA gm nm gd nd (fun _ => 0) j).2.2.1 (cmpA gm nm gd nd (fun _ => 0) j).2.2.2)) (n := 5) (i := 1) (v := ((cmpA gm nm gd nd (fun _ => 0) j).2.2.1) + 1) hx hb hK hP hD hS (mset_self _ _ _) (by omega) (by omega) dX3_compare_50 (fun H locs hP hD hS => ?_)
          have hP : pm D (mset (mset (mset (mset M rk (eI cy 6 ((cmpA gm nm gd nd (fun _ => 0) j).2.1))) a (.inr (4, [.int (nI grp), .ref mk, .int (nI sh), .ref sc, .ref pt, .ref rk, .int (nI ((cmpA gm nm gd nd (fun _ => 0) j).1))]))) sc (eI cy 5 (cmpS (cmpA gm nm gd nd (fun _ => 0) j).2.2.1 (cmpA gm nm gd nd (fun _ => 0) j).2.2.2))) sc (eI cy 5 (va_up (cmpS (cmpA gm nm gd nd (fun _ => 0) j).2.2.1 (cmpA gm nm gd nd (fun _ => 0) j).2.2.2) 1 (((cmpA gm nm gd nd (fun _ => 0) j).2.2.1) + 1)))) H := hP
          have hD : mD (mA M sz) (mset (mset (mset (mset M rk (eI cy 6 ((cmpA gm nm gd nd (fun _ => 0) j).2.1))) a (.inr (4, [.int (nI grp), .ref mk, .int (nI sh), .ref sc, .ref pt, .ref rk, .int (nI ((cmpA gm nm gd nd (fun _ => 0) j).1))]))) sc (eI cy 5 (cmpS (cmpA gm nm gd nd (fun _ => 0) j).2.2.1 (cmpA gm nm gd nd (fun _ => 0) j).2.2.2))) sc (eI cy 5 (va_up (cmpS (cmpA gm nm gd nd (fun _ => 0) j).2.2.1 (cmpA gm nm gd nd (fun _ => 0) j).2.2.2) 1 (((cmpA gm nm gd nd (fun _ => 0) j).2.2.1) + 1)))) := hD
          rw [mset_mset _ sc (eI cy 5 (cmpS (cmpA gm nm gd nd (fun _ => 0) j).2.2.1 (cmpA gm nm gd nd (fun _ => 0) j).2.2.2)) (eI cy 5 (va_up (cmpS (cmpA gm nm gd nd (fun _ => 0) j).2.2.1 (cmpA gm nm gd nd (fun _ => 0) j).2.2.2) 1 (((cmpA gm nm gd nd (fun _ => 0) j).2.2.1) + 1)))] at hP hD
          refine lv_goto (tgt := 81) hx hb dX3_compare_51 (by decide) ?_
          refine n_iinc (x := j) (k := 1) (lv' := [(3, .int (nI (j + 1))), (5, .int (zI (folA gm (gd j) nm))), (4, .int (nI (gd j))), (0, .ref a), (1, .ref am), (2, .ref ad)]) hx hb dX3_compare_81 rfl hl (q := 5) rfl (by decide) rfl (fun ls hl => ?_)
          refine lv_goto (tgt := 2) hx hb dX3_compare_84 (by decide) ?_
          exact ih2  (j + 1) (by omega) (by omega) _ _ _ hP hD hS (by rw [cmpA_extra (by omega), cmpS_1]) _ (lv_sub hl [3, 4, 5, 0] rfl)
        · refine lv_aload_n hx hb dX3_compare_31 rfl (lv_at hl 4 rfl) ?_
          refine lv_iload hx hb dX3_compare_32 (lv_at hl 1 rfl) ?_
          refine vp_callSi (W.runV (C := RX4) (As := [.int (nI (gd j))]) (rest := []) ⟨hx, hb, hml, hown, hts⟩ (c_X4_firstOnLineOf l D cy _ ad qd nd gd (gd j) ((mset_ne (Ne.symm n_sc_ad)).trans ((mset_ne (Ne.symm n_a_ad)).trans ((mset_ne (Ne.symm n_rk_ad)).trans (f_ad)))) ((mset_ne (Ne.symm n_sc_qd)).trans ((mset_ne (Ne.symm n_a_qd)).trans ((mset_ne (Ne.symm n_rk_qd)).trans (f_qd)))) (by omega) hgd (by omega)) (cwV 1 hts gX3_compare_X4_firstOnLineOf rfl rfl rfl (by decide +kernel) ⟨Nat.le_of_ble_eq_true rfl, Nat.le_of_ble_eq_true rfl⟩) (mPreV hK hP ((mset_ne (Ne.symm n_sc_ad)).trans ((mset_ne (Ne.symm n_a_ad)).trans ((mset_ne (Ne.symm n_rk_ad)).trans (f_ad)))) (ci := 5) rfl) rfl rfl hl.1 rfl (lv_room (Nat.le_of_ble_eq_true rfl)) dX3_compare_34 ⟨Nat.le_of_ble_eq_true rfl, Nat.le_of_ble_eq_true rfl⟩) (fun r9 hr9 => ?_)
          have hr9 : r9 = (zI (folA gd (gd j) nd)) := hr9
          subst hr9
          refine lv_iload_n hx hb dX3_compare_37 rfl (lv_at hl 5 rfl) ?_
          refine z_icmp_ge (u := (folA gd (gd j) nd)) (v := ((j : Nat) : Int)) (tgt := 54) hx hb (zI_toInt (by omega) (by omega)) (nI_toInt (by omega)) dX3_compare_38 (by decide) (fun c_38 => ?_) (fun c_38 => ?_)
          · have hno9 : ¬ (folA gm (gd j) nm = -1 ∨ folA gd (gd j) nd < (j : Int)) := (by omega)
            have ex_5 : (zI (folA gm (gd j) nm)) = (nI ((folA gm (gd j) nm).toNat)) := (zI_nI (by omega)).trans (congrArg nI (by omega))
            have hl : lv_has ls 6 [(5, .int (nI ((folA gm (gd j) nm).toNat))), (4, .int (nI (gd j))), (0, .ref a), (1, .ref am), (2, .ref ad), (3, .int (nI j))] := by
              rw [← ex_5]
              exact hl
            have hk9 : (folA gm (gd j) nm).toNat < nm := (by omega)
            have hgk := hgm (folA gm (gd j) nm).toNat
            refine lv_aload_n hx hb dX3_compare_54 rfl (lv_at hl 2 rfl) ?_
            refine lv_iload hx hb dX3_compare_55 (lv_at hl 0 rfl) ?_
            refine m_callv (va_runV (C := RX3) (As := [.int (nI ((folA gm (gd j) nm).toNat))]) (rest := []) ⟨hx, hb, hml, hown, hts⟩ (c_X3_addRankB l D cy _ _ a mk sc pt rk grp sh (cmpA gm nm gd nd (fun _ => 0) j).1 (cmpS (cmpA gm nm gd nd (fun _ => 0) j).2.2.1 (cmpA gm nm gd nd (fun _ => 0) j).2.2.2) gp (cmpA gm nm gd nd (fun _ => 0) j).2.1 (folA gm (gd j) nm).toNat ((mset_ne n_a_sc).trans (mset_self _ _ _)) (mset_self _ _ _) ((mset_ne (Ne.symm n_sc_pt)).trans ((mset_ne (Ne.symm n_a_pt)).trans ((mset_ne n_pt_rk).trans (f_pt)))) ((mset_ne (Ne.symm n_sc_rk)).trans ((mset_ne (Ne.symm n_a_rk)).trans (mset_self _ _ _))) hE2) (cwV 1 hts gX3_compare_X3_addRank rfl rfl rfl (by decide +kernel) ⟨Nat.le_of_ble_eq_true rfl, Nat.le_of_ble_eq_true rfl⟩) (mPreWV hK hP ((mset_ne n_a_sc).trans (mset_self _ _ _)) (ci := 4) rfl) rfl rfl hl.1 rfl (lv_room (Nat.le_of_ble_eq_true rfl)) dX3_compare_57 ⟨Nat.le_of_ble_eq_true rfl, Nat.le_of_ble_eq_true rfl⟩) hD hA hS (fun Mn H locs hq9 hP hD hS hz9 hd9 hk9 => ?_)
            have hq9 : Mn = (mset (mset (mset (mset (mset M rk (eI cy 6 ((cmpA gm nm gd nd (fun _ => 0) j).2.1))) a (.inr (4, [.int (nI grp), .ref mk, .int (nI sh), .ref sc, .ref pt, .ref rk, .int (nI ((cmpA gm nm gd nd (fun _ => 0) j).1))]))) sc (eI cy 5 (cmpS (cmpA gm nm gd nd (fun _ => 0) j).2.2.1 (cmpA gm nm gd nd (fun _ => 0) j).2.2.2))) rk (eI cy 6 (if (cmpA gm nm gd nd (fun _ => 0) j).1 < 6 then va_up (cmpA gm nm gd nd (fun _ => 0) j).2.1 (cmpA gm nm gd nd (fun _ => 0) j).1 (folA gm (gd j) nm).toNat else (cmpA gm nm gd nd (fun _ => 0) j).2.1))) a (.inr (4, [.int (nI grp), .ref mk, .int (nI sh), .ref sc, .ref pt, .ref rk, .int (nI (if (cmpA gm nm gd nd (fun _ => 0) j).1 < 6 then (cmpA gm nm gd nd (fun _ => 0) j).1 + 1 else (cmpA gm nm gd nd (fun _ => 0) j).1))]))) := hq9
            subst hq9
            rw [mset_comm _ (.inr (4, [.int (nI grp), .ref mk, .int (nI sh), .ref sc, .ref pt, .ref rk, .int (nI ((cmpA gm nm gd nd (fun _ => 0) j).1))])) (eI cy 5 (cmpS (cmpA gm nm gd nd (fun _ => 0) j).2.2.1 (cmpA gm nm gd nd (fun _ => 0) j).2.2.2)) (n_a_sc), mset_comm _ (.inr (4, [.int (nI grp), .ref mk, .int (nI sh), .ref sc, .ref pt, .ref rk, .int (nI ((cmpA gm nm gd nd (fun _ => 0) j).1))])) (eI cy 6 (if (cmpA gm nm gd nd (fun _ => 0) j).1 < 6 then va_up (cmpA gm nm gd nd (fun _ => 0) j).2.1 (cmpA gm nm gd nd (fun _ => 0) j).1 (folA gm (gd j) nm).toNat else (cmpA gm nm gd nd (fun _ => 0) j).2.1)) (n_a_rk), mset_mset _ a (.inr (4, [.int (nI grp), .ref mk, .int (nI sh), .ref sc, .ref pt, .ref rk, .int (nI ((cmpA gm nm gd nd (fun _ => 0) j).1))])) (.inr (4, [.int (nI grp), .ref mk, .int (nI sh), .ref sc, .ref pt, .ref rk, .int (nI (if (cmpA gm nm gd nd (fun _ => 0) j).1 < 6 then (cmpA gm nm gd nd (fun _ => 0) j).1 + 1 else (cmpA gm nm gd nd (fun _ => 0) j).1))])), mset_comm _ (eI cy 6 ((cmpA gm nm gd nd (fun _ => 0) j).2.1)) (eI cy 5 (cmpS (cmpA gm nm gd nd (fun _ => 0) j).2.2.1 (cmpA gm nm gd nd (fun _ => 0) j).2.2.2)) ((Ne.symm n_sc_rk)), mset_mset _ rk (eI cy 6 ((cmpA gm nm gd nd (fun _ => 0) j).2.1)) (eI cy 6 (if (cmpA gm nm gd nd (fun _ => 0) j).1 < 6 then va_up (cmpA gm nm gd nd (fun _ => 0) j).2.1 (cmpA gm nm gd nd (fun _ => 0) j).1 (folA gm (gd j) nm).toNat else (cmpA gm nm gd nd (fun _ => 0) j).2.1))] at hP hD
            refine lv_aload_n hx hb dX3_compare_60 rfl (lv_at hl 3 rfl) ?_
            refine lv_iload hx hb dX3_compare_61 (lv_at hl 0 rfl) ?_
            refine vp_callSi (W.runV (C := RX4) (As := [.int (nI ((folA gm (gd j) nm).toNat))]) (rest := []) ⟨hx, hb, hml, hown, hts⟩ (c_X4_codeAt l D cy _ am qm nm gm (nI (folA gm (gd j) nm).toNat) ((folA gm (gd j) nm).toNat : Int) ((mset_ne (Ne.symm n_a_am)).trans ((mset_ne (Ne.symm n_rk_am)).trans ((mset_ne (Ne.symm n_sc_am)).trans (f_am)))) ((mset_ne (Ne.symm n_a_qm)).trans ((mset_ne (Ne.symm n_rk_qm)).trans ((mset_ne (Ne.symm n_sc_qm)).trans (f_qm)))) (by omega) (nI_toInt (by omega))) (cwV 1 hts gX3_compare_X4_codeAt rfl rfl rfl (by decide +kernel) ⟨Nat.le_of_ble_eq_true rfl, Nat.le_of_ble_eq_true rfl⟩) (mPreV hK hP ((mset_ne (Ne.symm n_a_am)).trans ((mset_ne (Ne.symm n_rk_am)).trans ((mset_ne (Ne.symm n_sc_am)).trans (f_am)))) (ci := 5) rfl) rfl rfl hl.1 rfl (lv_room (Nat.le_of_ble_eq_true rfl)) dX3_compare_63 ⟨Nat.le_of_ble_eq_true rfl, Nat.le_of_ble_eq_true rfl⟩) (fun r9 hr9 => ?_)
            have hr9 : r9 = (zI (if 0 ≤ ((folA gm (gd j) nm).toNat : Int) ∧ ((folA gm (gd j) nm).toNat : Int) < nm then (gm ((folA gm (gd j) nm).toNat : Int).toNat : Int) else -1)) := hr9
            subst hr9
            refine n_name (show (zI (if 0 ≤ ((folA gm (gd j) nm).toNat : Int) ∧ ((folA gm (gd j) nm).toNat : Int) < nm then (gm ((folA gm (gd j) nm).toNat : Int).toNat : Int) else -1)) = nI (gm (folA gm (gd j) nm).toNat) from (congrArg zI (if_pos (by omega))).trans (nI_zI _).symm) ?_
            refine lv_iload hx hb dX3_compare_66 (lv_at hl 1 rfl) ?_
            refine z_icmp_eq (u := ((gm (folA gm (gd j) nm).toNat : Nat) : Int)) (v := ((gd j : Nat) : Int)) (tgt := 81) hx hb (nI_toInt (by omega)) (nI_toInt (by omega)) dX3_compare_68 (by decide) (fun c_68 => ?_) (fun c_68 => ?_)
            · have ht9 : b2 (decide (gm (folA gm (gd j) nm).toNat ≠ gd j)) = 0 := (by rw [decide_eq_false (by omega)]; rfl)
              refine n_iinc (x := j) (k := 1) (lv' := [(3, .int (nI (j + 1))), (5, .int (nI ((folA gm (gd j) nm).toNat))), (4, .int (nI (gd j))), (0, .ref a), (1, .ref am), (2, .ref ad)]) hx hb dX3_compare_81 rfl hl (q := 5) rfl (by decide) rfl (fun ls hl => ?_)
              refine lv_goto (tgt := 2) hx hb dX3_compare_84 (by decide) ?_
              exact ih2  (j + 1) (by omega) (by omega) _ _ _ hP hD hS (by rw [cmpA_go hno9, ht9, mset_comm _ (eI cy 5 (cmpS (cmpA gm nm gd nd (fun _ => 0) j).2.2.1 (cmpA gm nm gd nd (fun _ => 0) j).2.2.2)) (eI cy 6 (if (cmpA gm nm gd nd (fun _ => 0) j).1 < 6 then va_up (cmpA gm nm gd nd (fun _ => 0) j).2.1 (cmpA gm nm gd nd (fun _ => 0) j).1 (folA gm (gd j) nm).toNat else (cmpA gm nm gd nd (fun _ => 0) j).2.1)) (n_sc_rk), mset_comm _ (eI cy 5 (cmpS (cmpA gm nm gd nd (fun _ => 0) j).2.2.1 (cmpA gm nm gd nd (fun _ => 0) j).2.2.2)) (.inr (4, [.int (nI grp), .ref mk, .int (nI sh), .ref sc, .ref pt, .ref rk, .int (nI (if (cmpA gm nm gd nd (fun _ => 0) j).1 < 6 then (cmpA gm nm gd nd (fun _ => 0) j).1 + 1 else (cmpA gm nm gd nd (fun _ => 0) j).1))])) ((Ne.symm n_a_sc))]; rfl) _ (lv_sub hl [3, 4, 5, 0] rfl)
            · have ht9 : b2 (decide (gm (folA gm (gd j) nm).toNat ≠ gd j)) = 1 := (by rw [decide_eq_true (by omega)]; rfl)
              refine lv_aload_n hx hb dX3_compare_71 rfl (lv_at hl 2 rfl) ?_
              refine m_get (T := TX3) (N := 7) (ci := 4) (fs := [.int (nI grp), .ref mk, .int (nI sh), .ref sc, .ref pt, .ref rk, .int (nI (if (cmpA gm nm gd nd (fun _ => 0) j).1 < 6 then (cmpA gm nm gd nd (fun _ => 0) j).1 + 1 else (cmpA gm nm gd nd (fun _ => 0) j).1))]) hx hb hwX3 hown hK hP (mset_self _ _ _) rfl 3 (by decide) (hts _ (List.mem_of_getElem? (i := 1) rfl)) (v := .ref sc) rfl dX3_compare_72 ?_
              refine lv_iconst (v := (nI 2)) hx hb dX3_compare_75 (by decide) ?_
              refine lv_dup2_11 hx hb dX3_compare_76 rfl rfl ?_
              refine n_iald (g := (cmpS (cmpA gm nm gd nd (fun _ => 0) j).2.2.1 (cmpA gm nm gd nd (fun _ => 0) j).2.2.2)) (n := 5) (i := 2) hx hb hK hP ((mset_ne (Ne.symm n_a_sc)).trans ((mset_ne n_sc_rk).trans (mset_self _ _ _))) (by omega) (by omega) dX3_compare_77 ?_
              refine lv_iconst (v := (nI 1)) hx hb dX3_compare_78 (by decide) ?_
              refine n_add (x := (cmpS (cmpA gm nm gd nd (fun _ => 0) j).2.2.1 (cmpA gm nm gd nd (fun _ => 0) j).2.2.2) 2) (y := 1) hx hb dX3_compare_79 ?_
              refine n_iast (g := (cmpS (cmpA gm nm gd nd (fun _ => 0) j).2.2.1 (cmpA gm nm gd nd (fun _ => 0) j).2.2.2)) (n := 5) (i := 2) (v := ((cmpS (cmpA gm nm gd nd (fun _ => 0) j).2.2.1 (cmpA gm nm gd nd (fun _ => 0) j).2.2.2) 2) + 1) hx hb hK hP hD hS ((mset_ne (Ne.symm n_a_sc)).trans ((mset_ne n_sc_rk).trans (mset_self _ _ _))) (by omega) (by omega) dX3_compare_80 (fun H locs hP hD hS => ?_)
              have hP : pm D (mset (mset (mset (mset M sc (eI cy 5 (cmpS (cmpA gm nm gd nd (fun _ => 0) j).2.2.1 (cmpA gm nm gd nd (fun _ => 0) j).2.2.2))) rk (eI cy 6 (if (cmpA gm nm gd nd (fun _ => 0) j).1 < 6 then va_up (cmpA gm nm gd nd (fun _ => 0) j).2.1 (cmpA gm nm gd nd (fun _ => 0) j).1 (folA gm (gd j) nm).toNat else (cmpA gm nm gd nd (fun _ => 0) j).2.1))) a (.inr (4, [.int (nI grp), .ref mk, .int (nI sh), .ref sc, .ref pt, .ref rk, .int (nI (if (cmpA gm nm gd nd (fun _ => 0) j).1 < 6 then (cmpA gm nm gd nd (fun _ => 0) j).1 + 1 else (cmpA gm nm gd nd (fun _ => 0) j).1))]))) sc (eI cy 5 (va_up (cmpS (cmpA gm nm gd nd (fun _ => 0) j).2.2.1 (cmpA gm nm gd nd (fun _ => 0) j).2.2.2) 2 (((cmpS (cmpA gm nm gd nd (fun _ => 0) j).2.2.1 (cmpA gm nm gd nd (fun _ => 0) j).2.2.2) 2) + 1)))) H := hP
              have hD : mD (mA M sz) (mset (mset (mset (mset M sc (eI cy 5 (cmpS (cmpA gm nm gd nd (fun _ => 0) j).2.2.1 (cmpA gm nm gd nd (fun _ => 0) j).2.2.2))) rk (eI cy 6 (if (cmpA gm nm gd nd (fun _ => 0) j).1 < 6 then va_up (cmpA gm nm gd nd (fun _ => 0) j).2.1 (cmpA gm nm gd nd (fun _ => 0) j).1 (folA gm (gd j) nm).toNat else (cmpA gm nm gd nd (fun _ => 0) j).2.1))) a (.inr (4, [.int (nI grp), .ref mk, .int (nI sh), .ref sc, .ref pt, .ref rk, .int (nI (if (cmpA gm nm gd nd (fun _ => 0) j).1 < 6 then (cmpA gm nm gd nd (fun _ => 0) j).1 + 1 else (cmpA gm nm gd nd (fun _ => 0) j).1))]))) sc (eI cy 5 (va_up (cmpS (cmpA gm nm gd nd (fun _ => 0) j).2.2.1 (cmpA gm nm gd nd (fun _ => 0) j).2.2.2) 2 (((cmpS (cmpA gm nm gd nd (fun _ => 0) j).2.2.1 (cmpA gm nm gd nd (fun _ => 0) j).2.2.2) 2) + 1)))) := hD
              rw [mset_comm _ (eI cy 5 (cmpS (cmpA gm nm gd nd (fun _ => 0) j).2.2.1 (cmpA gm nm gd nd (fun _ => 0) j).2.2.2)) (eI cy 6 (if (cmpA gm nm gd nd (fun _ => 0) j).1 < 6 then va_up (cmpA gm nm gd nd (fun _ => 0) j).2.1 (cmpA gm nm gd nd (fun _ => 0) j).1 (folA gm (gd j) nm).toNat else (cmpA gm nm gd nd (fun _ => 0) j).2.1)) (n_sc_rk), mset_comm _ (eI cy 5 (cmpS (cmpA gm nm gd nd (fun _ => 0) j).2.2.1 (cmpA gm nm gd nd (fun _ => 0) j).2.2.2)) (.inr (4, [.int (nI grp), .ref mk, .int (nI sh), .ref sc, .ref pt, .ref rk, .int (nI (if (cmpA gm nm gd nd (fun _ => 0) j).1 < 6 then (cmpA gm nm gd nd (fun _ => 0) j).1 + 1 else (cmpA gm nm gd nd (fun _ => 0) j).1))])) ((Ne.symm n_a_sc)), mset_mset _ sc (eI cy 5 (cmpS (cmpA gm nm gd nd (fun _ => 0) j).2.2.1 (cmpA gm nm gd nd (fun _ => 0) j).2.2.2)) (eI cy 5 (va_up (cmpS (cmpA gm nm gd nd (fun _ => 0) j).2.2.1 (cmpA gm nm gd nd (fun _ => 0) j).2.2.2) 2 (((cmpS (cmpA gm nm gd nd (fun _ => 0) j).2.2.1 (cmpA gm nm gd nd (fun _ => 0) j).2.2.2) 2) + 1)))] at hP hD
              refine n_iinc (x := j) (k := 1) (lv' := [(3, .int (nI (j + 1))), (5, .int (nI ((folA gm (gd j) nm).toNat))), (4, .int (nI (gd j))), (0, .ref a), (1, .ref am), (2, .ref ad)]) hx hb dX3_compare_81 rfl hl (q := 5) rfl (by decide) rfl (fun ls hl => ?_)
              refine lv_goto (tgt := 2) hx hb dX3_compare_84 (by decide) ?_
              exact ih2  (j + 1) (by omega) (by omega) _ _ _ hP hD hS (by rw [cmpA_go hno9, ht9, cmpS_2]; rfl) _ (lv_sub hl [3, 4, 5, 0] rfl)
          · refine lv_aload_n hx hb dX3_compare_41 rfl (lv_at hl 2 rfl) ?_
            refine m_get (T := TX3) (N := 7) (ci := 4) (fs := [.int (nI grp), .ref mk, .int (nI sh), .ref sc, .ref pt, .ref rk, .int (nI ((cmpA gm nm gd nd (fun _ => 0) j).1))]) hx hb hwX3 hown hK hP ((mset_ne n_a_sc).trans (mset_self _ _ _)) rfl 3 (by decide) (hts _ (List.mem_of_getElem? (i := 1) rfl)) (v := .ref sc) rfl dX3_compare_42 ?_
            refine lv_iconst (v := (nI 1)) hx hb dX3_compare_45 (by decide) ?_
            refine lv_dup2_11 hx hb dX3_compare_46 rfl rfl ?_
            refine n_iald (g := (cmpS (cmpA gm nm gd nd (fun _ => 0) j).2.2.1 (cmpA gm nm gd nd (fun _ => 0) j).2.2.2)) (n := 5) (i := 1) hx hb hK hP (mset_self _ _ _) (by omega) (by omega) dX3_compare_47 ?_
            refine n_name (show (nI ((cmpS (cmpA gm nm gd nd (fun _ => 0) j).2.2.1 (cmpA gm nm gd nd (fun _ => 0) j).2.2.2) 1)) = (nI ((cmpA gm nm gd nd (fun _ => 0) j).2.2.1)) from rfl) ?_
            refine lv_iconst (v := (nI 1)) hx hb dX3_compare_48 (by decide) ?_
            refine n_add (x := (cmpA gm nm gd nd (fun _ => 0) j).2.2.1) (y := 1) hx hb dX3_compare_49 ?_
            refine n_iast (g := (cmpS (cmpA gm nm gd nd (fun _ => 0) j).2.2.1 (cmpA gm nm gd nd (fun _ => 0) j).2.2.2)) (n := 5) (i := 1) (v := ((cmpA gm nm gd nd (fun _ => 0) j).2.2.1) + 1) hx hb hK hP hD hS (mset_self _ _ _) (by omega) (by omega) dX3_compare_50 (fun H locs hP hD hS => ?_)
            have hP : pm D (mset (mset (mset (mset M rk (eI cy 6 ((cmpA gm nm gd nd (fun _ => 0) j).2.1))) a (.inr (4, [.int (nI grp), .ref mk, .int (nI sh), .ref sc, .ref pt, .ref rk, .int (nI ((cmpA gm nm gd nd (fun _ => 0) j).1))]))) sc (eI cy 5 (cmpS (cmpA gm nm gd nd (fun _ => 0) j).2.2.1 (cmpA gm nm gd nd (fun _ => 0) j).2.2.2))) sc (eI cy 5 (va_up (cmpS (cmpA gm nm gd nd (fun _ => 0) j).2.2.1 (cmpA gm nm gd nd (fun _ => 0) j).2.2.2) 1 (((cmpA gm nm gd nd (fun _ => 0) j).2.2.1) + 1)))) H := hP
            have hD : mD (mA M sz) (mset (mset (mset (mset M rk (eI cy 6 ((cmpA gm nm gd nd (fun _ => 0) j).2.1))) a (.inr (4, [.int (nI grp), .ref mk, .int (nI sh), .ref sc, .ref pt, .ref rk, .int (nI ((cmpA gm nm gd nd (fun _ => 0) j).1))]))) sc (eI cy 5 (cmpS (cmpA gm nm gd nd (fun _ => 0) j).2.2.1 (cmpA gm nm gd nd (fun _ => 0) j).2.2.2))) sc (eI cy 5 (va_up (cmpS (cmpA gm nm gd nd (fun _ => 0) j).2.2.1 (cmpA gm nm gd nd (fun _ => 0) j).2.2.2) 1 (((cmpA gm nm gd nd (fun _ => 0) j).2.2.1) + 1)))) := hD
            rw [mset_mset _ sc (eI cy 5 (cmpS (cmpA gm nm gd nd (fun _ => 0) j).2.2.1 (cmpA gm nm gd nd (fun _ => 0) j).2.2.2)) (eI cy 5 (va_up (cmpS (cmpA gm nm gd nd (fun _ => 0) j).2.2.1 (cmpA gm nm gd nd (fun _ => 0) j).2.2.2) 1 (((cmpA gm nm gd nd (fun _ => 0) j).2.2.1) + 1)))] at hP hD
            refine lv_goto (tgt := 81) hx hb dX3_compare_51 (by decide) ?_
            refine n_iinc (x := j) (k := 1) (lv' := [(3, .int (nI (j + 1))), (5, .int (zI (folA gm (gd j) nm))), (4, .int (nI (gd j))), (0, .ref a), (1, .ref am), (2, .ref ad)]) hx hb dX3_compare_81 rfl hl (q := 5) rfl (by decide) rfl (fun ls hl => ?_)
            refine lv_goto (tgt := 2) hx hb dX3_compare_84 (by decide) ?_
            exact ih2  (j + 1) (by omega) (by omega) _ _ _ hP hD hS (by rw [cmpA_extra (by omega), cmpS_1]) _ (lv_sub hl [3, 4, 5, 0] rfl)
  exact K2 (9 - 0 + 1) 0 (Nat.lt_succ_self _) (Nat.zero_le _) _ _ _ hP hD hS ((show M = mset (mset (mset M rk (eI cy 6 (fun _ => 0))) a (.inr (4, [.int (nI grp), .ref mk, .int (nI sh), .ref sc, .ref pt, .ref rk, .int (nI 0)]))) sc (eI cy 5 (cmpS 0 0)) by rw [cmpS_0, mset_id f_rk, mset_id f_a, mset_id f_sc])) _ (lv_sub hl [1, 2, 3, 0] rfl)

set_option maxRecDepth 100000 in
set_option maxHeartbeats 4000000 in
theorem c_X3_worthNow (l : Launch) (D : va_G) (cy : Nat → ClassId) (M : mM) (a mk sc pt rk grp sh rc : Nat) (gs gp gr : Nat → Nat) (qe qv n : Nat) (x v : Nat → Nat)  (f_a : M a = some (.inr (4, [.int (nI grp), .ref mk, .int (nI sh), .ref sc, .ref pt, .ref rk, .int (nI rc)]))) (f_sc : M sc = some (eI cy 5 gs)) (f_pt : M pt = some (eI cy 4 gp)) (f_rk : M rk = some (eI cy 6 gr)) (f_mk : M mk = some (.inr (1, [.ref qe, .ref qv, .int (nI n)]))) (f_qe : M qe = some (eI cy 3 x)) (f_qv : M qv = some (eI cy 3 v)) (hn : n ≤ 3) (hv : ∀ j, v j ≤ 20) (hp9 : ∀ j, gp j ≤ 5) (hs9 : ∀ j, gs j ≤ 8) (hsh : sh ≤ 1) : mR l yX3_worthNow wsX3_worthNow ({ frames := 3, cells := 0, slots := 0, locals := 56 } : Room) D cy M [.ref a] (fun r => r = zI (worthC v n sh gp gs)) := by
  refine mR.of (cc := cX3_worthNow) (maxL := 2) (ret := (some .int)) (by decide) rfl (Nat.le_of_ble_eq_true rfl) ?_
  intro p e s m args below meth c ls hx hb hr hts hown hlocks hml hP hK hl
  have hl : lv_has ls 2 [(0, .ref a)] := hl
  have hown : s.vm.findClass RX3 = some m.cls := hown
  have hwX3 : ∀ w ∈ wsX30, w.before args s = true := fun w h => hts w (List.mem_cons_of_mem _ (List.mem_append_left _ (List.mem_append_right _ (h))))
  have hwX0 : ∀ w ∈ wsX00, w.before args s = true := fun w h => hts w (List.mem_cons_of_mem _ (List.mem_append_right _ (h)))
  have hgb := gradeC_bd (n := n) hv
  have hsa := sumA_le hp9 4
  have hsb := sumA_le hs9 5
  refine lv_aload_n hx hb dX3_worthNow_0 rfl (lv_at hl 0 rfl) ?_
  refine m_get (T := TX3) (N := 7) (ci := 4) (fs := [.int (nI grp), .ref mk, .int (nI sh), .ref sc, .ref pt, .ref rk, .int (nI rc)]) hx hb hwX3 hown hK hP f_a rfl 1 (by decide) (hts _ (List.mem_of_getElem? (i := 1) rfl)) (v := .ref mk) rfl dX3_worthNow_1 ?_
  refine vp_callSi (W.runV (C := RX0) (As := []) (rest := []) ⟨hx, hb, hml, hown, hts⟩ (c_X0_result l D cy M mk qe qv n x v f_mk f_qe f_qv hn hv) (cwV 0 hts gX3_worthNow_X0_result rfl rfl rfl (by decide +kernel) ⟨Nat.le_of_ble_eq_true rfl, Nat.le_of_ble_eq_true rfl⟩) (mPreV hK hP f_mk (ci := 1) rfl) rfl rfl hl.1 rfl (lv_room (Nat.le_of_ble_eq_true rfl)) dX3_worthNow_4 ⟨Nat.le_of_ble_eq_true rfl, Nat.le_of_ble_eq_true rfl⟩) (fun r9 hr9 => ?_)
  have hr9 : r9 = (zI (gradeC v n)) := hr9
  subst hr9
  refine lv_istore_n (lv' := [(1, .int (zI (gradeC v n))), (0, .ref a)]) hx hb dX3_worthNow_7 rfl hl (by decide) rfl (fun ls hl => ?_)
  refine lv_aload_n hx hb dX3_worthNow_8 rfl (lv_at hl 1 rfl) ?_
  refine m_get (T := TX3) (N := 7) (ci := 4) (fs := [.int (nI grp), .ref mk, .int (nI sh), .ref sc, .ref pt, .ref rk, .int (nI rc)]) hx hb hwX3 hown hK hP f_a rfl 2 (by decide) (hts _ (List.mem_of_getElem? (i := 2) rfl)) (v := .int (nI sh)) rfl dX3_worthNow_9 ?_
  refine z_if_eq (u := ((sh : Nat) : Int)) (tgt := 20) hx hb (nI_toInt (by omega)) dX3_worthNow_12 (by decide) (fun c_12 => ?_) (fun c_12 => ?_)
  · refine lv_sipush (v := (zI (-9999))) hx hb dX3_worthNow_20 (by decide) ?_
    exact e_ri hx hb hr hlocks ((by unfold worthC; first | (rw [if_pos (by omega)]) | (rw [if_neg (by omega)]; congr 1))) dX3_worthNow_23
  · refine lv_iload_n hx hb dX3_worthNow_15 rfl (lv_at hl 0 rfl) ?_
    refine lv_iconst (v := (zI (-1))) hx hb dX3_worthNow_16 (by decide) ?_
    refine z_icmp_ne (u := (gradeC v n)) (v := (-1)) (tgt := 24) hx hb (zI_toInt (by omega) (by omega)) (zI_toInt (by omega) (by omega)) dX3_worthNow_17 (by decide) (fun c_17 => ?_) (fun c_17 => ?_)
    · refine lv_iconst (v := (nI 3)) hx hb dX3_worthNow_24 (by decide) ?_
      refine lv_iload_n hx hb dX3_worthNow_25 rfl (lv_at hl 0 rfl) ?_
      refine z_mul (u := ((3 : Nat) : Int)) (v := (gradeC v n)) hx hb (nI_zI _) (rfl) dX3_worthNow_26 ?_
      refine lv_iconst (v := (nI 2)) hx hb dX3_worthNow_27 (by decide) ?_
      refine lv_aload_n hx hb dX3_worthNow_28 rfl (lv_at hl 1 rfl) ?_
      refine vp_callSi (W.runV (C := RX3) (As := []) (rest := [.int (nI 2), .int (zI (((3 : Nat) : Int) * (gradeC v n)))]) ⟨hx, hb, hml, hown, hts⟩ (c_X3_allPoints l D cy M a mk sc pt rk grp sh rc gs gp gr f_a f_sc f_pt f_rk hp9) (cwV 0 hts gX3_worthNow_X3_allPoints rfl rfl rfl (by decide +kernel) ⟨Nat.le_of_ble_eq_true rfl, Nat.le_of_ble_eq_true rfl⟩) (mPreV hK hP f_a (ci := 4) rfl) rfl rfl hl.1 rfl (lv_room (Nat.le_of_ble_eq_true rfl)) dX3_worthNow_29 ⟨Nat.le_of_ble_eq_true rfl, Nat.le_of_ble_eq_true rfl⟩) (fun r9 hr9 => ?_)
      have hr9 : r9 = (nI (sumA gp 4)) := hr9
      subst hr9
      refine n_mul (x := 2) (y := sumA gp 4) hx hb dX3_worthNow_32 ?_
      refine z_add (u := (((3 : Nat) : Int) * (gradeC v n))) (v := ((2 * (sumA gp 4) : Nat) : Int)) hx hb (rfl) (nI_zI _) dX3_worthNow_33 ?_
      refine lv_aload_n hx hb dX3_worthNow_34 rfl (lv_at hl 1 rfl) ?_
      refine vp_callSi (W.runV (C := RX3) (As := []) (rest := [.int (zI ((((3 : Nat) : Int) * (gradeC v n)) + ((2 * (sumA gp 4) : Nat) : Int)))]) ⟨hx, hb, hml, hown, hts⟩ (c_X3_allSlips l D cy M a mk sc pt rk grp sh rc gs gp gr f_a f_sc f_pt f_rk hs9) (cwV 0 hts gX3_worthNow_X3_allSlips rfl rfl rfl (by decide +kernel) ⟨Nat.le_of_ble_eq_true rfl, Nat.le_of_ble_eq_true rfl⟩) (mPreV hK hP f_a (ci := 4) rfl) rfl rfl hl.1 rfl (lv_room (Nat.le_of_ble_eq_true rfl)) dX3_worthNow_35 ⟨Nat.le_of_ble_eq_true rfl, Nat.le_of_ble_eq_true rfl⟩) (fun r9 hr9 => ?_)
      have hr9 : r9 = (nI (sumA gs 5)) := hr9
      subst hr9
      refine z_sub (u := ((((3 : Nat) : Int) * (gradeC v n)) + ((2 * (sumA gp 4) : Nat) : Int))) (v := ((sumA gs 5 : Nat) : Int)) hx hb (rfl) (nI_zI _) dX3_worthNow_38 ?_
      exact e_ri hx hb hr hlocks ((by unfold worthC; first | (rw [if_pos (by omega)]) | (rw [if_neg (by omega)]; congr 1))) dX3_worthNow_39
    · refine lv_sipush (v := (zI (-9999))) hx hb dX3_worthNow_20 (by decide) ?_
      exact e_ri hx hb hr hlocks ((by unfold worthC; first | (rw [if_pos (by omega)]) | (rw [if_neg (by omega)]; congr 1))) dX3_worthNow_23

set_option maxRecDepth 100000 in
set_option maxHeartbeats 4000000 in
theorem c_X3_init (l : Launch) (D : va_G) (cy : Nat → ClassId) (M : mM) (sz : Nat) (a grp : Nat)  (f_a : M a = some (.inr (4, [.int (nI 0), .null, .int (nI 0), .null, .null, .null, .int (nI 0)])))  : mWv l yX3_init wsX3_init ({ frames := 2, cells := 6, slots := 24, locals := 32 } : Room) D cy M sz [.ref a, .int (nI grp)] (fun M' => ∃ mk q1 q2 sc pt rk, M mk = none ∧ M q1 = none ∧ M q2 = none ∧ M sc = none ∧ M pt = none ∧ M rk = none ∧ [a, mk, q1, q2, sc, pt, rk].Nodup ∧ M' = mset (mset (mset (mset (mset (mset (mset M q1 (eI cy 3 (fun _ => 0))) q2 (eI cy 3 (fun _ => 0))) mk (.inr (1, [.ref q1, .ref q2, .int (nI 0)]))) sc (eI cy 5 (fun _ => 0))) pt (eI cy 4 (fun _ => 0))) rk (eI cy 6 (fun _ => 0))) a (.inr (4, [.int (nI grp), .ref mk, .int (nI 0), .ref sc, .ref pt, .ref rk, .int (nI 0)]))) 6 24 := by
  refine mW.of (cc := cX3_init) (maxL := 2) (ret := none) (by decide) rfl (Nat.le_of_ble_eq_true rfl) ?_
  intro p e s m args below meth c ls hsz hx hb hr hts hown hlocks hml hname hP hD hS hA hK hl
  have hl : lv_has ls 2 [(0, .ref a), (1, .int (nI grp))] := hl
  have hown : s.vm.findClass RX3 = some m.cls := hown
  have hwX3 : ∀ w ∈ wsX30, w.before args s = true := fun w h => hts w (List.mem_cons_of_mem _ (List.mem_append_left _ (List.mem_append_right _ (h))))
  have hwX0 : ∀ w ∈ wsX00, w.before args s = true := fun w h => hts w (List.mem_cons_of_mem _ (List.mem_append_right _ (h)))
  refine lv_aload_n hx hb dX3_init_0 rfl (lv_at hl 0 rfl) ?_
  refine W.objInit hx hb hown (hts _ (List.mem_of_getElem? (i := 1) rfl)) (hts _ (List.mem_of_getElem? (i := 2) rfl)) (hts _ (List.mem_of_getElem? (i := 3) rfl)) rfl (by rw [hml]; exact hl.1) rfl dX3_init_1 (Nat.le_of_ble_eq_true rfl) (Nat.le_of_ble_eq_true rfl) ?_
  refine W.eq (g2 := F0 m 4 ls []) rfl ?_
  refine lv_aload_n hx hb dX3_init_4 rfl (lv_at hl 0 rfl) ?_
  refine lv_iload_n hx hb dX3_init_5 rfl (lv_at hl 1 rfl) ?_
  refine m_putF (T := TX3) (N := 7) (ci := 4) (fs := [.int (nI 0), .null, .int (nI 0), .null, .null, .null, .int (nI 0)]) (v := .int (nI grp)) hx hb hwX3 tyX3 tyX3_ok nmX3 hown hK hP hD hS f_a rfl 0 (by decide) (hts _ (List.mem_of_getElem? (i := 4) rfl)) rfl hname rfl (rfl) rfl (Nat.le_of_ble_eq_true rfl) dX3_init_6 (fun H locs hP hD hS => ?_)
  have hP : pm D (mset M a (.inr (4, [.int (nI grp), .null, .int (nI 0), .null, .null, .null, .int (nI 0)]))) H := hP
  have hD : mD (mA M sz) (mset M a (.inr (4, [.int (nI grp), .null, .int (nI 0), .null, .null, .null, .int (nI 0)]))) := hD
  refine lv_aload_n hx hb dX3_init_9 rfl (lv_at hl 0 rfl) ?_
  refine m_new (T := TX0) (N := 3) (ci := 1) (fs := [.null, .null, .int (nI 0)]) hx hb hwX0 tyX0 tyX0_ok hown (hts _ (List.mem_of_getElem? (i := 5) rfl)) (hts _ (List.mem_of_getElem? (i := 6) rfl)) (hts _ (List.mem_of_getElem? (i := 7) rfl)) hK hP hD hS hA rfl (fun j hj => by rcases (show j = 0 ∨ j = 1 ∨ j = 2 by omega) with rfl | rfl | rfl <;> rfl) (Nat.le_of_ble_eq_true rfl) (Nat.le_of_ble_eq_true rfl) dX3_init_10 (fun q_1 H hn_q_1 hq_q_1 hz_q_1 hP hD hS => ?_)
  have n_a_q_1 : a ≠ q_1 := ne_none (mset_self _ _ _) hn_q_1
  have hP : pm D (mset (mset M a (.inr (4, [.int (nI grp), .null, .int (nI 0), .null, .null, .null, .int (nI 0)]))) q_1 (.inr (1, [.null, .null, .int (nI 0)]))) H := hP
  have hD : mD (mA M sz) (mset (mset M a (.inr (4, [.int (nI grp), .null, .int (nI 0), .null, .null, .null, .int (nI 0)]))) q_1 (.inr (1, [.null, .null, .int (nI 0)]))) := hD
  refine lv_dup hx hb dX3_init_13 rfl ?_
  refine m_callv (va_runI (As := []) (rest := [.ref q_1, .ref a]) ⟨hx, hb, hml, hown, hts⟩ (c_X0_init l D cy _ _ q_1 (mset_self _ _ _)) (cwI 0 hts gX3_init_X0_init rfl rfl rfl (hts _ (List.mem_of_getElem? (i := 7) rfl)) (hts _ (List.mem_of_getElem? (i := 15) rfl)) (hts _ (List.mem_of_getElem? (i := 16) rfl)) rfl (by decide +kernel) ⟨Nat.le_of_ble_eq_true rfl, Nat.le_of_ble_eq_true rfl⟩) (mPreWS hK hP) rfl rfl hl.1 rfl (lv_room (Nat.le_of_ble_eq_true rfl)) dX3_init_14 ⟨Nat.le_of_ble_eq_true rfl, Nat.le_of_ble_eq_true rfl⟩) hD hA hS (fun Mn H locs hq9 hP hD hS hz9 hd9 hk9 => ?_)
  obtain ⟨q_8, q_9, hn_q_8, hn_q_9, n_q_8_q_9, hq9⟩ := hq9
  have n_a_q_8 : a ≠ q_8 := ne_none ((mset_ne n_a_q_1).trans (mset_self _ _ _)) hn_q_8
  have n_q_1_q_8 : q_1 ≠ q_8 := ne_none (mset_self _ _ _) hn_q_8
  have n_a_q_9 : a ≠ q_9 := ne_none ((mset_ne n_a_q_1).trans (mset_self _ _ _)) hn_q_9
  have n_q_1_q_9 : q_1 ≠ q_9 := ne_none (mset_self _ _ _) hn_q_9
  have hq9 : Mn = (mset (mset (mset (mset (mset M a (.inr (4, [.int (nI grp), .null, .int (nI 0), .null, .null, .null, .int (nI 0)]))) q_1 (.inr (1, [.null, .null, .int (nI 0)]))) q_8 (eI cy 3 (fun _ => 0))) q_9 (eI cy 3 (fun _ => 0))) q_1 (.inr (1, [.ref q_8, .ref q_9, .int (nI 0)]))) := hq9
  subst hq9
  rw [mset_comm _ (.inr (1, [.null, .null, .int (nI 0)])) (eI cy 3 (fun _ => 0)) (n_q_1_q_8), mset_comm _ (.inr (1, [.null, .null, .int (nI 0)])) (eI cy 3 (fun _ => 0)) (n_q_1_q_9), mset_mset _ q_1 (.inr (1, [.null, .null, .int (nI 0)])) (.inr (1, [.ref q_8, .ref q_9, .int (nI 0)]))] at hP hD
  refine m_putF (T := TX3) (N := 7) (ci := 4) (fs := [.int (nI grp), .null, .int (nI 0), .null, .null, .null, .int (nI 0)]) (v := .ref q_1) hx hb hwX3 tyX3 tyX3_ok nmX3 hown hK hP hD hS ((mset_ne n_a_q_1).trans ((mset_ne n_a_q_9).trans ((mset_ne n_a_q_8).trans (mset_self _ _ _)))) rfl 1 (by decide) (hts _ (List.mem_of_getElem? (i := 8) rfl)) rfl hname rfl (rfl) rfl (Nat.le_of_ble_eq_true rfl) dX3_init_17 (fun H locs hP hD hS => ?_)
  have hP : pm D (mset (mset (mset (mset (mset M a (.inr (4, [.int (nI grp), .null, .int (nI 0), .null, .null, .null, .int (nI 0)]))) q_8 (eI cy 3 (fun _ => 0))) q_9 (eI cy 3 (fun _ => 0))) q_1 (.inr (1, [.ref q_8, .ref q_9, .int (nI 0)]))) a (.inr (4, [.int (nI grp), .ref q_1, .int (nI 0), .null, .null, .null, .int (nI 0)]))) H := hP
  have hD : mD (mA M sz) (mset (mset (mset (mset (mset M a (.inr (4, [.int (nI grp), .null, .int (nI 0), .null, .null, .null, .int (nI 0)]))) q_8 (eI cy 3 (fun _ => 0))) q_9 (eI cy 3 (fun _ => 0))) q_1 (.inr (1, [.ref q_8, .ref q_9, .int (nI 0)]))) a (.inr (4, [.int (nI grp), .ref q_1, .int (nI 0), .null, .null, .null, .int (nI 0)]))) := hD
  rw [mset_comm _ (.inr (4, [.int (nI grp), .null, .int (nI 0), .null, .null, .null, .int (nI 0)])) (eI cy 3 (fun _ => 0)) (n_a_q_8), mset_comm _ (.inr (4, [.int (nI grp), .null, .int (nI 0), .null, .null, .null, .int (nI 0)])) (eI cy 3 (fun _ => 0)) (n_a_q_9), mset_comm _ (.inr (4, [.int (nI grp), .null, .int (nI 0), .null, .null, .null, .int (nI 0)])) (.inr (1, [.ref q_8, .ref q_9, .int (nI 0)])) (n_a_q_1), mset_mset _ a (.inr (4, [.int (nI grp), .null, .int (nI 0), .null, .null, .null, .int (nI 0)])) (.inr (4, [.int (nI grp), .ref q_1, .int (nI 0), .null, .null, .null, .int (nI 0)]))] at hP hD
  refine lv_aload_n hx hb dX3_init_20 rfl (lv_at hl 0 rfl) ?_
  refine lv_iconst (v := (nI 0)) hx hb dX3_init_21 (by decide) ?_
  refine m_put (T := TX3) (N := 7) (ci := 4) (fs := [.int (nI grp), .ref q_1, .int (nI 0), .null, .null, .null, .int (nI 0)]) (v := .int (nI 0)) hx hb hwX3 tyX3 tyX3_ok nmX3 hown hK hP hD hS (mset_self _ _ _) rfl 2 (by decide) (hts _ (List.mem_of_getElem? (i := 9) rfl)) rfl (nar_bool (by omega)) (fit_bool (by omega)) (Nat.le_of_ble_eq_true rfl) dX3_init_22 (fun H locs hP hD hS => ?_)
  have hP : pm D (mset (mset (mset (mset (mset M q_8 (eI cy 3 (fun _ => 0))) q_9 (eI cy 3 (fun _ => 0))) q_1 (.inr (1, [.ref q_8, .ref q_9, .int (nI 0)]))) a (.inr (4, [.int (nI grp), .ref q_1, .int (nI 0), .null, .null, .null, .int (nI 0)]))) a (.inr (4, [.int (nI grp), .ref q_1, .int (nI 0), .null, .null, .null, .int (nI 0)]))) H := hP
  have hD : mD (mA M sz) (mset (mset (mset (mset (mset M q_8 (eI cy 3 (fun _ => 0))) q_9 (eI cy 3 (fun _ => 0))) q_1 (.inr (1, [.ref q_8, .ref q_9, .int (nI 0)]))) a (.inr (4, [.int (nI grp), .ref q_1, .int (nI 0), .null, .null, .null, .int (nI 0)]))) a (.inr (4, [.int (nI grp), .ref q_1, .int (nI 0), .null, .null, .null, .int (nI 0)]))) := hD
  rw [mset_mset _ a (.inr (4, [.int (nI grp), .ref q_1, .int (nI 0), .null, .null, .null, .int (nI 0)])) (.inr (4, [.int (nI grp), .ref q_1, .int (nI 0), .null, .null, .null, .int (nI 0)]))] at hP hD
  refine lv_aload_n hx hb dX3_init_25 rfl (lv_at hl 0 rfl) ?_
  refine lv_iconst (v := (nI 5)) hx hb dX3_init_26 (by decide) ?_
  refine n_newa (atype := .int) (n := 5) (x := (5, .inl (fun _ => nI 0))) hx hb (hts _ (List.mem_of_getElem? (i := 10) rfl)) hK hP hD hS hA 0 rfl (fun h9 => h9) rfl (by decide) (by decide) (Nat.le_of_ble_eq_true rfl) (Nat.le_of_ble_eq_true rfl) dX3_init_27 (fun q_2 H hn_q_2 hq_q_2 hz_q_2 hP hD hS => ?_)
  have n_a_q_2 : a ≠ q_2 := ne_none (mset_self _ _ _) hn_q_2
  have n_q_1_q_2 : q_1 ≠ q_2 := ne_none ((mset_ne (Ne.symm n_a_q_1)).trans (mset_self _ _ _)) hn_q_2
  have n_q_8_q_2 : q_8 ≠ q_2 := ne_none ((mset_ne (Ne.symm n_a_q_8)).trans ((mset_ne (Ne.symm n_q_1_q_8)).trans ((mset_ne n_q_8_q_9).trans (mset_self _ _ _)))) hn_q_2
  have n_q_9_q_2 : q_9 ≠ q_2 := ne_none ((mset_ne (Ne.symm n_a_q_9)).trans ((mset_ne (Ne.symm n_q_1_q_9)).trans (mset_self _ _ _))) hn_q_2
  have hP : pm D (mset (mset (mset (mset (mset M q_8 (eI cy 3 (fun _ => 0))) q_9 (eI cy 3 (fun _ => 0))) q_1 (.inr (1, [.ref q_8, .ref q_9, .int (nI 0)]))) a (.inr (4, [.int (nI grp), .ref q_1, .int (nI 0), .null, .null, .null, .int (nI 0)]))) q_2 (eI cy 5 (fun _ => 0))) H := hP
  have hD : mD (mA M sz) (mset (mset (mset (mset (mset M q_8 (eI cy 3 (fun _ => 0))) q_9 (eI cy 3 (fun _ => 0))) q_1 (.inr (1, [.ref q_8, .ref q_9, .int (nI 0)]))) a (.inr (4, [.int (nI grp), .ref q_1, .int (nI 0), .null, .null, .null, .int (nI 0)]))) q_2 (eI cy 5 (fun _ => 0))) := hD
  refine m_putF (T := TX3) (N := 7) (ci := 4) (fs := [.int (nI grp), .ref q_1, .int (nI 0), .null, .null, .null, .int (nI 0)]) (v := .ref q_2) hx hb hwX3 tyX3 tyX3_ok nmX3 hown hK hP hD hS ((mset_ne n_a_q_2).trans (mset_self _ _ _)) rfl 3 (by decide) (hts _ (List.mem_of_getElem? (i := 11) rfl)) rfl hname rfl (rfl) rfl (Nat.le_of_ble_eq_true rfl) dX3_init_29 (fun H locs hP hD hS => ?_)
  have hP : pm D (mset (mset (mset (mset (mset (mset M q_8 (eI cy 3 (fun _ => 0))) q_9 (eI cy 3 (fun _ => 0))) q_1 (.inr (1, [.ref q_8, .ref q_9, .int (nI 0)]))) a (.inr (4, [.int (nI grp), .ref q_1, .int (nI 0), .null, .null, .null, .int (nI 0)]))) q_2 (eI cy 5 (fun _ => 0))) a (.inr (4, [.int (nI grp), .ref q_1, .int (nI 0), .ref q_2, .null, .null, .int (nI 0)]))) H := hP
  have hD : mD (mA M sz) (mset (mset (mset (mset (mset (mset M q_8 (eI cy 3 (fun _ => 0))) q_9 (eI cy 3 (fun _ => 0))) q_1 (.inr (1, [.ref q_8, .ref q_9, .int (nI 0)]))) a (.inr (4, [.int (nI grp), .ref q_1, .int (nI 0), .null, .null, .null, .int (nI 0)]))) q_2 (eI cy 5 (fun _ => 0))) a (.inr (4, [.int (nI grp), .ref q_1, .int (nI 0), .ref q_2, .null, .null, .int (nI 0)]))) := hD
  rw [mset_comm _ (.inr (4, [.int (nI grp), .ref q_1, .int (nI 0), .null, .null, .null, .int (nI 0)])) (eI cy 5 (fun _ => 0)) (n_a_q_2), mset_mset _ a (.inr (4, [.int (nI grp), .ref q_1, .int (nI 0), .null, .null, .null, .int (nI 0)])) (.inr (4, [.int (nI grp), .ref q_1, .int (nI 0), .ref q_2, .null, .null, .int (nI 0)]))] at hP hD
  refine lv_aload_n hx hb dX3_init_32 rfl (lv_at hl 0 rfl) ?_
  refine lv_iconst (v := (nI 4)) hx hb dX3_init_33 (by decide) ?_
  refine n_newa (atype := .int) (n := 4) (x := (4, .inl (fun _ => nI 0))) hx hb (hts _ (List.mem_of_getElem? (i := 10) rfl)) hK hP hD hS hA 0 rfl (fun h9 => h9) rfl (by decide) (by decide) (Nat.le_of_ble_eq_true rfl) (Nat.le_of_ble_eq_true rfl) dX3_init_34 (fun q_3 H hn_q_3 hq_q_3 hz_q_3 hP hD hS => ?_)
  have n_a_q_3 : a ≠ q_3 := ne_none (mset_self _ _ _) hn_q_3
  have n_q_1_q_3 : q_1 ≠ q_3 := ne_none ((mset_ne (Ne.symm n_a_q_1)).trans ((mset_ne n_q_1_q_2).trans (mset_self _ _ _))) hn_q_3
  have n_q_8_q_3 : q_8 ≠ q_3 := ne_none ((mset_ne (Ne.symm n_a_q_8)).trans ((mset_ne n_q_8_q_2).trans ((mset_ne (Ne.symm n_q_1_q_8)).trans ((mset_ne n_q_8_q_9).trans (mset_self _ _ _))))) hn_q_3
  have n_q_9_q_3 : q_9 ≠ q_3 := ne_none ((mset_ne (Ne.symm n_a_q_9)).trans ((mset_ne n_q_9_q_2).trans ((mset_ne (Ne.symm n_q_1_q_9)).trans (mset_self _ _ _)))) hn_q_3
  have n_q_2_q_3 : q_2 ≠ q_3 := ne_none ((mset_ne (Ne.symm n_a_q_2)).trans (mset_self _ _ _)) hn_q_3
  have hP : pm D (mset (mset (mset (mset (mset (mset M q_8 (eI cy 3 (fun _ => 0))) q_9 (eI cy 3 (fun _ => 0))) q_1 (.inr (1, [.ref q_8, .ref q_9, .int (nI 0)]))) q_2 (eI cy 5 (fun _ => 0))) a (.inr (4, [.int (nI grp), .ref q_1, .int (nI 0), .ref q_2, .null, .null, .int (nI 0)]))) q_3 (eI cy 4 (fun _ => 0))) H := hP
  have hD : mD (mA M sz) (mset (mset (mset (mset (mset (mset M q_8 (eI cy 3 (fun _ => 0))) q_9 (eI cy 3 (fun _ => 0))) q_1 (.inr (1, [.ref q_8, .ref q_9, .int (nI 0)]))) q_2 (eI cy 5 (fun _ => 0))) a (.inr (4, [.int (nI grp), .ref q_1, .int (nI 0), .ref q_2, .null, .null, .int (nI 0)]))) q_3 (eI cy 4 (fun _ => 0))) := hD
  refine m_putF (T := TX3) (N := 7) (ci := 4) (fs := [.int (nI grp), .ref q_1, .int (nI 0), .ref q_2, .null, .null, .int (nI 0)]) (v := .ref q_3) hx hb hwX3 tyX3 tyX3_ok nmX3 hown hK hP hD hS ((mset_ne n_a_q_3).trans (mset_self _ _ _)) rfl 4 (by decide) (hts _ (List.mem_of_getElem? (i := 12) rfl)) rfl hname rfl (rfl) rfl (Nat.le_of_ble_eq_true rfl) dX3_init_36 (fun H locs hP hD hS => ?_)
  have hP : pm D (mset (mset (mset (mset (mset (mset (mset M q_8 (eI cy 3 (fun _ => 0))) q_9 (eI cy 3 (fun _ => 0))) q_1 (.inr (1, [.ref q_8, .ref q_9, .int (nI 0)]))) q_2 (eI cy 5 (fun _ => 0))) a (.inr (4, [.int (nI grp), .ref q_1, .int (nI 0), .ref q_2, .null, .null, .int (nI 0)]))) q_3 (eI cy 4 (fun _ => 0))) a (.inr (4, [.int (nI grp), .ref q_1, .int (nI 0), .ref q_2, .ref q_3, .null, .int (nI 0)]))) H := hP
  have hD : mD (mA M sz) (mset (mset (mset (mset (mset (mset (mset M q_8 (eI cy 3 (fun _ => 0))) q_9 (eI cy 3 (fun _ => 0))) q_1 (.inr (1, [.ref q_8, .ref q_9, .int (nI 0)]))) q_2 (eI cy 5 (fun _ => 0))) a (.inr (4, [.int (nI grp), .ref q_1, .int (nI 0), .ref q_2, .null, .null, .int (nI 0)]))) q_3 (eI cy 4 (fun _ => 0))) a (.inr (4, [.int (nI grp), .ref q_1, .int (nI 0), .ref q_2, .ref q_3, .null, .int (nI 0)]))) := hD
  rw [mset_comm _ (.inr (4, [.int (nI grp), .ref q_1, .int (nI 0), .ref q_2, .null, .null, .int (nI 0)])) (eI cy 4 (fun _ => 0)) (n_a_q_3), mset_mset _ a (.inr (4, [.int (nI grp), .ref q_1, .int (nI 0), .ref q_2, .null, .null, .int (nI 0)])) (.inr (4, [.int (nI grp), .ref q_1, .int (nI 0), .ref q_2, .ref q_3, .null, .int (nI 0)]))] at hP hD
  refine lv_aload_n hx hb dX3_init_39 rfl (lv_at hl 0 rfl) ?_
  refine lv_bipush (v := (nI 6)) hx hb dX3_init_40 (by decide) ?_
  refine n_newa (atype := .int) (n := 6) (x := (6, .inl (fun _ => nI 0))) hx hb (hts _ (List.mem_of_getElem? (i := 10) rfl)) hK hP hD hS hA 0 rfl (fun h9 => h9) rfl (by decide) (by decide) (Nat.le_of_ble_eq_true rfl) (Nat.le_of_ble_eq_true rfl) dX3_init_42 (fun q_4 H hn_q_4 hq_q_4 hz_q_4 hP hD hS => ?_)
  have n_a_q_4 : a ≠ q_4 := ne_none (mset_self _ _ _) hn_q_4
  have n_q_1_q_4 : q_1 ≠ q_4 := ne_none ((mset_ne (Ne.symm n_a_q_1)).trans ((mset_ne n_q_1_q_3).trans ((mset_ne n_q_1_q_2).trans (mset_self _ _ _)))) hn_q_4
  have n_q_8_q_4 : q_8 ≠ q_4 := ne_none ((mset_ne (Ne.symm n_a_q_8)).trans ((mset_ne n_q_8_q_3).trans ((mset_ne n_q_8_q_2).trans ((mset_ne (Ne.symm n_q_1_q_8)).trans ((mset_ne n_q_8_q_9).trans (mset_self _ _ _)))))) hn_q_4
  have n_q_9_q_4 : q_9 ≠ q_4 := ne_none ((mset_ne (Ne.symm n_a_q_9)).trans ((mset_ne n_q_9_q_3).trans ((mset_ne n_q_9_q_2).trans ((mset_ne (Ne.symm n_q_1_q_9)).trans (mset_self _ _ _))))) hn_q_4
  have n_q_2_q_4 : q_2 ≠ q_4 := ne_none ((mset_ne (Ne.symm n_a_q_2)).trans ((mset_ne n_q_2_q_3).trans (mset_self _ _ _))) hn_q_4
  have n_q_3_q_4 : q_3 ≠ q_4 := ne_none ((mset_ne (Ne.symm n_a_q_3)).trans (mset_self _ _ _)) hn_q_4
  have hP : pm D (mset (mset (mset (mset (mset (mset (mset M q_8 (eI cy 3 (fun _ => 0))) q_9 (eI cy 3 (fun _ => 0))) q_1 (.inr (1, [.ref q_8, .ref q_9, .int (nI 0)]))) q_2 (eI cy 5 (fun _ => 0))) q_3 (eI cy 4 (fun _ => 0))) a (.inr (4, [.int (nI grp), .ref q_1, .int (nI 0), .ref q_2, .ref q_3, .null, .int (nI 0)]))) q_4 (eI cy 6 (fun _ => 0))) H := hP
  have hD : mD (mA M sz) (mset (mset (mset (mset (mset (mset (mset M q_8 (eI cy 3 (fun _ => 0))) q_9 (eI cy 3 (fun _ => 0))) q_1 (.inr (1, [.ref q_8, .ref q_9, .int (nI 0)]))) q_2 (eI cy 5 (fun _ => 0))) q_3 (eI cy 4 (fun _ => 0))) a (.inr (4, [.int (nI grp), .ref q_1, .int (nI 0), .ref q_2, .ref q_3, .null, .int (nI 0)]))) q_4 (eI cy 6 (fun _ => 0))) := hD
  refine m_putF (T := TX3) (N := 7) (ci := 4) (fs := [.int (nI grp), .ref q_1, .int (nI 0), .ref q_2, .ref q_3, .null, .int (nI 0)]) (v := .ref q_4) hx hb hwX3 tyX3 tyX3_ok nmX3 hown hK hP hD hS ((mset_ne n_a_q_4).trans (mset_self _ _ _)) rfl 5 (by decide) (hts _ (List.mem_of_getElem? (i := 13) rfl)) rfl hname rfl (rfl) rfl (Nat.le_of_ble_eq_true rfl) dX3_init_44 (fun H locs hP hD hS => ?_)
  have hP : pm D (mset (mset (mset (mset (mset (mset (mset (mset M q_8 (eI cy 3 (fun _ => 0))) q_9 (eI cy 3 (fun _ => 0))) q_1 (.inr (1, [.ref q_8, .ref q_9, .int (nI 0)]))) q_2 (eI cy 5 (fun _ => 0))) q_3 (eI cy 4 (fun _ => 0))) a (.inr (4, [.int (nI grp), .ref q_1, .int (nI 0), .ref q_2, .ref q_3, .null, .int (nI 0)]))) q_4 (eI cy 6 (fun _ => 0))) a (.inr (4, [.int (nI grp), .ref q_1, .int (nI 0), .ref q_2, .ref q_3, .ref q_4, .int (nI 0)]))) H := hP
  have hD : mD (mA M sz) (mset (mset (mset (mset (mset (mset (mset (mset M q_8 (eI cy 3 (fun _ => 0))) q_9 (eI cy 3 (fun _ => 0))) q_1 (.inr (1, [.ref q_8, .ref q_9, .int (nI 0)]))) q_2 (eI cy 5 (fun _ => 0))) q_3 (eI cy 4 (fun _ => 0))) a (.inr (4, [.int (nI grp), .ref q_1, .int (nI 0), .ref q_2, .ref q_3, .null, .int (nI 0)]))) q_4 (eI cy 6 (fun _ => 0))) a (.inr (4, [.int (nI grp), .ref q_1, .int (nI 0), .ref q_2, .ref q_3, .ref q_4, .int (nI 0)]))) := hD
  rw [mset_comm _ (.inr (4, [.int (nI grp), .ref q_1, .int (nI 0), .ref q_2, .ref q_3, .null, .int (nI 0)])) (eI cy 6 (fun _ => 0)) (n_a_q_4), mset_mset _ a (.inr (4, [.int (nI grp), .ref q_1, .int (nI 0), .ref q_2, .ref q_3, .null, .int (nI 0)])) (.inr (4, [.int (nI grp), .ref q_1, .int (nI 0), .ref q_2, .ref q_3, .ref q_4, .int (nI 0)]))] at hP hD
  refine lv_aload_n hx hb dX3_init_47 rfl (lv_at hl 0 rfl) ?_
  refine lv_iconst (v := (nI 0)) hx hb dX3_init_48 (by decide) ?_
  refine m_put (T := TX3) (N := 7) (ci := 4) (fs := [.int (nI grp), .ref q_1, .int (nI 0), .ref q_2, .ref q_3, .ref q_4, .int (nI 0)]) (v := .int (nI 0)) hx hb hwX3 tyX3 tyX3_ok nmX3 hown hK hP hD hS (mset_self _ _ _) rfl 6 (by decide) (hts _ (List.mem_of_getElem? (i := 14) rfl)) rfl (rfl) rfl (Nat.le_of_ble_eq_true rfl) dX3_init_49 (fun H locs hP hD hS => ?_)
  have hP : pm D (mset (mset (mset (mset (mset (mset (mset (mset M q_8 (eI cy 3 (fun _ => 0))) q_9 (eI cy 3 (fun _ => 0))) q_1 (.inr (1, [.ref q_8, .ref q_9, .int (nI 0)]))) q_2 (eI cy 5 (fun _ => 0))) q_3 (eI cy 4 (fun _ => 0))) q_4 (eI cy 6 (fun _ => 0))) a (.inr (4, [.int (nI grp), .ref q_1, .int (nI 0), .ref q_2, .ref q_3, .ref q_4, .int (nI 0)]))) a (.inr (4, [.int (nI grp), .ref q_1, .int (nI 0), .ref q_2, .ref q_3, .ref q_4, .int (nI 0)]))) H := hP
  have hD : mD (mA M sz) (mset (mset (mset (mset (mset (mset (mset (mset M q_8 (eI cy 3 (fun _ => 0))) q_9 (eI cy 3 (fun _ => 0))) q_1 (.inr (1, [.ref q_8, .ref q_9, .int (nI 0)]))) q_2 (eI cy 5 (fun _ => 0))) q_3 (eI cy 4 (fun _ => 0))) q_4 (eI cy 6 (fun _ => 0))) a (.inr (4, [.int (nI grp), .ref q_1, .int (nI 0), .ref q_2, .ref q_3, .ref q_4, .int (nI 0)]))) a (.inr (4, [.int (nI grp), .ref q_1, .int (nI 0), .ref q_2, .ref q_3, .ref q_4, .int (nI 0)]))) := hD
  rw [mset_mset _ a (.inr (4, [.int (nI grp), .ref q_1, .int (nI 0), .ref q_2, .ref q_3, .ref q_4, .int (nI 0)])) (.inr (4, [.int (nI grp), .ref q_1, .int (nI 0), .ref q_2, .ref q_3, .ref q_4, .int (nI 0)]))] at hP hD
  have hf_q_1 : M q_1 = none := (none_of hn_q_1)
  have hf_q_8 : M q_8 = none := (none_of (none_of hn_q_8))
  have hf_q_9 : M q_9 = none := (none_of (none_of hn_q_9))
  have hf_q_2 : M q_2 = none := (none_of (none_of (none_of (none_of hn_q_2))))
  have hf_q_3 : M q_3 = none := (none_of (none_of (none_of (none_of (none_of hn_q_3)))))
  have hf_q_4 : M q_4 = none := (none_of (none_of (none_of (none_of (none_of (none_of hn_q_4))))))
  exact e_wv hx hb hr hlocks hP hD hS (⟨q_1, q_8, q_9, q_2, q_3, q_4, hf_q_1, hf_q_8, hf_q_9, hf_q_2, hf_q_3, hf_q_4, (.cons (nd_cons (n_a_q_1) (nd_cons (n_a_q_8) (nd_cons (n_a_q_9) (nd_cons (n_a_q_2) (nd_cons (n_a_q_3) (nd_cons (n_a_q_4) (nd_nil _))))))) (.cons (nd_cons (n_q_1_q_8) (nd_cons (n_q_1_q_9) (nd_cons (n_q_1_q_2) (nd_cons (n_q_1_q_3) (nd_cons (n_q_1_q_4) (nd_nil _)))))) (.cons (nd_cons (n_q_8_q_9) (nd_cons (n_q_8_q_2) (nd_cons (n_q_8_q_3) (nd_cons (n_q_8_q_4) (nd_nil _))))) (.cons (nd_cons (n_q_9_q_2) (nd_cons (n_q_9_q_3) (nd_cons (n_q_9_q_4) (nd_nil _)))) (.cons (nd_cons (n_q_2_q_3) (nd_cons (n_q_2_q_4) (nd_nil _))) (.cons (nd_cons (n_q_3_q_4) (nd_nil _)) (.cons (nd_nil _) (.nil)))))))), (rfl)⟩) dX3_init_52
