/-! the law: grades -/
theorem iwU_n {P Q : mM} {q : Nat} (h : iwU P Q q = none) : P q = none ∧ Q q = none := by
  cases hp : P q with
  | none => rw [iwU_r hp] at h; exact ⟨rfl, h⟩
  | some e => rw [iwU_l hp] at h; cases h
/-- an int as the number that a row holds -/
def u32 (z : Int) : Nat := (z % 4294967296).toNat
theorem zI_u (z : Int) : zI z = nI (u32 z) := by
  rw [nI_zI]
  unfold u32 zI
  have e : (((z % 4294967296).toNat : Nat) : Int) = z % 4294967296 := Int.toNat_of_nonneg (Int.emod_nonneg _ (by decide))
  rw [e]
  apply Int32.toBitVec_inj.mp
  show BitVec.ofInt 32 z = BitVec.ofInt 32 (z % 4294967296)
  apply BitVec.eq_of_toInt_eq
  rw [BitVec.toInt_ofInt, BitVec.toInt_ofInt]
  exact (Int.emod_bmod z 4294967296).symm
def hF (x : Nat → Nat → Nat) (k : Nat) : Nat → Nat := fun j => if j < k then u32 (grV x j) else 0
theorem hF_lt {x : Nat → Nat → Nat} {k j : Nat} (h : j < k) : hF x k j = u32 (grV x j) := if_pos h
theorem hF_0 (x : Nat → Nat → Nat) : hF x 0 = fun _ => 0 := by
  funext j
  exact if_neg (Nat.not_lt_zero j)
theorem hF_s (x : Nat → Nat → Nat) (k : Nat) : va_up (hF x k) k (u32 (grV x k)) = hF x (k + 1) := by
  funext j
  by_cases e : j = k
  · rw [e, va_up_self, hF_lt (Nat.lt_succ_self k)]
  · rw [va_up_ne _ _ e]
    unfold hF
    by_cases h : j < k
    · rw [if_pos h, if_pos (by omega)]
    · rw [if_neg h, if_neg (by omega)]
theorem chN_same (x : Nat → Nat → Nat) : ∀ k : Nat, chN x x k = 0
  | 0 => rfl
  | k + 1 => by
    unfold chN
    rw [chN_same x k, decide_eq_false (fun z => z rfl)]
    rfl
theorem vo_all {n : Nat} {c : Nat → Nat} {x : Nat → Nat → Nat} (h : CI n c x) (s : Nat) (r : Nat → Nat) : (wC x s = -9999 → wC (va_up x (1003 + 8 * s) r) s = -9999) ∧ (wC x s ≠ -9999 → wC (va_up x (1003 + 8 * s) r) s = 3 * grV x s + 2 * (sumA r 4 : Int) - (slV x s 5 : Int)) := by
  have h1 := w_none h s
  rw [vo_w]
  constructor
  · intro z
    have z2 := h1.mp z
    rw [if_pos ⟨z, z2⟩]
  · intro z
    have z2 : ¬ (x 11 s = 0 ∨ grV x s = -1) := fun q => z (h1.mpr q)
    rw [if_neg (fun q => z q.1), if_neg z2]
theorem sl_same {x y : Nat → Nat → Nat} {s : Nat} (h : y (1002 + 8 * s) = x (1002 + 8 * s)) (k : Nat) : slV y s k = slV x s k := by
  unfold slV
  rw [h]
section LGR
variable {p : Program} {l : Launch} {e : Env} {s : State} {m : MethodId} {args : Array Value} {below : List Frame} {meth : Method} {c : Code} {H : Heap} {locs : List Loc} {Q : State → Prop} {ls : Array Slot} {D : va_G} {cy : Nat → ClassId} {de mi o t d nn : Nat} {cn : Nat → Nat} {x : Nat → Nat → Nat} {g : Nat → Nat} {A : Nat → Prop} {M2 N : mM} {xa za : Int32}
set_option maxRecDepth 100000 in
set_option maxHeartbeats 4000000 in
theorem w_grades_6 (C0 : LC p l s m args c cL_grades 13 wsL_grades A D cy de mi) (kE : LE p l e ({ frames := 11, cells := 400, slots := 2400, locals := 290 } : Room) s m args below meth c cL_grades A D 400 2400 Q (LPo cy de o t d (nn + 1))) (hn : nn + 1 ≤ 512) (hW : LWd D cy de A s H locs M2 N o t d nn cn x g) (hno : cn 3 = 0) (hl : lv_has ls 13 [(0, .ref o), (1, .ref t), (2, .ref d), (3, .int xa), (4, .int za)]) : W p l e ({ frames := 11, cells := 400, slots := 2400, locals := 290 } : Room) s m args below meth c H locs 0 0 Q (F0 m 6 ls []) := by
  obtain ⟨hx, hb, hml, hown, hts, hA, hK, hX, hN0, hst⟩ := id C0
  obtain ⟨⟨hP, hD, hS⟩, hj, hd, hT, hI, hJ⟩ := hW
  obtain ⟨⟨j0, j1, j2, j3⟩, jp, js⟩ := id hJ
  obtain ⟨n0, n1, n2, n3, n4, -⟩ := id hI.1
  obtain ⟨fo, hfo⟩ := (TW.ou (N := N) hT).fst
  obtain ⟨ft, hft⟩ := (TW.tu (N := N) hT).fst
  refine lv_aload_n hx hb dL_grades_6 rfl (lv_at hl 0 rfl) ?_
  refine lv_bipush (v := (nI 10)) hx hb dL_grades_7 (by decide) ?_
  refine lv_iconst (v := (nI 0)) hx hb dL_grades_9 (by decide) ?_
  refine lv_iconst (v := (nI 0)) hx hb dL_grades_10 (by decide) ?_
  refine lv_iconst (v := (nI 0)) hx hb dL_grades_11 (by decide) ?_
  refine t_call (v := (zI (-2000000001))) (vx_runSX (As := [.ref o, .int (nI 10), .int (nI 0), .int (nI 0), .int (nI 0)]) (rest := []) ⟨hx, hb, hml, hown, hts⟩ (t_mark l hst de mi D cy _ _ o nn cn x (TW.ou hT) hI.1 (nI 0) (nI 0) (nI 0) 0 (by decide) 0 (by decide) 0 (by decide) hI.h3m) (vx_cwSW 5 hts gL_grades_L_call rfl rfl rfl (by decide +kernel) ⟨Nat.le_of_ble_eq_true rfl, Nat.le_of_ble_eq_true rfl⟩) (wPreS hX hN0 hD hS hA hK hP) rfl rfl hl.1 rfl (lv_room (Nat.le_of_ble_eq_true rfl)) dL_grades_12 ⟨Nat.le_of_ble_eq_true rfl, Nat.le_of_ble_eq_true rfl⟩) (fun r M' h => k_I h (fun r M' h => h.1.1) (fun z => by omega)) hD hA hS (fun H locs hP hS _ => ?_)
  refine lv_ldc (v := (zI (-2000000001))) hx hb hown (by rw [show (zI (-2000000001)) = (-2000000001 : Int32) by decide]; exact hts _ (List.mem_of_getElem? (i := 1) rfl)) dL_grades_15 ?_
  refine z_icmp_ne (u := (-2000000001)) (v := (-2000000001)) (tgt := 47) hx hb (zI_toInt (by omega) (by omega)) (zI_toInt (by omega) (by omega)) dL_grades_17 (by decide) (fun c_17 => ?_) (fun c_17 => ?_)
  · exfalso; omega
  · refine lv_aload_n hx hb dL_grades_20 rfl (lv_at hl 0 rfl) ?_
    refine lv_bipush (v := (nI 11)) hx hb dL_grades_21 (by decide) ?_
    refine lv_iconst (v := (nI 0)) hx hb dL_grades_23 (by decide) ?_
    refine lv_iconst (v := (nI 0)) hx hb dL_grades_24 (by decide) ?_
    refine lv_iconst (v := (nI 0)) hx hb dL_grades_25 (by decide) ?_
    refine t_call (v := (zI (-2000000001))) (vx_runSX (As := [.ref o, .int (nI 11), .int (nI 0), .int (nI 0), .int (nI 0)]) (rest := []) ⟨hx, hb, hml, hown, hts⟩ (t_grade l hst de mi D cy _ _ o nn cn x (TW.ou hT) hI.1 (nI 0) (nI 0) (nI 0) 0 (by decide)) (vx_cwSW 5 hts gL_grades_L_call rfl rfl rfl (by decide +kernel) ⟨Nat.le_of_ble_eq_true rfl, Nat.le_of_ble_eq_true rfl⟩) (wPreS hX hN0 hD hS hA hK hP) rfl rfl hl.1 rfl (lv_room (Nat.le_of_ble_eq_true rfl)) dL_grades_26 ⟨Nat.le_of_ble_eq_true rfl, Nat.le_of_ble_eq_true rfl⟩) (fun r M' h => k_I h (fun r M' h => h.1.1) (fun z => by omega)) hD hA hS (fun H locs hP hS _ => ?_)
    refine lv_ldc (v := (zI (-2000000001))) hx hb hown (by rw [show (zI (-2000000001)) = (-2000000001 : Int32) by decide]; exact hts _ (List.mem_of_getElem? (i := 1) rfl)) dL_grades_29 ?_
    refine z_icmp_ne (u := (-2000000001)) (v := (-2000000001)) (tgt := 47) hx hb (zI_toInt (by omega) (by omega)) (zI_toInt (by omega) (by omega)) dL_grades_31 (by decide) (fun c_31 => ?_) (fun c_31 => ?_)
    · exfalso; omega
    · refine lv_aload_n hx hb dL_grades_34 rfl (lv_at hl 0 rfl) ?_
      refine lv_iconst (v := (nI 1)) hx hb dL_grades_35 (by decide) ?_
      refine r_call (v := (zI (atV cn x 1))) (vx_runV (C := RX5) (As := [.int (nI 1)]) (rest := []) ⟨hx, hb, hml, hown, hts⟩ (q_at l hst de mi D cy _ _ o nn cn x (TW.ou hT) hI.1 1 (by omega) (by omega)) (cwV 1 hts gL_grades_X5_at rfl rfl rfl (by decide +kernel) ⟨Nat.le_of_ble_eq_true rfl, Nat.le_of_ble_eq_true rfl⟩) (mPreXV hX hD hS hA hK hP hfo (ci := 6) rfl) rfl rfl hl.1 rfl (lv_room (Nat.le_of_ble_eq_true rfl)) dL_grades_36 ⟨Nat.le_of_ble_eq_true rfl, Nat.le_of_ble_eq_true rfl⟩) hD hA hS (fun H locs hP hS _ => ?_)
      have hat := at_bd hI 1
      refine lv_iconst (v := (zI (-1))) hx hb dL_grades_39 (by decide) ?_
      refine z_icmp_ne (u := (atV cn x 1)) (v := (-1)) (tgt := 47) hx hb (zI_toInt (by omega) (by omega)) (zI_toInt (by omega) (by omega)) dL_grades_40 (by decide) (fun c_40 => ?_) (fun c_40 => ?_)
      · exfalso; omega
      · refine lv_iconst (v := (nI 1)) hx hb dL_grades_43 (by decide) ?_
        refine lv_goto (tgt := 48) hx hb dL_grades_44 (by decide) ?_
        exact kE _ _ _ H locs _ ls hP hD hS ⟨M2, N, _, _, g, rfl, hj, hd, hT, hI.mono hn, hJ.of ⟨by (try simp (disch := omega) only [va_up_ne, va_up_self]); omega, by (try simp (disch := omega) only [va_up_ne, va_up_self]); omega, by (try simp (disch := omega) only [va_up_ne, va_up_self]); omega, by (try simp (disch := omega) only [va_up_ne, va_up_self]); omega⟩ (fun j hj9 => rfl) rfl rfl rfl rfl⟩ dL_grades_48 (Nat.le_of_ble_eq_true rfl) (Nat.le_of_ble_eq_true rfl)
set_option maxRecDepth 100000 in
set_option maxHeartbeats 4000000 in
theorem w_grades_114 (C0 : LC p l s m args c cL_grades 13 wsL_grades A D cy de mi) (kE : LE p l e ({ frames := 11, cells := 400, slots := 2400, locals := 290 } : Room) s m args below meth c cL_grades A D 400 2400 Q (LPo cy de o t d (nn + 1))) (hn : nn + 1 ≤ 512) (hW : LWd D cy de A s H locs M2 N o t d nn cn x g) (sc hw : Nat) (hsc : sc < cn 3) (mk : Nat) (hmk : mk ≤ 20) (hl : lv_has ls 13 [(0, .ref o), (1, .ref t), (2, .ref d), (3, .int xa), (4, .int za), (5, .int (nI sc)), (6, .int (nI hw)), (7, .int (zI (grV x sc))), (8, .int (zI (laV x sc)))]) : W p l e ({ frames := 11, cells := 400, slots := 2400, locals := 290 } : Room) s m args below meth c H locs 2 12 Q (F0 m 114 ls [.int (nI mk)]) := by
  obtain ⟨hx, hb, hml, hown, hts, hA, hK, hX, hN0, hst⟩ := id C0
  obtain ⟨⟨hP, hD, hS⟩, hj, hd, hT, hI, hJ⟩ := hW
  obtain ⟨⟨j0, j1, j2, j3⟩, jp, js⟩ := id hJ
  obtain ⟨n0, n1, n2, n3, n4, -⟩ := id hI.1
  obtain ⟨fo, hfo⟩ := (TW.ou (N := N) hT).fst
  obtain ⟨ft, hft⟩ := (TW.tu (N := N) hT).fst
  have hgb := gr_bd hI sc
  have hlb := la_bd hI sc hsc
  have hwb := w_bd hI sc
  have hs5 := sl_bd hI sc 5
  have hpb := pl_bd hI sc
  refine lv_istore (lv' := [(9, .int (nI mk)), (0, .ref o), (1, .ref t), (2, .ref d), (3, .int xa), (4, .int za), (5, .int (nI sc)), (6, .int (nI hw)), (7, .int (zI (grV x sc))), (8, .int (zI (laV x sc)))]) hx hb dL_grades_114 hl (by decide) rfl (fun ls hl => ?_)
  refine lv_aload_n hx hb dL_grades_116 rfl (lv_at hl 1 rfl) ?_
  refine lv_aload_n hx hb dL_grades_117 rfl (lv_at hl 2 rfl) ?_
  refine lv_bipush (v := (nI 10)) hx hb dL_grades_118 (by decide) ?_
  refine lv_iload hx hb dL_grades_120 (lv_at hl 5 rfl) ?_
  refine lv_bipush (v := (nI 9)) hx hb dL_grades_122 (by decide) ?_
  refine lv_ishr hx hb dL_grades_124 ?_
  refine lv_bipush (v := (nI 6)) hx hb dL_grades_125 (by decide) ?_
  refine vp_callSi (W.runS (As := [.int (za >>> ((nI 9) &&& 31)), .int (nI 6)]) (rest := [.int (nI 10), .ref t, .ref o]) ⟨hx, hb, hml, hown, hts⟩ (c_L_some l (za >>> ((nI 9) &&& 31)) 6 (by omega) (by omega)) (va_cwS 2 hts gL_grades_L_some rfl rfl rfl (by decide +kernel) ⟨Nat.le_of_ble_eq_true rfl, Nat.le_of_ble_eq_true rfl⟩) mPre0 rfl rfl hl.1 rfl (lv_room (Nat.le_of_ble_eq_true rfl)) dL_grades_127 ⟨Nat.le_of_ble_eq_true rfl, Nat.le_of_ble_eq_true rfl⟩) (fun r9 hr9 => ?_)
  have hr9 : r9 = nI (someF (za >>> ((nI 9) &&& 31)) 6) := hr9
  subst hr9
  have hs_sm1 := someF_lt (za >>> ((nI 9) &&& 31)) (n := 6) (by omega)
  obtain ⟨sm1, e_sm1⟩ : ∃ sm1 : Nat, sm1 = someF (za >>> ((nI 9) &&& 31)) 6 := ⟨_, rfl⟩
  rw [← e_sm1] at hs_sm1 ⊢
  refine lv_iload hx hb dL_grades_130 (lv_at hl 6 rfl) ?_
  refine lv_iload hx hb dL_grades_132 (lv_at hl 0 rfl) ?_
  refine s_both (va_runS (As := [.ref o, .ref t, .int (nI 10), .int (nI sm1), .int (nI sc), .int (nI mk)]) (rest := []) ⟨hx, hb, hml, hown, hts⟩ (b_mark l hst de mi D cy _ _ o t nn cn x hT hI.1 (nI sm1) (nI sc) (nI mk) ((sm1 : Nat) : Int) (nI_toInt (by omega)) ((sc : Nat) : Int) (nI_toInt (by omega)) ((mk : Nat) : Int) (nI_toInt (by omega)) hI.h3m) (va_cwS 6 hts gL_grades_L_both rfl rfl rfl (by decide +kernel) ⟨Nat.le_of_ble_eq_true rfl, Nat.le_of_ble_eq_true rfl⟩) (wPreS hX hN0 (mD_Ul hD) hS hA hK (pm_Ul hP)) rfl rfl hl.1 rfl (lv_room (Nat.le_of_ble_eq_true rfl)) dL_grades_134 ⟨Nat.le_of_ble_eq_true rfl, Nat.le_of_ble_eq_true rfl⟩) hP hD hj hA hS (fun r M2 H locs hq hP hD hj hS _ => ?_)
  rcases hq with ⟨q1, rfl, hT⟩ | ⟨q1, q2, rfl, hT⟩ | ⟨q1, q2, q3, rfl, hT⟩ | ⟨q1, q2, q3, rfl, hT⟩
  · exact absurd ⟨⟨by omega, by omega⟩, by omega, by omega⟩ q1
  · exact absurd ⟨by omega, by omega⟩ q2
  · obtain ⟨fo, hfo⟩ := (TW.ou (N := N) hT).fst
    obtain ⟨ft, hft⟩ := (TW.tu (N := N) hT).fst
    refine lv_istore (lv' := [(10, .int (zI (-2000000003))), (9, .int (nI mk)), (0, .ref o), (1, .ref t), (2, .ref d), (3, .int xa), (4, .int za), (5, .int (nI sc)), (6, .int (nI hw)), (7, .int (zI (grV x sc))), (8, .int (zI (laV x sc)))]) hx hb dL_grades_137 hl (by decide) rfl (fun ls hl => ?_)
    refine lv_iload hx hb dL_grades_139 (lv_at hl 0 rfl) ?_
    refine lv_ldc (v := (zI (-2000000003))) hx hb hown (by rw [show (zI (-2000000003)) = (-2000000003 : Int32) by decide]; exact hts _ (List.mem_of_getElem? (i := 2) rfl)) dL_grades_141 ?_
    refine z_icmp_ne (u := (-2000000003)) (v := (-2000000003)) (tgt := 176) hx hb (zI_toInt (by omega) (by omega)) (zI_toInt (by omega) (by omega)) dL_grades_143 (by decide) (fun c_143 => ?_) (fun c_143 => ?_)
    · exfalso; omega
    · refine lv_aload_n hx hb dL_grades_146 rfl (lv_at hl 2 rfl) ?_
      refine lv_iload hx hb dL_grades_147 (lv_at hl 7 rfl) ?_
      refine r_call (v := (zI (grV x sc))) (vx_runV (C := RX5) (As := [.int (nI sc)]) (rest := []) ⟨hx, hb, hml, hown, hts⟩ (q_grade l hst de mi D cy _ _ o nn cn x (TW.ou hT) hI.1 sc (by omega) (by omega)) (cwV 1 hts gL_grades_X5_grade rfl rfl rfl (by decide +kernel) ⟨Nat.le_of_ble_eq_true rfl, Nat.le_of_ble_eq_true rfl⟩) (mPreXV hX hD hS hA hK hP hfo (ci := 6) rfl) rfl rfl hl.1 rfl (lv_room (Nat.le_of_ble_eq_true rfl)) dL_grades_149 ⟨Nat.le_of_ble_eq_true rfl, Nat.le_of_ble_eq_true rfl⟩) hD hA hS (fun H locs hP hS _ => ?_)
      refine lv_iload hx hb dL_grades_152 (lv_at hl 9 rfl) ?_
      refine z_icmp_ne (u := (grV x sc)) (v := (grV x sc)) (tgt := 172) hx hb (zI_toInt (by omega) (by omega)) (zI_toInt (by omega) (by omega)) dL_grades_154 (by decide) (fun c_154 => ?_) (fun c_154 => ?_)
      · exfalso; omega
      · refine lv_aload_n hx hb dL_grades_157 rfl (lv_at hl 2 rfl) ?_
        refine lv_iload hx hb dL_grades_158 (lv_at hl 7 rfl) ?_
        refine r_call (v := (zI (laV x sc))) (vx_runV (C := RX5) (As := [.int (nI sc)]) (rest := []) ⟨hx, hb, hml, hown, hts⟩ (q_lacks l hst de mi D cy _ _ o nn cn x (TW.ou hT) hI.1 sc (by omega) (by omega)) (cwV 1 hts gL_grades_X5_lacks rfl rfl rfl (by decide +kernel) ⟨Nat.le_of_ble_eq_true rfl, Nat.le_of_ble_eq_true rfl⟩) (mPreXV hX hD hS hA hK hP hfo (ci := 6) rfl) rfl rfl hl.1 rfl (lv_room (Nat.le_of_ble_eq_true rfl)) dL_grades_160 ⟨Nat.le_of_ble_eq_true rfl, Nat.le_of_ble_eq_true rfl⟩) hD hA hS (fun H locs hP hS _ => ?_)
        refine lv_iload hx hb dL_grades_163 (lv_at hl 10 rfl) ?_
        refine z_icmp_ne (u := (laV x sc)) (v := (laV x sc)) (tgt := 172) hx hb (zI_toInt (by omega) (by omega)) (zI_toInt (by omega) (by omega)) dL_grades_165 (by decide) (fun c_165 => ?_) (fun c_165 => ?_)
        · exfalso; omega
        · refine lv_iconst (v := (nI 1)) hx hb dL_grades_168 (by decide) ?_
          refine lv_goto (tgt := 251) hx hb dL_grades_169 (by decide) ?_
          exact kE _ _ _ H locs _ ls hP hD hS ⟨M2, N, _, _, g, rfl, hj, hd, hT, hI.mono hn, hJ.of ⟨by (try simp (disch := omega) only [va_up_ne, va_up_self]); omega, by (try simp (disch := omega) only [va_up_ne, va_up_self]); omega, by (try simp (disch := omega) only [va_up_ne, va_up_self]); omega, by (try simp (disch := omega) only [va_up_ne, va_up_self]); omega⟩ (fun j hj9 => rfl) rfl rfl rfl rfl⟩ dL_grades_251 (Nat.le_of_ble_eq_true rfl) (Nat.le_of_ble_eq_true rfl)
  · have q3b : laV x sc ≠ 0 := q3.2.2
    obtain ⟨m1, m2, m3, m4⟩ := mk_facts hI hn sm1 sc mk (by omega) hsc (by omega) q3b
    have hI0 := P_mark hI hn sm1 sc mk (by omega) hsc (by omega) q3b
    obtain ⟨x1, hx1⟩ : ∃ x1 : Nat → Nat → Nat, x1 = mkX x sm1 sc mk := ⟨_, rfl⟩
    have hT : TW cy de M2 o t cn x1 := by rw [hx1]; exact hT
    obtain ⟨fo, hfo⟩ := (TW.ou (N := N) hT).fst
    obtain ⟨ft, hft⟩ := (TW.tu (N := N) hT).fst
    have hI1 : CI (nn + 1) cn x1 := by rw [hx1]; exact hI0
    rw [← hx1] at m3 m4
    have gb1 := gr_bd hI1 sc
    have lb1 := la_bd hI1 sc hsc
    refine lv_istore (lv' := [(10, .int (nI (x 13 sc + 1))), (9, .int (nI mk)), (0, .ref o), (1, .ref t), (2, .ref d), (3, .int xa), (4, .int za), (5, .int (nI sc)), (6, .int (nI hw)), (7, .int (zI (grV x sc))), (8, .int (zI (laV x sc)))]) hx hb dL_grades_137 hl (by decide) rfl (fun ls hl => ?_)
    refine lv_iload hx hb dL_grades_139 (lv_at hl 0 rfl) ?_
    refine lv_ldc (v := (zI (-2000000003))) hx hb hown (by rw [show (zI (-2000000003)) = (-2000000003 : Int32) by decide]; exact hts _ (List.mem_of_getElem? (i := 2) rfl)) dL_grades_141 ?_
    refine z_icmp_ne (u := ((x 13 sc + 1 : Nat) : Int)) (v := (-2000000003)) (tgt := 176) hx hb (nI_toInt (by omega)) (zI_toInt (by omega) (by omega)) dL_grades_143 (by decide) (fun c_143 => ?_) (fun c_143 => ?_)
    · refine lv_iload hx hb dL_grades_176 (lv_at hl 10 rfl) ?_
      refine z_if_le (u := (laV x sc)) (tgt := 250) hx hb (zI_toInt (by omega) (by omega)) dL_grades_178 (by decide) (fun c_178 => ?_) (fun c_178 => ?_)
      · exfalso; omega
      · refine lv_iload hx hb dL_grades_181 (lv_at hl 0 rfl) ?_
        refine lv_iconst (v := (nI 1)) hx hb dL_grades_183 (by decide) ?_
        refine z_icmp_lt (u := ((x 13 sc + 1 : Nat) : Int)) (v := ((1 : Nat) : Int)) (tgt := 250) hx hb (nI_toInt (by omega)) (nI_toInt (by omega)) dL_grades_184 (by decide) (fun c_184 => ?_) (fun c_184 => ?_)
        · exfalso; omega
        · refine lv_iload hx hb dL_grades_187 (lv_at hl 0 rfl) ?_
          refine lv_iconst (v := (nI 3)) hx hb dL_grades_189 (by decide) ?_
          refine z_icmp_gt (u := ((x 13 sc + 1 : Nat) : Int)) (v := ((3 : Nat) : Int)) (tgt := 250) hx hb (nI_toInt (by omega)) (nI_toInt (by omega)) dL_grades_190 (by decide) (fun c_190 => ?_) (fun c_190 => ?_)
          · exfalso; omega
          · refine lv_iload hx hb dL_grades_193 (lv_at hl 0 rfl) ?_
            refine lv_iconst (v := (nI 1)) hx hb dL_grades_195 (by decide) ?_
            refine z_icmp_gt (u := ((x 13 sc + 1 : Nat) : Int)) (v := ((1 : Nat) : Int)) (tgt := 209) hx hb (nI_toInt (by omega)) (nI_toInt (by omega)) dL_grades_196 (by decide) (fun c_196 => ?_) (fun c_196 => ?_)
            · refine lv_iload hx hb dL_grades_209 (lv_at hl 0 rfl) ?_
              refine lv_iconst (v := (nI 3)) hx hb dL_grades_211 (by decide) ?_
              refine z_icmp_lt (u := ((x 13 sc + 1 : Nat) : Int)) (v := ((3 : Nat) : Int)) (tgt := 225) hx hb (nI_toInt (by omega)) (nI_toInt (by omega)) dL_grades_212 (by decide) (fun c_212 => ?_) (fun c_212 => ?_)
              · refine lv_aload_n hx hb dL_grades_225 rfl (lv_at hl 2 rfl) ?_
                refine lv_iload hx hb dL_grades_226 (lv_at hl 7 rfl) ?_
                refine r_call (v := (zI (grV x1 sc))) (vx_runV (C := RX5) (As := [.int (nI sc)]) (rest := []) ⟨hx, hb, hml, hown, hts⟩ (q_grade l hst de mi D cy _ _ o (nn + 1) cn x1 (TW.ou hT) hI1.1 sc (by omega) (by omega)) (cwV 1 hts gL_grades_X5_grade rfl rfl rfl (by decide +kernel) ⟨Nat.le_of_ble_eq_true rfl, Nat.le_of_ble_eq_true rfl⟩) (mPreXV hX hD hS hA hK hP hfo (ci := 6) rfl) rfl rfl hl.1 rfl (lv_room (Nat.le_of_ble_eq_true rfl)) dL_grades_228 ⟨Nat.le_of_ble_eq_true rfl, Nat.le_of_ble_eq_true rfl⟩) hD hA hS (fun H locs hP hS _ => ?_)
                refine lv_iconst (v := (zI (-1))) hx hb dL_grades_231 (by decide) ?_
                refine z_icmp_eq (u := (grV x1 sc)) (v := (-1)) (tgt := 246) hx hb (zI_toInt (by omega) (by omega)) (zI_toInt (by omega) (by omega)) dL_grades_232 (by decide) (fun c_232 => ?_) (fun c_232 => ?_)
                · refine lv_iconst (v := (nI 1)) hx hb dL_grades_246 (by decide) ?_
                  refine lv_goto (tgt := 251) hx hb dL_grades_247 (by decide) ?_
                  exact kE _ _ _ H locs _ ls hP hD hS ⟨M2, N, _, _, g, rfl, hj, hd, hT, hI1, hJ.of ⟨by omega, by omega, by omega, by omega⟩ (fun j hj9 => rfl) rfl rfl (by rw [hx1]; simp (disch := omega) only [va_up_ne, va_up_self]) (by rw [hx1]; simp (disch := omega) only [va_up_ne, va_up_self])⟩ dL_grades_251 (Nat.le_of_ble_eq_true rfl) (Nat.le_of_ble_eq_true rfl)
                · refine lv_aload_n hx hb dL_grades_235 rfl (lv_at hl 2 rfl) ?_
                  refine lv_iload hx hb dL_grades_236 (lv_at hl 7 rfl) ?_
                  refine r_call (v := (zI (grV x1 sc))) (vx_runV (C := RX5) (As := [.int (nI sc)]) (rest := []) ⟨hx, hb, hml, hown, hts⟩ (q_grade l hst de mi D cy _ _ o (nn + 1) cn x1 (TW.ou hT) hI1.1 sc (by omega) (by omega)) (cwV 1 hts gL_grades_X5_grade rfl rfl rfl (by decide +kernel) ⟨Nat.le_of_ble_eq_true rfl, Nat.le_of_ble_eq_true rfl⟩) (mPreXV hX hD hS hA hK hP hfo (ci := 6) rfl) rfl rfl hl.1 rfl (lv_room (Nat.le_of_ble_eq_true rfl)) dL_grades_238 ⟨Nat.le_of_ble_eq_true rfl, Nat.le_of_ble_eq_true rfl⟩) hD hA hS (fun H locs hP hS _ => ?_)
                  refine lv_bipush (v := (nI 20)) hx hb dL_grades_241 (by decide) ?_
                  refine z_icmp_gt (u := (grV x1 sc)) (v := ((20 : Nat) : Int)) (tgt := 250) hx hb (zI_toInt (by omega) (by omega)) (nI_toInt (by omega)) dL_grades_243 (by decide) (fun c_243 => ?_) (fun c_243 => ?_)
                  · exfalso; omega
                  · refine lv_iconst (v := (nI 1)) hx hb dL_grades_246 (by decide) ?_
                    refine lv_goto (tgt := 251) hx hb dL_grades_247 (by decide) ?_
                    exact kE _ _ _ H locs _ ls hP hD hS ⟨M2, N, _, _, g, rfl, hj, hd, hT, hI1, hJ.of ⟨by omega, by omega, by omega, by omega⟩ (fun j hj9 => rfl) rfl rfl (by rw [hx1]; simp (disch := omega) only [va_up_ne, va_up_self]) (by rw [hx1]; simp (disch := omega) only [va_up_ne, va_up_self])⟩ dL_grades_251 (Nat.le_of_ble_eq_true rfl) (Nat.le_of_ble_eq_true rfl)
              · refine lv_aload_n hx hb dL_grades_215 rfl (lv_at hl 2 rfl) ?_
                refine lv_iload hx hb dL_grades_216 (lv_at hl 7 rfl) ?_
                refine r_call (v := (zI (grV x1 sc))) (vx_runV (C := RX5) (As := [.int (nI sc)]) (rest := []) ⟨hx, hb, hml, hown, hts⟩ (q_grade l hst de mi D cy _ _ o (nn + 1) cn x1 (TW.ou hT) hI1.1 sc (by omega) (by omega)) (cwV 1 hts gL_grades_X5_grade rfl rfl rfl (by decide +kernel) ⟨Nat.le_of_ble_eq_true rfl, Nat.le_of_ble_eq_true rfl⟩) (mPreXV hX hD hS hA hK hP hfo (ci := 6) rfl) rfl rfl hl.1 rfl (lv_room (Nat.le_of_ble_eq_true rfl)) dL_grades_218 ⟨Nat.le_of_ble_eq_true rfl, Nat.le_of_ble_eq_true rfl⟩) hD hA hS (fun H locs hP hS _ => ?_)
                refine lv_iconst (v := (zI (-1))) hx hb dL_grades_221 (by decide) ?_
                refine z_icmp_eq (u := (grV x1 sc)) (v := (-1)) (tgt := 250) hx hb (zI_toInt (by omega) (by omega)) (zI_toInt (by omega) (by omega)) dL_grades_222 (by decide) (fun c_222 => ?_) (fun c_222 => ?_)
                · exact absurd c_222 (m4 (by omega))
                · refine lv_aload_n hx hb dL_grades_225 rfl (lv_at hl 2 rfl) ?_
                  refine lv_iload hx hb dL_grades_226 (lv_at hl 7 rfl) ?_
                  refine r_call (v := (zI (grV x1 sc))) (vx_runV (C := RX5) (As := [.int (nI sc)]) (rest := []) ⟨hx, hb, hml, hown, hts⟩ (q_grade l hst de mi D cy _ _ o (nn + 1) cn x1 (TW.ou hT) hI1.1 sc (by omega) (by omega)) (cwV 1 hts gL_grades_X5_grade rfl rfl rfl (by decide +kernel) ⟨Nat.le_of_ble_eq_true rfl, Nat.le_of_ble_eq_true rfl⟩) (mPreXV hX hD hS hA hK hP hfo (ci := 6) rfl) rfl rfl hl.1 rfl (lv_room (Nat.le_of_ble_eq_true rfl)) dL_grades_228 ⟨Nat.le_of_ble_eq_true rfl, Nat.le_of_ble_eq_true rfl⟩) hD hA hS (fun H locs hP hS _ => ?_)
                  refine lv_iconst (v := (zI (-1))) hx hb dL_grades_231 (by decide) ?_
                  refine z_icmp_eq (u := (grV x1 sc)) (v := (-1)) (tgt := 246) hx hb (zI_toInt (by omega) (by omega)) (zI_toInt (by omega) (by omega)) dL_grades_232 (by decide) (fun c_232 => ?_) (fun c_232 => ?_)
                  · refine lv_iconst (v := (nI 1)) hx hb dL_grades_246 (by decide) ?_
                    refine lv_goto (tgt := 251) hx hb dL_grades_247 (by decide) ?_
                    exact kE _ _ _ H locs _ ls hP hD hS ⟨M2, N, _, _, g, rfl, hj, hd, hT, hI1, hJ.of ⟨by omega, by omega, by omega, by omega⟩ (fun j hj9 => rfl) rfl rfl (by rw [hx1]; simp (disch := omega) only [va_up_ne, va_up_self]) (by rw [hx1]; simp (disch := omega) only [va_up_ne, va_up_self])⟩ dL_grades_251 (Nat.le_of_ble_eq_true rfl) (Nat.le_of_ble_eq_true rfl)
                  · refine lv_aload_n hx hb dL_grades_235 rfl (lv_at hl 2 rfl) ?_
                    refine lv_iload hx hb dL_grades_236 (lv_at hl 7 rfl) ?_
                    refine r_call (v := (zI (grV x1 sc))) (vx_runV (C := RX5) (As := [.int (nI sc)]) (rest := []) ⟨hx, hb, hml, hown, hts⟩ (q_grade l hst de mi D cy _ _ o (nn + 1) cn x1 (TW.ou hT) hI1.1 sc (by omega) (by omega)) (cwV 1 hts gL_grades_X5_grade rfl rfl rfl (by decide +kernel) ⟨Nat.le_of_ble_eq_true rfl, Nat.le_of_ble_eq_true rfl⟩) (mPreXV hX hD hS hA hK hP hfo (ci := 6) rfl) rfl rfl hl.1 rfl (lv_room (Nat.le_of_ble_eq_true rfl)) dL_grades_238 ⟨Nat.le_of_ble_eq_true rfl, Nat.le_of_ble_eq_true rfl⟩) hD hA hS (fun H locs hP hS _ => ?_)
                    refine lv_bipush (v := (nI 20)) hx hb dL_grades_241 (by decide) ?_
                    refine z_icmp_gt (u := (grV x1 sc)) (v := ((20 : Nat) : Int)) (tgt := 250) hx hb (zI_toInt (by omega) (by omega)) (nI_toInt (by omega)) dL_grades_243 (by decide) (fun c_243 => ?_) (fun c_243 => ?_)
                    · exfalso; omega
                    · refine lv_iconst (v := (nI 1)) hx hb dL_grades_246 (by decide) ?_
                      refine lv_goto (tgt := 251) hx hb dL_grades_247 (by decide) ?_
                      exact kE _ _ _ H locs _ ls hP hD hS ⟨M2, N, _, _, g, rfl, hj, hd, hT, hI1, hJ.of ⟨by omega, by omega, by omega, by omega⟩ (fun j hj9 => rfl) rfl rfl (by rw [hx1]; simp (disch := omega) only [va_up_ne, va_up_self]) (by rw [hx1]; simp (disch := omega) only [va_up_ne, va_up_self])⟩ dL_grades_251 (Nat.le_of_ble_eq_true rfl) (Nat.le_of_ble_eq_true rfl)
            · refine lv_aload_n hx hb dL_grades_199 rfl (lv_at hl 2 rfl) ?_
              refine lv_iload hx hb dL_grades_200 (lv_at hl 7 rfl) ?_
              refine r_call (v := (zI (laV x1 sc))) (vx_runV (C := RX5) (As := [.int (nI sc)]) (rest := []) ⟨hx, hb, hml, hown, hts⟩ (q_lacks l hst de mi D cy _ _ o (nn + 1) cn x1 (TW.ou hT) hI1.1 sc (by omega) (by omega)) (cwV 1 hts gL_grades_X5_lacks rfl rfl rfl (by decide +kernel) ⟨Nat.le_of_ble_eq_true rfl, Nat.le_of_ble_eq_true rfl⟩) (mPreXV hX hD hS hA hK hP hfo (ci := 6) rfl) rfl rfl hl.1 rfl (lv_room (Nat.le_of_ble_eq_true rfl)) dL_grades_202 ⟨Nat.le_of_ble_eq_true rfl, Nat.le_of_ble_eq_true rfl⟩) hD hA hS (fun H locs hP hS _ => ?_)
              refine lv_iconst (v := (nI 1)) hx hb dL_grades_205 (by decide) ?_
              refine z_icmp_ne (u := (laV x1 sc)) (v := ((1 : Nat) : Int)) (tgt := 250) hx hb (zI_toInt (by omega) (by omega)) (nI_toInt (by omega)) dL_grades_206 (by decide) (fun c_206 => ?_) (fun c_206 => ?_)
              · exact absurd (m3 (by omega)) c_206
              · refine lv_iload hx hb dL_grades_209 (lv_at hl 0 rfl) ?_
                refine lv_iconst (v := (nI 3)) hx hb dL_grades_211 (by decide) ?_
                refine z_icmp_lt (u := ((x 13 sc + 1 : Nat) : Int)) (v := ((3 : Nat) : Int)) (tgt := 225) hx hb (nI_toInt (by omega)) (nI_toInt (by omega)) dL_grades_212 (by decide) (fun c_212 => ?_) (fun c_212 => ?_)
                · refine lv_aload_n hx hb dL_grades_225 rfl (lv_at hl 2 rfl) ?_
                  refine lv_iload hx hb dL_grades_226 (lv_at hl 7 rfl) ?_
                  refine r_call (v := (zI (grV x1 sc))) (vx_runV (C := RX5) (As := [.int (nI sc)]) (rest := []) ⟨hx, hb, hml, hown, hts⟩ (q_grade l hst de mi D cy _ _ o (nn + 1) cn x1 (TW.ou hT) hI1.1 sc (by omega) (by omega)) (cwV 1 hts gL_grades_X5_grade rfl rfl rfl (by decide +kernel) ⟨Nat.le_of_ble_eq_true rfl, Nat.le_of_ble_eq_true rfl⟩) (mPreXV hX hD hS hA hK hP hfo (ci := 6) rfl) rfl rfl hl.1 rfl (lv_room (Nat.le_of_ble_eq_true rfl)) dL_grades_228 ⟨Nat.le_of_ble_eq_true rfl, Nat.le_of_ble_eq_true rfl⟩) hD hA hS (fun H locs hP hS _ => ?_)
                  refine lv_iconst (v := (zI (-1))) hx hb dL_grades_231 (by decide) ?_
                  refine z_icmp_eq (u := (grV x1 sc)) (v := (-1)) (tgt := 246) hx hb (zI_toInt (by omega) (by omega)) (zI_toInt (by omega) (by omega)) dL_grades_232 (by decide) (fun c_232 => ?_) (fun c_232 => ?_)
                  · refine lv_iconst (v := (nI 1)) hx hb dL_grades_246 (by decide) ?_
                    refine lv_goto (tgt := 251) hx hb dL_grades_247 (by decide) ?_
                    exact kE _ _ _ H locs _ ls hP hD hS ⟨M2, N, _, _, g, rfl, hj, hd, hT, hI1, hJ.of ⟨by omega, by omega, by omega, by omega⟩ (fun j hj9 => rfl) rfl rfl (by rw [hx1]; simp (disch := omega) only [va_up_ne, va_up_self]) (by rw [hx1]; simp (disch := omega) only [va_up_ne, va_up_self])⟩ dL_grades_251 (Nat.le_of_ble_eq_true rfl) (Nat.le_of_ble_eq_true rfl)
                  · refine lv_aload_n hx hb dL_grades_235 rfl (lv_at hl 2 rfl) ?_
                    refine lv_iload hx hb dL_grades_236 (lv_at hl 7 rfl) ?_
                    refine r_call (v := (zI (grV x1 sc))) (vx_runV (C := RX5) (As := [.int (nI sc)]) (rest := []) ⟨hx, hb, hml, hown, hts⟩ (q_grade l hst de mi D cy _ _ o (nn + 1) cn x1 (TW.ou hT) hI1.1 sc (by omega) (by omega)) (cwV 1 hts gL_grades_X5_grade rfl rfl rfl (by decide +kernel) ⟨Nat.le_of_ble_eq_true rfl, Nat.le_of_ble_eq_true rfl⟩) (mPreXV hX hD hS hA hK hP hfo (ci := 6) rfl) rfl rfl hl.1 rfl (lv_room (Nat.le_of_ble_eq_true rfl)) dL_grades_238 ⟨Nat.le_of_ble_eq_true rfl, Nat.le_of_ble_eq_true rfl⟩) hD hA hS (fun H locs hP hS _ => ?_)
                    refine lv_bipush (v := (nI 20)) hx hb dL_grades_241 (by decide) ?_
                    refine z_icmp_gt (u := (grV x1 sc)) (v := ((20 : Nat) : Int)) (tgt := 250) hx hb (zI_toInt (by omega) (by omega)) (nI_toInt (by omega)) dL_grades_243 (by decide) (fun c_243 => ?_) (fun c_243 => ?_)
                    · exfalso; omega
                    · refine lv_iconst (v := (nI 1)) hx hb dL_grades_246 (by decide) ?_
                      refine lv_goto (tgt := 251) hx hb dL_grades_247 (by decide) ?_
                      exact kE _ _ _ H locs _ ls hP hD hS ⟨M2, N, _, _, g, rfl, hj, hd, hT, hI1, hJ.of ⟨by omega, by omega, by omega, by omega⟩ (fun j hj9 => rfl) rfl rfl (by rw [hx1]; simp (disch := omega) only [va_up_ne, va_up_self]) (by rw [hx1]; simp (disch := omega) only [va_up_ne, va_up_self])⟩ dL_grades_251 (Nat.le_of_ble_eq_true rfl) (Nat.le_of_ble_eq_true rfl)
                · refine lv_aload_n hx hb dL_grades_215 rfl (lv_at hl 2 rfl) ?_
                  refine lv_iload hx hb dL_grades_216 (lv_at hl 7 rfl) ?_
                  refine r_call (v := (zI (grV x1 sc))) (vx_runV (C := RX5) (As := [.int (nI sc)]) (rest := []) ⟨hx, hb, hml, hown, hts⟩ (q_grade l hst de mi D cy _ _ o (nn + 1) cn x1 (TW.ou hT) hI1.1 sc (by omega) (by omega)) (cwV 1 hts gL_grades_X5_grade rfl rfl rfl (by decide +kernel) ⟨Nat.le_of_ble_eq_true rfl, Nat.le_of_ble_eq_true rfl⟩) (mPreXV hX hD hS hA hK hP hfo (ci := 6) rfl) rfl rfl hl.1 rfl (lv_room (Nat.le_of_ble_eq_true rfl)) dL_grades_218 ⟨Nat.le_of_ble_eq_true rfl, Nat.le_of_ble_eq_true rfl⟩) hD hA hS (fun H locs hP hS _ => ?_)
                  refine lv_iconst (v := (zI (-1))) hx hb dL_grades_221 (by decide) ?_
                  refine z_icmp_eq (u := (grV x1 sc)) (v := (-1)) (tgt := 250) hx hb (zI_toInt (by omega) (by omega)) (zI_toInt (by omega) (by omega)) dL_grades_222 (by decide) (fun c_222 => ?_) (fun c_222 => ?_)
                  · exact absurd c_222 (m4 (by omega))
                  · refine lv_aload_n hx hb dL_grades_225 rfl (lv_at hl 2 rfl) ?_
                    refine lv_iload hx hb dL_grades_226 (lv_at hl 7 rfl) ?_
                    refine r_call (v := (zI (grV x1 sc))) (vx_runV (C := RX5) (As := [.int (nI sc)]) (rest := []) ⟨hx, hb, hml, hown, hts⟩ (q_grade l hst de mi D cy _ _ o (nn + 1) cn x1 (TW.ou hT) hI1.1 sc (by omega) (by omega)) (cwV 1 hts gL_grades_X5_grade rfl rfl rfl (by decide +kernel) ⟨Nat.le_of_ble_eq_true rfl, Nat.le_of_ble_eq_true rfl⟩) (mPreXV hX hD hS hA hK hP hfo (ci := 6) rfl) rfl rfl hl.1 rfl (lv_room (Nat.le_of_ble_eq_true rfl)) dL_grades_228 ⟨Nat.le_of_ble_eq_true rfl, Nat.le_of_ble_eq_true rfl⟩) hD hA hS (fun H locs hP hS _ => ?_)
                    refine lv_iconst (v := (zI (-1))) hx hb dL_grades_231 (by decide) ?_
                    refine z_icmp_eq (u := (grV x1 sc)) (v := (-1)) (tgt := 246) hx hb (zI_toInt (by omega) (by omega)) (zI_toInt (by omega) (by omega)) dL_grades_232 (by decide) (fun c_232 => ?_) (fun c_232 => ?_)
                    · refine lv_iconst (v := (nI 1)) hx hb dL_grades_246 (by decide) ?_
                      refine lv_goto (tgt := 251) hx hb dL_grades_247 (by decide) ?_
                      exact kE _ _ _ H locs _ ls hP hD hS ⟨M2, N, _, _, g, rfl, hj, hd, hT, hI1, hJ.of ⟨by omega, by omega, by omega, by omega⟩ (fun j hj9 => rfl) rfl rfl (by rw [hx1]; simp (disch := omega) only [va_up_ne, va_up_self]) (by rw [hx1]; simp (disch := omega) only [va_up_ne, va_up_self])⟩ dL_grades_251 (Nat.le_of_ble_eq_true rfl) (Nat.le_of_ble_eq_true rfl)
                    · refine lv_aload_n hx hb dL_grades_235 rfl (lv_at hl 2 rfl) ?_
                      refine lv_iload hx hb dL_grades_236 (lv_at hl 7 rfl) ?_
                      refine r_call (v := (zI (grV x1 sc))) (vx_runV (C := RX5) (As := [.int (nI sc)]) (rest := []) ⟨hx, hb, hml, hown, hts⟩ (q_grade l hst de mi D cy _ _ o (nn + 1) cn x1 (TW.ou hT) hI1.1 sc (by omega) (by omega)) (cwV 1 hts gL_grades_X5_grade rfl rfl rfl (by decide +kernel) ⟨Nat.le_of_ble_eq_true rfl, Nat.le_of_ble_eq_true rfl⟩) (mPreXV hX hD hS hA hK hP hfo (ci := 6) rfl) rfl rfl hl.1 rfl (lv_room (Nat.le_of_ble_eq_true rfl)) dL_grades_238 ⟨Nat.le_of_ble_eq_true rfl, Nat.le_of_ble_eq_true rfl⟩) hD hA hS (fun H locs hP hS _ => ?_)
                      refine lv_bipush (v := (nI 20)) hx hb dL_grades_241 (by decide) ?_
                      refine z_icmp_gt (u := (grV x1 sc)) (v := ((20 : Nat) : Int)) (tgt := 250) hx hb (zI_toInt (by omega) (by omega)) (nI_toInt (by omega)) dL_grades_243 (by decide) (fun c_243 => ?_) (fun c_243 => ?_)
                      · exfalso; omega
                      · refine lv_iconst (v := (nI 1)) hx hb dL_grades_246 (by decide) ?_
                        refine lv_goto (tgt := 251) hx hb dL_grades_247 (by decide) ?_
                        exact kE _ _ _ H locs _ ls hP hD hS ⟨M2, N, _, _, g, rfl, hj, hd, hT, hI1, hJ.of ⟨by omega, by omega, by omega, by omega⟩ (fun j hj9 => rfl) rfl rfl (by rw [hx1]; simp (disch := omega) only [va_up_ne, va_up_self]) (by rw [hx1]; simp (disch := omega) only [va_up_ne, va_up_self])⟩ dL_grades_251 (Nat.le_of_ble_eq_true rfl) (Nat.le_of_ble_eq_true rfl)
    · exfalso; omega
set_option maxRecDepth 100000 in
set_option maxHeartbeats 4000000 in
theorem w_grades_407 (C0 : LC p l s m args c cL_grades 13 wsL_grades A D cy de mi) (kE : LE p l e ({ frames := 11, cells := 400, slots := 2400, locals := 290 } : Room) s m args below meth c cL_grades A D 400 2400 Q (LPo cy de o t d (nn + 1))) (hn : nn + 1 ≤ 512) (hW : LWd D cy de A s H locs M2 N o t d nn cn x g) (sc hw : Nat) (hsc : sc < cn 3) (hl : lv_has ls 13 [(0, .ref o), (1, .ref t), (2, .ref d), (3, .int xa), (4, .int za), (5, .int (nI sc)), (6, .int (nI hw)), (7, .int (zI (grV x sc))), (8, .int (zI (laV x sc)))]) : W p l e ({ frames := 11, cells := 400, slots := 2400, locals := 290 } : Room) s m args below meth c H locs 2 12 Q (F0 m 407 ls []) := by
  obtain ⟨hx, hb, hml, hown, hts, hA, hK, hX, hN0, hst⟩ := id C0
  obtain ⟨⟨hP, hD, hS⟩, hj, hd, hT, hI, hJ⟩ := hW
  obtain ⟨⟨j0, j1, j2, j3⟩, jp, js⟩ := id hJ
  obtain ⟨n0, n1, n2, n3, n4, -⟩ := id hI.1
  obtain ⟨fo, hfo⟩ := (TW.ou (N := N) hT).fst
  obtain ⟨ft, hft⟩ := (TW.tu (N := N) hT).fst
  have hgb := gr_bd hI sc
  have hlb := la_bd hI sc hsc
  have hwb := w_bd hI sc
  have hs5 := sl_bd hI sc 5
  have hpb := pl_bd hI sc
  refine lv_aload_n hx hb dL_grades_407 rfl (lv_at hl 0 rfl) ?_
  refine lv_aload_n hx hb dL_grades_408 rfl (lv_at hl 1 rfl) ?_
  refine lv_bipush (v := (nI 14)) hx hb dL_grades_409 (by decide) ?_
  refine lv_iload hx hb dL_grades_411 (lv_at hl 5 rfl) ?_
  refine lv_iconst (v := (nI 0)) hx hb dL_grades_413 (by decide) ?_
  refine lv_iconst (v := (nI 0)) hx hb dL_grades_414 (by decide) ?_
  refine s_both (va_runS (As := [.ref o, .ref t, .int (nI 14), .int (nI sc), .int (nI 0), .int (nI 0)]) (rest := []) ⟨hx, hb, hml, hown, hts⟩ (b_show l hst de mi D cy _ _ o t nn cn x hT hI.1 (nI sc) (nI 0) (nI 0) ((sc : Nat) : Int) (nI_toInt (by omega)) ) (va_cwS 6 hts gL_grades_L_both rfl rfl rfl (by decide +kernel) ⟨Nat.le_of_ble_eq_true rfl, Nat.le_of_ble_eq_true rfl⟩) (wPreS hX hN0 (mD_Ul hD) hS hA hK (pm_Ul hP)) rfl rfl hl.1 rfl (lv_room (Nat.le_of_ble_eq_true rfl)) dL_grades_415 ⟨Nat.le_of_ble_eq_true rfl, Nat.le_of_ble_eq_true rfl⟩) hP hD hj hA hS (fun r M2 H locs hq hP hD hj hS _ => ?_)
  rcases hq with ⟨q1, rfl, hT⟩ | ⟨q1, q2, rfl, hT⟩ | ⟨q1, q2, q3, rfl, hT⟩ | ⟨q1, q2, q3, rfl, hT⟩
  · exact absurd ⟨by omega, by omega⟩ q1
  · exact absurd trivial q2
  · obtain ⟨fo, hfo⟩ := (TW.ou (N := N) hT).fst
    obtain ⟨ft, hft⟩ := (TW.tu (N := N) hT).fst
    refine lv_istore (lv' := [(9, .int (zI (-2000000003))), (0, .ref o), (1, .ref t), (2, .ref d), (3, .int xa), (4, .int za), (5, .int (nI sc)), (6, .int (nI hw)), (7, .int (zI (grV x sc))), (8, .int (zI (laV x sc)))]) hx hb dL_grades_418 hl (by decide) rfl (fun ls hl => ?_)
    refine lv_iload hx hb dL_grades_420 (lv_at hl 0 rfl) ?_
    refine lv_ldc (v := (zI (-2000000003))) hx hb hown (by rw [show (zI (-2000000003)) = (-2000000003 : Int32) by decide]; exact hts _ (List.mem_of_getElem? (i := 2) rfl)) dL_grades_422 ?_
    refine z_icmp_ne (u := (-2000000003)) (v := (-2000000003)) (tgt := 431) hx hb (zI_toInt (by omega) (by omega)) (zI_toInt (by omega) (by omega)) dL_grades_424 (by decide) (fun c_424 => ?_) (fun c_424 => ?_)
    · exfalso; omega
    · refine lv_iconst (v := (nI 1)) hx hb dL_grades_427 (by decide) ?_
      refine lv_goto (tgt := 487) hx hb dL_grades_428 (by decide) ?_
      exact kE _ _ _ H locs _ ls hP hD hS ⟨M2, N, _, _, g, rfl, hj, hd, hT, hI.mono hn, hJ.of ⟨by (try simp (disch := omega) only [va_up_ne, va_up_self]); omega, by (try simp (disch := omega) only [va_up_ne, va_up_self]); omega, by (try simp (disch := omega) only [va_up_ne, va_up_self]); omega, by (try simp (disch := omega) only [va_up_ne, va_up_self]); omega⟩ (fun j hj9 => rfl) rfl rfl rfl rfl⟩ dL_grades_487 (Nat.le_of_ble_eq_true rfl) (Nat.le_of_ble_eq_true rfl)
  · have q3b : x 11 sc = 0 ∧ grV x sc ≠ -1 := q3
    obtain ⟨⟨m1, m2⟩, m3, m4⟩ := sh_facts hI hn sc hsc q3b.1 q3b.2
    have hI0 := P_show hI hn sc
    have m5 : slV (va_up x 11 (va_up (x 11) sc 1)) sc 5 = slV x sc 5 := sl_same (va_up_ne _ _ (by omega)) 5
    have m6 := q3b.2
    obtain ⟨x1, hx1⟩ : ∃ x1 : Nat → Nat → Nat, x1 = va_up x 11 (va_up (x 11) sc 1) := ⟨_, rfl⟩
    have hT : TW cy de M2 o t cn x1 := by rw [hx1]; exact hT
    obtain ⟨fo, hfo⟩ := (TW.ou (N := N) hT).fst
    obtain ⟨ft, hft⟩ := (TW.tu (N := N) hT).fst
    have hI1 : CI (nn + 1) cn x1 := by rw [hx1]; exact hI0
    rw [← hx1] at m1 m2 m3 m4 m5
    have wb1 := w_bd hI1 sc
    have pb1 := pl_bd hI1 sc
    have sb1 := sl_bd hI1 sc 5
    have e9 : nI (shC (va_up x 11 (va_up (x 11) (sc : Int).toNat 1)) (cn 3)) = nI (shC x1 (cn 3)) := by rw [hx1]; rfl
    refine n_name e9 ?_
    refine lv_istore (lv' := [(9, .int (nI (shC x1 (cn 3)))), (0, .ref o), (1, .ref t), (2, .ref d), (3, .int xa), (4, .int za), (5, .int (nI sc)), (6, .int (nI hw)), (7, .int (zI (grV x sc))), (8, .int (zI (laV x sc)))]) hx hb dL_grades_418 hl (by decide) rfl (fun ls hl => ?_)
    refine lv_iload hx hb dL_grades_420 (lv_at hl 0 rfl) ?_
    refine lv_ldc (v := (zI (-2000000003))) hx hb hown (by rw [show (zI (-2000000003)) = (-2000000003 : Int32) by decide]; exact hts _ (List.mem_of_getElem? (i := 2) rfl)) dL_grades_422 ?_
    refine z_icmp_ne (u := ((shC x1 (cn 3) : Nat) : Int)) (v := (-2000000003)) (tgt := 431) hx hb (nI_toInt (by omega)) (zI_toInt (by omega) (by omega)) dL_grades_424 (by decide) (fun c_424 => ?_) (fun c_424 => ?_)
    · refine lv_iload hx hb dL_grades_431 (lv_at hl 0 rfl) ?_
      refine lv_iconst (v := (nI 1)) hx hb dL_grades_433 (by decide) ?_
      refine z_icmp_lt (u := ((shC x1 (cn 3) : Nat) : Int)) (v := ((1 : Nat) : Int)) (tgt := 486) hx hb (nI_toInt (by omega)) (nI_toInt (by omega)) dL_grades_434 (by decide) (fun c_434 => ?_) (fun c_434 => ?_)
      · exfalso; omega
      · refine lv_iload hx hb dL_grades_437 (lv_at hl 0 rfl) ?_
        refine lv_aload_n hx hb dL_grades_439 rfl (lv_at hl 3 rfl) ?_
        refine lv_iconst (v := (nI 2)) hx hb dL_grades_440 (by decide) ?_
        refine n_iald (g := g) (n := 64) (i := 2) hx hb hK hP (iwU_r2 hj hd) (by omega) (by decide) dL_grades_441 ?_
        refine z_icmp_gt (u := ((shC x1 (cn 3) : Nat) : Int)) (v := ((g 2 : Nat) : Int)) (tgt := 486) hx hb (nI_toInt (by omega)) (nI_toInt (by omega)) dL_grades_442 (by decide) (fun c_442 => ?_) (fun c_442 => ?_)
        · exfalso; omega
        · refine lv_iload hx hb dL_grades_445 (lv_at hl 8 rfl) ?_
          refine lv_iconst (v := (zI (-1))) hx hb dL_grades_447 (by decide) ?_
          refine z_icmp_eq (u := (grV x sc)) (v := (-1)) (tgt := 486) hx hb (zI_toInt (by omega) (by omega)) (zI_toInt (by omega) (by omega)) dL_grades_448 (by decide) (fun c_448 => ?_) (fun c_448 => ?_)
          · exact absurd c_448 m6
          · refine lv_aload_n hx hb dL_grades_451 rfl (lv_at hl 1 rfl) ?_
            refine lv_iload hx hb dL_grades_452 (lv_at hl 6 rfl) ?_
            refine r_call (v := (zI (wC x1 sc))) (vx_runV (C := RX5) (As := [.int (nI sc)]) (rest := []) ⟨hx, hb, hml, hown, hts⟩ (q_worth l hst de mi D cy _ _ o (nn + 1) cn x1 (TW.ou hT) hI1.1 sc (by omega) (by omega)) (cwV 1 hts gL_grades_X5_worth rfl rfl rfl (by decide +kernel) ⟨Nat.le_of_ble_eq_true rfl, Nat.le_of_ble_eq_true rfl⟩) (mPreXV hX hD hS hA hK hP hfo (ci := 6) rfl) rfl rfl hl.1 rfl (lv_room (Nat.le_of_ble_eq_true rfl)) dL_grades_454 ⟨Nat.le_of_ble_eq_true rfl, Nat.le_of_ble_eq_true rfl⟩) hD hA hS (fun H locs hP hS _ => ?_)
            refine lv_iconst (v := (nI 3)) hx hb dL_grades_457 (by decide) ?_
            refine lv_iload hx hb dL_grades_458 (lv_at hl 8 rfl) ?_
            refine z_mul (u := ((3 : Nat) : Int)) (v := (grV x sc)) hx hb (nI_zI _) (rfl) dL_grades_460 ?_
            refine lv_aload_n hx hb dL_grades_461 rfl (lv_at hl 1 rfl) ?_
            refine lv_iload hx hb dL_grades_462 (lv_at hl 6 rfl) ?_
            refine lv_iconst (v := (nI 5)) hx hb dL_grades_464 (by decide) ?_
            refine r_call (v := (nI (slV x1 sc 5))) (vx_runV (C := RX5) (As := [.int (nI sc), .int (nI 5)]) (rest := [.int (zI (((3 : Nat) : Int) * (grV x sc))), .int (zI (wC x1 sc))]) ⟨hx, hb, hml, hown, hts⟩ (q_slips l hst de mi D cy _ _ o (nn + 1) cn x1 (TW.ou hT) hI1.1 sc 5 (by omega) (by omega) (by omega)) (cwV 2 hts gL_grades_X5_slips rfl rfl rfl (by decide +kernel) ⟨Nat.le_of_ble_eq_true rfl, Nat.le_of_ble_eq_true rfl⟩) (mPreXV hX hD hS hA hK hP hfo (ci := 6) rfl) rfl rfl hl.1 rfl (lv_room (Nat.le_of_ble_eq_true rfl)) dL_grades_465 ⟨Nat.le_of_ble_eq_true rfl, Nat.le_of_ble_eq_true rfl⟩) hD hA hS (fun H locs hP hS _ => ?_)
            refine z_sub (u := (((3 : Nat) : Int) * (grV x sc))) (v := ((slV x1 sc 5 : Nat) : Int)) hx hb (rfl) (nI_zI _) dL_grades_468 ?_
            refine z_icmp_ne (u := (wC x1 sc)) (v := ((((3 : Nat) : Int) * (grV x sc)) - ((slV x1 sc 5 : Nat) : Int))) (tgt := 486) hx hb (zI_toInt (by omega) (by omega)) (zI_toInt (by omega) (by omega)) dL_grades_469 (by decide) (fun c_469 => ?_) (fun c_469 => ?_)
            · exfalso; omega
            · refine lv_aload_n hx hb dL_grades_472 rfl (lv_at hl 1 rfl) ?_
              refine lv_iload hx hb dL_grades_473 (lv_at hl 6 rfl) ?_
              refine r_call (v := (zI (plV cn x1 sc))) (vx_runV (C := RX5) (As := [.int (nI sc)]) (rest := []) ⟨hx, hb, hml, hown, hts⟩ (q_place l hst de mi D cy _ _ o (nn + 1) cn x1 (TW.ou hT) hI1.1 sc (by omega) (by omega)) (cwV 1 hts gL_grades_X5_place rfl rfl rfl (by decide +kernel) ⟨Nat.le_of_ble_eq_true rfl, Nat.le_of_ble_eq_true rfl⟩) (mPreXV hX hD hS hA hK hP hfo (ci := 6) rfl) rfl rfl hl.1 rfl (lv_room (Nat.le_of_ble_eq_true rfl)) dL_grades_475 ⟨Nat.le_of_ble_eq_true rfl, Nat.le_of_ble_eq_true rfl⟩) hD hA hS (fun H locs hP hS _ => ?_)
              refine lv_iconst (v := (nI 1)) hx hb dL_grades_478 (by decide) ?_
              refine z_icmp_lt (u := (plV cn x1 sc)) (v := ((1 : Nat) : Int)) (tgt := 486) hx hb (zI_toInt (by omega) (by omega)) (nI_toInt (by omega)) dL_grades_479 (by decide) (fun c_479 => ?_) (fun c_479 => ?_)
              · exfalso; omega
              · refine lv_iconst (v := (nI 1)) hx hb dL_grades_482 (by decide) ?_
                refine lv_goto (tgt := 487) hx hb dL_grades_483 (by decide) ?_
                exact kE _ _ _ H locs _ ls hP hD hS ⟨M2, N, _, _, g, rfl, hj, hd, hT, hI1, hJ.of ⟨by omega, by omega, by omega, by omega⟩ (fun j hj9 => rfl) rfl rfl (by rw [hx1]; simp (disch := omega) only [va_up_ne, va_up_self]) (by rw [hx1]; simp (disch := omega) only [va_up_ne, va_up_self])⟩ dL_grades_487 (Nat.le_of_ble_eq_true rfl) (Nat.le_of_ble_eq_true rfl)
    · exfalso; omega
set_option maxRecDepth 100000 in
set_option maxHeartbeats 4000000 in
theorem w_grades_488 (C0 : LC p l s m args c cL_grades 13 wsL_grades A D cy de mi) (kE : LE p l e ({ frames := 11, cells := 400, slots := 2400, locals := 290 } : Room) s m args below meth c cL_grades A D 400 2400 Q (LPo cy de o t d (nn + 1))) (hn : nn + 1 ≤ 512) (hW : LWd D cy de A s H locs M2 N o t d nn cn x g) (sc hw : Nat) (hsc : sc < cn 3) (hl : lv_has ls 13 [(0, .ref o), (1, .ref t), (2, .ref d), (3, .int xa), (4, .int za), (5, .int (nI sc)), (6, .int (nI hw)), (7, .int (zI (grV x sc))), (8, .int (zI (laV x sc)))]) : W p l e ({ frames := 11, cells := 400, slots := 2400, locals := 290 } : Room) s m args below meth c H locs 2 12 Q (F0 m 488 ls []) := by
  obtain ⟨hx, hb, hml, hown, hts, hA, hK, hX, hN0, hst⟩ := id C0
  obtain ⟨⟨hP, hD, hS⟩, hj, hd, hT, hI, hJ⟩ := hW
  obtain ⟨⟨j0, j1, j2, j3⟩, jp, js⟩ := id hJ
  obtain ⟨n0, n1, n2, n3, n4, -⟩ := id hI.1
  obtain ⟨fo, hfo⟩ := (TW.ou (N := N) hT).fst
  obtain ⟨ft, hft⟩ := (TW.tu (N := N) hT).fst
  have hgb := gr_bd hI sc
  have hlb := la_bd hI sc hsc
  have hwb := w_bd hI sc
  have hs5 := sl_bd hI sc 5
  have hpb := pl_bd hI sc
  obtain ⟨v1, v2⟩ := js sc hsc
  have v3 : g (4 + g (24 + sc)) = x 10 sc := (jp _ v1).trans v2
  have v4 : x 10 sc ≤ 3 := hI.1.2.2.2.2.2 10 sc
  refine lv_iload hx hb dL_grades_488 (lv_at hl 4 rfl) ?_
  refine lv_iconst (v := (nI 4)) hx hb dL_grades_490 (by decide) ?_
  refine lv_ishr hx hb dL_grades_491 ?_
  refine lv_iconst (v := (nI 4)) hx hb dL_grades_492 (by decide) ?_
  refine vp_callSi (W.runS (As := [.int (za >>> ((nI 4) &&& 31)), .int (nI 4)]) (rest := []) ⟨hx, hb, hml, hown, hts⟩ (c_L_some l (za >>> ((nI 4) &&& 31)) 4 (by omega) (by omega)) (va_cwS 2 hts gL_grades_L_some rfl rfl rfl (by decide +kernel) ⟨Nat.le_of_ble_eq_true rfl, Nat.le_of_ble_eq_true rfl⟩) mPre0 rfl rfl hl.1 rfl (lv_room (Nat.le_of_ble_eq_true rfl)) dL_grades_493 ⟨Nat.le_of_ble_eq_true rfl, Nat.le_of_ble_eq_true rfl⟩) (fun r9 hr9 => ?_)
  have hr9 : r9 = nI (someF (za >>> ((nI 4) &&& 31)) 4) := hr9
  subst hr9
  have hs_sm1 := someF_lt (za >>> ((nI 4) &&& 31)) (n := 4) (by omega)
  obtain ⟨sm1, e_sm1⟩ : ∃ sm1 : Nat, sm1 = someF (za >>> ((nI 4) &&& 31)) 4 := ⟨_, rfl⟩
  rw [← e_sm1] at hs_sm1 ⊢
  refine lv_istore (lv' := [(9, .int (nI sm1)), (0, .ref o), (1, .ref t), (2, .ref d), (3, .int xa), (4, .int za), (5, .int (nI sc)), (6, .int (nI hw)), (7, .int (zI (grV x sc))), (8, .int (zI (laV x sc)))]) hx hb dL_grades_496 hl (by decide) rfl (fun ls hl => ?_)
  refine lv_iload hx hb dL_grades_498 (lv_at hl 5 rfl) ?_
  refine lv_bipush (v := (nI 7)) hx hb dL_grades_500 (by decide) ?_
  refine lv_ishr hx hb dL_grades_502 ?_
  refine lv_bipush (v := (nI 6)) hx hb dL_grades_503 (by decide) ?_
  refine vp_callSi (W.runS (As := [.int (za >>> ((nI 7) &&& 31)), .int (nI 6)]) (rest := []) ⟨hx, hb, hml, hown, hts⟩ (c_L_some l (za >>> ((nI 7) &&& 31)) 6 (by omega) (by omega)) (va_cwS 2 hts gL_grades_L_some rfl rfl rfl (by decide +kernel) ⟨Nat.le_of_ble_eq_true rfl, Nat.le_of_ble_eq_true rfl⟩) mPre0 rfl rfl hl.1 rfl (lv_room (Nat.le_of_ble_eq_true rfl)) dL_grades_505 ⟨Nat.le_of_ble_eq_true rfl, Nat.le_of_ble_eq_true rfl⟩) (fun r9 hr9 => ?_)
  have hr9 : r9 = nI (someF (za >>> ((nI 7) &&& 31)) 6) := hr9
  subst hr9
  have hs_sm2 := someF_lt (za >>> ((nI 7) &&& 31)) (n := 6) (by omega)
  obtain ⟨sm2, e_sm2⟩ : ∃ sm2 : Nat, sm2 = someF (za >>> ((nI 7) &&& 31)) 6 := ⟨_, rfl⟩
  rw [← e_sm2] at hs_sm2 ⊢
  refine lv_istore (lv' := [(10, .int (nI sm2)), (9, .int (nI sm1)), (0, .ref o), (1, .ref t), (2, .ref d), (3, .int xa), (4, .int za), (5, .int (nI sc)), (6, .int (nI hw)), (7, .int (zI (grV x sc))), (8, .int (zI (laV x sc)))]) hx hb dL_grades_508 hl (by decide) rfl (fun ls hl => ?_)
  refine lv_aload_n hx hb dL_grades_510 rfl (lv_at hl 2 rfl) ?_
  refine lv_iload hx hb dL_grades_511 (lv_at hl 7 rfl) ?_
  refine r_call (v := (zI (wC x sc))) (vx_runV (C := RX5) (As := [.int (nI sc)]) (rest := []) ⟨hx, hb, hml, hown, hts⟩ (q_worth l hst de mi D cy _ _ o nn cn x (TW.ou hT) hI.1 sc (by omega) (by omega)) (cwV 1 hts gL_grades_X5_worth rfl rfl rfl (by decide +kernel) ⟨Nat.le_of_ble_eq_true rfl, Nat.le_of_ble_eq_true rfl⟩) (mPreXV hX hD hS hA hK hP hfo (ci := 6) rfl) rfl rfl hl.1 rfl (lv_room (Nat.le_of_ble_eq_true rfl)) dL_grades_513 ⟨Nat.le_of_ble_eq_true rfl, Nat.le_of_ble_eq_true rfl⟩) hD hA hS (fun H locs hP hS _ => ?_)
  refine lv_istore (lv' := [(11, .int (zI (wC x sc))), (10, .int (nI sm2)), (9, .int (nI sm1)), (0, .ref o), (1, .ref t), (2, .ref d), (3, .int xa), (4, .int za), (5, .int (nI sc)), (6, .int (nI hw)), (7, .int (zI (grV x sc))), (8, .int (zI (laV x sc)))]) hx hb dL_grades_516 hl (by decide) rfl (fun ls hl => ?_)
  refine lv_aload_n hx hb dL_grades_518 rfl (lv_at hl 3 rfl) ?_
  refine lv_aload_n hx hb dL_grades_519 rfl (lv_at hl 4 rfl) ?_
  refine lv_bipush (v := (nI 15)) hx hb dL_grades_520 (by decide) ?_
  refine lv_iload hx hb dL_grades_522 (lv_at hl 2 rfl) ?_
  refine lv_iload hx hb dL_grades_524 (lv_at hl 8 rfl) ?_
  refine lv_iload hx hb dL_grades_526 (lv_at hl 1 rfl) ?_
  refine s_both (va_runS (As := [.ref o, .ref t, .int (nI 15), .int (nI sm1), .int (nI sc), .int (nI sm2)]) (rest := []) ⟨hx, hb, hml, hown, hts⟩ (b_vote l hst de mi D cy _ _ o t nn cn x hT hI.1 (nI sm1) (nI sc) (nI sm2) ((sm1 : Nat) : Int) (nI_toInt (by omega)) ((sc : Nat) : Int) (nI_toInt (by omega)) ((sm2 : Nat) : Int) (nI_toInt (by omega)) ) (va_cwS 6 hts gL_grades_L_both rfl rfl rfl (by decide +kernel) ⟨Nat.le_of_ble_eq_true rfl, Nat.le_of_ble_eq_true rfl⟩) (wPreS hX hN0 (mD_Ul hD) hS hA hK (pm_Ul hP)) rfl rfl hl.1 rfl (lv_room (Nat.le_of_ble_eq_true rfl)) dL_grades_528 ⟨Nat.le_of_ble_eq_true rfl, Nat.le_of_ble_eq_true rfl⟩) hP hD hj hA hS (fun r M2 H locs hq hP hD hj hS _ => ?_)
  rcases hq with ⟨q1, rfl, hT⟩ | ⟨q1, q2, rfl, hT⟩ | ⟨q1, q2, q3, rfl, hT⟩ | ⟨q1, q2, q3, rfl, hT⟩
  · exact absurd ⟨⟨by omega, by omega⟩, by omega, by omega⟩ q1
  · exact absurd ⟨by omega, by omega⟩ q2
  · obtain ⟨fo, hfo⟩ := (TW.ou (N := N) hT).fst
    obtain ⟨ft, hft⟩ := (TW.tu (N := N) hT).fst
    refine lv_istore (lv' := [(12, .int (zI (-2000000003))), (11, .int (zI (wC x sc))), (10, .int (nI sm2)), (9, .int (nI sm1)), (0, .ref o), (1, .ref t), (2, .ref d), (3, .int xa), (4, .int za), (5, .int (nI sc)), (6, .int (nI hw)), (7, .int (zI (grV x sc))), (8, .int (zI (laV x sc)))]) hx hb dL_grades_531 hl (by decide) rfl (fun ls hl => ?_)
    refine lv_iload hx hb dL_grades_533 (lv_at hl 0 rfl) ?_
    refine lv_ldc (v := (zI (-2000000003))) hx hb hown (by rw [show (zI (-2000000003)) = (-2000000003 : Int32) by decide]; exact hts _ (List.mem_of_getElem? (i := 2) rfl)) dL_grades_535 ?_
    refine z_icmp_ne (u := (-2000000003)) (v := (-2000000003)) (tgt := 559) hx hb (zI_toInt (by omega) (by omega)) (zI_toInt (by omega) (by omega)) dL_grades_537 (by decide) (fun c_537 => ?_) (fun c_537 => ?_)
    · exfalso; omega
    · refine lv_aload_n hx hb dL_grades_540 rfl (lv_at hl 4 rfl) ?_
      refine lv_iload hx hb dL_grades_541 (lv_at hl 9 rfl) ?_
      refine r_call (v := (zI (wC x sc))) (vx_runV (C := RX5) (As := [.int (nI sc)]) (rest := []) ⟨hx, hb, hml, hown, hts⟩ (q_worth l hst de mi D cy _ _ o nn cn x (TW.ou hT) hI.1 sc (by omega) (by omega)) (cwV 1 hts gL_grades_X5_worth rfl rfl rfl (by decide +kernel) ⟨Nat.le_of_ble_eq_true rfl, Nat.le_of_ble_eq_true rfl⟩) (mPreXV hX hD hS hA hK hP hfo (ci := 6) rfl) rfl rfl hl.1 rfl (lv_room (Nat.le_of_ble_eq_true rfl)) dL_grades_543 ⟨Nat.le_of_ble_eq_true rfl, Nat.le_of_ble_eq_true rfl⟩) hD hA hS (fun H locs hP hS _ => ?_)
      refine lv_iload hx hb dL_grades_546 (lv_at hl 1 rfl) ?_
      refine z_icmp_ne (u := (wC x sc)) (v := (wC x sc)) (tgt := 555) hx hb (zI_toInt (by omega) (by omega)) (zI_toInt (by omega) (by omega)) dL_grades_548 (by decide) (fun c_548 => ?_) (fun c_548 => ?_)
      · exfalso; omega
      · refine lv_iconst (v := (nI 1)) hx hb dL_grades_551 (by decide) ?_
        refine lv_goto (tgt := 643) hx hb dL_grades_552 (by decide) ?_
        exact kE _ _ _ H locs _ ls hP hD hS ⟨M2, N, _, _, g, rfl, hj, hd, hT, hI.mono hn, hJ.of ⟨by (try simp (disch := omega) only [va_up_ne, va_up_self]); omega, by (try simp (disch := omega) only [va_up_ne, va_up_self]); omega, by (try simp (disch := omega) only [va_up_ne, va_up_self]); omega, by (try simp (disch := omega) only [va_up_ne, va_up_self]); omega⟩ (fun j hj9 => rfl) rfl rfl rfl rfl⟩ dL_grades_643 (Nat.le_of_ble_eq_true rfl) (Nat.le_of_ble_eq_true rfl)
  · have q3b : x 11 sc ≠ 0 ∧ (x 10 sc : Int) ≠ (sm1 : Int) := q3
    have q3c : x 10 sc ≠ sm1 := fun z => q3b.2 (by rw [z])
    obtain ⟨m1, m2⟩ := vo_facts hI sm1 sc sm2 (by omega) (by omega) hsc q3c
    obtain ⟨m3, m4⟩ := vo_all hI sc (va_up (x (1003 + 8 * sc)) sm1 sm2)
    have hI0 := P_vote hI hn sm1 sc sm2 (by omega) hsc q3b.1 q3c
    obtain ⟨sm9, hsm9⟩ : ∃ sm9 : Nat, sm9 = sumA (va_up (x (1003 + 8 * sc)) sm1 sm2) 4 := ⟨_, rfl⟩
    rw [← hsm9] at m1 m2 m4
    have m5 : slV (va_up x (1003 + 8 * sc) (va_up (x (1003 + 8 * sc)) sm1 sm2)) sc 5 = slV x sc 5 := sl_same (va_up_ne _ _ (by omega)) 5
    obtain ⟨x1, hx1⟩ : ∃ x1 : Nat → Nat → Nat, x1 = va_up x (1003 + 8 * sc) (va_up (x (1003 + 8 * sc)) sm1 sm2) := ⟨_, rfl⟩
    have hT : TW cy de M2 o t cn x1 := by rw [hx1]; exact hT
    obtain ⟨fo, hfo⟩ := (TW.ou (N := N) hT).fst
    obtain ⟨ft, hft⟩ := (TW.tu (N := N) hT).fst
    have hI1 : CI (nn + 1) cn x1 := by rw [hx1]; exact hI0
    rw [← hx1] at m3 m4 m5
    have wb1 := w_bd hI1 sc
    have sb1 := sl_bd hI1 sc 5
    have e9 : nI (sumA (va_up (x (1003 + 8 * (sc : Int).toNat)) (sm1 : Int).toNat (sm2 : Int).toNat) 4) = nI sm9 := by rw [hsm9]; rfl
    refine n_name e9 ?_
    refine lv_istore (lv' := [(12, .int (nI sm9)), (11, .int (zI (wC x sc))), (10, .int (nI sm2)), (9, .int (nI sm1)), (0, .ref o), (1, .ref t), (2, .ref d), (3, .int xa), (4, .int za), (5, .int (nI sc)), (6, .int (nI hw)), (7, .int (zI (grV x sc))), (8, .int (zI (laV x sc)))]) hx hb dL_grades_531 hl (by decide) rfl (fun ls hl => ?_)
    refine lv_iload hx hb dL_grades_533 (lv_at hl 0 rfl) ?_
    refine lv_ldc (v := (zI (-2000000003))) hx hb hown (by rw [show (zI (-2000000003)) = (-2000000003 : Int32) by decide]; exact hts _ (List.mem_of_getElem? (i := 2) rfl)) dL_grades_535 ?_
    refine z_icmp_ne (u := ((sm9 : Nat) : Int)) (v := (-2000000003)) (tgt := 559) hx hb (nI_toInt (by omega)) (zI_toInt (by omega) (by omega)) dL_grades_537 (by decide) (fun c_537 => ?_) (fun c_537 => ?_)
    · refine lv_iload hx hb dL_grades_559 (lv_at hl 0 rfl) ?_
      refine lv_iload hx hb dL_grades_561 (lv_at hl 2 rfl) ?_
      refine z_icmp_lt (u := ((sm9 : Nat) : Int)) (v := ((sm2 : Nat) : Int)) (tgt := 642) hx hb (nI_toInt (by omega)) (nI_toInt (by omega)) dL_grades_563 (by decide) (fun c_563 => ?_) (fun c_563 => ?_)
      · exfalso; omega
      · refine lv_iload hx hb dL_grades_566 (lv_at hl 0 rfl) ?_
        refine lv_bipush (v := (nI 15)) hx hb dL_grades_568 (by decide) ?_
        refine z_icmp_gt (u := ((sm9 : Nat) : Int)) (v := ((15 : Nat) : Int)) (tgt := 642) hx hb (nI_toInt (by omega)) (nI_toInt (by omega)) dL_grades_570 (by decide) (fun c_570 => ?_) (fun c_570 => ?_)
        · exfalso; omega
        · refine lv_aload_n hx hb dL_grades_573 rfl (lv_at hl 6 rfl) ?_
          refine lv_iconst (v := (nI 4)) hx hb dL_grades_574 (by decide) ?_
          refine lv_aload_n hx hb dL_grades_575 rfl (lv_at hl 6 rfl) ?_
          refine lv_bipush (v := (nI 24)) hx hb dL_grades_576 (by decide) ?_
          refine lv_iload hx hb dL_grades_578 (lv_at hl 9 rfl) ?_
          refine n_add (x := 24) (y := sc) hx hb dL_grades_580 ?_
          refine n_iald (g := g) (n := 64) (i := 24 + sc) hx hb hK hP (iwU_r2 hj hd) (by omega) (by decide) dL_grades_581 ?_
          refine n_add (x := 4) (y := g (24 + sc)) hx hb dL_grades_582 ?_
          refine n_iald (g := g) (n := 64) (i := 4 + (g (24 + sc))) hx hb hK hP (iwU_r2 hj hd) (by omega) (by decide) dL_grades_583 ?_
          refine lv_iload hx hb dL_grades_584 (lv_at hl 3 rfl) ?_
          refine z_icmp_eq (u := ((g (4 + (g (24 + sc))) : Nat) : Int)) (v := ((sm1 : Nat) : Int)) (tgt := 642) hx hb (nI_toInt (by omega)) (nI_toInt (by omega)) dL_grades_586 (by decide) (fun c_586 => ?_) (fun c_586 => ?_)
          · exfalso; omega
          · refine lv_iload hx hb dL_grades_589 (lv_at hl 1 rfl) ?_
            refine lv_sipush (v := (zI (-9999))) hx hb dL_grades_591 (by decide) ?_
            refine z_icmp_ne (u := (wC x sc)) (v := (-9999)) (tgt := 612) hx hb (zI_toInt (by omega) (by omega)) (zI_toInt (by omega) (by omega)) dL_grades_594 (by decide) (fun c_594 => ?_) (fun c_594 => ?_)
            · refine lv_aload_n hx hb dL_grades_612 rfl (lv_at hl 4 rfl) ?_
              refine lv_iload hx hb dL_grades_613 (lv_at hl 9 rfl) ?_
              refine r_call (v := (zI (wC x1 sc))) (vx_runV (C := RX5) (As := [.int (nI sc)]) (rest := []) ⟨hx, hb, hml, hown, hts⟩ (q_worth l hst de mi D cy _ _ o (nn + 1) cn x1 (TW.ou hT) hI1.1 sc (by omega) (by omega)) (cwV 1 hts gL_grades_X5_worth rfl rfl rfl (by decide +kernel) ⟨Nat.le_of_ble_eq_true rfl, Nat.le_of_ble_eq_true rfl⟩) (mPreXV hX hD hS hA hK hP hfo (ci := 6) rfl) rfl rfl hl.1 rfl (lv_room (Nat.le_of_ble_eq_true rfl)) dL_grades_615 ⟨Nat.le_of_ble_eq_true rfl, Nat.le_of_ble_eq_true rfl⟩) hD hA hS (fun H locs hP hS _ => ?_)
              refine lv_iconst (v := (nI 3)) hx hb dL_grades_618 (by decide) ?_
              refine lv_iload hx hb dL_grades_619 (lv_at hl 11 rfl) ?_
              refine z_mul (u := ((3 : Nat) : Int)) (v := (grV x sc)) hx hb (nI_zI _) (rfl) dL_grades_621 ?_
              refine lv_iconst (v := (nI 2)) hx hb dL_grades_622 (by decide) ?_
              refine lv_iload hx hb dL_grades_623 (lv_at hl 0 rfl) ?_
              refine n_mul (x := 2) (y := sm9) hx hb dL_grades_625 ?_
              refine z_add (u := (((3 : Nat) : Int) * (grV x sc))) (v := ((2 * sm9 : Nat) : Int)) hx hb (rfl) (nI_zI _) dL_grades_626 ?_
              refine lv_aload_n hx hb dL_grades_627 rfl (lv_at hl 4 rfl) ?_
              refine lv_iload hx hb dL_grades_628 (lv_at hl 9 rfl) ?_
              refine lv_iconst (v := (nI 5)) hx hb dL_grades_630 (by decide) ?_
              refine r_call (v := (nI (slV x1 sc 5))) (vx_runV (C := RX5) (As := [.int (nI sc), .int (nI 5)]) (rest := [.int (zI ((((3 : Nat) : Int) * (grV x sc)) + ((2 * sm9 : Nat) : Int))), .int (zI (wC x1 sc))]) ⟨hx, hb, hml, hown, hts⟩ (q_slips l hst de mi D cy _ _ o (nn + 1) cn x1 (TW.ou hT) hI1.1 sc 5 (by omega) (by omega) (by omega)) (cwV 2 hts gL_grades_X5_slips rfl rfl rfl (by decide +kernel) ⟨Nat.le_of_ble_eq_true rfl, Nat.le_of_ble_eq_true rfl⟩) (mPreXV hX hD hS hA hK hP hfo (ci := 6) rfl) rfl rfl hl.1 rfl (lv_room (Nat.le_of_ble_eq_true rfl)) dL_grades_631 ⟨Nat.le_of_ble_eq_true rfl, Nat.le_of_ble_eq_true rfl⟩) hD hA hS (fun H locs hP hS _ => ?_)
              refine z_sub (u := ((((3 : Nat) : Int) * (grV x sc)) + ((2 * sm9 : Nat) : Int))) (v := ((slV x1 sc 5 : Nat) : Int)) hx hb (rfl) (nI_zI _) dL_grades_634 ?_
              refine z_icmp_ne (u := (wC x1 sc)) (v := (((((3 : Nat) : Int) * (grV x sc)) + ((2 * sm9 : Nat) : Int)) - ((slV x1 sc 5 : Nat) : Int))) (tgt := 642) hx hb (zI_toInt (by omega) (by omega)) (zI_toInt (by omega) (by omega)) dL_grades_635 (by decide) (fun c_635 => ?_) (fun c_635 => ?_)
              · have m6 := m4 c_594; exfalso; omega
              · refine lv_iconst (v := (nI 1)) hx hb dL_grades_638 (by decide) ?_
                refine lv_goto (tgt := 643) hx hb dL_grades_639 (by decide) ?_
                exact kE _ _ _ H locs _ ls hP hD hS ⟨M2, N, _, _, g, rfl, hj, hd, hT, hI1, hJ.of ⟨by omega, by omega, by omega, by omega⟩ (fun j hj9 => rfl) rfl rfl (by rw [hx1]; simp (disch := omega) only [va_up_ne, va_up_self]) (by rw [hx1]; simp (disch := omega) only [va_up_ne, va_up_self])⟩ dL_grades_643 (Nat.le_of_ble_eq_true rfl) (Nat.le_of_ble_eq_true rfl)
            · refine lv_aload_n hx hb dL_grades_597 rfl (lv_at hl 4 rfl) ?_
              refine lv_iload hx hb dL_grades_598 (lv_at hl 9 rfl) ?_
              refine r_call (v := (zI (wC x1 sc))) (vx_runV (C := RX5) (As := [.int (nI sc)]) (rest := []) ⟨hx, hb, hml, hown, hts⟩ (q_worth l hst de mi D cy _ _ o (nn + 1) cn x1 (TW.ou hT) hI1.1 sc (by omega) (by omega)) (cwV 1 hts gL_grades_X5_worth rfl rfl rfl (by decide +kernel) ⟨Nat.le_of_ble_eq_true rfl, Nat.le_of_ble_eq_true rfl⟩) (mPreXV hX hD hS hA hK hP hfo (ci := 6) rfl) rfl rfl hl.1 rfl (lv_room (Nat.le_of_ble_eq_true rfl)) dL_grades_600 ⟨Nat.le_of_ble_eq_true rfl, Nat.le_of_ble_eq_true rfl⟩) hD hA hS (fun H locs hP hS _ => ?_)
              refine lv_sipush (v := (zI (-9999))) hx hb dL_grades_603 (by decide) ?_
              refine z_icmp_ne (u := (wC x1 sc)) (v := (-9999)) (tgt := 642) hx hb (zI_toInt (by omega) (by omega)) (zI_toInt (by omega) (by omega)) dL_grades_606 (by decide) (fun c_606 => ?_) (fun c_606 => ?_)
              · exact absurd (m3 c_594) c_606
              · refine lv_goto (tgt := 638) hx hb dL_grades_609 (by decide) ?_
                refine lv_iconst (v := (nI 1)) hx hb dL_grades_638 (by decide) ?_
                refine lv_goto (tgt := 643) hx hb dL_grades_639 (by decide) ?_
                exact kE _ _ _ H locs _ ls hP hD hS ⟨M2, N, _, _, g, rfl, hj, hd, hT, hI1, hJ.of ⟨by omega, by omega, by omega, by omega⟩ (fun j hj9 => rfl) rfl rfl (by rw [hx1]; simp (disch := omega) only [va_up_ne, va_up_self]) (by rw [hx1]; simp (disch := omega) only [va_up_ne, va_up_self])⟩ dL_grades_643 (Nat.le_of_ble_eq_true rfl) (Nat.le_of_ble_eq_true rfl)
    · exfalso; omega
end LGR
section LGL
variable {p : Program} {l : Launch} {e : Env} {s : State} {m : MethodId} {args : Array Value} {below : List Frame} {meth : Method} {c : Code} {Q : State → Prop} {D : va_G} {cy : Nat → ClassId} {de mi o t d nn : Nat} {cn : Nat → Nat} {x : Nat → Nat → Nat} {g : Nat → Nat} {A : Nat → Prop} {xa za : Int32}
set_option maxRecDepth 100000 in
set_option maxHeartbeats 4000000 in
theorem w_grades_278 {M2 : mM} {q sc hw : Nat} {t7 t8 : Int32} (C0 : LC p l s m args c cL_grades 13 wsL_grades A D cy de mi) (hT : TW cy de M2 o t cn x) (hI : CI nn cn x) (hg2 : g 2 = cn 3) (hdq : d ≠ q) (KK : ∀ (N : mM) (H : Heap) (locs : List Loc) (ls : Array Slot), ((pm D (iwU M2 N) H ∧ mD A (iwU M2 N) ∧ va_S A s.heap H locs) ∧ dj M2 N ∧ N d = some (eI cy 64 g) ∧ N q = some (eI cy 40 (hF x (cn 3)))) → lv_has ls 13 [(0, .ref o), (1, .ref t), (2, .ref d), (3, .int xa), (4, .int za), (5, .int (nI sc)), (6, .int (nI hw)), (7, .int t7), (8, .int t8), (9, .ref q), (10, .int (nI (cn 3)))] → W p l e ({ frames := 11, cells := 400, slots := 2400, locals := 290 } : Room) s m args below meth c H locs (3 + cn 3) (52 + 6 * cn 3) Q (F0 m 303 ls [])) : ∀ (j k : Nat), k + j = cn 3 → ∀ (N : mM) (H : Heap) (locs : List Loc) (ls : Array Slot), ((pm D (iwU M2 N) H ∧ mD A (iwU M2 N) ∧ va_S A s.heap H locs) ∧ dj M2 N ∧ N d = some (eI cy 64 g) ∧ N q = some (eI cy 40 (hF x k))) → lv_has ls 13 [(0, .ref o), (1, .ref t), (2, .ref d), (3, .int xa), (4, .int za), (5, .int (nI sc)), (6, .int (nI hw)), (7, .int t7), (8, .int t8), (9, .ref q), (10, .int (nI k))] → W p l e ({ frames := 11, cells := 400, slots := 2400, locals := 290 } : Room) s m args below meth c H locs (3 + k) (52 + 6 * k) Q (F0 m 278 ls [])
  | 0, k, hk => by
    intro N H locs ls hW hl
    have hk9 : k = cn 3 := by omega
    subst hk9
    obtain ⟨hx, hb, hml, hown, hts, hA, hK, hX, hN0, hst⟩ := id C0
    obtain ⟨⟨hP, hD, hS⟩, hj, hd, hq⟩ := hW
    obtain ⟨n0, n1, n2, n3, n4, -⟩ := id hI.1
    obtain ⟨fo, hfo⟩ := (TW.ou (N := N) hT).fst
    obtain ⟨ft, hft⟩ := (TW.tu (N := N) hT).fst
    refine lv_iload hx hb dL_grades_278 (lv_at hl 10 rfl) ?_
    refine lv_aload_n hx hb dL_grades_280 rfl (lv_at hl 2 rfl) ?_
    refine lv_iconst (v := (nI 2)) hx hb dL_grades_281 (by decide) ?_
    refine n_iald (g := g) (n := 64) (i := 2) hx hb hK hP (iwU_r2 hj hd) (by omega) (by decide) dL_grades_282 ?_
    refine z_icmp_ge (u := ((cn 3 : Nat) : Int)) (v := ((g 2 : Nat) : Int)) (tgt := 303) hx hb (nI_toInt (by omega)) (nI_toInt (by omega)) dL_grades_283 (by decide) (fun c_283 => ?_) (fun c_283 => ?_)
    · exact KK N H locs ls ⟨⟨hP, hD, hS⟩, hj, hd, hq⟩ (lv_sub hl [0, 1, 2, 3, 4, 5, 6, 7, 8, 9, 10] rfl)
    · exfalso; omega
  | j + 1, k, hk => by
    intro N H locs ls hW hl
    obtain ⟨hx, hb, hml, hown, hts, hA, hK, hX, hN0, hst⟩ := id C0
    obtain ⟨⟨hP, hD, hS⟩, hj, hd, hq⟩ := hW
    obtain ⟨n0, n1, n2, n3, n4, -⟩ := id hI.1
    obtain ⟨fo, hfo⟩ := (TW.ou (N := N) hT).fst
    obtain ⟨ft, hft⟩ := (TW.tu (N := N) hT).fst
    have hgb := gr_bd hI k
    refine lv_iload hx hb dL_grades_278 (lv_at hl 10 rfl) ?_
    refine lv_aload_n hx hb dL_grades_280 rfl (lv_at hl 2 rfl) ?_
    refine lv_iconst (v := (nI 2)) hx hb dL_grades_281 (by decide) ?_
    refine n_iald (g := g) (n := 64) (i := 2) hx hb hK hP (iwU_r2 hj hd) (by omega) (by decide) dL_grades_282 ?_
    refine z_icmp_ge (u := ((k : Nat) : Int)) (v := ((g 2 : Nat) : Int)) (tgt := 303) hx hb (nI_toInt (by omega)) (nI_toInt (by omega)) dL_grades_283 (by decide) (fun c_283 => ?_) (fun c_283 => ?_)
    · exfalso; omega
    · refine lv_aload hx hb dL_grades_286 (lv_at hl 9 rfl) ?_
      refine lv_iload hx hb dL_grades_288 (lv_at hl 10 rfl) ?_
      refine lv_aload_n hx hb dL_grades_290 rfl (lv_at hl 0 rfl) ?_
      refine lv_iload hx hb dL_grades_291 (lv_at hl 10 rfl) ?_
      refine r_call (v := (zI (grV x k))) (vx_runV (C := RX5) (As := [.int (nI k)]) (rest := [.int (nI k), .ref q]) ⟨hx, hb, hml, hown, hts⟩ (q_grade l hst de mi D cy _ _ o nn cn x (TW.ou hT) hI.1 k (by omega) (by omega)) (cwV 1 hts gL_grades_X5_grade rfl rfl rfl (by decide +kernel) ⟨Nat.le_of_ble_eq_true rfl, Nat.le_of_ble_eq_true rfl⟩) (mPreXV hX hD hS hA hK hP hfo (ci := 6) rfl) rfl rfl hl.1 rfl (lv_room (Nat.le_of_ble_eq_true rfl)) dL_grades_293 ⟨(by show _ ≤ 400; omega), (by show _ ≤ 2400; omega)⟩) hD hA hS (fun H locs hP hS _ => ?_)
      refine n_name (zI_u _) ?_
      refine s_iast (g := (hF x k)) (n := 40) (i := k) (v := u32 (grV x k)) hx hb hK hP hD hj hS hq (by omega) (by decide) dL_grades_296 (fun H locs hP hD hj hS => ?_)
      obtain ⟨g1, hg1⟩ : ∃ g1 : Nat → Nat, g1 = va_up (hF x k) k (u32 (grV x k)) := ⟨_, rfl⟩
      have hg1_s : g1 k = u32 (grV x k) := by rw [hg1, va_up_self]
      rw [← hg1] at hP hD hj
      obtain ⟨N2, hN2⟩ : ∃ N2 : mM, N2 = mset N q (eI cy 40 g1) := ⟨_, rfl⟩
      have hN2_s : N2 q = some (eI cy 40 g1) := by rw [hN2, mset_self]
      have hN2_d : N2 d = some (eI cy 64 g) := by rw [hN2, mset_ne hdq]; exact hd
      rw [← hN2] at hP hD hj
      obtain ⟨fo, hfo⟩ := (TW.ou (N := N2) hT).fst
      obtain ⟨ft, hft⟩ := (TW.tu (N := N2) hT).fst
      refine n_iinc (x := k) (k := 1) (lv' := [(10, .int (nI (k + 1))), (0, .ref o), (1, .ref t), (2, .ref d), (3, .int xa), (4, .int za), (5, .int (nI sc)), (6, .int (nI hw)), (7, .int t7), (8, .int t8), (9, .ref q)]) hx hb dL_grades_297 rfl hl (q := 10) rfl (by decide) rfl (fun ls hl => ?_)
      refine lv_goto (tgt := 278) hx hb dL_grades_300 (by decide) ?_
      have hq9 : N2 q = some (eI cy 40 (hF x (k + 1))) := by rw [← hF_s, ← hg1]; exact hN2_s
      refine W.widen (k := 3 + (k + 1)) (n := 52 + 6 * (k + 1)) (by omega) (by omega) ?_
      exact w_grades_278 C0 hT hI hg2 hdq KK j (k + 1) (by omega) N2 H locs ls ⟨⟨hP, hD, hS⟩, hj, hN2_d, hq9⟩ (lv_sub hl [1, 2, 3, 4, 5, 6, 7, 8, 9, 10, 0] rfl)
set_option maxRecDepth 100000 in
set_option maxHeartbeats 4000000 in
theorem w_grades_329 {M2 : mM} {q sc hw : Nat} {t7 t8 tv : Int32} {y : Nat → Nat → Nat} (C0 : LC p l s m args c cL_grades 13 wsL_grades A D cy de mi) (hT : TW cy de M2 o t cn x) (hI : CI nn cn x) (hg2 : g 2 = cn 3) (hgy : ∀ k, -1 ≤ grV y k ∧ grV y k ≤ 20) (KK : ∀ (N : mM) (H : Heap) (locs : List Loc) (ls : Array Slot), ((pm D (iwU M2 N) H ∧ mD A (iwU M2 N) ∧ va_S A s.heap H locs) ∧ dj M2 N ∧ N d = some (eI cy 64 g) ∧ N q = some (eI cy 40 (hF y (cn 3)))) → lv_has ls 13 [(0, .ref o), (1, .ref t), (2, .ref d), (3, .int xa), (4, .int za), (5, .int (nI sc)), (6, .int (nI hw)), (7, .int t7), (8, .int t8), (9, .ref q), (10, .int tv), (11, .int (nI (chN y x (cn 3)))), (12, .int (nI (cn 3)))] → W p l e ({ frames := 11, cells := 400, slots := 2400, locals := 290 } : Room) s m args below meth c H locs (70 + cn 3) (560 + 6 * cn 3) Q (F0 m 367 ls [])) : ∀ (j k : Nat), k + j = cn 3 → ∀ (N : mM) (H : Heap) (locs : List Loc) (ls : Array Slot), ((pm D (iwU M2 N) H ∧ mD A (iwU M2 N) ∧ va_S A s.heap H locs) ∧ dj M2 N ∧ N d = some (eI cy 64 g) ∧ N q = some (eI cy 40 (hF y (cn 3)))) → lv_has ls 13 [(0, .ref o), (1, .ref t), (2, .ref d), (3, .int xa), (4, .int za), (5, .int (nI sc)), (6, .int (nI hw)), (7, .int t7), (8, .int t8), (9, .ref q), (10, .int tv), (11, .int (nI (chN y x k))), (12, .int (nI k))] → W p l e ({ frames := 11, cells := 400, slots := 2400, locals := 290 } : Room) s m args below meth c H locs (70 + k) (560 + 6 * k) Q (F0 m 329 ls [])
  | 0, k, hk => by
    intro N H locs ls hW hl
    have hk9 : k = cn 3 := by omega
    subst hk9
    obtain ⟨hx, hb, hml, hown, hts, hA, hK, hX, hN0, hst⟩ := id C0
    obtain ⟨⟨hP, hD, hS⟩, hj, hd, hq⟩ := hW
    obtain ⟨n0, n1, n2, n3, n4, -⟩ := id hI.1
    obtain ⟨fo, hfo⟩ := (TW.ou (N := N) hT).fst
    obtain ⟨ft, hft⟩ := (TW.tu (N := N) hT).fst
    refine lv_iload hx hb dL_grades_329 (lv_at hl 12 rfl) ?_
    refine lv_aload_n hx hb dL_grades_331 rfl (lv_at hl 2 rfl) ?_
    refine lv_iconst (v := (nI 2)) hx hb dL_grades_332 (by decide) ?_
    refine n_iald (g := g) (n := 64) (i := 2) hx hb hK hP (iwU_r2 hj hd) (by omega) (by decide) dL_grades_333 ?_
    refine z_icmp_ge (u := ((cn 3 : Nat) : Int)) (v := ((g 2 : Nat) : Int)) (tgt := 367) hx hb (nI_toInt (by omega)) (nI_toInt (by omega)) dL_grades_334 (by decide) (fun c_334 => ?_) (fun c_334 => ?_)
    · exact KK N H locs ls ⟨⟨hP, hD, hS⟩, hj, hd, hq⟩ (lv_sub hl [0, 1, 2, 3, 4, 5, 6, 7, 8, 9, 10, 11, 12] rfl)
    · exfalso; omega
  | j + 1, k, hk => by
    intro N H locs ls hW hl
    obtain ⟨hx, hb, hml, hown, hts, hA, hK, hX, hN0, hst⟩ := id C0
    obtain ⟨⟨hP, hD, hS⟩, hj, hd, hq⟩ := hW
    obtain ⟨n0, n1, n2, n3, n4, -⟩ := id hI.1
    obtain ⟨fo, hfo⟩ := (TW.ou (N := N) hT).fst
    obtain ⟨ft, hft⟩ := (TW.tu (N := N) hT).fst
    have hgb := gr_bd hI k
    have hch := chN_le y x k
    have hgk := hgy k
    refine lv_iload hx hb dL_grades_329 (lv_at hl 12 rfl) ?_
    refine lv_aload_n hx hb dL_grades_331 rfl (lv_at hl 2 rfl) ?_
    refine lv_iconst (v := (nI 2)) hx hb dL_grades_332 (by decide) ?_
    refine n_iald (g := g) (n := 64) (i := 2) hx hb hK hP (iwU_r2 hj hd) (by omega) (by decide) dL_grades_333 ?_
    refine z_icmp_ge (u := ((k : Nat) : Int)) (v := ((g 2 : Nat) : Int)) (tgt := 367) hx hb (nI_toInt (by omega)) (nI_toInt (by omega)) dL_grades_334 (by decide) (fun c_334 => ?_) (fun c_334 => ?_)
    · exfalso; omega
    · refine lv_iload hx hb dL_grades_337 (lv_at hl 11 rfl) ?_
      refine lv_aload_n hx hb dL_grades_339 rfl (lv_at hl 0 rfl) ?_
      refine lv_iload hx hb dL_grades_340 (lv_at hl 12 rfl) ?_
      refine r_call (v := (zI (grV x k))) (vx_runV (C := RX5) (As := [.int (nI k)]) (rest := [.int (nI (chN y x k))]) ⟨hx, hb, hml, hown, hts⟩ (q_grade l hst de mi D cy _ _ o nn cn x (TW.ou hT) hI.1 k (by omega) (by omega)) (cwV 1 hts gL_grades_X5_grade rfl rfl rfl (by decide +kernel) ⟨Nat.le_of_ble_eq_true rfl, Nat.le_of_ble_eq_true rfl⟩) (mPreXV hX hD hS hA hK hP hfo (ci := 6) rfl) rfl rfl hl.1 rfl (lv_room (Nat.le_of_ble_eq_true rfl)) dL_grades_342 ⟨(by show _ ≤ 400; omega), (by show _ ≤ 2400; omega)⟩) hD hA hS (fun H locs hP hS _ => ?_)
      refine lv_aload hx hb dL_grades_345 (lv_at hl 9 rfl) ?_
      refine lv_iload hx hb dL_grades_347 (lv_at hl 12 rfl) ?_
      refine n_iald (g := (hF y (cn 3))) (n := 40) (i := k) hx hb hK hP (iwU_r2 hj hq) (by omega) (by decide) dL_grades_349 ?_
      refine n_name (show nI (hF y (cn 3) k) = zI (grV y k) from by rw [hF_lt (by omega), zI_u]) ?_
      refine z_icmp_ne (u := (grV x k)) (v := (grV y k)) (tgt := 357) hx hb (zI_toInt (by omega) (by omega)) (zI_toInt (by omega) (by omega)) dL_grades_350 (by decide) (fun c_350 => ?_) (fun c_350 => ?_)
      · have hdk : decide (grV x k ≠ grV y k) = true := decide_eq_true c_350
        refine lv_iconst (v := (nI 1)) hx hb dL_grades_357 (by decide) ?_
        refine n_add (x := chN y x k) (y := 1) hx hb dL_grades_358 ?_
        refine lv_istore (lv' := [(11, .int (nI ((chN y x k) + 1))), (0, .ref o), (1, .ref t), (2, .ref d), (3, .int xa), (4, .int za), (5, .int (nI sc)), (6, .int (nI hw)), (7, .int t7), (8, .int t8), (9, .ref q), (10, .int tv), (12, .int (nI k))]) hx hb dL_grades_359 hl (by decide) rfl (fun ls hl => ?_)
        refine n_iinc (x := k) (k := 1) (lv' := [(12, .int (nI (k + 1))), (11, .int (nI ((chN y x k) + 1))), (0, .ref o), (1, .ref t), (2, .ref d), (3, .int xa), (4, .int za), (5, .int (nI sc)), (6, .int (nI hw)), (7, .int t7), (8, .int t8), (9, .ref q), (10, .int tv)]) hx hb dL_grades_361 rfl hl (q := 12) rfl (by decide) rfl (fun ls hl => ?_)
        refine lv_goto (tgt := 329) hx hb dL_grades_364 (by decide) ?_
        have hl : lv_has ls 13 [(12, .int (nI (k + 1))), (11, .int (nI (chN y x (k + 1)))), (0, .ref o), (1, .ref t), (2, .ref d), (3, .int xa), (4, .int za), (5, .int (nI sc)), (6, .int (nI hw)), (7, .int t7), (8, .int t8), (9, .ref q), (10, .int tv)] := by
          have e9 : chN y x (k + 1) = chN y x k + 1 := by show chN y x k + b2 (decide (grV x k ≠ grV y k)) = _; rw [hdk]; rfl
          rw [e9]
          exact hl
        refine W.widen (k := 70 + (k + 1)) (n := 560 + 6 * (k + 1)) (by omega) (by omega) ?_
        exact w_grades_329 C0 hT hI hg2 hgy KK j (k + 1) (by omega) N H locs ls ⟨⟨hP, hD, hS⟩, hj, hd, hq⟩ (lv_sub hl [2, 3, 4, 5, 6, 7, 8, 9, 10, 11, 12, 1, 0] rfl)
      · have hdk : decide (grV x k ≠ grV y k) = false := decide_eq_false (fun z => z c_350)
        refine lv_iconst (v := (nI 0)) hx hb dL_grades_353 (by decide) ?_
        refine lv_goto (tgt := 358) hx hb dL_grades_354 (by decide) ?_
        refine n_add (x := chN y x k) (y := 0) hx hb dL_grades_358 ?_
        refine lv_istore (lv' := [(11, .int (nI ((chN y x k) + 0))), (0, .ref o), (1, .ref t), (2, .ref d), (3, .int xa), (4, .int za), (5, .int (nI sc)), (6, .int (nI hw)), (7, .int t7), (8, .int t8), (9, .ref q), (10, .int tv), (12, .int (nI k))]) hx hb dL_grades_359 hl (by decide) rfl (fun ls hl => ?_)
        refine n_iinc (x := k) (k := 1) (lv' := [(12, .int (nI (k + 1))), (11, .int (nI ((chN y x k) + 0))), (0, .ref o), (1, .ref t), (2, .ref d), (3, .int xa), (4, .int za), (5, .int (nI sc)), (6, .int (nI hw)), (7, .int t7), (8, .int t8), (9, .ref q), (10, .int tv)]) hx hb dL_grades_361 rfl hl (q := 12) rfl (by decide) rfl (fun ls hl => ?_)
        refine lv_goto (tgt := 329) hx hb dL_grades_364 (by decide) ?_
        have hl : lv_has ls 13 [(12, .int (nI (k + 1))), (11, .int (nI (chN y x (k + 1)))), (0, .ref o), (1, .ref t), (2, .ref d), (3, .int xa), (4, .int za), (5, .int (nI sc)), (6, .int (nI hw)), (7, .int t7), (8, .int t8), (9, .ref q), (10, .int tv)] := by
          have e9 : chN y x (k + 1) = chN y x k + 0 := by show chN y x k + b2 (decide (grV x k ≠ grV y k)) = _; rw [hdk]; rfl
          rw [e9]
          exact hl
        refine W.widen (k := 70 + (k + 1)) (n := 560 + 6 * (k + 1)) (by omega) (by omega) ?_
        exact w_grades_329 C0 hT hI hg2 hgy KK j (k + 1) (by omega) N H locs ls ⟨⟨hP, hD, hS⟩, hj, hd, hq⟩ (lv_sub hl [2, 3, 4, 5, 6, 7, 8, 9, 10, 11, 12, 1, 0] rfl)
end LGL
section LGM
variable {p : Program} {l : Launch} {e : Env} {s : State} {m : MethodId} {args : Array Value} {below : List Frame} {meth : Method} {c : Code} {H : Heap} {locs : List Loc} {Q : State → Prop} {ls : Array Slot} {D : va_G} {cy : Nat → ClassId} {de mi o t d nn : Nat} {cn : Nat → Nat} {x : Nat → Nat → Nat} {g : Nat → Nat} {A : Nat → Prop} {M2 N : mM} {xa za : Int32}
set_option maxRecDepth 100000 in
set_option maxHeartbeats 4000000 in
theorem w_grades_269 (C0 : LC p l s m args c cL_grades 13 wsL_grades A D cy de mi) (kE : LE p l e ({ frames := 11, cells := 400, slots := 2400, locals := 290 } : Room) s m args below meth c cL_grades A D 400 2400 Q (LPo cy de o t d (nn + 1))) (hn : nn + 1 ≤ 512) (hW : LWd D cy de A s H locs M2 N o t d nn cn x g) (sc hw : Nat) (hsc : sc < cn 3) (hl : lv_has ls 13 [(0, .ref o), (1, .ref t), (2, .ref d), (3, .int xa), (4, .int za), (5, .int (nI sc)), (6, .int (nI hw)), (7, .int (zI (grV x sc))), (8, .int (zI (laV x sc)))]) : W p l e ({ frames := 11, cells := 400, slots := 2400, locals := 290 } : Room) s m args below meth c H locs 2 12 Q (F0 m 269 ls []) := by
  obtain ⟨hx, hb, hml, hown, hts, hA, hK, hX, hN0, hst⟩ := id C0
  obtain ⟨⟨hP, hD, hS⟩, hj, hd, hT, hI, hJ⟩ := hW
  obtain ⟨⟨j0, j1, j2, j3⟩, jp, js⟩ := id hJ
  obtain ⟨n0, n1, n2, n3, n4, -⟩ := id hI.1
  obtain ⟨fo, hfo⟩ := (TW.ou (N := N) hT).fst
  obtain ⟨ft, hft⟩ := (TW.tu (N := N) hT).fst
  refine lv_bipush (v := nI 40) hx hb dL_grades_269 (by decide) ?_
  refine n_newa (atype := .int) (n := 40) (x := (40, .inl (fun _ => nI 0))) hx hb (hts _ (List.mem_of_getElem? (i := 3) rfl)) hK hP hD hS hA 0 rfl (fun h9 => h9) rfl (by decide) (by decide) (Nat.le_of_ble_eq_true rfl) (Nat.le_of_ble_eq_true rfl) dL_grades_271 (fun q H hnq _ _ hP hD hS => ?_)
  obtain ⟨hM2q, hNq⟩ := iwU_n hnq
  rw [iwU_set hM2q] at hP hD
  have hdq : d ≠ q := fun z => by rw [z, hNq] at hd; cases hd
  obtain ⟨N1, hN1⟩ : ∃ N1 : mM, N1 = mset N q (eI cy 40 (hF x 0)) := ⟨_, rfl⟩
  have hP : pm D (iwU M2 N1) H := by rw [hN1, hF_0]; exact hP
  have hD : mD A (iwU M2 N1) := by rw [hN1, hF_0]; exact hD
  have hj1 : dj M2 N1 := by rw [hN1]; exact hj.set hM2q
  have hd1 : N1 d = some (eI cy 64 g) := by rw [hN1, mset_ne hdq]; exact hd
  have hq1 : N1 q = some (eI cy 40 (hF x 0)) := by rw [hN1, mset_self]
  clear hj hd hN1
  refine lv_astore (lv' := [(9, .ref q), (0, .ref o), (1, .ref t), (2, .ref d), (3, .int xa), (4, .int za), (5, .int (nI sc)), (6, .int (nI hw)), (7, .int (zI (grV x sc))), (8, .int (zI (laV x sc)))]) hx hb dL_grades_273 hl (by decide) rfl (fun ls hl => ?_)
  refine lv_iconst (v := (nI 0)) hx hb dL_grades_275 (by decide) ?_
  refine lv_istore (lv' := [(10, .int (nI 0)), (9, .ref q), (0, .ref o), (1, .ref t), (2, .ref d), (3, .int xa), (4, .int za), (5, .int (nI sc)), (6, .int (nI hw)), (7, .int (zI (grV x sc))), (8, .int (zI (laV x sc)))]) hx hb dL_grades_276 hl (by decide) rfl (fun ls hl => ?_)
  refine w_grades_278 (nn := nn) (cn := cn) (x := x) (g := g) (q := q) (sc := sc) (hw := hw) (t7 := zI (grV x sc)) (t8 := zI (laV x sc)) C0 hT hI j2 hdq ?_ (cn 3) 0 (by omega) N1 H locs ls ⟨⟨hP, hD, hS⟩, hj1, hd1, hq1⟩ (lv_sub hl [2, 3, 4, 5, 6, 7, 8, 9, 10, 1, 0] rfl)
  clear hP hD hS hj1 hd1 hq1 hl hfo hft
  intro N H locs ls hW hl
  obtain ⟨⟨hP, hD, hS⟩, hj, hd, hq⟩ := hW
  obtain ⟨fo, hfo⟩ := (TW.ou (N := N) hT).fst
  obtain ⟨ft, hft⟩ := (TW.tu (N := N) hT).fst
  refine W.widen (k := 44) (n := 300) (by omega) (by omega) ?_
  refine lv_aload_n hx hb dL_grades_303 rfl (lv_at hl 0 rfl) ?_
  refine lv_aload_n hx hb dL_grades_304 rfl (lv_at hl 1 rfl) ?_
  refine lv_bipush (v := (nI 13)) hx hb dL_grades_305 (by decide) ?_
  refine lv_iload hx hb dL_grades_307 (lv_at hl 4 rfl) ?_
  refine lv_iconst (v := (nI 4)) hx hb dL_grades_309 (by decide) ?_
  refine lv_ishr hx hb dL_grades_310 ?_
  refine lv_bipush (v := (nI 6)) hx hb dL_grades_311 (by decide) ?_
  refine vp_callSi (W.runS (As := [.int (za >>> ((nI 4) &&& 31)), .int (nI 6)]) (rest := [.int (nI 13), .ref t, .ref o]) ⟨hx, hb, hml, hown, hts⟩ (c_L_some l (za >>> ((nI 4) &&& 31)) 6 (by omega) (by omega)) (va_cwS 2 hts gL_grades_L_some rfl rfl rfl (by decide +kernel) ⟨Nat.le_of_ble_eq_true rfl, Nat.le_of_ble_eq_true rfl⟩) mPre0 rfl rfl hl.1 rfl (lv_room (Nat.le_of_ble_eq_true rfl)) dL_grades_313 ⟨Nat.le_of_ble_eq_true rfl, Nat.le_of_ble_eq_true rfl⟩) (fun r9 hr9 => ?_)
  have hr9 : r9 = nI (someF (za >>> ((nI 4) &&& 31)) 6) := hr9
  subst hr9
  have hs_sm1 := someF_lt (za >>> ((nI 4) &&& 31)) (n := 6) (by omega)
  obtain ⟨sm1, e_sm1⟩ : ∃ sm1 : Nat, sm1 = someF (za >>> ((nI 4) &&& 31)) 6 := ⟨_, rfl⟩
  rw [← e_sm1] at hs_sm1 ⊢
  refine lv_iconst (v := (nI 0)) hx hb dL_grades_316 (by decide) ?_
  refine lv_iconst (v := (nI 0)) hx hb dL_grades_317 (by decide) ?_
  refine s_both (va_runS (As := [.ref o, .ref t, .int (nI 13), .int (nI sm1), .int (nI 0), .int (nI 0)]) (rest := []) ⟨hx, hb, hml, hown, hts⟩ (b_takeOut l hst de mi D cy _ _ o t nn cn x hT hI.1 (nI sm1) (nI 0) (nI 0) ((sm1 : Nat) : Int) (nI_toInt (by omega)) ) (va_cwS 6 hts gL_grades_L_both rfl rfl rfl (by decide +kernel) ⟨Nat.le_of_ble_eq_true rfl, Nat.le_of_ble_eq_true rfl⟩) (wPreS hX hN0 (mD_Ul hD) hS hA hK (pm_Ul hP)) rfl rfl hl.1 rfl (lv_room (Nat.le_of_ble_eq_true rfl)) dL_grades_318 ⟨Nat.le_of_ble_eq_true rfl, Nat.le_of_ble_eq_true rfl⟩) hP hD hj hA hS (fun r M2 H locs hq hP hD hj hS _ => ?_)
  rcases hq with ⟨q1, rfl, hT⟩ | ⟨q1, q2, rfl, hT⟩ | ⟨q1, q2, q3, rfl, hT⟩ | ⟨q1, q2, q3, rfl, hT⟩
  · exact absurd ⟨by omega, by omega⟩ q1
  · exact absurd trivial q2
  · obtain ⟨fo, hfo⟩ := (TW.ou (N := N) hT).fst
    obtain ⟨ft, hft⟩ := (TW.tu (N := N) hT).fst
    have hI9 := hI.mono hn
    refine lv_istore (lv' := [(10, .int (zI (-2000000003))), (0, .ref o), (1, .ref t), (2, .ref d), (3, .int xa), (4, .int za), (5, .int (nI sc)), (6, .int (nI hw)), (7, .int (zI (grV x sc))), (8, .int (zI (laV x sc))), (9, .ref q)]) hx hb dL_grades_321 hl (by decide) rfl (fun ls hl => ?_)
    refine lv_iconst (v := (nI 0)) hx hb dL_grades_323 (by decide) ?_
    refine lv_istore (lv' := [(11, .int (nI 0)), (10, .int (zI (-2000000003))), (0, .ref o), (1, .ref t), (2, .ref d), (3, .int xa), (4, .int za), (5, .int (nI sc)), (6, .int (nI hw)), (7, .int (zI (grV x sc))), (8, .int (zI (laV x sc))), (9, .ref q)]) hx hb dL_grades_324 hl (by decide) rfl (fun ls hl => ?_)
    refine lv_iconst (v := (nI 0)) hx hb dL_grades_326 (by decide) ?_
    refine lv_istore (lv' := [(12, .int (nI 0)), (11, .int (nI 0)), (10, .int (zI (-2000000003))), (0, .ref o), (1, .ref t), (2, .ref d), (3, .int xa), (4, .int za), (5, .int (nI sc)), (6, .int (nI hw)), (7, .int (zI (grV x sc))), (8, .int (zI (laV x sc))), (9, .ref q)]) hx hb dL_grades_327 hl (by decide) rfl (fun ls hl => ?_)
    refine W.widen (k := 70 + 0) (n := 560 + 6 * 0) (by omega) (by omega) ?_
    refine w_grades_329 (nn := nn + 1) (cn := cn) (x := x) (y := x) (g := g) (q := q) (sc := sc) (hw := hw) (t7 := zI (grV x sc)) (t8 := zI (laV x sc)) (tv := zI (-2000000003)) C0 hT hI9 j2 (fun k => gr_bd hI k) ?_ (cn 3) 0 (by omega) N H locs ls ⟨⟨hP, hD, hS⟩, hj, hd, hq⟩ (lv_sub hl [3, 4, 5, 6, 7, 8, 9, 10, 11, 12, 2, 1, 0] rfl)
    clear hP hD hS hj hd hq hl hfo hft
    intro N H locs ls hW hl
    obtain ⟨⟨hP, hD, hS⟩, hj, hd, hq⟩ := hW
    obtain ⟨fo, hfo⟩ := (TW.ou (N := N) hT).fst
    obtain ⟨ft, hft⟩ := (TW.tu (N := N) hT).fst
    refine W.widen (k := 120) (n := 900) (by omega) (by omega) ?_
    have hc0 := chN_same x (cn 3)
    refine lv_iload hx hb dL_grades_367 (lv_at hl 10 rfl) ?_
    refine lv_ldc (v := (zI (-2000000003))) hx hb hown (by rw [show (zI (-2000000003)) = (-2000000003 : Int32) by decide]; exact hts _ (List.mem_of_getElem? (i := 2) rfl)) dL_grades_369 ?_
    refine z_icmp_ne (u := (-2000000003)) (v := (-2000000003)) (tgt := 387) hx hb (zI_toInt (by omega) (by omega)) (zI_toInt (by omega) (by omega)) dL_grades_371 (by decide) (fun c_371 => ?_) (fun c_371 => ?_)
    · exfalso; omega
    · refine lv_iload hx hb dL_grades_374 (lv_at hl 11 rfl) ?_
      refine z_if_ne (u := ((chN x x (cn 3) : Nat) : Int)) (tgt := 383) hx hb (nI_toInt (by omega)) dL_grades_376 (by decide) (fun c_376 => ?_) (fun c_376 => ?_)
      · exfalso; omega
      · refine lv_iconst (v := (nI 1)) hx hb dL_grades_379 (by decide) ?_
        refine lv_goto (tgt := 399) hx hb dL_grades_380 (by decide) ?_
        exact kE _ _ _ H locs _ ls hP hD hS ⟨M2, N, _, _, g, rfl, hj, hd, hT, hI.mono hn, hJ.of ⟨by (try simp (disch := omega) only [va_up_ne, va_up_self]); omega, by (try simp (disch := omega) only [va_up_ne, va_up_self]); omega, by (try simp (disch := omega) only [va_up_ne, va_up_self]); omega, by (try simp (disch := omega) only [va_up_ne, va_up_self]); omega⟩ (fun j hj9 => rfl) rfl rfl rfl rfl⟩ dL_grades_399 (Nat.le_of_ble_eq_true rfl) (Nat.le_of_ble_eq_true rfl)
  · have hI0 := P_takeOut hI hn sm1
    obtain ⟨m7, m10⟩ := tkA_10 (va_up x 5 (va_up (x 5) sm1 1)) sm1 (cn 3)
    have mch := tk_ch x (va_up (x 5) sm1 1) sm1 (cn 3)
    have e9 : nI (tkA (va_up x 5 (va_up (x 5) (sm1 : Int).toNat 1)) (sm1 : Int).toNat (cn 3)).1 = nI (tkA (va_up x 5 (va_up (x 5) sm1 1)) sm1 (cn 3)).1 := rfl
    refine n_name e9 ?_
    obtain ⟨x1, hx1⟩ : ∃ x1 : Nat → Nat → Nat, x1 = (tkA (va_up x 5 (va_up (x 5) sm1 1)) sm1 (cn 3)).2 := ⟨_, rfl⟩
    have hT : TW cy de M2 o t cn x1 := by rw [hx1]; exact hT
    obtain ⟨fo, hfo⟩ := (TW.ou (N := N) hT).fst
    obtain ⟨ft, hft⟩ := (TW.tu (N := N) hT).fst
    have hI1 : CI (nn + 1) cn x1 := by rw [hx1]; exact hI0
    rw [← hx1] at m7 m10 mch
    rw [mch]
    have m7b : x1 7 = x 7 := m7.trans (va_up_ne _ _ (by decide))
    have m10b : x1 10 = x 10 := m10.trans (va_up_ne _ _ (by decide))
    have hcl := chN_le x x1 (cn 3)
    refine lv_istore (lv' := [(10, .int (nI (chN x x1 (cn 3)))), (0, .ref o), (1, .ref t), (2, .ref d), (3, .int xa), (4, .int za), (5, .int (nI sc)), (6, .int (nI hw)), (7, .int (zI (grV x sc))), (8, .int (zI (laV x sc))), (9, .ref q)]) hx hb dL_grades_321 hl (by decide) rfl (fun ls hl => ?_)
    refine lv_iconst (v := (nI 0)) hx hb dL_grades_323 (by decide) ?_
    refine lv_istore (lv' := [(11, .int (nI 0)), (10, .int (nI (chN x x1 (cn 3)))), (0, .ref o), (1, .ref t), (2, .ref d), (3, .int xa), (4, .int za), (5, .int (nI sc)), (6, .int (nI hw)), (7, .int (zI (grV x sc))), (8, .int (zI (laV x sc))), (9, .ref q)]) hx hb dL_grades_324 hl (by decide) rfl (fun ls hl => ?_)
    refine lv_iconst (v := (nI 0)) hx hb dL_grades_326 (by decide) ?_
    refine lv_istore (lv' := [(12, .int (nI 0)), (11, .int (nI 0)), (10, .int (nI (chN x x1 (cn 3)))), (0, .ref o), (1, .ref t), (2, .ref d), (3, .int xa), (4, .int za), (5, .int (nI sc)), (6, .int (nI hw)), (7, .int (zI (grV x sc))), (8, .int (zI (laV x sc))), (9, .ref q)]) hx hb dL_grades_327 hl (by decide) rfl (fun ls hl => ?_)
    refine W.widen (k := 70 + 0) (n := 560 + 6 * 0) (by omega) (by omega) ?_
    refine w_grades_329 (nn := nn + 1) (cn := cn) (x := x1) (y := x) (g := g) (q := q) (sc := sc) (hw := hw) (t7 := zI (grV x sc)) (t8 := zI (laV x sc)) (tv := nI (chN x x1 (cn 3))) C0 hT hI1 j2 (fun k => gr_bd hI k) ?_ (cn 3) 0 (by omega) N H locs ls ⟨⟨hP, hD, hS⟩, hj, hd, hq⟩ (lv_sub hl [3, 4, 5, 6, 7, 8, 9, 10, 11, 12, 2, 1, 0] rfl)
    clear hP hD hS hj hd hq hl hfo hft
    intro N H locs ls hW hl
    obtain ⟨⟨hP, hD, hS⟩, hj, hd, hq⟩ := hW
    obtain ⟨fo, hfo⟩ := (TW.ou (N := N) hT).fst
    obtain ⟨ft, hft⟩ := (TW.tu (N := N) hT).fst
    refine W.widen (k := 120) (n := 900) (by omega) (by omega) ?_
    refine lv_iload hx hb dL_grades_367 (lv_at hl 10 rfl) ?_
    refine lv_ldc (v := (zI (-2000000003))) hx hb hown (by rw [show (zI (-2000000003)) = (-2000000003 : Int32) by decide]; exact hts _ (List.mem_of_getElem? (i := 2) rfl)) dL_grades_369 ?_
    refine z_icmp_ne (u := ((chN x x1 (cn 3) : Nat) : Int)) (v := (-2000000003)) (tgt := 387) hx hb (nI_toInt (by omega)) (zI_toInt (by omega) (by omega)) dL_grades_371 (by decide) (fun c_371 => ?_) (fun c_371 => ?_)
    · refine lv_iload hx hb dL_grades_387 (lv_at hl 10 rfl) ?_
      refine lv_iload hx hb dL_grades_389 (lv_at hl 11 rfl) ?_
      refine z_icmp_ne (u := ((chN x x1 (cn 3) : Nat) : Int)) (v := ((chN x x1 (cn 3) : Nat) : Int)) (tgt := 398) hx hb (nI_toInt (by omega)) (nI_toInt (by omega)) dL_grades_391 (by decide) (fun c_391 => ?_) (fun c_391 => ?_)
      · exfalso; omega
      · refine lv_iconst (v := (nI 1)) hx hb dL_grades_394 (by decide) ?_
        refine lv_goto (tgt := 399) hx hb dL_grades_395 (by decide) ?_
        exact kE _ _ _ H locs _ ls hP hD hS ⟨M2, N, _, _, g, rfl, hj, hd, hT, hI1, hJ.of ⟨by omega, by omega, by omega, by omega⟩ (fun j hj9 => rfl) rfl rfl m7b m10b⟩ dL_grades_399 (Nat.le_of_ble_eq_true rfl) (Nat.le_of_ble_eq_true rfl)
    · exfalso; omega
set_option maxRecDepth 100000 in
set_option maxHeartbeats 4000000 in
theorem w_grades (C0 : LC p l s m args c cL_grades 13 wsL_grades A D cy de mi) (kE : LE p l e ({ frames := 11, cells := 400, slots := 2400, locals := 290 } : Room) s m args below meth c cL_grades A D 400 2400 Q (LPo cy de o t d (nn + 1))) (hn : nn + 1 ≤ 512) (hW : LWd D cy de A s H locs M2 N o t d nn cn x g)  (hl : lv_has ls 13 [(0, .ref o), (1, .ref t), (2, .ref d), (3, .int xa), (4, .int za)]) : W p l e ({ frames := 11, cells := 400, slots := 2400, locals := 290 } : Room) s m args below meth c H locs 0 0 Q (F0 m 0 ls []) := by
  obtain ⟨hx, hb, hml, hown, hts, hA, hK, hX, hN0, hst⟩ := id C0
  obtain ⟨⟨hP, hD, hS⟩, hj, hd, hT, hI, hJ⟩ := hW
  obtain ⟨⟨j0, j1, j2, j3⟩, jp, js⟩ := id hJ
  obtain ⟨n0, n1, n2, n3, n4, -⟩ := id hI.1
  obtain ⟨fo, hfo⟩ := (TW.ou (N := N) hT).fst
  obtain ⟨ft, hft⟩ := (TW.tu (N := N) hT).fst
  refine lv_aload_n hx hb dL_grades_0 rfl (lv_at hl 2 rfl) ?_
  refine lv_iconst (v := (nI 2)) hx hb dL_grades_1 (by decide) ?_
  refine n_iald (g := g) (n := 64) (i := 2) hx hb hK hP (iwU_r2 hj hd) (by omega) (by decide) dL_grades_2 ?_
  refine z_if_ne (u := ((g 2 : Nat) : Int)) (tgt := 49) hx hb (nI_toInt (by omega)) dL_grades_3 (by decide) (fun c_3 => ?_) (fun c_3 => ?_)
  · refine lv_iload hx hb dL_grades_49 (lv_at hl 4 rfl) ?_
    refine lv_aload_n hx hb dL_grades_51 rfl (lv_at hl 2 rfl) ?_
    refine lv_iconst (v := (nI 2)) hx hb dL_grades_52 (by decide) ?_
    refine n_iald (g := g) (n := 64) (i := 2) hx hb hK hP (iwU_r2 hj hd) (by omega) (by decide) dL_grades_53 ?_
    refine vp_callSi (W.runS (As := [.int za, .int (nI (g 2))]) (rest := []) ⟨hx, hb, hml, hown, hts⟩ (c_L_some l za (g 2) (by omega) (by omega)) (va_cwS 2 hts gL_grades_L_some rfl rfl rfl (by decide +kernel) ⟨Nat.le_of_ble_eq_true rfl, Nat.le_of_ble_eq_true rfl⟩) mPre0 rfl rfl hl.1 rfl (lv_room (Nat.le_of_ble_eq_true rfl)) dL_grades_54 ⟨Nat.le_of_ble_eq_true rfl, Nat.le_of_ble_eq_true rfl⟩) (fun r9 hr9 => ?_)
    have hr9 : r9 = nI (someF za (g 2)) := hr9
    subst hr9
    have hs_sm1 := someF_lt za (n := g 2) (by omega)
    obtain ⟨sm1, e_sm1⟩ : ∃ sm1 : Nat, sm1 = someF za (g 2) := ⟨_, rfl⟩
    rw [← e_sm1] at hs_sm1 ⊢
    refine lv_istore (lv' := [(5, .int (nI sm1)), (0, .ref o), (1, .ref t), (2, .ref d), (3, .int xa), (4, .int za)]) hx hb dL_grades_57 hl (by decide) rfl (fun ls hl => ?_)
    refine lv_iload_n hx hb dL_grades_59 rfl (lv_at hl 4 rfl) ?_
    refine lv_bipush (v := (nI 14)) hx hb dL_grades_60 (by decide) ?_
    refine vp_callSi (W.runS (As := [.int xa, .int (nI 14)]) (rest := []) ⟨hx, hb, hml, hown, hts⟩ (c_L_some l xa 14 (by omega) (by omega)) (va_cwS 2 hts gL_grades_L_some rfl rfl rfl (by decide +kernel) ⟨Nat.le_of_ble_eq_true rfl, Nat.le_of_ble_eq_true rfl⟩) mPre0 rfl rfl hl.1 rfl (lv_room (Nat.le_of_ble_eq_true rfl)) dL_grades_62 ⟨Nat.le_of_ble_eq_true rfl, Nat.le_of_ble_eq_true rfl⟩) (fun r9 hr9 => ?_)
    have hr9 : r9 = nI (someF xa 14) := hr9
    subst hr9
    have hs_sm2 := someF_lt xa (n := 14) (by omega)
    obtain ⟨sm2, e_sm2⟩ : ∃ sm2 : Nat, sm2 = someF xa 14 := ⟨_, rfl⟩
    rw [← e_sm2] at hs_sm2 ⊢
    refine lv_istore (lv' := [(6, .int (nI sm2)), (5, .int (nI sm1)), (0, .ref o), (1, .ref t), (2, .ref d), (3, .int xa), (4, .int za)]) hx hb dL_grades_65 hl (by decide) rfl (fun ls hl => ?_)
    refine lv_aload_n hx hb dL_grades_67 rfl (lv_at hl 2 rfl) ?_
    refine lv_iload hx hb dL_grades_68 (lv_at hl 1 rfl) ?_
    refine r_call (v := (zI (grV x sm1))) (vx_runV (C := RX5) (As := [.int (nI sm1)]) (rest := []) ⟨hx, hb, hml, hown, hts⟩ (q_grade l hst de mi D cy _ _ o nn cn x (TW.ou hT) hI.1 sm1 (by omega) (by omega)) (cwV 1 hts gL_grades_X5_grade rfl rfl rfl (by decide +kernel) ⟨Nat.le_of_ble_eq_true rfl, Nat.le_of_ble_eq_true rfl⟩) (mPreXV hX hD hS hA hK hP hfo (ci := 6) rfl) rfl rfl hl.1 rfl (lv_room (Nat.le_of_ble_eq_true rfl)) dL_grades_70 ⟨Nat.le_of_ble_eq_true rfl, Nat.le_of_ble_eq_true rfl⟩) hD hA hS (fun H locs hP hS _ => ?_)
    refine lv_istore (lv' := [(7, .int (zI (grV x sm1))), (6, .int (nI sm2)), (5, .int (nI sm1)), (0, .ref o), (1, .ref t), (2, .ref d), (3, .int xa), (4, .int za)]) hx hb dL_grades_73 hl (by decide) rfl (fun ls hl => ?_)
    refine lv_aload_n hx hb dL_grades_75 rfl (lv_at hl 3 rfl) ?_
    refine lv_iload hx hb dL_grades_76 (lv_at hl 2 rfl) ?_
    refine r_call (v := (zI (laV x sm1))) (vx_runV (C := RX5) (As := [.int (nI sm1)]) (rest := []) ⟨hx, hb, hml, hown, hts⟩ (q_lacks l hst de mi D cy _ _ o nn cn x (TW.ou hT) hI.1 sm1 (by omega) (by omega)) (cwV 1 hts gL_grades_X5_lacks rfl rfl rfl (by decide +kernel) ⟨Nat.le_of_ble_eq_true rfl, Nat.le_of_ble_eq_true rfl⟩) (mPreXV hX hD hS hA hK hP hfo (ci := 6) rfl) rfl rfl hl.1 rfl (lv_room (Nat.le_of_ble_eq_true rfl)) dL_grades_78 ⟨Nat.le_of_ble_eq_true rfl, Nat.le_of_ble_eq_true rfl⟩) hD hA hS (fun H locs hP hS _ => ?_)
    refine lv_istore (lv' := [(8, .int (zI (laV x sm1))), (7, .int (zI (grV x sm1))), (6, .int (nI sm2)), (5, .int (nI sm1)), (0, .ref o), (1, .ref t), (2, .ref d), (3, .int xa), (4, .int za)]) hx hb dL_grades_81 hl (by decide) rfl (fun ls hl => ?_)
    refine lv_iload hx hb dL_grades_83 (lv_at hl 2 rfl) ?_
    refine lv_bipush (v := (nI 7)) hx hb dL_grades_85 (by decide) ?_
    refine z_icmp_ge (u := ((sm2 : Nat) : Int)) (v := ((7 : Nat) : Int)) (tgt := 252) hx hb (nI_toInt (by omega)) (nI_toInt (by omega)) dL_grades_87 (by decide) (fun c_87 => ?_) (fun c_87 => ?_)
    · refine lv_iload hx hb dL_grades_252 (lv_at hl 2 rfl) ?_
      refine lv_bipush (v := (nI 8)) hx hb dL_grades_254 (by decide) ?_
      refine z_icmp_ge (u := ((sm2 : Nat) : Int)) (v := ((8 : Nat) : Int)) (tgt := 400) hx hb (nI_toInt (by omega)) (nI_toInt (by omega)) dL_grades_256 (by decide) (fun c_256 => ?_) (fun c_256 => ?_)
      · refine lv_iload hx hb dL_grades_400 (lv_at hl 2 rfl) ?_
        refine lv_bipush (v := (nI 11)) hx hb dL_grades_402 (by decide) ?_
        refine z_icmp_ge (u := ((sm2 : Nat) : Int)) (v := ((11 : Nat) : Int)) (tgt := 488) hx hb (nI_toInt (by omega)) (nI_toInt (by omega)) dL_grades_404 (by decide) (fun c_404 => ?_) (fun c_404 => ?_)
        · exact w_grades_488 C0 kE hn ⟨⟨hP, hD, hS⟩, hj, hd, hT, hI, hJ⟩ sm1 sm2 (by omega) (lv_sub hl [4, 5, 6, 7, 8, 3, 2, 1, 0] rfl)
        · exact w_grades_407 C0 kE hn ⟨⟨hP, hD, hS⟩, hj, hd, hT, hI, hJ⟩ sm1 sm2 (by omega) (lv_sub hl [4, 5, 6, 7, 8, 3, 2, 1, 0] rfl)
      · refine lv_iload_n hx hb dL_grades_259 rfl (lv_at hl 7 rfl) ?_
        refine lv_iconst (v := (nI 4)) hx hb dL_grades_260 (by decide) ?_
        refine lv_ishr hx hb dL_grades_261 ?_
        refine lv_iconst (v := (nI 4)) hx hb dL_grades_262 (by decide) ?_
        refine vp_callSi (W.runS (As := [.int (xa >>> ((nI 4) &&& 31)), .int (nI 4)]) (rest := []) ⟨hx, hb, hml, hown, hts⟩ (c_L_some l (xa >>> ((nI 4) &&& 31)) 4 (by omega) (by omega)) (va_cwS 2 hts gL_grades_L_some rfl rfl rfl (by decide +kernel) ⟨Nat.le_of_ble_eq_true rfl, Nat.le_of_ble_eq_true rfl⟩) mPre0 rfl rfl hl.1 rfl (lv_room (Nat.le_of_ble_eq_true rfl)) dL_grades_263 ⟨Nat.le_of_ble_eq_true rfl, Nat.le_of_ble_eq_true rfl⟩) (fun r9 hr9 => ?_)
        have hr9 : r9 = nI (someF (xa >>> ((nI 4) &&& 31)) 4) := hr9
        subst hr9
        have hs_sm3 := someF_lt (xa >>> ((nI 4) &&& 31)) (n := 4) (by omega)
        obtain ⟨sm3, e_sm3⟩ : ∃ sm3 : Nat, sm3 = someF (xa >>> ((nI 4) &&& 31)) 4 := ⟨_, rfl⟩
        rw [← e_sm3] at hs_sm3 ⊢
        refine z_if_ne (u := ((sm3 : Nat) : Int)) (tgt := 400) hx hb (nI_toInt (by omega)) dL_grades_266 (by decide) (fun c_266 => ?_) (fun c_266 => ?_)
        · refine lv_iload hx hb dL_grades_400 (lv_at hl 2 rfl) ?_
          refine lv_bipush (v := (nI 11)) hx hb dL_grades_402 (by decide) ?_
          refine z_icmp_ge (u := ((sm2 : Nat) : Int)) (v := ((11 : Nat) : Int)) (tgt := 488) hx hb (nI_toInt (by omega)) (nI_toInt (by omega)) dL_grades_404 (by decide) (fun c_404 => ?_) (fun c_404 => ?_)
          · exact w_grades_488 C0 kE hn ⟨⟨hP, hD, hS⟩, hj, hd, hT, hI, hJ⟩ sm1 sm2 (by omega) (lv_sub hl [4, 5, 6, 7, 8, 3, 2, 1, 0] rfl)
          · exact w_grades_407 C0 kE hn ⟨⟨hP, hD, hS⟩, hj, hd, hT, hI, hJ⟩ sm1 sm2 (by omega) (lv_sub hl [4, 5, 6, 7, 8, 3, 2, 1, 0] rfl)
        · exact w_grades_269 C0 kE hn ⟨⟨hP, hD, hS⟩, hj, hd, hT, hI, hJ⟩ sm1 sm2 (by omega) (lv_sub hl [4, 5, 6, 7, 8, 3, 2, 1, 0] rfl)
    · refine lv_iload hx hb dL_grades_90 (lv_at hl 8 rfl) ?_
      refine lv_iconst (v := (nI 5)) hx hb dL_grades_92 (by decide) ?_
      refine lv_ishr hx hb dL_grades_93 ?_
      refine lv_iload_n hx hb dL_grades_94 rfl (lv_at hl 7 rfl) ?_
      refine lv_iconst (v := (nI 4)) hx hb dL_grades_95 (by decide) ?_
      refine lv_ishr hx hb dL_grades_96 ?_
      refine lv_iconst (v := (nI 2)) hx hb dL_grades_97 (by decide) ?_
      refine vp_callSi (W.runS (As := [.int (xa >>> ((nI 4) &&& 31)), .int (nI 2)]) (rest := [.int (za >>> ((nI 5) &&& 31))]) ⟨hx, hb, hml, hown, hts⟩ (c_L_some l (xa >>> ((nI 4) &&& 31)) 2 (by omega) (by omega)) (va_cwS 2 hts gL_grades_L_some rfl rfl rfl (by decide +kernel) ⟨Nat.le_of_ble_eq_true rfl, Nat.le_of_ble_eq_true rfl⟩) mPre0 rfl rfl hl.1 rfl (lv_room (Nat.le_of_ble_eq_true rfl)) dL_grades_98 ⟨Nat.le_of_ble_eq_true rfl, Nat.le_of_ble_eq_true rfl⟩) (fun r9 hr9 => ?_)
      have hr9 : r9 = nI (someF (xa >>> ((nI 4) &&& 31)) 2) := hr9
      subst hr9
      have hs_sm4 := someF_lt (xa >>> ((nI 4) &&& 31)) (n := 2) (by omega)
      obtain ⟨sm4, e_sm4⟩ : ∃ sm4 : Nat, sm4 = someF (xa >>> ((nI 4) &&& 31)) 2 := ⟨_, rfl⟩
      rw [← e_sm4] at hs_sm4 ⊢
      refine z_if_ne (u := ((sm4 : Nat) : Int)) (tgt := 109) hx hb (nI_toInt (by omega)) dL_grades_101 (by decide) (fun c_101 => ?_) (fun c_101 => ?_)
      · refine lv_bipush (v := (nI 8)) hx hb dL_grades_109 (by decide) ?_
        refine vp_callSi (W.runS (As := [.int (za >>> ((nI 5) &&& 31)), .int (nI 8)]) (rest := []) ⟨hx, hb, hml, hown, hts⟩ (c_L_some l (za >>> ((nI 5) &&& 31)) 8 (by omega) (by omega)) (va_cwS 2 hts gL_grades_L_some rfl rfl rfl (by decide +kernel) ⟨Nat.le_of_ble_eq_true rfl, Nat.le_of_ble_eq_true rfl⟩) mPre0 rfl rfl hl.1 rfl (lv_room (Nat.le_of_ble_eq_true rfl)) dL_grades_111 ⟨Nat.le_of_ble_eq_true rfl, Nat.le_of_ble_eq_true rfl⟩) (fun r9 hr9 => ?_)
        have hr9 : r9 = nI (someF (za >>> ((nI 5) &&& 31)) 8) := hr9
        subst hr9
        have hs_sm5 := someF_lt (za >>> ((nI 5) &&& 31)) (n := 8) (by omega)
        obtain ⟨sm5, e_sm5⟩ : ∃ sm5 : Nat, sm5 = someF (za >>> ((nI 5) &&& 31)) 8 := ⟨_, rfl⟩
        rw [← e_sm5] at hs_sm5 ⊢
        exact w_grades_114 C0 kE hn ⟨⟨hP, hD, hS⟩, hj, hd, hT, hI, hJ⟩ sm1 sm2 (by omega) sm5 (by omega) (lv_sub hl [4, 5, 6, 7, 8, 3, 2, 1, 0] rfl)
      · refine lv_bipush (v := (nI 21)) hx hb dL_grades_104 (by decide) ?_
        refine lv_goto (tgt := 111) hx hb dL_grades_106 (by decide) ?_
        refine vp_callSi (W.runS (As := [.int (za >>> ((nI 5) &&& 31)), .int (nI 21)]) (rest := []) ⟨hx, hb, hml, hown, hts⟩ (c_L_some l (za >>> ((nI 5) &&& 31)) 21 (by omega) (by omega)) (va_cwS 2 hts gL_grades_L_some rfl rfl rfl (by decide +kernel) ⟨Nat.le_of_ble_eq_true rfl, Nat.le_of_ble_eq_true rfl⟩) mPre0 rfl rfl hl.1 rfl (lv_room (Nat.le_of_ble_eq_true rfl)) dL_grades_111 ⟨Nat.le_of_ble_eq_true rfl, Nat.le_of_ble_eq_true rfl⟩) (fun r9 hr9 => ?_)
        have hr9 : r9 = nI (someF (za >>> ((nI 5) &&& 31)) 21) := hr9
        subst hr9
        have hs_sm6 := someF_lt (za >>> ((nI 5) &&& 31)) (n := 21) (by omega)
        obtain ⟨sm6, e_sm6⟩ : ∃ sm6 : Nat, sm6 = someF (za >>> ((nI 5) &&& 31)) 21 := ⟨_, rfl⟩
        rw [← e_sm6] at hs_sm6 ⊢
        exact w_grades_114 C0 kE hn ⟨⟨hP, hD, hS⟩, hj, hd, hT, hI, hJ⟩ sm1 sm2 (by omega) sm6 (by omega) (lv_sub hl [4, 5, 6, 7, 8, 3, 2, 1, 0] rfl)
  · exact w_grades_6 C0 kE hn ⟨⟨hP, hD, hS⟩, hj, hd, hT, hI, hJ⟩ (by omega) (lv_sub hl [0, 1, 2, 3, 4] rfl)
end LGM
set_option maxRecDepth 100000 in
set_option maxHeartbeats 4000000 in
theorem c_L_grades (l : Launch) (hst : l.stackTraces = false) (de mi : Nat) (D : va_G) (cy : Nat → ClassId) (M2 N : mM) (sz o t d nn : Nat) (cn : Nat → Nat) (x : Nat → Nat → Nat) (g : Nat → Nat) (xa za : Int32) (hn : nn + 1 ≤ 512) (hj : dj M2 N) (hd : N d = some (eI cy 64 g)) (hT : TW cy de M2 o t cn x) (hI : CI nn cn x) (hJ : DI cn x g) : lMi l yL_grades wsL_grades ({ frames := 11, cells := 400, slots := 2400, locals := 290 } : Room) de mi D cy (iwU M2 N) sz [.ref o, .ref t, .ref d, .int xa, .int za] (fun r M' => r = nI 1 ∧ LPo cy de o t d (nn + 1) M') 400 2400 := by
  refine lM.of (cc := cL_grades) (maxL := 13) (ret := some .boolean) (by decide) rfl (Nat.le_of_ble_eq_true rfl) ?_
  intro p e s m args below meth c ls hsz hx hb hr hts hown hlocks hml hP hD hS hA hK hX hN hl
  have hl : lv_has ls 13 [(0, .ref o), (1, .ref t), (2, .ref d), (3, .int xa), (4, .int za)] := hl
  have C0 : LC p l s m args c cL_grades 13 wsL_grades (mA (iwU M2 N) sz) D cy de mi := ⟨hx, hb, hml, hown, hts, hA, hK, hX, hN, hst⟩
  exact w_grades C0 (fun k n M' H locs pc ls h1 h2 h3 h4 h5 h6 h7 => e_wz hx hb hr hlocks (by decide) h1 h2 h3 ⟨rfl, h4⟩ h5 h6 h7) hn ⟨⟨hP, hD, hS⟩, hj, hd, hT, hI, hJ⟩ hl
