/-! the law: writes -/
theorem DI_pupil {c : Nat → Nat} {x x' : Nat → Nat → Nat} {g g' : Nat → Nat} (h : DI c x g) (hc : c 2 < 20) (u : Nat) (h0 : g' 0 = c 1 ∧ g' 1 = c 2 + 1 ∧ g' 2 = c 3 ∧ g' 3 = c 0) (h1 : g' (4 + c 2) = u) (hg : ∀ j, 4 ≤ j → j ≠ 4 + c 2 → g' j = g j) (h7 : x' 7 = va_up (x 7) (c 2) u) (h10 : x' 10 = x 10) : DI (va_up c 2 (c 2 + 1)) x' g' := by
  refine ⟨by simp (disch := omega) only [va_up_ne, va_up_self]; exact h0, fun p hp => ?_, fun s hs => ?_⟩
  · rw [va_up_self] at hp
    rw [h7]
    by_cases e : p = c 2
    · rw [e, va_up_self]; exact h1
    · rw [va_up_ne _ _ e, hg _ (by omega) (by omega)]; exact h.2.1 p (by omega)
  · rw [va_up_ne _ _ (by decide)] at hs
    obtain ⟨a, b⟩ := h.2.2 s hs
    rw [va_up_self, h7, h10, hg _ (by omega) (by omega), va_up_ne _ _ (by omega)]
    exact ⟨by omega, b⟩
theorem DI_write {c : Nat → Nat} {x x' : Nat → Nat → Nat} {g g' : Nat → Nat} (h : DI c x g) (hc2 : c 2 ≤ 20) (u : Nat) (hu : u < c 2) (h0 : g' 0 = c 1) (h1 : g' 1 = c 2) (h2 : g' 2 = c 3 + 1) (h3 : g' 3 = 0) (h4 : g' (24 + c 3) = u) (hg : ∀ j, 4 ≤ j → j ≠ 24 + c 3 → g' j = g j) (h7 : x' 7 = x 7) (h10 : x' 10 = va_up (x 10) (c 3) (x 7 u)) : DI (va_up (va_up c 3 (c 3 + 1)) 0 0) x' g' := by
  refine ⟨?_, fun p hp => ?_, fun s hs => ?_⟩
  · simp (disch := omega) only [va_up_ne, va_up_self]; exact ⟨h0, h1, h2, h3⟩
  · simp (disch := omega) only [va_up_ne, va_up_self] at hp
    rw [h7, hg _ (by omega) (by omega)]; exact h.2.1 p hp
  · simp (disch := omega) only [va_up_ne, va_up_self] at hs ⊢
    rw [h7, h10]
    by_cases e : s = c 3
    · rw [e, va_up_self, h4]; exact ⟨hu, rfl⟩
    · rw [va_up_ne _ _ e, hg _ (by omega) (by omega)]; exact h.2.2 s (by omega)
def LWs (D : va_G) (cy : Nat → ClassId) (de : Nat) (A : Nat → Prop) (s : State) (H : Heap) (locs : List Loc) (M2 N : mM) (o t d nn : Nat) (cn : Nat → Nat) (x : Nat → Nat → Nat) (g : Nat → Nat) : Prop := (pm D (iwU M2 N) H ∧ mD A (iwU M2 N) ∧ va_S A s.heap H locs) ∧ dj M2 N ∧ N d = some (eI cy 64 g) ∧ TW cy de M2 o t cn x ∧ CI nn cn x
section LWR
variable {p : Program} {l : Launch} {e : Env} {s : State} {m : MethodId} {args : Array Value} {below : List Frame} {meth : Method} {c : Code} {H : Heap} {locs : List Loc} {Q : State → Prop} {ls : Array Slot} {D : va_G} {cy : Nat → ClassId} {de mi o t d nn : Nat} {cn : Nat → Nat} {x : Nat → Nat → Nat} {g : Nat → Nat} {A : Nat → Prop} {M2 N : mM} {xa za : Int32}
set_option maxRecDepth 100000 in
set_option maxHeartbeats 4000000 in
theorem w_writes_14 (C0 : LC p l s m args c cL_writes 13 wsL_writes A D cy de mi) (kE : LE p l e ({ frames := 11, cells := 200, slots := 1600, locals := 290 } : Room) s m args below meth c cL_writes A D 200 1600 Q (LPo cy de o t d (nn + 1))) (hn : nn + 1 ≤ 512) (hW : LWd D cy de A s H locs M2 N o t d nn cn x g)  (hl : lv_has ls 13 [(0, .ref o), (1, .ref t), (2, .ref d), (3, .int xa), (4, .int za)]) : W p l e ({ frames := 11, cells := 200, slots := 1600, locals := 290 } : Room) s m args below meth c H locs 0 0 Q (F0 m 14 ls []) := by
  obtain ⟨hx, hb, hml, hown, hts, hA, hK, hX, hN0, hst⟩ := id C0
  obtain ⟨⟨hP, hD, hS⟩, hj, hd, hT, hI, hJ⟩ := hW
  obtain ⟨⟨j0, j1, j2, j3⟩, jp, js⟩ := id hJ
  obtain ⟨n0, n1, n2, n3, n4, -⟩ := id hI.1
  obtain ⟨fo, hfo⟩ := (TW.ou (N := N) hT).fst
  obtain ⟨ft, hft⟩ := (TW.tu (N := N) hT).fst
  refine lv_iload hx hb dL_writes_14 (lv_at hl 4 rfl) ?_
  refine lv_iconst (v := (nI 3)) hx hb dL_writes_16 (by decide) ?_
  refine vp_callSi (W.runS (As := [.int za, .int (nI 3)]) (rest := []) ⟨hx, hb, hml, hown, hts⟩ (c_L_some l za 3 (by omega) (by omega)) (va_cwS 2 hts gL_writes_L_some rfl rfl rfl (by decide +kernel) ⟨Nat.le_of_ble_eq_true rfl, Nat.le_of_ble_eq_true rfl⟩) mPre0 rfl rfl hl.1 rfl (lv_room (Nat.le_of_ble_eq_true rfl)) dL_writes_17 ⟨Nat.le_of_ble_eq_true rfl, Nat.le_of_ble_eq_true rfl⟩) (fun r9 hr9 => ?_)
  have hr9 : r9 = nI (someF za 3) := hr9
  subst hr9
  have hs_sm1 := someF_lt za (n := 3) (by omega)
  obtain ⟨sm1, e_sm1⟩ : ∃ sm1 : Nat, sm1 = someF za 3 := ⟨_, rfl⟩
  rw [← e_sm1] at hs_sm1 ⊢
  refine lv_istore (lv' := [(6, .int (nI sm1)), (0, .ref o), (1, .ref t), (2, .ref d), (3, .int xa), (4, .int za)]) hx hb dL_writes_20 hl (by decide) rfl (fun ls hl => ?_)
  refine lv_iload hx hb dL_writes_22 (lv_at hl 5 rfl) ?_
  refine lv_iconst (v := (nI 3)) hx hb dL_writes_24 (by decide) ?_
  refine lv_ishr hx hb dL_writes_25 ?_
  refine lv_iconst (v := (nI 2)) hx hb dL_writes_26 (by decide) ?_
  refine vp_callSi (W.runS (As := [.int (za >>> ((nI 3) &&& 31)), .int (nI 2)]) (rest := []) ⟨hx, hb, hml, hown, hts⟩ (c_L_some l (za >>> ((nI 3) &&& 31)) 2 (by omega) (by omega)) (va_cwS 2 hts gL_writes_L_some rfl rfl rfl (by decide +kernel) ⟨Nat.le_of_ble_eq_true rfl, Nat.le_of_ble_eq_true rfl⟩) mPre0 rfl rfl hl.1 rfl (lv_room (Nat.le_of_ble_eq_true rfl)) dL_writes_27 ⟨Nat.le_of_ble_eq_true rfl, Nat.le_of_ble_eq_true rfl⟩) (fun r9 hr9 => ?_)
  have hr9 : r9 = nI (someF (za >>> ((nI 3) &&& 31)) 2) := hr9
  subst hr9
  have hs_sm2 := someF_lt (za >>> ((nI 3) &&& 31)) (n := 2) (by omega)
  obtain ⟨sm2, e_sm2⟩ : ∃ sm2 : Nat, sm2 = someF (za >>> ((nI 3) &&& 31)) 2 := ⟨_, rfl⟩
  rw [← e_sm2] at hs_sm2 ⊢
  refine lv_istore (lv' := [(7, .int (nI sm2)), (6, .int (nI sm1)), (0, .ref o), (1, .ref t), (2, .ref d), (3, .int xa), (4, .int za)]) hx hb dL_writes_30 hl (by decide) rfl (fun ls hl => ?_)
  refine lv_aload_n hx hb dL_writes_32 rfl (lv_at hl 2 rfl) ?_
  refine lv_iload hx hb dL_writes_33 (lv_at hl 1 rfl) ?_
  refine lv_iload hx hb dL_writes_35 (lv_at hl 0 rfl) ?_
  refine lv_iconst (v := (nI 1)) hx hb dL_writes_37 (by decide) ?_
  refine z_icmp_ne (u := ((sm2 : Nat) : Int)) (v := ((1 : Nat) : Int)) (tgt := 45) hx hb (nI_toInt (by omega)) (nI_toInt (by omega)) dL_writes_38 (by decide) (fun c_38 => ?_) (fun c_38 => ?_)
  · refine lv_iconst (v := (nI 0)) hx hb dL_writes_45 (by decide) ?_
    refine r_call (v := (nI (shV x sm1 (b2 false)))) (vx_runV (C := RX5) (As := [.int (nI sm1), .int (nI (b2 false))]) (rest := []) ⟨hx, hb, hml, hown, hts⟩ (q_sheets l hst de mi D cy _ _ o nn cn x (TW.ou hT) hI.1 sm1 false (by omega)) (cwV 2 hts gL_writes_X5_sheets rfl rfl rfl (by decide +kernel) ⟨Nat.le_of_ble_eq_true rfl, Nat.le_of_ble_eq_true rfl⟩) (mPreXV hX hD hS hA hK hP hfo (ci := 6) rfl) rfl rfl hl.1 rfl (lv_room (Nat.le_of_ble_eq_true rfl)) dL_writes_46 ⟨Nat.le_of_ble_eq_true rfl, Nat.le_of_ble_eq_true rfl⟩) hD hA hS (fun H locs hP hS _ => ?_)
    have hbd0 := sh_bd hI sm1 (b2 true)
    have hbd1 := sh_bd hI sm1 (b2 false)
    refine lv_istore (lv' := [(8, .int (nI (shV x sm1 (b2 false)))), (7, .int (nI sm2)), (6, .int (nI sm1)), (0, .ref o), (1, .ref t), (2, .ref d), (3, .int xa), (4, .int za)]) hx hb dL_writes_49 hl (by decide) rfl (fun ls hl => ?_)
    refine lv_aload_n hx hb dL_writes_51 rfl (lv_at hl 3 rfl) ?_
    refine lv_aload_n hx hb dL_writes_52 rfl (lv_at hl 4 rfl) ?_
    refine lv_iconst (v := (nI 5)) hx hb dL_writes_53 (by decide) ?_
    refine lv_iload hx hb dL_writes_54 (lv_at hl 2 rfl) ?_
    refine lv_iload hx hb dL_writes_56 (lv_at hl 1 rfl) ?_
    refine lv_iconst (v := (nI 1)) hx hb dL_writes_58 (by decide) ?_
    refine lv_iload hx hb dL_writes_59 (lv_at hl 7 rfl) ?_
    refine lv_iconst (v := (nI 5)) hx hb dL_writes_61 (by decide) ?_
    refine lv_ishr hx hb dL_writes_62 ?_
    refine lv_iconst (v := (nI 4)) hx hb dL_writes_63 (by decide) ?_
    refine vp_callSi (W.runS (As := [.int (za >>> ((nI 5) &&& 31)), .int (nI 4)]) (rest := [.int (nI 1), .int (nI sm2), .int (nI sm1), .int (nI 5), .ref t, .ref o]) ⟨hx, hb, hml, hown, hts⟩ (c_L_some l (za >>> ((nI 5) &&& 31)) 4 (by omega) (by omega)) (va_cwS 2 hts gL_writes_L_some rfl rfl rfl (by decide +kernel) ⟨Nat.le_of_ble_eq_true rfl, Nat.le_of_ble_eq_true rfl⟩) mPre0 rfl rfl hl.1 rfl (lv_room (Nat.le_of_ble_eq_true rfl)) dL_writes_64 ⟨Nat.le_of_ble_eq_true rfl, Nat.le_of_ble_eq_true rfl⟩) (fun r9 hr9 => ?_)
    have hr9 : r9 = nI (someF (za >>> ((nI 5) &&& 31)) 4) := hr9
    subst hr9
    have hs_sm3 := someF_lt (za >>> ((nI 5) &&& 31)) (n := 4) (by omega)
    obtain ⟨sm3, e_sm3⟩ : ∃ sm3 : Nat, sm3 = someF (za >>> ((nI 5) &&& 31)) 4 := ⟨_, rfl⟩
    rw [← e_sm3] at hs_sm3 ⊢
    refine n_add (x := 1) (y := sm3) hx hb dL_writes_67 ?_
    have hb9 : decide ((nI sm2).toInt = 1) = false := by rw [nI_toInt (by omega)]; exact decide_eq_false (by omega)
    refine s_both (va_runS (As := [.ref o, .ref t, .int (nI 5), .int (nI sm1), .int (nI sm2), .int (nI (1 + sm3))]) (rest := []) ⟨hx, hb, hml, hown, hts⟩ (b_print l hst de mi D cy _ _ o t nn cn x hT hI.1 (nI sm1) (nI sm2) (nI (1 + sm3)) ((sm1 : Nat) : Int) (nI_toInt (by omega)) ((1 + sm3 : Nat) : Int) (nI_toInt (by omega)) ) (va_cwS 6 hts gL_writes_L_both rfl rfl rfl (by decide +kernel) ⟨Nat.le_of_ble_eq_true rfl, Nat.le_of_ble_eq_true rfl⟩) (wPreS hX hN0 (mD_Ul hD) hS hA hK (pm_Ul hP)) rfl rfl hl.1 rfl (lv_room (Nat.le_of_ble_eq_true rfl)) dL_writes_68 ⟨Nat.le_of_ble_eq_true rfl, Nat.le_of_ble_eq_true rfl⟩) hP hD hj hA hS (fun r M2 H locs hq hP hD hj hS _ => ?_)
    rcases hq with ⟨q1, q4, hT⟩ | ⟨q1, q2, q4, hT⟩ | ⟨q1, q2, q3, q4, hT⟩ | ⟨q1, q2, q3, q4, hT⟩
    · exact absurd ⟨by omega, by omega⟩ q1
    · exact absurd ⟨by omega, by omega⟩ q2
    · exact absurd trivial q3
    · obtain ⟨fo, hfo⟩ := (TW.ou (N := N) hT).fst
      obtain ⟨ft, hft⟩ := (TW.tu (N := N) hT).fst
      have q5 : r = nI (shV x sm1 (b2 false) + (1 + sm3)) := by rw [hb9] at q4; exact q4
      subst q5
      have hbd := sh_bd hI sm1 (b2 false)
      refine lv_iload hx hb dL_writes_71 (lv_at hl 0 rfl) ?_
      refine lv_iconst (v := (nI 1)) hx hb dL_writes_73 (by decide) ?_
      refine n_add (x := shV x sm1 (b2 false)) (y := 1) hx hb dL_writes_74 ?_
      refine lv_iload hx hb dL_writes_75 (lv_at hl 7 rfl) ?_
      refine lv_iconst (v := (nI 5)) hx hb dL_writes_77 (by decide) ?_
      refine lv_ishr hx hb dL_writes_78 ?_
      refine lv_iconst (v := (nI 4)) hx hb dL_writes_79 (by decide) ?_
      refine vp_callSi (W.runS (As := [.int (za >>> ((nI 5) &&& 31)), .int (nI 4)]) (rest := [.int (nI ((shV x sm1 (b2 false)) + 1)), .int (nI (shV x sm1 (b2 false) + (1 + sm3)))]) ⟨hx, hb, hml, hown, hts⟩ (c_L_some l (za >>> ((nI 5) &&& 31)) 4 (by omega) (by omega)) (va_cwS 2 hts gL_writes_L_some rfl rfl rfl (by decide +kernel) ⟨Nat.le_of_ble_eq_true rfl, Nat.le_of_ble_eq_true rfl⟩) mPre0 rfl rfl hl.1 rfl (lv_room (Nat.le_of_ble_eq_true rfl)) dL_writes_80 ⟨Nat.le_of_ble_eq_true rfl, Nat.le_of_ble_eq_true rfl⟩) (fun r9 hr9 => ?_)
      have hr9 : r9 = nI (someF (za >>> ((nI 5) &&& 31)) 4) := hr9
      subst hr9
      have hs_sm4 := someF_lt (za >>> ((nI 5) &&& 31)) (n := 4) (by omega)
      obtain ⟨sm4, e_sm4⟩ : ∃ sm4 : Nat, sm4 = someF (za >>> ((nI 5) &&& 31)) 4 := ⟨_, rfl⟩
      rw [← e_sm4] at hs_sm4 ⊢
      refine n_add (x := (shV x sm1 (b2 false)) + 1) (y := sm4) hx hb dL_writes_83 ?_
      refine z_icmp_ne (u := ((shV x sm1 (b2 false) + (1 + sm3) : Nat) : Int)) (v := ((((shV x sm1 (b2 false)) + 1) + sm4 : Nat) : Int)) (tgt := 91) hx hb (nI_toInt (by omega)) (nI_toInt (by omega)) dL_writes_84 (by decide) (fun c_84 => ?_) (fun c_84 => ?_)
      · exfalso; omega
      · refine lv_iconst (v := (nI 1)) hx hb dL_writes_87 (by decide) ?_
        refine lv_goto (tgt := 92) hx hb dL_writes_88 (by decide) ?_
        exact kE _ _ _ H locs _ ls hP hD hS ⟨M2, N, _, _, g, rfl, hj, hd, hT, P_print hI hn _ _ _ q2, hJ.of ⟨by omega, by omega, by omega, by omega⟩ (fun j hj9 => rfl) rfl rfl (by split <;> exact va_up_ne _ _ (by decide)) (by split <;> exact va_up_ne _ _ (by decide))⟩ dL_writes_92 (Nat.le_of_ble_eq_true rfl) (Nat.le_of_ble_eq_true rfl)
  · refine lv_iconst (v := (nI 1)) hx hb dL_writes_41 (by decide) ?_
    refine lv_goto (tgt := 46) hx hb dL_writes_42 (by decide) ?_
    refine r_call (v := (nI (shV x sm1 (b2 true)))) (vx_runV (C := RX5) (As := [.int (nI sm1), .int (nI (b2 true))]) (rest := []) ⟨hx, hb, hml, hown, hts⟩ (q_sheets l hst de mi D cy _ _ o nn cn x (TW.ou hT) hI.1 sm1 true (by omega)) (cwV 2 hts gL_writes_X5_sheets rfl rfl rfl (by decide +kernel) ⟨Nat.le_of_ble_eq_true rfl, Nat.le_of_ble_eq_true rfl⟩) (mPreXV hX hD hS hA hK hP hfo (ci := 6) rfl) rfl rfl hl.1 rfl (lv_room (Nat.le_of_ble_eq_true rfl)) dL_writes_46 ⟨Nat.le_of_ble_eq_true rfl, Nat.le_of_ble_eq_true rfl⟩) hD hA hS (fun H locs hP hS _ => ?_)
    have hbd0 := sh_bd hI sm1 (b2 true)
    have hbd1 := sh_bd hI sm1 (b2 false)
    refine lv_istore (lv' := [(8, .int (nI (shV x sm1 (b2 true)))), (7, .int (nI sm2)), (6, .int (nI sm1)), (0, .ref o), (1, .ref t), (2, .ref d), (3, .int xa), (4, .int za)]) hx hb dL_writes_49 hl (by decide) rfl (fun ls hl => ?_)
    refine lv_aload_n hx hb dL_writes_51 rfl (lv_at hl 3 rfl) ?_
    refine lv_aload_n hx hb dL_writes_52 rfl (lv_at hl 4 rfl) ?_
    refine lv_iconst (v := (nI 5)) hx hb dL_writes_53 (by decide) ?_
    refine lv_iload hx hb dL_writes_54 (lv_at hl 2 rfl) ?_
    refine lv_iload hx hb dL_writes_56 (lv_at hl 1 rfl) ?_
    refine lv_iconst (v := (nI 1)) hx hb dL_writes_58 (by decide) ?_
    refine lv_iload hx hb dL_writes_59 (lv_at hl 7 rfl) ?_
    refine lv_iconst (v := (nI 5)) hx hb dL_writes_61 (by decide) ?_
    refine lv_ishr hx hb dL_writes_62 ?_
    refine lv_iconst (v := (nI 4)) hx hb dL_writes_63 (by decide) ?_
    refine vp_callSi (W.runS (As := [.int (za >>> ((nI 5) &&& 31)), .int (nI 4)]) (rest := [.int (nI 1), .int (nI sm2), .int (nI sm1), .int (nI 5), .ref t, .ref o]) ⟨hx, hb, hml, hown, hts⟩ (c_L_some l (za >>> ((nI 5) &&& 31)) 4 (by omega) (by omega)) (va_cwS 2 hts gL_writes_L_some rfl rfl rfl (by decide +kernel) ⟨Nat.le_of_ble_eq_true rfl, Nat.le_of_ble_eq_true rfl⟩) mPre0 rfl rfl hl.1 rfl (lv_room (Nat.le_of_ble_eq_true rfl)) dL_writes_64 ⟨Nat.le_of_ble_eq_true rfl, Nat.le_of_ble_eq_true rfl⟩) (fun r9 hr9 => ?_)
    have hr9 : r9 = nI (someF (za >>> ((nI 5) &&& 31)) 4) := hr9
    subst hr9
    have hs_sm5 := someF_lt (za >>> ((nI 5) &&& 31)) (n := 4) (by omega)
    obtain ⟨sm5, e_sm5⟩ : ∃ sm5 : Nat, sm5 = someF (za >>> ((nI 5) &&& 31)) 4 := ⟨_, rfl⟩
    rw [← e_sm5] at hs_sm5 ⊢
    refine n_add (x := 1) (y := sm5) hx hb dL_writes_67 ?_
    have hb9 : decide ((nI sm2).toInt = 1) = true := by rw [nI_toInt (by omega)]; exact decide_eq_true (by omega)
    refine s_both (va_runS (As := [.ref o, .ref t, .int (nI 5), .int (nI sm1), .int (nI sm2), .int (nI (1 + sm5))]) (rest := []) ⟨hx, hb, hml, hown, hts⟩ (b_print l hst de mi D cy _ _ o t nn cn x hT hI.1 (nI sm1) (nI sm2) (nI (1 + sm5)) ((sm1 : Nat) : Int) (nI_toInt (by omega)) ((1 + sm5 : Nat) : Int) (nI_toInt (by omega)) ) (va_cwS 6 hts gL_writes_L_both rfl rfl rfl (by decide +kernel) ⟨Nat.le_of_ble_eq_true rfl, Nat.le_of_ble_eq_true rfl⟩) (wPreS hX hN0 (mD_Ul hD) hS hA hK (pm_Ul hP)) rfl rfl hl.1 rfl (lv_room (Nat.le_of_ble_eq_true rfl)) dL_writes_68 ⟨Nat.le_of_ble_eq_true rfl, Nat.le_of_ble_eq_true rfl⟩) hP hD hj hA hS (fun r M2 H locs hq hP hD hj hS _ => ?_)
    rcases hq with ⟨q1, q4, hT⟩ | ⟨q1, q2, q4, hT⟩ | ⟨q1, q2, q3, q4, hT⟩ | ⟨q1, q2, q3, q4, hT⟩
    · exact absurd ⟨by omega, by omega⟩ q1
    · exact absurd ⟨by omega, by omega⟩ q2
    · exact absurd trivial q3
    · obtain ⟨fo, hfo⟩ := (TW.ou (N := N) hT).fst
      obtain ⟨ft, hft⟩ := (TW.tu (N := N) hT).fst
      have q5 : r = nI (shV x sm1 (b2 true) + (1 + sm5)) := by rw [hb9] at q4; exact q4
      subst q5
      have hbd := sh_bd hI sm1 (b2 true)
      refine lv_iload hx hb dL_writes_71 (lv_at hl 0 rfl) ?_
      refine lv_iconst (v := (nI 1)) hx hb dL_writes_73 (by decide) ?_
      refine n_add (x := shV x sm1 (b2 true)) (y := 1) hx hb dL_writes_74 ?_
      refine lv_iload hx hb dL_writes_75 (lv_at hl 7 rfl) ?_
      refine lv_iconst (v := (nI 5)) hx hb dL_writes_77 (by decide) ?_
      refine lv_ishr hx hb dL_writes_78 ?_
      refine lv_iconst (v := (nI 4)) hx hb dL_writes_79 (by decide) ?_
      refine vp_callSi (W.runS (As := [.int (za >>> ((nI 5) &&& 31)), .int (nI 4)]) (rest := [.int (nI ((shV x sm1 (b2 true)) + 1)), .int (nI (shV x sm1 (b2 true) + (1 + sm5)))]) ⟨hx, hb, hml, hown, hts⟩ (c_L_some l (za >>> ((nI 5) &&& 31)) 4 (by omega) (by omega)) (va_cwS 2 hts gL_writes_L_some rfl rfl rfl (by decide +kernel) ⟨Nat.le_of_ble_eq_true rfl, Nat.le_of_ble_eq_true rfl⟩) mPre0 rfl rfl hl.1 rfl (lv_room (Nat.le_of_ble_eq_true rfl)) dL_writes_80 ⟨Nat.le_of_ble_eq_true rfl, Nat.le_of_ble_eq_true rfl⟩) (fun r9 hr9 => ?_)
      have hr9 : r9 = nI (someF (za >>> ((nI 5) &&& 31)) 4) := hr9
      subst hr9
      have hs_sm6 := someF_lt (za >>> ((nI 5) &&& 31)) (n := 4) (by omega)
      obtain ⟨sm6, e_sm6⟩ : ∃ sm6 : Nat, sm6 = someF (za >>> ((nI 5) &&& 31)) 4 := ⟨_, rfl⟩
      rw [← e_sm6] at hs_sm6 ⊢
      refine n_add (x := (shV x sm1 (b2 true)) + 1) (y := sm6) hx hb dL_writes_83 ?_
      refine z_icmp_ne (u := ((shV x sm1 (b2 true) + (1 + sm5) : Nat) : Int)) (v := ((((shV x sm1 (b2 true)) + 1) + sm6 : Nat) : Int)) (tgt := 91) hx hb (nI_toInt (by omega)) (nI_toInt (by omega)) dL_writes_84 (by decide) (fun c_84 => ?_) (fun c_84 => ?_)
      · exfalso; omega
      · refine lv_iconst (v := (nI 1)) hx hb dL_writes_87 (by decide) ?_
        refine lv_goto (tgt := 92) hx hb dL_writes_88 (by decide) ?_
        exact kE _ _ _ H locs _ ls hP hD hS ⟨M2, N, _, _, g, rfl, hj, hd, hT, P_print hI hn _ _ _ q2, hJ.of ⟨by omega, by omega, by omega, by omega⟩ (fun j hj9 => rfl) rfl rfl (by split <;> exact va_up_ne _ _ (by decide)) (by split <;> exact va_up_ne _ _ (by decide))⟩ dL_writes_92 (Nat.le_of_ble_eq_true rfl) (Nat.le_of_ble_eq_true rfl)
set_option maxRecDepth 100000 in
set_option maxHeartbeats 4000000 in
theorem w_writes_99 (C0 : LC p l s m args c cL_writes 13 wsL_writes A D cy de mi) (kE : LE p l e ({ frames := 11, cells := 200, slots := 1600, locals := 290 } : Room) s m args below meth c cL_writes A D 200 1600 Q (LPo cy de o t d (nn + 1))) (hn : nn + 1 ≤ 512) (hW : LWd D cy de A s H locs M2 N o t d nn cn x g)  (hl : lv_has ls 13 [(0, .ref o), (1, .ref t), (2, .ref d), (3, .int xa), (4, .int za)]) : W p l e ({ frames := 11, cells := 200, slots := 1600, locals := 290 } : Room) s m args below meth c H locs 0 0 Q (F0 m 99 ls []) := by
  obtain ⟨hx, hb, hml, hown, hts, hA, hK, hX, hN0, hst⟩ := id C0
  obtain ⟨⟨hP, hD, hS⟩, hj, hd, hT, hI, hJ⟩ := hW
  obtain ⟨⟨j0, j1, j2, j3⟩, jp, js⟩ := id hJ
  obtain ⟨n0, n1, n2, n3, n4, -⟩ := id hI.1
  obtain ⟨fo, hfo⟩ := (TW.ou (N := N) hT).fst
  obtain ⟨ft, hft⟩ := (TW.tu (N := N) hT).fst
  refine lv_iload hx hb dL_writes_99 (lv_at hl 4 rfl) ?_
  refine lv_iconst (v := (nI 4)) hx hb dL_writes_101 (by decide) ?_
  refine vp_callSi (W.runS (As := [.int za, .int (nI 4)]) (rest := []) ⟨hx, hb, hml, hown, hts⟩ (c_L_some l za 4 (by omega) (by omega)) (va_cwS 2 hts gL_writes_L_some rfl rfl rfl (by decide +kernel) ⟨Nat.le_of_ble_eq_true rfl, Nat.le_of_ble_eq_true rfl⟩) mPre0 rfl rfl hl.1 rfl (lv_room (Nat.le_of_ble_eq_true rfl)) dL_writes_102 ⟨Nat.le_of_ble_eq_true rfl, Nat.le_of_ble_eq_true rfl⟩) (fun r9 hr9 => ?_)
  have hr9 : r9 = nI (someF za 4) := hr9
  subst hr9
  have hs_sm1 := someF_lt za (n := 4) (by omega)
  obtain ⟨sm1, e_sm1⟩ : ∃ sm1 : Nat, sm1 = someF za 4 := ⟨_, rfl⟩
  rw [← e_sm1] at hs_sm1 ⊢
  refine lv_istore (lv' := [(6, .int (nI sm1)), (0, .ref o), (1, .ref t), (2, .ref d), (3, .int xa), (4, .int za)]) hx hb dL_writes_105 hl (by decide) rfl (fun ls hl => ?_)
  refine lv_aload_n hx hb dL_writes_107 rfl (lv_at hl 1 rfl) ?_
  refine lv_aload_n hx hb dL_writes_108 rfl (lv_at hl 2 rfl) ?_
  refine lv_iconst (v := (nI 4)) hx hb dL_writes_109 (by decide) ?_
  refine lv_iload hx hb dL_writes_110 (lv_at hl 0 rfl) ?_
  refine lv_iconst (v := (nI 5)) hx hb dL_writes_112 (by decide) ?_
  refine lv_iload hx hb dL_writes_113 (lv_at hl 5 rfl) ?_
  refine lv_iconst (v := (nI 3)) hx hb dL_writes_115 (by decide) ?_
  refine lv_ishr hx hb dL_writes_116 ?_
  refine lv_bipush (v := (nI 12)) hx hb dL_writes_117 (by decide) ?_
  refine vp_callSi (W.runS (As := [.int (za >>> ((nI 3) &&& 31)), .int (nI 12)]) (rest := [.int (nI 5), .int (nI sm1), .int (nI 4), .ref t, .ref o]) ⟨hx, hb, hml, hown, hts⟩ (c_L_some l (za >>> ((nI 3) &&& 31)) 12 (by omega) (by omega)) (va_cwS 2 hts gL_writes_L_some rfl rfl rfl (by decide +kernel) ⟨Nat.le_of_ble_eq_true rfl, Nat.le_of_ble_eq_true rfl⟩) mPre0 rfl rfl hl.1 rfl (lv_room (Nat.le_of_ble_eq_true rfl)) dL_writes_119 ⟨Nat.le_of_ble_eq_true rfl, Nat.le_of_ble_eq_true rfl⟩) (fun r9 hr9 => ?_)
  have hr9 : r9 = nI (someF (za >>> ((nI 3) &&& 31)) 12) := hr9
  subst hr9
  have hs_sm2 := someF_lt (za >>> ((nI 3) &&& 31)) (n := 12) (by omega)
  obtain ⟨sm2, e_sm2⟩ : ∃ sm2 : Nat, sm2 = someF (za >>> ((nI 3) &&& 31)) 12 := ⟨_, rfl⟩
  rw [← e_sm2] at hs_sm2 ⊢
  refine n_add (x := 5) (y := sm2) hx hb dL_writes_122 ?_
  refine lv_iload hx hb dL_writes_123 (lv_at hl 5 rfl) ?_
  refine lv_bipush (v := (nI 7)) hx hb dL_writes_125 (by decide) ?_
  refine lv_ishr hx hb dL_writes_127 ?_
  refine lv_iconst (v := (nI 2)) hx hb dL_writes_128 (by decide) ?_
  refine vp_callSi (W.runS (As := [.int (za >>> ((nI 7) &&& 31)), .int (nI 2)]) (rest := [.int (nI (5 + sm2)), .int (nI sm1), .int (nI 4), .ref t, .ref o]) ⟨hx, hb, hml, hown, hts⟩ (c_L_some l (za >>> ((nI 7) &&& 31)) 2 (by omega) (by omega)) (va_cwS 2 hts gL_writes_L_some rfl rfl rfl (by decide +kernel) ⟨Nat.le_of_ble_eq_true rfl, Nat.le_of_ble_eq_true rfl⟩) mPre0 rfl rfl hl.1 rfl (lv_room (Nat.le_of_ble_eq_true rfl)) dL_writes_129 ⟨Nat.le_of_ble_eq_true rfl, Nat.le_of_ble_eq_true rfl⟩) (fun r9 hr9 => ?_)
  have hr9 : r9 = nI (someF (za >>> ((nI 7) &&& 31)) 2) := hr9
  subst hr9
  have hs_sm3 := someF_lt (za >>> ((nI 7) &&& 31)) (n := 2) (by omega)
  obtain ⟨sm3, e_sm3⟩ : ∃ sm3 : Nat, sm3 = someF (za >>> ((nI 7) &&& 31)) 2 := ⟨_, rfl⟩
  rw [← e_sm3] at hs_sm3 ⊢
  refine s_both (va_runS (As := [.ref o, .ref t, .int (nI 4), .int (nI sm1), .int (nI (5 + sm2)), .int (nI sm3)]) (rest := []) ⟨hx, hb, hml, hown, hts⟩ (b_pupil l hst de mi D cy _ _ o t nn cn x hT hI.1 (nI sm1) (nI (5 + sm2)) (nI sm3) ((sm1 : Nat) : Int) (nI_toInt (by omega)) ((5 + sm2 : Nat) : Int) (nI_toInt (by omega)) ) (va_cwS 6 hts gL_writes_L_both rfl rfl rfl (by decide +kernel) ⟨Nat.le_of_ble_eq_true rfl, Nat.le_of_ble_eq_true rfl⟩) (wPreS hX hN0 (mD_Ul hD) hS hA hK (pm_Ul hP)) rfl rfl hl.1 rfl (lv_room (Nat.le_of_ble_eq_true rfl)) dL_writes_132 ⟨Nat.le_of_ble_eq_true rfl, Nat.le_of_ble_eq_true rfl⟩) hP hD hj hA hS (fun r M2 H locs hq hP hD hj hS _ => ?_)
  rcases hq with ⟨q1, rfl, hT⟩ | ⟨q1, q2, rfl, hT⟩ | ⟨q1, q2, q3, rfl, hT⟩ | ⟨q1, q2, q3, rfl, hT⟩
  · exact absurd ⟨by omega, by omega⟩ q1
  · exact absurd ⟨by omega, by omega⟩ q2
  · obtain ⟨fo, hfo⟩ := (TW.ou (N := N) hT).fst
    obtain ⟨ft, hft⟩ := (TW.tu (N := N) hT).fst
    refine lv_istore (lv' := [(7, .int (zI (-2000000003))), (6, .int (nI sm1)), (0, .ref o), (1, .ref t), (2, .ref d), (3, .int xa), (4, .int za)]) hx hb dL_writes_135 hl (by decide) rfl (fun ls hl => ?_)
    refine lv_iload hx hb dL_writes_137 (lv_at hl 0 rfl) ?_
    refine z_if_lt (u := (-2000000003)) (tgt := 158) hx hb (zI_toInt (by omega) (by omega)) dL_writes_139 (by decide) (fun c_139 => ?_) (fun c_139 => ?_)
    · refine lv_iload hx hb dL_writes_158 (lv_at hl 0 rfl) ?_
      refine lv_ldc (v := (zI (-2000000003))) hx hb hown (by rw [show (zI (-2000000003)) = (-2000000003 : Int32) by decide]; exact hts _ (List.mem_of_getElem? (i := 1) rfl)) dL_writes_160 ?_
      refine z_icmp_ne (u := (-2000000003)) (v := (-2000000003)) (tgt := 181) hx hb (zI_toInt (by omega) (by omega)) (zI_toInt (by omega) (by omega)) dL_writes_162 (by decide) (fun c_162 => ?_) (fun c_162 => ?_)
      · exfalso; omega
      · refine lv_aload_n hx hb dL_writes_165 rfl (lv_at hl 4 rfl) ?_
        refine lv_iconst (v := (nI 1)) hx hb dL_writes_166 (by decide) ?_
        refine n_iald (g := g) (n := 64) (i := 1) hx hb hK hP (iwU_r2 hj hd) (by omega) (by decide) dL_writes_167 ?_
        refine lv_bipush (v := (nI 20)) hx hb dL_writes_168 (by decide) ?_
        refine z_icmp_ne (u := ((g 1 : Nat) : Int)) (v := ((20 : Nat) : Int)) (tgt := 177) hx hb (nI_toInt (by omega)) (nI_toInt (by omega)) dL_writes_170 (by decide) (fun c_170 => ?_) (fun c_170 => ?_)
        · exfalso; omega
        · refine lv_iconst (v := (nI 1)) hx hb dL_writes_173 (by decide) ?_
          refine lv_goto (tgt := 196) hx hb dL_writes_174 (by decide) ?_
          exact kE _ _ _ H locs _ ls hP hD hS ⟨M2, N, _, _, g, rfl, hj, hd, hT, hI.mono hn, hJ.of ⟨by (try simp (disch := omega) only [va_up_ne, va_up_self]); omega, by (try simp (disch := omega) only [va_up_ne, va_up_self]); omega, by (try simp (disch := omega) only [va_up_ne, va_up_self]); omega, by (try simp (disch := omega) only [va_up_ne, va_up_self]); omega⟩ (fun j hj9 => rfl) rfl rfl rfl rfl⟩ dL_writes_196 (Nat.le_of_ble_eq_true rfl) (Nat.le_of_ble_eq_true rfl)
    · exfalso; omega
  · obtain ⟨fo, hfo⟩ := (TW.ou (N := N) hT).fst
    obtain ⟨ft, hft⟩ := (TW.tu (N := N) hT).fst
    refine lv_istore (lv' := [(7, .int (nI (cn 2))), (6, .int (nI sm1)), (0, .ref o), (1, .ref t), (2, .ref d), (3, .int xa), (4, .int za)]) hx hb dL_writes_135 hl (by decide) rfl (fun ls hl => ?_)
    refine lv_iload hx hb dL_writes_137 (lv_at hl 0 rfl) ?_
    refine z_if_lt (u := ((cn 2 : Nat) : Int)) (tgt := 158) hx hb (nI_toInt (by omega)) dL_writes_139 (by decide) (fun c_139 => ?_) (fun c_139 => ?_)
    · exfalso; omega
    · refine lv_aload_n hx hb dL_writes_142 rfl (lv_at hl 4 rfl) ?_
      refine lv_iconst (v := (nI 4)) hx hb dL_writes_143 (by decide) ?_
      refine lv_aload_n hx hb dL_writes_144 rfl (lv_at hl 4 rfl) ?_
      refine lv_iconst (v := (nI 1)) hx hb dL_writes_145 (by decide) ?_
      refine n_iald (g := g) (n := 64) (i := 1) hx hb hK hP (iwU_r2 hj hd) (by omega) (by decide) dL_writes_146 ?_
      refine n_add (x := 4) (y := g 1) hx hb dL_writes_147 ?_
      refine lv_iload hx hb dL_writes_148 (lv_at hl 1 rfl) ?_
      refine s_iast (g := g) (n := 64) (i := 4 + (g 1)) (v := sm1) hx hb hK hP hD hj hS hd (by omega) (by decide) dL_writes_150 (fun H locs hP hD hj hS => ?_)
      obtain ⟨g4, hg4⟩ : ∃ g4 : Nat → Nat, g4 = va_up g (4 + (g 1)) sm1 := ⟨_, rfl⟩
      have hg4_s : g4 (4 + (g 1)) = sm1 := by rw [hg4, va_up_self]
      have hg4_0 : g4 0 = g 0 := by rw [hg4, va_up_ne _ _ (by omega)]
      have hg4_1 : g4 1 = g 1 := by rw [hg4, va_up_ne _ _ (by omega)]
      have hg4_2 : g4 2 = g 2 := by rw [hg4, va_up_ne _ _ (by omega)]
      have hg4_3 : g4 3 = g 3 := by rw [hg4, va_up_ne _ _ (by omega)]
      rw [← hg4] at hP hD hj
      obtain ⟨N5, hN5⟩ : ∃ N5 : mM, N5 = mset N d (eI cy 64 g4) := ⟨_, rfl⟩
      have hN5_s : N5 d = some (eI cy 64 g4) := by rw [hN5, mset_self]
      rw [← hN5] at hP hD hj
      obtain ⟨fo, hfo⟩ := (TW.ou (N := N5) hT).fst
      obtain ⟨ft, hft⟩ := (TW.tu (N := N5) hT).fst
      refine lv_aload_n hx hb dL_writes_151 rfl (lv_at hl 4 rfl) ?_
      refine lv_iconst (v := (nI 1)) hx hb dL_writes_152 (by decide) ?_
      refine lv_dup2_11 hx hb dL_writes_153 rfl rfl ?_
      refine n_iald (g := g4) (n := 64) (i := 1) hx hb hK hP (iwU_r2 hj hN5_s) (by omega) (by decide) dL_writes_154 ?_
      refine lv_iconst (v := (nI 1)) hx hb dL_writes_155 (by decide) ?_
      refine n_add (x := g4 1) (y := 1) hx hb dL_writes_156 ?_
      refine s_iast (g := g4) (n := 64) (i := 1) (v := (g4 1) + 1) hx hb hK hP hD hj hS hN5_s (by omega) (by decide) dL_writes_157 (fun H locs hP hD hj hS => ?_)
      obtain ⟨g6, hg6⟩ : ∃ g6 : Nat → Nat, g6 = va_up g4 1 ((g4 1) + 1) := ⟨_, rfl⟩
      have hg6_s : g6 1 = (g4 1) + 1 := by rw [hg6, va_up_self]
      have hg6_0 : g6 0 = g4 0 := by rw [hg6, va_up_ne _ _ (by decide)]
      have hg6_2 : g6 2 = g4 2 := by rw [hg6, va_up_ne _ _ (by decide)]
      have hg6_3 : g6 3 = g4 3 := by rw [hg6, va_up_ne _ _ (by decide)]
      rw [← hg6] at hP hD hj
      obtain ⟨N7, hN7⟩ : ∃ N7 : mM, N7 = mset N5 d (eI cy 64 g6) := ⟨_, rfl⟩
      have hN7_s : N7 d = some (eI cy 64 g6) := by rw [hN7, mset_self]
      rw [← hN7] at hP hD hj
      obtain ⟨fo, hfo⟩ := (TW.ou (N := N7) hT).fst
      obtain ⟨ft, hft⟩ := (TW.tu (N := N7) hT).fst
      refine lv_iload hx hb dL_writes_158 (lv_at hl 0 rfl) ?_
      refine lv_ldc (v := (zI (-2000000003))) hx hb hown (by rw [show (zI (-2000000003)) = (-2000000003 : Int32) by decide]; exact hts _ (List.mem_of_getElem? (i := 1) rfl)) dL_writes_160 ?_
      refine z_icmp_ne (u := ((cn 2 : Nat) : Int)) (v := (-2000000003)) (tgt := 181) hx hb (nI_toInt (by omega)) (zI_toInt (by omega) (by omega)) dL_writes_162 (by decide) (fun c_162 => ?_) (fun c_162 => ?_)
      · refine lv_iload hx hb dL_writes_181 (lv_at hl 0 rfl) ?_
        refine lv_aload_n hx hb dL_writes_183 rfl (lv_at hl 4 rfl) ?_
        refine lv_iconst (v := (nI 1)) hx hb dL_writes_184 (by decide) ?_
        refine n_iald (g := g6) (n := 64) (i := 1) hx hb hK hP (iwU_r2 hj hN7_s) (by omega) (by decide) dL_writes_185 ?_
        refine lv_iconst (v := (nI 1)) hx hb dL_writes_186 (by decide) ?_
        refine z_sub (u := ((g6 1 : Nat) : Int)) (v := ((1 : Nat) : Int)) hx hb (nI_zI _) (nI_zI _) dL_writes_187 ?_
        refine z_icmp_ne (u := ((cn 2 : Nat) : Int)) (v := (((g6 1 : Nat) : Int) - ((1 : Nat) : Int))) (tgt := 195) hx hb (nI_toInt (by omega)) (zI_toInt (by omega) (by omega)) dL_writes_188 (by decide) (fun c_188 => ?_) (fun c_188 => ?_)
        · exfalso; omega
        · refine lv_iconst (v := (nI 1)) hx hb dL_writes_191 (by decide) ?_
          refine lv_goto (tgt := 196) hx hb dL_writes_192 (by decide) ?_
          exact kE _ _ _ H locs _ ls hP hD hS ⟨M2, N7, _, _, g6, rfl, hj, hN7_s, hT, P_pupil hI hn _ _ _ q1 (by split <;> (try split) <;> omega) (b2_le _) q3, DI_pupil hJ q3 sm1 ⟨by omega, by omega, by omega, by omega⟩ (by rw [hg6, va_up_ne _ _ (by omega), hg4, j1, va_up_self]) (fun j hj8 hj9 => by rw [hg6, va_up_ne _ _ (by omega), hg4, j1, va_up_ne _ _ hj9]) (by simp (disch := omega) only [va_up_ne, va_up_self]; rfl) (by simp (disch := omega) only [va_up_ne, va_up_self, prX_ne])⟩ dL_writes_196 (Nat.le_of_ble_eq_true rfl) (Nat.le_of_ble_eq_true rfl)
      · exfalso; omega
set_option maxRecDepth 100000 in
set_option maxHeartbeats 4000000 in
theorem w_writes_209 (C0 : LC p l s m args c cL_writes 13 wsL_writes A D cy de mi) (kE : LE p l e ({ frames := 11, cells := 200, slots := 1600, locals := 290 } : Room) s m args below meth c cL_writes A D 200 1600 Q (LPo cy de o t d (nn + 1))) (hn : nn + 1 ≤ 512) (hW : LWd D cy de A s H locs M2 N o t d nn cn x g) (hno : cn 1 = 0 ∨ cn 2 = 0) (hl : lv_has ls 13 [(0, .ref o), (1, .ref t), (2, .ref d), (3, .int xa), (4, .int za)]) : W p l e ({ frames := 11, cells := 200, slots := 1600, locals := 290 } : Room) s m args below meth c H locs 0 0 Q (F0 m 209 ls []) := by
  obtain ⟨hx, hb, hml, hown, hts, hA, hK, hX, hN0, hst⟩ := id C0
  obtain ⟨⟨hP, hD, hS⟩, hj, hd, hT, hI, hJ⟩ := hW
  obtain ⟨⟨j0, j1, j2, j3⟩, jp, js⟩ := id hJ
  obtain ⟨n0, n1, n2, n3, n4, -⟩ := id hI.1
  obtain ⟨fo, hfo⟩ := (TW.ou (N := N) hT).fst
  obtain ⟨ft, hft⟩ := (TW.tu (N := N) hT).fst
  refine lv_aload_n hx hb dL_writes_209 rfl (lv_at hl 0 rfl) ?_
  refine lv_bipush (v := (nI 7)) hx hb dL_writes_210 (by decide) ?_
  refine lv_aload_n hx hb dL_writes_212 rfl (lv_at hl 2 rfl) ?_
  refine lv_iconst (v := (nI 1)) hx hb dL_writes_213 (by decide) ?_
  refine n_iald (g := g) (n := 64) (i := 1) hx hb hK hP (iwU_r2 hj hd) (by omega) (by decide) dL_writes_214 ?_
  refine lv_iconst (v := (nI 0)) hx hb dL_writes_215 (by decide) ?_
  refine lv_iconst (v := (nI 0)) hx hb dL_writes_216 (by decide) ?_
  refine t_call (v := (zI (-2000000001))) (vx_runSX (As := [.ref o, .int (nI 7), .int (nI (g 1)), .int (nI 0), .int (nI 0)]) (rest := []) ⟨hx, hb, hml, hown, hts⟩ (t_write l hst de mi D cy _ _ o nn cn x (TW.ou hT) hI.1 (nI (g 1)) (nI 0) (nI 0) (g 1 : Int) (nI_toInt (by omega)) 0 (by decide) (fun h9 => hI.hrk _ h9)) (vx_cwSW 5 hts gL_writes_L_call rfl rfl rfl (by decide +kernel) ⟨Nat.le_of_ble_eq_true rfl, Nat.le_of_ble_eq_true rfl⟩) (wPreS hX hN0 hD hS hA hK hP) rfl rfl hl.1 rfl (lv_room (Nat.le_of_ble_eq_true rfl)) dL_writes_217 ⟨Nat.le_of_ble_eq_true rfl, Nat.le_of_ble_eq_true rfl⟩) (fun r M' h => k_I h (fun r M' h => h.1.1) (fun z => by omega)) hD hA hS (fun H locs hP hS _ => ?_)
  refine lv_ldc (v := (zI (-2000000001))) hx hb hown (by rw [show (zI (-2000000001)) = (-2000000001 : Int32) by decide]; exact hts _ (List.mem_of_getElem? (i := 2) rfl)) dL_writes_220 ?_
  refine z_icmp_ne (u := (-2000000001)) (v := (-2000000001)) (tgt := 229) hx hb (zI_toInt (by omega) (by omega)) (zI_toInt (by omega) (by omega)) dL_writes_222 (by decide) (fun c_222 => ?_) (fun c_222 => ?_)
  · exfalso; omega
  · refine lv_iconst (v := (nI 1)) hx hb dL_writes_225 (by decide) ?_
    refine lv_goto (tgt := 230) hx hb dL_writes_226 (by decide) ?_
    exact kE _ _ _ H locs _ ls hP hD hS ⟨M2, N, _, _, g, rfl, hj, hd, hT, hI.mono hn, hJ.of ⟨by (try simp (disch := omega) only [va_up_ne, va_up_self]); omega, by (try simp (disch := omega) only [va_up_ne, va_up_self]); omega, by (try simp (disch := omega) only [va_up_ne, va_up_self]); omega, by (try simp (disch := omega) only [va_up_ne, va_up_self]); omega⟩ (fun j hj9 => rfl) rfl rfl rfl rfl⟩ dL_writes_230 (Nat.le_of_ble_eq_true rfl) (Nat.le_of_ble_eq_true rfl)
end LWR
section LWL
variable {p : Program} {l : Launch} {e : Env} {s : State} {m : MethodId} {args : Array Value} {below : List Frame} {meth : Method} {c : Code} {Q : State → Prop} {D : va_G} {cy : Nat → ClassId} {de mi o t d nn : Nat} {cn : Nat → Nat} {x : Nat → Nat → Nat} {g : Nat → Nat} {A : Nat → Prop} {M2 N : mM} {xa za : Int32}
set_option maxRecDepth 100000 in
set_option maxHeartbeats 4000000 in
theorem w_writes_237 (C0 : LC p l s m args c cL_writes 13 wsL_writes A D cy de mi)  (KK : ∀ (H : Heap) (locs : List Loc) (ls : Array Slot), LWs D cy de A s H locs M2 N o t d nn cn x g → lv_has ls 13 [(0, .ref o), (1, .ref t), (2, .ref d), (3, .int xa), (4, .int za), (6, .int (nI (shS x 6))), (7, .int (nI 6))] → W p l e ({ frames := 11, cells := 200, slots := 1600, locals := 290 } : Room) s m args below meth c H locs (0 + 6) (0 + 6 * 6) Q (F0 m 274 ls [])) : ∀ (j k : Nat), k + j = 6 → ∀ (H : Heap) (locs : List Loc) (ls : Array Slot), LWs D cy de A s H locs M2 N o t d nn cn x g → lv_has ls 13 [(0, .ref o), (1, .ref t), (2, .ref d), (3, .int xa), (4, .int za), (6, .int (nI (shS x k))), (7, .int (nI k))] → W p l e ({ frames := 11, cells := 200, slots := 1600, locals := 290 } : Room) s m args below meth c H locs (0 + k) (0 + 6 * k) Q (F0 m 237 ls [])
  | 0, k, hk => by
    intro H locs ls hW hl
    have hk6 : k = 6 := by omega
    subst hk6
    obtain ⟨hx, hb, hml, hown, hts, hA, hK, hX, hN0, hst⟩ := id C0
    obtain ⟨⟨hP, hD, hS⟩, hj, hd, hT, hI⟩ := hW
    obtain ⟨n0, n1, n2, n3, n4, -⟩ := id hI.1
    obtain ⟨fo, hfo⟩ := (TW.ou (N := N) hT).fst
    obtain ⟨ft, hft⟩ := (TW.tu (N := N) hT).fst
    refine lv_iload hx hb dL_writes_237 (lv_at hl 6 rfl) ?_
    refine lv_bipush (v := (nI 6)) hx hb dL_writes_239 (by decide) ?_
    refine z_icmp_ge (u := ((6 : Nat) : Int)) (v := ((6 : Nat) : Int)) (tgt := 274) hx hb (nI_toInt (by omega)) (nI_toInt (by omega)) dL_writes_241 (by decide) (fun c_241 => ?_) (fun c_241 => ?_)
    · exact KK H locs ls ⟨⟨hP, hD, hS⟩, hj, hd, hT, hI⟩ (lv_sub hl [0, 1, 2, 3, 4, 5, 6] rfl)
    · exfalso; omega
  | j + 1, k, hk => by
    intro H locs ls hW hl
    obtain ⟨hx, hb, hml, hown, hts, hA, hK, hX, hN0, hst⟩ := id C0
    obtain ⟨⟨hP, hD, hS⟩, hj, hd, hT, hI⟩ := hW
    obtain ⟨n0, n1, n2, n3, n4, -⟩ := id hI.1
    obtain ⟨fo, hfo⟩ := (TW.ou (N := N) hT).fst
    obtain ⟨ft, hft⟩ := (TW.tu (N := N) hT).fst
    have hsb := shS_bd hI k
    have hkk : k * (50 * nn) ≤ 6 * (50 * nn) := Nat.mul_le_mul_right _ (by omega)
    have hsc := sh_bd hI (k % 3) (b2 (decide (2 < k)))
    refine lv_iload hx hb dL_writes_237 (lv_at hl 6 rfl) ?_
    refine lv_bipush (v := (nI 6)) hx hb dL_writes_239 (by decide) ?_
    refine z_icmp_ge (u := ((k : Nat) : Int)) (v := ((6 : Nat) : Int)) (tgt := 274) hx hb (nI_toInt (by omega)) (nI_toInt (by omega)) dL_writes_241 (by decide) (fun c_241 => ?_) (fun c_241 => ?_)
    · exfalso; omega
    · refine lv_iload hx hb dL_writes_244 (lv_at hl 5 rfl) ?_
      refine lv_aload_n hx hb dL_writes_246 rfl (lv_at hl 0 rfl) ?_
      refine lv_iload hx hb dL_writes_247 (lv_at hl 6 rfl) ?_
      refine lv_iconst (v := (nI 3)) hx hb dL_writes_249 (by decide) ?_
      refine n_rem (x := k) (y := 3) hx hb (by omega) (by omega) (by omega) dL_writes_250 ?_
      refine lv_iload hx hb dL_writes_251 (lv_at hl 6 rfl) ?_
      refine lv_iconst (v := (nI 2)) hx hb dL_writes_253 (by decide) ?_
      refine z_icmp_le (u := ((k : Nat) : Int)) (v := ((2 : Nat) : Int)) (tgt := 261) hx hb (nI_toInt (by omega)) (nI_toInt (by omega)) dL_writes_254 (by decide) (fun c_254 => ?_) (fun c_254 => ?_)
      · have hdk : decide (2 < k) = false := decide_eq_false (by omega)
        refine lv_iconst (v := (nI 0)) hx hb dL_writes_261 (by decide) ?_
        refine r_call (v := (nI (shV x (k % 3) (b2 false)))) (vx_runV (C := RX5) (As := [.int (nI (k % 3)), .int (nI (b2 false))]) (rest := [.int (nI (shS x k))]) ⟨hx, hb, hml, hown, hts⟩ (q_sheets l hst de mi D cy _ _ o nn cn x (TW.ou hT) hI.1 (k % 3) false (by omega)) (cwV 2 hts gL_writes_X5_sheets rfl rfl rfl (by decide +kernel) ⟨Nat.le_of_ble_eq_true rfl, Nat.le_of_ble_eq_true rfl⟩) (mPreXV hX hD hS hA hK hP hfo (ci := 6) rfl) rfl rfl hl.1 rfl (lv_room (Nat.le_of_ble_eq_true rfl)) dL_writes_262 ⟨(by show _ ≤ 200; omega), (by show _ ≤ 1600; omega)⟩) hD hA hS (fun H locs hP hS _ => ?_)
        refine n_add (x := shS x k) (y := shV x (k % 3) (b2 false)) hx hb dL_writes_265 ?_
        refine lv_istore (lv' := [(6, .int (nI ((shS x k) + (shV x (k % 3) (b2 false))))), (0, .ref o), (1, .ref t), (2, .ref d), (3, .int xa), (4, .int za), (7, .int (nI k))]) hx hb dL_writes_266 hl (by decide) rfl (fun ls hl => ?_)
        refine n_iinc (x := k) (k := 1) (lv' := [(7, .int (nI (k + 1))), (6, .int (nI ((shS x k) + (shV x (k % 3) (b2 false))))), (0, .ref o), (1, .ref t), (2, .ref d), (3, .int xa), (4, .int za)]) hx hb dL_writes_268 rfl hl (q := 6) rfl (by decide) rfl (fun ls hl => ?_)
        refine lv_goto (tgt := 237) hx hb dL_writes_271 (by decide) ?_
        have hl : lv_has ls 13 [(7, .int (nI (k + 1))), (6, .int (nI (shS x (k + 1)))), (0, .ref o), (1, .ref t), (2, .ref d), (3, .int xa), (4, .int za)] := by
          have e9 : shS x (k + 1) = shS x k + shV x (k % 3) (b2 false) := by rw [← hdk]; rfl
          rw [e9]
          exact hl
        refine W.widen (k := 0 + (k + 1)) (n := 0 + 6 * (k + 1)) (by omega) (by omega) ?_
        exact w_writes_237 C0 KK j (k + 1) (by omega) H locs ls ⟨⟨hP, hD, hS⟩, hj, hd, hT, hI⟩ (lv_sub hl [2, 3, 4, 5, 6, 1, 0] rfl)
      · have hdk : decide (2 < k) = true := decide_eq_true (by omega)
        refine lv_iconst (v := (nI 1)) hx hb dL_writes_257 (by decide) ?_
        refine lv_goto (tgt := 262) hx hb dL_writes_258 (by decide) ?_
        refine r_call (v := (nI (shV x (k % 3) (b2 true)))) (vx_runV (C := RX5) (As := [.int (nI (k % 3)), .int (nI (b2 true))]) (rest := [.int (nI (shS x k))]) ⟨hx, hb, hml, hown, hts⟩ (q_sheets l hst de mi D cy _ _ o nn cn x (TW.ou hT) hI.1 (k % 3) true (by omega)) (cwV 2 hts gL_writes_X5_sheets rfl rfl rfl (by decide +kernel) ⟨Nat.le_of_ble_eq_true rfl, Nat.le_of_ble_eq_true rfl⟩) (mPreXV hX hD hS hA hK hP hfo (ci := 6) rfl) rfl rfl hl.1 rfl (lv_room (Nat.le_of_ble_eq_true rfl)) dL_writes_262 ⟨(by show _ ≤ 200; omega), (by show _ ≤ 1600; omega)⟩) hD hA hS (fun H locs hP hS _ => ?_)
        refine n_add (x := shS x k) (y := shV x (k % 3) (b2 true)) hx hb dL_writes_265 ?_
        refine lv_istore (lv' := [(6, .int (nI ((shS x k) + (shV x (k % 3) (b2 true))))), (0, .ref o), (1, .ref t), (2, .ref d), (3, .int xa), (4, .int za), (7, .int (nI k))]) hx hb dL_writes_266 hl (by decide) rfl (fun ls hl => ?_)
        refine n_iinc (x := k) (k := 1) (lv' := [(7, .int (nI (k + 1))), (6, .int (nI ((shS x k) + (shV x (k % 3) (b2 true))))), (0, .ref o), (1, .ref t), (2, .ref d), (3, .int xa), (4, .int za)]) hx hb dL_writes_268 rfl hl (q := 6) rfl (by decide) rfl (fun ls hl => ?_)
        refine lv_goto (tgt := 237) hx hb dL_writes_271 (by decide) ?_
        have hl : lv_has ls 13 [(7, .int (nI (k + 1))), (6, .int (nI (shS x (k + 1)))), (0, .ref o), (1, .ref t), (2, .ref d), (3, .int xa), (4, .int za)] := by
          have e9 : shS x (k + 1) = shS x k + shV x (k % 3) (b2 true) := by rw [← hdk]; rfl
          rw [e9]
          exact hl
        refine W.widen (k := 0 + (k + 1)) (n := 0 + 6 * (k + 1)) (by omega) (by omega) ?_
        exact w_writes_237 C0 KK j (k + 1) (by omega) H locs ls ⟨⟨hP, hD, hS⟩, hj, hd, hT, hI⟩ (lv_sub hl [2, 3, 4, 5, 6, 1, 0] rfl)
set_option maxRecDepth 100000 in
set_option maxHeartbeats 4000000 in
theorem w_writes_316 (C0 : LC p l s m args c cL_writes 13 wsL_writes A D cy de mi) {sb pu le : Nat} {tv : Int32} (KK : ∀ (H : Heap) (locs : List Loc) (ls : Array Slot), LWs D cy de A s H locs M2 N o t d nn cn x g → lv_has ls 13 [(0, .ref o), (1, .ref t), (2, .ref d), (3, .int xa), (4, .int za), (6, .int (nI sb)), (7, .int (nI pu)), (8, .int (nI le)), (9, .int tv), (10, .int (nI (shS x 6))), (11, .int (nI 6))] → W p l e ({ frames := 11, cells := 200, slots := 1600, locals := 290 } : Room) s m args below meth c H locs (30 + 6) (276 + 6 * 6) Q (F0 m 353 ls [])) : ∀ (j k : Nat), k + j = 6 → ∀ (H : Heap) (locs : List Loc) (ls : Array Slot), LWs D cy de A s H locs M2 N o t d nn cn x g → lv_has ls 13 [(0, .ref o), (1, .ref t), (2, .ref d), (3, .int xa), (4, .int za), (6, .int (nI sb)), (7, .int (nI pu)), (8, .int (nI le)), (9, .int tv), (10, .int (nI (shS x k))), (11, .int (nI k))] → W p l e ({ frames := 11, cells := 200, slots := 1600, locals := 290 } : Room) s m args below meth c H locs (30 + k) (276 + 6 * k) Q (F0 m 316 ls [])
  | 0, k, hk => by
    intro H locs ls hW hl
    have hk6 : k = 6 := by omega
    subst hk6
    obtain ⟨hx, hb, hml, hown, hts, hA, hK, hX, hN0, hst⟩ := id C0
    obtain ⟨⟨hP, hD, hS⟩, hj, hd, hT, hI⟩ := hW
    obtain ⟨n0, n1, n2, n3, n4, -⟩ := id hI.1
    obtain ⟨fo, hfo⟩ := (TW.ou (N := N) hT).fst
    obtain ⟨ft, hft⟩ := (TW.tu (N := N) hT).fst
    refine lv_iload hx hb dL_writes_316 (lv_at hl 10 rfl) ?_
    refine lv_bipush (v := (nI 6)) hx hb dL_writes_318 (by decide) ?_
    refine z_icmp_ge (u := ((6 : Nat) : Int)) (v := ((6 : Nat) : Int)) (tgt := 353) hx hb (nI_toInt (by omega)) (nI_toInt (by omega)) dL_writes_320 (by decide) (fun c_320 => ?_) (fun c_320 => ?_)
    · exact KK H locs ls ⟨⟨hP, hD, hS⟩, hj, hd, hT, hI⟩ (lv_sub hl [0, 1, 2, 3, 4, 5, 6, 7, 8, 9, 10] rfl)
    · exfalso; omega
  | j + 1, k, hk => by
    intro H locs ls hW hl
    obtain ⟨hx, hb, hml, hown, hts, hA, hK, hX, hN0, hst⟩ := id C0
    obtain ⟨⟨hP, hD, hS⟩, hj, hd, hT, hI⟩ := hW
    obtain ⟨n0, n1, n2, n3, n4, -⟩ := id hI.1
    obtain ⟨fo, hfo⟩ := (TW.ou (N := N) hT).fst
    obtain ⟨ft, hft⟩ := (TW.tu (N := N) hT).fst
    have hsb := shS_bd hI k
    have hkk : k * (50 * nn) ≤ 6 * (50 * nn) := Nat.mul_le_mul_right _ (by omega)
    have hsc := sh_bd hI (k % 3) (b2 (decide (2 < k)))
    refine lv_iload hx hb dL_writes_316 (lv_at hl 10 rfl) ?_
    refine lv_bipush (v := (nI 6)) hx hb dL_writes_318 (by decide) ?_
    refine z_icmp_ge (u := ((k : Nat) : Int)) (v := ((6 : Nat) : Int)) (tgt := 353) hx hb (nI_toInt (by omega)) (nI_toInt (by omega)) dL_writes_320 (by decide) (fun c_320 => ?_) (fun c_320 => ?_)
    · exfalso; omega
    · refine lv_iload hx hb dL_writes_323 (lv_at hl 9 rfl) ?_
      refine lv_aload_n hx hb dL_writes_325 rfl (lv_at hl 0 rfl) ?_
      refine lv_iload hx hb dL_writes_326 (lv_at hl 10 rfl) ?_
      refine lv_iconst (v := (nI 3)) hx hb dL_writes_328 (by decide) ?_
      refine n_rem (x := k) (y := 3) hx hb (by omega) (by omega) (by omega) dL_writes_329 ?_
      refine lv_iload hx hb dL_writes_330 (lv_at hl 10 rfl) ?_
      refine lv_iconst (v := (nI 2)) hx hb dL_writes_332 (by decide) ?_
      refine z_icmp_le (u := ((k : Nat) : Int)) (v := ((2 : Nat) : Int)) (tgt := 340) hx hb (nI_toInt (by omega)) (nI_toInt (by omega)) dL_writes_333 (by decide) (fun c_333 => ?_) (fun c_333 => ?_)
      · have hdk : decide (2 < k) = false := decide_eq_false (by omega)
        refine lv_iconst (v := (nI 0)) hx hb dL_writes_340 (by decide) ?_
        refine r_call (v := (nI (shV x (k % 3) (b2 false)))) (vx_runV (C := RX5) (As := [.int (nI (k % 3)), .int (nI (b2 false))]) (rest := [.int (nI (shS x k))]) ⟨hx, hb, hml, hown, hts⟩ (q_sheets l hst de mi D cy _ _ o nn cn x (TW.ou hT) hI.1 (k % 3) false (by omega)) (cwV 2 hts gL_writes_X5_sheets rfl rfl rfl (by decide +kernel) ⟨Nat.le_of_ble_eq_true rfl, Nat.le_of_ble_eq_true rfl⟩) (mPreXV hX hD hS hA hK hP hfo (ci := 6) rfl) rfl rfl hl.1 rfl (lv_room (Nat.le_of_ble_eq_true rfl)) dL_writes_341 ⟨(by show _ ≤ 200; omega), (by show _ ≤ 1600; omega)⟩) hD hA hS (fun H locs hP hS _ => ?_)
        refine n_add (x := shS x k) (y := shV x (k % 3) (b2 false)) hx hb dL_writes_344 ?_
        refine lv_istore (lv' := [(10, .int (nI ((shS x k) + (shV x (k % 3) (b2 false))))), (0, .ref o), (1, .ref t), (2, .ref d), (3, .int xa), (4, .int za), (6, .int (nI sb)), (7, .int (nI pu)), (8, .int (nI le)), (9, .int tv), (11, .int (nI k))]) hx hb dL_writes_345 hl (by decide) rfl (fun ls hl => ?_)
        refine n_iinc (x := k) (k := 1) (lv' := [(11, .int (nI (k + 1))), (10, .int (nI ((shS x k) + (shV x (k % 3) (b2 false))))), (0, .ref o), (1, .ref t), (2, .ref d), (3, .int xa), (4, .int za), (6, .int (nI sb)), (7, .int (nI pu)), (8, .int (nI le)), (9, .int tv)]) hx hb dL_writes_347 rfl hl (q := 10) rfl (by decide) rfl (fun ls hl => ?_)
        refine lv_goto (tgt := 316) hx hb dL_writes_350 (by decide) ?_
        have hl : lv_has ls 13 [(11, .int (nI (k + 1))), (10, .int (nI (shS x (k + 1)))), (0, .ref o), (1, .ref t), (2, .ref d), (3, .int xa), (4, .int za), (6, .int (nI sb)), (7, .int (nI pu)), (8, .int (nI le)), (9, .int tv)] := by
          have e9 : shS x (k + 1) = shS x k + shV x (k % 3) (b2 false) := by rw [← hdk]; rfl
          rw [e9]
          exact hl
        refine W.widen (k := 30 + (k + 1)) (n := 276 + 6 * (k + 1)) (by omega) (by omega) ?_
        exact w_writes_316 C0 KK j (k + 1) (by omega) H locs ls ⟨⟨hP, hD, hS⟩, hj, hd, hT, hI⟩ (lv_sub hl [2, 3, 4, 5, 6, 7, 8, 9, 10, 1, 0] rfl)
      · have hdk : decide (2 < k) = true := decide_eq_true (by omega)
        refine lv_iconst (v := (nI 1)) hx hb dL_writes_336 (by decide) ?_
        refine lv_goto (tgt := 341) hx hb dL_writes_337 (by decide) ?_
        refine r_call (v := (nI (shV x (k % 3) (b2 true)))) (vx_runV (C := RX5) (As := [.int (nI (k % 3)), .int (nI (b2 true))]) (rest := [.int (nI (shS x k))]) ⟨hx, hb, hml, hown, hts⟩ (q_sheets l hst de mi D cy _ _ o nn cn x (TW.ou hT) hI.1 (k % 3) true (by omega)) (cwV 2 hts gL_writes_X5_sheets rfl rfl rfl (by decide +kernel) ⟨Nat.le_of_ble_eq_true rfl, Nat.le_of_ble_eq_true rfl⟩) (mPreXV hX hD hS hA hK hP hfo (ci := 6) rfl) rfl rfl hl.1 rfl (lv_room (Nat.le_of_ble_eq_true rfl)) dL_writes_341 ⟨(by show _ ≤ 200; omega), (by show _ ≤ 1600; omega)⟩) hD hA hS (fun H locs hP hS _ => ?_)
        refine n_add (x := shS x k) (y := shV x (k % 3) (b2 true)) hx hb dL_writes_344 ?_
        refine lv_istore (lv' := [(10, .int (nI ((shS x k) + (shV x (k % 3) (b2 true))))), (0, .ref o), (1, .ref t), (2, .ref d), (3, .int xa), (4, .int za), (6, .int (nI sb)), (7, .int (nI pu)), (8, .int (nI le)), (9, .int tv), (11, .int (nI k))]) hx hb dL_writes_345 hl (by decide) rfl (fun ls hl => ?_)
        refine n_iinc (x := k) (k := 1) (lv' := [(11, .int (nI (k + 1))), (10, .int (nI ((shS x k) + (shV x (k % 3) (b2 true))))), (0, .ref o), (1, .ref t), (2, .ref d), (3, .int xa), (4, .int za), (6, .int (nI sb)), (7, .int (nI pu)), (8, .int (nI le)), (9, .int tv)]) hx hb dL_writes_347 rfl hl (q := 10) rfl (by decide) rfl (fun ls hl => ?_)
        refine lv_goto (tgt := 316) hx hb dL_writes_350 (by decide) ?_
        have hl : lv_has ls 13 [(11, .int (nI (k + 1))), (10, .int (nI (shS x (k + 1)))), (0, .ref o), (1, .ref t), (2, .ref d), (3, .int xa), (4, .int za), (6, .int (nI sb)), (7, .int (nI pu)), (8, .int (nI le)), (9, .int tv)] := by
          have e9 : shS x (k + 1) = shS x k + shV x (k % 3) (b2 true) := by rw [← hdk]; rfl
          rw [e9]
          exact hl
        refine W.widen (k := 30 + (k + 1)) (n := 276 + 6 * (k + 1)) (by omega) (by omega) ?_
        exact w_writes_316 C0 KK j (k + 1) (by omega) H locs ls ⟨⟨hP, hD, hS⟩, hj, hd, hT, hI⟩ (lv_sub hl [2, 3, 4, 5, 6, 7, 8, 9, 10, 1, 0] rfl)
set_option maxRecDepth 100000 in
set_option maxHeartbeats 4000000 in
theorem w_writes_376 (C0 : LC p l s m args c cL_writes 13 wsL_writes A D cy de mi) {sb pu le tn sa : Nat} (hle : le < cn 1) (hl6 : x 6 le ≤ 6) (KK : ∀ (H : Heap) (locs : List Loc) (ls : Array Slot), LWs D cy de A s H locs M2 N o t d nn cn x g → lv_has ls 13 [(0, .ref o), (1, .ref t), (2, .ref d), (3, .int xa), (4, .int za), (6, .int (nI sb)), (7, .int (nI pu)), (8, .int (nI le)), (9, .int (nI tn)), (10, .int (nI sa)), (11, .int (nI (x 6 le)))] → W p l e ({ frames := 11, cells := 200, slots := 1600, locals := 290 } : Room) s m args below meth c H locs 64 480 Q (F0 m 394 ls [])) : ∀ (j k : Nat), k + j = x 6 le → ∀ (H : Heap) (locs : List Loc) (ls : Array Slot), LWs D cy de A s H locs M2 N o t d nn cn x g → lv_has ls 13 [(0, .ref o), (1, .ref t), (2, .ref d), (3, .int xa), (4, .int za), (6, .int (nI sb)), (7, .int (nI pu)), (8, .int (nI le)), (9, .int (nI tn)), (10, .int (nI sa)), (11, .int (nI k))] → W p l e ({ frames := 11, cells := 200, slots := 1600, locals := 290 } : Room) s m args below meth c H locs (36 + 4 * k) (312 + 24 * k) Q (F0 m 376 ls [])
  | 0, k, hk => by
    intro H locs ls hW hl
    obtain ⟨hx, hb, hml, hown, hts, hA, hK, hX, hN0, hst⟩ := id C0
    obtain ⟨⟨hP, hD, hS⟩, hj, hd, hT, hI⟩ := hW
    obtain ⟨n0, n1, n2, n3, n4, -⟩ := id hI.1
    obtain ⟨fo, hfo⟩ := (TW.ou (N := N) hT).fst
    obtain ⟨ft, hft⟩ := (TW.tu (N := N) hT).fst
    have hso := so_bd hI le k (by omega)
    have hse : soV x le k = -1 := Classical.byContradiction fun z => by have := so_end.mp z; omega
    refine lv_aload_n hx hb dL_writes_376 rfl (lv_at hl 0 rfl) ?_
    refine lv_iload hx hb dL_writes_377 (lv_at hl 7 rfl) ?_
    refine lv_iload hx hb dL_writes_379 (lv_at hl 10 rfl) ?_
    refine r_call (v := (zI (soV x le k))) (vx_runV (C := RX5) (As := [.int (nI le), .int (nI k)]) (rest := []) ⟨hx, hb, hml, hown, hts⟩ (q_strokeOf l hst de mi D cy _ _ o nn cn x (TW.ou hT) hI.1 le k (by omega) (by omega) (by omega)) (cwV 2 hts gL_writes_X5_strokeOf rfl rfl rfl (by decide +kernel) ⟨Nat.le_of_ble_eq_true rfl, Nat.le_of_ble_eq_true rfl⟩) (mPreXV hX hD hS hA hK hP hfo (ci := 6) rfl) rfl rfl hl.1 rfl (lv_room (Nat.le_of_ble_eq_true rfl)) dL_writes_381 ⟨(by show _ ≤ 200; omega), (by show _ ≤ 1600; omega)⟩) hD hA hS (fun H locs hP hS _ => ?_)
    refine lv_iconst (v := (zI (-1))) hx hb dL_writes_384 (by decide) ?_
    refine z_icmp_eq (u := (soV x le k)) (v := (-1)) (tgt := 394) hx hb (zI_toInt (by omega) (by omega)) (zI_toInt (by omega) (by omega)) dL_writes_385 (by decide) (fun c_385 => ?_) (fun c_385 => ?_)
    · have hk9 : k = x 6 le := by omega
      subst hk9
      refine W.widen (k := 64) (n := 480) (by omega) (by omega) ?_
      exact KK H locs ls ⟨⟨hP, hD, hS⟩, hj, hd, hT, hI⟩ (lv_sub hl [0, 1, 2, 3, 4, 5, 6, 7, 8, 9, 10] rfl)
    · exact absurd hse c_385
  | j + 1, k, hk => by
    intro H locs ls hW hl
    obtain ⟨hx, hb, hml, hown, hts, hA, hK, hX, hN0, hst⟩ := id C0
    obtain ⟨⟨hP, hD, hS⟩, hj, hd, hT, hI⟩ := hW
    obtain ⟨n0, n1, n2, n3, n4, -⟩ := id hI.1
    obtain ⟨fo, hfo⟩ := (TW.ou (N := N) hT).fst
    obtain ⟨ft, hft⟩ := (TW.tu (N := N) hT).fst
    have hso := so_bd hI le k (by omega)
    have hse : soV x le k ≠ -1 := so_end.mpr (by omega)
    refine lv_aload_n hx hb dL_writes_376 rfl (lv_at hl 0 rfl) ?_
    refine lv_iload hx hb dL_writes_377 (lv_at hl 7 rfl) ?_
    refine lv_iload hx hb dL_writes_379 (lv_at hl 10 rfl) ?_
    refine r_call (v := (zI (soV x le k))) (vx_runV (C := RX5) (As := [.int (nI le), .int (nI k)]) (rest := []) ⟨hx, hb, hml, hown, hts⟩ (q_strokeOf l hst de mi D cy _ _ o nn cn x (TW.ou hT) hI.1 le k (by omega) (by omega) (by omega)) (cwV 2 hts gL_writes_X5_strokeOf rfl rfl rfl (by decide +kernel) ⟨Nat.le_of_ble_eq_true rfl, Nat.le_of_ble_eq_true rfl⟩) (mPreXV hX hD hS hA hK hP hfo (ci := 6) rfl) rfl rfl hl.1 rfl (lv_room (Nat.le_of_ble_eq_true rfl)) dL_writes_381 ⟨(by show _ ≤ 200; omega), (by show _ ≤ 1600; omega)⟩) hD hA hS (fun H locs hP hS _ => ?_)
    refine lv_iconst (v := (zI (-1))) hx hb dL_writes_384 (by decide) ?_
    refine z_icmp_eq (u := (soV x le k)) (v := (-1)) (tgt := 394) hx hb (zI_toInt (by omega) (by omega)) (zI_toInt (by omega) (by omega)) dL_writes_385 (by decide) (fun c_385 => ?_) (fun c_385 => ?_)
    · exact absurd c_385 hse
    · refine n_iinc (x := k) (k := 1) (lv' := [(11, .int (nI (k + 1))), (0, .ref o), (1, .ref t), (2, .ref d), (3, .int xa), (4, .int za), (6, .int (nI sb)), (7, .int (nI pu)), (8, .int (nI le)), (9, .int (nI tn)), (10, .int (nI sa))]) hx hb dL_writes_388 rfl hl (q := 10) rfl (by decide) rfl (fun ls hl => ?_)
      refine lv_goto (tgt := 376) hx hb dL_writes_391 (by decide) ?_
      refine W.widen (k := 36 + 4 * (k + 1)) (n := 312 + 24 * (k + 1)) (by omega) (by omega) ?_
      exact w_writes_376 C0 hle hl6 KK j (k + 1) (by omega) H locs ls ⟨⟨hP, hD, hS⟩, hj, hd, hT, hI⟩ (lv_sub hl [1, 2, 3, 4, 5, 6, 7, 8, 9, 10, 0] rfl)
end LWL
section LWM
variable {p : Program} {l : Launch} {e : Env} {s : State} {m : MethodId} {args : Array Value} {below : List Frame} {meth : Method} {c : Code} {H : Heap} {locs : List Loc} {Q : State → Prop} {ls : Array Slot} {D : va_G} {cy : Nat → ClassId} {de mi o t d nn : Nat} {cn : Nat → Nat} {x : Nat → Nat → Nat} {g : Nat → Nat} {A : Nat → Prop} {M2 N : mM} {xa za : Int32}
set_option maxRecDepth 100000 in
set_option maxHeartbeats 4000000 in
theorem w_writes_394 (C0 : LC p l s m args c cL_writes 13 wsL_writes A D cy de mi) (kE : LE p l e ({ frames := 11, cells := 200, slots := 1600, locals := 290 } : Room) s m args below meth c cL_writes A D 200 1600 Q (LPo cy de o t d (nn + 1))) (hn : nn + 1 ≤ 512) (hW : LWs D cy de A s H locs M2 N o t d (nn + 1) cn x g) {cn0 : Nat → Nat} {x0 : Nat → Nat → Nat} (hJ : DI cn0 x0 g) (h0b : cn0 0 ≤ 8 ∧ cn0 1 ≤ 10 ∧ cn0 2 ≤ 20 ∧ cn0 3 < 40) (s9 sb sa ma le pu : Nat) (hs9 : s9 = cn0 3) (hs8 : s9 < cn 3) (hpu : pu < 20) (hsb : sb < 1000000) (hsum : sa + 1 = sb) (hma : ma ≤ 6) (f1 : slV x s9 1 ≤ cn0 0) (f0 : slV x s9 0 + (cn0 0 - slV x s9 1) = ma) (f2 : slV x s9 2 ≤ cn0 0 - slV x s9 1) (f3 : 0 < cn0 0 - slV x s9 1 → slV x s9 3 + 1 ≤ cn0 0 - slV x s9 1) (f4 : cn0 0 - slV x s9 1 = 0 → slV x s9 3 = 0) (f5 : slV x s9 4 ≤ 1) (f6 : laV x s9 = 2) (f7 : grV x s9 = -1) (f8 : plV cn x s9 = -1) (hDf : ∀ g1 : Nat → Nat, g1 0 = cn0 1 → g1 1 = cn0 2 → g1 2 = cn0 3 + 1 → g1 3 = 0 → g1 (24 + cn0 3) = pu → (∀ j, 4 ≤ j → j ≠ 24 + cn0 3 → g1 j = g j) → DI cn x g1) (hl : lv_has ls 13 [(0, .ref o), (1, .ref t), (2, .ref d), (3, .int xa), (4, .int za), (6, .int (nI sb)), (7, .int (nI pu)), (8, .int (nI le)), (9, .int (nI s9)), (10, .int (nI sa)), (11, .int (nI ma))]) : W p l e ({ frames := 11, cells := 200, slots := 1600, locals := 290 } : Room) s m args below meth c H locs 64 480 Q (F0 m 394 ls []) := by
  obtain ⟨hx, hb, hml, hown, hts, hA, hK, hX, hN0, hst⟩ := id C0
  obtain ⟨⟨hP, hD, hS⟩, hj, hd, hT, hI⟩ := hW
  obtain ⟨n0, n1, n2, n3, n4, -⟩ := id hI.1
  obtain ⟨fo, hfo⟩ := (TW.ou (N := N) hT).fst
  obtain ⟨ft, hft⟩ := (TW.tu (N := N) hT).fst
  obtain ⟨⟨j0, j1, j2, j3⟩, jp, js⟩ := id hJ
  refine lv_aload_n hx hb dL_writes_394 rfl (lv_at hl 2 rfl) ?_
  refine lv_iconst (v := (nI 3)) hx hb dL_writes_395 (by decide) ?_
  refine n_iald (g := g) (n := 64) (i := 3) hx hb hK hP (iwU_r2 hj hd) (by omega) (by decide) dL_writes_396 ?_
  refine lv_aload_n hx hb dL_writes_397 rfl (lv_at hl 0 rfl) ?_
  refine lv_iload hx hb dL_writes_398 (lv_at hl 8 rfl) ?_
  refine lv_iconst (v := (nI 1)) hx hb dL_writes_400 (by decide) ?_
  refine r_call (v := (nI (slV x s9 1))) (vx_runV (C := RX5) (As := [.int (nI s9), .int (nI 1)]) (rest := [.int (nI (g 3))]) ⟨hx, hb, hml, hown, hts⟩ (q_slips l hst de mi D cy _ _ o (nn + 1) cn x (TW.ou hT) hI.1 s9 1 (by omega) (by omega) (by omega)) (cwV 2 hts gL_writes_X5_slips rfl rfl rfl (by decide +kernel) ⟨Nat.le_of_ble_eq_true rfl, Nat.le_of_ble_eq_true rfl⟩) (mPreXV hX hD hS hA hK hP hfo (ci := 6) rfl) rfl rfl hl.1 rfl (lv_room (Nat.le_of_ble_eq_true rfl)) dL_writes_401 ⟨Nat.le_of_ble_eq_true rfl, Nat.le_of_ble_eq_true rfl⟩) hD hA hS (fun H locs hP hS _ => ?_)
  have hv1 := sl_bd hI s9 1
  refine n_sub (x := g 3) (y := slV x s9 1) hx hb (by omega) dL_writes_404 ?_
  refine lv_istore (lv' := [(12, .int (nI ((g 3) - (slV x s9 1)))), (0, .ref o), (1, .ref t), (2, .ref d), (3, .int xa), (4, .int za), (6, .int (nI sb)), (7, .int (nI pu)), (8, .int (nI le)), (9, .int (nI s9)), (10, .int (nI sa)), (11, .int (nI ma))]) hx hb dL_writes_405 hl (by decide) rfl (fun ls hl => ?_)
  refine lv_aload_n hx hb dL_writes_407 rfl (lv_at hl 3 rfl) ?_
  refine lv_bipush (v := (nI 24)) hx hb dL_writes_408 (by decide) ?_
  refine lv_aload_n hx hb dL_writes_410 rfl (lv_at hl 3 rfl) ?_
  refine lv_iconst (v := (nI 2)) hx hb dL_writes_411 (by decide) ?_
  refine n_iald (g := g) (n := 64) (i := 2) hx hb hK hP (iwU_r2 hj hd) (by omega) (by decide) dL_writes_412 ?_
  refine n_add (x := 24) (y := g 2) hx hb dL_writes_413 ?_
  refine lv_iload hx hb dL_writes_414 (lv_at hl 7 rfl) ?_
  refine s_iast (g := g) (n := 64) (i := 24 + (g 2)) (v := pu) hx hb hK hP hD hj hS hd (by omega) (by decide) dL_writes_416 (fun H locs hP hD hj hS => ?_)
  obtain ⟨g1, hg1⟩ : ∃ g1 : Nat → Nat, g1 = va_up g (24 + (g 2)) pu := ⟨_, rfl⟩
  have hg1_s : g1 (24 + (g 2)) = pu := by rw [hg1, va_up_self]
  have hg1_0 : g1 0 = g 0 := by rw [hg1, va_up_ne _ _ (by omega)]
  have hg1_1 : g1 1 = g 1 := by rw [hg1, va_up_ne _ _ (by omega)]
  have hg1_2 : g1 2 = g 2 := by rw [hg1, va_up_ne _ _ (by omega)]
  have hg1_3 : g1 3 = g 3 := by rw [hg1, va_up_ne _ _ (by omega)]
  rw [← hg1] at hP hD hj
  obtain ⟨N2, hN2⟩ : ∃ N2 : mM, N2 = mset N d (eI cy 64 g1) := ⟨_, rfl⟩
  have hN2_s : N2 d = some (eI cy 64 g1) := by rw [hN2, mset_self]
  rw [← hN2] at hP hD hj
  obtain ⟨fo, hfo⟩ := (TW.ou (N := N2) hT).fst
  obtain ⟨ft, hft⟩ := (TW.tu (N := N2) hT).fst
  refine lv_aload_n hx hb dL_writes_417 rfl (lv_at hl 3 rfl) ?_
  refine lv_iconst (v := (nI 2)) hx hb dL_writes_418 (by decide) ?_
  refine lv_dup2_11 hx hb dL_writes_419 rfl rfl ?_
  refine n_iald (g := g1) (n := 64) (i := 2) hx hb hK hP (iwU_r2 hj hN2_s) (by omega) (by decide) dL_writes_420 ?_
  refine lv_iconst (v := (nI 1)) hx hb dL_writes_421 (by decide) ?_
  refine n_add (x := g1 2) (y := 1) hx hb dL_writes_422 ?_
  refine s_iast (g := g1) (n := 64) (i := 2) (v := (g1 2) + 1) hx hb hK hP hD hj hS hN2_s (by omega) (by decide) dL_writes_423 (fun H locs hP hD hj hS => ?_)
  obtain ⟨g3, hg3⟩ : ∃ g3 : Nat → Nat, g3 = va_up g1 2 ((g1 2) + 1) := ⟨_, rfl⟩
  have hg3_s : g3 2 = (g1 2) + 1 := by rw [hg3, va_up_self]
  have hg3_0 : g3 0 = g1 0 := by rw [hg3, va_up_ne _ _ (by decide)]
  have hg3_1 : g3 1 = g1 1 := by rw [hg3, va_up_ne _ _ (by decide)]
  have hg3_3 : g3 3 = g1 3 := by rw [hg3, va_up_ne _ _ (by decide)]
  rw [← hg3] at hP hD hj
  obtain ⟨N4, hN4⟩ : ∃ N4 : mM, N4 = mset N2 d (eI cy 64 g3) := ⟨_, rfl⟩
  have hN4_s : N4 d = some (eI cy 64 g3) := by rw [hN4, mset_self]
  rw [← hN4] at hP hD hj
  obtain ⟨fo, hfo⟩ := (TW.ou (N := N4) hT).fst
  obtain ⟨ft, hft⟩ := (TW.tu (N := N4) hT).fst
  refine lv_aload_n hx hb dL_writes_424 rfl (lv_at hl 3 rfl) ?_
  refine lv_iconst (v := (nI 3)) hx hb dL_writes_425 (by decide) ?_
  refine lv_iconst (v := (nI 0)) hx hb dL_writes_426 (by decide) ?_
  refine s_iast (g := g3) (n := 64) (i := 3) (v := 0) hx hb hK hP hD hj hS hN4_s (by omega) (by decide) dL_writes_427 (fun H locs hP hD hj hS => ?_)
  obtain ⟨g5, hg5⟩ : ∃ g5 : Nat → Nat, g5 = va_up g3 3 0 := ⟨_, rfl⟩
  have hg5_s : g5 3 = 0 := by rw [hg5, va_up_self]
  have hg5_0 : g5 0 = g3 0 := by rw [hg5, va_up_ne _ _ (by decide)]
  have hg5_1 : g5 1 = g3 1 := by rw [hg5, va_up_ne _ _ (by decide)]
  have hg5_2 : g5 2 = g3 2 := by rw [hg5, va_up_ne _ _ (by decide)]
  rw [← hg5] at hP hD hj
  obtain ⟨N6, hN6⟩ : ∃ N6 : mM, N6 = mset N4 d (eI cy 64 g5) := ⟨_, rfl⟩
  have hN6_s : N6 d = some (eI cy 64 g5) := by rw [hN6, mset_self]
  rw [← hN6] at hP hD hj
  obtain ⟨fo, hfo⟩ := (TW.ou (N := N6) hT).fst
  obtain ⟨ft, hft⟩ := (TW.tu (N := N6) hT).fst
  refine lv_iload hx hb dL_writes_428 (lv_at hl 10 rfl) ?_
  refine lv_iload hx hb dL_writes_430 (lv_at hl 6 rfl) ?_
  refine lv_iconst (v := (nI 1)) hx hb dL_writes_432 (by decide) ?_
  refine z_sub (u := ((sb : Nat) : Int)) (v := ((1 : Nat) : Int)) hx hb (nI_zI _) (nI_zI _) dL_writes_433 ?_
  refine z_icmp_ne (u := ((sa : Nat) : Int)) (v := (((sb : Nat) : Int) - ((1 : Nat) : Int))) (tgt := 542) hx hb (nI_toInt (by omega)) (zI_toInt (by omega) (by omega)) dL_writes_434 (by decide) (fun c_434 => ?_) (fun c_434 => ?_)
  · exfalso; omega
  · refine lv_iload hx hb dL_writes_437 (lv_at hl 9 rfl) ?_
    refine lv_aload_n hx hb dL_writes_439 rfl (lv_at hl 3 rfl) ?_
    refine lv_iconst (v := (nI 2)) hx hb dL_writes_440 (by decide) ?_
    refine n_iald (g := g5) (n := 64) (i := 2) hx hb hK hP (iwU_r2 hj hN6_s) (by omega) (by decide) dL_writes_441 ?_
    refine lv_iconst (v := (nI 1)) hx hb dL_writes_442 (by decide) ?_
    refine z_sub (u := ((g5 2 : Nat) : Int)) (v := ((1 : Nat) : Int)) hx hb (nI_zI _) (nI_zI _) dL_writes_443 ?_
    refine z_icmp_ne (u := ((s9 : Nat) : Int)) (v := (((g5 2 : Nat) : Int) - ((1 : Nat) : Int))) (tgt := 542) hx hb (nI_toInt (by omega)) (zI_toInt (by omega) (by omega)) dL_writes_444 (by decide) (fun c_444 => ?_) (fun c_444 => ?_)
    · exfalso; omega
    · refine lv_aload_n hx hb dL_writes_447 rfl (lv_at hl 1 rfl) ?_
      refine lv_iload hx hb dL_writes_448 (lv_at hl 9 rfl) ?_
      refine lv_iconst (v := (nI 0)) hx hb dL_writes_450 (by decide) ?_
      refine r_call (v := (nI (slV x s9 0))) (vx_runV (C := RX5) (As := [.int (nI s9), .int (nI 0)]) (rest := []) ⟨hx, hb, hml, hown, hts⟩ (q_slips l hst de mi D cy _ _ o (nn + 1) cn x (TW.ou hT) hI.1 s9 0 (by omega) (by omega) (by omega)) (cwV 2 hts gL_writes_X5_slips rfl rfl rfl (by decide +kernel) ⟨Nat.le_of_ble_eq_true rfl, Nat.le_of_ble_eq_true rfl⟩) (mPreXV hX hD hS hA hK hP hfo (ci := 6) rfl) rfl rfl hl.1 rfl (lv_room (Nat.le_of_ble_eq_true rfl)) dL_writes_451 ⟨Nat.le_of_ble_eq_true rfl, Nat.le_of_ble_eq_true rfl⟩) hD hA hS (fun H locs hP hS _ => ?_)
      have hv0 := sl_bd hI s9 0
      refine lv_iload hx hb dL_writes_454 (lv_at hl 0 rfl) ?_
      refine n_add (x := slV x s9 0) (y := (g 3) - (slV x s9 1)) hx hb dL_writes_456 ?_
      refine lv_iload hx hb dL_writes_457 (lv_at hl 11 rfl) ?_
      refine z_icmp_ne (u := (((slV x s9 0) + ((g 3) - (slV x s9 1)) : Nat) : Int)) (v := ((ma : Nat) : Int)) (tgt := 542) hx hb (nI_toInt (by omega)) (nI_toInt (by omega)) dL_writes_459 (by decide) (fun c_459 => ?_) (fun c_459 => ?_)
      · exfalso; omega
      · refine lv_aload_n hx hb dL_writes_462 rfl (lv_at hl 1 rfl) ?_
        refine lv_iload hx hb dL_writes_463 (lv_at hl 9 rfl) ?_
        refine lv_iconst (v := (nI 2)) hx hb dL_writes_465 (by decide) ?_
        refine r_call (v := (nI (slV x s9 2))) (vx_runV (C := RX5) (As := [.int (nI s9), .int (nI 2)]) (rest := []) ⟨hx, hb, hml, hown, hts⟩ (q_slips l hst de mi D cy _ _ o (nn + 1) cn x (TW.ou hT) hI.1 s9 2 (by omega) (by omega) (by omega)) (cwV 2 hts gL_writes_X5_slips rfl rfl rfl (by decide +kernel) ⟨Nat.le_of_ble_eq_true rfl, Nat.le_of_ble_eq_true rfl⟩) (mPreXV hX hD hS hA hK hP hfo (ci := 6) rfl) rfl rfl hl.1 rfl (lv_room (Nat.le_of_ble_eq_true rfl)) dL_writes_466 ⟨Nat.le_of_ble_eq_true rfl, Nat.le_of_ble_eq_true rfl⟩) hD hA hS (fun H locs hP hS _ => ?_)
        have hv2 := sl_bd hI s9 2
        refine lv_iload hx hb dL_writes_469 (lv_at hl 0 rfl) ?_
        refine z_icmp_gt (u := ((slV x s9 2 : Nat) : Int)) (v := (((g 3) - (slV x s9 1) : Nat) : Int)) (tgt := 542) hx hb (nI_toInt (by omega)) (nI_toInt (by omega)) dL_writes_471 (by decide) (fun c_471 => ?_) (fun c_471 => ?_)
        · exfalso; omega
        · refine lv_aload_n hx hb dL_writes_474 rfl (lv_at hl 1 rfl) ?_
          refine lv_iload hx hb dL_writes_475 (lv_at hl 9 rfl) ?_
          refine lv_iconst (v := (nI 3)) hx hb dL_writes_477 (by decide) ?_
          refine r_call (v := (nI (slV x s9 3))) (vx_runV (C := RX5) (As := [.int (nI s9), .int (nI 3)]) (rest := []) ⟨hx, hb, hml, hown, hts⟩ (q_slips l hst de mi D cy _ _ o (nn + 1) cn x (TW.ou hT) hI.1 s9 3 (by omega) (by omega) (by omega)) (cwV 2 hts gL_writes_X5_slips rfl rfl rfl (by decide +kernel) ⟨Nat.le_of_ble_eq_true rfl, Nat.le_of_ble_eq_true rfl⟩) (mPreXV hX hD hS hA hK hP hfo (ci := 6) rfl) rfl rfl hl.1 rfl (lv_room (Nat.le_of_ble_eq_true rfl)) dL_writes_478 ⟨Nat.le_of_ble_eq_true rfl, Nat.le_of_ble_eq_true rfl⟩) hD hA hS (fun H locs hP hS _ => ?_)
          have hv3 := sl_bd hI s9 3
          refine lv_iload hx hb dL_writes_481 (lv_at hl 0 rfl) ?_
          refine z_if_le (u := (((g 3) - (slV x s9 1) : Nat) : Int)) (tgt := 493) hx hb (nI_toInt (by omega)) dL_writes_483 (by decide) (fun c_483 => ?_) (fun c_483 => ?_)
          · refine lv_iconst (v := (nI 0)) hx hb dL_writes_493 (by decide) ?_
            refine z_icmp_gt (u := ((slV x s9 3 : Nat) : Int)) (v := ((0 : Nat) : Int)) (tgt := 542) hx hb (nI_toInt (by omega)) (nI_toInt (by omega)) dL_writes_494 (by decide) (fun c_494 => ?_) (fun c_494 => ?_)
            · exfalso; omega
            · refine lv_aload_n hx hb dL_writes_497 rfl (lv_at hl 1 rfl) ?_
              refine lv_iload hx hb dL_writes_498 (lv_at hl 9 rfl) ?_
              refine lv_iconst (v := (nI 4)) hx hb dL_writes_500 (by decide) ?_
              refine r_call (v := (nI (slV x s9 4))) (vx_runV (C := RX5) (As := [.int (nI s9), .int (nI 4)]) (rest := []) ⟨hx, hb, hml, hown, hts⟩ (q_slips l hst de mi D cy _ _ o (nn + 1) cn x (TW.ou hT) hI.1 s9 4 (by omega) (by omega) (by omega)) (cwV 2 hts gL_writes_X5_slips rfl rfl rfl (by decide +kernel) ⟨Nat.le_of_ble_eq_true rfl, Nat.le_of_ble_eq_true rfl⟩) (mPreXV hX hD hS hA hK hP hfo (ci := 6) rfl) rfl rfl hl.1 rfl (lv_room (Nat.le_of_ble_eq_true rfl)) dL_writes_501 ⟨Nat.le_of_ble_eq_true rfl, Nat.le_of_ble_eq_true rfl⟩) hD hA hS (fun H locs hP hS _ => ?_)
              have hv4 := sl_bd hI s9 4
              refine lv_iconst (v := (nI 1)) hx hb dL_writes_504 (by decide) ?_
              refine z_icmp_gt (u := ((slV x s9 4 : Nat) : Int)) (v := ((1 : Nat) : Int)) (tgt := 542) hx hb (nI_toInt (by omega)) (nI_toInt (by omega)) dL_writes_505 (by decide) (fun c_505 => ?_) (fun c_505 => ?_)
              · exfalso; omega
              · refine lv_aload_n hx hb dL_writes_508 rfl (lv_at hl 1 rfl) ?_
                refine lv_iload hx hb dL_writes_509 (lv_at hl 9 rfl) ?_
                refine r_call (v := (zI (laV x s9))) (vx_runV (C := RX5) (As := [.int (nI s9)]) (rest := []) ⟨hx, hb, hml, hown, hts⟩ (q_lacks l hst de mi D cy _ _ o (nn + 1) cn x (TW.ou hT) hI.1 s9 (by omega) (by omega)) (cwV 1 hts gL_writes_X5_lacks rfl rfl rfl (by decide +kernel) ⟨Nat.le_of_ble_eq_true rfl, Nat.le_of_ble_eq_true rfl⟩) (mPreXV hX hD hS hA hK hP hfo (ci := 6) rfl) rfl rfl hl.1 rfl (lv_room (Nat.le_of_ble_eq_true rfl)) dL_writes_511 ⟨Nat.le_of_ble_eq_true rfl, Nat.le_of_ble_eq_true rfl⟩) hD hA hS (fun H locs hP hS _ => ?_)
                refine lv_iconst (v := (nI 2)) hx hb dL_writes_514 (by decide) ?_
                refine z_icmp_ne (u := (laV x s9)) (v := ((2 : Nat) : Int)) (tgt := 542) hx hb (zI_toInt (by omega) (by omega)) (nI_toInt (by omega)) dL_writes_515 (by decide) (fun c_515 => ?_) (fun c_515 => ?_)
                · exfalso; omega
                · refine lv_aload_n hx hb dL_writes_518 rfl (lv_at hl 1 rfl) ?_
                  refine lv_iload hx hb dL_writes_519 (lv_at hl 9 rfl) ?_
                  refine r_call (v := (zI (grV x s9))) (vx_runV (C := RX5) (As := [.int (nI s9)]) (rest := []) ⟨hx, hb, hml, hown, hts⟩ (q_grade l hst de mi D cy _ _ o (nn + 1) cn x (TW.ou hT) hI.1 s9 (by omega) (by omega)) (cwV 1 hts gL_writes_X5_grade rfl rfl rfl (by decide +kernel) ⟨Nat.le_of_ble_eq_true rfl, Nat.le_of_ble_eq_true rfl⟩) (mPreXV hX hD hS hA hK hP hfo (ci := 6) rfl) rfl rfl hl.1 rfl (lv_room (Nat.le_of_ble_eq_true rfl)) dL_writes_521 ⟨Nat.le_of_ble_eq_true rfl, Nat.le_of_ble_eq_true rfl⟩) hD hA hS (fun H locs hP hS _ => ?_)
                  refine lv_iconst (v := (zI (-1))) hx hb dL_writes_524 (by decide) ?_
                  refine z_icmp_ne (u := (grV x s9)) (v := (-1)) (tgt := 542) hx hb (zI_toInt (by omega) (by omega)) (zI_toInt (by omega) (by omega)) dL_writes_525 (by decide) (fun c_525 => ?_) (fun c_525 => ?_)
                  · exfalso; omega
                  · refine lv_aload_n hx hb dL_writes_528 rfl (lv_at hl 1 rfl) ?_
                    refine lv_iload hx hb dL_writes_529 (lv_at hl 9 rfl) ?_
                    refine r_call (v := (zI (plV cn x s9))) (vx_runV (C := RX5) (As := [.int (nI s9)]) (rest := []) ⟨hx, hb, hml, hown, hts⟩ (q_place l hst de mi D cy _ _ o (nn + 1) cn x (TW.ou hT) hI.1 s9 (by omega) (by omega)) (cwV 1 hts gL_writes_X5_place rfl rfl rfl (by decide +kernel) ⟨Nat.le_of_ble_eq_true rfl, Nat.le_of_ble_eq_true rfl⟩) (mPreXV hX hD hS hA hK hP hfo (ci := 6) rfl) rfl rfl hl.1 rfl (lv_room (Nat.le_of_ble_eq_true rfl)) dL_writes_531 ⟨Nat.le_of_ble_eq_true rfl, Nat.le_of_ble_eq_true rfl⟩) hD hA hS (fun H locs hP hS _ => ?_)
                    refine lv_iconst (v := (zI (-1))) hx hb dL_writes_534 (by decide) ?_
                    refine z_icmp_ne (u := (plV cn x s9)) (v := (-1)) (tgt := 542) hx hb (zI_toInt (by omega) (by omega)) (zI_toInt (by omega) (by omega)) dL_writes_535 (by decide) (fun c_535 => ?_) (fun c_535 => ?_)
                    · exfalso; omega
                    · refine lv_iconst (v := (nI 1)) hx hb dL_writes_538 (by decide) ?_
                      refine lv_goto (tgt := 543) hx hb dL_writes_539 (by decide) ?_
                      have hDI : DI cn x g5 := hDf g5 (by omega) (by omega) (by omega) (by omega) (by rw [hg5, va_up_ne _ _ (by omega), hg3, va_up_ne _ _ (by omega), hg1, j2, va_up_self]) (fun j hj8 hj9 => by rw [hg5, va_up_ne _ _ (by omega), hg3, va_up_ne _ _ (by omega), hg1, j2, va_up_ne _ _ hj9])
                      exact kE _ _ _ H locs _ ls hP hD hS ⟨M2, N6, cn, x, g5, rfl, hj, hN6_s, hT, hI, hDI⟩ dL_writes_543 (Nat.le_of_ble_eq_true rfl) (Nat.le_of_ble_eq_true rfl)
          · refine lv_iload hx hb dL_writes_486 (lv_at hl 0 rfl) ?_
            refine lv_iconst (v := (nI 1)) hx hb dL_writes_488 (by decide) ?_
            refine z_sub (u := (((g 3) - (slV x s9 1) : Nat) : Int)) (v := ((1 : Nat) : Int)) hx hb (nI_zI _) (nI_zI _) dL_writes_489 ?_
            refine lv_goto (tgt := 494) hx hb dL_writes_490 (by decide) ?_
            refine z_icmp_gt (u := ((slV x s9 3 : Nat) : Int)) (v := ((((g 3) - (slV x s9 1) : Nat) : Int) - ((1 : Nat) : Int))) (tgt := 542) hx hb (nI_toInt (by omega)) (zI_toInt (by omega) (by omega)) dL_writes_494 (by decide) (fun c_494 => ?_) (fun c_494 => ?_)
            · exfalso; omega
            · refine lv_aload_n hx hb dL_writes_497 rfl (lv_at hl 1 rfl) ?_
              refine lv_iload hx hb dL_writes_498 (lv_at hl 9 rfl) ?_
              refine lv_iconst (v := (nI 4)) hx hb dL_writes_500 (by decide) ?_
              refine r_call (v := (nI (slV x s9 4))) (vx_runV (C := RX5) (As := [.int (nI s9), .int (nI 4)]) (rest := []) ⟨hx, hb, hml, hown, hts⟩ (q_slips l hst de mi D cy _ _ o (nn + 1) cn x (TW.ou hT) hI.1 s9 4 (by omega) (by omega) (by omega)) (cwV 2 hts gL_writes_X5_slips rfl rfl rfl (by decide +kernel) ⟨Nat.le_of_ble_eq_true rfl, Nat.le_of_ble_eq_true rfl⟩) (mPreXV hX hD hS hA hK hP hfo (ci := 6) rfl) rfl rfl hl.1 rfl (lv_room (Nat.le_of_ble_eq_true rfl)) dL_writes_501 ⟨Nat.le_of_ble_eq_true rfl, Nat.le_of_ble_eq_true rfl⟩) hD hA hS (fun H locs hP hS _ => ?_)
              have hv4 := sl_bd hI s9 4
              refine lv_iconst (v := (nI 1)) hx hb dL_writes_504 (by decide) ?_
              refine z_icmp_gt (u := ((slV x s9 4 : Nat) : Int)) (v := ((1 : Nat) : Int)) (tgt := 542) hx hb (nI_toInt (by omega)) (nI_toInt (by omega)) dL_writes_505 (by decide) (fun c_505 => ?_) (fun c_505 => ?_)
              · exfalso; omega
              · refine lv_aload_n hx hb dL_writes_508 rfl (lv_at hl 1 rfl) ?_
                refine lv_iload hx hb dL_writes_509 (lv_at hl 9 rfl) ?_
                refine r_call (v := (zI (laV x s9))) (vx_runV (C := RX5) (As := [.int (nI s9)]) (rest := []) ⟨hx, hb, hml, hown, hts⟩ (q_lacks l hst de mi D cy _ _ o (nn + 1) cn x (TW.ou hT) hI.1 s9 (by omega) (by omega)) (cwV 1 hts gL_writes_X5_lacks rfl rfl rfl (by decide +kernel) ⟨Nat.le_of_ble_eq_true rfl, Nat.le_of_ble_eq_true rfl⟩) (mPreXV hX hD hS hA hK hP hfo (ci := 6) rfl) rfl rfl hl.1 rfl (lv_room (Nat.le_of_ble_eq_true rfl)) dL_writes_511 ⟨Nat.le_of_ble_eq_true rfl, Nat.le_of_ble_eq_true rfl⟩) hD hA hS (fun H locs hP hS _ => ?_)
                refine lv_iconst (v := (nI 2)) hx hb dL_writes_514 (by decide) ?_
                refine z_icmp_ne (u := (laV x s9)) (v := ((2 : Nat) : Int)) (tgt := 542) hx hb (zI_toInt (by omega) (by omega)) (nI_toInt (by omega)) dL_writes_515 (by decide) (fun c_515 => ?_) (fun c_515 => ?_)
                · exfalso; omega
                · refine lv_aload_n hx hb dL_writes_518 rfl (lv_at hl 1 rfl) ?_
                  refine lv_iload hx hb dL_writes_519 (lv_at hl 9 rfl) ?_
                  refine r_call (v := (zI (grV x s9))) (vx_runV (C := RX5) (As := [.int (nI s9)]) (rest := []) ⟨hx, hb, hml, hown, hts⟩ (q_grade l hst de mi D cy _ _ o (nn + 1) cn x (TW.ou hT) hI.1 s9 (by omega) (by omega)) (cwV 1 hts gL_writes_X5_grade rfl rfl rfl (by decide +kernel) ⟨Nat.le_of_ble_eq_true rfl, Nat.le_of_ble_eq_true rfl⟩) (mPreXV hX hD hS hA hK hP hfo (ci := 6) rfl) rfl rfl hl.1 rfl (lv_room (Nat.le_of_ble_eq_true rfl)) dL_writes_521 ⟨Nat.le_of_ble_eq_true rfl, Nat.le_of_ble_eq_true rfl⟩) hD hA hS (fun H locs hP hS _ => ?_)
                  refine lv_iconst (v := (zI (-1))) hx hb dL_writes_524 (by decide) ?_
                  refine z_icmp_ne (u := (grV x s9)) (v := (-1)) (tgt := 542) hx hb (zI_toInt (by omega) (by omega)) (zI_toInt (by omega) (by omega)) dL_writes_525 (by decide) (fun c_525 => ?_) (fun c_525 => ?_)
                  · exfalso; omega
                  · refine lv_aload_n hx hb dL_writes_528 rfl (lv_at hl 1 rfl) ?_
                    refine lv_iload hx hb dL_writes_529 (lv_at hl 9 rfl) ?_
                    refine r_call (v := (zI (plV cn x s9))) (vx_runV (C := RX5) (As := [.int (nI s9)]) (rest := []) ⟨hx, hb, hml, hown, hts⟩ (q_place l hst de mi D cy _ _ o (nn + 1) cn x (TW.ou hT) hI.1 s9 (by omega) (by omega)) (cwV 1 hts gL_writes_X5_place rfl rfl rfl (by decide +kernel) ⟨Nat.le_of_ble_eq_true rfl, Nat.le_of_ble_eq_true rfl⟩) (mPreXV hX hD hS hA hK hP hfo (ci := 6) rfl) rfl rfl hl.1 rfl (lv_room (Nat.le_of_ble_eq_true rfl)) dL_writes_531 ⟨Nat.le_of_ble_eq_true rfl, Nat.le_of_ble_eq_true rfl⟩) hD hA hS (fun H locs hP hS _ => ?_)
                    refine lv_iconst (v := (zI (-1))) hx hb dL_writes_534 (by decide) ?_
                    refine z_icmp_ne (u := (plV cn x s9)) (v := (-1)) (tgt := 542) hx hb (zI_toInt (by omega) (by omega)) (zI_toInt (by omega) (by omega)) dL_writes_535 (by decide) (fun c_535 => ?_) (fun c_535 => ?_)
                    · exfalso; omega
                    · refine lv_iconst (v := (nI 1)) hx hb dL_writes_538 (by decide) ?_
                      refine lv_goto (tgt := 543) hx hb dL_writes_539 (by decide) ?_
                      have hDI : DI cn x g5 := hDf g5 (by omega) (by omega) (by omega) (by omega) (by rw [hg5, va_up_ne _ _ (by omega), hg3, va_up_ne _ _ (by omega), hg1, j2, va_up_self]) (fun j hj8 hj9 => by rw [hg5, va_up_ne _ _ (by omega), hg3, va_up_ne _ _ (by omega), hg1, j2, va_up_ne _ _ hj9])
                      exact kE _ _ _ H locs _ ls hP hD hS ⟨M2, N6, cn, x, g5, rfl, hj, hN6_s, hT, hI, hDI⟩ dL_writes_543 (Nat.le_of_ble_eq_true rfl) (Nat.le_of_ble_eq_true rfl)
set_option maxRecDepth 100000 in
set_option maxHeartbeats 4000000 in
theorem w_writes_274 (C0 : LC p l s m args c cL_writes 13 wsL_writes A D cy de mi) (kE : LE p l e ({ frames := 11, cells := 200, slots := 1600, locals := 290 } : Room) s m args below meth c cL_writes A D 200 1600 Q (LPo cy de o t d (nn + 1))) (hn : nn + 1 ≤ 512) (hW : LWd D cy de A s H locs M2 N o t d nn cn x g) (hc1 : 0 < cn 1) (hc2 : 0 < cn 2) (hl : lv_has ls 13 [(0, .ref o), (1, .ref t), (2, .ref d), (3, .int xa), (4, .int za), (6, .int (nI (shS x 6))), (7, .int (nI 6))]) : W p l e ({ frames := 11, cells := 200, slots := 1600, locals := 290 } : Room) s m args below meth c H locs 6 36 Q (F0 m 274 ls []) := by
  obtain ⟨hx, hb, hml, hown, hts, hA, hK, hX, hN0, hst⟩ := id C0
  obtain ⟨⟨hP, hD, hS⟩, hj, hd, hT, hI, hJ⟩ := hW
  obtain ⟨⟨j0, j1, j2, j3⟩, jp, js⟩ := id hJ
  obtain ⟨n0, n1, n2, n3, n4, -⟩ := id hI.1
  obtain ⟨fo, hfo⟩ := (TW.ou (N := N) hT).fst
  obtain ⟨ft, hft⟩ := (TW.tu (N := N) hT).fst
  refine lv_iload hx hb dL_writes_274 (lv_at hl 4 rfl) ?_
  refine lv_aload_n hx hb dL_writes_276 rfl (lv_at hl 2 rfl) ?_
  refine lv_iconst (v := (nI 1)) hx hb dL_writes_277 (by decide) ?_
  refine n_iald (g := g) (n := 64) (i := 1) hx hb hK hP (iwU_r2 hj hd) (by omega) (by decide) dL_writes_278 ?_
  refine vp_callSi (W.runS (As := [.int za, .int (nI (g 1))]) (rest := []) ⟨hx, hb, hml, hown, hts⟩ (c_L_some l za (g 1) (by omega) (by omega)) (va_cwS 2 hts gL_writes_L_some rfl rfl rfl (by decide +kernel) ⟨Nat.le_of_ble_eq_true rfl, Nat.le_of_ble_eq_true rfl⟩) mPre0 rfl rfl hl.1 rfl (lv_room (Nat.le_of_ble_eq_true rfl)) dL_writes_279 ⟨Nat.le_of_ble_eq_true rfl, Nat.le_of_ble_eq_true rfl⟩) (fun r9 hr9 => ?_)
  have hr9 : r9 = nI (someF za (g 1)) := hr9
  subst hr9
  have hs_sm1 := someF_lt za (n := g 1) (by omega)
  obtain ⟨sm1, e_sm1⟩ : ∃ sm1 : Nat, sm1 = someF za (g 1) := ⟨_, rfl⟩
  rw [← e_sm1] at hs_sm1 ⊢
  refine lv_istore (lv' := [(7, .int (nI sm1)), (0, .ref o), (1, .ref t), (2, .ref d), (3, .int xa), (4, .int za), (6, .int (nI (shS x 6)))]) hx hb dL_writes_282 hl (by decide) rfl (fun ls hl => ?_)
  refine lv_iload hx hb dL_writes_284 (lv_at hl 5 rfl) ?_
  refine lv_iconst (v := (nI 4)) hx hb dL_writes_286 (by decide) ?_
  refine lv_ishr hx hb dL_writes_287 ?_
  refine lv_aload_n hx hb dL_writes_288 rfl (lv_at hl 3 rfl) ?_
  refine lv_iconst (v := (nI 0)) hx hb dL_writes_289 (by decide) ?_
  refine n_iald (g := g) (n := 64) (i := 0) hx hb hK hP (iwU_r2 hj hd) (by omega) (by decide) dL_writes_290 ?_
  refine vp_callSi (W.runS (As := [.int (za >>> ((nI 4) &&& 31)), .int (nI (g 0))]) (rest := []) ⟨hx, hb, hml, hown, hts⟩ (c_L_some l (za >>> ((nI 4) &&& 31)) (g 0) (by omega) (by omega)) (va_cwS 2 hts gL_writes_L_some rfl rfl rfl (by decide +kernel) ⟨Nat.le_of_ble_eq_true rfl, Nat.le_of_ble_eq_true rfl⟩) mPre0 rfl rfl hl.1 rfl (lv_room (Nat.le_of_ble_eq_true rfl)) dL_writes_291 ⟨Nat.le_of_ble_eq_true rfl, Nat.le_of_ble_eq_true rfl⟩) (fun r9 hr9 => ?_)
  have hr9 : r9 = nI (someF (za >>> ((nI 4) &&& 31)) (g 0)) := hr9
  subst hr9
  have hs_sm2 := someF_lt (za >>> ((nI 4) &&& 31)) (n := g 0) (by omega)
  obtain ⟨sm2, e_sm2⟩ : ∃ sm2 : Nat, sm2 = someF (za >>> ((nI 4) &&& 31)) (g 0) := ⟨_, rfl⟩
  rw [← e_sm2] at hs_sm2 ⊢
  refine lv_istore (lv' := [(8, .int (nI sm2)), (7, .int (nI sm1)), (0, .ref o), (1, .ref t), (2, .ref d), (3, .int xa), (4, .int za), (6, .int (nI (shS x 6)))]) hx hb dL_writes_294 hl (by decide) rfl (fun ls hl => ?_)
  refine lv_aload_n hx hb dL_writes_296 rfl (lv_at hl 2 rfl) ?_
  refine lv_aload_n hx hb dL_writes_297 rfl (lv_at hl 3 rfl) ?_
  refine lv_bipush (v := (nI 7)) hx hb dL_writes_298 (by decide) ?_
  refine lv_iload hx hb dL_writes_300 (lv_at hl 1 rfl) ?_
  refine lv_iload hx hb dL_writes_302 (lv_at hl 0 rfl) ?_
  refine lv_iconst (v := (nI 0)) hx hb dL_writes_304 (by decide) ?_
  refine s_both (va_runS (As := [.ref o, .ref t, .int (nI 7), .int (nI sm1), .int (nI sm2), .int (nI 0)]) (rest := []) ⟨hx, hb, hml, hown, hts⟩ (b_write l hst de mi D cy _ _ o t nn cn x hT hI.1 (nI sm1) (nI sm2) (nI 0) ((sm1 : Nat) : Int) (nI_toInt (by omega)) ((sm2 : Nat) : Int) (nI_toInt (by omega)) (fun h9 => hI.hrk _ h9)) (va_cwS 6 hts gL_writes_L_both rfl rfl rfl (by decide +kernel) ⟨Nat.le_of_ble_eq_true rfl, Nat.le_of_ble_eq_true rfl⟩) (wPreS hX hN0 (mD_Ul hD) hS hA hK (pm_Ul hP)) rfl rfl hl.1 rfl (lv_room (Nat.le_of_ble_eq_true rfl)) dL_writes_305 ⟨Nat.le_of_ble_eq_true rfl, Nat.le_of_ble_eq_true rfl⟩) hP hD hj hA hS (fun r M2 H locs hq hP hD hj hS _ => ?_)
  rcases hq with ⟨q1, rfl, hT⟩ | ⟨q1, q2, rfl, hT⟩ | ⟨q1, q2, q3, rfl, hT⟩ | ⟨q1, q2, q3, rfl, hT⟩
  · exact absurd ⟨⟨by omega, by omega⟩, by omega, by omega⟩ q1
  · exact absurd trivial q2
  · obtain ⟨fo, hfo⟩ := (TW.ou (N := N) hT).fst
    obtain ⟨ft, hft⟩ := (TW.tu (N := N) hT).fst
    have hI9 := hI.mono hn
    refine lv_istore (lv' := [(9, .int (zI (-2000000003))), (8, .int (nI sm2)), (7, .int (nI sm1)), (0, .ref o), (1, .ref t), (2, .ref d), (3, .int xa), (4, .int za), (6, .int (nI (shS x 6)))]) hx hb dL_writes_308 hl (by decide) rfl (fun ls hl => ?_)
    refine lv_iconst (v := (nI 0)) hx hb dL_writes_310 (by decide) ?_
    refine lv_istore (lv' := [(10, .int (nI 0)), (9, .int (zI (-2000000003))), (8, .int (nI sm2)), (7, .int (nI sm1)), (0, .ref o), (1, .ref t), (2, .ref d), (3, .int xa), (4, .int za), (6, .int (nI (shS x 6)))]) hx hb dL_writes_311 hl (by decide) rfl (fun ls hl => ?_)
    refine lv_iconst (v := (nI 0)) hx hb dL_writes_313 (by decide) ?_
    refine lv_istore (lv' := [(11, .int (nI 0)), (10, .int (nI 0)), (9, .int (zI (-2000000003))), (8, .int (nI sm2)), (7, .int (nI sm1)), (0, .ref o), (1, .ref t), (2, .ref d), (3, .int xa), (4, .int za), (6, .int (nI (shS x 6)))]) hx hb dL_writes_314 hl (by decide) rfl (fun ls hl => ?_)
    refine w_writes_316 (nn := nn + 1) (cn := cn) (x := x) (g := g) (sb := shS x 6) (pu := sm1) (le := sm2) (tv := zI (-2000000003)) C0 ?_ 6 0 (by decide) H locs ls ⟨⟨hP, hD, hS⟩, hj, hd, hT, hI9⟩ (lv_sub hl [5, 6, 7, 8, 9, 10, 4, 3, 2, 1, 0] rfl)
    intro H locs ls hW hl
    obtain ⟨⟨hP, hD, hS⟩, hj, hd, hT, -⟩ := hW
    have hs6 := shS_bd hI 6
    refine lv_iload hx hb dL_writes_353 (lv_at hl 8 rfl) ?_
    refine lv_ldc (v := (zI (-2000000003))) hx hb hown (by rw [show (zI (-2000000003)) = (-2000000003 : Int32) by decide]; exact hts _ (List.mem_of_getElem? (i := 1) rfl)) dL_writes_355 ?_
    refine z_icmp_ne (u := (-2000000003)) (v := (-2000000003)) (tgt := 373) hx hb (zI_toInt (by omega) (by omega)) (zI_toInt (by omega) (by omega)) dL_writes_357 (by decide) (fun c_357 => ?_) (fun c_357 => ?_)
    · exfalso; omega
    · refine lv_iload hx hb dL_writes_360 (lv_at hl 9 rfl) ?_
      refine lv_iload hx hb dL_writes_362 (lv_at hl 5 rfl) ?_
      refine z_icmp_ne (u := ((shS x 6 : Nat) : Int)) (v := ((shS x 6 : Nat) : Int)) (tgt := 371) hx hb (nI_toInt (by omega)) (nI_toInt (by omega)) dL_writes_364 (by decide) (fun c_364 => ?_) (fun c_364 => ?_)
      · exfalso; omega
      · refine lv_iconst (v := (nI 1)) hx hb dL_writes_367 (by decide) ?_
        refine lv_goto (tgt := 372) hx hb dL_writes_368 (by decide) ?_
        exact kE _ _ _ H locs _ ls hP hD hS ⟨M2, N, _, _, g, rfl, hj, hd, hT, hI.mono hn, hJ.of ⟨by (try simp (disch := omega) only [va_up_ne, va_up_self]); omega, by (try simp (disch := omega) only [va_up_ne, va_up_self]); omega, by (try simp (disch := omega) only [va_up_ne, va_up_self]); omega, by (try simp (disch := omega) only [va_up_ne, va_up_self]); omega⟩ (fun j hj9 => rfl) rfl rfl rfl rfl⟩ dL_writes_372 (Nat.le_of_ble_eq_true rfl) (Nat.le_of_ble_eq_true rfl)
  · obtain ⟨bd, hbd⟩ : ∃ bd : Nat, bd = (bndC (x 3) (x 4) (x 9 sm1) (x 8 sm1 + 1)).toNat := ⟨_, rfl⟩
    obtain ⟨C, hC⟩ : ∃ C, cmpA (x (400 + sm2)) (x 6 sm2) (x 2) (cn 0) (fun _ => 0) (cn 0) = C := ⟨_, rfl⟩
    obtain ⟨SL, hSL⟩ : ∃ SL, slpC (x (400 + sm2)) (x 6 sm2) (x 2) (cn 0) = SL := ⟨_, rfl⟩
    obtain ⟨cn1, hcn1⟩ : ∃ cn1 : Nat → Nat, cn1 = va_up (va_up cn 3 (cn 3 + 1)) 0 0 := ⟨_, rfl⟩
    obtain ⟨x1, hx1⟩ : ∃ x1 : Nat → Nat → Nat, x1 = nwX x (cn 3) sm1 bd C SL := ⟨_, rfl⟩
    have q3b : bndC (x 3) (x 4) (x 9 sm1) (x 8 sm1 + 1) ≠ -1 := q3.2
    have hT : TW cy de M2 o t cn1 x1 := by rw [hcn1, hx1, ← hC, ← hSL, hbd]; exact hT
    have hI1 : CI (nn + 1) cn1 x1 := by rw [hcn1, hx1]; exact P_write hI hn sm1 sm2 bd (by omega) q3.1 C hC SL hSL
    have hb1 := bndC_bd (x 3) (x 4) (x 9 sm1) (x 8 sm1 + 1)
    have hb2 : x 8 sm1 ≤ 2 := hI.1.2.2.2.2.2 8 sm1
    have hb3 : bndC (x 3) (x 4) (x 9 sm1) (x 8 sm1 + 1) = (bd : Int) := by omega
    have hb4 := bndC_pos _ hb3
    have hsum : shS x1 6 + 1 = shS x 6 := by rw [hx1, nw_sh]; exact shS_took _ _ (by omega) hb4
    obtain ⟨f1, f0, f2, f3, f4, f5⟩ := nw_facts hI sm2 bd (x 8 sm1) (by omega) C hC SL hSL
    have hsl : ∀ k, k < 5 → slV x1 (cn 3) k = wrS bd (x 8 sm1) SL k := fun k hk => by rw [hx1]; exact nw_sl _ _ _ _ _ _ k hk
    rw [← hsl 0 (by decide), ← hsl 1 (by decide)] at f0
    rw [← hsl 1 (by decide)] at f1 f4 f3 f2
    rw [← hsl 2 (by decide)] at f2
    rw [← hsl 3 (by decide)] at f3 f4
    rw [← hsl 4 (by decide)] at f5
    have f6 : laV x1 (cn 3) = 2 := by rw [hx1]; exact nw_la _ _ _ _ _ _
    have f7 : grV x1 (cn 3) = -1 := by rw [hx1]; exact nw_gr _ _ _ _ _ _
    have f8 : plV cn1 x1 (cn 3) = -1 := by rw [hx1]; exact nw_pl _ _ _ _ _ _ _
    have h16 : x1 6 = x 6 := by rw [hx1]; exact nw_6 _ _ _ _ _ _
    have i1 : cn1 1 = cn 1 := by rw [hcn1]; simp (disch := omega) only [va_up_ne, va_up_self]
    have i3 : cn1 3 = cn 3 + 1 := by rw [hcn1]; simp (disch := omega) only [va_up_ne, va_up_self]
    have hL6 := (hI.2.2.1 sm2 (by omega)).1.2
    have hs6 := shS_bd hI 6
    refine lv_istore (lv' := [(9, .int (nI (cn 3))), (8, .int (nI sm2)), (7, .int (nI sm1)), (0, .ref o), (1, .ref t), (2, .ref d), (3, .int xa), (4, .int za), (6, .int (nI (shS x 6)))]) hx hb dL_writes_308 hl (by decide) rfl (fun ls hl => ?_)
    refine lv_iconst (v := (nI 0)) hx hb dL_writes_310 (by decide) ?_
    refine lv_istore (lv' := [(10, .int (nI 0)), (9, .int (nI (cn 3))), (8, .int (nI sm2)), (7, .int (nI sm1)), (0, .ref o), (1, .ref t), (2, .ref d), (3, .int xa), (4, .int za), (6, .int (nI (shS x 6)))]) hx hb dL_writes_311 hl (by decide) rfl (fun ls hl => ?_)
    refine lv_iconst (v := (nI 0)) hx hb dL_writes_313 (by decide) ?_
    refine lv_istore (lv' := [(11, .int (nI 0)), (10, .int (nI 0)), (9, .int (nI (cn 3))), (8, .int (nI sm2)), (7, .int (nI sm1)), (0, .ref o), (1, .ref t), (2, .ref d), (3, .int xa), (4, .int za), (6, .int (nI (shS x 6)))]) hx hb dL_writes_314 hl (by decide) rfl (fun ls hl => ?_)
    refine w_writes_316 (nn := nn + 1) (cn := cn1) (x := x1) (g := g) (sb := shS x 6) (pu := sm1) (le := sm2) (tv := nI (cn 3)) C0 ?_ 6 0 (by decide) H locs ls ⟨⟨hP, hD, hS⟩, hj, hd, hT, hI1⟩ (lv_sub hl [5, 6, 7, 8, 9, 10, 4, 3, 2, 1, 0] rfl)
    intro H locs ls hW hl
    obtain ⟨⟨hP, hD, hS⟩, hj, hd, hT, -⟩ := hW
    refine lv_iload hx hb dL_writes_353 (lv_at hl 8 rfl) ?_
    refine lv_ldc (v := (zI (-2000000003))) hx hb hown (by rw [show (zI (-2000000003)) = (-2000000003 : Int32) by decide]; exact hts _ (List.mem_of_getElem? (i := 1) rfl)) dL_writes_355 ?_
    refine z_icmp_ne (u := ((cn 3 : Nat) : Int)) (v := (-2000000003)) (tgt := 373) hx hb (nI_toInt (by omega)) (zI_toInt (by omega) (by omega)) dL_writes_357 (by decide) (fun c_357 => ?_) (fun c_357 => ?_)
    · refine lv_iconst (v := (nI 0)) hx hb dL_writes_373 (by decide) ?_
      refine lv_istore (lv' := [(11, .int (nI 0)), (0, .ref o), (1, .ref t), (2, .ref d), (3, .int xa), (4, .int za), (6, .int (nI (shS x 6))), (7, .int (nI sm1)), (8, .int (nI sm2)), (9, .int (nI (cn 3))), (10, .int (nI (shS x1 6)))]) hx hb dL_writes_374 hl (by decide) rfl (fun ls hl => ?_)
      refine w_writes_376 (nn := nn + 1) (cn := cn1) (x := x1) (g := g) (sb := shS x 6) (pu := sm1) (le := sm2) (tn := cn 3) (sa := shS x1 6) C0 (by omega) (by rw [h16]; exact hL6) ?_ (x1 6 sm2) 0 (by omega) H locs ls ⟨⟨hP, hD, hS⟩, hj, hd, hT, hI1⟩ (lv_sub hl [1, 2, 3, 4, 5, 6, 7, 8, 9, 10, 0] rfl)
      intro H locs ls hW hl
      exact w_writes_394 C0 kE hn hW hJ ⟨by omega, by omega, by omega, q3.1⟩ (cn 3) (shS x 6) (shS x1 6) (x1 6 sm2) sm2 sm1 rfl (by omega) (by omega) (by omega) hsum (by rw [h16]; exact hL6) f1 (by rw [h16]; exact f0) f2 f3 f4 f5 f6 f7 f8 (fun g1 a0 a1 a2 a3 a4 a5 => by rw [hcn1]; exact DI_write hJ (by omega) sm1 (by omega) a0 a1 a2 a3 a4 a5 (by rw [hx1]; simp (disch := omega) only [va_up_ne, va_up_self, prX_ne]) (by rw [hx1]; simp (disch := omega) only [va_up_ne, va_up_self, prX_ne])) hl
    · exfalso; omega
set_option maxRecDepth 100000 in
set_option maxHeartbeats 4000000 in
theorem w_writes (C0 : LC p l s m args c cL_writes 13 wsL_writes A D cy de mi) (kE : LE p l e ({ frames := 11, cells := 200, slots := 1600, locals := 290 } : Room) s m args below meth c cL_writes A D 200 1600 Q (LPo cy de o t d (nn + 1))) (hn : nn + 1 ≤ 512) (hW : LWd D cy de A s H locs M2 N o t d nn cn x g)  (hl : lv_has ls 13 [(0, .ref o), (1, .ref t), (2, .ref d), (3, .int xa), (4, .int za)]) : W p l e ({ frames := 11, cells := 200, slots := 1600, locals := 290 } : Room) s m args below meth c H locs 0 0 Q (F0 m 0 ls []) := by
  obtain ⟨hx, hb, hml, hown, hts, hA, hK, hX, hN0, hst⟩ := id C0
  obtain ⟨⟨hP, hD, hS⟩, hj, hd, hT, hI, hJ⟩ := hW
  obtain ⟨⟨j0, j1, j2, j3⟩, jp, js⟩ := id hJ
  obtain ⟨n0, n1, n2, n3, n4, -⟩ := id hI.1
  obtain ⟨fo, hfo⟩ := (TW.ou (N := N) hT).fst
  obtain ⟨ft, hft⟩ := (TW.tu (N := N) hT).fst
  refine lv_iload_n hx hb dL_writes_0 rfl (lv_at hl 3 rfl) ?_
  refine lv_bipush (v := (nI 8)) hx hb dL_writes_1 (by decide) ?_
  refine vp_callSi (W.runS (As := [.int xa, .int (nI 8)]) (rest := []) ⟨hx, hb, hml, hown, hts⟩ (c_L_some l xa 8 (by omega) (by omega)) (va_cwS 2 hts gL_writes_L_some rfl rfl rfl (by decide +kernel) ⟨Nat.le_of_ble_eq_true rfl, Nat.le_of_ble_eq_true rfl⟩) mPre0 rfl rfl hl.1 rfl (lv_room (Nat.le_of_ble_eq_true rfl)) dL_writes_3 ⟨Nat.le_of_ble_eq_true rfl, Nat.le_of_ble_eq_true rfl⟩) (fun r9 hr9 => ?_)
  have hr9 : r9 = nI (someF xa 8) := hr9
  subst hr9
  have hs_sm1 := someF_lt xa (n := 8) (by omega)
  obtain ⟨sm1, e_sm1⟩ : ∃ sm1 : Nat, sm1 = someF xa 8 := ⟨_, rfl⟩
  rw [← e_sm1] at hs_sm1 ⊢
  refine lv_istore (lv' := [(5, .int (nI sm1)), (0, .ref o), (1, .ref t), (2, .ref d), (3, .int xa), (4, .int za)]) hx hb dL_writes_6 hl (by decide) rfl (fun ls hl => ?_)
  refine lv_iload hx hb dL_writes_8 (lv_at hl 0 rfl) ?_
  refine lv_iconst (v := (nI 2)) hx hb dL_writes_10 (by decide) ?_
  refine z_icmp_ge (u := ((sm1 : Nat) : Int)) (v := ((2 : Nat) : Int)) (tgt := 93) hx hb (nI_toInt (by omega)) (nI_toInt (by omega)) dL_writes_11 (by decide) (fun c_11 => ?_) (fun c_11 => ?_)
  · refine lv_iload hx hb dL_writes_93 (lv_at hl 0 rfl) ?_
    refine lv_iconst (v := (nI 4)) hx hb dL_writes_95 (by decide) ?_
    refine z_icmp_ge (u := ((sm1 : Nat) : Int)) (v := ((4 : Nat) : Int)) (tgt := 197) hx hb (nI_toInt (by omega)) (nI_toInt (by omega)) dL_writes_96 (by decide) (fun c_96 => ?_) (fun c_96 => ?_)
    · refine lv_aload_n hx hb dL_writes_197 rfl (lv_at hl 3 rfl) ?_
      refine lv_iconst (v := (nI 0)) hx hb dL_writes_198 (by decide) ?_
      refine n_iald (g := g) (n := 64) (i := 0) hx hb hK hP (iwU_r2 hj hd) (by omega) (by decide) dL_writes_199 ?_
      refine z_if_eq (u := ((g 0 : Nat) : Int)) (tgt := 209) hx hb (nI_toInt (by omega)) dL_writes_200 (by decide) (fun c_200 => ?_) (fun c_200 => ?_)
      · exact w_writes_209 C0 kE hn ⟨⟨hP, hD, hS⟩, hj, hd, hT, hI, hJ⟩ (by omega) (lv_sub hl [1, 2, 3, 4, 5] rfl)
      · refine lv_aload_n hx hb dL_writes_203 rfl (lv_at hl 3 rfl) ?_
        refine lv_iconst (v := (nI 1)) hx hb dL_writes_204 (by decide) ?_
        refine n_iald (g := g) (n := 64) (i := 1) hx hb hK hP (iwU_r2 hj hd) (by omega) (by decide) dL_writes_205 ?_
        refine z_if_ne (u := ((g 1 : Nat) : Int)) (tgt := 231) hx hb (nI_toInt (by omega)) dL_writes_206 (by decide) (fun c_206 => ?_) (fun c_206 => ?_)
        · refine lv_iconst (v := (nI 0)) hx hb dL_writes_231 (by decide) ?_
          refine lv_istore (lv' := [(6, .int (nI 0)), (5, .int (nI sm1)), (0, .ref o), (1, .ref t), (2, .ref d), (3, .int xa), (4, .int za)]) hx hb dL_writes_232 hl (by decide) rfl (fun ls hl => ?_)
          refine lv_iconst (v := (nI 0)) hx hb dL_writes_234 (by decide) ?_
          refine lv_istore (lv' := [(7, .int (nI 0)), (6, .int (nI 0)), (5, .int (nI sm1)), (0, .ref o), (1, .ref t), (2, .ref d), (3, .int xa), (4, .int za)]) hx hb dL_writes_235 hl (by decide) rfl (fun ls hl => ?_)
          refine w_writes_237 (nn := nn) (cn := cn) (x := x) (g := g) C0 ?_ 6 0 (by decide) H locs ls ⟨⟨hP, hD, hS⟩, hj, hd, hT, hI⟩ (lv_sub hl [3, 4, 5, 6, 7, 1, 0] rfl)
          intro H locs ls hW hl
          obtain ⟨hq, hj, hd, hT, hI⟩ := hW
          exact w_writes_274 C0 kE hn ⟨hq, hj, hd, hT, hI, hJ⟩ (by omega) (by omega) hl
        · exact w_writes_209 C0 kE hn ⟨⟨hP, hD, hS⟩, hj, hd, hT, hI, hJ⟩ (by omega) (lv_sub hl [1, 2, 3, 4, 5] rfl)
    · exact w_writes_99 C0 kE hn ⟨⟨hP, hD, hS⟩, hj, hd, hT, hI, hJ⟩  (lv_sub hl [1, 2, 3, 4, 5] rfl)
  · exact w_writes_14 C0 kE hn ⟨⟨hP, hD, hS⟩, hj, hd, hT, hI, hJ⟩  (lv_sub hl [1, 2, 3, 4, 5] rfl)
end LWM
set_option maxRecDepth 100000 in
set_option maxHeartbeats 4000000 in
theorem c_L_writes (l : Launch) (hst : l.stackTraces = false) (de mi : Nat) (D : va_G) (cy : Nat → ClassId) (M2 N : mM) (sz o t d nn : Nat) (cn : Nat → Nat) (x : Nat → Nat → Nat) (g : Nat → Nat) (xa za : Int32) (hn : nn + 1 ≤ 512) (hj : dj M2 N) (hd : N d = some (eI cy 64 g)) (hT : TW cy de M2 o t cn x) (hI : CI nn cn x) (hJ : DI cn x g) : lMi l yL_writes wsL_writes ({ frames := 11, cells := 200, slots := 1600, locals := 290 } : Room) de mi D cy (iwU M2 N) sz [.ref o, .ref t, .ref d, .int xa, .int za] (fun r M' => r = nI 1 ∧ LPo cy de o t d (nn + 1) M') 200 1600 := by
  refine lM.of (cc := cL_writes) (maxL := 13) (ret := some .boolean) (by decide) rfl (Nat.le_of_ble_eq_true rfl) ?_
  intro p e s m args below meth c ls hsz hx hb hr hts hown hlocks hml hP hD hS hA hK hX hN hl
  have hl : lv_has ls 13 [(0, .ref o), (1, .ref t), (2, .ref d), (3, .int xa), (4, .int za)] := hl
  have C0 : LC p l s m args c cL_writes 13 wsL_writes (mA (iwU M2 N) sz) D cy de mi := ⟨hx, hb, hml, hown, hts, hA, hK, hX, hN, hst⟩
  exact w_writes C0 (fun k n M' H locs pc ls h1 h2 h3 h4 h5 h6 h7 => e_wz hx hb hr hlocks (by decide) h1 h2 h3 ⟨rfl, h4⟩ h5 h6 h7) hn ⟨⟨hP, hD, hS⟩, hj, hd, hT, hI, hJ⟩ hl
