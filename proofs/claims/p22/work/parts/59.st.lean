theorem iw_K {s : State} {b : Nat} (hts : ∀ w ∈ lw_tbl, w.before #[Value.ref b] s = true) : ∃ (D : va_G) (cy : Nat → ClassId), mK D cy s := by
  obtain ⟨c0, i0, k0⟩ := u_known (C := RJx4a65c) (T := TJx4a65c) (N := 3) (n := 3) hts inJx4a65c (hts (.instantiable RJx4a65c 3) (by decide +kernel))
  obtain ⟨c1, i1, k1⟩ := u_known (C := RX0) (T := TX0) (N := 3) (n := 3) hts inX0 (hts (.instantiable RX0 3) (by decide +kernel))
  obtain ⟨c2, i2, k2⟩ := u_known (C := RX1) (T := TX1) (N := 2) (n := 2) hts inX1 (hts (.instantiable RX1 2) (by decide +kernel))
  obtain ⟨c3, i3, k3⟩ := u_known (C := RX2) (T := TX2) (N := 3) (n := 3) hts inX2 (hts (.instantiable RX2 3) (by decide +kernel))
  obtain ⟨c4, i4, k4⟩ := u_known (C := RX3) (T := TX3) (N := 7) (n := 7) hts inX3 (hts (.instantiable RX3 7) (by decide +kernel))
  obtain ⟨c5, i5, k5⟩ := u_known (C := RX4) (T := TX4) (N := 2) (n := 2) hts inX4 (hts (.instantiable RX4 2) (by decide +kernel))
  obtain ⟨c6, i6, k6⟩ := u_known (C := RX5) (T := TX5) (N := 6) (n := 6) hts inX5 (hts (.instantiable RX5 6) (by decide +kernel))
  obtain ⟨cI, kI, pI, fI, gI, hI⟩ := Cond.arrayClass_spec (hts (.arrayClass .int) (by decide +kernel))
  obtain ⟨cZ, kZ, pZ, fZ, gZ, hZ⟩ := Cond.arrayClass_spec (hts (.arrayClass .boolean) (by decide +kernel))
  obtain ⟨pO, cO, kO, fO, -, gO, hO, eO⟩ := Cond.arrayOver_spec (hts (.arrayOver (.object "java/lang/Object")) (by decide +kernel))
  refine ⟨(fun k => if k = 0 then c0 else if k = 1 then c1 else if k = 2 then c2 else if k = 3 then c3 else if k = 4 then c4 else if k = 5 then c5 else c6, fun k => if k = 0 then i0 else if k = 1 then i1 else if k = 2 then i2 else if k = 3 then i3 else if k = 4 then i4 else if k = 5 then i5 else i6), fun k => if k = 0 then cI else if k = 1 then cZ else cO, ?_, ?_⟩
  · intro k q hq
    match k, hq with
    | 0, hq => cases hq; exact k0
    | 1, hq => cases hq; exact k1
    | 2, hq => cases hq; exact k2
    | 3, hq => cases hq; exact k3
    | 4, hq => cases hq; exact k4
    | 5, hq => cases hq; exact k5
    | 6, hq => cases hq; exact k6
    | k + 7, hq => simp [vwCl] at hq
  · intro k q hq
    match k, hq with
    | 0, hq => cases hq; exact ⟨fun n z => ⟨(fun k h => by cases h), kI, gI, pI, hI⟩, fI⟩
    | 1, hq => cases hq; exact ⟨fun n z => ⟨(fun k h => by cases h), kZ, gZ, pZ, hZ⟩, fZ⟩
    | 2, hq => cases hq; exact ⟨fun n z => ⟨(fun k h => by cases h), kO, gO, pO, hO⟩, kO, pO, gO, hO, fO, eO⟩
    | k + 3, hq => simp [mT] at hq
theorem iw_s1 : ∀ x ∈ cStr, Cond.stringRef RX5 x.1 x.2 ∈ lw_tbl := by decide +kernel
theorem iw_s2 : ∀ x ∈ cStr, Cond.exactly (.string RX5 x.1) "java/lang/String" ∈ flatC (Jvm.Cond.and given_1 narrow_1) := by decide +kernel
theorem iw_s3 : ∀ w ∈ cDW, w ∈ lw_tbl := by decide +kernel
theorem iw_s4 : ∀ q ∈ cNN, Cond.not (.castable q.1 q.2) ∈ flatC (Jvm.Cond.and given_1 narrow_1) := by decide +kernel
theorem iw_X {s : State} {b : Nat} (hts : ∀ w ∈ lw_tbl, w.before #[Value.ref b] s = true) (hgv : (Jvm.Cond.and given_1 narrow_1).before #[Value.ref b] s = true) : ∃ de mi : Nat, cX de mi (iwA s) s s.heap ∧ cN s := by
  have hg := flat_of_before _ hgv
  have hA : ∀ a : Nat, a < s.heap.size → ¬ iwA s a := fun a h => Nat.not_le.mpr h
  obtain ⟨de, hde, hT⟩ := va_Tof (tm := (.static "java/util/ArrayList" "DEFAULTCAPACITY_EMPTY_ELEMENTDATA" "[Ljava/lang/Object;")) (ty := .object "java/lang/Object") (N := 0) (f := fun _ => .null) (A := iwA s) (by decide) (hg (.arrayOf (.static "java/util/ArrayList" "DEFAULTCAPACITY_EMPTY_ELEMENTDATA" "[Ljava/lang/Object;") (.object "java/lang/Object")) (by decide +kernel)) (va_eqt (hg (.eq (.length (.static "java/util/ArrayList" "DEFAULTCAPACITY_EMPTY_ELEMENTDATA" "[Ljava/lang/Object;")) (.int 0)) (by decide +kernel))) (fun j hj => absurd hj (Nat.not_lt_zero j)) hA
  obtain ⟨mi, hmi⟩ := va_Mi.of (hg (.isRef (.mirror "[Ljava/lang/Object;")) (by decide +kernel))
  refine ⟨de, mi, ⟨va_Zof (hts (.laysStatic "java/util/ArrayList" "DEFAULTCAPACITY_EMPTY_ELEMENTDATA" "[Ljava/lang/Object;") (by decide +kernel)) (hts (.initialized "java/util/ArrayList") (by decide +kernel)) hde hA, hT,
    vx_Zqof (hts (.laysStatic Bundle.tN "UNASSIGNED_STACK" Bundle.steD) (by decide +kernel)) (hts (.initialized Bundle.tN) (by decide +kernel)) (hg (.isRef (.static Bundle.tN "UNASSIGNED_STACK" Bundle.steD)) (by decide +kernel)) hA,
    vx_Zqof (hts (.laysStatic Bundle.tN "SUPPRESSED_SENTINEL" Bundle.listD) (by decide +kernel)) (hts (.initialized Bundle.tN) (by decide +kernel)) (hg (.isRef (.static Bundle.tN "SUPPRESSED_SENTINEL" Bundle.listD)) (by decide +kernel)) hA,
    hmi, va_Dc.of (hts (.declares ⟨"java/lang/Object", "getClass", "()Ljava/lang/Class;"⟩) (by decide +kernel)), va_AO.of (hts (.arrayOver (.object "java/lang/Object")) (by decide +kernel)), ?_, ?_, ?_⟩, ?_⟩
  · intro C hC
    rcases List.mem_cons.mp hC with rfl | hC
    · exact va_Nw.of rfl (hts (.castable "InkHall$Strokes" "java/lang/Object") (by decide +kernel))
    rcases List.mem_cons.mp hC with rfl | hC
    · exact va_Nw.of rfl (hts (.castable "InkHall$Pupil" "java/lang/Object") (by decide +kernel))
    rcases List.mem_cons.mp hC with rfl | hC
    · exact va_Nw.of rfl (hts (.castable "InkHall$Script" "java/lang/Object") (by decide +kernel))
    exact absurd hC List.not_mem_nil
  · intro x hx
    obtain ⟨a, c, cell, k, hev, -⟩ := Cond.exactly_spec (hg _ (iw_s2 x hx))
    exact ⟨a, vk_R.of (hts _ (iw_s1 x hx)) hev⟩
  · exact fun w hw => va_Nw.of (cDW_tab w hw) (hts w (iw_s3 w hw))
  · exact fun q hq => va_Nc.of (hg _ (iw_s4 q hq))
theorem iw_hall {cy : Nat → ClassId} {de : Nat} {M : mM} {a : Nat} (h : ∃ (B : Nat → Nat) (P : Nat → Option va_E) (E : Nat → Nat → Option Nat), hHolds M B P ∧ SH de cy B P (fun _ => 0) (fun _ _ => 0) E ∧ B 0 = a) : hall cy de M a (fun _ => 0) (fun _ _ => 0) := by
  obtain ⟨B, P, E, h1, h2, h3⟩ := h
  exact ⟨B, P, E, _, h1, h2, h3, ⟨fun j => ⟨Nat.zero_le _, Nat.zero_le _⟩, Nat.zero_le _, Nat.zero_le _, Nat.zero_le _⟩, fun k hk => rfl⟩
theorem iw_ci0 : CI 0 (fun _ => 0) (fun _ _ => 0) := ⟨⟨by decide, by decide, by decide, by decide, by decide, fun k j => Nat.zero_le _⟩, fun j hj => absurd hj (Nat.not_lt_zero j), fun k hk => absurd hk (Nat.not_lt_zero k), fun s hs => absurd hs (Nat.not_lt_zero s)⟩
theorem iw_di0 : DI (fun _ => 0) (fun _ _ => 0) (fun _ => 0) := ⟨⟨rfl, rfl, rfl, rfl⟩, fun p hp => absurd hp (Nat.not_lt_zero p), fun s hs => absurd hs (Nat.not_lt_zero s)⟩
theorem iwU_one {P : mM} {q : Nat} {e : va_E} (h : P q = none) : mset P q e = iwU P (mset (fun _ => none) q e) := by
  funext a
  by_cases ea : a = q
  · rw [ea, mset_self, iwU_r h, mset_self]
  · rw [mset_ne ea]
    cases hp : P a with
    | none => rw [iwU_r hp, mset_ne ea]
    | some f => rw [iwU_l hp]
theorem dj_one {P : mM} {q : Nat} {e : va_E} (h : P q = none) : dj P (mset (fun _ => none) q e) := fun a ha => by rw [mset_ne (fun z => ha (by rw [z]; exact h))]
set_option maxRecDepth 100000 in
set_option maxHeartbeats 4000000 in
theorem whole_start {p : Program} {e : Env} {s : State} {m : MethodId} {below : List Frame} {meth : Method} {c : Code} (l : Launch) (hflags : l.flags = flags0) {b L : Nat} {xs : Nat → Int32} (hL : L ≤ 260) (C0 : lw_At p s m meth c b L xs) : W p l e room_1 s m #[Value.ref b] below meth c s.heap [] 0 0 (lw_Z below #[Value.ref b] s) (entryFrame m ([Value.ref b] : List Value).toArray 9) := by
  obtain ⟨hx, hb, hret, hml, hown, hts0, hXs, hbl, hlocks, hgv⟩ := id C0
  have hown : s.vm.findClass RL = some m.cls := hown
  have hb : c.code = cL_law := hb
  have hts : ∀ w ∈ wsL_law, w.before #[Value.ref b] s = true := fun w h => hts0 w (wsL_law_in w h)
  obtain ⟨D, cy, hK⟩ := iw_K hts0
  obtain ⟨de, mi, hX, hNN⟩ := iw_X hts0 hgv
  have hst : l.stackTraces = false := by
    unfold Launch.stackTraces
    rw [hflags]
    decide +kernel
  have hA : ∀ q, s.heap.size ≤ q → iwA s q := fun _ h => h
  have hbA : ¬ iwA s b := Nat.not_le.mpr hbl
  have C1 : LC p l s m #[Value.ref b] c cL_law 9 wsL_law (iwA s) D cy de mi := ⟨hx, hb, hml, hown, hts, hA, hK, hX, hNN, hst⟩
  have hwX5 : ∀ w ∈ wsX50, w.before #[Value.ref b] s = true := fun w h => hts w (inlX5 w h)
  have hl := lv_entry ([.ref b]) (n := 9) (Nat.le_of_ble_eq_true rfl)
  rw [lg_entry_eq]
  generalize (lg_sl ([.ref b]) ++ List.replicate (9 - (lg_sl ([.ref b])).length) Slot.unset).toArray = ls at hl ⊢
  have hl : lv_has ls 9 [(0, .ref b)] := hl
  have hS : va_S (iwA s) s.heap s.heap [] := va_S.rf
  have hP0 : pm D (fun _ => none) s.heap := fun q f hq => by cases hq
  have hD0 : mD (iwA s) (fun _ => none) := fun q hq => absurd rfl hq
  refine m_new (T := TX5) (N := 6) (ci := 6) (fs := [.null, .null, .null, .null, .null, .null]) hx hb hwX5 tyX5 tyX5_ok hown (hts0 (.classLink RL 25 RX5) (by decide +kernel)) (hts0 (.instantiable RX5 6) (by decide +kernel)) (hts0 (.initialized RX5) (by decide +kernel)) hK hP0 hD0 hS hA rfl (fun j hj => by rcases (show j = 0 ∨ j = 1 ∨ j = 2 ∨ j = 3 ∨ j = 4 ∨ j = 5 by omega) with rfl | rfl | rfl | rfl | rfl | rfl <;> rfl) (Nat.le_of_ble_eq_true rfl) (Nat.le_of_ble_eq_true rfl) dL_law_0 (fun a H hn_a hq_a hz_a hP hD hS => ?_)
  refine lv_dup hx hb dL_law_3 rfl ?_
  refine m_callv (va_runI (As := []) (rest := [.ref a]) ⟨hx, hb, hml, hown, hts⟩ (c_X5_init l de mi D cy _ _ a (mset_self _ _ _)) (cwI 0 hts gL_law_X5_init rfl rfl rfl (hts0 (.initialized RX5) (by decide +kernel)) (hts0 (.methodLink RL 113 yX5_init) (by decide +kernel)) (hts0 (.instanceMethod yX5_init) (by decide +kernel)) rfl (by decide +kernel) ⟨Nat.le_of_ble_eq_true rfl, Nat.le_of_ble_eq_true rfl⟩) (mPreXS hX hD hS hA hK hP) rfl rfl hl.1 rfl (lv_room (Nat.le_of_ble_eq_true rfl)) dL_law_4 ⟨Nat.le_of_ble_eq_true rfl, Nat.le_of_ble_eq_true rfl⟩) hD hA hS (fun Mo H locs hq9 hP9 hD9 hS hz9 hd9 hk9 => ?_)
  have hHo := iw_hall hq9
  refine lv_astore_n (lv' := [(1, .ref a), (0, .ref b)]) hx hb dL_law_7 rfl hl (by decide) rfl (fun ls hl => ?_)
  refine m_new (T := TX5) (N := 6) (ci := 6) (fs := [.null, .null, .null, .null, .null, .null]) hx hb hwX5 tyX5 tyX5_ok hown (hts0 (.classLink RL 25 RX5) (by decide +kernel)) (hts0 (.instantiable RX5 6) (by decide +kernel)) (hts0 (.initialized RX5) (by decide +kernel)) hK hP9 hD9 hS hA rfl (fun j hj => by rcases (show j = 0 ∨ j = 1 ∨ j = 2 ∨ j = 3 ∨ j = 4 ∨ j = 5 by omega) with rfl | rfl | rfl | rfl | rfl | rfl <;> rfl) (Nat.le_of_ble_eq_true rfl) (Nat.le_of_ble_eq_true rfl) dL_law_8 (fun h H hn_h hq_h hz_h hP hD hS => ?_)
  have hPh1 := pm_out hn_h hP
  have hDh1 := mD_out hD
  obtain ⟨eM, heM⟩ : ∃ eM : va_E, eM = .inr (6, [.null, .null, .null, .null, .null, .null]) := ⟨_, rfl⟩
  rw [← heM] at hP hD
  have hPm0 : pm D (mset (fun _ => none) h eM) H := fun q f hq => by
    by_cases eq : q = h
    · subst eq
      rw [mset_self] at hq
      cases hq
      exact hP q _ (mset_self _ _ _)
    · rw [mset_ne eq] at hq
      cases hq
  have hdj0 : dj (mset (fun _ => none) h eM) Mo := fun q hq => by
    by_cases eq : q = h
    · rw [eq]; exact hn_h
    · rw [mset_ne eq] at hq; exact absurd rfl hq
  have hDm0 : mD (iwA s) (mset (fun _ => none) h eM) := fun q hq => by
    by_cases eq : q = h
    · exact hD q (by rw [eq, mset_self]; exact fun z => by cases z)
    · rw [mset_ne eq] at hq; exact absurd rfl hq
  refine lv_dup hx hb dL_law_11 rfl ?_
  refine m_callv (va_runI (As := []) (rest := [.ref h]) ⟨hx, hb, hml, hown, hts⟩ (c_X5_init l de mi D cy _ _ h (by rw [mset_self, heM])) (cwI 0 hts gL_law_X5_init rfl rfl rfl (hts0 (.initialized RX5) (by decide +kernel)) (hts0 (.methodLink RL 113 yX5_init) (by decide +kernel)) (hts0 (.instanceMethod yX5_init) (by decide +kernel)) rfl (by decide +kernel) ⟨Nat.le_of_ble_eq_true rfl, Nat.le_of_ble_eq_true rfl⟩) (mPreXS hX hDm0 hS hA hK hPm0) rfl rfl hl.1 rfl (lv_room (Nat.le_of_ble_eq_true rfl)) dL_law_12 ⟨Nat.le_of_ble_eq_true rfl, Nat.le_of_ble_eq_true rfl⟩) hDm0 hA hS (fun Mt H locs hq9 hP9 hD9 hS hz9 hd9 hk9 => ?_)
  have hHt := iw_hall hq9
  have hPo := pm_frame hPh1 hdj0.sy hk9
  have hdj := dj_after hPh1 hdj0.sy hd9
  refine lv_astore_n (lv' := [(2, .ref h), (1, .ref a), (0, .ref b)]) hx hb dL_law_15 rfl hl (by decide) rfl (fun ls hl => ?_)
  refine lv_bipush (v := nI 64) hx hb dL_law_16 (by decide) ?_
  refine n_newa (atype := .int) (n := 64) (x := (64, .inl (fun _ => nI 0))) hx hb (hts0 (.arrayClass .int) (by decide +kernel)) hK (pm_U hPo hP9) (mD_U hDh1 hD9) hS hA 0 rfl (fun h9 => h9) rfl (by decide) (by decide) (Nat.le_of_ble_eq_true rfl) (Nat.le_of_ble_eq_true rfl) dL_law_18 (fun d H hn_d hq_d hz_d hP hD hS => ?_)
  have hT : TW cy de (iwU Mo Mt) a h (fun _ => 0) (fun _ _ => 0) := ⟨Mo, Mt, rfl, hdj, hHo, hHt⟩
  obtain ⟨M2, hM2⟩ : ∃ M2 : mM, M2 = iwU Mo Mt := ⟨_, rfl⟩
  rw [← hM2] at hT hP hD hn_d
  obtain ⟨N, hN⟩ : ∃ N : mM, N = mset (fun _ => none) d (eI cy 64 (fun _ => 0)) := ⟨_, rfl⟩
  have hP : pm D (iwU M2 N) H := by rw [hN, ← iwU_one hn_d]; exact hP
  have hD : mD (iwA s) (iwU M2 N) := by rw [hN, ← iwU_one hn_d]; exact hD
  have hj : dj M2 N := by rw [hN]; exact dj_one hn_d
  have hd : N d = some (eI cy 64 (fun _ => 0)) := by rw [hN, mset_self]
  refine lv_astore_n (lv' := [(3, .ref d), (2, .ref h), (1, .ref a), (0, .ref b)]) hx hb dL_law_20 rfl hl (by decide) rfl (fun ls hl => ?_)
  refine lv_aload_n hx hb dL_law_21 rfl (lv_at hl 2 rfl) ?_
  refine lv_aload_n hx hb dL_law_22 rfl (lv_at hl 0 rfl) ?_
  refine i_call (v := nI 1) (va_runS (As := [.ref a, .ref d]) (rest := []) ⟨hx, hb, hml, hown, hts⟩ (c_L_refused l hst de mi D cy _ _ a d 0 (fun _ => 0) (fun _ _ => 0) (fun _ => 0) (TW.ou hT) (iwU_r2 hj hd) iw_ci0 ⟨rfl, rfl⟩) (va_cwS 2 hts gL_law_L_refused rfl rfl rfl (by decide +kernel) ⟨Nat.le_of_ble_eq_true rfl, Nat.le_of_ble_eq_true rfl⟩) (wPreS hX hNN hD hS hA hK hP) rfl rfl hl.1 rfl (lv_room (Nat.le_of_ble_eq_true rfl)) dL_law_23 ⟨Nat.le_of_ble_eq_true rfl, Nat.le_of_ble_eq_true rfl⟩) hD hA hS (fun H locs hP hS => ?_)
  refine lv_istore (lv' := [(4, .int (nI 1)), (3, .ref d), (2, .ref h), (1, .ref a), (0, .ref b)]) hx hb dL_law_26 hl (by decide) rfl (fun ls hl => ?_)
  refine lv_iconst (v := nI 0) hx hb dL_law_28 (by decide) ?_
  refine lv_istore (lv' := [(5, .int (nI 0)), (4, .int (nI 1)), (3, .ref d), (2, .ref h), (1, .ref a), (0, .ref b)]) hx hb dL_law_29 hl (by decide) rfl (fun ls hl => ?_)
  refine W.widen (k := 4000 + 400 * 0 + 5460 * ((0 + 11) / 12) + 3400 * ((0 + 49) / 50)) (n := 23000 + 2400 * 0 + 32860 * ((0 + 11) / 12) + 22000 * ((0 + 49) / 50)) (Nat.le_of_ble_eq_true rfl) (Nat.le_of_ble_eq_true rfl) ?_
  exact w_law_31 C1 hL hXs hbl hbA (w_law_203 C1 hret hlocks) 110 0 (by decide) M2 N _ _ _ H locs ls ⟨⟨hP, hD, hS⟩, hj, hd, hT, iw_ci0, iw_di0⟩ (lv_sub hl [0, 1, 5, 4, 3, 2] rfl)
