theorem iw_rel0 : REL (fun _ => 0) (fun _ _ => 0) (fun _ => 0) (fun _ _ => 0) :=
  ⟨⟨rfl, rfl, rfl, rfl⟩, ⟨rfl, rfl, rfl⟩, fun k hk => rfl, fun k hk => absurd hk (Nat.not_lt_zero k), fun b hb => ⟨rfl, rfl⟩, fun e he => rfl, fun k hk => absurd hk (Nat.not_lt_zero k), fun k hk => absurd hk (Nat.not_lt_zero k), fun k hk => ⟨rfl, rfl, fun j hj => rfl⟩⟩
theorem iw_nb0 : NB 0 (fun _ => 0) (fun _ _ => 0) := ⟨by decide, by decide, by decide, by decide, by decide, fun k j => Nat.zero_le _⟩
theorem iw_mi0 : MI 0 (fun _ => 0) (fun _ _ => 0) := ⟨by decide, by decide, by decide, by decide, by decide, fun k j => Nat.zero_le _⟩
def iwU (P Q : mM) : mM := fun q => match P q with
  | some e => some e
  | none => Q q
theorem iwU_l {P Q : mM} {q : Nat} {e : va_E} (h : P q = some e) : iwU P Q q = some e := by unfold iwU; rw [h]
theorem iwU_r {P Q : mM} {q : Nat} (h : P q = none) : iwU P Q q = Q q := by unfold iwU; rw [h]
set_option maxRecDepth 100000 in
set_option maxHeartbeats 4000000 in
theorem whole_start {p : Program} {e : Env} {s : State} {m : MethodId} {below : List Frame} {meth : Method} {c : Code} (l : Launch) (hflags : l.flags = flags0) {b L : Nat} {xs : Nat → Int32} (hL : L ≤ 2048) (C0 : lw_At p s m meth c b L xs) : W p l e room_1 s m #[Value.ref b] below meth c s.heap [] 0 0 (lw_Z below #[Value.ref b] s) (entryFrame m ([Value.ref b] : List Value).toArray 7) := by
  obtain ⟨hx, hb, hret, hml, hown, hts0, hXs, hbl, hlocks, hgv⟩ := id C0
  have hown : s.vm.findClass RL = some m.cls := hown
  have hb : c.code = cL_law := hb
  have hts : ∀ w ∈ wsL_law, w.before #[Value.ref b] s = true := fun w h => hts0 w (wsL_law_in w h)
  obtain ⟨D, cy, hK⟩ := iw_K hts0
  obtain ⟨de, mi, hX, hNN⟩ := iw_X hts0 hgv
  have hst : l.stackTraces = false := by
    unfold Launch.stackTraces
    rw [hflags]
    decide +kernel
  have C1 : iwC p l s m c b L xs D cy de mi := ⟨hx, hb, hml, hown, hts, hXs, hbl, hK, hX, hNN, hst⟩
  have hA : ∀ q, s.heap.size ≤ q → iwA s q := fun _ h => h
  have hwX5 : ∀ w ∈ wsX50, w.before #[Value.ref b] s = true := fun w h => hts w (inlX5 w h)
  have hwX6 : ∀ w ∈ wsX60, w.before #[Value.ref b] s = true := fun w h => hts w (inlX6 w h)
  have hl := lv_entry ([.ref b]) (n := 7) (Nat.le_of_ble_eq_true rfl)
  rw [lg_entry_eq]
  generalize (lg_sl ([.ref b]) ++ List.replicate (7 - (lg_sl ([.ref b])).length) Slot.unset).toArray = ls at hl ⊢
  have hl : lv_has ls 7 [(0, .ref b)] := hl
  have hS : va_S (iwA s) s.heap s.heap [] := va_S.rf
  have hP0 : pm D (fun _ => none) s.heap := fun q f hq => by cases hq
  have hD0 : mD (iwA s) (fun _ => none) := fun q hq => absurd rfl hq
  refine m_new (T := TX5) (N := 6) (ci := 6) (fs := [.null, .null, .null, .null, .null, .null]) hx hb hwX5 tyX5 tyX5_ok hown (hts0 (.classLink RL 8 RX5) (by decide +kernel)) (hts0 (.instantiable RX5 6) (by decide +kernel)) (hts0 (.initialized RX5) (by decide +kernel)) hK hP0 hD0 hS hA rfl (fun j hj => by rcases (show j = 0 ∨ j = 1 ∨ j = 2 ∨ j = 3 ∨ j = 4 ∨ j = 5 by omega) with rfl | rfl | rfl | rfl | rfl | rfl <;> rfl) (Nat.le_of_ble_eq_true rfl) (Nat.le_of_ble_eq_true rfl) dL_law_0 (fun a H hn_a hq_a hz_a hP hD hS => ?_)
  refine lv_dup hx hb dL_law_3 rfl ?_
  refine m_callv (va_runI (As := []) (rest := [.ref a]) ⟨hx, hb, hml, hown, hts⟩ (c_X5_init l de mi D cy _ _ a (mset_self _ _ _)) (cwI 0 hts gL_law_X5_init rfl rfl rfl (hts0 (.initialized RX5) (by decide +kernel)) (hts0 (.methodLink RL 76 yX5_init) (by decide +kernel)) (hts0 (.instanceMethod yX5_init) (by decide +kernel)) rfl (by decide +kernel) ⟨Nat.le_of_ble_eq_true rfl, Nat.le_of_ble_eq_true rfl⟩) (mPreXS hX hD hS hA hK hP) rfl rfl hl.1 rfl (lv_room (Nat.le_of_ble_eq_true rfl)) dL_law_4 ⟨Nat.le_of_ble_eq_true rfl, Nat.le_of_ble_eq_true rfl⟩) hD hA hS (fun Mh H locs hq9 hP hD hS hz9 hd9 hk9 => ?_)
  obtain ⟨B, P, E, hH, hSH, hB0⟩ := hq9
  refine lv_astore_n (lv' := [(1, .ref a), (0, .ref b)]) hx hb dL_law_7 rfl hl (by decide) rfl (fun ls hl => ?_)
  refine m_new (T := TX6) (N := 24) (ci := 7) (fs := [.null, .int (nI 0), .int (nI 0), .null, .null, .int (nI 0), .null, .null, .null, .null, .int (nI 0), .null, .null, .null, .null, .null, .null, .null, .null, .null, .null, .null, .int (nI 0), .null]) hx hb hwX6 tyX6 tyX6_ok hown (hts0 (.classLink RL 77 RX6) (by decide +kernel)) (hts0 (.instantiable RX6 24) (by decide +kernel)) (hts0 (.initialized RX6) (by decide +kernel)) hK hP hD hS hA rfl (fun j hj => by rcases (show j = 0 ∨ j = 1 ∨ j = 2 ∨ j = 3 ∨ j = 4 ∨ j = 5 ∨ j = 6 ∨ j = 7 ∨ j = 8 ∨ j = 9 ∨ j = 10 ∨ j = 11 ∨ j = 12 ∨ j = 13 ∨ j = 14 ∨ j = 15 ∨ j = 16 ∨ j = 17 ∨ j = 18 ∨ j = 19 ∨ j = 20 ∨ j = 21 ∨ j = 22 ∨ j = 23 by omega) with rfl | rfl | rfl | rfl | rfl | rfl | rfl | rfl | rfl | rfl | rfl | rfl | rfl | rfl | rfl | rfl | rfl | rfl | rfl | rfl | rfl | rfl | rfl | rfl <;> rfl) (Nat.le_of_ble_eq_true rfl) (Nat.le_of_ble_eq_true rfl) dL_law_8 (fun h H hn_h hq_h hz_h hP hD hS => ?_)
  have hPh1 := pm_out hn_h hP
  have hDh1 := mD_out hD
  obtain ⟨eM, heM⟩ : ∃ eM : va_E, eM = .inr (7, [.null, .int (nI 0), .int (nI 0), .null, .null, .int (nI 0), .null, .null, .null, .null, .int (nI 0), .null, .null, .null, .null, .null, .null, .null, .null, .null, .null, .null, .int (nI 0), .null]) := ⟨_, rfl⟩
  rw [← heM] at hP hD
  have hPm0 : pm D (mset (fun _ => none) h eM) H := fun q f hq => by
    by_cases eq : q = h
    · subst eq
      rw [mset_self] at hq
      cases hq
      exact hP q _ (mset_self _ _ _)
    · rw [mset_ne eq] at hq
      cases hq
  have hdj0 : dj (mset (fun _ => none) h eM) Mh := fun q hq => by
    by_cases eq : q = h
    · rw [eq]; exact hn_h
    · rw [mset_ne eq] at hq; exact absurd rfl hq
  have hDm0 : mD (iwA s) (mset (fun _ => none) h eM) := fun q hq => by
    by_cases eq : q = h
    · exact hD q (by rw [eq, mset_self]; exact fun z => by cases z)
    · rw [mset_ne eq] at hq; exact absurd rfl hq
  refine lv_dup hx hb dL_law_11 rfl ?_
  refine m_callv (va_runI (As := []) (rest := [.ref h]) ⟨hx, hb, hml, hown, hts⟩ (c_X6_init l D cy _ _ h (by rw [mset_self, heM])) (cwI 0 hts gL_law_X6_init rfl rfl rfl (hts0 (.initialized RX6) (by decide +kernel)) (hts0 (.methodLink RL 79 yX6_init) (by decide +kernel)) (hts0 (.instanceMethod yX6_init) (by decide +kernel)) rfl (by decide +kernel) ⟨Nat.le_of_ble_eq_true rfl, Nat.le_of_ble_eq_true rfl⟩) (mPreWS hK hPm0) rfl rfl hl.1 rfl (lv_room (Nat.le_of_ble_eq_true rfl)) dL_law_12 ⟨Nat.le_of_ble_eq_true rfl, Nat.le_of_ble_eq_true rfl⟩) hDm0 hA hS (fun Mm H1 locs hq9 hPm hDm hS hz9 hd9 hk9 => ?_)
  obtain ⟨ad, hW⟩ := hq9
  have hPh2 := pm_frame hPh1 hdj0.sy hk9
  have hdj1 := dj_after hPh1 hdj0.sy hd9
  refine lv_astore_n (lv' := [(2, .ref h), (1, .ref a), (0, .ref b)]) hx hb dL_law_15 rfl hl (by decide) rfl (fun ls hl => ?_)
  refine lv_iconst (v := nI 1) hx hb dL_law_16 (by decide) ?_
  have hPU : pm D (iwU Mh Mm) H1 := fun q f hq => by
    cases hm : Mh q with
    | some e9 =>
      rw [iwU_l hm] at hq
      exact hPh2 q f (by rw [hm]; exact hq)
    | none =>
      rw [iwU_r hm] at hq
      exact hPm q f hq
  have hDU : mD (iwA s) (iwU Mh Mm) := fun q hq => by
    cases hm : Mh q with
    | some e9 => exact hDh1 q (by rw [hm]; exact fun z => by cases z)
    | none =>
      rw [iwU_r hm] at hq
      exact hDm q hq
  refine n_newa (atype := .long) (n := 1) (x := (1, .inr (.inl (fun _ => 0)))) hx hb (hts0 (.arrayClass .long) (by decide +kernel)) hK hPU hDU hS hA 3 rfl (fun h9 => h9) rfl (by decide) (by decide) (Nat.le_of_ble_eq_true rfl) (Nat.le_of_ble_eq_true rfl) dL_law_17 (fun o H2 hn_o hq_o hz_o hP hD hS => ?_)
  have hMo : Mh o = none := by
    cases hm : Mh o with
    | none => rfl
    | some e9 => rw [iwU_l hm] at hn_o; cases hn_o
  have hMmo : Mm o = none := by rw [iwU_r hMo] at hn_o; exact hn_o
  have hPh3 : pm D (mset Mh o (eJ cy 1 (fun _ => 0))) H2 := fun q f hq => by
    by_cases eq : q = o
    · subst eq
      rw [mset_self] at hq
      cases hq
      exact hP q _ (mset_self _ _ _)
    · rw [mset_ne eq] at hq
      exact hP q f (by rw [mset_ne eq]; exact iwU_l hq)
  have hPm3 : pm D Mm H2 := fun q f hq => by
    have eq : q ≠ o := fun z => by rw [z, hMmo] at hq; cases hq
    exact hP q f (by rw [mset_ne eq, iwU_r (hdj1.sy q (by rw [hq]; exact fun z => by cases z))]; exact hq)
  have hdj3 : dj (mset Mh o (eJ cy 1 (fun _ => 0))) Mm := fun q hq => by
    by_cases eq : q = o
    · rw [eq]; exact hMmo
    · rw [mset_ne eq] at hq; exact hdj1 q hq
  have hDh3 : mD (iwA s) (mset Mh o (eJ cy 1 (fun _ => 0))) := hDh1.set (hD o (by rw [mset_self]; exact fun z => by cases z))
  refine lv_astore_n (lv' := [(3, .ref o), (2, .ref h), (1, .ref a), (0, .ref b)]) hx hb dL_law_19 rfl hl (by decide) rfl (fun ls hl => ?_)
  refine lv_iconst (v := nI 0) hx hb dL_law_20 (by decide) ?_
  refine lv_istore (lv' := [(4, .int (nI 0)), (3, .ref o), (2, .ref h), (1, .ref a), (0, .ref b)]) hx hb dL_law_21 hl (by decide) rfl (fun ls hl => ?_)
  refine W.widen (k := 32 + 12 * 0) (n := 2000 + 120 * 0) (Nat.le_of_ble_eq_true rfl) (Nat.le_of_ble_eq_true rfl) ?_
  exact iw_loop C1 hret hlocks hL 513 0 (Nat.zero_le _) (Nat.le_refl _) _ _ _ ⟨Mh, Mm, fun _ => 0, ad, 0, fun _ => 0, fun _ _ => 0, B, P, fun _ => 0, fun _ _ => 0, E, ⟨hPh3, hMo, hPm3, hdj3, hDh3, hDm⟩, ⟨hH, hSH, hB0⟩, hW, iw_rel0, iw_nb0, iw_mi0⟩ hS (lv_sub hl [0, 4, 3, 2, 1] rfl)
