theorem P_h3m {c : Nat → Nat} {x : Nat → Nat → Nat} {i : Nat → Nat} {f : Nat → Nat → Nat} (hR : REL c x i f) : ∀ s, s < c 3 → x 13 s = 3 → lackC (x (1001 + 8 * s)) 3 = 0 := fun s hs h3 => by
  have h2 := (hR.2.2.2.2.2.2.2.1 s (by rw [← hR.1.2.2.2]; exact hs)).2
  have h4 := h2.lack
  rw [h3] at h4
  rw [h4]
  have h5 : f 18 s = 3 := by rw [← h2.2.2.1]; exact h3
  unfold lackS
  rw [if_neg (by omega), if_neg (by omega)]
  rfl
theorem iw_tabOAS_O {k : Nat} (h : (xIO, k) ∈ [(xIO, 1), (xIA, 2), (xIS, 3)]) : k = 1 := by simpa [xIO, xIA, xIS] using h
theorem iw_tabOAS_A {k : Nat} (h : (xIA, k) ∈ [(xIO, 1), (xIA, 2), (xIS, 3)]) : k = 2 := by simpa [xIO, xIA, xIS] using h
theorem iw_tabOAS_S {k : Nat} (h : (xIS, k) ∈ [(xIO, 1), (xIA, 2), (xIS, 3)]) : k = 3 := by simpa [xIO, xIA, xIS] using h
theorem iw_tabS_S {k : Nat} (h : (xIS, k) ∈ [(xIS, 1)]) : k = 1 := by simpa [xIO, xIA, xIS] using h
theorem iw_tabO_O {k : Nat} (h : (xIO, k) ∈ [(xIO, 1)]) : k = 1 := by simpa [xIO, xIA, xIS] using h
theorem iw_tabOA_O {k : Nat} (h : (xIO, k) ∈ [(xIO, 1), (xIA, 2)]) : k = 1 := by simpa [xIO, xIA, xIS] using h
theorem iw_tabOA_A {k : Nat} (h : (xIA, k) ∈ [(xIO, 1), (xIA, 2)]) : k = 2 := by simpa [xIO, xIA, xIS] using h
theorem iw_tabOS_O {k : Nat} (h : (xIO, k) ∈ [(xIO, 1), (xIS, 2)]) : k = 1 := by simpa [xIO, xIA, xIS] using h
theorem iw_tabOS_S {k : Nat} (h : (xIS, k) ∈ [(xIO, 1), (xIS, 2)]) : k = 2 := by simpa [xIO, xIA, xIS] using h
set_option maxRecDepth 100000 in
set_option maxHeartbeats 4000000 in
theorem iw_stroke {p : Program} {l : Launch} {e : Env} {s : State} {m : MethodId} {below : List Frame} {meth : Method} {c : Code} {H : Heap} {locs : List Loc} {Q : State → Prop} {b L a h o n : Nat} {xs : Nat → Int32} {ls : Array Slot} {D : va_G} {cy : Nat → ClassId} {de mi : Nat} (C0 : iwC p l s m c b L xs D cy de mi) (h4 : 4 * n + 4 ≤ L) (hL : L ≤ 2048) (hLS : iwS D cy de s n a h o H) (hS : va_S (iwA s) s.heap H locs) (hl : lv_has ls 7 (iwF b a h o (4 * n)))
    (kk : ∀ (H : Heap) (locs : List Loc) (ls : Array Slot), iwS D cy de s (n + 1) a h o H → va_S (iwA s) s.heap H locs → lv_has ls 7 (iwF b a h o (4 * n)) → W p l e room_1 s m #[Value.ref b] below meth c H locs (32 + 12 * (n + 1)) (2000 + 120 * (n + 1)) Q (F0 m 1341 ls [])) : W p l e room_1 s m #[Value.ref b] below meth c H locs (32 + 12 * n) (2000 + 120 * n) Q (F0 m 128 ls []) := by
  obtain ⟨hx, hb, hml, hown, hts, hXs, hbl, hK, hX, hNN, hst⟩ := id C0
  obtain ⟨Mh, Mm, g, ad, t, i, f, B, P, cn, x, E, ⟨hPh, hMo, hPm, hdj, hDh, hDm⟩, ⟨hH, hSH, hB0⟩, hW, hR, hN, hI⟩ := hLS
  subst hB0
  have hA : ∀ q, s.heap.size ≤ q → iwA s q := fun _ h => h
  have hn : n + 1 ≤ 512 := by omega
  refine lv_aload_n hx hb dL_law_128 rfl (lv_at hl 2 rfl) ?_
  refine iw_rd 1 hx hb hXs hbl hS (by decide) h4 hL hl dL_law_129 dL_law_130 dL_law_132 dL_law_133 dL_law_134 ?_
  refine iw_rd 2 hx hb hXs hbl hS (by decide) h4 hL hl dL_law_135 dL_law_136 dL_law_138 dL_law_139 dL_law_140 ?_
  refine lv_aload_n hx hb dL_law_141 rfl (lv_at hl 4 rfl) ?_
  refine w_call (vx_runSX (As := [.ref (B 0), .int (xs (4 * n + 1)), .int (xs (4 * n + 2)), .ref o]) (rest := []) ⟨hx, hb, hml, hown, hts⟩ (w_stroke l de mi D cy Mh H.size o (B 0) g _ (xs (4 * n + 1)) (xs (4 * n + 2)) _ _ (hH.1 0 _ hSH.1.1) hMo (fun sz => c_X5_stroke l hst de mi D cy Mh sz B P cn x E n (xs (4 * n + 1)) _ (xs (4 * n + 2)) _ hH hSH hN rfl rfl) (fun E9 h9 => h9.elim (fun h9 => Or.inl h9.1) (fun h9 => h9.elim (fun h9 => Or.inr (Or.inl h9.1)) (fun h9 => Or.inr (Or.inr h9.1))))) (vx_cwSW 4 hts gL_law_L_stroke rfl rfl rfl (by decide +kernel) ⟨Nat.le_of_ble_eq_true rfl, Nat.le_of_ble_eq_true rfl⟩) (wPreS hX hNN hDh hS hA hK hPh) rfl rfl hl.1 rfl (lv_room (Nat.le_of_ble_eq_true rfl)) dL_law_142 ⟨by show _ ≤ 694999; omega, by show _ ≤ 7011106; omega⟩) hDh hA hS (fun r M1 H1 locs1 hw9 hP1 hD1 hS1 hz1 hd1 hk1 => ?_)
  have hPm1 := pm_frame hPm hdj.sy hk1
  have hdj1 := dj_after hPm hdj.sy hd1
  refine lv_istore (lv' := (5, .int r) :: iwF b (B 0) h o (4 * n)) hx hb dL_law_145 hl (by decide) rfl (fun ls hl5 => ?_)
  have hl := lv_sub (l' := iwF b (B 0) h o (4 * n)) hl5 [1, 2, 3, 4, 5] rfl
  refine lv_aload_n hx hb dL_law_147 rfl (lv_at hl 3 rfl) ?_
  refine iw_rd 1 hx hb hXs hbl hS1 (by decide) h4 hL hl dL_law_148 dL_law_149 dL_law_151 dL_law_152 dL_law_153 ?_
  refine iw_rd 2 hx hb hXs hbl hS1 (by decide) h4 hL hl dL_law_154 dL_law_155 dL_law_157 dL_law_158 dL_law_159 ?_
  refine m_calli (va_runV (C := RX6) (As := [.int (xs (4 * n + 1)), .int (xs (4 * n + 2))]) (rest := []) ⟨hx, hb, hml, hown, hts⟩ (c_X6_stroke l D cy Mm H1.size h ad t i f n (xs (4 * n + 1)) _ (xs (4 * n + 2)) _ hW hI rfl rfl) (cwV 2 hts gL_law_X6_stroke rfl rfl rfl (by decide +kernel) ⟨Nat.le_of_ble_eq_true rfl, Nat.le_of_ble_eq_true rfl⟩) (mPreWV hK hPm1 hW.1 (ci := 7) rfl) rfl rfl hl.1 rfl (lv_room (Nat.le_of_ble_eq_true rfl)) dL_law_160 ⟨by show _ ≤ 694999; omega, by show _ ≤ 7011106; omega⟩) hDm hA hS1 (fun r6 Mm1 H2 locs2 hq6 hPm2 hDm2 hS2 hz2 hd2 hk2 => ?_)
  have hP2 := pm_frame hP1 hdj1.sy hk2
  have hdj2 := dj_after hP1 hdj1.sy hd2
  obtain ⟨hr6, hW6⟩ := hq6
  have hP9 := P_stroke hR hN hI hn (xs (4 * n + 1)).toInt (xs (4 * n + 2)).toInt
  rcases hw9 with ⟨v, Mh1, g1, hv, hMo1, rfl, hg0, hr⟩ | ⟨E9, k, g1, hpx, hmem, rfl, hr⟩
  · obtain ⟨hcd, hv9, B1, P1, E1, h1, h2, h3⟩ := hv
    obtain ⟨q1, q2, q3, q4, q5⟩ := hP9.1 hcd
    have hv6 : v = r6 := by
      rw [hr6, q2]
      exact hv9.trans (by first | rfl | exact nI_zI _)
    refine iw_tail C0 dL_law_163 dL_law_165 dL_law_166 dL_law_169 dL_law_171 dL_law_176 dL_law_178 dL_law_181 dL_law_182 dL_law_183 dL_law_184 dL_law_186 dL_law_187 dL_law_188 dL_law_193 (by decide) hP2 (mset_self _ _ _) hPm2 hW6 q5 (by omega) (by omega) (Or.inl ⟨hr, q1, by rw [hg0, hv6]⟩) hl5 (fun ls hl => ?_)
    refine W.widen (k := 32 + 12 * (n + 1)) (n := 2000 + 120 * (n + 1)) (by omega) (by omega) ?_
    exact kk _ _ _ ⟨_, Mm1, g1, ad, _, _, _, B1, P1, _, _, E1, ⟨hP2, hMo1, hPm2, hdj2, hD1, hDm2⟩, ⟨h1, h2, h3⟩, hW6, q3, q4, q5⟩ hS2 hl
  · rcases hpx with ⟨rfl, hcd⟩ | ⟨rfl, hcd⟩ | ⟨rfl, hcd⟩
    · obtain rfl := iw_tabOAS_O hmem
      obtain ⟨q1, q2, q3⟩ := hP9.2.1 hcd
      rw [q2, q3] at hW6
      refine iw_tail C0 dL_law_163 dL_law_165 dL_law_166 dL_law_169 dL_law_171 dL_law_176 dL_law_178 dL_law_181 dL_law_182 dL_law_183 dL_law_184 dL_law_186 dL_law_187 dL_law_188 dL_law_193 (by decide) hP2 (mset_self _ _ _) hPm2 hW6 (hI.mono hn) (by omega) (by omega) (Or.inr ⟨1, hr, by decide, by decide, q1⟩) hl5 (fun ls hl => ?_)
      refine W.widen (k := 32 + 12 * (n + 1)) (n := 2000 + 120 * (n + 1)) (by omega) (by omega) ?_
      exact kk _ _ _ ⟨Mh, Mm1, g1, ad, _, i, f, B, P, cn, x, E, ⟨hP2, hMo, hPm2, hdj2, hD1, hDm2⟩, ⟨hH, hSH, rfl⟩, hW6, hR, hN.mono hn, hI.mono hn⟩ hS2 hl
    · obtain rfl := iw_tabOAS_A hmem
      obtain ⟨q1, q2, q3⟩ := hP9.2.2.1 hcd
      rw [q2, q3] at hW6
      refine iw_tail C0 dL_law_163 dL_law_165 dL_law_166 dL_law_169 dL_law_171 dL_law_176 dL_law_178 dL_law_181 dL_law_182 dL_law_183 dL_law_184 dL_law_186 dL_law_187 dL_law_188 dL_law_193 (by decide) hP2 (mset_self _ _ _) hPm2 hW6 (hI.mono hn) (by omega) (by omega) (Or.inr ⟨2, hr, by decide, by decide, q1⟩) hl5 (fun ls hl => ?_)
      refine W.widen (k := 32 + 12 * (n + 1)) (n := 2000 + 120 * (n + 1)) (by omega) (by omega) ?_
      exact kk _ _ _ ⟨Mh, Mm1, g1, ad, _, i, f, B, P, cn, x, E, ⟨hP2, hMo, hPm2, hdj2, hD1, hDm2⟩, ⟨hH, hSH, rfl⟩, hW6, hR, hN.mono hn, hI.mono hn⟩ hS2 hl
    · obtain rfl := iw_tabOAS_S hmem
      obtain ⟨q1, q2, q3⟩ := hP9.2.2.2 hcd
      rw [q2, q3] at hW6
      refine iw_tail C0 dL_law_163 dL_law_165 dL_law_166 dL_law_169 dL_law_171 dL_law_176 dL_law_178 dL_law_181 dL_law_182 dL_law_183 dL_law_184 dL_law_186 dL_law_187 dL_law_188 dL_law_193 (by decide) hP2 (mset_self _ _ _) hPm2 hW6 (hI.mono hn) (by omega) (by omega) (Or.inr ⟨3, hr, by decide, by decide, q1⟩) hl5 (fun ls hl => ?_)
      refine W.widen (k := 32 + 12 * (n + 1)) (n := 2000 + 120 * (n + 1)) (by omega) (by omega) ?_
      exact kk _ _ _ ⟨Mh, Mm1, g1, ad, _, i, f, B, P, cn, x, E, ⟨hP2, hMo, hPm2, hdj2, hD1, hDm2⟩, ⟨hH, hSH, rfl⟩, hW6, hR, hN.mono hn, hI.mono hn⟩ hS2 hl

set_option maxRecDepth 100000 in
set_option maxHeartbeats 4000000 in
theorem iw_lift {p : Program} {l : Launch} {e : Env} {s : State} {m : MethodId} {below : List Frame} {meth : Method} {c : Code} {H : Heap} {locs : List Loc} {Q : State → Prop} {b L a h o n : Nat} {xs : Nat → Int32} {ls : Array Slot} {D : va_G} {cy : Nat → ClassId} {de mi : Nat} (C0 : iwC p l s m c b L xs D cy de mi) (h4 : 4 * n + 4 ≤ L) (hL : L ≤ 2048) (hLS : iwS D cy de s n a h o H) (hS : va_S (iwA s) s.heap H locs) (hl : lv_has ls 7 (iwF b a h o (4 * n)))
    (kk : ∀ (H : Heap) (locs : List Loc) (ls : Array Slot), iwS D cy de s (n + 1) a h o H → va_S (iwA s) s.heap H locs → lv_has ls 7 (iwF b a h o (4 * n)) → W p l e room_1 s m #[Value.ref b] below meth c H locs (32 + 12 * (n + 1)) (2000 + 120 * (n + 1)) Q (F0 m 1341 ls [])) : W p l e room_1 s m #[Value.ref b] below meth c H locs (32 + 12 * n) (2000 + 120 * n) Q (F0 m 196 ls []) := by
  obtain ⟨hx, hb, hml, hown, hts, hXs, hbl, hK, hX, hNN, hst⟩ := id C0
  obtain ⟨Mh, Mm, g, ad, t, i, f, B, P, cn, x, E, ⟨hPh, hMo, hPm, hdj, hDh, hDm⟩, ⟨hH, hSH, hB0⟩, hW, hR, hN, hI⟩ := hLS
  subst hB0
  have hA : ∀ q, s.heap.size ≤ q → iwA s q := fun _ h => h
  have hn : n + 1 ≤ 512 := by omega
  have hPh0 := pm_out hMo hPh
  have hDh0 := mD_out hDh
  refine lv_aload_n hx hb dL_law_196 rfl (lv_at hl 2 rfl) ?_
  refine m_calli (va_runV (C := RX5) (As := []) (rest := []) ⟨hx, hb, hml, hown, hts⟩ (c_X5_lift l D cy Mh H.size de B P cn x E n hH hSH hN) (cwV 0 hts gL_law_X5_lift rfl rfl rfl (by decide +kernel) ⟨Nat.le_of_ble_eq_true rfl, Nat.le_of_ble_eq_true rfl⟩) (mPreWV hK hPh0 (hH.1 0 _ hSH.1.1) (ci := 6) rfl) rfl rfl hl.1 rfl (lv_room (Nat.le_of_ble_eq_true rfl)) dL_law_197 ⟨by show _ ≤ 694999; omega, by show _ ≤ 7011106; omega⟩) hDh0 hA hS (fun r M1 H1 locs1 hq9 hP1 hD1 hS1 hz1 hd1 hk1 => ?_)
  obtain ⟨hMo1, hPo1⟩ := out_keep hPh hMo hP1 hd1 hk1
  have hMmo : Mm o = none := hdj o (by rw [mset_self]; exact fun z => by cases z)
  have hdj0 : dj Mm Mh := fun q hq => by
    have h9 := hdj.sy q hq
    rwa [mset_ne (fun z => by rw [z] at hq; exact hq hMmo)] at h9
  have hPm1 := pm_frame hPm hdj0 hk1
  have hdj1 : dj Mm (mset M1 o (eJ cy 1 g)) := fun q hq => by
    rw [mset_ne (fun z => by rw [z] at hq; exact hq hMmo)]
    exact dj_after hPm hdj0 hd1 q hq
  have hDo1 : mD (iwA s) (mset M1 o (eJ cy 1 g)) := hD1.set (hDh o (by rw [mset_self]; exact fun z => by cases z))
  refine lv_aload_n hx hb dL_law_200 rfl (lv_at hl 3 rfl) ?_
  refine m_calli (va_runV (C := RX6) (As := []) (rest := [.int r]) ⟨hx, hb, hml, hown, hts⟩ (c_X6_lift l D cy Mm H1.size h ad t i f n hW hI) (cwV 0 hts gL_law_X6_lift rfl rfl rfl (by decide +kernel) ⟨Nat.le_of_ble_eq_true rfl, Nat.le_of_ble_eq_true rfl⟩) (mPreWV hK hPm1 hW.1 (ci := 7) rfl) rfl rfl hl.1 rfl (lv_room (Nat.le_of_ble_eq_true rfl)) dL_law_201 ⟨by show _ ≤ 694999; omega, by show _ ≤ 7011106; omega⟩) hDm hA hS1 (fun r6 Mm1 H2 locs2 hq6 hPm2 hDm2 hS2 hz2 hd2 hk2 => ?_)
  have hP2 := pm_frame hPo1 hdj1.sy hk2
  have hdj2 := dj_after hPo1 hdj1.sy hd2
  obtain ⟨hr6, hW6⟩ := hq6
  obtain ⟨hr, B1, P1, E1, h1, h2, h3⟩ := hq9
  obtain ⟨q1, q2, q3, q4, q5⟩ := P_lift hR hN hI hn
  have hc0 : cn 0 ≤ 8 := hN.2.1
  have hr : r = nI (cn 0) := hr
  have hr6 : r6 = nI (cn 0) := by rw [hr6, q2]; exact (nI_zI _).symm
  refine z_icmp_eq (u := (cn 0 : Int)) (v := (cn 0 : Int)) (tgt := 1341) hx hb (by rw [hr]; exact nI_toInt (by omega)) (by rw [hr6]; exact nI_toInt (by omega)) dL_law_204 (by decide) (fun _ => ?_) (fun z => absurd rfl z)
  refine W.widen (k := 32 + 12 * (n + 1)) (n := 2000 + 120 * (n + 1)) (by omega) (by omega) ?_
  exact kk _ _ _ ⟨M1, Mm1, g, ad, _, _, _, B1, P1, _, _, E1, ⟨hP2, hMo1, hPm2, hdj2, hDo1, hDm2⟩, ⟨h1, h2, h3⟩, hW6, q3, q4, q5⟩ hS2 hl

set_option maxRecDepth 100000 in
set_option maxHeartbeats 4000000 in
theorem iw_letter {p : Program} {l : Launch} {e : Env} {s : State} {m : MethodId} {below : List Frame} {meth : Method} {c : Code} {H : Heap} {locs : List Loc} {Q : State → Prop} {b L a h o n : Nat} {xs : Nat → Int32} {ls : Array Slot} {D : va_G} {cy : Nat → ClassId} {de mi : Nat} (C0 : iwC p l s m c b L xs D cy de mi) (h4 : 4 * n + 4 ≤ L) (hL : L ≤ 2048) (hLS : iwS D cy de s n a h o H) (hS : va_S (iwA s) s.heap H locs) (hl : lv_has ls 7 (iwF b a h o (4 * n)))
    (kk : ∀ (H : Heap) (locs : List Loc) (ls : Array Slot), iwS D cy de s (n + 1) a h o H → va_S (iwA s) s.heap H locs → lv_has ls 7 (iwF b a h o (4 * n)) → W p l e room_1 s m #[Value.ref b] below meth c H locs (32 + 12 * (n + 1)) (2000 + 120 * (n + 1)) Q (F0 m 1341 ls [])) : W p l e room_1 s m #[Value.ref b] below meth c H locs (32 + 12 * n) (2000 + 120 * n) Q (F0 m 209 ls []) := by
  obtain ⟨hx, hb, hml, hown, hts, hXs, hbl, hK, hX, hNN, hst⟩ := id C0
  obtain ⟨Mh, Mm, g, ad, t, i, f, B, P, cn, x, E, ⟨hPh, hMo, hPm, hdj, hDh, hDm⟩, ⟨hH, hSH, hB0⟩, hW, hR, hN, hI⟩ := hLS
  subst hB0
  have hA : ∀ q, s.heap.size ≤ q → iwA s q := fun _ h => h
  have hn : n + 1 ≤ 512 := by omega
  refine lv_aload_n hx hb dL_law_209 rfl (lv_at hl 2 rfl) ?_
  refine lv_aload_n hx hb dL_law_210 rfl (lv_at hl 4 rfl) ?_
  refine w_call (vx_runSX (As := [.ref (B 0), .ref o]) (rest := []) ⟨hx, hb, hml, hown, hts⟩ (w_letter l de mi D cy Mh H.size o (B 0) g _  _ _ (hH.1 0 _ hSH.1.1) hMo (fun sz => c_X5_letter l hst de mi D cy Mh sz B P cn x E n  hH hSH hN ) (fun E9 h9 => h9.1)) (vx_cwSW 2 hts gL_law_L_letter rfl rfl rfl (by decide +kernel) ⟨Nat.le_of_ble_eq_true rfl, Nat.le_of_ble_eq_true rfl⟩) (wPreS hX hNN hDh hS hA hK hPh) rfl rfl hl.1 rfl (lv_room (Nat.le_of_ble_eq_true rfl)) dL_law_211 ⟨by show _ ≤ 694999; omega, by show _ ≤ 7011106; omega⟩) hDh hA hS (fun r M1 H1 locs1 hw9 hP1 hD1 hS1 hz1 hd1 hk1 => ?_)
  have hPm1 := pm_frame hPm hdj.sy hk1
  have hdj1 := dj_after hPm hdj.sy hd1
  refine lv_istore (lv' := (5, .int r) :: iwF b (B 0) h o (4 * n)) hx hb dL_law_214 hl (by decide) rfl (fun ls hl5 => ?_)
  have hl := lv_sub (l' := iwF b (B 0) h o (4 * n)) hl5 [1, 2, 3, 4, 5] rfl
  refine lv_aload_n hx hb dL_law_216 rfl (lv_at hl 3 rfl) ?_
  refine m_calli (va_runV (C := RX6) (As := []) (rest := []) ⟨hx, hb, hml, hown, hts⟩ (c_X6_letter l D cy Mm H1.size h ad t i f n  hW hI ) (cwV 0 hts gL_law_X6_letter rfl rfl rfl (by decide +kernel) ⟨Nat.le_of_ble_eq_true rfl, Nat.le_of_ble_eq_true rfl⟩) (mPreWV hK hPm1 hW.1 (ci := 7) rfl) rfl rfl hl.1 rfl (lv_room (Nat.le_of_ble_eq_true rfl)) dL_law_217 ⟨by show _ ≤ 694999; omega, by show _ ≤ 7011106; omega⟩) hDm hA hS1 (fun r6 Mm1 H2 locs2 hq6 hPm2 hDm2 hS2 hz2 hd2 hk2 => ?_)
  have hP2 := pm_frame hP1 hdj1.sy hk2
  have hdj2 := dj_after hP1 hdj1.sy hd2
  obtain ⟨hr6, hW6⟩ := hq6
  have hP9 := P_letter hR hN hI hn 
  rcases hw9 with ⟨v, Mh1, g1, hv, hMo1, rfl, hg0, hr⟩ | ⟨E9, k, g1, hpx, hmem, rfl, hr⟩
  · obtain ⟨hcd, hv9, cap, hc1, hc2, B1, P1, E1, h1, h2, h3⟩ := hv
    obtain ⟨q1, q2, q3, q4, q5⟩ := hP9.1 hcd cap hc1 hc2
    have hv6 : v = r6 := by
      rw [hr6, q2]
      exact hv9.trans (by first | rfl | exact nI_zI _)
    refine iw_tail C0 dL_law_220 dL_law_222 dL_law_223 dL_law_226 dL_law_228 dL_law_233 dL_law_235 dL_law_238 dL_law_239 dL_law_240 dL_law_241 dL_law_243 dL_law_244 dL_law_245 dL_law_250 (by decide) hP2 (mset_self _ _ _) hPm2 hW6 q5 (by omega) (by omega) (Or.inl ⟨hr, q1, by rw [hg0, hv6]⟩) hl5 (fun ls hl => ?_)
    refine W.widen (k := 32 + 12 * (n + 1)) (n := 2000 + 120 * (n + 1)) (by omega) (by omega) ?_
    exact kk _ _ _ ⟨_, Mm1, g1, ad, _, _, _, B1, P1, _, _, E1, ⟨hP2, hMo1, hPm2, hdj2, hD1, hDm2⟩, ⟨h1, h2, h3⟩, hW6, q3, q4, q5⟩ hS2 hl
  · obtain ⟨rfl, hcd⟩ := hpx
    obtain rfl := iw_tabS_S hmem
    obtain ⟨q1, q2, q3⟩ := hP9.2 hcd
    rw [q2, q3] at hW6
    refine iw_tail C0 dL_law_220 dL_law_222 dL_law_223 dL_law_226 dL_law_228 dL_law_233 dL_law_235 dL_law_238 dL_law_239 dL_law_240 dL_law_241 dL_law_243 dL_law_244 dL_law_245 dL_law_250 (by decide) hP2 (mset_self _ _ _) hPm2 hW6 (hI.mono hn) (by omega) (by omega) (Or.inr ⟨1, hr, by decide, by decide, q1⟩) hl5 (fun ls hl => ?_)
    refine W.widen (k := 32 + 12 * (n + 1)) (n := 2000 + 120 * (n + 1)) (by omega) (by omega) ?_
    exact kk _ _ _ ⟨Mh, Mm1, g1, ad, _, i, f, B, P, cn, x, E, ⟨hP2, hMo, hPm2, hdj2, hD1, hDm2⟩, ⟨hH, hSH, rfl⟩, hW6, hR, hN.mono hn, hI.mono hn⟩ hS2 hl

set_option maxRecDepth 100000 in
set_option maxHeartbeats 4000000 in
theorem iw_strokeOf {p : Program} {l : Launch} {e : Env} {s : State} {m : MethodId} {below : List Frame} {meth : Method} {c : Code} {H : Heap} {locs : List Loc} {Q : State → Prop} {b L a h o n : Nat} {xs : Nat → Int32} {ls : Array Slot} {D : va_G} {cy : Nat → ClassId} {de mi : Nat} (C0 : iwC p l s m c b L xs D cy de mi) (h4 : 4 * n + 4 ≤ L) (hL : L ≤ 2048) (hLS : iwS D cy de s n a h o H) (hS : va_S (iwA s) s.heap H locs) (hl : lv_has ls 7 (iwF b a h o (4 * n)))
    (kk : ∀ (H : Heap) (locs : List Loc) (ls : Array Slot), iwS D cy de s (n + 1) a h o H → va_S (iwA s) s.heap H locs → lv_has ls 7 (iwF b a h o (4 * n)) → W p l e room_1 s m #[Value.ref b] below meth c H locs (32 + 12 * (n + 1)) (2000 + 120 * (n + 1)) Q (F0 m 1341 ls [])) : W p l e room_1 s m #[Value.ref b] below meth c H locs (32 + 12 * n) (2000 + 120 * n) Q (F0 m 253 ls []) := by
  obtain ⟨hx, hb, hml, hown, hts, hXs, hbl, hK, hX, hNN, hst⟩ := id C0
  obtain ⟨Mh, Mm, g, ad, t, i, f, B, P, cn, x, E, ⟨hPh, hMo, hPm, hdj, hDh, hDm⟩, ⟨hH, hSH, hB0⟩, hW, hR, hN, hI⟩ := hLS
  subst hB0
  have hA : ∀ q, s.heap.size ≤ q → iwA s q := fun _ h => h
  have hn : n + 1 ≤ 512 := by omega
  refine lv_aload_n hx hb dL_law_253 rfl (lv_at hl 2 rfl) ?_
  refine iw_rd 1 hx hb hXs hbl hS (by decide) h4 hL hl dL_law_254 dL_law_255 dL_law_257 dL_law_258 dL_law_259 ?_
  refine iw_rd 2 hx hb hXs hbl hS (by decide) h4 hL hl dL_law_260 dL_law_261 dL_law_263 dL_law_264 dL_law_265 ?_
  refine lv_aload_n hx hb dL_law_266 rfl (lv_at hl 4 rfl) ?_
  refine w_call (vx_runSX (As := [.ref (B 0), .int (xs (4 * n + 1)), .int (xs (4 * n + 2)), .ref o]) (rest := []) ⟨hx, hb, hml, hown, hts⟩ (w_strokeOf l de mi D cy Mh H.size o (B 0) g _ (xs (4 * n + 1)) (xs (4 * n + 2)) _ _ (hH.1 0 _ hSH.1.1) hMo (fun sz => c_X5_strokeOf l hst de mi D cy Mh sz B P cn x E n (xs (4 * n + 1)) _ (xs (4 * n + 2)) _ hH hSH hN rfl rfl) (fun E9 h9 => h9.1)) (vx_cwSW 4 hts gL_law_L_strokeOf rfl rfl rfl (by decide +kernel) ⟨Nat.le_of_ble_eq_true rfl, Nat.le_of_ble_eq_true rfl⟩) (wPreS hX hNN hDh hS hA hK hPh) rfl rfl hl.1 rfl (lv_room (Nat.le_of_ble_eq_true rfl)) dL_law_267 ⟨by show _ ≤ 694999; omega, by show _ ≤ 7011106; omega⟩) hDh hA hS (fun r M1 H1 locs1 hw9 hP1 hD1 hS1 hz1 hd1 hk1 => ?_)
  have hPm1 := pm_frame hPm hdj.sy hk1
  have hdj1 := dj_after hPm hdj.sy hd1
  refine lv_istore (lv' := (5, .int r) :: iwF b (B 0) h o (4 * n)) hx hb dL_law_270 hl (by decide) rfl (fun ls hl5 => ?_)
  have hl := lv_sub (l' := iwF b (B 0) h o (4 * n)) hl5 [1, 2, 3, 4, 5] rfl
  refine lv_aload_n hx hb dL_law_272 rfl (lv_at hl 3 rfl) ?_
  refine iw_rd 1 hx hb hXs hbl hS1 (by decide) h4 hL hl dL_law_273 dL_law_274 dL_law_276 dL_law_277 dL_law_278 ?_
  refine iw_rd 2 hx hb hXs hbl hS1 (by decide) h4 hL hl dL_law_279 dL_law_280 dL_law_282 dL_law_283 dL_law_284 ?_
  refine m_calli (va_runV (C := RX6) (As := [.int (xs (4 * n + 1)), .int (xs (4 * n + 2))]) (rest := []) ⟨hx, hb, hml, hown, hts⟩ (c_X6_strokeOf l D cy Mm H1.size h ad t i f n (xs (4 * n + 1)) _ (xs (4 * n + 2)) _ hW hI rfl rfl) (cwV 2 hts gL_law_X6_strokeOf rfl rfl rfl (by decide +kernel) ⟨Nat.le_of_ble_eq_true rfl, Nat.le_of_ble_eq_true rfl⟩) (mPreWV hK hPm1 hW.1 (ci := 7) rfl) rfl rfl hl.1 rfl (lv_room (Nat.le_of_ble_eq_true rfl)) dL_law_285 ⟨by show _ ≤ 694999; omega, by show _ ≤ 7011106; omega⟩) hDm hA hS1 (fun r6 Mm1 H2 locs2 hq6 hPm2 hDm2 hS2 hz2 hd2 hk2 => ?_)
  have hP2 := pm_frame hP1 hdj1.sy hk2
  have hdj2 := dj_after hP1 hdj1.sy hd2
  obtain ⟨hr6, hW6⟩ := hq6
  have hP9 := P_strokeOf hR hN hI hn (xs (4 * n + 1)).toInt (xs (4 * n + 2)).toInt
  rcases hw9 with ⟨v, Mh1, g1, hv, hMo1, rfl, hg0, hr⟩ | ⟨E9, k, g1, hpx, hmem, rfl, hr⟩
  · obtain ⟨hcd, hv9, rfl⟩ := hv
    obtain ⟨q1, q2, q3, q4, q5⟩ := hP9.1 hcd
    have hv6 : v = r6 := by
      rw [hr6, q2]
      exact hv9.trans (by first | rfl | exact nI_zI _)
    refine iw_tail C0 dL_law_288 dL_law_290 dL_law_291 dL_law_294 dL_law_296 dL_law_301 dL_law_303 dL_law_306 dL_law_307 dL_law_308 dL_law_309 dL_law_311 dL_law_312 dL_law_313 dL_law_318 (by decide) hP2 (mset_self _ _ _) hPm2 hW6 q5 (by omega) (by omega) (Or.inl ⟨hr, q1, by rw [hg0, hv6]⟩) hl5 (fun ls hl => ?_)
    refine W.widen (k := 32 + 12 * (n + 1)) (n := 2000 + 120 * (n + 1)) (by omega) (by omega) ?_
    exact kk _ _ _ ⟨_, Mm1, g1, ad, _, _, _, B, P, _, _, E, ⟨hP2, hMo1, hPm2, hdj2, hD1, hDm2⟩, ⟨hH, hSH, rfl⟩, hW6, q3, q4, q5⟩ hS2 hl
  · obtain ⟨rfl, hcd⟩ := hpx
    obtain rfl := iw_tabO_O hmem
    obtain ⟨q1, q2, q3⟩ := hP9.2 hcd
    rw [q2, q3] at hW6
    refine iw_tail C0 dL_law_288 dL_law_290 dL_law_291 dL_law_294 dL_law_296 dL_law_301 dL_law_303 dL_law_306 dL_law_307 dL_law_308 dL_law_309 dL_law_311 dL_law_312 dL_law_313 dL_law_318 (by decide) hP2 (mset_self _ _ _) hPm2 hW6 (hI.mono hn) (by omega) (by omega) (Or.inr ⟨1, hr, by decide, by decide, q1⟩) hl5 (fun ls hl => ?_)
    refine W.widen (k := 32 + 12 * (n + 1)) (n := 2000 + 120 * (n + 1)) (by omega) (by omega) ?_
    exact kk _ _ _ ⟨Mh, Mm1, g1, ad, _, i, f, B, P, cn, x, E, ⟨hP2, hMo, hPm2, hdj2, hD1, hDm2⟩, ⟨hH, hSH, rfl⟩, hW6, hR, hN.mono hn, hI.mono hn⟩ hS2 hl

set_option maxRecDepth 100000 in
set_option maxHeartbeats 4000000 in
theorem iw_pupil {p : Program} {l : Launch} {e : Env} {s : State} {m : MethodId} {below : List Frame} {meth : Method} {c : Code} {H : Heap} {locs : List Loc} {Q : State → Prop} {b L a h o n : Nat} {xs : Nat → Int32} {ls : Array Slot} {D : va_G} {cy : Nat → ClassId} {de mi : Nat} (C0 : iwC p l s m c b L xs D cy de mi) (h4 : 4 * n + 4 ≤ L) (hL : L ≤ 2048) (hLS : iwS D cy de s n a h o H) (hS : va_S (iwA s) s.heap H locs) (hl : lv_has ls 7 (iwF b a h o (4 * n)))
    (kk : ∀ (H : Heap) (locs : List Loc) (ls : Array Slot), iwS D cy de s (n + 1) a h o H → va_S (iwA s) s.heap H locs → lv_has ls 7 (iwF b a h o (4 * n)) → W p l e room_1 s m #[Value.ref b] below meth c H locs (32 + 12 * (n + 1)) (2000 + 120 * (n + 1)) Q (F0 m 1341 ls [])) : W p l e room_1 s m #[Value.ref b] below meth c H locs (32 + 12 * n) (2000 + 120 * n) Q (F0 m 321 ls []) := by
  obtain ⟨hx, hb, hml, hown, hts, hXs, hbl, hK, hX, hNN, hst⟩ := id C0
  obtain ⟨Mh, Mm, g, ad, t, i, f, B, P, cn, x, E, ⟨hPh, hMo, hPm, hdj, hDh, hDm⟩, ⟨hH, hSH, hB0⟩, hW, hR, hN, hI⟩ := hLS
  subst hB0
  have hA : ∀ q, s.heap.size ≤ q → iwA s q := fun _ h => h
  have hn : n + 1 ≤ 512 := by omega
  refine lv_aload_n hx hb dL_law_321 rfl (lv_at hl 2 rfl) ?_
  refine iw_rd 1 hx hb hXs hbl hS (by decide) h4 hL hl dL_law_322 dL_law_323 dL_law_325 dL_law_326 dL_law_327 ?_
  refine iw_rd 2 hx hb hXs hbl hS (by decide) h4 hL hl dL_law_328 dL_law_329 dL_law_331 dL_law_332 dL_law_333 ?_
  refine iw_rd 3 hx hb hXs hbl hS (by decide) h4 hL hl dL_law_334 dL_law_335 dL_law_337 dL_law_338 dL_law_339 ?_
  refine iw_nez hx hb dL_law_340 dL_law_343 dL_law_344 dL_law_347 ?_
  refine lv_aload_n hx hb dL_law_348 rfl (lv_at hl 4 rfl) ?_
  refine w_call (vx_runSX (As := [.ref (B 0), .int (xs (4 * n + 1)), .int (xs (4 * n + 2)), .int (nI (b2 (decide (xs (4 * n + 3) ≠ 0)))), .ref o]) (rest := []) ⟨hx, hb, hml, hown, hts⟩ (w_pupil l de mi D cy Mh H.size o (B 0) g _ (xs (4 * n + 1)) (xs (4 * n + 2)) (decide (xs (4 * n + 3) ≠ 0)) _ _ (hH.1 0 _ hSH.1.1) hMo (fun sz => c_X5_pupil l hst de mi D cy Mh sz B P cn x E n (xs (4 * n + 1)) _ (xs (4 * n + 2)) _ (decide (xs (4 * n + 3) ≠ 0)) hH hSH hN rfl rfl) (fun E9 h9 => h9.elim (fun h9 => Or.inl h9.1) (fun h9 => h9.elim (fun h9 => Or.inr (Or.inl h9.1)) (fun h9 => Or.inr (Or.inr h9.1))))) (vx_cwSW 5 hts gL_law_L_pupil rfl rfl rfl (by decide +kernel) ⟨Nat.le_of_ble_eq_true rfl, Nat.le_of_ble_eq_true rfl⟩) (wPreS hX hNN hDh hS hA hK hPh) rfl rfl hl.1 rfl (lv_room (Nat.le_of_ble_eq_true rfl)) dL_law_349 ⟨by show _ ≤ 694999; omega, by show _ ≤ 7011106; omega⟩) hDh hA hS (fun r M1 H1 locs1 hw9 hP1 hD1 hS1 hz1 hd1 hk1 => ?_)
  have hPm1 := pm_frame hPm hdj.sy hk1
  have hdj1 := dj_after hPm hdj.sy hd1
  refine lv_istore (lv' := (5, .int r) :: iwF b (B 0) h o (4 * n)) hx hb dL_law_352 hl (by decide) rfl (fun ls hl5 => ?_)
  have hl := lv_sub (l' := iwF b (B 0) h o (4 * n)) hl5 [1, 2, 3, 4, 5] rfl
  refine lv_aload_n hx hb dL_law_354 rfl (lv_at hl 3 rfl) ?_
  refine iw_rd 1 hx hb hXs hbl hS1 (by decide) h4 hL hl dL_law_355 dL_law_356 dL_law_358 dL_law_359 dL_law_360 ?_
  refine iw_rd 2 hx hb hXs hbl hS1 (by decide) h4 hL hl dL_law_361 dL_law_362 dL_law_364 dL_law_365 dL_law_366 ?_
  refine iw_rd 3 hx hb hXs hbl hS1 (by decide) h4 hL hl dL_law_367 dL_law_368 dL_law_370 dL_law_371 dL_law_372 ?_
  refine iw_nez hx hb dL_law_373 dL_law_376 dL_law_377 dL_law_380 ?_
  refine m_calli (va_runV (C := RX6) (As := [.int (xs (4 * n + 1)), .int (xs (4 * n + 2)), .int (nI (b2 (decide (xs (4 * n + 3) ≠ 0))))]) (rest := []) ⟨hx, hb, hml, hown, hts⟩ (c_X6_pupil l D cy Mm H1.size h ad t i f n (xs (4 * n + 1)) _ (xs (4 * n + 2)) _ (decide (xs (4 * n + 3) ≠ 0)) hW hI rfl rfl) (cwV 3 hts gL_law_X6_pupil rfl rfl rfl (by decide +kernel) ⟨Nat.le_of_ble_eq_true rfl, Nat.le_of_ble_eq_true rfl⟩) (mPreWV hK hPm1 hW.1 (ci := 7) rfl) rfl rfl hl.1 rfl (lv_room (Nat.le_of_ble_eq_true rfl)) dL_law_381 ⟨by show _ ≤ 694999; omega, by show _ ≤ 7011106; omega⟩) hDm hA hS1 (fun r6 Mm1 H2 locs2 hq6 hPm2 hDm2 hS2 hz2 hd2 hk2 => ?_)
  have hP2 := pm_frame hP1 hdj1.sy hk2
  have hdj2 := dj_after hP1 hdj1.sy hd2
  obtain ⟨hr6, hW6⟩ := hq6
  have hP9 := P_pupil hR hN hI hn (xs (4 * n + 1)).toInt (xs (4 * n + 2)).toInt (decide (xs (4 * n + 3) ≠ 0))
  rcases hw9 with ⟨v, Mh1, g1, hv, hMo1, rfl, hg0, hr⟩ | ⟨E9, k, g1, hpx, hmem, rfl, hr⟩
  · obtain ⟨hcd, hv9, cap, hc1, hc2, B1, P1, E1, h1, h2, h3⟩ := hv
    obtain ⟨q1, q2, q3, q4, q5⟩ := hP9.1 hcd cap hc1 hc2
    have hv6 : v = r6 := by
      rw [hr6, q2]
      exact hv9.trans (by first | rfl | exact nI_zI _)
    refine iw_tail C0 dL_law_384 dL_law_386 dL_law_387 dL_law_390 dL_law_392 dL_law_397 dL_law_399 dL_law_402 dL_law_403 dL_law_404 dL_law_405 dL_law_407 dL_law_408 dL_law_409 dL_law_414 (by decide) hP2 (mset_self _ _ _) hPm2 hW6 q5 (by omega) (by omega) (Or.inl ⟨hr, q1, by rw [hg0, hv6]⟩) hl5 (fun ls hl => ?_)
    refine W.widen (k := 32 + 12 * (n + 1)) (n := 2000 + 120 * (n + 1)) (by omega) (by omega) ?_
    exact kk _ _ _ ⟨_, Mm1, g1, ad, _, _, _, B1, P1, _, _, E1, ⟨hP2, hMo1, hPm2, hdj2, hD1, hDm2⟩, ⟨h1, h2, h3⟩, hW6, q3, q4, q5⟩ hS2 hl
  · rcases hpx with ⟨rfl, hcd⟩ | ⟨rfl, hcd⟩ | ⟨rfl, hcd⟩
    · obtain rfl := iw_tabOAS_O hmem
      obtain ⟨q1, q2, q3⟩ := hP9.2.1 hcd
      rw [q2, q3] at hW6
      refine iw_tail C0 dL_law_384 dL_law_386 dL_law_387 dL_law_390 dL_law_392 dL_law_397 dL_law_399 dL_law_402 dL_law_403 dL_law_404 dL_law_405 dL_law_407 dL_law_408 dL_law_409 dL_law_414 (by decide) hP2 (mset_self _ _ _) hPm2 hW6 (hI.mono hn) (by omega) (by omega) (Or.inr ⟨1, hr, by decide, by decide, q1⟩) hl5 (fun ls hl => ?_)
      refine W.widen (k := 32 + 12 * (n + 1)) (n := 2000 + 120 * (n + 1)) (by omega) (by omega) ?_
      exact kk _ _ _ ⟨Mh, Mm1, g1, ad, _, i, f, B, P, cn, x, E, ⟨hP2, hMo, hPm2, hdj2, hD1, hDm2⟩, ⟨hH, hSH, rfl⟩, hW6, hR, hN.mono hn, hI.mono hn⟩ hS2 hl
    · obtain rfl := iw_tabOAS_A hmem
      obtain ⟨q1, q2, q3⟩ := hP9.2.2.1 hcd
      rw [q2, q3] at hW6
      refine iw_tail C0 dL_law_384 dL_law_386 dL_law_387 dL_law_390 dL_law_392 dL_law_397 dL_law_399 dL_law_402 dL_law_403 dL_law_404 dL_law_405 dL_law_407 dL_law_408 dL_law_409 dL_law_414 (by decide) hP2 (mset_self _ _ _) hPm2 hW6 (hI.mono hn) (by omega) (by omega) (Or.inr ⟨2, hr, by decide, by decide, q1⟩) hl5 (fun ls hl => ?_)
      refine W.widen (k := 32 + 12 * (n + 1)) (n := 2000 + 120 * (n + 1)) (by omega) (by omega) ?_
      exact kk _ _ _ ⟨Mh, Mm1, g1, ad, _, i, f, B, P, cn, x, E, ⟨hP2, hMo, hPm2, hdj2, hD1, hDm2⟩, ⟨hH, hSH, rfl⟩, hW6, hR, hN.mono hn, hI.mono hn⟩ hS2 hl
    · obtain rfl := iw_tabOAS_S hmem
      obtain ⟨q1, q2, q3⟩ := hP9.2.2.2 hcd
      rw [q2, q3] at hW6
      refine iw_tail C0 dL_law_384 dL_law_386 dL_law_387 dL_law_390 dL_law_392 dL_law_397 dL_law_399 dL_law_402 dL_law_403 dL_law_404 dL_law_405 dL_law_407 dL_law_408 dL_law_409 dL_law_414 (by decide) hP2 (mset_self _ _ _) hPm2 hW6 (hI.mono hn) (by omega) (by omega) (Or.inr ⟨3, hr, by decide, by decide, q1⟩) hl5 (fun ls hl => ?_)
      refine W.widen (k := 32 + 12 * (n + 1)) (n := 2000 + 120 * (n + 1)) (by omega) (by omega) ?_
      exact kk _ _ _ ⟨Mh, Mm1, g1, ad, _, i, f, B, P, cn, x, E, ⟨hP2, hMo, hPm2, hdj2, hD1, hDm2⟩, ⟨hH, hSH, rfl⟩, hW6, hR, hN.mono hn, hI.mono hn⟩ hS2 hl

set_option maxRecDepth 100000 in
set_option maxHeartbeats 4000000 in
theorem iw_print {p : Program} {l : Launch} {e : Env} {s : State} {m : MethodId} {below : List Frame} {meth : Method} {c : Code} {H : Heap} {locs : List Loc} {Q : State → Prop} {b L a h o n : Nat} {xs : Nat → Int32} {ls : Array Slot} {D : va_G} {cy : Nat → ClassId} {de mi : Nat} (C0 : iwC p l s m c b L xs D cy de mi) (h4 : 4 * n + 4 ≤ L) (hL : L ≤ 2048) (hLS : iwS D cy de s n a h o H) (hS : va_S (iwA s) s.heap H locs) (hl : lv_has ls 7 (iwF b a h o (4 * n)))
    (kk : ∀ (H : Heap) (locs : List Loc) (ls : Array Slot), iwS D cy de s (n + 1) a h o H → va_S (iwA s) s.heap H locs → lv_has ls 7 (iwF b a h o (4 * n)) → W p l e room_1 s m #[Value.ref b] below meth c H locs (32 + 12 * (n + 1)) (2000 + 120 * (n + 1)) Q (F0 m 1341 ls [])) : W p l e room_1 s m #[Value.ref b] below meth c H locs (32 + 12 * n) (2000 + 120 * n) Q (F0 m 417 ls []) := by
  obtain ⟨hx, hb, hml, hown, hts, hXs, hbl, hK, hX, hNN, hst⟩ := id C0
  obtain ⟨Mh, Mm, g, ad, t, i, f, B, P, cn, x, E, ⟨hPh, hMo, hPm, hdj, hDh, hDm⟩, ⟨hH, hSH, hB0⟩, hW, hR, hN, hI⟩ := hLS
  subst hB0
  have hA : ∀ q, s.heap.size ≤ q → iwA s q := fun _ h => h
  have hn : n + 1 ≤ 512 := by omega
  refine lv_aload_n hx hb dL_law_417 rfl (lv_at hl 2 rfl) ?_
  refine iw_rd 1 hx hb hXs hbl hS (by decide) h4 hL hl dL_law_418 dL_law_419 dL_law_421 dL_law_422 dL_law_423 ?_
  refine iw_rd 2 hx hb hXs hbl hS (by decide) h4 hL hl dL_law_424 dL_law_425 dL_law_427 dL_law_428 dL_law_429 ?_
  refine iw_nez hx hb dL_law_430 dL_law_433 dL_law_434 dL_law_437 ?_
  refine iw_rd 3 hx hb hXs hbl hS (by decide) h4 hL hl dL_law_438 dL_law_439 dL_law_441 dL_law_442 dL_law_443 ?_
  refine lv_aload_n hx hb dL_law_444 rfl (lv_at hl 4 rfl) ?_
  refine w_call (vx_runSX (As := [.ref (B 0), .int (xs (4 * n + 1)), .int (nI (b2 (decide (xs (4 * n + 2) ≠ 0)))), .int (xs (4 * n + 3)), .ref o]) (rest := []) ⟨hx, hb, hml, hown, hts⟩ (w_print l de mi D cy Mh H.size o (B 0) g _ (xs (4 * n + 1)) (decide (xs (4 * n + 2) ≠ 0)) (xs (4 * n + 3)) _ _ (hH.1 0 _ hSH.1.1) hMo (fun sz => c_X5_print l hst de mi D cy Mh sz B P cn x E n (xs (4 * n + 1)) _ (decide (xs (4 * n + 2) ≠ 0)) (xs (4 * n + 3)) _ hH hSH hN rfl rfl) (fun E9 h9 => h9.elim (fun h9 => Or.inl h9.1) (fun h9 => Or.inr h9.1))) (vx_cwSW 5 hts gL_law_L_print rfl rfl rfl (by decide +kernel) ⟨Nat.le_of_ble_eq_true rfl, Nat.le_of_ble_eq_true rfl⟩) (wPreS hX hNN hDh hS hA hK hPh) rfl rfl hl.1 rfl (lv_room (Nat.le_of_ble_eq_true rfl)) dL_law_445 ⟨by show _ ≤ 694999; omega, by show _ ≤ 7011106; omega⟩) hDh hA hS (fun r M1 H1 locs1 hw9 hP1 hD1 hS1 hz1 hd1 hk1 => ?_)
  have hPm1 := pm_frame hPm hdj.sy hk1
  have hdj1 := dj_after hPm hdj.sy hd1
  refine lv_istore (lv' := (5, .int r) :: iwF b (B 0) h o (4 * n)) hx hb dL_law_448 hl (by decide) rfl (fun ls hl5 => ?_)
  have hl := lv_sub (l' := iwF b (B 0) h o (4 * n)) hl5 [1, 2, 3, 4, 5] rfl
  refine lv_aload_n hx hb dL_law_450 rfl (lv_at hl 3 rfl) ?_
  refine iw_rd 1 hx hb hXs hbl hS1 (by decide) h4 hL hl dL_law_451 dL_law_452 dL_law_454 dL_law_455 dL_law_456 ?_
  refine iw_rd 2 hx hb hXs hbl hS1 (by decide) h4 hL hl dL_law_457 dL_law_458 dL_law_460 dL_law_461 dL_law_462 ?_
  refine iw_nez hx hb dL_law_463 dL_law_466 dL_law_467 dL_law_470 ?_
  refine iw_rd 3 hx hb hXs hbl hS1 (by decide) h4 hL hl dL_law_471 dL_law_472 dL_law_474 dL_law_475 dL_law_476 ?_
  refine m_calli (va_runV (C := RX6) (As := [.int (xs (4 * n + 1)), .int (nI (b2 (decide (xs (4 * n + 2) ≠ 0)))), .int (xs (4 * n + 3))]) (rest := []) ⟨hx, hb, hml, hown, hts⟩ (c_X6_print l D cy Mm H1.size h ad t i f n (xs (4 * n + 1)) _ (decide (xs (4 * n + 2) ≠ 0)) (xs (4 * n + 3)) _ hW hI rfl rfl) (cwV 3 hts gL_law_X6_print rfl rfl rfl (by decide +kernel) ⟨Nat.le_of_ble_eq_true rfl, Nat.le_of_ble_eq_true rfl⟩) (mPreWV hK hPm1 hW.1 (ci := 7) rfl) rfl rfl hl.1 rfl (lv_room (Nat.le_of_ble_eq_true rfl)) dL_law_477 ⟨by show _ ≤ 694999; omega, by show _ ≤ 7011106; omega⟩) hDm hA hS1 (fun r6 Mm1 H2 locs2 hq6 hPm2 hDm2 hS2 hz2 hd2 hk2 => ?_)
  have hP2 := pm_frame hP1 hdj1.sy hk2
  have hdj2 := dj_after hP1 hdj1.sy hd2
  obtain ⟨hr6, hW6⟩ := hq6
  have hP9 := P_print hR hN hI hn (xs (4 * n + 1)).toInt (decide (xs (4 * n + 2) ≠ 0)) (xs (4 * n + 3)).toInt
  rcases hw9 with ⟨v, Mh1, g1, hv, hMo1, rfl, hg0, hr⟩ | ⟨E9, k, g1, hpx, hmem, rfl, hr⟩
  · obtain ⟨hcd, hv9, B1, P1, E1, h1, h2, h3⟩ := hv
    obtain ⟨q1, q2, q3, q4, q5⟩ := hP9.1 hcd
    have hv6 : v = r6 := by
      rw [hr6, q2]
      exact hv9.trans (by first | rfl | exact nI_zI _)
    refine iw_tail C0 dL_law_480 dL_law_482 dL_law_483 dL_law_486 dL_law_488 dL_law_493 dL_law_495 dL_law_498 dL_law_499 dL_law_500 dL_law_501 dL_law_503 dL_law_504 dL_law_505 dL_law_510 (by decide) hP2 (mset_self _ _ _) hPm2 hW6 q5 (by omega) (by omega) (Or.inl ⟨hr, q1, by rw [hg0, hv6]⟩) hl5 (fun ls hl => ?_)
    refine W.widen (k := 32 + 12 * (n + 1)) (n := 2000 + 120 * (n + 1)) (by omega) (by omega) ?_
    exact kk _ _ _ ⟨_, Mm1, g1, ad, _, _, _, B1, P1, _, _, E1, ⟨hP2, hMo1, hPm2, hdj2, hD1, hDm2⟩, ⟨h1, h2, h3⟩, hW6, q3, q4, q5⟩ hS2 hl
  · rcases hpx with ⟨rfl, hcd⟩ | ⟨rfl, hcd⟩
    · obtain rfl := iw_tabOA_O hmem
      obtain ⟨q1, q2, q3⟩ := hP9.2.1 hcd
      rw [q2, q3] at hW6
      refine iw_tail C0 dL_law_480 dL_law_482 dL_law_483 dL_law_486 dL_law_488 dL_law_493 dL_law_495 dL_law_498 dL_law_499 dL_law_500 dL_law_501 dL_law_503 dL_law_504 dL_law_505 dL_law_510 (by decide) hP2 (mset_self _ _ _) hPm2 hW6 (hI.mono hn) (by omega) (by omega) (Or.inr ⟨1, hr, by decide, by decide, q1⟩) hl5 (fun ls hl => ?_)
      refine W.widen (k := 32 + 12 * (n + 1)) (n := 2000 + 120 * (n + 1)) (by omega) (by omega) ?_
      exact kk _ _ _ ⟨Mh, Mm1, g1, ad, _, i, f, B, P, cn, x, E, ⟨hP2, hMo, hPm2, hdj2, hD1, hDm2⟩, ⟨hH, hSH, rfl⟩, hW6, hR, hN.mono hn, hI.mono hn⟩ hS2 hl
    · obtain rfl := iw_tabOA_A hmem
      obtain ⟨q1, q2, q3⟩ := hP9.2.2 hcd
      rw [q2, q3] at hW6
      refine iw_tail C0 dL_law_480 dL_law_482 dL_law_483 dL_law_486 dL_law_488 dL_law_493 dL_law_495 dL_law_498 dL_law_499 dL_law_500 dL_law_501 dL_law_503 dL_law_504 dL_law_505 dL_law_510 (by decide) hP2 (mset_self _ _ _) hPm2 hW6 (hI.mono hn) (by omega) (by omega) (Or.inr ⟨2, hr, by decide, by decide, q1⟩) hl5 (fun ls hl => ?_)
      refine W.widen (k := 32 + 12 * (n + 1)) (n := 2000 + 120 * (n + 1)) (by omega) (by omega) ?_
      exact kk _ _ _ ⟨Mh, Mm1, g1, ad, _, i, f, B, P, cn, x, E, ⟨hP2, hMo, hPm2, hdj2, hD1, hDm2⟩, ⟨hH, hSH, rfl⟩, hW6, hR, hN.mono hn, hI.mono hn⟩ hS2 hl

set_option maxRecDepth 100000 in
set_option maxHeartbeats 4000000 in
theorem iw_sheets {p : Program} {l : Launch} {e : Env} {s : State} {m : MethodId} {below : List Frame} {meth : Method} {c : Code} {H : Heap} {locs : List Loc} {Q : State → Prop} {b L a h o n : Nat} {xs : Nat → Int32} {ls : Array Slot} {D : va_G} {cy : Nat → ClassId} {de mi : Nat} (C0 : iwC p l s m c b L xs D cy de mi) (h4 : 4 * n + 4 ≤ L) (hL : L ≤ 2048) (hLS : iwS D cy de s n a h o H) (hS : va_S (iwA s) s.heap H locs) (hl : lv_has ls 7 (iwF b a h o (4 * n)))
    (kk : ∀ (H : Heap) (locs : List Loc) (ls : Array Slot), iwS D cy de s (n + 1) a h o H → va_S (iwA s) s.heap H locs → lv_has ls 7 (iwF b a h o (4 * n)) → W p l e room_1 s m #[Value.ref b] below meth c H locs (32 + 12 * (n + 1)) (2000 + 120 * (n + 1)) Q (F0 m 1341 ls [])) : W p l e room_1 s m #[Value.ref b] below meth c H locs (32 + 12 * n) (2000 + 120 * n) Q (F0 m 513 ls []) := by
  obtain ⟨hx, hb, hml, hown, hts, hXs, hbl, hK, hX, hNN, hst⟩ := id C0
  obtain ⟨Mh, Mm, g, ad, t, i, f, B, P, cn, x, E, ⟨hPh, hMo, hPm, hdj, hDh, hDm⟩, ⟨hH, hSH, hB0⟩, hW, hR, hN, hI⟩ := hLS
  subst hB0
  have hA : ∀ q, s.heap.size ≤ q → iwA s q := fun _ h => h
  have hn : n + 1 ≤ 512 := by omega
  refine lv_aload_n hx hb dL_law_513 rfl (lv_at hl 2 rfl) ?_
  refine iw_rd 1 hx hb hXs hbl hS (by decide) h4 hL hl dL_law_514 dL_law_515 dL_law_517 dL_law_518 dL_law_519 ?_
  refine iw_rd 2 hx hb hXs hbl hS (by decide) h4 hL hl dL_law_520 dL_law_521 dL_law_523 dL_law_524 dL_law_525 ?_
  refine iw_nez hx hb dL_law_526 dL_law_529 dL_law_530 dL_law_533 ?_
  refine lv_aload_n hx hb dL_law_534 rfl (lv_at hl 4 rfl) ?_
  refine w_call (vx_runSX (As := [.ref (B 0), .int (xs (4 * n + 1)), .int (nI (b2 (decide (xs (4 * n + 2) ≠ 0)))), .ref o]) (rest := []) ⟨hx, hb, hml, hown, hts⟩ (w_sheets l de mi D cy Mh H.size o (B 0) g _ (xs (4 * n + 1)) (decide (xs (4 * n + 2) ≠ 0)) _ _ (hH.1 0 _ hSH.1.1) hMo (fun sz => c_X5_sheets l hst de mi D cy Mh sz B P cn x E n (xs (4 * n + 1)) _ (decide (xs (4 * n + 2) ≠ 0)) hH hSH hN rfl) (fun E9 h9 => h9.1)) (vx_cwSW 4 hts gL_law_L_sheets rfl rfl rfl (by decide +kernel) ⟨Nat.le_of_ble_eq_true rfl, Nat.le_of_ble_eq_true rfl⟩) (wPreS hX hNN hDh hS hA hK hPh) rfl rfl hl.1 rfl (lv_room (Nat.le_of_ble_eq_true rfl)) dL_law_535 ⟨by show _ ≤ 694999; omega, by show _ ≤ 7011106; omega⟩) hDh hA hS (fun r M1 H1 locs1 hw9 hP1 hD1 hS1 hz1 hd1 hk1 => ?_)
  have hPm1 := pm_frame hPm hdj.sy hk1
  have hdj1 := dj_after hPm hdj.sy hd1
  refine lv_istore (lv' := (5, .int r) :: iwF b (B 0) h o (4 * n)) hx hb dL_law_538 hl (by decide) rfl (fun ls hl5 => ?_)
  have hl := lv_sub (l' := iwF b (B 0) h o (4 * n)) hl5 [1, 2, 3, 4, 5] rfl
  refine lv_aload_n hx hb dL_law_540 rfl (lv_at hl 3 rfl) ?_
  refine iw_rd 1 hx hb hXs hbl hS1 (by decide) h4 hL hl dL_law_541 dL_law_542 dL_law_544 dL_law_545 dL_law_546 ?_
  refine iw_rd 2 hx hb hXs hbl hS1 (by decide) h4 hL hl dL_law_547 dL_law_548 dL_law_550 dL_law_551 dL_law_552 ?_
  refine iw_nez hx hb dL_law_553 dL_law_556 dL_law_557 dL_law_560 ?_
  refine m_calli (va_runV (C := RX6) (As := [.int (xs (4 * n + 1)), .int (nI (b2 (decide (xs (4 * n + 2) ≠ 0))))]) (rest := []) ⟨hx, hb, hml, hown, hts⟩ (c_X6_sheets l D cy Mm H1.size h ad t i f n (xs (4 * n + 1)) _ (decide (xs (4 * n + 2) ≠ 0)) hW hI rfl) (cwV 2 hts gL_law_X6_sheets rfl rfl rfl (by decide +kernel) ⟨Nat.le_of_ble_eq_true rfl, Nat.le_of_ble_eq_true rfl⟩) (mPreWV hK hPm1 hW.1 (ci := 7) rfl) rfl rfl hl.1 rfl (lv_room (Nat.le_of_ble_eq_true rfl)) dL_law_561 ⟨by show _ ≤ 694999; omega, by show _ ≤ 7011106; omega⟩) hDm hA hS1 (fun r6 Mm1 H2 locs2 hq6 hPm2 hDm2 hS2 hz2 hd2 hk2 => ?_)
  have hP2 := pm_frame hP1 hdj1.sy hk2
  have hdj2 := dj_after hP1 hdj1.sy hd2
  obtain ⟨hr6, hW6⟩ := hq6
  have hP9 := P_sheets hR hN hI hn (xs (4 * n + 1)).toInt (decide (xs (4 * n + 2) ≠ 0))
  rcases hw9 with ⟨v, Mh1, g1, hv, hMo1, rfl, hg0, hr⟩ | ⟨E9, k, g1, hpx, hmem, rfl, hr⟩
  · obtain ⟨hcd, hv9, rfl⟩ := hv
    obtain ⟨q1, q2, q3, q4, q5⟩ := hP9.1 hcd
    have hv6 : v = r6 := by
      rw [hr6, q2]
      exact hv9.trans (by first | rfl | exact nI_zI _)
    refine iw_tail C0 dL_law_564 dL_law_566 dL_law_567 dL_law_570 dL_law_572 dL_law_577 dL_law_579 dL_law_582 dL_law_583 dL_law_584 dL_law_585 dL_law_587 dL_law_588 dL_law_589 dL_law_594 (by decide) hP2 (mset_self _ _ _) hPm2 hW6 q5 (by omega) (by omega) (Or.inl ⟨hr, q1, by rw [hg0, hv6]⟩) hl5 (fun ls hl => ?_)
    refine W.widen (k := 32 + 12 * (n + 1)) (n := 2000 + 120 * (n + 1)) (by omega) (by omega) ?_
    exact kk _ _ _ ⟨_, Mm1, g1, ad, _, _, _, B, P, _, _, E, ⟨hP2, hMo1, hPm2, hdj2, hD1, hDm2⟩, ⟨hH, hSH, rfl⟩, hW6, q3, q4, q5⟩ hS2 hl
  · obtain ⟨rfl, hcd⟩ := hpx
    obtain rfl := iw_tabO_O hmem
    obtain ⟨q1, q2, q3⟩ := hP9.2 hcd
    rw [q2, q3] at hW6
    refine iw_tail C0 dL_law_564 dL_law_566 dL_law_567 dL_law_570 dL_law_572 dL_law_577 dL_law_579 dL_law_582 dL_law_583 dL_law_584 dL_law_585 dL_law_587 dL_law_588 dL_law_589 dL_law_594 (by decide) hP2 (mset_self _ _ _) hPm2 hW6 (hI.mono hn) (by omega) (by omega) (Or.inr ⟨1, hr, by decide, by decide, q1⟩) hl5 (fun ls hl => ?_)
    refine W.widen (k := 32 + 12 * (n + 1)) (n := 2000 + 120 * (n + 1)) (by omega) (by omega) ?_
    exact kk _ _ _ ⟨Mh, Mm1, g1, ad, _, i, f, B, P, cn, x, E, ⟨hP2, hMo, hPm2, hdj2, hD1, hDm2⟩, ⟨hH, hSH, rfl⟩, hW6, hR, hN.mono hn, hI.mono hn⟩ hS2 hl

set_option maxRecDepth 100000 in
set_option maxHeartbeats 4000000 in
theorem iw_write {p : Program} {l : Launch} {e : Env} {s : State} {m : MethodId} {below : List Frame} {meth : Method} {c : Code} {H : Heap} {locs : List Loc} {Q : State → Prop} {b L a h o n : Nat} {xs : Nat → Int32} {ls : Array Slot} {D : va_G} {cy : Nat → ClassId} {de mi : Nat} (C0 : iwC p l s m c b L xs D cy de mi) (h4 : 4 * n + 4 ≤ L) (hL : L ≤ 2048) (hLS : iwS D cy de s n a h o H) (hS : va_S (iwA s) s.heap H locs) (hl : lv_has ls 7 (iwF b a h o (4 * n)))
    (kk : ∀ (H : Heap) (locs : List Loc) (ls : Array Slot), iwS D cy de s (n + 1) a h o H → va_S (iwA s) s.heap H locs → lv_has ls 7 (iwF b a h o (4 * n)) → W p l e room_1 s m #[Value.ref b] below meth c H locs (32 + 12 * (n + 1)) (2000 + 120 * (n + 1)) Q (F0 m 1341 ls [])) : W p l e room_1 s m #[Value.ref b] below meth c H locs (32 + 12 * n) (2000 + 120 * n) Q (F0 m 597 ls []) := by
  obtain ⟨hx, hb, hml, hown, hts, hXs, hbl, hK, hX, hNN, hst⟩ := id C0
  obtain ⟨Mh, Mm, g, ad, t, i, f, B, P, cn, x, E, ⟨hPh, hMo, hPm, hdj, hDh, hDm⟩, ⟨hH, hSH, hB0⟩, hW, hR, hN, hI⟩ := hLS
  subst hB0
  have hA : ∀ q, s.heap.size ≤ q → iwA s q := fun _ h => h
  have hn : n + 1 ≤ 512 := by omega
  refine lv_aload_n hx hb dL_law_597 rfl (lv_at hl 2 rfl) ?_
  refine iw_rd 1 hx hb hXs hbl hS (by decide) h4 hL hl dL_law_598 dL_law_599 dL_law_601 dL_law_602 dL_law_603 ?_
  refine iw_rd 2 hx hb hXs hbl hS (by decide) h4 hL hl dL_law_604 dL_law_605 dL_law_607 dL_law_608 dL_law_609 ?_
  refine lv_aload_n hx hb dL_law_610 rfl (lv_at hl 4 rfl) ?_
  refine w_call (vx_runSX (As := [.ref (B 0), .int (xs (4 * n + 1)), .int (xs (4 * n + 2)), .ref o]) (rest := []) ⟨hx, hb, hml, hown, hts⟩ (w_write l de mi D cy Mh H.size o (B 0) g _ (xs (4 * n + 1)) (xs (4 * n + 2)) _ _ (hH.1 0 _ hSH.1.1) hMo (fun sz => c_X5_write l hst de mi D cy Mh sz B P cn x E n (xs (4 * n + 1)) _ (xs (4 * n + 2)) _ hH hSH hN rfl rfl (fun hl9 => P_rk hR hN hI hl9)) (fun E9 h9 => h9.elim (fun h9 => Or.inl h9.1) (fun h9 => Or.inr h9.1))) (vx_cwSW 4 hts gL_law_L_write rfl rfl rfl (by decide +kernel) ⟨Nat.le_of_ble_eq_true rfl, Nat.le_of_ble_eq_true rfl⟩) (wPreS hX hNN hDh hS hA hK hPh) rfl rfl hl.1 rfl (lv_room (Nat.le_of_ble_eq_true rfl)) dL_law_611 ⟨by show _ ≤ 694999; omega, by show _ ≤ 7011106; omega⟩) hDh hA hS (fun r M1 H1 locs1 hw9 hP1 hD1 hS1 hz1 hd1 hk1 => ?_)
  have hPm1 := pm_frame hPm hdj.sy hk1
  have hdj1 := dj_after hPm hdj.sy hd1
  refine lv_istore (lv' := (5, .int r) :: iwF b (B 0) h o (4 * n)) hx hb dL_law_614 hl (by decide) rfl (fun ls hl5 => ?_)
  have hl := lv_sub (l' := iwF b (B 0) h o (4 * n)) hl5 [1, 2, 3, 4, 5] rfl
  refine lv_aload_n hx hb dL_law_616 rfl (lv_at hl 3 rfl) ?_
  refine iw_rd 1 hx hb hXs hbl hS1 (by decide) h4 hL hl dL_law_617 dL_law_618 dL_law_620 dL_law_621 dL_law_622 ?_
  refine iw_rd 2 hx hb hXs hbl hS1 (by decide) h4 hL hl dL_law_623 dL_law_624 dL_law_626 dL_law_627 dL_law_628 ?_
  refine m_calli (va_runV (C := RX6) (As := [.int (xs (4 * n + 1)), .int (xs (4 * n + 2))]) (rest := []) ⟨hx, hb, hml, hown, hts⟩ (c_X6_write l D cy Mm H1.size h ad t i f n (xs (4 * n + 1)) _ (xs (4 * n + 2)) _ hW hI rfl rfl) (cwV 2 hts gL_law_X6_write rfl rfl rfl (by decide +kernel) ⟨Nat.le_of_ble_eq_true rfl, Nat.le_of_ble_eq_true rfl⟩) (mPreWV hK hPm1 hW.1 (ci := 7) rfl) rfl rfl hl.1 rfl (lv_room (Nat.le_of_ble_eq_true rfl)) dL_law_629 ⟨by show _ ≤ 694999; omega, by show _ ≤ 7011106; omega⟩) hDm hA hS1 (fun r6 Mm1 H2 locs2 hq6 hPm2 hDm2 hS2 hz2 hd2 hk2 => ?_)
  have hP2 := pm_frame hP1 hdj1.sy hk2
  have hdj2 := dj_after hP1 hdj1.sy hd2
  obtain ⟨hr6, hW6⟩ := hq6
  have hP9 := P_write hR hN hI hn (xs (4 * n + 1)).toInt (xs (4 * n + 2)).toInt
  rcases hw9 with ⟨v, Mh1, g1, hv, hMo1, rfl, hg0, hr⟩ | ⟨E9, k, g1, hpx, hmem, rfl, hr⟩
  · obtain ⟨hcd, bd, hbd, hv9, cap, hc1, hc2, B1, P1, E1, h1, h2, h3⟩ := hv
    obtain ⟨q1, q2, q3, q4, q5⟩ := hP9.1 hcd bd hbd cap hc1 hc2
    have hv6 : v = r6 := by
      rw [hr6, q2]
      exact hv9.trans (by first | rfl | exact nI_zI _)
    refine iw_tail C0 dL_law_632 dL_law_634 dL_law_635 dL_law_638 dL_law_640 dL_law_645 dL_law_647 dL_law_650 dL_law_651 dL_law_652 dL_law_653 dL_law_655 dL_law_656 dL_law_657 dL_law_662 (by decide) hP2 (mset_self _ _ _) hPm2 hW6 q5 (by omega) (by omega) (Or.inl ⟨hr, q1, by rw [hg0, hv6]⟩) hl5 (fun ls hl => ?_)
    refine W.widen (k := 32 + 12 * (n + 1)) (n := 2000 + 120 * (n + 1)) (by omega) (by omega) ?_
    exact kk _ _ _ ⟨_, Mm1, g1, ad, _, _, _, B1, P1, _, _, E1, ⟨hP2, hMo1, hPm2, hdj2, hD1, hDm2⟩, ⟨h1, h2, h3⟩, hW6, q3, q4, q5⟩ hS2 hl
  · rcases hpx with ⟨rfl, hcd⟩ | ⟨rfl, hcd⟩
    · obtain rfl := iw_tabOS_O hmem
      obtain ⟨q1, q2, q3⟩ := hP9.2.1 hcd
      rw [q2, q3] at hW6
      refine iw_tail C0 dL_law_632 dL_law_634 dL_law_635 dL_law_638 dL_law_640 dL_law_645 dL_law_647 dL_law_650 dL_law_651 dL_law_652 dL_law_653 dL_law_655 dL_law_656 dL_law_657 dL_law_662 (by decide) hP2 (mset_self _ _ _) hPm2 hW6 (hI.mono hn) (by omega) (by omega) (Or.inr ⟨1, hr, by decide, by decide, q1⟩) hl5 (fun ls hl => ?_)
      refine W.widen (k := 32 + 12 * (n + 1)) (n := 2000 + 120 * (n + 1)) (by omega) (by omega) ?_
      exact kk _ _ _ ⟨Mh, Mm1, g1, ad, _, i, f, B, P, cn, x, E, ⟨hP2, hMo, hPm2, hdj2, hD1, hDm2⟩, ⟨hH, hSH, rfl⟩, hW6, hR, hN.mono hn, hI.mono hn⟩ hS2 hl
    · obtain rfl := iw_tabOS_S hmem
      obtain ⟨q1, q2, q3⟩ := hP9.2.2 hcd
      rw [q2, q3] at hW6
      refine iw_tail C0 dL_law_632 dL_law_634 dL_law_635 dL_law_638 dL_law_640 dL_law_645 dL_law_647 dL_law_650 dL_law_651 dL_law_652 dL_law_653 dL_law_655 dL_law_656 dL_law_657 dL_law_662 (by decide) hP2 (mset_self _ _ _) hPm2 hW6 (hI.mono hn) (by omega) (by omega) (Or.inr ⟨2, hr, by decide, by decide, q1⟩) hl5 (fun ls hl => ?_)
      refine W.widen (k := 32 + 12 * (n + 1)) (n := 2000 + 120 * (n + 1)) (by omega) (by omega) ?_
      exact kk _ _ _ ⟨Mh, Mm1, g1, ad, _, i, f, B, P, cn, x, E, ⟨hP2, hMo, hPm2, hdj2, hD1, hDm2⟩, ⟨hH, hSH, rfl⟩, hW6, hR, hN.mono hn, hI.mono hn⟩ hS2 hl

set_option maxRecDepth 100000 in
set_option maxHeartbeats 4000000 in
theorem iw_slips {p : Program} {l : Launch} {e : Env} {s : State} {m : MethodId} {below : List Frame} {meth : Method} {c : Code} {H : Heap} {locs : List Loc} {Q : State → Prop} {b L a h o n : Nat} {xs : Nat → Int32} {ls : Array Slot} {D : va_G} {cy : Nat → ClassId} {de mi : Nat} (C0 : iwC p l s m c b L xs D cy de mi) (h4 : 4 * n + 4 ≤ L) (hL : L ≤ 2048) (hLS : iwS D cy de s n a h o H) (hS : va_S (iwA s) s.heap H locs) (hl : lv_has ls 7 (iwF b a h o (4 * n)))
    (kk : ∀ (H : Heap) (locs : List Loc) (ls : Array Slot), iwS D cy de s (n + 1) a h o H → va_S (iwA s) s.heap H locs → lv_has ls 7 (iwF b a h o (4 * n)) → W p l e room_1 s m #[Value.ref b] below meth c H locs (32 + 12 * (n + 1)) (2000 + 120 * (n + 1)) Q (F0 m 1341 ls [])) : W p l e room_1 s m #[Value.ref b] below meth c H locs (32 + 12 * n) (2000 + 120 * n) Q (F0 m 665 ls []) := by
  obtain ⟨hx, hb, hml, hown, hts, hXs, hbl, hK, hX, hNN, hst⟩ := id C0
  obtain ⟨Mh, Mm, g, ad, t, i, f, B, P, cn, x, E, ⟨hPh, hMo, hPm, hdj, hDh, hDm⟩, ⟨hH, hSH, hB0⟩, hW, hR, hN, hI⟩ := hLS
  subst hB0
  have hA : ∀ q, s.heap.size ≤ q → iwA s q := fun _ h => h
  have hn : n + 1 ≤ 512 := by omega
  refine lv_aload_n hx hb dL_law_665 rfl (lv_at hl 2 rfl) ?_
  refine iw_rd 1 hx hb hXs hbl hS (by decide) h4 hL hl dL_law_666 dL_law_667 dL_law_669 dL_law_670 dL_law_671 ?_
  refine iw_rd 2 hx hb hXs hbl hS (by decide) h4 hL hl dL_law_672 dL_law_673 dL_law_675 dL_law_676 dL_law_677 ?_
  refine lv_aload_n hx hb dL_law_678 rfl (lv_at hl 4 rfl) ?_
  refine w_call (vx_runSX (As := [.ref (B 0), .int (xs (4 * n + 1)), .int (xs (4 * n + 2)), .ref o]) (rest := []) ⟨hx, hb, hml, hown, hts⟩ (w_slips l de mi D cy Mh H.size o (B 0) g _ (xs (4 * n + 1)) (xs (4 * n + 2)) _ _ (hH.1 0 _ hSH.1.1) hMo (fun sz => c_X5_slips l hst de mi D cy Mh sz B P cn x E n (xs (4 * n + 1)) _ (xs (4 * n + 2)) _ hH hSH hN rfl rfl) (fun E9 h9 => h9.elim (fun h9 => Or.inl h9.1) (fun h9 => Or.inr h9.1))) (vx_cwSW 4 hts gL_law_L_slips rfl rfl rfl (by decide +kernel) ⟨Nat.le_of_ble_eq_true rfl, Nat.le_of_ble_eq_true rfl⟩) (wPreS hX hNN hDh hS hA hK hPh) rfl rfl hl.1 rfl (lv_room (Nat.le_of_ble_eq_true rfl)) dL_law_679 ⟨by show _ ≤ 694999; omega, by show _ ≤ 7011106; omega⟩) hDh hA hS (fun r M1 H1 locs1 hw9 hP1 hD1 hS1 hz1 hd1 hk1 => ?_)
  have hPm1 := pm_frame hPm hdj.sy hk1
  have hdj1 := dj_after hPm hdj.sy hd1
  refine lv_istore (lv' := (5, .int r) :: iwF b (B 0) h o (4 * n)) hx hb dL_law_682 hl (by decide) rfl (fun ls hl5 => ?_)
  have hl := lv_sub (l' := iwF b (B 0) h o (4 * n)) hl5 [1, 2, 3, 4, 5] rfl
  refine lv_aload_n hx hb dL_law_684 rfl (lv_at hl 3 rfl) ?_
  refine iw_rd 1 hx hb hXs hbl hS1 (by decide) h4 hL hl dL_law_685 dL_law_686 dL_law_688 dL_law_689 dL_law_690 ?_
  refine iw_rd 2 hx hb hXs hbl hS1 (by decide) h4 hL hl dL_law_691 dL_law_692 dL_law_694 dL_law_695 dL_law_696 ?_
  refine m_calli (va_runV (C := RX6) (As := [.int (xs (4 * n + 1)), .int (xs (4 * n + 2))]) (rest := []) ⟨hx, hb, hml, hown, hts⟩ (c_X6_slips l D cy Mm H1.size h ad t i f n (xs (4 * n + 1)) _ (xs (4 * n + 2)) _ hW hI rfl rfl) (cwV 2 hts gL_law_X6_slips rfl rfl rfl (by decide +kernel) ⟨Nat.le_of_ble_eq_true rfl, Nat.le_of_ble_eq_true rfl⟩) (mPreWV hK hPm1 hW.1 (ci := 7) rfl) rfl rfl hl.1 rfl (lv_room (Nat.le_of_ble_eq_true rfl)) dL_law_697 ⟨by show _ ≤ 694999; omega, by show _ ≤ 7011106; omega⟩) hDm hA hS1 (fun r6 Mm1 H2 locs2 hq6 hPm2 hDm2 hS2 hz2 hd2 hk2 => ?_)
  have hP2 := pm_frame hP1 hdj1.sy hk2
  have hdj2 := dj_after hP1 hdj1.sy hd2
  obtain ⟨hr6, hW6⟩ := hq6
  have hP9 := P_slips hR hN hI hn (xs (4 * n + 1)).toInt (xs (4 * n + 2)).toInt
  rcases hw9 with ⟨v, Mh1, g1, hv, hMo1, rfl, hg0, hr⟩ | ⟨E9, k, g1, hpx, hmem, rfl, hr⟩
  · obtain ⟨hcd, hv9, rfl⟩ := hv
    obtain ⟨q1, q2, q3, q4, q5⟩ := hP9.1 hcd
    have hv6 : v = r6 := by
      rw [hr6, q2]
      exact hv9.trans (by first | rfl | exact nI_zI _)
    refine iw_tail C0 dL_law_700 dL_law_702 dL_law_703 dL_law_706 dL_law_708 dL_law_713 dL_law_715 dL_law_718 dL_law_719 dL_law_720 dL_law_721 dL_law_723 dL_law_724 dL_law_725 dL_law_730 (by decide) hP2 (mset_self _ _ _) hPm2 hW6 q5 (by omega) (by omega) (Or.inl ⟨hr, q1, by rw [hg0, hv6]⟩) hl5 (fun ls hl => ?_)
    refine W.widen (k := 32 + 12 * (n + 1)) (n := 2000 + 120 * (n + 1)) (by omega) (by omega) ?_
    exact kk _ _ _ ⟨_, Mm1, g1, ad, _, _, _, B, P, _, _, E, ⟨hP2, hMo1, hPm2, hdj2, hD1, hDm2⟩, ⟨hH, hSH, rfl⟩, hW6, q3, q4, q5⟩ hS2 hl
  · rcases hpx with ⟨rfl, hcd⟩ | ⟨rfl, hcd⟩
    · obtain rfl := iw_tabOA_O hmem
      obtain ⟨q1, q2, q3⟩ := hP9.2.1 hcd
      rw [q2, q3] at hW6
      refine iw_tail C0 dL_law_700 dL_law_702 dL_law_703 dL_law_706 dL_law_708 dL_law_713 dL_law_715 dL_law_718 dL_law_719 dL_law_720 dL_law_721 dL_law_723 dL_law_724 dL_law_725 dL_law_730 (by decide) hP2 (mset_self _ _ _) hPm2 hW6 (hI.mono hn) (by omega) (by omega) (Or.inr ⟨1, hr, by decide, by decide, q1⟩) hl5 (fun ls hl => ?_)
      refine W.widen (k := 32 + 12 * (n + 1)) (n := 2000 + 120 * (n + 1)) (by omega) (by omega) ?_
      exact kk _ _ _ ⟨Mh, Mm1, g1, ad, _, i, f, B, P, cn, x, E, ⟨hP2, hMo, hPm2, hdj2, hD1, hDm2⟩, ⟨hH, hSH, rfl⟩, hW6, hR, hN.mono hn, hI.mono hn⟩ hS2 hl
    · obtain rfl := iw_tabOA_A hmem
      obtain ⟨q1, q2, q3⟩ := hP9.2.2 hcd
      rw [q2, q3] at hW6
      refine iw_tail C0 dL_law_700 dL_law_702 dL_law_703 dL_law_706 dL_law_708 dL_law_713 dL_law_715 dL_law_718 dL_law_719 dL_law_720 dL_law_721 dL_law_723 dL_law_724 dL_law_725 dL_law_730 (by decide) hP2 (mset_self _ _ _) hPm2 hW6 (hI.mono hn) (by omega) (by omega) (Or.inr ⟨2, hr, by decide, by decide, q1⟩) hl5 (fun ls hl => ?_)
      refine W.widen (k := 32 + 12 * (n + 1)) (n := 2000 + 120 * (n + 1)) (by omega) (by omega) ?_
      exact kk _ _ _ ⟨Mh, Mm1, g1, ad, _, i, f, B, P, cn, x, E, ⟨hP2, hMo, hPm2, hdj2, hD1, hDm2⟩, ⟨hH, hSH, rfl⟩, hW6, hR, hN.mono hn, hI.mono hn⟩ hS2 hl

set_option maxRecDepth 100000 in
set_option maxHeartbeats 4000000 in
theorem iw_orderAnew {p : Program} {l : Launch} {e : Env} {s : State} {m : MethodId} {below : List Frame} {meth : Method} {c : Code} {H : Heap} {locs : List Loc} {Q : State → Prop} {b L a h o n : Nat} {xs : Nat → Int32} {ls : Array Slot} {D : va_G} {cy : Nat → ClassId} {de mi : Nat} (C0 : iwC p l s m c b L xs D cy de mi) (h4 : 4 * n + 4 ≤ L) (hL : L ≤ 2048) (hLS : iwS D cy de s n a h o H) (hS : va_S (iwA s) s.heap H locs) (hl : lv_has ls 7 (iwF b a h o (4 * n)))
    (kk : ∀ (H : Heap) (locs : List Loc) (ls : Array Slot), iwS D cy de s (n + 1) a h o H → va_S (iwA s) s.heap H locs → lv_has ls 7 (iwF b a h o (4 * n)) → W p l e room_1 s m #[Value.ref b] below meth c H locs (32 + 12 * (n + 1)) (2000 + 120 * (n + 1)) Q (F0 m 1341 ls [])) : W p l e room_1 s m #[Value.ref b] below meth c H locs (32 + 12 * n) (2000 + 120 * n) Q (F0 m 733 ls []) := by
  obtain ⟨hx, hb, hml, hown, hts, hXs, hbl, hK, hX, hNN, hst⟩ := id C0
  obtain ⟨Mh, Mm, g, ad, t, i, f, B, P, cn, x, E, ⟨hPh, hMo, hPm, hdj, hDh, hDm⟩, ⟨hH, hSH, hB0⟩, hW, hR, hN, hI⟩ := hLS
  subst hB0
  have hA : ∀ q, s.heap.size ≤ q → iwA s q := fun _ h => h
  have hn : n + 1 ≤ 512 := by omega
  refine lv_aload_n hx hb dL_law_733 rfl (lv_at hl 2 rfl) ?_
  refine iw_rd 1 hx hb hXs hbl hS (by decide) h4 hL hl dL_law_734 dL_law_735 dL_law_737 dL_law_738 dL_law_739 ?_
  refine lv_aload_n hx hb dL_law_740 rfl (lv_at hl 4 rfl) ?_
  refine w_call (vx_runSX (As := [.ref (B 0), .int (xs (4 * n + 1)), .ref o]) (rest := []) ⟨hx, hb, hml, hown, hts⟩ (w_orderAnew l de mi D cy Mh H.size o (B 0) g _ (xs (4 * n + 1)) _ _ (hH.1 0 _ hSH.1.1) hMo (fun sz => c_X5_orderAnew l hst de mi D cy Mh sz B P cn x E n (xs (4 * n + 1)) _ hH hSH hN rfl) (fun E9 h9 => h9.1)) (vx_cwSW 3 hts gL_law_L_orderAnew rfl rfl rfl (by decide +kernel) ⟨Nat.le_of_ble_eq_true rfl, Nat.le_of_ble_eq_true rfl⟩) (wPreS hX hNN hDh hS hA hK hPh) rfl rfl hl.1 rfl (lv_room (Nat.le_of_ble_eq_true rfl)) dL_law_741 ⟨by show _ ≤ 694999; omega, by show _ ≤ 7011106; omega⟩) hDh hA hS (fun r M1 H1 locs1 hw9 hP1 hD1 hS1 hz1 hd1 hk1 => ?_)
  have hPm1 := pm_frame hPm hdj.sy hk1
  have hdj1 := dj_after hPm hdj.sy hd1
  refine lv_istore (lv' := (5, .int r) :: iwF b (B 0) h o (4 * n)) hx hb dL_law_744 hl (by decide) rfl (fun ls hl5 => ?_)
  have hl := lv_sub (l' := iwF b (B 0) h o (4 * n)) hl5 [1, 2, 3, 4, 5] rfl
  refine lv_aload_n hx hb dL_law_746 rfl (lv_at hl 3 rfl) ?_
  refine iw_rd 1 hx hb hXs hbl hS1 (by decide) h4 hL hl dL_law_747 dL_law_748 dL_law_750 dL_law_751 dL_law_752 ?_
  refine m_calli (va_runV (C := RX6) (As := [.int (xs (4 * n + 1))]) (rest := []) ⟨hx, hb, hml, hown, hts⟩ (c_X6_orderAnew l D cy Mm H1.size h ad t i f n (xs (4 * n + 1)) _ hW hI rfl) (cwV 1 hts gL_law_X6_orderAnew rfl rfl rfl (by decide +kernel) ⟨Nat.le_of_ble_eq_true rfl, Nat.le_of_ble_eq_true rfl⟩) (mPreWV hK hPm1 hW.1 (ci := 7) rfl) rfl rfl hl.1 rfl (lv_room (Nat.le_of_ble_eq_true rfl)) dL_law_753 ⟨by show _ ≤ 694999; omega, by show _ ≤ 7011106; omega⟩) hDm hA hS1 (fun r6 Mm1 H2 locs2 hq6 hPm2 hDm2 hS2 hz2 hd2 hk2 => ?_)
  have hP2 := pm_frame hP1 hdj1.sy hk2
  have hdj2 := dj_after hP1 hdj1.sy hd2
  obtain ⟨hr6, hW6⟩ := hq6
  have hP9 := P_order hR hN hI hn (xs (4 * n + 1)).toInt
  rcases hw9 with ⟨v, Mh1, g1, hv, hMo1, rfl, hg0, hr⟩ | ⟨E9, k, g1, hpx, hmem, rfl, hr⟩
  · obtain ⟨hcd, hv9, rfl⟩ := hv
    obtain ⟨q1, q2, q3, q4, q5⟩ := hP9.1 hcd
    have hv6 : v = r6 := by
      rw [hr6, q2]
      exact hv9.trans (by first | rfl | exact nI_zI _)
    refine iw_tail C0 dL_law_756 dL_law_758 dL_law_759 dL_law_762 dL_law_764 dL_law_769 dL_law_771 dL_law_774 dL_law_775 dL_law_776 dL_law_777 dL_law_779 dL_law_780 dL_law_781 dL_law_786 (by decide) hP2 (mset_self _ _ _) hPm2 hW6 q5 (by omega) (by omega) (Or.inl ⟨hr, q1, by rw [hg0, hv6]⟩) hl5 (fun ls hl => ?_)
    refine W.widen (k := 32 + 12 * (n + 1)) (n := 2000 + 120 * (n + 1)) (by omega) (by omega) ?_
    exact kk _ _ _ ⟨_, Mm1, g1, ad, _, _, _, B, P, _, _, E, ⟨hP2, hMo1, hPm2, hdj2, hD1, hDm2⟩, ⟨hH, hSH, rfl⟩, hW6, q3, q4, q5⟩ hS2 hl
  · obtain ⟨rfl, hcd⟩ := hpx
    obtain rfl := iw_tabO_O hmem
    obtain ⟨q1, q2, q3⟩ := hP9.2 hcd
    rw [q2, q3] at hW6
    refine iw_tail C0 dL_law_756 dL_law_758 dL_law_759 dL_law_762 dL_law_764 dL_law_769 dL_law_771 dL_law_774 dL_law_775 dL_law_776 dL_law_777 dL_law_779 dL_law_780 dL_law_781 dL_law_786 (by decide) hP2 (mset_self _ _ _) hPm2 hW6 (hI.mono hn) (by omega) (by omega) (Or.inr ⟨1, hr, by decide, by decide, q1⟩) hl5 (fun ls hl => ?_)
    refine W.widen (k := 32 + 12 * (n + 1)) (n := 2000 + 120 * (n + 1)) (by omega) (by omega) ?_
    exact kk _ _ _ ⟨Mh, Mm1, g1, ad, _, i, f, B, P, cn, x, E, ⟨hP2, hMo, hPm2, hdj2, hD1, hDm2⟩, ⟨hH, hSH, rfl⟩, hW6, hR, hN.mono hn, hI.mono hn⟩ hS2 hl
