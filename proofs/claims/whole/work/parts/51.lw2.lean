set_option maxRecDepth 100000 in
set_option maxHeartbeats 4000000 in
theorem iw_mark {p : Program} {l : Launch} {e : Env} {s : State} {m : MethodId} {below : List Frame} {meth : Method} {c : Code} {H : Heap} {locs : List Loc} {Q : State → Prop} {b L a h o n : Nat} {xs : Nat → Int32} {ls : Array Slot} {D : va_G} {cy : Nat → ClassId} {de mi : Nat} (C0 : iwC p l s m c b L xs D cy de mi) (h4 : 4 * n + 4 ≤ L) (hL : L ≤ 2048) (hLS : iwS D cy de s n a h o H) (hS : va_S (iwA s) s.heap H locs) (hl : lv_has ls 7 (iwF b a h o (4 * n)))
    (kk : ∀ (H : Heap) (locs : List Loc) (ls : Array Slot), iwS D cy de s (n + 1) a h o H → va_S (iwA s) s.heap H locs → lv_has ls 7 (iwF b a h o (4 * n)) → W p l e room_1 s m #[Value.ref b] below meth c H locs (32 + 12 * (n + 1)) (2000 + 120 * (n + 1)) Q (F0 m 1341 ls [])) : W p l e room_1 s m #[Value.ref b] below meth c H locs (32 + 12 * n) (2000 + 120 * n) Q (F0 m 789 ls []) := by
  obtain ⟨hx, hb, hml, hown, hts, hXs, hbl, hK, hX, hNN, hst⟩ := id C0
  obtain ⟨Mh, Mm, g, ad, t, i, f, B, P, cn, x, E, ⟨hPh, hMo, hPm, hdj, hDh, hDm⟩, ⟨hH, hSH, hB0⟩, hW, hR, hN, hI⟩ := hLS
  subst hB0
  have hA : ∀ q, s.heap.size ≤ q → iwA s q := fun _ h => h
  have hn : n + 1 ≤ 512 := by omega
  refine lv_aload_n hx hb dL_law_789 rfl (lv_at hl 2 rfl) ?_
  refine iw_rd 1 hx hb hXs hbl hS (by decide) h4 hL hl dL_law_790 dL_law_791 dL_law_793 dL_law_794 dL_law_795 ?_
  refine iw_rd 2 hx hb hXs hbl hS (by decide) h4 hL hl dL_law_796 dL_law_797 dL_law_799 dL_law_800 dL_law_801 ?_
  refine iw_rd 3 hx hb hXs hbl hS (by decide) h4 hL hl dL_law_802 dL_law_803 dL_law_805 dL_law_806 dL_law_807 ?_
  refine lv_aload_n hx hb dL_law_808 rfl (lv_at hl 4 rfl) ?_
  refine w_call (vx_runSX (As := [.ref (B 0), .int (xs (4 * n + 1)), .int (xs (4 * n + 2)), .int (xs (4 * n + 3)), .ref o]) (rest := []) ⟨hx, hb, hml, hown, hts⟩ (w_mark l de mi D cy Mh H.size o (B 0) g _ (xs (4 * n + 1)) (xs (4 * n + 2)) (xs (4 * n + 3)) _ _ (hH.1 0 _ hSH.1.1) hMo (fun sz => c_X5_mark l hst de mi D cy Mh sz B P cn x E n (xs (4 * n + 1)) _ (xs (4 * n + 2)) _ (xs (4 * n + 3)) _ hH hSH hN rfl rfl rfl (P_h3m hR)) (fun E9 h9 => h9.elim (fun h9 => Or.inl h9.1) (fun h9 => h9.elim (fun h9 => Or.inr (Or.inl h9.1)) (fun h9 => Or.inr (Or.inr h9.1))))) (vx_cwSW 5 hts gL_law_L_mark rfl rfl rfl (by decide +kernel) ⟨Nat.le_of_ble_eq_true rfl, Nat.le_of_ble_eq_true rfl⟩) (wPreS hX hNN hDh hS hA hK hPh) rfl rfl hl.1 rfl (lv_room (Nat.le_of_ble_eq_true rfl)) dL_law_809 ⟨by show _ ≤ 694999; omega, by show _ ≤ 7011106; omega⟩) hDh hA hS (fun r M1 H1 locs1 hw9 hP1 hD1 hS1 hz1 hd1 hk1 => ?_)
  have hPm1 := pm_frame hPm hdj.sy hk1
  have hdj1 := dj_after hPm hdj.sy hd1
  refine lv_istore (lv' := (5, .int r) :: iwF b (B 0) h o (4 * n)) hx hb dL_law_812 hl (by decide) rfl (fun ls hl5 => ?_)
  have hl := lv_sub (l' := iwF b (B 0) h o (4 * n)) hl5 [1, 2, 3, 4, 5] rfl
  refine lv_aload_n hx hb dL_law_814 rfl (lv_at hl 3 rfl) ?_
  refine iw_rd 1 hx hb hXs hbl hS1 (by decide) h4 hL hl dL_law_815 dL_law_816 dL_law_818 dL_law_819 dL_law_820 ?_
  refine iw_rd 2 hx hb hXs hbl hS1 (by decide) h4 hL hl dL_law_821 dL_law_822 dL_law_824 dL_law_825 dL_law_826 ?_
  refine iw_rd 3 hx hb hXs hbl hS1 (by decide) h4 hL hl dL_law_827 dL_law_828 dL_law_830 dL_law_831 dL_law_832 ?_
  refine m_calli (va_runV (C := RX6) (As := [.int (xs (4 * n + 1)), .int (xs (4 * n + 2)), .int (xs (4 * n + 3))]) (rest := []) ⟨hx, hb, hml, hown, hts⟩ (c_X6_mark l D cy Mm H1.size h ad t i f n (xs (4 * n + 1)) _ (xs (4 * n + 2)) _ (xs (4 * n + 3)) _ hW hI rfl rfl rfl) (cwV 3 hts gL_law_X6_mark rfl rfl rfl (by decide +kernel) ⟨Nat.le_of_ble_eq_true rfl, Nat.le_of_ble_eq_true rfl⟩) (mPreWV hK hPm1 hW.1 (ci := 7) rfl) rfl rfl hl.1 rfl (lv_room (Nat.le_of_ble_eq_true rfl)) dL_law_833 ⟨by show _ ≤ 694999; omega, by show _ ≤ 7011106; omega⟩) hDm hA hS1 (fun r6 Mm1 H2 locs2 hq6 hPm2 hDm2 hS2 hz2 hd2 hk2 => ?_)
  have hP2 := pm_frame hP1 hdj1.sy hk2
  have hdj2 := dj_after hP1 hdj1.sy hd2
  obtain ⟨hr6, hW6⟩ := hq6
  have hP9 := P_mark hR hN hI hn (xs (4 * n + 1)).toInt (xs (4 * n + 2)).toInt (xs (4 * n + 3)).toInt
  rcases hw9 with ⟨v, Mh1, g1, hv, hMo1, rfl, hg0, hr⟩ | ⟨E9, k, g1, hpx, hmem, rfl, hr⟩
  · obtain ⟨hcd, hv9, B1, P1, E1, h1, h2, h3⟩ := hv
    obtain ⟨q1, q2, q3, q4, q5⟩ := hP9.1 hcd
    have hv6 : v = r6 := by
      rw [hr6, q2]
      exact hv9.trans (by first | rfl | exact nI_zI _)
    refine iw_tail C0 dL_law_836 dL_law_838 dL_law_839 dL_law_842 dL_law_844 dL_law_849 dL_law_851 dL_law_854 dL_law_855 dL_law_856 dL_law_857 dL_law_859 dL_law_860 dL_law_861 dL_law_866 (by decide) hP2 (mset_self _ _ _) hPm2 hW6 q5 (by omega) (by omega) (Or.inl ⟨hr, q1, by rw [hg0, hv6]⟩) hl5 (fun ls hl => ?_)
    refine W.widen (k := 32 + 12 * (n + 1)) (n := 2000 + 120 * (n + 1)) (by omega) (by omega) ?_
    exact kk _ _ _ ⟨_, Mm1, g1, ad, _, _, _, B1, P1, _, _, E1, ⟨hP2, hMo1, hPm2, hdj2, hD1, hDm2⟩, ⟨h1, h2, h3⟩, hW6, q3, q4, q5⟩ hS2 hl
  · rcases hpx with ⟨rfl, hcd⟩ | ⟨rfl, hcd⟩ | ⟨rfl, hcd⟩
    · obtain rfl := iw_tabOAS_O hmem
      obtain ⟨q1, q2, q3⟩ := hP9.2.1 hcd
      rw [q2, q3] at hW6
      refine iw_tail C0 dL_law_836 dL_law_838 dL_law_839 dL_law_842 dL_law_844 dL_law_849 dL_law_851 dL_law_854 dL_law_855 dL_law_856 dL_law_857 dL_law_859 dL_law_860 dL_law_861 dL_law_866 (by decide) hP2 (mset_self _ _ _) hPm2 hW6 (hI.mono hn) (by omega) (by omega) (Or.inr ⟨1, hr, by decide, by decide, q1⟩) hl5 (fun ls hl => ?_)
      refine W.widen (k := 32 + 12 * (n + 1)) (n := 2000 + 120 * (n + 1)) (by omega) (by omega) ?_
      exact kk _ _ _ ⟨Mh, Mm1, g1, ad, _, i, f, B, P, cn, x, E, ⟨hP2, hMo, hPm2, hdj2, hD1, hDm2⟩, ⟨hH, hSH, rfl⟩, hW6, hR, hN.mono hn, hI.mono hn⟩ hS2 hl
    · obtain rfl := iw_tabOAS_A hmem
      obtain ⟨q1, q2, q3⟩ := hP9.2.2.1 hcd
      rw [q2, q3] at hW6
      refine iw_tail C0 dL_law_836 dL_law_838 dL_law_839 dL_law_842 dL_law_844 dL_law_849 dL_law_851 dL_law_854 dL_law_855 dL_law_856 dL_law_857 dL_law_859 dL_law_860 dL_law_861 dL_law_866 (by decide) hP2 (mset_self _ _ _) hPm2 hW6 (hI.mono hn) (by omega) (by omega) (Or.inr ⟨2, hr, by decide, by decide, q1⟩) hl5 (fun ls hl => ?_)
      refine W.widen (k := 32 + 12 * (n + 1)) (n := 2000 + 120 * (n + 1)) (by omega) (by omega) ?_
      exact kk _ _ _ ⟨Mh, Mm1, g1, ad, _, i, f, B, P, cn, x, E, ⟨hP2, hMo, hPm2, hdj2, hD1, hDm2⟩, ⟨hH, hSH, rfl⟩, hW6, hR, hN.mono hn, hI.mono hn⟩ hS2 hl
    · obtain rfl := iw_tabOAS_S hmem
      obtain ⟨q1, q2, q3⟩ := hP9.2.2.2 hcd
      rw [q2, q3] at hW6
      refine iw_tail C0 dL_law_836 dL_law_838 dL_law_839 dL_law_842 dL_law_844 dL_law_849 dL_law_851 dL_law_854 dL_law_855 dL_law_856 dL_law_857 dL_law_859 dL_law_860 dL_law_861 dL_law_866 (by decide) hP2 (mset_self _ _ _) hPm2 hW6 (hI.mono hn) (by omega) (by omega) (Or.inr ⟨3, hr, by decide, by decide, q1⟩) hl5 (fun ls hl => ?_)
      refine W.widen (k := 32 + 12 * (n + 1)) (n := 2000 + 120 * (n + 1)) (by omega) (by omega) ?_
      exact kk _ _ _ ⟨Mh, Mm1, g1, ad, _, i, f, B, P, cn, x, E, ⟨hP2, hMo, hPm2, hdj2, hD1, hDm2⟩, ⟨hH, hSH, rfl⟩, hW6, hR, hN.mono hn, hI.mono hn⟩ hS2 hl

set_option maxRecDepth 100000 in
set_option maxHeartbeats 4000000 in
theorem iw_grade {p : Program} {l : Launch} {e : Env} {s : State} {m : MethodId} {below : List Frame} {meth : Method} {c : Code} {H : Heap} {locs : List Loc} {Q : State → Prop} {b L a h o n : Nat} {xs : Nat → Int32} {ls : Array Slot} {D : va_G} {cy : Nat → ClassId} {de mi : Nat} (C0 : iwC p l s m c b L xs D cy de mi) (h4 : 4 * n + 4 ≤ L) (hL : L ≤ 2048) (hLS : iwS D cy de s n a h o H) (hS : va_S (iwA s) s.heap H locs) (hl : lv_has ls 7 (iwF b a h o (4 * n)))
    (kk : ∀ (H : Heap) (locs : List Loc) (ls : Array Slot), iwS D cy de s (n + 1) a h o H → va_S (iwA s) s.heap H locs → lv_has ls 7 (iwF b a h o (4 * n)) → W p l e room_1 s m #[Value.ref b] below meth c H locs (32 + 12 * (n + 1)) (2000 + 120 * (n + 1)) Q (F0 m 1341 ls [])) : W p l e room_1 s m #[Value.ref b] below meth c H locs (32 + 12 * n) (2000 + 120 * n) Q (F0 m 869 ls []) := by
  obtain ⟨hx, hb, hml, hown, hts, hXs, hbl, hK, hX, hNN, hst⟩ := id C0
  obtain ⟨Mh, Mm, g, ad, t, i, f, B, P, cn, x, E, ⟨hPh, hMo, hPm, hdj, hDh, hDm⟩, ⟨hH, hSH, hB0⟩, hW, hR, hN, hI⟩ := hLS
  subst hB0
  have hA : ∀ q, s.heap.size ≤ q → iwA s q := fun _ h => h
  have hn : n + 1 ≤ 512 := by omega
  refine lv_aload_n hx hb dL_law_869 rfl (lv_at hl 2 rfl) ?_
  refine iw_rd 1 hx hb hXs hbl hS (by decide) h4 hL hl dL_law_870 dL_law_871 dL_law_873 dL_law_874 dL_law_875 ?_
  refine lv_aload_n hx hb dL_law_876 rfl (lv_at hl 4 rfl) ?_
  refine w_call (vx_runSX (As := [.ref (B 0), .int (xs (4 * n + 1)), .ref o]) (rest := []) ⟨hx, hb, hml, hown, hts⟩ (w_grade l de mi D cy Mh H.size o (B 0) g _ (xs (4 * n + 1)) _ _ (hH.1 0 _ hSH.1.1) hMo (fun sz => c_X5_grade l hst de mi D cy Mh sz B P cn x E n (xs (4 * n + 1)) _ hH hSH hN rfl) (fun E9 h9 => h9.1)) (vx_cwSW 3 hts gL_law_L_grade rfl rfl rfl (by decide +kernel) ⟨Nat.le_of_ble_eq_true rfl, Nat.le_of_ble_eq_true rfl⟩) (wPreS hX hNN hDh hS hA hK hPh) rfl rfl hl.1 rfl (lv_room (Nat.le_of_ble_eq_true rfl)) dL_law_877 ⟨by show _ ≤ 694999; omega, by show _ ≤ 7011106; omega⟩) hDh hA hS (fun r M1 H1 locs1 hw9 hP1 hD1 hS1 hz1 hd1 hk1 => ?_)
  have hPm1 := pm_frame hPm hdj.sy hk1
  have hdj1 := dj_after hPm hdj.sy hd1
  refine lv_istore (lv' := (5, .int r) :: iwF b (B 0) h o (4 * n)) hx hb dL_law_880 hl (by decide) rfl (fun ls hl5 => ?_)
  have hl := lv_sub (l' := iwF b (B 0) h o (4 * n)) hl5 [1, 2, 3, 4, 5] rfl
  refine lv_aload_n hx hb dL_law_882 rfl (lv_at hl 3 rfl) ?_
  refine iw_rd 1 hx hb hXs hbl hS1 (by decide) h4 hL hl dL_law_883 dL_law_884 dL_law_886 dL_law_887 dL_law_888 ?_
  refine m_calli (va_runV (C := RX6) (As := [.int (xs (4 * n + 1))]) (rest := []) ⟨hx, hb, hml, hown, hts⟩ (c_X6_grade l D cy Mm H1.size h ad t i f n (xs (4 * n + 1)) _ hW hI rfl) (cwV 1 hts gL_law_X6_grade rfl rfl rfl (by decide +kernel) ⟨Nat.le_of_ble_eq_true rfl, Nat.le_of_ble_eq_true rfl⟩) (mPreWV hK hPm1 hW.1 (ci := 7) rfl) rfl rfl hl.1 rfl (lv_room (Nat.le_of_ble_eq_true rfl)) dL_law_889 ⟨by show _ ≤ 694999; omega, by show _ ≤ 7011106; omega⟩) hDm hA hS1 (fun r6 Mm1 H2 locs2 hq6 hPm2 hDm2 hS2 hz2 hd2 hk2 => ?_)
  have hP2 := pm_frame hP1 hdj1.sy hk2
  have hdj2 := dj_after hP1 hdj1.sy hd2
  obtain ⟨hr6, hW6⟩ := hq6
  have hP9 := P_grade hR hN hI hn (xs (4 * n + 1)).toInt
  rcases hw9 with ⟨v, Mh1, g1, hv, hMo1, rfl, hg0, hr⟩ | ⟨E9, k, g1, hpx, hmem, rfl, hr⟩
  · obtain ⟨hcd, hv9, rfl⟩ := hv
    obtain ⟨q1, q2, q3, q4, q5⟩ := hP9.1 hcd
    have hv6 : v = r6 := by
      rw [hr6, q2]
      exact hv9.trans (by first | rfl | exact nI_zI _)
    refine iw_tail C0 dL_law_892 dL_law_894 dL_law_895 dL_law_898 dL_law_900 dL_law_905 dL_law_907 dL_law_910 dL_law_911 dL_law_912 dL_law_913 dL_law_915 dL_law_916 dL_law_917 dL_law_922 (by decide) hP2 (mset_self _ _ _) hPm2 hW6 q5 (by omega) (by omega) (Or.inl ⟨hr, q1, by rw [hg0, hv6]⟩) hl5 (fun ls hl => ?_)
    refine W.widen (k := 32 + 12 * (n + 1)) (n := 2000 + 120 * (n + 1)) (by omega) (by omega) ?_
    exact kk _ _ _ ⟨_, Mm1, g1, ad, _, _, _, B, P, _, _, E, ⟨hP2, hMo1, hPm2, hdj2, hD1, hDm2⟩, ⟨hH, hSH, rfl⟩, hW6, q3, q4, q5⟩ hS2 hl
  · obtain ⟨rfl, hcd⟩ := hpx
    obtain rfl := iw_tabO_O hmem
    obtain ⟨q1, q2, q3⟩ := hP9.2 hcd
    rw [q2, q3] at hW6
    refine iw_tail C0 dL_law_892 dL_law_894 dL_law_895 dL_law_898 dL_law_900 dL_law_905 dL_law_907 dL_law_910 dL_law_911 dL_law_912 dL_law_913 dL_law_915 dL_law_916 dL_law_917 dL_law_922 (by decide) hP2 (mset_self _ _ _) hPm2 hW6 (hI.mono hn) (by omega) (by omega) (Or.inr ⟨1, hr, by decide, by decide, q1⟩) hl5 (fun ls hl => ?_)
    refine W.widen (k := 32 + 12 * (n + 1)) (n := 2000 + 120 * (n + 1)) (by omega) (by omega) ?_
    exact kk _ _ _ ⟨Mh, Mm1, g1, ad, _, i, f, B, P, cn, x, E, ⟨hP2, hMo, hPm2, hdj2, hD1, hDm2⟩, ⟨hH, hSH, rfl⟩, hW6, hR, hN.mono hn, hI.mono hn⟩ hS2 hl

set_option maxRecDepth 100000 in
set_option maxHeartbeats 4000000 in
theorem iw_lacks {p : Program} {l : Launch} {e : Env} {s : State} {m : MethodId} {below : List Frame} {meth : Method} {c : Code} {H : Heap} {locs : List Loc} {Q : State → Prop} {b L a h o n : Nat} {xs : Nat → Int32} {ls : Array Slot} {D : va_G} {cy : Nat → ClassId} {de mi : Nat} (C0 : iwC p l s m c b L xs D cy de mi) (h4 : 4 * n + 4 ≤ L) (hL : L ≤ 2048) (hLS : iwS D cy de s n a h o H) (hS : va_S (iwA s) s.heap H locs) (hl : lv_has ls 7 (iwF b a h o (4 * n)))
    (kk : ∀ (H : Heap) (locs : List Loc) (ls : Array Slot), iwS D cy de s (n + 1) a h o H → va_S (iwA s) s.heap H locs → lv_has ls 7 (iwF b a h o (4 * n)) → W p l e room_1 s m #[Value.ref b] below meth c H locs (32 + 12 * (n + 1)) (2000 + 120 * (n + 1)) Q (F0 m 1341 ls [])) : W p l e room_1 s m #[Value.ref b] below meth c H locs (32 + 12 * n) (2000 + 120 * n) Q (F0 m 925 ls []) := by
  obtain ⟨hx, hb, hml, hown, hts, hXs, hbl, hK, hX, hNN, hst⟩ := id C0
  obtain ⟨Mh, Mm, g, ad, t, i, f, B, P, cn, x, E, ⟨hPh, hMo, hPm, hdj, hDh, hDm⟩, ⟨hH, hSH, hB0⟩, hW, hR, hN, hI⟩ := hLS
  subst hB0
  have hA : ∀ q, s.heap.size ≤ q → iwA s q := fun _ h => h
  have hn : n + 1 ≤ 512 := by omega
  refine lv_aload_n hx hb dL_law_925 rfl (lv_at hl 2 rfl) ?_
  refine iw_rd 1 hx hb hXs hbl hS (by decide) h4 hL hl dL_law_926 dL_law_927 dL_law_929 dL_law_930 dL_law_931 ?_
  refine lv_aload_n hx hb dL_law_932 rfl (lv_at hl 4 rfl) ?_
  refine w_call (vx_runSX (As := [.ref (B 0), .int (xs (4 * n + 1)), .ref o]) (rest := []) ⟨hx, hb, hml, hown, hts⟩ (w_lacks l de mi D cy Mh H.size o (B 0) g _ (xs (4 * n + 1)) _ _ (hH.1 0 _ hSH.1.1) hMo (fun sz => c_X5_lacks l hst de mi D cy Mh sz B P cn x E n (xs (4 * n + 1)) _ hH hSH hN rfl) (fun E9 h9 => h9.1)) (vx_cwSW 3 hts gL_law_L_lacks rfl rfl rfl (by decide +kernel) ⟨Nat.le_of_ble_eq_true rfl, Nat.le_of_ble_eq_true rfl⟩) (wPreS hX hNN hDh hS hA hK hPh) rfl rfl hl.1 rfl (lv_room (Nat.le_of_ble_eq_true rfl)) dL_law_933 ⟨by show _ ≤ 694999; omega, by show _ ≤ 7011106; omega⟩) hDh hA hS (fun r M1 H1 locs1 hw9 hP1 hD1 hS1 hz1 hd1 hk1 => ?_)
  have hPm1 := pm_frame hPm hdj.sy hk1
  have hdj1 := dj_after hPm hdj.sy hd1
  refine lv_istore (lv' := (5, .int r) :: iwF b (B 0) h o (4 * n)) hx hb dL_law_936 hl (by decide) rfl (fun ls hl5 => ?_)
  have hl := lv_sub (l' := iwF b (B 0) h o (4 * n)) hl5 [1, 2, 3, 4, 5] rfl
  refine lv_aload_n hx hb dL_law_938 rfl (lv_at hl 3 rfl) ?_
  refine iw_rd 1 hx hb hXs hbl hS1 (by decide) h4 hL hl dL_law_939 dL_law_940 dL_law_942 dL_law_943 dL_law_944 ?_
  refine m_calli (va_runV (C := RX6) (As := [.int (xs (4 * n + 1))]) (rest := []) ⟨hx, hb, hml, hown, hts⟩ (c_X6_lacks l D cy Mm H1.size h ad t i f n (xs (4 * n + 1)) _ hW hI rfl) (cwV 1 hts gL_law_X6_lacks rfl rfl rfl (by decide +kernel) ⟨Nat.le_of_ble_eq_true rfl, Nat.le_of_ble_eq_true rfl⟩) (mPreWV hK hPm1 hW.1 (ci := 7) rfl) rfl rfl hl.1 rfl (lv_room (Nat.le_of_ble_eq_true rfl)) dL_law_945 ⟨by show _ ≤ 694999; omega, by show _ ≤ 7011106; omega⟩) hDm hA hS1 (fun r6 Mm1 H2 locs2 hq6 hPm2 hDm2 hS2 hz2 hd2 hk2 => ?_)
  have hP2 := pm_frame hP1 hdj1.sy hk2
  have hdj2 := dj_after hP1 hdj1.sy hd2
  obtain ⟨hr6, hW6⟩ := hq6
  have hP9 := P_lacks hR hN hI hn (xs (4 * n + 1)).toInt
  rcases hw9 with ⟨v, Mh1, g1, hv, hMo1, rfl, hg0, hr⟩ | ⟨E9, k, g1, hpx, hmem, rfl, hr⟩
  · obtain ⟨hcd, hv9, rfl⟩ := hv
    obtain ⟨q1, q2, q3, q4, q5⟩ := hP9.1 hcd
    have hv6 : v = r6 := by
      rw [hr6, q2]
      exact hv9.trans (by first | rfl | exact nI_zI _)
    refine iw_tail C0 dL_law_948 dL_law_950 dL_law_951 dL_law_954 dL_law_956 dL_law_961 dL_law_963 dL_law_966 dL_law_967 dL_law_968 dL_law_969 dL_law_971 dL_law_972 dL_law_973 dL_law_978 (by decide) hP2 (mset_self _ _ _) hPm2 hW6 q5 (by omega) (by omega) (Or.inl ⟨hr, q1, by rw [hg0, hv6]⟩) hl5 (fun ls hl => ?_)
    refine W.widen (k := 32 + 12 * (n + 1)) (n := 2000 + 120 * (n + 1)) (by omega) (by omega) ?_
    exact kk _ _ _ ⟨_, Mm1, g1, ad, _, _, _, B, P, _, _, E, ⟨hP2, hMo1, hPm2, hdj2, hD1, hDm2⟩, ⟨hH, hSH, rfl⟩, hW6, q3, q4, q5⟩ hS2 hl
  · obtain ⟨rfl, hcd⟩ := hpx
    obtain rfl := iw_tabO_O hmem
    obtain ⟨q1, q2, q3⟩ := hP9.2 hcd
    rw [q2, q3] at hW6
    refine iw_tail C0 dL_law_948 dL_law_950 dL_law_951 dL_law_954 dL_law_956 dL_law_961 dL_law_963 dL_law_966 dL_law_967 dL_law_968 dL_law_969 dL_law_971 dL_law_972 dL_law_973 dL_law_978 (by decide) hP2 (mset_self _ _ _) hPm2 hW6 (hI.mono hn) (by omega) (by omega) (Or.inr ⟨1, hr, by decide, by decide, q1⟩) hl5 (fun ls hl => ?_)
    refine W.widen (k := 32 + 12 * (n + 1)) (n := 2000 + 120 * (n + 1)) (by omega) (by omega) ?_
    exact kk _ _ _ ⟨Mh, Mm1, g1, ad, _, i, f, B, P, cn, x, E, ⟨hP2, hMo, hPm2, hdj2, hD1, hDm2⟩, ⟨hH, hSH, rfl⟩, hW6, hR, hN.mono hn, hI.mono hn⟩ hS2 hl

set_option maxRecDepth 100000 in
set_option maxHeartbeats 4000000 in
theorem iw_takeOut {p : Program} {l : Launch} {e : Env} {s : State} {m : MethodId} {below : List Frame} {meth : Method} {c : Code} {H : Heap} {locs : List Loc} {Q : State → Prop} {b L a h o n : Nat} {xs : Nat → Int32} {ls : Array Slot} {D : va_G} {cy : Nat → ClassId} {de mi : Nat} (C0 : iwC p l s m c b L xs D cy de mi) (h4 : 4 * n + 4 ≤ L) (hL : L ≤ 2048) (hLS : iwS D cy de s n a h o H) (hS : va_S (iwA s) s.heap H locs) (hl : lv_has ls 7 (iwF b a h o (4 * n)))
    (kk : ∀ (H : Heap) (locs : List Loc) (ls : Array Slot), iwS D cy de s (n + 1) a h o H → va_S (iwA s) s.heap H locs → lv_has ls 7 (iwF b a h o (4 * n)) → W p l e room_1 s m #[Value.ref b] below meth c H locs (32 + 12 * (n + 1)) (2000 + 120 * (n + 1)) Q (F0 m 1341 ls [])) : W p l e room_1 s m #[Value.ref b] below meth c H locs (32 + 12 * n) (2000 + 120 * n) Q (F0 m 981 ls []) := by
  obtain ⟨hx, hb, hml, hown, hts, hXs, hbl, hK, hX, hNN, hst⟩ := id C0
  obtain ⟨Mh, Mm, g, ad, t, i, f, B, P, cn, x, E, ⟨hPh, hMo, hPm, hdj, hDh, hDm⟩, ⟨hH, hSH, hB0⟩, hW, hR, hN, hI⟩ := hLS
  subst hB0
  have hA : ∀ q, s.heap.size ≤ q → iwA s q := fun _ h => h
  have hn : n + 1 ≤ 512 := by omega
  refine lv_aload_n hx hb dL_law_981 rfl (lv_at hl 2 rfl) ?_
  refine iw_rd 1 hx hb hXs hbl hS (by decide) h4 hL hl dL_law_982 dL_law_983 dL_law_985 dL_law_986 dL_law_987 ?_
  refine lv_aload_n hx hb dL_law_988 rfl (lv_at hl 4 rfl) ?_
  refine w_call (vx_runSX (As := [.ref (B 0), .int (xs (4 * n + 1)), .ref o]) (rest := []) ⟨hx, hb, hml, hown, hts⟩ (w_takeOut l de mi D cy Mh H.size o (B 0) g _ (xs (4 * n + 1)) _ _ (hH.1 0 _ hSH.1.1) hMo (fun sz => c_X5_takeOut l hst de mi D cy Mh sz B P cn x E n (xs (4 * n + 1)) _ hH hSH hN rfl) (fun E9 h9 => h9.elim (fun h9 => Or.inl h9.1) (fun h9 => Or.inr h9.1))) (vx_cwSW 3 hts gL_law_L_takeOut rfl rfl rfl (by decide +kernel) ⟨Nat.le_of_ble_eq_true rfl, Nat.le_of_ble_eq_true rfl⟩) (wPreS hX hNN hDh hS hA hK hPh) rfl rfl hl.1 rfl (lv_room (Nat.le_of_ble_eq_true rfl)) dL_law_989 ⟨by show _ ≤ 694999; omega, by show _ ≤ 7011106; omega⟩) hDh hA hS (fun r M1 H1 locs1 hw9 hP1 hD1 hS1 hz1 hd1 hk1 => ?_)
  have hPm1 := pm_frame hPm hdj.sy hk1
  have hdj1 := dj_after hPm hdj.sy hd1
  refine lv_istore (lv' := (5, .int r) :: iwF b (B 0) h o (4 * n)) hx hb dL_law_992 hl (by decide) rfl (fun ls hl5 => ?_)
  have hl := lv_sub (l' := iwF b (B 0) h o (4 * n)) hl5 [1, 2, 3, 4, 5] rfl
  refine lv_aload_n hx hb dL_law_994 rfl (lv_at hl 3 rfl) ?_
  refine iw_rd 1 hx hb hXs hbl hS1 (by decide) h4 hL hl dL_law_995 dL_law_996 dL_law_998 dL_law_999 dL_law_1000 ?_
  refine m_calli (va_runV (C := RX6) (As := [.int (xs (4 * n + 1))]) (rest := []) ⟨hx, hb, hml, hown, hts⟩ (c_X6_takeOut l D cy Mm H1.size h ad t i f n (xs (4 * n + 1)) _ hW hI rfl) (cwV 1 hts gL_law_X6_takeOut rfl rfl rfl (by decide +kernel) ⟨Nat.le_of_ble_eq_true rfl, Nat.le_of_ble_eq_true rfl⟩) (mPreWV hK hPm1 hW.1 (ci := 7) rfl) rfl rfl hl.1 rfl (lv_room (Nat.le_of_ble_eq_true rfl)) dL_law_1001 ⟨by show _ ≤ 694999; omega, by show _ ≤ 7011106; omega⟩) hDm hA hS1 (fun r6 Mm1 H2 locs2 hq6 hPm2 hDm2 hS2 hz2 hd2 hk2 => ?_)
  have hP2 := pm_frame hP1 hdj1.sy hk2
  have hdj2 := dj_after hP1 hdj1.sy hd2
  obtain ⟨hr6, hW6⟩ := hq6
  have hP9 := P_takeOut hR hN hI hn (xs (4 * n + 1)).toInt
  rcases hw9 with ⟨v, Mh1, g1, hv, hMo1, rfl, hg0, hr⟩ | ⟨E9, k, g1, hpx, hmem, rfl, hr⟩
  · obtain ⟨hcd, hv9, B1, P1, E1, h1, h2, h3⟩ := hv
    obtain ⟨q1, q2, q3, q4, q5⟩ := hP9.1 hcd
    have hv6 : v = r6 := by
      rw [hr6, q2]
      exact hv9.trans (by first | rfl | exact nI_zI _)
    refine iw_tail C0 dL_law_1004 dL_law_1006 dL_law_1007 dL_law_1010 dL_law_1012 dL_law_1017 dL_law_1019 dL_law_1022 dL_law_1023 dL_law_1024 dL_law_1025 dL_law_1027 dL_law_1028 dL_law_1029 dL_law_1034 (by decide) hP2 (mset_self _ _ _) hPm2 hW6 q5 (by omega) (by omega) (Or.inl ⟨hr, q1, by rw [hg0, hv6]⟩) hl5 (fun ls hl => ?_)
    refine W.widen (k := 32 + 12 * (n + 1)) (n := 2000 + 120 * (n + 1)) (by omega) (by omega) ?_
    exact kk _ _ _ ⟨_, Mm1, g1, ad, _, _, _, B1, P1, _, _, E1, ⟨hP2, hMo1, hPm2, hdj2, hD1, hDm2⟩, ⟨h1, h2, h3⟩, hW6, q3, q4, q5⟩ hS2 hl
  · rcases hpx with ⟨rfl, hcd⟩ | ⟨rfl, hcd⟩
    · obtain rfl := iw_tabOS_O hmem
      obtain ⟨q1, q2, q3⟩ := hP9.2.1 hcd
      rw [q2, q3] at hW6
      refine iw_tail C0 dL_law_1004 dL_law_1006 dL_law_1007 dL_law_1010 dL_law_1012 dL_law_1017 dL_law_1019 dL_law_1022 dL_law_1023 dL_law_1024 dL_law_1025 dL_law_1027 dL_law_1028 dL_law_1029 dL_law_1034 (by decide) hP2 (mset_self _ _ _) hPm2 hW6 (hI.mono hn) (by omega) (by omega) (Or.inr ⟨1, hr, by decide, by decide, q1⟩) hl5 (fun ls hl => ?_)
      refine W.widen (k := 32 + 12 * (n + 1)) (n := 2000 + 120 * (n + 1)) (by omega) (by omega) ?_
      exact kk _ _ _ ⟨Mh, Mm1, g1, ad, _, i, f, B, P, cn, x, E, ⟨hP2, hMo, hPm2, hdj2, hD1, hDm2⟩, ⟨hH, hSH, rfl⟩, hW6, hR, hN.mono hn, hI.mono hn⟩ hS2 hl
    · obtain rfl := iw_tabOS_S hmem
      obtain ⟨q1, q2, q3⟩ := hP9.2.2 hcd
      rw [q2, q3] at hW6
      refine iw_tail C0 dL_law_1004 dL_law_1006 dL_law_1007 dL_law_1010 dL_law_1012 dL_law_1017 dL_law_1019 dL_law_1022 dL_law_1023 dL_law_1024 dL_law_1025 dL_law_1027 dL_law_1028 dL_law_1029 dL_law_1034 (by decide) hP2 (mset_self _ _ _) hPm2 hW6 (hI.mono hn) (by omega) (by omega) (Or.inr ⟨2, hr, by decide, by decide, q1⟩) hl5 (fun ls hl => ?_)
      refine W.widen (k := 32 + 12 * (n + 1)) (n := 2000 + 120 * (n + 1)) (by omega) (by omega) ?_
      exact kk _ _ _ ⟨Mh, Mm1, g1, ad, _, i, f, B, P, cn, x, E, ⟨hP2, hMo, hPm2, hdj2, hD1, hDm2⟩, ⟨hH, hSH, rfl⟩, hW6, hR, hN.mono hn, hI.mono hn⟩ hS2 hl

set_option maxRecDepth 100000 in
set_option maxHeartbeats 4000000 in
theorem iw_show {p : Program} {l : Launch} {e : Env} {s : State} {m : MethodId} {below : List Frame} {meth : Method} {c : Code} {H : Heap} {locs : List Loc} {Q : State → Prop} {b L a h o n : Nat} {xs : Nat → Int32} {ls : Array Slot} {D : va_G} {cy : Nat → ClassId} {de mi : Nat} (C0 : iwC p l s m c b L xs D cy de mi) (h4 : 4 * n + 4 ≤ L) (hL : L ≤ 2048) (hLS : iwS D cy de s n a h o H) (hS : va_S (iwA s) s.heap H locs) (hl : lv_has ls 7 (iwF b a h o (4 * n)))
    (kk : ∀ (H : Heap) (locs : List Loc) (ls : Array Slot), iwS D cy de s (n + 1) a h o H → va_S (iwA s) s.heap H locs → lv_has ls 7 (iwF b a h o (4 * n)) → W p l e room_1 s m #[Value.ref b] below meth c H locs (32 + 12 * (n + 1)) (2000 + 120 * (n + 1)) Q (F0 m 1341 ls [])) : W p l e room_1 s m #[Value.ref b] below meth c H locs (32 + 12 * n) (2000 + 120 * n) Q (F0 m 1037 ls []) := by
  obtain ⟨hx, hb, hml, hown, hts, hXs, hbl, hK, hX, hNN, hst⟩ := id C0
  obtain ⟨Mh, Mm, g, ad, t, i, f, B, P, cn, x, E, ⟨hPh, hMo, hPm, hdj, hDh, hDm⟩, ⟨hH, hSH, hB0⟩, hW, hR, hN, hI⟩ := hLS
  subst hB0
  have hA : ∀ q, s.heap.size ≤ q → iwA s q := fun _ h => h
  have hn : n + 1 ≤ 512 := by omega
  refine lv_aload_n hx hb dL_law_1037 rfl (lv_at hl 2 rfl) ?_
  refine iw_rd 1 hx hb hXs hbl hS (by decide) h4 hL hl dL_law_1038 dL_law_1039 dL_law_1041 dL_law_1042 dL_law_1043 ?_
  refine lv_aload_n hx hb dL_law_1044 rfl (lv_at hl 4 rfl) ?_
  refine w_call (vx_runSX (As := [.ref (B 0), .int (xs (4 * n + 1)), .ref o]) (rest := []) ⟨hx, hb, hml, hown, hts⟩ (w_show l de mi D cy Mh H.size o (B 0) g _ (xs (4 * n + 1)) _ _ (hH.1 0 _ hSH.1.1) hMo (fun sz => c_X5_show l hst de mi D cy Mh sz B P cn x E n (xs (4 * n + 1)) _ hH hSH hN rfl) (fun E9 h9 => h9.elim (fun h9 => Or.inl h9.1) (fun h9 => Or.inr h9.1))) (vx_cwSW 3 hts gL_law_L_show rfl rfl rfl (by decide +kernel) ⟨Nat.le_of_ble_eq_true rfl, Nat.le_of_ble_eq_true rfl⟩) (wPreS hX hNN hDh hS hA hK hPh) rfl rfl hl.1 rfl (lv_room (Nat.le_of_ble_eq_true rfl)) dL_law_1045 ⟨by show _ ≤ 694999; omega, by show _ ≤ 7011106; omega⟩) hDh hA hS (fun r M1 H1 locs1 hw9 hP1 hD1 hS1 hz1 hd1 hk1 => ?_)
  have hPm1 := pm_frame hPm hdj.sy hk1
  have hdj1 := dj_after hPm hdj.sy hd1
  refine lv_istore (lv' := (5, .int r) :: iwF b (B 0) h o (4 * n)) hx hb dL_law_1048 hl (by decide) rfl (fun ls hl5 => ?_)
  have hl := lv_sub (l' := iwF b (B 0) h o (4 * n)) hl5 [1, 2, 3, 4, 5] rfl
  refine lv_aload_n hx hb dL_law_1050 rfl (lv_at hl 3 rfl) ?_
  refine iw_rd 1 hx hb hXs hbl hS1 (by decide) h4 hL hl dL_law_1051 dL_law_1052 dL_law_1054 dL_law_1055 dL_law_1056 ?_
  refine m_calli (va_runV (C := RX6) (As := [.int (xs (4 * n + 1))]) (rest := []) ⟨hx, hb, hml, hown, hts⟩ (c_X6_show l D cy Mm H1.size h ad t i f n (xs (4 * n + 1)) _ hW hI rfl) (cwV 1 hts gL_law_X6_show rfl rfl rfl (by decide +kernel) ⟨Nat.le_of_ble_eq_true rfl, Nat.le_of_ble_eq_true rfl⟩) (mPreWV hK hPm1 hW.1 (ci := 7) rfl) rfl rfl hl.1 rfl (lv_room (Nat.le_of_ble_eq_true rfl)) dL_law_1057 ⟨by show _ ≤ 694999; omega, by show _ ≤ 7011106; omega⟩) hDm hA hS1 (fun r6 Mm1 H2 locs2 hq6 hPm2 hDm2 hS2 hz2 hd2 hk2 => ?_)
  have hP2 := pm_frame hP1 hdj1.sy hk2
  have hdj2 := dj_after hP1 hdj1.sy hd2
  obtain ⟨hr6, hW6⟩ := hq6
  have hP9 := P_show hR hN hI hn (xs (4 * n + 1)).toInt
  rcases hw9 with ⟨v, Mh1, g1, hv, hMo1, rfl, hg0, hr⟩ | ⟨E9, k, g1, hpx, hmem, rfl, hr⟩
  · obtain ⟨hcd, hv9, B1, P1, E1, h1, h2, h3⟩ := hv
    obtain ⟨q1, q2, q3, q4, q5⟩ := hP9.1 hcd
    have hv6 : v = r6 := by
      rw [hr6, q2]
      exact hv9.trans (by first | rfl | exact nI_zI _)
    refine iw_tail C0 dL_law_1060 dL_law_1062 dL_law_1063 dL_law_1066 dL_law_1068 dL_law_1073 dL_law_1075 dL_law_1078 dL_law_1079 dL_law_1080 dL_law_1081 dL_law_1083 dL_law_1084 dL_law_1085 dL_law_1090 (by decide) hP2 (mset_self _ _ _) hPm2 hW6 q5 (by omega) (by omega) (Or.inl ⟨hr, q1, by rw [hg0, hv6]⟩) hl5 (fun ls hl => ?_)
    refine W.widen (k := 32 + 12 * (n + 1)) (n := 2000 + 120 * (n + 1)) (by omega) (by omega) ?_
    exact kk _ _ _ ⟨_, Mm1, g1, ad, _, _, _, B1, P1, _, _, E1, ⟨hP2, hMo1, hPm2, hdj2, hD1, hDm2⟩, ⟨h1, h2, h3⟩, hW6, q3, q4, q5⟩ hS2 hl
  · rcases hpx with ⟨rfl, hcd⟩ | ⟨rfl, hcd⟩
    · obtain rfl := iw_tabOS_O hmem
      obtain ⟨q1, q2, q3⟩ := hP9.2.1 hcd
      rw [q2, q3] at hW6
      refine iw_tail C0 dL_law_1060 dL_law_1062 dL_law_1063 dL_law_1066 dL_law_1068 dL_law_1073 dL_law_1075 dL_law_1078 dL_law_1079 dL_law_1080 dL_law_1081 dL_law_1083 dL_law_1084 dL_law_1085 dL_law_1090 (by decide) hP2 (mset_self _ _ _) hPm2 hW6 (hI.mono hn) (by omega) (by omega) (Or.inr ⟨1, hr, by decide, by decide, q1⟩) hl5 (fun ls hl => ?_)
      refine W.widen (k := 32 + 12 * (n + 1)) (n := 2000 + 120 * (n + 1)) (by omega) (by omega) ?_
      exact kk _ _ _ ⟨Mh, Mm1, g1, ad, _, i, f, B, P, cn, x, E, ⟨hP2, hMo, hPm2, hdj2, hD1, hDm2⟩, ⟨hH, hSH, rfl⟩, hW6, hR, hN.mono hn, hI.mono hn⟩ hS2 hl
    · obtain rfl := iw_tabOS_S hmem
      obtain ⟨q1, q2, q3⟩ := hP9.2.2 hcd
      rw [q2, q3] at hW6
      refine iw_tail C0 dL_law_1060 dL_law_1062 dL_law_1063 dL_law_1066 dL_law_1068 dL_law_1073 dL_law_1075 dL_law_1078 dL_law_1079 dL_law_1080 dL_law_1081 dL_law_1083 dL_law_1084 dL_law_1085 dL_law_1090 (by decide) hP2 (mset_self _ _ _) hPm2 hW6 (hI.mono hn) (by omega) (by omega) (Or.inr ⟨2, hr, by decide, by decide, q1⟩) hl5 (fun ls hl => ?_)
      refine W.widen (k := 32 + 12 * (n + 1)) (n := 2000 + 120 * (n + 1)) (by omega) (by omega) ?_
      exact kk _ _ _ ⟨Mh, Mm1, g1, ad, _, i, f, B, P, cn, x, E, ⟨hP2, hMo, hPm2, hdj2, hD1, hDm2⟩, ⟨hH, hSH, rfl⟩, hW6, hR, hN.mono hn, hI.mono hn⟩ hS2 hl

set_option maxRecDepth 100000 in
set_option maxHeartbeats 4000000 in
theorem iw_vote {p : Program} {l : Launch} {e : Env} {s : State} {m : MethodId} {below : List Frame} {meth : Method} {c : Code} {H : Heap} {locs : List Loc} {Q : State → Prop} {b L a h o n : Nat} {xs : Nat → Int32} {ls : Array Slot} {D : va_G} {cy : Nat → ClassId} {de mi : Nat} (C0 : iwC p l s m c b L xs D cy de mi) (h4 : 4 * n + 4 ≤ L) (hL : L ≤ 2048) (hLS : iwS D cy de s n a h o H) (hS : va_S (iwA s) s.heap H locs) (hl : lv_has ls 7 (iwF b a h o (4 * n)))
    (kk : ∀ (H : Heap) (locs : List Loc) (ls : Array Slot), iwS D cy de s (n + 1) a h o H → va_S (iwA s) s.heap H locs → lv_has ls 7 (iwF b a h o (4 * n)) → W p l e room_1 s m #[Value.ref b] below meth c H locs (32 + 12 * (n + 1)) (2000 + 120 * (n + 1)) Q (F0 m 1341 ls [])) : W p l e room_1 s m #[Value.ref b] below meth c H locs (32 + 12 * n) (2000 + 120 * n) Q (F0 m 1093 ls []) := by
  obtain ⟨hx, hb, hml, hown, hts, hXs, hbl, hK, hX, hNN, hst⟩ := id C0
  obtain ⟨Mh, Mm, g, ad, t, i, f, B, P, cn, x, E, ⟨hPh, hMo, hPm, hdj, hDh, hDm⟩, ⟨hH, hSH, hB0⟩, hW, hR, hN, hI⟩ := hLS
  subst hB0
  have hA : ∀ q, s.heap.size ≤ q → iwA s q := fun _ h => h
  have hn : n + 1 ≤ 512 := by omega
  refine lv_aload_n hx hb dL_law_1093 rfl (lv_at hl 2 rfl) ?_
  refine iw_rd 1 hx hb hXs hbl hS (by decide) h4 hL hl dL_law_1094 dL_law_1095 dL_law_1097 dL_law_1098 dL_law_1099 ?_
  refine iw_rd 2 hx hb hXs hbl hS (by decide) h4 hL hl dL_law_1100 dL_law_1101 dL_law_1103 dL_law_1104 dL_law_1105 ?_
  refine iw_rd 3 hx hb hXs hbl hS (by decide) h4 hL hl dL_law_1106 dL_law_1107 dL_law_1109 dL_law_1110 dL_law_1111 ?_
  refine lv_aload_n hx hb dL_law_1112 rfl (lv_at hl 4 rfl) ?_
  refine w_call (vx_runSX (As := [.ref (B 0), .int (xs (4 * n + 1)), .int (xs (4 * n + 2)), .int (xs (4 * n + 3)), .ref o]) (rest := []) ⟨hx, hb, hml, hown, hts⟩ (w_vote l de mi D cy Mh H.size o (B 0) g _ (xs (4 * n + 1)) (xs (4 * n + 2)) (xs (4 * n + 3)) _ _ (hH.1 0 _ hSH.1.1) hMo (fun sz => c_X5_vote l hst de mi D cy Mh sz B P cn x E n (xs (4 * n + 1)) _ (xs (4 * n + 2)) _ (xs (4 * n + 3)) _ hH hSH hN rfl rfl rfl) (fun E9 h9 => h9.elim (fun h9 => Or.inl h9.1) (fun h9 => h9.elim (fun h9 => Or.inr (Or.inl h9.1)) (fun h9 => Or.inr (Or.inr h9.1))))) (vx_cwSW 5 hts gL_law_L_vote rfl rfl rfl (by decide +kernel) ⟨Nat.le_of_ble_eq_true rfl, Nat.le_of_ble_eq_true rfl⟩) (wPreS hX hNN hDh hS hA hK hPh) rfl rfl hl.1 rfl (lv_room (Nat.le_of_ble_eq_true rfl)) dL_law_1113 ⟨by show _ ≤ 694999; omega, by show _ ≤ 7011106; omega⟩) hDh hA hS (fun r M1 H1 locs1 hw9 hP1 hD1 hS1 hz1 hd1 hk1 => ?_)
  have hPm1 := pm_frame hPm hdj.sy hk1
  have hdj1 := dj_after hPm hdj.sy hd1
  refine lv_istore (lv' := (5, .int r) :: iwF b (B 0) h o (4 * n)) hx hb dL_law_1116 hl (by decide) rfl (fun ls hl5 => ?_)
  have hl := lv_sub (l' := iwF b (B 0) h o (4 * n)) hl5 [1, 2, 3, 4, 5] rfl
  refine lv_aload_n hx hb dL_law_1118 rfl (lv_at hl 3 rfl) ?_
  refine iw_rd 1 hx hb hXs hbl hS1 (by decide) h4 hL hl dL_law_1119 dL_law_1120 dL_law_1122 dL_law_1123 dL_law_1124 ?_
  refine iw_rd 2 hx hb hXs hbl hS1 (by decide) h4 hL hl dL_law_1125 dL_law_1126 dL_law_1128 dL_law_1129 dL_law_1130 ?_
  refine iw_rd 3 hx hb hXs hbl hS1 (by decide) h4 hL hl dL_law_1131 dL_law_1132 dL_law_1134 dL_law_1135 dL_law_1136 ?_
  refine m_calli (va_runV (C := RX6) (As := [.int (xs (4 * n + 1)), .int (xs (4 * n + 2)), .int (xs (4 * n + 3))]) (rest := []) ⟨hx, hb, hml, hown, hts⟩ (c_X6_vote l D cy Mm H1.size h ad t i f n (xs (4 * n + 1)) _ (xs (4 * n + 2)) _ (xs (4 * n + 3)) _ hW hI rfl rfl rfl) (cwV 3 hts gL_law_X6_vote rfl rfl rfl (by decide +kernel) ⟨Nat.le_of_ble_eq_true rfl, Nat.le_of_ble_eq_true rfl⟩) (mPreWV hK hPm1 hW.1 (ci := 7) rfl) rfl rfl hl.1 rfl (lv_room (Nat.le_of_ble_eq_true rfl)) dL_law_1137 ⟨by show _ ≤ 694999; omega, by show _ ≤ 7011106; omega⟩) hDm hA hS1 (fun r6 Mm1 H2 locs2 hq6 hPm2 hDm2 hS2 hz2 hd2 hk2 => ?_)
  have hP2 := pm_frame hP1 hdj1.sy hk2
  have hdj2 := dj_after hP1 hdj1.sy hd2
  obtain ⟨hr6, hW6⟩ := hq6
  have hP9 := P_vote hR hN hI hn (xs (4 * n + 1)).toInt (xs (4 * n + 2)).toInt (xs (4 * n + 3)).toInt
  rcases hw9 with ⟨v, Mh1, g1, hv, hMo1, rfl, hg0, hr⟩ | ⟨E9, k, g1, hpx, hmem, rfl, hr⟩
  · obtain ⟨hcd, hv9, B1, P1, E1, h1, h2, h3⟩ := hv
    obtain ⟨q1, q2, q3, q4, q5⟩ := hP9.1 hcd
    have hv6 : v = r6 := by
      rw [hr6, q2]
      exact hv9.trans (by first | rfl | exact nI_zI _)
    refine iw_tail C0 dL_law_1140 dL_law_1142 dL_law_1143 dL_law_1146 dL_law_1148 dL_law_1153 dL_law_1155 dL_law_1158 dL_law_1159 dL_law_1160 dL_law_1161 dL_law_1163 dL_law_1164 dL_law_1165 dL_law_1170 (by decide) hP2 (mset_self _ _ _) hPm2 hW6 q5 (by omega) (by omega) (Or.inl ⟨hr, q1, by rw [hg0, hv6]⟩) hl5 (fun ls hl => ?_)
    refine W.widen (k := 32 + 12 * (n + 1)) (n := 2000 + 120 * (n + 1)) (by omega) (by omega) ?_
    exact kk _ _ _ ⟨_, Mm1, g1, ad, _, _, _, B1, P1, _, _, E1, ⟨hP2, hMo1, hPm2, hdj2, hD1, hDm2⟩, ⟨h1, h2, h3⟩, hW6, q3, q4, q5⟩ hS2 hl
  · rcases hpx with ⟨rfl, hcd⟩ | ⟨rfl, hcd⟩ | ⟨rfl, hcd⟩
    · obtain rfl := iw_tabOAS_O hmem
      obtain ⟨q1, q2, q3⟩ := hP9.2.1 hcd
      rw [q2, q3] at hW6
      refine iw_tail C0 dL_law_1140 dL_law_1142 dL_law_1143 dL_law_1146 dL_law_1148 dL_law_1153 dL_law_1155 dL_law_1158 dL_law_1159 dL_law_1160 dL_law_1161 dL_law_1163 dL_law_1164 dL_law_1165 dL_law_1170 (by decide) hP2 (mset_self _ _ _) hPm2 hW6 (hI.mono hn) (by omega) (by omega) (Or.inr ⟨1, hr, by decide, by decide, q1⟩) hl5 (fun ls hl => ?_)
      refine W.widen (k := 32 + 12 * (n + 1)) (n := 2000 + 120 * (n + 1)) (by omega) (by omega) ?_
      exact kk _ _ _ ⟨Mh, Mm1, g1, ad, _, i, f, B, P, cn, x, E, ⟨hP2, hMo, hPm2, hdj2, hD1, hDm2⟩, ⟨hH, hSH, rfl⟩, hW6, hR, hN.mono hn, hI.mono hn⟩ hS2 hl
    · obtain rfl := iw_tabOAS_A hmem
      obtain ⟨q1, q2, q3⟩ := hP9.2.2.1 hcd
      rw [q2, q3] at hW6
      refine iw_tail C0 dL_law_1140 dL_law_1142 dL_law_1143 dL_law_1146 dL_law_1148 dL_law_1153 dL_law_1155 dL_law_1158 dL_law_1159 dL_law_1160 dL_law_1161 dL_law_1163 dL_law_1164 dL_law_1165 dL_law_1170 (by decide) hP2 (mset_self _ _ _) hPm2 hW6 (hI.mono hn) (by omega) (by omega) (Or.inr ⟨2, hr, by decide, by decide, q1⟩) hl5 (fun ls hl => ?_)
      refine W.widen (k := 32 + 12 * (n + 1)) (n := 2000 + 120 * (n + 1)) (by omega) (by omega) ?_
      exact kk _ _ _ ⟨Mh, Mm1, g1, ad, _, i, f, B, P, cn, x, E, ⟨hP2, hMo, hPm2, hdj2, hD1, hDm2⟩, ⟨hH, hSH, rfl⟩, hW6, hR, hN.mono hn, hI.mono hn⟩ hS2 hl
    · obtain rfl := iw_tabOAS_S hmem
      obtain ⟨q1, q2, q3⟩ := hP9.2.2.2 hcd
      rw [q2, q3] at hW6
      refine iw_tail C0 dL_law_1140 dL_law_1142 dL_law_1143 dL_law_1146 dL_law_1148 dL_law_1153 dL_law_1155 dL_law_1158 dL_law_1159 dL_law_1160 dL_law_1161 dL_law_1163 dL_law_1164 dL_law_1165 dL_law_1170 (by decide) hP2 (mset_self _ _ _) hPm2 hW6 (hI.mono hn) (by omega) (by omega) (Or.inr ⟨3, hr, by decide, by decide, q1⟩) hl5 (fun ls hl => ?_)
      refine W.widen (k := 32 + 12 * (n + 1)) (n := 2000 + 120 * (n + 1)) (by omega) (by omega) ?_
      exact kk _ _ _ ⟨Mh, Mm1, g1, ad, _, i, f, B, P, cn, x, E, ⟨hP2, hMo, hPm2, hdj2, hD1, hDm2⟩, ⟨hH, hSH, rfl⟩, hW6, hR, hN.mono hn, hI.mono hn⟩ hS2 hl

set_option maxRecDepth 100000 in
set_option maxHeartbeats 4000000 in
theorem iw_worth {p : Program} {l : Launch} {e : Env} {s : State} {m : MethodId} {below : List Frame} {meth : Method} {c : Code} {H : Heap} {locs : List Loc} {Q : State → Prop} {b L a h o n : Nat} {xs : Nat → Int32} {ls : Array Slot} {D : va_G} {cy : Nat → ClassId} {de mi : Nat} (C0 : iwC p l s m c b L xs D cy de mi) (h4 : 4 * n + 4 ≤ L) (hL : L ≤ 2048) (hLS : iwS D cy de s n a h o H) (hS : va_S (iwA s) s.heap H locs) (hl : lv_has ls 7 (iwF b a h o (4 * n)))
    (kk : ∀ (H : Heap) (locs : List Loc) (ls : Array Slot), iwS D cy de s (n + 1) a h o H → va_S (iwA s) s.heap H locs → lv_has ls 7 (iwF b a h o (4 * n)) → W p l e room_1 s m #[Value.ref b] below meth c H locs (32 + 12 * (n + 1)) (2000 + 120 * (n + 1)) Q (F0 m 1341 ls [])) : W p l e room_1 s m #[Value.ref b] below meth c H locs (32 + 12 * n) (2000 + 120 * n) Q (F0 m 1173 ls []) := by
  obtain ⟨hx, hb, hml, hown, hts, hXs, hbl, hK, hX, hNN, hst⟩ := id C0
  obtain ⟨Mh, Mm, g, ad, t, i, f, B, P, cn, x, E, ⟨hPh, hMo, hPm, hdj, hDh, hDm⟩, ⟨hH, hSH, hB0⟩, hW, hR, hN, hI⟩ := hLS
  subst hB0
  have hA : ∀ q, s.heap.size ≤ q → iwA s q := fun _ h => h
  have hn : n + 1 ≤ 512 := by omega
  refine lv_aload_n hx hb dL_law_1173 rfl (lv_at hl 2 rfl) ?_
  refine iw_rd 1 hx hb hXs hbl hS (by decide) h4 hL hl dL_law_1174 dL_law_1175 dL_law_1177 dL_law_1178 dL_law_1179 ?_
  refine lv_aload_n hx hb dL_law_1180 rfl (lv_at hl 4 rfl) ?_
  refine w_call (vx_runSX (As := [.ref (B 0), .int (xs (4 * n + 1)), .ref o]) (rest := []) ⟨hx, hb, hml, hown, hts⟩ (w_worth l de mi D cy Mh H.size o (B 0) g _ (xs (4 * n + 1)) _ _ (hH.1 0 _ hSH.1.1) hMo (fun sz => c_X5_worth l hst de mi D cy Mh sz B P cn x E n (xs (4 * n + 1)) _ hH hSH hN rfl) (fun E9 h9 => h9.1)) (vx_cwSW 3 hts gL_law_L_worth rfl rfl rfl (by decide +kernel) ⟨Nat.le_of_ble_eq_true rfl, Nat.le_of_ble_eq_true rfl⟩) (wPreS hX hNN hDh hS hA hK hPh) rfl rfl hl.1 rfl (lv_room (Nat.le_of_ble_eq_true rfl)) dL_law_1181 ⟨by show _ ≤ 694999; omega, by show _ ≤ 7011106; omega⟩) hDh hA hS (fun r M1 H1 locs1 hw9 hP1 hD1 hS1 hz1 hd1 hk1 => ?_)
  have hPm1 := pm_frame hPm hdj.sy hk1
  have hdj1 := dj_after hPm hdj.sy hd1
  refine lv_istore (lv' := (5, .int r) :: iwF b (B 0) h o (4 * n)) hx hb dL_law_1184 hl (by decide) rfl (fun ls hl5 => ?_)
  have hl := lv_sub (l' := iwF b (B 0) h o (4 * n)) hl5 [1, 2, 3, 4, 5] rfl
  refine lv_aload_n hx hb dL_law_1186 rfl (lv_at hl 3 rfl) ?_
  refine iw_rd 1 hx hb hXs hbl hS1 (by decide) h4 hL hl dL_law_1187 dL_law_1188 dL_law_1190 dL_law_1191 dL_law_1192 ?_
  refine m_calli (va_runV (C := RX6) (As := [.int (xs (4 * n + 1))]) (rest := []) ⟨hx, hb, hml, hown, hts⟩ (c_X6_worth l D cy Mm H1.size h ad t i f n (xs (4 * n + 1)) _ hW hI rfl) (cwV 1 hts gL_law_X6_worth rfl rfl rfl (by decide +kernel) ⟨Nat.le_of_ble_eq_true rfl, Nat.le_of_ble_eq_true rfl⟩) (mPreWV hK hPm1 hW.1 (ci := 7) rfl) rfl rfl hl.1 rfl (lv_room (Nat.le_of_ble_eq_true rfl)) dL_law_1193 ⟨by show _ ≤ 694999; omega, by show _ ≤ 7011106; omega⟩) hDm hA hS1 (fun r6 Mm1 H2 locs2 hq6 hPm2 hDm2 hS2 hz2 hd2 hk2 => ?_)
  have hP2 := pm_frame hP1 hdj1.sy hk2
  have hdj2 := dj_after hP1 hdj1.sy hd2
  obtain ⟨hr6, hW6⟩ := hq6
  have hP9 := P_worth hR hN hI hn (xs (4 * n + 1)).toInt
  rcases hw9 with ⟨v, Mh1, g1, hv, hMo1, rfl, hg0, hr⟩ | ⟨E9, k, g1, hpx, hmem, rfl, hr⟩
  · obtain ⟨hcd, hv9, rfl⟩ := hv
    obtain ⟨q1, q2, q3, q4, q5⟩ := hP9.1 hcd
    have hv6 : v = r6 := by
      rw [hr6, q2]
      exact hv9.trans (by first | rfl | exact nI_zI _)
    refine iw_tail C0 dL_law_1196 dL_law_1198 dL_law_1199 dL_law_1202 dL_law_1204 dL_law_1209 dL_law_1211 dL_law_1214 dL_law_1215 dL_law_1216 dL_law_1217 dL_law_1219 dL_law_1220 dL_law_1221 dL_law_1226 (by decide) hP2 (mset_self _ _ _) hPm2 hW6 q5 (by omega) (by omega) (Or.inl ⟨hr, q1, by rw [hg0, hv6]⟩) hl5 (fun ls hl => ?_)
    refine W.widen (k := 32 + 12 * (n + 1)) (n := 2000 + 120 * (n + 1)) (by omega) (by omega) ?_
    exact kk _ _ _ ⟨_, Mm1, g1, ad, _, _, _, B, P, _, _, E, ⟨hP2, hMo1, hPm2, hdj2, hD1, hDm2⟩, ⟨hH, hSH, rfl⟩, hW6, q3, q4, q5⟩ hS2 hl
  · obtain ⟨rfl, hcd⟩ := hpx
    obtain rfl := iw_tabO_O hmem
    obtain ⟨q1, q2, q3⟩ := hP9.2 hcd
    rw [q2, q3] at hW6
    refine iw_tail C0 dL_law_1196 dL_law_1198 dL_law_1199 dL_law_1202 dL_law_1204 dL_law_1209 dL_law_1211 dL_law_1214 dL_law_1215 dL_law_1216 dL_law_1217 dL_law_1219 dL_law_1220 dL_law_1221 dL_law_1226 (by decide) hP2 (mset_self _ _ _) hPm2 hW6 (hI.mono hn) (by omega) (by omega) (Or.inr ⟨1, hr, by decide, by decide, q1⟩) hl5 (fun ls hl => ?_)
    refine W.widen (k := 32 + 12 * (n + 1)) (n := 2000 + 120 * (n + 1)) (by omega) (by omega) ?_
    exact kk _ _ _ ⟨Mh, Mm1, g1, ad, _, i, f, B, P, cn, x, E, ⟨hP2, hMo, hPm2, hdj2, hD1, hDm2⟩, ⟨hH, hSH, rfl⟩, hW6, hR, hN.mono hn, hI.mono hn⟩ hS2 hl

set_option maxRecDepth 100000 in
set_option maxHeartbeats 4000000 in
theorem iw_place {p : Program} {l : Launch} {e : Env} {s : State} {m : MethodId} {below : List Frame} {meth : Method} {c : Code} {H : Heap} {locs : List Loc} {Q : State → Prop} {b L a h o n : Nat} {xs : Nat → Int32} {ls : Array Slot} {D : va_G} {cy : Nat → ClassId} {de mi : Nat} (C0 : iwC p l s m c b L xs D cy de mi) (h4 : 4 * n + 4 ≤ L) (hL : L ≤ 2048) (hLS : iwS D cy de s n a h o H) (hS : va_S (iwA s) s.heap H locs) (hl : lv_has ls 7 (iwF b a h o (4 * n)))
    (kk : ∀ (H : Heap) (locs : List Loc) (ls : Array Slot), iwS D cy de s (n + 1) a h o H → va_S (iwA s) s.heap H locs → lv_has ls 7 (iwF b a h o (4 * n)) → W p l e room_1 s m #[Value.ref b] below meth c H locs (32 + 12 * (n + 1)) (2000 + 120 * (n + 1)) Q (F0 m 1341 ls [])) : W p l e room_1 s m #[Value.ref b] below meth c H locs (32 + 12 * n) (2000 + 120 * n) Q (F0 m 1229 ls []) := by
  obtain ⟨hx, hb, hml, hown, hts, hXs, hbl, hK, hX, hNN, hst⟩ := id C0
  obtain ⟨Mh, Mm, g, ad, t, i, f, B, P, cn, x, E, ⟨hPh, hMo, hPm, hdj, hDh, hDm⟩, ⟨hH, hSH, hB0⟩, hW, hR, hN, hI⟩ := hLS
  subst hB0
  have hA : ∀ q, s.heap.size ≤ q → iwA s q := fun _ h => h
  have hn : n + 1 ≤ 512 := by omega
  refine lv_aload_n hx hb dL_law_1229 rfl (lv_at hl 2 rfl) ?_
  refine iw_rd 1 hx hb hXs hbl hS (by decide) h4 hL hl dL_law_1230 dL_law_1231 dL_law_1233 dL_law_1234 dL_law_1235 ?_
  refine lv_aload_n hx hb dL_law_1236 rfl (lv_at hl 4 rfl) ?_
  refine w_call (vx_runSX (As := [.ref (B 0), .int (xs (4 * n + 1)), .ref o]) (rest := []) ⟨hx, hb, hml, hown, hts⟩ (w_place l de mi D cy Mh H.size o (B 0) g _ (xs (4 * n + 1)) _ _ (hH.1 0 _ hSH.1.1) hMo (fun sz => c_X5_place l hst de mi D cy Mh sz B P cn x E n (xs (4 * n + 1)) _ hH hSH hN rfl) (fun E9 h9 => h9.1)) (vx_cwSW 3 hts gL_law_L_place rfl rfl rfl (by decide +kernel) ⟨Nat.le_of_ble_eq_true rfl, Nat.le_of_ble_eq_true rfl⟩) (wPreS hX hNN hDh hS hA hK hPh) rfl rfl hl.1 rfl (lv_room (Nat.le_of_ble_eq_true rfl)) dL_law_1237 ⟨by show _ ≤ 694999; omega, by show _ ≤ 7011106; omega⟩) hDh hA hS (fun r M1 H1 locs1 hw9 hP1 hD1 hS1 hz1 hd1 hk1 => ?_)
  have hPm1 := pm_frame hPm hdj.sy hk1
  have hdj1 := dj_after hPm hdj.sy hd1
  refine lv_istore (lv' := (5, .int r) :: iwF b (B 0) h o (4 * n)) hx hb dL_law_1240 hl (by decide) rfl (fun ls hl5 => ?_)
  have hl := lv_sub (l' := iwF b (B 0) h o (4 * n)) hl5 [1, 2, 3, 4, 5] rfl
  refine lv_aload_n hx hb dL_law_1242 rfl (lv_at hl 3 rfl) ?_
  refine iw_rd 1 hx hb hXs hbl hS1 (by decide) h4 hL hl dL_law_1243 dL_law_1244 dL_law_1246 dL_law_1247 dL_law_1248 ?_
  refine m_calli (va_runV (C := RX6) (As := [.int (xs (4 * n + 1))]) (rest := []) ⟨hx, hb, hml, hown, hts⟩ (c_X6_place l D cy Mm H1.size h ad t i f n (xs (4 * n + 1)) _ hW hI rfl) (cwV 1 hts gL_law_X6_place rfl rfl rfl (by decide +kernel) ⟨Nat.le_of_ble_eq_true rfl, Nat.le_of_ble_eq_true rfl⟩) (mPreWV hK hPm1 hW.1 (ci := 7) rfl) rfl rfl hl.1 rfl (lv_room (Nat.le_of_ble_eq_true rfl)) dL_law_1249 ⟨by show _ ≤ 694999; omega, by show _ ≤ 7011106; omega⟩) hDm hA hS1 (fun r6 Mm1 H2 locs2 hq6 hPm2 hDm2 hS2 hz2 hd2 hk2 => ?_)
  have hP2 := pm_frame hP1 hdj1.sy hk2
  have hdj2 := dj_after hP1 hdj1.sy hd2
  obtain ⟨hr6, hW6⟩ := hq6
  have hP9 := P_place hR hN hI hn (xs (4 * n + 1)).toInt
  rcases hw9 with ⟨v, Mh1, g1, hv, hMo1, rfl, hg0, hr⟩ | ⟨E9, k, g1, hpx, hmem, rfl, hr⟩
  · obtain ⟨hcd, hv9, rfl⟩ := hv
    obtain ⟨q1, q2, q3, q4, q5⟩ := hP9.1 hcd
    have hv6 : v = r6 := by
      rw [hr6, q2]
      exact hv9.trans (by first | rfl | exact nI_zI _)
    refine iw_tail C0 dL_law_1252 dL_law_1254 dL_law_1255 dL_law_1258 dL_law_1260 dL_law_1265 dL_law_1267 dL_law_1270 dL_law_1271 dL_law_1272 dL_law_1273 dL_law_1275 dL_law_1276 dL_law_1277 dL_law_1282 (by decide) hP2 (mset_self _ _ _) hPm2 hW6 q5 (by omega) (by omega) (Or.inl ⟨hr, q1, by rw [hg0, hv6]⟩) hl5 (fun ls hl => ?_)
    refine W.widen (k := 32 + 12 * (n + 1)) (n := 2000 + 120 * (n + 1)) (by omega) (by omega) ?_
    exact kk _ _ _ ⟨_, Mm1, g1, ad, _, _, _, B, P, _, _, E, ⟨hP2, hMo1, hPm2, hdj2, hD1, hDm2⟩, ⟨hH, hSH, rfl⟩, hW6, q3, q4, q5⟩ hS2 hl
  · obtain ⟨rfl, hcd⟩ := hpx
    obtain rfl := iw_tabO_O hmem
    obtain ⟨q1, q2, q3⟩ := hP9.2 hcd
    rw [q2, q3] at hW6
    refine iw_tail C0 dL_law_1252 dL_law_1254 dL_law_1255 dL_law_1258 dL_law_1260 dL_law_1265 dL_law_1267 dL_law_1270 dL_law_1271 dL_law_1272 dL_law_1273 dL_law_1275 dL_law_1276 dL_law_1277 dL_law_1282 (by decide) hP2 (mset_self _ _ _) hPm2 hW6 (hI.mono hn) (by omega) (by omega) (Or.inr ⟨1, hr, by decide, by decide, q1⟩) hl5 (fun ls hl => ?_)
    refine W.widen (k := 32 + 12 * (n + 1)) (n := 2000 + 120 * (n + 1)) (by omega) (by omega) ?_
    exact kk _ _ _ ⟨Mh, Mm1, g1, ad, _, i, f, B, P, cn, x, E, ⟨hP2, hMo, hPm2, hdj2, hD1, hDm2⟩, ⟨hH, hSH, rfl⟩, hW6, hR, hN.mono hn, hI.mono hn⟩ hS2 hl

set_option maxRecDepth 100000 in
set_option maxHeartbeats 4000000 in
theorem iw_at {p : Program} {l : Launch} {e : Env} {s : State} {m : MethodId} {below : List Frame} {meth : Method} {c : Code} {H : Heap} {locs : List Loc} {Q : State → Prop} {b L a h o n : Nat} {xs : Nat → Int32} {ls : Array Slot} {D : va_G} {cy : Nat → ClassId} {de mi : Nat} (C0 : iwC p l s m c b L xs D cy de mi) (h4 : 4 * n + 4 ≤ L) (hL : L ≤ 2048) (hLS : iwS D cy de s n a h o H) (hS : va_S (iwA s) s.heap H locs) (hl : lv_has ls 7 (iwF b a h o (4 * n)))
    (kk : ∀ (H : Heap) (locs : List Loc) (ls : Array Slot), iwS D cy de s (n + 1) a h o H → va_S (iwA s) s.heap H locs → lv_has ls 7 (iwF b a h o (4 * n)) → W p l e room_1 s m #[Value.ref b] below meth c H locs (32 + 12 * (n + 1)) (2000 + 120 * (n + 1)) Q (F0 m 1341 ls [])) : W p l e room_1 s m #[Value.ref b] below meth c H locs (32 + 12 * n) (2000 + 120 * n) Q (F0 m 1285 ls []) := by
  obtain ⟨hx, hb, hml, hown, hts, hXs, hbl, hK, hX, hNN, hst⟩ := id C0
  obtain ⟨Mh, Mm, g, ad, t, i, f, B, P, cn, x, E, ⟨hPh, hMo, hPm, hdj, hDh, hDm⟩, ⟨hH, hSH, hB0⟩, hW, hR, hN, hI⟩ := hLS
  subst hB0
  have hA : ∀ q, s.heap.size ≤ q → iwA s q := fun _ h => h
  have hn : n + 1 ≤ 512 := by omega
  refine lv_aload_n hx hb dL_law_1285 rfl (lv_at hl 2 rfl) ?_
  refine iw_rd 1 hx hb hXs hbl hS (by decide) h4 hL hl dL_law_1286 dL_law_1287 dL_law_1289 dL_law_1290 dL_law_1291 ?_
  refine lv_aload_n hx hb dL_law_1292 rfl (lv_at hl 4 rfl) ?_
  refine w_call (vx_runSX (As := [.ref (B 0), .int (xs (4 * n + 1)), .ref o]) (rest := []) ⟨hx, hb, hml, hown, hts⟩ (w_at l de mi D cy Mh H.size o (B 0) g _ (xs (4 * n + 1)) _ _ (hH.1 0 _ hSH.1.1) hMo (fun sz => c_X5_at l hst de mi D cy Mh sz B P cn x E n (xs (4 * n + 1)) _ hH hSH hN rfl) (fun E9 h9 => h9.1)) (vx_cwSW 3 hts gL_law_L_at rfl rfl rfl (by decide +kernel) ⟨Nat.le_of_ble_eq_true rfl, Nat.le_of_ble_eq_true rfl⟩) (wPreS hX hNN hDh hS hA hK hPh) rfl rfl hl.1 rfl (lv_room (Nat.le_of_ble_eq_true rfl)) dL_law_1293 ⟨by show _ ≤ 694999; omega, by show _ ≤ 7011106; omega⟩) hDh hA hS (fun r M1 H1 locs1 hw9 hP1 hD1 hS1 hz1 hd1 hk1 => ?_)
  have hPm1 := pm_frame hPm hdj.sy hk1
  have hdj1 := dj_after hPm hdj.sy hd1
  refine lv_istore (lv' := (5, .int r) :: iwF b (B 0) h o (4 * n)) hx hb dL_law_1296 hl (by decide) rfl (fun ls hl5 => ?_)
  have hl := lv_sub (l' := iwF b (B 0) h o (4 * n)) hl5 [1, 2, 3, 4, 5] rfl
  refine lv_aload_n hx hb dL_law_1298 rfl (lv_at hl 3 rfl) ?_
  refine iw_rd 1 hx hb hXs hbl hS1 (by decide) h4 hL hl dL_law_1299 dL_law_1300 dL_law_1302 dL_law_1303 dL_law_1304 ?_
  refine m_calli (va_runV (C := RX6) (As := [.int (xs (4 * n + 1))]) (rest := []) ⟨hx, hb, hml, hown, hts⟩ (c_X6_at l D cy Mm H1.size h ad t i f n (xs (4 * n + 1)) _ hW hI rfl) (cwV 1 hts gL_law_X6_at rfl rfl rfl (by decide +kernel) ⟨Nat.le_of_ble_eq_true rfl, Nat.le_of_ble_eq_true rfl⟩) (mPreWV hK hPm1 hW.1 (ci := 7) rfl) rfl rfl hl.1 rfl (lv_room (Nat.le_of_ble_eq_true rfl)) dL_law_1305 ⟨by show _ ≤ 694999; omega, by show _ ≤ 7011106; omega⟩) hDm hA hS1 (fun r6 Mm1 H2 locs2 hq6 hPm2 hDm2 hS2 hz2 hd2 hk2 => ?_)
  have hP2 := pm_frame hP1 hdj1.sy hk2
  have hdj2 := dj_after hP1 hdj1.sy hd2
  obtain ⟨hr6, hW6⟩ := hq6
  have hP9 := P_at hR hN hI hn (xs (4 * n + 1)).toInt
  rcases hw9 with ⟨v, Mh1, g1, hv, hMo1, rfl, hg0, hr⟩ | ⟨E9, k, g1, hpx, hmem, rfl, hr⟩
  · obtain ⟨hcd, hv9, rfl⟩ := hv
    obtain ⟨q1, q2, q3, q4, q5⟩ := hP9.1 hcd
    have hv6 : v = r6 := by
      rw [hr6, q2]
      exact hv9.trans (by first | rfl | exact nI_zI _)
    refine iw_tail C0 dL_law_1308 dL_law_1310 dL_law_1311 dL_law_1314 dL_law_1316 dL_law_1321 dL_law_1323 dL_law_1326 dL_law_1327 dL_law_1328 dL_law_1329 dL_law_1331 dL_law_1332 dL_law_1333 dL_law_1338 (by decide) hP2 (mset_self _ _ _) hPm2 hW6 q5 (by omega) (by omega) (Or.inl ⟨hr, q1, by rw [hg0, hv6]⟩) hl5 (fun ls hl => ?_)
    refine W.widen (k := 32 + 12 * (n + 1)) (n := 2000 + 120 * (n + 1)) (by omega) (by omega) ?_
    exact kk _ _ _ ⟨_, Mm1, g1, ad, _, _, _, B, P, _, _, E, ⟨hP2, hMo1, hPm2, hdj2, hD1, hDm2⟩, ⟨hH, hSH, rfl⟩, hW6, q3, q4, q5⟩ hS2 hl
  · obtain ⟨rfl, hcd⟩ := hpx
    obtain rfl := iw_tabO_O hmem
    obtain ⟨q1, q2, q3⟩ := hP9.2 hcd
    rw [q2, q3] at hW6
    refine iw_tail C0 dL_law_1308 dL_law_1310 dL_law_1311 dL_law_1314 dL_law_1316 dL_law_1321 dL_law_1323 dL_law_1326 dL_law_1327 dL_law_1328 dL_law_1329 dL_law_1331 dL_law_1332 dL_law_1333 dL_law_1338 (by decide) hP2 (mset_self _ _ _) hPm2 hW6 (hI.mono hn) (by omega) (by omega) (Or.inr ⟨1, hr, by decide, by decide, q1⟩) hl5 (fun ls hl => ?_)
    refine W.widen (k := 32 + 12 * (n + 1)) (n := 2000 + 120 * (n + 1)) (by omega) (by omega) ?_
    exact kk _ _ _ ⟨Mh, Mm1, g1, ad, _, i, f, B, P, cn, x, E, ⟨hP2, hMo, hPm2, hdj2, hD1, hDm2⟩, ⟨hH, hSH, rfl⟩, hW6, hR, hN.mono hn, hI.mono hn⟩ hS2 hl
