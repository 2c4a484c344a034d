theorem iwS.more {D : va_G} {cy : Nat → ClassId} {de : Nat} {s : State} {n a h o : Nat} {H : Heap} (hL : iwS D cy de s n a h o H) (hn : n + 1 ≤ 512) : iwS D cy de s (n + 1) a h o H := by
  obtain ⟨Mh, Mm, g, ad, t, i, f, B, P, cn, x, E, h1, h2, hW, hR, hN, hI⟩ := hL
  exact ⟨Mh, Mm, g, ad, t, i, f, B, P, cn, x, E, h1, h2, hW, hR, hN.mono hn, hI.mono hn⟩
set_option maxRecDepth 100000 in
set_option maxHeartbeats 4000000 in
theorem iw_loop {p : Program} {l : Launch} {e : Env} {s : State} {m : MethodId} {below : List Frame} {meth : Method} {c : Code} {b L a h o : Nat} {xs : Nat → Int32} {D : va_G} {cy : Nat → ClassId} {de mi : Nat} (C0 : iwC p l s m c b L xs D cy de mi) (hret : meth.sig.returnType = ret) (hlocks : meth.locks = false) (hL : L ≤ 2048) : ∀ (k n : Nat), n ≤ 512 → 513 ≤ n + k → ∀ (H : Heap) (locs : List Loc) (ls : Array Slot), iwS D cy de s n a h o H → va_S (iwA s) s.heap H locs → lv_has ls 7 (iwF b a h o (4 * n)) → W p l e room_1 s m #[Value.ref b] below meth c H locs (32 + 12 * n) (2000 + 120 * n) (lw_Z below #[Value.ref b] s) (F0 m 23 ls [])
  | 0, n, hn, hk => absurd hk (by omega)
  | k + 1, n, hn, hk => by
    intro H locs ls hLS hS hl
    obtain ⟨hx, hb, hml, hown, hts, hXs, hbl, hK, hX, hNN, hst⟩ := id C0
    have hbA : ¬ iwA s b := Nat.not_le.mpr hbl
    refine lv_iload hx hb dL_law_23 (lv_at hl 0 rfl) ?_
    refine lv_aload_n hx hb dL_law_25 rfl (lv_at hl 1 rfl) ?_
    refine va_slen hx hb hXs hbl hbA hS dL_law_26 ?_
    refine lv_iconst (v := nI 4) hx hb dL_law_27 (by decide) ?_
    refine z_sub (u := (L : Int)) (v := 4) hx hb (nI_zI L) (by decide) dL_law_28 ?_
    refine z_icmp_gt (u := ((4 * n : Nat) : Int)) (v := (L : Int) - 4) (tgt := 1347) hx hb (nI_toInt (by omega)) (zI_toInt (by omega) (by omega)) dL_law_29 (by decide) (fun _ => ?_) (fun hc => ?_)
    · refine lv_iconst (v := 1) hx hb dL_law_1347 (by decide) ?_
      refine va_forget (fun q hq => hS.2.2 q hq) ?_
      refine W.widen (k := 694999) (n := 7011106) (by omega) (by omega) ?_
      exact lw_ret hx hb hret hlocks dL_law_1348
    · have h4 : 4 * n + 4 ≤ L := by omega
      refine lv_aload_n hx hb dL_law_32 rfl (lv_at hl 1 rfl) ?_
      refine lv_iload hx hb dL_law_33 (lv_at hl 0 rfl) ?_
      refine va_sld hx hb hXs hbl hbA hS (vp_in_nI (by omega) (by omega)) dL_law_35 ?_
      refine lv_bipush (v := nI 31) hx hb dL_law_36 (by decide) ?_
      refine lv_iand hx hb dL_law_38 ?_
      obtain ⟨v, hv⟩ : ∃ v : Int32, v = (xs (nI (4 * n)).toNatClampNeg &&& nI 31) := ⟨_, rfl⟩
      rw [← hv]
      have K : ∀ (H : Heap) (locs : List Loc) (ls : Array Slot), iwS D cy de s (n + 1) a h o H → va_S (iwA s) s.heap H locs → lv_has ls 7 (iwF b a h o (4 * n)) → W p l e room_1 s m #[Value.ref b] below meth c H locs (32 + 12 * (n + 1)) (2000 + 120 * (n + 1)) (lw_Z below #[Value.ref b] s) (F0 m 1341 ls []) := fun H locs ls hLS hS hl => by
        refine n_iinc (x := 4 * n) (k := 4) (lv' := iwF b a h o (4 * n + 4)) hx hb dL_law_1341 rfl hl (q := 0) rfl (by decide) rfl (fun ls hl => ?_)
        refine lv_goto (tgt := 23) hx hb dL_law_1344 (by decide) ?_
        exact iw_loop C0 hret hlocks hL k (n + 1) (by omega) (by omega) H locs ls hLS hS (by rw [show 4 * (n + 1) = 4 * n + 4 by omega]; exact hl)
      by_cases hr : v.toInt < 0 ∨ 18 < v.toInt
      · refine lv_tableOut (tgt := 1341) hx hb dL_law_39 hr (by decide) ?_
        refine W.widen (k := 32 + 12 * (n + 1)) (n := 2000 + 120 * (n + 1)) (by omega) (by omega) ?_
        exact K H locs ls (hLS.more (by omega)) hS hl
      · rcases (show v.toInt = 0 ∨ v.toInt = 1 ∨ v.toInt = 2 ∨ v.toInt = 3 ∨ v.toInt = 4 ∨ v.toInt = 5 ∨ v.toInt = 6 ∨ v.toInt = 7 ∨ v.toInt = 8 ∨ v.toInt = 9 ∨ v.toInt = 10 ∨ v.toInt = 11 ∨ v.toInt = 12 ∨ v.toInt = 13 ∨ v.toInt = 14 ∨ v.toInt = 15 ∨ v.toInt = 16 ∨ v.toInt = 17 ∨ v.toInt = 18 by omega) with h0 | h0 | h0 | h0 | h0 | h0 | h0 | h0 | h0 | h0 | h0 | h0 | h0 | h0 | h0 | h0 | h0 | h0 | h0
        · refine lv_tableIn (off := 89) (tgt := 128) hx hb dL_law_39 (by omega) (by omega) (by rw [h0]; rfl) (by decide) ?_
          exact iw_stroke C0 h4 hL hLS hS hl K
        · refine lv_tableIn (off := 157) (tgt := 196) hx hb dL_law_39 (by omega) (by omega) (by rw [h0]; rfl) (by decide) ?_
          exact iw_lift C0 h4 hL hLS hS hl K
        · refine lv_tableIn (off := 170) (tgt := 209) hx hb dL_law_39 (by omega) (by omega) (by rw [h0]; rfl) (by decide) ?_
          exact iw_letter C0 h4 hL hLS hS hl K
        · refine lv_tableIn (off := 214) (tgt := 253) hx hb dL_law_39 (by omega) (by omega) (by rw [h0]; rfl) (by decide) ?_
          exact iw_strokeOf C0 h4 hL hLS hS hl K
        · refine lv_tableIn (off := 282) (tgt := 321) hx hb dL_law_39 (by omega) (by omega) (by rw [h0]; rfl) (by decide) ?_
          exact iw_pupil C0 h4 hL hLS hS hl K
        · refine lv_tableIn (off := 378) (tgt := 417) hx hb dL_law_39 (by omega) (by omega) (by rw [h0]; rfl) (by decide) ?_
          exact iw_print C0 h4 hL hLS hS hl K
        · refine lv_tableIn (off := 474) (tgt := 513) hx hb dL_law_39 (by omega) (by omega) (by rw [h0]; rfl) (by decide) ?_
          exact iw_sheets C0 h4 hL hLS hS hl K
        · refine lv_tableIn (off := 558) (tgt := 597) hx hb dL_law_39 (by omega) (by omega) (by rw [h0]; rfl) (by decide) ?_
          exact iw_write C0 h4 hL hLS hS hl K
        · refine lv_tableIn (off := 626) (tgt := 665) hx hb dL_law_39 (by omega) (by omega) (by rw [h0]; rfl) (by decide) ?_
          exact iw_slips C0 h4 hL hLS hS hl K
        · refine lv_tableIn (off := 694) (tgt := 733) hx hb dL_law_39 (by omega) (by omega) (by rw [h0]; rfl) (by decide) ?_
          exact iw_orderAnew C0 h4 hL hLS hS hl K
        · refine lv_tableIn (off := 750) (tgt := 789) hx hb dL_law_39 (by omega) (by omega) (by rw [h0]; rfl) (by decide) ?_
          exact iw_mark C0 h4 hL hLS hS hl K
        · refine lv_tableIn (off := 830) (tgt := 869) hx hb dL_law_39 (by omega) (by omega) (by rw [h0]; rfl) (by decide) ?_
          exact iw_grade C0 h4 hL hLS hS hl K
        · refine lv_tableIn (off := 886) (tgt := 925) hx hb dL_law_39 (by omega) (by omega) (by rw [h0]; rfl) (by decide) ?_
          exact iw_lacks C0 h4 hL hLS hS hl K
        · refine lv_tableIn (off := 942) (tgt := 981) hx hb dL_law_39 (by omega) (by omega) (by rw [h0]; rfl) (by decide) ?_
          exact iw_takeOut C0 h4 hL hLS hS hl K
        · refine lv_tableIn (off := 998) (tgt := 1037) hx hb dL_law_39 (by omega) (by omega) (by rw [h0]; rfl) (by decide) ?_
          exact iw_show C0 h4 hL hLS hS hl K
        · refine lv_tableIn (off := 1054) (tgt := 1093) hx hb dL_law_39 (by omega) (by omega) (by rw [h0]; rfl) (by decide) ?_
          exact iw_vote C0 h4 hL hLS hS hl K
        · refine lv_tableIn (off := 1134) (tgt := 1173) hx hb dL_law_39 (by omega) (by omega) (by rw [h0]; rfl) (by decide) ?_
          exact iw_worth C0 h4 hL hLS hS hl K
        · refine lv_tableIn (off := 1190) (tgt := 1229) hx hb dL_law_39 (by omega) (by omega) (by rw [h0]; rfl) (by decide) ?_
          exact iw_place C0 h4 hL hLS hS hl K
        · refine lv_tableIn (off := 1246) (tgt := 1285) hx hb dL_law_39 (by omega) (by omega) (by rw [h0]; rfl) (by decide) ?_
          exact iw_at C0 h4 hL hLS hS hl K
