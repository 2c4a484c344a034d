section PV
variable {c : Nat → Nat} {x : Nat → Nat → Nat} {i : Nat → Nat} {f : Nat → Nat → Nat} {n : Nat}
theorem P_mark (hR : REL c x i f) (hN : NB n c x) (hI : MI n i f) (hn : n + 1 ≤ 512) (u w t : Int) : (((0 ≤ u ∧ u < 6) ∧ 0 ≤ w ∧ w < c 3) ∧ (0 ≤ t ∧ t ≤ 20) ∧ x 5 u.toNat = 0 ∧ hasC (x (1000 + 8 * w.toNat)) u.toNat (x 13 w.toNat) = false ∧ lackC (x (1001 + 8 * w.toNat)) (x 13 w.toNat) ≠ 0 → OUT (oMark u w t i f) n ((x 13 w.toNat + 1 : Nat) : Int) c (va_up (va_up (va_up x (1000 + 8 * w.toNat) (va_up (x (1000 + 8 * w.toNat)) (x 13 w.toNat) u.toNat)) (1001 + 8 * w.toNat) (va_up (x (1001 + 8 * w.toNat)) (x 13 w.toNat) t.toNat)) 13 (va_up (x 13) w.toNat (x 13 w.toNat + 1)))) ∧ (¬ ((0 ≤ u ∧ u < 6) ∧ 0 ≤ w ∧ w < c 3) → EXC (oMark u w t i f) 1 i f) ∧ (((0 ≤ u ∧ u < 6) ∧ 0 ≤ w ∧ w < c 3) ∧ ¬ (0 ≤ t ∧ t ≤ 20) → EXC (oMark u w t i f) 2 i f) ∧ (((0 ≤ u ∧ u < 6) ∧ 0 ≤ w ∧ w < c 3) ∧ (0 ≤ t ∧ t ≤ 20) ∧ ¬ (x 5 u.toNat = 0 ∧ hasC (x (1000 + 8 * w.toNat)) u.toNat (x 13 w.toNat) = false ∧ lackC (x (1001 + 8 * w.toNat)) (x 13 w.toNat) ≠ 0) → EXC (oMark u w t i f) 3 i f) := by
  obtain ⟨hc, hm, hp, hL, hb, hE, hP, hS, hZ⟩ := id hR
  have hc3 := hc.2.2.2
  have key : (0 ≤ u ∧ u < 6) ∧ 0 ≤ w ∧ w < c 3 → x 5 u.toNat = f 19 u.toNat ∧ x 13 w.toNat = f 18 w.toNat ∧ hasC (x (1000 + 8 * w.toNat)) u.toNat (x 13 w.toNat) = has f u.toNat w.toNat ∧ lackC (x (1001 + 8 * w.toNat)) (x 13 w.toNat) = (lackS f w.toNat : Int) := fun h => by
    obtain ⟨h1, h2⟩ := hS w.toNat (by omega)
    have h3 := h2.lack
    obtain ⟨a1, a2, a3, a4, a5, a6, a7, a8, a9⟩ := h2
    refine ⟨hE _ (by omega), a3, ?_, h3⟩
    rw [a3]
    exact hasC_S (fun j hj => (a5 j (by omega) hj).1)
  refine ⟨fun h => ?_, fun h => EXC.of (if_pos (by omega)), fun h => EXC.of ((if_neg (by omega)).trans (if_pos (by omega))), fun h => ?_⟩
  · obtain ⟨k1, k2, k3, k4⟩ := key h.1
    obtain ⟨h1, hu5, hh, hl⟩ := h.2
    rw [k3] at hh
    obtain ⟨-, a1, a2, a3, a4, a5, a6, a7, a8, a9⟩ := hS w.toNat (by omega)
    have hlt : f 18 w.toNat < 3 := by
      rcases Nat.lt_or_ge (f 18 w.toNat) 3 with h9 | h9
      · exact h9
      · exfalso
        apply hl
        rw [k4]
        unfold lackS
        rw [if_neg (by omega), if_neg (by omega)]
        rfl
    have hneg : ¬ (f 19 u.toNat ≠ 0 ∨ has f u.toNat w.toNat = true ∨ lackS f w.toNat = 0) := fun z => by
      rcases z with z | z | z
      · omega
      · rw [hh] at z; cases z
      · omega
    have b0 := xm_0 (n + 1) w.toNat
    have b1 := xm_1 (n + 1) w.toNat
    have hx := hN.2.2.2.2.2
    have hf := hI.2.2.2.2.2
    have bx0 : ∀ j, x (1000 + 8 * w.toNat) j ≤ 5 := fun j => Nat.le_trans (hx _ j) (Nat.le_of_eq (xm_0 n _))
    have bx1 : ∀ j, x (1001 + 8 * w.toNat) j ≤ 20 := fun j => Nat.le_trans (hx _ j) (Nat.le_of_eq (xm_1 n _))
    refine OUT.of ((if_neg (by omega)).trans ((if_neg (by omega)).trans (if_neg hneg))) rfl (by show ((f 18 w.toNat + 1 : Nat) : Int) = _; rw [k2]) ⟨hc, ?_, ?_, ?_, ?_, ?_, ?_, ?_, ?_⟩
      ((((hN.mono hn).up _ (fun j => by rw [b0]; exact up_le (g := x (1000 + 8 * w.toNat)) (b := 5) bx0 (by omega) j)).up _ (fun j => by rw [b1]; exact up_le (g := x (1001 + 8 * w.toNat)) (b := 20) bx1 (by omega) j)).up 13 (fun j => up_le (g := x 13) (b := 3) (fun j9 => hx 13 j9) (by omega) j))
      ((((hI.mono hn).row 16 _ (fun j => up_le (g := f 16) (b := 20) (fun j9 => hf 16 j9) (by omega) j)).row 17 _ (fun j => up_le (g := f 17) (b := 5) (fun j9 => hf 17 j9) (by omega) j)).row 18 _ (fun j => up_le (g := f 18) (b := 3) (fun j9 => hf 18 j9) (by omega) j))
    · simp (disch := omega) only [va_up_ne, va_up_self]; exact hm
    · simp (disch := omega) only [va_up_ne, va_up_self]; exact hp
    · intro k hk
      have h9 := hL k hk
      have hk9 : k < 10 := Nat.lt_of_lt_of_le hk hI.2.2.1
      unfold LR at h9 ⊢
      simp (disch := omega) only [va_up_ne]
      exact h9
    · simp (disch := omega) only [va_up_ne, va_up_self]; exact hb
    · simp (disch := omega) only [va_up_ne, va_up_self]; exact hE
    · intro k hk
      have h9 := hP k hk
      unfold bandP at h9 ⊢
      simp (disch := omega) only [va_up_ne]
      exact h9
    · intro s hs
      obtain ⟨h1, h2⟩ := hS s hs
      refine ⟨by simp (disch := omega) only [va_up_ne, va_up_self]; exact h1, ?_⟩
      have hsl := fun k hk => hR.sl (f' := va_up (va_up (va_up f 16 (va_up (f 16) (3 * w.toNat + f 18 w.toNat) t.toNat)) 17 (va_up (f 17) (3 * w.toNat + f 18 w.toNat) u.toNat)) 18 (va_up (f 18) w.toNat (f 18 w.toNat + 1))) hI hs (by simp (disch := omega) only [va_up_ne]) (by simp (disch := omega) only [va_up_ne]) (by simp (disch := omega) only [va_up_ne]) (by simp (disch := omega) only [va_up_ne]) (by simp (disch := omega) only [va_up_ne]) (by simp (disch := omega) only [va_up_ne]) k hk
      by_cases es : s = w.toNat
      · subst es
        refine ⟨?_, ?_, ?_, ?_, ?_, ?_, ?_, fun k hk => ?_, ?_⟩
        · simp (disch := omega) only [va_up_ne, va_up_self]; exact a1
        · simp (disch := omega) only [va_up_ne, va_up_self]; exact a2
        · simp (disch := omega) only [va_up_ne, va_up_self]; rw [a3]
        · simp (disch := omega) only [va_up_ne, va_up_self]; omega
        · intro j hj hj2
          simp (disch := omega) only [va_up_ne, va_up_self] at hj2 ⊢
          rw [a3]
          by_cases ej : j = f 18 w.toNat
          · rw [ej]
            simp (disch := omega) only [va_up_self]
            exact ⟨trivial, trivial⟩
          · simp (disch := omega) only [va_up_ne]
            exact a5 j hj (by omega)
        · intro h3
          simp (disch := omega) only [va_up_ne, va_up_self] at h3 ⊢
          have e2 : f 18 w.toNat = 2 := by omega
          rw [k4] at hl
          unfold lackS at hl
          rw [if_neg (by omega)] at hl
          simp (disch := omega) only [va_up_ne]
          exact Classical.byContradiction fun z => by
            rw [if_neg (by omega)] at hl
            exact hl rfl
        · simp (disch := omega) only [va_up_ne, va_up_self]; exact a7
        · rw [hsl k hk]; simp (disch := omega) only [va_up_ne, va_up_self]; exact a8 k hk
        · rw [hsl 3 (by decide)]; simp (disch := omega) only [va_up_ne, va_up_self]; exact a9
      · refine SR.same h2 ?_ ?_ ?_ ?_ ?_ ?_ ?_ ?_ ?_ ?_ ?_ ?_ ?_ ?_ ?_ hsl
        all_goals first | (intro j hj; simp (disch := omega) only [va_up_ne, va_up_self]; done) | (simp (disch := omega) only [va_up_ne, va_up_self]; done) | rfl
    · intro k hk
      have hk : i 10 ≤ k := hk
      have h9 := hZ k hk
      refine ⟨?_, ?_, fun j hj => ?_⟩
      · simp (disch := omega) only [va_up_ne, va_up_self]; exact h9.1
      · simp (disch := omega) only [va_up_ne, va_up_self]; exact h9.2.1
      · simp (disch := omega) only [va_up_ne, va_up_self]; exact h9.2.2 j hj
  · obtain ⟨k1, k2, k3, k4⟩ := key h.1
    obtain ⟨h1, h2⟩ := h.2
    refine EXC.of ((if_neg (by omega)).trans ((if_neg (by omega)).trans (if_pos (Classical.byContradiction fun z => h2 ⟨?_, ?_, ?_⟩))))
    · exact Classical.byContradiction fun z2 => z (Or.inl (by omega))
    · rw [k3]
      cases hh : has f u.toNat w.toNat with
      | false => rfl
      | true => exact absurd (Or.inr (Or.inl hh)) z
    · intro z2
      exact z (Or.inr (Or.inr (by omega)))
theorem dropA_off (f : Nat → Nat → Nat) (e s : Nat) : ∀ n q : Nat, (q < 3 * s ∨ 3 * s + n ≤ q) → (dropA f e s n).2.1 q = f 16 q ∧ (dropA f e s n).2.2 q = f 17 q
  | 0, q, _ => ⟨rfl, rfl⟩
  | n + 1, q, h => by
    have ih := dropA_off f e s n q (by omega)
    have hle := dropA_le f e s n
    have e1 : dropA f e s (n + 1) = if (dropA f e s n).2.2 (3 * s + n) = e then dropA f e s n else ((dropA f e s n).1 + 1, va_up (dropA f e s n).2.1 (3 * s + (dropA f e s n).1) ((dropA f e s n).2.1 (3 * s + n)), va_up (dropA f e s n).2.2 (3 * s + (dropA f e s n).1) ((dropA f e s n).2.2 (3 * s + n))) := rfl
    rw [e1]
    split
    · exact ih
    · show va_up _ _ _ q = _ ∧ va_up _ _ _ q = _
      rw [va_up_ne _ _ (by omega), va_up_ne _ _ (by omega)]
      exact ih
theorem dropA_all (f : Nat → Nat → Nat) (e s : Nat) : ∀ n : Nat, (dropA f e s n).1 = n → ∀ q : Nat, (dropA f e s n).2.1 q = f 16 q
  | 0, _, q => rfl
  | n + 1, h, q => by
    have hle := dropA_le f e s n
    have e1 : dropA f e s (n + 1) = if (dropA f e s n).2.2 (3 * s + n) = e then dropA f e s n else ((dropA f e s n).1 + 1, va_up (dropA f e s n).2.1 (3 * s + (dropA f e s n).1) ((dropA f e s n).2.1 (3 * s + n)), va_up (dropA f e s n).2.2 (3 * s + (dropA f e s n).1) ((dropA f e s n).2.2 (3 * s + n))) := rfl
    rw [e1] at h ⊢
    by_cases h1 : (dropA f e s n).2.2 (3 * s + n) = e
    · rw [if_pos h1] at h; omega
    · rw [if_neg h1] at h ⊢
      have h : (dropA f e s n).1 + 1 = n + 1 := h
      have h2 : (dropA f e s n).1 = n := by omega
      have ih := dropA_all f e s n h2
      show va_up _ _ _ q = _
      rw [h2]
      by_cases eq : q = 3 * s + n
      · rw [eq, va_up_self]; exact ih _
      · rw [va_up_ne _ _ eq]; exact ih q
theorem SR.drop {s : Nat} (h : SR x f s) (e : Nat) (hsl : ∀ k, k < 5 → slipsK (dropF f e s) s k = slipsK f s k) : SR (tkX x e s) (dropF f e s) s := by
  obtain ⟨a1, a2, a3, a4, a5, a6, a7, a8, a9⟩ := h
  obtain ⟨r1, r2, r3⟩ := remA_S (q := x (1000 + 8 * s)) (v := x (1001 + 8 * s)) (f := f) (e := e) (s := s) (N := f 18 s) (fun j hj => (a5 j (by omega) hj).1) (fun j hj => (a5 j (by omega) hj).2) (f 18 s) (Nat.le_refl _)
  have d18 : dropF f e s 18 s = (dropA f e s (f 18 s)).1 := by unfold dropF; simp (disch := omega) only [va_up_ne, va_up_self]
  have d17 : dropF f e s 17 = (dropA f e s (f 18 s)).2.2 := by unfold dropF; simp (disch := omega) only [va_up_ne, va_up_self]
  have d16 : dropF f e s 16 = (dropA f e s (f 18 s)).2.1 := by unfold dropF; simp (disch := omega) only [va_up_ne, va_up_self]
  have dne : ∀ k, k ≠ 16 → k ≠ 17 → k ≠ 18 → dropF f e s k = f k := fun k h1 h2 h3 => by unfold dropF; simp (disch := omega) only [va_up_ne]
  refine ⟨?_, ?_, ?_, ?_, fun j hj hj2 => ?_, fun h3 => ?_, ?_, fun k hk => ?_, ?_⟩
  · unfold tkX; rw [dne 6 (by decide) (by decide) (by decide), dne 13 (by decide) (by decide) (by decide)]; simp (disch := omega) only [va_up_ne, va_up_self]; exact a1
  · unfold tkX; rw [dne 20 (by decide) (by decide) (by decide)]; simp (disch := omega) only [va_up_ne, va_up_self]; exact a2
  · unfold tkX tkM; rw [d18]; simp (disch := omega) only [va_up_ne, va_up_self]; rw [a3]; exact r1
  · rw [d18]; omega
  · rw [d18] at hj2
    have h9 := r3 j (by omega)
    rw [d17, d16]
    unfold tkX tkM
    simp (disch := omega) only [va_up_ne, va_up_self]
    rw [a3]
    exact h9
  · rw [d18] at h3
    have hN : f 18 s = 3 := by omega
    have hall := dropA_all f e s (f 18 s) (by omega)
    rw [d16, hall, hall]
    exact a6 hN
  · unfold tkX; rw [dne 21 (by decide) (by decide) (by decide)]; simp (disch := omega) only [va_up_ne, va_up_self]; exact a7
  · rw [hsl k hk]; unfold tkX; simp (disch := omega) only [va_up_ne, va_up_self]; exact a8 k hk
  · rw [hsl 3 (by decide)]; unfold tkX; simp (disch := omega) only [va_up_ne, va_up_self]; exact a9
theorem SR.drop_ne {s s' : Nat} (h : SR x f s') (hne : s' ≠ s) (h3 : f 18 s ≤ 3) (e : Nat) (hsl : ∀ k, k < 5 → slipsK (dropF f e s) s' k = slipsK f s' k) : SR (tkX x e s) (dropF f e s) s' := by
  have d17 : dropF f e s 17 = (dropA f e s (f 18 s)).2.2 := by unfold dropF; simp (disch := omega) only [va_up_ne, va_up_self]
  have d16 : dropF f e s 16 = (dropA f e s (f 18 s)).2.1 := by unfold dropF; simp (disch := omega) only [va_up_ne, va_up_self]
  have dne : ∀ k, k ≠ 16 → k ≠ 17 → k ≠ 18 → dropF f e s k = f k := fun k h1 h2 h3 => by unfold dropF; simp (disch := omega) only [va_up_ne]
  refine SR.same h ?_ ?_ ?_ ?_ ?_ ?_ ?_ ?_ ?_ ?_ ?_ ?_ ?_ ?_ ?_ hsl
  any_goals (unfold tkX; simp (disch := omega) only [va_up_ne, va_up_self]; done)
  · rw [dne 6 (by decide) (by decide) (by decide), dne 13 (by decide) (by decide) (by decide)]
  · rw [dne 20 (by decide) (by decide) (by decide)]
  · unfold dropF; simp (disch := omega) only [va_up_ne, va_up_self]
  · intro j hj; rw [d17]; exact (dropA_off f e s _ _ (by omega)).2
  · intro j hj; rw [d16]; exact (dropA_off f e s _ _ (by omega)).1
  · intro j hj; rw [dne 21 (by decide) (by decide) (by decide)]
/-- takeOut's loop, side by side -/
theorem tk_out (hR : REL c x i f) (hI : MI n i f) (e : Nat) : ∀ m : Nat, m ≤ i 10 → (tkA x e m).1 = (outA f e m).1 ∧ (∀ k, k ≠ 13 → k < 1000 → (tkA x e m).2 k = x k) ∧ (∀ k, k ≠ 16 → k ≠ 17 → k ≠ 18 → (outA f e m).2 k = f k) ∧ (∀ s, s < i 10 → SR (tkA x e m).2 (outA f e m).2 s) ∧ ∀ s, i 10 ≤ s → (outA f e m).2 18 s = f 18 s
  | 0, _ => ⟨rfl, fun _ _ _ => rfl, fun _ _ _ _ => rfl, fun s hs => (hR.2.2.2.2.2.2.2.1 s hs).2, fun _ _ => rfl⟩
  | m + 1, hm => by
    obtain ⟨h1, h2, h3, h4, h5⟩ := tk_out hR hI e m (by omega)
    have hm9 : m < i 10 := by omega
    have dne : ∀ k, k ≠ 16 → k ≠ 17 → k ≠ 18 → dropF (outA f e m).2 e m k = f k := fun k k1 k2 k3 => by
      rw [← h3 k k1 k2 k3]
      unfold dropF
      simp (disch := omega) only [va_up_ne]
    have hsl : ∀ s, s < i 10 → ∀ k, k < 5 → slipsK (dropF (outA f e m).2 e m) s k = slipsK (outA f e m).2 s k := fun s hs k hk => by
      rw [hR.sl hI hs (dne 14 (by decide) (by decide) (by decide)) (dne 12 (by decide) (by decide) (by decide)) (dne 15 (by decide) (by decide) (by decide)) (dne 4 (by decide) (by decide) (by decide)) (dne 3 (by decide) (by decide) (by decide)) (dne 11 (by decide) (by decide) (by decide)) k hk,
        hR.sl hI hs (h3 14 (by decide) (by decide) (by decide)) (h3 12 (by decide) (by decide) (by decide)) (h3 15 (by decide) (by decide) (by decide)) (h3 4 (by decide) (by decide) (by decide)) (h3 3 (by decide) (by decide) (by decide)) (h3 11 (by decide) (by decide) (by decide)) k hk]
    have hd := (h4 m hm9).drop e (hsl m hm9)
    have h18 : (outA f e m).2 18 m ≤ 3 := (h4 m hm9).2.2.2.1
    have eg := hd.gr
    have eg0 := (h4 m hm9).gr
    have ex : (tkA x e (m + 1)) = ((tkA x e m).1 + b2 (decide (gradeC (tkM (tkA x e m).2 e m).2.2 (tkM (tkA x e m).2 e m).1 ≠ gradeC ((tkA x e m).2 (1001 + 8 * m)) ((tkA x e m).2 13 m))), tkX (tkA x e m).2 e m) := rfl
    have eo : (outA f e (m + 1)) = ((outA f e m).1 + b2 (decide (gradeS (dropF (outA f e m).2 e m) m ≠ gradeS (outA f e m).2 m)), dropF (outA f e m).2 e m) := rfl
    have et : gradeC (tkM (tkA x e m).2 e m).2.2 (tkM (tkA x e m).2 e m).1 = gradeS (dropF (outA f e m).2 e m) m := by
      rw [← eg]
      unfold tkX
      simp (disch := omega) only [va_up_ne, va_up_self]
    rw [ex, eo]
    refine ⟨?_, fun k k1 k2 => ?_, dne, fun s hs => ?_, fun s hs => ?_⟩
    · show _ + _ = _ + _
      rw [et, eg0, h1]
    · show tkX _ _ _ k = _
      rw [← h2 k k1 k2]
      unfold tkX
      simp (disch := omega) only [va_up_ne]
    · by_cases es : s = m
      · rw [es]; exact hd
      · exact (h4 s hs).drop_ne es h18 e (hsl s hs)
    · show dropF _ _ _ 18 s = _
      rw [← h5 s hs]
      unfold dropF
      simp (disch := omega) only [va_up_ne, va_up_self]
theorem P_takeOut (hR : REL c x i f) (hN : NB n c x) (hI : MI n i f) (hn : n + 1 ≤ 512) (u : Int) : ((0 ≤ u ∧ u < 6) ∧ x 5 u.toNat = 0 → OUT (oTakeOut u i f) n ((tkA (va_up x 5 (va_up (x 5) u.toNat 1)) u.toNat (c 3)).1 : Nat) c (tkA (va_up x 5 (va_up (x 5) u.toNat 1)) u.toNat (c 3)).2) ∧ (¬ (0 ≤ u ∧ u < 6) → EXC (oTakeOut u i f) 1 i f) ∧ ((0 ≤ u ∧ u < 6) ∧ ¬ x 5 u.toNat = 0 → EXC (oTakeOut u i f) 2 i f) := by
  obtain ⟨hc, hm, hp, hL, hb, hE, hP, hS, hZ⟩ := id hR
  have key : 0 ≤ u ∧ u < 6 → x 5 u.toNat = f 19 u.toNat := fun h => hE _ (by omega)
  refine ⟨fun h => ?_, fun h => EXC.of (if_pos (by omega)), fun h => by have := key h.1; exact EXC.of ((if_neg (by omega)).trans (if_pos (by omega)))⟩
  have k1 := key h.1
  have hI2 : MI n i (va_up f 19 (va_up (f 19) u.toNat 1)) := hI.row 19 _ (fun j => up_le (g := f 19) (b := 1) (fun j9 => hI.2.2.2.2.2 19 j9) (Nat.le_refl 1) j)
  have hR2 : REL c (va_up x 5 (va_up (x 5) u.toNat 1)) i (va_up f 19 (va_up (f 19) u.toNat 1)) := by
    refine ⟨hc, ?_, ?_, ?_, ?_, ?_, ?_, ?_, ?_⟩
    · simp (disch := omega) only [va_up_ne, va_up_self]; exact hm
    · simp (disch := omega) only [va_up_ne, va_up_self]; exact hp
    · intro k hk
      have h9 := hL k hk
      unfold LR at h9 ⊢
      simp (disch := omega) only [va_up_ne]
      exact h9
    · simp (disch := omega) only [va_up_ne, va_up_self]; exact hb
    · intro k hk
      simp only [va_up_self]
      by_cases ek : k = u.toNat
      · rw [ek, va_up_self, va_up_self]
      · rw [va_up_ne _ _ ek, va_up_ne _ _ ek]; exact hE k hk
    · intro k hk
      have h9 := hP k hk
      unfold bandP at h9 ⊢
      simp (disch := omega) only [va_up_ne]
      exact h9
    · intro s hs
      obtain ⟨h1, h2⟩ := hS s hs
      refine ⟨by simp (disch := omega) only [va_up_ne, va_up_self]; exact h1, SR.same h2 ?_ ?_ ?_ ?_ ?_ ?_ ?_ ?_ ?_ ?_ ?_ ?_ ?_ ?_ ?_ (fun k hk => hR.sl hI hs ?_ ?_ ?_ ?_ ?_ ?_ k hk)⟩
      all_goals first | (intro j hj; simp (disch := omega) only [va_up_ne, va_up_self]; done) | (simp (disch := omega) only [va_up_ne, va_up_self]; done) | rfl
    · intro k hk
      simp (disch := omega) only [va_up_ne, va_up_self]
      exact hZ k hk
  have hN2 : NB n c (va_up x 5 (va_up (x 5) u.toNat 1)) := hN.up 5 (fun j => up_le (g := x 5) (b := 1) (fun j9 => hN.2.2.2.2.2 5 j9) (Nat.le_refl 1) j)
  obtain ⟨x9, hx9⟩ : ∃ x9, x9 = va_up x 5 (va_up (x 5) u.toNat 1) := ⟨_, rfl⟩
  obtain ⟨f9, hf9⟩ : ∃ f9, f9 = va_up f 19 (va_up (f 19) u.toNat 1) := ⟨_, rfl⟩
  rw [← hx9] at hR2 hN2 ⊢
  rw [← hf9] at hR2 hI2
  obtain ⟨t1, t2, t3, t4, t5⟩ := tk_out hR2 hI2 u.toNat (i 10) (Nat.le_refl _)
  refine OUT.of ((if_neg (by omega)).trans (if_neg (by omega))) rfl ?_ ?_ ((hN2.tkA u.toNat (c 3)).mono hn) ?_
  · show ((outA _ _ _).1 : Int) = _
    rw [← hf9, hc.2.2.2, t1]
  · show REL c _ i (outA _ _ _).2
    rw [← hf9, hc.2.2.2]
    obtain ⟨hc, hm, hp, hL, hb, hE, hP, hS, hZ⟩ := hR2
    refine ⟨hc, ?_, ?_, ?_, ?_, ?_, ?_, ?_, ?_⟩
    · rw [t2 1 (by decide) (by decide)]; exact hm
    · rw [t2 2 (by decide) (by decide), t3 0 (by decide) (by decide) (by decide)]; exact hp
    · intro k hk
      have hk9 : k < 10 := Nat.lt_of_lt_of_le hk hI.2.2.1
      have h9 := hL k hk
      unfold LR at h9 ⊢
      rw [t2 6 (by decide) (by decide), t2 (400 + k) (by omega) (by omega), t3 3 (by decide) (by decide) (by decide), t3 4 (by decide) (by decide) (by decide)]
      exact h9
    · rw [t2 3 (by decide) (by decide), t2 4 (by decide) (by decide), t3 9 (by decide) (by decide) (by decide)]; exact hb
    · rw [t2 5 (by decide) (by decide), t3 19 (by decide) (by decide) (by decide)]; exact hE
    · intro k hk
      have h9 := hP k hk
      unfold bandP at h9 ⊢
      rw [t2 7 (by decide) (by decide), t2 8 (by decide) (by decide), t2 9 (by decide) (by decide), t3 6 (by decide) (by decide) (by decide), t3 7 (by decide) (by decide) (by decide), t3 8 (by decide) (by decide) (by decide)]
      exact h9
    · intro s hs
      refine ⟨?_, t4 s hs⟩
      rw [t3 14 (by decide) (by decide) (by decide), t3 13 (by decide) (by decide) (by decide)]
      exact (hS s hs).1
    · intro s hs
      have h9 := hZ s hs
      rw [t5 s hs, t3 20 (by decide) (by decide) (by decide), t3 21 (by decide) (by decide) (by decide)]
      exact h9
  · show MI (n + 1) i (outA _ _ _).2
    rw [← hf9]
    exact (hI2.out u.toNat (i 10)).mono hn
end PV
