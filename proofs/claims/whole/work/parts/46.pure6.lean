/-! calls that change something -/
section PW
variable {c : Nat → Nat} {x : Nat → Nat → Nat} {i : Nat → Nat} {f : Nat → Nat → Nat} {n : Nat}
theorem MI.cnt {i' : Nat → Nat} (h : MI n i f) (h1 : i' 1 ≤ 8) (h2 : i' 2 ≤ 10) (h5 : i' 5 ≤ 20) (h10 : i' 10 ≤ 40) : MI n i' f := ⟨h.1, h1, h2, h5, h10, h.2.2.2.2.2⟩
theorem NB.cnt {c' : Nat → Nat} (h : NB n c x) (h0 : c' 0 ≤ 8) (h1 : c' 1 ≤ 10) (h2 : c' 2 ≤ 20) (h3 : c' 3 ≤ 40) : NB n c' x := ⟨h.1, h0, h1, h2, h3, h.2.2.2.2.2⟩
theorem OUT.of {o o' : mO} {v : Int} {c' : Nat → Nat} {x' : Nat → Nat → Nat} (ho : o = o') (h1 : o'.1 = 0) (h2 : o'.2.1 = v) (h3 : REL c' x' o'.2.2.1 o'.2.2.2) (h4 : NB (n + 1) c' x') (h5 : MI (n + 1) o'.2.2.1 o'.2.2.2) : OUT o n v c' x' := by
  subst ho
  exact ⟨h1, h2, h3, h4, h5⟩
theorem EXC.of {o : mO} {k : Nat} {v : Int} (ho : o = (k, v, i, f)) : EXC o k i f := by
  subst ho
  exact ⟨rfl, rfl, rfl⟩
theorem P_lift (hR : REL c x i f) (hN : NB n c x) (hI : MI n i f) (hn : n + 1 ≤ 512) : OUT (oLift i f) n (c 0 : Int) (va_up c 0 0) x := by
  obtain ⟨hc, hm, hp, hL, hb, hE, hP, hS, hZ⟩ := id hR
  refine OUT.of (o' := (0, (i 1 : Int), va_up i 1 0, f)) rfl rfl (by show ((i 1 : Nat) : Int) = _; rw [hc.1]) ⟨?_, ?_, ?_, ?_, hb, hE, ?_, ?_, ?_⟩ ((hN.mono hn).cnt ?_ ?_ ?_ ?_) ((hI.mono hn).cnt ?_ ?_ ?_ ?_)
  · simp (disch := omega) only [va_up_ne, va_up_self]; exact ⟨trivial, hc.2⟩
  · simp (disch := omega) only [va_up_ne, va_up_self]; exact hm
  · intro k hk; simp (disch := omega) only [va_up_ne, va_up_self] at hk ⊢; exact absurd hk (Nat.not_lt_zero k)
  · intro k hk; simp (disch := omega) only [va_up_ne, va_up_self] at hk ⊢; exact hL k hk
  · intro k hk; simp (disch := omega) only [va_up_ne, va_up_self] at hk ⊢; exact hP k hk
  · intro k hk; simp (disch := omega) only [va_up_ne, va_up_self] at hk ⊢; exact hS k hk
  · intro k hk; simp (disch := omega) only [va_up_ne, va_up_self] at hk ⊢; exact hZ k hk
  all_goals simp (disch := omega) only [va_up_ne, va_up_self]
  all_goals first | exact Nat.zero_le _ | exact hN.2.2.1 | exact hN.2.2.2.1 | exact hN.2.2.2.2.1 | exact hI.2.2.1 | exact hI.2.2.2.1 | exact hI.2.2.2.2.1
theorem P_stroke (hR : REL c x i f) (hN : NB n c x) (hI : MI n i f) (hn : n + 1 ≤ 512) (u w : Int) : (((0 ≤ u ∧ u < 9) ∧ (0 ≤ w ∧ w < 9)) ∧ u ≠ w ∧ c 0 < 8 → OUT (oStroke u w i f) n ((c 0 + 1 : Nat) : Int) (va_up c 0 (c 0 + 1)) (va_up x 2 (va_up (x 2) (c 0) (10 * u.toNat + w.toNat)))) ∧ (¬ ((0 ≤ u ∧ u < 9) ∧ (0 ≤ w ∧ w < 9)) → EXC (oStroke u w i f) 1 i f) ∧ (((0 ≤ u ∧ u < 9) ∧ (0 ≤ w ∧ w < 9)) ∧ u = w → EXC (oStroke u w i f) 2 i f) ∧ (((0 ≤ u ∧ u < 9) ∧ (0 ≤ w ∧ w < 9)) ∧ u ≠ w ∧ ¬ c 0 < 8 → EXC (oStroke u w i f) 3 i f) := by
  obtain ⟨hc, hm, hp, hL, hb, hE, hP, hS, hZ⟩ := id hR
  have hi1 := hI.2.1
  refine ⟨fun h => ?_, fun h => EXC.of (if_pos (by omega)), fun h => EXC.of ((if_neg (by omega)).trans (if_pos (by omega))), fun h => EXC.of ((if_neg (by omega)).trans ((if_neg (by omega)).trans (if_pos (by omega))))⟩
  have hv : 10 * u.toNat + w.toNat ≤ 88 := by omega
  refine OUT.of ((if_neg (by omega)).trans ((if_neg (by omega)).trans (if_neg (by omega)))) rfl (by show ((i 1 + 1 : Nat) : Int) = _; rw [hc.1]) ⟨?_, ?_, ?_, ?_, ?_, ?_, ?_, ?_, ?_⟩ (((hN.mono hn).up 2 (fun j => up_le (g := x 2) (b := 88) (fun j9 => hN.2.2.2.2.2 2 j9) hv j)).cnt ?_ ?_ ?_ ?_) (((hI.mono hn).row 0 _ (fun j => up_le (g := f 0) (b := 88) (fun j9 => hI.2.2.2.2.2 0 j9) hv j)).cnt ?_ ?_ ?_ ?_)
  · simp (disch := omega) only [va_up_ne, va_up_self]; exact ⟨by omega, hc.2⟩
  · simp (disch := omega) only [va_up_ne, va_up_self]; exact hm
  · intro k hk
    simp (disch := omega) only [va_up_ne, va_up_self] at hk ⊢
    by_cases e : k = i 1
    · rw [e, hc.1]; simp (disch := omega) only [va_up_ne, va_up_self]
    · rw [hc.1]; simp (disch := omega) only [va_up_ne, va_up_self]; exact hp k (by omega)
  · intro k hk; simp (disch := omega) only [va_up_ne, va_up_self] at hk ⊢
    have h9 := hL k hk
    unfold LR at h9 ⊢
    simp (disch := omega) only [va_up_ne]
    exact h9
  · simp (disch := omega) only [va_up_ne, va_up_self]; exact hb
  · simp (disch := omega) only [va_up_ne, va_up_self]; exact hE
  · intro k hk; simp (disch := omega) only [va_up_ne, va_up_self] at hk ⊢
    have h9 := hP k hk
    unfold bandP at h9 ⊢
    simp (disch := omega) only [va_up_ne]
    exact h9
  · intro s hs
    have hs : s < i 10 := by simpa (disch := omega) only [va_up_ne] using hs
    obtain ⟨h1, h2⟩ := hS s hs
    refine ⟨by simp (disch := omega) only [va_up_ne, va_up_self]; exact h1, SR.same h2 ?_ ?_ ?_ ?_ ?_ ?_ ?_ ?_ ?_ ?_ ?_ ?_ ?_ ?_ ?_ (fun k hk => hR.sl hI hs ?_ ?_ ?_ ?_ ?_ ?_ k hk)⟩
    all_goals first | (intro j hj; simp (disch := omega) only [va_up_ne]; done) | (simp (disch := omega) only [va_up_ne]; done) | rfl
  · intro k hk; simp (disch := omega) only [va_up_ne, va_up_self] at hk ⊢
    exact hZ k hk
  all_goals simp (disch := omega) only [va_up_ne, va_up_self]
  all_goals first | omega | exact hN.2.2.1 | exact hN.2.2.2.1 | exact hN.2.2.2.2.1 | exact hI.2.2.1 | exact hI.2.2.2.1 | exact hI.2.2.2.2.1
theorem P_print (hR : REL c x i f) (hN : NB n c x) (hI : MI n i f) (hn : n + 1 ≤ 512) (u : Int) (b : Bool) (w : Int) : ((0 ≤ u ∧ u < 3) ∧ 1 ≤ w ∧ w ≤ 50 → OUT (oPrint u b w i f) n ((cntC (x 3) (x 4) (b2 b) u.toNat + w.toNat : Nat) : Int) c (if b2 b = 0 then va_up x 4 (va_up (x 4) u.toNat (x 4 u.toNat + w.toNat)) else va_up x 3 (va_up (x 3) u.toNat (x 3 u.toNat + w.toNat)))) ∧ (¬ (0 ≤ u ∧ u < 3) → EXC (oPrint u b w i f) 1 i f) ∧ ((0 ≤ u ∧ u < 3) ∧ ¬ (1 ≤ w ∧ w ≤ 50) → EXC (oPrint u b w i f) 2 i f) := by
  obtain ⟨hc, hm, hp, hL, hb, hE, hP, hS, hZ⟩ := id hR
  refine ⟨fun h => ?_, fun h => EXC.of (if_pos (by omega)), fun h => EXC.of ((if_neg (by omega)).trans (if_pos (by omega)))⟩
  have hbu := hb u.toNat (by omega)
  have hcnt : cntC (x 3) (x 4) (b2 b) u.toNat = f 9 (stackN u.toNat (b2 b)) := by
    unfold cntC stackN
    split
    · exact hbu.2
    · exact hbu.1
  have b3 : ∀ j, x 3 j ≤ 50 * n := fun j => hN.2.2.2.2.2 3 j
  have b4 : ∀ j, x 4 j ≤ 50 * n := fun j => hN.2.2.2.2.2 4 j
  have b9 : ∀ j, f 9 j ≤ 50 * n := fun j => hI.2.2.2.2.2 9 j
  have hst : stackN u.toNat (b2 b) = if b2 b = 0 then u.toNat else 3 + u.toNat := rfl
  refine OUT.of ((if_neg (by omega)).trans (if_neg (by omega))) rfl (by show ((f 9 (stackN u.toNat (b2 b)) + w.toNat : Nat) : Int) = _; rw [hcnt]) ⟨hc, ?_, ?_, ?_, ?_, ?_, ?_, ?_, ?_⟩ ?_ ((hI.mono hn).row 9 _ (fun j => up_le (g := f 9) (b := 50 * (n + 1)) (fun j9 => Nat.le_trans (b9 j9) (by omega)) (by have := b9 (stackN u.toNat (b2 b)); omega) j))
  · split <;> (simp (disch := omega) only [va_up_ne, va_up_self]; exact hm)
  · split <;> (simp (disch := omega) only [va_up_ne, va_up_self]; exact hp)
  · intro k hk
    have h9 := hL k hk
    split <;> (unfold LR at h9 ⊢; simp (disch := omega) only [va_up_ne]; exact h9)
  · intro k hk
    have h9 := hb k hk
    by_cases e0 : b2 b = 0
    · rw [if_pos e0] at hst ⊢
      simp (disch := omega) only [va_up_ne, va_up_self, hst]
      by_cases ek : k = u.toNat
      · subst ek
        simp (disch := omega) only [va_up_ne, va_up_self]
        exact ⟨h9.1, by rw [h9.2]⟩
      · simp (disch := omega) only [va_up_ne, va_up_self]
        exact h9
    · rw [if_neg e0] at hst ⊢
      simp (disch := omega) only [va_up_ne, va_up_self, hst]
      by_cases ek : k = u.toNat
      · subst ek
        simp (disch := omega) only [va_up_ne, va_up_self]
        exact ⟨by rw [h9.1], h9.2⟩
      · simp (disch := omega) only [va_up_ne, va_up_self]
        exact h9
  · split <;> (simp (disch := omega) only [va_up_ne, va_up_self]; exact hE)
  · intro k hk
    have h9 := hP k hk
    unfold bandP at h9 ⊢
    split <;> (simp (disch := omega) only [va_up_ne]; exact h9)
  · intro s hs
    obtain ⟨h1, h2⟩ := hS s hs
    refine ⟨by simp (disch := omega) only [va_up_ne, va_up_self]; exact h1, ?_⟩
    split <;>
    · refine SR.same h2 ?_ ?_ ?_ ?_ ?_ ?_ ?_ ?_ ?_ ?_ ?_ ?_ ?_ ?_ ?_ (fun k hk => hR.sl hI hs ?_ ?_ ?_ ?_ ?_ ?_ k hk)
      all_goals first | (intro j hj; simp (disch := omega) only [va_up_ne]; done) | (simp (disch := omega) only [va_up_ne]; done) | rfl
  · intro k hk; simp (disch := omega) only [va_up_ne, va_up_self]
    exact hZ k hk
  · split
    · exact (hN.mono hn).up 4 (fun j => up_le (g := x 4) (b := 50 * (n + 1)) (fun j9 => Nat.le_trans (b4 j9) (by omega)) (by have := b4 u.toNat; omega) j)
    · exact (hN.mono hn).up 3 (fun j => up_le (g := x 3) (b := 50 * (n + 1)) (fun j9 => Nat.le_trans (b3 j9) (by omega)) (by have := b3 u.toNat; omega) j)
theorem P_pupil (hR : REL c x i f) (hN : NB n c x) (hI : MI n i f) (hn : n + 1 ≤ 512) (u w : Int) (b : Bool) : (((0 ≤ u ∧ u < 4) ∧ 5 ≤ w ∧ w ≤ 16) ∧ c 2 < 20 → ∀ cap, 10 ≤ cap → cap ≤ 58 → OUT (oPupil u w b i f) n (c 2 : Int) (va_up c 2 (c 2 + 1)) (va_up (va_up (va_up (xLst x 8 cap (x 1 8 + 1)) 7 (va_up (x 7) (c 2) u.toNat)) 8 (va_up (x 8) (c 2) (if w ≤ 7 then 0 else if w ≤ 11 then 1 else 2))) 9 (va_up (x 9) (c 2) (b2 b)))) ∧ (¬ (0 ≤ u ∧ u < 4) → EXC (oPupil u w b i f) 1 i f) ∧ ((0 ≤ u ∧ u < 4) ∧ ¬ (5 ≤ w ∧ w ≤ 16) → EXC (oPupil u w b i f) 2 i f) ∧ (((0 ≤ u ∧ u < 4) ∧ 5 ≤ w ∧ w ≤ 16) ∧ ¬ c 2 < 20 → EXC (oPupil u w b i f) 3 i f) := by
  obtain ⟨hc, hm, hp, hL, hb, hE, hP, hS, hZ⟩ := id hR
  have hi5 := hI.2.2.2.1
  refine ⟨fun h cap h10 h58 => ?_, fun h => EXC.of (if_pos (by omega)), fun h => EXC.of ((if_neg (by omega)).trans (if_pos (by omega))), fun h => EXC.of ((if_neg (by omega)).trans ((if_neg (by omega)).trans (if_pos (by omega))))⟩
  have hbd : (if w ≤ 7 then 0 else if w ≤ 11 then 1 else 2) ≤ 2 := by split <;> (try split) <;> omega
  have hb2 := b2_le b
  have hx := hN.2.2.2.2.2
  have hf := hI.2.2.2.2.2
  refine OUT.of ((if_neg (by omega)).trans ((if_neg (by omega)).trans (if_neg (by omega)))) rfl (by show ((i 5 : Nat) : Int) = _; rw [hc.2.2.1]) ⟨?_, ?_, ?_, ?_, ?_, ?_, ?_, ?_, ?_⟩
    ((((((hN.mono hn).up 0 (fun j => up_le (g := x 0) (b := 58) (fun j9 => hx 0 j9) h58 j)).up 1 (fun j => up_le (g := x 1) (b := 58) (fun j9 => hx 1 j9) (by omega) j)).up 7 (fun j => up_le (g := x 7) (b := 3) (fun j9 => hx 7 j9) (by omega) j)).up 8 (fun j => up_le (g := x 8) (b := 2) (fun j9 => hx 8 j9) hbd j)).up 9 (fun j => up_le (g := x 9) (b := 1) (fun j9 => hx 9 j9) hb2 j) |>.cnt ?_ ?_ ?_ ?_)
    ((((hI.mono hn).row 6 _ (fun j => up_le (g := f 6) (b := 3) (fun j9 => hf 6 j9) (by omega) j)).row 7 _ (fun j => up_le (g := f 7) (b := 16) (fun j9 => hf 7 j9) (by omega) j)).row 8 _ (fun j => up_le (g := f 8) (b := 1) (fun j9 => hf 8 j9) hb2 j) |>.cnt ?_ ?_ ?_ ?_)
  · simp (disch := omega) only [va_up_ne, va_up_self]; exact ⟨hc.1, hc.2.1, by omega, hc.2.2.2⟩
  · simp (disch := omega) only [va_up_ne, va_up_self]; exact ⟨hm.1, by omega, hm.2.2⟩
  · intro k hk; simp (disch := omega) only [va_up_ne, va_up_self] at hk ⊢; exact hp k hk
  · intro k hk; simp (disch := omega) only [va_up_ne, va_up_self] at hk ⊢
    have h9 := hL k hk
    unfold LR at h9 ⊢
    simp (disch := omega) only [va_up_ne]
    exact h9
  · simp (disch := omega) only [va_up_ne, va_up_self]; exact hb
  · simp (disch := omega) only [va_up_ne, va_up_self]; exact hE
  · intro k hk; simp (disch := omega) only [va_up_ne, va_up_self] at hk ⊢
    unfold bandP
    by_cases ek : k = c 2
    · rw [← hc.2.2.1, ek]
      simp (disch := omega) only [va_up_ne, va_up_self]
      refine ⟨trivial, ?_, trivial⟩
      split <;> split <;> (try split) <;> (try split) <;> omega
    · have h9 := hP k (by omega)
      unfold bandP at h9
      rw [← hc.2.2.1]
      simp (disch := omega) only [va_up_ne, va_up_self]
      exact h9
  · intro s hs
    have hs : s < i 10 := by simpa (disch := omega) only [va_up_ne] using hs
    obtain ⟨h1, h2⟩ := hS s hs
    refine ⟨by simp (disch := omega) only [va_up_ne, va_up_self]; omega, SR.same h2 ?_ ?_ ?_ ?_ ?_ ?_ ?_ ?_ ?_ ?_ ?_ ?_ ?_ ?_ ?_ (fun k hk => hR.sl hI hs ?_ ?_ ?_ ?_ ?_ ?_ k hk)⟩
    all_goals first | (intro j hj; simp (disch := omega) only [va_up_ne, va_up_self]; done) | (simp (disch := omega) only [va_up_ne, va_up_self]; done) | rfl
  · intro k hk; simp (disch := omega) only [va_up_ne, va_up_self] at hk ⊢
    exact hZ k hk
  all_goals simp (disch := omega) only [va_up_ne, va_up_self]
  all_goals first | omega | exact hN.2.1 | exact hN.2.2.1 | exact hN.2.2.2.1 | exact hN.2.2.2.2.1 | exact hI.2.1 | exact hI.2.2.1 | exact hI.2.2.2.1 | exact hI.2.2.2.2.1
theorem shC_S {x f : Nat → Nat → Nat} : ∀ n : Nat, (∀ k, k < n → x 11 k = f 20 k) → shC x n = shownA f n
  | 0, _ => rfl
  | n + 1, h => by
    unfold shC shownA
    rw [shC_S n (fun k hk => h k (by omega)), h n (by omega)]
theorem P_show (hR : REL c x i f) (hN : NB n c x) (hI : MI n i f) (hn : n + 1 ≤ 512) (u : Int) : ((0 ≤ u ∧ u < c 3) ∧ x 11 u.toNat = 0 ∧ gradeC (x (1001 + 8 * u.toNat)) (x 13 u.toNat) ≠ -1 → OUT (oShow u i f) n (shC (va_up x 11 (va_up (x 11) u.toNat 1)) (c 3) : Nat) c (va_up x 11 (va_up (x 11) u.toNat 1))) ∧ (¬ (0 ≤ u ∧ u < c 3) → EXC (oShow u i f) 1 i f) ∧ ((0 ≤ u ∧ u < c 3) ∧ ¬ (x 11 u.toNat = 0 ∧ gradeC (x (1001 + 8 * u.toNat)) (x 13 u.toNat) ≠ -1) → EXC (oShow u i f) 2 i f) := by
  obtain ⟨hc, hm, hp, hL, hb, hE, hP, hS, hZ⟩ := id hR
  have hc3 := hc.2.2.2
  have key : 0 ≤ u ∧ u < c 3 → x 11 u.toNat = f 20 u.toNat ∧ gradeC (x (1001 + 8 * u.toNat)) (x 13 u.toNat) = gradeS f u.toNat := fun h => ⟨(hS u.toNat (by omega)).2.2.1, (hS u.toNat (by omega)).2.gr⟩
  refine ⟨fun h => ?_, fun h => EXC.of (if_pos (by omega)), fun h => ?_⟩
  · obtain ⟨k1, k2⟩ := key h.1
    have h20 : ∀ k, k < i 10 → va_up x 11 (va_up (x 11) u.toNat 1) 11 k = va_up f 20 (va_up (f 20) u.toNat 1) 20 k := fun k hk => by
      simp only [va_up_self]
      by_cases ek : k = u.toNat
      · rw [ek, va_up_self, va_up_self]
      · rw [va_up_ne _ _ ek, va_up_ne _ _ ek]
        exact (hS k hk).2.2.1
    refine OUT.of ((if_neg (by omega)).trans (if_neg (by omega))) rfl ?_ ⟨hc, ?_, ?_, ?_, ?_, ?_, ?_, ?_, ?_⟩ ((hN.mono hn).up 11 (fun j => up_le (g := x 11) (b := 1) (fun j9 => hN.2.2.2.2.2 11 j9) (Nat.le_refl 1) j)) ((hI.mono hn).row 20 _ (fun j => up_le (g := f 20) (b := 1) (fun j9 => hI.2.2.2.2.2 20 j9) (Nat.le_refl 1) j))
    · show ((shownA _ _ : Nat) : Int) = _
      rw [hc3, shC_S (i 10) h20]
    · simp (disch := omega) only [va_up_ne, va_up_self]; exact hm
    · simp (disch := omega) only [va_up_ne, va_up_self]; exact hp
    · intro k hk
      have h9 := hL k hk
      unfold LR at h9 ⊢
      simp (disch := omega) only [va_up_ne]
      exact h9
    · simp (disch := omega) only [va_up_ne, va_up_self]; exact hb
    · simp (disch := omega) only [va_up_ne, va_up_self]; exact hE
    · intro k hk
      have h9 := hP k hk
      unfold bandP at h9 ⊢
      simp (disch := omega) only [va_up_ne]
      exact h9
    · intro s hs
      obtain ⟨h1, h2⟩ := hS s hs
      refine ⟨by simp (disch := omega) only [va_up_ne, va_up_self]; exact h1, ?_⟩
      have hsl := fun k hk => hR.sl (f' := va_up f 20 (va_up (f 20) u.toNat 1)) hI hs (va_up_ne _ _ (by decide)) (va_up_ne _ _ (by decide)) (va_up_ne _ _ (by decide)) (va_up_ne _ _ (by decide)) (va_up_ne _ _ (by decide)) (va_up_ne _ _ (by decide)) k hk
      by_cases es : s = u.toNat
      · obtain ⟨a1, a2, a3, a4, a5, a6, a7, a8, a9⟩ := h2
        refine ⟨?_, h20 s hs, ?_, ?_, ?_, ?_, ?_, fun k hk => ?_, ?_⟩
        · simp (disch := omega) only [va_up_ne, va_up_self]; exact a1
        · simp (disch := omega) only [va_up_ne, va_up_self]; exact a3
        · simp (disch := omega) only [va_up_ne, va_up_self]; exact a4
        · simp (disch := omega) only [va_up_ne, va_up_self]; exact a5
        · simp (disch := omega) only [va_up_ne, va_up_self]; exact a6
        · simp (disch := omega) only [va_up_ne, va_up_self]; exact a7
        · rw [hsl k hk]; simp (disch := omega) only [va_up_ne, va_up_self]; exact a8 k hk
        · rw [hsl 3 (by decide)]; simp (disch := omega) only [va_up_ne, va_up_self]; exact a9
      · refine SR.same h2 ?_ ?_ ?_ ?_ ?_ ?_ ?_ ?_ ?_ ?_ ?_ ?_ ?_ ?_ ?_ hsl
        all_goals first | (intro j hj; simp (disch := omega) only [va_up_ne, va_up_self]; done) | (simp (disch := omega) only [va_up_ne, va_up_self]; done) | rfl
    · intro k hk
      have hk : i 10 ≤ k := hk
      have h9 := hZ k hk
      simp (disch := omega) only [va_up_ne, va_up_self]
      exact h9
  · obtain ⟨k1, k2⟩ := key h.1
    exact EXC.of ((if_neg (by omega)).trans (if_pos (by omega)))
theorem P_vote (hR : REL c x i f) (hN : NB n c x) (hI : MI n i f) (hn : n + 1 ≤ 512) (u w t : Int) : (((0 ≤ u ∧ u < 4) ∧ 0 ≤ w ∧ w < c 3) ∧ (0 ≤ t ∧ t ≤ 5) ∧ x 11 w.toNat ≠ 0 ∧ (x 10 w.toNat : Int) ≠ u → OUT (oVote u w t i f) n (sumA (va_up (x (1003 + 8 * w.toNat)) u.toNat t.toNat) 4 : Nat) c (va_up x (1003 + 8 * w.toNat) (va_up (x (1003 + 8 * w.toNat)) u.toNat t.toNat))) ∧ (¬ ((0 ≤ u ∧ u < 4) ∧ 0 ≤ w ∧ w < c 3) → EXC (oVote u w t i f) 1 i f) ∧ (((0 ≤ u ∧ u < 4) ∧ 0 ≤ w ∧ w < c 3) ∧ ¬ (0 ≤ t ∧ t ≤ 5) → EXC (oVote u w t i f) 2 i f) ∧ (((0 ≤ u ∧ u < 4) ∧ 0 ≤ w ∧ w < c 3) ∧ (0 ≤ t ∧ t ≤ 5) ∧ ¬ (x 11 w.toNat ≠ 0 ∧ (x 10 w.toNat : Int) ≠ u) → EXC (oVote u w t i f) 3 i f) := by
  obtain ⟨hc, hm, hp, hL, hb, hE, hP, hS, hZ⟩ := id hR
  have hc3 := hc.2.2.2
  have key : (0 ≤ u ∧ u < 4) ∧ 0 ≤ w ∧ w < c 3 → x 11 w.toNat = f 20 w.toNat ∧ x 10 w.toNat = f 6 (f 13 w.toNat) := fun h => ⟨(hS w.toNat (by omega)).2.2.1, (hS w.toNat (by omega)).2.1⟩
  refine ⟨fun h => ?_, fun h => EXC.of (if_pos (by omega)), fun h => EXC.of ((if_neg (by omega)).trans (if_pos (by omega))), fun h => ?_⟩
  · obtain ⟨k1, k2⟩ := key h.1
    have h21 : ∀ j, j < 4 → va_up (x (1003 + 8 * w.toNat)) u.toNat t.toNat j = va_up f 21 (va_up (f 21) (4 * w.toNat + u.toNat) t.toNat) 21 (4 * w.toNat + j) := fun j hj => by
      rw [va_up_self]
      by_cases ej : j = u.toNat
      · rw [ej, va_up_self, va_up_self]
      · rw [va_up_ne _ _ ej, va_up_ne _ _ (by omega)]
        exact (hS w.toNat (by omega)).2.2.2.2.2.2.2.1 j hj
    have hb3 := xm_3 (n + 1) w.toNat
    refine OUT.of ((if_neg (by omega)).trans ((if_neg (by omega)).trans (if_neg (by omega)))) rfl ?_ ⟨hc, ?_, ?_, ?_, ?_, ?_, ?_, ?_, ?_⟩ ((hN.mono hn).up _ (fun j => by rw [hb3]; exact up_le (g := x (1003 + 8 * w.toNat)) (b := 5) (fun j9 => Nat.le_trans (hN.2.2.2.2.2 _ j9) (Nat.le_of_eq (xm_3 n _))) (by omega) j)) ((hI.mono hn).row 21 _ (fun j => up_le (g := f 21) (b := 5) (fun j9 => hI.2.2.2.2.2 21 j9) (by omega) j))
    · show ((pts _ _ : Nat) : Int) = _
      unfold pts
      rw [sumA_pts 4 h21]
    · simp (disch := omega) only [va_up_ne, va_up_self]; exact hm
    · simp (disch := omega) only [va_up_ne, va_up_self]; exact hp
    · intro k hk
      have h9 := hL k hk
      have hk9 : k < 10 := Nat.lt_of_lt_of_le hk hI.2.2.1
      unfold LR at h9 ⊢
      simp (disch := omega) only [va_up_ne]
      exact h9
    · simp (disch := omega) only [va_up_ne, va_up_self]; exact hb
    · simp (disch := omega) only [va_up_ne, va_up_self]; exact hE
    · intro k hk
      have h9 := hP k hk
      unfold bandP at h9 ⊢
      simp (disch := omega) only [va_up_ne]
      exact h9
    · intro s hs
      obtain ⟨h1, h2⟩ := hS s hs
      refine ⟨by simp (disch := omega) only [va_up_ne, va_up_self]; exact h1, ?_⟩
      have hsl := fun k hk => hR.sl (f' := va_up f 21 (va_up (f 21) (4 * w.toNat + u.toNat) t.toNat)) hI hs (va_up_ne _ _ (by decide)) (va_up_ne _ _ (by decide)) (va_up_ne _ _ (by decide)) (va_up_ne _ _ (by decide)) (va_up_ne _ _ (by decide)) (va_up_ne _ _ (by decide)) k hk
      by_cases es : s = w.toNat
      · obtain ⟨a1, a2, a3, a4, a5, a6, a7, a8, a9⟩ := h2
        refine ⟨?_, ?_, ?_, ?_, ?_, ?_, ?_, fun k hk => ?_, ?_⟩
        · simp (disch := omega) only [va_up_ne, va_up_self]; exact a1
        · simp (disch := omega) only [va_up_ne, va_up_self]; exact a2
        · simp (disch := omega) only [va_up_ne, va_up_self]; exact a3
        · simp (disch := omega) only [va_up_ne, va_up_self]; exact a4
        · simp (disch := omega) only [va_up_ne, va_up_self]; exact a5
        · simp (disch := omega) only [va_up_ne, va_up_self]; exact a6
        · intro j hj; rw [es, va_up_self]; exact h21 j hj
        · rw [hsl k hk]; simp (disch := omega) only [va_up_ne, va_up_self]; exact a8 k hk
        · rw [hsl 3 (by decide)]; simp (disch := omega) only [va_up_ne, va_up_self]; exact a9
      · refine SR.same h2 ?_ ?_ ?_ ?_ ?_ ?_ ?_ ?_ ?_ ?_ ?_ ?_ ?_ ?_ ?_ hsl
        all_goals first | (intro j hj; simp (disch := omega) only [va_up_ne, va_up_self]; done) | (simp (disch := omega) only [va_up_ne, va_up_self]; done) | rfl
    · intro k hk
      have hk : i 10 ≤ k := hk
      have h9 := hZ k hk
      refine ⟨?_, ?_, fun j hj => ?_⟩
      · simp (disch := omega) only [va_up_ne, va_up_self]; exact h9.1
      · simp (disch := omega) only [va_up_ne, va_up_self]; exact h9.2.1
      · simp (disch := omega) only [va_up_ne, va_up_self]; exact h9.2.2 j hj
  · obtain ⟨k1, k2⟩ := key h.1
    exact EXC.of ((if_neg (by omega)).trans ((if_neg (by omega)).trans (if_pos (by omega))))
end PW
