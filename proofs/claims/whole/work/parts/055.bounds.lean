/-! ### how large the answers are -/
theorem stackN_le (b q : Nat) : stackN b q ≤ 3 + b := by unfold stackN; split <;> omega
theorem sOnA_bd (f : Nat → Nat → Nat) (s k : Nat) : ∀ n : Nat, -1 ≤ sOnA f s k n ∧ sOnA f s k n < (n : Int)
  | 0 => by simp [sOnA]
  | n + 1 => by
    have h := sOnA_bd f s k n
    unfold sOnA
    split <;> omega
theorem sOn_bd {nc : Nat} {i : Nat → Nat} {f : Nat → Nat → Nat} (hI : MI nc i f) (s k : Nat) : -1 ≤ sOn f s k ∧ sOn f s k < 6 := by
  have h := sOnA_bd f s k (f 4 (f 14 s))
  have h2 : f 4 (f 14 s) ≤ 6 := hI.2.2.2.2.2 4 (f 14 s)
  unfold sOn
  omega
theorem countA_le (f : Nat → Nat → Nat) (s : Nat) : ∀ n : Nat, countA f s n ≤ n
  | 0 => Nat.le_refl _
  | n + 1 => by
    have h := countA_le f s n
    have h2 := b2_le (cnts f s n)
    unfold countA
    omega
theorem turnA_le (f : Nat → Nat → Nat) (s : Nat) : ∀ n : Nat, turnA f s n ≤ n
  | 0 => Nat.le_refl _
  | n + 1 => by
    have h := turnA_le f s n
    have h2 := b2_le (turnsAt f s n)
    unfold turnA
    omega
theorem lonI_le (f : Nat → Nat → Nat) (s : Nat) (g : Nat → Nat) (k : Nat) : ∀ n : Nat, (∀ j, j < n → g j ≤ j + 1) → lonI f s g k n ≤ n + 1
  | 0, _ => Nat.le_refl _
  | n + 1, hg => by
    have h := lonI_le f s g k n (fun j hj => hg j (by omega))
    have h2 := hg n (by omega)
    unfold lonI
    split <;> omega
theorem lonG_le (f : Nat → Nat → Nat) (s : Nat) : ∀ n j : Nat, lonG f s n j ≤ j + 1
  | 0, j => Nat.zero_le _
  | n + 1, j => by
    have h := lonG_le f s n
    unfold lonG va_up
    split
    · next e =>
      subst e
      unfold lonV
      split
      · exact lonI_le f s _ j j (fun j hj => h j)
      · omega
    · exact h j
theorem lon_le (f : Nat → Nat → Nat) (s k : Nat) : lon f s k ≤ k + 1 := lonG_le f s (k + 1) k
theorem lonG_old (f : Nat → Nat → Nat) (s : Nat) : ∀ n j : Nat, j < n → lonG f s n j = lon f s j
  | 0, j, h => absurd h (Nat.not_lt_zero j)
  | n + 1, j, h => by
    by_cases e : j = n
    · subst e; rfl
    · rw [← lonG_old f s n j (by omega)]
      show va_up _ n _ j = _
      exact va_up_ne _ _ e
theorem lonI_cong {f : Nat → Nat → Nat} {s : Nat} {g g' : Nat → Nat} {k : Nat} : ∀ n : Nat, (∀ j, j < n → g j = g' j) → lonI f s g k n = lonI f s g' k n
  | 0, _ => rfl
  | n + 1, h => by
    unfold lonI
    rw [lonI_cong n (fun j hj => h j (by omega)), h n (by omega)]
/-- what is found for k, over any row that holds the earlier ones -/
theorem lon_eq {f : Nat → Nat → Nat} {s k : Nat} {g : Nat → Nat} (h : ∀ j, j < k → g j = lon f s j) : lon f s k = if cnts f s k = true then lonI f s g k k else 0 := by
  show va_up (lonG f s k) k (lonV f s (lonG f s k) k) k = _
  rw [va_up_self]
  unfold lonV
  rw [lonI_cong (g' := g) k (fun j hj => by rw [lonG_old f s k j hj, h j hj])]
theorem inOrdA_le (f : Nat → Nat → Nat) (s : Nat) : ∀ n : Nat, inOrdA f s n ≤ n
  | 0 => Nat.le_refl _
  | n + 1 => by
    have h := inOrdA_le f s n
    have h2 := lon_le f s n
    unfold inOrdA
    split <;> omega
theorem count_le {nc : Nat} {i : Nat → Nat} {f : Nat → Nat → Nat} (hI : MI nc i f) (s : Nat) : count f s ≤ 8 := by
  have h := countA_le f s (f 12 s)
  have h2 : f 12 s ≤ 8 := hI.2.2.2.2.2 12 s
  unfold count
  omega
theorem turn_le {nc : Nat} {i : Nat → Nat} {f : Nat → Nat → Nat} (hI : MI nc i f) (s : Nat) : turn f s ≤ 8 := by
  have h := turnA_le f s (f 12 s)
  have h2 : f 12 s ≤ 8 := hI.2.2.2.2.2 12 s
  unfold turn
  omega
theorem inOrd_le {nc : Nat} {i : Nat → Nat} {f : Nat → Nat → Nat} (hI : MI nc i f) (s : Nat) : inOrd f s ≤ 8 := by
  have h := inOrdA_le f s (f 12 s)
  have h2 : f 12 s ≤ 8 := hI.2.2.2.2.2 12 s
  unfold inOrd
  omega
theorem slipsK_bd {nc : Nat} {i : Nat → Nat} {f : Nat → Nat → Nat} (hI : MI nc i f) (s k : Nat) : -8 ≤ slipsK f s k ∧ slipsK f s k ≤ 8 := by
  have h1 := count_le hI s
  have h2 := turn_le hI s
  have h3 := inOrd_le hI s
  have h4 : f 4 (f 14 s) ≤ 6 := hI.2.2.2.2.2 4 (f 14 s)
  have h5 : f 12 s ≤ 8 := hI.2.2.2.2.2 12 s
  have h6 : f 15 s ≤ 1 := hI.2.2.2.2.2 15 s
  unfold slipsK
  repeat' split
  all_goals omega
theorem allSlipsA_bd {nc : Nat} {i : Nat → Nat} {f : Nat → Nat → Nat} (hI : MI nc i f) (s : Nat) : ∀ n : Nat, -8 * (n : Int) ≤ allSlipsA f s n ∧ allSlipsA f s n ≤ 8 * (n : Int)
  | 0 => by simp [allSlipsA]
  | n + 1 => by
    have h := allSlipsA_bd hI s n
    have h2 := slipsK_bd hI s n
    unfold allSlipsA
    omega
theorem allSlips_bd {nc : Nat} {i : Nat → Nat} {f : Nat → Nat → Nat} (hI : MI nc i f) (s : Nat) : -40 ≤ allSlips f s ∧ allSlips f s ≤ 40 := by
  have h := allSlipsA_bd hI s 5
  unfold allSlips
  omega
theorem lackS_le (f : Nat → Nat → Nat) (s : Nat) : lackS f s ≤ 2 := by
  unfold lackS
  repeat' split
  all_goals omega
theorem gradeS_bd {nc : Nat} {i : Nat → Nat} {f : Nat → Nat → Nat} (hI : MI nc i f) (s : Nat) : -1 ≤ gradeS f s ∧ gradeS f s ≤ 20 := by
  have h0 : f 16 (3 * s) ≤ 20 := hI.2.2.2.2.2 16 (3 * s)
  have h1 : f 16 (3 * s + 1) ≤ 20 := hI.2.2.2.2.2 16 (3 * s + 1)
  have h2 : f 16 (3 * s + 2) ≤ 20 := hI.2.2.2.2.2 16 (3 * s + 2)
  unfold gradeS
  repeat' split
  all_goals omega
theorem ptsA_le {nc : Nat} {i : Nat → Nat} {f : Nat → Nat → Nat} (hI : MI nc i f) (s : Nat) : ∀ n : Nat, ptsA f s n ≤ 5 * n
  | 0 => Nat.le_refl _
  | n + 1 => by
    have h := ptsA_le hI s n
    have h2 : f 21 (4 * s + n) ≤ 5 := hI.2.2.2.2.2 21 (4 * s + n)
    unfold ptsA
    omega
theorem pts_le {nc : Nat} {i : Nat → Nat} {f : Nat → Nat → Nat} (hI : MI nc i f) (s : Nat) : pts f s ≤ 20 := ptsA_le hI s 4
theorem worthS_bd {nc : Nat} {i : Nat → Nat} {f : Nat → Nat → Nat} (hI : MI nc i f) (s : Nat) : -9999 ≤ worthS f s ∧ worthS f s ≤ 1000 := by
  have h1 := gradeS_bd hI s
  have h2 := pts_le hI s
  have h3 := allSlips_bd hI s
  unfold worthS
  split <;> omega
theorem placeA_le (f : Nat → Nat → Nat) (w : Int) (s : Nat) : ∀ n : Nat, placeA f w s n ≤ n + 1
  | 0 => Nat.le_refl _
  | n + 1 => by
    have h := placeA_le f w s n
    have h2 := b2_le (aheadS f w s n)
    unfold placeA
    omega
theorem placeS_bd (f : Nat → Nat → Nat) (n s : Nat) : -1 ≤ placeS f n s ∧ placeS f n s ≤ (n : Int) + 1 := by
  have h := placeA_le f (worthS f s) s n
  unfold placeS
  split <;> omega
theorem atA_bd (f : Nat → Nat → Nat) (n : Nat) (p : Int) : ∀ k : Nat, -1 ≤ atA f n p k ∧ atA f n p k < (k : Int)
  | 0 => by simp [atA]
  | k + 1 => by
    have h := atA_bd f n p k
    unfold atA
    split <;> omega
theorem dropA_le (f : Nat → Nat → Nat) (e s : Nat) : ∀ n : Nat, (dropA f e s n).1 ≤ n
  | 0 => Nat.le_refl _
  | n + 1 => by
    have h := dropA_le f e s n
    unfold dropA
    split
    · omega
    · show (dropA f e s n).1 + 1 ≤ n + 1
      omega
theorem outA_le (f : Nat → Nat → Nat) (e : Nat) : ∀ n : Nat, (outA f e n).1 ≤ n
  | 0 => Nat.le_refl _
  | n + 1 => by
    have h := outA_le f e n
    have h2 := b2_le (decide (gradeS (dropF (outA f e n).2 e n) n ≠ gradeS (outA f e n).2 n))
    show (outA f e n).1 + b2 _ ≤ n + 1
    omega
theorem shownA_le {f : Nat → Nat → Nat} (hf : ∀ x, f 20 x ≤ 1) : ∀ n : Nat, shownA f n ≤ n
  | 0 => Nat.le_refl _
  | n + 1 => by
    have h := shownA_le hf n
    have h2 := hf n
    unfold shownA
    omega
theorem bandA_bd (f : Nat → Nat → Nat) (q : Nat) : ∀ n : Nat, -1 ≤ bandA f q n ∧ bandA f q n < (n : Int)
  | 0 => by simp [bandA]
  | n + 1 => by
    have h := bandA_bd f q n
    unfold bandA
    split <;> omega
theorem bandP_le (f : Nat → Nat → Nat) (p : Nat) : bandP f p ≤ 2 := by
  unfold bandP
  repeat' split
  all_goals omega
theorem bandS_bd (f : Nat → Nat → Nat) (p : Nat) : -1 ≤ bandS f p ∧ bandS f p ≤ (bandP f p : Int) := by
  have h := bandA_bd f (f 8 p) (bandP f p + 1)
  unfold bandS
  omega
/-! ### the numbers stay small under each change of a row -/
theorem MI.row {nc : Nat} {i : Nat → Nat} {f : Nat → Nat → Nat} (hI : MI nc i f) (k : Nat) (g : Nat → Nat) (hg : ∀ x, g x ≤ mMax nc k) : MI nc i (va_up f k g) := by
  refine ⟨hI.1, hI.2.1, hI.2.2.1, hI.2.2.2.1, hI.2.2.2.2.1, fun j x => ?_⟩
  by_cases e : j = k
  · subst e; rw [va_up_self]; exact hg x
  · rw [va_up_ne _ _ e]; exact hI.2.2.2.2.2 j x
theorem up_le {g : Nat → Nat} {b k v : Nat} (hg : ∀ x, g x ≤ b) (hv : v ≤ b) : ∀ x, va_up g k v x ≤ b := fun x => by
  unfold va_up
  split
  · exact hv
  · exact hg x
theorem cpA_le {r g : Nat → Nat} {a b : Nat} (hr : ∀ x, r x ≤ b) (hg : ∀ x, g x ≤ b) : ∀ (n x : Nat), cpA r a g n x ≤ b
  | 0, x => hr x
  | n + 1, x => up_le (cpA_le hr hg n) (hg n) x
theorem dropA_rows {nc : Nat} {i : Nat → Nat} {f : Nat → Nat → Nat} (hI : MI nc i f) (e s : Nat) : ∀ n : Nat, (∀ x, (dropA f e s n).2.1 x ≤ 20) ∧ ∀ x, (dropA f e s n).2.2 x ≤ 5
  | 0 => ⟨fun x => hI.2.2.2.2.2 16 x, fun x => hI.2.2.2.2.2 17 x⟩
  | n + 1 => by
    have h := dropA_rows hI e s n
    unfold dropA
    split
    · exact h
    · exact ⟨up_le h.1 (h.1 _), up_le h.2 (h.2 _)⟩
theorem MI.drop {nc : Nat} {i : Nat → Nat} {f : Nat → Nat → Nat} (hI : MI nc i f) (e s : Nat) : MI nc i (dropF f e s) := by
  have h := dropA_rows hI e s (f 18 s)
  have h2 := dropA_le f e s (f 18 s)
  have h3 : f 18 s ≤ 3 := hI.2.2.2.2.2 18 s
  have h4 : ∀ x, f 18 x ≤ 3 := fun x => hI.2.2.2.2.2 18 x
  exact ((hI.row 16 _ h.1).row 17 _ h.2).row 18 _ (up_le (b := 3) h4 (by omega))
theorem MI.out {nc : Nat} {i : Nat → Nat} {f : Nat → Nat → Nat} (hI : MI nc i f) (e : Nat) : ∀ n : Nat, MI nc i (outA f e n).2
  | 0 => hI
  | n + 1 => (MI.out hI e n).drop e n
