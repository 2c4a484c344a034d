theorem placeA_lt {f : Nat → Nat → Nat} {a b : Nat} (ha : worthS f a ≠ -9999) (h : worthS f b < worthS f a ∨ (worthS f a = worthS f b ∧ a < b)) : ∀ m : Nat, placeA f (worthS f a) a m + (if a < m then 1 else 0) ≤ placeA f (worthS f b) b m
  | 0 => by rw [if_neg (by omega)]; exact Nat.le_refl _
  | m + 1 => by
    have ih := placeA_lt ha h m
    unfold placeA
    by_cases hb : worthS f m ≠ -9999 ∧ (worthS f b < worthS f m ∨ (worthS f m = worthS f b ∧ m < b))
    · have e2 : aheadS f (worthS f b) b m = true := decide_eq_true hb
      rw [e2]
      have l1 := b2_le (aheadS f (worthS f a) a m)
      by_cases em : m = a
      · have e1 : aheadS f (worthS f a) a m = false := decide_eq_false (by rw [em]; omega)
        rw [e1]
        show placeA f (worthS f a) a m + 0 + _ ≤ placeA f (worthS f b) b m + 1
        rw [if_pos (by omega)]
        rw [if_neg (by omega)] at ih
        omega
      · show placeA f (worthS f a) a m + _ + _ ≤ placeA f (worthS f b) b m + 1
        by_cases hl : a < m
        · rw [if_pos (by omega)]
          rw [if_pos hl] at ih
          omega
        · rw [if_neg (by omega)]
          rw [if_neg hl] at ih
          omega
    · have e2 : aheadS f (worthS f b) b m = false := decide_eq_false hb
      have e1 : aheadS f (worthS f a) a m = false := decide_eq_false (fun z => hb ⟨z.1, by omega⟩)
      have em : m ≠ a := fun e => hb (by rw [e]; exact ⟨ha, by omega⟩)
      rw [e1, e2]
      show placeA f (worthS f a) a m + 0 + _ ≤ placeA f (worthS f b) b m + 0
      by_cases hl : a < m
      · rw [if_pos (by omega)]
        rw [if_pos hl] at ih
        omega
      · rw [if_neg (by omega)]
        rw [if_neg hl] at ih
        omega
theorem placeS_inj {f : Nat → Nat → Nat} {n a b : Nat} {p : Int} (hp : 1 ≤ p) (ha : a < n) (hb : b < n) (h1 : placeS f n a = p) (h2 : placeS f n b = p) : a = b := by
  unfold placeS at h1 h2
  by_cases w1 : worthS f a = -9999
  · rw [if_pos w1] at h1; omega
  by_cases w2 : worthS f b = -9999
  · rw [if_pos w2] at h2; omega
  rw [if_neg w1] at h1
  rw [if_neg w2] at h2
  rcases Nat.lt_trichotomy a b with hab | hab | hab
  · rcases Int.lt_or_le (worthS f a) (worthS f b) with h | h
    · have := placeA_lt w2 (Or.inl h) n
      rw [if_pos hb] at this
      omega
    · have := placeA_lt (a := a) (b := b) w1 (by omega) n
      rw [if_pos ha] at this
      omega
  · exact hab
  · rcases Int.lt_or_le (worthS f b) (worthS f a) with h | h
    · have := placeA_lt w1 (Or.inl h) n
      rw [if_pos ha] at this
      omega
    · have := placeA_lt (a := b) (b := a) w2 (by omega) n
      rw [if_pos hb] at this
      omega
theorem atC_at {x : Nat → Nat → Nat} {n : Nat} {p : Int} : ∀ k : Nat, atC x n p k ≠ -1 → ∃ j : Nat, j < k ∧ plC x n (wC x j) j = p
  | 0, h => absurd rfl h
  | k + 1, h => by
    by_cases h1 : atC x n p k = -1
    · by_cases h2 : plC x n (wC x k) k = p
      · exact ⟨k, by omega, h2⟩
      · exact absurd (atC_miss h1 h2) h
    · obtain ⟨j, h3, h4⟩ := atC_at k h1
      exact ⟨j, by omega, h4⟩
theorem atC_S {x f : Nat → Nat → Nat} {n : Nat} {p : Int} (hp : 1 ≤ p) (hpl : ∀ k, k < n → plC x n (wC x k) k = placeS f n k) : ∀ k : Nat, k ≤ n → atC x n p k = atA f n p k
  | 0, _ => rfl
  | k + 1, hk => by
    have ih := atC_S hp hpl k (by omega)
    have h0 := hpl k (by omega)
    by_cases h1 : atC x n p k = -1
    · by_cases h2 : plC x n (wC x k) k = p
      · rw [atC_hit h1 h2 (Nat.lt_succ_self k)]
        exact (if_pos (by rw [← h0]; exact h2)).symm
      · rw [atC_miss h1 h2]
        refine Eq.trans ?_ (if_neg (by rw [← h0]; exact h2)).symm
        rw [← ih, h1]
    · obtain ⟨j, h3, h4⟩ := atC_at k h1
      have e := atC_stay h1 1
      rw [e, ih]
      refine (if_neg (fun z => ?_)).symm
      have := placeS_inj hp (show j < n by omega) (show k < n by omega) (by rw [← hpl j (by omega)]; exact h4) z
      omega
