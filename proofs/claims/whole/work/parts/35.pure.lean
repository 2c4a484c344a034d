/-! the class's numbers are the reference's -/
theorem lackC_S {v : Nat → Nat} {n s : Nat} {f : Nat → Nat → Nat} (hn : n = f 18 s) (h3 : n ≤ 3) (hv : ∀ j, j < n → v j = f 16 (3 * s + j)) (hi : n = 3 → (v 1 : Int) + 3 < v 0 ∨ (v 0 : Int) + 3 < v 1) : lackC v n = (lackS f s : Int) := by
  unfold lackC lackS
  rw [← hn]
  by_cases h : 2 ≤ n
  · have e0 : v 0 = f 16 (3 * s) := hv 0 (by omega)
    have e1 : v 1 = f 16 (3 * s + 1) := hv 1 (by omega)
    rw [← e0, ← e1]
    split <;> split <;> (try split) <;> omega
  · rw [if_neg (by omega), if_pos (by omega)]
    omega
theorem gradeC_S {v : Nat → Nat} {n s : Nat} {f : Nat → Nat → Nat} (hn : n = f 18 s) (h3 : n ≤ 3) (hv : ∀ j, j < n → v j = f 16 (3 * s + j)) (hi : n = 3 → (v 1 : Int) + 3 < v 0 ∨ (v 0 : Int) + 3 < v 1) : gradeC v n = gradeS f s := by
  have hl := lackC_S hn h3 hv hi
  unfold gradeC gradeS
  by_cases h : 0 < lackS f s
  · rw [if_pos (by omega), if_pos h]
  · rw [if_neg (by omega), if_neg h, ← hn]
    have h2 : 2 ≤ n := by
      unfold lackS at h
      rw [← hn] at h
      split at h <;> omega
    have e0 : v 0 = f 16 (3 * s) := hv 0 (by omega)
    have e1 : v 1 = f 16 (3 * s + 1) := hv 1 (by omega)
    rw [← e0, ← e1]
    by_cases h4 : n = 2
    · rw [if_pos (by omega), if_pos h4]
      have : min (v 0) (v 1) + max (v 0) (v 1) = v 0 + v 1 := by omega
      rw [this]
    · have e2 : v 2 = f 16 (3 * s + 2) := hv 2 (by omega)
      rw [if_neg (by omega), if_neg h4, ← e2]
      split <;> (try split) <;> omega
theorem hasC_S {q : Nat → Nat} {n s e : Nat} {f : Nat → Nat → Nat} (hv : ∀ j, j < n → q j = f 17 (3 * s + j)) : hasC q e n = hasA f e s n := by
  induction n with
  | zero => rfl
  | succ n ih =>
    have h1 := ih (fun j hj => hv j (by omega))
    unfold hasC hasA
    rw [h1, hv n (by omega)]
