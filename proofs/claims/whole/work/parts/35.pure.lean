/-! the class's numbers are the reference's -/
theorem lackC_S {v : Nat → Nat} {n s : Nat} {f : Nat → Nat → Nat} (hn : n = f 18 s) (h3 : n ≤ 3) (hv : ∀ j, j < n → v j = f 16 (3 * s + j)) (hi : n = 3 → (v 1 : Int) + 3 < v 0 ∨ (v 0 : Int) + 3 < v 1) : lackC v n = (lackS f s : Int) := by
  unfold lackC lackS
  rw [← hn]
  by_cases h : 2 ≤ n
  · have e0 : v 0 = f 16 (3 * s) := hv 0 (by omega)
    have e1 : v 1 = f 16 (3 * s + 1) := hv 1 (by omega)
    rw [← e0, ← e1]
    split <;> split <;> (try split) <;> omega
  · rw [if_neg (by omega), if_pos (by omega)]
    omega
theorem gradeC_S {v : Nat → Nat} {n s : Nat} {f : Nat → Nat → Nat} (hn : n = f 18 s) (h3 : n ≤ 3) (hv : ∀ j, j < n → v j = f 16 (3 * s + j)) (hi : n = 3 → (v 1 : Int) + 3 < v 0 ∨ (v 0 : Int) + 3 < v 1) : gradeC v n = gradeS f s := by
  have hl := lackC_S hn h3 hv hi
  unfold gradeC gradeS
  by_cases h : 0 < lackS f s
  · rw [if_pos (by omega), if_pos h]
  · rw [if_neg (by omega), if_neg h, ← hn]
    have h2 : 2 ≤ n := by
      unfold lackS at h
      rw [← hn] at h
      split at h <;> omega
    have e0 : v 0 = f 16 (3 * s) := hv 0 (by omega)
    have e1 : v 1 = f 16 (3 * s + 1) := hv 1 (by omega)
    rw [← e0, ← e1]
    by_cases h4 : n = 2
    · rw [if_pos (by omega), if_pos h4]
      have : min (v 0) (v 1) + max (v 0) (v 1) = v 0 + v 1 := by omega
      rw [this]
    · have e2 : v 2 = f 16 (3 * s + 2) := hv 2 (by omega)
      rw [if_neg (by omega), if_neg h4, ← e2]
      split <;> (try split) <;> omega
theorem hasC_S {q : Nat → Nat} {n s e : Nat} {f : Nat → Nat → Nat} (hv : ∀ j, j < n → q j = f 17 (3 * s + j)) : hasC q e n = hasA f e s n := by
  induction n with
  | zero => rfl
  | succ n ih =>
    have h1 := ih (fun j hj => hv j (by omega))
    unfold hasC hasA
    rw [h1, hv n (by omega)]
theorem sumA_pts {g : Nat → Nat} {s : Nat} {f : Nat → Nat → Nat} : ∀ n : Nat, (∀ j, j < n → g j = f 21 (4 * s + j)) → sumA g n = ptsA f s n
  | 0, _ => rfl
  | n + 1, h => by
    unfold sumA ptsA
    rw [sumA_pts n (fun j hj => h j (by omega)), h n (by omega)]
theorem sumA_slips {g : Nat → Nat} {s : Nat} {f : Nat → Nat → Nat} : ∀ n : Nat, (∀ j, j < n → (g j : Int) = slipsK f s j) → (sumA g n : Int) = allSlipsA f s n
  | 0, _ => rfl
  | n + 1, h => by
    have h1 := sumA_slips n (fun j hj => h j (by omega))
    have h2 := h n (by omega)
    unfold sumA allSlipsA
    omega
theorem worthC_S {v pt sc : Nat → Nat} {n s sh : Nat} {f : Nat → Nat → Nat} (hg : gradeC v n = gradeS f s) (hsh : sh = f 20 s) (hp : ∀ j, j < 4 → pt j = f 21 (4 * s + j)) (hs : ∀ j, j < 5 → (sc j : Int) = slipsK f s j) : worthC v n sh pt sc = worthS f s := by
  have h1 := sumA_pts 4 hp
  have h2 := sumA_slips 5 hs
  unfold worthC worthS pts allSlips
  rw [hg, hsh, h1, h2]
  by_cases h : f 20 s = 0 ∨ gradeS f s = -1
  · rw [if_pos h, if_pos (by omega)]
  · rw [if_neg h, if_neg (by omega)]
theorem plA_S {x f : Nat → Nat → Nat} {w : Int} (hw : -9999 < w) (s : Nat) : ∀ n : Nat, (∀ k, k < n → wC x k = worthS f k) → plA x w s n = placeA f w s n
  | 0, _ => rfl
  | n + 1, h => by
    have h1 := plA_S hw s n (fun k hk => h k (by omega))
    have h2 := h n (by omega)
    unfold plA placeA aheadS
    rw [h1, h2]
    congr 2
    by_cases h3 : w < worthS f n ∨ (worthS f n = w ∧ n < s)
    · rw [decide_eq_true h3, decide_eq_true ⟨by omega, h3⟩]
    · rw [decide_eq_false h3, decide_eq_false (fun z => h3 z.2)]
theorem plC_S {x f : Nat → Nat → Nat} {n s : Nat} (hs : s < n) (hb : -9999 ≤ wC x s) (h : ∀ k, k < n → wC x k = worthS f k) : plC x n (wC x s) s = placeS f n s := by
  have h1 := h s hs
  unfold plC placeS
  rw [← h1]
  by_cases h2 : wC x s = -9999
  · rw [if_pos h2, if_pos h2]
  · rw [if_neg h2, if_neg h2, plA_S (f := f) (by omega) s n h]
theorem bndC_S {gl gr : Nat → Nat} {f : Nat → Nat → Nat} {left : Nat} : ∀ n : Nat, (∀ b, b < n → cntC gl gr left b = f 9 (stackN b left)) → bndC gl gr left n = bandA f left n
  | 0, _ => rfl
  | n + 1, h => by
    have h1 := bndC_S n (fun b hb => h b (by omega))
    have h2 := h n (by omega)
    unfold bndC bandA
    rw [h1, h2]
    by_cases h3 : f 9 (stackN n left) = 0
    · rw [if_neg (by omega), if_pos h3]
    · rw [if_pos (by omega), if_neg h3]
theorem remA_S {q v : Nat → Nat} {f : Nat → Nat → Nat} {e s N : Nat} (hq : ∀ j, j < N → q j = f 17 (3 * s + j)) (hv : ∀ j, j < N → v j = f 16 (3 * s + j)) : ∀ n : Nat, n ≤ N → (remA q v e n).1 = (dropA f e s n).1 ∧ (dropA f e s n).1 ≤ n ∧ ∀ j, j < N → (remA q v e n).2.1 j = (dropA f e s n).2.2 (3 * s + j) ∧ (remA q v e n).2.2 j = (dropA f e s n).2.1 (3 * s + j)
  | 0, _ => ⟨rfl, Nat.le_refl _, fun j hj => ⟨hq j hj, hv j hj⟩⟩
  | n + 1, hn => by
    obtain ⟨h1, h2, h3⟩ := remA_S hq hv n (by omega)
    have h4 := h3 n (by omega)
    by_cases c : (remA q v e n).2.1 n = e
    · have c2 : (dropA f e s n).2.2 (3 * s + n) = e := h4.1 ▸ c
      have e1 : dropA f e s (n + 1) = dropA f e s n := if_pos c2
      rw [remA_eq c, e1]
      exact ⟨h1, by omega, h3⟩
    · have c2 : ¬ (dropA f e s n).2.2 (3 * s + n) = e := h4.1 ▸ c
      have e1 : dropA f e s (n + 1) = ((dropA f e s n).1 + 1, va_up (dropA f e s n).2.1 (3 * s + (dropA f e s n).1) ((dropA f e s n).2.1 (3 * s + n)), va_up (dropA f e s n).2.2 (3 * s + (dropA f e s n).1) ((dropA f e s n).2.2 (3 * s + n))) := if_neg c2
      rw [remA_ne c, e1]
      refine ⟨by show _ + 1 = _ + 1; rw [h1], by show _ + 1 ≤ _; omega, fun j hj => ?_⟩
      show va_up _ _ _ j = va_up _ _ _ _ ∧ va_up _ _ _ j = va_up _ _ _ _
      rw [h1, h4.1, h4.2]
      by_cases ej : j = (dropA f e s n).1
      · subst ej
        rw [va_up_self, va_up_self, va_up_self, va_up_self]
        exact ⟨rfl, rfl⟩
      · rw [va_up_ne _ _ ej, va_up_ne _ _ (by omega), va_up_ne _ _ ej, va_up_ne _ _ (by omega)]
        exact h3 j hj
