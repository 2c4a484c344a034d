/-! the fewest to leave out: c less the longest rise -/
theorem lrI_ge {r L : Nat → Nat} {k j : Nat} (hr : r j < r k) : ∀ n : Nat, j < n → L j + 1 ≤ lrI r L k n
  | 0, h => absurd h (Nat.not_lt_zero j)
  | n + 1, h => by
    have e : lrI r L k (n + 1) = if r n < r k then max (lrI r L k n) (L n + 1) else lrI r L k n := rfl
    by_cases ej : j = n
    · subst ej
      rw [e, if_pos hr]
      omega
    · have ih := lrI_ge (L := L) hr n (by omega)
      rw [e]
      split <;> omega
theorem lrI_cases (r L : Nat → Nat) (k : Nat) : ∀ n : Nat, lrI r L k n = 1 ∨ ∃ j, j < n ∧ r j < r k ∧ lrI r L k n = L j + 1
  | 0 => Or.inl rfl
  | n + 1 => by
    have e : lrI r L k (n + 1) = if r n < r k then max (lrI r L k n) (L n + 1) else lrI r L k n := rfl
    have ih := lrI_cases r L k n
    rw [e]
    by_cases h : r n < r k
    · rw [if_pos h]
      by_cases h2 : lrI r L k n ≤ L n + 1
      · exact Or.inr ⟨n, by omega, h, by omega⟩
      · rw [show max (lrI r L k n) (L n + 1) = lrI r L k n by omega]
        rcases ih with h3 | ⟨j, h3, h4, h5⟩
        · exact Or.inl h3
        · exact Or.inr ⟨j, by omega, h4, h5⟩
    · rw [if_neg h]
      rcases ih with h3 | ⟨j, h3, h4, h5⟩
      · exact Or.inl h3
      · exact Or.inr ⟨j, by omega, h4, h5⟩
theorem lr_self (r : Nat → Nat) (k : Nat) : lrI r (lr r) k k = lr r k := lr_eq (fun _ _ => rfl)
theorem lr_ge {r : Nat → Nat} {j k : Nat} (hj : j < k) (hr : r j < r k) : lr r j + 1 ≤ lr r k := by
  rw [← lr_self r k]
  exact lrI_ge hr k hj
theorem lr_cases (r : Nat → Nat) (k : Nat) : lr r k = 1 ∨ ∃ j, j < k ∧ r j < r k ∧ lr r k = lr r j + 1 := by
  have h := lrI_cases r (lr r) k k
  rw [lr_self] at h
  exact h
theorem lrM_ge (r : Nat → Nat) {j : Nat} : ∀ n : Nat, j < n → lr r j ≤ lrM r n
  | 0, h => absurd h (Nat.not_lt_zero j)
  | n + 1, h => by
    unfold lrM
    by_cases e : j = n
    · subst e; omega
    · have := lrM_ge r n (show j < n by omega)
      omega
theorem lrM_at (r : Nat → Nat) : ∀ n : Nat, lrM r n = 0 ∨ ∃ j, j < n ∧ lrM r n = lr r j
  | 0 => Or.inl rfl
  | n + 1 => by
    have ih := lrM_at r n
    unfold lrM
    by_cases h : lrM r n ≤ lr r n
    · exact Or.inr ⟨n, by omega, by omega⟩
    · rw [show max (lrM r n) (lr r n) = lrM r n by omega]
      rcases ih with h3 | ⟨j, h3, h4⟩
      · exact Or.inl h3
      · exact Or.inr ⟨j, by omega, h4⟩
/-- ordA by the word of what stays -/
def ordP (r : Nat → Nat) (p : Nat → Bool) : Nat → Option Int
  | 0 => some (-1)
  | n + 1 => match ordP r p n with
    | none => none
    | some z => if p n = true then (if (r n : Int) < z then none else some (r n : Int)) else some z
theorem ordP_cong {r : Nat → Nat} {p q : Nat → Bool} : ∀ n : Nat, (∀ j, j < n → p j = q j) → ordP r p n = ordP r q n
  | 0, _ => rfl
  | n + 1, h => by
    unfold ordP
    rw [ordP_cong n (fun j hj => h j (by omega)), h n (by omega)]
theorem ordP_A (r : Nat → Nat) (set : Nat) : ∀ n : Nat, ordP r (outB set) n = ordA r set n
  | 0 => rfl
  | n + 1 => by
    have ih := ordP_A r set n
    show (match ordP r (outB set) n with | none => none | some z => if outB set n = true then (if (r n : Int) < z then none else some (r n : Int)) else some z) = (match ordA r set n with | none => none | some z => if outB set n = true then (if (r n : Int) < z then none else some (r n : Int)) else some z)
    rw [ih]
theorem ordP_skip {r : Nat → Nat} {p : Nat → Bool} {m : Nat} {z : Int} (h : ordP r p m = some z) : ∀ d : Nat, (∀ k, m ≤ k → k < m + d → p k = false) → ordP r p (m + d) = some z ∧ usedN p (m + d) = usedN p m
  | 0, _ => ⟨h, rfl⟩
  | d + 1, hp => by
    obtain ⟨h1, h2⟩ := ordP_skip h d (fun k a b => hp k a (by omega))
    have h3 := hp (m + d) (by omega) (by omega)
    refine ⟨?_, ?_⟩
    · show (match ordP r p (m + d) with | none => none | some z => _) = _
      rw [h1]
      show (if p (m + d) = true then _ else _) = _
      rw [h3]
      rfl
    · show usedN p (m + d) + b2 (p (m + d)) = _
      rw [h2, h3]
      rfl
theorem ordP_take {r : Nat → Nat} {p : Nat → Bool} {m : Nat} {z : Int} (h : ordP r p m = some z) (hp : p m = true) (hz : z ≤ (r m : Int)) : ordP r p (m + 1) = some (r m : Int) ∧ usedN p (m + 1) = usedN p m + 1 := by
  refine ⟨?_, ?_⟩
  · show (match ordP r p m with | none => none | some z => _) = _
    rw [h]
    show (if p m = true then _ else _) = _
    rw [if_pos hp, if_neg (by omega)]
  · show usedN p m + b2 (p m) = _
    rw [hp]
    rfl
theorem ordP_keep {r : Nat → Nat} {p : Nat → Bool} {c : Nat} (hd : ∀ a b, a < b → b < c → r a ≠ r b) : ∀ m : Nat, m ≤ c → ∀ z, ordP r p m = some z → (usedN p m = 0 ∧ z = -1) ∨ ∃ j, j < m ∧ z = (r j : Int) ∧ usedN p m ≤ lr r j
  | 0, _, z, h => by
    cases h
    exact Or.inl ⟨rfl, rfl⟩
  | m + 1, hm, z, h => by
    have e : ordP r p (m + 1) = match ordP r p m with | none => none | some z => if p m = true then (if (r m : Int) < z then none else some (r m : Int)) else some z := rfl
    have eu : usedN p (m + 1) = usedN p m + b2 (p m) := rfl
    rw [e] at h
    cases h0 : ordP r p m with
    | none => rw [h0] at h; cases h
    | some z0 =>
      rw [h0] at h
      have ih := ordP_keep hd m (by omega) z0 h0
      cases hp : p m with
      | false =>
        rw [hp] at h eu
        have h : some z0 = some z := h
        cases h
        rw [eu]
        rcases ih with ⟨h1, h2⟩ | ⟨j, h1, h2, h3⟩
        · exact Or.inl ⟨h1, h2⟩
        · exact Or.inr ⟨j, by omega, h2, h3⟩
      | true =>
        rw [hp] at h eu
        have h : (if (r m : Int) < z0 then none else some (r m : Int)) = some z := h
        by_cases h4 : (r m : Int) < z0
        · rw [if_pos h4] at h; cases h
        · rw [if_neg h4] at h
          cases h
          have e1 : b2 true = 1 := rfl
          refine Or.inr ⟨m, by omega, rfl, ?_⟩
          rw [eu, e1]
          rcases ih with ⟨h1, h2⟩ | ⟨j, h1, h2, h3⟩
          · have := lr_pos r m; omega
          · have h5 := hd j m h1 (by omega)
            have := lr_ge (r := r) h1 (show r j < r m by omega)
            omega
theorem ordP_best (r : Nat → Nat) : ∀ n j : Nat, j < n → ∃ p : Nat → Bool, ordP r p (j + 1) = some (r j : Int) ∧ usedN p (j + 1) = lr r j
  | 0, j, h => absurd h (Nat.not_lt_zero j)
  | n + 1, j, h => by
    rcases lr_cases r j with h1 | ⟨i, h1, h2, h3⟩
    · have h0 : ordP r (fun k => decide (k = j)) 0 = some (-1) := rfl
      obtain ⟨a1, a2⟩ := ordP_skip h0 j (fun k _ hk => decide_eq_false (by omega))
      rw [Nat.zero_add] at a1 a2
      obtain ⟨a3, a4⟩ := ordP_take a1 (decide_eq_true rfl) (by omega)
      exact ⟨_, a3, by rw [a4, a2, h1]; rfl⟩
    · obtain ⟨p, b1, b2⟩ := ordP_best r n i (by omega)
      have hc : ∀ k, k < i + 1 → (fun k => if k ≤ i then p k else decide (k = j)) k = p k := fun k hk => if_pos (by omega)
      have c1 : ordP r (fun k => if k ≤ i then p k else decide (k = j)) (i + 1) = some (r i : Int) := (ordP_cong _ hc).trans b1
      have c2 : usedN (fun k => if k ≤ i then p k else decide (k = j)) (i + 1) = lr r i := (usedN_cong _ hc).trans b2
      obtain ⟨a1, a2⟩ := ordP_skip c1 (j - (i + 1)) (fun k h4 h5 => by
        show (if k ≤ i then p k else decide (k = j)) = false
        rw [if_neg (by omega)]
        exact decide_eq_false (by omega))
      rw [show i + 1 + (j - (i + 1)) = j by omega] at a1 a2
      obtain ⟨a3, a4⟩ := ordP_take a1 (by show (if j ≤ i then p j else decide (j = j)) = true; rw [if_neg (by omega)]; exact decide_eq_true rfl) (by omega)
      exact ⟨_, a3, by rw [a4, a2, c2, h3]⟩
theorem set_of (p : Nat → Bool) : ∀ c : Nat, ∃ set, set < 2 ^ c ∧ ∀ i, i < c → outB set i = p i
  | 0 => ⟨0, by decide, fun i h => absurd h (Nat.not_lt_zero i)⟩
  | c + 1 => by
    obtain ⟨set, h1, h2⟩ := set_of p c
    have hp : 0 < 2 ^ c := Nat.two_pow_pos c
    refine ⟨set + 2 ^ c * b2 (!p c), ?_, fun i hi => ?_⟩
    · have := b2_le (!p c)
      have : 2 ^ c * b2 (!p c) ≤ 2 ^ c * 1 := Nat.mul_le_mul_left _ this
      rw [Nat.pow_succ]
      omega
    · by_cases e : i = c
      · subst e
        unfold outB
        rw [Nat.add_mul_div_left _ _ hp, Nat.div_eq_of_lt h1]
        cases p i <;> decide
      · rw [← h2 i (by omega)]
        unfold outB
        have e2 : 2 ^ c * b2 (!p c) = 2 ^ i * (2 * (2 ^ (c - i - 1) * b2 (!p c))) := by
          rw [← Nat.mul_assoc, ← Nat.mul_assoc, ← Nat.pow_succ, ← Nat.pow_add]
          congr 2
          omega
        rw [e2, Nat.add_mul_div_left _ _ (Nat.two_pow_pos i), Nat.add_mul_mod_self_left]
theorem pop_used : ∀ c, c < 7 → ∀ n, n < 64 → n < 2 ^ c → popN n + usedN (outB n) c = c := by decide +kernel
theorem fewA_at {r : Nat → Nat} {c n : Nat} (ho : ordW r c n = true) : ∀ N : Nat, n < N → fewA r c N ≤ popN n
  | 0, h => absurd h (Nat.not_lt_zero n)
  | N + 1, h => by
    unfold fewA
    by_cases e : n = N
    · subst e
      rw [if_pos ho]
      omega
    · have := fewA_at ho N (by omega)
      split <;> omega
theorem fewA_from {r : Nat → Nat} {c v : Nat} (hv : v ≤ c) : ∀ N : Nat, (∀ n, n < N → ordW r c n = true → v ≤ popN n) → v ≤ fewA r c N
  | 0, _ => hv
  | N + 1, h => by
    have ih := fewA_from hv N (fun n hn => h n (by omega))
    unfold fewA
    split
    · next ho =>
      have := h N (by omega) ho
      omega
    · exact ih
theorem fewL_lr {r : Nat → Nat} {c : Nat} (hc : c ≤ 6) (hd : ∀ a b, a < b → b < c → r a ≠ r b) : fewL r c = c - lrM r c := by
  have h64 : (2 : Nat) ^ c ≤ 64 := two_pow_le hc
  have hM := lrM_le r c
  refine Nat.le_antisymm ?_ ?_
  · obtain ⟨p, h1, h2⟩ : ∃ p : Nat → Bool, (ordP r p c).isSome = true ∧ usedN p c = lrM r c := by
      rcases lrM_at r c with h | ⟨j, h, h2⟩
      · have h0 : ordP r (fun _ => false) 0 = some (-1) := rfl
        obtain ⟨a1, a2⟩ := ordP_skip h0 c (fun _ _ _ => rfl)
        rw [Nat.zero_add] at a1 a2
        exact ⟨fun _ => false, by rw [a1]; rfl, by rw [a2, h]; rfl⟩
      · obtain ⟨p, b1, b2⟩ := ordP_best r (j + 1) j (Nat.lt_succ_self j)
        have hcg : ∀ k, k < j + 1 → (fun k => if k ≤ j then p k else false) k = p k := fun k hk => if_pos (by omega)
        have c1 := (ordP_cong (r := r) _ hcg).trans b1
        have c2 := (usedN_cong _ hcg).trans b2
        obtain ⟨a1, a2⟩ := ordP_skip c1 (c - (j + 1)) (fun k h4 h5 => if_neg (by omega))
        rw [show j + 1 + (c - (j + 1)) = c by omega] at a1 a2
        exact ⟨_, by rw [a1]; rfl, by rw [a2, c2, h2]⟩
    obtain ⟨set, s1, s2⟩ := set_of p c
    have ho : ordW r c set = true := by
      unfold ordW
      rw [← ordP_A, ordP_cong c s2]
      exact h1
    have h3 := fewA_at ho (2 ^ c) s1
    have h4 := pop_used c (by omega) set (by omega) s1
    rw [usedN_cong c s2, h2] at h4
    unfold fewL
    omega
  · unfold fewL
    refine fewA_from (by omega) _ (fun n hn ho => ?_)
    have h4 := pop_used c (by omega) n (by omega) hn
    unfold ordW at ho
    rw [← ordP_A] at ho
    cases hz : ordP r (outB n) c with
    | none => rw [hz] at ho; cases ho
    | some z =>
      rcases ordP_keep hd c (Nat.le_refl _) z hz with ⟨h5, -⟩ | ⟨j, h5, h6, h7⟩
      · omega
      · have := lrM_ge r c h5
        omega
section WRT
variable {f : Nat → Nat → Nat} {s : Nat} {gm : Nat → Nat} {nm : Nat} {gd : Nat → Nat} {nd : Nat}
theorem countA_mono (f : Nat → Nat → Nat) (s : Nat) {a : Nat} : ∀ d : Nat, countA f s a ≤ countA f s (a + d)
  | 0 => Nat.le_refl _
  | d + 1 => Nat.le_trans (countA_mono f s d) (Nat.le_add_right _ _)
theorem countA_at (f : Nat → Nat → Nat) (s : Nat) {j : Nat} : ∀ n : Nat, j < countA f s n → ∃ k, k < n ∧ cnts f s k = true ∧ countA f s k = j
  | 0, h => absurd h (Nat.not_lt_zero j)
  | n + 1, h => by
    have e : countA f s (n + 1) = countA f s n + b2 (cnts f s n) := rfl
    rw [e] at h
    by_cases h1 : j < countA f s n
    · obtain ⟨k, a, b, c⟩ := countA_at f s n h1
      exact ⟨k, by omega, b, c⟩
    · cases hc : cnts f s n with
      | false => rw [hc] at h; exact absurd h h1
      | true =>
        rw [hc] at h
        have : b2 true = 1 := rfl
        exact ⟨n, by omega, hc, by omega⟩
theorem WR.dist (h : WR f s gm nm gd nd) : ∀ a b, a < b → b < (cmpA gm nm gd nd (fun _ => 0) nd).1 → (cmpA gm nm gd nd (fun _ => 0) nd).2.1 a ≠ (cmpA gm nm gd nd (fun _ => 0) nd).2.1 b := by
  obtain ⟨h1, h2, h3, h4⟩ := h.cmp nd (Nat.le_refl _)
  intro a b hab hb
  rw [h1] at hb
  obtain ⟨ka, a1, a2, a3⟩ := countA_at f s nd (show a < countA f s nd by omega)
  obtain ⟨kb, b1, b2, b3⟩ := countA_at f s nd hb
  have e1 := (h4 ka a1 a2).2
  have e2 := (h4 kb b1 b2).2
  rw [a3] at e1
  rw [b3] at e2
  rw [e1, e2]
  have hk : ka < kb := by
    rcases Nat.lt_or_ge ka kb with hk | hk
    · exact hk
    · have := countA_mono f s (a := kb) (ka - kb)
      rw [show kb + (ka - kb) = ka by omega] at this
      omega
  obtain ⟨c1, c2⟩ := (cntsA_iff f s kb kb).mp b2
  obtain ⟨c3, c4⟩ := (cntsA_iff f s ka ka).mp a2
  have d1 : -1 ≤ sOn f s ka := (sOnA_bd9 f s ka _).1
  have d2 : -1 ≤ sOn f s kb := (sOnA_bd9 f s kb _).1
  have := c2 ka hk
  omega
theorem WR.few (h : WR f s gm nm gd nd) : ((fewL (cmpA gm nm gd nd (fun _ => 0) nd).2.1 (cmpA gm nm gd nd (fun _ => 0) nd).1 : Nat) : Int) = slipsK f s 3 := by
  have h6 : (cmpA gm nm gd nd (fun _ => 0) nd).1 ≤ 6 := Nat.le_trans h.rk h.hm6
  rw [fewL_lr h6 h.dist, ← h.slp (by decide)]
  unfold slpC
  rw [va_up_self]
end WRT
