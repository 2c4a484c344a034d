/-! ## places: each ranked script has one of its own -/
theorem u_sub {p q : Nat → Bool} : ∀ n : Nat, (∀ i, i < n → p i = true → q i = true) → usedN p n ≤ usedN q n
  | 0, _ => Nat.le_refl _
  | n + 1, h => by
    have ih := u_sub n (fun i hi => h i (by omega))
    have h2 : b2 (p n) ≤ b2 (q n) := by
      cases hp : p n with
      | true => rw [h n (by omega) hp]; exact Nat.le_refl _
      | false => exact Nat.zero_le _
    unfold usedN
    omega
theorem u_lt {p q : Nat → Bool} {j : Nat} (hj1 : q j = true) (hj2 : p j = false) : ∀ n : Nat, (∀ i, i < n → p i = true → q i = true) → j < n → usedN p n + 1 ≤ usedN q n
  | 0, _, hj => absurd hj (Nat.not_lt_zero j)
  | n + 1, h, hj => by
    by_cases e : j = n
    · subst e
      have h1 := u_sub j (fun i hi => h i (by omega))
      unfold usedN
      rw [hj1, hj2]
      show usedN p j + 0 + 1 ≤ usedN q j + 1
      omega
    · have ih := u_lt hj1 hj2 n (fun i hi => h i (by omega)) (by omega)
      have h2 : b2 (p n) ≤ b2 (q n) := by
        cases hp : p n with
        | true => rw [h n (by omega) hp]; exact Nat.le_refl _
        | false => exact Nat.zero_le _
      unfold usedN
      omega
theorem u_add {p q r : Nat → Bool} : ∀ n : Nat, (∀ i, i < n → b2 (p i) + b2 (q i) = b2 (r i)) → usedN p n + usedN q n = usedN r n
  | 0, _ => rfl
  | n + 1, h => by
    have ih := u_add n (fun i hi => h i (by omega))
    have h2 := h n (by omega)
    unfold usedN
    omega
theorem u_one {p : Nat → Bool} : ∀ n : Nat, (∀ i j, i < n → j < n → p i = true → p j = true → i = j) → usedN p n ≤ 1
  | 0, _ => Nat.zero_le _
  | n + 1, h => by
    have ih := u_one n (fun i j hi hj => h i j (by omega) (by omega))
    unfold usedN
    cases hp : p n with
    | false => show usedN p n + 0 ≤ 1; omega
    | true =>
      have h0 : usedN p n = 0 := by
        rcases Nat.eq_zero_or_pos (usedN p n) with z | z
        · exact z
        · exfalso
          have : ∀ m : Nat, m ≤ n → 0 < usedN p m → ∃ i, i < m ∧ p i = true := by
            intro m
            induction m with
            | zero => intro _ z; exact absurd z (Nat.lt_irrefl _)
            | succ m ihm =>
              intro hm z
              cases hq : p m with
              | true => exact ⟨m, Nat.lt_succ_self m, hq⟩
              | false =>
                have z2 : 0 < usedN p m := by
                  have e : usedN p (m + 1) = usedN p m + b2 (p m) := rfl
                  rw [e, hq] at z
                  exact z
                obtain ⟨i, a, b⟩ := ihm (by omega) z2
                exact ⟨i, by omega, b⟩
          obtain ⟨i, a, b⟩ := this n (Nat.le_refl _) z
          have := h i n (by omega) (by omega) b hp
          omega
      show usedN p n + 1 ≤ 1
      omega
theorem u_ex {p : Nat → Bool} : ∀ n : Nat, 0 < usedN p n → ∃ i, i < n ∧ p i = true
  | 0, h => absurd h (Nat.lt_irrefl _)
  | n + 1, h => by
    cases hq : p n with
    | true => exact ⟨n, Nat.lt_succ_self n, hq⟩
    | false =>
      have h2 : 0 < usedN p n := by
        have e : usedN p (n + 1) = usedN p n + b2 (p n) := rfl
        rw [e, hq] at h
        exact h
      obtain ⟨i, a, b⟩ := u_ex n h2
      exact ⟨i, by omega, b⟩
/-- ahead of s; ranked -/
def ahB (x : Nat → Nat → Nat) (s i : Nat) : Bool := decide (wC x s < wC x i ∨ (wC x i = wC x s ∧ i < s))
def rkB (x : Nat → Nat → Nat) (i : Nat) : Bool := decide (wC x i ≠ -9999)
theorem plA_u (x : Nat → Nat → Nat) (s : Nat) : ∀ n : Nat, plA x (wC x s) s n = 1 + usedN (ahB x s) n
  | 0 => rfl
  | n + 1 => by
    have ih := plA_u x s n
    have e1 : plA x (wC x s) s (n + 1) = plA x (wC x s) s n + b2 (decide (wC x s < wC x n ∨ (wC x n = wC x s ∧ n < s))) := rfl
    have e2 : usedN (ahB x s) (n + 1) = usedN (ahB x s) n + b2 (ahB x s n) := rfl
    rw [e1, e2, ih]
    show _ = 1 + (usedN (ahB x s) n + b2 (decide (wC x s < wC x n ∨ (wC x n = wC x s ∧ n < s))))
    omega
section RKS
variable {n : Nat} {c : Nat → Nat} {x : Nat → Nat → Nat}
/-- how many are ranked -/
def rkN (c : Nat → Nat) (x : Nat → Nat → Nat) : Nat := usedN (rkB x) (c 3)
theorem rk_le (c : Nat → Nat) (x : Nat → Nat → Nat) : rkN c x ≤ c 3 := usedN_le _ _
/-- the place as a number: 0 without one -/
def pnV (c : Nat → Nat) (x : Nat → Nat → Nat) (s : Nat) : Nat := if wC x s = -9999 then 0 else 1 + usedN (ahB x s) (c 3)
theorem pl_pn (s : Nat) : plV c x s = if wC x s = -9999 then -1 else (pnV c x s : Int) := by
  unfold plV plC pnV
  by_cases h : wC x s = -9999
  · rw [if_pos h, if_pos h]
  · rw [if_neg h, if_neg h, if_neg h, plA_u]
theorem pn_bd (h : CI n c x) (s : Nat) (hs : s < c 3) (hw : wC x s ≠ -9999) : 1 ≤ pnV c x s ∧ pnV c x s ≤ rkN c x := by
  have hb := w_bd h s
  unfold pnV rkN
  rw [if_neg hw]
  have h1 : usedN (ahB x s) (c 3) + 1 ≤ usedN (rkB x) (c 3) := u_lt (j := s) (decide_eq_true hw) (decide_eq_false (by omega)) (c 3) (fun i hi ha => by
    have ha := of_decide_eq_true ha
    exact decide_eq_true (by omega)) hs
  omega
theorem pn_mono (s t : Nat) (hs : s < c 3) (hws : wC x s ≠ -9999) (hwt : wC x t ≠ -9999) (ha : wC x t < wC x s ∨ (wC x s = wC x t ∧ s < t)) : pnV c x s < pnV c x t := by
  unfold pnV
  rw [if_neg hws, if_neg hwt]
  have h1 : usedN (ahB x s) (c 3) + 1 ≤ usedN (ahB x t) (c 3) := u_lt (j := s) (decide_eq_true ha) (decide_eq_false (by omega)) (c 3) (fun i hi hi2 => by
    have hi2 := of_decide_eq_true hi2
    exact decide_eq_true (by omega)) hs
  omega
theorem pn_inj (s t : Nat) (hs : s < c 3) (ht : t < c 3) (hws : wC x s ≠ -9999) (hwt : wC x t ≠ -9999) (he : pnV c x s = pnV c x t) : s = t := by
  rcases Nat.lt_trichotomy s t with h | h | h
  · exfalso
    by_cases hw : wC x s < wC x t
    · have := pn_mono (c := c) t s ht hwt hws (Or.inl hw); omega
    · have := pn_mono (c := c) s t hs hws hwt (by omega); omega
  · exact h
  · exfalso
    by_cases hw : wC x t < wC x s
    · have := pn_mono (c := c) s t hs hws hwt (Or.inl hw); omega
    · have := pn_mono (c := c) t s ht hwt hws (by omega); omega
def cnB (f : Nat → Nat) (p i : Nat) : Bool := decide (f i = p)
def suP (f : Nat → Nat) (n : Nat) : Nat → Nat
  | 0 => 0
  | r + 1 => suP f n r + usedN (cnB f (r + 1)) n
theorem suP_u (f : Nat → Nat) (n : Nat) : ∀ r : Nat, suP f n r = usedN (fun i => decide (1 ≤ f i ∧ f i ≤ r)) n
  | 0 => by
    have h : usedN (fun i => decide (1 ≤ f i ∧ f i ≤ 0)) n = usedN (fun _ => false) n := usedN_cong n (fun i _ => decide_eq_false (by omega))
    have h2 : ∀ m : Nat, usedN (fun _ => false) m = 0 := by
      intro m
      induction m with
      | zero => rfl
      | succ m ih => exact ih
    rw [h, h2]
    rfl
  | r + 1 => by
    have ih := suP_u f n r
    show suP f n r + usedN (cnB f (r + 1)) n = _
    rw [ih]
    refine u_add n (fun i _ => ?_)
    show b2 (decide (1 ≤ f i ∧ f i ≤ r)) + b2 (decide (f i = r + 1)) = b2 (decide (1 ≤ f i ∧ f i ≤ r + 1))
    by_cases h1 : f i = r + 1
    · rw [decide_eq_false (show ¬ (1 ≤ f i ∧ f i ≤ r) by omega), decide_eq_true h1, decide_eq_true (show 1 ≤ f i ∧ f i ≤ r + 1 by omega)]; rfl
    · by_cases h2 : 1 ≤ f i ∧ f i ≤ r
      · rw [decide_eq_true h2, decide_eq_false h1, decide_eq_true (show 1 ≤ f i ∧ f i ≤ r + 1 by omega)]; rfl
      · rw [decide_eq_false h2, decide_eq_false h1, decide_eq_false (show ¬ (1 ≤ f i ∧ f i ≤ r + 1) by omega)]; rfl
theorem suP_le (f : Nat → Nat) (n : Nat) (h1 : ∀ p, 1 ≤ p → usedN (cnB f p) n ≤ 1) : ∀ r : Nat, suP f n r ≤ r
  | 0 => Nat.le_refl _
  | r + 1 => Nat.add_le_add (suP_le f n h1 r) (h1 _ (by omega))
theorem suP_all (f : Nat → Nat) (n : Nat) (h1 : ∀ p, 1 ≤ p → usedN (cnB f p) n ≤ 1) : ∀ r : Nat, suP f n r = r → ∀ p, 1 ≤ p → p ≤ r → 0 < usedN (cnB f p) n
  | 0, _, p, hp, hq => absurd (Nat.le_trans hp hq) (by decide)
  | r + 1, h, p, hp, hq => by
    have a := suP_le f n h1 r
    have b := h1 (r + 1) (by omega)
    have e : suP f n (r + 1) = suP f n r + usedN (cnB f (r + 1)) n := rfl
    rw [e] at h
    by_cases ep : p = r + 1
    · rw [ep]; omega
    · exact suP_all f n h1 r (by omega) p hp (by omega)
/-- each place up to the number of the ranked has its script -/
theorem pn_ex (h : CI n c x) (p : Nat) (hp : 1 ≤ p) (hq : p ≤ rkN c x) : ∃ s, s < c 3 ∧ wC x s ≠ -9999 ∧ pnV c x s = p := by
  have hz : ∀ i, wC x i = -9999 → pnV c x i = 0 := fun i hi => by unfold pnV; rw [if_pos hi]
  have h1 : ∀ p, 1 ≤ p → usedN (cnB (pnV c x) p) (c 3) ≤ 1 := fun p hp => u_one _ (fun i j hi hj a b => by
    have a := of_decide_eq_true a
    have b := of_decide_eq_true b
    exact pn_inj (c := c) i j hi hj (fun z => by rw [hz i z] at a; omega) (fun z => by rw [hz j z] at b; omega) (a.trans b.symm))
  have h2 : suP (pnV c x) (c 3) (rkN c x) = rkN c x := by
    rw [suP_u]
    unfold rkN
    refine usedN_cong _ (fun i hi => ?_)
    by_cases hw : wC x i = -9999
    · rw [show rkB x i = false from decide_eq_false (fun z => z hw)]
      exact decide_eq_false (by rw [hz i hw]; omega)
    · rw [show rkB x i = true from decide_eq_true hw]
      exact decide_eq_true (pn_bd h i hi hw)
  obtain ⟨s, a, b⟩ := u_ex _ (suP_all _ _ h1 _ h2 p hp hq)
  have b := of_decide_eq_true b
  exact ⟨s, a, fun z => by rw [hz s z] at b; omega, b⟩
theorem atC_spec (x : Nat → Nat → Nat) (n : Nat) (p : Int) : ∀ k : Nat, (atC x n p k = -1 ∧ ∀ i, i < k → plC x n (wC x i) i ≠ p) ∨ ∃ i, i < k ∧ atC x n p k = (i : Int) ∧ plC x n (wC x i) i = p
  | 0 => Or.inl ⟨rfl, fun i hi => absurd hi (Nat.not_lt_zero i)⟩
  | k + 1 => by
    have e : atC x n p (k + 1) = if atC x n p k ≠ -1 then atC x n p k else if plC x n (wC x k) k = p then (k : Int) else -1 := rfl
    rw [e]
    rcases atC_spec x n p k with ⟨a, b⟩ | ⟨i, a, b, d⟩
    · rw [if_neg (fun z => z a)]
      by_cases hk : plC x n (wC x k) k = p
      · rw [if_pos hk]; exact Or.inr ⟨k, by omega, rfl, hk⟩
      · rw [if_neg hk]
        refine Or.inl ⟨rfl, fun i hi => ?_⟩
        by_cases ei : i = k
        · rw [ei]; exact hk
        · exact b i (by omega)
    · rw [if_pos (by rw [b]; omega)]
      exact Or.inr ⟨i, by omega, b, d⟩
/-- the script at a place -/
theorem at_ex (h : CI n c x) (p : Nat) (hp : 1 ≤ p) (hq : p ≤ rkN c x) : ∃ s : Nat, s < c 3 ∧ atV c x p = (s : Int) ∧ wC x s ≠ -9999 ∧ pnV c x s = p := by
  obtain ⟨s, a, b, d⟩ := pn_ex h p hp hq
  rcases atC_spec x (c 3) (p : Int) (c 3) with ⟨-, e⟩ | ⟨i, i1, i2, i3⟩
  · have h1 : plV c x s = (p : Int) := by rw [pl_pn, if_neg b, d]
    exact absurd h1 (e s a)
  · have h1 : plV c x i = (p : Int) := i3
    rw [pl_pn] at h1
    by_cases hw : wC x i = -9999
    · rw [if_pos hw] at h1; omega
    · rw [if_neg hw] at h1
      exact ⟨i, i1, i2, hw, by omega⟩
theorem at_pl (h : CI n c x) (s : Nat) (hs : s < c 3) (hp : plV c x s ≠ -1) : ∃ p : Nat, plV c x s = (p : Int) ∧ 1 ≤ p ∧ p < 1000 ∧ atV c x p = (s : Int) := by
  have h0 := pl_pn (c := c) (x := x) s
  by_cases hw : wC x s = -9999
  · rw [if_pos hw] at h0; exact absurd h0 hp
  · rw [if_neg hw] at h0
    obtain ⟨b1, b2⟩ := pn_bd h s hs hw
    have b3 := rk_le c x
    have b4 := h.1.2.2.2.2.1
    obtain ⟨i, i1, i2, i3, i4⟩ := at_ex h (pnV c x s) b1 b2
    have e := pn_inj (c := c) i s i1 hs i3 hw i4
    exact ⟨pnV c x s, h0, b1, by omega, by rw [i2, e]⟩
theorem pl_w (s : Nat) : plV c x s = -1 ↔ wC x s = -9999 := by
  rw [pl_pn]
  by_cases hw : wC x s = -9999
  · rw [if_pos hw]; exact ⟨fun _ => hw, fun _ => rfl⟩
  · rw [if_neg hw]
    exact ⟨fun z => by omega, fun z => absurd z hw⟩
theorem at_next (h : CI n c x) : atV c x (rkN c x + 1) = -1 := by
  rcases atC_spec x (c 3) ((rkN c x + 1 : Nat) : Int) (c 3) with ⟨e, -⟩ | ⟨i, i1, i2, i3⟩
  · exact e
  · have h1 : plV c x i = ((rkN c x + 1 : Nat) : Int) := i3
    rw [pl_pn] at h1
    by_cases hw : wC x i = -9999
    · rw [if_pos hw] at h1; omega
    · rw [if_neg hw] at h1
      have := (pn_bd h i i1 hw).2
      omega
theorem at_order (h : CI n c x) (k : Nat) (h2 : 2 ≤ k) (hk : k ≤ rkN c x) : ∃ i j : Nat, i < c 3 ∧ j < c 3 ∧ atV c x (k - 1) = (i : Int) ∧ atV c x k = (j : Int) ∧ wC x j ≤ wC x i ∧ i ≠ j := by
  obtain ⟨i, a1, a2, a3, a4⟩ := at_ex h (k - 1) (by omega) (by omega)
  obtain ⟨j, b1, b2, b3, b4⟩ := at_ex h k (by omega) hk
  have hne : i ≠ j := fun z => by rw [z] at a4; omega
  refine ⟨i, j, a1, b1, a2, b2, ?_, hne⟩
  rcases Int.lt_or_le (wC x i) (wC x j) with hw | hw
  · have := pn_mono (c := c) j i b1 b3 a3 (Or.inl hw)
    omega
  · exact hw
/-- how many of the first k are ranked -/
theorem rk_s (k : Nat) : usedN (rkB x) (k + 1) = usedN (rkB x) k + b2 (rkB x k) := rfl
/-- the sum of the kinds -/
theorem sl_sum (s : Nat) : slV x s 5 = sumA (fun j => slV x s j) 5 := by
  unfold slV
  rw [if_pos rfl]
  rfl
end RKS
