/-! what a script's slips are, counted another way (from whole: 05.spec, 39.pure3, 40.pure4) -/
def oneLine (a b : Nat) : Bool := decide (a = b ∨ (a / 10 = b % 10 ∧ a % 10 = b / 10))
def sOnA (f : Nat → Nat → Nat) (s k : Nat) : Nat → Int
  | 0 => -1
  | n + 1 => if oneLine (f 3 (6 * f 14 s + n)) (f 11 (8 * s + k)) = true then (n : Int) else sOnA f s k n
def sOn (f : Nat → Nat → Nat) (s k : Nat) : Int := sOnA f s k (f 4 (f 14 s))
def cntsA (f : Nat → Nat → Nat) (s k : Nat) : Nat → Bool
  | 0 => decide (sOn f s k ≠ -1)
  | n + 1 => cntsA f s k n && decide (sOn f s n ≠ sOn f s k)
def cnts (f : Nat → Nat → Nat) (s k : Nat) : Bool := cntsA f s k k
def countA (f : Nat → Nat → Nat) (s : Nat) : Nat → Nat
  | 0 => 0
  | n + 1 => countA f s n + b2 (cnts f s n)
def count (f : Nat → Nat → Nat) (s : Nat) : Nat := countA f s (f 12 s)
def turnsAt (f : Nat → Nat → Nat) (s k : Nat) : Bool := cnts f s k && decide (f 3 (6 * f 14 s + (sOn f s k).toNat) ≠ f 11 (8 * s + k))
def turnA (f : Nat → Nat → Nat) (s : Nat) : Nat → Nat
  | 0 => 0
  | n + 1 => turnA f s n + b2 (turnsAt f s n)
def turn (f : Nat → Nat → Nat) (s : Nat) : Nat := turnA f s (f 12 s)
def lonI (f : Nat → Nat → Nat) (s : Nat) (g : Nat → Nat) (k : Nat) : Nat → Nat
  | 0 => 1
  | n + 1 => if 0 < g n ∧ sOn f s n < sOn f s k ∧ lonI f s g k n ≤ g n then g n + 1 else lonI f s g k n
def lonV (f : Nat → Nat → Nat) (s : Nat) (g : Nat → Nat) (k : Nat) : Nat := if cnts f s k = true then lonI f s g k k else 0
def lonG (f : Nat → Nat → Nat) (s : Nat) : Nat → Nat → Nat
  | 0 => fun _ => 0
  | n + 1 => va_up (lonG f s n) n (lonV f s (lonG f s n) n)
def lon (f : Nat → Nat → Nat) (s k : Nat) : Nat := lonG f s (k + 1) k
def inOrdA (f : Nat → Nat → Nat) (s : Nat) : Nat → Nat
  | 0 => 0
  | n + 1 => if inOrdA f s n < lon f s n then lon f s n else inOrdA f s n
def inOrd (f : Nat → Nat → Nat) (s : Nat) : Nat := inOrdA f s (f 12 s)
def slipsK (f : Nat → Nat → Nat) (s k : Nat) : Int :=
  if k = 0 then (f 4 (f 14 s) : Int) - count f s else if k = 1 then (f 12 s : Int) - count f s else if k = 2 then (turn f s : Int) else if k = 3 then (count f s : Int) - inOrd f s else (f 15 s : Int)
/-! what a script's slips are: the class's way to them is the reference's -/
theorem line_eq {a b : Nat} (ha : a ≤ 88) (hb : b ≤ 88) : oneLine a b = lineC a b := by
  unfold oneLine lineC turnedC
  exact decide_eq_decide.mpr (by constructor <;> intro h <;> omega)
theorem line_rf (a : Nat) : lineC a a = true := decide_eq_true (Or.inl rfl)
theorem line_tr {a b c : Nat} (ha : a ≤ 88) (hb : b ≤ 88) (hc : c ≤ 88) (h1 : lineC a c = true) (h2 : lineC b c = true) : lineC a b = true := by
  unfold lineC turnedC at *
  have h1 := of_decide_eq_true h1
  have h2 := of_decide_eq_true h2
  exact decide_eq_true (by omega)
theorem line_sy {a b : Nat} (ha : a ≤ 88) (hb : b ≤ 88) (h : lineC a b = true) : lineC b a = true := line_tr hb ha hb (line_rf b) h
theorem folA_none {g : Nat → Nat} {c : Nat} : ∀ n : Nat, folA g c n = -1 → ∀ j, j < n → lineC (g j) c = false
  | 0, _, j, hj => absurd hj (Nat.not_lt_zero j)
  | n + 1, h, j, hj => by
    have e : folA g c (n + 1) = if folA g c n ≠ -1 then folA g c n else if lineC (g n) c = true then (n : Int) else -1 := rfl
    rw [e] at h
    by_cases h1 : folA g c n = -1
    · rw [if_neg (by omega)] at h
      by_cases h2 : lineC (g n) c = true
      · rw [if_pos h2] at h; omega
      · by_cases h3 : j = n
        · rw [h3]; cases h4 : lineC (g n) c with
          | true => exact absurd h4 h2
          | false => rfl
        · exact folA_none n h1 j (by omega)
    · rw [if_pos h1] at h; exact absurd h h1
theorem folA_some {g : Nat → Nat} {c : Nat} : ∀ n : Nat, folA g c n ≠ -1 → ∃ j : Nat, j < n ∧ folA g c n = (j : Int) ∧ lineC (g j) c = true ∧ ∀ k, k < j → lineC (g k) c = false
  | 0, h => absurd rfl h
  | n + 1, h => by
    have e : folA g c (n + 1) = if folA g c n ≠ -1 then folA g c n else if lineC (g n) c = true then (n : Int) else -1 := rfl
    by_cases h1 : folA g c n = -1
    · rw [if_neg (by omega)] at e
      by_cases h2 : lineC (g n) c = true
      · rw [if_pos h2] at e
        exact ⟨n, by omega, e, h2, folA_none n h1⟩
      · rw [if_neg h2] at e; exact absurd e h
    · rw [if_pos h1] at e
      obtain ⟨j, a1, a2, a3, a4⟩ := folA_some n h1
      exact ⟨j, by omega, by rw [e]; exact a2, a3, a4⟩
theorem folA_line {g : Nat → Nat} {c c' : Nat} (hg : ∀ j, g j ≤ 88) (hc : c ≤ 88) (hc' : c' ≤ 88) (h : lineC c c' = true) : ∀ n : Nat, folA g c n = folA g c' n
  | 0 => rfl
  | n + 1 => by
    have ih := folA_line hg hc hc' h n
    have e : lineC (g n) c = lineC (g n) c' := by
      cases h1 : lineC (g n) c' with
      | true => exact line_tr (hg n) hc hc' h1 h
      | false =>
        cases h2 : lineC (g n) c with
        | false => rfl
        | true => rw [line_tr (hg n) hc' hc h2 (line_sy hc hc' h)] at h1; cases h1
    unfold folA
    rw [ih, e]
/-- the rows of one script: the letter's strokes gm, the drawn ones gd -/
def WR (f : Nat → Nat → Nat) (s : Nat) (gm : Nat → Nat) (nm : Nat) (gd : Nat → Nat) (nd : Nat) : Prop :=
  (nm = f 4 (f 14 s)) ∧ (nd = f 12 s) ∧ (nm ≤ 6) ∧ (∀ j, j < nm → gm j = f 3 (6 * f 14 s + j)) ∧ (∀ j, j < nd → gd j = f 11 (8 * s + j)) ∧ (∀ j, gm j ≤ 88) ∧ (∀ j, gd j ≤ 88) ∧ (∀ a b, a < b → b < nm → oneLine (gm a) (gm b) = false)
theorem WR.hnm {f : Nat → Nat → Nat} {s : Nat} {gm : Nat → Nat} {nm : Nat} {gd : Nat → Nat} {nd : Nat} (h : WR f s gm nm gd nd) : nm = f 4 (f 14 s) := h.1
theorem WR.hnd {f : Nat → Nat → Nat} {s : Nat} {gm : Nat → Nat} {nm : Nat} {gd : Nat → Nat} {nd : Nat} (h : WR f s gm nm gd nd) : nd = f 12 s := h.2.1
theorem WR.hm6 {f : Nat → Nat → Nat} {s : Nat} {gm : Nat → Nat} {nm : Nat} {gd : Nat → Nat} {nd : Nat} (h : WR f s gm nm gd nd) : nm ≤ 6 := h.2.2.1
theorem WR.hgm {f : Nat → Nat → Nat} {s : Nat} {gm : Nat → Nat} {nm : Nat} {gd : Nat → Nat} {nd : Nat} (h : WR f s gm nm gd nd) : ∀ j, j < nm → gm j = f 3 (6 * f 14 s + j) := h.2.2.2.1
theorem WR.hgd {f : Nat → Nat → Nat} {s : Nat} {gm : Nat → Nat} {nm : Nat} {gd : Nat → Nat} {nd : Nat} (h : WR f s gm nm gd nd) : ∀ j, j < nd → gd j = f 11 (8 * s + j) := h.2.2.2.2.1
theorem WR.bgm {f : Nat → Nat → Nat} {s : Nat} {gm : Nat → Nat} {nm : Nat} {gd : Nat → Nat} {nd : Nat} (h : WR f s gm nm gd nd) : ∀ j, gm j ≤ 88 := h.2.2.2.2.2.1
theorem WR.bgd {f : Nat → Nat → Nat} {s : Nat} {gm : Nat → Nat} {nm : Nat} {gd : Nat → Nat} {nd : Nat} (h : WR f s gm nm gd nd) : ∀ j, gd j ≤ 88 := h.2.2.2.2.2.2.1
theorem WR.hdis {f : Nat → Nat → Nat} {s : Nat} {gm : Nat → Nat} {nm : Nat} {gd : Nat → Nat} {nd : Nat} (h : WR f s gm nm gd nd) : ∀ a b, a < b → b < nm → oneLine (gm a) (gm b) = false := h.2.2.2.2.2.2.2
section WRS
variable {f : Nat → Nat → Nat} {s : Nat} {gm : Nat → Nat} {nm : Nat} {gd : Nat → Nat} {nd : Nat}
theorem WR.sA (h : WR f s gm nm gd nd) {k : Nat} (hk : k < nd) : ∀ n : Nat, n ≤ nm → sOnA f s k n = folA gm (gd k) n
  | 0, _ => rfl
  | n + 1, hn => by
    have ih := h.sA hk n (by omega)
    have e : folA gm (gd k) (n + 1) = if folA gm (gd k) n ≠ -1 then folA gm (gd k) n else if lineC (gm n) (gd k) = true then (n : Int) else -1 := rfl
    have e2 : sOnA f s k (n + 1) = if oneLine (gm n) (gd k) = true then (n : Int) else sOnA f s k n := by
      show (if oneLine (f 3 (6 * f 14 s + n)) (f 11 (8 * s + k)) = true then (n : Int) else sOnA f s k n) = _
      rw [h.hgm n (by omega), h.hgd k hk]
    rw [e, e2, ih, line_eq (h.bgm n) (h.bgd k)]
    by_cases h1 : lineC (gm n) (gd k) = true
    · rw [if_pos h1, if_pos h1]
      by_cases h2 : folA gm (gd k) n = -1
      · rw [if_neg (by omega)]
      · obtain ⟨j, a1, a2, a3, a4⟩ := folA_some n h2
        have := h.hdis j n a1 (by omega)
        rw [line_eq (h.bgm j) (h.bgm n), line_tr (h.bgm j) (h.bgm n) (h.bgd k) a3 h1] at this
        cases this
    · rw [if_neg h1, if_neg h1]
      by_cases h2 : folA gm (gd k) n = -1
      · rw [if_neg (by omega), h2]
      · rw [if_pos h2]
theorem WR.sO (h : WR f s gm nm gd nd) {k : Nat} (hk : k < nd) : sOn f s k = folA gm (gd k) nm := by
  unfold sOn
  rw [← h.hnm]
  exact h.sA hk nm (Nat.le_refl _)
theorem cntsA_iff (f : Nat → Nat → Nat) (s k : Nat) : ∀ n : Nat, cntsA f s k n = true ↔ sOn f s k ≠ -1 ∧ ∀ j, j < n → sOn f s j ≠ sOn f s k
  | 0 => by
    show decide _ = true ↔ _
    rw [decide_eq_true_eq]
    exact ⟨fun h => ⟨h, fun j hj => absurd hj (Nat.not_lt_zero j)⟩, fun h => h.1⟩
  | n + 1 => by
    show (cntsA f s k n && decide _) = true ↔ _
    rw [Bool.and_eq_true, cntsA_iff f s k n, decide_eq_true_eq]
    constructor
    · rintro ⟨⟨h1, h2⟩, h3⟩
      refine ⟨h1, fun j hj => ?_⟩
      by_cases e : j = n
      · rw [e]; exact h3
      · exact h2 j (by omega)
    · rintro ⟨h1, h2⟩
      exact ⟨⟨h1, fun j hj => h2 j (by omega)⟩, h2 n (by omega)⟩
theorem WR.first (h : WR f s gm nm gd nd) {k : Nat} (hk : k < nd) : folA gd (gd k) nd < (k : Int) ↔ ∃ j, j < k ∧ lineC (gd j) (gd k) = true := by
  have hb := folA_bd gd (gd k) nd
  constructor
  · intro h1
    by_cases h2 : folA gd (gd k) nd = -1
    · have := folA_none nd h2 k hk
      rw [line_rf] at this
      cases this
    · obtain ⟨j, a1, a2, a3, a4⟩ := folA_some nd h2
      exact ⟨j, by omega, a3⟩
  · rintro ⟨j, h1, h2⟩
    by_cases h3 : folA gd (gd k) nd = -1
    · omega
    · obtain ⟨j2, a1, a2, a3, a4⟩ := folA_some nd h3
      have : j2 ≤ j := by
        rcases Nat.lt_or_ge j j2 with h5 | h5
        · rw [a4 j h5] at h2; cases h2
        · exact h5
      omega
theorem WR.cn (h : WR f s gm nm gd nd) {k : Nat} (hk : k < nd) : cnts f s k = true ↔ ¬ (folA gm (gd k) nm = -1 ∨ folA gd (gd k) nd < (k : Int)) := by
  unfold cnts
  rw [cntsA_iff, h.sO hk, h.first hk]
  constructor
  · rintro ⟨h1, h2⟩ (h3 | ⟨j, h3, h4⟩)
    · exact h1 h3
    · refine h2 j h3 ?_
      rw [h.sO (by omega)]
      exact folA_line h.bgm (h.bgd j) (h.bgd k) h4 nm
  · intro h1
    refine ⟨fun z => h1 (Or.inl z), fun j hj z => h1 (Or.inr ⟨j, hj, ?_⟩)⟩
    rw [h.sO (by omega)] at z
    have h2 : folA gm (gd k) nm ≠ -1 := fun z => h1 (Or.inl z)
    obtain ⟨a, a1, a2, a3, a4⟩ := folA_some nm h2
    obtain ⟨b, b1, b2, b3, b4⟩ := folA_some nm (by rw [z]; exact h2)
    have e : a = b := by omega
    subst e
    exact line_tr (h.bgd j) (h.bgd k) (h.bgm a) (line_sy (h.bgm a) (h.bgd j) b3) (line_sy (h.bgm a) (h.bgd k) a3)
/-- how many of the first n are there -/
def usedN (p : Nat → Bool) : Nat → Nat
  | 0 => 0
  | n + 1 => usedN p n + b2 (p n)
theorem usedN_le (p : Nat → Bool) : ∀ n : Nat, usedN p n ≤ n
  | 0 => Nat.le_refl _
  | n + 1 => Nat.add_le_add (usedN_le p n) (b2_le _)
theorem usedN_cong {p q : Nat → Bool} : ∀ n : Nat, (∀ j, j < n → p j = q j) → usedN p n = usedN q n
  | 0, _ => rfl
  | n + 1, h => by
    unfold usedN
    rw [usedN_cong n (fun j hj => h j (by omega)), h n (by omega)]
theorem usedN_add {p : Nat → Bool} {v : Nat} (hp : p v = false) : ∀ n : Nat, v < n → usedN (fun j => p j || decide (j = v)) n = usedN p n + 1
  | 0, h => absurd h (Nat.not_lt_zero v)
  | n + 1, h => by
    by_cases e : v = n
    · subst e
      show usedN (fun j => p j || decide (j = v)) v + b2 (p v || decide (v = v)) = usedN p v + b2 (p v) + 1
      rw [usedN_cong v (p := fun j => p j || decide (j = v)) (q := p) (fun j hj => by show (p j || decide (j = v)) = p j; rw [decide_eq_false (by omega), Bool.or_false]), hp, decide_eq_true rfl]
      rfl
    · show usedN (fun j => p j || decide (j = v)) n + b2 (p n || decide (n = v)) = usedN p n + b2 (p n) + 1
      rw [usedN_add hp n (by omega), decide_eq_false (by omega), Bool.or_false]
      omega
theorem sOnA_bd9 (f : Nat → Nat → Nat) (s k : Nat) : ∀ n : Nat, -1 ≤ sOnA f s k n ∧ sOnA f s k n < (n : Int)
  | 0 => by simp [sOnA]
  | n + 1 => by
    have h := sOnA_bd9 f s k n
    unfold sOnA
    split <;> omega
theorem countA_used (f : Nat → Nat → Nat) (s : Nat) : ∀ n : Nat, ∃ p : Nat → Bool, (∀ k, k < n → ∀ j : Nat, sOn f s k = (j : Int) → p j = true) ∧ (∀ j, p j = true → ∃ k, k < n ∧ sOn f s k = (j : Int)) ∧ countA f s n ≤ usedN p (f 4 (f 14 s))
  | 0 => ⟨fun _ => false, fun k hk => absurd hk (Nat.not_lt_zero k), fun j h => (by cases h), Nat.zero_le _⟩
  | n + 1 => by
    obtain ⟨p, h1, h2, h3⟩ := countA_used f s n
    have hb : sOn f s n < (f 4 (f 14 s) : Int) := (sOnA_bd9 f s n _).2
    have hb0 : -1 ≤ sOn f s n := (sOnA_bd9 f s n _).1
    have e : countA f s (n + 1) = countA f s n + b2 (cnts f s n) := rfl
    cases hc : cnts f s n with
    | true =>
      obtain ⟨c1, c2⟩ := (cntsA_iff f s n n).mp hc
      have hp : p (sOn f s n).toNat = false := by
        cases hp : p (sOn f s n).toNat with
        | false => rfl
        | true =>
          obtain ⟨k, k1, k2⟩ := h2 _ hp
          exact absurd (k2.trans (by omega)) (c2 k k1)
      refine ⟨fun j => p j || decide (j = (sOn f s n).toNat), fun k hk j hj => ?_, fun j hj => ?_, ?_⟩
      · show (p j || decide (j = (sOn f s n).toNat)) = true
        by_cases ek : k = n
        · rw [ek] at hj
          rw [decide_eq_true (show j = (sOn f s n).toNat by omega), Bool.or_true]
        · rw [h1 k (by omega) j hj, Bool.true_or]
      · have hj : (p j || decide (j = (sOn f s n).toNat)) = true := hj
        rw [Bool.or_eq_true, decide_eq_true_eq] at hj
        rcases hj with hj | hj
        · obtain ⟨k, k1, k2⟩ := h2 j hj
          exact ⟨k, by omega, k2⟩
        · exact ⟨n, by omega, by omega⟩
      · rw [e, hc, usedN_add hp _ (by omega)]
        exact Nat.add_le_add h3 (Nat.le_refl _)
    | false =>
      refine ⟨p, fun k hk j hj => ?_, fun j hj => ?_, by rw [e, hc]; exact h3⟩
      · by_cases ek : k = n
        · rw [ek] at hj
          have hn : ¬ (sOn f s n ≠ -1 ∧ ∀ j, j < n → sOn f s j ≠ sOn f s n) := fun z => by
            rw [show cnts f s n = true from (cntsA_iff f s n n).mpr z] at hc; cases hc
          obtain ⟨q, q1, q2⟩ : ∃ q, q < n ∧ sOn f s q = sOn f s n := by
            refine Classical.byContradiction fun z => hn ⟨by omega, fun j hj e => z ⟨j, hj, e⟩⟩
          exact h1 q q1 j (q2.trans hj)
        · exact h1 k (by omega) j hj
      · obtain ⟨k, k1, k2⟩ := h2 j hj
        exact ⟨k, by omega, k2⟩
theorem countA_le9 (f : Nat → Nat → Nat) (s n : Nat) : countA f s n ≤ f 4 (f 14 s) := by
  obtain ⟨p, -, -, h⟩ := countA_used f s n
  exact Nat.le_trans h (usedN_le _ _)
theorem WR.cmp (h : WR f s gm nm gd nd) : ∀ i : Nat, i ≤ nd → (cmpA gm nm gd nd (fun _ => 0) i).1 = countA f s i ∧ (cmpA gm nm gd nd (fun _ => 0) i).2.2.1 + countA f s i = i ∧ (cmpA gm nm gd nd (fun _ => 0) i).2.2.2 = turnA f s i ∧ ∀ k, k < i → cnts f s k = true → countA f s k < countA f s i ∧ (cmpA gm nm gd nd (fun _ => 0) i).2.1 (countA f s k) = (sOn f s k).toNat
  | 0, _ => ⟨rfl, rfl, rfl, fun k hk => absurd hk (Nat.not_lt_zero k)⟩
  | i + 1, hi => by
    obtain ⟨h1, h2, h3, h4⟩ := h.cmp i (by omega)
    have e1 : countA f s (i + 1) = countA f s i + b2 (cnts f s i) := rfl
    have e2 : turnA f s (i + 1) = turnA f s i + b2 (turnsAt f s i) := rfl
    cases hc : cnts f s i with
    | false =>
      have hx : folA gm (gd i) nm = -1 ∨ folA gd (gd i) nd < (i : Int) := Classical.byContradiction fun z => by
        rw [(h.cn (by omega)).mpr z] at hc; cases hc
      have ht : turnsAt f s i = false := by unfold turnsAt; rw [hc]; rfl
      rw [cmpA_extra hx, e1, e2, hc, ht]
      refine ⟨h1, ?_, h3, fun k hk hk2 => ?_⟩
      · show (cmpA gm nm gd nd (fun _ => 0) i).2.2.1 + 1 + (countA f s i + 0) = i + 1
        omega
      · by_cases ek : k = i
        · rw [ek, hc] at hk2; cases hk2
        · exact h4 k (by omega) hk2
    | true =>
      have hx := (h.cn (by omega)).mp hc
      have hle : countA f s (i + 1) ≤ 6 := Nat.le_trans (countA_le9 f s (i + 1)) (by rw [← h.hnm]; exact h.hm6)
      rw [e1, hc] at hle
      have h6 : (cmpA gm nm gd nd (fun _ => 0) i).1 < 6 := by
        have : b2 true = 1 := rfl
        omega
      have hne : folA gm (gd i) nm ≠ -1 := fun z => hx (Or.inl z)
      have hbd := folA_bd gm (gd i) nm
      have ht : turnsAt f s i = decide (gm (folA gm (gd i) nm).toNat ≠ gd i) := by
        unfold turnsAt
        rw [hc, Bool.true_and, h.sO (by omega), ← h.hgm _ (by omega), ← h.hgd i (by omega)]
      rw [cmpA_go hx, e1, e2, hc, ht, if_pos h6, if_pos h6, h1]
      refine ⟨rfl, ?_, by show _ + _ = _ + _; rw [h3], fun k hk hk2 => ?_⟩
      · show (cmpA gm nm gd nd (fun _ => 0) i).2.2.1 + (countA f s i + 1) = i + 1
        omega
      · show countA f s k < countA f s i + 1 ∧ va_up (cmpA gm nm gd nd (fun _ => 0) i).2.1 (countA f s i) (folA gm (gd i) nm).toNat (countA f s k) = _
        by_cases ek : k = i
        · subst ek
          rw [va_up_self, h.sO (by omega)]
          exact ⟨by omega, rfl⟩
        · obtain ⟨k1, k2⟩ := h4 k (by omega) hk2
          rw [va_up_ne _ _ (by omega)]
          exact ⟨by omega, k2⟩
theorem lrI_pos {r L : Nat → Nat} {k : Nat} : ∀ n : Nat, 1 ≤ lrI r L k n
  | 0 => Nat.le_refl _
  | n + 1 => by
    have h := lrI_pos (r := r) (L := L) (k := k) n
    unfold lrI
    split <;> omega
theorem lr_pos (r : Nat → Nat) (k : Nat) : 1 ≤ lr r k := by
  rw [← lr_eq (r := r) (L := lr r) (k := k) (fun _ _ => rfl)]
  exact lrI_pos k
theorem lon_I {r g : Nat → Nat} {N : Nat} (hr : ∀ k, k < N + 1 → cnts f s k = true → r (countA f s k) = (sOn f s k).toNat) (hN : cnts f s N = true) (hg : ∀ k, k < N → g k = if cnts f s k = true then lr r (countA f s k) else 0) : ∀ n : Nat, n ≤ N → lonI f s g N n = lrI r (lr r) (countA f s N) (countA f s n)
  | 0, _ => rfl
  | n + 1, hn => by
    have ih := lon_I hr hN hg n (by omega)
    have e1 : countA f s (n + 1) = countA f s n + b2 (cnts f s n) := rfl
    have e2 : lonI f s g N (n + 1) = if 0 < g n ∧ sOn f s n < sOn f s N ∧ lonI f s g N n ≤ g n then g n + 1 else lonI f s g N n := rfl
    have h0 := hg n (by omega)
    rw [e1, e2, ih]
    cases hc : cnts f s n with
    | false =>
      rw [hc, if_neg (by decide)] at h0
      rw [if_neg (by rw [h0]; exact fun z => absurd z.1 (by decide))]
      rfl
    | true =>
      rw [hc, if_pos rfl] at h0
      have e3 : lrI r (lr r) (countA f s N) (countA f s n + 1) = if r (countA f s n) < r (countA f s N) then max (lrI r (lr r) (countA f s N) (countA f s n)) (lr r (countA f s n) + 1) else lrI r (lr r) (countA f s N) (countA f s n) := rfl
      show _ = lrI r (lr r) (countA f s N) (countA f s n + 1)
      rw [e3, h0, hr n (by omega) hc, hr N (by omega) hN]
      have p1 := lr_pos r (countA f s n)
      have b1 : sOn f s n ≠ -1 := ((cntsA_iff f s n n).mp hc).1
      have b2 : sOn f s N ≠ -1 := ((cntsA_iff f s N N).mp hN).1
      have b3 : -1 ≤ sOn f s n := (sOnA_bd9 f s n _).1
      have b4 : -1 ≤ sOn f s N := (sOnA_bd9 f s N _).1
      by_cases hl : sOn f s n < sOn f s N
      · rw [if_pos (show (sOn f s n).toNat < (sOn f s N).toNat by omega)]
        split <;> omega
      · rw [if_neg (by omega), if_neg (by omega)]
theorem lon_G {r : Nat → Nat} {N : Nat} (hr : ∀ k, k < N → cnts f s k = true → r (countA f s k) = (sOn f s k).toNat) : ∀ n : Nat, n ≤ N → ∀ k, k < n → lonG f s n k = if cnts f s k = true then lr r (countA f s k) else 0
  | 0, _, k, hk => absurd hk (Nat.not_lt_zero k)
  | n + 1, hn, k, hk => by
    have ih := lon_G hr n (by omega)
    show va_up (lonG f s n) n (lonV f s (lonG f s n) n) k = _
    by_cases ek : k = n
    · subst ek
      rw [va_up_self]
      unfold lonV
      by_cases hc : cnts f s k = true
      · rw [if_pos hc, if_pos hc, lon_I (r := r) (fun j hj => hr j (by omega)) hc ih k (Nat.le_refl _)]
        exact lr_eq (fun _ _ => rfl)
      · rw [if_neg hc, if_neg hc]
    · rw [va_up_ne _ _ ek]
      exact ih k (by omega)
theorem inOrd_lr {r : Nat → Nat} {N : Nat} (hr : ∀ k, k < N → cnts f s k = true → r (countA f s k) = (sOn f s k).toNat) : ∀ n : Nat, n ≤ N → inOrdA f s n = lrM r (countA f s n)
  | 0, _ => rfl
  | n + 1, hn => by
    have ih := inOrd_lr hr n (by omega)
    have e1 : countA f s (n + 1) = countA f s n + b2 (cnts f s n) := rfl
    have e2 : lon f s n = if cnts f s n = true then lr r (countA f s n) else 0 := lon_G hr (n + 1) hn n (by omega)
    unfold inOrdA
    rw [e1, ih, e2]
    cases hc : cnts f s n with
    | false => rfl
    | true =>
      show (if lrM r (countA f s n) < lr r (countA f s n) then lr r (countA f s n) else lrM r (countA f s n)) = max (lrM r (countA f s n)) (lr r (countA f s n))
      split <;> omega
theorem WR.ord (h : WR f s gm nm gd nd) : inOrd f s = lrM (cmpA gm nm gd nd (fun _ => 0) nd).2.1 (cmpA gm nm gd nd (fun _ => 0) nd).1 := by
  obtain ⟨h1, h2, h3, h4⟩ := h.cmp nd (Nat.le_refl _)
  unfold inOrd
  rw [h1, ← h.hnd]
  exact inOrd_lr (N := nd) (fun k hk hc => (h4 k hk hc).2) nd (Nat.le_refl _)
theorem WR.rk (h : WR f s gm nm gd nd) : (cmpA gm nm gd nd (fun _ => 0) nd).1 ≤ nm := by
  rw [(h.cmp nd (Nat.le_refl _)).1, h.hnm]
  exact countA_le9 f s nd
theorem WR.slp (h : WR f s gm nm gd nd) {k : Nat} (hk : k < 4) : ((slpC gm nm gd nd k : Nat) : Int) = slipsK f s k := by
  obtain ⟨h1, h2, h3, h4⟩ := h.cmp nd (Nat.le_refl _)
  have h5 := h.ord
  have h6 := h.rk
  have h7 := lrM_le (cmpA gm nm gd nd (fun _ => 0) nd).2.1 (cmpA gm nm gd nd (fun _ => 0) nd).1
  have e1 : count f s = countA f s nd := by unfold count; rw [← h.hnd]
  have e2 : turn f s = turnA f s nd := by unfold turn; rw [← h.hnd]
  unfold slipsK
  rw [← h.hnm, ← h.hnd, e1, e2, h5]
  unfold slpC cmpS
  obtain rfl | rfl | rfl | rfl : k = 0 ∨ k = 1 ∨ k = 2 ∨ k = 3 := by omega
  · rw [va_up_ne _ _ (by decide), va_up_self, if_pos rfl]
    omega
  · rw [va_up_ne _ _ (by decide), va_up_ne _ _ (by decide), va_up_ne _ _ (by decide), va_up_self, if_neg (by decide), if_pos rfl]
    omega
  · rw [va_up_ne _ _ (by decide), va_up_ne _ _ (by decide), va_up_self, if_neg (by decide), if_neg (by decide), if_pos rfl]
    omega
  · rw [va_up_self, if_neg (by decide), if_neg (by decide), if_neg (by decide), if_pos rfl]
    omega
end WRS
/-! the fewest to leave out: c less the longest rise -/
theorem lrI_ge {r L : Nat → Nat} {k j : Nat} (hr : r j < r k) : ∀ n : Nat, j < n → L j + 1 ≤ lrI r L k n
  | 0, h => absurd h (Nat.not_lt_zero j)
  | n + 1, h => by
    have e : lrI r L k (n + 1) = if r n < r k then max (lrI r L k n) (L n + 1) else lrI r L k n := rfl
    by_cases ej : j = n
    · subst ej
      rw [e, if_pos hr]
      omega
    · have ih := lrI_ge (L := L) hr n (by omega)
      rw [e]
      split <;> omega
theorem lrI_cases (r L : Nat → Nat) (k : Nat) : ∀ n : Nat, lrI r L k n = 1 ∨ ∃ j, j < n ∧ r j < r k ∧ lrI r L k n = L j + 1
  | 0 => Or.inl rfl
  | n + 1 => by
    have e : lrI r L k (n + 1) = if r n < r k then max (lrI r L k n) (L n + 1) else lrI r L k n := rfl
    have ih := lrI_cases r L k n
    rw [e]
    by_cases h : r n < r k
    · rw [if_pos h]
      by_cases h2 : lrI r L k n ≤ L n + 1
      · exact Or.inr ⟨n, by omega, h, by omega⟩
      · rw [show max (lrI r L k n) (L n + 1) = lrI r L k n by omega]
        rcases ih with h3 | ⟨j, h3, h4, h5⟩
        · exact Or.inl h3
        · exact Or.inr ⟨j, by omega, h4, h5⟩
    · rw [if_neg h]
      rcases ih with h3 | ⟨j, h3, h4, h5⟩
      · exact Or.inl h3
      · exact Or.inr ⟨j, by omega, h4, h5⟩
theorem lr_self (r : Nat → Nat) (k : Nat) : lrI r (lr r) k k = lr r k := lr_eq (fun _ _ => rfl)
theorem lr_ge {r : Nat → Nat} {j k : Nat} (hj : j < k) (hr : r j < r k) : lr r j + 1 ≤ lr r k := by
  rw [← lr_self r k]
  exact lrI_ge hr k hj
theorem lr_cases (r : Nat → Nat) (k : Nat) : lr r k = 1 ∨ ∃ j, j < k ∧ r j < r k ∧ lr r k = lr r j + 1 := by
  have h := lrI_cases r (lr r) k k
  rw [lr_self] at h
  exact h
theorem lrM_ge (r : Nat → Nat) {j : Nat} : ∀ n : Nat, j < n → lr r j ≤ lrM r n
  | 0, h => absurd h (Nat.not_lt_zero j)
  | n + 1, h => by
    unfold lrM
    by_cases e : j = n
    · subst e; omega
    · have := lrM_ge r n (show j < n by omega)
      omega
theorem lrM_at (r : Nat → Nat) : ∀ n : Nat, lrM r n = 0 ∨ ∃ j, j < n ∧ lrM r n = lr r j
  | 0 => Or.inl rfl
  | n + 1 => by
    have ih := lrM_at r n
    unfold lrM
    by_cases h : lrM r n ≤ lr r n
    · exact Or.inr ⟨n, by omega, by omega⟩
    · rw [show max (lrM r n) (lr r n) = lrM r n by omega]
      rcases ih with h3 | ⟨j, h3, h4⟩
      · exact Or.inl h3
      · exact Or.inr ⟨j, by omega, h4⟩
/-- ordA by the word of what stays -/
def ordP (r : Nat → Nat) (p : Nat → Bool) : Nat → Option Int
  | 0 => some (-1)
  | n + 1 => match ordP r p n with
    | none => none
    | some z => if p n = true then (if (r n : Int) < z then none else some (r n : Int)) else some z
theorem ordP_cong {r : Nat → Nat} {p q : Nat → Bool} : ∀ n : Nat, (∀ j, j < n → p j = q j) → ordP r p n = ordP r q n
  | 0, _ => rfl
  | n + 1, h => by
    unfold ordP
    rw [ordP_cong n (fun j hj => h j (by omega)), h n (by omega)]
theorem ordP_A (r : Nat → Nat) (set : Nat) : ∀ n : Nat, ordP r (outB set) n = ordA r set n
  | 0 => rfl
  | n + 1 => by
    have ih := ordP_A r set n
    show (match ordP r (outB set) n with | none => none | some z => if outB set n = true then (if (r n : Int) < z then none else some (r n : Int)) else some z) = (match ordA r set n with | none => none | some z => if outB set n = true then (if (r n : Int) < z then none else some (r n : Int)) else some z)
    rw [ih]
theorem ordP_skip {r : Nat → Nat} {p : Nat → Bool} {m : Nat} {z : Int} (h : ordP r p m = some z) : ∀ d : Nat, (∀ k, m ≤ k → k < m + d → p k = false) → ordP r p (m + d) = some z ∧ usedN p (m + d) = usedN p m
  | 0, _ => ⟨h, rfl⟩
  | d + 1, hp => by
    obtain ⟨h1, h2⟩ := ordP_skip h d (fun k a b => hp k a (by omega))
    have h3 := hp (m + d) (by omega) (by omega)
    refine ⟨?_, ?_⟩
    · show (match ordP r p (m + d) with | none => none | some z => _) = _
      rw [h1]
      show (if p (m + d) = true then _ else _) = _
      rw [h3]
      rfl
    · show usedN p (m + d) + b2 (p (m + d)) = _
      rw [h2, h3]
      rfl
theorem ordP_take {r : Nat → Nat} {p : Nat → Bool} {m : Nat} {z : Int} (h : ordP r p m = some z) (hp : p m = true) (hz : z ≤ (r m : Int)) : ordP r p (m + 1) = some (r m : Int) ∧ usedN p (m + 1) = usedN p m + 1 := by
  refine ⟨?_, ?_⟩
  · show (match ordP r p m with | none => none | some z => _) = _
    rw [h]
    show (if p m = true then _ else _) = _
    rw [if_pos hp, if_neg (by omega)]
  · show usedN p m + b2 (p m) = _
    rw [hp]
    rfl
theorem ordP_keep {r : Nat → Nat} {p : Nat → Bool} {c : Nat} (hd : ∀ a b, a < b → b < c → r a ≠ r b) : ∀ m : Nat, m ≤ c → ∀ z, ordP r p m = some z → (usedN p m = 0 ∧ z = -1) ∨ ∃ j, j < m ∧ z = (r j : Int) ∧ usedN p m ≤ lr r j
  | 0, _, z, h => by
    cases h
    exact Or.inl ⟨rfl, rfl⟩
  | m + 1, hm, z, h => by
    have e : ordP r p (m + 1) = match ordP r p m with | none => none | some z => if p m = true then (if (r m : Int) < z then none else some (r m : Int)) else some z := rfl
    have eu : usedN p (m + 1) = usedN p m + b2 (p m) := rfl
    rw [e] at h
    cases h0 : ordP r p m with
    | none => rw [h0] at h; cases h
    | some z0 =>
      rw [h0] at h
      have ih := ordP_keep hd m (by omega) z0 h0
      cases hp : p m with
      | false =>
        rw [hp] at h eu
        have h : some z0 = some z := h
        cases h
        rw [eu]
        rcases ih with ⟨h1, h2⟩ | ⟨j, h1, h2, h3⟩
        · exact Or.inl ⟨h1, h2⟩
        · exact Or.inr ⟨j, by omega, h2, h3⟩
      | true =>
        rw [hp] at h eu
        have h : (if (r m : Int) < z0 then none else some (r m : Int)) = some z := h
        by_cases h4 : (r m : Int) < z0
        · rw [if_pos h4] at h; cases h
        · rw [if_neg h4] at h
          cases h
          have e1 : b2 true = 1 := rfl
          refine Or.inr ⟨m, by omega, rfl, ?_⟩
          rw [eu, e1]
          rcases ih with ⟨h1, h2⟩ | ⟨j, h1, h2, h3⟩
          · have := lr_pos r m; omega
          · have h5 := hd j m h1 (by omega)
            have := lr_ge (r := r) h1 (show r j < r m by omega)
            omega
theorem ordP_best (r : Nat → Nat) : ∀ n j : Nat, j < n → ∃ p : Nat → Bool, ordP r p (j + 1) = some (r j : Int) ∧ usedN p (j + 1) = lr r j
  | 0, j, h => absurd h (Nat.not_lt_zero j)
  | n + 1, j, h => by
    rcases lr_cases r j with h1 | ⟨i, h1, h2, h3⟩
    · have h0 : ordP r (fun k => decide (k = j)) 0 = some (-1) := rfl
      obtain ⟨a1, a2⟩ := ordP_skip h0 j (fun k _ hk => decide_eq_false (by omega))
      rw [Nat.zero_add] at a1 a2
      obtain ⟨a3, a4⟩ := ordP_take a1 (decide_eq_true rfl) (by omega)
      exact ⟨_, a3, by rw [a4, a2, h1]; rfl⟩
    · obtain ⟨p, b1, b2⟩ := ordP_best r n i (by omega)
      have hc : ∀ k, k < i + 1 → (fun k => if k ≤ i then p k else decide (k = j)) k = p k := fun k hk => if_pos (by omega)
      have c1 : ordP r (fun k => if k ≤ i then p k else decide (k = j)) (i + 1) = some (r i : Int) := (ordP_cong _ hc).trans b1
      have c2 : usedN (fun k => if k ≤ i then p k else decide (k = j)) (i + 1) = lr r i := (usedN_cong _ hc).trans b2
      obtain ⟨a1, a2⟩ := ordP_skip c1 (j - (i + 1)) (fun k h4 h5 => by
        show (if k ≤ i then p k else decide (k = j)) = false
        rw [if_neg (by omega)]
        exact decide_eq_false (by omega))
      rw [show i + 1 + (j - (i + 1)) = j by omega] at a1 a2
      obtain ⟨a3, a4⟩ := ordP_take a1 (by show (if j ≤ i then p j else decide (j = j)) = true; rw [if_neg (by omega)]; exact decide_eq_true rfl) (by omega)
      exact ⟨_, a3, by rw [a4, a2, c2, h3]⟩
theorem set_of (p : Nat → Bool) : ∀ c : Nat, ∃ set, set < 2 ^ c ∧ ∀ i, i < c → outB set i = p i
  | 0 => ⟨0, by decide, fun i h => absurd h (Nat.not_lt_zero i)⟩
  | c + 1 => by
    obtain ⟨set, h1, h2⟩ := set_of p c
    have hp : 0 < 2 ^ c := Nat.two_pow_pos c
    refine ⟨set + 2 ^ c * b2 (!p c), ?_, fun i hi => ?_⟩
    · have := b2_le (!p c)
      have : 2 ^ c * b2 (!p c) ≤ 2 ^ c * 1 := Nat.mul_le_mul_left _ this
      rw [Nat.pow_succ]
      omega
    · by_cases e : i = c
      · subst e
        unfold outB
        rw [Nat.add_mul_div_left _ _ hp, Nat.div_eq_of_lt h1]
        cases p i <;> decide
      · rw [← h2 i (by omega)]
        unfold outB
        have e2 : 2 ^ c * b2 (!p c) = 2 ^ i * (2 * (2 ^ (c - i - 1) * b2 (!p c))) := by
          rw [← Nat.mul_assoc, ← Nat.mul_assoc, ← Nat.pow_succ, ← Nat.pow_add]
          congr 2
          omega
        rw [e2, Nat.add_mul_div_left _ _ (Nat.two_pow_pos i), Nat.add_mul_mod_self_left]
theorem pop_used : ∀ c, c < 7 → ∀ n, n < 64 → n < 2 ^ c → popN n + usedN (outB n) c = c := by decide +kernel
theorem fewA_at {r : Nat → Nat} {c n : Nat} (ho : ordW r c n = true) : ∀ N : Nat, n < N → fewA r c N ≤ popN n
  | 0, h => absurd h (Nat.not_lt_zero n)
  | N + 1, h => by
    unfold fewA
    by_cases e : n = N
    · subst e
      rw [if_pos ho]
      omega
    · have := fewA_at ho N (by omega)
      split <;> omega
theorem fewA_from {r : Nat → Nat} {c v : Nat} (hv : v ≤ c) : ∀ N : Nat, (∀ n, n < N → ordW r c n = true → v ≤ popN n) → v ≤ fewA r c N
  | 0, _ => hv
  | N + 1, h => by
    have ih := fewA_from hv N (fun n hn => h n (by omega))
    unfold fewA
    split
    · next ho =>
      have := h N (by omega) ho
      omega
    · exact ih
theorem fewL_lr {r : Nat → Nat} {c : Nat} (hc : c ≤ 6) (hd : ∀ a b, a < b → b < c → r a ≠ r b) : fewL r c = c - lrM r c := by
  have h64 : (2 : Nat) ^ c ≤ 64 := two_pow_le hc
  have hM := lrM_le r c
  refine Nat.le_antisymm ?_ ?_
  · obtain ⟨p, h1, h2⟩ : ∃ p : Nat → Bool, (ordP r p c).isSome = true ∧ usedN p c = lrM r c := by
      rcases lrM_at r c with h | ⟨j, h, h2⟩
      · have h0 : ordP r (fun _ => false) 0 = some (-1) := rfl
        obtain ⟨a1, a2⟩ := ordP_skip h0 c (fun _ _ _ => rfl)
        rw [Nat.zero_add] at a1 a2
        exact ⟨fun _ => false, by rw [a1]; rfl, by rw [a2, h]; rfl⟩
      · obtain ⟨p, b1, b2⟩ := ordP_best r (j + 1) j (Nat.lt_succ_self j)
        have hcg : ∀ k, k < j + 1 → (fun k => if k ≤ j then p k else false) k = p k := fun k hk => if_pos (by omega)
        have c1 := (ordP_cong (r := r) _ hcg).trans b1
        have c2 := (usedN_cong _ hcg).trans b2
        obtain ⟨a1, a2⟩ := ordP_skip c1 (c - (j + 1)) (fun k h4 h5 => if_neg (by omega))
        rw [show j + 1 + (c - (j + 1)) = c by omega] at a1 a2
        exact ⟨_, by rw [a1]; rfl, by rw [a2, c2, h2]⟩
    obtain ⟨set, s1, s2⟩ := set_of p c
    have ho : ordW r c set = true := by
      unfold ordW
      rw [← ordP_A, ordP_cong c s2]
      exact h1
    have h3 := fewA_at ho (2 ^ c) s1
    have h4 := pop_used c (by omega) set (by omega) s1
    rw [usedN_cong c s2, h2] at h4
    unfold fewL
    omega
  · unfold fewL
    refine fewA_from (by omega) _ (fun n hn ho => ?_)
    have h4 := pop_used c (by omega) n (by omega) hn
    unfold ordW at ho
    rw [← ordP_A] at ho
    cases hz : ordP r (outB n) c with
    | none => rw [hz] at ho; cases ho
    | some z =>
      rcases ordP_keep hd c (Nat.le_refl _) z hz with ⟨h5, -⟩ | ⟨j, h5, h6, h7⟩
      · omega
      · have := lrM_ge r c h5
        omega
section WRT
variable {f : Nat → Nat → Nat} {s : Nat} {gm : Nat → Nat} {nm : Nat} {gd : Nat → Nat} {nd : Nat}
theorem countA_mono (f : Nat → Nat → Nat) (s : Nat) {a : Nat} : ∀ d : Nat, countA f s a ≤ countA f s (a + d)
  | 0 => Nat.le_refl _
  | d + 1 => Nat.le_trans (countA_mono f s d) (Nat.le_add_right _ _)
theorem countA_at (f : Nat → Nat → Nat) (s : Nat) {j : Nat} : ∀ n : Nat, j < countA f s n → ∃ k, k < n ∧ cnts f s k = true ∧ countA f s k = j
  | 0, h => absurd h (Nat.not_lt_zero j)
  | n + 1, h => by
    have e : countA f s (n + 1) = countA f s n + b2 (cnts f s n) := rfl
    rw [e] at h
    by_cases h1 : j < countA f s n
    · obtain ⟨k, a, b, c⟩ := countA_at f s n h1
      exact ⟨k, by omega, b, c⟩
    · cases hc : cnts f s n with
      | false => rw [hc] at h; exact absurd h h1
      | true =>
        rw [hc] at h
        have : b2 true = 1 := rfl
        exact ⟨n, by omega, hc, by omega⟩
theorem WR.dist (h : WR f s gm nm gd nd) : ∀ a b, a < b → b < (cmpA gm nm gd nd (fun _ => 0) nd).1 → (cmpA gm nm gd nd (fun _ => 0) nd).2.1 a ≠ (cmpA gm nm gd nd (fun _ => 0) nd).2.1 b := by
  obtain ⟨h1, h2, h3, h4⟩ := h.cmp nd (Nat.le_refl _)
  intro a b hab hb
  rw [h1] at hb
  obtain ⟨ka, a1, a2, a3⟩ := countA_at f s nd (show a < countA f s nd by omega)
  obtain ⟨kb, b1, b2, b3⟩ := countA_at f s nd hb
  have e1 := (h4 ka a1 a2).2
  have e2 := (h4 kb b1 b2).2
  rw [a3] at e1
  rw [b3] at e2
  rw [e1, e2]
  have hk : ka < kb := by
    rcases Nat.lt_or_ge ka kb with hk | hk
    · exact hk
    · have := countA_mono f s (a := kb) (ka - kb)
      rw [show kb + (ka - kb) = ka by omega] at this
      omega
  obtain ⟨c1, c2⟩ := (cntsA_iff f s kb kb).mp b2
  obtain ⟨c3, c4⟩ := (cntsA_iff f s ka ka).mp a2
  have d1 : -1 ≤ sOn f s ka := (sOnA_bd9 f s ka _).1
  have d2 : -1 ≤ sOn f s kb := (sOnA_bd9 f s kb _).1
  have := c2 ka hk
  omega
theorem WR.few (h : WR f s gm nm gd nd) : ((fewL (cmpA gm nm gd nd (fun _ => 0) nd).2.1 (cmpA gm nm gd nd (fun _ => 0) nd).1 : Nat) : Int) = slipsK f s 3 := by
  have h6 : (cmpA gm nm gd nd (fun _ => 0) nd).1 ≤ 6 := Nat.le_trans h.rk h.hm6
  rw [fewL_lr h6 h.dist, ← h.slp (by decide)]
  unfold slpC
  rw [va_up_self]
end WRT
