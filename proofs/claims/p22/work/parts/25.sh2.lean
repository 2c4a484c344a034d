section SH2
variable {de : Nat} {cy : Nat → ClassId} {B : Nat → Nat} {P : Nat → Option va_E} {c : Nat → Nat} {x : Nat → Nat → Nat} {E : Nat → Nat → Option Nat}
theorem SH.marks (h : SH de cy B P c x E) (hc1 : c 1 ≤ 10) (hc2 : c 2 ≤ 20) (s n : Nat) (ge gv : Nat → Nat) : SH de cy B (va_up (va_up (va_up P (62 + 7 * s) (some (eI cy 3 ge))) (63 + 7 * s) (some (eI cy 3 gv))) (61 + 7 * s) (some (.inr (1, [.ref (B (62 + 7 * s)), .ref (B (63 + 7 * s)), .int (nI n)])))) c (va_up (va_up (va_up x (1000 + 8 * s) ge) (1001 + 8 * s) gv) 13 (va_up (x 13) s n)) E := by
  obtain ⟨h0, h6, h8, h10, hL, hP, hS⟩ := h
  refine ⟨?_, ?_, ?_, ?_, ?_, ?_, fun s1 hs1 => ?_⟩
  · simp (disch := omega) only [va_up_self, va_up_ne]; exact h0
  · unfold LI at *; simp (disch := omega) only [va_up_self, va_up_ne]; exact h6
  · unfold LI at *; simp (disch := omega) only [va_up_self, va_up_ne]; exact h8
  · unfold LI at *; simp (disch := omega) only [va_up_self, va_up_ne]; exact h10
  · intro l hl; have h := hL l hl; simp (disch := omega) only [va_up_self, va_up_ne]; exact h
  · intro l hl; have h := hP l hl; simp (disch := omega) only [va_up_self, va_up_ne]; exact h
  · have h := hS s1 hs1
    by_cases e : s1 = s
    · subst e
      simp (disch := omega) only [va_up_self, va_up_ne]
      exact ⟨h.1, trivial, trivial, trivial, h.2.2.2.2⟩
    · simp (disch := omega) only [va_up_self, va_up_ne]
      exact h
theorem SH.shown (h : SH de cy B P c x E) (hc1 : c 1 ≤ 10) (hc2 : c 2 ≤ 20) (s n : Nat) : SH de cy B (va_up P (60 + 7 * s) (some (.inr (4, [.int (nI (x 10 s)), .ref (B (61 + 7 * s)), .int (nI n), .ref (B (64 + 7 * s)), .ref (B (65 + 7 * s)), .ref (B (66 + 7 * s)), .int (nI (x 12 s))])))) c (va_up x 11 (va_up (x 11) s n)) E := by
  obtain ⟨h0, h6, h8, h10, hL, hP, hS⟩ := h
  refine ⟨?_, ?_, ?_, ?_, ?_, ?_, fun s1 hs1 => ?_⟩
  · simp (disch := omega) only [va_up_self, va_up_ne]; exact h0
  · unfold LI at *; simp (disch := omega) only [va_up_self, va_up_ne]; exact h6
  · unfold LI at *; simp (disch := omega) only [va_up_self, va_up_ne]; exact h8
  · unfold LI at *; simp (disch := omega) only [va_up_self, va_up_ne]; exact h10
  · intro l hl; have h := hL l hl; simp (disch := omega) only [va_up_self, va_up_ne]; exact h
  · intro l hl; have h := hP l hl; simp (disch := omega) only [va_up_self, va_up_ne]; exact h
  · have h := hS s1 hs1
    by_cases e : s1 = s
    · subst e
      simp (disch := omega) only [va_up_self, va_up_ne]
      exact ⟨trivial, h.2⟩
    · simp (disch := omega) only [va_up_self, va_up_ne]
      exact h
theorem SH.points (h : SH de cy B P c x E) (hc1 : c 1 ≤ 10) (hc2 : c 2 ≤ 20) (s : Nat) (g : Nat → Nat) : SH de cy B (va_up P (65 + 7 * s) (some (eI cy 4 g))) c (va_up x (1003 + 8 * s) g) E := by
  obtain ⟨h0, h6, h8, h10, hL, hP, hS⟩ := h
  refine ⟨?_, ?_, ?_, ?_, ?_, ?_, fun s1 hs1 => ?_⟩
  · simp (disch := omega) only [va_up_self, va_up_ne]; exact h0
  · unfold LI at *; simp (disch := omega) only [va_up_self, va_up_ne]; exact h6
  · unfold LI at *; simp (disch := omega) only [va_up_self, va_up_ne]; exact h8
  · unfold LI at *; simp (disch := omega) only [va_up_self, va_up_ne]; exact h10
  · intro l hl; have h := hL l hl; simp (disch := omega) only [va_up_self, va_up_ne]; exact h
  · intro l hl; have h := hP l hl; simp (disch := omega) only [va_up_self, va_up_ne]; exact h
  · have h := hS s1 hs1
    by_cases e : s1 = s
    · subst e
      simp (disch := omega) only [va_up_self, va_up_ne]
      exact ⟨h.1, h.2.1, h.2.2.1, h.2.2.2.1, h.2.2.2.2.1, trivial, h.2.2.2.2.2.2⟩
    · simp (disch := omega) only [va_up_self, va_up_ne]
      exact h
end SH2
/-- how many of the first n scripts are shown -/
def shC (x : Nat → Nat → Nat) : Nat → Nat
  | 0 => 0
  | n + 1 => shC x n + x 11 n
def wC (x : Nat → Nat → Nat) (s : Nat) : Int := worthC (x (1001 + 8 * s)) (x 13 s) (x 11 s) (x (1003 + 8 * s)) (x (1002 + 8 * s))
/-- the place among the first n -/
def plA (x : Nat → Nat → Nat) (w : Int) (s : Nat) : Nat → Nat
  | 0 => 1
  | n + 1 => plA x w s n + b2 (decide (w < wC x n ∨ (wC x n = w ∧ n < s)))
def plC (x : Nat → Nat → Nat) (n : Nat) (w : Int) (s : Nat) : Int := if w = -9999 then -1 else (plA x w s n : Int)
def atC (x : Nat → Nat → Nat) (n : Nat) (p : Int) : Nat → Int
  | 0 => -1
  | k + 1 => if atC x n p k ≠ -1 then atC x n p k else if plC x n (wC x k) k = p then (k : Int) else -1
theorem atC_miss {x : Nat → Nat → Nat} {n : Nat} {p : Int} {k : Nat} (h : atC x n p k = -1) (hm : plC x n (wC x k) k ≠ p) : atC x n p (k + 1) = -1 := by
  show (if atC x n p k ≠ -1 then _ else _) = _
  rw [if_neg (by omega), if_neg hm]
theorem atC_stay {x : Nat → Nat → Nat} {n : Nat} {p : Int} {k : Nat} (h : atC x n p k ≠ -1) : ∀ m : Nat, atC x n p (k + m) = atC x n p k
  | 0 => rfl
  | m + 1 => by
    have e := atC_stay h m
    have e2 : atC x n p (k + m + 1) = (if atC x n p (k + m) ≠ -1 then atC x n p (k + m) else if plC x n (wC x (k + m)) (k + m) = p then ((k + m : Nat) : Int) else -1) := rfl
    rw [show k + (m + 1) = k + m + 1 from rfl, e2, if_pos (by rw [e]; exact h), e]
theorem atC_hit {x : Nat → Nat → Nat} {n : Nat} {p : Int} {k m : Nat} (h : atC x n p k = -1) (hm : plC x n (wC x k) k = p) (hk : k < m) : atC x n p m = (k : Int) := by
  have e : atC x n p (k + 1) = (k : Int) := by
    show (if atC x n p k ≠ -1 then _ else _) = _
    rw [if_neg (by omega), if_pos hm]
  have := atC_stay (x := x) (n := n) (p := p) (k := k + 1) (by rw [e]; omega) (m - (k + 1))
  rw [show k + 1 + (m - (k + 1)) = m by omega, e] at this
  exact this
theorem plA_le (x : Nat → Nat → Nat) (w : Int) (s : Nat) : ∀ n : Nat, 1 ≤ plA x w s n ∧ plA x w s n ≤ n + 1
  | 0 => ⟨Nat.le_refl _, Nat.le_refl _⟩
  | n + 1 => by
    have h := plA_le x w s n
    have h2 := b2_le (decide (w < wC x n ∨ (wC x n = w ∧ n < s)))
    unfold plA
    omega
theorem shC_le {x : Nat → Nat → Nat} (hx : ∀ j, x 11 j ≤ 1) : ∀ n : Nat, shC x n ≤ n
  | 0 => Nat.le_refl _
  | n + 1 => by
    have h := shC_le hx n
    have h2 := hx n
    unfold shC
    omega
theorem wC_bd {x : Nat → Nat → Nat} {s : Nat} (hv : ∀ j, x (1001 + 8 * s) j ≤ 20) (hp : ∀ j, x (1003 + 8 * s) j ≤ 5) (hs : ∀ j, x (1002 + 8 * s) j ≤ 8) : -9999 ≤ wC x s ∧ wC x s ≤ 200 := by
  have h1 := gradeC_bd (n := x 13 s) hv
  have h2 := sumA_le hp 4
  have h3 := sumA_le hs 5
  unfold wC worthC
  split <;> omega
theorem plC_bd (x : Nat → Nat → Nat) {n : Nat} (w : Int) (s : Nat) (hn : n ≤ 40) : -1 ≤ plC x n w s ∧ plC x n w s ≤ 41 := by
  have h := plA_le x w s n
  unfold plC
  split <;> omega
theorem NB.up {n : Nat} {c : Nat → Nat} {x : Nat → Nat → Nat} (h : NB n c x) (k : Nat) {g : Nat → Nat} (hg : ∀ j, g j ≤ xMax n k) : NB n c (va_up x k g) :=
  ⟨h.1, h.2.1, h.2.2.1, h.2.2.2.1, h.2.2.2.2.1, fun q j => by
    by_cases e : q = k
    · subst e; rw [va_up_self]; exact hg j
    · rw [va_up_ne _ _ e]; exact h.2.2.2.2.2 q j⟩
