/-! ## the class's world: B the addresses by index, P the cells by index; c its numbers (0 strokes on the pen, 1 letters, 2 pupils, 3 scripts), x its rows -/
/-- hidden from the arithmetic -/
def nEq (a b : Nat) : Prop := a ≠ b
def hHolds (M : mM) (B : Nat → Nat) (P : Nat → Option va_E) : Prop := (∀ k e, P k = some e → M (B k) = some e) ∧ ∀ j k, P j ≠ none → P k ≠ none → B j = B k → j = k
theorem p_ne {P : Nat → Option va_E} {k : Nat} {e : va_E} (h : P k = some e) : P k ≠ none := by rw [h]; exact fun z => by cases z
section HH
variable {M : mM} {B : Nat → Nat} {P : Nat → Option va_E}
theorem hHolds.ne (h : hHolds M B P) {j k : Nat} {e f : va_E} (hj : P j = some e) (hk : P k = some f) (hjk : j ≠ k) : B j ≠ B k := fun z => hjk (h.2 j k (p_ne hj) (p_ne hk) z)
theorem hHolds.put (h : hHolds M B P) (k : Nat) (e : va_E) (hk : P k ≠ none) : hHolds (mset M (B k) e) B (va_up P k (some e)) := by
  refine ⟨fun j f hj => ?_, fun i j hi hj hB => ?_⟩
  · by_cases e1 : j = k
    · subst e1
      rw [va_up_self] at hj
      cases hj
      exact mset_self _ _ _
    · rw [va_up_ne _ _ e1] at hj
      rw [mset_ne (fun z => e1 (h.2 j k (p_ne hj) hk z))]
      exact h.1 j f hj
  · refine h.2 i j ?_ ?_ hB
    · by_cases e1 : i = k
      · rw [e1]; exact hk
      · rw [va_up_ne _ _ e1] at hi; exact hi
    · by_cases e1 : j = k
      · rw [e1]; exact hk
      · rw [va_up_ne _ _ e1] at hj; exact hj
theorem hHolds.move (h : hHolds M B P) (k q : Nat) (e : va_E) (hq : M q = none) : hHolds (mset M q e) (va_up B k q) (va_up P k (some e)) := by
  have hne : ∀ j, j ≠ k → va_up P k (some e) j ≠ none → B j ≠ q := fun j h1 h2 z => by
    rw [va_up_ne _ _ h1] at h2
    cases hj : P j with
    | none => exact h2 hj
    | some f => rw [← z, h.1 j f hj] at hq; cases hq
  refine ⟨fun j f hj => ?_, fun i j hi hj hB => ?_⟩
  · by_cases e1 : j = k
    · subst e1
      rw [va_up_self] at hj
      rw [va_up_self]
      cases hj
      exact mset_self _ _ _
    · have h2 := hne j e1 (p_ne hj)
      rw [va_up_ne _ _ e1] at hj ⊢
      rw [mset_ne h2]
      exact h.1 j f hj
  · by_cases e1 : i = k <;> by_cases e2 : j = k
    · rw [e1, e2]
    · subst e1
      rw [va_up_self, va_up_ne _ _ e2] at hB
      exact absurd hB.symm (hne j e2 hj)
    · subst e2
      rw [va_up_self, va_up_ne _ _ e1] at hB
      exact absurd hB (hne i e1 hi)
    · rw [va_up_ne _ _ e1, va_up_ne _ _ e2] at hB
      rw [va_up_ne _ _ e1] at hi
      rw [va_up_ne _ _ e2] at hj
      exact h.2 i j hi hj hB
theorem hHolds.junk (h : hHolds M B P) (q : Nat) (e : va_E) (hq : M q = none) : hHolds (mset M q e) B P :=
  ⟨fun j f hj => (mset_ne (fun z => by rw [← z, h.1 j f hj] at hq; cases hq)).trans (h.1 j f hj), h.2⟩
end HH
def xMax (n : Nat) : Nat → Nat := fun k =>
  if 1000 ≤ k then (if k % 8 = 0 then 5 else if k % 8 = 1 then 20 else if k % 8 = 2 then 8 else if k % 8 = 3 then 5 else 8) else if 400 ≤ k then 88
  else match k with
  | 2 => 88 | 3 => 50 * n | 4 => 50 * n | 5 => 1 | 6 => 6 | 7 => 3 | 8 => 2 | 9 => 1 | 10 => 3 | 11 => 1 | 12 => 6 | 13 => 3
  | _ => 58
def NB (n : Nat) (c : Nat → Nat) (x : Nat → Nat → Nat) : Prop := n ≤ 512 ∧ c 0 ≤ 8 ∧ c 1 ≤ 10 ∧ c 2 ≤ 20 ∧ c 3 ≤ 40 ∧ ∀ k j, x k j ≤ xMax n k
/-- a list at index k: n elements, the j-th is what has index b + d * j -/
def LI (de : Nat) (cy : Nat → ClassId) (B : Nat → Nat) (P : Nat → Option va_E) (x : Nat → Nat → Nat) (E : Nat → Nat → Option Nat) (k n b d : Nat) : Prop :=
  P k = some (.inr (0, [.int (nI (x 1 k)), .ref (B (k + 1)), .int (nI n)])) ∧ n ≤ x 0 k ∧
  ((x 0 k = 0 ∧ B (k + 1) = de) ∨ (10 ≤ x 0 k ∧ x 0 k ≤ 58 ∧ P (k + 1) = some (eQ cy (x 0 k) (E k)))) ∧ ∀ j, j < n → E k j = some (B (b + d * j))
def SH (de : Nat) (cy : Nat → ClassId) (B : Nat → Nat) (P : Nat → Option va_E) (c : Nat → Nat) (x : Nat → Nat → Nat) (E : Nat → Nat → Option Nat) : Prop :=
  (P 0 = some (.inr (6, [.ref (B 1), .ref (B 3), .ref (B 6), .ref (B 8), .ref (B 10), .ref (B 12)])) ∧ P 1 = some (.inr (5, [.ref (B 2), .int (nI (c 0))])) ∧ P 2 = some (eI cy 8 (x 2)) ∧ P 3 = some (.inr (2, [.ref (B 4), .ref (B 5)])) ∧ P 4 = some (eI cy 3 (x 3)) ∧ P 5 = some (eI cy 3 (x 4)) ∧ P 12 = some (eZ cy 6 (x 5))) ∧
  LI de cy B P x E 6 (c 1) 20 2 ∧ LI de cy B P x E 8 (c 2) 40 1 ∧ LI de cy B P x E 10 (c 3) 60 7 ∧
  (∀ l, l < c 1 → P (20 + 2 * l) = some (.inr (5, [.ref (B (21 + 2 * l)), .int (nI (x 6 l))])) ∧ P (21 + 2 * l) = some (eI cy 8 (x (400 + l)))) ∧
  (∀ p, p < c 2 → P (40 + 1 * p) = some (.inr (3, [.int (nI (x 7 p)), .int (nI (x 8 p)), .int (nI (x 9 p))]))) ∧
  ∀ s, s < c 3 → P (60 + 7 * s) = some (.inr (4, [.int (nI (x 10 s)), .ref (B (61 + 7 * s)), .int (nI (x 11 s)), .ref (B (64 + 7 * s)), .ref (B (65 + 7 * s)), .ref (B (66 + 7 * s)), .int (nI (x 12 s))])) ∧ P (61 + 7 * s) = some (.inr (1, [.ref (B (62 + 7 * s)), .ref (B (63 + 7 * s)), .int (nI (x 13 s))])) ∧
    P (62 + 7 * s) = some (eI cy 3 (x (1000 + 8 * s))) ∧ P (63 + 7 * s) = some (eI cy 3 (x (1001 + 8 * s))) ∧ P (64 + 7 * s) = some (eI cy 5 (x (1002 + 8 * s))) ∧ P (65 + 7 * s) = some (eI cy 4 (x (1003 + 8 * s))) ∧ P (66 + 7 * s) = some (eI cy 6 (x (1004 + 8 * s)))
section SHL
variable {de : Nat} {cy : Nat → ClassId} {B : Nat → Nat} {P : Nat → Option va_E} {c : Nat → Nat} {x : Nat → Nat → Nat} {E : Nat → Nat → Option Nat}
theorem SH.pen (h : SH de cy B P c x E) (n : Nat) (g : Nat → Nat) : SH de cy B (va_up (va_up P 2 (some (eI cy 8 g))) 1 (some (.inr (5, [.ref (B 2), .int (nI n)])))) (va_up c 0 n) (va_up x 2 g) E := by
  unfold SH LI at *
  simp (disch := omega) only [va_up_self, va_up_ne]
  exact ⟨⟨h.1.1, trivial, trivial, h.1.2.2.2⟩, h.2⟩
theorem SH.lift (h : SH de cy B P c x E) (n : Nat) : SH de cy B (va_up P 1 (some (.inr (5, [.ref (B 2), .int (nI n)])))) (va_up c 0 n) x E := by
  unfold SH LI at *
  simp (disch := omega) only [va_up_self, va_up_ne]
  exact ⟨⟨h.1.1, trivial, h.1.2.2⟩, h.2⟩
theorem SH.left (h : SH de cy B P c x E) (g : Nat → Nat) : SH de cy B (va_up P 4 (some (eI cy 3 g))) c (va_up x 3 g) E := by
  unfold SH LI at *
  simp (disch := omega) only [va_up_self, va_up_ne]
  exact ⟨⟨h.1.1, h.1.2.1, h.1.2.2.1, h.1.2.2.2.1, trivial, h.1.2.2.2.2.2⟩, h.2⟩
theorem SH.right (h : SH de cy B P c x E) (g : Nat → Nat) : SH de cy B (va_up P 5 (some (eI cy 3 g))) c (va_up x 4 g) E := by
  unfold SH LI at *
  simp (disch := omega) only [va_up_self, va_up_ne]
  exact ⟨⟨h.1.1, h.1.2.1, h.1.2.2.1, h.1.2.2.2.1, h.1.2.2.2.2.1, trivial, h.1.2.2.2.2.2.2⟩, h.2⟩
theorem SH.out (h : SH de cy B P c x E) (g : Nat → Nat) : SH de cy B (va_up P 12 (some (eZ cy 6 g))) c (va_up x 5 g) E := by
  unfold SH LI at *
  simp (disch := omega) only [va_up_self, va_up_ne]
  exact ⟨⟨h.1.1, h.1.2.1, h.1.2.2.1, h.1.2.2.2.1, h.1.2.2.2.2.1, h.1.2.2.2.2.2.1, trivial⟩, h.2⟩
end SHL
theorem LI.num {de : Nat} {cy : Nat → ClassId} {B : Nat → Nat} {P : Nat → Option va_E} {x : Nat → Nat → Nat} {E : Nat → Nat → Option Nat} {M : mM} {k n b d : Nat} (h : LI de cy B P x E k n b d) (hH : hHolds M B P) {ci : Nat} {fs : Nat → List Value} (hel : ∀ j, j < n → P (b + d * j) = some (.inr (ci, fs j))) :
    n ≤ x 0 k ∧ x 0 k < 1000 ∧ (0 < n → M (B (k + 1)) = some (eQ cy (x 0 k) (E k))) ∧ ∀ j, j < n → E k j = some (B (b + d * j)) ∧ M (B (b + d * j)) = some (.inr (ci, fs j)) := by
  obtain ⟨h1, h2, h3, h4⟩ := h
  refine ⟨h2, by omega, fun h0 => ?_, fun j hj => ⟨h4 j hj, hH.1 _ _ (hel j hj)⟩⟩
  rcases h3 with ⟨h5, -⟩ | ⟨-, -, h5⟩
  · omega
  · exact hH.1 _ _ h5
abbrev leF (B : Nat → Nat) (x : Nat → Nat → Nat) (l : Nat) : List Value := [.ref (B (21 + 2 * l)), .int (nI (x 6 l))]
abbrev puF (x : Nat → Nat → Nat) (p : Nat) : List Value := [.int (nI (x 7 p)), .int (nI (x 8 p)), .int (nI (x 9 p))]
abbrev scF (B : Nat → Nat) (x : Nat → Nat → Nat) (s : Nat) : List Value := [.int (nI (x 10 s)), .ref (B (61 + 7 * s)), .int (nI (x 11 s)), .ref (B (64 + 7 * s)), .ref (B (65 + 7 * s)), .ref (B (66 + 7 * s)), .int (nI (x 12 s))]
