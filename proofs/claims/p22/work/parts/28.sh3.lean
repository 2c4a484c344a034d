section SH3
theorem va_up_id9 {α : Type} (f : Nat → α) (k : Nat) : va_up f k (f k) = f := by
  funext j
  by_cases e : j = k
  · subst e; exact va_up_self _ _ _
  · exact va_up_ne _ _ e
/-- a row at its old address, or at a new one -/
theorem hHolds.row {M : mM} {B : Nat → Nat} {P : Nat → Option va_E} (h : hHolds M B P) (k a : Nat) (e : va_E) (hc : (a = B k ∧ P k ≠ none) ∨ M a = none) : hHolds (mset M a e) (va_up B k a) (va_up P k (some e)) := by
  rcases hc with ⟨rfl, hk⟩ | hq
  · rw [va_up_id]
    exact h.put k e hk
  · exact h.move k a e hq
variable {de : Nat} {cy : Nat → ClassId} {B : Nat → Nat} {P : Nat → Option va_E} {c : Nat → Nat} {x : Nat → Nat → Nat} {E : Nat → Nat → Option Nat}
abbrev xLst (x : Nat → Nat → Nat) (k cap mo : Nat) : Nat → Nat → Nat := va_up (va_up x 0 (va_up (x 0) k cap)) 1 (va_up (x 1) k mo)
set_option maxHeartbeats 4000000 in
theorem SH.pupil (h : SH de cy B P c x E) (hc1 : c 1 ≤ 10) (hc2 : c 2 < 20) (q el cap g0 b0 l0 : Nat) (g : Nat → Option Nat) (h10 : 10 ≤ cap) (h58 : cap ≤ 58) (hn : c 2 + 1 ≤ cap) (hg : ∀ j, j < c 2 → g j = E 8 j) (hgn : g (c 2) = some q) :
    SH de cy (va_up (va_up B (40 + 1 * c 2) q) 9 el) (va_up (va_up (va_up P (40 + 1 * c 2) (some (.inr (3, [.int (nI g0), .int (nI b0), .int (nI l0)])))) 9 (some (eQ cy cap g))) 8 (some (.inr (0, [.int (nI (x 1 8 + 1)), .ref el, .int (nI (c 2 + 1))]))))
      (va_up c 2 (c 2 + 1)) (va_up (va_up (va_up (xLst x 8 cap (x 1 8 + 1)) 7 (va_up (x 7) (c 2) g0)) 8 (va_up (x 8) (c 2) b0)) 9 (va_up (x 9) (c 2) l0)) (va_up E 8 g) := by
  obtain ⟨h0, h6, h8, hA, hL, hP, hS⟩ := h
  refine ⟨?_, ?_, ?_, ?_, ?_, ?_, ?_⟩
  · simp (disch := omega) only [va_up_self, va_up_ne]; exact h0
  · unfold LI at *
    simp (disch := omega) only [va_up_self, va_up_ne]
    exact ⟨h6.1, h6.2.1, h6.2.2.1, fun j hj => by first | exact h6.2.2.2 j hj | (simp (disch := omega) only [va_up_self, va_up_ne]; exact h6.2.2.2 j hj)⟩
  · unfold LI at *
    simp (disch := omega) only [va_up_self, va_up_ne]
    refine ⟨trivial, hn, Or.inr ⟨h10, h58, trivial⟩, fun j hj => ?_⟩
    by_cases e : j = c 2
    · subst e
      simp (disch := omega) only [va_up_self, va_up_ne]
      exact hgn
    · simp (disch := omega) only [va_up_self, va_up_ne]
      exact (hg j (by omega)).trans (h8.2.2.2 j (by omega))
  · unfold LI at *
    simp (disch := omega) only [va_up_self, va_up_ne]
    exact ⟨hA.1, hA.2.1, hA.2.2.1, fun j hj => by first | exact hA.2.2.2 j hj | (simp (disch := omega) only [va_up_self, va_up_ne]; exact hA.2.2.2 j hj)⟩
  · intro l hl
    have hl9 : l < c 1 := by simpa (disch := omega) only [va_up_ne] using hl
    have h := hL l hl9
    simp (disch := omega) only [va_up_self, va_up_ne]
    exact h
  · intro p hp
    rw [va_up_self] at hp
    by_cases e : p = c 2
    · subst e
      simp (disch := omega) only [va_up_self, va_up_ne]
    · have h := hP p (by omega)
      simp (disch := omega) only [va_up_self, va_up_ne]
      exact h
  · intro s hs
    have hs9 : s < c 3 := by simpa (disch := omega) only [va_up_ne] using hs
    have h := hS s hs9
    simp (disch := omega) only [va_up_self, va_up_ne]
    exact h
/-- what c_listAdd asks -/
theorem LI.add {M M1 : mM} {k n b d : Nat} (h : LI de cy B P x E k n b d) (hH : hHolds M B P) (hM1 : ∀ a, M a ≠ none → M1 a = M a) (hn : n < 40) {ci : Nat} {fs : Nat → List Value} (hel : ∀ j, j < n → P (b + d * j) = some (.inr (ci, fs j))) {r : vw_C} (hr : vwCl[ci]? = some r) {C : String} (hC : r.1 = C) (hci : ci ≠ 0) :
    ((n < x 0 k ∧ 10 ≤ x 0 k ∧ x 0 k ≤ 58 ∧ M1 (B (k + 1)) = some (eQ cy (x 0 k) (E k))) ∨ (n = 0 ∧ B (k + 1) = de) ∨ (10 ≤ n ∧ n < 40 ∧ M1 (B (k + 1)) = some (eQ cy n (E k)))) ∧ (∀ i : Nat, i < n → ∀ y : Nat, E k i = some y → ∃ (ci : Nat) (fs : List Value) (r : vw_C), M1 y = some (.inr (ci, fs)) ∧ vwCl[ci]? = some r ∧ r.1 = C) ∧ ∀ i : Nat, i < n → E k i ≠ some (B k) := by
  obtain ⟨h1, h2, h3, h4⟩ := h
  have up : ∀ j e, P j = some e → M1 (B j) = some e := fun j e hj => (hM1 _ (by rw [hH.1 j e hj]; exact fun z => by cases z)).trans (hH.1 j e hj)
  refine ⟨?_, fun i hi y hy => ?_, fun i hi hy => ?_⟩
  · rcases h3 with ⟨h5, h6⟩ | ⟨h5, h6, h7⟩
    · exact Or.inr (Or.inl ⟨by omega, h6⟩)
    · rcases Nat.lt_or_ge n (x 0 k) with h8 | h8
      · exact Or.inl ⟨h8, h5, h6, up _ _ h7⟩
      · have e : x 0 k = n := by omega
        rw [e] at h7
        exact Or.inr (Or.inr ⟨by omega, hn, up _ _ h7⟩)
  · rw [h4 i hi] at hy
    cases hy
    exact ⟨ci, fs i, r, up _ _ (hel i hi), hr, hC⟩
  · rw [h4 i hi] at hy
    have e1 := hH.1 _ _ (hel i hi)
    have e2 := hH.1 _ _ h1
    rw [Option.some.inj hy, e2] at e1
    exact hci (congrArg Prod.fst (Sum.inr.inj (Option.some.inj e1))).symm
theorem LI.row {M1 : mM} {k n b d el : Nat} (h : LI de cy B P x E k n b d) (hde : M1 de = none) (hel : el = B (k + 1) ∨ M1 el = none) : (el = B (k + 1) ∧ P (k + 1) ≠ none) ∨ M1 el = none := by
  rcases hel with rfl | h9
  · rcases h.2.2.1 with ⟨-, h6⟩ | ⟨-, -, h7⟩
    · exact Or.inr (by rw [h6]; exact hde)
    · exact Or.inl ⟨rfl, by rw [h7]; exact fun z => by cases z⟩
  · exact Or.inr h9
end SH3
section SH4
variable {de : Nat} {cy : Nat → ClassId} {B : Nat → Nat} {P : Nat → Option va_E} {c : Nat → Nat} {x : Nat → Nat → Nat} {E : Nat → Nat → Option Nat}
set_option maxHeartbeats 4000000 in
theorem SH.letter (h : SH de cy B P c x E) (hc1 : c 1 < 10) (hc2 : c 2 ≤ 20) (q1 q2 el cap m0 : Nat) (g0 : Nat → Nat) (g : Nat → Option Nat) (h10 : 10 ≤ cap) (h58 : cap ≤ 58) (hn : c 1 + 1 ≤ cap) (hg : ∀ j, j < c 1 → g j = E 6 j) (hgn : g (c 1) = some q1) :
    SH de cy (va_up (va_up (va_up B (21 + 2 * c 1) q2) (20 + 2 * c 1) q1) 7 el) (va_up (va_up (va_up (va_up (va_up P (21 + 2 * c 1) (some (eI cy 8 g0))) (20 + 2 * c 1) (some (.inr (5, [.ref q2, .int (nI m0)])))) 7 (some (eQ cy cap g))) 6 (some (.inr (0, [.int (nI (x 1 6 + 1)), .ref el, .int (nI (c 1 + 1))])))) 1 (some (.inr (5, [.ref (B 2), .int (nI 0)]))))
      (va_up (va_up c 1 (c 1 + 1)) 0 0) (va_up (va_up (xLst x 6 cap (x 1 6 + 1)) 6 (va_up (x 6) (c 1) m0)) (400 + c 1) g0) (va_up E 6 g) := by
  obtain ⟨h0, h6, h8, hA, hL, hP, hS⟩ := h
  refine ⟨?_, ?_, ?_, ?_, ?_, ?_, ?_⟩
  · simp (disch := omega) only [va_up_self, va_up_ne]; exact ⟨h0.1, trivial, h0.2.2⟩
  · unfold LI at *
    simp (disch := omega) only [va_up_self, va_up_ne]
    refine ⟨trivial, hn, Or.inr ⟨h10, h58, trivial⟩, fun j hj => ?_⟩
    by_cases e : j = c 1
    · subst e
      simp (disch := omega) only [va_up_self, va_up_ne]
      exact hgn
    · simp (disch := omega) only [va_up_self, va_up_ne]
      exact (hg j (by omega)).trans (h6.2.2.2 j (by omega))
  · unfold LI at *
    simp (disch := omega) only [va_up_self, va_up_ne]
    exact ⟨h8.1, h8.2.1, h8.2.2.1, fun j hj => by first | exact h8.2.2.2 j hj | (simp (disch := omega) only [va_up_self, va_up_ne]; exact h8.2.2.2 j hj)⟩
  · unfold LI at *
    simp (disch := omega) only [va_up_self, va_up_ne]
    exact ⟨hA.1, hA.2.1, hA.2.2.1, fun j hj => by first | exact hA.2.2.2 j hj | (simp (disch := omega) only [va_up_self, va_up_ne]; exact hA.2.2.2 j hj)⟩
  · intro l hl
    have hl9 : l < c 1 + 1 := by simpa (disch := omega) only [va_up_self, va_up_ne] using hl
    by_cases e : l = c 1
    · subst e
      simp (disch := omega) only [va_up_self, va_up_ne]
      exact ⟨trivial, trivial⟩
    · have h := hL l (by omega)
      simp (disch := omega) only [va_up_self, va_up_ne]
      exact h
  · intro p hp
    have hp9 : p < c 2 := by simpa (disch := omega) only [va_up_ne] using hp
    have h := hP p hp9
    simp (disch := omega) only [va_up_self, va_up_ne]
    exact h
  · intro s hs
    have hs9 : s < c 3 := by simpa (disch := omega) only [va_up_ne] using hs
    have h := hS s hs9
    simp (disch := omega) only [va_up_self, va_up_ne]
    exact h
end SH4
