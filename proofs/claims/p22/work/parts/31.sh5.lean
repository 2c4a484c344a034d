theorem va_up_eq9 {α : Type} {f : Nat → α} {i j : Nat} {v : α} (h : j = i) : va_up f i v j = v := by rw [h]; exact va_up_self _ _ _
section SH5
variable {de : Nat} {cy : Nat → ClassId} {B : Nat → Nat} {P : Nat → Option va_E} {c : Nat → Nat} {x : Nat → Nat → Nat} {E : Nat → Nat → Option Nat}
/-- a script's cells at index b on -/
abbrev scB (B : Nat → Nat) (b : Nat) (q : Nat → Nat) : Nat → Nat := va_up (va_up (va_up (va_up (va_up (va_up (va_up B (b + 2) (q 2)) (b + 3) (q 3)) (b + 1) (q 1)) (b + 4) (q 4)) (b + 5) (q 5)) (b + 6) (q 6)) b (q 0)
abbrev scP (cy : Nat → ClassId) (P : Nat → Option va_E) (b : Nat) (q : Nat → Nat) (gr sh rc n : Nat) (ge gv gs gp gk : Nat → Nat) : Nat → Option va_E :=
  va_up (va_up (va_up (va_up (va_up (va_up (va_up P (b + 2) (some (eI cy 3 ge))) (b + 3) (some (eI cy 3 gv))) (b + 1) (some (.inr (1, [.ref (q 2), .ref (q 3), .int (nI n)])))) (b + 4) (some (eI cy 5 gs))) (b + 5) (some (eI cy 4 gp))) (b + 6) (some (eI cy 6 gk))) b (some (.inr (4, [.int (nI gr), .ref (q 1), .int (nI sh), .ref (q 4), .ref (q 5), .ref (q 6), .int (nI rc)])))
abbrev scX (x : Nat → Nat → Nat) (s gr sh rc n : Nat) (ge gv gs gp gk : Nat → Nat) : Nat → Nat → Nat :=
  va_up (va_up (va_up (va_up (va_up (va_up (va_up (va_up (va_up x 10 (va_up (x 10) s gr)) 11 (va_up (x 11) s sh)) 12 (va_up (x 12) s rc)) 13 (va_up (x 13) s n)) (1000 + 8 * s) ge) (1001 + 8 * s) gv) (1002 + 8 * s) gs) (1003 + 8 * s) gp) (1004 + 8 * s) gk
set_option maxHeartbeats 4000000 in
theorem SH.script (h : SH de cy B P c x E) (hc1 : c 1 ≤ 10) (hc2 : c 2 ≤ 20) (q : Nat → Nat) (el cap gr sh rc n0 : Nat) (ge gv gs gp gk : Nat → Nat) (g : Nat → Option Nat) (h10 : 10 ≤ cap) (h58 : cap ≤ 58) (hn : c 3 + 1 ≤ cap) (hg : ∀ j, j < c 3 → g j = E 10 j) (hgn : g (c 3) = some (q 0)) :
    SH de cy (va_up (scB B (60 + 7 * c 3) q) 11 el) (va_up (va_up (va_up (scP cy P (60 + 7 * c 3) q gr sh rc n0 ge gv gs gp gk) 11 (some (eQ cy cap g))) 10 (some (.inr (0, [.int (nI (x 1 10 + 1)), .ref el, .int (nI (c 3 + 1))])))) 1 (some (.inr (5, [.ref (B 2), .int (nI 0)]))))
      (va_up (va_up c 3 (c 3 + 1)) 0 0) (scX (xLst x 10 cap (x 1 10 + 1)) (c 3) gr sh rc n0 ge gv gs gp gk) (va_up E 10 g) := by
  obtain ⟨h0, h6, h8, hA, hL, hP, hS⟩ := h
  refine ⟨?_, ?_, ?_, ?_, ?_, ?_, ?_⟩
  · simp (disch := omega) only [va_up_self, va_up_ne]; exact ⟨h0.1, trivial, h0.2.2⟩
  · unfold LI at *
    simp (disch := omega) only [va_up_self, va_up_ne]
    exact ⟨h6.1, h6.2.1, h6.2.2.1, fun j hj => by first | exact h6.2.2.2 j hj | (simp (disch := omega) only [va_up_self, va_up_ne]; exact h6.2.2.2 j hj)⟩
  · unfold LI at *
    simp (disch := omega) only [va_up_self, va_up_ne]
    exact ⟨h8.1, h8.2.1, h8.2.2.1, fun j hj => by first | exact h8.2.2.2 j hj | (simp (disch := omega) only [va_up_self, va_up_ne]; exact h8.2.2.2 j hj)⟩
  · unfold LI at *
    simp (disch := omega) only [va_up_self, va_up_ne]
    refine ⟨trivial, hn, Or.inr ⟨h10, h58, trivial⟩, fun j hj => ?_⟩
    by_cases e : j = c 3
    · subst e
      simp (disch := omega) only [va_up_self, va_up_ne]
      exact hgn
    · simp (disch := omega) only [va_up_self, va_up_ne]
      exact (hg j (by omega)).trans (hA.2.2.2 j (by omega))
  · intro l hl
    have hl9 : l < c 1 := by simpa (disch := omega) only [va_up_self, va_up_ne] using hl
    have h := hL l hl9
    simp (disch := omega) only [va_up_self, va_up_ne]
    exact h
  · intro p hp
    have hp9 : p < c 2 := by simpa (disch := omega) only [va_up_ne] using hp
    have h := hP p hp9
    simp (disch := omega) only [va_up_self, va_up_ne]
    exact h
  · intro s hs
    have hs9 : s < c 3 + 1 := by simpa (disch := omega) only [va_up_self, va_up_ne] using hs
    by_cases e : s = c 3
    · subst e
      refine ⟨?_, ?_, ?_, ?_, ?_, ?_, ?_⟩ <;> simp (disch := omega) only [va_up_self, va_up_ne, va_up_eq9]
    · have h := hS s (by omega)
      simp (disch := omega) only [va_up_self, va_up_ne]
      exact h
end SH5
