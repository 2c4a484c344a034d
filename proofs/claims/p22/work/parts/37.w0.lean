/-! ## write: the press, and what a new script's slips are -/
def prX (x : Nat → Nat → Nat) (left b : Nat) : Nat → Nat → Nat := if left = 0 then va_up x 4 (va_up (x 4) b (x 4 b - 1)) else va_up x 3 (va_up (x 3) b (x 3 b - 1))
theorem prX_ne {x : Nat → Nat → Nat} {left b k : Nat} (h3 : k ≠ 3) (h4 : k ≠ 4) : prX x left b k = x k := by
  unfold prX
  split
  · exact va_up_ne _ _ h4
  · exact va_up_ne _ _ h3
theorem NB_prX {n : Nat} {c : Nat → Nat} {x : Nat → Nat → Nat} (h : NB n c x) (left b : Nat) : NB n c (prX x left b) := by
  have hx := h.2.2.2.2.2
  unfold prX
  split
  · exact h.up 4 (fun j => up_le (g := x 4) (fun j9 => hx 4 j9) (Nat.le_trans (Nat.sub_le _ _) (hx 4 b)) j)
  · exact h.up 3 (fun j => up_le (g := x 3) (fun j9 => hx 3 j9) (Nat.le_trans (Nat.sub_le _ _) (hx 3 b)) j)
theorem SH.took {de : Nat} {cy : Nat → ClassId} {M : mM} {B : Nat → Nat} {P : Nat → Option va_E} {c : Nat → Nat} {x : Nat → Nat → Nat} {E : Nat → Nat → Option Nat} (h : SH de cy B P c x E) (hH : hHolds M B P) (left b : Nat) :
    ∃ P1, hHolds (if left = 0 then mset M (B 5) (eI cy 3 (va_up (x 4) b (x 4 b - 1))) else mset M (B 4) (eI cy 3 (va_up (x 3) b (x 3 b - 1)))) B P1 ∧ SH de cy B P1 c (prX x left b) E := by
  unfold prX
  by_cases e : left = 0
  · rw [if_pos e, if_pos e]
    exact ⟨_, hH.put 5 _ (p_ne h.1.2.2.2.2.2.1), h.right _⟩
  · rw [if_neg e, if_neg e]
    exact ⟨_, hH.put 4 _ (p_ne h.1.2.2.2.2.1), h.left _⟩
theorem bndC_bd (gl gr : Nat → Nat) (left : Nat) : ∀ n : Nat, -1 ≤ bndC gl gr left n ∧ bndC gl gr left n < (n : Int)
  | 0 => by simp [bndC]
  | n + 1 => by
    have h := bndC_bd gl gr left n
    unfold bndC
    split <;> omega
theorem bndC_pos {gl gr : Nat → Nat} {left b : Nat} : ∀ n : Nat, bndC gl gr left n = (b : Int) → 0 < cntC gl gr left b
  | 0, h => by
    have e : bndC gl gr left 0 = -1 := rfl
    omega
  | n + 1, h => by
    have e : bndC gl gr left (n + 1) = if 0 < cntC gl gr left n then (n : Int) else bndC gl gr left n := rfl
    rw [e] at h
    split at h
    · next h0 => rw [show b = n by omega]; exact h0
    · exact bndC_pos n h
theorem xm_400 (n l : Nat) (h : l < 500) : xMax n (400 + l) = 88 := by
  unfold xMax
  rw [if_neg (by omega), if_pos (by omega)]
def wrS (b band : Nat) (g : Nat → Nat) : Nat → Nat := if b = band then g else va_up g 4 1
theorem nodup7 {a b c d e f g : Nat} (h : [a, b, c, d, e, f, g].Nodup) : nEq b c ∧ nEq b d ∧ nEq b e ∧ nEq b f ∧ nEq b g ∧ nEq c d ∧ nEq c e ∧ nEq c f ∧ nEq c g ∧ nEq d e ∧ nEq d f ∧ nEq d g ∧ nEq e f ∧ nEq e g ∧ nEq f g := by
  simp only [List.nodup_cons, List.mem_cons, not_or] at h
  obtain ⟨-, ⟨h1, h2, h3, h4, h5, -⟩, ⟨h6, h7, h8, h9, -⟩, ⟨k1, k2, k3, -⟩, ⟨k4, k5, -⟩, ⟨k6, -⟩, -⟩ := h
  exact ⟨h1, h2, h3, h4, h5, h6, h7, h8, h9, k1, k2, k3, k4, k5, k6⟩
