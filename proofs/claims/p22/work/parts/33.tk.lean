/-! takeOut: the scripts rid of e's marks, one by one -/
def tkM (y : Nat → Nat → Nat) (e s : Nat) : Nat × (Nat → Nat) × (Nat → Nat) := remA (y (1000 + 8 * s)) (y (1001 + 8 * s)) e (y 13 s)
def tkX (y : Nat → Nat → Nat) (e s : Nat) : Nat → Nat → Nat := va_up (va_up (va_up y (1000 + 8 * s) (tkM y e s).2.1) (1001 + 8 * s) (tkM y e s).2.2) 13 (va_up (y 13) s (tkM y e s).1)
/-- behind n scripts: how many grades are others, and the rows -/
def tkA (x : Nat → Nat → Nat) (e : Nat) : Nat → Nat × (Nat → Nat → Nat)
  | 0 => (0, x)
  | n + 1 => ((tkA x e n).1 + b2 (decide (gradeC (tkM (tkA x e n).2 e n).2.2 (tkM (tkA x e n).2 e n).1 ≠ gradeC ((tkA x e n).2 (1001 + 8 * n)) ((tkA x e n).2 13 n))), tkX (tkA x e n).2 e n)
theorem tkA_le (x : Nat → Nat → Nat) (e : Nat) : ∀ n : Nat, (tkA x e n).1 ≤ n
  | 0 => Nat.le_refl _
  | n + 1 => Nat.add_le_add (tkA_le x e n) (b2_le _)
theorem remA_v {x v : Nat → Nat} (hv : ∀ j, v j ≤ 20) (e : Nat) : ∀ n j : Nat, (remA x v e n).2.2 j ≤ 20
  | 0, j => hv j
  | n + 1, j => by
    have h := remA_v (x := x) hv e n
    by_cases c : (remA x v e n).2.1 n = e
    · rw [remA_eq c]; exact h j
    · rw [remA_ne c]
      show va_up _ _ _ j ≤ 20
      unfold va_up
      split
      · exact h n
      · exact h j
theorem NB.tkX {nc : Nat} {c : Nat → Nat} {y : Nat → Nat → Nat} (h : NB nc c y) (e s : Nat) : NB nc c (tkX y e s) := by
  have hx : ∀ j, y (1000 + 8 * s) j ≤ 5 := fun j => Nat.le_trans (h.2.2.2.2.2 _ j) (Nat.le_of_eq (xm_0 nc s))
  have hv : ∀ j, y (1001 + 8 * s) j ≤ 20 := fun j => Nat.le_trans (h.2.2.2.2.2 _ j) (Nat.le_of_eq (xm_1 nc s))
  have h13 : ∀ j, y 13 j ≤ 3 := fun j => h.2.2.2.2.2 13 j
  have h1 : ∀ j, (tkM y e s).2.1 j ≤ xMax nc (1000 + 8 * s) := fun j => by rw [xm_0]; exact remA_x hx e _ j
  have h2 : ∀ j, (tkM y e s).2.2 j ≤ xMax nc (1001 + 8 * s) := fun j => by rw [xm_1]; exact remA_v hv e _ j
  have h3 : (tkM y e s).1 ≤ 3 := Nat.le_trans (remA_le _ _ _ _) (h13 s)
  exact ((h.up _ h1).up _ h2).up 13 (fun j => up_le (b := 3) h13 h3 j)
theorem NB.tkA {nc : Nat} {c : Nat → Nat} {x : Nat → Nat → Nat} (h : NB nc c x) (e : Nat) : ∀ n : Nat, NB nc c (tkA x e n).2
  | 0 => h
  | n + 1 => (NB.tkA h e n).tkX e n
