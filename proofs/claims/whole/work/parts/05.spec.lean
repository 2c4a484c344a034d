/-! ## what the calls answer, by numbers: i the counters (1 strokes on the pen, 2 letters, 5 pupils, 10 scripts), f the rows by their places -/
def mMax (n : Nat) : Nat → Nat := fun k => match k with
  | 0 => 88 | 3 => 88 | 4 => 6 | 6 => 3 | 7 => 16 | 8 => 1 | 9 => 50 * n | 11 => 88 | 12 => 8 | 13 => 19 | 14 => 9 | 15 => 1 | 16 => 20 | 17 => 5 | 18 => 3 | 19 => 1 | 20 => 1 | 21 => 5
  | _ => 0
/-- the numbers stay small: n calls were made -/
def MI (n : Nat) (i : Nat → Nat) (f : Nat → Nat → Nat) : Prop := n ≤ 512 ∧ i 1 ≤ 8 ∧ i 2 ≤ 10 ∧ i 5 ≤ 20 ∧ i 10 ≤ 40 ∧ ∀ k x, f k x ≤ mMax n k
def oneLine (a b : Nat) : Bool := decide (a = b ∨ (a / 10 = b % 10 ∧ a % 10 = b / 10))
def sOnA (f : Nat → Nat → Nat) (s k : Nat) : Nat → Int
  | 0 => -1
  | n + 1 => if oneLine (f 3 (6 * f 14 s + n)) (f 11 (8 * s + k)) = true then (n : Int) else sOnA f s k n
def sOn (f : Nat → Nat → Nat) (s k : Nat) : Int := sOnA f s k (f 4 (f 14 s))
def cntsA (f : Nat → Nat → Nat) (s k : Nat) : Nat → Bool
  | 0 => decide (sOn f s k ≠ -1)
  | n + 1 => cntsA f s k n && decide (sOn f s n ≠ sOn f s k)
def cnts (f : Nat → Nat → Nat) (s k : Nat) : Bool := cntsA f s k k
def countA (f : Nat → Nat → Nat) (s : Nat) : Nat → Nat
  | 0 => 0
  | n + 1 => countA f s n + b2 (cnts f s n)
def count (f : Nat → Nat → Nat) (s : Nat) : Nat := countA f s (f 12 s)
def turnsAt (f : Nat → Nat → Nat) (s k : Nat) : Bool := cnts f s k && decide (f 3 (6 * f 14 s + (sOn f s k).toNat) ≠ f 11 (8 * s + k))
def turnA (f : Nat → Nat → Nat) (s : Nat) : Nat → Nat
  | 0 => 0
  | n + 1 => turnA f s n + b2 (turnsAt f s n)
def turn (f : Nat → Nat → Nat) (s : Nat) : Nat := turnA f s (f 12 s)
/-- one place of 'longest' behind n steps of its inner loop, over the places g of the earlier ones -/
def lonI (f : Nat → Nat → Nat) (s : Nat) (g : Nat → Nat) (k : Nat) : Nat → Nat
  | 0 => 1
  | n + 1 => if 0 < g n ∧ sOn f s n < sOn f s k ∧ lonI f s g k n ≤ g n then g n + 1 else lonI f s g k n
def lonV (f : Nat → Nat → Nat) (s : Nat) (g : Nat → Nat) (k : Nat) : Nat := if cnts f s k = true then lonI f s g k k else 0
def lonG (f : Nat → Nat → Nat) (s : Nat) : Nat → Nat → Nat
  | 0 => fun _ => 0
  | n + 1 => va_up (lonG f s n) n (lonV f s (lonG f s n) n)
def lon (f : Nat → Nat → Nat) (s k : Nat) : Nat := lonG f s (k + 1) k
def inOrdA (f : Nat → Nat → Nat) (s : Nat) : Nat → Nat
  | 0 => 0
  | n + 1 => if inOrdA f s n < lon f s n then lon f s n else inOrdA f s n
def inOrd (f : Nat → Nat → Nat) (s : Nat) : Nat := inOrdA f s (f 12 s)
def slipsK (f : Nat → Nat → Nat) (s k : Nat) : Int :=
  if k = 0 then (f 4 (f 14 s) : Int) - count f s else if k = 1 then (f 12 s : Int) - count f s else if k = 2 then (turn f s : Int) else if k = 3 then (count f s : Int) - inOrd f s else (f 15 s : Int)
def allSlipsA (f : Nat → Nat → Nat) (s : Nat) : Nat → Int
  | 0 => 0
  | n + 1 => allSlipsA f s n + slipsK f s n
def allSlips (f : Nat → Nat → Nat) (s : Nat) : Int := allSlipsA f s 5
def lackS (f : Nat → Nat → Nat) (s : Nat) : Nat :=
  if f 18 s < 2 then 2 - f 18 s else if f 18 s = 2 ∧ ((f 16 (3 * s + 1) : Int) + 3 < f 16 (3 * s) ∨ (f 16 (3 * s) : Int) + 3 < f 16 (3 * s + 1)) then 1 else 0
def gradeS (f : Nat → Nat → Nat) (s : Nat) : Int :=
  if 0 < lackS f s then -1 else if f 18 s = 2 then (((f 16 (3 * s) + f 16 (3 * s + 1)) / 2 : Nat) : Int)
  else if f 16 (3 * s + 2) < min (f 16 (3 * s)) (f 16 (3 * s + 1)) then (min (f 16 (3 * s)) (f 16 (3 * s + 1)) : Nat)
  else if max (f 16 (3 * s)) (f 16 (3 * s + 1)) < f 16 (3 * s + 2) then (max (f 16 (3 * s)) (f 16 (3 * s + 1)) : Nat) else (f 16 (3 * s + 2) : Nat)
def ptsA (f : Nat → Nat → Nat) (s : Nat) : Nat → Nat
  | 0 => 0
  | n + 1 => ptsA f s n + f 21 (4 * s + n)
def pts (f : Nat → Nat → Nat) (s : Nat) : Nat := ptsA f s 4
def worthS (f : Nat → Nat → Nat) (s : Nat) : Int := if gradeS f s = -1 ∨ f 20 s = 0 then -9999 else 3 * gradeS f s + 2 * (pts f s : Int) - allSlips f s
def aheadS (f : Nat → Nat → Nat) (w : Int) (s k : Nat) : Bool := decide (worthS f k ≠ -9999 ∧ (w < worthS f k ∨ (worthS f k = w ∧ k < s)))
def placeA (f : Nat → Nat → Nat) (w : Int) (s : Nat) : Nat → Nat
  | 0 => 1
  | n + 1 => placeA f w s n + b2 (aheadS f w s n)
/-- among the first n scripts -/
def placeS (f : Nat → Nat → Nat) (n s : Nat) : Int := if worthS f s = -9999 then -1 else (placeA f (worthS f s) s n : Int)
def atA (f : Nat → Nat → Nat) (n : Nat) (p : Int) : Nat → Int
  | 0 => -1
  | k + 1 => if placeS f n k = p then (k : Int) else atA f n p k
def hasA (f : Nat → Nat → Nat) (e s : Nat) : Nat → Bool
  | 0 => false
  | n + 1 => hasA f e s n || decide (f 17 (3 * s + n) = e)
def has (f : Nat → Nat → Nat) (e s : Nat) : Bool := hasA f e s (f 18 s)
/-- the pen's strokes may be a letter, as far as the first k with the first n before -/
def mayI (f : Nat → Nat → Nat) (b : Bool) (k : Nat) : Nat → Bool
  | 0 => b
  | n + 1 => mayI f b k n && !oneLine (f 0 n) (f 0 k)
def mayA (f : Nat → Nat → Nat) (b : Bool) : Nat → Bool
  | 0 => b
  | k + 1 => mayI f (mayA f b k) k k
def mayS (i : Nat → Nat) (f : Nat → Nat → Nat) : Bool := mayA f (decide (1 ≤ i 1 ∧ i 1 ≤ 6 ∧ i 2 < 10)) (i 1)
/-- n places copied, from g at 0 on to the row r at a on -/
def cpA (r : Nat → Nat) (a : Nat) (g : Nat → Nat) : Nat → Nat → Nat
  | 0 => r
  | n + 1 => va_up (cpA r a g n) (a + n) (g n)
def bandP (f : Nat → Nat → Nat) (p : Nat) : Nat := if f 7 p < 8 then 0 else if f 7 p < 12 then 1 else 2
def stackN (b left : Nat) : Nat := if left = 0 then b else 3 + b
/-- the band that is taken: -1 without one; n bands are left to look at -/
def bandA (f : Nat → Nat → Nat) (left : Nat) : Nat → Int
  | 0 => -1
  | n + 1 => if f 9 (stackN n left) = 0 then bandA f left n else (n : Int)
def bandS (f : Nat → Nat → Nat) (p : Nat) : Int := bandA f (f 8 p) (bandP f p + 1)
/-- the marks without those of e: how many of the first n stay, and the two rows -/
def dropA (f : Nat → Nat → Nat) (e s : Nat) : Nat → Nat × (Nat → Nat) × (Nat → Nat)
  | 0 => (0, f 16, f 17)
  | n + 1 => if (dropA f e s n).2.2 (3 * s + n) = e then dropA f e s n else ((dropA f e s n).1 + 1, va_up (dropA f e s n).2.1 (3 * s + (dropA f e s n).1) ((dropA f e s n).2.1 (3 * s + n)), va_up (dropA f e s n).2.2 (3 * s + (dropA f e s n).1) ((dropA f e s n).2.2 (3 * s + n)))
def dropF (f : Nat → Nat → Nat) (e s : Nat) : Nat → Nat → Nat := va_up (va_up (va_up f 16 (dropA f e s (f 18 s)).2.1) 17 (dropA f e s (f 18 s)).2.2) 18 (va_up (f 18) s (dropA f e s (f 18 s)).1)
/-- the first n scripts are rid of e's marks: how many grades are others, and the rows -/
def outA (f : Nat → Nat → Nat) (e : Nat) : Nat → Nat × (Nat → Nat → Nat)
  | 0 => (0, f)
  | n + 1 => ((outA f e n).1 + b2 (decide (gradeS (dropF (outA f e n).2 e n) n ≠ gradeS (outA f e n).2 n)), dropF (outA f e n).2 e n)
def shownA (f : Nat → Nat → Nat) : Nat → Nat
  | 0 => 0
  | n + 1 => shownA f n + f 20 n
/-! ### the calls: which exception (0: none), the answer, the counters, the rows -/
abbrev mO : Type := Nat × Int × (Nat → Nat) × (Nat → Nat → Nat)
def inB (x lo hi : Int) : Bool := decide (lo ≤ x ∧ x ≤ hi)
def oStroke (x y : Int) (i : Nat → Nat) (f : Nat → Nat → Nat) : mO :=
  if ¬ ((0 ≤ x ∧ x ≤ 8) ∧ (0 ≤ y ∧ y ≤ 8)) then (1, 0, i, f) else if x = y then (2, 0, i, f) else if i 1 = 8 then (3, 0, i, f)
  else (0, ((i 1 + 1 : Nat) : Int), va_up i 1 (i 1 + 1), va_up f 0 (va_up (f 0) (i 1) (10 * x.toNat + y.toNat)))
def oLift (i : Nat → Nat) (f : Nat → Nat → Nat) : mO := (0, (i 1 : Int), va_up i 1 0, f)
def oLetter (i : Nat → Nat) (f : Nat → Nat → Nat) : mO :=
  if mayS i f = true then (0, (i 2 : Int), va_up (va_up i 1 0) 2 (i 2 + 1), va_up (va_up f 3 (cpA (f 3) (6 * i 2) (f 0) (i 1))) 4 (va_up (f 4) (i 2) (i 1))) else (1, 0, i, f)
def oStrokeOf (x y : Int) (i : Nat → Nat) (f : Nat → Nat → Nat) : mO :=
  if (0 ≤ x ∧ x ≤ (i 2 : Int) - 1) ∧ 0 ≤ y then (0, if y < f 4 x.toNat then (f 3 (6 * x.toNat + y.toNat) : Int) else -1, i, f) else (1, 0, i, f)
def oPupil (x y : Int) (b : Bool) (i : Nat → Nat) (f : Nat → Nat → Nat) : mO :=
  if ¬ (0 ≤ x ∧ x ≤ 3) then (1, 0, i, f) else if ¬ (5 ≤ y ∧ y ≤ 16) then (2, 0, i, f) else if i 5 = 20 then (3, 0, i, f)
  else (0, (i 5 : Int), va_up i 5 (i 5 + 1), va_up (va_up (va_up f 6 (va_up (f 6) (i 5) x.toNat)) 7 (va_up (f 7) (i 5) y.toNat)) 8 (va_up (f 8) (i 5) (b2 b)))
def oPrint (x : Int) (b : Bool) (y : Int) (i : Nat → Nat) (f : Nat → Nat → Nat) : mO :=
  if ¬ (0 ≤ x ∧ x ≤ 2) then (1, 0, i, f) else if ¬ (1 ≤ y ∧ y ≤ 50) then (2, 0, i, f)
  else (0, ((f 9 (stackN x.toNat (b2 b)) + y.toNat : Nat) : Int), i, va_up f 9 (va_up (f 9) (stackN x.toNat (b2 b)) (f 9 (stackN x.toNat (b2 b)) + y.toNat)))
def oSheets (x : Int) (b : Bool) (i : Nat → Nat) (f : Nat → Nat → Nat) : mO :=
  if 0 ≤ x ∧ x ≤ 2 then (0, (f 9 (stackN x.toNat (b2 b)) : Int), i, f) else (1, 0, i, f)
def oWrite (x y : Int) (i : Nat → Nat) (f : Nat → Nat → Nat) : mO :=
  if ¬ ((0 ≤ x ∧ x ≤ (i 5 : Int) - 1) ∧ (0 ≤ y ∧ y ≤ (i 2 : Int) - 1)) then (1, 0, i, f) else if i 10 = 40 ∨ bandS f x.toNat < 0 then (2, 0, i, f)
  else (0, (i 10 : Int), va_up (va_up i 1 0) 10 (i 10 + 1),
    va_up (va_up (va_up (va_up (va_up (va_up f 9 (va_up (f 9) (stackN (bandS f x.toNat).toNat (f 8 x.toNat)) (f 9 (stackN (bandS f x.toNat).toNat (f 8 x.toNat)) - 1))) 11 (cpA (f 11) (8 * i 10) (f 0) (i 1))) 12 (va_up (f 12) (i 10) (i 1))) 13 (va_up (f 13) (i 10) x.toNat)) 14 (va_up (f 14) (i 10) y.toNat)) 15 (va_up (f 15) (i 10) (b2 (decide (bandS f x.toNat < bandP f x.toNat)))))
def oSlips (x y : Int) (i : Nat → Nat) (f : Nat → Nat → Nat) : mO :=
  if ¬ (0 ≤ x ∧ x ≤ (i 10 : Int) - 1) then (1, 0, i, f) else if ¬ (0 ≤ y ∧ y ≤ 5) then (2, 0, i, f) else (0, if 4 < y then allSlips f x.toNat else slipsK f x.toNat y.toNat, i, f)
def oOrder (x : Int) (i : Nat → Nat) (f : Nat → Nat → Nat) : mO := if 0 ≤ x ∧ x ≤ (i 10 : Int) - 1 then (0, slipsK f x.toNat 3, i, f) else (1, 0, i, f)
def oMark (x y z : Int) (i : Nat → Nat) (f : Nat → Nat → Nat) : mO :=
  if ¬ ((0 ≤ x ∧ x ≤ 5) ∧ (0 ≤ y ∧ y ≤ (i 10 : Int) - 1)) then (1, 0, i, f) else if ¬ (0 ≤ z ∧ z ≤ 20) then (2, 0, i, f)
  else if f 19 x.toNat ≠ 0 ∨ has f x.toNat y.toNat = true ∨ lackS f y.toNat = 0 then (3, 0, i, f)
  else (0, ((f 18 y.toNat + 1 : Nat) : Int), i, va_up (va_up (va_up f 16 (va_up (f 16) (3 * y.toNat + f 18 y.toNat) z.toNat)) 17 (va_up (f 17) (3 * y.toNat + f 18 y.toNat) x.toNat)) 18 (va_up (f 18) y.toNat (f 18 y.toNat + 1)))
def oGrade (x : Int) (i : Nat → Nat) (f : Nat → Nat → Nat) : mO := if 0 ≤ x ∧ x ≤ (i 10 : Int) - 1 then (0, gradeS f x.toNat, i, f) else (1, 0, i, f)
def oLacks (x : Int) (i : Nat → Nat) (f : Nat → Nat → Nat) : mO := if 0 ≤ x ∧ x ≤ (i 10 : Int) - 1 then (0, (lackS f x.toNat : Int), i, f) else (1, 0, i, f)
def oTakeOut (x : Int) (i : Nat → Nat) (f : Nat → Nat → Nat) : mO :=
  if ¬ (0 ≤ x ∧ x ≤ 5) then (1, 0, i, f) else if f 19 x.toNat ≠ 0 then (2, 0, i, f)
  else (0, ((outA (va_up f 19 (va_up (f 19) x.toNat 1)) x.toNat (i 10)).1 : Int), i, (outA (va_up f 19 (va_up (f 19) x.toNat 1)) x.toNat (i 10)).2)
def oShow (x : Int) (i : Nat → Nat) (f : Nat → Nat → Nat) : mO :=
  if ¬ (0 ≤ x ∧ x ≤ (i 10 : Int) - 1) then (1, 0, i, f) else if f 20 x.toNat ≠ 0 ∨ gradeS f x.toNat = -1 then (2, 0, i, f)
  else (0, (shownA (va_up f 20 (va_up (f 20) x.toNat 1)) (i 10) : Int), i, va_up f 20 (va_up (f 20) x.toNat 1))
def oVote (x y z : Int) (i : Nat → Nat) (f : Nat → Nat → Nat) : mO :=
  if ¬ ((0 ≤ x ∧ x ≤ 3) ∧ (0 ≤ y ∧ y ≤ (i 10 : Int) - 1)) then (1, 0, i, f) else if ¬ (0 ≤ z ∧ z ≤ 5) then (2, 0, i, f)
  else if f 20 y.toNat = 0 ∨ (f 6 (f 13 y.toNat) : Int) = x then (3, 0, i, f)
  else (0, (pts (va_up f 21 (va_up (f 21) (4 * y.toNat + x.toNat) z.toNat)) y.toNat : Int), i, va_up f 21 (va_up (f 21) (4 * y.toNat + x.toNat) z.toNat))
def oWorth (x : Int) (i : Nat → Nat) (f : Nat → Nat → Nat) : mO := if 0 ≤ x ∧ x ≤ (i 10 : Int) - 1 then (0, worthS f x.toNat, i, f) else (1, 0, i, f)
def oPlace (x : Int) (i : Nat → Nat) (f : Nat → Nat → Nat) : mO := if 0 ≤ x ∧ x ≤ (i 10 : Int) - 1 then (0, placeS f (i 10) x.toNat, i, f) else (1, 0, i, f)
def oAt (x : Int) (i : Nat → Nat) (f : Nat → Nat → Nat) : mO := if 1 ≤ x then (0, atA f (i 10) x (i 10), i, f) else (1, 0, i, f)
