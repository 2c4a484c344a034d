/-! ## the class's own ways to its answers, by numbers -/
theorem ne_cell {M : mM} {a b : Nat} {x y : va_E} (ha : M a = some x) (hb : M b = some y) (h : x ≠ y) : a ≠ b := fun e => by
  subst e
  exact h (Option.some.inj (ha.symm.trans hb))
theorem ne_none {M : mM} {a b : Nat} {x : va_E} (ha : M a = some x) (hb : M b = none) : a ≠ b := fun e => by
  subst e
  rw [ha] at hb
  cases hb
theorem mset_mset (M : mM) (a : Nat) (x y : va_E) : mset (mset M a x) a y = mset M a y := by
  funext q
  unfold mset
  split <;> rfl
theorem mset_comm (M : mM) {a b : Nat} (x y : va_E) (h : a ≠ b) : mset (mset M a x) b y = mset (mset M b y) a x := by
  funext q
  unfold mset
  by_cases e1 : q = a <;> by_cases e2 : q = b <;> simp [e1, e2]
  all_goals (intro z; omega)
theorem mset_id {M : mM} {a : Nat} {x : va_E} (h : M a = some x) : mset M a x = M := by
  funext q
  unfold mset
  split
  · next e => rw [e, h]
  · rfl
def turnedC (c : Nat) : Nat := 10 * (c % 10) + c / 10
def lineC (a c : Nat) : Bool := decide (a = c ∨ a = turnedC c)
/-- the first of n strokes on the line of c -/
def folA (g : Nat → Nat) (c : Nat) : Nat → Int
  | 0 => -1
  | n + 1 => if folA g c n ≠ -1 then folA g c n else if lineC (g n) c = true then (n : Int) else -1
theorem folA_bd (g : Nat → Nat) (c : Nat) : ∀ n : Nat, -1 ≤ folA g c n ∧ folA g c n < (n : Int)
  | 0 => by simp [folA]
  | n + 1 => by
    have h := folA_bd g c n
    unfold folA
    split
    · omega
    · split <;> omega
theorem folA_miss {g : Nat → Nat} {c j : Nat} (h : folA g c j = -1) (hm : ¬ (g j = c ∨ g j = turnedC c)) : folA g c (j + 1) = -1 := by
  show (if folA g c j ≠ -1 then _ else if lineC (g j) c = true then _ else _) = _
  rw [if_neg (by omega), if_neg (by rw [show lineC (g j) c = false from decide_eq_false hm]; decide)]
theorem folA_stay {g : Nat → Nat} {c j : Nat} (h : folA g c j ≠ -1) : ∀ n : Nat, folA g c (j + n) = folA g c j
  | 0 => rfl
  | n + 1 => by
    have e := folA_stay h n
    show (if folA g c (j + n) ≠ -1 then _ else _) = _
    rw [if_pos (by rw [e]; exact h)]
    exact e
theorem folA_hit {g : Nat → Nat} {c j n : Nat} (h : folA g c j = -1) (hm : g j = c ∨ g j = turnedC c) (hj : j < n) : folA g c n = (j : Int) := by
  have e : folA g c (j + 1) = (j : Int) := by
    show (if folA g c j ≠ -1 then _ else if lineC (g j) c = true then _ else _) = _
    rw [if_neg (by omega), if_pos (show lineC (g j) c = true from decide_eq_true hm)]
  have := folA_stay (j := j + 1) (g := g) (c := c) (by rw [e]; omega) (n - (j + 1))
  rw [show j + 1 + (n - (j + 1)) = n by omega] at this
  rw [this, e]
def twA (g : Nat → Nat) (n : Nat) : Nat → Bool
  | 0 => false
  | i + 1 => twA g n i || decide (folA g (g i) n < (i : Int))
theorem twA_up {g : Nat → Nat} {n j : Nat} (h : twA g n j = true) : ∀ k : Nat, twA g n (j + k) = true
  | 0 => h
  | k + 1 => by
    show (twA g n (j + k) || _) = true
    rw [twA_up h k]
    rfl
theorem twA_hit {g : Nat → Nat} {n j : Nat} (h : folA g (g j) n < (j : Int)) (hj : j < n) : twA g n n = true := by
  have e : twA g n (j + 1) = true := by
    show (_ || decide _) = true
    rw [decide_eq_true h, Bool.or_true]
  have := twA_up e (n - (j + 1))
  rw [show j + 1 + (n - (j + 1)) = n by omega] at this
  exact this
theorem twA_miss {g : Nat → Nat} {n j : Nat} (h : twA g n j = false) (h2 : ¬ folA g (g j) n < (j : Int)) : twA g n (j + 1) = false := by
  show (_ || decide _) = false
  rw [h, decide_eq_false h2]
  rfl
/-- marks: examiners x, values v, n of them -/
def lackC (v : Nat → Nat) (n : Nat) : Int := (if 2 ≤ n ∧ ((v 1 : Int) + 3 < v 0 ∨ (v 0 : Int) + 3 < v 1) then 3 else 2) - (n : Int)
def gradeC (v : Nat → Nat) (n : Nat) : Int :=
  if 0 < lackC v n then -1 else if n < 3 then (((min (v 0) (v 1) + max (v 0) (v 1)) / 2 : Nat) : Int) else ((max (min (v 0) (v 1)) (min (max (v 0) (v 1)) (v 2)) : Nat) : Int)
def hasC (x : Nat → Nat) (e : Nat) : Nat → Bool
  | 0 => false
  | n + 1 => hasC x e n || decide (x n = e)
theorem hasC_up {x : Nat → Nat} {e j : Nat} (h : hasC x e j = true) : ∀ k : Nat, hasC x e (j + k) = true
  | 0 => h
  | k + 1 => by
    show (hasC x e (j + k) || _) = true
    rw [hasC_up h k]
    rfl
theorem hasC_hit {x : Nat → Nat} {e j n : Nat} (h : x j = e) (hj : j < n) : hasC x e n = true := by
  have e1 : hasC x e (j + 1) = true := by
    show (_ || decide _) = true
    rw [decide_eq_true h, Bool.or_true]
  have := hasC_up e1 (n - (j + 1))
  rw [show j + 1 + (n - (j + 1)) = n by omega] at this
  exact this
theorem hasC_miss {x : Nat → Nat} {e j : Nat} (h : hasC x e j = false) (h2 : x j ≠ e) : hasC x e (j + 1) = false := by
  show (_ || decide _) = false
  rw [h, decide_eq_false h2]
  rfl
/-- the marks without those of e, behind n of them: how many stay, the rows of examiners and values -/
def remA (x v : Nat → Nat) (e : Nat) : Nat → Nat × (Nat → Nat) × (Nat → Nat)
  | 0 => (0, x, v)
  | n + 1 => if (remA x v e n).2.1 n = e then remA x v e n else ((remA x v e n).1 + 1, va_up (remA x v e n).2.1 (remA x v e n).1 ((remA x v e n).2.1 n), va_up (remA x v e n).2.2 (remA x v e n).1 ((remA x v e n).2.2 n))
theorem remA_le (x v : Nat → Nat) (e : Nat) : ∀ n : Nat, (remA x v e n).1 ≤ n
  | 0 => Nat.le_refl _
  | n + 1 => by
    have h := remA_le x v e n
    show (if _ then _ else _ : Nat × (Nat → Nat) × (Nat → Nat)).1 ≤ n + 1
    split
    · omega
    · show (remA x v e n).1 + 1 ≤ n + 1
      omega
theorem remA_eq {x v : Nat → Nat} {e n : Nat} (h : (remA x v e n).2.1 n = e) : remA x v e (n + 1) = remA x v e n := by
  show (if _ then _ else _) = _
  rw [if_pos h]
theorem remA_ne {x v : Nat → Nat} {e n : Nat} (h : (remA x v e n).2.1 n ≠ e) : remA x v e (n + 1) = ((remA x v e n).1 + 1, va_up (remA x v e n).2.1 (remA x v e n).1 ((remA x v e n).2.1 n), va_up (remA x v e n).2.2 (remA x v e n).1 ((remA x v e n).2.2 n)) := by
  show (if _ then _ else _) = _
  rw [if_neg h]
/-- the press: rows for the left and the right hand -/
def cntC (gl gr : Nat → Nat) (left b : Nat) : Nat := if left = 0 then gr b else gl b
def bndC (gl gr : Nat → Nat) (left : Nat) : Nat → Int
  | 0 => -1
  | n + 1 => if 0 < cntC gl gr left n then (n : Int) else bndC gl gr left n
theorem bndC_go {gl gr : Nat → Nat} {q n : Nat} (h0 : 0 < n) (h : ¬ 0 < cntC gl gr q (n - 1)) : bndC gl gr q n = bndC gl gr q (n - 1) := by
  cases n with
  | zero => exact absurd h0 (Nat.lt_irrefl 0)
  | succ n => exact if_neg h
theorem bndC_stop {gl gr : Nat → Nat} {q n : Nat} (h0 : 0 < n) (h : 0 < cntC gl gr q (n - 1)) : bndC gl gr q n = ((n - 1 : Nat) : Int) := by
  cases n with
  | zero => exact absurd h0 (Nat.lt_irrefl 0)
  | succ n => exact if_pos h
theorem bndC_zero {gl gr : Nat → Nat} {q n : Nat} (h : (n : Int) - 1 < 0) : bndC gl gr q n = -1 := by
  have e : n = 0 := by omega
  subst e
  rfl
/-- the longest rise over the ranks r -/
def lrI (r L : Nat → Nat) (k : Nat) : Nat → Nat
  | 0 => 1
  | n + 1 => if r n < r k then max (lrI r L k n) (L n + 1) else lrI r L k n
def lrG (r : Nat → Nat) : Nat → Nat → Nat
  | 0 => fun _ => 0
  | n + 1 => va_up (lrG r n) n (lrI r (lrG r n) n n)
def lr (r : Nat → Nat) (k : Nat) : Nat := lrG r (k + 1) k
def lrM (r : Nat → Nat) : Nat → Nat
  | 0 => 0
  | n + 1 => max (lrM r n) (lr r n)
theorem lrI_le {r L : Nat → Nat} {k : Nat} : ∀ n : Nat, (∀ j, j < n → L j ≤ j + 1) → lrI r L k n ≤ n + 1
  | 0, _ => Nat.le_refl _
  | n + 1, h => by
    have h1 := lrI_le (r := r) (L := L) (k := k) n (fun j hj => h j (by omega))
    have h2 := h n (by omega)
    unfold lrI
    split <;> omega
theorem lrG_le (r : Nat → Nat) : ∀ n j : Nat, lrG r n j ≤ j + 1
  | 0, j => Nat.zero_le _
  | n + 1, j => by
    have h := lrG_le r n
    unfold lrG va_up
    split
    · next e => subst e; exact lrI_le j (fun j _ => h j)
    · exact h j
theorem lr_le (r : Nat → Nat) (k : Nat) : lr r k ≤ k + 1 := lrG_le r (k + 1) k
theorem lrG_old (r : Nat → Nat) : ∀ n j : Nat, j < n → lrG r n j = lr r j
  | 0, j, h => absurd h (Nat.not_lt_zero j)
  | n + 1, j, h => by
    by_cases e : j = n
    · subst e; rfl
    · rw [← lrG_old r n j (by omega)]
      exact va_up_ne _ _ e
theorem lrI_cong {r L L' : Nat → Nat} {k : Nat} : ∀ n : Nat, (∀ j, j < n → L j = L' j) → lrI r L k n = lrI r L' k n
  | 0, _ => rfl
  | n + 1, h => by
    unfold lrI
    rw [lrI_cong n (fun j hj => h j (by omega)), h n (by omega)]
theorem lr_eq {r L : Nat → Nat} {k : Nat} (h : ∀ j, j < k → L j = lr r j) : lrI r L k k = lr r k := by
  show _ = va_up (lrG r k) k (lrI r (lrG r k) k k) k
  rw [va_up_self]
  exact lrI_cong k (fun j hj => by rw [lrG_old r k j hj, h j hj])
theorem lrM_le (r : Nat → Nat) : ∀ n : Nat, lrM r n ≤ n
  | 0 => Nat.le_refl _
  | n + 1 => by
    have h := lrM_le r n
    have h2 := lr_le r n
    unfold lrM
    omega
/-- without the strokes of the set: the last rank that stays (-1: none), as long as it rises -/
def outB (set i : Nat) : Bool := decide (set / 2 ^ i % 2 = 0)
def ordA (r : Nat → Nat) (set : Nat) : Nat → Option Int
  | 0 => some (-1)
  | n + 1 => match ordA r set n with
    | none => none
    | some z => if outB set n = true then (if (r n : Int) < z then none else some (r n : Int)) else some z
def ordW (r : Nat → Nat) (n set : Nat) : Bool := (ordA r set n).isSome
def popN (n : Nat) : Nat := n % 2 + n / 2 % 2 + n / 4 % 2 + n / 8 % 2 + n / 16 % 2 + n / 32 % 2
def fewA (r : Nat → Nat) (c : Nat) : Nat → Nat
  | 0 => c
  | n + 1 => if ordW r c n = true then min (fewA r c n) (popN n) else fewA r c n
def fewL (r : Nat → Nat) (c : Nat) : Nat := fewA r c (2 ^ c)
theorem fewA_le (r : Nat → Nat) (c : Nat) : ∀ n : Nat, fewA r c n ≤ c
  | 0 => Nat.le_refl _
  | n + 1 => by
    have h := fewA_le r c n
    unfold fewA
    split <;> omega
theorem ordA_none {r : Nat → Nat} {set j : Nat} (h : ordA r set j = none) : ∀ n : Nat, ordA r set (j + n) = none
  | 0 => h
  | n + 1 => by
    show (match ordA r set (j + n) with | none => none | some z => _) = none
    rw [ordA_none h n]
/-- what compare finds behind i of the drawn strokes: how many ranks, the ranks, EXTRA, TURNED -/
def cmpA (gm : Nat → Nat) (nm : Nat) (gd : Nat → Nat) (nd : Nat) (r0 : Nat → Nat) : Nat → Nat × (Nat → Nat) × Nat × Nat
  | 0 => (0, r0, 0, 0)
  | i + 1 => if folA gm (gd i) nm = -1 ∨ folA gd (gd i) nd < (i : Int) then ((cmpA gm nm gd nd r0 i).1, (cmpA gm nm gd nd r0 i).2.1, (cmpA gm nm gd nd r0 i).2.2.1 + 1, (cmpA gm nm gd nd r0 i).2.2.2)
    else (if (cmpA gm nm gd nd r0 i).1 < 6 then (cmpA gm nm gd nd r0 i).1 + 1 else (cmpA gm nm gd nd r0 i).1, if (cmpA gm nm gd nd r0 i).1 < 6 then va_up (cmpA gm nm gd nd r0 i).2.1 (cmpA gm nm gd nd r0 i).1 (folA gm (gd i) nm).toNat else (cmpA gm nm gd nd r0 i).2.1, (cmpA gm nm gd nd r0 i).2.2.1, (cmpA gm nm gd nd r0 i).2.2.2 + b2 (decide (gm (folA gm (gd i) nm).toNat ≠ gd i)))
def sumA (g : Nat → Nat) : Nat → Nat
  | 0 => 0
  | n + 1 => sumA g n + g n
section KM
variable {p : Program} {l : Launch} {e : Env} {R : Room} {s : State} {m : MethodId} {args : Array Value} {below : List Frame} {meth : Method} {c : Code} {H : Heap} {locs : List Loc} {cells slots : Nat} {Q : State → Prop}
variable {cc : ByteArray} {pc : Nat} {ls : Array Slot} {rest : List Value}
theorem n_max (hexec : p.tables.exec = Jvm.exec) (hb : c.code = cc) (hml : c.maxLocals = ls.size) {own : String} {index : Nat} (hown : s.vm.findClass own = some m.cls) (hlink : (Cond.methodLink own index Lib.Math.max.name).before args s = true) (hstat : (Cond.static Lib.Math.max.name).before args s = true) (hini : (Cond.initialized "java/lang/Math").before args s = true) (hcode : (Cond.code Lib.Math.max.name Lib.Math.max.code 2 (some .int)).before args s = true)
    (hframes : 1 ≤ R.frames) (hlocals : (rest.map fun v => v.category).sum + 13 ≤ R.locals) (hc : cells ≤ R.cells) (hs : slots ≤ R.slots) {x y : Nat} (hx : x < 2 ^ 31) (hy : y < 2 ^ 31) (hdg : decode cc pc = .ok (.invokestatic index, 3))
    (kk : W p l e R s m args below meth c H locs cells slots Q (F0 m (pc + 3) ls (.int (nI (max x y)) :: rest))) : W p l e R s m args below meth c H locs cells slots Q (F0 m pc ls (.int (nI y) :: .int (nI x) :: rest)) := by
  refine va_mmax hexec hb hml hown hlink hstat hini hcode hframes hlocals hc hs hdg ?_
  have e1 : (if nI x < nI y then nI y else nI x) = nI (max x y) := by
    by_cases h : x < y
    · rw [if_pos (nI_lt h hy), Nat.max_eq_right (by omega)]
    · rw [if_neg (nI_nlt (by omega) hx), Nat.max_eq_left (by omega)]
  rw [e1]
  exact kk
theorem n_min (hexec : p.tables.exec = Jvm.exec) (hb : c.code = cc) (hml : c.maxLocals = ls.size) {own : String} {index : Nat} (hown : s.vm.findClass own = some m.cls) (hlink : (Cond.methodLink own index Lib.Math.min.name).before args s = true) (hstat : (Cond.static Lib.Math.min.name).before args s = true) (hini : (Cond.initialized "java/lang/Math").before args s = true) (hcode : (Cond.code Lib.Math.min.name Lib.Math.min.code 2 (some .int)).before args s = true)
    (hframes : 1 ≤ R.frames) (hlocals : (rest.map fun v => v.category).sum + 13 ≤ R.locals) (hc : cells ≤ R.cells) (hs : slots ≤ R.slots) {x y : Nat} (hx : x < 2 ^ 31) (hy : y < 2 ^ 31) (hdg : decode cc pc = .ok (.invokestatic index, 3))
    (kk : W p l e R s m args below meth c H locs cells slots Q (F0 m (pc + 3) ls (.int (nI (min x y)) :: rest))) : W p l e R s m args below meth c H locs cells slots Q (F0 m pc ls (.int (nI y) :: .int (nI x) :: rest)) := by
  refine va_mmin hexec hb hml hown hlink hstat hini hcode hframes hlocals hc hs hdg ?_
  have e1 : (if nI y < nI x then nI y else nI x) = nI (min x y) := by
    by_cases h : y < x
    · rw [if_pos (nI_lt h hx), Nat.min_eq_right (by omega)]
    · rw [if_neg (nI_nlt (by omega) hy), Nat.min_eq_left (by omega)]
  rw [e1]
  exact kk
theorem z_abs (hexec : p.tables.exec = Jvm.exec) (hb : c.code = cc) (hml : c.maxLocals = ls.size) {own : String} {index : Nat} (hown : s.vm.findClass own = some m.cls) (hlink : (Cond.methodLink own index Lib.Math.abs.name).before args s = true) (hstat : (Cond.static Lib.Math.abs.name).before args s = true) (hini : (Cond.initialized "java/lang/Math").before args s = true) (hcode : (Cond.code Lib.Math.abs.name Lib.Math.abs.code 1 (some .int)).before args s = true)
    (hframes : 1 ≤ R.frames) (hlocals : (rest.map fun v => v.category).sum + 13 ≤ R.locals) (hc : cells ≤ R.cells) (hs : slots ≤ R.slots) {u : Int} (h1 : -2147483648 < u) (h2 : u < 2147483648) (hdg : decode cc pc = .ok (.invokestatic index, 3))
    (kk : W p l e R s m args below meth c H locs cells slots Q (F0 m (pc + 3) ls (.int (zI (if 0 ≤ u then u else -u)) :: rest))) : W p l e R s m args below meth c H locs cells slots Q (F0 m pc ls (.int (zI u) :: rest)) := by
  refine va_mabs hexec hb hml hown hlink hstat hini hcode hframes hlocals hc hs hdg ?_
  have e1 : (if 0 ≤ zI u then zI u else 0 - zI u) = zI (if 0 ≤ u then u else -u) := by
    have e0 : (0 ≤ zI u) ↔ 0 ≤ u := by rw [Int32.le_iff_toInt_le, zI_toInt (by omega) h2]; rfl
    by_cases h : 0 ≤ u
    · rw [if_pos (e0.mpr h), if_pos h]
    · rw [if_neg (fun z => h (e0.mp z)), if_neg h]
      rw [show (0 : Int32) = zI 0 from rfl, zI_sub]
      congr 1
      omega
  rw [e1]
  exact kk
end KM
theorem hasC_full {x : Nat → Nat} {e j n : Nat} (h : hasC x e j = false) (hj : j = n) : hasC x e n = false := hj ▸ h
theorem outB_t {set i : Nat} (h : set / 2 ^ i % 2 = 0) : outB set i = true := decide_eq_true h
theorem outB_f {set i : Nat} (h : set / 2 ^ i % 2 ≠ 0) : outB set i = false := decide_eq_false h
theorem shr_all : ∀ n, n < 64 → ∀ i, i < 6 → (nI n >>> (nI i &&& 31)) &&& nI 1 = nI (n / 2 ^ i % 2) := by decide +kernel
theorem shr_one : ∀ n, n < 64 → ∀ i, i < 6 → nI n >>> (nI i &&& 31) = nI (n / 2 ^ i) := by decide +kernel
theorem and_one : ∀ n, n < 64 → nI n &&& nI 1 = nI (n % 2) := by decide +kernel
theorem shl_all : ∀ i, i ≤ 6 → nI 1 <<< (nI i &&& 31) = nI (2 ^ i) := by decide +kernel
theorem ordA_out {r : Nat → Nat} {set j : Nat} {z : Int} (h : ordA r set j = some z) (ho : outB set j = false) : ordA r set (j + 1) = some z := by
  show (match ordA r set j with | none => none | some z => _) = _
  rw [h]
  show (if outB set j = true then _ else _) = _
  rw [ho]
  rfl
theorem ordA_in {r : Nat → Nat} {set j : Nat} {z : Int} (h : ordA r set j = some z) (ho : outB set j = true) (hr : z ≤ (r j : Int)) : ordA r set (j + 1) = some (r j : Int) := by
  show (match ordA r set j with | none => none | some z => _) = _
  rw [h]
  show (if outB set j = true then _ else _) = _
  rw [if_pos ho, if_neg (by omega)]
theorem ordA_bad {r : Nat → Nat} {set j n : Nat} {z : Int} (h : ordA r set j = some z) (ho : outB set j = true) (hr : (r j : Int) < z) (hj : j < n) : ordW r n set = false := by
  have e : ordA r set (j + 1) = none := by
    show (match ordA r set j with | none => none | some z => _) = _
    rw [h]
    show (if outB set j = true then _ else _) = _
    rw [if_pos ho, if_pos hr]
  have := ordA_none e (n - (j + 1))
  rw [show j + 1 + (n - (j + 1)) = n by omega] at this
  unfold ordW
  rw [this]
  rfl
theorem ordW_ok {r : Nat → Nat} {set n : Nat} {z : Int} (h : ordA r set n = some z) : ordW r n set = true := by
  unfold ordW
  rw [h]
  rfl
theorem popN_le (n : Nat) : popN n ≤ 6 := by unfold popN; omega
theorem two_pow_le {k : Nat} (h : k ≤ 6) : 2 ^ k ≤ 64 := Nat.pow_le_pow_right (by decide) h
theorem sumA_le {g : Nat → Nat} {b : Nat} (hg : ∀ j, g j ≤ b) : ∀ n : Nat, sumA g n ≤ n * b
  | 0 => by simp [sumA]
  | n + 1 => by
    have h := sumA_le hg n
    have h2 := hg n
    rw [Nat.succ_mul]
    unfold sumA
    omega
theorem cmpA_extra {gm : Nat → Nat} {nm : Nat} {gd : Nat → Nat} {nd : Nat} {r0 : Nat → Nat} {i : Nat} (h : folA gm (gd i) nm = -1 ∨ folA gd (gd i) nd < (i : Int)) : cmpA gm nm gd nd r0 (i + 1) = ((cmpA gm nm gd nd r0 i).1, (cmpA gm nm gd nd r0 i).2.1, (cmpA gm nm gd nd r0 i).2.2.1 + 1, (cmpA gm nm gd nd r0 i).2.2.2) := by
  show (if _ then _ else _) = _
  rw [if_pos h]
theorem cmpA_count {gm : Nat → Nat} {nm : Nat} {gd : Nat → Nat} {nd : Nat} {r0 : Nat → Nat} {i : Nat} (h : ¬ (folA gm (gd i) nm = -1 ∨ folA gd (gd i) nd < (i : Int))) (h6 : (cmpA gm nm gd nd r0 i).1 < 6) : cmpA gm nm gd nd r0 (i + 1) = ((cmpA gm nm gd nd r0 i).1 + 1, va_up (cmpA gm nm gd nd r0 i).2.1 (cmpA gm nm gd nd r0 i).1 (folA gm (gd i) nm).toNat, (cmpA gm nm gd nd r0 i).2.2.1, (cmpA gm nm gd nd r0 i).2.2.2 + b2 (decide (gm (folA gm (gd i) nm).toNat ≠ gd i))) := by
  show (if _ then _ else _) = _
  rw [if_neg h, if_pos h6, if_pos h6]
theorem cmpA_full {gm : Nat → Nat} {nm : Nat} {gd : Nat → Nat} {nd : Nat} {r0 : Nat → Nat} {i : Nat} (h : ¬ (folA gm (gd i) nm = -1 ∨ folA gd (gd i) nd < (i : Int))) (h6 : ¬ (cmpA gm nm gd nd r0 i).1 < 6) : cmpA gm nm gd nd r0 (i + 1) = ((cmpA gm nm gd nd r0 i).1, (cmpA gm nm gd nd r0 i).2.1, (cmpA gm nm gd nd r0 i).2.2.1, (cmpA gm nm gd nd r0 i).2.2.2 + b2 (decide (gm (folA gm (gd i) nm).toNat ≠ gd i))) := by
  show (if _ then _ else _) = _
  rw [if_neg h, if_neg h6, if_neg h6]
theorem cmpA_rows {gm : Nat → Nat} {nm : Nat} {gd : Nat → Nat} {nd : Nat} {r0 : Nat → Nat} (hr : ∀ j, r0 j ≤ 8) (hm : nm ≤ 8) : ∀ i : Nat, (∀ j, (cmpA gm nm gd nd r0 i).2.1 j ≤ 8) ∧ (cmpA gm nm gd nd r0 i).1 ≤ 6 ∧ (cmpA gm nm gd nd r0 i).2.2.1 ≤ i ∧ (cmpA gm nm gd nd r0 i).2.2.2 ≤ i
  | 0 => ⟨hr, Nat.zero_le _, Nat.le_refl _, Nat.le_refl _⟩
  | i + 1 => by
    have h := cmpA_rows (gm := gm) (gd := gd) (nd := nd) hr hm i
    have hf := folA_bd gm (gd i) nm
    by_cases c : folA gm (gd i) nm = -1 ∨ folA gd (gd i) nd < (i : Int)
    · rw [cmpA_extra c]
      exact ⟨h.1, h.2.1, Nat.succ_le_succ h.2.2.1, Nat.le_succ_of_le h.2.2.2⟩
    · have h2 := b2_le (decide (gm (folA gm (gd i) nm).toNat ≠ gd i))
      by_cases c6 : (cmpA gm nm gd nd r0 i).1 < 6
      · rw [cmpA_count c c6]
        exact ⟨up_le h.1 (by omega), Nat.succ_le_of_lt c6, Nat.le_succ_of_le h.2.2.1, Nat.add_le_add h.2.2.2 h2⟩
      · rw [cmpA_full c c6]
        exact ⟨h.1, h.2.1, Nat.le_succ_of_le h.2.2.1, Nat.add_le_add h.2.2.2 h2⟩
/-- worthNow -/
def worthC (v : Nat → Nat) (n shown : Nat) (pt sc : Nat → Nat) : Int := if shown = 0 ∨ gradeC v n = -1 then -9999 else 3 * gradeC v n + 2 * (sumA pt 4 : Int) - (sumA sc 5 : Int)
theorem gradeC_bd {v : Nat → Nat} {n : Nat} (hv : ∀ j, v j ≤ 20) : -1 ≤ gradeC v n ∧ gradeC v n ≤ 20 := by
  have h0 := hv 0
  have h1 := hv 1
  have h2 := hv 2
  unfold gradeC
  repeat' split
  all_goals omega
theorem none_of {M : mM} {a q : Nat} {x : va_E} (h : mset M a x q = none) : M q = none := by
  by_cases e : q = a
  · subst e; rw [mset_self] at h; cases h
  · rw [mset_ne e] at h; exact h
theorem remA_x {x v : Nat → Nat} (hx : ∀ j, x j ≤ 5) (e : Nat) : ∀ n j : Nat, (remA x v e n).2.1 j ≤ 5
  | 0, j => hx j
  | n + 1, j => by
    have h := remA_x (v := v) hx e n
    by_cases c : (remA x v e n).2.1 n = e
    · rw [remA_eq c]; exact h j
    · rw [remA_ne c]
      show va_up _ _ _ j ≤ 5
      unfold va_up
      split
      · exact h n
      · exact h j
theorem fit_bool {v : Nat} (h : v ≤ 1) : fits .boolean (.int (nI v)) = true := by
  rcases (show v = 0 ∨ v = 1 by omega) with rfl | rfl <;> rfl
def cmpS (x y : Nat) : Nat → Nat := va_up (va_up (fun _ => 0) 1 x) 2 y
theorem cmpS_1 (x y x' : Nat) : va_up (cmpS x y) 1 x' = cmpS x' y := by
  unfold cmpS
  rw [va_up_comm _ _ _ (show (2 : Nat) ≠ 1 by decide), bx_uu]
theorem cmpS_2 (x y y' : Nat) : va_up (cmpS x y) 2 y' = cmpS x y' := by
  unfold cmpS
  rw [bx_uu]
theorem cmpS_0 : cmpS 0 0 = fun _ => 0 := by
  funext j
  unfold cmpS va_up
  split
  · rfl
  · split <;> rfl
/-- what compare leaves in slipCounts -/
def slpC (gm : Nat → Nat) (nm : Nat) (gd : Nat → Nat) (nd : Nat) : Nat → Nat :=
  va_up (va_up (cmpS (cmpA gm nm gd nd (fun _ => 0) nd).2.2.1 (cmpA gm nm gd nd (fun _ => 0) nd).2.2.2) 0 (nm - (cmpA gm nm gd nd (fun _ => 0) nd).1)) 3 ((cmpA gm nm gd nd (fun _ => 0) nd).1 - lrM (cmpA gm nm gd nd (fun _ => 0) nd).2.1 (cmpA gm nm gd nd (fun _ => 0) nd).1)

theorem cmpA_go {gm : Nat → Nat} {nm : Nat} {gd : Nat → Nat} {nd : Nat} {r0 : Nat → Nat} {i : Nat} (h : ¬ (folA gm (gd i) nm = -1 ∨ folA gd (gd i) nd < (i : Int))) : cmpA gm nm gd nd r0 (i + 1) = (if (cmpA gm nm gd nd r0 i).1 < 6 then (cmpA gm nm gd nd r0 i).1 + 1 else (cmpA gm nm gd nd r0 i).1, if (cmpA gm nm gd nd r0 i).1 < 6 then va_up (cmpA gm nm gd nd r0 i).2.1 (cmpA gm nm gd nd r0 i).1 (folA gm (gd i) nm).toNat else (cmpA gm nm gd nd r0 i).2.1, (cmpA gm nm gd nd r0 i).2.2.1, (cmpA gm nm gd nd r0 i).2.2.2 + b2 (decide (gm (folA gm (gd i) nm).toNat ≠ gd i))) := by
  show (if _ then _ else _) = _
  rw [if_neg h]
theorem nd_nil (a : Nat) : ∀ b ∈ ([] : List Nat), a ≠ b := fun _ h => nomatch h
theorem nd_cons {a b : Nat} {t : List Nat} (h : a ≠ b) (ht : ∀ c ∈ t, a ≠ c) : ∀ c ∈ b :: t, a ≠ c := fun c hc => by
  rcases List.mem_cons.mp hc with rfl | h2
  · exact h
  · exact ht c h2
