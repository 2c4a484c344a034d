/-! ## what a hall keeps all the way, by numbers -/
theorem NB.mono {n : Nat} {c : Nat → Nat} {x : Nat → Nat → Nat} (h : NB n c x) (hn : n + 1 ≤ 512) : NB (n + 1) c x := by
  refine ⟨hn, h.2.1, h.2.2.1, h.2.2.2.1, h.2.2.2.2.1, fun k j => Nat.le_trans (h.2.2.2.2.2 k j) ?_⟩
  unfold xMax
  split
  · exact Nat.le_refl _
  · split
    · exact Nat.le_refl _
    · split <;> omega
theorem NB.cnt {n : Nat} {c c' : Nat → Nat} {x : Nat → Nat → Nat} (h : NB n c x) (h0 : c' 0 ≤ 8) (h1 : c' 1 ≤ 10) (h2 : c' 2 ≤ 20) (h3 : c' 3 ≤ 40) : NB n c' x := ⟨h.1, h0, h1, h2, h3, h.2.2.2.2.2⟩
theorem cpA_in {r g : Nat → Nat} {a : Nat} : ∀ n j : Nat, j < n → cpA r a g n (a + j) = g j
  | 0, j, h => absurd h (Nat.not_lt_zero j)
  | n + 1, j, h => by
    show va_up (cpA r a g n) (a + n) (g n) (a + j) = g j
    by_cases e : j = n
    · rw [e, va_up_self]
    · rw [va_up_ne _ _ (by omega)]
      exact cpA_in n j (by omega)
theorem slpC_le {gm : Nat → Nat} {nm : Nat} {gd : Nat → Nat} {nd : Nat} (hm : nm ≤ 6) (hd : nd ≤ 8) (k : Nat) : slpC gm nm gd nd k ≤ 8 := by
  obtain ⟨h1, h2, h3, h4⟩ := cmpA_rows (gm := gm) (nm := nm) (gd := gd) (nd := nd) (r0 := fun _ => 0) (fun _ => Nat.zero_le _) (by omega) nd
  unfold slpC cmpS va_up
  split
  · omega
  · split
    · omega
    · split
      · omega
      · split
        · omega
        · exact Nat.zero_le _
theorem slpC_4 (gm : Nat → Nat) (nm : Nat) (gd : Nat → Nat) (nd : Nat) : slpC gm nm gd nd 4 = 0 := by
  unfold slpC cmpS
  simp (disch := omega) only [va_up_ne]
def fW (gm : Nat → Nat) (nm : Nat) (gd : Nat → Nat) (nd : Nat) : Nat → Nat → Nat := fun k j => if k = 4 then nm else if k = 12 then nd else if k = 3 then gm j else if k = 11 then gd j else 0
theorem fW_WR {gm : Nat → Nat} {nm : Nat} {gd : Nat → Nat} {nd : Nat} (h6 : nm ≤ 6) (bg : ∀ j, gm j ≤ 88) (bd : ∀ j, gd j ≤ 88) (hdis : ∀ a b, a < b → b < nm → lineC (gm a) (gm b) = false) : WR (fW gm nm gd nd) 0 gm nm gd nd := by
  refine ⟨rfl, rfl, h6, fun j hj => ?_, fun j hj => ?_, bg, bd, fun a b hab hb => by rw [line_eq (bg a) (bg b)]; exact hdis a b hab hb⟩
  · show gm j = gm (6 * 0 + j)
    rw [Nat.mul_zero, Nat.zero_add]
  · show gd j = gd (8 * 0 + j)
    rw [Nat.mul_zero, Nat.zero_add]
theorem turn_le (f : Nat → Nat → Nat) (s : Nat) : ∀ n : Nat, turnA f s n ≤ countA f s n
  | 0 => Nat.le_refl _
  | n + 1 => by
    have ih := turn_le f s n
    have e1 : turnA f s (n + 1) = turnA f s n + b2 (turnsAt f s n) := rfl
    have e2 : countA f s (n + 1) = countA f s n + b2 (cnts f s n) := rfl
    have h : b2 (turnsAt f s n) ≤ b2 (cnts f s n) := by
      unfold turnsAt
      cases cnts f s n with
      | true => exact b2_le _
      | false => exact Nat.le_refl _
    omega
theorem cmp_facts {gm : Nat → Nat} {nm : Nat} {gd : Nat → Nat} {nd : Nat} (h6 : nm ≤ 6) (bg : ∀ j, gm j ≤ 88) (bd : ∀ j, gd j ≤ 88) (hdis : ∀ a b, a < b → b < nm → lineC (gm a) (gm b) = false) (C : Nat × (Nat → Nat) × Nat × Nat) (hC : cmpA gm nm gd nd (fun _ => 0) nd = C) :
    C.1 ≤ nm ∧ C.2.2.1 + C.1 = nd ∧ C.2.2.2 ≤ C.1 ∧ fewL C.2.1 C.1 = C.1 - lrM C.2.1 C.1 ∧ (0 < C.1 → 1 ≤ lrM C.2.1 C.1) := by
  subst hC
  have W := fW_WR (nd := nd) h6 bg bd hdis
  obtain ⟨h1, h2, h3, h4⟩ := W.cmp nd (Nat.le_refl _)
  refine ⟨W.rk, ?_, ?_, fewL_lr (Nat.le_trans W.rk h6) W.dist, fun h => Nat.le_trans (lr_pos _ 0) (lrM_ge _ _ h)⟩
  · rw [h1]; exact h2
  · rw [h1, h3]; exact turn_le _ _ _
/-- a script -/
def SI (x : Nat → Nat → Nat) (s : Nat) : Prop := (x 13 s = 3 → lackC (x (1001 + 8 * s)) 3 = 0) ∧ (x 11 s = 0 → ∀ j, j < 4 → x (1003 + 8 * s) j = 0) ∧ x (1003 + 8 * s) (x 10 s) = 0 ∧ feV x s = x (1002 + 8 * s) 3 ∧ x (1002 + 8 * s) 4 ≤ 1
theorem SI.same {x y : Nat → Nat → Nat} {s : Nat} (h : SI x s) (h10 : y 10 s = x 10 s) (h11 : y 11 s = x 11 s) (h12 : y 12 s = x 12 s) (h13 : y 13 s = x 13 s) (e1 : y (1001 + 8 * s) = x (1001 + 8 * s)) (e2 : y (1002 + 8 * s) = x (1002 + 8 * s)) (e3 : y (1003 + 8 * s) = x (1003 + 8 * s)) (e4 : y (1004 + 8 * s) = x (1004 + 8 * s)) : SI y s := by
  unfold SI feV at *
  rw [h10, h11, h12, h13, e1, e2, e3, e4]
  exact h
/-- a letter -/
def LT (x : Nat → Nat → Nat) (k : Nat) : Prop := (1 ≤ x 6 k ∧ x 6 k ≤ 6) ∧ (∀ j, j < x 6 k → x (400 + k) j / 10 ≤ 8 ∧ x (400 + k) j % 10 ≤ 8) ∧ ∀ a b, a < b → b < x 6 k → lineC (x (400 + k) a) (x (400 + k) b) = false
theorem LT.same {x y : Nat → Nat → Nat} {k : Nat} (h : LT x k) (h6 : y 6 k = x 6 k) (h4 : y (400 + k) = x (400 + k)) : LT y k := by
  unfold LT at *
  rw [h6, h4]
  exact h
def CI (n : Nat) (c : Nat → Nat) (x : Nat → Nat → Nat) : Prop := NB n c x ∧ (∀ j, j < c 0 → x 2 j / 10 ≤ 8 ∧ x 2 j % 10 ≤ 8) ∧ (∀ k, k < c 1 → LT x k) ∧ ∀ s, s < c 3 → SI x s
section CIP
variable {n : Nat} {c : Nat → Nat} {x : Nat → Nat → Nat}
theorem CI.mono (h : CI n c x) (hn : n + 1 ≤ 512) : CI (n + 1) c x := ⟨h.1.mono hn, h.2⟩
theorem CI.h3m (h : CI n c x) : ∀ s, s < c 3 → x 13 s = 3 → lackC (x (1001 + 8 * s)) 3 = 0 := fun s hs => (h.2.2.2 s hs).1
theorem CI.hrk (h : CI n c x) (k : Nat) : k < c 1 → (cmpA (x (400 + k)) (x 6 k) (x 2) (c 0) (fun _ => 0) (c 0)).1 ≤ x 6 k := fun hk => by
  obtain ⟨l1, l2, l3⟩ := h.2.2.1 k hk
  have hx := h.1.2.2.2.2.2
  have h10 := h.1.2.2.1
  exact (cmp_facts l1.2 (fun j => Nat.le_trans (hx (400 + k) j) (Nat.le_of_eq (xm_400 n k (by omega)))) (fun j => hx 2 j) l3 _ rfl).1
theorem P_lift (h : CI n c x) (hn : n + 1 ≤ 512) : CI (n + 1) (va_up c 0 0) x := by
  obtain ⟨hN, hp, hL, hS⟩ := h
  refine ⟨(hN.mono hn).cnt ?_ ?_ ?_ ?_, fun j hj => ?_, fun k hk => hL k ?_, fun s hs => hS s ?_⟩
  · rw [va_up_self]; exact Nat.zero_le _
  · rw [va_up_ne _ _ (by decide)]; exact hN.2.2.1
  · rw [va_up_ne _ _ (by decide)]; exact hN.2.2.2.1
  · rw [va_up_ne _ _ (by decide)]; exact hN.2.2.2.2.1
  · rw [va_up_self] at hj; exact absurd hj (Nat.not_lt_zero j)
  · rw [va_up_ne _ _ (by decide)] at hk; exact hk
  · rw [va_up_ne _ _ (by decide)] at hs; exact hs
theorem P_stroke (h : CI n c x) (hn : n + 1 ≤ 512) (u w : Int) (hI : (0 ≤ u ∧ u < 9) ∧ (0 ≤ w ∧ w < 9)) (hS8 : c 0 < 8) : CI (n + 1) (va_up c 0 (c 0 + 1)) (va_up x 2 (va_up (x 2) (c 0) (10 * u.toNat + w.toNat))) := by
  obtain ⟨hN, hp, hL, hS⟩ := h
  have hv : 10 * u.toNat + w.toNat ≤ 88 := by omega
  have hv1 : (10 * u.toNat + w.toNat) / 10 ≤ 8 ∧ (10 * u.toNat + w.toNat) % 10 ≤ 8 := by omega
  refine ⟨((hN.mono hn).up 2 (fun j => up_le (g := x 2) (b := 88) (fun j9 => hN.2.2.2.2.2 2 j9) hv j)).cnt ?_ ?_ ?_ ?_, fun j hj => ?_, fun k hk => (hL k ?_).same (by simp (disch := omega) only [va_up_ne]) (by simp (disch := omega) only [va_up_ne]), fun s hs => (hS s ?_).same (by simp (disch := omega) only [va_up_ne]) (by simp (disch := omega) only [va_up_ne]) (by simp (disch := omega) only [va_up_ne]) (by simp (disch := omega) only [va_up_ne]) (by simp (disch := omega) only [va_up_ne]) (by simp (disch := omega) only [va_up_ne]) (by simp (disch := omega) only [va_up_ne]) (by simp (disch := omega) only [va_up_ne])⟩
  · rw [va_up_self]; exact hS8
  · rw [va_up_ne _ _ (by decide)]; exact hN.2.2.1
  · rw [va_up_ne _ _ (by decide)]; exact hN.2.2.2.1
  · rw [va_up_ne _ _ (by decide)]; exact hN.2.2.2.2.1
  · rw [va_up_self] at hj
    rw [va_up_self]
    by_cases e : j = c 0
    · rw [e, va_up_self]; exact hv1
    · rw [va_up_ne _ _ e]; exact hp j (by omega)
  · rw [va_up_ne _ _ (by decide)] at hk; exact hk
  · rw [va_up_ne _ _ (by decide)] at hs; exact hs
theorem twA_no {g : Nat → Nat} {n : Nat} : ∀ m : Nat, twA g n m = false → ∀ i, i < m → ¬ folA g (g i) n < (i : Int)
  | 0, _, i, hi => absurd hi (Nat.not_lt_zero i)
  | m + 1, h, i, hi => by
    have e : twA g n (m + 1) = (twA g n m || decide (folA g (g m) n < (m : Int))) := rfl
    rw [e, Bool.or_eq_false_iff, decide_eq_false_iff_not] at h
    by_cases em : i = m
    · rw [em]; exact h.2
    · exact twA_no m h.1 i (by omega)
theorem twA_dist {g : Nat → Nat} {n : Nat} (h : twA g n n = false) (a b : Nat) (hab : a < b) (hb : b < n) : lineC (g a) (g b) = false := by
  cases hl : lineC (g a) (g b) with
  | false => rfl
  | true =>
    have h1 := twA_no n h b hb
    have h2 : folA g (g b) n ≠ -1 := fun z => by
      have := folA_none n z a (by omega)
      rw [hl] at this
      cases this
    obtain ⟨j, j1, j2, j3, j4⟩ := folA_some n h2
    have : j ≤ a := by
      rcases Nat.lt_or_ge a j with h5 | h5
      · rw [j4 a h5] at hl; cases hl
      · exact h5
    exact absurd (by omega) h1
theorem P_letter (h : CI n c x) (hn : n + 1 ≤ 512) (hS9 : (1 ≤ c 0 ∧ c 0 ≤ 6) ∧ twA (x 2) (c 0) (c 0) = false ∧ c 1 < 10) : CI (n + 1) (va_up (va_up c 1 (c 1 + 1)) 0 0) (va_up (va_up x 6 (va_up (x 6) (c 1) (c 0))) (400 + c 1) (cpA (fun _ => 0) 0 (x 2) (c 0))) := by
  obtain ⟨hN, hp, hL, hS⟩ := h
  have e : ∀ j, j < c 0 → cpA (fun _ => 0) 0 (x 2) (c 0) j = x 2 j := fun j hj => by
    have := cpA_in (r := fun _ => 0) (g := x 2) (a := 0) (c 0) j hj
    rwa [Nat.zero_add] at this
  refine ⟨(((hN.mono hn).up 6 (fun j => up_le (g := x 6) (b := 6) (fun j9 => hN.2.2.2.2.2 6 j9) hS9.1.2 j)).up (400 + c 1) (fun j => by rw [xm_400 _ _ (by omega)]; exact cpA_le (b := 88) (fun _ => Nat.zero_le _) (fun j9 => hN.2.2.2.2.2 2 j9) (c 0) j)).cnt ?_ ?_ ?_ ?_, fun j hj => ?_, fun k hk => ?_, fun s hs => (hS s ?_).same (by simp (disch := omega) only [va_up_ne]) (by simp (disch := omega) only [va_up_ne]) (by simp (disch := omega) only [va_up_ne]) (by simp (disch := omega) only [va_up_ne]) (by simp (disch := omega) only [va_up_ne]) (by simp (disch := omega) only [va_up_ne]) (by simp (disch := omega) only [va_up_ne]) (by simp (disch := omega) only [va_up_ne])⟩
  · rw [va_up_self]; exact Nat.zero_le _
  · rw [va_up_ne _ _ (by decide), va_up_self]; exact hS9.2.2
  · rw [va_up_ne _ _ (by decide), va_up_ne _ _ (by decide)]; exact hN.2.2.2.1
  · rw [va_up_ne _ _ (by decide), va_up_ne _ _ (by decide)]; exact hN.2.2.2.2.1
  · rw [va_up_self] at hj; exact absurd hj (Nat.not_lt_zero j)
  · rw [va_up_ne _ _ (by decide), va_up_self] at hk
    by_cases ek : k = c 1
    · subst ek
      unfold LT
      rw [va_up_self, va_up_ne _ _ (show (6 : Nat) ≠ 400 + c 1 by omega), va_up_self, va_up_self]
      refine ⟨hS9.1, fun j hj => by rw [e j hj]; exact hp j hj, fun a b hab hb => ?_⟩
      rw [e a (by omega), e b hb]
      exact twA_dist hS9.2.1 a b hab hb
    · refine (hL k (by omega)).same ?_ ?_
      · rw [va_up_ne _ _ (show (6 : Nat) ≠ 400 + c 1 by omega), va_up_self, va_up_ne _ _ ek]
      · rw [va_up_ne _ _ (show 400 + k ≠ 400 + c 1 by omega), va_up_ne _ _ (show 400 + k ≠ 6 by omega)]
  · rw [va_up_ne _ _ (by decide), va_up_ne _ _ (by decide)] at hs; exact hs
theorem P_pupil (h : CI n c x) (hn : n + 1 ≤ 512) (u : Int) (b l : Nat) (hI : 0 ≤ u ∧ u < 4) (hb : b ≤ 2) (hl : l ≤ 1) (hS9 : c 2 < 20) : CI (n + 1) (va_up c 2 (c 2 + 1)) (va_up (va_up (va_up x 7 (va_up (x 7) (c 2) u.toNat)) 8 (va_up (x 8) (c 2) b)) 9 (va_up (x 9) (c 2) l)) := by
  obtain ⟨hN, hp, hL, hS⟩ := h
  have hx := hN.2.2.2.2.2
  refine ⟨((((hN.mono hn).up 7 (fun j => up_le (g := x 7) (b := 3) (fun j9 => hx 7 j9) (by omega) j)).up 8 (fun j => up_le (g := x 8) (b := 2) (fun j9 => hx 8 j9) hb j)).up 9 (fun j => up_le (g := x 9) (b := 1) (fun j9 => hx 9 j9) hl j)).cnt ?_ ?_ ?_ ?_, fun j hj => ?_, fun k hk => (hL k ?_).same (by simp (disch := omega) only [va_up_ne]) (by simp (disch := omega) only [va_up_ne]), fun s hs => (hS s ?_).same (by simp (disch := omega) only [va_up_ne]) (by simp (disch := omega) only [va_up_ne]) (by simp (disch := omega) only [va_up_ne]) (by simp (disch := omega) only [va_up_ne]) (by simp (disch := omega) only [va_up_ne]) (by simp (disch := omega) only [va_up_ne]) (by simp (disch := omega) only [va_up_ne]) (by simp (disch := omega) only [va_up_ne])⟩
  · rw [va_up_ne _ _ (by decide)]; exact hN.2.1
  · rw [va_up_ne _ _ (by decide)]; exact hN.2.2.1
  · rw [va_up_self]; exact hS9
  · rw [va_up_ne _ _ (by decide)]; exact hN.2.2.2.2.1
  · rw [va_up_ne _ _ (by decide)] at hj
    simp (disch := omega) only [va_up_ne]
    exact hp j hj
  · rw [va_up_ne _ _ (by decide)] at hk; exact hk
  · rw [va_up_ne _ _ (by decide)] at hs; exact hs
theorem P_row (h : CI n c x) (hn : n + 1 ≤ 512) (k : Nat) (hk : k = 3 ∨ k = 4 ∨ k = 5) (g : Nat → Nat) (hg : ∀ j, g j ≤ xMax (n + 1) k) : CI (n + 1) c (va_up x k g) := by
  obtain ⟨hN, hp, hL, hS⟩ := h
  refine ⟨(hN.mono hn).up k hg, fun j hj => ?_, fun q hq => (hL q hq).same (by simp (disch := omega) only [va_up_ne]) (by simp (disch := omega) only [va_up_ne]), fun s hs => (hS s hs).same (by simp (disch := omega) only [va_up_ne]) (by simp (disch := omega) only [va_up_ne]) (by simp (disch := omega) only [va_up_ne]) (by simp (disch := omega) only [va_up_ne]) (by simp (disch := omega) only [va_up_ne]) (by simp (disch := omega) only [va_up_ne]) (by simp (disch := omega) only [va_up_ne]) (by simp (disch := omega) only [va_up_ne])⟩
  rw [va_up_ne _ _ (by omega)]
  exact hp j hj
theorem P_print (h : CI n c x) (hn : n + 1 ≤ 512) (u w : Int) (b : Nat) (hA : 1 ≤ w ∧ w ≤ 50) : CI (n + 1) c (if b = 0 then va_up x 4 (va_up (x 4) u.toNat (x 4 u.toNat + w.toNat)) else va_up x 3 (va_up (x 3) u.toNat (x 3 u.toNat + w.toNat))) := by
  have hx := h.1.2.2.2.2.2
  have h3 : ∀ j, x 3 j ≤ 50 * n := fun j => hx 3 j
  have h4 : ∀ j, x 4 j ≤ 50 * n := fun j => hx 4 j
  split
  · exact P_row h hn 4 (by omega) _ (fun j => up_le (g := x 4) (b := 50 * (n + 1)) (fun j9 => by have := h4 j9; omega) (by have := h4 u.toNat; omega) j)
  · exact P_row h hn 3 (by omega) _ (fun j => up_le (g := x 3) (b := 50 * (n + 1)) (fun j9 => by have := h3 j9; omega) (by have := h3 u.toNat; omega) j)
theorem up2_1 (c : Nat → Nat) (v : Nat) : va_up (va_up c 3 v) 0 0 3 = v := by rw [va_up_ne _ _ (by decide), va_up_self]
theorem P_write (h : CI n c x) (hn : n + 1 ≤ 512) (u w b : Nat) (hw : w < c 1) (h40 : c 3 < 40) (C : Nat × (Nat → Nat) × Nat × Nat) (hC : cmpA (x (400 + w)) (x 6 w) (x 2) (c 0) (fun _ => 0) (c 0) = C) (SL : Nat → Nat) (hSL : slpC (x (400 + w)) (x 6 w) (x 2) (c 0) = SL) :
    CI (n + 1) (va_up (va_up c 3 (c 3 + 1)) 0 0) (scX (prX x (x 9 u) b) (c 3) (x 7 u) 0 C.1 0 (fun _ => 0) (fun _ => 0) (wrS b (x 8 u) SL) (fun _ => 0) C.2.1) := by
  obtain ⟨hN, hp, hL, hS⟩ := h
  have hx := hN.2.2.2.2.2
  obtain ⟨l1, l2, l3⟩ := hL w hw
  have h10 := hN.2.2.1
  have h8 := hN.2.1
  obtain ⟨f1, f2, f3, f4, f5⟩ := cmp_facts l1.2 (fun j => Nat.le_trans (hx (400 + w) j) (Nat.le_of_eq (xm_400 n w (by omega)))) (fun j => hx 2 j) l3 C hC
  have hSL8 : ∀ k, SL k ≤ 8 := fun k => by rw [← hSL]; exact slpC_le (by omega) h8 k
  have hSL4 : SL 4 = 0 := by rw [← hSL]; exact slpC_4 _ _ _ _
  have hSL3 : SL 3 = C.1 - lrM C.2.1 C.1 := by rw [← hSL]; unfold slpC; rw [va_up_self, hC]
  obtain ⟨r1, r2, r3, r4⟩ := cmpA_rows (gm := x (400 + w)) (nm := x 6 w) (gd := x 2) (nd := c 0) (r0 := fun _ => 0) (fun _ => Nat.zero_le _) (by omega) (c 0)
  rw [hC] at r1 r2
  have hW8 : ∀ k, wrS b (x 8 u) SL k ≤ 8 := fun k => by
    unfold wrS
    split
    · exact hSL8 k
    · exact up_le (g := SL) (b := 8) hSL8 (by omega) k
  have hpr : NB (n + 1) c (prX x (x 9 u) b) := NB_prX (hN.mono hn) _ _
  have hq10 : ∀ j, prX x (x 9 u) b 10 j ≤ 3 := fun j => by rw [prX_ne (by decide) (by decide)]; exact hx 10 j
  have hq11 : ∀ j, prX x (x 9 u) b 11 j ≤ 1 := fun j => by rw [prX_ne (by decide) (by decide)]; exact hx 11 j
  have hq12 : ∀ j, prX x (x 9 u) b 12 j ≤ 6 := fun j => by rw [prX_ne (by decide) (by decide)]; exact hx 12 j
  have hq13 : ∀ j, prX x (x 9 u) b 13 j ≤ 3 := fun j => by rw [prX_ne (by decide) (by decide)]; exact hx 13 j
  refine ⟨((((((((((hpr.up 10 (fun j => up_le (b := 3) hq10 (hx 7 u) j)).up 11 (fun j => up_le (b := 1) hq11 (Nat.zero_le _) j)).up 12 (fun j => up_le (b := 6) hq12 r2 j)).up 13 (fun j => up_le (b := 3) hq13 (Nat.zero_le _) j)).up (1000 + 8 * c 3) (fun j => Nat.zero_le _)).up (1001 + 8 * c 3) (fun j => Nat.zero_le _)).up (1002 + 8 * c 3) (fun j => by rw [xm_2]; exact hW8 j)).up (1003 + 8 * c 3) (fun j => Nat.zero_le _)).up (1004 + 8 * c 3) (fun j => by rw [xm_4]; exact r1 j))).cnt ?_ ?_ ?_ ?_, fun j hj => ?_, fun k hk => ?_, fun s hs => ?_⟩
  · rw [va_up_self]; exact Nat.zero_le _
  · rw [va_up_ne _ _ (by decide), va_up_ne _ _ (by decide)]; exact hN.2.2.1
  · rw [va_up_ne _ _ (by decide), va_up_ne _ _ (by decide)]; exact hN.2.2.2.1
  · rw [up2_1]; exact h40
  · rw [va_up_self] at hj; exact absurd hj (Nat.not_lt_zero j)
  · rw [va_up_ne _ _ (by decide), va_up_ne _ _ (by decide)] at hk
    refine (hL k hk).same ?_ ?_
    · simp (disch := omega) only [va_up_ne, prX_ne]
    · simp (disch := omega) only [va_up_ne, prX_ne]
  · rw [up2_1] at hs
    by_cases es : s = c 3
    · subst es
      unfold SI feV
      simp (disch := omega) only [va_up_self, va_up_ne]
      refine ⟨fun z => absurd z (by decide), fun _ j _ => trivial, trivial, ?_, ?_⟩
      · rw [f4, ← hSL3]
        unfold wrS
        split
        · rfl
        · exact (va_up_ne _ _ (by decide)).symm
      · unfold wrS
        split
        · omega
        · rw [va_up_self]; exact Nat.le_refl _
    · refine (hS s (by omega)).same ?_ ?_ ?_ ?_ ?_ ?_ ?_ ?_
      all_goals simp (disch := omega) only [va_up_ne, va_up_self, prX_ne]
theorem lack_3 {v v' : Nat → Nat} (h0 : v' 0 = v 0) (h1 : v' 1 = v 1) (h : lackC v 2 ≠ 0) : lackC v' 3 = 0 := by
  unfold lackC at *
  rw [h0, h1]
  by_cases h2 : (v 1 : Int) + 3 < v 0 ∨ (v 0 : Int) + 3 < v 1
  · rw [if_pos ⟨by decide, h2⟩]; rfl
  · rw [if_neg (fun z => h2 z.2)] at h
    exact absurd rfl h
theorem P_mark (h : CI n c x) (hn : n + 1 ≤ 512) (e s v : Nat) (he : e ≤ 5) (hs9 : s < c 3) (hv : v ≤ 20) (hl : lackC (x (1001 + 8 * s)) (x 13 s) ≠ 0) : CI (n + 1) c (va_up (va_up (va_up x (1000 + 8 * s) (va_up (x (1000 + 8 * s)) (x 13 s) e)) (1001 + 8 * s) (va_up (x (1001 + 8 * s)) (x 13 s) v)) 13 (va_up (x 13) s (x 13 s + 1))) := by
  obtain ⟨hN, hp, hL, hS⟩ := h
  have hx := hN.2.2.2.2.2
  have h40 := hN.2.2.2.2.1
  have h13 : x 13 s ≤ 3 := hx 13 s
  have h3 : x 13 s ≠ 3 := fun z => hl (by rw [z]; exact (hS s hs9).1 z)
  refine ⟨(((hN.mono hn).up _ (fun j => ?_)).up _ (fun j => ?_)).up 13 (fun j => up_le (g := x 13) (b := 3) (fun j9 => hx 13 j9) (by omega) j), fun j hj => ?_, fun k hk => (hL k hk).same ?_ ?_, fun q hq => ?_⟩
  · rw [xm_0]; exact up_le (fun j9 => Nat.le_trans (hx (1000 + 8 * s) j9) (Nat.le_of_eq (xm_0 n s))) he j
  · rw [xm_1]; exact up_le (fun j9 => Nat.le_trans (hx (1001 + 8 * s) j9) (Nat.le_of_eq (xm_1 n s))) hv j
  · simp (disch := omega) only [va_up_ne]; exact hp j hj
  · simp (disch := omega) only [va_up_ne]
  · have := hN.2.2.1
    simp (disch := omega) only [va_up_ne]
  · by_cases eq : q = s
    · subst eq
      obtain ⟨s1, s2, s3, s4, s5⟩ := hS q hq
      unfold SI feV at *
      simp (disch := omega) only [va_up_self, va_up_ne]
      refine ⟨fun z => ?_, s2, s3, s4, s5⟩
      have e2 : x 13 q = 2 := by omega
      rw [e2] at hl ⊢
      exact lack_3 (va_up_ne _ _ (by decide)) (va_up_ne _ _ (by decide)) hl
    · refine (hS q hq).same ?_ ?_ ?_ ?_ ?_ ?_ ?_ ?_
      all_goals simp (disch := omega) only [va_up_ne, va_up_self]
theorem P_show (h : CI n c x) (hn : n + 1 ≤ 512) (s : Nat) : CI (n + 1) c (va_up x 11 (va_up (x 11) s 1)) := by
  obtain ⟨hN, hp, hL, hS⟩ := h
  have hx := hN.2.2.2.2.2
  refine ⟨(hN.mono hn).up 11 (fun j => up_le (g := x 11) (b := 1) (fun j9 => hx 11 j9) (Nat.le_refl _) j), fun j hj => ?_, fun k hk => (hL k hk).same (by simp (disch := omega) only [va_up_ne]) (by simp (disch := omega) only [va_up_ne]), fun q hq => ?_⟩
  · simp (disch := omega) only [va_up_ne]; exact hp j hj
  · by_cases eq : q = s
    · subst eq
      obtain ⟨s1, s2, s3, s4, s5⟩ := hS q hq
      unfold SI feV at *
      simp (disch := omega) only [va_up_self, va_up_ne]
      exact ⟨s1, fun z => absurd z (by decide), s3, s4, s5⟩
    · refine (hS q hq).same ?_ ?_ ?_ ?_ ?_ ?_ ?_ ?_
      all_goals simp (disch := omega) only [va_up_ne, va_up_self]
theorem P_vote (h : CI n c x) (hn : n + 1 ≤ 512) (g s v : Nat) (hv : v ≤ 5) (hs : s < c 3) (h11 : x 11 s ≠ 0) (hg : x 10 s ≠ g) : CI (n + 1) c (va_up x (1003 + 8 * s) (va_up (x (1003 + 8 * s)) g v)) := by
  obtain ⟨hN, hp, hL, hS⟩ := h
  have hx := hN.2.2.2.2.2
  have h10 := hN.2.2.1
  refine ⟨(hN.mono hn).up _ (fun j => ?_), fun j hj => ?_, fun k hk => (hL k hk).same (by simp (disch := omega) only [va_up_ne]) (by simp (disch := omega) only [va_up_ne]), fun q hq => ?_⟩
  · rw [xm_3]; exact up_le (fun j9 => Nat.le_trans (hx (1003 + 8 * s) j9) (Nat.le_of_eq (xm_3 n s))) hv j
  · simp (disch := omega) only [va_up_ne]; exact hp j hj
  · by_cases eq : q = s
    · subst eq
      obtain ⟨s1, s2, s3, s4, s5⟩ := hS q hq
      unfold SI feV at *
      simp (disch := omega) only [va_up_self, va_up_ne]
      exact ⟨s1, fun z => absurd z h11, s3, s4, s5⟩
    · refine (hS q hq).same ?_ ?_ ?_ ?_ ?_ ?_ ?_ ?_
      all_goals simp (disch := omega) only [va_up_ne, va_up_self]
theorem remA_all {r v : Nat → Nat} {e : Nat} : ∀ m : Nat, (remA r v e m).1 = m → remA r v e m = (m, r, v)
  | 0, _ => rfl
  | m + 1, h => by
    have hle := remA_le r v e m
    by_cases hc : (remA r v e m).2.1 m = e
    · rw [remA_eq hc] at h
      omega
    · rw [remA_ne hc] at h
      have h : (remA r v e m).1 + 1 = m + 1 := h
      have ih := remA_all (r := r) (v := v) (e := e) m (by omega)
      rw [remA_ne hc, ih]
      show (m + 1, va_up r m (r m), va_up v m (v m)) = (m + 1, r, v)
      rw [va_up_id, va_up_id]
theorem tkX_SI {y : Nat → Nat → Nat} (h13 : ∀ j, y 13 j ≤ 3) (e k : Nat) {q : Nat} (h : SI y q) : SI (tkX y e k) q := by
  unfold tkX
  by_cases eq : q = k
  · subst eq
    obtain ⟨s1, s2, s3, s4, s5⟩ := h
    unfold SI feV at *
    simp (disch := omega) only [va_up_self, va_up_ne]
    refine ⟨fun z => ?_, s2, s3, s4, s5⟩
    have hle := remA_le (y (1000 + 8 * q)) (y (1001 + 8 * q)) e (y 13 q)
    have h3 := h13 q
    have z : (remA (y (1000 + 8 * q)) (y (1001 + 8 * q)) e (y 13 q)).1 = 3 := z
    have e3 : y 13 q = 3 := by omega
    have h9 := remA_all (y 13 q) (z.trans e3.symm)
    show lackC (tkM y e q).2.2 3 = 0
    unfold tkM
    rw [h9]
    exact s1 e3
  · refine h.same ?_ ?_ ?_ ?_ ?_ ?_ ?_ ?_
    all_goals simp (disch := omega) only [va_up_ne, va_up_self]
theorem tkA_CI (h : CI n c x) (e : Nat) : ∀ k : Nat, CI n c (tkA x e k).2
  | 0 => h
  | k + 1 => by
    obtain ⟨hN, hp, hL, hS⟩ := tkA_CI h e k
    have h10 := hN.2.2.1
    refine ⟨hN.tkX e k, fun j hj => ?_, fun q hq => (hL q hq).same ?_ ?_, fun q hq => tkX_SI (fun j => hN.2.2.2.2.2 13 j) e k (hS q hq)⟩
    · show tkX (tkA x e k).2 e k 2 j / 10 ≤ 8 ∧ tkX (tkA x e k).2 e k 2 j % 10 ≤ 8
      unfold tkX
      simp (disch := omega) only [va_up_ne]
      exact hp j hj
    · show tkX (tkA x e k).2 e k 6 q = _
      unfold tkX
      simp (disch := omega) only [va_up_ne]
    · show tkX (tkA x e k).2 e k (400 + q) = _
      unfold tkX
      simp (disch := omega) only [va_up_ne]
theorem P_takeOut (h : CI n c x) (hn : n + 1 ≤ 512) (e : Nat) : CI (n + 1) c (tkA (va_up x 5 (va_up (x 5) e 1)) e (c 3)).2 :=
  tkA_CI (P_row h hn 5 (by omega) _ (fun j => up_le (g := x 5) (b := 1) (fun j9 => h.1.2.2.2.2.2 5 j9) (Nat.le_refl _) j)) e (c 3)
end CIP
