/-! ## what the law asks, by numbers -/
/-- the law's row: letters, pupils, scripts, strokes on the pen; the pupils' classes; the scripts' pupils -/
def DI (c : Nat → Nat) (x : Nat → Nat → Nat) (g : Nat → Nat) : Prop := (g 0 = c 1 ∧ g 1 = c 2 ∧ g 2 = c 3 ∧ g 3 = c 0) ∧ (∀ p, p < c 2 → g (4 + p) = x 7 p) ∧ ∀ s, s < c 3 → g (24 + s) < c 2 ∧ x 7 (g (24 + s)) = x 10 s
theorem DI.of {c c' : Nat → Nat} {x x' : Nat → Nat → Nat} {g g' : Nat → Nat} (h : DI c x g) (h0 : g' 0 = c' 1 ∧ g' 1 = c' 2 ∧ g' 2 = c' 3 ∧ g' 3 = c' 0) (hg : ∀ j, 4 ≤ j → g' j = g j) (h2 : c' 2 = c 2) (h3 : c' 3 = c 3) (h7 : x' 7 = x 7) (h10 : x' 10 = x 10) : DI c' x' g' := by
  refine ⟨h0, fun p hp => ?_, fun s hs => ?_⟩
  · rw [hg _ (by omega), h7]; exact h.2.1 p (by omega)
  · rw [hg _ (by omega), h7, h10, h2]; exact h.2.2 s (by omega)
theorem so_dig {x : Nat → Nat → Nat} {k : Nat} (h : LT x k) (i : Nat) : soV x k i = -1 ∨ ∃ v : Nat, soV x k i = (v : Int) ∧ v / 10 ≤ 8 ∧ v % 10 ≤ 8 := by
  unfold soV
  by_cases hi : i < x 6 k
  · exact Or.inr ⟨x (400 + k) i, if_pos hi, h.2.1 i hi⟩
  · exact Or.inl (if_neg hi)
theorem so_new (x : Nat → Nat → Nat) (k m : Nat) (g : Nat → Nat) (i : Nat) : soV (va_up (va_up x 6 (va_up (x 6) k m)) (400 + k) g) k i = if i < m then (g i : Int) else -1 := by
  unfold soV
  rw [va_up_ne _ _ (show (6 : Nat) ≠ 400 + k by omega), va_up_self, va_up_self, va_up_self]
theorem so_bd {n : Nat} {c : Nat → Nat} {x : Nat → Nat → Nat} (h : CI n c x) (k i : Nat) (hk : k < c 1) : -1 ≤ soV x k i ∧ soV x k i ≤ 88 := by
  unfold soV
  have h1 := h.1.2.2.1
  have h2 := h.1.2.2.2.2.2 (400 + k) i
  rw [xm_400 n k (by omega)] at h2
  split <;> omega
theorem so_end {x : Nat → Nat → Nat} {k i : Nat} : soV x k i ≠ -1 ↔ i < x 6 k := by
  unfold soV
  constructor
  · intro h
    by_cases hi : i < x 6 k
    · exact hi
    · exact absurd (if_neg hi) h
  · intro hi
    rw [if_pos hi]
    omega
section PCB
variable {n : Nat} {c : Nat → Nat} {x : Nat → Nat → Nat}
theorem CI.v20 (h : CI n c x) (s j : Nat) : x (1001 + 8 * s) j ≤ 20 := Nat.le_trans (h.1.2.2.2.2.2 _ j) (Nat.le_of_eq (xm_1 n s))
theorem CI.p5 (h : CI n c x) (s j : Nat) : x (1003 + 8 * s) j ≤ 5 := Nat.le_trans (h.1.2.2.2.2.2 _ j) (Nat.le_of_eq (xm_3 n s))
theorem CI.s8 (h : CI n c x) (s j : Nat) : x (1002 + 8 * s) j ≤ 8 := Nat.le_trans (h.1.2.2.2.2.2 _ j) (Nat.le_of_eq (xm_2 n s))
theorem CI.m3 (h : CI n c x) (s : Nat) : x 13 s ≤ 3 := h.1.2.2.2.2.2 13 s
theorem gr_bd (h : CI n c x) (s : Nat) : -1 ≤ grV x s ∧ grV x s ≤ 20 := gradeC_bd (h.v20 s)
theorem la_bd (h : CI n c x) (s : Nat) (hs : s < c 3) : 0 ≤ laV x s ∧ laV x s ≤ 3 := by
  have h3 := (h.2.2.2 s hs).1
  have h4 := h.m3 s
  unfold laV
  by_cases e : x 13 s = 3
  · rw [e, h3 e]; omega
  · unfold lackC
    split <;> omega
theorem gr_la (x : Nat → Nat → Nat) (s : Nat) : grV x s = -1 ↔ 0 < laV x s := by
  unfold grV laV gradeC
  by_cases h : 0 < lackC (x (1001 + 8 * s)) (x 13 s)
  · rw [if_pos h]; exact ⟨fun _ => h, fun _ => rfl⟩
  · rw [if_neg h]
    constructor
    · intro z
      split at z <;> omega
    · intro z
      exact absurd z h
theorem w_bd (h : CI n c x) (s : Nat) : -9999 ≤ wC x s ∧ wC x s ≤ 200 := wC_bd (h.v20 s) (h.p5 s) (h.s8 s)
theorem pl_bd (h : CI n c x) (s : Nat) : -1 ≤ plV c x s ∧ plV c x s ≤ 41 := plC_bd x _ s h.1.2.2.2.2.1
theorem sl_bd (h : CI n c x) (s k : Nat) : slV x s k ≤ 40 := by
  have h1 := sumA_le (h.s8 s) 5
  have h2 := h.s8 s k
  unfold slV
  split <;> omega
theorem sh_bd (h : CI n c x) (k b : Nat) : shV x k b ≤ 50 * n := by
  have h3 : x 3 k ≤ 50 * n := h.1.2.2.2.2.2 3 k
  have h4 : x 4 k ≤ 50 * n := h.1.2.2.2.2.2 4 k
  unfold shV cntC
  split <;> omega
theorem fe_bd (h : CI n c x) (s : Nat) (hs : s < c 3) : feV x s ≤ 8 := by
  rw [(h.2.2.2 s hs).2.2.2.1]
  exact h.s8 s 3
theorem at_bd (h : CI n c x) (p : Nat) : -1 ≤ atV c x p ∧ atV c x p < (c 3 : Int) := by
  have hk : ∀ k : Nat, -1 ≤ atC x (c 3) (p : Int) k ∧ atC x (c 3) (p : Int) k < (k : Int) := by
    intro k
    induction k with
    | zero => exact ⟨Int.le_refl _, by show (-1 : Int) < ((0 : Nat) : Int); omega⟩
    | succ k ih =>
      have e : atC x (c 3) (p : Int) (k + 1) = if atC x (c 3) (p : Int) k ≠ -1 then atC x (c 3) (p : Int) k else if plC x (c 3) (wC x k) k = (p : Int) then (k : Int) else -1 := rfl
      rw [e]
      split
      · omega
      · split <;> omega
  exact hk (c 3)
/-! the sheets that are left -/
def shS (x : Nat → Nat → Nat) : Nat → Nat
  | 0 => 0
  | k + 1 => shS x k + shV x (k % 3) (b2 (decide (2 < k)))
theorem shS_6 (x : Nat → Nat → Nat) : shS x 6 = x 4 0 + x 4 1 + x 4 2 + x 3 0 + x 3 1 + x 3 2 := by
  show 0 + x 4 0 + x 4 1 + x 4 2 + x 3 0 + x 3 1 + x 3 2 = _
  omega
theorem shS_bd (h : CI n c x) : ∀ k : Nat, shS x k ≤ k * (50 * n)
  | 0 => Nat.zero_le _
  | k + 1 => by
    have h1 := shS_bd h k
    have h2 := sh_bd h (k % 3) (b2 (decide (2 < k)))
    rw [Nat.succ_mul]
    unfold shS
    omega
theorem shS_cong {x y : Nat → Nat → Nat} (h3 : y 3 = x 3) (h4 : y 4 = x 4) (k : Nat) : shS y 6 = shS x 6 := by rw [shS_6, shS_6, h3, h4]
theorem shS_took (left b : Nat) (hb : b < 3) (hpos : 0 < cntC (x 3) (x 4) left b) : shS (prX x left b) 6 + 1 = shS x 6 := by
  rw [shS_6, shS_6]
  unfold prX
  unfold cntC at hpos
  by_cases hl : left = 0
  · rw [if_pos hl] at hpos ⊢
    rw [va_up_self, va_up_ne _ _ (show (3 : Nat) ≠ 4 by decide)]
    obtain rfl | rfl | rfl : b = 0 ∨ b = 1 ∨ b = 2 := by omega
    · rw [va_up_self, va_up_ne _ _ (show (1 : Nat) ≠ 0 by decide), va_up_ne _ _ (show (2 : Nat) ≠ 0 by decide)]; omega
    · rw [va_up_self, va_up_ne _ _ (show (0 : Nat) ≠ 1 by decide), va_up_ne _ _ (show (2 : Nat) ≠ 1 by decide)]; omega
    · rw [va_up_self, va_up_ne _ _ (show (0 : Nat) ≠ 2 by decide), va_up_ne _ _ (show (1 : Nat) ≠ 2 by decide)]; omega
  · rw [if_neg hl] at hpos ⊢
    rw [va_up_self, va_up_ne _ _ (show (4 : Nat) ≠ 3 by decide)]
    obtain rfl | rfl | rfl : b = 0 ∨ b = 1 ∨ b = 2 := by omega
    · rw [va_up_self, va_up_ne _ _ (show (1 : Nat) ≠ 0 by decide), va_up_ne _ _ (show (2 : Nat) ≠ 0 by decide)]; omega
    · rw [va_up_self, va_up_ne _ _ (show (0 : Nat) ≠ 1 by decide), va_up_ne _ _ (show (2 : Nat) ≠ 1 by decide)]; omega
    · rw [va_up_self, va_up_ne _ _ (show (0 : Nat) ≠ 2 by decide), va_up_ne _ _ (show (1 : Nat) ≠ 2 by decide)]; omega
/-! a new script -/
abbrev nwX (x : Nat → Nat → Nat) (s u b : Nat) (C : Nat × (Nat → Nat) × Nat × Nat) (SL : Nat → Nat) : Nat → Nat → Nat := scX (prX x (x 9 u) b) s (x 7 u) 0 C.1 0 (fun _ => 0) (fun _ => 0) (wrS b (x 8 u) SL) (fun _ => 0) C.2.1
theorem nw_sl (x : Nat → Nat → Nat) (s u b : Nat) (C : Nat × (Nat → Nat) × Nat × Nat) (SL : Nat → Nat) (k : Nat) (hk : k < 5) : slV (nwX x s u b C SL) s k = wrS b (x 8 u) SL k := by
  unfold slV
  rw [if_neg (by omega)]
  simp (disch := omega) only [va_up_self, va_up_ne]
theorem nw_la (x : Nat → Nat → Nat) (s u b : Nat) (C : Nat × (Nat → Nat) × Nat × Nat) (SL : Nat → Nat) : laV (nwX x s u b C SL) s = 2 := by
  unfold laV
  simp (disch := omega) only [va_up_self, va_up_ne]
  decide
theorem nw_gr (x : Nat → Nat → Nat) (s u b : Nat) (C : Nat × (Nat → Nat) × Nat × Nat) (SL : Nat → Nat) : grV (nwX x s u b C SL) s = -1 := (gr_la _ _).mpr (by rw [nw_la]; decide)
theorem nw_pl (c9 : Nat → Nat) (x : Nat → Nat → Nat) (s u b : Nat) (C : Nat × (Nat → Nat) × Nat × Nat) (SL : Nat → Nat) : plV c9 (nwX x s u b C SL) s = -1 := by
  have hw : wC (nwX x s u b C SL) s = -9999 := by
    unfold wC worthC
    exact if_pos (Or.inr (nw_gr x s u b C SL))
  unfold plV plC
  rw [if_pos hw]
theorem nw_sh (x : Nat → Nat → Nat) (s u b : Nat) (C : Nat × (Nat → Nat) × Nat × Nat) (SL : Nat → Nat) : shS (nwX x s u b C SL) 6 = shS (prX x (x 9 u) b) 6 := by
  rw [shS_6, shS_6]
  simp (disch := omega) only [va_up_self, va_up_ne]
theorem nw_so (x : Nat → Nat → Nat) (s u b : Nat) (C : Nat × (Nat → Nat) × Nat × Nat) (SL : Nat → Nat) (k i : Nat) (hk : k < 100) : soV (nwX x s u b C SL) k i = soV x k i := by
  unfold soV
  simp (disch := omega) only [va_up_self, va_up_ne, prX_ne]
theorem nw_6 (x : Nat → Nat → Nat) (s u b : Nat) (C : Nat × (Nat → Nat) × Nat × Nat) (SL : Nat → Nat) : nwX x s u b C SL 6 = x 6 := by
  simp (disch := omega) only [va_up_self, va_up_ne, prX_ne]
theorem nw_facts (h : CI n c x) (w b bd : Nat) (hw : w < c 1) (C : Nat × (Nat → Nat) × Nat × Nat) (hC : cmpA (x (400 + w)) (x 6 w) (x 2) (c 0) (fun _ => 0) (c 0) = C) (SL : Nat → Nat) (hSL : slpC (x (400 + w)) (x 6 w) (x 2) (c 0) = SL) :
    wrS b bd SL 1 ≤ c 0 ∧ wrS b bd SL 0 + (c 0 - wrS b bd SL 1) = x 6 w ∧ wrS b bd SL 2 ≤ c 0 - wrS b bd SL 1 ∧ (0 < c 0 - wrS b bd SL 1 → wrS b bd SL 3 + 1 ≤ c 0 - wrS b bd SL 1) ∧ (c 0 - wrS b bd SL 1 = 0 → wrS b bd SL 3 = 0) ∧ wrS b bd SL 4 ≤ 1 := by
  obtain ⟨hN, hp, hL, hS⟩ := h
  have hx := hN.2.2.2.2.2
  obtain ⟨l1, l2, l3⟩ := hL w hw
  have h10 := hN.2.2.1
  obtain ⟨f1, f2, f3, f4, f5⟩ := cmp_facts l1.2 (fun j => Nat.le_trans (hx (400 + w) j) (Nat.le_of_eq (xm_400 n w (by omega)))) (fun j => hx 2 j) l3 C hC
  have f6 := lrM_le C.2.1 C.1
  have e : ∀ k, k < 4 → wrS b bd SL k = SL k := fun k hk => by
    unfold wrS
    split
    · rfl
    · exact va_up_ne _ _ (by omega)
  have e0 : SL 0 = x 6 w - C.1 := by rw [← hSL]; unfold slpC; rw [va_up_ne _ _ (by decide), va_up_self, hC]
  have e1 : SL 1 = C.2.2.1 := by rw [← hSL]; unfold slpC cmpS; rw [va_up_ne _ _ (by decide), va_up_ne _ _ (by decide), va_up_ne _ _ (by decide), va_up_self, hC]
  have e2 : SL 2 = C.2.2.2 := by rw [← hSL]; unfold slpC cmpS; rw [va_up_ne _ _ (by decide), va_up_ne _ _ (by decide), va_up_self, hC]
  have e3 : SL 3 = C.1 - lrM C.2.1 C.1 := by rw [← hSL]; unfold slpC; rw [va_up_self, hC]
  have e4 : wrS b bd SL 4 ≤ 1 := by
    unfold wrS
    split
    · rw [← hSL, slpC_4]; exact Nat.zero_le _
    · rw [va_up_self]; exact Nat.le_refl _
  rw [e 0 (by decide), e 1 (by decide), e 2 (by decide), e 3 (by decide), e0, e1, e2, e3]
  refine ⟨by omega, by omega, by omega, fun z => ?_, fun z => by omega, e4⟩
  have := f5 (by omega)
  omega
/-! marks -/
abbrev mkX (x : Nat → Nat → Nat) (e s v : Nat) : Nat → Nat → Nat := va_up (va_up (va_up x (1000 + 8 * s) (va_up (x (1000 + 8 * s)) (x 13 s) e)) (1001 + 8 * s) (va_up (x (1001 + 8 * s)) (x 13 s) v)) 13 (va_up (x 13) s (x 13 s + 1))
theorem mk_facts (h : CI n c x) (hn : n + 1 ≤ 512) (e s v : Nat) (he : e ≤ 5) (hs : s < c 3) (hv : v ≤ 20) (hl : laV x s ≠ 0) : 0 < laV x s ∧ x 13 s + 1 ≤ 3 ∧ (x 13 s + 1 = 1 → laV (mkX x e s v) s = 1) ∧ (x 13 s + 1 = 3 → grV (mkX x e s v) s ≠ -1) := by
  have h0 := la_bd h s hs
  have h9 := la_bd (P_mark h hn e s v he hs hv hl) s hs
  have h13 := h.m3 s
  have h3 : x 13 s ≠ 3 := fun z => hl (by unfold laV; rw [z]; exact (h.2.2.2 s hs).1 z)
  refine ⟨by omega, by omega, fun z => ?_, fun z => ?_⟩
  · have z : x 13 s = 0 := by omega
    unfold laV
    simp (disch := omega) only [va_up_self, va_up_ne]
    rw [z]
    unfold lackC
    rw [if_neg (fun q => absurd q.1 (by decide))]
    rfl
  · have z : x 13 s = 2 := by omega
    intro q
    have q2 := (gr_la _ _).mp q
    unfold laV at q2
    simp (disch := omega) only [va_up_self, va_up_ne] at q2
    rw [z] at q2
    have hl2 : lackC (x (1001 + 8 * s)) 2 ≠ 0 := by unfold laV at hl; rw [z] at hl; exact hl
    rw [lack_3 (v := x (1001 + 8 * s)) (va_up_ne _ _ (by decide)) (va_up_ne _ _ (by decide)) hl2] at q2
    exact absurd q2 (by decide)
/-! examiners who are taken out -/
def chN (x y : Nat → Nat → Nat) : Nat → Nat
  | 0 => 0
  | k + 1 => chN x y k + b2 (decide (grV y k ≠ grV x k))
theorem chN_cong {x y y' : Nat → Nat → Nat} : ∀ k : Nat, (∀ j, j < k → grV y' j = grV y j) → chN x y' k = chN x y k
  | 0, _ => rfl
  | k + 1, h => by
    unfold chN
    rw [chN_cong k (fun j hj => h j (by omega)), h k (by omega)]
theorem chN_le (x y : Nat → Nat → Nat) : ∀ k : Nat, chN x y k ≤ k
  | 0 => Nat.le_refl _
  | k + 1 => Nat.add_le_add (chN_le x y k) (b2_le _)
theorem tkA_at (y : Nat → Nat → Nat) (e : Nat) : ∀ k : Nat, ∀ j, k ≤ j → (tkA y e k).2 (1001 + 8 * j) = y (1001 + 8 * j) ∧ (tkA y e k).2 13 j = y 13 j
  | 0, j, _ => ⟨rfl, rfl⟩
  | k + 1, j, hj => by
    obtain ⟨h1, h2⟩ := tkA_at y e k j (by omega)
    show tkX (tkA y e k).2 e k (1001 + 8 * j) = _ ∧ tkX (tkA y e k).2 e k 13 j = _
    unfold tkX
    simp (disch := omega) only [va_up_self, va_up_ne]
    exact ⟨h1, h2⟩
theorem tkA_ch (y : Nat → Nat → Nat) (e : Nat) : ∀ k : Nat, (tkA y e k).1 = chN y (tkA y e k).2 k
  | 0 => rfl
  | k + 1 => by
    have ih := tkA_ch y e k
    obtain ⟨h1, h2⟩ := tkA_at y e k k (Nat.le_refl _)
    have e1 : (tkA y e (k + 1)).1 = (tkA y e k).1 + b2 (decide (gradeC (tkM (tkA y e k).2 e k).2.2 (tkM (tkA y e k).2 e k).1 ≠ gradeC ((tkA y e k).2 (1001 + 8 * k)) ((tkA y e k).2 13 k))) := rfl
    have e2 : grV (tkA y e (k + 1)).2 k = gradeC (tkM (tkA y e k).2 e k).2.2 (tkM (tkA y e k).2 e k).1 := by
      show gradeC (tkX (tkA y e k).2 e k (1001 + 8 * k)) (tkX (tkA y e k).2 e k 13 k) = _
      unfold tkX
      simp (disch := omega) only [va_up_self, va_up_ne]
    have e3 : chN y (tkA y e (k + 1)).2 k = chN y (tkA y e k).2 k := chN_cong k (fun j hj => by
      show gradeC (tkX (tkA y e k).2 e k (1001 + 8 * j)) (tkX (tkA y e k).2 e k 13 j) = _
      unfold tkX
      simp (disch := omega) only [va_up_self, va_up_ne]
      rfl)
    show _ = chN y (tkA y e (k + 1)).2 k + b2 (decide (grV (tkA y e (k + 1)).2 k ≠ grV y k))
    rw [e1, e2, e3, ih, h1, h2]
    rfl
theorem tkA_10 (y : Nat → Nat → Nat) (e : Nat) : ∀ k : Nat, (tkA y e k).2 7 = y 7 ∧ (tkA y e k).2 10 = y 10
  | 0 => ⟨rfl, rfl⟩
  | k + 1 => by
    obtain ⟨h1, h2⟩ := tkA_10 y e k
    show tkX (tkA y e k).2 e k 7 = _ ∧ tkX (tkA y e k).2 e k 10 = _
    unfold tkX
    simp (disch := omega) only [va_up_self, va_up_ne]
    exact ⟨h1, h2⟩
theorem tk_ch (x : Nat → Nat → Nat) (r : Nat → Nat) (e m : Nat) : (tkA (va_up x 5 r) e m).1 = chN x (tkA (va_up x 5 r) e m).2 m := by
  rw [tkA_ch]
  have h : ∀ k, grV (va_up x 5 r) k = grV x k := fun k => by
    unfold grV
    simp (disch := omega) only [va_up_self, va_up_ne]
  have h2 : ∀ (z : Nat → Nat → Nat) (k : Nat), chN (va_up x 5 r) z k = chN x z k := fun z k => by
    induction k with
    | zero => rfl
    | succ k ih => unfold chN; rw [ih, h]
  exact h2 _ _
/-! what is shown, and voted for -/
theorem sum_zero {g : Nat → Nat} (h : ∀ j, j < 4 → g j = 0) : sumA g 4 = 0 := by
  show 0 + g 0 + g 1 + g 2 + g 3 = 0
  rw [h 0 (by decide), h 1 (by decide), h 2 (by decide), h 3 (by decide)]
theorem sh_facts (h : CI n c x) (hn : n + 1 ≤ 512) (s : Nat) (hs : s < c 3) (h11 : x 11 s = 0) (hg : grV x s ≠ -1) :
    (1 ≤ shC (va_up x 11 (va_up (x 11) s 1)) (c 3) ∧ shC (va_up x 11 (va_up (x 11) s 1)) (c 3) ≤ c 3) ∧ wC (va_up x 11 (va_up (x 11) s 1)) s = 3 * grV x s - (slV x s 5 : Int) ∧ 1 ≤ plV c (va_up x 11 (va_up (x 11) s 1)) s := by
  have h9 := P_show h hn s
  have hw : wC (va_up x 11 (va_up (x 11) s 1)) s = 3 * grV x s - (slV x s 5 : Int) := by
    unfold wC worthC
    simp (disch := omega) only [va_up_self, va_up_ne]
    rw [if_neg (fun z => z.elim (fun z => absurd z (by decide)) hg), sum_zero ((h.2.2.2 s hs).2.1 h11)]
    unfold slV
    rw [if_pos rfl]
    show 3 * grV x s + 2 * ((0 : Nat) : Int) - _ = _
    omega
  have hb := sl_bd h s 5
  have hb2 := gr_bd h s
  refine ⟨⟨?_, shC_le (fun j => h9.1.2.2.2.2.2 11 j) _⟩, hw, ?_⟩
  · have hk : ∀ k : Nat, s < k → 1 ≤ shC (va_up x 11 (va_up (x 11) s 1)) k := by
      intro k
      induction k with
      | zero => intro z; omega
      | succ k ih =>
        intro z
        show 1 ≤ shC (va_up x 11 (va_up (x 11) s 1)) k + va_up x 11 (va_up (x 11) s 1) 11 k
        by_cases e : s = k
        · rw [va_up_self, e, va_up_self]; omega
        · have := ih (by omega); omega
    exact hk _ hs
  · unfold plV plC
    rw [if_neg (by omega)]
    have := plA_le (va_up x 11 (va_up (x 11) s 1)) (wC (va_up x 11 (va_up (x 11) s 1)) s) s (c 3)
    omega
theorem vo_facts (h : CI n c x) (g s v : Nat) (hg : g < 4) (hv : v ≤ 5) (hs : s < c 3) (h10 : x 10 s ≠ g) :
    v ≤ sumA (va_up (x (1003 + 8 * s)) g v) 4 ∧ sumA (va_up (x (1003 + 8 * s)) g v) 4 ≤ 15 := by
  have hp := h.p5 s
  have h3 : x 10 s ≤ 3 := h.1.2.2.2.2.2 10 s
  have hz := (h.2.2.2 s hs).2.2.1
  have e : sumA (va_up (x (1003 + 8 * s)) g v) 4 = va_up (x (1003 + 8 * s)) g v 0 + va_up (x (1003 + 8 * s)) g v 1 + va_up (x (1003 + 8 * s)) g v 2 + va_up (x (1003 + 8 * s)) g v 3 := by
    show 0 + va_up (x (1003 + 8 * s)) g v 0 + va_up (x (1003 + 8 * s)) g v 1 + va_up (x (1003 + 8 * s)) g v 2 + va_up (x (1003 + 8 * s)) g v 3 = _
    omega
  rw [e]
  have p0 := hp 0
  have p1 := hp 1
  have p2 := hp 2
  have p3 := hp 3
  have hq : ∀ j, va_up (x (1003 + 8 * s)) g v j = if j = g then v else x (1003 + 8 * s) j := fun j => rfl
  rw [hq, hq, hq, hq]
  obtain h4 | h4 | h4 | h4 : x 10 s = 0 ∨ x 10 s = 1 ∨ x 10 s = 2 ∨ x 10 s = 3 := by omega
  all_goals rw [h4] at hz
  all_goals repeat' split
  all_goals omega
theorem vo_w (x : Nat → Nat → Nat) (s : Nat) (r : Nat → Nat) : wC (va_up x (1003 + 8 * s) r) s = if wC x s = -9999 ∧ (x 11 s = 0 ∨ grV x s = -1) then -9999 else if x 11 s = 0 ∨ grV x s = -1 then -9999 else 3 * grV x s + 2 * (sumA r 4 : Int) - (slV x s 5 : Int) := by
  unfold wC worthC
  simp (disch := omega) only [va_up_self, va_up_ne]
  by_cases hc : x 11 s = 0 ∨ gradeC (x (1001 + 8 * s)) (x 13 s) = -1
  · rw [if_pos hc, if_pos hc, if_pos ⟨rfl, hc⟩]
  · rw [if_neg hc, if_neg hc, if_neg (fun z => hc z.2), if_neg (show ¬ (x 11 s = 0 ∨ grV x s = -1) from hc)]
    unfold slV
    rw [if_pos rfl]
    rfl
theorem w_none (h : CI n c x) (s : Nat) : wC x s = -9999 ↔ (x 11 s = 0 ∨ grV x s = -1) := by
  have hb := sl_bd h s 5
  have hb2 := gr_bd h s
  unfold wC worthC
  by_cases hc : x 11 s = 0 ∨ gradeC (x (1001 + 8 * s)) (x 13 s) = -1
  · rw [if_pos hc]; exact ⟨fun _ => hc, fun _ => rfl⟩
  · rw [if_neg hc]
    have e : slV x s 5 = sumA (x (1002 + 8 * s)) 5 := by unfold slV; rw [if_pos rfl]
    have e2 : grV x s = gradeC (x (1001 + 8 * s)) (x 13 s) := rfl
    constructor
    · intro z
      omega
    · intro z
      exact absurd z hc
end PCB
