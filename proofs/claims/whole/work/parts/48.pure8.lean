section PX8
variable {c : Nat → Nat} {x : Nat → Nat → Nat} {i : Nat → Nat} {f : Nat → Nat → Nat} {n : Nat}
theorem cpA_in {r g : Nat → Nat} {a : Nat} : ∀ n j : Nat, j < n → cpA r a g n (a + j) = g j
  | 0, j, h => absurd h (Nat.not_lt_zero j)
  | n + 1, j, h => by
    show va_up (cpA r a g n) (a + n) (g n) (a + j) = g j
    by_cases e : j = n
    · rw [e, va_up_self]
    · rw [va_up_ne _ _ (by omega)]
      exact cpA_in n j (by omega)
theorem cpA_off {r g : Nat → Nat} {a q : Nat} : ∀ n : Nat, (q < a ∨ a + n ≤ q) → cpA r a g n q = r q
  | 0, _ => rfl
  | n + 1, h => by
    show va_up (cpA r a g n) (a + n) (g n) q = r q
    rw [va_up_ne _ _ (by omega)]
    exact cpA_off n (by omega)
theorem fol_first {g : Nat → Nat} {n k : Nat} (hk : k < n) : folA g (g k) n < (k : Int) ↔ ∃ j, j < k ∧ lineC (g j) (g k) = true := by
  have hb := folA_bd g (g k) n
  constructor
  · intro h1
    by_cases h2 : folA g (g k) n = -1
    · have := folA_none n h2 k hk
      rw [line_rf] at this
      cases this
    · obtain ⟨j, a1, a2, a3, a4⟩ := folA_some n h2
      exact ⟨j, by omega, a3⟩
  · rintro ⟨j, h1, h2⟩
    by_cases h3 : folA g (g k) n = -1
    · omega
    · obtain ⟨j2, a1, a2, a3, a4⟩ := folA_some n h3
      have : j2 ≤ j := by
        rcases Nat.lt_or_ge j j2 with h5 | h5
        · rw [a4 j h5] at h2; cases h2
        · exact h5
      omega
theorem twA_iff (g : Nat → Nat) (n : Nat) : ∀ m : Nat, twA g n m = false ↔ ∀ k, k < m → ¬ folA g (g k) n < (k : Int)
  | 0 => ⟨fun _ k hk => absurd hk (Nat.not_lt_zero k), fun _ => rfl⟩
  | m + 1 => by
    show (twA g n m || decide _) = false ↔ _
    rw [Bool.or_eq_false_iff, twA_iff g n m, decide_eq_false_iff_not]
    constructor
    · rintro ⟨h1, h2⟩ k hk
      by_cases e : k = m
      · rw [e]; exact h2
      · exact h1 k (by omega)
    · intro h
      exact ⟨fun k hk => h k (by omega), h m (by omega)⟩
theorem mayI_iff (f : Nat → Nat → Nat) (b : Bool) (k : Nat) : ∀ n : Nat, mayI f b k n = true ↔ b = true ∧ ∀ j, j < n → oneLine (f 0 j) (f 0 k) = false
  | 0 => ⟨fun h => ⟨h, fun j hj => absurd hj (Nat.not_lt_zero j)⟩, fun h => h.1⟩
  | n + 1 => by
    show (mayI f b k n && !oneLine (f 0 n) (f 0 k)) = true ↔ _
    rw [Bool.and_eq_true, mayI_iff f b k n, Bool.not_eq_true']
    constructor
    · rintro ⟨⟨h1, h2⟩, h3⟩
      refine ⟨h1, fun j hj => ?_⟩
      by_cases e : j = n
      · rw [e]; exact h3
      · exact h2 j (by omega)
    · rintro ⟨h1, h2⟩
      exact ⟨⟨h1, fun j hj => h2 j (by omega)⟩, h2 n (by omega)⟩
theorem mayA_iff (f : Nat → Nat → Nat) (b : Bool) : ∀ n : Nat, mayA f b n = true ↔ b = true ∧ ∀ k, k < n → ∀ j, j < k → oneLine (f 0 j) (f 0 k) = false
  | 0 => ⟨fun h => ⟨h, fun j hj => absurd hj (Nat.not_lt_zero j)⟩, fun h => h.1⟩
  | n + 1 => by
    show mayI f (mayA f b n) n n = true ↔ _
    rw [mayI_iff, mayA_iff f b n]
    constructor
    · rintro ⟨⟨h1, h2⟩, h3⟩
      refine ⟨h1, fun k hk => ?_⟩
      by_cases e : k = n
      · rw [e]; exact h3
      · exact h2 k (by omega)
    · rintro ⟨h1, h2⟩
      exact ⟨⟨h1, fun k hk => h2 k (by omega)⟩, h2 n (by omega)⟩
theorem may_iff (hR : REL c x i f) (hN : NB n c x) : mayS i f = true ↔ ((1 ≤ c 0 ∧ c 0 ≤ 6) ∧ twA (x 2) (c 0) (c 0) = false ∧ c 1 < 10) := by
  obtain ⟨hc, hm, hp, hL, hb, hE, hP, hS, hZ⟩ := hR
  have hx : ∀ j, x 2 j ≤ 88 := fun j => hN.2.2.2.2.2 2 j
  unfold mayS
  rw [mayA_iff, twA_iff, decide_eq_true_eq, hc.1, hc.2.1]
  constructor
  · rintro ⟨h1, h2⟩
    refine ⟨⟨h1.1, h1.2.1⟩, fun k hk h3 => ?_, h1.2.2⟩
    obtain ⟨j, h4, h5⟩ := (fol_first hk).mp h3
    have h6 := h2 k hk j h4
    rw [← hp j (by omega), ← hp k hk, line_eq (hx j) (hx k), h5] at h6
    cases h6
  · rintro ⟨h1, h2, h3⟩
    refine ⟨⟨h1.1, h1.2, h3⟩, fun k hk j hj => ?_⟩
    cases h4 : oneLine (f 0 j) (f 0 k) with
    | false => rfl
    | true =>
      rw [← hp j (by omega), ← hp k hk, line_eq (hx j) (hx k)] at h4
      exact absurd ((fol_first hk).mpr ⟨j, hj, h4⟩) (h2 k hk)
theorem P_letter (hR : REL c x i f) (hN : NB n c x) (hI : MI n i f) (hn : n + 1 ≤ 512) : ((1 ≤ c 0 ∧ c 0 ≤ 6) ∧ twA (x 2) (c 0) (c 0) = false ∧ c 1 < 10 → ∀ cap, 10 ≤ cap → cap ≤ 58 → OUT (oLetter i f) n (c 1 : Int) (va_up (va_up c 1 (c 1 + 1)) 0 0) (va_up (va_up (xLst x 6 cap (x 1 6 + 1)) 6 (va_up (x 6) (c 1) (0 + c 0))) (400 + c 1) (cpA (fun _ => 0) 0 (x 2) (c 0)))) ∧ (¬ ((1 ≤ c 0 ∧ c 0 ≤ 6) ∧ twA (x 2) (c 0) (c 0) = false ∧ c 1 < 10) → EXC (oLetter i f) 1 i f) := by
  have hmay := may_iff hR hN
  obtain ⟨hc, hm, hp, hL, hb, hE, hP, hS, hZ⟩ := id hR
  refine ⟨fun h cap h10 h58 => ?_, fun h => EXC.of (if_neg (fun z => h (hmay.mp z)))⟩
  obtain ⟨h1, h2, h3⟩ := h
  have hmS := hmay.mpr ⟨h1, h2, h3⟩
  have hdl : ∀ k, k < i 1 → ∀ j, j < k → oneLine (f 0 j) (f 0 k) = false := ((mayA_iff f _ _).mp hmS).2
  have hx := hN.2.2.2.2.2
  have hf := hI.2.2.2.2.2
  have b4 := xm_400 (n + 1) (c 1) (by omega)
  have hc0 := hc.1
  have hc1 := hc.2.1
  refine OUT.of (o' := (0, (i 2 : Int), va_up (va_up i 1 0) 2 (i 2 + 1), va_up (va_up f 3 (cpA (f 3) (6 * i 2) (f 0) (i 1))) 4 (va_up (f 4) (i 2) (i 1)))) (if_pos hmS) rfl (by show ((i 2 : Nat) : Int) = _; rw [hc1]) ⟨?_, ?_, ?_, ?_, ?_, ?_, ?_, ?_, ?_⟩
    (((((hN.mono hn).up 0 (fun j => up_le (g := x 0) (b := 58) (fun j9 => hx 0 j9) h58 j)).up 1 (fun j => up_le (g := x 1) (b := 58) (fun j9 => hx 1 j9) (by omega) j)).up 6 (fun j => up_le (g := x 6) (b := 6) (fun j9 => hx 6 j9) (by omega) j)).up (400 + c 1) (fun j => by rw [b4]; exact cpA_le (fun _ => Nat.zero_le _) (fun j9 => hx 2 j9) _ j) |>.cnt ?_ ?_ ?_ ?_)
    (((hI.mono hn).row 3 _ (fun j => cpA_le (b := 88) (fun j9 => hf 3 j9) (fun j9 => hf 0 j9) _ j)).row 4 _ (fun j => up_le (g := f 4) (b := 6) (fun j9 => hf 4 j9) (by omega) j) |>.cnt ?_ ?_ ?_ ?_)
  · simp (disch := omega) only [va_up_ne, va_up_self]; exact ⟨trivial, by omega, hc.2.2⟩
  · simp (disch := omega) only [va_up_ne, va_up_self]; exact ⟨by omega, hm.2⟩
  · intro k hk; simp (disch := omega) only [va_up_ne, va_up_self] at hk; exact absurd hk (Nat.not_lt_zero k)
  · intro l hl
    have hl : l < i 2 + 1 := by simpa (disch := omega) only [va_up_ne, va_up_self] using hl
    unfold LR
    by_cases el : l = i 2
    · rw [el, ← hc1]
      simp (disch := omega) only [va_up_ne, va_up_self]
      rw [hc1]
      refine ⟨by omega, by omega, fun k hk hk2 => ?_, fun a b hab hb6 hb => ?_⟩
      · have e1 := cpA_in (r := fun _ => 0) (g := x 2) (a := 0) (c 0) k (by omega)
        rw [Nat.zero_add] at e1
        rw [e1, cpA_in (i 1) k hk2]
        exact hp k hk2
      · rw [cpA_in (i 1) a (by omega), cpA_in (i 1) b hb]
        exact hdl b hb a hab
    · have hl9 : l < i 2 := by omega
      obtain ⟨l1, l2, l3, l4⟩ := hL l hl9
      rw [hc1]
      simp (disch := omega) only [va_up_ne, va_up_self]
      refine ⟨l1, l2, fun k hk hk2 => ?_, fun a b hab hb6 hb => ?_⟩
      · rw [cpA_off _ (by omega)]; exact l3 k hk hk2
      · rw [cpA_off _ (by omega), cpA_off _ (by omega)]; exact l4 a b hab hb6 hb
  · simp (disch := omega) only [va_up_ne, va_up_self]; exact hb
  · simp (disch := omega) only [va_up_ne, va_up_self]; exact hE
  · intro k hk
    have hk : k < i 5 := by simpa (disch := omega) only [va_up_ne] using hk
    have h9 := hP k hk
    unfold bandP at h9 ⊢
    simp (disch := omega) only [va_up_ne]
    exact h9
  · intro s hs
    have hs : s < i 10 := by simpa (disch := omega) only [va_up_ne] using hs
    obtain ⟨g1, g2⟩ := hS s hs
    have hw := hR.wr hI hs
    have h6 := hw.hm6
    refine ⟨by simp (disch := omega) only [va_up_ne, va_up_self]; omega, SR.same g2 ?_ ?_ ?_ ?_ ?_ ?_ ?_ ?_ ?_ ?_ ?_ ?_ ?_ ?_ ?_ (fun k hk => hw.same ?_ ?_ ?_ ?_ ?_ ?_ k hk)⟩
    any_goals (simp (disch := omega) only [va_up_ne, va_up_self]; done)
    any_goals (intro j hj; simp (disch := omega) only [va_up_ne, va_up_self]; done)
    · intro j hj
      simp (disch := omega) only [va_up_ne, va_up_self]
      exact cpA_off _ (by omega)
  · intro k hk
    have hk : i 10 ≤ k := by simpa (disch := omega) only [va_up_ne] using hk
    simp (disch := omega) only [va_up_ne, va_up_self]
    exact hZ k hk
  all_goals simp (disch := omega) only [va_up_ne, va_up_self]
  all_goals first | omega | exact hN.2.1 | exact hN.2.2.1 | exact hN.2.2.2.1 | exact hN.2.2.2.2.1 | exact hI.2.1 | exact hI.2.2.1 | exact hI.2.2.2.1 | exact hI.2.2.2.2.1
theorem slpC_le {gm : Nat → Nat} {nm : Nat} {gd : Nat → Nat} {nd : Nat} (hm : nm ≤ 6) (hd : nd ≤ 8) (k : Nat) : slpC gm nm gd nd k ≤ 8 := by
  obtain ⟨h1, h2, h3, h4⟩ := cmpA_rows (gm := gm) (nm := nm) (gd := gd) (nd := nd) (r0 := fun _ => 0) (fun _ => Nat.zero_le _) (by omega) nd
  unfold slpC cmpS va_up
  split
  · omega
  · split
    · omega
    · split
      · omega
      · split
        · omega
        · exact Nat.zero_le _
theorem slpC_4 (gm : Nat → Nat) (nm : Nat) (gd : Nat → Nat) (nd : Nat) : slpC gm nm gd nd 4 = 0 := by
  unfold slpC cmpS
  simp (disch := omega) only [va_up_ne]
theorem P_band (hR : REL c x i f) {p : Nat} (hp : p < i 5) : bndC (x 3) (x 4) (x 9 p) (x 8 p + 1) = bandS f p ∧ bandS f p ≤ (bandP f p : Int) ∧ x 8 p = bandP f p ∧ bandP f p ≤ 2 := by
  obtain ⟨hc, hm, hpn, hL, hb, hE, hP, hS, hZ⟩ := hR
  obtain ⟨p1, p2, p3⟩ := hP p hp
  have h2 : bandP f p ≤ 2 := by unfold bandP; split <;> (try split) <;> omega
  have e : bndC (x 3) (x 4) (x 9 p) (x 8 p + 1) = bandS f p := by
    unfold bandS
    rw [← p2, ← p3]
    refine bndC_S _ (fun b hb9 => ?_)
    have h9 := hb b (by omega)
    unfold cntC stackN
    rw [h9.1, h9.2]
    split <;> rfl
  have h3 := bndC_bd (x 3) (x 4) (x 9 p) (x 8 p + 1)
  exact ⟨e, by omega, p2, h2⟩
theorem prX_3 {left b k : Nat} : prX x left b 3 k = if left = 0 then x 3 k else va_up (x 3) b (x 3 b - 1) k := by
  unfold prX
  split
  · rw [va_up_ne _ _ (by decide)]
  · rw [va_up_self]
theorem prX_4 {left b k : Nat} : prX x left b 4 k = if left = 0 then va_up (x 4) b (x 4 b - 1) k else x 4 k := by
  unfold prX
  split
  · rw [va_up_self]
  · rw [va_up_ne _ _ (by decide)]
theorem P_rank (hR : REL c x i f) (hN : NB n c x) (hI : MI n i f) {l : Nat} (hl : l < i 2) (f' : Nat → Nat → Nat) (s : Nat) (h14 : f' 14 s = l) (h12 : f' 12 s = i 1) (h4 : f' 4 = f 4) (h3 : f' 3 = f 3) (h11 : ∀ k, k < i 1 → f' 11 (8 * s + k) = f 0 k) : WR f' s (x (400 + l)) (x 6 l) (x 2) (c 0) := by
  obtain ⟨hc, hm, hp, hL, hb, hE, hP, hS, hZ⟩ := hR
  obtain ⟨l1, l2, l3, l4⟩ := hL l hl
  have hx := hN.2.2.2.2.2
  have hl10 : l < 10 := Nat.lt_of_lt_of_le hl hI.2.2.1
  refine ⟨by rw [h14, h4]; exact l1, by rw [h12]; exact hc.1, by omega, fun j hj => ?_, fun j hj => ?_, fun j => Nat.le_trans (hx _ j) (Nat.le_of_eq (xm_400 n l (by omega))), fun j => hx 2 j, fun a b hab hb9 => ?_⟩
  · rw [h14, h3]; exact l3 j (by omega) (by omega)
  · rw [h11 j (by omega)]; exact hp j (by omega)
  · rw [l3 a (by omega) (by omega), l3 b (by omega) (by omega)]; exact l4 a b hab (by omega) (by omega)
theorem P_rk (hR : REL c x i f) (hN : NB n c x) (hI : MI n i f) {l : Nat} (hl : l < c 1) : (cmpA (x (400 + l)) (x 6 l) (x 2) (c 0) (fun _ => 0) (c 0)).1 ≤ x 6 l :=
  (P_rank hR hN hI (l := l) (by rw [← hR.1.2.1]; exact hl) (va_up (va_up (va_up f 14 (fun _ => l)) 12 (fun _ => i 1)) 11 (f 0)) 0 (by simp (disch := omega) only [va_up_ne, va_up_self]) (by simp (disch := omega) only [va_up_ne, va_up_self]) (by simp (disch := omega) only [va_up_ne, va_up_self]) (by simp (disch := omega) only [va_up_ne, va_up_self]) (fun k hk => by simp (disch := omega) only [va_up_ne, va_up_self]; rw [Nat.mul_zero, Nat.zero_add])).rk
theorem P_write (hR : REL c x i f) (hN : NB n c x) (hI : MI n i f) (hn : n + 1 ≤ 512) (u w : Int) : (((0 ≤ u ∧ u < c 2) ∧ 0 ≤ w ∧ w < c 1) ∧ c 3 < 40 → ∀ bd : Nat, bndC (x 3) (x 4) (x 9 u.toNat) (x 8 u.toNat + 1) = (bd : Int) → ∀ cap, 10 ≤ cap → cap ≤ 58 → OUT (oWrite u w i f) n (c 3 : Int) (va_up (va_up c 3 (c 3 + 1)) 0 0) (scX (xLst (prX x (x 9 u.toNat) bd) 10 cap (x 1 10 + 1)) (c 3) (x 7 u.toNat) 0 (cmpA (x (400 + w.toNat)) (x 6 w.toNat) (x 2) (c 0) (fun _ => 0) (c 0)).1 0 (fun _ => 0) (fun _ => 0) (wrS bd (x 8 u.toNat) (slpC (x (400 + w.toNat)) (x 6 w.toNat) (x 2) (c 0))) (fun _ => 0) (cmpA (x (400 + w.toNat)) (x 6 w.toNat) (x 2) (c 0) (fun _ => 0) (c 0)).2.1)) ∧ (¬ ((0 ≤ u ∧ u < c 2) ∧ 0 ≤ w ∧ w < c 1) → EXC (oWrite u w i f) 1 i f) ∧ (((0 ≤ u ∧ u < c 2) ∧ 0 ≤ w ∧ w < c 1) ∧ ¬ (c 3 < 40 ∧ bndC (x 3) (x 4) (x 9 u.toNat) (x 8 u.toNat + 1) ≠ -1) → EXC (oWrite u w i f) 2 i f) := by
  obtain ⟨hc, hm, hp, hL, hb, hE, hP, hS, hZ⟩ := id hR
  have hc3 := hc.2.2.2
  have hi10 := hI.2.2.2.2.1
  have hband : (0 ≤ u ∧ u < c 2) → _ := fun h => P_band hR (p := u.toNat) (by omega)
  have hbb := bndC_bd (x 3) (x 4) (x 9 u.toNat) (x 8 u.toNat + 1)
  refine ⟨fun h bd hbd cap h10 h58 => ?_, fun h => EXC.of (if_pos (by omega)), fun h => ?_⟩
  · obtain ⟨b1, b2, b3, b4⟩ := hband h.1.1
    have hbd2 : (bandS f u.toNat).toNat = bd := by omega
    obtain ⟨p1, p2, p3⟩ := hP u.toNat (by omega)
    have hx := hN.2.2.2.2.2
    have hf := hI.2.2.2.2.2
    have hw : w.toNat < i 2 := by omega
    obtain ⟨l1, l2, l3, l4⟩ := hL w.toNat hw
    obtain ⟨SL, hSL⟩ : ∃ SL, SL = slpC (x (400 + w.toNat)) (x 6 w.toNat) (x 2) (c 0) := ⟨_, rfl⟩
    obtain ⟨CM, hCM⟩ : ∃ CM, CM = cmpA (x (400 + w.toNat)) (x 6 w.toNat) (x 2) (c 0) (fun _ => 0) (c 0) := ⟨_, rfl⟩
    have hSL8 : ∀ k, SL k ≤ 8 := fun k => by rw [hSL]; exact slpC_le (by omega) hN.2.1 k
    have hSL4 : SL 4 = 0 := by rw [hSL]; exact slpC_4 _ _ _ _
    obtain ⟨r1, r2, r3, r4⟩ := cmpA_rows (gm := x (400 + w.toNat)) (nm := x 6 w.toNat) (gd := x 2) (nd := c 0) (r0 := fun _ => 0) (fun _ => Nat.zero_le _) (by omega) (c 0)
    rw [← hCM] at r1 r2
    have hW8 : ∀ k, wrS bd (x 8 u.toNat) SL k ≤ 8 := fun k => by
      unfold wrS
      split
      · exact hSL8 k
      · exact up_le (g := SL) (b := 8) hSL8 (by omega) k
    obtain ⟨F, hF⟩ : ∃ F, F = va_up (va_up (va_up (va_up (va_up (va_up f 9 (va_up (f 9) (stackN (bandS f u.toNat).toNat (f 8 u.toNat)) (f 9 (stackN (bandS f u.toNat).toNat (f 8 u.toNat)) - 1))) 11 (cpA (f 11) (8 * i 10) (f 0) (i 1))) 12 (va_up (f 12) (i 10) (i 1))) 13 (va_up (f 13) (i 10) u.toNat)) 14 (va_up (f 14) (i 10) w.toNat)) 15 (va_up (f 15) (i 10) (_root_.Jvm.Pilot.CInkHallLaw_law_r6871_be9061.b2 (decide (bandS f u.toNat < bandP f u.toNat)))) := ⟨_, rfl⟩
    have F9 : F 9 = va_up (f 9) (stackN bd (f 8 u.toNat)) (f 9 (stackN bd (f 8 u.toNat)) - 1) := by rw [hF, ← hbd2]; simp (disch := omega) only [va_up_ne, va_up_self]
    have F11 : F 11 = cpA (f 11) (8 * i 10) (f 0) (i 1) := by rw [hF]; simp (disch := omega) only [va_up_ne, va_up_self]
    have F12 : F 12 = va_up (f 12) (i 10) (i 1) := by rw [hF]; simp (disch := omega) only [va_up_ne, va_up_self]
    have F13 : F 13 = va_up (f 13) (i 10) u.toNat := by rw [hF]; simp (disch := omega) only [va_up_ne, va_up_self]
    have F14 : F 14 = va_up (f 14) (i 10) w.toNat := by rw [hF]; simp (disch := omega) only [va_up_ne, va_up_self]
    have F15 : F 15 = va_up (f 15) (i 10) (_root_.Jvm.Pilot.CInkHallLaw_law_r6871_be9061.b2 (decide (bandS f u.toNat < bandP f u.toNat))) := by rw [hF]; simp (disch := omega) only [va_up_ne, va_up_self]
    have Fne : ∀ k, k ≠ 9 → (k < 11 ∨ 15 < k) → F k = f k := fun k h1 h2 => by rw [hF]; simp (disch := omega) only [va_up_ne]
    have hWR := P_rank hR hN hI hw F (i 10) (by rw [F14, va_up_self]) (by rw [F12, va_up_self]) (Fne 4 (by decide) (by decide)) (Fne 3 (by decide) (by decide)) (fun k hk => by rw [F11]; exact cpA_in _ k hk)
    have ho : oWrite u w i f = (0, (i 10 : Int), va_up (va_up i 1 0) 10 (i 10 + 1), F) := by
      rw [hF]
      exact (if_neg (by omega)).trans (if_neg (by omega))
    rw [← hSL, ← hCM]
    have e0 := xm_0 (n + 1) (c 3)
    have e1 := xm_1 (n + 1) (c 3)
    have e2 := xm_2 (n + 1) (c 3)
    have e3 := xm_3 (n + 1) (c 3)
    have e4 := xm_4 (n + 1) (c 3)
    refine OUT.of ho rfl (by show ((i 10 : Nat) : Int) = _; rw [hc3]) ⟨?_, ?_, ?_, ?_, ?_, ?_, ?_, ?_, ?_⟩ ?_ ?_
    · simp (disch := omega) only [va_up_ne, va_up_self]; exact ⟨trivial, hc.2.1, hc.2.2.1, by omega⟩
    · simp (disch := omega) only [va_up_ne, va_up_self, prX_ne]; exact ⟨hm.1, hm.2.1, by omega⟩
    · intro k hk; simp (disch := omega) only [va_up_ne, va_up_self] at hk; exact absurd hk (Nat.not_lt_zero k)
    · intro l hl
      have hl : l < i 2 := by simpa (disch := omega) only [va_up_ne] using hl
      have hl10 : l < 10 := Nat.lt_of_lt_of_le hl hI.2.2.1
      have h9 := hL l hl
      unfold LR at h9 ⊢
      simp (disch := omega) only [va_up_ne, va_up_self, prX_ne]
      show _ = F 4 l ∧ F 4 l ≤ 6 ∧ _
      rw [Fne 4 (by decide) (by decide), Fne 3 (by decide) (by decide)]
      exact h9
    · intro b hb9
      have h9 := hb b hb9
      simp (disch := omega) only [va_up_ne, va_up_self, prX_ne]
      show prX x _ bd 3 b = F 9 (3 + b) ∧ prX x _ bd 4 b = F 9 b
      rw [prX_3, prX_4, F9, p3]
      have hst : stackN bd (f 8 u.toNat) = if f 8 u.toNat = 0 then bd else 3 + bd := rfl
      have hb4 := hb bd (by omega)
      by_cases el : f 8 u.toNat = 0
      · rw [if_pos el] at hst
        rw [if_pos el, if_pos el, hst, va_up_ne _ _ (by omega)]
        refine ⟨h9.1, ?_⟩
        by_cases eb : b = bd
        · rw [eb, va_up_self, va_up_self, hb4.2]
        · rw [va_up_ne _ _ eb, va_up_ne _ _ eb]; exact h9.2
      · rw [if_neg el] at hst
        rw [if_neg el, if_neg el, hst]
        refine ⟨?_, by rw [va_up_ne _ _ (by omega)]; exact h9.2⟩
        by_cases eb : b = bd
        · rw [eb, va_up_self, va_up_self, hb4.1]
        · rw [va_up_ne _ _ eb, va_up_ne _ _ (by omega)]; exact h9.1
    · intro e he
      simp (disch := omega) only [va_up_ne, va_up_self, prX_ne]
      show _ = F 19 e
      rw [Fne 19 (by decide) (by decide)]
      exact hE e he
    · intro k hk
      have hk : k < i 5 := by simpa (disch := omega) only [va_up_ne] using hk
      have h9 := hP k hk
      unfold bandP at h9 ⊢
      simp (disch := omega) only [va_up_ne, va_up_self, prX_ne]
      show _ = F 6 k ∧ _ = (if F 7 k < 8 then 0 else if F 7 k < 12 then 1 else 2) ∧ _ = F 8 k
      rw [Fne 6 (by decide) (by decide), Fne 7 (by decide) (by decide), Fne 8 (by decide) (by decide)]
      exact h9
    · intro s hs
      have hs : s < i 10 + 1 := by simpa (disch := omega) only [va_up_ne, va_up_self] using hs
      show (F 14 s < va_up (va_up i 1 0) 10 (i 10 + 1) 2 ∧ F 13 s < va_up (va_up i 1 0) 10 (i 10 + 1) 5) ∧ SR _ F s
      by_cases es : s = i 10
      · subst es
        refine ⟨?_, ?_, ?_, ?_, ?_, fun j hj hj2 => ?_, fun h3 => ?_, fun j hj => ?_, fun j hj => ?_, ?_⟩
        · rw [F13, F14]; simp (disch := omega) only [va_up_ne, va_up_self]; omega
        · rw [F13, Fne 6 (by decide) (by decide), ← hc3]; simp (disch := omega) only [va_up_ne, va_up_self, prX_ne]; exact p1
        · rw [Fne 20 (by decide) (by decide), (hZ _ (Nat.le_refl _)).2.1, ← hc3]; simp (disch := omega) only [va_up_ne, va_up_self, prX_ne]
        · rw [Fne 18 (by decide) (by decide), (hZ _ (Nat.le_refl _)).1, ← hc3]; simp (disch := omega) only [va_up_ne, va_up_self, prX_ne]
        · rw [Fne 18 (by decide) (by decide), (hZ _ (Nat.le_refl _)).1]; omega
        · rw [Fne 18 (by decide) (by decide), (hZ _ (Nat.le_refl _)).1] at hj2; omega
        · rw [Fne 18 (by decide) (by decide), (hZ _ (Nat.le_refl _)).1] at h3; omega
        · rw [Fne 21 (by decide) (by decide), (hZ _ (Nat.le_refl _)).2.2 j hj, ← hc3]; simp (disch := omega) only [va_up_ne, va_up_self, prX_ne]
        · by_cases ej : j = 4
          · subst ej
            have e15 : slipsK F (i 10) 4 = ((_root_.Jvm.Pilot.CInkHallLaw_law_r6871_be9061.b2 (decide (bandS f u.toNat < bandP f u.toNat)) : Nat) : Int) := by
              show ((F 15 (i 10) : Nat) : Int) = _
              rw [F15, va_up_self]
            rw [e15, ← hc3]
            simp (disch := omega) only [va_up_ne, va_up_self, prX_ne]
            unfold wrS
            by_cases eb : bd = x 8 u.toNat
            · rw [if_pos eb, hSL4, decide_eq_false (by omega)]; rfl
            · rw [if_neg eb, va_up_self, decide_eq_true (by omega)]; rfl
          · rw [← hWR.slp (show j < 4 by omega), ← hSL, ← hc3]
            simp (disch := omega) only [va_up_ne, va_up_self, prX_ne]
            unfold wrS
            split
            · rfl
            · rw [va_up_ne _ _ ej]
        · rw [← hWR.few, ← hCM, ← hc3]
          simp (disch := omega) only [va_up_ne, va_up_self, prX_ne]
      · have hs9 : s < i 10 := by omega
        obtain ⟨g1, g2⟩ := hS s hs9
        have hw9 := hR.wr hI hs9
        have h12 := hf 12 s
        have h12 : f 12 s ≤ 8 := h12
        refine ⟨by rw [F13, F14]; simp (disch := omega) only [va_up_ne, va_up_self]; exact g1, SR.same g2 ?_ ?_ ?_ ?_ ?_ ?_ ?_ ?_ ?_ ?_ ?_ ?_ ?_ ?_ ?_ (fun k hk => hw9.same ?_ ?_ ?_ ?_ ?_ ?_ k hk)⟩
        any_goals (rw [hc3]; simp (disch := omega) only [va_up_ne, va_up_self, prX_ne]; done)
        · rw [F13, Fne 6 (by decide) (by decide), va_up_ne _ _ es]
        · rw [Fne 20 (by decide) (by decide)]
        · rw [Fne 18 (by decide) (by decide)]
        · intro j hj; rw [Fne 17 (by decide) (by decide)]
        · intro j hj; rw [Fne 16 (by decide) (by decide)]
        · intro j hj; rw [Fne 21 (by decide) (by decide)]
        · rw [F14, va_up_ne _ _ es]
        · rw [F12, va_up_ne _ _ es]
        · rw [F15, va_up_ne _ _ es]
        · rw [Fne 4 (by decide) (by decide)]
        · intro j hj; rw [Fne 3 (by decide) (by decide)]
        · intro j hj; rw [F11, cpA_off _ (by omega)]
    · intro k hk
      have hk : i 10 + 1 ≤ k := by simpa (disch := omega) only [va_up_ne, va_up_self] using hk
      have h9 := hZ k (by omega)
      show F 18 k = 0 ∧ F 20 k = 0 ∧ ∀ j, j < 4 → F 21 (4 * k + j) = 0
      rw [Fne 18 (by decide) (by decide), Fne 20 (by decide) (by decide), Fne 21 (by decide) (by decide)]
      exact h9
    · have hN1 := (hN.prX (x 9 u.toNat) bd).mono hn
      have hx1 : ∀ k j, prX x (x 9 u.toNat) bd k j ≤ xMax (n + 1) k := hN1.2.2.2.2.2
      have x1e : prX x (x 9 u.toNat) bd 1 = x 1 := prX_ne (by decide) (by decide)
      refine (((((((((((hN1.up 0 (fun j => ?_)).up 1 (fun j => ?_)).up 10 (fun j => ?_)).up 11 (fun j => ?_)).up 12 (fun j => ?_)).up 13 (fun j => ?_)).up _ (fun j => ?_)).up _ (fun j => ?_)).up _ (fun j => ?_)).up _ (fun j => ?_)).up _ (fun j => ?_)).cnt ?_ ?_ ?_ ?_
      · exact up_le (b := 58) (fun j9 => hx1 0 j9) h58 j
      · exact up_le (b := 58) (fun j9 => hx1 1 j9) (by omega) j
      · simp (disch := omega) only [va_up_ne, va_up_self, prX_ne]
        exact up_le (b := 3) (fun j9 => hx 10 j9) (hx 7 _) j
      · simp (disch := omega) only [va_up_ne, va_up_self, prX_ne]
        exact up_le (b := 1) (fun j9 => hx 11 j9) (Nat.zero_le _) j
      · simp (disch := omega) only [va_up_ne, va_up_self, prX_ne]
        exact up_le (b := 6) (fun j9 => hx 12 j9) r2 j
      · simp (disch := omega) only [va_up_ne, va_up_self, prX_ne]
        exact up_le (b := 3) (fun j9 => hx 13 j9) (Nat.zero_le _) j
      · rw [e0]; exact Nat.zero_le _
      · rw [e1]; exact Nat.zero_le _
      · rw [e2]; exact hW8 j
      · rw [e3]; exact Nat.zero_le _
      · rw [e4]; exact r1 j
      all_goals simp (disch := omega) only [va_up_ne, va_up_self]
      all_goals first | omega | exact hN.2.2.1 | exact hN.2.2.2.1
    · show MI (n + 1) (va_up (va_up i 1 0) 10 (i 10 + 1)) F
      have hu5 : u.toNat ≤ 19 := by have := hI.2.2.2.1; omega
      have hw9 : w.toNat ≤ 9 := by have := hI.2.2.1; omega
      have hb1 := b2_le (decide (bandS f u.toNat < bandP f u.toNat))
      have b9 : ∀ j, f 9 j ≤ 50 * n := fun j => hf 9 j
      rw [hF]
      refine (((((((hI.mono hn).row 9 _ (fun j => ?_)).row 11 _ (fun j => ?_)).row 12 _ (fun j => ?_)).row 13 _ (fun j => ?_)).row 14 _ (fun j => ?_)).row 15 _ (fun j => ?_)).cnt ?_ ?_ ?_ ?_
      · exact up_le (g := f 9) (b := 50 * (n + 1)) (fun j9 => Nat.le_trans (b9 j9) (by omega)) (Nat.le_trans (Nat.sub_le _ _) (Nat.le_trans (b9 _) (by omega))) j
      · exact cpA_le (b := 88) (fun j9 => hf 11 j9) (fun j9 => hf 0 j9) _ j
      · exact up_le (g := f 12) (b := 8) (fun j9 => hf 12 j9) hI.2.1 j
      · exact up_le (g := f 13) (b := 19) (fun j9 => hf 13 j9) hu5 j
      · exact up_le (g := f 14) (b := 9) (fun j9 => hf 14 j9) hw9 j
      · exact up_le (g := f 15) (b := 1) (fun j9 => hf 15 j9) hb1 j
      all_goals simp (disch := omega) only [va_up_ne, va_up_self]
      all_goals first | omega | exact hI.2.2.1 | exact hI.2.2.2.1
  · obtain ⟨b1, b2, b3, b4⟩ := hband h.1.1
    exact EXC.of ((if_neg (by omega)).trans (if_pos (by omega)))
end PX8
