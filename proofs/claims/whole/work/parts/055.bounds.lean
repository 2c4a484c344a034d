/-! ### how large the answers are -/
theorem stackN_le (b q : Nat) : stackN b q ≤ 3 + b := by unfold stackN; split <;> omega
theorem sOnA_bd (f : Nat → Nat → Nat) (s k : Nat) : ∀ n : Nat, -1 ≤ sOnA f s k n ∧ sOnA f s k n < (n : Int)
  | 0 => by simp [sOnA]
  | n + 1 => by
    have h := sOnA_bd f s k n
    unfold sOnA
    split <;> omega
theorem sOn_bd {nc : Nat} {i : Nat → Nat} {f : Nat → Nat → Nat} (hI : MI nc i f) (s k : Nat) : -1 ≤ sOn f s k ∧ sOn f s k < 6 := by
  have h := sOnA_bd f s k (f 4 (f 14 s))
  have h2 : f 4 (f 14 s) ≤ 6 := hI.2.2.2.2.2 4 (f 14 s)
  unfold sOn
  omega
theorem countA_le (f : Nat → Nat → Nat) (s : Nat) : ∀ n : Nat, countA f s n ≤ n
  | 0 => Nat.le_refl _
  | n + 1 => by
    have h := countA_le f s n
    have h2 := b2_le (cnts f s n)
    unfold countA
    omega
theorem turnA_le (f : Nat → Nat → Nat) (s : Nat) : ∀ n : Nat, turnA f s n ≤ n
  | 0 => Nat.le_refl _
  | n + 1 => by
    have h := turnA_le f s n
    have h2 := b2_le (turnsAt f s n)
    unfold turnA
    omega
theorem lonI_le (f : Nat → Nat → Nat) (s : Nat) (g : Nat → Nat) (k : Nat) : ∀ n : Nat, (∀ j, j < n → g j ≤ j + 1) → lonI f s g k n ≤ n + 1
  | 0, _ => Nat.le_refl _
  | n + 1, hg => by
    have h := lonI_le f s g k n (fun j hj => hg j (by omega))
    have h2 := hg n (by omega)
    unfold lonI
    split <;> omega
theorem lonG_le (f : Nat → Nat → Nat) (s : Nat) : ∀ n j : Nat, lonG f s n j ≤ j + 1
  | 0, j => Nat.zero_le _
  | n + 1, j => by
    have h := lonG_le f s n
    unfold lonG va_up
    split
    · next e =>
      subst e
      unfold lonV
      split
      · exact lonI_le f s _ j j (fun j hj => h j)
      · omega
    · exact h j
theorem lon_le (f : Nat → Nat → Nat) (s k : Nat) : lon f s k ≤ k + 1 := lonG_le f s (k + 1) k
theorem lonG_old (f : Nat → Nat → Nat) (s : Nat) : ∀ n j : Nat, j < n → lonG f s n j = lon f s j
  | 0, j, h => absurd h (Nat.not_lt_zero j)
  | n + 1, j, h => by
    by_cases e : j = n
    · subst e; rfl
    · rw [← lonG_old f s n j (by omega)]
      show va_up _ n _ j = _
      exact va_up_ne _ _ e
theorem lonI_cong {f : Nat → Nat → Nat} {s : Nat} {g g' : Nat → Nat} {k : Nat} : ∀ n : Nat, (∀ j, j < n → g j = g' j) → lonI f s g k n = lonI f s g' k n
  | 0, _ => rfl
  | n + 1, h => by
    unfold lonI
    rw [lonI_cong n (fun j hj => h j (by omega)), h n (by omega)]
/-- what is found for k, over any row that holds the earlier ones -/
theorem lon_eq {f : Nat → Nat → Nat} {s k : Nat} {g : Nat → Nat} (h : ∀ j, j < k → g j = lon f s j) : lon f s k = if cnts f s k = true then lonI f s g k k else 0 := by
  show va_up (lonG f s k) k (lonV f s (lonG f s k) k) k = _
  rw [va_up_self]
  unfold lonV
  rw [lonI_cong (g' := g) k (fun j hj => by rw [lonG_old f s k j hj, h j hj])]
theorem inOrdA_le (f : Nat → Nat → Nat) (s : Nat) : ∀ n : Nat, inOrdA f s n ≤ n
  | 0 => Nat.le_refl _
  | n + 1 => by
    have h := inOrdA_le f s n
    have h2 := lon_le f s n
    unfold inOrdA
    split <;> omega
theorem count_le {nc : Nat} {i : Nat → Nat} {f : Nat → Nat → Nat} (hI : MI nc i f) (s : Nat) : count f s ≤ 8 := by
  have h := countA_le f s (f 12 s)
  have h2 : f 12 s ≤ 8 := hI.2.2.2.2.2 12 s
  unfold count
  omega
theorem turn_le {nc : Nat} {i : Nat → Nat} {f : Nat → Nat → Nat} (hI : MI nc i f) (s : Nat) : turn f s ≤ 8 := by
  have h := turnA_le f s (f 12 s)
  have h2 : f 12 s ≤ 8 := hI.2.2.2.2.2 12 s
  unfold turn
  omega
theorem inOrd_le {nc : Nat} {i : Nat → Nat} {f : Nat → Nat → Nat} (hI : MI nc i f) (s : Nat) : inOrd f s ≤ 8 := by
  have h := inOrdA_le f s (f 12 s)
  have h2 : f 12 s ≤ 8 := hI.2.2.2.2.2 12 s
  unfold inOrd
  omega
theorem slipsK_bd {nc : Nat} {i : Nat → Nat} {f : Nat → Nat → Nat} (hI : MI nc i f) (s k : Nat) : -8 ≤ slipsK f s k ∧ slipsK f s k ≤ 8 := by
  have h1 := count_le hI s
  have h2 := turn_le hI s
  have h3 := inOrd_le hI s
  have h4 : f 4 (f 14 s) ≤ 6 := hI.2.2.2.2.2 4 (f 14 s)
  have h5 : f 12 s ≤ 8 := hI.2.2.2.2.2 12 s
  have h6 : f 15 s ≤ 1 := hI.2.2.2.2.2 15 s
  unfold slipsK
  repeat' split
  all_goals omega
theorem allSlipsA_bd {nc : Nat} {i : Nat → Nat} {f : Nat → Nat → Nat} (hI : MI nc i f) (s : Nat) : ∀ n : Nat, -8 * (n : Int) ≤ allSlipsA f s n ∧ allSlipsA f s n ≤ 8 * (n : Int)
  | 0 => by simp [allSlipsA]
  | n + 1 => by
    have h := allSlipsA_bd hI s n
    have h2 := slipsK_bd hI s n
    unfold allSlipsA
    omega
theorem allSlips_bd {nc : Nat} {i : Nat → Nat} {f : Nat → Nat → Nat} (hI : MI nc i f) (s : Nat) : -40 ≤ allSlips f s ∧ allSlips f s ≤ 40 := by
  have h := allSlipsA_bd hI s 5
  unfold allSlips
  omega
theorem lackS_le (f : Nat → Nat → Nat) (s : Nat) : lackS f s ≤ 2 := by
  unfold lackS
  repeat' split
  all_goals omega
theorem gradeS_bd {nc : Nat} {i : Nat → Nat} {f : Nat → Nat → Nat} (hI : MI nc i f) (s : Nat) : -1 ≤ gradeS f s ∧ gradeS f s ≤ 20 := by
  have h0 : f 16 (3 * s) ≤ 20 := hI.2.2.2.2.2 16 (3 * s)
  have h1 : f 16 (3 * s + 1) ≤ 20 := hI.2.2.2.2.2 16 (3 * s + 1)
  have h2 : f 16 (3 * s + 2) ≤ 20 := hI.2.2.2.2.2 16 (3 * s + 2)
  unfold gradeS
  repeat' split
  all_goals omega
theorem ptsA_le {nc : Nat} {i : Nat → Nat} {f : Nat → Nat → Nat} (hI : MI nc i f) (s : Nat) : ∀ n : Nat, ptsA f s n ≤ 5 * n
  | 0 => Nat.le_refl _
  | n + 1 => by
    have h := ptsA_le hI s n
    have h2 : f 21 (4 * s + n) ≤ 5 := hI.2.2.2.2.2 21 (4 * s + n)
    unfold ptsA
    omega
theorem pts_le {nc : Nat} {i : Nat → Nat} {f : Nat → Nat → Nat} (hI : MI nc i f) (s : Nat) : pts f s ≤ 20 := ptsA_le hI s 4
theorem worthS_bd {nc : Nat} {i : Nat → Nat} {f : Nat → Nat → Nat} (hI : MI nc i f) (s : Nat) : -9999 ≤ worthS f s ∧ worthS f s ≤ 1000 := by
  have h1 := gradeS_bd hI s
  have h2 := pts_le hI s
  have h3 := allSlips_bd hI s
  unfold worthS
  split <;> omega
theorem placeA_le (f : Nat → Nat → Nat) (w : Int) (s : Nat) : ∀ n : Nat, placeA f w s n ≤ n + 1
  | 0 => Nat.le_refl _
  | n + 1 => by
    have h := placeA_le f w s n
    have h2 := b2_le (aheadS f w s n)
    unfold placeA
    omega
theorem placeS_bd (f : Nat → Nat → Nat) (n s : Nat) : -1 ≤ placeS f n s ∧ placeS f n s ≤ (n : Int) + 1 := by
  have h := placeA_le f (worthS f s) s n
  unfold placeS
  split <;> omega
theorem atA_bd (f : Nat → Nat → Nat) (n : Nat) (p : Int) : ∀ k : Nat, -1 ≤ atA f n p k ∧ atA f n p k < (k : Int)
  | 0 => by simp [atA]
  | k + 1 => by
    have h := atA_bd f n p k
    unfold atA
    split <;> omega
theorem dropA_le (f : Nat → Nat → Nat) (e s : Nat) : ∀ n : Nat, (dropA f e s n).1 ≤ n
  | 0 => Nat.le_refl _
  | n + 1 => by
    have h := dropA_le f e s n
    unfold dropA
    split
    · omega
    · show (dropA f e s n).1 + 1 ≤ n + 1
      omega
theorem outA_le (f : Nat → Nat → Nat) (e : Nat) : ∀ n : Nat, (outA f e n).1 ≤ n
  | 0 => Nat.le_refl _
  | n + 1 => by
    have h := outA_le f e n
    have h2 := b2_le (decide (gradeS (dropF (outA f e n).2 e n) n ≠ gradeS (outA f e n).2 n))
    show (outA f e n).1 + b2 _ ≤ n + 1
    omega
theorem shownA_le {f : Nat → Nat → Nat} (hf : ∀ x, f 20 x ≤ 1) : ∀ n : Nat, shownA f n ≤ n
  | 0 => Nat.le_refl _
  | n + 1 => by
    have h := shownA_le hf n
    have h2 := hf n
    unfold shownA
    omega
theorem bandA_bd (f : Nat → Nat → Nat) (q : Nat) : ∀ n : Nat, -1 ≤ bandA f q n ∧ bandA f q n < (n : Int)
  | 0 => by simp [bandA]
  | n + 1 => by
    have h := bandA_bd f q n
    unfold bandA
    split <;> omega
theorem bandP_le (f : Nat → Nat → Nat) (p : Nat) : bandP f p ≤ 2 := by
  unfold bandP
  repeat' split
  all_goals omega
theorem bandS_bd (f : Nat → Nat → Nat) (p : Nat) : -1 ≤ bandS f p ∧ bandS f p ≤ (bandP f p : Int) := by
  have h := bandA_bd f (f 8 p) (bandP f p + 1)
  unfold bandS
  omega
/-! ### the numbers stay small under each change of a row -/
theorem MI.row {nc : Nat} {i : Nat → Nat} {f : Nat → Nat → Nat} (hI : MI nc i f) (k : Nat) (g : Nat → Nat) (hg : ∀ x, g x ≤ mMax nc k) : MI nc i (va_up f k g) := by
  refine ⟨hI.1, hI.2.1, hI.2.2.1, hI.2.2.2.1, hI.2.2.2.2.1, fun j x => ?_⟩
  by_cases e : j = k
  · subst e; rw [va_up_self]; exact hg x
  · rw [va_up_ne _ _ e]; exact hI.2.2.2.2.2 j x
theorem up_le {g : Nat → Nat} {b k v : Nat} (hg : ∀ x, g x ≤ b) (hv : v ≤ b) : ∀ x, va_up g k v x ≤ b := fun x => by
  unfold va_up
  split
  · exact hv
  · exact hg x
theorem cpA_le {r g : Nat → Nat} {a b : Nat} (hr : ∀ x, r x ≤ b) (hg : ∀ x, g x ≤ b) : ∀ (n x : Nat), cpA r a g n x ≤ b
  | 0, x => hr x
  | n + 1, x => up_le (cpA_le hr hg n) (hg n) x
theorem dropA_rows {nc : Nat} {i : Nat → Nat} {f : Nat → Nat → Nat} (hI : MI nc i f) (e s : Nat) : ∀ n : Nat, (∀ x, (dropA f e s n).2.1 x ≤ 20) ∧ ∀ x, (dropA f e s n).2.2 x ≤ 5
  | 0 => ⟨fun x => hI.2.2.2.2.2 16 x, fun x => hI.2.2.2.2.2 17 x⟩
  | n + 1 => by
    have h := dropA_rows hI e s n
    unfold dropA
    split
    · exact h
    · exact ⟨up_le h.1 (h.1 _), up_le h.2 (h.2 _)⟩
theorem MI.drop {nc : Nat} {i : Nat → Nat} {f : Nat → Nat → Nat} (hI : MI nc i f) (e s : Nat) : MI nc i (dropF f e s) := by
  have h := dropA_rows hI e s (f 18 s)
  have h2 := dropA_le f e s (f 18 s)
  have h3 : f 18 s ≤ 3 := hI.2.2.2.2.2 18 s
  have h4 : ∀ x, f 18 x ≤ 3 := fun x => hI.2.2.2.2.2 18 x
  exact ((hI.row 16 _ h.1).row 17 _ h.2).row 18 _ (up_le (b := 3) h4 (by omega))
theorem MI.out {nc : Nat} {i : Nat → Nat} {f : Nat → Nat → Nat} (hI : MI nc i f) (e : Nat) : ∀ n : Nat, MI nc i (outA f e n).2
  | 0 => hI
  | n + 1 => (MI.out hI e n).drop e n
/-! ### rows for known conditions; raw ints -/
theorem inB_t {x lo hi : Int} (h : inB x lo hi = true) : lo ≤ x ∧ x ≤ hi := of_decide_eq_true h
theorem inB_f {x lo hi : Int} (h : inB x lo hi = false) : ¬ (lo ≤ x ∧ x ≤ hi) := of_decide_eq_false h
theorem nI_of_toInt {x : Int32} {u : Int} (h : x.toInt = u) (h0 : 0 ≤ u) : x = nI u.toNat := by
  rw [zI_of h, nI_zI]
  congr 1
  omega
theorem i32_rng (x : Int32) : -2147483648 ≤ x.toInt ∧ x.toInt < 2147483648 := by
  have h1 := Int32.le_toInt x
  have h2 := Int32.toInt_lt x
  omega
def mPost (cy : Nat → ClassId) (h : Nat) (ad : Nat → Nat) (o : mO) (r : Int32) (M' : mM) : Prop := r = zI o.2.1 ∧ MW cy M' h ad o.1 o.2.2.1 o.2.2.2
theorem mPost_of {cy : Nat → ClassId} {h : Nat} {ad : Nat → Nat} {o : mO} {r : Int32} {M' : mM} {a : Nat} {b : Int} {i : Nat → Nat} {f : Nat → Nat → Nat} (ho : o = (a, b, i, f)) (hr : r = zI b) (hW : MW cy M' h ad a i f) : mPost cy h ad o r M' := by
  subst ho
  exact ⟨hr, hW⟩
section KN
variable {p : Program} {l : Launch} {e : Env} {R : Room} {s : State} {m : MethodId} {args : Array Value} {below : List Frame} {meth : Method} {c : Code} {H : Heap} {locs : List Loc} {cells slots : Nat} {Q : State → Prop}
variable {cc : ByteArray} {pc : Nat} {ls : Array Slot} {rest : List Value}
theorem k_if_eq_0 (hexec : p.tables.exec = Jvm.exec) (hb : c.code = cc) {off : Int} {tgt : Nat} (hdg : decode cc pc = .ok (.ifCond .eq off, 3)) (ht : (pc : Int) + off = (tgt : Int)) (k : W p l e R s m args below meth c H locs cells slots Q (F0 m tgt ls rest)) : W p l e R s m args below meth c H locs cells slots Q (F0 m pc ls (.int (nI 0) :: rest)) :=
  lv_if_eq hexec hb hdg ht (fun _ => k) (fun h => absurd (show nI 0 = 0 by decide) h)
theorem k_if_eq_1 (hexec : p.tables.exec = Jvm.exec) (hb : c.code = cc) {off : Int} {tgt : Nat} (hdg : decode cc pc = .ok (.ifCond .eq off, 3)) (ht : (pc : Int) + off = (tgt : Int)) (k : W p l e R s m args below meth c H locs cells slots Q (F0 m (pc + 3) ls rest)) : W p l e R s m args below meth c H locs cells slots Q (F0 m pc ls (.int (nI 1) :: rest)) :=
  lv_if_eq hexec hb hdg ht (fun h => absurd h (show ¬ nI 1 = 0 by decide)) (fun _ => k)
theorem k_if_ne_0 (hexec : p.tables.exec = Jvm.exec) (hb : c.code = cc) {off : Int} {tgt : Nat} (hdg : decode cc pc = .ok (.ifCond .ne off, 3)) (ht : (pc : Int) + off = (tgt : Int)) (k : W p l e R s m args below meth c H locs cells slots Q (F0 m (pc + 3) ls rest)) : W p l e R s m args below meth c H locs cells slots Q (F0 m pc ls (.int (nI 0) :: rest)) :=
  lv_if_ne hexec hb hdg ht (fun h => absurd (show nI 0 = 0 by decide) h) (fun _ => k)
theorem k_if_ne_1 (hexec : p.tables.exec = Jvm.exec) (hb : c.code = cc) {off : Int} {tgt : Nat} (hdg : decode cc pc = .ok (.ifCond .ne off, 3)) (ht : (pc : Int) + off = (tgt : Int)) (k : W p l e R s m args below meth c H locs cells slots Q (F0 m tgt ls rest)) : W p l e R s m args below meth c H locs cells slots Q (F0 m pc ls (.int (nI 1) :: rest)) :=
  lv_if_ne hexec hb hdg ht (fun _ => k) (fun h => absurd h (show ¬ nI 1 = 0 by decide))
end KN
theorem zI_nI {z : Int} (h : 0 ≤ z) : zI z = nI z.toNat := by
  rw [nI_zI]
  congr 1
  omega
def lonJ (f : Nat → Nat → Nat) (s : Nat) (g : Nat → Nat) (k n : Nat) : Nat := if cnts f s k = true then lonI f s g k n else 0
theorem lonJ_0 (f : Nat → Nat → Nat) (s : Nat) (g : Nat → Nat) (k : Nat) : lonJ f s g k 0 = b2 (cnts f s k) := by
  unfold lonJ b2 lonI
  rfl
theorem lonJ_pos {f : Nat → Nat → Nat} {s : Nat} {g : Nat → Nat} {k n : Nat} (h : 0 < lonJ f s g k n) : cnts f s k = true := by
  unfold lonJ at h
  split at h
  · assumption
  · omega
theorem lonI_pos (f : Nat → Nat → Nat) (s : Nat) (g : Nat → Nat) (k : Nat) : ∀ n : Nat, 0 < lonI f s g k n
  | 0 => Nat.one_pos
  | n + 1 => by
    have h := lonI_pos f s g k n
    unfold lonI
    split <;> omega
theorem lonJ_zero {f : Nat → Nat → Nat} {s : Nat} {g : Nat → Nat} {k n : Nat} (h : lonJ f s g k n ≤ 0) (j : Nat) : lonJ f s g k j = lonJ f s g k n := by
  have h2 := lonI_pos f s g k n
  unfold lonJ at h ⊢
  split at h
  · omega
  · next e => rw [if_neg e, if_neg e]
theorem lonJ_le (f : Nat → Nat → Nat) (s : Nat) (g : Nat → Nat) (k n : Nat) (hg : ∀ j, j < n → g j ≤ j + 1) : lonJ f s g k n ≤ n + 1 := by
  have h := lonI_le f s g k n hg
  unfold lonJ
  split <;> omega
theorem lonJ_up {f : Nat → Nat → Nat} {s : Nat} {g : Nat → Nat} {k n : Nat} (hc : cnts f s k = true) (h : 0 < g n ∧ sOn f s n < sOn f s k ∧ lonJ f s g k n ≤ g n) : lonJ f s g k (n + 1) = g n + 1 := by
  unfold lonJ at h ⊢
  rw [if_pos hc] at h ⊢
  unfold lonI
  rw [if_pos h]
theorem lonJ_same {f : Nat → Nat → Nat} {s : Nat} {g : Nat → Nat} {k n : Nat} (hc : cnts f s k = true) (h : ¬ (0 < g n ∧ sOn f s n < sOn f s k ∧ lonJ f s g k n ≤ g n)) : lonJ f s g k (n + 1) = lonJ f s g k n := by
  unfold lonJ at h ⊢
  rw [if_pos hc] at h ⊢
  rw [if_pos hc]
  show (if _ then _ else _) = _
  rw [if_neg h]
theorem lonJ_lon {f : Nat → Nat → Nat} {s : Nat} {g : Nat → Nat} {k : Nat} (h : ∀ j, j < k → g j = lon f s j) : lonJ f s g k k = lon f s k := (lon_eq h).symm
theorem bandA_pos {f : Nat → Nat → Nat} {q : Nat} : ∀ n : Nat, 0 ≤ bandA f q n → f 9 (stackN (bandA f q n).toNat q) ≠ 0
  | 0, h => by simp [bandA] at h
  | n + 1, h => by
    unfold bandA at h ⊢
    split at h
    · next e => rw [if_pos e]; exact bandA_pos n h
    · next e => rw [if_neg e, Int.toNat_natCast]; exact e
theorem bandS_pos {f : Nat → Nat → Nat} {p : Nat} (h : 0 ≤ bandS f p) : f 9 (stackN (bandS f p).toNat (f 8 p)) ≠ 0 := bandA_pos _ h
theorem cntsA_ne {f : Nat → Nat → Nat} {s k : Nat} : ∀ n : Nat, cntsA f s k n = true → sOn f s k ≠ -1
  | 0, h => of_decide_eq_true h
  | n + 1, h => cntsA_ne n (Bool.and_eq_true_iff.mp h).1
theorem cnts_ne {f : Nat → Nat → Nat} {s k : Nat} (h : cnts f s k = true) : sOn f s k ≠ -1 := cntsA_ne k h
theorem row_next {g v : Nat → Nat} {j : Nat} (h : ∀ x, x < j → g x = v x) : ∀ x, x < j + 1 → va_up g j (v j) x = v x := fun x hx => by
  by_cases e : x = j
  · rw [e, va_up_self]
  · rw [va_up_ne _ _ e]; exact h x (by omega)
theorem va_up_id {α : Type} (g : Nat → α) (k : Nat) : va_up g k (g k) = g := by
  funext j
  by_cases e : j = k
  · rw [e, va_up_self]
  · rw [va_up_ne _ _ e]
theorem va_up_comm {α : Type} (g : Nat → α) {j k : Nat} (v w : α) (h : j ≠ k) : va_up (va_up g j v) k w = va_up (va_up g k w) j v := by
  funext x
  by_cases e1 : x = j
  · rw [e1, va_up_ne _ _ h, va_up_self, va_up_self]
  · by_cases e2 : x = k
    · rw [e2, va_up_self, va_up_ne _ _ (Ne.symm h), va_up_self]
    · rw [va_up_ne _ _ e2, va_up_ne _ _ e1, va_up_ne _ _ e1, va_up_ne _ _ e2]
def dropM (f : Nat → Nat → Nat) (e s n : Nat) : Nat → Nat → Nat := va_up (va_up f 16 (dropA f e s n).2.1) 17 (dropA f e s n).2.2
theorem dropM_0 (f : Nat → Nat → Nat) (e s : Nat) : dropM f e s 0 = f := by
  show va_up (va_up f 16 (f 16)) 17 (f 17) = f
  rw [va_up_id, va_up_id]
theorem dropA_eq {f : Nat → Nat → Nat} {e s n : Nat} (h : (dropA f e s n).2.2 (3 * s + n) = e) : dropA f e s (n + 1) = dropA f e s n := by
  show (if _ then _ else _) = _
  rw [if_pos h]
theorem dropA_ne {f : Nat → Nat → Nat} {e s n : Nat} (h : (dropA f e s n).2.2 (3 * s + n) ≠ e) : dropA f e s (n + 1) = ((dropA f e s n).1 + 1, va_up (dropA f e s n).2.1 (3 * s + (dropA f e s n).1) ((dropA f e s n).2.1 (3 * s + n)), va_up (dropA f e s n).2.2 (3 * s + (dropA f e s n).1) ((dropA f e s n).2.2 (3 * s + n))) := by
  show (if _ then _ else _) = _
  rw [if_neg h]
theorem dropM_ne {f : Nat → Nat → Nat} {e s n : Nat} (h : (dropA f e s n).2.2 (3 * s + n) ≠ e) : dropM f e s (n + 1) = va_up (va_up (dropM f e s n) 16 (va_up (dropA f e s n).2.1 (3 * s + (dropA f e s n).1) ((dropA f e s n).2.1 (3 * s + n)))) 17 (va_up (dropA f e s n).2.2 (3 * s + (dropA f e s n).1) ((dropA f e s n).2.2 (3 * s + n))) := by
  unfold dropM
  rw [dropA_ne h]
  show va_up (va_up f 16 _) 17 _ = va_up (va_up (va_up (va_up f 16 _) 17 _) 16 _) 17 _
  rw [va_up_comm (va_up f 16 (dropA f e s n).2.1) _ _ (show (17 : Nat) ≠ 16 by decide), bx_uu, bx_uu]
theorem dropM_eq {f : Nat → Nat → Nat} {e s n : Nat} (h : (dropA f e s n).2.2 (3 * s + n) = e) : dropM f e s (n + 1) = dropM f e s n := by
  unfold dropM
  rw [dropA_eq h]
theorem MI.dropM {nc : Nat} {i : Nat → Nat} {f : Nat → Nat → Nat} (hI : MI nc i f) (e s n : Nat) : MI nc i (dropM f e s n) := by
  have h := dropA_rows hI e s n
  exact (hI.row 16 _ h.1).row 17 _ h.2
theorem MW.tt {cy : Nat → ClassId} {M : mM} {h : Nat} {ad : Nat → Nat} {b : Bool} {i : Nat → Nat} {f : Nat → Nat → Nat} (hW : MW cy M h ad (b2 (!b)) i f) (hb : b = true) : MW cy M h ad 0 i f := by subst hb; exact hW
theorem MW.tf {cy : Nat → ClassId} {M : mM} {h : Nat} {ad : Nat → Nat} {b : Bool} {i : Nat → Nat} {f : Nat → Nat → Nat} (hW : MW cy M h ad (b2 (!b)) i f) (hb : b = false) : MW cy M h ad 1 i f := by subst hb; exact hW
theorem lackS_ne {f : Nat → Nat → Nat} {s : Nat} (h : lackS f s ≠ 0) : f 18 s ≤ 2 := by
  unfold lackS at h
  split at h
  · omega
  · split at h <;> omega
theorem mayI_b {f : Nat → Nat → Nat} {b : Bool} {k : Nat} : ∀ n : Nat, mayI f b k n = true → b = true
  | 0, h => h
  | n + 1, h => mayI_b n (Bool.and_eq_true_iff.mp h).1
theorem mayA_b {f : Nat → Nat → Nat} {b : Bool} : ∀ n : Nat, mayA f b n = true → b = true
  | 0, h => h
  | n + 1, h => mayA_b n (mayI_b _ h)
theorem bandA_go {f : Nat → Nat → Nat} {q n : Nat} (h0 : 0 < n) (h : f 9 (stackN (n - 1) q) = 0) : bandA f q n = bandA f q (n - 1) := by
  cases n with
  | zero => exact absurd h0 (Nat.lt_irrefl 0)
  | succ n => exact if_pos h
theorem bandA_stop {f : Nat → Nat → Nat} {q n : Nat} (h0 : 0 < n) (h : f 9 (stackN (n - 1) q) ≠ 0) : bandA f q n = ((n - 1 : Nat) : Int) := by
  cases n with
  | zero => exact absurd h0 (Nat.lt_irrefl 0)
  | succ n => exact if_neg h
theorem bandA_zero {f : Nat → Nat → Nat} {q n : Nat} (h : (n : Int) - 1 < 0) : bandA f q n = (n : Int) - 1 := by
  have e : n = 0 := by omega
  subst e
  rfl
