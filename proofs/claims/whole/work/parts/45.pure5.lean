/-! the class's numbers and the reference's, side by side -/
def SR (x f : Nat → Nat → Nat) (s : Nat) : Prop :=
  x 10 s = f 6 (f 13 s) ∧ x 11 s = f 20 s ∧ x 13 s = f 18 s ∧ f 18 s ≤ 3 ∧
  (∀ j, j < 3 → j < f 18 s → x (1000 + 8 * s) j = f 17 (3 * s + j) ∧ x (1001 + 8 * s) j = f 16 (3 * s + j)) ∧
  (f 18 s = 3 → (f 16 (3 * s + 1) : Int) + 3 < f 16 (3 * s) ∨ (f 16 (3 * s) : Int) + 3 < f 16 (3 * s + 1)) ∧
  (∀ j, j < 4 → x (1003 + 8 * s) j = f 21 (4 * s + j)) ∧
  (∀ j, j < 5 → (x (1002 + 8 * s) j : Int) = slipsK f s j) ∧
  (fewL (x (1004 + 8 * s)) (x 12 s) : Int) = slipsK f s 3
def LR (x f : Nat → Nat → Nat) (l : Nat) : Prop :=
  x 6 l = f 4 l ∧ f 4 l ≤ 6 ∧ (∀ k, k < 6 → k < f 4 l → x (400 + l) k = f 3 (6 * l + k)) ∧ ∀ a b, a < b → b < 6 → b < f 4 l → oneLine (f 3 (6 * l + a)) (f 3 (6 * l + b)) = false
def REL (c : Nat → Nat) (x : Nat → Nat → Nat) (i : Nat → Nat) (f : Nat → Nat → Nat) : Prop :=
  (c 0 = i 1 ∧ c 1 = i 2 ∧ c 2 = i 5 ∧ c 3 = i 10) ∧ (x 1 6 = c 1 ∧ x 1 8 = c 2 ∧ x 1 10 = c 3) ∧
  (∀ k, k < i 1 → x 2 k = f 0 k) ∧ (∀ l, l < i 2 → LR x f l) ∧ (∀ b, b < 3 → x 3 b = f 9 (3 + b) ∧ x 4 b = f 9 b) ∧ (∀ e, e < 6 → x 5 e = f 19 e) ∧
  (∀ p, p < i 5 → x 7 p = f 6 p ∧ x 8 p = bandP f p ∧ x 9 p = f 8 p) ∧ (∀ s, s < i 10 → (f 14 s < i 2 ∧ f 13 s < i 5) ∧ SR x f s) ∧ ∀ s, i 10 ≤ s → f 18 s = 0 ∧ f 20 s = 0 ∧ ∀ j, j < 4 → f 21 (4 * s + j) = 0
/-- what a call that returns leaves -/
def OUT (o : mO) (n : Nat) (v : Int) (c' : Nat → Nat) (x' : Nat → Nat → Nat) : Prop := o.1 = 0 ∧ o.2.1 = v ∧ REL c' x' o.2.2.1 o.2.2.2 ∧ NB (n + 1) c' x' ∧ MI (n + 1) o.2.2.1 o.2.2.2
/-- .. and one that throws -/
def EXC (o : mO) (k : Nat) (i : Nat → Nat) (f : Nat → Nat → Nat) : Prop := o.1 = k ∧ o.2.2.1 = i ∧ o.2.2.2 = f
theorem NB.mono {n : Nat} {c : Nat → Nat} {x : Nat → Nat → Nat} (h : NB n c x) (hn : n + 1 ≤ 512) : NB (n + 1) c x := by
  refine ⟨hn, h.2.1, h.2.2.1, h.2.2.2.1, h.2.2.2.2.1, fun k j => Nat.le_trans (h.2.2.2.2.2 k j) ?_⟩
  unfold xMax
  split
  · exact Nat.le_refl _
  · split
    · exact Nat.le_refl _
    · split <;> omega
theorem MI.mono {n : Nat} {i : Nat → Nat} {f : Nat → Nat → Nat} (h : MI n i f) (hn : n + 1 ≤ 512) : MI (n + 1) i f := by
  refine ⟨hn, h.2.1, h.2.2.1, h.2.2.2.1, h.2.2.2.2.1, fun k j => Nat.le_trans (h.2.2.2.2.2 k j) ?_⟩
  unfold mMax
  split <;> omega
section PR
variable {c : Nat → Nat} {x : Nat → Nat → Nat} {i : Nat → Nat} {f : Nat → Nat → Nat} {n : Nat}
theorem REL.wr (hR : REL c x i f) (hI : MI n i f) {s : Nat} (hs : s < i 10) : WR f s (fun j => f 3 (6 * f 14 s + j)) (f 4 (f 14 s)) (fun k => f 11 (8 * s + k)) (f 12 s) := by
  obtain ⟨hc, hm, hp, hL, hb, hE, hP, hS, hZ⟩ := hR
  obtain ⟨⟨h14, h13⟩, hs⟩ := hS s hs
  obtain ⟨l1, l2, l3, l4⟩ := hL _ h14
  exact ⟨rfl, rfl, l2, fun j hj => rfl, fun j hj => rfl, fun j => hI.2.2.2.2.2 3 _, fun j => hI.2.2.2.2.2 11 _, fun a b hab hb => l4 a b hab (by omega) hb⟩
/-- slips stay where the rows that they stand on stay -/
theorem WR.same {gm gd : Nat → Nat} {nm nd : Nat} {f' : Nat → Nat → Nat} {s : Nat} (h : WR f s gm nm gd nd) (h14 : f' 14 s = f 14 s) (h12 : f' 12 s = f 12 s) (h15 : f' 15 s = f 15 s) (h4 : f' 4 (f 14 s) = f 4 (f 14 s)) (h3 : ∀ j, j < nm → f' 3 (6 * f 14 s + j) = f 3 (6 * f 14 s + j)) (h11 : ∀ k, k < nd → f' 11 (8 * s + k) = f 11 (8 * s + k)) (k : Nat) (hk : k < 5) : slipsK f' s k = slipsK f s k := by
  have h' : WR f' s gm nm gd nd := ⟨by rw [h14, h4]; exact h.hnm, by rw [h12]; exact h.hnd, h.hm6, fun j hj => by rw [h14, h3 j hj]; exact h.hgm j hj, fun j hj => by rw [h11 j hj]; exact h.hgd j hj, h.bgm, h.bgd, h.hdis⟩
  by_cases e : k = 4
  · subst e
    unfold slipsK
    simp only [if_neg (show ¬ (4 : Nat) = 0 by decide), if_neg (show ¬ (4 : Nat) = 1 by decide), if_neg (show ¬ (4 : Nat) = 2 by decide), if_neg (show ¬ (4 : Nat) = 3 by decide), h15]
  · rw [← h'.slp (by omega), h.slp (by omega)]
theorem REL.sl {f' : Nat → Nat → Nat} (hR : REL c x i f) (hI : MI n i f) {s : Nat} (hs : s < i 10) (h14 : f' 14 = f 14) (h12 : f' 12 = f 12) (h15 : f' 15 = f 15) (h4 : f' 4 = f 4) (h3 : f' 3 = f 3) (h11 : f' 11 = f 11) (k : Nat) (hk : k < 5) : slipsK f' s k = slipsK f s k :=
  (hR.wr hI hs).same (by rw [h14]) (by rw [h12]) (by rw [h15]) (by rw [h4]) (fun j _ => by rw [h3]) (fun j _ => by rw [h11]) k hk
/-- a script whose rows are as they were -/
theorem SR.same {x' f' : Nat → Nat → Nat} {s : Nat} (h : SR x f s) (x10 : x' 10 s = x 10 s) (x11 : x' 11 s = x 11 s) (x12 : x' 12 s = x 12 s) (x13 : x' 13 s = x 13 s) (xa : x' (1000 + 8 * s) = x (1000 + 8 * s)) (xb : x' (1001 + 8 * s) = x (1001 + 8 * s)) (xc : x' (1002 + 8 * s) = x (1002 + 8 * s)) (xd : x' (1003 + 8 * s) = x (1003 + 8 * s)) (xe : x' (1004 + 8 * s) = x (1004 + 8 * s))
    (f6 : f' 6 (f' 13 s) = f 6 (f 13 s)) (f20 : f' 20 s = f 20 s) (f18 : f' 18 s = f 18 s) (f17 : ∀ j, j < 3 → f' 17 (3 * s + j) = f 17 (3 * s + j)) (f16 : ∀ j, j < 3 → f' 16 (3 * s + j) = f 16 (3 * s + j)) (f21 : ∀ j, j < 4 → f' 21 (4 * s + j) = f 21 (4 * s + j)) (fs : ∀ k, k < 5 → slipsK f' s k = slipsK f s k) : SR x' f' s := by
  obtain ⟨a1, a2, a3, a4, a5, a6, a7, a8, a9⟩ := h
  have e0 := f16 0 (by decide)
  have e1 := f16 1 (by decide)
  rw [Nat.add_zero] at e0
  refine ⟨by rw [x10, f6]; exact a1, by rw [x11, f20]; exact a2, by rw [x13, f18]; exact a3, by rw [f18]; exact a4, fun j hj hj2 => ?_, fun h3 => ?_, fun j hj => ?_, fun j hj => ?_, ?_⟩
  · rw [f18] at hj2
    rw [xa, xb, f17 j hj, f16 j hj]
    exact a5 j hj hj2
  · rw [f18] at h3
    rw [e0, e1]
    exact a6 h3
  · rw [xd, f21 j hj]
    exact a7 j hj
  · rw [xc, fs j hj]
    exact a8 j hj
  · rw [xe, x12, fs 3 (by decide)]
    exact a9
theorem SR.lack {s : Nat} (h : SR x f s) : lackC (x (1001 + 8 * s)) (x 13 s) = (lackS f s : Int) := by
  obtain ⟨a1, a2, a3, a4, a5, a6, a7, a8, a9⟩ := h
  refine lackC_S a3 (by rw [a3]; exact a4) (fun j hj => (a5 j (by omega) (by omega)).2) (fun h3 => ?_)
  have := a6 (by omega)
  rw [(a5 0 (by omega) (by omega)).2, (a5 1 (by omega) (by omega)).2]
  exact this
theorem SR.gr {s : Nat} (h : SR x f s) : gradeC (x (1001 + 8 * s)) (x 13 s) = gradeS f s := by
  obtain ⟨a1, a2, a3, a4, a5, a6, a7, a8, a9⟩ := h
  refine gradeC_S a3 (by rw [a3]; exact a4) (fun j hj => (a5 j (by omega) (by omega)).2) (fun h3 => ?_)
  have := a6 (by omega)
  rw [(a5 0 (by omega) (by omega)).2, (a5 1 (by omega) (by omega)).2]
  exact this
theorem SR.wo {s : Nat} (h : SR x f s) : wC x s = worthS f s := by
  have hg := h.gr
  obtain ⟨a1, a2, a3, a4, a5, a6, a7, a8, a9⟩ := h
  exact worthC_S hg a2 a7 a8
theorem wC_bd9 (hN : NB n c x) (s : Nat) : -9999 ≤ wC x s := by
  have hx := hN.2.2.2.2.2
  exact (wC_bd (x := x) (s := s) (fun j => Nat.le_trans (hx _ j) (Nat.le_of_eq (xm_1 n s))) (fun j => Nat.le_trans (hx _ j) (Nat.le_of_eq (xm_3 n s))) (fun j => Nat.le_trans (hx _ j) (Nat.le_of_eq (xm_2 n s)))).1
theorem REL.pl (hR : REL c x i f) (hN : NB n c x) {s : Nat} (hs : s < i 10) : plC x (i 10) (wC x s) s = placeS f (i 10) s :=
  plC_S hs (wC_bd9 hN s) (fun k hk => (hR.2.2.2.2.2.2.2.1 k hk).2.wo)
/-- calls that only read -/
theorem P_read (hR : REL c x i f) (hN : NB n c x) (hI : MI n i f) (hn : n + 1 ≤ 512) {o : mO} {v : Int} (ho : o = (0, v, i, f)) : OUT o n v c x := by
  subst ho
  exact ⟨rfl, rfl, hR, hN.mono hn, hI.mono hn⟩
theorem P_exc {o : mO} {k : Nat} (ho : o = (k, 0, i, f)) : EXC o k i f := by
  subst ho
  exact ⟨rfl, rfl, rfl⟩
theorem P_sheets (hR : REL c x i f) (hN : NB n c x) (hI : MI n i f) (hn : n + 1 ≤ 512) (u : Int) (b : Bool) : (0 ≤ u ∧ u < 3 → OUT (oSheets u b i f) n (cntC (x 3) (x 4) (b2 b) u.toNat : Nat) c x) ∧ (¬ (0 ≤ u ∧ u < 3) → EXC (oSheets u b i f) 1 i f) := by
  refine ⟨fun h => P_read hR hN hI hn ?_, fun h => P_exc (if_neg (by omega))⟩
  have hb := hR.2.2.2.2.1 u.toNat (by omega)
  refine (if_pos (by omega)).trans ?_
  unfold cntC stackN
  rw [hb.1, hb.2]
  split <;> rfl
theorem P_strokeOf (hR : REL c x i f) (hN : NB n c x) (hI : MI n i f) (hn : n + 1 ≤ 512) (u w : Int) : ((0 ≤ u ∧ u < c 1) ∧ 0 ≤ w → OUT (oStrokeOf u w i f) n (if 0 ≤ w ∧ w < (x 6 u.toNat : Int) then (x (400 + u.toNat) w.toNat : Int) else -1) c x) ∧ (¬ ((0 ≤ u ∧ u < c 1) ∧ 0 ≤ w) → EXC (oStrokeOf u w i f) 1 i f) := by
  have hc := hR.1.2.1
  refine ⟨fun h => P_read hR hN hI hn ?_, fun h => P_exc (if_neg (by omega))⟩
  obtain ⟨l1, l2, l3, l4⟩ := hR.2.2.2.1 u.toNat (by omega)
  refine (if_pos (by omega)).trans ?_
  rw [l1]
  by_cases h2 : w < (f 4 u.toNat : Int)
  · rw [if_pos h2, if_pos (by omega), l3 _ (by omega) (by omega)]
  · rw [if_neg h2, if_neg (by omega)]
theorem P_slips (hR : REL c x i f) (hN : NB n c x) (hI : MI n i f) (hn : n + 1 ≤ 512) (u w : Int) : ((0 ≤ u ∧ u < c 3) ∧ 0 ≤ w ∧ w ≤ 5 → OUT (oSlips u w i f) n ((if w = 5 then sumA (x (1002 + 8 * u.toNat)) 5 else x (1002 + 8 * u.toNat) w.toNat : Nat) : Int) c x) ∧ (¬ (0 ≤ u ∧ u < c 3) → EXC (oSlips u w i f) 1 i f) ∧ ((0 ≤ u ∧ u < c 3) ∧ ¬ (0 ≤ w ∧ w ≤ 5) → EXC (oSlips u w i f) 2 i f) := by
  have hc := hR.1.2.2.2
  refine ⟨fun h => P_read hR hN hI hn ?_, fun h => P_exc (if_pos (by omega)), fun h => P_exc ((if_neg (by omega)).trans (if_pos (by omega)))⟩
  obtain ⟨-, a1, a2, a3, a4, a5, a6, a7, a8, a9⟩ := hR.2.2.2.2.2.2.2.1 u.toNat (by omega)
  refine (if_neg (by omega)).trans ((if_neg (by omega)).trans ?_)
  by_cases h2 : w = 5
  · rw [if_pos h2, if_pos (by omega), sumA_slips 5 a8]
    rfl
  · rw [if_neg h2, if_neg (by omega), a8 _ (by omega)]
theorem P_order (hR : REL c x i f) (hN : NB n c x) (hI : MI n i f) (hn : n + 1 ≤ 512) (u : Int) : ((0 ≤ u ∧ u < c 3) → OUT (oOrder u i f) n (fewL (x (1004 + 8 * u.toNat)) (x 12 u.toNat) : Nat) c x) ∧ (¬ (0 ≤ u ∧ u < c 3) → EXC (oOrder u i f) 1 i f) := by
  have hc := hR.1.2.2.2
  refine ⟨fun h => P_read hR hN hI hn ?_, fun h => P_exc (if_neg (by omega))⟩
  obtain ⟨-, a1, a2, a3, a4, a5, a6, a7, a8, a9⟩ := hR.2.2.2.2.2.2.2.1 u.toNat (by omega)
  refine (if_pos (by omega)).trans ?_
  rw [a9]
theorem P_grade (hR : REL c x i f) (hN : NB n c x) (hI : MI n i f) (hn : n + 1 ≤ 512) (u : Int) : ((0 ≤ u ∧ u < c 3) → OUT (oGrade u i f) n (gradeC (x (1001 + 8 * u.toNat)) (x 13 u.toNat)) c x) ∧ (¬ (0 ≤ u ∧ u < c 3) → EXC (oGrade u i f) 1 i f) := by
  have hc := hR.1.2.2.2
  refine ⟨fun h => P_read hR hN hI hn ?_, fun h => P_exc (if_neg (by omega))⟩
  refine (if_pos (by omega)).trans ?_
  rw [(hR.2.2.2.2.2.2.2.1 u.toNat (by omega)).2.gr]
theorem P_lacks (hR : REL c x i f) (hN : NB n c x) (hI : MI n i f) (hn : n + 1 ≤ 512) (u : Int) : ((0 ≤ u ∧ u < c 3) → OUT (oLacks u i f) n (lackC (x (1001 + 8 * u.toNat)) (x 13 u.toNat)) c x) ∧ (¬ (0 ≤ u ∧ u < c 3) → EXC (oLacks u i f) 1 i f) := by
  have hc := hR.1.2.2.2
  refine ⟨fun h => P_read hR hN hI hn ?_, fun h => P_exc (if_neg (by omega))⟩
  refine (if_pos (by omega)).trans ?_
  rw [(hR.2.2.2.2.2.2.2.1 u.toNat (by omega)).2.lack]
theorem P_worth (hR : REL c x i f) (hN : NB n c x) (hI : MI n i f) (hn : n + 1 ≤ 512) (u : Int) : ((0 ≤ u ∧ u < c 3) → OUT (oWorth u i f) n (wC x u.toNat) c x) ∧ (¬ (0 ≤ u ∧ u < c 3) → EXC (oWorth u i f) 1 i f) := by
  have hc := hR.1.2.2.2
  refine ⟨fun h => P_read hR hN hI hn ?_, fun h => P_exc (if_neg (by omega))⟩
  refine (if_pos (by omega)).trans ?_
  rw [(hR.2.2.2.2.2.2.2.1 u.toNat (by omega)).2.wo]
theorem P_place (hR : REL c x i f) (hN : NB n c x) (hI : MI n i f) (hn : n + 1 ≤ 512) (u : Int) : ((0 ≤ u ∧ u < c 3) → OUT (oPlace u i f) n (plC x (c 3) (wC x u.toNat) u.toNat) c x) ∧ (¬ (0 ≤ u ∧ u < c 3) → EXC (oPlace u i f) 1 i f) := by
  have hc := hR.1.2.2.2
  refine ⟨fun h => P_read hR hN hI hn ?_, fun h => P_exc (if_neg (by omega))⟩
  refine (if_pos (by omega)).trans ?_
  rw [hc, hR.pl hN (by omega)]
theorem P_at (hR : REL c x i f) (hN : NB n c x) (hI : MI n i f) (hn : n + 1 ≤ 512) (u : Int) : (1 ≤ u → OUT (oAt u i f) n (atC x (c 3) u (c 3)) c x) ∧ (¬ 1 ≤ u → EXC (oAt u i f) 1 i f) := by
  have hc := hR.1.2.2.2
  refine ⟨fun h => P_read hR hN hI hn ?_, fun h => P_exc (if_neg (by omega))⟩
  refine (if_pos (by omega)).trans ?_
  rw [hc, atC_S h (fun k hk => hR.pl hN hk) (i 10) (Nat.le_refl _)]
end PR
