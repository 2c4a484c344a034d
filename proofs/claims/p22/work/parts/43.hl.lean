/-! ## the class's object as a caller sees it: c its numbers, x its rows (2 on); what its lists hold beside (capacity, changes) is hidden -/
abbrev xIO : String := "java/lang/IndexOutOfBoundsException"
abbrev xIA : String := "java/lang/IllegalArgumentException"
abbrev xIS : String := "java/lang/IllegalStateException"
def low (c : Nat → Nat) (y : Nat → Nat → Nat) : Prop := (∀ j, y 0 j ≤ 58 ∧ y 1 j ≤ 58) ∧ y 1 6 ≤ c 1 ∧ y 1 8 ≤ c 2 ∧ y 1 10 ≤ c 3
def agr (y x : Nat → Nat → Nat) : Prop := ∀ k, 2 ≤ k → y k = x k
def hall (cy : Nat → ClassId) (de : Nat) (M : mM) (a : Nat) (c : Nat → Nat) (x : Nat → Nat → Nat) : Prop := ∃ (B : Nat → Nat) (P : Nat → Option va_E) (E : Nat → Nat → Option Nat) (y : Nat → Nat → Nat), hHolds M B P ∧ SH de cy B P c y E ∧ B 0 = a ∧ low c y ∧ agr y x
section HALL
variable {cy : Nat → ClassId} {de : Nat} {M : mM} {a n : Nat} {c c' : Nat → Nat} {x y : Nat → Nat → Nat}
theorem hHolds.sub {M2 : mM} {B : Nat → Nat} {P : Nat → Option va_E} (h : hHolds M B P) (hs : ∀ q e, M q = some e → M2 q = some e) : hHolds M2 B P := ⟨fun k e hk => hs _ _ (h.1 k e hk), h.2⟩
theorem hall.sub {M2 : mM} (h : hall cy de M a c x) (hs : ∀ q e, M q = some e → M2 q = some e) : hall cy de M2 a c x := by
  obtain ⟨B, P, E, y, hH, hSH, h0, hl, hg⟩ := h
  exact ⟨B, P, E, y, hH.sub hs, hSH, h0, hl, hg⟩
theorem hall.fst (h : hall cy de M a c x) : ∃ fs : List Value, M a = some (.inr (6, fs)) := by
  obtain ⟨B, P, E, y, hH, hSH, h0, hl, hg⟩ := h
  subst h0
  exact ⟨_, hH.1 _ _ hSH.1.1⟩
theorem NB.low (h : NB n c x) (hl : low c y) (hg : agr y x) : NB n c y := ⟨h.1, h.2.1, h.2.2.1, h.2.2.2.1, h.2.2.2.2.1, fun k j => by
  by_cases e0 : k = 0
  · subst e0; exact (hl.1 j).1
  · by_cases e1 : k = 1
    · subst e1; exact (hl.1 j).2
    · rw [hg k (by omega)]; exact h.2.2.2.2.2 k j⟩
theorem agr.up (h : agr y x) (k : Nat) (g : Nat → Nat) : agr (va_up y k g) (va_up x k g) := fun q hq => by
  by_cases e : q = k
  · rw [e, va_up_self, va_up_self]
  · rw [va_up_ne _ _ e, va_up_ne _ _ e]; exact h q hq
theorem agr.lst (h : agr y x) (k cap mo : Nat) : agr (xLst y k cap mo) x := fun q hq => by
  show va_up (va_up y 0 (va_up (y 0) k cap)) 1 (va_up (y 1) k mo) q = x q
  rw [va_up_ne _ _ (by omega), va_up_ne _ _ (by omega)]; exact h q hq
theorem low.up (h : low c y) {k : Nat} (hk : 2 ≤ k) (g : Nat → Nat) : low c (va_up y k g) := by
  unfold low at *
  rw [va_up_ne _ _ (show (0 : Nat) ≠ k by omega), va_up_ne _ _ (show (1 : Nat) ≠ k by omega)]
  exact h
theorem low.mono (h : low c y) (h1 : c 1 ≤ c' 1) (h2 : c 2 ≤ c' 2) (h3 : c 3 ≤ c' 3) : low c' y := ⟨h.1, Nat.le_trans h.2.1 h1, Nat.le_trans h.2.2.1 h2, Nat.le_trans h.2.2.2 h3⟩
theorem low.lst6 (h : low c y) {cap : Nat} (hc : cap ≤ 58) (h58 : c 1 < 58) (h1 : c 1 + 1 ≤ c' 1) (h2 : c 2 ≤ c' 2) (h3 : c 3 ≤ c' 3) : low c' (xLst y 6 cap (y 1 6 + 1)) := by
  obtain ⟨a0, a1, a2, a3⟩ := h
  unfold low
  simp (disch := omega) only [va_up_self, va_up_ne]
  refine ⟨fun j => ⟨up_le (fun q => (a0 q).1) hc j, up_le (fun q => (a0 q).2) (by omega) j⟩, by omega, by omega, by omega⟩
theorem low.lst8 (h : low c y) {cap : Nat} (hc : cap ≤ 58) (h58 : c 2 < 58) (h1 : c 1 ≤ c' 1) (h2 : c 2 + 1 ≤ c' 2) (h3 : c 3 ≤ c' 3) : low c' (xLst y 8 cap (y 1 8 + 1)) := by
  obtain ⟨a0, a1, a2, a3⟩ := h
  unfold low
  simp (disch := omega) only [va_up_self, va_up_ne]
  refine ⟨fun j => ⟨up_le (fun q => (a0 q).1) hc j, up_le (fun q => (a0 q).2) (by omega) j⟩, by omega, by omega, by omega⟩
theorem low.lst10 (h : low c y) {cap : Nat} (hc : cap ≤ 58) (h58 : c 3 < 58) (h1 : c 1 ≤ c' 1) (h2 : c 2 ≤ c' 2) (h3 : c 3 + 1 ≤ c' 3) : low c' (xLst y 10 cap (y 1 10 + 1)) := by
  obtain ⟨a0, a1, a2, a3⟩ := h
  unfold low
  simp (disch := omega) only [va_up_self, va_up_ne]
  refine ⟨fun j => ⟨up_le (fun q => (a0 q).1) hc j, up_le (fun q => (a0 q).2) (by omega) j⟩, by omega, by omega, by omega⟩
theorem wC_agr (h : agr y x) (s : Nat) : wC y s = wC x s := by
  unfold wC
  rw [h _ (show 2 ≤ 1001 + 8 * s by omega), h 13 (by decide), h 11 (by decide), h _ (show 2 ≤ 1003 + 8 * s by omega), h _ (show 2 ≤ 1002 + 8 * s by omega)]
theorem plA_agr (h : agr y x) (w : Int) (s : Nat) : ∀ k : Nat, plA y w s k = plA x w s k
  | 0 => rfl
  | k + 1 => by
    unfold plA
    rw [plA_agr h w s k, wC_agr h k]
theorem plC_agr (h : agr y x) (m : Nat) (w : Int) (s : Nat) : plC y m w s = plC x m w s := by
  unfold plC
  rw [plA_agr h]
theorem atC_agr (h : agr y x) (m : Nat) (p : Int) : ∀ k : Nat, atC y m p k = atC x m p k
  | 0 => rfl
  | k + 1 => by
    unfold atC
    rw [atC_agr h m p k, plC_agr h, wC_agr h]
theorem shC_agr (h : agr y x) : ∀ k : Nat, shC y k = shC x k
  | 0 => rfl
  | k + 1 => by
    unfold shC
    rw [shC_agr h k, h 11 (by decide)]
theorem tkM_agr (h : agr y x) (e s : Nat) : tkM y e s = tkM x e s := by
  unfold tkM
  rw [h _ (show 2 ≤ 1000 + 8 * s by omega), h _ (show 2 ≤ 1001 + 8 * s by omega), h 13 (by decide)]
theorem tkX_agr (h : agr y x) (e s : Nat) : agr (tkX y e s) (tkX x e s) := by
  unfold tkX
  rw [tkM_agr h, h 13 (by decide)]
  exact ((h.up _ _).up _ _).up _ _
theorem tkA_agr (h : agr y x) (e : Nat) : ∀ k : Nat, (tkA y e k).1 = (tkA x e k).1 ∧ agr (tkA y e k).2 (tkA x e k).2
  | 0 => ⟨rfl, h⟩
  | k + 1 => by
    obtain ⟨h1, h2⟩ := tkA_agr h e k
    refine ⟨?_, tkX_agr h2 e k⟩
    show (tkA y e k).1 + b2 (decide (gradeC (tkM (tkA y e k).2 e k).2.2 (tkM (tkA y e k).2 e k).1 ≠ gradeC ((tkA y e k).2 (1001 + 8 * k)) ((tkA y e k).2 13 k))) = (tkA x e k).1 + b2 (decide (gradeC (tkM (tkA x e k).2 e k).2.2 (tkM (tkA x e k).2 e k).1 ≠ gradeC ((tkA x e k).2 (1001 + 8 * k)) ((tkA x e k).2 13 k)))
    rw [h1, tkM_agr h2, h2 _ (show 2 ≤ 1001 + 8 * k by omega), h2 13 (by decide)]
theorem tkX_low (h : low c y) (e s : Nat) : low c (tkX y e s) := by
  unfold tkX
  exact ((h.up (by omega) _).up (by omega) _).up (by omega) _
theorem tkA_low (h : low c y) (e : Nat) : ∀ k : Nat, low c (tkA y e k).2
  | 0 => h
  | k + 1 => tkX_low (tkA_low h e k) e k
theorem prX_agr (h : agr y x) (left b : Nat) : agr (prX y left b) (prX x left b) := by
  unfold prX
  rw [h 3 (by decide), h 4 (by decide)]
  split
  · exact h.up _ _
  · exact h.up _ _
theorem prX_low (h : low c y) (left b : Nat) : low c (prX y left b) := by
  unfold prX
  split
  · exact h.up (by decide) _
  · exact h.up (by decide) _
end HALL
section MONO
variable {l : Launch} {y : MethodName} {ws : List Cond} {rm : Room} {de mi : Nat} {D : va_G} {cy : Nat → ClassId} {M : mM} {sz : Nat} {av : List Value} {mc ms : Nat}
theorem mVi.mono {post post' : Int32 → mM → Prop} {postX postX' : String → Prop} (h : mVi l y ws rm de mi D cy M sz av post postX mc ms) (h1 : ∀ r M', post r M' → post' r M') (h2 : ∀ E, postX E → postX' E) : mVi l y ws rm de mi D cy M sz av post' postX' mc ms := by
  intro p e ha hc hk s m args below hf happ hP hK
  obtain ⟨n, o, a1, a2, a3, a4⟩ := h p e ha hc hk s m args below hf happ hP hK
  refine ⟨n, o, a1, a2, a3, ?_⟩
  rcases a4 with ⟨⟨⟨r, u, b1, b2, b3⟩, b4⟩, b5⟩ | ⟨q, b1, E, ce, L, ⟨u, c1, ⟨c2, c3⟩, c4⟩, d⟩
  · exact Or.inl ⟨⟨⟨r, u, b1, h1 r u b2, b3⟩, b4⟩, b5⟩
  · exact Or.inr ⟨q, b1, E, ce, L, ⟨u, c1, ⟨h2 E c2, c3⟩, c4⟩, d⟩
theorem mWi.mono {post post' : Int32 → mM → Prop} (h : mWi l y ws rm D cy M sz av post mc ms) (h1 : ∀ r M', post r M' → post' r M') : mWi l y ws rm D cy M sz av post' mc ms := by
  intro p e ha hc hk s m args below hf happ hP hK
  obtain ⟨n, o, a1, a2, a3, a4⟩ := h p e ha hc hk s m args below hf happ hP hK
  refine ⟨n, o, a1, a2, a3, ?_⟩
  obtain ⟨⟨⟨r, u, b1, b2, b3⟩, b4⟩, b5⟩ := a4
  exact ⟨⟨⟨r, u, b1, h1 r u b2, b3⟩, b4⟩, b5⟩
end MONO
/-- what a call of the object leaves: asked I (no wrong index), A (no wrong argument), S (no wrong state) -/
def oP (cy : Nat → ClassId) (de a : Nat) (I A S : Prop) (v : Int32) (c' : Nat → Nat) (x' : Nat → Nat → Nat) : Int32 → mM → Prop := fun r M' => (I ∧ A ∧ S) ∧ r = v ∧ hall cy de M' a c' x'
def oX (I A S : Prop) : String → Prop := fun E => (E = xIO ∧ ¬ I) ∨ (E = xIA ∧ I ∧ ¬ A) ∨ (E = xIS ∧ I ∧ A ∧ ¬ S)
theorem oX3 {I A S : Prop} : ∀ E, oX I A S E → E = xIO ∨ E = xIA ∨ E = xIS := fun E h => by
  rcases h with h | h | h
  · exact Or.inl h.1
  · exact Or.inr (Or.inl h.1)
  · exact Or.inr (Or.inr h.1)

set_option maxHeartbeats 2000000 in
theorem a_stroke (l : Launch) (hst : l.stackTraces = false) (de mi : Nat) (D : va_G) (cy : Nat → ClassId) (M : mM) (sz a n : Nat) (c : Nat → Nat) (x : Nat → Nat → Nat) (y : Int32) (uy : Int) (py : y.toInt = uy) (z : Int32) (uz : Int) (pz : z.toInt = uz) (hh : hall cy de M a c x) (hN : NB n c x) : mVi l yX5_stroke wsX5_stroke ({ frames := 7, cells := 4, slots := 24, locals := 102 } : Room) de mi D cy M sz [.ref a, .int y, .int z] (oP cy de a ((0 ≤ uy ∧ uy < 9) ∧ (0 ≤ uz ∧ uz < 9)) (uy ≠ uz) (c 0 < 8) (nI (c 0 + 1)) (va_up c 0 (c 0 + 1)) (va_up x 2 (va_up (x 2) (c 0) (10 * uy.toNat + uz.toNat)))) (oX ((0 ≤ uy ∧ uy < 9) ∧ (0 ≤ uz ∧ uz < 9)) (uy ≠ uz) (c 0 < 8)) 4 24 := by
  obtain ⟨B, P, E, y0, hH, hSH, h0, hl, hg⟩ := hh
  subst h0
  have h := c_X5_stroke l hst de mi D cy M sz B P c y0 E n y uy z uz hH hSH (hN.low hl hg) py pz
  rw [hg 2 (by decide)] at h
  refine h.mono (fun r M' h => ?_) (fun E9 h => ?_)
  · obtain ⟨h1, h2, B9, P9, E9, k1, k2, k3⟩ := h
    refine ⟨⟨h1.1, h1.2.1, h1.2.2⟩, h2, B9, P9, E9, _, k1, k2, k3, (hl.up (by decide) _).mono ?_ ?_ ?_, hg.up _ _⟩
    all_goals simp (disch := omega) only [va_up_ne]; exact Nat.le_refl _
  · rcases h with h | h | h
    · exact Or.inl ⟨h.1, h.2⟩
    · exact Or.inr (Or.inl ⟨h.1, h.2.1, fun z => z h.2.2⟩)
    · exact Or.inr (Or.inr ⟨h.1, h.2.1, h.2.2.1, h.2.2.2⟩)
set_option maxHeartbeats 2000000 in
theorem a_lift (l : Launch) (hst : l.stackTraces = false) (de mi : Nat) (D : va_G) (cy : Nat → ClassId) (M : mM) (sz a n : Nat) (c : Nat → Nat) (x : Nat → Nat → Nat) (hh : hall cy de M a c x) (hN : NB n c x) : mWi l yX5_lift wsX5_lift ({ frames := 1, cells := 0, slots := 0, locals := 20 } : Room) D cy M sz [.ref a] (oP cy de a True True True (nI (c 0)) (va_up c 0 0) x) 0 0 := by
  obtain ⟨B, P, E, y0, hH, hSH, h0, hl, hg⟩ := hh
  subst h0
  have h := c_X5_lift l D cy M sz de B P c y0 E n  hH hSH (hN.low hl hg)
  refine h.mono (fun r M' h => ?_)
  obtain ⟨h2, B9, P9, E9, k1, k2, k3⟩ := h
  refine ⟨⟨trivial, trivial, trivial⟩, h2, B9, P9, E9, _, k1, k2, k3, hl.mono ?_ ?_ ?_, hg⟩
  all_goals simp (disch := omega) only [va_up_ne]; exact Nat.le_refl _
set_option maxHeartbeats 2000000 in
theorem a_letter (l : Launch) (hst : l.stackTraces = false) (de mi : Nat) (D : va_G) (cy : Nat → ClassId) (M : mM) (sz a n : Nat) (c : Nat → Nat) (x : Nat → Nat → Nat)  (hh : hall cy de M a c x) (hN : NB n c x) : mVi l yX5_letter wsX5_letter ({ frames := 7, cells := 4, slots := 90, locals := 178 } : Room) de mi D cy M sz [.ref a] (oP cy de a True True ((1 ≤ c 0 ∧ c 0 ≤ 6) ∧ twA (x 2) (c 0) (c 0) = false ∧ c 1 < 10) (nI (c 1)) (va_up (va_up c 1 (c 1 + 1)) 0 0) (va_up (va_up x 6 (va_up (x 6) (c 1) (c 0))) (400 + c 1) (cpA (fun _ => 0) 0 (x 2) (c 0)))) (oX True True ((1 ≤ c 0 ∧ c 0 ≤ 6) ∧ twA (x 2) (c 0) (c 0) = false ∧ c 1 < 10)) 4 90 := by
  obtain ⟨B, P, E, y0, hH, hSH, h0, hl, hg⟩ := hh
  subst h0
  have h := c_X5_letter l hst de mi D cy M sz B P c y0 E n  hH hSH (hN.low hl hg)
  rw [hg 2 (by decide), hg 6 (by decide), Nat.zero_add] at h
  refine h.mono (fun r M' h => ?_) (fun E9 h => ?_)
  · obtain ⟨h1, h2, cap9, hc1, hc2, B9, P9, E9, k1, k2, k3⟩ := h
    refine ⟨⟨trivial, trivial, h1⟩, h2, B9, P9, E9, _, k1, k2, k3, ((hl.lst6 hc2 (by omega) ?_ ?_ ?_).up (by decide) _).up (by omega) _, ((hg.lst _ _ _).up _ _).up _ _⟩
    all_goals simp (disch := omega) only [va_up_self, va_up_ne]; exact Nat.le_refl _
  · exact Or.inr (Or.inr ⟨h.1, trivial, trivial, h.2⟩)
set_option maxHeartbeats 2000000 in
theorem a_pupil (l : Launch) (hst : l.stackTraces = false) (de mi : Nat) (D : va_G) (cy : Nat → ClassId) (M : mM) (sz a n : Nat) (c : Nat → Nat) (x : Nat → Nat → Nat) (y : Int32) (uy : Int) (py : y.toInt = uy) (z : Int32) (uz : Int) (pz : z.toInt = uz) (b : Bool) (hh : hall cy de M a c x) (hN : NB n c x) : mVi l yX5_pupil wsX5_pupil ({ frames := 7, cells := 4, slots := 90, locals := 178 } : Room) de mi D cy M sz [.ref a, .int y, .int z, .int (nI (b2 b))] (oP cy de a (0 ≤ uy ∧ uy < 4) (5 ≤ uz ∧ uz ≤ 16) (c 2 < 20) (nI (c 2)) (va_up c 2 (c 2 + 1)) (va_up (va_up (va_up x 7 (va_up (x 7) (c 2) uy.toNat)) 8 (va_up (x 8) (c 2) (if uz ≤ 7 then 0 else if uz ≤ 11 then 1 else 2))) 9 (va_up (x 9) (c 2) (b2 b)))) (oX (0 ≤ uy ∧ uy < 4) (5 ≤ uz ∧ uz ≤ 16) (c 2 < 20)) 4 90 := by
  obtain ⟨B, P, E, y0, hH, hSH, h0, hl, hg⟩ := hh
  subst h0
  have h := c_X5_pupil l hst de mi D cy M sz B P c y0 E n y uy z uz b hH hSH (hN.low hl hg) py pz
  rw [hg 7 (by decide), hg 8 (by decide), hg 9 (by decide)] at h
  refine h.mono (fun r M' h => ?_) (fun E9 h => ?_)
  · obtain ⟨h1, h2, cap9, hc1, hc2, B9, P9, E9, k1, k2, k3⟩ := h
    refine ⟨⟨h1.1.1, h1.1.2, h1.2⟩, h2, B9, P9, E9, _, k1, k2, k3, (((hl.lst8 hc2 (by omega) ?_ ?_ ?_).up (by decide) _).up (by decide) _).up (by decide) _, (((hg.lst _ _ _).up _ _).up _ _).up _ _⟩
    all_goals simp (disch := omega) only [va_up_self, va_up_ne]; exact Nat.le_refl _
  · rcases h with h | h | h
    · exact Or.inl ⟨h.1, h.2⟩
    · exact Or.inr (Or.inl ⟨h.1, h.2.1, h.2.2⟩)
    · exact Or.inr (Or.inr ⟨h.1, h.2.1.1, h.2.1.2, h.2.2⟩)
set_option maxHeartbeats 2000000 in
theorem a_print (l : Launch) (hst : l.stackTraces = false) (de mi : Nat) (D : va_G) (cy : Nat → ClassId) (M : mM) (sz a n : Nat) (c : Nat → Nat) (x : Nat → Nat → Nat) (y : Int32) (uy : Int) (py : y.toInt = uy) (b : Bool) (z : Int32) (uz : Int) (pz : z.toInt = uz) (hh : hall cy de M a c x) (hN : NB n c x) : mVi l yX5_print wsX5_print ({ frames := 7, cells := 4, slots := 24, locals := 102 } : Room) de mi D cy M sz [.ref a, .int y, .int (nI (b2 b)), .int z] (oP cy de a (0 ≤ uy ∧ uy < 3) (1 ≤ uz ∧ uz ≤ 50) True (nI (cntC (x 3) (x 4) (b2 b) uy.toNat + uz.toNat)) c (if b2 b = 0 then va_up x 4 (va_up (x 4) uy.toNat (x 4 uy.toNat + uz.toNat)) else va_up x 3 (va_up (x 3) uy.toNat (x 3 uy.toNat + uz.toNat)))) (oX (0 ≤ uy ∧ uy < 3) (1 ≤ uz ∧ uz ≤ 50) True) 4 24 := by
  obtain ⟨B, P, E, y0, hH, hSH, h0, hl, hg⟩ := hh
  subst h0
  have h := c_X5_print l hst de mi D cy M sz B P c y0 E n y uy b z uz hH hSH (hN.low hl hg) py pz
  rw [hg 3 (by decide), hg 4 (by decide)] at h
  refine h.mono (fun r M' h => ?_) (fun E9 h => ?_)
  · obtain ⟨h1, h2, B9, P9, E9, k1, k2, k3⟩ := h
    refine ⟨⟨h1.1, h1.2, trivial⟩, h2, B9, P9, E9, _, k1, k2, k3, ?_, ?_⟩
    · split
      · exact hl.up (by decide) _
      · exact hl.up (by decide) _
    · split
      · exact hg.up _ _
      · exact hg.up _ _
  · rcases h with h | h
    · exact Or.inl ⟨h.1, h.2⟩
    · exact Or.inr (Or.inl ⟨h.1, h.2.1, h.2.2⟩)
set_option maxHeartbeats 2000000 in
theorem a_write (l : Launch) (hst : l.stackTraces = false) (de mi : Nat) (D : va_G) (cy : Nat → ClassId) (M : mM) (sz a n : Nat) (c : Nat → Nat) (x : Nat → Nat → Nat) (y : Int32) (uy : Int) (py : y.toInt = uy) (z : Int32) (uz : Int) (pz : z.toInt = uz) (hh : hall cy de M a c x) (hN : NB n c x) (hrk : uz.toNat < c 1 → (cmpA (x (400 + (uz).toNat)) (x 6 (uz).toNat) (x 2) (c 0) (fun _ => 0) (c 0)).1 ≤ x 6 (uz).toNat) : mVi l yX5_write wsX5_write ({ frames := 7, cells := 12, slots := 120, locals := 178 } : Room) de mi D cy M sz [.ref a, .int y, .int z] (oP cy de a ((0 ≤ uy ∧ uy < c 2) ∧ 0 ≤ uz ∧ uz < c 1) True (c 3 < 40 ∧ bndC (x 3) (x 4) (x 9 (uy).toNat) (x 8 (uy).toNat + 1) ≠ -1) (nI (c 3)) (va_up (va_up c 3 (c 3 + 1)) 0 0) (scX (prX x (x 9 (uy).toNat) (bndC (x 3) (x 4) (x 9 (uy).toNat) (x 8 (uy).toNat + 1)).toNat) (c 3) (x 7 (uy).toNat) 0 (cmpA (x (400 + (uz).toNat)) (x 6 (uz).toNat) (x 2) (c 0) (fun _ => 0) (c 0)).1 0 (fun _ => 0) (fun _ => 0) (wrS (bndC (x 3) (x 4) (x 9 (uy).toNat) (x 8 (uy).toNat + 1)).toNat (x 8 (uy).toNat) (slpC (x (400 + (uz).toNat)) (x 6 (uz).toNat) (x 2) (c 0))) (fun _ => 0) (cmpA (x (400 + (uz).toNat)) (x 6 (uz).toNat) (x 2) (c 0) (fun _ => 0) (c 0)).2.1)) (oX ((0 ≤ uy ∧ uy < c 2) ∧ 0 ≤ uz ∧ uz < c 1) True (c 3 < 40 ∧ bndC (x 3) (x 4) (x 9 (uy).toNat) (x 8 (uy).toNat + 1) ≠ -1)) 12 120 := by
  obtain ⟨B, P, E, y0, hH, hSH, h0, hl, hg⟩ := hh
  subst h0
  have h := c_X5_write l hst de mi D cy M sz B P c y0 E n y uy z uz hH hSH (hN.low hl hg) py pz (fun hs => by rw [hg _ (show 2 ≤ 400 + uz.toNat by omega), hg 6 (by decide), hg 2 (by decide)]; exact hrk hs)
  rw [hg 2 (by decide), hg 3 (by decide), hg 4 (by decide), hg 6 (by decide), hg 7 (by decide), hg 8 (by decide), hg 9 (by decide), hg _ (show 2 ≤ 400 + uz.toNat by omega)] at h
  refine h.mono (fun r M' h => ?_) (fun E9 h => ?_)
  · obtain ⟨h1, bd9, hb9, h2, cap9, hc1, hc2, B9, P9, E9, k1, k2, k3⟩ := h
    have hbt : (bndC (x 3) (x 4) (x 9 (uy).toNat) (x 8 (uy).toNat + 1)).toNat = bd9 := by rw [hb9]; rfl
    rw [hbt]
    have hg2 := prX_agr hg (x 9 (uy).toNat) bd9
    have hl2 := prX_low hl (x 9 (uy).toNat) bd9
    have e1 : prX y0 (x 9 (uy).toNat) bd9 1 = y0 1 := prX_ne (by decide) (by decide)
    rw [← e1] at k2
    refine ⟨⟨h1.1, trivial, h1.2, by omega⟩, h2, B9, P9, E9, _, k1, k2, k3, ?_, ?_⟩
    · have h9 := hl2.lst10 (c' := va_up (va_up c 3 (c 3 + 1)) 0 0) hc2 (by omega) (by simp (disch := omega) only [va_up_self, va_up_ne]; exact Nat.le_refl _) (by simp (disch := omega) only [va_up_self, va_up_ne]; exact Nat.le_refl _) (by simp (disch := omega) only [va_up_self, va_up_ne]; exact Nat.le_refl _)
      exact ((((((((h9.up (by decide) _).up (by decide) _).up (by decide) _).up (by decide) _).up (by omega) _).up (by omega) _).up (by omega) _).up (by omega) _).up (by omega) _
    · have h9 := hg2.lst 10 cap9 (prX y0 (x 9 (uy).toNat) bd9 1 10 + 1)
      have q1 : ∀ k, 2 ≤ k → xLst (prX y0 (x 9 (uy).toNat) bd9) 10 cap9 (prX y0 (x 9 (uy).toNat) bd9 1 10 + 1) k = prX x (x 9 (uy).toNat) bd9 k := h9
      unfold scX
      rw [q1 10 (by decide), q1 11 (by decide), q1 12 (by decide), q1 13 (by decide)]
      exact ((((((((h9.up _ _).up _ _).up _ _).up _ _).up _ _).up _ _).up _ _).up _ _).up _ _
  · rcases h with h | h
    · exact Or.inl ⟨h.1, h.2⟩
    · exact Or.inr (Or.inr ⟨h.1, h.2.1, trivial, h.2.2⟩)
set_option maxHeartbeats 2000000 in
theorem a_mark (l : Launch) (hst : l.stackTraces = false) (de mi : Nat) (D : va_G) (cy : Nat → ClassId) (M : mM) (sz a n : Nat) (c : Nat → Nat) (x : Nat → Nat → Nat) (y : Int32) (uy : Int) (py : y.toInt = uy) (z : Int32) (uz : Int) (pz : z.toInt = uz) (t : Int32) (ut : Int) (pt : t.toInt = ut) (hh : hall cy de M a c x) (hN : NB n c x) (h3m : ∀ s, s < c 3 → x 13 s = 3 → lackC (x (1001 + 8 * s)) 3 = 0) : mVi l yX5_mark wsX5_mark ({ frames := 7, cells := 4, slots := 24, locals := 103 } : Room) de mi D cy M sz [.ref a, .int y, .int z, .int t] (oP cy de a ((0 ≤ uy ∧ uy < 6) ∧ 0 ≤ uz ∧ uz < c 3) (0 ≤ ut ∧ ut ≤ 20) (x 5 uy.toNat = 0 ∧ hasC (x (1000 + 8 * (uz).toNat)) uy.toNat (x 13 (uz).toNat) = false ∧ lackC (x (1001 + 8 * (uz).toNat)) (x 13 (uz).toNat) ≠ 0) (nI (x 13 (uz).toNat + 1)) c (va_up (va_up (va_up x (1000 + 8 * (uz).toNat) (va_up (x (1000 + 8 * (uz).toNat)) (x 13 (uz).toNat) uy.toNat)) (1001 + 8 * (uz).toNat) (va_up (x (1001 + 8 * (uz).toNat)) (x 13 (uz).toNat) ut.toNat)) 13 (va_up (x 13) (uz).toNat (x 13 (uz).toNat + 1)))) (oX ((0 ≤ uy ∧ uy < 6) ∧ 0 ≤ uz ∧ uz < c 3) (0 ≤ ut ∧ ut ≤ 20) (x 5 uy.toNat = 0 ∧ hasC (x (1000 + 8 * (uz).toNat)) uy.toNat (x 13 (uz).toNat) = false ∧ lackC (x (1001 + 8 * (uz).toNat)) (x 13 (uz).toNat) ≠ 0)) 4 24 := by
  obtain ⟨B, P, E, y0, hH, hSH, h0, hl, hg⟩ := hh
  subst h0
  have h := c_X5_mark l hst de mi D cy M sz B P c y0 E n y uy z uz t ut hH hSH (hN.low hl hg) py pz pt (fun s hs h3 => by rw [hg (1001 + 8 * s) (by omega)]; rw [hg 13 (by decide)] at h3; exact h3m s hs h3)
  rw [hg 5 (by decide), hg 13 (by decide), hg _ (show 2 ≤ 1000 + 8 * (uz).toNat by omega), hg _ (show 2 ≤ 1001 + 8 * (uz).toNat by omega)] at h
  refine h.mono (fun r M' h => ?_) (fun E9 h => ?_)
  · obtain ⟨h1, h2, B9, P9, E9, k1, k2, k3⟩ := h
    exact ⟨⟨h1.1, h1.2.1, h1.2.2⟩, h2, B9, P9, E9, _, k1, k2, k3, ((hl.up (by omega) _).up (by omega) _).up (by decide) _, ((hg.up _ _).up _ _).up _ _⟩
  · rcases h with h | h | h
    · exact Or.inl ⟨h.1, h.2⟩
    · exact Or.inr (Or.inl ⟨h.1, h.2.1, h.2.2⟩)
    · exact Or.inr (Or.inr ⟨h.1, h.2.1, h.2.2.1, h.2.2.2⟩)
set_option maxHeartbeats 2000000 in
theorem a_takeOut (l : Launch) (hst : l.stackTraces = false) (de mi : Nat) (D : va_G) (cy : Nat → ClassId) (M : mM) (sz a n : Nat) (c : Nat → Nat) (x : Nat → Nat → Nat) (y : Int32) (uy : Int) (py : y.toInt = uy) (hh : hall cy de M a c x) (hN : NB n c x) : mVi l yX5_takeOut wsX5_takeOut ({ frames := 7, cells := 4, slots := 24, locals := 102 } : Room) de mi D cy M sz [.ref a, .int y] (oP cy de a (0 ≤ uy ∧ uy < 6) True (x 5 uy.toNat = 0) (nI (tkA (va_up x 5 (va_up (x 5) uy.toNat 1)) uy.toNat (c 3)).1) c ((tkA (va_up x 5 (va_up (x 5) uy.toNat 1)) uy.toNat (c 3)).2)) (oX (0 ≤ uy ∧ uy < 6) True (x 5 uy.toNat = 0)) 4 24 := by
  obtain ⟨B, P, E, y0, hH, hSH, h0, hl, hg⟩ := hh
  subst h0
  have h := c_X5_takeOut l hst de mi D cy M sz B P c y0 E n y uy hH hSH (hN.low hl hg) py
  rw [hg 5 (by decide)] at h
  refine h.mono (fun r M' h => ?_) (fun E9 h => ?_)
  · obtain ⟨h1, h2, B9, P9, E9, k1, k2, k3⟩ := h
    have hg2 := tkA_agr (hg.up 5 (va_up (x 5) uy.toNat 1)) uy.toNat (c 3)
    exact ⟨⟨h1.1, trivial, h1.2⟩, by rw [h2, hg2.1], B9, P9, E9, _, k1, k2, k3, tkA_low (hl.up (by decide) _) _ _, hg2.2⟩
  · rcases h with h | h
    · exact Or.inl ⟨h.1, h.2⟩
    · exact Or.inr (Or.inr ⟨h.1, h.2.1, trivial, h.2.2⟩)
set_option maxHeartbeats 2000000 in
theorem a_show (l : Launch) (hst : l.stackTraces = false) (de mi : Nat) (D : va_G) (cy : Nat → ClassId) (M : mM) (sz a n : Nat) (c : Nat → Nat) (x : Nat → Nat → Nat) (y : Int32) (uy : Int) (py : y.toInt = uy) (hh : hall cy de M a c x) (hN : NB n c x) : mVi l yX5_show wsX5_show ({ frames := 7, cells := 4, slots := 24, locals := 103 } : Room) de mi D cy M sz [.ref a, .int y] (oP cy de a (0 ≤ uy ∧ uy < c 3) True (x 11 (uy).toNat = 0 ∧ gradeC (x (1001 + 8 * (uy).toNat)) (x 13 (uy).toNat) ≠ -1) (nI (shC (va_up x 11 (va_up (x 11) (uy).toNat 1)) (c 3))) c (va_up x 11 (va_up (x 11) (uy).toNat 1))) (oX (0 ≤ uy ∧ uy < c 3) True (x 11 (uy).toNat = 0 ∧ gradeC (x (1001 + 8 * (uy).toNat)) (x 13 (uy).toNat) ≠ -1)) 4 24 := by
  obtain ⟨B, P, E, y0, hH, hSH, h0, hl, hg⟩ := hh
  subst h0
  have h := c_X5_show l hst de mi D cy M sz B P c y0 E n y uy hH hSH (hN.low hl hg) py
  rw [hg 11 (by decide), hg 13 (by decide), hg _ (show 2 ≤ 1001 + 8 * (uy).toNat by omega)] at h
  refine h.mono (fun r M' h => ?_) (fun E9 h => ?_)
  · obtain ⟨h1, h2, B9, P9, E9, k1, k2, k3⟩ := h
    exact ⟨⟨h1.1, trivial, h1.2⟩, by rw [h2, shC_agr (hg.up _ _)], B9, P9, E9, _, k1, k2, k3, hl.up (by decide) _, hg.up _ _⟩
  · rcases h with h | h
    · exact Or.inl ⟨h.1, h.2⟩
    · exact Or.inr (Or.inr ⟨h.1, h.2.1, trivial, h.2.2⟩)
set_option maxHeartbeats 2000000 in
theorem a_vote (l : Launch) (hst : l.stackTraces = false) (de mi : Nat) (D : va_G) (cy : Nat → ClassId) (M : mM) (sz a n : Nat) (c : Nat → Nat) (x : Nat → Nat → Nat) (y : Int32) (uy : Int) (py : y.toInt = uy) (z : Int32) (uz : Int) (pz : z.toInt = uz) (t : Int32) (ut : Int) (pt : t.toInt = ut) (hh : hall cy de M a c x) (hN : NB n c x) : mVi l yX5_vote wsX5_vote ({ frames := 7, cells := 4, slots := 24, locals := 103 } : Room) de mi D cy M sz [.ref a, .int y, .int z, .int t] (oP cy de a ((0 ≤ uy ∧ uy < 4) ∧ 0 ≤ uz ∧ uz < c 3) (0 ≤ ut ∧ ut ≤ 5) (x 11 (uz).toNat ≠ 0 ∧ (x 10 (uz).toNat : Int) ≠ uy) (nI (sumA (va_up (x (1003 + 8 * (uz).toNat)) uy.toNat ut.toNat) 4)) c (va_up x (1003 + 8 * (uz).toNat) (va_up (x (1003 + 8 * (uz).toNat)) uy.toNat ut.toNat))) (oX ((0 ≤ uy ∧ uy < 4) ∧ 0 ≤ uz ∧ uz < c 3) (0 ≤ ut ∧ ut ≤ 5) (x 11 (uz).toNat ≠ 0 ∧ (x 10 (uz).toNat : Int) ≠ uy)) 4 24 := by
  obtain ⟨B, P, E, y0, hH, hSH, h0, hl, hg⟩ := hh
  subst h0
  have h := c_X5_vote l hst de mi D cy M sz B P c y0 E n y uy z uz t ut hH hSH (hN.low hl hg) py pz pt
  rw [hg 10 (by decide), hg 11 (by decide), hg _ (show 2 ≤ 1003 + 8 * (uz).toNat by omega)] at h
  refine h.mono (fun r M' h => ?_) (fun E9 h => ?_)
  · obtain ⟨h1, h2, B9, P9, E9, k1, k2, k3⟩ := h
    exact ⟨⟨h1.1, h1.2.1, h1.2.2⟩, h2, B9, P9, E9, _, k1, k2, k3, hl.up (by omega) _, hg.up _ _⟩
  · rcases h with h | h | h
    · exact Or.inl ⟨h.1, h.2⟩
    · exact Or.inr (Or.inl ⟨h.1, h.2.1, h.2.2⟩)
    · exact Or.inr (Or.inr ⟨h.1, h.2.1, h.2.2.1, h.2.2.2⟩)
set_option maxHeartbeats 2000000 in
theorem a_strokeOf (l : Launch) (hst : l.stackTraces = false) (de mi : Nat) (D : va_G) (cy : Nat → ClassId) (M : mM) (sz a n : Nat) (c : Nat → Nat) (x : Nat → Nat → Nat) (y : Int32) (uy : Int) (py : y.toInt = uy) (z : Int32) (uz : Int) (pz : z.toInt = uz) (hh : hall cy de M a c x) (hN : NB n c x) : mVi l yX5_strokeOf wsX5_strokeOf ({ frames := 7, cells := 4, slots := 24, locals := 103 } : Room) de mi D cy M sz [.ref a, .int y, .int z] (fun r M' => (((0 ≤ uy ∧ uy < c 1) ∧ 0 ≤ uz) ∧ True) ∧ r = zI (if 0 ≤ uz ∧ uz < (x 6 (uy).toNat : Int) then (x (400 + (uy).toNat) uz.toNat : Int) else -1) ∧ M' = M) (oX (((0 ≤ uy ∧ uy < c 1) ∧ 0 ≤ uz)) True True) 4 24 := by
  obtain ⟨B, P, E, y0, hH, hSH, h0, hl, hg⟩ := hh
  subst h0
  have h := c_X5_strokeOf l hst de mi D cy M sz B P c y0 E n y uy z uz hH hSH (hN.low hl hg) py pz
  rw [hg 6 (by decide), hg _ (show 2 ≤ 400 + (uy).toNat by omega)] at h
  refine h.mono (fun r M' h => ⟨⟨h.1, trivial⟩, h.2.1, h.2.2⟩) (fun E9 h => ?_)
  exact Or.inl h
set_option maxHeartbeats 2000000 in
theorem a_sheets (l : Launch) (hst : l.stackTraces = false) (de mi : Nat) (D : va_G) (cy : Nat → ClassId) (M : mM) (sz a n : Nat) (c : Nat → Nat) (x : Nat → Nat → Nat) (y : Int32) (uy : Int) (py : y.toInt = uy) (b : Bool) (hh : hall cy de M a c x) (hN : NB n c x) : mVi l yX5_sheets wsX5_sheets ({ frames := 7, cells := 1, slots := 6, locals := 102 } : Room) de mi D cy M sz [.ref a, .int y, .int (nI (b2 b))] (fun r M' => ((0 ≤ uy ∧ uy < 3) ∧ True) ∧ r = nI (cntC (x 3) (x 4) (b2 b) uy.toNat) ∧ M' = M) (oX ((0 ≤ uy ∧ uy < 3)) True True) 1 6 := by
  obtain ⟨B, P, E, y0, hH, hSH, h0, hl, hg⟩ := hh
  subst h0
  have h := c_X5_sheets l hst de mi D cy M sz B P c y0 E n y uy b hH hSH (hN.low hl hg) py
  rw [hg 3 (by decide), hg 4 (by decide)] at h
  refine h.mono (fun r M' h => ⟨⟨h.1, trivial⟩, h.2.1, h.2.2⟩) (fun E9 h => ?_)
  exact Or.inl h
set_option maxHeartbeats 2000000 in
theorem a_slips (l : Launch) (hst : l.stackTraces = false) (de mi : Nat) (D : va_G) (cy : Nat → ClassId) (M : mM) (sz a n : Nat) (c : Nat → Nat) (x : Nat → Nat → Nat) (y : Int32) (uy : Int) (py : y.toInt = uy) (z : Int32) (uz : Int) (pz : z.toInt = uz) (hh : hall cy de M a c x) (hN : NB n c x) : mVi l yX5_slips wsX5_slips ({ frames := 7, cells := 4, slots := 24, locals := 103 } : Room) de mi D cy M sz [.ref a, .int y, .int z] (fun r M' => ((0 ≤ uy ∧ uy < c 3) ∧ (0 ≤ uz ∧ uz ≤ 5)) ∧ r = nI (if uz = 5 then sumA (x (1002 + 8 * (uy).toNat)) 5 else x (1002 + 8 * (uy).toNat) uz.toNat) ∧ M' = M) (oX ((0 ≤ uy ∧ uy < c 3)) ((0 ≤ uz ∧ uz ≤ 5)) True) 4 24 := by
  obtain ⟨B, P, E, y0, hH, hSH, h0, hl, hg⟩ := hh
  subst h0
  have h := c_X5_slips l hst de mi D cy M sz B P c y0 E n y uy z uz hH hSH (hN.low hl hg) py pz
  rw [hg _ (show 2 ≤ 1002 + 8 * (uy).toNat by omega)] at h
  refine h.mono (fun r M' h => ⟨h.1, h.2.1, h.2.2⟩) (fun E9 h => ?_)
  rcases h with h | h
  · exact Or.inl ⟨h.1, h.2⟩
  · exact Or.inr (Or.inl ⟨h.1, h.2.1, h.2.2⟩)
set_option maxHeartbeats 2000000 in
theorem a_orderAnew (l : Launch) (hst : l.stackTraces = false) (de mi : Nat) (D : va_G) (cy : Nat → ClassId) (M : mM) (sz a n : Nat) (c : Nat → Nat) (x : Nat → Nat → Nat) (y : Int32) (uy : Int) (py : y.toInt = uy) (hh : hall cy de M a c x) (hN : NB n c x) : mVi l yX5_orderAnew wsX5_orderAnew ({ frames := 7, cells := 1, slots := 6, locals := 103 } : Room) de mi D cy M sz [.ref a, .int y] (fun r M' => ((0 ≤ uy ∧ uy < c 3) ∧ True) ∧ r = nI (fewL (x (1004 + 8 * (uy).toNat)) (x 12 (uy).toNat)) ∧ M' = M) (oX ((0 ≤ uy ∧ uy < c 3)) True True) 1 6 := by
  obtain ⟨B, P, E, y0, hH, hSH, h0, hl, hg⟩ := hh
  subst h0
  have h := c_X5_orderAnew l hst de mi D cy M sz B P c y0 E n y uy hH hSH (hN.low hl hg) py
  rw [hg 12 (by decide), hg _ (show 2 ≤ 1004 + 8 * (uy).toNat by omega)] at h
  refine h.mono (fun r M' h => ⟨⟨h.1, trivial⟩, h.2.1, h.2.2⟩) (fun E9 h => ?_)
  exact Or.inl h
set_option maxHeartbeats 2000000 in
theorem a_grade (l : Launch) (hst : l.stackTraces = false) (de mi : Nat) (D : va_G) (cy : Nat → ClassId) (M : mM) (sz a n : Nat) (c : Nat → Nat) (x : Nat → Nat → Nat) (y : Int32) (uy : Int) (py : y.toInt = uy) (hh : hall cy de M a c x) (hN : NB n c x) : mVi l yX5_grade wsX5_grade ({ frames := 7, cells := 1, slots := 6, locals := 103 } : Room) de mi D cy M sz [.ref a, .int y] (fun r M' => ((0 ≤ uy ∧ uy < c 3) ∧ True) ∧ r = zI (gradeC (x (1001 + 8 * (uy).toNat)) (x 13 (uy).toNat)) ∧ M' = M) (oX ((0 ≤ uy ∧ uy < c 3)) True True) 1 6 := by
  obtain ⟨B, P, E, y0, hH, hSH, h0, hl, hg⟩ := hh
  subst h0
  have h := c_X5_grade l hst de mi D cy M sz B P c y0 E n y uy hH hSH (hN.low hl hg) py
  rw [hg 13 (by decide), hg _ (show 2 ≤ 1001 + 8 * (uy).toNat by omega)] at h
  refine h.mono (fun r M' h => ⟨⟨h.1, trivial⟩, h.2.1, h.2.2⟩) (fun E9 h => ?_)
  exact Or.inl h
set_option maxHeartbeats 2000000 in
theorem a_lacks (l : Launch) (hst : l.stackTraces = false) (de mi : Nat) (D : va_G) (cy : Nat → ClassId) (M : mM) (sz a n : Nat) (c : Nat → Nat) (x : Nat → Nat → Nat) (y : Int32) (uy : Int) (py : y.toInt = uy) (hh : hall cy de M a c x) (hN : NB n c x) : mVi l yX5_lacks wsX5_lacks ({ frames := 7, cells := 1, slots := 6, locals := 103 } : Room) de mi D cy M sz [.ref a, .int y] (fun r M' => ((0 ≤ uy ∧ uy < c 3) ∧ True) ∧ r = zI (lackC (x (1001 + 8 * (uy).toNat)) (x 13 (uy).toNat)) ∧ M' = M) (oX ((0 ≤ uy ∧ uy < c 3)) True True) 1 6 := by
  obtain ⟨B, P, E, y0, hH, hSH, h0, hl, hg⟩ := hh
  subst h0
  have h := c_X5_lacks l hst de mi D cy M sz B P c y0 E n y uy hH hSH (hN.low hl hg) py
  rw [hg 13 (by decide), hg _ (show 2 ≤ 1001 + 8 * (uy).toNat by omega)] at h
  refine h.mono (fun r M' h => ⟨⟨h.1, trivial⟩, h.2.1, h.2.2⟩) (fun E9 h => ?_)
  exact Or.inl h
set_option maxHeartbeats 2000000 in
theorem a_worth (l : Launch) (hst : l.stackTraces = false) (de mi : Nat) (D : va_G) (cy : Nat → ClassId) (M : mM) (sz a n : Nat) (c : Nat → Nat) (x : Nat → Nat → Nat) (y : Int32) (uy : Int) (py : y.toInt = uy) (hh : hall cy de M a c x) (hN : NB n c x) : mVi l yX5_worth wsX5_worth ({ frames := 7, cells := 1, slots := 6, locals := 103 } : Room) de mi D cy M sz [.ref a, .int y] (fun r M' => ((0 ≤ uy ∧ uy < c 3) ∧ True) ∧ r = zI (wC x (uy).toNat) ∧ M' = M) (oX ((0 ≤ uy ∧ uy < c 3)) True True) 1 6 := by
  obtain ⟨B, P, E, y0, hH, hSH, h0, hl, hg⟩ := hh
  subst h0
  have h := c_X5_worth l hst de mi D cy M sz B P c y0 E n y uy hH hSH (hN.low hl hg) py
  rw [show worthC (y0 (1001 + 8 * (uy).toNat)) (y0 13 (uy).toNat) (y0 11 (uy).toNat) (y0 (1003 + 8 * (uy).toNat)) (y0 (1002 + 8 * (uy).toNat)) = wC y0 (uy).toNat from rfl, wC_agr hg] at h
  refine h.mono (fun r M' h => ⟨⟨h.1, trivial⟩, h.2.1, h.2.2⟩) (fun E9 h => ?_)
  exact Or.inl h
set_option maxHeartbeats 2000000 in
theorem a_place (l : Launch) (hst : l.stackTraces = false) (de mi : Nat) (D : va_G) (cy : Nat → ClassId) (M : mM) (sz a n : Nat) (c : Nat → Nat) (x : Nat → Nat → Nat) (y : Int32) (uy : Int) (py : y.toInt = uy) (hh : hall cy de M a c x) (hN : NB n c x) : mVi l yX5_place wsX5_place ({ frames := 7, cells := 4, slots := 24, locals := 103 } : Room) de mi D cy M sz [.ref a, .int y] (fun r M' => ((0 ≤ uy ∧ uy < c 3) ∧ True) ∧ r = zI (plC x (c 3) (wC x (uy).toNat) (uy).toNat) ∧ M' = M) (oX ((0 ≤ uy ∧ uy < c 3)) True True) 4 24 := by
  obtain ⟨B, P, E, y0, hH, hSH, h0, hl, hg⟩ := hh
  subst h0
  have h := c_X5_place l hst de mi D cy M sz B P c y0 E n y uy hH hSH (hN.low hl hg) py
  refine h.mono (fun r M' h => ⟨⟨h.1, trivial⟩, by rw [h.2.1, wC_agr hg, plC_agr hg], h.2.2⟩) (fun E9 h => ?_)
  exact Or.inl h
set_option maxHeartbeats 2000000 in
theorem a_at (l : Launch) (hst : l.stackTraces = false) (de mi : Nat) (D : va_G) (cy : Nat → ClassId) (M : mM) (sz a n : Nat) (c : Nat → Nat) (x : Nat → Nat → Nat) (y : Int32) (uy : Int) (py : y.toInt = uy) (hh : hall cy de M a c x) (hN : NB n c x) : mVi l yX5_at wsX5_at ({ frames := 6, cells := 4, slots := 24, locals := 102 } : Room) de mi D cy M sz [.ref a, .int y] (fun r M' => ((1 ≤ uy) ∧ True) ∧ r = zI (atC x (c 3) uy (c 3)) ∧ M' = M) (oX ((1 ≤ uy)) True True) 4 24 := by
  obtain ⟨B, P, E, y0, hH, hSH, h0, hl, hg⟩ := hh
  subst h0
  have h := c_X5_at l hst de mi D cy M sz B P c y0 E n y uy hH hSH (hN.low hl hg) py
  refine h.mono (fun r M' h => ⟨⟨h.1, trivial⟩, by rw [h.2.1, atC_agr hg], h.2.2⟩) (fun E9 h => ?_)
  exact Or.inl h
