/-! ## more numbers -/
def zI (z : Int) : Int32 := Int32.ofInt z
theorem zI_toInt {z : Int} (h1 : -2147483648 ≤ z) (h2 : z < 2147483648) : (zI z).toInt = z := by
  unfold zI
  rw [Int32.toInt_ofInt]
  have e : (Int32.size : Int) = 4294967296 := rfl
  exact Int.bmod_eq_of_le (by omega) (by omega)
theorem nI_zI (n : Nat) : nI n = zI ((n : Nat) : Int) := by
  apply Int32.toBitVec_inj.mp
  show BitVec.ofNat 32 n = BitVec.ofInt 32 (n : Int)
  rw [BitVec.ofInt_natCast]
theorem zI_of {x : Int32} {z : Int} (h : x.toInt = z) : x = zI z := by
  rw [← h]
  exact (Int32.ofInt_toInt x).symm
theorem zI_add (a b : Int) : zI a + zI b = zI (a + b) := (Int32.ofInt_add a b).symm
theorem zI_mul (a b : Int) : zI a * zI b = zI (a * b) := (Int32.ofInt_mul a b).symm
theorem zI_sub (a b : Int) : zI a - zI b = zI (a - b) := (Int32.ofInt_sub a b).symm
theorem b2_toInt (b : Bool) : (nI (b2 b)).toInt = ((b2 b : Nat) : Int) := nI_toInt (Nat.lt_of_le_of_lt (b2_le b) (by decide))
theorem b2_t {b : Bool} (h : b = true) : nI (b2 b) = nI 1 := by rw [h]; rfl
theorem b2_f {b : Bool} (h : b = false) : nI (b2 b) = nI 0 := by rw [h]; rfl
theorem b2_d {P : Prop} [Decidable P] (h : P) : nI (b2 (decide P)) = nI 1 := b2_t (decide_eq_true h)
theorem b2_n {P : Prop} [Decidable P] (h : ¬ P) : nI (b2 (decide P)) = nI 0 := b2_f (decide_eq_false h)
theorem nar_bool {v : Nat} (h : v ≤ 1) : narrow .boolean (.int (nI v)) = .int (nI v) := by
  rcases (show v = 0 ∨ v = 1 by omega) with rfl | rfl <;> rfl
section MN
variable {p : Program} {l : Launch} {e : Env} {R : Room} {s : State} {m : MethodId} {args : Array Value} {below : List Frame} {meth : Method} {c : Code} {H : Heap} {locs : List Loc} {cells slots : Nat} {Q : State → Prop}
variable {cc : ByteArray} {pc : Nat} {ls : Array Slot} {rest : List Value}
theorem z_add {x y : Int32} {u v : Int} (hexec : p.tables.exec = Jvm.exec) (hb : c.code = cc) (hx : x = zI u) (hy : y = zI v) (hdg : decode cc pc = .ok (.iadd, 1)) (k : W p l e R s m args below meth c H locs cells slots Q (F0 m (pc + 1) ls (.int (zI (u + v)) :: rest))) : W p l e R s m args below meth c H locs cells slots Q (F0 m pc ls (.int y :: .int x :: rest)) :=
  lv_iadd hexec hb hdg (by rw [hx, hy, zI_add]; exact k)
theorem z_mul {x y : Int32} {u v : Int} (hexec : p.tables.exec = Jvm.exec) (hb : c.code = cc) (hx : x = zI u) (hy : y = zI v) (hdg : decode cc pc = .ok (.imul, 1)) (k : W p l e R s m args below meth c H locs cells slots Q (F0 m (pc + 1) ls (.int (zI (u * v)) :: rest))) : W p l e R s m args below meth c H locs cells slots Q (F0 m pc ls (.int y :: .int x :: rest)) :=
  lv_imul hexec hb hdg (by rw [hx, hy, zI_mul]; exact k)
theorem z_sub {x y : Int32} {u v : Int} (hexec : p.tables.exec = Jvm.exec) (hb : c.code = cc) (hx : x = zI u) (hy : y = zI v) (hdg : decode cc pc = .ok (.isub, 1)) (k : W p l e R s m args below meth c H locs cells slots Q (F0 m (pc + 1) ls (.int (zI (u - v)) :: rest))) : W p l e R s m args below meth c H locs cells slots Q (F0 m pc ls (.int y :: .int x :: rest)) :=
  lv_isub hexec hb hdg (by rw [hx, hy, zI_sub]; exact k)
theorem n_iinc {i nL q k x : Nat} {n : Int} {lv lv' : List (Nat × Value)} (hexec : p.tables.exec = Jvm.exec) (hb : c.code = cc) (hdg : decode cc pc = .ok (.iinc i n, 3)) (hn : n = (k : Int)) (h : lv_has ls nL lv) (hk : lv[q]? = some (i, .int (nI x))) (hi : i < nL) (hl : (i, Value.int (nI (x + k))) :: lv.filter (fun q => !(q.1 == i) && !(q.1 + 1 == i && q.2.category == 2)) = lv')
    (kk : ∀ ls' : Array Slot, lv_has ls' nL lv' → W p l e R s m args below meth c H locs cells slots Q (F0 m (pc + 3) ls' rest)) : W p l e R s m args below meth c H locs cells slots Q (F0 m pc ls rest) := by
  subst hn
  exact lv_iinc hexec hb hdg h hk (by rw [show Int32.ofInt (k : Int) = nI k from (nI_zI k).symm]; exact nI_add x k) hi hl kk
theorem z_iinc {i nL q : Nat} {k u : Int} {x : Int32} {lv lv' : List (Nat × Value)} (hexec : p.tables.exec = Jvm.exec) (hb : c.code = cc) (hdg : decode cc pc = .ok (.iinc i k, 3)) (hx : x = zI u) (h : lv_has ls nL lv) (hk : lv[q]? = some (i, .int x)) (hi : i < nL) (hl : (i, Value.int (zI (u + k))) :: lv.filter (fun q => !(q.1 == i) && !(q.1 + 1 == i && q.2.category == 2)) = lv')
    (kk : ∀ ls' : Array Slot, lv_has ls' nL lv' → W p l e R s m args below meth c H locs cells slots Q (F0 m (pc + 3) ls' rest)) : W p l e R s m args below meth c H locs cells slots Q (F0 m pc ls rest) := by
  subst hx
  exact lv_iinc hexec hb hdg h hk (zI_add u k) hi hl kk
theorem n_idec {i nL q k x : Nat} {n : Int} {lv lv' : List (Nat × Value)} (hexec : p.tables.exec = Jvm.exec) (hb : c.code = cc) (hdg : decode cc pc = .ok (.iinc i n, 3)) (hn : n = -(k : Int)) (hx : k ≤ x) (h : lv_has ls nL lv) (hk : lv[q]? = some (i, .int (nI x))) (hi : i < nL) (hl : (i, Value.int (nI (x - k))) :: lv.filter (fun q => !(q.1 == i) && !(q.1 + 1 == i && q.2.category == 2)) = lv')
    (kk : ∀ ls' : Array Slot, lv_has ls' nL lv' → W p l e R s m args below meth c H locs cells slots Q (F0 m (pc + 3) ls' rest)) : W p l e R s m args below meth c H locs cells slots Q (F0 m pc ls rest) := by
  subst hn
  exact lv_iinc hexec hb hdg h hk (by rw [nI_zI, nI_zI]; show zI _ + zI _ = _; rw [zI_add]; congr 1; omega) hi hl kk
end MN
/-! ## the reference's object -/
def mLen : Nat → Nat := fun k => match k with
  | 0 => 8 | 3 => 60 | 4 => 10 | 6 => 20 | 7 => 20 | 8 => 20 | 9 => 6 | 11 => 320 | 12 => 40 | 13 => 40 | 14 => 40 | 15 => 40 | 16 => 120 | 17 => 120 | 18 => 40 | 19 => 6 | 20 => 40 | 21 => 160 | 23 => 8
  | _ => 0
def mAI : List Nat := [0, 3, 4, 6, 7, 9, 11, 12, 13, 14, 16, 17, 18, 21]
def mAZ : List Nat := [8, 15, 19, 20]
def mAll : List Nat := [0, 3, 4, 6, 7, 9, 11, 12, 13, 14, 16, 17, 18, 21, 8, 15, 19, 20, 23]
def mAint : List Nat := [1, 2, 5, 10]
def moF (ad : Nat → Nat) (t : Nat) (i : Nat → Nat) : List Value := [.ref (ad 0), .int (nI (i 1)), .int (nI (i 2)), .ref (ad 3), .ref (ad 4), .int (nI (i 5)), .ref (ad 6), .ref (ad 7), .ref (ad 8), .ref (ad 9), .int (nI (i 10)), .ref (ad 11), .ref (ad 12), .ref (ad 13), .ref (ad 14), .ref (ad 15), .ref (ad 16), .ref (ad 17), .ref (ad 18), .ref (ad 19), .ref (ad 20), .ref (ad 21), .int (nI t), .ref (ad 23)]
/-- the object at h, its arrays at ad: t is what 'thrown' holds, i the counters, f the arrays (by the fields' places); the array 'longest' may hold anything -/
def MW (cy : Nat → ClassId) (M : mM) (h : Nat) (ad : Nat → Nat) (t : Nat) (i : Nat → Nat) (f : Nat → Nat → Nat) : Prop :=
  M h = some (.inr (7, moF ad t i)) ∧ (∀ k, k ∈ mAI → M (ad k) = some (eI cy (mLen k) (f k))) ∧ (∀ k, k ∈ mAZ → M (ad k) = some (eZ cy (mLen k) (f k))) ∧ (∃ g, M (ad 23) = some (eI cy 8 g)) ∧ (∀ j, j ∈ mAll → ∀ k, k ∈ mAll → ad j = ad k → j = k) ∧ (∀ k, k ∈ mAll → ad k ≠ h)
section MWL
variable {cy : Nat → ClassId} {M : mM} {h : Nat} {ad : Nat → Nat} {t : Nat} {i : Nat → Nat} {f : Nat → Nat → Nat}
theorem mAI_all {k : Nat} (h : k ∈ mAI) : k ∈ mAll := List.mem_append_left _ (show k ∈ mAI from h)
theorem mAZ_all {k : Nat} (h : k ∈ mAZ) : k ∈ mAll := List.mem_append_right mAI (List.mem_append_left _ (show k ∈ mAZ from h))
theorem mAI_23 : ∀ k, k ∈ mAI → k ≠ 23 := by decide
theorem mAZ_23 : ∀ k, k ∈ mAZ → k ≠ 23 := by decide
theorem mAIZ : ∀ k, k ∈ mAI → ∀ j, j ∈ mAZ → k ≠ j := by decide
theorem MW.setI (hW : MW cy M h ad t i f) (k : Nat) (hk : k ∈ mAI) (g : Nat → Nat) : MW cy (mset M (ad k) (eI cy (mLen k) g)) h ad t i (va_up f k g) := by
  obtain ⟨h1, h2, h3, ⟨g0, h4⟩, h5, h6⟩ := hW
  have ne : ∀ j, j ∈ mAll → j ≠ k → ad j ≠ ad k := fun j hj n z => n (h5 j hj k (mAI_all hk) z)
  refine ⟨by rw [mset_ne (h6 k (mAI_all hk)).symm]; exact h1, fun j hj => ?_, fun j hj => ?_, ⟨g0, by rw [mset_ne (ne 23 (by decide) (fun z => mAI_23 k hk z.symm))]; exact h4⟩, h5, h6⟩
  · by_cases e : j = k
    · subst e; rw [mset_self, va_up_self]
    · rw [mset_ne (ne j (mAI_all hj) e), va_up_ne _ _ e]; exact h2 j hj
  · have e : j ≠ k := fun z => mAIZ k hk j hj z.symm
    rw [mset_ne (ne j (mAZ_all hj) e), va_up_ne _ _ e]; exact h3 j hj
theorem MW.setZ (hW : MW cy M h ad t i f) (k : Nat) (hk : k ∈ mAZ) (g : Nat → Nat) : MW cy (mset M (ad k) (eZ cy (mLen k) g)) h ad t i (va_up f k g) := by
  obtain ⟨h1, h2, h3, ⟨g0, h4⟩, h5, h6⟩ := hW
  have ne : ∀ j, j ∈ mAll → j ≠ k → ad j ≠ ad k := fun j hj n z => n (h5 j hj k (mAZ_all hk) z)
  refine ⟨by rw [mset_ne (h6 k (mAZ_all hk)).symm]; exact h1, fun j hj => ?_, fun j hj => ?_, ⟨g0, by rw [mset_ne (ne 23 (by decide) (fun z => mAZ_23 k hk z.symm))]; exact h4⟩, h5, h6⟩
  · have e : j ≠ k := mAIZ j hj k hk
    rw [mset_ne (ne j (mAI_all hj) e), va_up_ne _ _ e]; exact h2 j hj
  · by_cases e : j = k
    · subst e; rw [mset_self, va_up_self]
    · rw [mset_ne (ne j (mAZ_all hj) e), va_up_ne _ _ e]; exact h3 j hj
theorem MW.set23 (hW : MW cy M h ad t i f) (g : Nat → Nat) : MW cy (mset M (ad 23) (eI cy 8 g)) h ad t i f := by
  obtain ⟨h1, h2, h3, ⟨g0, h4⟩, h5, h6⟩ := hW
  have ne : ∀ j, j ∈ mAll → j ≠ 23 → ad j ≠ ad 23 := fun j hj n z => n (h5 j hj 23 (by decide) z)
  exact ⟨by rw [mset_ne (h6 23 (by decide)).symm]; exact h1, fun j hj => by rw [mset_ne (ne j (mAI_all hj) (mAI_23 j hj))]; exact h2 j hj, fun j hj => by rw [mset_ne (ne j (mAZ_all hj) (mAZ_23 j hj))]; exact h3 j hj, ⟨g, mset_self _ _ _⟩, h5, h6⟩
theorem MW.setO (hW : MW cy M h ad t i f) (t' : Nat) (i' : Nat → Nat) : MW cy (mset M h (.inr (7, moF ad t' i'))) h ad t' i' f := by
  obtain ⟨h1, h2, h3, ⟨g0, h4⟩, h5, h6⟩ := hW
  exact ⟨mset_self _ _ _, fun j hj => by rw [mset_ne (h6 j (mAI_all hj))]; exact h2 j hj, fun j hj => by rw [mset_ne (h6 j (mAZ_all hj))]; exact h3 j hj, ⟨g0, by rw [mset_ne (h6 23 (by decide))]; exact h4⟩, h5, h6⟩
end MWL
