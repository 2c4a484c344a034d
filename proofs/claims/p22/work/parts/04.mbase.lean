/-! ## more numbers -/
def zI (z : Int) : Int32 := Int32.ofInt z
theorem zI_toInt {z : Int} (h1 : -2147483648 ≤ z) (h2 : z < 2147483648) : (zI z).toInt = z := by
  unfold zI
  rw [Int32.toInt_ofInt]
  have e : (Int32.size : Int) = 4294967296 := rfl
  exact Int.bmod_eq_of_le (by omega) (by omega)
theorem nI_zI (n : Nat) : nI n = zI ((n : Nat) : Int) := by
  apply Int32.toBitVec_inj.mp
  show BitVec.ofNat 32 n = BitVec.ofInt 32 (n : Int)
  rw [BitVec.ofInt_natCast]
theorem zI_of {x : Int32} {z : Int} (h : x.toInt = z) : x = zI z := by
  rw [← h]
  exact (Int32.ofInt_toInt x).symm
theorem zI_add (a b : Int) : zI a + zI b = zI (a + b) := (Int32.ofInt_add a b).symm
theorem zI_mul (a b : Int) : zI a * zI b = zI (a * b) := (Int32.ofInt_mul a b).symm
theorem zI_sub (a b : Int) : zI a - zI b = zI (a - b) := (Int32.ofInt_sub a b).symm
theorem b2_toInt (b : Bool) : (nI (b2 b)).toInt = ((b2 b : Nat) : Int) := nI_toInt (Nat.lt_of_le_of_lt (b2_le b) (by decide))
theorem b2_t {b : Bool} (h : b = true) : nI (b2 b) = nI 1 := by rw [h]; rfl
theorem b2_f {b : Bool} (h : b = false) : nI (b2 b) = nI 0 := by rw [h]; rfl
theorem b2_d {P : Prop} [Decidable P] (h : P) : nI (b2 (decide P)) = nI 1 := b2_t (decide_eq_true h)
theorem b2_n {P : Prop} [Decidable P] (h : ¬ P) : nI (b2 (decide P)) = nI 0 := b2_f (decide_eq_false h)
theorem nar_bool {v : Nat} (h : v ≤ 1) : narrow .boolean (.int (nI v)) = .int (nI v) := by
  rcases (show v = 0 ∨ v = 1 by omega) with rfl | rfl <;> rfl
section MN
variable {p : Program} {l : Launch} {e : Env} {R : Room} {s : State} {m : MethodId} {args : Array Value} {below : List Frame} {meth : Method} {c : Code} {H : Heap} {locs : List Loc} {cells slots : Nat} {Q : State → Prop}
variable {cc : ByteArray} {pc : Nat} {ls : Array Slot} {rest : List Value}
theorem z_add {x y : Int32} {u v : Int} (hexec : p.tables.exec = Jvm.exec) (hb : c.code = cc) (hx : x = zI u) (hy : y = zI v) (hdg : decode cc pc = .ok (.iadd, 1)) (k : W p l e R s m args below meth c H locs cells slots Q (F0 m (pc + 1) ls (.int (zI (u + v)) :: rest))) : W p l e R s m args below meth c H locs cells slots Q (F0 m pc ls (.int y :: .int x :: rest)) :=
  lv_iadd hexec hb hdg (by rw [hx, hy, zI_add]; exact k)
theorem z_mul {x y : Int32} {u v : Int} (hexec : p.tables.exec = Jvm.exec) (hb : c.code = cc) (hx : x = zI u) (hy : y = zI v) (hdg : decode cc pc = .ok (.imul, 1)) (k : W p l e R s m args below meth c H locs cells slots Q (F0 m (pc + 1) ls (.int (zI (u * v)) :: rest))) : W p l e R s m args below meth c H locs cells slots Q (F0 m pc ls (.int y :: .int x :: rest)) :=
  lv_imul hexec hb hdg (by rw [hx, hy, zI_mul]; exact k)
theorem z_sub {x y : Int32} {u v : Int} (hexec : p.tables.exec = Jvm.exec) (hb : c.code = cc) (hx : x = zI u) (hy : y = zI v) (hdg : decode cc pc = .ok (.isub, 1)) (k : W p l e R s m args below meth c H locs cells slots Q (F0 m (pc + 1) ls (.int (zI (u - v)) :: rest))) : W p l e R s m args below meth c H locs cells slots Q (F0 m pc ls (.int y :: .int x :: rest)) :=
  lv_isub hexec hb hdg (by rw [hx, hy, zI_sub]; exact k)
theorem n_iinc {i nL q k x : Nat} {n : Int} {lv lv' : List (Nat × Value)} (hexec : p.tables.exec = Jvm.exec) (hb : c.code = cc) (hdg : decode cc pc = .ok (.iinc i n, 3)) (hn : n = (k : Int)) (h : lv_has ls nL lv) (hk : lv[q]? = some (i, .int (nI x))) (hi : i < nL) (hl : (i, Value.int (nI (x + k))) :: lv.filter (fun q => !(q.1 == i) && !(q.1 + 1 == i && q.2.category == 2)) = lv')
    (kk : ∀ ls' : Array Slot, lv_has ls' nL lv' → W p l e R s m args below meth c H locs cells slots Q (F0 m (pc + 3) ls' rest)) : W p l e R s m args below meth c H locs cells slots Q (F0 m pc ls rest) := by
  subst hn
  exact lv_iinc hexec hb hdg h hk (by rw [show Int32.ofInt (k : Int) = nI k from (nI_zI k).symm]; exact nI_add x k) hi hl kk
theorem z_iinc {i nL q : Nat} {k u : Int} {x : Int32} {lv lv' : List (Nat × Value)} (hexec : p.tables.exec = Jvm.exec) (hb : c.code = cc) (hdg : decode cc pc = .ok (.iinc i k, 3)) (hx : x = zI u) (h : lv_has ls nL lv) (hk : lv[q]? = some (i, .int x)) (hi : i < nL) (hl : (i, Value.int (zI (u + k))) :: lv.filter (fun q => !(q.1 == i) && !(q.1 + 1 == i && q.2.category == 2)) = lv')
    (kk : ∀ ls' : Array Slot, lv_has ls' nL lv' → W p l e R s m args below meth c H locs cells slots Q (F0 m (pc + 3) ls' rest)) : W p l e R s m args below meth c H locs cells slots Q (F0 m pc ls rest) := by
  subst hx
  exact lv_iinc hexec hb hdg h hk (zI_add u k) hi hl kk
theorem n_idec {i nL q k x : Nat} {n : Int} {lv lv' : List (Nat × Value)} (hexec : p.tables.exec = Jvm.exec) (hb : c.code = cc) (hdg : decode cc pc = .ok (.iinc i n, 3)) (hn : n = -(k : Int)) (hx : k ≤ x) (h : lv_has ls nL lv) (hk : lv[q]? = some (i, .int (nI x))) (hi : i < nL) (hl : (i, Value.int (nI (x - k))) :: lv.filter (fun q => !(q.1 == i) && !(q.1 + 1 == i && q.2.category == 2)) = lv')
    (kk : ∀ ls' : Array Slot, lv_has ls' nL lv' → W p l e R s m args below meth c H locs cells slots Q (F0 m (pc + 3) ls' rest)) : W p l e R s m args below meth c H locs cells slots Q (F0 m pc ls rest) := by
  subst hn
  exact lv_iinc hexec hb hdg h hk (by rw [nI_zI, nI_zI]; show zI _ + zI _ = _; rw [zI_add]; congr 1; omega) hi hl kk
end MN
