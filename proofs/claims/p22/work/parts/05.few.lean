/-! small rows, as in whole -/
/-- n places copied, from g at 0 on to the row r at a on -/
def cpA (r : Nat → Nat) (a : Nat) (g : Nat → Nat) : Nat → Nat → Nat
  | 0 => r
  | n + 1 => va_up (cpA r a g n) (a + n) (g n)
theorem up_le {g : Nat → Nat} {b k v : Nat} (hg : ∀ x, g x ≤ b) (hv : v ≤ b) : ∀ x, va_up g k v x ≤ b := fun x => by
  unfold va_up
  split
  · exact hv
  · exact hg x
theorem cpA_le {r g : Nat → Nat} {a b : Nat} (hr : ∀ x, r x ≤ b) (hg : ∀ x, g x ≤ b) : ∀ (n x : Nat), cpA r a g n x ≤ b
  | 0, x => hr x
  | n + 1, x => up_le (cpA_le hr hg n) (hg n) x
theorem nI_of_toInt {x : Int32} {u : Int} (h : x.toInt = u) (h0 : 0 ≤ u) : x = nI u.toNat := by
  rw [zI_of h, nI_zI]
  congr 1
  omega
section KN
variable {p : Program} {l : Launch} {e : Env} {R : Room} {s : State} {m : MethodId} {args : Array Value} {below : List Frame} {meth : Method} {c : Code} {H : Heap} {locs : List Loc} {cells slots : Nat} {Q : State → Prop}
variable {cc : ByteArray} {pc : Nat} {ls : Array Slot} {rest : List Value}
theorem k_if_eq_0 (hexec : p.tables.exec = Jvm.exec) (hb : c.code = cc) {off : Int} {tgt : Nat} (hdg : decode cc pc = .ok (.ifCond .eq off, 3)) (ht : (pc : Int) + off = (tgt : Int)) (k : W p l e R s m args below meth c H locs cells slots Q (F0 m tgt ls rest)) : W p l e R s m args below meth c H locs cells slots Q (F0 m pc ls (.int (nI 0) :: rest)) :=
  lv_if_eq hexec hb hdg ht (fun _ => k) (fun h => absurd (show nI 0 = 0 by decide) h)
theorem k_if_eq_1 (hexec : p.tables.exec = Jvm.exec) (hb : c.code = cc) {off : Int} {tgt : Nat} (hdg : decode cc pc = .ok (.ifCond .eq off, 3)) (ht : (pc : Int) + off = (tgt : Int)) (k : W p l e R s m args below meth c H locs cells slots Q (F0 m (pc + 3) ls rest)) : W p l e R s m args below meth c H locs cells slots Q (F0 m pc ls (.int (nI 1) :: rest)) :=
  lv_if_eq hexec hb hdg ht (fun h => absurd h (show ¬ nI 1 = 0 by decide)) (fun _ => k)
theorem k_if_ne_0 (hexec : p.tables.exec = Jvm.exec) (hb : c.code = cc) {off : Int} {tgt : Nat} (hdg : decode cc pc = .ok (.ifCond .ne off, 3)) (ht : (pc : Int) + off = (tgt : Int)) (k : W p l e R s m args below meth c H locs cells slots Q (F0 m (pc + 3) ls rest)) : W p l e R s m args below meth c H locs cells slots Q (F0 m pc ls (.int (nI 0) :: rest)) :=
  lv_if_ne hexec hb hdg ht (fun h => absurd (show nI 0 = 0 by decide) h) (fun _ => k)
theorem k_if_ne_1 (hexec : p.tables.exec = Jvm.exec) (hb : c.code = cc) {off : Int} {tgt : Nat} (hdg : decode cc pc = .ok (.ifCond .ne off, 3)) (ht : (pc : Int) + off = (tgt : Int)) (k : W p l e R s m args below meth c H locs cells slots Q (F0 m tgt ls rest)) : W p l e R s m args below meth c H locs cells slots Q (F0 m pc ls (.int (nI 1) :: rest)) :=
  lv_if_ne hexec hb hdg ht (fun _ => k) (fun h => absurd h (show ¬ nI 1 = 0 by decide))
end KN
theorem zI_nI {z : Int} (h : 0 ≤ z) : zI z = nI z.toNat := by
  rw [nI_zI]
  congr 1
  omega
theorem row_next {g v : Nat → Nat} {j : Nat} (h : ∀ x, x < j → g x = v x) : ∀ x, x < j + 1 → va_up g j (v j) x = v x := fun x hx => by
  by_cases e : x = j
  · rw [e, va_up_self]
  · rw [va_up_ne _ _ e]; exact h x (by omega)
theorem va_up_id {α : Type} (g : Nat → α) (k : Nat) : va_up g k (g k) = g := by
  funext j
  by_cases e : j = k
  · rw [e, va_up_self]
  · rw [va_up_ne _ _ e]
theorem va_up_comm {α : Type} (g : Nat → α) {j k : Nat} (v w : α) (h : j ≠ k) : va_up (va_up g j v) k w = va_up (va_up g k w) j v := by
  funext x
  by_cases e1 : x = j
  · rw [e1, va_up_ne _ _ h, va_up_self, va_up_self]
  · by_cases e2 : x = k
    · rw [e2, va_up_self, va_up_ne _ _ (Ne.symm h), va_up_self]
    · rw [va_up_ne _ _ e2, va_up_ne _ _ e1, va_up_ne _ _ e1, va_up_ne _ _ e2]
