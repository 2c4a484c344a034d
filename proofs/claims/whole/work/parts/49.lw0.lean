/-! the law: its loop's world -/
abbrev iwA (s : State) : Nat → Prop := fun q => s.heap.size ≤ q
def dj (P Q : mM) : Prop := ∀ q : Nat, P q ≠ none → Q q = none
theorem dj.sy {P Q : mM} (h : dj P Q) : dj Q P := fun q hq => by
  cases hp : P q with
  | none => rfl
  | some e => exact absurd (h q (by rw [hp]; exact fun z => by cases z)) hq
/-- another picture stays -/
theorem pm_frame {D : va_G} {M N : mM} {H H1 : Heap} (hN : pm D N H) (hd : dj N M) (hk : ∀ q : Nat, q < H.size → ¬ mA M H.size q → H1[q]? = H[q]?) : pm D N H1 :=
  hN.kept fun q hq => hk q (hN.lt' hq) (fun z => z.elim (fun z => z (hd q hq)) (fun z => absurd (hN.lt' hq) (by omega)))
theorem dj_after {D : va_G} {M M1 N : mM} {H : Heap} (hN : pm D N H) (hd : dj N M) (h1 : mD (mA M H.size) M1) : dj N M1 := fun q hq => by
  cases hm : M1 q with
  | none => rfl
  | some e =>
    rcases h1 q (by rw [hm]; exact fun z => by cases z) with h | h
    · exact absurd (hd q hq) h
    · exact absurd (hN.lt' hq) (by omega)
theorem wPreS {de mi : Nat} {D : va_G} {cy : Nat → ClassId} {M : mM} {s : State} {H : Heap} {As : List Value} {A : Nat → Prop} {locs : List Loc} (hX : cX de mi A s s.heap) (hNN : cN s) (hD : mD A M) (hS : va_S A s.heap H locs) (hA : ∀ q, s.heap.size ≤ q → A q) (hK : mK D cy s) (hP : pm D M H) : PreS s H (wPx de mi D cy M H.size As) As :=
  ⟨wPx_blind, fun U hU hW => ⟨rfl, ⟨by rw [hU], by rw [hU]; exact hP, va_K.moved hW.alike hK, hX.at hD hS hA hU hW⟩, cN.moved hW.alike hNN⟩⟩
/-- what holds all the way -/
def iwC (p : Program) (l : Launch) (s : State) (m : MethodId) (c : Code) (b L : Nat) (xs : Nat → Int32) (D : va_G) (cy : Nat → ClassId) (de mi : Nat) : Prop :=
  p.tables.exec = Jvm.exec ∧ c.code = cL_law ∧ c.maxLocals = 7 ∧ s.vm.findClass RL = some m.cls ∧ (∀ w ∈ wsL_law, w.before #[Value.ref b] s = true) ∧ va_X b L xs s s.heap ∧ b < s.heap.size ∧ mK D cy s ∧ cX de mi (iwA s) s s.heap ∧ cN s ∧ l.stackTraces = false
/-- the two systems side by side: n calls were made -/
def iwS (D : va_G) (cy : Nat → ClassId) (de : Nat) (s : State) (n a h o : Nat) (H : Heap) : Prop :=
  ∃ (Mh Mm : mM) (g : Nat → Int64) (ad : Nat → Nat) (t : Nat) (i : Nat → Nat) (f : Nat → Nat → Nat) (B : Nat → Nat) (P : Nat → Option va_E) (cn : Nat → Nat) (x : Nat → Nat → Nat) (E : Nat → Nat → Option Nat),
    (pm D (mset Mh o (eJ cy 1 g)) H ∧ Mh o = none ∧ pm D Mm H ∧ dj (mset Mh o (eJ cy 1 g)) Mm ∧ mD (iwA s) (mset Mh o (eJ cy 1 g)) ∧ mD (iwA s) Mm) ∧ (hHolds Mh B P ∧ SH de cy B P cn x E ∧ B 0 = a) ∧ MW cy Mm h ad t i f ∧ REL cn x i f ∧ NB n cn x ∧ MI n i f
abbrev iwF (b a h o i : Nat) : List (Nat × Value) := [(4, .int (nI i)), (0, .ref b), (1, .ref a), (2, .ref h), (3, .ref o)]
theorem lg_self (x : Int64) : lg_cmp x x = nI 0 := by
  unfold lg_cmp
  simp
  try rfl
section LW
variable {p : Program} {l : Launch} {e : Env} {R : Room} {s : State} {m : MethodId} {args : Array Value} {below : List Frame} {meth : Method} {c : Code} {H : Heap} {locs : List Loc} {cells slots : Nat} {Q : State → Prop}
variable {pc b L a h o n : Nat} {xs : Nat → Int32} {ls : Array Slot} {rest : List Value} {D : va_G} {cy : Nat → ClassId} {de mi : Nat}
theorem iw_rd (k : Nat) (hx : p.tables.exec = Jvm.exec) (hb : c.code = cL_law) (hX : va_X b L xs s s.heap) (hbl : b < s.heap.size) (hS : va_S (iwA s) s.heap H locs) (hk : k < 4) (h4 : 4 * n + 4 ≤ L) (hL : L ≤ 2048) (hl : lv_has ls 7 (iwF b a h o (4 * n)))
    (d0 : decode cL_law pc = .ok (.aload_n 0, 1)) (d1 : decode cL_law (pc + 1) = .ok (.iload 4, 2)) (d3 : decode cL_law (pc + 3) = .ok (.iconst (k : Int), 1)) (d4 : decode cL_law (pc + 4) = .ok (.iadd, 1)) (d5 : decode cL_law (pc + 5) = .ok (.iaload, 1))
    (kk : W p l e R s m args below meth c H locs cells slots Q (F0 m (pc + 6) ls (.int (xs (4 * n + k)) :: rest))) : W p l e R s m args below meth c H locs cells slots Q (F0 m pc ls rest) := by
  refine lv_aload_n hx hb d0 rfl (lv_at hl 1 rfl) ?_
  refine lv_iload hx hb d1 (lv_at hl 0 rfl) ?_
  refine lv_iconst (v := nI k) hx hb d3 ?_ ?_
  · rw [nI_zI]; rfl
  refine n_add hx hb d4 ?_
  refine va_sld hx hb hX hbl (fun z => absurd hbl (Nat.not_lt.mpr z)) hS (vp_in_nI (by omega) (by omega)) d5 ?_
  rw [nI_clamp (by omega)]
  exact kk
theorem iw_nez {v : Int32} (hx : p.tables.exec = Jvm.exec) (hb : c.code = cL_law) (d0 : decode cL_law pc = .ok (.ifCond .eq 7, 3)) (d3 : decode cL_law (pc + 3) = .ok (.iconst 1, 1)) (d4 : decode cL_law (pc + 4) = .ok (.goto 4, 3)) (d7 : decode cL_law (pc + 7) = .ok (.iconst 0, 1))
    (kk : W p l e R s m args below meth c H locs cells slots Q (F0 m (pc + 8) ls (.int (nI (b2 (decide (v ≠ 0)))) :: rest))) : W p l e R s m args below meth c H locs cells slots Q (F0 m pc ls (.int v :: rest)) := by
  refine lv_if_eq (tgt := pc + 7) hx hb d0 (by omega) (fun hv => ?_) (fun hv => ?_)
  · refine lv_iconst (v := nI 0) hx hb d7 (by decide) ?_
    rw [show b2 (decide (v ≠ 0)) = 0 by rw [decide_eq_false (fun z => z hv)]; rfl] at kk
    exact kk
  · refine lv_iconst (v := nI 1) hx hb d3 (by decide) ?_
    refine lv_goto (tgt := pc + 8) hx hb d4 (by omega) ?_
    rw [show b2 (decide (v ≠ 0)) = 1 by rw [decide_eq_true hv]; rfl] at kk
    exact kk
end LW
section LT
variable {p : Program} {l : Launch} {e : Env} {s : State} {m : MethodId} {below : List Frame} {meth : Method} {c : Code} {H : Heap} {locs : List Loc} {cells slots : Nat} {Q : State → Prop}
variable {q b L a h o i9 n9 : Nat} {xs : Nat → Int32} {ls : Array Slot} {D : va_G} {cy : Nat → ClassId} {de mi : Nat} {off : Int} {r r6 : Int32} {M1 Mm : mM} {g : Nat → Int64} {ad : Nat → Nat} {t : Nat} {i : Nat → Nat} {f : Nat → Nat → Nat}
set_option maxRecDepth 100000 in
set_option maxHeartbeats 4000000 in
/-- the end of each case: what was thrown, and the answers, are compared -/
theorem iw_tail (C0 : iwC p l s m c b L xs D cy de mi) (d0 : decode cL_law q = .ok (.istore 6, 2)) (d2 : decode cL_law (q + 2) = .ok (.aload_n 2, 1)) (d3 : decode cL_law (q + 3) = .ok (.invokevirtual 86, 3)) (d6 : decode cL_law (q + 6) = .ok (.iload 5, 2)) (d8 : decode cL_law (q + 8) = .ok (.if_icmp .eq 5, 3)) (d13 : decode cL_law (q + 13) = .ok (.iload 5, 2)) (d15 : decode cL_law (q + 15) = .ok (.ifCond .ne 15, 3)) (d18 : decode cL_law (q + 18) = .ok (.aload_n 3, 1)) (d19 : decode cL_law (q + 19) = .ok (.iconst 0, 1)) (d20 : decode cL_law (q + 20) = .ok (.laload, 1)) (d21 : decode cL_law (q + 21) = .ok (.iload 6, 2)) (d23 : decode cL_law (q + 23) = .ok (.i2l, 1)) (d24 : decode cL_law (q + 24) = .ok (.lcmp, 1)) (d25 : decode cL_law (q + 25) = .ok (.ifCond .eq 5, 3)) (d30 : decode cL_law (q + 30) = .ok (.goto off, 3)) (ho : ((q + 30 : Nat) : Int) + off = ((1341 : Nat) : Int))
    (hP : pm D M1 H) (hM : M1 o = some (eJ cy 1 g)) (hPm : pm D Mm H) (hW : MW cy Mm h ad t i f) (hI : MI n9 i f) (hcells : cells ≤ 694999) (hslots : slots ≤ 7011106)
    (hcase : (r = nI 0 ∧ t = 0 ∧ g 0 = r6.toInt64) ∨ ∃ k : Nat, r = nI k ∧ k ≠ 0 ∧ k < 10 ∧ t = k) (hl : lv_has ls 7 ((5, .int r) :: iwF b a h o i9))
    (kk : ∀ ls : Array Slot, lv_has ls 7 (iwF b a h o i9) → W p l e room_1 s m #[Value.ref b] below meth c H locs cells slots Q (F0 m 1341 ls [])) : W p l e room_1 s m #[Value.ref b] below meth c H locs cells slots Q (F0 m q ls [.int r6]) := by
  obtain ⟨hx, hb, hml, hown, hts, hXs, hbl, hK, hX, hNN, hst⟩ := C0
  refine lv_istore (lv' := (6, .int r6) :: (5, .int r) :: iwF b a h o i9) hx hb d0 hl (by decide) rfl (fun ls hl => ?_)
  refine lv_aload_n hx hb d2 rfl (lv_at hl 5 rfl) ?_
  refine vp_callSi (W.runV (C := RX6) (As := []) (rest := []) ⟨hx, hb, hml, hown, hts⟩ (c_X6_thrown l D cy Mm h ad t i f n9 hW hI) (cwV 0 hts gL_law_X6_thrown rfl rfl rfl (by decide +kernel) ⟨Nat.le_of_ble_eq_true rfl, Nat.le_of_ble_eq_true rfl⟩) (mPreV hK hPm hW.1 (ci := 7) rfl) rfl rfl hl.1 rfl (lv_room (Nat.le_of_ble_eq_true rfl)) d3 ⟨hcells, hslots⟩) (fun r9 hr9 => ?_)
  have hr9 : r9 = nI t := hr9
  subst hr9
  refine lv_iload hx hb d6 (lv_at hl 1 rfl) ?_
  have hlk := lv_sub (l' := iwF b a h o i9) hl [2, 3, 4, 5, 6] rfl
  rcases hcase with ⟨hr, ht, hg⟩ | ⟨k, hr, hk0, hk, ht⟩
  · subst hr ht
    refine z_icmp_eq (u := 0) (v := 0) (tgt := q + 13) hx hb (by decide) (by decide) d8 (by omega) (fun _ => ?_) (fun z => absurd rfl z)
    refine lv_iload hx hb d13 (lv_at hl 1 rfl) ?_
    refine k_if_ne_0 (tgt := q + 30) hx hb d15 (by omega) ?_
    refine lv_aload_n hx hb d18 rfl (lv_at hl 6 rfl) ?_
    refine lv_iconst (v := nI 0) hx hb d19 (by decide) ?_
    refine n_jald (g := g) (n := 1) (i := 0) hx hb hK hP hM (by decide) (by decide) d20 ?_
    refine lv_iload hx hb d21 (lv_at hl 0 rfl) ?_
    refine lv_i2l hx hb d23 rfl ?_
    refine W.lcmp hx hb d24 ?_
    rw [hg, lg_self]
    refine k_if_eq_0 (tgt := q + 30) hx hb d25 (by omega) ?_
    refine lv_goto (tgt := 1341) hx hb d30 ho ?_
    exact kk ls hlk
  · subst hr ht
    refine z_icmp_eq (u := (t : Int)) (v := (t : Int)) (tgt := q + 13) hx hb (nI_toInt (by omega)) (nI_toInt (by omega)) d8 (by omega) (fun _ => ?_) (fun z => absurd rfl z)
    refine lv_iload hx hb d13 (lv_at hl 1 rfl) ?_
    refine z_if_ne (u := (t : Int)) (tgt := q + 30) hx hb (nI_toInt (by omega)) d15 (by omega) (fun _ => ?_) (fun z => absurd z (by omega))
    refine lv_goto (tgt := 1341) hx hb d30 ho ?_
    exact kk ls hlk
end LT
