/-! THE CLAIM OUT OF ONE WALK OF THE LAW'S BODY. Your part is whole_start (and what it stands on); all else here is the same for every law, but numbers. -/
def R_law : String := "InkHallLaw"
def lw_P (b : Addr) (xs : List Int32) (args : Array Value) (s : State) : Prop := args = #[.ref b] ∧ s.IntsAt b xs ∧ xs.length ≤ 260 ∧ (Jvm.Cond.and given_1 narrow_1).before args s = true
def lw_Q (_ : Array Value) (s : State) (o : Outcome) (t : State) : Prop := o = .returned (some (.int 1)) ∧ Framed s o t [] 945896 6263779
def lw_Z (below : List Frame) (a : Array Value) (s : State) : State → Prop := fun t => ∃ o, t.status = .running ∧ Ended t below o ∧ lw_Q a s o t
/-- the law's own end, with 1 on the stack, nothing written that was there before, its room as the claim has it -/
theorem lw_ret {p : Program} {l : Launch} {e : Env} {s : State} {m : MethodId} {below : List Frame} {meth : Method} {c : Code} {b : Nat} (hx : p.tables.exec = Jvm.exec) (hb : c.code = code) (hr : meth.sig.returnType = ret) (hlocks : meth.locks = false) {pc : Nat} {H : Heap} {ls : Array Slot} (hdg : decode code pc = .ok (.ireturn, 1)) : W p l e room_1 s m #[Value.ref b] below meth c H [] 945896 6263779 (lw_Z below #[Value.ref b] s) (F0 m pc ls [.int 1]) := by
  intro T hT X
  obtain ⟨fs, hret, hrun, hended, hW, hframe⟩ := X.leave (v := some (.int 1)) (hlocks := hlocks) (fun h => by rw [hr] at h; cases h)
  have hmeth' : T.vm.method? m = some meth := X.method'
  refine ⟨T.setFrames fs, ?_, .returned (some (.int 1)), hrun, hended, rfl, ⟨_, rfl⟩, hW, hframe⟩
  jvm_step X.here [X.here.top, hx, hb, hdg, hmeth', hr, ret, narrow_b1]
  (try refine ⟨rfl, ?_⟩); (try refine ⟨rfl, ?_⟩)
  first | (intro acts; rw [hret _ acts rfl rfl rfl]) | rw [hret _ _ rfl rfl rfl]
  exact Steps.refl _
/-- what holds at the law's entry: the machine, the code, the tables' words (any of lw_tbl by 'hts w (by decide +kernel)'), the script of L ints xs at the cell b, what the Statement gives of the start (any of its parts by flat_of_before) -/
def lw_At (p : Program) (s : State) (m : MethodId) (meth : Method) (c : Code) (b L : Nat) (xs : Nat → Int32) : Prop :=
  p.tables.exec = Jvm.exec ∧ c.code = code ∧ meth.sig.returnType = ret ∧ c.maxLocals = 9 ∧ s.vm.findClass R_law = some m.cls ∧ (∀ w ∈ lw_tbl, w.before #[Value.ref b] s = true) ∧ va_X b L xs s s.heap ∧ b < s.heap.size ∧ meth.locks = false ∧ (Jvm.Cond.and given_1 narrow_1).before #[Value.ref b] s = true
/-! the law's cell: an int out of the script, or out of its place -/
theorem xPreS {b L : Nat} {xs : Nat → Int32} {s : State} {H : Heap} {As : List Value} {A : Nat → Prop} {locs : List Loc} (hX : va_X b L xs s s.heap) (hbl : b < s.heap.size) (hbA : ¬ A b) (hS : va_S A s.heap H locs) : PreS s H (va_Pc As (fun U => va_X b L xs U U.heap ∧ b < U.heap.size)) As :=
  ⟨fun a U g mk q => ⟨q.1, va_X.moved (u := U) (U := U.calling g mk a) (Vm.Alike.refl U.vm) q.2.1, q.2.2⟩, fun U hU hW => ⟨rfl, by rw [hU]; exact va_X.moved hW.alike (hX.kept (hS.2.1 b hbl hbA)), by rw [hU]; exact Nat.lt_of_lt_of_le hbl hS.1⟩⟩
set_option maxRecDepth 100000 in
set_option maxHeartbeats 4000000 in
theorem c_L_cell (l : Launch) (b L : Nat) (xs : Nat → Int32) (k : Nat) (hk : k < 1000) (hL : L ≤ 260) : Met l yL_cell wsL_cell ({ frames := 0, cells := 0, slots := 0, locals := 0 } : Room) (va_Pc [.ref b, .int (nI k)] (fun U => va_X b L xs U U.heap ∧ b < U.heap.size)) (vp_Si (fun _ => True)) 0 0 (fun _ => False) := by
  refine mG.of (cc := cL_cell) (maxL := 3) (ret := some .int) (by decide) rfl (Nat.le_of_ble_eq_true rfl) ?_
  intro p e s m args below meth c ls hx hb hr hts hown hlocks hml hP0 hl
  obtain ⟨hX, hbl⟩ := hP0
  have hown : s.vm.findClass RL = some m.cls := hown
  have hl : lv_has ls 3 [(0, .ref b), (1, .int (nI k))] := hl
  have hS : va_S (fun _ => False) s.heap s.heap [] := va_S.rf
  have hbA : ¬ (fun _ : Nat => False) b := fun z => z
  have K : ∀ (v : Int32), W p l e ({ frames := 0, cells := 0, slots := 0, locals := 0 } : Room) s m args below meth c s.heap [] 0 0 (MQ below (vp_Si (fun _ => True)) args s 0 0 (fun _ => False)) (F0 m 19 ls [.int v]) := fun v => by
    refine lv_istore_n (lv' := [(2, .int v), (0, .ref b), (1, .int (nI k))]) hx hb dL_cell_19 rfl hl (by decide) rfl (fun ls hl => ?_)
    refine lv_iload_n hx hb dL_cell_20 rfl (lv_at hl 0 rfl) ?_
    refine lv_iload_n hx hb dL_cell_21 rfl (lv_at hl 0 rfl) ?_
    refine lv_bipush (v := nI 16) hx hb dL_cell_22 (by decide) ?_
    refine lv_iushr hx hb dL_cell_24 rfl ?_
    refine lv_ixor hx hb dL_cell_25 ?_
    refine lv_ldc (v := (1013941045 : Int32)) hx hb hown (hts _ (List.mem_of_getElem? (i := 2) rfl)) dL_cell_26 ?_
    refine lv_imul hx hb dL_cell_28 ?_
    refine lv_sipush (v := nI 305) hx hb dL_cell_29 (by decide) ?_
    refine lv_iload_n hx hb dL_cell_32 rfl (lv_at hl 2 rfl) ?_
    refine lv_imul hx hb dL_cell_33 ?_
    refine lv_iadd hx hb dL_cell_34 ?_
    exact e_ri hx hb hr hlocks trivial dL_cell_35
  refine lv_iload_n hx hb dL_cell_0 rfl (lv_at hl 1 rfl) ?_
  refine lv_aload_n hx hb dL_cell_1 rfl (lv_at hl 0 rfl) ?_
  refine va_slen hx hb hX hbl hbA hS dL_cell_2 ?_
  refine z_icmp_ge (u := (k : Int)) (v := (L : Int)) (tgt := 12) hx hb (nI_toInt (by omega)) (nI_toInt (by omega)) dL_cell_3 (by decide) (fun h9 => ?_) (fun h9 => ?_)
  · refine lv_ldc (v := (91167 : Int32)) hx hb hown (hts _ (List.mem_of_getElem? (i := 1) rfl)) dL_cell_12 ?_
    refine lv_iload_n hx hb dL_cell_14 rfl (lv_at hl 1 rfl) ?_
    refine lv_bipush (v := nI 101) hx hb dL_cell_15 (by decide) ?_
    refine lv_iadd hx hb dL_cell_17 ?_
    refine lv_imul hx hb dL_cell_18 ?_
    exact K _
  · refine lv_aload_n hx hb dL_cell_6 rfl (lv_at hl 0 rfl) ?_
    refine lv_iload_n hx hb dL_cell_7 rfl (lv_at hl 1 rfl) ?_
    refine va_sld hx hb hX hbl hbA hS (vp_in_nI (by omega) (by omega)) dL_cell_8 ?_
    refine lv_goto (tgt := 19) hx hb dL_cell_9 (by decide) ?_
    exact K _
/-! the law's loop -/
abbrev iwA (s : State) : Nat → Prop := fun q => s.heap.size ≤ q
section LLW
variable {p : Program} {l : Launch} {e : Env} {s : State} {m : MethodId} {below : List Frame} {meth : Method} {c : Code} {D : va_G} {cy : Nat → ClassId} {de mi o t d b L : Nat} {xs : Nat → Int32}
set_option maxRecDepth 100000 in
set_option maxHeartbeats 8000000 in
theorem w_law_137 (C0 : LC p l s m #[Value.ref b] c cL_law 9 wsL_law (iwA s) D cy de mi) {k : Nat} (hk : k < 110) (KK : ∀ (M2 N : mM) (cn : Nat → Nat) (x : Nat → Nat → Nat) (g : Nat → Nat) (H : Heap) (locs : List Loc) (ls : Array Slot), LWd D cy de (iwA s) s H locs M2 N o t d (k + 1) cn x g → lv_has ls 9 [(5, .int (nI (k + 1))), (4, .int (nI 1)), (0, .ref b), (1, .ref o), (2, .ref t), (3, .ref d)] → W p l e room_1 s m #[Value.ref b] below meth c H locs (4000 + 400 * (k + 1) + 5460 * (((k + 1) + 11) / 12) + 3400 * (((k + 1) + 49) / 50)) (23000 + 2400 * (k + 1) + 32860 * (((k + 1) + 11) / 12) + 22000 * (((k + 1) + 49) / 50)) (lw_Z below #[Value.ref b] s) (F0 m 31 ls [])) : ∀ (M2 N : mM) (cn : Nat → Nat) (x : Nat → Nat → Nat) (g : Nat → Nat) (H : Heap) (locs : List Loc) (ls : Array Slot), LWd D cy de (iwA s) s H locs M2 N o t d (k + 1) cn x g → lv_has ls 9 [(5, .int (nI k)), (0, .ref b), (1, .ref o), (2, .ref t), (3, .ref d)] → W p l e room_1 s m #[Value.ref b] below meth c H locs (4000 + 400 * k + 5460 * ((k + 11) / 12) + 3400 * ((k + 49) / 50) + 400) (23000 + 2400 * k + 32860 * ((k + 11) / 12) + 22000 * ((k + 49) / 50) + 2400) (lw_Z below #[Value.ref b] s) (F0 m 137 ls [.int (nI 1)]) := by
  intro M2 N cn x g H locs ls hW hl
  obtain ⟨hx, hb, hml, hown, hts, hA, hK, hX, hN0, hst⟩ := id C0
  obtain ⟨⟨hP, hD, hS⟩, hj, hd, hT, hI, hJ⟩ := hW
  refine lv_istore (lv' := [(4, .int (nI 1)), (5, .int (nI k)), (0, .ref b), (1, .ref o), (2, .ref t), (3, .ref d)]) hx hb dL_law_137 hl (by decide) rfl (fun ls hl => ?_)
  refine lv_iload hx hb dL_law_139 (lv_at hl 0 rfl) ?_
  refine k_if_eq_1 (tgt := 194) hx hb dL_law_141 (by decide) ?_
  refine lv_iload hx hb dL_law_144 (lv_at hl 1 rfl) ?_
  refine lv_bipush (v := (nI 12)) hx hb dL_law_146 (by decide) ?_
  refine n_rem (x := k) (y := 12) hx hb (by omega) (by omega) (by omega) dL_law_148 ?_
  refine z_if_gt (u := ((k % 12 : Nat) : Int)) (tgt := 174) hx hb (nI_toInt (by omega)) dL_law_149 (by decide) (fun c_149 => ?_) (fun c_149 => ?_)
  · refine lv_iload hx hb dL_law_174 (lv_at hl 1 rfl) ?_
    refine lv_bipush (v := (nI 50)) hx hb dL_law_176 (by decide) ?_
    refine n_rem (x := k) (y := 50) hx hb (by omega) (by omega) (by omega) dL_law_178 ?_
    refine z_if_gt (u := ((k % 50 : Nat) : Int)) (tgt := 190) hx hb (nI_toInt (by omega)) dL_law_179 (by decide) (fun c_179 => ?_) (fun c_179 => ?_)
    · refine lv_iconst (v := (nI 1)) hx hb dL_law_190 (by decide) ?_
      refine lv_goto (tgt := 195) hx hb dL_law_191 (by decide) ?_
      refine lv_istore (lv' := [(4, .int (nI 1)), (5, .int (nI k)), (0, .ref b), (1, .ref o), (2, .ref t), (3, .ref d)]) hx hb dL_law_195 hl (by decide) rfl (fun ls hl => ?_)
      refine n_iinc (x := k) (k := 1) (lv' := [(5, .int (nI (k + 1))), (4, .int (nI 1)), (0, .ref b), (1, .ref o), (2, .ref t), (3, .ref d)]) hx hb dL_law_197 rfl hl (q := 1) rfl (by decide) rfl (fun ls hl => ?_)
      refine lv_goto (tgt := 31) hx hb dL_law_200 (by decide) ?_
      refine W.widen (k := 4000 + 400 * (k + 1) + 5460 * (((k + 1) + 11) / 12) + 3400 * (((k + 1) + 49) / 50)) (n := 23000 + 2400 * (k + 1) + 32860 * (((k + 1) + 11) / 12) + 22000 * (((k + 1) + 49) / 50)) (by omega) (by omega) ?_
      exact KK M2 N cn x g H locs ls ⟨⟨hP, hD, hS⟩, hj, hd, hT, hI, hJ⟩ (lv_sub hl [0, 1, 2, 3, 4, 5] rfl)
    · refine lv_aload_n hx hb dL_law_182 rfl (lv_at hl 3 rfl) ?_
      refine lv_aload_n hx hb dL_law_183 rfl (lv_at hl 5 rfl) ?_
      refine i_call (v := nI 1) (va_runS (As := [.ref o, .ref d]) (rest := []) ⟨hx, hb, hml, hown, hts⟩ (c_L_refused l hst de mi D cy _ _ o d (k + 1) cn x g (TW.ou hT) (iwU_r2 hj hd) hI ⟨hJ.1.1, hJ.1.2.2.1⟩) (va_cwS 2 hts gL_law_L_refused rfl rfl rfl (by decide +kernel) ⟨Nat.le_of_ble_eq_true rfl, Nat.le_of_ble_eq_true rfl⟩) (wPreS hX hN0 hD hS hA hK hP) rfl rfl hl.1 rfl (lv_room (Nat.le_of_ble_eq_true rfl)) dL_law_184 ⟨(by show _ ≤ 945896; omega), (by show _ ≤ 6263779; omega)⟩) hD hA hS (fun H locs hP hS => ?_)
      refine k_if_eq_1 (tgt := 194) hx hb dL_law_187 (by decide) ?_
      refine lv_iconst (v := (nI 1)) hx hb dL_law_190 (by decide) ?_
      refine lv_goto (tgt := 195) hx hb dL_law_191 (by decide) ?_
      refine lv_istore (lv' := [(4, .int (nI 1)), (5, .int (nI k)), (0, .ref b), (1, .ref o), (2, .ref t), (3, .ref d)]) hx hb dL_law_195 hl (by decide) rfl (fun ls hl => ?_)
      refine n_iinc (x := k) (k := 1) (lv' := [(5, .int (nI (k + 1))), (4, .int (nI 1)), (0, .ref b), (1, .ref o), (2, .ref t), (3, .ref d)]) hx hb dL_law_197 rfl hl (q := 1) rfl (by decide) rfl (fun ls hl => ?_)
      refine lv_goto (tgt := 31) hx hb dL_law_200 (by decide) ?_
      refine W.widen (k := 4000 + 400 * (k + 1) + 5460 * (((k + 1) + 11) / 12) + 3400 * (((k + 1) + 49) / 50)) (n := 23000 + 2400 * (k + 1) + 32860 * (((k + 1) + 11) / 12) + 22000 * (((k + 1) + 49) / 50)) (by omega) (by omega) ?_
      exact KK M2 N cn x g H locs ls ⟨⟨hP, hD, hS⟩, hj, hd, hT, hI, hJ⟩ (lv_sub hl [0, 1, 2, 3, 4, 5] rfl)
  · refine lv_aload_n hx hb dL_law_152 rfl (lv_at hl 3 rfl) ?_
    refine lv_aload_n hx hb dL_law_153 rfl (lv_at hl 5 rfl) ?_
    refine l_call (v := alV cn x) (va_runS (As := [.ref o, .ref d]) (rest := []) ⟨hx, hb, hml, hown, hts⟩ (c_L_all l hst de mi D cy _ _ o d (k + 1) cn x g (TW.ou hT) (iwU_r2 hj hd) hI ⟨hJ.1.1, hJ.1.2.2.1⟩) (va_cwS 2 hts gL_law_L_all rfl rfl rfl (by decide +kernel) ⟨Nat.le_of_ble_eq_true rfl, Nat.le_of_ble_eq_true rfl⟩) (wPreS hX hN0 hD hS hA hK hP) rfl rfl hl.1 rfl (lv_room (Nat.le_of_ble_eq_true rfl)) dL_law_154 ⟨(by show _ ≤ 945896; omega), (by show _ ≤ 6263779; omega)⟩) hD hA hS (fun H locs hP hS => ?_)
    refine lv_aload_n hx hb dL_law_157 rfl (lv_at hl 4 rfl) ?_
    refine lv_aload_n hx hb dL_law_158 rfl (lv_at hl 5 rfl) ?_
    refine l_call (v := alV cn x) (va_runS (As := [.ref t, .ref d]) (rest := [.long (alV cn x)]) ⟨hx, hb, hml, hown, hts⟩ (c_L_all l hst de mi D cy _ _ t d (k + 1) cn x g (TW.tu hT) (iwU_r2 hj hd) hI ⟨hJ.1.1, hJ.1.2.2.1⟩) (va_cwS 2 hts gL_law_L_all rfl rfl rfl (by decide +kernel) ⟨Nat.le_of_ble_eq_true rfl, Nat.le_of_ble_eq_true rfl⟩) (wPreS hX hN0 hD hS hA hK hP) rfl rfl hl.1 rfl (lv_room (Nat.le_of_ble_eq_true rfl)) dL_law_159 ⟨(by show _ ≤ 945896; omega), (by show _ ≤ 6263779; omega)⟩) hD hA hS (fun H locs hP hS => ?_)
    refine W.lcmp hx hb dL_law_162 ?_
    refine n_name (lg_self _) ?_
    refine k_if_ne_0 (tgt := 194) hx hb dL_law_163 (by decide) ?_
    refine lv_aload_n hx hb dL_law_166 rfl (lv_at hl 3 rfl) ?_
    refine lv_aload_n hx hb dL_law_167 rfl (lv_at hl 5 rfl) ?_
    refine i_call (v := nI 1) (va_runS (As := [.ref o, .ref d]) (rest := []) ⟨hx, hb, hml, hown, hts⟩ (c_L_sound l hst de mi D cy _ _ o d (k + 1) cn x g (TW.ou hT) (iwU_r2 hj hd) hI ⟨hJ.1.1, hJ.1.2.2.1⟩) (va_cwS 2 hts gL_law_L_sound rfl rfl rfl (by decide +kernel) ⟨Nat.le_of_ble_eq_true rfl, Nat.le_of_ble_eq_true rfl⟩) (wPreS hX hN0 hD hS hA hK hP) rfl rfl hl.1 rfl (lv_room (Nat.le_of_ble_eq_true rfl)) dL_law_168 ⟨(by show _ ≤ 945896; omega), (by show _ ≤ 6263779; omega)⟩) hD hA hS (fun H locs hP hS => ?_)
    refine k_if_eq_1 (tgt := 194) hx hb dL_law_171 (by decide) ?_
    refine lv_iload hx hb dL_law_174 (lv_at hl 1 rfl) ?_
    refine lv_bipush (v := (nI 50)) hx hb dL_law_176 (by decide) ?_
    refine n_rem (x := k) (y := 50) hx hb (by omega) (by omega) (by omega) dL_law_178 ?_
    refine z_if_gt (u := ((k % 50 : Nat) : Int)) (tgt := 190) hx hb (nI_toInt (by omega)) dL_law_179 (by decide) (fun c_179 => ?_) (fun c_179 => ?_)
    · refine lv_iconst (v := (nI 1)) hx hb dL_law_190 (by decide) ?_
      refine lv_goto (tgt := 195) hx hb dL_law_191 (by decide) ?_
      refine lv_istore (lv' := [(4, .int (nI 1)), (5, .int (nI k)), (0, .ref b), (1, .ref o), (2, .ref t), (3, .ref d)]) hx hb dL_law_195 hl (by decide) rfl (fun ls hl => ?_)
      refine n_iinc (x := k) (k := 1) (lv' := [(5, .int (nI (k + 1))), (4, .int (nI 1)), (0, .ref b), (1, .ref o), (2, .ref t), (3, .ref d)]) hx hb dL_law_197 rfl hl (q := 1) rfl (by decide) rfl (fun ls hl => ?_)
      refine lv_goto (tgt := 31) hx hb dL_law_200 (by decide) ?_
      refine W.widen (k := 4000 + 400 * (k + 1) + 5460 * (((k + 1) + 11) / 12) + 3400 * (((k + 1) + 49) / 50)) (n := 23000 + 2400 * (k + 1) + 32860 * (((k + 1) + 11) / 12) + 22000 * (((k + 1) + 49) / 50)) (by omega) (by omega) ?_
      exact KK M2 N cn x g H locs ls ⟨⟨hP, hD, hS⟩, hj, hd, hT, hI, hJ⟩ (lv_sub hl [0, 1, 2, 3, 4, 5] rfl)
    · refine lv_aload_n hx hb dL_law_182 rfl (lv_at hl 3 rfl) ?_
      refine lv_aload_n hx hb dL_law_183 rfl (lv_at hl 5 rfl) ?_
      refine i_call (v := nI 1) (va_runS (As := [.ref o, .ref d]) (rest := []) ⟨hx, hb, hml, hown, hts⟩ (c_L_refused l hst de mi D cy _ _ o d (k + 1) cn x g (TW.ou hT) (iwU_r2 hj hd) hI ⟨hJ.1.1, hJ.1.2.2.1⟩) (va_cwS 2 hts gL_law_L_refused rfl rfl rfl (by decide +kernel) ⟨Nat.le_of_ble_eq_true rfl, Nat.le_of_ble_eq_true rfl⟩) (wPreS hX hN0 hD hS hA hK hP) rfl rfl hl.1 rfl (lv_room (Nat.le_of_ble_eq_true rfl)) dL_law_184 ⟨(by show _ ≤ 945896; omega), (by show _ ≤ 6263779; omega)⟩) hD hA hS (fun H locs hP hS => ?_)
      refine k_if_eq_1 (tgt := 194) hx hb dL_law_187 (by decide) ?_
      refine lv_iconst (v := (nI 1)) hx hb dL_law_190 (by decide) ?_
      refine lv_goto (tgt := 195) hx hb dL_law_191 (by decide) ?_
      refine lv_istore (lv' := [(4, .int (nI 1)), (5, .int (nI k)), (0, .ref b), (1, .ref o), (2, .ref t), (3, .ref d)]) hx hb dL_law_195 hl (by decide) rfl (fun ls hl => ?_)
      refine n_iinc (x := k) (k := 1) (lv' := [(5, .int (nI (k + 1))), (4, .int (nI 1)), (0, .ref b), (1, .ref o), (2, .ref t), (3, .ref d)]) hx hb dL_law_197 rfl hl (q := 1) rfl (by decide) rfl (fun ls hl => ?_)
      refine lv_goto (tgt := 31) hx hb dL_law_200 (by decide) ?_
      refine W.widen (k := 4000 + 400 * (k + 1) + 5460 * (((k + 1) + 11) / 12) + 3400 * (((k + 1) + 49) / 50)) (n := 23000 + 2400 * (k + 1) + 32860 * (((k + 1) + 11) / 12) + 22000 * (((k + 1) + 49) / 50)) (by omega) (by omega) ?_
      exact KK M2 N cn x g H locs ls ⟨⟨hP, hD, hS⟩, hj, hd, hT, hI, hJ⟩ (lv_sub hl [0, 1, 2, 3, 4, 5] rfl)
set_option maxRecDepth 100000 in
set_option maxHeartbeats 8000000 in
theorem w_law_31 (C0 : LC p l s m #[Value.ref b] c cL_law 9 wsL_law (iwA s) D cy de mi) (hL : L ≤ 260) (hXs : va_X b L xs s s.heap) (hbl : b < s.heap.size) (hbA : ¬ iwA s b) (KE : ∀ (M2 N : mM) (cn : Nat → Nat) (x : Nat → Nat → Nat) (g : Nat → Nat) (H : Heap) (locs : List Loc) (ls : Array Slot), LWd D cy de (iwA s) s H locs M2 N o t d 110 cn x g → lv_has ls 9 [(4, .int (nI 1)), (0, .ref b), (1, .ref o), (2, .ref t), (3, .ref d)] → W p l e room_1 s m #[Value.ref b] below meth c H locs (4000 + 400 * 110 + 5460 * ((110 + 11) / 12) + 3400 * ((110 + 49) / 50)) (23000 + 2400 * 110 + 32860 * ((110 + 11) / 12) + 22000 * ((110 + 49) / 50)) (lw_Z below #[Value.ref b] s) (F0 m 203 ls [])) : ∀ (j k : Nat), k + j = 110 → ∀ (M2 N : mM) (cn : Nat → Nat) (x : Nat → Nat → Nat) (g : Nat → Nat) (H : Heap) (locs : List Loc) (ls : Array Slot), LWd D cy de (iwA s) s H locs M2 N o t d k cn x g → lv_has ls 9 [(5, .int (nI k)), (4, .int (nI 1)), (0, .ref b), (1, .ref o), (2, .ref t), (3, .ref d)] → W p l e room_1 s m #[Value.ref b] below meth c H locs (4000 + 400 * k + 5460 * ((k + 11) / 12) + 3400 * ((k + 49) / 50)) (23000 + 2400 * k + 32860 * ((k + 11) / 12) + 22000 * ((k + 49) / 50)) (lw_Z below #[Value.ref b] s) (F0 m 31 ls [])
  | 0, k, hk => by
    intro M2 N cn x g H locs ls hW hl
    have hk9 : k = 110 := by omega
    subst hk9
    obtain ⟨hx, hb, hml, hown, hts, hA, hK, hX, hN0, hst⟩ := id C0
    obtain ⟨⟨hP, hD, hS⟩, hj, hd, hT, hI, hJ⟩ := hW
    refine lv_iload hx hb dL_law_31 (lv_at hl 0 rfl) ?_
    refine lv_bipush (v := (nI 110)) hx hb dL_law_33 (by decide) ?_
    refine z_icmp_ge (u := ((110 : Nat) : Int)) (v := ((110 : Nat) : Int)) (tgt := 203) hx hb (nI_toInt (by omega)) (nI_toInt (by omega)) dL_law_35 (by decide) (fun c_35 => ?_) (fun c_35 => ?_)
    · exact KE M2 N cn x g H locs ls ⟨⟨hP, hD, hS⟩, hj, hd, hT, hI, hJ⟩ (lv_sub hl [1, 2, 3, 4, 5] rfl)
    · exfalso; omega
  | j + 1, k, hk => by
    intro M2 N cn x g H locs ls hW hl
    obtain ⟨hx, hb, hml, hown, hts, hA, hK, hX, hN0, hst⟩ := id C0
    obtain ⟨⟨hP, hD, hS⟩, hj, hd, hT, hI, hJ⟩ := hW
    refine lv_iload hx hb dL_law_31 (lv_at hl 0 rfl) ?_
    refine lv_bipush (v := (nI 110)) hx hb dL_law_33 (by decide) ?_
    refine z_icmp_ge (u := ((k : Nat) : Int)) (v := ((110 : Nat) : Int)) (tgt := 203) hx hb (nI_toInt (by omega)) (nI_toInt (by omega)) dL_law_35 (by decide) (fun c_35 => ?_) (fun c_35 => ?_)
    · exfalso; omega
    · refine lv_iload hx hb dL_law_38 (lv_at hl 1 rfl) ?_
      refine k_if_eq_1 (tgt := 203) hx hb dL_law_40 (by decide) ?_
      refine lv_aload_n hx hb dL_law_43 rfl (lv_at hl 2 rfl) ?_
      refine lv_iconst (v := (nI 2)) hx hb dL_law_44 (by decide) ?_
      refine lv_iload hx hb dL_law_45 (lv_at hl 0 rfl) ?_
      refine n_mul (x := 2) (y := k) hx hb dL_law_47 ?_
      refine vp_callSi (W.runS (As := [.ref b, .int (nI (2 * k))]) (rest := []) ⟨hx, hb, hml, hown, hts⟩ (c_L_cell l b L xs (2 * k) (by omega) hL) (va_cwS 2 hts gL_law_L_cell rfl rfl rfl (by decide +kernel) ⟨Nat.le_of_ble_eq_true rfl, Nat.le_of_ble_eq_true rfl⟩) (xPreS hXs hbl hbA hS) rfl rfl hl.1 rfl (lv_room (Nat.le_of_ble_eq_true rfl)) dL_law_48 ⟨(by show _ ≤ 945896; omega), (by show _ ≤ 6263779; omega)⟩) (fun xv _ => ?_)
      refine lv_istore (lv' := [(6, .int xv), (5, .int (nI k)), (4, .int (nI 1)), (0, .ref b), (1, .ref o), (2, .ref t), (3, .ref d)]) hx hb dL_law_51 hl (by decide) rfl (fun ls hl => ?_)
      refine lv_aload_n hx hb dL_law_53 rfl (lv_at hl 3 rfl) ?_
      refine lv_iconst (v := (nI 2)) hx hb dL_law_54 (by decide) ?_
      refine lv_iload hx hb dL_law_55 (lv_at hl 1 rfl) ?_
      refine n_mul (x := 2) (y := k) hx hb dL_law_57 ?_
      refine lv_iconst (v := (nI 1)) hx hb dL_law_58 (by decide) ?_
      refine n_add (x := 2 * k) (y := 1) hx hb dL_law_59 ?_
      refine vp_callSi (W.runS (As := [.ref b, .int (nI ((2 * k) + 1))]) (rest := []) ⟨hx, hb, hml, hown, hts⟩ (c_L_cell l b L xs ((2 * k) + 1) (by omega) hL) (va_cwS 2 hts gL_law_L_cell rfl rfl rfl (by decide +kernel) ⟨Nat.le_of_ble_eq_true rfl, Nat.le_of_ble_eq_true rfl⟩) (xPreS hXs hbl hbA hS) rfl rfl hl.1 rfl (lv_room (Nat.le_of_ble_eq_true rfl)) dL_law_60 ⟨(by show _ ≤ 945896; omega), (by show _ ≤ 6263779; omega)⟩) (fun zv _ => ?_)
      refine lv_istore (lv' := [(7, .int zv), (6, .int xv), (5, .int (nI k)), (4, .int (nI 1)), (0, .ref b), (1, .ref o), (2, .ref t), (3, .ref d)]) hx hb dL_law_63 hl (by decide) rfl (fun ls hl => ?_)
      refine lv_iload hx hb dL_law_65 (lv_at hl 1 rfl) ?_
      refine lv_bipush (v := (nI 20)) hx hb dL_law_67 (by decide) ?_
      refine vp_callSi (W.runS (As := [.int xv, .int (nI 20)]) (rest := []) ⟨hx, hb, hml, hown, hts⟩ (c_L_some l xv 20 (by omega) (by omega)) (va_cwS 2 hts gL_law_L_some rfl rfl rfl (by decide +kernel) ⟨Nat.le_of_ble_eq_true rfl, Nat.le_of_ble_eq_true rfl⟩) mPre0 rfl rfl hl.1 rfl (lv_room (Nat.le_of_ble_eq_true rfl)) dL_law_69 ⟨(by show _ ≤ 945896; omega), (by show _ ≤ 6263779; omega)⟩) (fun r9 hr9 => ?_)
      have hr9 : r9 = nI (someF xv 20) := hr9
      subst hr9
      have hs_sm1 := someF_lt xv (n := 20) (by omega)
      obtain ⟨sm1, e_sm1⟩ : ∃ sm1 : Nat, sm1 = someF xv 20 := ⟨_, rfl⟩
      rw [← e_sm1] at hs_sm1 ⊢
      refine lv_istore (lv' := [(8, .int (nI sm1)), (7, .int zv), (6, .int xv), (5, .int (nI k)), (4, .int (nI 1)), (0, .ref b), (1, .ref o), (2, .ref t), (3, .ref d)]) hx hb dL_law_72 hl (by decide) rfl (fun ls hl => ?_)
      refine lv_iload hx hb dL_law_74 (lv_at hl 0 rfl) ?_
      refine lv_bipush (v := (nI 9)) hx hb dL_law_76 (by decide) ?_
      refine z_icmp_lt (u := ((sm1 : Nat) : Int)) (v := ((9 : Nat) : Int)) (tgt := 88) hx hb (nI_toInt (by omega)) (nI_toInt (by omega)) dL_law_78 (by decide) (fun c_78 => ?_) (fun c_78 => ?_)
      · refine lv_aload_n hx hb dL_law_88 rfl (lv_at hl 6 rfl) ?_
        refine lv_aload_n hx hb dL_law_89 rfl (lv_at hl 7 rfl) ?_
        refine lv_aload_n hx hb dL_law_90 rfl (lv_at hl 8 rfl) ?_
        refine lv_iload hx hb dL_law_91 (lv_at hl 2 rfl) ?_
        refine lv_iconst (v := (nI 5)) hx hb dL_law_93 (by decide) ?_
        refine lv_ishr hx hb dL_law_94 ?_
        refine lv_iload hx hb dL_law_95 (lv_at hl 1 rfl) ?_
        refine m_calli (va_runS (As := [.ref o, .ref t, .ref d, .int (xv >>> ((nI 5) &&& 31)), .int zv]) (rest := []) ⟨hx, hb, hml, hown, hts⟩ (c_L_strokes l hst de mi D cy M2 N _ o t d k cn x g _ _ (by omega) hj hd hT hI hJ) (va_cwS 5 hts gL_law_L_strokes rfl rfl rfl (by decide +kernel) ⟨Nat.le_of_ble_eq_true rfl, Nat.le_of_ble_eq_true rfl⟩) (wPreS hX hN0 hD hS hA hK hP) rfl rfl hl.1 rfl (lv_room (Nat.le_of_ble_eq_true rfl)) dL_law_97 ⟨(by show _ ≤ 945896; omega), (by show _ ≤ 6263779; omega)⟩) hD hA hS (fun r M1 H locs hq hP hD hS _ _ _ => ?_)
        obtain ⟨rfl, M2, N, cn, x, g, rfl, hj, hd, hT, hI, hJ⟩ := hq
        refine lv_goto (tgt := 137) hx hb dL_law_100 (by decide) ?_
        refine W.widen (k := 4000 + 400 * k + 5460 * ((k + 11) / 12) + 3400 * ((k + 49) / 50) + 400) (n := 23000 + 2400 * k + 32860 * ((k + 11) / 12) + 22000 * ((k + 49) / 50) + 2400) (by omega) (by omega) ?_
        exact w_law_137 C0 (by omega) (w_law_31 C0 hL hXs hbl hbA KE j (k + 1) (by omega)) M2 N cn x g H locs ls ⟨⟨hP, hD, hS⟩, hj, hd, hT, hI, hJ⟩ (lv_sub hl [3, 5, 6, 7, 8] rfl)
      · refine lv_iload hx hb dL_law_81 (lv_at hl 3 rfl) ?_
        refine lv_bipush (v := (nI 6)) hx hb dL_law_83 (by decide) ?_
        refine z_icmp_ge (u := ((k : Nat) : Int)) (v := ((6 : Nat) : Int)) (tgt := 103) hx hb (nI_toInt (by omega)) (nI_toInt (by omega)) dL_law_85 (by decide) (fun c_85 => ?_) (fun c_85 => ?_)
        · refine lv_iload hx hb dL_law_103 (lv_at hl 0 rfl) ?_
          refine lv_bipush (v := (nI 14)) hx hb dL_law_105 (by decide) ?_
          refine z_icmp_ge (u := ((sm1 : Nat) : Int)) (v := ((14 : Nat) : Int)) (tgt := 125) hx hb (nI_toInt (by omega)) (nI_toInt (by omega)) dL_law_107 (by decide) (fun c_107 => ?_) (fun c_107 => ?_)
          · refine lv_aload_n hx hb dL_law_125 rfl (lv_at hl 6 rfl) ?_
            refine lv_aload_n hx hb dL_law_126 rfl (lv_at hl 7 rfl) ?_
            refine lv_aload_n hx hb dL_law_127 rfl (lv_at hl 8 rfl) ?_
            refine lv_iload hx hb dL_law_128 (lv_at hl 2 rfl) ?_
            refine lv_iconst (v := (nI 5)) hx hb dL_law_130 (by decide) ?_
            refine lv_ishr hx hb dL_law_131 ?_
            refine lv_iload hx hb dL_law_132 (lv_at hl 1 rfl) ?_
            refine m_calli (va_runS (As := [.ref o, .ref t, .ref d, .int (xv >>> ((nI 5) &&& 31)), .int zv]) (rest := []) ⟨hx, hb, hml, hown, hts⟩ (c_L_grades l hst de mi D cy M2 N _ o t d k cn x g _ _ (by omega) hj hd hT hI hJ) (va_cwS 5 hts gL_law_L_grades rfl rfl rfl (by decide +kernel) ⟨Nat.le_of_ble_eq_true rfl, Nat.le_of_ble_eq_true rfl⟩) (wPreS hX hN0 hD hS hA hK hP) rfl rfl hl.1 rfl (lv_room (Nat.le_of_ble_eq_true rfl)) dL_law_134 ⟨(by show _ ≤ 945896; omega), (by show _ ≤ 6263779; omega)⟩) hD hA hS (fun r M1 H locs hq hP hD hS _ _ _ => ?_)
            obtain ⟨rfl, M2, N, cn, x, g, rfl, hj, hd, hT, hI, hJ⟩ := hq
            refine W.widen (k := 4000 + 400 * k + 5460 * ((k + 11) / 12) + 3400 * ((k + 49) / 50) + 400) (n := 23000 + 2400 * k + 32860 * ((k + 11) / 12) + 22000 * ((k + 49) / 50) + 2400) (by omega) (by omega) ?_
            exact w_law_137 C0 (by omega) (w_law_31 C0 hL hXs hbl hbA KE j (k + 1) (by omega)) M2 N cn x g H locs ls ⟨⟨hP, hD, hS⟩, hj, hd, hT, hI, hJ⟩ (lv_sub hl [3, 5, 6, 7, 8] rfl)
          · refine lv_aload_n hx hb dL_law_110 rfl (lv_at hl 6 rfl) ?_
            refine lv_aload_n hx hb dL_law_111 rfl (lv_at hl 7 rfl) ?_
            refine lv_aload_n hx hb dL_law_112 rfl (lv_at hl 8 rfl) ?_
            refine lv_iload hx hb dL_law_113 (lv_at hl 2 rfl) ?_
            refine lv_iconst (v := (nI 5)) hx hb dL_law_115 (by decide) ?_
            refine lv_ishr hx hb dL_law_116 ?_
            refine lv_iload hx hb dL_law_117 (lv_at hl 1 rfl) ?_
            refine m_calli (va_runS (As := [.ref o, .ref t, .ref d, .int (xv >>> ((nI 5) &&& 31)), .int zv]) (rest := []) ⟨hx, hb, hml, hown, hts⟩ (c_L_writes l hst de mi D cy M2 N _ o t d k cn x g _ _ (by omega) hj hd hT hI hJ) (va_cwS 5 hts gL_law_L_writes rfl rfl rfl (by decide +kernel) ⟨Nat.le_of_ble_eq_true rfl, Nat.le_of_ble_eq_true rfl⟩) (wPreS hX hN0 hD hS hA hK hP) rfl rfl hl.1 rfl (lv_room (Nat.le_of_ble_eq_true rfl)) dL_law_119 ⟨(by show _ ≤ 945896; omega), (by show _ ≤ 6263779; omega)⟩) hD hA hS (fun r M1 H locs hq hP hD hS _ _ _ => ?_)
            obtain ⟨rfl, M2, N, cn, x, g, rfl, hj, hd, hT, hI, hJ⟩ := hq
            refine lv_goto (tgt := 137) hx hb dL_law_122 (by decide) ?_
            refine W.widen (k := 4000 + 400 * k + 5460 * ((k + 11) / 12) + 3400 * ((k + 49) / 50) + 400) (n := 23000 + 2400 * k + 32860 * ((k + 11) / 12) + 22000 * ((k + 49) / 50) + 2400) (by omega) (by omega) ?_
            exact w_law_137 C0 (by omega) (w_law_31 C0 hL hXs hbl hbA KE j (k + 1) (by omega)) M2 N cn x g H locs ls ⟨⟨hP, hD, hS⟩, hj, hd, hT, hI, hJ⟩ (lv_sub hl [3, 5, 6, 7, 8] rfl)
        · refine lv_aload_n hx hb dL_law_88 rfl (lv_at hl 6 rfl) ?_
          refine lv_aload_n hx hb dL_law_89 rfl (lv_at hl 7 rfl) ?_
          refine lv_aload_n hx hb dL_law_90 rfl (lv_at hl 8 rfl) ?_
          refine lv_iload hx hb dL_law_91 (lv_at hl 2 rfl) ?_
          refine lv_iconst (v := (nI 5)) hx hb dL_law_93 (by decide) ?_
          refine lv_ishr hx hb dL_law_94 ?_
          refine lv_iload hx hb dL_law_95 (lv_at hl 1 rfl) ?_
          refine m_calli (va_runS (As := [.ref o, .ref t, .ref d, .int (xv >>> ((nI 5) &&& 31)), .int zv]) (rest := []) ⟨hx, hb, hml, hown, hts⟩ (c_L_strokes l hst de mi D cy M2 N _ o t d k cn x g _ _ (by omega) hj hd hT hI hJ) (va_cwS 5 hts gL_law_L_strokes rfl rfl rfl (by decide +kernel) ⟨Nat.le_of_ble_eq_true rfl, Nat.le_of_ble_eq_true rfl⟩) (wPreS hX hN0 hD hS hA hK hP) rfl rfl hl.1 rfl (lv_room (Nat.le_of_ble_eq_true rfl)) dL_law_97 ⟨(by show _ ≤ 945896; omega), (by show _ ≤ 6263779; omega)⟩) hD hA hS (fun r M1 H locs hq hP hD hS _ _ _ => ?_)
          obtain ⟨rfl, M2, N, cn, x, g, rfl, hj, hd, hT, hI, hJ⟩ := hq
          refine lv_goto (tgt := 137) hx hb dL_law_100 (by decide) ?_
          refine W.widen (k := 4000 + 400 * k + 5460 * ((k + 11) / 12) + 3400 * ((k + 49) / 50) + 400) (n := 23000 + 2400 * k + 32860 * ((k + 11) / 12) + 22000 * ((k + 49) / 50) + 2400) (by omega) (by omega) ?_
          exact w_law_137 C0 (by omega) (w_law_31 C0 hL hXs hbl hbA KE j (k + 1) (by omega)) M2 N cn x g H locs ls ⟨⟨hP, hD, hS⟩, hj, hd, hT, hI, hJ⟩ (lv_sub hl [3, 5, 6, 7, 8] rfl)
set_option maxRecDepth 100000 in
set_option maxHeartbeats 8000000 in
theorem w_law_203 (C0 : LC p l s m #[Value.ref b] c cL_law 9 wsL_law (iwA s) D cy de mi) (hret : meth.sig.returnType = ret) (hlocks : meth.locks = false) : ∀ (M2 N : mM) (cn : Nat → Nat) (x : Nat → Nat → Nat) (g : Nat → Nat) (H : Heap) (locs : List Loc) (ls : Array Slot), LWd D cy de (iwA s) s H locs M2 N o t d 110 cn x g → lv_has ls 9 [(4, .int (nI 1)), (0, .ref b), (1, .ref o), (2, .ref t), (3, .ref d)] → W p l e room_1 s m #[Value.ref b] below meth c H locs (4000 + 400 * 110 + 5460 * ((110 + 11) / 12) + 3400 * ((110 + 49) / 50)) (23000 + 2400 * 110 + 32860 * ((110 + 11) / 12) + 22000 * ((110 + 49) / 50)) (lw_Z below #[Value.ref b] s) (F0 m 203 ls []) := by
  intro M2 N cn x g H locs ls hW hl
  obtain ⟨hx, hb, hml, hown, hts, hA, hK, hX, hN0, hst⟩ := id C0
  obtain ⟨⟨hP, hD, hS⟩, hj, hd, hT, hI, hJ⟩ := hW
  refine lv_iload hx hb dL_law_203 (lv_at hl 0 rfl) ?_
  refine k_if_eq_1 (tgt := 234) hx hb dL_law_205 (by decide) ?_
  refine lv_aload_n hx hb dL_law_208 rfl (lv_at hl 2 rfl) ?_
  refine lv_aload_n hx hb dL_law_209 rfl (lv_at hl 4 rfl) ?_
  refine l_call (v := alV cn x) (va_runS (As := [.ref o, .ref d]) (rest := []) ⟨hx, hb, hml, hown, hts⟩ (c_L_all l hst de mi D cy _ _ o d 110 cn x g (TW.ou hT) (iwU_r2 hj hd) hI ⟨hJ.1.1, hJ.1.2.2.1⟩) (va_cwS 2 hts gL_law_L_all rfl rfl rfl (by decide +kernel) ⟨Nat.le_of_ble_eq_true rfl, Nat.le_of_ble_eq_true rfl⟩) (wPreS hX hN0 hD hS hA hK hP) rfl rfl hl.1 rfl (lv_room (Nat.le_of_ble_eq_true rfl)) dL_law_210 ⟨(by show _ ≤ 945896; omega), (by show _ ≤ 6263779; omega)⟩) hD hA hS (fun H locs hP hS => ?_)
  refine lv_aload_n hx hb dL_law_213 rfl (lv_at hl 3 rfl) ?_
  refine lv_aload_n hx hb dL_law_214 rfl (lv_at hl 4 rfl) ?_
  refine l_call (v := alV cn x) (va_runS (As := [.ref t, .ref d]) (rest := [.long (alV cn x)]) ⟨hx, hb, hml, hown, hts⟩ (c_L_all l hst de mi D cy _ _ t d 110 cn x g (TW.tu hT) (iwU_r2 hj hd) hI ⟨hJ.1.1, hJ.1.2.2.1⟩) (va_cwS 2 hts gL_law_L_all rfl rfl rfl (by decide +kernel) ⟨Nat.le_of_ble_eq_true rfl, Nat.le_of_ble_eq_true rfl⟩) (wPreS hX hN0 hD hS hA hK hP) rfl rfl hl.1 rfl (lv_room (Nat.le_of_ble_eq_true rfl)) dL_law_215 ⟨(by show _ ≤ 945896; omega), (by show _ ≤ 6263779; omega)⟩) hD hA hS (fun H locs hP hS => ?_)
  refine W.lcmp hx hb dL_law_218 ?_
  refine n_name (lg_self _) ?_
  refine k_if_ne_0 (tgt := 234) hx hb dL_law_219 (by decide) ?_
  refine lv_aload_n hx hb dL_law_222 rfl (lv_at hl 2 rfl) ?_
  refine lv_aload_n hx hb dL_law_223 rfl (lv_at hl 4 rfl) ?_
  refine i_call (v := nI 1) (va_runS (As := [.ref o, .ref d]) (rest := []) ⟨hx, hb, hml, hown, hts⟩ (c_L_sound l hst de mi D cy _ _ o d 110 cn x g (TW.ou hT) (iwU_r2 hj hd) hI ⟨hJ.1.1, hJ.1.2.2.1⟩) (va_cwS 2 hts gL_law_L_sound rfl rfl rfl (by decide +kernel) ⟨Nat.le_of_ble_eq_true rfl, Nat.le_of_ble_eq_true rfl⟩) (wPreS hX hN0 hD hS hA hK hP) rfl rfl hl.1 rfl (lv_room (Nat.le_of_ble_eq_true rfl)) dL_law_224 ⟨(by show _ ≤ 945896; omega), (by show _ ≤ 6263779; omega)⟩) hD hA hS (fun H locs hP hS => ?_)
  refine k_if_eq_1 (tgt := 234) hx hb dL_law_227 (by decide) ?_
  refine lv_iconst (v := (nI 1)) hx hb dL_law_230 (by decide) ?_
  refine lv_goto (tgt := 235) hx hb dL_law_231 (by decide) ?_
  refine va_forget (fun q hq => hS.2.2 q hq) ?_
  refine W.widen (k := 945896) (n := 6263779) (by omega) (by omega) ?_
  exact lw_ret hx hb hret hlocks dL_law_235
end LLW
