/-! the law: all, one number out of everything that can be asked for -/
def fld (f : Nat → Int64 → Int64) (h : Int64) : Nat → Int64
  | 0 => h
  | n + 1 => f n (fld f h n)
def al1 (x : Nat → Nat → Nat) (k i : Nat) (h : Int64) : Int64 := h * (127 : Int64) + (zI (soV x k i)).toInt64
def al1s (x : Nat → Nat → Nat) (k : Nat) (h : Int64) : Int64 := fld (al1 x k) h 6
def al2 (x : Nat → Nat → Nat) (k : Nat) (h : Int64) : Int64 := h * (127 : Int64) + (nI (shV x (k % 3) (b2 (decide (2 < k))))).toInt64
def al3 (x : Nat → Nat → Nat) (s i : Nat) (h : Int64) : Int64 := h * (31 : Int64) + (nI (slV x s i)).toInt64
def al3s (c : Nat → Nat) (x : Nat → Nat → Nat) (s : Nat) (h : Int64) : Int64 := ((((((fld (al3 x s) h 6) * (31 : Int64) + (zI (grV x s)).toInt64) * (31 : Int64) + (zI (laV x s)).toInt64) * (1009 : Int64) + (zI (wC x s)).toInt64) * (127 : Int64) + (zI (plV c x s)).toInt64) * (31 : Int64)) + (nI (feV x s)).toInt64
def alV (c : Nat → Nat) (x : Nat → Nat → Nat) : Int64 := (fld (al3s c x) (fld (al2 x) (fld (al1s x) (17 : Int64) (c 1)) 6) (c 3)) * (127 : Int64) + (zI (atV c x 1)).toInt64
section LAL
variable {p : Program} {l : Launch} {e : Env} {s : State} {m : MethodId} {args : Array Value} {below : List Frame} {meth : Method} {c : Code} {Q : State → Prop} {D : va_G} {cy : Nat → ClassId} {de mi a d nn : Nat} {cn : Nat → Nat} {x : Nat → Nat → Nat} {g : Nat → Nat} {A : Nat → Prop} {M : mM}
set_option maxRecDepth 100000 in
set_option maxHeartbeats 4000000 in
theorem w_all_18 (C0 : LC p l s m args c cL_all 6 wsL_all A D cy de mi) (hD : mD A M) (hh : hall cy de M a cn x) (hd : M d = some (eI cy 64 g)) (hI : CI nn cn x) (hg : g 0 = cn 1 ∧ g 2 = cn 3) {h0 : Int64} {k : Nat} (hkc : k < cn 1) (KK : ∀ (H : Heap) (locs : List Loc) (ls : Array Slot), pm D M H → va_S A s.heap H locs → lv_has ls 6 [(2, .long (fld (al1 x k) h0 6)), (4, .int (nI k)), (0, .ref a), (1, .ref d)] → W p l e ({ frames := 9, cells := 1530, slots := 9180, locals := 160 } : Room) s m args below meth c H locs (24 * k + 24) (144 * k + 144) Q (F0 m 47 ls [])) : ∀ (j i : Nat), i + j = 6 → ∀ (H : Heap) (locs : List Loc) (ls : Array Slot), pm D M H → va_S A s.heap H locs → lv_has ls 6 [(5, .int (nI i)), (2, .long (fld (al1 x k) h0 i)), (4, .int (nI k)), (0, .ref a), (1, .ref d)] → W p l e ({ frames := 9, cells := 1530, slots := 9180, locals := 160 } : Room) s m args below meth c H locs (24 * k + 4 * i) (144 * k + 24 * i) Q (F0 m 18 ls [])
  | 0, i, hk => by
    intro H locs ls hP hS hl
    have hk9 : i = 6 := by omega
    subst hk9
    obtain ⟨hx, hb, hml, hown, hts, hA, hK, hX, hN0, hst⟩ := id C0
    obtain ⟨n0, n1, n2, n3, n4, -⟩ := id hI.1
    obtain ⟨g0, g2⟩ := id hg
    obtain ⟨fa, hfa⟩ := hh.fst
    refine lv_iload hx hb dL_all_18 (lv_at hl 0 rfl) ?_
    refine lv_bipush (v := (nI 6)) hx hb dL_all_20 (by decide) ?_
    refine z_icmp_ge (u := ((6 : Nat) : Int)) (v := ((6 : Nat) : Int)) (tgt := 47) hx hb (nI_toInt (by omega)) (nI_toInt (by omega)) dL_all_22 (by decide) (fun c_22 => ?_) (fun c_22 => ?_)
    · refine W.widen (k := 24 * k + 24) (n := 144 * k + 144) (by omega) (by omega) ?_
      exact KK H locs ls hP hS (lv_sub hl [1, 2, 3, 4] rfl)
    · exfalso; omega
  | j + 1, i, hk => by
    intro H locs ls hP hS hl
    obtain ⟨hx, hb, hml, hown, hts, hA, hK, hX, hN0, hst⟩ := id C0
    obtain ⟨n0, n1, n2, n3, n4, -⟩ := id hI.1
    obtain ⟨g0, g2⟩ := id hg
    obtain ⟨fa, hfa⟩ := hh.fst
    refine lv_iload hx hb dL_all_18 (lv_at hl 0 rfl) ?_
    refine lv_bipush (v := (nI 6)) hx hb dL_all_20 (by decide) ?_
    refine z_icmp_ge (u := ((i : Nat) : Int)) (v := ((6 : Nat) : Int)) (tgt := 47) hx hb (nI_toInt (by omega)) (nI_toInt (by omega)) dL_all_22 (by decide) (fun c_22 => ?_) (fun c_22 => ?_)
    · exfalso; omega
    · refine lv_lload_n hx hb dL_all_25 rfl (lv_at hl 1 rfl) ?_
      refine lv_ldc2 (v := 127) hx hb hown (hts _ (List.mem_of_getElem? (i := 2) rfl)) dL_all_26 ?_
      refine lv_lmul hx hb dL_all_29 ?_
      refine lv_aload_n hx hb dL_all_30 rfl (lv_at hl 3 rfl) ?_
      refine lv_iload hx hb dL_all_31 (lv_at hl 2 rfl) ?_
      refine lv_iload hx hb dL_all_33 (lv_at hl 0 rfl) ?_
      refine r_call (v := (zI (soV x k i))) (vx_runV (C := RX5) (As := [.int (nI k), .int (nI i)]) (rest := [.long ((fld (al1 x k) h0 i) * (127 : Int64))]) ⟨hx, hb, hml, hown, hts⟩ (q_strokeOf l hst de mi D cy _ _ a nn cn x hh hI.1 k i (by omega) (by omega) (by omega)) (cwV 2 hts gL_all_X5_strokeOf rfl rfl rfl (by decide +kernel) ⟨Nat.le_of_ble_eq_true rfl, Nat.le_of_ble_eq_true rfl⟩) (mPreXV hX hD hS hA hK hP hfa (ci := 6) rfl) rfl rfl hl.1 rfl (lv_room (Nat.le_of_ble_eq_true rfl)) dL_all_35 ⟨(by show _ ≤ 1530; omega), (by show _ ≤ 9180; omega)⟩) hD hA hS (fun H locs hP hS _ => ?_)
      refine lv_i2l hx hb dL_all_38 rfl ?_
      refine lv_ladd hx hb dL_all_39 ?_
      refine lv_lstore_n (lv' := [(2, .long (((fld (al1 x k) h0 i) * (127 : Int64)) + ((zI (soV x k i)).toInt64))), (5, .int (nI i)), (4, .int (nI k)), (0, .ref a), (1, .ref d)]) hx hb dL_all_40 rfl hl (by decide) rfl (fun ls hl => ?_)
      refine n_iinc (x := i) (k := 1) (lv' := [(5, .int (nI (i + 1))), (2, .long (((fld (al1 x k) h0 i) * (127 : Int64)) + ((zI (soV x k i)).toInt64))), (4, .int (nI k)), (0, .ref a), (1, .ref d)]) hx hb dL_all_41 rfl hl (q := 1) rfl (by decide) rfl (fun ls hl => ?_)
      refine lv_goto (tgt := 18) hx hb dL_all_44 (by decide) ?_
      have hl : lv_has ls 6 [(5, .int (nI (i + 1))), (2, .long (fld (al1 x k) h0 (i + 1))), (4, .int (nI k)), (0, .ref a), (1, .ref d)] := hl
      refine W.widen (k := 24 * k + 4 * (i + 1)) (n := 144 * k + 24 * (i + 1)) (by omega) (by omega) ?_
      exact w_all_18 C0 hD hh hd hI hg hkc KK j (i + 1) (by omega) H locs ls hP hS (lv_sub hl [0, 1, 2, 3, 4] rfl)
set_option maxRecDepth 100000 in
set_option maxHeartbeats 4000000 in
theorem w_all_7 (C0 : LC p l s m args c cL_all 6 wsL_all A D cy de mi) (hD : mD A M) (hh : hall cy de M a cn x) (hd : M d = some (eI cy 64 g)) (hI : CI nn cn x) (hg : g 0 = cn 1 ∧ g 2 = cn 3)  (KK : ∀ (H : Heap) (locs : List Loc) (ls : Array Slot), pm D M H → va_S A s.heap H locs → lv_has ls 6 [(2, .long (fld (al1s x) (17 : Int64) (cn 1))), (0, .ref a), (1, .ref d)] → W p l e ({ frames := 9, cells := 1530, slots := 9180, locals := 160 } : Room) s m args below meth c H locs (240) (1440) Q (F0 m 53 ls [])) : ∀ (j k : Nat), k + j = cn 1 → ∀ (H : Heap) (locs : List Loc) (ls : Array Slot), pm D M H → va_S A s.heap H locs → lv_has ls 6 [(2, .long (fld (al1s x) (17 : Int64) k)), (4, .int (nI k)), (0, .ref a), (1, .ref d)] → W p l e ({ frames := 9, cells := 1530, slots := 9180, locals := 160 } : Room) s m args below meth c H locs (24 * k) (144 * k) Q (F0 m 7 ls [])
  | 0, k, hk => by
    intro H locs ls hP hS hl
    have hk9 : k = cn 1 := by omega
    subst hk9
    obtain ⟨hx, hb, hml, hown, hts, hA, hK, hX, hN0, hst⟩ := id C0
    obtain ⟨n0, n1, n2, n3, n4, -⟩ := id hI.1
    obtain ⟨g0, g2⟩ := id hg
    obtain ⟨fa, hfa⟩ := hh.fst
    refine lv_iload hx hb dL_all_7 (lv_at hl 1 rfl) ?_
    refine lv_aload_n hx hb dL_all_9 rfl (lv_at hl 3 rfl) ?_
    refine lv_iconst (v := (nI 0)) hx hb dL_all_10 (by decide) ?_
    refine n_iald (g := g) (n := 64) (i := 0) hx hb hK hP hd (by omega) (by decide) dL_all_11 ?_
    refine z_icmp_ge (u := (((cn 1) : Nat) : Int)) (v := ((g 0 : Nat) : Int)) (tgt := 53) hx hb (nI_toInt (by omega)) (nI_toInt (by omega)) dL_all_12 (by decide) (fun c_12 => ?_) (fun c_12 => ?_)
    · refine W.widen (k := 240) (n := 1440) (by omega) (by omega) ?_
      exact KK H locs ls hP hS (lv_sub hl [0, 2, 3] rfl)
    · exfalso; omega
  | j + 1, k, hk => by
    intro H locs ls hP hS hl
    obtain ⟨hx, hb, hml, hown, hts, hA, hK, hX, hN0, hst⟩ := id C0
    obtain ⟨n0, n1, n2, n3, n4, -⟩ := id hI.1
    obtain ⟨g0, g2⟩ := id hg
    obtain ⟨fa, hfa⟩ := hh.fst
    refine lv_iload hx hb dL_all_7 (lv_at hl 1 rfl) ?_
    refine lv_aload_n hx hb dL_all_9 rfl (lv_at hl 3 rfl) ?_
    refine lv_iconst (v := (nI 0)) hx hb dL_all_10 (by decide) ?_
    refine n_iald (g := g) (n := 64) (i := 0) hx hb hK hP hd (by omega) (by decide) dL_all_11 ?_
    refine z_icmp_ge (u := ((k : Nat) : Int)) (v := ((g 0 : Nat) : Int)) (tgt := 53) hx hb (nI_toInt (by omega)) (nI_toInt (by omega)) dL_all_12 (by decide) (fun c_12 => ?_) (fun c_12 => ?_)
    · exfalso; omega
    · refine lv_iconst (v := (nI 0)) hx hb dL_all_15 (by decide) ?_
      refine lv_istore (lv' := [(5, .int (nI 0)), (2, .long (fld (al1s x) (17 : Int64) k)), (4, .int (nI k)), (0, .ref a), (1, .ref d)]) hx hb dL_all_16 hl (by decide) rfl (fun ls hl => ?_)
      refine w_all_18 (h0 := fld (al1s x) (17 : Int64) k) (k := k) C0 hD hh hd hI hg (by omega) ?_ 6 0 (by decide) H locs ls hP hS (lv_sub hl [0, 1, 2, 3, 4] rfl)
      clear hP hS hl
      intro H locs ls hP hS hl
      refine n_iinc (x := k) (k := 1) (lv' := [(4, .int (nI (k + 1))), (2, .long (fld (al1 x k) (fld (al1s x) (17 : Int64) k) 6)), (0, .ref a), (1, .ref d)]) hx hb dL_all_47 rfl hl (q := 1) rfl (by decide) rfl (fun ls hl => ?_)
      refine lv_goto (tgt := 7) hx hb dL_all_50 (by decide) ?_
      have hl : lv_has ls 6 [(4, .int (nI (k + 1))), (2, .long (fld (al1s x) (17 : Int64) (k + 1))), (0, .ref a), (1, .ref d)] := hl
      refine W.widen (k := 24 * (k + 1)) (n := 144 * (k + 1)) (by omega) (by omega) ?_
      exact w_all_7 C0 hD hh hd hI hg  KK j (k + 1) (by omega) H locs ls hP hS (lv_sub hl [1, 0, 2, 3] rfl)
set_option maxRecDepth 100000 in
set_option maxHeartbeats 4000000 in
theorem w_all_56 (C0 : LC p l s m args c cL_all 6 wsL_all A D cy de mi) (hD : mD A M) (hh : hall cy de M a cn x) (hd : M d = some (eI cy 64 g)) (hI : CI nn cn x) (hg : g 0 = cn 1 ∧ g 2 = cn 3) {h0 : Int64} (KK : ∀ (H : Heap) (locs : List Loc) (ls : Array Slot), pm D M H → va_S A s.heap H locs → lv_has ls 6 [(2, .long (fld (al2 x) h0 6)), (0, .ref a), (1, .ref d)] → W p l e ({ frames := 9, cells := 1530, slots := 9180, locals := 160 } : Room) s m args below meth c H locs (246) (1476) Q (F0 m 96 ls [])) : ∀ (j k : Nat), k + j = 6 → ∀ (H : Heap) (locs : List Loc) (ls : Array Slot), pm D M H → va_S A s.heap H locs → lv_has ls 6 [(2, .long (fld (al2 x) h0 k)), (4, .int (nI k)), (0, .ref a), (1, .ref d)] → W p l e ({ frames := 9, cells := 1530, slots := 9180, locals := 160 } : Room) s m args below meth c H locs (240 + k) (1440 + 6 * k) Q (F0 m 56 ls [])
  | 0, k, hk => by
    intro H locs ls hP hS hl
    have hk9 : k = 6 := by omega
    subst hk9
    obtain ⟨hx, hb, hml, hown, hts, hA, hK, hX, hN0, hst⟩ := id C0
    obtain ⟨n0, n1, n2, n3, n4, -⟩ := id hI.1
    obtain ⟨g0, g2⟩ := id hg
    obtain ⟨fa, hfa⟩ := hh.fst
    refine lv_iload hx hb dL_all_56 (lv_at hl 1 rfl) ?_
    refine lv_bipush (v := (nI 6)) hx hb dL_all_58 (by decide) ?_
    refine z_icmp_ge (u := ((6 : Nat) : Int)) (v := ((6 : Nat) : Int)) (tgt := 96) hx hb (nI_toInt (by omega)) (nI_toInt (by omega)) dL_all_60 (by decide) (fun c_60 => ?_) (fun c_60 => ?_)
    · refine W.widen (k := 246) (n := 1476) (by omega) (by omega) ?_
      exact KK H locs ls hP hS (lv_sub hl [0, 2, 3] rfl)
    · exfalso; omega
  | j + 1, k, hk => by
    intro H locs ls hP hS hl
    obtain ⟨hx, hb, hml, hown, hts, hA, hK, hX, hN0, hst⟩ := id C0
    obtain ⟨n0, n1, n2, n3, n4, -⟩ := id hI.1
    obtain ⟨g0, g2⟩ := id hg
    obtain ⟨fa, hfa⟩ := hh.fst
    have hsc := sh_bd hI (k % 3) (b2 (decide (2 < k)))
    refine lv_iload hx hb dL_all_56 (lv_at hl 1 rfl) ?_
    refine lv_bipush (v := (nI 6)) hx hb dL_all_58 (by decide) ?_
    refine z_icmp_ge (u := ((k : Nat) : Int)) (v := ((6 : Nat) : Int)) (tgt := 96) hx hb (nI_toInt (by omega)) (nI_toInt (by omega)) dL_all_60 (by decide) (fun c_60 => ?_) (fun c_60 => ?_)
    · exfalso; omega
    · refine lv_lload_n hx hb dL_all_63 rfl (lv_at hl 0 rfl) ?_
      refine lv_ldc2 (v := 127) hx hb hown (hts _ (List.mem_of_getElem? (i := 2) rfl)) dL_all_64 ?_
      refine lv_lmul hx hb dL_all_67 ?_
      refine lv_aload_n hx hb dL_all_68 rfl (lv_at hl 2 rfl) ?_
      refine lv_iload hx hb dL_all_69 (lv_at hl 1 rfl) ?_
      refine lv_iconst (v := (nI 3)) hx hb dL_all_71 (by decide) ?_
      refine n_rem (x := k) (y := 3) hx hb (by omega) (by omega) (by omega) dL_all_72 ?_
      refine lv_iload hx hb dL_all_73 (lv_at hl 1 rfl) ?_
      refine lv_iconst (v := (nI 2)) hx hb dL_all_75 (by decide) ?_
      refine z_icmp_le (u := ((k : Nat) : Int)) (v := ((2 : Nat) : Int)) (tgt := 83) hx hb (nI_toInt (by omega)) (nI_toInt (by omega)) dL_all_76 (by decide) (fun c_76 => ?_) (fun c_76 => ?_)
      · have hdk : decide (2 < k) = false := decide_eq_false (by omega)
        refine lv_iconst (v := (nI 0)) hx hb dL_all_83 (by decide) ?_
        refine r_call (v := (nI (shV x (k % 3) (b2 false)))) (vx_runV (C := RX5) (As := [.int (nI (k % 3)), .int (nI (b2 false))]) (rest := [.long ((fld (al2 x) h0 k) * (127 : Int64))]) ⟨hx, hb, hml, hown, hts⟩ (q_sheets l hst de mi D cy _ _ a nn cn x hh hI.1 (k % 3) false (by omega)) (cwV 2 hts gL_all_X5_sheets rfl rfl rfl (by decide +kernel) ⟨Nat.le_of_ble_eq_true rfl, Nat.le_of_ble_eq_true rfl⟩) (mPreXV hX hD hS hA hK hP hfa (ci := 6) rfl) rfl rfl hl.1 rfl (lv_room (Nat.le_of_ble_eq_true rfl)) dL_all_84 ⟨(by show _ ≤ 1530; omega), (by show _ ≤ 9180; omega)⟩) hD hA hS (fun H locs hP hS _ => ?_)
        refine lv_i2l hx hb dL_all_87 rfl ?_
        refine lv_ladd hx hb dL_all_88 ?_
        refine lv_lstore_n (lv' := [(2, .long (((fld (al2 x) h0 k) * (127 : Int64)) + ((nI (shV x (k % 3) (b2 false))).toInt64))), (4, .int (nI k)), (0, .ref a), (1, .ref d)]) hx hb dL_all_89 rfl hl (by decide) rfl (fun ls hl => ?_)
        refine n_iinc (x := k) (k := 1) (lv' := [(4, .int (nI (k + 1))), (2, .long (((fld (al2 x) h0 k) * (127 : Int64)) + ((nI (shV x (k % 3) (b2 false))).toInt64))), (0, .ref a), (1, .ref d)]) hx hb dL_all_90 rfl hl (q := 1) rfl (by decide) rfl (fun ls hl => ?_)
        refine lv_goto (tgt := 56) hx hb dL_all_93 (by decide) ?_
        have hl : lv_has ls 6 [(4, .int (nI (k + 1))), (2, .long (fld (al2 x) h0 (k + 1))), (0, .ref a), (1, .ref d)] := by
          have e9 : fld (al2 x) h0 (k + 1) = (fld (al2 x) h0 k) * (127 : Int64) + (nI (shV x (k % 3) (b2 false))).toInt64 := by rw [← hdk]; rfl
          rw [e9]
          exact hl
        refine W.widen (k := 240 + (k + 1)) (n := 1440 + 6 * (k + 1)) (by omega) (by omega) ?_
        exact w_all_56 C0 hD hh hd hI hg KK j (k + 1) (by omega) H locs ls hP hS (lv_sub hl [1, 0, 2, 3] rfl)
      · have hdk : decide (2 < k) = true := decide_eq_true (by omega)
        refine lv_iconst (v := (nI 1)) hx hb dL_all_79 (by decide) ?_
        refine lv_goto (tgt := 84) hx hb dL_all_80 (by decide) ?_
        refine r_call (v := (nI (shV x (k % 3) (b2 true)))) (vx_runV (C := RX5) (As := [.int (nI (k % 3)), .int (nI (b2 true))]) (rest := [.long ((fld (al2 x) h0 k) * (127 : Int64))]) ⟨hx, hb, hml, hown, hts⟩ (q_sheets l hst de mi D cy _ _ a nn cn x hh hI.1 (k % 3) true (by omega)) (cwV 2 hts gL_all_X5_sheets rfl rfl rfl (by decide +kernel) ⟨Nat.le_of_ble_eq_true rfl, Nat.le_of_ble_eq_true rfl⟩) (mPreXV hX hD hS hA hK hP hfa (ci := 6) rfl) rfl rfl hl.1 rfl (lv_room (Nat.le_of_ble_eq_true rfl)) dL_all_84 ⟨(by show _ ≤ 1530; omega), (by show _ ≤ 9180; omega)⟩) hD hA hS (fun H locs hP hS _ => ?_)
        refine lv_i2l hx hb dL_all_87 rfl ?_
        refine lv_ladd hx hb dL_all_88 ?_
        refine lv_lstore_n (lv' := [(2, .long (((fld (al2 x) h0 k) * (127 : Int64)) + ((nI (shV x (k % 3) (b2 true))).toInt64))), (4, .int (nI k)), (0, .ref a), (1, .ref d)]) hx hb dL_all_89 rfl hl (by decide) rfl (fun ls hl => ?_)
        refine n_iinc (x := k) (k := 1) (lv' := [(4, .int (nI (k + 1))), (2, .long (((fld (al2 x) h0 k) * (127 : Int64)) + ((nI (shV x (k % 3) (b2 true))).toInt64))), (0, .ref a), (1, .ref d)]) hx hb dL_all_90 rfl hl (q := 1) rfl (by decide) rfl (fun ls hl => ?_)
        refine lv_goto (tgt := 56) hx hb dL_all_93 (by decide) ?_
        have hl : lv_has ls 6 [(4, .int (nI (k + 1))), (2, .long (fld (al2 x) h0 (k + 1))), (0, .ref a), (1, .ref d)] := by
          have e9 : fld (al2 x) h0 (k + 1) = (fld (al2 x) h0 k) * (127 : Int64) + (nI (shV x (k % 3) (b2 true))).toInt64 := by rw [← hdk]; rfl
          rw [e9]
          exact hl
        refine W.widen (k := 240 + (k + 1)) (n := 1440 + 6 * (k + 1)) (by omega) (by omega) ?_
        exact w_all_56 C0 hD hh hd hI hg KK j (k + 1) (by omega) H locs ls hP hS (lv_sub hl [1, 0, 2, 3] rfl)
set_option maxRecDepth 100000 in
set_option maxHeartbeats 4000000 in
theorem w_all_110 (C0 : LC p l s m args c cL_all 6 wsL_all A D cy de mi) (hD : mD A M) (hh : hall cy de M a cn x) (hd : M d = some (eI cy 64 g)) (hI : CI nn cn x) (hg : g 0 = cn 1 ∧ g 2 = cn 3) {h0 : Int64} {k : Nat} (hkc : k < cn 3) (KK : ∀ (H : Heap) (locs : List Loc) (ls : Array Slot), pm D M H → va_S A s.heap H locs → lv_has ls 6 [(2, .long (fld (al3 x k) h0 6)), (4, .int (nI k)), (0, .ref a), (1, .ref d)] → W p l e ({ frames := 9, cells := 1530, slots := 9180, locals := 160 } : Room) s m args below meth c H locs (246 + 32 * k + 24) (1476 + 192 * k + 144) Q (F0 m 139 ls [])) : ∀ (j i : Nat), i + j = 6 → ∀ (H : Heap) (locs : List Loc) (ls : Array Slot), pm D M H → va_S A s.heap H locs → lv_has ls 6 [(5, .int (nI i)), (2, .long (fld (al3 x k) h0 i)), (4, .int (nI k)), (0, .ref a), (1, .ref d)] → W p l e ({ frames := 9, cells := 1530, slots := 9180, locals := 160 } : Room) s m args below meth c H locs (246 + 32 * k + 4 * i) (1476 + 192 * k + 24 * i) Q (F0 m 110 ls [])
  | 0, i, hk => by
    intro H locs ls hP hS hl
    have hk9 : i = 6 := by omega
    subst hk9
    obtain ⟨hx, hb, hml, hown, hts, hA, hK, hX, hN0, hst⟩ := id C0
    obtain ⟨n0, n1, n2, n3, n4, -⟩ := id hI.1
    obtain ⟨g0, g2⟩ := id hg
    obtain ⟨fa, hfa⟩ := hh.fst
    refine lv_iload hx hb dL_all_110 (lv_at hl 0 rfl) ?_
    refine lv_bipush (v := (nI 6)) hx hb dL_all_112 (by decide) ?_
    refine z_icmp_ge (u := ((6 : Nat) : Int)) (v := ((6 : Nat) : Int)) (tgt := 139) hx hb (nI_toInt (by omega)) (nI_toInt (by omega)) dL_all_114 (by decide) (fun c_114 => ?_) (fun c_114 => ?_)
    · refine W.widen (k := 246 + 32 * k + 24) (n := 1476 + 192 * k + 144) (by omega) (by omega) ?_
      exact KK H locs ls hP hS (lv_sub hl [1, 2, 3, 4] rfl)
    · exfalso; omega
  | j + 1, i, hk => by
    intro H locs ls hP hS hl
    obtain ⟨hx, hb, hml, hown, hts, hA, hK, hX, hN0, hst⟩ := id C0
    obtain ⟨n0, n1, n2, n3, n4, -⟩ := id hI.1
    obtain ⟨g0, g2⟩ := id hg
    obtain ⟨fa, hfa⟩ := hh.fst
    refine lv_iload hx hb dL_all_110 (lv_at hl 0 rfl) ?_
    refine lv_bipush (v := (nI 6)) hx hb dL_all_112 (by decide) ?_
    refine z_icmp_ge (u := ((i : Nat) : Int)) (v := ((6 : Nat) : Int)) (tgt := 139) hx hb (nI_toInt (by omega)) (nI_toInt (by omega)) dL_all_114 (by decide) (fun c_114 => ?_) (fun c_114 => ?_)
    · exfalso; omega
    · refine lv_lload_n hx hb dL_all_117 rfl (lv_at hl 1 rfl) ?_
      refine lv_ldc2 (v := 31) hx hb hown (hts _ (List.mem_of_getElem? (i := 3) rfl)) dL_all_118 ?_
      refine lv_lmul hx hb dL_all_121 ?_
      refine lv_aload_n hx hb dL_all_122 rfl (lv_at hl 3 rfl) ?_
      refine lv_iload hx hb dL_all_123 (lv_at hl 2 rfl) ?_
      refine lv_iload hx hb dL_all_125 (lv_at hl 0 rfl) ?_
      refine r_call (v := (nI (slV x k i))) (vx_runV (C := RX5) (As := [.int (nI k), .int (nI i)]) (rest := [.long ((fld (al3 x k) h0 i) * (31 : Int64))]) ⟨hx, hb, hml, hown, hts⟩ (q_slips l hst de mi D cy _ _ a nn cn x hh hI.1 k i (by omega) (by omega) (by omega)) (cwV 2 hts gL_all_X5_slips rfl rfl rfl (by decide +kernel) ⟨Nat.le_of_ble_eq_true rfl, Nat.le_of_ble_eq_true rfl⟩) (mPreXV hX hD hS hA hK hP hfa (ci := 6) rfl) rfl rfl hl.1 rfl (lv_room (Nat.le_of_ble_eq_true rfl)) dL_all_127 ⟨(by show _ ≤ 1530; omega), (by show _ ≤ 9180; omega)⟩) hD hA hS (fun H locs hP hS _ => ?_)
      refine lv_i2l hx hb dL_all_130 rfl ?_
      refine lv_ladd hx hb dL_all_131 ?_
      refine lv_lstore_n (lv' := [(2, .long (((fld (al3 x k) h0 i) * (31 : Int64)) + ((nI (slV x k i)).toInt64))), (5, .int (nI i)), (4, .int (nI k)), (0, .ref a), (1, .ref d)]) hx hb dL_all_132 rfl hl (by decide) rfl (fun ls hl => ?_)
      refine n_iinc (x := i) (k := 1) (lv' := [(5, .int (nI (i + 1))), (2, .long (((fld (al3 x k) h0 i) * (31 : Int64)) + ((nI (slV x k i)).toInt64))), (4, .int (nI k)), (0, .ref a), (1, .ref d)]) hx hb dL_all_133 rfl hl (q := 1) rfl (by decide) rfl (fun ls hl => ?_)
      refine lv_goto (tgt := 110) hx hb dL_all_136 (by decide) ?_
      have hl : lv_has ls 6 [(5, .int (nI (i + 1))), (2, .long (fld (al3 x k) h0 (i + 1))), (4, .int (nI k)), (0, .ref a), (1, .ref d)] := hl
      refine W.widen (k := 246 + 32 * k + 4 * (i + 1)) (n := 1476 + 192 * k + 24 * (i + 1)) (by omega) (by omega) ?_
      exact w_all_110 C0 hD hh hd hI hg hkc KK j (i + 1) (by omega) H locs ls hP hS (lv_sub hl [0, 1, 2, 3, 4] rfl)
set_option maxRecDepth 100000 in
set_option maxHeartbeats 4000000 in
theorem w_all_99 (C0 : LC p l s m args c cL_all 6 wsL_all A D cy de mi) (hD : mD A M) (hh : hall cy de M a cn x) (hd : M d = some (eI cy 64 g)) (hI : CI nn cn x) (hg : g 0 = cn 1 ∧ g 2 = cn 3) {h0 : Int64} (KK : ∀ (H : Heap) (locs : List Loc) (ls : Array Slot), pm D M H → va_S A s.heap H locs → lv_has ls 6 [(2, .long (fld (al3s cn x) h0 (cn 3))), (0, .ref a), (1, .ref d)] → W p l e ({ frames := 9, cells := 1530, slots := 9180, locals := 160 } : Room) s m args below meth c H locs (1526) (9156) Q (F0 m 209 ls [])) : ∀ (j k : Nat), k + j = cn 3 → ∀ (H : Heap) (locs : List Loc) (ls : Array Slot), pm D M H → va_S A s.heap H locs → lv_has ls 6 [(2, .long (fld (al3s cn x) h0 k)), (4, .int (nI k)), (0, .ref a), (1, .ref d)] → W p l e ({ frames := 9, cells := 1530, slots := 9180, locals := 160 } : Room) s m args below meth c H locs (246 + 32 * k) (1476 + 192 * k) Q (F0 m 99 ls [])
  | 0, k, hk => by
    intro H locs ls hP hS hl
    have hk9 : k = cn 3 := by omega
    subst hk9
    obtain ⟨hx, hb, hml, hown, hts, hA, hK, hX, hN0, hst⟩ := id C0
    obtain ⟨n0, n1, n2, n3, n4, -⟩ := id hI.1
    obtain ⟨g0, g2⟩ := id hg
    obtain ⟨fa, hfa⟩ := hh.fst
    refine lv_iload hx hb dL_all_99 (lv_at hl 1 rfl) ?_
    refine lv_aload_n hx hb dL_all_101 rfl (lv_at hl 3 rfl) ?_
    refine lv_iconst (v := (nI 2)) hx hb dL_all_102 (by decide) ?_
    refine n_iald (g := g) (n := 64) (i := 2) hx hb hK hP hd (by omega) (by decide) dL_all_103 ?_
    refine z_icmp_ge (u := (((cn 3) : Nat) : Int)) (v := ((g 2 : Nat) : Int)) (tgt := 209) hx hb (nI_toInt (by omega)) (nI_toInt (by omega)) dL_all_104 (by decide) (fun c_104 => ?_) (fun c_104 => ?_)
    · refine W.widen (k := 1526) (n := 9156) (by omega) (by omega) ?_
      exact KK H locs ls hP hS (lv_sub hl [0, 2, 3] rfl)
    · exfalso; omega
  | j + 1, k, hk => by
    intro H locs ls hP hS hl
    obtain ⟨hx, hb, hml, hown, hts, hA, hK, hX, hN0, hst⟩ := id C0
    obtain ⟨n0, n1, n2, n3, n4, -⟩ := id hI.1
    obtain ⟨g0, g2⟩ := id hg
    obtain ⟨fa, hfa⟩ := hh.fst
    refine lv_iload hx hb dL_all_99 (lv_at hl 1 rfl) ?_
    refine lv_aload_n hx hb dL_all_101 rfl (lv_at hl 3 rfl) ?_
    refine lv_iconst (v := (nI 2)) hx hb dL_all_102 (by decide) ?_
    refine n_iald (g := g) (n := 64) (i := 2) hx hb hK hP hd (by omega) (by decide) dL_all_103 ?_
    refine z_icmp_ge (u := ((k : Nat) : Int)) (v := ((g 2 : Nat) : Int)) (tgt := 209) hx hb (nI_toInt (by omega)) (nI_toInt (by omega)) dL_all_104 (by decide) (fun c_104 => ?_) (fun c_104 => ?_)
    · exfalso; omega
    · refine lv_iconst (v := (nI 0)) hx hb dL_all_107 (by decide) ?_
      refine lv_istore (lv' := [(5, .int (nI 0)), (2, .long (fld (al3s cn x) h0 k)), (4, .int (nI k)), (0, .ref a), (1, .ref d)]) hx hb dL_all_108 hl (by decide) rfl (fun ls hl => ?_)
      refine w_all_110 (h0 := fld (al3s cn x) h0 k) (k := k) C0 hD hh hd hI hg (by omega) ?_ 6 0 (by decide) H locs ls hP hS (lv_sub hl [0, 1, 2, 3, 4] rfl)
      clear hP hS hl
      intro H locs ls hP hS hl
      refine lv_lload_n hx hb dL_all_139 rfl (lv_at hl 0 rfl) ?_
      refine lv_ldc2 (v := 31) hx hb hown (hts _ (List.mem_of_getElem? (i := 3) rfl)) dL_all_140 ?_
      refine lv_lmul hx hb dL_all_143 ?_
      refine lv_aload_n hx hb dL_all_144 rfl (lv_at hl 2 rfl) ?_
      refine lv_iload hx hb dL_all_145 (lv_at hl 1 rfl) ?_
      refine r_call (v := (zI (grV x k))) (vx_runV (C := RX5) (As := [.int (nI k)]) (rest := [.long ((fld (al3 x k) (fld (al3s cn x) h0 k) 6) * (31 : Int64))]) ⟨hx, hb, hml, hown, hts⟩ (q_grade l hst de mi D cy _ _ a nn cn x hh hI.1 k (by omega) (by omega)) (cwV 1 hts gL_all_X5_grade rfl rfl rfl (by decide +kernel) ⟨Nat.le_of_ble_eq_true rfl, Nat.le_of_ble_eq_true rfl⟩) (mPreXV hX hD hS hA hK hP hfa (ci := 6) rfl) rfl rfl hl.1 rfl (lv_room (Nat.le_of_ble_eq_true rfl)) dL_all_147 ⟨(by show _ ≤ 1530; omega), (by show _ ≤ 9180; omega)⟩) hD hA hS (fun H locs hP hS _ => ?_)
      refine lv_i2l hx hb dL_all_150 rfl ?_
      refine lv_ladd hx hb dL_all_151 ?_
      refine lv_ldc2 (v := 31) hx hb hown (hts _ (List.mem_of_getElem? (i := 3) rfl)) dL_all_152 ?_
      refine lv_lmul hx hb dL_all_155 ?_
      refine lv_aload_n hx hb dL_all_156 rfl (lv_at hl 2 rfl) ?_
      refine lv_iload hx hb dL_all_157 (lv_at hl 1 rfl) ?_
      refine r_call (v := (zI (laV x k))) (vx_runV (C := RX5) (As := [.int (nI k)]) (rest := [.long ((((fld (al3 x k) (fld (al3s cn x) h0 k) 6) * (31 : Int64)) + ((zI (grV x k)).toInt64)) * (31 : Int64))]) ⟨hx, hb, hml, hown, hts⟩ (q_lacks l hst de mi D cy _ _ a nn cn x hh hI.1 k (by omega) (by omega)) (cwV 1 hts gL_all_X5_lacks rfl rfl rfl (by decide +kernel) ⟨Nat.le_of_ble_eq_true rfl, Nat.le_of_ble_eq_true rfl⟩) (mPreXV hX hD hS hA hK hP hfa (ci := 6) rfl) rfl rfl hl.1 rfl (lv_room (Nat.le_of_ble_eq_true rfl)) dL_all_159 ⟨(by show _ ≤ 1530; omega), (by show _ ≤ 9180; omega)⟩) hD hA hS (fun H locs hP hS _ => ?_)
      refine lv_i2l hx hb dL_all_162 rfl ?_
      refine lv_ladd hx hb dL_all_163 ?_
      refine lv_ldc2 (v := 1009) hx hb hown (hts _ (List.mem_of_getElem? (i := 4) rfl)) dL_all_164 ?_
      refine lv_lmul hx hb dL_all_167 ?_
      refine lv_aload_n hx hb dL_all_168 rfl (lv_at hl 2 rfl) ?_
      refine lv_iload hx hb dL_all_169 (lv_at hl 1 rfl) ?_
      refine r_call (v := (zI (wC x k))) (vx_runV (C := RX5) (As := [.int (nI k)]) (rest := [.long ((((((fld (al3 x k) (fld (al3s cn x) h0 k) 6) * (31 : Int64)) + ((zI (grV x k)).toInt64)) * (31 : Int64)) + ((zI (laV x k)).toInt64)) * (1009 : Int64))]) ⟨hx, hb, hml, hown, hts⟩ (q_worth l hst de mi D cy _ _ a nn cn x hh hI.1 k (by omega) (by omega)) (cwV 1 hts gL_all_X5_worth rfl rfl rfl (by decide +kernel) ⟨Nat.le_of_ble_eq_true rfl, Nat.le_of_ble_eq_true rfl⟩) (mPreXV hX hD hS hA hK hP hfa (ci := 6) rfl) rfl rfl hl.1 rfl (lv_room (Nat.le_of_ble_eq_true rfl)) dL_all_171 ⟨(by show _ ≤ 1530; omega), (by show _ ≤ 9180; omega)⟩) hD hA hS (fun H locs hP hS _ => ?_)
      refine lv_i2l hx hb dL_all_174 rfl ?_
      refine lv_ladd hx hb dL_all_175 ?_
      refine lv_lstore_n (lv' := [(2, .long (((((((fld (al3 x k) (fld (al3s cn x) h0 k) 6) * (31 : Int64)) + ((zI (grV x k)).toInt64)) * (31 : Int64)) + ((zI (laV x k)).toInt64)) * (1009 : Int64)) + ((zI (wC x k)).toInt64))), (4, .int (nI k)), (0, .ref a), (1, .ref d)]) hx hb dL_all_176 rfl hl (by decide) rfl (fun ls hl => ?_)
      refine lv_lload_n hx hb dL_all_177 rfl (lv_at hl 0 rfl) ?_
      refine lv_ldc2 (v := 127) hx hb hown (hts _ (List.mem_of_getElem? (i := 2) rfl)) dL_all_178 ?_
      refine lv_lmul hx hb dL_all_181 ?_
      refine lv_aload_n hx hb dL_all_182 rfl (lv_at hl 2 rfl) ?_
      refine lv_iload hx hb dL_all_183 (lv_at hl 1 rfl) ?_
      refine r_call (v := (zI (plV cn x k))) (vx_runV (C := RX5) (As := [.int (nI k)]) (rest := [.long ((((((((fld (al3 x k) (fld (al3s cn x) h0 k) 6) * (31 : Int64)) + ((zI (grV x k)).toInt64)) * (31 : Int64)) + ((zI (laV x k)).toInt64)) * (1009 : Int64)) + ((zI (wC x k)).toInt64)) * (127 : Int64))]) ⟨hx, hb, hml, hown, hts⟩ (q_place l hst de mi D cy _ _ a nn cn x hh hI.1 k (by omega) (by omega)) (cwV 1 hts gL_all_X5_place rfl rfl rfl (by decide +kernel) ⟨Nat.le_of_ble_eq_true rfl, Nat.le_of_ble_eq_true rfl⟩) (mPreXV hX hD hS hA hK hP hfa (ci := 6) rfl) rfl rfl hl.1 rfl (lv_room (Nat.le_of_ble_eq_true rfl)) dL_all_185 ⟨(by show _ ≤ 1530; omega), (by show _ ≤ 9180; omega)⟩) hD hA hS (fun H locs hP hS _ => ?_)
      refine lv_i2l hx hb dL_all_188 rfl ?_
      refine lv_ladd hx hb dL_all_189 ?_
      refine lv_ldc2 (v := 31) hx hb hown (hts _ (List.mem_of_getElem? (i := 3) rfl)) dL_all_190 ?_
      refine lv_lmul hx hb dL_all_193 ?_
      refine lv_aload_n hx hb dL_all_194 rfl (lv_at hl 2 rfl) ?_
      refine lv_iload hx hb dL_all_195 (lv_at hl 1 rfl) ?_
      refine r_call (v := (nI (feV x k))) (vx_runV (C := RX5) (As := [.int (nI k)]) (rest := [.long ((((((((((fld (al3 x k) (fld (al3s cn x) h0 k) 6) * (31 : Int64)) + ((zI (grV x k)).toInt64)) * (31 : Int64)) + ((zI (laV x k)).toInt64)) * (1009 : Int64)) + ((zI (wC x k)).toInt64)) * (127 : Int64)) + ((zI (plV cn x k)).toInt64)) * (31 : Int64))]) ⟨hx, hb, hml, hown, hts⟩ (q_orderAnew l hst de mi D cy _ _ a nn cn x hh hI.1 k (by omega) (by omega)) (cwV 1 hts gL_all_X5_orderAnew rfl rfl rfl (by decide +kernel) ⟨Nat.le_of_ble_eq_true rfl, Nat.le_of_ble_eq_true rfl⟩) (mPreXV hX hD hS hA hK hP hfa (ci := 6) rfl) rfl rfl hl.1 rfl (lv_room (Nat.le_of_ble_eq_true rfl)) dL_all_197 ⟨(by show _ ≤ 1530; omega), (by show _ ≤ 9180; omega)⟩) hD hA hS (fun H locs hP hS _ => ?_)
      refine lv_i2l hx hb dL_all_200 rfl ?_
      refine lv_ladd hx hb dL_all_201 ?_
      refine lv_lstore_n (lv' := [(2, .long (((((((((((fld (al3 x k) (fld (al3s cn x) h0 k) 6) * (31 : Int64)) + ((zI (grV x k)).toInt64)) * (31 : Int64)) + ((zI (laV x k)).toInt64)) * (1009 : Int64)) + ((zI (wC x k)).toInt64)) * (127 : Int64)) + ((zI (plV cn x k)).toInt64)) * (31 : Int64)) + ((nI (feV x k)).toInt64))), (4, .int (nI k)), (0, .ref a), (1, .ref d)]) hx hb dL_all_202 rfl hl (by decide) rfl (fun ls hl => ?_)
      refine n_iinc (x := k) (k := 1) (lv' := [(4, .int (nI (k + 1))), (2, .long (((((((((((fld (al3 x k) (fld (al3s cn x) h0 k) 6) * (31 : Int64)) + ((zI (grV x k)).toInt64)) * (31 : Int64)) + ((zI (laV x k)).toInt64)) * (1009 : Int64)) + ((zI (wC x k)).toInt64)) * (127 : Int64)) + ((zI (plV cn x k)).toInt64)) * (31 : Int64)) + ((nI (feV x k)).toInt64))), (0, .ref a), (1, .ref d)]) hx hb dL_all_203 rfl hl (q := 1) rfl (by decide) rfl (fun ls hl => ?_)
      refine lv_goto (tgt := 99) hx hb dL_all_206 (by decide) ?_
      have hl : lv_has ls 6 [(4, .int (nI (k + 1))), (2, .long (fld (al3s cn x) h0 (k + 1))), (0, .ref a), (1, .ref d)] := hl
      refine W.widen (k := 246 + 32 * (k + 1)) (n := 1476 + 192 * (k + 1)) (by omega) (by omega) ?_
      exact w_all_99 C0 hD hh hd hI hg  KK j (k + 1) (by omega) H locs ls hP hS (lv_sub hl [1, 0, 2, 3] rfl)
set_option maxRecDepth 100000 in
set_option maxHeartbeats 4000000 in
theorem w_all (C0 : LC p l s m args c cL_all 6 wsL_all A D cy de mi) (hD : mD A M) (hh : hall cy de M a cn x) (hd : M d = some (eI cy 64 g)) (hI : CI nn cn x) (hg : g 0 = cn 1 ∧ g 2 = cn 3) {H : Heap} {locs : List Loc} {ls : Array Slot} (kE : ∀ (k n : Nat) (H : Heap) (locs : List Loc) (pc : Nat) (ls : Array Slot), pm D M H → va_S A s.heap H locs → decode cL_all pc = .ok (.lreturn, 1) → k ≤ 1530 → n ≤ 9180 → W p l e ({ frames := 9, cells := 1530, slots := 9180, locals := 160 } : Room) s m args below meth c H locs k n Q (F0 m pc ls [.long (alV cn x)])) (hP : pm D M H) (hS : va_S A s.heap H locs) (hl : lv_has ls 6 [(0, .ref a), (1, .ref d)]) : W p l e ({ frames := 9, cells := 1530, slots := 9180, locals := 160 } : Room) s m args below meth c H locs 0 0 Q (F0 m 0 ls []) := by
  obtain ⟨hx, hb, hml, hown, hts, hA, hK, hX, hN0, hst⟩ := id C0
  obtain ⟨n0, n1, n2, n3, n4, -⟩ := id hI.1
  obtain ⟨g0, g2⟩ := id hg
  obtain ⟨fa, hfa⟩ := hh.fst
  refine lv_ldc2 (v := 17) hx hb hown (hts _ (List.mem_of_getElem? (i := 1) rfl)) dL_all_0 ?_
  refine lv_lstore_n (lv' := [(2, .long (17 : Int64)), (0, .ref a), (1, .ref d)]) hx hb dL_all_3 rfl hl (by decide) rfl (fun ls hl => ?_)
  refine lv_iconst (v := (nI 0)) hx hb dL_all_4 (by decide) ?_
  refine lv_istore (lv' := [(4, .int (nI 0)), (2, .long (17 : Int64)), (0, .ref a), (1, .ref d)]) hx hb dL_all_5 hl (by decide) rfl (fun ls hl => ?_)
  refine W.widen (k := 24 * 0) (n := 144 * 0) (by omega) (by omega) ?_
  refine w_all_7 C0 hD hh hd hI hg ?_ (cn 1) 0 (by omega) H locs ls hP hS (lv_sub hl [1, 0, 2, 3] rfl)
  clear hP hS hl
  intro H locs ls hP hS hl
  refine lv_iconst (v := (nI 0)) hx hb dL_all_53 (by decide) ?_
  refine lv_istore (lv' := [(4, .int (nI 0)), (2, .long (fld (al1s x) (17 : Int64) (cn 1))), (0, .ref a), (1, .ref d)]) hx hb dL_all_54 hl (by decide) rfl (fun ls hl => ?_)
  refine W.widen (k := 240 + 0) (n := 1440 + 6 * 0) (by omega) (by omega) ?_
  refine w_all_56 (h0 := fld (al1s x) (17 : Int64) (cn 1)) C0 hD hh hd hI hg ?_ 6 0 (by decide) H locs ls hP hS (lv_sub hl [1, 0, 2, 3] rfl)
  clear hP hS hl
  intro H locs ls hP hS hl
  refine lv_iconst (v := (nI 0)) hx hb dL_all_96 (by decide) ?_
  refine lv_istore (lv' := [(4, .int (nI 0)), (2, .long (fld (al2 x) (fld (al1s x) (17 : Int64) (cn 1)) 6)), (0, .ref a), (1, .ref d)]) hx hb dL_all_97 hl (by decide) rfl (fun ls hl => ?_)
  refine W.widen (k := 246 + 32 * 0) (n := 1476 + 192 * 0) (by omega) (by omega) ?_
  refine w_all_99 (h0 := fld (al2 x) (fld (al1s x) (17 : Int64) (cn 1)) 6) C0 hD hh hd hI hg ?_ (cn 3) 0 (by omega) H locs ls hP hS (lv_sub hl [1, 0, 2, 3] rfl)
  clear hP hS hl
  intro H locs ls hP hS hl
  refine lv_lload_n hx hb dL_all_209 rfl (lv_at hl 0 rfl) ?_
  refine lv_ldc2 (v := 127) hx hb hown (hts _ (List.mem_of_getElem? (i := 2) rfl)) dL_all_210 ?_
  refine lv_lmul hx hb dL_all_213 ?_
  refine lv_aload_n hx hb dL_all_214 rfl (lv_at hl 1 rfl) ?_
  refine lv_iconst (v := (nI 1)) hx hb dL_all_215 (by decide) ?_
  refine r_call (v := (zI (atV cn x 1))) (vx_runV (C := RX5) (As := [.int (nI 1)]) (rest := [.long ((fld (al3s cn x) (fld (al2 x) (fld (al1s x) (17 : Int64) (cn 1)) 6) (cn 3)) * (127 : Int64))]) ⟨hx, hb, hml, hown, hts⟩ (q_at l hst de mi D cy _ _ a nn cn x hh hI.1 1 (by omega) (by omega)) (cwV 1 hts gL_all_X5_at rfl rfl rfl (by decide +kernel) ⟨Nat.le_of_ble_eq_true rfl, Nat.le_of_ble_eq_true rfl⟩) (mPreXV hX hD hS hA hK hP hfa (ci := 6) rfl) rfl rfl hl.1 rfl (lv_room (Nat.le_of_ble_eq_true rfl)) dL_all_216 ⟨Nat.le_of_ble_eq_true rfl, Nat.le_of_ble_eq_true rfl⟩) hD hA hS (fun H locs hP hS _ => ?_)
  refine lv_i2l hx hb dL_all_219 rfl ?_
  refine lv_ladd hx hb dL_all_220 ?_
  exact kE _ _ H locs _ ls hP hS dL_all_221 (Nat.le_of_ble_eq_true rfl) (Nat.le_of_ble_eq_true rfl)
end LAL
set_option maxRecDepth 100000 in
set_option maxHeartbeats 4000000 in
theorem c_L_all (l : Launch) (hst : l.stackTraces = false) (de mi : Nat) (D : va_G) (cy : Nat → ClassId) (M : mM) (sz a d nn : Nat) (cn : Nat → Nat) (x : Nat → Nat → Nat) (g : Nat → Nat) (hh : hall cy de M a cn x) (hd : M d = some (eI cy 64 g)) (hI : CI nn cn x) (hg : g 0 = cn 1 ∧ g 2 = cn 3) : lMl l yL_all wsL_all ({ frames := 9, cells := 1530, slots := 9180, locals := 160 } : Room) de mi D cy M sz [.ref a, .ref d] (fun r M' => r = alV cn x ∧ M' = M) 1530 9180 := by
  refine lM.of (cc := cL_all) (maxL := 6) (ret := some .long) (by decide) rfl (Nat.le_of_ble_eq_true rfl) ?_
  intro p e s m args below meth c ls hsz hx hb hr hts hown hlocks hml hP hD hS hA hK hX hN hl
  have hl : lv_has ls 6 [(0, .ref a), (1, .ref d)] := hl
  have C0 : LC p l s m args c cL_all 6 wsL_all (mA M sz) D cy de mi := ⟨hx, hb, hml, hown, hts, hA, hK, hX, hN, hst⟩
  exact w_all C0 hD hh hd hI hg (fun k n H locs pc ls h1 h2 h3 h4 h5 => e_wl hx hb hr hlocks h1 hD h2 ⟨rfl, rfl⟩ h3 h4 h5) hP hS hl
