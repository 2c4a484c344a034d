/-! the law: sound -/
section LSO
variable {p : Program} {l : Launch} {e : Env} {s : State} {m : MethodId} {args : Array Value} {below : List Frame} {meth : Method} {c : Code} {Q : State → Prop} {D : va_G} {cy : Nat → ClassId} {de mi o d nn : Nat} {cn : Nat → Nat} {x : Nat → Nat → Nat} {g : Nat → Nat} {A : Nat → Prop} {M : mM}
set_option maxRecDepth 100000 in
set_option maxHeartbeats 8000000 in
theorem w_sound_33 (C0 : LC p l s m args c cL_sound 8 wsL_sound A D cy de mi) (hD : mD A M) (hh : hall cy de M o cn x) (hd : M d = some (eI cy 64 g)) (hI : CI nn cn x) (hg : g 0 = cn 1 ∧ g 2 = cn 3) {k rd : Nat} {pv : Int32} (hkc : k < cn 3) (KK : ∀ (H : Heap) (locs : List Loc) (ls : Array Slot), pm D M H → va_S A s.heap H locs → lv_has ls 8 [(6, .int (nI (sumA (fun j => slV x k j) 5))), (5, .int pv), (4, .int (nI k)), (3, .int (nI 1)), (2, .int (nI rd)), (0, .ref o), (1, .ref d)] → W p l e ({ frames := 9, cells := 2400, slots := 14500, locals := 160 } : Room) s m args below meth c H locs (24 + 40 * k) (144 + 240 * k) Q (F0 m 58 ls [])) : ∀ (j i : Nat), i + j = 5 → ∀ (H : Heap) (locs : List Loc) (ls : Array Slot), pm D M H → va_S A s.heap H locs → lv_has ls 8 [(7, .int (nI i)), (6, .int (nI (sumA (fun j => slV x k j) i))), (5, .int pv), (4, .int (nI k)), (3, .int (nI 1)), (2, .int (nI rd)), (0, .ref o), (1, .ref d)] → W p l e ({ frames := 9, cells := 2400, slots := 14500, locals := 160 } : Room) s m args below meth c H locs (4 + 40 * k + 4 * i) (24 + 240 * k + 24 * i) Q (F0 m 33 ls [])
  | 0, i, hk => by
    intro H locs ls hP hS hl
    have hk9 : i = 5 := by omega
    subst hk9
    obtain ⟨hx, hb, hml, hown, hts, hA, hK, hX, hN0, hst⟩ := id C0
    obtain ⟨n0, n1, n2, n3, n4, -⟩ := id hI.1
    obtain ⟨g0, g2⟩ := id hg
    obtain ⟨fo, hfo⟩ := hh.fst
    refine lv_iload hx hb dL_sound_33 (lv_at hl 0 rfl) ?_
    refine lv_iconst (v := (nI 5)) hx hb dL_sound_35 (by decide) ?_
    refine z_icmp_ge (u := ((5 : Nat) : Int)) (v := ((5 : Nat) : Int)) (tgt := 58) hx hb (nI_toInt (by omega)) (nI_toInt (by omega)) dL_sound_36 (by decide) (fun c_36 => ?_) (fun c_36 => ?_)
    · refine W.widen (k := 24 + 40 * k) (n := 144 + 240 * k) (by omega) (by omega) ?_
      exact KK H locs ls hP hS (lv_sub hl [1, 2, 3, 4, 5, 6, 7] rfl)
    · exfalso; omega
  | j + 1, i, hk => by
    intro H locs ls hP hS hl
    obtain ⟨hx, hb, hml, hown, hts, hA, hK, hX, hN0, hst⟩ := id C0
    obtain ⟨n0, n1, n2, n3, n4, -⟩ := id hI.1
    obtain ⟨g0, g2⟩ := id hg
    obtain ⟨fo, hfo⟩ := hh.fst
    have hsu : sumA (fun j => slV x k j) i ≤ i * 40 := sumA_le (fun j => sl_bd hI k j) i
    have hsb := sl_bd hI k i
    refine lv_iload hx hb dL_sound_33 (lv_at hl 0 rfl) ?_
    refine lv_iconst (v := (nI 5)) hx hb dL_sound_35 (by decide) ?_
    refine z_icmp_ge (u := ((i : Nat) : Int)) (v := ((5 : Nat) : Int)) (tgt := 58) hx hb (nI_toInt (by omega)) (nI_toInt (by omega)) dL_sound_36 (by decide) (fun c_36 => ?_) (fun c_36 => ?_)
    · exfalso; omega
    · refine lv_iload hx hb dL_sound_39 (lv_at hl 1 rfl) ?_
      refine lv_aload_n hx hb dL_sound_41 rfl (lv_at hl 6 rfl) ?_
      refine lv_iload hx hb dL_sound_42 (lv_at hl 3 rfl) ?_
      refine lv_iload hx hb dL_sound_44 (lv_at hl 0 rfl) ?_
      refine r_call (v := (nI (slV x k i))) (vx_runV (C := RX5) (As := [.int (nI k), .int (nI i)]) (rest := [.int (nI (sumA (fun j => slV x k j) i))]) ⟨hx, hb, hml, hown, hts⟩ (q_slips l hst de mi D cy _ _ o nn cn x hh hI.1 k i (by omega) (by omega) (by omega)) (cwV 2 hts gL_sound_X5_slips rfl rfl rfl (by decide +kernel) ⟨Nat.le_of_ble_eq_true rfl, Nat.le_of_ble_eq_true rfl⟩) (mPreXV hX hD hS hA hK hP hfo (ci := 6) rfl) rfl rfl hl.1 rfl (lv_room (Nat.le_of_ble_eq_true rfl)) dL_sound_46 ⟨(by show _ ≤ 2400; omega), (by show _ ≤ 14500; omega)⟩) hD hA hS (fun H locs hP hS _ => ?_)
      refine n_add (x := sumA (fun j => slV x k j) i) (y := slV x k i) hx hb dL_sound_49 ?_
      refine lv_istore (lv' := [(6, .int (nI ((sumA (fun j => slV x k j) i) + (slV x k i)))), (7, .int (nI i)), (5, .int pv), (4, .int (nI k)), (3, .int (nI 1)), (2, .int (nI rd)), (0, .ref o), (1, .ref d)]) hx hb dL_sound_50 hl (by decide) rfl (fun ls hl => ?_)
      refine n_iinc (x := i) (k := 1) (lv' := [(7, .int (nI (i + 1))), (6, .int (nI ((sumA (fun j => slV x k j) i) + (slV x k i)))), (5, .int pv), (4, .int (nI k)), (3, .int (nI 1)), (2, .int (nI rd)), (0, .ref o), (1, .ref d)]) hx hb dL_sound_52 rfl hl (q := 1) rfl (by decide) rfl (fun ls hl => ?_)
      refine lv_goto (tgt := 33) hx hb dL_sound_55 (by decide) ?_
      have hl : lv_has ls 8 [(7, .int (nI (i + 1))), (6, .int (nI (sumA (fun j => slV x k j) (i + 1)))), (5, .int pv), (4, .int (nI k)), (3, .int (nI 1)), (2, .int (nI rd)), (0, .ref o), (1, .ref d)] := hl
      refine W.widen (k := 4 + 40 * k + 4 * (i + 1)) (n := 24 + 240 * k + 24 * (i + 1)) (by omega) (by omega) ?_
      exact w_sound_33 C0 hD hh hd hI hg hkc KK j (i + 1) (by omega) H locs ls hP hS (lv_sub hl [0, 1, 2, 3, 4, 5, 6, 7] rfl)
set_option maxRecDepth 100000 in
set_option maxHeartbeats 8000000 in
theorem w_sound_7 (C0 : LC p l s m args c cL_sound 8 wsL_sound A D cy de mi) (hD : mD A M) (hh : hall cy de M o cn x) (hd : M d = some (eI cy 64 g)) (hI : CI nn cn x) (hg : g 0 = cn 1 ∧ g 2 = cn 3) (KK : ∀ (H : Heap) (locs : List Loc) (ls : Array Slot), pm D M H → va_S A s.heap H locs → lv_has ls 8 [(3, .int (nI 1)), (2, .int (nI (rkN cn x))), (0, .ref o), (1, .ref d)] → W p l e ({ frames := 9, cells := 2400, slots := 14500, locals := 160 } : Room) s m args below meth c H locs (1600) (9600) Q (F0 m 192 ls [])) : ∀ (j k : Nat), k + j = cn 3 → ∀ (H : Heap) (locs : List Loc) (ls : Array Slot), pm D M H → va_S A s.heap H locs → lv_has ls 8 [(4, .int (nI k)), (3, .int (nI 1)), (2, .int (nI (usedN (rkB x) k))), (0, .ref o), (1, .ref d)] → W p l e ({ frames := 9, cells := 2400, slots := 14500, locals := 160 } : Room) s m args below meth c H locs (40 * k) (240 * k) Q (F0 m 7 ls [])
  | 0, k, hk => by
    intro H locs ls hP hS hl
    have hk9 : k = cn 3 := by omega
    subst hk9
    obtain ⟨hx, hb, hml, hown, hts, hA, hK, hX, hN0, hst⟩ := id C0
    obtain ⟨n0, n1, n2, n3, n4, -⟩ := id hI.1
    obtain ⟨g0, g2⟩ := id hg
    obtain ⟨fo, hfo⟩ := hh.fst
    refine lv_iload hx hb dL_sound_7 (lv_at hl 0 rfl) ?_
    refine lv_aload_n hx hb dL_sound_9 rfl (lv_at hl 4 rfl) ?_
    refine lv_iconst (v := (nI 2)) hx hb dL_sound_10 (by decide) ?_
    refine n_iald (g := g) (n := 64) (i := 2) hx hb hK hP hd (by omega) (by decide) dL_sound_11 ?_
    refine z_icmp_ge (u := ((cn 3 : Nat) : Int)) (v := ((g 2 : Nat) : Int)) (tgt := 192) hx hb (nI_toInt (by omega)) (nI_toInt (by omega)) dL_sound_12 (by decide) (fun c_12 => ?_) (fun c_12 => ?_)
    · refine W.widen (k := 1600) (n := 9600) (by omega) (by omega) ?_
      exact KK H locs ls hP hS (lv_sub hl [1, 2, 3, 4] rfl)
    · exfalso; omega
  | j + 1, k, hk => by
    intro H locs ls hP hS hl
    obtain ⟨hx, hb, hml, hown, hts, hA, hK, hX, hN0, hst⟩ := id C0
    obtain ⟨n0, n1, n2, n3, n4, -⟩ := id hI.1
    obtain ⟨g0, g2⟩ := id hg
    obtain ⟨fo, hfo⟩ := hh.fst
    have hpb := pl_bd hI k
    have hwb := w_bd hI k
    have hgb := gr_bd hI k
    have hlb := la_bd hI k (by omega)
    have hfb := fe_bd hI k (by omega)
    have hs3 := sl_bd hI k 3
    have hs5 := sl_bd hI k 5
    have hss : sumA (fun j => slV x k j) 5 = slV x k 5 := (sl_sum k).symm
    have hgl := gr_la x k
    have hpw := pl_w (c := cn) (x := x) k
    have hfe : feV x k = slV x k 3 := (hI.2.2.2 k (by omega)).2.2.2.1
    have hul := usedN_le (rkB x) k
    refine lv_iload hx hb dL_sound_7 (lv_at hl 0 rfl) ?_
    refine lv_aload_n hx hb dL_sound_9 rfl (lv_at hl 4 rfl) ?_
    refine lv_iconst (v := (nI 2)) hx hb dL_sound_10 (by decide) ?_
    refine n_iald (g := g) (n := 64) (i := 2) hx hb hK hP hd (by omega) (by decide) dL_sound_11 ?_
    refine z_icmp_ge (u := ((k : Nat) : Int)) (v := ((g 2 : Nat) : Int)) (tgt := 192) hx hb (nI_toInt (by omega)) (nI_toInt (by omega)) dL_sound_12 (by decide) (fun c_12 => ?_) (fun c_12 => ?_)
    · exfalso; omega
    · refine lv_iload_n hx hb dL_sound_15 rfl (lv_at hl 1 rfl) ?_
      refine k_if_eq_1 (tgt := 192) hx hb dL_sound_16 (by decide) ?_
      refine lv_aload_n hx hb dL_sound_19 rfl (lv_at hl 3 rfl) ?_
      refine lv_iload hx hb dL_sound_20 (lv_at hl 0 rfl) ?_
      refine r_call (v := (zI (plV cn x k))) (vx_runV (C := RX5) (As := [.int (nI k)]) (rest := []) ⟨hx, hb, hml, hown, hts⟩ (q_place l hst de mi D cy _ _ o nn cn x hh hI.1 k (by omega) (by omega)) (cwV 1 hts gL_sound_X5_place rfl rfl rfl (by decide +kernel) ⟨Nat.le_of_ble_eq_true rfl, Nat.le_of_ble_eq_true rfl⟩) (mPreXV hX hD hS hA hK hP hfo (ci := 6) rfl) rfl rfl hl.1 rfl (lv_room (Nat.le_of_ble_eq_true rfl)) dL_sound_22 ⟨(by show _ ≤ 2400; omega), (by show _ ≤ 14500; omega)⟩) hD hA hS (fun H locs hP hS _ => ?_)
      refine lv_istore (lv' := [(5, .int (zI (plV cn x k))), (4, .int (nI k)), (3, .int (nI 1)), (2, .int (nI (usedN (rkB x) k))), (0, .ref o), (1, .ref d)]) hx hb dL_sound_25 hl (by decide) rfl (fun ls hl => ?_)
      refine lv_iconst (v := (nI 0)) hx hb dL_sound_27 (by decide) ?_
      refine lv_istore (lv' := [(6, .int (nI 0)), (5, .int (zI (plV cn x k))), (4, .int (nI k)), (3, .int (nI 1)), (2, .int (nI (usedN (rkB x) k))), (0, .ref o), (1, .ref d)]) hx hb dL_sound_28 hl (by decide) rfl (fun ls hl => ?_)
      refine lv_iconst (v := (nI 0)) hx hb dL_sound_30 (by decide) ?_
      refine lv_istore (lv' := [(7, .int (nI 0)), (6, .int (nI 0)), (5, .int (zI (plV cn x k))), (4, .int (nI k)), (3, .int (nI 1)), (2, .int (nI (usedN (rkB x) k))), (0, .ref o), (1, .ref d)]) hx hb dL_sound_31 hl (by decide) rfl (fun ls hl => ?_)
      refine W.widen (k := 4 + 40 * k + 4 * 0) (n := 24 + 240 * k + 24 * 0) (by omega) (by omega) ?_
      refine w_sound_33 (k := k) (rd := usedN (rkB x) k) (pv := zI (plV cn x k)) C0 hD hh hd hI hg (by omega) ?_ 5 0 (by decide) H locs ls hP hS (lv_sub hl [0, 1, 2, 3, 4, 5, 6, 7] rfl)
      clear hP hS hl
      intro H locs ls hP hS hl
      refine lv_iload_n hx hb dL_sound_58 rfl (lv_at hl 4 rfl) ?_
      refine lv_iload hx hb dL_sound_59 (lv_at hl 1 rfl) ?_
      refine lv_iconst (v := (zI (-1))) hx hb dL_sound_61 (by decide) ?_
      refine z_icmp_ne (u := (plV cn x k)) (v := (-1)) (tgt := 69) hx hb (zI_toInt (by omega) (by omega)) (zI_toInt (by omega) (by omega)) dL_sound_62 (by decide) (fun c_62 => ?_) (fun c_62 => ?_)
      · have hw9 : wC x k ≠ -9999 := fun z => c_62 (hpw.mpr z)
        have hrk : rkB x k = true := decide_eq_true hw9
        obtain ⟨pp, hp0, hp1, hp2, hp3⟩ := at_pl hI k (by omega) c_62
        rw [hp0, ← nI_zI] at hl
        have hab := at_bd hI pp
        refine lv_iconst (v := (nI 1)) hx hb dL_sound_69 (by decide) ?_
        refine n_add (x := usedN (rkB x) k) (y := 1) hx hb dL_sound_70 ?_
        refine lv_istore_n (lv' := [(2, .int (nI ((usedN (rkB x) k) + 1))), (6, .int (nI (sumA (fun j => slV x k j) 5))), (5, .int (nI pp)), (4, .int (nI k)), (3, .int (nI 1)), (0, .ref o), (1, .ref d)]) hx hb dL_sound_71 rfl hl (by decide) rfl (fun ls hl => ?_)
        refine lv_iload hx hb dL_sound_72 (lv_at hl 1 rfl) ?_
        refine lv_aload_n hx hb dL_sound_74 rfl (lv_at hl 5 rfl) ?_
        refine lv_iload hx hb dL_sound_75 (lv_at hl 3 rfl) ?_
        refine lv_iconst (v := (nI 5)) hx hb dL_sound_77 (by decide) ?_
        refine r_call (v := (nI (slV x k 5))) (vx_runV (C := RX5) (As := [.int (nI k), .int (nI 5)]) (rest := [.int (nI (sumA (fun j => slV x k j) 5))]) ⟨hx, hb, hml, hown, hts⟩ (q_slips l hst de mi D cy _ _ o nn cn x hh hI.1 k 5 (by omega) (by omega) (by omega)) (cwV 2 hts gL_sound_X5_slips rfl rfl rfl (by decide +kernel) ⟨Nat.le_of_ble_eq_true rfl, Nat.le_of_ble_eq_true rfl⟩) (mPreXV hX hD hS hA hK hP hfo (ci := 6) rfl) rfl rfl hl.1 rfl (lv_room (Nat.le_of_ble_eq_true rfl)) dL_sound_78 ⟨(by show _ ≤ 2400; omega), (by show _ ≤ 14500; omega)⟩) hD hA hS (fun H locs hP hS _ => ?_)
        refine z_icmp_ne (u := ((sumA (fun j => slV x k j) 5 : Nat) : Int)) (v := ((slV x k 5 : Nat) : Int)) (tgt := 184) hx hb (nI_toInt (by omega)) (nI_toInt (by omega)) dL_sound_81 (by decide) (fun c_81 => ?_) (fun c_81 => ?_)
        · exfalso; omega
        · refine lv_iload hx hb dL_sound_84 (lv_at hl 2 rfl) ?_
          refine lv_iconst (v := (zI (-1))) hx hb dL_sound_86 (by decide) ?_
          refine z_icmp_ne (u := ((pp : Nat) : Int)) (v := (-1)) (tgt := 94) hx hb (nI_toInt (by omega)) (zI_toInt (by omega) (by omega)) dL_sound_87 (by decide) (fun c_87 => ?_) (fun c_87 => ?_)
          · refine lv_iconst (v := (nI 0)) hx hb dL_sound_94 (by decide) ?_
            refine lv_aload_n hx hb dL_sound_95 rfl (lv_at hl 5 rfl) ?_
            refine lv_iload hx hb dL_sound_96 (lv_at hl 3 rfl) ?_
            refine r_call (v := (zI (wC x k))) (vx_runV (C := RX5) (As := [.int (nI k)]) (rest := [.int (nI 0)]) ⟨hx, hb, hml, hown, hts⟩ (q_worth l hst de mi D cy _ _ o nn cn x hh hI.1 k (by omega) (by omega)) (cwV 1 hts gL_sound_X5_worth rfl rfl rfl (by decide +kernel) ⟨Nat.le_of_ble_eq_true rfl, Nat.le_of_ble_eq_true rfl⟩) (mPreXV hX hD hS hA hK hP hfo (ci := 6) rfl) rfl rfl hl.1 rfl (lv_room (Nat.le_of_ble_eq_true rfl)) dL_sound_98 ⟨(by show _ ≤ 2400; omega), (by show _ ≤ 14500; omega)⟩) hD hA hS (fun H locs hP hS _ => ?_)
            refine lv_sipush (v := (zI (-9999))) hx hb dL_sound_101 (by decide) ?_
            refine z_icmp_ne (u := (wC x k)) (v := (-9999)) (tgt := 111) hx hb (zI_toInt (by omega) (by omega)) (zI_toInt (by omega) (by omega)) dL_sound_104 (by decide) (fun c_104 => ?_) (fun c_104 => ?_)
            · refine lv_iconst (v := (nI 0)) hx hb dL_sound_111 (by decide) ?_
              refine z_icmp_ne (u := ((0 : Nat) : Int)) (v := ((0 : Nat) : Int)) (tgt := 184) hx hb (nI_toInt (by omega)) (nI_toInt (by omega)) dL_sound_112 (by decide) (fun c_112 => ?_) (fun c_112 => ?_)
              · exfalso; omega
              · refine lv_iload hx hb dL_sound_115 (lv_at hl 2 rfl) ?_
                refine lv_iconst (v := (zI (-1))) hx hb dL_sound_117 (by decide) ?_
                refine z_icmp_eq (u := ((pp : Nat) : Int)) (v := (-1)) (tgt := 132) hx hb (nI_toInt (by omega)) (zI_toInt (by omega) (by omega)) dL_sound_118 (by decide) (fun c_118 => ?_) (fun c_118 => ?_)
                · exfalso; omega
                · refine lv_aload_n hx hb dL_sound_121 rfl (lv_at hl 5 rfl) ?_
                  refine lv_iload hx hb dL_sound_122 (lv_at hl 2 rfl) ?_
                  refine r_call (v := (zI (atV cn x pp))) (vx_runV (C := RX5) (As := [.int (nI pp)]) (rest := []) ⟨hx, hb, hml, hown, hts⟩ (q_at l hst de mi D cy _ _ o nn cn x hh hI.1 pp (by omega) (by omega)) (cwV 1 hts gL_sound_X5_at rfl rfl rfl (by decide +kernel) ⟨Nat.le_of_ble_eq_true rfl, Nat.le_of_ble_eq_true rfl⟩) (mPreXV hX hD hS hA hK hP hfo (ci := 6) rfl) rfl rfl hl.1 rfl (lv_room (Nat.le_of_ble_eq_true rfl)) dL_sound_124 ⟨(by show _ ≤ 2400; omega), (by show _ ≤ 14500; omega)⟩) hD hA hS (fun H locs hP hS _ => ?_)
                  refine lv_iload hx hb dL_sound_127 (lv_at hl 3 rfl) ?_
                  refine z_icmp_ne (u := (atV cn x pp)) (v := ((k : Nat) : Int)) (tgt := 184) hx hb (zI_toInt (by omega) (by omega)) (nI_toInt (by omega)) dL_sound_129 (by decide) (fun c_129 => ?_) (fun c_129 => ?_)
                  · exfalso; omega
                  · refine lv_aload_n hx hb dL_sound_132 rfl (lv_at hl 5 rfl) ?_
                    refine lv_iload hx hb dL_sound_133 (lv_at hl 3 rfl) ?_
                    refine r_call (v := (zI (grV x k))) (vx_runV (C := RX5) (As := [.int (nI k)]) (rest := []) ⟨hx, hb, hml, hown, hts⟩ (q_grade l hst de mi D cy _ _ o nn cn x hh hI.1 k (by omega) (by omega)) (cwV 1 hts gL_sound_X5_grade rfl rfl rfl (by decide +kernel) ⟨Nat.le_of_ble_eq_true rfl, Nat.le_of_ble_eq_true rfl⟩) (mPreXV hX hD hS hA hK hP hfo (ci := 6) rfl) rfl rfl hl.1 rfl (lv_room (Nat.le_of_ble_eq_true rfl)) dL_sound_135 ⟨(by show _ ≤ 2400; omega), (by show _ ≤ 14500; omega)⟩) hD hA hS (fun H locs hP hS _ => ?_)
                    refine lv_iconst (v := (zI (-1))) hx hb dL_sound_138 (by decide) ?_
                    refine z_icmp_ne (u := (grV x k)) (v := (-1)) (tgt := 146) hx hb (zI_toInt (by omega) (by omega)) (zI_toInt (by omega) (by omega)) dL_sound_139 (by decide) (fun c_139 => ?_) (fun c_139 => ?_)
                    · refine lv_iconst (v := (nI 0)) hx hb dL_sound_146 (by decide) ?_
                      refine lv_aload_n hx hb dL_sound_147 rfl (lv_at hl 5 rfl) ?_
                      refine lv_iload hx hb dL_sound_148 (lv_at hl 3 rfl) ?_
                      refine r_call (v := (zI (laV x k))) (vx_runV (C := RX5) (As := [.int (nI k)]) (rest := [.int (nI 0)]) ⟨hx, hb, hml, hown, hts⟩ (q_lacks l hst de mi D cy _ _ o nn cn x hh hI.1 k (by omega) (by omega)) (cwV 1 hts gL_sound_X5_lacks rfl rfl rfl (by decide +kernel) ⟨Nat.le_of_ble_eq_true rfl, Nat.le_of_ble_eq_true rfl⟩) (mPreXV hX hD hS hA hK hP hfo (ci := 6) rfl) rfl rfl hl.1 rfl (lv_room (Nat.le_of_ble_eq_true rfl)) dL_sound_150 ⟨(by show _ ≤ 2400; omega), (by show _ ≤ 14500; omega)⟩) hD hA hS (fun H locs hP hS _ => ?_)
                      refine z_if_le (u := (laV x k)) (tgt := 160) hx hb (zI_toInt (by omega) (by omega)) dL_sound_153 (by decide) (fun c_153 => ?_) (fun c_153 => ?_)
                      · refine lv_iconst (v := (nI 0)) hx hb dL_sound_160 (by decide) ?_
                        refine z_icmp_ne (u := ((0 : Nat) : Int)) (v := ((0 : Nat) : Int)) (tgt := 184) hx hb (nI_toInt (by omega)) (nI_toInt (by omega)) dL_sound_161 (by decide) (fun c_161 => ?_) (fun c_161 => ?_)
                        · exfalso; omega
                        · refine lv_aload_n hx hb dL_sound_164 rfl (lv_at hl 5 rfl) ?_
                          refine lv_iload hx hb dL_sound_165 (lv_at hl 3 rfl) ?_
                          refine r_call (v := (nI (feV x k))) (vx_runV (C := RX5) (As := [.int (nI k)]) (rest := []) ⟨hx, hb, hml, hown, hts⟩ (q_orderAnew l hst de mi D cy _ _ o nn cn x hh hI.1 k (by omega) (by omega)) (cwV 1 hts gL_sound_X5_orderAnew rfl rfl rfl (by decide +kernel) ⟨Nat.le_of_ble_eq_true rfl, Nat.le_of_ble_eq_true rfl⟩) (mPreXV hX hD hS hA hK hP hfo (ci := 6) rfl) rfl rfl hl.1 rfl (lv_room (Nat.le_of_ble_eq_true rfl)) dL_sound_167 ⟨(by show _ ≤ 2400; omega), (by show _ ≤ 14500; omega)⟩) hD hA hS (fun H locs hP hS _ => ?_)
                          refine lv_aload_n hx hb dL_sound_170 rfl (lv_at hl 5 rfl) ?_
                          refine lv_iload hx hb dL_sound_171 (lv_at hl 3 rfl) ?_
                          refine lv_iconst (v := (nI 3)) hx hb dL_sound_173 (by decide) ?_
                          refine r_call (v := (nI (slV x k 3))) (vx_runV (C := RX5) (As := [.int (nI k), .int (nI 3)]) (rest := [.int (nI (feV x k))]) ⟨hx, hb, hml, hown, hts⟩ (q_slips l hst de mi D cy _ _ o nn cn x hh hI.1 k 3 (by omega) (by omega) (by omega)) (cwV 2 hts gL_sound_X5_slips rfl rfl rfl (by decide +kernel) ⟨Nat.le_of_ble_eq_true rfl, Nat.le_of_ble_eq_true rfl⟩) (mPreXV hX hD hS hA hK hP hfo (ci := 6) rfl) rfl rfl hl.1 rfl (lv_room (Nat.le_of_ble_eq_true rfl)) dL_sound_174 ⟨(by show _ ≤ 2400; omega), (by show _ ≤ 14500; omega)⟩) hD hA hS (fun H locs hP hS _ => ?_)
                          refine z_icmp_ne (u := ((feV x k : Nat) : Int)) (v := ((slV x k 3 : Nat) : Int)) (tgt := 184) hx hb (nI_toInt (by omega)) (nI_toInt (by omega)) dL_sound_177 (by decide) (fun c_177 => ?_) (fun c_177 => ?_)
                          · exfalso; omega
                          · refine lv_iconst (v := (nI 1)) hx hb dL_sound_180 (by decide) ?_
                            refine lv_goto (tgt := 185) hx hb dL_sound_181 (by decide) ?_
                            refine lv_istore_n (lv' := [(3, .int (nI 1)), (2, .int (nI ((usedN (rkB x) k) + 1))), (6, .int (nI (sumA (fun j => slV x k j) 5))), (5, .int (nI pp)), (4, .int (nI k)), (0, .ref o), (1, .ref d)]) hx hb dL_sound_185 rfl hl (by decide) rfl (fun ls hl => ?_)
                            refine n_iinc (x := k) (k := 1) (lv' := [(4, .int (nI (k + 1))), (3, .int (nI 1)), (2, .int (nI ((usedN (rkB x) k) + 1))), (6, .int (nI (sumA (fun j => slV x k j) 5))), (5, .int (nI pp)), (0, .ref o), (1, .ref d)]) hx hb dL_sound_186 rfl hl (q := 4) rfl (by decide) rfl (fun ls hl => ?_)
                            refine lv_goto (tgt := 7) hx hb dL_sound_189 (by decide) ?_
                            have hl : lv_has ls 8 [(4, .int (nI (k + 1))), (3, .int (nI 1)), (2, .int (nI (usedN (rkB x) (k + 1)))), (6, .int (nI (sumA (fun j => slV x k j) 5))), (5, .int (nI pp)), (0, .ref o), (1, .ref d)] := by
                              have e9 : usedN (rkB x) (k + 1) = usedN (rkB x) k + 1 := by rw [rk_s, hrk]; rfl
                              rw [e9]
                              exact hl
                            refine W.widen (k := 40 * (k + 1)) (n := 240 * (k + 1)) (by omega) (by omega) ?_
                            exact w_sound_7 C0 hD hh hd hI hg KK j (k + 1) (by omega) H locs ls hP hS (lv_sub hl [0, 1, 2, 5, 6] rfl)
                      · exfalso; omega
                    · refine lv_iconst (v := (nI 1)) hx hb dL_sound_142 (by decide) ?_
                      refine lv_goto (tgt := 147) hx hb dL_sound_143 (by decide) ?_
                      refine lv_aload_n hx hb dL_sound_147 rfl (lv_at hl 5 rfl) ?_
                      refine lv_iload hx hb dL_sound_148 (lv_at hl 3 rfl) ?_
                      refine r_call (v := (zI (laV x k))) (vx_runV (C := RX5) (As := [.int (nI k)]) (rest := [.int (nI 1)]) ⟨hx, hb, hml, hown, hts⟩ (q_lacks l hst de mi D cy _ _ o nn cn x hh hI.1 k (by omega) (by omega)) (cwV 1 hts gL_sound_X5_lacks rfl rfl rfl (by decide +kernel) ⟨Nat.le_of_ble_eq_true rfl, Nat.le_of_ble_eq_true rfl⟩) (mPreXV hX hD hS hA hK hP hfo (ci := 6) rfl) rfl rfl hl.1 rfl (lv_room (Nat.le_of_ble_eq_true rfl)) dL_sound_150 ⟨(by show _ ≤ 2400; omega), (by show _ ≤ 14500; omega)⟩) hD hA hS (fun H locs hP hS _ => ?_)
                      refine z_if_le (u := (laV x k)) (tgt := 160) hx hb (zI_toInt (by omega) (by omega)) dL_sound_153 (by decide) (fun c_153 => ?_) (fun c_153 => ?_)
                      · exfalso; omega
                      · refine lv_iconst (v := (nI 1)) hx hb dL_sound_156 (by decide) ?_
                        refine lv_goto (tgt := 161) hx hb dL_sound_157 (by decide) ?_
                        refine z_icmp_ne (u := ((1 : Nat) : Int)) (v := ((1 : Nat) : Int)) (tgt := 184) hx hb (nI_toInt (by omega)) (nI_toInt (by omega)) dL_sound_161 (by decide) (fun c_161 => ?_) (fun c_161 => ?_)
                        · exfalso; omega
                        · refine lv_aload_n hx hb dL_sound_164 rfl (lv_at hl 5 rfl) ?_
                          refine lv_iload hx hb dL_sound_165 (lv_at hl 3 rfl) ?_
                          refine r_call (v := (nI (feV x k))) (vx_runV (C := RX5) (As := [.int (nI k)]) (rest := []) ⟨hx, hb, hml, hown, hts⟩ (q_orderAnew l hst de mi D cy _ _ o nn cn x hh hI.1 k (by omega) (by omega)) (cwV 1 hts gL_sound_X5_orderAnew rfl rfl rfl (by decide +kernel) ⟨Nat.le_of_ble_eq_true rfl, Nat.le_of_ble_eq_true rfl⟩) (mPreXV hX hD hS hA hK hP hfo (ci := 6) rfl) rfl rfl hl.1 rfl (lv_room (Nat.le_of_ble_eq_true rfl)) dL_sound_167 ⟨(by show _ ≤ 2400; omega), (by show _ ≤ 14500; omega)⟩) hD hA hS (fun H locs hP hS _ => ?_)
                          refine lv_aload_n hx hb dL_sound_170 rfl (lv_at hl 5 rfl) ?_
                          refine lv_iload hx hb dL_sound_171 (lv_at hl 3 rfl) ?_
                          refine lv_iconst (v := (nI 3)) hx hb dL_sound_173 (by decide) ?_
                          refine r_call (v := (nI (slV x k 3))) (vx_runV (C := RX5) (As := [.int (nI k), .int (nI 3)]) (rest := [.int (nI (feV x k))]) ⟨hx, hb, hml, hown, hts⟩ (q_slips l hst de mi D cy _ _ o nn cn x hh hI.1 k 3 (by omega) (by omega) (by omega)) (cwV 2 hts gL_sound_X5_slips rfl rfl rfl (by decide +kernel) ⟨Nat.le_of_ble_eq_true rfl, Nat.le_of_ble_eq_true rfl⟩) (mPreXV hX hD hS hA hK hP hfo (ci := 6) rfl) rfl rfl hl.1 rfl (lv_room (Nat.le_of_ble_eq_true rfl)) dL_sound_174 ⟨(by show _ ≤ 2400; omega), (by show _ ≤ 14500; omega)⟩) hD hA hS (fun H locs hP hS _ => ?_)
                          refine z_icmp_ne (u := ((feV x k : Nat) : Int)) (v := ((slV x k 3 : Nat) : Int)) (tgt := 184) hx hb (nI_toInt (by omega)) (nI_toInt (by omega)) dL_sound_177 (by decide) (fun c_177 => ?_) (fun c_177 => ?_)
                          · exfalso; omega
                          · refine lv_iconst (v := (nI 1)) hx hb dL_sound_180 (by decide) ?_
                            refine lv_goto (tgt := 185) hx hb dL_sound_181 (by decide) ?_
                            refine lv_istore_n (lv' := [(3, .int (nI 1)), (2, .int (nI ((usedN (rkB x) k) + 1))), (6, .int (nI (sumA (fun j => slV x k j) 5))), (5, .int (nI pp)), (4, .int (nI k)), (0, .ref o), (1, .ref d)]) hx hb dL_sound_185 rfl hl (by decide) rfl (fun ls hl => ?_)
                            refine n_iinc (x := k) (k := 1) (lv' := [(4, .int (nI (k + 1))), (3, .int (nI 1)), (2, .int (nI ((usedN (rkB x) k) + 1))), (6, .int (nI (sumA (fun j => slV x k j) 5))), (5, .int (nI pp)), (0, .ref o), (1, .ref d)]) hx hb dL_sound_186 rfl hl (q := 4) rfl (by decide) rfl (fun ls hl => ?_)
                            refine lv_goto (tgt := 7) hx hb dL_sound_189 (by decide) ?_
                            have hl : lv_has ls 8 [(4, .int (nI (k + 1))), (3, .int (nI 1)), (2, .int (nI (usedN (rkB x) (k + 1)))), (6, .int (nI (sumA (fun j => slV x k j) 5))), (5, .int (nI pp)), (0, .ref o), (1, .ref d)] := by
                              have e9 : usedN (rkB x) (k + 1) = usedN (rkB x) k + 1 := by rw [rk_s, hrk]; rfl
                              rw [e9]
                              exact hl
                            refine W.widen (k := 40 * (k + 1)) (n := 240 * (k + 1)) (by omega) (by omega) ?_
                            exact w_sound_7 C0 hD hh hd hI hg KK j (k + 1) (by omega) H locs ls hP hS (lv_sub hl [0, 1, 2, 5, 6] rfl)
            · exfalso; omega
          · exfalso; omega
      · have hw9 : wC x k = -9999 := hpw.mp c_62
        have hrk : rkB x k = false := decide_eq_false (fun z => z hw9)
        refine lv_iconst (v := (nI 0)) hx hb dL_sound_65 (by decide) ?_
        refine lv_goto (tgt := 70) hx hb dL_sound_66 (by decide) ?_
        refine n_add (x := usedN (rkB x) k) (y := 0) hx hb dL_sound_70 ?_
        refine lv_istore_n (lv' := [(2, .int (nI ((usedN (rkB x) k) + 0))), (6, .int (nI (sumA (fun j => slV x k j) 5))), (5, .int (zI (plV cn x k))), (4, .int (nI k)), (3, .int (nI 1)), (0, .ref o), (1, .ref d)]) hx hb dL_sound_71 rfl hl (by decide) rfl (fun ls hl => ?_)
        refine lv_iload hx hb dL_sound_72 (lv_at hl 1 rfl) ?_
        refine lv_aload_n hx hb dL_sound_74 rfl (lv_at hl 5 rfl) ?_
        refine lv_iload hx hb dL_sound_75 (lv_at hl 3 rfl) ?_
        refine lv_iconst (v := (nI 5)) hx hb dL_sound_77 (by decide) ?_
        refine r_call (v := (nI (slV x k 5))) (vx_runV (C := RX5) (As := [.int (nI k), .int (nI 5)]) (rest := [.int (nI (sumA (fun j => slV x k j) 5))]) ⟨hx, hb, hml, hown, hts⟩ (q_slips l hst de mi D cy _ _ o nn cn x hh hI.1 k 5 (by omega) (by omega) (by omega)) (cwV 2 hts gL_sound_X5_slips rfl rfl rfl (by decide +kernel) ⟨Nat.le_of_ble_eq_true rfl, Nat.le_of_ble_eq_true rfl⟩) (mPreXV hX hD hS hA hK hP hfo (ci := 6) rfl) rfl rfl hl.1 rfl (lv_room (Nat.le_of_ble_eq_true rfl)) dL_sound_78 ⟨(by show _ ≤ 2400; omega), (by show _ ≤ 14500; omega)⟩) hD hA hS (fun H locs hP hS _ => ?_)
        refine z_icmp_ne (u := ((sumA (fun j => slV x k j) 5 : Nat) : Int)) (v := ((slV x k 5 : Nat) : Int)) (tgt := 184) hx hb (nI_toInt (by omega)) (nI_toInt (by omega)) dL_sound_81 (by decide) (fun c_81 => ?_) (fun c_81 => ?_)
        · exfalso; omega
        · refine lv_iload hx hb dL_sound_84 (lv_at hl 2 rfl) ?_
          refine lv_iconst (v := (zI (-1))) hx hb dL_sound_86 (by decide) ?_
          refine z_icmp_ne (u := (plV cn x k)) (v := (-1)) (tgt := 94) hx hb (zI_toInt (by omega) (by omega)) (zI_toInt (by omega) (by omega)) dL_sound_87 (by decide) (fun c_87 => ?_) (fun c_87 => ?_)
          · exfalso; omega
          · refine lv_iconst (v := (nI 1)) hx hb dL_sound_90 (by decide) ?_
            refine lv_goto (tgt := 95) hx hb dL_sound_91 (by decide) ?_
            refine lv_aload_n hx hb dL_sound_95 rfl (lv_at hl 5 rfl) ?_
            refine lv_iload hx hb dL_sound_96 (lv_at hl 3 rfl) ?_
            refine r_call (v := (zI (wC x k))) (vx_runV (C := RX5) (As := [.int (nI k)]) (rest := [.int (nI 1)]) ⟨hx, hb, hml, hown, hts⟩ (q_worth l hst de mi D cy _ _ o nn cn x hh hI.1 k (by omega) (by omega)) (cwV 1 hts gL_sound_X5_worth rfl rfl rfl (by decide +kernel) ⟨Nat.le_of_ble_eq_true rfl, Nat.le_of_ble_eq_true rfl⟩) (mPreXV hX hD hS hA hK hP hfo (ci := 6) rfl) rfl rfl hl.1 rfl (lv_room (Nat.le_of_ble_eq_true rfl)) dL_sound_98 ⟨(by show _ ≤ 2400; omega), (by show _ ≤ 14500; omega)⟩) hD hA hS (fun H locs hP hS _ => ?_)
            refine lv_sipush (v := (zI (-9999))) hx hb dL_sound_101 (by decide) ?_
            refine z_icmp_ne (u := (wC x k)) (v := (-9999)) (tgt := 111) hx hb (zI_toInt (by omega) (by omega)) (zI_toInt (by omega) (by omega)) dL_sound_104 (by decide) (fun c_104 => ?_) (fun c_104 => ?_)
            · exfalso; omega
            · refine lv_iconst (v := (nI 1)) hx hb dL_sound_107 (by decide) ?_
              refine lv_goto (tgt := 112) hx hb dL_sound_108 (by decide) ?_
              refine z_icmp_ne (u := ((1 : Nat) : Int)) (v := ((1 : Nat) : Int)) (tgt := 184) hx hb (nI_toInt (by omega)) (nI_toInt (by omega)) dL_sound_112 (by decide) (fun c_112 => ?_) (fun c_112 => ?_)
              · exfalso; omega
              · refine lv_iload hx hb dL_sound_115 (lv_at hl 2 rfl) ?_
                refine lv_iconst (v := (zI (-1))) hx hb dL_sound_117 (by decide) ?_
                refine z_icmp_eq (u := (plV cn x k)) (v := (-1)) (tgt := 132) hx hb (zI_toInt (by omega) (by omega)) (zI_toInt (by omega) (by omega)) dL_sound_118 (by decide) (fun c_118 => ?_) (fun c_118 => ?_)
                · refine lv_aload_n hx hb dL_sound_132 rfl (lv_at hl 5 rfl) ?_
                  refine lv_iload hx hb dL_sound_133 (lv_at hl 3 rfl) ?_
                  refine r_call (v := (zI (grV x k))) (vx_runV (C := RX5) (As := [.int (nI k)]) (rest := []) ⟨hx, hb, hml, hown, hts⟩ (q_grade l hst de mi D cy _ _ o nn cn x hh hI.1 k (by omega) (by omega)) (cwV 1 hts gL_sound_X5_grade rfl rfl rfl (by decide +kernel) ⟨Nat.le_of_ble_eq_true rfl, Nat.le_of_ble_eq_true rfl⟩) (mPreXV hX hD hS hA hK hP hfo (ci := 6) rfl) rfl rfl hl.1 rfl (lv_room (Nat.le_of_ble_eq_true rfl)) dL_sound_135 ⟨(by show _ ≤ 2400; omega), (by show _ ≤ 14500; omega)⟩) hD hA hS (fun H locs hP hS _ => ?_)
                  refine lv_iconst (v := (zI (-1))) hx hb dL_sound_138 (by decide) ?_
                  refine z_icmp_ne (u := (grV x k)) (v := (-1)) (tgt := 146) hx hb (zI_toInt (by omega) (by omega)) (zI_toInt (by omega) (by omega)) dL_sound_139 (by decide) (fun c_139 => ?_) (fun c_139 => ?_)
                  · refine lv_iconst (v := (nI 0)) hx hb dL_sound_146 (by decide) ?_
                    refine lv_aload_n hx hb dL_sound_147 rfl (lv_at hl 5 rfl) ?_
                    refine lv_iload hx hb dL_sound_148 (lv_at hl 3 rfl) ?_
                    refine r_call (v := (zI (laV x k))) (vx_runV (C := RX5) (As := [.int (nI k)]) (rest := [.int (nI 0)]) ⟨hx, hb, hml, hown, hts⟩ (q_lacks l hst de mi D cy _ _ o nn cn x hh hI.1 k (by omega) (by omega)) (cwV 1 hts gL_sound_X5_lacks rfl rfl rfl (by decide +kernel) ⟨Nat.le_of_ble_eq_true rfl, Nat.le_of_ble_eq_true rfl⟩) (mPreXV hX hD hS hA hK hP hfo (ci := 6) rfl) rfl rfl hl.1 rfl (lv_room (Nat.le_of_ble_eq_true rfl)) dL_sound_150 ⟨(by show _ ≤ 2400; omega), (by show _ ≤ 14500; omega)⟩) hD hA hS (fun H locs hP hS _ => ?_)
                    refine z_if_le (u := (laV x k)) (tgt := 160) hx hb (zI_toInt (by omega) (by omega)) dL_sound_153 (by decide) (fun c_153 => ?_) (fun c_153 => ?_)
                    · refine lv_iconst (v := (nI 0)) hx hb dL_sound_160 (by decide) ?_
                      refine z_icmp_ne (u := ((0 : Nat) : Int)) (v := ((0 : Nat) : Int)) (tgt := 184) hx hb (nI_toInt (by omega)) (nI_toInt (by omega)) dL_sound_161 (by decide) (fun c_161 => ?_) (fun c_161 => ?_)
                      · exfalso; omega
                      · refine lv_aload_n hx hb dL_sound_164 rfl (lv_at hl 5 rfl) ?_
                        refine lv_iload hx hb dL_sound_165 (lv_at hl 3 rfl) ?_
                        refine r_call (v := (nI (feV x k))) (vx_runV (C := RX5) (As := [.int (nI k)]) (rest := []) ⟨hx, hb, hml, hown, hts⟩ (q_orderAnew l hst de mi D cy _ _ o nn cn x hh hI.1 k (by omega) (by omega)) (cwV 1 hts gL_sound_X5_orderAnew rfl rfl rfl (by decide +kernel) ⟨Nat.le_of_ble_eq_true rfl, Nat.le_of_ble_eq_true rfl⟩) (mPreXV hX hD hS hA hK hP hfo (ci := 6) rfl) rfl rfl hl.1 rfl (lv_room (Nat.le_of_ble_eq_true rfl)) dL_sound_167 ⟨(by show _ ≤ 2400; omega), (by show _ ≤ 14500; omega)⟩) hD hA hS (fun H locs hP hS _ => ?_)
                        refine lv_aload_n hx hb dL_sound_170 rfl (lv_at hl 5 rfl) ?_
                        refine lv_iload hx hb dL_sound_171 (lv_at hl 3 rfl) ?_
                        refine lv_iconst (v := (nI 3)) hx hb dL_sound_173 (by decide) ?_
                        refine r_call (v := (nI (slV x k 3))) (vx_runV (C := RX5) (As := [.int (nI k), .int (nI 3)]) (rest := [.int (nI (feV x k))]) ⟨hx, hb, hml, hown, hts⟩ (q_slips l hst de mi D cy _ _ o nn cn x hh hI.1 k 3 (by omega) (by omega) (by omega)) (cwV 2 hts gL_sound_X5_slips rfl rfl rfl (by decide +kernel) ⟨Nat.le_of_ble_eq_true rfl, Nat.le_of_ble_eq_true rfl⟩) (mPreXV hX hD hS hA hK hP hfo (ci := 6) rfl) rfl rfl hl.1 rfl (lv_room (Nat.le_of_ble_eq_true rfl)) dL_sound_174 ⟨(by show _ ≤ 2400; omega), (by show _ ≤ 14500; omega)⟩) hD hA hS (fun H locs hP hS _ => ?_)
                        refine z_icmp_ne (u := ((feV x k : Nat) : Int)) (v := ((slV x k 3 : Nat) : Int)) (tgt := 184) hx hb (nI_toInt (by omega)) (nI_toInt (by omega)) dL_sound_177 (by decide) (fun c_177 => ?_) (fun c_177 => ?_)
                        · exfalso; omega
                        · refine lv_iconst (v := (nI 1)) hx hb dL_sound_180 (by decide) ?_
                          refine lv_goto (tgt := 185) hx hb dL_sound_181 (by decide) ?_
                          refine lv_istore_n (lv' := [(3, .int (nI 1)), (2, .int (nI ((usedN (rkB x) k) + 0))), (6, .int (nI (sumA (fun j => slV x k j) 5))), (5, .int (zI (plV cn x k))), (4, .int (nI k)), (0, .ref o), (1, .ref d)]) hx hb dL_sound_185 rfl hl (by decide) rfl (fun ls hl => ?_)
                          refine n_iinc (x := k) (k := 1) (lv' := [(4, .int (nI (k + 1))), (3, .int (nI 1)), (2, .int (nI ((usedN (rkB x) k) + 0))), (6, .int (nI (sumA (fun j => slV x k j) 5))), (5, .int (zI (plV cn x k))), (0, .ref o), (1, .ref d)]) hx hb dL_sound_186 rfl hl (q := 4) rfl (by decide) rfl (fun ls hl => ?_)
                          refine lv_goto (tgt := 7) hx hb dL_sound_189 (by decide) ?_
                          have hl : lv_has ls 8 [(4, .int (nI (k + 1))), (3, .int (nI 1)), (2, .int (nI (usedN (rkB x) (k + 1)))), (6, .int (nI (sumA (fun j => slV x k j) 5))), (5, .int (zI (plV cn x k))), (0, .ref o), (1, .ref d)] := by
                            have e9 : usedN (rkB x) (k + 1) = usedN (rkB x) k + 0 := by rw [rk_s, hrk]; rfl
                            rw [e9]
                            exact hl
                          refine W.widen (k := 40 * (k + 1)) (n := 240 * (k + 1)) (by omega) (by omega) ?_
                          exact w_sound_7 C0 hD hh hd hI hg KK j (k + 1) (by omega) H locs ls hP hS (lv_sub hl [0, 1, 2, 5, 6] rfl)
                    · exfalso; omega
                  · refine lv_iconst (v := (nI 1)) hx hb dL_sound_142 (by decide) ?_
                    refine lv_goto (tgt := 147) hx hb dL_sound_143 (by decide) ?_
                    refine lv_aload_n hx hb dL_sound_147 rfl (lv_at hl 5 rfl) ?_
                    refine lv_iload hx hb dL_sound_148 (lv_at hl 3 rfl) ?_
                    refine r_call (v := (zI (laV x k))) (vx_runV (C := RX5) (As := [.int (nI k)]) (rest := [.int (nI 1)]) ⟨hx, hb, hml, hown, hts⟩ (q_lacks l hst de mi D cy _ _ o nn cn x hh hI.1 k (by omega) (by omega)) (cwV 1 hts gL_sound_X5_lacks rfl rfl rfl (by decide +kernel) ⟨Nat.le_of_ble_eq_true rfl, Nat.le_of_ble_eq_true rfl⟩) (mPreXV hX hD hS hA hK hP hfo (ci := 6) rfl) rfl rfl hl.1 rfl (lv_room (Nat.le_of_ble_eq_true rfl)) dL_sound_150 ⟨(by show _ ≤ 2400; omega), (by show _ ≤ 14500; omega)⟩) hD hA hS (fun H locs hP hS _ => ?_)
                    refine z_if_le (u := (laV x k)) (tgt := 160) hx hb (zI_toInt (by omega) (by omega)) dL_sound_153 (by decide) (fun c_153 => ?_) (fun c_153 => ?_)
                    · exfalso; omega
                    · refine lv_iconst (v := (nI 1)) hx hb dL_sound_156 (by decide) ?_
                      refine lv_goto (tgt := 161) hx hb dL_sound_157 (by decide) ?_
                      refine z_icmp_ne (u := ((1 : Nat) : Int)) (v := ((1 : Nat) : Int)) (tgt := 184) hx hb (nI_toInt (by omega)) (nI_toInt (by omega)) dL_sound_161 (by decide) (fun c_161 => ?_) (fun c_161 => ?_)
                      · exfalso; omega
                      · refine lv_aload_n hx hb dL_sound_164 rfl (lv_at hl 5 rfl) ?_
                        refine lv_iload hx hb dL_sound_165 (lv_at hl 3 rfl) ?_
                        refine r_call (v := (nI (feV x k))) (vx_runV (C := RX5) (As := [.int (nI k)]) (rest := []) ⟨hx, hb, hml, hown, hts⟩ (q_orderAnew l hst de mi D cy _ _ o nn cn x hh hI.1 k (by omega) (by omega)) (cwV 1 hts gL_sound_X5_orderAnew rfl rfl rfl (by decide +kernel) ⟨Nat.le_of_ble_eq_true rfl, Nat.le_of_ble_eq_true rfl⟩) (mPreXV hX hD hS hA hK hP hfo (ci := 6) rfl) rfl rfl hl.1 rfl (lv_room (Nat.le_of_ble_eq_true rfl)) dL_sound_167 ⟨(by show _ ≤ 2400; omega), (by show _ ≤ 14500; omega)⟩) hD hA hS (fun H locs hP hS _ => ?_)
                        refine lv_aload_n hx hb dL_sound_170 rfl (lv_at hl 5 rfl) ?_
                        refine lv_iload hx hb dL_sound_171 (lv_at hl 3 rfl) ?_
                        refine lv_iconst (v := (nI 3)) hx hb dL_sound_173 (by decide) ?_
                        refine r_call (v := (nI (slV x k 3))) (vx_runV (C := RX5) (As := [.int (nI k), .int (nI 3)]) (rest := [.int (nI (feV x k))]) ⟨hx, hb, hml, hown, hts⟩ (q_slips l hst de mi D cy _ _ o nn cn x hh hI.1 k 3 (by omega) (by omega) (by omega)) (cwV 2 hts gL_sound_X5_slips rfl rfl rfl (by decide +kernel) ⟨Nat.le_of_ble_eq_true rfl, Nat.le_of_ble_eq_true rfl⟩) (mPreXV hX hD hS hA hK hP hfo (ci := 6) rfl) rfl rfl hl.1 rfl (lv_room (Nat.le_of_ble_eq_true rfl)) dL_sound_174 ⟨(by show _ ≤ 2400; omega), (by show _ ≤ 14500; omega)⟩) hD hA hS (fun H locs hP hS _ => ?_)
                        refine z_icmp_ne (u := ((feV x k : Nat) : Int)) (v := ((slV x k 3 : Nat) : Int)) (tgt := 184) hx hb (nI_toInt (by omega)) (nI_toInt (by omega)) dL_sound_177 (by decide) (fun c_177 => ?_) (fun c_177 => ?_)
                        · exfalso; omega
                        · refine lv_iconst (v := (nI 1)) hx hb dL_sound_180 (by decide) ?_
                          refine lv_goto (tgt := 185) hx hb dL_sound_181 (by decide) ?_
                          refine lv_istore_n (lv' := [(3, .int (nI 1)), (2, .int (nI ((usedN (rkB x) k) + 0))), (6, .int (nI (sumA (fun j => slV x k j) 5))), (5, .int (zI (plV cn x k))), (4, .int (nI k)), (0, .ref o), (1, .ref d)]) hx hb dL_sound_185 rfl hl (by decide) rfl (fun ls hl => ?_)
                          refine n_iinc (x := k) (k := 1) (lv' := [(4, .int (nI (k + 1))), (3, .int (nI 1)), (2, .int (nI ((usedN (rkB x) k) + 0))), (6, .int (nI (sumA (fun j => slV x k j) 5))), (5, .int (zI (plV cn x k))), (0, .ref o), (1, .ref d)]) hx hb dL_sound_186 rfl hl (q := 4) rfl (by decide) rfl (fun ls hl => ?_)
                          refine lv_goto (tgt := 7) hx hb dL_sound_189 (by decide) ?_
                          have hl : lv_has ls 8 [(4, .int (nI (k + 1))), (3, .int (nI 1)), (2, .int (nI (usedN (rkB x) (k + 1)))), (6, .int (nI (sumA (fun j => slV x k j) 5))), (5, .int (zI (plV cn x k))), (0, .ref o), (1, .ref d)] := by
                            have e9 : usedN (rkB x) (k + 1) = usedN (rkB x) k + 0 := by rw [rk_s, hrk]; rfl
                            rw [e9]
                            exact hl
                          refine W.widen (k := 40 * (k + 1)) (n := 240 * (k + 1)) (by omega) (by omega) ?_
                          exact w_sound_7 C0 hD hh hd hI hg KK j (k + 1) (by omega) H locs ls hP hS (lv_sub hl [0, 1, 2, 5, 6] rfl)
                · exfalso; omega
set_option maxRecDepth 100000 in
set_option maxHeartbeats 8000000 in
theorem w_sound_195 (C0 : LC p l s m args c cL_sound 8 wsL_sound A D cy de mi) (hD : mD A M) (hh : hall cy de M o cn x) (hd : M d = some (eI cy 64 g)) (hI : CI nn cn x) (hg : g 0 = cn 1 ∧ g 2 = cn 3) (KK : ∀ (H : Heap) (locs : List Loc) (ls : Array Slot), pm D M H → va_S A s.heap H locs → lv_has ls 8 [(3, .int (nI 1)), (2, .int (nI (rkN cn x))), (0, .ref o), (1, .ref d)] → W p l e ({ frames := 9, cells := 2400, slots := 14500, locals := 160 } : Room) s m args below meth c H locs (2380) (14400) Q (F0 m 259 ls [])) : ∀ (j k : Nat), 2 ≤ k → k ≤ 41 → rkN cn x + 1 ≤ k + j → ∀ (H : Heap) (locs : List Loc) (ls : Array Slot), pm D M H → va_S A s.heap H locs → lv_has ls 8 [(4, .int (nI k)), (3, .int (nI 1)), (2, .int (nI (rkN cn x))), (0, .ref o), (1, .ref d)] → W p l e ({ frames := 9, cells := 2400, slots := 14500, locals := 160 } : Room) s m args below meth c H locs (1600 + 18 * k) (9600 + 108 * k) Q (F0 m 195 ls [])
  | 0, k, h2, h41, hk => by
    intro H locs ls hP hS hl
    obtain ⟨hx, hb, hml, hown, hts, hA, hK, hX, hN0, hst⟩ := id C0
    obtain ⟨n0, n1, n2, n3, n4, -⟩ := id hI.1
    obtain ⟨g0, g2⟩ := id hg
    obtain ⟨fo, hfo⟩ := hh.fst
    have hrl := rk_le cn x
    refine lv_iload hx hb dL_sound_195 (lv_at hl 0 rfl) ?_
    refine lv_iload_n hx hb dL_sound_197 rfl (lv_at hl 2 rfl) ?_
    refine z_icmp_gt (u := ((k : Nat) : Int)) (v := ((rkN cn x : Nat) : Int)) (tgt := 259) hx hb (nI_toInt (by omega)) (nI_toInt (by omega)) dL_sound_198 (by decide) (fun c_198 => ?_) (fun c_198 => ?_)
    · refine W.widen (k := 2380) (n := 14400) (by omega) (by omega) ?_
      exact KK H locs ls hP hS (lv_sub hl [1, 2, 3, 4] rfl)
    · exfalso; omega
  | j + 1, k, h2, h41, hk => by
    intro H locs ls hP hS hl
    obtain ⟨hx, hb, hml, hown, hts, hA, hK, hX, hN0, hst⟩ := id C0
    obtain ⟨n0, n1, n2, n3, n4, -⟩ := id hI.1
    obtain ⟨g0, g2⟩ := id hg
    obtain ⟨fo, hfo⟩ := hh.fst
    have hrl := rk_le cn x
    refine lv_iload hx hb dL_sound_195 (lv_at hl 0 rfl) ?_
    refine lv_iload_n hx hb dL_sound_197 rfl (lv_at hl 2 rfl) ?_
    refine z_icmp_gt (u := ((k : Nat) : Int)) (v := ((rkN cn x : Nat) : Int)) (tgt := 259) hx hb (nI_toInt (by omega)) (nI_toInt (by omega)) dL_sound_198 (by decide) (fun c_198 => ?_) (fun c_198 => ?_)
    · refine W.widen (k := 2380) (n := 14400) (by omega) (by omega) ?_
      exact KK H locs ls hP hS (lv_sub hl [1, 2, 3, 4] rfl)
    · obtain ⟨i, jj, oi, oj, ha1, ha2, hwo, hne⟩ := at_order hI k (by omega) (by omega)
      have hw1 := w_bd hI i
      have hw2 := w_bd hI jj
      refine lv_iload_n hx hb dL_sound_201 rfl (lv_at hl 1 rfl) ?_
      refine k_if_eq_1 (tgt := 259) hx hb dL_sound_202 (by decide) ?_
      refine lv_aload_n hx hb dL_sound_205 rfl (lv_at hl 3 rfl) ?_
      refine lv_aload_n hx hb dL_sound_206 rfl (lv_at hl 3 rfl) ?_
      refine lv_iload hx hb dL_sound_207 (lv_at hl 0 rfl) ?_
      refine lv_iconst (v := (nI 1)) hx hb dL_sound_209 (by decide) ?_
      refine n_sub (x := k) (y := 1) hx hb (by omega) dL_sound_210 ?_
      refine r_call (v := (zI (atV cn x (k - 1)))) (vx_runV (C := RX5) (As := [.int (nI (k - 1))]) (rest := [.ref o]) ⟨hx, hb, hml, hown, hts⟩ (q_at l hst de mi D cy _ _ o nn cn x hh hI.1 (k - 1) (by omega) (by omega)) (cwV 1 hts gL_sound_X5_at rfl rfl rfl (by decide +kernel) ⟨Nat.le_of_ble_eq_true rfl, Nat.le_of_ble_eq_true rfl⟩) (mPreXV hX hD hS hA hK hP hfo (ci := 6) rfl) rfl rfl hl.1 rfl (lv_room (Nat.le_of_ble_eq_true rfl)) dL_sound_211 ⟨(by show _ ≤ 2400; omega), (by show _ ≤ 14500; omega)⟩) hD hA hS (fun H locs hP hS _ => ?_)
      refine n_name (show (zI (atV cn x (k - 1))) = nI i from by rw [ha1, ← nI_zI]) ?_
      refine r_call (v := (zI (wC x i))) (vx_runV (C := RX5) (As := [.int (nI i)]) (rest := []) ⟨hx, hb, hml, hown, hts⟩ (q_worth l hst de mi D cy _ _ o nn cn x hh hI.1 i (by omega) (by omega)) (cwV 1 hts gL_sound_X5_worth rfl rfl rfl (by decide +kernel) ⟨Nat.le_of_ble_eq_true rfl, Nat.le_of_ble_eq_true rfl⟩) (mPreXV hX hD hS hA hK hP hfo (ci := 6) rfl) rfl rfl hl.1 rfl (lv_room (Nat.le_of_ble_eq_true rfl)) dL_sound_214 ⟨(by show _ ≤ 2400; omega), (by show _ ≤ 14500; omega)⟩) hD hA hS (fun H locs hP hS _ => ?_)
      refine lv_aload_n hx hb dL_sound_217 rfl (lv_at hl 3 rfl) ?_
      refine lv_aload_n hx hb dL_sound_218 rfl (lv_at hl 3 rfl) ?_
      refine lv_iload hx hb dL_sound_219 (lv_at hl 0 rfl) ?_
      refine r_call (v := (zI (atV cn x k))) (vx_runV (C := RX5) (As := [.int (nI k)]) (rest := [.ref o, .int (zI (wC x i))]) ⟨hx, hb, hml, hown, hts⟩ (q_at l hst de mi D cy _ _ o nn cn x hh hI.1 k (by omega) (by omega)) (cwV 1 hts gL_sound_X5_at rfl rfl rfl (by decide +kernel) ⟨Nat.le_of_ble_eq_true rfl, Nat.le_of_ble_eq_true rfl⟩) (mPreXV hX hD hS hA hK hP hfo (ci := 6) rfl) rfl rfl hl.1 rfl (lv_room (Nat.le_of_ble_eq_true rfl)) dL_sound_221 ⟨(by show _ ≤ 2400; omega), (by show _ ≤ 14500; omega)⟩) hD hA hS (fun H locs hP hS _ => ?_)
      refine n_name (show (zI (atV cn x k)) = nI jj from by rw [ha2, ← nI_zI]) ?_
      refine r_call (v := (zI (wC x jj))) (vx_runV (C := RX5) (As := [.int (nI jj)]) (rest := [.int (zI (wC x i))]) ⟨hx, hb, hml, hown, hts⟩ (q_worth l hst de mi D cy _ _ o nn cn x hh hI.1 jj (by omega) (by omega)) (cwV 1 hts gL_sound_X5_worth rfl rfl rfl (by decide +kernel) ⟨Nat.le_of_ble_eq_true rfl, Nat.le_of_ble_eq_true rfl⟩) (mPreXV hX hD hS hA hK hP hfo (ci := 6) rfl) rfl rfl hl.1 rfl (lv_room (Nat.le_of_ble_eq_true rfl)) dL_sound_224 ⟨(by show _ ≤ 2400; omega), (by show _ ≤ 14500; omega)⟩) hD hA hS (fun H locs hP hS _ => ?_)
      refine z_icmp_lt (u := (wC x i)) (v := (wC x jj)) (tgt := 251) hx hb (zI_toInt (by omega) (by omega)) (zI_toInt (by omega) (by omega)) dL_sound_227 (by decide) (fun c_227 => ?_) (fun c_227 => ?_)
      · exfalso; omega
      · refine lv_aload_n hx hb dL_sound_230 rfl (lv_at hl 3 rfl) ?_
        refine lv_iload hx hb dL_sound_231 (lv_at hl 0 rfl) ?_
        refine lv_iconst (v := (nI 1)) hx hb dL_sound_233 (by decide) ?_
        refine n_sub (x := k) (y := 1) hx hb (by omega) dL_sound_234 ?_
        refine r_call (v := (zI (atV cn x (k - 1)))) (vx_runV (C := RX5) (As := [.int (nI (k - 1))]) (rest := []) ⟨hx, hb, hml, hown, hts⟩ (q_at l hst de mi D cy _ _ o nn cn x hh hI.1 (k - 1) (by omega) (by omega)) (cwV 1 hts gL_sound_X5_at rfl rfl rfl (by decide +kernel) ⟨Nat.le_of_ble_eq_true rfl, Nat.le_of_ble_eq_true rfl⟩) (mPreXV hX hD hS hA hK hP hfo (ci := 6) rfl) rfl rfl hl.1 rfl (lv_room (Nat.le_of_ble_eq_true rfl)) dL_sound_235 ⟨(by show _ ≤ 2400; omega), (by show _ ≤ 14500; omega)⟩) hD hA hS (fun H locs hP hS _ => ?_)
        refine n_name (show (zI (atV cn x (k - 1))) = nI i from by rw [ha1, ← nI_zI]) ?_
        refine lv_aload_n hx hb dL_sound_238 rfl (lv_at hl 3 rfl) ?_
        refine lv_iload hx hb dL_sound_239 (lv_at hl 0 rfl) ?_
        refine r_call (v := (zI (atV cn x k))) (vx_runV (C := RX5) (As := [.int (nI k)]) (rest := [.int (nI i)]) ⟨hx, hb, hml, hown, hts⟩ (q_at l hst de mi D cy _ _ o nn cn x hh hI.1 k (by omega) (by omega)) (cwV 1 hts gL_sound_X5_at rfl rfl rfl (by decide +kernel) ⟨Nat.le_of_ble_eq_true rfl, Nat.le_of_ble_eq_true rfl⟩) (mPreXV hX hD hS hA hK hP hfo (ci := 6) rfl) rfl rfl hl.1 rfl (lv_room (Nat.le_of_ble_eq_true rfl)) dL_sound_241 ⟨(by show _ ≤ 2400; omega), (by show _ ≤ 14500; omega)⟩) hD hA hS (fun H locs hP hS _ => ?_)
        refine n_name (show (zI (atV cn x k)) = nI jj from by rw [ha2, ← nI_zI]) ?_
        refine z_icmp_eq (u := ((i : Nat) : Int)) (v := ((jj : Nat) : Int)) (tgt := 251) hx hb (nI_toInt (by omega)) (nI_toInt (by omega)) dL_sound_244 (by decide) (fun c_244 => ?_) (fun c_244 => ?_)
        · exfalso; omega
        · refine lv_iconst (v := (nI 1)) hx hb dL_sound_247 (by decide) ?_
          refine lv_goto (tgt := 252) hx hb dL_sound_248 (by decide) ?_
          refine lv_istore_n (lv' := [(3, .int (nI 1)), (4, .int (nI k)), (2, .int (nI (rkN cn x))), (0, .ref o), (1, .ref d)]) hx hb dL_sound_252 rfl hl (by decide) rfl (fun ls hl => ?_)
          refine n_iinc (x := k) (k := 1) (lv' := [(4, .int (nI (k + 1))), (3, .int (nI 1)), (2, .int (nI (rkN cn x))), (0, .ref o), (1, .ref d)]) hx hb dL_sound_253 rfl hl (q := 1) rfl (by decide) rfl (fun ls hl => ?_)
          refine lv_goto (tgt := 195) hx hb dL_sound_256 (by decide) ?_
          refine W.widen (k := 1600 + 18 * (k + 1)) (n := 9600 + 108 * (k + 1)) (by omega) (by omega) ?_
          exact w_sound_195 C0 hD hh hd hI hg KK j (k + 1) (by omega) (by omega) (by omega) H locs ls hP hS (lv_sub hl [0, 1, 2, 3, 4] rfl)
set_option maxRecDepth 100000 in
set_option maxHeartbeats 8000000 in
theorem w_sound (C0 : LC p l s m args c cL_sound 8 wsL_sound A D cy de mi) (hD : mD A M) (hh : hall cy de M o cn x) (hd : M d = some (eI cy 64 g)) (hI : CI nn cn x) (hg : g 0 = cn 1 ∧ g 2 = cn 3) {H : Heap} {locs : List Loc} {ls : Array Slot} (kE : ∀ (k n : Nat) (H : Heap) (locs : List Loc) (pc : Nat) (ls : Array Slot), pm D M H → va_S A s.heap H locs → decode cL_sound pc = .ok (.ireturn, 1) → k ≤ 2400 → n ≤ 14500 → W p l e ({ frames := 9, cells := 2400, slots := 14500, locals := 160 } : Room) s m args below meth c H locs k n Q (F0 m pc ls [.int (nI 1)])) (hP : pm D M H) (hS : va_S A s.heap H locs) (hl : lv_has ls 8 [(0, .ref o), (1, .ref d)]) : W p l e ({ frames := 9, cells := 2400, slots := 14500, locals := 160 } : Room) s m args below meth c H locs 0 0 Q (F0 m 0 ls []) := by
  obtain ⟨hx, hb, hml, hown, hts, hA, hK, hX, hN0, hst⟩ := id C0
  obtain ⟨n0, n1, n2, n3, n4, -⟩ := id hI.1
  obtain ⟨g0, g2⟩ := id hg
  obtain ⟨fo, hfo⟩ := hh.fst
  have hrl := rk_le cn x
  refine lv_iconst (v := (nI 0)) hx hb dL_sound_0 (by decide) ?_
  refine lv_istore_n (lv' := [(2, .int (nI 0)), (0, .ref o), (1, .ref d)]) hx hb dL_sound_1 rfl hl (by decide) rfl (fun ls hl => ?_)
  refine lv_iconst (v := (nI 1)) hx hb dL_sound_2 (by decide) ?_
  refine lv_istore_n (lv' := [(3, .int (nI 1)), (2, .int (nI 0)), (0, .ref o), (1, .ref d)]) hx hb dL_sound_3 rfl hl (by decide) rfl (fun ls hl => ?_)
  refine lv_iconst (v := (nI 0)) hx hb dL_sound_4 (by decide) ?_
  refine lv_istore (lv' := [(4, .int (nI 0)), (3, .int (nI 1)), (2, .int (nI 0)), (0, .ref o), (1, .ref d)]) hx hb dL_sound_5 hl (by decide) rfl (fun ls hl => ?_)
  refine W.widen (k := 40 * 0) (n := 240 * 0) (by omega) (by omega) ?_
  refine w_sound_7 C0 hD hh hd hI hg ?_ (cn 3) 0 (by omega) H locs ls hP hS (lv_sub hl [0, 1, 2, 3, 4] rfl)
  clear hP hS hl
  intro H locs ls hP hS hl
  refine lv_iconst (v := (nI 2)) hx hb dL_sound_192 (by decide) ?_
  refine lv_istore (lv' := [(4, .int (nI 2)), (3, .int (nI 1)), (2, .int (nI (rkN cn x))), (0, .ref o), (1, .ref d)]) hx hb dL_sound_193 hl (by decide) rfl (fun ls hl => ?_)
  refine W.widen (k := 1600 + 18 * 2) (n := 9600 + 108 * 2) (by omega) (by omega) ?_
  refine w_sound_195 C0 hD hh hd hI hg ?_ (rkN cn x) 2 (by omega) (by omega) (by omega) H locs ls hP hS (lv_sub hl [0, 1, 2, 3, 4] rfl)
  clear hP hS hl
  intro H locs ls hP hS hl
  have hnx := at_next hI
  refine lv_iload_n hx hb dL_sound_259 rfl (lv_at hl 0 rfl) ?_
  refine k_if_eq_1 (tgt := 278) hx hb dL_sound_260 (by decide) ?_
  refine lv_aload_n hx hb dL_sound_263 rfl (lv_at hl 2 rfl) ?_
  refine lv_iload_n hx hb dL_sound_264 rfl (lv_at hl 1 rfl) ?_
  refine lv_iconst (v := (nI 1)) hx hb dL_sound_265 (by decide) ?_
  refine n_add (x := rkN cn x) (y := 1) hx hb dL_sound_266 ?_
  refine r_call (v := (zI (atV cn x ((rkN cn x) + 1)))) (vx_runV (C := RX5) (As := [.int (nI ((rkN cn x) + 1))]) (rest := []) ⟨hx, hb, hml, hown, hts⟩ (q_at l hst de mi D cy _ _ o nn cn x hh hI.1 ((rkN cn x) + 1) (by omega) (by omega)) (cwV 1 hts gL_sound_X5_at rfl rfl rfl (by decide +kernel) ⟨Nat.le_of_ble_eq_true rfl, Nat.le_of_ble_eq_true rfl⟩) (mPreXV hX hD hS hA hK hP hfo (ci := 6) rfl) rfl rfl hl.1 rfl (lv_room (Nat.le_of_ble_eq_true rfl)) dL_sound_267 ⟨Nat.le_of_ble_eq_true rfl, Nat.le_of_ble_eq_true rfl⟩) hD hA hS (fun H locs hP hS _ => ?_)
  refine lv_iconst (v := (zI (-1))) hx hb dL_sound_270 (by decide) ?_
  refine z_icmp_ne (u := (atV cn x ((rkN cn x) + 1))) (v := (-1)) (tgt := 278) hx hb (zI_toInt (by omega) (by omega)) (zI_toInt (by omega) (by omega)) dL_sound_271 (by decide) (fun c_271 => ?_) (fun c_271 => ?_)
  · exfalso; omega
  · refine lv_iconst (v := (nI 1)) hx hb dL_sound_274 (by decide) ?_
    refine lv_goto (tgt := 279) hx hb dL_sound_275 (by decide) ?_
    exact kE _ _ H locs _ ls hP hS dL_sound_279 (Nat.le_of_ble_eq_true rfl) (Nat.le_of_ble_eq_true rfl)
end LSO
set_option maxRecDepth 100000 in
set_option maxHeartbeats 4000000 in
theorem c_L_sound (l : Launch) (hst : l.stackTraces = false) (de mi : Nat) (D : va_G) (cy : Nat → ClassId) (M : mM) (sz o d nn : Nat) (cn : Nat → Nat) (x : Nat → Nat → Nat) (g : Nat → Nat) (hh : hall cy de M o cn x) (hd : M d = some (eI cy 64 g)) (hI : CI nn cn x) (hg : g 0 = cn 1 ∧ g 2 = cn 3) : lMi l yL_sound wsL_sound ({ frames := 9, cells := 2400, slots := 14500, locals := 160 } : Room) de mi D cy M sz [.ref o, .ref d] (fun r M' => r = nI 1 ∧ M' = M) 2400 14500 := by
  refine lM.of (cc := cL_sound) (maxL := 8) (ret := some .boolean) (by decide) rfl (Nat.le_of_ble_eq_true rfl) ?_
  intro p e s m args below meth c ls hsz hx hb hr hts hown hlocks hml hP hD hS hA hK hX hN hl
  have hl : lv_has ls 8 [(0, .ref o), (1, .ref d)] := hl
  have C0 : LC p l s m args c cL_sound 8 wsL_sound (mA M sz) D cy de mi := ⟨hx, hb, hml, hown, hts, hA, hK, hX, hN, hst⟩
  exact w_sound C0 hD hh hd hI hg (fun k n H locs pc ls h1 h2 h3 h4 h5 => e_wz hx hb hr hlocks (by decide) h1 hD h2 ⟨rfl, rfl⟩ h3 h4 h5) hP hS hl
