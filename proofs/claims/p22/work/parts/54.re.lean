/-! the law: refused -/
theorem lg_self (x : Int64) : lg_cmp x x = nI 0 := by
  unfold lg_cmp
  simp
  try rfl
section LCL
variable {p : Program} {l : Launch} {e : Env} {R : Room} {s : State} {m : MethodId} {args : Array Value} {below : List Frame} {meth : Method} {c : Code} {H : Heap} {locs : List Loc} {cells slots : Nat} {Q : State → Prop}
variable {pc : Nat} {ls : Array Slot} {rest st0 : List Value} {D : va_G} {M : mM} {A : Nat → Prop} {mc ms : Nat} {a : Array Value}
theorem l_call {v : Int64} (hr : va_Run p l e R s m args below meth c H locs cells slots mc ms (F0 m pc ls st0) rest (va_Ql (fun r M' => r = v ∧ M' = M) (mB D M H.size) (mA M H.size) a) (mA M H.size)) (hD : mD A M) (hA : ∀ q, s.heap.size ≤ q → A q) (hS : va_S A s.heap H locs)
    (kk : ∀ (H1 : Heap) (locs1 : List Loc), pm D M H1 → va_S A s.heap H1 locs1 → W p l e R s m args below meth c H1 locs1 (cells + mc) (slots + ms) Q (F0 m (pc + 3) ls (.long v :: rest))) : W p l e R s m args below meth c H locs cells slots Q (F0 m pc ls st0) :=
  m_calll hr hD hA hS (fun r M1 H1 locs1 hp hP1 hD1 hS1 hz1 => by
    obtain ⟨rfl, rfl⟩ := hp
    exact kk H1 locs1 hP1 hS1)
theorem i_call {v : Int32} (hr : va_Run p l e R s m args below meth c H locs cells slots mc ms (F0 m pc ls st0) rest (va_Qi (fun r M' => r = v ∧ M' = M) (mB D M H.size) (mA M H.size) a) (mA M H.size)) (hD : mD A M) (hA : ∀ q, s.heap.size ≤ q → A q) (hS : va_S A s.heap H locs)
    (kk : ∀ (H1 : Heap) (locs1 : List Loc), pm D M H1 → va_S A s.heap H1 locs1 → W p l e R s m args below meth c H1 locs1 (cells + mc) (slots + ms) Q (F0 m (pc + 3) ls (.int v :: rest))) : W p l e R s m args below meth c H locs cells slots Q (F0 m pc ls st0) :=
  m_calli hr hD hA hS (fun r M1 H1 locs1 hp hP1 hD1 hS1 hz1 hd1 hk1 => by
    obtain ⟨rfl, rfl⟩ := hp
    exact kk H1 locs1 hP1 hS1)
end LCL
section LRE
variable {p : Program} {l : Launch} {e : Env} {s : State} {m : MethodId} {args : Array Value} {below : List Frame} {meth : Method} {c : Code} {Q : State → Prop} {D : va_G} {cy : Nat → ClassId} {de mi o d nn : Nat} {cn : Nat → Nat} {x : Nat → Nat → Nat} {g : Nat → Nat} {A : Nat → Prop} {M : mM} {H : Heap} {locs : List Loc} {ls : Array Slot}
set_option maxRecDepth 100000 in
set_option maxHeartbeats 8000000 in
theorem w_refused (C0 : LC p l s m args c cL_refused 5 wsL_refused A D cy de mi) (hD : mD A M) (hh : hall cy de M o cn x) (hd : M d = some (eI cy 64 g)) (hI : CI nn cn x) (hg : g 0 = cn 1 ∧ g 2 = cn 3) (kE : ∀ (k n : Nat) (H : Heap) (locs : List Loc) (pc : Nat) (ls : Array Slot), pm D M H → va_S A s.heap H locs → decode cL_refused pc = .ok (.ireturn, 1) → k ≤ 3400 → n ≤ 22000 → W p l e ({ frames := 11, cells := 3400, slots := 22000, locals := 290 } : Room) s m args below meth c H locs k n Q (F0 m pc ls [.int (nI 1)])) (hP : pm D M H) (hS : va_S A s.heap H locs) (hl : lv_has ls 5 [(0, .ref o), (1, .ref d)]) : W p l e ({ frames := 11, cells := 3400, slots := 22000, locals := 290 } : Room) s m args below meth c H locs 0 0 Q (F0 m 0 ls []) := by
  obtain ⟨hx, hb, hml, hown, hts, hA, hK, hX, hN0, hst⟩ := id C0
  obtain ⟨n0, n1, n2, n3, n4, -⟩ := id hI.1
  obtain ⟨g0, g2⟩ := id hg
  obtain ⟨fo, hfo⟩ := hh.fst
  refine lv_aload_n hx hb dL_refused_0 rfl (lv_at hl 0 rfl) ?_
  refine lv_aload_n hx hb dL_refused_1 rfl (lv_at hl 1 rfl) ?_
  refine l_call (v := alV cn x) (va_runS (As := [.ref o, .ref d]) (rest := []) ⟨hx, hb, hml, hown, hts⟩ (c_L_all l hst de mi D cy _ _ o d nn cn x g hh hd hI hg) (va_cwS 2 hts gL_refused_L_all rfl rfl rfl (by decide +kernel) ⟨Nat.le_of_ble_eq_true rfl, Nat.le_of_ble_eq_true rfl⟩) (wPreS hX hN0 hD hS hA hK hP) rfl rfl hl.1 rfl (lv_room (Nat.le_of_ble_eq_true rfl)) dL_refused_2 ⟨Nat.le_of_ble_eq_true rfl, Nat.le_of_ble_eq_true rfl⟩) hD hA hS (fun H locs hP hS => ?_)
  refine lv_lstore_n (lv' := [(2, .long (alV cn x)), (0, .ref o), (1, .ref d)]) hx hb dL_refused_5 rfl hl (by decide) rfl (fun ls hl => ?_)
  refine lv_aload_n hx hb dL_refused_6 rfl (lv_at hl 1 rfl) ?_
  refine lv_iconst (v := (nI 0)) hx hb dL_refused_7 (by decide) ?_
  refine lv_iconst (v := (zI (-1))) hx hb dL_refused_8 (by decide) ?_
  refine lv_iconst (v := (nI 0)) hx hb dL_refused_9 (by decide) ?_
  refine lv_iconst (v := (nI 0)) hx hb dL_refused_10 (by decide) ?_
  refine t_call (v := (zI (-2000000001))) (vx_runSX (As := [.ref o, .int (nI 0), .int (zI (-1)), .int (nI 0), .int (nI 0)]) (rest := []) ⟨hx, hb, hml, hown, hts⟩ (t_stroke l hst de mi D cy _ _ o nn cn x hh hI.1 (zI (-1)) (nI 0) (nI 0) (-1) (by decide) (0) (by decide) ) (vx_cwSW 5 hts gL_refused_L_call rfl rfl rfl (by decide +kernel) ⟨Nat.le_of_ble_eq_true rfl, Nat.le_of_ble_eq_true rfl⟩) (wPreS hX hN0 hD hS hA hK hP) rfl rfl hl.1 rfl (lv_room (Nat.le_of_ble_eq_true rfl)) dL_refused_11 ⟨Nat.le_of_ble_eq_true rfl, Nat.le_of_ble_eq_true rfl⟩) (fun r M' h => k_I h (fun r M' h => h.1.1) (fun z => by omega)) hD hA hS (fun H locs hP hS _ => ?_)
  refine lv_ldc (v := (zI (-2000000001))) hx hb hown (by rw [show (zI (-2000000001)) = (-2000000001 : Int32) by decide]; exact hts _ (List.mem_of_getElem? (i := 1) rfl)) dL_refused_14 ?_
  refine z_icmp_ne (u := (-2000000001)) (v := (-2000000001)) (tgt := 205) hx hb (zI_toInt (by omega) (by omega)) (zI_toInt (by omega) (by omega)) dL_refused_16 (by decide) (fun c_16 => ?_) (fun c_16 => ?_)
  · exfalso; omega
  · refine lv_aload_n hx hb dL_refused_19 rfl (lv_at hl 1 rfl) ?_
    refine lv_iconst (v := (nI 0)) hx hb dL_refused_20 (by decide) ?_
    refine lv_iconst (v := (nI 3)) hx hb dL_refused_21 (by decide) ?_
    refine lv_iconst (v := (nI 3)) hx hb dL_refused_22 (by decide) ?_
    refine lv_iconst (v := (nI 0)) hx hb dL_refused_23 (by decide) ?_
    refine t_call (v := (zI (-2000000002))) (vx_runSX (As := [.ref o, .int (nI 0), .int (nI 3), .int (nI 3), .int (nI 0)]) (rest := []) ⟨hx, hb, hml, hown, hts⟩ (t_stroke l hst de mi D cy _ _ o nn cn x hh hI.1 (nI 3) (nI 3) (nI 0) (3) (by decide) (3) (by decide) ) (vx_cwSW 5 hts gL_refused_L_call rfl rfl rfl (by decide +kernel) ⟨Nat.le_of_ble_eq_true rfl, Nat.le_of_ble_eq_true rfl⟩) (wPreS hX hN0 hD hS hA hK hP) rfl rfl hl.1 rfl (lv_room (Nat.le_of_ble_eq_true rfl)) dL_refused_24 ⟨Nat.le_of_ble_eq_true rfl, Nat.le_of_ble_eq_true rfl⟩) (fun r M' h => k_A h (fun r M' h => h.1.2.1) (by omega) (fun z => by omega)) hD hA hS (fun H locs hP hS _ => ?_)
    refine lv_ldc (v := (zI (-2000000002))) hx hb hown (by rw [show (zI (-2000000002)) = (-2000000002 : Int32) by decide]; exact hts _ (List.mem_of_getElem? (i := 2) rfl)) dL_refused_27 ?_
    refine z_icmp_ne (u := (-2000000002)) (v := (-2000000002)) (tgt := 205) hx hb (zI_toInt (by omega) (by omega)) (zI_toInt (by omega) (by omega)) dL_refused_29 (by decide) (fun c_29 => ?_) (fun c_29 => ?_)
    · exfalso; omega
    · refine lv_aload_n hx hb dL_refused_32 rfl (lv_at hl 1 rfl) ?_
      refine lv_iconst (v := (nI 3)) hx hb dL_refused_33 (by decide) ?_
      refine lv_bipush (v := (nI 10)) hx hb dL_refused_34 (by decide) ?_
      refine lv_iconst (v := (nI 0)) hx hb dL_refused_36 (by decide) ?_
      refine lv_iconst (v := (nI 0)) hx hb dL_refused_37 (by decide) ?_
      refine t_call (v := (zI (-2000000001))) (vx_runSX (As := [.ref o, .int (nI 3), .int (nI 10), .int (nI 0), .int (nI 0)]) (rest := []) ⟨hx, hb, hml, hown, hts⟩ (t_strokeOf l hst de mi D cy _ _ o nn cn x hh hI.1 (nI 10) (nI 0) (nI 0) (10) (by decide) (0) (by decide) ) (vx_cwSW 5 hts gL_refused_L_call rfl rfl rfl (by decide +kernel) ⟨Nat.le_of_ble_eq_true rfl, Nat.le_of_ble_eq_true rfl⟩) (wPreS hX hN0 hD hS hA hK hP) rfl rfl hl.1 rfl (lv_room (Nat.le_of_ble_eq_true rfl)) dL_refused_38 ⟨Nat.le_of_ble_eq_true rfl, Nat.le_of_ble_eq_true rfl⟩) (fun r M' h => k_I h (fun r M' h => h.1.1) (fun z => by omega)) hD hA hS (fun H locs hP hS _ => ?_)
      refine lv_ldc (v := (zI (-2000000001))) hx hb hown (by rw [show (zI (-2000000001)) = (-2000000001 : Int32) by decide]; exact hts _ (List.mem_of_getElem? (i := 1) rfl)) dL_refused_41 ?_
      refine z_icmp_ne (u := (-2000000001)) (v := (-2000000001)) (tgt := 205) hx hb (zI_toInt (by omega) (by omega)) (zI_toInt (by omega) (by omega)) dL_refused_43 (by decide) (fun c_43 => ?_) (fun c_43 => ?_)
      · exfalso; omega
      · refine lv_aload_n hx hb dL_refused_46 rfl (lv_at hl 1 rfl) ?_
        refine lv_iconst (v := (nI 4)) hx hb dL_refused_47 (by decide) ?_
        refine lv_iconst (v := (zI (-1))) hx hb dL_refused_48 (by decide) ?_
        refine lv_iconst (v := (nI 5)) hx hb dL_refused_49 (by decide) ?_
        refine lv_iconst (v := (nI 0)) hx hb dL_refused_50 (by decide) ?_
        refine t_call (v := (zI (-2000000001))) (vx_runSX (As := [.ref o, .int (nI 4), .int (zI (-1)), .int (nI 5), .int (nI 0)]) (rest := []) ⟨hx, hb, hml, hown, hts⟩ (t_pupil l hst de mi D cy _ _ o nn cn x hh hI.1 (zI (-1)) (nI 5) (nI 0) (-1) (by decide) (5) (by decide) ) (vx_cwSW 5 hts gL_refused_L_call rfl rfl rfl (by decide +kernel) ⟨Nat.le_of_ble_eq_true rfl, Nat.le_of_ble_eq_true rfl⟩) (wPreS hX hN0 hD hS hA hK hP) rfl rfl hl.1 rfl (lv_room (Nat.le_of_ble_eq_true rfl)) dL_refused_51 ⟨Nat.le_of_ble_eq_true rfl, Nat.le_of_ble_eq_true rfl⟩) (fun r M' h => k_I h (fun r M' h => h.1.1) (fun z => by omega)) hD hA hS (fun H locs hP hS _ => ?_)
        refine lv_ldc (v := (zI (-2000000001))) hx hb hown (by rw [show (zI (-2000000001)) = (-2000000001 : Int32) by decide]; exact hts _ (List.mem_of_getElem? (i := 1) rfl)) dL_refused_54 ?_
        refine z_icmp_ne (u := (-2000000001)) (v := (-2000000001)) (tgt := 205) hx hb (zI_toInt (by omega) (by omega)) (zI_toInt (by omega) (by omega)) dL_refused_56 (by decide) (fun c_56 => ?_) (fun c_56 => ?_)
        · exfalso; omega
        · refine lv_aload_n hx hb dL_refused_59 rfl (lv_at hl 1 rfl) ?_
          refine lv_iconst (v := (nI 4)) hx hb dL_refused_60 (by decide) ?_
          refine lv_iconst (v := (nI 0)) hx hb dL_refused_61 (by decide) ?_
          refine lv_iconst (v := (nI 4)) hx hb dL_refused_62 (by decide) ?_
          refine lv_iconst (v := (nI 0)) hx hb dL_refused_63 (by decide) ?_
          refine t_call (v := (zI (-2000000002))) (vx_runSX (As := [.ref o, .int (nI 4), .int (nI 0), .int (nI 4), .int (nI 0)]) (rest := []) ⟨hx, hb, hml, hown, hts⟩ (t_pupil l hst de mi D cy _ _ o nn cn x hh hI.1 (nI 0) (nI 4) (nI 0) (0) (by decide) (4) (by decide) ) (vx_cwSW 5 hts gL_refused_L_call rfl rfl rfl (by decide +kernel) ⟨Nat.le_of_ble_eq_true rfl, Nat.le_of_ble_eq_true rfl⟩) (wPreS hX hN0 hD hS hA hK hP) rfl rfl hl.1 rfl (lv_room (Nat.le_of_ble_eq_true rfl)) dL_refused_64 ⟨Nat.le_of_ble_eq_true rfl, Nat.le_of_ble_eq_true rfl⟩) (fun r M' h => k_A h (fun r M' h => h.1.2.1) (by omega) (fun z => by omega)) hD hA hS (fun H locs hP hS _ => ?_)
          refine lv_ldc (v := (zI (-2000000002))) hx hb hown (by rw [show (zI (-2000000002)) = (-2000000002 : Int32) by decide]; exact hts _ (List.mem_of_getElem? (i := 2) rfl)) dL_refused_67 ?_
          refine z_icmp_ne (u := (-2000000002)) (v := (-2000000002)) (tgt := 205) hx hb (zI_toInt (by omega) (by omega)) (zI_toInt (by omega) (by omega)) dL_refused_69 (by decide) (fun c_69 => ?_) (fun c_69 => ?_)
          · exfalso; omega
          · refine lv_aload_n hx hb dL_refused_72 rfl (lv_at hl 1 rfl) ?_
            refine lv_iconst (v := (nI 5)) hx hb dL_refused_73 (by decide) ?_
            refine lv_iconst (v := (zI (-1))) hx hb dL_refused_74 (by decide) ?_
            refine lv_iconst (v := (nI 0)) hx hb dL_refused_75 (by decide) ?_
            refine lv_iconst (v := (nI 1)) hx hb dL_refused_76 (by decide) ?_
            refine t_call (v := (zI (-2000000001))) (vx_runSX (As := [.ref o, .int (nI 5), .int (zI (-1)), .int (nI 0), .int (nI 1)]) (rest := []) ⟨hx, hb, hml, hown, hts⟩ (t_print l hst de mi D cy _ _ o nn cn x hh hI.1 (zI (-1)) (nI 0) (nI 1) (-1) (by decide) (1) (by decide) ) (vx_cwSW 5 hts gL_refused_L_call rfl rfl rfl (by decide +kernel) ⟨Nat.le_of_ble_eq_true rfl, Nat.le_of_ble_eq_true rfl⟩) (wPreS hX hN0 hD hS hA hK hP) rfl rfl hl.1 rfl (lv_room (Nat.le_of_ble_eq_true rfl)) dL_refused_77 ⟨Nat.le_of_ble_eq_true rfl, Nat.le_of_ble_eq_true rfl⟩) (fun r M' h => k_I h (fun r M' h => h.1.1) (fun z => by omega)) hD hA hS (fun H locs hP hS _ => ?_)
            refine lv_ldc (v := (zI (-2000000001))) hx hb hown (by rw [show (zI (-2000000001)) = (-2000000001 : Int32) by decide]; exact hts _ (List.mem_of_getElem? (i := 1) rfl)) dL_refused_80 ?_
            refine z_icmp_ne (u := (-2000000001)) (v := (-2000000001)) (tgt := 205) hx hb (zI_toInt (by omega) (by omega)) (zI_toInt (by omega) (by omega)) dL_refused_82 (by decide) (fun c_82 => ?_) (fun c_82 => ?_)
            · exfalso; omega
            · refine lv_aload_n hx hb dL_refused_85 rfl (lv_at hl 1 rfl) ?_
              refine lv_iconst (v := (nI 5)) hx hb dL_refused_86 (by decide) ?_
              refine lv_iconst (v := (nI 0)) hx hb dL_refused_87 (by decide) ?_
              refine lv_iconst (v := (nI 0)) hx hb dL_refused_88 (by decide) ?_
              refine lv_iconst (v := (nI 0)) hx hb dL_refused_89 (by decide) ?_
              refine t_call (v := (zI (-2000000002))) (vx_runSX (As := [.ref o, .int (nI 5), .int (nI 0), .int (nI 0), .int (nI 0)]) (rest := []) ⟨hx, hb, hml, hown, hts⟩ (t_print l hst de mi D cy _ _ o nn cn x hh hI.1 (nI 0) (nI 0) (nI 0) (0) (by decide) (0) (by decide) ) (vx_cwSW 5 hts gL_refused_L_call rfl rfl rfl (by decide +kernel) ⟨Nat.le_of_ble_eq_true rfl, Nat.le_of_ble_eq_true rfl⟩) (wPreS hX hN0 hD hS hA hK hP) rfl rfl hl.1 rfl (lv_room (Nat.le_of_ble_eq_true rfl)) dL_refused_90 ⟨Nat.le_of_ble_eq_true rfl, Nat.le_of_ble_eq_true rfl⟩) (fun r M' h => k_A h (fun r M' h => h.1.2.1) (by omega) (fun z => by omega)) hD hA hS (fun H locs hP hS _ => ?_)
              refine lv_ldc (v := (zI (-2000000002))) hx hb hown (by rw [show (zI (-2000000002)) = (-2000000002 : Int32) by decide]; exact hts _ (List.mem_of_getElem? (i := 2) rfl)) dL_refused_93 ?_
              refine z_icmp_ne (u := (-2000000002)) (v := (-2000000002)) (tgt := 205) hx hb (zI_toInt (by omega) (by omega)) (zI_toInt (by omega) (by omega)) dL_refused_95 (by decide) (fun c_95 => ?_) (fun c_95 => ?_)
              · exfalso; omega
              · refine lv_aload_n hx hb dL_refused_98 rfl (lv_at hl 1 rfl) ?_
                refine lv_bipush (v := (nI 6)) hx hb dL_refused_99 (by decide) ?_
                refine lv_iconst (v := (nI 3)) hx hb dL_refused_101 (by decide) ?_
                refine lv_iconst (v := (nI 0)) hx hb dL_refused_102 (by decide) ?_
                refine lv_iconst (v := (nI 0)) hx hb dL_refused_103 (by decide) ?_
                refine t_call (v := (zI (-2000000001))) (vx_runSX (As := [.ref o, .int (nI 6), .int (nI 3), .int (nI 0), .int (nI 0)]) (rest := []) ⟨hx, hb, hml, hown, hts⟩ (t_sheets l hst de mi D cy _ _ o nn cn x hh hI.1 (nI 3) (nI 0) (nI 0) (3) (by decide) ) (vx_cwSW 5 hts gL_refused_L_call rfl rfl rfl (by decide +kernel) ⟨Nat.le_of_ble_eq_true rfl, Nat.le_of_ble_eq_true rfl⟩) (wPreS hX hN0 hD hS hA hK hP) rfl rfl hl.1 rfl (lv_room (Nat.le_of_ble_eq_true rfl)) dL_refused_104 ⟨Nat.le_of_ble_eq_true rfl, Nat.le_of_ble_eq_true rfl⟩) (fun r M' h => k_I h (fun r M' h => h.1.1) (fun z => by omega)) hD hA hS (fun H locs hP hS _ => ?_)
                refine lv_ldc (v := (zI (-2000000001))) hx hb hown (by rw [show (zI (-2000000001)) = (-2000000001 : Int32) by decide]; exact hts _ (List.mem_of_getElem? (i := 1) rfl)) dL_refused_107 ?_
                refine z_icmp_ne (u := (-2000000001)) (v := (-2000000001)) (tgt := 205) hx hb (zI_toInt (by omega) (by omega)) (zI_toInt (by omega) (by omega)) dL_refused_109 (by decide) (fun c_109 => ?_) (fun c_109 => ?_)
                · exfalso; omega
                · refine lv_aload_n hx hb dL_refused_112 rfl (lv_at hl 1 rfl) ?_
                  refine lv_bipush (v := (nI 7)) hx hb dL_refused_113 (by decide) ?_
                  refine lv_bipush (v := (nI 20)) hx hb dL_refused_115 (by decide) ?_
                  refine lv_iconst (v := (nI 0)) hx hb dL_refused_117 (by decide) ?_
                  refine lv_iconst (v := (nI 0)) hx hb dL_refused_118 (by decide) ?_
                  refine t_call (v := (zI (-2000000001))) (vx_runSX (As := [.ref o, .int (nI 7), .int (nI 20), .int (nI 0), .int (nI 0)]) (rest := []) ⟨hx, hb, hml, hown, hts⟩ (t_write l hst de mi D cy _ _ o nn cn x hh hI.1 (nI 20) (nI 0) (nI 0) (20) (by decide) (0) (by decide) (fun h9 => hI.hrk _ h9)) (vx_cwSW 5 hts gL_refused_L_call rfl rfl rfl (by decide +kernel) ⟨Nat.le_of_ble_eq_true rfl, Nat.le_of_ble_eq_true rfl⟩) (wPreS hX hN0 hD hS hA hK hP) rfl rfl hl.1 rfl (lv_room (Nat.le_of_ble_eq_true rfl)) dL_refused_119 ⟨Nat.le_of_ble_eq_true rfl, Nat.le_of_ble_eq_true rfl⟩) (fun r M' h => k_I h (fun r M' h => h.1.1) (fun z => by omega)) hD hA hS (fun H locs hP hS _ => ?_)
                  refine lv_ldc (v := (zI (-2000000001))) hx hb hown (by rw [show (zI (-2000000001)) = (-2000000001 : Int32) by decide]; exact hts _ (List.mem_of_getElem? (i := 1) rfl)) dL_refused_122 ?_
                  refine z_icmp_ne (u := (-2000000001)) (v := (-2000000001)) (tgt := 205) hx hb (zI_toInt (by omega) (by omega)) (zI_toInt (by omega) (by omega)) dL_refused_124 (by decide) (fun c_124 => ?_) (fun c_124 => ?_)
                  · exfalso; omega
                  · refine lv_aload_n hx hb dL_refused_127 rfl (lv_at hl 1 rfl) ?_
                    refine lv_bipush (v := (nI 7)) hx hb dL_refused_128 (by decide) ?_
                    refine lv_iconst (v := (nI 0)) hx hb dL_refused_130 (by decide) ?_
                    refine lv_bipush (v := (nI 10)) hx hb dL_refused_131 (by decide) ?_
                    refine lv_iconst (v := (nI 0)) hx hb dL_refused_133 (by decide) ?_
                    refine t_call (v := (zI (-2000000001))) (vx_runSX (As := [.ref o, .int (nI 7), .int (nI 0), .int (nI 10), .int (nI 0)]) (rest := []) ⟨hx, hb, hml, hown, hts⟩ (t_write l hst de mi D cy _ _ o nn cn x hh hI.1 (nI 0) (nI 10) (nI 0) (0) (by decide) (10) (by decide) (fun h9 => hI.hrk _ h9)) (vx_cwSW 5 hts gL_refused_L_call rfl rfl rfl (by decide +kernel) ⟨Nat.le_of_ble_eq_true rfl, Nat.le_of_ble_eq_true rfl⟩) (wPreS hX hN0 hD hS hA hK hP) rfl rfl hl.1 rfl (lv_room (Nat.le_of_ble_eq_true rfl)) dL_refused_134 ⟨Nat.le_of_ble_eq_true rfl, Nat.le_of_ble_eq_true rfl⟩) (fun r M' h => k_I h (fun r M' h => h.1.1) (fun z => by omega)) hD hA hS (fun H locs hP hS _ => ?_)
                    refine lv_ldc (v := (zI (-2000000001))) hx hb hown (by rw [show (zI (-2000000001)) = (-2000000001 : Int32) by decide]; exact hts _ (List.mem_of_getElem? (i := 1) rfl)) dL_refused_137 ?_
                    refine z_icmp_ne (u := (-2000000001)) (v := (-2000000001)) (tgt := 205) hx hb (zI_toInt (by omega) (by omega)) (zI_toInt (by omega) (by omega)) dL_refused_139 (by decide) (fun c_139 => ?_) (fun c_139 => ?_)
                    · exfalso; omega
                    · refine lv_aload_n hx hb dL_refused_142 rfl (lv_at hl 1 rfl) ?_
                      refine lv_bipush (v := (nI 8)) hx hb dL_refused_143 (by decide) ?_
                      refine lv_bipush (v := (nI 40)) hx hb dL_refused_145 (by decide) ?_
                      refine lv_iconst (v := (nI 0)) hx hb dL_refused_147 (by decide) ?_
                      refine lv_iconst (v := (nI 0)) hx hb dL_refused_148 (by decide) ?_
                      refine t_call (v := (zI (-2000000001))) (vx_runSX (As := [.ref o, .int (nI 8), .int (nI 40), .int (nI 0), .int (nI 0)]) (rest := []) ⟨hx, hb, hml, hown, hts⟩ (t_slips l hst de mi D cy _ _ o nn cn x hh hI.1 (nI 40) (nI 0) (nI 0) (40) (by decide) (0) (by decide) ) (vx_cwSW 5 hts gL_refused_L_call rfl rfl rfl (by decide +kernel) ⟨Nat.le_of_ble_eq_true rfl, Nat.le_of_ble_eq_true rfl⟩) (wPreS hX hN0 hD hS hA hK hP) rfl rfl hl.1 rfl (lv_room (Nat.le_of_ble_eq_true rfl)) dL_refused_149 ⟨Nat.le_of_ble_eq_true rfl, Nat.le_of_ble_eq_true rfl⟩) (fun r M' h => k_I h (fun r M' h => h.1.1) (fun z => by omega)) hD hA hS (fun H locs hP hS _ => ?_)
                      refine lv_ldc (v := (zI (-2000000001))) hx hb hown (by rw [show (zI (-2000000001)) = (-2000000001 : Int32) by decide]; exact hts _ (List.mem_of_getElem? (i := 1) rfl)) dL_refused_152 ?_
                      refine z_icmp_ne (u := (-2000000001)) (v := (-2000000001)) (tgt := 205) hx hb (zI_toInt (by omega) (by omega)) (zI_toInt (by omega) (by omega)) dL_refused_154 (by decide) (fun c_154 => ?_) (fun c_154 => ?_)
                      · exfalso; omega
                      · refine lv_aload_n hx hb dL_refused_157 rfl (lv_at hl 1 rfl) ?_
                        refine lv_bipush (v := (nI 9)) hx hb dL_refused_158 (by decide) ?_
                        refine lv_iconst (v := (zI (-1))) hx hb dL_refused_160 (by decide) ?_
                        refine lv_iconst (v := (nI 0)) hx hb dL_refused_161 (by decide) ?_
                        refine lv_iconst (v := (nI 0)) hx hb dL_refused_162 (by decide) ?_
                        refine t_call (v := (zI (-2000000001))) (vx_runSX (As := [.ref o, .int (nI 9), .int (zI (-1)), .int (nI 0), .int (nI 0)]) (rest := []) ⟨hx, hb, hml, hown, hts⟩ (t_orderAnew l hst de mi D cy _ _ o nn cn x hh hI.1 (zI (-1)) (nI 0) (nI 0) (-1) (by decide) ) (vx_cwSW 5 hts gL_refused_L_call rfl rfl rfl (by decide +kernel) ⟨Nat.le_of_ble_eq_true rfl, Nat.le_of_ble_eq_true rfl⟩) (wPreS hX hN0 hD hS hA hK hP) rfl rfl hl.1 rfl (lv_room (Nat.le_of_ble_eq_true rfl)) dL_refused_163 ⟨Nat.le_of_ble_eq_true rfl, Nat.le_of_ble_eq_true rfl⟩) (fun r M' h => k_I h (fun r M' h => h.1.1) (fun z => by omega)) hD hA hS (fun H locs hP hS _ => ?_)
                        refine lv_ldc (v := (zI (-2000000001))) hx hb hown (by rw [show (zI (-2000000001)) = (-2000000001 : Int32) by decide]; exact hts _ (List.mem_of_getElem? (i := 1) rfl)) dL_refused_166 ?_
                        refine z_icmp_ne (u := (-2000000001)) (v := (-2000000001)) (tgt := 205) hx hb (zI_toInt (by omega) (by omega)) (zI_toInt (by omega) (by omega)) dL_refused_168 (by decide) (fun c_168 => ?_) (fun c_168 => ?_)
                        · exfalso; omega
                        · refine lv_aload_n hx hb dL_refused_171 rfl (lv_at hl 1 rfl) ?_
                          refine lv_bipush (v := (nI 10)) hx hb dL_refused_172 (by decide) ?_
                          refine lv_bipush (v := (nI 6)) hx hb dL_refused_174 (by decide) ?_
                          refine lv_iconst (v := (nI 0)) hx hb dL_refused_176 (by decide) ?_
                          refine lv_iconst (v := (nI 0)) hx hb dL_refused_177 (by decide) ?_
                          refine t_call (v := (zI (-2000000001))) (vx_runSX (As := [.ref o, .int (nI 10), .int (nI 6), .int (nI 0), .int (nI 0)]) (rest := []) ⟨hx, hb, hml, hown, hts⟩ (t_mark l hst de mi D cy _ _ o nn cn x hh hI.1 (nI 6) (nI 0) (nI 0) (6) (by decide) (0) (by decide) (0) (by decide) hI.h3m) (vx_cwSW 5 hts gL_refused_L_call rfl rfl rfl (by decide +kernel) ⟨Nat.le_of_ble_eq_true rfl, Nat.le_of_ble_eq_true rfl⟩) (wPreS hX hN0 hD hS hA hK hP) rfl rfl hl.1 rfl (lv_room (Nat.le_of_ble_eq_true rfl)) dL_refused_178 ⟨Nat.le_of_ble_eq_true rfl, Nat.le_of_ble_eq_true rfl⟩) (fun r M' h => k_I h (fun r M' h => h.1.1) (fun z => by omega)) hD hA hS (fun H locs hP hS _ => ?_)
                          refine lv_ldc (v := (zI (-2000000001))) hx hb hown (by rw [show (zI (-2000000001)) = (-2000000001 : Int32) by decide]; exact hts _ (List.mem_of_getElem? (i := 1) rfl)) dL_refused_181 ?_
                          refine z_icmp_ne (u := (-2000000001)) (v := (-2000000001)) (tgt := 205) hx hb (zI_toInt (by omega) (by omega)) (zI_toInt (by omega) (by omega)) dL_refused_183 (by decide) (fun c_183 => ?_) (fun c_183 => ?_)
                          · exfalso; omega
                          · refine lv_aload_n hx hb dL_refused_186 rfl (lv_at hl 1 rfl) ?_
                            refine lv_bipush (v := (nI 10)) hx hb dL_refused_187 (by decide) ?_
                            refine lv_iconst (v := (nI 0)) hx hb dL_refused_189 (by decide) ?_
                            refine lv_bipush (v := (nI 40)) hx hb dL_refused_190 (by decide) ?_
                            refine lv_iconst (v := (nI 0)) hx hb dL_refused_192 (by decide) ?_
                            refine t_call (v := (zI (-2000000001))) (vx_runSX (As := [.ref o, .int (nI 10), .int (nI 0), .int (nI 40), .int (nI 0)]) (rest := []) ⟨hx, hb, hml, hown, hts⟩ (t_mark l hst de mi D cy _ _ o nn cn x hh hI.1 (nI 0) (nI 40) (nI 0) (0) (by decide) (40) (by decide) (0) (by decide) hI.h3m) (vx_cwSW 5 hts gL_refused_L_call rfl rfl rfl (by decide +kernel) ⟨Nat.le_of_ble_eq_true rfl, Nat.le_of_ble_eq_true rfl⟩) (wPreS hX hN0 hD hS hA hK hP) rfl rfl hl.1 rfl (lv_room (Nat.le_of_ble_eq_true rfl)) dL_refused_193 ⟨Nat.le_of_ble_eq_true rfl, Nat.le_of_ble_eq_true rfl⟩) (fun r M' h => k_I h (fun r M' h => h.1.1) (fun z => by omega)) hD hA hS (fun H locs hP hS _ => ?_)
                            refine lv_ldc (v := (zI (-2000000001))) hx hb hown (by rw [show (zI (-2000000001)) = (-2000000001 : Int32) by decide]; exact hts _ (List.mem_of_getElem? (i := 1) rfl)) dL_refused_196 ?_
                            refine z_icmp_ne (u := (-2000000001)) (v := (-2000000001)) (tgt := 205) hx hb (zI_toInt (by omega) (by omega)) (zI_toInt (by omega) (by omega)) dL_refused_198 (by decide) (fun c_198 => ?_) (fun c_198 => ?_)
                            · exfalso; omega
                            · refine lv_iconst (v := (nI 1)) hx hb dL_refused_201 (by decide) ?_
                              refine lv_goto (tgt := 206) hx hb dL_refused_202 (by decide) ?_
                              refine lv_istore (lv' := [(4, .int (nI 1)), (2, .long (alV cn x)), (0, .ref o), (1, .ref d)]) hx hb dL_refused_206 hl (by decide) rfl (fun ls hl => ?_)
                              refine lv_iload hx hb dL_refused_208 (lv_at hl 0 rfl) ?_
                              refine k_if_eq_1 (tgt := 358) hx hb dL_refused_210 (by decide) ?_
                              refine lv_aload_n hx hb dL_refused_213 rfl (lv_at hl 2 rfl) ?_
                              refine lv_bipush (v := (nI 11)) hx hb dL_refused_214 (by decide) ?_
                              refine lv_bipush (v := (nI 40)) hx hb dL_refused_216 (by decide) ?_
                              refine lv_iconst (v := (nI 0)) hx hb dL_refused_218 (by decide) ?_
                              refine lv_iconst (v := (nI 0)) hx hb dL_refused_219 (by decide) ?_
                              refine t_call (v := (zI (-2000000001))) (vx_runSX (As := [.ref o, .int (nI 11), .int (nI 40), .int (nI 0), .int (nI 0)]) (rest := []) ⟨hx, hb, hml, hown, hts⟩ (t_grade l hst de mi D cy _ _ o nn cn x hh hI.1 (nI 40) (nI 0) (nI 0) (40) (by decide) ) (vx_cwSW 5 hts gL_refused_L_call rfl rfl rfl (by decide +kernel) ⟨Nat.le_of_ble_eq_true rfl, Nat.le_of_ble_eq_true rfl⟩) (wPreS hX hN0 hD hS hA hK hP) rfl rfl hl.1 rfl (lv_room (Nat.le_of_ble_eq_true rfl)) dL_refused_220 ⟨Nat.le_of_ble_eq_true rfl, Nat.le_of_ble_eq_true rfl⟩) (fun r M' h => k_I h (fun r M' h => h.1.1) (fun z => by omega)) hD hA hS (fun H locs hP hS _ => ?_)
                              refine lv_ldc (v := (zI (-2000000001))) hx hb hown (by rw [show (zI (-2000000001)) = (-2000000001 : Int32) by decide]; exact hts _ (List.mem_of_getElem? (i := 1) rfl)) dL_refused_223 ?_
                              refine z_icmp_ne (u := (-2000000001)) (v := (-2000000001)) (tgt := 358) hx hb (zI_toInt (by omega) (by omega)) (zI_toInt (by omega) (by omega)) dL_refused_225 (by decide) (fun c_225 => ?_) (fun c_225 => ?_)
                              · exfalso; omega
                              · refine lv_aload_n hx hb dL_refused_228 rfl (lv_at hl 2 rfl) ?_
                                refine lv_bipush (v := (nI 12)) hx hb dL_refused_229 (by decide) ?_
                                refine lv_iconst (v := (zI (-1))) hx hb dL_refused_231 (by decide) ?_
                                refine lv_iconst (v := (nI 0)) hx hb dL_refused_232 (by decide) ?_
                                refine lv_iconst (v := (nI 0)) hx hb dL_refused_233 (by decide) ?_
                                refine t_call (v := (zI (-2000000001))) (vx_runSX (As := [.ref o, .int (nI 12), .int (zI (-1)), .int (nI 0), .int (nI 0)]) (rest := []) ⟨hx, hb, hml, hown, hts⟩ (t_lacks l hst de mi D cy _ _ o nn cn x hh hI.1 (zI (-1)) (nI 0) (nI 0) (-1) (by decide) ) (vx_cwSW 5 hts gL_refused_L_call rfl rfl rfl (by decide +kernel) ⟨Nat.le_of_ble_eq_true rfl, Nat.le_of_ble_eq_true rfl⟩) (wPreS hX hN0 hD hS hA hK hP) rfl rfl hl.1 rfl (lv_room (Nat.le_of_ble_eq_true rfl)) dL_refused_234 ⟨Nat.le_of_ble_eq_true rfl, Nat.le_of_ble_eq_true rfl⟩) (fun r M' h => k_I h (fun r M' h => h.1.1) (fun z => by omega)) hD hA hS (fun H locs hP hS _ => ?_)
                                refine lv_ldc (v := (zI (-2000000001))) hx hb hown (by rw [show (zI (-2000000001)) = (-2000000001 : Int32) by decide]; exact hts _ (List.mem_of_getElem? (i := 1) rfl)) dL_refused_237 ?_
                                refine z_icmp_ne (u := (-2000000001)) (v := (-2000000001)) (tgt := 358) hx hb (zI_toInt (by omega) (by omega)) (zI_toInt (by omega) (by omega)) dL_refused_239 (by decide) (fun c_239 => ?_) (fun c_239 => ?_)
                                · exfalso; omega
                                · refine lv_aload_n hx hb dL_refused_242 rfl (lv_at hl 2 rfl) ?_
                                  refine lv_bipush (v := (nI 13)) hx hb dL_refused_243 (by decide) ?_
                                  refine lv_iconst (v := (zI (-1))) hx hb dL_refused_245 (by decide) ?_
                                  refine lv_iconst (v := (nI 0)) hx hb dL_refused_246 (by decide) ?_
                                  refine lv_iconst (v := (nI 0)) hx hb dL_refused_247 (by decide) ?_
                                  refine t_call (v := (zI (-2000000001))) (vx_runSX (As := [.ref o, .int (nI 13), .int (zI (-1)), .int (nI 0), .int (nI 0)]) (rest := []) ⟨hx, hb, hml, hown, hts⟩ (t_takeOut l hst de mi D cy _ _ o nn cn x hh hI.1 (zI (-1)) (nI 0) (nI 0) (-1) (by decide) ) (vx_cwSW 5 hts gL_refused_L_call rfl rfl rfl (by decide +kernel) ⟨Nat.le_of_ble_eq_true rfl, Nat.le_of_ble_eq_true rfl⟩) (wPreS hX hN0 hD hS hA hK hP) rfl rfl hl.1 rfl (lv_room (Nat.le_of_ble_eq_true rfl)) dL_refused_248 ⟨Nat.le_of_ble_eq_true rfl, Nat.le_of_ble_eq_true rfl⟩) (fun r M' h => k_I h (fun r M' h => h.1.1) (fun z => by omega)) hD hA hS (fun H locs hP hS _ => ?_)
                                  refine lv_ldc (v := (zI (-2000000001))) hx hb hown (by rw [show (zI (-2000000001)) = (-2000000001 : Int32) by decide]; exact hts _ (List.mem_of_getElem? (i := 1) rfl)) dL_refused_251 ?_
                                  refine z_icmp_ne (u := (-2000000001)) (v := (-2000000001)) (tgt := 358) hx hb (zI_toInt (by omega) (by omega)) (zI_toInt (by omega) (by omega)) dL_refused_253 (by decide) (fun c_253 => ?_) (fun c_253 => ?_)
                                  · exfalso; omega
                                  · refine lv_aload_n hx hb dL_refused_256 rfl (lv_at hl 2 rfl) ?_
                                    refine lv_bipush (v := (nI 14)) hx hb dL_refused_257 (by decide) ?_
                                    refine lv_bipush (v := (nI 40)) hx hb dL_refused_259 (by decide) ?_
                                    refine lv_iconst (v := (nI 0)) hx hb dL_refused_261 (by decide) ?_
                                    refine lv_iconst (v := (nI 0)) hx hb dL_refused_262 (by decide) ?_
                                    refine t_call (v := (zI (-2000000001))) (vx_runSX (As := [.ref o, .int (nI 14), .int (nI 40), .int (nI 0), .int (nI 0)]) (rest := []) ⟨hx, hb, hml, hown, hts⟩ (t_show l hst de mi D cy _ _ o nn cn x hh hI.1 (nI 40) (nI 0) (nI 0) (40) (by decide) ) (vx_cwSW 5 hts gL_refused_L_call rfl rfl rfl (by decide +kernel) ⟨Nat.le_of_ble_eq_true rfl, Nat.le_of_ble_eq_true rfl⟩) (wPreS hX hN0 hD hS hA hK hP) rfl rfl hl.1 rfl (lv_room (Nat.le_of_ble_eq_true rfl)) dL_refused_263 ⟨Nat.le_of_ble_eq_true rfl, Nat.le_of_ble_eq_true rfl⟩) (fun r M' h => k_I h (fun r M' h => h.1.1) (fun z => by omega)) hD hA hS (fun H locs hP hS _ => ?_)
                                    refine lv_ldc (v := (zI (-2000000001))) hx hb hown (by rw [show (zI (-2000000001)) = (-2000000001 : Int32) by decide]; exact hts _ (List.mem_of_getElem? (i := 1) rfl)) dL_refused_266 ?_
                                    refine z_icmp_ne (u := (-2000000001)) (v := (-2000000001)) (tgt := 358) hx hb (zI_toInt (by omega) (by omega)) (zI_toInt (by omega) (by omega)) dL_refused_268 (by decide) (fun c_268 => ?_) (fun c_268 => ?_)
                                    · exfalso; omega
                                    · refine lv_aload_n hx hb dL_refused_271 rfl (lv_at hl 2 rfl) ?_
                                      refine lv_bipush (v := (nI 15)) hx hb dL_refused_272 (by decide) ?_
                                      refine lv_iconst (v := (zI (-1))) hx hb dL_refused_274 (by decide) ?_
                                      refine lv_iconst (v := (nI 0)) hx hb dL_refused_275 (by decide) ?_
                                      refine lv_iconst (v := (nI 0)) hx hb dL_refused_276 (by decide) ?_
                                      refine t_call (v := (zI (-2000000001))) (vx_runSX (As := [.ref o, .int (nI 15), .int (zI (-1)), .int (nI 0), .int (nI 0)]) (rest := []) ⟨hx, hb, hml, hown, hts⟩ (t_vote l hst de mi D cy _ _ o nn cn x hh hI.1 (zI (-1)) (nI 0) (nI 0) (-1) (by decide) (0) (by decide) (0) (by decide) ) (vx_cwSW 5 hts gL_refused_L_call rfl rfl rfl (by decide +kernel) ⟨Nat.le_of_ble_eq_true rfl, Nat.le_of_ble_eq_true rfl⟩) (wPreS hX hN0 hD hS hA hK hP) rfl rfl hl.1 rfl (lv_room (Nat.le_of_ble_eq_true rfl)) dL_refused_277 ⟨Nat.le_of_ble_eq_true rfl, Nat.le_of_ble_eq_true rfl⟩) (fun r M' h => k_I h (fun r M' h => h.1.1) (fun z => by omega)) hD hA hS (fun H locs hP hS _ => ?_)
                                      refine lv_ldc (v := (zI (-2000000001))) hx hb hown (by rw [show (zI (-2000000001)) = (-2000000001 : Int32) by decide]; exact hts _ (List.mem_of_getElem? (i := 1) rfl)) dL_refused_280 ?_
                                      refine z_icmp_ne (u := (-2000000001)) (v := (-2000000001)) (tgt := 358) hx hb (zI_toInt (by omega) (by omega)) (zI_toInt (by omega) (by omega)) dL_refused_282 (by decide) (fun c_282 => ?_) (fun c_282 => ?_)
                                      · exfalso; omega
                                      · refine lv_aload_n hx hb dL_refused_285 rfl (lv_at hl 2 rfl) ?_
                                        refine lv_bipush (v := (nI 15)) hx hb dL_refused_286 (by decide) ?_
                                        refine lv_iconst (v := (nI 0)) hx hb dL_refused_288 (by decide) ?_
                                        refine lv_bipush (v := (nI 40)) hx hb dL_refused_289 (by decide) ?_
                                        refine lv_iconst (v := (nI 0)) hx hb dL_refused_291 (by decide) ?_
                                        refine t_call (v := (zI (-2000000001))) (vx_runSX (As := [.ref o, .int (nI 15), .int (nI 0), .int (nI 40), .int (nI 0)]) (rest := []) ⟨hx, hb, hml, hown, hts⟩ (t_vote l hst de mi D cy _ _ o nn cn x hh hI.1 (nI 0) (nI 40) (nI 0) (0) (by decide) (40) (by decide) (0) (by decide) ) (vx_cwSW 5 hts gL_refused_L_call rfl rfl rfl (by decide +kernel) ⟨Nat.le_of_ble_eq_true rfl, Nat.le_of_ble_eq_true rfl⟩) (wPreS hX hN0 hD hS hA hK hP) rfl rfl hl.1 rfl (lv_room (Nat.le_of_ble_eq_true rfl)) dL_refused_292 ⟨Nat.le_of_ble_eq_true rfl, Nat.le_of_ble_eq_true rfl⟩) (fun r M' h => k_I h (fun r M' h => h.1.1) (fun z => by omega)) hD hA hS (fun H locs hP hS _ => ?_)
                                        refine lv_ldc (v := (zI (-2000000001))) hx hb hown (by rw [show (zI (-2000000001)) = (-2000000001 : Int32) by decide]; exact hts _ (List.mem_of_getElem? (i := 1) rfl)) dL_refused_295 ?_
                                        refine z_icmp_ne (u := (-2000000001)) (v := (-2000000001)) (tgt := 358) hx hb (zI_toInt (by omega) (by omega)) (zI_toInt (by omega) (by omega)) dL_refused_297 (by decide) (fun c_297 => ?_) (fun c_297 => ?_)
                                        · exfalso; omega
                                        · refine lv_aload_n hx hb dL_refused_300 rfl (lv_at hl 2 rfl) ?_
                                          refine lv_bipush (v := (nI 16)) hx hb dL_refused_301 (by decide) ?_
                                          refine lv_bipush (v := (nI 40)) hx hb dL_refused_303 (by decide) ?_
                                          refine lv_iconst (v := (nI 0)) hx hb dL_refused_305 (by decide) ?_
                                          refine lv_iconst (v := (nI 0)) hx hb dL_refused_306 (by decide) ?_
                                          refine t_call (v := (zI (-2000000001))) (vx_runSX (As := [.ref o, .int (nI 16), .int (nI 40), .int (nI 0), .int (nI 0)]) (rest := []) ⟨hx, hb, hml, hown, hts⟩ (t_worth l hst de mi D cy _ _ o nn cn x hh hI.1 (nI 40) (nI 0) (nI 0) (40) (by decide) ) (vx_cwSW 5 hts gL_refused_L_call rfl rfl rfl (by decide +kernel) ⟨Nat.le_of_ble_eq_true rfl, Nat.le_of_ble_eq_true rfl⟩) (wPreS hX hN0 hD hS hA hK hP) rfl rfl hl.1 rfl (lv_room (Nat.le_of_ble_eq_true rfl)) dL_refused_307 ⟨Nat.le_of_ble_eq_true rfl, Nat.le_of_ble_eq_true rfl⟩) (fun r M' h => k_I h (fun r M' h => h.1.1) (fun z => by omega)) hD hA hS (fun H locs hP hS _ => ?_)
                                          refine lv_ldc (v := (zI (-2000000001))) hx hb hown (by rw [show (zI (-2000000001)) = (-2000000001 : Int32) by decide]; exact hts _ (List.mem_of_getElem? (i := 1) rfl)) dL_refused_310 ?_
                                          refine z_icmp_ne (u := (-2000000001)) (v := (-2000000001)) (tgt := 358) hx hb (zI_toInt (by omega) (by omega)) (zI_toInt (by omega) (by omega)) dL_refused_312 (by decide) (fun c_312 => ?_) (fun c_312 => ?_)
                                          · exfalso; omega
                                          · refine lv_aload_n hx hb dL_refused_315 rfl (lv_at hl 2 rfl) ?_
                                            refine lv_bipush (v := (nI 17)) hx hb dL_refused_316 (by decide) ?_
                                            refine lv_bipush (v := (nI 40)) hx hb dL_refused_318 (by decide) ?_
                                            refine lv_iconst (v := (nI 0)) hx hb dL_refused_320 (by decide) ?_
                                            refine lv_iconst (v := (nI 0)) hx hb dL_refused_321 (by decide) ?_
                                            refine t_call (v := (zI (-2000000001))) (vx_runSX (As := [.ref o, .int (nI 17), .int (nI 40), .int (nI 0), .int (nI 0)]) (rest := []) ⟨hx, hb, hml, hown, hts⟩ (t_place l hst de mi D cy _ _ o nn cn x hh hI.1 (nI 40) (nI 0) (nI 0) (40) (by decide) ) (vx_cwSW 5 hts gL_refused_L_call rfl rfl rfl (by decide +kernel) ⟨Nat.le_of_ble_eq_true rfl, Nat.le_of_ble_eq_true rfl⟩) (wPreS hX hN0 hD hS hA hK hP) rfl rfl hl.1 rfl (lv_room (Nat.le_of_ble_eq_true rfl)) dL_refused_322 ⟨Nat.le_of_ble_eq_true rfl, Nat.le_of_ble_eq_true rfl⟩) (fun r M' h => k_I h (fun r M' h => h.1.1) (fun z => by omega)) hD hA hS (fun H locs hP hS _ => ?_)
                                            refine lv_ldc (v := (zI (-2000000001))) hx hb hown (by rw [show (zI (-2000000001)) = (-2000000001 : Int32) by decide]; exact hts _ (List.mem_of_getElem? (i := 1) rfl)) dL_refused_325 ?_
                                            refine z_icmp_ne (u := (-2000000001)) (v := (-2000000001)) (tgt := 358) hx hb (zI_toInt (by omega) (by omega)) (zI_toInt (by omega) (by omega)) dL_refused_327 (by decide) (fun c_327 => ?_) (fun c_327 => ?_)
                                            · exfalso; omega
                                            · refine lv_aload_n hx hb dL_refused_330 rfl (lv_at hl 2 rfl) ?_
                                              refine lv_bipush (v := (nI 18)) hx hb dL_refused_331 (by decide) ?_
                                              refine lv_iconst (v := (nI 0)) hx hb dL_refused_333 (by decide) ?_
                                              refine lv_iconst (v := (nI 0)) hx hb dL_refused_334 (by decide) ?_
                                              refine lv_iconst (v := (nI 0)) hx hb dL_refused_335 (by decide) ?_
                                              refine t_call (v := (zI (-2000000001))) (vx_runSX (As := [.ref o, .int (nI 18), .int (nI 0), .int (nI 0), .int (nI 0)]) (rest := []) ⟨hx, hb, hml, hown, hts⟩ (t_at l hst de mi D cy _ _ o nn cn x hh hI.1 (nI 0) (nI 0) (nI 0) (0) (by decide) ) (vx_cwSW 5 hts gL_refused_L_call rfl rfl rfl (by decide +kernel) ⟨Nat.le_of_ble_eq_true rfl, Nat.le_of_ble_eq_true rfl⟩) (wPreS hX hN0 hD hS hA hK hP) rfl rfl hl.1 rfl (lv_room (Nat.le_of_ble_eq_true rfl)) dL_refused_336 ⟨Nat.le_of_ble_eq_true rfl, Nat.le_of_ble_eq_true rfl⟩) (fun r M' h => k_I h (fun r M' h => h.1.1) (fun z => by omega)) hD hA hS (fun H locs hP hS _ => ?_)
                                              refine lv_ldc (v := (zI (-2000000001))) hx hb hown (by rw [show (zI (-2000000001)) = (-2000000001 : Int32) by decide]; exact hts _ (List.mem_of_getElem? (i := 1) rfl)) dL_refused_339 ?_
                                              refine z_icmp_ne (u := (-2000000001)) (v := (-2000000001)) (tgt := 358) hx hb (zI_toInt (by omega) (by omega)) (zI_toInt (by omega) (by omega)) dL_refused_341 (by decide) (fun c_341 => ?_) (fun c_341 => ?_)
                                              · exfalso; omega
                                              · refine lv_aload_n hx hb dL_refused_344 rfl (lv_at hl 2 rfl) ?_
                                                refine lv_aload_n hx hb dL_refused_345 rfl (lv_at hl 3 rfl) ?_
                                                refine l_call (v := alV cn x) (va_runS (As := [.ref o, .ref d]) (rest := []) ⟨hx, hb, hml, hown, hts⟩ (c_L_all l hst de mi D cy _ _ o d nn cn x g hh hd hI hg) (va_cwS 2 hts gL_refused_L_all rfl rfl rfl (by decide +kernel) ⟨Nat.le_of_ble_eq_true rfl, Nat.le_of_ble_eq_true rfl⟩) (wPreS hX hN0 hD hS hA hK hP) rfl rfl hl.1 rfl (lv_room (Nat.le_of_ble_eq_true rfl)) dL_refused_346 ⟨Nat.le_of_ble_eq_true rfl, Nat.le_of_ble_eq_true rfl⟩) hD hA hS (fun H locs hP hS => ?_)
                                                refine lv_lload_n hx hb dL_refused_349 rfl (lv_at hl 1 rfl) ?_
                                                refine W.lcmp hx hb dL_refused_350 ?_
                                                refine n_name (lg_self _) ?_
                                                refine k_if_ne_0 (tgt := 358) hx hb dL_refused_351 (by decide) ?_
                                                refine lv_iconst (v := (nI 1)) hx hb dL_refused_354 (by decide) ?_
                                                refine lv_goto (tgt := 359) hx hb dL_refused_355 (by decide) ?_
                                                exact kE _ _ H locs _ ls hP hS dL_refused_359 (Nat.le_of_ble_eq_true rfl) (Nat.le_of_ble_eq_true rfl)
end LRE
set_option maxRecDepth 100000 in
set_option maxHeartbeats 4000000 in
theorem c_L_refused (l : Launch) (hst : l.stackTraces = false) (de mi : Nat) (D : va_G) (cy : Nat → ClassId) (M : mM) (sz o d nn : Nat) (cn : Nat → Nat) (x : Nat → Nat → Nat) (g : Nat → Nat) (hh : hall cy de M o cn x) (hd : M d = some (eI cy 64 g)) (hI : CI nn cn x) (hg : g 0 = cn 1 ∧ g 2 = cn 3) : lMi l yL_refused wsL_refused ({ frames := 11, cells := 3400, slots := 22000, locals := 290 } : Room) de mi D cy M sz [.ref o, .ref d] (fun r M' => r = nI 1 ∧ M' = M) 3400 22000 := by
  refine lM.of (cc := cL_refused) (maxL := 5) (ret := some .boolean) (by decide) rfl (Nat.le_of_ble_eq_true rfl) ?_
  intro p e s m args below meth c ls hsz hx hb hr hts hown hlocks hml hP hD hS hA hK hX hN hl
  have hl : lv_has ls 5 [(0, .ref o), (1, .ref d)] := hl
  have C0 : LC p l s m args c cL_refused 5 wsL_refused (mA M sz) D cy de mi := ⟨hx, hb, hml, hown, hts, hA, hK, hX, hN, hst⟩
  exact w_refused C0 hD hh hd hI hg (fun k n H locs pc ls h1 h2 h3 h4 h5 => e_wz hx hb hr hlocks (by decide) h1 hD h2 ⟨rfl, rfl⟩ h3 h4 h5) hP hS hl
