set_option maxRecDepth 100000 in
set_option maxHeartbeats 4000000 in
/-- letter -/
theorem c_X6_letter (l : Launch) (D : va_G) (cy : Nat → ClassId) (M : mM) (sz : Nat) (h : Nat) (ad : Nat → Nat) (t : Nat) (i : Nat → Nat) (f : Nat → Nat → Nat) (nc : Nat)  (hW : MW cy M h ad t i f) (hI : MI nc i f)  : mWi l yX6_letter wsX6_letter ({ frames := 1, cells := 0, slots := 0, locals := 22 } : Room) D cy M sz [.ref h] (mPost cy h ad (oLetter  i f)) 0 0 := by
  refine mW.of (cc := cX6_letter) (maxL := 4) (ret := (some .int)) (by decide) rfl (Nat.le_of_ble_eq_true rfl) ?_
  intro p e s m args below meth c ls hsz hx hb hr hts hown hlocks hml hname hP hD hS hA hK hl
  have hl : lv_has ls 4 [(0, .ref h)] := hl
  have hown : s.vm.findClass RX6 = some m.cls := hown
  have hwX6 : ∀ w ∈ wsX60, w.before args s = true := fun w h => hts w (List.mem_cons_of_mem _ (List.mem_append_right _ (h)))
  obtain ⟨hn, hi1, hi2, hi5, hi10, -⟩ := id hI
  have KJ27 : ∀ (Mq : mM) (H : Heap) (locs : List Loc), pm D Mq H → mD (mA M sz) Mq → va_S (mA M sz) s.heap H locs → (MW cy Mq h ad t i f) → ∀ (ls : Array Slot), lv_has ls 4 [(0, .ref h)] → W p l e ({ frames := 1, cells := 0, slots := 0, locals := 22 } : Room) s m args below meth c H locs 0 0 (MQ below (va_Qi (mPost cy h ad (oLetter  i f)) (mB D M sz) (mA M sz)) args s 0 0 (mA M sz)) (F0 m 27 ls [.int (nI (b2 (decide (1 ≤ i 1 ∧ i 1 ≤ 6 ∧ i 2 < 10))))]) := by
    intro   Mq H locs hP hD hS hW ls hl
    refine lv_istore_n (lv' := [(1, .int (nI (b2 (decide (1 ≤ i 1 ∧ i 1 ≤ 6 ∧ i 2 < 10))))), (0, .ref h)]) hx hb dX6_letter_27 rfl hl (by decide) rfl (fun ls hl => ?_)
    refine lv_iconst (v := (nI 0)) hx hb dX6_letter_28 (by decide) ?_
    refine lv_istore_n (lv' := [(2, .int (nI 0)), (1, .int (nI (b2 (decide (1 ≤ i 1 ∧ i 1 ≤ 6 ∧ i 2 < 10))))), (0, .ref h)]) hx hb dX6_letter_29 rfl hl (by decide) rfl (fun ls hl => ?_)
    have K30 : ∀ (n : Nat) (k1 : Nat), 9 - k1 < n → (k1 ≤ i 1) → ∀ (Mq : mM) (H : Heap) (locs : List Loc), pm D Mq H → mD (mA M sz) Mq → va_S (mA M sz) s.heap H locs → (MW cy Mq h ad t i f) → ∀ (ls : Array Slot), lv_has ls 4 [(0, .ref h), (1, .int (nI (b2 (mayA f (decide (1 ≤ i 1 ∧ i 1 ≤ 6 ∧ i 2 < 10)) k1)))), (2, .int (nI k1))] → W p l e ({ frames := 1, cells := 0, slots := 0, locals := 22 } : Room) s m args below meth c H locs 0 0 (MQ below (va_Qi (mPost cy h ad (oLetter  i f)) (mB D M sz) (mA M sz)) args s 0 0 (mA M sz)) (F0 m 30 ls []) := by
      intro n
      induction n with
      | zero => intro k1 hn; exact absurd hn (by omega)
      | succ n ih30 =>
        intro k1 hn30 i30_0 Mq H locs hP hD hS hW ls hl
        refine lv_iload_n hx hb dX6_letter_30 rfl (lv_at hl 2 rfl) ?_
        refine lv_aload_n hx hb dX6_letter_31 rfl (lv_at hl 0 rfl) ?_
        refine m_get (T := TX6) (N := 24) (ci := 7) (fs := (moF ad t i)) hx hb hwX6 hown hK hP hW.1 rfl 1 (by decide) (hts _ (List.mem_of_getElem? (i := 1) rfl)) (v := .int (nI (i 1))) rfl dX6_letter_32 ?_
        refine z_icmp_ge (u := ((k1 : Nat) : Int)) (v := ((i 1 : Nat) : Int)) (tgt := 85) hx hb (nI_toInt (by omega)) (nI_toInt (by omega)) dX6_letter_35 (by decide) (fun c_35 => ?_) (fun c_35 => ?_)
        · refine lv_aload_n hx hb dX6_letter_85 rfl (lv_at hl 0 rfl) ?_
          refine lv_iload_n hx hb dX6_letter_86 rfl (lv_at hl 1 rfl) ?_
          refine m_calli (va_runV (C := RX6) (As := [.int (nI (b2 (mayA f (decide (1 ≤ i 1 ∧ i 1 ≤ 6 ∧ i 2 < 10)) k1)))]) (rest := []) ⟨hx, hb, hml, hown, hts⟩ (c_X6_asks l D cy _ _ h ad t i f nc (mayA f (decide (1 ≤ i 1 ∧ i 1 ≤ 6 ∧ i 2 < 10)) k1) hW hI) (cwV 1 hts gX6_letter_X6_asks rfl rfl rfl (by decide +kernel) ⟨Nat.le_of_ble_eq_true rfl, Nat.le_of_ble_eq_true rfl⟩) (mPreWV hK hP hW.1 (ci := 7) rfl) rfl rfl hl.1 rfl (lv_room (Nat.le_of_ble_eq_true rfl)) dX6_letter_87 ⟨Nat.le_of_ble_eq_true rfl, Nat.le_of_ble_eq_true rfl⟩) hD hA hS (fun r9 Mn H locs hq9 hP hD hS hz9 hd9 hk9 => ?_)
          obtain ⟨hr9, hW⟩ := hq9
          have hr9 : r9 = (nI (b2 (mayA f (decide (1 ≤ i 1 ∧ i 1 ≤ 6 ∧ i 2 < 10)) k1))) := hr9
          subst hr9
          have hW : MW cy Mn h ad (b2 (!(mayA f (decide (1 ≤ i 1 ∧ i 1 ≤ 6 ∧ i 2 < 10)) k1))) i f := hW
          refine b_if_ne (b := mayA f (decide (1 ≤ i 1 ∧ i 1 ≤ 6 ∧ i 2 < 10)) k1) (tgt := 95) hx hb dX6_letter_90 (by decide) (fun c_90 => ?_) (fun c_90 => ?_)
          · have hW := MW.tt hW c_90
            have hb0 := of_decide_eq_true (mayA_b _ c_90)
            have hmay : mayS i f = true := (by have e9 : k1 = i 1 := (by omega); rw [e9] at c_90; exact c_90)
            refine lv_iconst (v := (nI 0)) hx hb dX6_letter_95 (by decide) ?_
            refine lv_istore_n (lv' := [(2, .int (nI 0)), (0, .ref h), (1, .int (nI (b2 (mayA f (decide (1 ≤ i 1 ∧ i 1 ≤ 6 ∧ i 2 < 10)) k1))))]) hx hb dX6_letter_96 rfl hl (by decide) rfl (fun ls hl => ?_)
            have K97 : ∀ (n : Nat) (j2 : Nat), 9 - j2 < n → (j2 ≤ i 1) → ∀ (Mq : mM) (H : Heap) (locs : List Loc), pm D Mq H → mD (mA M sz) Mq → va_S (mA M sz) s.heap H locs → (MW cy Mq h ad 0 i (va_up f 3 (cpA (f 3) (6 * i 2) (f 0) j2))) → ∀ (ls : Array Slot), lv_has ls 4 [(0, .ref h), (2, .int (nI j2))] → W p l e ({ frames := 1, cells := 0, slots := 0, locals := 22 } : Room) s m args below meth c H locs 0 0 (MQ below (va_Qi (mPost cy h ad (oLetter  i f)) (mB D M sz) (mA M sz)) args s 0 0 (mA M sz)) (F0 m 97 ls []) := by
              intro n
              induction n with
              | zero => intro j2 hn; exact absurd hn (by omega)
              | succ n ih97 =>
                intro j2 hn97 i97_0 Mq H locs hP hD hS hW ls hl
                refine lv_iload_n hx hb dX6_letter_97 rfl (lv_at hl 1 rfl) ?_
                refine lv_aload_n hx hb dX6_letter_98 rfl (lv_at hl 0 rfl) ?_
                refine m_get (T := TX6) (N := 24) (ci := 7) (fs := (moF ad 0 i)) hx hb hwX6 hown hK hP hW.1 rfl 1 (by decide) (hts _ (List.mem_of_getElem? (i := 1) rfl)) (v := .int (nI (i 1))) rfl dX6_letter_99 ?_
                refine z_icmp_ge (u := ((j2 : Nat) : Int)) (v := ((i 1 : Nat) : Int)) (tgt := 131) hx hb (nI_toInt (by omega)) (nI_toInt (by omega)) dX6_letter_102 (by decide) (fun c_102 => ?_) (fun c_102 => ?_)
                · refine lv_aload_n hx hb dX6_letter_131 rfl (lv_at hl 0 rfl) ?_
                  refine m_get (T := TX6) (N := 24) (ci := 7) (fs := (moF ad 0 i)) hx hb hwX6 hown hK hP hW.1 rfl 4 (by decide) (hts _ (List.mem_of_getElem? (i := 5) rfl)) (v := .ref (ad 4)) rfl dX6_letter_132 ?_
                  refine lv_aload_n hx hb dX6_letter_135 rfl (lv_at hl 0 rfl) ?_
                  refine m_get (T := TX6) (N := 24) (ci := 7) (fs := (moF ad 0 i)) hx hb hwX6 hown hK hP hW.1 rfl 2 (by decide) (hts _ (List.mem_of_getElem? (i := 2) rfl)) (v := .int (nI (i 2))) rfl dX6_letter_136 ?_
                  refine lv_aload_n hx hb dX6_letter_139 rfl (lv_at hl 0 rfl) ?_
                  refine m_get (T := TX6) (N := 24) (ci := 7) (fs := (moF ad 0 i)) hx hb hwX6 hown hK hP hW.1 rfl 1 (by decide) (hts _ (List.mem_of_getElem? (i := 1) rfl)) (v := .int (nI (i 1))) rfl dX6_letter_140 ?_
                  refine n_iast (g := (f 4)) (n := 10) (i := i 2) (v := i 1) hx hb hK hP hD hS (hW.2.1 4 (by decide)) (by omega) (by omega) dX6_letter_143 (fun H locs hP hD hS => ?_)
                  have hW := hW.setI 4 (by decide) (va_up (f 4) (i 2) (i 1))
                  refine lv_aload_n hx hb dX6_letter_144 rfl (lv_at hl 0 rfl) ?_
                  refine lv_iconst (v := (nI 0)) hx hb dX6_letter_145 (by decide) ?_
                  refine m_put (T := TX6) (N := 24) (ci := 7) (fs := (moF ad 0 i)) (v := .int (nI 0)) hx hb hwX6 tyX6 tyX6_ok nmX6 hown hK hP hD hS hW.1 rfl 1 (by decide) (hts _ (List.mem_of_getElem? (i := 1) rfl)) rfl (rfl) rfl (Nat.le_of_ble_eq_true rfl) dX6_letter_146 (fun H locs hP hD hS => ?_)
                  have hW := hW.setO 0 (va_up i 1 0)
                  refine lv_aload_n hx hb dX6_letter_149 rfl (lv_at hl 0 rfl) ?_
                  refine lv_dup hx hb dX6_letter_150 rfl ?_
                  refine m_get (T := TX6) (N := 24) (ci := 7) (fs := (moF ad 0 (va_up i 1 0))) hx hb hwX6 hown hK hP hW.1 rfl 2 (by decide) (hts _ (List.mem_of_getElem? (i := 2) rfl)) (v := .int (nI (i 2))) rfl dX6_letter_151 ?_
                  refine lv_iconst (v := (nI 1)) hx hb dX6_letter_154 (by decide) ?_
                  refine n_add (x := i 2) (y := 1) hx hb dX6_letter_155 ?_
                  refine m_put (T := TX6) (N := 24) (ci := 7) (fs := (moF ad 0 (va_up i 1 0))) (v := .int (nI ((i 2) + 1))) hx hb hwX6 tyX6 tyX6_ok nmX6 hown hK hP hD hS hW.1 rfl 2 (by decide) (hts _ (List.mem_of_getElem? (i := 2) rfl)) rfl (rfl) rfl (Nat.le_of_ble_eq_true rfl) dX6_letter_156 (fun H locs hP hD hS => ?_)
                  have hW := hW.setO 0 (va_up (va_up i 1 0) 2 ((i 2) + 1))
                  refine lv_aload_n hx hb dX6_letter_159 rfl (lv_at hl 0 rfl) ?_
                  refine m_get (T := TX6) (N := 24) (ci := 7) (fs := (moF ad 0 (va_up (va_up i 1 0) 2 ((i 2) + 1)))) hx hb hwX6 hown hK hP hW.1 rfl 2 (by decide) (hts _ (List.mem_of_getElem? (i := 2) rfl)) (v := .int (nI ((i 2) + 1))) rfl dX6_letter_160 ?_
                  refine lv_iconst (v := (nI 1)) hx hb dX6_letter_163 (by decide) ?_
                  refine n_sub (x := (i 2) + 1) (y := 1) hx hb (by omega) dX6_letter_164 ?_
                  refine n_name (show (nI (((i 2) + 1) - 1)) = nI (i 2) from congrArg nI (by omega)) ?_
                  exact e_wi hx hb hr hlocks hP hD hS (mPost_of (a := 0) (b := ((i 2 : Nat) : Int)) (i := va_up (va_up i 1 0) 2 ((i 2) + 1)) (f := va_up (va_up f 3 (cpA (f 3) (6 * i 2) (f 0) j2)) 4 (va_up (f 4) (i 2) (i 1))) (by unfold oLetter; (repeat (first | rw [if_pos (by omega)] | rw [if_neg (by omega)] | rw [if_pos hmay])); (first | done | (rw [show i 1 = j2 by omega] <;> rfl))) (nI_zI _) hW) dX6_letter_165
                · refine lv_aload_n hx hb dX6_letter_105 rfl (lv_at hl 0 rfl) ?_
                  refine m_get (T := TX6) (N := 24) (ci := 7) (fs := (moF ad 0 i)) hx hb hwX6 hown hK hP hW.1 rfl 3 (by decide) (hts _ (List.mem_of_getElem? (i := 4) rfl)) (v := .ref (ad 3)) rfl dX6_letter_106 ?_
                  refine lv_bipush (v := (nI 6)) hx hb dX6_letter_109 (by decide) ?_
                  refine lv_aload_n hx hb dX6_letter_111 rfl (lv_at hl 0 rfl) ?_
                  refine m_get (T := TX6) (N := 24) (ci := 7) (fs := (moF ad 0 i)) hx hb hwX6 hown hK hP hW.1 rfl 2 (by decide) (hts _ (List.mem_of_getElem? (i := 2) rfl)) (v := .int (nI (i 2))) rfl dX6_letter_112 ?_
                  refine n_mul (x := 6) (y := i 2) hx hb dX6_letter_115 ?_
                  refine lv_iload_n hx hb dX6_letter_116 rfl (lv_at hl 1 rfl) ?_
                  refine n_add (x := 6 * (i 2)) (y := j2) hx hb dX6_letter_117 ?_
                  refine lv_aload_n hx hb dX6_letter_118 rfl (lv_at hl 0 rfl) ?_
                  refine m_get (T := TX6) (N := 24) (ci := 7) (fs := (moF ad 0 i)) hx hb hwX6 hown hK hP hW.1 rfl 0 (by decide) (hts _ (List.mem_of_getElem? (i := 3) rfl)) (v := .ref (ad 0)) rfl dX6_letter_119 ?_
                  refine lv_iload_n hx hb dX6_letter_122 rfl (lv_at hl 1 rfl) ?_
                  have bd_1 : (f 0) j2 ≤ 88 := hI.2.2.2.2.2 0 j2
                  refine n_iald (g := (f 0)) (n := 8) (i := j2) hx hb hK hP (hW.2.1 0 (by decide)) (by omega) (by omega) dX6_letter_123 ?_
                  refine n_iast (g := (cpA (f 3) (6 * i 2) (f 0) j2)) (n := 60) (i := (6 * (i 2)) + j2) (v := (f 0) j2) hx hb hK hP hD hS (hW.2.1 3 (by decide)) (by omega) (by omega) dX6_letter_124 (fun H locs hP hD hS => ?_)
                  have hW := hW.setI 3 (by decide) (va_up (cpA (f 3) (6 * i 2) (f 0) j2) ((6 * (i 2)) + j2) ((f 0) j2))
                  refine n_iinc (x := j2) (k := 1) (lv' := [(2, .int (nI (j2 + 1))), (0, .ref h)]) hx hb dX6_letter_125 rfl hl (q := 1) rfl (by decide) rfl (fun ls hl => ?_)
                  refine lv_goto (tgt := 97) hx hb dX6_letter_128 (by decide) ?_
                  exact ih97  (j2 + 1) (by omega) (by omega) _ _ _ hP hD hS (by rw [bx_uu] at hW; exact hW) _ (lv_sub hl [1, 0] rfl)
            exact K97 (9 - 0 + 1) 0 (Nat.lt_succ_self _) (Nat.zero_le _) _ _ _ hP hD hS (by rw [show va_up f 3 (cpA (f 3) (6 * i 2) (f 0) 0) = f from va_up_id f 3]; exact hW) _ (lv_sub hl [1, 0] rfl)
          · have hW := MW.tf hW c_90
            refine lv_iconst (v := (nI 0)) hx hb dX6_letter_93 (by decide) ?_
            exact e_wi hx hb hr hlocks hP hD hS (mPost_of (a := 1) (b := ((0 : Nat) : Int)) (i := i) (f := f) (by unfold oLetter; (repeat (first | rw [if_pos (by omega)] | rw [if_neg (by omega)] | rw [if_neg (show ¬ mayS i f = true by have e9 : k1 = i 1 := (by omega); rw [e9] at c_90; unfold mayS; rw [c_90]; decide)])); (first | done | rfl | omega)) (nI_zI _) hW) dX6_letter_94
        · refine lv_iconst (v := (nI 0)) hx hb dX6_letter_38 (by decide) ?_
          refine lv_istore_n (lv' := [(3, .int (nI 0)), (0, .ref h), (1, .int (nI (b2 (mayA f (decide (1 ≤ i 1 ∧ i 1 ≤ 6 ∧ i 2 < 10)) k1)))), (2, .int (nI k1))]) hx hb dX6_letter_39 rfl hl (by decide) rfl (fun ls hl => ?_)
          have K40 : ∀ (n : Nat) (j : Nat), 9 - j < n → (j ≤ k1) → ∀ (Mq : mM) (H : Heap) (locs : List Loc), pm D Mq H → mD (mA M sz) Mq → va_S (mA M sz) s.heap H locs → (MW cy Mq h ad t i f) → ∀ (ls : Array Slot), lv_has ls 4 [(0, .ref h), (1, .int (nI (b2 (mayI f (mayA f (decide (1 ≤ i 1 ∧ i 1 ≤ 6 ∧ i 2 < 10)) k1) k1 j)))), (2, .int (nI k1)), (3, .int (nI j))] → W p l e ({ frames := 1, cells := 0, slots := 0, locals := 22 } : Room) s m args below meth c H locs 0 0 (MQ below (va_Qi (mPost cy h ad (oLetter  i f)) (mB D M sz) (mA M sz)) args s 0 0 (mA M sz)) (F0 m 40 ls []) := by
            intro n
            induction n with
            | zero => intro j hn; exact absurd hn (by omega)
            | succ n ih40 =>
              intro j hn40 i40_0 Mq H locs hP hD hS hW ls hl
              refine lv_iload_n hx hb dX6_letter_40 rfl (lv_at hl 3 rfl) ?_
              refine lv_iload_n hx hb dX6_letter_41 rfl (lv_at hl 2 rfl) ?_
              refine z_icmp_ge (u := ((j : Nat) : Int)) (v := ((k1 : Nat) : Int)) (tgt := 79) hx hb (nI_toInt (by omega)) (nI_toInt (by omega)) dX6_letter_42 (by decide) (fun c_42 => ?_) (fun c_42 => ?_)
              · refine n_iinc (x := k1) (k := 1) (lv' := [(2, .int (nI (k1 + 1))), (0, .ref h), (1, .int (nI (b2 (mayI f (mayA f (decide (1 ≤ i 1 ∧ i 1 ≤ 6 ∧ i 2 < 10)) k1) k1 j)))), (3, .int (nI j))]) hx hb dX6_letter_79 rfl hl (q := 2) rfl (by decide) rfl (fun ls hl => ?_)
                refine lv_goto (tgt := 30) hx hb dX6_letter_82 (by decide) ?_
                have hl : lv_has ls 4 [(2, .int (nI (k1 + 1))), (0, .ref h), (1, .int (nI (b2 (mayA f (decide (1 ≤ i 1 ∧ i 1 ≤ 6 ∧ i 2 < 10)) (k1 + 1))))), (3, .int (nI j))] := by
                  have heq0 : (.int (nI (b2 (mayA f (decide (1 ≤ i 1 ∧ i 1 ≤ 6 ∧ i 2 < 10)) (k1 + 1)))) : Value) = .int (nI (b2 (mayI f (mayA f (decide (1 ≤ i 1 ∧ i 1 ≤ 6 ∧ i 2 < 10)) k1) k1 j))) := (by have e9 : j = k1 := (by omega); rw [e9]; rfl)
                  rw [heq0]
                  exact hl
                exact ih30  (k1 + 1) (by omega) (by omega) _ _ _ hP hD hS (hW) _ (lv_sub hl [1, 2, 0] rfl)
              · refine lv_iload_n hx hb dX6_letter_45 rfl (lv_at hl 1 rfl) ?_
                refine b_if_eq (b := mayI f (mayA f (decide (1 ≤ i 1 ∧ i 1 ≤ 6 ∧ i 2 < 10)) k1) k1 j) (tgt := 71) hx hb dX6_letter_46 (by decide) (fun c_46 => ?_) (fun c_46 => ?_)
                · refine lv_iconst (v := (nI 0)) hx hb dX6_letter_71 (by decide) ?_
                  refine lv_istore_n (lv' := [(1, .int (nI 0)), (0, .ref h), (2, .int (nI k1)), (3, .int (nI j))]) hx hb dX6_letter_72 rfl hl (by decide) rfl (fun ls hl => ?_)
                  refine n_iinc (x := j) (k := 1) (lv' := [(3, .int (nI (j + 1))), (1, .int (nI 0)), (0, .ref h), (2, .int (nI k1))]) hx hb dX6_letter_73 rfl hl (q := 3) rfl (by decide) rfl (fun ls hl => ?_)
                  refine lv_goto (tgt := 40) hx hb dX6_letter_76 (by decide) ?_
                  have hl : lv_has ls 4 [(3, .int (nI (j + 1))), (1, .int (nI (b2 (mayI f (mayA f (decide (1 ≤ i 1 ∧ i 1 ≤ 6 ∧ i 2 < 10)) k1) k1 (j + 1))))), (0, .ref h), (2, .int (nI k1))] := by
                    have heq0 : (.int (nI (b2 (mayI f (mayA f (decide (1 ≤ i 1 ∧ i 1 ≤ 6 ∧ i 2 < 10)) k1) k1 (j + 1)))) : Value) = .int (nI 0) := congrArg Value.int (by first | (exact b2_f (by rw [mayI, c_46]; rfl)) | (exact b2_f (by rw [mayI, c_46, c_64]; rfl)) | (exact b2_t (by rw [mayI, c_46, c_64]; rfl)))
                    rw [heq0]
                    exact hl
                  exact ih40  (j + 1) (by omega) (by omega) _ _ _ hP hD hS (hW) _ (lv_sub hl [2, 1, 3, 0] rfl)
                · refine lv_aload_n hx hb dX6_letter_49 rfl (lv_at hl 0 rfl) ?_
                  refine m_get (T := TX6) (N := 24) (ci := 7) (fs := (moF ad t i)) hx hb hwX6 hown hK hP hW.1 rfl 0 (by decide) (hts _ (List.mem_of_getElem? (i := 3) rfl)) (v := .ref (ad 0)) rfl dX6_letter_50 ?_
                  refine lv_iload_n hx hb dX6_letter_53 rfl (lv_at hl 3 rfl) ?_
                  have bd_2 : (f 0) j ≤ 88 := hI.2.2.2.2.2 0 j
                  refine n_iald (g := (f 0)) (n := 8) (i := j) hx hb hK hP (hW.2.1 0 (by decide)) (by omega) (by omega) dX6_letter_54 ?_
                  refine lv_aload_n hx hb dX6_letter_55 rfl (lv_at hl 0 rfl) ?_
                  refine m_get (T := TX6) (N := 24) (ci := 7) (fs := (moF ad t i)) hx hb hwX6 hown hK hP hW.1 rfl 0 (by decide) (hts _ (List.mem_of_getElem? (i := 3) rfl)) (v := .ref (ad 0)) rfl dX6_letter_56 ?_
                  refine lv_iload_n hx hb dX6_letter_59 rfl (lv_at hl 2 rfl) ?_
                  have bd_3 : (f 0) k1 ≤ 88 := hI.2.2.2.2.2 0 k1
                  refine n_iald (g := (f 0)) (n := 8) (i := k1) hx hb hK hP (hW.2.1 0 (by decide)) (by omega) (by omega) dX6_letter_60 ?_
                  refine vp_callSi (W.runS (As := [.int (nI ((f 0) j)), .int (nI ((f 0) k1))]) (rest := []) ⟨hx, hb, hml, hown, hts⟩ (c_X6_areOneLine l ((f 0) j) ((f 0) k1) (by omega) (by omega)) (va_cwS 2 hts gX6_letter_X6_areOneLine rfl rfl rfl (by decide +kernel) ⟨Nat.le_of_ble_eq_true rfl, Nat.le_of_ble_eq_true rfl⟩) mPre0 rfl rfl hl.1 rfl (lv_room (Nat.le_of_ble_eq_true rfl)) dX6_letter_61 ⟨Nat.le_of_ble_eq_true rfl, Nat.le_of_ble_eq_true rfl⟩) (fun r9 hr9 => ?_)
                  have hr9 : r9 = (nI (b2 (oneLine ((f 0) j) ((f 0) k1)))) := hr9
                  subst hr9
                  refine b_if_ne (b := oneLine ((f 0) j) ((f 0) k1)) (tgt := 71) hx hb dX6_letter_64 (by decide) (fun c_64 => ?_) (fun c_64 => ?_)
                  · refine lv_iconst (v := (nI 0)) hx hb dX6_letter_71 (by decide) ?_
                    refine lv_istore_n (lv' := [(1, .int (nI 0)), (0, .ref h), (2, .int (nI k1)), (3, .int (nI j))]) hx hb dX6_letter_72 rfl hl (by decide) rfl (fun ls hl => ?_)
                    refine n_iinc (x := j) (k := 1) (lv' := [(3, .int (nI (j + 1))), (1, .int (nI 0)), (0, .ref h), (2, .int (nI k1))]) hx hb dX6_letter_73 rfl hl (q := 3) rfl (by decide) rfl (fun ls hl => ?_)
                    refine lv_goto (tgt := 40) hx hb dX6_letter_76 (by decide) ?_
                    have hl : lv_has ls 4 [(3, .int (nI (j + 1))), (1, .int (nI (b2 (mayI f (mayA f (decide (1 ≤ i 1 ∧ i 1 ≤ 6 ∧ i 2 < 10)) k1) k1 (j + 1))))), (0, .ref h), (2, .int (nI k1))] := by
                      have heq0 : (.int (nI (b2 (mayI f (mayA f (decide (1 ≤ i 1 ∧ i 1 ≤ 6 ∧ i 2 < 10)) k1) k1 (j + 1)))) : Value) = .int (nI 0) := congrArg Value.int (by first | (exact b2_f (by rw [mayI, c_46]; rfl)) | (exact b2_f (by rw [mayI, c_46, c_64]; rfl)) | (exact b2_t (by rw [mayI, c_46, c_64]; rfl)))
                      rw [heq0]
                      exact hl
                    exact ih40  (j + 1) (by omega) (by omega) _ _ _ hP hD hS (hW) _ (lv_sub hl [2, 1, 3, 0] rfl)
                  · refine lv_iconst (v := (nI 1)) hx hb dX6_letter_67 (by decide) ?_
                    refine lv_goto (tgt := 72) hx hb dX6_letter_68 (by decide) ?_
                    refine lv_istore_n (lv' := [(1, .int (nI 1)), (0, .ref h), (2, .int (nI k1)), (3, .int (nI j))]) hx hb dX6_letter_72 rfl hl (by decide) rfl (fun ls hl => ?_)
                    refine n_iinc (x := j) (k := 1) (lv' := [(3, .int (nI (j + 1))), (1, .int (nI 1)), (0, .ref h), (2, .int (nI k1))]) hx hb dX6_letter_73 rfl hl (q := 3) rfl (by decide) rfl (fun ls hl => ?_)
                    refine lv_goto (tgt := 40) hx hb dX6_letter_76 (by decide) ?_
                    have hl : lv_has ls 4 [(3, .int (nI (j + 1))), (1, .int (nI (b2 (mayI f (mayA f (decide (1 ≤ i 1 ∧ i 1 ≤ 6 ∧ i 2 < 10)) k1) k1 (j + 1))))), (0, .ref h), (2, .int (nI k1))] := by
                      have heq0 : (.int (nI (b2 (mayI f (mayA f (decide (1 ≤ i 1 ∧ i 1 ≤ 6 ∧ i 2 < 10)) k1) k1 (j + 1)))) : Value) = .int (nI 1) := congrArg Value.int (by first | (exact b2_f (by rw [mayI, c_46]; rfl)) | (exact b2_f (by rw [mayI, c_46, c_64]; rfl)) | (exact b2_t (by rw [mayI, c_46, c_64]; rfl)))
                      rw [heq0]
                      exact hl
                    exact ih40  (j + 1) (by omega) (by omega) _ _ _ hP hD hS (hW) _ (lv_sub hl [2, 1, 3, 0] rfl)
          exact K40 (9 - 0 + 1) 0 (Nat.lt_succ_self _) (Nat.zero_le _) _ _ _ hP hD hS (hW) _ (lv_sub hl [1, 2, 3, 0] rfl)
    exact K30 (9 - 0 + 1) 0 (Nat.lt_succ_self _) (Nat.zero_le _) _ _ _ hP hD hS (hW) _ (lv_sub hl [2, 1, 0] rfl)
  refine lv_aload_n hx hb dX6_letter_0 rfl (lv_at hl 0 rfl) ?_
  refine m_get (T := TX6) (N := 24) (ci := 7) (fs := (moF ad t i)) hx hb hwX6 hown hK hP hW.1 rfl 1 (by decide) (hts _ (List.mem_of_getElem? (i := 1) rfl)) (v := .int (nI (i 1))) rfl dX6_letter_1 ?_
  refine lv_iconst (v := (nI 1)) hx hb dX6_letter_4 (by decide) ?_
  refine lv_bipush (v := (nI 6)) hx hb dX6_letter_5 (by decide) ?_
  refine vp_callSi (W.runS (As := [.int (nI (i 1)), .int (nI 1), .int (nI 6)]) (rest := []) ⟨hx, hb, hml, hown, hts⟩ (c_X6_in l (nI (i 1)) (nI 1) (nI 6) ((i 1 : Nat) : Int) ((1 : Nat) : Int) ((6 : Nat) : Int) (nI_toInt (by omega)) (nI_toInt (by omega)) (nI_toInt (by omega))) (va_cwS 3 hts gX6_letter_X6_in rfl rfl rfl (by decide +kernel) ⟨Nat.le_of_ble_eq_true rfl, Nat.le_of_ble_eq_true rfl⟩) mPre0 rfl rfl hl.1 rfl (lv_room (Nat.le_of_ble_eq_true rfl)) dX6_letter_7 ⟨Nat.le_of_ble_eq_true rfl, Nat.le_of_ble_eq_true rfl⟩) (fun r9 hr9 => ?_)
  have hr9 : r9 = (nI (b2 (inB ((i 1 : Nat) : Int) ((1 : Nat) : Int) ((6 : Nat) : Int)))) := hr9
  subst hr9
  refine b_if_eq (b := inB ((i 1 : Nat) : Int) ((1 : Nat) : Int) ((6 : Nat) : Int)) (tgt := 26) hx hb dX6_letter_10 (by decide) (fun c_10 => ?_) (fun c_10 => ?_)
  · have c_10 := inB_f c_10
    refine lv_iconst (v := (nI 0)) hx hb dX6_letter_26 (by decide) ?_
    refine n_name (show (nI 0) = (nI (b2 (decide (1 ≤ i 1 ∧ i 1 ≤ 6 ∧ i 2 < 10)))) from (b2_n (by omega)).symm) ?_
    exact KJ27     _ _ _ hP hD hS (hW) _ (lv_sub hl [0] rfl)
  · have c_10 := inB_t c_10
    refine lv_aload_n hx hb dX6_letter_13 rfl (lv_at hl 0 rfl) ?_
    refine m_get (T := TX6) (N := 24) (ci := 7) (fs := (moF ad t i)) hx hb hwX6 hown hK hP hW.1 rfl 2 (by decide) (hts _ (List.mem_of_getElem? (i := 2) rfl)) (v := .int (nI (i 2))) rfl dX6_letter_14 ?_
    refine lv_bipush (v := (nI 10)) hx hb dX6_letter_17 (by decide) ?_
    refine z_icmp_ge (u := ((i 2 : Nat) : Int)) (v := ((10 : Nat) : Int)) (tgt := 26) hx hb (nI_toInt (by omega)) (nI_toInt (by omega)) dX6_letter_19 (by decide) (fun c_19 => ?_) (fun c_19 => ?_)
    · refine lv_iconst (v := (nI 0)) hx hb dX6_letter_26 (by decide) ?_
      refine n_name (show (nI 0) = (nI (b2 (decide (1 ≤ i 1 ∧ i 1 ≤ 6 ∧ i 2 < 10)))) from (b2_n (by omega)).symm) ?_
      exact KJ27     _ _ _ hP hD hS (hW) _ (lv_sub hl [0] rfl)
    · refine lv_iconst (v := (nI 1)) hx hb dX6_letter_22 (by decide) ?_
      refine lv_goto (tgt := 27) hx hb dX6_letter_23 (by decide) ?_
      refine n_name (show (nI 1) = (nI (b2 (decide (1 ≤ i 1 ∧ i 1 ≤ 6 ∧ i 2 < 10)))) from (b2_d (by omega)).symm) ?_
      exact KJ27     _ _ _ hP hD hS (hW) _ (lv_sub hl [0] rfl)

set_option maxRecDepth 100000 in
set_option maxHeartbeats 4000000 in
/-- write -/
theorem c_X6_write (l : Launch) (D : va_G) (cy : Nat → ClassId) (M : mM) (sz : Nat) (h : Nat) (ad : Nat → Nat) (t : Nat) (i : Nat → Nat) (f : Nat → Nat → Nat) (nc : Nat)  (x : Int32) (ux : Int) (y : Int32) (uy : Int) (hW : MW cy M h ad t i f) (hI : MI nc i f)  (px : x.toInt = ux) (py : y.toInt = uy) : mWi l yX6_write wsX6_write ({ frames := 2, cells := 0, slots := 0, locals := 43 } : Room) D cy M sz [.ref h, .int x, .int y] (mPost cy h ad (oWrite ux uy i f)) 0 0 := by
  refine mW.of (cc := cX6_write) (maxL := 5) (ret := (some .int)) (by decide) rfl (Nat.le_of_ble_eq_true rfl) ?_
  intro p e s m args below meth c ls hsz hx hb hr hts hown hlocks hml hname hP hD hS hA hK hl
  have hl : lv_has ls 5 [(0, .ref h), (1, .int x), (2, .int y)] := hl
  have hown : s.vm.findClass RX6 = some m.cls := hown
  have hwX6 : ∀ w ∈ wsX60, w.before args s = true := fun w h => hts w (List.mem_cons_of_mem _ (List.mem_append_right _ (h)))
  obtain ⟨hn, hi1, hi2, hi5, hi10, -⟩ := id hI
  have rgx := i32_rng x
  rw [px] at rgx
  have rgy := i32_rng y
  rw [py] at rgy
  refine lv_aload_n hx hb dX6_write_0 rfl (lv_at hl 0 rfl) ?_
  refine lv_iload_n hx hb dX6_write_1 rfl (lv_at hl 1 rfl) ?_
  refine lv_iconst (v := (nI 0)) hx hb dX6_write_2 (by decide) ?_
  refine lv_aload_n hx hb dX6_write_3 rfl (lv_at hl 0 rfl) ?_
  refine m_get (T := TX6) (N := 24) (ci := 7) (fs := (moF ad t i)) hx hb hwX6 hown hK hP hW.1 rfl 5 (by decide) (hts _ (List.mem_of_getElem? (i := 1) rfl)) (v := .int (nI (i 5))) rfl dX6_write_4 ?_
  refine lv_iconst (v := (nI 1)) hx hb dX6_write_7 (by decide) ?_
  refine z_sub (u := ((i 5 : Nat) : Int)) (v := ((1 : Nat) : Int)) hx hb (nI_zI _) (nI_zI _) dX6_write_8 ?_
  refine vp_callSi (W.runS (As := [.int x, .int (nI 0), .int (zI (((i 5 : Nat) : Int) - ((1 : Nat) : Int)))]) (rest := [.ref h]) ⟨hx, hb, hml, hown, hts⟩ (c_X6_in l x (nI 0) (zI (((i 5 : Nat) : Int) - ((1 : Nat) : Int))) ux ((0 : Nat) : Int) (((i 5 : Nat) : Int) - ((1 : Nat) : Int)) (px) (nI_toInt (by omega)) (zI_toInt (by omega) (by omega))) (va_cwS 3 hts gX6_write_X6_in rfl rfl rfl (by decide +kernel) ⟨Nat.le_of_ble_eq_true rfl, Nat.le_of_ble_eq_true rfl⟩) mPre0 rfl rfl hl.1 rfl (lv_room (Nat.le_of_ble_eq_true rfl)) dX6_write_9 ⟨Nat.le_of_ble_eq_true rfl, Nat.le_of_ble_eq_true rfl⟩) (fun r9 hr9 => ?_)
  have hr9 : r9 = (nI (b2 (inB ux ((0 : Nat) : Int) (((i 5 : Nat) : Int) - ((1 : Nat) : Int))))) := hr9
  subst hr9
  refine b_if_eq (b := inB ux ((0 : Nat) : Int) (((i 5 : Nat) : Int) - ((1 : Nat) : Int))) (tgt := 27) hx hb dX6_write_12 (by decide) (fun c_12 => ?_) (fun c_12 => ?_)
  · have c_12 := inB_f c_12
    refine lv_iconst (v := (nI 0)) hx hb dX6_write_27 (by decide) ?_
    refine m_calli (va_runV (C := RX6) (As := [.int (nI 0)]) (rest := []) ⟨hx, hb, hml, hown, hts⟩ (c_X6_asks l D cy _ _ h ad t i f nc false hW hI) (cwV 1 hts gX6_write_X6_asks rfl rfl rfl (by decide +kernel) ⟨Nat.le_of_ble_eq_true rfl, Nat.le_of_ble_eq_true rfl⟩) (mPreWV hK hP hW.1 (ci := 7) rfl) rfl rfl hl.1 rfl (lv_room (Nat.le_of_ble_eq_true rfl)) dX6_write_28 ⟨Nat.le_of_ble_eq_true rfl, Nat.le_of_ble_eq_true rfl⟩) hD hA hS (fun r9 Mn H locs hq9 hP hD hS hz9 hd9 hk9 => ?_)
    obtain ⟨hr9, hW⟩ := hq9
    have hr9 : r9 = (nI 0) := hr9
    subst hr9
    have hW : MW cy Mn h ad 1 i f := hW
    refine k_if_ne_0 (tgt := 36) hx hb dX6_write_31 (by decide) ?_
    refine lv_iconst (v := (nI 0)) hx hb dX6_write_34 (by decide) ?_
    exact e_wi hx hb hr hlocks hP hD hS (mPost_of (a := 1) (b := ((0 : Nat) : Int)) (i := i) (f := f) (by unfold oWrite; (repeat (first | rw [if_pos (by omega)] | rw [if_neg (by omega)])); (first | done | rfl | omega)) (nI_zI _) hW) dX6_write_35
  · have c_12 := inB_t c_12
    refine lv_aload_n hx hb dX6_write_15 rfl (lv_at hl 0 rfl) ?_
    refine lv_iload_n hx hb dX6_write_16 rfl (lv_at hl 2 rfl) ?_
    refine vp_callSi (W.runV (C := RX6) (As := [.int y]) (rest := [.ref h]) ⟨hx, hb, hml, hown, hts⟩ (c_X6_isLetter l D cy _ h ad t i f nc y uy hW hI (py)) (cwV 1 hts gX6_write_X6_isLetter rfl rfl rfl (by decide +kernel) ⟨Nat.le_of_ble_eq_true rfl, Nat.le_of_ble_eq_true rfl⟩) (mPreV hK hP hW.1 (ci := 7) rfl) rfl rfl hl.1 rfl (lv_room (Nat.le_of_ble_eq_true rfl)) dX6_write_17 ⟨Nat.le_of_ble_eq_true rfl, Nat.le_of_ble_eq_true rfl⟩) (fun r9 hr9 => ?_)
    have hr9 : r9 = (nI (b2 (inB uy 0 ((i 2 : Int) - 1)))) := hr9
    subst hr9
    refine b_if_eq (b := inB uy 0 ((i 2 : Int) - 1)) (tgt := 27) hx hb dX6_write_20 (by decide) (fun c_20 => ?_) (fun c_20 => ?_)
    · have c_20 := inB_f c_20
      refine lv_iconst (v := (nI 0)) hx hb dX6_write_27 (by decide) ?_
      refine m_calli (va_runV (C := RX6) (As := [.int (nI 0)]) (rest := []) ⟨hx, hb, hml, hown, hts⟩ (c_X6_asks l D cy _ _ h ad t i f nc false hW hI) (cwV 1 hts gX6_write_X6_asks rfl rfl rfl (by decide +kernel) ⟨Nat.le_of_ble_eq_true rfl, Nat.le_of_ble_eq_true rfl⟩) (mPreWV hK hP hW.1 (ci := 7) rfl) rfl rfl hl.1 rfl (lv_room (Nat.le_of_ble_eq_true rfl)) dX6_write_28 ⟨Nat.le_of_ble_eq_true rfl, Nat.le_of_ble_eq_true rfl⟩) hD hA hS (fun r9 Mn H locs hq9 hP hD hS hz9 hd9 hk9 => ?_)
      obtain ⟨hr9, hW⟩ := hq9
      have hr9 : r9 = (nI 0) := hr9
      subst hr9
      have hW : MW cy Mn h ad 1 i f := hW
      refine k_if_ne_0 (tgt := 36) hx hb dX6_write_31 (by decide) ?_
      refine lv_iconst (v := (nI 0)) hx hb dX6_write_34 (by decide) ?_
      exact e_wi hx hb hr hlocks hP hD hS (mPost_of (a := 1) (b := ((0 : Nat) : Int)) (i := i) (f := f) (by unfold oWrite; (repeat (first | rw [if_pos (by omega)] | rw [if_neg (by omega)])); (first | done | rfl | omega)) (nI_zI _) hW) dX6_write_35
    · have c_20 := inB_t c_20
      refine lv_iconst (v := (nI 1)) hx hb dX6_write_23 (by decide) ?_
      refine lv_goto (tgt := 28) hx hb dX6_write_24 (by decide) ?_
      refine m_calli (va_runV (C := RX6) (As := [.int (nI 1)]) (rest := []) ⟨hx, hb, hml, hown, hts⟩ (c_X6_asks l D cy _ _ h ad t i f nc true hW hI) (cwV 1 hts gX6_write_X6_asks rfl rfl rfl (by decide +kernel) ⟨Nat.le_of_ble_eq_true rfl, Nat.le_of_ble_eq_true rfl⟩) (mPreWV hK hP hW.1 (ci := 7) rfl) rfl rfl hl.1 rfl (lv_room (Nat.le_of_ble_eq_true rfl)) dX6_write_28 ⟨Nat.le_of_ble_eq_true rfl, Nat.le_of_ble_eq_true rfl⟩) hD hA hS (fun r9 Mn H locs hq9 hP hD hS hz9 hd9 hk9 => ?_)
      obtain ⟨hr9, hW⟩ := hq9
      have hr9 : r9 = (nI 1) := hr9
      subst hr9
      have hW : MW cy Mn h ad 0 i f := hW
      refine k_if_ne_1 (tgt := 36) hx hb dX6_write_31 (by decide) ?_
      have ex_1 : x = (nI ux.toNat) := nI_of_toInt (px) (by omega)
      have ex_2 : y = (nI uy.toNat) := nI_of_toInt (py) (by omega)
      have hl : lv_has ls 5 [(0, .ref h), (1, .int (nI ux.toNat)), (2, .int (nI uy.toNat))] := by
        rw [← ex_1, ← ex_2]
        exact hl
      refine lv_aload_n hx hb dX6_write_36 rfl (lv_at hl 0 rfl) ?_
      refine lv_iload_n hx hb dX6_write_37 rfl (lv_at hl 1 rfl) ?_
      refine vp_callSi (W.runV (C := RX6) (As := [.int (nI ux.toNat)]) (rest := []) ⟨hx, hb, hml, hown, hts⟩ (c_X6_bandOf l D cy _ h ad 0 i f nc ux.toNat hW hI (by omega)) (cwV 1 hts gX6_write_X6_bandOf rfl rfl rfl (by decide +kernel) ⟨Nat.le_of_ble_eq_true rfl, Nat.le_of_ble_eq_true rfl⟩) (mPreV hK hP hW.1 (ci := 7) rfl) rfl rfl hl.1 rfl (lv_room (Nat.le_of_ble_eq_true rfl)) dX6_write_38 ⟨Nat.le_of_ble_eq_true rfl, Nat.le_of_ble_eq_true rfl⟩) (fun r9 hr9 => ?_)
      have hr9 : r9 = (nI (bandP f ux.toNat)) := hr9
      subst hr9
      have bs_1 : bandP f ux.toNat ≤ 2 := bandP_le _ _
      have KJ70 : ∀ (Mq : mM) (H : Heap) (locs : List Loc), pm D Mq H → mD (mA M sz) Mq → va_S (mA M sz) s.heap H locs → (MW cy Mq h ad 0 i f) → ∀ (ls : Array Slot), lv_has ls 5 [(0, .ref h), (1, .int (nI ux.toNat)), (2, .int (nI uy.toNat)), (3, .int (zI (bandS f ux.toNat)))] → W p l e ({ frames := 2, cells := 0, slots := 0, locals := 43 } : Room) s m args below meth c H locs 0 0 (MQ below (va_Qi (mPost cy h ad (oWrite ux uy i f)) (mB D M sz) (mA M sz)) args s 0 0 (mA M sz)) (F0 m 70 ls []) := by
        intro   Mq H locs hP hD hS hW ls hl
        have hbs := bandS_bd f ux.toNat
        have hbp := bandP_le f ux.toNat
        refine lv_aload_n hx hb dX6_write_70 rfl (lv_at hl 0 rfl) ?_
        refine m_get (T := TX6) (N := 24) (ci := 7) (fs := (moF ad 0 i)) hx hb hwX6 hown hK hP hW.1 rfl 10 (by decide) (hts _ (List.mem_of_getElem? (i := 4) rfl)) (v := .int (nI (i 10))) rfl dX6_write_71 ?_
        refine lv_bipush (v := (nI 40)) hx hb dX6_write_74 (by decide) ?_
        refine z_icmp_eq (u := ((i 10 : Nat) : Int)) (v := ((40 : Nat) : Int)) (tgt := 83) hx hb (nI_toInt (by omega)) (nI_toInt (by omega)) dX6_write_76 (by decide) (fun c_76 => ?_) (fun c_76 => ?_)
        · refine lv_aload_n hx hb dX6_write_83 rfl (lv_at hl 0 rfl) ?_
          refine lv_iconst (v := (nI 2)) hx hb dX6_write_84 (by decide) ?_
          refine m_calli (va_runV (C := RX6) (As := [.int (nI 2)]) (rest := []) ⟨hx, hb, hml, hown, hts⟩ (c_X6_fails l D cy _ _ h ad 0 i f nc 2 hW hI) (cwV 1 hts gX6_write_X6_fails rfl rfl rfl (by decide +kernel) ⟨Nat.le_of_ble_eq_true rfl, Nat.le_of_ble_eq_true rfl⟩) (mPreWV hK hP hW.1 (ci := 7) rfl) rfl rfl hl.1 rfl (lv_room (Nat.le_of_ble_eq_true rfl)) dX6_write_85 ⟨Nat.le_of_ble_eq_true rfl, Nat.le_of_ble_eq_true rfl⟩) hD hA hS (fun r9 Mn H locs hq9 hP hD hS hz9 hd9 hk9 => ?_)
          obtain ⟨hr9, hW⟩ := hq9
          have hr9 : r9 = (nI 0) := hr9
          subst hr9
          have hW : MW cy Mn h ad 2 i f := hW
          exact e_wi hx hb hr hlocks hP hD hS (mPost_of (a := 2) (b := ((0 : Nat) : Int)) (i := i) (f := f) (by unfold oWrite; (repeat (first | rw [if_pos (by omega)] | rw [if_neg (by omega)])); (first | done | rfl | omega)) (nI_zI _) hW) dX6_write_88
        · refine lv_iload_n hx hb dX6_write_79 rfl (lv_at hl 3 rfl) ?_
          refine z_if_ge (u := (bandS f ux.toNat)) (tgt := 89) hx hb (zI_toInt (by omega) (by omega)) dX6_write_80 (by decide) (fun c_80 => ?_) (fun c_80 => ?_)
          · have ex_3 : (zI (bandS f ux.toNat)) = (nI ((bandS f ux.toNat).toNat)) := (zI_nI (by omega)).trans (congrArg nI (by omega))
            have hl : lv_has ls 5 [(0, .ref h), (1, .int (nI ux.toNat)), (2, .int (nI uy.toNat)), (3, .int (nI ((bandS f ux.toNat).toNat)))] := by
              rw [← ex_3]
              exact hl
            have hne9 := bandS_pos (f := f) (p := ux.toNat) (by omega)
            refine lv_aload_n hx hb dX6_write_89 rfl (lv_at hl 0 rfl) ?_
            refine m_get (T := TX6) (N := 24) (ci := 7) (fs := (moF ad 0 i)) hx hb hwX6 hown hK hP hW.1 rfl 9 (by decide) (hts _ (List.mem_of_getElem? (i := 2) rfl)) (v := .ref (ad 9)) rfl dX6_write_90 ?_
            refine lv_iload_n hx hb dX6_write_93 rfl (lv_at hl 3 rfl) ?_
            refine lv_aload_n hx hb dX6_write_94 rfl (lv_at hl 0 rfl) ?_
            refine m_get (T := TX6) (N := 24) (ci := 7) (fs := (moF ad 0 i)) hx hb hwX6 hown hK hP hW.1 rfl 8 (by decide) (hts _ (List.mem_of_getElem? (i := 3) rfl)) (v := .ref (ad 8)) rfl dX6_write_95 ?_
            refine lv_iload_n hx hb dX6_write_98 rfl (lv_at hl 1 rfl) ?_
            have bd_2 : (f 8) ux.toNat ≤ 1 := hI.2.2.2.2.2 8 ux.toNat
            refine n_zald (g := (f 8)) (n := 20) (i := ux.toNat) hx hb hK hP (hW.2.2.1 8 (by decide)) (by omega) (by omega) dX6_write_99 ?_
            refine vp_callSi (W.runS (As := [.int (nI ((bandS f ux.toNat).toNat)), .int (nI ((f 8) ux.toNat))]) (rest := [.ref (ad 9)]) ⟨hx, hb, hml, hown, hts⟩ (c_X6_stack l ((bandS f ux.toNat).toNat) ((f 8) ux.toNat) (by omega) (by omega)) (va_cwS 2 hts gX6_write_X6_stack rfl rfl rfl (by decide +kernel) ⟨Nat.le_of_ble_eq_true rfl, Nat.le_of_ble_eq_true rfl⟩) mPre0 rfl rfl hl.1 rfl (lv_room (Nat.le_of_ble_eq_true rfl)) dX6_write_100 ⟨Nat.le_of_ble_eq_true rfl, Nat.le_of_ble_eq_true rfl⟩) (fun r9 hr9 => ?_)
            have hr9 : r9 = (nI (stackN ((bandS f ux.toNat).toNat) ((f 8) ux.toNat))) := hr9
            subst hr9
            have sk_3 : stackN ((bandS f ux.toNat).toNat) ((f 8) ux.toNat) ≤ 3 + ((bandS f ux.toNat).toNat) := stackN_le _ _
            refine lv_dup2_11 hx hb dX6_write_103 rfl rfl ?_
            have bd_4 : (f 9) (stackN ((bandS f ux.toNat).toNat) ((f 8) ux.toNat)) ≤ 25600 := Nat.le_trans (hI.2.2.2.2.2 9 (stackN ((bandS f ux.toNat).toNat) ((f 8) ux.toNat))) (show 50 * nc ≤ 25600 by have := hI.1; omega)
            refine n_iald (g := (f 9)) (n := 6) (i := stackN ((bandS f ux.toNat).toNat) ((f 8) ux.toNat)) hx hb hK hP (hW.2.1 9 (by decide)) (by omega) (by omega) dX6_write_104 ?_
            refine lv_iconst (v := (nI 1)) hx hb dX6_write_105 (by decide) ?_
            refine n_sub (x := (f 9) (stackN ((bandS f ux.toNat).toNat) ((f 8) ux.toNat))) (y := 1) hx hb (by omega) dX6_write_106 ?_
            refine n_iast (g := (f 9)) (n := 6) (i := stackN ((bandS f ux.toNat).toNat) ((f 8) ux.toNat)) (v := ((f 9) (stackN ((bandS f ux.toNat).toNat) ((f 8) ux.toNat))) - 1) hx hb hK hP hD hS (hW.2.1 9 (by decide)) (by omega) (by omega) dX6_write_107 (fun H locs hP hD hS => ?_)
            have hW := hW.setI 9 (by decide) (va_up (f 9) (stackN ((bandS f ux.toNat).toNat) ((f 8) ux.toNat)) (((f 9) (stackN ((bandS f ux.toNat).toNat) ((f 8) ux.toNat))) - 1))
            refine lv_iconst (v := (nI 0)) hx hb dX6_write_108 (by decide) ?_
            refine lv_istore (lv' := [(4, .int (nI 0)), (0, .ref h), (1, .int (nI ux.toNat)), (2, .int (nI uy.toNat)), (3, .int (nI ((bandS f ux.toNat).toNat)))]) hx hb dX6_write_109 hl (by decide) rfl (fun ls hl => ?_)
            have K111 : ∀ (n : Nat) (j : Nat), 9 - j < n → (j ≤ i 1) → ∀ (Mq : mM) (H : Heap) (locs : List Loc), pm D Mq H → mD (mA M sz) Mq → va_S (mA M sz) s.heap H locs → (MW cy Mq h ad 0 i (va_up (va_up f 9 (va_up (f 9) (stackN ((bandS f ux.toNat).toNat) (f 8 ux.toNat)) (f 9 (stackN ((bandS f ux.toNat).toNat) (f 8 ux.toNat)) - 1))) 11 (cpA (f 11) (8 * i 10) (f 0) j))) → ∀ (ls : Array Slot), lv_has ls 5 [(0, .ref h), (1, .int (nI ux.toNat)), (2, .int (nI uy.toNat)), (3, .int (nI ((bandS f ux.toNat).toNat))), (4, .int (nI j))] → W p l e ({ frames := 2, cells := 0, slots := 0, locals := 43 } : Room) s m args below meth c H locs 0 0 (MQ below (va_Qi (mPost cy h ad (oWrite ux uy i f)) (mB D M sz) (mA M sz)) args s 0 0 (mA M sz)) (F0 m 111 ls []) := by
              intro n
              induction n with
              | zero => intro j hn; exact absurd hn (by omega)
              | succ n ih111 =>
                intro j hn111 i111_0 Mq H locs hP hD hS hW ls hl
                refine lv_iload hx hb dX6_write_111 (lv_at hl 4 rfl) ?_
                refine lv_aload_n hx hb dX6_write_113 rfl (lv_at hl 0 rfl) ?_
                refine m_get (T := TX6) (N := 24) (ci := 7) (fs := (moF ad 0 i)) hx hb hwX6 hown hK hP hW.1 rfl 1 (by decide) (hts _ (List.mem_of_getElem? (i := 5) rfl)) (v := .int (nI (i 1))) rfl dX6_write_114 ?_
                refine z_icmp_ge (u := ((j : Nat) : Int)) (v := ((i 1 : Nat) : Int)) (tgt := 148) hx hb (nI_toInt (by omega)) (nI_toInt (by omega)) dX6_write_117 (by decide) (fun c_117 => ?_) (fun c_117 => ?_)
                · refine lv_aload_n hx hb dX6_write_148 rfl (lv_at hl 0 rfl) ?_
                  refine m_get (T := TX6) (N := 24) (ci := 7) (fs := (moF ad 0 i)) hx hb hwX6 hown hK hP hW.1 rfl 12 (by decide) (hts _ (List.mem_of_getElem? (i := 8) rfl)) (v := .ref (ad 12)) rfl dX6_write_149 ?_
                  refine lv_aload_n hx hb dX6_write_152 rfl (lv_at hl 0 rfl) ?_
                  refine m_get (T := TX6) (N := 24) (ci := 7) (fs := (moF ad 0 i)) hx hb hwX6 hown hK hP hW.1 rfl 10 (by decide) (hts _ (List.mem_of_getElem? (i := 4) rfl)) (v := .int (nI (i 10))) rfl dX6_write_153 ?_
                  refine lv_aload_n hx hb dX6_write_156 rfl (lv_at hl 0 rfl) ?_
                  refine m_get (T := TX6) (N := 24) (ci := 7) (fs := (moF ad 0 i)) hx hb hwX6 hown hK hP hW.1 rfl 1 (by decide) (hts _ (List.mem_of_getElem? (i := 5) rfl)) (v := .int (nI (i 1))) rfl dX6_write_157 ?_
                  refine n_iast (g := (f 12)) (n := 40) (i := i 10) (v := i 1) hx hb hK hP hD hS (hW.2.1 12 (by decide)) (by omega) (by omega) dX6_write_160 (fun H locs hP hD hS => ?_)
                  have hW := hW.setI 12 (by decide) (va_up (f 12) (i 10) (i 1))
                  refine lv_aload_n hx hb dX6_write_161 rfl (lv_at hl 0 rfl) ?_
                  refine m_get (T := TX6) (N := 24) (ci := 7) (fs := (moF ad 0 i)) hx hb hwX6 hown hK hP hW.1 rfl 13 (by decide) (hts _ (List.mem_of_getElem? (i := 9) rfl)) (v := .ref (ad 13)) rfl dX6_write_162 ?_
                  refine lv_aload_n hx hb dX6_write_165 rfl (lv_at hl 0 rfl) ?_
                  refine m_get (T := TX6) (N := 24) (ci := 7) (fs := (moF ad 0 i)) hx hb hwX6 hown hK hP hW.1 rfl 10 (by decide) (hts _ (List.mem_of_getElem? (i := 4) rfl)) (v := .int (nI (i 10))) rfl dX6_write_166 ?_
                  refine lv_iload_n hx hb dX6_write_169 rfl (lv_at hl 1 rfl) ?_
                  refine n_iast (g := (f 13)) (n := 40) (i := i 10) (v := ux.toNat) hx hb hK hP hD hS (hW.2.1 13 (by decide)) (by omega) (by omega) dX6_write_170 (fun H locs hP hD hS => ?_)
                  have hW := hW.setI 13 (by decide) (va_up (f 13) (i 10) ux.toNat)
                  refine lv_aload_n hx hb dX6_write_171 rfl (lv_at hl 0 rfl) ?_
                  refine m_get (T := TX6) (N := 24) (ci := 7) (fs := (moF ad 0 i)) hx hb hwX6 hown hK hP hW.1 rfl 14 (by decide) (hts _ (List.mem_of_getElem? (i := 10) rfl)) (v := .ref (ad 14)) rfl dX6_write_172 ?_
                  refine lv_aload_n hx hb dX6_write_175 rfl (lv_at hl 0 rfl) ?_
                  refine m_get (T := TX6) (N := 24) (ci := 7) (fs := (moF ad 0 i)) hx hb hwX6 hown hK hP hW.1 rfl 10 (by decide) (hts _ (List.mem_of_getElem? (i := 4) rfl)) (v := .int (nI (i 10))) rfl dX6_write_176 ?_
                  refine lv_iload_n hx hb dX6_write_179 rfl (lv_at hl 2 rfl) ?_
                  refine n_iast (g := (f 14)) (n := 40) (i := i 10) (v := uy.toNat) hx hb hK hP hD hS (hW.2.1 14 (by decide)) (by omega) (by omega) dX6_write_180 (fun H locs hP hD hS => ?_)
                  have hW := hW.setI 14 (by decide) (va_up (f 14) (i 10) uy.toNat)
                  refine lv_aload_n hx hb dX6_write_181 rfl (lv_at hl 0 rfl) ?_
                  refine m_get (T := TX6) (N := 24) (ci := 7) (fs := (moF ad 0 i)) hx hb hwX6 hown hK hP hW.1 rfl 15 (by decide) (hts _ (List.mem_of_getElem? (i := 11) rfl)) (v := .ref (ad 15)) rfl dX6_write_182 ?_
                  refine lv_aload_n hx hb dX6_write_185 rfl (lv_at hl 0 rfl) ?_
                  refine m_get (T := TX6) (N := 24) (ci := 7) (fs := (moF ad 0 i)) hx hb hwX6 hown hK hP hW.1 rfl 10 (by decide) (hts _ (List.mem_of_getElem? (i := 4) rfl)) (v := .int (nI (i 10))) rfl dX6_write_186 ?_
                  have hI9 : MI nc i (va_up (va_up (va_up (va_up (va_up f 9 (va_up (f 9) (stackN ((bandS f ux.toNat).toNat) (f 8 ux.toNat)) (f 9 (stackN ((bandS f ux.toNat).toNat) (f 8 ux.toNat)) - 1))) 11 (cpA (f 11) (8 * i 10) (f 0) j)) 12 (va_up (f 12) (i 10) (i 1))) 13 (va_up (f 13) (i 10) ux.toNat)) 14 (va_up (f 14) (i 10) uy.toNat)) := ((((hI.row 9 _ (up_le (b := 50 * nc) (fun x => hI.2.2.2.2.2 9 x) (Nat.le_trans (Nat.sub_le _ _) (hI.2.2.2.2.2 9 _)))).row 11 _ (cpA_le (b := 88) (fun x => hI.2.2.2.2.2 11 x) (fun x => hI.2.2.2.2.2 0 x) j)).row 12 _ (up_le (b := 8) (fun x => hI.2.2.2.2.2 12 x) hi1)).row 13 _ (up_le (b := 19) (fun x => hI.2.2.2.2.2 13 x) (by omega))).row 14 _ (up_le (b := 9) (fun x => hI.2.2.2.2.2 14 x) (by omega))
                  refine lv_iload_n hx hb dX6_write_189 rfl (lv_at hl 3 rfl) ?_
                  refine lv_aload_n hx hb dX6_write_190 rfl (lv_at hl 0 rfl) ?_
                  refine lv_iload_n hx hb dX6_write_191 rfl (lv_at hl 1 rfl) ?_
                  refine vp_callSi (W.runV (C := RX6) (As := [.int (nI ux.toNat)]) (rest := [.int (nI ((bandS f ux.toNat).toNat)), .int (nI (i 10)), .ref (ad 15)]) ⟨hx, hb, hml, hown, hts⟩ (c_X6_bandOf l D cy _ h ad 0 i (va_up (va_up (va_up (va_up (va_up f 9 (va_up (f 9) (stackN ((bandS f ux.toNat).toNat) (f 8 ux.toNat)) (f 9 (stackN ((bandS f ux.toNat).toNat) (f 8 ux.toNat)) - 1))) 11 (cpA (f 11) (8 * i 10) (f 0) j)) 12 (va_up (f 12) (i 10) (i 1))) 13 (va_up (f 13) (i 10) ux.toNat)) 14 (va_up (f 14) (i 10) uy.toNat)) nc ux.toNat hW hI9 (by omega)) (cwV 1 hts gX6_write_X6_bandOf rfl rfl rfl (by decide +kernel) ⟨Nat.le_of_ble_eq_true rfl, Nat.le_of_ble_eq_true rfl⟩) (mPreV hK hP hW.1 (ci := 7) rfl) rfl rfl hl.1 rfl (lv_room (Nat.le_of_ble_eq_true rfl)) dX6_write_192 ⟨Nat.le_of_ble_eq_true rfl, Nat.le_of_ble_eq_true rfl⟩) (fun r9 hr9 => ?_)
                  have hr9 : r9 = (nI (bandP (va_up (va_up (va_up (va_up (va_up f 9 (va_up (f 9) (stackN ((bandS f ux.toNat).toNat) (f 8 ux.toNat)) (f 9 (stackN ((bandS f ux.toNat).toNat) (f 8 ux.toNat)) - 1))) 11 (cpA (f 11) (8 * i 10) (f 0) j)) 12 (va_up (f 12) (i 10) (i 1))) 13 (va_up (f 13) (i 10) ux.toNat)) 14 (va_up (f 14) (i 10) uy.toNat)) ux.toNat)) := hr9
                  subst hr9
                  have bs_5 : bandP (va_up (va_up (va_up (va_up (va_up f 9 (va_up (f 9) (stackN ((bandS f ux.toNat).toNat) (f 8 ux.toNat)) (f 9 (stackN ((bandS f ux.toNat).toNat) (f 8 ux.toNat)) - 1))) 11 (cpA (f 11) (8 * i 10) (f 0) j)) 12 (va_up (f 12) (i 10) (i 1))) 13 (va_up (f 13) (i 10) ux.toNat)) 14 (va_up (f 14) (i 10) uy.toNat)) ux.toNat ≤ 2 := bandP_le _ _
                  refine n_name (show (nI (bandP (va_up (va_up (va_up (va_up (va_up f 9 (va_up (f 9) (stackN ((bandS f ux.toNat).toNat) (f 8 ux.toNat)) (f 9 (stackN ((bandS f ux.toNat).toNat) (f 8 ux.toNat)) - 1))) 11 (cpA (f 11) (8 * i 10) (f 0) j)) 12 (va_up (f 12) (i 10) (i 1))) 13 (va_up (f 13) (i 10) ux.toNat)) 14 (va_up (f 14) (i 10) uy.toNat)) ux.toNat)) = nI (bandP f ux.toNat) from rfl) ?_
                  refine z_icmp_ge (u := (((bandS f ux.toNat).toNat : Nat) : Int)) (v := ((bandP f ux.toNat : Nat) : Int)) (tgt := 202) hx hb (nI_toInt (by omega)) (nI_toInt (by omega)) dX6_write_195 (by decide) (fun c_195 => ?_) (fun c_195 => ?_)
                  · refine lv_iconst (v := (nI 0)) hx hb dX6_write_202 (by decide) ?_
                    refine n_name (show (nI 0) = nI (b2 (decide (bandS f ux.toNat < bandP f ux.toNat))) from (b2_n (by omega)).symm) ?_
                    refine n_zast (g := (f 15)) (n := 40) (i := i 10) (v := b2 (decide (bandS f ux.toNat < bandP f ux.toNat))) hx hb hK hP hD hS (hW.2.2.1 15 (by decide)) (by omega) (by omega) (b2_le _) dX6_write_203 (fun H locs hP hD hS => ?_)
                    have hW := hW.setZ 15 (by decide) (va_up (f 15) (i 10) (b2 (decide (bandS f ux.toNat < bandP f ux.toNat))))
                    refine lv_aload_n hx hb dX6_write_204 rfl (lv_at hl 0 rfl) ?_
                    refine lv_iconst (v := (nI 0)) hx hb dX6_write_205 (by decide) ?_
                    refine m_put (T := TX6) (N := 24) (ci := 7) (fs := (moF ad 0 i)) (v := .int (nI 0)) hx hb hwX6 tyX6 tyX6_ok nmX6 hown hK hP hD hS hW.1 rfl 1 (by decide) (hts _ (List.mem_of_getElem? (i := 5) rfl)) rfl (rfl) rfl (Nat.le_of_ble_eq_true rfl) dX6_write_206 (fun H locs hP hD hS => ?_)
                    have hW := hW.setO 0 (va_up i 1 0)
                    refine lv_aload_n hx hb dX6_write_209 rfl (lv_at hl 0 rfl) ?_
                    refine lv_dup hx hb dX6_write_210 rfl ?_
                    refine m_get (T := TX6) (N := 24) (ci := 7) (fs := (moF ad 0 (va_up i 1 0))) hx hb hwX6 hown hK hP hW.1 rfl 10 (by decide) (hts _ (List.mem_of_getElem? (i := 4) rfl)) (v := .int (nI (i 10))) rfl dX6_write_211 ?_
                    refine lv_iconst (v := (nI 1)) hx hb dX6_write_214 (by decide) ?_
                    refine n_add (x := i 10) (y := 1) hx hb dX6_write_215 ?_
                    refine m_put (T := TX6) (N := 24) (ci := 7) (fs := (moF ad 0 (va_up i 1 0))) (v := .int (nI ((i 10) + 1))) hx hb hwX6 tyX6 tyX6_ok nmX6 hown hK hP hD hS hW.1 rfl 10 (by decide) (hts _ (List.mem_of_getElem? (i := 4) rfl)) rfl (rfl) rfl (Nat.le_of_ble_eq_true rfl) dX6_write_216 (fun H locs hP hD hS => ?_)
                    have hW := hW.setO 0 (va_up (va_up i 1 0) 10 ((i 10) + 1))
                    refine lv_aload_n hx hb dX6_write_219 rfl (lv_at hl 0 rfl) ?_
                    refine m_get (T := TX6) (N := 24) (ci := 7) (fs := (moF ad 0 (va_up (va_up i 1 0) 10 ((i 10) + 1)))) hx hb hwX6 hown hK hP hW.1 rfl 10 (by decide) (hts _ (List.mem_of_getElem? (i := 4) rfl)) (v := .int (nI ((i 10) + 1))) rfl dX6_write_220 ?_
                    refine lv_iconst (v := (nI 1)) hx hb dX6_write_223 (by decide) ?_
                    refine n_sub (x := (i 10) + 1) (y := 1) hx hb (by omega) dX6_write_224 ?_
                    refine n_name (show (nI (((i 10) + 1) - 1)) = nI (i 10) from congrArg nI (by omega)) ?_
                    exact e_wi hx hb hr hlocks hP hD hS (mPost_of (a := 0) (b := ((i 10 : Nat) : Int)) (i := va_up (va_up i 1 0) 10 ((i 10) + 1)) (f := va_up (va_up (va_up (va_up (va_up (va_up f 9 (va_up (f 9) (stackN ((bandS f ux.toNat).toNat) (f 8 ux.toNat)) (f 9 (stackN ((bandS f ux.toNat).toNat) (f 8 ux.toNat)) - 1))) 11 (cpA (f 11) (8 * i 10) (f 0) j)) 12 (va_up (f 12) (i 10) (i 1))) 13 (va_up (f 13) (i 10) ux.toNat)) 14 (va_up (f 14) (i 10) uy.toNat)) 15 (va_up (f 15) (i 10) (b2 (decide (bandS f ux.toNat < bandP f ux.toNat))))) (by unfold oWrite; (repeat (first | rw [if_pos (by omega)] | rw [if_neg (by omega)])); (first | done | (rw [show i 1 = j by omega] <;> rfl))) (nI_zI _) hW) dX6_write_225
                  · refine lv_iconst (v := (nI 1)) hx hb dX6_write_198 (by decide) ?_
                    refine lv_goto (tgt := 203) hx hb dX6_write_199 (by decide) ?_
                    refine n_name (show (nI 1) = nI (b2 (decide (bandS f ux.toNat < bandP f ux.toNat))) from (b2_d (by omega)).symm) ?_
                    refine n_zast (g := (f 15)) (n := 40) (i := i 10) (v := b2 (decide (bandS f ux.toNat < bandP f ux.toNat))) hx hb hK hP hD hS (hW.2.2.1 15 (by decide)) (by omega) (by omega) (b2_le _) dX6_write_203 (fun H locs hP hD hS => ?_)
                    have hW := hW.setZ 15 (by decide) (va_up (f 15) (i 10) (b2 (decide (bandS f ux.toNat < bandP f ux.toNat))))
                    refine lv_aload_n hx hb dX6_write_204 rfl (lv_at hl 0 rfl) ?_
                    refine lv_iconst (v := (nI 0)) hx hb dX6_write_205 (by decide) ?_
                    refine m_put (T := TX6) (N := 24) (ci := 7) (fs := (moF ad 0 i)) (v := .int (nI 0)) hx hb hwX6 tyX6 tyX6_ok nmX6 hown hK hP hD hS hW.1 rfl 1 (by decide) (hts _ (List.mem_of_getElem? (i := 5) rfl)) rfl (rfl) rfl (Nat.le_of_ble_eq_true rfl) dX6_write_206 (fun H locs hP hD hS => ?_)
                    have hW := hW.setO 0 (va_up i 1 0)
                    refine lv_aload_n hx hb dX6_write_209 rfl (lv_at hl 0 rfl) ?_
                    refine lv_dup hx hb dX6_write_210 rfl ?_
                    refine m_get (T := TX6) (N := 24) (ci := 7) (fs := (moF ad 0 (va_up i 1 0))) hx hb hwX6 hown hK hP hW.1 rfl 10 (by decide) (hts _ (List.mem_of_getElem? (i := 4) rfl)) (v := .int (nI (i 10))) rfl dX6_write_211 ?_
                    refine lv_iconst (v := (nI 1)) hx hb dX6_write_214 (by decide) ?_
                    refine n_add (x := i 10) (y := 1) hx hb dX6_write_215 ?_
                    refine m_put (T := TX6) (N := 24) (ci := 7) (fs := (moF ad 0 (va_up i 1 0))) (v := .int (nI ((i 10) + 1))) hx hb hwX6 tyX6 tyX6_ok nmX6 hown hK hP hD hS hW.1 rfl 10 (by decide) (hts _ (List.mem_of_getElem? (i := 4) rfl)) rfl (rfl) rfl (Nat.le_of_ble_eq_true rfl) dX6_write_216 (fun H locs hP hD hS => ?_)
                    have hW := hW.setO 0 (va_up (va_up i 1 0) 10 ((i 10) + 1))
                    refine lv_aload_n hx hb dX6_write_219 rfl (lv_at hl 0 rfl) ?_
                    refine m_get (T := TX6) (N := 24) (ci := 7) (fs := (moF ad 0 (va_up (va_up i 1 0) 10 ((i 10) + 1)))) hx hb hwX6 hown hK hP hW.1 rfl 10 (by decide) (hts _ (List.mem_of_getElem? (i := 4) rfl)) (v := .int (nI ((i 10) + 1))) rfl dX6_write_220 ?_
                    refine lv_iconst (v := (nI 1)) hx hb dX6_write_223 (by decide) ?_
                    refine n_sub (x := (i 10) + 1) (y := 1) hx hb (by omega) dX6_write_224 ?_
                    refine n_name (show (nI (((i 10) + 1) - 1)) = nI (i 10) from congrArg nI (by omega)) ?_
                    exact e_wi hx hb hr hlocks hP hD hS (mPost_of (a := 0) (b := ((i 10 : Nat) : Int)) (i := va_up (va_up i 1 0) 10 ((i 10) + 1)) (f := va_up (va_up (va_up (va_up (va_up (va_up f 9 (va_up (f 9) (stackN ((bandS f ux.toNat).toNat) (f 8 ux.toNat)) (f 9 (stackN ((bandS f ux.toNat).toNat) (f 8 ux.toNat)) - 1))) 11 (cpA (f 11) (8 * i 10) (f 0) j)) 12 (va_up (f 12) (i 10) (i 1))) 13 (va_up (f 13) (i 10) ux.toNat)) 14 (va_up (f 14) (i 10) uy.toNat)) 15 (va_up (f 15) (i 10) (b2 (decide (bandS f ux.toNat < bandP f ux.toNat))))) (by unfold oWrite; (repeat (first | rw [if_pos (by omega)] | rw [if_neg (by omega)])); (first | done | (rw [show i 1 = j by omega] <;> rfl))) (nI_zI _) hW) dX6_write_225
                · refine lv_aload_n hx hb dX6_write_120 rfl (lv_at hl 0 rfl) ?_
                  refine m_get (T := TX6) (N := 24) (ci := 7) (fs := (moF ad 0 i)) hx hb hwX6 hown hK hP hW.1 rfl 11 (by decide) (hts _ (List.mem_of_getElem? (i := 6) rfl)) (v := .ref (ad 11)) rfl dX6_write_121 ?_
                  refine lv_bipush (v := (nI 8)) hx hb dX6_write_124 (by decide) ?_
                  refine lv_aload_n hx hb dX6_write_126 rfl (lv_at hl 0 rfl) ?_
                  refine m_get (T := TX6) (N := 24) (ci := 7) (fs := (moF ad 0 i)) hx hb hwX6 hown hK hP hW.1 rfl 10 (by decide) (hts _ (List.mem_of_getElem? (i := 4) rfl)) (v := .int (nI (i 10))) rfl dX6_write_127 ?_
                  refine n_mul (x := 8) (y := i 10) hx hb dX6_write_130 ?_
                  refine lv_iload hx hb dX6_write_131 (lv_at hl 4 rfl) ?_
                  refine n_add (x := 8 * (i 10)) (y := j) hx hb dX6_write_133 ?_
                  refine lv_aload_n hx hb dX6_write_134 rfl (lv_at hl 0 rfl) ?_
                  refine m_get (T := TX6) (N := 24) (ci := 7) (fs := (moF ad 0 i)) hx hb hwX6 hown hK hP hW.1 rfl 0 (by decide) (hts _ (List.mem_of_getElem? (i := 7) rfl)) (v := .ref (ad 0)) rfl dX6_write_135 ?_
                  refine lv_iload hx hb dX6_write_138 (lv_at hl 4 rfl) ?_
                  have bd_6 : (f 0) j ≤ 88 := hI.2.2.2.2.2 0 j
                  refine n_iald (g := (f 0)) (n := 8) (i := j) hx hb hK hP (hW.2.1 0 (by decide)) (by omega) (by omega) dX6_write_140 ?_
                  refine n_iast (g := (cpA (f 11) (8 * i 10) (f 0) j)) (n := 320) (i := (8 * (i 10)) + j) (v := (f 0) j) hx hb hK hP hD hS (hW.2.1 11 (by decide)) (by omega) (by omega) dX6_write_141 (fun H locs hP hD hS => ?_)
                  have hW := hW.setI 11 (by decide) (va_up (cpA (f 11) (8 * i 10) (f 0) j) ((8 * (i 10)) + j) ((f 0) j))
                  refine n_iinc (x := j) (k := 1) (lv' := [(4, .int (nI (j + 1))), (0, .ref h), (1, .int (nI ux.toNat)), (2, .int (nI uy.toNat)), (3, .int (nI ((bandS f ux.toNat).toNat)))]) hx hb dX6_write_142 rfl hl (q := 4) rfl (by decide) rfl (fun ls hl => ?_)
                  refine lv_goto (tgt := 111) hx hb dX6_write_145 (by decide) ?_
                  exact ih111  (j + 1) (by omega) (by omega) _ _ _ hP hD hS (by rw [bx_uu] at hW; exact hW) _ (lv_sub hl [1, 2, 3, 4, 0] rfl)
            exact K111 (9 - 0 + 1) 0 (Nat.lt_succ_self _) (Nat.zero_le _) _ _ _ hP hD hS (by rw [show va_up (va_up f 9 (va_up (f 9) (stackN ((bandS f ux.toNat).toNat) (f 8 ux.toNat)) (f 9 (stackN ((bandS f ux.toNat).toNat) (f 8 ux.toNat)) - 1))) 11 (cpA (f 11) (8 * i 10) (f 0) 0) = va_up f 9 (va_up (f 9) (stackN ((bandS f ux.toNat).toNat) (f 8 ux.toNat)) (f 9 (stackN ((bandS f ux.toNat).toNat) (f 8 ux.toNat)) - 1)) from va_up_id (va_up f 9 (va_up (f 9) (stackN ((bandS f ux.toNat).toNat) (f 8 ux.toNat)) (f 9 (stackN ((bandS f ux.toNat).toNat) (f 8 ux.toNat)) - 1))) 11]; exact hW) _ (lv_sub hl [1, 2, 3, 4, 0] rfl)
          · refine lv_aload_n hx hb dX6_write_83 rfl (lv_at hl 0 rfl) ?_
            refine lv_iconst (v := (nI 2)) hx hb dX6_write_84 (by decide) ?_
            refine m_calli (va_runV (C := RX6) (As := [.int (nI 2)]) (rest := []) ⟨hx, hb, hml, hown, hts⟩ (c_X6_fails l D cy _ _ h ad 0 i f nc 2 hW hI) (cwV 1 hts gX6_write_X6_fails rfl rfl rfl (by decide +kernel) ⟨Nat.le_of_ble_eq_true rfl, Nat.le_of_ble_eq_true rfl⟩) (mPreWV hK hP hW.1 (ci := 7) rfl) rfl rfl hl.1 rfl (lv_room (Nat.le_of_ble_eq_true rfl)) dX6_write_85 ⟨Nat.le_of_ble_eq_true rfl, Nat.le_of_ble_eq_true rfl⟩) hD hA hS (fun r9 Mn H locs hq9 hP hD hS hz9 hd9 hk9 => ?_)
            obtain ⟨hr9, hW⟩ := hq9
            have hr9 : r9 = (nI 0) := hr9
            subst hr9
            have hW : MW cy Mn h ad 2 i f := hW
            exact e_wi hx hb hr hlocks hP hD hS (mPost_of (a := 2) (b := ((0 : Nat) : Int)) (i := i) (f := f) (by unfold oWrite; (repeat (first | rw [if_pos (by omega)] | rw [if_neg (by omega)])); (first | done | rfl | omega)) (nI_zI _) hW) dX6_write_88
      refine lv_istore_n (lv' := [(3, .int (nI (bandP f ux.toNat))), (0, .ref h), (1, .int (nI ux.toNat)), (2, .int (nI uy.toNat))]) hx hb dX6_write_41 rfl hl (by decide) rfl (fun ls hl => ?_)
      have K42 : ∀ (n : Nat) (n2 : Nat), n2 < n → (n2 ≤ 3) → (bandS f ux.toNat = bandA f (f 8 ux.toNat) n2) → ∀ (Mq : mM) (H : Heap) (locs : List Loc), pm D Mq H → mD (mA M sz) Mq → va_S (mA M sz) s.heap H locs → (MW cy Mq h ad 0 i f) → ∀ (ls : Array Slot), lv_has ls 5 [(0, .ref h), (1, .int (nI ux.toNat)), (2, .int (nI uy.toNat)), (3, .int (zI (((n2 : Nat) : Int) - 1)))] → W p l e ({ frames := 2, cells := 0, slots := 0, locals := 43 } : Room) s m args below meth c H locs 0 0 (MQ below (va_Qi (mPost cy h ad (oWrite ux uy i f)) (mB D M sz) (mA M sz)) args s 0 0 (mA M sz)) (F0 m 42 ls []) := by
        intro n
        induction n with
        | zero => intro n2 hn; exact absurd hn (by omega)
        | succ n ih42 =>
          intro n2 hn42 i42_0 i42_1 Mq H locs hP hD hS hW ls hl
          refine lv_iload_n hx hb dX6_write_42 rfl (lv_at hl 3 rfl) ?_
          refine z_if_lt (u := (((n2 : Nat) : Int) - 1)) (tgt := 70) hx hb (zI_toInt (by omega) (by omega)) dX6_write_43 (by decide) (fun c_43 => ?_) (fun c_43 => ?_)
          · have hl : lv_has ls 5 [(0, .ref h), (1, .int (nI ux.toNat)), (2, .int (nI uy.toNat)), (3, .int (zI (bandS f ux.toNat)))] := by
              have heq0 : (.int (zI (bandS f ux.toNat)) : Value) = .int (zI (((n2 : Nat) : Int) - 1)) := congrArg Value.int (congrArg zI (by rw [i42_1]; exact bandA_zero c_43))
              rw [heq0]
              exact hl
            exact KJ70     _ _ _ hP hD hS (hW) _ (lv_sub hl [0, 1, 2, 3] rfl)
          · have ex_3 : (zI (((n2 : Nat) : Int) - 1)) = (nI (n2 - 1)) := (zI_nI (by omega)).trans (congrArg nI (by omega))
            have hl : lv_has ls 5 [(0, .ref h), (1, .int (nI ux.toNat)), (2, .int (nI uy.toNat)), (3, .int (nI (n2 - 1)))] := by
              rw [← ex_3]
              exact hl
            refine lv_aload_n hx hb dX6_write_46 rfl (lv_at hl 0 rfl) ?_
            refine m_get (T := TX6) (N := 24) (ci := 7) (fs := (moF ad 0 i)) hx hb hwX6 hown hK hP hW.1 rfl 9 (by decide) (hts _ (List.mem_of_getElem? (i := 2) rfl)) (v := .ref (ad 9)) rfl dX6_write_47 ?_
            refine lv_iload_n hx hb dX6_write_50 rfl (lv_at hl 3 rfl) ?_
            refine lv_aload_n hx hb dX6_write_51 rfl (lv_at hl 0 rfl) ?_
            refine m_get (T := TX6) (N := 24) (ci := 7) (fs := (moF ad 0 i)) hx hb hwX6 hown hK hP hW.1 rfl 8 (by decide) (hts _ (List.mem_of_getElem? (i := 3) rfl)) (v := .ref (ad 8)) rfl dX6_write_52 ?_
            refine lv_iload_n hx hb dX6_write_55 rfl (lv_at hl 1 rfl) ?_
            have bd_7 : (f 8) ux.toNat ≤ 1 := hI.2.2.2.2.2 8 ux.toNat
            refine n_zald (g := (f 8)) (n := 20) (i := ux.toNat) hx hb hK hP (hW.2.2.1 8 (by decide)) (by omega) (by omega) dX6_write_56 ?_
            refine vp_callSi (W.runS (As := [.int (nI (n2 - 1)), .int (nI ((f 8) ux.toNat))]) (rest := [.ref (ad 9)]) ⟨hx, hb, hml, hown, hts⟩ (c_X6_stack l (n2 - 1) ((f 8) ux.toNat) (by omega) (by omega)) (va_cwS 2 hts gX6_write_X6_stack rfl rfl rfl (by decide +kernel) ⟨Nat.le_of_ble_eq_true rfl, Nat.le_of_ble_eq_true rfl⟩) mPre0 rfl rfl hl.1 rfl (lv_room (Nat.le_of_ble_eq_true rfl)) dX6_write_57 ⟨Nat.le_of_ble_eq_true rfl, Nat.le_of_ble_eq_true rfl⟩) (fun r9 hr9 => ?_)
            have hr9 : r9 = (nI (stackN (n2 - 1) ((f 8) ux.toNat))) := hr9
            subst hr9
            have sk_8 : stackN (n2 - 1) ((f 8) ux.toNat) ≤ 3 + (n2 - 1) := stackN_le _ _
            have bd_9 : (f 9) (stackN (n2 - 1) ((f 8) ux.toNat)) ≤ 25600 := Nat.le_trans (hI.2.2.2.2.2 9 (stackN (n2 - 1) ((f 8) ux.toNat))) (show 50 * nc ≤ 25600 by have := hI.1; omega)
            refine n_iald (g := (f 9)) (n := 6) (i := stackN (n2 - 1) ((f 8) ux.toNat)) hx hb hK hP (hW.2.1 9 (by decide)) (by omega) (by omega) dX6_write_60 ?_
            refine z_if_ne (u := (((f 9) (stackN (n2 - 1) ((f 8) ux.toNat)) : Nat) : Int)) (tgt := 70) hx hb (nI_toInt (by omega)) dX6_write_61 (by decide) (fun c_61 => ?_) (fun c_61 => ?_)
            · have hl : lv_has ls 5 [(0, .ref h), (1, .int (nI ux.toNat)), (2, .int (nI uy.toNat)), (3, .int (zI (bandS f ux.toNat)))] := by
                have heq0 : (.int (zI (bandS f ux.toNat)) : Value) = .int (nI (n2 - 1)) := congrArg Value.int (by rw [i42_1, bandA_stop (by omega) (by omega)]; exact (nI_zI _).symm)
                rw [heq0]
                exact hl
              exact KJ70     _ _ _ hP hD hS (hW) _ (lv_sub hl [0, 1, 2, 3] rfl)
            · refine z_iinc (u := ((n2 - 1 : Nat) : Int)) (k := -1) (lv' := [(3, .int (zI (((n2 - 1 : Nat) : Int) + (-1)))), (0, .ref h), (1, .int (nI ux.toNat)), (2, .int (nI uy.toNat))]) hx hb dX6_write_64 (nI_zI _) hl (q := 3) rfl (by decide) rfl (fun ls hl => ?_)
              refine lv_goto (tgt := 42) hx hb dX6_write_67 (by decide) ?_
              have hl : lv_has ls 5 [(3, .int (zI ((((n2 - 1) : Nat) : Int) - 1))), (0, .ref h), (1, .int (nI ux.toNat)), (2, .int (nI uy.toNat))] := by
                have heq0 : (.int (zI ((((n2 - 1) : Nat) : Int) - 1)) : Value) = .int (zI (((n2 - 1 : Nat) : Int) + (-1))) := congrArg Value.int (congrArg zI (by omega))
                rw [heq0]
                exact hl
              exact ih42  (n2 - 1) (by omega) (by omega) (by rw [← bandA_go (by omega) (by omega)]; exact i42_1) _ _ _ hP hD hS (hW) _ (lv_sub hl [1, 2, 3, 0] rfl)
      have hl : lv_has ls 5 [(3, .int (zI ((((bandP f ux.toNat + 1) : Nat) : Int) - 1))), (0, .ref h), (1, .int (nI ux.toNat)), (2, .int (nI uy.toNat))] := by
        have heq0 : (.int (zI ((((bandP f ux.toNat + 1) : Nat) : Int) - 1)) : Value) = .int (nI (bandP f ux.toNat)) := congrArg Value.int (by rw [nI_zI]; congr 1; omega)
        rw [heq0]
        exact hl
      exact K42 ((bandP f ux.toNat + 1) + 1) (bandP f ux.toNat + 1) (Nat.lt_succ_self _) (by have := bandP_le f ux.toNat; omega) (rfl) _ _ _ hP hD hS (hW) _ (lv_sub hl [1, 2, 3, 0] rfl)
