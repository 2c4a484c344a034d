/-! the law: strokes -/
/-- the two halls and the law's row at a place of a method -/
def LWd (D : va_G) (cy : Nat → ClassId) (de : Nat) (A : Nat → Prop) (s : State) (H : Heap) (locs : List Loc) (M2 N : mM) (o t d nn : Nat) (cn : Nat → Nat) (x : Nat → Nat → Nat) (g : Nat → Nat) : Prop := (pm D (iwU M2 N) H ∧ mD A (iwU M2 N) ∧ va_S A s.heap H locs) ∧ dj M2 N ∧ N d = some (eI cy 64 g) ∧ TW cy de M2 o t cn x ∧ CI nn cn x ∧ DI cn x g
def LPo (cy : Nat → ClassId) (de o t d nn : Nat) : mM → Prop := fun M' => ∃ (M2 N : mM) (cn : Nat → Nat) (x : Nat → Nat → Nat) (g : Nat → Nat), M' = iwU M2 N ∧ dj M2 N ∧ N d = some (eI cy 64 g) ∧ TW cy de M2 o t cn x ∧ CI nn cn x ∧ DI cn x g
section LST
variable {p : Program} {l : Launch} {e : Env} {s : State} {m : MethodId} {args : Array Value} {below : List Frame} {meth : Method} {c : Code} {H : Heap} {locs : List Loc} {Q : State → Prop} {ls : Array Slot} {D : va_G} {cy : Nat → ClassId} {de mi o t d nn : Nat} {cn : Nat → Nat} {x : Nat → Nat → Nat} {g : Nat → Nat} {A : Nat → Prop} {M2 N : mM} {xa za : Int32}
set_option maxRecDepth 100000 in
set_option maxHeartbeats 4000000 in
theorem w_strokes_116 (C0 : LC p l s m args c cL_strokes 8 wsL_strokes A D cy de mi) (kE : LE p l e ({ frames := 11, cells := 60, slots := 560, locals := 290 } : Room) s m args below meth c cL_strokes A D 60 560 Q (LPo cy de o t d (nn + 1))) (hn : nn + 1 ≤ 512) (hW : LWd D cy de A s H locs M2 N o t d nn cn x g) (k : Nat) (hk1 : k / 10 ≤ 8) (hk2 : k % 10 ≤ 8) (hl : lv_has ls 8 [(0, .ref o), (1, .ref t), (2, .ref d), (3, .int xa), (4, .int za)]) : W p l e ({ frames := 11, cells := 60, slots := 560, locals := 290 } : Room) s m args below meth c H locs 4 24 Q (F0 m 116 ls [.int (nI k)]) := by
  obtain ⟨hx, hb, hml, hown, hts, hA, hK, hX, hN0, hst⟩ := id C0
  obtain ⟨⟨hP, hD, hS⟩, hj, hd, hT, hI, hJ⟩ := hW
  obtain ⟨⟨j0, j1, j2, j3⟩, jp, js⟩ := id hJ
  obtain ⟨n0, n1, n2, n3, n4, -⟩ := id hI.1
  obtain ⟨fo, hfo⟩ := (TW.ou (N := N) hT).fst
  obtain ⟨ft, hft⟩ := (TW.tu (N := N) hT).fst
  refine lv_istore (lv' := [(6, .int (nI k)), (0, .ref o), (1, .ref t), (2, .ref d), (3, .int xa), (4, .int za)]) hx hb dL_strokes_116 hl (by decide) rfl (fun ls hl => ?_)
  refine lv_aload_n hx hb dL_strokes_118 rfl (lv_at hl 1 rfl) ?_
  refine lv_aload_n hx hb dL_strokes_119 rfl (lv_at hl 2 rfl) ?_
  refine lv_iconst (v := (nI 0)) hx hb dL_strokes_120 (by decide) ?_
  refine lv_iload hx hb dL_strokes_121 (lv_at hl 0 rfl) ?_
  refine lv_bipush (v := (nI 10)) hx hb dL_strokes_123 (by decide) ?_
  refine n_div (x := k) (y := 10) hx hb (by omega) (by omega) (by omega) dL_strokes_125 ?_
  refine lv_iload hx hb dL_strokes_126 (lv_at hl 0 rfl) ?_
  refine lv_bipush (v := (nI 10)) hx hb dL_strokes_128 (by decide) ?_
  refine n_rem (x := k) (y := 10) hx hb (by omega) (by omega) (by omega) dL_strokes_130 ?_
  refine lv_iconst (v := (nI 0)) hx hb dL_strokes_131 (by decide) ?_
  refine s_both (va_runS (As := [.ref o, .ref t, .int (nI 0), .int (nI (k / 10)), .int (nI (k % 10)), .int (nI 0)]) (rest := []) ⟨hx, hb, hml, hown, hts⟩ (b_stroke l hst de mi D cy _ _ o t nn cn x hT hI.1 (nI (k / 10)) (nI (k % 10)) (nI 0) ((k / 10 : Nat) : Int) (nI_toInt (by omega)) ((k % 10 : Nat) : Int) (nI_toInt (by omega)) ) (va_cwS 6 hts gL_strokes_L_both rfl rfl rfl (by decide +kernel) ⟨Nat.le_of_ble_eq_true rfl, Nat.le_of_ble_eq_true rfl⟩) (wPreS hX hN0 (mD_Ul hD) hS hA hK (pm_Ul hP)) rfl rfl hl.1 rfl (lv_room (Nat.le_of_ble_eq_true rfl)) dL_strokes_132 ⟨Nat.le_of_ble_eq_true rfl, Nat.le_of_ble_eq_true rfl⟩) hP hD hj hA hS (fun r M2 H locs hq hP hD hj hS _ => ?_)
  rcases hq with ⟨q1, rfl, hT⟩ | ⟨q1, q2, rfl, hT⟩ | ⟨q1, q2, q3, rfl, hT⟩ | ⟨q1, q2, q3, rfl, hT⟩
  · exact absurd ⟨⟨by omega, by omega⟩, by omega, by omega⟩ q1
  · obtain ⟨fo, hfo⟩ := (TW.ou (N := N) hT).fst
    obtain ⟨ft, hft⟩ := (TW.tu (N := N) hT).fst
    refine lv_istore (lv' := [(7, .int (zI (-2000000002))), (6, .int (nI k)), (0, .ref o), (1, .ref t), (2, .ref d), (3, .int xa), (4, .int za)]) hx hb dL_strokes_135 hl (by decide) rfl (fun ls hl => ?_)
    refine lv_aload_n hx hb dL_strokes_137 rfl (lv_at hl 4 rfl) ?_
    refine lv_iconst (v := (nI 3)) hx hb dL_strokes_138 (by decide) ?_
    refine lv_dup2_11 hx hb dL_strokes_139 rfl rfl ?_
    refine n_iald (g := g) (n := 64) (i := 3) hx hb hK hP (iwU_r2 hj hd) (by omega) (by decide) dL_strokes_140 ?_
    refine lv_iload hx hb dL_strokes_141 (lv_at hl 0 rfl) ?_
    refine z_if_lt (u := (-2000000002)) (tgt := 150) hx hb (zI_toInt (by omega) (by omega)) dL_strokes_143 (by decide) (fun c_143 => ?_) (fun c_143 => ?_)
    · refine lv_iconst (v := (nI 0)) hx hb dL_strokes_150 (by decide) ?_
      refine n_add (x := g 3) (y := 0) hx hb dL_strokes_151 ?_
      refine s_iast (g := g) (n := 64) (i := 3) (v := (g 3) + 0) hx hb hK hP hD hj hS hd (by omega) (by decide) dL_strokes_152 (fun H locs hP hD hj hS => ?_)
      obtain ⟨g1, hg1⟩ : ∃ g1 : Nat → Nat, g1 = va_up g 3 ((g 3) + 0) := ⟨_, rfl⟩
      have hg1_s : g1 3 = (g 3) + 0 := by rw [hg1, va_up_self]
      have hg1_0 : g1 0 = g 0 := by rw [hg1, va_up_ne _ _ (by decide)]
      have hg1_1 : g1 1 = g 1 := by rw [hg1, va_up_ne _ _ (by decide)]
      have hg1_2 : g1 2 = g 2 := by rw [hg1, va_up_ne _ _ (by decide)]
      rw [← hg1] at hP hD hj
      obtain ⟨N2, hN2⟩ : ∃ N2 : mM, N2 = mset N d (eI cy 64 g1) := ⟨_, rfl⟩
      have hN2_s : N2 d = some (eI cy 64 g1) := by rw [hN2, mset_self]
      rw [← hN2] at hP hD hj
      obtain ⟨fo, hfo⟩ := (TW.ou (N := N2) hT).fst
      obtain ⟨ft, hft⟩ := (TW.tu (N := N2) hT).fst
      refine lv_iload hx hb dL_strokes_153 (lv_at hl 0 rfl) ?_
      refine lv_ldc (v := (zI (-2000000002))) hx hb hown (by rw [show (zI (-2000000002)) = (-2000000002 : Int32) by decide]; exact hts _ (List.mem_of_getElem? (i := 1) rfl)) dL_strokes_155 ?_
      refine z_icmp_ne (u := (-2000000002)) (v := (-2000000002)) (tgt := 181) hx hb (zI_toInt (by omega) (by omega)) (zI_toInt (by omega) (by omega)) dL_strokes_157 (by decide) (fun c_157 => ?_) (fun c_157 => ?_)
      · exfalso; omega
      · refine lv_iload hx hb dL_strokes_160 (lv_at hl 1 rfl) ?_
        refine lv_bipush (v := (nI 10)) hx hb dL_strokes_162 (by decide) ?_
        refine n_div (x := k) (y := 10) hx hb (by omega) (by omega) (by omega) dL_strokes_164 ?_
        refine lv_iload hx hb dL_strokes_165 (lv_at hl 1 rfl) ?_
        refine lv_bipush (v := (nI 10)) hx hb dL_strokes_167 (by decide) ?_
        refine n_rem (x := k) (y := 10) hx hb (by omega) (by omega) (by omega) dL_strokes_169 ?_
        refine z_icmp_ne (u := ((k / 10 : Nat) : Int)) (v := ((k % 10 : Nat) : Int)) (tgt := 177) hx hb (nI_toInt (by omega)) (nI_toInt (by omega)) dL_strokes_170 (by decide) (fun c_170 => ?_) (fun c_170 => ?_)
        · exfalso; omega
        · refine lv_iconst (v := (nI 1)) hx hb dL_strokes_173 (by decide) ?_
          refine lv_goto (tgt := 217) hx hb dL_strokes_174 (by decide) ?_
          exact kE _ _ _ H locs _ ls hP hD hS ⟨M2, N2, _, _, g1, rfl, hj, hN2_s, hT, hI.mono hn, hJ.of ⟨by (try simp (disch := omega) only [va_up_ne, va_up_self]); omega, by (try simp (disch := omega) only [va_up_ne, va_up_self]); omega, by (try simp (disch := omega) only [va_up_ne, va_up_self]); omega, by (try simp (disch := omega) only [va_up_ne, va_up_self]); omega⟩ (fun j hj9 => by rw [hg1, va_up_ne _ _ (by omega)]) rfl rfl rfl rfl⟩ dL_strokes_217 (Nat.le_of_ble_eq_true rfl) (Nat.le_of_ble_eq_true rfl)
    · exfalso; omega
  · obtain ⟨fo, hfo⟩ := (TW.ou (N := N) hT).fst
    obtain ⟨ft, hft⟩ := (TW.tu (N := N) hT).fst
    refine lv_istore (lv' := [(7, .int (zI (-2000000003))), (6, .int (nI k)), (0, .ref o), (1, .ref t), (2, .ref d), (3, .int xa), (4, .int za)]) hx hb dL_strokes_135 hl (by decide) rfl (fun ls hl => ?_)
    refine lv_aload_n hx hb dL_strokes_137 rfl (lv_at hl 4 rfl) ?_
    refine lv_iconst (v := (nI 3)) hx hb dL_strokes_138 (by decide) ?_
    refine lv_dup2_11 hx hb dL_strokes_139 rfl rfl ?_
    refine n_iald (g := g) (n := 64) (i := 3) hx hb hK hP (iwU_r2 hj hd) (by omega) (by decide) dL_strokes_140 ?_
    refine lv_iload hx hb dL_strokes_141 (lv_at hl 0 rfl) ?_
    refine z_if_lt (u := (-2000000003)) (tgt := 150) hx hb (zI_toInt (by omega) (by omega)) dL_strokes_143 (by decide) (fun c_143 => ?_) (fun c_143 => ?_)
    · refine lv_iconst (v := (nI 0)) hx hb dL_strokes_150 (by decide) ?_
      refine n_add (x := g 3) (y := 0) hx hb dL_strokes_151 ?_
      refine s_iast (g := g) (n := 64) (i := 3) (v := (g 3) + 0) hx hb hK hP hD hj hS hd (by omega) (by decide) dL_strokes_152 (fun H locs hP hD hj hS => ?_)
      obtain ⟨g3, hg3⟩ : ∃ g3 : Nat → Nat, g3 = va_up g 3 ((g 3) + 0) := ⟨_, rfl⟩
      have hg3_s : g3 3 = (g 3) + 0 := by rw [hg3, va_up_self]
      have hg3_0 : g3 0 = g 0 := by rw [hg3, va_up_ne _ _ (by decide)]
      have hg3_1 : g3 1 = g 1 := by rw [hg3, va_up_ne _ _ (by decide)]
      have hg3_2 : g3 2 = g 2 := by rw [hg3, va_up_ne _ _ (by decide)]
      rw [← hg3] at hP hD hj
      obtain ⟨N4, hN4⟩ : ∃ N4 : mM, N4 = mset N d (eI cy 64 g3) := ⟨_, rfl⟩
      have hN4_s : N4 d = some (eI cy 64 g3) := by rw [hN4, mset_self]
      rw [← hN4] at hP hD hj
      obtain ⟨fo, hfo⟩ := (TW.ou (N := N4) hT).fst
      obtain ⟨ft, hft⟩ := (TW.tu (N := N4) hT).fst
      refine lv_iload hx hb dL_strokes_153 (lv_at hl 0 rfl) ?_
      refine lv_ldc (v := (zI (-2000000002))) hx hb hown (by rw [show (zI (-2000000002)) = (-2000000002 : Int32) by decide]; exact hts _ (List.mem_of_getElem? (i := 1) rfl)) dL_strokes_155 ?_
      refine z_icmp_ne (u := (-2000000003)) (v := (-2000000002)) (tgt := 181) hx hb (zI_toInt (by omega) (by omega)) (zI_toInt (by omega) (by omega)) dL_strokes_157 (by decide) (fun c_157 => ?_) (fun c_157 => ?_)
      · refine lv_iload hx hb dL_strokes_181 (lv_at hl 0 rfl) ?_
        refine lv_ldc (v := (zI (-2000000003))) hx hb hown (by rw [show (zI (-2000000003)) = (-2000000003 : Int32) by decide]; exact hts _ (List.mem_of_getElem? (i := 2) rfl)) dL_strokes_183 ?_
        refine z_icmp_ne (u := (-2000000003)) (v := (-2000000003)) (tgt := 204) hx hb (zI_toInt (by omega) (by omega)) (zI_toInt (by omega) (by omega)) dL_strokes_185 (by decide) (fun c_185 => ?_) (fun c_185 => ?_)
        · exfalso; omega
        · refine lv_aload_n hx hb dL_strokes_188 rfl (lv_at hl 4 rfl) ?_
          refine lv_iconst (v := (nI 3)) hx hb dL_strokes_189 (by decide) ?_
          refine n_iald (g := g3) (n := 64) (i := 3) hx hb hK hP (iwU_r2 hj hN4_s) (by omega) (by decide) dL_strokes_190 ?_
          refine lv_bipush (v := (nI 8)) hx hb dL_strokes_191 (by decide) ?_
          refine z_icmp_ne (u := ((g3 3 : Nat) : Int)) (v := ((8 : Nat) : Int)) (tgt := 200) hx hb (nI_toInt (by omega)) (nI_toInt (by omega)) dL_strokes_193 (by decide) (fun c_193 => ?_) (fun c_193 => ?_)
          · exfalso; omega
          · refine lv_iconst (v := (nI 1)) hx hb dL_strokes_196 (by decide) ?_
            refine lv_goto (tgt := 217) hx hb dL_strokes_197 (by decide) ?_
            exact kE _ _ _ H locs _ ls hP hD hS ⟨M2, N4, _, _, g3, rfl, hj, hN4_s, hT, hI.mono hn, hJ.of ⟨by (try simp (disch := omega) only [va_up_ne, va_up_self]); omega, by (try simp (disch := omega) only [va_up_ne, va_up_self]); omega, by (try simp (disch := omega) only [va_up_ne, va_up_self]); omega, by (try simp (disch := omega) only [va_up_ne, va_up_self]); omega⟩ (fun j hj9 => by rw [hg3, va_up_ne _ _ (by omega)]) rfl rfl rfl rfl⟩ dL_strokes_217 (Nat.le_of_ble_eq_true rfl) (Nat.le_of_ble_eq_true rfl)
      · exfalso; omega
    · exfalso; omega
  · obtain ⟨fo, hfo⟩ := (TW.ou (N := N) hT).fst
    obtain ⟨ft, hft⟩ := (TW.tu (N := N) hT).fst
    refine lv_istore (lv' := [(7, .int (nI (cn 0 + 1))), (6, .int (nI k)), (0, .ref o), (1, .ref t), (2, .ref d), (3, .int xa), (4, .int za)]) hx hb dL_strokes_135 hl (by decide) rfl (fun ls hl => ?_)
    refine lv_aload_n hx hb dL_strokes_137 rfl (lv_at hl 4 rfl) ?_
    refine lv_iconst (v := (nI 3)) hx hb dL_strokes_138 (by decide) ?_
    refine lv_dup2_11 hx hb dL_strokes_139 rfl rfl ?_
    refine n_iald (g := g) (n := 64) (i := 3) hx hb hK hP (iwU_r2 hj hd) (by omega) (by decide) dL_strokes_140 ?_
    refine lv_iload hx hb dL_strokes_141 (lv_at hl 0 rfl) ?_
    refine z_if_lt (u := ((cn 0 + 1 : Nat) : Int)) (tgt := 150) hx hb (nI_toInt (by omega)) dL_strokes_143 (by decide) (fun c_143 => ?_) (fun c_143 => ?_)
    · exfalso; omega
    · refine lv_iconst (v := (nI 1)) hx hb dL_strokes_146 (by decide) ?_
      refine lv_goto (tgt := 151) hx hb dL_strokes_147 (by decide) ?_
      refine n_add (x := g 3) (y := 1) hx hb dL_strokes_151 ?_
      refine s_iast (g := g) (n := 64) (i := 3) (v := (g 3) + 1) hx hb hK hP hD hj hS hd (by omega) (by decide) dL_strokes_152 (fun H locs hP hD hj hS => ?_)
      obtain ⟨g5, hg5⟩ : ∃ g5 : Nat → Nat, g5 = va_up g 3 ((g 3) + 1) := ⟨_, rfl⟩
      have hg5_s : g5 3 = (g 3) + 1 := by rw [hg5, va_up_self]
      have hg5_0 : g5 0 = g 0 := by rw [hg5, va_up_ne _ _ (by decide)]
      have hg5_1 : g5 1 = g 1 := by rw [hg5, va_up_ne _ _ (by decide)]
      have hg5_2 : g5 2 = g 2 := by rw [hg5, va_up_ne _ _ (by decide)]
      rw [← hg5] at hP hD hj
      obtain ⟨N6, hN6⟩ : ∃ N6 : mM, N6 = mset N d (eI cy 64 g5) := ⟨_, rfl⟩
      have hN6_s : N6 d = some (eI cy 64 g5) := by rw [hN6, mset_self]
      rw [← hN6] at hP hD hj
      obtain ⟨fo, hfo⟩ := (TW.ou (N := N6) hT).fst
      obtain ⟨ft, hft⟩ := (TW.tu (N := N6) hT).fst
      refine lv_iload hx hb dL_strokes_153 (lv_at hl 0 rfl) ?_
      refine lv_ldc (v := (zI (-2000000002))) hx hb hown (by rw [show (zI (-2000000002)) = (-2000000002 : Int32) by decide]; exact hts _ (List.mem_of_getElem? (i := 1) rfl)) dL_strokes_155 ?_
      refine z_icmp_ne (u := ((cn 0 + 1 : Nat) : Int)) (v := (-2000000002)) (tgt := 181) hx hb (nI_toInt (by omega)) (zI_toInt (by omega) (by omega)) dL_strokes_157 (by decide) (fun c_157 => ?_) (fun c_157 => ?_)
      · refine lv_iload hx hb dL_strokes_181 (lv_at hl 0 rfl) ?_
        refine lv_ldc (v := (zI (-2000000003))) hx hb hown (by rw [show (zI (-2000000003)) = (-2000000003 : Int32) by decide]; exact hts _ (List.mem_of_getElem? (i := 2) rfl)) dL_strokes_183 ?_
        refine z_icmp_ne (u := ((cn 0 + 1 : Nat) : Int)) (v := (-2000000003)) (tgt := 204) hx hb (nI_toInt (by omega)) (zI_toInt (by omega) (by omega)) dL_strokes_185 (by decide) (fun c_185 => ?_) (fun c_185 => ?_)
        · refine lv_iload hx hb dL_strokes_204 (lv_at hl 0 rfl) ?_
          refine lv_aload_n hx hb dL_strokes_206 rfl (lv_at hl 4 rfl) ?_
          refine lv_iconst (v := (nI 3)) hx hb dL_strokes_207 (by decide) ?_
          refine n_iald (g := g5) (n := 64) (i := 3) hx hb hK hP (iwU_r2 hj hN6_s) (by omega) (by decide) dL_strokes_208 ?_
          refine z_icmp_ne (u := ((cn 0 + 1 : Nat) : Int)) (v := ((g5 3 : Nat) : Int)) (tgt := 216) hx hb (nI_toInt (by omega)) (nI_toInt (by omega)) dL_strokes_209 (by decide) (fun c_209 => ?_) (fun c_209 => ?_)
          · exfalso; omega
          · refine lv_iconst (v := (nI 1)) hx hb dL_strokes_212 (by decide) ?_
            refine lv_goto (tgt := 217) hx hb dL_strokes_213 (by decide) ?_
            exact kE _ _ _ H locs _ ls hP hD hS ⟨M2, N6, _, _, g5, rfl, hj, hN6_s, hT, P_stroke hI hn _ _ q1 q3, hJ.of ⟨by (try simp (disch := omega) only [va_up_ne, va_up_self]); omega, by (try simp (disch := omega) only [va_up_ne, va_up_self]); omega, by (try simp (disch := omega) only [va_up_ne, va_up_self]); omega, by (try simp (disch := omega) only [va_up_ne, va_up_self]); omega⟩ (fun j hj9 => by rw [hg5, va_up_ne _ _ (by omega)]) (by simp (disch := omega) only [va_up_ne, va_up_self, prX_ne]) (by simp (disch := omega) only [va_up_ne, va_up_self, prX_ne]) (by simp (disch := omega) only [va_up_ne, va_up_self, prX_ne]) (by simp (disch := omega) only [va_up_ne, va_up_self, prX_ne])⟩ dL_strokes_217 (Nat.le_of_ble_eq_true rfl) (Nat.le_of_ble_eq_true rfl)
        · exfalso; omega
      · exfalso; omega
set_option maxRecDepth 100000 in
set_option maxHeartbeats 4000000 in
theorem w_strokes_74 (C0 : LC p l s m args c cL_strokes 8 wsL_strokes A D cy de mi) (kE : LE p l e ({ frames := 11, cells := 60, slots := 560, locals := 290 } : Room) s m args below meth c cL_strokes A D 60 560 Q (LPo cy de o t d (nn + 1))) (hn : nn + 1 ≤ 512) (hW : LWd D cy de A s H locs M2 N o t d nn cn x g) (k : Nat) (hk1 : k / 10 ≤ 8) (hk2 : k % 10 ≤ 8) (hl : lv_has ls 8 [(0, .ref o), (1, .ref t), (2, .ref d), (3, .int xa), (4, .int za)]) : W p l e ({ frames := 11, cells := 60, slots := 560, locals := 290 } : Room) s m args below meth c H locs 4 24 Q (F0 m 74 ls [.int (nI k)]) := by
  obtain ⟨hx, hb, hml, hown, hts, hA, hK, hX, hN0, hst⟩ := id C0
  obtain ⟨⟨hP, hD, hS⟩, hj, hd, hT, hI, hJ⟩ := hW
  obtain ⟨⟨j0, j1, j2, j3⟩, jp, js⟩ := id hJ
  obtain ⟨n0, n1, n2, n3, n4, -⟩ := id hI.1
  obtain ⟨fo, hfo⟩ := (TW.ou (N := N) hT).fst
  obtain ⟨ft, hft⟩ := (TW.tu (N := N) hT).fst
  refine lv_istore (lv' := [(6, .int (nI k)), (0, .ref o), (1, .ref t), (2, .ref d), (3, .int xa), (4, .int za)]) hx hb dL_strokes_74 hl (by decide) rfl (fun ls hl => ?_)
  refine lv_iload hx hb dL_strokes_76 (lv_at hl 0 rfl) ?_
  refine z_if_ge (u := ((k : Nat) : Int)) (tgt := 86) hx hb (nI_toInt (by omega)) dL_strokes_78 (by decide) (fun c_78 => ?_) (fun c_78 => ?_)
  · refine lv_iload_n hx hb dL_strokes_86 rfl (lv_at hl 4 rfl) ?_
    refine lv_bipush (v := (nI 6)) hx hb dL_strokes_87 (by decide) ?_
    refine lv_ishr hx hb dL_strokes_89 ?_
    refine lv_iconst (v := (nI 4)) hx hb dL_strokes_90 (by decide) ?_
    refine vp_callSi (W.runS (As := [.int (xa >>> ((nI 6) &&& 31)), .int (nI 4)]) (rest := []) ⟨hx, hb, hml, hown, hts⟩ (c_L_some l (xa >>> ((nI 6) &&& 31)) 4 (by omega) (by omega)) (va_cwS 2 hts gL_strokes_L_some rfl rfl rfl (by decide +kernel) ⟨Nat.le_of_ble_eq_true rfl, Nat.le_of_ble_eq_true rfl⟩) mPre0 rfl rfl hl.1 rfl (lv_room (Nat.le_of_ble_eq_true rfl)) dL_strokes_91 ⟨Nat.le_of_ble_eq_true rfl, Nat.le_of_ble_eq_true rfl⟩) (fun r9 hr9 => ?_)
    have hr9 : r9 = nI (someF (xa >>> ((nI 6) &&& 31)) 4) := hr9
    subst hr9
    have hs_sm1 := someF_lt (xa >>> ((nI 6) &&& 31)) (n := 4) (by omega)
    obtain ⟨sm1, e_sm1⟩ : ∃ sm1 : Nat, sm1 = someF (xa >>> ((nI 6) &&& 31)) 4 := ⟨_, rfl⟩
    rw [← e_sm1] at hs_sm1 ⊢
    refine z_if_ne (u := ((sm1 : Nat) : Int)) (tgt := 114) hx hb (nI_toInt (by omega)) dL_strokes_94 (by decide) (fun c_94 => ?_) (fun c_94 => ?_)
    · refine lv_iload hx hb dL_strokes_114 (lv_at hl 0 rfl) ?_
      exact w_strokes_116 C0 kE hn ⟨⟨hP, hD, hS⟩, hj, hd, hT, hI, hJ⟩ k (by omega) (by omega) (lv_sub hl [1, 2, 3, 4, 5] rfl)
    · refine lv_iload hx hb dL_strokes_97 (lv_at hl 0 rfl) ?_
      refine lv_bipush (v := (nI 10)) hx hb dL_strokes_99 (by decide) ?_
      refine n_div (x := k) (y := 10) hx hb (by omega) (by omega) (by omega) dL_strokes_101 ?_
      refine lv_iload hx hb dL_strokes_102 (lv_at hl 0 rfl) ?_
      refine lv_bipush (v := (nI 10)) hx hb dL_strokes_104 (by decide) ?_
      refine n_rem (x := k) (y := 10) hx hb (by omega) (by omega) (by omega) dL_strokes_106 ?_
      refine lv_bipush (v := (nI 10)) hx hb dL_strokes_107 (by decide) ?_
      refine n_mul (x := k % 10) (y := 10) hx hb dL_strokes_109 ?_
      refine n_add (x := k / 10) (y := (k % 10) * 10) hx hb dL_strokes_110 ?_
      refine lv_goto (tgt := 116) hx hb dL_strokes_111 (by decide) ?_
      exact w_strokes_116 C0 kE hn ⟨⟨hP, hD, hS⟩, hj, hd, hT, hI, hJ⟩ ((k / 10) + ((k % 10) * 10)) (by omega) (by omega) (lv_sub hl [1, 2, 3, 4, 5] rfl)
  · exfalso; omega
set_option maxRecDepth 100000 in
set_option maxHeartbeats 4000000 in
theorem w_strokes_74n (C0 : LC p l s m args c cL_strokes 8 wsL_strokes A D cy de mi) (kE : LE p l e ({ frames := 11, cells := 60, slots := 560, locals := 290 } : Room) s m args below meth c cL_strokes A D 60 560 Q (LPo cy de o t d (nn + 1))) (hn : nn + 1 ≤ 512) (hW : LWd D cy de A s H locs M2 N o t d nn cn x g)  (hl : lv_has ls 8 [(0, .ref o), (1, .ref t), (2, .ref d), (3, .int xa), (4, .int za)]) : W p l e ({ frames := 11, cells := 60, slots := 560, locals := 290 } : Room) s m args below meth c H locs 4 24 Q (F0 m 74 ls [.int (zI (-1))]) := by
  obtain ⟨hx, hb, hml, hown, hts, hA, hK, hX, hN0, hst⟩ := id C0
  obtain ⟨⟨hP, hD, hS⟩, hj, hd, hT, hI, hJ⟩ := hW
  obtain ⟨⟨j0, j1, j2, j3⟩, jp, js⟩ := id hJ
  obtain ⟨n0, n1, n2, n3, n4, -⟩ := id hI.1
  obtain ⟨fo, hfo⟩ := (TW.ou (N := N) hT).fst
  obtain ⟨ft, hft⟩ := (TW.tu (N := N) hT).fst
  refine lv_istore (lv' := [(6, .int (zI (-1))), (0, .ref o), (1, .ref t), (2, .ref d), (3, .int xa), (4, .int za)]) hx hb dL_strokes_74 hl (by decide) rfl (fun ls hl => ?_)
  refine lv_iload hx hb dL_strokes_76 (lv_at hl 0 rfl) ?_
  refine z_if_ge (u := (-1)) (tgt := 86) hx hb (zI_toInt (by omega) (by omega)) dL_strokes_78 (by decide) (fun c_78 => ?_) (fun c_78 => ?_)
  · exfalso; omega
  · refine lv_bipush (v := (nI 12)) hx hb dL_strokes_81 (by decide) ?_
    refine lv_goto (tgt := 116) hx hb dL_strokes_83 (by decide) ?_
    exact w_strokes_116 C0 kE hn ⟨⟨hP, hD, hS⟩, hj, hd, hT, hI, hJ⟩ 12 (by omega) (by omega) (lv_sub hl [1, 2, 3, 4, 5] rfl)
set_option maxRecDepth 100000 in
set_option maxHeartbeats 4000000 in
theorem w_strokes_225 (C0 : LC p l s m args c cL_strokes 8 wsL_strokes A D cy de mi) (kE : LE p l e ({ frames := 11, cells := 60, slots := 560, locals := 290 } : Room) s m args below meth c cL_strokes A D 60 560 Q (LPo cy de o t d (nn + 1))) (hn : nn + 1 ≤ 512) (hW : LWd D cy de A s H locs M2 N o t d nn cn x g)  (hl : lv_has ls 8 [(0, .ref o), (1, .ref t), (2, .ref d), (3, .int xa), (4, .int za)]) : W p l e ({ frames := 11, cells := 60, slots := 560, locals := 290 } : Room) s m args below meth c H locs 0 0 Q (F0 m 225 ls []) := by
  obtain ⟨hx, hb, hml, hown, hts, hA, hK, hX, hN0, hst⟩ := id C0
  obtain ⟨⟨hP, hD, hS⟩, hj, hd, hT, hI, hJ⟩ := hW
  obtain ⟨⟨j0, j1, j2, j3⟩, jp, js⟩ := id hJ
  obtain ⟨n0, n1, n2, n3, n4, -⟩ := id hI.1
  obtain ⟨fo, hfo⟩ := (TW.ou (N := N) hT).fst
  obtain ⟨ft, hft⟩ := (TW.tu (N := N) hT).fst
  refine lv_aload_n hx hb dL_strokes_225 rfl (lv_at hl 2 rfl) ?_
  refine lv_iconst (v := (nI 3)) hx hb dL_strokes_226 (by decide) ?_
  refine n_iald (g := g) (n := 64) (i := 3) hx hb hK hP (iwU_r2 hj hd) (by omega) (by decide) dL_strokes_227 ?_
  refine lv_istore (lv' := [(6, .int (nI (g 3))), (0, .ref o), (1, .ref t), (2, .ref d), (3, .int xa), (4, .int za)]) hx hb dL_strokes_228 hl (by decide) rfl (fun ls hl => ?_)
  refine lv_aload_n hx hb dL_strokes_230 rfl (lv_at hl 3 rfl) ?_
  refine lv_iconst (v := (nI 3)) hx hb dL_strokes_231 (by decide) ?_
  refine lv_iconst (v := (nI 0)) hx hb dL_strokes_232 (by decide) ?_
  refine s_iast (g := g) (n := 64) (i := 3) (v := 0) hx hb hK hP hD hj hS hd (by omega) (by decide) dL_strokes_233 (fun H locs hP hD hj hS => ?_)
  obtain ⟨g1, hg1⟩ : ∃ g1 : Nat → Nat, g1 = va_up g 3 0 := ⟨_, rfl⟩
  have hg1_s : g1 3 = 0 := by rw [hg1, va_up_self]
  have hg1_0 : g1 0 = g 0 := by rw [hg1, va_up_ne _ _ (by decide)]
  have hg1_1 : g1 1 = g 1 := by rw [hg1, va_up_ne _ _ (by decide)]
  have hg1_2 : g1 2 = g 2 := by rw [hg1, va_up_ne _ _ (by decide)]
  rw [← hg1] at hP hD hj
  obtain ⟨N2, hN2⟩ : ∃ N2 : mM, N2 = mset N d (eI cy 64 g1) := ⟨_, rfl⟩
  have hN2_s : N2 d = some (eI cy 64 g1) := by rw [hN2, mset_self]
  rw [← hN2] at hP hD hj
  obtain ⟨fo, hfo⟩ := (TW.ou (N := N2) hT).fst
  obtain ⟨ft, hft⟩ := (TW.tu (N := N2) hT).fst
  refine lv_aload_n hx hb dL_strokes_234 rfl (lv_at hl 1 rfl) ?_
  refine lv_aload_n hx hb dL_strokes_235 rfl (lv_at hl 2 rfl) ?_
  refine lv_iconst (v := (nI 1)) hx hb dL_strokes_236 (by decide) ?_
  refine lv_iconst (v := (nI 0)) hx hb dL_strokes_237 (by decide) ?_
  refine lv_iconst (v := (nI 0)) hx hb dL_strokes_238 (by decide) ?_
  refine lv_iconst (v := (nI 0)) hx hb dL_strokes_239 (by decide) ?_
  refine s_both (va_runS (As := [.ref o, .ref t, .int (nI 1), .int (nI 0), .int (nI 0), .int (nI 0)]) (rest := []) ⟨hx, hb, hml, hown, hts⟩ (b_lift l hst de mi D cy _ _ o t nn cn x hT hI.1 (nI 0) (nI 0) (nI 0)  ) (va_cwS 6 hts gL_strokes_L_both rfl rfl rfl (by decide +kernel) ⟨Nat.le_of_ble_eq_true rfl, Nat.le_of_ble_eq_true rfl⟩) (wPreS hX hN0 (mD_Ul hD) hS hA hK (pm_Ul hP)) rfl rfl hl.1 rfl (lv_room (Nat.le_of_ble_eq_true rfl)) dL_strokes_240 ⟨Nat.le_of_ble_eq_true rfl, Nat.le_of_ble_eq_true rfl⟩) hP hD hj hA hS (fun r M2 H locs hq hP hD hj hS _ => ?_)
  rcases hq with ⟨q1, rfl, hT⟩ | ⟨q1, q2, rfl, hT⟩ | ⟨q1, q2, q3, rfl, hT⟩ | ⟨q1, q2, q3, rfl, hT⟩
  · exact absurd trivial q1
  · exact absurd trivial q2
  · exact absurd trivial q3
  · obtain ⟨fo, hfo⟩ := (TW.ou (N := N) hT).fst
    obtain ⟨ft, hft⟩ := (TW.tu (N := N) hT).fst
    refine lv_iload hx hb dL_strokes_243 (lv_at hl 0 rfl) ?_
    refine z_icmp_ne (u := ((cn 0 : Nat) : Int)) (v := ((g 3 : Nat) : Int)) (tgt := 252) hx hb (nI_toInt (by omega)) (nI_toInt (by omega)) dL_strokes_245 (by decide) (fun c_245 => ?_) (fun c_245 => ?_)
    · exfalso; omega
    · refine lv_iconst (v := (nI 1)) hx hb dL_strokes_248 (by decide) ?_
      refine lv_goto (tgt := 253) hx hb dL_strokes_249 (by decide) ?_
      exact kE _ _ _ H locs _ ls hP hD hS ⟨M2, N2, _, _, g1, rfl, hj, hN2_s, hT, P_lift hI hn, hJ.of ⟨by (try simp (disch := omega) only [va_up_ne, va_up_self]); omega, by (try simp (disch := omega) only [va_up_ne, va_up_self]); omega, by (try simp (disch := omega) only [va_up_ne, va_up_self]); omega, by (try simp (disch := omega) only [va_up_ne, va_up_self]); omega⟩ (fun j hj9 => by rw [hg1, va_up_ne _ _ (by omega)]) (by simp (disch := omega) only [va_up_ne, va_up_self, prX_ne]) (by simp (disch := omega) only [va_up_ne, va_up_self, prX_ne]) (by simp (disch := omega) only [va_up_ne, va_up_self, prX_ne]) (by simp (disch := omega) only [va_up_ne, va_up_self, prX_ne])⟩ dL_strokes_253 (Nat.le_of_ble_eq_true rfl) (Nat.le_of_ble_eq_true rfl)
set_option maxRecDepth 100000 in
set_option maxHeartbeats 4000000 in
theorem w_strokes_254 (C0 : LC p l s m args c cL_strokes 8 wsL_strokes A D cy de mi) (kE : LE p l e ({ frames := 11, cells := 60, slots := 560, locals := 290 } : Room) s m args below meth c cL_strokes A D 60 560 Q (LPo cy de o t d (nn + 1))) (hn : nn + 1 ≤ 512) (hW : LWd D cy de A s H locs M2 N o t d nn cn x g)  (hl : lv_has ls 8 [(0, .ref o), (1, .ref t), (2, .ref d), (3, .int xa), (4, .int za)]) : W p l e ({ frames := 11, cells := 60, slots := 560, locals := 290 } : Room) s m args below meth c H locs 0 0 Q (F0 m 254 ls []) := by
  obtain ⟨hx, hb, hml, hown, hts, hA, hK, hX, hN0, hst⟩ := id C0
  obtain ⟨⟨hP, hD, hS⟩, hj, hd, hT, hI, hJ⟩ := hW
  obtain ⟨⟨j0, j1, j2, j3⟩, jp, js⟩ := id hJ
  obtain ⟨n0, n1, n2, n3, n4, -⟩ := id hI.1
  obtain ⟨fo, hfo⟩ := (TW.ou (N := N) hT).fst
  obtain ⟨ft, hft⟩ := (TW.tu (N := N) hT).fst
  refine lv_aload_n hx hb dL_strokes_254 rfl (lv_at hl 0 rfl) ?_
  refine lv_aload_n hx hb dL_strokes_255 rfl (lv_at hl 1 rfl) ?_
  refine lv_iconst (v := (nI 2)) hx hb dL_strokes_256 (by decide) ?_
  refine lv_iconst (v := (nI 0)) hx hb dL_strokes_257 (by decide) ?_
  refine lv_iconst (v := (nI 0)) hx hb dL_strokes_258 (by decide) ?_
  refine lv_iconst (v := (nI 0)) hx hb dL_strokes_259 (by decide) ?_
  refine s_both (va_runS (As := [.ref o, .ref t, .int (nI 2), .int (nI 0), .int (nI 0), .int (nI 0)]) (rest := []) ⟨hx, hb, hml, hown, hts⟩ (b_letter l hst de mi D cy _ _ o t nn cn x hT hI.1 (nI 0) (nI 0) (nI 0)  ) (va_cwS 6 hts gL_strokes_L_both rfl rfl rfl (by decide +kernel) ⟨Nat.le_of_ble_eq_true rfl, Nat.le_of_ble_eq_true rfl⟩) (wPreS hX hN0 (mD_Ul hD) hS hA hK (pm_Ul hP)) rfl rfl hl.1 rfl (lv_room (Nat.le_of_ble_eq_true rfl)) dL_strokes_260 ⟨Nat.le_of_ble_eq_true rfl, Nat.le_of_ble_eq_true rfl⟩) hP hD hj hA hS (fun r M2 H locs hq hP hD hj hS _ => ?_)
  rcases hq with ⟨q1, rfl, hT⟩ | ⟨q1, q2, rfl, hT⟩ | ⟨q1, q2, q3, rfl, hT⟩ | ⟨q1, q2, q3, rfl, hT⟩
  · exact absurd trivial q1
  · exact absurd trivial q2
  · obtain ⟨fo, hfo⟩ := (TW.ou (N := N) hT).fst
    obtain ⟨ft, hft⟩ := (TW.tu (N := N) hT).fst
    refine lv_istore (lv' := [(6, .int (zI (-2000000003))), (0, .ref o), (1, .ref t), (2, .ref d), (3, .int xa), (4, .int za)]) hx hb dL_strokes_263 hl (by decide) rfl (fun ls hl => ?_)
    refine lv_iload hx hb dL_strokes_265 (lv_at hl 0 rfl) ?_
    refine lv_ldc (v := (zI (-2000000003))) hx hb hown (by rw [show (zI (-2000000003)) = (-2000000003 : Int32) by decide]; exact hts _ (List.mem_of_getElem? (i := 2) rfl)) dL_strokes_267 ?_
    refine z_icmp_ne (u := (-2000000003)) (v := (-2000000003)) (tgt := 274) hx hb (zI_toInt (by omega) (by omega)) (zI_toInt (by omega) (by omega)) dL_strokes_269 (by decide) (fun c_269 => ?_) (fun c_269 => ?_)
    · exfalso; omega
    · refine lv_iconst (v := (nI 1)) hx hb dL_strokes_272 (by decide) ?_
      exact kE _ _ _ H locs _ ls hP hD hS ⟨M2, N, _, _, g, rfl, hj, hd, hT, hI.mono hn, hJ.of ⟨by (try simp (disch := omega) only [va_up_ne, va_up_self]); omega, by (try simp (disch := omega) only [va_up_ne, va_up_self]); omega, by (try simp (disch := omega) only [va_up_ne, va_up_self]); omega, by (try simp (disch := omega) only [va_up_ne, va_up_self]); omega⟩ (fun j hj9 => rfl) rfl rfl rfl rfl⟩ dL_strokes_273 (Nat.le_of_ble_eq_true rfl) (Nat.le_of_ble_eq_true rfl)
  · obtain ⟨fo, hfo⟩ := (TW.ou (N := N) hT).fst
    obtain ⟨ft, hft⟩ := (TW.tu (N := N) hT).fst
    obtain ⟨cn1, hcn1⟩ : ∃ cn1 : Nat → Nat, cn1 = va_up (va_up cn 1 (cn 1 + 1)) 0 0 := ⟨_, rfl⟩
    obtain ⟨x1, hx1⟩ : ∃ x1 : Nat → Nat → Nat, x1 = va_up (va_up x 6 (va_up (x 6) (cn 1) (cn 0))) (400 + cn 1) (cpA (fun _ => 0) 0 (x 2) (cn 0)) := ⟨_, rfl⟩
    have hI1 : CI (nn + 1) cn1 x1 := by rw [hcn1, hx1]; exact P_letter hI hn q3
    rw [← hcn1, ← hx1] at hT
    have i0 : cn1 0 = 0 := by rw [hcn1]; simp (disch := omega) only [va_up_ne, va_up_self]
    have i1 : cn1 1 = cn 1 + 1 := by rw [hcn1]; simp (disch := omega) only [va_up_ne, va_up_self]
    have i2 : cn1 2 = cn 2 := by rw [hcn1]; simp (disch := omega) only [va_up_ne, va_up_self]
    have i3 : cn1 3 = cn 3 := by rw [hcn1]; simp (disch := omega) only [va_up_ne, va_up_self]
    have so1 : soV x1 (cn 1) (cn 0 - 1) ≠ -1 := by rw [hx1, so_new, if_pos (by omega)]; omega
    have so2 : soV x1 (cn 1) (cn 0) = -1 := by rw [hx1, so_new, if_neg (by omega)]
    have so3 := so_bd hI1 (cn 1) (cn 0 - 1) (by omega)
    refine lv_istore (lv' := [(6, .int (nI (cn 1))), (0, .ref o), (1, .ref t), (2, .ref d), (3, .int xa), (4, .int za)]) hx hb dL_strokes_263 hl (by decide) rfl (fun ls hl => ?_)
    refine lv_iload hx hb dL_strokes_265 (lv_at hl 0 rfl) ?_
    refine lv_ldc (v := (zI (-2000000003))) hx hb hown (by rw [show (zI (-2000000003)) = (-2000000003 : Int32) by decide]; exact hts _ (List.mem_of_getElem? (i := 2) rfl)) dL_strokes_267 ?_
    refine z_icmp_ne (u := ((cn 1 : Nat) : Int)) (v := (-2000000003)) (tgt := 274) hx hb (nI_toInt (by omega)) (zI_toInt (by omega) (by omega)) dL_strokes_269 (by decide) (fun c_269 => ?_) (fun c_269 => ?_)
    · refine lv_aload_n hx hb dL_strokes_274 rfl (lv_at hl 3 rfl) ?_
      refine lv_iconst (v := (nI 3)) hx hb dL_strokes_275 (by decide) ?_
      refine n_iald (g := g) (n := 64) (i := 3) hx hb hK hP (iwU_r2 hj hd) (by omega) (by decide) dL_strokes_276 ?_
      refine lv_istore (lv' := [(7, .int (nI (g 3))), (6, .int (nI (cn 1))), (0, .ref o), (1, .ref t), (2, .ref d), (3, .int xa), (4, .int za)]) hx hb dL_strokes_277 hl (by decide) rfl (fun ls hl => ?_)
      refine lv_aload_n hx hb dL_strokes_279 rfl (lv_at hl 4 rfl) ?_
      refine lv_iconst (v := (nI 3)) hx hb dL_strokes_280 (by decide) ?_
      refine lv_iconst (v := (nI 0)) hx hb dL_strokes_281 (by decide) ?_
      refine s_iast (g := g) (n := 64) (i := 3) (v := 0) hx hb hK hP hD hj hS hd (by omega) (by decide) dL_strokes_282 (fun H locs hP hD hj hS => ?_)
      obtain ⟨g1, hg1⟩ : ∃ g1 : Nat → Nat, g1 = va_up g 3 0 := ⟨_, rfl⟩
      have hg1_s : g1 3 = 0 := by rw [hg1, va_up_self]
      have hg1_0 : g1 0 = g 0 := by rw [hg1, va_up_ne _ _ (by decide)]
      have hg1_1 : g1 1 = g 1 := by rw [hg1, va_up_ne _ _ (by decide)]
      have hg1_2 : g1 2 = g 2 := by rw [hg1, va_up_ne _ _ (by decide)]
      rw [← hg1] at hP hD hj
      obtain ⟨N2, hN2⟩ : ∃ N2 : mM, N2 = mset N d (eI cy 64 g1) := ⟨_, rfl⟩
      have hN2_s : N2 d = some (eI cy 64 g1) := by rw [hN2, mset_self]
      rw [← hN2] at hP hD hj
      obtain ⟨fo, hfo⟩ := (TW.ou (N := N2) hT).fst
      obtain ⟨ft, hft⟩ := (TW.tu (N := N2) hT).fst
      refine lv_aload_n hx hb dL_strokes_283 rfl (lv_at hl 4 rfl) ?_
      refine lv_iconst (v := (nI 0)) hx hb dL_strokes_284 (by decide) ?_
      refine lv_dup2_11 hx hb dL_strokes_285 rfl rfl ?_
      refine n_iald (g := g1) (n := 64) (i := 0) hx hb hK hP (iwU_r2 hj hN2_s) (by omega) (by decide) dL_strokes_286 ?_
      refine lv_iconst (v := (nI 1)) hx hb dL_strokes_287 (by decide) ?_
      refine n_add (x := g1 0) (y := 1) hx hb dL_strokes_288 ?_
      refine s_iast (g := g1) (n := 64) (i := 0) (v := (g1 0) + 1) hx hb hK hP hD hj hS hN2_s (by omega) (by decide) dL_strokes_289 (fun H locs hP hD hj hS => ?_)
      obtain ⟨g3, hg3⟩ : ∃ g3 : Nat → Nat, g3 = va_up g1 0 ((g1 0) + 1) := ⟨_, rfl⟩
      have hg3_s : g3 0 = (g1 0) + 1 := by rw [hg3, va_up_self]
      have hg3_1 : g3 1 = g1 1 := by rw [hg3, va_up_ne _ _ (by decide)]
      have hg3_2 : g3 2 = g1 2 := by rw [hg3, va_up_ne _ _ (by decide)]
      have hg3_3 : g3 3 = g1 3 := by rw [hg3, va_up_ne _ _ (by decide)]
      rw [← hg3] at hP hD hj
      obtain ⟨N4, hN4⟩ : ∃ N4 : mM, N4 = mset N2 d (eI cy 64 g3) := ⟨_, rfl⟩
      have hN4_s : N4 d = some (eI cy 64 g3) := by rw [hN4, mset_self]
      rw [← hN4] at hP hD hj
      obtain ⟨fo, hfo⟩ := (TW.ou (N := N4) hT).fst
      obtain ⟨ft, hft⟩ := (TW.tu (N := N4) hT).fst
      refine lv_iload hx hb dL_strokes_290 (lv_at hl 1 rfl) ?_
      refine lv_aload_n hx hb dL_strokes_292 rfl (lv_at hl 4 rfl) ?_
      refine lv_iconst (v := (nI 0)) hx hb dL_strokes_293 (by decide) ?_
      refine n_iald (g := g3) (n := 64) (i := 0) hx hb hK hP (iwU_r2 hj hN4_s) (by omega) (by decide) dL_strokes_294 ?_
      refine lv_iconst (v := (nI 1)) hx hb dL_strokes_295 (by decide) ?_
      refine z_sub (u := ((g3 0 : Nat) : Int)) (v := ((1 : Nat) : Int)) hx hb (nI_zI _) (nI_zI _) dL_strokes_296 ?_
      refine z_icmp_ne (u := ((cn 1 : Nat) : Int)) (v := (((g3 0 : Nat) : Int) - ((1 : Nat) : Int))) (tgt := 368) hx hb (nI_toInt (by omega)) (zI_toInt (by omega) (by omega)) dL_strokes_297 (by decide) (fun c_297 => ?_) (fun c_297 => ?_)
      · exfalso; omega
      · refine lv_iload hx hb dL_strokes_300 (lv_at hl 0 rfl) ?_
        refine z_if_le (u := ((g 3 : Nat) : Int)) (tgt := 368) hx hb (nI_toInt (by omega)) dL_strokes_302 (by decide) (fun c_302 => ?_) (fun c_302 => ?_)
        · exfalso; omega
        · refine lv_iload hx hb dL_strokes_305 (lv_at hl 0 rfl) ?_
          refine lv_bipush (v := (nI 7)) hx hb dL_strokes_307 (by decide) ?_
          refine z_icmp_ge (u := ((g 3 : Nat) : Int)) (v := ((7 : Nat) : Int)) (tgt := 368) hx hb (nI_toInt (by omega)) (nI_toInt (by omega)) dL_strokes_309 (by decide) (fun c_309 => ?_) (fun c_309 => ?_)
          · exfalso; omega
          · refine lv_aload_n hx hb dL_strokes_312 rfl (lv_at hl 2 rfl) ?_
            refine lv_iload hx hb dL_strokes_313 (lv_at hl 1 rfl) ?_
            refine lv_iload hx hb dL_strokes_315 (lv_at hl 0 rfl) ?_
            refine lv_iconst (v := (nI 1)) hx hb dL_strokes_317 (by decide) ?_
            refine n_sub (x := g 3) (y := 1) hx hb (by omega) dL_strokes_318 ?_
            refine r_call (v := (zI (soV x1 (cn 1) ((g 3) - 1)))) (vx_runV (C := RX5) (As := [.int (nI (cn 1)), .int (nI ((g 3) - 1))]) (rest := []) ⟨hx, hb, hml, hown, hts⟩ (q_strokeOf l hst de mi D cy _ _ o (nn + 1) cn1 x1 (TW.ou hT) hI1.1 (cn 1) (g 3 - 1) (by omega) (by omega) (by omega)) (cwV 2 hts gL_strokes_X5_strokeOf rfl rfl rfl (by decide +kernel) ⟨Nat.le_of_ble_eq_true rfl, Nat.le_of_ble_eq_true rfl⟩) (mPreXV hX hD hS hA hK hP hfo (ci := 6) rfl) rfl rfl hl.1 rfl (lv_room (Nat.le_of_ble_eq_true rfl)) dL_strokes_319 ⟨Nat.le_of_ble_eq_true rfl, Nat.le_of_ble_eq_true rfl⟩) hD hA hS (fun H locs hP hS _ => ?_)
            have e319 : soV x1 (cn 1) (g 3 - 1) = soV x1 (cn 1) (cn 0 - 1) := by rw [j3]
            refine lv_iconst (v := (zI (-1))) hx hb dL_strokes_322 (by decide) ?_
            refine z_icmp_eq (u := (soV x1 (cn 1) ((g 3) - 1))) (v := (-1)) (tgt := 368) hx hb (zI_toInt (by omega) (by omega)) (zI_toInt (by omega) (by omega)) dL_strokes_323 (by decide) (fun c_323 => ?_) (fun c_323 => ?_)
            · exfalso; omega
            · refine lv_aload_n hx hb dL_strokes_326 rfl (lv_at hl 2 rfl) ?_
              refine lv_iload hx hb dL_strokes_327 (lv_at hl 1 rfl) ?_
              refine lv_iload hx hb dL_strokes_329 (lv_at hl 0 rfl) ?_
              refine r_call (v := (zI (soV x1 (cn 1) (g 3)))) (vx_runV (C := RX5) (As := [.int (nI (cn 1)), .int (nI (g 3))]) (rest := []) ⟨hx, hb, hml, hown, hts⟩ (q_strokeOf l hst de mi D cy _ _ o (nn + 1) cn1 x1 (TW.ou hT) hI1.1 (cn 1) (g 3) (by omega) (by omega) (by omega)) (cwV 2 hts gL_strokes_X5_strokeOf rfl rfl rfl (by decide +kernel) ⟨Nat.le_of_ble_eq_true rfl, Nat.le_of_ble_eq_true rfl⟩) (mPreXV hX hD hS hA hK hP hfo (ci := 6) rfl) rfl rfl hl.1 rfl (lv_room (Nat.le_of_ble_eq_true rfl)) dL_strokes_331 ⟨Nat.le_of_ble_eq_true rfl, Nat.le_of_ble_eq_true rfl⟩) hD hA hS (fun H locs hP hS _ => ?_)
              have e331 : soV x1 (cn 1) (g 3) = soV x1 (cn 1) (cn 0) := by rw [j3]
              refine lv_iconst (v := (zI (-1))) hx hb dL_strokes_334 (by decide) ?_
              refine z_icmp_ne (u := (soV x1 (cn 1) (g 3))) (v := (-1)) (tgt := 368) hx hb (zI_toInt (by omega) (by omega)) (zI_toInt (by omega) (by omega)) dL_strokes_335 (by decide) (fun c_335 => ?_) (fun c_335 => ?_)
              · exfalso; omega
              · refine lv_aload_n hx hb dL_strokes_338 rfl (lv_at hl 2 rfl) ?_
                refine lv_iconst (v := (nI 2)) hx hb dL_strokes_339 (by decide) ?_
                refine lv_iconst (v := (nI 0)) hx hb dL_strokes_340 (by decide) ?_
                refine lv_iconst (v := (nI 0)) hx hb dL_strokes_341 (by decide) ?_
                refine lv_iconst (v := (nI 0)) hx hb dL_strokes_342 (by decide) ?_
                refine t_call (v := (zI (-2000000003))) (vx_runSX (As := [.ref o, .int (nI 2), .int (nI 0), .int (nI 0), .int (nI 0)]) (rest := []) ⟨hx, hb, hml, hown, hts⟩ (t_letter l hst de mi D cy _ _ o (nn + 1) cn1 x1 (TW.ou hT) hI1.1 (nI 0) (nI 0) (nI 0)) (vx_cwSW 5 hts gL_strokes_L_call rfl rfl rfl (by decide +kernel) ⟨Nat.le_of_ble_eq_true rfl, Nat.le_of_ble_eq_true rfl⟩) (wPreS hX hN0 hD hS hA hK hP) rfl rfl hl.1 rfl (lv_room (Nat.le_of_ble_eq_true rfl)) dL_strokes_343 ⟨Nat.le_of_ble_eq_true rfl, Nat.le_of_ble_eq_true rfl⟩) (fun r M' h => k_S h (fun r M' h => h.1.2.2) trivial trivial (fun z => absurd z.1.1 (by omega))) hD hA hS (fun H locs hP hS _ => ?_)
                refine lv_ldc (v := (zI (-2000000003))) hx hb hown (by rw [show (zI (-2000000003)) = (-2000000003 : Int32) by decide]; exact hts _ (List.mem_of_getElem? (i := 2) rfl)) dL_strokes_346 ?_
                refine z_icmp_ne (u := (-2000000003)) (v := (-2000000003)) (tgt := 368) hx hb (zI_toInt (by omega) (by omega)) (zI_toInt (by omega) (by omega)) dL_strokes_348 (by decide) (fun c_348 => ?_) (fun c_348 => ?_)
                · exfalso; omega
                · refine lv_aload_n hx hb dL_strokes_351 rfl (lv_at hl 3 rfl) ?_
                  refine lv_iconst (v := (nI 2)) hx hb dL_strokes_352 (by decide) ?_
                  refine lv_iconst (v := (nI 0)) hx hb dL_strokes_353 (by decide) ?_
                  refine lv_iconst (v := (nI 0)) hx hb dL_strokes_354 (by decide) ?_
                  refine lv_iconst (v := (nI 0)) hx hb dL_strokes_355 (by decide) ?_
                  refine t_call (v := (zI (-2000000003))) (vx_runSX (As := [.ref t, .int (nI 2), .int (nI 0), .int (nI 0), .int (nI 0)]) (rest := []) ⟨hx, hb, hml, hown, hts⟩ (t_letter l hst de mi D cy _ _ t (nn + 1) cn1 x1 (TW.tu hT) hI1.1 (nI 0) (nI 0) (nI 0)) (vx_cwSW 5 hts gL_strokes_L_call rfl rfl rfl (by decide +kernel) ⟨Nat.le_of_ble_eq_true rfl, Nat.le_of_ble_eq_true rfl⟩) (wPreS hX hN0 hD hS hA hK hP) rfl rfl hl.1 rfl (lv_room (Nat.le_of_ble_eq_true rfl)) dL_strokes_356 ⟨Nat.le_of_ble_eq_true rfl, Nat.le_of_ble_eq_true rfl⟩) (fun r M' h => k_S h (fun r M' h => h.1.2.2) trivial trivial (fun z => absurd z.1.1 (by omega))) hD hA hS (fun H locs hP hS _ => ?_)
                  refine lv_ldc (v := (zI (-2000000003))) hx hb hown (by rw [show (zI (-2000000003)) = (-2000000003 : Int32) by decide]; exact hts _ (List.mem_of_getElem? (i := 2) rfl)) dL_strokes_359 ?_
                  refine z_icmp_ne (u := (-2000000003)) (v := (-2000000003)) (tgt := 368) hx hb (zI_toInt (by omega) (by omega)) (zI_toInt (by omega) (by omega)) dL_strokes_361 (by decide) (fun c_361 => ?_) (fun c_361 => ?_)
                  · exfalso; omega
                  · refine lv_iconst (v := (nI 1)) hx hb dL_strokes_364 (by decide) ?_
                    refine lv_goto (tgt := 369) hx hb dL_strokes_365 (by decide) ?_
                    exact kE _ _ _ H locs _ ls hP hD hS ⟨M2, N4, _, _, g3, rfl, hj, hN4_s, hT, hI1, hJ.of ⟨by omega, by omega, by omega, by omega⟩ (fun j hj9 => by rw [hg3, va_up_ne _ _ (by omega), hg1, va_up_ne _ _ (by omega)]) (by omega) (by omega) (by rw [hx1]; simp (disch := omega) only [va_up_ne, va_up_self, prX_ne]) (by rw [hx1]; simp (disch := omega) only [va_up_ne, va_up_self, prX_ne])⟩ dL_strokes_369 (Nat.le_of_ble_eq_true rfl) (Nat.le_of_ble_eq_true rfl)
    · exfalso; omega
set_option maxRecDepth 100000 in
set_option maxHeartbeats 4000000 in
theorem w_strokes (C0 : LC p l s m args c cL_strokes 8 wsL_strokes A D cy de mi) (kE : LE p l e ({ frames := 11, cells := 60, slots := 560, locals := 290 } : Room) s m args below meth c cL_strokes A D 60 560 Q (LPo cy de o t d (nn + 1))) (hn : nn + 1 ≤ 512) (hW : LWd D cy de A s H locs M2 N o t d nn cn x g)  (hl : lv_has ls 8 [(0, .ref o), (1, .ref t), (2, .ref d), (3, .int xa), (4, .int za)]) : W p l e ({ frames := 11, cells := 60, slots := 560, locals := 290 } : Room) s m args below meth c H locs 0 0 Q (F0 m 0 ls []) := by
  obtain ⟨hx, hb, hml, hown, hts, hA, hK, hX, hN0, hst⟩ := id C0
  obtain ⟨⟨hP, hD, hS⟩, hj, hd, hT, hI, hJ⟩ := hW
  obtain ⟨⟨j0, j1, j2, j3⟩, jp, js⟩ := id hJ
  obtain ⟨n0, n1, n2, n3, n4, -⟩ := id hI.1
  obtain ⟨fo, hfo⟩ := (TW.ou (N := N) hT).fst
  obtain ⟨ft, hft⟩ := (TW.tu (N := N) hT).fst
  refine lv_iload_n hx hb dL_strokes_0 rfl (lv_at hl 3 rfl) ?_
  refine lv_bipush (v := (nI 9)) hx hb dL_strokes_1 (by decide) ?_
  refine vp_callSi (W.runS (As := [.int xa, .int (nI 9)]) (rest := []) ⟨hx, hb, hml, hown, hts⟩ (c_L_some l xa 9 (by omega) (by omega)) (va_cwS 2 hts gL_strokes_L_some rfl rfl rfl (by decide +kernel) ⟨Nat.le_of_ble_eq_true rfl, Nat.le_of_ble_eq_true rfl⟩) mPre0 rfl rfl hl.1 rfl (lv_room (Nat.le_of_ble_eq_true rfl)) dL_strokes_3 ⟨Nat.le_of_ble_eq_true rfl, Nat.le_of_ble_eq_true rfl⟩) (fun r9 hr9 => ?_)
  have hr9 : r9 = nI (someF xa 9) := hr9
  subst hr9
  have hs_sm1 := someF_lt xa (n := 9) (by omega)
  obtain ⟨sm1, e_sm1⟩ : ∃ sm1 : Nat, sm1 = someF xa 9 := ⟨_, rfl⟩
  rw [← e_sm1] at hs_sm1 ⊢
  refine lv_istore (lv' := [(5, .int (nI sm1)), (0, .ref o), (1, .ref t), (2, .ref d), (3, .int xa), (4, .int za)]) hx hb dL_strokes_6 hl (by decide) rfl (fun ls hl => ?_)
  refine lv_iload hx hb dL_strokes_8 (lv_at hl 0 rfl) ?_
  refine lv_bipush (v := (nI 6)) hx hb dL_strokes_10 (by decide) ?_
  refine z_icmp_ge (u := ((sm1 : Nat) : Int)) (v := ((6 : Nat) : Int)) (tgt := 218) hx hb (nI_toInt (by omega)) (nI_toInt (by omega)) dL_strokes_12 (by decide) (fun c_12 => ?_) (fun c_12 => ?_)
  · refine lv_iload hx hb dL_strokes_218 (lv_at hl 0 rfl) ?_
    refine lv_bipush (v := (nI 7)) hx hb dL_strokes_220 (by decide) ?_
    refine z_icmp_ge (u := ((sm1 : Nat) : Int)) (v := ((7 : Nat) : Int)) (tgt := 254) hx hb (nI_toInt (by omega)) (nI_toInt (by omega)) dL_strokes_222 (by decide) (fun c_222 => ?_) (fun c_222 => ?_)
    · exact w_strokes_254 C0 kE hn ⟨⟨hP, hD, hS⟩, hj, hd, hT, hI, hJ⟩  (lv_sub hl [1, 2, 3, 4, 5] rfl)
    · exact w_strokes_225 C0 kE hn ⟨⟨hP, hD, hS⟩, hj, hd, hT, hI, hJ⟩  (lv_sub hl [1, 2, 3, 4, 5] rfl)
  · refine lv_aload_n hx hb dL_strokes_15 rfl (lv_at hl 3 rfl) ?_
    refine lv_iconst (v := (nI 0)) hx hb dL_strokes_16 (by decide) ?_
    refine n_iald (g := g) (n := 64) (i := 0) hx hb hK hP (iwU_r2 hj hd) (by omega) (by decide) dL_strokes_17 ?_
    refine z_if_eq (u := ((g 0 : Nat) : Int)) (tgt := 31) hx hb (nI_toInt (by omega)) dL_strokes_18 (by decide) (fun c_18 => ?_) (fun c_18 => ?_)
    · refine lv_bipush (v := (nI 10)) hx hb dL_strokes_31 (by decide) ?_
      refine lv_iload hx hb dL_strokes_33 (lv_at hl 5 rfl) ?_
      refine lv_bipush (v := (nI 9)) hx hb dL_strokes_35 (by decide) ?_
      refine vp_callSi (W.runS (As := [.int za, .int (nI 9)]) (rest := [.int (nI 10)]) ⟨hx, hb, hml, hown, hts⟩ (c_L_some l za 9 (by omega) (by omega)) (va_cwS 2 hts gL_strokes_L_some rfl rfl rfl (by decide +kernel) ⟨Nat.le_of_ble_eq_true rfl, Nat.le_of_ble_eq_true rfl⟩) mPre0 rfl rfl hl.1 rfl (lv_room (Nat.le_of_ble_eq_true rfl)) dL_strokes_37 ⟨Nat.le_of_ble_eq_true rfl, Nat.le_of_ble_eq_true rfl⟩) (fun r9 hr9 => ?_)
      have hr9 : r9 = nI (someF za 9) := hr9
      subst hr9
      have hs_sm2 := someF_lt za (n := 9) (by omega)
      obtain ⟨sm2, e_sm2⟩ : ∃ sm2 : Nat, sm2 = someF za 9 := ⟨_, rfl⟩
      rw [← e_sm2] at hs_sm2 ⊢
      refine n_mul (x := 10) (y := sm2) hx hb dL_strokes_40 ?_
      refine lv_iload hx hb dL_strokes_41 (lv_at hl 5 rfl) ?_
      refine lv_iconst (v := (nI 4)) hx hb dL_strokes_43 (by decide) ?_
      refine lv_ishr hx hb dL_strokes_44 ?_
      refine lv_bipush (v := (nI 9)) hx hb dL_strokes_45 (by decide) ?_
      refine vp_callSi (W.runS (As := [.int (za >>> ((nI 4) &&& 31)), .int (nI 9)]) (rest := [.int (nI (10 * sm2))]) ⟨hx, hb, hml, hown, hts⟩ (c_L_some l (za >>> ((nI 4) &&& 31)) 9 (by omega) (by omega)) (va_cwS 2 hts gL_strokes_L_some rfl rfl rfl (by decide +kernel) ⟨Nat.le_of_ble_eq_true rfl, Nat.le_of_ble_eq_true rfl⟩) mPre0 rfl rfl hl.1 rfl (lv_room (Nat.le_of_ble_eq_true rfl)) dL_strokes_47 ⟨Nat.le_of_ble_eq_true rfl, Nat.le_of_ble_eq_true rfl⟩) (fun r9 hr9 => ?_)
      have hr9 : r9 = nI (someF (za >>> ((nI 4) &&& 31)) 9) := hr9
      subst hr9
      have hs_sm3 := someF_lt (za >>> ((nI 4) &&& 31)) (n := 9) (by omega)
      obtain ⟨sm3, e_sm3⟩ : ∃ sm3 : Nat, sm3 = someF (za >>> ((nI 4) &&& 31)) 9 := ⟨_, rfl⟩
      rw [← e_sm3] at hs_sm3 ⊢
      refine n_add (x := 10 * sm2) (y := sm3) hx hb dL_strokes_50 ?_
      refine lv_goto (tgt := 74) hx hb dL_strokes_51 (by decide) ?_
      refine W.widen (k := 4) (n := 24) (Nat.le_of_ble_eq_true rfl) (Nat.le_of_ble_eq_true rfl) ?_
      exact w_strokes_74 C0 kE hn ⟨⟨hP, hD, hS⟩, hj, hd, hT, hI, hJ⟩ ((10 * sm2) + sm3) (by omega) (by omega) (lv_sub hl [1, 2, 3, 4, 5] rfl)
    · refine lv_iload_n hx hb dL_strokes_21 rfl (lv_at hl 4 rfl) ?_
      refine lv_iconst (v := (nI 4)) hx hb dL_strokes_22 (by decide) ?_
      refine lv_ishr hx hb dL_strokes_23 ?_
      refine lv_iconst (v := (nI 5)) hx hb dL_strokes_24 (by decide) ?_
      refine vp_callSi (W.runS (As := [.int (xa >>> ((nI 4) &&& 31)), .int (nI 5)]) (rest := []) ⟨hx, hb, hml, hown, hts⟩ (c_L_some l (xa >>> ((nI 4) &&& 31)) 5 (by omega) (by omega)) (va_cwS 2 hts gL_strokes_L_some rfl rfl rfl (by decide +kernel) ⟨Nat.le_of_ble_eq_true rfl, Nat.le_of_ble_eq_true rfl⟩) mPre0 rfl rfl hl.1 rfl (lv_room (Nat.le_of_ble_eq_true rfl)) dL_strokes_25 ⟨Nat.le_of_ble_eq_true rfl, Nat.le_of_ble_eq_true rfl⟩) (fun r9 hr9 => ?_)
      have hr9 : r9 = nI (someF (xa >>> ((nI 4) &&& 31)) 5) := hr9
      subst hr9
      have hs_sm4 := someF_lt (xa >>> ((nI 4) &&& 31)) (n := 5) (by omega)
      obtain ⟨sm4, e_sm4⟩ : ∃ sm4 : Nat, sm4 = someF (xa >>> ((nI 4) &&& 31)) 5 := ⟨_, rfl⟩
      rw [← e_sm4] at hs_sm4 ⊢
      refine z_if_ne (u := ((sm4 : Nat) : Int)) (tgt := 54) hx hb (nI_toInt (by omega)) dL_strokes_28 (by decide) (fun c_28 => ?_) (fun c_28 => ?_)
      · refine lv_aload_n hx hb dL_strokes_54 rfl (lv_at hl 1 rfl) ?_
        refine lv_iload hx hb dL_strokes_55 (lv_at hl 5 rfl) ?_
        refine lv_aload_n hx hb dL_strokes_57 rfl (lv_at hl 3 rfl) ?_
        refine lv_iconst (v := (nI 0)) hx hb dL_strokes_58 (by decide) ?_
        refine n_iald (g := g) (n := 64) (i := 0) hx hb hK hP (iwU_r2 hj hd) (by omega) (by decide) dL_strokes_59 ?_
        refine vp_callSi (W.runS (As := [.int za, .int (nI (g 0))]) (rest := [.ref o]) ⟨hx, hb, hml, hown, hts⟩ (c_L_some l za (g 0) (by omega) (by omega)) (va_cwS 2 hts gL_strokes_L_some rfl rfl rfl (by decide +kernel) ⟨Nat.le_of_ble_eq_true rfl, Nat.le_of_ble_eq_true rfl⟩) mPre0 rfl rfl hl.1 rfl (lv_room (Nat.le_of_ble_eq_true rfl)) dL_strokes_60 ⟨Nat.le_of_ble_eq_true rfl, Nat.le_of_ble_eq_true rfl⟩) (fun r9 hr9 => ?_)
        have hr9 : r9 = nI (someF za (g 0)) := hr9
        subst hr9
        have hs_sm5 := someF_lt za (n := g 0) (by omega)
        obtain ⟨sm5, e_sm5⟩ : ∃ sm5 : Nat, sm5 = someF za (g 0) := ⟨_, rfl⟩
        rw [← e_sm5] at hs_sm5 ⊢
        refine lv_iload hx hb dL_strokes_63 (lv_at hl 5 rfl) ?_
        refine lv_iconst (v := (nI 3)) hx hb dL_strokes_65 (by decide) ?_
        refine lv_ishr hx hb dL_strokes_66 ?_
        refine lv_iconst (v := (nI 4)) hx hb dL_strokes_67 (by decide) ?_
        refine vp_callSi (W.runS (As := [.int (za >>> ((nI 3) &&& 31)), .int (nI 4)]) (rest := [.int (nI sm5), .ref o]) ⟨hx, hb, hml, hown, hts⟩ (c_L_some l (za >>> ((nI 3) &&& 31)) 4 (by omega) (by omega)) (va_cwS 2 hts gL_strokes_L_some rfl rfl rfl (by decide +kernel) ⟨Nat.le_of_ble_eq_true rfl, Nat.le_of_ble_eq_true rfl⟩) mPre0 rfl rfl hl.1 rfl (lv_room (Nat.le_of_ble_eq_true rfl)) dL_strokes_68 ⟨Nat.le_of_ble_eq_true rfl, Nat.le_of_ble_eq_true rfl⟩) (fun r9 hr9 => ?_)
        have hr9 : r9 = nI (someF (za >>> ((nI 3) &&& 31)) 4) := hr9
        subst hr9
        have hs_sm6 := someF_lt (za >>> ((nI 3) &&& 31)) (n := 4) (by omega)
        obtain ⟨sm6, e_sm6⟩ : ∃ sm6 : Nat, sm6 = someF (za >>> ((nI 3) &&& 31)) 4 := ⟨_, rfl⟩
        rw [← e_sm6] at hs_sm6 ⊢
        refine r_call (v := (zI (soV x sm5 sm6))) (vx_runV (C := RX5) (As := [.int (nI sm5), .int (nI sm6)]) (rest := []) ⟨hx, hb, hml, hown, hts⟩ (q_strokeOf l hst de mi D cy _ _ o nn cn x (TW.ou hT) hI.1 sm5 sm6 (by omega) (by omega) (by omega)) (cwV 2 hts gL_strokes_X5_strokeOf rfl rfl rfl (by decide +kernel) ⟨Nat.le_of_ble_eq_true rfl, Nat.le_of_ble_eq_true rfl⟩) (mPreXV hX hD hS hA hK hP hfo (ci := 6) rfl) rfl rfl hl.1 rfl (lv_room (Nat.le_of_ble_eq_true rfl)) dL_strokes_71 ⟨Nat.le_of_ble_eq_true rfl, Nat.le_of_ble_eq_true rfl⟩) hD hA hS (fun H locs hP hS _ => ?_)
        rcases so_dig (hI.2.2.1 sm5 (by omega)) sm6 with h74 | ⟨k, h74, h75, h76⟩
        · rw [h74]
          exact w_strokes_74n C0 kE hn ⟨⟨hP, hD, hS⟩, hj, hd, hT, hI, hJ⟩  (lv_sub hl [1, 2, 3, 4, 5] rfl)
        · rw [h74, ← nI_zI]
          exact w_strokes_74 C0 kE hn ⟨⟨hP, hD, hS⟩, hj, hd, hT, hI, hJ⟩ k h75 h76 (lv_sub hl [1, 2, 3, 4, 5] rfl)
      · refine lv_bipush (v := (nI 10)) hx hb dL_strokes_31 (by decide) ?_
        refine lv_iload hx hb dL_strokes_33 (lv_at hl 5 rfl) ?_
        refine lv_bipush (v := (nI 9)) hx hb dL_strokes_35 (by decide) ?_
        refine vp_callSi (W.runS (As := [.int za, .int (nI 9)]) (rest := [.int (nI 10)]) ⟨hx, hb, hml, hown, hts⟩ (c_L_some l za 9 (by omega) (by omega)) (va_cwS 2 hts gL_strokes_L_some rfl rfl rfl (by decide +kernel) ⟨Nat.le_of_ble_eq_true rfl, Nat.le_of_ble_eq_true rfl⟩) mPre0 rfl rfl hl.1 rfl (lv_room (Nat.le_of_ble_eq_true rfl)) dL_strokes_37 ⟨Nat.le_of_ble_eq_true rfl, Nat.le_of_ble_eq_true rfl⟩) (fun r9 hr9 => ?_)
        have hr9 : r9 = nI (someF za 9) := hr9
        subst hr9
        have hs_sm7 := someF_lt za (n := 9) (by omega)
        obtain ⟨sm7, e_sm7⟩ : ∃ sm7 : Nat, sm7 = someF za 9 := ⟨_, rfl⟩
        rw [← e_sm7] at hs_sm7 ⊢
        refine n_mul (x := 10) (y := sm7) hx hb dL_strokes_40 ?_
        refine lv_iload hx hb dL_strokes_41 (lv_at hl 5 rfl) ?_
        refine lv_iconst (v := (nI 4)) hx hb dL_strokes_43 (by decide) ?_
        refine lv_ishr hx hb dL_strokes_44 ?_
        refine lv_bipush (v := (nI 9)) hx hb dL_strokes_45 (by decide) ?_
        refine vp_callSi (W.runS (As := [.int (za >>> ((nI 4) &&& 31)), .int (nI 9)]) (rest := [.int (nI (10 * sm7))]) ⟨hx, hb, hml, hown, hts⟩ (c_L_some l (za >>> ((nI 4) &&& 31)) 9 (by omega) (by omega)) (va_cwS 2 hts gL_strokes_L_some rfl rfl rfl (by decide +kernel) ⟨Nat.le_of_ble_eq_true rfl, Nat.le_of_ble_eq_true rfl⟩) mPre0 rfl rfl hl.1 rfl (lv_room (Nat.le_of_ble_eq_true rfl)) dL_strokes_47 ⟨Nat.le_of_ble_eq_true rfl, Nat.le_of_ble_eq_true rfl⟩) (fun r9 hr9 => ?_)
        have hr9 : r9 = nI (someF (za >>> ((nI 4) &&& 31)) 9) := hr9
        subst hr9
        have hs_sm8 := someF_lt (za >>> ((nI 4) &&& 31)) (n := 9) (by omega)
        obtain ⟨sm8, e_sm8⟩ : ∃ sm8 : Nat, sm8 = someF (za >>> ((nI 4) &&& 31)) 9 := ⟨_, rfl⟩
        rw [← e_sm8] at hs_sm8 ⊢
        refine n_add (x := 10 * sm7) (y := sm8) hx hb dL_strokes_50 ?_
        refine lv_goto (tgt := 74) hx hb dL_strokes_51 (by decide) ?_
        refine W.widen (k := 4) (n := 24) (Nat.le_of_ble_eq_true rfl) (Nat.le_of_ble_eq_true rfl) ?_
        exact w_strokes_74 C0 kE hn ⟨⟨hP, hD, hS⟩, hj, hd, hT, hI, hJ⟩ ((10 * sm7) + sm8) (by omega) (by omega) (lv_sub hl [1, 2, 3, 4, 5] rfl)
end LST
set_option maxRecDepth 100000 in
set_option maxHeartbeats 4000000 in
theorem c_L_strokes (l : Launch) (hst : l.stackTraces = false) (de mi : Nat) (D : va_G) (cy : Nat → ClassId) (M2 N : mM) (sz o t d nn : Nat) (cn : Nat → Nat) (x : Nat → Nat → Nat) (g : Nat → Nat) (xa za : Int32) (hn : nn + 1 ≤ 512) (hj : dj M2 N) (hd : N d = some (eI cy 64 g)) (hT : TW cy de M2 o t cn x) (hI : CI nn cn x) (hJ : DI cn x g) : lMi l yL_strokes wsL_strokes ({ frames := 11, cells := 60, slots := 560, locals := 290 } : Room) de mi D cy (iwU M2 N) sz [.ref o, .ref t, .ref d, .int xa, .int za] (fun r M' => r = nI 1 ∧ LPo cy de o t d (nn + 1) M') 60 560 := by
  refine lM.of (cc := cL_strokes) (maxL := 8) (ret := some .boolean) (by decide) rfl (Nat.le_of_ble_eq_true rfl) ?_
  intro p e s m args below meth c ls hsz hx hb hr hts hown hlocks hml hP hD hS hA hK hX hN hl
  have hl : lv_has ls 8 [(0, .ref o), (1, .ref t), (2, .ref d), (3, .int xa), (4, .int za)] := hl
  have C0 : LC p l s m args c cL_strokes 8 wsL_strokes (mA (iwU M2 N) sz) D cy de mi := ⟨hx, hb, hml, hown, hts, hA, hK, hX, hN, hst⟩
  exact w_strokes C0 (fun k n M' H locs pc ls h1 h2 h3 h4 h5 h6 h7 => e_wz hx hb hr hlocks (by decide) h1 h2 h3 ⟨rfl, h4⟩ h5 h6 h7) hn ⟨⟨hP, hD, hS⟩, hj, hd, hT, hI, hJ⟩ hl
