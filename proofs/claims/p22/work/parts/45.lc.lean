/-! one call to both halls, by the operation; calls that are refused; calls that read, by numbers -/
set_option maxHeartbeats 2000000 in
theorem b_stroke (l : Launch) (hst : l.stackTraces = false) (de mi : Nat) (D : va_G) (cy : Nat → ClassId) (M : mM) (sz o t n : Nat) (c : Nat → Nat) (x : Nat → Nat → Nat) (hT : TW cy de M o t c x) (hN : NB n c x) (x1 x2 x3 : Int32) (uy : Int) (py : x1.toInt = uy) (uz : Int) (pz : x2.toInt = uz)  : lMi l yL_both wsL_both rmB de mi D cy M sz [.ref o, .ref t, .int (nI 0), .int x1, .int x2, .int x3] (twP cy de o t ((0 ≤ uy ∧ uy < 9) ∧ (0 ≤ uz ∧ uz < 9)) (uy ≠ uz) (c 0 < 8) (nI (c 0 + 1)) c x (va_up c 0 (c 0 + 1)) (va_up x 2 (va_up (x 2) (c 0) (10 * uy.toNat + uz.toNat)))) 24 240 :=
  both_of hT (fun M9 a sz hh => by
    obtain ⟨fs, hf⟩ := hh.fst
    exact d_stroke l de mi D cy M9 sz a fs x1 x2 x3 _ _ hf (fun sz => a_stroke l hst de mi D cy M9 sz a n c x x1 uy py x2 uz pz hh hN ))
set_option maxHeartbeats 2000000 in
theorem b_lift (l : Launch) (hst : l.stackTraces = false) (de mi : Nat) (D : va_G) (cy : Nat → ClassId) (M : mM) (sz o t n : Nat) (c : Nat → Nat) (x : Nat → Nat → Nat) (hT : TW cy de M o t c x) (hN : NB n c x) (x1 x2 x3 : Int32)   : lMi l yL_both wsL_both rmB de mi D cy M sz [.ref o, .ref t, .int (nI 1), .int x1, .int x2, .int x3] (twP cy de o t True True True (nI (c 0)) c x (va_up c 0 0) x) 24 240 :=
  both_of hT (fun M9 a sz hh => by
    obtain ⟨fs, hf⟩ := hh.fst
    exact d_lift l de mi D cy M9 sz a fs x1 x2 x3 _ _ hf (fun sz => a_lift l hst de mi D cy M9 sz a n c x  hh hN ))
set_option maxHeartbeats 2000000 in
theorem b_letter (l : Launch) (hst : l.stackTraces = false) (de mi : Nat) (D : va_G) (cy : Nat → ClassId) (M : mM) (sz o t n : Nat) (c : Nat → Nat) (x : Nat → Nat → Nat) (hT : TW cy de M o t c x) (hN : NB n c x) (x1 x2 x3 : Int32)   : lMi l yL_both wsL_both rmB de mi D cy M sz [.ref o, .ref t, .int (nI 2), .int x1, .int x2, .int x3] (twP cy de o t True True ((1 ≤ c 0 ∧ c 0 ≤ 6) ∧ twA (x 2) (c 0) (c 0) = false ∧ c 1 < 10) (nI (c 1)) c x (va_up (va_up c 1 (c 1 + 1)) 0 0) (va_up (va_up x 6 (va_up (x 6) (c 1) (c 0))) (400 + c 1) (cpA (fun _ => 0) 0 (x 2) (c 0)))) 24 240 :=
  both_of hT (fun M9 a sz hh => by
    obtain ⟨fs, hf⟩ := hh.fst
    exact d_letter l de mi D cy M9 sz a fs x1 x2 x3 _ _ hf (fun sz => a_letter l hst de mi D cy M9 sz a n c x  hh hN ))
set_option maxHeartbeats 2000000 in
theorem b_pupil (l : Launch) (hst : l.stackTraces = false) (de mi : Nat) (D : va_G) (cy : Nat → ClassId) (M : mM) (sz o t n : Nat) (c : Nat → Nat) (x : Nat → Nat → Nat) (hT : TW cy de M o t c x) (hN : NB n c x) (x1 x2 x3 : Int32) (uy : Int) (py : x1.toInt = uy) (uz : Int) (pz : x2.toInt = uz)  : lMi l yL_both wsL_both rmB de mi D cy M sz [.ref o, .ref t, .int (nI 4), .int x1, .int x2, .int x3] (twP cy de o t (0 ≤ uy ∧ uy < 4) (5 ≤ uz ∧ uz ≤ 16) (c 2 < 20) (nI (c 2)) c x (va_up c 2 (c 2 + 1)) (va_up (va_up (va_up x 7 (va_up (x 7) (c 2) uy.toNat)) 8 (va_up (x 8) (c 2) (if uz ≤ 7 then 0 else if uz ≤ 11 then 1 else 2))) 9 (va_up (x 9) (c 2) (b2 (decide (x3.toInt = 1)))))) 24 240 :=
  both_of hT (fun M9 a sz hh => by
    obtain ⟨fs, hf⟩ := hh.fst
    exact d_pupil l de mi D cy M9 sz a fs x1 x2 x3 _ _ hf (fun sz => a_pupil l hst de mi D cy M9 sz a n c x x1 uy py x2 uz pz (decide (x3.toInt = 1)) hh hN ))
set_option maxHeartbeats 2000000 in
theorem b_print (l : Launch) (hst : l.stackTraces = false) (de mi : Nat) (D : va_G) (cy : Nat → ClassId) (M : mM) (sz o t n : Nat) (c : Nat → Nat) (x : Nat → Nat → Nat) (hT : TW cy de M o t c x) (hN : NB n c x) (x1 x2 x3 : Int32) (uy : Int) (py : x1.toInt = uy) (uz : Int) (pz : x3.toInt = uz)  : lMi l yL_both wsL_both rmB de mi D cy M sz [.ref o, .ref t, .int (nI 5), .int x1, .int x2, .int x3] (twP cy de o t (0 ≤ uy ∧ uy < 3) (1 ≤ uz ∧ uz ≤ 50) True (nI (cntC (x 3) (x 4) (b2 (decide (x2.toInt = 1))) uy.toNat + uz.toNat)) c x c (if b2 (decide (x2.toInt = 1)) = 0 then va_up x 4 (va_up (x 4) uy.toNat (x 4 uy.toNat + uz.toNat)) else va_up x 3 (va_up (x 3) uy.toNat (x 3 uy.toNat + uz.toNat)))) 24 240 :=
  both_of hT (fun M9 a sz hh => by
    obtain ⟨fs, hf⟩ := hh.fst
    exact d_print l de mi D cy M9 sz a fs x1 x2 x3 _ _ hf (fun sz => a_print l hst de mi D cy M9 sz a n c x x1 uy py (decide (x2.toInt = 1)) x3 uz pz hh hN ))
set_option maxHeartbeats 2000000 in
theorem b_write (l : Launch) (hst : l.stackTraces = false) (de mi : Nat) (D : va_G) (cy : Nat → ClassId) (M : mM) (sz o t n : Nat) (c : Nat → Nat) (x : Nat → Nat → Nat) (hT : TW cy de M o t c x) (hN : NB n c x) (x1 x2 x3 : Int32) (uy : Int) (py : x1.toInt = uy) (uz : Int) (pz : x2.toInt = uz) (hrk : uz.toNat < c 1 → (cmpA (x (400 + (uz).toNat)) (x 6 (uz).toNat) (x 2) (c 0) (fun _ => 0) (c 0)).1 ≤ x 6 (uz).toNat) : lMi l yL_both wsL_both rmB de mi D cy M sz [.ref o, .ref t, .int (nI 7), .int x1, .int x2, .int x3] (twP cy de o t ((0 ≤ uy ∧ uy < c 2) ∧ 0 ≤ uz ∧ uz < c 1) True (c 3 < 40 ∧ bndC (x 3) (x 4) (x 9 (uy).toNat) (x 8 (uy).toNat + 1) ≠ -1) (nI (c 3)) c x (va_up (va_up c 3 (c 3 + 1)) 0 0) (scX (prX x (x 9 (uy).toNat) (bndC (x 3) (x 4) (x 9 (uy).toNat) (x 8 (uy).toNat + 1)).toNat) (c 3) (x 7 (uy).toNat) 0 (cmpA (x (400 + (uz).toNat)) (x 6 (uz).toNat) (x 2) (c 0) (fun _ => 0) (c 0)).1 0 (fun _ => 0) (fun _ => 0) (wrS (bndC (x 3) (x 4) (x 9 (uy).toNat) (x 8 (uy).toNat + 1)).toNat (x 8 (uy).toNat) (slpC (x (400 + (uz).toNat)) (x 6 (uz).toNat) (x 2) (c 0))) (fun _ => 0) (cmpA (x (400 + (uz).toNat)) (x 6 (uz).toNat) (x 2) (c 0) (fun _ => 0) (c 0)).2.1)) 24 240 :=
  both_of hT (fun M9 a sz hh => by
    obtain ⟨fs, hf⟩ := hh.fst
    exact d_write l de mi D cy M9 sz a fs x1 x2 x3 _ _ hf (fun sz => a_write l hst de mi D cy M9 sz a n c x x1 uy py x2 uz pz hh hN hrk))
set_option maxHeartbeats 2000000 in
theorem b_mark (l : Launch) (hst : l.stackTraces = false) (de mi : Nat) (D : va_G) (cy : Nat → ClassId) (M : mM) (sz o t n : Nat) (c : Nat → Nat) (x : Nat → Nat → Nat) (hT : TW cy de M o t c x) (hN : NB n c x) (x1 x2 x3 : Int32) (uy : Int) (py : x1.toInt = uy) (uz : Int) (pz : x2.toInt = uz) (ut : Int) (pt : x3.toInt = ut) (h3m : ∀ s, s < c 3 → x 13 s = 3 → lackC (x (1001 + 8 * s)) 3 = 0) : lMi l yL_both wsL_both rmB de mi D cy M sz [.ref o, .ref t, .int (nI 10), .int x1, .int x2, .int x3] (twP cy de o t ((0 ≤ uy ∧ uy < 6) ∧ 0 ≤ uz ∧ uz < c 3) (0 ≤ ut ∧ ut ≤ 20) (x 5 uy.toNat = 0 ∧ hasC (x (1000 + 8 * (uz).toNat)) uy.toNat (x 13 (uz).toNat) = false ∧ lackC (x (1001 + 8 * (uz).toNat)) (x 13 (uz).toNat) ≠ 0) (nI (x 13 (uz).toNat + 1)) c x c (va_up (va_up (va_up x (1000 + 8 * (uz).toNat) (va_up (x (1000 + 8 * (uz).toNat)) (x 13 (uz).toNat) uy.toNat)) (1001 + 8 * (uz).toNat) (va_up (x (1001 + 8 * (uz).toNat)) (x 13 (uz).toNat) ut.toNat)) 13 (va_up (x 13) (uz).toNat (x 13 (uz).toNat + 1)))) 24 240 :=
  both_of hT (fun M9 a sz hh => by
    obtain ⟨fs, hf⟩ := hh.fst
    exact d_mark l de mi D cy M9 sz a fs x1 x2 x3 _ _ hf (fun sz => a_mark l hst de mi D cy M9 sz a n c x x1 uy py x2 uz pz x3 ut pt hh hN h3m))
set_option maxHeartbeats 2000000 in
theorem b_takeOut (l : Launch) (hst : l.stackTraces = false) (de mi : Nat) (D : va_G) (cy : Nat → ClassId) (M : mM) (sz o t n : Nat) (c : Nat → Nat) (x : Nat → Nat → Nat) (hT : TW cy de M o t c x) (hN : NB n c x) (x1 x2 x3 : Int32) (uy : Int) (py : x1.toInt = uy)  : lMi l yL_both wsL_both rmB de mi D cy M sz [.ref o, .ref t, .int (nI 13), .int x1, .int x2, .int x3] (twP cy de o t (0 ≤ uy ∧ uy < 6) True (x 5 uy.toNat = 0) (nI (tkA (va_up x 5 (va_up (x 5) uy.toNat 1)) uy.toNat (c 3)).1) c x c ((tkA (va_up x 5 (va_up (x 5) uy.toNat 1)) uy.toNat (c 3)).2)) 24 240 :=
  both_of hT (fun M9 a sz hh => by
    obtain ⟨fs, hf⟩ := hh.fst
    exact d_takeOut l de mi D cy M9 sz a fs x1 x2 x3 _ _ hf (fun sz => a_takeOut l hst de mi D cy M9 sz a n c x x1 uy py hh hN ))
set_option maxHeartbeats 2000000 in
theorem b_show (l : Launch) (hst : l.stackTraces = false) (de mi : Nat) (D : va_G) (cy : Nat → ClassId) (M : mM) (sz o t n : Nat) (c : Nat → Nat) (x : Nat → Nat → Nat) (hT : TW cy de M o t c x) (hN : NB n c x) (x1 x2 x3 : Int32) (uy : Int) (py : x1.toInt = uy)  : lMi l yL_both wsL_both rmB de mi D cy M sz [.ref o, .ref t, .int (nI 14), .int x1, .int x2, .int x3] (twP cy de o t (0 ≤ uy ∧ uy < c 3) True (x 11 (uy).toNat = 0 ∧ gradeC (x (1001 + 8 * (uy).toNat)) (x 13 (uy).toNat) ≠ -1) (nI (shC (va_up x 11 (va_up (x 11) (uy).toNat 1)) (c 3))) c x c (va_up x 11 (va_up (x 11) (uy).toNat 1))) 24 240 :=
  both_of hT (fun M9 a sz hh => by
    obtain ⟨fs, hf⟩ := hh.fst
    exact d_show l de mi D cy M9 sz a fs x1 x2 x3 _ _ hf (fun sz => a_show l hst de mi D cy M9 sz a n c x x1 uy py hh hN ))
set_option maxHeartbeats 2000000 in
theorem b_vote (l : Launch) (hst : l.stackTraces = false) (de mi : Nat) (D : va_G) (cy : Nat → ClassId) (M : mM) (sz o t n : Nat) (c : Nat → Nat) (x : Nat → Nat → Nat) (hT : TW cy de M o t c x) (hN : NB n c x) (x1 x2 x3 : Int32) (uy : Int) (py : x1.toInt = uy) (uz : Int) (pz : x2.toInt = uz) (ut : Int) (pt : x3.toInt = ut)  : lMi l yL_both wsL_both rmB de mi D cy M sz [.ref o, .ref t, .int (nI 15), .int x1, .int x2, .int x3] (twP cy de o t ((0 ≤ uy ∧ uy < 4) ∧ 0 ≤ uz ∧ uz < c 3) (0 ≤ ut ∧ ut ≤ 5) (x 11 (uz).toNat ≠ 0 ∧ (x 10 (uz).toNat : Int) ≠ uy) (nI (sumA (va_up (x (1003 + 8 * (uz).toNat)) uy.toNat ut.toNat) 4)) c x c (va_up x (1003 + 8 * (uz).toNat) (va_up (x (1003 + 8 * (uz).toNat)) uy.toNat ut.toNat))) 24 240 :=
  both_of hT (fun M9 a sz hh => by
    obtain ⟨fs, hf⟩ := hh.fst
    exact d_vote l de mi D cy M9 sz a fs x1 x2 x3 _ _ hf (fun sz => a_vote l hst de mi D cy M9 sz a n c x x1 uy py x2 uz pz x3 ut pt hh hN ))
set_option maxHeartbeats 2000000 in
theorem t_stroke (l : Launch) (hst : l.stackTraces = false) (de mi : Nat) (D : va_G) (cy : Nat → ClassId) (M : mM) (sz a n : Nat) (c : Nat → Nat) (x : Nat → Nat → Nat) (hh : hall cy de M a c x) (hN : NB n c x) (x1 x2 x3 : Int32) (uy : Int) (py : x1.toInt = uy) (uz : Int) (pz : x2.toInt = uz)  : wMet l yL_call wsL_call rmC de mi D cy M sz [.ref a, .int (nI 0), .int x1, .int x2, .int x3] (callP (oP cy de a ((0 ≤ uy ∧ uy < 9) ∧ (0 ≤ uz ∧ uz < 9)) (uy ≠ uz) (c 0 < 8) (nI (c 0 + 1)) (va_up c 0 (c 0 + 1)) (va_up x 2 (va_up (x 2) (c 0) (10 * uy.toNat + uz.toNat)))) (oX ((0 ≤ uy ∧ uy < 9) ∧ (0 ≤ uz ∧ uz < 9)) (uy ≠ uz) (c 0 < 8)) M) 12 120 := by
  obtain ⟨fs, hf⟩ := hh.fst
  exact c_L_call l de mi D cy M sz a (nI 0) x1 x2 x3 _ _ (fun sz => d_stroke l de mi D cy M sz a fs x1 x2 x3 _ _ hf (fun sz => a_stroke l hst de mi D cy M sz a n c x x1 uy py x2 uz pz hh hN )) oX3
set_option maxHeartbeats 2000000 in
theorem t_letter (l : Launch) (hst : l.stackTraces = false) (de mi : Nat) (D : va_G) (cy : Nat → ClassId) (M : mM) (sz a n : Nat) (c : Nat → Nat) (x : Nat → Nat → Nat) (hh : hall cy de M a c x) (hN : NB n c x) (x1 x2 x3 : Int32)   : wMet l yL_call wsL_call rmC de mi D cy M sz [.ref a, .int (nI 2), .int x1, .int x2, .int x3] (callP (oP cy de a True True ((1 ≤ c 0 ∧ c 0 ≤ 6) ∧ twA (x 2) (c 0) (c 0) = false ∧ c 1 < 10) (nI (c 1)) (va_up (va_up c 1 (c 1 + 1)) 0 0) (va_up (va_up x 6 (va_up (x 6) (c 1) (c 0))) (400 + c 1) (cpA (fun _ => 0) 0 (x 2) (c 0)))) (oX True True ((1 ≤ c 0 ∧ c 0 ≤ 6) ∧ twA (x 2) (c 0) (c 0) = false ∧ c 1 < 10)) M) 12 120 := by
  obtain ⟨fs, hf⟩ := hh.fst
  exact c_L_call l de mi D cy M sz a (nI 2) x1 x2 x3 _ _ (fun sz => d_letter l de mi D cy M sz a fs x1 x2 x3 _ _ hf (fun sz => a_letter l hst de mi D cy M sz a n c x  hh hN )) oX3
set_option maxHeartbeats 2000000 in
theorem t_strokeOf (l : Launch) (hst : l.stackTraces = false) (de mi : Nat) (D : va_G) (cy : Nat → ClassId) (M : mM) (sz a n : Nat) (c : Nat → Nat) (x : Nat → Nat → Nat) (hh : hall cy de M a c x) (hN : NB n c x) (x1 x2 x3 : Int32) (uy : Int) (py : x1.toInt = uy) (uz : Int) (pz : x2.toInt = uz)  : wMet l yL_call wsL_call rmC de mi D cy M sz [.ref a, .int (nI 3), .int x1, .int x2, .int x3] (callP (fun r M' => (((0 ≤ uy ∧ uy < c 1) ∧ 0 ≤ uz) ∧ True) ∧ r = zI (if 0 ≤ uz ∧ uz < (x 6 (uy).toNat : Int) then (x (400 + (uy).toNat) uz.toNat : Int) else -1) ∧ M' = M) (oX ((0 ≤ uy ∧ uy < c 1) ∧ 0 ≤ uz) True True) M) 12 120 := by
  obtain ⟨fs, hf⟩ := hh.fst
  exact c_L_call l de mi D cy M sz a (nI 3) x1 x2 x3 _ _ (fun sz => d_strokeOf l de mi D cy M sz a fs x1 x2 x3 _ _ hf (fun sz => a_strokeOf l hst de mi D cy M sz a n c x x1 uy py x2 uz pz hh hN )) oX3
set_option maxHeartbeats 2000000 in
theorem t_pupil (l : Launch) (hst : l.stackTraces = false) (de mi : Nat) (D : va_G) (cy : Nat → ClassId) (M : mM) (sz a n : Nat) (c : Nat → Nat) (x : Nat → Nat → Nat) (hh : hall cy de M a c x) (hN : NB n c x) (x1 x2 x3 : Int32) (uy : Int) (py : x1.toInt = uy) (uz : Int) (pz : x2.toInt = uz)  : wMet l yL_call wsL_call rmC de mi D cy M sz [.ref a, .int (nI 4), .int x1, .int x2, .int x3] (callP (oP cy de a (0 ≤ uy ∧ uy < 4) (5 ≤ uz ∧ uz ≤ 16) (c 2 < 20) (nI (c 2)) (va_up c 2 (c 2 + 1)) (va_up (va_up (va_up x 7 (va_up (x 7) (c 2) uy.toNat)) 8 (va_up (x 8) (c 2) (if uz ≤ 7 then 0 else if uz ≤ 11 then 1 else 2))) 9 (va_up (x 9) (c 2) (b2 (decide (x3.toInt = 1)))))) (oX (0 ≤ uy ∧ uy < 4) (5 ≤ uz ∧ uz ≤ 16) (c 2 < 20)) M) 12 120 := by
  obtain ⟨fs, hf⟩ := hh.fst
  exact c_L_call l de mi D cy M sz a (nI 4) x1 x2 x3 _ _ (fun sz => d_pupil l de mi D cy M sz a fs x1 x2 x3 _ _ hf (fun sz => a_pupil l hst de mi D cy M sz a n c x x1 uy py x2 uz pz (decide (x3.toInt = 1)) hh hN )) oX3
set_option maxHeartbeats 2000000 in
theorem t_print (l : Launch) (hst : l.stackTraces = false) (de mi : Nat) (D : va_G) (cy : Nat → ClassId) (M : mM) (sz a n : Nat) (c : Nat → Nat) (x : Nat → Nat → Nat) (hh : hall cy de M a c x) (hN : NB n c x) (x1 x2 x3 : Int32) (uy : Int) (py : x1.toInt = uy) (uz : Int) (pz : x3.toInt = uz)  : wMet l yL_call wsL_call rmC de mi D cy M sz [.ref a, .int (nI 5), .int x1, .int x2, .int x3] (callP (oP cy de a (0 ≤ uy ∧ uy < 3) (1 ≤ uz ∧ uz ≤ 50) True (nI (cntC (x 3) (x 4) (b2 (decide (x2.toInt = 1))) uy.toNat + uz.toNat)) c (if b2 (decide (x2.toInt = 1)) = 0 then va_up x 4 (va_up (x 4) uy.toNat (x 4 uy.toNat + uz.toNat)) else va_up x 3 (va_up (x 3) uy.toNat (x 3 uy.toNat + uz.toNat)))) (oX (0 ≤ uy ∧ uy < 3) (1 ≤ uz ∧ uz ≤ 50) True) M) 12 120 := by
  obtain ⟨fs, hf⟩ := hh.fst
  exact c_L_call l de mi D cy M sz a (nI 5) x1 x2 x3 _ _ (fun sz => d_print l de mi D cy M sz a fs x1 x2 x3 _ _ hf (fun sz => a_print l hst de mi D cy M sz a n c x x1 uy py (decide (x2.toInt = 1)) x3 uz pz hh hN )) oX3
set_option maxHeartbeats 2000000 in
theorem t_sheets (l : Launch) (hst : l.stackTraces = false) (de mi : Nat) (D : va_G) (cy : Nat → ClassId) (M : mM) (sz a n : Nat) (c : Nat → Nat) (x : Nat → Nat → Nat) (hh : hall cy de M a c x) (hN : NB n c x) (x1 x2 x3 : Int32) (uy : Int) (py : x1.toInt = uy)  : wMet l yL_call wsL_call rmC de mi D cy M sz [.ref a, .int (nI 6), .int x1, .int x2, .int x3] (callP (fun r M' => ((0 ≤ uy ∧ uy < 3) ∧ True) ∧ r = nI (cntC (x 3) (x 4) (b2 (decide (x2.toInt = 1))) uy.toNat) ∧ M' = M) (oX (0 ≤ uy ∧ uy < 3) True True) M) 12 120 := by
  obtain ⟨fs, hf⟩ := hh.fst
  exact c_L_call l de mi D cy M sz a (nI 6) x1 x2 x3 _ _ (fun sz => d_sheets l de mi D cy M sz a fs x1 x2 x3 _ _ hf (fun sz => a_sheets l hst de mi D cy M sz a n c x x1 uy py (decide (x2.toInt = 1)) hh hN )) oX3
set_option maxHeartbeats 2000000 in
theorem t_write (l : Launch) (hst : l.stackTraces = false) (de mi : Nat) (D : va_G) (cy : Nat → ClassId) (M : mM) (sz a n : Nat) (c : Nat → Nat) (x : Nat → Nat → Nat) (hh : hall cy de M a c x) (hN : NB n c x) (x1 x2 x3 : Int32) (uy : Int) (py : x1.toInt = uy) (uz : Int) (pz : x2.toInt = uz) (hrk : uz.toNat < c 1 → (cmpA (x (400 + (uz).toNat)) (x 6 (uz).toNat) (x 2) (c 0) (fun _ => 0) (c 0)).1 ≤ x 6 (uz).toNat) : wMet l yL_call wsL_call rmC de mi D cy M sz [.ref a, .int (nI 7), .int x1, .int x2, .int x3] (callP (oP cy de a ((0 ≤ uy ∧ uy < c 2) ∧ 0 ≤ uz ∧ uz < c 1) True (c 3 < 40 ∧ bndC (x 3) (x 4) (x 9 (uy).toNat) (x 8 (uy).toNat + 1) ≠ -1) (nI (c 3)) (va_up (va_up c 3 (c 3 + 1)) 0 0) (scX (prX x (x 9 (uy).toNat) (bndC (x 3) (x 4) (x 9 (uy).toNat) (x 8 (uy).toNat + 1)).toNat) (c 3) (x 7 (uy).toNat) 0 (cmpA (x (400 + (uz).toNat)) (x 6 (uz).toNat) (x 2) (c 0) (fun _ => 0) (c 0)).1 0 (fun _ => 0) (fun _ => 0) (wrS (bndC (x 3) (x 4) (x 9 (uy).toNat) (x 8 (uy).toNat + 1)).toNat (x 8 (uy).toNat) (slpC (x (400 + (uz).toNat)) (x 6 (uz).toNat) (x 2) (c 0))) (fun _ => 0) (cmpA (x (400 + (uz).toNat)) (x 6 (uz).toNat) (x 2) (c 0) (fun _ => 0) (c 0)).2.1)) (oX ((0 ≤ uy ∧ uy < c 2) ∧ 0 ≤ uz ∧ uz < c 1) True (c 3 < 40 ∧ bndC (x 3) (x 4) (x 9 (uy).toNat) (x 8 (uy).toNat + 1) ≠ -1)) M) 12 120 := by
  obtain ⟨fs, hf⟩ := hh.fst
  exact c_L_call l de mi D cy M sz a (nI 7) x1 x2 x3 _ _ (fun sz => d_write l de mi D cy M sz a fs x1 x2 x3 _ _ hf (fun sz => a_write l hst de mi D cy M sz a n c x x1 uy py x2 uz pz hh hN hrk)) oX3
set_option maxHeartbeats 2000000 in
theorem t_slips (l : Launch) (hst : l.stackTraces = false) (de mi : Nat) (D : va_G) (cy : Nat → ClassId) (M : mM) (sz a n : Nat) (c : Nat → Nat) (x : Nat → Nat → Nat) (hh : hall cy de M a c x) (hN : NB n c x) (x1 x2 x3 : Int32) (uy : Int) (py : x1.toInt = uy) (uz : Int) (pz : x2.toInt = uz)  : wMet l yL_call wsL_call rmC de mi D cy M sz [.ref a, .int (nI 8), .int x1, .int x2, .int x3] (callP (fun r M' => ((0 ≤ uy ∧ uy < c 3) ∧ (0 ≤ uz ∧ uz ≤ 5)) ∧ r = nI (if uz = 5 then sumA (x (1002 + 8 * (uy).toNat)) 5 else x (1002 + 8 * (uy).toNat) uz.toNat) ∧ M' = M) (oX (0 ≤ uy ∧ uy < c 3) (0 ≤ uz ∧ uz ≤ 5) True) M) 12 120 := by
  obtain ⟨fs, hf⟩ := hh.fst
  exact c_L_call l de mi D cy M sz a (nI 8) x1 x2 x3 _ _ (fun sz => d_slips l de mi D cy M sz a fs x1 x2 x3 _ _ hf (fun sz => a_slips l hst de mi D cy M sz a n c x x1 uy py x2 uz pz hh hN )) oX3
set_option maxHeartbeats 2000000 in
theorem t_orderAnew (l : Launch) (hst : l.stackTraces = false) (de mi : Nat) (D : va_G) (cy : Nat → ClassId) (M : mM) (sz a n : Nat) (c : Nat → Nat) (x : Nat → Nat → Nat) (hh : hall cy de M a c x) (hN : NB n c x) (x1 x2 x3 : Int32) (uy : Int) (py : x1.toInt = uy)  : wMet l yL_call wsL_call rmC de mi D cy M sz [.ref a, .int (nI 9), .int x1, .int x2, .int x3] (callP (fun r M' => ((0 ≤ uy ∧ uy < c 3) ∧ True) ∧ r = nI (fewL (x (1004 + 8 * (uy).toNat)) (x 12 (uy).toNat)) ∧ M' = M) (oX (0 ≤ uy ∧ uy < c 3) True True) M) 12 120 := by
  obtain ⟨fs, hf⟩ := hh.fst
  exact c_L_call l de mi D cy M sz a (nI 9) x1 x2 x3 _ _ (fun sz => d_orderAnew l de mi D cy M sz a fs x1 x2 x3 _ _ hf (fun sz => a_orderAnew l hst de mi D cy M sz a n c x x1 uy py hh hN )) oX3
set_option maxHeartbeats 2000000 in
theorem t_mark (l : Launch) (hst : l.stackTraces = false) (de mi : Nat) (D : va_G) (cy : Nat → ClassId) (M : mM) (sz a n : Nat) (c : Nat → Nat) (x : Nat → Nat → Nat) (hh : hall cy de M a c x) (hN : NB n c x) (x1 x2 x3 : Int32) (uy : Int) (py : x1.toInt = uy) (uz : Int) (pz : x2.toInt = uz) (ut : Int) (pt : x3.toInt = ut) (h3m : ∀ s, s < c 3 → x 13 s = 3 → lackC (x (1001 + 8 * s)) 3 = 0) : wMet l yL_call wsL_call rmC de mi D cy M sz [.ref a, .int (nI 10), .int x1, .int x2, .int x3] (callP (oP cy de a ((0 ≤ uy ∧ uy < 6) ∧ 0 ≤ uz ∧ uz < c 3) (0 ≤ ut ∧ ut ≤ 20) (x 5 uy.toNat = 0 ∧ hasC (x (1000 + 8 * (uz).toNat)) uy.toNat (x 13 (uz).toNat) = false ∧ lackC (x (1001 + 8 * (uz).toNat)) (x 13 (uz).toNat) ≠ 0) (nI (x 13 (uz).toNat + 1)) c (va_up (va_up (va_up x (1000 + 8 * (uz).toNat) (va_up (x (1000 + 8 * (uz).toNat)) (x 13 (uz).toNat) uy.toNat)) (1001 + 8 * (uz).toNat) (va_up (x (1001 + 8 * (uz).toNat)) (x 13 (uz).toNat) ut.toNat)) 13 (va_up (x 13) (uz).toNat (x 13 (uz).toNat + 1)))) (oX ((0 ≤ uy ∧ uy < 6) ∧ 0 ≤ uz ∧ uz < c 3) (0 ≤ ut ∧ ut ≤ 20) (x 5 uy.toNat = 0 ∧ hasC (x (1000 + 8 * (uz).toNat)) uy.toNat (x 13 (uz).toNat) = false ∧ lackC (x (1001 + 8 * (uz).toNat)) (x 13 (uz).toNat) ≠ 0)) M) 12 120 := by
  obtain ⟨fs, hf⟩ := hh.fst
  exact c_L_call l de mi D cy M sz a (nI 10) x1 x2 x3 _ _ (fun sz => d_mark l de mi D cy M sz a fs x1 x2 x3 _ _ hf (fun sz => a_mark l hst de mi D cy M sz a n c x x1 uy py x2 uz pz x3 ut pt hh hN h3m)) oX3
set_option maxHeartbeats 2000000 in
theorem t_grade (l : Launch) (hst : l.stackTraces = false) (de mi : Nat) (D : va_G) (cy : Nat → ClassId) (M : mM) (sz a n : Nat) (c : Nat → Nat) (x : Nat → Nat → Nat) (hh : hall cy de M a c x) (hN : NB n c x) (x1 x2 x3 : Int32) (uy : Int) (py : x1.toInt = uy)  : wMet l yL_call wsL_call rmC de mi D cy M sz [.ref a, .int (nI 11), .int x1, .int x2, .int x3] (callP (fun r M' => ((0 ≤ uy ∧ uy < c 3) ∧ True) ∧ r = zI (gradeC (x (1001 + 8 * (uy).toNat)) (x 13 (uy).toNat)) ∧ M' = M) (oX (0 ≤ uy ∧ uy < c 3) True True) M) 12 120 := by
  obtain ⟨fs, hf⟩ := hh.fst
  exact c_L_call l de mi D cy M sz a (nI 11) x1 x2 x3 _ _ (fun sz => d_grade l de mi D cy M sz a fs x1 x2 x3 _ _ hf (fun sz => a_grade l hst de mi D cy M sz a n c x x1 uy py hh hN )) oX3
set_option maxHeartbeats 2000000 in
theorem t_lacks (l : Launch) (hst : l.stackTraces = false) (de mi : Nat) (D : va_G) (cy : Nat → ClassId) (M : mM) (sz a n : Nat) (c : Nat → Nat) (x : Nat → Nat → Nat) (hh : hall cy de M a c x) (hN : NB n c x) (x1 x2 x3 : Int32) (uy : Int) (py : x1.toInt = uy)  : wMet l yL_call wsL_call rmC de mi D cy M sz [.ref a, .int (nI 12), .int x1, .int x2, .int x3] (callP (fun r M' => ((0 ≤ uy ∧ uy < c 3) ∧ True) ∧ r = zI (lackC (x (1001 + 8 * (uy).toNat)) (x 13 (uy).toNat)) ∧ M' = M) (oX (0 ≤ uy ∧ uy < c 3) True True) M) 12 120 := by
  obtain ⟨fs, hf⟩ := hh.fst
  exact c_L_call l de mi D cy M sz a (nI 12) x1 x2 x3 _ _ (fun sz => d_lacks l de mi D cy M sz a fs x1 x2 x3 _ _ hf (fun sz => a_lacks l hst de mi D cy M sz a n c x x1 uy py hh hN )) oX3
set_option maxHeartbeats 2000000 in
theorem t_takeOut (l : Launch) (hst : l.stackTraces = false) (de mi : Nat) (D : va_G) (cy : Nat → ClassId) (M : mM) (sz a n : Nat) (c : Nat → Nat) (x : Nat → Nat → Nat) (hh : hall cy de M a c x) (hN : NB n c x) (x1 x2 x3 : Int32) (uy : Int) (py : x1.toInt = uy)  : wMet l yL_call wsL_call rmC de mi D cy M sz [.ref a, .int (nI 13), .int x1, .int x2, .int x3] (callP (oP cy de a (0 ≤ uy ∧ uy < 6) True (x 5 uy.toNat = 0) (nI (tkA (va_up x 5 (va_up (x 5) uy.toNat 1)) uy.toNat (c 3)).1) c ((tkA (va_up x 5 (va_up (x 5) uy.toNat 1)) uy.toNat (c 3)).2)) (oX (0 ≤ uy ∧ uy < 6) True (x 5 uy.toNat = 0)) M) 12 120 := by
  obtain ⟨fs, hf⟩ := hh.fst
  exact c_L_call l de mi D cy M sz a (nI 13) x1 x2 x3 _ _ (fun sz => d_takeOut l de mi D cy M sz a fs x1 x2 x3 _ _ hf (fun sz => a_takeOut l hst de mi D cy M sz a n c x x1 uy py hh hN )) oX3
set_option maxHeartbeats 2000000 in
theorem t_show (l : Launch) (hst : l.stackTraces = false) (de mi : Nat) (D : va_G) (cy : Nat → ClassId) (M : mM) (sz a n : Nat) (c : Nat → Nat) (x : Nat → Nat → Nat) (hh : hall cy de M a c x) (hN : NB n c x) (x1 x2 x3 : Int32) (uy : Int) (py : x1.toInt = uy)  : wMet l yL_call wsL_call rmC de mi D cy M sz [.ref a, .int (nI 14), .int x1, .int x2, .int x3] (callP (oP cy de a (0 ≤ uy ∧ uy < c 3) True (x 11 (uy).toNat = 0 ∧ gradeC (x (1001 + 8 * (uy).toNat)) (x 13 (uy).toNat) ≠ -1) (nI (shC (va_up x 11 (va_up (x 11) (uy).toNat 1)) (c 3))) c (va_up x 11 (va_up (x 11) (uy).toNat 1))) (oX (0 ≤ uy ∧ uy < c 3) True (x 11 (uy).toNat = 0 ∧ gradeC (x (1001 + 8 * (uy).toNat)) (x 13 (uy).toNat) ≠ -1)) M) 12 120 := by
  obtain ⟨fs, hf⟩ := hh.fst
  exact c_L_call l de mi D cy M sz a (nI 14) x1 x2 x3 _ _ (fun sz => d_show l de mi D cy M sz a fs x1 x2 x3 _ _ hf (fun sz => a_show l hst de mi D cy M sz a n c x x1 uy py hh hN )) oX3
set_option maxHeartbeats 2000000 in
theorem t_vote (l : Launch) (hst : l.stackTraces = false) (de mi : Nat) (D : va_G) (cy : Nat → ClassId) (M : mM) (sz a n : Nat) (c : Nat → Nat) (x : Nat → Nat → Nat) (hh : hall cy de M a c x) (hN : NB n c x) (x1 x2 x3 : Int32) (uy : Int) (py : x1.toInt = uy) (uz : Int) (pz : x2.toInt = uz) (ut : Int) (pt : x3.toInt = ut)  : wMet l yL_call wsL_call rmC de mi D cy M sz [.ref a, .int (nI 15), .int x1, .int x2, .int x3] (callP (oP cy de a ((0 ≤ uy ∧ uy < 4) ∧ 0 ≤ uz ∧ uz < c 3) (0 ≤ ut ∧ ut ≤ 5) (x 11 (uz).toNat ≠ 0 ∧ (x 10 (uz).toNat : Int) ≠ uy) (nI (sumA (va_up (x (1003 + 8 * (uz).toNat)) uy.toNat ut.toNat) 4)) c (va_up x (1003 + 8 * (uz).toNat) (va_up (x (1003 + 8 * (uz).toNat)) uy.toNat ut.toNat))) (oX ((0 ≤ uy ∧ uy < 4) ∧ 0 ≤ uz ∧ uz < c 3) (0 ≤ ut ∧ ut ≤ 5) (x 11 (uz).toNat ≠ 0 ∧ (x 10 (uz).toNat : Int) ≠ uy)) M) 12 120 := by
  obtain ⟨fs, hf⟩ := hh.fst
  exact c_L_call l de mi D cy M sz a (nI 15) x1 x2 x3 _ _ (fun sz => d_vote l de mi D cy M sz a fs x1 x2 x3 _ _ hf (fun sz => a_vote l hst de mi D cy M sz a n c x x1 uy py x2 uz pz x3 ut pt hh hN )) oX3
set_option maxHeartbeats 2000000 in
theorem t_worth (l : Launch) (hst : l.stackTraces = false) (de mi : Nat) (D : va_G) (cy : Nat → ClassId) (M : mM) (sz a n : Nat) (c : Nat → Nat) (x : Nat → Nat → Nat) (hh : hall cy de M a c x) (hN : NB n c x) (x1 x2 x3 : Int32) (uy : Int) (py : x1.toInt = uy)  : wMet l yL_call wsL_call rmC de mi D cy M sz [.ref a, .int (nI 16), .int x1, .int x2, .int x3] (callP (fun r M' => ((0 ≤ uy ∧ uy < c 3) ∧ True) ∧ r = zI (wC x (uy).toNat) ∧ M' = M) (oX (0 ≤ uy ∧ uy < c 3) True True) M) 12 120 := by
  obtain ⟨fs, hf⟩ := hh.fst
  exact c_L_call l de mi D cy M sz a (nI 16) x1 x2 x3 _ _ (fun sz => d_worth l de mi D cy M sz a fs x1 x2 x3 _ _ hf (fun sz => a_worth l hst de mi D cy M sz a n c x x1 uy py hh hN )) oX3
set_option maxHeartbeats 2000000 in
theorem t_place (l : Launch) (hst : l.stackTraces = false) (de mi : Nat) (D : va_G) (cy : Nat → ClassId) (M : mM) (sz a n : Nat) (c : Nat → Nat) (x : Nat → Nat → Nat) (hh : hall cy de M a c x) (hN : NB n c x) (x1 x2 x3 : Int32) (uy : Int) (py : x1.toInt = uy)  : wMet l yL_call wsL_call rmC de mi D cy M sz [.ref a, .int (nI 17), .int x1, .int x2, .int x3] (callP (fun r M' => ((0 ≤ uy ∧ uy < c 3) ∧ True) ∧ r = zI (plC x (c 3) (wC x (uy).toNat) (uy).toNat) ∧ M' = M) (oX (0 ≤ uy ∧ uy < c 3) True True) M) 12 120 := by
  obtain ⟨fs, hf⟩ := hh.fst
  exact c_L_call l de mi D cy M sz a (nI 17) x1 x2 x3 _ _ (fun sz => d_place l de mi D cy M sz a fs x1 x2 x3 _ _ hf (fun sz => a_place l hst de mi D cy M sz a n c x x1 uy py hh hN )) oX3
set_option maxHeartbeats 2000000 in
theorem t_at (l : Launch) (hst : l.stackTraces = false) (de mi : Nat) (D : va_G) (cy : Nat → ClassId) (M : mM) (sz a n : Nat) (c : Nat → Nat) (x : Nat → Nat → Nat) (hh : hall cy de M a c x) (hN : NB n c x) (x1 x2 x3 : Int32) (uy : Int) (py : x1.toInt = uy)  : wMet l yL_call wsL_call rmC de mi D cy M sz [.ref a, .int (nI 18), .int x1, .int x2, .int x3] (callP (fun r M' => ((1 ≤ uy) ∧ True) ∧ r = zI (atC x (c 3) uy (c 3)) ∧ M' = M) (oX (1 ≤ uy) True True) M) 12 120 := by
  obtain ⟨fs, hf⟩ := hh.fst
  exact c_L_call l de mi D cy M sz a (nI 18) x1 x2 x3 _ _ (fun sz => d_at l de mi D cy M sz a fs x1 x2 x3 _ _ hf (fun sz => a_at l hst de mi D cy M sz a n c x x1 uy py hh hN )) oX3
def soV (x : Nat → Nat → Nat) (k i : Nat) : Int := if i < x 6 k then (x (400 + k) i : Int) else -1
def slV (x : Nat → Nat → Nat) (s k : Nat) : Nat := if k = 5 then sumA (x (1002 + 8 * s)) 5 else x (1002 + 8 * s) k
def grV (x : Nat → Nat → Nat) (s : Nat) : Int := gradeC (x (1001 + 8 * s)) (x 13 s)
def laV (x : Nat → Nat → Nat) (s : Nat) : Int := lackC (x (1001 + 8 * s)) (x 13 s)
def feV (x : Nat → Nat → Nat) (s : Nat) : Nat := fewL (x (1004 + 8 * s)) (x 12 s)
def plV (c : Nat → Nat) (x : Nat → Nat → Nat) (s : Nat) : Int := plC x (c 3) (wC x s) s
def atV (c : Nat → Nat) (x : Nat → Nat → Nat) (p : Nat) : Int := atC x (c 3) (p : Int) (c 3)
def shV (x : Nat → Nat → Nat) (k b : Nat) : Nat := cntC (x 3) (x 4) b k
theorem so_eq (x : Nat → Nat → Nat) (k i : Nat) : (if 0 ≤ (i : Int) ∧ (i : Int) < (x 6 k : Int) then (x (400 + k) i : Int) else -1) = soV x k i := by
  unfold soV
  by_cases h9 : i < x 6 k
  · rw [if_pos (by omega), if_pos h9]
  · rw [if_neg (by omega), if_neg h9]
theorem sl_eq (x : Nat → Nat → Nat) (s k : Nat) : (if (k : Int) = 5 then sumA (x (1002 + 8 * s)) 5 else x (1002 + 8 * s) k) = slV x s k := by
  unfold slV
  by_cases h9 : k = 5
  · rw [if_pos (by omega), if_pos h9]
  · rw [if_neg (by omega), if_neg h9]
set_option maxHeartbeats 2000000 in
theorem q_strokeOf (l : Launch) (hst : l.stackTraces = false) (de mi : Nat) (D : va_G) (cy : Nat → ClassId) (M : mM) (sz a n : Nat) (c : Nat → Nat) (x : Nat → Nat → Nat) (hh : hall cy de M a c x) (hN : NB n c x) (k i : Nat) (hk : k < c 1) (hk9 : k < 1000) (hi : i < 1000) : mVi l yX5_strokeOf wsX5_strokeOf ({ frames := 7, cells := 4, slots := 24, locals := 103 } : Room) de mi D cy M sz [.ref a, .int (nI k), .int (nI i)] (fun r M' => r = zI (soV x k i) ∧ M' = M) (fun _ => False) 4 24 :=
  (a_strokeOf l hst de mi D cy M sz a n c x (nI k) (k : Int) (nI_toInt (by omega)) (nI i) (i : Int) (nI_toInt (by omega)) hh hN).mono (fun r M' h => ⟨h.2.1.trans (congrArg zI (so_eq x k i)), h.2.2⟩) (fun E h => by
    rcases h with ⟨-, h⟩ | ⟨-, -, h⟩ | ⟨-, -, -, h⟩
    · exact h (⟨⟨by omega, by omega⟩, by omega⟩)
    · exact h (trivial)
    · exact h trivial)
set_option maxHeartbeats 2000000 in
theorem q_sheets (l : Launch) (hst : l.stackTraces = false) (de mi : Nat) (D : va_G) (cy : Nat → ClassId) (M : mM) (sz a n : Nat) (c : Nat → Nat) (x : Nat → Nat → Nat) (hh : hall cy de M a c x) (hN : NB n c x) (k : Nat) (b : Bool) (hk : k < 3) : mVi l yX5_sheets wsX5_sheets ({ frames := 7, cells := 1, slots := 6, locals := 102 } : Room) de mi D cy M sz [.ref a, .int (nI k), .int (nI (b2 b))] (fun r M' => r = nI (shV x k (b2 b)) ∧ M' = M) (fun _ => False) 1 6 :=
  (a_sheets l hst de mi D cy M sz a n c x (nI k) (k : Int) (nI_toInt (by omega)) b hh hN).mono (fun r M' h => ⟨h.2.1.trans (rfl), h.2.2⟩) (fun E h => by
    rcases h with ⟨-, h⟩ | ⟨-, -, h⟩ | ⟨-, -, -, h⟩
    · exact h (⟨by omega, by omega⟩)
    · exact h (trivial)
    · exact h trivial)
set_option maxHeartbeats 2000000 in
theorem q_slips (l : Launch) (hst : l.stackTraces = false) (de mi : Nat) (D : va_G) (cy : Nat → ClassId) (M : mM) (sz a n : Nat) (c : Nat → Nat) (x : Nat → Nat → Nat) (hh : hall cy de M a c x) (hN : NB n c x) (s k : Nat) (hs : s < c 3) (hs9 : s < 1000) (hk : k ≤ 5) : mVi l yX5_slips wsX5_slips ({ frames := 7, cells := 4, slots := 24, locals := 103 } : Room) de mi D cy M sz [.ref a, .int (nI s), .int (nI k)] (fun r M' => r = nI (slV x s k) ∧ M' = M) (fun _ => False) 4 24 :=
  (a_slips l hst de mi D cy M sz a n c x (nI s) (s : Int) (nI_toInt (by omega)) (nI k) (k : Int) (nI_toInt (by omega)) hh hN).mono (fun r M' h => ⟨h.2.1.trans (congrArg nI (sl_eq x s k)), h.2.2⟩) (fun E h => by
    rcases h with ⟨-, h⟩ | ⟨-, -, h⟩ | ⟨-, -, -, h⟩
    · exact h (⟨by omega, by omega⟩)
    · exact h (⟨by omega, by omega⟩)
    · exact h trivial)
set_option maxHeartbeats 2000000 in
theorem q_orderAnew (l : Launch) (hst : l.stackTraces = false) (de mi : Nat) (D : va_G) (cy : Nat → ClassId) (M : mM) (sz a n : Nat) (c : Nat → Nat) (x : Nat → Nat → Nat) (hh : hall cy de M a c x) (hN : NB n c x) (s : Nat) (hs : s < c 3) (hs9 : s < 1000) : mVi l yX5_orderAnew wsX5_orderAnew ({ frames := 7, cells := 1, slots := 6, locals := 103 } : Room) de mi D cy M sz [.ref a, .int (nI s)] (fun r M' => r = nI (feV x s) ∧ M' = M) (fun _ => False) 1 6 :=
  (a_orderAnew l hst de mi D cy M sz a n c x (nI s) (s : Int) (nI_toInt (by omega)) hh hN).mono (fun r M' h => ⟨h.2.1.trans (rfl), h.2.2⟩) (fun E h => by
    rcases h with ⟨-, h⟩ | ⟨-, -, h⟩ | ⟨-, -, -, h⟩
    · exact h (⟨by omega, by omega⟩)
    · exact h (trivial)
    · exact h trivial)
set_option maxHeartbeats 2000000 in
theorem q_grade (l : Launch) (hst : l.stackTraces = false) (de mi : Nat) (D : va_G) (cy : Nat → ClassId) (M : mM) (sz a n : Nat) (c : Nat → Nat) (x : Nat → Nat → Nat) (hh : hall cy de M a c x) (hN : NB n c x) (s : Nat) (hs : s < c 3) (hs9 : s < 1000) : mVi l yX5_grade wsX5_grade ({ frames := 7, cells := 1, slots := 6, locals := 103 } : Room) de mi D cy M sz [.ref a, .int (nI s)] (fun r M' => r = zI (grV x s) ∧ M' = M) (fun _ => False) 1 6 :=
  (a_grade l hst de mi D cy M sz a n c x (nI s) (s : Int) (nI_toInt (by omega)) hh hN).mono (fun r M' h => ⟨h.2.1.trans (rfl), h.2.2⟩) (fun E h => by
    rcases h with ⟨-, h⟩ | ⟨-, -, h⟩ | ⟨-, -, -, h⟩
    · exact h (⟨by omega, by omega⟩)
    · exact h (trivial)
    · exact h trivial)
set_option maxHeartbeats 2000000 in
theorem q_lacks (l : Launch) (hst : l.stackTraces = false) (de mi : Nat) (D : va_G) (cy : Nat → ClassId) (M : mM) (sz a n : Nat) (c : Nat → Nat) (x : Nat → Nat → Nat) (hh : hall cy de M a c x) (hN : NB n c x) (s : Nat) (hs : s < c 3) (hs9 : s < 1000) : mVi l yX5_lacks wsX5_lacks ({ frames := 7, cells := 1, slots := 6, locals := 103 } : Room) de mi D cy M sz [.ref a, .int (nI s)] (fun r M' => r = zI (laV x s) ∧ M' = M) (fun _ => False) 1 6 :=
  (a_lacks l hst de mi D cy M sz a n c x (nI s) (s : Int) (nI_toInt (by omega)) hh hN).mono (fun r M' h => ⟨h.2.1.trans (rfl), h.2.2⟩) (fun E h => by
    rcases h with ⟨-, h⟩ | ⟨-, -, h⟩ | ⟨-, -, -, h⟩
    · exact h (⟨by omega, by omega⟩)
    · exact h (trivial)
    · exact h trivial)
set_option maxHeartbeats 2000000 in
theorem q_worth (l : Launch) (hst : l.stackTraces = false) (de mi : Nat) (D : va_G) (cy : Nat → ClassId) (M : mM) (sz a n : Nat) (c : Nat → Nat) (x : Nat → Nat → Nat) (hh : hall cy de M a c x) (hN : NB n c x) (s : Nat) (hs : s < c 3) (hs9 : s < 1000) : mVi l yX5_worth wsX5_worth ({ frames := 7, cells := 1, slots := 6, locals := 103 } : Room) de mi D cy M sz [.ref a, .int (nI s)] (fun r M' => r = zI (wC x s) ∧ M' = M) (fun _ => False) 1 6 :=
  (a_worth l hst de mi D cy M sz a n c x (nI s) (s : Int) (nI_toInt (by omega)) hh hN).mono (fun r M' h => ⟨h.2.1.trans (rfl), h.2.2⟩) (fun E h => by
    rcases h with ⟨-, h⟩ | ⟨-, -, h⟩ | ⟨-, -, -, h⟩
    · exact h (⟨by omega, by omega⟩)
    · exact h (trivial)
    · exact h trivial)
set_option maxHeartbeats 2000000 in
theorem q_place (l : Launch) (hst : l.stackTraces = false) (de mi : Nat) (D : va_G) (cy : Nat → ClassId) (M : mM) (sz a n : Nat) (c : Nat → Nat) (x : Nat → Nat → Nat) (hh : hall cy de M a c x) (hN : NB n c x) (s : Nat) (hs : s < c 3) (hs9 : s < 1000) : mVi l yX5_place wsX5_place ({ frames := 7, cells := 4, slots := 24, locals := 103 } : Room) de mi D cy M sz [.ref a, .int (nI s)] (fun r M' => r = zI (plV c x s) ∧ M' = M) (fun _ => False) 4 24 :=
  (a_place l hst de mi D cy M sz a n c x (nI s) (s : Int) (nI_toInt (by omega)) hh hN).mono (fun r M' h => ⟨h.2.1.trans (rfl), h.2.2⟩) (fun E h => by
    rcases h with ⟨-, h⟩ | ⟨-, -, h⟩ | ⟨-, -, -, h⟩
    · exact h (⟨by omega, by omega⟩)
    · exact h (trivial)
    · exact h trivial)
set_option maxHeartbeats 2000000 in
theorem q_at (l : Launch) (hst : l.stackTraces = false) (de mi : Nat) (D : va_G) (cy : Nat → ClassId) (M : mM) (sz a n : Nat) (c : Nat → Nat) (x : Nat → Nat → Nat) (hh : hall cy de M a c x) (hN : NB n c x) (p : Nat) (hp : 1 ≤ p) (hp9 : p < 1000) : mVi l yX5_at wsX5_at ({ frames := 6, cells := 4, slots := 24, locals := 102 } : Room) de mi D cy M sz [.ref a, .int (nI p)] (fun r M' => r = zI (atV c x p) ∧ M' = M) (fun _ => False) 4 24 :=
  (a_at l hst de mi D cy M sz a n c x (nI p) (p : Int) (nI_toInt (by omega)) hh hN).mono (fun r M' h => ⟨h.2.1.trans (rfl), h.2.2⟩) (fun E h => by
    rcases h with ⟨-, h⟩ | ⟨-, -, h⟩ | ⟨-, -, -, h⟩
    · exact h (by omega)
    · exact h (trivial)
    · exact h trivial)
section LCC
variable {p : Program} {l : Launch} {e : Env} {R : Room} {s : State} {m : MethodId} {args : Array Value} {below : List Frame} {meth : Method} {c : Code} {H : Heap} {locs : List Loc} {cells slots : Nat} {Q : State → Prop}
variable {cc : ByteArray} {pc : Nat} {ls : Array Slot} {rest st0 : List Value} {D : va_G} {cy : Nat → ClassId} {M : mM} {A : Nat → Prop} {mc ms : Nat} {a : Array Value} {H0 : Heap}
/-- a call that only reads -/
theorem r_call {v : Int32} (hr : vx_Run p l e R s m args below meth c H locs cells slots mc ms (F0 m pc ls st0) rest (va_Qi (fun r M' => r = v ∧ M' = M) (mB D M H.size) (mA M H.size) a) (mXC D M H.size (fun _ => False)) (mA M H.size)) (hD : mD A M) (hA : ∀ q, s.heap.size ≤ q → A q) (hS : va_S A s.heap H locs)
    (kk : ∀ (H1 : Heap) (locs1 : List Loc), pm D M H1 → va_S A s.heap H1 locs1 → H.size ≤ H1.size → W p l e R s m args below meth c H1 locs1 (cells + mc) (slots + ms) Q (F0 m (pc + 3) ls (.int v :: rest))) : W p l e R s m args below meth c H locs cells slots Q (F0 m pc ls st0) :=
  w_calli hr hD hA hS (fun E ce q9 H1 locs1 hpx _ _ _ _ _ _ _ => hpx.elim) (fun r M1 H1 locs1 hp hP1 hD1 hS1 hz1 hd1 hk1 => by
    obtain ⟨rfl, rfl⟩ := hp
    exact kk H1 locs1 hP1 hS1 hz1)
/-- a call of 'call' that is refused -/
theorem t_call {v : Int32} {post : Int32 → mM → Prop} {postX : String → Prop} (hr : vx_Run p l e R s m args below meth c H locs cells slots mc ms (F0 m pc ls st0) rest (va_Qi (callP post postX M) (mB D M H.size) (mA M H.size) a) (wXC M H.size) (mA M H.size)) (hv : ∀ r M', callP post postX M r M' → r = v ∧ M' = M) (hD : mD A M) (hA : ∀ q, s.heap.size ≤ q → A q) (hS : va_S A s.heap H locs)
    (kk : ∀ (H1 : Heap) (locs1 : List Loc), pm D M H1 → va_S A s.heap H1 locs1 → H.size ≤ H1.size → W p l e R s m args below meth c H1 locs1 (cells + mc) (slots + ms) Q (F0 m (pc + 3) ls (.int v :: rest))) : W p l e R s m args below meth c H locs cells slots Q (F0 m pc ls st0) :=
  w_call hr hD hA hS (fun r M1 H1 locs1 hp hP1 hD1 hS1 hz1 hd1 hk1 => by
    obtain ⟨rfl, rfl⟩ := hv _ _ hp
    exact kk H1 locs1 hP1 hS1 hz1)
/-- a call to both, the law's own rows N beside -/
theorem s_both {N M2 : mM} {post : Int32 → mM → Prop} (hr : va_Run p l e R s m args below meth c H locs cells slots mc ms (F0 m pc ls st0) rest (va_Qi post (mB D M2 H.size) (mA M2 H.size) a) (mA M2 H.size)) (hP : pm D (iwU M2 N) H) (hD : mD A (iwU M2 N)) (hj : dj M2 N) (hA : ∀ q, s.heap.size ≤ q → A q) (hS : va_S A s.heap H locs)
    (kk : ∀ (r : Int32) (M3 : mM) (H1 : Heap) (locs1 : List Loc), post r M3 → pm D (iwU M3 N) H1 → mD A (iwU M3 N) → dj M3 N → va_S A s.heap H1 locs1 → H.size ≤ H1.size → W p l e R s m args below meth c H1 locs1 (cells + mc) (slots + ms) Q (F0 m (pc + 3) ls (.int r :: rest))) : W p l e R s m args below meth c H locs cells slots Q (F0 m pc ls st0) :=
  m_calli hr (mD_Ul hD) hA hS (fun r M3 H1 locs1 hp hP1 hD1 hS1 hz1 hd1 hk1 => by
    have hPN := pm_frame (pm_Ur hP hj) hj.sy hk1
    have hjN := dj_after (pm_Ur hP hj) hj.sy hd1
    exact kk r M3 H1 locs1 hp (pm_U hP1 hPN) (mD_U hD1 (mD_Ur hD hj)) hjN.sy hS1 hz1)
/-- a write into the law's own row -/
theorem s_iast {N M2 : mM} {d n i v : Nat} {g : Nat → Nat} (hexec : p.tables.exec = Jvm.exec) (hb : c.code = cc) (hK : mK D cy s) (hP : pm D (iwU M2 N) H) (hD : mD A (iwU M2 N)) (hj : dj M2 N) (hS : va_S A H0 H locs) (he : N d = some (eI cy n g)) (hi : i < n) (hn : n < 2 ^ 31) (hdg : decode cc pc = .ok (.iastore, 1))
    (kk : ∀ (H1 : Heap) (locs1 : List Loc), pm D (iwU M2 (mset N d (eI cy n (va_up g i v)))) H1 → mD A (iwU M2 (mset N d (eI cy n (va_up g i v)))) → dj M2 (mset N d (eI cy n (va_up g i v))) → va_S A H0 H1 locs1 → W p l e R s m args below meth c H1 locs1 cells slots Q (F0 m (pc + 1) ls rest)) : W p l e R s m args below meth c H locs cells slots Q (F0 m pc ls (.int (nI v) :: .int (nI i) :: .ref d :: rest)) := by
  have h0 := hj.rn he
  refine n_iast hexec hb hK hP hD hS (iwU_r2 hj he) hi hn hdg (fun H1 locs1 hP1 hD1 hS1 => ?_)
  rw [iwU_set h0] at hP1 hD1
  exact kk H1 locs1 hP1 hD1 (hj.set h0) hS1
theorem e_wl {sz : Nat} {M0 : mM} {post : Int64 → mM → Prop} {v : Int64} (hexec : p.tables.exec = Jvm.exec) (hb : c.code = cc) (hr : meth.sig.returnType = some .long) (hlocks : meth.locks = false) (hP : pm D M H) (hD : mD (mA M0 sz) M) (hS : va_S (mA M0 sz) s.heap H locs) (hp : post v M) (hdg : decode cc pc = .ok (.lreturn, 1)) (hc : cells ≤ mc) (hs : slots ≤ ms) : W p l e R s m args below meth c H locs cells slots (MQ below (va_Ql post (mB D M0 sz) (mA M0 sz)) args s mc ms (mA M0 sz)) (F0 m pc ls [.long v]) :=
  W.widen hc hs (W.lret hexec hb hr (fun t ht hW => ⟨⟨v, M, rfl, hp, by rw [ht]; exact hP, hD⟩, hS.F ht⟩) hS.2.2 hdg hlocks)
theorem m_calll {st0 : List Value} {post : Int64 → mM → Prop} (hr : va_Run p l e R s m args below meth c H locs cells slots mc ms (F0 m pc ls st0) rest (va_Ql post (mB D M H.size) (mA M H.size) a) (mA M H.size)) (hD : mD A M) (hA : ∀ q, s.heap.size ≤ q → A q) (hS : va_S A s.heap H locs)
    (kk : ∀ (r : Int64) (M1 : mM) (H1 : Heap) (locs1 : List Loc), post r M1 → pm D M1 H1 → mD A M1 → va_S A s.heap H1 locs1 → H.size ≤ H1.size → W p l e R s m args below meth c H1 locs1 (cells + mc) (slots + ms) Q (F0 m (pc + 3) ls (.long r :: rest))) : W p l e R s m args below meth c H locs cells slots Q (F0 m pc ls st0) :=
  va_calll hr hS (fun q _ h => mA_sub hD hS hA q h) (mA_sub hD hS hA) (fun r u t H1 locs1 ht hvm hw hB hz hk hS1 => kk r u H1 locs1 hw (by rw [← ht]; exact hB.1) (fun q hq => mA_sub hD hS hA q (hB.2 q hq)) hS1 hz)
end LCC
/-- what holds all the way in a method of the law -/
def LC (p : Program) (l : Launch) (s : State) (m : MethodId) (args : Array Value) (c : Code) (cc : ByteArray) (nL : Nat) (ws : List Cond) (A : Nat → Prop) (D : va_G) (cy : Nat → ClassId) (de mi : Nat) : Prop :=
  p.tables.exec = Jvm.exec ∧ c.code = cc ∧ c.maxLocals = nL ∧ s.vm.findClass RL = some m.cls ∧ (∀ w ∈ ws, w.before args s = true) ∧ (∀ q, s.heap.size ≤ q → A q) ∧ mK D cy s ∧ cX de mi A s s.heap ∧ cN s ∧ l.stackTraces = false
/-- .. and its end: 1 is answered -/
def LE (p : Program) (l : Launch) (e : Env) (R : Room) (s : State) (m : MethodId) (args : Array Value) (below : List Frame) (meth : Method) (c : Code) (cc : ByteArray) (A : Nat → Prop) (D : va_G) (mc ms : Nat) (Q : State → Prop) (post : mM → Prop) : Prop :=
  ∀ (k n : Nat) (M' : mM) (H : Heap) (locs : List Loc) (pc : Nat) (ls : Array Slot), pm D M' H → mD A M' → va_S A s.heap H locs → post M' → decode cc pc = .ok (.ireturn, 1) → k ≤ mc → n ≤ ms → W p l e R s m args below meth c H locs k n Q (F0 m pc ls [.int (nI 1)])
/-! some: a number below n out of x -/
def someX (x : Int32) : Int32 := (x.toUInt32 >>> ((nI 1).toUInt32 &&& Int32.toUInt32 31)).toInt32
def someF (x : Int32) (n : Nat) : Nat := (someX x).toInt.toNat % n
theorem someF_lt (x : Int32) {n : Nat} (hn : 0 < n) : someF x n < n := Nat.mod_lt _ hn
theorem someX_nn (x : Int32) : 0 ≤ (someX x).toInt ∧ (someX x).toInt < 2 ^ 31 := by
  have h : (someX x).toBitVec = x.toBitVec >>> (1 : Nat) := by
    unfold someX
    rfl
  have h2 : (someX x).toInt = (x.toBitVec >>> (1 : Nat)).toInt := by
    rw [← h]
    rfl
  have h3 : (x.toBitVec >>> (1 : Nat)).toNat < 2 ^ 31 := by
    rw [BitVec.toNat_ushiftRight, Nat.shiftRight_eq_div_pow]
    have := x.toBitVec.isLt
    omega
  rw [h2, BitVec.toInt_eq_toNat_of_lt (by omega)]
  omega
set_option maxHeartbeats 2000000 in
theorem c_L_some (l : Launch) (x : Int32) (n : Nat) (h0 : 0 < n) (hn : n < 2 ^ 31) : mS l yL_some wsL_some ({ frames := 0, cells := 0, slots := 0, locals := 0 } : Room) [.int x, .int (nI n)] (fun r => r = nI (someF x n)) := by
  refine mS.of (cc := cL_some) (maxL := 2) (ret := some .int) (by decide) rfl (Nat.le_of_ble_eq_true rfl) ?_
  intro p e s m args below meth c ls hx hb hr hts hown hlocks hml hl
  have hl : lv_has ls 2 [(0, .int x), (1, .int (nI n))] := hl
  refine lv_iload_n hx hb dL_some_0 rfl (lv_at hl 0 rfl) ?_
  refine lv_iconst (v := nI 1) hx hb dL_some_1 (by decide) ?_
  refine lv_iushr (v := someX x) hx hb dL_some_2 rfl ?_
  refine lv_iload_n hx hb dL_some_3 rfl (lv_at hl 1 rfl) ?_
  have h1 := someX_nn x
  have e1 : someX x = nI (someX x).toInt.toNat := nI_of_toInt rfl h1.1
  rw [e1]
  refine n_rem (x := (someX x).toInt.toNat) (y := n) hx hb (by omega) h0 hn dL_some_4 ?_
  exact e_ri hx hb hr hlocks rfl dL_some_5
