set_option maxRecDepth 100000 in
set_option maxHeartbeats 4000000 in
theorem c_X0_size (l : Launch) (D : va_G) (cy : Nat → ClassId) (M : mM) (a qe qv n : Nat) (x v : Nat → Nat)  (f_a : M a = some (.inr (1, [.ref qe, .ref qv, .int (nI n)]))) (f_qe : M qe = some (eI cy 3 x)) (f_qv : M qv = some (eI cy 3 v))  : mR l yX0_size wsX0_size ({ frames := 0, cells := 0, slots := 0, locals := 0 } : Room) D cy M [.ref a] (fun r => r = nI n) := by
  refine mR.of (cc := cX0_size) (maxL := 1) (ret := (some .int)) (by decide) rfl (Nat.le_of_ble_eq_true rfl) ?_
  intro p e s m args below meth c ls hx hb hr hts hown hlocks hml hP hK hl
  have hl : lv_has ls 1 [(0, .ref a)] := hl
  have hown : s.vm.findClass RX0 = some m.cls := hown
  have hwX0 : ∀ w ∈ wsX00, w.before args s = true := fun w h => hts w (List.mem_cons_of_mem _ (List.mem_append_right _ (h)))
  refine lv_aload_n hx hb dX0_size_0 rfl (lv_at hl 0 rfl) ?_
  refine m_get (T := TX0) (N := 3) (ci := 1) (fs := [.ref qe, .ref qv, .int (nI n)]) hx hb hwX0 hown hK hP f_a rfl 2 (by decide) (hts _ (List.mem_of_getElem? (i := 1) rfl)) (v := .int (nI n)) rfl dX0_size_1 ?_
  exact e_ri hx hb hr hlocks (rfl) dX0_size_4

set_option maxRecDepth 100000 in
set_option maxHeartbeats 4000000 in
theorem c_X0_hasOneOf (l : Launch) (D : va_G) (cy : Nat → ClassId) (M : mM) (a qe qv n : Nat) (x v : Nat → Nat) (k : Nat)  (f_a : M a = some (.inr (1, [.ref qe, .ref qv, .int (nI n)]))) (f_qe : M qe = some (eI cy 3 x)) (f_qv : M qv = some (eI cy 3 v)) (hn : n ≤ 3) (hx2 : ∀ j, x j ≤ 5) (hk : k ≤ 5) : mR l yX0_hasOneOf wsX0_hasOneOf ({ frames := 0, cells := 0, slots := 0, locals := 0 } : Room) D cy M [.ref a, .int (nI k)] (fun r => r = nI (b2 (hasC x k n))) := by
  refine mR.of (cc := cX0_hasOneOf) (maxL := 3) (ret := (some .boolean)) (by decide) rfl (Nat.le_of_ble_eq_true rfl) ?_
  intro p e s m args below meth c ls hx hb hr hts hown hlocks hml hP hK hl
  have hl : lv_has ls 3 [(0, .ref a), (1, .int (nI k))] := hl
  have hown : s.vm.findClass RX0 = some m.cls := hown
  have hwX0 : ∀ w ∈ wsX00, w.before args s = true := fun w h => hts w (List.mem_cons_of_mem _ (List.mem_append_right _ (h)))
  refine lv_iconst (v := (nI 0)) hx hb dX0_hasOneOf_0 (by decide) ?_
  refine lv_istore_n (lv' := [(2, .int (nI 0)), (0, .ref a), (1, .int (nI k))]) hx hb dX0_hasOneOf_1 rfl hl (by decide) rfl (fun ls hl => ?_)
  have K2 : ∀ (n9 : Nat) (j : Nat), 4 - j < n9 → (j ≤ n) → (hasC x k j = false) → ∀ (ls : Array Slot), lv_has ls 3 [(0, .ref a), (1, .int (nI k)), (2, .int (nI j))] → W p l e ({ frames := 0, cells := 0, slots := 0, locals := 0 } : Room) s m args below meth c s.heap [] 0 0 (MQ below (vp_Si (fun r => r = nI (b2 (hasC x k n)))) args s 0 0 (fun _ => False)) (F0 m 2 ls []) := by
    intro n9
    induction n9 with
    | zero => intro j hn; exact absurd hn (by omega)
    | succ n9 ih2 =>
      intro j hn2 i2_0 i2_1 ls hl
      have hxj := hx2 j
      refine lv_iload_n hx hb dX0_hasOneOf_2 rfl (lv_at hl 2 rfl) ?_
      refine lv_aload_n hx hb dX0_hasOneOf_3 rfl (lv_at hl 0 rfl) ?_
      refine m_get (T := TX0) (N := 3) (ci := 1) (fs := [.ref qe, .ref qv, .int (nI n)]) hx hb hwX0 hown hK hP f_a rfl 2 (by decide) (hts _ (List.mem_of_getElem? (i := 1) rfl)) (v := .int (nI n)) rfl dX0_hasOneOf_4 ?_
      refine z_icmp_ge (u := ((j : Nat) : Int)) (v := ((n : Nat) : Int)) (tgt := 28) hx hb (nI_toInt (by omega)) (nI_toInt (by omega)) dX0_hasOneOf_7 (by decide) (fun c_7 => ?_) (fun c_7 => ?_)
      · refine lv_iconst (v := (nI 0)) hx hb dX0_hasOneOf_28 (by decide) ?_
        exact e_rz hx hb hr hlocks (by first | decide | exact b2_le _ | omega) ((b2_f (hasC_full i2_1 (by omega))).symm) dX0_hasOneOf_29
      · refine lv_aload_n hx hb dX0_hasOneOf_10 rfl (lv_at hl 0 rfl) ?_
        refine m_get (T := TX0) (N := 3) (ci := 1) (fs := [.ref qe, .ref qv, .int (nI n)]) hx hb hwX0 hown hK hP f_a rfl 0 (by decide) (hts _ (List.mem_of_getElem? (i := 2) rfl)) (v := .ref qe) rfl dX0_hasOneOf_11 ?_
        refine lv_iload_n hx hb dX0_hasOneOf_14 rfl (lv_at hl 2 rfl) ?_
        refine n_iald (g := x) (n := 3) (i := j) hx hb hK hP f_qe (by omega) (by omega) dX0_hasOneOf_15 ?_
        refine lv_iload_n hx hb dX0_hasOneOf_16 rfl (lv_at hl 1 rfl) ?_
        refine z_icmp_ne (u := ((x j : Nat) : Int)) (v := ((k : Nat) : Int)) (tgt := 22) hx hb (nI_toInt (by omega)) (nI_toInt (by omega)) dX0_hasOneOf_17 (by decide) (fun c_17 => ?_) (fun c_17 => ?_)
        · refine n_iinc (x := j) (k := 1) (lv' := [(2, .int (nI (j + 1))), (0, .ref a), (1, .int (nI k))]) hx hb dX0_hasOneOf_22 rfl hl (q := 2) rfl (by decide) rfl (fun ls hl => ?_)
          refine lv_goto (tgt := 2) hx hb dX0_hasOneOf_25 (by decide) ?_
          exact ih2  (j + 1) (by omega) (by omega) (hasC_miss i2_1 (by omega)) _ (lv_sub hl [1, 2, 0] rfl)
        · refine lv_iconst (v := (nI 1)) hx hb dX0_hasOneOf_20 (by decide) ?_
          exact e_rz hx hb hr hlocks (by first | decide | exact b2_le _ | omega) ((b2_t (hasC_hit (j := j) (by omega) (by omega))).symm) dX0_hasOneOf_21
  exact K2 (4 - 0 + 1) 0 (Nat.lt_succ_self _) (Nat.zero_le _) (rfl) _ (lv_sub hl [1, 2, 0] rfl)

set_option maxRecDepth 100000 in
set_option maxHeartbeats 4000000 in
theorem c_X0_add (l : Launch) (D : va_G) (cy : Nat → ClassId) (M : mM) (sz : Nat) (a qe qv n : Nat) (x v : Nat → Nat) (k w : Nat)  (f_a : M a = some (.inr (1, [.ref qe, .ref qv, .int (nI n)]))) (f_qe : M qe = some (eI cy 3 x)) (f_qv : M qv = some (eI cy 3 v)) (n_qe_qv : qe ≠ qv) (hn : n < 3) : mWv l yX0_add wsX0_add ({ frames := 0, cells := 0, slots := 0, locals := 0 } : Room) D cy M sz [.ref a, .int (nI k), .int (nI w)] (fun M' => M' = mset (mset (mset M qe (eI cy 3 (va_up x n k))) qv (eI cy 3 (va_up v n w))) a (.inr (1, [.ref qe, .ref qv, .int (nI (n + 1))]))) 0 0 := by
  refine mW.of (cc := cX0_add) (maxL := 3) (ret := none) (by decide) rfl (Nat.le_of_ble_eq_true rfl) ?_
  intro p e s m args below meth c ls hsz hx hb hr hts hown hlocks hml hname hP hD hS hA hK hl
  have hl : lv_has ls 3 [(0, .ref a), (1, .int (nI k)), (2, .int (nI w))] := hl
  have hown : s.vm.findClass RX0 = some m.cls := hown
  have hwX0 : ∀ w ∈ wsX00, w.before args s = true := fun w h => hts w (List.mem_cons_of_mem _ (List.mem_append_right _ (h)))
  have n_a_qe : a ≠ qe := ne_cell f_a f_qe (fun h9 => by simp at h9)
  have n_a_qv : a ≠ qv := ne_cell f_a f_qv (fun h9 => by simp at h9)
  refine lv_aload_n hx hb dX0_add_0 rfl (lv_at hl 0 rfl) ?_
  refine m_get (T := TX0) (N := 3) (ci := 1) (fs := [.ref qe, .ref qv, .int (nI n)]) hx hb hwX0 hown hK hP f_a rfl 2 (by decide) (hts _ (List.mem_of_getElem? (i := 1) rfl)) (v := .int (nI n)) rfl dX0_add_1 ?_
  refine lv_iconst (v := (nI 3)) hx hb dX0_add_4 (by decide) ?_
  refine z_icmp_ge (u := ((n : Nat) : Int)) (v := ((3 : Nat) : Int)) (tgt := 38) hx hb (nI_toInt (by omega)) (nI_toInt (by omega)) dX0_add_5 (by decide) (fun c_5 => ?_) (fun c_5 => ?_)
  · exact e_wv hx hb hr hlocks hP hD hS ((by omega)) dX0_add_38
  · refine lv_aload_n hx hb dX0_add_8 rfl (lv_at hl 0 rfl) ?_
    refine m_get (T := TX0) (N := 3) (ci := 1) (fs := [.ref qe, .ref qv, .int (nI n)]) hx hb hwX0 hown hK hP f_a rfl 0 (by decide) (hts _ (List.mem_of_getElem? (i := 2) rfl)) (v := .ref qe) rfl dX0_add_9 ?_
    refine lv_aload_n hx hb dX0_add_12 rfl (lv_at hl 0 rfl) ?_
    refine m_get (T := TX0) (N := 3) (ci := 1) (fs := [.ref qe, .ref qv, .int (nI n)]) hx hb hwX0 hown hK hP f_a rfl 2 (by decide) (hts _ (List.mem_of_getElem? (i := 1) rfl)) (v := .int (nI n)) rfl dX0_add_13 ?_
    refine lv_iload_n hx hb dX0_add_16 rfl (lv_at hl 1 rfl) ?_
    refine n_iast (g := x) (n := 3) (i := n) (v := k) hx hb hK hP hD hS f_qe (by omega) (by omega) dX0_add_17 (fun H locs hP hD hS => ?_)
    have hP : pm D (mset M qe (eI cy 3 (va_up x n k))) H := hP
    have hD : mD (mA M sz) (mset M qe (eI cy 3 (va_up x n k))) := hD
    refine lv_aload_n hx hb dX0_add_18 rfl (lv_at hl 0 rfl) ?_
    refine m_get (T := TX0) (N := 3) (ci := 1) (fs := [.ref qe, .ref qv, .int (nI n)]) hx hb hwX0 hown hK hP ((mset_ne n_a_qe).trans (f_a)) rfl 1 (by decide) (hts _ (List.mem_of_getElem? (i := 3) rfl)) (v := .ref qv) rfl dX0_add_19 ?_
    refine lv_aload_n hx hb dX0_add_22 rfl (lv_at hl 0 rfl) ?_
    refine m_get (T := TX0) (N := 3) (ci := 1) (fs := [.ref qe, .ref qv, .int (nI n)]) hx hb hwX0 hown hK hP ((mset_ne n_a_qe).trans (f_a)) rfl 2 (by decide) (hts _ (List.mem_of_getElem? (i := 1) rfl)) (v := .int (nI n)) rfl dX0_add_23 ?_
    refine lv_iload_n hx hb dX0_add_26 rfl (lv_at hl 2 rfl) ?_
    refine n_iast (g := v) (n := 3) (i := n) (v := w) hx hb hK hP hD hS ((mset_ne (Ne.symm n_qe_qv)).trans (f_qv)) (by omega) (by omega) dX0_add_27 (fun H locs hP hD hS => ?_)
    have hP : pm D (mset (mset M qe (eI cy 3 (va_up x n k))) qv (eI cy 3 (va_up v n w))) H := hP
    have hD : mD (mA M sz) (mset (mset M qe (eI cy 3 (va_up x n k))) qv (eI cy 3 (va_up v n w))) := hD
    refine lv_aload_n hx hb dX0_add_28 rfl (lv_at hl 0 rfl) ?_
    refine lv_dup hx hb dX0_add_29 rfl ?_
    refine m_get (T := TX0) (N := 3) (ci := 1) (fs := [.ref qe, .ref qv, .int (nI n)]) hx hb hwX0 hown hK hP ((mset_ne n_a_qv).trans ((mset_ne n_a_qe).trans (f_a))) rfl 2 (by decide) (hts _ (List.mem_of_getElem? (i := 1) rfl)) (v := .int (nI n)) rfl dX0_add_30 ?_
    refine lv_iconst (v := (nI 1)) hx hb dX0_add_33 (by decide) ?_
    refine n_add (x := n) (y := 1) hx hb dX0_add_34 ?_
    refine m_put (T := TX0) (N := 3) (ci := 1) (fs := [.ref qe, .ref qv, .int (nI n)]) (v := .int (nI (n + 1))) hx hb hwX0 tyX0 tyX0_ok nmX0 hown hK hP hD hS ((mset_ne n_a_qv).trans ((mset_ne n_a_qe).trans (f_a))) rfl 2 (by decide) (hts _ (List.mem_of_getElem? (i := 1) rfl)) rfl (rfl) rfl (Nat.le_of_ble_eq_true rfl) dX0_add_35 (fun H locs hP hD hS => ?_)
    have hP : pm D (mset (mset (mset M qe (eI cy 3 (va_up x n k))) qv (eI cy 3 (va_up v n w))) a (.inr (1, [.ref qe, .ref qv, .int (nI (n + 1))]))) H := hP
    have hD : mD (mA M sz) (mset (mset (mset M qe (eI cy 3 (va_up x n k))) qv (eI cy 3 (va_up v n w))) a (.inr (1, [.ref qe, .ref qv, .int (nI (n + 1))]))) := hD
    exact e_wv hx hb hr hlocks hP hD hS (rfl) dX0_add_38

set_option maxRecDepth 100000 in
set_option maxHeartbeats 4000000 in
theorem c_X0_removeOf (l : Launch) (D : va_G) (cy : Nat → ClassId) (M : mM) (sz : Nat) (a qe qv n : Nat) (x v : Nat → Nat) (k : Nat)  (f_a : M a = some (.inr (1, [.ref qe, .ref qv, .int (nI n)]))) (f_qe : M qe = some (eI cy 3 x)) (f_qv : M qv = some (eI cy 3 v)) (n_qe_qv : qe ≠ qv) (hn : n ≤ 3) (hx2 : ∀ j, x j ≤ 5) (hk : k ≤ 5) : mWv l yX0_removeOf wsX0_removeOf ({ frames := 0, cells := 0, slots := 0, locals := 0 } : Room) D cy M sz [.ref a, .int (nI k)] (fun M' => M' = mset (mset (mset M qe (eI cy 3 (remA x v k n).2.1)) qv (eI cy 3 (remA x v k n).2.2)) a (.inr (1, [.ref qe, .ref qv, .int (nI (remA x v k n).1)]))) 0 0 := by
  refine mW.of (cc := cX0_removeOf) (maxL := 4) (ret := none) (by decide) rfl (Nat.le_of_ble_eq_true rfl) ?_
  intro p e s m args below meth c ls hsz hx hb hr hts hown hlocks hml hname hP hD hS hA hK hl
  have hl : lv_has ls 4 [(0, .ref a), (1, .int (nI k))] := hl
  have hown : s.vm.findClass RX0 = some m.cls := hown
  have hwX0 : ∀ w ∈ wsX00, w.before args s = true := fun w h => hts w (List.mem_cons_of_mem _ (List.mem_append_right _ (h)))
  have n_a_qe : a ≠ qe := ne_cell f_a f_qe (fun h9 => by simp at h9)
  have n_a_qv : a ≠ qv := ne_cell f_a f_qv (fun h9 => by simp at h9)
  refine lv_iconst (v := (nI 0)) hx hb dX0_removeOf_0 (by decide) ?_
  refine lv_istore_n (lv' := [(2, .int (nI 0)), (0, .ref a), (1, .int (nI k))]) hx hb dX0_removeOf_1 rfl hl (by decide) rfl (fun ls hl => ?_)
  refine lv_iconst (v := (nI 0)) hx hb dX0_removeOf_2 (by decide) ?_
  refine lv_istore_n (lv' := [(3, .int (nI 0)), (2, .int (nI 0)), (0, .ref a), (1, .int (nI k))]) hx hb dX0_removeOf_3 rfl hl (by decide) rfl (fun ls hl => ?_)
  have K4 : ∀ (n9 : Nat) (j : Nat), 4 - j < n9 → (j ≤ n) → ∀ (Mq : mM) (H : Heap) (locs : List Loc), pm D Mq H → mD (mA M sz) Mq → va_S (mA M sz) s.heap H locs → (Mq = (mset (mset M qe (eI cy 3 ((remA x v k j).2.1))) qv (eI cy 3 ((remA x v k j).2.2)))) → ∀ (ls : Array Slot), lv_has ls 4 [(0, .ref a), (1, .int (nI k)), (2, .int (nI ((remA x v k j).1))), (3, .int (nI j))] → W p l e ({ frames := 0, cells := 0, slots := 0, locals := 0 } : Room) s m args below meth c H locs 0 0 (MQ below (va_Qv (fun M' => M' = mset (mset (mset M qe (eI cy 3 (remA x v k n).2.1)) qv (eI cy 3 (remA x v k n).2.2)) a (.inr (1, [.ref qe, .ref qv, .int (nI (remA x v k n).1)]))) (mB D M sz) (mA M sz)) args s 0 0 (mA M sz)) (F0 m 4 ls []) := by
    intro n9
    induction n9 with
    | zero => intro j hn; exact absurd hn (by omega)
    | succ n9 ih4 =>
      intro j hn4 i4_0 Mq H locs hP hD hS hW ls hl
      have hle := remA_le x v k j
      have hxj := remA_x (v := v) hx2 k j
      subst hW
      refine lv_iload_n hx hb dX0_removeOf_4 rfl (lv_at hl 3 rfl) ?_
      refine lv_aload_n hx hb dX0_removeOf_5 rfl (lv_at hl 0 rfl) ?_
      refine m_get (T := TX0) (N := 3) (ci := 1) (fs := [.ref qe, .ref qv, .int (nI n)]) hx hb hwX0 hown hK hP ((mset_ne n_a_qv).trans ((mset_ne n_a_qe).trans (f_a))) rfl 2 (by decide) (hts _ (List.mem_of_getElem? (i := 1) rfl)) (v := .int (nI n)) rfl dX0_removeOf_6 ?_
      refine z_icmp_ge (u := ((j : Nat) : Int)) (v := ((n : Nat) : Int)) (tgt := 55) hx hb (nI_toInt (by omega)) (nI_toInt (by omega)) dX0_removeOf_9 (by decide) (fun c_9 => ?_) (fun c_9 => ?_)
      · refine lv_aload_n hx hb dX0_removeOf_55 rfl (lv_at hl 0 rfl) ?_
        refine lv_iload_n hx hb dX0_removeOf_56 rfl (lv_at hl 2 rfl) ?_
        refine m_put (T := TX0) (N := 3) (ci := 1) (fs := [.ref qe, .ref qv, .int (nI n)]) (v := .int (nI ((remA x v k j).1))) hx hb hwX0 tyX0 tyX0_ok nmX0 hown hK hP hD hS ((mset_ne n_a_qv).trans ((mset_ne n_a_qe).trans (f_a))) rfl 2 (by decide) (hts _ (List.mem_of_getElem? (i := 1) rfl)) rfl (rfl) rfl (Nat.le_of_ble_eq_true rfl) dX0_removeOf_57 (fun H locs hP hD hS => ?_)
        have hP : pm D (mset (mset (mset M qe (eI cy 3 ((remA x v k j).2.1))) qv (eI cy 3 ((remA x v k j).2.2))) a (.inr (1, [.ref qe, .ref qv, .int (nI ((remA x v k j).1))]))) H := hP
        have hD : mD (mA M sz) (mset (mset (mset M qe (eI cy 3 ((remA x v k j).2.1))) qv (eI cy 3 ((remA x v k j).2.2))) a (.inr (1, [.ref qe, .ref qv, .int (nI ((remA x v k j).1))]))) := hD
        exact e_wv hx hb hr hlocks hP hD hS ((by rw [show n = j by omega])) dX0_removeOf_60
      · refine lv_aload_n hx hb dX0_removeOf_12 rfl (lv_at hl 0 rfl) ?_
        refine m_get (T := TX0) (N := 3) (ci := 1) (fs := [.ref qe, .ref qv, .int (nI n)]) hx hb hwX0 hown hK hP ((mset_ne n_a_qv).trans ((mset_ne n_a_qe).trans (f_a))) rfl 0 (by decide) (hts _ (List.mem_of_getElem? (i := 2) rfl)) (v := .ref qe) rfl dX0_removeOf_13 ?_
        have hxj9 := hxj j
        refine lv_iload_n hx hb dX0_removeOf_16 rfl (lv_at hl 3 rfl) ?_
        refine n_iald (g := ((remA x v k j).2.1)) (n := 3) (i := j) hx hb hK hP ((mset_ne n_qe_qv).trans (mset_self _ _ _)) (by omega) (by omega) dX0_removeOf_17 ?_
        refine lv_iload_n hx hb dX0_removeOf_18 rfl (lv_at hl 1 rfl) ?_
        refine z_icmp_eq (u := ((((remA x v k j).2.1) j : Nat) : Int)) (v := ((k : Nat) : Int)) (tgt := 49) hx hb (nI_toInt (by omega)) (nI_toInt (by omega)) dX0_removeOf_19 (by decide) (fun c_19 => ?_) (fun c_19 => ?_)
        · refine n_iinc (x := j) (k := 1) (lv' := [(3, .int (nI (j + 1))), (0, .ref a), (1, .int (nI k)), (2, .int (nI ((remA x v k j).1)))]) hx hb dX0_removeOf_49 rfl hl (q := 3) rfl (by decide) rfl (fun ls hl => ?_)
          refine lv_goto (tgt := 4) hx hb dX0_removeOf_52 (by decide) ?_
          have hl : lv_has ls 4 [(3, .int (nI (j + 1))), (0, .ref a), (1, .int (nI k)), (2, .int (nI ((remA x v k (j + 1)).1)))] := by
            have heq0 : (.int (nI ((remA x v k (j + 1)).1)) : Value) = .int (nI ((remA x v k j).1)) := by first | rw [remA_eq (by omega)] | rw [remA_ne (by omega)]
            rw [heq0]
            exact hl
          exact ih4  (j + 1) (by omega) (by omega) _ _ _ hP hD hS ((by first | rw [remA_eq (by omega)] | rw [remA_ne (by omega)])) _ (lv_sub hl [1, 2, 3, 0] rfl)
        · refine lv_aload_n hx hb dX0_removeOf_22 rfl (lv_at hl 0 rfl) ?_
          refine m_get (T := TX0) (N := 3) (ci := 1) (fs := [.ref qe, .ref qv, .int (nI n)]) hx hb hwX0 hown hK hP ((mset_ne n_a_qv).trans ((mset_ne n_a_qe).trans (f_a))) rfl 0 (by decide) (hts _ (List.mem_of_getElem? (i := 2) rfl)) (v := .ref qe) rfl dX0_removeOf_23 ?_
          refine lv_iload_n hx hb dX0_removeOf_26 rfl (lv_at hl 2 rfl) ?_
          refine lv_aload_n hx hb dX0_removeOf_27 rfl (lv_at hl 0 rfl) ?_
          refine m_get (T := TX0) (N := 3) (ci := 1) (fs := [.ref qe, .ref qv, .int (nI n)]) hx hb hwX0 hown hK hP ((mset_ne n_a_qv).trans ((mset_ne n_a_qe).trans (f_a))) rfl 0 (by decide) (hts _ (List.mem_of_getElem? (i := 2) rfl)) (v := .ref qe) rfl dX0_removeOf_28 ?_
          refine lv_iload_n hx hb dX0_removeOf_31 rfl (lv_at hl 3 rfl) ?_
          refine n_iald (g := ((remA x v k j).2.1)) (n := 3) (i := j) hx hb hK hP ((mset_ne n_qe_qv).trans (mset_self _ _ _)) (by omega) (by omega) dX0_removeOf_32 ?_
          refine n_iast (g := ((remA x v k j).2.1)) (n := 3) (i := (remA x v k j).1) (v := ((remA x v k j).2.1) j) hx hb hK hP hD hS ((mset_ne n_qe_qv).trans (mset_self _ _ _)) (by omega) (by omega) dX0_removeOf_33 (fun H locs hP hD hS => ?_)
          have hP : pm D (mset (mset (mset M qe (eI cy 3 ((remA x v k j).2.1))) qv (eI cy 3 ((remA x v k j).2.2))) qe (eI cy 3 (va_up ((remA x v k j).2.1) ((remA x v k j).1) (((remA x v k j).2.1) j)))) H := hP
          have hD : mD (mA M sz) (mset (mset (mset M qe (eI cy 3 ((remA x v k j).2.1))) qv (eI cy 3 ((remA x v k j).2.2))) qe (eI cy 3 (va_up ((remA x v k j).2.1) ((remA x v k j).1) (((remA x v k j).2.1) j)))) := hD
          rw [mset_comm _ (eI cy 3 ((remA x v k j).2.1)) (eI cy 3 ((remA x v k j).2.2)) (n_qe_qv), mset_mset _ qe (eI cy 3 ((remA x v k j).2.1)) (eI cy 3 (va_up ((remA x v k j).2.1) ((remA x v k j).1) (((remA x v k j).2.1) j)))] at hP hD
          refine lv_aload_n hx hb dX0_removeOf_34 rfl (lv_at hl 0 rfl) ?_
          refine m_get (T := TX0) (N := 3) (ci := 1) (fs := [.ref qe, .ref qv, .int (nI n)]) hx hb hwX0 hown hK hP ((mset_ne n_a_qe).trans ((mset_ne n_a_qv).trans (f_a))) rfl 1 (by decide) (hts _ (List.mem_of_getElem? (i := 3) rfl)) (v := .ref qv) rfl dX0_removeOf_35 ?_
          refine lv_iload_n hx hb dX0_removeOf_38 rfl (lv_at hl 2 rfl) ?_
          refine lv_aload_n hx hb dX0_removeOf_39 rfl (lv_at hl 0 rfl) ?_
          refine m_get (T := TX0) (N := 3) (ci := 1) (fs := [.ref qe, .ref qv, .int (nI n)]) hx hb hwX0 hown hK hP ((mset_ne n_a_qe).trans ((mset_ne n_a_qv).trans (f_a))) rfl 1 (by decide) (hts _ (List.mem_of_getElem? (i := 3) rfl)) (v := .ref qv) rfl dX0_removeOf_40 ?_
          refine lv_iload_n hx hb dX0_removeOf_43 rfl (lv_at hl 3 rfl) ?_
          refine n_iald (g := ((remA x v k j).2.2)) (n := 3) (i := j) hx hb hK hP ((mset_ne (Ne.symm n_qe_qv)).trans (mset_self _ _ _)) (by omega) (by omega) dX0_removeOf_44 ?_
          refine n_iast (g := ((remA x v k j).2.2)) (n := 3) (i := (remA x v k j).1) (v := ((remA x v k j).2.2) j) hx hb hK hP hD hS ((mset_ne (Ne.symm n_qe_qv)).trans (mset_self _ _ _)) (by omega) (by omega) dX0_removeOf_45 (fun H locs hP hD hS => ?_)
          have hP : pm D (mset (mset (mset M qv (eI cy 3 ((remA x v k j).2.2))) qe (eI cy 3 (va_up ((remA x v k j).2.1) ((remA x v k j).1) (((remA x v k j).2.1) j)))) qv (eI cy 3 (va_up ((remA x v k j).2.2) ((remA x v k j).1) (((remA x v k j).2.2) j)))) H := hP
          have hD : mD (mA M sz) (mset (mset (mset M qv (eI cy 3 ((remA x v k j).2.2))) qe (eI cy 3 (va_up ((remA x v k j).2.1) ((remA x v k j).1) (((remA x v k j).2.1) j)))) qv (eI cy 3 (va_up ((remA x v k j).2.2) ((remA x v k j).1) (((remA x v k j).2.2) j)))) := hD
          rw [mset_comm _ (eI cy 3 ((remA x v k j).2.2)) (eI cy 3 (va_up ((remA x v k j).2.1) ((remA x v k j).1) (((remA x v k j).2.1) j))) ((Ne.symm n_qe_qv)), mset_mset _ qv (eI cy 3 ((remA x v k j).2.2)) (eI cy 3 (va_up ((remA x v k j).2.2) ((remA x v k j).1) (((remA x v k j).2.2) j)))] at hP hD
          refine n_iinc (x := (remA x v k j).1) (k := 1) (lv' := [(2, .int (nI (((remA x v k j).1) + 1))), (0, .ref a), (1, .int (nI k)), (3, .int (nI j))]) hx hb dX0_removeOf_46 rfl hl (q := 2) rfl (by decide) rfl (fun ls hl => ?_)
          refine n_iinc (x := j) (k := 1) (lv' := [(3, .int (nI (j + 1))), (2, .int (nI (((remA x v k j).1) + 1))), (0, .ref a), (1, .int (nI k))]) hx hb dX0_removeOf_49 rfl hl (q := 3) rfl (by decide) rfl (fun ls hl => ?_)
          refine lv_goto (tgt := 4) hx hb dX0_removeOf_52 (by decide) ?_
          have hl : lv_has ls 4 [(3, .int (nI (j + 1))), (2, .int (nI ((remA x v k (j + 1)).1))), (0, .ref a), (1, .int (nI k))] := by
            have heq0 : (.int (nI ((remA x v k (j + 1)).1)) : Value) = .int (nI (((remA x v k j).1) + 1)) := by first | rw [remA_eq (by omega)] | rw [remA_ne (by omega)]
            rw [heq0]
            exact hl
          exact ih4  (j + 1) (by omega) (by omega) _ _ _ hP hD hS ((by first | rw [remA_eq (by omega)] | rw [remA_ne (by omega)])) _ (lv_sub hl [2, 3, 1, 0] rfl)
  exact K4 (4 - 0 + 1) 0 (Nat.lt_succ_self _) (Nat.zero_le _) _ _ _ hP hD hS ((show M = mset (mset M qe (eI cy 3 x)) qv (eI cy 3 v) by rw [mset_id f_qe, mset_id f_qv])) _ (lv_sub hl [2, 3, 1, 0] rfl)

set_option maxRecDepth 100000 in
set_option maxHeartbeats 4000000 in
theorem c_X0_lacking (l : Launch) (D : va_G) (cy : Nat → ClassId) (M : mM) (a qe qv n : Nat) (x v : Nat → Nat)  (f_a : M a = some (.inr (1, [.ref qe, .ref qv, .int (nI n)]))) (f_qe : M qe = some (eI cy 3 x)) (f_qv : M qv = some (eI cy 3 v)) (hn : n ≤ 3) (hv : ∀ j, v j ≤ 20) : mR l yX0_lacking wsX0_lacking ({ frames := 1, cells := 0, slots := 0, locals := 13 } : Room) D cy M [.ref a] (fun r => r = zI (lackC v n)) := by
  refine mR.of (cc := cX0_lacking) (maxL := 2) (ret := (some .int)) (by decide) rfl (Nat.le_of_ble_eq_true rfl) ?_
  intro p e s m args below meth c ls hx hb hr hts hown hlocks hml hP hK hl
  have hl : lv_has ls 2 [(0, .ref a)] := hl
  have hown : s.vm.findClass RX0 = some m.cls := hown
  have hwX0 : ∀ w ∈ wsX00, w.before args s = true := fun w h => hts w (List.mem_cons_of_mem _ (List.mem_append_right _ (h)))
  have hv0 := hv 0
  have hv1 := hv 1
  have KJ33 : ∀ (ls : Array Slot), lv_has ls 2 [(0, .ref a)] → W p l e ({ frames := 1, cells := 0, slots := 0, locals := 13 } : Room) s m args below meth c s.heap [] 0 0 (MQ below (vp_Si (fun r => r = zI (lackC v n))) args s 0 0 (fun _ => False)) (F0 m 33 ls [.int (nI (b2 (decide (2 ≤ n ∧ ((v 1 : Int) + 3 < v 0 ∨ (v 0 : Int) + 3 < v 1)))))]) := by
    intro   ls hl
    refine lv_istore_n (lv' := [(1, .int (nI (b2 (decide (2 ≤ n ∧ ((v 1 : Int) + 3 < v 0 ∨ (v 0 : Int) + 3 < v 1)))))), (0, .ref a)]) hx hb dX0_lacking_33 rfl hl (by decide) rfl (fun ls hl => ?_)
    refine lv_iload_n hx hb dX0_lacking_34 rfl (lv_at hl 0 rfl) ?_
    refine b_if_eq (b := (decide (2 ≤ n ∧ ((v 1 : Int) + 3 < v 0 ∨ (v 0 : Int) + 3 < v 1)))) (tgt := 42) hx hb dX0_lacking_35 (by decide) (fun c_35 => ?_) (fun c_35 => ?_)
    · have c_35 := of_decide_eq_false c_35
      refine lv_iconst (v := (nI 2)) hx hb dX0_lacking_42 (by decide) ?_
      refine lv_aload_n hx hb dX0_lacking_43 rfl (lv_at hl 1 rfl) ?_
      refine m_get (T := TX0) (N := 3) (ci := 1) (fs := [.ref qe, .ref qv, .int (nI n)]) hx hb hwX0 hown hK hP f_a rfl 2 (by decide) (hts _ (List.mem_of_getElem? (i := 1) rfl)) (v := .int (nI n)) rfl dX0_lacking_44 ?_
      refine z_sub (u := ((2 : Nat) : Int)) (v := ((n : Nat) : Int)) hx hb (nI_zI _) (nI_zI _) dX0_lacking_47 ?_
      exact e_ri hx hb hr hlocks ((congrArg zI (by unfold lackC; (repeat (first | rw [if_pos (by omega)] | rw [if_neg (by omega)])); (first | done | rfl | omega)))) dX0_lacking_48
    · have c_35 := of_decide_eq_true c_35
      refine lv_iconst (v := (nI 3)) hx hb dX0_lacking_38 (by decide) ?_
      refine lv_goto (tgt := 43) hx hb dX0_lacking_39 (by decide) ?_
      refine lv_aload_n hx hb dX0_lacking_43 rfl (lv_at hl 1 rfl) ?_
      refine m_get (T := TX0) (N := 3) (ci := 1) (fs := [.ref qe, .ref qv, .int (nI n)]) hx hb hwX0 hown hK hP f_a rfl 2 (by decide) (hts _ (List.mem_of_getElem? (i := 1) rfl)) (v := .int (nI n)) rfl dX0_lacking_44 ?_
      refine z_sub (u := ((3 : Nat) : Int)) (v := ((n : Nat) : Int)) hx hb (nI_zI _) (nI_zI _) dX0_lacking_47 ?_
      exact e_ri hx hb hr hlocks ((congrArg zI (by unfold lackC; (repeat (first | rw [if_pos (by omega)] | rw [if_neg (by omega)])); (first | done | rfl | omega)))) dX0_lacking_48
  refine lv_aload_n hx hb dX0_lacking_0 rfl (lv_at hl 0 rfl) ?_
  refine m_get (T := TX0) (N := 3) (ci := 1) (fs := [.ref qe, .ref qv, .int (nI n)]) hx hb hwX0 hown hK hP f_a rfl 2 (by decide) (hts _ (List.mem_of_getElem? (i := 1) rfl)) (v := .int (nI n)) rfl dX0_lacking_1 ?_
  refine lv_iconst (v := (nI 2)) hx hb dX0_lacking_4 (by decide) ?_
  refine z_icmp_lt (u := ((n : Nat) : Int)) (v := ((2 : Nat) : Int)) (tgt := 32) hx hb (nI_toInt (by omega)) (nI_toInt (by omega)) dX0_lacking_5 (by decide) (fun c_5 => ?_) (fun c_5 => ?_)
  · refine lv_iconst (v := (nI 0)) hx hb dX0_lacking_32 (by decide) ?_
    refine n_name (show (nI 0) = (nI (b2 (decide (2 ≤ n ∧ ((v 1 : Int) + 3 < v 0 ∨ (v 0 : Int) + 3 < v 1))))) from (b2_n (by omega)).symm) ?_
    exact KJ33     _ (lv_sub hl [0] rfl)
  · refine lv_aload_n hx hb dX0_lacking_8 rfl (lv_at hl 0 rfl) ?_
    refine m_get (T := TX0) (N := 3) (ci := 1) (fs := [.ref qe, .ref qv, .int (nI n)]) hx hb hwX0 hown hK hP f_a rfl 1 (by decide) (hts _ (List.mem_of_getElem? (i := 2) rfl)) (v := .ref qv) rfl dX0_lacking_9 ?_
    refine lv_iconst (v := (nI 0)) hx hb dX0_lacking_12 (by decide) ?_
    refine n_iald (g := v) (n := 3) (i := 0) hx hb hK hP f_qv (by omega) (by omega) dX0_lacking_13 ?_
    refine lv_aload_n hx hb dX0_lacking_14 rfl (lv_at hl 0 rfl) ?_
    refine m_get (T := TX0) (N := 3) (ci := 1) (fs := [.ref qe, .ref qv, .int (nI n)]) hx hb hwX0 hown hK hP f_a rfl 1 (by decide) (hts _ (List.mem_of_getElem? (i := 2) rfl)) (v := .ref qv) rfl dX0_lacking_15 ?_
    refine lv_iconst (v := (nI 1)) hx hb dX0_lacking_18 (by decide) ?_
    refine n_iald (g := v) (n := 3) (i := 1) hx hb hK hP f_qv (by omega) (by omega) dX0_lacking_19 ?_
    refine z_sub (u := ((v 0 : Nat) : Int)) (v := ((v 1 : Nat) : Int)) hx hb (nI_zI _) (nI_zI _) dX0_lacking_20 ?_
    refine z_abs (u := ((v 0 : Nat) : Int) - ((v 1 : Nat) : Int)) hx hb (hml.trans hl.1.symm) hown (hts _ (List.mem_of_getElem? (i := 3) rfl)) (hts _ (List.mem_of_getElem? (i := 4) rfl)) (hts _ (List.mem_of_getElem? (i := 5) rfl)) (hts _ (List.mem_of_getElem? (i := 6) rfl)) (Nat.le_of_ble_eq_true rfl) (Nat.le_of_ble_eq_true rfl) (Nat.le_of_ble_eq_true rfl) (Nat.le_of_ble_eq_true rfl) (by omega) (by omega) dX0_lacking_21 ?_
    refine lv_iconst (v := (nI 3)) hx hb dX0_lacking_24 (by decide) ?_
    refine z_icmp_le (u := (if 0 ≤ (((v 0 : Nat) : Int) - ((v 1 : Nat) : Int)) then ((v 0 : Nat) : Int) - ((v 1 : Nat) : Int) else -(((v 0 : Nat) : Int) - ((v 1 : Nat) : Int)))) (v := ((3 : Nat) : Int)) (tgt := 32) hx hb (zI_toInt (by omega) (by omega)) (nI_toInt (by omega)) dX0_lacking_25 (by decide) (fun c_25 => ?_) (fun c_25 => ?_)
    · refine lv_iconst (v := (nI 0)) hx hb dX0_lacking_32 (by decide) ?_
      refine n_name (show (nI 0) = (nI (b2 (decide (2 ≤ n ∧ ((v 1 : Int) + 3 < v 0 ∨ (v 0 : Int) + 3 < v 1))))) from (b2_n (by omega)).symm) ?_
      exact KJ33     _ (lv_sub hl [0] rfl)
    · refine lv_iconst (v := (nI 1)) hx hb dX0_lacking_28 (by decide) ?_
      refine lv_goto (tgt := 33) hx hb dX0_lacking_29 (by decide) ?_
      refine n_name (show (nI 1) = (nI (b2 (decide (2 ≤ n ∧ ((v 1 : Int) + 3 < v 0 ∨ (v 0 : Int) + 3 < v 1))))) from (b2_d (by omega)).symm) ?_
      exact KJ33     _ (lv_sub hl [0] rfl)

set_option maxRecDepth 100000 in
set_option maxHeartbeats 4000000 in
theorem c_X0_result (l : Launch) (D : va_G) (cy : Nat → ClassId) (M : mM) (a qe qv n : Nat) (x v : Nat → Nat)  (f_a : M a = some (.inr (1, [.ref qe, .ref qv, .int (nI n)]))) (f_qe : M qe = some (eI cy 3 x)) (f_qv : M qv = some (eI cy 3 v)) (hn : n ≤ 3) (hv : ∀ j, v j ≤ 20) : mR l yX0_result wsX0_result ({ frames := 2, cells := 0, slots := 0, locals := 34 } : Room) D cy M [.ref a] (fun r => r = zI (gradeC v n)) := by
  refine mR.of (cc := cX0_result) (maxL := 3) (ret := (some .int)) (by decide) rfl (Nat.le_of_ble_eq_true rfl) ?_
  intro p e s m args below meth c ls hx hb hr hts hown hlocks hml hP hK hl
  have hl : lv_has ls 3 [(0, .ref a)] := hl
  have hown : s.vm.findClass RX0 = some m.cls := hown
  have hwX0 : ∀ w ∈ wsX00, w.before args s = true := fun w h => hts w (List.mem_cons_of_mem _ (List.mem_append_right _ (h)))
  have hv0 := hv 0
  have hv1 := hv 1
  have hv2 := hv 2
  refine lv_aload_n hx hb dX0_result_0 rfl (lv_at hl 0 rfl) ?_
  refine vp_callSi (W.runV (C := RX0) (As := []) (rest := []) ⟨hx, hb, hml, hown, hts⟩ (c_X0_lacking l D cy M a qe qv n x v f_a f_qe f_qv hn hv) (cwV 0 hts gX0_result_X0_lacking rfl rfl rfl (by decide +kernel) ⟨Nat.le_of_ble_eq_true rfl, Nat.le_of_ble_eq_true rfl⟩) (mPreV hK hP f_a (ci := 1) rfl) rfl rfl hl.1 rfl (lv_room (Nat.le_of_ble_eq_true rfl)) dX0_result_1 ⟨Nat.le_of_ble_eq_true rfl, Nat.le_of_ble_eq_true rfl⟩) (fun r9 hr9 => ?_)
  have hr9 : r9 = (zI (lackC v n)) := hr9
  subst hr9
  have hlb : -3 ≤ lackC v n ∧ lackC v n ≤ 3 := (by unfold lackC; split <;> omega)
  refine z_if_le (u := (lackC v n)) (tgt := 9) hx hb (zI_toInt (by omega) (by omega)) dX0_result_4 (by decide) (fun c_4 => ?_) (fun c_4 => ?_)
  · refine lv_aload_n hx hb dX0_result_9 rfl (lv_at hl 0 rfl) ?_
    refine m_get (T := TX0) (N := 3) (ci := 1) (fs := [.ref qe, .ref qv, .int (nI n)]) hx hb hwX0 hown hK hP f_a rfl 1 (by decide) (hts _ (List.mem_of_getElem? (i := 1) rfl)) (v := .ref qv) rfl dX0_result_10 ?_
    refine lv_iconst (v := (nI 0)) hx hb dX0_result_13 (by decide) ?_
    refine n_iald (g := v) (n := 3) (i := 0) hx hb hK hP f_qv (by omega) (by omega) dX0_result_14 ?_
    refine lv_aload_n hx hb dX0_result_15 rfl (lv_at hl 0 rfl) ?_
    refine m_get (T := TX0) (N := 3) (ci := 1) (fs := [.ref qe, .ref qv, .int (nI n)]) hx hb hwX0 hown hK hP f_a rfl 1 (by decide) (hts _ (List.mem_of_getElem? (i := 1) rfl)) (v := .ref qv) rfl dX0_result_16 ?_
    refine lv_iconst (v := (nI 1)) hx hb dX0_result_19 (by decide) ?_
    refine n_iald (g := v) (n := 3) (i := 1) hx hb hK hP f_qv (by omega) (by omega) dX0_result_20 ?_
    refine n_min (x := v 0) (y := v 1) hx hb (hml.trans hl.1.symm) hown (hts _ (List.mem_of_getElem? (i := 2) rfl)) (hts _ (List.mem_of_getElem? (i := 3) rfl)) (hts _ (List.mem_of_getElem? (i := 4) rfl)) (hts _ (List.mem_of_getElem? (i := 5) rfl)) (Nat.le_of_ble_eq_true rfl) (Nat.le_of_ble_eq_true rfl) (Nat.le_of_ble_eq_true rfl) (Nat.le_of_ble_eq_true rfl) (by omega) (by omega) dX0_result_21 ?_
    refine lv_istore_n (lv' := [(1, .int (nI (min (v 0) (v 1)))), (0, .ref a)]) hx hb dX0_result_24 rfl hl (by decide) rfl (fun ls hl => ?_)
    refine lv_aload_n hx hb dX0_result_25 rfl (lv_at hl 1 rfl) ?_
    refine m_get (T := TX0) (N := 3) (ci := 1) (fs := [.ref qe, .ref qv, .int (nI n)]) hx hb hwX0 hown hK hP f_a rfl 1 (by decide) (hts _ (List.mem_of_getElem? (i := 1) rfl)) (v := .ref qv) rfl dX0_result_26 ?_
    refine lv_iconst (v := (nI 0)) hx hb dX0_result_29 (by decide) ?_
    refine n_iald (g := v) (n := 3) (i := 0) hx hb hK hP f_qv (by omega) (by omega) dX0_result_30 ?_
    refine lv_aload_n hx hb dX0_result_31 rfl (lv_at hl 1 rfl) ?_
    refine m_get (T := TX0) (N := 3) (ci := 1) (fs := [.ref qe, .ref qv, .int (nI n)]) hx hb hwX0 hown hK hP f_a rfl 1 (by decide) (hts _ (List.mem_of_getElem? (i := 1) rfl)) (v := .ref qv) rfl dX0_result_32 ?_
    refine lv_iconst (v := (nI 1)) hx hb dX0_result_35 (by decide) ?_
    refine n_iald (g := v) (n := 3) (i := 1) hx hb hK hP f_qv (by omega) (by omega) dX0_result_36 ?_
    refine n_max (x := v 0) (y := v 1) hx hb (hml.trans hl.1.symm) hown (hts _ (List.mem_of_getElem? (i := 6) rfl)) (hts _ (List.mem_of_getElem? (i := 7) rfl)) (hts _ (List.mem_of_getElem? (i := 4) rfl)) (hts _ (List.mem_of_getElem? (i := 8) rfl)) (Nat.le_of_ble_eq_true rfl) (Nat.le_of_ble_eq_true rfl) (Nat.le_of_ble_eq_true rfl) (Nat.le_of_ble_eq_true rfl) (by omega) (by omega) dX0_result_37 ?_
    refine lv_istore_n (lv' := [(2, .int (nI (max (v 0) (v 1)))), (1, .int (nI (min (v 0) (v 1)))), (0, .ref a)]) hx hb dX0_result_40 rfl hl (by decide) rfl (fun ls hl => ?_)
    refine lv_aload_n hx hb dX0_result_41 rfl (lv_at hl 2 rfl) ?_
    refine m_get (T := TX0) (N := 3) (ci := 1) (fs := [.ref qe, .ref qv, .int (nI n)]) hx hb hwX0 hown hK hP f_a rfl 2 (by decide) (hts _ (List.mem_of_getElem? (i := 9) rfl)) (v := .int (nI n)) rfl dX0_result_42 ?_
    refine lv_iconst (v := (nI 3)) hx hb dX0_result_45 (by decide) ?_
    refine z_icmp_ge (u := ((n : Nat) : Int)) (v := ((3 : Nat) : Int)) (tgt := 55) hx hb (nI_toInt (by omega)) (nI_toInt (by omega)) dX0_result_46 (by decide) (fun c_46 => ?_) (fun c_46 => ?_)
    · refine lv_iload_n hx hb dX0_result_55 rfl (lv_at hl 1 rfl) ?_
      refine lv_iload_n hx hb dX0_result_56 rfl (lv_at hl 0 rfl) ?_
      refine lv_aload_n hx hb dX0_result_57 rfl (lv_at hl 2 rfl) ?_
      refine m_get (T := TX0) (N := 3) (ci := 1) (fs := [.ref qe, .ref qv, .int (nI n)]) hx hb hwX0 hown hK hP f_a rfl 1 (by decide) (hts _ (List.mem_of_getElem? (i := 1) rfl)) (v := .ref qv) rfl dX0_result_58 ?_
      refine lv_iconst (v := (nI 2)) hx hb dX0_result_61 (by decide) ?_
      refine n_iald (g := v) (n := 3) (i := 2) hx hb hK hP f_qv (by omega) (by omega) dX0_result_62 ?_
      refine n_min (x := max (v 0) (v 1)) (y := v 2) hx hb (hml.trans hl.1.symm) hown (hts _ (List.mem_of_getElem? (i := 2) rfl)) (hts _ (List.mem_of_getElem? (i := 3) rfl)) (hts _ (List.mem_of_getElem? (i := 4) rfl)) (hts _ (List.mem_of_getElem? (i := 5) rfl)) (Nat.le_of_ble_eq_true rfl) (Nat.le_of_ble_eq_true rfl) (Nat.le_of_ble_eq_true rfl) (Nat.le_of_ble_eq_true rfl) (by omega) (by omega) dX0_result_63 ?_
      refine n_max (x := min (v 0) (v 1)) (y := min (max (v 0) (v 1)) (v 2)) hx hb (hml.trans hl.1.symm) hown (hts _ (List.mem_of_getElem? (i := 6) rfl)) (hts _ (List.mem_of_getElem? (i := 7) rfl)) (hts _ (List.mem_of_getElem? (i := 4) rfl)) (hts _ (List.mem_of_getElem? (i := 8) rfl)) (Nat.le_of_ble_eq_true rfl) (Nat.le_of_ble_eq_true rfl) (Nat.le_of_ble_eq_true rfl) (Nat.le_of_ble_eq_true rfl) (by omega) (by omega) dX0_result_66 ?_
      exact e_ri hx hb hr hlocks (((nI_zI _).trans (congrArg zI (by unfold gradeC; (repeat (first | rw [if_pos (by omega)] | rw [if_neg (by omega)])); (first | done | rfl | omega))))) dX0_result_69
    · refine lv_iload_n hx hb dX0_result_49 rfl (lv_at hl 1 rfl) ?_
      refine lv_iload_n hx hb dX0_result_50 rfl (lv_at hl 0 rfl) ?_
      refine n_add (x := min (v 0) (v 1)) (y := max (v 0) (v 1)) hx hb dX0_result_51 ?_
      refine lv_iconst (v := (nI 2)) hx hb dX0_result_52 (by decide) ?_
      refine n_div (x := (min (v 0) (v 1)) + (max (v 0) (v 1))) (y := 2) hx hb (by omega) (by omega) (by omega) dX0_result_53 ?_
      exact e_ri hx hb hr hlocks (((nI_zI _).trans (congrArg zI (by unfold gradeC; (repeat (first | rw [if_pos (by omega)] | rw [if_neg (by omega)])); (first | done | rfl | omega))))) dX0_result_54
  · refine lv_iconst (v := (zI (-1))) hx hb dX0_result_7 (by decide) ?_
    exact e_ri hx hb hr hlocks ((congrArg zI (by unfold gradeC; (repeat (first | rw [if_pos (by omega)] | rw [if_neg (by omega)])); (first | done | rfl | omega)))) dX0_result_8

set_option maxRecDepth 100000 in
set_option maxHeartbeats 4000000 in
theorem c_X0_init (l : Launch) (D : va_G) (cy : Nat → ClassId) (M : mM) (sz : Nat) (a : Nat)  (f_a : M a = some (.inr (1, [.null, .null, .int (nI 0)])))  : mWv l yX0_init wsX0_init ({ frames := 1, cells := 2, slots := 6, locals := 12 } : Room) D cy M sz [.ref a] (fun M' => ∃ q1 q2, M q1 = none ∧ M q2 = none ∧ q1 ≠ q2 ∧ M' = mset (mset (mset M q1 (eI cy 3 (fun _ => 0))) q2 (eI cy 3 (fun _ => 0))) a (.inr (1, [.ref q1, .ref q2, .int (nI 0)]))) 2 6 := by
  refine mW.of (cc := cX0_init) (maxL := 1) (ret := none) (by decide) rfl (Nat.le_of_ble_eq_true rfl) ?_
  intro p e s m args below meth c ls hsz hx hb hr hts hown hlocks hml hname hP hD hS hA hK hl
  have hl : lv_has ls 1 [(0, .ref a)] := hl
  have hown : s.vm.findClass RX0 = some m.cls := hown
  have hwX0 : ∀ w ∈ wsX00, w.before args s = true := fun w h => hts w (List.mem_cons_of_mem _ (List.mem_append_right _ (h)))
  refine lv_aload_n hx hb dX0_init_0 rfl (lv_at hl 0 rfl) ?_
  refine W.objInit hx hb hown (hts _ (List.mem_of_getElem? (i := 1) rfl)) (hts _ (List.mem_of_getElem? (i := 2) rfl)) (hts _ (List.mem_of_getElem? (i := 3) rfl)) rfl (by rw [hml]; exact hl.1) rfl dX0_init_1 (Nat.le_of_ble_eq_true rfl) (Nat.le_of_ble_eq_true rfl) ?_
  refine W.eq (g2 := F0 m 4 ls []) rfl ?_
  refine lv_aload_n hx hb dX0_init_4 rfl (lv_at hl 0 rfl) ?_
  refine lv_iconst (v := (nI 3)) hx hb dX0_init_5 (by decide) ?_
  refine n_newa (atype := .int) (n := 3) (x := (3, .inl (fun _ => nI 0))) hx hb (hts _ (List.mem_of_getElem? (i := 4) rfl)) hK hP hD hS hA 0 rfl (fun h9 => h9) rfl (by decide) (by decide) (Nat.le_of_ble_eq_true rfl) (Nat.le_of_ble_eq_true rfl) dX0_init_6 (fun q_1 H hn_q_1 hq_q_1 hz_q_1 hP hD hS => ?_)
  have n_a_q_1 : a ≠ q_1 := ne_none (f_a) hn_q_1
  have hP : pm D (mset M q_1 (eI cy 3 (fun _ => 0))) H := hP
  have hD : mD (mA M sz) (mset M q_1 (eI cy 3 (fun _ => 0))) := hD
  refine m_putF (T := TX0) (N := 3) (ci := 1) (fs := [.null, .null, .int (nI 0)]) (v := .ref q_1) hx hb hwX0 tyX0 tyX0_ok nmX0 hown hK hP hD hS ((mset_ne n_a_q_1).trans (f_a)) rfl 0 (by decide) (hts _ (List.mem_of_getElem? (i := 5) rfl)) rfl hname rfl (rfl) rfl (Nat.le_of_ble_eq_true rfl) dX0_init_8 (fun H locs hP hD hS => ?_)
  have hP : pm D (mset (mset M q_1 (eI cy 3 (fun _ => 0))) a (.inr (1, [.ref q_1, .null, .int (nI 0)]))) H := hP
  have hD : mD (mA M sz) (mset (mset M q_1 (eI cy 3 (fun _ => 0))) a (.inr (1, [.ref q_1, .null, .int (nI 0)]))) := hD
  refine lv_aload_n hx hb dX0_init_11 rfl (lv_at hl 0 rfl) ?_
  refine lv_iconst (v := (nI 3)) hx hb dX0_init_12 (by decide) ?_
  refine n_newa (atype := .int) (n := 3) (x := (3, .inl (fun _ => nI 0))) hx hb (hts _ (List.mem_of_getElem? (i := 4) rfl)) hK hP hD hS hA 0 rfl (fun h9 => h9) rfl (by decide) (by decide) (Nat.le_of_ble_eq_true rfl) (Nat.le_of_ble_eq_true rfl) dX0_init_13 (fun q_2 H hn_q_2 hq_q_2 hz_q_2 hP hD hS => ?_)
  have n_a_q_2 : a ≠ q_2 := ne_none (mset_self _ _ _) hn_q_2
  have n_q_1_q_2 : q_1 ≠ q_2 := ne_none ((mset_ne (Ne.symm n_a_q_1)).trans (mset_self _ _ _)) hn_q_2
  have hP : pm D (mset (mset (mset M q_1 (eI cy 3 (fun _ => 0))) a (.inr (1, [.ref q_1, .null, .int (nI 0)]))) q_2 (eI cy 3 (fun _ => 0))) H := hP
  have hD : mD (mA M sz) (mset (mset (mset M q_1 (eI cy 3 (fun _ => 0))) a (.inr (1, [.ref q_1, .null, .int (nI 0)]))) q_2 (eI cy 3 (fun _ => 0))) := hD
  refine m_putF (T := TX0) (N := 3) (ci := 1) (fs := [.ref q_1, .null, .int (nI 0)]) (v := .ref q_2) hx hb hwX0 tyX0 tyX0_ok nmX0 hown hK hP hD hS ((mset_ne n_a_q_2).trans (mset_self _ _ _)) rfl 1 (by decide) (hts _ (List.mem_of_getElem? (i := 6) rfl)) rfl hname rfl (rfl) rfl (Nat.le_of_ble_eq_true rfl) dX0_init_15 (fun H locs hP hD hS => ?_)
  have hP : pm D (mset (mset (mset (mset M q_1 (eI cy 3 (fun _ => 0))) a (.inr (1, [.ref q_1, .null, .int (nI 0)]))) q_2 (eI cy 3 (fun _ => 0))) a (.inr (1, [.ref q_1, .ref q_2, .int (nI 0)]))) H := hP
  have hD : mD (mA M sz) (mset (mset (mset (mset M q_1 (eI cy 3 (fun _ => 0))) a (.inr (1, [.ref q_1, .null, .int (nI 0)]))) q_2 (eI cy 3 (fun _ => 0))) a (.inr (1, [.ref q_1, .ref q_2, .int (nI 0)]))) := hD
  rw [mset_comm _ (.inr (1, [.ref q_1, .null, .int (nI 0)])) (eI cy 3 (fun _ => 0)) (n_a_q_2), mset_mset _ a (.inr (1, [.ref q_1, .null, .int (nI 0)])) (.inr (1, [.ref q_1, .ref q_2, .int (nI 0)]))] at hP hD
  refine lv_aload_n hx hb dX0_init_18 rfl (lv_at hl 0 rfl) ?_
  refine lv_iconst (v := (nI 0)) hx hb dX0_init_19 (by decide) ?_
  refine m_put (T := TX0) (N := 3) (ci := 1) (fs := [.ref q_1, .ref q_2, .int (nI 0)]) (v := .int (nI 0)) hx hb hwX0 tyX0 tyX0_ok nmX0 hown hK hP hD hS (mset_self _ _ _) rfl 2 (by decide) (hts _ (List.mem_of_getElem? (i := 7) rfl)) rfl (rfl) rfl (Nat.le_of_ble_eq_true rfl) dX0_init_20 (fun H locs hP hD hS => ?_)
  have hP : pm D (mset (mset (mset (mset M q_1 (eI cy 3 (fun _ => 0))) q_2 (eI cy 3 (fun _ => 0))) a (.inr (1, [.ref q_1, .ref q_2, .int (nI 0)]))) a (.inr (1, [.ref q_1, .ref q_2, .int (nI 0)]))) H := hP
  have hD : mD (mA M sz) (mset (mset (mset (mset M q_1 (eI cy 3 (fun _ => 0))) q_2 (eI cy 3 (fun _ => 0))) a (.inr (1, [.ref q_1, .ref q_2, .int (nI 0)]))) a (.inr (1, [.ref q_1, .ref q_2, .int (nI 0)]))) := hD
  rw [mset_mset _ a (.inr (1, [.ref q_1, .ref q_2, .int (nI 0)])) (.inr (1, [.ref q_1, .ref q_2, .int (nI 0)]))] at hP hD
  have hq2 : M q_2 = none := (none_of (none_of hn_q_2))
  exact e_wv hx hb hr hlocks hP hD hS (⟨q_1, q_2, hn_q_1, hq2, n_q_1_q_2, (rfl)⟩) dX0_init_23

set_option maxRecDepth 100000 in
set_option maxHeartbeats 4000000 in
theorem c_X1_countOf (l : Launch) (D : va_G) (cy : Nat → ClassId) (M : mM) (a ql qr : Nat) (gl gr : Nat → Nat) (b left : Nat)  (f_a : M a = some (.inr (2, [.ref ql, .ref qr]))) (f_ql : M ql = some (eI cy 3 gl)) (f_qr : M qr = some (eI cy 3 gr)) (hb2 : b < 3) (hl2 : left ≤ 1) : mR l yX1_countOf wsX1_countOf ({ frames := 0, cells := 0, slots := 0, locals := 0 } : Room) D cy M [.ref a, .int (nI b), .int (nI left)] (fun r => r = nI (cntC gl gr left b)) := by
  refine mR.of (cc := cX1_countOf) (maxL := 3) (ret := (some .int)) (by decide) rfl (Nat.le_of_ble_eq_true rfl) ?_
  intro p e s m args below meth c ls hx hb hr hts hown hlocks hml hP hK hl
  have hl : lv_has ls 3 [(0, .ref a), (1, .int (nI b)), (2, .int (nI left))] := hl
  have hown : s.vm.findClass RX1 = some m.cls := hown
  have hwX1 : ∀ w ∈ wsX10, w.before args s = true := fun w h => hts w (List.mem_cons_of_mem _ (List.mem_append_right _ (h)))
  refine lv_iload_n hx hb dX1_countOf_0 rfl (lv_at hl 1 rfl) ?_
  refine z_if_lt (u := ((b : Nat) : Int)) (tgt := 9) hx hb (nI_toInt (by omega)) dX1_countOf_1 (by decide) (fun c_1 => ?_) (fun c_1 => ?_)
  · refine lv_iconst (v := (nI 0)) hx hb dX1_countOf_9 (by decide) ?_
    exact e_ri hx hb hr hlocks ((congrArg nI (by unfold cntC; (repeat (first | rw [if_pos (by omega)] | rw [if_neg (by omega)])); (first | done | rfl | omega)))) dX1_countOf_10
  · refine lv_iload_n hx hb dX1_countOf_4 rfl (lv_at hl 1 rfl) ?_
    refine lv_iconst (v := (nI 3)) hx hb dX1_countOf_5 (by decide) ?_
    refine z_icmp_lt (u := ((b : Nat) : Int)) (v := ((3 : Nat) : Int)) (tgt := 11) hx hb (nI_toInt (by omega)) (nI_toInt (by omega)) dX1_countOf_6 (by decide) (fun c_6 => ?_) (fun c_6 => ?_)
    · refine lv_iload_n hx hb dX1_countOf_11 rfl (lv_at hl 2 rfl) ?_
      refine z_if_eq (u := ((left : Nat) : Int)) (tgt := 24) hx hb (nI_toInt (by omega)) dX1_countOf_12 (by decide) (fun c_12 => ?_) (fun c_12 => ?_)
      · refine lv_aload_n hx hb dX1_countOf_24 rfl (lv_at hl 0 rfl) ?_
        refine m_get (T := TX1) (N := 2) (ci := 2) (fs := [.ref ql, .ref qr]) hx hb hwX1 hown hK hP f_a rfl 1 (by decide) (hts _ (List.mem_of_getElem? (i := 2) rfl)) (v := .ref qr) rfl dX1_countOf_25 ?_
        refine lv_iload_n hx hb dX1_countOf_28 rfl (lv_at hl 1 rfl) ?_
        refine n_iald (g := gr) (n := 3) (i := b) hx hb hK hP f_qr (by omega) (by omega) dX1_countOf_29 ?_
        exact e_ri hx hb hr hlocks ((congrArg nI (by unfold cntC; (repeat (first | rw [if_pos (by omega)] | rw [if_neg (by omega)])); (first | done | rfl | omega)))) dX1_countOf_30
      · refine lv_aload_n hx hb dX1_countOf_15 rfl (lv_at hl 0 rfl) ?_
        refine m_get (T := TX1) (N := 2) (ci := 2) (fs := [.ref ql, .ref qr]) hx hb hwX1 hown hK hP f_a rfl 0 (by decide) (hts _ (List.mem_of_getElem? (i := 1) rfl)) (v := .ref ql) rfl dX1_countOf_16 ?_
        refine lv_iload_n hx hb dX1_countOf_19 rfl (lv_at hl 1 rfl) ?_
        refine n_iald (g := gl) (n := 3) (i := b) hx hb hK hP f_ql (by omega) (by omega) dX1_countOf_20 ?_
        refine lv_goto (tgt := 30) hx hb dX1_countOf_21 (by decide) ?_
        exact e_ri hx hb hr hlocks ((congrArg nI (by unfold cntC; (repeat (first | rw [if_pos (by omega)] | rw [if_neg (by omega)])); (first | done | rfl | omega)))) dX1_countOf_30
    · refine lv_iconst (v := (nI 0)) hx hb dX1_countOf_9 (by decide) ?_
      exact e_ri hx hb hr hlocks ((congrArg nI (by unfold cntC; (repeat (first | rw [if_pos (by omega)] | rw [if_neg (by omega)])); (first | done | rfl | omega)))) dX1_countOf_10

set_option maxRecDepth 100000 in
set_option maxHeartbeats 4000000 in
theorem c_X1_add (l : Launch) (D : va_G) (cy : Nat → ClassId) (M : mM) (sz : Nat) (a ql qr : Nat) (gl gr : Nat → Nat) (b left w : Nat)  (f_a : M a = some (.inr (2, [.ref ql, .ref qr]))) (f_ql : M ql = some (eI cy 3 gl)) (f_qr : M qr = some (eI cy 3 gr)) (n_ql_qr : ql ≠ qr) (hb2 : b < 3) (hl2 : left ≤ 1) : mWv l yX1_add wsX1_add ({ frames := 0, cells := 0, slots := 0, locals := 0 } : Room) D cy M sz [.ref a, .int (nI b), .int (nI left), .int (nI w)] (fun M' => M' = if left = 0 then mset M qr (eI cy 3 (va_up gr b (gr b + w))) else mset M ql (eI cy 3 (va_up gl b (gl b + w)))) 0 0 := by
  refine mW.of (cc := cX1_add) (maxL := 4) (ret := none) (by decide) rfl (Nat.le_of_ble_eq_true rfl) ?_
  intro p e s m args below meth c ls hsz hx hb hr hts hown hlocks hml hname hP hD hS hA hK hl
  have hl : lv_has ls 4 [(0, .ref a), (1, .int (nI b)), (2, .int (nI left)), (3, .int (nI w))] := hl
  have hown : s.vm.findClass RX1 = some m.cls := hown
  have hwX1 : ∀ w ∈ wsX10, w.before args s = true := fun w h => hts w (List.mem_cons_of_mem _ (List.mem_append_right _ (h)))
  have n_a_ql : a ≠ ql := ne_cell f_a f_ql (fun h9 => by simp at h9)
  have n_a_qr : a ≠ qr := ne_cell f_a f_qr (fun h9 => by simp at h9)
  refine lv_iload_n hx hb dX1_add_0 rfl (lv_at hl 1 rfl) ?_
  refine z_if_lt (u := ((b : Nat) : Int)) (tgt := 9) hx hb (nI_toInt (by omega)) dX1_add_1 (by decide) (fun c_1 => ?_) (fun c_1 => ?_)
  · exact e_wv hx hb hr hlocks hP hD hS ((by omega)) dX1_add_9
  · refine lv_iload_n hx hb dX1_add_4 rfl (lv_at hl 1 rfl) ?_
    refine lv_iconst (v := (nI 3)) hx hb dX1_add_5 (by decide) ?_
    refine z_icmp_lt (u := ((b : Nat) : Int)) (v := ((3 : Nat) : Int)) (tgt := 10) hx hb (nI_toInt (by omega)) (nI_toInt (by omega)) dX1_add_6 (by decide) (fun c_6 => ?_) (fun c_6 => ?_)
    · refine lv_iload_n hx hb dX1_add_10 rfl (lv_at hl 2 rfl) ?_
      refine z_if_eq (u := ((left : Nat) : Int)) (tgt := 27) hx hb (nI_toInt (by omega)) dX1_add_11 (by decide) (fun c_11 => ?_) (fun c_11 => ?_)
      · refine lv_aload_n hx hb dX1_add_27 rfl (lv_at hl 0 rfl) ?_
        refine m_get (T := TX1) (N := 2) (ci := 2) (fs := [.ref ql, .ref qr]) hx hb hwX1 hown hK hP f_a rfl 1 (by decide) (hts _ (List.mem_of_getElem? (i := 2) rfl)) (v := .ref qr) rfl dX1_add_28 ?_
        refine lv_iload_n hx hb dX1_add_31 rfl (lv_at hl 1 rfl) ?_
        refine lv_dup2_11 hx hb dX1_add_32 rfl rfl ?_
        refine n_iald (g := gr) (n := 3) (i := b) hx hb hK hP f_qr (by omega) (by omega) dX1_add_33 ?_
        refine lv_iload_n hx hb dX1_add_34 rfl (lv_at hl 3 rfl) ?_
        refine n_add (x := gr b) (y := w) hx hb dX1_add_35 ?_
        refine n_iast (g := gr) (n := 3) (i := b) (v := (gr b) + w) hx hb hK hP hD hS f_qr (by omega) (by omega) dX1_add_36 (fun H locs hP hD hS => ?_)
        have hP : pm D (mset M qr (eI cy 3 (va_up gr b ((gr b) + w)))) H := hP
        have hD : mD (mA M sz) (mset M qr (eI cy 3 (va_up gr b ((gr b) + w)))) := hD
        exact e_wv hx hb hr hlocks hP hD hS ((by first | rw [if_pos (by omega)] | rw [if_neg (by omega)])) dX1_add_37
      · refine lv_aload_n hx hb dX1_add_14 rfl (lv_at hl 0 rfl) ?_
        refine m_get (T := TX1) (N := 2) (ci := 2) (fs := [.ref ql, .ref qr]) hx hb hwX1 hown hK hP f_a rfl 0 (by decide) (hts _ (List.mem_of_getElem? (i := 1) rfl)) (v := .ref ql) rfl dX1_add_15 ?_
        refine lv_iload_n hx hb dX1_add_18 rfl (lv_at hl 1 rfl) ?_
        refine lv_dup2_11 hx hb dX1_add_19 rfl rfl ?_
        refine n_iald (g := gl) (n := 3) (i := b) hx hb hK hP f_ql (by omega) (by omega) dX1_add_20 ?_
        refine lv_iload_n hx hb dX1_add_21 rfl (lv_at hl 3 rfl) ?_
        refine n_add (x := gl b) (y := w) hx hb dX1_add_22 ?_
        refine n_iast (g := gl) (n := 3) (i := b) (v := (gl b) + w) hx hb hK hP hD hS f_ql (by omega) (by omega) dX1_add_23 (fun H locs hP hD hS => ?_)
        have hP : pm D (mset M ql (eI cy 3 (va_up gl b ((gl b) + w)))) H := hP
        have hD : mD (mA M sz) (mset M ql (eI cy 3 (va_up gl b ((gl b) + w)))) := hD
        refine lv_goto (tgt := 37) hx hb dX1_add_24 (by decide) ?_
        exact e_wv hx hb hr hlocks hP hD hS ((by first | rw [if_pos (by omega)] | rw [if_neg (by omega)])) dX1_add_37
    · exact e_wv hx hb hr hlocks hP hD hS ((by omega)) dX1_add_9

set_option maxRecDepth 100000 in
set_option maxHeartbeats 4000000 in
theorem c_X1_take (l : Launch) (D : va_G) (cy : Nat → ClassId) (M : mM) (sz : Nat) (a ql qr : Nat) (gl gr : Nat → Nat) (b left : Nat)  (f_a : M a = some (.inr (2, [.ref ql, .ref qr]))) (f_ql : M ql = some (eI cy 3 gl)) (f_qr : M qr = some (eI cy 3 gr)) (n_ql_qr : ql ≠ qr) (hb2 : b < 3) (hl2 : left ≤ 1) (hpos : 0 < cntC gl gr left b) : mWv l yX1_add wsX1_add ({ frames := 0, cells := 0, slots := 0, locals := 0 } : Room) D cy M sz [.ref a, .int (nI b), .int (nI left), .int (zI (-1))] (fun M' => M' = if left = 0 then mset M qr (eI cy 3 (va_up gr b (gr b - 1))) else mset M ql (eI cy 3 (va_up gl b (gl b - 1)))) 0 0 := by
  refine mW.of (cc := cX1_add) (maxL := 4) (ret := none) (by decide) rfl (Nat.le_of_ble_eq_true rfl) ?_
  intro p e s m args below meth c ls hsz hx hb hr hts hown hlocks hml hname hP hD hS hA hK hl
  have hl : lv_has ls 4 [(0, .ref a), (1, .int (nI b)), (2, .int (nI left)), (3, .int (zI (-1)))] := hl
  have hown : s.vm.findClass RX1 = some m.cls := hown
  have hwX1 : ∀ w ∈ wsX10, w.before args s = true := fun w h => hts w (List.mem_cons_of_mem _ (List.mem_append_right _ (h)))
  have n_a_ql : a ≠ ql := ne_cell f_a f_ql (fun h9 => by simp at h9)
  have n_a_qr : a ≠ qr := ne_cell f_a f_qr (fun h9 => by simp at h9)
  refine lv_iload_n hx hb dX1_add_0 rfl (lv_at hl 1 rfl) ?_
  refine z_if_lt (u := ((b : Nat) : Int)) (tgt := 9) hx hb (nI_toInt (by omega)) dX1_add_1 (by decide) (fun c_1 => ?_) (fun c_1 => ?_)
  · exact e_wv hx hb hr hlocks hP hD hS ((by omega)) dX1_add_9
  · refine lv_iload_n hx hb dX1_add_4 rfl (lv_at hl 1 rfl) ?_
    refine lv_iconst (v := (nI 3)) hx hb dX1_add_5 (by decide) ?_
    refine z_icmp_lt (u := ((b : Nat) : Int)) (v := ((3 : Nat) : Int)) (tgt := 10) hx hb (nI_toInt (by omega)) (nI_toInt (by omega)) dX1_add_6 (by decide) (fun c_6 => ?_) (fun c_6 => ?_)
    · refine lv_iload_n hx hb dX1_add_10 rfl (lv_at hl 2 rfl) ?_
      refine z_if_eq (u := ((left : Nat) : Int)) (tgt := 27) hx hb (nI_toInt (by omega)) dX1_add_11 (by decide) (fun c_11 => ?_) (fun c_11 => ?_)
      · refine lv_aload_n hx hb dX1_add_27 rfl (lv_at hl 0 rfl) ?_
        refine m_get (T := TX1) (N := 2) (ci := 2) (fs := [.ref ql, .ref qr]) hx hb hwX1 hown hK hP f_a rfl 1 (by decide) (hts _ (List.mem_of_getElem? (i := 2) rfl)) (v := .ref qr) rfl dX1_add_28 ?_
        refine lv_iload_n hx hb dX1_add_31 rfl (lv_at hl 1 rfl) ?_
        refine lv_dup2_11 hx hb dX1_add_32 rfl rfl ?_
        refine n_iald (g := gr) (n := 3) (i := b) hx hb hK hP f_qr (by omega) (by omega) dX1_add_33 ?_
        refine lv_iload_n hx hb dX1_add_34 rfl (lv_at hl 3 rfl) ?_
        refine z_add (u := ((gr b : Nat) : Int)) (v := (-1)) hx hb (nI_zI _) (rfl) dX1_add_35 ?_
        have hp9 : 0 < gr b := (by unfold cntC at hpos; first | (rw [if_pos (by omega)] at hpos; exact hpos) | (rw [if_neg (by omega)] at hpos; exact hpos))
        refine n_name (show (zI (((gr b : Nat) : Int) + (-1))) = nI (gr b - 1) from (by rw [nI_zI]; congr 1; omega)) ?_
        refine n_iast (g := gr) (n := 3) (i := b) (v := gr b - 1) hx hb hK hP hD hS f_qr (by omega) (by omega) dX1_add_36 (fun H locs hP hD hS => ?_)
        have hP : pm D (mset M qr (eI cy 3 (va_up gr b (gr b - 1)))) H := hP
        have hD : mD (mA M sz) (mset M qr (eI cy 3 (va_up gr b (gr b - 1)))) := hD
        exact e_wv hx hb hr hlocks hP hD hS ((by first | rw [if_pos (by omega)] | rw [if_neg (by omega)])) dX1_add_37
      · refine lv_aload_n hx hb dX1_add_14 rfl (lv_at hl 0 rfl) ?_
        refine m_get (T := TX1) (N := 2) (ci := 2) (fs := [.ref ql, .ref qr]) hx hb hwX1 hown hK hP f_a rfl 0 (by decide) (hts _ (List.mem_of_getElem? (i := 1) rfl)) (v := .ref ql) rfl dX1_add_15 ?_
        refine lv_iload_n hx hb dX1_add_18 rfl (lv_at hl 1 rfl) ?_
        refine lv_dup2_11 hx hb dX1_add_19 rfl rfl ?_
        refine n_iald (g := gl) (n := 3) (i := b) hx hb hK hP f_ql (by omega) (by omega) dX1_add_20 ?_
        refine lv_iload_n hx hb dX1_add_21 rfl (lv_at hl 3 rfl) ?_
        refine z_add (u := ((gl b : Nat) : Int)) (v := (-1)) hx hb (nI_zI _) (rfl) dX1_add_22 ?_
        have hp9 : 0 < gl b := (by unfold cntC at hpos; first | (rw [if_pos (by omega)] at hpos; exact hpos) | (rw [if_neg (by omega)] at hpos; exact hpos))
        refine n_name (show (zI (((gl b : Nat) : Int) + (-1))) = nI (gl b - 1) from (by rw [nI_zI]; congr 1; omega)) ?_
        refine n_iast (g := gl) (n := 3) (i := b) (v := gl b - 1) hx hb hK hP hD hS f_ql (by omega) (by omega) dX1_add_23 (fun H locs hP hD hS => ?_)
        have hP : pm D (mset M ql (eI cy 3 (va_up gl b (gl b - 1)))) H := hP
        have hD : mD (mA M sz) (mset M ql (eI cy 3 (va_up gl b (gl b - 1)))) := hD
        refine lv_goto (tgt := 37) hx hb dX1_add_24 (by decide) ?_
        exact e_wv hx hb hr hlocks hP hD hS ((by first | rw [if_pos (by omega)] | rw [if_neg (by omega)])) dX1_add_37
    · exact e_wv hx hb hr hlocks hP hD hS ((by omega)) dX1_add_9

set_option maxRecDepth 100000 in
set_option maxHeartbeats 4000000 in
theorem c_X1_bandFor (l : Launch) (D : va_G) (cy : Nat → ClassId) (M : mM) (a ql qr : Nat) (gl gr : Nat → Nat) (b left : Nat)  (f_a : M a = some (.inr (2, [.ref ql, .ref qr]))) (f_ql : M ql = some (eI cy 3 gl)) (f_qr : M qr = some (eI cy 3 gr)) (hb2 : b < 3) (hl2 : left ≤ 1) (hgl : ∀ j, gl j ≤ 30000) (hgr : ∀ j, gr j ≤ 30000) : mR l yX1_bandFor wsX1_bandFor ({ frames := 1, cells := 0, slots := 0, locals := 22 } : Room) D cy M [.ref a, .int (nI b), .int (nI left)] (fun r => r = zI (bndC gl gr left (b + 1))) := by
  refine mR.of (cc := cX1_bandFor) (maxL := 4) (ret := (some .int)) (by decide) rfl (Nat.le_of_ble_eq_true rfl) ?_
  intro p e s m args below meth c ls hx hb hr hts hown hlocks hml hP hK hl
  have hl : lv_has ls 4 [(0, .ref a), (1, .int (nI b)), (2, .int (nI left))] := hl
  have hown : s.vm.findClass RX1 = some m.cls := hown
  have hwX1 : ∀ w ∈ wsX10, w.before args s = true := fun w h => hts w (List.mem_cons_of_mem _ (List.mem_append_right _ (h)))
  refine lv_iload_n hx hb dX1_bandFor_0 rfl (lv_at hl 1 rfl) ?_
  refine lv_istore_n (lv' := [(3, .int (nI b)), (0, .ref a), (1, .int (nI b)), (2, .int (nI left))]) hx hb dX1_bandFor_1 rfl hl (by decide) rfl (fun ls hl => ?_)
  have K2 : ∀ (n9 : Nat) (n2 : Nat), n2 < n9 → (n2 ≤ b + 1) → (bndC gl gr left (b + 1) = bndC gl gr left n2) → ∀ (ls : Array Slot), lv_has ls 4 [(0, .ref a), (1, .int (nI b)), (2, .int (nI left)), (3, .int (zI (((n2 : Nat) : Int) - 1)))] → W p l e ({ frames := 1, cells := 0, slots := 0, locals := 22 } : Room) s m args below meth c s.heap [] 0 0 (MQ below (vp_Si (fun r => r = zI (bndC gl gr left (b + 1)))) args s 0 0 (fun _ => False)) (F0 m 2 ls []) := by
    intro n9
    induction n9 with
    | zero => intro n2 hn; exact absurd hn (by omega)
    | succ n9 ih2 =>
      intro n2 hn2 i2_0 i2_1 ls hl
      refine lv_iload_n hx hb dX1_bandFor_2 rfl (lv_at hl 3 rfl) ?_
      refine z_if_lt (u := (((n2 : Nat) : Int) - 1)) (tgt := 23) hx hb (zI_toInt (by omega) (by omega)) dX1_bandFor_3 (by decide) (fun c_3 => ?_) (fun c_3 => ?_)
      · refine lv_iconst (v := (zI (-1))) hx hb dX1_bandFor_23 (by decide) ?_
        exact e_ri hx hb hr hlocks ((by rw [i2_1, bndC_zero (by omega)])) dX1_bandFor_24
      · have ex_3 : (zI (((n2 : Nat) : Int) - 1)) = (nI (n2 - 1)) := (zI_nI (by omega)).trans (congrArg nI (by omega))
        have hl : lv_has ls 4 [(0, .ref a), (1, .int (nI b)), (2, .int (nI left)), (3, .int (nI (n2 - 1)))] := by
          rw [← ex_3]
          exact hl
        refine lv_aload_n hx hb dX1_bandFor_6 rfl (lv_at hl 0 rfl) ?_
        refine lv_iload_n hx hb dX1_bandFor_7 rfl (lv_at hl 3 rfl) ?_
        refine lv_iload_n hx hb dX1_bandFor_8 rfl (lv_at hl 2 rfl) ?_
        refine vp_callSi (W.runV (C := RX1) (As := [.int (nI (n2 - 1)), .int (nI left)]) (rest := []) ⟨hx, hb, hml, hown, hts⟩ (c_X1_countOf l D cy M a ql qr gl gr (n2 - 1) left f_a f_ql f_qr (by omega) hl2) (cwV 2 hts gX1_bandFor_X1_countOf rfl rfl rfl (by decide +kernel) ⟨Nat.le_of_ble_eq_true rfl, Nat.le_of_ble_eq_true rfl⟩) (mPreV hK hP f_a (ci := 2) rfl) rfl rfl hl.1 rfl (lv_room (Nat.le_of_ble_eq_true rfl)) dX1_bandFor_9 ⟨Nat.le_of_ble_eq_true rfl, Nat.le_of_ble_eq_true rfl⟩) (fun r9 hr9 => ?_)
        have hr9 : r9 = (nI (cntC gl gr left (n2 - 1))) := hr9
        subst hr9
        have hcb : cntC gl gr left (n2 - 1) ≤ 30000 := (by unfold cntC; split; exact hgr _; exact hgl _)
        refine z_if_le (u := ((cntC gl gr left (n2 - 1) : Nat) : Int)) (tgt := 17) hx hb (nI_toInt (by omega)) dX1_bandFor_12 (by decide) (fun c_12 => ?_) (fun c_12 => ?_)
        · refine z_iinc (u := ((n2 - 1 : Nat) : Int)) (k := -1) (lv' := [(3, .int (zI (((n2 - 1 : Nat) : Int) + (-1)))), (0, .ref a), (1, .int (nI b)), (2, .int (nI left))]) hx hb dX1_bandFor_17 (nI_zI _) hl (q := 3) rfl (by decide) rfl (fun ls hl => ?_)
          refine lv_goto (tgt := 2) hx hb dX1_bandFor_20 (by decide) ?_
          have hl : lv_has ls 4 [(3, .int (zI ((((n2 - 1) : Nat) : Int) - 1))), (0, .ref a), (1, .int (nI b)), (2, .int (nI left))] := by
            have heq0 : (.int (zI ((((n2 - 1) : Nat) : Int) - 1)) : Value) = .int (zI (((n2 - 1 : Nat) : Int) + (-1))) := congrArg Value.int (congrArg zI (by omega))
            rw [heq0]
            exact hl
          exact ih2  (n2 - 1) (by omega) (by omega) (by rw [← bndC_go (by omega) (by omega)]; exact i2_1) _ (lv_sub hl [1, 2, 3, 0] rfl)
        · refine lv_iload_n hx hb dX1_bandFor_15 rfl (lv_at hl 3 rfl) ?_
          exact e_ri hx hb hr hlocks ((by rw [i2_1, bndC_stop (by omega) (by omega)]; exact nI_zI _)) dX1_bandFor_16
  have hl : lv_has ls 4 [(3, .int (zI ((((b + 1) : Nat) : Int) - 1))), (0, .ref a), (1, .int (nI b)), (2, .int (nI left))] := by
    have heq0 : (.int (zI ((((b + 1) : Nat) : Int) - 1)) : Value) = .int (nI b) := congrArg Value.int (by rw [nI_zI]; congr 1; omega)
    rw [heq0]
    exact hl
  exact K2 ((b + 1) + 1) (b + 1) (Nat.lt_succ_self _) (Nat.le_refl _) (rfl) _ (lv_sub hl [1, 2, 3, 0] rfl)

set_option maxRecDepth 100000 in
set_option maxHeartbeats 4000000 in
theorem c_X1_init (l : Launch) (D : va_G) (cy : Nat → ClassId) (M : mM) (sz : Nat) (a : Nat)  (f_a : M a = some (.inr (2, [.null, .null])))  : mWv l yX1_init wsX1_init ({ frames := 1, cells := 2, slots := 6, locals := 12 } : Room) D cy M sz [.ref a] (fun M' => ∃ q1 q2, M q1 = none ∧ M q2 = none ∧ q1 ≠ q2 ∧ M' = mset (mset (mset M q1 (eI cy 3 (fun _ => 0))) q2 (eI cy 3 (fun _ => 0))) a (.inr (2, [.ref q1, .ref q2]))) 2 6 := by
  refine mW.of (cc := cX1_init) (maxL := 1) (ret := none) (by decide) rfl (Nat.le_of_ble_eq_true rfl) ?_
  intro p e s m args below meth c ls hsz hx hb hr hts hown hlocks hml hname hP hD hS hA hK hl
  have hl : lv_has ls 1 [(0, .ref a)] := hl
  have hown : s.vm.findClass RX1 = some m.cls := hown
  have hwX1 : ∀ w ∈ wsX10, w.before args s = true := fun w h => hts w (List.mem_cons_of_mem _ (List.mem_append_right _ (h)))
  refine lv_aload_n hx hb dX1_init_0 rfl (lv_at hl 0 rfl) ?_
  refine W.objInit hx hb hown (hts _ (List.mem_of_getElem? (i := 1) rfl)) (hts _ (List.mem_of_getElem? (i := 2) rfl)) (hts _ (List.mem_of_getElem? (i := 3) rfl)) rfl (by rw [hml]; exact hl.1) rfl dX1_init_1 (Nat.le_of_ble_eq_true rfl) (Nat.le_of_ble_eq_true rfl) ?_
  refine W.eq (g2 := F0 m 4 ls []) rfl ?_
  refine lv_aload_n hx hb dX1_init_4 rfl (lv_at hl 0 rfl) ?_
  refine lv_iconst (v := (nI 3)) hx hb dX1_init_5 (by decide) ?_
  refine n_newa (atype := .int) (n := 3) (x := (3, .inl (fun _ => nI 0))) hx hb (hts _ (List.mem_of_getElem? (i := 4) rfl)) hK hP hD hS hA 0 rfl (fun h9 => h9) rfl (by decide) (by decide) (Nat.le_of_ble_eq_true rfl) (Nat.le_of_ble_eq_true rfl) dX1_init_6 (fun q_1 H hn_q_1 hq_q_1 hz_q_1 hP hD hS => ?_)
  have n_a_q_1 : a ≠ q_1 := ne_none (f_a) hn_q_1
  have hP : pm D (mset M q_1 (eI cy 3 (fun _ => 0))) H := hP
  have hD : mD (mA M sz) (mset M q_1 (eI cy 3 (fun _ => 0))) := hD
  refine m_putF (T := TX1) (N := 2) (ci := 2) (fs := [.null, .null]) (v := .ref q_1) hx hb hwX1 tyX1 tyX1_ok nmX1 hown hK hP hD hS ((mset_ne n_a_q_1).trans (f_a)) rfl 0 (by decide) (hts _ (List.mem_of_getElem? (i := 5) rfl)) rfl hname rfl (rfl) rfl (Nat.le_of_ble_eq_true rfl) dX1_init_8 (fun H locs hP hD hS => ?_)
  have hP : pm D (mset (mset M q_1 (eI cy 3 (fun _ => 0))) a (.inr (2, [.ref q_1, .null]))) H := hP
  have hD : mD (mA M sz) (mset (mset M q_1 (eI cy 3 (fun _ => 0))) a (.inr (2, [.ref q_1, .null]))) := hD
  refine lv_aload_n hx hb dX1_init_11 rfl (lv_at hl 0 rfl) ?_
  refine lv_iconst (v := (nI 3)) hx hb dX1_init_12 (by decide) ?_
  refine n_newa (atype := .int) (n := 3) (x := (3, .inl (fun _ => nI 0))) hx hb (hts _ (List.mem_of_getElem? (i := 4) rfl)) hK hP hD hS hA 0 rfl (fun h9 => h9) rfl (by decide) (by decide) (Nat.le_of_ble_eq_true rfl) (Nat.le_of_ble_eq_true rfl) dX1_init_13 (fun q_2 H hn_q_2 hq_q_2 hz_q_2 hP hD hS => ?_)
  have n_a_q_2 : a ≠ q_2 := ne_none (mset_self _ _ _) hn_q_2
  have n_q_1_q_2 : q_1 ≠ q_2 := ne_none ((mset_ne (Ne.symm n_a_q_1)).trans (mset_self _ _ _)) hn_q_2
  have hP : pm D (mset (mset (mset M q_1 (eI cy 3 (fun _ => 0))) a (.inr (2, [.ref q_1, .null]))) q_2 (eI cy 3 (fun _ => 0))) H := hP
  have hD : mD (mA M sz) (mset (mset (mset M q_1 (eI cy 3 (fun _ => 0))) a (.inr (2, [.ref q_1, .null]))) q_2 (eI cy 3 (fun _ => 0))) := hD
  refine m_putF (T := TX1) (N := 2) (ci := 2) (fs := [.ref q_1, .null]) (v := .ref q_2) hx hb hwX1 tyX1 tyX1_ok nmX1 hown hK hP hD hS ((mset_ne n_a_q_2).trans (mset_self _ _ _)) rfl 1 (by decide) (hts _ (List.mem_of_getElem? (i := 6) rfl)) rfl hname rfl (rfl) rfl (Nat.le_of_ble_eq_true rfl) dX1_init_15 (fun H locs hP hD hS => ?_)
  have hP : pm D (mset (mset (mset (mset M q_1 (eI cy 3 (fun _ => 0))) a (.inr (2, [.ref q_1, .null]))) q_2 (eI cy 3 (fun _ => 0))) a (.inr (2, [.ref q_1, .ref q_2]))) H := hP
  have hD : mD (mA M sz) (mset (mset (mset (mset M q_1 (eI cy 3 (fun _ => 0))) a (.inr (2, [.ref q_1, .null]))) q_2 (eI cy 3 (fun _ => 0))) a (.inr (2, [.ref q_1, .ref q_2]))) := hD
  rw [mset_comm _ (.inr (2, [.ref q_1, .null])) (eI cy 3 (fun _ => 0)) (n_a_q_2), mset_mset _ a (.inr (2, [.ref q_1, .null])) (.inr (2, [.ref q_1, .ref q_2]))] at hP hD
  have hq2 : M q_2 = none := (none_of (none_of hn_q_2))
  exact e_wv hx hb hr hlocks hP hD hS (⟨q_1, q_2, hn_q_1, hq2, n_q_1_q_2, (rfl)⟩) dX1_init_18

set_option maxRecDepth 100000 in
set_option maxHeartbeats 4000000 in
theorem c_X2_init (l : Launch) (D : va_G) (cy : Nat → ClassId) (M : mM) (sz : Nat) (a x y z : Nat)  (f_a : M a = some (.inr (3, [.int (nI 0), .int (nI 0), .int (nI 0)]))) (hz2 : z ≤ 1) : mWv l yX2_init wsX2_init ({ frames := 1, cells := 0, slots := 0, locals := 12 } : Room) D cy M sz [.ref a, .int (nI x), .int (nI y), .int (nI z)] (fun M' => M' = mset M a (.inr (3, [.int (nI x), .int (nI y), .int (nI z)]))) 0 0 := by
  refine mW.of (cc := cX2_init) (maxL := 4) (ret := none) (by decide) rfl (Nat.le_of_ble_eq_true rfl) ?_
  intro p e s m args below meth c ls hsz hx hb hr hts hown hlocks hml hname hP hD hS hA hK hl
  have hl : lv_has ls 4 [(0, .ref a), (1, .int (nI x)), (2, .int (nI y)), (3, .int (nI z))] := hl
  have hown : s.vm.findClass RX2 = some m.cls := hown
  have hwX2 : ∀ w ∈ wsX20, w.before args s = true := fun w h => hts w (List.mem_cons_of_mem _ (List.mem_append_right _ (h)))
  refine lv_aload_n hx hb dX2_init_0 rfl (lv_at hl 0 rfl) ?_
  refine W.objInit hx hb hown (hts _ (List.mem_of_getElem? (i := 1) rfl)) (hts _ (List.mem_of_getElem? (i := 2) rfl)) (hts _ (List.mem_of_getElem? (i := 3) rfl)) rfl (by rw [hml]; exact hl.1) rfl dX2_init_1 (Nat.le_of_ble_eq_true rfl) (Nat.le_of_ble_eq_true rfl) ?_
  refine W.eq (g2 := F0 m 4 ls []) rfl ?_
  refine lv_aload_n hx hb dX2_init_4 rfl (lv_at hl 0 rfl) ?_
  refine lv_iload_n hx hb dX2_init_5 rfl (lv_at hl 1 rfl) ?_
  refine m_putF (T := TX2) (N := 3) (ci := 3) (fs := [.int (nI 0), .int (nI 0), .int (nI 0)]) (v := .int (nI x)) hx hb hwX2 tyX2 tyX2_ok nmX2 hown hK hP hD hS f_a rfl 0 (by decide) (hts _ (List.mem_of_getElem? (i := 4) rfl)) rfl hname rfl (rfl) rfl (Nat.le_of_ble_eq_true rfl) dX2_init_6 (fun H locs hP hD hS => ?_)
  have hP : pm D (mset M a (.inr (3, [.int (nI x), .int (nI 0), .int (nI 0)]))) H := hP
  have hD : mD (mA M sz) (mset M a (.inr (3, [.int (nI x), .int (nI 0), .int (nI 0)]))) := hD
  refine lv_aload_n hx hb dX2_init_9 rfl (lv_at hl 0 rfl) ?_
  refine lv_iload_n hx hb dX2_init_10 rfl (lv_at hl 2 rfl) ?_
  refine m_putF (T := TX2) (N := 3) (ci := 3) (fs := [.int (nI x), .int (nI 0), .int (nI 0)]) (v := .int (nI y)) hx hb hwX2 tyX2 tyX2_ok nmX2 hown hK hP hD hS (mset_self _ _ _) rfl 1 (by decide) (hts _ (List.mem_of_getElem? (i := 5) rfl)) rfl hname rfl (rfl) rfl (Nat.le_of_ble_eq_true rfl) dX2_init_11 (fun H locs hP hD hS => ?_)
  have hP : pm D (mset (mset M a (.inr (3, [.int (nI x), .int (nI 0), .int (nI 0)]))) a (.inr (3, [.int (nI x), .int (nI y), .int (nI 0)]))) H := hP
  have hD : mD (mA M sz) (mset (mset M a (.inr (3, [.int (nI x), .int (nI 0), .int (nI 0)]))) a (.inr (3, [.int (nI x), .int (nI y), .int (nI 0)]))) := hD
  rw [mset_mset _ a (.inr (3, [.int (nI x), .int (nI 0), .int (nI 0)])) (.inr (3, [.int (nI x), .int (nI y), .int (nI 0)]))] at hP hD
  refine lv_aload_n hx hb dX2_init_14 rfl (lv_at hl 0 rfl) ?_
  refine lv_iload_n hx hb dX2_init_15 rfl (lv_at hl 3 rfl) ?_
  refine m_putF (T := TX2) (N := 3) (ci := 3) (fs := [.int (nI x), .int (nI y), .int (nI 0)]) (v := .int (nI z)) hx hb hwX2 tyX2 tyX2_ok nmX2 hown hK hP hD hS (mset_self _ _ _) rfl 2 (by decide) (hts _ (List.mem_of_getElem? (i := 6) rfl)) rfl hname rfl (nar_bool (by omega)) (fit_bool (by omega)) (Nat.le_of_ble_eq_true rfl) dX2_init_16 (fun H locs hP hD hS => ?_)
  have hP : pm D (mset (mset M a (.inr (3, [.int (nI x), .int (nI y), .int (nI 0)]))) a (.inr (3, [.int (nI x), .int (nI y), .int (nI z)]))) H := hP
  have hD : mD (mA M sz) (mset (mset M a (.inr (3, [.int (nI x), .int (nI y), .int (nI 0)]))) a (.inr (3, [.int (nI x), .int (nI y), .int (nI z)]))) := hD
  rw [mset_mset _ a (.inr (3, [.int (nI x), .int (nI y), .int (nI 0)])) (.inr (3, [.int (nI x), .int (nI y), .int (nI z)]))] at hP hD
  exact e_wv hx hb hr hlocks hP hD hS (rfl) dX2_init_19
