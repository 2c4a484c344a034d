section
-- ===== PART A: goes FIRST, ahead of the names: the tables' words, and 'selects' of the private methods out of them =====
/-- a private method of a class that the tables say can be made, by its rows of tables_1 -/
def lw_okq (q : MethodName × Nat) : Prop := (q.1.cls ≠ "java/lang/invoke/MethodHandle" ∧ q.1.cls ≠ "java/lang/invoke/VarHandle") ∧ Cond.instantiable q.1.cls q.2 ∈ tables_1 ∧ Cond.privateMethod q.1 ∈ tables_1 ∧ Cond.instanceMethod q.1 ∈ tables_1
theorem lw_p0 : lw_okq (⟨"java/lang/Throwable", "fillInStackTrace", "(I)Ljava/lang/Throwable;"⟩, 6) := ⟨⟨by decide +kernel, by decide +kernel⟩, List.mem_of_getElem? (i := 169) (by decide +kernel), List.mem_of_getElem? (i := 167) (by decide +kernel), List.mem_of_getElem? (i := 168) (by decide +kernel)⟩
theorem lw_p1 : lw_okq (⟨"java/util/ArrayList", "add", "(Ljava/lang/Object;[Ljava/lang/Object;I)V"⟩, 3) := ⟨⟨by decide +kernel, by decide +kernel⟩, List.mem_of_getElem? (i := 60) (by decide +kernel), List.mem_of_getElem? (i := 278) (by decide +kernel), List.mem_of_getElem? (i := 279) (by decide +kernel)⟩
theorem lw_p2 : lw_okq (⟨"java/util/ArrayList", "grow", "()[Ljava/lang/Object;"⟩, 3) := ⟨⟨by decide +kernel, by decide +kernel⟩, List.mem_of_getElem? (i := 60) (by decide +kernel), List.mem_of_getElem? (i := 282) (by decide +kernel), List.mem_of_getElem? (i := 283) (by decide +kernel)⟩
theorem lw_p3 : lw_okq (⟨"java/util/ArrayList", "grow", "(I)[Ljava/lang/Object;"⟩, 3) := ⟨⟨by decide +kernel, by decide +kernel⟩, List.mem_of_getElem? (i := 60) (by decide +kernel), List.mem_of_getElem? (i := 286) (by decide +kernel), List.mem_of_getElem? (i := 287) (by decide +kernel)⟩
theorem lw_p4 : lw_okq (⟨"InkHall", "letterNumbered", "(I)LInkHall$Strokes;"⟩, 6) := ⟨⟨by decide +kernel, by decide +kernel⟩, List.mem_of_getElem? (i := 25) (by decide +kernel), List.mem_of_getElem? (i := 339) (by decide +kernel), List.mem_of_getElem? (i := 340) (by decide +kernel)⟩
theorem lw_p5 : lw_okq (⟨"InkHall", "pupilNumbered", "(I)LInkHall$Pupil;"⟩, 6) := ⟨⟨by decide +kernel, by decide +kernel⟩, List.mem_of_getElem? (i := 25) (by decide +kernel), List.mem_of_getElem? (i := 429) (by decide +kernel), List.mem_of_getElem? (i := 430) (by decide +kernel)⟩
theorem lw_p6 : lw_okq (⟨"InkHall$Script", "addRank", "(I)V"⟩, 7) := ⟨⟨by decide +kernel, by decide +kernel⟩, List.mem_of_getElem? (i := 441) (by decide +kernel), List.mem_of_getElem? (i := 495) (by decide +kernel), List.mem_of_getElem? (i := 496) (by decide +kernel)⟩
theorem lw_p7 : lw_okq (⟨"InkHall$Script", "longestRise", "()I"⟩, 7) := ⟨⟨by decide +kernel, by decide +kernel⟩, List.mem_of_getElem? (i := 441) (by decide +kernel), List.mem_of_getElem? (i := 499) (by decide +kernel), List.mem_of_getElem? (i := 500) (by decide +kernel)⟩
theorem lw_p8 : lw_okq (⟨"InkHall", "scriptNumbered", "(I)LInkHall$Script;"⟩, 6) := ⟨⟨by decide +kernel, by decide +kernel⟩, List.mem_of_getElem? (i := 25) (by decide +kernel), List.mem_of_getElem? (i := 515) (by decide +kernel), List.mem_of_getElem? (i := 516) (by decide +kernel)⟩
theorem lw_p9 : lw_okq (⟨"InkHall$Script", "isInOrderWithout", "(I)Z"⟩, 7) := ⟨⟨by decide +kernel, by decide +kernel⟩, List.mem_of_getElem? (i := 441) (by decide +kernel), List.mem_of_getElem? (i := 540) (by decide +kernel), List.mem_of_getElem? (i := 541) (by decide +kernel)⟩
theorem lw_p10 : lw_okq (⟨"InkHall", "shownCount", "()I"⟩, 6) := ⟨⟨by decide +kernel, by decide +kernel⟩, List.mem_of_getElem? (i := 25) (by decide +kernel), List.mem_of_getElem? (i := 627) (by decide +kernel), List.mem_of_getElem? (i := 628) (by decide +kernel)⟩
theorem lw_p11 : lw_okq (⟨"InkHall", "placeNow", "(II)I"⟩, 6) := ⟨⟨by decide +kernel, by decide +kernel⟩, List.mem_of_getElem? (i := 25) (by decide +kernel), List.mem_of_getElem? (i := 670) (by decide +kernel), List.mem_of_getElem? (i := 671) (by decide +kernel)⟩
theorem lw_p12 : lw_okq (⟨"InkHallModel", "asks", "(Z)Z"⟩, 24) := ⟨⟨by decide +kernel, by decide +kernel⟩, List.mem_of_getElem? (i := 682) (by decide +kernel), List.mem_of_getElem? (i := 772) (by decide +kernel), List.mem_of_getElem? (i := 773) (by decide +kernel)⟩
theorem lw_p13 : lw_okq (⟨"InkHallModel", "fails", "(I)I"⟩, 24) := ⟨⟨by decide +kernel, by decide +kernel⟩, List.mem_of_getElem? (i := 682) (by decide +kernel), List.mem_of_getElem? (i := 776) (by decide +kernel), List.mem_of_getElem? (i := 777) (by decide +kernel)⟩
theorem lw_p14 : lw_okq (⟨"InkHallModel", "isLetter", "(I)Z"⟩, 24) := ⟨⟨by decide +kernel, by decide +kernel⟩, List.mem_of_getElem? (i := 682) (by decide +kernel), List.mem_of_getElem? (i := 795) (by decide +kernel), List.mem_of_getElem? (i := 796) (by decide +kernel)⟩
theorem lw_p15 : lw_okq (⟨"InkHallModel", "bandOf", "(I)I"⟩, 24) := ⟨⟨by decide +kernel, by decide +kernel⟩, List.mem_of_getElem? (i := 682) (by decide +kernel), List.mem_of_getElem? (i := 821) (by decide +kernel), List.mem_of_getElem? (i := 822) (by decide +kernel)⟩
def lw_privs_1 : List (MethodName × Nat) := [(⟨"java/lang/Throwable", "fillInStackTrace", "(I)Ljava/lang/Throwable;"⟩, 6), (⟨"java/util/ArrayList", "add", "(Ljava/lang/Object;[Ljava/lang/Object;I)V"⟩, 3), (⟨"java/util/ArrayList", "grow", "()[Ljava/lang/Object;"⟩, 3), (⟨"java/util/ArrayList", "grow", "(I)[Ljava/lang/Object;"⟩, 3), (⟨"InkHall", "letterNumbered", "(I)LInkHall$Strokes;"⟩, 6), (⟨"InkHall", "pupilNumbered", "(I)LInkHall$Pupil;"⟩, 6), (⟨"InkHall$Script", "addRank", "(I)V"⟩, 7), (⟨"InkHall$Script", "longestRise", "()I"⟩, 7), (⟨"InkHall", "scriptNumbered", "(I)LInkHall$Script;"⟩, 6), (⟨"InkHall$Script", "isInOrderWithout", "(I)Z"⟩, 7), (⟨"InkHall", "shownCount", "()I"⟩, 6), (⟨"InkHall", "placeNow", "(II)I"⟩, 6), (⟨"InkHallModel", "asks", "(Z)Z"⟩, 24), (⟨"InkHallModel", "fails", "(I)I"⟩, 24), (⟨"InkHallModel", "isLetter", "(I)Z"⟩, 24), (⟨"InkHallModel", "bandOf", "(I)I"⟩, 24)]
theorem lw_r1 : ∀ q ∈ lw_privs_1, lw_okq q := List.forall_mem_cons.mpr ⟨lw_p0, List.forall_mem_cons.mpr ⟨lw_p1, List.forall_mem_cons.mpr ⟨lw_p2, List.forall_mem_cons.mpr ⟨lw_p3, List.forall_mem_cons.mpr ⟨lw_p4, List.forall_mem_cons.mpr ⟨lw_p5, List.forall_mem_cons.mpr ⟨lw_p6, List.forall_mem_cons.mpr ⟨lw_p7, List.forall_mem_cons.mpr ⟨lw_p8, List.forall_mem_cons.mpr ⟨lw_p9, List.forall_mem_cons.mpr ⟨lw_p10, List.forall_mem_cons.mpr ⟨lw_p11, List.forall_mem_cons.mpr ⟨lw_p12, List.forall_mem_cons.mpr ⟨lw_p13, List.forall_mem_cons.mpr ⟨lw_p14, List.forall_mem_cons.mpr ⟨lw_p15, fun _ h => absurd h List.not_mem_nil⟩⟩⟩⟩⟩⟩⟩⟩⟩⟩⟩⟩⟩⟩⟩⟩
theorem lw_p16 : lw_okq (⟨"InkHallModel", "isScript", "(I)Z"⟩, 24) := ⟨⟨by decide +kernel, by decide +kernel⟩, List.mem_of_getElem? (i := 682) (by decide +kernel), List.mem_of_getElem? (i := 829) (by decide +kernel), List.mem_of_getElem? (i := 830) (by decide +kernel)⟩
theorem lw_p17 : lw_okq (⟨"InkHallModel", "allSlips", "(I)I"⟩, 24) := ⟨⟨by decide +kernel, by decide +kernel⟩, List.mem_of_getElem? (i := 682) (by decide +kernel), List.mem_of_getElem? (i := 833) (by decide +kernel), List.mem_of_getElem? (i := 834) (by decide +kernel)⟩
theorem lw_p18 : lw_okq (⟨"InkHallModel", "slipsOf", "(II)I"⟩, 24) := ⟨⟨by decide +kernel, by decide +kernel⟩, List.mem_of_getElem? (i := 682) (by decide +kernel), List.mem_of_getElem? (i := 837) (by decide +kernel), List.mem_of_getElem? (i := 838) (by decide +kernel)⟩
theorem lw_p19 : lw_okq (⟨"InkHallModel", "counting", "(I)I"⟩, 24) := ⟨⟨by decide +kernel, by decide +kernel⟩, List.mem_of_getElem? (i := 682) (by decide +kernel), List.mem_of_getElem? (i := 841) (by decide +kernel), List.mem_of_getElem? (i := 842) (by decide +kernel)⟩
theorem lw_p20 : lw_okq (⟨"InkHallModel", "counts", "(II)Z"⟩, 24) := ⟨⟨by decide +kernel, by decide +kernel⟩, List.mem_of_getElem? (i := 682) (by decide +kernel), List.mem_of_getElem? (i := 845) (by decide +kernel), List.mem_of_getElem? (i := 846) (by decide +kernel)⟩
theorem lw_p21 : lw_okq (⟨"InkHallModel", "strokeOn", "(II)I"⟩, 24) := ⟨⟨by decide +kernel, by decide +kernel⟩, List.mem_of_getElem? (i := 682) (by decide +kernel), List.mem_of_getElem? (i := 849) (by decide +kernel), List.mem_of_getElem? (i := 850) (by decide +kernel)⟩
theorem lw_p22 : lw_okq (⟨"InkHallModel", "turned", "(I)I"⟩, 24) := ⟨⟨by decide +kernel, by decide +kernel⟩, List.mem_of_getElem? (i := 682) (by decide +kernel), List.mem_of_getElem? (i := 853) (by decide +kernel), List.mem_of_getElem? (i := 854) (by decide +kernel)⟩
theorem lw_p23 : lw_okq (⟨"InkHallModel", "inOrder", "(I)I"⟩, 24) := ⟨⟨by decide +kernel, by decide +kernel⟩, List.mem_of_getElem? (i := 682) (by decide +kernel), List.mem_of_getElem? (i := 857) (by decide +kernel), List.mem_of_getElem? (i := 858) (by decide +kernel)⟩
theorem lw_p24 : lw_okq (⟨"InkHallModel", "hasMarked", "(II)Z"⟩, 24) := ⟨⟨by decide +kernel, by decide +kernel⟩, List.mem_of_getElem? (i := 682) (by decide +kernel), List.mem_of_getElem? (i := 872) (by decide +kernel), List.mem_of_getElem? (i := 873) (by decide +kernel)⟩
theorem lw_p25 : lw_okq (⟨"InkHallModel", "lacking", "(I)I"⟩, 24) := ⟨⟨by decide +kernel, by decide +kernel⟩, List.mem_of_getElem? (i := 682) (by decide +kernel), List.mem_of_getElem? (i := 876) (by decide +kernel), List.mem_of_getElem? (i := 877) (by decide +kernel)⟩
theorem lw_p26 : lw_okq (⟨"InkHallModel", "gradeOf", "(I)I"⟩, 24) := ⟨⟨by decide +kernel, by decide +kernel⟩, List.mem_of_getElem? (i := 682) (by decide +kernel), List.mem_of_getElem? (i := 884) (by decide +kernel), List.mem_of_getElem? (i := 885) (by decide +kernel)⟩
theorem lw_p27 : lw_okq (⟨"InkHallModel", "dropsMarks", "(II)V"⟩, 24) := ⟨⟨by decide +kernel, by decide +kernel⟩, List.mem_of_getElem? (i := 682) (by decide +kernel), List.mem_of_getElem? (i := 896) (by decide +kernel), List.mem_of_getElem? (i := 897) (by decide +kernel)⟩
theorem lw_p28 : lw_okq (⟨"InkHallModel", "pointsOf", "(I)I"⟩, 24) := ⟨⟨by decide +kernel, by decide +kernel⟩, List.mem_of_getElem? (i := 682) (by decide +kernel), List.mem_of_getElem? (i := 908) (by decide +kernel), List.mem_of_getElem? (i := 909) (by decide +kernel)⟩
theorem lw_p29 : lw_okq (⟨"InkHallModel", "worthOf", "(I)I"⟩, 24) := ⟨⟨by decide +kernel, by decide +kernel⟩, List.mem_of_getElem? (i := 682) (by decide +kernel), List.mem_of_getElem? (i := 916) (by decide +kernel), List.mem_of_getElem? (i := 917) (by decide +kernel)⟩
theorem lw_p30 : lw_okq (⟨"InkHallModel", "placeOf", "(I)I"⟩, 24) := ⟨⟨by decide +kernel, by decide +kernel⟩, List.mem_of_getElem? (i := 682) (by decide +kernel), List.mem_of_getElem? (i := 924) (by decide +kernel), List.mem_of_getElem? (i := 925) (by decide +kernel)⟩
def lw_privs_2 : List (MethodName × Nat) := [(⟨"InkHallModel", "isScript", "(I)Z"⟩, 24), (⟨"InkHallModel", "allSlips", "(I)I"⟩, 24), (⟨"InkHallModel", "slipsOf", "(II)I"⟩, 24), (⟨"InkHallModel", "counting", "(I)I"⟩, 24), (⟨"InkHallModel", "counts", "(II)Z"⟩, 24), (⟨"InkHallModel", "strokeOn", "(II)I"⟩, 24), (⟨"InkHallModel", "turned", "(I)I"⟩, 24), (⟨"InkHallModel", "inOrder", "(I)I"⟩, 24), (⟨"InkHallModel", "hasMarked", "(II)Z"⟩, 24), (⟨"InkHallModel", "lacking", "(I)I"⟩, 24), (⟨"InkHallModel", "gradeOf", "(I)I"⟩, 24), (⟨"InkHallModel", "dropsMarks", "(II)V"⟩, 24), (⟨"InkHallModel", "pointsOf", "(I)I"⟩, 24), (⟨"InkHallModel", "worthOf", "(I)I"⟩, 24), (⟨"InkHallModel", "placeOf", "(I)I"⟩, 24)]
theorem lw_r2 : ∀ q ∈ lw_privs_2, lw_okq q := List.forall_mem_cons.mpr ⟨lw_p16, List.forall_mem_cons.mpr ⟨lw_p17, List.forall_mem_cons.mpr ⟨lw_p18, List.forall_mem_cons.mpr ⟨lw_p19, List.forall_mem_cons.mpr ⟨lw_p20, List.forall_mem_cons.mpr ⟨lw_p21, List.forall_mem_cons.mpr ⟨lw_p22, List.forall_mem_cons.mpr ⟨lw_p23, List.forall_mem_cons.mpr ⟨lw_p24, List.forall_mem_cons.mpr ⟨lw_p25, List.forall_mem_cons.mpr ⟨lw_p26, List.forall_mem_cons.mpr ⟨lw_p27, List.forall_mem_cons.mpr ⟨lw_p28, List.forall_mem_cons.mpr ⟨lw_p29, List.forall_mem_cons.mpr ⟨lw_p30, fun _ h => absurd h List.not_mem_nil⟩⟩⟩⟩⟩⟩⟩⟩⟩⟩⟩⟩⟩⟩⟩
def lw_privs : List (MethodName × Nat) := lw_privs_1 ++ (lw_privs_2)
def lw_tbl : List Cond := k2_sels lw_privs ++ tables_1
theorem lw_privs_ok : ∀ q ∈ lw_privs, lw_okq q := by
  show ∀ q ∈ lw_privs_1 ++ (lw_privs_2), lw_okq q
  exact List.forall_mem_append.mpr ⟨lw_r1, lw_r2⟩
-- ===== end of PART A; then your names; then what follows =====
/-! ===== BEGIN words of one list among another's, by their places ===== -/
theorem goodIn_r {big : List Cond} (ws : List Cond) (ps : List Nat) (hp : ws = ps.filterMap (fun i => big[i]?)) (h : ws.all goodWord = true) : GoodIn big ws := by
  intro w hw
  have h1 := List.all_eq_true.mp h w hw
  rw [hp] at hw
  obtain ⟨i, -, hi⟩ := List.mem_filterMap.mp hw
  have hm : w ∈ big := by first | exact List.mem_of_getElem? hi | exact List.getElem?_mem hi
  exact ⟨hm, good_of_word h1⟩
theorem goodIn_app {big a b : List Cond} (ha : GoodIn big a) (hb : GoodIn big b) : GoodIn big (a ++ b) := fun w h => (List.mem_append.mp h).elim (ha w) (hb w)
theorem goodIn_ca {big a b : List Cond} {c : Cond} (ha : GoodIn big (c :: a)) (hb : GoodIn big b) : GoodIn big (c :: (a ++ b)) := fun w h => (List.mem_cons.mp h).elim (fun e => ha w (List.mem_cons.mpr (Or.inl e))) (fun h => (List.mem_append.mp h).elim (fun h => ha w (List.mem_cons.mpr (Or.inr h))) (hb w))
theorem goodIn_sub {big ws : List Cond} (hm : ∀ w ∈ ws, w ∈ big) (h : ws.all goodWord = true) : GoodIn big ws := fun w hw => ⟨hm w hw, good_of_word (List.all_eq_true.mp h w hw)⟩
/-! ===== END ===== -/

/-! ===== BEGIN exceptions that leave a method, and their catching by the caller (launches without stack traces) ===== -/
section VXA
/-! The laws vx_back, vx_callV, vx_callS, vx_callSW, vx_throw0, vx_throwS follow proofs of the library, with one case more: JvmDerived/Free/Laws.lean (Back.of_free), Shelf42/LK1.lean (callV, callS), Shelf/KitTraced.lean (throwNew0V, throwNewS). -/
/-- where a method has thrown q: the class by its name, the cell, what was written, the world -/
def vx_T (XC : String → State → State → Prop) (st : State) (q : Addr) (t : State) (mc ms : Nat) (free : Addr → Prop) : Prop :=
  ∃ (E : String) (ce : Cell) (L : List Loc), XC E st t ∧ t.heap[q]? = some ce ∧ ce.vm = .none ∧ st.vm.findClass E = some ce.cls ∧ st.WarmedH t.vm ∧ st.sameButNew ({ t with vm := st.vm } : State) L mc ms ∧ ∀ z ∈ L, free z.base
def vx_Q (Qc : Array Value → State → Outcome → State → Prop) (XC : String → State → State → Prop) (mc ms : Nat) (free : Addr → Prop) : Array Value → State → Outcome → State → Prop := fun a st o t =>
  (Qc a st o t ∧ ∃ L, FrameEnd st o t L mc ms ∧ ∀ q ∈ L, free q.base) ∨ ∃ q, o = .threw q ∧ vx_T XC st q t mc ms free
/-- a callee that returns or throws -/
def vx_Met (l : Launch) (y : MethodName) (ws : List Cond) (rm : Room) (Pc : Array Value → State → Prop) (Qc : Array Value → State → Outcome → State → Prop) (XC : String → State → State → Prop) (mc ms : Nat) (free : Addr → Prop) : Prop :=
  MetFree l y (headSpec ws rm) Pc (fun _ _ _ _ _ => True) (vx_Q Qc XC mc ms free)
def vx_Post (XC : String → State → State → Prop) (mc ms : Nat) (free : Addr → Prop) : Pt → Array Value → Addr → Pt → Prop := fun A a q B =>
  ∃ (g : JFrame) (mk : MethodId) (t : State) (L : List Loc) (E : String) (ce : Cell), B.U.heap = t.heap ∧ B.U.vm = t.vm ∧ XC E (A.U.calling g mk a) t ∧ t.heap[q]? = some ce ∧ ce.vm = .none ∧ A.U.vm.findClass E = some ce.cls ∧ B.locs = A.locs ++ L ∧ (∀ z ∈ L, free z.base) ∧ B.cells = A.cells + mc ∧ B.slots = A.slots + ms
def vx_Back (l : Launch) (R : Room) (p : Program) (e : Env) (below : List Frame) (s : State) (sargs : Array Value) (y : MethodName) (len W9 : Nat)
    (Pre : Pt → Array Value → Prop) (Post : Pt → Array Value → Option Value → Pt → Prop) (PostX : Pt → Array Value → Addr → Pt → Prop) : Prop :=
  ∀ (m : MethodId) (meth : Method) (c : Code) (A : Pt) (g : JFrame) (ig : Instr) (mk : MethodId) (a : Array Value),
    Stand p l e R s m sargs below meth c A.U A.locs A.cells A.slots → g.method = m → g.locals.size = c.maxLocals → decode c.code g.pc = .ok (ig, len) →
    2 * g.monitorRoom + (g.stack.map fun v => v.category).sum ≤ W9 → A.U.methodNamed? y = some mk → Pre A a →
    (∃ (v : Option Value) (B : Pt), Stand p l e R s m sargs below meth c B.U B.locs B.cells B.slots ∧ Post A a v B ∧
      Steps p.tables e below (doInvoke e (A.U.setTop g) [] mk a).1 (B.U.setTop { g with pc := g.pc + len, stack := v.toList ++ g.stack })) ∨
    (∃ (q : Addr) (B : Pt), Stand p l e R s m sargs below meth c B.U B.locs B.cells B.slots ∧ PostX A a q B ∧
      Steps p.tables e below (doInvoke e (A.U.setTop g) [] mk a).1 ((B.U.setTop g).pushFrame (.throwing q)))
section Payer
variable {l : Launch} {R : Room} {p : Program} {e : Env} {below : List Frame} {s : State} {sargs : Array Value} {y : MethodName} {len W9 : Nat}
theorem vx_back {ws : List Cond} {rm : Room} {Pc : Array Value → State → Prop} {Qc : Array Value → State → Outcome → State → Prop} {XC : String → State → State → Prop} {mc ms : Nat} {free : Addr → Prop} {bytes : ByteArray} {maxL : Nat} {ret : Option FieldType}
    (hM : vx_Met l y ws rm Pc Qc XC mc ms free) (hblind : FrameBlind Pc) (hrc : rm.cells = mc) (hrs : rm.slots = ms)
    (hframes : rm.frames + 1 ≤ R.frames) (hlocals : W9 + (maxL + 11) + rm.locals ≤ R.locals)
    (hws : ∀ w ∈ ws, ∀ a' U, s.WarmedH U.vm → w.before a' U = true) (hcode : Cond.code y bytes maxL ret ∈ ws) (hinit : ∀ a' U, s.WarmedH U.vm → (Cond.initialized y.cls).before a' U = true) :
    vx_Back l R p e below s sargs y len W9 (PreOf R mc ms Pc) (PostOf Qc mc ms free) (vx_Post XC mc ms free) := by
  intro m meth c A g ig mk a X hg hsize hdg hW hn hp
  have h1 : (headSpec ws rm).pre.before a A.U = true := atoms_intro fun w hw => hws w hw _ _ X.warmed
  have h2 : (Cond.code y bytes maxL ret).before a A.U = true := hws _ hcode _ _ X.warmed
  have h3 : (Cond.initialized y.cls).before a A.U = true := hinit _ _ X.warmed
  have h4 : A.cells + (headSpec ws rm).room.cells ≤ R.cells := by rw [show (headSpec ws rm).room.cells = mc from hrc]; exact hp.1
  have h5 : A.slots + (headSpec ws rm).room.slots ≤ R.slots := by rw [show (headSpec ws rm).room.slots = ms from hrs]; exact hp.2.1
  have hPc : Pc a (A.U.calling g mk a) := hblind _ _ _ _ hp.2.2
  obtain ⟨U, Ls, c0, s0⟩ := A
  dsimp only [Pt.U, Pt.locs, Pt.cells, Pt.slots] at h1 h2 h3 h4 h5 X hn hPc ⊢
  obtain ⟨methY, cY, hmY, hcY, -, hlY, -, -, -, -⟩ := Cond.code_spec hn h2
  obtain ⟨kY, hkY, -⟩ := className_of_methodNamed hn
  have hinitY : kY.init = .initialized := Cond.initialized_spec (findClass_of_methodNamed hn) hkY h3
  have h : At U g.method c below := by rw [hg]; exact X.here
  have hlocals9 : W9 + (maxL + 11) + (headSpec ws rm).room.locals ≤ R.locals := hlocals
  have happ : (headSpec ws rm).appliesLoose y e.platform (U.calling g mk a) = true :=
    Spec.appliesLoose_calling (g := g) h hdg hn hkY hinitY
      (X.room_calling (g := g) (R' := (headSpec ws rm).room) hsize hmY hcY hframes (by rw [hlY]; omega) h4 h5) h1
  obtain ⟨mid, hmid⟩ := h.above
  have hfr : (U.setTop g).frames = (.java g :: mid) ++ below := by rw [State.frames_setTop' g h.top, hmid]; rfl
  obtain ⟨o, s₂, hsteps, -, hend, hq⟩ := Steps.callFree hM p X.admits X.cas X.clock (acts := []) hfr happ hPc trivial
  have hq' : vx_Q Qc XC mc ms free a (U.calling g mk a) o s₂ := hq
  rw [State.frames_setTop' g h.top] at hend
  obtain ⟨g₀, hg0⟩ := Option.isSome_iff_exists.mp h.top
  obtain ⟨r, hr⟩ := State.topJava?_eq_some.mp hg0
  have hr' : (({ U with heap := s₂.heap, slotsUsed := s₂.slotsUsed } : State).setVm s₂.vm).frames = .java g₀ :: r := hr
  rcases hq' with ⟨hqc, L, hfe, hL⟩ | ⟨q, rfl, E, ce, L, hx, hce, hcv, hcl, hW₂, hsm, hL⟩
  · obtain ⟨⟨v, rfl⟩, hW₂, e2, q2, q3, q4, q5, q6⟩ := id hfe
    have e3 : s₂ = ({ (U.calling g mk a).setFrames s₂.frames with heap := s₂.heap, slotsUsed := s₂.slotsUsed } : State).setVm s₂.vm := by
      have : s₂ = ({ s₂ with vm := (U.calling g mk a).vm } : State).setVm s₂.vm := rfl
      rw [e2] at this
      exact this
    obtain ⟨c₂, i₂, len₂, hc₂, hd₂, hf₂⟩ := hend
    have hW' : U.WarmedH s₂.vm := hW₂
    have hcc : c₂ = c := by
      have h1 : s₂.code? g.method = U.code? g.method := by
        rw [State.code?_eq, State.code?_eq, hW'.alike.method?]
      exact Option.some.inj (hc₂.symm.trans (h1.trans h.code))
    subst hcc
    have hlen : len₂ = len := by rw [hdg] at hd₂; cases hd₂; rfl
    subst hlen
    have hs₂ : s₂ = (({ U with heap := s₂.heap, slotsUsed := s₂.slotsUsed } : State).setVm s₂.vm).setTop { g with pc := g.pc + len₂, stack := v.toList ++ g.stack } := by
      refine e3.trans ?_
      rw [hf₂, State.calling_eq h.top, State.setFrames_setFrames, State.setTop_of_frames _ hr', hr]
      rfl
    have hsame : U.sameButNew ({ U with heap := s₂.heap, slotsUsed := s₂.slotsUsed } : State) L mc ms := by
      refine ⟨?_, q2, q3, q4, q5, q6⟩
      obtain ⟨t, ht, -⟩ := State.frames_cons hr
      show ({ U with heap := s₂.heap, slotsUsed := s₂.slotsUsed } : State) = { U.setFrames U.frames with heap := s₂.heap, slotsUsed := s₂.slotsUsed }
      rw [State.setFrames_self ht]
    subst hg
    refine Or.inl ⟨v, ⟨(({ U with heap := s₂.heap, slotsUsed := s₂.slotsUsed } : State).setVm s₂.vm), Ls ++ L, c0 + mc, s0 + ms⟩,
      ⟨X.admits, X.cas, X.clock, X.frames, X.room, X.hears, X.method, X.code, (X.here.setHeapUsed s₂.heap s₂.slotsUsed).setVm hW'.alike, X.tail, State.WarmedH.trans X.warmed hW', X.limits, X.bytes, X.same.trans (hsame.setVm s.vm)⟩,
      ⟨g, mk, s₂, L, rfl, rfl, hqc, rfl, hL, rfl, rfl⟩, ?_⟩
    show Steps p.tables e below _ ((({ U with heap := s₂.heap, slotsUsed := s₂.slotsUsed } : State).setVm s₂.vm).setTop { g with pc := g.pc + len₂, stack := v.toList ++ g.stack })
    rw [← hs₂]
    exact hsteps
  · obtain ⟨e2, q2, q3, q4, q5, q6⟩ := id hsm
    have e3 : s₂ = ({ (U.calling g mk a).setFrames s₂.frames with heap := s₂.heap, slotsUsed := s₂.slotsUsed } : State).setVm s₂.vm := by
      have : s₂ = ({ s₂ with vm := (U.calling g mk a).vm } : State).setVm s₂.vm := rfl
      rw [e2] at this
      exact this
    have hf₂ : s₂.frames = .throwing q :: .java g :: U.frames.tail := hend
    have hW' : U.WarmedH s₂.vm := hW₂
    have hs₂ : s₂ = ((({ U with heap := s₂.heap, slotsUsed := s₂.slotsUsed } : State).setVm s₂.vm).setTop g).pushFrame (.throwing q) := by
      refine e3.trans ?_
      rw [hf₂, State.calling_eq h.top, State.setFrames_setFrames, State.pushFrame, State.frames_setTop _ hr', State.setTop_of_frames _ hr', State.setFrames_setFrames, hr]
      rfl
    have hsame : U.sameButNew ({ U with heap := s₂.heap, slotsUsed := s₂.slotsUsed } : State) L mc ms := by
      refine ⟨?_, q2, q3, q4, q5, q6⟩
      obtain ⟨t, ht, -⟩ := State.frames_cons hr
      show ({ U with heap := s₂.heap, slotsUsed := s₂.slotsUsed } : State) = { U.setFrames U.frames with heap := s₂.heap, slotsUsed := s₂.slotsUsed }
      rw [State.setFrames_self ht]
    subst hg
    refine Or.inr ⟨q, ⟨(({ U with heap := s₂.heap, slotsUsed := s₂.slotsUsed } : State).setVm s₂.vm), Ls ++ L, c0 + mc, s0 + ms⟩,
      ⟨X.admits, X.cas, X.clock, X.frames, X.room, X.hears, X.method, X.code, (X.here.setHeapUsed s₂.heap s₂.slotsUsed).setVm hW'.alike, X.tail, State.WarmedH.trans X.warmed hW', X.limits, X.bytes, X.same.trans (hsame.setVm s.vm)⟩,
      ⟨g, mk, s₂, L, E, ce, rfl, rfl, hx, hce, hcv, hcl, rfl, hL, rfl, rfl⟩, ?_⟩
    show Steps p.tables e below _ (((({ U with heap := s₂.heap, slotsUsed := s₂.slotsUsed } : State).setVm s₂.vm).setTop g).pushFrame (.throwing q))
    rw [← hs₂]
    exact hsteps
end Payer
section Calls
variable {p : Program} {l : Launch} {e : Env} {R : Room} {s : State} {m : MethodId} {args : Array Value} {below : List Frame} {meth : Method} {c : Code} {T : State} {locs : List Loc} {cells slots : Nat}
theorem vx_callV (X : Stand p l e R s m args below meth c T locs cells slots) (hexec : p.tables.exec = Jvm.exec) {own C : String} {index : Nat} {y : MethodName} {bytes : ByteArray} {maxL : Nat} {ret : Option FieldType}
    (hown : s.vm.findClass own = some m.cls) (hlink : (Cond.methodLink own index y).before args s = true) (hinst : (Cond.instanceMethod y).before args s = true) (hsel : (Cond.selects C y y).before args s = true)
    (hcode : (Cond.code y bytes maxL ret).before args s = true) (hy : y.cls ≠ "java/lang/invoke/MethodHandle" ∧ y.cls ≠ "java/lang/invoke/VarHandle")
    {W9 : Nat} {Pre : Pt → Array Value → Prop} {Post : Pt → Array Value → Option Value → Pt → Prop} {PostX : Pt → Array Value → Addr → Pt → Prop} (hK : vx_Back l R p e below s args y 3 W9 Pre Post PostX)
    {b : Addr} {cellB : Cell} (hcell : T.heap[b]? = some cellB) (hobj : cellB.vm.isStatics = false) (hcls : s.vm.findClass C = some cellB.cls)
    {g : JFrame} (hg : g.method = m) (hsize : g.locals.size = c.maxLocals) {argsL rest : List Value} (hlen : ∀ sig, parseMethodDescriptor y.desc = some sig → argsL.length = sig.parameters.length)
    (hstack : g.stack = argsL.reverse ++ .ref b :: rest) (hW : 2 * g.monitorRoom + (rest.map fun v => v.category).sum ≤ W9) (hdg : decode c.code g.pc = .ok (.invokevirtual index, 3))
    (hpre : ∀ vm₁, s.WarmedH vm₁ → Pre ⟨T.setVm vm₁, locs, cells, slots⟩ (Value.ref b :: argsL).toArray) :
    (∃ (v : Option Value) (vm₁ : Vm) (B : Pt), s.WarmedH vm₁ ∧ Stand p l e R s m args below meth c B.U B.locs B.cells B.slots ∧ Post ⟨T.setVm vm₁, locs, cells, slots⟩ (Value.ref b :: argsL).toArray v B ∧
      ∀ target, Steps p.tables e below (B.U.setTop { g with pc := g.pc + 3, stack := v.toList ++ rest }) target → Steps p.tables e below (T.setTop g) target) ∨
    (∃ (q : Addr) (vm₁ : Vm) (B : Pt), s.WarmedH vm₁ ∧ Stand p l e R s m args below meth c B.U B.locs B.cells B.slots ∧ PostX ⟨T.setVm vm₁, locs, cells, slots⟩ (Value.ref b :: argsL).toArray q B ∧
      Steps p.tables e below (T.setTop g) ((B.U.setTop { g with stack := rest }).pushFrame (.throwing q))) := by
  obtain ⟨mk, methM, hnamed, hmethM, hstM, habM⟩ := Cond.instanceMethod_spec hinst
  obtain ⟨methM', cM, hmethM', -, -, -, -, -, -, hsigM⟩ := Cond.code_spec hnamed hcode
  cases hmethM.symm.trans hmethM'
  obtain ⟨c2, r2, m2, q1, q2, q3, q4, kP, hkP, hkPi⟩ := Cond.selects_spec hsel
  cases hcls.symm.trans q1
  cases (State.methodFound?_of_named hnamed hy).symm.trans q2
  cases hnamed.symm.trans q3
  have hselP : selectMethod e.platform s.vm cellB.cls mk = .method mk := by rw [Launch.admits_selectMethod X.admits]; exact q4
  obtain ⟨vm₁, X₁, hstep₁⟩ := X.invokevirtual hexec hown hlink hnamed hmethM hstM hkP hkPi hy (a := b) (cell := cellB) hcell
    (fun z h => by rw [h] at hobj; cases hobj) hselP hmethM habM hkP hkPi (g := g) hg (argsL := argsL) (rest := rest) (hlen _ hsigM) hstack hdg
  rcases hK m meth c ⟨T.setVm vm₁, locs, cells, slots⟩ { g with stack := rest } (.invokevirtual index) mk (Value.ref b :: argsL).toArray X₁ hg hsize hdg hW (X₁.named hnamed) (hpre vm₁ X₁.warmed) with ⟨v, B, X', hpost, hsteps⟩ | ⟨q, B, X', hpost, hsteps⟩
  · exact Or.inl ⟨v, vm₁, B, X₁.warmed, X', hpost, fun target h => hstep₁ _ fun acts => by rw [doInvoke_state]; exact hsteps.trans h⟩
  · exact Or.inr ⟨q, vm₁, B, X₁.warmed, X', hpost, hstep₁ _ fun acts => by rw [doInvoke_state]; exact hsteps⟩
theorem vx_callS (X : Stand p l e R s m args below meth c T locs cells slots) (hexec : p.tables.exec = Jvm.exec) {own : String} {index : Nat} {y : MethodName} {bytes : ByteArray} {maxL : Nat} {ret : Option FieldType}
    (hown : s.vm.findClass own = some m.cls) (hlink : (Cond.methodLink own index y).before args s = true) (hstat : (Cond.static y).before args s = true) (hinit : (Cond.initialized y.cls).before args s = true)
    (hcode : (Cond.code y bytes maxL ret).before args s = true) (hy : y.cls ≠ "java/lang/invoke/MethodHandle" ∧ y.cls ≠ "java/lang/invoke/VarHandle")
    {W9 : Nat} {Pre : Pt → Array Value → Prop} {Post : Pt → Array Value → Option Value → Pt → Prop} {PostX : Pt → Array Value → Addr → Pt → Prop} (hK : vx_Back l R p e below s args y 3 W9 Pre Post PostX)
    {g : JFrame} (hg : g.method = m) (hsize : g.locals.size = c.maxLocals) {argsL rest : List Value} (hlen : ∀ sig, parseMethodDescriptor y.desc = some sig → argsL.length = sig.parameters.length)
    (hstack : g.stack = argsL.reverse ++ rest) (hW : 2 * g.monitorRoom + (rest.map fun v => v.category).sum ≤ W9) (hdg : decode c.code g.pc = .ok (.invokestatic index, 3))
    (hpre : ∀ vm₁, s.WarmedH vm₁ → Pre ⟨T.setVm vm₁, locs, cells, slots⟩ argsL.toArray) :
    (∃ (v : Option Value) (vm₁ : Vm) (B : Pt), s.WarmedH vm₁ ∧ Stand p l e R s m args below meth c B.U B.locs B.cells B.slots ∧ Post ⟨T.setVm vm₁, locs, cells, slots⟩ argsL.toArray v B ∧
      ∀ target, Steps p.tables e below (B.U.setTop { g with pc := g.pc + 3, stack := v.toList ++ rest }) target → Steps p.tables e below (T.setTop g) target) ∨
    (∃ (q : Addr) (vm₁ : Vm) (B : Pt), s.WarmedH vm₁ ∧ Stand p l e R s m args below meth c B.U B.locs B.cells B.slots ∧ PostX ⟨T.setVm vm₁, locs, cells, slots⟩ argsL.toArray q B ∧
      Steps p.tables e below (T.setTop g) ((B.U.setTop { g with stack := rest }).pushFrame (.throwing q))) := by
  obtain ⟨mk, hnamed⟩ := Cond.code_named hcode
  obtain ⟨methM, cM, hmethM, -, -, -, -, -, -, hsigM⟩ := Cond.code_spec hnamed hcode
  have hstatic : methM.isStatic = true := Cond.static_spec hnamed hmethM hstat
  obtain ⟨kP, hkP, -⟩ := className_of_methodNamed hnamed
  have hinitP : kP.init = .initialized := Cond.initialized_spec (findClass_of_methodNamed hnamed) hkP hinit
  obtain ⟨vm₁, X₁, hstep₁⟩ := X.invokestatic hexec hown hlink hnamed hmethM hstatic hkP hinitP hy (g := g) hg (argsL := argsL) (rest := rest) (hlen _ hsigM) hstack hdg
  rcases hK m meth c ⟨T.setVm vm₁, locs, cells, slots⟩ { g with stack := rest } (.invokestatic index) mk argsL.toArray X₁ hg hsize hdg hW (X₁.named hnamed) (hpre vm₁ X₁.warmed) with ⟨v, B, X', hpost, hsteps⟩ | ⟨q, B, X', hpost, hsteps⟩
  · exact Or.inl ⟨v, vm₁, B, X₁.warmed, X', hpost, fun target h => hstep₁ _ fun acts => by rw [doInvoke_state]; exact hsteps.trans h⟩
  · exact Or.inr ⟨q, vm₁, B, X₁.warmed, X', hpost, hstep₁ _ fun acts => by rw [doInvoke_state]; exact hsteps⟩
end Calls
theorem vx_cls {s : State} {T : State} {vm₁ : Vm} {E : String} {k : ClassId} (hW : s.WarmedH vm₁) (h : (T.setVm vm₁).vm.findClass E = some k) : s.vm.findClass E = some k := by
  have h1 : vm₁.findClass E = some k := h
  rw [hW.alike.findClass] at h1
  exact h1
/-- the method's frame g, with q thrown over it -/
def vx_W (p : Program) (l : Launch) (e : Env) (R : Room) (s : State) (m : MethodId) (args : Array Value) (below : List Frame) (meth : Method) (c : Code) (H : Heap) (locs : List Loc) (cells slots : Nat) (Q : State → Prop) (g : JFrame) (q : Addr) : Prop :=
  ∀ T : State, T.heap = H → Stand p l e R s m args below meth c T locs cells slots → ∃ t, Steps p.tables e below ((T.setTop g).pushFrame (.throwing q)) t ∧ Q t
def vx_Run (p : Program) (l : Launch) (e : Env) (R : Room) (s : State) (m : MethodId) (args : Array Value) (below : List Frame) (meth : Method) (c : Code) (H : Heap) (locs : List Loc) (cells slots mc ms : Nat) (g : JFrame) (rest : List Value) (Qa : State → Outcome → State → Prop) (XC : String → State → State → Prop) (free : Addr → Prop) : Prop :=
  ∀ T : State, T.heap = H → Stand p l e R s m args below meth c T locs cells slots →
    (∃ (v : Option Value) (st₀ t T' : State) (L : List Loc), st₀.heap = H ∧ Stand p l e R s m args below meth c T' (locs ++ L) (cells + mc) (slots + ms) ∧ (∀ q ∈ L, free q.base) ∧ T'.heap = t.heap ∧ T'.vm = t.vm ∧ Qa st₀ (.returned v) t ∧
      Goes p e below T g T' { g with pc := g.pc + 3, stack := v.toList ++ rest }) ∨
    (∃ (q : Addr) (st₀ t T' : State) (L : List Loc) (E : String) (ce : Cell), st₀.heap = H ∧ Stand p l e R s m args below meth c T' (locs ++ L) (cells + mc) (slots + ms) ∧ (∀ z ∈ L, free z.base) ∧ T'.heap = t.heap ∧ T'.vm = t.vm ∧ XC E st₀ t ∧ t.heap[q]? = some ce ∧ ce.vm = .none ∧ s.vm.findClass E = some ce.cls ∧
      Steps p.tables e below (T.setTop g) ((T'.setTop { g with stack := rest }).pushFrame (.throwing q)))
def vx_X {S : Type} (px : S → Prop) (B : String → S → State → Prop) (A : Nat → Prop) : String → State → State → Prop := fun E st t => ∃ u : S, px u ∧ B E u t ∧ va_F A st t
section Runs
variable {p : Program} {l : Launch} {e : Env} {R : Room} {s : State} {m : MethodId} {args : Array Value} {below : List Frame} {meth : Method} {c : Code} {H : Heap} {locs : List Loc} {cells slots : Nat}
variable {y : MethodName} {bytes cc : ByteArray} {maxL nL mc ms n index : Nat} {ret : Option FieldType} {ws : List Cond} {rm : Room} {Pc : Array Value → State → Prop} {Qc : Array Value → State → Outcome → State → Prop} {XC : String → State → State → Prop} {free : Addr → Prop} {Ts : List Cond} {own C : String} {b : Addr} {As rest : List Value} {g : JFrame}
theorem vx_callBack (cb : CallB R s args own index y bytes maxL ret ws rm mc ms n) (hM : vx_Met l y ws rm Pc Qc XC mc ms free) (hbl : FrameBlind Pc) : vx_Back l R p e below s args y 3 8 (PreOf R mc ms Pc) (PostOf Qc mc ms free) (vx_Post XC mc ms free) := by
  obtain ⟨hrc, hrs, hfr, hlo, hws, hcw, -, hini, -⟩ := cb
  exact vx_back (bytes := bytes) (maxL := maxL) (ret := ret) hM hbl hrc hrs hfr hlo hws hcw (fun a' U hW => word_at hW (Or.inl (by first | rfl | simp [Cond.onTables, Cond.keeps, Cond.steady])) hini)
theorem vx_runV (S : CallFix p m c cc nL s args Ts own) (hM : vx_Met l y ws rm Pc Qc XC mc ms free) (cw : CallW R s args own C index y bytes maxL ret ws rm mc ms n) (hp : PreV s H C b Pc As)
    (hg : g.method = m) (hn : As.length = n) (hsize : g.locals.size = nL) (hstack : g.stack = As.reverse ++ .ref b :: rest) (hW : 2 * g.monitorRoom + (rest.map fun v => v.category).sum ≤ 8) (hdg : decode cc g.pc = .ok (.invokevirtual index, 3)) (hf : cells + mc ≤ R.cells ∧ slots + ms ≤ R.slots) :
    vx_Run p l e R s m args below meth c H locs cells slots mc ms g rest (Qc (Value.ref b :: As).toArray) XC free := by
  have hK : vx_Back l R p e below s args y 3 8 (PreOf R mc ms Pc) (PostOf Qc mc ms free) (vx_Post XC mc ms free) := vx_callBack cw.1 hM hp.1
  obtain ⟨⟨-, -, -, -, -, -, hcode, -, hy, hlen, hl⟩, hin, hse⟩ := cw
  obtain ⟨hx, hb, hml, ho, -⟩ := S
  obtain ⟨-, ⟨cellB, hcB, hoB, hclB⟩, hPc⟩ := hp
  intro T hT X
  rcases vx_callV X hx (C := C) (bytes := bytes) (maxL := maxL) (ret := ret) ho hl hin hse hcode hy hK (by rw [hT]; exact hcB) hoB hclB hg (hsize.trans hml.symm) (argsL := As) (rest := rest) (fun sig h => hn.trans (hlen sig h)) hstack hW (by rw [hb]; exact hdg)
    (fun vm₁ hW₁ => ⟨hf.1, hf.2, hPc (T.setVm vm₁) hT hW₁⟩) with ⟨v, vm₁, ⟨U', l2, c2, s2⟩, hW₁, X', ⟨g', mk, t, L, e1, e2, hq, h1, hL, h2, h3⟩, st⟩ | ⟨q, vm₁, ⟨U', l2, c2, s2⟩, hW₁, X', ⟨g', mk, t, L, E, ce, e1, e2, hq, hce, hcv, hcl, h1, hL, h2, h3⟩, st⟩
  · dsimp only [Pt.U, Pt.locs, Pt.cells, Pt.slots] at X' e1 e2 h1 h2 h3 st
    subst h1; subst h2; subst h3
    exact Or.inl ⟨v, (T.setVm vm₁).calling g' mk (Value.ref b :: As).toArray, t, U', L, hT, X', hL, e1, e2, hq, st⟩
  · dsimp only [Pt.U, Pt.locs, Pt.cells, Pt.slots] at X' e1 e2 h1 h2 h3 st hcl
    subst h1; subst h2; subst h3
    exact Or.inr ⟨q, (T.setVm vm₁).calling g' mk (Value.ref b :: As).toArray, t, U', L, E, ce, hT, X', hL, e1, e2, hq, hce, hcv, vx_cls hW₁ hcl, st⟩
theorem vx_runS (S : CallFix p m c cc nL s args Ts own) (hM : vx_Met l y ws rm Pc Qc XC mc ms free) (cw : CallB R s args own index y bytes maxL ret ws rm mc ms n ∧ (Cond.static y).before args s = true) (hp : PreS s H Pc As)
    (hg : g.method = m) (hn : As.length = n) (hsize : g.locals.size = nL) (hstack : g.stack = As.reverse ++ rest) (hW : 2 * g.monitorRoom + (rest.map fun v => v.category).sum ≤ 8) (hdg : decode cc g.pc = .ok (.invokestatic index, 3)) (hf : cells + mc ≤ R.cells ∧ slots + ms ≤ R.slots) :
    vx_Run p l e R s m args below meth c H locs cells slots mc ms g rest (Qc As.toArray) XC free := by
  have hK : vx_Back l R p e below s args y 3 8 (PreOf R mc ms Pc) (PostOf Qc mc ms free) (vx_Post XC mc ms free) := vx_callBack cw.1 hM hp.1
  obtain ⟨⟨-, -, -, -, -, -, hcode, hini, hy, hlen, hl⟩, hstt⟩ := cw
  obtain ⟨hx, hb, hml, ho, -⟩ := S
  intro T hT X
  rcases vx_callS X hx (bytes := bytes) (maxL := maxL) (ret := ret) ho hl hstt hini hcode hy hK hg (hsize.trans hml.symm) (argsL := As) (rest := rest) (fun sig h => hn.trans (hlen sig h)) hstack hW (by rw [hb]; exact hdg)
    (fun vm₁ hW₁ => ⟨hf.1, hf.2, hp.2 (T.setVm vm₁) hT hW₁⟩) with ⟨v, vm₁, ⟨U', l2, c2, s2⟩, hW₁, X', ⟨g', mk, t, L, e1, e2, hq, h1, hL, h2, h3⟩, st⟩ | ⟨q, vm₁, ⟨U', l2, c2, s2⟩, hW₁, X', ⟨g', mk, t, L, E, ce, e1, e2, hq, hce, hcv, hcl, h1, hL, h2, h3⟩, st⟩
  · dsimp only [Pt.U, Pt.locs, Pt.cells, Pt.slots] at X' e1 e2 h1 h2 h3 st
    subst h1; subst h2; subst h3
    exact Or.inl ⟨v, (T.setVm vm₁).calling g' mk As.toArray, t, U', L, hT, X', hL, e1, e2, hq, st⟩
  · dsimp only [Pt.U, Pt.locs, Pt.cells, Pt.slots] at X' e1 e2 h1 h2 h3 st hcl
    subst h1; subst h2; subst h3
    exact Or.inr ⟨q, (T.setVm vm₁).calling g' mk As.toArray, t, U', L, E, ce, hT, X', hL, e1, e2, hq, hce, hcv, vx_cls hW₁ hcl, st⟩
end Runs
section Rows
variable {p : Program} {l : Launch} {e : Env} {R : Room} {s : State} {m : MethodId} {args : Array Value} {below : List Frame} {meth : Method} {c : Code} {H : Heap} {locs : List Loc} {cells slots : Nat} {Q : State → Prop}
variable {mc ms : Nat} {free : Addr → Prop} {A0 A1 : Nat → Prop} {H0 : Heap} {a : Array Value} {pc : Nat} {ls : Array Slot} {st0 rest : List Value}
theorem vx_keep {st₀ t T' : State} {L : List Loc} (h0 : st₀.heap = H) (e1 : T'.heap = t.heap) (hS : va_S A0 H0 H locs) (hA : ∀ q, q < H.size → A1 q → A0 q) (hf : ∀ q, free q → A0 q) (hL : ∀ q ∈ L, free q.base) (hF : va_F A1 st₀ t) :
    H.size ≤ T'.heap.size ∧ (∀ q : Nat, q < H.size → ¬ A1 q → T'.heap[q]? = H[q]?) ∧ va_S A0 H0 T'.heap (locs ++ L) := by
  obtain ⟨hz, hk⟩ := hF
  rw [h0] at hz hk
  exact ⟨by rw [e1]; exact hz, fun q h1 h2 => by rw [e1]; exact hk q h1 h2,
    ⟨Nat.le_trans hS.1 (by rw [e1]; exact hz), fun q h1 h2 => by rw [e1, hk q (Nat.lt_of_lt_of_le h1 hS.1) (fun z => h2 (hA q (Nat.lt_of_lt_of_le h1 hS.1) z))]; exact hS.2.1 q h1 h2, fun q hq => by
      rcases List.mem_append.mp hq with h | h
      · exact hS.2.2 q h
      · exact hf _ (hL q h)⟩⟩
theorem vx_calli {S SX : Type} {post : Int32 → S → Prop} {px : SX → Prop} {B : S → State → Prop} {BX : String → SX → State → Prop} {AX : Nat → Prop} (hr : vx_Run p l e R s m args below meth c H locs cells slots mc ms (F0 m pc ls st0) rest (va_Qi post B A1 a) (vx_X px BX AX) free) (hS : va_S A0 H0 H locs) (hA : ∀ q, q < H.size → A1 q → A0 q) (hf : ∀ q, free q → A0 q) (hAX : ∀ q, q < H.size → AX q → A0 q)
    (kx : ∀ (E : String) (ce : Cell) (q9 : Addr) (u : SX) (t : State) (H1 : Heap) (locs1 : List Loc), t.heap = H1 → s.vm.Alike t.vm → px u → BX E u t → H.size ≤ H1.size → (∀ q : Nat, q < H.size → ¬ AX q → H1[q]? = H[q]?) → va_S A0 H0 H1 locs1 → H1[q9]? = some ce → ce.vm = .none → s.vm.findClass E = some ce.cls → vx_W p l e R s m args below meth c H1 locs1 (cells + mc) (slots + ms) Q (F0 m pc ls rest) q9)
    (kk : ∀ (r : Int32) (u : S) (t : State) (H1 : Heap) (locs1 : List Loc), t.heap = H1 → s.vm.Alike t.vm → post r u → B u t → H.size ≤ H1.size → (∀ q : Nat, q < H.size → ¬ A1 q → H1[q]? = H[q]?) → va_S A0 H0 H1 locs1 → W p l e R s m args below meth c H1 locs1 (cells + mc) (slots + ms) Q (F0 m (pc + 3) ls (.int r :: rest))) : W p l e R s m args below meth c H locs cells slots Q (F0 m pc ls st0) := by
  intro T hT X
  rcases hr T hT X with ⟨v, st₀, t, T', L, h0, X', hL, e1, e2, ⟨⟨r, u, hv, hp, hb⟩, hF⟩, st⟩ | ⟨q, st₀, t, T', L, E, ce, h0, X', hL, e1, e2, ⟨u, hp, hb, hF⟩, hce, hcv, hcl, st⟩
  · cases hv
    obtain ⟨k1, k2, k3⟩ := vx_keep h0 e1 hS hA hf hL hF
    obtain ⟨t2, a1, b1⟩ := kk r u t T'.heap (locs ++ L) e1.symm (by rw [← e2]; exact X'.warmed.alike) hp hb k1 k2 k3 T' rfl X'
    exact ⟨t2, st t2 a1, b1⟩
  · obtain ⟨k1, k2, k3⟩ := vx_keep h0 e1 hS hAX hf hL hF
    obtain ⟨t2, a1, b1⟩ := kx E ce q u t T'.heap (locs ++ L) e1.symm (by rw [← e2]; exact X'.warmed.alike) hp hb k1 k2 k3 (by rw [e1]; exact hce) hcv hcl T' rfl X'
    exact ⟨t2, st.trans a1, b1⟩
theorem vx_calll {S SX : Type} {post : Int64 → S → Prop} {px : SX → Prop} {B : S → State → Prop} {BX : String → SX → State → Prop} {AX : Nat → Prop} (hr : vx_Run p l e R s m args below meth c H locs cells slots mc ms (F0 m pc ls st0) rest (va_Ql post B A1 a) (vx_X px BX AX) free) (hS : va_S A0 H0 H locs) (hA : ∀ q, q < H.size → A1 q → A0 q) (hf : ∀ q, free q → A0 q) (hAX : ∀ q, q < H.size → AX q → A0 q)
    (kx : ∀ (E : String) (ce : Cell) (q9 : Addr) (u : SX) (t : State) (H1 : Heap) (locs1 : List Loc), t.heap = H1 → s.vm.Alike t.vm → px u → BX E u t → H.size ≤ H1.size → (∀ q : Nat, q < H.size → ¬ AX q → H1[q]? = H[q]?) → va_S A0 H0 H1 locs1 → H1[q9]? = some ce → ce.vm = .none → s.vm.findClass E = some ce.cls → vx_W p l e R s m args below meth c H1 locs1 (cells + mc) (slots + ms) Q (F0 m pc ls rest) q9)
    (kk : ∀ (r : Int64) (u : S) (t : State) (H1 : Heap) (locs1 : List Loc), t.heap = H1 → s.vm.Alike t.vm → post r u → B u t → H.size ≤ H1.size → (∀ q : Nat, q < H.size → ¬ A1 q → H1[q]? = H[q]?) → va_S A0 H0 H1 locs1 → W p l e R s m args below meth c H1 locs1 (cells + mc) (slots + ms) Q (F0 m (pc + 3) ls (.long r :: rest))) : W p l e R s m args below meth c H locs cells slots Q (F0 m pc ls st0) := by
  intro T hT X
  rcases hr T hT X with ⟨v, st₀, t, T', L, h0, X', hL, e1, e2, ⟨⟨r, u, hv, hp, hb⟩, hF⟩, st⟩ | ⟨q, st₀, t, T', L, E, ce, h0, X', hL, e1, e2, ⟨u, hp, hb, hF⟩, hce, hcv, hcl, st⟩
  · cases hv
    obtain ⟨k1, k2, k3⟩ := vx_keep h0 e1 hS hA hf hL hF
    obtain ⟨t2, a1, b1⟩ := kk r u t T'.heap (locs ++ L) e1.symm (by rw [← e2]; exact X'.warmed.alike) hp hb k1 k2 k3 T' rfl X'
    exact ⟨t2, st t2 a1, b1⟩
  · obtain ⟨k1, k2, k3⟩ := vx_keep h0 e1 hS hAX hf hL hF
    obtain ⟨t2, a1, b1⟩ := kx E ce q u t T'.heap (locs ++ L) e1.symm (by rw [← e2]; exact X'.warmed.alike) hp hb k1 k2 k3 (by rw [e1]; exact hce) hcv hcl T' rfl X'
    exact ⟨t2, st.trans a1, b1⟩
theorem vx_callf {S SX : Type} {post : UInt32 → S → Prop} {px : SX → Prop} {B : S → State → Prop} {BX : String → SX → State → Prop} {AX : Nat → Prop} (hr : vx_Run p l e R s m args below meth c H locs cells slots mc ms (F0 m pc ls st0) rest (va_Qf post B A1 a) (vx_X px BX AX) free) (hS : va_S A0 H0 H locs) (hA : ∀ q, q < H.size → A1 q → A0 q) (hf : ∀ q, free q → A0 q) (hAX : ∀ q, q < H.size → AX q → A0 q)
    (kx : ∀ (E : String) (ce : Cell) (q9 : Addr) (u : SX) (t : State) (H1 : Heap) (locs1 : List Loc), t.heap = H1 → s.vm.Alike t.vm → px u → BX E u t → H.size ≤ H1.size → (∀ q : Nat, q < H.size → ¬ AX q → H1[q]? = H[q]?) → va_S A0 H0 H1 locs1 → H1[q9]? = some ce → ce.vm = .none → s.vm.findClass E = some ce.cls → vx_W p l e R s m args below meth c H1 locs1 (cells + mc) (slots + ms) Q (F0 m pc ls rest) q9)
    (kk : ∀ (r : UInt32) (u : S) (t : State) (H1 : Heap) (locs1 : List Loc), t.heap = H1 → s.vm.Alike t.vm → post r u → B u t → H.size ≤ H1.size → (∀ q : Nat, q < H.size → ¬ A1 q → H1[q]? = H[q]?) → va_S A0 H0 H1 locs1 → W p l e R s m args below meth c H1 locs1 (cells + mc) (slots + ms) Q (F0 m (pc + 3) ls (.float r :: rest))) : W p l e R s m args below meth c H locs cells slots Q (F0 m pc ls st0) := by
  intro T hT X
  rcases hr T hT X with ⟨v, st₀, t, T', L, h0, X', hL, e1, e2, ⟨⟨r, u, hv, hp, hb⟩, hF⟩, st⟩ | ⟨q, st₀, t, T', L, E, ce, h0, X', hL, e1, e2, ⟨u, hp, hb, hF⟩, hce, hcv, hcl, st⟩
  · cases hv
    obtain ⟨k1, k2, k3⟩ := vx_keep h0 e1 hS hA hf hL hF
    obtain ⟨t2, a1, b1⟩ := kk r u t T'.heap (locs ++ L) e1.symm (by rw [← e2]; exact X'.warmed.alike) hp hb k1 k2 k3 T' rfl X'
    exact ⟨t2, st t2 a1, b1⟩
  · obtain ⟨k1, k2, k3⟩ := vx_keep h0 e1 hS hAX hf hL hF
    obtain ⟨t2, a1, b1⟩ := kx E ce q u t T'.heap (locs ++ L) e1.symm (by rw [← e2]; exact X'.warmed.alike) hp hb k1 k2 k3 (by rw [e1]; exact hce) hcv hcl T' rfl X'
    exact ⟨t2, st.trans a1, b1⟩
theorem vx_calld {S SX : Type} {post : UInt64 → S → Prop} {px : SX → Prop} {B : S → State → Prop} {BX : String → SX → State → Prop} {AX : Nat → Prop} (hr : vx_Run p l e R s m args below meth c H locs cells slots mc ms (F0 m pc ls st0) rest (va_Qd post B A1 a) (vx_X px BX AX) free) (hS : va_S A0 H0 H locs) (hA : ∀ q, q < H.size → A1 q → A0 q) (hf : ∀ q, free q → A0 q) (hAX : ∀ q, q < H.size → AX q → A0 q)
    (kx : ∀ (E : String) (ce : Cell) (q9 : Addr) (u : SX) (t : State) (H1 : Heap) (locs1 : List Loc), t.heap = H1 → s.vm.Alike t.vm → px u → BX E u t → H.size ≤ H1.size → (∀ q : Nat, q < H.size → ¬ AX q → H1[q]? = H[q]?) → va_S A0 H0 H1 locs1 → H1[q9]? = some ce → ce.vm = .none → s.vm.findClass E = some ce.cls → vx_W p l e R s m args below meth c H1 locs1 (cells + mc) (slots + ms) Q (F0 m pc ls rest) q9)
    (kk : ∀ (r : UInt64) (u : S) (t : State) (H1 : Heap) (locs1 : List Loc), t.heap = H1 → s.vm.Alike t.vm → post r u → B u t → H.size ≤ H1.size → (∀ q : Nat, q < H.size → ¬ A1 q → H1[q]? = H[q]?) → va_S A0 H0 H1 locs1 → W p l e R s m args below meth c H1 locs1 (cells + mc) (slots + ms) Q (F0 m (pc + 3) ls (.double r :: rest))) : W p l e R s m args below meth c H locs cells slots Q (F0 m pc ls st0) := by
  intro T hT X
  rcases hr T hT X with ⟨v, st₀, t, T', L, h0, X', hL, e1, e2, ⟨⟨r, u, hv, hp, hb⟩, hF⟩, st⟩ | ⟨q, st₀, t, T', L, E, ce, h0, X', hL, e1, e2, ⟨u, hp, hb, hF⟩, hce, hcv, hcl, st⟩
  · cases hv
    obtain ⟨k1, k2, k3⟩ := vx_keep h0 e1 hS hA hf hL hF
    obtain ⟨t2, a1, b1⟩ := kk r u t T'.heap (locs ++ L) e1.symm (by rw [← e2]; exact X'.warmed.alike) hp hb k1 k2 k3 T' rfl X'
    exact ⟨t2, st t2 a1, b1⟩
  · obtain ⟨k1, k2, k3⟩ := vx_keep h0 e1 hS hAX hf hL hF
    obtain ⟨t2, a1, b1⟩ := kx E ce q u t T'.heap (locs ++ L) e1.symm (by rw [← e2]; exact X'.warmed.alike) hp hb k1 k2 k3 (by rw [e1]; exact hce) hcv hcl T' rfl X'
    exact ⟨t2, st.trans a1, b1⟩
theorem vx_callv {S SX : Type} {post : S → Prop} {px : SX → Prop} {B : S → State → Prop} {BX : String → SX → State → Prop} {AX : Nat → Prop} (hr : vx_Run p l e R s m args below meth c H locs cells slots mc ms (F0 m pc ls st0) rest (va_Qv post B A1 a) (vx_X px BX AX) free) (hS : va_S A0 H0 H locs) (hA : ∀ q, q < H.size → A1 q → A0 q) (hf : ∀ q, free q → A0 q) (hAX : ∀ q, q < H.size → AX q → A0 q)
    (kx : ∀ (E : String) (ce : Cell) (q9 : Addr) (u : SX) (t : State) (H1 : Heap) (locs1 : List Loc), t.heap = H1 → s.vm.Alike t.vm → px u → BX E u t → H.size ≤ H1.size → (∀ q : Nat, q < H.size → ¬ AX q → H1[q]? = H[q]?) → va_S A0 H0 H1 locs1 → H1[q9]? = some ce → ce.vm = .none → s.vm.findClass E = some ce.cls → vx_W p l e R s m args below meth c H1 locs1 (cells + mc) (slots + ms) Q (F0 m pc ls rest) q9)
    (kk : ∀ (u : S) (t : State) (H1 : Heap) (locs1 : List Loc), t.heap = H1 → s.vm.Alike t.vm → post u → B u t → H.size ≤ H1.size → (∀ q : Nat, q < H.size → ¬ A1 q → H1[q]? = H[q]?) → va_S A0 H0 H1 locs1 → W p l e R s m args below meth c H1 locs1 (cells + mc) (slots + ms) Q (F0 m (pc + 3) ls (rest))) : W p l e R s m args below meth c H locs cells slots Q (F0 m pc ls st0) := by
  intro T hT X
  rcases hr T hT X with ⟨v, st₀, t, T', L, h0, X', hL, e1, e2, ⟨⟨u, hv, hp, hb⟩, hF⟩, st⟩ | ⟨q, st₀, t, T', L, E, ce, h0, X', hL, e1, e2, ⟨u, hp, hb, hF⟩, hce, hcv, hcl, st⟩
  · cases hv
    obtain ⟨k1, k2, k3⟩ := vx_keep h0 e1 hS hA hf hL hF
    obtain ⟨t2, a1, b1⟩ := kk u t T'.heap (locs ++ L) e1.symm (by rw [← e2]; exact X'.warmed.alike) hp hb k1 k2 k3 T' rfl X'
    exact ⟨t2, st t2 a1, b1⟩
  · obtain ⟨k1, k2, k3⟩ := vx_keep h0 e1 hS hAX hf hL hF
    obtain ⟨t2, a1, b1⟩ := kx E ce q u t T'.heap (locs ++ L) e1.symm (by rw [← e2]; exact X'.warmed.alike) hp hb k1 k2 k3 (by rw [e1]; exact hce) hcv hcl T' rfl X'
    exact ⟨t2, st.trans a1, b1⟩
/-- caught by the row x of this method's table; the rows ahead don't take it -/
theorem vx_catch {own name : String} {E : String} {ce : Cell} {q : Addr} (hown : s.vm.findClass own = some m.cls) (pre : List ExceptionTableEntry) (x : ExceptionTableEntry) (suf : List ExceptionTableEntry) (hsplit : c.exceptionTable.toList = pre ++ x :: suf)
    (hpass : ∀ z ∈ pre, covers z pc = false ∨ (z.catchType ≠ 0 ∧ ∃ nm : String, (Cond.classLink own z.catchType nm).before args s = true ∧ va_Nc E nm s)) (hx : covers x pc = true) (h0 : x.catchType ≠ 0)
    (hlink : (Cond.classLink own x.catchType name).before args s = true) (hcast : (Cond.castable E name).before args s = true) (hcell : H[q]? = some ce) (hv : ce.vm = .none) (hcl : s.vm.findClass E = some ce.cls)
    (kk : W p l e R s m args below meth c H locs cells slots Q (F0 m x.handlerPc ls [.ref q])) : vx_W p l e R s m args below meth c H locs cells slots Q (F0 m pc ls rest) q := by
  intro T hT X
  have hpl : e.platform.magicAccessors = ({} : Platform).magicAccessors := by rw [X.admits.platform]
  obtain ⟨c3, c4, hc3, hc4, hasg⟩ := Cond.castable_spec hcast
  cases Option.some.inj (hc3.symm.trans hcl)
  obtain ⟨c5, hc5, hcl5⟩ := Cond.classLink_spec hown hlink e.platform hpl
  cases Option.some.inj (hc4.symm.trans hc5)
  obtain ⟨vm', X', st⟩ := X.thenCaughtThrough q (g := F0 m pc ls rest) rfl (Steps.refl _) (by rw [hT]; exact hcell) (by rw [hv]; rfl) (by obtain ⟨k9, h9, -⟩ := Vm.findClass_spec hcl; exact ⟨k9, h9⟩) pre x suf hsplit
    (fun z hz => by
      rcases hpass z hz with h | ⟨hz0, nm, hl1, hn1⟩
      · exact Or.inl h
      · obtain ⟨c6, hc6, hcl6⟩ := Cond.classLink_spec hown hl1 e.platform hpl
        obtain ⟨a8, b8, h1, h2, h3⟩ := hn1
        cases Option.some.inj (h1.symm.trans hcl)
        cases Option.some.inj (h2.symm.trans hc6)
        exact Or.inr ⟨hz0, _, hcl6, h3⟩) hx (Or.inr ⟨h0, c4, hcl5, hasg⟩)
  obtain ⟨t, a1, b1⟩ := kk (T.setVm vm') hT X'
  exact ⟨t, st.trans a1, b1⟩
end Rows
section Ends
variable {p : Program} {l : Launch} {e : Env} {R : Room} {s : State} {m : MethodId} {args : Array Value} {below : List Frame} {meth : Method} {c : Code} {H : Heap} {locs : List Loc} {cells slots : Nat} {Q : State → Prop}
variable {mc ms : Nat} {free : Addr → Prop} {A0 A1 : Nat → Prop} {H0 : Heap} {a : Array Value} {ls : Array Slot} {st0 rest : List Value}
variable {Qc : Array Value → State → Outcome → State → Prop} {XC : String → State → State → Prop}
/-- what a body that may throw owes at its end -/
def vx_MQ (below : List Frame) (Qc : Array Value → State → Outcome → State → Prop) (XC : String → State → State → Prop) (a : Array Value) (s : State) (mc ms : Nat) (free : Addr → Prop) : State → Prop := fun t =>
  ∃ o, t.status = .running ∧ Ended t below o ∧ vx_Q Qc XC mc ms free a s o t
theorem vx_ret {g : JFrame} {mc ms : Nat} (k : W p l e R s m args below meth c H locs cells slots (MQ below Qc args s mc ms free) g) : W p l e R s m args below meth c H locs cells slots (vx_MQ below Qc XC args s mc ms free) g := by
  intro T hT X
  obtain ⟨t, a1, o, b1, b2, b3, b4⟩ := k T hT X
  exact ⟨t, a1, o, b1, b2, Or.inl ⟨b3, b4⟩⟩
/-- not caught here: it goes on to the caller -/
theorem vx_widen {g : JFrame} {q : Addr} {k n : Nat} (h1 : cells ≤ k) (h2 : slots ≤ n) (kk : vx_W p l e R s m args below meth c H locs k n Q g q) : vx_W p l e R s m args below meth c H locs cells slots Q g q := fun T hT X => kk T hT (stand_widen X h1 h2)
theorem vx_out {pc : Nat} {E : String} {ce : Cell} {q : Addr} {mc ms : Nat} (hout : ∀ x ∈ c.exceptionTable.toList, covers x pc = false) (hlocks : meth.locks = false) (hcell : H[q]? = some ce) (hv : ce.vm = .none) (hcl : s.vm.findClass E = some ce.cls)
    (hx : ∀ t : State, t.heap = H → s.vm.Alike t.vm → XC E s t) (hf : ∀ z ∈ locs, free z.base) (hc : cells ≤ mc) (hs : slots ≤ ms) :
    vx_W p l e R s m args below meth c H locs cells slots (vx_MQ below Qc XC args s mc ms free) (F0 m pc ls rest) q := by
  intro T hT X
  obtain ⟨st1, hrun, hend, hW, hsm⟩ := X.leaveThrown q (g := F0 m pc ls rest) rfl rfl rfl hout hlocks
  have hcell9 : (T.setFrames (.throwing q :: below)).heap[q]? = some ce := by
    show T.heap[q]? = some ce
    rw [hT]; exact hcell
  exact ⟨_, st1, .threw q, hrun, hend, Or.inr ⟨q, rfl, E, ce, locs, hx _ hT hW.alike, hcell9, hv, hcl, hW, hsm.mono hc hs, hf⟩⟩
theorem vx_frame {U : State} {k n : Nat} (h : s.sameButNew ({ U with vm := s.vm } : State) locs k n) : s.heap.size ≤ U.heap.size ∧ ∀ q : Nat, q < s.heap.size → (∀ z ∈ locs, z.base ≠ q) → U.heap[q]? = s.heap[q]? := by
  obtain ⟨-, h2, -, -, -, h6⟩ := h
  refine ⟨h2, fun q hq hz => ?_⟩
  obtain ⟨c9, e1, e2, e3, e4⟩ := h6 q _ (Array.getElem?_eq_getElem hq)
  have hs : c9.slots = (s.heap[q]).slots := Array.ext_getElem? fun i => e4 i fun hm => hz _ hm rfl
  have h9 : c9 = s.heap[q] := by
    rw [hs] at e2
    exact e2
  have e5 : U.heap[q]? = some c9 := e1
  rw [e5, h9, Array.getElem?_eq_getElem hq]
/-- the words of a throw but the four that speak of the heap -/
def vx_no (w : Cond) : Bool := decide (w ≠ .isRef (.static Bundle.tN "UNASSIGNED_STACK" Bundle.steD)) && decide (w ≠ .isRef (.static Bundle.tN "SUPPRESSED_SENTINEL" Bundle.listD)) && decide (w ≠ .laysStatic Bundle.tN "UNASSIGNED_STACK" Bundle.steD) && decide (w ≠ .laysStatic Bundle.tN "SUPPRESSED_SENTINEL" Bundle.listD)
def vx_at0 (own : String) (ic : Nat) (X : String) (names : List String) : List Cond := (Bundle.ownAtoms0 own ic X names).filter vx_no
def vx_atS (own : String) (ic : Nat) (X : String) (names : List String) : List Cond := (Bundle.ownAtoms own ic X names).filter vx_no
/-- a word that the tables alone decide, or a good one -/
def vx_ot (w : Cond) : Bool := w.onTables || goodWord w
theorem vx_ot_at {args a' : Array Value} {s U : State} {w : Cond} (hW : s.WarmedH U.vm) (hvm : s.vm = U.vm) (hg : vx_ot w = true) (h : w.before args s = true) : w.before a' U = true := by
  simp only [vx_ot, Bool.or_eq_true] at hg
  rcases hg with hg | hg
  · exact va_tabs hg hvm h
  · exact word_at hW (good_of_word hg) h
/-- a list's words: the good ones out of the method's own list, the others by premises of their own -/
theorem vx_hat {args : Array Value} {s : State} {L B : List Cond} (h1 : ∀ w ∈ L.filter goodWord, w.before args s = true) (h2 : ∀ w ∈ L.filter (fun w => !goodWord w), w ∈ B) (h3 : ∀ w ∈ B, w.before args s = true) : ∀ w ∈ L, w.before args s = true := by
  intro w hw
  by_cases g : goodWord w = true
  · exact h1 w (List.mem_filter.mpr ⟨hw, g⟩)
  · refine h3 w (h2 w (List.mem_filter.mpr ⟨hw, ?_⟩))
    show (!goodWord w) = true
    cases hgw : goodWord w
    · rfl
    · exact absurd hgw g
theorem vx_c {args : Array Value} {s : State} {w : Cond} {B : List Cond} (h : w.before args s = true) (t : ∀ w ∈ B, w.before args s = true) : ∀ w' ∈ w :: B, w'.before args s = true := fun w' h' => (List.mem_cons.mp h').elim (fun e => by rw [e]; exact h) (t w')
theorem vx_n {args : Array Value} {s : State} : ∀ w ∈ ([] : List Cond), w.before args s = true := fun _ h => nomatch h
theorem vx_own {args : Array Value} {s : State} {L : List Cond} (h1 : ∀ w ∈ L.filter vx_no, w.before args s = true)
    (hU : (Cond.isRef (.static Bundle.tN "UNASSIGNED_STACK" Bundle.steD)).before args s = true) (hN : (Cond.isRef (.static Bundle.tN "SUPPRESSED_SENTINEL" Bundle.listD)).before args s = true)
    (lU : (Cond.laysStatic Bundle.tN "UNASSIGNED_STACK" Bundle.steD).before args s = true) (lN : (Cond.laysStatic Bundle.tN "SUPPRESSED_SENTINEL" Bundle.listD).before args s = true) : ∀ w ∈ L, w.before args s = true := by
  intro w hw
  by_cases e1 : w = .isRef (.static Bundle.tN "UNASSIGNED_STACK" Bundle.steD)
  · rw [e1]; exact hU
  · by_cases e2 : w = .isRef (.static Bundle.tN "SUPPRESSED_SENTINEL" Bundle.listD)
    · rw [e2]; exact hN
    · by_cases e3 : w = .laysStatic Bundle.tN "UNASSIGNED_STACK" Bundle.steD
      · rw [e3]; exact lU
      · by_cases e4 : w = .laysStatic Bundle.tN "SUPPRESSED_SENTINEL" Bundle.listD
        · rw [e4]; exact lN
        · exact h1 w (List.mem_filter.mpr ⟨hw, by unfold vx_no; rw [decide_eq_true e1, decide_eq_true e2, decide_eq_true e3, decide_eq_true e4]; rfl⟩)
/-- where a static field lies, its class's statics cell in H -/
def vx_L (C n d : String) (A : Nat → Prop) (U : State) (H : Heap) : Prop := ∃ (c : ClassId) (k : Class) (i : Nat) (f : Field) (a : Nat) (cell : Cell), U.vm.findClass C = some c ∧ U.fieldFound? C n d = some (c, k, i, f) ∧ f.isStatic = true ∧ k.statics = some a ∧ H[a]? = some cell ∧ cell.vm.isStatics = true ∧ cell.cls = c ∧ f.slot < cell.slots.size ∧ k.staticTypes[f.slot]? = some f.type ∧ ¬ A a
theorem vx_L.moved {C n d : String} {A : Nat → Prop} {u U : State} {H : Heap} (hvm : u.vm.Alike U.vm) (h : vx_L C n d A u H) : vx_L C n d A U H := by
  obtain ⟨c, k, i, f, a, cell, h1, h2, h3, h4, h5, h6, h7, h8, h9, h10⟩ := h
  obtain ⟨k', hi', he⟩ := State.fieldFound?_setVm hvm h2
  exact ⟨c, k', i, f, a, cell, by rw [hvm.findClass]; exact h1, hi', h3, by rw [he]; exact h4, h5, h6, h7, h8, by rw [he]; exact h9, h10⟩
theorem vx_L.kept {C n d : String} {A : Nat → Prop} {U : State} {H H1 : Heap} (h : vx_L C n d A U H) (hq : ∀ a : Nat, a < H.size → ¬ A a → H1[a]? = H[a]?) : vx_L C n d A U H1 := by
  obtain ⟨c, k, i, f, a, cell, h1, h2, h3, h4, h5, h6, h7, h8, h9, h10⟩ := h
  exact ⟨c, k, i, f, a, cell, h1, h2, h3, h4, by rw [hq a (Array.getElem?_eq_some_iff.mp h5).1 h10]; exact h5, h6, h7, h8, h9, h10⟩
theorem vx_L.narrow {C n d : String} {A B : Nat → Prop} {U : State} {H : Heap} (h : vx_L C n d A U H) (hAB : ∀ q, B q → A q) : vx_L C n d B U H := by
  obtain ⟨c, k, i, f, a, cell, h1, h2, h3, h4, h5, h6, h7, h8, h9, h10⟩ := h
  exact ⟨c, k, i, f, a, cell, h1, h2, h3, h4, h5, h6, h7, h8, h9, fun z => h10 (hAB _ z)⟩
theorem vx_L.word {C n d : String} {A : Nat → Prop} {s : State} {args : Array Value} (h : vx_L C n d A s s.heap) : (Cond.laysStatic C n d).before args s = true := by
  obtain ⟨c, k, i, f, a, cell, h1, h2, h3, h4, h5, h6, h7, h8, h9, -⟩ := h
  show (Cond.laysStatic C n d).holds args s none s [] = true
  exact Cond.laysStatic_of h1 h2 h3 h4 h5 h6 h7 h8 h9
/-- .. and what it holds: null or some reference -/
def vx_Zq (C n d : String) (A : Nat → Prop) (U : State) (H : Heap) : Prop := va_Zq C n d A U H ∧ vx_L C n d A U H
theorem vx_Zq.moved {C n d : String} {A : Nat → Prop} {u U : State} {H : Heap} (hvm : u.vm.Alike U.vm) (h : vx_Zq C n d A u H) : vx_Zq C n d A U H := ⟨va_Zq.moved hvm h.1, vx_L.moved hvm h.2⟩
theorem vx_Zq.kept {C n d : String} {A : Nat → Prop} {U : State} {H H1 : Heap} (h : vx_Zq C n d A U H) (hq : ∀ a : Nat, a < H.size → ¬ A a → H1[a]? = H[a]?) : vx_Zq C n d A U H1 := ⟨va_Zq.kept h.1 hq, vx_L.kept h.2 hq⟩
theorem vx_Zq.narrow {C n d : String} {A B : Nat → Prop} {U : State} {H : Heap} (h : vx_Zq C n d A U H) (hAB : ∀ q, B q → A q) : vx_Zq C n d B U H := ⟨va_Zq.narrow h.1 hAB, vx_L.narrow h.2 hAB⟩
theorem vx_Zqof {args : Array Value} {s : State} {C n d : String} {A : Nat → Prop} (hl : (Cond.laysStatic C n d).before args s = true) (hini : (Cond.initialized C).before args s = true) (h : (Cond.isRef (.static C n d)).before args s = true) (hA : ∀ a : Nat, a < s.heap.size → ¬ A a) : vx_Zq C n d A s s.heap := by
  refine ⟨va_Zqof hl hini h hA, ?_⟩
  obtain ⟨c, k, i, f, a, cell, h1, h2, h3, h4, h5, h6, h7, h8, h9⟩ := Cond.laysStatic_spec hl
  exact ⟨c, k, i, f, a, cell, h1, h2, h3, h4, h5, h6, h7, h8, h9, hA a (Array.getElem?_eq_some_iff.mp h5).1⟩
theorem vx_isRef {C n d : String} {v : Value} {A : Nat → Prop} {s : State} {args : Array Value} (h : va_Z C n d v A s s.heap) (hv : v.isRef = true) : (Cond.isRef (.static C n d)).before args s = true := by
  obtain ⟨cf, kf, fi, f, a, cell, h1, h2, h3, h4, h5, h6, h7, -⟩ := h
  have he : (Term.static C n d).eval args s none [] s = some v := by
    simp [Term.eval, State.fieldNamed?, h1, h2, h4, h5, h6, h7]
  simp only [Cond.before, Cond.holds, Cond.value, he]
  cases v <;> simp_all [Value.isRef]
theorem vx_isRefq {C n d : String} {A : Nat → Prop} {s : State} {args : Array Value} (h : va_Zq C n d A s s.heap) : (Cond.isRef (.static C n d)).before args s = true := by
  rcases h with h | ⟨t, h⟩
  · exact vx_isRef h rfl
  · exact vx_isRef h rfl
/-- the same frame, seen from here: as if the method were called anew in this heap -/
theorem vx_rebase {T : State} (X : Stand p l e R s m args below meth c T locs cells slots) {R' : Room} (hf : R'.frames ≤ R.frames) (hl : R'.locals ≤ R.locals) (hc : cells + R'.cells ≤ R.cells) (hs : slots + R'.slots ≤ R.slots) :
    Stand p l e R' ((T.setVm s.vm).setFrames (.invoking m args :: below)) m args below meth c T [] 0 0 := by
  have htop : (T.setVm s.vm).topJava?.isSome := X.here.top
  have hF : ((T.setVm s.vm).setFrames (.invoking m args :: below)).frames = .invoking m args :: below := State.frames_setFrames _ (State.cur_lt_of_top htop)
  obtain ⟨g₀, hg0⟩ := Option.isSome_iff_exists.mp htop
  obtain ⟨r, hr⟩ := State.topJava?_eq_some.mp hg0
  have hl9 : e.platform.stackLimits (T.setVm s.vm).me = e.platform.stackLimits s.me := X.limits
  have hb9 : (T.setVm s.vm).me.stackBytes = s.me.stackBytes := X.bytes
  refine ⟨X.admits, X.cas, X.clock, hF, ?_, X.hears, X.method, X.code, X.here, X.tail, X.warmed, ?_, ?_, ?_⟩
  · have h := X.room
    have hU : ((T.setVm s.vm).setFrames (.invoking m args :: below)).localsInUse = s.localsInUse := by
      rw [State.localsInUse_invoking hF (meth := meth) (c := c) X.method X.code, State.localsInUse_invoking X.frames X.method X.code]
    simp only [State.hasRoom, Bool.and_eq_true, decide_eq_true_eq] at h ⊢
    obtain ⟨⟨⟨⟨h1, h2, h3, h4, h5, h6⟩, h7⟩, h8⟩, h9⟩ := h
    rw [X.frames, List.length_cons] at h2 h3
    have q1 := X.heapSize
    have q2 := X.used
    simp only [hF, hU, List.length_cons, State.stackLimits_setFrames, State.stackBytes_setFrames, hl9, hb9]
    refine ⟨⟨⟨⟨by omega, by omega, by omega, by omega, by omega, h6⟩, ?_⟩, ?_⟩, X.book⟩
    · show T.heap.size + R'.cells ≤ e.platform.maxCells
      omega
    · show T.slotsUsed + R'.slots ≤ e.platform.maxSlots
      omega
  · rw [State.stackLimits_setFrames]; rfl
  · rw [State.stackBytes_setFrames]; rfl
  · refine ⟨?_, Nat.le_refl _, Nat.le_refl _, ?_, ?_, fun a c9 h9 => ⟨c9, h9, rfl, rfl, fun _ _ => rfl⟩⟩
    · obtain ⟨t, ht, -⟩ := State.frames_cons hr
      show T.setVm s.vm = { ((T.setVm s.vm).setFrames (.invoking m args :: below)).setFrames (T.setVm s.vm).frames with heap := T.heap, slotsUsed := T.slotsUsed }
      rw [State.setFrames_setFrames, State.setFrames_self ht]
      rfl
    · show T.slotsUsed = T.slotsUsed + ((T.heap.toList.drop T.heap.size).map (·.slots.size)).sum
      rw [List.drop_eq_nil_of_le (Nat.le_of_eq Array.length_toList)]
      rfl
    · show ((T.heap.toList.drop T.heap.size).map (·.slots.size)).sum ≤ 0
      rw [List.drop_eq_nil_of_le (Nat.le_of_eq Array.length_toList)]
      exact Nat.le_refl _
/-- 'throw new E()': new; dup; invokespecial; athrow -/
theorem vx_throw0 {cc : ByteArray} {pc : Nat} (hexec : p.tables.exec = Jvm.exec) (hb : c.code = cc) (hl : l.stackTraces = false) {own cls : String} {names : List String} {ik ic mc ms : Nat} {A : Nat → Prop}
    (hown : s.vm.findClass own = some m.cls) (hcls : Bundle.fit cls = true) (hnames : ∀ n ∈ names, Bundle.fit n = true)
    (hk : (Cond.classLink own ik cls).before args s = true) (hini : (Cond.initialized cls).before args s = true) (hat : ∀ w ∈ vx_at0 own ic cls names, w.before args s = true)
    (hgood : ∀ w ∈ Cond.classLink own ik cls :: Cond.initialized cls :: vx_at0 own ic cls names, vx_ot w = true)
    (hU : vx_Zq Bundle.tN "UNASSIGNED_STACK" Bundle.steD A s s.heap) (hN : vx_Zq Bundle.tN "SUPPRESSED_SENTINEL" Bundle.listD A s s.heap) (hS : va_S A s.heap H locs) (hsize : ls.size = c.maxLocals)
    (d0 : decode cc pc = .ok (.new ik, 3)) (d3 : decode cc (pc + 3) = .ok (.dup, 1)) (d4 : decode cc (pc + 4) = .ok (.invokespecial ic, 3)) (d7 : decode cc (pc + 7) = .ok (.athrow, 1))
    (hout : ∀ x ∈ c.exceptionTable.toList, covers x (pc + 7) = false)
    (hRframes : names.length + 3 < R.frames) (hRlocals : (rest.map fun v => v.category).sum + (13 * (names.length + 1) + 42) ≤ R.locals) (hRcells : cells + 1 ≤ R.cells) (hRslots : slots + 6 ≤ R.slots) (hlocks : meth.locks = false)
    (hx : ∀ t : State, s.vm.Alike t.vm → H.size ≤ t.heap.size → (∀ q : Nat, q < H.size → t.heap[q]? = H[q]?) → XC cls s t)
    (hf : ∀ z ∈ locs, free z.base) (hc : cells + 1 ≤ mc) (hs : slots + 6 ≤ ms) :
    W p l e R s m args below meth c H locs cells slots (vx_MQ below Qc XC args s mc ms free) (F0 m pc ls rest) := by
  intro T hT X
  have htr : e.platform.stackTraces = false := (show e.platform.stackTraces = l.stackTraces by rw [X.admits.platform]).trans hl
  have Y := vx_rebase X (R' := { frames := R.frames, locals := R.locals, cells := 1, slots := 6 }) (Nat.le_refl _) (Nat.le_refl _) hRcells hRslots
  obtain ⟨s', hA⟩ : ∃ z, z = (T.setVm s.vm).setFrames (.invoking m args :: below) := ⟨_, rfl⟩
  rw [← hA] at Y
  have hvm : s'.vm = s.vm := by rw [hA]; rfl
  have hhp : s'.heap = H := by rw [hA]; exact hT
  have hW0 : s.WarmedH s'.vm := by rw [hvm]; exact State.WarmedH.refl s
  have hat' : ∀ w ∈ vx_at0 own ic cls names, w.before args s' = true := fun w hw => vx_ot_at hW0 hvm.symm (hgood w (List.mem_cons_of_mem _ (List.mem_cons_of_mem _ hw))) (hat w hw)
  have hk' : (Cond.classLink own ik cls).before args s' = true := vx_ot_at hW0 hvm.symm (hgood _ List.mem_cons_self) hk
  have hini' : (Cond.initialized cls).before args s' = true := vx_ot_at hW0 hvm.symm (hgood _ (List.mem_cons_of_mem _ List.mem_cons_self)) hini
  have hU' : vx_Zq Bundle.tN "UNASSIGNED_STACK" Bundle.steD A s' s'.heap := by rw [hhp]; exact vx_Zq.moved hW0.alike (hU.kept hS.2.1)
  have hN' : vx_Zq Bundle.tN "SUPPRESSED_SENTINEL" Bundle.listD A s' s'.heap := by rw [hhp]; exact vx_Zq.moved hW0.alike (hN.kept hS.2.1)
  have h : ∀ w ∈ Bundle.ownAtoms0 own ic cls names, w.before args s' = true := vx_own hat' (vx_isRefq hU'.1) (vx_isRefq hN'.1) hU'.2.word hN'.2.word
  have hown' : s'.vm.findClass own = some m.cls := by rw [hvm]; exact hown
  have hins : (Cond.instantiable cls 6).before args s' = true := h _ (by simp [Bundle.ownAtoms0])
  obtain ⟨vm₁, cX, kX, hfX, hkX, -, -, X₁, st1⟩ := Y.newCold hexec (own := own) (C := cls) (index := ik) (n := 6) hown' hk' hins hini'
    (g := F0 m pc ls rest) rfl (by rw [hb]; exact d0) (Nat.le_refl _) (Nat.le_refl _)
  generalize hT1 : (T.setVm vm₁).pushCell { cls := cX, slots := kX.instanceTypes.map defaultValue, vm := .none } = T1 at X₁ st1
  have hcat : (Value.ref T.heap.size).category = 1 := rfl
  have hcellA : T1.heap[T.heap.size]? = some (freshCell cX kX) := by rw [← hT1]; exact State.heap_pushCell_size _ _
  have d3' : decode c.code (pc + 3) = .ok (.dup, 1) := by rw [hb]; exact d3
  obtain ⟨U, hsteps, hrun, hend, hW, hsame, ce, hce, hO⟩ := X₁.ctorThrow0 hexec htr (own := own) (cls := cls) (names := names) (ic := ic) hown' hcls hnames h (fun x hx => nomatch hx) hfX hkX hcellA (by rw [hhp, hT]; exact Nat.le_refl _)
    (g := { method := m, pc := pc + 4, locals := ls, stack := .ref T.heap.size :: .ref T.heap.size :: rest, locked := none }) rfl hsize rfl rfl (rest := rest) rfl
    (by rw [hb]; exact d4) (by rw [hb]; exact d7) hout hRframes (by simp only [List.map_cons, List.sum_cons, hcat]; omega) hlocks
  obtain ⟨f1, f2⟩ := vx_frame hsame
  rw [hhp] at f1 f2
  have hWs : s.WarmedH U.vm := State.WarmedH.trans hW0 hW
  have hcl : s.vm.findClass cls = some ce.cls := by
    have h9 := hO.cls
    rw [hvm] at h9
    exact h9
  have hall : s.sameButNew ({ U with vm := s.vm } : State) locs mc ms := by
    subst hA
    obtain ⟨e1, e2⟩ := hsame
    rw [State.setFrames_setFrames] at e1
    have h2 : (T.setVm s.vm).sameButNew ({ U with vm := s.vm } : State) [] (0 + 1) (0 + 6) := ⟨e1, e2⟩
    have h3 := X.same.trans h2
    rw [List.append_nil] at h3
    exact h3.mono hc hs
  refine ⟨U, ?_, .threw T.heap.size, hrun, hend, Or.inr ⟨T.heap.size, rfl, cls, ce, locs, hx U hWs.alike f1 (fun q hq => f2 q hq (fun z hz => nomatch hz)), hce, hO.vm, hcl, hWs, hall, hf⟩⟩
  refine st1 _ ?_
  show Steps p.tables e below (T1.setTop { method := m, pc := pc + 3, locals := ls, stack := .ref T.heap.size :: rest, locked := none }) _
  jvm_step X₁.here [X₁.here.top, hexec, d3', Value.category]
  exact hsteps
/-- 'throw new E("text")': new; dup; ldc; invokespecial; athrow -/
theorem vx_throwS {cc : ByteArray} {pc : Nat} (hexec : p.tables.exec = Jvm.exec) (hb : c.code = cc) (hl : l.stackTraces = false) {own cls text : String} {names : List String} {ik is ic mc ms sa : Nat} {A : Nat → Prop}
    (hown : s.vm.findClass own = some m.cls) (hcls : Bundle.fit cls = true) (hnames : ∀ n ∈ names, Bundle.fit n = true)
    (hk : (Cond.classLink own ik cls).before args s = true) (hini : (Cond.initialized cls).before args s = true) (hstr : vk_R own is text sa s) (hat : ∀ w ∈ vx_atS own ic cls names, w.before args s = true)
    (hgood : ∀ w ∈ Cond.classLink own ik cls :: Cond.initialized cls :: vx_atS own ic cls names, vx_ot w = true)
    (hU : vx_Zq Bundle.tN "UNASSIGNED_STACK" Bundle.steD A s s.heap) (hN : vx_Zq Bundle.tN "SUPPRESSED_SENTINEL" Bundle.listD A s s.heap) (hS : va_S A s.heap H locs) (hsize : ls.size = c.maxLocals)
    (d0 : decode cc pc = .ok (.new ik, 3)) (d3 : decode cc (pc + 3) = .ok (.dup, 1)) (d4 : decode cc (pc + 4) = .ok (.ldc is, 2)) (d6 : decode cc (pc + 6) = .ok (.invokespecial ic, 3)) (d9 : decode cc (pc + 9) = .ok (.athrow, 1))
    (hout : ∀ x ∈ c.exceptionTable.toList, covers x (pc + 9) = false)
    (hRframes : names.length + 3 < R.frames) (hRlocals : (rest.map fun v => v.category).sum + (13 * (names.length + 1) + 43) ≤ R.locals) (hRcells : cells + 1 ≤ R.cells) (hRslots : slots + 6 ≤ R.slots) (hlocks : meth.locks = false)
    (hx : ∀ t : State, s.vm.Alike t.vm → H.size ≤ t.heap.size → (∀ q : Nat, q < H.size → t.heap[q]? = H[q]?) → XC cls s t)
    (hf : ∀ z ∈ locs, free z.base) (hc : cells + 1 ≤ mc) (hs : slots + 6 ≤ ms) :
    W p l e R s m args below meth c H locs cells slots (vx_MQ below Qc XC args s mc ms free) (F0 m pc ls rest) := by
  intro T hT X
  have htr : e.platform.stackTraces = false := (show e.platform.stackTraces = l.stackTraces by rw [X.admits.platform]).trans hl
  have Y := vx_rebase X (R' := { frames := R.frames, locals := R.locals, cells := 1, slots := 6 }) (Nat.le_refl _) (Nat.le_refl _) hRcells hRslots
  obtain ⟨s', hA⟩ : ∃ z, z = (T.setVm s.vm).setFrames (.invoking m args :: below) := ⟨_, rfl⟩
  rw [← hA] at Y
  have hvm : s'.vm = s.vm := by rw [hA]; rfl
  have hhp : s'.heap = H := by rw [hA]; exact hT
  have hW0 : s.WarmedH s'.vm := by rw [hvm]; exact State.WarmedH.refl s
  have hat' : ∀ w ∈ vx_atS own ic cls names, w.before args s' = true := fun w hw => vx_ot_at hW0 hvm.symm (hgood w (List.mem_cons_of_mem _ (List.mem_cons_of_mem _ hw))) (hat w hw)
  have hk' : (Cond.classLink own ik cls).before args s' = true := vx_ot_at hW0 hvm.symm (hgood _ List.mem_cons_self) hk
  have hini' : (Cond.initialized cls).before args s' = true := vx_ot_at hW0 hvm.symm (hgood _ (List.mem_cons_of_mem _ List.mem_cons_self)) hini
  have hU' : vx_Zq Bundle.tN "UNASSIGNED_STACK" Bundle.steD A s' s'.heap := by rw [hhp]; exact vx_Zq.moved hW0.alike (hU.kept hS.2.1)
  have hN' : vx_Zq Bundle.tN "SUPPRESSED_SENTINEL" Bundle.listD A s' s'.heap := by rw [hhp]; exact vx_Zq.moved hW0.alike (hN.kept hS.2.1)
  have h : ∀ w ∈ Bundle.ownAtoms own ic cls names, w.before args s' = true := vx_own hat' (vx_isRefq hU'.1) (vx_isRefq hN'.1) hU'.2.word hN'.2.word
  have hown' : s'.vm.findClass own = some m.cls := by rw [hvm]; exact hown
  have hins : (Cond.instantiable cls 6).before args s' = true := h _ (by simp [Bundle.ownAtoms])
  obtain ⟨vm₁, cX, kX, hfX, hkX, -, -, X₁, st1⟩ := Y.newCold hexec (own := own) (C := cls) (index := ik) (n := 6) hown' hk' hins hini'
    (g := F0 m pc ls rest) rfl (by rw [hb]; exact d0) (Nat.le_refl _) (Nat.le_refl _)
  generalize hT1 : (T.setVm vm₁).pushCell { cls := cX, slots := kX.instanceTypes.map defaultValue, vm := .none } = T1 at X₁ st1
  have hcat : (Value.ref T.heap.size).category = 1 := rfl
  have hcellA : T1.heap[T.heap.size]? = some (freshCell cX kX) := by rw [← hT1]; exact State.heap_pushCell_size _ _
  have d3' : decode c.code (pc + 3) = .ok (.dup, 1) := by rw [hb]; exact d3
  have d4' : decode c.code (pc + 4) = .ok (.ldc is, 2) := by rw [hb]; exact d4
  have hstr' : vk_R own is text sa s' := vk_R.warm hW0 hstr
  obtain ⟨U, hsteps, hrun, hend, hW, hsame, ce, hce, hO⟩ := X₁.ctorThrowS hexec htr (own := own) (cls := cls) (names := names) (ic := ic) hown' hcls hnames h (fun x hx => nomatch hx) hfX hkX hcellA (by rw [hhp, hT]; exact Nat.le_refl _) (msg := .ref sa) rfl
    (g := { method := m, pc := pc + 6, locals := ls, stack := .ref sa :: .ref T.heap.size :: .ref T.heap.size :: rest, locked := none }) rfl hsize rfl rfl (rest := rest) rfl
    (by rw [hb]; exact d6) (by rw [hb]; exact d9) hout hRframes (by simp only [List.map_cons, List.sum_cons, hcat]; omega) hlocks
  obtain ⟨f1, f2⟩ := vx_frame hsame
  rw [hhp] at f1 f2
  have hWs : s.WarmedH U.vm := State.WarmedH.trans hW0 hW
  have hcl : s.vm.findClass cls = some ce.cls := by
    have h9 := hO.cls
    rw [hvm] at h9
    exact h9
  have hall : s.sameButNew ({ U with vm := s.vm } : State) locs mc ms := by
    subst hA
    obtain ⟨e1, e2⟩ := hsame
    rw [State.setFrames_setFrames] at e1
    have h2 : (T.setVm s.vm).sameButNew ({ U with vm := s.vm } : State) [] (0 + 1) (0 + 6) := ⟨e1, e2⟩
    have h3 := X.same.trans h2
    rw [List.append_nil] at h3
    exact h3.mono hc hs
  refine ⟨U, ?_, .threw T.heap.size, hrun, hend, Or.inr ⟨T.heap.size, rfl, cls, ce, locs, hx U hWs.alike f1 (fun q hq => f2 q hq (fun z hz => nomatch hz)), hce, hO.vm, hcl, hWs, hall, hf⟩⟩
  refine st1 _ ?_
  show Steps p.tables e below (T1.setTop { method := m, pc := pc + 3, locals := ls, stack := .ref T.heap.size :: rest, locked := none }) _
  jvm_step X₁.here [X₁.here.top, hexec, d3', Value.category]
  exact X₁.ldcString hexec (own := own) (text := text) (index := is) (a := sa) hown' hstr'.1 hstr'.2
    (g := { method := m, pc := pc + 4, locals := ls, stack := .ref T.heap.size :: .ref T.heap.size :: rest, locked := none }) rfl d4' _ hsteps
/-- 'throw new E("text")', the text by a wide index -/
theorem vx_throwSW {cc : ByteArray} {pc : Nat} (hexec : p.tables.exec = Jvm.exec) (hb : c.code = cc) (hl : l.stackTraces = false) {own cls text : String} {names : List String} {ik is ic mc ms sa : Nat} {A : Nat → Prop}
    (hown : s.vm.findClass own = some m.cls) (hcls : Bundle.fit cls = true) (hnames : ∀ n ∈ names, Bundle.fit n = true)
    (hk : (Cond.classLink own ik cls).before args s = true) (hini : (Cond.initialized cls).before args s = true) (hstr : vk_R own is text sa s) (hat : ∀ w ∈ vx_atS own ic cls names, w.before args s = true)
    (hgood : ∀ w ∈ Cond.classLink own ik cls :: Cond.initialized cls :: vx_atS own ic cls names, vx_ot w = true)
    (hU : vx_Zq Bundle.tN "UNASSIGNED_STACK" Bundle.steD A s s.heap) (hN : vx_Zq Bundle.tN "SUPPRESSED_SENTINEL" Bundle.listD A s s.heap) (hS : va_S A s.heap H locs) (hsize : ls.size = c.maxLocals)
    (d0 : decode cc pc = .ok (.new ik, 3)) (d3 : decode cc (pc + 3) = .ok (.dup, 1)) (d4 : decode cc (pc + 4) = .ok (.ldc_w is, 3)) (d7 : decode cc (pc + 7) = .ok (.invokespecial ic, 3)) (d10 : decode cc (pc + 10) = .ok (.athrow, 1))
    (hout : ∀ x ∈ c.exceptionTable.toList, covers x (pc + 10) = false)
    (hRframes : names.length + 3 < R.frames) (hRlocals : (rest.map fun v => v.category).sum + (13 * (names.length + 1) + 43) ≤ R.locals) (hRcells : cells + 1 ≤ R.cells) (hRslots : slots + 6 ≤ R.slots) (hlocks : meth.locks = false)
    (hx : ∀ t : State, s.vm.Alike t.vm → H.size ≤ t.heap.size → (∀ q : Nat, q < H.size → t.heap[q]? = H[q]?) → XC cls s t)
    (hf : ∀ z ∈ locs, free z.base) (hc : cells + 1 ≤ mc) (hs : slots + 6 ≤ ms) :
    W p l e R s m args below meth c H locs cells slots (vx_MQ below Qc XC args s mc ms free) (F0 m pc ls rest) := by
  intro T hT X
  have htr : e.platform.stackTraces = false := (show e.platform.stackTraces = l.stackTraces by rw [X.admits.platform]).trans hl
  have Y := vx_rebase X (R' := { frames := R.frames, locals := R.locals, cells := 1, slots := 6 }) (Nat.le_refl _) (Nat.le_refl _) hRcells hRslots
  obtain ⟨s', hA⟩ : ∃ z, z = (T.setVm s.vm).setFrames (.invoking m args :: below) := ⟨_, rfl⟩
  rw [← hA] at Y
  have hvm : s'.vm = s.vm := by rw [hA]; rfl
  have hhp : s'.heap = H := by rw [hA]; exact hT
  have hW0 : s.WarmedH s'.vm := by rw [hvm]; exact State.WarmedH.refl s
  have hat' : ∀ w ∈ vx_atS own ic cls names, w.before args s' = true := fun w hw => vx_ot_at hW0 hvm.symm (hgood w (List.mem_cons_of_mem _ (List.mem_cons_of_mem _ hw))) (hat w hw)
  have hk' : (Cond.classLink own ik cls).before args s' = true := vx_ot_at hW0 hvm.symm (hgood _ List.mem_cons_self) hk
  have hini' : (Cond.initialized cls).before args s' = true := vx_ot_at hW0 hvm.symm (hgood _ (List.mem_cons_of_mem _ List.mem_cons_self)) hini
  have hU' : vx_Zq Bundle.tN "UNASSIGNED_STACK" Bundle.steD A s' s'.heap := by rw [hhp]; exact vx_Zq.moved hW0.alike (hU.kept hS.2.1)
  have hN' : vx_Zq Bundle.tN "SUPPRESSED_SENTINEL" Bundle.listD A s' s'.heap := by rw [hhp]; exact vx_Zq.moved hW0.alike (hN.kept hS.2.1)
  have h : ∀ w ∈ Bundle.ownAtoms own ic cls names, w.before args s' = true := vx_own hat' (vx_isRefq hU'.1) (vx_isRefq hN'.1) hU'.2.word hN'.2.word
  have hown' : s'.vm.findClass own = some m.cls := by rw [hvm]; exact hown
  have hins : (Cond.instantiable cls 6).before args s' = true := h _ (by simp [Bundle.ownAtoms])
  obtain ⟨vm₁, cX, kX, hfX, hkX, -, -, X₁, st1⟩ := Y.newCold hexec (own := own) (C := cls) (index := ik) (n := 6) hown' hk' hins hini'
    (g := F0 m pc ls rest) rfl (by rw [hb]; exact d0) (Nat.le_refl _) (Nat.le_refl _)
  generalize hT1 : (T.setVm vm₁).pushCell { cls := cX, slots := kX.instanceTypes.map defaultValue, vm := .none } = T1 at X₁ st1
  have hcat : (Value.ref T.heap.size).category = 1 := rfl
  have hcellA : T1.heap[T.heap.size]? = some (freshCell cX kX) := by rw [← hT1]; exact State.heap_pushCell_size _ _
  have d3' : decode c.code (pc + 3) = .ok (.dup, 1) := by rw [hb]; exact d3
  have d4' : decode c.code (pc + 4) = .ok (.ldc_w is, 3) := by rw [hb]; exact d4
  have hstr' : vk_R own is text sa s' := vk_R.warm hW0 hstr
  obtain ⟨U, hsteps, hrun, hend, hW, hsame, ce, hce, hO⟩ := X₁.ctorThrowS hexec htr (own := own) (cls := cls) (names := names) (ic := ic) hown' hcls hnames h (fun x hx => nomatch hx) hfX hkX hcellA (by rw [hhp, hT]; exact Nat.le_refl _) (msg := .ref sa) rfl
    (g := { method := m, pc := pc + 7, locals := ls, stack := .ref sa :: .ref T.heap.size :: .ref T.heap.size :: rest, locked := none }) rfl hsize rfl rfl (rest := rest) rfl
    (by rw [hb]; exact d7) (by rw [hb]; exact d10) hout hRframes (by simp only [List.map_cons, List.sum_cons, hcat]; omega) hlocks
  obtain ⟨f1, f2⟩ := vx_frame hsame
  rw [hhp] at f1 f2
  have hWs : s.WarmedH U.vm := State.WarmedH.trans hW0 hW
  have hcl : s.vm.findClass cls = some ce.cls := by
    have h9 := hO.cls
    rw [hvm] at h9
    exact h9
  have hall : s.sameButNew ({ U with vm := s.vm } : State) locs mc ms := by
    subst hA
    obtain ⟨e1, e2⟩ := hsame
    rw [State.setFrames_setFrames] at e1
    have h2 : (T.setVm s.vm).sameButNew ({ U with vm := s.vm } : State) [] (0 + 1) (0 + 6) := ⟨e1, e2⟩
    have h3 := X.same.trans h2
    rw [List.append_nil] at h3
    exact h3.mono hc hs
  refine ⟨U, ?_, .threw T.heap.size, hrun, hend, Or.inr ⟨T.heap.size, rfl, cls, ce, locs, hx U hWs.alike f1 (fun q hq => f2 q hq (fun z hz => nomatch hz)), hce, hO.vm, hcl, hWs, hall, hf⟩⟩
  refine st1 _ ?_
  show Steps p.tables e below (T1.setTop { method := m, pc := pc + 3, locals := ls, stack := .ref T.heap.size :: rest, locked := none }) _
  jvm_step X₁.here [X₁.here.top, hexec, d3', Value.category]
  exact X₁.ldcStringW hexec (own := own) (text := text) (index := is) (a := sa) hown' hstr'.1 hstr'.2
    (g := { method := m, pc := pc + 4, locals := ls, stack := .ref T.heap.size :: .ref T.heap.size :: rest, locked := none }) rfl d4' _ hsteps
end Ends
section Bodies
variable {l : Launch}
theorem vx_ofW {y : MethodName} {ws ws' : List Cond} {rm : Room} {Pc : Array Value → State → Prop} {Qc : Array Value → State → Outcome → State → Prop} {XC : String → State → State → Prop} {mc ms : Nat} {free : Addr → Prop} {cc : ByteArray} {maxL : Nat} {ret : Option FieldType}
    (hy : plainName y.cls = true) (hw : ws = Cond.code y cc maxL ret :: ws')
    (body : ∀ p e s m args below meth c s₁, BodyLoose p l y (headSpec ws rm) cc maxL ret e s m args below meth c s₁ → c.maxLocals = maxL → (∀ x ∈ c.exceptionTable.toList, False) → Pc args s →
      W p l e (headSpec ws rm).room s m args below meth c s.heap [] 0 0 (vx_MQ below Qc XC args s mc ms free) (entryFrame m args maxL)) : vx_Met l y ws rm Pc Qc XC mc ms free := by
  refine MetFree.of_bodyS (code := cc) (maxLocals := maxL) (ret := ret) hy ?_ ?_
  · intro args s m h hn
    obtain ⟨meth, c, h1, h2, h3, h4, h5, h6, -, -⟩ := Cond.code_spec hn (atoms_spec (ws := ws) h _ (by rw [hw]; exact List.mem_cons_self))
    exact ⟨meth, c, h1, h2, h3, h4, h5, h6⟩
  · intro p e s m args below meth c s₁ B hml hP _
    have hh0 : s₁.heap = s.heap := by rw [B.state]; rfl
    have ht : ∀ x ∈ c.exceptionTable.toList, False := by
      obtain ⟨meth9, c9, h1, h2, -, -, -, -, h7, -⟩ := Cond.code_spec B.named (atoms_spec (ws := ws) B.pre _ (by rw [hw]; exact List.mem_cons_self))
      cases Option.some.inj (h1.symm.trans B.method)
      cases Option.some.inj (h2.symm.trans (Stand.of_body B).code)
      intro x hx
      rw [Array.isEmpty_iff.mp h7] at hx
      cases hx
    obtain ⟨t, a1, o, b1, b2, b3⟩ := body p e s m args below meth c s₁ B hml ht hP s₁ hh0 (Stand.of_body B)
    exact ⟨t, o, a1, b1, b2, b3⟩
/-- the table of a body with handlers -/
theorem vx_table {p : Program} {x y : MethodName} {S : Spec} {cc bytes : ByteArray} {maxL maxL' : Nat} {ret ret' : Option FieldType} {e : Env} {s s₁ : State} {m : MethodId} {args : Array Value} {below : List Frame} {meth : Method} {c : Code} {hh : List (Nat × Nat × Nat × Nat)}
    (B : BodyLoose p l y S cc maxL ret e s m args below meth c s₁) (h : (Cond.codeWith y bytes maxL' ret' hh).before args s = true) : c.exceptionTable.toList = tableOf hh := by
  obtain ⟨m9, meth9, c9, hn9, h1, h2, -, -, h6, -⟩ := Cond.codeWith_spec h
  cases Option.some.inj (hn9.symm.trans B.named)
  cases Option.some.inj (h1.symm.trans B.method)
  cases Option.some.inj (h2.symm.trans (Stand.of_body B).code)
  rw [← h6, table_eq]
end Bodies
end VXA
/-! ===== END ===== -/
/-! ===== BEGIN a static call of a method with an exception table ===== -/
section VXS
variable {p : Program} {l : Launch} {e : Env} {R : Room} {s : State} {m : MethodId} {args : Array Value} {below : List Frame} {meth : Method} {c : Code} {T : State} {H : Heap} {locs : List Loc} {cells slots : Nat}
abbrev vx_CSW (R : Room) (s : State) (args : Array Value) (own : String) (index : Nat) (y : MethodName) (bytes : ByteArray) (maxL : Nat) (ret : Option FieldType) (hh : List (Nat × Nat × Nat × Nat)) (ws : List Cond) (rm : Room) (mc ms n : Nat) : Prop :=
  (rm.cells = mc ∧ rm.slots = ms ∧ rm.frames + 1 ≤ R.frames ∧ 8 + (maxL + 11) + rm.locals ≤ R.locals ∧ (∀ w ∈ ws, ∀ (a' : Array Value) (U : State), s.WarmedH U.vm → w.before a' U = true) ∧ Cond.codeWith y bytes maxL ret hh ∈ ws) ∧
  (Cond.codeWith y bytes maxL ret hh).before args s = true ∧ (Cond.initialized y.cls).before args s = true ∧ (y.cls ≠ "java/lang/invoke/MethodHandle" ∧ y.cls ≠ "java/lang/invoke/VarHandle") ∧
  (∀ sig, parseMethodDescriptor y.desc = some sig → n = sig.parameters.length) ∧ (Cond.methodLink own index y).before args s = true ∧ (Cond.static y).before args s = true
theorem vx_cwSW {own : String} {index maxL mc ms : Nat} {y : MethodName} {bytes : ByteArray} {ret : Option FieldType} {hh : List (Nat × Nat × Nat × Nat)} {Ts ws ws' : List Cond} {rm : Room} (n : Nat) (ht : ∀ w ∈ Ts, w.before args s = true) (hT : GoodIn Ts (va_wsS own index y ws)) (hw : ws = Cond.codeWith y bytes maxL ret hh :: ws') (hrc : rm.cells = mc) (hrs : rm.slots = ms)
    (hd : y.cls ≠ "java/lang/invoke/MethodHandle" ∧ y.cls ≠ "java/lang/invoke/VarHandle" ∧ (parseMethodDescriptor y.desc).map (fun d => d.parameters.length) = some n) (hR : rm.frames + 1 ≤ R.frames ∧ 8 + (maxL + 11) + rm.locals ≤ R.locals) :
    vx_CSW R s args own index y bytes maxL ret hh ws rm mc ms n := by
  have ok : ∀ w ∈ va_wsS own index y ws, w.before args s = true := fun w h => ht w (hT w h).1
  have hG : GoodIn Ts ws := fun w h => hT w (by unfold va_wsS; exact List.mem_append_right _ h)
  have hc : Cond.codeWith y bytes maxL ret hh ∈ ws := by rw [hw]; exact List.mem_cons_self
  refine ⟨⟨hrc, hrs, hR.1, hR.2, pay_in ht hG, hc⟩, ht _ (hG _ hc).1, ok _ (by simp [va_wsS]), ⟨hd.1, hd.2.1⟩, fun sig h => ?_, ok _ (by simp [va_wsS]), ok _ (by simp [va_wsS])⟩
  have h2 := hd.2.2
  rw [h] at h2
  exact (Option.some.inj h2).symm
theorem vx_callSW (X : Stand p l e R s m args below meth c T locs cells slots) (hexec : p.tables.exec = Jvm.exec) {own : String} {index : Nat} {y : MethodName} {bytes : ByteArray} {maxL : Nat} {ret : Option FieldType} {hh : List (Nat × Nat × Nat × Nat)}
    (hown : s.vm.findClass own = some m.cls) (hlink : (Cond.methodLink own index y).before args s = true) (hstat : (Cond.static y).before args s = true) (hinit : (Cond.initialized y.cls).before args s = true)
    (hcode : (Cond.codeWith y bytes maxL ret hh).before args s = true) (hy : y.cls ≠ "java/lang/invoke/MethodHandle" ∧ y.cls ≠ "java/lang/invoke/VarHandle")
    {W9 : Nat} {Pre : Pt → Array Value → Prop} {Post : Pt → Array Value → Option Value → Pt → Prop} (hK : Back l R p e below s args y 3 W9 Pre Post)
    {g : JFrame} (hg : g.method = m) (hsize : g.locals.size = c.maxLocals) {argsL rest : List Value} (hlen : ∀ sig, parseMethodDescriptor y.desc = some sig → argsL.length = sig.parameters.length)
    (hstack : g.stack = argsL.reverse ++ rest) (hW : 2 * g.monitorRoom + (rest.map fun v => v.category).sum ≤ W9) (hdg : decode c.code g.pc = .ok (.invokestatic index, 3))
    (hpre : ∀ vm₁, s.WarmedH vm₁ → Pre ⟨T.setVm vm₁, locs, cells, slots⟩ argsL.toArray) :
    ∃ (v : Option Value) (vm₁ : Vm) (B : Pt), s.WarmedH vm₁ ∧ Stand p l e R s m args below meth c B.U B.locs B.cells B.slots ∧ Post ⟨T.setVm vm₁, locs, cells, slots⟩ argsL.toArray v B ∧
      ∀ target, Steps p.tables e below (B.U.setTop { g with pc := g.pc + 3, stack := v.toList ++ rest }) target → Steps p.tables e below (T.setTop g) target := by
  obtain ⟨mk, methM, cM, hnamed, hmethM, -, -, -, -, -, -, hsigM⟩ := Cond.codeWith_spec hcode
  have hstatic : methM.isStatic = true := Cond.static_spec hnamed hmethM hstat
  obtain ⟨kP, hkP, -⟩ := className_of_methodNamed hnamed
  have hinitP : kP.init = .initialized := Cond.initialized_spec (findClass_of_methodNamed hnamed) hkP hinit
  obtain ⟨vm₁, X₁, hstep₁⟩ := X.invokestatic hexec hown hlink hnamed hmethM hstatic hkP hinitP hy (g := g) hg (argsL := argsL) (rest := rest) (hlen _ hsigM) hstack hdg
  obtain ⟨v, B, X', hpost, hsteps⟩ := hK m meth c ⟨T.setVm vm₁, locs, cells, slots⟩ { g with stack := rest } (.invokestatic index) mk argsL.toArray X₁ hg hsize hdg hW (X₁.named hnamed) (hpre vm₁ X₁.warmed)
  exact ⟨v, vm₁, B, X₁.warmed, X', hpost, fun target h => hstep₁ _ fun acts => by rw [doInvoke_state]; exact hsteps.trans h⟩
theorem vx_runSW {y : MethodName} {bytes cc : ByteArray} {maxL nL mc ms n index : Nat} {ret : Option FieldType} {hh : List (Nat × Nat × Nat × Nat)} {ws : List Cond} {rm : Room} {Pc : Array Value → State → Prop} {Qc : Array Value → State → Outcome → State → Prop} {free : Addr → Prop} {Ts : List Cond} {own : String} {As rest : List Value} {g : JFrame}
    (S : CallFix p m c cc nL s args Ts own) (hM : Met l y ws rm Pc Qc mc ms free) (cw : vx_CSW R s args own index y bytes maxL ret hh ws rm mc ms n) (hp : PreS s H Pc As)
    (hg : g.method = m) (hn : As.length = n) (hsize : g.locals.size = nL) (hstack : g.stack = As.reverse ++ rest) (hW : 2 * g.monitorRoom + (rest.map fun v => v.category).sum ≤ 8) (hdg : decode cc g.pc = .ok (.invokestatic index, 3)) (hf : cells + mc ≤ R.cells ∧ slots + ms ≤ R.slots) :
    va_Run p l e R s m args below meth c H locs cells slots mc ms g rest (Qc As.toArray) (free) := by
  obtain ⟨⟨hrc, hrs, hfr, hlo, hws, hcw⟩, hcode, hini, hy, hlen, hl, hstt⟩ := cw
  have hK : Back l R p e below s args y 3 8 (PreOf R mc ms Pc) (PostOf Qc mc ms free) := va_backW (hh := hh) (bytes := bytes) (maxL := maxL) (ret := ret) hM hp.1 hrc hrs hfr hlo hws hcw (fun a' U hW => word_at hW (Or.inl (by first | rfl | simp [Cond.onTables, Cond.keeps, Cond.steady])) hini)
  obtain ⟨hx, hb, hml, ho, -⟩ := S
  intro T hT X
  obtain ⟨v, vm₁, ⟨U', l2, c2, s2⟩, hW₁, X', ⟨g', mk, t, L, e1, e2, hq, h1, hL, h2, h3⟩, st⟩ := vx_callSW X hx (hh := hh) (bytes := bytes) (maxL := maxL) (ret := ret) ho hl hstt hini hcode hy hK hg (hsize.trans hml.symm) (argsL := As) (rest := rest) (fun sig h => hn.trans (hlen sig h)) hstack hW (by rw [hb]; exact hdg)
    (fun vm₁ hW₁ => ⟨hf.1, hf.2, hp.2 (T.setVm vm₁) hT hW₁⟩)
  dsimp only [Pt.U, Pt.locs, Pt.cells, Pt.slots] at X' e1 e2 h1 h2 h3 st
  subst h1; subst h2; subst h3
  exact ⟨v, (T.setVm vm₁).calling g' mk As.toArray, t, U', L, hT, X', hL, e1, e2, hq, st⟩
/-- not caught here, past rows that name other classes: it goes on to the caller -/
theorem vx_outP {p : Program} {l : Launch} {e : Env} {R : Room} {s : State} {m : MethodId} {args : Array Value} {below : List Frame} {meth : Method} {c : Code} {H : Heap} {locs : List Loc} {cells slots : Nat} {free : Addr → Prop} {ls : Array Slot} {rest : List Value} {Qc : Array Value → State → Outcome → State → Prop} {XC : String → State → State → Prop}
    {pc : Nat} {own E : String} {ce : Cell} {q : Addr} {mc ms : Nat} (hown : s.vm.findClass own = some m.cls) (hlocks : meth.locks = false)
    (hpass : ∀ z ∈ c.exceptionTable.toList, covers z pc = false ∨ (z.catchType ≠ 0 ∧ ∃ nm : String, (Cond.classLink own z.catchType nm).before args s = true ∧ va_Nc E nm s)) (hcell : H[q]? = some ce) (hv : ce.vm = .none) (hcl : s.vm.findClass E = some ce.cls)
    (hx : ∀ t : State, t.heap = H → s.vm.Alike t.vm → XC E s t) (hf : ∀ z ∈ locs, free z.base) (hc : cells ≤ mc) (hs : slots ≤ ms) :
    vx_W p l e R s m args below meth c H locs cells slots (vx_MQ below Qc XC args s mc ms free) (F0 m pc ls rest) q := by
  intro T hT X
  have hpl : e.platform.magicAccessors = ({} : Platform).magicAccessors := by rw [X.admits.platform]
  obtain ⟨vm', hW', X', st⟩ := X.outThrough hlocks q (g := F0 m pc ls rest) rfl rfl rfl (cell := ce) (by rw [hT]; exact hcell) (by rw [hv]; rfl)
    (by obtain ⟨k9, h9, -⟩ := Vm.findClass_spec hcl; exact ⟨k9, h9⟩) (fun z hz => by
      rcases hpass z hz with h | ⟨hz0, nm, hl1, hn1⟩
      · exact Or.inl h
      · obtain ⟨c6, hc6, hcl6⟩ := Cond.classLink_spec hown hl1 e.platform hpl
        obtain ⟨a8, b8, h1, h2, h3⟩ := hn1
        cases Option.some.inj (h1.symm.trans hcl)
        cases Option.some.inj (h2.symm.trans hc6)
        exact Or.inr ⟨hz0, _, hcl6, h3⟩)
  obtain ⟨g₀, hfr⟩ := X'.frames_eq
  have hcell9 : ((T.setVm vm').setFrames (.throwing q :: below)).heap[q]? = some ce := by
    show T.heap[q]? = some ce
    rw [hT]; exact hcell
  have hend : Ended ((T.setVm vm').setFrames (.throwing q :: below)) below (.threw q) := State.frames_setFrames _ (State.cur_lt_of_frames hfr)
  refine ⟨(T.setVm vm').setFrames (.throwing q :: below), ?_, .threw q, X'.here.running, hend, Or.inr ⟨q, rfl, E, ce, locs, hx _ hT (X'.ends _).1.alike, hcell9, hv, hcl, (X'.ends _).1, (X'.ends _).2.mono hc hs, hf⟩⟩
  rw [X.pushThrowing_eq]
  exact st
/-- a thing of a world lies in the heap -/
theorem vx_lt {D : va_G} {cl : List vw_C} {ws : va_W} {H1 : Heap} (h : va_P D cl ws H1) {k : Nat} {q : Nat × va_E} (hk : ws[k]? = some q) : q.1 < H1.size := (h k q hk).lt
end VXS
/-! ===== END ===== -/
/-! ===== BEGIN methods with a table of their own: called by a name, returning or throwing ===== -/
section VXH
/-! vx_backW, vx_callVX, vx_callSX, vx_callVW, vx_runVW, vx_runVX, vx_runSX, vx_ofWH follow the same proofs as their sisters above (Free/Laws.lean, Shelf42/LK1.lean); vx_outP calls Shelf42/NT130.lean (outThrough). -/
section
variable {l : Launch} {R : Room} {p : Program} {e : Env} {below : List Frame} {s : State} {sargs : Array Value} {y : MethodName} {len W9 : Nat}
theorem vx_backW {ws : List Cond} {rm : Room} {Pc : Array Value → State → Prop} {Qc : Array Value → State → Outcome → State → Prop} {XC : String → State → State → Prop} {mc ms : Nat} {free : Addr → Prop} {bytes : ByteArray} {maxL : Nat} {ret : Option FieldType} {hh : List (Nat × Nat × Nat × Nat)}
    (hM : vx_Met l y ws rm Pc Qc XC mc ms free) (hblind : FrameBlind Pc) (hrc : rm.cells = mc) (hrs : rm.slots = ms)
    (hframes : rm.frames + 1 ≤ R.frames) (hlocals : W9 + (maxL + 11) + rm.locals ≤ R.locals)
    (hws : ∀ w ∈ ws, ∀ a' U, s.WarmedH U.vm → w.before a' U = true) (hcode : Cond.codeWith y bytes maxL ret hh ∈ ws) (hinit : ∀ a' U, s.WarmedH U.vm → (Cond.initialized y.cls).before a' U = true) :
    vx_Back l R p e below s sargs y len W9 (PreOf R mc ms Pc) (PostOf Qc mc ms free) (vx_Post XC mc ms free) := by
  intro m meth c A g ig mk a X hg hsize hdg hW hn hp
  have h1 : (headSpec ws rm).pre.before a A.U = true := atoms_intro fun w hw => hws w hw _ _ X.warmed
  have h2 : (Cond.codeWith y bytes maxL ret hh).before a A.U = true := hws _ hcode _ _ X.warmed
  have h3 : (Cond.initialized y.cls).before a A.U = true := hinit _ _ X.warmed
  have h4 : A.cells + (headSpec ws rm).room.cells ≤ R.cells := by rw [show (headSpec ws rm).room.cells = mc from hrc]; exact hp.1
  have h5 : A.slots + (headSpec ws rm).room.slots ≤ R.slots := by rw [show (headSpec ws rm).room.slots = ms from hrs]; exact hp.2.1
  have hPc : Pc a (A.U.calling g mk a) := hblind _ _ _ _ hp.2.2
  obtain ⟨U, Ls, c0, s0⟩ := A
  dsimp only [Pt.U, Pt.locs, Pt.cells, Pt.slots] at h1 h2 h3 h4 h5 X hn hPc ⊢
  obtain ⟨m9, methY, cY, hn9, hmY, hcY, -, hlY, -⟩ := Cond.codeWith_spec h2
  cases Option.some.inj (hn9.symm.trans hn)
  obtain ⟨kY, hkY, -⟩ := className_of_methodNamed hn
  have hinitY : kY.init = .initialized := Cond.initialized_spec (findClass_of_methodNamed hn) hkY h3
  have h : At U g.method c below := by rw [hg]; exact X.here
  have hlocals9 : W9 + (maxL + 11) + (headSpec ws rm).room.locals ≤ R.locals := hlocals
  have happ : (headSpec ws rm).appliesLoose y e.platform (U.calling g mk a) = true :=
    Spec.appliesLoose_calling (g := g) h hdg hn hkY hinitY
      (X.room_calling (g := g) (R' := (headSpec ws rm).room) hsize hmY hcY hframes (by rw [hlY]; omega) h4 h5) h1
  obtain ⟨mid, hmid⟩ := h.above
  have hfr : (U.setTop g).frames = (.java g :: mid) ++ below := by rw [State.frames_setTop' g h.top, hmid]; rfl
  obtain ⟨o, s₂, hsteps, -, hend, hq⟩ := Steps.callFree hM p X.admits X.cas X.clock (acts := []) hfr happ hPc trivial
  have hq' : vx_Q Qc XC mc ms free a (U.calling g mk a) o s₂ := hq
  rw [State.frames_setTop' g h.top] at hend
  obtain ⟨g₀, hg0⟩ := Option.isSome_iff_exists.mp h.top
  obtain ⟨r, hr⟩ := State.topJava?_eq_some.mp hg0
  have hr' : (({ U with heap := s₂.heap, slotsUsed := s₂.slotsUsed } : State).setVm s₂.vm).frames = .java g₀ :: r := hr
  rcases hq' with ⟨hqc, L, hfe, hL⟩ | ⟨q, rfl, E, ce, L, hx, hce, hcv, hcl, hW₂, hsm, hL⟩
  · obtain ⟨⟨v, rfl⟩, hW₂, e2, q2, q3, q4, q5, q6⟩ := id hfe
    have e3 : s₂ = ({ (U.calling g mk a).setFrames s₂.frames with heap := s₂.heap, slotsUsed := s₂.slotsUsed } : State).setVm s₂.vm := by
      have : s₂ = ({ s₂ with vm := (U.calling g mk a).vm } : State).setVm s₂.vm := rfl
      rw [e2] at this
      exact this
    obtain ⟨c₂, i₂, len₂, hc₂, hd₂, hf₂⟩ := hend
    have hW' : U.WarmedH s₂.vm := hW₂
    have hcc : c₂ = c := by
      have h1 : s₂.code? g.method = U.code? g.method := by
        rw [State.code?_eq, State.code?_eq, hW'.alike.method?]
      exact Option.some.inj (hc₂.symm.trans (h1.trans h.code))
    subst hcc
    have hlen : len₂ = len := by rw [hdg] at hd₂; cases hd₂; rfl
    subst hlen
    have hs₂ : s₂ = (({ U with heap := s₂.heap, slotsUsed := s₂.slotsUsed } : State).setVm s₂.vm).setTop { g with pc := g.pc + len₂, stack := v.toList ++ g.stack } := by
      refine e3.trans ?_
      rw [hf₂, State.calling_eq h.top, State.setFrames_setFrames, State.setTop_of_frames _ hr', hr]
      rfl
    have hsame : U.sameButNew ({ U with heap := s₂.heap, slotsUsed := s₂.slotsUsed } : State) L mc ms := by
      refine ⟨?_, q2, q3, q4, q5, q6⟩
      obtain ⟨t, ht, -⟩ := State.frames_cons hr
      show ({ U with heap := s₂.heap, slotsUsed := s₂.slotsUsed } : State) = { U.setFrames U.frames with heap := s₂.heap, slotsUsed := s₂.slotsUsed }
      rw [State.setFrames_self ht]
    subst hg
    refine Or.inl ⟨v, ⟨(({ U with heap := s₂.heap, slotsUsed := s₂.slotsUsed } : State).setVm s₂.vm), Ls ++ L, c0 + mc, s0 + ms⟩,
      ⟨X.admits, X.cas, X.clock, X.frames, X.room, X.hears, X.method, X.code, (X.here.setHeapUsed s₂.heap s₂.slotsUsed).setVm hW'.alike, X.tail, State.WarmedH.trans X.warmed hW', X.limits, X.bytes, X.same.trans (hsame.setVm s.vm)⟩,
      ⟨g, mk, s₂, L, rfl, rfl, hqc, rfl, hL, rfl, rfl⟩, ?_⟩
    show Steps p.tables e below _ ((({ U with heap := s₂.heap, slotsUsed := s₂.slotsUsed } : State).setVm s₂.vm).setTop { g with pc := g.pc + len₂, stack := v.toList ++ g.stack })
    rw [← hs₂]
    exact hsteps
  · obtain ⟨e2, q2, q3, q4, q5, q6⟩ := id hsm
    have e3 : s₂ = ({ (U.calling g mk a).setFrames s₂.frames with heap := s₂.heap, slotsUsed := s₂.slotsUsed } : State).setVm s₂.vm := by
      have : s₂ = ({ s₂ with vm := (U.calling g mk a).vm } : State).setVm s₂.vm := rfl
      rw [e2] at this
      exact this
    have hf₂ : s₂.frames = .throwing q :: .java g :: U.frames.tail := hend
    have hW' : U.WarmedH s₂.vm := hW₂
    have hs₂ : s₂ = ((({ U with heap := s₂.heap, slotsUsed := s₂.slotsUsed } : State).setVm s₂.vm).setTop g).pushFrame (.throwing q) := by
      refine e3.trans ?_
      rw [hf₂, State.calling_eq h.top, State.setFrames_setFrames, State.pushFrame, State.frames_setTop _ hr', State.setTop_of_frames _ hr', State.setFrames_setFrames, hr]
      rfl
    have hsame : U.sameButNew ({ U with heap := s₂.heap, slotsUsed := s₂.slotsUsed } : State) L mc ms := by
      refine ⟨?_, q2, q3, q4, q5, q6⟩
      obtain ⟨t, ht, -⟩ := State.frames_cons hr
      show ({ U with heap := s₂.heap, slotsUsed := s₂.slotsUsed } : State) = { U.setFrames U.frames with heap := s₂.heap, slotsUsed := s₂.slotsUsed }
      rw [State.setFrames_self ht]
    subst hg
    refine Or.inr ⟨q, ⟨(({ U with heap := s₂.heap, slotsUsed := s₂.slotsUsed } : State).setVm s₂.vm), Ls ++ L, c0 + mc, s0 + ms⟩,
      ⟨X.admits, X.cas, X.clock, X.frames, X.room, X.hears, X.method, X.code, (X.here.setHeapUsed s₂.heap s₂.slotsUsed).setVm hW'.alike, X.tail, State.WarmedH.trans X.warmed hW', X.limits, X.bytes, X.same.trans (hsame.setVm s.vm)⟩,
      ⟨g, mk, s₂, L, E, ce, rfl, rfl, hx, hce, hcv, hcl, rfl, hL, rfl, rfl⟩, ?_⟩
    show Steps p.tables e below _ (((({ U with heap := s₂.heap, slotsUsed := s₂.slotsUsed } : State).setVm s₂.vm).setTop g).pushFrame (.throwing q))
    rw [← hs₂]
    exact hsteps
end
variable {p : Program} {l : Launch} {e : Env} {R : Room} {s : State} {m : MethodId} {args : Array Value} {below : List Frame} {meth : Method} {c : Code} {T : State} {H : Heap} {locs : List Loc} {cells slots : Nat}
theorem vx_callVX (X : Stand p l e R s m args below meth c T locs cells slots) (hexec : p.tables.exec = Jvm.exec) {own C : String} {index : Nat} {y : MethodName} {bytes : ByteArray} {maxL : Nat} {ret : Option FieldType} {hh : List (Nat × Nat × Nat × Nat)}
    (hown : s.vm.findClass own = some m.cls) (hlink : (Cond.methodLink own index y).before args s = true) (hinst : (Cond.instanceMethod y).before args s = true) (hsel : (Cond.selects C y y).before args s = true)
    (hcode : (Cond.codeWith y bytes maxL ret hh).before args s = true) (hy : y.cls ≠ "java/lang/invoke/MethodHandle" ∧ y.cls ≠ "java/lang/invoke/VarHandle")
    {W9 : Nat} {Pre : Pt → Array Value → Prop} {Post : Pt → Array Value → Option Value → Pt → Prop} {PostX : Pt → Array Value → Addr → Pt → Prop} (hK : vx_Back l R p e below s args y 3 W9 Pre Post PostX)
    {b : Addr} {cellB : Cell} (hcell : T.heap[b]? = some cellB) (hobj : cellB.vm.isStatics = false) (hcls : s.vm.findClass C = some cellB.cls)
    {g : JFrame} (hg : g.method = m) (hsize : g.locals.size = c.maxLocals) {argsL rest : List Value} (hlen : ∀ sig, parseMethodDescriptor y.desc = some sig → argsL.length = sig.parameters.length)
    (hstack : g.stack = argsL.reverse ++ .ref b :: rest) (hW : 2 * g.monitorRoom + (rest.map fun v => v.category).sum ≤ W9) (hdg : decode c.code g.pc = .ok (.invokevirtual index, 3))
    (hpre : ∀ vm₁, s.WarmedH vm₁ → Pre ⟨T.setVm vm₁, locs, cells, slots⟩ (Value.ref b :: argsL).toArray) :
    (∃ (v : Option Value) (vm₁ : Vm) (B : Pt), s.WarmedH vm₁ ∧ Stand p l e R s m args below meth c B.U B.locs B.cells B.slots ∧ Post ⟨T.setVm vm₁, locs, cells, slots⟩ (Value.ref b :: argsL).toArray v B ∧
      ∀ target, Steps p.tables e below (B.U.setTop { g with pc := g.pc + 3, stack := v.toList ++ rest }) target → Steps p.tables e below (T.setTop g) target) ∨
    (∃ (q : Addr) (vm₁ : Vm) (B : Pt), s.WarmedH vm₁ ∧ Stand p l e R s m args below meth c B.U B.locs B.cells B.slots ∧ PostX ⟨T.setVm vm₁, locs, cells, slots⟩ (Value.ref b :: argsL).toArray q B ∧
      Steps p.tables e below (T.setTop g) ((B.U.setTop { g with stack := rest }).pushFrame (.throwing q))) := by
  obtain ⟨mk, methM, hnamed, hmethM, hstM, habM⟩ := Cond.instanceMethod_spec hinst
  obtain ⟨m8, methM', cM, hn8, hmethM', -, -, -, -, -, -, hsigM⟩ := Cond.codeWith_spec hcode
  cases Option.some.inj (hn8.symm.trans hnamed)
  cases hmethM.symm.trans hmethM'
  obtain ⟨c2, r2, m2, q1, q2, q3, q4, kP, hkP, hkPi⟩ := Cond.selects_spec hsel
  cases hcls.symm.trans q1
  cases (State.methodFound?_of_named hnamed hy).symm.trans q2
  cases hnamed.symm.trans q3
  have hselP : selectMethod e.platform s.vm cellB.cls mk = .method mk := by rw [Launch.admits_selectMethod X.admits]; exact q4
  obtain ⟨vm₁, X₁, hstep₁⟩ := X.invokevirtual hexec hown hlink hnamed hmethM hstM hkP hkPi hy (a := b) (cell := cellB) hcell
    (fun z h => by rw [h] at hobj; cases hobj) hselP hmethM habM hkP hkPi (g := g) hg (argsL := argsL) (rest := rest) (hlen _ hsigM) hstack hdg
  rcases hK m meth c ⟨T.setVm vm₁, locs, cells, slots⟩ { g with stack := rest } (.invokevirtual index) mk (Value.ref b :: argsL).toArray X₁ hg hsize hdg hW (X₁.named hnamed) (hpre vm₁ X₁.warmed) with ⟨v, B, X', hpost, hsteps⟩ | ⟨q, B, X', hpost, hsteps⟩
  · exact Or.inl ⟨v, vm₁, B, X₁.warmed, X', hpost, fun target h => hstep₁ _ fun acts => by rw [doInvoke_state]; exact hsteps.trans h⟩
  · exact Or.inr ⟨q, vm₁, B, X₁.warmed, X', hpost, hstep₁ _ fun acts => by rw [doInvoke_state]; exact hsteps⟩
theorem vx_callSX (X : Stand p l e R s m args below meth c T locs cells slots) (hexec : p.tables.exec = Jvm.exec) {own : String} {index : Nat} {y : MethodName} {bytes : ByteArray} {maxL : Nat} {ret : Option FieldType} {hh : List (Nat × Nat × Nat × Nat)}
    (hown : s.vm.findClass own = some m.cls) (hlink : (Cond.methodLink own index y).before args s = true) (hstat : (Cond.static y).before args s = true) (hinit : (Cond.initialized y.cls).before args s = true)
    (hcode : (Cond.codeWith y bytes maxL ret hh).before args s = true) (hy : y.cls ≠ "java/lang/invoke/MethodHandle" ∧ y.cls ≠ "java/lang/invoke/VarHandle")
    {W9 : Nat} {Pre : Pt → Array Value → Prop} {Post : Pt → Array Value → Option Value → Pt → Prop} {PostX : Pt → Array Value → Addr → Pt → Prop} (hK : vx_Back l R p e below s args y 3 W9 Pre Post PostX)
    {g : JFrame} (hg : g.method = m) (hsize : g.locals.size = c.maxLocals) {argsL rest : List Value} (hlen : ∀ sig, parseMethodDescriptor y.desc = some sig → argsL.length = sig.parameters.length)
    (hstack : g.stack = argsL.reverse ++ rest) (hW : 2 * g.monitorRoom + (rest.map fun v => v.category).sum ≤ W9) (hdg : decode c.code g.pc = .ok (.invokestatic index, 3))
    (hpre : ∀ vm₁, s.WarmedH vm₁ → Pre ⟨T.setVm vm₁, locs, cells, slots⟩ argsL.toArray) :
    (∃ (v : Option Value) (vm₁ : Vm) (B : Pt), s.WarmedH vm₁ ∧ Stand p l e R s m args below meth c B.U B.locs B.cells B.slots ∧ Post ⟨T.setVm vm₁, locs, cells, slots⟩ argsL.toArray v B ∧
      ∀ target, Steps p.tables e below (B.U.setTop { g with pc := g.pc + 3, stack := v.toList ++ rest }) target → Steps p.tables e below (T.setTop g) target) ∨
    (∃ (q : Addr) (vm₁ : Vm) (B : Pt), s.WarmedH vm₁ ∧ Stand p l e R s m args below meth c B.U B.locs B.cells B.slots ∧ PostX ⟨T.setVm vm₁, locs, cells, slots⟩ argsL.toArray q B ∧
      Steps p.tables e below (T.setTop g) ((B.U.setTop { g with stack := rest }).pushFrame (.throwing q))) := by
  obtain ⟨mk, methM, cM, hnamed, hmethM, -, -, -, -, -, -, hsigM⟩ := Cond.codeWith_spec hcode
  have hstatic : methM.isStatic = true := Cond.static_spec hnamed hmethM hstat
  obtain ⟨kP, hkP, -⟩ := className_of_methodNamed hnamed
  have hinitP : kP.init = .initialized := Cond.initialized_spec (findClass_of_methodNamed hnamed) hkP hinit
  obtain ⟨vm₁, X₁, hstep₁⟩ := X.invokestatic hexec hown hlink hnamed hmethM hstatic hkP hinitP hy (g := g) hg (argsL := argsL) (rest := rest) (hlen _ hsigM) hstack hdg
  rcases hK m meth c ⟨T.setVm vm₁, locs, cells, slots⟩ { g with stack := rest } (.invokestatic index) mk argsL.toArray X₁ hg hsize hdg hW (X₁.named hnamed) (hpre vm₁ X₁.warmed) with ⟨v, B, X', hpost, hsteps⟩ | ⟨q, B, X', hpost, hsteps⟩
  · exact Or.inl ⟨v, vm₁, B, X₁.warmed, X', hpost, fun target h => hstep₁ _ fun acts => by rw [doInvoke_state]; exact hsteps.trans h⟩
  · exact Or.inr ⟨q, vm₁, B, X₁.warmed, X', hpost, hstep₁ _ fun acts => by rw [doInvoke_state]; exact hsteps⟩
theorem vx_callVW (X : Stand p l e R s m args below meth c T locs cells slots) (hexec : p.tables.exec = Jvm.exec) {own C : String} {index : Nat} {y : MethodName} {bytes : ByteArray} {maxL : Nat} {ret : Option FieldType} {hh : List (Nat × Nat × Nat × Nat)}
    (hown : s.vm.findClass own = some m.cls) (hlink : (Cond.methodLink own index y).before args s = true) (hinst : (Cond.instanceMethod y).before args s = true) (hsel : (Cond.selects C y y).before args s = true)
    (hcode : (Cond.codeWith y bytes maxL ret hh).before args s = true) (hy : y.cls ≠ "java/lang/invoke/MethodHandle" ∧ y.cls ≠ "java/lang/invoke/VarHandle")
    {W9 : Nat} {Pre : Pt → Array Value → Prop} {Post : Pt → Array Value → Option Value → Pt → Prop} (hK : Back l R p e below s args y 3 W9 Pre Post)
    {b : Addr} {cellB : Cell} (hcell : T.heap[b]? = some cellB) (hobj : cellB.vm.isStatics = false) (hcls : s.vm.findClass C = some cellB.cls)
    {g : JFrame} (hg : g.method = m) (hsize : g.locals.size = c.maxLocals) {argsL rest : List Value} (hlen : ∀ sig, parseMethodDescriptor y.desc = some sig → argsL.length = sig.parameters.length)
    (hstack : g.stack = argsL.reverse ++ .ref b :: rest) (hW : 2 * g.monitorRoom + (rest.map fun v => v.category).sum ≤ W9) (hdg : decode c.code g.pc = .ok (.invokevirtual index, 3))
    (hpre : ∀ vm₁, s.WarmedH vm₁ → Pre ⟨T.setVm vm₁, locs, cells, slots⟩ (Value.ref b :: argsL).toArray) :
    ∃ (v : Option Value) (vm₁ : Vm) (B : Pt), s.WarmedH vm₁ ∧ Stand p l e R s m args below meth c B.U B.locs B.cells B.slots ∧ Post ⟨T.setVm vm₁, locs, cells, slots⟩ (Value.ref b :: argsL).toArray v B ∧
      ∀ target, Steps p.tables e below (B.U.setTop { g with pc := g.pc + 3, stack := v.toList ++ rest }) target → Steps p.tables e below (T.setTop g) target := by
  obtain ⟨mk, methM, hnamed, hmethM, hstM, habM⟩ := Cond.instanceMethod_spec hinst
  obtain ⟨m8, methM', cM, hn8, hmethM', -, -, -, -, -, -, hsigM⟩ := Cond.codeWith_spec hcode
  cases Option.some.inj (hn8.symm.trans hnamed)
  cases hmethM.symm.trans hmethM'
  obtain ⟨c2, r2, m2, q1, q2, q3, q4, kP, hkP, hkPi⟩ := Cond.selects_spec hsel
  cases hcls.symm.trans q1
  cases (State.methodFound?_of_named hnamed hy).symm.trans q2
  cases hnamed.symm.trans q3
  have hselP : selectMethod e.platform s.vm cellB.cls mk = .method mk := by rw [Launch.admits_selectMethod X.admits]; exact q4
  obtain ⟨vm₁, X₁, hstep₁⟩ := X.invokevirtual hexec hown hlink hnamed hmethM hstM hkP hkPi hy (a := b) (cell := cellB) hcell
    (fun z h => by rw [h] at hobj; cases hobj) hselP hmethM habM hkP hkPi (g := g) hg (argsL := argsL) (rest := rest) (hlen _ hsigM) hstack hdg
  obtain ⟨v, B, X', hpost, hsteps⟩ := hK m meth c ⟨T.setVm vm₁, locs, cells, slots⟩ { g with stack := rest } (.invokevirtual index) mk (Value.ref b :: argsL).toArray X₁ hg hsize hdg hW (X₁.named hnamed) (hpre vm₁ X₁.warmed)
  exact ⟨v, vm₁, B, X₁.warmed, X', hpost, fun target h => hstep₁ _ fun acts => by rw [doInvoke_state]; exact hsteps.trans h⟩
abbrev vx_CVW (R : Room) (s : State) (args : Array Value) (own C : String) (index : Nat) (y : MethodName) (bytes : ByteArray) (maxL : Nat) (ret : Option FieldType) (hh : List (Nat × Nat × Nat × Nat)) (ws : List Cond) (rm : Room) (mc ms n : Nat) : Prop :=
  (rm.cells = mc ∧ rm.slots = ms ∧ rm.frames + 1 ≤ R.frames ∧ 8 + (maxL + 11) + rm.locals ≤ R.locals ∧ (∀ w ∈ ws, ∀ (a' : Array Value) (U : State), s.WarmedH U.vm → w.before a' U = true) ∧ Cond.codeWith y bytes maxL ret hh ∈ ws) ∧
  (Cond.codeWith y bytes maxL ret hh).before args s = true ∧ (Cond.initialized y.cls).before args s = true ∧ (y.cls ≠ "java/lang/invoke/MethodHandle" ∧ y.cls ≠ "java/lang/invoke/VarHandle") ∧
  (∀ sig, parseMethodDescriptor y.desc = some sig → n = sig.parameters.length) ∧ (Cond.methodLink own index y).before args s = true ∧ (Cond.instanceMethod y).before args s = true ∧ (Cond.selects C y y).before args s = true
theorem vx_cwVW {own C : String} {index maxL mc ms : Nat} {y : MethodName} {bytes : ByteArray} {ret : Option FieldType} {hh : List (Nat × Nat × Nat × Nat)} {Ts ws ws' : List Cond} {rm : Room} (n : Nat) (ht : ∀ w ∈ Ts, w.before args s = true) (hT : GoodIn Ts (wsV own index C y ws)) (hw : ws = Cond.codeWith y bytes maxL ret hh :: ws') (hrc : rm.cells = mc) (hrs : rm.slots = ms)
    (hd : y.cls = C ∧ y.cls ≠ "java/lang/invoke/MethodHandle" ∧ y.cls ≠ "java/lang/invoke/VarHandle" ∧ (parseMethodDescriptor y.desc).map (fun d => d.parameters.length) = some n) (hR : rm.frames + 1 ≤ R.frames ∧ 8 + (maxL + 11) + rm.locals ≤ R.locals) :
    vx_CVW R s args own C index y bytes maxL ret hh ws rm mc ms n := by
  obtain ⟨hC, hd⟩ := hd
  subst hC
  have ok : ∀ w ∈ wsV own index y.cls y ws, w.before args s = true := fun w h => ht w (hT w h).1
  have hG : GoodIn Ts ws := fun w h => hT w (by unfold wsV; exact List.mem_append_right _ h)
  have hc : Cond.codeWith y bytes maxL ret hh ∈ ws := by rw [hw]; exact List.mem_cons_self
  refine ⟨⟨hrc, hrs, hR.1, hR.2, pay_in ht hG, hc⟩, ht _ (hG _ hc).1, ok _ (by simp [wsV]), ⟨hd.1, hd.2.1⟩, fun sig h => ?_, ok _ (by simp [wsV]), ok _ (by simp [wsV]), ok _ (by simp [wsV])⟩
  have h2 := hd.2.2
  rw [h] at h2
  exact (Option.some.inj h2).symm
theorem vx_runVW {y : MethodName} {bytes cc : ByteArray} {maxL nL mc ms n index : Nat} {ret : Option FieldType} {hh : List (Nat × Nat × Nat × Nat)} {ws : List Cond} {rm : Room} {Pc : Array Value → State → Prop} {Qc : Array Value → State → Outcome → State → Prop} {free : Addr → Prop} {Ts : List Cond} {own C : String} {b : Addr} {As rest : List Value} {g : JFrame}
    (S : CallFix p m c cc nL s args Ts own) (hM : Met l y ws rm Pc Qc mc ms free) (cw : vx_CVW R s args own C index y bytes maxL ret hh ws rm mc ms n) (hp : PreV s H C b Pc As)
    (hg : g.method = m) (hn : As.length = n) (hsize : g.locals.size = nL) (hstack : g.stack = As.reverse ++ .ref b :: rest) (hW : 2 * g.monitorRoom + (rest.map fun v => v.category).sum ≤ 8) (hdg : decode cc g.pc = .ok (.invokevirtual index, 3)) (hf : cells + mc ≤ R.cells ∧ slots + ms ≤ R.slots) :
    va_Run p l e R s m args below meth c H locs cells slots mc ms g rest (Qc (Value.ref b :: As).toArray) free := by
  obtain ⟨⟨hrc, hrs, hfr, hlo, hws, hcw⟩, hcode, hini, hy, hlen, hl, hin, hse⟩ := cw
  have hK : Back l R p e below s args y 3 8 (PreOf R mc ms Pc) (PostOf Qc mc ms free) := va_backW (hh := hh) (bytes := bytes) (maxL := maxL) (ret := ret) hM hp.1 hrc hrs hfr hlo hws hcw (fun a' U hW => word_at hW (Or.inl (by first | rfl | simp [Cond.onTables, Cond.keeps, Cond.steady])) hini)
  obtain ⟨hx, hb, hml, ho, -⟩ := S
  obtain ⟨-, ⟨cellB, hcB, hoB, hclB⟩, hPc⟩ := hp
  intro T hT X
  obtain ⟨v, vm₁, ⟨U', l2, c2, s2⟩, hW₁, X', ⟨g', mk, t, L, e1, e2, hq, h1, hL, h2, h3⟩, st⟩ := vx_callVW X hx (C := C) (hh := hh) (bytes := bytes) (maxL := maxL) (ret := ret) ho hl hin hse hcode hy hK (by rw [hT]; exact hcB) hoB hclB hg (hsize.trans hml.symm) (argsL := As) (rest := rest) (fun sig h => hn.trans (hlen sig h)) hstack hW (by rw [hb]; exact hdg)
    (fun vm₁ hW₁ => ⟨hf.1, hf.2, hPc (T.setVm vm₁) hT hW₁⟩)
  dsimp only [Pt.U, Pt.locs, Pt.cells, Pt.slots] at X' e1 e2 h1 h2 h3 st
  subst h1; subst h2; subst h3
  exact ⟨v, (T.setVm vm₁).calling g' mk (Value.ref b :: As).toArray, t, U', L, hT, X', hL, e1, e2, hq, st⟩
section
variable {y : MethodName} {bytes cc : ByteArray} {maxL nL mc ms n index : Nat} {ret : Option FieldType} {ws : List Cond} {rm : Room} {Pc : Array Value → State → Prop} {Qc : Array Value → State → Outcome → State → Prop} {XC : String → State → State → Prop} {free : Addr → Prop} {Ts : List Cond} {own C : String} {b : Addr} {As rest : List Value} {g : JFrame}
theorem vx_runVX {hh : List (Nat × Nat × Nat × Nat)} (S : CallFix p m c cc nL s args Ts own) (hM : vx_Met l y ws rm Pc Qc XC mc ms free) (cw : vx_CVW R s args own C index y bytes maxL ret hh ws rm mc ms n) (hp : PreV s H C b Pc As)
    (hg : g.method = m) (hn : As.length = n) (hsize : g.locals.size = nL) (hstack : g.stack = As.reverse ++ .ref b :: rest) (hW : 2 * g.monitorRoom + (rest.map fun v => v.category).sum ≤ 8) (hdg : decode cc g.pc = .ok (.invokevirtual index, 3)) (hf : cells + mc ≤ R.cells ∧ slots + ms ≤ R.slots) :
    vx_Run p l e R s m args below meth c H locs cells slots mc ms g rest (Qc (Value.ref b :: As).toArray) XC free := by
  obtain ⟨⟨hrc, hrs, hfr, hlo, hws, hcw⟩, hcode, hini, hy, hlen, hl, hin, hse⟩ := cw
  have hK : vx_Back l R p e below s args y 3 8 (PreOf R mc ms Pc) (PostOf Qc mc ms free) (vx_Post XC mc ms free) := vx_backW (hh := hh) (bytes := bytes) (maxL := maxL) (ret := ret) hM hp.1 hrc hrs hfr hlo hws hcw (fun a' U hW => word_at hW (Or.inl (by first | rfl | simp [Cond.onTables, Cond.keeps, Cond.steady])) hini)
  obtain ⟨hx, hb, hml, ho, -⟩ := S
  obtain ⟨-, ⟨cellB, hcB, hoB, hclB⟩, hPc⟩ := hp
  intro T hT X
  rcases vx_callVX X hx (C := C) (hh := hh) (bytes := bytes) (maxL := maxL) (ret := ret) ho hl hin hse hcode hy hK (by rw [hT]; exact hcB) hoB hclB hg (hsize.trans hml.symm) (argsL := As) (rest := rest) (fun sig h => hn.trans (hlen sig h)) hstack hW (by rw [hb]; exact hdg)
    (fun vm₁ hW₁ => ⟨hf.1, hf.2, hPc (T.setVm vm₁) hT hW₁⟩) with ⟨v, vm₁, ⟨U', l2, c2, s2⟩, hW₁, X', ⟨g', mk, t, L, e1, e2, hq, h1, hL, h2, h3⟩, st⟩ | ⟨q, vm₁, ⟨U', l2, c2, s2⟩, hW₁, X', ⟨g', mk, t, L, E, ce, e1, e2, hq, hce, hcv, hcl, h1, hL, h2, h3⟩, st⟩
  · dsimp only [Pt.U, Pt.locs, Pt.cells, Pt.slots] at X' e1 e2 h1 h2 h3 st
    subst h1; subst h2; subst h3
    exact Or.inl ⟨v, (T.setVm vm₁).calling g' mk (Value.ref b :: As).toArray, t, U', L, hT, X', hL, e1, e2, hq, st⟩
  · dsimp only [Pt.U, Pt.locs, Pt.cells, Pt.slots] at X' e1 e2 h1 h2 h3 st hcl
    subst h1; subst h2; subst h3
    exact Or.inr ⟨q, (T.setVm vm₁).calling g' mk (Value.ref b :: As).toArray, t, U', L, E, ce, hT, X', hL, e1, e2, hq, hce, hcv, vx_cls hW₁ hcl, st⟩
theorem vx_runSX {hh : List (Nat × Nat × Nat × Nat)} (S : CallFix p m c cc nL s args Ts own) (hM : vx_Met l y ws rm Pc Qc XC mc ms free) (cw : vx_CSW R s args own index y bytes maxL ret hh ws rm mc ms n) (hp : PreS s H Pc As)
    (hg : g.method = m) (hn : As.length = n) (hsize : g.locals.size = nL) (hstack : g.stack = As.reverse ++ rest) (hW : 2 * g.monitorRoom + (rest.map fun v => v.category).sum ≤ 8) (hdg : decode cc g.pc = .ok (.invokestatic index, 3)) (hf : cells + mc ≤ R.cells ∧ slots + ms ≤ R.slots) :
    vx_Run p l e R s m args below meth c H locs cells slots mc ms g rest (Qc As.toArray) XC free := by
  obtain ⟨⟨hrc, hrs, hfr, hlo, hws, hcw⟩, hcode, hini, hy, hlen, hl, hstt⟩ := cw
  have hK : vx_Back l R p e below s args y 3 8 (PreOf R mc ms Pc) (PostOf Qc mc ms free) (vx_Post XC mc ms free) := vx_backW (hh := hh) (bytes := bytes) (maxL := maxL) (ret := ret) hM hp.1 hrc hrs hfr hlo hws hcw (fun a' U hW => word_at hW (Or.inl (by first | rfl | simp [Cond.onTables, Cond.keeps, Cond.steady])) hini)
  obtain ⟨hx, hb, hml, ho, -⟩ := S
  intro T hT X
  rcases vx_callSX X hx (hh := hh) (bytes := bytes) (maxL := maxL) (ret := ret) ho hl hstt hini hcode hy hK hg (hsize.trans hml.symm) (argsL := As) (rest := rest) (fun sig h => hn.trans (hlen sig h)) hstack hW (by rw [hb]; exact hdg)
    (fun vm₁ hW₁ => ⟨hf.1, hf.2, hp.2 (T.setVm vm₁) hT hW₁⟩) with ⟨v, vm₁, ⟨U', l2, c2, s2⟩, hW₁, X', ⟨g', mk, t, L, e1, e2, hq, h1, hL, h2, h3⟩, st⟩ | ⟨q, vm₁, ⟨U', l2, c2, s2⟩, hW₁, X', ⟨g', mk, t, L, E, ce, e1, e2, hq, hce, hcv, hcl, h1, hL, h2, h3⟩, st⟩
  · dsimp only [Pt.U, Pt.locs, Pt.cells, Pt.slots] at X' e1 e2 h1 h2 h3 st
    subst h1; subst h2; subst h3
    exact Or.inl ⟨v, (T.setVm vm₁).calling g' mk As.toArray, t, U', L, hT, X', hL, e1, e2, hq, st⟩
  · dsimp only [Pt.U, Pt.locs, Pt.cells, Pt.slots] at X' e1 e2 h1 h2 h3 st hcl
    subst h1; subst h2; subst h3
    exact Or.inr ⟨q, (T.setVm vm₁).calling g' mk As.toArray, t, U', L, E, ce, hT, X', hL, e1, e2, hq, hce, hcv, vx_cls hW₁ hcl, st⟩
end
end VXH
theorem vx_ofWH {l : Launch} {y : MethodName} {ws ws' : List Cond} {rm : Room} {Pc : Array Value → State → Prop} {Qc : Array Value → State → Outcome → State → Prop} {XC : String → State → State → Prop} {mc ms : Nat} {free : Addr → Prop} {cc : ByteArray} {maxL : Nat} {ret : Option FieldType} {hh : List (Nat × Nat × Nat × Nat)}
    (hy : plainName y.cls = true) (hw : ws = Cond.codeWith y cc maxL ret hh :: ws')
    (body : ∀ p e s m args below meth c s₁, BodyLoose p l y (headSpec ws rm) cc maxL ret e s m args below meth c s₁ → c.maxLocals = maxL → Pc args s →
      W p l e (headSpec ws rm).room s m args below meth c s.heap [] 0 0 (vx_MQ below Qc XC args s mc ms free) (entryFrame m args maxL)) : vx_Met l y ws rm Pc Qc XC mc ms free := by
  refine MetFree.of_bodyS (code := cc) (maxLocals := maxL) (ret := ret) hy ?_ ?_
  · intro args s m h hn
    obtain ⟨m9, meth, c, hn9, h1, h2, h3, h4, -, h5, h6, -⟩ := Cond.codeWith_spec (atoms_spec (ws := ws) h _ (by rw [hw]; exact List.mem_cons_self))
    cases hn.symm.trans hn9
    exact ⟨meth, c, h1, h2, h3, h4, h5, h6⟩
  · intro p e s m args below meth c s₁ B hml hP _
    have hh0 : s₁.heap = s.heap := by rw [B.state]; rfl
    obtain ⟨t, a1, o, b1, b2, b3⟩ := body p e s m args below meth c s₁ B hml hP s₁ hh0 (Stand.of_body B)
    exact ⟨t, o, a1, b1, b2, b3⟩
/-! ===== END ===== -/

/-! ===== BEGIN printed: names, fields, word lists, decode rows ===== -/
def RX0 : String := "InkHall$Marks"
def TX0 : u_T := fun k => match k with
  | 0 => ("InkHall$Marks", "examiners", "[I", true)
  | 1 => ("InkHall$Marks", "values", "[I", true)
  | _ => ("InkHall$Marks", "count", "I", false)
def tyX0 : Nat → FieldType := fun k => match k with
  | 0 => .array .int
  | 1 => .array .int
  | _ => .int
abbrev wsX00 : List Cond := u_ws RX0 TX0 3
theorem nmX0 : ∀ a, a < 3 → ∀ b, b < 3 → a ≠ b → (TX0 a).2.1 ≠ (TX0 b).2.1 := by decide +kernel
theorem tyX0_ok : ∀ k, k < 3 → parseFieldDescriptor (TX0 k).2.2.1 = some (tyX0 k) := by decide +kernel
abbrev cX0_init : ByteArray := prog_2_method_1_code
def yX0_init : MethodName := ⟨RX0, "<init>", "()V"⟩
abbrev cX0_size : ByteArray := prog_2_method_2_code
def yX0_size : MethodName := ⟨RX0, "size", "()I"⟩
abbrev cX0_hasOneOf : ByteArray := prog_2_method_3_code
def yX0_hasOneOf : MethodName := ⟨RX0, "hasOneOf", "(I)Z"⟩
abbrev cX0_add : ByteArray := prog_2_method_4_code
def yX0_add : MethodName := ⟨RX0, "add", "(II)V"⟩
abbrev cX0_removeOf : ByteArray := prog_2_method_5_code
def yX0_removeOf : MethodName := ⟨RX0, "removeOf", "(I)V"⟩
abbrev cX0_lacking : ByteArray := prog_2_method_6_code
def yX0_lacking : MethodName := ⟨RX0, "lacking", "()I"⟩
abbrev cX0_result : ByteArray := prog_2_method_7_code
def yX0_result : MethodName := ⟨RX0, "result", "()I"⟩
def RX1 : String := "InkHall$Press"
def TX1 : u_T := fun k => match k with
  | 0 => ("InkHall$Press", "forLeft", "[I", true)
  | _ => ("InkHall$Press", "forRight", "[I", true)
def tyX1 : Nat → FieldType := fun k => match k with
  | 0 => .array .int
  | _ => .array .int
abbrev wsX10 : List Cond := u_ws RX1 TX1 2
theorem nmX1 : ∀ a, a < 2 → ∀ b, b < 2 → a ≠ b → (TX1 a).2.1 ≠ (TX1 b).2.1 := by decide +kernel
theorem tyX1_ok : ∀ k, k < 2 → parseFieldDescriptor (TX1 k).2.2.1 = some (tyX1 k) := by decide +kernel
abbrev cX1_init : ByteArray := prog_3_method_1_code
def yX1_init : MethodName := ⟨RX1, "<init>", "()V"⟩
abbrev cX1_countOf : ByteArray := prog_3_method_2_code
def yX1_countOf : MethodName := ⟨RX1, "countOf", "(IZ)I"⟩
abbrev cX1_add : ByteArray := prog_3_method_3_code
def yX1_add : MethodName := ⟨RX1, "add", "(IZI)V"⟩
abbrev cX1_bandFor : ByteArray := prog_3_method_4_code
def yX1_bandFor : MethodName := ⟨RX1, "bandFor", "(IZ)I"⟩
def RX2 : String := "InkHall$Pupil"
def TX2 : u_T := fun k => match k with
  | 0 => ("InkHall$Pupil", "group", "I", true)
  | 1 => ("InkHall$Pupil", "band", "I", true)
  | _ => ("InkHall$Pupil", "isLeft", "Z", true)
def tyX2 : Nat → FieldType := fun k => match k with
  | 0 => .int
  | 1 => .int
  | _ => .boolean
abbrev wsX20 : List Cond := u_ws RX2 TX2 3
theorem nmX2 : ∀ a, a < 3 → ∀ b, b < 3 → a ≠ b → (TX2 a).2.1 ≠ (TX2 b).2.1 := by decide +kernel
theorem tyX2_ok : ∀ k, k < 3 → parseFieldDescriptor (TX2 k).2.2.1 = some (tyX2 k) := by decide +kernel
abbrev cX2_init : ByteArray := prog_4_method_1_code
def yX2_init : MethodName := ⟨RX2, "<init>", "(IIZ)V"⟩
def RX3 : String := "InkHall$Script"
def TX3 : u_T := fun k => match k with
  | 0 => ("InkHall$Script", "group", "I", true)
  | 1 => ("InkHall$Script", "marks", "LInkHall$Marks;", true)
  | 2 => ("InkHall$Script", "isShown", "Z", false)
  | 3 => ("InkHall$Script", "slipCounts", "[I", true)
  | 4 => ("InkHall$Script", "points", "[I", true)
  | 5 => ("InkHall$Script", "ranks", "[I", true)
  | _ => ("InkHall$Script", "rankCount", "I", false)
def tyX3 : Nat → FieldType := fun k => match k with
  | 0 => .int
  | 1 => .object "InkHall$Marks"
  | 2 => .boolean
  | 3 => .array .int
  | 4 => .array .int
  | 5 => .array .int
  | _ => .int
abbrev wsX30 : List Cond := u_ws RX3 TX3 7
theorem nmX3 : ∀ a, a < 7 → ∀ b, b < 7 → a ≠ b → (TX3 a).2.1 ≠ (TX3 b).2.1 := by decide +kernel
theorem tyX3_ok : ∀ k, k < 7 → parseFieldDescriptor (TX3 k).2.2.1 = some (tyX3 k) := by decide +kernel
abbrev cX3_init : ByteArray := prog_5_method_1_code
def yX3_init : MethodName := ⟨RX3, "<init>", "(I)V"⟩
abbrev cX3_compare : ByteArray := prog_5_method_2_code
def yX3_compare : MethodName := ⟨RX3, "compare", "(LInkHall$Strokes;LInkHall$Strokes;)V"⟩
abbrev cX3_addRank : ByteArray := prog_5_method_3_code
def yX3_addRank : MethodName := ⟨RX3, "addRank", "(I)V"⟩
abbrev cX3_addWrongRuling : ByteArray := prog_5_method_4_code
def yX3_addWrongRuling : MethodName := ⟨RX3, "addWrongRuling", "()V"⟩
abbrev cX3_longestRise : ByteArray := prog_5_method_5_code
def yX3_longestRise : MethodName := ⟨RX3, "longestRise", "()I"⟩
abbrev cX3_fewestLeftOut : ByteArray := prog_5_method_6_code
def yX3_fewestLeftOut : MethodName := ⟨RX3, "fewestLeftOut", "()I"⟩
abbrev cX3_isInOrderWithout : ByteArray := prog_5_method_7_code
def yX3_isInOrderWithout : MethodName := ⟨RX3, "isInOrderWithout", "(I)Z"⟩
abbrev cX3_slipsOf : ByteArray := prog_5_method_8_code
def yX3_slipsOf : MethodName := ⟨RX3, "slipsOf", "(I)I"⟩
abbrev cX3_allSlips : ByteArray := prog_5_method_9_code
def yX3_allSlips : MethodName := ⟨RX3, "allSlips", "()I"⟩
abbrev cX3_setPoints : ByteArray := prog_5_method_10_code
def yX3_setPoints : MethodName := ⟨RX3, "setPoints", "(II)V"⟩
abbrev cX3_allPoints : ByteArray := prog_5_method_11_code
def yX3_allPoints : MethodName := ⟨RX3, "allPoints", "()I"⟩
abbrev cX3_worthNow : ByteArray := prog_5_method_12_code
def yX3_worthNow : MethodName := ⟨RX3, "worthNow", "()I"⟩
def RX4 : String := "InkHall$Strokes"
def TX4 : u_T := fun k => match k with
  | 0 => ("InkHall$Strokes", "codes", "[I", true)
  | _ => ("InkHall$Strokes", "count", "I", false)
def tyX4 : Nat → FieldType := fun k => match k with
  | 0 => .array .int
  | _ => .int
abbrev wsX40 : List Cond := u_ws RX4 TX4 2
theorem nmX4 : ∀ a, a < 2 → ∀ b, b < 2 → a ≠ b → (TX4 a).2.1 ≠ (TX4 b).2.1 := by decide +kernel
theorem tyX4_ok : ∀ k, k < 2 → parseFieldDescriptor (TX4 k).2.2.1 = some (tyX4 k) := by decide +kernel
abbrev cX4_init : ByteArray := prog_6_method_1_code
def yX4_init : MethodName := ⟨RX4, "<init>", "()V"⟩
abbrev cX4_codeOf : ByteArray := prog_6_method_2_code
def yX4_codeOf : MethodName := ⟨RX4, "codeOf", "(II)I"⟩
abbrev cX4_turnedRound : ByteArray := prog_6_method_3_code
def yX4_turnedRound : MethodName := ⟨RX4, "turnedRound", "(I)I"⟩
abbrev cX4_size : ByteArray := prog_6_method_4_code
def yX4_size : MethodName := ⟨RX4, "size", "()I"⟩
abbrev cX4_codeAt : ByteArray := prog_6_method_5_code
def yX4_codeAt : MethodName := ⟨RX4, "codeAt", "(I)I"⟩
abbrev cX4_add : ByteArray := prog_6_method_6_code
def yX4_add : MethodName := ⟨RX4, "add", "(I)V"⟩
abbrev cX4_addAll : ByteArray := prog_6_method_7_code
def yX4_addAll : MethodName := ⟨RX4, "addAll", "(LInkHall$Strokes;)V"⟩
abbrev cX4_clear : ByteArray := prog_6_method_8_code
def yX4_clear : MethodName := ⟨RX4, "clear", "()V"⟩
abbrev cX4_firstOnLineOf : ByteArray := prog_6_method_9_code
def yX4_firstOnLineOf : MethodName := ⟨RX4, "firstOnLineOf", "(I)I"⟩
abbrev cX4_hasLineTwice : ByteArray := prog_6_method_10_code
def yX4_hasLineTwice : MethodName := ⟨RX4, "hasLineTwice", "()Z"⟩
def RX5 : String := "InkHall"
def TX5 : u_T := fun k => match k with
  | 0 => ("InkHall", "pen", "LInkHall$Strokes;", true)
  | 1 => ("InkHall", "press", "LInkHall$Press;", true)
  | 2 => ("InkHall", "letters", "Ljava/util/ArrayList;", true)
  | 3 => ("InkHall", "pupils", "Ljava/util/ArrayList;", true)
  | 4 => ("InkHall", "scripts", "Ljava/util/ArrayList;", true)
  | _ => ("InkHall", "isOut", "[Z", true)
def tyX5 : Nat → FieldType := fun k => match k with
  | 0 => .object "InkHall$Strokes"
  | 1 => .object "InkHall$Press"
  | 2 => .object "java/util/ArrayList"
  | 3 => .object "java/util/ArrayList"
  | 4 => .object "java/util/ArrayList"
  | _ => .array .boolean
abbrev wsX50 : List Cond := u_ws RX5 TX5 6
theorem nmX5 : ∀ a, a < 6 → ∀ b, b < 6 → a ≠ b → (TX5 a).2.1 ≠ (TX5 b).2.1 := by decide +kernel
theorem tyX5_ok : ∀ k, k < 6 → parseFieldDescriptor (TX5 k).2.2.1 = some (tyX5 k) := by decide +kernel
abbrev cX5_init : ByteArray := prog_1_method_1_code
def yX5_init : MethodName := ⟨RX5, "<init>", "()V"⟩
abbrev cX5_stroke : ByteArray := prog_1_method_2_code
def yX5_stroke : MethodName := ⟨RX5, "stroke", "(II)I"⟩
abbrev cX5_lift : ByteArray := prog_1_method_3_code
def yX5_lift : MethodName := ⟨RX5, "lift", "()I"⟩
abbrev cX5_letter : ByteArray := prog_1_method_4_code
def yX5_letter : MethodName := ⟨RX5, "letter", "()I"⟩
abbrev cX5_strokeOf : ByteArray := prog_1_method_5_code
def yX5_strokeOf : MethodName := ⟨RX5, "strokeOf", "(II)I"⟩
abbrev cX5_pupil : ByteArray := prog_1_method_6_code
def yX5_pupil : MethodName := ⟨RX5, "pupil", "(IIZ)I"⟩
abbrev cX5_print : ByteArray := prog_1_method_7_code
def yX5_print : MethodName := ⟨RX5, "print", "(IZI)I"⟩
abbrev cX5_sheets : ByteArray := prog_1_method_8_code
def yX5_sheets : MethodName := ⟨RX5, "sheets", "(IZ)I"⟩
abbrev cX5_write : ByteArray := prog_1_method_9_code
def yX5_write : MethodName := ⟨RX5, "write", "(II)I"⟩
abbrev cX5_slips : ByteArray := prog_1_method_10_code
def yX5_slips : MethodName := ⟨RX5, "slips", "(II)I"⟩
abbrev cX5_orderAnew : ByteArray := prog_1_method_11_code
def yX5_orderAnew : MethodName := ⟨RX5, "orderAnew", "(I)I"⟩
abbrev cX5_mark : ByteArray := prog_1_method_12_code
def yX5_mark : MethodName := ⟨RX5, "mark", "(III)I"⟩
abbrev cX5_grade : ByteArray := prog_1_method_13_code
def yX5_grade : MethodName := ⟨RX5, "grade", "(I)I"⟩
abbrev cX5_lacks : ByteArray := prog_1_method_14_code
def yX5_lacks : MethodName := ⟨RX5, "lacks", "(I)I"⟩
abbrev cX5_takeOut : ByteArray := prog_1_method_15_code
def yX5_takeOut : MethodName := ⟨RX5, "takeOut", "(I)I"⟩
abbrev cX5_show : ByteArray := prog_1_method_16_code
def yX5_show : MethodName := ⟨RX5, "show", "(I)I"⟩
abbrev cX5_vote : ByteArray := prog_1_method_17_code
def yX5_vote : MethodName := ⟨RX5, "vote", "(III)I"⟩
abbrev cX5_worth : ByteArray := prog_1_method_18_code
def yX5_worth : MethodName := ⟨RX5, "worth", "(I)I"⟩
abbrev cX5_place : ByteArray := prog_1_method_19_code
def yX5_place : MethodName := ⟨RX5, "place", "(I)I"⟩
abbrev cX5_at : ByteArray := prog_1_method_20_code
def yX5_at : MethodName := ⟨RX5, "at", "(I)I"⟩
abbrev cX5_checkDot : ByteArray := prog_1_method_21_code
def yX5_checkDot : MethodName := ⟨RX5, "checkDot", "(I)V"⟩
abbrev cX5_checkClass : ByteArray := prog_1_method_22_code
def yX5_checkClass : MethodName := ⟨RX5, "checkClass", "(I)V"⟩
abbrev cX5_checkBand : ByteArray := prog_1_method_23_code
def yX5_checkBand : MethodName := ⟨RX5, "checkBand", "(I)V"⟩
abbrev cX5_checkExaminer : ByteArray := prog_1_method_24_code
def yX5_checkExaminer : MethodName := ⟨RX5, "checkExaminer", "(I)V"⟩
abbrev cX5_letterNumbered : ByteArray := prog_1_method_25_code
def yX5_letterNumbered : MethodName := ⟨RX5, "letterNumbered", "(I)LInkHall$Strokes;"⟩
abbrev cX5_pupilNumbered : ByteArray := prog_1_method_26_code
def yX5_pupilNumbered : MethodName := ⟨RX5, "pupilNumbered", "(I)LInkHall$Pupil;"⟩
abbrev cX5_scriptNumbered : ByteArray := prog_1_method_27_code
def yX5_scriptNumbered : MethodName := ⟨RX5, "scriptNumbered", "(I)LInkHall$Script;"⟩
abbrev cX5_bandOf : ByteArray := prog_1_method_28_code
def yX5_bandOf : MethodName := ⟨RX5, "bandOf", "(I)I"⟩
abbrev cX5_shownCount : ByteArray := prog_1_method_29_code
def yX5_shownCount : MethodName := ⟨RX5, "shownCount", "()I"⟩
abbrev cX5_placeNow : ByteArray := prog_1_method_30_code
def yX5_placeNow : MethodName := ⟨RX5, "placeNow", "(II)I"⟩
def RX6 : String := "InkHallModel"
def TX6 : u_T := fun k => match k with
  | 0 => ("InkHallModel", "pen", "[I", true)
  | 1 => ("InkHallModel", "onPen", "I", false)
  | 2 => ("InkHallModel", "letters", "I", false)
  | 3 => ("InkHallModel", "strokes", "[I", true)
  | 4 => ("InkHallModel", "strokesOf", "[I", true)
  | 5 => ("InkHallModel", "pupils", "I", false)
  | 6 => ("InkHallModel", "group", "[I", true)
  | 7 => ("InkHallModel", "age", "[I", true)
  | 8 => ("InkHallModel", "isLeftHand", "[Z", true)
  | 9 => ("InkHallModel", "sheets", "[I", true)
  | 10 => ("InkHallModel", "scripts", "I", false)
  | 11 => ("InkHallModel", "drawn", "[I", true)
  | 12 => ("InkHallModel", "drawnOf", "[I", true)
  | 13 => ("InkHallModel", "writer", "[I", true)
  | 14 => ("InkHallModel", "letterOf", "[I", true)
  | 15 => ("InkHallModel", "isRuledWrong", "[Z", true)
  | 16 => ("InkHallModel", "marks", "[I", true)
  | 17 => ("InkHallModel", "markers", "[I", true)
  | 18 => ("InkHallModel", "marksOf", "[I", true)
  | 19 => ("InkHallModel", "isOut", "[Z", true)
  | 20 => ("InkHallModel", "isShown", "[Z", true)
  | 21 => ("InkHallModel", "points", "[I", true)
  | 22 => ("InkHallModel", "thrown", "I", false)
  | _ => ("InkHallModel", "longest", "[I", true)
def tyX6 : Nat → FieldType := fun k => match k with
  | 0 => .array .int
  | 1 => .int
  | 2 => .int
  | 3 => .array .int
  | 4 => .array .int
  | 5 => .int
  | 6 => .array .int
  | 7 => .array .int
  | 8 => .array .boolean
  | 9 => .array .int
  | 10 => .int
  | 11 => .array .int
  | 12 => .array .int
  | 13 => .array .int
  | 14 => .array .int
  | 15 => .array .boolean
  | 16 => .array .int
  | 17 => .array .int
  | 18 => .array .int
  | 19 => .array .boolean
  | 20 => .array .boolean
  | 21 => .array .int
  | 22 => .int
  | _ => .array .int
abbrev wsX60 : List Cond := u_ws RX6 TX6 24
theorem nmX6 : ∀ a, a < 24 → ∀ b, b < 24 → a ≠ b → (TX6 a).2.1 ≠ (TX6 b).2.1 := by decide +kernel
theorem tyX6_ok : ∀ k, k < 24 → parseFieldDescriptor (TX6 k).2.2.1 = some (tyX6 k) := by decide +kernel
abbrev cX6_init : ByteArray := prog_8_method_1_code
def yX6_init : MethodName := ⟨RX6, "<init>", "()V"⟩
abbrev cX6_thrown : ByteArray := prog_8_method_2_code
def yX6_thrown : MethodName := ⟨RX6, "thrown", "()I"⟩
abbrev cX6_fails : ByteArray := prog_8_method_3_code
def yX6_fails : MethodName := ⟨RX6, "fails", "(I)I"⟩
abbrev cX6_asks : ByteArray := prog_8_method_4_code
def yX6_asks : MethodName := ⟨RX6, "asks", "(Z)Z"⟩
abbrev cX6_in : ByteArray := prog_8_method_5_code
def yX6_in : MethodName := ⟨RX6, "in", "(III)Z"⟩
abbrev cX6_isScript : ByteArray := prog_8_method_6_code
def yX6_isScript : MethodName := ⟨RX6, "isScript", "(I)Z"⟩
abbrev cX6_areOneLine : ByteArray := prog_8_method_7_code
def yX6_areOneLine : MethodName := ⟨RX6, "areOneLine", "(II)Z"⟩
abbrev cX6_stroke : ByteArray := prog_8_method_8_code
def yX6_stroke : MethodName := ⟨RX6, "stroke", "(II)I"⟩
abbrev cX6_lift : ByteArray := prog_8_method_9_code
def yX6_lift : MethodName := ⟨RX6, "lift", "()I"⟩
abbrev cX6_letter : ByteArray := prog_8_method_10_code
def yX6_letter : MethodName := ⟨RX6, "letter", "()I"⟩
abbrev cX6_isLetter : ByteArray := prog_8_method_11_code
def yX6_isLetter : MethodName := ⟨RX6, "isLetter", "(I)Z"⟩
abbrev cX6_strokeOf : ByteArray := prog_8_method_12_code
def yX6_strokeOf : MethodName := ⟨RX6, "strokeOf", "(II)I"⟩
abbrev cX6_pupil : ByteArray := prog_8_method_13_code
def yX6_pupil : MethodName := ⟨RX6, "pupil", "(IIZ)I"⟩
abbrev cX6_stack : ByteArray := prog_8_method_14_code
def yX6_stack : MethodName := ⟨RX6, "stack", "(IZ)I"⟩
abbrev cX6_isBand : ByteArray := prog_8_method_15_code
def yX6_isBand : MethodName := ⟨RX6, "isBand", "(I)Z"⟩
abbrev cX6_print : ByteArray := prog_8_method_16_code
def yX6_print : MethodName := ⟨RX6, "print", "(IZI)I"⟩
abbrev cX6_sheets : ByteArray := prog_8_method_17_code
def yX6_sheets : MethodName := ⟨RX6, "sheets", "(IZ)I"⟩
abbrev cX6_bandOf : ByteArray := prog_8_method_18_code
def yX6_bandOf : MethodName := ⟨RX6, "bandOf", "(I)I"⟩
abbrev cX6_write : ByteArray := prog_8_method_19_code
def yX6_write : MethodName := ⟨RX6, "write", "(II)I"⟩
abbrev cX6_strokeOn : ByteArray := prog_8_method_20_code
def yX6_strokeOn : MethodName := ⟨RX6, "strokeOn", "(II)I"⟩
abbrev cX6_counts : ByteArray := prog_8_method_21_code
def yX6_counts : MethodName := ⟨RX6, "counts", "(II)Z"⟩
abbrev cX6_counting : ByteArray := prog_8_method_22_code
def yX6_counting : MethodName := ⟨RX6, "counting", "(I)I"⟩
abbrev cX6_turned : ByteArray := prog_8_method_23_code
def yX6_turned : MethodName := ⟨RX6, "turned", "(I)I"⟩
abbrev cX6_inOrder : ByteArray := prog_8_method_24_code
def yX6_inOrder : MethodName := ⟨RX6, "inOrder", "(I)I"⟩
abbrev cX6_slipsOf : ByteArray := prog_8_method_25_code
def yX6_slipsOf : MethodName := ⟨RX6, "slipsOf", "(II)I"⟩
abbrev cX6_allSlips : ByteArray := prog_8_method_26_code
def yX6_allSlips : MethodName := ⟨RX6, "allSlips", "(I)I"⟩
abbrev cX6_slips : ByteArray := prog_8_method_27_code
def yX6_slips : MethodName := ⟨RX6, "slips", "(II)I"⟩
abbrev cX6_orderAnew : ByteArray := prog_8_method_28_code
def yX6_orderAnew : MethodName := ⟨RX6, "orderAnew", "(I)I"⟩
abbrev cX6_lacking : ByteArray := prog_8_method_29_code
def yX6_lacking : MethodName := ⟨RX6, "lacking", "(I)I"⟩
abbrev cX6_gradeOf : ByteArray := prog_8_method_30_code
def yX6_gradeOf : MethodName := ⟨RX6, "gradeOf", "(I)I"⟩
abbrev cX6_isExaminer : ByteArray := prog_8_method_31_code
def yX6_isExaminer : MethodName := ⟨RX6, "isExaminer", "(I)Z"⟩
abbrev cX6_hasMarked : ByteArray := prog_8_method_32_code
def yX6_hasMarked : MethodName := ⟨RX6, "hasMarked", "(II)Z"⟩
abbrev cX6_mark : ByteArray := prog_8_method_33_code
def yX6_mark : MethodName := ⟨RX6, "mark", "(III)I"⟩
abbrev cX6_grade : ByteArray := prog_8_method_34_code
def yX6_grade : MethodName := ⟨RX6, "grade", "(I)I"⟩
abbrev cX6_lacks : ByteArray := prog_8_method_35_code
def yX6_lacks : MethodName := ⟨RX6, "lacks", "(I)I"⟩
abbrev cX6_dropsMarks : ByteArray := prog_8_method_36_code
def yX6_dropsMarks : MethodName := ⟨RX6, "dropsMarks", "(II)V"⟩
abbrev cX6_takeOut : ByteArray := prog_8_method_37_code
def yX6_takeOut : MethodName := ⟨RX6, "takeOut", "(I)I"⟩
abbrev cX6_show : ByteArray := prog_8_method_38_code
def yX6_show : MethodName := ⟨RX6, "show", "(I)I"⟩
abbrev cX6_pointsOf : ByteArray := prog_8_method_39_code
def yX6_pointsOf : MethodName := ⟨RX6, "pointsOf", "(I)I"⟩
abbrev cX6_vote : ByteArray := prog_8_method_40_code
def yX6_vote : MethodName := ⟨RX6, "vote", "(III)I"⟩
abbrev cX6_worthOf : ByteArray := prog_8_method_41_code
def yX6_worthOf : MethodName := ⟨RX6, "worthOf", "(I)I"⟩
abbrev cX6_placeOf : ByteArray := prog_8_method_42_code
def yX6_placeOf : MethodName := ⟨RX6, "placeOf", "(I)I"⟩
abbrev cX6_worth : ByteArray := prog_8_method_43_code
def yX6_worth : MethodName := ⟨RX6, "worth", "(I)I"⟩
abbrev cX6_place : ByteArray := prog_8_method_44_code
def yX6_place : MethodName := ⟨RX6, "place", "(I)I"⟩
abbrev cX6_at : ByteArray := prog_8_method_45_code
def yX6_at : MethodName := ⟨RX6, "at", "(I)I"⟩
def RJx145de : String := "java/io/Serializable"
def TJx145de : u_T := fun k => match k with
  | _ => ("", "", "", false)
def tyJx145de : Nat → FieldType := fun k => match k with
  | _ => .int
abbrev wsJx145de0 : List Cond := u_ws RJx145de TJx145de 0
theorem nmJx145de : ∀ a, a < 0 → ∀ b, b < 0 → a ≠ b → (TJx145de a).2.1 ≠ (TJx145de b).2.1 := by decide +kernel
theorem tyJx145de_ok : ∀ k, k < 0 → parseFieldDescriptor (TJx145de k).2.2.1 = some (tyJx145de k) := by decide +kernel
def RJx8e188 : String := "java/lang/Cloneable"
def TJx8e188 : u_T := fun k => match k with
  | _ => ("", "", "", false)
def tyJx8e188 : Nat → FieldType := fun k => match k with
  | _ => .int
abbrev wsJx8e1880 : List Cond := u_ws RJx8e188 TJx8e188 0
theorem nmJx8e188 : ∀ a, a < 0 → ∀ b, b < 0 → a ≠ b → (TJx8e188 a).2.1 ≠ (TJx8e188 b).2.1 := by decide +kernel
theorem tyJx8e188_ok : ∀ k, k < 0 → parseFieldDescriptor (TJx8e188 k).2.2.1 = some (tyJx8e188 k) := by decide +kernel
def RJ6 : String := "java/lang/Integer"
def TJ6 : u_T := fun k => match k with
  | _ => ("", "", "", false)
def tyJ6 : Nat → FieldType := fun k => match k with
  | _ => .int
abbrev wsJ60 : List Cond := u_ws RJ6 TJ6 0
theorem nmJ6 : ∀ a, a < 0 → ∀ b, b < 0 → a ≠ b → (TJ6 a).2.1 ≠ (TJ6 b).2.1 := by decide +kernel
theorem tyJ6_ok : ∀ k, k < 0 → parseFieldDescriptor (TJ6 k).2.2.1 = some (tyJ6 k) := by decide +kernel
abbrev cJ6_bitCount_0f7a4 : ByteArray := prog_15_method_49_code
def yJ6_bitCount_0f7a4 : MethodName := ⟨RJ6, "bitCount", "(I)I"⟩
def RJxab1ab : String := "java/lang/Iterable"
def TJxab1ab : u_T := fun k => match k with
  | _ => ("", "", "", false)
def tyJxab1ab : Nat → FieldType := fun k => match k with
  | _ => .int
abbrev wsJxab1ab0 : List Cond := u_ws RJxab1ab TJxab1ab 0
theorem nmJxab1ab : ∀ a, a < 0 → ∀ b, b < 0 → a ≠ b → (TJxab1ab a).2.1 ≠ (TJxab1ab b).2.1 := by decide +kernel
theorem tyJxab1ab_ok : ∀ k, k < 0 → parseFieldDescriptor (TJxab1ab k).2.2.1 = some (tyJxab1ab k) := by decide +kernel
def RJ9 : String := "java/lang/Math"
def TJ9 : u_T := fun k => match k with
  | _ => ("", "", "", false)
def tyJ9 : Nat → FieldType := fun k => match k with
  | _ => .int
abbrev wsJ90 : List Cond := u_ws RJ9 TJ9 0
theorem nmJ9 : ∀ a, a < 0 → ∀ b, b < 0 → a ≠ b → (TJ9 a).2.1 ≠ (TJ9 b).2.1 := by decide +kernel
theorem tyJ9_ok : ∀ k, k < 0 → parseFieldDescriptor (TJ9 k).2.2.1 = some (tyJ9 k) := by decide +kernel
abbrev cJ9_abs_0f7a4 : ByteArray := prog_17_method_59_code
def yJ9_abs_0f7a4 : MethodName := ⟨RJ9, "abs", "(I)I"⟩
abbrev cJ9_max_7cf53 : ByteArray := prog_17_method_65_code
def yJ9_max_7cf53 : MethodName := ⟨RJ9, "max", "(II)I"⟩
abbrev cJ9_min_7cf53 : ByteArray := prog_17_method_69_code
def yJ9_min_7cf53 : MethodName := ⟨RJ9, "min", "(II)I"⟩
def RJ0 : String := "java/lang/String"
def TJ0 : u_T := fun k => match k with
  | _ => ("", "", "", false)
def tyJ0 : Nat → FieldType := fun k => match k with
  | _ => .int
abbrev wsJ00 : List Cond := u_ws RJ0 TJ0 0
theorem nmJ0 : ∀ a, a < 0 → ∀ b, b < 0 → a ≠ b → (TJ0 a).2.1 ≠ (TJ0 b).2.1 := by decide +kernel
theorem tyJ0_ok : ∀ k, k < 0 → parseFieldDescriptor (TJ0 k).2.2.1 = some (tyJ0 k) := by decide +kernel
def RJ10 : String := "java/lang/System"
def TJ10 : u_T := fun k => match k with
  | _ => ("", "", "", false)
def tyJ10 : Nat → FieldType := fun k => match k with
  | _ => .int
abbrev wsJ100 : List Cond := u_ws RJ10 TJ10 0
theorem nmJ10 : ∀ a, a < 0 → ∀ b, b < 0 → a ≠ b → (TJ10 a).2.1 ≠ (TJ10 b).2.1 := by decide +kernel
theorem tyJ10_ok : ∀ k, k < 0 → parseFieldDescriptor (TJ10 k).2.2.1 = some (tyJ10 k) := by decide +kernel
def RJxa1e45 : String := "java/util/AbstractCollection"
def TJxa1e45 : u_T := fun k => match k with
  | _ => ("", "", "", false)
def tyJxa1e45 : Nat → FieldType := fun k => match k with
  | _ => .int
abbrev wsJxa1e450 : List Cond := u_ws RJxa1e45 TJxa1e45 0
theorem nmJxa1e45 : ∀ a, a < 0 → ∀ b, b < 0 → a ≠ b → (TJxa1e45 a).2.1 ≠ (TJxa1e45 b).2.1 := by decide +kernel
theorem tyJxa1e45_ok : ∀ k, k < 0 → parseFieldDescriptor (TJxa1e45 k).2.2.1 = some (tyJxa1e45 k) := by decide +kernel
abbrev cJxa1e45_init_da8c8 : ByteArray := prog_22_method_1_code
def yJxa1e45_init_da8c8 : MethodName := ⟨RJxa1e45, "<init>", "()V"⟩
def RJxc12de : String := "java/util/AbstractList"
def TJxc12de : u_T := fun k => match k with
  | _ => ("", "", "", false)
def tyJxc12de : Nat → FieldType := fun k => match k with
  | _ => .int
abbrev wsJxc12de0 : List Cond := u_ws RJxc12de TJxc12de 0
theorem nmJxc12de : ∀ a, a < 0 → ∀ b, b < 0 → a ≠ b → (TJxc12de a).2.1 ≠ (TJxc12de b).2.1 := by decide +kernel
theorem tyJxc12de_ok : ∀ k, k < 0 → parseFieldDescriptor (TJxc12de k).2.2.1 = some (tyJxc12de k) := by decide +kernel
abbrev cJxc12de_init_da8c8 : ByteArray := prog_23_method_1_code
def yJxc12de_init_da8c8 : MethodName := ⟨RJxc12de, "<init>", "()V"⟩
def RJx4a65c : String := "java/util/ArrayList"
def TJx4a65c : u_T := fun k => match k with
  | 0 => ("java/util/AbstractList", "modCount", "I", false)
  | 1 => ("java/util/ArrayList", "elementData", "[Ljava/lang/Object;", false)
  | _ => ("java/util/ArrayList", "size", "I", false)
def tyJx4a65c : Nat → FieldType := fun k => match k with
  | 0 => .int
  | 1 => .array (.object "java/lang/Object")
  | _ => .int
abbrev wsJx4a65c0 : List Cond := u_ws RJx4a65c TJx4a65c 3
theorem nmJx4a65c : ∀ a, a < 3 → ∀ b, b < 3 → a ≠ b → (TJx4a65c a).2.1 ≠ (TJx4a65c b).2.1 := by decide +kernel
theorem tyJx4a65c_ok : ∀ k, k < 3 → parseFieldDescriptor (TJx4a65c k).2.2.1 = some (tyJx4a65c k) := by decide +kernel
abbrev cJx4a65c_init_da8c8 : ByteArray := prog_24_method_2_code
def yJx4a65c_init_da8c8 : MethodName := ⟨RJx4a65c, "<init>", "()V"⟩
abbrev cJx4a65c_grow_92f84 : ByteArray := prog_24_method_6_code
def yJx4a65c_grow_92f84 : MethodName := ⟨RJx4a65c, "grow", "(I)[Ljava/lang/Object;"⟩
abbrev cJx4a65c_grow_d5877 : ByteArray := prog_24_method_7_code
def yJx4a65c_grow_d5877 : MethodName := ⟨RJx4a65c, "grow", "()[Ljava/lang/Object;"⟩
abbrev cJx4a65c_size_8abf5 : ByteArray := prog_24_method_8_code
def yJx4a65c_size_8abf5 : MethodName := ⟨RJx4a65c, "size", "()I"⟩
abbrev cJx4a65c_elementData_915e3 : ByteArray := prog_24_method_18_code
def yJx4a65c_elementData_915e3 : MethodName := ⟨RJx4a65c, "elementData", "(I)Ljava/lang/Object;"⟩
abbrev cJx4a65c_get_915e3 : ByteArray := prog_24_method_20_code
def yJx4a65c_get_915e3 : MethodName := ⟨RJx4a65c, "get", "(I)Ljava/lang/Object;"⟩
abbrev cJx4a65c_add_72be8 : ByteArray := prog_24_method_24_code
def yJx4a65c_add_72be8 : MethodName := ⟨RJx4a65c, "add", "(Ljava/lang/Object;[Ljava/lang/Object;I)V"⟩
abbrev cJx4a65c_add_9ea2d : ByteArray := prog_24_method_25_code
def yJx4a65c_add_9ea2d : MethodName := ⟨RJx4a65c, "add", "(Ljava/lang/Object;)Z"⟩
def RJ7 : String := "java/util/Arrays"
def TJ7 : u_T := fun k => match k with
  | _ => ("", "", "", false)
def tyJ7 : Nat → FieldType := fun k => match k with
  | _ => .int
abbrev wsJ70 : List Cond := u_ws RJ7 TJ7 0
theorem nmJ7 : ∀ a, a < 0 → ∀ b, b < 0 → a ≠ b → (TJ7 a).2.1 ≠ (TJ7 b).2.1 := by decide +kernel
theorem tyJ7_ok : ∀ k, k < 0 → parseFieldDescriptor (TJ7 k).2.2.1 = some (tyJ7 k) := by decide +kernel
abbrev cJ7_copyOf_1904c : ByteArray := prog_25_method_119_code
def yJ7_copyOf_1904c : MethodName := ⟨RJ7, "copyOf", "([Ljava/lang/Object;I)[Ljava/lang/Object;"⟩
abbrev cJ7_copyOf_6403c : ByteArray := prog_25_method_120_code
def yJ7_copyOf_6403c : MethodName := ⟨RJ7, "copyOf", "([Ljava/lang/Object;ILjava/lang/Class;)[Ljava/lang/Object;"⟩
def RJx5ef63 : String := "java/util/Collection"
def TJx5ef63 : u_T := fun k => match k with
  | _ => ("", "", "", false)
def tyJx5ef63 : Nat → FieldType := fun k => match k with
  | _ => .int
abbrev wsJx5ef630 : List Cond := u_ws RJx5ef63 TJx5ef63 0
theorem nmJx5ef63 : ∀ a, a < 0 → ∀ b, b < 0 → a ≠ b → (TJx5ef63 a).2.1 ≠ (TJx5ef63 b).2.1 := by decide +kernel
theorem tyJx5ef63_ok : ∀ k, k < 0 → parseFieldDescriptor (TJx5ef63 k).2.2.1 = some (tyJx5ef63 k) := by decide +kernel
def RJxbd725 : String := "java/util/List"
def TJxbd725 : u_T := fun k => match k with
  | _ => ("", "", "", false)
def tyJxbd725 : Nat → FieldType := fun k => match k with
  | _ => .int
abbrev wsJxbd7250 : List Cond := u_ws RJxbd725 TJxbd725 0
theorem nmJxbd725 : ∀ a, a < 0 → ∀ b, b < 0 → a ≠ b → (TJxbd725 a).2.1 ≠ (TJxbd725 b).2.1 := by decide +kernel
theorem tyJxbd725_ok : ∀ k, k < 0 → parseFieldDescriptor (TJxbd725 k).2.2.1 = some (tyJxbd725 k) := by decide +kernel
def RJ15 : String := "java/util/Objects"
def TJ15 : u_T := fun k => match k with
  | _ => ("", "", "", false)
def tyJ15 : Nat → FieldType := fun k => match k with
  | _ => .int
abbrev wsJ150 : List Cond := u_ws RJ15 TJ15 0
theorem nmJ15 : ∀ a, a < 0 → ∀ b, b < 0 → a ≠ b → (TJ15 a).2.1 ≠ (TJ15 b).2.1 := by decide +kernel
theorem tyJ15_ok : ∀ k, k < 0 → parseFieldDescriptor (TJ15 k).2.2.1 = some (tyJ15 k) := by decide +kernel
abbrev cJ15_checkIndex_7cf53 : ByteArray := prog_28_method_17_code
def yJ15_checkIndex_7cf53 : MethodName := ⟨RJ15, "checkIndex", "(II)I"⟩
def RJxf0a74 : String := "java/util/RandomAccess"
def TJxf0a74 : u_T := fun k => match k with
  | _ => ("", "", "", false)
def tyJxf0a74 : Nat → FieldType := fun k => match k with
  | _ => .int
abbrev wsJxf0a740 : List Cond := u_ws RJxf0a74 TJxf0a74 0
theorem nmJxf0a74 : ∀ a, a < 0 → ∀ b, b < 0 → a ≠ b → (TJxf0a74 a).2.1 ≠ (TJxf0a74 b).2.1 := by decide +kernel
theorem tyJxf0a74_ok : ∀ k, k < 0 → parseFieldDescriptor (TJxf0a74 k).2.2.1 = some (tyJxf0a74 k) := by decide +kernel
def RJxa66e6 : String := "java/util/SequencedCollection"
def TJxa66e6 : u_T := fun k => match k with
  | _ => ("", "", "", false)
def tyJxa66e6 : Nat → FieldType := fun k => match k with
  | _ => .int
abbrev wsJxa66e60 : List Cond := u_ws RJxa66e6 TJxa66e6 0
theorem nmJxa66e6 : ∀ a, a < 0 → ∀ b, b < 0 → a ≠ b → (TJxa66e6 a).2.1 ≠ (TJxa66e6 b).2.1 := by decide +kernel
theorem tyJxa66e6_ok : ∀ k, k < 0 → parseFieldDescriptor (TJxa66e6 k).2.2.1 = some (tyJxa66e6 k) := by decide +kernel
def RJ8 : String := "jdk/internal/util/ArraysSupport"
def TJ8 : u_T := fun k => match k with
  | _ => ("", "", "", false)
def tyJ8 : Nat → FieldType := fun k => match k with
  | _ => .int
abbrev wsJ80 : List Cond := u_ws RJ8 TJ8 0
theorem nmJ8 : ∀ a, a < 0 → ∀ b, b < 0 → a ≠ b → (TJ8 a).2.1 ≠ (TJ8 b).2.1 := by decide +kernel
theorem tyJ8_ok : ∀ k, k < 0 → parseFieldDescriptor (TJ8 k).2.2.1 = some (tyJ8 k) := by decide +kernel
abbrev cJ8_newLength_cabcc : ByteArray := prog_31_method_27_code
def yJ8_newLength_cabcc : MethodName := ⟨RJ8, "newLength", "(III)I"⟩
abbrev cJ8_hugeLength_7cf53 : ByteArray := prog_31_method_28_code
def yJ8_hugeLength_7cf53 : MethodName := ⟨RJ8, "hugeLength", "(II)I"⟩
def RJ3 : String := "jdk/internal/util/Preconditions"
def TJ3 : u_T := fun k => match k with
  | _ => ("", "", "", false)
def tyJ3 : Nat → FieldType := fun k => match k with
  | _ => .int
abbrev wsJ30 : List Cond := u_ws RJ3 TJ3 0
theorem nmJ3 : ∀ a, a < 0 → ∀ b, b < 0 → a ≠ b → (TJ3 a).2.1 ≠ (TJ3 b).2.1 := by decide +kernel
theorem tyJ3_ok : ∀ k, k < 0 → parseFieldDescriptor (TJ3 k).2.2.1 = some (tyJ3 k) := by decide +kernel
abbrev cJ3_checkIndex_8e157 : ByteArray := prog_32_method_11_code
def yJ3_checkIndex_8e157 : MethodName := ⟨RJ3, "checkIndex", "(IILjava/util/function/BiFunction;)I"⟩
def RL : String := "InkHallLaw"
abbrev cL_stroke : ByteArray := method_3_code
def yL_stroke : MethodName := ⟨RL, "stroke", "(LInkHall;II[J)I"⟩
abbrev cL_letter : ByteArray := method_4_code
def yL_letter : MethodName := ⟨RL, "letter", "(LInkHall;[J)I"⟩
abbrev cL_strokeOf : ByteArray := method_5_code
def yL_strokeOf : MethodName := ⟨RL, "strokeOf", "(LInkHall;II[J)I"⟩
abbrev cL_pupil : ByteArray := method_6_code
def yL_pupil : MethodName := ⟨RL, "pupil", "(LInkHall;IIZ[J)I"⟩
abbrev cL_print : ByteArray := method_7_code
def yL_print : MethodName := ⟨RL, "print", "(LInkHall;IZI[J)I"⟩
abbrev cL_sheets : ByteArray := method_8_code
def yL_sheets : MethodName := ⟨RL, "sheets", "(LInkHall;IZ[J)I"⟩
abbrev cL_write : ByteArray := method_9_code
def yL_write : MethodName := ⟨RL, "write", "(LInkHall;II[J)I"⟩
abbrev cL_slips : ByteArray := method_10_code
def yL_slips : MethodName := ⟨RL, "slips", "(LInkHall;II[J)I"⟩
abbrev cL_orderAnew : ByteArray := method_11_code
def yL_orderAnew : MethodName := ⟨RL, "orderAnew", "(LInkHall;I[J)I"⟩
abbrev cL_mark : ByteArray := method_12_code
def yL_mark : MethodName := ⟨RL, "mark", "(LInkHall;III[J)I"⟩
abbrev cL_grade : ByteArray := method_13_code
def yL_grade : MethodName := ⟨RL, "grade", "(LInkHall;I[J)I"⟩
abbrev cL_lacks : ByteArray := method_14_code
def yL_lacks : MethodName := ⟨RL, "lacks", "(LInkHall;I[J)I"⟩
abbrev cL_takeOut : ByteArray := method_15_code
def yL_takeOut : MethodName := ⟨RL, "takeOut", "(LInkHall;I[J)I"⟩
abbrev cL_show : ByteArray := method_16_code
def yL_show : MethodName := ⟨RL, "show", "(LInkHall;I[J)I"⟩
abbrev cL_vote : ByteArray := method_17_code
def yL_vote : MethodName := ⟨RL, "vote", "(LInkHall;III[J)I"⟩
abbrev cL_worth : ByteArray := method_18_code
def yL_worth : MethodName := ⟨RL, "worth", "(LInkHall;I[J)I"⟩
abbrev cL_place : ByteArray := method_19_code
def yL_place : MethodName := ⟨RL, "place", "(LInkHall;I[J)I"⟩
abbrev cL_at : ByteArray := method_20_code
def yL_at : MethodName := ⟨RL, "at", "(LInkHall;I[J)I"⟩
abbrev cL_law : ByteArray := code
def yL_law : MethodName := ⟨RL, "law", "([I)Z"⟩
def wsX0_init : List Cond := .code yX0_init cX0_init 1 none :: ([.methodLink RX0 3 objectInit, .instanceMethod objectInit, .code objectInit ⟨#[0xb1]⟩ 1 none, .arrayClass .int, .fieldLink RX0 9 "InkHall$Marks" "examiners" "[I", .fieldLink RX0 15 "InkHall$Marks" "values" "[I", .fieldLink RX0 18 "InkHall$Marks" "count" "I"] ++ wsX00)
def wsX0_size : List Cond := .code yX0_size cX0_size 1 (some .int) :: ([.fieldLink RX0 18 "InkHall$Marks" "count" "I"] ++ wsX00)
def wsX0_hasOneOf : List Cond := .code yX0_hasOneOf cX0_hasOneOf 3 (some .boolean) :: ([.fieldLink RX0 18 "InkHall$Marks" "count" "I", .fieldLink RX0 9 "InkHall$Marks" "examiners" "[I"] ++ wsX00)
def wsX0_add : List Cond := .code yX0_add cX0_add 3 none :: ([.fieldLink RX0 18 "InkHall$Marks" "count" "I", .fieldLink RX0 9 "InkHall$Marks" "examiners" "[I", .fieldLink RX0 15 "InkHall$Marks" "values" "[I"] ++ wsX00)
def wsX0_removeOf : List Cond := .code yX0_removeOf cX0_removeOf 4 none :: ([.fieldLink RX0 18 "InkHall$Marks" "count" "I", .fieldLink RX0 9 "InkHall$Marks" "examiners" "[I", .fieldLink RX0 15 "InkHall$Marks" "values" "[I"] ++ wsX00)
def wsX0_lacking : List Cond := .code yX0_lacking cX0_lacking 2 (some .int) :: ([.fieldLink RX0 18 "InkHall$Marks" "count" "I", .fieldLink RX0 15 "InkHall$Marks" "values" "[I", .methodLink RX0 22 Lib.Math.abs.name, .static Lib.Math.abs.name, .initialized "java/lang/Math", .code Lib.Math.abs.name Lib.Math.abs.code 1 (some .int)] ++ wsX00)
def wsX0_result : List Cond := .code yX0_result cX0_result 3 (some .int) :: ([.fieldLink RX0 15 "InkHall$Marks" "values" "[I", .methodLink RX0 32 Lib.Math.min.name, .static Lib.Math.min.name, .initialized "java/lang/Math", .code Lib.Math.min.name Lib.Math.min.code 2 (some .int), .methodLink RX0 36 Lib.Math.max.name, .static Lib.Math.max.name, .code Lib.Math.max.name Lib.Math.max.code 2 (some .int), .fieldLink RX0 18 "InkHall$Marks" "count" "I", .methodLink RX0 28 yX0_lacking, .instanceMethod yX0_lacking, .selects RX0 yX0_lacking yX0_lacking, .initialized RX0, .code yX0_lacking cX0_lacking 2 (some .int), .methodLink RX0 22 Lib.Math.abs.name, .static Lib.Math.abs.name, .code Lib.Math.abs.name Lib.Math.abs.code 1 (some .int)] ++ wsX00)
def wsX1_init : List Cond := .code yX1_init cX1_init 1 none :: ([.methodLink RX1 3 objectInit, .instanceMethod objectInit, .code objectInit ⟨#[0xb1]⟩ 1 none, .arrayClass .int, .fieldLink RX1 9 "InkHall$Press" "forLeft" "[I", .fieldLink RX1 15 "InkHall$Press" "forRight" "[I"] ++ wsX10)
def wsX1_countOf : List Cond := .code yX1_countOf cX1_countOf 3 (some .int) :: ([.fieldLink RX1 9 "InkHall$Press" "forLeft" "[I", .fieldLink RX1 15 "InkHall$Press" "forRight" "[I"] ++ wsX10)
def wsX1_add : List Cond := .code yX1_add cX1_add 4 none :: ([.fieldLink RX1 9 "InkHall$Press" "forLeft" "[I", .fieldLink RX1 15 "InkHall$Press" "forRight" "[I"] ++ wsX10)
def wsX1_bandFor : List Cond := .code yX1_bandFor cX1_bandFor 4 (some .int) :: ([.methodLink RX1 18 yX1_countOf, .instanceMethod yX1_countOf, .selects RX1 yX1_countOf yX1_countOf, .initialized RX1, .code yX1_countOf cX1_countOf 3 (some .int), .fieldLink RX1 9 "InkHall$Press" "forLeft" "[I", .fieldLink RX1 15 "InkHall$Press" "forRight" "[I"] ++ wsX10)
def wsX2_init : List Cond := .code yX2_init cX2_init 4 none :: ([.methodLink RX2 1 objectInit, .instanceMethod objectInit, .code objectInit ⟨#[0xb1]⟩ 1 none, .fieldLink RX2 7 "InkHall$Pupil" "group" "I", .fieldLink RX2 13 "InkHall$Pupil" "band" "I", .fieldLink RX2 16 "InkHall$Pupil" "isLeft" "Z"] ++ wsX20)
def wsX3_init : List Cond := .code yX3_init cX3_init 2 none :: ([.methodLink RX3 3 objectInit, .instanceMethod objectInit, .code objectInit ⟨#[0xb1]⟩ 1 none, .fieldLink RX3 9 "InkHall$Script" "group" "I", .classLink RX3 15 RX0, .instantiable RX0 3, .initialized RX0, .fieldLink RX3 18 "InkHall$Script" "marks" "LInkHall$Marks;", .fieldLink RX3 22 "InkHall$Script" "isShown" "Z", .arrayClass .int, .fieldLink RX3 26 "InkHall$Script" "slipCounts" "[I", .fieldLink RX3 30 "InkHall$Script" "points" "[I", .fieldLink RX3 33 "InkHall$Script" "ranks" "[I", .fieldLink RX3 36 "InkHall$Script" "rankCount" "I", .methodLink RX3 17 yX0_init, .instanceMethod yX0_init, .code yX0_init cX0_init 1 none, .methodLink RX0 3 objectInit, .fieldLink RX0 9 "InkHall$Marks" "examiners" "[I", .fieldLink RX0 15 "InkHall$Marks" "values" "[I", .fieldLink RX0 18 "InkHall$Marks" "count" "I"] ++ wsX30 ++ wsX00)
def wsX4_size : List Cond := .code yX4_size cX4_size 1 (some .int) :: ([.fieldLink RX4 15 "InkHall$Strokes" "count" "I"] ++ wsX40)
def wsX4_codeAt : List Cond := .code yX4_codeAt cX4_codeAt 2 (some .int) :: ([.fieldLink RX4 15 "InkHall$Strokes" "count" "I", .fieldLink RX4 9 "InkHall$Strokes" "codes" "[I"] ++ wsX40)
def wsX4_codeOf : List Cond := .code yX4_codeOf cX4_codeOf 2 (some .int) :: ([])
def wsX4_turnedRound : List Cond := .code yX4_turnedRound cX4_turnedRound 1 (some .int) :: ([.methodLink RX4 19 yX4_codeOf, .static yX4_codeOf, .initialized RX4, .code yX4_codeOf cX4_codeOf 2 (some .int)])
def wsX4_firstOnLineOf : List Cond := .code yX4_firstOnLineOf cX4_firstOnLineOf 3 (some .int) :: ([.fieldLink RX4 15 "InkHall$Strokes" "count" "I", .fieldLink RX4 9 "InkHall$Strokes" "codes" "[I", .methodLink RX4 35 yX4_turnedRound, .static yX4_turnedRound, .initialized RX4, .code yX4_turnedRound cX4_turnedRound 1 (some .int), .methodLink RX4 19 yX4_codeOf, .static yX4_codeOf, .code yX4_codeOf cX4_codeOf 2 (some .int)] ++ wsX40)
def wsX3_addRank : List Cond := .code yX3_addRank cX3_addRank 2 none :: ([.fieldLink RX3 36 "InkHall$Script" "rankCount" "I", .fieldLink RX3 33 "InkHall$Script" "ranks" "[I"] ++ wsX30)
def wsX3_longestRise : List Cond := .code yX3_longestRise cX3_longestRise 5 (some .int) :: ([.arrayClass .int, .fieldLink RX3 36 "InkHall$Script" "rankCount" "I", .fieldLink RX3 33 "InkHall$Script" "ranks" "[I", .methodLink RX3 59 Lib.Math.max.name, .static Lib.Math.max.name, .initialized "java/lang/Math", .code Lib.Math.max.name Lib.Math.max.code 2 (some .int)] ++ wsX30)
def wsX3_compare_r1 : List Cond := [Cond.fieldLink RX3 26 "InkHall$Script" "slipCounts" "[I", Cond.fieldLink RX3 36 "InkHall$Script" "rankCount" "I", Cond.methodLink RX3 39 yX4_size, Cond.instanceMethod yX4_size, Cond.selects RX4 yX4_size yX4_size, Cond.initialized RX4, Cond.code yX4_size cX4_size 1 (some .int), Cond.fieldLink RX4 15 "InkHall$Strokes" "count" "I", Cond.methodLink RX3 45 yX4_codeAt, Cond.instanceMethod yX4_codeAt, Cond.selects RX4 yX4_codeAt yX4_codeAt, Cond.code yX4_codeAt cX4_codeAt 2 (some .int), Cond.fieldLink RX4 9 "InkHall$Strokes" "codes" "[I", Cond.methodLink RX3 49 yX4_firstOnLineOf, Cond.instanceMethod yX4_firstOnLineOf, Cond.selects RX4 yX4_firstOnLineOf yX4_firstOnLineOf, Cond.code yX4_firstOnLineOf cX4_firstOnLineOf 3 (some .int), Cond.methodLink RX4 35 yX4_turnedRound, Cond.static yX4_turnedRound, Cond.code yX4_turnedRound cX4_turnedRound 1 (some .int), Cond.methodLink RX4 19 yX4_codeOf, Cond.static yX4_codeOf, Cond.code yX4_codeOf cX4_codeOf 2 (some .int), Cond.methodLink RX3 52 yX3_addRank]
def wsX3_compare_r2 : List Cond := [Cond.instanceMethod yX3_addRank, Cond.selects RX3 yX3_addRank yX3_addRank, Cond.initialized RX3, Cond.code yX3_addRank cX3_addRank 2 none, Cond.fieldLink RX3 33 "InkHall$Script" "ranks" "[I", Cond.methodLink RX3 56 yX3_longestRise, Cond.instanceMethod yX3_longestRise, Cond.selects RX3 yX3_longestRise yX3_longestRise, Cond.code yX3_longestRise cX3_longestRise 5 (some .int), Cond.arrayClass .int, Cond.methodLink RX3 59 Lib.Math.max.name, Cond.static Lib.Math.max.name, Cond.initialized "java/lang/Math", Cond.code Lib.Math.max.name Lib.Math.max.code 2 (some .int)]
def wsX3_compare : List Cond := .code yX3_compare cX3_compare 6 none :: ((wsX3_compare_r1 ++ wsX3_compare_r2) ++ wsX30 ++ wsX40)
def wsX3_addWrongRuling : List Cond := .code yX3_addWrongRuling cX3_addWrongRuling 1 none :: ([.fieldLink RX3 26 "InkHall$Script" "slipCounts" "[I"] ++ wsX30)
def wsX3_isInOrderWithout : List Cond := .code yX3_isInOrderWithout cX3_isInOrderWithout 5 (some .boolean) :: ([.fieldLink RX3 36 "InkHall$Script" "rankCount" "I", .fieldLink RX3 33 "InkHall$Script" "ranks" "[I"] ++ wsX30)
def wsJ6_bitCount_0f7a4 : List Cond := .code yJ6_bitCount_0f7a4 cJ6_bitCount_0f7a4 1 (some .int) :: ([.constant RJ6 265 (1431655765), .constant RJ6 266 (858993459), .constant RJ6 267 (252645135)])
def wsX3_fewestLeftOut : List Cond := .code yX3_fewestLeftOut cX3_fewestLeftOut 4 (some .int) :: ([.fieldLink RX3 36 "InkHall$Script" "rankCount" "I", .methodLink RX3 74 Lib.Math.min.name, .static Lib.Math.min.name, .initialized "java/lang/Math", .code Lib.Math.min.name Lib.Math.min.code 2 (some .int), .methodLink RX3 65 yX3_isInOrderWithout, .instanceMethod yX3_isInOrderWithout, .selects RX3 yX3_isInOrderWithout yX3_isInOrderWithout, .initialized RX3, .code yX3_isInOrderWithout cX3_isInOrderWithout 5 (some .boolean), .fieldLink RX3 33 "InkHall$Script" "ranks" "[I", .methodLink RX3 69 yJ6_bitCount_0f7a4, .static yJ6_bitCount_0f7a4, .initialized RJ6, .code yJ6_bitCount_0f7a4 cJ6_bitCount_0f7a4 1 (some .int), .constant RJ6 265 (1431655765), .constant RJ6 266 (858993459), .constant RJ6 267 (252645135)] ++ wsX30)
def wsX3_slipsOf : List Cond := .code yX3_slipsOf cX3_slipsOf 2 (some .int) :: ([.fieldLink RX3 26 "InkHall$Script" "slipCounts" "[I"] ++ wsX30)
def wsX3_allSlips : List Cond := .code yX3_allSlips cX3_allSlips 6 (some .int) :: ([.fieldLink RX3 26 "InkHall$Script" "slipCounts" "[I"] ++ wsX30)
def wsX3_setPoints : List Cond := .code yX3_setPoints cX3_setPoints 3 none :: ([.fieldLink RX3 30 "InkHall$Script" "points" "[I"] ++ wsX30)
def wsX3_allPoints : List Cond := .code yX3_allPoints cX3_allPoints 6 (some .int) :: ([.fieldLink RX3 30 "InkHall$Script" "points" "[I"] ++ wsX30)
def wsX3_worthNow_r1 : List Cond := [Cond.fieldLink RX3 18 "InkHall$Script" "marks" "LInkHall$Marks;", Cond.fieldLink RX3 22 "InkHall$Script" "isShown" "Z", Cond.methodLink RX3 77 yX0_result, Cond.instanceMethod yX0_result, Cond.selects RX0 yX0_result yX0_result, Cond.initialized RX0, Cond.code yX0_result cX0_result 3 (some .int), Cond.fieldLink RX0 15 "InkHall$Marks" "values" "[I", Cond.methodLink RX0 32 Lib.Math.min.name, Cond.static Lib.Math.min.name, Cond.initialized "java/lang/Math", Cond.code Lib.Math.min.name Lib.Math.min.code 2 (some .int), Cond.methodLink RX0 36 Lib.Math.max.name, Cond.static Lib.Math.max.name, Cond.code Lib.Math.max.name Lib.Math.max.code 2 (some .int), Cond.fieldLink RX0 18 "InkHall$Marks" "count" "I", Cond.methodLink RX0 28 yX0_lacking, Cond.instanceMethod yX0_lacking, Cond.selects RX0 yX0_lacking yX0_lacking, Cond.code yX0_lacking cX0_lacking 2 (some .int), Cond.methodLink RX0 22 Lib.Math.abs.name, Cond.static Lib.Math.abs.name, Cond.code Lib.Math.abs.name Lib.Math.abs.code 1 (some .int), Cond.methodLink RX3 80 yX3_allPoints]
def wsX3_worthNow_r2 : List Cond := [Cond.instanceMethod yX3_allPoints, Cond.selects RX3 yX3_allPoints yX3_allPoints, Cond.initialized RX3, Cond.code yX3_allPoints cX3_allPoints 6 (some .int), Cond.fieldLink RX3 30 "InkHall$Script" "points" "[I", Cond.methodLink RX3 83 yX3_allSlips, Cond.instanceMethod yX3_allSlips, Cond.selects RX3 yX3_allSlips yX3_allSlips, Cond.code yX3_allSlips cX3_allSlips 6 (some .int), Cond.fieldLink RX3 26 "InkHall$Script" "slipCounts" "[I"]
def wsX3_worthNow : List Cond := .code yX3_worthNow cX3_worthNow 2 (some .int) :: ((wsX3_worthNow_r1 ++ wsX3_worthNow_r2) ++ wsX30 ++ wsX00)
def wsX4_init : List Cond := .code yX4_init cX4_init 1 none :: ([.methodLink RX4 3 objectInit, .instanceMethod objectInit, .code objectInit ⟨#[0xb1]⟩ 1 none, .arrayClass .int, .fieldLink RX4 9 "InkHall$Strokes" "codes" "[I", .fieldLink RX4 15 "InkHall$Strokes" "count" "I"] ++ wsX40)
def wsX4_add : List Cond := .code yX4_add cX4_add 2 none :: ([.fieldLink RX4 15 "InkHall$Strokes" "count" "I", .fieldLink RX4 9 "InkHall$Strokes" "codes" "[I"] ++ wsX40)
def wsX4_addAll : List Cond := .code yX4_addAll cX4_addAll 3 none :: ([.methodLink RX4 23 yX4_size, .instanceMethod yX4_size, .selects RX4 yX4_size yX4_size, .initialized RX4, .code yX4_size cX4_size 1 (some .int), .fieldLink RX4 15 "InkHall$Strokes" "count" "I", .methodLink RX4 27 yX4_codeAt, .instanceMethod yX4_codeAt, .selects RX4 yX4_codeAt yX4_codeAt, .code yX4_codeAt cX4_codeAt 2 (some .int), .fieldLink RX4 9 "InkHall$Strokes" "codes" "[I", .methodLink RX4 31 yX4_add, .instanceMethod yX4_add, .selects RX4 yX4_add yX4_add, .code yX4_add cX4_add 2 none] ++ wsX40)
def wsX4_clear : List Cond := .code yX4_clear cX4_clear 1 none :: ([.fieldLink RX4 15 "InkHall$Strokes" "count" "I"] ++ wsX40)
def wsX4_hasLineTwice : List Cond := .code yX4_hasLineTwice cX4_hasLineTwice 2 (some .boolean) :: ([.fieldLink RX4 15 "InkHall$Strokes" "count" "I", .fieldLink RX4 9 "InkHall$Strokes" "codes" "[I", .methodLink RX4 38 yX4_firstOnLineOf, .instanceMethod yX4_firstOnLineOf, .selects RX4 yX4_firstOnLineOf yX4_firstOnLineOf, .initialized RX4, .code yX4_firstOnLineOf cX4_firstOnLineOf 3 (some .int), .methodLink RX4 35 yX4_turnedRound, .static yX4_turnedRound, .code yX4_turnedRound cX4_turnedRound 1 (some .int), .methodLink RX4 19 yX4_codeOf, .static yX4_codeOf, .code yX4_codeOf cX4_codeOf 2 (some .int)] ++ wsX40)
def wsJxa1e45_init_da8c8 : List Cond := .code yJxa1e45_init_da8c8 cJxa1e45_init_da8c8 1 none :: ([.methodLink RJxa1e45 1 objectInit, .instanceMethod objectInit, .code objectInit ⟨#[0xb1]⟩ 1 none])
def wsJxc12de_init_da8c8 : List Cond := .code yJxc12de_init_da8c8 cJxc12de_init_da8c8 1 none :: ([.fieldLink RJxc12de 7 "java/util/AbstractList" "modCount" "I", .methodLink RJxc12de 1 yJxa1e45_init_da8c8, .instanceMethod yJxa1e45_init_da8c8, .initialized RJxa1e45, .code yJxa1e45_init_da8c8 cJxa1e45_init_da8c8 1 none, .methodLink RJxa1e45 1 objectInit, .instanceMethod objectInit, .code objectInit ⟨#[0xb1]⟩ 1 none] ++ wsJx4a65c0)
def wsJx4a65c_init_da8c8 : List Cond := .code yJx4a65c_init_da8c8 cJx4a65c_init_da8c8 1 none :: ([.fieldLink RJx4a65c 39 "java/util/ArrayList" "DEFAULTCAPACITY_EMPTY_ELEMENTDATA" "[Ljava/lang/Object;", .fieldLink RJx4a65c 9 "java/util/ArrayList" "elementData" "[Ljava/lang/Object;", .methodLink RJx4a65c 1 yJxc12de_init_da8c8, .instanceMethod yJxc12de_init_da8c8, .initialized RJxc12de, .code yJxc12de_init_da8c8 cJxc12de_init_da8c8 1 none, .fieldLink RJxc12de 7 "java/util/AbstractList" "modCount" "I", .methodLink RJxc12de 1 yJxa1e45_init_da8c8, .instanceMethod yJxa1e45_init_da8c8, .initialized RJxa1e45, .code yJxa1e45_init_da8c8 cJxa1e45_init_da8c8 1 none, .methodLink RJxa1e45 1 objectInit, .instanceMethod objectInit, .code objectInit ⟨#[0xb1]⟩ 1 none] ++ wsJx4a65c0)
def wsX5_init_r1 : List Cond := [Cond.methodLink RX5 1 objectInit, Cond.instanceMethod objectInit, Cond.code objectInit ⟨#[0xb1]⟩ 1 none, Cond.classLink RX5 7 RX4, Cond.instantiable RX4 2, Cond.initialized RX4, Cond.fieldLink RX5 10 "InkHall" "pen" "LInkHall$Strokes;", Cond.classLink RX5 16 RX1, Cond.instantiable RX1 2, Cond.initialized RX1, Cond.fieldLink RX5 19 "InkHall" "press" "LInkHall$Press;", Cond.classLink RX5 23 RJx4a65c, Cond.instantiable RJx4a65c 3, Cond.initialized RJx4a65c, Cond.fieldLink RX5 26 "InkHall" "letters" "Ljava/util/ArrayList;", Cond.fieldLink RX5 30 "InkHall" "pupils" "Ljava/util/ArrayList;", Cond.fieldLink RX5 33 "InkHall" "scripts" "Ljava/util/ArrayList;", Cond.arrayClass .boolean, Cond.fieldLink RX5 36 "InkHall" "isOut" "[Z", Cond.methodLink RX5 9 yX4_init, Cond.instanceMethod yX4_init, Cond.code yX4_init cX4_init 1 none, Cond.methodLink RX4 3 objectInit, Cond.arrayClass .int]
def wsX5_init_r2 : List Cond := [Cond.fieldLink RX4 9 "InkHall$Strokes" "codes" "[I", Cond.fieldLink RX4 15 "InkHall$Strokes" "count" "I", Cond.methodLink RX5 18 yX1_init, Cond.instanceMethod yX1_init, Cond.code yX1_init cX1_init 1 none, Cond.methodLink RX1 3 objectInit, Cond.fieldLink RX1 9 "InkHall$Press" "forLeft" "[I", Cond.fieldLink RX1 15 "InkHall$Press" "forRight" "[I", Cond.methodLink RX5 25 yJx4a65c_init_da8c8, Cond.instanceMethod yJx4a65c_init_da8c8, Cond.code yJx4a65c_init_da8c8 cJx4a65c_init_da8c8 1 none, Cond.fieldLink RJx4a65c 39 "java/util/ArrayList" "DEFAULTCAPACITY_EMPTY_ELEMENTDATA" "[Ljava/lang/Object;", Cond.fieldLink RJx4a65c 9 "java/util/ArrayList" "elementData" "[Ljava/lang/Object;", Cond.methodLink RJx4a65c 1 yJxc12de_init_da8c8, Cond.instanceMethod yJxc12de_init_da8c8, Cond.initialized RJxc12de, Cond.code yJxc12de_init_da8c8 cJxc12de_init_da8c8 1 none, Cond.fieldLink RJxc12de 7 "java/util/AbstractList" "modCount" "I", Cond.methodLink RJxc12de 1 yJxa1e45_init_da8c8, Cond.instanceMethod yJxa1e45_init_da8c8, Cond.initialized RJxa1e45, Cond.code yJxa1e45_init_da8c8 cJxa1e45_init_da8c8 1 none, Cond.methodLink RJxa1e45 1 objectInit]
def wsX5_init : List Cond := .code yX5_init cX5_init 1 none :: ((wsX5_init_r1 ++ wsX5_init_r2) ++ wsX40 ++ wsX50 ++ wsX10 ++ wsJx4a65c0)
def wsX5_checkDot : List Cond := .code yX5_checkDot cX5_checkDot 1 none :: ([.classLink RX5 92 "java/lang/IndexOutOfBoundsException", .initialized "java/lang/IndexOutOfBoundsException"] ++ (vx_atS RX5 96 "java/lang/IndexOutOfBoundsException" ["java/lang/RuntimeException", "java/lang/Exception"]).filter goodWord)
def wsX5_stroke_r1 : List Cond := [Cond.classLink RX5 44 "java/lang/IllegalArgumentException", Cond.initialized "java/lang/IllegalArgumentException", Cond.classLink RX5 55 "java/lang/IllegalStateException", Cond.initialized "java/lang/IllegalStateException", Cond.fieldLink RX5 10 "InkHall" "pen" "LInkHall$Strokes;", Cond.methodLink RX5 40 yX5_checkDot, Cond.static yX5_checkDot, Cond.initialized RX5, Cond.code yX5_checkDot cX5_checkDot 1 none, Cond.classLink RX5 92 "java/lang/IndexOutOfBoundsException", Cond.initialized "java/lang/IndexOutOfBoundsException", Cond.methodLink RX5 51 yX4_size, Cond.instanceMethod yX4_size, Cond.selects RX4 yX4_size yX4_size, Cond.initialized RX4, Cond.code yX4_size cX4_size 1 (some .int), Cond.fieldLink RX4 15 "InkHall$Strokes" "count" "I", Cond.methodLink RX5 60 yX4_codeOf, Cond.static yX4_codeOf, Cond.code yX4_codeOf cX4_codeOf 2 (some .int), Cond.methodLink RX5 64 yX4_add, Cond.instanceMethod yX4_add, Cond.selects RX4 yX4_add yX4_add, Cond.code yX4_add cX4_add 2 none]
def wsX5_stroke_r2 : List Cond := [Cond.fieldLink RX4 9 "InkHall$Strokes" "codes" "[I"]
def wsX5_stroke : List Cond := .code yX5_stroke cX5_stroke 3 (some .int) :: ((wsX5_stroke_r1 ++ wsX5_stroke_r2) ++ wsX50 ++ wsX40 ++ (vx_atS RX5 48 "java/lang/IllegalArgumentException" ["java/lang/RuntimeException", "java/lang/Exception"]).filter goodWord ++ (vx_atS RX5 59 "java/lang/IllegalStateException" ["java/lang/RuntimeException", "java/lang/Exception"]).filter goodWord ++ (vx_atS RX5 96 "java/lang/IndexOutOfBoundsException" ["java/lang/RuntimeException", "java/lang/Exception"]).filter goodWord)
def wsX5_lift : List Cond := .code yX5_lift cX5_lift 2 (some .int) :: ([.fieldLink RX5 10 "InkHall" "pen" "LInkHall$Strokes;", .methodLink RX5 51 yX4_size, .instanceMethod yX4_size, .selects RX4 yX4_size yX4_size, .initialized RX4, .code yX4_size cX4_size 1 (some .int), .fieldLink RX4 15 "InkHall$Strokes" "count" "I", .methodLink RX5 67 yX4_clear, .instanceMethod yX4_clear, .selects RX4 yX4_clear yX4_clear, .code yX4_clear cX4_clear 1 none] ++ wsX50 ++ wsX40)
def wsJx4a65c_size_8abf5 : List Cond := .code yJx4a65c_size_8abf5 cJx4a65c_size_8abf5 1 (some .int) :: ([.fieldLink RJx4a65c 48 "java/util/ArrayList" "size" "I"] ++ wsJx4a65c0)
def wsJ8_hugeLength_7cf53 : List Cond := .code yJ8_hugeLength_7cf53 cJ8_hugeLength_7cf53 3 (some .int) :: ([.constant RJ8 200 (2147483639)])
def wsJ8_newLength_cabcc : List Cond := .code yJ8_newLength_cabcc cJ8_newLength_cabcc 4 (some .int) :: ([.methodLink RJ8 194 Lib.Math.max.name, .static Lib.Math.max.name, .initialized "java/lang/Math", .code Lib.Math.max.name Lib.Math.max.code 2 (some .int), .constant RJ8 200 (2147483639), .methodLink RJ8 201 yJ8_hugeLength_7cf53, .static yJ8_hugeLength_7cf53, .initialized RJ8, .code yJ8_hugeLength_7cf53 cJ8_hugeLength_7cf53 3 (some .int)])
def wsJ7_copyOf_6403c : List Cond := .code yJ7_copyOf_6403c cJ7_copyOf_6403c 4 (some (.array (.object "java/lang/Object"))) :: ([.classLink RJ7 110 "[Ljava/lang/Object;", .classLink RJ7 2 "java/lang/Object", .methodLink RJ7 304 Lib.Math.min.name, .static Lib.Math.min.name, .initialized "java/lang/Math", .code Lib.Math.min.name Lib.Math.min.code 2 (some .int), .methodLink RJ7 150 arraycopyName, .native arraycopyName, .static arraycopyName, .initialized "java/lang/System"])
def wsJ7_copyOf_1904c : List Cond := .code yJ7_copyOf_1904c cJ7_copyOf_1904c 2 (some (.array (.object "java/lang/Object"))) :: ([.methodLink RJ7 86 ⟨"java/lang/Object", "getClass", "()Ljava/lang/Class;"⟩, .selects "[Ljava/lang/Object;" ⟨"java/lang/Object", "getClass", "()Ljava/lang/Class;"⟩ ⟨"java/lang/Object", "getClass", "()Ljava/lang/Class;"⟩, .instanceMethod ⟨"java/lang/Object", "getClass", "()Ljava/lang/Class;"⟩, .native ⟨"java/lang/Object", "getClass", "()Ljava/lang/Class;"⟩, .methodLink RJ7 300 yJ7_copyOf_6403c, .static yJ7_copyOf_6403c, .initialized RJ7, .code yJ7_copyOf_6403c cJ7_copyOf_6403c 4 (some (.array (.object "java/lang/Object"))), .classLink RJ7 110 "[Ljava/lang/Object;", .classLink RJ7 2 "java/lang/Object", .methodLink RJ7 304 Lib.Math.min.name, .static Lib.Math.min.name, .initialized "java/lang/Math", .code Lib.Math.min.name Lib.Math.min.code 2 (some .int), .methodLink RJ7 150 arraycopyName, .native arraycopyName, .static arraycopyName, .initialized "java/lang/System"])
def wsJx4a65c_grow_92f84_r1 : List Cond := [Cond.fieldLink RJx4a65c 9 "java/util/ArrayList" "elementData" "[Ljava/lang/Object;", Cond.fieldLink RJx4a65c 39 "java/util/ArrayList" "DEFAULTCAPACITY_EMPTY_ELEMENTDATA" "[Ljava/lang/Object;", Cond.methodLink RJx4a65c 79 Lib.Math.max.name, Cond.static Lib.Math.max.name, Cond.initialized "java/lang/Math", Cond.code Lib.Math.max.name Lib.Math.max.code 2 (some .int), Cond.classLink RJx4a65c 7 "java/lang/Object", Cond.methodLink RJx4a65c 73 yJ8_newLength_cabcc, Cond.static yJ8_newLength_cabcc, Cond.initialized RJ8, Cond.code yJ8_newLength_cabcc cJ8_newLength_cabcc 4 (some .int), Cond.methodLink RJ8 194 Lib.Math.max.name, Cond.constant RJ8 200 (2147483639), Cond.methodLink RJ8 201 yJ8_hugeLength_7cf53, Cond.static yJ8_hugeLength_7cf53, Cond.code yJ8_hugeLength_7cf53 cJ8_hugeLength_7cf53 3 (some .int), Cond.methodLink RJx4a65c 66 yJ7_copyOf_1904c, Cond.static yJ7_copyOf_1904c, Cond.initialized RJ7, Cond.code yJ7_copyOf_1904c cJ7_copyOf_1904c 2 (some (.array (.object "java/lang/Object"))), Cond.methodLink RJ7 86 ⟨"java/lang/Object", "getClass", "()Ljava/lang/Class;"⟩, Cond.selects "[Ljava/lang/Object;" ⟨"java/lang/Object", "getClass", "()Ljava/lang/Class;"⟩ ⟨"java/lang/Object", "getClass", "()Ljava/lang/Class;"⟩, Cond.instanceMethod ⟨"java/lang/Object", "getClass", "()Ljava/lang/Class;"⟩, Cond.native ⟨"java/lang/Object", "getClass", "()Ljava/lang/Class;"⟩]
def wsJx4a65c_grow_92f84_r2 : List Cond := [Cond.methodLink RJ7 300 yJ7_copyOf_6403c, Cond.static yJ7_copyOf_6403c, Cond.code yJ7_copyOf_6403c cJ7_copyOf_6403c 4 (some (.array (.object "java/lang/Object"))), Cond.classLink RJ7 110 "[Ljava/lang/Object;", Cond.classLink RJ7 2 "java/lang/Object", Cond.methodLink RJ7 304 Lib.Math.min.name, Cond.static Lib.Math.min.name, Cond.code Lib.Math.min.name Lib.Math.min.code 2 (some .int), Cond.methodLink RJ7 150 arraycopyName, Cond.native arraycopyName, Cond.static arraycopyName, Cond.initialized "java/lang/System"]
def wsJx4a65c_grow_92f84 : List Cond := .code yJx4a65c_grow_92f84 cJx4a65c_grow_92f84 4 (some (.array (.object "java/lang/Object"))) :: ((wsJx4a65c_grow_92f84_r1 ++ wsJx4a65c_grow_92f84_r2) ++ wsJx4a65c0)
def wsJx4a65c_grow_d5877_r1 : List Cond := [Cond.fieldLink RJx4a65c 48 "java/util/ArrayList" "size" "I", Cond.methodLink RJx4a65c 69 yJx4a65c_grow_92f84, Cond.instanceMethod yJx4a65c_grow_92f84, Cond.selects RJx4a65c yJx4a65c_grow_92f84 yJx4a65c_grow_92f84, Cond.initialized RJx4a65c, Cond.code yJx4a65c_grow_92f84 cJx4a65c_grow_92f84 4 (some (.array (.object "java/lang/Object"))), Cond.fieldLink RJx4a65c 9 "java/util/ArrayList" "elementData" "[Ljava/lang/Object;", Cond.fieldLink RJx4a65c 39 "java/util/ArrayList" "DEFAULTCAPACITY_EMPTY_ELEMENTDATA" "[Ljava/lang/Object;", Cond.methodLink RJx4a65c 79 Lib.Math.max.name, Cond.static Lib.Math.max.name, Cond.initialized "java/lang/Math", Cond.code Lib.Math.max.name Lib.Math.max.code 2 (some .int), Cond.classLink RJx4a65c 7 "java/lang/Object", Cond.methodLink RJx4a65c 73 yJ8_newLength_cabcc, Cond.static yJ8_newLength_cabcc, Cond.initialized RJ8, Cond.code yJ8_newLength_cabcc cJ8_newLength_cabcc 4 (some .int), Cond.methodLink RJ8 194 Lib.Math.max.name, Cond.constant RJ8 200 (2147483639), Cond.methodLink RJ8 201 yJ8_hugeLength_7cf53, Cond.static yJ8_hugeLength_7cf53, Cond.code yJ8_hugeLength_7cf53 cJ8_hugeLength_7cf53 3 (some .int), Cond.methodLink RJx4a65c 66 yJ7_copyOf_1904c, Cond.static yJ7_copyOf_1904c]
def wsJx4a65c_grow_d5877_r2 : List Cond := [Cond.initialized RJ7, Cond.code yJ7_copyOf_1904c cJ7_copyOf_1904c 2 (some (.array (.object "java/lang/Object"))), Cond.methodLink RJ7 86 ⟨"java/lang/Object", "getClass", "()Ljava/lang/Class;"⟩, Cond.selects "[Ljava/lang/Object;" ⟨"java/lang/Object", "getClass", "()Ljava/lang/Class;"⟩ ⟨"java/lang/Object", "getClass", "()Ljava/lang/Class;"⟩, Cond.instanceMethod ⟨"java/lang/Object", "getClass", "()Ljava/lang/Class;"⟩, Cond.native ⟨"java/lang/Object", "getClass", "()Ljava/lang/Class;"⟩, Cond.methodLink RJ7 300 yJ7_copyOf_6403c, Cond.static yJ7_copyOf_6403c, Cond.code yJ7_copyOf_6403c cJ7_copyOf_6403c 4 (some (.array (.object "java/lang/Object"))), Cond.classLink RJ7 110 "[Ljava/lang/Object;", Cond.classLink RJ7 2 "java/lang/Object", Cond.methodLink RJ7 304 Lib.Math.min.name, Cond.static Lib.Math.min.name, Cond.code Lib.Math.min.name Lib.Math.min.code 2 (some .int), Cond.methodLink RJ7 150 arraycopyName, Cond.native arraycopyName, Cond.static arraycopyName, Cond.initialized "java/lang/System"]
def wsJx4a65c_grow_d5877 : List Cond := .code yJx4a65c_grow_d5877 cJx4a65c_grow_d5877 1 (some (.array (.object "java/lang/Object"))) :: ((wsJx4a65c_grow_d5877_r1 ++ wsJx4a65c_grow_d5877_r2) ++ wsJx4a65c0)
def wsJx4a65c_add_72be8_r1 : List Cond := [Cond.fieldLink RJx4a65c 48 "java/util/ArrayList" "size" "I", Cond.methodLink RJx4a65c 129 yJx4a65c_grow_d5877, Cond.instanceMethod yJx4a65c_grow_d5877, Cond.selects RJx4a65c yJx4a65c_grow_d5877 yJx4a65c_grow_d5877, Cond.initialized RJx4a65c, Cond.code yJx4a65c_grow_d5877 cJx4a65c_grow_d5877 1 (some (.array (.object "java/lang/Object"))), Cond.methodLink RJx4a65c 69 yJx4a65c_grow_92f84, Cond.instanceMethod yJx4a65c_grow_92f84, Cond.selects RJx4a65c yJx4a65c_grow_92f84 yJx4a65c_grow_92f84, Cond.code yJx4a65c_grow_92f84 cJx4a65c_grow_92f84 4 (some (.array (.object "java/lang/Object"))), Cond.fieldLink RJx4a65c 9 "java/util/ArrayList" "elementData" "[Ljava/lang/Object;", Cond.fieldLink RJx4a65c 39 "java/util/ArrayList" "DEFAULTCAPACITY_EMPTY_ELEMENTDATA" "[Ljava/lang/Object;", Cond.methodLink RJx4a65c 79 Lib.Math.max.name, Cond.static Lib.Math.max.name, Cond.initialized "java/lang/Math", Cond.code Lib.Math.max.name Lib.Math.max.code 2 (some .int), Cond.classLink RJx4a65c 7 "java/lang/Object", Cond.methodLink RJx4a65c 73 yJ8_newLength_cabcc, Cond.static yJ8_newLength_cabcc, Cond.initialized RJ8, Cond.code yJ8_newLength_cabcc cJ8_newLength_cabcc 4 (some .int), Cond.methodLink RJ8 194 Lib.Math.max.name, Cond.constant RJ8 200 (2147483639), Cond.methodLink RJ8 201 yJ8_hugeLength_7cf53]
def wsJx4a65c_add_72be8_r2 : List Cond := [Cond.static yJ8_hugeLength_7cf53, Cond.code yJ8_hugeLength_7cf53 cJ8_hugeLength_7cf53 3 (some .int), Cond.methodLink RJx4a65c 66 yJ7_copyOf_1904c, Cond.static yJ7_copyOf_1904c, Cond.initialized RJ7, Cond.code yJ7_copyOf_1904c cJ7_copyOf_1904c 2 (some (.array (.object "java/lang/Object"))), Cond.methodLink RJ7 86 ⟨"java/lang/Object", "getClass", "()Ljava/lang/Class;"⟩, Cond.selects "[Ljava/lang/Object;" ⟨"java/lang/Object", "getClass", "()Ljava/lang/Class;"⟩ ⟨"java/lang/Object", "getClass", "()Ljava/lang/Class;"⟩, Cond.instanceMethod ⟨"java/lang/Object", "getClass", "()Ljava/lang/Class;"⟩, Cond.native ⟨"java/lang/Object", "getClass", "()Ljava/lang/Class;"⟩, Cond.methodLink RJ7 300 yJ7_copyOf_6403c, Cond.static yJ7_copyOf_6403c, Cond.code yJ7_copyOf_6403c cJ7_copyOf_6403c 4 (some (.array (.object "java/lang/Object"))), Cond.classLink RJ7 110 "[Ljava/lang/Object;", Cond.classLink RJ7 2 "java/lang/Object", Cond.methodLink RJ7 304 Lib.Math.min.name, Cond.static Lib.Math.min.name, Cond.code Lib.Math.min.name Lib.Math.min.code 2 (some .int), Cond.methodLink RJ7 150 arraycopyName, Cond.native arraycopyName, Cond.static arraycopyName, Cond.initialized "java/lang/System"]
def wsJx4a65c_add_72be8 : List Cond := .code yJx4a65c_add_72be8 cJx4a65c_add_72be8 4 none :: ((wsJx4a65c_add_72be8_r1 ++ wsJx4a65c_add_72be8_r2) ++ wsJx4a65c0)
def wsJx4a65c_add_9ea2d_r1 : List Cond := [Cond.fieldLink RJx4a65c 63 "java/util/ArrayList" "modCount" "I", Cond.sameField "java/util/ArrayList" "java/util/AbstractList" "modCount" "I", Cond.fieldLink RJx4a65c 9 "java/util/ArrayList" "elementData" "[Ljava/lang/Object;", Cond.fieldLink RJx4a65c 48 "java/util/ArrayList" "size" "I", Cond.methodLink RJx4a65c 131 yJx4a65c_add_72be8, Cond.instanceMethod yJx4a65c_add_72be8, Cond.selects RJx4a65c yJx4a65c_add_72be8 yJx4a65c_add_72be8, Cond.initialized RJx4a65c, Cond.code yJx4a65c_add_72be8 cJx4a65c_add_72be8 4 none, Cond.methodLink RJx4a65c 129 yJx4a65c_grow_d5877, Cond.instanceMethod yJx4a65c_grow_d5877, Cond.selects RJx4a65c yJx4a65c_grow_d5877 yJx4a65c_grow_d5877, Cond.code yJx4a65c_grow_d5877 cJx4a65c_grow_d5877 1 (some (.array (.object "java/lang/Object"))), Cond.methodLink RJx4a65c 69 yJx4a65c_grow_92f84, Cond.instanceMethod yJx4a65c_grow_92f84, Cond.selects RJx4a65c yJx4a65c_grow_92f84 yJx4a65c_grow_92f84, Cond.code yJx4a65c_grow_92f84 cJx4a65c_grow_92f84 4 (some (.array (.object "java/lang/Object"))), Cond.fieldLink RJx4a65c 39 "java/util/ArrayList" "DEFAULTCAPACITY_EMPTY_ELEMENTDATA" "[Ljava/lang/Object;", Cond.methodLink RJx4a65c 79 Lib.Math.max.name, Cond.static Lib.Math.max.name, Cond.initialized "java/lang/Math", Cond.code Lib.Math.max.name Lib.Math.max.code 2 (some .int), Cond.classLink RJx4a65c 7 "java/lang/Object", Cond.methodLink RJx4a65c 73 yJ8_newLength_cabcc]
def wsJx4a65c_add_9ea2d_r2 : List Cond := [Cond.static yJ8_newLength_cabcc, Cond.initialized RJ8, Cond.code yJ8_newLength_cabcc cJ8_newLength_cabcc 4 (some .int), Cond.methodLink RJ8 194 Lib.Math.max.name, Cond.constant RJ8 200 (2147483639), Cond.methodLink RJ8 201 yJ8_hugeLength_7cf53, Cond.static yJ8_hugeLength_7cf53, Cond.code yJ8_hugeLength_7cf53 cJ8_hugeLength_7cf53 3 (some .int), Cond.methodLink RJx4a65c 66 yJ7_copyOf_1904c, Cond.static yJ7_copyOf_1904c, Cond.initialized RJ7, Cond.code yJ7_copyOf_1904c cJ7_copyOf_1904c 2 (some (.array (.object "java/lang/Object"))), Cond.methodLink RJ7 86 ⟨"java/lang/Object", "getClass", "()Ljava/lang/Class;"⟩, Cond.selects "[Ljava/lang/Object;" ⟨"java/lang/Object", "getClass", "()Ljava/lang/Class;"⟩ ⟨"java/lang/Object", "getClass", "()Ljava/lang/Class;"⟩, Cond.instanceMethod ⟨"java/lang/Object", "getClass", "()Ljava/lang/Class;"⟩, Cond.native ⟨"java/lang/Object", "getClass", "()Ljava/lang/Class;"⟩, Cond.methodLink RJ7 300 yJ7_copyOf_6403c, Cond.static yJ7_copyOf_6403c, Cond.code yJ7_copyOf_6403c cJ7_copyOf_6403c 4 (some (.array (.object "java/lang/Object"))), Cond.classLink RJ7 110 "[Ljava/lang/Object;", Cond.classLink RJ7 2 "java/lang/Object", Cond.methodLink RJ7 304 Lib.Math.min.name, Cond.static Lib.Math.min.name, Cond.code Lib.Math.min.name Lib.Math.min.code 2 (some .int)]
def wsJx4a65c_add_9ea2d_r3 : List Cond := [Cond.methodLink RJ7 150 arraycopyName, Cond.native arraycopyName, Cond.static arraycopyName, Cond.initialized "java/lang/System"]
def wsJx4a65c_add_9ea2d : List Cond := .code yJx4a65c_add_9ea2d cJx4a65c_add_9ea2d 2 (some .boolean) :: ((wsJx4a65c_add_9ea2d_r1 ++ (wsJx4a65c_add_9ea2d_r2 ++ wsJx4a65c_add_9ea2d_r3)) ++ wsJx4a65c0)
def wsX5_letter_r1 : List Cond := [Cond.classLink RX5 55 "java/lang/IllegalStateException", Cond.initialized "java/lang/IllegalStateException", Cond.fieldLink RX5 10 "InkHall" "pen" "LInkHall$Strokes;", Cond.fieldLink RX5 26 "InkHall" "letters" "Ljava/util/ArrayList;", Cond.classLink RX5 7 RX4, Cond.instantiable RX4 2, Cond.initialized RX4, Cond.methodLink RX5 51 yX4_size, Cond.instanceMethod yX4_size, Cond.selects RX4 yX4_size yX4_size, Cond.code yX4_size cX4_size 1 (some .int), Cond.fieldLink RX4 15 "InkHall$Strokes" "count" "I", Cond.methodLink RX5 72 yX4_hasLineTwice, Cond.instanceMethod yX4_hasLineTwice, Cond.selects RX4 yX4_hasLineTwice yX4_hasLineTwice, Cond.code yX4_hasLineTwice cX4_hasLineTwice 2 (some .boolean), Cond.fieldLink RX4 9 "InkHall$Strokes" "codes" "[I", Cond.methodLink RX4 38 yX4_firstOnLineOf, Cond.instanceMethod yX4_firstOnLineOf, Cond.selects RX4 yX4_firstOnLineOf yX4_firstOnLineOf, Cond.code yX4_firstOnLineOf cX4_firstOnLineOf 3 (some .int), Cond.methodLink RX4 35 yX4_turnedRound, Cond.static yX4_turnedRound, Cond.code yX4_turnedRound cX4_turnedRound 1 (some .int)]
def wsX5_letter_r2 : List Cond := [Cond.methodLink RX4 19 yX4_codeOf, Cond.static yX4_codeOf, Cond.code yX4_codeOf cX4_codeOf 2 (some .int), Cond.methodLink RX5 78 yJx4a65c_size_8abf5, Cond.instanceMethod yJx4a65c_size_8abf5, Cond.selects RJx4a65c yJx4a65c_size_8abf5 yJx4a65c_size_8abf5, Cond.initialized RJx4a65c, Cond.code yJx4a65c_size_8abf5 cJx4a65c_size_8abf5 1 (some .int), Cond.fieldLink RJx4a65c 48 "java/util/ArrayList" "size" "I", Cond.methodLink RX5 9 yX4_init, Cond.instanceMethod yX4_init, Cond.code yX4_init cX4_init 1 none, Cond.methodLink RX4 3 objectInit, Cond.instanceMethod objectInit, Cond.code objectInit ⟨#[0xb1]⟩ 1 none, Cond.arrayClass .int, Cond.methodLink RX5 81 yX4_addAll, Cond.instanceMethod yX4_addAll, Cond.selects RX4 yX4_addAll yX4_addAll, Cond.code yX4_addAll cX4_addAll 3 none, Cond.methodLink RX4 23 yX4_size, Cond.methodLink RX4 27 yX4_codeAt, Cond.instanceMethod yX4_codeAt, Cond.selects RX4 yX4_codeAt yX4_codeAt]
def wsX5_letter_r3 : List Cond := [Cond.code yX4_codeAt cX4_codeAt 2 (some .int), Cond.methodLink RX4 31 yX4_add, Cond.instanceMethod yX4_add, Cond.selects RX4 yX4_add yX4_add, Cond.code yX4_add cX4_add 2 none, Cond.methodLink RX5 85 yJx4a65c_add_9ea2d, Cond.instanceMethod yJx4a65c_add_9ea2d, Cond.selects RJx4a65c yJx4a65c_add_9ea2d yJx4a65c_add_9ea2d, Cond.code yJx4a65c_add_9ea2d cJx4a65c_add_9ea2d 2 (some .boolean), Cond.fieldLink RJx4a65c 63 "java/util/ArrayList" "modCount" "I", Cond.sameField "java/util/ArrayList" "java/util/AbstractList" "modCount" "I", Cond.fieldLink RJx4a65c 9 "java/util/ArrayList" "elementData" "[Ljava/lang/Object;", Cond.methodLink RJx4a65c 131 yJx4a65c_add_72be8, Cond.instanceMethod yJx4a65c_add_72be8, Cond.selects RJx4a65c yJx4a65c_add_72be8 yJx4a65c_add_72be8, Cond.code yJx4a65c_add_72be8 cJx4a65c_add_72be8 4 none, Cond.methodLink RJx4a65c 129 yJx4a65c_grow_d5877, Cond.instanceMethod yJx4a65c_grow_d5877, Cond.selects RJx4a65c yJx4a65c_grow_d5877 yJx4a65c_grow_d5877, Cond.code yJx4a65c_grow_d5877 cJx4a65c_grow_d5877 1 (some (.array (.object "java/lang/Object"))), Cond.methodLink RJx4a65c 69 yJx4a65c_grow_92f84, Cond.instanceMethod yJx4a65c_grow_92f84, Cond.selects RJx4a65c yJx4a65c_grow_92f84 yJx4a65c_grow_92f84, Cond.code yJx4a65c_grow_92f84 cJx4a65c_grow_92f84 4 (some (.array (.object "java/lang/Object")))]
def wsX5_letter_r4 : List Cond := [Cond.fieldLink RJx4a65c 39 "java/util/ArrayList" "DEFAULTCAPACITY_EMPTY_ELEMENTDATA" "[Ljava/lang/Object;", Cond.methodLink RJx4a65c 79 Lib.Math.max.name, Cond.static Lib.Math.max.name, Cond.initialized "java/lang/Math", Cond.code Lib.Math.max.name Lib.Math.max.code 2 (some .int), Cond.classLink RJx4a65c 7 "java/lang/Object", Cond.methodLink RJx4a65c 73 yJ8_newLength_cabcc, Cond.static yJ8_newLength_cabcc, Cond.initialized RJ8, Cond.code yJ8_newLength_cabcc cJ8_newLength_cabcc 4 (some .int), Cond.methodLink RJ8 194 Lib.Math.max.name, Cond.constant RJ8 200 (2147483639), Cond.methodLink RJ8 201 yJ8_hugeLength_7cf53, Cond.static yJ8_hugeLength_7cf53, Cond.code yJ8_hugeLength_7cf53 cJ8_hugeLength_7cf53 3 (some .int), Cond.methodLink RJx4a65c 66 yJ7_copyOf_1904c, Cond.static yJ7_copyOf_1904c, Cond.initialized RJ7, Cond.code yJ7_copyOf_1904c cJ7_copyOf_1904c 2 (some (.array (.object "java/lang/Object"))), Cond.methodLink RJ7 86 ⟨"java/lang/Object", "getClass", "()Ljava/lang/Class;"⟩, Cond.selects "[Ljava/lang/Object;" ⟨"java/lang/Object", "getClass", "()Ljava/lang/Class;"⟩ ⟨"java/lang/Object", "getClass", "()Ljava/lang/Class;"⟩, Cond.instanceMethod ⟨"java/lang/Object", "getClass", "()Ljava/lang/Class;"⟩, Cond.native ⟨"java/lang/Object", "getClass", "()Ljava/lang/Class;"⟩, Cond.methodLink RJ7 300 yJ7_copyOf_6403c]
def wsX5_letter_r5 : List Cond := [Cond.static yJ7_copyOf_6403c, Cond.code yJ7_copyOf_6403c cJ7_copyOf_6403c 4 (some (.array (.object "java/lang/Object"))), Cond.classLink RJ7 110 "[Ljava/lang/Object;", Cond.classLink RJ7 2 "java/lang/Object", Cond.methodLink RJ7 304 Lib.Math.min.name, Cond.static Lib.Math.min.name, Cond.code Lib.Math.min.name Lib.Math.min.code 2 (some .int), Cond.methodLink RJ7 150 arraycopyName, Cond.native arraycopyName, Cond.static arraycopyName, Cond.initialized "java/lang/System", Cond.methodLink RX5 67 yX4_clear, Cond.instanceMethod yX4_clear, Cond.selects RX4 yX4_clear yX4_clear, Cond.code yX4_clear cX4_clear 1 none]
def wsX5_letter : List Cond := .code yX5_letter cX5_letter 2 (some .int) :: ((wsX5_letter_r1 ++ (wsX5_letter_r2 ++ (wsX5_letter_r3 ++ (wsX5_letter_r4 ++ wsX5_letter_r5)))) ++ wsX50 ++ wsX40 ++ wsJx4a65c0 ++ (vx_atS RX5 59 "java/lang/IllegalStateException" ["java/lang/RuntimeException", "java/lang/Exception"]).filter goodWord)
def wsJ3_checkIndex_8e157 : List Cond := .code yJ3_checkIndex_8e157 cJ3_checkIndex_8e157 3 (some .int) :: ([])
def wsJ15_checkIndex_7cf53 : List Cond := .code yJ15_checkIndex_7cf53 cJ15_checkIndex_7cf53 2 (some .int) :: ([.methodLink RJ15 105 yJ3_checkIndex_8e157, .static yJ3_checkIndex_8e157, .initialized RJ3, .code yJ3_checkIndex_8e157 cJ3_checkIndex_8e157 3 (some .int)])
def wsJx4a65c_elementData_915e3 : List Cond := .code yJx4a65c_elementData_915e3 cJx4a65c_elementData_915e3 2 (some (.object "java/lang/Object")) :: ([.fieldLink RJx4a65c 9 "java/util/ArrayList" "elementData" "[Ljava/lang/Object;"] ++ wsJx4a65c0)
def wsJx4a65c_get_915e3 : List Cond := .code yJx4a65c_get_915e3 cJx4a65c_get_915e3 2 (some (.object "java/lang/Object")) :: ([.fieldLink RJx4a65c 48 "java/util/ArrayList" "size" "I", .methodLink RJx4a65c 118 yJ15_checkIndex_7cf53, .static yJ15_checkIndex_7cf53, .initialized RJ15, .code yJ15_checkIndex_7cf53 cJ15_checkIndex_7cf53 2 (some .int), .methodLink RJ15 105 yJ3_checkIndex_8e157, .static yJ3_checkIndex_8e157, .initialized RJ3, .code yJ3_checkIndex_8e157 cJ3_checkIndex_8e157 3 (some .int), .methodLink RJx4a65c 123 yJx4a65c_elementData_915e3, .instanceMethod yJx4a65c_elementData_915e3, .selects RJx4a65c yJx4a65c_elementData_915e3 yJx4a65c_elementData_915e3, .initialized RJx4a65c, .code yJx4a65c_elementData_915e3 cJx4a65c_elementData_915e3 2 (some (.object "java/lang/Object")), .fieldLink RJx4a65c 9 "java/util/ArrayList" "elementData" "[Ljava/lang/Object;"] ++ wsJx4a65c0)
def wsX5_letterNumbered_r1 : List Cond := [Cond.classLink RX5 92 "java/lang/IndexOutOfBoundsException", Cond.initialized "java/lang/IndexOutOfBoundsException", Cond.fieldLink RX5 26 "InkHall" "letters" "Ljava/util/ArrayList;", Cond.classLink RX5 7 "InkHall$Strokes", Cond.methodLink RX5 78 yJx4a65c_size_8abf5, Cond.instanceMethod yJx4a65c_size_8abf5, Cond.selects RJx4a65c yJx4a65c_size_8abf5 yJx4a65c_size_8abf5, Cond.initialized RJx4a65c, Cond.code yJx4a65c_size_8abf5 cJx4a65c_size_8abf5 1 (some .int), Cond.fieldLink RJx4a65c 48 "java/util/ArrayList" "size" "I", Cond.methodLink RX5 209 yJx4a65c_get_915e3, Cond.instanceMethod yJx4a65c_get_915e3, Cond.selects RJx4a65c yJx4a65c_get_915e3 yJx4a65c_get_915e3, Cond.code yJx4a65c_get_915e3 cJx4a65c_get_915e3 2 (some (.object "java/lang/Object")), Cond.methodLink RJx4a65c 118 yJ15_checkIndex_7cf53, Cond.static yJ15_checkIndex_7cf53, Cond.initialized RJ15, Cond.code yJ15_checkIndex_7cf53 cJ15_checkIndex_7cf53 2 (some .int), Cond.methodLink RJ15 105 yJ3_checkIndex_8e157, Cond.static yJ3_checkIndex_8e157, Cond.initialized RJ3, Cond.code yJ3_checkIndex_8e157 cJ3_checkIndex_8e157 3 (some .int), Cond.methodLink RJx4a65c 123 yJx4a65c_elementData_915e3, Cond.instanceMethod yJx4a65c_elementData_915e3]
def wsX5_letterNumbered_r2 : List Cond := [Cond.selects RJx4a65c yJx4a65c_elementData_915e3 yJx4a65c_elementData_915e3, Cond.code yJx4a65c_elementData_915e3 cJx4a65c_elementData_915e3 2 (some (.object "java/lang/Object")), Cond.fieldLink RJx4a65c 9 "java/util/ArrayList" "elementData" "[Ljava/lang/Object;"]
def wsX5_letterNumbered : List Cond := .code yX5_letterNumbered cX5_letterNumbered 2 (some (.object "InkHall$Strokes")) :: ((wsX5_letterNumbered_r1 ++ wsX5_letterNumbered_r2) ++ wsX50 ++ wsJx4a65c0 ++ (vx_atS RX5 96 "java/lang/IndexOutOfBoundsException" ["java/lang/RuntimeException", "java/lang/Exception"]).filter goodWord)
def wsX5_strokeOf_r1 : List Cond := [Cond.classLink RX5 92 "java/lang/IndexOutOfBoundsException", Cond.initialized "java/lang/IndexOutOfBoundsException", Cond.methodLink RX5 88 yX5_letterNumbered, Cond.instanceMethod yX5_letterNumbered, Cond.selects RX5 yX5_letterNumbered yX5_letterNumbered, Cond.initialized RX5, Cond.code yX5_letterNumbered cX5_letterNumbered 2 (some (.object "InkHall$Strokes")), Cond.fieldLink RX5 26 "InkHall" "letters" "Ljava/util/ArrayList;", Cond.classLink RX5 7 "InkHall$Strokes", Cond.methodLink RX5 78 yJx4a65c_size_8abf5, Cond.instanceMethod yJx4a65c_size_8abf5, Cond.selects RJx4a65c yJx4a65c_size_8abf5 yJx4a65c_size_8abf5, Cond.initialized RJx4a65c, Cond.code yJx4a65c_size_8abf5 cJx4a65c_size_8abf5 1 (some .int), Cond.fieldLink RJx4a65c 48 "java/util/ArrayList" "size" "I", Cond.methodLink RX5 209 yJx4a65c_get_915e3, Cond.instanceMethod yJx4a65c_get_915e3, Cond.selects RJx4a65c yJx4a65c_get_915e3 yJx4a65c_get_915e3, Cond.code yJx4a65c_get_915e3 cJx4a65c_get_915e3 2 (some (.object "java/lang/Object")), Cond.methodLink RJx4a65c 118 yJ15_checkIndex_7cf53, Cond.static yJ15_checkIndex_7cf53, Cond.initialized RJ15, Cond.code yJ15_checkIndex_7cf53 cJ15_checkIndex_7cf53 2 (some .int), Cond.methodLink RJ15 105 yJ3_checkIndex_8e157]
def wsX5_strokeOf_r2 : List Cond := [Cond.static yJ3_checkIndex_8e157, Cond.initialized RJ3, Cond.code yJ3_checkIndex_8e157 cJ3_checkIndex_8e157 3 (some .int), Cond.methodLink RJx4a65c 123 yJx4a65c_elementData_915e3, Cond.instanceMethod yJx4a65c_elementData_915e3, Cond.selects RJx4a65c yJx4a65c_elementData_915e3 yJx4a65c_elementData_915e3, Cond.code yJx4a65c_elementData_915e3 cJx4a65c_elementData_915e3 2 (some (.object "java/lang/Object")), Cond.fieldLink RJx4a65c 9 "java/util/ArrayList" "elementData" "[Ljava/lang/Object;", Cond.methodLink RX5 97 yX4_codeAt, Cond.instanceMethod yX4_codeAt, Cond.selects RX4 yX4_codeAt yX4_codeAt, Cond.initialized RX4, Cond.code yX4_codeAt cX4_codeAt 2 (some .int), Cond.fieldLink RX4 15 "InkHall$Strokes" "count" "I", Cond.fieldLink RX4 9 "InkHall$Strokes" "codes" "[I"]
def wsX5_strokeOf : List Cond := .code yX5_strokeOf cX5_strokeOf 4 (some .int) :: ((wsX5_strokeOf_r1 ++ wsX5_strokeOf_r2) ++ wsX50 ++ wsJx4a65c0 ++ wsX40 ++ (vx_atS RX5 96 "java/lang/IndexOutOfBoundsException" ["java/lang/RuntimeException", "java/lang/Exception"]).filter goodWord)
def wsX5_checkClass : List Cond := .code yX5_checkClass cX5_checkClass 1 none :: ([.classLink RX5 92 "java/lang/IndexOutOfBoundsException", .initialized "java/lang/IndexOutOfBoundsException"] ++ (vx_atS RX5 96 "java/lang/IndexOutOfBoundsException" ["java/lang/RuntimeException", "java/lang/Exception"]).filter goodWord)
def wsX5_bandOf : List Cond := .code yX5_bandOf cX5_bandOf 1 (some .int) :: ([])
def wsX5_pupil_r1 : List Cond := [Cond.classLink RX5 44 "java/lang/IllegalArgumentException", Cond.initialized "java/lang/IllegalArgumentException", Cond.classLink RX5 55 "java/lang/IllegalStateException", Cond.initialized "java/lang/IllegalStateException", Cond.fieldLink RX5 30 "InkHall" "pupils" "Ljava/util/ArrayList;", Cond.classLink RX5 108 RX2, Cond.instantiable RX2 3, Cond.initialized RX2, Cond.methodLink RX5 101 yX5_checkClass, Cond.static yX5_checkClass, Cond.initialized RX5, Cond.code yX5_checkClass cX5_checkClass 1 none, Cond.classLink RX5 92 "java/lang/IndexOutOfBoundsException", Cond.initialized "java/lang/IndexOutOfBoundsException", Cond.methodLink RX5 78 yJx4a65c_size_8abf5, Cond.instanceMethod yJx4a65c_size_8abf5, Cond.selects RJx4a65c yJx4a65c_size_8abf5 yJx4a65c_size_8abf5, Cond.initialized RJx4a65c, Cond.code yJx4a65c_size_8abf5 cJx4a65c_size_8abf5 1 (some .int), Cond.fieldLink RJx4a65c 48 "java/util/ArrayList" "size" "I", Cond.methodLink RX5 110 yX5_bandOf, Cond.static yX5_bandOf, Cond.code yX5_bandOf cX5_bandOf 1 (some .int), Cond.methodLink RX5 113 yX2_init]
def wsX5_pupil_r2 : List Cond := [Cond.instanceMethod yX2_init, Cond.code yX2_init cX2_init 4 none, Cond.methodLink RX2 1 objectInit, Cond.instanceMethod objectInit, Cond.code objectInit ⟨#[0xb1]⟩ 1 none, Cond.fieldLink RX2 7 "InkHall$Pupil" "group" "I", Cond.fieldLink RX2 13 "InkHall$Pupil" "band" "I", Cond.fieldLink RX2 16 "InkHall$Pupil" "isLeft" "Z", Cond.methodLink RX5 85 yJx4a65c_add_9ea2d, Cond.instanceMethod yJx4a65c_add_9ea2d, Cond.selects RJx4a65c yJx4a65c_add_9ea2d yJx4a65c_add_9ea2d, Cond.code yJx4a65c_add_9ea2d cJx4a65c_add_9ea2d 2 (some .boolean), Cond.fieldLink RJx4a65c 63 "java/util/ArrayList" "modCount" "I", Cond.sameField "java/util/ArrayList" "java/util/AbstractList" "modCount" "I", Cond.fieldLink RJx4a65c 9 "java/util/ArrayList" "elementData" "[Ljava/lang/Object;", Cond.methodLink RJx4a65c 131 yJx4a65c_add_72be8, Cond.instanceMethod yJx4a65c_add_72be8, Cond.selects RJx4a65c yJx4a65c_add_72be8 yJx4a65c_add_72be8, Cond.code yJx4a65c_add_72be8 cJx4a65c_add_72be8 4 none, Cond.methodLink RJx4a65c 129 yJx4a65c_grow_d5877, Cond.instanceMethod yJx4a65c_grow_d5877, Cond.selects RJx4a65c yJx4a65c_grow_d5877 yJx4a65c_grow_d5877, Cond.code yJx4a65c_grow_d5877 cJx4a65c_grow_d5877 1 (some (.array (.object "java/lang/Object"))), Cond.methodLink RJx4a65c 69 yJx4a65c_grow_92f84]
def wsX5_pupil_r3 : List Cond := [Cond.instanceMethod yJx4a65c_grow_92f84, Cond.selects RJx4a65c yJx4a65c_grow_92f84 yJx4a65c_grow_92f84, Cond.code yJx4a65c_grow_92f84 cJx4a65c_grow_92f84 4 (some (.array (.object "java/lang/Object"))), Cond.fieldLink RJx4a65c 39 "java/util/ArrayList" "DEFAULTCAPACITY_EMPTY_ELEMENTDATA" "[Ljava/lang/Object;", Cond.methodLink RJx4a65c 79 Lib.Math.max.name, Cond.static Lib.Math.max.name, Cond.initialized "java/lang/Math", Cond.code Lib.Math.max.name Lib.Math.max.code 2 (some .int), Cond.classLink RJx4a65c 7 "java/lang/Object", Cond.methodLink RJx4a65c 73 yJ8_newLength_cabcc, Cond.static yJ8_newLength_cabcc, Cond.initialized RJ8, Cond.code yJ8_newLength_cabcc cJ8_newLength_cabcc 4 (some .int), Cond.methodLink RJ8 194 Lib.Math.max.name, Cond.constant RJ8 200 (2147483639), Cond.methodLink RJ8 201 yJ8_hugeLength_7cf53, Cond.static yJ8_hugeLength_7cf53, Cond.code yJ8_hugeLength_7cf53 cJ8_hugeLength_7cf53 3 (some .int), Cond.methodLink RJx4a65c 66 yJ7_copyOf_1904c, Cond.static yJ7_copyOf_1904c, Cond.initialized RJ7, Cond.code yJ7_copyOf_1904c cJ7_copyOf_1904c 2 (some (.array (.object "java/lang/Object"))), Cond.methodLink RJ7 86 ⟨"java/lang/Object", "getClass", "()Ljava/lang/Class;"⟩, Cond.selects "[Ljava/lang/Object;" ⟨"java/lang/Object", "getClass", "()Ljava/lang/Class;"⟩ ⟨"java/lang/Object", "getClass", "()Ljava/lang/Class;"⟩]
def wsX5_pupil_r4 : List Cond := [Cond.instanceMethod ⟨"java/lang/Object", "getClass", "()Ljava/lang/Class;"⟩, Cond.native ⟨"java/lang/Object", "getClass", "()Ljava/lang/Class;"⟩, Cond.methodLink RJ7 300 yJ7_copyOf_6403c, Cond.static yJ7_copyOf_6403c, Cond.code yJ7_copyOf_6403c cJ7_copyOf_6403c 4 (some (.array (.object "java/lang/Object"))), Cond.classLink RJ7 110 "[Ljava/lang/Object;", Cond.classLink RJ7 2 "java/lang/Object", Cond.methodLink RJ7 304 Lib.Math.min.name, Cond.static Lib.Math.min.name, Cond.code Lib.Math.min.name Lib.Math.min.code 2 (some .int), Cond.methodLink RJ7 150 arraycopyName, Cond.native arraycopyName, Cond.static arraycopyName, Cond.initialized "java/lang/System"]
def wsX5_pupil : List Cond := .code yX5_pupil cX5_pupil 4 (some .int) :: ((wsX5_pupil_r1 ++ (wsX5_pupil_r2 ++ (wsX5_pupil_r3 ++ wsX5_pupil_r4))) ++ wsX50 ++ wsX20 ++ wsJx4a65c0 ++ (vx_atS RX5 48 "java/lang/IllegalArgumentException" ["java/lang/RuntimeException", "java/lang/Exception"]).filter goodWord ++ (vx_atS RX5 59 "java/lang/IllegalStateException" ["java/lang/RuntimeException", "java/lang/Exception"]).filter goodWord ++ (vx_atS RX5 96 "java/lang/IndexOutOfBoundsException" ["java/lang/RuntimeException", "java/lang/Exception"]).filter goodWord)
def wsX5_checkBand : List Cond := .code yX5_checkBand cX5_checkBand 1 none :: ([.classLink RX5 92 "java/lang/IndexOutOfBoundsException", .initialized "java/lang/IndexOutOfBoundsException"] ++ (vx_atS RX5 96 "java/lang/IndexOutOfBoundsException" ["java/lang/RuntimeException", "java/lang/Exception"]).filter goodWord)
def wsX5_print : List Cond := .code yX5_print cX5_print 4 (some .int) :: ([.classLink RX5 44 "java/lang/IllegalArgumentException", .initialized "java/lang/IllegalArgumentException", .fieldLink RX5 19 "InkHall" "press" "LInkHall$Press;", .methodLink RX5 116 yX5_checkBand, .static yX5_checkBand, .initialized RX5, .code yX5_checkBand cX5_checkBand 1 none, .classLink RX5 92 "java/lang/IndexOutOfBoundsException", .initialized "java/lang/IndexOutOfBoundsException", .methodLink RX5 121 yX1_add, .instanceMethod yX1_add, .selects RX1 yX1_add yX1_add, .initialized RX1, .code yX1_add cX1_add 4 none, .fieldLink RX1 9 "InkHall$Press" "forLeft" "[I", .fieldLink RX1 15 "InkHall$Press" "forRight" "[I", .methodLink RX5 124 yX1_countOf, .instanceMethod yX1_countOf, .selects RX1 yX1_countOf yX1_countOf, .code yX1_countOf cX1_countOf 3 (some .int)] ++ wsX50 ++ wsX10 ++ (vx_atS RX5 48 "java/lang/IllegalArgumentException" ["java/lang/RuntimeException", "java/lang/Exception"]).filter goodWord ++ (vx_atS RX5 96 "java/lang/IndexOutOfBoundsException" ["java/lang/RuntimeException", "java/lang/Exception"]).filter goodWord)
def wsX5_sheets : List Cond := .code yX5_sheets cX5_sheets 3 (some .int) :: ([.fieldLink RX5 19 "InkHall" "press" "LInkHall$Press;", .methodLink RX5 116 yX5_checkBand, .static yX5_checkBand, .initialized RX5, .code yX5_checkBand cX5_checkBand 1 none, .classLink RX5 92 "java/lang/IndexOutOfBoundsException", .initialized "java/lang/IndexOutOfBoundsException", .methodLink RX5 124 yX1_countOf, .instanceMethod yX1_countOf, .selects RX1 yX1_countOf yX1_countOf, .initialized RX1, .code yX1_countOf cX1_countOf 3 (some .int), .fieldLink RX1 9 "InkHall$Press" "forLeft" "[I", .fieldLink RX1 15 "InkHall$Press" "forRight" "[I"] ++ wsX50 ++ wsX10 ++ (vx_atS RX5 96 "java/lang/IndexOutOfBoundsException" ["java/lang/RuntimeException", "java/lang/Exception"]).filter goodWord)
def wsX5_pupilNumbered_r1 : List Cond := [Cond.classLink RX5 92 "java/lang/IndexOutOfBoundsException", Cond.initialized "java/lang/IndexOutOfBoundsException", Cond.fieldLink RX5 30 "InkHall" "pupils" "Ljava/util/ArrayList;", Cond.classLink RX5 108 "InkHall$Pupil", Cond.methodLink RX5 78 yJx4a65c_size_8abf5, Cond.instanceMethod yJx4a65c_size_8abf5, Cond.selects RJx4a65c yJx4a65c_size_8abf5 yJx4a65c_size_8abf5, Cond.initialized RJx4a65c, Cond.code yJx4a65c_size_8abf5 cJx4a65c_size_8abf5 1 (some .int), Cond.fieldLink RJx4a65c 48 "java/util/ArrayList" "size" "I", Cond.methodLink RX5 209 yJx4a65c_get_915e3, Cond.instanceMethod yJx4a65c_get_915e3, Cond.selects RJx4a65c yJx4a65c_get_915e3 yJx4a65c_get_915e3, Cond.code yJx4a65c_get_915e3 cJx4a65c_get_915e3 2 (some (.object "java/lang/Object")), Cond.methodLink RJx4a65c 118 yJ15_checkIndex_7cf53, Cond.static yJ15_checkIndex_7cf53, Cond.initialized RJ15, Cond.code yJ15_checkIndex_7cf53 cJ15_checkIndex_7cf53 2 (some .int), Cond.methodLink RJ15 105 yJ3_checkIndex_8e157, Cond.static yJ3_checkIndex_8e157, Cond.initialized RJ3, Cond.code yJ3_checkIndex_8e157 cJ3_checkIndex_8e157 3 (some .int), Cond.methodLink RJx4a65c 123 yJx4a65c_elementData_915e3, Cond.instanceMethod yJx4a65c_elementData_915e3]
def wsX5_pupilNumbered_r2 : List Cond := [Cond.selects RJx4a65c yJx4a65c_elementData_915e3 yJx4a65c_elementData_915e3, Cond.code yJx4a65c_elementData_915e3 cJx4a65c_elementData_915e3 2 (some (.object "java/lang/Object")), Cond.fieldLink RJx4a65c 9 "java/util/ArrayList" "elementData" "[Ljava/lang/Object;"]
def wsX5_pupilNumbered : List Cond := .code yX5_pupilNumbered cX5_pupilNumbered 2 (some (.object "InkHall$Pupil")) :: ((wsX5_pupilNumbered_r1 ++ wsX5_pupilNumbered_r2) ++ wsX50 ++ wsJx4a65c0 ++ (vx_atS RX5 96 "java/lang/IndexOutOfBoundsException" ["java/lang/RuntimeException", "java/lang/Exception"]).filter goodWord)
def wsX5_write_r1 : List Cond := [Cond.classLink RX5 55 "java/lang/IllegalStateException", Cond.initialized "java/lang/IllegalStateException", Cond.fieldLink RX5 33 "InkHall" "scripts" "Ljava/util/ArrayList;", Cond.fieldLink RX5 19 "InkHall" "press" "LInkHall$Press;", Cond.fieldLink RX5 134 "InkHall$Pupil" "band" "I", Cond.fieldLink RX5 138 "InkHall$Pupil" "isLeft" "Z", Cond.classLink RX5 147 RX3, Cond.instantiable RX3 7, Cond.initialized RX3, Cond.fieldLink RX5 149 "InkHall$Pupil" "group" "I", Cond.fieldLink RX5 10 "InkHall" "pen" "LInkHall$Strokes;", Cond.methodLink RX5 128 yX5_pupilNumbered, Cond.instanceMethod yX5_pupilNumbered, Cond.selects RX5 yX5_pupilNumbered yX5_pupilNumbered, Cond.initialized RX5, Cond.code yX5_pupilNumbered cX5_pupilNumbered 2 (some (.object "InkHall$Pupil")), Cond.classLink RX5 92 "java/lang/IndexOutOfBoundsException", Cond.initialized "java/lang/IndexOutOfBoundsException", Cond.fieldLink RX5 30 "InkHall" "pupils" "Ljava/util/ArrayList;", Cond.classLink RX5 108 "InkHall$Pupil", Cond.methodLink RX5 78 yJx4a65c_size_8abf5, Cond.instanceMethod yJx4a65c_size_8abf5, Cond.selects RJx4a65c yJx4a65c_size_8abf5 yJx4a65c_size_8abf5, Cond.initialized RJx4a65c]
def wsX5_write_r2 : List Cond := [Cond.code yJx4a65c_size_8abf5 cJx4a65c_size_8abf5 1 (some .int), Cond.fieldLink RJx4a65c 48 "java/util/ArrayList" "size" "I", Cond.methodLink RX5 209 yJx4a65c_get_915e3, Cond.instanceMethod yJx4a65c_get_915e3, Cond.selects RJx4a65c yJx4a65c_get_915e3 yJx4a65c_get_915e3, Cond.code yJx4a65c_get_915e3 cJx4a65c_get_915e3 2 (some (.object "java/lang/Object")), Cond.methodLink RJx4a65c 118 yJ15_checkIndex_7cf53, Cond.static yJ15_checkIndex_7cf53, Cond.initialized RJ15, Cond.code yJ15_checkIndex_7cf53 cJ15_checkIndex_7cf53 2 (some .int), Cond.methodLink RJ15 105 yJ3_checkIndex_8e157, Cond.static yJ3_checkIndex_8e157, Cond.initialized RJ3, Cond.code yJ3_checkIndex_8e157 cJ3_checkIndex_8e157 3 (some .int), Cond.methodLink RJx4a65c 123 yJx4a65c_elementData_915e3, Cond.instanceMethod yJx4a65c_elementData_915e3, Cond.selects RJx4a65c yJx4a65c_elementData_915e3 yJx4a65c_elementData_915e3, Cond.code yJx4a65c_elementData_915e3 cJx4a65c_elementData_915e3 2 (some (.object "java/lang/Object")), Cond.fieldLink RJx4a65c 9 "java/util/ArrayList" "elementData" "[Ljava/lang/Object;", Cond.methodLink RX5 88 yX5_letterNumbered, Cond.instanceMethod yX5_letterNumbered, Cond.selects RX5 yX5_letterNumbered yX5_letterNumbered, Cond.code yX5_letterNumbered cX5_letterNumbered 2 (some (.object "InkHall$Strokes")), Cond.fieldLink RX5 26 "InkHall" "letters" "Ljava/util/ArrayList;"]
def wsX5_write_r3 : List Cond := [Cond.classLink RX5 7 "InkHall$Strokes", Cond.methodLink RX5 142 yX1_bandFor, Cond.instanceMethod yX1_bandFor, Cond.selects RX1 yX1_bandFor yX1_bandFor, Cond.initialized RX1, Cond.code yX1_bandFor cX1_bandFor 4 (some .int), Cond.methodLink RX1 18 yX1_countOf, Cond.instanceMethod yX1_countOf, Cond.selects RX1 yX1_countOf yX1_countOf, Cond.code yX1_countOf cX1_countOf 3 (some .int), Cond.fieldLink RX1 9 "InkHall$Press" "forLeft" "[I", Cond.fieldLink RX1 15 "InkHall$Press" "forRight" "[I", Cond.methodLink RX5 121 yX1_add, Cond.instanceMethod yX1_add, Cond.selects RX1 yX1_add yX1_add, Cond.code yX1_add cX1_add 4 none, Cond.methodLink RX5 152 yX3_init, Cond.instanceMethod yX3_init, Cond.code yX3_init cX3_init 2 none, Cond.methodLink RX3 3 objectInit, Cond.instanceMethod objectInit, Cond.code objectInit ⟨#[0xb1]⟩ 1 none, Cond.fieldLink RX3 9 "InkHall$Script" "group" "I", Cond.classLink RX3 15 RX0]
def wsX5_write_r4 : List Cond := [Cond.instantiable RX0 3, Cond.initialized RX0, Cond.fieldLink RX3 18 "InkHall$Script" "marks" "LInkHall$Marks;", Cond.fieldLink RX3 22 "InkHall$Script" "isShown" "Z", Cond.arrayClass .int, Cond.fieldLink RX3 26 "InkHall$Script" "slipCounts" "[I", Cond.fieldLink RX3 30 "InkHall$Script" "points" "[I", Cond.fieldLink RX3 33 "InkHall$Script" "ranks" "[I", Cond.fieldLink RX3 36 "InkHall$Script" "rankCount" "I", Cond.methodLink RX3 17 yX0_init, Cond.instanceMethod yX0_init, Cond.code yX0_init cX0_init 1 none, Cond.methodLink RX0 3 objectInit, Cond.fieldLink RX0 9 "InkHall$Marks" "examiners" "[I", Cond.fieldLink RX0 15 "InkHall$Marks" "values" "[I", Cond.fieldLink RX0 18 "InkHall$Marks" "count" "I", Cond.methodLink RX5 154 yX3_compare, Cond.instanceMethod yX3_compare, Cond.selects RX3 yX3_compare yX3_compare, Cond.code yX3_compare cX3_compare 6 none, Cond.methodLink RX3 39 yX4_size, Cond.instanceMethod yX4_size, Cond.selects RX4 yX4_size yX4_size, Cond.initialized RX4]
def wsX5_write_r5 : List Cond := [Cond.code yX4_size cX4_size 1 (some .int), Cond.fieldLink RX4 15 "InkHall$Strokes" "count" "I", Cond.methodLink RX3 45 yX4_codeAt, Cond.instanceMethod yX4_codeAt, Cond.selects RX4 yX4_codeAt yX4_codeAt, Cond.code yX4_codeAt cX4_codeAt 2 (some .int), Cond.fieldLink RX4 9 "InkHall$Strokes" "codes" "[I", Cond.methodLink RX3 49 yX4_firstOnLineOf, Cond.instanceMethod yX4_firstOnLineOf, Cond.selects RX4 yX4_firstOnLineOf yX4_firstOnLineOf, Cond.code yX4_firstOnLineOf cX4_firstOnLineOf 3 (some .int), Cond.methodLink RX4 35 yX4_turnedRound, Cond.static yX4_turnedRound, Cond.code yX4_turnedRound cX4_turnedRound 1 (some .int), Cond.methodLink RX4 19 yX4_codeOf, Cond.static yX4_codeOf, Cond.code yX4_codeOf cX4_codeOf 2 (some .int), Cond.methodLink RX3 52 yX3_addRank, Cond.instanceMethod yX3_addRank, Cond.selects RX3 yX3_addRank yX3_addRank, Cond.code yX3_addRank cX3_addRank 2 none, Cond.methodLink RX3 56 yX3_longestRise, Cond.instanceMethod yX3_longestRise, Cond.selects RX3 yX3_longestRise yX3_longestRise]
def wsX5_write_r6 : List Cond := [Cond.code yX3_longestRise cX3_longestRise 5 (some .int), Cond.methodLink RX3 59 Lib.Math.max.name, Cond.static Lib.Math.max.name, Cond.initialized "java/lang/Math", Cond.code Lib.Math.max.name Lib.Math.max.code 2 (some .int), Cond.methodLink RX5 158 yX3_addWrongRuling, Cond.instanceMethod yX3_addWrongRuling, Cond.selects RX3 yX3_addWrongRuling yX3_addWrongRuling, Cond.code yX3_addWrongRuling cX3_addWrongRuling 1 none, Cond.methodLink RX5 85 yJx4a65c_add_9ea2d, Cond.instanceMethod yJx4a65c_add_9ea2d, Cond.selects RJx4a65c yJx4a65c_add_9ea2d yJx4a65c_add_9ea2d, Cond.code yJx4a65c_add_9ea2d cJx4a65c_add_9ea2d 2 (some .boolean), Cond.fieldLink RJx4a65c 63 "java/util/ArrayList" "modCount" "I", Cond.sameField "java/util/ArrayList" "java/util/AbstractList" "modCount" "I", Cond.methodLink RJx4a65c 131 yJx4a65c_add_72be8, Cond.instanceMethod yJx4a65c_add_72be8, Cond.selects RJx4a65c yJx4a65c_add_72be8 yJx4a65c_add_72be8, Cond.code yJx4a65c_add_72be8 cJx4a65c_add_72be8 4 none, Cond.methodLink RJx4a65c 129 yJx4a65c_grow_d5877, Cond.instanceMethod yJx4a65c_grow_d5877, Cond.selects RJx4a65c yJx4a65c_grow_d5877 yJx4a65c_grow_d5877, Cond.code yJx4a65c_grow_d5877 cJx4a65c_grow_d5877 1 (some (.array (.object "java/lang/Object"))), Cond.methodLink RJx4a65c 69 yJx4a65c_grow_92f84]
def wsX5_write_r7 : List Cond := [Cond.instanceMethod yJx4a65c_grow_92f84, Cond.selects RJx4a65c yJx4a65c_grow_92f84 yJx4a65c_grow_92f84, Cond.code yJx4a65c_grow_92f84 cJx4a65c_grow_92f84 4 (some (.array (.object "java/lang/Object"))), Cond.fieldLink RJx4a65c 39 "java/util/ArrayList" "DEFAULTCAPACITY_EMPTY_ELEMENTDATA" "[Ljava/lang/Object;", Cond.methodLink RJx4a65c 79 Lib.Math.max.name, Cond.classLink RJx4a65c 7 "java/lang/Object", Cond.methodLink RJx4a65c 73 yJ8_newLength_cabcc, Cond.static yJ8_newLength_cabcc, Cond.initialized RJ8, Cond.code yJ8_newLength_cabcc cJ8_newLength_cabcc 4 (some .int), Cond.methodLink RJ8 194 Lib.Math.max.name, Cond.constant RJ8 200 (2147483639), Cond.methodLink RJ8 201 yJ8_hugeLength_7cf53, Cond.static yJ8_hugeLength_7cf53, Cond.code yJ8_hugeLength_7cf53 cJ8_hugeLength_7cf53 3 (some .int), Cond.methodLink RJx4a65c 66 yJ7_copyOf_1904c, Cond.static yJ7_copyOf_1904c, Cond.initialized RJ7, Cond.code yJ7_copyOf_1904c cJ7_copyOf_1904c 2 (some (.array (.object "java/lang/Object"))), Cond.methodLink RJ7 86 ⟨"java/lang/Object", "getClass", "()Ljava/lang/Class;"⟩, Cond.selects "[Ljava/lang/Object;" ⟨"java/lang/Object", "getClass", "()Ljava/lang/Class;"⟩ ⟨"java/lang/Object", "getClass", "()Ljava/lang/Class;"⟩, Cond.instanceMethod ⟨"java/lang/Object", "getClass", "()Ljava/lang/Class;"⟩, Cond.native ⟨"java/lang/Object", "getClass", "()Ljava/lang/Class;"⟩, Cond.methodLink RJ7 300 yJ7_copyOf_6403c]
def wsX5_write_r8 : List Cond := [Cond.static yJ7_copyOf_6403c, Cond.code yJ7_copyOf_6403c cJ7_copyOf_6403c 4 (some (.array (.object "java/lang/Object"))), Cond.classLink RJ7 110 "[Ljava/lang/Object;", Cond.classLink RJ7 2 "java/lang/Object", Cond.methodLink RJ7 304 Lib.Math.min.name, Cond.static Lib.Math.min.name, Cond.code Lib.Math.min.name Lib.Math.min.code 2 (some .int), Cond.methodLink RJ7 150 arraycopyName, Cond.native arraycopyName, Cond.static arraycopyName, Cond.initialized "java/lang/System", Cond.methodLink RX5 67 yX4_clear, Cond.instanceMethod yX4_clear, Cond.selects RX4 yX4_clear yX4_clear, Cond.code yX4_clear cX4_clear 1 none]
def wsX5_write : List Cond := .code yX5_write cX5_write 7 (some .int) :: ((wsX5_write_r1 ++ (wsX5_write_r2 ++ (wsX5_write_r3 ++ (wsX5_write_r4 ++ (wsX5_write_r5 ++ (wsX5_write_r6 ++ (wsX5_write_r7 ++ wsX5_write_r8))))))) ++ wsX50 ++ wsX20 ++ wsX30 ++ wsJx4a65c0 ++ wsX10 ++ wsX00 ++ wsX40 ++ (vx_atS RX5 59 "java/lang/IllegalStateException" ["java/lang/RuntimeException", "java/lang/Exception"]).filter goodWord ++ (vx_atS RX5 96 "java/lang/IndexOutOfBoundsException" ["java/lang/RuntimeException", "java/lang/Exception"]).filter goodWord)
def wsX5_scriptNumbered_r1 : List Cond := [Cond.classLink RX5 92 "java/lang/IndexOutOfBoundsException", Cond.initialized "java/lang/IndexOutOfBoundsException", Cond.fieldLink RX5 33 "InkHall" "scripts" "Ljava/util/ArrayList;", Cond.classLink RX5 147 "InkHall$Script", Cond.methodLink RX5 78 yJx4a65c_size_8abf5, Cond.instanceMethod yJx4a65c_size_8abf5, Cond.selects RJx4a65c yJx4a65c_size_8abf5 yJx4a65c_size_8abf5, Cond.initialized RJx4a65c, Cond.code yJx4a65c_size_8abf5 cJx4a65c_size_8abf5 1 (some .int), Cond.fieldLink RJx4a65c 48 "java/util/ArrayList" "size" "I", Cond.methodLink RX5 209 yJx4a65c_get_915e3, Cond.instanceMethod yJx4a65c_get_915e3, Cond.selects RJx4a65c yJx4a65c_get_915e3 yJx4a65c_get_915e3, Cond.code yJx4a65c_get_915e3 cJx4a65c_get_915e3 2 (some (.object "java/lang/Object")), Cond.methodLink RJx4a65c 118 yJ15_checkIndex_7cf53, Cond.static yJ15_checkIndex_7cf53, Cond.initialized RJ15, Cond.code yJ15_checkIndex_7cf53 cJ15_checkIndex_7cf53 2 (some .int), Cond.methodLink RJ15 105 yJ3_checkIndex_8e157, Cond.static yJ3_checkIndex_8e157, Cond.initialized RJ3, Cond.code yJ3_checkIndex_8e157 cJ3_checkIndex_8e157 3 (some .int), Cond.methodLink RJx4a65c 123 yJx4a65c_elementData_915e3, Cond.instanceMethod yJx4a65c_elementData_915e3]
def wsX5_scriptNumbered_r2 : List Cond := [Cond.selects RJx4a65c yJx4a65c_elementData_915e3 yJx4a65c_elementData_915e3, Cond.code yJx4a65c_elementData_915e3 cJx4a65c_elementData_915e3 2 (some (.object "java/lang/Object")), Cond.fieldLink RJx4a65c 9 "java/util/ArrayList" "elementData" "[Ljava/lang/Object;"]
def wsX5_scriptNumbered : List Cond := .code yX5_scriptNumbered cX5_scriptNumbered 2 (some (.object "InkHall$Script")) :: ((wsX5_scriptNumbered_r1 ++ wsX5_scriptNumbered_r2) ++ wsX50 ++ wsJx4a65c0 ++ (vx_atS RX5 96 "java/lang/IndexOutOfBoundsException" ["java/lang/RuntimeException", "java/lang/Exception"]).filter goodWord)
def wsX5_slips_r1 : List Cond := [Cond.classLink RX5 44 "java/lang/IllegalArgumentException", Cond.initialized "java/lang/IllegalArgumentException", Cond.methodLink RX5 161 yX5_scriptNumbered, Cond.instanceMethod yX5_scriptNumbered, Cond.selects RX5 yX5_scriptNumbered yX5_scriptNumbered, Cond.initialized RX5, Cond.code yX5_scriptNumbered cX5_scriptNumbered 2 (some (.object "InkHall$Script")), Cond.classLink RX5 92 "java/lang/IndexOutOfBoundsException", Cond.initialized "java/lang/IndexOutOfBoundsException", Cond.fieldLink RX5 33 "InkHall" "scripts" "Ljava/util/ArrayList;", Cond.classLink RX5 147 "InkHall$Script", Cond.methodLink RX5 78 yJx4a65c_size_8abf5, Cond.instanceMethod yJx4a65c_size_8abf5, Cond.selects RJx4a65c yJx4a65c_size_8abf5 yJx4a65c_size_8abf5, Cond.initialized RJx4a65c, Cond.code yJx4a65c_size_8abf5 cJx4a65c_size_8abf5 1 (some .int), Cond.fieldLink RJx4a65c 48 "java/util/ArrayList" "size" "I", Cond.methodLink RX5 209 yJx4a65c_get_915e3, Cond.instanceMethod yJx4a65c_get_915e3, Cond.selects RJx4a65c yJx4a65c_get_915e3 yJx4a65c_get_915e3, Cond.code yJx4a65c_get_915e3 cJx4a65c_get_915e3 2 (some (.object "java/lang/Object")), Cond.methodLink RJx4a65c 118 yJ15_checkIndex_7cf53, Cond.static yJ15_checkIndex_7cf53, Cond.initialized RJ15]
def wsX5_slips_r2 : List Cond := [Cond.code yJ15_checkIndex_7cf53 cJ15_checkIndex_7cf53 2 (some .int), Cond.methodLink RJ15 105 yJ3_checkIndex_8e157, Cond.static yJ3_checkIndex_8e157, Cond.initialized RJ3, Cond.code yJ3_checkIndex_8e157 cJ3_checkIndex_8e157 3 (some .int), Cond.methodLink RJx4a65c 123 yJx4a65c_elementData_915e3, Cond.instanceMethod yJx4a65c_elementData_915e3, Cond.selects RJx4a65c yJx4a65c_elementData_915e3 yJx4a65c_elementData_915e3, Cond.code yJx4a65c_elementData_915e3 cJx4a65c_elementData_915e3 2 (some (.object "java/lang/Object")), Cond.fieldLink RJx4a65c 9 "java/util/ArrayList" "elementData" "[Ljava/lang/Object;", Cond.methodLink RX5 167 yX3_allSlips, Cond.instanceMethod yX3_allSlips, Cond.selects RX3 yX3_allSlips yX3_allSlips, Cond.initialized RX3, Cond.code yX3_allSlips cX3_allSlips 6 (some .int), Cond.fieldLink RX3 26 "InkHall$Script" "slipCounts" "[I", Cond.methodLink RX5 170 yX3_slipsOf, Cond.instanceMethod yX3_slipsOf, Cond.selects RX3 yX3_slipsOf yX3_slipsOf, Cond.code yX3_slipsOf cX3_slipsOf 2 (some .int)]
def wsX5_slips : List Cond := .code yX5_slips cX5_slips 4 (some .int) :: ((wsX5_slips_r1 ++ wsX5_slips_r2) ++ wsX50 ++ wsJx4a65c0 ++ wsX30 ++ (vx_atS RX5 48 "java/lang/IllegalArgumentException" ["java/lang/RuntimeException", "java/lang/Exception"]).filter goodWord ++ (vx_atS RX5 96 "java/lang/IndexOutOfBoundsException" ["java/lang/RuntimeException", "java/lang/Exception"]).filter goodWord)
def wsX5_orderAnew_r1 : List Cond := [Cond.methodLink RX5 161 yX5_scriptNumbered, Cond.instanceMethod yX5_scriptNumbered, Cond.selects RX5 yX5_scriptNumbered yX5_scriptNumbered, Cond.initialized RX5, Cond.code yX5_scriptNumbered cX5_scriptNumbered 2 (some (.object "InkHall$Script")), Cond.classLink RX5 92 "java/lang/IndexOutOfBoundsException", Cond.initialized "java/lang/IndexOutOfBoundsException", Cond.fieldLink RX5 33 "InkHall" "scripts" "Ljava/util/ArrayList;", Cond.classLink RX5 147 "InkHall$Script", Cond.methodLink RX5 78 yJx4a65c_size_8abf5, Cond.instanceMethod yJx4a65c_size_8abf5, Cond.selects RJx4a65c yJx4a65c_size_8abf5 yJx4a65c_size_8abf5, Cond.initialized RJx4a65c, Cond.code yJx4a65c_size_8abf5 cJx4a65c_size_8abf5 1 (some .int), Cond.fieldLink RJx4a65c 48 "java/util/ArrayList" "size" "I", Cond.methodLink RX5 209 yJx4a65c_get_915e3, Cond.instanceMethod yJx4a65c_get_915e3, Cond.selects RJx4a65c yJx4a65c_get_915e3 yJx4a65c_get_915e3, Cond.code yJx4a65c_get_915e3 cJx4a65c_get_915e3 2 (some (.object "java/lang/Object")), Cond.methodLink RJx4a65c 118 yJ15_checkIndex_7cf53, Cond.static yJ15_checkIndex_7cf53, Cond.initialized RJ15, Cond.code yJ15_checkIndex_7cf53 cJ15_checkIndex_7cf53 2 (some .int), Cond.methodLink RJ15 105 yJ3_checkIndex_8e157]
def wsX5_orderAnew_r2 : List Cond := [Cond.static yJ3_checkIndex_8e157, Cond.initialized RJ3, Cond.code yJ3_checkIndex_8e157 cJ3_checkIndex_8e157 3 (some .int), Cond.methodLink RJx4a65c 123 yJx4a65c_elementData_915e3, Cond.instanceMethod yJx4a65c_elementData_915e3, Cond.selects RJx4a65c yJx4a65c_elementData_915e3 yJx4a65c_elementData_915e3, Cond.code yJx4a65c_elementData_915e3 cJx4a65c_elementData_915e3 2 (some (.object "java/lang/Object")), Cond.fieldLink RJx4a65c 9 "java/util/ArrayList" "elementData" "[Ljava/lang/Object;", Cond.methodLink RX5 173 yX3_fewestLeftOut, Cond.instanceMethod yX3_fewestLeftOut, Cond.selects RX3 yX3_fewestLeftOut yX3_fewestLeftOut, Cond.initialized RX3, Cond.code yX3_fewestLeftOut cX3_fewestLeftOut 4 (some .int), Cond.fieldLink RX3 36 "InkHall$Script" "rankCount" "I", Cond.methodLink RX3 74 Lib.Math.min.name, Cond.static Lib.Math.min.name, Cond.initialized "java/lang/Math", Cond.code Lib.Math.min.name Lib.Math.min.code 2 (some .int), Cond.methodLink RX3 65 yX3_isInOrderWithout, Cond.instanceMethod yX3_isInOrderWithout, Cond.selects RX3 yX3_isInOrderWithout yX3_isInOrderWithout, Cond.code yX3_isInOrderWithout cX3_isInOrderWithout 5 (some .boolean), Cond.fieldLink RX3 33 "InkHall$Script" "ranks" "[I", Cond.methodLink RX3 69 yJ6_bitCount_0f7a4]
def wsX5_orderAnew_r3 : List Cond := [Cond.static yJ6_bitCount_0f7a4, Cond.initialized RJ6, Cond.code yJ6_bitCount_0f7a4 cJ6_bitCount_0f7a4 1 (some .int), Cond.constant RJ6 265 (1431655765), Cond.constant RJ6 266 (858993459), Cond.constant RJ6 267 (252645135)]
def wsX5_orderAnew : List Cond := .code yX5_orderAnew cX5_orderAnew 2 (some .int) :: ((wsX5_orderAnew_r1 ++ (wsX5_orderAnew_r2 ++ wsX5_orderAnew_r3)) ++ wsX50 ++ wsJx4a65c0 ++ wsX30 ++ (vx_atS RX5 96 "java/lang/IndexOutOfBoundsException" ["java/lang/RuntimeException", "java/lang/Exception"]).filter goodWord)
def wsX5_checkExaminer : List Cond := .code yX5_checkExaminer cX5_checkExaminer 1 none :: ([.classLink RX5 92 "java/lang/IndexOutOfBoundsException", .initialized "java/lang/IndexOutOfBoundsException"] ++ (vx_atS RX5 96 "java/lang/IndexOutOfBoundsException" ["java/lang/RuntimeException", "java/lang/Exception"]).filter goodWord)
def wsX5_mark_r1 : List Cond := [Cond.classLink RX5 44 "java/lang/IllegalArgumentException", Cond.initialized "java/lang/IllegalArgumentException", Cond.classLink RX5 55 "java/lang/IllegalStateException", Cond.initialized "java/lang/IllegalStateException", Cond.fieldLink RX5 179 "InkHall$Script" "marks" "LInkHall$Marks;", Cond.fieldLink RX5 36 "InkHall" "isOut" "[Z", Cond.methodLink RX5 176 yX5_checkExaminer, Cond.static yX5_checkExaminer, Cond.initialized RX5, Cond.code yX5_checkExaminer cX5_checkExaminer 1 none, Cond.classLink RX5 92 "java/lang/IndexOutOfBoundsException", Cond.initialized "java/lang/IndexOutOfBoundsException", Cond.methodLink RX5 161 yX5_scriptNumbered, Cond.instanceMethod yX5_scriptNumbered, Cond.selects RX5 yX5_scriptNumbered yX5_scriptNumbered, Cond.code yX5_scriptNumbered cX5_scriptNumbered 2 (some (.object "InkHall$Script")), Cond.fieldLink RX5 33 "InkHall" "scripts" "Ljava/util/ArrayList;", Cond.classLink RX5 147 "InkHall$Script", Cond.methodLink RX5 78 yJx4a65c_size_8abf5, Cond.instanceMethod yJx4a65c_size_8abf5, Cond.selects RJx4a65c yJx4a65c_size_8abf5 yJx4a65c_size_8abf5, Cond.initialized RJx4a65c, Cond.code yJx4a65c_size_8abf5 cJx4a65c_size_8abf5 1 (some .int), Cond.fieldLink RJx4a65c 48 "java/util/ArrayList" "size" "I"]
def wsX5_mark_r2 : List Cond := [Cond.methodLink RX5 209 yJx4a65c_get_915e3, Cond.instanceMethod yJx4a65c_get_915e3, Cond.selects RJx4a65c yJx4a65c_get_915e3 yJx4a65c_get_915e3, Cond.code yJx4a65c_get_915e3 cJx4a65c_get_915e3 2 (some (.object "java/lang/Object")), Cond.methodLink RJx4a65c 118 yJ15_checkIndex_7cf53, Cond.static yJ15_checkIndex_7cf53, Cond.initialized RJ15, Cond.code yJ15_checkIndex_7cf53 cJ15_checkIndex_7cf53 2 (some .int), Cond.methodLink RJ15 105 yJ3_checkIndex_8e157, Cond.static yJ3_checkIndex_8e157, Cond.initialized RJ3, Cond.code yJ3_checkIndex_8e157 cJ3_checkIndex_8e157 3 (some .int), Cond.methodLink RJx4a65c 123 yJx4a65c_elementData_915e3, Cond.instanceMethod yJx4a65c_elementData_915e3, Cond.selects RJx4a65c yJx4a65c_elementData_915e3 yJx4a65c_elementData_915e3, Cond.code yJx4a65c_elementData_915e3 cJx4a65c_elementData_915e3 2 (some (.object "java/lang/Object")), Cond.fieldLink RJx4a65c 9 "java/util/ArrayList" "elementData" "[Ljava/lang/Object;", Cond.methodLink RX5 187 yX0_hasOneOf, Cond.instanceMethod yX0_hasOneOf, Cond.selects RX0 yX0_hasOneOf yX0_hasOneOf, Cond.initialized RX0, Cond.code yX0_hasOneOf cX0_hasOneOf 3 (some .boolean), Cond.fieldLink RX0 18 "InkHall$Marks" "count" "I", Cond.fieldLink RX0 9 "InkHall$Marks" "examiners" "[I"]
def wsX5_mark_r3 : List Cond := [Cond.methodLink RX5 195 yX0_lacking, Cond.instanceMethod yX0_lacking, Cond.selects RX0 yX0_lacking yX0_lacking, Cond.code yX0_lacking cX0_lacking 2 (some .int), Cond.fieldLink RX0 15 "InkHall$Marks" "values" "[I", Cond.methodLink RX0 22 Lib.Math.abs.name, Cond.static Lib.Math.abs.name, Cond.initialized "java/lang/Math", Cond.code Lib.Math.abs.name Lib.Math.abs.code 1 (some .int), Cond.methodLink RX5 200 yX0_add, Cond.instanceMethod yX0_add, Cond.selects RX0 yX0_add yX0_add, Cond.code yX0_add cX0_add 3 none, Cond.methodLink RX5 203 yX0_size, Cond.instanceMethod yX0_size, Cond.selects RX0 yX0_size yX0_size, Cond.code yX0_size cX0_size 1 (some .int)]
def wsX5_mark : List Cond := .code yX5_mark cX5_mark 5 (some .int) :: ((wsX5_mark_r1 ++ (wsX5_mark_r2 ++ wsX5_mark_r3)) ++ wsX30 ++ wsX50 ++ wsJx4a65c0 ++ wsX00 ++ (vx_atS RX5 48 "java/lang/IllegalArgumentException" ["java/lang/RuntimeException", "java/lang/Exception"]).filter goodWord ++ (vx_atS RX5 59 "java/lang/IllegalStateException" ["java/lang/RuntimeException", "java/lang/Exception"]).filter goodWord ++ (vx_atS RX5 96 "java/lang/IndexOutOfBoundsException" ["java/lang/RuntimeException", "java/lang/Exception"]).filter goodWord)
def wsX5_grade_r1 : List Cond := [Cond.fieldLink RX5 179 "InkHall$Script" "marks" "LInkHall$Marks;", Cond.methodLink RX5 161 yX5_scriptNumbered, Cond.instanceMethod yX5_scriptNumbered, Cond.selects RX5 yX5_scriptNumbered yX5_scriptNumbered, Cond.initialized RX5, Cond.code yX5_scriptNumbered cX5_scriptNumbered 2 (some (.object "InkHall$Script")), Cond.classLink RX5 92 "java/lang/IndexOutOfBoundsException", Cond.initialized "java/lang/IndexOutOfBoundsException", Cond.fieldLink RX5 33 "InkHall" "scripts" "Ljava/util/ArrayList;", Cond.classLink RX5 147 "InkHall$Script", Cond.methodLink RX5 78 yJx4a65c_size_8abf5, Cond.instanceMethod yJx4a65c_size_8abf5, Cond.selects RJx4a65c yJx4a65c_size_8abf5 yJx4a65c_size_8abf5, Cond.initialized RJx4a65c, Cond.code yJx4a65c_size_8abf5 cJx4a65c_size_8abf5 1 (some .int), Cond.fieldLink RJx4a65c 48 "java/util/ArrayList" "size" "I", Cond.methodLink RX5 209 yJx4a65c_get_915e3, Cond.instanceMethod yJx4a65c_get_915e3, Cond.selects RJx4a65c yJx4a65c_get_915e3 yJx4a65c_get_915e3, Cond.code yJx4a65c_get_915e3 cJx4a65c_get_915e3 2 (some (.object "java/lang/Object")), Cond.methodLink RJx4a65c 118 yJ15_checkIndex_7cf53, Cond.static yJ15_checkIndex_7cf53, Cond.initialized RJ15, Cond.code yJ15_checkIndex_7cf53 cJ15_checkIndex_7cf53 2 (some .int)]
def wsX5_grade_r2 : List Cond := [Cond.methodLink RJ15 105 yJ3_checkIndex_8e157, Cond.static yJ3_checkIndex_8e157, Cond.initialized RJ3, Cond.code yJ3_checkIndex_8e157 cJ3_checkIndex_8e157 3 (some .int), Cond.methodLink RJx4a65c 123 yJx4a65c_elementData_915e3, Cond.instanceMethod yJx4a65c_elementData_915e3, Cond.selects RJx4a65c yJx4a65c_elementData_915e3 yJx4a65c_elementData_915e3, Cond.code yJx4a65c_elementData_915e3 cJx4a65c_elementData_915e3 2 (some (.object "java/lang/Object")), Cond.fieldLink RJx4a65c 9 "java/util/ArrayList" "elementData" "[Ljava/lang/Object;", Cond.methodLink RX5 204 yX0_result, Cond.instanceMethod yX0_result, Cond.selects RX0 yX0_result yX0_result, Cond.initialized RX0, Cond.code yX0_result cX0_result 3 (some .int), Cond.fieldLink RX0 15 "InkHall$Marks" "values" "[I", Cond.methodLink RX0 32 Lib.Math.min.name, Cond.static Lib.Math.min.name, Cond.initialized "java/lang/Math", Cond.code Lib.Math.min.name Lib.Math.min.code 2 (some .int), Cond.methodLink RX0 36 Lib.Math.max.name, Cond.static Lib.Math.max.name, Cond.code Lib.Math.max.name Lib.Math.max.code 2 (some .int), Cond.fieldLink RX0 18 "InkHall$Marks" "count" "I", Cond.methodLink RX0 28 yX0_lacking]
def wsX5_grade_r3 : List Cond := [Cond.instanceMethod yX0_lacking, Cond.selects RX0 yX0_lacking yX0_lacking, Cond.code yX0_lacking cX0_lacking 2 (some .int), Cond.methodLink RX0 22 Lib.Math.abs.name, Cond.static Lib.Math.abs.name, Cond.code Lib.Math.abs.name Lib.Math.abs.code 1 (some .int)]
def wsX5_grade : List Cond := .code yX5_grade cX5_grade 2 (some .int) :: ((wsX5_grade_r1 ++ (wsX5_grade_r2 ++ wsX5_grade_r3)) ++ wsX30 ++ wsX50 ++ wsJx4a65c0 ++ wsX00 ++ (vx_atS RX5 96 "java/lang/IndexOutOfBoundsException" ["java/lang/RuntimeException", "java/lang/Exception"]).filter goodWord)
def wsX5_lacks_r1 : List Cond := [Cond.fieldLink RX5 179 "InkHall$Script" "marks" "LInkHall$Marks;", Cond.methodLink RX5 161 yX5_scriptNumbered, Cond.instanceMethod yX5_scriptNumbered, Cond.selects RX5 yX5_scriptNumbered yX5_scriptNumbered, Cond.initialized RX5, Cond.code yX5_scriptNumbered cX5_scriptNumbered 2 (some (.object "InkHall$Script")), Cond.classLink RX5 92 "java/lang/IndexOutOfBoundsException", Cond.initialized "java/lang/IndexOutOfBoundsException", Cond.fieldLink RX5 33 "InkHall" "scripts" "Ljava/util/ArrayList;", Cond.classLink RX5 147 "InkHall$Script", Cond.methodLink RX5 78 yJx4a65c_size_8abf5, Cond.instanceMethod yJx4a65c_size_8abf5, Cond.selects RJx4a65c yJx4a65c_size_8abf5 yJx4a65c_size_8abf5, Cond.initialized RJx4a65c, Cond.code yJx4a65c_size_8abf5 cJx4a65c_size_8abf5 1 (some .int), Cond.fieldLink RJx4a65c 48 "java/util/ArrayList" "size" "I", Cond.methodLink RX5 209 yJx4a65c_get_915e3, Cond.instanceMethod yJx4a65c_get_915e3, Cond.selects RJx4a65c yJx4a65c_get_915e3 yJx4a65c_get_915e3, Cond.code yJx4a65c_get_915e3 cJx4a65c_get_915e3 2 (some (.object "java/lang/Object")), Cond.methodLink RJx4a65c 118 yJ15_checkIndex_7cf53, Cond.static yJ15_checkIndex_7cf53, Cond.initialized RJ15, Cond.code yJ15_checkIndex_7cf53 cJ15_checkIndex_7cf53 2 (some .int)]
def wsX5_lacks_r2 : List Cond := [Cond.methodLink RJ15 105 yJ3_checkIndex_8e157, Cond.static yJ3_checkIndex_8e157, Cond.initialized RJ3, Cond.code yJ3_checkIndex_8e157 cJ3_checkIndex_8e157 3 (some .int), Cond.methodLink RJx4a65c 123 yJx4a65c_elementData_915e3, Cond.instanceMethod yJx4a65c_elementData_915e3, Cond.selects RJx4a65c yJx4a65c_elementData_915e3 yJx4a65c_elementData_915e3, Cond.code yJx4a65c_elementData_915e3 cJx4a65c_elementData_915e3 2 (some (.object "java/lang/Object")), Cond.fieldLink RJx4a65c 9 "java/util/ArrayList" "elementData" "[Ljava/lang/Object;", Cond.methodLink RX5 195 yX0_lacking, Cond.instanceMethod yX0_lacking, Cond.selects RX0 yX0_lacking yX0_lacking, Cond.initialized RX0, Cond.code yX0_lacking cX0_lacking 2 (some .int), Cond.fieldLink RX0 18 "InkHall$Marks" "count" "I", Cond.fieldLink RX0 15 "InkHall$Marks" "values" "[I", Cond.methodLink RX0 22 Lib.Math.abs.name, Cond.static Lib.Math.abs.name, Cond.initialized "java/lang/Math", Cond.code Lib.Math.abs.name Lib.Math.abs.code 1 (some .int)]
def wsX5_lacks : List Cond := .code yX5_lacks cX5_lacks 2 (some .int) :: ((wsX5_lacks_r1 ++ wsX5_lacks_r2) ++ wsX30 ++ wsX50 ++ wsJx4a65c0 ++ wsX00 ++ (vx_atS RX5 96 "java/lang/IndexOutOfBoundsException" ["java/lang/RuntimeException", "java/lang/Exception"]).filter goodWord)
def wsX5_takeOut_r1 : List Cond := [Cond.classLink RX5 55 "java/lang/IllegalStateException", Cond.initialized "java/lang/IllegalStateException", Cond.fieldLink RX5 36 "InkHall" "isOut" "[Z", Cond.fieldLink RX5 33 "InkHall" "scripts" "Ljava/util/ArrayList;", Cond.classLink RX5 147 "InkHall$Script", Cond.fieldLink RX5 179 "InkHall$Script" "marks" "LInkHall$Marks;", Cond.methodLink RX5 176 yX5_checkExaminer, Cond.static yX5_checkExaminer, Cond.initialized RX5, Cond.code yX5_checkExaminer cX5_checkExaminer 1 none, Cond.classLink RX5 92 "java/lang/IndexOutOfBoundsException", Cond.initialized "java/lang/IndexOutOfBoundsException", Cond.methodLink RX5 78 yJx4a65c_size_8abf5, Cond.instanceMethod yJx4a65c_size_8abf5, Cond.selects RJx4a65c yJx4a65c_size_8abf5 yJx4a65c_size_8abf5, Cond.initialized RJx4a65c, Cond.code yJx4a65c_size_8abf5 cJx4a65c_size_8abf5 1 (some .int), Cond.fieldLink RJx4a65c 48 "java/util/ArrayList" "size" "I", Cond.methodLink RX5 209 yJx4a65c_get_915e3, Cond.instanceMethod yJx4a65c_get_915e3, Cond.selects RJx4a65c yJx4a65c_get_915e3 yJx4a65c_get_915e3, Cond.code yJx4a65c_get_915e3 cJx4a65c_get_915e3 2 (some (.object "java/lang/Object")), Cond.methodLink RJx4a65c 118 yJ15_checkIndex_7cf53, Cond.static yJ15_checkIndex_7cf53]
def wsX5_takeOut_r2 : List Cond := [Cond.initialized RJ15, Cond.code yJ15_checkIndex_7cf53 cJ15_checkIndex_7cf53 2 (some .int), Cond.methodLink RJ15 105 yJ3_checkIndex_8e157, Cond.static yJ3_checkIndex_8e157, Cond.initialized RJ3, Cond.code yJ3_checkIndex_8e157 cJ3_checkIndex_8e157 3 (some .int), Cond.methodLink RJx4a65c 123 yJx4a65c_elementData_915e3, Cond.instanceMethod yJx4a65c_elementData_915e3, Cond.selects RJx4a65c yJx4a65c_elementData_915e3 yJx4a65c_elementData_915e3, Cond.code yJx4a65c_elementData_915e3 cJx4a65c_elementData_915e3 2 (some (.object "java/lang/Object")), Cond.fieldLink RJx4a65c 9 "java/util/ArrayList" "elementData" "[Ljava/lang/Object;", Cond.methodLink RX5 204 yX0_result, Cond.instanceMethod yX0_result, Cond.selects RX0 yX0_result yX0_result, Cond.initialized RX0, Cond.code yX0_result cX0_result 3 (some .int), Cond.fieldLink RX0 15 "InkHall$Marks" "values" "[I", Cond.methodLink RX0 32 Lib.Math.min.name, Cond.static Lib.Math.min.name, Cond.initialized "java/lang/Math", Cond.code Lib.Math.min.name Lib.Math.min.code 2 (some .int), Cond.methodLink RX0 36 Lib.Math.max.name, Cond.static Lib.Math.max.name, Cond.code Lib.Math.max.name Lib.Math.max.code 2 (some .int)]
def wsX5_takeOut_r3 : List Cond := [Cond.fieldLink RX0 18 "InkHall$Marks" "count" "I", Cond.methodLink RX0 28 yX0_lacking, Cond.instanceMethod yX0_lacking, Cond.selects RX0 yX0_lacking yX0_lacking, Cond.code yX0_lacking cX0_lacking 2 (some .int), Cond.methodLink RX0 22 Lib.Math.abs.name, Cond.static Lib.Math.abs.name, Cond.code Lib.Math.abs.name Lib.Math.abs.code 1 (some .int), Cond.methodLink RX5 213 yX0_removeOf, Cond.instanceMethod yX0_removeOf, Cond.selects RX0 yX0_removeOf yX0_removeOf, Cond.code yX0_removeOf cX0_removeOf 4 none, Cond.fieldLink RX0 9 "InkHall$Marks" "examiners" "[I"]
def wsX5_takeOut : List Cond := .code yX5_takeOut cX5_takeOut 6 (some .int) :: ((wsX5_takeOut_r1 ++ (wsX5_takeOut_r2 ++ wsX5_takeOut_r3)) ++ wsX50 ++ wsX30 ++ wsJx4a65c0 ++ wsX00 ++ (vx_atS RX5 59 "java/lang/IllegalStateException" ["java/lang/RuntimeException", "java/lang/Exception"]).filter goodWord ++ (vx_atS RX5 96 "java/lang/IndexOutOfBoundsException" ["java/lang/RuntimeException", "java/lang/Exception"]).filter goodWord)
def wsX5_shownCount_r1 : List Cond := [Cond.fieldLink RX5 33 "InkHall" "scripts" "Ljava/util/ArrayList;", Cond.classLink RX5 147 "InkHall$Script", Cond.fieldLink RX5 216 "InkHall$Script" "isShown" "Z", Cond.methodLink RX5 78 yJx4a65c_size_8abf5, Cond.instanceMethod yJx4a65c_size_8abf5, Cond.selects RJx4a65c yJx4a65c_size_8abf5 yJx4a65c_size_8abf5, Cond.initialized RJx4a65c, Cond.code yJx4a65c_size_8abf5 cJx4a65c_size_8abf5 1 (some .int), Cond.fieldLink RJx4a65c 48 "java/util/ArrayList" "size" "I", Cond.methodLink RX5 209 yJx4a65c_get_915e3, Cond.instanceMethod yJx4a65c_get_915e3, Cond.selects RJx4a65c yJx4a65c_get_915e3 yJx4a65c_get_915e3, Cond.code yJx4a65c_get_915e3 cJx4a65c_get_915e3 2 (some (.object "java/lang/Object")), Cond.methodLink RJx4a65c 118 yJ15_checkIndex_7cf53, Cond.static yJ15_checkIndex_7cf53, Cond.initialized RJ15, Cond.code yJ15_checkIndex_7cf53 cJ15_checkIndex_7cf53 2 (some .int), Cond.methodLink RJ15 105 yJ3_checkIndex_8e157, Cond.static yJ3_checkIndex_8e157, Cond.initialized RJ3, Cond.code yJ3_checkIndex_8e157 cJ3_checkIndex_8e157 3 (some .int), Cond.methodLink RJx4a65c 123 yJx4a65c_elementData_915e3, Cond.instanceMethod yJx4a65c_elementData_915e3, Cond.selects RJx4a65c yJx4a65c_elementData_915e3 yJx4a65c_elementData_915e3]
def wsX5_shownCount_r2 : List Cond := [Cond.code yJx4a65c_elementData_915e3 cJx4a65c_elementData_915e3 2 (some (.object "java/lang/Object")), Cond.fieldLink RJx4a65c 9 "java/util/ArrayList" "elementData" "[Ljava/lang/Object;"]
def wsX5_shownCount : List Cond := .code yX5_shownCount cX5_shownCount 3 (some .int) :: ((wsX5_shownCount_r1 ++ wsX5_shownCount_r2) ++ wsX50 ++ wsX30 ++ wsJx4a65c0)
def wsX5_show_r1 : List Cond := [Cond.classLink RX5 55 "java/lang/IllegalStateException", Cond.initialized "java/lang/IllegalStateException", Cond.fieldLink RX5 216 "InkHall$Script" "isShown" "Z", Cond.fieldLink RX5 179 "InkHall$Script" "marks" "LInkHall$Marks;", Cond.methodLink RX5 161 yX5_scriptNumbered, Cond.instanceMethod yX5_scriptNumbered, Cond.selects RX5 yX5_scriptNumbered yX5_scriptNumbered, Cond.initialized RX5, Cond.code yX5_scriptNumbered cX5_scriptNumbered 2 (some (.object "InkHall$Script")), Cond.classLink RX5 92 "java/lang/IndexOutOfBoundsException", Cond.initialized "java/lang/IndexOutOfBoundsException", Cond.fieldLink RX5 33 "InkHall" "scripts" "Ljava/util/ArrayList;", Cond.classLink RX5 147 "InkHall$Script", Cond.methodLink RX5 78 yJx4a65c_size_8abf5, Cond.instanceMethod yJx4a65c_size_8abf5, Cond.selects RJx4a65c yJx4a65c_size_8abf5 yJx4a65c_size_8abf5, Cond.initialized RJx4a65c, Cond.code yJx4a65c_size_8abf5 cJx4a65c_size_8abf5 1 (some .int), Cond.fieldLink RJx4a65c 48 "java/util/ArrayList" "size" "I", Cond.methodLink RX5 209 yJx4a65c_get_915e3, Cond.instanceMethod yJx4a65c_get_915e3, Cond.selects RJx4a65c yJx4a65c_get_915e3 yJx4a65c_get_915e3, Cond.code yJx4a65c_get_915e3 cJx4a65c_get_915e3 2 (some (.object "java/lang/Object")), Cond.methodLink RJx4a65c 118 yJ15_checkIndex_7cf53]
def wsX5_show_r2 : List Cond := [Cond.static yJ15_checkIndex_7cf53, Cond.initialized RJ15, Cond.code yJ15_checkIndex_7cf53 cJ15_checkIndex_7cf53 2 (some .int), Cond.methodLink RJ15 105 yJ3_checkIndex_8e157, Cond.static yJ3_checkIndex_8e157, Cond.initialized RJ3, Cond.code yJ3_checkIndex_8e157 cJ3_checkIndex_8e157 3 (some .int), Cond.methodLink RJx4a65c 123 yJx4a65c_elementData_915e3, Cond.instanceMethod yJx4a65c_elementData_915e3, Cond.selects RJx4a65c yJx4a65c_elementData_915e3 yJx4a65c_elementData_915e3, Cond.code yJx4a65c_elementData_915e3 cJx4a65c_elementData_915e3 2 (some (.object "java/lang/Object")), Cond.fieldLink RJx4a65c 9 "java/util/ArrayList" "elementData" "[Ljava/lang/Object;", Cond.methodLink RX5 204 yX0_result, Cond.instanceMethod yX0_result, Cond.selects RX0 yX0_result yX0_result, Cond.initialized RX0, Cond.code yX0_result cX0_result 3 (some .int), Cond.fieldLink RX0 15 "InkHall$Marks" "values" "[I", Cond.methodLink RX0 32 Lib.Math.min.name, Cond.static Lib.Math.min.name, Cond.initialized "java/lang/Math", Cond.code Lib.Math.min.name Lib.Math.min.code 2 (some .int), Cond.methodLink RX0 36 Lib.Math.max.name, Cond.static Lib.Math.max.name]
def wsX5_show_r3 : List Cond := [Cond.code Lib.Math.max.name Lib.Math.max.code 2 (some .int), Cond.fieldLink RX0 18 "InkHall$Marks" "count" "I", Cond.methodLink RX0 28 yX0_lacking, Cond.instanceMethod yX0_lacking, Cond.selects RX0 yX0_lacking yX0_lacking, Cond.code yX0_lacking cX0_lacking 2 (some .int), Cond.methodLink RX0 22 Lib.Math.abs.name, Cond.static Lib.Math.abs.name, Cond.code Lib.Math.abs.name Lib.Math.abs.code 1 (some .int), Cond.methodLink RX5 223 yX5_shownCount, Cond.instanceMethod yX5_shownCount, Cond.selects RX5 yX5_shownCount yX5_shownCount, Cond.code yX5_shownCount cX5_shownCount 3 (some .int)]
def wsX5_show : List Cond := .code yX5_show cX5_show 3 (some .int) :: ((wsX5_show_r1 ++ (wsX5_show_r2 ++ wsX5_show_r3)) ++ wsX30 ++ wsX50 ++ wsJx4a65c0 ++ wsX00 ++ (vx_atS RX5 59 "java/lang/IllegalStateException" ["java/lang/RuntimeException", "java/lang/Exception"]).filter goodWord ++ (vx_atS RX5 96 "java/lang/IndexOutOfBoundsException" ["java/lang/RuntimeException", "java/lang/Exception"]).filter goodWord)
def wsX5_vote_r1 : List Cond := [Cond.classLink RX5 44 "java/lang/IllegalArgumentException", Cond.initialized "java/lang/IllegalArgumentException", Cond.classLink RX5 55 "java/lang/IllegalStateException", Cond.initialized "java/lang/IllegalStateException", Cond.fieldLink RX5 216 "InkHall$Script" "isShown" "Z", Cond.fieldLink RX5 230 "InkHall$Script" "group" "I", Cond.methodLink RX5 101 yX5_checkClass, Cond.static yX5_checkClass, Cond.initialized RX5, Cond.code yX5_checkClass cX5_checkClass 1 none, Cond.classLink RX5 92 "java/lang/IndexOutOfBoundsException", Cond.initialized "java/lang/IndexOutOfBoundsException", Cond.methodLink RX5 161 yX5_scriptNumbered, Cond.instanceMethod yX5_scriptNumbered, Cond.selects RX5 yX5_scriptNumbered yX5_scriptNumbered, Cond.code yX5_scriptNumbered cX5_scriptNumbered 2 (some (.object "InkHall$Script")), Cond.fieldLink RX5 33 "InkHall" "scripts" "Ljava/util/ArrayList;", Cond.classLink RX5 147 "InkHall$Script", Cond.methodLink RX5 78 yJx4a65c_size_8abf5, Cond.instanceMethod yJx4a65c_size_8abf5, Cond.selects RJx4a65c yJx4a65c_size_8abf5 yJx4a65c_size_8abf5, Cond.initialized RJx4a65c, Cond.code yJx4a65c_size_8abf5 cJx4a65c_size_8abf5 1 (some .int), Cond.fieldLink RJx4a65c 48 "java/util/ArrayList" "size" "I"]
def wsX5_vote_r2 : List Cond := [Cond.methodLink RX5 209 yJx4a65c_get_915e3, Cond.instanceMethod yJx4a65c_get_915e3, Cond.selects RJx4a65c yJx4a65c_get_915e3 yJx4a65c_get_915e3, Cond.code yJx4a65c_get_915e3 cJx4a65c_get_915e3 2 (some (.object "java/lang/Object")), Cond.methodLink RJx4a65c 118 yJ15_checkIndex_7cf53, Cond.static yJ15_checkIndex_7cf53, Cond.initialized RJ15, Cond.code yJ15_checkIndex_7cf53 cJ15_checkIndex_7cf53 2 (some .int), Cond.methodLink RJ15 105 yJ3_checkIndex_8e157, Cond.static yJ3_checkIndex_8e157, Cond.initialized RJ3, Cond.code yJ3_checkIndex_8e157 cJ3_checkIndex_8e157 3 (some .int), Cond.methodLink RJx4a65c 123 yJx4a65c_elementData_915e3, Cond.instanceMethod yJx4a65c_elementData_915e3, Cond.selects RJx4a65c yJx4a65c_elementData_915e3 yJx4a65c_elementData_915e3, Cond.code yJx4a65c_elementData_915e3 cJx4a65c_elementData_915e3 2 (some (.object "java/lang/Object")), Cond.fieldLink RJx4a65c 9 "java/util/ArrayList" "elementData" "[Ljava/lang/Object;", Cond.methodLink RX5 233 yX3_setPoints, Cond.instanceMethod yX3_setPoints, Cond.selects RX3 yX3_setPoints yX3_setPoints, Cond.initialized RX3, Cond.code yX3_setPoints cX3_setPoints 3 none, Cond.fieldLink RX3 30 "InkHall$Script" "points" "[I", Cond.methodLink RX5 236 yX3_allPoints]
def wsX5_vote_r3 : List Cond := [Cond.instanceMethod yX3_allPoints, Cond.selects RX3 yX3_allPoints yX3_allPoints, Cond.code yX3_allPoints cX3_allPoints 6 (some .int)]
def wsX5_vote : List Cond := .code yX5_vote cX5_vote 5 (some .int) :: ((wsX5_vote_r1 ++ (wsX5_vote_r2 ++ wsX5_vote_r3)) ++ wsX30 ++ wsX50 ++ wsJx4a65c0 ++ (vx_atS RX5 48 "java/lang/IllegalArgumentException" ["java/lang/RuntimeException", "java/lang/Exception"]).filter goodWord ++ (vx_atS RX5 59 "java/lang/IllegalStateException" ["java/lang/RuntimeException", "java/lang/Exception"]).filter goodWord ++ (vx_atS RX5 96 "java/lang/IndexOutOfBoundsException" ["java/lang/RuntimeException", "java/lang/Exception"]).filter goodWord)
def wsX5_worth_r1 : List Cond := [Cond.methodLink RX5 161 yX5_scriptNumbered, Cond.instanceMethod yX5_scriptNumbered, Cond.selects RX5 yX5_scriptNumbered yX5_scriptNumbered, Cond.initialized RX5, Cond.code yX5_scriptNumbered cX5_scriptNumbered 2 (some (.object "InkHall$Script")), Cond.classLink RX5 92 "java/lang/IndexOutOfBoundsException", Cond.initialized "java/lang/IndexOutOfBoundsException", Cond.fieldLink RX5 33 "InkHall" "scripts" "Ljava/util/ArrayList;", Cond.classLink RX5 147 "InkHall$Script", Cond.methodLink RX5 78 yJx4a65c_size_8abf5, Cond.instanceMethod yJx4a65c_size_8abf5, Cond.selects RJx4a65c yJx4a65c_size_8abf5 yJx4a65c_size_8abf5, Cond.initialized RJx4a65c, Cond.code yJx4a65c_size_8abf5 cJx4a65c_size_8abf5 1 (some .int), Cond.fieldLink RJx4a65c 48 "java/util/ArrayList" "size" "I", Cond.methodLink RX5 209 yJx4a65c_get_915e3, Cond.instanceMethod yJx4a65c_get_915e3, Cond.selects RJx4a65c yJx4a65c_get_915e3 yJx4a65c_get_915e3, Cond.code yJx4a65c_get_915e3 cJx4a65c_get_915e3 2 (some (.object "java/lang/Object")), Cond.methodLink RJx4a65c 118 yJ15_checkIndex_7cf53, Cond.static yJ15_checkIndex_7cf53, Cond.initialized RJ15, Cond.code yJ15_checkIndex_7cf53 cJ15_checkIndex_7cf53 2 (some .int), Cond.methodLink RJ15 105 yJ3_checkIndex_8e157]
def wsX5_worth_r2 : List Cond := [Cond.static yJ3_checkIndex_8e157, Cond.initialized RJ3, Cond.code yJ3_checkIndex_8e157 cJ3_checkIndex_8e157 3 (some .int), Cond.methodLink RJx4a65c 123 yJx4a65c_elementData_915e3, Cond.instanceMethod yJx4a65c_elementData_915e3, Cond.selects RJx4a65c yJx4a65c_elementData_915e3 yJx4a65c_elementData_915e3, Cond.code yJx4a65c_elementData_915e3 cJx4a65c_elementData_915e3 2 (some (.object "java/lang/Object")), Cond.fieldLink RJx4a65c 9 "java/util/ArrayList" "elementData" "[Ljava/lang/Object;", Cond.methodLink RX5 239 yX3_worthNow, Cond.instanceMethod yX3_worthNow, Cond.selects RX3 yX3_worthNow yX3_worthNow, Cond.initialized RX3, Cond.code yX3_worthNow cX3_worthNow 2 (some .int), Cond.fieldLink RX3 18 "InkHall$Script" "marks" "LInkHall$Marks;", Cond.fieldLink RX3 22 "InkHall$Script" "isShown" "Z", Cond.methodLink RX3 77 yX0_result, Cond.instanceMethod yX0_result, Cond.selects RX0 yX0_result yX0_result, Cond.initialized RX0, Cond.code yX0_result cX0_result 3 (some .int), Cond.fieldLink RX0 15 "InkHall$Marks" "values" "[I", Cond.methodLink RX0 32 Lib.Math.min.name, Cond.static Lib.Math.min.name, Cond.initialized "java/lang/Math"]
def wsX5_worth_r3 : List Cond := [Cond.code Lib.Math.min.name Lib.Math.min.code 2 (some .int), Cond.methodLink RX0 36 Lib.Math.max.name, Cond.static Lib.Math.max.name, Cond.code Lib.Math.max.name Lib.Math.max.code 2 (some .int), Cond.fieldLink RX0 18 "InkHall$Marks" "count" "I", Cond.methodLink RX0 28 yX0_lacking, Cond.instanceMethod yX0_lacking, Cond.selects RX0 yX0_lacking yX0_lacking, Cond.code yX0_lacking cX0_lacking 2 (some .int), Cond.methodLink RX0 22 Lib.Math.abs.name, Cond.static Lib.Math.abs.name, Cond.code Lib.Math.abs.name Lib.Math.abs.code 1 (some .int), Cond.methodLink RX3 80 yX3_allPoints, Cond.instanceMethod yX3_allPoints, Cond.selects RX3 yX3_allPoints yX3_allPoints, Cond.code yX3_allPoints cX3_allPoints 6 (some .int), Cond.fieldLink RX3 30 "InkHall$Script" "points" "[I", Cond.methodLink RX3 83 yX3_allSlips, Cond.instanceMethod yX3_allSlips, Cond.selects RX3 yX3_allSlips yX3_allSlips, Cond.code yX3_allSlips cX3_allSlips 6 (some .int), Cond.fieldLink RX3 26 "InkHall$Script" "slipCounts" "[I"]
def wsX5_worth : List Cond := .code yX5_worth cX5_worth 2 (some .int) :: ((wsX5_worth_r1 ++ (wsX5_worth_r2 ++ wsX5_worth_r3)) ++ wsX50 ++ wsJx4a65c0 ++ wsX30 ++ wsX00 ++ (vx_atS RX5 96 "java/lang/IndexOutOfBoundsException" ["java/lang/RuntimeException", "java/lang/Exception"]).filter goodWord)
def wsX5_placeNow_r1 : List Cond := [Cond.fieldLink RX5 33 "InkHall" "scripts" "Ljava/util/ArrayList;", Cond.classLink RX5 147 "InkHall$Script", Cond.methodLink RX5 78 yJx4a65c_size_8abf5, Cond.instanceMethod yJx4a65c_size_8abf5, Cond.selects RJx4a65c yJx4a65c_size_8abf5 yJx4a65c_size_8abf5, Cond.initialized RJx4a65c, Cond.code yJx4a65c_size_8abf5 cJx4a65c_size_8abf5 1 (some .int), Cond.fieldLink RJx4a65c 48 "java/util/ArrayList" "size" "I", Cond.methodLink RX5 209 yJx4a65c_get_915e3, Cond.instanceMethod yJx4a65c_get_915e3, Cond.selects RJx4a65c yJx4a65c_get_915e3 yJx4a65c_get_915e3, Cond.code yJx4a65c_get_915e3 cJx4a65c_get_915e3 2 (some (.object "java/lang/Object")), Cond.methodLink RJx4a65c 118 yJ15_checkIndex_7cf53, Cond.static yJ15_checkIndex_7cf53, Cond.initialized RJ15, Cond.code yJ15_checkIndex_7cf53 cJ15_checkIndex_7cf53 2 (some .int), Cond.methodLink RJ15 105 yJ3_checkIndex_8e157, Cond.static yJ3_checkIndex_8e157, Cond.initialized RJ3, Cond.code yJ3_checkIndex_8e157 cJ3_checkIndex_8e157 3 (some .int), Cond.methodLink RJx4a65c 123 yJx4a65c_elementData_915e3, Cond.instanceMethod yJx4a65c_elementData_915e3, Cond.selects RJx4a65c yJx4a65c_elementData_915e3 yJx4a65c_elementData_915e3, Cond.code yJx4a65c_elementData_915e3 cJx4a65c_elementData_915e3 2 (some (.object "java/lang/Object"))]
def wsX5_placeNow_r2 : List Cond := [Cond.fieldLink RJx4a65c 9 "java/util/ArrayList" "elementData" "[Ljava/lang/Object;", Cond.methodLink RX5 239 yX3_worthNow, Cond.instanceMethod yX3_worthNow, Cond.selects RX3 yX3_worthNow yX3_worthNow, Cond.initialized RX3, Cond.code yX3_worthNow cX3_worthNow 2 (some .int), Cond.fieldLink RX3 18 "InkHall$Script" "marks" "LInkHall$Marks;", Cond.fieldLink RX3 22 "InkHall$Script" "isShown" "Z", Cond.methodLink RX3 77 yX0_result, Cond.instanceMethod yX0_result, Cond.selects RX0 yX0_result yX0_result, Cond.initialized RX0, Cond.code yX0_result cX0_result 3 (some .int), Cond.fieldLink RX0 15 "InkHall$Marks" "values" "[I", Cond.methodLink RX0 32 Lib.Math.min.name, Cond.static Lib.Math.min.name, Cond.initialized "java/lang/Math", Cond.code Lib.Math.min.name Lib.Math.min.code 2 (some .int), Cond.methodLink RX0 36 Lib.Math.max.name, Cond.static Lib.Math.max.name, Cond.code Lib.Math.max.name Lib.Math.max.code 2 (some .int), Cond.fieldLink RX0 18 "InkHall$Marks" "count" "I", Cond.methodLink RX0 28 yX0_lacking, Cond.instanceMethod yX0_lacking]
def wsX5_placeNow_r3 : List Cond := [Cond.selects RX0 yX0_lacking yX0_lacking, Cond.code yX0_lacking cX0_lacking 2 (some .int), Cond.methodLink RX0 22 Lib.Math.abs.name, Cond.static Lib.Math.abs.name, Cond.code Lib.Math.abs.name Lib.Math.abs.code 1 (some .int), Cond.methodLink RX3 80 yX3_allPoints, Cond.instanceMethod yX3_allPoints, Cond.selects RX3 yX3_allPoints yX3_allPoints, Cond.code yX3_allPoints cX3_allPoints 6 (some .int), Cond.fieldLink RX3 30 "InkHall$Script" "points" "[I", Cond.methodLink RX3 83 yX3_allSlips, Cond.instanceMethod yX3_allSlips, Cond.selects RX3 yX3_allSlips yX3_allSlips, Cond.code yX3_allSlips cX3_allSlips 6 (some .int), Cond.fieldLink RX3 26 "InkHall$Script" "slipCounts" "[I"]
def wsX5_placeNow : List Cond := .code yX5_placeNow cX5_placeNow 6 (some .int) :: ((wsX5_placeNow_r1 ++ (wsX5_placeNow_r2 ++ wsX5_placeNow_r3)) ++ wsX50 ++ wsJx4a65c0 ++ wsX30 ++ wsX00)
def wsX5_place_r1 : List Cond := [Cond.methodLink RX5 161 yX5_scriptNumbered, Cond.instanceMethod yX5_scriptNumbered, Cond.selects RX5 yX5_scriptNumbered yX5_scriptNumbered, Cond.initialized RX5, Cond.code yX5_scriptNumbered cX5_scriptNumbered 2 (some (.object "InkHall$Script")), Cond.classLink RX5 92 "java/lang/IndexOutOfBoundsException", Cond.initialized "java/lang/IndexOutOfBoundsException", Cond.fieldLink RX5 33 "InkHall" "scripts" "Ljava/util/ArrayList;", Cond.classLink RX5 147 "InkHall$Script", Cond.methodLink RX5 78 yJx4a65c_size_8abf5, Cond.instanceMethod yJx4a65c_size_8abf5, Cond.selects RJx4a65c yJx4a65c_size_8abf5 yJx4a65c_size_8abf5, Cond.initialized RJx4a65c, Cond.code yJx4a65c_size_8abf5 cJx4a65c_size_8abf5 1 (some .int), Cond.fieldLink RJx4a65c 48 "java/util/ArrayList" "size" "I", Cond.methodLink RX5 209 yJx4a65c_get_915e3, Cond.instanceMethod yJx4a65c_get_915e3, Cond.selects RJx4a65c yJx4a65c_get_915e3 yJx4a65c_get_915e3, Cond.code yJx4a65c_get_915e3 cJx4a65c_get_915e3 2 (some (.object "java/lang/Object")), Cond.methodLink RJx4a65c 118 yJ15_checkIndex_7cf53, Cond.static yJ15_checkIndex_7cf53, Cond.initialized RJ15, Cond.code yJ15_checkIndex_7cf53 cJ15_checkIndex_7cf53 2 (some .int), Cond.methodLink RJ15 105 yJ3_checkIndex_8e157]
def wsX5_place_r2 : List Cond := [Cond.static yJ3_checkIndex_8e157, Cond.initialized RJ3, Cond.code yJ3_checkIndex_8e157 cJ3_checkIndex_8e157 3 (some .int), Cond.methodLink RJx4a65c 123 yJx4a65c_elementData_915e3, Cond.instanceMethod yJx4a65c_elementData_915e3, Cond.selects RJx4a65c yJx4a65c_elementData_915e3 yJx4a65c_elementData_915e3, Cond.code yJx4a65c_elementData_915e3 cJx4a65c_elementData_915e3 2 (some (.object "java/lang/Object")), Cond.fieldLink RJx4a65c 9 "java/util/ArrayList" "elementData" "[Ljava/lang/Object;", Cond.methodLink RX5 239 yX3_worthNow, Cond.instanceMethod yX3_worthNow, Cond.selects RX3 yX3_worthNow yX3_worthNow, Cond.initialized RX3, Cond.code yX3_worthNow cX3_worthNow 2 (some .int), Cond.fieldLink RX3 18 "InkHall$Script" "marks" "LInkHall$Marks;", Cond.fieldLink RX3 22 "InkHall$Script" "isShown" "Z", Cond.methodLink RX3 77 yX0_result, Cond.instanceMethod yX0_result, Cond.selects RX0 yX0_result yX0_result, Cond.initialized RX0, Cond.code yX0_result cX0_result 3 (some .int), Cond.fieldLink RX0 15 "InkHall$Marks" "values" "[I", Cond.methodLink RX0 32 Lib.Math.min.name, Cond.static Lib.Math.min.name, Cond.initialized "java/lang/Math"]
def wsX5_place_r3 : List Cond := [Cond.code Lib.Math.min.name Lib.Math.min.code 2 (some .int), Cond.methodLink RX0 36 Lib.Math.max.name, Cond.static Lib.Math.max.name, Cond.code Lib.Math.max.name Lib.Math.max.code 2 (some .int), Cond.fieldLink RX0 18 "InkHall$Marks" "count" "I", Cond.methodLink RX0 28 yX0_lacking, Cond.instanceMethod yX0_lacking, Cond.selects RX0 yX0_lacking yX0_lacking, Cond.code yX0_lacking cX0_lacking 2 (some .int), Cond.methodLink RX0 22 Lib.Math.abs.name, Cond.static Lib.Math.abs.name, Cond.code Lib.Math.abs.name Lib.Math.abs.code 1 (some .int), Cond.methodLink RX3 80 yX3_allPoints, Cond.instanceMethod yX3_allPoints, Cond.selects RX3 yX3_allPoints yX3_allPoints, Cond.code yX3_allPoints cX3_allPoints 6 (some .int), Cond.fieldLink RX3 30 "InkHall$Script" "points" "[I", Cond.methodLink RX3 83 yX3_allSlips, Cond.instanceMethod yX3_allSlips, Cond.selects RX3 yX3_allSlips yX3_allSlips, Cond.code yX3_allSlips cX3_allSlips 6 (some .int), Cond.fieldLink RX3 26 "InkHall$Script" "slipCounts" "[I", Cond.methodLink RX5 242 yX5_placeNow, Cond.instanceMethod yX5_placeNow]
def wsX5_place_r4 : List Cond := [Cond.selects RX5 yX5_placeNow yX5_placeNow, Cond.code yX5_placeNow cX5_placeNow 6 (some .int)]
def wsX5_place : List Cond := .code yX5_place cX5_place 2 (some .int) :: ((wsX5_place_r1 ++ (wsX5_place_r2 ++ (wsX5_place_r3 ++ wsX5_place_r4))) ++ wsX50 ++ wsJx4a65c0 ++ wsX30 ++ wsX00 ++ (vx_atS RX5 96 "java/lang/IndexOutOfBoundsException" ["java/lang/RuntimeException", "java/lang/Exception"]).filter goodWord)
def wsX5_at_r1 : List Cond := [Cond.classLink RX5 92 "java/lang/IndexOutOfBoundsException", Cond.initialized "java/lang/IndexOutOfBoundsException", Cond.fieldLink RX5 33 "InkHall" "scripts" "Ljava/util/ArrayList;", Cond.classLink RX5 147 "InkHall$Script", Cond.methodLink RX5 78 yJx4a65c_size_8abf5, Cond.instanceMethod yJx4a65c_size_8abf5, Cond.selects RJx4a65c yJx4a65c_size_8abf5 yJx4a65c_size_8abf5, Cond.initialized RJx4a65c, Cond.code yJx4a65c_size_8abf5 cJx4a65c_size_8abf5 1 (some .int), Cond.fieldLink RJx4a65c 48 "java/util/ArrayList" "size" "I", Cond.methodLink RX5 209 yJx4a65c_get_915e3, Cond.instanceMethod yJx4a65c_get_915e3, Cond.selects RJx4a65c yJx4a65c_get_915e3 yJx4a65c_get_915e3, Cond.code yJx4a65c_get_915e3 cJx4a65c_get_915e3 2 (some (.object "java/lang/Object")), Cond.methodLink RJx4a65c 118 yJ15_checkIndex_7cf53, Cond.static yJ15_checkIndex_7cf53, Cond.initialized RJ15, Cond.code yJ15_checkIndex_7cf53 cJ15_checkIndex_7cf53 2 (some .int), Cond.methodLink RJ15 105 yJ3_checkIndex_8e157, Cond.static yJ3_checkIndex_8e157, Cond.initialized RJ3, Cond.code yJ3_checkIndex_8e157 cJ3_checkIndex_8e157 3 (some .int), Cond.methodLink RJx4a65c 123 yJx4a65c_elementData_915e3, Cond.instanceMethod yJx4a65c_elementData_915e3]
def wsX5_at_r2 : List Cond := [Cond.selects RJx4a65c yJx4a65c_elementData_915e3 yJx4a65c_elementData_915e3, Cond.code yJx4a65c_elementData_915e3 cJx4a65c_elementData_915e3 2 (some (.object "java/lang/Object")), Cond.fieldLink RJx4a65c 9 "java/util/ArrayList" "elementData" "[Ljava/lang/Object;", Cond.methodLink RX5 239 yX3_worthNow, Cond.instanceMethod yX3_worthNow, Cond.selects RX3 yX3_worthNow yX3_worthNow, Cond.initialized RX3, Cond.code yX3_worthNow cX3_worthNow 2 (some .int), Cond.fieldLink RX3 18 "InkHall$Script" "marks" "LInkHall$Marks;", Cond.fieldLink RX3 22 "InkHall$Script" "isShown" "Z", Cond.methodLink RX3 77 yX0_result, Cond.instanceMethod yX0_result, Cond.selects RX0 yX0_result yX0_result, Cond.initialized RX0, Cond.code yX0_result cX0_result 3 (some .int), Cond.fieldLink RX0 15 "InkHall$Marks" "values" "[I", Cond.methodLink RX0 32 Lib.Math.min.name, Cond.static Lib.Math.min.name, Cond.initialized "java/lang/Math", Cond.code Lib.Math.min.name Lib.Math.min.code 2 (some .int), Cond.methodLink RX0 36 Lib.Math.max.name, Cond.static Lib.Math.max.name, Cond.code Lib.Math.max.name Lib.Math.max.code 2 (some .int), Cond.fieldLink RX0 18 "InkHall$Marks" "count" "I"]
def wsX5_at_r3 : List Cond := [Cond.methodLink RX0 28 yX0_lacking, Cond.instanceMethod yX0_lacking, Cond.selects RX0 yX0_lacking yX0_lacking, Cond.code yX0_lacking cX0_lacking 2 (some .int), Cond.methodLink RX0 22 Lib.Math.abs.name, Cond.static Lib.Math.abs.name, Cond.code Lib.Math.abs.name Lib.Math.abs.code 1 (some .int), Cond.methodLink RX3 80 yX3_allPoints, Cond.instanceMethod yX3_allPoints, Cond.selects RX3 yX3_allPoints yX3_allPoints, Cond.code yX3_allPoints cX3_allPoints 6 (some .int), Cond.fieldLink RX3 30 "InkHall$Script" "points" "[I", Cond.methodLink RX3 83 yX3_allSlips, Cond.instanceMethod yX3_allSlips, Cond.selects RX3 yX3_allSlips yX3_allSlips, Cond.code yX3_allSlips cX3_allSlips 6 (some .int), Cond.fieldLink RX3 26 "InkHall$Script" "slipCounts" "[I", Cond.methodLink RX5 242 yX5_placeNow, Cond.instanceMethod yX5_placeNow, Cond.selects RX5 yX5_placeNow yX5_placeNow, Cond.initialized RX5, Cond.code yX5_placeNow cX5_placeNow 6 (some .int)]
def wsX5_at : List Cond := .code yX5_at cX5_at 3 (some .int) :: ((wsX5_at_r1 ++ (wsX5_at_r2 ++ wsX5_at_r3)) ++ wsX50 ++ wsJx4a65c0 ++ wsX30 ++ wsX00 ++ (vx_atS RX5 96 "java/lang/IndexOutOfBoundsException" ["java/lang/RuntimeException", "java/lang/Exception"]).filter goodWord)
def wsX6_init_r1 : List Cond := [Cond.methodLink RX6 1 objectInit, Cond.instanceMethod objectInit, Cond.code objectInit ⟨#[0xb1]⟩ 1 none, Cond.arrayClass .int, Cond.fieldLink RX6 7 "InkHallModel" "pen" "[I", Cond.fieldLink RX6 13 "InkHallModel" "strokes" "[I", Cond.fieldLink RX6 16 "InkHallModel" "strokesOf" "[I", Cond.fieldLink RX6 19 "InkHallModel" "group" "[I", Cond.fieldLink RX6 22 "InkHallModel" "age" "[I", Cond.arrayClass .boolean, Cond.fieldLink RX6 25 "InkHallModel" "isLeftHand" "[Z", Cond.fieldLink RX6 29 "InkHallModel" "sheets" "[I", Cond.fieldLink RX6 32 "InkHallModel" "drawn" "[I", Cond.fieldLink RX6 35 "InkHallModel" "drawnOf" "[I", Cond.fieldLink RX6 38 "InkHallModel" "writer" "[I", Cond.fieldLink RX6 41 "InkHallModel" "letterOf" "[I", Cond.fieldLink RX6 44 "InkHallModel" "isRuledWrong" "[Z", Cond.fieldLink RX6 47 "InkHallModel" "marks" "[I", Cond.fieldLink RX6 50 "InkHallModel" "markers" "[I", Cond.fieldLink RX6 53 "InkHallModel" "marksOf" "[I", Cond.fieldLink RX6 56 "InkHallModel" "isOut" "[Z", Cond.fieldLink RX6 59 "InkHallModel" "isShown" "[Z", Cond.fieldLink RX6 62 "InkHallModel" "points" "[I", Cond.fieldLink RX6 65 "InkHallModel" "longest" "[I"]
def wsX6_init_r2 : List Cond := [Cond.fieldLink RX6 68 "InkHallModel" "onPen" "I"]
def wsX6_init : List Cond := .code yX6_init cX6_init 1 none :: ((wsX6_init_r1 ++ wsX6_init_r2) ++ wsX60)
def wsX6_thrown : List Cond := .code yX6_thrown cX6_thrown 1 (some .int) :: ([.fieldLink RX6 72 "InkHallModel" "thrown" "I"] ++ wsX60)
def wsX6_fails : List Cond := .code yX6_fails cX6_fails 2 (some .int) :: ([.fieldLink RX6 72 "InkHallModel" "thrown" "I"] ++ wsX60)
def wsX6_asks : List Cond := .code yX6_asks cX6_asks 2 (some .boolean) :: ([.fieldLink RX6 72 "InkHallModel" "thrown" "I"] ++ wsX60)
def wsX6_in : List Cond := .code yX6_in cX6_in 3 (some .boolean) :: ([])
def wsX6_isScript : List Cond := .code yX6_isScript cX6_isScript 2 (some .boolean) :: ([.fieldLink RX6 75 "InkHallModel" "scripts" "I", .methodLink RX6 78 yX6_in, .static yX6_in, .initialized RX6, .code yX6_in cX6_in 3 (some .boolean)] ++ wsX60)
def wsX6_areOneLine : List Cond := .code yX6_areOneLine cX6_areOneLine 2 (some .boolean) :: ([])
def wsX6_stroke : List Cond := .code yX6_stroke cX6_stroke 3 (some .int) :: ([.fieldLink RX6 68 "InkHallModel" "onPen" "I", .fieldLink RX6 7 "InkHallModel" "pen" "[I", .methodLink RX6 78 yX6_in, .static yX6_in, .initialized RX6, .code yX6_in cX6_in 3 (some .boolean), .methodLink RX6 82 yX6_asks, .instanceMethod yX6_asks, .selects RX6 yX6_asks yX6_asks, .code yX6_asks cX6_asks 2 (some .boolean), .fieldLink RX6 72 "InkHallModel" "thrown" "I", .methodLink RX6 86 yX6_fails, .instanceMethod yX6_fails, .selects RX6 yX6_fails yX6_fails, .code yX6_fails cX6_fails 2 (some .int)] ++ wsX60)
def wsX6_lift : List Cond := .code yX6_lift cX6_lift 2 (some .int) :: ([.fieldLink RX6 72 "InkHallModel" "thrown" "I", .fieldLink RX6 68 "InkHallModel" "onPen" "I"] ++ wsX60)
def wsX6_letter : List Cond := .code yX6_letter cX6_letter 4 (some .int) :: ([.fieldLink RX6 68 "InkHallModel" "onPen" "I", .fieldLink RX6 90 "InkHallModel" "letters" "I", .fieldLink RX6 7 "InkHallModel" "pen" "[I", .fieldLink RX6 13 "InkHallModel" "strokes" "[I", .fieldLink RX6 16 "InkHallModel" "strokesOf" "[I", .methodLink RX6 78 yX6_in, .static yX6_in, .initialized RX6, .code yX6_in cX6_in 3 (some .boolean), .methodLink RX6 93 yX6_areOneLine, .static yX6_areOneLine, .code yX6_areOneLine cX6_areOneLine 2 (some .boolean), .methodLink RX6 82 yX6_asks, .instanceMethod yX6_asks, .selects RX6 yX6_asks yX6_asks, .code yX6_asks cX6_asks 2 (some .boolean), .fieldLink RX6 72 "InkHallModel" "thrown" "I"] ++ wsX60)
def wsX6_isLetter : List Cond := .code yX6_isLetter cX6_isLetter 2 (some .boolean) :: ([.fieldLink RX6 90 "InkHallModel" "letters" "I", .methodLink RX6 78 yX6_in, .static yX6_in, .initialized RX6, .code yX6_in cX6_in 3 (some .boolean)] ++ wsX60)
def wsX6_strokeOf : List Cond := .code yX6_strokeOf cX6_strokeOf 3 (some .int) :: ([.fieldLink RX6 16 "InkHallModel" "strokesOf" "[I", .fieldLink RX6 13 "InkHallModel" "strokes" "[I", .methodLink RX6 97 yX6_isLetter, .instanceMethod yX6_isLetter, .selects RX6 yX6_isLetter yX6_isLetter, .initialized RX6, .code yX6_isLetter cX6_isLetter 2 (some .boolean), .fieldLink RX6 90 "InkHallModel" "letters" "I", .methodLink RX6 78 yX6_in, .static yX6_in, .code yX6_in cX6_in 3 (some .boolean), .methodLink RX6 82 yX6_asks, .instanceMethod yX6_asks, .selects RX6 yX6_asks yX6_asks, .code yX6_asks cX6_asks 2 (some .boolean), .fieldLink RX6 72 "InkHallModel" "thrown" "I"] ++ wsX60)
def wsX6_pupil : List Cond := .code yX6_pupil cX6_pupil 4 (some .int) :: ([.fieldLink RX6 101 "InkHallModel" "pupils" "I", .fieldLink RX6 19 "InkHallModel" "group" "[I", .fieldLink RX6 22 "InkHallModel" "age" "[I", .fieldLink RX6 25 "InkHallModel" "isLeftHand" "[Z", .methodLink RX6 78 yX6_in, .static yX6_in, .initialized RX6, .code yX6_in cX6_in 3 (some .boolean), .methodLink RX6 82 yX6_asks, .instanceMethod yX6_asks, .selects RX6 yX6_asks yX6_asks, .code yX6_asks cX6_asks 2 (some .boolean), .fieldLink RX6 72 "InkHallModel" "thrown" "I", .methodLink RX6 86 yX6_fails, .instanceMethod yX6_fails, .selects RX6 yX6_fails yX6_fails, .code yX6_fails cX6_fails 2 (some .int)] ++ wsX60)
def wsX6_stack : List Cond := .code yX6_stack cX6_stack 2 (some .int) :: ([])
def wsX6_isBand : List Cond := .code yX6_isBand cX6_isBand 1 (some .boolean) :: ([.methodLink RX6 78 yX6_in, .static yX6_in, .initialized RX6, .code yX6_in cX6_in 3 (some .boolean)])
def wsX6_print : List Cond := .code yX6_print cX6_print 4 (some .int) :: ([.fieldLink RX6 29 "InkHallModel" "sheets" "[I", .methodLink RX6 104 yX6_isBand, .static yX6_isBand, .initialized RX6, .code yX6_isBand cX6_isBand 1 (some .boolean), .methodLink RX6 78 yX6_in, .static yX6_in, .code yX6_in cX6_in 3 (some .boolean), .methodLink RX6 82 yX6_asks, .instanceMethod yX6_asks, .selects RX6 yX6_asks yX6_asks, .code yX6_asks cX6_asks 2 (some .boolean), .fieldLink RX6 72 "InkHallModel" "thrown" "I", .methodLink RX6 86 yX6_fails, .instanceMethod yX6_fails, .selects RX6 yX6_fails yX6_fails, .code yX6_fails cX6_fails 2 (some .int), .methodLink RX6 107 yX6_stack, .static yX6_stack, .code yX6_stack cX6_stack 2 (some .int)] ++ wsX60)
def wsX6_sheets : List Cond := .code yX6_sheets cX6_sheets 3 (some .int) :: ([.fieldLink RX6 29 "InkHallModel" "sheets" "[I", .methodLink RX6 104 yX6_isBand, .static yX6_isBand, .initialized RX6, .code yX6_isBand cX6_isBand 1 (some .boolean), .methodLink RX6 78 yX6_in, .static yX6_in, .code yX6_in cX6_in 3 (some .boolean), .methodLink RX6 82 yX6_asks, .instanceMethod yX6_asks, .selects RX6 yX6_asks yX6_asks, .code yX6_asks cX6_asks 2 (some .boolean), .fieldLink RX6 72 "InkHallModel" "thrown" "I", .methodLink RX6 107 yX6_stack, .static yX6_stack, .code yX6_stack cX6_stack 2 (some .int)] ++ wsX60)
def wsX6_bandOf : List Cond := .code yX6_bandOf cX6_bandOf 2 (some .int) :: ([.fieldLink RX6 22 "InkHallModel" "age" "[I"] ++ wsX60)
def wsX6_write_r1 : List Cond := [Cond.fieldLink RX6 101 "InkHallModel" "pupils" "I", Cond.fieldLink RX6 29 "InkHallModel" "sheets" "[I", Cond.fieldLink RX6 25 "InkHallModel" "isLeftHand" "[Z", Cond.fieldLink RX6 75 "InkHallModel" "scripts" "I", Cond.fieldLink RX6 68 "InkHallModel" "onPen" "I", Cond.fieldLink RX6 32 "InkHallModel" "drawn" "[I", Cond.fieldLink RX6 7 "InkHallModel" "pen" "[I", Cond.fieldLink RX6 35 "InkHallModel" "drawnOf" "[I", Cond.fieldLink RX6 38 "InkHallModel" "writer" "[I", Cond.fieldLink RX6 41 "InkHallModel" "letterOf" "[I", Cond.fieldLink RX6 44 "InkHallModel" "isRuledWrong" "[Z", Cond.methodLink RX6 78 yX6_in, Cond.static yX6_in, Cond.initialized RX6, Cond.code yX6_in cX6_in 3 (some .boolean), Cond.methodLink RX6 97 yX6_isLetter, Cond.instanceMethod yX6_isLetter, Cond.selects RX6 yX6_isLetter yX6_isLetter, Cond.code yX6_isLetter cX6_isLetter 2 (some .boolean), Cond.fieldLink RX6 90 "InkHallModel" "letters" "I", Cond.methodLink RX6 82 yX6_asks, Cond.instanceMethod yX6_asks, Cond.selects RX6 yX6_asks yX6_asks, Cond.code yX6_asks cX6_asks 2 (some .boolean)]
def wsX6_write_r2 : List Cond := [Cond.fieldLink RX6 72 "InkHallModel" "thrown" "I", Cond.methodLink RX6 111 yX6_bandOf, Cond.instanceMethod yX6_bandOf, Cond.selects RX6 yX6_bandOf yX6_bandOf, Cond.code yX6_bandOf cX6_bandOf 2 (some .int), Cond.fieldLink RX6 22 "InkHallModel" "age" "[I", Cond.methodLink RX6 107 yX6_stack, Cond.static yX6_stack, Cond.code yX6_stack cX6_stack 2 (some .int), Cond.methodLink RX6 86 yX6_fails, Cond.instanceMethod yX6_fails, Cond.selects RX6 yX6_fails yX6_fails, Cond.code yX6_fails cX6_fails 2 (some .int)]
def wsX6_write : List Cond := .code yX6_write cX6_write 5 (some .int) :: ((wsX6_write_r1 ++ wsX6_write_r2) ++ wsX60)
def wsX6_strokeOn : List Cond := .code yX6_strokeOn cX6_strokeOn 6 (some .int) :: ([.fieldLink RX6 41 "InkHallModel" "letterOf" "[I", .fieldLink RX6 16 "InkHallModel" "strokesOf" "[I", .fieldLink RX6 13 "InkHallModel" "strokes" "[I", .fieldLink RX6 32 "InkHallModel" "drawn" "[I", .methodLink RX6 93 yX6_areOneLine, .static yX6_areOneLine, .initialized RX6, .code yX6_areOneLine cX6_areOneLine 2 (some .boolean)] ++ wsX60)
def wsX6_counts : List Cond := .code yX6_counts cX6_counts 5 (some .boolean) :: ([.methodLink RX6 114 yX6_strokeOn, .instanceMethod yX6_strokeOn, .selects RX6 yX6_strokeOn yX6_strokeOn, .initialized RX6, .code yX6_strokeOn cX6_strokeOn 6 (some .int), .fieldLink RX6 41 "InkHallModel" "letterOf" "[I", .fieldLink RX6 16 "InkHallModel" "strokesOf" "[I", .fieldLink RX6 13 "InkHallModel" "strokes" "[I", .fieldLink RX6 32 "InkHallModel" "drawn" "[I", .methodLink RX6 93 yX6_areOneLine, .static yX6_areOneLine, .code yX6_areOneLine cX6_areOneLine 2 (some .boolean)] ++ wsX60)
def wsX6_counting : List Cond := .code yX6_counting cX6_counting 4 (some .int) :: ([.fieldLink RX6 35 "InkHallModel" "drawnOf" "[I", .methodLink RX6 118 yX6_counts, .instanceMethod yX6_counts, .selects RX6 yX6_counts yX6_counts, .initialized RX6, .code yX6_counts cX6_counts 5 (some .boolean), .methodLink RX6 114 yX6_strokeOn, .instanceMethod yX6_strokeOn, .selects RX6 yX6_strokeOn yX6_strokeOn, .code yX6_strokeOn cX6_strokeOn 6 (some .int), .fieldLink RX6 41 "InkHallModel" "letterOf" "[I", .fieldLink RX6 16 "InkHallModel" "strokesOf" "[I", .fieldLink RX6 13 "InkHallModel" "strokes" "[I", .fieldLink RX6 32 "InkHallModel" "drawn" "[I", .methodLink RX6 93 yX6_areOneLine, .static yX6_areOneLine, .code yX6_areOneLine cX6_areOneLine 2 (some .boolean)] ++ wsX60)
def wsX6_turned : List Cond := .code yX6_turned cX6_turned 5 (some .int) :: ([.fieldLink RX6 35 "InkHallModel" "drawnOf" "[I", .fieldLink RX6 13 "InkHallModel" "strokes" "[I", .fieldLink RX6 41 "InkHallModel" "letterOf" "[I", .fieldLink RX6 32 "InkHallModel" "drawn" "[I", .methodLink RX6 118 yX6_counts, .instanceMethod yX6_counts, .selects RX6 yX6_counts yX6_counts, .initialized RX6, .code yX6_counts cX6_counts 5 (some .boolean), .methodLink RX6 114 yX6_strokeOn, .instanceMethod yX6_strokeOn, .selects RX6 yX6_strokeOn yX6_strokeOn, .code yX6_strokeOn cX6_strokeOn 6 (some .int), .fieldLink RX6 16 "InkHallModel" "strokesOf" "[I", .methodLink RX6 93 yX6_areOneLine, .static yX6_areOneLine, .code yX6_areOneLine cX6_areOneLine 2 (some .boolean)] ++ wsX60)
def wsX6_inOrder : List Cond := .code yX6_inOrder cX6_inOrder 6 (some .int) :: ([.fieldLink RX6 35 "InkHallModel" "drawnOf" "[I", .fieldLink RX6 65 "InkHallModel" "longest" "[I", .methodLink RX6 118 yX6_counts, .instanceMethod yX6_counts, .selects RX6 yX6_counts yX6_counts, .initialized RX6, .code yX6_counts cX6_counts 5 (some .boolean), .methodLink RX6 114 yX6_strokeOn, .instanceMethod yX6_strokeOn, .selects RX6 yX6_strokeOn yX6_strokeOn, .code yX6_strokeOn cX6_strokeOn 6 (some .int), .fieldLink RX6 41 "InkHallModel" "letterOf" "[I", .fieldLink RX6 16 "InkHallModel" "strokesOf" "[I", .fieldLink RX6 13 "InkHallModel" "strokes" "[I", .fieldLink RX6 32 "InkHallModel" "drawn" "[I", .methodLink RX6 93 yX6_areOneLine, .static yX6_areOneLine, .code yX6_areOneLine cX6_areOneLine 2 (some .boolean)] ++ wsX60)
def wsX6_slipsOf_r1 : List Cond := [Cond.fieldLink RX6 16 "InkHallModel" "strokesOf" "[I", Cond.fieldLink RX6 41 "InkHallModel" "letterOf" "[I", Cond.fieldLink RX6 35 "InkHallModel" "drawnOf" "[I", Cond.fieldLink RX6 44 "InkHallModel" "isRuledWrong" "[Z", Cond.methodLink RX6 121 yX6_counting, Cond.instanceMethod yX6_counting, Cond.selects RX6 yX6_counting yX6_counting, Cond.initialized RX6, Cond.code yX6_counting cX6_counting 4 (some .int), Cond.methodLink RX6 118 yX6_counts, Cond.instanceMethod yX6_counts, Cond.selects RX6 yX6_counts yX6_counts, Cond.code yX6_counts cX6_counts 5 (some .boolean), Cond.methodLink RX6 114 yX6_strokeOn, Cond.instanceMethod yX6_strokeOn, Cond.selects RX6 yX6_strokeOn yX6_strokeOn, Cond.code yX6_strokeOn cX6_strokeOn 6 (some .int), Cond.fieldLink RX6 13 "InkHallModel" "strokes" "[I", Cond.fieldLink RX6 32 "InkHallModel" "drawn" "[I", Cond.methodLink RX6 93 yX6_areOneLine, Cond.static yX6_areOneLine, Cond.code yX6_areOneLine cX6_areOneLine 2 (some .boolean), Cond.methodLink RX6 124 yX6_turned, Cond.instanceMethod yX6_turned]
def wsX6_slipsOf_r2 : List Cond := [Cond.selects RX6 yX6_turned yX6_turned, Cond.code yX6_turned cX6_turned 5 (some .int), Cond.methodLink RX6 127 yX6_inOrder, Cond.instanceMethod yX6_inOrder, Cond.selects RX6 yX6_inOrder yX6_inOrder, Cond.code yX6_inOrder cX6_inOrder 6 (some .int), Cond.fieldLink RX6 65 "InkHallModel" "longest" "[I"]
def wsX6_slipsOf : List Cond := .code yX6_slipsOf cX6_slipsOf 4 (some .int) :: ((wsX6_slipsOf_r1 ++ wsX6_slipsOf_r2) ++ wsX60)
def wsX6_allSlips_r1 : List Cond := [Cond.methodLink RX6 130 yX6_slipsOf, Cond.instanceMethod yX6_slipsOf, Cond.selects RX6 yX6_slipsOf yX6_slipsOf, Cond.initialized RX6, Cond.code yX6_slipsOf cX6_slipsOf 4 (some .int), Cond.fieldLink RX6 16 "InkHallModel" "strokesOf" "[I", Cond.fieldLink RX6 41 "InkHallModel" "letterOf" "[I", Cond.fieldLink RX6 35 "InkHallModel" "drawnOf" "[I", Cond.fieldLink RX6 44 "InkHallModel" "isRuledWrong" "[Z", Cond.methodLink RX6 121 yX6_counting, Cond.instanceMethod yX6_counting, Cond.selects RX6 yX6_counting yX6_counting, Cond.code yX6_counting cX6_counting 4 (some .int), Cond.methodLink RX6 118 yX6_counts, Cond.instanceMethod yX6_counts, Cond.selects RX6 yX6_counts yX6_counts, Cond.code yX6_counts cX6_counts 5 (some .boolean), Cond.methodLink RX6 114 yX6_strokeOn, Cond.instanceMethod yX6_strokeOn, Cond.selects RX6 yX6_strokeOn yX6_strokeOn, Cond.code yX6_strokeOn cX6_strokeOn 6 (some .int), Cond.fieldLink RX6 13 "InkHallModel" "strokes" "[I", Cond.fieldLink RX6 32 "InkHallModel" "drawn" "[I", Cond.methodLink RX6 93 yX6_areOneLine]
def wsX6_allSlips_r2 : List Cond := [Cond.static yX6_areOneLine, Cond.code yX6_areOneLine cX6_areOneLine 2 (some .boolean), Cond.methodLink RX6 124 yX6_turned, Cond.instanceMethod yX6_turned, Cond.selects RX6 yX6_turned yX6_turned, Cond.code yX6_turned cX6_turned 5 (some .int), Cond.methodLink RX6 127 yX6_inOrder, Cond.instanceMethod yX6_inOrder, Cond.selects RX6 yX6_inOrder yX6_inOrder, Cond.code yX6_inOrder cX6_inOrder 6 (some .int), Cond.fieldLink RX6 65 "InkHallModel" "longest" "[I"]
def wsX6_allSlips : List Cond := .code yX6_allSlips cX6_allSlips 4 (some .int) :: ((wsX6_allSlips_r1 ++ wsX6_allSlips_r2) ++ wsX60)
def wsX6_slips_r1 : List Cond := [Cond.methodLink RX6 133 yX6_isScript, Cond.instanceMethod yX6_isScript, Cond.selects RX6 yX6_isScript yX6_isScript, Cond.initialized RX6, Cond.code yX6_isScript cX6_isScript 2 (some .boolean), Cond.fieldLink RX6 75 "InkHallModel" "scripts" "I", Cond.methodLink RX6 78 yX6_in, Cond.static yX6_in, Cond.code yX6_in cX6_in 3 (some .boolean), Cond.methodLink RX6 82 yX6_asks, Cond.instanceMethod yX6_asks, Cond.selects RX6 yX6_asks yX6_asks, Cond.code yX6_asks cX6_asks 2 (some .boolean), Cond.fieldLink RX6 72 "InkHallModel" "thrown" "I", Cond.methodLink RX6 86 yX6_fails, Cond.instanceMethod yX6_fails, Cond.selects RX6 yX6_fails yX6_fails, Cond.code yX6_fails cX6_fails 2 (some .int), Cond.methodLink RX6 136 yX6_allSlips, Cond.instanceMethod yX6_allSlips, Cond.selects RX6 yX6_allSlips yX6_allSlips, Cond.code yX6_allSlips cX6_allSlips 4 (some .int), Cond.methodLink RX6 130 yX6_slipsOf, Cond.instanceMethod yX6_slipsOf]
def wsX6_slips_r2 : List Cond := [Cond.selects RX6 yX6_slipsOf yX6_slipsOf, Cond.code yX6_slipsOf cX6_slipsOf 4 (some .int), Cond.fieldLink RX6 16 "InkHallModel" "strokesOf" "[I", Cond.fieldLink RX6 41 "InkHallModel" "letterOf" "[I", Cond.fieldLink RX6 35 "InkHallModel" "drawnOf" "[I", Cond.fieldLink RX6 44 "InkHallModel" "isRuledWrong" "[Z", Cond.methodLink RX6 121 yX6_counting, Cond.instanceMethod yX6_counting, Cond.selects RX6 yX6_counting yX6_counting, Cond.code yX6_counting cX6_counting 4 (some .int), Cond.methodLink RX6 118 yX6_counts, Cond.instanceMethod yX6_counts, Cond.selects RX6 yX6_counts yX6_counts, Cond.code yX6_counts cX6_counts 5 (some .boolean), Cond.methodLink RX6 114 yX6_strokeOn, Cond.instanceMethod yX6_strokeOn, Cond.selects RX6 yX6_strokeOn yX6_strokeOn, Cond.code yX6_strokeOn cX6_strokeOn 6 (some .int), Cond.fieldLink RX6 13 "InkHallModel" "strokes" "[I", Cond.fieldLink RX6 32 "InkHallModel" "drawn" "[I", Cond.methodLink RX6 93 yX6_areOneLine, Cond.static yX6_areOneLine, Cond.code yX6_areOneLine cX6_areOneLine 2 (some .boolean), Cond.methodLink RX6 124 yX6_turned]
def wsX6_slips_r3 : List Cond := [Cond.instanceMethod yX6_turned, Cond.selects RX6 yX6_turned yX6_turned, Cond.code yX6_turned cX6_turned 5 (some .int), Cond.methodLink RX6 127 yX6_inOrder, Cond.instanceMethod yX6_inOrder, Cond.selects RX6 yX6_inOrder yX6_inOrder, Cond.code yX6_inOrder cX6_inOrder 6 (some .int), Cond.fieldLink RX6 65 "InkHallModel" "longest" "[I"]
def wsX6_slips : List Cond := .code yX6_slips cX6_slips 3 (some .int) :: ((wsX6_slips_r1 ++ (wsX6_slips_r2 ++ wsX6_slips_r3)) ++ wsX60)
def wsX6_orderAnew_r1 : List Cond := [Cond.methodLink RX6 133 yX6_isScript, Cond.instanceMethod yX6_isScript, Cond.selects RX6 yX6_isScript yX6_isScript, Cond.initialized RX6, Cond.code yX6_isScript cX6_isScript 2 (some .boolean), Cond.fieldLink RX6 75 "InkHallModel" "scripts" "I", Cond.methodLink RX6 78 yX6_in, Cond.static yX6_in, Cond.code yX6_in cX6_in 3 (some .boolean), Cond.methodLink RX6 82 yX6_asks, Cond.instanceMethod yX6_asks, Cond.selects RX6 yX6_asks yX6_asks, Cond.code yX6_asks cX6_asks 2 (some .boolean), Cond.fieldLink RX6 72 "InkHallModel" "thrown" "I", Cond.methodLink RX6 130 yX6_slipsOf, Cond.instanceMethod yX6_slipsOf, Cond.selects RX6 yX6_slipsOf yX6_slipsOf, Cond.code yX6_slipsOf cX6_slipsOf 4 (some .int), Cond.fieldLink RX6 16 "InkHallModel" "strokesOf" "[I", Cond.fieldLink RX6 41 "InkHallModel" "letterOf" "[I", Cond.fieldLink RX6 35 "InkHallModel" "drawnOf" "[I", Cond.fieldLink RX6 44 "InkHallModel" "isRuledWrong" "[Z", Cond.methodLink RX6 121 yX6_counting, Cond.instanceMethod yX6_counting]
def wsX6_orderAnew_r2 : List Cond := [Cond.selects RX6 yX6_counting yX6_counting, Cond.code yX6_counting cX6_counting 4 (some .int), Cond.methodLink RX6 118 yX6_counts, Cond.instanceMethod yX6_counts, Cond.selects RX6 yX6_counts yX6_counts, Cond.code yX6_counts cX6_counts 5 (some .boolean), Cond.methodLink RX6 114 yX6_strokeOn, Cond.instanceMethod yX6_strokeOn, Cond.selects RX6 yX6_strokeOn yX6_strokeOn, Cond.code yX6_strokeOn cX6_strokeOn 6 (some .int), Cond.fieldLink RX6 13 "InkHallModel" "strokes" "[I", Cond.fieldLink RX6 32 "InkHallModel" "drawn" "[I", Cond.methodLink RX6 93 yX6_areOneLine, Cond.static yX6_areOneLine, Cond.code yX6_areOneLine cX6_areOneLine 2 (some .boolean), Cond.methodLink RX6 124 yX6_turned, Cond.instanceMethod yX6_turned, Cond.selects RX6 yX6_turned yX6_turned, Cond.code yX6_turned cX6_turned 5 (some .int), Cond.methodLink RX6 127 yX6_inOrder, Cond.instanceMethod yX6_inOrder, Cond.selects RX6 yX6_inOrder yX6_inOrder, Cond.code yX6_inOrder cX6_inOrder 6 (some .int), Cond.fieldLink RX6 65 "InkHallModel" "longest" "[I"]
def wsX6_orderAnew : List Cond := .code yX6_orderAnew cX6_orderAnew 2 (some .int) :: ((wsX6_orderAnew_r1 ++ wsX6_orderAnew_r2) ++ wsX60)
def wsX6_lacking : List Cond := .code yX6_lacking cX6_lacking 4 (some .int) :: ([.fieldLink RX6 53 "InkHallModel" "marksOf" "[I", .fieldLink RX6 47 "InkHallModel" "marks" "[I"] ++ wsX60)
def wsX6_gradeOf : List Cond := .code yX6_gradeOf cX6_gradeOf 7 (some .int) :: ([.fieldLink RX6 47 "InkHallModel" "marks" "[I", .fieldLink RX6 53 "InkHallModel" "marksOf" "[I", .methodLink RX6 139 yX6_lacking, .instanceMethod yX6_lacking, .selects RX6 yX6_lacking yX6_lacking, .initialized RX6, .code yX6_lacking cX6_lacking 4 (some .int)] ++ wsX60)
def wsX6_isExaminer : List Cond := .code yX6_isExaminer cX6_isExaminer 1 (some .boolean) :: ([.methodLink RX6 78 yX6_in, .static yX6_in, .initialized RX6, .code yX6_in cX6_in 3 (some .boolean)])
def wsX6_hasMarked : List Cond := .code yX6_hasMarked cX6_hasMarked 5 (some .boolean) :: ([.fieldLink RX6 53 "InkHallModel" "marksOf" "[I", .fieldLink RX6 50 "InkHallModel" "markers" "[I"] ++ wsX60)
def wsX6_mark_r1 : List Cond := [Cond.fieldLink RX6 56 "InkHallModel" "isOut" "[Z", Cond.fieldLink RX6 47 "InkHallModel" "marks" "[I", Cond.fieldLink RX6 53 "InkHallModel" "marksOf" "[I", Cond.fieldLink RX6 50 "InkHallModel" "markers" "[I", Cond.methodLink RX6 142 yX6_isExaminer, Cond.static yX6_isExaminer, Cond.initialized RX6, Cond.code yX6_isExaminer cX6_isExaminer 1 (some .boolean), Cond.methodLink RX6 78 yX6_in, Cond.static yX6_in, Cond.code yX6_in cX6_in 3 (some .boolean), Cond.methodLink RX6 133 yX6_isScript, Cond.instanceMethod yX6_isScript, Cond.selects RX6 yX6_isScript yX6_isScript, Cond.code yX6_isScript cX6_isScript 2 (some .boolean), Cond.fieldLink RX6 75 "InkHallModel" "scripts" "I", Cond.methodLink RX6 82 yX6_asks, Cond.instanceMethod yX6_asks, Cond.selects RX6 yX6_asks yX6_asks, Cond.code yX6_asks cX6_asks 2 (some .boolean), Cond.fieldLink RX6 72 "InkHallModel" "thrown" "I", Cond.methodLink RX6 86 yX6_fails, Cond.instanceMethod yX6_fails, Cond.selects RX6 yX6_fails yX6_fails]
def wsX6_mark_r2 : List Cond := [Cond.code yX6_fails cX6_fails 2 (some .int), Cond.methodLink RX6 145 yX6_hasMarked, Cond.instanceMethod yX6_hasMarked, Cond.selects RX6 yX6_hasMarked yX6_hasMarked, Cond.code yX6_hasMarked cX6_hasMarked 5 (some .boolean), Cond.methodLink RX6 139 yX6_lacking, Cond.instanceMethod yX6_lacking, Cond.selects RX6 yX6_lacking yX6_lacking, Cond.code yX6_lacking cX6_lacking 4 (some .int)]
def wsX6_mark : List Cond := .code yX6_mark cX6_mark 4 (some .int) :: ((wsX6_mark_r1 ++ wsX6_mark_r2) ++ wsX60)
def wsX6_grade : List Cond := .code yX6_grade cX6_grade 2 (some .int) :: ([.methodLink RX6 133 yX6_isScript, .instanceMethod yX6_isScript, .selects RX6 yX6_isScript yX6_isScript, .initialized RX6, .code yX6_isScript cX6_isScript 2 (some .boolean), .fieldLink RX6 75 "InkHallModel" "scripts" "I", .methodLink RX6 78 yX6_in, .static yX6_in, .code yX6_in cX6_in 3 (some .boolean), .methodLink RX6 82 yX6_asks, .instanceMethod yX6_asks, .selects RX6 yX6_asks yX6_asks, .code yX6_asks cX6_asks 2 (some .boolean), .fieldLink RX6 72 "InkHallModel" "thrown" "I", .methodLink RX6 148 yX6_gradeOf, .instanceMethod yX6_gradeOf, .selects RX6 yX6_gradeOf yX6_gradeOf, .code yX6_gradeOf cX6_gradeOf 7 (some .int), .fieldLink RX6 47 "InkHallModel" "marks" "[I", .fieldLink RX6 53 "InkHallModel" "marksOf" "[I", .methodLink RX6 139 yX6_lacking, .instanceMethod yX6_lacking, .selects RX6 yX6_lacking yX6_lacking, .code yX6_lacking cX6_lacking 4 (some .int)] ++ wsX60)
def wsX6_lacks : List Cond := .code yX6_lacks cX6_lacks 2 (some .int) :: ([.methodLink RX6 133 yX6_isScript, .instanceMethod yX6_isScript, .selects RX6 yX6_isScript yX6_isScript, .initialized RX6, .code yX6_isScript cX6_isScript 2 (some .boolean), .fieldLink RX6 75 "InkHallModel" "scripts" "I", .methodLink RX6 78 yX6_in, .static yX6_in, .code yX6_in cX6_in 3 (some .boolean), .methodLink RX6 82 yX6_asks, .instanceMethod yX6_asks, .selects RX6 yX6_asks yX6_asks, .code yX6_asks cX6_asks 2 (some .boolean), .fieldLink RX6 72 "InkHallModel" "thrown" "I", .methodLink RX6 139 yX6_lacking, .instanceMethod yX6_lacking, .selects RX6 yX6_lacking yX6_lacking, .code yX6_lacking cX6_lacking 4 (some .int), .fieldLink RX6 53 "InkHallModel" "marksOf" "[I", .fieldLink RX6 47 "InkHallModel" "marks" "[I"] ++ wsX60)
def wsX6_dropsMarks : List Cond := .code yX6_dropsMarks cX6_dropsMarks 6 none :: ([.fieldLink RX6 53 "InkHallModel" "marksOf" "[I", .fieldLink RX6 50 "InkHallModel" "markers" "[I", .fieldLink RX6 47 "InkHallModel" "marks" "[I"] ++ wsX60)
def wsX6_takeOut_r1 : List Cond := [Cond.fieldLink RX6 56 "InkHallModel" "isOut" "[Z", Cond.fieldLink RX6 75 "InkHallModel" "scripts" "I", Cond.methodLink RX6 142 yX6_isExaminer, Cond.static yX6_isExaminer, Cond.initialized RX6, Cond.code yX6_isExaminer cX6_isExaminer 1 (some .boolean), Cond.methodLink RX6 78 yX6_in, Cond.static yX6_in, Cond.code yX6_in cX6_in 3 (some .boolean), Cond.methodLink RX6 82 yX6_asks, Cond.instanceMethod yX6_asks, Cond.selects RX6 yX6_asks yX6_asks, Cond.code yX6_asks cX6_asks 2 (some .boolean), Cond.fieldLink RX6 72 "InkHallModel" "thrown" "I", Cond.methodLink RX6 86 yX6_fails, Cond.instanceMethod yX6_fails, Cond.selects RX6 yX6_fails yX6_fails, Cond.code yX6_fails cX6_fails 2 (some .int), Cond.methodLink RX6 148 yX6_gradeOf, Cond.instanceMethod yX6_gradeOf, Cond.selects RX6 yX6_gradeOf yX6_gradeOf, Cond.code yX6_gradeOf cX6_gradeOf 7 (some .int), Cond.fieldLink RX6 47 "InkHallModel" "marks" "[I", Cond.fieldLink RX6 53 "InkHallModel" "marksOf" "[I"]
def wsX6_takeOut_r2 : List Cond := [Cond.methodLink RX6 139 yX6_lacking, Cond.instanceMethod yX6_lacking, Cond.selects RX6 yX6_lacking yX6_lacking, Cond.code yX6_lacking cX6_lacking 4 (some .int), Cond.methodLink RX6 151 yX6_dropsMarks, Cond.instanceMethod yX6_dropsMarks, Cond.selects RX6 yX6_dropsMarks yX6_dropsMarks, Cond.code yX6_dropsMarks cX6_dropsMarks 6 none, Cond.fieldLink RX6 50 "InkHallModel" "markers" "[I"]
def wsX6_takeOut : List Cond := .code yX6_takeOut cX6_takeOut 5 (some .int) :: ((wsX6_takeOut_r1 ++ wsX6_takeOut_r2) ++ wsX60)
def wsX6_show_r1 : List Cond := [Cond.fieldLink RX6 59 "InkHallModel" "isShown" "[Z", Cond.fieldLink RX6 75 "InkHallModel" "scripts" "I", Cond.methodLink RX6 133 yX6_isScript, Cond.instanceMethod yX6_isScript, Cond.selects RX6 yX6_isScript yX6_isScript, Cond.initialized RX6, Cond.code yX6_isScript cX6_isScript 2 (some .boolean), Cond.methodLink RX6 78 yX6_in, Cond.static yX6_in, Cond.code yX6_in cX6_in 3 (some .boolean), Cond.methodLink RX6 82 yX6_asks, Cond.instanceMethod yX6_asks, Cond.selects RX6 yX6_asks yX6_asks, Cond.code yX6_asks cX6_asks 2 (some .boolean), Cond.fieldLink RX6 72 "InkHallModel" "thrown" "I", Cond.methodLink RX6 148 yX6_gradeOf, Cond.instanceMethod yX6_gradeOf, Cond.selects RX6 yX6_gradeOf yX6_gradeOf, Cond.code yX6_gradeOf cX6_gradeOf 7 (some .int), Cond.fieldLink RX6 47 "InkHallModel" "marks" "[I", Cond.fieldLink RX6 53 "InkHallModel" "marksOf" "[I", Cond.methodLink RX6 139 yX6_lacking, Cond.instanceMethod yX6_lacking, Cond.selects RX6 yX6_lacking yX6_lacking]
def wsX6_show_r2 : List Cond := [Cond.code yX6_lacking cX6_lacking 4 (some .int), Cond.methodLink RX6 86 yX6_fails, Cond.instanceMethod yX6_fails, Cond.selects RX6 yX6_fails yX6_fails, Cond.code yX6_fails cX6_fails 2 (some .int)]
def wsX6_show : List Cond := .code yX6_show cX6_show 4 (some .int) :: ((wsX6_show_r1 ++ wsX6_show_r2) ++ wsX60)
def wsX6_pointsOf : List Cond := .code yX6_pointsOf cX6_pointsOf 4 (some .int) :: ([.fieldLink RX6 62 "InkHallModel" "points" "[I"] ++ wsX60)
def wsX6_vote_r1 : List Cond := [Cond.fieldLink RX6 59 "InkHallModel" "isShown" "[Z", Cond.fieldLink RX6 19 "InkHallModel" "group" "[I", Cond.fieldLink RX6 38 "InkHallModel" "writer" "[I", Cond.fieldLink RX6 62 "InkHallModel" "points" "[I", Cond.methodLink RX6 78 yX6_in, Cond.static yX6_in, Cond.initialized RX6, Cond.code yX6_in cX6_in 3 (some .boolean), Cond.methodLink RX6 133 yX6_isScript, Cond.instanceMethod yX6_isScript, Cond.selects RX6 yX6_isScript yX6_isScript, Cond.code yX6_isScript cX6_isScript 2 (some .boolean), Cond.fieldLink RX6 75 "InkHallModel" "scripts" "I", Cond.methodLink RX6 82 yX6_asks, Cond.instanceMethod yX6_asks, Cond.selects RX6 yX6_asks yX6_asks, Cond.code yX6_asks cX6_asks 2 (some .boolean), Cond.fieldLink RX6 72 "InkHallModel" "thrown" "I", Cond.methodLink RX6 86 yX6_fails, Cond.instanceMethod yX6_fails, Cond.selects RX6 yX6_fails yX6_fails, Cond.code yX6_fails cX6_fails 2 (some .int), Cond.methodLink RX6 155 yX6_pointsOf, Cond.instanceMethod yX6_pointsOf]
def wsX6_vote_r2 : List Cond := [Cond.selects RX6 yX6_pointsOf yX6_pointsOf, Cond.code yX6_pointsOf cX6_pointsOf 4 (some .int)]
def wsX6_vote : List Cond := .code yX6_vote cX6_vote 4 (some .int) :: ((wsX6_vote_r1 ++ wsX6_vote_r2) ++ wsX60)
def wsX6_worthOf_r1 : List Cond := [Cond.fieldLink RX6 59 "InkHallModel" "isShown" "[Z", Cond.methodLink RX6 148 yX6_gradeOf, Cond.instanceMethod yX6_gradeOf, Cond.selects RX6 yX6_gradeOf yX6_gradeOf, Cond.initialized RX6, Cond.code yX6_gradeOf cX6_gradeOf 7 (some .int), Cond.fieldLink RX6 47 "InkHallModel" "marks" "[I", Cond.fieldLink RX6 53 "InkHallModel" "marksOf" "[I", Cond.methodLink RX6 139 yX6_lacking, Cond.instanceMethod yX6_lacking, Cond.selects RX6 yX6_lacking yX6_lacking, Cond.code yX6_lacking cX6_lacking 4 (some .int), Cond.methodLink RX6 155 yX6_pointsOf, Cond.instanceMethod yX6_pointsOf, Cond.selects RX6 yX6_pointsOf yX6_pointsOf, Cond.code yX6_pointsOf cX6_pointsOf 4 (some .int), Cond.fieldLink RX6 62 "InkHallModel" "points" "[I", Cond.methodLink RX6 136 yX6_allSlips, Cond.instanceMethod yX6_allSlips, Cond.selects RX6 yX6_allSlips yX6_allSlips, Cond.code yX6_allSlips cX6_allSlips 4 (some .int), Cond.methodLink RX6 130 yX6_slipsOf, Cond.instanceMethod yX6_slipsOf, Cond.selects RX6 yX6_slipsOf yX6_slipsOf]
def wsX6_worthOf_r2 : List Cond := [Cond.code yX6_slipsOf cX6_slipsOf 4 (some .int), Cond.fieldLink RX6 16 "InkHallModel" "strokesOf" "[I", Cond.fieldLink RX6 41 "InkHallModel" "letterOf" "[I", Cond.fieldLink RX6 35 "InkHallModel" "drawnOf" "[I", Cond.fieldLink RX6 44 "InkHallModel" "isRuledWrong" "[Z", Cond.methodLink RX6 121 yX6_counting, Cond.instanceMethod yX6_counting, Cond.selects RX6 yX6_counting yX6_counting, Cond.code yX6_counting cX6_counting 4 (some .int), Cond.methodLink RX6 118 yX6_counts, Cond.instanceMethod yX6_counts, Cond.selects RX6 yX6_counts yX6_counts, Cond.code yX6_counts cX6_counts 5 (some .boolean), Cond.methodLink RX6 114 yX6_strokeOn, Cond.instanceMethod yX6_strokeOn, Cond.selects RX6 yX6_strokeOn yX6_strokeOn, Cond.code yX6_strokeOn cX6_strokeOn 6 (some .int), Cond.fieldLink RX6 13 "InkHallModel" "strokes" "[I", Cond.fieldLink RX6 32 "InkHallModel" "drawn" "[I", Cond.methodLink RX6 93 yX6_areOneLine, Cond.static yX6_areOneLine, Cond.code yX6_areOneLine cX6_areOneLine 2 (some .boolean), Cond.methodLink RX6 124 yX6_turned, Cond.instanceMethod yX6_turned]
def wsX6_worthOf_r3 : List Cond := [Cond.selects RX6 yX6_turned yX6_turned, Cond.code yX6_turned cX6_turned 5 (some .int), Cond.methodLink RX6 127 yX6_inOrder, Cond.instanceMethod yX6_inOrder, Cond.selects RX6 yX6_inOrder yX6_inOrder, Cond.code yX6_inOrder cX6_inOrder 6 (some .int), Cond.fieldLink RX6 65 "InkHallModel" "longest" "[I"]
def wsX6_worthOf : List Cond := .code yX6_worthOf cX6_worthOf 3 (some .int) :: ((wsX6_worthOf_r1 ++ (wsX6_worthOf_r2 ++ wsX6_worthOf_r3)) ++ wsX60)
def wsX6_placeOf_r1 : List Cond := [Cond.fieldLink RX6 75 "InkHallModel" "scripts" "I", Cond.methodLink RX6 158 yX6_worthOf, Cond.instanceMethod yX6_worthOf, Cond.selects RX6 yX6_worthOf yX6_worthOf, Cond.initialized RX6, Cond.code yX6_worthOf cX6_worthOf 3 (some .int), Cond.fieldLink RX6 59 "InkHallModel" "isShown" "[Z", Cond.methodLink RX6 148 yX6_gradeOf, Cond.instanceMethod yX6_gradeOf, Cond.selects RX6 yX6_gradeOf yX6_gradeOf, Cond.code yX6_gradeOf cX6_gradeOf 7 (some .int), Cond.fieldLink RX6 47 "InkHallModel" "marks" "[I", Cond.fieldLink RX6 53 "InkHallModel" "marksOf" "[I", Cond.methodLink RX6 139 yX6_lacking, Cond.instanceMethod yX6_lacking, Cond.selects RX6 yX6_lacking yX6_lacking, Cond.code yX6_lacking cX6_lacking 4 (some .int), Cond.methodLink RX6 155 yX6_pointsOf, Cond.instanceMethod yX6_pointsOf, Cond.selects RX6 yX6_pointsOf yX6_pointsOf, Cond.code yX6_pointsOf cX6_pointsOf 4 (some .int), Cond.fieldLink RX6 62 "InkHallModel" "points" "[I", Cond.methodLink RX6 136 yX6_allSlips, Cond.instanceMethod yX6_allSlips]
def wsX6_placeOf_r2 : List Cond := [Cond.selects RX6 yX6_allSlips yX6_allSlips, Cond.code yX6_allSlips cX6_allSlips 4 (some .int), Cond.methodLink RX6 130 yX6_slipsOf, Cond.instanceMethod yX6_slipsOf, Cond.selects RX6 yX6_slipsOf yX6_slipsOf, Cond.code yX6_slipsOf cX6_slipsOf 4 (some .int), Cond.fieldLink RX6 16 "InkHallModel" "strokesOf" "[I", Cond.fieldLink RX6 41 "InkHallModel" "letterOf" "[I", Cond.fieldLink RX6 35 "InkHallModel" "drawnOf" "[I", Cond.fieldLink RX6 44 "InkHallModel" "isRuledWrong" "[Z", Cond.methodLink RX6 121 yX6_counting, Cond.instanceMethod yX6_counting, Cond.selects RX6 yX6_counting yX6_counting, Cond.code yX6_counting cX6_counting 4 (some .int), Cond.methodLink RX6 118 yX6_counts, Cond.instanceMethod yX6_counts, Cond.selects RX6 yX6_counts yX6_counts, Cond.code yX6_counts cX6_counts 5 (some .boolean), Cond.methodLink RX6 114 yX6_strokeOn, Cond.instanceMethod yX6_strokeOn, Cond.selects RX6 yX6_strokeOn yX6_strokeOn, Cond.code yX6_strokeOn cX6_strokeOn 6 (some .int), Cond.fieldLink RX6 13 "InkHallModel" "strokes" "[I", Cond.fieldLink RX6 32 "InkHallModel" "drawn" "[I"]
def wsX6_placeOf_r3 : List Cond := [Cond.methodLink RX6 93 yX6_areOneLine, Cond.static yX6_areOneLine, Cond.code yX6_areOneLine cX6_areOneLine 2 (some .boolean), Cond.methodLink RX6 124 yX6_turned, Cond.instanceMethod yX6_turned, Cond.selects RX6 yX6_turned yX6_turned, Cond.code yX6_turned cX6_turned 5 (some .int), Cond.methodLink RX6 127 yX6_inOrder, Cond.instanceMethod yX6_inOrder, Cond.selects RX6 yX6_inOrder yX6_inOrder, Cond.code yX6_inOrder cX6_inOrder 6 (some .int), Cond.fieldLink RX6 65 "InkHallModel" "longest" "[I"]
def wsX6_placeOf : List Cond := .code yX6_placeOf cX6_placeOf 7 (some .int) :: ((wsX6_placeOf_r1 ++ (wsX6_placeOf_r2 ++ wsX6_placeOf_r3)) ++ wsX60)
def wsX6_worth_r1 : List Cond := [Cond.methodLink RX6 133 yX6_isScript, Cond.instanceMethod yX6_isScript, Cond.selects RX6 yX6_isScript yX6_isScript, Cond.initialized RX6, Cond.code yX6_isScript cX6_isScript 2 (some .boolean), Cond.fieldLink RX6 75 "InkHallModel" "scripts" "I", Cond.methodLink RX6 78 yX6_in, Cond.static yX6_in, Cond.code yX6_in cX6_in 3 (some .boolean), Cond.methodLink RX6 82 yX6_asks, Cond.instanceMethod yX6_asks, Cond.selects RX6 yX6_asks yX6_asks, Cond.code yX6_asks cX6_asks 2 (some .boolean), Cond.fieldLink RX6 72 "InkHallModel" "thrown" "I", Cond.methodLink RX6 158 yX6_worthOf, Cond.instanceMethod yX6_worthOf, Cond.selects RX6 yX6_worthOf yX6_worthOf, Cond.code yX6_worthOf cX6_worthOf 3 (some .int), Cond.fieldLink RX6 59 "InkHallModel" "isShown" "[Z", Cond.methodLink RX6 148 yX6_gradeOf, Cond.instanceMethod yX6_gradeOf, Cond.selects RX6 yX6_gradeOf yX6_gradeOf, Cond.code yX6_gradeOf cX6_gradeOf 7 (some .int), Cond.fieldLink RX6 47 "InkHallModel" "marks" "[I"]
def wsX6_worth_r2 : List Cond := [Cond.fieldLink RX6 53 "InkHallModel" "marksOf" "[I", Cond.methodLink RX6 139 yX6_lacking, Cond.instanceMethod yX6_lacking, Cond.selects RX6 yX6_lacking yX6_lacking, Cond.code yX6_lacking cX6_lacking 4 (some .int), Cond.methodLink RX6 155 yX6_pointsOf, Cond.instanceMethod yX6_pointsOf, Cond.selects RX6 yX6_pointsOf yX6_pointsOf, Cond.code yX6_pointsOf cX6_pointsOf 4 (some .int), Cond.fieldLink RX6 62 "InkHallModel" "points" "[I", Cond.methodLink RX6 136 yX6_allSlips, Cond.instanceMethod yX6_allSlips, Cond.selects RX6 yX6_allSlips yX6_allSlips, Cond.code yX6_allSlips cX6_allSlips 4 (some .int), Cond.methodLink RX6 130 yX6_slipsOf, Cond.instanceMethod yX6_slipsOf, Cond.selects RX6 yX6_slipsOf yX6_slipsOf, Cond.code yX6_slipsOf cX6_slipsOf 4 (some .int), Cond.fieldLink RX6 16 "InkHallModel" "strokesOf" "[I", Cond.fieldLink RX6 41 "InkHallModel" "letterOf" "[I", Cond.fieldLink RX6 35 "InkHallModel" "drawnOf" "[I", Cond.fieldLink RX6 44 "InkHallModel" "isRuledWrong" "[Z", Cond.methodLink RX6 121 yX6_counting, Cond.instanceMethod yX6_counting]
def wsX6_worth_r3 : List Cond := [Cond.selects RX6 yX6_counting yX6_counting, Cond.code yX6_counting cX6_counting 4 (some .int), Cond.methodLink RX6 118 yX6_counts, Cond.instanceMethod yX6_counts, Cond.selects RX6 yX6_counts yX6_counts, Cond.code yX6_counts cX6_counts 5 (some .boolean), Cond.methodLink RX6 114 yX6_strokeOn, Cond.instanceMethod yX6_strokeOn, Cond.selects RX6 yX6_strokeOn yX6_strokeOn, Cond.code yX6_strokeOn cX6_strokeOn 6 (some .int), Cond.fieldLink RX6 13 "InkHallModel" "strokes" "[I", Cond.fieldLink RX6 32 "InkHallModel" "drawn" "[I", Cond.methodLink RX6 93 yX6_areOneLine, Cond.static yX6_areOneLine, Cond.code yX6_areOneLine cX6_areOneLine 2 (some .boolean), Cond.methodLink RX6 124 yX6_turned, Cond.instanceMethod yX6_turned, Cond.selects RX6 yX6_turned yX6_turned, Cond.code yX6_turned cX6_turned 5 (some .int), Cond.methodLink RX6 127 yX6_inOrder, Cond.instanceMethod yX6_inOrder, Cond.selects RX6 yX6_inOrder yX6_inOrder, Cond.code yX6_inOrder cX6_inOrder 6 (some .int), Cond.fieldLink RX6 65 "InkHallModel" "longest" "[I"]
def wsX6_worth : List Cond := .code yX6_worth cX6_worth 2 (some .int) :: ((wsX6_worth_r1 ++ (wsX6_worth_r2 ++ wsX6_worth_r3)) ++ wsX60)
def wsX6_place_r1 : List Cond := [Cond.methodLink RX6 133 yX6_isScript, Cond.instanceMethod yX6_isScript, Cond.selects RX6 yX6_isScript yX6_isScript, Cond.initialized RX6, Cond.code yX6_isScript cX6_isScript 2 (some .boolean), Cond.fieldLink RX6 75 "InkHallModel" "scripts" "I", Cond.methodLink RX6 78 yX6_in, Cond.static yX6_in, Cond.code yX6_in cX6_in 3 (some .boolean), Cond.methodLink RX6 82 yX6_asks, Cond.instanceMethod yX6_asks, Cond.selects RX6 yX6_asks yX6_asks, Cond.code yX6_asks cX6_asks 2 (some .boolean), Cond.fieldLink RX6 72 "InkHallModel" "thrown" "I", Cond.methodLink RX6 161 yX6_placeOf, Cond.instanceMethod yX6_placeOf, Cond.selects RX6 yX6_placeOf yX6_placeOf, Cond.code yX6_placeOf cX6_placeOf 7 (some .int), Cond.methodLink RX6 158 yX6_worthOf, Cond.instanceMethod yX6_worthOf, Cond.selects RX6 yX6_worthOf yX6_worthOf, Cond.code yX6_worthOf cX6_worthOf 3 (some .int), Cond.fieldLink RX6 59 "InkHallModel" "isShown" "[Z", Cond.methodLink RX6 148 yX6_gradeOf]
def wsX6_place_r2 : List Cond := [Cond.instanceMethod yX6_gradeOf, Cond.selects RX6 yX6_gradeOf yX6_gradeOf, Cond.code yX6_gradeOf cX6_gradeOf 7 (some .int), Cond.fieldLink RX6 47 "InkHallModel" "marks" "[I", Cond.fieldLink RX6 53 "InkHallModel" "marksOf" "[I", Cond.methodLink RX6 139 yX6_lacking, Cond.instanceMethod yX6_lacking, Cond.selects RX6 yX6_lacking yX6_lacking, Cond.code yX6_lacking cX6_lacking 4 (some .int), Cond.methodLink RX6 155 yX6_pointsOf, Cond.instanceMethod yX6_pointsOf, Cond.selects RX6 yX6_pointsOf yX6_pointsOf, Cond.code yX6_pointsOf cX6_pointsOf 4 (some .int), Cond.fieldLink RX6 62 "InkHallModel" "points" "[I", Cond.methodLink RX6 136 yX6_allSlips, Cond.instanceMethod yX6_allSlips, Cond.selects RX6 yX6_allSlips yX6_allSlips, Cond.code yX6_allSlips cX6_allSlips 4 (some .int), Cond.methodLink RX6 130 yX6_slipsOf, Cond.instanceMethod yX6_slipsOf, Cond.selects RX6 yX6_slipsOf yX6_slipsOf, Cond.code yX6_slipsOf cX6_slipsOf 4 (some .int), Cond.fieldLink RX6 16 "InkHallModel" "strokesOf" "[I", Cond.fieldLink RX6 41 "InkHallModel" "letterOf" "[I"]
def wsX6_place_r3 : List Cond := [Cond.fieldLink RX6 35 "InkHallModel" "drawnOf" "[I", Cond.fieldLink RX6 44 "InkHallModel" "isRuledWrong" "[Z", Cond.methodLink RX6 121 yX6_counting, Cond.instanceMethod yX6_counting, Cond.selects RX6 yX6_counting yX6_counting, Cond.code yX6_counting cX6_counting 4 (some .int), Cond.methodLink RX6 118 yX6_counts, Cond.instanceMethod yX6_counts, Cond.selects RX6 yX6_counts yX6_counts, Cond.code yX6_counts cX6_counts 5 (some .boolean), Cond.methodLink RX6 114 yX6_strokeOn, Cond.instanceMethod yX6_strokeOn, Cond.selects RX6 yX6_strokeOn yX6_strokeOn, Cond.code yX6_strokeOn cX6_strokeOn 6 (some .int), Cond.fieldLink RX6 13 "InkHallModel" "strokes" "[I", Cond.fieldLink RX6 32 "InkHallModel" "drawn" "[I", Cond.methodLink RX6 93 yX6_areOneLine, Cond.static yX6_areOneLine, Cond.code yX6_areOneLine cX6_areOneLine 2 (some .boolean), Cond.methodLink RX6 124 yX6_turned, Cond.instanceMethod yX6_turned, Cond.selects RX6 yX6_turned yX6_turned, Cond.code yX6_turned cX6_turned 5 (some .int), Cond.methodLink RX6 127 yX6_inOrder]
def wsX6_place_r4 : List Cond := [Cond.instanceMethod yX6_inOrder, Cond.selects RX6 yX6_inOrder yX6_inOrder, Cond.code yX6_inOrder cX6_inOrder 6 (some .int), Cond.fieldLink RX6 65 "InkHallModel" "longest" "[I"]
def wsX6_place : List Cond := .code yX6_place cX6_place 2 (some .int) :: ((wsX6_place_r1 ++ (wsX6_place_r2 ++ (wsX6_place_r3 ++ wsX6_place_r4))) ++ wsX60)
def wsX6_at_r1 : List Cond := [Cond.fieldLink RX6 75 "InkHallModel" "scripts" "I", Cond.methodLink RX6 82 yX6_asks, Cond.instanceMethod yX6_asks, Cond.selects RX6 yX6_asks yX6_asks, Cond.initialized RX6, Cond.code yX6_asks cX6_asks 2 (some .boolean), Cond.fieldLink RX6 72 "InkHallModel" "thrown" "I", Cond.methodLink RX6 161 yX6_placeOf, Cond.instanceMethod yX6_placeOf, Cond.selects RX6 yX6_placeOf yX6_placeOf, Cond.code yX6_placeOf cX6_placeOf 7 (some .int), Cond.methodLink RX6 158 yX6_worthOf, Cond.instanceMethod yX6_worthOf, Cond.selects RX6 yX6_worthOf yX6_worthOf, Cond.code yX6_worthOf cX6_worthOf 3 (some .int), Cond.fieldLink RX6 59 "InkHallModel" "isShown" "[Z", Cond.methodLink RX6 148 yX6_gradeOf, Cond.instanceMethod yX6_gradeOf, Cond.selects RX6 yX6_gradeOf yX6_gradeOf, Cond.code yX6_gradeOf cX6_gradeOf 7 (some .int), Cond.fieldLink RX6 47 "InkHallModel" "marks" "[I", Cond.fieldLink RX6 53 "InkHallModel" "marksOf" "[I", Cond.methodLink RX6 139 yX6_lacking, Cond.instanceMethod yX6_lacking]
def wsX6_at_r2 : List Cond := [Cond.selects RX6 yX6_lacking yX6_lacking, Cond.code yX6_lacking cX6_lacking 4 (some .int), Cond.methodLink RX6 155 yX6_pointsOf, Cond.instanceMethod yX6_pointsOf, Cond.selects RX6 yX6_pointsOf yX6_pointsOf, Cond.code yX6_pointsOf cX6_pointsOf 4 (some .int), Cond.fieldLink RX6 62 "InkHallModel" "points" "[I", Cond.methodLink RX6 136 yX6_allSlips, Cond.instanceMethod yX6_allSlips, Cond.selects RX6 yX6_allSlips yX6_allSlips, Cond.code yX6_allSlips cX6_allSlips 4 (some .int), Cond.methodLink RX6 130 yX6_slipsOf, Cond.instanceMethod yX6_slipsOf, Cond.selects RX6 yX6_slipsOf yX6_slipsOf, Cond.code yX6_slipsOf cX6_slipsOf 4 (some .int), Cond.fieldLink RX6 16 "InkHallModel" "strokesOf" "[I", Cond.fieldLink RX6 41 "InkHallModel" "letterOf" "[I", Cond.fieldLink RX6 35 "InkHallModel" "drawnOf" "[I", Cond.fieldLink RX6 44 "InkHallModel" "isRuledWrong" "[Z", Cond.methodLink RX6 121 yX6_counting, Cond.instanceMethod yX6_counting, Cond.selects RX6 yX6_counting yX6_counting, Cond.code yX6_counting cX6_counting 4 (some .int), Cond.methodLink RX6 118 yX6_counts]
def wsX6_at_r3 : List Cond := [Cond.instanceMethod yX6_counts, Cond.selects RX6 yX6_counts yX6_counts, Cond.code yX6_counts cX6_counts 5 (some .boolean), Cond.methodLink RX6 114 yX6_strokeOn, Cond.instanceMethod yX6_strokeOn, Cond.selects RX6 yX6_strokeOn yX6_strokeOn, Cond.code yX6_strokeOn cX6_strokeOn 6 (some .int), Cond.fieldLink RX6 13 "InkHallModel" "strokes" "[I", Cond.fieldLink RX6 32 "InkHallModel" "drawn" "[I", Cond.methodLink RX6 93 yX6_areOneLine, Cond.static yX6_areOneLine, Cond.code yX6_areOneLine cX6_areOneLine 2 (some .boolean), Cond.methodLink RX6 124 yX6_turned, Cond.instanceMethod yX6_turned, Cond.selects RX6 yX6_turned yX6_turned, Cond.code yX6_turned cX6_turned 5 (some .int), Cond.methodLink RX6 127 yX6_inOrder, Cond.instanceMethod yX6_inOrder, Cond.selects RX6 yX6_inOrder yX6_inOrder, Cond.code yX6_inOrder cX6_inOrder 6 (some .int), Cond.fieldLink RX6 65 "InkHallModel" "longest" "[I"]
def wsX6_at : List Cond := .code yX6_at cX6_at 4 (some .int) :: ((wsX6_at_r1 ++ (wsX6_at_r2 ++ wsX6_at_r3)) ++ wsX60)
def wsJ9_abs_0f7a4 : List Cond := .code yJ9_abs_0f7a4 cJ9_abs_0f7a4 1 (some .int) :: ([])
def wsJ9_max_7cf53 : List Cond := .code yJ9_max_7cf53 cJ9_max_7cf53 2 (some .int) :: ([])
def wsJ9_min_7cf53 : List Cond := .code yJ9_min_7cf53 cJ9_min_7cf53 2 (some .int) :: ([])
def wsL_stroke_r1 : List Cond := [Cond.classLink RL 13 "java/lang/IndexOutOfBoundsException", Cond.classLink RL 15 "java/lang/IllegalArgumentException", Cond.classLink RL 17 "java/lang/IllegalStateException", Cond.methodLink RL 7 yX5_stroke, Cond.instanceMethod yX5_stroke, Cond.selects RX5 yX5_stroke yX5_stroke, Cond.initialized RX5, Cond.code yX5_stroke cX5_stroke 3 (some .int), Cond.classLink RX5 44 "java/lang/IllegalArgumentException", Cond.initialized "java/lang/IllegalArgumentException", Cond.classLink RX5 55 "java/lang/IllegalStateException", Cond.initialized "java/lang/IllegalStateException", Cond.fieldLink RX5 10 "InkHall" "pen" "LInkHall$Strokes;", Cond.methodLink RX5 40 yX5_checkDot, Cond.static yX5_checkDot, Cond.code yX5_checkDot cX5_checkDot 1 none, Cond.classLink RX5 92 "java/lang/IndexOutOfBoundsException", Cond.initialized "java/lang/IndexOutOfBoundsException", Cond.methodLink RX5 51 yX4_size, Cond.instanceMethod yX4_size, Cond.selects RX4 yX4_size yX4_size, Cond.initialized RX4, Cond.code yX4_size cX4_size 1 (some .int), Cond.fieldLink RX4 15 "InkHall$Strokes" "count" "I"]
def wsL_stroke_r2 : List Cond := [Cond.methodLink RX5 60 yX4_codeOf, Cond.static yX4_codeOf, Cond.code yX4_codeOf cX4_codeOf 2 (some .int), Cond.methodLink RX5 64 yX4_add, Cond.instanceMethod yX4_add, Cond.selects RX4 yX4_add yX4_add, Cond.code yX4_add cX4_add 2 none, Cond.fieldLink RX4 9 "InkHall$Strokes" "codes" "[I"]
def wsL_stroke : List Cond := .codeWith yL_stroke cL_stroke 5 (some .int) [(0, 10, 13, 13), (0, 10, 17, 15), (0, 10, 21, 17)] :: ((wsL_stroke_r1 ++ wsL_stroke_r2) ++ wsX50 ++ wsX40 ++ (vx_atS RX5 48 "java/lang/IllegalArgumentException" ["java/lang/RuntimeException", "java/lang/Exception"]).filter goodWord ++ (vx_atS RX5 59 "java/lang/IllegalStateException" ["java/lang/RuntimeException", "java/lang/Exception"]).filter goodWord ++ (vx_atS RX5 96 "java/lang/IndexOutOfBoundsException" ["java/lang/RuntimeException", "java/lang/Exception"]).filter goodWord)
def wsL_letter_r1 : List Cond := [Cond.classLink RL 17 "java/lang/IllegalStateException", Cond.methodLink RL 19 yX5_letter, Cond.instanceMethod yX5_letter, Cond.selects RX5 yX5_letter yX5_letter, Cond.initialized RX5, Cond.code yX5_letter cX5_letter 2 (some .int), Cond.classLink RX5 55 "java/lang/IllegalStateException", Cond.initialized "java/lang/IllegalStateException", Cond.fieldLink RX5 10 "InkHall" "pen" "LInkHall$Strokes;", Cond.fieldLink RX5 26 "InkHall" "letters" "Ljava/util/ArrayList;", Cond.classLink RX5 7 RX4, Cond.instantiable RX4 2, Cond.initialized RX4, Cond.methodLink RX5 51 yX4_size, Cond.instanceMethod yX4_size, Cond.selects RX4 yX4_size yX4_size, Cond.code yX4_size cX4_size 1 (some .int), Cond.fieldLink RX4 15 "InkHall$Strokes" "count" "I", Cond.methodLink RX5 72 yX4_hasLineTwice, Cond.instanceMethod yX4_hasLineTwice, Cond.selects RX4 yX4_hasLineTwice yX4_hasLineTwice, Cond.code yX4_hasLineTwice cX4_hasLineTwice 2 (some .boolean), Cond.fieldLink RX4 9 "InkHall$Strokes" "codes" "[I", Cond.methodLink RX4 38 yX4_firstOnLineOf]
def wsL_letter_r2 : List Cond := [Cond.instanceMethod yX4_firstOnLineOf, Cond.selects RX4 yX4_firstOnLineOf yX4_firstOnLineOf, Cond.code yX4_firstOnLineOf cX4_firstOnLineOf 3 (some .int), Cond.methodLink RX4 35 yX4_turnedRound, Cond.static yX4_turnedRound, Cond.code yX4_turnedRound cX4_turnedRound 1 (some .int), Cond.methodLink RX4 19 yX4_codeOf, Cond.static yX4_codeOf, Cond.code yX4_codeOf cX4_codeOf 2 (some .int), Cond.methodLink RX5 78 yJx4a65c_size_8abf5, Cond.instanceMethod yJx4a65c_size_8abf5, Cond.selects RJx4a65c yJx4a65c_size_8abf5 yJx4a65c_size_8abf5, Cond.initialized RJx4a65c, Cond.code yJx4a65c_size_8abf5 cJx4a65c_size_8abf5 1 (some .int), Cond.fieldLink RJx4a65c 48 "java/util/ArrayList" "size" "I", Cond.methodLink RX5 9 yX4_init, Cond.instanceMethod yX4_init, Cond.code yX4_init cX4_init 1 none, Cond.methodLink RX4 3 objectInit, Cond.instanceMethod objectInit, Cond.code objectInit ⟨#[0xb1]⟩ 1 none, Cond.arrayClass .int, Cond.methodLink RX5 81 yX4_addAll, Cond.instanceMethod yX4_addAll]
def wsL_letter_r3 : List Cond := [Cond.selects RX4 yX4_addAll yX4_addAll, Cond.code yX4_addAll cX4_addAll 3 none, Cond.methodLink RX4 23 yX4_size, Cond.methodLink RX4 27 yX4_codeAt, Cond.instanceMethod yX4_codeAt, Cond.selects RX4 yX4_codeAt yX4_codeAt, Cond.code yX4_codeAt cX4_codeAt 2 (some .int), Cond.methodLink RX4 31 yX4_add, Cond.instanceMethod yX4_add, Cond.selects RX4 yX4_add yX4_add, Cond.code yX4_add cX4_add 2 none, Cond.methodLink RX5 85 yJx4a65c_add_9ea2d, Cond.instanceMethod yJx4a65c_add_9ea2d, Cond.selects RJx4a65c yJx4a65c_add_9ea2d yJx4a65c_add_9ea2d, Cond.code yJx4a65c_add_9ea2d cJx4a65c_add_9ea2d 2 (some .boolean), Cond.fieldLink RJx4a65c 63 "java/util/ArrayList" "modCount" "I", Cond.sameField "java/util/ArrayList" "java/util/AbstractList" "modCount" "I", Cond.fieldLink RJx4a65c 9 "java/util/ArrayList" "elementData" "[Ljava/lang/Object;", Cond.methodLink RJx4a65c 131 yJx4a65c_add_72be8, Cond.instanceMethod yJx4a65c_add_72be8, Cond.selects RJx4a65c yJx4a65c_add_72be8 yJx4a65c_add_72be8, Cond.code yJx4a65c_add_72be8 cJx4a65c_add_72be8 4 none, Cond.methodLink RJx4a65c 129 yJx4a65c_grow_d5877, Cond.instanceMethod yJx4a65c_grow_d5877]
def wsL_letter_r4 : List Cond := [Cond.selects RJx4a65c yJx4a65c_grow_d5877 yJx4a65c_grow_d5877, Cond.code yJx4a65c_grow_d5877 cJx4a65c_grow_d5877 1 (some (.array (.object "java/lang/Object"))), Cond.methodLink RJx4a65c 69 yJx4a65c_grow_92f84, Cond.instanceMethod yJx4a65c_grow_92f84, Cond.selects RJx4a65c yJx4a65c_grow_92f84 yJx4a65c_grow_92f84, Cond.code yJx4a65c_grow_92f84 cJx4a65c_grow_92f84 4 (some (.array (.object "java/lang/Object"))), Cond.fieldLink RJx4a65c 39 "java/util/ArrayList" "DEFAULTCAPACITY_EMPTY_ELEMENTDATA" "[Ljava/lang/Object;", Cond.methodLink RJx4a65c 79 Lib.Math.max.name, Cond.static Lib.Math.max.name, Cond.initialized "java/lang/Math", Cond.code Lib.Math.max.name Lib.Math.max.code 2 (some .int), Cond.classLink RJx4a65c 7 "java/lang/Object", Cond.methodLink RJx4a65c 73 yJ8_newLength_cabcc, Cond.static yJ8_newLength_cabcc, Cond.initialized RJ8, Cond.code yJ8_newLength_cabcc cJ8_newLength_cabcc 4 (some .int), Cond.methodLink RJ8 194 Lib.Math.max.name, Cond.constant RJ8 200 (2147483639), Cond.methodLink RJ8 201 yJ8_hugeLength_7cf53, Cond.static yJ8_hugeLength_7cf53, Cond.code yJ8_hugeLength_7cf53 cJ8_hugeLength_7cf53 3 (some .int), Cond.methodLink RJx4a65c 66 yJ7_copyOf_1904c, Cond.static yJ7_copyOf_1904c, Cond.initialized RJ7]
def wsL_letter_r5 : List Cond := [Cond.code yJ7_copyOf_1904c cJ7_copyOf_1904c 2 (some (.array (.object "java/lang/Object"))), Cond.methodLink RJ7 86 ⟨"java/lang/Object", "getClass", "()Ljava/lang/Class;"⟩, Cond.selects "[Ljava/lang/Object;" ⟨"java/lang/Object", "getClass", "()Ljava/lang/Class;"⟩ ⟨"java/lang/Object", "getClass", "()Ljava/lang/Class;"⟩, Cond.instanceMethod ⟨"java/lang/Object", "getClass", "()Ljava/lang/Class;"⟩, Cond.native ⟨"java/lang/Object", "getClass", "()Ljava/lang/Class;"⟩, Cond.methodLink RJ7 300 yJ7_copyOf_6403c, Cond.static yJ7_copyOf_6403c, Cond.code yJ7_copyOf_6403c cJ7_copyOf_6403c 4 (some (.array (.object "java/lang/Object"))), Cond.classLink RJ7 110 "[Ljava/lang/Object;", Cond.classLink RJ7 2 "java/lang/Object", Cond.methodLink RJ7 304 Lib.Math.min.name, Cond.static Lib.Math.min.name, Cond.code Lib.Math.min.name Lib.Math.min.code 2 (some .int), Cond.methodLink RJ7 150 arraycopyName, Cond.native arraycopyName, Cond.static arraycopyName, Cond.initialized "java/lang/System", Cond.methodLink RX5 67 yX4_clear, Cond.instanceMethod yX4_clear, Cond.selects RX4 yX4_clear yX4_clear, Cond.code yX4_clear cX4_clear 1 none]
def wsL_letter : List Cond := .codeWith yL_letter cL_letter 3 (some .int) [(0, 8, 11, 17)] :: ((wsL_letter_r1 ++ (wsL_letter_r2 ++ (wsL_letter_r3 ++ (wsL_letter_r4 ++ wsL_letter_r5)))) ++ wsX50 ++ wsX40 ++ wsJx4a65c0 ++ (vx_atS RX5 59 "java/lang/IllegalStateException" ["java/lang/RuntimeException", "java/lang/Exception"]).filter goodWord)
def wsL_strokeOf_r1 : List Cond := [Cond.classLink RL 13 "java/lang/IndexOutOfBoundsException", Cond.methodLink RL 23 yX5_strokeOf, Cond.instanceMethod yX5_strokeOf, Cond.selects RX5 yX5_strokeOf yX5_strokeOf, Cond.initialized RX5, Cond.code yX5_strokeOf cX5_strokeOf 4 (some .int), Cond.classLink RX5 92 "java/lang/IndexOutOfBoundsException", Cond.initialized "java/lang/IndexOutOfBoundsException", Cond.methodLink RX5 88 yX5_letterNumbered, Cond.instanceMethod yX5_letterNumbered, Cond.selects RX5 yX5_letterNumbered yX5_letterNumbered, Cond.code yX5_letterNumbered cX5_letterNumbered 2 (some (.object "InkHall$Strokes")), Cond.fieldLink RX5 26 "InkHall" "letters" "Ljava/util/ArrayList;", Cond.classLink RX5 7 "InkHall$Strokes", Cond.methodLink RX5 78 yJx4a65c_size_8abf5, Cond.instanceMethod yJx4a65c_size_8abf5, Cond.selects RJx4a65c yJx4a65c_size_8abf5 yJx4a65c_size_8abf5, Cond.initialized RJx4a65c, Cond.code yJx4a65c_size_8abf5 cJx4a65c_size_8abf5 1 (some .int), Cond.fieldLink RJx4a65c 48 "java/util/ArrayList" "size" "I", Cond.methodLink RX5 209 yJx4a65c_get_915e3, Cond.instanceMethod yJx4a65c_get_915e3, Cond.selects RJx4a65c yJx4a65c_get_915e3 yJx4a65c_get_915e3, Cond.code yJx4a65c_get_915e3 cJx4a65c_get_915e3 2 (some (.object "java/lang/Object"))]
def wsL_strokeOf_r2 : List Cond := [Cond.methodLink RJx4a65c 118 yJ15_checkIndex_7cf53, Cond.static yJ15_checkIndex_7cf53, Cond.initialized RJ15, Cond.code yJ15_checkIndex_7cf53 cJ15_checkIndex_7cf53 2 (some .int), Cond.methodLink RJ15 105 yJ3_checkIndex_8e157, Cond.static yJ3_checkIndex_8e157, Cond.initialized RJ3, Cond.code yJ3_checkIndex_8e157 cJ3_checkIndex_8e157 3 (some .int), Cond.methodLink RJx4a65c 123 yJx4a65c_elementData_915e3, Cond.instanceMethod yJx4a65c_elementData_915e3, Cond.selects RJx4a65c yJx4a65c_elementData_915e3 yJx4a65c_elementData_915e3, Cond.code yJx4a65c_elementData_915e3 cJx4a65c_elementData_915e3 2 (some (.object "java/lang/Object")), Cond.fieldLink RJx4a65c 9 "java/util/ArrayList" "elementData" "[Ljava/lang/Object;", Cond.methodLink RX5 97 yX4_codeAt, Cond.instanceMethod yX4_codeAt, Cond.selects RX4 yX4_codeAt yX4_codeAt, Cond.initialized RX4, Cond.code yX4_codeAt cX4_codeAt 2 (some .int), Cond.fieldLink RX4 15 "InkHall$Strokes" "count" "I", Cond.fieldLink RX4 9 "InkHall$Strokes" "codes" "[I"]
def wsL_strokeOf : List Cond := .codeWith yL_strokeOf cL_strokeOf 5 (some .int) [(0, 10, 13, 13)] :: ((wsL_strokeOf_r1 ++ wsL_strokeOf_r2) ++ wsX50 ++ wsJx4a65c0 ++ wsX40 ++ (vx_atS RX5 96 "java/lang/IndexOutOfBoundsException" ["java/lang/RuntimeException", "java/lang/Exception"]).filter goodWord)
def wsL_pupil_r1 : List Cond := [Cond.classLink RL 13 "java/lang/IndexOutOfBoundsException", Cond.classLink RL 15 "java/lang/IllegalArgumentException", Cond.classLink RL 17 "java/lang/IllegalStateException", Cond.methodLink RL 26 yX5_pupil, Cond.instanceMethod yX5_pupil, Cond.selects RX5 yX5_pupil yX5_pupil, Cond.initialized RX5, Cond.code yX5_pupil cX5_pupil 4 (some .int), Cond.classLink RX5 44 "java/lang/IllegalArgumentException", Cond.initialized "java/lang/IllegalArgumentException", Cond.classLink RX5 55 "java/lang/IllegalStateException", Cond.initialized "java/lang/IllegalStateException", Cond.fieldLink RX5 30 "InkHall" "pupils" "Ljava/util/ArrayList;", Cond.classLink RX5 108 RX2, Cond.instantiable RX2 3, Cond.initialized RX2, Cond.methodLink RX5 101 yX5_checkClass, Cond.static yX5_checkClass, Cond.code yX5_checkClass cX5_checkClass 1 none, Cond.classLink RX5 92 "java/lang/IndexOutOfBoundsException", Cond.initialized "java/lang/IndexOutOfBoundsException", Cond.methodLink RX5 78 yJx4a65c_size_8abf5, Cond.instanceMethod yJx4a65c_size_8abf5, Cond.selects RJx4a65c yJx4a65c_size_8abf5 yJx4a65c_size_8abf5]
def wsL_pupil_r2 : List Cond := [Cond.initialized RJx4a65c, Cond.code yJx4a65c_size_8abf5 cJx4a65c_size_8abf5 1 (some .int), Cond.fieldLink RJx4a65c 48 "java/util/ArrayList" "size" "I", Cond.methodLink RX5 110 yX5_bandOf, Cond.static yX5_bandOf, Cond.code yX5_bandOf cX5_bandOf 1 (some .int), Cond.methodLink RX5 113 yX2_init, Cond.instanceMethod yX2_init, Cond.code yX2_init cX2_init 4 none, Cond.methodLink RX2 1 objectInit, Cond.instanceMethod objectInit, Cond.code objectInit ⟨#[0xb1]⟩ 1 none, Cond.fieldLink RX2 7 "InkHall$Pupil" "group" "I", Cond.fieldLink RX2 13 "InkHall$Pupil" "band" "I", Cond.fieldLink RX2 16 "InkHall$Pupil" "isLeft" "Z", Cond.methodLink RX5 85 yJx4a65c_add_9ea2d, Cond.instanceMethod yJx4a65c_add_9ea2d, Cond.selects RJx4a65c yJx4a65c_add_9ea2d yJx4a65c_add_9ea2d, Cond.code yJx4a65c_add_9ea2d cJx4a65c_add_9ea2d 2 (some .boolean), Cond.fieldLink RJx4a65c 63 "java/util/ArrayList" "modCount" "I", Cond.sameField "java/util/ArrayList" "java/util/AbstractList" "modCount" "I", Cond.fieldLink RJx4a65c 9 "java/util/ArrayList" "elementData" "[Ljava/lang/Object;", Cond.methodLink RJx4a65c 131 yJx4a65c_add_72be8, Cond.instanceMethod yJx4a65c_add_72be8]
def wsL_pupil_r3 : List Cond := [Cond.selects RJx4a65c yJx4a65c_add_72be8 yJx4a65c_add_72be8, Cond.code yJx4a65c_add_72be8 cJx4a65c_add_72be8 4 none, Cond.methodLink RJx4a65c 129 yJx4a65c_grow_d5877, Cond.instanceMethod yJx4a65c_grow_d5877, Cond.selects RJx4a65c yJx4a65c_grow_d5877 yJx4a65c_grow_d5877, Cond.code yJx4a65c_grow_d5877 cJx4a65c_grow_d5877 1 (some (.array (.object "java/lang/Object"))), Cond.methodLink RJx4a65c 69 yJx4a65c_grow_92f84, Cond.instanceMethod yJx4a65c_grow_92f84, Cond.selects RJx4a65c yJx4a65c_grow_92f84 yJx4a65c_grow_92f84, Cond.code yJx4a65c_grow_92f84 cJx4a65c_grow_92f84 4 (some (.array (.object "java/lang/Object"))), Cond.fieldLink RJx4a65c 39 "java/util/ArrayList" "DEFAULTCAPACITY_EMPTY_ELEMENTDATA" "[Ljava/lang/Object;", Cond.methodLink RJx4a65c 79 Lib.Math.max.name, Cond.static Lib.Math.max.name, Cond.initialized "java/lang/Math", Cond.code Lib.Math.max.name Lib.Math.max.code 2 (some .int), Cond.classLink RJx4a65c 7 "java/lang/Object", Cond.methodLink RJx4a65c 73 yJ8_newLength_cabcc, Cond.static yJ8_newLength_cabcc, Cond.initialized RJ8, Cond.code yJ8_newLength_cabcc cJ8_newLength_cabcc 4 (some .int), Cond.methodLink RJ8 194 Lib.Math.max.name, Cond.constant RJ8 200 (2147483639), Cond.methodLink RJ8 201 yJ8_hugeLength_7cf53, Cond.static yJ8_hugeLength_7cf53]
def wsL_pupil_r4 : List Cond := [Cond.code yJ8_hugeLength_7cf53 cJ8_hugeLength_7cf53 3 (some .int), Cond.methodLink RJx4a65c 66 yJ7_copyOf_1904c, Cond.static yJ7_copyOf_1904c, Cond.initialized RJ7, Cond.code yJ7_copyOf_1904c cJ7_copyOf_1904c 2 (some (.array (.object "java/lang/Object"))), Cond.methodLink RJ7 86 ⟨"java/lang/Object", "getClass", "()Ljava/lang/Class;"⟩, Cond.selects "[Ljava/lang/Object;" ⟨"java/lang/Object", "getClass", "()Ljava/lang/Class;"⟩ ⟨"java/lang/Object", "getClass", "()Ljava/lang/Class;"⟩, Cond.instanceMethod ⟨"java/lang/Object", "getClass", "()Ljava/lang/Class;"⟩, Cond.native ⟨"java/lang/Object", "getClass", "()Ljava/lang/Class;"⟩, Cond.methodLink RJ7 300 yJ7_copyOf_6403c, Cond.static yJ7_copyOf_6403c, Cond.code yJ7_copyOf_6403c cJ7_copyOf_6403c 4 (some (.array (.object "java/lang/Object"))), Cond.classLink RJ7 110 "[Ljava/lang/Object;", Cond.classLink RJ7 2 "java/lang/Object", Cond.methodLink RJ7 304 Lib.Math.min.name, Cond.static Lib.Math.min.name, Cond.code Lib.Math.min.name Lib.Math.min.code 2 (some .int), Cond.methodLink RJ7 150 arraycopyName, Cond.native arraycopyName, Cond.static arraycopyName, Cond.initialized "java/lang/System"]
def wsL_pupil : List Cond := .codeWith yL_pupil cL_pupil 6 (some .int) [(0, 12, 15, 13), (0, 12, 19, 15), (0, 12, 23, 17)] :: ((wsL_pupil_r1 ++ (wsL_pupil_r2 ++ (wsL_pupil_r3 ++ wsL_pupil_r4))) ++ wsX50 ++ wsX20 ++ wsJx4a65c0 ++ (vx_atS RX5 48 "java/lang/IllegalArgumentException" ["java/lang/RuntimeException", "java/lang/Exception"]).filter goodWord ++ (vx_atS RX5 59 "java/lang/IllegalStateException" ["java/lang/RuntimeException", "java/lang/Exception"]).filter goodWord ++ (vx_atS RX5 96 "java/lang/IndexOutOfBoundsException" ["java/lang/RuntimeException", "java/lang/Exception"]).filter goodWord)
def wsL_print_r1 : List Cond := [Cond.classLink RL 13 "java/lang/IndexOutOfBoundsException", Cond.classLink RL 15 "java/lang/IllegalArgumentException", Cond.methodLink RL 30 yX5_print, Cond.instanceMethod yX5_print, Cond.selects RX5 yX5_print yX5_print, Cond.initialized RX5, Cond.code yX5_print cX5_print 4 (some .int), Cond.classLink RX5 44 "java/lang/IllegalArgumentException", Cond.initialized "java/lang/IllegalArgumentException", Cond.fieldLink RX5 19 "InkHall" "press" "LInkHall$Press;", Cond.methodLink RX5 116 yX5_checkBand, Cond.static yX5_checkBand, Cond.code yX5_checkBand cX5_checkBand 1 none, Cond.classLink RX5 92 "java/lang/IndexOutOfBoundsException", Cond.initialized "java/lang/IndexOutOfBoundsException", Cond.methodLink RX5 121 yX1_add, Cond.instanceMethod yX1_add, Cond.selects RX1 yX1_add yX1_add, Cond.initialized RX1, Cond.code yX1_add cX1_add 4 none, Cond.fieldLink RX1 9 "InkHall$Press" "forLeft" "[I", Cond.fieldLink RX1 15 "InkHall$Press" "forRight" "[I", Cond.methodLink RX5 124 yX1_countOf, Cond.instanceMethod yX1_countOf]
def wsL_print_r2 : List Cond := [Cond.selects RX1 yX1_countOf yX1_countOf, Cond.code yX1_countOf cX1_countOf 3 (some .int)]
def wsL_print : List Cond := .codeWith yL_print cL_print 6 (some .int) [(0, 12, 15, 13), (0, 12, 19, 15)] :: ((wsL_print_r1 ++ wsL_print_r2) ++ wsX50 ++ wsX10 ++ (vx_atS RX5 48 "java/lang/IllegalArgumentException" ["java/lang/RuntimeException", "java/lang/Exception"]).filter goodWord ++ (vx_atS RX5 96 "java/lang/IndexOutOfBoundsException" ["java/lang/RuntimeException", "java/lang/Exception"]).filter goodWord)
def wsL_sheets : List Cond := .codeWith yL_sheets cL_sheets 5 (some .int) [(0, 10, 13, 13)] :: ([.classLink RL 13 "java/lang/IndexOutOfBoundsException", .methodLink RL 34 yX5_sheets, .instanceMethod yX5_sheets, .selects RX5 yX5_sheets yX5_sheets, .initialized RX5, .code yX5_sheets cX5_sheets 3 (some .int), .fieldLink RX5 19 "InkHall" "press" "LInkHall$Press;", .methodLink RX5 116 yX5_checkBand, .static yX5_checkBand, .code yX5_checkBand cX5_checkBand 1 none, .classLink RX5 92 "java/lang/IndexOutOfBoundsException", .initialized "java/lang/IndexOutOfBoundsException", .methodLink RX5 124 yX1_countOf, .instanceMethod yX1_countOf, .selects RX1 yX1_countOf yX1_countOf, .initialized RX1, .code yX1_countOf cX1_countOf 3 (some .int), .fieldLink RX1 9 "InkHall$Press" "forLeft" "[I", .fieldLink RX1 15 "InkHall$Press" "forRight" "[I"] ++ wsX50 ++ wsX10 ++ (vx_atS RX5 96 "java/lang/IndexOutOfBoundsException" ["java/lang/RuntimeException", "java/lang/Exception"]).filter goodWord)
def wsL_write_r1 : List Cond := [Cond.classLink RL 13 "java/lang/IndexOutOfBoundsException", Cond.classLink RL 17 "java/lang/IllegalStateException", Cond.methodLink RL 38 yX5_write, Cond.instanceMethod yX5_write, Cond.selects RX5 yX5_write yX5_write, Cond.initialized RX5, Cond.code yX5_write cX5_write 7 (some .int), Cond.classLink RX5 55 "java/lang/IllegalStateException", Cond.initialized "java/lang/IllegalStateException", Cond.fieldLink RX5 33 "InkHall" "scripts" "Ljava/util/ArrayList;", Cond.fieldLink RX5 19 "InkHall" "press" "LInkHall$Press;", Cond.fieldLink RX5 134 "InkHall$Pupil" "band" "I", Cond.fieldLink RX5 138 "InkHall$Pupil" "isLeft" "Z", Cond.classLink RX5 147 RX3, Cond.instantiable RX3 7, Cond.initialized RX3, Cond.fieldLink RX5 149 "InkHall$Pupil" "group" "I", Cond.fieldLink RX5 10 "InkHall" "pen" "LInkHall$Strokes;", Cond.methodLink RX5 128 yX5_pupilNumbered, Cond.instanceMethod yX5_pupilNumbered, Cond.selects RX5 yX5_pupilNumbered yX5_pupilNumbered, Cond.code yX5_pupilNumbered cX5_pupilNumbered 2 (some (.object "InkHall$Pupil")), Cond.classLink RX5 92 "java/lang/IndexOutOfBoundsException", Cond.initialized "java/lang/IndexOutOfBoundsException"]
def wsL_write_r2 : List Cond := [Cond.fieldLink RX5 30 "InkHall" "pupils" "Ljava/util/ArrayList;", Cond.classLink RX5 108 "InkHall$Pupil", Cond.methodLink RX5 78 yJx4a65c_size_8abf5, Cond.instanceMethod yJx4a65c_size_8abf5, Cond.selects RJx4a65c yJx4a65c_size_8abf5 yJx4a65c_size_8abf5, Cond.initialized RJx4a65c, Cond.code yJx4a65c_size_8abf5 cJx4a65c_size_8abf5 1 (some .int), Cond.fieldLink RJx4a65c 48 "java/util/ArrayList" "size" "I", Cond.methodLink RX5 209 yJx4a65c_get_915e3, Cond.instanceMethod yJx4a65c_get_915e3, Cond.selects RJx4a65c yJx4a65c_get_915e3 yJx4a65c_get_915e3, Cond.code yJx4a65c_get_915e3 cJx4a65c_get_915e3 2 (some (.object "java/lang/Object")), Cond.methodLink RJx4a65c 118 yJ15_checkIndex_7cf53, Cond.static yJ15_checkIndex_7cf53, Cond.initialized RJ15, Cond.code yJ15_checkIndex_7cf53 cJ15_checkIndex_7cf53 2 (some .int), Cond.methodLink RJ15 105 yJ3_checkIndex_8e157, Cond.static yJ3_checkIndex_8e157, Cond.initialized RJ3, Cond.code yJ3_checkIndex_8e157 cJ3_checkIndex_8e157 3 (some .int), Cond.methodLink RJx4a65c 123 yJx4a65c_elementData_915e3, Cond.instanceMethod yJx4a65c_elementData_915e3, Cond.selects RJx4a65c yJx4a65c_elementData_915e3 yJx4a65c_elementData_915e3, Cond.code yJx4a65c_elementData_915e3 cJx4a65c_elementData_915e3 2 (some (.object "java/lang/Object"))]
def wsL_write_r3 : List Cond := [Cond.fieldLink RJx4a65c 9 "java/util/ArrayList" "elementData" "[Ljava/lang/Object;", Cond.methodLink RX5 88 yX5_letterNumbered, Cond.instanceMethod yX5_letterNumbered, Cond.selects RX5 yX5_letterNumbered yX5_letterNumbered, Cond.code yX5_letterNumbered cX5_letterNumbered 2 (some (.object "InkHall$Strokes")), Cond.fieldLink RX5 26 "InkHall" "letters" "Ljava/util/ArrayList;", Cond.classLink RX5 7 "InkHall$Strokes", Cond.methodLink RX5 142 yX1_bandFor, Cond.instanceMethod yX1_bandFor, Cond.selects RX1 yX1_bandFor yX1_bandFor, Cond.initialized RX1, Cond.code yX1_bandFor cX1_bandFor 4 (some .int), Cond.methodLink RX1 18 yX1_countOf, Cond.instanceMethod yX1_countOf, Cond.selects RX1 yX1_countOf yX1_countOf, Cond.code yX1_countOf cX1_countOf 3 (some .int), Cond.fieldLink RX1 9 "InkHall$Press" "forLeft" "[I", Cond.fieldLink RX1 15 "InkHall$Press" "forRight" "[I", Cond.methodLink RX5 121 yX1_add, Cond.instanceMethod yX1_add, Cond.selects RX1 yX1_add yX1_add, Cond.code yX1_add cX1_add 4 none, Cond.methodLink RX5 152 yX3_init, Cond.instanceMethod yX3_init]
def wsL_write_r4 : List Cond := [Cond.code yX3_init cX3_init 2 none, Cond.methodLink RX3 3 objectInit, Cond.instanceMethod objectInit, Cond.code objectInit ⟨#[0xb1]⟩ 1 none, Cond.fieldLink RX3 9 "InkHall$Script" "group" "I", Cond.classLink RX3 15 RX0, Cond.instantiable RX0 3, Cond.initialized RX0, Cond.fieldLink RX3 18 "InkHall$Script" "marks" "LInkHall$Marks;", Cond.fieldLink RX3 22 "InkHall$Script" "isShown" "Z", Cond.arrayClass .int, Cond.fieldLink RX3 26 "InkHall$Script" "slipCounts" "[I", Cond.fieldLink RX3 30 "InkHall$Script" "points" "[I", Cond.fieldLink RX3 33 "InkHall$Script" "ranks" "[I", Cond.fieldLink RX3 36 "InkHall$Script" "rankCount" "I", Cond.methodLink RX3 17 yX0_init, Cond.instanceMethod yX0_init, Cond.code yX0_init cX0_init 1 none, Cond.methodLink RX0 3 objectInit, Cond.fieldLink RX0 9 "InkHall$Marks" "examiners" "[I", Cond.fieldLink RX0 15 "InkHall$Marks" "values" "[I", Cond.fieldLink RX0 18 "InkHall$Marks" "count" "I", Cond.methodLink RX5 154 yX3_compare, Cond.instanceMethod yX3_compare]
def wsL_write_r5 : List Cond := [Cond.selects RX3 yX3_compare yX3_compare, Cond.code yX3_compare cX3_compare 6 none, Cond.methodLink RX3 39 yX4_size, Cond.instanceMethod yX4_size, Cond.selects RX4 yX4_size yX4_size, Cond.initialized RX4, Cond.code yX4_size cX4_size 1 (some .int), Cond.fieldLink RX4 15 "InkHall$Strokes" "count" "I", Cond.methodLink RX3 45 yX4_codeAt, Cond.instanceMethod yX4_codeAt, Cond.selects RX4 yX4_codeAt yX4_codeAt, Cond.code yX4_codeAt cX4_codeAt 2 (some .int), Cond.fieldLink RX4 9 "InkHall$Strokes" "codes" "[I", Cond.methodLink RX3 49 yX4_firstOnLineOf, Cond.instanceMethod yX4_firstOnLineOf, Cond.selects RX4 yX4_firstOnLineOf yX4_firstOnLineOf, Cond.code yX4_firstOnLineOf cX4_firstOnLineOf 3 (some .int), Cond.methodLink RX4 35 yX4_turnedRound, Cond.static yX4_turnedRound, Cond.code yX4_turnedRound cX4_turnedRound 1 (some .int), Cond.methodLink RX4 19 yX4_codeOf, Cond.static yX4_codeOf, Cond.code yX4_codeOf cX4_codeOf 2 (some .int), Cond.methodLink RX3 52 yX3_addRank]
def wsL_write_r6 : List Cond := [Cond.instanceMethod yX3_addRank, Cond.selects RX3 yX3_addRank yX3_addRank, Cond.code yX3_addRank cX3_addRank 2 none, Cond.methodLink RX3 56 yX3_longestRise, Cond.instanceMethod yX3_longestRise, Cond.selects RX3 yX3_longestRise yX3_longestRise, Cond.code yX3_longestRise cX3_longestRise 5 (some .int), Cond.methodLink RX3 59 Lib.Math.max.name, Cond.static Lib.Math.max.name, Cond.initialized "java/lang/Math", Cond.code Lib.Math.max.name Lib.Math.max.code 2 (some .int), Cond.methodLink RX5 158 yX3_addWrongRuling, Cond.instanceMethod yX3_addWrongRuling, Cond.selects RX3 yX3_addWrongRuling yX3_addWrongRuling, Cond.code yX3_addWrongRuling cX3_addWrongRuling 1 none, Cond.methodLink RX5 85 yJx4a65c_add_9ea2d, Cond.instanceMethod yJx4a65c_add_9ea2d, Cond.selects RJx4a65c yJx4a65c_add_9ea2d yJx4a65c_add_9ea2d, Cond.code yJx4a65c_add_9ea2d cJx4a65c_add_9ea2d 2 (some .boolean), Cond.fieldLink RJx4a65c 63 "java/util/ArrayList" "modCount" "I", Cond.sameField "java/util/ArrayList" "java/util/AbstractList" "modCount" "I", Cond.methodLink RJx4a65c 131 yJx4a65c_add_72be8, Cond.instanceMethod yJx4a65c_add_72be8, Cond.selects RJx4a65c yJx4a65c_add_72be8 yJx4a65c_add_72be8]
def wsL_write_r7 : List Cond := [Cond.code yJx4a65c_add_72be8 cJx4a65c_add_72be8 4 none, Cond.methodLink RJx4a65c 129 yJx4a65c_grow_d5877, Cond.instanceMethod yJx4a65c_grow_d5877, Cond.selects RJx4a65c yJx4a65c_grow_d5877 yJx4a65c_grow_d5877, Cond.code yJx4a65c_grow_d5877 cJx4a65c_grow_d5877 1 (some (.array (.object "java/lang/Object"))), Cond.methodLink RJx4a65c 69 yJx4a65c_grow_92f84, Cond.instanceMethod yJx4a65c_grow_92f84, Cond.selects RJx4a65c yJx4a65c_grow_92f84 yJx4a65c_grow_92f84, Cond.code yJx4a65c_grow_92f84 cJx4a65c_grow_92f84 4 (some (.array (.object "java/lang/Object"))), Cond.fieldLink RJx4a65c 39 "java/util/ArrayList" "DEFAULTCAPACITY_EMPTY_ELEMENTDATA" "[Ljava/lang/Object;", Cond.methodLink RJx4a65c 79 Lib.Math.max.name, Cond.classLink RJx4a65c 7 "java/lang/Object", Cond.methodLink RJx4a65c 73 yJ8_newLength_cabcc, Cond.static yJ8_newLength_cabcc, Cond.initialized RJ8, Cond.code yJ8_newLength_cabcc cJ8_newLength_cabcc 4 (some .int), Cond.methodLink RJ8 194 Lib.Math.max.name, Cond.constant RJ8 200 (2147483639), Cond.methodLink RJ8 201 yJ8_hugeLength_7cf53, Cond.static yJ8_hugeLength_7cf53, Cond.code yJ8_hugeLength_7cf53 cJ8_hugeLength_7cf53 3 (some .int), Cond.methodLink RJx4a65c 66 yJ7_copyOf_1904c, Cond.static yJ7_copyOf_1904c, Cond.initialized RJ7]
def wsL_write_r8 : List Cond := [Cond.code yJ7_copyOf_1904c cJ7_copyOf_1904c 2 (some (.array (.object "java/lang/Object"))), Cond.methodLink RJ7 86 ⟨"java/lang/Object", "getClass", "()Ljava/lang/Class;"⟩, Cond.selects "[Ljava/lang/Object;" ⟨"java/lang/Object", "getClass", "()Ljava/lang/Class;"⟩ ⟨"java/lang/Object", "getClass", "()Ljava/lang/Class;"⟩, Cond.instanceMethod ⟨"java/lang/Object", "getClass", "()Ljava/lang/Class;"⟩, Cond.native ⟨"java/lang/Object", "getClass", "()Ljava/lang/Class;"⟩, Cond.methodLink RJ7 300 yJ7_copyOf_6403c, Cond.static yJ7_copyOf_6403c, Cond.code yJ7_copyOf_6403c cJ7_copyOf_6403c 4 (some (.array (.object "java/lang/Object"))), Cond.classLink RJ7 110 "[Ljava/lang/Object;", Cond.classLink RJ7 2 "java/lang/Object", Cond.methodLink RJ7 304 Lib.Math.min.name, Cond.static Lib.Math.min.name, Cond.code Lib.Math.min.name Lib.Math.min.code 2 (some .int), Cond.methodLink RJ7 150 arraycopyName, Cond.native arraycopyName, Cond.static arraycopyName, Cond.initialized "java/lang/System", Cond.methodLink RX5 67 yX4_clear, Cond.instanceMethod yX4_clear, Cond.selects RX4 yX4_clear yX4_clear, Cond.code yX4_clear cX4_clear 1 none]
def wsL_write : List Cond := .codeWith yL_write cL_write 5 (some .int) [(0, 10, 13, 13), (0, 10, 17, 17)] :: ((wsL_write_r1 ++ (wsL_write_r2 ++ (wsL_write_r3 ++ (wsL_write_r4 ++ (wsL_write_r5 ++ (wsL_write_r6 ++ (wsL_write_r7 ++ wsL_write_r8))))))) ++ wsX50 ++ wsX20 ++ wsX30 ++ wsJx4a65c0 ++ wsX10 ++ wsX00 ++ wsX40 ++ (vx_atS RX5 59 "java/lang/IllegalStateException" ["java/lang/RuntimeException", "java/lang/Exception"]).filter goodWord ++ (vx_atS RX5 96 "java/lang/IndexOutOfBoundsException" ["java/lang/RuntimeException", "java/lang/Exception"]).filter goodWord)
def wsL_slips_r1 : List Cond := [Cond.classLink RL 13 "java/lang/IndexOutOfBoundsException", Cond.classLink RL 15 "java/lang/IllegalArgumentException", Cond.methodLink RL 41 yX5_slips, Cond.instanceMethod yX5_slips, Cond.selects RX5 yX5_slips yX5_slips, Cond.initialized RX5, Cond.code yX5_slips cX5_slips 4 (some .int), Cond.classLink RX5 44 "java/lang/IllegalArgumentException", Cond.initialized "java/lang/IllegalArgumentException", Cond.methodLink RX5 161 yX5_scriptNumbered, Cond.instanceMethod yX5_scriptNumbered, Cond.selects RX5 yX5_scriptNumbered yX5_scriptNumbered, Cond.code yX5_scriptNumbered cX5_scriptNumbered 2 (some (.object "InkHall$Script")), Cond.classLink RX5 92 "java/lang/IndexOutOfBoundsException", Cond.initialized "java/lang/IndexOutOfBoundsException", Cond.fieldLink RX5 33 "InkHall" "scripts" "Ljava/util/ArrayList;", Cond.classLink RX5 147 "InkHall$Script", Cond.methodLink RX5 78 yJx4a65c_size_8abf5, Cond.instanceMethod yJx4a65c_size_8abf5, Cond.selects RJx4a65c yJx4a65c_size_8abf5 yJx4a65c_size_8abf5, Cond.initialized RJx4a65c, Cond.code yJx4a65c_size_8abf5 cJx4a65c_size_8abf5 1 (some .int), Cond.fieldLink RJx4a65c 48 "java/util/ArrayList" "size" "I", Cond.methodLink RX5 209 yJx4a65c_get_915e3]
def wsL_slips_r2 : List Cond := [Cond.instanceMethod yJx4a65c_get_915e3, Cond.selects RJx4a65c yJx4a65c_get_915e3 yJx4a65c_get_915e3, Cond.code yJx4a65c_get_915e3 cJx4a65c_get_915e3 2 (some (.object "java/lang/Object")), Cond.methodLink RJx4a65c 118 yJ15_checkIndex_7cf53, Cond.static yJ15_checkIndex_7cf53, Cond.initialized RJ15, Cond.code yJ15_checkIndex_7cf53 cJ15_checkIndex_7cf53 2 (some .int), Cond.methodLink RJ15 105 yJ3_checkIndex_8e157, Cond.static yJ3_checkIndex_8e157, Cond.initialized RJ3, Cond.code yJ3_checkIndex_8e157 cJ3_checkIndex_8e157 3 (some .int), Cond.methodLink RJx4a65c 123 yJx4a65c_elementData_915e3, Cond.instanceMethod yJx4a65c_elementData_915e3, Cond.selects RJx4a65c yJx4a65c_elementData_915e3 yJx4a65c_elementData_915e3, Cond.code yJx4a65c_elementData_915e3 cJx4a65c_elementData_915e3 2 (some (.object "java/lang/Object")), Cond.fieldLink RJx4a65c 9 "java/util/ArrayList" "elementData" "[Ljava/lang/Object;", Cond.methodLink RX5 167 yX3_allSlips, Cond.instanceMethod yX3_allSlips, Cond.selects RX3 yX3_allSlips yX3_allSlips, Cond.initialized RX3, Cond.code yX3_allSlips cX3_allSlips 6 (some .int), Cond.fieldLink RX3 26 "InkHall$Script" "slipCounts" "[I", Cond.methodLink RX5 170 yX3_slipsOf, Cond.instanceMethod yX3_slipsOf]
def wsL_slips_r3 : List Cond := [Cond.selects RX3 yX3_slipsOf yX3_slipsOf, Cond.code yX3_slipsOf cX3_slipsOf 2 (some .int)]
def wsL_slips : List Cond := .codeWith yL_slips cL_slips 5 (some .int) [(0, 10, 13, 13), (0, 10, 17, 15)] :: ((wsL_slips_r1 ++ (wsL_slips_r2 ++ wsL_slips_r3)) ++ wsX50 ++ wsJx4a65c0 ++ wsX30 ++ (vx_atS RX5 48 "java/lang/IllegalArgumentException" ["java/lang/RuntimeException", "java/lang/Exception"]).filter goodWord ++ (vx_atS RX5 96 "java/lang/IndexOutOfBoundsException" ["java/lang/RuntimeException", "java/lang/Exception"]).filter goodWord)
def wsL_orderAnew_r1 : List Cond := [Cond.classLink RL 13 "java/lang/IndexOutOfBoundsException", Cond.methodLink RL 44 yX5_orderAnew, Cond.instanceMethod yX5_orderAnew, Cond.selects RX5 yX5_orderAnew yX5_orderAnew, Cond.initialized RX5, Cond.code yX5_orderAnew cX5_orderAnew 2 (some .int), Cond.methodLink RX5 161 yX5_scriptNumbered, Cond.instanceMethod yX5_scriptNumbered, Cond.selects RX5 yX5_scriptNumbered yX5_scriptNumbered, Cond.code yX5_scriptNumbered cX5_scriptNumbered 2 (some (.object "InkHall$Script")), Cond.classLink RX5 92 "java/lang/IndexOutOfBoundsException", Cond.initialized "java/lang/IndexOutOfBoundsException", Cond.fieldLink RX5 33 "InkHall" "scripts" "Ljava/util/ArrayList;", Cond.classLink RX5 147 "InkHall$Script", Cond.methodLink RX5 78 yJx4a65c_size_8abf5, Cond.instanceMethod yJx4a65c_size_8abf5, Cond.selects RJx4a65c yJx4a65c_size_8abf5 yJx4a65c_size_8abf5, Cond.initialized RJx4a65c, Cond.code yJx4a65c_size_8abf5 cJx4a65c_size_8abf5 1 (some .int), Cond.fieldLink RJx4a65c 48 "java/util/ArrayList" "size" "I", Cond.methodLink RX5 209 yJx4a65c_get_915e3, Cond.instanceMethod yJx4a65c_get_915e3, Cond.selects RJx4a65c yJx4a65c_get_915e3 yJx4a65c_get_915e3, Cond.code yJx4a65c_get_915e3 cJx4a65c_get_915e3 2 (some (.object "java/lang/Object"))]
def wsL_orderAnew_r2 : List Cond := [Cond.methodLink RJx4a65c 118 yJ15_checkIndex_7cf53, Cond.static yJ15_checkIndex_7cf53, Cond.initialized RJ15, Cond.code yJ15_checkIndex_7cf53 cJ15_checkIndex_7cf53 2 (some .int), Cond.methodLink RJ15 105 yJ3_checkIndex_8e157, Cond.static yJ3_checkIndex_8e157, Cond.initialized RJ3, Cond.code yJ3_checkIndex_8e157 cJ3_checkIndex_8e157 3 (some .int), Cond.methodLink RJx4a65c 123 yJx4a65c_elementData_915e3, Cond.instanceMethod yJx4a65c_elementData_915e3, Cond.selects RJx4a65c yJx4a65c_elementData_915e3 yJx4a65c_elementData_915e3, Cond.code yJx4a65c_elementData_915e3 cJx4a65c_elementData_915e3 2 (some (.object "java/lang/Object")), Cond.fieldLink RJx4a65c 9 "java/util/ArrayList" "elementData" "[Ljava/lang/Object;", Cond.methodLink RX5 173 yX3_fewestLeftOut, Cond.instanceMethod yX3_fewestLeftOut, Cond.selects RX3 yX3_fewestLeftOut yX3_fewestLeftOut, Cond.initialized RX3, Cond.code yX3_fewestLeftOut cX3_fewestLeftOut 4 (some .int), Cond.fieldLink RX3 36 "InkHall$Script" "rankCount" "I", Cond.methodLink RX3 74 Lib.Math.min.name, Cond.static Lib.Math.min.name, Cond.initialized "java/lang/Math", Cond.code Lib.Math.min.name Lib.Math.min.code 2 (some .int), Cond.methodLink RX3 65 yX3_isInOrderWithout]
def wsL_orderAnew_r3 : List Cond := [Cond.instanceMethod yX3_isInOrderWithout, Cond.selects RX3 yX3_isInOrderWithout yX3_isInOrderWithout, Cond.code yX3_isInOrderWithout cX3_isInOrderWithout 5 (some .boolean), Cond.fieldLink RX3 33 "InkHall$Script" "ranks" "[I", Cond.methodLink RX3 69 yJ6_bitCount_0f7a4, Cond.static yJ6_bitCount_0f7a4, Cond.initialized RJ6, Cond.code yJ6_bitCount_0f7a4 cJ6_bitCount_0f7a4 1 (some .int), Cond.constant RJ6 265 (1431655765), Cond.constant RJ6 266 (858993459), Cond.constant RJ6 267 (252645135)]
def wsL_orderAnew : List Cond := .codeWith yL_orderAnew cL_orderAnew 4 (some .int) [(0, 9, 12, 13)] :: ((wsL_orderAnew_r1 ++ (wsL_orderAnew_r2 ++ wsL_orderAnew_r3)) ++ wsX50 ++ wsJx4a65c0 ++ wsX30 ++ (vx_atS RX5 96 "java/lang/IndexOutOfBoundsException" ["java/lang/RuntimeException", "java/lang/Exception"]).filter goodWord)
def wsL_mark_r1 : List Cond := [Cond.classLink RL 13 "java/lang/IndexOutOfBoundsException", Cond.classLink RL 15 "java/lang/IllegalArgumentException", Cond.classLink RL 17 "java/lang/IllegalStateException", Cond.methodLink RL 48 yX5_mark, Cond.instanceMethod yX5_mark, Cond.selects RX5 yX5_mark yX5_mark, Cond.initialized RX5, Cond.code yX5_mark cX5_mark 5 (some .int), Cond.classLink RX5 44 "java/lang/IllegalArgumentException", Cond.initialized "java/lang/IllegalArgumentException", Cond.classLink RX5 55 "java/lang/IllegalStateException", Cond.initialized "java/lang/IllegalStateException", Cond.fieldLink RX5 179 "InkHall$Script" "marks" "LInkHall$Marks;", Cond.fieldLink RX5 36 "InkHall" "isOut" "[Z", Cond.methodLink RX5 176 yX5_checkExaminer, Cond.static yX5_checkExaminer, Cond.code yX5_checkExaminer cX5_checkExaminer 1 none, Cond.classLink RX5 92 "java/lang/IndexOutOfBoundsException", Cond.initialized "java/lang/IndexOutOfBoundsException", Cond.methodLink RX5 161 yX5_scriptNumbered, Cond.instanceMethod yX5_scriptNumbered, Cond.selects RX5 yX5_scriptNumbered yX5_scriptNumbered, Cond.code yX5_scriptNumbered cX5_scriptNumbered 2 (some (.object "InkHall$Script")), Cond.fieldLink RX5 33 "InkHall" "scripts" "Ljava/util/ArrayList;"]
def wsL_mark_r2 : List Cond := [Cond.classLink RX5 147 "InkHall$Script", Cond.methodLink RX5 78 yJx4a65c_size_8abf5, Cond.instanceMethod yJx4a65c_size_8abf5, Cond.selects RJx4a65c yJx4a65c_size_8abf5 yJx4a65c_size_8abf5, Cond.initialized RJx4a65c, Cond.code yJx4a65c_size_8abf5 cJx4a65c_size_8abf5 1 (some .int), Cond.fieldLink RJx4a65c 48 "java/util/ArrayList" "size" "I", Cond.methodLink RX5 209 yJx4a65c_get_915e3, Cond.instanceMethod yJx4a65c_get_915e3, Cond.selects RJx4a65c yJx4a65c_get_915e3 yJx4a65c_get_915e3, Cond.code yJx4a65c_get_915e3 cJx4a65c_get_915e3 2 (some (.object "java/lang/Object")), Cond.methodLink RJx4a65c 118 yJ15_checkIndex_7cf53, Cond.static yJ15_checkIndex_7cf53, Cond.initialized RJ15, Cond.code yJ15_checkIndex_7cf53 cJ15_checkIndex_7cf53 2 (some .int), Cond.methodLink RJ15 105 yJ3_checkIndex_8e157, Cond.static yJ3_checkIndex_8e157, Cond.initialized RJ3, Cond.code yJ3_checkIndex_8e157 cJ3_checkIndex_8e157 3 (some .int), Cond.methodLink RJx4a65c 123 yJx4a65c_elementData_915e3, Cond.instanceMethod yJx4a65c_elementData_915e3, Cond.selects RJx4a65c yJx4a65c_elementData_915e3 yJx4a65c_elementData_915e3, Cond.code yJx4a65c_elementData_915e3 cJx4a65c_elementData_915e3 2 (some (.object "java/lang/Object")), Cond.fieldLink RJx4a65c 9 "java/util/ArrayList" "elementData" "[Ljava/lang/Object;"]
def wsL_mark_r3 : List Cond := [Cond.methodLink RX5 187 yX0_hasOneOf, Cond.instanceMethod yX0_hasOneOf, Cond.selects RX0 yX0_hasOneOf yX0_hasOneOf, Cond.initialized RX0, Cond.code yX0_hasOneOf cX0_hasOneOf 3 (some .boolean), Cond.fieldLink RX0 18 "InkHall$Marks" "count" "I", Cond.fieldLink RX0 9 "InkHall$Marks" "examiners" "[I", Cond.methodLink RX5 195 yX0_lacking, Cond.instanceMethod yX0_lacking, Cond.selects RX0 yX0_lacking yX0_lacking, Cond.code yX0_lacking cX0_lacking 2 (some .int), Cond.fieldLink RX0 15 "InkHall$Marks" "values" "[I", Cond.methodLink RX0 22 Lib.Math.abs.name, Cond.static Lib.Math.abs.name, Cond.initialized "java/lang/Math", Cond.code Lib.Math.abs.name Lib.Math.abs.code 1 (some .int), Cond.methodLink RX5 200 yX0_add, Cond.instanceMethod yX0_add, Cond.selects RX0 yX0_add yX0_add, Cond.code yX0_add cX0_add 3 none, Cond.methodLink RX5 203 yX0_size, Cond.instanceMethod yX0_size, Cond.selects RX0 yX0_size yX0_size, Cond.code yX0_size cX0_size 1 (some .int)]
def wsL_mark : List Cond := .codeWith yL_mark cL_mark 6 (some .int) [(0, 12, 15, 13), (0, 12, 19, 15), (0, 12, 23, 17)] :: ((wsL_mark_r1 ++ (wsL_mark_r2 ++ wsL_mark_r3)) ++ wsX30 ++ wsX50 ++ wsJx4a65c0 ++ wsX00 ++ (vx_atS RX5 48 "java/lang/IllegalArgumentException" ["java/lang/RuntimeException", "java/lang/Exception"]).filter goodWord ++ (vx_atS RX5 59 "java/lang/IllegalStateException" ["java/lang/RuntimeException", "java/lang/Exception"]).filter goodWord ++ (vx_atS RX5 96 "java/lang/IndexOutOfBoundsException" ["java/lang/RuntimeException", "java/lang/Exception"]).filter goodWord)
def wsL_grade_r1 : List Cond := [Cond.classLink RL 13 "java/lang/IndexOutOfBoundsException", Cond.methodLink RL 52 yX5_grade, Cond.instanceMethod yX5_grade, Cond.selects RX5 yX5_grade yX5_grade, Cond.initialized RX5, Cond.code yX5_grade cX5_grade 2 (some .int), Cond.fieldLink RX5 179 "InkHall$Script" "marks" "LInkHall$Marks;", Cond.methodLink RX5 161 yX5_scriptNumbered, Cond.instanceMethod yX5_scriptNumbered, Cond.selects RX5 yX5_scriptNumbered yX5_scriptNumbered, Cond.code yX5_scriptNumbered cX5_scriptNumbered 2 (some (.object "InkHall$Script")), Cond.classLink RX5 92 "java/lang/IndexOutOfBoundsException", Cond.initialized "java/lang/IndexOutOfBoundsException", Cond.fieldLink RX5 33 "InkHall" "scripts" "Ljava/util/ArrayList;", Cond.classLink RX5 147 "InkHall$Script", Cond.methodLink RX5 78 yJx4a65c_size_8abf5, Cond.instanceMethod yJx4a65c_size_8abf5, Cond.selects RJx4a65c yJx4a65c_size_8abf5 yJx4a65c_size_8abf5, Cond.initialized RJx4a65c, Cond.code yJx4a65c_size_8abf5 cJx4a65c_size_8abf5 1 (some .int), Cond.fieldLink RJx4a65c 48 "java/util/ArrayList" "size" "I", Cond.methodLink RX5 209 yJx4a65c_get_915e3, Cond.instanceMethod yJx4a65c_get_915e3, Cond.selects RJx4a65c yJx4a65c_get_915e3 yJx4a65c_get_915e3]
def wsL_grade_r2 : List Cond := [Cond.code yJx4a65c_get_915e3 cJx4a65c_get_915e3 2 (some (.object "java/lang/Object")), Cond.methodLink RJx4a65c 118 yJ15_checkIndex_7cf53, Cond.static yJ15_checkIndex_7cf53, Cond.initialized RJ15, Cond.code yJ15_checkIndex_7cf53 cJ15_checkIndex_7cf53 2 (some .int), Cond.methodLink RJ15 105 yJ3_checkIndex_8e157, Cond.static yJ3_checkIndex_8e157, Cond.initialized RJ3, Cond.code yJ3_checkIndex_8e157 cJ3_checkIndex_8e157 3 (some .int), Cond.methodLink RJx4a65c 123 yJx4a65c_elementData_915e3, Cond.instanceMethod yJx4a65c_elementData_915e3, Cond.selects RJx4a65c yJx4a65c_elementData_915e3 yJx4a65c_elementData_915e3, Cond.code yJx4a65c_elementData_915e3 cJx4a65c_elementData_915e3 2 (some (.object "java/lang/Object")), Cond.fieldLink RJx4a65c 9 "java/util/ArrayList" "elementData" "[Ljava/lang/Object;", Cond.methodLink RX5 204 yX0_result, Cond.instanceMethod yX0_result, Cond.selects RX0 yX0_result yX0_result, Cond.initialized RX0, Cond.code yX0_result cX0_result 3 (some .int), Cond.fieldLink RX0 15 "InkHall$Marks" "values" "[I", Cond.methodLink RX0 32 Lib.Math.min.name, Cond.static Lib.Math.min.name, Cond.initialized "java/lang/Math", Cond.code Lib.Math.min.name Lib.Math.min.code 2 (some .int)]
def wsL_grade_r3 : List Cond := [Cond.methodLink RX0 36 Lib.Math.max.name, Cond.static Lib.Math.max.name, Cond.code Lib.Math.max.name Lib.Math.max.code 2 (some .int), Cond.fieldLink RX0 18 "InkHall$Marks" "count" "I", Cond.methodLink RX0 28 yX0_lacking, Cond.instanceMethod yX0_lacking, Cond.selects RX0 yX0_lacking yX0_lacking, Cond.code yX0_lacking cX0_lacking 2 (some .int), Cond.methodLink RX0 22 Lib.Math.abs.name, Cond.static Lib.Math.abs.name, Cond.code Lib.Math.abs.name Lib.Math.abs.code 1 (some .int)]
def wsL_grade : List Cond := .codeWith yL_grade cL_grade 4 (some .int) [(0, 9, 12, 13)] :: ((wsL_grade_r1 ++ (wsL_grade_r2 ++ wsL_grade_r3)) ++ wsX30 ++ wsX50 ++ wsJx4a65c0 ++ wsX00 ++ (vx_atS RX5 96 "java/lang/IndexOutOfBoundsException" ["java/lang/RuntimeException", "java/lang/Exception"]).filter goodWord)
def wsL_lacks_r1 : List Cond := [Cond.classLink RL 13 "java/lang/IndexOutOfBoundsException", Cond.methodLink RL 55 yX5_lacks, Cond.instanceMethod yX5_lacks, Cond.selects RX5 yX5_lacks yX5_lacks, Cond.initialized RX5, Cond.code yX5_lacks cX5_lacks 2 (some .int), Cond.fieldLink RX5 179 "InkHall$Script" "marks" "LInkHall$Marks;", Cond.methodLink RX5 161 yX5_scriptNumbered, Cond.instanceMethod yX5_scriptNumbered, Cond.selects RX5 yX5_scriptNumbered yX5_scriptNumbered, Cond.code yX5_scriptNumbered cX5_scriptNumbered 2 (some (.object "InkHall$Script")), Cond.classLink RX5 92 "java/lang/IndexOutOfBoundsException", Cond.initialized "java/lang/IndexOutOfBoundsException", Cond.fieldLink RX5 33 "InkHall" "scripts" "Ljava/util/ArrayList;", Cond.classLink RX5 147 "InkHall$Script", Cond.methodLink RX5 78 yJx4a65c_size_8abf5, Cond.instanceMethod yJx4a65c_size_8abf5, Cond.selects RJx4a65c yJx4a65c_size_8abf5 yJx4a65c_size_8abf5, Cond.initialized RJx4a65c, Cond.code yJx4a65c_size_8abf5 cJx4a65c_size_8abf5 1 (some .int), Cond.fieldLink RJx4a65c 48 "java/util/ArrayList" "size" "I", Cond.methodLink RX5 209 yJx4a65c_get_915e3, Cond.instanceMethod yJx4a65c_get_915e3, Cond.selects RJx4a65c yJx4a65c_get_915e3 yJx4a65c_get_915e3]
def wsL_lacks_r2 : List Cond := [Cond.code yJx4a65c_get_915e3 cJx4a65c_get_915e3 2 (some (.object "java/lang/Object")), Cond.methodLink RJx4a65c 118 yJ15_checkIndex_7cf53, Cond.static yJ15_checkIndex_7cf53, Cond.initialized RJ15, Cond.code yJ15_checkIndex_7cf53 cJ15_checkIndex_7cf53 2 (some .int), Cond.methodLink RJ15 105 yJ3_checkIndex_8e157, Cond.static yJ3_checkIndex_8e157, Cond.initialized RJ3, Cond.code yJ3_checkIndex_8e157 cJ3_checkIndex_8e157 3 (some .int), Cond.methodLink RJx4a65c 123 yJx4a65c_elementData_915e3, Cond.instanceMethod yJx4a65c_elementData_915e3, Cond.selects RJx4a65c yJx4a65c_elementData_915e3 yJx4a65c_elementData_915e3, Cond.code yJx4a65c_elementData_915e3 cJx4a65c_elementData_915e3 2 (some (.object "java/lang/Object")), Cond.fieldLink RJx4a65c 9 "java/util/ArrayList" "elementData" "[Ljava/lang/Object;", Cond.methodLink RX5 195 yX0_lacking, Cond.instanceMethod yX0_lacking, Cond.selects RX0 yX0_lacking yX0_lacking, Cond.initialized RX0, Cond.code yX0_lacking cX0_lacking 2 (some .int), Cond.fieldLink RX0 18 "InkHall$Marks" "count" "I", Cond.fieldLink RX0 15 "InkHall$Marks" "values" "[I", Cond.methodLink RX0 22 Lib.Math.abs.name, Cond.static Lib.Math.abs.name, Cond.initialized "java/lang/Math"]
def wsL_lacks_r3 : List Cond := [Cond.code Lib.Math.abs.name Lib.Math.abs.code 1 (some .int)]
def wsL_lacks : List Cond := .codeWith yL_lacks cL_lacks 4 (some .int) [(0, 9, 12, 13)] :: ((wsL_lacks_r1 ++ (wsL_lacks_r2 ++ wsL_lacks_r3)) ++ wsX30 ++ wsX50 ++ wsJx4a65c0 ++ wsX00 ++ (vx_atS RX5 96 "java/lang/IndexOutOfBoundsException" ["java/lang/RuntimeException", "java/lang/Exception"]).filter goodWord)
def wsL_takeOut_r1 : List Cond := [Cond.classLink RL 13 "java/lang/IndexOutOfBoundsException", Cond.classLink RL 17 "java/lang/IllegalStateException", Cond.methodLink RL 58 yX5_takeOut, Cond.instanceMethod yX5_takeOut, Cond.selects RX5 yX5_takeOut yX5_takeOut, Cond.initialized RX5, Cond.code yX5_takeOut cX5_takeOut 6 (some .int), Cond.classLink RX5 55 "java/lang/IllegalStateException", Cond.initialized "java/lang/IllegalStateException", Cond.fieldLink RX5 36 "InkHall" "isOut" "[Z", Cond.fieldLink RX5 33 "InkHall" "scripts" "Ljava/util/ArrayList;", Cond.classLink RX5 147 "InkHall$Script", Cond.fieldLink RX5 179 "InkHall$Script" "marks" "LInkHall$Marks;", Cond.methodLink RX5 176 yX5_checkExaminer, Cond.static yX5_checkExaminer, Cond.code yX5_checkExaminer cX5_checkExaminer 1 none, Cond.classLink RX5 92 "java/lang/IndexOutOfBoundsException", Cond.initialized "java/lang/IndexOutOfBoundsException", Cond.methodLink RX5 78 yJx4a65c_size_8abf5, Cond.instanceMethod yJx4a65c_size_8abf5, Cond.selects RJx4a65c yJx4a65c_size_8abf5 yJx4a65c_size_8abf5, Cond.initialized RJx4a65c, Cond.code yJx4a65c_size_8abf5 cJx4a65c_size_8abf5 1 (some .int), Cond.fieldLink RJx4a65c 48 "java/util/ArrayList" "size" "I"]
def wsL_takeOut_r2 : List Cond := [Cond.methodLink RX5 209 yJx4a65c_get_915e3, Cond.instanceMethod yJx4a65c_get_915e3, Cond.selects RJx4a65c yJx4a65c_get_915e3 yJx4a65c_get_915e3, Cond.code yJx4a65c_get_915e3 cJx4a65c_get_915e3 2 (some (.object "java/lang/Object")), Cond.methodLink RJx4a65c 118 yJ15_checkIndex_7cf53, Cond.static yJ15_checkIndex_7cf53, Cond.initialized RJ15, Cond.code yJ15_checkIndex_7cf53 cJ15_checkIndex_7cf53 2 (some .int), Cond.methodLink RJ15 105 yJ3_checkIndex_8e157, Cond.static yJ3_checkIndex_8e157, Cond.initialized RJ3, Cond.code yJ3_checkIndex_8e157 cJ3_checkIndex_8e157 3 (some .int), Cond.methodLink RJx4a65c 123 yJx4a65c_elementData_915e3, Cond.instanceMethod yJx4a65c_elementData_915e3, Cond.selects RJx4a65c yJx4a65c_elementData_915e3 yJx4a65c_elementData_915e3, Cond.code yJx4a65c_elementData_915e3 cJx4a65c_elementData_915e3 2 (some (.object "java/lang/Object")), Cond.fieldLink RJx4a65c 9 "java/util/ArrayList" "elementData" "[Ljava/lang/Object;", Cond.methodLink RX5 204 yX0_result, Cond.instanceMethod yX0_result, Cond.selects RX0 yX0_result yX0_result, Cond.initialized RX0, Cond.code yX0_result cX0_result 3 (some .int), Cond.fieldLink RX0 15 "InkHall$Marks" "values" "[I", Cond.methodLink RX0 32 Lib.Math.min.name]
def wsL_takeOut_r3 : List Cond := [Cond.static Lib.Math.min.name, Cond.initialized "java/lang/Math", Cond.code Lib.Math.min.name Lib.Math.min.code 2 (some .int), Cond.methodLink RX0 36 Lib.Math.max.name, Cond.static Lib.Math.max.name, Cond.code Lib.Math.max.name Lib.Math.max.code 2 (some .int), Cond.fieldLink RX0 18 "InkHall$Marks" "count" "I", Cond.methodLink RX0 28 yX0_lacking, Cond.instanceMethod yX0_lacking, Cond.selects RX0 yX0_lacking yX0_lacking, Cond.code yX0_lacking cX0_lacking 2 (some .int), Cond.methodLink RX0 22 Lib.Math.abs.name, Cond.static Lib.Math.abs.name, Cond.code Lib.Math.abs.name Lib.Math.abs.code 1 (some .int), Cond.methodLink RX5 213 yX0_removeOf, Cond.instanceMethod yX0_removeOf, Cond.selects RX0 yX0_removeOf yX0_removeOf, Cond.code yX0_removeOf cX0_removeOf 4 none, Cond.fieldLink RX0 9 "InkHall$Marks" "examiners" "[I"]
def wsL_takeOut : List Cond := .codeWith yL_takeOut cL_takeOut 4 (some .int) [(0, 9, 12, 13), (0, 9, 15, 17)] :: ((wsL_takeOut_r1 ++ (wsL_takeOut_r2 ++ wsL_takeOut_r3)) ++ wsX50 ++ wsX30 ++ wsJx4a65c0 ++ wsX00 ++ (vx_atS RX5 59 "java/lang/IllegalStateException" ["java/lang/RuntimeException", "java/lang/Exception"]).filter goodWord ++ (vx_atS RX5 96 "java/lang/IndexOutOfBoundsException" ["java/lang/RuntimeException", "java/lang/Exception"]).filter goodWord)
def wsL_show_r1 : List Cond := [Cond.classLink RL 13 "java/lang/IndexOutOfBoundsException", Cond.classLink RL 17 "java/lang/IllegalStateException", Cond.methodLink RL 61 yX5_show, Cond.instanceMethod yX5_show, Cond.selects RX5 yX5_show yX5_show, Cond.initialized RX5, Cond.code yX5_show cX5_show 3 (some .int), Cond.classLink RX5 55 "java/lang/IllegalStateException", Cond.initialized "java/lang/IllegalStateException", Cond.fieldLink RX5 216 "InkHall$Script" "isShown" "Z", Cond.fieldLink RX5 179 "InkHall$Script" "marks" "LInkHall$Marks;", Cond.methodLink RX5 161 yX5_scriptNumbered, Cond.instanceMethod yX5_scriptNumbered, Cond.selects RX5 yX5_scriptNumbered yX5_scriptNumbered, Cond.code yX5_scriptNumbered cX5_scriptNumbered 2 (some (.object "InkHall$Script")), Cond.classLink RX5 92 "java/lang/IndexOutOfBoundsException", Cond.initialized "java/lang/IndexOutOfBoundsException", Cond.fieldLink RX5 33 "InkHall" "scripts" "Ljava/util/ArrayList;", Cond.classLink RX5 147 "InkHall$Script", Cond.methodLink RX5 78 yJx4a65c_size_8abf5, Cond.instanceMethod yJx4a65c_size_8abf5, Cond.selects RJx4a65c yJx4a65c_size_8abf5 yJx4a65c_size_8abf5, Cond.initialized RJx4a65c, Cond.code yJx4a65c_size_8abf5 cJx4a65c_size_8abf5 1 (some .int)]
def wsL_show_r2 : List Cond := [Cond.fieldLink RJx4a65c 48 "java/util/ArrayList" "size" "I", Cond.methodLink RX5 209 yJx4a65c_get_915e3, Cond.instanceMethod yJx4a65c_get_915e3, Cond.selects RJx4a65c yJx4a65c_get_915e3 yJx4a65c_get_915e3, Cond.code yJx4a65c_get_915e3 cJx4a65c_get_915e3 2 (some (.object "java/lang/Object")), Cond.methodLink RJx4a65c 118 yJ15_checkIndex_7cf53, Cond.static yJ15_checkIndex_7cf53, Cond.initialized RJ15, Cond.code yJ15_checkIndex_7cf53 cJ15_checkIndex_7cf53 2 (some .int), Cond.methodLink RJ15 105 yJ3_checkIndex_8e157, Cond.static yJ3_checkIndex_8e157, Cond.initialized RJ3, Cond.code yJ3_checkIndex_8e157 cJ3_checkIndex_8e157 3 (some .int), Cond.methodLink RJx4a65c 123 yJx4a65c_elementData_915e3, Cond.instanceMethod yJx4a65c_elementData_915e3, Cond.selects RJx4a65c yJx4a65c_elementData_915e3 yJx4a65c_elementData_915e3, Cond.code yJx4a65c_elementData_915e3 cJx4a65c_elementData_915e3 2 (some (.object "java/lang/Object")), Cond.fieldLink RJx4a65c 9 "java/util/ArrayList" "elementData" "[Ljava/lang/Object;", Cond.methodLink RX5 204 yX0_result, Cond.instanceMethod yX0_result, Cond.selects RX0 yX0_result yX0_result, Cond.initialized RX0, Cond.code yX0_result cX0_result 3 (some .int), Cond.fieldLink RX0 15 "InkHall$Marks" "values" "[I"]
def wsL_show_r3 : List Cond := [Cond.methodLink RX0 32 Lib.Math.min.name, Cond.static Lib.Math.min.name, Cond.initialized "java/lang/Math", Cond.code Lib.Math.min.name Lib.Math.min.code 2 (some .int), Cond.methodLink RX0 36 Lib.Math.max.name, Cond.static Lib.Math.max.name, Cond.code Lib.Math.max.name Lib.Math.max.code 2 (some .int), Cond.fieldLink RX0 18 "InkHall$Marks" "count" "I", Cond.methodLink RX0 28 yX0_lacking, Cond.instanceMethod yX0_lacking, Cond.selects RX0 yX0_lacking yX0_lacking, Cond.code yX0_lacking cX0_lacking 2 (some .int), Cond.methodLink RX0 22 Lib.Math.abs.name, Cond.static Lib.Math.abs.name, Cond.code Lib.Math.abs.name Lib.Math.abs.code 1 (some .int), Cond.methodLink RX5 223 yX5_shownCount, Cond.instanceMethod yX5_shownCount, Cond.selects RX5 yX5_shownCount yX5_shownCount, Cond.code yX5_shownCount cX5_shownCount 3 (some .int)]
def wsL_show : List Cond := .codeWith yL_show cL_show 4 (some .int) [(0, 9, 12, 13), (0, 9, 15, 17)] :: ((wsL_show_r1 ++ (wsL_show_r2 ++ wsL_show_r3)) ++ wsX30 ++ wsX50 ++ wsJx4a65c0 ++ wsX00 ++ (vx_atS RX5 59 "java/lang/IllegalStateException" ["java/lang/RuntimeException", "java/lang/Exception"]).filter goodWord ++ (vx_atS RX5 96 "java/lang/IndexOutOfBoundsException" ["java/lang/RuntimeException", "java/lang/Exception"]).filter goodWord)
def wsL_vote_r1 : List Cond := [Cond.classLink RL 13 "java/lang/IndexOutOfBoundsException", Cond.classLink RL 15 "java/lang/IllegalArgumentException", Cond.classLink RL 17 "java/lang/IllegalStateException", Cond.methodLink RL 64 yX5_vote, Cond.instanceMethod yX5_vote, Cond.selects RX5 yX5_vote yX5_vote, Cond.initialized RX5, Cond.code yX5_vote cX5_vote 5 (some .int), Cond.classLink RX5 44 "java/lang/IllegalArgumentException", Cond.initialized "java/lang/IllegalArgumentException", Cond.classLink RX5 55 "java/lang/IllegalStateException", Cond.initialized "java/lang/IllegalStateException", Cond.fieldLink RX5 216 "InkHall$Script" "isShown" "Z", Cond.fieldLink RX5 230 "InkHall$Script" "group" "I", Cond.methodLink RX5 101 yX5_checkClass, Cond.static yX5_checkClass, Cond.code yX5_checkClass cX5_checkClass 1 none, Cond.classLink RX5 92 "java/lang/IndexOutOfBoundsException", Cond.initialized "java/lang/IndexOutOfBoundsException", Cond.methodLink RX5 161 yX5_scriptNumbered, Cond.instanceMethod yX5_scriptNumbered, Cond.selects RX5 yX5_scriptNumbered yX5_scriptNumbered, Cond.code yX5_scriptNumbered cX5_scriptNumbered 2 (some (.object "InkHall$Script")), Cond.fieldLink RX5 33 "InkHall" "scripts" "Ljava/util/ArrayList;"]
def wsL_vote_r2 : List Cond := [Cond.classLink RX5 147 "InkHall$Script", Cond.methodLink RX5 78 yJx4a65c_size_8abf5, Cond.instanceMethod yJx4a65c_size_8abf5, Cond.selects RJx4a65c yJx4a65c_size_8abf5 yJx4a65c_size_8abf5, Cond.initialized RJx4a65c, Cond.code yJx4a65c_size_8abf5 cJx4a65c_size_8abf5 1 (some .int), Cond.fieldLink RJx4a65c 48 "java/util/ArrayList" "size" "I", Cond.methodLink RX5 209 yJx4a65c_get_915e3, Cond.instanceMethod yJx4a65c_get_915e3, Cond.selects RJx4a65c yJx4a65c_get_915e3 yJx4a65c_get_915e3, Cond.code yJx4a65c_get_915e3 cJx4a65c_get_915e3 2 (some (.object "java/lang/Object")), Cond.methodLink RJx4a65c 118 yJ15_checkIndex_7cf53, Cond.static yJ15_checkIndex_7cf53, Cond.initialized RJ15, Cond.code yJ15_checkIndex_7cf53 cJ15_checkIndex_7cf53 2 (some .int), Cond.methodLink RJ15 105 yJ3_checkIndex_8e157, Cond.static yJ3_checkIndex_8e157, Cond.initialized RJ3, Cond.code yJ3_checkIndex_8e157 cJ3_checkIndex_8e157 3 (some .int), Cond.methodLink RJx4a65c 123 yJx4a65c_elementData_915e3, Cond.instanceMethod yJx4a65c_elementData_915e3, Cond.selects RJx4a65c yJx4a65c_elementData_915e3 yJx4a65c_elementData_915e3, Cond.code yJx4a65c_elementData_915e3 cJx4a65c_elementData_915e3 2 (some (.object "java/lang/Object")), Cond.fieldLink RJx4a65c 9 "java/util/ArrayList" "elementData" "[Ljava/lang/Object;"]
def wsL_vote_r3 : List Cond := [Cond.methodLink RX5 233 yX3_setPoints, Cond.instanceMethod yX3_setPoints, Cond.selects RX3 yX3_setPoints yX3_setPoints, Cond.initialized RX3, Cond.code yX3_setPoints cX3_setPoints 3 none, Cond.fieldLink RX3 30 "InkHall$Script" "points" "[I", Cond.methodLink RX5 236 yX3_allPoints, Cond.instanceMethod yX3_allPoints, Cond.selects RX3 yX3_allPoints yX3_allPoints, Cond.code yX3_allPoints cX3_allPoints 6 (some .int)]
def wsL_vote : List Cond := .codeWith yL_vote cL_vote 6 (some .int) [(0, 12, 15, 13), (0, 12, 19, 15), (0, 12, 23, 17)] :: ((wsL_vote_r1 ++ (wsL_vote_r2 ++ wsL_vote_r3)) ++ wsX30 ++ wsX50 ++ wsJx4a65c0 ++ (vx_atS RX5 48 "java/lang/IllegalArgumentException" ["java/lang/RuntimeException", "java/lang/Exception"]).filter goodWord ++ (vx_atS RX5 59 "java/lang/IllegalStateException" ["java/lang/RuntimeException", "java/lang/Exception"]).filter goodWord ++ (vx_atS RX5 96 "java/lang/IndexOutOfBoundsException" ["java/lang/RuntimeException", "java/lang/Exception"]).filter goodWord)
def wsL_worth_r1 : List Cond := [Cond.classLink RL 13 "java/lang/IndexOutOfBoundsException", Cond.methodLink RL 67 yX5_worth, Cond.instanceMethod yX5_worth, Cond.selects RX5 yX5_worth yX5_worth, Cond.initialized RX5, Cond.code yX5_worth cX5_worth 2 (some .int), Cond.methodLink RX5 161 yX5_scriptNumbered, Cond.instanceMethod yX5_scriptNumbered, Cond.selects RX5 yX5_scriptNumbered yX5_scriptNumbered, Cond.code yX5_scriptNumbered cX5_scriptNumbered 2 (some (.object "InkHall$Script")), Cond.classLink RX5 92 "java/lang/IndexOutOfBoundsException", Cond.initialized "java/lang/IndexOutOfBoundsException", Cond.fieldLink RX5 33 "InkHall" "scripts" "Ljava/util/ArrayList;", Cond.classLink RX5 147 "InkHall$Script", Cond.methodLink RX5 78 yJx4a65c_size_8abf5, Cond.instanceMethod yJx4a65c_size_8abf5, Cond.selects RJx4a65c yJx4a65c_size_8abf5 yJx4a65c_size_8abf5, Cond.initialized RJx4a65c, Cond.code yJx4a65c_size_8abf5 cJx4a65c_size_8abf5 1 (some .int), Cond.fieldLink RJx4a65c 48 "java/util/ArrayList" "size" "I", Cond.methodLink RX5 209 yJx4a65c_get_915e3, Cond.instanceMethod yJx4a65c_get_915e3, Cond.selects RJx4a65c yJx4a65c_get_915e3 yJx4a65c_get_915e3, Cond.code yJx4a65c_get_915e3 cJx4a65c_get_915e3 2 (some (.object "java/lang/Object"))]
def wsL_worth_r2 : List Cond := [Cond.methodLink RJx4a65c 118 yJ15_checkIndex_7cf53, Cond.static yJ15_checkIndex_7cf53, Cond.initialized RJ15, Cond.code yJ15_checkIndex_7cf53 cJ15_checkIndex_7cf53 2 (some .int), Cond.methodLink RJ15 105 yJ3_checkIndex_8e157, Cond.static yJ3_checkIndex_8e157, Cond.initialized RJ3, Cond.code yJ3_checkIndex_8e157 cJ3_checkIndex_8e157 3 (some .int), Cond.methodLink RJx4a65c 123 yJx4a65c_elementData_915e3, Cond.instanceMethod yJx4a65c_elementData_915e3, Cond.selects RJx4a65c yJx4a65c_elementData_915e3 yJx4a65c_elementData_915e3, Cond.code yJx4a65c_elementData_915e3 cJx4a65c_elementData_915e3 2 (some (.object "java/lang/Object")), Cond.fieldLink RJx4a65c 9 "java/util/ArrayList" "elementData" "[Ljava/lang/Object;", Cond.methodLink RX5 239 yX3_worthNow, Cond.instanceMethod yX3_worthNow, Cond.selects RX3 yX3_worthNow yX3_worthNow, Cond.initialized RX3, Cond.code yX3_worthNow cX3_worthNow 2 (some .int), Cond.fieldLink RX3 18 "InkHall$Script" "marks" "LInkHall$Marks;", Cond.fieldLink RX3 22 "InkHall$Script" "isShown" "Z", Cond.methodLink RX3 77 yX0_result, Cond.instanceMethod yX0_result, Cond.selects RX0 yX0_result yX0_result, Cond.initialized RX0]
def wsL_worth_r3 : List Cond := [Cond.code yX0_result cX0_result 3 (some .int), Cond.fieldLink RX0 15 "InkHall$Marks" "values" "[I", Cond.methodLink RX0 32 Lib.Math.min.name, Cond.static Lib.Math.min.name, Cond.initialized "java/lang/Math", Cond.code Lib.Math.min.name Lib.Math.min.code 2 (some .int), Cond.methodLink RX0 36 Lib.Math.max.name, Cond.static Lib.Math.max.name, Cond.code Lib.Math.max.name Lib.Math.max.code 2 (some .int), Cond.fieldLink RX0 18 "InkHall$Marks" "count" "I", Cond.methodLink RX0 28 yX0_lacking, Cond.instanceMethod yX0_lacking, Cond.selects RX0 yX0_lacking yX0_lacking, Cond.code yX0_lacking cX0_lacking 2 (some .int), Cond.methodLink RX0 22 Lib.Math.abs.name, Cond.static Lib.Math.abs.name, Cond.code Lib.Math.abs.name Lib.Math.abs.code 1 (some .int), Cond.methodLink RX3 80 yX3_allPoints, Cond.instanceMethod yX3_allPoints, Cond.selects RX3 yX3_allPoints yX3_allPoints, Cond.code yX3_allPoints cX3_allPoints 6 (some .int), Cond.fieldLink RX3 30 "InkHall$Script" "points" "[I", Cond.methodLink RX3 83 yX3_allSlips, Cond.instanceMethod yX3_allSlips]
def wsL_worth_r4 : List Cond := [Cond.selects RX3 yX3_allSlips yX3_allSlips, Cond.code yX3_allSlips cX3_allSlips 6 (some .int), Cond.fieldLink RX3 26 "InkHall$Script" "slipCounts" "[I"]
def wsL_worth : List Cond := .codeWith yL_worth cL_worth 4 (some .int) [(0, 9, 12, 13)] :: ((wsL_worth_r1 ++ (wsL_worth_r2 ++ (wsL_worth_r3 ++ wsL_worth_r4))) ++ wsX50 ++ wsJx4a65c0 ++ wsX30 ++ wsX00 ++ (vx_atS RX5 96 "java/lang/IndexOutOfBoundsException" ["java/lang/RuntimeException", "java/lang/Exception"]).filter goodWord)
def wsL_place_r1 : List Cond := [Cond.classLink RL 13 "java/lang/IndexOutOfBoundsException", Cond.methodLink RL 70 yX5_place, Cond.instanceMethod yX5_place, Cond.selects RX5 yX5_place yX5_place, Cond.initialized RX5, Cond.code yX5_place cX5_place 2 (some .int), Cond.methodLink RX5 161 yX5_scriptNumbered, Cond.instanceMethod yX5_scriptNumbered, Cond.selects RX5 yX5_scriptNumbered yX5_scriptNumbered, Cond.code yX5_scriptNumbered cX5_scriptNumbered 2 (some (.object "InkHall$Script")), Cond.classLink RX5 92 "java/lang/IndexOutOfBoundsException", Cond.initialized "java/lang/IndexOutOfBoundsException", Cond.fieldLink RX5 33 "InkHall" "scripts" "Ljava/util/ArrayList;", Cond.classLink RX5 147 "InkHall$Script", Cond.methodLink RX5 78 yJx4a65c_size_8abf5, Cond.instanceMethod yJx4a65c_size_8abf5, Cond.selects RJx4a65c yJx4a65c_size_8abf5 yJx4a65c_size_8abf5, Cond.initialized RJx4a65c, Cond.code yJx4a65c_size_8abf5 cJx4a65c_size_8abf5 1 (some .int), Cond.fieldLink RJx4a65c 48 "java/util/ArrayList" "size" "I", Cond.methodLink RX5 209 yJx4a65c_get_915e3, Cond.instanceMethod yJx4a65c_get_915e3, Cond.selects RJx4a65c yJx4a65c_get_915e3 yJx4a65c_get_915e3, Cond.code yJx4a65c_get_915e3 cJx4a65c_get_915e3 2 (some (.object "java/lang/Object"))]
def wsL_place_r2 : List Cond := [Cond.methodLink RJx4a65c 118 yJ15_checkIndex_7cf53, Cond.static yJ15_checkIndex_7cf53, Cond.initialized RJ15, Cond.code yJ15_checkIndex_7cf53 cJ15_checkIndex_7cf53 2 (some .int), Cond.methodLink RJ15 105 yJ3_checkIndex_8e157, Cond.static yJ3_checkIndex_8e157, Cond.initialized RJ3, Cond.code yJ3_checkIndex_8e157 cJ3_checkIndex_8e157 3 (some .int), Cond.methodLink RJx4a65c 123 yJx4a65c_elementData_915e3, Cond.instanceMethod yJx4a65c_elementData_915e3, Cond.selects RJx4a65c yJx4a65c_elementData_915e3 yJx4a65c_elementData_915e3, Cond.code yJx4a65c_elementData_915e3 cJx4a65c_elementData_915e3 2 (some (.object "java/lang/Object")), Cond.fieldLink RJx4a65c 9 "java/util/ArrayList" "elementData" "[Ljava/lang/Object;", Cond.methodLink RX5 239 yX3_worthNow, Cond.instanceMethod yX3_worthNow, Cond.selects RX3 yX3_worthNow yX3_worthNow, Cond.initialized RX3, Cond.code yX3_worthNow cX3_worthNow 2 (some .int), Cond.fieldLink RX3 18 "InkHall$Script" "marks" "LInkHall$Marks;", Cond.fieldLink RX3 22 "InkHall$Script" "isShown" "Z", Cond.methodLink RX3 77 yX0_result, Cond.instanceMethod yX0_result, Cond.selects RX0 yX0_result yX0_result, Cond.initialized RX0]
def wsL_place_r3 : List Cond := [Cond.code yX0_result cX0_result 3 (some .int), Cond.fieldLink RX0 15 "InkHall$Marks" "values" "[I", Cond.methodLink RX0 32 Lib.Math.min.name, Cond.static Lib.Math.min.name, Cond.initialized "java/lang/Math", Cond.code Lib.Math.min.name Lib.Math.min.code 2 (some .int), Cond.methodLink RX0 36 Lib.Math.max.name, Cond.static Lib.Math.max.name, Cond.code Lib.Math.max.name Lib.Math.max.code 2 (some .int), Cond.fieldLink RX0 18 "InkHall$Marks" "count" "I", Cond.methodLink RX0 28 yX0_lacking, Cond.instanceMethod yX0_lacking, Cond.selects RX0 yX0_lacking yX0_lacking, Cond.code yX0_lacking cX0_lacking 2 (some .int), Cond.methodLink RX0 22 Lib.Math.abs.name, Cond.static Lib.Math.abs.name, Cond.code Lib.Math.abs.name Lib.Math.abs.code 1 (some .int), Cond.methodLink RX3 80 yX3_allPoints, Cond.instanceMethod yX3_allPoints, Cond.selects RX3 yX3_allPoints yX3_allPoints, Cond.code yX3_allPoints cX3_allPoints 6 (some .int), Cond.fieldLink RX3 30 "InkHall$Script" "points" "[I", Cond.methodLink RX3 83 yX3_allSlips, Cond.instanceMethod yX3_allSlips]
def wsL_place_r4 : List Cond := [Cond.selects RX3 yX3_allSlips yX3_allSlips, Cond.code yX3_allSlips cX3_allSlips 6 (some .int), Cond.fieldLink RX3 26 "InkHall$Script" "slipCounts" "[I", Cond.methodLink RX5 242 yX5_placeNow, Cond.instanceMethod yX5_placeNow, Cond.selects RX5 yX5_placeNow yX5_placeNow, Cond.code yX5_placeNow cX5_placeNow 6 (some .int)]
def wsL_place : List Cond := .codeWith yL_place cL_place 4 (some .int) [(0, 9, 12, 13)] :: ((wsL_place_r1 ++ (wsL_place_r2 ++ (wsL_place_r3 ++ wsL_place_r4))) ++ wsX50 ++ wsJx4a65c0 ++ wsX30 ++ wsX00 ++ (vx_atS RX5 96 "java/lang/IndexOutOfBoundsException" ["java/lang/RuntimeException", "java/lang/Exception"]).filter goodWord)
def wsL_at_r1 : List Cond := [Cond.classLink RL 13 "java/lang/IndexOutOfBoundsException", Cond.methodLink RL 73 yX5_at, Cond.instanceMethod yX5_at, Cond.selects RX5 yX5_at yX5_at, Cond.initialized RX5, Cond.code yX5_at cX5_at 3 (some .int), Cond.classLink RX5 92 "java/lang/IndexOutOfBoundsException", Cond.initialized "java/lang/IndexOutOfBoundsException", Cond.fieldLink RX5 33 "InkHall" "scripts" "Ljava/util/ArrayList;", Cond.classLink RX5 147 "InkHall$Script", Cond.methodLink RX5 78 yJx4a65c_size_8abf5, Cond.instanceMethod yJx4a65c_size_8abf5, Cond.selects RJx4a65c yJx4a65c_size_8abf5 yJx4a65c_size_8abf5, Cond.initialized RJx4a65c, Cond.code yJx4a65c_size_8abf5 cJx4a65c_size_8abf5 1 (some .int), Cond.fieldLink RJx4a65c 48 "java/util/ArrayList" "size" "I", Cond.methodLink RX5 209 yJx4a65c_get_915e3, Cond.instanceMethod yJx4a65c_get_915e3, Cond.selects RJx4a65c yJx4a65c_get_915e3 yJx4a65c_get_915e3, Cond.code yJx4a65c_get_915e3 cJx4a65c_get_915e3 2 (some (.object "java/lang/Object")), Cond.methodLink RJx4a65c 118 yJ15_checkIndex_7cf53, Cond.static yJ15_checkIndex_7cf53, Cond.initialized RJ15, Cond.code yJ15_checkIndex_7cf53 cJ15_checkIndex_7cf53 2 (some .int)]
def wsL_at_r2 : List Cond := [Cond.methodLink RJ15 105 yJ3_checkIndex_8e157, Cond.static yJ3_checkIndex_8e157, Cond.initialized RJ3, Cond.code yJ3_checkIndex_8e157 cJ3_checkIndex_8e157 3 (some .int), Cond.methodLink RJx4a65c 123 yJx4a65c_elementData_915e3, Cond.instanceMethod yJx4a65c_elementData_915e3, Cond.selects RJx4a65c yJx4a65c_elementData_915e3 yJx4a65c_elementData_915e3, Cond.code yJx4a65c_elementData_915e3 cJx4a65c_elementData_915e3 2 (some (.object "java/lang/Object")), Cond.fieldLink RJx4a65c 9 "java/util/ArrayList" "elementData" "[Ljava/lang/Object;", Cond.methodLink RX5 239 yX3_worthNow, Cond.instanceMethod yX3_worthNow, Cond.selects RX3 yX3_worthNow yX3_worthNow, Cond.initialized RX3, Cond.code yX3_worthNow cX3_worthNow 2 (some .int), Cond.fieldLink RX3 18 "InkHall$Script" "marks" "LInkHall$Marks;", Cond.fieldLink RX3 22 "InkHall$Script" "isShown" "Z", Cond.methodLink RX3 77 yX0_result, Cond.instanceMethod yX0_result, Cond.selects RX0 yX0_result yX0_result, Cond.initialized RX0, Cond.code yX0_result cX0_result 3 (some .int), Cond.fieldLink RX0 15 "InkHall$Marks" "values" "[I", Cond.methodLink RX0 32 Lib.Math.min.name, Cond.static Lib.Math.min.name]
def wsL_at_r3 : List Cond := [Cond.initialized "java/lang/Math", Cond.code Lib.Math.min.name Lib.Math.min.code 2 (some .int), Cond.methodLink RX0 36 Lib.Math.max.name, Cond.static Lib.Math.max.name, Cond.code Lib.Math.max.name Lib.Math.max.code 2 (some .int), Cond.fieldLink RX0 18 "InkHall$Marks" "count" "I", Cond.methodLink RX0 28 yX0_lacking, Cond.instanceMethod yX0_lacking, Cond.selects RX0 yX0_lacking yX0_lacking, Cond.code yX0_lacking cX0_lacking 2 (some .int), Cond.methodLink RX0 22 Lib.Math.abs.name, Cond.static Lib.Math.abs.name, Cond.code Lib.Math.abs.name Lib.Math.abs.code 1 (some .int), Cond.methodLink RX3 80 yX3_allPoints, Cond.instanceMethod yX3_allPoints, Cond.selects RX3 yX3_allPoints yX3_allPoints, Cond.code yX3_allPoints cX3_allPoints 6 (some .int), Cond.fieldLink RX3 30 "InkHall$Script" "points" "[I", Cond.methodLink RX3 83 yX3_allSlips, Cond.instanceMethod yX3_allSlips, Cond.selects RX3 yX3_allSlips yX3_allSlips, Cond.code yX3_allSlips cX3_allSlips 6 (some .int), Cond.fieldLink RX3 26 "InkHall$Script" "slipCounts" "[I", Cond.methodLink RX5 242 yX5_placeNow]
def wsL_at_r4 : List Cond := [Cond.instanceMethod yX5_placeNow, Cond.selects RX5 yX5_placeNow yX5_placeNow, Cond.code yX5_placeNow cX5_placeNow 6 (some .int)]
def wsL_at : List Cond := .codeWith yL_at cL_at 4 (some .int) [(0, 9, 12, 13)] :: ((wsL_at_r1 ++ (wsL_at_r2 ++ (wsL_at_r3 ++ wsL_at_r4))) ++ wsX50 ++ wsJx4a65c0 ++ wsX30 ++ wsX00 ++ (vx_atS RX5 96 "java/lang/IndexOutOfBoundsException" ["java/lang/RuntimeException", "java/lang/Exception"]).filter goodWord)
def wsL_law0_r1 : List Cond := [Cond.classLink RL 8 RX5, Cond.instantiable RX5 6, Cond.initialized RX5, Cond.classLink RL 77 RX6, Cond.instantiable RX6 24, Cond.initialized RX6, Cond.arrayClass .long, Cond.methodLink RL 76 yX5_init, Cond.instanceMethod yX5_init, Cond.code yX5_init cX5_init 1 none, Cond.methodLink RX5 1 objectInit, Cond.instanceMethod objectInit, Cond.code objectInit ⟨#[0xb1]⟩ 1 none, Cond.classLink RX5 7 RX4, Cond.instantiable RX4 2, Cond.initialized RX4, Cond.fieldLink RX5 10 "InkHall" "pen" "LInkHall$Strokes;", Cond.classLink RX5 16 RX1, Cond.instantiable RX1 2, Cond.initialized RX1, Cond.fieldLink RX5 19 "InkHall" "press" "LInkHall$Press;", Cond.classLink RX5 23 RJx4a65c, Cond.instantiable RJx4a65c 3, Cond.initialized RJx4a65c]
def wsL_law0_r2 : List Cond := [Cond.fieldLink RX5 26 "InkHall" "letters" "Ljava/util/ArrayList;", Cond.fieldLink RX5 30 "InkHall" "pupils" "Ljava/util/ArrayList;", Cond.fieldLink RX5 33 "InkHall" "scripts" "Ljava/util/ArrayList;", Cond.arrayClass .boolean, Cond.fieldLink RX5 36 "InkHall" "isOut" "[Z", Cond.methodLink RX5 9 yX4_init, Cond.instanceMethod yX4_init, Cond.code yX4_init cX4_init 1 none, Cond.methodLink RX4 3 objectInit, Cond.arrayClass .int, Cond.fieldLink RX4 9 "InkHall$Strokes" "codes" "[I", Cond.fieldLink RX4 15 "InkHall$Strokes" "count" "I", Cond.methodLink RX5 18 yX1_init, Cond.instanceMethod yX1_init, Cond.code yX1_init cX1_init 1 none, Cond.methodLink RX1 3 objectInit, Cond.fieldLink RX1 9 "InkHall$Press" "forLeft" "[I", Cond.fieldLink RX1 15 "InkHall$Press" "forRight" "[I", Cond.methodLink RX5 25 yJx4a65c_init_da8c8, Cond.instanceMethod yJx4a65c_init_da8c8, Cond.code yJx4a65c_init_da8c8 cJx4a65c_init_da8c8 1 none, Cond.fieldLink RJx4a65c 39 "java/util/ArrayList" "DEFAULTCAPACITY_EMPTY_ELEMENTDATA" "[Ljava/lang/Object;", Cond.fieldLink RJx4a65c 9 "java/util/ArrayList" "elementData" "[Ljava/lang/Object;", Cond.methodLink RJx4a65c 1 yJxc12de_init_da8c8]
def wsL_law0_r3 : List Cond := [Cond.instanceMethod yJxc12de_init_da8c8, Cond.initialized RJxc12de, Cond.code yJxc12de_init_da8c8 cJxc12de_init_da8c8 1 none, Cond.fieldLink RJxc12de 7 "java/util/AbstractList" "modCount" "I", Cond.methodLink RJxc12de 1 yJxa1e45_init_da8c8, Cond.instanceMethod yJxa1e45_init_da8c8, Cond.initialized RJxa1e45, Cond.code yJxa1e45_init_da8c8 cJxa1e45_init_da8c8 1 none, Cond.methodLink RJxa1e45 1 objectInit, Cond.methodLink RL 79 yX6_init, Cond.instanceMethod yX6_init, Cond.code yX6_init cX6_init 1 none, Cond.methodLink RX6 1 objectInit, Cond.fieldLink RX6 7 "InkHallModel" "pen" "[I", Cond.fieldLink RX6 13 "InkHallModel" "strokes" "[I", Cond.fieldLink RX6 16 "InkHallModel" "strokesOf" "[I", Cond.fieldLink RX6 19 "InkHallModel" "group" "[I", Cond.fieldLink RX6 22 "InkHallModel" "age" "[I", Cond.fieldLink RX6 25 "InkHallModel" "isLeftHand" "[Z", Cond.fieldLink RX6 29 "InkHallModel" "sheets" "[I", Cond.fieldLink RX6 32 "InkHallModel" "drawn" "[I", Cond.fieldLink RX6 35 "InkHallModel" "drawnOf" "[I", Cond.fieldLink RX6 38 "InkHallModel" "writer" "[I", Cond.fieldLink RX6 41 "InkHallModel" "letterOf" "[I"]
def wsL_law0_r4 : List Cond := [Cond.fieldLink RX6 44 "InkHallModel" "isRuledWrong" "[Z", Cond.fieldLink RX6 47 "InkHallModel" "marks" "[I", Cond.fieldLink RX6 50 "InkHallModel" "markers" "[I", Cond.fieldLink RX6 53 "InkHallModel" "marksOf" "[I", Cond.fieldLink RX6 56 "InkHallModel" "isOut" "[Z", Cond.fieldLink RX6 59 "InkHallModel" "isShown" "[Z", Cond.fieldLink RX6 62 "InkHallModel" "points" "[I", Cond.fieldLink RX6 65 "InkHallModel" "longest" "[I", Cond.fieldLink RX6 68 "InkHallModel" "onPen" "I", Cond.methodLink RL 80 yL_stroke, Cond.static yL_stroke, Cond.initialized RL, Cond.codeWith yL_stroke cL_stroke 5 (some .int) [(0, 10, 13, 13), (0, 10, 17, 15), (0, 10, 21, 17)], Cond.classLink RL 13 "java/lang/IndexOutOfBoundsException", Cond.classLink RL 15 "java/lang/IllegalArgumentException", Cond.classLink RL 17 "java/lang/IllegalStateException", Cond.methodLink RL 7 yX5_stroke, Cond.instanceMethod yX5_stroke, Cond.selects RX5 yX5_stroke yX5_stroke, Cond.code yX5_stroke cX5_stroke 3 (some .int), Cond.classLink RX5 44 "java/lang/IllegalArgumentException", Cond.initialized "java/lang/IllegalArgumentException", Cond.classLink RX5 55 "java/lang/IllegalStateException", Cond.initialized "java/lang/IllegalStateException"]
def wsL_law0_r5 : List Cond := [Cond.methodLink RX5 40 yX5_checkDot, Cond.static yX5_checkDot, Cond.code yX5_checkDot cX5_checkDot 1 none, Cond.classLink RX5 92 "java/lang/IndexOutOfBoundsException", Cond.initialized "java/lang/IndexOutOfBoundsException", Cond.methodLink RX5 51 yX4_size, Cond.instanceMethod yX4_size, Cond.selects RX4 yX4_size yX4_size, Cond.code yX4_size cX4_size 1 (some .int), Cond.methodLink RX5 60 yX4_codeOf, Cond.static yX4_codeOf, Cond.code yX4_codeOf cX4_codeOf 2 (some .int), Cond.methodLink RX5 64 yX4_add, Cond.instanceMethod yX4_add, Cond.selects RX4 yX4_add yX4_add, Cond.code yX4_add cX4_add 2 none, Cond.methodLink RL 85 yX6_stroke, Cond.instanceMethod yX6_stroke, Cond.selects RX6 yX6_stroke yX6_stroke, Cond.code yX6_stroke cX6_stroke 3 (some .int), Cond.methodLink RX6 78 yX6_in, Cond.static yX6_in, Cond.code yX6_in cX6_in 3 (some .boolean), Cond.methodLink RX6 82 yX6_asks]
def wsL_law0_r6 : List Cond := [Cond.instanceMethod yX6_asks, Cond.selects RX6 yX6_asks yX6_asks, Cond.code yX6_asks cX6_asks 2 (some .boolean), Cond.fieldLink RX6 72 "InkHallModel" "thrown" "I", Cond.methodLink RX6 86 yX6_fails, Cond.instanceMethod yX6_fails, Cond.selects RX6 yX6_fails yX6_fails, Cond.code yX6_fails cX6_fails 2 (some .int), Cond.methodLink RL 86 yX6_thrown, Cond.instanceMethod yX6_thrown, Cond.selects RX6 yX6_thrown yX6_thrown, Cond.code yX6_thrown cX6_thrown 1 (some .int), Cond.methodLink RL 89 yX5_lift, Cond.instanceMethod yX5_lift, Cond.selects RX5 yX5_lift yX5_lift, Cond.code yX5_lift cX5_lift 2 (some .int), Cond.methodLink RX5 67 yX4_clear, Cond.instanceMethod yX4_clear, Cond.selects RX4 yX4_clear yX4_clear, Cond.code yX4_clear cX4_clear 1 none, Cond.methodLink RL 92 yX6_lift, Cond.instanceMethod yX6_lift, Cond.selects RX6 yX6_lift yX6_lift, Cond.code yX6_lift cX6_lift 2 (some .int)]
def wsL_law0_r7 : List Cond := [Cond.methodLink RL 93 yL_letter, Cond.static yL_letter, Cond.codeWith yL_letter cL_letter 3 (some .int) [(0, 8, 11, 17)], Cond.methodLink RL 19 yX5_letter, Cond.instanceMethod yX5_letter, Cond.selects RX5 yX5_letter yX5_letter, Cond.code yX5_letter cX5_letter 2 (some .int), Cond.methodLink RX5 72 yX4_hasLineTwice, Cond.instanceMethod yX4_hasLineTwice, Cond.selects RX4 yX4_hasLineTwice yX4_hasLineTwice, Cond.code yX4_hasLineTwice cX4_hasLineTwice 2 (some .boolean), Cond.methodLink RX4 38 yX4_firstOnLineOf, Cond.instanceMethod yX4_firstOnLineOf, Cond.selects RX4 yX4_firstOnLineOf yX4_firstOnLineOf, Cond.code yX4_firstOnLineOf cX4_firstOnLineOf 3 (some .int), Cond.methodLink RX4 35 yX4_turnedRound, Cond.static yX4_turnedRound, Cond.code yX4_turnedRound cX4_turnedRound 1 (some .int), Cond.methodLink RX4 19 yX4_codeOf, Cond.methodLink RX5 78 yJx4a65c_size_8abf5, Cond.instanceMethod yJx4a65c_size_8abf5, Cond.selects RJx4a65c yJx4a65c_size_8abf5 yJx4a65c_size_8abf5, Cond.code yJx4a65c_size_8abf5 cJx4a65c_size_8abf5 1 (some .int), Cond.fieldLink RJx4a65c 48 "java/util/ArrayList" "size" "I"]
def wsL_law0_r8 : List Cond := [Cond.methodLink RX5 81 yX4_addAll, Cond.instanceMethod yX4_addAll, Cond.selects RX4 yX4_addAll yX4_addAll, Cond.code yX4_addAll cX4_addAll 3 none, Cond.methodLink RX4 23 yX4_size, Cond.methodLink RX4 27 yX4_codeAt, Cond.instanceMethod yX4_codeAt, Cond.selects RX4 yX4_codeAt yX4_codeAt, Cond.code yX4_codeAt cX4_codeAt 2 (some .int), Cond.methodLink RX4 31 yX4_add, Cond.methodLink RX5 85 yJx4a65c_add_9ea2d, Cond.instanceMethod yJx4a65c_add_9ea2d, Cond.selects RJx4a65c yJx4a65c_add_9ea2d yJx4a65c_add_9ea2d, Cond.code yJx4a65c_add_9ea2d cJx4a65c_add_9ea2d 2 (some .boolean), Cond.fieldLink RJx4a65c 63 "java/util/ArrayList" "modCount" "I", Cond.sameField "java/util/ArrayList" "java/util/AbstractList" "modCount" "I", Cond.methodLink RJx4a65c 131 yJx4a65c_add_72be8, Cond.instanceMethod yJx4a65c_add_72be8, Cond.selects RJx4a65c yJx4a65c_add_72be8 yJx4a65c_add_72be8, Cond.code yJx4a65c_add_72be8 cJx4a65c_add_72be8 4 none, Cond.methodLink RJx4a65c 129 yJx4a65c_grow_d5877, Cond.instanceMethod yJx4a65c_grow_d5877, Cond.selects RJx4a65c yJx4a65c_grow_d5877 yJx4a65c_grow_d5877, Cond.code yJx4a65c_grow_d5877 cJx4a65c_grow_d5877 1 (some (.array (.object "java/lang/Object")))]
def wsL_law0_r9 : List Cond := [Cond.methodLink RJx4a65c 69 yJx4a65c_grow_92f84, Cond.instanceMethod yJx4a65c_grow_92f84, Cond.selects RJx4a65c yJx4a65c_grow_92f84 yJx4a65c_grow_92f84, Cond.code yJx4a65c_grow_92f84 cJx4a65c_grow_92f84 4 (some (.array (.object "java/lang/Object"))), Cond.methodLink RJx4a65c 79 Lib.Math.max.name, Cond.static Lib.Math.max.name, Cond.initialized "java/lang/Math", Cond.code Lib.Math.max.name Lib.Math.max.code 2 (some .int), Cond.classLink RJx4a65c 7 "java/lang/Object", Cond.methodLink RJx4a65c 73 yJ8_newLength_cabcc, Cond.static yJ8_newLength_cabcc, Cond.initialized RJ8, Cond.code yJ8_newLength_cabcc cJ8_newLength_cabcc 4 (some .int), Cond.methodLink RJ8 194 Lib.Math.max.name, Cond.constant RJ8 200 (2147483639), Cond.methodLink RJ8 201 yJ8_hugeLength_7cf53, Cond.static yJ8_hugeLength_7cf53, Cond.code yJ8_hugeLength_7cf53 cJ8_hugeLength_7cf53 3 (some .int), Cond.methodLink RJx4a65c 66 yJ7_copyOf_1904c, Cond.static yJ7_copyOf_1904c, Cond.initialized RJ7, Cond.code yJ7_copyOf_1904c cJ7_copyOf_1904c 2 (some (.array (.object "java/lang/Object"))), Cond.methodLink RJ7 86 ⟨"java/lang/Object", "getClass", "()Ljava/lang/Class;"⟩, Cond.selects "[Ljava/lang/Object;" ⟨"java/lang/Object", "getClass", "()Ljava/lang/Class;"⟩ ⟨"java/lang/Object", "getClass", "()Ljava/lang/Class;"⟩]
def wsL_law0_r10 : List Cond := [Cond.instanceMethod ⟨"java/lang/Object", "getClass", "()Ljava/lang/Class;"⟩, Cond.native ⟨"java/lang/Object", "getClass", "()Ljava/lang/Class;"⟩, Cond.methodLink RJ7 300 yJ7_copyOf_6403c, Cond.static yJ7_copyOf_6403c, Cond.code yJ7_copyOf_6403c cJ7_copyOf_6403c 4 (some (.array (.object "java/lang/Object"))), Cond.classLink RJ7 110 "[Ljava/lang/Object;", Cond.classLink RJ7 2 "java/lang/Object", Cond.methodLink RJ7 304 Lib.Math.min.name, Cond.static Lib.Math.min.name, Cond.code Lib.Math.min.name Lib.Math.min.code 2 (some .int), Cond.methodLink RJ7 150 arraycopyName, Cond.native arraycopyName, Cond.static arraycopyName, Cond.initialized "java/lang/System", Cond.methodLink RL 96 yX6_letter, Cond.instanceMethod yX6_letter, Cond.selects RX6 yX6_letter yX6_letter, Cond.code yX6_letter cX6_letter 4 (some .int), Cond.fieldLink RX6 90 "InkHallModel" "letters" "I", Cond.methodLink RX6 93 yX6_areOneLine, Cond.static yX6_areOneLine, Cond.code yX6_areOneLine cX6_areOneLine 2 (some .boolean), Cond.methodLink RL 97 yL_strokeOf, Cond.static yL_strokeOf]
def wsL_law0_r11 : List Cond := [Cond.codeWith yL_strokeOf cL_strokeOf 5 (some .int) [(0, 10, 13, 13)], Cond.methodLink RL 23 yX5_strokeOf, Cond.instanceMethod yX5_strokeOf, Cond.selects RX5 yX5_strokeOf yX5_strokeOf, Cond.code yX5_strokeOf cX5_strokeOf 4 (some .int), Cond.methodLink RX5 88 yX5_letterNumbered, Cond.instanceMethod yX5_letterNumbered, Cond.selects RX5 yX5_letterNumbered yX5_letterNumbered, Cond.code yX5_letterNumbered cX5_letterNumbered 2 (some (.object "InkHall$Strokes")), Cond.classLink RX5 7 "InkHall$Strokes", Cond.methodLink RX5 209 yJx4a65c_get_915e3, Cond.instanceMethod yJx4a65c_get_915e3, Cond.selects RJx4a65c yJx4a65c_get_915e3 yJx4a65c_get_915e3, Cond.code yJx4a65c_get_915e3 cJx4a65c_get_915e3 2 (some (.object "java/lang/Object")), Cond.methodLink RJx4a65c 118 yJ15_checkIndex_7cf53, Cond.static yJ15_checkIndex_7cf53, Cond.initialized RJ15, Cond.code yJ15_checkIndex_7cf53 cJ15_checkIndex_7cf53 2 (some .int), Cond.methodLink RJ15 105 yJ3_checkIndex_8e157, Cond.static yJ3_checkIndex_8e157, Cond.initialized RJ3, Cond.code yJ3_checkIndex_8e157 cJ3_checkIndex_8e157 3 (some .int), Cond.methodLink RJx4a65c 123 yJx4a65c_elementData_915e3, Cond.instanceMethod yJx4a65c_elementData_915e3]
def wsL_law0_r12 : List Cond := [Cond.selects RJx4a65c yJx4a65c_elementData_915e3 yJx4a65c_elementData_915e3, Cond.code yJx4a65c_elementData_915e3 cJx4a65c_elementData_915e3 2 (some (.object "java/lang/Object")), Cond.methodLink RX5 97 yX4_codeAt, Cond.methodLink RL 99 yX6_strokeOf, Cond.instanceMethod yX6_strokeOf, Cond.selects RX6 yX6_strokeOf yX6_strokeOf, Cond.code yX6_strokeOf cX6_strokeOf 3 (some .int), Cond.methodLink RX6 97 yX6_isLetter, Cond.instanceMethod yX6_isLetter, Cond.selects RX6 yX6_isLetter yX6_isLetter, Cond.code yX6_isLetter cX6_isLetter 2 (some .boolean), Cond.methodLink RL 100 yL_pupil, Cond.static yL_pupil, Cond.codeWith yL_pupil cL_pupil 6 (some .int) [(0, 12, 15, 13), (0, 12, 19, 15), (0, 12, 23, 17)], Cond.methodLink RL 26 yX5_pupil, Cond.instanceMethod yX5_pupil, Cond.selects RX5 yX5_pupil yX5_pupil, Cond.code yX5_pupil cX5_pupil 4 (some .int), Cond.classLink RX5 108 RX2, Cond.instantiable RX2 3, Cond.initialized RX2, Cond.methodLink RX5 101 yX5_checkClass, Cond.static yX5_checkClass, Cond.code yX5_checkClass cX5_checkClass 1 none]
def wsL_law0_r13 : List Cond := [Cond.methodLink RX5 110 yX5_bandOf, Cond.static yX5_bandOf, Cond.code yX5_bandOf cX5_bandOf 1 (some .int), Cond.methodLink RX5 113 yX2_init, Cond.instanceMethod yX2_init, Cond.code yX2_init cX2_init 4 none, Cond.methodLink RX2 1 objectInit, Cond.fieldLink RX2 7 "InkHall$Pupil" "group" "I", Cond.fieldLink RX2 13 "InkHall$Pupil" "band" "I", Cond.fieldLink RX2 16 "InkHall$Pupil" "isLeft" "Z", Cond.methodLink RL 103 yX6_pupil, Cond.instanceMethod yX6_pupil, Cond.selects RX6 yX6_pupil yX6_pupil, Cond.code yX6_pupil cX6_pupil 4 (some .int), Cond.fieldLink RX6 101 "InkHallModel" "pupils" "I", Cond.methodLink RL 104 yL_print, Cond.static yL_print, Cond.codeWith yL_print cL_print 6 (some .int) [(0, 12, 15, 13), (0, 12, 19, 15)], Cond.methodLink RL 30 yX5_print, Cond.instanceMethod yX5_print, Cond.selects RX5 yX5_print yX5_print, Cond.code yX5_print cX5_print 4 (some .int), Cond.methodLink RX5 116 yX5_checkBand, Cond.static yX5_checkBand]
def wsL_law0_r14 : List Cond := [Cond.code yX5_checkBand cX5_checkBand 1 none, Cond.methodLink RX5 121 yX1_add, Cond.instanceMethod yX1_add, Cond.selects RX1 yX1_add yX1_add, Cond.code yX1_add cX1_add 4 none, Cond.methodLink RX5 124 yX1_countOf, Cond.instanceMethod yX1_countOf, Cond.selects RX1 yX1_countOf yX1_countOf, Cond.code yX1_countOf cX1_countOf 3 (some .int), Cond.methodLink RL 107 yX6_print, Cond.instanceMethod yX6_print, Cond.selects RX6 yX6_print yX6_print, Cond.code yX6_print cX6_print 4 (some .int), Cond.methodLink RX6 104 yX6_isBand, Cond.static yX6_isBand, Cond.code yX6_isBand cX6_isBand 1 (some .boolean), Cond.methodLink RX6 107 yX6_stack, Cond.static yX6_stack, Cond.code yX6_stack cX6_stack 2 (some .int), Cond.methodLink RL 108 yL_sheets, Cond.static yL_sheets, Cond.codeWith yL_sheets cL_sheets 5 (some .int) [(0, 10, 13, 13)], Cond.methodLink RL 34 yX5_sheets, Cond.instanceMethod yX5_sheets]
def wsL_law0_r15 : List Cond := [Cond.selects RX5 yX5_sheets yX5_sheets, Cond.code yX5_sheets cX5_sheets 3 (some .int), Cond.methodLink RL 111 yX6_sheets, Cond.instanceMethod yX6_sheets, Cond.selects RX6 yX6_sheets yX6_sheets, Cond.code yX6_sheets cX6_sheets 3 (some .int), Cond.methodLink RL 112 yL_write, Cond.static yL_write, Cond.codeWith yL_write cL_write 5 (some .int) [(0, 10, 13, 13), (0, 10, 17, 17)], Cond.methodLink RL 38 yX5_write, Cond.instanceMethod yX5_write, Cond.selects RX5 yX5_write yX5_write, Cond.code yX5_write cX5_write 7 (some .int), Cond.fieldLink RX5 134 "InkHall$Pupil" "band" "I", Cond.fieldLink RX5 138 "InkHall$Pupil" "isLeft" "Z", Cond.classLink RX5 147 RX3, Cond.instantiable RX3 7, Cond.initialized RX3, Cond.fieldLink RX5 149 "InkHall$Pupil" "group" "I", Cond.methodLink RX5 128 yX5_pupilNumbered, Cond.instanceMethod yX5_pupilNumbered, Cond.selects RX5 yX5_pupilNumbered yX5_pupilNumbered, Cond.code yX5_pupilNumbered cX5_pupilNumbered 2 (some (.object "InkHall$Pupil")), Cond.classLink RX5 108 "InkHall$Pupil"]
def wsL_law0_r16 : List Cond := [Cond.methodLink RX5 142 yX1_bandFor, Cond.instanceMethod yX1_bandFor, Cond.selects RX1 yX1_bandFor yX1_bandFor, Cond.code yX1_bandFor cX1_bandFor 4 (some .int), Cond.methodLink RX1 18 yX1_countOf, Cond.methodLink RX5 152 yX3_init, Cond.instanceMethod yX3_init, Cond.code yX3_init cX3_init 2 none, Cond.methodLink RX3 3 objectInit, Cond.fieldLink RX3 9 "InkHall$Script" "group" "I", Cond.classLink RX3 15 RX0, Cond.instantiable RX0 3, Cond.initialized RX0, Cond.fieldLink RX3 18 "InkHall$Script" "marks" "LInkHall$Marks;", Cond.fieldLink RX3 22 "InkHall$Script" "isShown" "Z", Cond.fieldLink RX3 26 "InkHall$Script" "slipCounts" "[I", Cond.fieldLink RX3 30 "InkHall$Script" "points" "[I", Cond.fieldLink RX3 33 "InkHall$Script" "ranks" "[I", Cond.fieldLink RX3 36 "InkHall$Script" "rankCount" "I", Cond.methodLink RX3 17 yX0_init, Cond.instanceMethod yX0_init, Cond.code yX0_init cX0_init 1 none, Cond.methodLink RX0 3 objectInit, Cond.fieldLink RX0 9 "InkHall$Marks" "examiners" "[I"]
def wsL_law0_r17 : List Cond := [Cond.fieldLink RX0 15 "InkHall$Marks" "values" "[I", Cond.fieldLink RX0 18 "InkHall$Marks" "count" "I", Cond.methodLink RX5 154 yX3_compare, Cond.instanceMethod yX3_compare, Cond.selects RX3 yX3_compare yX3_compare, Cond.code yX3_compare cX3_compare 6 none, Cond.methodLink RX3 39 yX4_size, Cond.methodLink RX3 45 yX4_codeAt, Cond.methodLink RX3 49 yX4_firstOnLineOf, Cond.methodLink RX3 52 yX3_addRank, Cond.instanceMethod yX3_addRank, Cond.selects RX3 yX3_addRank yX3_addRank, Cond.code yX3_addRank cX3_addRank 2 none, Cond.methodLink RX3 56 yX3_longestRise, Cond.instanceMethod yX3_longestRise, Cond.selects RX3 yX3_longestRise yX3_longestRise, Cond.code yX3_longestRise cX3_longestRise 5 (some .int), Cond.methodLink RX3 59 Lib.Math.max.name, Cond.methodLink RX5 158 yX3_addWrongRuling, Cond.instanceMethod yX3_addWrongRuling, Cond.selects RX3 yX3_addWrongRuling yX3_addWrongRuling, Cond.code yX3_addWrongRuling cX3_addWrongRuling 1 none, Cond.methodLink RL 114 yX6_write, Cond.instanceMethod yX6_write]
def wsL_law0_r18 : List Cond := [Cond.selects RX6 yX6_write yX6_write, Cond.code yX6_write cX6_write 5 (some .int), Cond.fieldLink RX6 75 "InkHallModel" "scripts" "I", Cond.methodLink RX6 111 yX6_bandOf, Cond.instanceMethod yX6_bandOf, Cond.selects RX6 yX6_bandOf yX6_bandOf, Cond.code yX6_bandOf cX6_bandOf 2 (some .int), Cond.methodLink RL 115 yL_slips, Cond.static yL_slips, Cond.codeWith yL_slips cL_slips 5 (some .int) [(0, 10, 13, 13), (0, 10, 17, 15)], Cond.methodLink RL 41 yX5_slips, Cond.instanceMethod yX5_slips, Cond.selects RX5 yX5_slips yX5_slips, Cond.code yX5_slips cX5_slips 4 (some .int), Cond.methodLink RX5 161 yX5_scriptNumbered, Cond.instanceMethod yX5_scriptNumbered, Cond.selects RX5 yX5_scriptNumbered yX5_scriptNumbered, Cond.code yX5_scriptNumbered cX5_scriptNumbered 2 (some (.object "InkHall$Script")), Cond.classLink RX5 147 "InkHall$Script", Cond.methodLink RX5 167 yX3_allSlips, Cond.instanceMethod yX3_allSlips, Cond.selects RX3 yX3_allSlips yX3_allSlips, Cond.code yX3_allSlips cX3_allSlips 6 (some .int), Cond.methodLink RX5 170 yX3_slipsOf]
def wsL_law0_r19 : List Cond := [Cond.instanceMethod yX3_slipsOf, Cond.selects RX3 yX3_slipsOf yX3_slipsOf, Cond.code yX3_slipsOf cX3_slipsOf 2 (some .int), Cond.methodLink RL 117 yX6_slips, Cond.instanceMethod yX6_slips, Cond.selects RX6 yX6_slips yX6_slips, Cond.code yX6_slips cX6_slips 3 (some .int), Cond.methodLink RX6 133 yX6_isScript, Cond.instanceMethod yX6_isScript, Cond.selects RX6 yX6_isScript yX6_isScript, Cond.code yX6_isScript cX6_isScript 2 (some .boolean), Cond.methodLink RX6 136 yX6_allSlips, Cond.instanceMethod yX6_allSlips, Cond.selects RX6 yX6_allSlips yX6_allSlips, Cond.code yX6_allSlips cX6_allSlips 4 (some .int), Cond.methodLink RX6 130 yX6_slipsOf, Cond.instanceMethod yX6_slipsOf, Cond.selects RX6 yX6_slipsOf yX6_slipsOf, Cond.code yX6_slipsOf cX6_slipsOf 4 (some .int), Cond.methodLink RX6 121 yX6_counting, Cond.instanceMethod yX6_counting, Cond.selects RX6 yX6_counting yX6_counting, Cond.code yX6_counting cX6_counting 4 (some .int), Cond.methodLink RX6 118 yX6_counts]
def wsL_law0_r20 : List Cond := [Cond.instanceMethod yX6_counts, Cond.selects RX6 yX6_counts yX6_counts, Cond.code yX6_counts cX6_counts 5 (some .boolean), Cond.methodLink RX6 114 yX6_strokeOn, Cond.instanceMethod yX6_strokeOn, Cond.selects RX6 yX6_strokeOn yX6_strokeOn, Cond.code yX6_strokeOn cX6_strokeOn 6 (some .int), Cond.methodLink RX6 124 yX6_turned, Cond.instanceMethod yX6_turned, Cond.selects RX6 yX6_turned yX6_turned, Cond.code yX6_turned cX6_turned 5 (some .int), Cond.methodLink RX6 127 yX6_inOrder, Cond.instanceMethod yX6_inOrder, Cond.selects RX6 yX6_inOrder yX6_inOrder, Cond.code yX6_inOrder cX6_inOrder 6 (some .int), Cond.methodLink RL 118 yL_orderAnew, Cond.static yL_orderAnew, Cond.codeWith yL_orderAnew cL_orderAnew 4 (some .int) [(0, 9, 12, 13)], Cond.methodLink RL 44 yX5_orderAnew, Cond.instanceMethod yX5_orderAnew, Cond.selects RX5 yX5_orderAnew yX5_orderAnew, Cond.code yX5_orderAnew cX5_orderAnew 2 (some .int), Cond.methodLink RX5 173 yX3_fewestLeftOut, Cond.instanceMethod yX3_fewestLeftOut]
def wsL_law0_r21 : List Cond := [Cond.selects RX3 yX3_fewestLeftOut yX3_fewestLeftOut, Cond.code yX3_fewestLeftOut cX3_fewestLeftOut 4 (some .int), Cond.methodLink RX3 74 Lib.Math.min.name, Cond.methodLink RX3 65 yX3_isInOrderWithout, Cond.instanceMethod yX3_isInOrderWithout, Cond.selects RX3 yX3_isInOrderWithout yX3_isInOrderWithout, Cond.code yX3_isInOrderWithout cX3_isInOrderWithout 5 (some .boolean), Cond.methodLink RX3 69 yJ6_bitCount_0f7a4, Cond.static yJ6_bitCount_0f7a4, Cond.initialized RJ6, Cond.code yJ6_bitCount_0f7a4 cJ6_bitCount_0f7a4 1 (some .int), Cond.constant RJ6 265 (1431655765), Cond.constant RJ6 266 (858993459), Cond.constant RJ6 267 (252645135), Cond.methodLink RL 121 yX6_orderAnew, Cond.instanceMethod yX6_orderAnew, Cond.selects RX6 yX6_orderAnew yX6_orderAnew, Cond.code yX6_orderAnew cX6_orderAnew 2 (some .int), Cond.methodLink RL 122 yL_mark, Cond.static yL_mark, Cond.codeWith yL_mark cL_mark 6 (some .int) [(0, 12, 15, 13), (0, 12, 19, 15), (0, 12, 23, 17)], Cond.methodLink RL 48 yX5_mark, Cond.instanceMethod yX5_mark, Cond.selects RX5 yX5_mark yX5_mark]
def wsL_law0_r22 : List Cond := [Cond.code yX5_mark cX5_mark 5 (some .int), Cond.fieldLink RX5 179 "InkHall$Script" "marks" "LInkHall$Marks;", Cond.methodLink RX5 176 yX5_checkExaminer, Cond.static yX5_checkExaminer, Cond.code yX5_checkExaminer cX5_checkExaminer 1 none, Cond.methodLink RX5 187 yX0_hasOneOf, Cond.instanceMethod yX0_hasOneOf, Cond.selects RX0 yX0_hasOneOf yX0_hasOneOf, Cond.code yX0_hasOneOf cX0_hasOneOf 3 (some .boolean), Cond.methodLink RX5 195 yX0_lacking, Cond.instanceMethod yX0_lacking, Cond.selects RX0 yX0_lacking yX0_lacking, Cond.code yX0_lacking cX0_lacking 2 (some .int), Cond.methodLink RX0 22 Lib.Math.abs.name, Cond.static Lib.Math.abs.name, Cond.code Lib.Math.abs.name Lib.Math.abs.code 1 (some .int), Cond.methodLink RX5 200 yX0_add, Cond.instanceMethod yX0_add, Cond.selects RX0 yX0_add yX0_add, Cond.code yX0_add cX0_add 3 none, Cond.methodLink RX5 203 yX0_size, Cond.instanceMethod yX0_size, Cond.selects RX0 yX0_size yX0_size, Cond.code yX0_size cX0_size 1 (some .int)]
def wsL_law0_r23 : List Cond := [Cond.methodLink RL 125 yX6_mark, Cond.instanceMethod yX6_mark, Cond.selects RX6 yX6_mark yX6_mark, Cond.code yX6_mark cX6_mark 4 (some .int), Cond.methodLink RX6 142 yX6_isExaminer, Cond.static yX6_isExaminer, Cond.code yX6_isExaminer cX6_isExaminer 1 (some .boolean), Cond.methodLink RX6 145 yX6_hasMarked, Cond.instanceMethod yX6_hasMarked, Cond.selects RX6 yX6_hasMarked yX6_hasMarked, Cond.code yX6_hasMarked cX6_hasMarked 5 (some .boolean), Cond.methodLink RX6 139 yX6_lacking, Cond.instanceMethod yX6_lacking, Cond.selects RX6 yX6_lacking yX6_lacking, Cond.code yX6_lacking cX6_lacking 4 (some .int), Cond.methodLink RL 126 yL_grade, Cond.static yL_grade, Cond.codeWith yL_grade cL_grade 4 (some .int) [(0, 9, 12, 13)], Cond.methodLink RL 52 yX5_grade, Cond.instanceMethod yX5_grade, Cond.selects RX5 yX5_grade yX5_grade, Cond.code yX5_grade cX5_grade 2 (some .int), Cond.methodLink RX5 204 yX0_result, Cond.instanceMethod yX0_result]
def wsL_law0_r24 : List Cond := [Cond.selects RX0 yX0_result yX0_result, Cond.code yX0_result cX0_result 3 (some .int), Cond.methodLink RX0 32 Lib.Math.min.name, Cond.methodLink RX0 36 Lib.Math.max.name, Cond.methodLink RX0 28 yX0_lacking, Cond.methodLink RL 128 yX6_grade, Cond.instanceMethod yX6_grade, Cond.selects RX6 yX6_grade yX6_grade, Cond.code yX6_grade cX6_grade 2 (some .int), Cond.methodLink RX6 148 yX6_gradeOf, Cond.instanceMethod yX6_gradeOf, Cond.selects RX6 yX6_gradeOf yX6_gradeOf, Cond.code yX6_gradeOf cX6_gradeOf 7 (some .int), Cond.methodLink RL 129 yL_lacks, Cond.static yL_lacks, Cond.codeWith yL_lacks cL_lacks 4 (some .int) [(0, 9, 12, 13)], Cond.methodLink RL 55 yX5_lacks, Cond.instanceMethod yX5_lacks, Cond.selects RX5 yX5_lacks yX5_lacks, Cond.code yX5_lacks cX5_lacks 2 (some .int), Cond.methodLink RL 131 yX6_lacks, Cond.instanceMethod yX6_lacks, Cond.selects RX6 yX6_lacks yX6_lacks, Cond.code yX6_lacks cX6_lacks 2 (some .int)]
def wsL_law0_r25 : List Cond := [Cond.methodLink RL 132 yL_takeOut, Cond.static yL_takeOut, Cond.codeWith yL_takeOut cL_takeOut 4 (some .int) [(0, 9, 12, 13), (0, 9, 15, 17)], Cond.methodLink RL 58 yX5_takeOut, Cond.instanceMethod yX5_takeOut, Cond.selects RX5 yX5_takeOut yX5_takeOut, Cond.code yX5_takeOut cX5_takeOut 6 (some .int), Cond.methodLink RX5 213 yX0_removeOf, Cond.instanceMethod yX0_removeOf, Cond.selects RX0 yX0_removeOf yX0_removeOf, Cond.code yX0_removeOf cX0_removeOf 4 none, Cond.methodLink RL 134 yX6_takeOut, Cond.instanceMethod yX6_takeOut, Cond.selects RX6 yX6_takeOut yX6_takeOut, Cond.code yX6_takeOut cX6_takeOut 5 (some .int), Cond.methodLink RX6 151 yX6_dropsMarks, Cond.instanceMethod yX6_dropsMarks, Cond.selects RX6 yX6_dropsMarks yX6_dropsMarks, Cond.code yX6_dropsMarks cX6_dropsMarks 6 none, Cond.methodLink RL 135 yL_show, Cond.static yL_show, Cond.codeWith yL_show cL_show 4 (some .int) [(0, 9, 12, 13), (0, 9, 15, 17)], Cond.methodLink RL 61 yX5_show, Cond.instanceMethod yX5_show]
def wsL_law0_r26 : List Cond := [Cond.selects RX5 yX5_show yX5_show, Cond.code yX5_show cX5_show 3 (some .int), Cond.fieldLink RX5 216 "InkHall$Script" "isShown" "Z", Cond.methodLink RX5 223 yX5_shownCount, Cond.instanceMethod yX5_shownCount, Cond.selects RX5 yX5_shownCount yX5_shownCount, Cond.code yX5_shownCount cX5_shownCount 3 (some .int), Cond.methodLink RL 137 yX6_show, Cond.instanceMethod yX6_show, Cond.selects RX6 yX6_show yX6_show, Cond.code yX6_show cX6_show 4 (some .int), Cond.methodLink RL 138 yL_vote, Cond.static yL_vote, Cond.codeWith yL_vote cL_vote 6 (some .int) [(0, 12, 15, 13), (0, 12, 19, 15), (0, 12, 23, 17)], Cond.methodLink RL 64 yX5_vote, Cond.instanceMethod yX5_vote, Cond.selects RX5 yX5_vote yX5_vote, Cond.code yX5_vote cX5_vote 5 (some .int), Cond.fieldLink RX5 230 "InkHall$Script" "group" "I", Cond.methodLink RX5 233 yX3_setPoints, Cond.instanceMethod yX3_setPoints, Cond.selects RX3 yX3_setPoints yX3_setPoints, Cond.code yX3_setPoints cX3_setPoints 3 none, Cond.methodLink RX5 236 yX3_allPoints]
def wsL_law0_r27 : List Cond := [Cond.instanceMethod yX3_allPoints, Cond.selects RX3 yX3_allPoints yX3_allPoints, Cond.code yX3_allPoints cX3_allPoints 6 (some .int), Cond.methodLink RL 140 yX6_vote, Cond.instanceMethod yX6_vote, Cond.selects RX6 yX6_vote yX6_vote, Cond.code yX6_vote cX6_vote 4 (some .int), Cond.methodLink RX6 155 yX6_pointsOf, Cond.instanceMethod yX6_pointsOf, Cond.selects RX6 yX6_pointsOf yX6_pointsOf, Cond.code yX6_pointsOf cX6_pointsOf 4 (some .int), Cond.methodLink RL 141 yL_worth, Cond.static yL_worth, Cond.codeWith yL_worth cL_worth 4 (some .int) [(0, 9, 12, 13)], Cond.methodLink RL 67 yX5_worth, Cond.instanceMethod yX5_worth, Cond.selects RX5 yX5_worth yX5_worth, Cond.code yX5_worth cX5_worth 2 (some .int), Cond.methodLink RX5 239 yX3_worthNow, Cond.instanceMethod yX3_worthNow, Cond.selects RX3 yX3_worthNow yX3_worthNow, Cond.code yX3_worthNow cX3_worthNow 2 (some .int), Cond.methodLink RX3 77 yX0_result, Cond.methodLink RX3 80 yX3_allPoints]
def wsL_law0_r28 : List Cond := [Cond.methodLink RX3 83 yX3_allSlips, Cond.methodLink RL 143 yX6_worth, Cond.instanceMethod yX6_worth, Cond.selects RX6 yX6_worth yX6_worth, Cond.code yX6_worth cX6_worth 2 (some .int), Cond.methodLink RX6 158 yX6_worthOf, Cond.instanceMethod yX6_worthOf, Cond.selects RX6 yX6_worthOf yX6_worthOf, Cond.code yX6_worthOf cX6_worthOf 3 (some .int), Cond.methodLink RL 144 yL_place, Cond.static yL_place, Cond.codeWith yL_place cL_place 4 (some .int) [(0, 9, 12, 13)], Cond.methodLink RL 70 yX5_place, Cond.instanceMethod yX5_place, Cond.selects RX5 yX5_place yX5_place, Cond.code yX5_place cX5_place 2 (some .int), Cond.methodLink RX5 242 yX5_placeNow, Cond.instanceMethod yX5_placeNow, Cond.selects RX5 yX5_placeNow yX5_placeNow, Cond.code yX5_placeNow cX5_placeNow 6 (some .int), Cond.methodLink RL 146 yX6_place, Cond.instanceMethod yX6_place, Cond.selects RX6 yX6_place yX6_place, Cond.code yX6_place cX6_place 2 (some .int)]
def wsL_law0_r29 : List Cond := [Cond.methodLink RX6 161 yX6_placeOf, Cond.instanceMethod yX6_placeOf, Cond.selects RX6 yX6_placeOf yX6_placeOf, Cond.code yX6_placeOf cX6_placeOf 7 (some .int), Cond.methodLink RL 147 yL_at, Cond.static yL_at, Cond.codeWith yL_at cL_at 4 (some .int) [(0, 9, 12, 13)], Cond.methodLink RL 73 yX5_at, Cond.instanceMethod yX5_at, Cond.selects RX5 yX5_at yX5_at, Cond.code yX5_at cX5_at 3 (some .int), Cond.methodLink RL 149 yX6_at, Cond.instanceMethod yX6_at, Cond.selects RX6 yX6_at yX6_at, Cond.code yX6_at cX6_at 4 (some .int)]
def wsL_law0 : List Cond := (wsL_law0_r1 ++ (wsL_law0_r2 ++ (wsL_law0_r3 ++ (wsL_law0_r4 ++ (wsL_law0_r5 ++ (wsL_law0_r6 ++ (wsL_law0_r7 ++ (wsL_law0_r8 ++ (wsL_law0_r9 ++ (wsL_law0_r10 ++ (wsL_law0_r11 ++ (wsL_law0_r12 ++ (wsL_law0_r13 ++ (wsL_law0_r14 ++ (wsL_law0_r15 ++ (wsL_law0_r16 ++ (wsL_law0_r17 ++ (wsL_law0_r18 ++ (wsL_law0_r19 ++ (wsL_law0_r20 ++ (wsL_law0_r21 ++ (wsL_law0_r22 ++ (wsL_law0_r23 ++ (wsL_law0_r24 ++ (wsL_law0_r25 ++ (wsL_law0_r26 ++ (wsL_law0_r27 ++ (wsL_law0_r28 ++ wsL_law0_r29)))))))))))))))))))))))))))) ++ wsX50 ++ wsX60 ++ wsX40 ++ wsX10 ++ wsJx4a65c0 ++ wsX20 ++ wsX30 ++ wsX00 ++ ([] : List Cond)
def wsL_law : List Cond := wsL_law0 ++ (vx_atS RX5 48 "java/lang/IllegalArgumentException" ["java/lang/RuntimeException", "java/lang/Exception"]).filter goodWord ++ (vx_atS RX5 59 "java/lang/IllegalStateException" ["java/lang/RuntimeException", "java/lang/Exception"]).filter goodWord ++ (vx_atS RX5 96 "java/lang/IndexOutOfBoundsException" ["java/lang/RuntimeException", "java/lang/Exception"]).filter goodWord
abbrev vwCl : List vw_C := [(RJx4a65c, TJx4a65c, 3), (RX0, TX0, 3), (RX1, TX1, 2), (RX2, TX2, 3), (RX3, TX3, 7), (RX4, TX4, 2), (RX5, TX5, 6), (RX6, TX6, 24)]
end
section
theorem dX6_init_0 : decode cX6_init 0 = .ok (.aload_n 0, 1) := by decide +kernel
theorem dX6_init_1 : decode cX6_init 1 = .ok (.invokespecial 1, 3) := by decide +kernel
theorem dX6_init_4 : decode cX6_init 4 = .ok (.aload_n 0, 1) := by decide +kernel
theorem dX6_init_5 : decode cX6_init 5 = .ok (.bipush 8, 2) := by decide +kernel
theorem dX6_init_7 : decode cX6_init 7 = .ok (.newarray .int, 2) := by decide +kernel
theorem dX6_init_9 : decode cX6_init 9 = .ok (.putfield 7, 3) := by decide +kernel
theorem dX6_init_12 : decode cX6_init 12 = .ok (.aload_n 0, 1) := by decide +kernel
theorem dX6_init_13 : decode cX6_init 13 = .ok (.bipush 60, 2) := by decide +kernel
theorem dX6_init_15 : decode cX6_init 15 = .ok (.newarray .int, 2) := by decide +kernel
theorem dX6_init_17 : decode cX6_init 17 = .ok (.putfield 13, 3) := by decide +kernel
theorem dX6_init_20 : decode cX6_init 20 = .ok (.aload_n 0, 1) := by decide +kernel
theorem dX6_init_21 : decode cX6_init 21 = .ok (.bipush 10, 2) := by decide +kernel
theorem dX6_init_23 : decode cX6_init 23 = .ok (.newarray .int, 2) := by decide +kernel
theorem dX6_init_25 : decode cX6_init 25 = .ok (.putfield 16, 3) := by decide +kernel
theorem dX6_init_28 : decode cX6_init 28 = .ok (.aload_n 0, 1) := by decide +kernel
theorem dX6_init_29 : decode cX6_init 29 = .ok (.bipush 20, 2) := by decide +kernel
theorem dX6_init_31 : decode cX6_init 31 = .ok (.newarray .int, 2) := by decide +kernel
theorem dX6_init_33 : decode cX6_init 33 = .ok (.putfield 19, 3) := by decide +kernel
theorem dX6_init_36 : decode cX6_init 36 = .ok (.aload_n 0, 1) := by decide +kernel
theorem dX6_init_37 : decode cX6_init 37 = .ok (.bipush 20, 2) := by decide +kernel
theorem dX6_init_39 : decode cX6_init 39 = .ok (.newarray .int, 2) := by decide +kernel
theorem dX6_init_41 : decode cX6_init 41 = .ok (.putfield 22, 3) := by decide +kernel
theorem dX6_init_44 : decode cX6_init 44 = .ok (.aload_n 0, 1) := by decide +kernel
theorem dX6_init_45 : decode cX6_init 45 = .ok (.bipush 20, 2) := by decide +kernel
theorem dX6_init_47 : decode cX6_init 47 = .ok (.newarray .boolean, 2) := by decide +kernel
theorem dX6_init_49 : decode cX6_init 49 = .ok (.putfield 25, 3) := by decide +kernel
theorem dX6_init_52 : decode cX6_init 52 = .ok (.aload_n 0, 1) := by decide +kernel
theorem dX6_init_53 : decode cX6_init 53 = .ok (.bipush 6, 2) := by decide +kernel
theorem dX6_init_55 : decode cX6_init 55 = .ok (.newarray .int, 2) := by decide +kernel
theorem dX6_init_57 : decode cX6_init 57 = .ok (.putfield 29, 3) := by decide +kernel
theorem dX6_init_60 : decode cX6_init 60 = .ok (.aload_n 0, 1) := by decide +kernel
theorem dX6_init_61 : decode cX6_init 61 = .ok (.sipush 320, 3) := by decide +kernel
theorem dX6_init_64 : decode cX6_init 64 = .ok (.newarray .int, 2) := by decide +kernel
theorem dX6_init_66 : decode cX6_init 66 = .ok (.putfield 32, 3) := by decide +kernel
theorem dX6_init_69 : decode cX6_init 69 = .ok (.aload_n 0, 1) := by decide +kernel
theorem dX6_init_70 : decode cX6_init 70 = .ok (.bipush 40, 2) := by decide +kernel
theorem dX6_init_72 : decode cX6_init 72 = .ok (.newarray .int, 2) := by decide +kernel
theorem dX6_init_74 : decode cX6_init 74 = .ok (.putfield 35, 3) := by decide +kernel
theorem dX6_init_77 : decode cX6_init 77 = .ok (.aload_n 0, 1) := by decide +kernel
theorem dX6_init_78 : decode cX6_init 78 = .ok (.bipush 40, 2) := by decide +kernel
theorem dX6_init_80 : decode cX6_init 80 = .ok (.newarray .int, 2) := by decide +kernel
theorem dX6_init_82 : decode cX6_init 82 = .ok (.putfield 38, 3) := by decide +kernel
theorem dX6_init_85 : decode cX6_init 85 = .ok (.aload_n 0, 1) := by decide +kernel
theorem dX6_init_86 : decode cX6_init 86 = .ok (.bipush 40, 2) := by decide +kernel
theorem dX6_init_88 : decode cX6_init 88 = .ok (.newarray .int, 2) := by decide +kernel
theorem dX6_init_90 : decode cX6_init 90 = .ok (.putfield 41, 3) := by decide +kernel
theorem dX6_init_93 : decode cX6_init 93 = .ok (.aload_n 0, 1) := by decide +kernel
theorem dX6_init_94 : decode cX6_init 94 = .ok (.bipush 40, 2) := by decide +kernel
theorem dX6_init_96 : decode cX6_init 96 = .ok (.newarray .boolean, 2) := by decide +kernel
theorem dX6_init_98 : decode cX6_init 98 = .ok (.putfield 44, 3) := by decide +kernel
theorem dX6_init_101 : decode cX6_init 101 = .ok (.aload_n 0, 1) := by decide +kernel
theorem dX6_init_102 : decode cX6_init 102 = .ok (.bipush 120, 2) := by decide +kernel
theorem dX6_init_104 : decode cX6_init 104 = .ok (.newarray .int, 2) := by decide +kernel
theorem dX6_init_106 : decode cX6_init 106 = .ok (.putfield 47, 3) := by decide +kernel
theorem dX6_init_109 : decode cX6_init 109 = .ok (.aload_n 0, 1) := by decide +kernel
theorem dX6_init_110 : decode cX6_init 110 = .ok (.bipush 120, 2) := by decide +kernel
theorem dX6_init_112 : decode cX6_init 112 = .ok (.newarray .int, 2) := by decide +kernel
theorem dX6_init_114 : decode cX6_init 114 = .ok (.putfield 50, 3) := by decide +kernel
theorem dX6_init_117 : decode cX6_init 117 = .ok (.aload_n 0, 1) := by decide +kernel
theorem dX6_init_118 : decode cX6_init 118 = .ok (.bipush 40, 2) := by decide +kernel
theorem dX6_init_120 : decode cX6_init 120 = .ok (.newarray .int, 2) := by decide +kernel
theorem dX6_init_122 : decode cX6_init 122 = .ok (.putfield 53, 3) := by decide +kernel
theorem dX6_init_125 : decode cX6_init 125 = .ok (.aload_n 0, 1) := by decide +kernel
theorem dX6_init_126 : decode cX6_init 126 = .ok (.bipush 6, 2) := by decide +kernel
theorem dX6_init_128 : decode cX6_init 128 = .ok (.newarray .boolean, 2) := by decide +kernel
theorem dX6_init_130 : decode cX6_init 130 = .ok (.putfield 56, 3) := by decide +kernel
theorem dX6_init_133 : decode cX6_init 133 = .ok (.aload_n 0, 1) := by decide +kernel
theorem dX6_init_134 : decode cX6_init 134 = .ok (.bipush 40, 2) := by decide +kernel
theorem dX6_init_136 : decode cX6_init 136 = .ok (.newarray .boolean, 2) := by decide +kernel
theorem dX6_init_138 : decode cX6_init 138 = .ok (.putfield 59, 3) := by decide +kernel
theorem dX6_init_141 : decode cX6_init 141 = .ok (.aload_n 0, 1) := by decide +kernel
theorem dX6_init_142 : decode cX6_init 142 = .ok (.sipush 160, 3) := by decide +kernel
theorem dX6_init_145 : decode cX6_init 145 = .ok (.newarray .int, 2) := by decide +kernel
theorem dX6_init_147 : decode cX6_init 147 = .ok (.putfield 62, 3) := by decide +kernel
theorem dX6_init_150 : decode cX6_init 150 = .ok (.aload_n 0, 1) := by decide +kernel
theorem dX6_init_151 : decode cX6_init 151 = .ok (.bipush 8, 2) := by decide +kernel
theorem dX6_init_153 : decode cX6_init 153 = .ok (.newarray .int, 2) := by decide +kernel
theorem dX6_init_155 : decode cX6_init 155 = .ok (.putfield 65, 3) := by decide +kernel
theorem dX6_init_158 : decode cX6_init 158 = .ok (.aload_n 0, 1) := by decide +kernel
theorem dX6_init_159 : decode cX6_init 159 = .ok (.iconst 0, 1) := by decide +kernel
theorem dX6_init_160 : decode cX6_init 160 = .ok (.putfield 68, 3) := by decide +kernel
theorem dX6_init_163 : decode cX6_init 163 = .ok (.return_, 1) := by decide +kernel
theorem dX6_thrown_0 : decode cX6_thrown 0 = .ok (.aload_n 0, 1) := by decide +kernel
theorem dX6_thrown_1 : decode cX6_thrown 1 = .ok (.getfield 72, 3) := by decide +kernel
theorem dX6_thrown_4 : decode cX6_thrown 4 = .ok (.ireturn, 1) := by decide +kernel
theorem dX6_fails_0 : decode cX6_fails 0 = .ok (.aload_n 0, 1) := by decide +kernel
theorem dX6_fails_1 : decode cX6_fails 1 = .ok (.iload_n 1, 1) := by decide +kernel
theorem dX6_fails_2 : decode cX6_fails 2 = .ok (.putfield 72, 3) := by decide +kernel
theorem dX6_fails_5 : decode cX6_fails 5 = .ok (.iconst 0, 1) := by decide +kernel
theorem dX6_fails_6 : decode cX6_fails 6 = .ok (.ireturn, 1) := by decide +kernel
theorem dX6_asks_0 : decode cX6_asks 0 = .ok (.aload_n 0, 1) := by decide +kernel
theorem dX6_asks_1 : decode cX6_asks 1 = .ok (.iload_n 1, 1) := by decide +kernel
theorem dX6_asks_2 : decode cX6_asks 2 = .ok (.ifCond .eq 7, 3) := by decide +kernel
theorem dX6_asks_5 : decode cX6_asks 5 = .ok (.iconst 0, 1) := by decide +kernel
theorem dX6_asks_6 : decode cX6_asks 6 = .ok (.goto 4, 3) := by decide +kernel
theorem dX6_asks_9 : decode cX6_asks 9 = .ok (.iconst 1, 1) := by decide +kernel
theorem dX6_asks_10 : decode cX6_asks 10 = .ok (.putfield 72, 3) := by decide +kernel
theorem dX6_asks_13 : decode cX6_asks 13 = .ok (.iload_n 1, 1) := by decide +kernel
theorem dX6_asks_14 : decode cX6_asks 14 = .ok (.ireturn, 1) := by decide +kernel
theorem dX6_in_0 : decode cX6_in 0 = .ok (.iload_n 0, 1) := by decide +kernel
theorem dX6_in_1 : decode cX6_in 1 = .ok (.iload_n 1, 1) := by decide +kernel
theorem dX6_in_2 : decode cX6_in 2 = .ok (.if_icmp .lt 12, 3) := by decide +kernel
theorem dX6_in_5 : decode cX6_in 5 = .ok (.iload_n 0, 1) := by decide +kernel
theorem dX6_in_6 : decode cX6_in 6 = .ok (.iload_n 2, 1) := by decide +kernel
theorem dX6_in_7 : decode cX6_in 7 = .ok (.if_icmp .gt 7, 3) := by decide +kernel
theorem dX6_in_10 : decode cX6_in 10 = .ok (.iconst 1, 1) := by decide +kernel
theorem dX6_in_11 : decode cX6_in 11 = .ok (.goto 4, 3) := by decide +kernel
theorem dX6_in_14 : decode cX6_in 14 = .ok (.iconst 0, 1) := by decide +kernel
theorem dX6_in_15 : decode cX6_in 15 = .ok (.ireturn, 1) := by decide +kernel
set_option maxRecDepth 20000 in
theorem ggX6_isScript_X6_in : GoodIn wsX6_isScript wsX6_in := goodIn_r _ [5] (by decide +kernel) (by decide +kernel)
set_option maxRecDepth 20000 in
theorem gX6_isScript_X6_in : GoodIn wsX6_isScript (va_wsS RX6 78 yX6_in wsX6_in) := goodIn_app (goodIn_of _ (by decide +kernel)) ggX6_isScript_X6_in
theorem dX6_isScript_0 : decode cX6_isScript 0 = .ok (.iload_n 1, 1) := by decide +kernel
theorem dX6_isScript_1 : decode cX6_isScript 1 = .ok (.iconst 0, 1) := by decide +kernel
theorem dX6_isScript_2 : decode cX6_isScript 2 = .ok (.aload_n 0, 1) := by decide +kernel
theorem dX6_isScript_3 : decode cX6_isScript 3 = .ok (.getfield 75, 3) := by decide +kernel
theorem dX6_isScript_6 : decode cX6_isScript 6 = .ok (.iconst 1, 1) := by decide +kernel
theorem dX6_isScript_7 : decode cX6_isScript 7 = .ok (.isub, 1) := by decide +kernel
theorem dX6_isScript_8 : decode cX6_isScript 8 = .ok (.invokestatic 78, 3) := by decide +kernel
theorem dX6_isScript_11 : decode cX6_isScript 11 = .ok (.ireturn, 1) := by decide +kernel
theorem dX6_areOneLine_0 : decode cX6_areOneLine 0 = .ok (.iload_n 0, 1) := by decide +kernel
theorem dX6_areOneLine_1 : decode cX6_areOneLine 1 = .ok (.iload_n 1, 1) := by decide +kernel
theorem dX6_areOneLine_2 : decode cX6_areOneLine 2 = .ok (.if_icmp .eq 25, 3) := by decide +kernel
theorem dX6_areOneLine_5 : decode cX6_areOneLine 5 = .ok (.iload_n 0, 1) := by decide +kernel
theorem dX6_areOneLine_6 : decode cX6_areOneLine 6 = .ok (.bipush 10, 2) := by decide +kernel
theorem dX6_areOneLine_8 : decode cX6_areOneLine 8 = .ok (.idiv, 1) := by decide +kernel
theorem dX6_areOneLine_9 : decode cX6_areOneLine 9 = .ok (.iload_n 1, 1) := by decide +kernel
theorem dX6_areOneLine_10 : decode cX6_areOneLine 10 = .ok (.bipush 10, 2) := by decide +kernel
theorem dX6_areOneLine_12 : decode cX6_areOneLine 12 = .ok (.irem, 1) := by decide +kernel
theorem dX6_areOneLine_13 : decode cX6_areOneLine 13 = .ok (.if_icmp .ne 18, 3) := by decide +kernel
theorem dX6_areOneLine_16 : decode cX6_areOneLine 16 = .ok (.iload_n 0, 1) := by decide +kernel
theorem dX6_areOneLine_17 : decode cX6_areOneLine 17 = .ok (.bipush 10, 2) := by decide +kernel
theorem dX6_areOneLine_19 : decode cX6_areOneLine 19 = .ok (.irem, 1) := by decide +kernel
theorem dX6_areOneLine_20 : decode cX6_areOneLine 20 = .ok (.iload_n 1, 1) := by decide +kernel
theorem dX6_areOneLine_21 : decode cX6_areOneLine 21 = .ok (.bipush 10, 2) := by decide +kernel
theorem dX6_areOneLine_23 : decode cX6_areOneLine 23 = .ok (.idiv, 1) := by decide +kernel
theorem dX6_areOneLine_24 : decode cX6_areOneLine 24 = .ok (.if_icmp .ne 7, 3) := by decide +kernel
theorem dX6_areOneLine_27 : decode cX6_areOneLine 27 = .ok (.iconst 1, 1) := by decide +kernel
theorem dX6_areOneLine_28 : decode cX6_areOneLine 28 = .ok (.goto 4, 3) := by decide +kernel
theorem dX6_areOneLine_31 : decode cX6_areOneLine 31 = .ok (.iconst 0, 1) := by decide +kernel
theorem dX6_areOneLine_32 : decode cX6_areOneLine 32 = .ok (.ireturn, 1) := by decide +kernel
set_option maxRecDepth 20000 in
theorem ggX6_stroke_X6_in : GoodIn wsX6_stroke wsX6_in := goodIn_r _ [6] (by decide +kernel) (by decide +kernel)
set_option maxRecDepth 20000 in
theorem gX6_stroke_X6_in : GoodIn wsX6_stroke (va_wsS RX6 78 yX6_in wsX6_in) := goodIn_app (goodIn_of _ (by decide +kernel)) ggX6_stroke_X6_in
set_option maxRecDepth 20000 in
theorem ggX6_stroke_X6_asks : GoodIn wsX6_stroke wsX6_asks := goodIn_r _ [10, 11, 16, 17, 18, 19, 20, 21, 22, 23, 24, 25, 26, 27, 28, 29, 30, 31, 32, 33, 34, 35, 36, 37, 38, 39] (by decide +kernel) (by decide +kernel)
set_option maxRecDepth 20000 in
theorem gX6_stroke_X6_asks : GoodIn wsX6_stroke (wsV RX6 82 RX6 yX6_asks wsX6_asks) := goodIn_app (goodIn_of _ (by decide +kernel)) ggX6_stroke_X6_asks
set_option maxRecDepth 20000 in
theorem ggX6_stroke_X6_fails : GoodIn wsX6_stroke wsX6_fails := goodIn_r _ [15, 11, 16, 17, 18, 19, 20, 21, 22, 23, 24, 25, 26, 27, 28, 29, 30, 31, 32, 33, 34, 35, 36, 37, 38, 39] (by decide +kernel) (by decide +kernel)
set_option maxRecDepth 20000 in
theorem gX6_stroke_X6_fails : GoodIn wsX6_stroke (wsV RX6 86 RX6 yX6_fails wsX6_fails) := goodIn_app (goodIn_of _ (by decide +kernel)) ggX6_stroke_X6_fails
theorem dX6_stroke_0 : decode cX6_stroke 0 = .ok (.aload_n 0, 1) := by decide +kernel
theorem dX6_stroke_1 : decode cX6_stroke 1 = .ok (.iload_n 1, 1) := by decide +kernel
theorem dX6_stroke_2 : decode cX6_stroke 2 = .ok (.iconst 0, 1) := by decide +kernel
theorem dX6_stroke_3 : decode cX6_stroke 3 = .ok (.bipush 8, 2) := by decide +kernel
theorem dX6_stroke_5 : decode cX6_stroke 5 = .ok (.invokestatic 78, 3) := by decide +kernel
theorem dX6_stroke_8 : decode cX6_stroke 8 = .ok (.ifCond .eq 17, 3) := by decide +kernel
theorem dX6_stroke_11 : decode cX6_stroke 11 = .ok (.iload_n 2, 1) := by decide +kernel
theorem dX6_stroke_12 : decode cX6_stroke 12 = .ok (.iconst 0, 1) := by decide +kernel
theorem dX6_stroke_13 : decode cX6_stroke 13 = .ok (.bipush 8, 2) := by decide +kernel
theorem dX6_stroke_15 : decode cX6_stroke 15 = .ok (.invokestatic 78, 3) := by decide +kernel
theorem dX6_stroke_18 : decode cX6_stroke 18 = .ok (.ifCond .eq 7, 3) := by decide +kernel
theorem dX6_stroke_21 : decode cX6_stroke 21 = .ok (.iconst 1, 1) := by decide +kernel
theorem dX6_stroke_22 : decode cX6_stroke 22 = .ok (.goto 4, 3) := by decide +kernel
theorem dX6_stroke_25 : decode cX6_stroke 25 = .ok (.iconst 0, 1) := by decide +kernel
theorem dX6_stroke_26 : decode cX6_stroke 26 = .ok (.invokevirtual 82, 3) := by decide +kernel
theorem dX6_stroke_29 : decode cX6_stroke 29 = .ok (.ifCond .ne 5, 3) := by decide +kernel
theorem dX6_stroke_32 : decode cX6_stroke 32 = .ok (.iconst 0, 1) := by decide +kernel
theorem dX6_stroke_33 : decode cX6_stroke 33 = .ok (.ireturn, 1) := by decide +kernel
theorem dX6_stroke_34 : decode cX6_stroke 34 = .ok (.iload_n 1, 1) := by decide +kernel
theorem dX6_stroke_35 : decode cX6_stroke 35 = .ok (.iload_n 2, 1) := by decide +kernel
theorem dX6_stroke_36 : decode cX6_stroke 36 = .ok (.if_icmp .ne 9, 3) := by decide +kernel
theorem dX6_stroke_39 : decode cX6_stroke 39 = .ok (.aload_n 0, 1) := by decide +kernel
theorem dX6_stroke_40 : decode cX6_stroke 40 = .ok (.iconst 2, 1) := by decide +kernel
theorem dX6_stroke_41 : decode cX6_stroke 41 = .ok (.invokevirtual 86, 3) := by decide +kernel
theorem dX6_stroke_44 : decode cX6_stroke 44 = .ok (.ireturn, 1) := by decide +kernel
theorem dX6_stroke_45 : decode cX6_stroke 45 = .ok (.aload_n 0, 1) := by decide +kernel
theorem dX6_stroke_46 : decode cX6_stroke 46 = .ok (.getfield 68, 3) := by decide +kernel
theorem dX6_stroke_49 : decode cX6_stroke 49 = .ok (.bipush 8, 2) := by decide +kernel
theorem dX6_stroke_51 : decode cX6_stroke 51 = .ok (.if_icmp .ne 9, 3) := by decide +kernel
theorem dX6_stroke_54 : decode cX6_stroke 54 = .ok (.aload_n 0, 1) := by decide +kernel
theorem dX6_stroke_55 : decode cX6_stroke 55 = .ok (.iconst 3, 1) := by decide +kernel
theorem dX6_stroke_56 : decode cX6_stroke 56 = .ok (.invokevirtual 86, 3) := by decide +kernel
theorem dX6_stroke_59 : decode cX6_stroke 59 = .ok (.ireturn, 1) := by decide +kernel
theorem dX6_stroke_60 : decode cX6_stroke 60 = .ok (.aload_n 0, 1) := by decide +kernel
theorem dX6_stroke_61 : decode cX6_stroke 61 = .ok (.getfield 7, 3) := by decide +kernel
theorem dX6_stroke_64 : decode cX6_stroke 64 = .ok (.aload_n 0, 1) := by decide +kernel
theorem dX6_stroke_65 : decode cX6_stroke 65 = .ok (.getfield 68, 3) := by decide +kernel
theorem dX6_stroke_68 : decode cX6_stroke 68 = .ok (.bipush 10, 2) := by decide +kernel
theorem dX6_stroke_70 : decode cX6_stroke 70 = .ok (.iload_n 1, 1) := by decide +kernel
theorem dX6_stroke_71 : decode cX6_stroke 71 = .ok (.imul, 1) := by decide +kernel
theorem dX6_stroke_72 : decode cX6_stroke 72 = .ok (.iload_n 2, 1) := by decide +kernel
theorem dX6_stroke_73 : decode cX6_stroke 73 = .ok (.iadd, 1) := by decide +kernel
theorem dX6_stroke_74 : decode cX6_stroke 74 = .ok (.iastore, 1) := by decide +kernel
theorem dX6_stroke_75 : decode cX6_stroke 75 = .ok (.aload_n 0, 1) := by decide +kernel
theorem dX6_stroke_76 : decode cX6_stroke 76 = .ok (.dup, 1) := by decide +kernel
theorem dX6_stroke_77 : decode cX6_stroke 77 = .ok (.getfield 68, 3) := by decide +kernel
theorem dX6_stroke_80 : decode cX6_stroke 80 = .ok (.iconst 1, 1) := by decide +kernel
theorem dX6_stroke_81 : decode cX6_stroke 81 = .ok (.iadd, 1) := by decide +kernel
theorem dX6_stroke_82 : decode cX6_stroke 82 = .ok (.putfield 68, 3) := by decide +kernel
theorem dX6_stroke_85 : decode cX6_stroke 85 = .ok (.aload_n 0, 1) := by decide +kernel
theorem dX6_stroke_86 : decode cX6_stroke 86 = .ok (.getfield 68, 3) := by decide +kernel
theorem dX6_stroke_89 : decode cX6_stroke 89 = .ok (.ireturn, 1) := by decide +kernel
theorem dX6_lift_0 : decode cX6_lift 0 = .ok (.aload_n 0, 1) := by decide +kernel
theorem dX6_lift_1 : decode cX6_lift 1 = .ok (.iconst 0, 1) := by decide +kernel
theorem dX6_lift_2 : decode cX6_lift 2 = .ok (.putfield 72, 3) := by decide +kernel
theorem dX6_lift_5 : decode cX6_lift 5 = .ok (.aload_n 0, 1) := by decide +kernel
theorem dX6_lift_6 : decode cX6_lift 6 = .ok (.getfield 68, 3) := by decide +kernel
theorem dX6_lift_9 : decode cX6_lift 9 = .ok (.istore_n 1, 1) := by decide +kernel
theorem dX6_lift_10 : decode cX6_lift 10 = .ok (.aload_n 0, 1) := by decide +kernel
theorem dX6_lift_11 : decode cX6_lift 11 = .ok (.iconst 0, 1) := by decide +kernel
theorem dX6_lift_12 : decode cX6_lift 12 = .ok (.putfield 68, 3) := by decide +kernel
theorem dX6_lift_15 : decode cX6_lift 15 = .ok (.iload_n 1, 1) := by decide +kernel
theorem dX6_lift_16 : decode cX6_lift 16 = .ok (.ireturn, 1) := by decide +kernel
set_option maxRecDepth 20000 in
theorem ggX6_letter_X6_in : GoodIn wsX6_letter wsX6_in := goodIn_r _ [9] (by decide +kernel) (by decide +kernel)
set_option maxRecDepth 20000 in
theorem gX6_letter_X6_in : GoodIn wsX6_letter (va_wsS RX6 78 yX6_in wsX6_in) := goodIn_app (goodIn_of _ (by decide +kernel)) ggX6_letter_X6_in
set_option maxRecDepth 20000 in
theorem ggX6_letter_X6_areOneLine : GoodIn wsX6_letter wsX6_areOneLine := goodIn_r _ [12] (by decide +kernel) (by decide +kernel)
set_option maxRecDepth 20000 in
theorem gX6_letter_X6_areOneLine : GoodIn wsX6_letter (va_wsS RX6 93 yX6_areOneLine wsX6_areOneLine) := goodIn_app (goodIn_of _ (by decide +kernel)) ggX6_letter_X6_areOneLine
set_option maxRecDepth 20000 in
theorem ggX6_letter_X6_asks : GoodIn wsX6_letter wsX6_asks := goodIn_r _ [16, 17, 18, 19, 20, 21, 22, 23, 24, 25, 26, 27, 28, 29, 30, 31, 32, 33, 34, 35, 36, 37, 38, 39, 40, 41] (by decide +kernel) (by decide +kernel)
set_option maxRecDepth 20000 in
theorem gX6_letter_X6_asks : GoodIn wsX6_letter (wsV RX6 82 RX6 yX6_asks wsX6_asks) := goodIn_app (goodIn_of _ (by decide +kernel)) ggX6_letter_X6_asks
theorem dX6_letter_0 : decode cX6_letter 0 = .ok (.aload_n 0, 1) := by decide +kernel
theorem dX6_letter_1 : decode cX6_letter 1 = .ok (.getfield 68, 3) := by decide +kernel
theorem dX6_letter_4 : decode cX6_letter 4 = .ok (.iconst 1, 1) := by decide +kernel
theorem dX6_letter_5 : decode cX6_letter 5 = .ok (.bipush 6, 2) := by decide +kernel
theorem dX6_letter_7 : decode cX6_letter 7 = .ok (.invokestatic 78, 3) := by decide +kernel
theorem dX6_letter_10 : decode cX6_letter 10 = .ok (.ifCond .eq 16, 3) := by decide +kernel
theorem dX6_letter_13 : decode cX6_letter 13 = .ok (.aload_n 0, 1) := by decide +kernel
theorem dX6_letter_14 : decode cX6_letter 14 = .ok (.getfield 90, 3) := by decide +kernel
theorem dX6_letter_17 : decode cX6_letter 17 = .ok (.bipush 10, 2) := by decide +kernel
theorem dX6_letter_19 : decode cX6_letter 19 = .ok (.if_icmp .ge 7, 3) := by decide +kernel
theorem dX6_letter_22 : decode cX6_letter 22 = .ok (.iconst 1, 1) := by decide +kernel
theorem dX6_letter_23 : decode cX6_letter 23 = .ok (.goto 4, 3) := by decide +kernel
theorem dX6_letter_26 : decode cX6_letter 26 = .ok (.iconst 0, 1) := by decide +kernel
theorem dX6_letter_27 : decode cX6_letter 27 = .ok (.istore_n 1, 1) := by decide +kernel
theorem dX6_letter_28 : decode cX6_letter 28 = .ok (.iconst 0, 1) := by decide +kernel
theorem dX6_letter_29 : decode cX6_letter 29 = .ok (.istore_n 2, 1) := by decide +kernel
theorem dX6_letter_30 : decode cX6_letter 30 = .ok (.iload_n 2, 1) := by decide +kernel
theorem dX6_letter_31 : decode cX6_letter 31 = .ok (.aload_n 0, 1) := by decide +kernel
theorem dX6_letter_32 : decode cX6_letter 32 = .ok (.getfield 68, 3) := by decide +kernel
theorem dX6_letter_35 : decode cX6_letter 35 = .ok (.if_icmp .ge 50, 3) := by decide +kernel
theorem dX6_letter_38 : decode cX6_letter 38 = .ok (.iconst 0, 1) := by decide +kernel
theorem dX6_letter_39 : decode cX6_letter 39 = .ok (.istore_n 3, 1) := by decide +kernel
theorem dX6_letter_40 : decode cX6_letter 40 = .ok (.iload_n 3, 1) := by decide +kernel
theorem dX6_letter_41 : decode cX6_letter 41 = .ok (.iload_n 2, 1) := by decide +kernel
theorem dX6_letter_42 : decode cX6_letter 42 = .ok (.if_icmp .ge 37, 3) := by decide +kernel
theorem dX6_letter_45 : decode cX6_letter 45 = .ok (.iload_n 1, 1) := by decide +kernel
theorem dX6_letter_46 : decode cX6_letter 46 = .ok (.ifCond .eq 25, 3) := by decide +kernel
theorem dX6_letter_49 : decode cX6_letter 49 = .ok (.aload_n 0, 1) := by decide +kernel
theorem dX6_letter_50 : decode cX6_letter 50 = .ok (.getfield 7, 3) := by decide +kernel
theorem dX6_letter_53 : decode cX6_letter 53 = .ok (.iload_n 3, 1) := by decide +kernel
theorem dX6_letter_54 : decode cX6_letter 54 = .ok (.iaload, 1) := by decide +kernel
theorem dX6_letter_55 : decode cX6_letter 55 = .ok (.aload_n 0, 1) := by decide +kernel
theorem dX6_letter_56 : decode cX6_letter 56 = .ok (.getfield 7, 3) := by decide +kernel
theorem dX6_letter_59 : decode cX6_letter 59 = .ok (.iload_n 2, 1) := by decide +kernel
theorem dX6_letter_60 : decode cX6_letter 60 = .ok (.iaload, 1) := by decide +kernel
theorem dX6_letter_61 : decode cX6_letter 61 = .ok (.invokestatic 93, 3) := by decide +kernel
theorem dX6_letter_64 : decode cX6_letter 64 = .ok (.ifCond .ne 7, 3) := by decide +kernel
theorem dX6_letter_67 : decode cX6_letter 67 = .ok (.iconst 1, 1) := by decide +kernel
theorem dX6_letter_68 : decode cX6_letter 68 = .ok (.goto 4, 3) := by decide +kernel
theorem dX6_letter_71 : decode cX6_letter 71 = .ok (.iconst 0, 1) := by decide +kernel
theorem dX6_letter_72 : decode cX6_letter 72 = .ok (.istore_n 1, 1) := by decide +kernel
theorem dX6_letter_73 : decode cX6_letter 73 = .ok (.iinc 3 1, 3) := by decide +kernel
theorem dX6_letter_76 : decode cX6_letter 76 = .ok (.goto (-36), 3) := by decide +kernel
theorem dX6_letter_79 : decode cX6_letter 79 = .ok (.iinc 2 1, 3) := by decide +kernel
theorem dX6_letter_82 : decode cX6_letter 82 = .ok (.goto (-52), 3) := by decide +kernel
theorem dX6_letter_85 : decode cX6_letter 85 = .ok (.aload_n 0, 1) := by decide +kernel
theorem dX6_letter_86 : decode cX6_letter 86 = .ok (.iload_n 1, 1) := by decide +kernel
theorem dX6_letter_87 : decode cX6_letter 87 = .ok (.invokevirtual 82, 3) := by decide +kernel
theorem dX6_letter_90 : decode cX6_letter 90 = .ok (.ifCond .ne 5, 3) := by decide +kernel
theorem dX6_letter_93 : decode cX6_letter 93 = .ok (.iconst 0, 1) := by decide +kernel
theorem dX6_letter_94 : decode cX6_letter 94 = .ok (.ireturn, 1) := by decide +kernel
theorem dX6_letter_95 : decode cX6_letter 95 = .ok (.iconst 0, 1) := by decide +kernel
theorem dX6_letter_96 : decode cX6_letter 96 = .ok (.istore_n 2, 1) := by decide +kernel
theorem dX6_letter_97 : decode cX6_letter 97 = .ok (.iload_n 2, 1) := by decide +kernel
theorem dX6_letter_98 : decode cX6_letter 98 = .ok (.aload_n 0, 1) := by decide +kernel
theorem dX6_letter_99 : decode cX6_letter 99 = .ok (.getfield 68, 3) := by decide +kernel
theorem dX6_letter_102 : decode cX6_letter 102 = .ok (.if_icmp .ge 29, 3) := by decide +kernel
theorem dX6_letter_105 : decode cX6_letter 105 = .ok (.aload_n 0, 1) := by decide +kernel
theorem dX6_letter_106 : decode cX6_letter 106 = .ok (.getfield 13, 3) := by decide +kernel
theorem dX6_letter_109 : decode cX6_letter 109 = .ok (.bipush 6, 2) := by decide +kernel
theorem dX6_letter_111 : decode cX6_letter 111 = .ok (.aload_n 0, 1) := by decide +kernel
theorem dX6_letter_112 : decode cX6_letter 112 = .ok (.getfield 90, 3) := by decide +kernel
theorem dX6_letter_115 : decode cX6_letter 115 = .ok (.imul, 1) := by decide +kernel
theorem dX6_letter_116 : decode cX6_letter 116 = .ok (.iload_n 2, 1) := by decide +kernel
theorem dX6_letter_117 : decode cX6_letter 117 = .ok (.iadd, 1) := by decide +kernel
theorem dX6_letter_118 : decode cX6_letter 118 = .ok (.aload_n 0, 1) := by decide +kernel
theorem dX6_letter_119 : decode cX6_letter 119 = .ok (.getfield 7, 3) := by decide +kernel
theorem dX6_letter_122 : decode cX6_letter 122 = .ok (.iload_n 2, 1) := by decide +kernel
theorem dX6_letter_123 : decode cX6_letter 123 = .ok (.iaload, 1) := by decide +kernel
theorem dX6_letter_124 : decode cX6_letter 124 = .ok (.iastore, 1) := by decide +kernel
theorem dX6_letter_125 : decode cX6_letter 125 = .ok (.iinc 2 1, 3) := by decide +kernel
theorem dX6_letter_128 : decode cX6_letter 128 = .ok (.goto (-31), 3) := by decide +kernel
theorem dX6_letter_131 : decode cX6_letter 131 = .ok (.aload_n 0, 1) := by decide +kernel
theorem dX6_letter_132 : decode cX6_letter 132 = .ok (.getfield 16, 3) := by decide +kernel
theorem dX6_letter_135 : decode cX6_letter 135 = .ok (.aload_n 0, 1) := by decide +kernel
theorem dX6_letter_136 : decode cX6_letter 136 = .ok (.getfield 90, 3) := by decide +kernel
theorem dX6_letter_139 : decode cX6_letter 139 = .ok (.aload_n 0, 1) := by decide +kernel
theorem dX6_letter_140 : decode cX6_letter 140 = .ok (.getfield 68, 3) := by decide +kernel
theorem dX6_letter_143 : decode cX6_letter 143 = .ok (.iastore, 1) := by decide +kernel
theorem dX6_letter_144 : decode cX6_letter 144 = .ok (.aload_n 0, 1) := by decide +kernel
theorem dX6_letter_145 : decode cX6_letter 145 = .ok (.iconst 0, 1) := by decide +kernel
theorem dX6_letter_146 : decode cX6_letter 146 = .ok (.putfield 68, 3) := by decide +kernel
theorem dX6_letter_149 : decode cX6_letter 149 = .ok (.aload_n 0, 1) := by decide +kernel
theorem dX6_letter_150 : decode cX6_letter 150 = .ok (.dup, 1) := by decide +kernel
theorem dX6_letter_151 : decode cX6_letter 151 = .ok (.getfield 90, 3) := by decide +kernel
theorem dX6_letter_154 : decode cX6_letter 154 = .ok (.iconst 1, 1) := by decide +kernel
theorem dX6_letter_155 : decode cX6_letter 155 = .ok (.iadd, 1) := by decide +kernel
theorem dX6_letter_156 : decode cX6_letter 156 = .ok (.putfield 90, 3) := by decide +kernel
theorem dX6_letter_159 : decode cX6_letter 159 = .ok (.aload_n 0, 1) := by decide +kernel
theorem dX6_letter_160 : decode cX6_letter 160 = .ok (.getfield 90, 3) := by decide +kernel
theorem dX6_letter_163 : decode cX6_letter 163 = .ok (.iconst 1, 1) := by decide +kernel
theorem dX6_letter_164 : decode cX6_letter 164 = .ok (.isub, 1) := by decide +kernel
theorem dX6_letter_165 : decode cX6_letter 165 = .ok (.ireturn, 1) := by decide +kernel
set_option maxRecDepth 20000 in
theorem ggX6_isLetter_X6_in : GoodIn wsX6_isLetter wsX6_in := goodIn_r _ [5] (by decide +kernel) (by decide +kernel)
set_option maxRecDepth 20000 in
theorem gX6_isLetter_X6_in : GoodIn wsX6_isLetter (va_wsS RX6 78 yX6_in wsX6_in) := goodIn_app (goodIn_of _ (by decide +kernel)) ggX6_isLetter_X6_in
theorem dX6_isLetter_0 : decode cX6_isLetter 0 = .ok (.iload_n 1, 1) := by decide +kernel
theorem dX6_isLetter_1 : decode cX6_isLetter 1 = .ok (.iconst 0, 1) := by decide +kernel
theorem dX6_isLetter_2 : decode cX6_isLetter 2 = .ok (.aload_n 0, 1) := by decide +kernel
theorem dX6_isLetter_3 : decode cX6_isLetter 3 = .ok (.getfield 90, 3) := by decide +kernel
theorem dX6_isLetter_6 : decode cX6_isLetter 6 = .ok (.iconst 1, 1) := by decide +kernel
theorem dX6_isLetter_7 : decode cX6_isLetter 7 = .ok (.isub, 1) := by decide +kernel
theorem dX6_isLetter_8 : decode cX6_isLetter 8 = .ok (.invokestatic 78, 3) := by decide +kernel
theorem dX6_isLetter_11 : decode cX6_isLetter 11 = .ok (.ireturn, 1) := by decide +kernel
set_option maxRecDepth 20000 in
theorem ggX6_strokeOf_X6_isLetter : GoodIn wsX6_strokeOf wsX6_isLetter := goodIn_r _ [7, 8, 9, 10, 6, 11, 17, 18, 19, 20, 21, 22, 23, 24, 25, 26, 27, 28, 29, 30, 31, 32, 33, 34, 35, 36, 37, 38, 39, 40] (by decide +kernel) (by decide +kernel)
set_option maxRecDepth 20000 in
theorem gX6_strokeOf_X6_isLetter : GoodIn wsX6_strokeOf (wsV RX6 97 RX6 yX6_isLetter wsX6_isLetter) := goodIn_app (goodIn_of _ (by decide +kernel)) ggX6_strokeOf_X6_isLetter
set_option maxRecDepth 20000 in
theorem ggX6_strokeOf_X6_asks : GoodIn wsX6_strokeOf wsX6_asks := goodIn_r _ [15, 16, 17, 18, 19, 20, 21, 22, 23, 24, 25, 26, 27, 28, 29, 30, 31, 32, 33, 34, 35, 36, 37, 38, 39, 40] (by decide +kernel) (by decide +kernel)
set_option maxRecDepth 20000 in
theorem gX6_strokeOf_X6_asks : GoodIn wsX6_strokeOf (wsV RX6 82 RX6 yX6_asks wsX6_asks) := goodIn_app (goodIn_of _ (by decide +kernel)) ggX6_strokeOf_X6_asks
theorem dX6_strokeOf_0 : decode cX6_strokeOf 0 = .ok (.aload_n 0, 1) := by decide +kernel
theorem dX6_strokeOf_1 : decode cX6_strokeOf 1 = .ok (.aload_n 0, 1) := by decide +kernel
theorem dX6_strokeOf_2 : decode cX6_strokeOf 2 = .ok (.iload_n 1, 1) := by decide +kernel
theorem dX6_strokeOf_3 : decode cX6_strokeOf 3 = .ok (.invokevirtual 97, 3) := by decide +kernel
theorem dX6_strokeOf_6 : decode cX6_strokeOf 6 = .ok (.ifCond .eq 11, 3) := by decide +kernel
theorem dX6_strokeOf_9 : decode cX6_strokeOf 9 = .ok (.iload_n 2, 1) := by decide +kernel
theorem dX6_strokeOf_10 : decode cX6_strokeOf 10 = .ok (.ifCond .lt 7, 3) := by decide +kernel
theorem dX6_strokeOf_13 : decode cX6_strokeOf 13 = .ok (.iconst 1, 1) := by decide +kernel
theorem dX6_strokeOf_14 : decode cX6_strokeOf 14 = .ok (.goto 4, 3) := by decide +kernel
theorem dX6_strokeOf_17 : decode cX6_strokeOf 17 = .ok (.iconst 0, 1) := by decide +kernel
theorem dX6_strokeOf_18 : decode cX6_strokeOf 18 = .ok (.invokevirtual 82, 3) := by decide +kernel
theorem dX6_strokeOf_21 : decode cX6_strokeOf 21 = .ok (.ifCond .ne 5, 3) := by decide +kernel
theorem dX6_strokeOf_24 : decode cX6_strokeOf 24 = .ok (.iconst 0, 1) := by decide +kernel
theorem dX6_strokeOf_25 : decode cX6_strokeOf 25 = .ok (.ireturn, 1) := by decide +kernel
theorem dX6_strokeOf_26 : decode cX6_strokeOf 26 = .ok (.iload_n 2, 1) := by decide +kernel
theorem dX6_strokeOf_27 : decode cX6_strokeOf 27 = .ok (.aload_n 0, 1) := by decide +kernel
theorem dX6_strokeOf_28 : decode cX6_strokeOf 28 = .ok (.getfield 16, 3) := by decide +kernel
theorem dX6_strokeOf_31 : decode cX6_strokeOf 31 = .ok (.iload_n 1, 1) := by decide +kernel
theorem dX6_strokeOf_32 : decode cX6_strokeOf 32 = .ok (.iaload, 1) := by decide +kernel
theorem dX6_strokeOf_33 : decode cX6_strokeOf 33 = .ok (.if_icmp .ge 17, 3) := by decide +kernel
theorem dX6_strokeOf_36 : decode cX6_strokeOf 36 = .ok (.aload_n 0, 1) := by decide +kernel
theorem dX6_strokeOf_37 : decode cX6_strokeOf 37 = .ok (.getfield 13, 3) := by decide +kernel
theorem dX6_strokeOf_40 : decode cX6_strokeOf 40 = .ok (.bipush 6, 2) := by decide +kernel
theorem dX6_strokeOf_42 : decode cX6_strokeOf 42 = .ok (.iload_n 1, 1) := by decide +kernel
theorem dX6_strokeOf_43 : decode cX6_strokeOf 43 = .ok (.imul, 1) := by decide +kernel
theorem dX6_strokeOf_44 : decode cX6_strokeOf 44 = .ok (.iload_n 2, 1) := by decide +kernel
theorem dX6_strokeOf_45 : decode cX6_strokeOf 45 = .ok (.iadd, 1) := by decide +kernel
theorem dX6_strokeOf_46 : decode cX6_strokeOf 46 = .ok (.iaload, 1) := by decide +kernel
theorem dX6_strokeOf_47 : decode cX6_strokeOf 47 = .ok (.goto 4, 3) := by decide +kernel
theorem dX6_strokeOf_50 : decode cX6_strokeOf 50 = .ok (.iconst (-1), 1) := by decide +kernel
theorem dX6_strokeOf_51 : decode cX6_strokeOf 51 = .ok (.ireturn, 1) := by decide +kernel
set_option maxRecDepth 20000 in
theorem ggX6_pupil_X6_in : GoodIn wsX6_pupil wsX6_in := goodIn_r _ [8] (by decide +kernel) (by decide +kernel)
set_option maxRecDepth 20000 in
theorem gX6_pupil_X6_in : GoodIn wsX6_pupil (va_wsS RX6 78 yX6_in wsX6_in) := goodIn_app (goodIn_of _ (by decide +kernel)) ggX6_pupil_X6_in
set_option maxRecDepth 20000 in
theorem ggX6_pupil_X6_asks : GoodIn wsX6_pupil wsX6_asks := goodIn_r _ [12, 13, 18, 19, 20, 21, 22, 23, 24, 25, 26, 27, 28, 29, 30, 31, 32, 33, 34, 35, 36, 37, 38, 39, 40, 41] (by decide +kernel) (by decide +kernel)
set_option maxRecDepth 20000 in
theorem gX6_pupil_X6_asks : GoodIn wsX6_pupil (wsV RX6 82 RX6 yX6_asks wsX6_asks) := goodIn_app (goodIn_of _ (by decide +kernel)) ggX6_pupil_X6_asks
set_option maxRecDepth 20000 in
theorem ggX6_pupil_X6_fails : GoodIn wsX6_pupil wsX6_fails := goodIn_r _ [17, 13, 18, 19, 20, 21, 22, 23, 24, 25, 26, 27, 28, 29, 30, 31, 32, 33, 34, 35, 36, 37, 38, 39, 40, 41] (by decide +kernel) (by decide +kernel)
set_option maxRecDepth 20000 in
theorem gX6_pupil_X6_fails : GoodIn wsX6_pupil (wsV RX6 86 RX6 yX6_fails wsX6_fails) := goodIn_app (goodIn_of _ (by decide +kernel)) ggX6_pupil_X6_fails
theorem dX6_pupil_0 : decode cX6_pupil 0 = .ok (.aload_n 0, 1) := by decide +kernel
theorem dX6_pupil_1 : decode cX6_pupil 1 = .ok (.iload_n 1, 1) := by decide +kernel
theorem dX6_pupil_2 : decode cX6_pupil 2 = .ok (.iconst 0, 1) := by decide +kernel
theorem dX6_pupil_3 : decode cX6_pupil 3 = .ok (.iconst 3, 1) := by decide +kernel
theorem dX6_pupil_4 : decode cX6_pupil 4 = .ok (.invokestatic 78, 3) := by decide +kernel
theorem dX6_pupil_7 : decode cX6_pupil 7 = .ok (.invokevirtual 82, 3) := by decide +kernel
theorem dX6_pupil_10 : decode cX6_pupil 10 = .ok (.ifCond .ne 5, 3) := by decide +kernel
theorem dX6_pupil_13 : decode cX6_pupil 13 = .ok (.iconst 0, 1) := by decide +kernel
theorem dX6_pupil_14 : decode cX6_pupil 14 = .ok (.ireturn, 1) := by decide +kernel
theorem dX6_pupil_15 : decode cX6_pupil 15 = .ok (.iload_n 2, 1) := by decide +kernel
theorem dX6_pupil_16 : decode cX6_pupil 16 = .ok (.iconst 5, 1) := by decide +kernel
theorem dX6_pupil_17 : decode cX6_pupil 17 = .ok (.bipush 16, 2) := by decide +kernel
theorem dX6_pupil_19 : decode cX6_pupil 19 = .ok (.invokestatic 78, 3) := by decide +kernel
theorem dX6_pupil_22 : decode cX6_pupil 22 = .ok (.ifCond .ne 9, 3) := by decide +kernel
theorem dX6_pupil_25 : decode cX6_pupil 25 = .ok (.aload_n 0, 1) := by decide +kernel
theorem dX6_pupil_26 : decode cX6_pupil 26 = .ok (.iconst 2, 1) := by decide +kernel
theorem dX6_pupil_27 : decode cX6_pupil 27 = .ok (.invokevirtual 86, 3) := by decide +kernel
theorem dX6_pupil_30 : decode cX6_pupil 30 = .ok (.ireturn, 1) := by decide +kernel
theorem dX6_pupil_31 : decode cX6_pupil 31 = .ok (.aload_n 0, 1) := by decide +kernel
theorem dX6_pupil_32 : decode cX6_pupil 32 = .ok (.getfield 101, 3) := by decide +kernel
theorem dX6_pupil_35 : decode cX6_pupil 35 = .ok (.bipush 20, 2) := by decide +kernel
theorem dX6_pupil_37 : decode cX6_pupil 37 = .ok (.if_icmp .ne 9, 3) := by decide +kernel
theorem dX6_pupil_40 : decode cX6_pupil 40 = .ok (.aload_n 0, 1) := by decide +kernel
theorem dX6_pupil_41 : decode cX6_pupil 41 = .ok (.iconst 3, 1) := by decide +kernel
theorem dX6_pupil_42 : decode cX6_pupil 42 = .ok (.invokevirtual 86, 3) := by decide +kernel
theorem dX6_pupil_45 : decode cX6_pupil 45 = .ok (.ireturn, 1) := by decide +kernel
theorem dX6_pupil_46 : decode cX6_pupil 46 = .ok (.aload_n 0, 1) := by decide +kernel
theorem dX6_pupil_47 : decode cX6_pupil 47 = .ok (.getfield 19, 3) := by decide +kernel
theorem dX6_pupil_50 : decode cX6_pupil 50 = .ok (.aload_n 0, 1) := by decide +kernel
theorem dX6_pupil_51 : decode cX6_pupil 51 = .ok (.getfield 101, 3) := by decide +kernel
theorem dX6_pupil_54 : decode cX6_pupil 54 = .ok (.iload_n 1, 1) := by decide +kernel
theorem dX6_pupil_55 : decode cX6_pupil 55 = .ok (.iastore, 1) := by decide +kernel
theorem dX6_pupil_56 : decode cX6_pupil 56 = .ok (.aload_n 0, 1) := by decide +kernel
theorem dX6_pupil_57 : decode cX6_pupil 57 = .ok (.getfield 22, 3) := by decide +kernel
theorem dX6_pupil_60 : decode cX6_pupil 60 = .ok (.aload_n 0, 1) := by decide +kernel
theorem dX6_pupil_61 : decode cX6_pupil 61 = .ok (.getfield 101, 3) := by decide +kernel
theorem dX6_pupil_64 : decode cX6_pupil 64 = .ok (.iload_n 2, 1) := by decide +kernel
theorem dX6_pupil_65 : decode cX6_pupil 65 = .ok (.iastore, 1) := by decide +kernel
theorem dX6_pupil_66 : decode cX6_pupil 66 = .ok (.aload_n 0, 1) := by decide +kernel
theorem dX6_pupil_67 : decode cX6_pupil 67 = .ok (.getfield 25, 3) := by decide +kernel
theorem dX6_pupil_70 : decode cX6_pupil 70 = .ok (.aload_n 0, 1) := by decide +kernel
theorem dX6_pupil_71 : decode cX6_pupil 71 = .ok (.getfield 101, 3) := by decide +kernel
theorem dX6_pupil_74 : decode cX6_pupil 74 = .ok (.iload_n 3, 1) := by decide +kernel
theorem dX6_pupil_75 : decode cX6_pupil 75 = .ok (.bastore, 1) := by decide +kernel
theorem dX6_pupil_76 : decode cX6_pupil 76 = .ok (.aload_n 0, 1) := by decide +kernel
theorem dX6_pupil_77 : decode cX6_pupil 77 = .ok (.dup, 1) := by decide +kernel
theorem dX6_pupil_78 : decode cX6_pupil 78 = .ok (.getfield 101, 3) := by decide +kernel
theorem dX6_pupil_81 : decode cX6_pupil 81 = .ok (.iconst 1, 1) := by decide +kernel
theorem dX6_pupil_82 : decode cX6_pupil 82 = .ok (.iadd, 1) := by decide +kernel
theorem dX6_pupil_83 : decode cX6_pupil 83 = .ok (.putfield 101, 3) := by decide +kernel
theorem dX6_pupil_86 : decode cX6_pupil 86 = .ok (.aload_n 0, 1) := by decide +kernel
theorem dX6_pupil_87 : decode cX6_pupil 87 = .ok (.getfield 101, 3) := by decide +kernel
theorem dX6_pupil_90 : decode cX6_pupil 90 = .ok (.iconst 1, 1) := by decide +kernel
theorem dX6_pupil_91 : decode cX6_pupil 91 = .ok (.isub, 1) := by decide +kernel
theorem dX6_pupil_92 : decode cX6_pupil 92 = .ok (.ireturn, 1) := by decide +kernel
theorem dX6_stack_0 : decode cX6_stack 0 = .ok (.iload_n 1, 1) := by decide +kernel
theorem dX6_stack_1 : decode cX6_stack 1 = .ok (.ifCond .eq 9, 3) := by decide +kernel
theorem dX6_stack_4 : decode cX6_stack 4 = .ok (.iconst 3, 1) := by decide +kernel
theorem dX6_stack_5 : decode cX6_stack 5 = .ok (.iload_n 0, 1) := by decide +kernel
theorem dX6_stack_6 : decode cX6_stack 6 = .ok (.iadd, 1) := by decide +kernel
theorem dX6_stack_7 : decode cX6_stack 7 = .ok (.goto 4, 3) := by decide +kernel
theorem dX6_stack_10 : decode cX6_stack 10 = .ok (.iload_n 0, 1) := by decide +kernel
theorem dX6_stack_11 : decode cX6_stack 11 = .ok (.ireturn, 1) := by decide +kernel
set_option maxRecDepth 20000 in
theorem ggX6_isBand_X6_in : GoodIn wsX6_isBand wsX6_in := goodIn_r _ [4] (by decide +kernel) (by decide +kernel)
set_option maxRecDepth 20000 in
theorem gX6_isBand_X6_in : GoodIn wsX6_isBand (va_wsS RX6 78 yX6_in wsX6_in) := goodIn_app (goodIn_of _ (by decide +kernel)) ggX6_isBand_X6_in
theorem dX6_isBand_0 : decode cX6_isBand 0 = .ok (.iload_n 0, 1) := by decide +kernel
theorem dX6_isBand_1 : decode cX6_isBand 1 = .ok (.iconst 0, 1) := by decide +kernel
theorem dX6_isBand_2 : decode cX6_isBand 2 = .ok (.iconst 2, 1) := by decide +kernel
theorem dX6_isBand_3 : decode cX6_isBand 3 = .ok (.invokestatic 78, 3) := by decide +kernel
theorem dX6_isBand_6 : decode cX6_isBand 6 = .ok (.ireturn, 1) := by decide +kernel
set_option maxRecDepth 20000 in
theorem ggX6_print_X6_isBand : GoodIn wsX6_print wsX6_isBand := goodIn_r _ [5, 6, 7, 4, 8] (by decide +kernel) (by decide +kernel)
set_option maxRecDepth 20000 in
theorem gX6_print_X6_isBand : GoodIn wsX6_print (va_wsS RX6 104 yX6_isBand wsX6_isBand) := goodIn_app (goodIn_of _ (by decide +kernel)) ggX6_print_X6_isBand
set_option maxRecDepth 20000 in
theorem ggX6_print_X6_asks : GoodIn wsX6_print wsX6_asks := goodIn_r _ [12, 13, 21, 22, 23, 24, 25, 26, 27, 28, 29, 30, 31, 32, 33, 34, 35, 36, 37, 38, 39, 40, 41, 42, 43, 44] (by decide +kernel) (by decide +kernel)
set_option maxRecDepth 20000 in
theorem gX6_print_X6_asks : GoodIn wsX6_print (wsV RX6 82 RX6 yX6_asks wsX6_asks) := goodIn_app (goodIn_of _ (by decide +kernel)) ggX6_print_X6_asks
set_option maxRecDepth 20000 in
theorem ggX6_print_X6_in : GoodIn wsX6_print wsX6_in := goodIn_r _ [8] (by decide +kernel) (by decide +kernel)
set_option maxRecDepth 20000 in
theorem gX6_print_X6_in : GoodIn wsX6_print (va_wsS RX6 78 yX6_in wsX6_in) := goodIn_app (goodIn_of _ (by decide +kernel)) ggX6_print_X6_in
set_option maxRecDepth 20000 in
theorem ggX6_print_X6_fails : GoodIn wsX6_print wsX6_fails := goodIn_r _ [17, 13, 21, 22, 23, 24, 25, 26, 27, 28, 29, 30, 31, 32, 33, 34, 35, 36, 37, 38, 39, 40, 41, 42, 43, 44] (by decide +kernel) (by decide +kernel)
set_option maxRecDepth 20000 in
theorem gX6_print_X6_fails : GoodIn wsX6_print (wsV RX6 86 RX6 yX6_fails wsX6_fails) := goodIn_app (goodIn_of _ (by decide +kernel)) ggX6_print_X6_fails
set_option maxRecDepth 20000 in
theorem ggX6_print_X6_stack : GoodIn wsX6_print wsX6_stack := goodIn_r _ [20] (by decide +kernel) (by decide +kernel)
set_option maxRecDepth 20000 in
theorem gX6_print_X6_stack : GoodIn wsX6_print (va_wsS RX6 107 yX6_stack wsX6_stack) := goodIn_app (goodIn_of _ (by decide +kernel)) ggX6_print_X6_stack
theorem dX6_print_0 : decode cX6_print 0 = .ok (.aload_n 0, 1) := by decide +kernel
theorem dX6_print_1 : decode cX6_print 1 = .ok (.iload_n 1, 1) := by decide +kernel
theorem dX6_print_2 : decode cX6_print 2 = .ok (.invokestatic 104, 3) := by decide +kernel
theorem dX6_print_5 : decode cX6_print 5 = .ok (.invokevirtual 82, 3) := by decide +kernel
theorem dX6_print_8 : decode cX6_print 8 = .ok (.ifCond .ne 5, 3) := by decide +kernel
theorem dX6_print_11 : decode cX6_print 11 = .ok (.iconst 0, 1) := by decide +kernel
theorem dX6_print_12 : decode cX6_print 12 = .ok (.ireturn, 1) := by decide +kernel
theorem dX6_print_13 : decode cX6_print 13 = .ok (.iload_n 3, 1) := by decide +kernel
theorem dX6_print_14 : decode cX6_print 14 = .ok (.iconst 1, 1) := by decide +kernel
theorem dX6_print_15 : decode cX6_print 15 = .ok (.bipush 50, 2) := by decide +kernel
theorem dX6_print_17 : decode cX6_print 17 = .ok (.invokestatic 78, 3) := by decide +kernel
theorem dX6_print_20 : decode cX6_print 20 = .ok (.ifCond .ne 9, 3) := by decide +kernel
theorem dX6_print_23 : decode cX6_print 23 = .ok (.aload_n 0, 1) := by decide +kernel
theorem dX6_print_24 : decode cX6_print 24 = .ok (.iconst 2, 1) := by decide +kernel
theorem dX6_print_25 : decode cX6_print 25 = .ok (.invokevirtual 86, 3) := by decide +kernel
theorem dX6_print_28 : decode cX6_print 28 = .ok (.ireturn, 1) := by decide +kernel
theorem dX6_print_29 : decode cX6_print 29 = .ok (.aload_n 0, 1) := by decide +kernel
theorem dX6_print_30 : decode cX6_print 30 = .ok (.getfield 29, 3) := by decide +kernel
theorem dX6_print_33 : decode cX6_print 33 = .ok (.iload_n 1, 1) := by decide +kernel
theorem dX6_print_34 : decode cX6_print 34 = .ok (.iload_n 2, 1) := by decide +kernel
theorem dX6_print_35 : decode cX6_print 35 = .ok (.invokestatic 107, 3) := by decide +kernel
theorem dX6_print_38 : decode cX6_print 38 = .ok (.dup2, 1) := by decide +kernel
theorem dX6_print_39 : decode cX6_print 39 = .ok (.iaload, 1) := by decide +kernel
theorem dX6_print_40 : decode cX6_print 40 = .ok (.iload_n 3, 1) := by decide +kernel
theorem dX6_print_41 : decode cX6_print 41 = .ok (.iadd, 1) := by decide +kernel
theorem dX6_print_42 : decode cX6_print 42 = .ok (.iastore, 1) := by decide +kernel
theorem dX6_print_43 : decode cX6_print 43 = .ok (.aload_n 0, 1) := by decide +kernel
theorem dX6_print_44 : decode cX6_print 44 = .ok (.getfield 29, 3) := by decide +kernel
theorem dX6_print_47 : decode cX6_print 47 = .ok (.iload_n 1, 1) := by decide +kernel
theorem dX6_print_48 : decode cX6_print 48 = .ok (.iload_n 2, 1) := by decide +kernel
theorem dX6_print_49 : decode cX6_print 49 = .ok (.invokestatic 107, 3) := by decide +kernel
theorem dX6_print_52 : decode cX6_print 52 = .ok (.iaload, 1) := by decide +kernel
theorem dX6_print_53 : decode cX6_print 53 = .ok (.ireturn, 1) := by decide +kernel
set_option maxRecDepth 20000 in
theorem ggX6_sheets_X6_isBand : GoodIn wsX6_sheets wsX6_isBand := goodIn_r _ [5, 6, 7, 4, 8] (by decide +kernel) (by decide +kernel)
set_option maxRecDepth 20000 in
theorem gX6_sheets_X6_isBand : GoodIn wsX6_sheets (va_wsS RX6 104 yX6_isBand wsX6_isBand) := goodIn_app (goodIn_of _ (by decide +kernel)) ggX6_sheets_X6_isBand
set_option maxRecDepth 20000 in
theorem ggX6_sheets_X6_asks : GoodIn wsX6_sheets wsX6_asks := goodIn_r _ [12, 13, 17, 18, 19, 20, 21, 22, 23, 24, 25, 26, 27, 28, 29, 30, 31, 32, 33, 34, 35, 36, 37, 38, 39, 40] (by decide +kernel) (by decide +kernel)
set_option maxRecDepth 20000 in
theorem gX6_sheets_X6_asks : GoodIn wsX6_sheets (wsV RX6 82 RX6 yX6_asks wsX6_asks) := goodIn_app (goodIn_of _ (by decide +kernel)) ggX6_sheets_X6_asks
set_option maxRecDepth 20000 in
theorem ggX6_sheets_X6_stack : GoodIn wsX6_sheets wsX6_stack := goodIn_r _ [16] (by decide +kernel) (by decide +kernel)
set_option maxRecDepth 20000 in
theorem gX6_sheets_X6_stack : GoodIn wsX6_sheets (va_wsS RX6 107 yX6_stack wsX6_stack) := goodIn_app (goodIn_of _ (by decide +kernel)) ggX6_sheets_X6_stack
theorem dX6_sheets_0 : decode cX6_sheets 0 = .ok (.aload_n 0, 1) := by decide +kernel
theorem dX6_sheets_1 : decode cX6_sheets 1 = .ok (.iload_n 1, 1) := by decide +kernel
theorem dX6_sheets_2 : decode cX6_sheets 2 = .ok (.invokestatic 104, 3) := by decide +kernel
theorem dX6_sheets_5 : decode cX6_sheets 5 = .ok (.invokevirtual 82, 3) := by decide +kernel
theorem dX6_sheets_8 : decode cX6_sheets 8 = .ok (.ifCond .eq 16, 3) := by decide +kernel
theorem dX6_sheets_11 : decode cX6_sheets 11 = .ok (.aload_n 0, 1) := by decide +kernel
theorem dX6_sheets_12 : decode cX6_sheets 12 = .ok (.getfield 29, 3) := by decide +kernel
theorem dX6_sheets_15 : decode cX6_sheets 15 = .ok (.iload_n 1, 1) := by decide +kernel
theorem dX6_sheets_16 : decode cX6_sheets 16 = .ok (.iload_n 2, 1) := by decide +kernel
theorem dX6_sheets_17 : decode cX6_sheets 17 = .ok (.invokestatic 107, 3) := by decide +kernel
theorem dX6_sheets_20 : decode cX6_sheets 20 = .ok (.iaload, 1) := by decide +kernel
theorem dX6_sheets_21 : decode cX6_sheets 21 = .ok (.goto 4, 3) := by decide +kernel
theorem dX6_sheets_24 : decode cX6_sheets 24 = .ok (.iconst 0, 1) := by decide +kernel
theorem dX6_sheets_25 : decode cX6_sheets 25 = .ok (.ireturn, 1) := by decide +kernel
theorem dX6_bandOf_0 : decode cX6_bandOf 0 = .ok (.aload_n 0, 1) := by decide +kernel
theorem dX6_bandOf_1 : decode cX6_bandOf 1 = .ok (.getfield 22, 3) := by decide +kernel
theorem dX6_bandOf_4 : decode cX6_bandOf 4 = .ok (.iload_n 1, 1) := by decide +kernel
theorem dX6_bandOf_5 : decode cX6_bandOf 5 = .ok (.iaload, 1) := by decide +kernel
theorem dX6_bandOf_6 : decode cX6_bandOf 6 = .ok (.bipush 8, 2) := by decide +kernel
theorem dX6_bandOf_8 : decode cX6_bandOf 8 = .ok (.if_icmp .ge 7, 3) := by decide +kernel
theorem dX6_bandOf_11 : decode cX6_bandOf 11 = .ok (.iconst 0, 1) := by decide +kernel
theorem dX6_bandOf_12 : decode cX6_bandOf 12 = .ok (.goto 19, 3) := by decide +kernel
theorem dX6_bandOf_15 : decode cX6_bandOf 15 = .ok (.aload_n 0, 1) := by decide +kernel
theorem dX6_bandOf_16 : decode cX6_bandOf 16 = .ok (.getfield 22, 3) := by decide +kernel
theorem dX6_bandOf_19 : decode cX6_bandOf 19 = .ok (.iload_n 1, 1) := by decide +kernel
theorem dX6_bandOf_20 : decode cX6_bandOf 20 = .ok (.iaload, 1) := by decide +kernel
theorem dX6_bandOf_21 : decode cX6_bandOf 21 = .ok (.bipush 12, 2) := by decide +kernel
theorem dX6_bandOf_23 : decode cX6_bandOf 23 = .ok (.if_icmp .ge 7, 3) := by decide +kernel
theorem dX6_bandOf_26 : decode cX6_bandOf 26 = .ok (.iconst 1, 1) := by decide +kernel
theorem dX6_bandOf_27 : decode cX6_bandOf 27 = .ok (.goto 4, 3) := by decide +kernel
theorem dX6_bandOf_30 : decode cX6_bandOf 30 = .ok (.iconst 2, 1) := by decide +kernel
theorem dX6_bandOf_31 : decode cX6_bandOf 31 = .ok (.ireturn, 1) := by decide +kernel
set_option maxRecDepth 20000 in
theorem ggX6_write_X6_in : GoodIn wsX6_write wsX6_in := goodIn_r _ [15] (by decide +kernel) (by decide +kernel)
set_option maxRecDepth 20000 in
theorem gX6_write_X6_in : GoodIn wsX6_write (va_wsS RX6 78 yX6_in wsX6_in) := goodIn_app (goodIn_of _ (by decide +kernel)) ggX6_write_X6_in
set_option maxRecDepth 20000 in
theorem ggX6_write_X6_isLetter : GoodIn wsX6_write wsX6_isLetter := goodIn_r _ [19, 20, 12, 13, 14, 15, 38, 39, 40, 41, 42, 43, 44, 45, 46, 47, 48, 49, 50, 51, 52, 53, 54, 55, 56, 57, 58, 59, 60, 61] (by decide +kernel) (by decide +kernel)
set_option maxRecDepth 20000 in
theorem gX6_write_X6_isLetter : GoodIn wsX6_write (wsV RX6 97 RX6 yX6_isLetter wsX6_isLetter) := goodIn_app (goodIn_of _ (by decide +kernel)) ggX6_write_X6_isLetter
set_option maxRecDepth 20000 in
theorem ggX6_write_X6_asks : GoodIn wsX6_write wsX6_asks := goodIn_r _ [24, 25, 38, 39, 40, 41, 42, 43, 44, 45, 46, 47, 48, 49, 50, 51, 52, 53, 54, 55, 56, 57, 58, 59, 60, 61] (by decide +kernel) (by decide +kernel)
set_option maxRecDepth 20000 in
theorem gX6_write_X6_asks : GoodIn wsX6_write (wsV RX6 82 RX6 yX6_asks wsX6_asks) := goodIn_app (goodIn_of _ (by decide +kernel)) ggX6_write_X6_asks
set_option maxRecDepth 20000 in
theorem ggX6_write_X6_bandOf : GoodIn wsX6_write wsX6_bandOf := goodIn_r _ [29, 30, 38, 39, 40, 41, 42, 43, 44, 45, 46, 47, 48, 49, 50, 51, 52, 53, 54, 55, 56, 57, 58, 59, 60, 61] (by decide +kernel) (by decide +kernel)
set_option maxRecDepth 20000 in
theorem gX6_write_X6_bandOf : GoodIn wsX6_write (wsV RX6 111 RX6 yX6_bandOf wsX6_bandOf) := goodIn_app (goodIn_of _ (by decide +kernel)) ggX6_write_X6_bandOf
set_option maxRecDepth 20000 in
theorem ggX6_write_X6_stack : GoodIn wsX6_write wsX6_stack := goodIn_r _ [33] (by decide +kernel) (by decide +kernel)
set_option maxRecDepth 20000 in
theorem gX6_write_X6_stack : GoodIn wsX6_write (va_wsS RX6 107 yX6_stack wsX6_stack) := goodIn_app (goodIn_of _ (by decide +kernel)) ggX6_write_X6_stack
set_option maxRecDepth 20000 in
theorem ggX6_write_X6_fails : GoodIn wsX6_write wsX6_fails := goodIn_r _ [37, 25, 38, 39, 40, 41, 42, 43, 44, 45, 46, 47, 48, 49, 50, 51, 52, 53, 54, 55, 56, 57, 58, 59, 60, 61] (by decide +kernel) (by decide +kernel)
set_option maxRecDepth 20000 in
theorem gX6_write_X6_fails : GoodIn wsX6_write (wsV RX6 86 RX6 yX6_fails wsX6_fails) := goodIn_app (goodIn_of _ (by decide +kernel)) ggX6_write_X6_fails
theorem dX6_write_0 : decode cX6_write 0 = .ok (.aload_n 0, 1) := by decide +kernel
theorem dX6_write_1 : decode cX6_write 1 = .ok (.iload_n 1, 1) := by decide +kernel
theorem dX6_write_2 : decode cX6_write 2 = .ok (.iconst 0, 1) := by decide +kernel
theorem dX6_write_3 : decode cX6_write 3 = .ok (.aload_n 0, 1) := by decide +kernel
theorem dX6_write_4 : decode cX6_write 4 = .ok (.getfield 101, 3) := by decide +kernel
theorem dX6_write_7 : decode cX6_write 7 = .ok (.iconst 1, 1) := by decide +kernel
theorem dX6_write_8 : decode cX6_write 8 = .ok (.isub, 1) := by decide +kernel
theorem dX6_write_9 : decode cX6_write 9 = .ok (.invokestatic 78, 3) := by decide +kernel
theorem dX6_write_12 : decode cX6_write 12 = .ok (.ifCond .eq 15, 3) := by decide +kernel
theorem dX6_write_15 : decode cX6_write 15 = .ok (.aload_n 0, 1) := by decide +kernel
theorem dX6_write_16 : decode cX6_write 16 = .ok (.iload_n 2, 1) := by decide +kernel
theorem dX6_write_17 : decode cX6_write 17 = .ok (.invokevirtual 97, 3) := by decide +kernel
theorem dX6_write_20 : decode cX6_write 20 = .ok (.ifCond .eq 7, 3) := by decide +kernel
theorem dX6_write_23 : decode cX6_write 23 = .ok (.iconst 1, 1) := by decide +kernel
theorem dX6_write_24 : decode cX6_write 24 = .ok (.goto 4, 3) := by decide +kernel
theorem dX6_write_27 : decode cX6_write 27 = .ok (.iconst 0, 1) := by decide +kernel
theorem dX6_write_28 : decode cX6_write 28 = .ok (.invokevirtual 82, 3) := by decide +kernel
theorem dX6_write_31 : decode cX6_write 31 = .ok (.ifCond .ne 5, 3) := by decide +kernel
theorem dX6_write_34 : decode cX6_write 34 = .ok (.iconst 0, 1) := by decide +kernel
theorem dX6_write_35 : decode cX6_write 35 = .ok (.ireturn, 1) := by decide +kernel
theorem dX6_write_36 : decode cX6_write 36 = .ok (.aload_n 0, 1) := by decide +kernel
theorem dX6_write_37 : decode cX6_write 37 = .ok (.iload_n 1, 1) := by decide +kernel
theorem dX6_write_38 : decode cX6_write 38 = .ok (.invokevirtual 111, 3) := by decide +kernel
theorem dX6_write_41 : decode cX6_write 41 = .ok (.istore_n 3, 1) := by decide +kernel
theorem dX6_write_42 : decode cX6_write 42 = .ok (.iload_n 3, 1) := by decide +kernel
theorem dX6_write_43 : decode cX6_write 43 = .ok (.ifCond .lt 27, 3) := by decide +kernel
theorem dX6_write_46 : decode cX6_write 46 = .ok (.aload_n 0, 1) := by decide +kernel
theorem dX6_write_47 : decode cX6_write 47 = .ok (.getfield 29, 3) := by decide +kernel
theorem dX6_write_50 : decode cX6_write 50 = .ok (.iload_n 3, 1) := by decide +kernel
theorem dX6_write_51 : decode cX6_write 51 = .ok (.aload_n 0, 1) := by decide +kernel
theorem dX6_write_52 : decode cX6_write 52 = .ok (.getfield 25, 3) := by decide +kernel
theorem dX6_write_55 : decode cX6_write 55 = .ok (.iload_n 1, 1) := by decide +kernel
theorem dX6_write_56 : decode cX6_write 56 = .ok (.baload, 1) := by decide +kernel
theorem dX6_write_57 : decode cX6_write 57 = .ok (.invokestatic 107, 3) := by decide +kernel
theorem dX6_write_60 : decode cX6_write 60 = .ok (.iaload, 1) := by decide +kernel
theorem dX6_write_61 : decode cX6_write 61 = .ok (.ifCond .ne 9, 3) := by decide +kernel
theorem dX6_write_64 : decode cX6_write 64 = .ok (.iinc 3 (-1), 3) := by decide +kernel
theorem dX6_write_67 : decode cX6_write 67 = .ok (.goto (-25), 3) := by decide +kernel
theorem dX6_write_70 : decode cX6_write 70 = .ok (.aload_n 0, 1) := by decide +kernel
theorem dX6_write_71 : decode cX6_write 71 = .ok (.getfield 75, 3) := by decide +kernel
theorem dX6_write_74 : decode cX6_write 74 = .ok (.bipush 40, 2) := by decide +kernel
theorem dX6_write_76 : decode cX6_write 76 = .ok (.if_icmp .eq 7, 3) := by decide +kernel
theorem dX6_write_79 : decode cX6_write 79 = .ok (.iload_n 3, 1) := by decide +kernel
theorem dX6_write_80 : decode cX6_write 80 = .ok (.ifCond .ge 9, 3) := by decide +kernel
theorem dX6_write_83 : decode cX6_write 83 = .ok (.aload_n 0, 1) := by decide +kernel
theorem dX6_write_84 : decode cX6_write 84 = .ok (.iconst 2, 1) := by decide +kernel
theorem dX6_write_85 : decode cX6_write 85 = .ok (.invokevirtual 86, 3) := by decide +kernel
theorem dX6_write_88 : decode cX6_write 88 = .ok (.ireturn, 1) := by decide +kernel
theorem dX6_write_89 : decode cX6_write 89 = .ok (.aload_n 0, 1) := by decide +kernel
theorem dX6_write_90 : decode cX6_write 90 = .ok (.getfield 29, 3) := by decide +kernel
theorem dX6_write_93 : decode cX6_write 93 = .ok (.iload_n 3, 1) := by decide +kernel
theorem dX6_write_94 : decode cX6_write 94 = .ok (.aload_n 0, 1) := by decide +kernel
theorem dX6_write_95 : decode cX6_write 95 = .ok (.getfield 25, 3) := by decide +kernel
theorem dX6_write_98 : decode cX6_write 98 = .ok (.iload_n 1, 1) := by decide +kernel
theorem dX6_write_99 : decode cX6_write 99 = .ok (.baload, 1) := by decide +kernel
theorem dX6_write_100 : decode cX6_write 100 = .ok (.invokestatic 107, 3) := by decide +kernel
theorem dX6_write_103 : decode cX6_write 103 = .ok (.dup2, 1) := by decide +kernel
theorem dX6_write_104 : decode cX6_write 104 = .ok (.iaload, 1) := by decide +kernel
theorem dX6_write_105 : decode cX6_write 105 = .ok (.iconst 1, 1) := by decide +kernel
theorem dX6_write_106 : decode cX6_write 106 = .ok (.isub, 1) := by decide +kernel
theorem dX6_write_107 : decode cX6_write 107 = .ok (.iastore, 1) := by decide +kernel
theorem dX6_write_108 : decode cX6_write 108 = .ok (.iconst 0, 1) := by decide +kernel
theorem dX6_write_109 : decode cX6_write 109 = .ok (.istore 4, 2) := by decide +kernel
theorem dX6_write_111 : decode cX6_write 111 = .ok (.iload 4, 2) := by decide +kernel
theorem dX6_write_113 : decode cX6_write 113 = .ok (.aload_n 0, 1) := by decide +kernel
theorem dX6_write_114 : decode cX6_write 114 = .ok (.getfield 68, 3) := by decide +kernel
theorem dX6_write_117 : decode cX6_write 117 = .ok (.if_icmp .ge 31, 3) := by decide +kernel
theorem dX6_write_120 : decode cX6_write 120 = .ok (.aload_n 0, 1) := by decide +kernel
theorem dX6_write_121 : decode cX6_write 121 = .ok (.getfield 32, 3) := by decide +kernel
theorem dX6_write_124 : decode cX6_write 124 = .ok (.bipush 8, 2) := by decide +kernel
theorem dX6_write_126 : decode cX6_write 126 = .ok (.aload_n 0, 1) := by decide +kernel
theorem dX6_write_127 : decode cX6_write 127 = .ok (.getfield 75, 3) := by decide +kernel
theorem dX6_write_130 : decode cX6_write 130 = .ok (.imul, 1) := by decide +kernel
theorem dX6_write_131 : decode cX6_write 131 = .ok (.iload 4, 2) := by decide +kernel
theorem dX6_write_133 : decode cX6_write 133 = .ok (.iadd, 1) := by decide +kernel
theorem dX6_write_134 : decode cX6_write 134 = .ok (.aload_n 0, 1) := by decide +kernel
theorem dX6_write_135 : decode cX6_write 135 = .ok (.getfield 7, 3) := by decide +kernel
theorem dX6_write_138 : decode cX6_write 138 = .ok (.iload 4, 2) := by decide +kernel
theorem dX6_write_140 : decode cX6_write 140 = .ok (.iaload, 1) := by decide +kernel
theorem dX6_write_141 : decode cX6_write 141 = .ok (.iastore, 1) := by decide +kernel
theorem dX6_write_142 : decode cX6_write 142 = .ok (.iinc 4 1, 3) := by decide +kernel
theorem dX6_write_145 : decode cX6_write 145 = .ok (.goto (-34), 3) := by decide +kernel
theorem dX6_write_148 : decode cX6_write 148 = .ok (.aload_n 0, 1) := by decide +kernel
theorem dX6_write_149 : decode cX6_write 149 = .ok (.getfield 35, 3) := by decide +kernel
theorem dX6_write_152 : decode cX6_write 152 = .ok (.aload_n 0, 1) := by decide +kernel
theorem dX6_write_153 : decode cX6_write 153 = .ok (.getfield 75, 3) := by decide +kernel
theorem dX6_write_156 : decode cX6_write 156 = .ok (.aload_n 0, 1) := by decide +kernel
theorem dX6_write_157 : decode cX6_write 157 = .ok (.getfield 68, 3) := by decide +kernel
theorem dX6_write_160 : decode cX6_write 160 = .ok (.iastore, 1) := by decide +kernel
theorem dX6_write_161 : decode cX6_write 161 = .ok (.aload_n 0, 1) := by decide +kernel
theorem dX6_write_162 : decode cX6_write 162 = .ok (.getfield 38, 3) := by decide +kernel
theorem dX6_write_165 : decode cX6_write 165 = .ok (.aload_n 0, 1) := by decide +kernel
theorem dX6_write_166 : decode cX6_write 166 = .ok (.getfield 75, 3) := by decide +kernel
theorem dX6_write_169 : decode cX6_write 169 = .ok (.iload_n 1, 1) := by decide +kernel
theorem dX6_write_170 : decode cX6_write 170 = .ok (.iastore, 1) := by decide +kernel
theorem dX6_write_171 : decode cX6_write 171 = .ok (.aload_n 0, 1) := by decide +kernel
theorem dX6_write_172 : decode cX6_write 172 = .ok (.getfield 41, 3) := by decide +kernel
theorem dX6_write_175 : decode cX6_write 175 = .ok (.aload_n 0, 1) := by decide +kernel
theorem dX6_write_176 : decode cX6_write 176 = .ok (.getfield 75, 3) := by decide +kernel
theorem dX6_write_179 : decode cX6_write 179 = .ok (.iload_n 2, 1) := by decide +kernel
theorem dX6_write_180 : decode cX6_write 180 = .ok (.iastore, 1) := by decide +kernel
theorem dX6_write_181 : decode cX6_write 181 = .ok (.aload_n 0, 1) := by decide +kernel
theorem dX6_write_182 : decode cX6_write 182 = .ok (.getfield 44, 3) := by decide +kernel
theorem dX6_write_185 : decode cX6_write 185 = .ok (.aload_n 0, 1) := by decide +kernel
theorem dX6_write_186 : decode cX6_write 186 = .ok (.getfield 75, 3) := by decide +kernel
theorem dX6_write_189 : decode cX6_write 189 = .ok (.iload_n 3, 1) := by decide +kernel
theorem dX6_write_190 : decode cX6_write 190 = .ok (.aload_n 0, 1) := by decide +kernel
theorem dX6_write_191 : decode cX6_write 191 = .ok (.iload_n 1, 1) := by decide +kernel
theorem dX6_write_192 : decode cX6_write 192 = .ok (.invokevirtual 111, 3) := by decide +kernel
theorem dX6_write_195 : decode cX6_write 195 = .ok (.if_icmp .ge 7, 3) := by decide +kernel
theorem dX6_write_198 : decode cX6_write 198 = .ok (.iconst 1, 1) := by decide +kernel
theorem dX6_write_199 : decode cX6_write 199 = .ok (.goto 4, 3) := by decide +kernel
theorem dX6_write_202 : decode cX6_write 202 = .ok (.iconst 0, 1) := by decide +kernel
theorem dX6_write_203 : decode cX6_write 203 = .ok (.bastore, 1) := by decide +kernel
theorem dX6_write_204 : decode cX6_write 204 = .ok (.aload_n 0, 1) := by decide +kernel
theorem dX6_write_205 : decode cX6_write 205 = .ok (.iconst 0, 1) := by decide +kernel
theorem dX6_write_206 : decode cX6_write 206 = .ok (.putfield 68, 3) := by decide +kernel
theorem dX6_write_209 : decode cX6_write 209 = .ok (.aload_n 0, 1) := by decide +kernel
theorem dX6_write_210 : decode cX6_write 210 = .ok (.dup, 1) := by decide +kernel
theorem dX6_write_211 : decode cX6_write 211 = .ok (.getfield 75, 3) := by decide +kernel
theorem dX6_write_214 : decode cX6_write 214 = .ok (.iconst 1, 1) := by decide +kernel
theorem dX6_write_215 : decode cX6_write 215 = .ok (.iadd, 1) := by decide +kernel
theorem dX6_write_216 : decode cX6_write 216 = .ok (.putfield 75, 3) := by decide +kernel
theorem dX6_write_219 : decode cX6_write 219 = .ok (.aload_n 0, 1) := by decide +kernel
theorem dX6_write_220 : decode cX6_write 220 = .ok (.getfield 75, 3) := by decide +kernel
theorem dX6_write_223 : decode cX6_write 223 = .ok (.iconst 1, 1) := by decide +kernel
theorem dX6_write_224 : decode cX6_write 224 = .ok (.isub, 1) := by decide +kernel
theorem dX6_write_225 : decode cX6_write 225 = .ok (.ireturn, 1) := by decide +kernel
set_option maxRecDepth 20000 in
theorem ggX6_strokeOn_X6_areOneLine : GoodIn wsX6_strokeOn wsX6_areOneLine := goodIn_r _ [8] (by decide +kernel) (by decide +kernel)
set_option maxRecDepth 20000 in
theorem gX6_strokeOn_X6_areOneLine : GoodIn wsX6_strokeOn (va_wsS RX6 93 yX6_areOneLine wsX6_areOneLine) := goodIn_app (goodIn_of _ (by decide +kernel)) ggX6_strokeOn_X6_areOneLine
theorem dX6_strokeOn_0 : decode cX6_strokeOn 0 = .ok (.aload_n 0, 1) := by decide +kernel
theorem dX6_strokeOn_1 : decode cX6_strokeOn 1 = .ok (.getfield 41, 3) := by decide +kernel
theorem dX6_strokeOn_4 : decode cX6_strokeOn 4 = .ok (.iload_n 1, 1) := by decide +kernel
theorem dX6_strokeOn_5 : decode cX6_strokeOn 5 = .ok (.iaload, 1) := by decide +kernel
theorem dX6_strokeOn_6 : decode cX6_strokeOn 6 = .ok (.istore_n 3, 1) := by decide +kernel
theorem dX6_strokeOn_7 : decode cX6_strokeOn 7 = .ok (.iconst (-1), 1) := by decide +kernel
theorem dX6_strokeOn_8 : decode cX6_strokeOn 8 = .ok (.istore 4, 2) := by decide +kernel
theorem dX6_strokeOn_10 : decode cX6_strokeOn 10 = .ok (.iconst 0, 1) := by decide +kernel
theorem dX6_strokeOn_11 : decode cX6_strokeOn 11 = .ok (.istore 5, 2) := by decide +kernel
theorem dX6_strokeOn_13 : decode cX6_strokeOn 13 = .ok (.iload 5, 2) := by decide +kernel
theorem dX6_strokeOn_15 : decode cX6_strokeOn 15 = .ok (.aload_n 0, 1) := by decide +kernel
theorem dX6_strokeOn_16 : decode cX6_strokeOn 16 = .ok (.getfield 16, 3) := by decide +kernel
theorem dX6_strokeOn_19 : decode cX6_strokeOn 19 = .ok (.iload_n 3, 1) := by decide +kernel
theorem dX6_strokeOn_20 : decode cX6_strokeOn 20 = .ok (.iaload, 1) := by decide +kernel
theorem dX6_strokeOn_21 : decode cX6_strokeOn 21 = .ok (.if_icmp .ge 47, 3) := by decide +kernel
theorem dX6_strokeOn_24 : decode cX6_strokeOn 24 = .ok (.aload_n 0, 1) := by decide +kernel
theorem dX6_strokeOn_25 : decode cX6_strokeOn 25 = .ok (.getfield 13, 3) := by decide +kernel
theorem dX6_strokeOn_28 : decode cX6_strokeOn 28 = .ok (.bipush 6, 2) := by decide +kernel
theorem dX6_strokeOn_30 : decode cX6_strokeOn 30 = .ok (.iload_n 3, 1) := by decide +kernel
theorem dX6_strokeOn_31 : decode cX6_strokeOn 31 = .ok (.imul, 1) := by decide +kernel
theorem dX6_strokeOn_32 : decode cX6_strokeOn 32 = .ok (.iload 5, 2) := by decide +kernel
theorem dX6_strokeOn_34 : decode cX6_strokeOn 34 = .ok (.iadd, 1) := by decide +kernel
theorem dX6_strokeOn_35 : decode cX6_strokeOn 35 = .ok (.iaload, 1) := by decide +kernel
theorem dX6_strokeOn_36 : decode cX6_strokeOn 36 = .ok (.aload_n 0, 1) := by decide +kernel
theorem dX6_strokeOn_37 : decode cX6_strokeOn 37 = .ok (.getfield 32, 3) := by decide +kernel
theorem dX6_strokeOn_40 : decode cX6_strokeOn 40 = .ok (.bipush 8, 2) := by decide +kernel
theorem dX6_strokeOn_42 : decode cX6_strokeOn 42 = .ok (.iload_n 1, 1) := by decide +kernel
theorem dX6_strokeOn_43 : decode cX6_strokeOn 43 = .ok (.imul, 1) := by decide +kernel
theorem dX6_strokeOn_44 : decode cX6_strokeOn 44 = .ok (.iload_n 2, 1) := by decide +kernel
theorem dX6_strokeOn_45 : decode cX6_strokeOn 45 = .ok (.iadd, 1) := by decide +kernel
theorem dX6_strokeOn_46 : decode cX6_strokeOn 46 = .ok (.iaload, 1) := by decide +kernel
theorem dX6_strokeOn_47 : decode cX6_strokeOn 47 = .ok (.invokestatic 93, 3) := by decide +kernel
theorem dX6_strokeOn_50 : decode cX6_strokeOn 50 = .ok (.ifCond .eq 8, 3) := by decide +kernel
theorem dX6_strokeOn_53 : decode cX6_strokeOn 53 = .ok (.iload 5, 2) := by decide +kernel
theorem dX6_strokeOn_55 : decode cX6_strokeOn 55 = .ok (.goto 5, 3) := by decide +kernel
theorem dX6_strokeOn_58 : decode cX6_strokeOn 58 = .ok (.iload 4, 2) := by decide +kernel
theorem dX6_strokeOn_60 : decode cX6_strokeOn 60 = .ok (.istore 4, 2) := by decide +kernel
theorem dX6_strokeOn_62 : decode cX6_strokeOn 62 = .ok (.iinc 5 1, 3) := by decide +kernel
theorem dX6_strokeOn_65 : decode cX6_strokeOn 65 = .ok (.goto (-52), 3) := by decide +kernel
theorem dX6_strokeOn_68 : decode cX6_strokeOn 68 = .ok (.iload 4, 2) := by decide +kernel
theorem dX6_strokeOn_70 : decode cX6_strokeOn 70 = .ok (.ireturn, 1) := by decide +kernel
set_option maxRecDepth 20000 in
theorem ggX6_counts_X6_strokeOn : GoodIn wsX6_counts wsX6_strokeOn := goodIn_r _ [5, 6, 7, 8, 9, 10, 11, 4, 12, 13, 14, 15, 16, 17, 18, 19, 20, 21, 22, 23, 24, 25, 26, 27, 28, 29, 30, 31, 32, 33, 34, 35, 36] (by decide +kernel) (by decide +kernel)
set_option maxRecDepth 20000 in
theorem gX6_counts_X6_strokeOn : GoodIn wsX6_counts (wsV RX6 114 RX6 yX6_strokeOn wsX6_strokeOn) := goodIn_app (goodIn_of _ (by decide +kernel)) ggX6_counts_X6_strokeOn
theorem dX6_counts_0 : decode cX6_counts 0 = .ok (.aload_n 0, 1) := by decide +kernel
theorem dX6_counts_1 : decode cX6_counts 1 = .ok (.iload_n 1, 1) := by decide +kernel
theorem dX6_counts_2 : decode cX6_counts 2 = .ok (.iload_n 2, 1) := by decide +kernel
theorem dX6_counts_3 : decode cX6_counts 3 = .ok (.invokevirtual 114, 3) := by decide +kernel
theorem dX6_counts_6 : decode cX6_counts 6 = .ok (.iconst (-1), 1) := by decide +kernel
theorem dX6_counts_7 : decode cX6_counts 7 = .ok (.if_icmp .eq 7, 3) := by decide +kernel
theorem dX6_counts_10 : decode cX6_counts 10 = .ok (.iconst 1, 1) := by decide +kernel
theorem dX6_counts_11 : decode cX6_counts 11 = .ok (.goto 4, 3) := by decide +kernel
theorem dX6_counts_14 : decode cX6_counts 14 = .ok (.iconst 0, 1) := by decide +kernel
theorem dX6_counts_15 : decode cX6_counts 15 = .ok (.istore_n 3, 1) := by decide +kernel
theorem dX6_counts_16 : decode cX6_counts 16 = .ok (.iconst 0, 1) := by decide +kernel
theorem dX6_counts_17 : decode cX6_counts 17 = .ok (.istore 4, 2) := by decide +kernel
theorem dX6_counts_19 : decode cX6_counts 19 = .ok (.iload 4, 2) := by decide +kernel
theorem dX6_counts_21 : decode cX6_counts 21 = .ok (.iload_n 2, 1) := by decide +kernel
theorem dX6_counts_22 : decode cX6_counts 22 = .ok (.if_icmp .ge 35, 3) := by decide +kernel
theorem dX6_counts_25 : decode cX6_counts 25 = .ok (.iload_n 3, 1) := by decide +kernel
theorem dX6_counts_26 : decode cX6_counts 26 = .ok (.ifCond .eq 23, 3) := by decide +kernel
theorem dX6_counts_29 : decode cX6_counts 29 = .ok (.aload_n 0, 1) := by decide +kernel
theorem dX6_counts_30 : decode cX6_counts 30 = .ok (.iload_n 1, 1) := by decide +kernel
theorem dX6_counts_31 : decode cX6_counts 31 = .ok (.iload 4, 2) := by decide +kernel
theorem dX6_counts_33 : decode cX6_counts 33 = .ok (.invokevirtual 114, 3) := by decide +kernel
theorem dX6_counts_36 : decode cX6_counts 36 = .ok (.aload_n 0, 1) := by decide +kernel
theorem dX6_counts_37 : decode cX6_counts 37 = .ok (.iload_n 1, 1) := by decide +kernel
theorem dX6_counts_38 : decode cX6_counts 38 = .ok (.iload_n 2, 1) := by decide +kernel
theorem dX6_counts_39 : decode cX6_counts 39 = .ok (.invokevirtual 114, 3) := by decide +kernel
theorem dX6_counts_42 : decode cX6_counts 42 = .ok (.if_icmp .eq 7, 3) := by decide +kernel
theorem dX6_counts_45 : decode cX6_counts 45 = .ok (.iconst 1, 1) := by decide +kernel
theorem dX6_counts_46 : decode cX6_counts 46 = .ok (.goto 4, 3) := by decide +kernel
theorem dX6_counts_49 : decode cX6_counts 49 = .ok (.iconst 0, 1) := by decide +kernel
theorem dX6_counts_50 : decode cX6_counts 50 = .ok (.istore_n 3, 1) := by decide +kernel
theorem dX6_counts_51 : decode cX6_counts 51 = .ok (.iinc 4 1, 3) := by decide +kernel
theorem dX6_counts_54 : decode cX6_counts 54 = .ok (.goto (-35), 3) := by decide +kernel
theorem dX6_counts_57 : decode cX6_counts 57 = .ok (.iload_n 3, 1) := by decide +kernel
theorem dX6_counts_58 : decode cX6_counts 58 = .ok (.ireturn, 1) := by decide +kernel
set_option maxRecDepth 20000 in
theorem ggX6_counting_X6_counts : GoodIn wsX6_counting wsX6_counts := goodIn_r _ [6, 7, 8, 9, 5, 10, 11, 12, 13, 14, 15, 16, 17, 18, 19, 20, 21, 22, 23, 24, 25, 26, 27, 28, 29, 30, 31, 32, 33, 34, 35, 36, 37, 38, 39, 40, 41] (by decide +kernel) (by decide +kernel)
set_option maxRecDepth 20000 in
theorem gX6_counting_X6_counts : GoodIn wsX6_counting (wsV RX6 118 RX6 yX6_counts wsX6_counts) := goodIn_app (goodIn_of _ (by decide +kernel)) ggX6_counting_X6_counts
theorem dX6_counting_0 : decode cX6_counting 0 = .ok (.iconst 0, 1) := by decide +kernel
theorem dX6_counting_1 : decode cX6_counting 1 = .ok (.istore_n 2, 1) := by decide +kernel
theorem dX6_counting_2 : decode cX6_counting 2 = .ok (.iconst 0, 1) := by decide +kernel
theorem dX6_counting_3 : decode cX6_counting 3 = .ok (.istore_n 3, 1) := by decide +kernel
theorem dX6_counting_4 : decode cX6_counting 4 = .ok (.iload_n 3, 1) := by decide +kernel
theorem dX6_counting_5 : decode cX6_counting 5 = .ok (.aload_n 0, 1) := by decide +kernel
theorem dX6_counting_6 : decode cX6_counting 6 = .ok (.getfield 35, 3) := by decide +kernel
theorem dX6_counting_9 : decode cX6_counting 9 = .ok (.iload_n 1, 1) := by decide +kernel
theorem dX6_counting_10 : decode cX6_counting 10 = .ok (.iaload, 1) := by decide +kernel
theorem dX6_counting_11 : decode cX6_counting 11 = .ok (.if_icmp .ge 26, 3) := by decide +kernel
theorem dX6_counting_14 : decode cX6_counting 14 = .ok (.iload_n 2, 1) := by decide +kernel
theorem dX6_counting_15 : decode cX6_counting 15 = .ok (.aload_n 0, 1) := by decide +kernel
theorem dX6_counting_16 : decode cX6_counting 16 = .ok (.iload_n 1, 1) := by decide +kernel
theorem dX6_counting_17 : decode cX6_counting 17 = .ok (.iload_n 3, 1) := by decide +kernel
theorem dX6_counting_18 : decode cX6_counting 18 = .ok (.invokevirtual 118, 3) := by decide +kernel
theorem dX6_counting_21 : decode cX6_counting 21 = .ok (.ifCond .eq 7, 3) := by decide +kernel
theorem dX6_counting_24 : decode cX6_counting 24 = .ok (.iconst 1, 1) := by decide +kernel
theorem dX6_counting_25 : decode cX6_counting 25 = .ok (.goto 4, 3) := by decide +kernel
theorem dX6_counting_28 : decode cX6_counting 28 = .ok (.iconst 0, 1) := by decide +kernel
theorem dX6_counting_29 : decode cX6_counting 29 = .ok (.iadd, 1) := by decide +kernel
theorem dX6_counting_30 : decode cX6_counting 30 = .ok (.istore_n 2, 1) := by decide +kernel
theorem dX6_counting_31 : decode cX6_counting 31 = .ok (.iinc 3 1, 3) := by decide +kernel
theorem dX6_counting_34 : decode cX6_counting 34 = .ok (.goto (-30), 3) := by decide +kernel
theorem dX6_counting_37 : decode cX6_counting 37 = .ok (.iload_n 2, 1) := by decide +kernel
theorem dX6_counting_38 : decode cX6_counting 38 = .ok (.ireturn, 1) := by decide +kernel
set_option maxRecDepth 20000 in
theorem ggX6_turned_X6_counts : GoodIn wsX6_turned wsX6_counts := goodIn_r _ [9, 10, 11, 12, 8, 13, 3, 14, 2, 4, 15, 16, 17, 18, 19, 20, 21, 22, 23, 24, 25, 26, 27, 28, 29, 30, 31, 32, 33, 34, 35, 36, 37, 38, 39, 40, 41] (by decide +kernel) (by decide +kernel)
set_option maxRecDepth 20000 in
theorem gX6_turned_X6_counts : GoodIn wsX6_turned (wsV RX6 118 RX6 yX6_counts wsX6_counts) := goodIn_app (goodIn_of _ (by decide +kernel)) ggX6_turned_X6_counts
set_option maxRecDepth 20000 in
theorem ggX6_turned_X6_strokeOn : GoodIn wsX6_turned wsX6_strokeOn := goodIn_r _ [13, 3, 14, 2, 4, 15, 16, 8, 17, 18, 19, 20, 21, 22, 23, 24, 25, 26, 27, 28, 29, 30, 31, 32, 33, 34, 35, 36, 37, 38, 39, 40, 41] (by decide +kernel) (by decide +kernel)
set_option maxRecDepth 20000 in
theorem gX6_turned_X6_strokeOn : GoodIn wsX6_turned (wsV RX6 114 RX6 yX6_strokeOn wsX6_strokeOn) := goodIn_app (goodIn_of _ (by decide +kernel)) ggX6_turned_X6_strokeOn
theorem dX6_turned_0 : decode cX6_turned 0 = .ok (.iconst 0, 1) := by decide +kernel
theorem dX6_turned_1 : decode cX6_turned 1 = .ok (.istore_n 2, 1) := by decide +kernel
theorem dX6_turned_2 : decode cX6_turned 2 = .ok (.iconst 0, 1) := by decide +kernel
theorem dX6_turned_3 : decode cX6_turned 3 = .ok (.istore_n 3, 1) := by decide +kernel
theorem dX6_turned_4 : decode cX6_turned 4 = .ok (.iload_n 3, 1) := by decide +kernel
theorem dX6_turned_5 : decode cX6_turned 5 = .ok (.aload_n 0, 1) := by decide +kernel
theorem dX6_turned_6 : decode cX6_turned 6 = .ok (.getfield 35, 3) := by decide +kernel
theorem dX6_turned_9 : decode cX6_turned 9 = .ok (.iload_n 1, 1) := by decide +kernel
theorem dX6_turned_10 : decode cX6_turned 10 = .ok (.iaload, 1) := by decide +kernel
theorem dX6_turned_11 : decode cX6_turned 11 = .ok (.if_icmp .ge 73, 3) := by decide +kernel
theorem dX6_turned_14 : decode cX6_turned 14 = .ok (.aload_n 0, 1) := by decide +kernel
theorem dX6_turned_15 : decode cX6_turned 15 = .ok (.iload_n 1, 1) := by decide +kernel
theorem dX6_turned_16 : decode cX6_turned 16 = .ok (.iload_n 3, 1) := by decide +kernel
theorem dX6_turned_17 : decode cX6_turned 17 = .ok (.invokevirtual 118, 3) := by decide +kernel
theorem dX6_turned_20 : decode cX6_turned 20 = .ok (.ifCond .eq 42, 3) := by decide +kernel
theorem dX6_turned_23 : decode cX6_turned 23 = .ok (.aload_n 0, 1) := by decide +kernel
theorem dX6_turned_24 : decode cX6_turned 24 = .ok (.getfield 13, 3) := by decide +kernel
theorem dX6_turned_27 : decode cX6_turned 27 = .ok (.bipush 6, 2) := by decide +kernel
theorem dX6_turned_29 : decode cX6_turned 29 = .ok (.aload_n 0, 1) := by decide +kernel
theorem dX6_turned_30 : decode cX6_turned 30 = .ok (.getfield 41, 3) := by decide +kernel
theorem dX6_turned_33 : decode cX6_turned 33 = .ok (.iload_n 1, 1) := by decide +kernel
theorem dX6_turned_34 : decode cX6_turned 34 = .ok (.iaload, 1) := by decide +kernel
theorem dX6_turned_35 : decode cX6_turned 35 = .ok (.imul, 1) := by decide +kernel
theorem dX6_turned_36 : decode cX6_turned 36 = .ok (.aload_n 0, 1) := by decide +kernel
theorem dX6_turned_37 : decode cX6_turned 37 = .ok (.iload_n 1, 1) := by decide +kernel
theorem dX6_turned_38 : decode cX6_turned 38 = .ok (.iload_n 3, 1) := by decide +kernel
theorem dX6_turned_39 : decode cX6_turned 39 = .ok (.invokevirtual 114, 3) := by decide +kernel
theorem dX6_turned_42 : decode cX6_turned 42 = .ok (.iadd, 1) := by decide +kernel
theorem dX6_turned_43 : decode cX6_turned 43 = .ok (.iaload, 1) := by decide +kernel
theorem dX6_turned_44 : decode cX6_turned 44 = .ok (.aload_n 0, 1) := by decide +kernel
theorem dX6_turned_45 : decode cX6_turned 45 = .ok (.getfield 32, 3) := by decide +kernel
theorem dX6_turned_48 : decode cX6_turned 48 = .ok (.bipush 8, 2) := by decide +kernel
theorem dX6_turned_50 : decode cX6_turned 50 = .ok (.iload_n 1, 1) := by decide +kernel
theorem dX6_turned_51 : decode cX6_turned 51 = .ok (.imul, 1) := by decide +kernel
theorem dX6_turned_52 : decode cX6_turned 52 = .ok (.iload_n 3, 1) := by decide +kernel
theorem dX6_turned_53 : decode cX6_turned 53 = .ok (.iadd, 1) := by decide +kernel
theorem dX6_turned_54 : decode cX6_turned 54 = .ok (.iaload, 1) := by decide +kernel
theorem dX6_turned_55 : decode cX6_turned 55 = .ok (.if_icmp .eq 7, 3) := by decide +kernel
theorem dX6_turned_58 : decode cX6_turned 58 = .ok (.iconst 1, 1) := by decide +kernel
theorem dX6_turned_59 : decode cX6_turned 59 = .ok (.goto 4, 3) := by decide +kernel
theorem dX6_turned_62 : decode cX6_turned 62 = .ok (.iconst 0, 1) := by decide +kernel
theorem dX6_turned_63 : decode cX6_turned 63 = .ok (.istore 4, 2) := by decide +kernel
theorem dX6_turned_65 : decode cX6_turned 65 = .ok (.iload_n 2, 1) := by decide +kernel
theorem dX6_turned_66 : decode cX6_turned 66 = .ok (.iload 4, 2) := by decide +kernel
theorem dX6_turned_68 : decode cX6_turned 68 = .ok (.ifCond .eq 7, 3) := by decide +kernel
theorem dX6_turned_71 : decode cX6_turned 71 = .ok (.iconst 1, 1) := by decide +kernel
theorem dX6_turned_72 : decode cX6_turned 72 = .ok (.goto 4, 3) := by decide +kernel
theorem dX6_turned_75 : decode cX6_turned 75 = .ok (.iconst 0, 1) := by decide +kernel
theorem dX6_turned_76 : decode cX6_turned 76 = .ok (.iadd, 1) := by decide +kernel
theorem dX6_turned_77 : decode cX6_turned 77 = .ok (.istore_n 2, 1) := by decide +kernel
theorem dX6_turned_78 : decode cX6_turned 78 = .ok (.iinc 3 1, 3) := by decide +kernel
theorem dX6_turned_81 : decode cX6_turned 81 = .ok (.goto (-77), 3) := by decide +kernel
theorem dX6_turned_84 : decode cX6_turned 84 = .ok (.iload_n 2, 1) := by decide +kernel
theorem dX6_turned_85 : decode cX6_turned 85 = .ok (.ireturn, 1) := by decide +kernel
set_option maxRecDepth 20000 in
theorem ggX6_inOrder_X6_counts : GoodIn wsX6_inOrder wsX6_counts := goodIn_r _ [7, 8, 9, 10, 6, 11, 12, 13, 14, 15, 16, 17, 18, 19, 20, 21, 22, 23, 24, 25, 26, 27, 28, 29, 30, 31, 32, 33, 34, 35, 36, 37, 38, 39, 40, 41, 42] (by decide +kernel) (by decide +kernel)
set_option maxRecDepth 20000 in
theorem gX6_inOrder_X6_counts : GoodIn wsX6_inOrder (wsV RX6 118 RX6 yX6_counts wsX6_counts) := goodIn_app (goodIn_of _ (by decide +kernel)) ggX6_inOrder_X6_counts
set_option maxRecDepth 20000 in
theorem ggX6_inOrder_X6_strokeOn : GoodIn wsX6_inOrder wsX6_strokeOn := goodIn_r _ [11, 12, 13, 14, 15, 16, 17, 6, 18, 19, 20, 21, 22, 23, 24, 25, 26, 27, 28, 29, 30, 31, 32, 33, 34, 35, 36, 37, 38, 39, 40, 41, 42] (by decide +kernel) (by decide +kernel)
set_option maxRecDepth 20000 in
theorem gX6_inOrder_X6_strokeOn : GoodIn wsX6_inOrder (wsV RX6 114 RX6 yX6_strokeOn wsX6_strokeOn) := goodIn_app (goodIn_of _ (by decide +kernel)) ggX6_inOrder_X6_strokeOn
theorem dX6_inOrder_0 : decode cX6_inOrder 0 = .ok (.iconst 0, 1) := by decide +kernel
theorem dX6_inOrder_1 : decode cX6_inOrder 1 = .ok (.istore_n 2, 1) := by decide +kernel
theorem dX6_inOrder_2 : decode cX6_inOrder 2 = .ok (.iconst 0, 1) := by decide +kernel
theorem dX6_inOrder_3 : decode cX6_inOrder 3 = .ok (.istore_n 3, 1) := by decide +kernel
theorem dX6_inOrder_4 : decode cX6_inOrder 4 = .ok (.iload_n 3, 1) := by decide +kernel
theorem dX6_inOrder_5 : decode cX6_inOrder 5 = .ok (.aload_n 0, 1) := by decide +kernel
theorem dX6_inOrder_6 : decode cX6_inOrder 6 = .ok (.getfield 35, 3) := by decide +kernel
theorem dX6_inOrder_9 : decode cX6_inOrder 9 = .ok (.iload_n 1, 1) := by decide +kernel
theorem dX6_inOrder_10 : decode cX6_inOrder 10 = .ok (.iaload, 1) := by decide +kernel
theorem dX6_inOrder_11 : decode cX6_inOrder 11 = .ok (.if_icmp .ge 152, 3) := by decide +kernel
theorem dX6_inOrder_14 : decode cX6_inOrder 14 = .ok (.aload_n 0, 1) := by decide +kernel
theorem dX6_inOrder_15 : decode cX6_inOrder 15 = .ok (.getfield 65, 3) := by decide +kernel
theorem dX6_inOrder_18 : decode cX6_inOrder 18 = .ok (.iload_n 3, 1) := by decide +kernel
theorem dX6_inOrder_19 : decode cX6_inOrder 19 = .ok (.aload_n 0, 1) := by decide +kernel
theorem dX6_inOrder_20 : decode cX6_inOrder 20 = .ok (.iload_n 1, 1) := by decide +kernel
theorem dX6_inOrder_21 : decode cX6_inOrder 21 = .ok (.iload_n 3, 1) := by decide +kernel
theorem dX6_inOrder_22 : decode cX6_inOrder 22 = .ok (.invokevirtual 118, 3) := by decide +kernel
theorem dX6_inOrder_25 : decode cX6_inOrder 25 = .ok (.ifCond .eq 7, 3) := by decide +kernel
theorem dX6_inOrder_28 : decode cX6_inOrder 28 = .ok (.iconst 1, 1) := by decide +kernel
theorem dX6_inOrder_29 : decode cX6_inOrder 29 = .ok (.goto 4, 3) := by decide +kernel
theorem dX6_inOrder_32 : decode cX6_inOrder 32 = .ok (.iconst 0, 1) := by decide +kernel
theorem dX6_inOrder_33 : decode cX6_inOrder 33 = .ok (.iastore, 1) := by decide +kernel
theorem dX6_inOrder_34 : decode cX6_inOrder 34 = .ok (.iconst 0, 1) := by decide +kernel
theorem dX6_inOrder_35 : decode cX6_inOrder 35 = .ok (.istore 4, 2) := by decide +kernel
theorem dX6_inOrder_37 : decode cX6_inOrder 37 = .ok (.iload 4, 2) := by decide +kernel
theorem dX6_inOrder_39 : decode cX6_inOrder 39 = .ok (.iload_n 3, 1) := by decide +kernel
theorem dX6_inOrder_40 : decode cX6_inOrder 40 = .ok (.if_icmp .ge 96, 3) := by decide +kernel
theorem dX6_inOrder_43 : decode cX6_inOrder 43 = .ok (.aload_n 0, 1) := by decide +kernel
theorem dX6_inOrder_44 : decode cX6_inOrder 44 = .ok (.getfield 65, 3) := by decide +kernel
theorem dX6_inOrder_47 : decode cX6_inOrder 47 = .ok (.iload_n 3, 1) := by decide +kernel
theorem dX6_inOrder_48 : decode cX6_inOrder 48 = .ok (.iaload, 1) := by decide +kernel
theorem dX6_inOrder_49 : decode cX6_inOrder 49 = .ok (.ifCond .le 87, 3) := by decide +kernel
theorem dX6_inOrder_52 : decode cX6_inOrder 52 = .ok (.aload_n 0, 1) := by decide +kernel
theorem dX6_inOrder_53 : decode cX6_inOrder 53 = .ok (.getfield 65, 3) := by decide +kernel
theorem dX6_inOrder_56 : decode cX6_inOrder 56 = .ok (.iload 4, 2) := by decide +kernel
theorem dX6_inOrder_58 : decode cX6_inOrder 58 = .ok (.iaload, 1) := by decide +kernel
theorem dX6_inOrder_59 : decode cX6_inOrder 59 = .ok (.ifCond .le 23, 3) := by decide +kernel
theorem dX6_inOrder_62 : decode cX6_inOrder 62 = .ok (.aload_n 0, 1) := by decide +kernel
theorem dX6_inOrder_63 : decode cX6_inOrder 63 = .ok (.iload_n 1, 1) := by decide +kernel
theorem dX6_inOrder_64 : decode cX6_inOrder 64 = .ok (.iload 4, 2) := by decide +kernel
theorem dX6_inOrder_66 : decode cX6_inOrder 66 = .ok (.invokevirtual 114, 3) := by decide +kernel
theorem dX6_inOrder_69 : decode cX6_inOrder 69 = .ok (.aload_n 0, 1) := by decide +kernel
theorem dX6_inOrder_70 : decode cX6_inOrder 70 = .ok (.iload_n 1, 1) := by decide +kernel
theorem dX6_inOrder_71 : decode cX6_inOrder 71 = .ok (.iload_n 3, 1) := by decide +kernel
theorem dX6_inOrder_72 : decode cX6_inOrder 72 = .ok (.invokevirtual 114, 3) := by decide +kernel
theorem dX6_inOrder_75 : decode cX6_inOrder 75 = .ok (.if_icmp .ge 7, 3) := by decide +kernel
theorem dX6_inOrder_78 : decode cX6_inOrder 78 = .ok (.iconst 1, 1) := by decide +kernel
theorem dX6_inOrder_79 : decode cX6_inOrder 79 = .ok (.goto 4, 3) := by decide +kernel
theorem dX6_inOrder_82 : decode cX6_inOrder 82 = .ok (.iconst 0, 1) := by decide +kernel
theorem dX6_inOrder_83 : decode cX6_inOrder 83 = .ok (.istore 5, 2) := by decide +kernel
theorem dX6_inOrder_85 : decode cX6_inOrder 85 = .ok (.aload_n 0, 1) := by decide +kernel
theorem dX6_inOrder_86 : decode cX6_inOrder 86 = .ok (.getfield 65, 3) := by decide +kernel
theorem dX6_inOrder_89 : decode cX6_inOrder 89 = .ok (.iload_n 3, 1) := by decide +kernel
theorem dX6_inOrder_90 : decode cX6_inOrder 90 = .ok (.iload 5, 2) := by decide +kernel
theorem dX6_inOrder_92 : decode cX6_inOrder 92 = .ok (.ifCond .eq 31, 3) := by decide +kernel
theorem dX6_inOrder_95 : decode cX6_inOrder 95 = .ok (.aload_n 0, 1) := by decide +kernel
theorem dX6_inOrder_96 : decode cX6_inOrder 96 = .ok (.getfield 65, 3) := by decide +kernel
theorem dX6_inOrder_99 : decode cX6_inOrder 99 = .ok (.iload 4, 2) := by decide +kernel
theorem dX6_inOrder_101 : decode cX6_inOrder 101 = .ok (.iaload, 1) := by decide +kernel
theorem dX6_inOrder_102 : decode cX6_inOrder 102 = .ok (.aload_n 0, 1) := by decide +kernel
theorem dX6_inOrder_103 : decode cX6_inOrder 103 = .ok (.getfield 65, 3) := by decide +kernel
theorem dX6_inOrder_106 : decode cX6_inOrder 106 = .ok (.iload_n 3, 1) := by decide +kernel
theorem dX6_inOrder_107 : decode cX6_inOrder 107 = .ok (.iaload, 1) := by decide +kernel
theorem dX6_inOrder_108 : decode cX6_inOrder 108 = .ok (.if_icmp .lt 15, 3) := by decide +kernel
theorem dX6_inOrder_111 : decode cX6_inOrder 111 = .ok (.aload_n 0, 1) := by decide +kernel
theorem dX6_inOrder_112 : decode cX6_inOrder 112 = .ok (.getfield 65, 3) := by decide +kernel
theorem dX6_inOrder_115 : decode cX6_inOrder 115 = .ok (.iload 4, 2) := by decide +kernel
theorem dX6_inOrder_117 : decode cX6_inOrder 117 = .ok (.iaload, 1) := by decide +kernel
theorem dX6_inOrder_118 : decode cX6_inOrder 118 = .ok (.iconst 1, 1) := by decide +kernel
theorem dX6_inOrder_119 : decode cX6_inOrder 119 = .ok (.iadd, 1) := by decide +kernel
theorem dX6_inOrder_120 : decode cX6_inOrder 120 = .ok (.goto 9, 3) := by decide +kernel
theorem dX6_inOrder_123 : decode cX6_inOrder 123 = .ok (.aload_n 0, 1) := by decide +kernel
theorem dX6_inOrder_124 : decode cX6_inOrder 124 = .ok (.getfield 65, 3) := by decide +kernel
theorem dX6_inOrder_127 : decode cX6_inOrder 127 = .ok (.iload_n 3, 1) := by decide +kernel
theorem dX6_inOrder_128 : decode cX6_inOrder 128 = .ok (.iaload, 1) := by decide +kernel
theorem dX6_inOrder_129 : decode cX6_inOrder 129 = .ok (.iastore, 1) := by decide +kernel
theorem dX6_inOrder_130 : decode cX6_inOrder 130 = .ok (.iinc 4 1, 3) := by decide +kernel
theorem dX6_inOrder_133 : decode cX6_inOrder 133 = .ok (.goto (-96), 3) := by decide +kernel
theorem dX6_inOrder_136 : decode cX6_inOrder 136 = .ok (.aload_n 0, 1) := by decide +kernel
theorem dX6_inOrder_137 : decode cX6_inOrder 137 = .ok (.getfield 65, 3) := by decide +kernel
theorem dX6_inOrder_140 : decode cX6_inOrder 140 = .ok (.iload_n 3, 1) := by decide +kernel
theorem dX6_inOrder_141 : decode cX6_inOrder 141 = .ok (.iaload, 1) := by decide +kernel
theorem dX6_inOrder_142 : decode cX6_inOrder 142 = .ok (.iload_n 2, 1) := by decide +kernel
theorem dX6_inOrder_143 : decode cX6_inOrder 143 = .ok (.if_icmp .le 12, 3) := by decide +kernel
theorem dX6_inOrder_146 : decode cX6_inOrder 146 = .ok (.aload_n 0, 1) := by decide +kernel
theorem dX6_inOrder_147 : decode cX6_inOrder 147 = .ok (.getfield 65, 3) := by decide +kernel
theorem dX6_inOrder_150 : decode cX6_inOrder 150 = .ok (.iload_n 3, 1) := by decide +kernel
theorem dX6_inOrder_151 : decode cX6_inOrder 151 = .ok (.iaload, 1) := by decide +kernel
theorem dX6_inOrder_152 : decode cX6_inOrder 152 = .ok (.goto 4, 3) := by decide +kernel
theorem dX6_inOrder_155 : decode cX6_inOrder 155 = .ok (.iload_n 2, 1) := by decide +kernel
theorem dX6_inOrder_156 : decode cX6_inOrder 156 = .ok (.istore_n 2, 1) := by decide +kernel
theorem dX6_inOrder_157 : decode cX6_inOrder 157 = .ok (.iinc 3 1, 3) := by decide +kernel
theorem dX6_inOrder_160 : decode cX6_inOrder 160 = .ok (.goto (-156), 3) := by decide +kernel
theorem dX6_inOrder_163 : decode cX6_inOrder 163 = .ok (.iload_n 2, 1) := by decide +kernel
theorem dX6_inOrder_164 : decode cX6_inOrder 164 = .ok (.ireturn, 1) := by decide +kernel
set_option maxRecDepth 20000 in
theorem ggX6_slipsOf_X6_counting : GoodIn wsX6_slipsOf wsX6_counting := goodIn_r _ [9, 3, 10, 11, 12, 8, 13, 14, 15, 16, 17, 2, 1, 18, 19, 20, 21, 22, 32, 33, 34, 35, 36, 37, 38, 39, 40, 41, 42, 43, 44, 45, 46, 47, 48, 49, 50, 51, 52, 53, 54, 55] (by decide +kernel) (by decide +kernel)
set_option maxRecDepth 20000 in
theorem gX6_slipsOf_X6_counting : GoodIn wsX6_slipsOf (wsV RX6 121 RX6 yX6_counting wsX6_counting) := goodIn_app (goodIn_of _ (by decide +kernel)) ggX6_slipsOf_X6_counting
set_option maxRecDepth 20000 in
theorem ggX6_slipsOf_X6_turned : GoodIn wsX6_slipsOf wsX6_turned := goodIn_r _ [26, 3, 18, 2, 19, 10, 11, 12, 8, 13, 14, 15, 16, 17, 1, 20, 21, 22, 32, 33, 34, 35, 36, 37, 38, 39, 40, 41, 42, 43, 44, 45, 46, 47, 48, 49, 50, 51, 52, 53, 54, 55] (by decide +kernel) (by decide +kernel)
set_option maxRecDepth 20000 in
theorem gX6_slipsOf_X6_turned : GoodIn wsX6_slipsOf (wsV RX6 124 RX6 yX6_turned wsX6_turned) := goodIn_app (goodIn_of _ (by decide +kernel)) ggX6_slipsOf_X6_turned
set_option maxRecDepth 20000 in
theorem ggX6_slipsOf_X6_inOrder : GoodIn wsX6_slipsOf wsX6_inOrder := goodIn_r _ [30, 3, 31, 10, 11, 12, 8, 13, 14, 15, 16, 17, 2, 1, 18, 19, 20, 21, 22, 32, 33, 34, 35, 36, 37, 38, 39, 40, 41, 42, 43, 44, 45, 46, 47, 48, 49, 50, 51, 52, 53, 54, 55] (by decide +kernel) (by decide +kernel)
set_option maxRecDepth 20000 in
theorem gX6_slipsOf_X6_inOrder : GoodIn wsX6_slipsOf (wsV RX6 127 RX6 yX6_inOrder wsX6_inOrder) := goodIn_app (goodIn_of _ (by decide +kernel)) ggX6_slipsOf_X6_inOrder
theorem dX6_slipsOf_0 : decode cX6_slipsOf 0 = .ok (.aload_n 0, 1) := by decide +kernel
theorem dX6_slipsOf_1 : decode cX6_slipsOf 1 = .ok (.iload_n 1, 1) := by decide +kernel
theorem dX6_slipsOf_2 : decode cX6_slipsOf 2 = .ok (.invokevirtual 121, 3) := by decide +kernel
theorem dX6_slipsOf_5 : decode cX6_slipsOf 5 = .ok (.istore_n 3, 1) := by decide +kernel
theorem dX6_slipsOf_6 : decode cX6_slipsOf 6 = .ok (.iload_n 2, 1) := by decide +kernel
theorem dX6_slipsOf_7 : decode cX6_slipsOf 7 = .ok (.tableswitch 66 0 3 #[29, 43, 52, 58], 29) := by decide +kernel
theorem dX6_slipsOf_36 : decode cX6_slipsOf 36 = .ok (.aload_n 0, 1) := by decide +kernel
theorem dX6_slipsOf_37 : decode cX6_slipsOf 37 = .ok (.getfield 16, 3) := by decide +kernel
theorem dX6_slipsOf_40 : decode cX6_slipsOf 40 = .ok (.aload_n 0, 1) := by decide +kernel
theorem dX6_slipsOf_41 : decode cX6_slipsOf 41 = .ok (.getfield 41, 3) := by decide +kernel
theorem dX6_slipsOf_44 : decode cX6_slipsOf 44 = .ok (.iload_n 1, 1) := by decide +kernel
theorem dX6_slipsOf_45 : decode cX6_slipsOf 45 = .ok (.iaload, 1) := by decide +kernel
theorem dX6_slipsOf_46 : decode cX6_slipsOf 46 = .ok (.iaload, 1) := by decide +kernel
theorem dX6_slipsOf_47 : decode cX6_slipsOf 47 = .ok (.iload_n 3, 1) := by decide +kernel
theorem dX6_slipsOf_48 : decode cX6_slipsOf 48 = .ok (.isub, 1) := by decide +kernel
theorem dX6_slipsOf_49 : decode cX6_slipsOf 49 = .ok (.ireturn, 1) := by decide +kernel
theorem dX6_slipsOf_50 : decode cX6_slipsOf 50 = .ok (.aload_n 0, 1) := by decide +kernel
theorem dX6_slipsOf_51 : decode cX6_slipsOf 51 = .ok (.getfield 35, 3) := by decide +kernel
theorem dX6_slipsOf_54 : decode cX6_slipsOf 54 = .ok (.iload_n 1, 1) := by decide +kernel
theorem dX6_slipsOf_55 : decode cX6_slipsOf 55 = .ok (.iaload, 1) := by decide +kernel
theorem dX6_slipsOf_56 : decode cX6_slipsOf 56 = .ok (.iload_n 3, 1) := by decide +kernel
theorem dX6_slipsOf_57 : decode cX6_slipsOf 57 = .ok (.isub, 1) := by decide +kernel
theorem dX6_slipsOf_58 : decode cX6_slipsOf 58 = .ok (.ireturn, 1) := by decide +kernel
theorem dX6_slipsOf_59 : decode cX6_slipsOf 59 = .ok (.aload_n 0, 1) := by decide +kernel
theorem dX6_slipsOf_60 : decode cX6_slipsOf 60 = .ok (.iload_n 1, 1) := by decide +kernel
theorem dX6_slipsOf_61 : decode cX6_slipsOf 61 = .ok (.invokevirtual 124, 3) := by decide +kernel
theorem dX6_slipsOf_64 : decode cX6_slipsOf 64 = .ok (.ireturn, 1) := by decide +kernel
theorem dX6_slipsOf_65 : decode cX6_slipsOf 65 = .ok (.iload_n 3, 1) := by decide +kernel
theorem dX6_slipsOf_66 : decode cX6_slipsOf 66 = .ok (.aload_n 0, 1) := by decide +kernel
theorem dX6_slipsOf_67 : decode cX6_slipsOf 67 = .ok (.iload_n 1, 1) := by decide +kernel
theorem dX6_slipsOf_68 : decode cX6_slipsOf 68 = .ok (.invokevirtual 127, 3) := by decide +kernel
theorem dX6_slipsOf_71 : decode cX6_slipsOf 71 = .ok (.isub, 1) := by decide +kernel
theorem dX6_slipsOf_72 : decode cX6_slipsOf 72 = .ok (.ireturn, 1) := by decide +kernel
theorem dX6_slipsOf_73 : decode cX6_slipsOf 73 = .ok (.aload_n 0, 1) := by decide +kernel
theorem dX6_slipsOf_74 : decode cX6_slipsOf 74 = .ok (.getfield 44, 3) := by decide +kernel
theorem dX6_slipsOf_77 : decode cX6_slipsOf 77 = .ok (.iload_n 1, 1) := by decide +kernel
theorem dX6_slipsOf_78 : decode cX6_slipsOf 78 = .ok (.baload, 1) := by decide +kernel
theorem dX6_slipsOf_79 : decode cX6_slipsOf 79 = .ok (.ifCond .eq 7, 3) := by decide +kernel
theorem dX6_slipsOf_82 : decode cX6_slipsOf 82 = .ok (.iconst 1, 1) := by decide +kernel
theorem dX6_slipsOf_83 : decode cX6_slipsOf 83 = .ok (.goto 4, 3) := by decide +kernel
theorem dX6_slipsOf_86 : decode cX6_slipsOf 86 = .ok (.iconst 0, 1) := by decide +kernel
theorem dX6_slipsOf_87 : decode cX6_slipsOf 87 = .ok (.ireturn, 1) := by decide +kernel
set_option maxRecDepth 20000 in
theorem ggX6_allSlips_X6_slipsOf : GoodIn wsX6_allSlips wsX6_slipsOf := goodIn_r _ [5, 6, 7, 8, 9, 10, 11, 12, 4, 13, 14, 15, 16, 17, 18, 19, 20, 21, 22, 23, 24, 25, 26, 27, 28, 29, 30, 31, 32, 33, 34, 35, 36, 37, 38, 39, 40, 41, 42, 43, 44, 45, 46, 47, 48, 49, 50, 51, 52, 53, 54, 55, 56, 57, 58, 59] (by decide +kernel) (by decide +kernel)
set_option maxRecDepth 20000 in
theorem gX6_allSlips_X6_slipsOf : GoodIn wsX6_allSlips (wsV RX6 130 RX6 yX6_slipsOf wsX6_slipsOf) := goodIn_app (goodIn_of _ (by decide +kernel)) ggX6_allSlips_X6_slipsOf
theorem dX6_allSlips_0 : decode cX6_allSlips 0 = .ok (.iconst 0, 1) := by decide +kernel
theorem dX6_allSlips_1 : decode cX6_allSlips 1 = .ok (.istore_n 2, 1) := by decide +kernel
theorem dX6_allSlips_2 : decode cX6_allSlips 2 = .ok (.iconst 0, 1) := by decide +kernel
theorem dX6_allSlips_3 : decode cX6_allSlips 3 = .ok (.istore_n 3, 1) := by decide +kernel
theorem dX6_allSlips_4 : decode cX6_allSlips 4 = .ok (.iload_n 3, 1) := by decide +kernel
theorem dX6_allSlips_5 : decode cX6_allSlips 5 = .ok (.iconst 4, 1) := by decide +kernel
theorem dX6_allSlips_6 : decode cX6_allSlips 6 = .ok (.if_icmp .gt 18, 3) := by decide +kernel
theorem dX6_allSlips_9 : decode cX6_allSlips 9 = .ok (.iload_n 2, 1) := by decide +kernel
theorem dX6_allSlips_10 : decode cX6_allSlips 10 = .ok (.aload_n 0, 1) := by decide +kernel
theorem dX6_allSlips_11 : decode cX6_allSlips 11 = .ok (.iload_n 1, 1) := by decide +kernel
theorem dX6_allSlips_12 : decode cX6_allSlips 12 = .ok (.iload_n 3, 1) := by decide +kernel
theorem dX6_allSlips_13 : decode cX6_allSlips 13 = .ok (.invokevirtual 130, 3) := by decide +kernel
theorem dX6_allSlips_16 : decode cX6_allSlips 16 = .ok (.iadd, 1) := by decide +kernel
theorem dX6_allSlips_17 : decode cX6_allSlips 17 = .ok (.istore_n 2, 1) := by decide +kernel
theorem dX6_allSlips_18 : decode cX6_allSlips 18 = .ok (.iinc 3 1, 3) := by decide +kernel
theorem dX6_allSlips_21 : decode cX6_allSlips 21 = .ok (.goto (-17), 3) := by decide +kernel
theorem dX6_allSlips_24 : decode cX6_allSlips 24 = .ok (.iload_n 2, 1) := by decide +kernel
theorem dX6_allSlips_25 : decode cX6_allSlips 25 = .ok (.ireturn, 1) := by decide +kernel
set_option maxRecDepth 20000 in
theorem ggX6_slips_X6_isScript : GoodIn wsX6_slips wsX6_isScript := goodIn_r _ [5, 6, 7, 8, 4, 9, 57, 58, 59, 60, 61, 62, 63, 64, 65, 66, 67, 68, 69, 70, 71, 72, 73, 74, 75, 76, 77, 78, 79, 80] (by decide +kernel) (by decide +kernel)
set_option maxRecDepth 20000 in
theorem gX6_slips_X6_isScript : GoodIn wsX6_slips (wsV RX6 133 RX6 yX6_isScript wsX6_isScript) := goodIn_app (goodIn_of _ (by decide +kernel)) ggX6_slips_X6_isScript
set_option maxRecDepth 20000 in
theorem ggX6_slips_X6_asks : GoodIn wsX6_slips wsX6_asks := goodIn_r _ [13, 14, 57, 58, 59, 60, 61, 62, 63, 64, 65, 66, 67, 68, 69, 70, 71, 72, 73, 74, 75, 76, 77, 78, 79, 80] (by decide +kernel) (by decide +kernel)
set_option maxRecDepth 20000 in
theorem gX6_slips_X6_asks : GoodIn wsX6_slips (wsV RX6 82 RX6 yX6_asks wsX6_asks) := goodIn_app (goodIn_of _ (by decide +kernel)) ggX6_slips_X6_asks
set_option maxRecDepth 20000 in
theorem ggX6_slips_X6_in : GoodIn wsX6_slips wsX6_in := goodIn_r _ [9] (by decide +kernel) (by decide +kernel)
set_option maxRecDepth 20000 in
theorem gX6_slips_X6_in : GoodIn wsX6_slips (va_wsS RX6 78 yX6_in wsX6_in) := goodIn_app (goodIn_of _ (by decide +kernel)) ggX6_slips_X6_in
set_option maxRecDepth 20000 in
theorem ggX6_slips_X6_fails : GoodIn wsX6_slips wsX6_fails := goodIn_r _ [18, 14, 57, 58, 59, 60, 61, 62, 63, 64, 65, 66, 67, 68, 69, 70, 71, 72, 73, 74, 75, 76, 77, 78, 79, 80] (by decide +kernel) (by decide +kernel)
set_option maxRecDepth 20000 in
theorem gX6_slips_X6_fails : GoodIn wsX6_slips (wsV RX6 86 RX6 yX6_fails wsX6_fails) := goodIn_app (goodIn_of _ (by decide +kernel)) ggX6_slips_X6_fails
set_option maxRecDepth 20000 in
theorem ggX6_slips_X6_allSlips : GoodIn wsX6_slips wsX6_allSlips := goodIn_r _ [22, 23, 24, 25, 4, 26, 27, 28, 29, 30, 31, 32, 33, 34, 35, 36, 37, 38, 39, 40, 41, 42, 43, 44, 45, 46, 47, 48, 49, 50, 51, 52, 53, 54, 55, 56, 57, 58, 59, 60, 61, 62, 63, 64, 65, 66, 67, 68, 69, 70, 71, 72, 73, 74, 75, 76, 77, 78, 79, 80] (by decide +kernel) (by decide +kernel)
set_option maxRecDepth 20000 in
theorem gX6_slips_X6_allSlips : GoodIn wsX6_slips (wsV RX6 136 RX6 yX6_allSlips wsX6_allSlips) := goodIn_app (goodIn_of _ (by decide +kernel)) ggX6_slips_X6_allSlips
set_option maxRecDepth 20000 in
theorem ggX6_slips_X6_slipsOf : GoodIn wsX6_slips wsX6_slipsOf := goodIn_r _ [26, 27, 28, 29, 30, 31, 32, 33, 4, 34, 35, 36, 37, 38, 39, 40, 41, 42, 43, 44, 45, 46, 47, 48, 49, 50, 51, 52, 53, 54, 55, 56, 57, 58, 59, 60, 61, 62, 63, 64, 65, 66, 67, 68, 69, 70, 71, 72, 73, 74, 75, 76, 77, 78, 79, 80] (by decide +kernel) (by decide +kernel)
set_option maxRecDepth 20000 in
theorem gX6_slips_X6_slipsOf : GoodIn wsX6_slips (wsV RX6 130 RX6 yX6_slipsOf wsX6_slipsOf) := goodIn_app (goodIn_of _ (by decide +kernel)) ggX6_slips_X6_slipsOf
theorem dX6_slips_0 : decode cX6_slips 0 = .ok (.aload_n 0, 1) := by decide +kernel
theorem dX6_slips_1 : decode cX6_slips 1 = .ok (.aload_n 0, 1) := by decide +kernel
theorem dX6_slips_2 : decode cX6_slips 2 = .ok (.iload_n 1, 1) := by decide +kernel
theorem dX6_slips_3 : decode cX6_slips 3 = .ok (.invokevirtual 133, 3) := by decide +kernel
theorem dX6_slips_6 : decode cX6_slips 6 = .ok (.invokevirtual 82, 3) := by decide +kernel
theorem dX6_slips_9 : decode cX6_slips 9 = .ok (.ifCond .ne 5, 3) := by decide +kernel
theorem dX6_slips_12 : decode cX6_slips 12 = .ok (.iconst 0, 1) := by decide +kernel
theorem dX6_slips_13 : decode cX6_slips 13 = .ok (.ireturn, 1) := by decide +kernel
theorem dX6_slips_14 : decode cX6_slips 14 = .ok (.iload_n 2, 1) := by decide +kernel
theorem dX6_slips_15 : decode cX6_slips 15 = .ok (.iconst 0, 1) := by decide +kernel
theorem dX6_slips_16 : decode cX6_slips 16 = .ok (.iconst 5, 1) := by decide +kernel
theorem dX6_slips_17 : decode cX6_slips 17 = .ok (.invokestatic 78, 3) := by decide +kernel
theorem dX6_slips_20 : decode cX6_slips 20 = .ok (.ifCond .ne 9, 3) := by decide +kernel
theorem dX6_slips_23 : decode cX6_slips 23 = .ok (.aload_n 0, 1) := by decide +kernel
theorem dX6_slips_24 : decode cX6_slips 24 = .ok (.iconst 2, 1) := by decide +kernel
theorem dX6_slips_25 : decode cX6_slips 25 = .ok (.invokevirtual 86, 3) := by decide +kernel
theorem dX6_slips_28 : decode cX6_slips 28 = .ok (.ireturn, 1) := by decide +kernel
theorem dX6_slips_29 : decode cX6_slips 29 = .ok (.iload_n 2, 1) := by decide +kernel
theorem dX6_slips_30 : decode cX6_slips 30 = .ok (.iconst 4, 1) := by decide +kernel
theorem dX6_slips_31 : decode cX6_slips 31 = .ok (.if_icmp .le 11, 3) := by decide +kernel
theorem dX6_slips_34 : decode cX6_slips 34 = .ok (.aload_n 0, 1) := by decide +kernel
theorem dX6_slips_35 : decode cX6_slips 35 = .ok (.iload_n 1, 1) := by decide +kernel
theorem dX6_slips_36 : decode cX6_slips 36 = .ok (.invokevirtual 136, 3) := by decide +kernel
theorem dX6_slips_39 : decode cX6_slips 39 = .ok (.goto 9, 3) := by decide +kernel
theorem dX6_slips_42 : decode cX6_slips 42 = .ok (.aload_n 0, 1) := by decide +kernel
theorem dX6_slips_43 : decode cX6_slips 43 = .ok (.iload_n 1, 1) := by decide +kernel
theorem dX6_slips_44 : decode cX6_slips 44 = .ok (.iload_n 2, 1) := by decide +kernel
theorem dX6_slips_45 : decode cX6_slips 45 = .ok (.invokevirtual 130, 3) := by decide +kernel
theorem dX6_slips_48 : decode cX6_slips 48 = .ok (.ireturn, 1) := by decide +kernel
set_option maxRecDepth 20000 in
theorem ggX6_orderAnew_X6_isScript : GoodIn wsX6_orderAnew wsX6_isScript := goodIn_r _ [5, 6, 7, 8, 4, 9, 49, 50, 51, 52, 53, 54, 55, 56, 57, 58, 59, 60, 61, 62, 63, 64, 65, 66, 67, 68, 69, 70, 71, 72] (by decide +kernel) (by decide +kernel)
set_option maxRecDepth 20000 in
theorem gX6_orderAnew_X6_isScript : GoodIn wsX6_orderAnew (wsV RX6 133 RX6 yX6_isScript wsX6_isScript) := goodIn_app (goodIn_of _ (by decide +kernel)) ggX6_orderAnew_X6_isScript
set_option maxRecDepth 20000 in
theorem ggX6_orderAnew_X6_asks : GoodIn wsX6_orderAnew wsX6_asks := goodIn_r _ [13, 14, 49, 50, 51, 52, 53, 54, 55, 56, 57, 58, 59, 60, 61, 62, 63, 64, 65, 66, 67, 68, 69, 70, 71, 72] (by decide +kernel) (by decide +kernel)
set_option maxRecDepth 20000 in
theorem gX6_orderAnew_X6_asks : GoodIn wsX6_orderAnew (wsV RX6 82 RX6 yX6_asks wsX6_asks) := goodIn_app (goodIn_of _ (by decide +kernel)) ggX6_orderAnew_X6_asks
set_option maxRecDepth 20000 in
theorem ggX6_orderAnew_X6_slipsOf : GoodIn wsX6_orderAnew wsX6_slipsOf := goodIn_r _ [18, 19, 20, 21, 22, 23, 24, 25, 4, 26, 27, 28, 29, 30, 31, 32, 33, 34, 35, 36, 37, 38, 39, 40, 41, 42, 43, 44, 45, 46, 47, 48, 49, 50, 51, 52, 53, 54, 55, 56, 57, 58, 59, 60, 61, 62, 63, 64, 65, 66, 67, 68, 69, 70, 71, 72] (by decide +kernel) (by decide +kernel)
set_option maxRecDepth 20000 in
theorem gX6_orderAnew_X6_slipsOf : GoodIn wsX6_orderAnew (wsV RX6 130 RX6 yX6_slipsOf wsX6_slipsOf) := goodIn_app (goodIn_of _ (by decide +kernel)) ggX6_orderAnew_X6_slipsOf
theorem dX6_orderAnew_0 : decode cX6_orderAnew 0 = .ok (.aload_n 0, 1) := by decide +kernel
theorem dX6_orderAnew_1 : decode cX6_orderAnew 1 = .ok (.aload_n 0, 1) := by decide +kernel
theorem dX6_orderAnew_2 : decode cX6_orderAnew 2 = .ok (.iload_n 1, 1) := by decide +kernel
theorem dX6_orderAnew_3 : decode cX6_orderAnew 3 = .ok (.invokevirtual 133, 3) := by decide +kernel
theorem dX6_orderAnew_6 : decode cX6_orderAnew 6 = .ok (.invokevirtual 82, 3) := by decide +kernel
theorem dX6_orderAnew_9 : decode cX6_orderAnew 9 = .ok (.ifCond .eq 12, 3) := by decide +kernel
theorem dX6_orderAnew_12 : decode cX6_orderAnew 12 = .ok (.aload_n 0, 1) := by decide +kernel
theorem dX6_orderAnew_13 : decode cX6_orderAnew 13 = .ok (.iload_n 1, 1) := by decide +kernel
theorem dX6_orderAnew_14 : decode cX6_orderAnew 14 = .ok (.iconst 3, 1) := by decide +kernel
theorem dX6_orderAnew_15 : decode cX6_orderAnew 15 = .ok (.invokevirtual 130, 3) := by decide +kernel
theorem dX6_orderAnew_18 : decode cX6_orderAnew 18 = .ok (.goto 4, 3) := by decide +kernel
theorem dX6_orderAnew_21 : decode cX6_orderAnew 21 = .ok (.iconst 0, 1) := by decide +kernel
theorem dX6_orderAnew_22 : decode cX6_orderAnew 22 = .ok (.ireturn, 1) := by decide +kernel
theorem dX6_lacking_0 : decode cX6_lacking 0 = .ok (.aload_n 0, 1) := by decide +kernel
theorem dX6_lacking_1 : decode cX6_lacking 1 = .ok (.getfield 53, 3) := by decide +kernel
theorem dX6_lacking_4 : decode cX6_lacking 4 = .ok (.iload_n 1, 1) := by decide +kernel
theorem dX6_lacking_5 : decode cX6_lacking 5 = .ok (.iaload, 1) := by decide +kernel
theorem dX6_lacking_6 : decode cX6_lacking 6 = .ok (.istore_n 2, 1) := by decide +kernel
theorem dX6_lacking_7 : decode cX6_lacking 7 = .ok (.iload_n 2, 1) := by decide +kernel
theorem dX6_lacking_8 : decode cX6_lacking 8 = .ok (.iconst 2, 1) := by decide +kernel
theorem dX6_lacking_9 : decode cX6_lacking 9 = .ok (.if_icmp .ge 7, 3) := by decide +kernel
theorem dX6_lacking_12 : decode cX6_lacking 12 = .ok (.iconst 2, 1) := by decide +kernel
theorem dX6_lacking_13 : decode cX6_lacking 13 = .ok (.iload_n 2, 1) := by decide +kernel
theorem dX6_lacking_14 : decode cX6_lacking 14 = .ok (.isub, 1) := by decide +kernel
theorem dX6_lacking_15 : decode cX6_lacking 15 = .ok (.ireturn, 1) := by decide +kernel
theorem dX6_lacking_16 : decode cX6_lacking 16 = .ok (.aload_n 0, 1) := by decide +kernel
theorem dX6_lacking_17 : decode cX6_lacking 17 = .ok (.getfield 47, 3) := by decide +kernel
theorem dX6_lacking_20 : decode cX6_lacking 20 = .ok (.iconst 3, 1) := by decide +kernel
theorem dX6_lacking_21 : decode cX6_lacking 21 = .ok (.iload_n 1, 1) := by decide +kernel
theorem dX6_lacking_22 : decode cX6_lacking 22 = .ok (.imul, 1) := by decide +kernel
theorem dX6_lacking_23 : decode cX6_lacking 23 = .ok (.iaload, 1) := by decide +kernel
theorem dX6_lacking_24 : decode cX6_lacking 24 = .ok (.aload_n 0, 1) := by decide +kernel
theorem dX6_lacking_25 : decode cX6_lacking 25 = .ok (.getfield 47, 3) := by decide +kernel
theorem dX6_lacking_28 : decode cX6_lacking 28 = .ok (.iconst 3, 1) := by decide +kernel
theorem dX6_lacking_29 : decode cX6_lacking 29 = .ok (.iload_n 1, 1) := by decide +kernel
theorem dX6_lacking_30 : decode cX6_lacking 30 = .ok (.imul, 1) := by decide +kernel
theorem dX6_lacking_31 : decode cX6_lacking 31 = .ok (.iconst 1, 1) := by decide +kernel
theorem dX6_lacking_32 : decode cX6_lacking 32 = .ok (.iadd, 1) := by decide +kernel
theorem dX6_lacking_33 : decode cX6_lacking 33 = .ok (.iaload, 1) := by decide +kernel
theorem dX6_lacking_34 : decode cX6_lacking 34 = .ok (.isub, 1) := by decide +kernel
theorem dX6_lacking_35 : decode cX6_lacking 35 = .ok (.istore_n 3, 1) := by decide +kernel
theorem dX6_lacking_36 : decode cX6_lacking 36 = .ok (.iload_n 2, 1) := by decide +kernel
theorem dX6_lacking_37 : decode cX6_lacking 37 = .ok (.iconst 2, 1) := by decide +kernel
theorem dX6_lacking_38 : decode cX6_lacking 38 = .ok (.if_icmp .ne 18, 3) := by decide +kernel
theorem dX6_lacking_41 : decode cX6_lacking 41 = .ok (.iload_n 3, 1) := by decide +kernel
theorem dX6_lacking_42 : decode cX6_lacking 42 = .ok (.iconst 3, 1) := by decide +kernel
theorem dX6_lacking_43 : decode cX6_lacking 43 = .ok (.if_icmp .gt 9, 3) := by decide +kernel
theorem dX6_lacking_46 : decode cX6_lacking 46 = .ok (.iload_n 3, 1) := by decide +kernel
theorem dX6_lacking_47 : decode cX6_lacking 47 = .ok (.bipush (-3), 2) := by decide +kernel
theorem dX6_lacking_49 : decode cX6_lacking 49 = .ok (.if_icmp .ge 7, 3) := by decide +kernel
theorem dX6_lacking_52 : decode cX6_lacking 52 = .ok (.iconst 1, 1) := by decide +kernel
theorem dX6_lacking_53 : decode cX6_lacking 53 = .ok (.goto 4, 3) := by decide +kernel
theorem dX6_lacking_56 : decode cX6_lacking 56 = .ok (.iconst 0, 1) := by decide +kernel
theorem dX6_lacking_57 : decode cX6_lacking 57 = .ok (.ireturn, 1) := by decide +kernel
set_option maxRecDepth 20000 in
theorem ggX6_gradeOf_X6_lacking : GoodIn wsX6_gradeOf wsX6_lacking := goodIn_r _ [7, 2, 1, 8, 9, 10, 11, 12, 13, 14, 15, 16, 17, 18, 19, 20, 21, 22, 23, 24, 25, 26, 27, 28, 29, 30, 31] (by decide +kernel) (by decide +kernel)
set_option maxRecDepth 20000 in
theorem gX6_gradeOf_X6_lacking : GoodIn wsX6_gradeOf (wsV RX6 139 RX6 yX6_lacking wsX6_lacking) := goodIn_app (goodIn_of _ (by decide +kernel)) ggX6_gradeOf_X6_lacking
theorem dX6_gradeOf_0 : decode cX6_gradeOf 0 = .ok (.aload_n 0, 1) := by decide +kernel
theorem dX6_gradeOf_1 : decode cX6_gradeOf 1 = .ok (.iload_n 1, 1) := by decide +kernel
theorem dX6_gradeOf_2 : decode cX6_gradeOf 2 = .ok (.invokevirtual 139, 3) := by decide +kernel
theorem dX6_gradeOf_5 : decode cX6_gradeOf 5 = .ok (.ifCond .le 5, 3) := by decide +kernel
theorem dX6_gradeOf_8 : decode cX6_gradeOf 8 = .ok (.iconst (-1), 1) := by decide +kernel
theorem dX6_gradeOf_9 : decode cX6_gradeOf 9 = .ok (.ireturn, 1) := by decide +kernel
theorem dX6_gradeOf_10 : decode cX6_gradeOf 10 = .ok (.aload_n 0, 1) := by decide +kernel
theorem dX6_gradeOf_11 : decode cX6_gradeOf 11 = .ok (.getfield 47, 3) := by decide +kernel
theorem dX6_gradeOf_14 : decode cX6_gradeOf 14 = .ok (.iconst 3, 1) := by decide +kernel
theorem dX6_gradeOf_15 : decode cX6_gradeOf 15 = .ok (.iload_n 1, 1) := by decide +kernel
theorem dX6_gradeOf_16 : decode cX6_gradeOf 16 = .ok (.imul, 1) := by decide +kernel
theorem dX6_gradeOf_17 : decode cX6_gradeOf 17 = .ok (.iaload, 1) := by decide +kernel
theorem dX6_gradeOf_18 : decode cX6_gradeOf 18 = .ok (.istore_n 2, 1) := by decide +kernel
theorem dX6_gradeOf_19 : decode cX6_gradeOf 19 = .ok (.aload_n 0, 1) := by decide +kernel
theorem dX6_gradeOf_20 : decode cX6_gradeOf 20 = .ok (.getfield 47, 3) := by decide +kernel
theorem dX6_gradeOf_23 : decode cX6_gradeOf 23 = .ok (.iconst 3, 1) := by decide +kernel
theorem dX6_gradeOf_24 : decode cX6_gradeOf 24 = .ok (.iload_n 1, 1) := by decide +kernel
theorem dX6_gradeOf_25 : decode cX6_gradeOf 25 = .ok (.imul, 1) := by decide +kernel
theorem dX6_gradeOf_26 : decode cX6_gradeOf 26 = .ok (.iconst 1, 1) := by decide +kernel
theorem dX6_gradeOf_27 : decode cX6_gradeOf 27 = .ok (.iadd, 1) := by decide +kernel
theorem dX6_gradeOf_28 : decode cX6_gradeOf 28 = .ok (.iaload, 1) := by decide +kernel
theorem dX6_gradeOf_29 : decode cX6_gradeOf 29 = .ok (.istore_n 3, 1) := by decide +kernel
theorem dX6_gradeOf_30 : decode cX6_gradeOf 30 = .ok (.aload_n 0, 1) := by decide +kernel
theorem dX6_gradeOf_31 : decode cX6_gradeOf 31 = .ok (.getfield 47, 3) := by decide +kernel
theorem dX6_gradeOf_34 : decode cX6_gradeOf 34 = .ok (.iconst 3, 1) := by decide +kernel
theorem dX6_gradeOf_35 : decode cX6_gradeOf 35 = .ok (.iload_n 1, 1) := by decide +kernel
theorem dX6_gradeOf_36 : decode cX6_gradeOf 36 = .ok (.imul, 1) := by decide +kernel
theorem dX6_gradeOf_37 : decode cX6_gradeOf 37 = .ok (.iconst 2, 1) := by decide +kernel
theorem dX6_gradeOf_38 : decode cX6_gradeOf 38 = .ok (.iadd, 1) := by decide +kernel
theorem dX6_gradeOf_39 : decode cX6_gradeOf 39 = .ok (.iaload, 1) := by decide +kernel
theorem dX6_gradeOf_40 : decode cX6_gradeOf 40 = .ok (.istore 4, 2) := by decide +kernel
theorem dX6_gradeOf_42 : decode cX6_gradeOf 42 = .ok (.aload_n 0, 1) := by decide +kernel
theorem dX6_gradeOf_43 : decode cX6_gradeOf 43 = .ok (.getfield 53, 3) := by decide +kernel
theorem dX6_gradeOf_46 : decode cX6_gradeOf 46 = .ok (.iload_n 1, 1) := by decide +kernel
theorem dX6_gradeOf_47 : decode cX6_gradeOf 47 = .ok (.iaload, 1) := by decide +kernel
theorem dX6_gradeOf_48 : decode cX6_gradeOf 48 = .ok (.iconst 2, 1) := by decide +kernel
theorem dX6_gradeOf_49 : decode cX6_gradeOf 49 = .ok (.if_icmp .ne 9, 3) := by decide +kernel
theorem dX6_gradeOf_52 : decode cX6_gradeOf 52 = .ok (.iload_n 2, 1) := by decide +kernel
theorem dX6_gradeOf_53 : decode cX6_gradeOf 53 = .ok (.iload_n 3, 1) := by decide +kernel
theorem dX6_gradeOf_54 : decode cX6_gradeOf 54 = .ok (.iadd, 1) := by decide +kernel
theorem dX6_gradeOf_55 : decode cX6_gradeOf 55 = .ok (.iconst 2, 1) := by decide +kernel
theorem dX6_gradeOf_56 : decode cX6_gradeOf 56 = .ok (.idiv, 1) := by decide +kernel
theorem dX6_gradeOf_57 : decode cX6_gradeOf 57 = .ok (.ireturn, 1) := by decide +kernel
theorem dX6_gradeOf_58 : decode cX6_gradeOf 58 = .ok (.iload_n 2, 1) := by decide +kernel
theorem dX6_gradeOf_59 : decode cX6_gradeOf 59 = .ok (.iload_n 3, 1) := by decide +kernel
theorem dX6_gradeOf_60 : decode cX6_gradeOf 60 = .ok (.if_icmp .ge 7, 3) := by decide +kernel
theorem dX6_gradeOf_63 : decode cX6_gradeOf 63 = .ok (.iload_n 2, 1) := by decide +kernel
theorem dX6_gradeOf_64 : decode cX6_gradeOf 64 = .ok (.goto 4, 3) := by decide +kernel
theorem dX6_gradeOf_67 : decode cX6_gradeOf 67 = .ok (.iload_n 3, 1) := by decide +kernel
theorem dX6_gradeOf_68 : decode cX6_gradeOf 68 = .ok (.istore 5, 2) := by decide +kernel
theorem dX6_gradeOf_70 : decode cX6_gradeOf 70 = .ok (.iload_n 2, 1) := by decide +kernel
theorem dX6_gradeOf_71 : decode cX6_gradeOf 71 = .ok (.iload_n 3, 1) := by decide +kernel
theorem dX6_gradeOf_72 : decode cX6_gradeOf 72 = .ok (.if_icmp .ge 7, 3) := by decide +kernel
theorem dX6_gradeOf_75 : decode cX6_gradeOf 75 = .ok (.iload_n 3, 1) := by decide +kernel
theorem dX6_gradeOf_76 : decode cX6_gradeOf 76 = .ok (.goto 4, 3) := by decide +kernel
theorem dX6_gradeOf_79 : decode cX6_gradeOf 79 = .ok (.iload_n 2, 1) := by decide +kernel
theorem dX6_gradeOf_80 : decode cX6_gradeOf 80 = .ok (.istore 6, 2) := by decide +kernel
theorem dX6_gradeOf_82 : decode cX6_gradeOf 82 = .ok (.iload 4, 2) := by decide +kernel
theorem dX6_gradeOf_84 : decode cX6_gradeOf 84 = .ok (.iload 5, 2) := by decide +kernel
theorem dX6_gradeOf_86 : decode cX6_gradeOf 86 = .ok (.if_icmp .ge 8, 3) := by decide +kernel
theorem dX6_gradeOf_89 : decode cX6_gradeOf 89 = .ok (.iload 5, 2) := by decide +kernel
theorem dX6_gradeOf_91 : decode cX6_gradeOf 91 = .ok (.goto 17, 3) := by decide +kernel
theorem dX6_gradeOf_94 : decode cX6_gradeOf 94 = .ok (.iload 4, 2) := by decide +kernel
theorem dX6_gradeOf_96 : decode cX6_gradeOf 96 = .ok (.iload 6, 2) := by decide +kernel
theorem dX6_gradeOf_98 : decode cX6_gradeOf 98 = .ok (.if_icmp .le 8, 3) := by decide +kernel
theorem dX6_gradeOf_101 : decode cX6_gradeOf 101 = .ok (.iload 6, 2) := by decide +kernel
theorem dX6_gradeOf_103 : decode cX6_gradeOf 103 = .ok (.goto 5, 3) := by decide +kernel
theorem dX6_gradeOf_106 : decode cX6_gradeOf 106 = .ok (.iload 4, 2) := by decide +kernel
theorem dX6_gradeOf_108 : decode cX6_gradeOf 108 = .ok (.ireturn, 1) := by decide +kernel
set_option maxRecDepth 20000 in
theorem ggX6_isExaminer_X6_in : GoodIn wsX6_isExaminer wsX6_in := goodIn_r _ [4] (by decide +kernel) (by decide +kernel)
set_option maxRecDepth 20000 in
theorem gX6_isExaminer_X6_in : GoodIn wsX6_isExaminer (va_wsS RX6 78 yX6_in wsX6_in) := goodIn_app (goodIn_of _ (by decide +kernel)) ggX6_isExaminer_X6_in
theorem dX6_isExaminer_0 : decode cX6_isExaminer 0 = .ok (.iload_n 0, 1) := by decide +kernel
theorem dX6_isExaminer_1 : decode cX6_isExaminer 1 = .ok (.iconst 0, 1) := by decide +kernel
theorem dX6_isExaminer_2 : decode cX6_isExaminer 2 = .ok (.iconst 5, 1) := by decide +kernel
theorem dX6_isExaminer_3 : decode cX6_isExaminer 3 = .ok (.invokestatic 78, 3) := by decide +kernel
theorem dX6_isExaminer_6 : decode cX6_isExaminer 6 = .ok (.ireturn, 1) := by decide +kernel
theorem dX6_hasMarked_0 : decode cX6_hasMarked 0 = .ok (.iconst 0, 1) := by decide +kernel
theorem dX6_hasMarked_1 : decode cX6_hasMarked 1 = .ok (.istore_n 3, 1) := by decide +kernel
theorem dX6_hasMarked_2 : decode cX6_hasMarked 2 = .ok (.iconst 0, 1) := by decide +kernel
theorem dX6_hasMarked_3 : decode cX6_hasMarked 3 = .ok (.istore 4, 2) := by decide +kernel
theorem dX6_hasMarked_5 : decode cX6_hasMarked 5 = .ok (.iload 4, 2) := by decide +kernel
theorem dX6_hasMarked_7 : decode cX6_hasMarked 7 = .ok (.aload_n 0, 1) := by decide +kernel
theorem dX6_hasMarked_8 : decode cX6_hasMarked 8 = .ok (.getfield 53, 3) := by decide +kernel
theorem dX6_hasMarked_11 : decode cX6_hasMarked 11 = .ok (.iload_n 2, 1) := by decide +kernel
theorem dX6_hasMarked_12 : decode cX6_hasMarked 12 = .ok (.iaload, 1) := by decide +kernel
theorem dX6_hasMarked_13 : decode cX6_hasMarked 13 = .ok (.if_icmp .ge 34, 3) := by decide +kernel
theorem dX6_hasMarked_16 : decode cX6_hasMarked 16 = .ok (.iload_n 3, 1) := by decide +kernel
theorem dX6_hasMarked_17 : decode cX6_hasMarked 17 = .ok (.ifCond .ne 18, 3) := by decide +kernel
theorem dX6_hasMarked_20 : decode cX6_hasMarked 20 = .ok (.aload_n 0, 1) := by decide +kernel
theorem dX6_hasMarked_21 : decode cX6_hasMarked 21 = .ok (.getfield 50, 3) := by decide +kernel
theorem dX6_hasMarked_24 : decode cX6_hasMarked 24 = .ok (.iconst 3, 1) := by decide +kernel
theorem dX6_hasMarked_25 : decode cX6_hasMarked 25 = .ok (.iload_n 2, 1) := by decide +kernel
theorem dX6_hasMarked_26 : decode cX6_hasMarked 26 = .ok (.imul, 1) := by decide +kernel
theorem dX6_hasMarked_27 : decode cX6_hasMarked 27 = .ok (.iload 4, 2) := by decide +kernel
theorem dX6_hasMarked_29 : decode cX6_hasMarked 29 = .ok (.iadd, 1) := by decide +kernel
theorem dX6_hasMarked_30 : decode cX6_hasMarked 30 = .ok (.iaload, 1) := by decide +kernel
theorem dX6_hasMarked_31 : decode cX6_hasMarked 31 = .ok (.iload_n 1, 1) := by decide +kernel
theorem dX6_hasMarked_32 : decode cX6_hasMarked 32 = .ok (.if_icmp .ne 7, 3) := by decide +kernel
theorem dX6_hasMarked_35 : decode cX6_hasMarked 35 = .ok (.iconst 1, 1) := by decide +kernel
theorem dX6_hasMarked_36 : decode cX6_hasMarked 36 = .ok (.goto 4, 3) := by decide +kernel
theorem dX6_hasMarked_39 : decode cX6_hasMarked 39 = .ok (.iconst 0, 1) := by decide +kernel
theorem dX6_hasMarked_40 : decode cX6_hasMarked 40 = .ok (.istore_n 3, 1) := by decide +kernel
theorem dX6_hasMarked_41 : decode cX6_hasMarked 41 = .ok (.iinc 4 1, 3) := by decide +kernel
theorem dX6_hasMarked_44 : decode cX6_hasMarked 44 = .ok (.goto (-39), 3) := by decide +kernel
theorem dX6_hasMarked_47 : decode cX6_hasMarked 47 = .ok (.iload_n 3, 1) := by decide +kernel
theorem dX6_hasMarked_48 : decode cX6_hasMarked 48 = .ok (.ireturn, 1) := by decide +kernel
set_option maxRecDepth 20000 in
theorem ggX6_mark_X6_isExaminer : GoodIn wsX6_mark wsX6_isExaminer := goodIn_r _ [8, 9, 10, 7, 11] (by decide +kernel) (by decide +kernel)
set_option maxRecDepth 20000 in
theorem gX6_mark_X6_isExaminer : GoodIn wsX6_mark (va_wsS RX6 142 yX6_isExaminer wsX6_isExaminer) := goodIn_app (goodIn_of _ (by decide +kernel)) ggX6_mark_X6_isExaminer
set_option maxRecDepth 20000 in
theorem ggX6_mark_X6_isScript : GoodIn wsX6_mark wsX6_isScript := goodIn_r _ [15, 16, 9, 10, 7, 11, 34, 35, 36, 37, 38, 39, 40, 41, 42, 43, 44, 45, 46, 47, 48, 49, 50, 51, 52, 53, 54, 55, 56, 57] (by decide +kernel) (by decide +kernel)
set_option maxRecDepth 20000 in
theorem gX6_mark_X6_isScript : GoodIn wsX6_mark (wsV RX6 133 RX6 yX6_isScript wsX6_isScript) := goodIn_app (goodIn_of _ (by decide +kernel)) ggX6_mark_X6_isScript
set_option maxRecDepth 20000 in
theorem ggX6_mark_X6_asks : GoodIn wsX6_mark wsX6_asks := goodIn_r _ [20, 21, 34, 35, 36, 37, 38, 39, 40, 41, 42, 43, 44, 45, 46, 47, 48, 49, 50, 51, 52, 53, 54, 55, 56, 57] (by decide +kernel) (by decide +kernel)
set_option maxRecDepth 20000 in
theorem gX6_mark_X6_asks : GoodIn wsX6_mark (wsV RX6 82 RX6 yX6_asks wsX6_asks) := goodIn_app (goodIn_of _ (by decide +kernel)) ggX6_mark_X6_asks
set_option maxRecDepth 20000 in
theorem ggX6_mark_X6_in : GoodIn wsX6_mark wsX6_in := goodIn_r _ [11] (by decide +kernel) (by decide +kernel)
set_option maxRecDepth 20000 in
theorem gX6_mark_X6_in : GoodIn wsX6_mark (va_wsS RX6 78 yX6_in wsX6_in) := goodIn_app (goodIn_of _ (by decide +kernel)) ggX6_mark_X6_in
set_option maxRecDepth 20000 in
theorem ggX6_mark_X6_fails : GoodIn wsX6_mark wsX6_fails := goodIn_r _ [25, 21, 34, 35, 36, 37, 38, 39, 40, 41, 42, 43, 44, 45, 46, 47, 48, 49, 50, 51, 52, 53, 54, 55, 56, 57] (by decide +kernel) (by decide +kernel)
set_option maxRecDepth 20000 in
theorem gX6_mark_X6_fails : GoodIn wsX6_mark (wsV RX6 86 RX6 yX6_fails wsX6_fails) := goodIn_app (goodIn_of _ (by decide +kernel)) ggX6_mark_X6_fails
set_option maxRecDepth 20000 in
theorem ggX6_mark_X6_hasMarked : GoodIn wsX6_mark wsX6_hasMarked := goodIn_r _ [29, 3, 4, 34, 35, 36, 37, 38, 39, 40, 41, 42, 43, 44, 45, 46, 47, 48, 49, 50, 51, 52, 53, 54, 55, 56, 57] (by decide +kernel) (by decide +kernel)
set_option maxRecDepth 20000 in
theorem gX6_mark_X6_hasMarked : GoodIn wsX6_mark (wsV RX6 145 RX6 yX6_hasMarked wsX6_hasMarked) := goodIn_app (goodIn_of _ (by decide +kernel)) ggX6_mark_X6_hasMarked
set_option maxRecDepth 20000 in
theorem ggX6_mark_X6_lacking : GoodIn wsX6_mark wsX6_lacking := goodIn_r _ [33, 3, 2, 34, 35, 36, 37, 38, 39, 40, 41, 42, 43, 44, 45, 46, 47, 48, 49, 50, 51, 52, 53, 54, 55, 56, 57] (by decide +kernel) (by decide +kernel)
set_option maxRecDepth 20000 in
theorem gX6_mark_X6_lacking : GoodIn wsX6_mark (wsV RX6 139 RX6 yX6_lacking wsX6_lacking) := goodIn_app (goodIn_of _ (by decide +kernel)) ggX6_mark_X6_lacking
theorem dX6_mark_0 : decode cX6_mark 0 = .ok (.aload_n 0, 1) := by decide +kernel
theorem dX6_mark_1 : decode cX6_mark 1 = .ok (.iload_n 1, 1) := by decide +kernel
theorem dX6_mark_2 : decode cX6_mark 2 = .ok (.invokestatic 142, 3) := by decide +kernel
theorem dX6_mark_5 : decode cX6_mark 5 = .ok (.ifCond .eq 15, 3) := by decide +kernel
theorem dX6_mark_8 : decode cX6_mark 8 = .ok (.aload_n 0, 1) := by decide +kernel
theorem dX6_mark_9 : decode cX6_mark 9 = .ok (.iload_n 2, 1) := by decide +kernel
theorem dX6_mark_10 : decode cX6_mark 10 = .ok (.invokevirtual 133, 3) := by decide +kernel
theorem dX6_mark_13 : decode cX6_mark 13 = .ok (.ifCond .eq 7, 3) := by decide +kernel
theorem dX6_mark_16 : decode cX6_mark 16 = .ok (.iconst 1, 1) := by decide +kernel
theorem dX6_mark_17 : decode cX6_mark 17 = .ok (.goto 4, 3) := by decide +kernel
theorem dX6_mark_20 : decode cX6_mark 20 = .ok (.iconst 0, 1) := by decide +kernel
theorem dX6_mark_21 : decode cX6_mark 21 = .ok (.invokevirtual 82, 3) := by decide +kernel
theorem dX6_mark_24 : decode cX6_mark 24 = .ok (.ifCond .ne 5, 3) := by decide +kernel
theorem dX6_mark_27 : decode cX6_mark 27 = .ok (.iconst 0, 1) := by decide +kernel
theorem dX6_mark_28 : decode cX6_mark 28 = .ok (.ireturn, 1) := by decide +kernel
theorem dX6_mark_29 : decode cX6_mark 29 = .ok (.iload_n 3, 1) := by decide +kernel
theorem dX6_mark_30 : decode cX6_mark 30 = .ok (.iconst 0, 1) := by decide +kernel
theorem dX6_mark_31 : decode cX6_mark 31 = .ok (.bipush 20, 2) := by decide +kernel
theorem dX6_mark_33 : decode cX6_mark 33 = .ok (.invokestatic 78, 3) := by decide +kernel
theorem dX6_mark_36 : decode cX6_mark 36 = .ok (.ifCond .ne 9, 3) := by decide +kernel
theorem dX6_mark_39 : decode cX6_mark 39 = .ok (.aload_n 0, 1) := by decide +kernel
theorem dX6_mark_40 : decode cX6_mark 40 = .ok (.iconst 2, 1) := by decide +kernel
theorem dX6_mark_41 : decode cX6_mark 41 = .ok (.invokevirtual 86, 3) := by decide +kernel
theorem dX6_mark_44 : decode cX6_mark 44 = .ok (.ireturn, 1) := by decide +kernel
theorem dX6_mark_45 : decode cX6_mark 45 = .ok (.aload_n 0, 1) := by decide +kernel
theorem dX6_mark_46 : decode cX6_mark 46 = .ok (.getfield 56, 3) := by decide +kernel
theorem dX6_mark_49 : decode cX6_mark 49 = .ok (.iload_n 1, 1) := by decide +kernel
theorem dX6_mark_50 : decode cX6_mark 50 = .ok (.baload, 1) := by decide +kernel
theorem dX6_mark_51 : decode cX6_mark 51 = .ok (.ifCond .ne 20, 3) := by decide +kernel
theorem dX6_mark_54 : decode cX6_mark 54 = .ok (.aload_n 0, 1) := by decide +kernel
theorem dX6_mark_55 : decode cX6_mark 55 = .ok (.iload_n 1, 1) := by decide +kernel
theorem dX6_mark_56 : decode cX6_mark 56 = .ok (.iload_n 2, 1) := by decide +kernel
theorem dX6_mark_57 : decode cX6_mark 57 = .ok (.invokevirtual 145, 3) := by decide +kernel
theorem dX6_mark_60 : decode cX6_mark 60 = .ok (.ifCond .ne 11, 3) := by decide +kernel
theorem dX6_mark_63 : decode cX6_mark 63 = .ok (.aload_n 0, 1) := by decide +kernel
theorem dX6_mark_64 : decode cX6_mark 64 = .ok (.iload_n 2, 1) := by decide +kernel
theorem dX6_mark_65 : decode cX6_mark 65 = .ok (.invokevirtual 139, 3) := by decide +kernel
theorem dX6_mark_68 : decode cX6_mark 68 = .ok (.ifCond .ne 9, 3) := by decide +kernel
theorem dX6_mark_71 : decode cX6_mark 71 = .ok (.aload_n 0, 1) := by decide +kernel
theorem dX6_mark_72 : decode cX6_mark 72 = .ok (.iconst 3, 1) := by decide +kernel
theorem dX6_mark_73 : decode cX6_mark 73 = .ok (.invokevirtual 86, 3) := by decide +kernel
theorem dX6_mark_76 : decode cX6_mark 76 = .ok (.ireturn, 1) := by decide +kernel
theorem dX6_mark_77 : decode cX6_mark 77 = .ok (.aload_n 0, 1) := by decide +kernel
theorem dX6_mark_78 : decode cX6_mark 78 = .ok (.getfield 47, 3) := by decide +kernel
theorem dX6_mark_81 : decode cX6_mark 81 = .ok (.iconst 3, 1) := by decide +kernel
theorem dX6_mark_82 : decode cX6_mark 82 = .ok (.iload_n 2, 1) := by decide +kernel
theorem dX6_mark_83 : decode cX6_mark 83 = .ok (.imul, 1) := by decide +kernel
theorem dX6_mark_84 : decode cX6_mark 84 = .ok (.aload_n 0, 1) := by decide +kernel
theorem dX6_mark_85 : decode cX6_mark 85 = .ok (.getfield 53, 3) := by decide +kernel
theorem dX6_mark_88 : decode cX6_mark 88 = .ok (.iload_n 2, 1) := by decide +kernel
theorem dX6_mark_89 : decode cX6_mark 89 = .ok (.iaload, 1) := by decide +kernel
theorem dX6_mark_90 : decode cX6_mark 90 = .ok (.iadd, 1) := by decide +kernel
theorem dX6_mark_91 : decode cX6_mark 91 = .ok (.iload_n 3, 1) := by decide +kernel
theorem dX6_mark_92 : decode cX6_mark 92 = .ok (.iastore, 1) := by decide +kernel
theorem dX6_mark_93 : decode cX6_mark 93 = .ok (.aload_n 0, 1) := by decide +kernel
theorem dX6_mark_94 : decode cX6_mark 94 = .ok (.getfield 50, 3) := by decide +kernel
theorem dX6_mark_97 : decode cX6_mark 97 = .ok (.iconst 3, 1) := by decide +kernel
theorem dX6_mark_98 : decode cX6_mark 98 = .ok (.iload_n 2, 1) := by decide +kernel
theorem dX6_mark_99 : decode cX6_mark 99 = .ok (.imul, 1) := by decide +kernel
theorem dX6_mark_100 : decode cX6_mark 100 = .ok (.aload_n 0, 1) := by decide +kernel
theorem dX6_mark_101 : decode cX6_mark 101 = .ok (.getfield 53, 3) := by decide +kernel
theorem dX6_mark_104 : decode cX6_mark 104 = .ok (.iload_n 2, 1) := by decide +kernel
theorem dX6_mark_105 : decode cX6_mark 105 = .ok (.iaload, 1) := by decide +kernel
theorem dX6_mark_106 : decode cX6_mark 106 = .ok (.iadd, 1) := by decide +kernel
theorem dX6_mark_107 : decode cX6_mark 107 = .ok (.iload_n 1, 1) := by decide +kernel
theorem dX6_mark_108 : decode cX6_mark 108 = .ok (.iastore, 1) := by decide +kernel
theorem dX6_mark_109 : decode cX6_mark 109 = .ok (.aload_n 0, 1) := by decide +kernel
theorem dX6_mark_110 : decode cX6_mark 110 = .ok (.getfield 53, 3) := by decide +kernel
theorem dX6_mark_113 : decode cX6_mark 113 = .ok (.iload_n 2, 1) := by decide +kernel
theorem dX6_mark_114 : decode cX6_mark 114 = .ok (.dup2, 1) := by decide +kernel
theorem dX6_mark_115 : decode cX6_mark 115 = .ok (.iaload, 1) := by decide +kernel
theorem dX6_mark_116 : decode cX6_mark 116 = .ok (.iconst 1, 1) := by decide +kernel
theorem dX6_mark_117 : decode cX6_mark 117 = .ok (.iadd, 1) := by decide +kernel
theorem dX6_mark_118 : decode cX6_mark 118 = .ok (.iastore, 1) := by decide +kernel
theorem dX6_mark_119 : decode cX6_mark 119 = .ok (.aload_n 0, 1) := by decide +kernel
theorem dX6_mark_120 : decode cX6_mark 120 = .ok (.getfield 53, 3) := by decide +kernel
theorem dX6_mark_123 : decode cX6_mark 123 = .ok (.iload_n 2, 1) := by decide +kernel
theorem dX6_mark_124 : decode cX6_mark 124 = .ok (.iaload, 1) := by decide +kernel
theorem dX6_mark_125 : decode cX6_mark 125 = .ok (.ireturn, 1) := by decide +kernel
set_option maxRecDepth 20000 in
theorem ggX6_grade_X6_isScript : GoodIn wsX6_grade wsX6_isScript := goodIn_r _ [5, 6, 7, 8, 4, 9, 25, 26, 27, 28, 29, 30, 31, 32, 33, 34, 35, 36, 37, 38, 39, 40, 41, 42, 43, 44, 45, 46, 47, 48] (by decide +kernel) (by decide +kernel)
set_option maxRecDepth 20000 in
theorem gX6_grade_X6_isScript : GoodIn wsX6_grade (wsV RX6 133 RX6 yX6_isScript wsX6_isScript) := goodIn_app (goodIn_of _ (by decide +kernel)) ggX6_grade_X6_isScript
set_option maxRecDepth 20000 in
theorem ggX6_grade_X6_asks : GoodIn wsX6_grade wsX6_asks := goodIn_r _ [13, 14, 25, 26, 27, 28, 29, 30, 31, 32, 33, 34, 35, 36, 37, 38, 39, 40, 41, 42, 43, 44, 45, 46, 47, 48] (by decide +kernel) (by decide +kernel)
set_option maxRecDepth 20000 in
theorem gX6_grade_X6_asks : GoodIn wsX6_grade (wsV RX6 82 RX6 yX6_asks wsX6_asks) := goodIn_app (goodIn_of _ (by decide +kernel)) ggX6_grade_X6_asks
set_option maxRecDepth 20000 in
theorem ggX6_grade_X6_gradeOf : GoodIn wsX6_grade wsX6_gradeOf := goodIn_r _ [18, 19, 20, 21, 22, 23, 4, 24, 25, 26, 27, 28, 29, 30, 31, 32, 33, 34, 35, 36, 37, 38, 39, 40, 41, 42, 43, 44, 45, 46, 47, 48] (by decide +kernel) (by decide +kernel)
set_option maxRecDepth 20000 in
theorem gX6_grade_X6_gradeOf : GoodIn wsX6_grade (wsV RX6 148 RX6 yX6_gradeOf wsX6_gradeOf) := goodIn_app (goodIn_of _ (by decide +kernel)) ggX6_grade_X6_gradeOf
theorem dX6_grade_0 : decode cX6_grade 0 = .ok (.aload_n 0, 1) := by decide +kernel
theorem dX6_grade_1 : decode cX6_grade 1 = .ok (.aload_n 0, 1) := by decide +kernel
theorem dX6_grade_2 : decode cX6_grade 2 = .ok (.iload_n 1, 1) := by decide +kernel
theorem dX6_grade_3 : decode cX6_grade 3 = .ok (.invokevirtual 133, 3) := by decide +kernel
theorem dX6_grade_6 : decode cX6_grade 6 = .ok (.invokevirtual 82, 3) := by decide +kernel
theorem dX6_grade_9 : decode cX6_grade 9 = .ok (.ifCond .eq 11, 3) := by decide +kernel
theorem dX6_grade_12 : decode cX6_grade 12 = .ok (.aload_n 0, 1) := by decide +kernel
theorem dX6_grade_13 : decode cX6_grade 13 = .ok (.iload_n 1, 1) := by decide +kernel
theorem dX6_grade_14 : decode cX6_grade 14 = .ok (.invokevirtual 148, 3) := by decide +kernel
theorem dX6_grade_17 : decode cX6_grade 17 = .ok (.goto 4, 3) := by decide +kernel
theorem dX6_grade_20 : decode cX6_grade 20 = .ok (.iconst 0, 1) := by decide +kernel
theorem dX6_grade_21 : decode cX6_grade 21 = .ok (.ireturn, 1) := by decide +kernel
set_option maxRecDepth 20000 in
theorem ggX6_lacks_X6_isScript : GoodIn wsX6_lacks wsX6_isScript := goodIn_r _ [5, 6, 7, 8, 4, 9, 21, 22, 23, 24, 25, 26, 27, 28, 29, 30, 31, 32, 33, 34, 35, 36, 37, 38, 39, 40, 41, 42, 43, 44] (by decide +kernel) (by decide +kernel)
set_option maxRecDepth 20000 in
theorem gX6_lacks_X6_isScript : GoodIn wsX6_lacks (wsV RX6 133 RX6 yX6_isScript wsX6_isScript) := goodIn_app (goodIn_of _ (by decide +kernel)) ggX6_lacks_X6_isScript
set_option maxRecDepth 20000 in
theorem ggX6_lacks_X6_asks : GoodIn wsX6_lacks wsX6_asks := goodIn_r _ [13, 14, 21, 22, 23, 24, 25, 26, 27, 28, 29, 30, 31, 32, 33, 34, 35, 36, 37, 38, 39, 40, 41, 42, 43, 44] (by decide +kernel) (by decide +kernel)
set_option maxRecDepth 20000 in
theorem gX6_lacks_X6_asks : GoodIn wsX6_lacks (wsV RX6 82 RX6 yX6_asks wsX6_asks) := goodIn_app (goodIn_of _ (by decide +kernel)) ggX6_lacks_X6_asks
set_option maxRecDepth 20000 in
theorem ggX6_lacks_X6_lacking : GoodIn wsX6_lacks wsX6_lacking := goodIn_r _ [18, 19, 20, 21, 22, 23, 24, 25, 26, 27, 28, 29, 30, 31, 32, 33, 34, 35, 36, 37, 38, 39, 40, 41, 42, 43, 44] (by decide +kernel) (by decide +kernel)
set_option maxRecDepth 20000 in
theorem gX6_lacks_X6_lacking : GoodIn wsX6_lacks (wsV RX6 139 RX6 yX6_lacking wsX6_lacking) := goodIn_app (goodIn_of _ (by decide +kernel)) ggX6_lacks_X6_lacking
theorem dX6_lacks_0 : decode cX6_lacks 0 = .ok (.aload_n 0, 1) := by decide +kernel
theorem dX6_lacks_1 : decode cX6_lacks 1 = .ok (.aload_n 0, 1) := by decide +kernel
theorem dX6_lacks_2 : decode cX6_lacks 2 = .ok (.iload_n 1, 1) := by decide +kernel
theorem dX6_lacks_3 : decode cX6_lacks 3 = .ok (.invokevirtual 133, 3) := by decide +kernel
theorem dX6_lacks_6 : decode cX6_lacks 6 = .ok (.invokevirtual 82, 3) := by decide +kernel
theorem dX6_lacks_9 : decode cX6_lacks 9 = .ok (.ifCond .eq 11, 3) := by decide +kernel
theorem dX6_lacks_12 : decode cX6_lacks 12 = .ok (.aload_n 0, 1) := by decide +kernel
theorem dX6_lacks_13 : decode cX6_lacks 13 = .ok (.iload_n 1, 1) := by decide +kernel
theorem dX6_lacks_14 : decode cX6_lacks 14 = .ok (.invokevirtual 139, 3) := by decide +kernel
theorem dX6_lacks_17 : decode cX6_lacks 17 = .ok (.goto 4, 3) := by decide +kernel
theorem dX6_lacks_20 : decode cX6_lacks 20 = .ok (.iconst 0, 1) := by decide +kernel
theorem dX6_lacks_21 : decode cX6_lacks 21 = .ok (.ireturn, 1) := by decide +kernel
theorem dX6_dropsMarks_0 : decode cX6_dropsMarks 0 = .ok (.iconst 0, 1) := by decide +kernel
theorem dX6_dropsMarks_1 : decode cX6_dropsMarks 1 = .ok (.istore_n 3, 1) := by decide +kernel
theorem dX6_dropsMarks_2 : decode cX6_dropsMarks 2 = .ok (.iconst 0, 1) := by decide +kernel
theorem dX6_dropsMarks_3 : decode cX6_dropsMarks 3 = .ok (.istore 4, 2) := by decide +kernel
theorem dX6_dropsMarks_5 : decode cX6_dropsMarks 5 = .ok (.iload 4, 2) := by decide +kernel
theorem dX6_dropsMarks_7 : decode cX6_dropsMarks 7 = .ok (.aload_n 0, 1) := by decide +kernel
theorem dX6_dropsMarks_8 : decode cX6_dropsMarks 8 = .ok (.getfield 53, 3) := by decide +kernel
theorem dX6_dropsMarks_11 : decode cX6_dropsMarks 11 = .ok (.iload_n 2, 1) := by decide +kernel
theorem dX6_dropsMarks_12 : decode cX6_dropsMarks 12 = .ok (.iaload, 1) := by decide +kernel
theorem dX6_dropsMarks_13 : decode cX6_dropsMarks 13 = .ok (.if_icmp .ge 65, 3) := by decide +kernel
theorem dX6_dropsMarks_16 : decode cX6_dropsMarks 16 = .ok (.iconst 3, 1) := by decide +kernel
theorem dX6_dropsMarks_17 : decode cX6_dropsMarks 17 = .ok (.iload_n 2, 1) := by decide +kernel
theorem dX6_dropsMarks_18 : decode cX6_dropsMarks 18 = .ok (.imul, 1) := by decide +kernel
theorem dX6_dropsMarks_19 : decode cX6_dropsMarks 19 = .ok (.iload 4, 2) := by decide +kernel
theorem dX6_dropsMarks_21 : decode cX6_dropsMarks 21 = .ok (.iadd, 1) := by decide +kernel
theorem dX6_dropsMarks_22 : decode cX6_dropsMarks 22 = .ok (.istore 5, 2) := by decide +kernel
theorem dX6_dropsMarks_24 : decode cX6_dropsMarks 24 = .ok (.aload_n 0, 1) := by decide +kernel
theorem dX6_dropsMarks_25 : decode cX6_dropsMarks 25 = .ok (.getfield 50, 3) := by decide +kernel
theorem dX6_dropsMarks_28 : decode cX6_dropsMarks 28 = .ok (.iload 5, 2) := by decide +kernel
theorem dX6_dropsMarks_30 : decode cX6_dropsMarks 30 = .ok (.iaload, 1) := by decide +kernel
theorem dX6_dropsMarks_31 : decode cX6_dropsMarks 31 = .ok (.iload_n 1, 1) := by decide +kernel
theorem dX6_dropsMarks_32 : decode cX6_dropsMarks 32 = .ok (.if_icmp .eq 40, 3) := by decide +kernel
theorem dX6_dropsMarks_35 : decode cX6_dropsMarks 35 = .ok (.aload_n 0, 1) := by decide +kernel
theorem dX6_dropsMarks_36 : decode cX6_dropsMarks 36 = .ok (.getfield 47, 3) := by decide +kernel
theorem dX6_dropsMarks_39 : decode cX6_dropsMarks 39 = .ok (.iconst 3, 1) := by decide +kernel
theorem dX6_dropsMarks_40 : decode cX6_dropsMarks 40 = .ok (.iload_n 2, 1) := by decide +kernel
theorem dX6_dropsMarks_41 : decode cX6_dropsMarks 41 = .ok (.imul, 1) := by decide +kernel
theorem dX6_dropsMarks_42 : decode cX6_dropsMarks 42 = .ok (.iload_n 3, 1) := by decide +kernel
theorem dX6_dropsMarks_43 : decode cX6_dropsMarks 43 = .ok (.iadd, 1) := by decide +kernel
theorem dX6_dropsMarks_44 : decode cX6_dropsMarks 44 = .ok (.aload_n 0, 1) := by decide +kernel
theorem dX6_dropsMarks_45 : decode cX6_dropsMarks 45 = .ok (.getfield 47, 3) := by decide +kernel
theorem dX6_dropsMarks_48 : decode cX6_dropsMarks 48 = .ok (.iload 5, 2) := by decide +kernel
theorem dX6_dropsMarks_50 : decode cX6_dropsMarks 50 = .ok (.iaload, 1) := by decide +kernel
theorem dX6_dropsMarks_51 : decode cX6_dropsMarks 51 = .ok (.iastore, 1) := by decide +kernel
theorem dX6_dropsMarks_52 : decode cX6_dropsMarks 52 = .ok (.aload_n 0, 1) := by decide +kernel
theorem dX6_dropsMarks_53 : decode cX6_dropsMarks 53 = .ok (.getfield 50, 3) := by decide +kernel
theorem dX6_dropsMarks_56 : decode cX6_dropsMarks 56 = .ok (.iconst 3, 1) := by decide +kernel
theorem dX6_dropsMarks_57 : decode cX6_dropsMarks 57 = .ok (.iload_n 2, 1) := by decide +kernel
theorem dX6_dropsMarks_58 : decode cX6_dropsMarks 58 = .ok (.imul, 1) := by decide +kernel
theorem dX6_dropsMarks_59 : decode cX6_dropsMarks 59 = .ok (.iload_n 3, 1) := by decide +kernel
theorem dX6_dropsMarks_60 : decode cX6_dropsMarks 60 = .ok (.iadd, 1) := by decide +kernel
theorem dX6_dropsMarks_61 : decode cX6_dropsMarks 61 = .ok (.aload_n 0, 1) := by decide +kernel
theorem dX6_dropsMarks_62 : decode cX6_dropsMarks 62 = .ok (.getfield 50, 3) := by decide +kernel
theorem dX6_dropsMarks_65 : decode cX6_dropsMarks 65 = .ok (.iload 5, 2) := by decide +kernel
theorem dX6_dropsMarks_67 : decode cX6_dropsMarks 67 = .ok (.iaload, 1) := by decide +kernel
theorem dX6_dropsMarks_68 : decode cX6_dropsMarks 68 = .ok (.iastore, 1) := by decide +kernel
theorem dX6_dropsMarks_69 : decode cX6_dropsMarks 69 = .ok (.iinc 3 1, 3) := by decide +kernel
theorem dX6_dropsMarks_72 : decode cX6_dropsMarks 72 = .ok (.iinc 4 1, 3) := by decide +kernel
theorem dX6_dropsMarks_75 : decode cX6_dropsMarks 75 = .ok (.goto (-70), 3) := by decide +kernel
theorem dX6_dropsMarks_78 : decode cX6_dropsMarks 78 = .ok (.aload_n 0, 1) := by decide +kernel
theorem dX6_dropsMarks_79 : decode cX6_dropsMarks 79 = .ok (.getfield 53, 3) := by decide +kernel
theorem dX6_dropsMarks_82 : decode cX6_dropsMarks 82 = .ok (.iload_n 2, 1) := by decide +kernel
theorem dX6_dropsMarks_83 : decode cX6_dropsMarks 83 = .ok (.iload_n 3, 1) := by decide +kernel
theorem dX6_dropsMarks_84 : decode cX6_dropsMarks 84 = .ok (.iastore, 1) := by decide +kernel
theorem dX6_dropsMarks_85 : decode cX6_dropsMarks 85 = .ok (.return_, 1) := by decide +kernel
set_option maxRecDepth 20000 in
theorem ggX6_takeOut_X6_isExaminer : GoodIn wsX6_takeOut wsX6_isExaminer := goodIn_r _ [6, 7, 8, 5, 9] (by decide +kernel) (by decide +kernel)
set_option maxRecDepth 20000 in
theorem gX6_takeOut_X6_isExaminer : GoodIn wsX6_takeOut (va_wsS RX6 142 yX6_isExaminer wsX6_isExaminer) := goodIn_app (goodIn_of _ (by decide +kernel)) ggX6_takeOut_X6_isExaminer
set_option maxRecDepth 20000 in
theorem ggX6_takeOut_X6_asks : GoodIn wsX6_takeOut wsX6_asks := goodIn_r _ [13, 14, 34, 35, 36, 37, 38, 39, 40, 41, 42, 43, 44, 45, 46, 47, 48, 49, 50, 51, 52, 53, 54, 55, 56, 57] (by decide +kernel) (by decide +kernel)
set_option maxRecDepth 20000 in
theorem gX6_takeOut_X6_asks : GoodIn wsX6_takeOut (wsV RX6 82 RX6 yX6_asks wsX6_asks) := goodIn_app (goodIn_of _ (by decide +kernel)) ggX6_takeOut_X6_asks
set_option maxRecDepth 20000 in
theorem ggX6_takeOut_X6_fails : GoodIn wsX6_takeOut wsX6_fails := goodIn_r _ [18, 14, 34, 35, 36, 37, 38, 39, 40, 41, 42, 43, 44, 45, 46, 47, 48, 49, 50, 51, 52, 53, 54, 55, 56, 57] (by decide +kernel) (by decide +kernel)
set_option maxRecDepth 20000 in
theorem gX6_takeOut_X6_fails : GoodIn wsX6_takeOut (wsV RX6 86 RX6 yX6_fails wsX6_fails) := goodIn_app (goodIn_of _ (by decide +kernel)) ggX6_takeOut_X6_fails
set_option maxRecDepth 20000 in
theorem ggX6_takeOut_X6_gradeOf : GoodIn wsX6_takeOut wsX6_gradeOf := goodIn_r _ [22, 23, 24, 25, 26, 27, 5, 28, 34, 35, 36, 37, 38, 39, 40, 41, 42, 43, 44, 45, 46, 47, 48, 49, 50, 51, 52, 53, 54, 55, 56, 57] (by decide +kernel) (by decide +kernel)
set_option maxRecDepth 20000 in
theorem gX6_takeOut_X6_gradeOf : GoodIn wsX6_takeOut (wsV RX6 148 RX6 yX6_gradeOf wsX6_gradeOf) := goodIn_app (goodIn_of _ (by decide +kernel)) ggX6_takeOut_X6_gradeOf
set_option maxRecDepth 20000 in
theorem ggX6_takeOut_X6_dropsMarks : GoodIn wsX6_takeOut wsX6_dropsMarks := goodIn_r _ [32, 24, 33, 23, 34, 35, 36, 37, 38, 39, 40, 41, 42, 43, 44, 45, 46, 47, 48, 49, 50, 51, 52, 53, 54, 55, 56, 57] (by decide +kernel) (by decide +kernel)
set_option maxRecDepth 20000 in
theorem gX6_takeOut_X6_dropsMarks : GoodIn wsX6_takeOut (wsV RX6 151 RX6 yX6_dropsMarks wsX6_dropsMarks) := goodIn_app (goodIn_of _ (by decide +kernel)) ggX6_takeOut_X6_dropsMarks
theorem dX6_takeOut_0 : decode cX6_takeOut 0 = .ok (.aload_n 0, 1) := by decide +kernel
theorem dX6_takeOut_1 : decode cX6_takeOut 1 = .ok (.iload_n 1, 1) := by decide +kernel
theorem dX6_takeOut_2 : decode cX6_takeOut 2 = .ok (.invokestatic 142, 3) := by decide +kernel
theorem dX6_takeOut_5 : decode cX6_takeOut 5 = .ok (.invokevirtual 82, 3) := by decide +kernel
theorem dX6_takeOut_8 : decode cX6_takeOut 8 = .ok (.ifCond .ne 5, 3) := by decide +kernel
theorem dX6_takeOut_11 : decode cX6_takeOut 11 = .ok (.iconst 0, 1) := by decide +kernel
theorem dX6_takeOut_12 : decode cX6_takeOut 12 = .ok (.ireturn, 1) := by decide +kernel
theorem dX6_takeOut_13 : decode cX6_takeOut 13 = .ok (.aload_n 0, 1) := by decide +kernel
theorem dX6_takeOut_14 : decode cX6_takeOut 14 = .ok (.getfield 56, 3) := by decide +kernel
theorem dX6_takeOut_17 : decode cX6_takeOut 17 = .ok (.iload_n 1, 1) := by decide +kernel
theorem dX6_takeOut_18 : decode cX6_takeOut 18 = .ok (.baload, 1) := by decide +kernel
theorem dX6_takeOut_19 : decode cX6_takeOut 19 = .ok (.ifCond .eq 9, 3) := by decide +kernel
theorem dX6_takeOut_22 : decode cX6_takeOut 22 = .ok (.aload_n 0, 1) := by decide +kernel
theorem dX6_takeOut_23 : decode cX6_takeOut 23 = .ok (.iconst 2, 1) := by decide +kernel
theorem dX6_takeOut_24 : decode cX6_takeOut 24 = .ok (.invokevirtual 86, 3) := by decide +kernel
theorem dX6_takeOut_27 : decode cX6_takeOut 27 = .ok (.ireturn, 1) := by decide +kernel
theorem dX6_takeOut_28 : decode cX6_takeOut 28 = .ok (.aload_n 0, 1) := by decide +kernel
theorem dX6_takeOut_29 : decode cX6_takeOut 29 = .ok (.getfield 56, 3) := by decide +kernel
theorem dX6_takeOut_32 : decode cX6_takeOut 32 = .ok (.iload_n 1, 1) := by decide +kernel
theorem dX6_takeOut_33 : decode cX6_takeOut 33 = .ok (.iconst 1, 1) := by decide +kernel
theorem dX6_takeOut_34 : decode cX6_takeOut 34 = .ok (.bastore, 1) := by decide +kernel
theorem dX6_takeOut_35 : decode cX6_takeOut 35 = .ok (.iconst 0, 1) := by decide +kernel
theorem dX6_takeOut_36 : decode cX6_takeOut 36 = .ok (.istore_n 2, 1) := by decide +kernel
theorem dX6_takeOut_37 : decode cX6_takeOut 37 = .ok (.iconst 0, 1) := by decide +kernel
theorem dX6_takeOut_38 : decode cX6_takeOut 38 = .ok (.istore_n 3, 1) := by decide +kernel
theorem dX6_takeOut_39 : decode cX6_takeOut 39 = .ok (.iload_n 3, 1) := by decide +kernel
theorem dX6_takeOut_40 : decode cX6_takeOut 40 = .ok (.aload_n 0, 1) := by decide +kernel
theorem dX6_takeOut_41 : decode cX6_takeOut 41 = .ok (.getfield 75, 3) := by decide +kernel
theorem dX6_takeOut_44 : decode cX6_takeOut 44 = .ok (.if_icmp .ge 40, 3) := by decide +kernel
theorem dX6_takeOut_47 : decode cX6_takeOut 47 = .ok (.aload_n 0, 1) := by decide +kernel
theorem dX6_takeOut_48 : decode cX6_takeOut 48 = .ok (.iload_n 3, 1) := by decide +kernel
theorem dX6_takeOut_49 : decode cX6_takeOut 49 = .ok (.invokevirtual 148, 3) := by decide +kernel
theorem dX6_takeOut_52 : decode cX6_takeOut 52 = .ok (.istore 4, 2) := by decide +kernel
theorem dX6_takeOut_54 : decode cX6_takeOut 54 = .ok (.aload_n 0, 1) := by decide +kernel
theorem dX6_takeOut_55 : decode cX6_takeOut 55 = .ok (.iload_n 1, 1) := by decide +kernel
theorem dX6_takeOut_56 : decode cX6_takeOut 56 = .ok (.iload_n 3, 1) := by decide +kernel
theorem dX6_takeOut_57 : decode cX6_takeOut 57 = .ok (.invokevirtual 151, 3) := by decide +kernel
theorem dX6_takeOut_60 : decode cX6_takeOut 60 = .ok (.iload_n 2, 1) := by decide +kernel
theorem dX6_takeOut_61 : decode cX6_takeOut 61 = .ok (.aload_n 0, 1) := by decide +kernel
theorem dX6_takeOut_62 : decode cX6_takeOut 62 = .ok (.iload_n 3, 1) := by decide +kernel
theorem dX6_takeOut_63 : decode cX6_takeOut 63 = .ok (.invokevirtual 148, 3) := by decide +kernel
theorem dX6_takeOut_66 : decode cX6_takeOut 66 = .ok (.iload 4, 2) := by decide +kernel
theorem dX6_takeOut_68 : decode cX6_takeOut 68 = .ok (.if_icmp .ne 7, 3) := by decide +kernel
theorem dX6_takeOut_71 : decode cX6_takeOut 71 = .ok (.iconst 0, 1) := by decide +kernel
theorem dX6_takeOut_72 : decode cX6_takeOut 72 = .ok (.goto 4, 3) := by decide +kernel
theorem dX6_takeOut_75 : decode cX6_takeOut 75 = .ok (.iconst 1, 1) := by decide +kernel
theorem dX6_takeOut_76 : decode cX6_takeOut 76 = .ok (.iadd, 1) := by decide +kernel
theorem dX6_takeOut_77 : decode cX6_takeOut 77 = .ok (.istore_n 2, 1) := by decide +kernel
theorem dX6_takeOut_78 : decode cX6_takeOut 78 = .ok (.iinc 3 1, 3) := by decide +kernel
theorem dX6_takeOut_81 : decode cX6_takeOut 81 = .ok (.goto (-42), 3) := by decide +kernel
theorem dX6_takeOut_84 : decode cX6_takeOut 84 = .ok (.iload_n 2, 1) := by decide +kernel
theorem dX6_takeOut_85 : decode cX6_takeOut 85 = .ok (.ireturn, 1) := by decide +kernel
set_option maxRecDepth 20000 in
theorem ggX6_show_X6_isScript : GoodIn wsX6_show wsX6_isScript := goodIn_r _ [7, 2, 8, 9, 6, 10, 30, 31, 32, 33, 34, 35, 36, 37, 38, 39, 40, 41, 42, 43, 44, 45, 46, 47, 48, 49, 50, 51, 52, 53] (by decide +kernel) (by decide +kernel)
set_option maxRecDepth 20000 in
theorem gX6_show_X6_isScript : GoodIn wsX6_show (wsV RX6 133 RX6 yX6_isScript wsX6_isScript) := goodIn_app (goodIn_of _ (by decide +kernel)) ggX6_show_X6_isScript
set_option maxRecDepth 20000 in
theorem ggX6_show_X6_asks : GoodIn wsX6_show wsX6_asks := goodIn_r _ [14, 15, 30, 31, 32, 33, 34, 35, 36, 37, 38, 39, 40, 41, 42, 43, 44, 45, 46, 47, 48, 49, 50, 51, 52, 53] (by decide +kernel) (by decide +kernel)
set_option maxRecDepth 20000 in
theorem gX6_show_X6_asks : GoodIn wsX6_show (wsV RX6 82 RX6 yX6_asks wsX6_asks) := goodIn_app (goodIn_of _ (by decide +kernel)) ggX6_show_X6_asks
set_option maxRecDepth 20000 in
theorem ggX6_show_X6_gradeOf : GoodIn wsX6_show wsX6_gradeOf := goodIn_r _ [19, 20, 21, 22, 23, 24, 6, 25, 30, 31, 32, 33, 34, 35, 36, 37, 38, 39, 40, 41, 42, 43, 44, 45, 46, 47, 48, 49, 50, 51, 52, 53] (by decide +kernel) (by decide +kernel)
set_option maxRecDepth 20000 in
theorem gX6_show_X6_gradeOf : GoodIn wsX6_show (wsV RX6 148 RX6 yX6_gradeOf wsX6_gradeOf) := goodIn_app (goodIn_of _ (by decide +kernel)) ggX6_show_X6_gradeOf
set_option maxRecDepth 20000 in
theorem ggX6_show_X6_fails : GoodIn wsX6_show wsX6_fails := goodIn_r _ [29, 15, 30, 31, 32, 33, 34, 35, 36, 37, 38, 39, 40, 41, 42, 43, 44, 45, 46, 47, 48, 49, 50, 51, 52, 53] (by decide +kernel) (by decide +kernel)
set_option maxRecDepth 20000 in
theorem gX6_show_X6_fails : GoodIn wsX6_show (wsV RX6 86 RX6 yX6_fails wsX6_fails) := goodIn_app (goodIn_of _ (by decide +kernel)) ggX6_show_X6_fails
theorem dX6_show_0 : decode cX6_show 0 = .ok (.aload_n 0, 1) := by decide +kernel
theorem dX6_show_1 : decode cX6_show 1 = .ok (.aload_n 0, 1) := by decide +kernel
theorem dX6_show_2 : decode cX6_show 2 = .ok (.iload_n 1, 1) := by decide +kernel
theorem dX6_show_3 : decode cX6_show 3 = .ok (.invokevirtual 133, 3) := by decide +kernel
theorem dX6_show_6 : decode cX6_show 6 = .ok (.invokevirtual 82, 3) := by decide +kernel
theorem dX6_show_9 : decode cX6_show 9 = .ok (.ifCond .ne 5, 3) := by decide +kernel
theorem dX6_show_12 : decode cX6_show 12 = .ok (.iconst 0, 1) := by decide +kernel
theorem dX6_show_13 : decode cX6_show 13 = .ok (.ireturn, 1) := by decide +kernel
theorem dX6_show_14 : decode cX6_show 14 = .ok (.aload_n 0, 1) := by decide +kernel
theorem dX6_show_15 : decode cX6_show 15 = .ok (.getfield 59, 3) := by decide +kernel
theorem dX6_show_18 : decode cX6_show 18 = .ok (.iload_n 1, 1) := by decide +kernel
theorem dX6_show_19 : decode cX6_show 19 = .ok (.baload, 1) := by decide +kernel
theorem dX6_show_20 : decode cX6_show 20 = .ok (.ifCond .ne 12, 3) := by decide +kernel
theorem dX6_show_23 : decode cX6_show 23 = .ok (.aload_n 0, 1) := by decide +kernel
theorem dX6_show_24 : decode cX6_show 24 = .ok (.iload_n 1, 1) := by decide +kernel
theorem dX6_show_25 : decode cX6_show 25 = .ok (.invokevirtual 148, 3) := by decide +kernel
theorem dX6_show_28 : decode cX6_show 28 = .ok (.iconst (-1), 1) := by decide +kernel
theorem dX6_show_29 : decode cX6_show 29 = .ok (.if_icmp .ne 9, 3) := by decide +kernel
theorem dX6_show_32 : decode cX6_show 32 = .ok (.aload_n 0, 1) := by decide +kernel
theorem dX6_show_33 : decode cX6_show 33 = .ok (.iconst 2, 1) := by decide +kernel
theorem dX6_show_34 : decode cX6_show 34 = .ok (.invokevirtual 86, 3) := by decide +kernel
theorem dX6_show_37 : decode cX6_show 37 = .ok (.ireturn, 1) := by decide +kernel
theorem dX6_show_38 : decode cX6_show 38 = .ok (.aload_n 0, 1) := by decide +kernel
theorem dX6_show_39 : decode cX6_show 39 = .ok (.getfield 59, 3) := by decide +kernel
theorem dX6_show_42 : decode cX6_show 42 = .ok (.iload_n 1, 1) := by decide +kernel
theorem dX6_show_43 : decode cX6_show 43 = .ok (.iconst 1, 1) := by decide +kernel
theorem dX6_show_44 : decode cX6_show 44 = .ok (.bastore, 1) := by decide +kernel
theorem dX6_show_45 : decode cX6_show 45 = .ok (.iconst 0, 1) := by decide +kernel
theorem dX6_show_46 : decode cX6_show 46 = .ok (.istore_n 2, 1) := by decide +kernel
theorem dX6_show_47 : decode cX6_show 47 = .ok (.iconst 0, 1) := by decide +kernel
theorem dX6_show_48 : decode cX6_show 48 = .ok (.istore_n 3, 1) := by decide +kernel
theorem dX6_show_49 : decode cX6_show 49 = .ok (.iload_n 3, 1) := by decide +kernel
theorem dX6_show_50 : decode cX6_show 50 = .ok (.aload_n 0, 1) := by decide +kernel
theorem dX6_show_51 : decode cX6_show 51 = .ok (.getfield 75, 3) := by decide +kernel
theorem dX6_show_54 : decode cX6_show 54 = .ok (.if_icmp .ge 26, 3) := by decide +kernel
theorem dX6_show_57 : decode cX6_show 57 = .ok (.iload_n 2, 1) := by decide +kernel
theorem dX6_show_58 : decode cX6_show 58 = .ok (.aload_n 0, 1) := by decide +kernel
theorem dX6_show_59 : decode cX6_show 59 = .ok (.getfield 59, 3) := by decide +kernel
theorem dX6_show_62 : decode cX6_show 62 = .ok (.iload_n 3, 1) := by decide +kernel
theorem dX6_show_63 : decode cX6_show 63 = .ok (.baload, 1) := by decide +kernel
theorem dX6_show_64 : decode cX6_show 64 = .ok (.ifCond .eq 7, 3) := by decide +kernel
theorem dX6_show_67 : decode cX6_show 67 = .ok (.iconst 1, 1) := by decide +kernel
theorem dX6_show_68 : decode cX6_show 68 = .ok (.goto 4, 3) := by decide +kernel
theorem dX6_show_71 : decode cX6_show 71 = .ok (.iconst 0, 1) := by decide +kernel
theorem dX6_show_72 : decode cX6_show 72 = .ok (.iadd, 1) := by decide +kernel
theorem dX6_show_73 : decode cX6_show 73 = .ok (.istore_n 2, 1) := by decide +kernel
theorem dX6_show_74 : decode cX6_show 74 = .ok (.iinc 3 1, 3) := by decide +kernel
theorem dX6_show_77 : decode cX6_show 77 = .ok (.goto (-28), 3) := by decide +kernel
theorem dX6_show_80 : decode cX6_show 80 = .ok (.iload_n 2, 1) := by decide +kernel
theorem dX6_show_81 : decode cX6_show 81 = .ok (.ireturn, 1) := by decide +kernel
theorem dX6_pointsOf_0 : decode cX6_pointsOf 0 = .ok (.iconst 0, 1) := by decide +kernel
theorem dX6_pointsOf_1 : decode cX6_pointsOf 1 = .ok (.istore_n 2, 1) := by decide +kernel
theorem dX6_pointsOf_2 : decode cX6_pointsOf 2 = .ok (.iconst 0, 1) := by decide +kernel
theorem dX6_pointsOf_3 : decode cX6_pointsOf 3 = .ok (.istore_n 3, 1) := by decide +kernel
theorem dX6_pointsOf_4 : decode cX6_pointsOf 4 = .ok (.iload_n 3, 1) := by decide +kernel
theorem dX6_pointsOf_5 : decode cX6_pointsOf 5 = .ok (.iconst 4, 1) := by decide +kernel
theorem dX6_pointsOf_6 : decode cX6_pointsOf 6 = .ok (.if_icmp .ge 22, 3) := by decide +kernel
theorem dX6_pointsOf_9 : decode cX6_pointsOf 9 = .ok (.iload_n 2, 1) := by decide +kernel
theorem dX6_pointsOf_10 : decode cX6_pointsOf 10 = .ok (.aload_n 0, 1) := by decide +kernel
theorem dX6_pointsOf_11 : decode cX6_pointsOf 11 = .ok (.getfield 62, 3) := by decide +kernel
theorem dX6_pointsOf_14 : decode cX6_pointsOf 14 = .ok (.iconst 4, 1) := by decide +kernel
theorem dX6_pointsOf_15 : decode cX6_pointsOf 15 = .ok (.iload_n 1, 1) := by decide +kernel
theorem dX6_pointsOf_16 : decode cX6_pointsOf 16 = .ok (.imul, 1) := by decide +kernel
theorem dX6_pointsOf_17 : decode cX6_pointsOf 17 = .ok (.iload_n 3, 1) := by decide +kernel
theorem dX6_pointsOf_18 : decode cX6_pointsOf 18 = .ok (.iadd, 1) := by decide +kernel
theorem dX6_pointsOf_19 : decode cX6_pointsOf 19 = .ok (.iaload, 1) := by decide +kernel
theorem dX6_pointsOf_20 : decode cX6_pointsOf 20 = .ok (.iadd, 1) := by decide +kernel
theorem dX6_pointsOf_21 : decode cX6_pointsOf 21 = .ok (.istore_n 2, 1) := by decide +kernel
theorem dX6_pointsOf_22 : decode cX6_pointsOf 22 = .ok (.iinc 3 1, 3) := by decide +kernel
theorem dX6_pointsOf_25 : decode cX6_pointsOf 25 = .ok (.goto (-21), 3) := by decide +kernel
theorem dX6_pointsOf_28 : decode cX6_pointsOf 28 = .ok (.iload_n 2, 1) := by decide +kernel
theorem dX6_pointsOf_29 : decode cX6_pointsOf 29 = .ok (.ireturn, 1) := by decide +kernel
set_option maxRecDepth 20000 in
theorem ggX6_vote_X6_in : GoodIn wsX6_vote wsX6_in := goodIn_r _ [8] (by decide +kernel) (by decide +kernel)
set_option maxRecDepth 20000 in
theorem gX6_vote_X6_in : GoodIn wsX6_vote (va_wsS RX6 78 yX6_in wsX6_in) := goodIn_app (goodIn_of _ (by decide +kernel)) ggX6_vote_X6_in
set_option maxRecDepth 20000 in
theorem ggX6_vote_X6_isScript : GoodIn wsX6_vote wsX6_isScript := goodIn_r _ [12, 13, 5, 6, 7, 8, 27, 28, 29, 30, 31, 32, 33, 34, 35, 36, 37, 38, 39, 40, 41, 42, 43, 44, 45, 46, 47, 48, 49, 50] (by decide +kernel) (by decide +kernel)
set_option maxRecDepth 20000 in
theorem gX6_vote_X6_isScript : GoodIn wsX6_vote (wsV RX6 133 RX6 yX6_isScript wsX6_isScript) := goodIn_app (goodIn_of _ (by decide +kernel)) ggX6_vote_X6_isScript
set_option maxRecDepth 20000 in
theorem ggX6_vote_X6_asks : GoodIn wsX6_vote wsX6_asks := goodIn_r _ [17, 18, 27, 28, 29, 30, 31, 32, 33, 34, 35, 36, 37, 38, 39, 40, 41, 42, 43, 44, 45, 46, 47, 48, 49, 50] (by decide +kernel) (by decide +kernel)
set_option maxRecDepth 20000 in
theorem gX6_vote_X6_asks : GoodIn wsX6_vote (wsV RX6 82 RX6 yX6_asks wsX6_asks) := goodIn_app (goodIn_of _ (by decide +kernel)) ggX6_vote_X6_asks
set_option maxRecDepth 20000 in
theorem ggX6_vote_X6_fails : GoodIn wsX6_vote wsX6_fails := goodIn_r _ [22, 18, 27, 28, 29, 30, 31, 32, 33, 34, 35, 36, 37, 38, 39, 40, 41, 42, 43, 44, 45, 46, 47, 48, 49, 50] (by decide +kernel) (by decide +kernel)
set_option maxRecDepth 20000 in
theorem gX6_vote_X6_fails : GoodIn wsX6_vote (wsV RX6 86 RX6 yX6_fails wsX6_fails) := goodIn_app (goodIn_of _ (by decide +kernel)) ggX6_vote_X6_fails
set_option maxRecDepth 20000 in
theorem ggX6_vote_X6_pointsOf : GoodIn wsX6_vote wsX6_pointsOf := goodIn_r _ [26, 4, 27, 28, 29, 30, 31, 32, 33, 34, 35, 36, 37, 38, 39, 40, 41, 42, 43, 44, 45, 46, 47, 48, 49, 50] (by decide +kernel) (by decide +kernel)
set_option maxRecDepth 20000 in
theorem gX6_vote_X6_pointsOf : GoodIn wsX6_vote (wsV RX6 155 RX6 yX6_pointsOf wsX6_pointsOf) := goodIn_app (goodIn_of _ (by decide +kernel)) ggX6_vote_X6_pointsOf
theorem dX6_vote_0 : decode cX6_vote 0 = .ok (.aload_n 0, 1) := by decide +kernel
theorem dX6_vote_1 : decode cX6_vote 1 = .ok (.iload_n 1, 1) := by decide +kernel
theorem dX6_vote_2 : decode cX6_vote 2 = .ok (.iconst 0, 1) := by decide +kernel
theorem dX6_vote_3 : decode cX6_vote 3 = .ok (.iconst 3, 1) := by decide +kernel
theorem dX6_vote_4 : decode cX6_vote 4 = .ok (.invokestatic 78, 3) := by decide +kernel
theorem dX6_vote_7 : decode cX6_vote 7 = .ok (.ifCond .eq 15, 3) := by decide +kernel
theorem dX6_vote_10 : decode cX6_vote 10 = .ok (.aload_n 0, 1) := by decide +kernel
theorem dX6_vote_11 : decode cX6_vote 11 = .ok (.iload_n 2, 1) := by decide +kernel
theorem dX6_vote_12 : decode cX6_vote 12 = .ok (.invokevirtual 133, 3) := by decide +kernel
theorem dX6_vote_15 : decode cX6_vote 15 = .ok (.ifCond .eq 7, 3) := by decide +kernel
theorem dX6_vote_18 : decode cX6_vote 18 = .ok (.iconst 1, 1) := by decide +kernel
theorem dX6_vote_19 : decode cX6_vote 19 = .ok (.goto 4, 3) := by decide +kernel
theorem dX6_vote_22 : decode cX6_vote 22 = .ok (.iconst 0, 1) := by decide +kernel
theorem dX6_vote_23 : decode cX6_vote 23 = .ok (.invokevirtual 82, 3) := by decide +kernel
theorem dX6_vote_26 : decode cX6_vote 26 = .ok (.ifCond .ne 5, 3) := by decide +kernel
theorem dX6_vote_29 : decode cX6_vote 29 = .ok (.iconst 0, 1) := by decide +kernel
theorem dX6_vote_30 : decode cX6_vote 30 = .ok (.ireturn, 1) := by decide +kernel
theorem dX6_vote_31 : decode cX6_vote 31 = .ok (.iload_n 3, 1) := by decide +kernel
theorem dX6_vote_32 : decode cX6_vote 32 = .ok (.iconst 0, 1) := by decide +kernel
theorem dX6_vote_33 : decode cX6_vote 33 = .ok (.iconst 5, 1) := by decide +kernel
theorem dX6_vote_34 : decode cX6_vote 34 = .ok (.invokestatic 78, 3) := by decide +kernel
theorem dX6_vote_37 : decode cX6_vote 37 = .ok (.ifCond .ne 9, 3) := by decide +kernel
theorem dX6_vote_40 : decode cX6_vote 40 = .ok (.aload_n 0, 1) := by decide +kernel
theorem dX6_vote_41 : decode cX6_vote 41 = .ok (.iconst 2, 1) := by decide +kernel
theorem dX6_vote_42 : decode cX6_vote 42 = .ok (.invokevirtual 86, 3) := by decide +kernel
theorem dX6_vote_45 : decode cX6_vote 45 = .ok (.ireturn, 1) := by decide +kernel
theorem dX6_vote_46 : decode cX6_vote 46 = .ok (.aload_n 0, 1) := by decide +kernel
theorem dX6_vote_47 : decode cX6_vote 47 = .ok (.getfield 59, 3) := by decide +kernel
theorem dX6_vote_50 : decode cX6_vote 50 = .ok (.iload_n 2, 1) := by decide +kernel
theorem dX6_vote_51 : decode cX6_vote 51 = .ok (.baload, 1) := by decide +kernel
theorem dX6_vote_52 : decode cX6_vote 52 = .ok (.ifCond .eq 18, 3) := by decide +kernel
theorem dX6_vote_55 : decode cX6_vote 55 = .ok (.aload_n 0, 1) := by decide +kernel
theorem dX6_vote_56 : decode cX6_vote 56 = .ok (.getfield 19, 3) := by decide +kernel
theorem dX6_vote_59 : decode cX6_vote 59 = .ok (.aload_n 0, 1) := by decide +kernel
theorem dX6_vote_60 : decode cX6_vote 60 = .ok (.getfield 38, 3) := by decide +kernel
theorem dX6_vote_63 : decode cX6_vote 63 = .ok (.iload_n 2, 1) := by decide +kernel
theorem dX6_vote_64 : decode cX6_vote 64 = .ok (.iaload, 1) := by decide +kernel
theorem dX6_vote_65 : decode cX6_vote 65 = .ok (.iaload, 1) := by decide +kernel
theorem dX6_vote_66 : decode cX6_vote 66 = .ok (.iload_n 1, 1) := by decide +kernel
theorem dX6_vote_67 : decode cX6_vote 67 = .ok (.if_icmp .ne 9, 3) := by decide +kernel
theorem dX6_vote_70 : decode cX6_vote 70 = .ok (.aload_n 0, 1) := by decide +kernel
theorem dX6_vote_71 : decode cX6_vote 71 = .ok (.iconst 3, 1) := by decide +kernel
theorem dX6_vote_72 : decode cX6_vote 72 = .ok (.invokevirtual 86, 3) := by decide +kernel
theorem dX6_vote_75 : decode cX6_vote 75 = .ok (.ireturn, 1) := by decide +kernel
theorem dX6_vote_76 : decode cX6_vote 76 = .ok (.aload_n 0, 1) := by decide +kernel
theorem dX6_vote_77 : decode cX6_vote 77 = .ok (.getfield 62, 3) := by decide +kernel
theorem dX6_vote_80 : decode cX6_vote 80 = .ok (.iconst 4, 1) := by decide +kernel
theorem dX6_vote_81 : decode cX6_vote 81 = .ok (.iload_n 2, 1) := by decide +kernel
theorem dX6_vote_82 : decode cX6_vote 82 = .ok (.imul, 1) := by decide +kernel
theorem dX6_vote_83 : decode cX6_vote 83 = .ok (.iload_n 1, 1) := by decide +kernel
theorem dX6_vote_84 : decode cX6_vote 84 = .ok (.iadd, 1) := by decide +kernel
theorem dX6_vote_85 : decode cX6_vote 85 = .ok (.iload_n 3, 1) := by decide +kernel
theorem dX6_vote_86 : decode cX6_vote 86 = .ok (.iastore, 1) := by decide +kernel
theorem dX6_vote_87 : decode cX6_vote 87 = .ok (.aload_n 0, 1) := by decide +kernel
theorem dX6_vote_88 : decode cX6_vote 88 = .ok (.iload_n 2, 1) := by decide +kernel
theorem dX6_vote_89 : decode cX6_vote 89 = .ok (.invokevirtual 155, 3) := by decide +kernel
theorem dX6_vote_92 : decode cX6_vote 92 = .ok (.ireturn, 1) := by decide +kernel
set_option maxRecDepth 20000 in
theorem ggX6_worthOf_X6_gradeOf : GoodIn wsX6_worthOf wsX6_gradeOf := goodIn_r _ [6, 7, 8, 9, 10, 11, 5, 12, 56, 57, 58, 59, 60, 61, 62, 63, 64, 65, 66, 67, 68, 69, 70, 71, 72, 73, 74, 75, 76, 77, 78, 79] (by decide +kernel) (by decide +kernel)
set_option maxRecDepth 20000 in
theorem gX6_worthOf_X6_gradeOf : GoodIn wsX6_worthOf (wsV RX6 148 RX6 yX6_gradeOf wsX6_gradeOf) := goodIn_app (goodIn_of _ (by decide +kernel)) ggX6_worthOf_X6_gradeOf
set_option maxRecDepth 20000 in
theorem ggX6_worthOf_X6_pointsOf : GoodIn wsX6_worthOf wsX6_pointsOf := goodIn_r _ [16, 17, 56, 57, 58, 59, 60, 61, 62, 63, 64, 65, 66, 67, 68, 69, 70, 71, 72, 73, 74, 75, 76, 77, 78, 79] (by decide +kernel) (by decide +kernel)
set_option maxRecDepth 20000 in
theorem gX6_worthOf_X6_pointsOf : GoodIn wsX6_worthOf (wsV RX6 155 RX6 yX6_pointsOf wsX6_pointsOf) := goodIn_app (goodIn_of _ (by decide +kernel)) ggX6_worthOf_X6_pointsOf
set_option maxRecDepth 20000 in
theorem ggX6_worthOf_X6_allSlips : GoodIn wsX6_worthOf wsX6_allSlips := goodIn_r _ [21, 22, 23, 24, 5, 25, 26, 27, 28, 29, 30, 31, 32, 33, 34, 35, 36, 37, 38, 39, 40, 41, 42, 43, 44, 45, 46, 47, 48, 49, 50, 51, 52, 53, 54, 55, 56, 57, 58, 59, 60, 61, 62, 63, 64, 65, 66, 67, 68, 69, 70, 71, 72, 73, 74, 75, 76, 77, 78, 79] (by decide +kernel) (by decide +kernel)
set_option maxRecDepth 20000 in
theorem gX6_worthOf_X6_allSlips : GoodIn wsX6_worthOf (wsV RX6 136 RX6 yX6_allSlips wsX6_allSlips) := goodIn_app (goodIn_of _ (by decide +kernel)) ggX6_worthOf_X6_allSlips
theorem dX6_worthOf_0 : decode cX6_worthOf 0 = .ok (.aload_n 0, 1) := by decide +kernel
theorem dX6_worthOf_1 : decode cX6_worthOf 1 = .ok (.iload_n 1, 1) := by decide +kernel
theorem dX6_worthOf_2 : decode cX6_worthOf 2 = .ok (.invokevirtual 148, 3) := by decide +kernel
theorem dX6_worthOf_5 : decode cX6_worthOf 5 = .ok (.istore_n 2, 1) := by decide +kernel
theorem dX6_worthOf_6 : decode cX6_worthOf 6 = .ok (.iload_n 2, 1) := by decide +kernel
theorem dX6_worthOf_7 : decode cX6_worthOf 7 = .ok (.iconst (-1), 1) := by decide +kernel
theorem dX6_worthOf_8 : decode cX6_worthOf 8 = .ok (.if_icmp .eq 12, 3) := by decide +kernel
theorem dX6_worthOf_11 : decode cX6_worthOf 11 = .ok (.aload_n 0, 1) := by decide +kernel
theorem dX6_worthOf_12 : decode cX6_worthOf 12 = .ok (.getfield 59, 3) := by decide +kernel
theorem dX6_worthOf_15 : decode cX6_worthOf 15 = .ok (.iload_n 1, 1) := by decide +kernel
theorem dX6_worthOf_16 : decode cX6_worthOf 16 = .ok (.baload, 1) := by decide +kernel
theorem dX6_worthOf_17 : decode cX6_worthOf 17 = .ok (.ifCond .ne 9, 3) := by decide +kernel
theorem dX6_worthOf_20 : decode cX6_worthOf 20 = .ok (.sipush (-9999), 3) := by decide +kernel
theorem dX6_worthOf_23 : decode cX6_worthOf 23 = .ok (.goto 20, 3) := by decide +kernel
theorem dX6_worthOf_26 : decode cX6_worthOf 26 = .ok (.iconst 3, 1) := by decide +kernel
theorem dX6_worthOf_27 : decode cX6_worthOf 27 = .ok (.iload_n 2, 1) := by decide +kernel
theorem dX6_worthOf_28 : decode cX6_worthOf 28 = .ok (.imul, 1) := by decide +kernel
theorem dX6_worthOf_29 : decode cX6_worthOf 29 = .ok (.iconst 2, 1) := by decide +kernel
theorem dX6_worthOf_30 : decode cX6_worthOf 30 = .ok (.aload_n 0, 1) := by decide +kernel
theorem dX6_worthOf_31 : decode cX6_worthOf 31 = .ok (.iload_n 1, 1) := by decide +kernel
theorem dX6_worthOf_32 : decode cX6_worthOf 32 = .ok (.invokevirtual 155, 3) := by decide +kernel
theorem dX6_worthOf_35 : decode cX6_worthOf 35 = .ok (.imul, 1) := by decide +kernel
theorem dX6_worthOf_36 : decode cX6_worthOf 36 = .ok (.iadd, 1) := by decide +kernel
theorem dX6_worthOf_37 : decode cX6_worthOf 37 = .ok (.aload_n 0, 1) := by decide +kernel
theorem dX6_worthOf_38 : decode cX6_worthOf 38 = .ok (.iload_n 1, 1) := by decide +kernel
theorem dX6_worthOf_39 : decode cX6_worthOf 39 = .ok (.invokevirtual 136, 3) := by decide +kernel
theorem dX6_worthOf_42 : decode cX6_worthOf 42 = .ok (.isub, 1) := by decide +kernel
theorem dX6_worthOf_43 : decode cX6_worthOf 43 = .ok (.ireturn, 1) := by decide +kernel
set_option maxRecDepth 20000 in
theorem ggX6_placeOf_X6_worthOf : GoodIn wsX6_placeOf wsX6_worthOf := goodIn_r _ [6, 7, 8, 9, 10, 5, 11, 12, 13, 14, 15, 16, 17, 18, 19, 20, 21, 22, 23, 24, 25, 26, 27, 28, 29, 30, 31, 32, 33, 34, 35, 36, 37, 38, 39, 40, 41, 42, 43, 44, 45, 46, 47, 48, 49, 50, 51, 52, 53, 54, 55, 56, 57, 58, 59, 60, 61, 62, 63, 64, 65, 66, 67, 68, 69, 70, 71, 72, 73, 74, 75, 76, 77, 78, 79, 80, 81, 82, 83, 84] (by decide +kernel) (by decide +kernel)
set_option maxRecDepth 20000 in
theorem gX6_placeOf_X6_worthOf : GoodIn wsX6_placeOf (wsV RX6 158 RX6 yX6_worthOf wsX6_worthOf) := goodIn_app (goodIn_of _ (by decide +kernel)) ggX6_placeOf_X6_worthOf
theorem dX6_placeOf_0 : decode cX6_placeOf 0 = .ok (.aload_n 0, 1) := by decide +kernel
theorem dX6_placeOf_1 : decode cX6_placeOf 1 = .ok (.iload_n 1, 1) := by decide +kernel
theorem dX6_placeOf_2 : decode cX6_placeOf 2 = .ok (.invokevirtual 158, 3) := by decide +kernel
theorem dX6_placeOf_5 : decode cX6_placeOf 5 = .ok (.istore_n 2, 1) := by decide +kernel
theorem dX6_placeOf_6 : decode cX6_placeOf 6 = .ok (.iload_n 2, 1) := by decide +kernel
theorem dX6_placeOf_7 : decode cX6_placeOf 7 = .ok (.sipush (-9999), 3) := by decide +kernel
theorem dX6_placeOf_10 : decode cX6_placeOf 10 = .ok (.if_icmp .ne 5, 3) := by decide +kernel
theorem dX6_placeOf_13 : decode cX6_placeOf 13 = .ok (.iconst (-1), 1) := by decide +kernel
theorem dX6_placeOf_14 : decode cX6_placeOf 14 = .ok (.ireturn, 1) := by decide +kernel
theorem dX6_placeOf_15 : decode cX6_placeOf 15 = .ok (.iconst 1, 1) := by decide +kernel
theorem dX6_placeOf_16 : decode cX6_placeOf 16 = .ok (.istore_n 3, 1) := by decide +kernel
theorem dX6_placeOf_17 : decode cX6_placeOf 17 = .ok (.iconst 0, 1) := by decide +kernel
theorem dX6_placeOf_18 : decode cX6_placeOf 18 = .ok (.istore 4, 2) := by decide +kernel
theorem dX6_placeOf_20 : decode cX6_placeOf 20 = .ok (.iload 4, 2) := by decide +kernel
theorem dX6_placeOf_22 : decode cX6_placeOf 22 = .ok (.aload_n 0, 1) := by decide +kernel
theorem dX6_placeOf_23 : decode cX6_placeOf 23 = .ok (.getfield 75, 3) := by decide +kernel
theorem dX6_placeOf_26 : decode cX6_placeOf 26 = .ok (.if_icmp .ge 63, 3) := by decide +kernel
theorem dX6_placeOf_29 : decode cX6_placeOf 29 = .ok (.aload_n 0, 1) := by decide +kernel
theorem dX6_placeOf_30 : decode cX6_placeOf 30 = .ok (.iload 4, 2) := by decide +kernel
theorem dX6_placeOf_32 : decode cX6_placeOf 32 = .ok (.invokevirtual 158, 3) := by decide +kernel
theorem dX6_placeOf_35 : decode cX6_placeOf 35 = .ok (.istore 5, 2) := by decide +kernel
theorem dX6_placeOf_37 : decode cX6_placeOf 37 = .ok (.iload 5, 2) := by decide +kernel
theorem dX6_placeOf_39 : decode cX6_placeOf 39 = .ok (.sipush (-9999), 3) := by decide +kernel
theorem dX6_placeOf_42 : decode cX6_placeOf 42 = .ok (.if_icmp .eq 25, 3) := by decide +kernel
theorem dX6_placeOf_45 : decode cX6_placeOf 45 = .ok (.iload 5, 2) := by decide +kernel
theorem dX6_placeOf_47 : decode cX6_placeOf 47 = .ok (.iload_n 2, 1) := by decide +kernel
theorem dX6_placeOf_48 : decode cX6_placeOf 48 = .ok (.if_icmp .gt 15, 3) := by decide +kernel
theorem dX6_placeOf_51 : decode cX6_placeOf 51 = .ok (.iload 5, 2) := by decide +kernel
theorem dX6_placeOf_53 : decode cX6_placeOf 53 = .ok (.iload_n 2, 1) := by decide +kernel
theorem dX6_placeOf_54 : decode cX6_placeOf 54 = .ok (.if_icmp .ne 13, 3) := by decide +kernel
theorem dX6_placeOf_57 : decode cX6_placeOf 57 = .ok (.iload 4, 2) := by decide +kernel
theorem dX6_placeOf_59 : decode cX6_placeOf 59 = .ok (.iload_n 1, 1) := by decide +kernel
theorem dX6_placeOf_60 : decode cX6_placeOf 60 = .ok (.if_icmp .ge 7, 3) := by decide +kernel
theorem dX6_placeOf_63 : decode cX6_placeOf 63 = .ok (.iconst 1, 1) := by decide +kernel
theorem dX6_placeOf_64 : decode cX6_placeOf 64 = .ok (.goto 4, 3) := by decide +kernel
theorem dX6_placeOf_67 : decode cX6_placeOf 67 = .ok (.iconst 0, 1) := by decide +kernel
theorem dX6_placeOf_68 : decode cX6_placeOf 68 = .ok (.istore 6, 2) := by decide +kernel
theorem dX6_placeOf_70 : decode cX6_placeOf 70 = .ok (.iload_n 3, 1) := by decide +kernel
theorem dX6_placeOf_71 : decode cX6_placeOf 71 = .ok (.iload 6, 2) := by decide +kernel
theorem dX6_placeOf_73 : decode cX6_placeOf 73 = .ok (.ifCond .eq 7, 3) := by decide +kernel
theorem dX6_placeOf_76 : decode cX6_placeOf 76 = .ok (.iconst 1, 1) := by decide +kernel
theorem dX6_placeOf_77 : decode cX6_placeOf 77 = .ok (.goto 4, 3) := by decide +kernel
theorem dX6_placeOf_80 : decode cX6_placeOf 80 = .ok (.iconst 0, 1) := by decide +kernel
theorem dX6_placeOf_81 : decode cX6_placeOf 81 = .ok (.iadd, 1) := by decide +kernel
theorem dX6_placeOf_82 : decode cX6_placeOf 82 = .ok (.istore_n 3, 1) := by decide +kernel
theorem dX6_placeOf_83 : decode cX6_placeOf 83 = .ok (.iinc 4 1, 3) := by decide +kernel
theorem dX6_placeOf_86 : decode cX6_placeOf 86 = .ok (.goto (-66), 3) := by decide +kernel
theorem dX6_placeOf_89 : decode cX6_placeOf 89 = .ok (.iload_n 3, 1) := by decide +kernel
theorem dX6_placeOf_90 : decode cX6_placeOf 90 = .ok (.ireturn, 1) := by decide +kernel
set_option maxRecDepth 20000 in
theorem ggX6_worth_X6_isScript : GoodIn wsX6_worth wsX6_isScript := goodIn_r _ [5, 6, 7, 8, 4, 9, 73, 74, 75, 76, 77, 78, 79, 80, 81, 82, 83, 84, 85, 86, 87, 88, 89, 90, 91, 92, 93, 94, 95, 96] (by decide +kernel) (by decide +kernel)
set_option maxRecDepth 20000 in
theorem gX6_worth_X6_isScript : GoodIn wsX6_worth (wsV RX6 133 RX6 yX6_isScript wsX6_isScript) := goodIn_app (goodIn_of _ (by decide +kernel)) ggX6_worth_X6_isScript
set_option maxRecDepth 20000 in
theorem ggX6_worth_X6_asks : GoodIn wsX6_worth wsX6_asks := goodIn_r _ [13, 14, 73, 74, 75, 76, 77, 78, 79, 80, 81, 82, 83, 84, 85, 86, 87, 88, 89, 90, 91, 92, 93, 94, 95, 96] (by decide +kernel) (by decide +kernel)
set_option maxRecDepth 20000 in
theorem gX6_worth_X6_asks : GoodIn wsX6_worth (wsV RX6 82 RX6 yX6_asks wsX6_asks) := goodIn_app (goodIn_of _ (by decide +kernel)) ggX6_worth_X6_asks
set_option maxRecDepth 20000 in
theorem ggX6_worth_X6_worthOf : GoodIn wsX6_worth wsX6_worthOf := goodIn_r _ [18, 19, 20, 21, 22, 4, 23, 24, 25, 26, 27, 28, 29, 30, 31, 32, 33, 34, 35, 36, 37, 38, 39, 40, 41, 42, 43, 44, 45, 46, 47, 48, 49, 50, 51, 52, 53, 54, 55, 56, 57, 58, 59, 60, 61, 62, 63, 64, 65, 66, 67, 68, 69, 70, 71, 72, 73, 74, 75, 76, 77, 78, 79, 80, 81, 82, 83, 84, 85, 86, 87, 88, 89, 90, 91, 92, 93, 94, 95, 96] (by decide +kernel) (by decide +kernel)
set_option maxRecDepth 20000 in
theorem gX6_worth_X6_worthOf : GoodIn wsX6_worth (wsV RX6 158 RX6 yX6_worthOf wsX6_worthOf) := goodIn_app (goodIn_of _ (by decide +kernel)) ggX6_worth_X6_worthOf
theorem dX6_worth_0 : decode cX6_worth 0 = .ok (.aload_n 0, 1) := by decide +kernel
theorem dX6_worth_1 : decode cX6_worth 1 = .ok (.aload_n 0, 1) := by decide +kernel
theorem dX6_worth_2 : decode cX6_worth 2 = .ok (.iload_n 1, 1) := by decide +kernel
theorem dX6_worth_3 : decode cX6_worth 3 = .ok (.invokevirtual 133, 3) := by decide +kernel
theorem dX6_worth_6 : decode cX6_worth 6 = .ok (.invokevirtual 82, 3) := by decide +kernel
theorem dX6_worth_9 : decode cX6_worth 9 = .ok (.ifCond .eq 11, 3) := by decide +kernel
theorem dX6_worth_12 : decode cX6_worth 12 = .ok (.aload_n 0, 1) := by decide +kernel
theorem dX6_worth_13 : decode cX6_worth 13 = .ok (.iload_n 1, 1) := by decide +kernel
theorem dX6_worth_14 : decode cX6_worth 14 = .ok (.invokevirtual 158, 3) := by decide +kernel
theorem dX6_worth_17 : decode cX6_worth 17 = .ok (.goto 4, 3) := by decide +kernel
theorem dX6_worth_20 : decode cX6_worth 20 = .ok (.iconst 0, 1) := by decide +kernel
theorem dX6_worth_21 : decode cX6_worth 21 = .ok (.ireturn, 1) := by decide +kernel
set_option maxRecDepth 20000 in
theorem ggX6_place_X6_isScript : GoodIn wsX6_place wsX6_isScript := goodIn_r _ [5, 6, 7, 8, 4, 9, 77, 78, 79, 80, 81, 82, 83, 84, 85, 86, 87, 88, 89, 90, 91, 92, 93, 94, 95, 96, 97, 98, 99, 100] (by decide +kernel) (by decide +kernel)
set_option maxRecDepth 20000 in
theorem gX6_place_X6_isScript : GoodIn wsX6_place (wsV RX6 133 RX6 yX6_isScript wsX6_isScript) := goodIn_app (goodIn_of _ (by decide +kernel)) ggX6_place_X6_isScript
set_option maxRecDepth 20000 in
theorem ggX6_place_X6_asks : GoodIn wsX6_place wsX6_asks := goodIn_r _ [13, 14, 77, 78, 79, 80, 81, 82, 83, 84, 85, 86, 87, 88, 89, 90, 91, 92, 93, 94, 95, 96, 97, 98, 99, 100] (by decide +kernel) (by decide +kernel)
set_option maxRecDepth 20000 in
theorem gX6_place_X6_asks : GoodIn wsX6_place (wsV RX6 82 RX6 yX6_asks wsX6_asks) := goodIn_app (goodIn_of _ (by decide +kernel)) ggX6_place_X6_asks
set_option maxRecDepth 20000 in
theorem ggX6_place_X6_placeOf : GoodIn wsX6_place wsX6_placeOf := goodIn_r _ [18, 6, 19, 20, 21, 4, 22, 23, 24, 25, 26, 27, 28, 29, 30, 31, 32, 33, 34, 35, 36, 37, 38, 39, 40, 41, 42, 43, 44, 45, 46, 47, 48, 49, 50, 51, 52, 53, 54, 55, 56, 57, 58, 59, 60, 61, 62, 63, 64, 65, 66, 67, 68, 69, 70, 71, 72, 73, 74, 75, 76, 77, 78, 79, 80, 81, 82, 83, 84, 85, 86, 87, 88, 89, 90, 91, 92, 93, 94, 95, 96, 97, 98, 99, 100] (by decide +kernel) (by decide +kernel)
set_option maxRecDepth 20000 in
theorem gX6_place_X6_placeOf : GoodIn wsX6_place (wsV RX6 161 RX6 yX6_placeOf wsX6_placeOf) := goodIn_app (goodIn_of _ (by decide +kernel)) ggX6_place_X6_placeOf
theorem dX6_place_0 : decode cX6_place 0 = .ok (.aload_n 0, 1) := by decide +kernel
theorem dX6_place_1 : decode cX6_place 1 = .ok (.aload_n 0, 1) := by decide +kernel
theorem dX6_place_2 : decode cX6_place 2 = .ok (.iload_n 1, 1) := by decide +kernel
theorem dX6_place_3 : decode cX6_place 3 = .ok (.invokevirtual 133, 3) := by decide +kernel
theorem dX6_place_6 : decode cX6_place 6 = .ok (.invokevirtual 82, 3) := by decide +kernel
theorem dX6_place_9 : decode cX6_place 9 = .ok (.ifCond .eq 11, 3) := by decide +kernel
theorem dX6_place_12 : decode cX6_place 12 = .ok (.aload_n 0, 1) := by decide +kernel
theorem dX6_place_13 : decode cX6_place 13 = .ok (.iload_n 1, 1) := by decide +kernel
theorem dX6_place_14 : decode cX6_place 14 = .ok (.invokevirtual 161, 3) := by decide +kernel
theorem dX6_place_17 : decode cX6_place 17 = .ok (.goto 4, 3) := by decide +kernel
theorem dX6_place_20 : decode cX6_place 20 = .ok (.iconst 0, 1) := by decide +kernel
theorem dX6_place_21 : decode cX6_place 21 = .ok (.ireturn, 1) := by decide +kernel
set_option maxRecDepth 20000 in
theorem ggX6_at_X6_asks : GoodIn wsX6_at wsX6_asks := goodIn_r _ [6, 7, 70, 71, 72, 73, 74, 75, 76, 77, 78, 79, 80, 81, 82, 83, 84, 85, 86, 87, 88, 89, 90, 91, 92, 93] (by decide +kernel) (by decide +kernel)
set_option maxRecDepth 20000 in
theorem gX6_at_X6_asks : GoodIn wsX6_at (wsV RX6 82 RX6 yX6_asks wsX6_asks) := goodIn_app (goodIn_of _ (by decide +kernel)) ggX6_at_X6_asks
set_option maxRecDepth 20000 in
theorem ggX6_at_X6_placeOf : GoodIn wsX6_at wsX6_placeOf := goodIn_r _ [11, 1, 12, 13, 14, 5, 15, 16, 17, 18, 19, 20, 21, 22, 23, 24, 25, 26, 27, 28, 29, 30, 31, 32, 33, 34, 35, 36, 37, 38, 39, 40, 41, 42, 43, 44, 45, 46, 47, 48, 49, 50, 51, 52, 53, 54, 55, 56, 57, 58, 59, 60, 61, 62, 63, 64, 65, 66, 67, 68, 69, 70, 71, 72, 73, 74, 75, 76, 77, 78, 79, 80, 81, 82, 83, 84, 85, 86, 87, 88, 89, 90, 91, 92, 93] (by decide +kernel) (by decide +kernel)
set_option maxRecDepth 20000 in
theorem gX6_at_X6_placeOf : GoodIn wsX6_at (wsV RX6 161 RX6 yX6_placeOf wsX6_placeOf) := goodIn_app (goodIn_of _ (by decide +kernel)) ggX6_at_X6_placeOf
theorem dX6_at_0 : decode cX6_at 0 = .ok (.aload_n 0, 1) := by decide +kernel
theorem dX6_at_1 : decode cX6_at 1 = .ok (.iload_n 1, 1) := by decide +kernel
theorem dX6_at_2 : decode cX6_at 2 = .ok (.iconst 1, 1) := by decide +kernel
theorem dX6_at_3 : decode cX6_at 3 = .ok (.if_icmp .lt 7, 3) := by decide +kernel
theorem dX6_at_6 : decode cX6_at 6 = .ok (.iconst 1, 1) := by decide +kernel
theorem dX6_at_7 : decode cX6_at 7 = .ok (.goto 4, 3) := by decide +kernel
theorem dX6_at_10 : decode cX6_at 10 = .ok (.iconst 0, 1) := by decide +kernel
theorem dX6_at_11 : decode cX6_at 11 = .ok (.invokevirtual 82, 3) := by decide +kernel
theorem dX6_at_14 : decode cX6_at 14 = .ok (.ifCond .ne 5, 3) := by decide +kernel
theorem dX6_at_17 : decode cX6_at 17 = .ok (.iconst 0, 1) := by decide +kernel
theorem dX6_at_18 : decode cX6_at 18 = .ok (.ireturn, 1) := by decide +kernel
theorem dX6_at_19 : decode cX6_at 19 = .ok (.iconst (-1), 1) := by decide +kernel
theorem dX6_at_20 : decode cX6_at 20 = .ok (.istore_n 2, 1) := by decide +kernel
theorem dX6_at_21 : decode cX6_at 21 = .ok (.iconst 0, 1) := by decide +kernel
theorem dX6_at_22 : decode cX6_at 22 = .ok (.istore_n 3, 1) := by decide +kernel
theorem dX6_at_23 : decode cX6_at 23 = .ok (.iload_n 3, 1) := by decide +kernel
theorem dX6_at_24 : decode cX6_at 24 = .ok (.aload_n 0, 1) := by decide +kernel
theorem dX6_at_25 : decode cX6_at 25 = .ok (.getfield 75, 3) := by decide +kernel
theorem dX6_at_28 : decode cX6_at 28 = .ok (.if_icmp .ge 24, 3) := by decide +kernel
theorem dX6_at_31 : decode cX6_at 31 = .ok (.aload_n 0, 1) := by decide +kernel
theorem dX6_at_32 : decode cX6_at 32 = .ok (.iload_n 3, 1) := by decide +kernel
theorem dX6_at_33 : decode cX6_at 33 = .ok (.invokevirtual 161, 3) := by decide +kernel
theorem dX6_at_36 : decode cX6_at 36 = .ok (.iload_n 1, 1) := by decide +kernel
theorem dX6_at_37 : decode cX6_at 37 = .ok (.if_icmp .ne 7, 3) := by decide +kernel
theorem dX6_at_40 : decode cX6_at 40 = .ok (.iload_n 3, 1) := by decide +kernel
theorem dX6_at_41 : decode cX6_at 41 = .ok (.goto 4, 3) := by decide +kernel
theorem dX6_at_44 : decode cX6_at 44 = .ok (.iload_n 2, 1) := by decide +kernel
theorem dX6_at_45 : decode cX6_at 45 = .ok (.istore_n 2, 1) := by decide +kernel
theorem dX6_at_46 : decode cX6_at 46 = .ok (.iinc 3 1, 3) := by decide +kernel
theorem dX6_at_49 : decode cX6_at 49 = .ok (.goto (-26), 3) := by decide +kernel
theorem dX6_at_52 : decode cX6_at 52 = .ok (.iload_n 2, 1) := by decide +kernel
theorem dX6_at_53 : decode cX6_at 53 = .ok (.ireturn, 1) := by decide +kernel
end
section
/-! ## pictures by address: what is known of the heap is a map from addresses to cells; a write changes one place of it -/
abbrev mM : Type := Nat → Option va_E
def pm (D : va_G) (M : mM) (H : Heap) : Prop := ∀ (a : Nat) (e : va_E), M a = some e → va_at D vwCl (a, e) H
def mset (M : mM) (a : Nat) (e : va_E) : mM := fun q => if q = a then some e else M q
theorem mset_self (M : mM) (a : Nat) (e : va_E) : mset M a e a = some e := if_pos rfl
theorem mset_ne {M : mM} {a q : Nat} {e : va_E} (h : q ≠ a) : mset M a e q = M q := if_neg h
theorem mset_some {M : mM} {a q : Nat} {e : va_E} (h : mset M a e q ≠ none) : q = a ∨ M q ≠ none := by
  by_cases hq : q = a
  · exact Or.inl hq
  · rw [mset_ne hq] at h; exact Or.inr h
theorem mset_mono {M : mM} {a q : Nat} {e : va_E} (h : M q ≠ none) : mset M a e q ≠ none := by
  by_cases hq : q = a
  · rw [hq, mset_self]; exact fun z => by cases z
  · rw [mset_ne hq]; exact h
theorem m_ne {M : mM} {a : Nat} {e : va_E} (h : M a = some e) : M a ≠ none := by rw [h]; exact fun z => by cases z
/-- which cells a method may change -/
def mA (M : mM) (sz : Nat) : Nat → Prop := fun q => M q ≠ none ∨ sz ≤ q
def mD (A : Nat → Prop) (M : mM) : Prop := ∀ q : Nat, M q ≠ none → A q
theorem mD.at {A : Nat → Prop} {M : mM} (h : mD A M) {a : Nat} {e : va_E} (he : M a = some e) : A a := h a (m_ne he)
theorem mD.set {A : Nat → Prop} {M : mM} (h : mD A M) {a : Nat} {e : va_E} (ha : A a) : mD A (mset M a e) := fun q hq => by
  rcases mset_some hq with h1 | h1
  · rw [h1]; exact ha
  · exact h q h1
theorem pm.one {D : va_G} {M : mM} {H : Heap} (h : pm D M H) {a : Nat} {e : va_E} (he : M a = some e) : va_P D vwCl [(a, e)] H := by
  intro k q hk
  cases k with
  | zero => cases hk; exact h a e he
  | succ k => cases hk
theorem pm.lt {D : va_G} {M : mM} {H : Heap} (h : pm D M H) {a : Nat} {e : va_E} (he : M a = some e) : a < H.size := (h a e he).lt
theorem pm.lt' {D : va_G} {M : mM} {H : Heap} (h : pm D M H) {a : Nat} (he : M a ≠ none) : a < H.size := by
  cases hm : M a with
  | none => exact absurd hm he
  | some e => exact h.lt hm
theorem pm.fresh {D : va_G} {M : mM} {H : Heap} (h : pm D M H) {a : Nat} (ha : H.size ≤ a) : M a = none := by
  cases hm : M a with
  | none => rfl
  | some e => have := h.lt hm; omega
theorem pm.kept {D : va_G} {M : mM} {H H1 : Heap} (h : pm D M H) (hq : ∀ q : Nat, M q ≠ none → H1[q]? = H[q]?) : pm D M H1 := fun a e he => (h a e he).kept (hq a (m_ne he))
theorem pm.set {D : va_G} {M : mM} {H H1 : Heap} (h : pm D M H) {a : Nat} {e : va_E} (he : va_at D vwCl (a, e) H1) (oq : ∀ q : Nat, q ≠ a → H1[q]? = H[q]?) : pm D (mset M a e) H1 := by
  intro q e' hq
  by_cases hqa : q = a
  · subst hqa
    rw [mset_self] at hq
    cases hq
    exact he
  · rw [mset_ne hqa] at hq
    exact (h q e' hq).kept (oq q hqa)
/-- behind a call with another picture -/
theorem pm.rest {D : va_G} {M M1 : mM} {H H1 : Heap} (h : pm D M H) (hd : ∀ q : Nat, M q ≠ none → M1 q = none) (hk : ∀ q : Nat, q < H.size → ¬ mA M1 H.size q → H1[q]? = H[q]?) : pm D M H1 :=
  h.kept fun q hq => hk q (h.lt' hq) (fun z => by
    rcases z with z | z
    · exact z (hd q hq)
    · have := h.lt' hq
      omega)
/-- the array classes: int, boolean, Object, long -/
abbrev mT (cy : Nat → ClassId) : List (ClassId × FieldType) := [(cy 0, .int), (cy 1, .boolean), (cy 2, .object "java/lang/Object"), (cy 3, .long)]
abbrev mK (D : va_G) (cy : Nat → ClassId) (s : State) : Prop := va_K D vwCl (mT cy) s
/-- an int array's cell by numbers -/
abbrev eI (cy : Nat → ClassId) (n : Nat) (g : Nat → Nat) : va_E := .inl (cy 0, n, .inl (fun j => nI (g j)))
abbrev eZ (cy : Nat → ClassId) (n : Nat) (g : Nat → Nat) : va_E := .inl (cy 1, n, .inl (fun j => nI (g j)))
abbrev eQ (cy : Nat → ClassId) (n : Nat) (g : Nat → Option Nat) : va_E := .inl (cy 2, n, .inr (.inr (.inr (.inr g))))
abbrev eJ (cy : Nat → ClassId) (n : Nat) (g : Nat → Int64) : va_E := .inl (cy 3, n, .inr (.inl g))
def b2 (b : Bool) : Nat := if b then 1 else 0
theorem b2_le (b : Bool) : b2 b ≤ 1 := by cases b <;> decide
theorem upd_nI {g : Nat → Nat} {i v : Nat} (hi : i < 2 ^ 31) : upd (fun j => nI (g j)) (nI i).toNatClampNeg (nI v) = fun j => nI (va_up g i v j) := by
  funext j
  rw [nI_clamp hi]
  unfold upd va_up
  split <;> rfl
section MB
variable {p : Program} {l : Launch} {e : Env} {R : Room} {s : State} {m : MethodId} {args : Array Value} {below : List Frame} {meth : Method} {c : Code} {H : Heap} {locs : List Loc} {cells slots : Nat} {Q : State → Prop}
variable {cc : ByteArray} {pc : Nat} {ls : Array Slot} {rest : List Value} {D : va_G} {A : Nat → Prop} {cy : Nat → ClassId} {M : mM} {H0 : Heap} {a : Nat}
theorem m_get {own C : String} {T : u_T} {N ci index : Nat} {tys : List (ClassId × FieldType)} (hexec : p.tables.exec = Jvm.exec) (hb : c.code = cc) (hts : ∀ w ∈ u_ws C T N, w.before args s = true) (hown : s.vm.findClass own = some m.cls) (hK : va_K D vwCl tys s) (hP : pm D M H) {fs : List Value} (he : M a = some (.inr (ci, fs))) (hc : vwCl[ci]? = some (C, T, N)) (k : Nat) (hk : k < N) (hlink : (Cond.fieldLink own index (T k).1 (T k).2.1 (T k).2.2.1).before args s = true) {v : Value} (hv : fs[k]? = some v) (hdg : decode cc pc = .ok (.getfield index, 3))
    (kk : W p l e R s m args below meth c H locs cells slots Q (F0 m (pc + 3) ls (v :: rest))) : W p l e R s m args below meth c H locs cells slots Q (F0 m pc ls (.ref a :: rest)) :=
  va_get hexec hb hts (fun _ h => h) hown hK (hP.one he) 0 rfl hc k hk hlink (fun _ h => h) hv hdg kk
theorem m_put {own C : String} {T : u_T} {N ci index : Nat} {tys : List (ClassId × FieldType)} (hexec : p.tables.exec = Jvm.exec) (hb : c.code = cc) (hts : ∀ w ∈ u_ws C T N, w.before args s = true) (ty0 : Nat → FieldType) (hty : ∀ k, k < N → parseFieldDescriptor (T k).2.2.1 = some (ty0 k)) (hnm : ∀ a, a < N → ∀ b, b < N → a ≠ b → (T a).2.1 ≠ (T b).2.1) (hown : s.vm.findClass own = some m.cls) (hK : va_K D vwCl tys s) (hP : pm D M H) (hD : mD A M) (hS0 : va_S A H0 H locs) {fs : List Value} (he : M a = some (.inr (ci, fs))) (hc : vwCl[ci]? = some (C, T, N)) (k : Nat) (hk : k < N) (hlink : (Cond.fieldLink own index (T k).1 (T k).2.1 (T k).2.2.1).before args s = true) (hfin : (T k).2.2.2 = false) {v : Value} (hn : narrow (ty0 k) v = v) (hfit : fits (ty0 k) v = true) (hl : k < fs.length)
    (hdg : decode cc pc = .ok (.putfield index, 3)) (kk : ∀ (H1 : Heap) (locs1 : List Loc), pm D (mset M a (.inr (ci, fs.set k v))) H1 → mD A (mset M a (.inr (ci, fs.set k v))) → va_S A H0 H1 locs1 → W p l e R s m args below meth c H1 locs1 cells slots Q (F0 m (pc + 3) ls rest)) : W p l e R s m args below meth c H locs cells slots Q (F0 m pc ls (v :: .ref a :: rest)) := by
  have hap := va_apart (own := own) hts (fun _ h => h) ty0 hty hnm hK hc
  obtain ⟨r, h1, cell, q1, q2, q3, q4⟩ := hP a _ he
  have hr : r = (C, T, N) := Option.some.inj (h1.symm.trans hc)
  subst hr
  obtain ⟨hS, hfc, kC, hkC, hkind⟩ := hK.1 ci _ hc
  obtain ⟨cf, kf, fi, f, hi, hsl⟩ := hS k hk
  have hlay := hts _ (u_in_lay hk)
  unfold u_lay at hlay
  rw [if_neg (by rw [hfin]; decide)] at hlay
  have hst := (u_facts hfc hkC (u_lays hts (fun _ h => h) hk) hi).1
  have h6 := u_store hfc hkC hkind hlay hi (hty k hk) hn hfit
  refine W.putK hexec hb (f := f) ⟨hown, hlink, ⟨_, _, _, hi⟩, hst⟩ (by rw [q2]; exact h6) q1 q3 (by rw [hsl]; exact k2_hasslot (q4 k hk)) rfl rfl hdg fun H' e1 e2 e3 => ?_
  rw [hsl] at e1 ⊢
  exact kk H' _ (hP.set ⟨_, hc, t_OB.to (V := updV (vp_V fs) k v) ⟨_, e1, q2, q3, t_set q4 hap hk v⟩ (fun j _ => vp_updV_set hl v j)⟩ e3) (hD.set (hD.at he)) (hS0.put e2 e3 (hD.at he))
theorem m_putF {own C : String} {T : u_T} {N ci index : Nat} {tys : List (ClassId × FieldType)} (hexec : p.tables.exec = Jvm.exec) (hb : c.code = cc) (hts : ∀ w ∈ u_ws C T N, w.before args s = true) (ty0 : Nat → FieldType) (hty : ∀ k, k < N → parseFieldDescriptor (T k).2.2.1 = some (ty0 k)) (hnm : ∀ a, a < N → ∀ b, b < N → a ≠ b → (T a).2.1 ≠ (T b).2.1) (hown : s.vm.findClass own = some m.cls) (hK : va_K D vwCl tys s) (hP : pm D M H) (hD : mD A M) (hS0 : va_S A H0 H locs) {fs : List Value} (he : M a = some (.inr (ci, fs))) (hc : vwCl[ci]? = some (C, T, N)) (k : Nat) (hk : k < N) (hlink : (Cond.fieldLink own index (T k).1 (T k).2.1 (T k).2.2.1).before args s = true) (hfin : (T k).2.2.2 = true) (hin2 : meth.name = "<init>") (hdecl : (T k).1 = own) {v : Value} (hn : narrow (ty0 k) v = v) (hfit : fits (ty0 k) v = true) (hl : k < fs.length)
    (hdg : decode cc pc = .ok (.putfield index, 3)) (kk : ∀ (H1 : Heap) (locs1 : List Loc), pm D (mset M a (.inr (ci, fs.set k v))) H1 → mD A (mset M a (.inr (ci, fs.set k v))) → va_S A H0 H1 locs1 → W p l e R s m args below meth c H1 locs1 cells slots Q (F0 m (pc + 3) ls rest)) : W p l e R s m args below meth c H locs cells slots Q (F0 m pc ls (v :: .ref a :: rest)) := by
  have hap := va_apart (own := own) hts (fun _ h => h) ty0 hty hnm hK hc
  obtain ⟨r, h1, cell, q1, q2, q3, q4⟩ := hP a _ he
  have hr : r = (C, T, N) := Option.some.inj (h1.symm.trans hc)
  subst hr
  obtain ⟨hS, hfc, kC, hkC, hkind⟩ := hK.1 ci _ hc
  obtain ⟨cf, kf, fi, f, hi, hsl⟩ := hS k hk
  have hlay := hts _ (u_in_lay hk)
  unfold u_lay at hlay
  rw [if_pos hfin] at hlay
  have hst := (u_facts hfc hkC (u_lays hts (fun _ h => h) hk) hi).1
  have hcf : m.cls = cf := by
    obtain ⟨_, _, c', _, _, _, -, -, hf', -, -, -, hown2, -⟩ := Cond.laysFinal_spec hlay
    have e1 : c' = cf := by have := hi.symm.trans hf'; simp at this; exact this.1.symm
    rw [hdecl] at hown2
    rw [← e1]; exact Option.some.inj (hown.symm.trans hown2)
  have h6 := u_fits hfc hkC hkind (Or.inr hlay) hi (hty k hk) hn hfit
  refine W.putFinK hexec hb hown hlink hi hst hcf hin2 (by rw [q2]; exact h6) q1 q3 (by rw [hsl]; exact k2_hasslot (q4 k hk)) rfl rfl hdg fun H' e1 e2 e3 => ?_
  rw [hsl] at e1 ⊢
  exact kk H' _ (hP.set ⟨_, hc, t_OB.to (V := updV (vp_V fs) k v) ⟨_, e1, q2, q3, t_set q4 hap hk v⟩ (fun j _ => vp_updV_set hl v j)⟩ e3) (hD.set (hD.at he)) (hS0.put e2 e3 (hD.at he))
/-! arrays, by numbers -/
theorem n_iald {g : Nat → Nat} {n i : Nat} (hexec : p.tables.exec = Jvm.exec) (hb : c.code = cc) (hK : mK D cy s) (hP : pm D M H) (he : M a = some (eI cy n g)) (hi : i < n) (hn : n < 2 ^ 31) (hdg : decode cc pc = .ok (.iaload, 1))
    (kk : W p l e R s m args below meth c H locs cells slots Q (F0 m (pc + 1) ls (.int (nI (g i)) :: rest))) : W p l e R s m args below meth c H locs cells slots Q (F0 m pc ls (.int (nI i) :: .ref a :: rest)) := by
  refine va_iald hexec hb hK (hP.one he) 0 0 rfl rfl (vp_in_nI hi hn) hdg ?_
  rw [nI_clamp (by omega)]
  exact kk
theorem n_zald {g : Nat → Nat} {n i : Nat} (hexec : p.tables.exec = Jvm.exec) (hb : c.code = cc) (hK : mK D cy s) (hP : pm D M H) (he : M a = some (eZ cy n g)) (hi : i < n) (hn : n < 2 ^ 31) (hdg : decode cc pc = .ok (.baload, 1))
    (kk : W p l e R s m args below meth c H locs cells slots Q (F0 m (pc + 1) ls (.int (nI (g i)) :: rest))) : W p l e R s m args below meth c H locs cells slots Q (F0 m pc ls (.int (nI i) :: .ref a :: rest)) := by
  refine va_zald hexec hb hK (hP.one he) 0 1 rfl rfl (vp_in_nI hi hn) hdg ?_
  rw [nI_clamp (by omega)]
  exact kk
theorem n_qald {g : Nat → Option Nat} {n i : Nat} (hexec : p.tables.exec = Jvm.exec) (hb : c.code = cc) (hK : mK D cy s) (hP : pm D M H) (he : M a = some (eQ cy n g)) (hi : i < n) (hn : n < 2 ^ 31) (hdg : decode cc pc = .ok (.aaload, 1))
    (kk : W p l e R s m args below meth c H locs cells slots Q (F0 m (pc + 1) ls (va_rf (g i) :: rest))) : W p l e R s m args below meth c H locs cells slots Q (F0 m pc ls (.int (nI i) :: .ref a :: rest)) := by
  refine va_aldq hexec hb hK (hP.one he) 0 2 rfl rfl (vp_in_nI hi hn) hdg ?_
  rw [nI_clamp (by omega)]
  exact kk
theorem n_jald {g : Nat → Int64} {n i : Nat} (hexec : p.tables.exec = Jvm.exec) (hb : c.code = cc) (hK : mK D cy s) (hP : pm D M H) (he : M a = some (eJ cy n g)) (hi : i < n) (hn : n < 2 ^ 31) (hdg : decode cc pc = .ok (.laload, 1))
    (kk : W p l e R s m args below meth c H locs cells slots Q (F0 m (pc + 1) ls (.long (g i) :: rest))) : W p l e R s m args below meth c H locs cells slots Q (F0 m pc ls (.int (nI i) :: .ref a :: rest)) := by
  refine va_lald hexec hb hK (hP.one he) 0 3 rfl rfl (vp_in_nI hi hn) hdg ?_
  rw [nI_clamp (by omega)]
  exact kk
theorem n_iast {g : Nat → Nat} {n i v : Nat} (hexec : p.tables.exec = Jvm.exec) (hb : c.code = cc) (hK : mK D cy s) (hP : pm D M H) (hD : mD A M) (hS : va_S A H0 H locs) (he : M a = some (eI cy n g)) (hi : i < n) (hn : n < 2 ^ 31) (hdg : decode cc pc = .ok (.iastore, 1))
    (kk : ∀ (H1 : Heap) (locs1 : List Loc), pm D (mset M a (eI cy n (va_up g i v))) H1 → mD A (mset M a (eI cy n (va_up g i v))) → va_S A H0 H1 locs1 → W p l e R s m args below meth c H1 locs1 cells slots Q (F0 m (pc + 1) ls rest)) : W p l e R s m args below meth c H locs cells slots Q (F0 m pc ls (.int (nI v) :: .int (nI i) :: .ref a :: rest)) := by
  refine W.iast hexec hb (hP a _ he) ((hK.2 0 _ rfl).1 n (fun j => .int (nI (g j)))) (fun q => by cases q) (by show ¬ (nI i < 0 ∨ (arrV _ _ _).slots.size ≤ _); rw [arrV_size]; exact vp_in_nI hi hn) rfl rfl hdg fun H1 e z oq => ?_
  refine kk H1 _ (hP.set ?_ oq) (hD.set (hD.at he)) (hS.put z oq (hD.at he))
  show H1[a]? = some (vp_cell _ _)
  rw [e]
  rw [vp_cell_i, vp_cell_i, arrV_store, nI_clamp (by omega)]
  congr 2
  funext q
  by_cases hq : q = i
  · subst hq
    simp [updV, va_up]
  · simp [updV, va_up, hq]
theorem n_zast {g : Nat → Nat} {n i v : Nat} (hexec : p.tables.exec = Jvm.exec) (hb : c.code = cc) (hK : mK D cy s) (hP : pm D M H) (hD : mD A M) (hS : va_S A H0 H locs) (he : M a = some (eZ cy n g)) (hi : i < n) (hn : n < 2 ^ 31) (hv : v ≤ 1) (hdg : decode cc pc = .ok (.bastore, 1))
    (kk : ∀ (H1 : Heap) (locs1 : List Loc), pm D (mset M a (eZ cy n (va_up g i v))) H1 → mD A (mset M a (eZ cy n (va_up g i v))) → va_S A H0 H1 locs1 → W p l e R s m args below meth c H1 locs1 cells slots Q (F0 m (pc + 1) ls rest)) : W p l e R s m args below meth c H locs cells slots Q (F0 m pc ls (.int (nI v) :: .int (nI i) :: .ref a :: rest)) := by
  refine W.zast hexec hb (hP a _ he) ((hK.2 1 _ rfl).1 n (fun j => .int (nI (g j)))) (fun q => by cases q) (by show ¬ (nI i < 0 ∨ (arrV _ _ _).slots.size ≤ _); rw [arrV_size]; exact vp_in_nI hi hn) rfl rfl hdg fun H1 e z oq => ?_
  refine kk H1 _ (hP.set ?_ oq) (hD.set (hD.at he)) (hS.put z oq (hD.at he))
  show H1[a]? = some (vp_cell _ _)
  rw [e]
  rw [vp_cell_i, vp_cell_i, arrV_store, nI_clamp (by omega)]
  have hnv : narrow .boolean (.int (nI v)) = .int (nI v) := by
    rcases (show v = 0 ∨ v = 1 by omega) with rfl | rfl <;> rfl
  congr 2
  funext q
  by_cases hq : q = i
  · subst hq
    simp [updV, va_up, hnv]
  · simp [updV, va_up, hq]
theorem n_jast {g : Nat → Int64} {n i : Nat} {v : Int64} (hexec : p.tables.exec = Jvm.exec) (hb : c.code = cc) (hK : mK D cy s) (hP : pm D M H) (hD : mD A M) (hS : va_S A H0 H locs) (he : M a = some (eJ cy n g)) (hi : i < n) (hn : n < 2 ^ 31) (hdg : decode cc pc = .ok (.lastore, 1))
    (kk : ∀ (H1 : Heap) (locs1 : List Loc), pm D (mset M a (eJ cy n (va_up g i v))) H1 → mD A (mset M a (eJ cy n (va_up g i v))) → va_S A H0 H1 locs1 → W p l e R s m args below meth c H1 locs1 cells slots Q (F0 m (pc + 1) ls rest)) : W p l e R s m args below meth c H locs cells slots Q (F0 m pc ls (.long v :: .int (nI i) :: .ref a :: rest)) := by
  refine W.last hexec hb (hP a _ he) ((hK.2 3 _ rfl).1 n (fun j => .long (g j))) (fun q => by cases q) (by show ¬ (nI i < 0 ∨ (arrV _ _ _).slots.size ≤ _); rw [arrV_size]; exact vp_in_nI hi hn) rfl rfl hdg fun H1 e z oq => ?_
  refine kk H1 _ (hP.set ?_ oq) (hD.set (hD.at he)) (hS.put z oq (hD.at he))
  show H1[a]? = some (vp_cell _ _)
  rw [e]
  rw [vp_cell_l, vp_cell_l, arrV_store, nI_clamp (by omega)]
  congr 2
  funext q
  by_cases hq : q = i
  · subst hq
    simp [updV, va_up]
  · simp [updV, va_up, hq]
theorem m_alen {n : Nat} {x : vp_A} {t0 : Nat} {ty : FieldType} {cA : ClassId} (hexec : p.tables.exec = Jvm.exec) (hb : c.code = cc) (hK : mK D cy s) (hP : pm D M H) (he : M a = some (.inl (cA, x))) (ht : (mT cy)[t0]? = some (cA, ty)) (hx : x.1 = n) (hdg : decode cc pc = .ok (.arraylength, 1))
    (kk : W p l e R s m args below meth c H locs cells slots Q (F0 m (pc + 1) ls (.int (nI n) :: rest))) : W p l e R s m args below meth c H locs cells slots Q (F0 m pc ls (.ref a :: rest)) :=
  va_alen hexec hb hK (hP.one he) 0 t0 rfl ht (by rw [hx]; rfl) hdg kk
/-! what is made -/
theorem n_newa (hexec : p.tables.exec = Jvm.exec) (hb : c.code = cc) {atype : ArrayType} (harr : (Cond.arrayClass (newarray.typeOf atype)).before args s = true) (hK : mK D cy s) (hP : pm D M H) (hD : mD A M) (hS : va_S A H0 H locs) (hA : ∀ q, H0.size ≤ q → A q) (t0 : Nat) {cA : ClassId} (ht : (mT cy)[t0]? = some (cA, newarray.typeOf atype)) (hra : va_RA s cA (newarray.typeOf atype) → s.vm.findClass ("[" ++ (newarray.typeOf atype).toString) = some cA)
    {n : Nat} {x : vp_A} (hx : vp_cell cA x = arrV cA n (fun _ => defaultValue (newarray.typeOf atype))) (hn : n < 2 ^ 31) (hbytes : n * componentBytes (newarray.typeOf atype) ≤ 536870912) (hcells : cells + 1 ≤ R.cells) (hslots : slots + n ≤ R.slots) (hdg : decode cc pc = .ok (.newarray atype, 2))
    (kk : ∀ (q : Nat) (H1 : Heap), M q = none → q = H.size → H1.size = H.size + 1 → pm D (mset M q (.inl (cA, x))) H1 → mD A (mset M q (.inl (cA, x))) → va_S A H0 H1 locs →
      W p l e R s m args below meth c H1 locs (cells + 1) (slots + n) Q (F0 m (pc + 2) ls (.ref q :: rest))) : W p l e R s m args below meth c H locs cells slots Q (F0 m pc ls (.int (nI n) :: rest)) := by
  refine va_newaK hexec hb harr rfl hdg rfl (nI_pos hn) (nI_clamp hn) hbytes hcells hslots rfl fun H1 cB e1 z1 o1 hAr hNm => ?_
  have hcB : cB = cA := Option.some.inj (hNm.symm.trans (hra (hK.2 t0 _ ht).2))
  subst hcB
  refine kk H.size H1 (hP.fresh (Nat.le_refl _)) rfl z1 ?_ (hD.set (hA _ hS.1)) ⟨Nat.le_trans hS.1 (by omega), fun x h1 h2 => (o1 x (Nat.lt_of_lt_of_le h1 hS.1)).trans (hS.2.1 x h1 h2), hS.2.2⟩
  intro q e' hq
  by_cases hqa : q = H.size
  · subst hqa
    rw [mset_self] at hq
    cases hq
    show H1[H.size]? = some (vp_cell _ _)
    rw [hx]
    exact e1
  · rw [mset_ne hqa] at hq
    exact (hP q e' hq).kept (o1 q (hP.lt hq))
theorem m_new {own C : String} {T : u_T} {N ci index : Nat} {tys : List (ClassId × FieldType)} (hexec : p.tables.exec = Jvm.exec) (hb : c.code = cc) (hts : ∀ w ∈ u_ws C T N, w.before args s = true) (ty : Nat → FieldType) (hty : ∀ k, k < N → parseFieldDescriptor (T k).2.2.1 = some (ty k)) (hown : s.vm.findClass own = some m.cls) (hcl : (Cond.classLink own index C).before args s = true) (hinst : (Cond.instantiable C N).before args s = true) (hini : (Cond.initialized C).before args s = true)
    (hK : va_K D vwCl tys s) (hP : pm D M H) (hD : mD A M) (hS : va_S A H0 H locs) (hA : ∀ q, H0.size ≤ q → A q) (hc : vwCl[ci]? = some (C, T, N)) {fs : List Value} (hfs : ∀ j, j < N → defaultValue (ty j) = vp_V fs j) (hcells : cells + 1 ≤ R.cells) (hslots : slots + N ≤ R.slots) (hdg : decode cc pc = .ok (.new index, 3))
    (kk : ∀ (q : Nat) (H1 : Heap), M q = none → q = H.size → H1.size = H.size + 1 → pm D (mset M q (.inr (ci, fs))) H1 → mD A (mset M q (.inr (ci, fs))) → va_S A H0 H1 locs →
      W p l e R s m args below meth c H1 locs (cells + 1) (slots + N) Q (F0 m (pc + 3) ls (.ref q :: rest))) : W p l e R s m args below meth c H locs cells slots Q (F0 m pc ls rest) := by
  have hKn := hK.1 ci _ hc
  refine W.newcK hexec hb hown hcl hinst hini rfl hdg hcells hslots hKn.2.1 rfl fun H1 kC hkC e1 z1 o1 => ?_
  refine kk H.size H1 (hP.fresh (Nat.le_refl _)) rfl z1 ?_ (hD.set (hA _ hS.1)) ⟨Nat.le_trans hS.1 (by omega), fun x h1 h2 => (o1 x (Nat.lt_of_lt_of_le h1 hS.1)).trans (hS.2.1 x h1 h2), hS.2.2⟩
  intro q e' hq
  by_cases hqa : q = H.size
  · subst hqa
    rw [mset_self] at hq
    cases hq
    exact ⟨_, hc, (u_born ty hts (fun _ h => h) hKn hkC e1 hty).to hfs⟩
  · rw [mset_ne hqa] at hq
    exact (hP q e' hq).kept (o1 q (hP.lt hq))
/-! numbers -/
theorem n_add {x y : Nat} (hexec : p.tables.exec = Jvm.exec) (hb : c.code = cc) (hdg : decode cc pc = .ok (.iadd, 1)) (k : W p l e R s m args below meth c H locs cells slots Q (F0 m (pc + 1) ls (.int (nI (x + y)) :: rest))) : W p l e R s m args below meth c H locs cells slots Q (F0 m pc ls (.int (nI y) :: .int (nI x) :: rest)) :=
  lv_iadd hexec hb hdg (by rw [nI_add]; exact k)
theorem n_mul {x y : Nat} (hexec : p.tables.exec = Jvm.exec) (hb : c.code = cc) (hdg : decode cc pc = .ok (.imul, 1)) (k : W p l e R s m args below meth c H locs cells slots Q (F0 m (pc + 1) ls (.int (nI (x * y)) :: rest))) : W p l e R s m args below meth c H locs cells slots Q (F0 m pc ls (.int (nI y) :: .int (nI x) :: rest)) :=
  lv_imul hexec hb hdg (by rw [pk_mul]; exact k)
theorem n_sub {x y : Nat} (hexec : p.tables.exec = Jvm.exec) (hb : c.code = cc) (h : y ≤ x) (hdg : decode cc pc = .ok (.isub, 1)) (k : W p l e R s m args below meth c H locs cells slots Q (F0 m (pc + 1) ls (.int (nI (x - y)) :: rest))) : W p l e R s m args below meth c H locs cells slots Q (F0 m pc ls (.int (nI y) :: .int (nI x) :: rest)) :=
  lv_isub hexec hb hdg (by rw [pk_sub h]; exact k)
theorem n_div {x y : Nat} (hexec : p.tables.exec = Jvm.exec) (hb : c.code = cc) (hx : x < 2 ^ 31) (h0 : 0 < y) (hy : y < 2 ^ 31) (hdg : decode cc pc = .ok (.idiv, 1)) (k : W p l e R s m args below meth c H locs cells slots Q (F0 m (pc + 1) ls (.int (nI (x / y)) :: rest))) : W p l e R s m args below meth c H locs cells slots Q (F0 m pc ls (.int (nI y) :: .int (nI x) :: rest)) :=
  lv_idiv hexec hb hdg (nI_ne0 h0 hy) (by rw [pk_div hx h0 hy]; exact k)
theorem n_rem {x y : Nat} (hexec : p.tables.exec = Jvm.exec) (hb : c.code = cc) (hx : x < 2 ^ 31) (h0 : 0 < y) (hy : y < 2 ^ 31) (hdg : decode cc pc = .ok (.irem, 1)) (k : W p l e R s m args below meth c H locs cells slots Q (F0 m (pc + 1) ls (.int (nI (x % y)) :: rest))) : W p l e R s m args below meth c H locs cells slots Q (F0 m pc ls (.int (nI y) :: .int (nI x) :: rest)) :=
  lv_irem hexec hb hdg (nI_ne0 h0 hy) (by rw [pk_rem hx h0 hy]; exact k)
theorem n_name {x y : Int32} (h : x = y) (k : W p l e R s m args below meth c H locs cells slots Q (F0 m pc ls (.int y :: rest))) : W p l e R s m args below meth c H locs cells slots Q (F0 m pc ls (.int x :: rest)) := by
  rw [h]; exact k
/-! branches, by whole numbers -/
theorem z_eq (x y : Int32) {u v : Int} (hx : x.toInt = u) (hy : y.toInt = v) : x = y ↔ u = v := by rw [← hx, ← hy]; exact Int32.toInt_inj.symm
theorem z_icmp_eq (hexec : p.tables.exec = Jvm.exec) (hb : c.code = cc) {x y : Int32} {u v : Int} {off : Int} {tgt : Nat} (hx : x.toInt = u) (hy : y.toInt = v) (hdg : decode cc pc = .ok (.if_icmp .eq off, 3)) (ht : (pc : Int) + off = (tgt : Int))
    (kt : u = v → W p l e R s m args below meth c H locs cells slots Q (F0 m tgt ls rest)) (kf : u ≠ v → W p l e R s m args below meth c H locs cells slots Q (F0 m (pc + 3) ls rest)) : W p l e R s m args below meth c H locs cells slots Q (F0 m pc ls (.int y :: .int x :: rest)) :=
  lv_icmp_eq hexec hb hdg ht (fun h => kt ((z_eq x y hx hy).mp h)) (fun h => kf (fun z => h ((z_eq x y hx hy).mpr z)))
theorem z_icmp_ne (hexec : p.tables.exec = Jvm.exec) (hb : c.code = cc) {x y : Int32} {u v : Int} {off : Int} {tgt : Nat} (hx : x.toInt = u) (hy : y.toInt = v) (hdg : decode cc pc = .ok (.if_icmp .ne off, 3)) (ht : (pc : Int) + off = (tgt : Int))
    (kt : u ≠ v → W p l e R s m args below meth c H locs cells slots Q (F0 m tgt ls rest)) (kf : u = v → W p l e R s m args below meth c H locs cells slots Q (F0 m (pc + 3) ls rest)) : W p l e R s m args below meth c H locs cells slots Q (F0 m pc ls (.int y :: .int x :: rest)) :=
  lv_icmp_ne hexec hb hdg ht (fun h => kt (fun z => h ((z_eq x y hx hy).mpr z))) (fun h => kf ((z_eq x y hx hy).mp h))
theorem z_icmp_lt (hexec : p.tables.exec = Jvm.exec) (hb : c.code = cc) {x y : Int32} {u v : Int} {off : Int} {tgt : Nat} (hx : x.toInt = u) (hy : y.toInt = v) (hdg : decode cc pc = .ok (.if_icmp .lt off, 3)) (ht : (pc : Int) + off = (tgt : Int))
    (kt : u < v → W p l e R s m args below meth c H locs cells slots Q (F0 m tgt ls rest)) (kf : v ≤ u → W p l e R s m args below meth c H locs cells slots Q (F0 m (pc + 3) ls rest)) : W p l e R s m args below meth c H locs cells slots Q (F0 m pc ls (.int y :: .int x :: rest)) :=
  lv_icmp_lt hexec hb hdg ht (fun h => kt (by rw [← hx, ← hy]; exact Int32.lt_iff_toInt_lt.mp h)) (fun h => kf (by rw [← hx, ← hy]; exact Int.not_lt.mp (fun z => h (Int32.lt_iff_toInt_lt.mpr z))))
theorem z_icmp_ge (hexec : p.tables.exec = Jvm.exec) (hb : c.code = cc) {x y : Int32} {u v : Int} {off : Int} {tgt : Nat} (hx : x.toInt = u) (hy : y.toInt = v) (hdg : decode cc pc = .ok (.if_icmp .ge off, 3)) (ht : (pc : Int) + off = (tgt : Int))
    (kt : v ≤ u → W p l e R s m args below meth c H locs cells slots Q (F0 m tgt ls rest)) (kf : u < v → W p l e R s m args below meth c H locs cells slots Q (F0 m (pc + 3) ls rest)) : W p l e R s m args below meth c H locs cells slots Q (F0 m pc ls (.int y :: .int x :: rest)) :=
  lv_icmp_ge hexec hb hdg ht (fun h => kt (by rw [← hx, ← hy]; exact Int32.le_iff_toInt_le.mp h)) (fun h => kf (by rw [← hx, ← hy]; exact Int.not_le.mp (fun z => h (Int32.le_iff_toInt_le.mpr z))))
theorem z_icmp_gt (hexec : p.tables.exec = Jvm.exec) (hb : c.code = cc) {x y : Int32} {u v : Int} {off : Int} {tgt : Nat} (hx : x.toInt = u) (hy : y.toInt = v) (hdg : decode cc pc = .ok (.if_icmp .gt off, 3)) (ht : (pc : Int) + off = (tgt : Int))
    (kt : v < u → W p l e R s m args below meth c H locs cells slots Q (F0 m tgt ls rest)) (kf : u ≤ v → W p l e R s m args below meth c H locs cells slots Q (F0 m (pc + 3) ls rest)) : W p l e R s m args below meth c H locs cells slots Q (F0 m pc ls (.int y :: .int x :: rest)) :=
  lv_icmp_gt hexec hb hdg ht (fun h => kt (by rw [← hx, ← hy]; exact Int32.lt_iff_toInt_lt.mp h)) (fun h => kf (by rw [← hx, ← hy]; exact Int.not_lt.mp (fun z => h (Int32.lt_iff_toInt_lt.mpr z))))
theorem z_icmp_le (hexec : p.tables.exec = Jvm.exec) (hb : c.code = cc) {x y : Int32} {u v : Int} {off : Int} {tgt : Nat} (hx : x.toInt = u) (hy : y.toInt = v) (hdg : decode cc pc = .ok (.if_icmp .le off, 3)) (ht : (pc : Int) + off = (tgt : Int))
    (kt : u ≤ v → W p l e R s m args below meth c H locs cells slots Q (F0 m tgt ls rest)) (kf : v < u → W p l e R s m args below meth c H locs cells slots Q (F0 m (pc + 3) ls rest)) : W p l e R s m args below meth c H locs cells slots Q (F0 m pc ls (.int y :: .int x :: rest)) :=
  lv_icmp_le hexec hb hdg ht (fun h => kt (by rw [← hx, ← hy]; exact Int32.le_iff_toInt_le.mp h)) (fun h => kf (by rw [← hx, ← hy]; exact Int.not_le.mp (fun z => h (Int32.le_iff_toInt_le.mpr z))))
theorem z_if_eq (hexec : p.tables.exec = Jvm.exec) (hb : c.code = cc) {x : Int32} {u : Int} {off : Int} {tgt : Nat} (hx : x.toInt = u) (hdg : decode cc pc = .ok (.ifCond .eq off, 3)) (ht : (pc : Int) + off = (tgt : Int))
    (kt : u = 0 → W p l e R s m args below meth c H locs cells slots Q (F0 m tgt ls rest)) (kf : u ≠ 0 → W p l e R s m args below meth c H locs cells slots Q (F0 m (pc + 3) ls rest)) : W p l e R s m args below meth c H locs cells slots Q (F0 m pc ls (.int x :: rest)) :=
  lv_if_eq hexec hb hdg ht (fun h => kt ((z_eq x 0 hx rfl).mp h)) (fun h => kf (fun z => h ((z_eq x 0 hx rfl).mpr z)))
theorem z_if_ne (hexec : p.tables.exec = Jvm.exec) (hb : c.code = cc) {x : Int32} {u : Int} {off : Int} {tgt : Nat} (hx : x.toInt = u) (hdg : decode cc pc = .ok (.ifCond .ne off, 3)) (ht : (pc : Int) + off = (tgt : Int))
    (kt : u ≠ 0 → W p l e R s m args below meth c H locs cells slots Q (F0 m tgt ls rest)) (kf : u = 0 → W p l e R s m args below meth c H locs cells slots Q (F0 m (pc + 3) ls rest)) : W p l e R s m args below meth c H locs cells slots Q (F0 m pc ls (.int x :: rest)) :=
  lv_if_ne hexec hb hdg ht (fun h => kt (fun z => h ((z_eq x 0 hx rfl).mpr z))) (fun h => kf ((z_eq x 0 hx rfl).mp h))
theorem z_if_lt (hexec : p.tables.exec = Jvm.exec) (hb : c.code = cc) {x : Int32} {u : Int} {off : Int} {tgt : Nat} (hx : x.toInt = u) (hdg : decode cc pc = .ok (.ifCond .lt off, 3)) (ht : (pc : Int) + off = (tgt : Int))
    (kt : u < 0 → W p l e R s m args below meth c H locs cells slots Q (F0 m tgt ls rest)) (kf : 0 ≤ u → W p l e R s m args below meth c H locs cells slots Q (F0 m (pc + 3) ls rest)) : W p l e R s m args below meth c H locs cells slots Q (F0 m pc ls (.int x :: rest)) :=
  lv_if_lt hexec hb hdg ht (fun h => kt (by rw [← hx]; exact Int32.lt_iff_toInt_lt.mp h)) (fun h => kf (by rw [← hx]; exact Int.not_lt.mp (fun z => h (Int32.lt_iff_toInt_lt.mpr z))))
theorem z_if_ge (hexec : p.tables.exec = Jvm.exec) (hb : c.code = cc) {x : Int32} {u : Int} {off : Int} {tgt : Nat} (hx : x.toInt = u) (hdg : decode cc pc = .ok (.ifCond .ge off, 3)) (ht : (pc : Int) + off = (tgt : Int))
    (kt : 0 ≤ u → W p l e R s m args below meth c H locs cells slots Q (F0 m tgt ls rest)) (kf : u < 0 → W p l e R s m args below meth c H locs cells slots Q (F0 m (pc + 3) ls rest)) : W p l e R s m args below meth c H locs cells slots Q (F0 m pc ls (.int x :: rest)) :=
  lv_if_ge hexec hb hdg ht (fun h => kt (by rw [← hx]; exact Int32.le_iff_toInt_le.mp h)) (fun h => kf (by rw [← hx]; exact Int.not_le.mp (fun z => h (Int32.le_iff_toInt_le.mpr z))))
theorem z_if_gt (hexec : p.tables.exec = Jvm.exec) (hb : c.code = cc) {x : Int32} {u : Int} {off : Int} {tgt : Nat} (hx : x.toInt = u) (hdg : decode cc pc = .ok (.ifCond .gt off, 3)) (ht : (pc : Int) + off = (tgt : Int))
    (kt : 0 < u → W p l e R s m args below meth c H locs cells slots Q (F0 m tgt ls rest)) (kf : u ≤ 0 → W p l e R s m args below meth c H locs cells slots Q (F0 m (pc + 3) ls rest)) : W p l e R s m args below meth c H locs cells slots Q (F0 m pc ls (.int x :: rest)) :=
  lv_if_gt hexec hb hdg ht (fun h => kt (by rw [← hx]; exact Int32.lt_iff_toInt_lt.mp h)) (fun h => kf (by rw [← hx]; exact Int.not_lt.mp (fun z => h (Int32.lt_iff_toInt_lt.mpr z))))
theorem z_if_le (hexec : p.tables.exec = Jvm.exec) (hb : c.code = cc) {x : Int32} {u : Int} {off : Int} {tgt : Nat} (hx : x.toInt = u) (hdg : decode cc pc = .ok (.ifCond .le off, 3)) (ht : (pc : Int) + off = (tgt : Int))
    (kt : u ≤ 0 → W p l e R s m args below meth c H locs cells slots Q (F0 m tgt ls rest)) (kf : 0 < u → W p l e R s m args below meth c H locs cells slots Q (F0 m (pc + 3) ls rest)) : W p l e R s m args below meth c H locs cells slots Q (F0 m pc ls (.int x :: rest)) :=
  lv_if_le hexec hb hdg ht (fun h => kt (by rw [← hx]; exact Int32.le_iff_toInt_le.mp h)) (fun h => kf (by rw [← hx]; exact Int.not_le.mp (fun z => h (Int32.le_iff_toInt_le.mpr z))))
theorem b_if_eq (hexec : p.tables.exec = Jvm.exec) (hb : c.code = cc) {b : Bool} {off : Int} {tgt : Nat} (hdg : decode cc pc = .ok (.ifCond .eq off, 3)) (ht : (pc : Int) + off = (tgt : Int))
    (kt : b = false → W p l e R s m args below meth c H locs cells slots Q (F0 m tgt ls rest)) (kf : b = true → W p l e R s m args below meth c H locs cells slots Q (F0 m (pc + 3) ls rest)) : W p l e R s m args below meth c H locs cells slots Q (F0 m pc ls (.int (nI (b2 b)) :: rest)) := by
  cases b with
  | false => exact lv_if_eq hexec hb hdg ht (fun _ => kt rfl) (fun h => absurd (show nI (b2 false) = 0 by decide) h)
  | true => exact lv_if_eq hexec hb hdg ht (fun h => absurd h (show ¬ nI (b2 true) = 0 by decide)) (fun _ => kf rfl)
theorem b_if_ne (hexec : p.tables.exec = Jvm.exec) (hb : c.code = cc) {b : Bool} {off : Int} {tgt : Nat} (hdg : decode cc pc = .ok (.ifCond .ne off, 3)) (ht : (pc : Int) + off = (tgt : Int))
    (kt : b = true → W p l e R s m args below meth c H locs cells slots Q (F0 m tgt ls rest)) (kf : b = false → W p l e R s m args below meth c H locs cells slots Q (F0 m (pc + 3) ls rest)) : W p l e R s m args below meth c H locs cells slots Q (F0 m pc ls (.int (nI (b2 b)) :: rest)) := by
  cases b with
  | false => exact lv_if_ne hexec hb hdg ht (fun h => absurd (show nI (b2 false) = 0 by decide) h) (fun _ => kf rfl)
  | true => exact lv_if_ne hexec hb hdg ht (fun _ => kt rfl) (fun h => absurd h (show ¬ nI (b2 true) = 0 by decide))
end MB
/-! ## the forms of contracts -/
def mPc (D : va_G) (cy : Nat → ClassId) (M : mM) (av : List Value) : Array Value → State → Prop := va_Pc av (fun U => pm D M U.heap ∧ mK D cy U)
def mPw (D : va_G) (cy : Nat → ClassId) (M : mM) (sz : Nat) (av : List Value) : Array Value → State → Prop := va_Pc av (fun U => U.heap.size = sz ∧ pm D M U.heap ∧ mK D cy U)
def mP0 (av : List Value) : Array Value → State → Prop := va_Pc av (fun _ => True)
def mB (D : va_G) (M : mM) (sz : Nat) : mM → State → Prop := fun M' t => pm D M' t.heap ∧ mD (mA M sz) M'
/-- reads only, an int -/
def mR (l : Launch) (y : MethodName) (ws : List Cond) (rm : Room) (D : va_G) (cy : Nat → ClassId) (M : mM) (av : List Value) (post : Int32 → Prop) : Prop := Met l y ws rm (mPc D cy M av) (vp_Si post) 0 0 (fun _ => False)
/-- no heap at all -/
def mS (l : Launch) (y : MethodName) (ws : List Cond) (rm : Room) (av : List Value) (post : Int32 → Prop) : Prop := Met l y ws rm (mP0 av) (vp_Si post) 0 0 (fun _ => False)
/-- writes; an int -/
def mWi (l : Launch) (y : MethodName) (ws : List Cond) (rm : Room) (D : va_G) (cy : Nat → ClassId) (M : mM) (sz : Nat) (av : List Value) (post : Int32 → mM → Prop) (mc ms : Nat) : Prop := Met l y ws rm (mPw D cy M sz av) (va_Qi post (mB D M sz) (mA M sz)) mc ms (mA M sz)
def mWv (l : Launch) (y : MethodName) (ws : List Cond) (rm : Room) (D : va_G) (cy : Nat → ClassId) (M : mM) (sz : Nat) (av : List Value) (post : mM → Prop) (mc ms : Nat) : Prop := Met l y ws rm (mPw D cy M sz av) (va_Qv post (mB D M sz) (mA M sz)) mc ms (mA M sz)
theorem mPc_blind {D : va_G} {cy : Nat → ClassId} {M : mM} {av : List Value} : FrameBlind (mPc D cy M av) := fun a U g mk q => ⟨q.1, q.2.1, va_K.moved (u := U) (U := U.calling g mk a) (Vm.Alike.refl U.vm) q.2.2⟩
theorem mPw_blind {D : va_G} {cy : Nat → ClassId} {M : mM} {sz : Nat} {av : List Value} : FrameBlind (mPw D cy M sz av) := fun a U g mk q => ⟨q.1, q.2.1, q.2.2.1, va_K.moved (u := U) (U := U.calling g mk a) (Vm.Alike.refl U.vm) q.2.2.2⟩
theorem mPreV {D : va_G} {cy : Nat → ClassId} {M : mM} {s : State} {H : Heap} {b ci : Nat} {fs : List Value} {q : vw_C} {As : List Value} (hK : mK D cy s) (hP : pm D M H) (he : M b = some (.inr (ci, fs))) (hc : vwCl[ci]? = some q) : PreV s H q.1 b (mPc D cy M (.ref b :: As)) As :=
  ⟨mPc_blind, va_recv hK (hP.one he) hc (q0 := 0) rfl, fun U hU hW => ⟨rfl, by rw [hU]; exact hP, va_K.moved hW.alike hK⟩⟩
theorem mPreS {D : va_G} {cy : Nat → ClassId} {M : mM} {s : State} {H : Heap} {As : List Value} (hK : mK D cy s) (hP : pm D M H) : PreS s H (mPc D cy M As) As :=
  ⟨mPc_blind, fun U hU hW => ⟨rfl, by rw [hU]; exact hP, va_K.moved hW.alike hK⟩⟩
theorem mPre0 {s : State} {H : Heap} {As : List Value} : PreS s H (mP0 As) As := ⟨fun a U g mk q => ⟨q.1, trivial⟩, fun U hU hW => ⟨rfl, trivial⟩⟩
theorem mPreWV {D : va_G} {cy : Nat → ClassId} {M : mM} {s : State} {H : Heap} {b ci : Nat} {fs : List Value} {q : vw_C} {As : List Value} (hK : mK D cy s) (hP : pm D M H) (he : M b = some (.inr (ci, fs))) (hc : vwCl[ci]? = some q) : PreV s H q.1 b (mPw D cy M H.size (.ref b :: As)) As :=
  ⟨mPw_blind, va_recv hK (hP.one he) hc (q0 := 0) rfl, fun U hU hW => ⟨rfl, by rw [hU], by rw [hU]; exact hP, va_K.moved hW.alike hK⟩⟩
theorem mPreWS {D : va_G} {cy : Nat → ClassId} {M : mM} {s : State} {H : Heap} {As : List Value} (hK : mK D cy s) (hP : pm D M H) : PreS s H (mPw D cy M H.size As) As :=
  ⟨mPw_blind, fun U hU hW => ⟨rfl, by rw [hU], by rw [hU]; exact hP, va_K.moved hW.alike hK⟩⟩
theorem mPre0V {D : va_G} {cy : Nat → ClassId} {M : mM} {s : State} {H : Heap} {b ci : Nat} {fs : List Value} {q : vw_C} {As : List Value} (hK : mK D cy s) (hP : pm D M H) (he : M b = some (.inr (ci, fs))) (hc : vwCl[ci]? = some q) : PreV s H q.1 b (mP0 (.ref b :: As)) As :=
  ⟨fun a U g mk q => ⟨q.1, trivial⟩, va_recv hK (hP.one he) hc (q0 := 0) rfl, fun U hU hW => ⟨rfl, trivial⟩⟩
section MC
variable {l : Launch} {y : MethodName} {ws ws' : List Cond} {rm : Room} {D : va_G} {cy : Nat → ClassId} {M : mM} {av : List Value} {cc : ByteArray} {maxL : Nat} {ret : Option FieldType}
theorem mS.of {post : Int32 → Prop} (hy : plainName y.cls = true) (hw : ws = Cond.code y cc maxL ret :: ws') (hn : (lg_sl av).length ≤ maxL)
    (body : ∀ (p : Program) (e : Env) (s : State) (m : MethodId) (args : Array Value) (below : List Frame) (meth : Method) (c : Code) (ls : Array Slot), p.tables.exec = Jvm.exec → c.code = cc → meth.sig.returnType = ret → (∀ w ∈ ws, w.before args s = true) → s.vm.findClass y.cls = some m.cls → meth.locks = false → c.maxLocals = maxL → lv_has ls maxL (lv_args 0 av) →
      W p l e rm s m args below meth c s.heap [] 0 0 (MQ below (vp_Si post) args s 0 0 (fun _ => False)) (F0 m 0 ls [])) : mS l y ws rm av post := by
  refine Met.ofW (cc := cc) (maxL := maxL) (ret := ret) hy hw ?_
  intro p e s m args below meth c s₁ B hml hv
  obtain ⟨rfl, -⟩ := hv
  have hl := lv_entry av (n := maxL) hn
  rw [lg_entry_eq]
  exact body p e s m av.toArray below meth c _ B.exec B.bytes B.returns (atoms_spec (ws := ws) B.pre) (findClass_of_methodNamed B.named) B.notSynchronized hml hl
theorem mR.of {post : Int32 → Prop} (hy : plainName y.cls = true) (hw : ws = Cond.code y cc maxL ret :: ws') (hn : (lg_sl av).length ≤ maxL)
    (body : ∀ (p : Program) (e : Env) (s : State) (m : MethodId) (args : Array Value) (below : List Frame) (meth : Method) (c : Code) (ls : Array Slot), p.tables.exec = Jvm.exec → c.code = cc → meth.sig.returnType = ret → (∀ w ∈ ws, w.before args s = true) → s.vm.findClass y.cls = some m.cls → meth.locks = false → c.maxLocals = maxL → pm D M s.heap → mK D cy s → lv_has ls maxL (lv_args 0 av) →
      W p l e rm s m args below meth c s.heap [] 0 0 (MQ below (vp_Si post) args s 0 0 (fun _ => False)) (F0 m 0 ls [])) : mR l y ws rm D cy M av post := by
  refine Met.ofW (cc := cc) (maxL := maxL) (ret := ret) hy hw ?_
  intro p e s m args below meth c s₁ B hml hv
  obtain ⟨rfl, hP, hK⟩ := hv
  have hl := lv_entry av (n := maxL) hn
  rw [lg_entry_eq]
  exact body p e s m av.toArray below meth c _ B.exec B.bytes B.returns (atoms_spec (ws := ws) B.pre) (findClass_of_methodNamed B.named) B.notSynchronized hml hP hK hl
theorem mW.of {Qc : Array Value → State → Outcome → State → Prop} {sz mc ms : Nat} (hy : plainName y.cls = true) (hw : ws = Cond.code y cc maxL ret :: ws') (hn : (lg_sl av).length ≤ maxL)
    (body : ∀ (p : Program) (e : Env) (s : State) (m : MethodId) (args : Array Value) (below : List Frame) (meth : Method) (c : Code) (ls : Array Slot), sz = s.heap.size → p.tables.exec = Jvm.exec → c.code = cc → meth.sig.returnType = ret → (∀ w ∈ ws, w.before args s = true) → s.vm.findClass y.cls = some m.cls → meth.locks = false → c.maxLocals = maxL → meth.name = y.name → pm D M s.heap → mD (mA M sz) M → va_S (mA M sz) s.heap s.heap [] → (∀ q : Nat, s.heap.size ≤ q → mA M sz q) → mK D cy s → lv_has ls maxL (lv_args 0 av) →
      W p l e rm s m args below meth c s.heap [] 0 0 (MQ below Qc args s mc ms (mA M sz)) (F0 m 0 ls [])) : Met l y ws rm (mPw D cy M sz av) Qc mc ms (mA M sz) := by
  refine Met.ofW (cc := cc) (maxL := maxL) (ret := ret) hy hw ?_
  intro p e s m args below meth c s₁ B hml hv
  obtain ⟨rfl, hsz, hP, hK⟩ := hv
  have hl := lv_entry av (n := maxL) hn
  rw [lg_entry_eq]
  exact body p e s m av.toArray below meth c _ hsz.symm B.exec B.bytes B.returns (atoms_spec (ws := ws) B.pre) (findClass_of_methodNamed B.named) B.notSynchronized hml (name_of_methodNamed B.named B.method).1 hP (fun q h => Or.inl h) va_S.rf (fun q h => Or.inr (by rw [← hsz]; exact h)) hK hl
end MC
section ME
variable {p : Program} {l : Launch} {e : Env} {R : Room} {s : State} {m : MethodId} {args : Array Value} {below : List Frame} {meth : Method} {c : Code} {H : Heap} {locs : List Loc} {cells slots : Nat} {Q : State → Prop}
variable {cc : ByteArray} {pc : Nat} {ls : Array Slot} {rest : List Value} {D : va_G} {A : Nat → Prop} {cy : Nat → ClassId} {M M0 : mM} {sz mc ms : Nat}
theorem e_ri {post : Int32 → Prop} {v : Int32} (hexec : p.tables.exec = Jvm.exec) (hb : c.code = cc) (hr : meth.sig.returnType = some .int) (hlocks : meth.locks = false) (hp : post v) (hdg : decode cc pc = .ok (.ireturn, 1)) : W p l e R s m args below meth c s.heap [] 0 0 (MQ below (vp_Si post) args s 0 0 (fun _ => False)) (F0 m pc ls [.int v]) :=
  W.iret hexec hb hr (fun t ht hW => ⟨v, rfl, hp, ht⟩) (fun q h => nomatch h) hdg hlocks
theorem e_rz {post : Int32 → Prop} {v : Nat} (hexec : p.tables.exec = Jvm.exec) (hb : c.code = cc) (hr : meth.sig.returnType = some .boolean) (hlocks : meth.locks = false) (hv : v ≤ 1) (hp : post (nI v)) (hdg : decode cc pc = .ok (.ireturn, 1)) : W p l e R s m args below meth c s.heap [] 0 0 (MQ below (vp_Si post) args s 0 0 (fun _ => False)) (F0 m pc ls [.int (nI v)]) :=
  W.zret hexec hb hr (by rcases (show v = 0 ∨ v = 1 by omega) with rfl | rfl <;> rfl) (fun t ht hW => ⟨nI v, rfl, hp, ht⟩) (fun q h => nomatch h) hdg hlocks
theorem e_wi {post : Int32 → mM → Prop} {v : Int32} (hexec : p.tables.exec = Jvm.exec) (hb : c.code = cc) (hr : meth.sig.returnType = some .int) (hlocks : meth.locks = false) (hP : pm D M H) (hD : mD (mA M0 sz) M) (hS : va_S (mA M0 sz) s.heap H locs) (hp : post v M) (hdg : decode cc pc = .ok (.ireturn, 1)) (hc : cells ≤ mc := by exact Nat.le_of_ble_eq_true rfl) (hs : slots ≤ ms := by exact Nat.le_of_ble_eq_true rfl) : W p l e R s m args below meth c H locs cells slots (MQ below (va_Qi post (mB D M0 sz) (mA M0 sz)) args s mc ms (mA M0 sz)) (F0 m pc ls [.int v]) :=
  W.widen hc hs (W.iret hexec hb hr (fun t ht hW => ⟨⟨v, M, rfl, hp, by rw [ht]; exact hP, hD⟩, hS.F ht⟩) hS.2.2 hdg hlocks)
theorem e_wz {post : Int32 → mM → Prop} {v : Nat} (hexec : p.tables.exec = Jvm.exec) (hb : c.code = cc) (hr : meth.sig.returnType = some .boolean) (hlocks : meth.locks = false) (hv : v ≤ 1) (hP : pm D M H) (hD : mD (mA M0 sz) M) (hS : va_S (mA M0 sz) s.heap H locs) (hp : post (nI v) M) (hdg : decode cc pc = .ok (.ireturn, 1)) (hc : cells ≤ mc := by exact Nat.le_of_ble_eq_true rfl) (hs : slots ≤ ms := by exact Nat.le_of_ble_eq_true rfl) : W p l e R s m args below meth c H locs cells slots (MQ below (va_Qi post (mB D M0 sz) (mA M0 sz)) args s mc ms (mA M0 sz)) (F0 m pc ls [.int (nI v)]) :=
  W.widen hc hs (W.zret hexec hb hr (by rcases (show v = 0 ∨ v = 1 by omega) with rfl | rfl <;> rfl) (fun t ht hW => ⟨⟨nI v, M, rfl, hp, by rw [ht]; exact hP, hD⟩, hS.F ht⟩) hS.2.2 hdg hlocks)
theorem e_wv {post : mM → Prop} (hexec : p.tables.exec = Jvm.exec) (hb : c.code = cc) (hr : meth.sig.returnType = none) (hlocks : meth.locks = false) (hP : pm D M H) (hD : mD (mA M0 sz) M) (hS : va_S (mA M0 sz) s.heap H locs) (hp : post M) (hdg : decode cc pc = .ok (.return_, 1)) (hc : cells ≤ mc := by exact Nat.le_of_ble_eq_true rfl) (hs : slots ≤ ms := by exact Nat.le_of_ble_eq_true rfl) : W p l e R s m args below meth c H locs cells slots (MQ below (va_Qv post (mB D M0 sz) (mA M0 sz)) args s mc ms (mA M0 sz)) (F0 m pc ls []) :=
  W.widen hc hs (W.vret hexec hb hr (fun t ht hW => ⟨⟨M, rfl, hp, by rw [ht]; exact hP, hD⟩, hS.F ht⟩) hS.2.2 hdg hlocks)
theorem mA_sub {A : Nat → Prop} {M : mM} {H H0 : Heap} {locs : List Loc} (hD : mD A M) (hS : va_S A H0 H locs) (hA : ∀ q, H0.size ≤ q → A q) : ∀ q, mA M H.size q → A q := fun q h => by
  rcases h with h | h
  · exact hD q h
  · exact hA q (Nat.le_trans hS.1 h)
theorem m_calli {st0 : List Value} {a : Array Value} {post : Int32 → mM → Prop} (hr : va_Run p l e R s m args below meth c H locs cells slots mc ms (F0 m pc ls st0) rest (va_Qi post (mB D M H.size) (mA M H.size) a) (mA M H.size)) (hD : mD A M) (hA : ∀ q, s.heap.size ≤ q → A q) (hS : va_S A s.heap H locs)
    (kk : ∀ (r : Int32) (M1 : mM) (H1 : Heap) (locs1 : List Loc), post r M1 → pm D M1 H1 → mD A M1 → va_S A s.heap H1 locs1 → H.size ≤ H1.size → mD (mA M H.size) M1 → (∀ q : Nat, q < H.size → ¬ mA M H.size q → H1[q]? = H[q]?) → W p l e R s m args below meth c H1 locs1 (cells + mc) (slots + ms) Q (F0 m (pc + 3) ls (.int r :: rest))) : W p l e R s m args below meth c H locs cells slots Q (F0 m pc ls st0) :=
  va_calli hr hS (fun q _ h => mA_sub hD hS hA q h) (mA_sub hD hS hA) (fun r u t H1 locs1 ht hvm hw hB hz hk hS1 => kk r u H1 locs1 hw (by rw [← ht]; exact hB.1) (fun q hq => mA_sub hD hS hA q (hB.2 q hq)) hS1 hz hB.2 hk)
theorem m_callv {st0 : List Value} {a : Array Value} {post : mM → Prop} (hr : va_Run p l e R s m args below meth c H locs cells slots mc ms (F0 m pc ls st0) rest (va_Qv post (mB D M H.size) (mA M H.size) a) (mA M H.size)) (hD : mD A M) (hA : ∀ q, s.heap.size ≤ q → A q) (hS : va_S A s.heap H locs)
    (kk : ∀ (M1 : mM) (H1 : Heap) (locs1 : List Loc), post M1 → pm D M1 H1 → mD A M1 → va_S A s.heap H1 locs1 → H.size ≤ H1.size → mD (mA M H.size) M1 → (∀ q : Nat, q < H.size → ¬ mA M H.size q → H1[q]? = H[q]?) → W p l e R s m args below meth c H1 locs1 (cells + mc) (slots + ms) Q (F0 m (pc + 3) ls rest)) : W p l e R s m args below meth c H locs cells slots Q (F0 m pc ls st0) :=
  va_callv hr hS (fun q _ h => mA_sub hD hS hA q h) (mA_sub hD hS hA) (fun u t H1 locs1 ht hvm hw hB hz hk hS1 => kk u H1 locs1 hw (by rw [← ht]; exact hB.1) (fun q hq => mA_sub hD hS hA q (hB.2 q hq)) hS1 hz hB.2 hk)
end ME
end
section
/-! ## more numbers -/
def zI (z : Int) : Int32 := Int32.ofInt z
theorem zI_toInt {z : Int} (h1 : -2147483648 ≤ z) (h2 : z < 2147483648) : (zI z).toInt = z := by
  unfold zI
  rw [Int32.toInt_ofInt]
  have e : (Int32.size : Int) = 4294967296 := rfl
  exact Int.bmod_eq_of_le (by omega) (by omega)
theorem nI_zI (n : Nat) : nI n = zI ((n : Nat) : Int) := by
  apply Int32.toBitVec_inj.mp
  show BitVec.ofNat 32 n = BitVec.ofInt 32 (n : Int)
  rw [BitVec.ofInt_natCast]
theorem zI_of {x : Int32} {z : Int} (h : x.toInt = z) : x = zI z := by
  rw [← h]
  exact (Int32.ofInt_toInt x).symm
theorem zI_add (a b : Int) : zI a + zI b = zI (a + b) := (Int32.ofInt_add a b).symm
theorem zI_mul (a b : Int) : zI a * zI b = zI (a * b) := (Int32.ofInt_mul a b).symm
theorem zI_sub (a b : Int) : zI a - zI b = zI (a - b) := (Int32.ofInt_sub a b).symm
theorem b2_toInt (b : Bool) : (nI (b2 b)).toInt = ((b2 b : Nat) : Int) := nI_toInt (Nat.lt_of_le_of_lt (b2_le b) (by decide))
theorem b2_t {b : Bool} (h : b = true) : nI (b2 b) = nI 1 := by rw [h]; rfl
theorem b2_f {b : Bool} (h : b = false) : nI (b2 b) = nI 0 := by rw [h]; rfl
theorem b2_d {P : Prop} [Decidable P] (h : P) : nI (b2 (decide P)) = nI 1 := b2_t (decide_eq_true h)
theorem b2_n {P : Prop} [Decidable P] (h : ¬ P) : nI (b2 (decide P)) = nI 0 := b2_f (decide_eq_false h)
theorem nar_bool {v : Nat} (h : v ≤ 1) : narrow .boolean (.int (nI v)) = .int (nI v) := by
  rcases (show v = 0 ∨ v = 1 by omega) with rfl | rfl <;> rfl
section MN
variable {p : Program} {l : Launch} {e : Env} {R : Room} {s : State} {m : MethodId} {args : Array Value} {below : List Frame} {meth : Method} {c : Code} {H : Heap} {locs : List Loc} {cells slots : Nat} {Q : State → Prop}
variable {cc : ByteArray} {pc : Nat} {ls : Array Slot} {rest : List Value}
theorem z_add {x y : Int32} {u v : Int} (hexec : p.tables.exec = Jvm.exec) (hb : c.code = cc) (hx : x = zI u) (hy : y = zI v) (hdg : decode cc pc = .ok (.iadd, 1)) (k : W p l e R s m args below meth c H locs cells slots Q (F0 m (pc + 1) ls (.int (zI (u + v)) :: rest))) : W p l e R s m args below meth c H locs cells slots Q (F0 m pc ls (.int y :: .int x :: rest)) :=
  lv_iadd hexec hb hdg (by rw [hx, hy, zI_add]; exact k)
theorem z_mul {x y : Int32} {u v : Int} (hexec : p.tables.exec = Jvm.exec) (hb : c.code = cc) (hx : x = zI u) (hy : y = zI v) (hdg : decode cc pc = .ok (.imul, 1)) (k : W p l e R s m args below meth c H locs cells slots Q (F0 m (pc + 1) ls (.int (zI (u * v)) :: rest))) : W p l e R s m args below meth c H locs cells slots Q (F0 m pc ls (.int y :: .int x :: rest)) :=
  lv_imul hexec hb hdg (by rw [hx, hy, zI_mul]; exact k)
theorem z_sub {x y : Int32} {u v : Int} (hexec : p.tables.exec = Jvm.exec) (hb : c.code = cc) (hx : x = zI u) (hy : y = zI v) (hdg : decode cc pc = .ok (.isub, 1)) (k : W p l e R s m args below meth c H locs cells slots Q (F0 m (pc + 1) ls (.int (zI (u - v)) :: rest))) : W p l e R s m args below meth c H locs cells slots Q (F0 m pc ls (.int y :: .int x :: rest)) :=
  lv_isub hexec hb hdg (by rw [hx, hy, zI_sub]; exact k)
theorem n_iinc {i nL q k x : Nat} {n : Int} {lv lv' : List (Nat × Value)} (hexec : p.tables.exec = Jvm.exec) (hb : c.code = cc) (hdg : decode cc pc = .ok (.iinc i n, 3)) (hn : n = (k : Int)) (h : lv_has ls nL lv) (hk : lv[q]? = some (i, .int (nI x))) (hi : i < nL) (hl : (i, Value.int (nI (x + k))) :: lv.filter (fun q => !(q.1 == i) && !(q.1 + 1 == i && q.2.category == 2)) = lv')
    (kk : ∀ ls' : Array Slot, lv_has ls' nL lv' → W p l e R s m args below meth c H locs cells slots Q (F0 m (pc + 3) ls' rest)) : W p l e R s m args below meth c H locs cells slots Q (F0 m pc ls rest) := by
  subst hn
  exact lv_iinc hexec hb hdg h hk (by rw [show Int32.ofInt (k : Int) = nI k from (nI_zI k).symm]; exact nI_add x k) hi hl kk
theorem z_iinc {i nL q : Nat} {k u : Int} {x : Int32} {lv lv' : List (Nat × Value)} (hexec : p.tables.exec = Jvm.exec) (hb : c.code = cc) (hdg : decode cc pc = .ok (.iinc i k, 3)) (hx : x = zI u) (h : lv_has ls nL lv) (hk : lv[q]? = some (i, .int x)) (hi : i < nL) (hl : (i, Value.int (zI (u + k))) :: lv.filter (fun q => !(q.1 == i) && !(q.1 + 1 == i && q.2.category == 2)) = lv')
    (kk : ∀ ls' : Array Slot, lv_has ls' nL lv' → W p l e R s m args below meth c H locs cells slots Q (F0 m (pc + 3) ls' rest)) : W p l e R s m args below meth c H locs cells slots Q (F0 m pc ls rest) := by
  subst hx
  exact lv_iinc hexec hb hdg h hk (zI_add u k) hi hl kk
theorem n_idec {i nL q k x : Nat} {n : Int} {lv lv' : List (Nat × Value)} (hexec : p.tables.exec = Jvm.exec) (hb : c.code = cc) (hdg : decode cc pc = .ok (.iinc i n, 3)) (hn : n = -(k : Int)) (hx : k ≤ x) (h : lv_has ls nL lv) (hk : lv[q]? = some (i, .int (nI x))) (hi : i < nL) (hl : (i, Value.int (nI (x - k))) :: lv.filter (fun q => !(q.1 == i) && !(q.1 + 1 == i && q.2.category == 2)) = lv')
    (kk : ∀ ls' : Array Slot, lv_has ls' nL lv' → W p l e R s m args below meth c H locs cells slots Q (F0 m (pc + 3) ls' rest)) : W p l e R s m args below meth c H locs cells slots Q (F0 m pc ls rest) := by
  subst hn
  exact lv_iinc hexec hb hdg h hk (by rw [nI_zI, nI_zI]; show zI _ + zI _ = _; rw [zI_add]; congr 1; omega) hi hl kk
end MN
/-! ## the reference's object -/
def mLen : Nat → Nat := fun k => match k with
  | 0 => 8 | 3 => 60 | 4 => 10 | 6 => 20 | 7 => 20 | 8 => 20 | 9 => 6 | 11 => 320 | 12 => 40 | 13 => 40 | 14 => 40 | 15 => 40 | 16 => 120 | 17 => 120 | 18 => 40 | 19 => 6 | 20 => 40 | 21 => 160 | 23 => 8
  | _ => 0
def mAI : List Nat := [0, 3, 4, 6, 7, 9, 11, 12, 13, 14, 16, 17, 18, 21]
def mAZ : List Nat := [8, 15, 19, 20]
def mAll : List Nat := [0, 3, 4, 6, 7, 9, 11, 12, 13, 14, 16, 17, 18, 21, 8, 15, 19, 20, 23]
def mAint : List Nat := [1, 2, 5, 10]
def moF (ad : Nat → Nat) (t : Nat) (i : Nat → Nat) : List Value := [.ref (ad 0), .int (nI (i 1)), .int (nI (i 2)), .ref (ad 3), .ref (ad 4), .int (nI (i 5)), .ref (ad 6), .ref (ad 7), .ref (ad 8), .ref (ad 9), .int (nI (i 10)), .ref (ad 11), .ref (ad 12), .ref (ad 13), .ref (ad 14), .ref (ad 15), .ref (ad 16), .ref (ad 17), .ref (ad 18), .ref (ad 19), .ref (ad 20), .ref (ad 21), .int (nI t), .ref (ad 23)]
/-- the object at h, its arrays at ad: t is what 'thrown' holds, i the counters, f the arrays (by the fields' places); the array 'longest' may hold anything -/
def MW (cy : Nat → ClassId) (M : mM) (h : Nat) (ad : Nat → Nat) (t : Nat) (i : Nat → Nat) (f : Nat → Nat → Nat) : Prop :=
  M h = some (.inr (7, moF ad t i)) ∧ (∀ k, k ∈ mAI → M (ad k) = some (eI cy (mLen k) (f k))) ∧ (∀ k, k ∈ mAZ → M (ad k) = some (eZ cy (mLen k) (f k))) ∧ (∃ g, M (ad 23) = some (eI cy 8 g)) ∧ (∀ j, j ∈ mAll → ∀ k, k ∈ mAll → ad j = ad k → j = k) ∧ (∀ k, k ∈ mAll → ad k ≠ h)
section MWL
variable {cy : Nat → ClassId} {M : mM} {h : Nat} {ad : Nat → Nat} {t : Nat} {i : Nat → Nat} {f : Nat → Nat → Nat}
theorem mAI_all {k : Nat} (h : k ∈ mAI) : k ∈ mAll := List.mem_append_left _ (show k ∈ mAI from h)
theorem mAZ_all {k : Nat} (h : k ∈ mAZ) : k ∈ mAll := List.mem_append_right mAI (List.mem_append_left _ (show k ∈ mAZ from h))
theorem mAI_23 : ∀ k, k ∈ mAI → k ≠ 23 := by decide
theorem mAZ_23 : ∀ k, k ∈ mAZ → k ≠ 23 := by decide
theorem mAIZ : ∀ k, k ∈ mAI → ∀ j, j ∈ mAZ → k ≠ j := by decide
theorem MW.setI (hW : MW cy M h ad t i f) (k : Nat) (hk : k ∈ mAI) (g : Nat → Nat) : MW cy (mset M (ad k) (eI cy (mLen k) g)) h ad t i (va_up f k g) := by
  obtain ⟨h1, h2, h3, ⟨g0, h4⟩, h5, h6⟩ := hW
  have ne : ∀ j, j ∈ mAll → j ≠ k → ad j ≠ ad k := fun j hj n z => n (h5 j hj k (mAI_all hk) z)
  refine ⟨by rw [mset_ne (h6 k (mAI_all hk)).symm]; exact h1, fun j hj => ?_, fun j hj => ?_, ⟨g0, by rw [mset_ne (ne 23 (by decide) (fun z => mAI_23 k hk z.symm))]; exact h4⟩, h5, h6⟩
  · by_cases e : j = k
    · subst e; rw [mset_self, va_up_self]
    · rw [mset_ne (ne j (mAI_all hj) e), va_up_ne _ _ e]; exact h2 j hj
  · have e : j ≠ k := fun z => mAIZ k hk j hj z.symm
    rw [mset_ne (ne j (mAZ_all hj) e), va_up_ne _ _ e]; exact h3 j hj
theorem MW.setZ (hW : MW cy M h ad t i f) (k : Nat) (hk : k ∈ mAZ) (g : Nat → Nat) : MW cy (mset M (ad k) (eZ cy (mLen k) g)) h ad t i (va_up f k g) := by
  obtain ⟨h1, h2, h3, ⟨g0, h4⟩, h5, h6⟩ := hW
  have ne : ∀ j, j ∈ mAll → j ≠ k → ad j ≠ ad k := fun j hj n z => n (h5 j hj k (mAZ_all hk) z)
  refine ⟨by rw [mset_ne (h6 k (mAZ_all hk)).symm]; exact h1, fun j hj => ?_, fun j hj => ?_, ⟨g0, by rw [mset_ne (ne 23 (by decide) (fun z => mAZ_23 k hk z.symm))]; exact h4⟩, h5, h6⟩
  · have e : j ≠ k := mAIZ j hj k hk
    rw [mset_ne (ne j (mAI_all hj) e), va_up_ne _ _ e]; exact h2 j hj
  · by_cases e : j = k
    · subst e; rw [mset_self, va_up_self]
    · rw [mset_ne (ne j (mAZ_all hj) e), va_up_ne _ _ e]; exact h3 j hj
theorem MW.set23 (hW : MW cy M h ad t i f) (g : Nat → Nat) : MW cy (mset M (ad 23) (eI cy 8 g)) h ad t i f := by
  obtain ⟨h1, h2, h3, ⟨g0, h4⟩, h5, h6⟩ := hW
  have ne : ∀ j, j ∈ mAll → j ≠ 23 → ad j ≠ ad 23 := fun j hj n z => n (h5 j hj 23 (by decide) z)
  exact ⟨by rw [mset_ne (h6 23 (by decide)).symm]; exact h1, fun j hj => by rw [mset_ne (ne j (mAI_all hj) (mAI_23 j hj))]; exact h2 j hj, fun j hj => by rw [mset_ne (ne j (mAZ_all hj) (mAZ_23 j hj))]; exact h3 j hj, ⟨g, mset_self _ _ _⟩, h5, h6⟩
theorem MW.setO (hW : MW cy M h ad t i f) (t' : Nat) (i' : Nat → Nat) : MW cy (mset M h (.inr (7, moF ad t' i'))) h ad t' i' f := by
  obtain ⟨h1, h2, h3, ⟨g0, h4⟩, h5, h6⟩ := hW
  exact ⟨mset_self _ _ _, fun j hj => by rw [mset_ne (h6 j (mAI_all hj))]; exact h2 j hj, fun j hj => by rw [mset_ne (h6 j (mAZ_all hj))]; exact h3 j hj, ⟨g0, by rw [mset_ne (h6 23 (by decide))]; exact h4⟩, h5, h6⟩
end MWL
end
section
/-! ## what the calls answer, by numbers: i the counters (1 strokes on the pen, 2 letters, 5 pupils, 10 scripts), f the rows by their places -/
def mMax (n : Nat) : Nat → Nat := fun k => match k with
  | 0 => 88 | 3 => 88 | 4 => 6 | 6 => 3 | 7 => 16 | 8 => 1 | 9 => 50 * n | 11 => 88 | 12 => 8 | 13 => 19 | 14 => 9 | 15 => 1 | 16 => 20 | 17 => 5 | 18 => 3 | 19 => 1 | 20 => 1 | 21 => 5
  | _ => 0
/-- the numbers stay small: n calls were made -/
def MI (n : Nat) (i : Nat → Nat) (f : Nat → Nat → Nat) : Prop := n ≤ 512 ∧ i 1 ≤ 8 ∧ i 2 ≤ 10 ∧ i 5 ≤ 20 ∧ i 10 ≤ 40 ∧ ∀ k x, f k x ≤ mMax n k
def oneLine (a b : Nat) : Bool := decide (a = b ∨ (a / 10 = b % 10 ∧ a % 10 = b / 10))
def sOnA (f : Nat → Nat → Nat) (s k : Nat) : Nat → Int
  | 0 => -1
  | n + 1 => if oneLine (f 3 (6 * f 14 s + n)) (f 11 (8 * s + k)) = true then (n : Int) else sOnA f s k n
def sOn (f : Nat → Nat → Nat) (s k : Nat) : Int := sOnA f s k (f 4 (f 14 s))
def cntsA (f : Nat → Nat → Nat) (s k : Nat) : Nat → Bool
  | 0 => decide (sOn f s k ≠ -1)
  | n + 1 => cntsA f s k n && decide (sOn f s n ≠ sOn f s k)
def cnts (f : Nat → Nat → Nat) (s k : Nat) : Bool := cntsA f s k k
def countA (f : Nat → Nat → Nat) (s : Nat) : Nat → Nat
  | 0 => 0
  | n + 1 => countA f s n + b2 (cnts f s n)
def count (f : Nat → Nat → Nat) (s : Nat) : Nat := countA f s (f 12 s)
def turnsAt (f : Nat → Nat → Nat) (s k : Nat) : Bool := cnts f s k && decide (f 3 (6 * f 14 s + (sOn f s k).toNat) ≠ f 11 (8 * s + k))
def turnA (f : Nat → Nat → Nat) (s : Nat) : Nat → Nat
  | 0 => 0
  | n + 1 => turnA f s n + b2 (turnsAt f s n)
def turn (f : Nat → Nat → Nat) (s : Nat) : Nat := turnA f s (f 12 s)
/-- one place of 'longest' behind n steps of its inner loop, over the places g of the earlier ones -/
def lonI (f : Nat → Nat → Nat) (s : Nat) (g : Nat → Nat) (k : Nat) : Nat → Nat
  | 0 => 1
  | n + 1 => if 0 < g n ∧ sOn f s n < sOn f s k ∧ lonI f s g k n ≤ g n then g n + 1 else lonI f s g k n
def lonV (f : Nat → Nat → Nat) (s : Nat) (g : Nat → Nat) (k : Nat) : Nat := if cnts f s k = true then lonI f s g k k else 0
def lonG (f : Nat → Nat → Nat) (s : Nat) : Nat → Nat → Nat
  | 0 => fun _ => 0
  | n + 1 => va_up (lonG f s n) n (lonV f s (lonG f s n) n)
def lon (f : Nat → Nat → Nat) (s k : Nat) : Nat := lonG f s (k + 1) k
def inOrdA (f : Nat → Nat → Nat) (s : Nat) : Nat → Nat
  | 0 => 0
  | n + 1 => if inOrdA f s n < lon f s n then lon f s n else inOrdA f s n
def inOrd (f : Nat → Nat → Nat) (s : Nat) : Nat := inOrdA f s (f 12 s)
def slipsK (f : Nat → Nat → Nat) (s k : Nat) : Int :=
  if k = 0 then (f 4 (f 14 s) : Int) - count f s else if k = 1 then (f 12 s : Int) - count f s else if k = 2 then (turn f s : Int) else if k = 3 then (count f s : Int) - inOrd f s else (f 15 s : Int)
def allSlipsA (f : Nat → Nat → Nat) (s : Nat) : Nat → Int
  | 0 => 0
  | n + 1 => allSlipsA f s n + slipsK f s n
def allSlips (f : Nat → Nat → Nat) (s : Nat) : Int := allSlipsA f s 5
def lackS (f : Nat → Nat → Nat) (s : Nat) : Nat :=
  if f 18 s < 2 then 2 - f 18 s else if f 18 s = 2 ∧ ((f 16 (3 * s + 1) : Int) + 3 < f 16 (3 * s) ∨ (f 16 (3 * s) : Int) + 3 < f 16 (3 * s + 1)) then 1 else 0
def gradeS (f : Nat → Nat → Nat) (s : Nat) : Int :=
  if 0 < lackS f s then -1 else if f 18 s = 2 then (((f 16 (3 * s) + f 16 (3 * s + 1)) / 2 : Nat) : Int)
  else if f 16 (3 * s + 2) < min (f 16 (3 * s)) (f 16 (3 * s + 1)) then (min (f 16 (3 * s)) (f 16 (3 * s + 1)) : Nat)
  else if max (f 16 (3 * s)) (f 16 (3 * s + 1)) < f 16 (3 * s + 2) then (max (f 16 (3 * s)) (f 16 (3 * s + 1)) : Nat) else (f 16 (3 * s + 2) : Nat)
def ptsA (f : Nat → Nat → Nat) (s : Nat) : Nat → Nat
  | 0 => 0
  | n + 1 => ptsA f s n + f 21 (4 * s + n)
def pts (f : Nat → Nat → Nat) (s : Nat) : Nat := ptsA f s 4
def worthS (f : Nat → Nat → Nat) (s : Nat) : Int := if gradeS f s = -1 ∨ f 20 s = 0 then -9999 else 3 * gradeS f s + 2 * (pts f s : Int) - allSlips f s
def aheadS (f : Nat → Nat → Nat) (w : Int) (s k : Nat) : Bool := decide (worthS f k ≠ -9999 ∧ (w < worthS f k ∨ (worthS f k = w ∧ k < s)))
def placeA (f : Nat → Nat → Nat) (w : Int) (s : Nat) : Nat → Nat
  | 0 => 1
  | n + 1 => placeA f w s n + b2 (aheadS f w s n)
/-- among the first n scripts -/
def placeS (f : Nat → Nat → Nat) (n s : Nat) : Int := if worthS f s = -9999 then -1 else (placeA f (worthS f s) s n : Int)
def atA (f : Nat → Nat → Nat) (n : Nat) (p : Int) : Nat → Int
  | 0 => -1
  | k + 1 => if placeS f n k = p then (k : Int) else atA f n p k
def hasA (f : Nat → Nat → Nat) (e s : Nat) : Nat → Bool
  | 0 => false
  | n + 1 => hasA f e s n || decide (f 17 (3 * s + n) = e)
def has (f : Nat → Nat → Nat) (e s : Nat) : Bool := hasA f e s (f 18 s)
/-- the pen's strokes may be a letter, as far as the first k with the first n before -/
def mayI (f : Nat → Nat → Nat) (b : Bool) (k : Nat) : Nat → Bool
  | 0 => b
  | n + 1 => mayI f b k n && !oneLine (f 0 n) (f 0 k)
def mayA (f : Nat → Nat → Nat) (b : Bool) : Nat → Bool
  | 0 => b
  | k + 1 => mayI f (mayA f b k) k k
def mayS (i : Nat → Nat) (f : Nat → Nat → Nat) : Bool := mayA f (decide (1 ≤ i 1 ∧ i 1 ≤ 6 ∧ i 2 < 10)) (i 1)
/-- n places copied, from g at 0 on to the row r at a on -/
def cpA (r : Nat → Nat) (a : Nat) (g : Nat → Nat) : Nat → Nat → Nat
  | 0 => r
  | n + 1 => va_up (cpA r a g n) (a + n) (g n)
def bandP (f : Nat → Nat → Nat) (p : Nat) : Nat := if f 7 p < 8 then 0 else if f 7 p < 12 then 1 else 2
def stackN (b left : Nat) : Nat := if left = 0 then b else 3 + b
/-- the band that is taken: -1 without one; n bands are left to look at -/
def bandA (f : Nat → Nat → Nat) (left : Nat) : Nat → Int
  | 0 => -1
  | n + 1 => if f 9 (stackN n left) = 0 then bandA f left n else (n : Int)
def bandS (f : Nat → Nat → Nat) (p : Nat) : Int := bandA f (f 8 p) (bandP f p + 1)
/-- the marks without those of e: how many of the first n stay, and the two rows -/
def dropA (f : Nat → Nat → Nat) (e s : Nat) : Nat → Nat × (Nat → Nat) × (Nat → Nat)
  | 0 => (0, f 16, f 17)
  | n + 1 => if (dropA f e s n).2.2 (3 * s + n) = e then dropA f e s n else ((dropA f e s n).1 + 1, va_up (dropA f e s n).2.1 (3 * s + (dropA f e s n).1) ((dropA f e s n).2.1 (3 * s + n)), va_up (dropA f e s n).2.2 (3 * s + (dropA f e s n).1) ((dropA f e s n).2.2 (3 * s + n)))
def dropF (f : Nat → Nat → Nat) (e s : Nat) : Nat → Nat → Nat := va_up (va_up (va_up f 16 (dropA f e s (f 18 s)).2.1) 17 (dropA f e s (f 18 s)).2.2) 18 (va_up (f 18) s (dropA f e s (f 18 s)).1)
/-- the first n scripts are rid of e's marks: how many grades are others, and the rows -/
def outA (f : Nat → Nat → Nat) (e : Nat) : Nat → Nat × (Nat → Nat → Nat)
  | 0 => (0, f)
  | n + 1 => ((outA f e n).1 + b2 (decide (gradeS (dropF (outA f e n).2 e n) n ≠ gradeS (outA f e n).2 n)), dropF (outA f e n).2 e n)
def shownA (f : Nat → Nat → Nat) : Nat → Nat
  | 0 => 0
  | n + 1 => shownA f n + f 20 n
/-! ### the calls: which exception (0: none), the answer, the counters, the rows -/
abbrev mO : Type := Nat × Int × (Nat → Nat) × (Nat → Nat → Nat)
def inB (x lo hi : Int) : Bool := decide (lo ≤ x ∧ x ≤ hi)
def oStroke (x y : Int) (i : Nat → Nat) (f : Nat → Nat → Nat) : mO :=
  if ¬ ((0 ≤ x ∧ x ≤ 8) ∧ (0 ≤ y ∧ y ≤ 8)) then (1, 0, i, f) else if x = y then (2, 0, i, f) else if i 1 = 8 then (3, 0, i, f)
  else (0, ((i 1 + 1 : Nat) : Int), va_up i 1 (i 1 + 1), va_up f 0 (va_up (f 0) (i 1) (10 * x.toNat + y.toNat)))
def oLift (i : Nat → Nat) (f : Nat → Nat → Nat) : mO := (0, (i 1 : Int), va_up i 1 0, f)
def oLetter (i : Nat → Nat) (f : Nat → Nat → Nat) : mO :=
  if mayS i f = true then (0, (i 2 : Int), va_up (va_up i 1 0) 2 (i 2 + 1), va_up (va_up f 3 (cpA (f 3) (6 * i 2) (f 0) (i 1))) 4 (va_up (f 4) (i 2) (i 1))) else (1, 0, i, f)
def oStrokeOf (x y : Int) (i : Nat → Nat) (f : Nat → Nat → Nat) : mO :=
  if (0 ≤ x ∧ x ≤ (i 2 : Int) - 1) ∧ 0 ≤ y then (0, if y < f 4 x.toNat then (f 3 (6 * x.toNat + y.toNat) : Int) else -1, i, f) else (1, 0, i, f)
def oPupil (x y : Int) (b : Bool) (i : Nat → Nat) (f : Nat → Nat → Nat) : mO :=
  if ¬ (0 ≤ x ∧ x ≤ 3) then (1, 0, i, f) else if ¬ (5 ≤ y ∧ y ≤ 16) then (2, 0, i, f) else if i 5 = 20 then (3, 0, i, f)
  else (0, (i 5 : Int), va_up i 5 (i 5 + 1), va_up (va_up (va_up f 6 (va_up (f 6) (i 5) x.toNat)) 7 (va_up (f 7) (i 5) y.toNat)) 8 (va_up (f 8) (i 5) (b2 b)))
def oPrint (x : Int) (b : Bool) (y : Int) (i : Nat → Nat) (f : Nat → Nat → Nat) : mO :=
  if ¬ (0 ≤ x ∧ x ≤ 2) then (1, 0, i, f) else if ¬ (1 ≤ y ∧ y ≤ 50) then (2, 0, i, f)
  else (0, ((f 9 (stackN x.toNat (b2 b)) + y.toNat : Nat) : Int), i, va_up f 9 (va_up (f 9) (stackN x.toNat (b2 b)) (f 9 (stackN x.toNat (b2 b)) + y.toNat)))
def oSheets (x : Int) (b : Bool) (i : Nat → Nat) (f : Nat → Nat → Nat) : mO :=
  if 0 ≤ x ∧ x ≤ 2 then (0, (f 9 (stackN x.toNat (b2 b)) : Int), i, f) else (1, 0, i, f)
def oWrite (x y : Int) (i : Nat → Nat) (f : Nat → Nat → Nat) : mO :=
  if ¬ ((0 ≤ x ∧ x ≤ (i 5 : Int) - 1) ∧ (0 ≤ y ∧ y ≤ (i 2 : Int) - 1)) then (1, 0, i, f) else if i 10 = 40 ∨ bandS f x.toNat < 0 then (2, 0, i, f)
  else (0, (i 10 : Int), va_up (va_up i 1 0) 10 (i 10 + 1),
    va_up (va_up (va_up (va_up (va_up (va_up f 9 (va_up (f 9) (stackN (bandS f x.toNat).toNat (f 8 x.toNat)) (f 9 (stackN (bandS f x.toNat).toNat (f 8 x.toNat)) - 1))) 11 (cpA (f 11) (8 * i 10) (f 0) (i 1))) 12 (va_up (f 12) (i 10) (i 1))) 13 (va_up (f 13) (i 10) x.toNat)) 14 (va_up (f 14) (i 10) y.toNat)) 15 (va_up (f 15) (i 10) (b2 (decide (bandS f x.toNat < bandP f x.toNat)))))
def oSlips (x y : Int) (i : Nat → Nat) (f : Nat → Nat → Nat) : mO :=
  if ¬ (0 ≤ x ∧ x ≤ (i 10 : Int) - 1) then (1, 0, i, f) else if ¬ (0 ≤ y ∧ y ≤ 5) then (2, 0, i, f) else (0, if 4 < y then allSlips f x.toNat else slipsK f x.toNat y.toNat, i, f)
def oOrder (x : Int) (i : Nat → Nat) (f : Nat → Nat → Nat) : mO := if 0 ≤ x ∧ x ≤ (i 10 : Int) - 1 then (0, slipsK f x.toNat 3, i, f) else (1, 0, i, f)
def oMark (x y z : Int) (i : Nat → Nat) (f : Nat → Nat → Nat) : mO :=
  if ¬ ((0 ≤ x ∧ x ≤ 5) ∧ (0 ≤ y ∧ y ≤ (i 10 : Int) - 1)) then (1, 0, i, f) else if ¬ (0 ≤ z ∧ z ≤ 20) then (2, 0, i, f)
  else if f 19 x.toNat ≠ 0 ∨ has f x.toNat y.toNat = true ∨ lackS f y.toNat = 0 then (3, 0, i, f)
  else (0, ((f 18 y.toNat + 1 : Nat) : Int), i, va_up (va_up (va_up f 16 (va_up (f 16) (3 * y.toNat + f 18 y.toNat) z.toNat)) 17 (va_up (f 17) (3 * y.toNat + f 18 y.toNat) x.toNat)) 18 (va_up (f 18) y.toNat (f 18 y.toNat + 1)))
def oGrade (x : Int) (i : Nat → Nat) (f : Nat → Nat → Nat) : mO := if 0 ≤ x ∧ x ≤ (i 10 : Int) - 1 then (0, gradeS f x.toNat, i, f) else (1, 0, i, f)
def oLacks (x : Int) (i : Nat → Nat) (f : Nat → Nat → Nat) : mO := if 0 ≤ x ∧ x ≤ (i 10 : Int) - 1 then (0, (lackS f x.toNat : Int), i, f) else (1, 0, i, f)
def oTakeOut (x : Int) (i : Nat → Nat) (f : Nat → Nat → Nat) : mO :=
  if ¬ (0 ≤ x ∧ x ≤ 5) then (1, 0, i, f) else if f 19 x.toNat ≠ 0 then (2, 0, i, f)
  else (0, ((outA (va_up f 19 (va_up (f 19) x.toNat 1)) x.toNat (i 10)).1 : Int), i, (outA (va_up f 19 (va_up (f 19) x.toNat 1)) x.toNat (i 10)).2)
def oShow (x : Int) (i : Nat → Nat) (f : Nat → Nat → Nat) : mO :=
  if ¬ (0 ≤ x ∧ x ≤ (i 10 : Int) - 1) then (1, 0, i, f) else if f 20 x.toNat ≠ 0 ∨ gradeS f x.toNat = -1 then (2, 0, i, f)
  else (0, (shownA (va_up f 20 (va_up (f 20) x.toNat 1)) (i 10) : Int), i, va_up f 20 (va_up (f 20) x.toNat 1))
def oVote (x y z : Int) (i : Nat → Nat) (f : Nat → Nat → Nat) : mO :=
  if ¬ ((0 ≤ x ∧ x ≤ 3) ∧ (0 ≤ y ∧ y ≤ (i 10 : Int) - 1)) then (1, 0, i, f) else if ¬ (0 ≤ z ∧ z ≤ 5) then (2, 0, i, f)
  else if f 20 y.toNat = 0 ∨ (f 6 (f 13 y.toNat) : Int) = x then (3, 0, i, f)
  else (0, (pts (va_up f 21 (va_up (f 21) (4 * y.toNat + x.toNat) z.toNat)) y.toNat : Int), i, va_up f 21 (va_up (f 21) (4 * y.toNat + x.toNat) z.toNat))
def oWorth (x : Int) (i : Nat → Nat) (f : Nat → Nat → Nat) : mO := if 0 ≤ x ∧ x ≤ (i 10 : Int) - 1 then (0, worthS f x.toNat, i, f) else (1, 0, i, f)
def oPlace (x : Int) (i : Nat → Nat) (f : Nat → Nat → Nat) : mO := if 0 ≤ x ∧ x ≤ (i 10 : Int) - 1 then (0, placeS f (i 10) x.toNat, i, f) else (1, 0, i, f)
def oAt (x : Int) (i : Nat → Nat) (f : Nat → Nat → Nat) : mO := if 1 ≤ x then (0, atA f (i 10) x (i 10), i, f) else (1, 0, i, f)
end
section
/-! ### how large the answers are -/
theorem stackN_le (b q : Nat) : stackN b q ≤ 3 + b := by unfold stackN; split <;> omega
theorem sOnA_bd (f : Nat → Nat → Nat) (s k : Nat) : ∀ n : Nat, -1 ≤ sOnA f s k n ∧ sOnA f s k n < (n : Int)
  | 0 => by simp [sOnA]
  | n + 1 => by
    have h := sOnA_bd f s k n
    unfold sOnA
    split <;> omega
theorem sOn_bd {nc : Nat} {i : Nat → Nat} {f : Nat → Nat → Nat} (hI : MI nc i f) (s k : Nat) : -1 ≤ sOn f s k ∧ sOn f s k < 6 := by
  have h := sOnA_bd f s k (f 4 (f 14 s))
  have h2 : f 4 (f 14 s) ≤ 6 := hI.2.2.2.2.2 4 (f 14 s)
  unfold sOn
  omega
theorem countA_le (f : Nat → Nat → Nat) (s : Nat) : ∀ n : Nat, countA f s n ≤ n
  | 0 => Nat.le_refl _
  | n + 1 => by
    have h := countA_le f s n
    have h2 := b2_le (cnts f s n)
    unfold countA
    omega
theorem turnA_le (f : Nat → Nat → Nat) (s : Nat) : ∀ n : Nat, turnA f s n ≤ n
  | 0 => Nat.le_refl _
  | n + 1 => by
    have h := turnA_le f s n
    have h2 := b2_le (turnsAt f s n)
    unfold turnA
    omega
theorem lonI_le (f : Nat → Nat → Nat) (s : Nat) (g : Nat → Nat) (k : Nat) : ∀ n : Nat, (∀ j, j < n → g j ≤ j + 1) → lonI f s g k n ≤ n + 1
  | 0, _ => Nat.le_refl _
  | n + 1, hg => by
    have h := lonI_le f s g k n (fun j hj => hg j (by omega))
    have h2 := hg n (by omega)
    unfold lonI
    split <;> omega
theorem lonG_le (f : Nat → Nat → Nat) (s : Nat) : ∀ n j : Nat, lonG f s n j ≤ j + 1
  | 0, j => Nat.zero_le _
  | n + 1, j => by
    have h := lonG_le f s n
    unfold lonG va_up
    split
    · next e =>
      subst e
      unfold lonV
      split
      · exact lonI_le f s _ j j (fun j hj => h j)
      · omega
    · exact h j
theorem lon_le (f : Nat → Nat → Nat) (s k : Nat) : lon f s k ≤ k + 1 := lonG_le f s (k + 1) k
theorem lonG_old (f : Nat → Nat → Nat) (s : Nat) : ∀ n j : Nat, j < n → lonG f s n j = lon f s j
  | 0, j, h => absurd h (Nat.not_lt_zero j)
  | n + 1, j, h => by
    by_cases e : j = n
    · subst e; rfl
    · rw [← lonG_old f s n j (by omega)]
      show va_up _ n _ j = _
      exact va_up_ne _ _ e
theorem lonI_cong {f : Nat → Nat → Nat} {s : Nat} {g g' : Nat → Nat} {k : Nat} : ∀ n : Nat, (∀ j, j < n → g j = g' j) → lonI f s g k n = lonI f s g' k n
  | 0, _ => rfl
  | n + 1, h => by
    unfold lonI
    rw [lonI_cong n (fun j hj => h j (by omega)), h n (by omega)]
/-- what is found for k, over any row that holds the earlier ones -/
theorem lon_eq {f : Nat → Nat → Nat} {s k : Nat} {g : Nat → Nat} (h : ∀ j, j < k → g j = lon f s j) : lon f s k = if cnts f s k = true then lonI f s g k k else 0 := by
  show va_up (lonG f s k) k (lonV f s (lonG f s k) k) k = _
  rw [va_up_self]
  unfold lonV
  rw [lonI_cong (g' := g) k (fun j hj => by rw [lonG_old f s k j hj, h j hj])]
theorem inOrdA_le (f : Nat → Nat → Nat) (s : Nat) : ∀ n : Nat, inOrdA f s n ≤ n
  | 0 => Nat.le_refl _
  | n + 1 => by
    have h := inOrdA_le f s n
    have h2 := lon_le f s n
    unfold inOrdA
    split <;> omega
theorem count_le {nc : Nat} {i : Nat → Nat} {f : Nat → Nat → Nat} (hI : MI nc i f) (s : Nat) : count f s ≤ 8 := by
  have h := countA_le f s (f 12 s)
  have h2 : f 12 s ≤ 8 := hI.2.2.2.2.2 12 s
  unfold count
  omega
theorem turn_le {nc : Nat} {i : Nat → Nat} {f : Nat → Nat → Nat} (hI : MI nc i f) (s : Nat) : turn f s ≤ 8 := by
  have h := turnA_le f s (f 12 s)
  have h2 : f 12 s ≤ 8 := hI.2.2.2.2.2 12 s
  unfold turn
  omega
theorem inOrd_le {nc : Nat} {i : Nat → Nat} {f : Nat → Nat → Nat} (hI : MI nc i f) (s : Nat) : inOrd f s ≤ 8 := by
  have h := inOrdA_le f s (f 12 s)
  have h2 : f 12 s ≤ 8 := hI.2.2.2.2.2 12 s
  unfold inOrd
  omega
theorem slipsK_bd {nc : Nat} {i : Nat → Nat} {f : Nat → Nat → Nat} (hI : MI nc i f) (s k : Nat) : -8 ≤ slipsK f s k ∧ slipsK f s k ≤ 8 := by
  have h1 := count_le hI s
  have h2 := turn_le hI s
  have h3 := inOrd_le hI s
  have h4 : f 4 (f 14 s) ≤ 6 := hI.2.2.2.2.2 4 (f 14 s)
  have h5 : f 12 s ≤ 8 := hI.2.2.2.2.2 12 s
  have h6 : f 15 s ≤ 1 := hI.2.2.2.2.2 15 s
  unfold slipsK
  repeat' split
  all_goals omega
theorem allSlipsA_bd {nc : Nat} {i : Nat → Nat} {f : Nat → Nat → Nat} (hI : MI nc i f) (s : Nat) : ∀ n : Nat, -8 * (n : Int) ≤ allSlipsA f s n ∧ allSlipsA f s n ≤ 8 * (n : Int)
  | 0 => by simp [allSlipsA]
  | n + 1 => by
    have h := allSlipsA_bd hI s n
    have h2 := slipsK_bd hI s n
    unfold allSlipsA
    omega
theorem allSlips_bd {nc : Nat} {i : Nat → Nat} {f : Nat → Nat → Nat} (hI : MI nc i f) (s : Nat) : -40 ≤ allSlips f s ∧ allSlips f s ≤ 40 := by
  have h := allSlipsA_bd hI s 5
  unfold allSlips
  omega
theorem lackS_le (f : Nat → Nat → Nat) (s : Nat) : lackS f s ≤ 2 := by
  unfold lackS
  repeat' split
  all_goals omega
theorem gradeS_bd {nc : Nat} {i : Nat → Nat} {f : Nat → Nat → Nat} (hI : MI nc i f) (s : Nat) : -1 ≤ gradeS f s ∧ gradeS f s ≤ 20 := by
  have h0 : f 16 (3 * s) ≤ 20 := hI.2.2.2.2.2 16 (3 * s)
  have h1 : f 16 (3 * s + 1) ≤ 20 := hI.2.2.2.2.2 16 (3 * s + 1)
  have h2 : f 16 (3 * s + 2) ≤ 20 := hI.2.2.2.2.2 16 (3 * s + 2)
  unfold gradeS
  repeat' split
  all_goals omega
theorem ptsA_le {nc : Nat} {i : Nat → Nat} {f : Nat → Nat → Nat} (hI : MI nc i f) (s : Nat) : ∀ n : Nat, ptsA f s n ≤ 5 * n
  | 0 => Nat.le_refl _
  | n + 1 => by
    have h := ptsA_le hI s n
    have h2 : f 21 (4 * s + n) ≤ 5 := hI.2.2.2.2.2 21 (4 * s + n)
    unfold ptsA
    omega
theorem pts_le {nc : Nat} {i : Nat → Nat} {f : Nat → Nat → Nat} (hI : MI nc i f) (s : Nat) : pts f s ≤ 20 := ptsA_le hI s 4
theorem worthS_bd {nc : Nat} {i : Nat → Nat} {f : Nat → Nat → Nat} (hI : MI nc i f) (s : Nat) : -9999 ≤ worthS f s ∧ worthS f s ≤ 1000 := by
  have h1 := gradeS_bd hI s
  have h2 := pts_le hI s
  have h3 := allSlips_bd hI s
  unfold worthS
  split <;> omega
theorem placeA_le (f : Nat → Nat → Nat) (w : Int) (s : Nat) : ∀ n : Nat, placeA f w s n ≤ n + 1
  | 0 => Nat.le_refl _
  | n + 1 => by
    have h := placeA_le f w s n
    have h2 := b2_le (aheadS f w s n)
    unfold placeA
    omega
theorem placeS_bd (f : Nat → Nat → Nat) (n s : Nat) : -1 ≤ placeS f n s ∧ placeS f n s ≤ (n : Int) + 1 := by
  have h := placeA_le f (worthS f s) s n
  unfold placeS
  split <;> omega
theorem atA_bd (f : Nat → Nat → Nat) (n : Nat) (p : Int) : ∀ k : Nat, -1 ≤ atA f n p k ∧ atA f n p k < (k : Int)
  | 0 => by simp [atA]
  | k + 1 => by
    have h := atA_bd f n p k
    unfold atA
    split <;> omega
theorem dropA_le (f : Nat → Nat → Nat) (e s : Nat) : ∀ n : Nat, (dropA f e s n).1 ≤ n
  | 0 => Nat.le_refl _
  | n + 1 => by
    have h := dropA_le f e s n
    unfold dropA
    split
    · omega
    · show (dropA f e s n).1 + 1 ≤ n + 1
      omega
theorem outA_le (f : Nat → Nat → Nat) (e : Nat) : ∀ n : Nat, (outA f e n).1 ≤ n
  | 0 => Nat.le_refl _
  | n + 1 => by
    have h := outA_le f e n
    have h2 := b2_le (decide (gradeS (dropF (outA f e n).2 e n) n ≠ gradeS (outA f e n).2 n))
    show (outA f e n).1 + b2 _ ≤ n + 1
    omega
theorem shownA_le {f : Nat → Nat → Nat} (hf : ∀ x, f 20 x ≤ 1) : ∀ n : Nat, shownA f n ≤ n
  | 0 => Nat.le_refl _
  | n + 1 => by
    have h := shownA_le hf n
    have h2 := hf n
    unfold shownA
    omega
theorem bandA_bd (f : Nat → Nat → Nat) (q : Nat) : ∀ n : Nat, -1 ≤ bandA f q n ∧ bandA f q n < (n : Int)
  | 0 => by simp [bandA]
  | n + 1 => by
    have h := bandA_bd f q n
    unfold bandA
    split <;> omega
theorem bandP_le (f : Nat → Nat → Nat) (p : Nat) : bandP f p ≤ 2 := by
  unfold bandP
  repeat' split
  all_goals omega
theorem bandS_bd (f : Nat → Nat → Nat) (p : Nat) : -1 ≤ bandS f p ∧ bandS f p ≤ (bandP f p : Int) := by
  have h := bandA_bd f (f 8 p) (bandP f p + 1)
  unfold bandS
  omega
/-! ### the numbers stay small under each change of a row -/
theorem MI.row {nc : Nat} {i : Nat → Nat} {f : Nat → Nat → Nat} (hI : MI nc i f) (k : Nat) (g : Nat → Nat) (hg : ∀ x, g x ≤ mMax nc k) : MI nc i (va_up f k g) := by
  refine ⟨hI.1, hI.2.1, hI.2.2.1, hI.2.2.2.1, hI.2.2.2.2.1, fun j x => ?_⟩
  by_cases e : j = k
  · subst e; rw [va_up_self]; exact hg x
  · rw [va_up_ne _ _ e]; exact hI.2.2.2.2.2 j x
theorem up_le {g : Nat → Nat} {b k v : Nat} (hg : ∀ x, g x ≤ b) (hv : v ≤ b) : ∀ x, va_up g k v x ≤ b := fun x => by
  unfold va_up
  split
  · exact hv
  · exact hg x
theorem cpA_le {r g : Nat → Nat} {a b : Nat} (hr : ∀ x, r x ≤ b) (hg : ∀ x, g x ≤ b) : ∀ (n x : Nat), cpA r a g n x ≤ b
  | 0, x => hr x
  | n + 1, x => up_le (cpA_le hr hg n) (hg n) x
theorem dropA_rows {nc : Nat} {i : Nat → Nat} {f : Nat → Nat → Nat} (hI : MI nc i f) (e s : Nat) : ∀ n : Nat, (∀ x, (dropA f e s n).2.1 x ≤ 20) ∧ ∀ x, (dropA f e s n).2.2 x ≤ 5
  | 0 => ⟨fun x => hI.2.2.2.2.2 16 x, fun x => hI.2.2.2.2.2 17 x⟩
  | n + 1 => by
    have h := dropA_rows hI e s n
    unfold dropA
    split
    · exact h
    · exact ⟨up_le h.1 (h.1 _), up_le h.2 (h.2 _)⟩
theorem MI.drop {nc : Nat} {i : Nat → Nat} {f : Nat → Nat → Nat} (hI : MI nc i f) (e s : Nat) : MI nc i (dropF f e s) := by
  have h := dropA_rows hI e s (f 18 s)
  have h2 := dropA_le f e s (f 18 s)
  have h3 : f 18 s ≤ 3 := hI.2.2.2.2.2 18 s
  have h4 : ∀ x, f 18 x ≤ 3 := fun x => hI.2.2.2.2.2 18 x
  exact ((hI.row 16 _ h.1).row 17 _ h.2).row 18 _ (up_le (b := 3) h4 (by omega))
theorem MI.out {nc : Nat} {i : Nat → Nat} {f : Nat → Nat → Nat} (hI : MI nc i f) (e : Nat) : ∀ n : Nat, MI nc i (outA f e n).2
  | 0 => hI
  | n + 1 => (MI.out hI e n).drop e n
/-! ### rows for known conditions; raw ints -/
theorem inB_t {x lo hi : Int} (h : inB x lo hi = true) : lo ≤ x ∧ x ≤ hi := of_decide_eq_true h
theorem inB_f {x lo hi : Int} (h : inB x lo hi = false) : ¬ (lo ≤ x ∧ x ≤ hi) := of_decide_eq_false h
theorem nI_of_toInt {x : Int32} {u : Int} (h : x.toInt = u) (h0 : 0 ≤ u) : x = nI u.toNat := by
  rw [zI_of h, nI_zI]
  congr 1
  omega
theorem i32_rng (x : Int32) : -2147483648 ≤ x.toInt ∧ x.toInt < 2147483648 := by
  have h1 := Int32.le_toInt x
  have h2 := Int32.toInt_lt x
  omega
def mPost (cy : Nat → ClassId) (h : Nat) (ad : Nat → Nat) (o : mO) (r : Int32) (M' : mM) : Prop := r = zI o.2.1 ∧ MW cy M' h ad o.1 o.2.2.1 o.2.2.2
theorem mPost_of {cy : Nat → ClassId} {h : Nat} {ad : Nat → Nat} {o : mO} {r : Int32} {M' : mM} {a : Nat} {b : Int} {i : Nat → Nat} {f : Nat → Nat → Nat} (ho : o = (a, b, i, f)) (hr : r = zI b) (hW : MW cy M' h ad a i f) : mPost cy h ad o r M' := by
  subst ho
  exact ⟨hr, hW⟩
section KN
variable {p : Program} {l : Launch} {e : Env} {R : Room} {s : State} {m : MethodId} {args : Array Value} {below : List Frame} {meth : Method} {c : Code} {H : Heap} {locs : List Loc} {cells slots : Nat} {Q : State → Prop}
variable {cc : ByteArray} {pc : Nat} {ls : Array Slot} {rest : List Value}
theorem k_if_eq_0 (hexec : p.tables.exec = Jvm.exec) (hb : c.code = cc) {off : Int} {tgt : Nat} (hdg : decode cc pc = .ok (.ifCond .eq off, 3)) (ht : (pc : Int) + off = (tgt : Int)) (k : W p l e R s m args below meth c H locs cells slots Q (F0 m tgt ls rest)) : W p l e R s m args below meth c H locs cells slots Q (F0 m pc ls (.int (nI 0) :: rest)) :=
  lv_if_eq hexec hb hdg ht (fun _ => k) (fun h => absurd (show nI 0 = 0 by decide) h)
theorem k_if_eq_1 (hexec : p.tables.exec = Jvm.exec) (hb : c.code = cc) {off : Int} {tgt : Nat} (hdg : decode cc pc = .ok (.ifCond .eq off, 3)) (ht : (pc : Int) + off = (tgt : Int)) (k : W p l e R s m args below meth c H locs cells slots Q (F0 m (pc + 3) ls rest)) : W p l e R s m args below meth c H locs cells slots Q (F0 m pc ls (.int (nI 1) :: rest)) :=
  lv_if_eq hexec hb hdg ht (fun h => absurd h (show ¬ nI 1 = 0 by decide)) (fun _ => k)
theorem k_if_ne_0 (hexec : p.tables.exec = Jvm.exec) (hb : c.code = cc) {off : Int} {tgt : Nat} (hdg : decode cc pc = .ok (.ifCond .ne off, 3)) (ht : (pc : Int) + off = (tgt : Int)) (k : W p l e R s m args below meth c H locs cells slots Q (F0 m (pc + 3) ls rest)) : W p l e R s m args below meth c H locs cells slots Q (F0 m pc ls (.int (nI 0) :: rest)) :=
  lv_if_ne hexec hb hdg ht (fun h => absurd (show nI 0 = 0 by decide) h) (fun _ => k)
theorem k_if_ne_1 (hexec : p.tables.exec = Jvm.exec) (hb : c.code = cc) {off : Int} {tgt : Nat} (hdg : decode cc pc = .ok (.ifCond .ne off, 3)) (ht : (pc : Int) + off = (tgt : Int)) (k : W p l e R s m args below meth c H locs cells slots Q (F0 m tgt ls rest)) : W p l e R s m args below meth c H locs cells slots Q (F0 m pc ls (.int (nI 1) :: rest)) :=
  lv_if_ne hexec hb hdg ht (fun _ => k) (fun h => absurd h (show ¬ nI 1 = 0 by decide))
end KN
theorem zI_nI {z : Int} (h : 0 ≤ z) : zI z = nI z.toNat := by
  rw [nI_zI]
  congr 1
  omega
def lonJ (f : Nat → Nat → Nat) (s : Nat) (g : Nat → Nat) (k n : Nat) : Nat := if cnts f s k = true then lonI f s g k n else 0
theorem lonJ_0 (f : Nat → Nat → Nat) (s : Nat) (g : Nat → Nat) (k : Nat) : lonJ f s g k 0 = b2 (cnts f s k) := by
  unfold lonJ b2 lonI
  rfl
theorem lonJ_pos {f : Nat → Nat → Nat} {s : Nat} {g : Nat → Nat} {k n : Nat} (h : 0 < lonJ f s g k n) : cnts f s k = true := by
  unfold lonJ at h
  split at h
  · assumption
  · omega
theorem lonI_pos (f : Nat → Nat → Nat) (s : Nat) (g : Nat → Nat) (k : Nat) : ∀ n : Nat, 0 < lonI f s g k n
  | 0 => Nat.one_pos
  | n + 1 => by
    have h := lonI_pos f s g k n
    unfold lonI
    split <;> omega
theorem lonJ_zero {f : Nat → Nat → Nat} {s : Nat} {g : Nat → Nat} {k n : Nat} (h : lonJ f s g k n ≤ 0) (j : Nat) : lonJ f s g k j = lonJ f s g k n := by
  have h2 := lonI_pos f s g k n
  unfold lonJ at h ⊢
  split at h
  · omega
  · next e => rw [if_neg e, if_neg e]
theorem lonJ_le (f : Nat → Nat → Nat) (s : Nat) (g : Nat → Nat) (k n : Nat) (hg : ∀ j, j < n → g j ≤ j + 1) : lonJ f s g k n ≤ n + 1 := by
  have h := lonI_le f s g k n hg
  unfold lonJ
  split <;> omega
theorem lonJ_up {f : Nat → Nat → Nat} {s : Nat} {g : Nat → Nat} {k n : Nat} (hc : cnts f s k = true) (h : 0 < g n ∧ sOn f s n < sOn f s k ∧ lonJ f s g k n ≤ g n) : lonJ f s g k (n + 1) = g n + 1 := by
  unfold lonJ at h ⊢
  rw [if_pos hc] at h ⊢
  unfold lonI
  rw [if_pos h]
theorem lonJ_same {f : Nat → Nat → Nat} {s : Nat} {g : Nat → Nat} {k n : Nat} (hc : cnts f s k = true) (h : ¬ (0 < g n ∧ sOn f s n < sOn f s k ∧ lonJ f s g k n ≤ g n)) : lonJ f s g k (n + 1) = lonJ f s g k n := by
  unfold lonJ at h ⊢
  rw [if_pos hc] at h ⊢
  rw [if_pos hc]
  show (if _ then _ else _) = _
  rw [if_neg h]
theorem lonJ_lon {f : Nat → Nat → Nat} {s : Nat} {g : Nat → Nat} {k : Nat} (h : ∀ j, j < k → g j = lon f s j) : lonJ f s g k k = lon f s k := (lon_eq h).symm
theorem bandA_pos {f : Nat → Nat → Nat} {q : Nat} : ∀ n : Nat, 0 ≤ bandA f q n → f 9 (stackN (bandA f q n).toNat q) ≠ 0
  | 0, h => by simp [bandA] at h
  | n + 1, h => by
    unfold bandA at h ⊢
    split at h
    · next e => rw [if_pos e]; exact bandA_pos n h
    · next e => rw [if_neg e, Int.toNat_natCast]; exact e
theorem bandS_pos {f : Nat → Nat → Nat} {p : Nat} (h : 0 ≤ bandS f p) : f 9 (stackN (bandS f p).toNat (f 8 p)) ≠ 0 := bandA_pos _ h
theorem cntsA_ne {f : Nat → Nat → Nat} {s k : Nat} : ∀ n : Nat, cntsA f s k n = true → sOn f s k ≠ -1
  | 0, h => of_decide_eq_true h
  | n + 1, h => cntsA_ne n (Bool.and_eq_true_iff.mp h).1
theorem cnts_ne {f : Nat → Nat → Nat} {s k : Nat} (h : cnts f s k = true) : sOn f s k ≠ -1 := cntsA_ne k h
theorem row_next {g v : Nat → Nat} {j : Nat} (h : ∀ x, x < j → g x = v x) : ∀ x, x < j + 1 → va_up g j (v j) x = v x := fun x hx => by
  by_cases e : x = j
  · rw [e, va_up_self]
  · rw [va_up_ne _ _ e]; exact h x (by omega)
theorem va_up_id {α : Type} (g : Nat → α) (k : Nat) : va_up g k (g k) = g := by
  funext j
  by_cases e : j = k
  · rw [e, va_up_self]
  · rw [va_up_ne _ _ e]
theorem va_up_comm {α : Type} (g : Nat → α) {j k : Nat} (v w : α) (h : j ≠ k) : va_up (va_up g j v) k w = va_up (va_up g k w) j v := by
  funext x
  by_cases e1 : x = j
  · rw [e1, va_up_ne _ _ h, va_up_self, va_up_self]
  · by_cases e2 : x = k
    · rw [e2, va_up_self, va_up_ne _ _ (Ne.symm h), va_up_self]
    · rw [va_up_ne _ _ e2, va_up_ne _ _ e1, va_up_ne _ _ e1, va_up_ne _ _ e2]
def dropM (f : Nat → Nat → Nat) (e s n : Nat) : Nat → Nat → Nat := va_up (va_up f 16 (dropA f e s n).2.1) 17 (dropA f e s n).2.2
theorem dropM_0 (f : Nat → Nat → Nat) (e s : Nat) : dropM f e s 0 = f := by
  show va_up (va_up f 16 (f 16)) 17 (f 17) = f
  rw [va_up_id, va_up_id]
theorem dropA_eq {f : Nat → Nat → Nat} {e s n : Nat} (h : (dropA f e s n).2.2 (3 * s + n) = e) : dropA f e s (n + 1) = dropA f e s n := by
  show (if _ then _ else _) = _
  rw [if_pos h]
theorem dropA_ne {f : Nat → Nat → Nat} {e s n : Nat} (h : (dropA f e s n).2.2 (3 * s + n) ≠ e) : dropA f e s (n + 1) = ((dropA f e s n).1 + 1, va_up (dropA f e s n).2.1 (3 * s + (dropA f e s n).1) ((dropA f e s n).2.1 (3 * s + n)), va_up (dropA f e s n).2.2 (3 * s + (dropA f e s n).1) ((dropA f e s n).2.2 (3 * s + n))) := by
  show (if _ then _ else _) = _
  rw [if_neg h]
theorem dropM_ne {f : Nat → Nat → Nat} {e s n : Nat} (h : (dropA f e s n).2.2 (3 * s + n) ≠ e) : dropM f e s (n + 1) = va_up (va_up (dropM f e s n) 16 (va_up (dropA f e s n).2.1 (3 * s + (dropA f e s n).1) ((dropA f e s n).2.1 (3 * s + n)))) 17 (va_up (dropA f e s n).2.2 (3 * s + (dropA f e s n).1) ((dropA f e s n).2.2 (3 * s + n))) := by
  unfold dropM
  rw [dropA_ne h]
  show va_up (va_up f 16 _) 17 _ = va_up (va_up (va_up (va_up f 16 _) 17 _) 16 _) 17 _
  rw [va_up_comm (va_up f 16 (dropA f e s n).2.1) _ _ (show (17 : Nat) ≠ 16 by decide), bx_uu, bx_uu]
theorem dropM_eq {f : Nat → Nat → Nat} {e s n : Nat} (h : (dropA f e s n).2.2 (3 * s + n) = e) : dropM f e s (n + 1) = dropM f e s n := by
  unfold dropM
  rw [dropA_eq h]
theorem MI.dropM {nc : Nat} {i : Nat → Nat} {f : Nat → Nat → Nat} (hI : MI nc i f) (e s n : Nat) : MI nc i (dropM f e s n) := by
  have h := dropA_rows hI e s n
  exact (hI.row 16 _ h.1).row 17 _ h.2
theorem MW.tt {cy : Nat → ClassId} {M : mM} {h : Nat} {ad : Nat → Nat} {b : Bool} {i : Nat → Nat} {f : Nat → Nat → Nat} (hW : MW cy M h ad (b2 (!b)) i f) (hb : b = true) : MW cy M h ad 0 i f := by subst hb; exact hW
theorem MW.tf {cy : Nat → ClassId} {M : mM} {h : Nat} {ad : Nat → Nat} {b : Bool} {i : Nat → Nat} {f : Nat → Nat → Nat} (hW : MW cy M h ad (b2 (!b)) i f) (hb : b = false) : MW cy M h ad 1 i f := by subst hb; exact hW
theorem lackS_ne {f : Nat → Nat → Nat} {s : Nat} (h : lackS f s ≠ 0) : f 18 s ≤ 2 := by
  unfold lackS at h
  split at h
  · omega
  · split at h <;> omega
end
section
set_option maxRecDepth 100000 in
set_option maxHeartbeats 4000000 in
/-- in(x, y, z) -/
theorem c_X6_in (l : Launch) (x y z : Int32) (u v w : Int) (px : x.toInt = u) (py : y.toInt = v) (pz : z.toInt = w) : mS l yX6_in wsX6_in ({ frames := 0, cells := 0, slots := 0, locals := 0 } : Room) [.int x, .int y, .int z] (fun r => r = nI (b2 (inB u v w))) := by
  refine mS.of (cc := cX6_in) (maxL := 3) (ret := (some .boolean)) (by decide) rfl (Nat.le_of_ble_eq_true rfl) ?_
  intro p e s m args below meth c ls hx hb hr hts hown hlocks hml hl
  have hl : lv_has ls 3 [(0, .int x), (1, .int y), (2, .int z)] := hl
  have hown : s.vm.findClass RX6 = some m.cls := hown
  refine lv_iload_n hx hb dX6_in_0 rfl (lv_at hl 0 rfl) ?_
  refine lv_iload_n hx hb dX6_in_1 rfl (lv_at hl 1 rfl) ?_
  refine z_icmp_lt (u := u) (v := v) (tgt := 14) hx hb (px) (py) dX6_in_2 (by decide) (fun c_2 => ?_) (fun c_2 => ?_)
  · refine lv_iconst (v := (nI 0)) hx hb dX6_in_14 (by decide) ?_
    exact e_rz hx hb hr hlocks (by first | decide | exact b2_le _ | omega) ((show nI 0 = nI (b2 (inB u v w)) from (b2_n (by omega)).symm)) dX6_in_15
  · refine lv_iload_n hx hb dX6_in_5 rfl (lv_at hl 0 rfl) ?_
    refine lv_iload_n hx hb dX6_in_6 rfl (lv_at hl 2 rfl) ?_
    refine z_icmp_gt (u := u) (v := w) (tgt := 14) hx hb (px) (pz) dX6_in_7 (by decide) (fun c_7 => ?_) (fun c_7 => ?_)
    · refine lv_iconst (v := (nI 0)) hx hb dX6_in_14 (by decide) ?_
      exact e_rz hx hb hr hlocks (by first | decide | exact b2_le _ | omega) ((show nI 0 = nI (b2 (inB u v w)) from (b2_n (by omega)).symm)) dX6_in_15
    · refine lv_iconst (v := (nI 1)) hx hb dX6_in_10 (by decide) ?_
      refine lv_goto (tgt := 15) hx hb dX6_in_11 (by decide) ?_
      exact e_rz hx hb hr hlocks (by first | decide | exact b2_le _ | omega) ((show nI 1 = nI (b2 (inB u v w)) from (b2_d (by omega)).symm)) dX6_in_15

set_option maxRecDepth 100000 in
set_option maxHeartbeats 4000000 in
/-- areOneLine(a, b) -/
theorem c_X6_areOneLine (l : Launch) (a b : Nat) (ha : a < 2147483648) (hb2 : b < 2147483648) : mS l yX6_areOneLine wsX6_areOneLine ({ frames := 0, cells := 0, slots := 0, locals := 0 } : Room) [.int (nI a), .int (nI b)] (fun r => r = nI (b2 (oneLine a b))) := by
  refine mS.of (cc := cX6_areOneLine) (maxL := 2) (ret := (some .boolean)) (by decide) rfl (Nat.le_of_ble_eq_true rfl) ?_
  intro p e s m args below meth c ls hx hb hr hts hown hlocks hml hl
  have hl : lv_has ls 2 [(0, .int (nI a)), (1, .int (nI b))] := hl
  have hown : s.vm.findClass RX6 = some m.cls := hown
  refine lv_iload_n hx hb dX6_areOneLine_0 rfl (lv_at hl 0 rfl) ?_
  refine lv_iload_n hx hb dX6_areOneLine_1 rfl (lv_at hl 1 rfl) ?_
  refine z_icmp_eq (u := ((a : Nat) : Int)) (v := ((b : Nat) : Int)) (tgt := 27) hx hb (nI_toInt (by omega)) (nI_toInt (by omega)) dX6_areOneLine_2 (by decide) (fun c_2 => ?_) (fun c_2 => ?_)
  · refine lv_iconst (v := (nI 1)) hx hb dX6_areOneLine_27 (by decide) ?_
    refine lv_goto (tgt := 32) hx hb dX6_areOneLine_28 (by decide) ?_
    exact e_rz hx hb hr hlocks (by first | decide | exact b2_le _ | omega) ((show nI 1 = nI (b2 (oneLine a b)) from (b2_d (by omega)).symm)) dX6_areOneLine_32
  · refine lv_iload_n hx hb dX6_areOneLine_5 rfl (lv_at hl 0 rfl) ?_
    refine lv_bipush (v := (nI 10)) hx hb dX6_areOneLine_6 (by decide) ?_
    refine n_div (x := a) (y := 10) hx hb (by omega) (by omega) (by omega) dX6_areOneLine_8 ?_
    refine lv_iload_n hx hb dX6_areOneLine_9 rfl (lv_at hl 1 rfl) ?_
    refine lv_bipush (v := (nI 10)) hx hb dX6_areOneLine_10 (by decide) ?_
    refine n_rem (x := b) (y := 10) hx hb (by omega) (by omega) (by omega) dX6_areOneLine_12 ?_
    refine z_icmp_ne (u := ((a / 10 : Nat) : Int)) (v := ((b % 10 : Nat) : Int)) (tgt := 31) hx hb (nI_toInt (by omega)) (nI_toInt (by omega)) dX6_areOneLine_13 (by decide) (fun c_13 => ?_) (fun c_13 => ?_)
    · refine lv_iconst (v := (nI 0)) hx hb dX6_areOneLine_31 (by decide) ?_
      exact e_rz hx hb hr hlocks (by first | decide | exact b2_le _ | omega) ((show nI 0 = nI (b2 (oneLine a b)) from (b2_n (by omega)).symm)) dX6_areOneLine_32
    · refine lv_iload_n hx hb dX6_areOneLine_16 rfl (lv_at hl 0 rfl) ?_
      refine lv_bipush (v := (nI 10)) hx hb dX6_areOneLine_17 (by decide) ?_
      refine n_rem (x := a) (y := 10) hx hb (by omega) (by omega) (by omega) dX6_areOneLine_19 ?_
      refine lv_iload_n hx hb dX6_areOneLine_20 rfl (lv_at hl 1 rfl) ?_
      refine lv_bipush (v := (nI 10)) hx hb dX6_areOneLine_21 (by decide) ?_
      refine n_div (x := b) (y := 10) hx hb (by omega) (by omega) (by omega) dX6_areOneLine_23 ?_
      refine z_icmp_ne (u := ((a % 10 : Nat) : Int)) (v := ((b / 10 : Nat) : Int)) (tgt := 31) hx hb (nI_toInt (by omega)) (nI_toInt (by omega)) dX6_areOneLine_24 (by decide) (fun c_24 => ?_) (fun c_24 => ?_)
      · refine lv_iconst (v := (nI 0)) hx hb dX6_areOneLine_31 (by decide) ?_
        exact e_rz hx hb hr hlocks (by first | decide | exact b2_le _ | omega) ((show nI 0 = nI (b2 (oneLine a b)) from (b2_n (by omega)).symm)) dX6_areOneLine_32
      · refine lv_iconst (v := (nI 1)) hx hb dX6_areOneLine_27 (by decide) ?_
        refine lv_goto (tgt := 32) hx hb dX6_areOneLine_28 (by decide) ?_
        exact e_rz hx hb hr hlocks (by first | decide | exact b2_le _ | omega) ((show nI 1 = nI (b2 (oneLine a b)) from (b2_d (by omega)).symm)) dX6_areOneLine_32

set_option maxRecDepth 100000 in
set_option maxHeartbeats 4000000 in
/-- stack(b, q) -/
theorem c_X6_stack (l : Launch) (b q : Nat) (hb2 : b < 1000) (hq : q ≤ 1) : mS l yX6_stack wsX6_stack ({ frames := 0, cells := 0, slots := 0, locals := 0 } : Room) [.int (nI b), .int (nI q)] (fun r => r = nI (stackN b q)) := by
  refine mS.of (cc := cX6_stack) (maxL := 2) (ret := (some .int)) (by decide) rfl (Nat.le_of_ble_eq_true rfl) ?_
  intro p e s m args below meth c ls hx hb hr hts hown hlocks hml hl
  have hl : lv_has ls 2 [(0, .int (nI b)), (1, .int (nI q))] := hl
  have hown : s.vm.findClass RX6 = some m.cls := hown
  refine lv_iload_n hx hb dX6_stack_0 rfl (lv_at hl 1 rfl) ?_
  refine z_if_eq (u := ((q : Nat) : Int)) (tgt := 10) hx hb (nI_toInt (by omega)) dX6_stack_1 (by decide) (fun c_1 => ?_) (fun c_1 => ?_)
  · refine lv_iload_n hx hb dX6_stack_10 rfl (lv_at hl 0 rfl) ?_
    exact e_ri hx hb hr hlocks ((show (nI b) = nI (stackN b q) by unfold stackN; first | (rw [if_pos (by omega)]; done) | (rw [if_neg (by omega)]; done))) dX6_stack_11
  · refine lv_iconst (v := (nI 3)) hx hb dX6_stack_4 (by decide) ?_
    refine lv_iload_n hx hb dX6_stack_5 rfl (lv_at hl 0 rfl) ?_
    refine n_add (x := 3) (y := b) hx hb dX6_stack_6 ?_
    refine lv_goto (tgt := 11) hx hb dX6_stack_7 (by decide) ?_
    exact e_ri hx hb hr hlocks ((show (nI (3 + b)) = nI (stackN b q) by unfold stackN; first | (rw [if_pos (by omega)]; done) | (rw [if_neg (by omega)]; done))) dX6_stack_11

set_option maxRecDepth 100000 in
set_option maxHeartbeats 4000000 in
/-- isBand -/
theorem c_X6_isBand (l : Launch) (x : Int32) (u : Int) (px : x.toInt = u) : mS l yX6_isBand wsX6_isBand ({ frames := 1, cells := 0, slots := 0, locals := 22 } : Room) [.int x] (fun r => r = nI (b2 (inB u 0 2))) := by
  refine mS.of (cc := cX6_isBand) (maxL := 1) (ret := (some .boolean)) (by decide) rfl (Nat.le_of_ble_eq_true rfl) ?_
  intro p e s m args below meth c ls hx hb hr hts hown hlocks hml hl
  have hl : lv_has ls 1 [(0, .int x)] := hl
  have hown : s.vm.findClass RX6 = some m.cls := hown
  refine lv_iload_n hx hb dX6_isBand_0 rfl (lv_at hl 0 rfl) ?_
  refine lv_iconst (v := (nI 0)) hx hb dX6_isBand_1 (by decide) ?_
  refine lv_iconst (v := (nI 2)) hx hb dX6_isBand_2 (by decide) ?_
  refine vp_callSi (W.runS (As := [.int x, .int (nI 0), .int (nI 2)]) (rest := []) ⟨hx, hb, hml, hown, hts⟩ (c_X6_in l x (nI 0) (nI 2) u ((0 : Nat) : Int) ((2 : Nat) : Int) (px) (nI_toInt (by omega)) (nI_toInt (by omega))) (va_cwS 3 hts gX6_isBand_X6_in rfl rfl rfl (by decide +kernel) ⟨Nat.le_of_ble_eq_true rfl, Nat.le_of_ble_eq_true rfl⟩) mPre0 rfl rfl hl.1 rfl (lv_room (Nat.le_of_ble_eq_true rfl)) dX6_isBand_3 ⟨Nat.le_of_ble_eq_true rfl, Nat.le_of_ble_eq_true rfl⟩) (fun r9 hr9 => ?_)
  have hr9 : r9 = (nI (b2 (inB u ((0 : Nat) : Int) ((2 : Nat) : Int)))) := hr9
  subst hr9
  exact e_rz hx hb hr hlocks (by first | decide | exact b2_le _ | omega) (rfl) dX6_isBand_6

set_option maxRecDepth 100000 in
set_option maxHeartbeats 4000000 in
/-- isExaminer -/
theorem c_X6_isExaminer (l : Launch) (x : Int32) (u : Int) (px : x.toInt = u) : mS l yX6_isExaminer wsX6_isExaminer ({ frames := 1, cells := 0, slots := 0, locals := 22 } : Room) [.int x] (fun r => r = nI (b2 (inB u 0 5))) := by
  refine mS.of (cc := cX6_isExaminer) (maxL := 1) (ret := (some .boolean)) (by decide) rfl (Nat.le_of_ble_eq_true rfl) ?_
  intro p e s m args below meth c ls hx hb hr hts hown hlocks hml hl
  have hl : lv_has ls 1 [(0, .int x)] := hl
  have hown : s.vm.findClass RX6 = some m.cls := hown
  refine lv_iload_n hx hb dX6_isExaminer_0 rfl (lv_at hl 0 rfl) ?_
  refine lv_iconst (v := (nI 0)) hx hb dX6_isExaminer_1 (by decide) ?_
  refine lv_iconst (v := (nI 5)) hx hb dX6_isExaminer_2 (by decide) ?_
  refine vp_callSi (W.runS (As := [.int x, .int (nI 0), .int (nI 5)]) (rest := []) ⟨hx, hb, hml, hown, hts⟩ (c_X6_in l x (nI 0) (nI 5) u ((0 : Nat) : Int) ((5 : Nat) : Int) (px) (nI_toInt (by omega)) (nI_toInt (by omega))) (va_cwS 3 hts gX6_isExaminer_X6_in rfl rfl rfl (by decide +kernel) ⟨Nat.le_of_ble_eq_true rfl, Nat.le_of_ble_eq_true rfl⟩) mPre0 rfl rfl hl.1 rfl (lv_room (Nat.le_of_ble_eq_true rfl)) dX6_isExaminer_3 ⟨Nat.le_of_ble_eq_true rfl, Nat.le_of_ble_eq_true rfl⟩) (fun r9 hr9 => ?_)
  have hr9 : r9 = (nI (b2 (inB u ((0 : Nat) : Int) ((5 : Nat) : Int)))) := hr9
  subst hr9
  exact e_rz hx hb hr hlocks (by first | decide | exact b2_le _ | omega) (rfl) dX6_isExaminer_6

set_option maxRecDepth 100000 in
set_option maxHeartbeats 4000000 in
/-- isScript -/
theorem c_X6_isScript (l : Launch) (D : va_G) (cy : Nat → ClassId) (M : mM) (h : Nat) (ad : Nat → Nat) (t : Nat) (i : Nat → Nat) (f : Nat → Nat → Nat) (nc : Nat) (x : Int32) (u : Int) (hW : MW cy M h ad t i f) (hI : MI nc i f) (px : x.toInt = u) : mR l yX6_isScript wsX6_isScript ({ frames := 1, cells := 0, slots := 0, locals := 22 } : Room) D cy M [.ref h, .int x] (fun r => r = nI (b2 (inB u 0 ((i 10 : Int) - 1)))) := by
  refine mR.of (cc := cX6_isScript) (maxL := 2) (ret := (some .boolean)) (by decide) rfl (Nat.le_of_ble_eq_true rfl) ?_
  intro p e s m args below meth c ls hx hb hr hts hown hlocks hml hP hK hl
  have hl : lv_has ls 2 [(0, .ref h), (1, .int x)] := hl
  have hown : s.vm.findClass RX6 = some m.cls := hown
  have hwX6 : ∀ w ∈ wsX60, w.before args s = true := fun w h => hts w (List.mem_cons_of_mem _ (List.mem_append_right _ (h)))
  obtain ⟨hn, hi1, hi2, hi5, hi10, -⟩ := id hI
  refine lv_iload_n hx hb dX6_isScript_0 rfl (lv_at hl 1 rfl) ?_
  refine lv_iconst (v := (nI 0)) hx hb dX6_isScript_1 (by decide) ?_
  refine lv_aload_n hx hb dX6_isScript_2 rfl (lv_at hl 0 rfl) ?_
  refine m_get (T := TX6) (N := 24) (ci := 7) (fs := (moF ad t i)) hx hb hwX6 hown hK hP hW.1 rfl 10 (by decide) (hts _ (List.mem_of_getElem? (i := 1) rfl)) (v := .int (nI (i 10))) rfl dX6_isScript_3 ?_
  refine lv_iconst (v := (nI 1)) hx hb dX6_isScript_6 (by decide) ?_
  refine z_sub (u := ((i 10 : Nat) : Int)) (v := ((1 : Nat) : Int)) hx hb (nI_zI _) (nI_zI _) dX6_isScript_7 ?_
  refine vp_callSi (W.runS (As := [.int x, .int (nI 0), .int (zI (((i 10 : Nat) : Int) - ((1 : Nat) : Int)))]) (rest := []) ⟨hx, hb, hml, hown, hts⟩ (c_X6_in l x (nI 0) (zI (((i 10 : Nat) : Int) - ((1 : Nat) : Int))) u ((0 : Nat) : Int) (((i 10 : Nat) : Int) - ((1 : Nat) : Int)) (px) (nI_toInt (by omega)) (zI_toInt (by omega) (by omega))) (va_cwS 3 hts gX6_isScript_X6_in rfl rfl rfl (by decide +kernel) ⟨Nat.le_of_ble_eq_true rfl, Nat.le_of_ble_eq_true rfl⟩) mPre0 rfl rfl hl.1 rfl (lv_room (Nat.le_of_ble_eq_true rfl)) dX6_isScript_8 ⟨Nat.le_of_ble_eq_true rfl, Nat.le_of_ble_eq_true rfl⟩) (fun r9 hr9 => ?_)
  have hr9 : r9 = (nI (b2 (inB u ((0 : Nat) : Int) (((i 10 : Nat) : Int) - ((1 : Nat) : Int))))) := hr9
  subst hr9
  exact e_rz hx hb hr hlocks (by first | decide | exact b2_le _ | omega) (rfl) dX6_isScript_11

set_option maxRecDepth 100000 in
set_option maxHeartbeats 4000000 in
/-- isLetter -/
theorem c_X6_isLetter (l : Launch) (D : va_G) (cy : Nat → ClassId) (M : mM) (h : Nat) (ad : Nat → Nat) (t : Nat) (i : Nat → Nat) (f : Nat → Nat → Nat) (nc : Nat) (x : Int32) (u : Int) (hW : MW cy M h ad t i f) (hI : MI nc i f) (px : x.toInt = u) : mR l yX6_isLetter wsX6_isLetter ({ frames := 1, cells := 0, slots := 0, locals := 22 } : Room) D cy M [.ref h, .int x] (fun r => r = nI (b2 (inB u 0 ((i 2 : Int) - 1)))) := by
  refine mR.of (cc := cX6_isLetter) (maxL := 2) (ret := (some .boolean)) (by decide) rfl (Nat.le_of_ble_eq_true rfl) ?_
  intro p e s m args below meth c ls hx hb hr hts hown hlocks hml hP hK hl
  have hl : lv_has ls 2 [(0, .ref h), (1, .int x)] := hl
  have hown : s.vm.findClass RX6 = some m.cls := hown
  have hwX6 : ∀ w ∈ wsX60, w.before args s = true := fun w h => hts w (List.mem_cons_of_mem _ (List.mem_append_right _ (h)))
  obtain ⟨hn, hi1, hi2, hi5, hi10, -⟩ := id hI
  refine lv_iload_n hx hb dX6_isLetter_0 rfl (lv_at hl 1 rfl) ?_
  refine lv_iconst (v := (nI 0)) hx hb dX6_isLetter_1 (by decide) ?_
  refine lv_aload_n hx hb dX6_isLetter_2 rfl (lv_at hl 0 rfl) ?_
  refine m_get (T := TX6) (N := 24) (ci := 7) (fs := (moF ad t i)) hx hb hwX6 hown hK hP hW.1 rfl 2 (by decide) (hts _ (List.mem_of_getElem? (i := 1) rfl)) (v := .int (nI (i 2))) rfl dX6_isLetter_3 ?_
  refine lv_iconst (v := (nI 1)) hx hb dX6_isLetter_6 (by decide) ?_
  refine z_sub (u := ((i 2 : Nat) : Int)) (v := ((1 : Nat) : Int)) hx hb (nI_zI _) (nI_zI _) dX6_isLetter_7 ?_
  refine vp_callSi (W.runS (As := [.int x, .int (nI 0), .int (zI (((i 2 : Nat) : Int) - ((1 : Nat) : Int)))]) (rest := []) ⟨hx, hb, hml, hown, hts⟩ (c_X6_in l x (nI 0) (zI (((i 2 : Nat) : Int) - ((1 : Nat) : Int))) u ((0 : Nat) : Int) (((i 2 : Nat) : Int) - ((1 : Nat) : Int)) (px) (nI_toInt (by omega)) (zI_toInt (by omega) (by omega))) (va_cwS 3 hts gX6_isLetter_X6_in rfl rfl rfl (by decide +kernel) ⟨Nat.le_of_ble_eq_true rfl, Nat.le_of_ble_eq_true rfl⟩) mPre0 rfl rfl hl.1 rfl (lv_room (Nat.le_of_ble_eq_true rfl)) dX6_isLetter_8 ⟨Nat.le_of_ble_eq_true rfl, Nat.le_of_ble_eq_true rfl⟩) (fun r9 hr9 => ?_)
  have hr9 : r9 = (nI (b2 (inB u ((0 : Nat) : Int) (((i 2 : Nat) : Int) - ((1 : Nat) : Int))))) := hr9
  subst hr9
  exact e_rz hx hb hr hlocks (by first | decide | exact b2_le _ | omega) (rfl) dX6_isLetter_11

set_option maxRecDepth 100000 in
set_option maxHeartbeats 4000000 in
/-- thrown() -/
theorem c_X6_thrown (l : Launch) (D : va_G) (cy : Nat → ClassId) (M : mM) (h : Nat) (ad : Nat → Nat) (t : Nat) (i : Nat → Nat) (f : Nat → Nat → Nat) (nc : Nat)  (hW : MW cy M h ad t i f) (hI : MI nc i f)  : mR l yX6_thrown wsX6_thrown ({ frames := 0, cells := 0, slots := 0, locals := 0 } : Room) D cy M [.ref h] (fun r => r = nI t) := by
  refine mR.of (cc := cX6_thrown) (maxL := 1) (ret := (some .int)) (by decide) rfl (Nat.le_of_ble_eq_true rfl) ?_
  intro p e s m args below meth c ls hx hb hr hts hown hlocks hml hP hK hl
  have hl : lv_has ls 1 [(0, .ref h)] := hl
  have hown : s.vm.findClass RX6 = some m.cls := hown
  have hwX6 : ∀ w ∈ wsX60, w.before args s = true := fun w h => hts w (List.mem_cons_of_mem _ (List.mem_append_right _ (h)))
  refine lv_aload_n hx hb dX6_thrown_0 rfl (lv_at hl 0 rfl) ?_
  refine m_get (T := TX6) (N := 24) (ci := 7) (fs := (moF ad t i)) hx hb hwX6 hown hK hP hW.1 rfl 22 (by decide) (hts _ (List.mem_of_getElem? (i := 1) rfl)) (v := .int (nI t)) rfl dX6_thrown_1 ?_
  exact e_ri hx hb hr hlocks (rfl) dX6_thrown_4

set_option maxRecDepth 100000 in
set_option maxHeartbeats 4000000 in
/-- bandOf(q) -/
theorem c_X6_bandOf (l : Launch) (D : va_G) (cy : Nat → ClassId) (M : mM) (h : Nat) (ad : Nat → Nat) (t : Nat) (i : Nat → Nat) (f : Nat → Nat → Nat) (nc : Nat) (q : Nat) (hW : MW cy M h ad t i f) (hI : MI nc i f) (hq : q < 20) : mR l yX6_bandOf wsX6_bandOf ({ frames := 0, cells := 0, slots := 0, locals := 0 } : Room) D cy M [.ref h, .int (nI q)] (fun r => r = nI (bandP f q)) := by
  refine mR.of (cc := cX6_bandOf) (maxL := 2) (ret := (some .int)) (by decide) rfl (Nat.le_of_ble_eq_true rfl) ?_
  intro p e s m args below meth c ls hx hb hr hts hown hlocks hml hP hK hl
  have hl : lv_has ls 2 [(0, .ref h), (1, .int (nI q))] := hl
  have hown : s.vm.findClass RX6 = some m.cls := hown
  have hwX6 : ∀ w ∈ wsX60, w.before args s = true := fun w h => hts w (List.mem_cons_of_mem _ (List.mem_append_right _ (h)))
  refine lv_aload_n hx hb dX6_bandOf_0 rfl (lv_at hl 0 rfl) ?_
  refine m_get (T := TX6) (N := 24) (ci := 7) (fs := (moF ad t i)) hx hb hwX6 hown hK hP hW.1 rfl 7 (by decide) (hts _ (List.mem_of_getElem? (i := 1) rfl)) (v := .ref (ad 7)) rfl dX6_bandOf_1 ?_
  refine lv_iload_n hx hb dX6_bandOf_4 rfl (lv_at hl 1 rfl) ?_
  have bd_1 : (f 7) q ≤ 16 := hI.2.2.2.2.2 7 q
  refine n_iald (g := (f 7)) (n := 20) (i := q) hx hb hK hP (hW.2.1 7 (by decide)) (by omega) (by omega) dX6_bandOf_5 ?_
  refine lv_bipush (v := (nI 8)) hx hb dX6_bandOf_6 (by decide) ?_
  refine z_icmp_ge (u := (((f 7) q : Nat) : Int)) (v := ((8 : Nat) : Int)) (tgt := 15) hx hb (nI_toInt (by omega)) (nI_toInt (by omega)) dX6_bandOf_8 (by decide) (fun c_8 => ?_) (fun c_8 => ?_)
  · refine lv_aload_n hx hb dX6_bandOf_15 rfl (lv_at hl 0 rfl) ?_
    refine m_get (T := TX6) (N := 24) (ci := 7) (fs := (moF ad t i)) hx hb hwX6 hown hK hP hW.1 rfl 7 (by decide) (hts _ (List.mem_of_getElem? (i := 1) rfl)) (v := .ref (ad 7)) rfl dX6_bandOf_16 ?_
    refine lv_iload_n hx hb dX6_bandOf_19 rfl (lv_at hl 1 rfl) ?_
    have bd_2 : (f 7) q ≤ 16 := hI.2.2.2.2.2 7 q
    refine n_iald (g := (f 7)) (n := 20) (i := q) hx hb hK hP (hW.2.1 7 (by decide)) (by omega) (by omega) dX6_bandOf_20 ?_
    refine lv_bipush (v := (nI 12)) hx hb dX6_bandOf_21 (by decide) ?_
    refine z_icmp_ge (u := (((f 7) q : Nat) : Int)) (v := ((12 : Nat) : Int)) (tgt := 30) hx hb (nI_toInt (by omega)) (nI_toInt (by omega)) dX6_bandOf_23 (by decide) (fun c_23 => ?_) (fun c_23 => ?_)
    · refine lv_iconst (v := (nI 2)) hx hb dX6_bandOf_30 (by decide) ?_
      exact e_ri hx hb hr hlocks ((show (nI 2) = nI (bandP f q) by unfold bandP; first | (rw [if_pos (by omega)]; done) | (rw [if_neg (by omega), if_pos (by omega)]; done) | (rw [if_neg (by omega), if_neg (by omega)]; done))) dX6_bandOf_31
    · refine lv_iconst (v := (nI 1)) hx hb dX6_bandOf_26 (by decide) ?_
      refine lv_goto (tgt := 31) hx hb dX6_bandOf_27 (by decide) ?_
      exact e_ri hx hb hr hlocks ((show (nI 1) = nI (bandP f q) by unfold bandP; first | (rw [if_pos (by omega)]; done) | (rw [if_neg (by omega), if_pos (by omega)]; done) | (rw [if_neg (by omega), if_neg (by omega)]; done))) dX6_bandOf_31
  · refine lv_iconst (v := (nI 0)) hx hb dX6_bandOf_11 (by decide) ?_
    refine lv_goto (tgt := 31) hx hb dX6_bandOf_12 (by decide) ?_
    exact e_ri hx hb hr hlocks ((show (nI 0) = nI (bandP f q) by unfold bandP; first | (rw [if_pos (by omega)]; done) | (rw [if_neg (by omega), if_pos (by omega)]; done) | (rw [if_neg (by omega), if_neg (by omega)]; done))) dX6_bandOf_31

set_option maxRecDepth 100000 in
set_option maxHeartbeats 4000000 in
/-- asks(b) -/
theorem c_X6_asks (l : Launch) (D : va_G) (cy : Nat → ClassId) (M : mM) (sz : Nat) (h : Nat) (ad : Nat → Nat) (t : Nat) (i : Nat → Nat) (f : Nat → Nat → Nat) (nc : Nat) (b : Bool) (hW : MW cy M h ad t i f) (hI : MI nc i f)  : mWi l yX6_asks wsX6_asks ({ frames := 0, cells := 0, slots := 0, locals := 0 } : Room) D cy M sz [.ref h, .int (nI (b2 b))] (fun r M' => r = nI (b2 b) ∧ MW cy M' h ad (b2 (!b)) i f) 0 0 := by
  refine mW.of (cc := cX6_asks) (maxL := 2) (ret := (some .boolean)) (by decide) rfl (Nat.le_of_ble_eq_true rfl) ?_
  intro p e s m args below meth c ls hsz hx hb hr hts hown hlocks hml hname hP hD hS hA hK hl
  have hl : lv_has ls 2 [(0, .ref h), (1, .int (nI (b2 b)))] := hl
  have hown : s.vm.findClass RX6 = some m.cls := hown
  have hwX6 : ∀ w ∈ wsX60, w.before args s = true := fun w h => hts w (List.mem_cons_of_mem _ (List.mem_append_right _ (h)))
  refine lv_aload_n hx hb dX6_asks_0 rfl (lv_at hl 0 rfl) ?_
  refine lv_iload_n hx hb dX6_asks_1 rfl (lv_at hl 1 rfl) ?_
  refine b_if_eq (b := b) (tgt := 9) hx hb dX6_asks_2 (by decide) (fun c_2 => ?_) (fun c_2 => ?_)
  · refine lv_iconst (v := (nI 1)) hx hb dX6_asks_9 (by decide) ?_
    refine m_put (T := TX6) (N := 24) (ci := 7) (fs := (moF ad t i)) (v := .int (nI 1)) hx hb hwX6 tyX6 tyX6_ok nmX6 hown hK hP hD hS hW.1 rfl 22 (by decide) (hts _ (List.mem_of_getElem? (i := 1) rfl)) rfl (rfl) rfl (Nat.le_of_ble_eq_true rfl) dX6_asks_10 (fun H locs hP hD hS => ?_)
    have hW := hW.setO 1 i
    refine lv_iload_n hx hb dX6_asks_13 rfl (lv_at hl 1 rfl) ?_
    exact e_wz hx hb hr hlocks (by first | decide | exact b2_le _ | omega) hP hD hS (⟨rfl, (by rw [c_2] ; exact hW)⟩) dX6_asks_14
  · refine lv_iconst (v := (nI 0)) hx hb dX6_asks_5 (by decide) ?_
    refine lv_goto (tgt := 10) hx hb dX6_asks_6 (by decide) ?_
    refine m_put (T := TX6) (N := 24) (ci := 7) (fs := (moF ad t i)) (v := .int (nI 0)) hx hb hwX6 tyX6 tyX6_ok nmX6 hown hK hP hD hS hW.1 rfl 22 (by decide) (hts _ (List.mem_of_getElem? (i := 1) rfl)) rfl (rfl) rfl (Nat.le_of_ble_eq_true rfl) dX6_asks_10 (fun H locs hP hD hS => ?_)
    have hW := hW.setO 0 i
    refine lv_iload_n hx hb dX6_asks_13 rfl (lv_at hl 1 rfl) ?_
    exact e_wz hx hb hr hlocks (by first | decide | exact b2_le _ | omega) hP hD hS (⟨rfl, (by rw [c_2] ; exact hW)⟩) dX6_asks_14

set_option maxRecDepth 100000 in
set_option maxHeartbeats 4000000 in
/-- fails(k) -/
theorem c_X6_fails (l : Launch) (D : va_G) (cy : Nat → ClassId) (M : mM) (sz : Nat) (h : Nat) (ad : Nat → Nat) (t : Nat) (i : Nat → Nat) (f : Nat → Nat → Nat) (nc : Nat) (k : Nat) (hW : MW cy M h ad t i f) (hI : MI nc i f)  : mWi l yX6_fails wsX6_fails ({ frames := 0, cells := 0, slots := 0, locals := 0 } : Room) D cy M sz [.ref h, .int (nI k)] (fun r M' => r = nI 0 ∧ MW cy M' h ad k i f) 0 0 := by
  refine mW.of (cc := cX6_fails) (maxL := 2) (ret := (some .int)) (by decide) rfl (Nat.le_of_ble_eq_true rfl) ?_
  intro p e s m args below meth c ls hsz hx hb hr hts hown hlocks hml hname hP hD hS hA hK hl
  have hl : lv_has ls 2 [(0, .ref h), (1, .int (nI k))] := hl
  have hown : s.vm.findClass RX6 = some m.cls := hown
  have hwX6 : ∀ w ∈ wsX60, w.before args s = true := fun w h => hts w (List.mem_cons_of_mem _ (List.mem_append_right _ (h)))
  refine lv_aload_n hx hb dX6_fails_0 rfl (lv_at hl 0 rfl) ?_
  refine lv_iload_n hx hb dX6_fails_1 rfl (lv_at hl 1 rfl) ?_
  refine m_put (T := TX6) (N := 24) (ci := 7) (fs := (moF ad t i)) (v := .int (nI k)) hx hb hwX6 tyX6 tyX6_ok nmX6 hown hK hP hD hS hW.1 rfl 22 (by decide) (hts _ (List.mem_of_getElem? (i := 1) rfl)) rfl (rfl) rfl (Nat.le_of_ble_eq_true rfl) dX6_fails_2 (fun H locs hP hD hS => ?_)
  have hW := hW.setO k i
  refine lv_iconst (v := (nI 0)) hx hb dX6_fails_5 (by decide) ?_
  exact e_wi hx hb hr hlocks hP hD hS (⟨rfl, hW⟩) dX6_fails_6

set_option maxRecDepth 100000 in
set_option maxHeartbeats 4000000 in
/-- strokeOn(s, k) -/
theorem c_X6_strokeOn (l : Launch) (D : va_G) (cy : Nat → ClassId) (M : mM) (h : Nat) (ad : Nat → Nat) (t : Nat) (i : Nat → Nat) (f : Nat → Nat → Nat) (nc : Nat) (s1 k : Nat) (hW : MW cy M h ad t i f) (hI : MI nc i f) (hs : s1 < 40) (hk : k < 8) : mR l yX6_strokeOn wsX6_strokeOn ({ frames := 1, cells := 0, slots := 0, locals := 21 } : Room) D cy M [.ref h, .int (nI s1), .int (nI k)] (fun r => r = zI (sOn f s1 k)) := by
  refine mR.of (cc := cX6_strokeOn) (maxL := 6) (ret := (some .int)) (by decide) rfl (Nat.le_of_ble_eq_true rfl) ?_
  intro p e s m args below meth c ls hx hb hr hts hown hlocks hml hP hK hl
  have hl : lv_has ls 6 [(0, .ref h), (1, .int (nI s1)), (2, .int (nI k))] := hl
  have hown : s.vm.findClass RX6 = some m.cls := hown
  have hwX6 : ∀ w ∈ wsX60, w.before args s = true := fun w h => hts w (List.mem_cons_of_mem _ (List.mem_append_right _ (h)))
  refine lv_aload_n hx hb dX6_strokeOn_0 rfl (lv_at hl 0 rfl) ?_
  refine m_get (T := TX6) (N := 24) (ci := 7) (fs := (moF ad t i)) hx hb hwX6 hown hK hP hW.1 rfl 14 (by decide) (hts _ (List.mem_of_getElem? (i := 1) rfl)) (v := .ref (ad 14)) rfl dX6_strokeOn_1 ?_
  refine lv_iload_n hx hb dX6_strokeOn_4 rfl (lv_at hl 1 rfl) ?_
  have bd_1 : (f 14) s1 ≤ 9 := hI.2.2.2.2.2 14 s1
  refine n_iald (g := (f 14)) (n := 40) (i := s1) hx hb hK hP (hW.2.1 14 (by decide)) (by omega) (by omega) dX6_strokeOn_5 ?_
  refine lv_istore_n (lv' := [(3, .int (nI ((f 14) s1))), (0, .ref h), (1, .int (nI s1)), (2, .int (nI k))]) hx hb dX6_strokeOn_6 rfl hl (by decide) rfl (fun ls hl => ?_)
  refine lv_iconst (v := (zI (-1))) hx hb dX6_strokeOn_7 (by decide) ?_
  refine lv_istore (lv' := [(4, .int (zI (-1))), (3, .int (nI ((f 14) s1))), (0, .ref h), (1, .int (nI s1)), (2, .int (nI k))]) hx hb dX6_strokeOn_8 hl (by decide) rfl (fun ls hl => ?_)
  refine lv_iconst (v := (nI 0)) hx hb dX6_strokeOn_10 (by decide) ?_
  refine lv_istore (lv' := [(5, .int (nI 0)), (4, .int (zI (-1))), (3, .int (nI ((f 14) s1))), (0, .ref h), (1, .int (nI s1)), (2, .int (nI k))]) hx hb dX6_strokeOn_11 hl (by decide) rfl (fun ls hl => ?_)
  have K13 : ∀ (n : Nat) (j : Nat), 6 - j < n → (j ≤ f 4 (f 14 s1)) → ∀ (ls : Array Slot), lv_has ls 6 [(0, .ref h), (1, .int (nI s1)), (2, .int (nI k)), (3, .int (nI (f 14 s1))), (4, .int (zI (sOnA f s1 k j))), (5, .int (nI j))] → W p l e ({ frames := 1, cells := 0, slots := 0, locals := 21 } : Room) s m args below meth c s.heap [] 0 0 (MQ below (vp_Si (fun r => r = zI (sOn f s1 k))) args s 0 0 (fun _ => False)) (F0 m 13 ls []) := by
    intro n
    induction n with
    | zero => intro j hn; exact absurd hn (by omega)
    | succ n ih13 =>
      intro j hn13 i13_0 ls hl
      refine lv_iload hx hb dX6_strokeOn_13 (lv_at hl 5 rfl) ?_
      refine lv_aload_n hx hb dX6_strokeOn_15 rfl (lv_at hl 0 rfl) ?_
      refine m_get (T := TX6) (N := 24) (ci := 7) (fs := (moF ad t i)) hx hb hwX6 hown hK hP hW.1 rfl 4 (by decide) (hts _ (List.mem_of_getElem? (i := 2) rfl)) (v := .ref (ad 4)) rfl dX6_strokeOn_16 ?_
      refine lv_iload_n hx hb dX6_strokeOn_19 rfl (lv_at hl 3 rfl) ?_
      have bd_2 : (f 4) (f 14 s1) ≤ 6 := hI.2.2.2.2.2 4 (f 14 s1)
      refine n_iald (g := (f 4)) (n := 10) (i := f 14 s1) hx hb hK hP (hW.2.1 4 (by decide)) (by omega) (by omega) dX6_strokeOn_20 ?_
      refine z_icmp_ge (u := ((j : Nat) : Int)) (v := (((f 4) (f 14 s1) : Nat) : Int)) (tgt := 68) hx hb (nI_toInt (by omega)) (nI_toInt (by omega)) dX6_strokeOn_21 (by decide) (fun c_21 => ?_) (fun c_21 => ?_)
      · refine lv_iload hx hb dX6_strokeOn_68 (lv_at hl 4 rfl) ?_
        exact e_ri hx hb hr hlocks ((show zI (sOnA f s1 k j) = zI (sOn f s1 k) by unfold sOn; rw [show f 4 (f 14 s1) = j by omega])) dX6_strokeOn_70
      · refine lv_aload_n hx hb dX6_strokeOn_24 rfl (lv_at hl 0 rfl) ?_
        refine m_get (T := TX6) (N := 24) (ci := 7) (fs := (moF ad t i)) hx hb hwX6 hown hK hP hW.1 rfl 3 (by decide) (hts _ (List.mem_of_getElem? (i := 3) rfl)) (v := .ref (ad 3)) rfl dX6_strokeOn_25 ?_
        refine lv_bipush (v := (nI 6)) hx hb dX6_strokeOn_28 (by decide) ?_
        refine lv_iload_n hx hb dX6_strokeOn_30 rfl (lv_at hl 3 rfl) ?_
        refine n_mul (x := 6) (y := f 14 s1) hx hb dX6_strokeOn_31 ?_
        refine lv_iload hx hb dX6_strokeOn_32 (lv_at hl 5 rfl) ?_
        refine n_add (x := 6 * (f 14 s1)) (y := j) hx hb dX6_strokeOn_34 ?_
        have bd_3 : (f 3) ((6 * (f 14 s1)) + j) ≤ 88 := hI.2.2.2.2.2 3 ((6 * (f 14 s1)) + j)
        refine n_iald (g := (f 3)) (n := 60) (i := (6 * (f 14 s1)) + j) hx hb hK hP (hW.2.1 3 (by decide)) (by omega) (by omega) dX6_strokeOn_35 ?_
        refine lv_aload_n hx hb dX6_strokeOn_36 rfl (lv_at hl 0 rfl) ?_
        refine m_get (T := TX6) (N := 24) (ci := 7) (fs := (moF ad t i)) hx hb hwX6 hown hK hP hW.1 rfl 11 (by decide) (hts _ (List.mem_of_getElem? (i := 4) rfl)) (v := .ref (ad 11)) rfl dX6_strokeOn_37 ?_
        refine lv_bipush (v := (nI 8)) hx hb dX6_strokeOn_40 (by decide) ?_
        refine lv_iload_n hx hb dX6_strokeOn_42 rfl (lv_at hl 1 rfl) ?_
        refine n_mul (x := 8) (y := s1) hx hb dX6_strokeOn_43 ?_
        refine lv_iload_n hx hb dX6_strokeOn_44 rfl (lv_at hl 2 rfl) ?_
        refine n_add (x := 8 * s1) (y := k) hx hb dX6_strokeOn_45 ?_
        have bd_4 : (f 11) ((8 * s1) + k) ≤ 88 := hI.2.2.2.2.2 11 ((8 * s1) + k)
        refine n_iald (g := (f 11)) (n := 320) (i := (8 * s1) + k) hx hb hK hP (hW.2.1 11 (by decide)) (by omega) (by omega) dX6_strokeOn_46 ?_
        refine vp_callSi (W.runS (As := [.int (nI ((f 3) ((6 * (f 14 s1)) + j))), .int (nI ((f 11) ((8 * s1) + k)))]) (rest := []) ⟨hx, hb, hml, hown, hts⟩ (c_X6_areOneLine l ((f 3) ((6 * (f 14 s1)) + j)) ((f 11) ((8 * s1) + k)) (by omega) (by omega)) (va_cwS 2 hts gX6_strokeOn_X6_areOneLine rfl rfl rfl (by decide +kernel) ⟨Nat.le_of_ble_eq_true rfl, Nat.le_of_ble_eq_true rfl⟩) mPre0 rfl rfl hl.1 rfl (lv_room (Nat.le_of_ble_eq_true rfl)) dX6_strokeOn_47 ⟨Nat.le_of_ble_eq_true rfl, Nat.le_of_ble_eq_true rfl⟩) (fun r9 hr9 => ?_)
        have hr9 : r9 = (nI (b2 (oneLine ((f 3) ((6 * (f 14 s1)) + j)) ((f 11) ((8 * s1) + k))))) := hr9
        subst hr9
        refine b_if_eq (b := oneLine ((f 3) ((6 * (f 14 s1)) + j)) ((f 11) ((8 * s1) + k))) (tgt := 58) hx hb dX6_strokeOn_50 (by decide) (fun c_50 => ?_) (fun c_50 => ?_)
        · refine lv_iload hx hb dX6_strokeOn_58 (lv_at hl 4 rfl) ?_
          refine lv_istore (lv' := [(4, .int (zI (sOnA f s1 k j))), (0, .ref h), (1, .int (nI s1)), (2, .int (nI k)), (3, .int (nI (f 14 s1))), (5, .int (nI j))]) hx hb dX6_strokeOn_60 hl (by decide) rfl (fun ls hl => ?_)
          refine n_iinc (x := j) (k := 1) (lv' := [(5, .int (nI (j + 1))), (4, .int (zI (sOnA f s1 k j))), (0, .ref h), (1, .int (nI s1)), (2, .int (nI k)), (3, .int (nI (f 14 s1)))]) hx hb dX6_strokeOn_62 rfl hl (q := 5) rfl (by decide) rfl (fun ls hl => ?_)
          refine lv_goto (tgt := 13) hx hb dX6_strokeOn_65 (by decide) ?_
          have hl : lv_has ls 6 [(5, .int (nI (j + 1))), (4, .int (zI (sOnA f s1 k (j + 1)))), (0, .ref h), (1, .int (nI s1)), (2, .int (nI k)), (3, .int (nI (f 14 s1)))] := by
            have heq0 : (.int (zI (sOnA f s1 k (j + 1))) : Value) = .int (zI (sOnA f s1 k j)) := congrArg Value.int (congrArg zI (if_neg (by rw [c_50]; decide)))
            rw [heq0]
            exact hl
          exact ih13  (j + 1) (by omega) (by omega) _ (lv_sub hl [2, 3, 4, 5, 1, 0] rfl)
        · refine lv_iload hx hb dX6_strokeOn_53 (lv_at hl 5 rfl) ?_
          refine lv_goto (tgt := 60) hx hb dX6_strokeOn_55 (by decide) ?_
          refine lv_istore (lv' := [(4, .int (nI j)), (0, .ref h), (1, .int (nI s1)), (2, .int (nI k)), (3, .int (nI (f 14 s1))), (5, .int (nI j))]) hx hb dX6_strokeOn_60 hl (by decide) rfl (fun ls hl => ?_)
          refine n_iinc (x := j) (k := 1) (lv' := [(5, .int (nI (j + 1))), (4, .int (nI j)), (0, .ref h), (1, .int (nI s1)), (2, .int (nI k)), (3, .int (nI (f 14 s1)))]) hx hb dX6_strokeOn_62 rfl hl (q := 5) rfl (by decide) rfl (fun ls hl => ?_)
          refine lv_goto (tgt := 13) hx hb dX6_strokeOn_65 (by decide) ?_
          have hl : lv_has ls 6 [(5, .int (nI (j + 1))), (4, .int (zI (sOnA f s1 k (j + 1)))), (0, .ref h), (1, .int (nI s1)), (2, .int (nI k)), (3, .int (nI (f 14 s1)))] := by
            have heq0 : (.int (zI (sOnA f s1 k (j + 1))) : Value) = .int (nI j) := congrArg Value.int (congrArg zI (if_pos c_50))
            rw [heq0]
            exact hl
          exact ih13  (j + 1) (by omega) (by omega) _ (lv_sub hl [2, 3, 4, 5, 1, 0] rfl)
  exact K13 (6 - 0 + 1) 0 (Nat.lt_succ_self _) (Nat.zero_le _) _ (lv_sub hl [3, 4, 5, 2, 1, 0] rfl)
end
section
set_option maxRecDepth 100000 in
set_option maxHeartbeats 4000000 in
/-- counts(s, k) -/
theorem c_X6_counts (l : Launch) (D : va_G) (cy : Nat → ClassId) (M : mM) (h : Nat) (ad : Nat → Nat) (t : Nat) (i : Nat → Nat) (f : Nat → Nat → Nat) (nc : Nat) (s1 k : Nat) (hW : MW cy M h ad t i f) (hI : MI nc i f) (hs : s1 < 40) (hk : k < 8) : mR l yX6_counts wsX6_counts ({ frames := 2, cells := 0, slots := 0, locals := 46 } : Room) D cy M [.ref h, .int (nI s1), .int (nI k)] (fun r => r = nI (b2 (cnts f s1 k))) := by
  refine mR.of (cc := cX6_counts) (maxL := 5) (ret := (some .boolean)) (by decide) rfl (Nat.le_of_ble_eq_true rfl) ?_
  intro p e s m args below meth c ls hx hb hr hts hown hlocks hml hP hK hl
  have hl : lv_has ls 5 [(0, .ref h), (1, .int (nI s1)), (2, .int (nI k))] := hl
  have hown : s.vm.findClass RX6 = some m.cls := hown
  have hwX6 : ∀ w ∈ wsX60, w.before args s = true := fun w h => hts w (List.mem_cons_of_mem _ (List.mem_append_right _ (h)))
  refine lv_aload_n hx hb dX6_counts_0 rfl (lv_at hl 0 rfl) ?_
  refine lv_iload_n hx hb dX6_counts_1 rfl (lv_at hl 1 rfl) ?_
  refine lv_iload_n hx hb dX6_counts_2 rfl (lv_at hl 2 rfl) ?_
  refine vp_callSi (W.runV (C := RX6) (As := [.int (nI s1), .int (nI k)]) (rest := []) ⟨hx, hb, hml, hown, hts⟩ (c_X6_strokeOn l D cy _ h ad t i f nc s1 k hW hI (by omega) (by omega)) (cwV 2 hts gX6_counts_X6_strokeOn rfl rfl rfl (by decide +kernel) ⟨Nat.le_of_ble_eq_true rfl, Nat.le_of_ble_eq_true rfl⟩) (mPreV hK hP hW.1 (ci := 7) rfl) rfl rfl hl.1 rfl (lv_room (Nat.le_of_ble_eq_true rfl)) dX6_counts_3 ⟨Nat.le_of_ble_eq_true rfl, Nat.le_of_ble_eq_true rfl⟩) (fun r9 hr9 => ?_)
  have hr9 : r9 = (zI (sOn f s1 k)) := hr9
  subst hr9
  have bs_1 : -1 ≤ sOn f s1 k ∧ sOn f s1 k < 6 := sOn_bd hI _ _
  refine lv_iconst (v := (zI (-1))) hx hb dX6_counts_6 (by decide) ?_
  refine z_icmp_eq (u := (sOn f s1 k)) (v := (-1)) (tgt := 14) hx hb (zI_toInt (by omega) (by omega)) (zI_toInt (by omega) (by omega)) dX6_counts_7 (by decide) (fun c_7 => ?_) (fun c_7 => ?_)
  · refine lv_iconst (v := (nI 0)) hx hb dX6_counts_14 (by decide) ?_
    refine lv_istore_n (lv' := [(3, .int (nI 0)), (0, .ref h), (1, .int (nI s1)), (2, .int (nI k))]) hx hb dX6_counts_15 rfl hl (by decide) rfl (fun ls hl => ?_)
    refine lv_iconst (v := (nI 0)) hx hb dX6_counts_16 (by decide) ?_
    refine lv_istore (lv' := [(4, .int (nI 0)), (3, .int (nI 0)), (0, .ref h), (1, .int (nI s1)), (2, .int (nI k))]) hx hb dX6_counts_17 hl (by decide) rfl (fun ls hl => ?_)
    have K19 : ∀ (n : Nat) (j : Nat), 8 - j < n → (j ≤ k) → ∀ (ls : Array Slot), lv_has ls 5 [(0, .ref h), (1, .int (nI s1)), (2, .int (nI k)), (3, .int (nI (b2 (cntsA f s1 k j)))), (4, .int (nI j))] → W p l e ({ frames := 2, cells := 0, slots := 0, locals := 46 } : Room) s m args below meth c s.heap [] 0 0 (MQ below (vp_Si (fun r => r = nI (b2 (cnts f s1 k)))) args s 0 0 (fun _ => False)) (F0 m 19 ls []) := by
      intro n
      induction n with
      | zero => intro j hn; exact absurd hn (by omega)
      | succ n ih19 =>
        intro j hn19 i19_0 ls hl
        refine lv_iload hx hb dX6_counts_19 (lv_at hl 4 rfl) ?_
        refine lv_iload_n hx hb dX6_counts_21 rfl (lv_at hl 2 rfl) ?_
        refine z_icmp_ge (u := ((j : Nat) : Int)) (v := ((k : Nat) : Int)) (tgt := 57) hx hb (nI_toInt (by omega)) (nI_toInt (by omega)) dX6_counts_22 (by decide) (fun c_22 => ?_) (fun c_22 => ?_)
        · refine lv_iload_n hx hb dX6_counts_57 rfl (lv_at hl 3 rfl) ?_
          exact e_rz hx hb hr hlocks (by first | decide | exact b2_le _ | omega) ((show nI (b2 (cntsA f s1 k j)) = nI (b2 (cnts f s1 k)) by unfold cnts; rw [show j = k by omega])) dX6_counts_58
        · refine lv_iload_n hx hb dX6_counts_25 rfl (lv_at hl 3 rfl) ?_
          refine b_if_eq (b := cntsA f s1 k j) (tgt := 49) hx hb dX6_counts_26 (by decide) (fun c_26 => ?_) (fun c_26 => ?_)
          · refine lv_iconst (v := (nI 0)) hx hb dX6_counts_49 (by decide) ?_
            refine lv_istore_n (lv' := [(3, .int (nI 0)), (0, .ref h), (1, .int (nI s1)), (2, .int (nI k)), (4, .int (nI j))]) hx hb dX6_counts_50 rfl hl (by decide) rfl (fun ls hl => ?_)
            refine n_iinc (x := j) (k := 1) (lv' := [(4, .int (nI (j + 1))), (3, .int (nI 0)), (0, .ref h), (1, .int (nI s1)), (2, .int (nI k))]) hx hb dX6_counts_51 rfl hl (q := 4) rfl (by decide) rfl (fun ls hl => ?_)
            refine lv_goto (tgt := 19) hx hb dX6_counts_54 (by decide) ?_
            have hl : lv_has ls 5 [(4, .int (nI (j + 1))), (3, .int (nI (b2 (cntsA f s1 k (j + 1))))), (0, .ref h), (1, .int (nI s1)), (2, .int (nI k))] := by
              have heq0 : (.int (nI (b2 (cntsA f s1 k (j + 1)))) : Value) = .int (nI 0) := congrArg Value.int (by first | (exact b2_f (by rw [cntsA, c_26]; rfl)) | (exact b2_t (by rw [cntsA, c_26, decide_eq_true (by omega)]; rfl)) | (exact b2_f (by rw [cntsA, c_26, decide_eq_false (by omega)]; rfl)))
              rw [heq0]
              exact hl
            exact ih19  (j + 1) (by omega) (by omega) _ (lv_sub hl [2, 3, 4, 1, 0] rfl)
          · refine lv_aload_n hx hb dX6_counts_29 rfl (lv_at hl 0 rfl) ?_
            refine lv_iload_n hx hb dX6_counts_30 rfl (lv_at hl 1 rfl) ?_
            refine lv_iload hx hb dX6_counts_31 (lv_at hl 4 rfl) ?_
            refine vp_callSi (W.runV (C := RX6) (As := [.int (nI s1), .int (nI j)]) (rest := []) ⟨hx, hb, hml, hown, hts⟩ (c_X6_strokeOn l D cy _ h ad t i f nc s1 j hW hI (by omega) (by omega)) (cwV 2 hts gX6_counts_X6_strokeOn rfl rfl rfl (by decide +kernel) ⟨Nat.le_of_ble_eq_true rfl, Nat.le_of_ble_eq_true rfl⟩) (mPreV hK hP hW.1 (ci := 7) rfl) rfl rfl hl.1 rfl (lv_room (Nat.le_of_ble_eq_true rfl)) dX6_counts_33 ⟨Nat.le_of_ble_eq_true rfl, Nat.le_of_ble_eq_true rfl⟩) (fun r9 hr9 => ?_)
            have hr9 : r9 = (zI (sOn f s1 j)) := hr9
            subst hr9
            have bs_2 : -1 ≤ sOn f s1 j ∧ sOn f s1 j < 6 := sOn_bd hI _ _
            refine lv_aload_n hx hb dX6_counts_36 rfl (lv_at hl 0 rfl) ?_
            refine lv_iload_n hx hb dX6_counts_37 rfl (lv_at hl 1 rfl) ?_
            refine lv_iload_n hx hb dX6_counts_38 rfl (lv_at hl 2 rfl) ?_
            refine vp_callSi (W.runV (C := RX6) (As := [.int (nI s1), .int (nI k)]) (rest := [.int (zI (sOn f s1 j))]) ⟨hx, hb, hml, hown, hts⟩ (c_X6_strokeOn l D cy _ h ad t i f nc s1 k hW hI (by omega) (by omega)) (cwV 2 hts gX6_counts_X6_strokeOn rfl rfl rfl (by decide +kernel) ⟨Nat.le_of_ble_eq_true rfl, Nat.le_of_ble_eq_true rfl⟩) (mPreV hK hP hW.1 (ci := 7) rfl) rfl rfl hl.1 rfl (lv_room (Nat.le_of_ble_eq_true rfl)) dX6_counts_39 ⟨Nat.le_of_ble_eq_true rfl, Nat.le_of_ble_eq_true rfl⟩) (fun r9 hr9 => ?_)
            have hr9 : r9 = (zI (sOn f s1 k)) := hr9
            subst hr9
            have bs_3 : -1 ≤ sOn f s1 k ∧ sOn f s1 k < 6 := sOn_bd hI _ _
            refine z_icmp_eq (u := (sOn f s1 j)) (v := (sOn f s1 k)) (tgt := 49) hx hb (zI_toInt (by omega) (by omega)) (zI_toInt (by omega) (by omega)) dX6_counts_42 (by decide) (fun c_42 => ?_) (fun c_42 => ?_)
            · refine lv_iconst (v := (nI 0)) hx hb dX6_counts_49 (by decide) ?_
              refine lv_istore_n (lv' := [(3, .int (nI 0)), (0, .ref h), (1, .int (nI s1)), (2, .int (nI k)), (4, .int (nI j))]) hx hb dX6_counts_50 rfl hl (by decide) rfl (fun ls hl => ?_)
              refine n_iinc (x := j) (k := 1) (lv' := [(4, .int (nI (j + 1))), (3, .int (nI 0)), (0, .ref h), (1, .int (nI s1)), (2, .int (nI k))]) hx hb dX6_counts_51 rfl hl (q := 4) rfl (by decide) rfl (fun ls hl => ?_)
              refine lv_goto (tgt := 19) hx hb dX6_counts_54 (by decide) ?_
              have hl : lv_has ls 5 [(4, .int (nI (j + 1))), (3, .int (nI (b2 (cntsA f s1 k (j + 1))))), (0, .ref h), (1, .int (nI s1)), (2, .int (nI k))] := by
                have heq0 : (.int (nI (b2 (cntsA f s1 k (j + 1)))) : Value) = .int (nI 0) := congrArg Value.int (by first | (exact b2_f (by rw [cntsA, c_26]; rfl)) | (exact b2_t (by rw [cntsA, c_26, decide_eq_true (by omega)]; rfl)) | (exact b2_f (by rw [cntsA, c_26, decide_eq_false (by omega)]; rfl)))
                rw [heq0]
                exact hl
              exact ih19  (j + 1) (by omega) (by omega) _ (lv_sub hl [2, 3, 4, 1, 0] rfl)
            · refine lv_iconst (v := (nI 1)) hx hb dX6_counts_45 (by decide) ?_
              refine lv_goto (tgt := 50) hx hb dX6_counts_46 (by decide) ?_
              refine lv_istore_n (lv' := [(3, .int (nI 1)), (0, .ref h), (1, .int (nI s1)), (2, .int (nI k)), (4, .int (nI j))]) hx hb dX6_counts_50 rfl hl (by decide) rfl (fun ls hl => ?_)
              refine n_iinc (x := j) (k := 1) (lv' := [(4, .int (nI (j + 1))), (3, .int (nI 1)), (0, .ref h), (1, .int (nI s1)), (2, .int (nI k))]) hx hb dX6_counts_51 rfl hl (q := 4) rfl (by decide) rfl (fun ls hl => ?_)
              refine lv_goto (tgt := 19) hx hb dX6_counts_54 (by decide) ?_
              have hl : lv_has ls 5 [(4, .int (nI (j + 1))), (3, .int (nI (b2 (cntsA f s1 k (j + 1))))), (0, .ref h), (1, .int (nI s1)), (2, .int (nI k))] := by
                have heq0 : (.int (nI (b2 (cntsA f s1 k (j + 1)))) : Value) = .int (nI 1) := congrArg Value.int (by first | (exact b2_f (by rw [cntsA, c_26]; rfl)) | (exact b2_t (by rw [cntsA, c_26, decide_eq_true (by omega)]; rfl)) | (exact b2_f (by rw [cntsA, c_26, decide_eq_false (by omega)]; rfl)))
                rw [heq0]
                exact hl
              exact ih19  (j + 1) (by omega) (by omega) _ (lv_sub hl [2, 3, 4, 1, 0] rfl)
    have hl : lv_has ls 5 [(4, .int (nI 0)), (3, .int (nI (b2 (cntsA f s1 k 0)))), (0, .ref h), (1, .int (nI s1)), (2, .int (nI k))] := by
      have heq0 : (.int (nI (b2 (cntsA f s1 k 0))) : Value) = .int (nI 0) := congrArg Value.int (b2_n (by omega))
      rw [heq0]
      exact hl
    exact K19 (8 - 0 + 1) 0 (Nat.lt_succ_self _) (Nat.zero_le _) _ (lv_sub hl [2, 3, 4, 1, 0] rfl)
  · refine lv_iconst (v := (nI 1)) hx hb dX6_counts_10 (by decide) ?_
    refine lv_goto (tgt := 15) hx hb dX6_counts_11 (by decide) ?_
    refine lv_istore_n (lv' := [(3, .int (nI 1)), (0, .ref h), (1, .int (nI s1)), (2, .int (nI k))]) hx hb dX6_counts_15 rfl hl (by decide) rfl (fun ls hl => ?_)
    refine lv_iconst (v := (nI 0)) hx hb dX6_counts_16 (by decide) ?_
    refine lv_istore (lv' := [(4, .int (nI 0)), (3, .int (nI 1)), (0, .ref h), (1, .int (nI s1)), (2, .int (nI k))]) hx hb dX6_counts_17 hl (by decide) rfl (fun ls hl => ?_)
    have K19 : ∀ (n : Nat) (j : Nat), 8 - j < n → (j ≤ k) → ∀ (ls : Array Slot), lv_has ls 5 [(0, .ref h), (1, .int (nI s1)), (2, .int (nI k)), (3, .int (nI (b2 (cntsA f s1 k j)))), (4, .int (nI j))] → W p l e ({ frames := 2, cells := 0, slots := 0, locals := 46 } : Room) s m args below meth c s.heap [] 0 0 (MQ below (vp_Si (fun r => r = nI (b2 (cnts f s1 k)))) args s 0 0 (fun _ => False)) (F0 m 19 ls []) := by
      intro n
      induction n with
      | zero => intro j hn; exact absurd hn (by omega)
      | succ n ih19 =>
        intro j hn19 i19_0 ls hl
        refine lv_iload hx hb dX6_counts_19 (lv_at hl 4 rfl) ?_
        refine lv_iload_n hx hb dX6_counts_21 rfl (lv_at hl 2 rfl) ?_
        refine z_icmp_ge (u := ((j : Nat) : Int)) (v := ((k : Nat) : Int)) (tgt := 57) hx hb (nI_toInt (by omega)) (nI_toInt (by omega)) dX6_counts_22 (by decide) (fun c_22 => ?_) (fun c_22 => ?_)
        · refine lv_iload_n hx hb dX6_counts_57 rfl (lv_at hl 3 rfl) ?_
          exact e_rz hx hb hr hlocks (by first | decide | exact b2_le _ | omega) ((show nI (b2 (cntsA f s1 k j)) = nI (b2 (cnts f s1 k)) by unfold cnts; rw [show j = k by omega])) dX6_counts_58
        · refine lv_iload_n hx hb dX6_counts_25 rfl (lv_at hl 3 rfl) ?_
          refine b_if_eq (b := cntsA f s1 k j) (tgt := 49) hx hb dX6_counts_26 (by decide) (fun c_26 => ?_) (fun c_26 => ?_)
          · refine lv_iconst (v := (nI 0)) hx hb dX6_counts_49 (by decide) ?_
            refine lv_istore_n (lv' := [(3, .int (nI 0)), (0, .ref h), (1, .int (nI s1)), (2, .int (nI k)), (4, .int (nI j))]) hx hb dX6_counts_50 rfl hl (by decide) rfl (fun ls hl => ?_)
            refine n_iinc (x := j) (k := 1) (lv' := [(4, .int (nI (j + 1))), (3, .int (nI 0)), (0, .ref h), (1, .int (nI s1)), (2, .int (nI k))]) hx hb dX6_counts_51 rfl hl (q := 4) rfl (by decide) rfl (fun ls hl => ?_)
            refine lv_goto (tgt := 19) hx hb dX6_counts_54 (by decide) ?_
            have hl : lv_has ls 5 [(4, .int (nI (j + 1))), (3, .int (nI (b2 (cntsA f s1 k (j + 1))))), (0, .ref h), (1, .int (nI s1)), (2, .int (nI k))] := by
              have heq0 : (.int (nI (b2 (cntsA f s1 k (j + 1)))) : Value) = .int (nI 0) := congrArg Value.int (by first | (exact b2_f (by rw [cntsA, c_26]; rfl)) | (exact b2_t (by rw [cntsA, c_26, decide_eq_true (by omega)]; rfl)) | (exact b2_f (by rw [cntsA, c_26, decide_eq_false (by omega)]; rfl)))
              rw [heq0]
              exact hl
            exact ih19  (j + 1) (by omega) (by omega) _ (lv_sub hl [2, 3, 4, 1, 0] rfl)
          · refine lv_aload_n hx hb dX6_counts_29 rfl (lv_at hl 0 rfl) ?_
            refine lv_iload_n hx hb dX6_counts_30 rfl (lv_at hl 1 rfl) ?_
            refine lv_iload hx hb dX6_counts_31 (lv_at hl 4 rfl) ?_
            refine vp_callSi (W.runV (C := RX6) (As := [.int (nI s1), .int (nI j)]) (rest := []) ⟨hx, hb, hml, hown, hts⟩ (c_X6_strokeOn l D cy _ h ad t i f nc s1 j hW hI (by omega) (by omega)) (cwV 2 hts gX6_counts_X6_strokeOn rfl rfl rfl (by decide +kernel) ⟨Nat.le_of_ble_eq_true rfl, Nat.le_of_ble_eq_true rfl⟩) (mPreV hK hP hW.1 (ci := 7) rfl) rfl rfl hl.1 rfl (lv_room (Nat.le_of_ble_eq_true rfl)) dX6_counts_33 ⟨Nat.le_of_ble_eq_true rfl, Nat.le_of_ble_eq_true rfl⟩) (fun r9 hr9 => ?_)
            have hr9 : r9 = (zI (sOn f s1 j)) := hr9
            subst hr9
            have bs_4 : -1 ≤ sOn f s1 j ∧ sOn f s1 j < 6 := sOn_bd hI _ _
            refine lv_aload_n hx hb dX6_counts_36 rfl (lv_at hl 0 rfl) ?_
            refine lv_iload_n hx hb dX6_counts_37 rfl (lv_at hl 1 rfl) ?_
            refine lv_iload_n hx hb dX6_counts_38 rfl (lv_at hl 2 rfl) ?_
            refine vp_callSi (W.runV (C := RX6) (As := [.int (nI s1), .int (nI k)]) (rest := [.int (zI (sOn f s1 j))]) ⟨hx, hb, hml, hown, hts⟩ (c_X6_strokeOn l D cy _ h ad t i f nc s1 k hW hI (by omega) (by omega)) (cwV 2 hts gX6_counts_X6_strokeOn rfl rfl rfl (by decide +kernel) ⟨Nat.le_of_ble_eq_true rfl, Nat.le_of_ble_eq_true rfl⟩) (mPreV hK hP hW.1 (ci := 7) rfl) rfl rfl hl.1 rfl (lv_room (Nat.le_of_ble_eq_true rfl)) dX6_counts_39 ⟨Nat.le_of_ble_eq_true rfl, Nat.le_of_ble_eq_true rfl⟩) (fun r9 hr9 => ?_)
            have hr9 : r9 = (zI (sOn f s1 k)) := hr9
            subst hr9
            have bs_5 : -1 ≤ sOn f s1 k ∧ sOn f s1 k < 6 := sOn_bd hI _ _
            refine z_icmp_eq (u := (sOn f s1 j)) (v := (sOn f s1 k)) (tgt := 49) hx hb (zI_toInt (by omega) (by omega)) (zI_toInt (by omega) (by omega)) dX6_counts_42 (by decide) (fun c_42 => ?_) (fun c_42 => ?_)
            · refine lv_iconst (v := (nI 0)) hx hb dX6_counts_49 (by decide) ?_
              refine lv_istore_n (lv' := [(3, .int (nI 0)), (0, .ref h), (1, .int (nI s1)), (2, .int (nI k)), (4, .int (nI j))]) hx hb dX6_counts_50 rfl hl (by decide) rfl (fun ls hl => ?_)
              refine n_iinc (x := j) (k := 1) (lv' := [(4, .int (nI (j + 1))), (3, .int (nI 0)), (0, .ref h), (1, .int (nI s1)), (2, .int (nI k))]) hx hb dX6_counts_51 rfl hl (q := 4) rfl (by decide) rfl (fun ls hl => ?_)
              refine lv_goto (tgt := 19) hx hb dX6_counts_54 (by decide) ?_
              have hl : lv_has ls 5 [(4, .int (nI (j + 1))), (3, .int (nI (b2 (cntsA f s1 k (j + 1))))), (0, .ref h), (1, .int (nI s1)), (2, .int (nI k))] := by
                have heq0 : (.int (nI (b2 (cntsA f s1 k (j + 1)))) : Value) = .int (nI 0) := congrArg Value.int (by first | (exact b2_f (by rw [cntsA, c_26]; rfl)) | (exact b2_t (by rw [cntsA, c_26, decide_eq_true (by omega)]; rfl)) | (exact b2_f (by rw [cntsA, c_26, decide_eq_false (by omega)]; rfl)))
                rw [heq0]
                exact hl
              exact ih19  (j + 1) (by omega) (by omega) _ (lv_sub hl [2, 3, 4, 1, 0] rfl)
            · refine lv_iconst (v := (nI 1)) hx hb dX6_counts_45 (by decide) ?_
              refine lv_goto (tgt := 50) hx hb dX6_counts_46 (by decide) ?_
              refine lv_istore_n (lv' := [(3, .int (nI 1)), (0, .ref h), (1, .int (nI s1)), (2, .int (nI k)), (4, .int (nI j))]) hx hb dX6_counts_50 rfl hl (by decide) rfl (fun ls hl => ?_)
              refine n_iinc (x := j) (k := 1) (lv' := [(4, .int (nI (j + 1))), (3, .int (nI 1)), (0, .ref h), (1, .int (nI s1)), (2, .int (nI k))]) hx hb dX6_counts_51 rfl hl (q := 4) rfl (by decide) rfl (fun ls hl => ?_)
              refine lv_goto (tgt := 19) hx hb dX6_counts_54 (by decide) ?_
              have hl : lv_has ls 5 [(4, .int (nI (j + 1))), (3, .int (nI (b2 (cntsA f s1 k (j + 1))))), (0, .ref h), (1, .int (nI s1)), (2, .int (nI k))] := by
                have heq0 : (.int (nI (b2 (cntsA f s1 k (j + 1)))) : Value) = .int (nI 1) := congrArg Value.int (by first | (exact b2_f (by rw [cntsA, c_26]; rfl)) | (exact b2_t (by rw [cntsA, c_26, decide_eq_true (by omega)]; rfl)) | (exact b2_f (by rw [cntsA, c_26, decide_eq_false (by omega)]; rfl)))
                rw [heq0]
                exact hl
              exact ih19  (j + 1) (by omega) (by omega) _ (lv_sub hl [2, 3, 4, 1, 0] rfl)
    have hl : lv_has ls 5 [(4, .int (nI 0)), (3, .int (nI (b2 (cntsA f s1 k 0)))), (0, .ref h), (1, .int (nI s1)), (2, .int (nI k))] := by
      have heq0 : (.int (nI (b2 (cntsA f s1 k 0))) : Value) = .int (nI 1) := congrArg Value.int (b2_d (by omega))
      rw [heq0]
      exact hl
    exact K19 (8 - 0 + 1) 0 (Nat.lt_succ_self _) (Nat.zero_le _) _ (lv_sub hl [2, 3, 4, 1, 0] rfl)

set_option maxRecDepth 100000 in
set_option maxHeartbeats 4000000 in
/-- counting -/
theorem c_X6_counting (l : Launch) (D : va_G) (cy : Nat → ClassId) (M : mM) (h : Nat) (ad : Nat → Nat) (t : Nat) (i : Nat → Nat) (f : Nat → Nat → Nat) (nc : Nat) (s1 : Nat) (hW : MW cy M h ad t i f) (hI : MI nc i f) (hs : s1 < 40) : mR l yX6_counting wsX6_counting ({ frames := 3, cells := 0, slots := 0, locals := 70 } : Room) D cy M [.ref h, .int (nI s1)] (fun r => r = nI (count f s1)) := by
  refine mR.of (cc := cX6_counting) (maxL := 4) (ret := (some .int)) (by decide) rfl (Nat.le_of_ble_eq_true rfl) ?_
  intro p e s m args below meth c ls hx hb hr hts hown hlocks hml hP hK hl
  have hl : lv_has ls 4 [(0, .ref h), (1, .int (nI s1))] := hl
  have hown : s.vm.findClass RX6 = some m.cls := hown
  have hwX6 : ∀ w ∈ wsX60, w.before args s = true := fun w h => hts w (List.mem_cons_of_mem _ (List.mem_append_right _ (h)))
  refine lv_iconst (v := (nI 0)) hx hb dX6_counting_0 (by decide) ?_
  refine lv_istore_n (lv' := [(2, .int (nI 0)), (0, .ref h), (1, .int (nI s1))]) hx hb dX6_counting_1 rfl hl (by decide) rfl (fun ls hl => ?_)
  refine lv_iconst (v := (nI 0)) hx hb dX6_counting_2 (by decide) ?_
  refine lv_istore_n (lv' := [(3, .int (nI 0)), (2, .int (nI 0)), (0, .ref h), (1, .int (nI s1))]) hx hb dX6_counting_3 rfl hl (by decide) rfl (fun ls hl => ?_)
  have K4 : ∀ (n : Nat) (j : Nat), 8 - j < n → (j ≤ f 12 s1) → ∀ (ls : Array Slot), lv_has ls 4 [(0, .ref h), (1, .int (nI s1)), (2, .int (nI (countA f s1 j))), (3, .int (nI j))] → W p l e ({ frames := 3, cells := 0, slots := 0, locals := 70 } : Room) s m args below meth c s.heap [] 0 0 (MQ below (vp_Si (fun r => r = nI (count f s1))) args s 0 0 (fun _ => False)) (F0 m 4 ls []) := by
    intro n
    induction n with
    | zero => intro j hn; exact absurd hn (by omega)
    | succ n ih4 =>
      intro j hn4 i4_0 ls hl
      have hle := countA_le f s1 j
      refine lv_iload_n hx hb dX6_counting_4 rfl (lv_at hl 3 rfl) ?_
      refine lv_aload_n hx hb dX6_counting_5 rfl (lv_at hl 0 rfl) ?_
      refine m_get (T := TX6) (N := 24) (ci := 7) (fs := (moF ad t i)) hx hb hwX6 hown hK hP hW.1 rfl 12 (by decide) (hts _ (List.mem_of_getElem? (i := 1) rfl)) (v := .ref (ad 12)) rfl dX6_counting_6 ?_
      refine lv_iload_n hx hb dX6_counting_9 rfl (lv_at hl 1 rfl) ?_
      have bd_1 : (f 12) s1 ≤ 8 := hI.2.2.2.2.2 12 s1
      refine n_iald (g := (f 12)) (n := 40) (i := s1) hx hb hK hP (hW.2.1 12 (by decide)) (by omega) (by omega) dX6_counting_10 ?_
      refine z_icmp_ge (u := ((j : Nat) : Int)) (v := (((f 12) s1 : Nat) : Int)) (tgt := 37) hx hb (nI_toInt (by omega)) (nI_toInt (by omega)) dX6_counting_11 (by decide) (fun c_11 => ?_) (fun c_11 => ?_)
      · refine lv_iload_n hx hb dX6_counting_37 rfl (lv_at hl 2 rfl) ?_
        exact e_ri hx hb hr hlocks ((show nI (countA f s1 j) = nI (count f s1) by unfold count; rw [show f 12 s1 = j by omega])) dX6_counting_38
      · refine lv_iload_n hx hb dX6_counting_14 rfl (lv_at hl 2 rfl) ?_
        refine lv_aload_n hx hb dX6_counting_15 rfl (lv_at hl 0 rfl) ?_
        refine lv_iload_n hx hb dX6_counting_16 rfl (lv_at hl 1 rfl) ?_
        refine lv_iload_n hx hb dX6_counting_17 rfl (lv_at hl 3 rfl) ?_
        refine vp_callSi (W.runV (C := RX6) (As := [.int (nI s1), .int (nI j)]) (rest := [.int (nI (countA f s1 j))]) ⟨hx, hb, hml, hown, hts⟩ (c_X6_counts l D cy _ h ad t i f nc s1 j hW hI (by omega) (by omega)) (cwV 2 hts gX6_counting_X6_counts rfl rfl rfl (by decide +kernel) ⟨Nat.le_of_ble_eq_true rfl, Nat.le_of_ble_eq_true rfl⟩) (mPreV hK hP hW.1 (ci := 7) rfl) rfl rfl hl.1 rfl (lv_room (Nat.le_of_ble_eq_true rfl)) dX6_counting_18 ⟨Nat.le_of_ble_eq_true rfl, Nat.le_of_ble_eq_true rfl⟩) (fun r9 hr9 => ?_)
        have hr9 : r9 = (nI (b2 (cnts f s1 j))) := hr9
        subst hr9
        refine b_if_eq (b := cnts f s1 j) (tgt := 28) hx hb dX6_counting_21 (by decide) (fun c_21 => ?_) (fun c_21 => ?_)
        · refine lv_iconst (v := (nI 0)) hx hb dX6_counting_28 (by decide) ?_
          refine n_add (x := countA f s1 j) (y := 0) hx hb dX6_counting_29 ?_
          refine lv_istore_n (lv' := [(2, .int (nI ((countA f s1 j) + 0))), (0, .ref h), (1, .int (nI s1)), (3, .int (nI j))]) hx hb dX6_counting_30 rfl hl (by decide) rfl (fun ls hl => ?_)
          refine n_iinc (x := j) (k := 1) (lv' := [(3, .int (nI (j + 1))), (2, .int (nI ((countA f s1 j) + 0))), (0, .ref h), (1, .int (nI s1))]) hx hb dX6_counting_31 rfl hl (q := 3) rfl (by decide) rfl (fun ls hl => ?_)
          refine lv_goto (tgt := 4) hx hb dX6_counting_34 (by decide) ?_
          have hl : lv_has ls 4 [(3, .int (nI (j + 1))), (2, .int (nI (countA f s1 (j + 1)))), (0, .ref h), (1, .int (nI s1))] := by
            have heq0 : (.int (nI (countA f s1 (j + 1))) : Value) = .int (nI ((countA f s1 j) + 0)) := congrArg Value.int (congrArg nI (by show countA f s1 j + b2 (cnts f s1 j) = _; rw [c_21]; rfl))
            rw [heq0]
            exact hl
          exact ih4  (j + 1) (by omega) (by omega) _ (lv_sub hl [2, 3, 1, 0] rfl)
        · refine lv_iconst (v := (nI 1)) hx hb dX6_counting_24 (by decide) ?_
          refine lv_goto (tgt := 29) hx hb dX6_counting_25 (by decide) ?_
          refine n_add (x := countA f s1 j) (y := 1) hx hb dX6_counting_29 ?_
          refine lv_istore_n (lv' := [(2, .int (nI ((countA f s1 j) + 1))), (0, .ref h), (1, .int (nI s1)), (3, .int (nI j))]) hx hb dX6_counting_30 rfl hl (by decide) rfl (fun ls hl => ?_)
          refine n_iinc (x := j) (k := 1) (lv' := [(3, .int (nI (j + 1))), (2, .int (nI ((countA f s1 j) + 1))), (0, .ref h), (1, .int (nI s1))]) hx hb dX6_counting_31 rfl hl (q := 3) rfl (by decide) rfl (fun ls hl => ?_)
          refine lv_goto (tgt := 4) hx hb dX6_counting_34 (by decide) ?_
          have hl : lv_has ls 4 [(3, .int (nI (j + 1))), (2, .int (nI (countA f s1 (j + 1)))), (0, .ref h), (1, .int (nI s1))] := by
            have heq0 : (.int (nI (countA f s1 (j + 1))) : Value) = .int (nI ((countA f s1 j) + 1)) := congrArg Value.int (congrArg nI (by show countA f s1 j + b2 (cnts f s1 j) = _; rw [c_21]; rfl))
            rw [heq0]
            exact hl
          exact ih4  (j + 1) (by omega) (by omega) _ (lv_sub hl [2, 3, 1, 0] rfl)
  exact K4 (8 - 0 + 1) 0 (Nat.lt_succ_self _) (Nat.zero_le _) _ (lv_sub hl [2, 3, 1, 0] rfl)

set_option maxRecDepth 100000 in
set_option maxHeartbeats 4000000 in
/-- turned -/
theorem c_X6_turned (l : Launch) (D : va_G) (cy : Nat → ClassId) (M : mM) (h : Nat) (ad : Nat → Nat) (t : Nat) (i : Nat → Nat) (f : Nat → Nat → Nat) (nc : Nat) (s1 : Nat) (hW : MW cy M h ad t i f) (hI : MI nc i f) (hs : s1 < 40) : mR l yX6_turned wsX6_turned ({ frames := 3, cells := 0, slots := 0, locals := 70 } : Room) D cy M [.ref h, .int (nI s1)] (fun r => r = nI (turn f s1)) := by
  refine mR.of (cc := cX6_turned) (maxL := 5) (ret := (some .int)) (by decide) rfl (Nat.le_of_ble_eq_true rfl) ?_
  intro p e s m args below meth c ls hx hb hr hts hown hlocks hml hP hK hl
  have hl : lv_has ls 5 [(0, .ref h), (1, .int (nI s1))] := hl
  have hown : s.vm.findClass RX6 = some m.cls := hown
  have hwX6 : ∀ w ∈ wsX60, w.before args s = true := fun w h => hts w (List.mem_cons_of_mem _ (List.mem_append_right _ (h)))
  refine lv_iconst (v := (nI 0)) hx hb dX6_turned_0 (by decide) ?_
  refine lv_istore_n (lv' := [(2, .int (nI 0)), (0, .ref h), (1, .int (nI s1))]) hx hb dX6_turned_1 rfl hl (by decide) rfl (fun ls hl => ?_)
  refine lv_iconst (v := (nI 0)) hx hb dX6_turned_2 (by decide) ?_
  refine lv_istore_n (lv' := [(3, .int (nI 0)), (2, .int (nI 0)), (0, .ref h), (1, .int (nI s1))]) hx hb dX6_turned_3 rfl hl (by decide) rfl (fun ls hl => ?_)
  have K4 : ∀ (n : Nat) (j : Nat), 8 - j < n → (j ≤ f 12 s1) → ∀ (ls : Array Slot), lv_has ls 5 [(0, .ref h), (1, .int (nI s1)), (2, .int (nI (turnA f s1 j))), (3, .int (nI j))] → W p l e ({ frames := 3, cells := 0, slots := 0, locals := 70 } : Room) s m args below meth c s.heap [] 0 0 (MQ below (vp_Si (fun r => r = nI (turn f s1))) args s 0 0 (fun _ => False)) (F0 m 4 ls []) := by
    intro n
    induction n with
    | zero => intro j hn; exact absurd hn (by omega)
    | succ n ih4 =>
      intro j hn4 i4_0 ls hl
      have hle := turnA_le f s1 j
      refine lv_iload_n hx hb dX6_turned_4 rfl (lv_at hl 3 rfl) ?_
      refine lv_aload_n hx hb dX6_turned_5 rfl (lv_at hl 0 rfl) ?_
      refine m_get (T := TX6) (N := 24) (ci := 7) (fs := (moF ad t i)) hx hb hwX6 hown hK hP hW.1 rfl 12 (by decide) (hts _ (List.mem_of_getElem? (i := 1) rfl)) (v := .ref (ad 12)) rfl dX6_turned_6 ?_
      refine lv_iload_n hx hb dX6_turned_9 rfl (lv_at hl 1 rfl) ?_
      have bd_1 : (f 12) s1 ≤ 8 := hI.2.2.2.2.2 12 s1
      refine n_iald (g := (f 12)) (n := 40) (i := s1) hx hb hK hP (hW.2.1 12 (by decide)) (by omega) (by omega) dX6_turned_10 ?_
      refine z_icmp_ge (u := ((j : Nat) : Int)) (v := (((f 12) s1 : Nat) : Int)) (tgt := 84) hx hb (nI_toInt (by omega)) (nI_toInt (by omega)) dX6_turned_11 (by decide) (fun c_11 => ?_) (fun c_11 => ?_)
      · refine lv_iload_n hx hb dX6_turned_84 rfl (lv_at hl 2 rfl) ?_
        exact e_ri hx hb hr hlocks ((show nI (turnA f s1 j) = nI (turn f s1) by unfold turn; rw [show f 12 s1 = j by omega])) dX6_turned_85
      · refine lv_aload_n hx hb dX6_turned_14 rfl (lv_at hl 0 rfl) ?_
        refine lv_iload_n hx hb dX6_turned_15 rfl (lv_at hl 1 rfl) ?_
        refine lv_iload_n hx hb dX6_turned_16 rfl (lv_at hl 3 rfl) ?_
        refine vp_callSi (W.runV (C := RX6) (As := [.int (nI s1), .int (nI j)]) (rest := []) ⟨hx, hb, hml, hown, hts⟩ (c_X6_counts l D cy _ h ad t i f nc s1 j hW hI (by omega) (by omega)) (cwV 2 hts gX6_turned_X6_counts rfl rfl rfl (by decide +kernel) ⟨Nat.le_of_ble_eq_true rfl, Nat.le_of_ble_eq_true rfl⟩) (mPreV hK hP hW.1 (ci := 7) rfl) rfl rfl hl.1 rfl (lv_room (Nat.le_of_ble_eq_true rfl)) dX6_turned_17 ⟨Nat.le_of_ble_eq_true rfl, Nat.le_of_ble_eq_true rfl⟩) (fun r9 hr9 => ?_)
        have hr9 : r9 = (nI (b2 (cnts f s1 j))) := hr9
        subst hr9
        refine b_if_eq (b := cnts f s1 j) (tgt := 62) hx hb dX6_turned_20 (by decide) (fun c_20 => ?_) (fun c_20 => ?_)
        · refine lv_iconst (v := (nI 0)) hx hb dX6_turned_62 (by decide) ?_
          refine lv_istore (lv' := [(4, .int (nI 0)), (0, .ref h), (1, .int (nI s1)), (2, .int (nI (turnA f s1 j))), (3, .int (nI j))]) hx hb dX6_turned_63 hl (by decide) rfl (fun ls hl => ?_)
          refine lv_iload_n hx hb dX6_turned_65 rfl (lv_at hl 3 rfl) ?_
          refine lv_iload hx hb dX6_turned_66 (lv_at hl 0 rfl) ?_
          refine k_if_eq_0 (tgt := 75) hx hb dX6_turned_68 (by decide) ?_
          refine lv_iconst (v := (nI 0)) hx hb dX6_turned_75 (by decide) ?_
          refine n_add (x := turnA f s1 j) (y := 0) hx hb dX6_turned_76 ?_
          refine lv_istore_n (lv' := [(2, .int (nI ((turnA f s1 j) + 0))), (4, .int (nI 0)), (0, .ref h), (1, .int (nI s1)), (3, .int (nI j))]) hx hb dX6_turned_77 rfl hl (by decide) rfl (fun ls hl => ?_)
          refine n_iinc (x := j) (k := 1) (lv' := [(3, .int (nI (j + 1))), (2, .int (nI ((turnA f s1 j) + 0))), (4, .int (nI 0)), (0, .ref h), (1, .int (nI s1))]) hx hb dX6_turned_78 rfl hl (q := 4) rfl (by decide) rfl (fun ls hl => ?_)
          refine lv_goto (tgt := 4) hx hb dX6_turned_81 (by decide) ?_
          have hl : lv_has ls 5 [(3, .int (nI (j + 1))), (2, .int (nI (turnA f s1 (j + 1)))), (4, .int (nI 0)), (0, .ref h), (1, .int (nI s1))] := by
            have heq0 : (.int (nI (turnA f s1 (j + 1))) : Value) = .int (nI ((turnA f s1 j) + 0)) := congrArg Value.int (congrArg nI (by show turnA f s1 j + b2 (turnsAt f s1 j) = _; unfold turnsAt; first | (rw [c_20]; rfl) | (rw [c_20, decide_eq_true (by omega)]; rfl) | (rw [c_20, decide_eq_false (by omega)]; rfl)))
            rw [heq0]
            exact hl
          exact ih4  (j + 1) (by omega) (by omega) _ (lv_sub hl [3, 4, 1, 0] rfl)
        · refine lv_aload_n hx hb dX6_turned_23 rfl (lv_at hl 0 rfl) ?_
          refine m_get (T := TX6) (N := 24) (ci := 7) (fs := (moF ad t i)) hx hb hwX6 hown hK hP hW.1 rfl 3 (by decide) (hts _ (List.mem_of_getElem? (i := 2) rfl)) (v := .ref (ad 3)) rfl dX6_turned_24 ?_
          refine lv_bipush (v := (nI 6)) hx hb dX6_turned_27 (by decide) ?_
          refine lv_aload_n hx hb dX6_turned_29 rfl (lv_at hl 0 rfl) ?_
          refine m_get (T := TX6) (N := 24) (ci := 7) (fs := (moF ad t i)) hx hb hwX6 hown hK hP hW.1 rfl 14 (by decide) (hts _ (List.mem_of_getElem? (i := 3) rfl)) (v := .ref (ad 14)) rfl dX6_turned_30 ?_
          refine lv_iload_n hx hb dX6_turned_33 rfl (lv_at hl 1 rfl) ?_
          have bd_2 : (f 14) s1 ≤ 9 := hI.2.2.2.2.2 14 s1
          refine n_iald (g := (f 14)) (n := 40) (i := s1) hx hb hK hP (hW.2.1 14 (by decide)) (by omega) (by omega) dX6_turned_34 ?_
          refine n_mul (x := 6) (y := (f 14) s1) hx hb dX6_turned_35 ?_
          refine lv_aload_n hx hb dX6_turned_36 rfl (lv_at hl 0 rfl) ?_
          refine lv_iload_n hx hb dX6_turned_37 rfl (lv_at hl 1 rfl) ?_
          refine lv_iload_n hx hb dX6_turned_38 rfl (lv_at hl 3 rfl) ?_
          refine vp_callSi (W.runV (C := RX6) (As := [.int (nI s1), .int (nI j)]) (rest := [.int (nI (6 * ((f 14) s1))), .ref (ad 3)]) ⟨hx, hb, hml, hown, hts⟩ (c_X6_strokeOn l D cy _ h ad t i f nc s1 j hW hI (by omega) (by omega)) (cwV 2 hts gX6_turned_X6_strokeOn rfl rfl rfl (by decide +kernel) ⟨Nat.le_of_ble_eq_true rfl, Nat.le_of_ble_eq_true rfl⟩) (mPreV hK hP hW.1 (ci := 7) rfl) rfl rfl hl.1 rfl (lv_room (Nat.le_of_ble_eq_true rfl)) dX6_turned_39 ⟨Nat.le_of_ble_eq_true rfl, Nat.le_of_ble_eq_true rfl⟩) (fun r9 hr9 => ?_)
          have hr9 : r9 = (zI (sOn f s1 j)) := hr9
          subst hr9
          have bs_3 : -1 ≤ sOn f s1 j ∧ sOn f s1 j < 6 := sOn_bd hI _ _
          have hne : sOn f s1 j ≠ -1 := cnts_ne c_20
          refine n_name (show (zI (sOn f s1 j)) = (nI ((sOn f s1 j).toNat)) from zI_nI (by omega)) ?_
          refine n_add (x := 6 * ((f 14) s1)) (y := (sOn f s1 j).toNat) hx hb dX6_turned_42 ?_
          have bd_4 : (f 3) ((6 * ((f 14) s1)) + ((sOn f s1 j).toNat)) ≤ 88 := hI.2.2.2.2.2 3 ((6 * ((f 14) s1)) + ((sOn f s1 j).toNat))
          refine n_iald (g := (f 3)) (n := 60) (i := (6 * ((f 14) s1)) + ((sOn f s1 j).toNat)) hx hb hK hP (hW.2.1 3 (by decide)) (by omega) (by omega) dX6_turned_43 ?_
          refine lv_aload_n hx hb dX6_turned_44 rfl (lv_at hl 0 rfl) ?_
          refine m_get (T := TX6) (N := 24) (ci := 7) (fs := (moF ad t i)) hx hb hwX6 hown hK hP hW.1 rfl 11 (by decide) (hts _ (List.mem_of_getElem? (i := 4) rfl)) (v := .ref (ad 11)) rfl dX6_turned_45 ?_
          refine lv_bipush (v := (nI 8)) hx hb dX6_turned_48 (by decide) ?_
          refine lv_iload_n hx hb dX6_turned_50 rfl (lv_at hl 1 rfl) ?_
          refine n_mul (x := 8) (y := s1) hx hb dX6_turned_51 ?_
          refine lv_iload_n hx hb dX6_turned_52 rfl (lv_at hl 3 rfl) ?_
          refine n_add (x := 8 * s1) (y := j) hx hb dX6_turned_53 ?_
          have bd_5 : (f 11) ((8 * s1) + j) ≤ 88 := hI.2.2.2.2.2 11 ((8 * s1) + j)
          refine n_iald (g := (f 11)) (n := 320) (i := (8 * s1) + j) hx hb hK hP (hW.2.1 11 (by decide)) (by omega) (by omega) dX6_turned_54 ?_
          refine z_icmp_eq (u := (((f 3) ((6 * ((f 14) s1)) + ((sOn f s1 j).toNat)) : Nat) : Int)) (v := (((f 11) ((8 * s1) + j) : Nat) : Int)) (tgt := 62) hx hb (nI_toInt (by omega)) (nI_toInt (by omega)) dX6_turned_55 (by decide) (fun c_55 => ?_) (fun c_55 => ?_)
          · refine lv_iconst (v := (nI 0)) hx hb dX6_turned_62 (by decide) ?_
            refine lv_istore (lv' := [(4, .int (nI 0)), (0, .ref h), (1, .int (nI s1)), (2, .int (nI (turnA f s1 j))), (3, .int (nI j))]) hx hb dX6_turned_63 hl (by decide) rfl (fun ls hl => ?_)
            refine lv_iload_n hx hb dX6_turned_65 rfl (lv_at hl 3 rfl) ?_
            refine lv_iload hx hb dX6_turned_66 (lv_at hl 0 rfl) ?_
            refine k_if_eq_0 (tgt := 75) hx hb dX6_turned_68 (by decide) ?_
            refine lv_iconst (v := (nI 0)) hx hb dX6_turned_75 (by decide) ?_
            refine n_add (x := turnA f s1 j) (y := 0) hx hb dX6_turned_76 ?_
            refine lv_istore_n (lv' := [(2, .int (nI ((turnA f s1 j) + 0))), (4, .int (nI 0)), (0, .ref h), (1, .int (nI s1)), (3, .int (nI j))]) hx hb dX6_turned_77 rfl hl (by decide) rfl (fun ls hl => ?_)
            refine n_iinc (x := j) (k := 1) (lv' := [(3, .int (nI (j + 1))), (2, .int (nI ((turnA f s1 j) + 0))), (4, .int (nI 0)), (0, .ref h), (1, .int (nI s1))]) hx hb dX6_turned_78 rfl hl (q := 4) rfl (by decide) rfl (fun ls hl => ?_)
            refine lv_goto (tgt := 4) hx hb dX6_turned_81 (by decide) ?_
            have hl : lv_has ls 5 [(3, .int (nI (j + 1))), (2, .int (nI (turnA f s1 (j + 1)))), (4, .int (nI 0)), (0, .ref h), (1, .int (nI s1))] := by
              have heq0 : (.int (nI (turnA f s1 (j + 1))) : Value) = .int (nI ((turnA f s1 j) + 0)) := congrArg Value.int (congrArg nI (by show turnA f s1 j + b2 (turnsAt f s1 j) = _; unfold turnsAt; first | (rw [c_20]; rfl) | (rw [c_20, decide_eq_true (by omega)]; rfl) | (rw [c_20, decide_eq_false (by omega)]; rfl)))
              rw [heq0]
              exact hl
            exact ih4  (j + 1) (by omega) (by omega) _ (lv_sub hl [3, 4, 1, 0] rfl)
          · refine lv_iconst (v := (nI 1)) hx hb dX6_turned_58 (by decide) ?_
            refine lv_goto (tgt := 63) hx hb dX6_turned_59 (by decide) ?_
            refine lv_istore (lv' := [(4, .int (nI 1)), (0, .ref h), (1, .int (nI s1)), (2, .int (nI (turnA f s1 j))), (3, .int (nI j))]) hx hb dX6_turned_63 hl (by decide) rfl (fun ls hl => ?_)
            refine lv_iload_n hx hb dX6_turned_65 rfl (lv_at hl 3 rfl) ?_
            refine lv_iload hx hb dX6_turned_66 (lv_at hl 0 rfl) ?_
            refine k_if_eq_1 (tgt := 75) hx hb dX6_turned_68 (by decide) ?_
            refine lv_iconst (v := (nI 1)) hx hb dX6_turned_71 (by decide) ?_
            refine lv_goto (tgt := 76) hx hb dX6_turned_72 (by decide) ?_
            refine n_add (x := turnA f s1 j) (y := 1) hx hb dX6_turned_76 ?_
            refine lv_istore_n (lv' := [(2, .int (nI ((turnA f s1 j) + 1))), (4, .int (nI 1)), (0, .ref h), (1, .int (nI s1)), (3, .int (nI j))]) hx hb dX6_turned_77 rfl hl (by decide) rfl (fun ls hl => ?_)
            refine n_iinc (x := j) (k := 1) (lv' := [(3, .int (nI (j + 1))), (2, .int (nI ((turnA f s1 j) + 1))), (4, .int (nI 1)), (0, .ref h), (1, .int (nI s1))]) hx hb dX6_turned_78 rfl hl (q := 4) rfl (by decide) rfl (fun ls hl => ?_)
            refine lv_goto (tgt := 4) hx hb dX6_turned_81 (by decide) ?_
            have hl : lv_has ls 5 [(3, .int (nI (j + 1))), (2, .int (nI (turnA f s1 (j + 1)))), (4, .int (nI 1)), (0, .ref h), (1, .int (nI s1))] := by
              have heq0 : (.int (nI (turnA f s1 (j + 1))) : Value) = .int (nI ((turnA f s1 j) + 1)) := congrArg Value.int (congrArg nI (by show turnA f s1 j + b2 (turnsAt f s1 j) = _; unfold turnsAt; first | (rw [c_20]; rfl) | (rw [c_20, decide_eq_true (by omega)]; rfl) | (rw [c_20, decide_eq_false (by omega)]; rfl)))
              rw [heq0]
              exact hl
            exact ih4  (j + 1) (by omega) (by omega) _ (lv_sub hl [3, 4, 1, 0] rfl)
  exact K4 (8 - 0 + 1) 0 (Nat.lt_succ_self _) (Nat.zero_le _) _ (lv_sub hl [2, 3, 1, 0] rfl)

set_option maxRecDepth 100000 in
set_option maxHeartbeats 4000000 in
/-- inOrder(s) -/
theorem c_X6_inOrder (l : Launch) (D : va_G) (cy : Nat → ClassId) (M : mM) (sz : Nat) (h : Nat) (ad : Nat → Nat) (t : Nat) (i : Nat → Nat) (f : Nat → Nat → Nat) (nc : Nat) (s1 : Nat) (hW : MW cy M h ad t i f) (hI : MI nc i f) (hs : s1 < 40) : mWi l yX6_inOrder wsX6_inOrder ({ frames := 3, cells := 0, slots := 0, locals := 70 } : Room) D cy M sz [.ref h, .int (nI s1)] (fun r M' => r = nI (inOrd f s1) ∧ MW cy M' h ad t i f) 0 0 := by
  refine mW.of (cc := cX6_inOrder) (maxL := 6) (ret := (some .int)) (by decide) rfl (Nat.le_of_ble_eq_true rfl) ?_
  intro p e s m args below meth c ls hsz hx hb hr hts hown hlocks hml hname hP hD hS hA hK hl
  have hl : lv_has ls 6 [(0, .ref h), (1, .int (nI s1))] := hl
  have hown : s.vm.findClass RX6 = some m.cls := hown
  have hwX6 : ∀ w ∈ wsX60, w.before args s = true := fun w h => hts w (List.mem_cons_of_mem _ (List.mem_append_right _ (h)))
  obtain ⟨g0, hg⟩ := hW.2.2.2.1
  refine lv_iconst (v := (nI 0)) hx hb dX6_inOrder_0 (by decide) ?_
  refine lv_istore_n (lv' := [(2, .int (nI 0)), (0, .ref h), (1, .int (nI s1))]) hx hb dX6_inOrder_1 rfl hl (by decide) rfl (fun ls hl => ?_)
  refine lv_iconst (v := (nI 0)) hx hb dX6_inOrder_2 (by decide) ?_
  refine lv_istore_n (lv' := [(3, .int (nI 0)), (2, .int (nI 0)), (0, .ref h), (1, .int (nI s1))]) hx hb dX6_inOrder_3 rfl hl (by decide) rfl (fun ls hl => ?_)
  have K4 : ∀ (n : Nat) (j : Nat) (gq : Nat → Nat), 8 - j < n → (j ≤ f 12 s1) → (∀ x, x < j → gq x = lon f s1 x) → ∀ (Mq : mM) (H : Heap) (locs : List Loc), pm D Mq H → mD (mA M sz) Mq → va_S (mA M sz) s.heap H locs → (MW cy Mq h ad t i f) → (Mq (ad 23) = some (eI cy 8 gq)) → ∀ (ls : Array Slot), lv_has ls 6 [(0, .ref h), (1, .int (nI s1)), (2, .int (nI (inOrdA f s1 j))), (3, .int (nI j))] → W p l e ({ frames := 3, cells := 0, slots := 0, locals := 70 } : Room) s m args below meth c H locs 0 0 (MQ below (va_Qi (fun r M' => r = nI (inOrd f s1) ∧ MW cy M' h ad t i f) (mB D M sz) (mA M sz)) args s 0 0 (mA M sz)) (F0 m 4 ls []) := by
    intro n
    induction n with
    | zero => intro j gq hn; exact absurd hn (by omega)
    | succ n ih4 =>
      intro j gq hn4 i4_0 i4_1 Mq H locs hP hD hS hW hg ls hl
      have hle := inOrdA_le f s1 j
      have hll := lon_le f s1 j
      have hgl : ∀ x, x < j → gq x ≤ x + 1 := fun x hx9 => by rw [i4_1 x hx9]; exact lon_le f s1 x
      refine lv_iload_n hx hb dX6_inOrder_4 rfl (lv_at hl 3 rfl) ?_
      refine lv_aload_n hx hb dX6_inOrder_5 rfl (lv_at hl 0 rfl) ?_
      refine m_get (T := TX6) (N := 24) (ci := 7) (fs := (moF ad t i)) hx hb hwX6 hown hK hP hW.1 rfl 12 (by decide) (hts _ (List.mem_of_getElem? (i := 1) rfl)) (v := .ref (ad 12)) rfl dX6_inOrder_6 ?_
      refine lv_iload_n hx hb dX6_inOrder_9 rfl (lv_at hl 1 rfl) ?_
      have bd_1 : (f 12) s1 ≤ 8 := hI.2.2.2.2.2 12 s1
      refine n_iald (g := (f 12)) (n := 40) (i := s1) hx hb hK hP (hW.2.1 12 (by decide)) (by omega) (by omega) dX6_inOrder_10 ?_
      refine z_icmp_ge (u := ((j : Nat) : Int)) (v := (((f 12) s1 : Nat) : Int)) (tgt := 163) hx hb (nI_toInt (by omega)) (nI_toInt (by omega)) dX6_inOrder_11 (by decide) (fun c_11 => ?_) (fun c_11 => ?_)
      · refine lv_iload_n hx hb dX6_inOrder_163 rfl (lv_at hl 2 rfl) ?_
        exact e_wi hx hb hr hlocks hP hD hS (⟨(show nI (inOrdA f s1 j) = nI (inOrd f s1) by unfold inOrd; rw [show f 12 s1 = j by omega]), hW⟩) dX6_inOrder_164
      · have KJ33 : ∀ (Mq : mM) (H : Heap) (locs : List Loc), pm D Mq H → mD (mA M sz) Mq → va_S (mA M sz) s.heap H locs → (MW cy Mq h ad t i f) → (Mq (ad 23) = some (eI cy 8 gq)) → ∀ (ls : Array Slot), lv_has ls 6 [(0, .ref h), (1, .int (nI s1)), (2, .int (nI (inOrdA f s1 j))), (3, .int (nI j))] → W p l e ({ frames := 3, cells := 0, slots := 0, locals := 70 } : Room) s m args below meth c H locs 0 0 (MQ below (va_Qi (fun r M' => r = nI (inOrd f s1) ∧ MW cy M' h ad t i f) (mB D M sz) (mA M sz)) args s 0 0 (mA M sz)) (F0 m 33 ls [.int (nI (b2 (cnts f s1 j))), .int (nI j), .ref (ad 23)]) := by
          intro   Mq H locs hP hD hS hW hg ls hl
          refine n_iast (g := gq) (n := 8) (i := j) (v := b2 (cnts f s1 j)) hx hb hK hP hD hS hg (by omega) (by omega) dX6_inOrder_33 (fun H locs hP hD hS => ?_)
          have hg := mset_self Mq (ad 23) (eI cy 8 (va_up gq j (b2 (cnts f s1 j))))
          have hW := hW.set23 (va_up gq j (b2 (cnts f s1 j)))
          have KJ136 : ∀ (Mq : mM) (H : Heap) (locs : List Loc), pm D Mq H → mD (mA M sz) Mq → va_S (mA M sz) s.heap H locs → (MW cy Mq h ad t i f) → (Mq (ad 23) = some (eI cy 8 (va_up gq j (lon f s1 j)))) → ∀ (ls : Array Slot), lv_has ls 6 [(0, .ref h), (1, .int (nI s1)), (2, .int (nI (inOrdA f s1 j))), (3, .int (nI j))] → W p l e ({ frames := 3, cells := 0, slots := 0, locals := 70 } : Room) s m args below meth c H locs 0 0 (MQ below (va_Qi (fun r M' => r = nI (inOrd f s1) ∧ MW cy M' h ad t i f) (mB D M sz) (mA M sz)) args s 0 0 (mA M sz)) (F0 m 136 ls []) := by
            intro   Mq H locs hP hD hS hW hg ls hl
            refine lv_aload_n hx hb dX6_inOrder_136 rfl (lv_at hl 0 rfl) ?_
            refine m_get (T := TX6) (N := 24) (ci := 7) (fs := (moF ad t i)) hx hb hwX6 hown hK hP hW.1 rfl 23 (by decide) (hts _ (List.mem_of_getElem? (i := 2) rfl)) (v := .ref (ad 23)) rfl dX6_inOrder_137 ?_
            refine lv_iload_n hx hb dX6_inOrder_140 rfl (lv_at hl 3 rfl) ?_
            refine n_iald (g := (va_up gq j (lon f s1 j))) (n := 8) (i := j) hx hb hK hP hg (by omega) (by omega) dX6_inOrder_141 ?_
            refine n_name (show (nI ((va_up gq j (lon f s1 j)) j)) = (nI (lon f s1 j)) from congrArg nI (va_up_self _ _ _)) ?_
            refine lv_iload_n hx hb dX6_inOrder_142 rfl (lv_at hl 2 rfl) ?_
            refine z_icmp_le (u := ((lon f s1 j : Nat) : Int)) (v := ((inOrdA f s1 j : Nat) : Int)) (tgt := 155) hx hb (nI_toInt (by omega)) (nI_toInt (by omega)) dX6_inOrder_143 (by decide) (fun c_143 => ?_) (fun c_143 => ?_)
            · refine lv_iload_n hx hb dX6_inOrder_155 rfl (lv_at hl 2 rfl) ?_
              refine lv_istore_n (lv' := [(2, .int (nI (inOrdA f s1 j))), (0, .ref h), (1, .int (nI s1)), (3, .int (nI j))]) hx hb dX6_inOrder_156 rfl hl (by decide) rfl (fun ls hl => ?_)
              refine n_iinc (x := j) (k := 1) (lv' := [(3, .int (nI (j + 1))), (2, .int (nI (inOrdA f s1 j))), (0, .ref h), (1, .int (nI s1))]) hx hb dX6_inOrder_157 rfl hl (q := 3) rfl (by decide) rfl (fun ls hl => ?_)
              refine lv_goto (tgt := 4) hx hb dX6_inOrder_160 (by decide) ?_
              have hl : lv_has ls 6 [(3, .int (nI (j + 1))), (2, .int (nI (inOrdA f s1 (j + 1)))), (0, .ref h), (1, .int (nI s1))] := by
                have heq0 : (.int (nI (inOrdA f s1 (j + 1))) : Value) = .int (nI (inOrdA f s1 j)) := congrArg Value.int (congrArg nI (by show (if _ then _ else _) = _; first | rw [if_pos (by omega)] | rw [if_neg (by omega)]))
                rw [heq0]
                exact hl
              exact ih4  (j + 1) (va_up gq j (lon f s1 j)) (by omega) (by omega) (fun x hx9 => row_next i4_1 x hx9) _ _ _ hP hD hS (hW) (hg) _ (lv_sub hl [2, 3, 1, 0] rfl)
            · refine lv_aload_n hx hb dX6_inOrder_146 rfl (lv_at hl 0 rfl) ?_
              refine m_get (T := TX6) (N := 24) (ci := 7) (fs := (moF ad t i)) hx hb hwX6 hown hK hP hW.1 rfl 23 (by decide) (hts _ (List.mem_of_getElem? (i := 2) rfl)) (v := .ref (ad 23)) rfl dX6_inOrder_147 ?_
              refine lv_iload_n hx hb dX6_inOrder_150 rfl (lv_at hl 3 rfl) ?_
              refine n_iald (g := (va_up gq j (lon f s1 j))) (n := 8) (i := j) hx hb hK hP hg (by omega) (by omega) dX6_inOrder_151 ?_
              refine n_name (show (nI ((va_up gq j (lon f s1 j)) j)) = (nI (lon f s1 j)) from congrArg nI (va_up_self _ _ _)) ?_
              refine lv_goto (tgt := 156) hx hb dX6_inOrder_152 (by decide) ?_
              refine lv_istore_n (lv' := [(2, .int (nI (lon f s1 j))), (0, .ref h), (1, .int (nI s1)), (3, .int (nI j))]) hx hb dX6_inOrder_156 rfl hl (by decide) rfl (fun ls hl => ?_)
              refine n_iinc (x := j) (k := 1) (lv' := [(3, .int (nI (j + 1))), (2, .int (nI (lon f s1 j))), (0, .ref h), (1, .int (nI s1))]) hx hb dX6_inOrder_157 rfl hl (q := 3) rfl (by decide) rfl (fun ls hl => ?_)
              refine lv_goto (tgt := 4) hx hb dX6_inOrder_160 (by decide) ?_
              have hl : lv_has ls 6 [(3, .int (nI (j + 1))), (2, .int (nI (inOrdA f s1 (j + 1)))), (0, .ref h), (1, .int (nI s1))] := by
                have heq0 : (.int (nI (inOrdA f s1 (j + 1))) : Value) = .int (nI (lon f s1 j)) := congrArg Value.int (congrArg nI (by show (if _ then _ else _) = _; first | rw [if_pos (by omega)] | rw [if_neg (by omega)]))
                rw [heq0]
                exact hl
              exact ih4  (j + 1) (va_up gq j (lon f s1 j)) (by omega) (by omega) (fun x hx9 => row_next i4_1 x hx9) _ _ _ hP hD hS (hW) (hg) _ (lv_sub hl [2, 3, 1, 0] rfl)
          refine lv_iconst (v := (nI 0)) hx hb dX6_inOrder_34 (by decide) ?_
          refine lv_istore (lv' := [(4, .int (nI 0)), (0, .ref h), (1, .int (nI s1)), (2, .int (nI (inOrdA f s1 j))), (3, .int (nI j))]) hx hb dX6_inOrder_35 hl (by decide) rfl (fun ls hl => ?_)
          have K37 : ∀ (n : Nat) (n1 : Nat), 8 - n1 < n → (n1 ≤ j) → ∀ (Mq : mM) (H : Heap) (locs : List Loc), pm D Mq H → mD (mA M sz) Mq → va_S (mA M sz) s.heap H locs → (MW cy Mq h ad t i f) → (Mq (ad 23) = some (eI cy 8 (va_up gq j (lonJ f s1 gq j n1)))) → ∀ (ls : Array Slot), lv_has ls 6 [(0, .ref h), (1, .int (nI s1)), (2, .int (nI (inOrdA f s1 j))), (3, .int (nI j)), (4, .int (nI n1))] → W p l e ({ frames := 3, cells := 0, slots := 0, locals := 70 } : Room) s m args below meth c H locs 0 0 (MQ below (va_Qi (fun r M' => r = nI (inOrd f s1) ∧ MW cy M' h ad t i f) (mB D M sz) (mA M sz)) args s 0 0 (mA M sz)) (F0 m 37 ls []) := by
            intro n
            induction n with
            | zero => intro n1 hn; exact absurd hn (by omega)
            | succ n ih37 =>
              intro n1 hn37 i37_0 Mq H locs hP hD hS hW hg ls hl
              have hjl := lonJ_le f s1 gq j n1 (fun x hx9 => hgl x (by omega))
              refine lv_iload hx hb dX6_inOrder_37 (lv_at hl 4 rfl) ?_
              refine lv_iload_n hx hb dX6_inOrder_39 rfl (lv_at hl 3 rfl) ?_
              refine z_icmp_ge (u := ((n1 : Nat) : Int)) (v := ((j : Nat) : Int)) (tgt := 136) hx hb (nI_toInt (by omega)) (nI_toInt (by omega)) dX6_inOrder_40 (by decide) (fun c_40 => ?_) (fun c_40 => ?_)
              · exact KJ136     _ _ _ hP hD hS (hW) (by have e9 : lonJ f s1 gq j n1 = lon f s1 j := (by first | exact (lonJ_zero (by omega) j).symm.trans (lonJ_lon i4_1) | (rw [show n1 = j by omega]; exact lonJ_lon i4_1)); rw [← e9]; exact hg) _ (lv_sub hl [0, 1, 2, 3] rfl)
              · refine lv_aload_n hx hb dX6_inOrder_43 rfl (lv_at hl 0 rfl) ?_
                refine m_get (T := TX6) (N := 24) (ci := 7) (fs := (moF ad t i)) hx hb hwX6 hown hK hP hW.1 rfl 23 (by decide) (hts _ (List.mem_of_getElem? (i := 2) rfl)) (v := .ref (ad 23)) rfl dX6_inOrder_44 ?_
                refine lv_iload_n hx hb dX6_inOrder_47 rfl (lv_at hl 3 rfl) ?_
                refine n_iald (g := (va_up gq j (lonJ f s1 gq j n1))) (n := 8) (i := j) hx hb hK hP hg (by omega) (by omega) dX6_inOrder_48 ?_
                refine n_name (show (nI ((va_up gq j (lonJ f s1 gq j n1)) j)) = (nI (lonJ f s1 gq j n1)) from congrArg nI (va_up_self _ _ _)) ?_
                refine z_if_le (u := ((lonJ f s1 gq j n1 : Nat) : Int)) (tgt := 136) hx hb (nI_toInt (by omega)) dX6_inOrder_49 (by decide) (fun c_49 => ?_) (fun c_49 => ?_)
                · exact KJ136     _ _ _ hP hD hS (hW) (by have e9 : lonJ f s1 gq j n1 = lon f s1 j := (by first | exact (lonJ_zero (by omega) j).symm.trans (lonJ_lon i4_1) | (rw [show n1 = j by omega]; exact lonJ_lon i4_1)); rw [← e9]; exact hg) _ (lv_sub hl [0, 1, 2, 3] rfl)
                · have hcn : cnts f s1 j = true := lonJ_pos (by omega : 0 < lonJ f s1 gq j n1)
                  have hgn := hgl n1 (by omega)
                  refine lv_aload_n hx hb dX6_inOrder_52 rfl (lv_at hl 0 rfl) ?_
                  refine m_get (T := TX6) (N := 24) (ci := 7) (fs := (moF ad t i)) hx hb hwX6 hown hK hP hW.1 rfl 23 (by decide) (hts _ (List.mem_of_getElem? (i := 2) rfl)) (v := .ref (ad 23)) rfl dX6_inOrder_53 ?_
                  refine lv_iload hx hb dX6_inOrder_56 (lv_at hl 4 rfl) ?_
                  refine n_iald (g := (va_up gq j (lonJ f s1 gq j n1))) (n := 8) (i := n1) hx hb hK hP hg (by omega) (by omega) dX6_inOrder_58 ?_
                  refine n_name (show (nI ((va_up gq j (lonJ f s1 gq j n1)) n1)) = (nI (gq n1)) from congrArg nI (va_up_ne _ _ (by omega))) ?_
                  refine z_if_le (u := ((gq n1 : Nat) : Int)) (tgt := 82) hx hb (nI_toInt (by omega)) dX6_inOrder_59 (by decide) (fun c_59 => ?_) (fun c_59 => ?_)
                  · refine lv_iconst (v := (nI 0)) hx hb dX6_inOrder_82 (by decide) ?_
                    refine lv_istore (lv' := [(5, .int (nI 0)), (0, .ref h), (1, .int (nI s1)), (2, .int (nI (inOrdA f s1 j))), (3, .int (nI j)), (4, .int (nI n1))]) hx hb dX6_inOrder_83 hl (by decide) rfl (fun ls hl => ?_)
                    refine lv_aload_n hx hb dX6_inOrder_85 rfl (lv_at hl 1 rfl) ?_
                    refine m_get (T := TX6) (N := 24) (ci := 7) (fs := (moF ad t i)) hx hb hwX6 hown hK hP hW.1 rfl 23 (by decide) (hts _ (List.mem_of_getElem? (i := 2) rfl)) (v := .ref (ad 23)) rfl dX6_inOrder_86 ?_
                    refine lv_iload_n hx hb dX6_inOrder_89 rfl (lv_at hl 4 rfl) ?_
                    refine lv_iload hx hb dX6_inOrder_90 (lv_at hl 0 rfl) ?_
                    refine k_if_eq_0 (tgt := 123) hx hb dX6_inOrder_92 (by decide) ?_
                    refine lv_aload_n hx hb dX6_inOrder_123 rfl (lv_at hl 1 rfl) ?_
                    refine m_get (T := TX6) (N := 24) (ci := 7) (fs := (moF ad t i)) hx hb hwX6 hown hK hP hW.1 rfl 23 (by decide) (hts _ (List.mem_of_getElem? (i := 2) rfl)) (v := .ref (ad 23)) rfl dX6_inOrder_124 ?_
                    refine lv_iload_n hx hb dX6_inOrder_127 rfl (lv_at hl 4 rfl) ?_
                    refine n_iald (g := (va_up gq j (lonJ f s1 gq j n1))) (n := 8) (i := j) hx hb hK hP hg (by omega) (by omega) dX6_inOrder_128 ?_
                    refine n_name (show (nI ((va_up gq j (lonJ f s1 gq j n1)) j)) = (nI (lonJ f s1 gq j n1)) from congrArg nI (va_up_self _ _ _)) ?_
                    refine n_iast (g := (va_up gq j (lonJ f s1 gq j n1))) (n := 8) (i := j) (v := lonJ f s1 gq j n1) hx hb hK hP hD hS hg (by omega) (by omega) dX6_inOrder_129 (fun H locs hP hD hS => ?_)
                    have hg := mset_self Mq (ad 23) (eI cy 8 (va_up (va_up gq j (lonJ f s1 gq j n1)) j (lonJ f s1 gq j n1)))
                    have hW := hW.set23 (va_up (va_up gq j (lonJ f s1 gq j n1)) j (lonJ f s1 gq j n1))
                    refine n_iinc (x := n1) (k := 1) (lv' := [(4, .int (nI (n1 + 1))), (5, .int (nI 0)), (0, .ref h), (1, .int (nI s1)), (2, .int (nI (inOrdA f s1 j))), (3, .int (nI j))]) hx hb dX6_inOrder_130 rfl hl (q := 5) rfl (by decide) rfl (fun ls hl => ?_)
                    refine lv_goto (tgt := 37) hx hb dX6_inOrder_133 (by decide) ?_
                    exact ih37  (n1 + 1) (by omega) (by omega) _ _ _ hP hD hS (hW) (hg.trans (congrArg (fun z => some (eI cy 8 z)) (by rw [bx_uu]; first | rw [lonJ_up hcn (by omega)] | rw [lonJ_same hcn (by omega)]))) _ (lv_sub hl [2, 3, 4, 5, 0] rfl)
                  · refine lv_aload_n hx hb dX6_inOrder_62 rfl (lv_at hl 0 rfl) ?_
                    refine lv_iload_n hx hb dX6_inOrder_63 rfl (lv_at hl 1 rfl) ?_
                    refine lv_iload hx hb dX6_inOrder_64 (lv_at hl 4 rfl) ?_
                    refine vp_callSi (W.runV (C := RX6) (As := [.int (nI s1), .int (nI n1)]) (rest := []) ⟨hx, hb, hml, hown, hts⟩ (c_X6_strokeOn l D cy _ h ad t i f nc s1 n1 hW hI (by omega) (by omega)) (cwV 2 hts gX6_inOrder_X6_strokeOn rfl rfl rfl (by decide +kernel) ⟨Nat.le_of_ble_eq_true rfl, Nat.le_of_ble_eq_true rfl⟩) (mPreV hK hP hW.1 (ci := 7) rfl) rfl rfl hl.1 rfl (lv_room (Nat.le_of_ble_eq_true rfl)) dX6_inOrder_66 ⟨Nat.le_of_ble_eq_true rfl, Nat.le_of_ble_eq_true rfl⟩) (fun r9 hr9 => ?_)
                    have hr9 : r9 = (zI (sOn f s1 n1)) := hr9
                    subst hr9
                    have bs_2 : -1 ≤ sOn f s1 n1 ∧ sOn f s1 n1 < 6 := sOn_bd hI _ _
                    refine lv_aload_n hx hb dX6_inOrder_69 rfl (lv_at hl 0 rfl) ?_
                    refine lv_iload_n hx hb dX6_inOrder_70 rfl (lv_at hl 1 rfl) ?_
                    refine lv_iload_n hx hb dX6_inOrder_71 rfl (lv_at hl 3 rfl) ?_
                    refine vp_callSi (W.runV (C := RX6) (As := [.int (nI s1), .int (nI j)]) (rest := [.int (zI (sOn f s1 n1))]) ⟨hx, hb, hml, hown, hts⟩ (c_X6_strokeOn l D cy _ h ad t i f nc s1 j hW hI (by omega) (by omega)) (cwV 2 hts gX6_inOrder_X6_strokeOn rfl rfl rfl (by decide +kernel) ⟨Nat.le_of_ble_eq_true rfl, Nat.le_of_ble_eq_true rfl⟩) (mPreV hK hP hW.1 (ci := 7) rfl) rfl rfl hl.1 rfl (lv_room (Nat.le_of_ble_eq_true rfl)) dX6_inOrder_72 ⟨Nat.le_of_ble_eq_true rfl, Nat.le_of_ble_eq_true rfl⟩) (fun r9 hr9 => ?_)
                    have hr9 : r9 = (zI (sOn f s1 j)) := hr9
                    subst hr9
                    have bs_3 : -1 ≤ sOn f s1 j ∧ sOn f s1 j < 6 := sOn_bd hI _ _
                    refine z_icmp_ge (u := (sOn f s1 n1)) (v := (sOn f s1 j)) (tgt := 82) hx hb (zI_toInt (by omega) (by omega)) (zI_toInt (by omega) (by omega)) dX6_inOrder_75 (by decide) (fun c_75 => ?_) (fun c_75 => ?_)
                    · refine lv_iconst (v := (nI 0)) hx hb dX6_inOrder_82 (by decide) ?_
                      refine lv_istore (lv' := [(5, .int (nI 0)), (0, .ref h), (1, .int (nI s1)), (2, .int (nI (inOrdA f s1 j))), (3, .int (nI j)), (4, .int (nI n1))]) hx hb dX6_inOrder_83 hl (by decide) rfl (fun ls hl => ?_)
                      refine lv_aload_n hx hb dX6_inOrder_85 rfl (lv_at hl 1 rfl) ?_
                      refine m_get (T := TX6) (N := 24) (ci := 7) (fs := (moF ad t i)) hx hb hwX6 hown hK hP hW.1 rfl 23 (by decide) (hts _ (List.mem_of_getElem? (i := 2) rfl)) (v := .ref (ad 23)) rfl dX6_inOrder_86 ?_
                      refine lv_iload_n hx hb dX6_inOrder_89 rfl (lv_at hl 4 rfl) ?_
                      refine lv_iload hx hb dX6_inOrder_90 (lv_at hl 0 rfl) ?_
                      refine k_if_eq_0 (tgt := 123) hx hb dX6_inOrder_92 (by decide) ?_
                      refine lv_aload_n hx hb dX6_inOrder_123 rfl (lv_at hl 1 rfl) ?_
                      refine m_get (T := TX6) (N := 24) (ci := 7) (fs := (moF ad t i)) hx hb hwX6 hown hK hP hW.1 rfl 23 (by decide) (hts _ (List.mem_of_getElem? (i := 2) rfl)) (v := .ref (ad 23)) rfl dX6_inOrder_124 ?_
                      refine lv_iload_n hx hb dX6_inOrder_127 rfl (lv_at hl 4 rfl) ?_
                      refine n_iald (g := (va_up gq j (lonJ f s1 gq j n1))) (n := 8) (i := j) hx hb hK hP hg (by omega) (by omega) dX6_inOrder_128 ?_
                      refine n_name (show (nI ((va_up gq j (lonJ f s1 gq j n1)) j)) = (nI (lonJ f s1 gq j n1)) from congrArg nI (va_up_self _ _ _)) ?_
                      refine n_iast (g := (va_up gq j (lonJ f s1 gq j n1))) (n := 8) (i := j) (v := lonJ f s1 gq j n1) hx hb hK hP hD hS hg (by omega) (by omega) dX6_inOrder_129 (fun H locs hP hD hS => ?_)
                      have hg := mset_self Mq (ad 23) (eI cy 8 (va_up (va_up gq j (lonJ f s1 gq j n1)) j (lonJ f s1 gq j n1)))
                      have hW := hW.set23 (va_up (va_up gq j (lonJ f s1 gq j n1)) j (lonJ f s1 gq j n1))
                      refine n_iinc (x := n1) (k := 1) (lv' := [(4, .int (nI (n1 + 1))), (5, .int (nI 0)), (0, .ref h), (1, .int (nI s1)), (2, .int (nI (inOrdA f s1 j))), (3, .int (nI j))]) hx hb dX6_inOrder_130 rfl hl (q := 5) rfl (by decide) rfl (fun ls hl => ?_)
                      refine lv_goto (tgt := 37) hx hb dX6_inOrder_133 (by decide) ?_
                      exact ih37  (n1 + 1) (by omega) (by omega) _ _ _ hP hD hS (hW) (hg.trans (congrArg (fun z => some (eI cy 8 z)) (by rw [bx_uu]; first | rw [lonJ_up hcn (by omega)] | rw [lonJ_same hcn (by omega)]))) _ (lv_sub hl [2, 3, 4, 5, 0] rfl)
                    · refine lv_iconst (v := (nI 1)) hx hb dX6_inOrder_78 (by decide) ?_
                      refine lv_goto (tgt := 83) hx hb dX6_inOrder_79 (by decide) ?_
                      refine lv_istore (lv' := [(5, .int (nI 1)), (0, .ref h), (1, .int (nI s1)), (2, .int (nI (inOrdA f s1 j))), (3, .int (nI j)), (4, .int (nI n1))]) hx hb dX6_inOrder_83 hl (by decide) rfl (fun ls hl => ?_)
                      refine lv_aload_n hx hb dX6_inOrder_85 rfl (lv_at hl 1 rfl) ?_
                      refine m_get (T := TX6) (N := 24) (ci := 7) (fs := (moF ad t i)) hx hb hwX6 hown hK hP hW.1 rfl 23 (by decide) (hts _ (List.mem_of_getElem? (i := 2) rfl)) (v := .ref (ad 23)) rfl dX6_inOrder_86 ?_
                      refine lv_iload_n hx hb dX6_inOrder_89 rfl (lv_at hl 4 rfl) ?_
                      refine lv_iload hx hb dX6_inOrder_90 (lv_at hl 0 rfl) ?_
                      refine k_if_eq_1 (tgt := 123) hx hb dX6_inOrder_92 (by decide) ?_
                      refine lv_aload_n hx hb dX6_inOrder_95 rfl (lv_at hl 1 rfl) ?_
                      refine m_get (T := TX6) (N := 24) (ci := 7) (fs := (moF ad t i)) hx hb hwX6 hown hK hP hW.1 rfl 23 (by decide) (hts _ (List.mem_of_getElem? (i := 2) rfl)) (v := .ref (ad 23)) rfl dX6_inOrder_96 ?_
                      refine lv_iload hx hb dX6_inOrder_99 (lv_at hl 5 rfl) ?_
                      refine n_iald (g := (va_up gq j (lonJ f s1 gq j n1))) (n := 8) (i := n1) hx hb hK hP hg (by omega) (by omega) dX6_inOrder_101 ?_
                      refine n_name (show (nI ((va_up gq j (lonJ f s1 gq j n1)) n1)) = (nI (gq n1)) from congrArg nI (va_up_ne _ _ (by omega))) ?_
                      refine lv_aload_n hx hb dX6_inOrder_102 rfl (lv_at hl 1 rfl) ?_
                      refine m_get (T := TX6) (N := 24) (ci := 7) (fs := (moF ad t i)) hx hb hwX6 hown hK hP hW.1 rfl 23 (by decide) (hts _ (List.mem_of_getElem? (i := 2) rfl)) (v := .ref (ad 23)) rfl dX6_inOrder_103 ?_
                      refine lv_iload_n hx hb dX6_inOrder_106 rfl (lv_at hl 4 rfl) ?_
                      refine n_iald (g := (va_up gq j (lonJ f s1 gq j n1))) (n := 8) (i := j) hx hb hK hP hg (by omega) (by omega) dX6_inOrder_107 ?_
                      refine n_name (show (nI ((va_up gq j (lonJ f s1 gq j n1)) j)) = (nI (lonJ f s1 gq j n1)) from congrArg nI (va_up_self _ _ _)) ?_
                      refine z_icmp_lt (u := ((gq n1 : Nat) : Int)) (v := ((lonJ f s1 gq j n1 : Nat) : Int)) (tgt := 123) hx hb (nI_toInt (by omega)) (nI_toInt (by omega)) dX6_inOrder_108 (by decide) (fun c_108 => ?_) (fun c_108 => ?_)
                      · refine lv_aload_n hx hb dX6_inOrder_123 rfl (lv_at hl 1 rfl) ?_
                        refine m_get (T := TX6) (N := 24) (ci := 7) (fs := (moF ad t i)) hx hb hwX6 hown hK hP hW.1 rfl 23 (by decide) (hts _ (List.mem_of_getElem? (i := 2) rfl)) (v := .ref (ad 23)) rfl dX6_inOrder_124 ?_
                        refine lv_iload_n hx hb dX6_inOrder_127 rfl (lv_at hl 4 rfl) ?_
                        refine n_iald (g := (va_up gq j (lonJ f s1 gq j n1))) (n := 8) (i := j) hx hb hK hP hg (by omega) (by omega) dX6_inOrder_128 ?_
                        refine n_name (show (nI ((va_up gq j (lonJ f s1 gq j n1)) j)) = (nI (lonJ f s1 gq j n1)) from congrArg nI (va_up_self _ _ _)) ?_
                        refine n_iast (g := (va_up gq j (lonJ f s1 gq j n1))) (n := 8) (i := j) (v := lonJ f s1 gq j n1) hx hb hK hP hD hS hg (by omega) (by omega) dX6_inOrder_129 (fun H locs hP hD hS => ?_)
                        have hg := mset_self Mq (ad 23) (eI cy 8 (va_up (va_up gq j (lonJ f s1 gq j n1)) j (lonJ f s1 gq j n1)))
                        have hW := hW.set23 (va_up (va_up gq j (lonJ f s1 gq j n1)) j (lonJ f s1 gq j n1))
                        refine n_iinc (x := n1) (k := 1) (lv' := [(4, .int (nI (n1 + 1))), (5, .int (nI 1)), (0, .ref h), (1, .int (nI s1)), (2, .int (nI (inOrdA f s1 j))), (3, .int (nI j))]) hx hb dX6_inOrder_130 rfl hl (q := 5) rfl (by decide) rfl (fun ls hl => ?_)
                        refine lv_goto (tgt := 37) hx hb dX6_inOrder_133 (by decide) ?_
                        exact ih37  (n1 + 1) (by omega) (by omega) _ _ _ hP hD hS (hW) (hg.trans (congrArg (fun z => some (eI cy 8 z)) (by rw [bx_uu]; first | rw [lonJ_up hcn (by omega)] | rw [lonJ_same hcn (by omega)]))) _ (lv_sub hl [2, 3, 4, 5, 0] rfl)
                      · refine lv_aload_n hx hb dX6_inOrder_111 rfl (lv_at hl 1 rfl) ?_
                        refine m_get (T := TX6) (N := 24) (ci := 7) (fs := (moF ad t i)) hx hb hwX6 hown hK hP hW.1 rfl 23 (by decide) (hts _ (List.mem_of_getElem? (i := 2) rfl)) (v := .ref (ad 23)) rfl dX6_inOrder_112 ?_
                        refine lv_iload hx hb dX6_inOrder_115 (lv_at hl 5 rfl) ?_
                        refine n_iald (g := (va_up gq j (lonJ f s1 gq j n1))) (n := 8) (i := n1) hx hb hK hP hg (by omega) (by omega) dX6_inOrder_117 ?_
                        refine n_name (show (nI ((va_up gq j (lonJ f s1 gq j n1)) n1)) = (nI (gq n1)) from congrArg nI (va_up_ne _ _ (by omega))) ?_
                        refine lv_iconst (v := (nI 1)) hx hb dX6_inOrder_118 (by decide) ?_
                        refine n_add (x := gq n1) (y := 1) hx hb dX6_inOrder_119 ?_
                        refine lv_goto (tgt := 129) hx hb dX6_inOrder_120 (by decide) ?_
                        refine n_iast (g := (va_up gq j (lonJ f s1 gq j n1))) (n := 8) (i := j) (v := (gq n1) + 1) hx hb hK hP hD hS hg (by omega) (by omega) dX6_inOrder_129 (fun H locs hP hD hS => ?_)
                        have hg := mset_self Mq (ad 23) (eI cy 8 (va_up (va_up gq j (lonJ f s1 gq j n1)) j ((gq n1) + 1)))
                        have hW := hW.set23 (va_up (va_up gq j (lonJ f s1 gq j n1)) j ((gq n1) + 1))
                        refine n_iinc (x := n1) (k := 1) (lv' := [(4, .int (nI (n1 + 1))), (5, .int (nI 1)), (0, .ref h), (1, .int (nI s1)), (2, .int (nI (inOrdA f s1 j))), (3, .int (nI j))]) hx hb dX6_inOrder_130 rfl hl (q := 5) rfl (by decide) rfl (fun ls hl => ?_)
                        refine lv_goto (tgt := 37) hx hb dX6_inOrder_133 (by decide) ?_
                        exact ih37  (n1 + 1) (by omega) (by omega) _ _ _ hP hD hS (hW) (hg.trans (congrArg (fun z => some (eI cy 8 z)) (by rw [bx_uu]; first | rw [lonJ_up hcn (by omega)] | rw [lonJ_same hcn (by omega)]))) _ (lv_sub hl [2, 3, 4, 5, 0] rfl)
          exact K37 (8 - 0 + 1) 0 (Nat.lt_succ_self _) (Nat.zero_le _) _ _ _ hP hD hS (hW) (by rw [lonJ_0]; exact hg) _ (lv_sub hl [1, 2, 3, 4, 0] rfl)
        refine lv_aload_n hx hb dX6_inOrder_14 rfl (lv_at hl 0 rfl) ?_
        refine m_get (T := TX6) (N := 24) (ci := 7) (fs := (moF ad t i)) hx hb hwX6 hown hK hP hW.1 rfl 23 (by decide) (hts _ (List.mem_of_getElem? (i := 2) rfl)) (v := .ref (ad 23)) rfl dX6_inOrder_15 ?_
        refine lv_iload_n hx hb dX6_inOrder_18 rfl (lv_at hl 3 rfl) ?_
        refine lv_aload_n hx hb dX6_inOrder_19 rfl (lv_at hl 0 rfl) ?_
        refine lv_iload_n hx hb dX6_inOrder_20 rfl (lv_at hl 1 rfl) ?_
        refine lv_iload_n hx hb dX6_inOrder_21 rfl (lv_at hl 3 rfl) ?_
        refine vp_callSi (W.runV (C := RX6) (As := [.int (nI s1), .int (nI j)]) (rest := [.int (nI j), .ref (ad 23)]) ⟨hx, hb, hml, hown, hts⟩ (c_X6_counts l D cy _ h ad t i f nc s1 j hW hI (by omega) (by omega)) (cwV 2 hts gX6_inOrder_X6_counts rfl rfl rfl (by decide +kernel) ⟨Nat.le_of_ble_eq_true rfl, Nat.le_of_ble_eq_true rfl⟩) (mPreV hK hP hW.1 (ci := 7) rfl) rfl rfl hl.1 rfl (lv_room (Nat.le_of_ble_eq_true rfl)) dX6_inOrder_22 ⟨Nat.le_of_ble_eq_true rfl, Nat.le_of_ble_eq_true rfl⟩) (fun r9 hr9 => ?_)
        have hr9 : r9 = (nI (b2 (cnts f s1 j))) := hr9
        subst hr9
        refine b_if_eq (b := cnts f s1 j) (tgt := 32) hx hb dX6_inOrder_25 (by decide) (fun c_25 => ?_) (fun c_25 => ?_)
        · refine lv_iconst (v := (nI 0)) hx hb dX6_inOrder_32 (by decide) ?_
          refine n_name (show (nI 0) = (nI (b2 (cnts f s1 j))) from (b2_f c_25).symm) ?_
          exact KJ33     _ _ _ hP hD hS (hW) (hg) _ (lv_sub hl [0, 1, 2, 3] rfl)
        · refine lv_iconst (v := (nI 1)) hx hb dX6_inOrder_28 (by decide) ?_
          refine lv_goto (tgt := 33) hx hb dX6_inOrder_29 (by decide) ?_
          refine n_name (show (nI 1) = (nI (b2 (cnts f s1 j))) from (b2_t c_25).symm) ?_
          exact KJ33     _ _ _ hP hD hS (hW) (hg) _ (lv_sub hl [0, 1, 2, 3] rfl)
  exact K4 (8 - 0 + 1) 0 g0 (Nat.lt_succ_self _) (Nat.zero_le _) (fun x h => absurd h (Nat.not_lt_zero x)) _ _ _ hP hD hS (hW) (hg) _ (lv_sub hl [2, 3, 1, 0] rfl)
end
section
set_option maxRecDepth 100000 in
set_option maxHeartbeats 4000000 in
/-- slipsOf(s, k) -/
theorem c_X6_slipsOf (l : Launch) (D : va_G) (cy : Nat → ClassId) (M : mM) (sz : Nat) (h : Nat) (ad : Nat → Nat) (t : Nat) (i : Nat → Nat) (f : Nat → Nat → Nat) (nc : Nat) (s1 k : Nat) (hW : MW cy M h ad t i f) (hI : MI nc i f) (hs : s1 < 40) (hk : k < 6) : mWi l yX6_slipsOf wsX6_slipsOf ({ frames := 4, cells := 0, slots := 0, locals := 95 } : Room) D cy M sz [.ref h, .int (nI s1), .int (nI k)] (fun r M' => r = zI (slipsK f s1 k) ∧ MW cy M' h ad t i f) 0 0 := by
  refine mW.of (cc := cX6_slipsOf) (maxL := 4) (ret := (some .int)) (by decide) rfl (Nat.le_of_ble_eq_true rfl) ?_
  intro p e s m args below meth c ls hsz hx hb hr hts hown hlocks hml hname hP hD hS hA hK hl
  have hl : lv_has ls 4 [(0, .ref h), (1, .int (nI s1)), (2, .int (nI k))] := hl
  have hown : s.vm.findClass RX6 = some m.cls := hown
  have hwX6 : ∀ w ∈ wsX60, w.before args s = true := fun w h => hts w (List.mem_cons_of_mem _ (List.mem_append_right _ (h)))
  refine lv_aload_n hx hb dX6_slipsOf_0 rfl (lv_at hl 0 rfl) ?_
  refine lv_iload_n hx hb dX6_slipsOf_1 rfl (lv_at hl 1 rfl) ?_
  refine vp_callSi (W.runV (C := RX6) (As := [.int (nI s1)]) (rest := []) ⟨hx, hb, hml, hown, hts⟩ (c_X6_counting l D cy _ h ad t i f nc s1 hW hI (by omega)) (cwV 1 hts gX6_slipsOf_X6_counting rfl rfl rfl (by decide +kernel) ⟨Nat.le_of_ble_eq_true rfl, Nat.le_of_ble_eq_true rfl⟩) (mPreV hK hP hW.1 (ci := 7) rfl) rfl rfl hl.1 rfl (lv_room (Nat.le_of_ble_eq_true rfl)) dX6_slipsOf_2 ⟨Nat.le_of_ble_eq_true rfl, Nat.le_of_ble_eq_true rfl⟩) (fun r9 hr9 => ?_)
  have hr9 : r9 = (nI (count f s1)) := hr9
  subst hr9
  have bs_1 : count f s1 ≤ 8 := count_le hI _
  refine lv_istore_n (lv' := [(3, .int (nI (count f s1))), (0, .ref h), (1, .int (nI s1)), (2, .int (nI k))]) hx hb dX6_slipsOf_5 rfl hl (by decide) rfl (fun ls hl => ?_)
  refine lv_iload_n hx hb dX6_slipsOf_6 rfl (lv_at hl 3 rfl) ?_
  rcases (show k = 0 ∨ k = 1 ∨ k = 2 ∨ k = 3 ∨ 4 ≤ k by omega) with hsw | hsw | hsw | hsw | hsw
  · refine lv_tableIn (off := 29) (tgt := 36) hx hb dX6_slipsOf_7 (by rw [nI_toInt (by omega)]; omega) (by rw [nI_toInt (by omega)]; omega) (by rw [hsw]; rfl) (by decide) ?_
    refine lv_aload_n hx hb dX6_slipsOf_36 rfl (lv_at hl 1 rfl) ?_
    refine m_get (T := TX6) (N := 24) (ci := 7) (fs := (moF ad t i)) hx hb hwX6 hown hK hP hW.1 rfl 4 (by decide) (hts _ (List.mem_of_getElem? (i := 1) rfl)) (v := .ref (ad 4)) rfl dX6_slipsOf_37 ?_
    refine lv_aload_n hx hb dX6_slipsOf_40 rfl (lv_at hl 1 rfl) ?_
    refine m_get (T := TX6) (N := 24) (ci := 7) (fs := (moF ad t i)) hx hb hwX6 hown hK hP hW.1 rfl 14 (by decide) (hts _ (List.mem_of_getElem? (i := 2) rfl)) (v := .ref (ad 14)) rfl dX6_slipsOf_41 ?_
    refine lv_iload_n hx hb dX6_slipsOf_44 rfl (lv_at hl 2 rfl) ?_
    have bd_2 : (f 14) s1 ≤ 9 := hI.2.2.2.2.2 14 s1
    refine n_iald (g := (f 14)) (n := 40) (i := s1) hx hb hK hP (hW.2.1 14 (by decide)) (by omega) (by omega) dX6_slipsOf_45 ?_
    have bd_3 : (f 4) ((f 14) s1) ≤ 6 := hI.2.2.2.2.2 4 ((f 14) s1)
    refine n_iald (g := (f 4)) (n := 10) (i := (f 14) s1) hx hb hK hP (hW.2.1 4 (by decide)) (by omega) (by omega) dX6_slipsOf_46 ?_
    refine lv_iload_n hx hb dX6_slipsOf_47 rfl (lv_at hl 0 rfl) ?_
    refine z_sub (u := (((f 4) ((f 14) s1) : Nat) : Int)) (v := ((count f s1 : Nat) : Int)) hx hb (nI_zI _) (nI_zI _) dX6_slipsOf_48 ?_
    exact e_wi hx hb hr hlocks hP hD hS (⟨(congrArg zI (by unfold slipsK; (repeat (first | rw [if_pos (by omega)] | rw [if_neg (by omega)])); (first | done | rfl | omega))), hW⟩) dX6_slipsOf_49
  · refine lv_tableIn (off := 43) (tgt := 50) hx hb dX6_slipsOf_7 (by rw [nI_toInt (by omega)]; omega) (by rw [nI_toInt (by omega)]; omega) (by rw [hsw]; rfl) (by decide) ?_
    refine lv_aload_n hx hb dX6_slipsOf_50 rfl (lv_at hl 1 rfl) ?_
    refine m_get (T := TX6) (N := 24) (ci := 7) (fs := (moF ad t i)) hx hb hwX6 hown hK hP hW.1 rfl 12 (by decide) (hts _ (List.mem_of_getElem? (i := 3) rfl)) (v := .ref (ad 12)) rfl dX6_slipsOf_51 ?_
    refine lv_iload_n hx hb dX6_slipsOf_54 rfl (lv_at hl 2 rfl) ?_
    have bd_4 : (f 12) s1 ≤ 8 := hI.2.2.2.2.2 12 s1
    refine n_iald (g := (f 12)) (n := 40) (i := s1) hx hb hK hP (hW.2.1 12 (by decide)) (by omega) (by omega) dX6_slipsOf_55 ?_
    refine lv_iload_n hx hb dX6_slipsOf_56 rfl (lv_at hl 0 rfl) ?_
    refine z_sub (u := (((f 12) s1 : Nat) : Int)) (v := ((count f s1 : Nat) : Int)) hx hb (nI_zI _) (nI_zI _) dX6_slipsOf_57 ?_
    exact e_wi hx hb hr hlocks hP hD hS (⟨(congrArg zI (by unfold slipsK; (repeat (first | rw [if_pos (by omega)] | rw [if_neg (by omega)])); (first | done | rfl | omega))), hW⟩) dX6_slipsOf_58
  · refine lv_tableIn (off := 52) (tgt := 59) hx hb dX6_slipsOf_7 (by rw [nI_toInt (by omega)]; omega) (by rw [nI_toInt (by omega)]; omega) (by rw [hsw]; rfl) (by decide) ?_
    refine lv_aload_n hx hb dX6_slipsOf_59 rfl (lv_at hl 1 rfl) ?_
    refine lv_iload_n hx hb dX6_slipsOf_60 rfl (lv_at hl 2 rfl) ?_
    refine vp_callSi (W.runV (C := RX6) (As := [.int (nI s1)]) (rest := []) ⟨hx, hb, hml, hown, hts⟩ (c_X6_turned l D cy _ h ad t i f nc s1 hW hI (by omega)) (cwV 1 hts gX6_slipsOf_X6_turned rfl rfl rfl (by decide +kernel) ⟨Nat.le_of_ble_eq_true rfl, Nat.le_of_ble_eq_true rfl⟩) (mPreV hK hP hW.1 (ci := 7) rfl) rfl rfl hl.1 rfl (lv_room (Nat.le_of_ble_eq_true rfl)) dX6_slipsOf_61 ⟨Nat.le_of_ble_eq_true rfl, Nat.le_of_ble_eq_true rfl⟩) (fun r9 hr9 => ?_)
    have hr9 : r9 = (nI (turn f s1)) := hr9
    subst hr9
    have bs_5 : turn f s1 ≤ 8 := turn_le hI _
    exact e_wi hx hb hr hlocks hP hD hS (⟨((nI_zI _).trans (congrArg zI (by unfold slipsK; (repeat (first | rw [if_pos (by omega)] | rw [if_neg (by omega)])); (first | done | rfl | omega)))), hW⟩) dX6_slipsOf_64
  · refine lv_tableIn (off := 58) (tgt := 65) hx hb dX6_slipsOf_7 (by rw [nI_toInt (by omega)]; omega) (by rw [nI_toInt (by omega)]; omega) (by rw [hsw]; rfl) (by decide) ?_
    refine lv_iload_n hx hb dX6_slipsOf_65 rfl (lv_at hl 0 rfl) ?_
    refine lv_aload_n hx hb dX6_slipsOf_66 rfl (lv_at hl 1 rfl) ?_
    refine lv_iload_n hx hb dX6_slipsOf_67 rfl (lv_at hl 2 rfl) ?_
    refine m_calli (va_runV (C := RX6) (As := [.int (nI s1)]) (rest := [.int (nI (count f s1))]) ⟨hx, hb, hml, hown, hts⟩ (c_X6_inOrder l D cy _ _ h ad t i f nc s1 hW hI (by omega)) (cwV 1 hts gX6_slipsOf_X6_inOrder rfl rfl rfl (by decide +kernel) ⟨Nat.le_of_ble_eq_true rfl, Nat.le_of_ble_eq_true rfl⟩) (mPreWV hK hP hW.1 (ci := 7) rfl) rfl rfl hl.1 rfl (lv_room (Nat.le_of_ble_eq_true rfl)) dX6_slipsOf_68 ⟨Nat.le_of_ble_eq_true rfl, Nat.le_of_ble_eq_true rfl⟩) hD hA hS (fun r9 Mn H locs hq9 hP hD hS hz9 hd9 hk9 => ?_)
    obtain ⟨hr9, hW⟩ := hq9
    have hr9 : r9 = (nI (inOrd f s1)) := hr9
    subst hr9
    have hW : MW cy Mn h ad t i f := hW
    have bs_6 : inOrd f s1 ≤ 8 := inOrd_le hI _
    refine z_sub (u := ((count f s1 : Nat) : Int)) (v := ((inOrd f s1 : Nat) : Int)) hx hb (nI_zI _) (nI_zI _) dX6_slipsOf_71 ?_
    exact e_wi hx hb hr hlocks hP hD hS (⟨(congrArg zI (by unfold slipsK; (repeat (first | rw [if_pos (by omega)] | rw [if_neg (by omega)])); (first | done | rfl | omega))), hW⟩) dX6_slipsOf_72
  · refine lv_tableOut (tgt := 73) hx hb dX6_slipsOf_7 (Or.inr (by rw [nI_toInt (by omega)]; omega)) (by decide) ?_
    refine lv_aload_n hx hb dX6_slipsOf_73 rfl (lv_at hl 1 rfl) ?_
    refine m_get (T := TX6) (N := 24) (ci := 7) (fs := (moF ad t i)) hx hb hwX6 hown hK hP hW.1 rfl 15 (by decide) (hts _ (List.mem_of_getElem? (i := 4) rfl)) (v := .ref (ad 15)) rfl dX6_slipsOf_74 ?_
    refine lv_iload_n hx hb dX6_slipsOf_77 rfl (lv_at hl 2 rfl) ?_
    have bd_7 : (f 15) s1 ≤ 1 := hI.2.2.2.2.2 15 s1
    refine n_zald (g := (f 15)) (n := 40) (i := s1) hx hb hK hP (hW.2.2.1 15 (by decide)) (by omega) (by omega) dX6_slipsOf_78 ?_
    refine z_if_eq (u := (((f 15) s1 : Nat) : Int)) (tgt := 86) hx hb (nI_toInt (by omega)) dX6_slipsOf_79 (by decide) (fun c_79 => ?_) (fun c_79 => ?_)
    · refine lv_iconst (v := (nI 0)) hx hb dX6_slipsOf_86 (by decide) ?_
      exact e_wi hx hb hr hlocks hP hD hS (⟨((nI_zI _).trans (congrArg zI (by unfold slipsK; (repeat (first | rw [if_pos (by omega)] | rw [if_neg (by omega)])); (first | done | rfl | omega)))), hW⟩) dX6_slipsOf_87
    · refine lv_iconst (v := (nI 1)) hx hb dX6_slipsOf_82 (by decide) ?_
      refine lv_goto (tgt := 87) hx hb dX6_slipsOf_83 (by decide) ?_
      exact e_wi hx hb hr hlocks hP hD hS (⟨((nI_zI _).trans (congrArg zI (by unfold slipsK; (repeat (first | rw [if_pos (by omega)] | rw [if_neg (by omega)])); (first | done | rfl | omega)))), hW⟩) dX6_slipsOf_87

set_option maxRecDepth 100000 in
set_option maxHeartbeats 4000000 in
/-- allSlips(s) -/
theorem c_X6_allSlips (l : Launch) (D : va_G) (cy : Nat → ClassId) (M : mM) (sz : Nat) (h : Nat) (ad : Nat → Nat) (t : Nat) (i : Nat → Nat) (f : Nat → Nat → Nat) (nc : Nat) (s1 : Nat) (hW : MW cy M h ad t i f) (hI : MI nc i f) (hs : s1 < 40) : mWi l yX6_allSlips wsX6_allSlips ({ frames := 5, cells := 0, slots := 0, locals := 118 } : Room) D cy M sz [.ref h, .int (nI s1)] (fun r M' => r = zI (allSlips f s1) ∧ MW cy M' h ad t i f) 0 0 := by
  refine mW.of (cc := cX6_allSlips) (maxL := 4) (ret := (some .int)) (by decide) rfl (Nat.le_of_ble_eq_true rfl) ?_
  intro p e s m args below meth c ls hsz hx hb hr hts hown hlocks hml hname hP hD hS hA hK hl
  have hl : lv_has ls 4 [(0, .ref h), (1, .int (nI s1))] := hl
  have hown : s.vm.findClass RX6 = some m.cls := hown
  have hwX6 : ∀ w ∈ wsX60, w.before args s = true := fun w h => hts w (List.mem_cons_of_mem _ (List.mem_append_right _ (h)))
  refine lv_iconst (v := (nI 0)) hx hb dX6_allSlips_0 (by decide) ?_
  refine lv_istore_n (lv' := [(2, .int (nI 0)), (0, .ref h), (1, .int (nI s1))]) hx hb dX6_allSlips_1 rfl hl (by decide) rfl (fun ls hl => ?_)
  refine lv_iconst (v := (nI 0)) hx hb dX6_allSlips_2 (by decide) ?_
  refine lv_istore_n (lv' := [(3, .int (nI 0)), (2, .int (nI 0)), (0, .ref h), (1, .int (nI s1))]) hx hb dX6_allSlips_3 rfl hl (by decide) rfl (fun ls hl => ?_)
  have K4 : ∀ (n : Nat) (j : Nat), 6 - j < n → (j ≤ 5) → ∀ (Mq : mM) (H : Heap) (locs : List Loc), pm D Mq H → mD (mA M sz) Mq → va_S (mA M sz) s.heap H locs → (MW cy Mq h ad t i f) → ∀ (ls : Array Slot), lv_has ls 4 [(0, .ref h), (1, .int (nI s1)), (2, .int (zI (allSlipsA f s1 j))), (3, .int (nI j))] → W p l e ({ frames := 5, cells := 0, slots := 0, locals := 118 } : Room) s m args below meth c H locs 0 0 (MQ below (va_Qi (fun r M' => r = zI (allSlips f s1) ∧ MW cy M' h ad t i f) (mB D M sz) (mA M sz)) args s 0 0 (mA M sz)) (F0 m 4 ls []) := by
    intro n
    induction n with
    | zero => intro j hn; exact absurd hn (by omega)
    | succ n ih4 =>
      intro j hn4 i4_0 Mq H locs hP hD hS hW ls hl
      have hle := allSlipsA_bd hI s1 j
      refine lv_iload_n hx hb dX6_allSlips_4 rfl (lv_at hl 3 rfl) ?_
      refine lv_iconst (v := (nI 4)) hx hb dX6_allSlips_5 (by decide) ?_
      refine z_icmp_gt (u := ((j : Nat) : Int)) (v := ((4 : Nat) : Int)) (tgt := 24) hx hb (nI_toInt (by omega)) (nI_toInt (by omega)) dX6_allSlips_6 (by decide) (fun c_6 => ?_) (fun c_6 => ?_)
      · refine lv_iload_n hx hb dX6_allSlips_24 rfl (lv_at hl 2 rfl) ?_
        exact e_wi hx hb hr hlocks hP hD hS (⟨(show zI (allSlipsA f s1 j) = zI (allSlips f s1) by unfold allSlips; rw [show (5 : Nat) = j by omega]), hW⟩) dX6_allSlips_25
      · refine lv_iload_n hx hb dX6_allSlips_9 rfl (lv_at hl 2 rfl) ?_
        refine lv_aload_n hx hb dX6_allSlips_10 rfl (lv_at hl 0 rfl) ?_
        refine lv_iload_n hx hb dX6_allSlips_11 rfl (lv_at hl 1 rfl) ?_
        refine lv_iload_n hx hb dX6_allSlips_12 rfl (lv_at hl 3 rfl) ?_
        refine m_calli (va_runV (C := RX6) (As := [.int (nI s1), .int (nI j)]) (rest := [.int (zI (allSlipsA f s1 j))]) ⟨hx, hb, hml, hown, hts⟩ (c_X6_slipsOf l D cy _ _ h ad t i f nc s1 j hW hI (by omega) (by omega)) (cwV 2 hts gX6_allSlips_X6_slipsOf rfl rfl rfl (by decide +kernel) ⟨Nat.le_of_ble_eq_true rfl, Nat.le_of_ble_eq_true rfl⟩) (mPreWV hK hP hW.1 (ci := 7) rfl) rfl rfl hl.1 rfl (lv_room (Nat.le_of_ble_eq_true rfl)) dX6_allSlips_13 ⟨Nat.le_of_ble_eq_true rfl, Nat.le_of_ble_eq_true rfl⟩) hD hA hS (fun r9 Mn H locs hq9 hP hD hS hz9 hd9 hk9 => ?_)
        obtain ⟨hr9, hW⟩ := hq9
        have hr9 : r9 = (zI (slipsK f s1 j)) := hr9
        subst hr9
        have hW : MW cy Mn h ad t i f := hW
        have bs_1 := slipsK_bd hI s1 j
        refine z_add (u := (allSlipsA f s1 j)) (v := (slipsK f s1 j)) hx hb (rfl) (rfl) dX6_allSlips_16 ?_
        refine lv_istore_n (lv' := [(2, .int (zI ((allSlipsA f s1 j) + (slipsK f s1 j)))), (0, .ref h), (1, .int (nI s1)), (3, .int (nI j))]) hx hb dX6_allSlips_17 rfl hl (by decide) rfl (fun ls hl => ?_)
        refine n_iinc (x := j) (k := 1) (lv' := [(3, .int (nI (j + 1))), (2, .int (zI ((allSlipsA f s1 j) + (slipsK f s1 j)))), (0, .ref h), (1, .int (nI s1))]) hx hb dX6_allSlips_18 rfl hl (q := 3) rfl (by decide) rfl (fun ls hl => ?_)
        refine lv_goto (tgt := 4) hx hb dX6_allSlips_21 (by decide) ?_
        exact ih4  (j + 1) (by omega) (by omega) _ _ _ hP hD hS (hW) _ (lv_sub hl [2, 3, 1, 0] rfl)
  have hl : lv_has ls 4 [(3, .int (nI 0)), (2, .int (zI (allSlipsA f s1 0))), (0, .ref h), (1, .int (nI s1))] := by
    have heq0 : (.int (zI (allSlipsA f s1 0)) : Value) = .int (nI 0) := congrArg Value.int (nI_zI 0).symm
    rw [heq0]
    exact hl
  exact K4 (6 - 0 + 1) 0 (Nat.lt_succ_self _) (Nat.zero_le _) _ _ _ hP hD hS (hW) _ (lv_sub hl [2, 3, 1, 0] rfl)

set_option maxRecDepth 100000 in
set_option maxHeartbeats 4000000 in
/-- lacking(s) -/
theorem c_X6_lacking (l : Launch) (D : va_G) (cy : Nat → ClassId) (M : mM) (h : Nat) (ad : Nat → Nat) (t : Nat) (i : Nat → Nat) (f : Nat → Nat → Nat) (nc : Nat) (s1 : Nat) (hW : MW cy M h ad t i f) (hI : MI nc i f) (hs : s1 < 40) : mR l yX6_lacking wsX6_lacking ({ frames := 0, cells := 0, slots := 0, locals := 0 } : Room) D cy M [.ref h, .int (nI s1)] (fun r => r = nI (lackS f s1)) := by
  refine mR.of (cc := cX6_lacking) (maxL := 4) (ret := (some .int)) (by decide) rfl (Nat.le_of_ble_eq_true rfl) ?_
  intro p e s m args below meth c ls hx hb hr hts hown hlocks hml hP hK hl
  have hl : lv_has ls 4 [(0, .ref h), (1, .int (nI s1))] := hl
  have hown : s.vm.findClass RX6 = some m.cls := hown
  have hwX6 : ∀ w ∈ wsX60, w.before args s = true := fun w h => hts w (List.mem_cons_of_mem _ (List.mem_append_right _ (h)))
  refine lv_aload_n hx hb dX6_lacking_0 rfl (lv_at hl 0 rfl) ?_
  refine m_get (T := TX6) (N := 24) (ci := 7) (fs := (moF ad t i)) hx hb hwX6 hown hK hP hW.1 rfl 18 (by decide) (hts _ (List.mem_of_getElem? (i := 1) rfl)) (v := .ref (ad 18)) rfl dX6_lacking_1 ?_
  refine lv_iload_n hx hb dX6_lacking_4 rfl (lv_at hl 1 rfl) ?_
  have bd_1 : (f 18) s1 ≤ 3 := hI.2.2.2.2.2 18 s1
  refine n_iald (g := (f 18)) (n := 40) (i := s1) hx hb hK hP (hW.2.1 18 (by decide)) (by omega) (by omega) dX6_lacking_5 ?_
  refine lv_istore_n (lv' := [(2, .int (nI ((f 18) s1))), (0, .ref h), (1, .int (nI s1))]) hx hb dX6_lacking_6 rfl hl (by decide) rfl (fun ls hl => ?_)
  refine lv_iload_n hx hb dX6_lacking_7 rfl (lv_at hl 0 rfl) ?_
  refine lv_iconst (v := (nI 2)) hx hb dX6_lacking_8 (by decide) ?_
  refine z_icmp_ge (u := (((f 18) s1 : Nat) : Int)) (v := ((2 : Nat) : Int)) (tgt := 16) hx hb (nI_toInt (by omega)) (nI_toInt (by omega)) dX6_lacking_9 (by decide) (fun c_9 => ?_) (fun c_9 => ?_)
  · refine lv_aload_n hx hb dX6_lacking_16 rfl (lv_at hl 1 rfl) ?_
    refine m_get (T := TX6) (N := 24) (ci := 7) (fs := (moF ad t i)) hx hb hwX6 hown hK hP hW.1 rfl 16 (by decide) (hts _ (List.mem_of_getElem? (i := 2) rfl)) (v := .ref (ad 16)) rfl dX6_lacking_17 ?_
    refine lv_iconst (v := (nI 3)) hx hb dX6_lacking_20 (by decide) ?_
    refine lv_iload_n hx hb dX6_lacking_21 rfl (lv_at hl 2 rfl) ?_
    refine n_mul (x := 3) (y := s1) hx hb dX6_lacking_22 ?_
    have bd_2 : (f 16) (3 * s1) ≤ 20 := hI.2.2.2.2.2 16 (3 * s1)
    refine n_iald (g := (f 16)) (n := 120) (i := 3 * s1) hx hb hK hP (hW.2.1 16 (by decide)) (by omega) (by omega) dX6_lacking_23 ?_
    refine lv_aload_n hx hb dX6_lacking_24 rfl (lv_at hl 1 rfl) ?_
    refine m_get (T := TX6) (N := 24) (ci := 7) (fs := (moF ad t i)) hx hb hwX6 hown hK hP hW.1 rfl 16 (by decide) (hts _ (List.mem_of_getElem? (i := 2) rfl)) (v := .ref (ad 16)) rfl dX6_lacking_25 ?_
    refine lv_iconst (v := (nI 3)) hx hb dX6_lacking_28 (by decide) ?_
    refine lv_iload_n hx hb dX6_lacking_29 rfl (lv_at hl 2 rfl) ?_
    refine n_mul (x := 3) (y := s1) hx hb dX6_lacking_30 ?_
    refine lv_iconst (v := (nI 1)) hx hb dX6_lacking_31 (by decide) ?_
    refine n_add (x := 3 * s1) (y := 1) hx hb dX6_lacking_32 ?_
    have bd_3 : (f 16) ((3 * s1) + 1) ≤ 20 := hI.2.2.2.2.2 16 ((3 * s1) + 1)
    refine n_iald (g := (f 16)) (n := 120) (i := (3 * s1) + 1) hx hb hK hP (hW.2.1 16 (by decide)) (by omega) (by omega) dX6_lacking_33 ?_
    refine z_sub (u := (((f 16) (3 * s1) : Nat) : Int)) (v := (((f 16) ((3 * s1) + 1) : Nat) : Int)) hx hb (nI_zI _) (nI_zI _) dX6_lacking_34 ?_
    refine lv_istore_n (lv' := [(3, .int (zI ((((f 16) (3 * s1) : Nat) : Int) - (((f 16) ((3 * s1) + 1) : Nat) : Int)))), (2, .int (nI ((f 18) s1))), (0, .ref h), (1, .int (nI s1))]) hx hb dX6_lacking_35 rfl hl (by decide) rfl (fun ls hl => ?_)
    refine lv_iload_n hx hb dX6_lacking_36 rfl (lv_at hl 1 rfl) ?_
    refine lv_iconst (v := (nI 2)) hx hb dX6_lacking_37 (by decide) ?_
    refine z_icmp_ne (u := (((f 18) s1 : Nat) : Int)) (v := ((2 : Nat) : Int)) (tgt := 56) hx hb (nI_toInt (by omega)) (nI_toInt (by omega)) dX6_lacking_38 (by decide) (fun c_38 => ?_) (fun c_38 => ?_)
    · refine lv_iconst (v := (nI 0)) hx hb dX6_lacking_56 (by decide) ?_
      exact e_ri hx hb hr hlocks ((congrArg nI (by unfold lackS; (repeat (first | rw [if_pos (by omega)] | rw [if_neg (by omega)])); (first | done | rfl | omega)))) dX6_lacking_57
    · refine lv_iload_n hx hb dX6_lacking_41 rfl (lv_at hl 0 rfl) ?_
      refine lv_iconst (v := (nI 3)) hx hb dX6_lacking_42 (by decide) ?_
      refine z_icmp_gt (u := ((((f 16) (3 * s1) : Nat) : Int) - (((f 16) ((3 * s1) + 1) : Nat) : Int))) (v := ((3 : Nat) : Int)) (tgt := 52) hx hb (zI_toInt (by omega) (by omega)) (nI_toInt (by omega)) dX6_lacking_43 (by decide) (fun c_43 => ?_) (fun c_43 => ?_)
      · refine lv_iconst (v := (nI 1)) hx hb dX6_lacking_52 (by decide) ?_
        refine lv_goto (tgt := 57) hx hb dX6_lacking_53 (by decide) ?_
        exact e_ri hx hb hr hlocks ((congrArg nI (by unfold lackS; (repeat (first | rw [if_pos (by omega)] | rw [if_neg (by omega)])); (first | done | rfl | omega)))) dX6_lacking_57
      · refine lv_iload_n hx hb dX6_lacking_46 rfl (lv_at hl 0 rfl) ?_
        refine lv_bipush (v := (zI (-3))) hx hb dX6_lacking_47 (by decide) ?_
        refine z_icmp_ge (u := ((((f 16) (3 * s1) : Nat) : Int) - (((f 16) ((3 * s1) + 1) : Nat) : Int))) (v := (-3)) (tgt := 56) hx hb (zI_toInt (by omega) (by omega)) (zI_toInt (by omega) (by omega)) dX6_lacking_49 (by decide) (fun c_49 => ?_) (fun c_49 => ?_)
        · refine lv_iconst (v := (nI 0)) hx hb dX6_lacking_56 (by decide) ?_
          exact e_ri hx hb hr hlocks ((congrArg nI (by unfold lackS; (repeat (first | rw [if_pos (by omega)] | rw [if_neg (by omega)])); (first | done | rfl | omega)))) dX6_lacking_57
        · refine lv_iconst (v := (nI 1)) hx hb dX6_lacking_52 (by decide) ?_
          refine lv_goto (tgt := 57) hx hb dX6_lacking_53 (by decide) ?_
          exact e_ri hx hb hr hlocks ((congrArg nI (by unfold lackS; (repeat (first | rw [if_pos (by omega)] | rw [if_neg (by omega)])); (first | done | rfl | omega)))) dX6_lacking_57
  · refine lv_iconst (v := (nI 2)) hx hb dX6_lacking_12 (by decide) ?_
    refine lv_iload_n hx hb dX6_lacking_13 rfl (lv_at hl 0 rfl) ?_
    refine n_sub (x := 2) (y := (f 18) s1) hx hb (by omega) dX6_lacking_14 ?_
    exact e_ri hx hb hr hlocks ((congrArg nI (by unfold lackS; (repeat (first | rw [if_pos (by omega)] | rw [if_neg (by omega)])); (first | done | rfl | omega)))) dX6_lacking_15

set_option maxRecDepth 100000 in
set_option maxHeartbeats 4000000 in
/-- gradeOf(s) -/
theorem c_X6_gradeOf (l : Launch) (D : va_G) (cy : Nat → ClassId) (M : mM) (h : Nat) (ad : Nat → Nat) (t : Nat) (i : Nat → Nat) (f : Nat → Nat → Nat) (nc : Nat) (s1 : Nat) (hW : MW cy M h ad t i f) (hI : MI nc i f) (hs : s1 < 40) : mR l yX6_gradeOf wsX6_gradeOf ({ frames := 1, cells := 0, slots := 0, locals := 23 } : Room) D cy M [.ref h, .int (nI s1)] (fun r => r = zI (gradeS f s1)) := by
  refine mR.of (cc := cX6_gradeOf) (maxL := 7) (ret := (some .int)) (by decide) rfl (Nat.le_of_ble_eq_true rfl) ?_
  intro p e s m args below meth c ls hx hb hr hts hown hlocks hml hP hK hl
  have hl : lv_has ls 7 [(0, .ref h), (1, .int (nI s1))] := hl
  have hown : s.vm.findClass RX6 = some m.cls := hown
  have hwX6 : ∀ w ∈ wsX60, w.before args s = true := fun w h => hts w (List.mem_cons_of_mem _ (List.mem_append_right _ (h)))
  refine lv_aload_n hx hb dX6_gradeOf_0 rfl (lv_at hl 0 rfl) ?_
  refine lv_iload_n hx hb dX6_gradeOf_1 rfl (lv_at hl 1 rfl) ?_
  refine vp_callSi (W.runV (C := RX6) (As := [.int (nI s1)]) (rest := []) ⟨hx, hb, hml, hown, hts⟩ (c_X6_lacking l D cy _ h ad t i f nc s1 hW hI (by omega)) (cwV 1 hts gX6_gradeOf_X6_lacking rfl rfl rfl (by decide +kernel) ⟨Nat.le_of_ble_eq_true rfl, Nat.le_of_ble_eq_true rfl⟩) (mPreV hK hP hW.1 (ci := 7) rfl) rfl rfl hl.1 rfl (lv_room (Nat.le_of_ble_eq_true rfl)) dX6_gradeOf_2 ⟨Nat.le_of_ble_eq_true rfl, Nat.le_of_ble_eq_true rfl⟩) (fun r9 hr9 => ?_)
  have hr9 : r9 = (nI (lackS f s1)) := hr9
  subst hr9
  have bs_1 : lackS f s1 ≤ 2 := lackS_le _ _
  refine z_if_le (u := ((lackS f s1 : Nat) : Int)) (tgt := 10) hx hb (nI_toInt (by omega)) dX6_gradeOf_5 (by decide) (fun c_5 => ?_) (fun c_5 => ?_)
  · refine lv_aload_n hx hb dX6_gradeOf_10 rfl (lv_at hl 0 rfl) ?_
    refine m_get (T := TX6) (N := 24) (ci := 7) (fs := (moF ad t i)) hx hb hwX6 hown hK hP hW.1 rfl 16 (by decide) (hts _ (List.mem_of_getElem? (i := 1) rfl)) (v := .ref (ad 16)) rfl dX6_gradeOf_11 ?_
    refine lv_iconst (v := (nI 3)) hx hb dX6_gradeOf_14 (by decide) ?_
    refine lv_iload_n hx hb dX6_gradeOf_15 rfl (lv_at hl 1 rfl) ?_
    refine n_mul (x := 3) (y := s1) hx hb dX6_gradeOf_16 ?_
    have bd_2 : (f 16) (3 * s1) ≤ 20 := hI.2.2.2.2.2 16 (3 * s1)
    refine n_iald (g := (f 16)) (n := 120) (i := 3 * s1) hx hb hK hP (hW.2.1 16 (by decide)) (by omega) (by omega) dX6_gradeOf_17 ?_
    refine lv_istore_n (lv' := [(2, .int (nI ((f 16) (3 * s1)))), (0, .ref h), (1, .int (nI s1))]) hx hb dX6_gradeOf_18 rfl hl (by decide) rfl (fun ls hl => ?_)
    refine lv_aload_n hx hb dX6_gradeOf_19 rfl (lv_at hl 1 rfl) ?_
    refine m_get (T := TX6) (N := 24) (ci := 7) (fs := (moF ad t i)) hx hb hwX6 hown hK hP hW.1 rfl 16 (by decide) (hts _ (List.mem_of_getElem? (i := 1) rfl)) (v := .ref (ad 16)) rfl dX6_gradeOf_20 ?_
    refine lv_iconst (v := (nI 3)) hx hb dX6_gradeOf_23 (by decide) ?_
    refine lv_iload_n hx hb dX6_gradeOf_24 rfl (lv_at hl 2 rfl) ?_
    refine n_mul (x := 3) (y := s1) hx hb dX6_gradeOf_25 ?_
    refine lv_iconst (v := (nI 1)) hx hb dX6_gradeOf_26 (by decide) ?_
    refine n_add (x := 3 * s1) (y := 1) hx hb dX6_gradeOf_27 ?_
    have bd_3 : (f 16) ((3 * s1) + 1) ≤ 20 := hI.2.2.2.2.2 16 ((3 * s1) + 1)
    refine n_iald (g := (f 16)) (n := 120) (i := (3 * s1) + 1) hx hb hK hP (hW.2.1 16 (by decide)) (by omega) (by omega) dX6_gradeOf_28 ?_
    refine lv_istore_n (lv' := [(3, .int (nI ((f 16) ((3 * s1) + 1)))), (2, .int (nI ((f 16) (3 * s1)))), (0, .ref h), (1, .int (nI s1))]) hx hb dX6_gradeOf_29 rfl hl (by decide) rfl (fun ls hl => ?_)
    refine lv_aload_n hx hb dX6_gradeOf_30 rfl (lv_at hl 2 rfl) ?_
    refine m_get (T := TX6) (N := 24) (ci := 7) (fs := (moF ad t i)) hx hb hwX6 hown hK hP hW.1 rfl 16 (by decide) (hts _ (List.mem_of_getElem? (i := 1) rfl)) (v := .ref (ad 16)) rfl dX6_gradeOf_31 ?_
    refine lv_iconst (v := (nI 3)) hx hb dX6_gradeOf_34 (by decide) ?_
    refine lv_iload_n hx hb dX6_gradeOf_35 rfl (lv_at hl 3 rfl) ?_
    refine n_mul (x := 3) (y := s1) hx hb dX6_gradeOf_36 ?_
    refine lv_iconst (v := (nI 2)) hx hb dX6_gradeOf_37 (by decide) ?_
    refine n_add (x := 3 * s1) (y := 2) hx hb dX6_gradeOf_38 ?_
    have bd_4 : (f 16) ((3 * s1) + 2) ≤ 20 := hI.2.2.2.2.2 16 ((3 * s1) + 2)
    refine n_iald (g := (f 16)) (n := 120) (i := (3 * s1) + 2) hx hb hK hP (hW.2.1 16 (by decide)) (by omega) (by omega) dX6_gradeOf_39 ?_
    refine lv_istore (lv' := [(4, .int (nI ((f 16) ((3 * s1) + 2)))), (3, .int (nI ((f 16) ((3 * s1) + 1)))), (2, .int (nI ((f 16) (3 * s1)))), (0, .ref h), (1, .int (nI s1))]) hx hb dX6_gradeOf_40 hl (by decide) rfl (fun ls hl => ?_)
    refine lv_aload_n hx hb dX6_gradeOf_42 rfl (lv_at hl 3 rfl) ?_
    refine m_get (T := TX6) (N := 24) (ci := 7) (fs := (moF ad t i)) hx hb hwX6 hown hK hP hW.1 rfl 18 (by decide) (hts _ (List.mem_of_getElem? (i := 2) rfl)) (v := .ref (ad 18)) rfl dX6_gradeOf_43 ?_
    refine lv_iload_n hx hb dX6_gradeOf_46 rfl (lv_at hl 4 rfl) ?_
    have bd_5 : (f 18) s1 ≤ 3 := hI.2.2.2.2.2 18 s1
    refine n_iald (g := (f 18)) (n := 40) (i := s1) hx hb hK hP (hW.2.1 18 (by decide)) (by omega) (by omega) dX6_gradeOf_47 ?_
    refine lv_iconst (v := (nI 2)) hx hb dX6_gradeOf_48 (by decide) ?_
    refine z_icmp_ne (u := (((f 18) s1 : Nat) : Int)) (v := ((2 : Nat) : Int)) (tgt := 58) hx hb (nI_toInt (by omega)) (nI_toInt (by omega)) dX6_gradeOf_49 (by decide) (fun c_49 => ?_) (fun c_49 => ?_)
    · refine lv_iload_n hx hb dX6_gradeOf_58 rfl (lv_at hl 2 rfl) ?_
      refine lv_iload_n hx hb dX6_gradeOf_59 rfl (lv_at hl 1 rfl) ?_
      refine z_icmp_ge (u := (((f 16) (3 * s1) : Nat) : Int)) (v := (((f 16) ((3 * s1) + 1) : Nat) : Int)) (tgt := 67) hx hb (nI_toInt (by omega)) (nI_toInt (by omega)) dX6_gradeOf_60 (by decide) (fun c_60 => ?_) (fun c_60 => ?_)
      · refine lv_iload_n hx hb dX6_gradeOf_67 rfl (lv_at hl 1 rfl) ?_
        refine lv_istore (lv' := [(5, .int (nI ((f 16) ((3 * s1) + 1)))), (4, .int (nI ((f 16) ((3 * s1) + 2)))), (3, .int (nI ((f 16) ((3 * s1) + 1)))), (2, .int (nI ((f 16) (3 * s1)))), (0, .ref h), (1, .int (nI s1))]) hx hb dX6_gradeOf_68 hl (by decide) rfl (fun ls hl => ?_)
        refine lv_iload_n hx hb dX6_gradeOf_70 rfl (lv_at hl 3 rfl) ?_
        refine lv_iload_n hx hb dX6_gradeOf_71 rfl (lv_at hl 2 rfl) ?_
        refine z_icmp_ge (u := (((f 16) (3 * s1) : Nat) : Int)) (v := (((f 16) ((3 * s1) + 1) : Nat) : Int)) (tgt := 79) hx hb (nI_toInt (by omega)) (nI_toInt (by omega)) dX6_gradeOf_72 (by decide) (fun c_72 => ?_) (fun c_72 => ?_)
        · refine lv_iload_n hx hb dX6_gradeOf_79 rfl (lv_at hl 3 rfl) ?_
          refine lv_istore (lv' := [(6, .int (nI ((f 16) (3 * s1)))), (5, .int (nI ((f 16) ((3 * s1) + 1)))), (4, .int (nI ((f 16) ((3 * s1) + 2)))), (3, .int (nI ((f 16) ((3 * s1) + 1)))), (2, .int (nI ((f 16) (3 * s1)))), (0, .ref h), (1, .int (nI s1))]) hx hb dX6_gradeOf_80 hl (by decide) rfl (fun ls hl => ?_)
          refine lv_iload hx hb dX6_gradeOf_82 (lv_at hl 2 rfl) ?_
          refine lv_iload hx hb dX6_gradeOf_84 (lv_at hl 1 rfl) ?_
          refine z_icmp_ge (u := (((f 16) ((3 * s1) + 2) : Nat) : Int)) (v := (((f 16) ((3 * s1) + 1) : Nat) : Int)) (tgt := 94) hx hb (nI_toInt (by omega)) (nI_toInt (by omega)) dX6_gradeOf_86 (by decide) (fun c_86 => ?_) (fun c_86 => ?_)
          · refine lv_iload hx hb dX6_gradeOf_94 (lv_at hl 2 rfl) ?_
            refine lv_iload hx hb dX6_gradeOf_96 (lv_at hl 0 rfl) ?_
            refine z_icmp_le (u := (((f 16) ((3 * s1) + 2) : Nat) : Int)) (v := (((f 16) (3 * s1) : Nat) : Int)) (tgt := 106) hx hb (nI_toInt (by omega)) (nI_toInt (by omega)) dX6_gradeOf_98 (by decide) (fun c_98 => ?_) (fun c_98 => ?_)
            · refine lv_iload hx hb dX6_gradeOf_106 (lv_at hl 2 rfl) ?_
              exact e_ri hx hb hr hlocks (((nI_zI _).trans (congrArg zI (by unfold gradeS; (repeat (first | rw [if_pos (by omega)] | rw [if_neg (by omega)])); (first | done | rfl | omega))))) dX6_gradeOf_108
            · refine lv_iload hx hb dX6_gradeOf_101 (lv_at hl 0 rfl) ?_
              refine lv_goto (tgt := 108) hx hb dX6_gradeOf_103 (by decide) ?_
              exact e_ri hx hb hr hlocks (((nI_zI _).trans (congrArg zI (by unfold gradeS; (repeat (first | rw [if_pos (by omega)] | rw [if_neg (by omega)])); (first | done | rfl | omega))))) dX6_gradeOf_108
          · refine lv_iload hx hb dX6_gradeOf_89 (lv_at hl 1 rfl) ?_
            refine lv_goto (tgt := 108) hx hb dX6_gradeOf_91 (by decide) ?_
            exact e_ri hx hb hr hlocks (((nI_zI _).trans (congrArg zI (by unfold gradeS; (repeat (first | rw [if_pos (by omega)] | rw [if_neg (by omega)])); (first | done | rfl | omega))))) dX6_gradeOf_108
        · refine lv_iload_n hx hb dX6_gradeOf_75 rfl (lv_at hl 2 rfl) ?_
          refine lv_goto (tgt := 80) hx hb dX6_gradeOf_76 (by decide) ?_
          refine lv_istore (lv' := [(6, .int (nI ((f 16) ((3 * s1) + 1)))), (5, .int (nI ((f 16) ((3 * s1) + 1)))), (4, .int (nI ((f 16) ((3 * s1) + 2)))), (3, .int (nI ((f 16) ((3 * s1) + 1)))), (2, .int (nI ((f 16) (3 * s1)))), (0, .ref h), (1, .int (nI s1))]) hx hb dX6_gradeOf_80 hl (by decide) rfl (fun ls hl => ?_)
          refine lv_iload hx hb dX6_gradeOf_82 (lv_at hl 2 rfl) ?_
          refine lv_iload hx hb dX6_gradeOf_84 (lv_at hl 1 rfl) ?_
          refine z_icmp_ge (u := (((f 16) ((3 * s1) + 2) : Nat) : Int)) (v := (((f 16) ((3 * s1) + 1) : Nat) : Int)) (tgt := 94) hx hb (nI_toInt (by omega)) (nI_toInt (by omega)) dX6_gradeOf_86 (by decide) (fun c_86 => ?_) (fun c_86 => ?_)
          · refine lv_iload hx hb dX6_gradeOf_94 (lv_at hl 2 rfl) ?_
            refine lv_iload hx hb dX6_gradeOf_96 (lv_at hl 0 rfl) ?_
            refine z_icmp_le (u := (((f 16) ((3 * s1) + 2) : Nat) : Int)) (v := (((f 16) ((3 * s1) + 1) : Nat) : Int)) (tgt := 106) hx hb (nI_toInt (by omega)) (nI_toInt (by omega)) dX6_gradeOf_98 (by decide) (fun c_98 => ?_) (fun c_98 => ?_)
            · refine lv_iload hx hb dX6_gradeOf_106 (lv_at hl 2 rfl) ?_
              exact e_ri hx hb hr hlocks (((nI_zI _).trans (congrArg zI (by unfold gradeS; (repeat (first | rw [if_pos (by omega)] | rw [if_neg (by omega)])); (first | done | rfl | omega))))) dX6_gradeOf_108
            · refine lv_iload hx hb dX6_gradeOf_101 (lv_at hl 0 rfl) ?_
              refine lv_goto (tgt := 108) hx hb dX6_gradeOf_103 (by decide) ?_
              exact e_ri hx hb hr hlocks (((nI_zI _).trans (congrArg zI (by unfold gradeS; (repeat (first | rw [if_pos (by omega)] | rw [if_neg (by omega)])); (first | done | rfl | omega))))) dX6_gradeOf_108
          · refine lv_iload hx hb dX6_gradeOf_89 (lv_at hl 1 rfl) ?_
            refine lv_goto (tgt := 108) hx hb dX6_gradeOf_91 (by decide) ?_
            exact e_ri hx hb hr hlocks (((nI_zI _).trans (congrArg zI (by unfold gradeS; (repeat (first | rw [if_pos (by omega)] | rw [if_neg (by omega)])); (first | done | rfl | omega))))) dX6_gradeOf_108
      · refine lv_iload_n hx hb dX6_gradeOf_63 rfl (lv_at hl 2 rfl) ?_
        refine lv_goto (tgt := 68) hx hb dX6_gradeOf_64 (by decide) ?_
        refine lv_istore (lv' := [(5, .int (nI ((f 16) (3 * s1)))), (4, .int (nI ((f 16) ((3 * s1) + 2)))), (3, .int (nI ((f 16) ((3 * s1) + 1)))), (2, .int (nI ((f 16) (3 * s1)))), (0, .ref h), (1, .int (nI s1))]) hx hb dX6_gradeOf_68 hl (by decide) rfl (fun ls hl => ?_)
        refine lv_iload_n hx hb dX6_gradeOf_70 rfl (lv_at hl 3 rfl) ?_
        refine lv_iload_n hx hb dX6_gradeOf_71 rfl (lv_at hl 2 rfl) ?_
        refine z_icmp_ge (u := (((f 16) (3 * s1) : Nat) : Int)) (v := (((f 16) ((3 * s1) + 1) : Nat) : Int)) (tgt := 79) hx hb (nI_toInt (by omega)) (nI_toInt (by omega)) dX6_gradeOf_72 (by decide) (fun c_72 => ?_) (fun c_72 => ?_)
        · refine lv_iload_n hx hb dX6_gradeOf_79 rfl (lv_at hl 3 rfl) ?_
          refine lv_istore (lv' := [(6, .int (nI ((f 16) (3 * s1)))), (5, .int (nI ((f 16) (3 * s1)))), (4, .int (nI ((f 16) ((3 * s1) + 2)))), (3, .int (nI ((f 16) ((3 * s1) + 1)))), (2, .int (nI ((f 16) (3 * s1)))), (0, .ref h), (1, .int (nI s1))]) hx hb dX6_gradeOf_80 hl (by decide) rfl (fun ls hl => ?_)
          refine lv_iload hx hb dX6_gradeOf_82 (lv_at hl 2 rfl) ?_
          refine lv_iload hx hb dX6_gradeOf_84 (lv_at hl 1 rfl) ?_
          refine z_icmp_ge (u := (((f 16) ((3 * s1) + 2) : Nat) : Int)) (v := (((f 16) (3 * s1) : Nat) : Int)) (tgt := 94) hx hb (nI_toInt (by omega)) (nI_toInt (by omega)) dX6_gradeOf_86 (by decide) (fun c_86 => ?_) (fun c_86 => ?_)
          · refine lv_iload hx hb dX6_gradeOf_94 (lv_at hl 2 rfl) ?_
            refine lv_iload hx hb dX6_gradeOf_96 (lv_at hl 0 rfl) ?_
            refine z_icmp_le (u := (((f 16) ((3 * s1) + 2) : Nat) : Int)) (v := (((f 16) (3 * s1) : Nat) : Int)) (tgt := 106) hx hb (nI_toInt (by omega)) (nI_toInt (by omega)) dX6_gradeOf_98 (by decide) (fun c_98 => ?_) (fun c_98 => ?_)
            · refine lv_iload hx hb dX6_gradeOf_106 (lv_at hl 2 rfl) ?_
              exact e_ri hx hb hr hlocks (((nI_zI _).trans (congrArg zI (by unfold gradeS; (repeat (first | rw [if_pos (by omega)] | rw [if_neg (by omega)])); (first | done | rfl | omega))))) dX6_gradeOf_108
            · refine lv_iload hx hb dX6_gradeOf_101 (lv_at hl 0 rfl) ?_
              refine lv_goto (tgt := 108) hx hb dX6_gradeOf_103 (by decide) ?_
              exact e_ri hx hb hr hlocks (((nI_zI _).trans (congrArg zI (by unfold gradeS; (repeat (first | rw [if_pos (by omega)] | rw [if_neg (by omega)])); (first | done | rfl | omega))))) dX6_gradeOf_108
          · refine lv_iload hx hb dX6_gradeOf_89 (lv_at hl 1 rfl) ?_
            refine lv_goto (tgt := 108) hx hb dX6_gradeOf_91 (by decide) ?_
            exact e_ri hx hb hr hlocks (((nI_zI _).trans (congrArg zI (by unfold gradeS; (repeat (first | rw [if_pos (by omega)] | rw [if_neg (by omega)])); (first | done | rfl | omega))))) dX6_gradeOf_108
        · refine lv_iload_n hx hb dX6_gradeOf_75 rfl (lv_at hl 2 rfl) ?_
          refine lv_goto (tgt := 80) hx hb dX6_gradeOf_76 (by decide) ?_
          refine lv_istore (lv' := [(6, .int (nI ((f 16) ((3 * s1) + 1)))), (5, .int (nI ((f 16) (3 * s1)))), (4, .int (nI ((f 16) ((3 * s1) + 2)))), (3, .int (nI ((f 16) ((3 * s1) + 1)))), (2, .int (nI ((f 16) (3 * s1)))), (0, .ref h), (1, .int (nI s1))]) hx hb dX6_gradeOf_80 hl (by decide) rfl (fun ls hl => ?_)
          refine lv_iload hx hb dX6_gradeOf_82 (lv_at hl 2 rfl) ?_
          refine lv_iload hx hb dX6_gradeOf_84 (lv_at hl 1 rfl) ?_
          refine z_icmp_ge (u := (((f 16) ((3 * s1) + 2) : Nat) : Int)) (v := (((f 16) (3 * s1) : Nat) : Int)) (tgt := 94) hx hb (nI_toInt (by omega)) (nI_toInt (by omega)) dX6_gradeOf_86 (by decide) (fun c_86 => ?_) (fun c_86 => ?_)
          · refine lv_iload hx hb dX6_gradeOf_94 (lv_at hl 2 rfl) ?_
            refine lv_iload hx hb dX6_gradeOf_96 (lv_at hl 0 rfl) ?_
            refine z_icmp_le (u := (((f 16) ((3 * s1) + 2) : Nat) : Int)) (v := (((f 16) ((3 * s1) + 1) : Nat) : Int)) (tgt := 106) hx hb (nI_toInt (by omega)) (nI_toInt (by omega)) dX6_gradeOf_98 (by decide) (fun c_98 => ?_) (fun c_98 => ?_)
            · refine lv_iload hx hb dX6_gradeOf_106 (lv_at hl 2 rfl) ?_
              exact e_ri hx hb hr hlocks (((nI_zI _).trans (congrArg zI (by unfold gradeS; (repeat (first | rw [if_pos (by omega)] | rw [if_neg (by omega)])); (first | done | rfl | omega))))) dX6_gradeOf_108
            · refine lv_iload hx hb dX6_gradeOf_101 (lv_at hl 0 rfl) ?_
              refine lv_goto (tgt := 108) hx hb dX6_gradeOf_103 (by decide) ?_
              exact e_ri hx hb hr hlocks (((nI_zI _).trans (congrArg zI (by unfold gradeS; (repeat (first | rw [if_pos (by omega)] | rw [if_neg (by omega)])); (first | done | rfl | omega))))) dX6_gradeOf_108
          · refine lv_iload hx hb dX6_gradeOf_89 (lv_at hl 1 rfl) ?_
            refine lv_goto (tgt := 108) hx hb dX6_gradeOf_91 (by decide) ?_
            exact e_ri hx hb hr hlocks (((nI_zI _).trans (congrArg zI (by unfold gradeS; (repeat (first | rw [if_pos (by omega)] | rw [if_neg (by omega)])); (first | done | rfl | omega))))) dX6_gradeOf_108
    · refine lv_iload_n hx hb dX6_gradeOf_52 rfl (lv_at hl 2 rfl) ?_
      refine lv_iload_n hx hb dX6_gradeOf_53 rfl (lv_at hl 1 rfl) ?_
      refine n_add (x := (f 16) (3 * s1)) (y := (f 16) ((3 * s1) + 1)) hx hb dX6_gradeOf_54 ?_
      refine lv_iconst (v := (nI 2)) hx hb dX6_gradeOf_55 (by decide) ?_
      refine n_div (x := ((f 16) (3 * s1)) + ((f 16) ((3 * s1) + 1))) (y := 2) hx hb (by omega) (by omega) (by omega) dX6_gradeOf_56 ?_
      exact e_ri hx hb hr hlocks (((nI_zI _).trans (congrArg zI (by unfold gradeS; (repeat (first | rw [if_pos (by omega)] | rw [if_neg (by omega)])); (first | done | rfl | omega))))) dX6_gradeOf_57
  · refine lv_iconst (v := (zI (-1))) hx hb dX6_gradeOf_8 (by decide) ?_
    exact e_ri hx hb hr hlocks ((congrArg zI (by unfold gradeS; (repeat (first | rw [if_pos (by omega)] | rw [if_neg (by omega)])); (first | done | rfl | omega)))) dX6_gradeOf_9

set_option maxRecDepth 100000 in
set_option maxHeartbeats 4000000 in
/-- hasMarked(a, s) -/
theorem c_X6_hasMarked (l : Launch) (D : va_G) (cy : Nat → ClassId) (M : mM) (h : Nat) (ad : Nat → Nat) (t : Nat) (i : Nat → Nat) (f : Nat → Nat → Nat) (nc : Nat) (a s1 : Nat) (hW : MW cy M h ad t i f) (hI : MI nc i f) (ha : a < 6) (hs : s1 < 40) : mR l yX6_hasMarked wsX6_hasMarked ({ frames := 0, cells := 0, slots := 0, locals := 0 } : Room) D cy M [.ref h, .int (nI a), .int (nI s1)] (fun r => r = nI (b2 (has f a s1))) := by
  refine mR.of (cc := cX6_hasMarked) (maxL := 5) (ret := (some .boolean)) (by decide) rfl (Nat.le_of_ble_eq_true rfl) ?_
  intro p e s m args below meth c ls hx hb hr hts hown hlocks hml hP hK hl
  have hl : lv_has ls 5 [(0, .ref h), (1, .int (nI a)), (2, .int (nI s1))] := hl
  have hown : s.vm.findClass RX6 = some m.cls := hown
  have hwX6 : ∀ w ∈ wsX60, w.before args s = true := fun w h => hts w (List.mem_cons_of_mem _ (List.mem_append_right _ (h)))
  refine lv_iconst (v := (nI 0)) hx hb dX6_hasMarked_0 (by decide) ?_
  refine lv_istore_n (lv' := [(3, .int (nI 0)), (0, .ref h), (1, .int (nI a)), (2, .int (nI s1))]) hx hb dX6_hasMarked_1 rfl hl (by decide) rfl (fun ls hl => ?_)
  refine lv_iconst (v := (nI 0)) hx hb dX6_hasMarked_2 (by decide) ?_
  refine lv_istore (lv' := [(4, .int (nI 0)), (3, .int (nI 0)), (0, .ref h), (1, .int (nI a)), (2, .int (nI s1))]) hx hb dX6_hasMarked_3 hl (by decide) rfl (fun ls hl => ?_)
  have K5 : ∀ (n : Nat) (j : Nat), 4 - j < n → (j ≤ f 18 s1) → ∀ (ls : Array Slot), lv_has ls 5 [(0, .ref h), (1, .int (nI a)), (2, .int (nI s1)), (3, .int (nI (b2 (hasA f a s1 j)))), (4, .int (nI j))] → W p l e ({ frames := 0, cells := 0, slots := 0, locals := 0 } : Room) s m args below meth c s.heap [] 0 0 (MQ below (vp_Si (fun r => r = nI (b2 (has f a s1)))) args s 0 0 (fun _ => False)) (F0 m 5 ls []) := by
    intro n
    induction n with
    | zero => intro j hn; exact absurd hn (by omega)
    | succ n ih5 =>
      intro j hn5 i5_0 ls hl
      refine lv_iload hx hb dX6_hasMarked_5 (lv_at hl 4 rfl) ?_
      refine lv_aload_n hx hb dX6_hasMarked_7 rfl (lv_at hl 0 rfl) ?_
      refine m_get (T := TX6) (N := 24) (ci := 7) (fs := (moF ad t i)) hx hb hwX6 hown hK hP hW.1 rfl 18 (by decide) (hts _ (List.mem_of_getElem? (i := 1) rfl)) (v := .ref (ad 18)) rfl dX6_hasMarked_8 ?_
      refine lv_iload_n hx hb dX6_hasMarked_11 rfl (lv_at hl 2 rfl) ?_
      have bd_1 : (f 18) s1 ≤ 3 := hI.2.2.2.2.2 18 s1
      refine n_iald (g := (f 18)) (n := 40) (i := s1) hx hb hK hP (hW.2.1 18 (by decide)) (by omega) (by omega) dX6_hasMarked_12 ?_
      refine z_icmp_ge (u := ((j : Nat) : Int)) (v := (((f 18) s1 : Nat) : Int)) (tgt := 47) hx hb (nI_toInt (by omega)) (nI_toInt (by omega)) dX6_hasMarked_13 (by decide) (fun c_13 => ?_) (fun c_13 => ?_)
      · refine lv_iload_n hx hb dX6_hasMarked_47 rfl (lv_at hl 3 rfl) ?_
        exact e_rz hx hb hr hlocks (by first | decide | exact b2_le _ | omega) ((show nI (b2 (hasA f a s1 j)) = nI (b2 (has f a s1)) by unfold has; rw [show f 18 s1 = j by omega])) dX6_hasMarked_48
      · refine lv_iload_n hx hb dX6_hasMarked_16 rfl (lv_at hl 3 rfl) ?_
        refine b_if_ne (b := hasA f a s1 j) (tgt := 35) hx hb dX6_hasMarked_17 (by decide) (fun c_17 => ?_) (fun c_17 => ?_)
        · refine lv_iconst (v := (nI 1)) hx hb dX6_hasMarked_35 (by decide) ?_
          refine lv_goto (tgt := 40) hx hb dX6_hasMarked_36 (by decide) ?_
          refine lv_istore_n (lv' := [(3, .int (nI 1)), (0, .ref h), (1, .int (nI a)), (2, .int (nI s1)), (4, .int (nI j))]) hx hb dX6_hasMarked_40 rfl hl (by decide) rfl (fun ls hl => ?_)
          refine n_iinc (x := j) (k := 1) (lv' := [(4, .int (nI (j + 1))), (3, .int (nI 1)), (0, .ref h), (1, .int (nI a)), (2, .int (nI s1))]) hx hb dX6_hasMarked_41 rfl hl (q := 4) rfl (by decide) rfl (fun ls hl => ?_)
          refine lv_goto (tgt := 5) hx hb dX6_hasMarked_44 (by decide) ?_
          have hl : lv_has ls 5 [(4, .int (nI (j + 1))), (3, .int (nI (b2 (hasA f a s1 (j + 1))))), (0, .ref h), (1, .int (nI a)), (2, .int (nI s1))] := by
            have heq0 : (.int (nI (b2 (hasA f a s1 (j + 1)))) : Value) = .int (nI 1) := congrArg Value.int (by first | (exact b2_t (by rw [hasA, c_17]; rfl)) | (exact b2_t (by rw [hasA, decide_eq_true (by omega)]; exact Bool.or_true _)) | (exact b2_f (by rw [hasA, c_17, decide_eq_false (by omega)]; rfl)))
            rw [heq0]
            exact hl
          exact ih5  (j + 1) (by omega) (by omega) _ (lv_sub hl [2, 3, 4, 1, 0] rfl)
        · refine lv_aload_n hx hb dX6_hasMarked_20 rfl (lv_at hl 0 rfl) ?_
          refine m_get (T := TX6) (N := 24) (ci := 7) (fs := (moF ad t i)) hx hb hwX6 hown hK hP hW.1 rfl 17 (by decide) (hts _ (List.mem_of_getElem? (i := 2) rfl)) (v := .ref (ad 17)) rfl dX6_hasMarked_21 ?_
          refine lv_iconst (v := (nI 3)) hx hb dX6_hasMarked_24 (by decide) ?_
          refine lv_iload_n hx hb dX6_hasMarked_25 rfl (lv_at hl 2 rfl) ?_
          refine n_mul (x := 3) (y := s1) hx hb dX6_hasMarked_26 ?_
          refine lv_iload hx hb dX6_hasMarked_27 (lv_at hl 4 rfl) ?_
          refine n_add (x := 3 * s1) (y := j) hx hb dX6_hasMarked_29 ?_
          have bd_2 : (f 17) ((3 * s1) + j) ≤ 5 := hI.2.2.2.2.2 17 ((3 * s1) + j)
          refine n_iald (g := (f 17)) (n := 120) (i := (3 * s1) + j) hx hb hK hP (hW.2.1 17 (by decide)) (by omega) (by omega) dX6_hasMarked_30 ?_
          refine lv_iload_n hx hb dX6_hasMarked_31 rfl (lv_at hl 1 rfl) ?_
          refine z_icmp_ne (u := (((f 17) ((3 * s1) + j) : Nat) : Int)) (v := ((a : Nat) : Int)) (tgt := 39) hx hb (nI_toInt (by omega)) (nI_toInt (by omega)) dX6_hasMarked_32 (by decide) (fun c_32 => ?_) (fun c_32 => ?_)
          · refine lv_iconst (v := (nI 0)) hx hb dX6_hasMarked_39 (by decide) ?_
            refine lv_istore_n (lv' := [(3, .int (nI 0)), (0, .ref h), (1, .int (nI a)), (2, .int (nI s1)), (4, .int (nI j))]) hx hb dX6_hasMarked_40 rfl hl (by decide) rfl (fun ls hl => ?_)
            refine n_iinc (x := j) (k := 1) (lv' := [(4, .int (nI (j + 1))), (3, .int (nI 0)), (0, .ref h), (1, .int (nI a)), (2, .int (nI s1))]) hx hb dX6_hasMarked_41 rfl hl (q := 4) rfl (by decide) rfl (fun ls hl => ?_)
            refine lv_goto (tgt := 5) hx hb dX6_hasMarked_44 (by decide) ?_
            have hl : lv_has ls 5 [(4, .int (nI (j + 1))), (3, .int (nI (b2 (hasA f a s1 (j + 1))))), (0, .ref h), (1, .int (nI a)), (2, .int (nI s1))] := by
              have heq0 : (.int (nI (b2 (hasA f a s1 (j + 1)))) : Value) = .int (nI 0) := congrArg Value.int (by first | (exact b2_t (by rw [hasA, c_17]; rfl)) | (exact b2_t (by rw [hasA, decide_eq_true (by omega)]; exact Bool.or_true _)) | (exact b2_f (by rw [hasA, c_17, decide_eq_false (by omega)]; rfl)))
              rw [heq0]
              exact hl
            exact ih5  (j + 1) (by omega) (by omega) _ (lv_sub hl [2, 3, 4, 1, 0] rfl)
          · refine lv_iconst (v := (nI 1)) hx hb dX6_hasMarked_35 (by decide) ?_
            refine lv_goto (tgt := 40) hx hb dX6_hasMarked_36 (by decide) ?_
            refine lv_istore_n (lv' := [(3, .int (nI 1)), (0, .ref h), (1, .int (nI a)), (2, .int (nI s1)), (4, .int (nI j))]) hx hb dX6_hasMarked_40 rfl hl (by decide) rfl (fun ls hl => ?_)
            refine n_iinc (x := j) (k := 1) (lv' := [(4, .int (nI (j + 1))), (3, .int (nI 1)), (0, .ref h), (1, .int (nI a)), (2, .int (nI s1))]) hx hb dX6_hasMarked_41 rfl hl (q := 4) rfl (by decide) rfl (fun ls hl => ?_)
            refine lv_goto (tgt := 5) hx hb dX6_hasMarked_44 (by decide) ?_
            have hl : lv_has ls 5 [(4, .int (nI (j + 1))), (3, .int (nI (b2 (hasA f a s1 (j + 1))))), (0, .ref h), (1, .int (nI a)), (2, .int (nI s1))] := by
              have heq0 : (.int (nI (b2 (hasA f a s1 (j + 1)))) : Value) = .int (nI 1) := congrArg Value.int (by first | (exact b2_t (by rw [hasA, c_17]; rfl)) | (exact b2_t (by rw [hasA, decide_eq_true (by omega)]; exact Bool.or_true _)) | (exact b2_f (by rw [hasA, c_17, decide_eq_false (by omega)]; rfl)))
              rw [heq0]
              exact hl
            exact ih5  (j + 1) (by omega) (by omega) _ (lv_sub hl [2, 3, 4, 1, 0] rfl)
  exact K5 (4 - 0 + 1) 0 (Nat.lt_succ_self _) (Nat.zero_le _) _ (lv_sub hl [2, 3, 4, 1, 0] rfl)

set_option maxRecDepth 100000 in
set_option maxHeartbeats 4000000 in
/-- pointsOf(s) -/
theorem c_X6_pointsOf (l : Launch) (D : va_G) (cy : Nat → ClassId) (M : mM) (h : Nat) (ad : Nat → Nat) (t : Nat) (i : Nat → Nat) (f : Nat → Nat → Nat) (nc : Nat) (s1 : Nat) (hW : MW cy M h ad t i f) (hI : MI nc i f) (hs : s1 < 40) : mR l yX6_pointsOf wsX6_pointsOf ({ frames := 0, cells := 0, slots := 0, locals := 0 } : Room) D cy M [.ref h, .int (nI s1)] (fun r => r = nI (pts f s1)) := by
  refine mR.of (cc := cX6_pointsOf) (maxL := 4) (ret := (some .int)) (by decide) rfl (Nat.le_of_ble_eq_true rfl) ?_
  intro p e s m args below meth c ls hx hb hr hts hown hlocks hml hP hK hl
  have hl : lv_has ls 4 [(0, .ref h), (1, .int (nI s1))] := hl
  have hown : s.vm.findClass RX6 = some m.cls := hown
  have hwX6 : ∀ w ∈ wsX60, w.before args s = true := fun w h => hts w (List.mem_cons_of_mem _ (List.mem_append_right _ (h)))
  refine lv_iconst (v := (nI 0)) hx hb dX6_pointsOf_0 (by decide) ?_
  refine lv_istore_n (lv' := [(2, .int (nI 0)), (0, .ref h), (1, .int (nI s1))]) hx hb dX6_pointsOf_1 rfl hl (by decide) rfl (fun ls hl => ?_)
  refine lv_iconst (v := (nI 0)) hx hb dX6_pointsOf_2 (by decide) ?_
  refine lv_istore_n (lv' := [(3, .int (nI 0)), (2, .int (nI 0)), (0, .ref h), (1, .int (nI s1))]) hx hb dX6_pointsOf_3 rfl hl (by decide) rfl (fun ls hl => ?_)
  have K4 : ∀ (n : Nat) (j : Nat), 5 - j < n → (j ≤ 4) → ∀ (ls : Array Slot), lv_has ls 4 [(0, .ref h), (1, .int (nI s1)), (2, .int (nI (ptsA f s1 j))), (3, .int (nI j))] → W p l e ({ frames := 0, cells := 0, slots := 0, locals := 0 } : Room) s m args below meth c s.heap [] 0 0 (MQ below (vp_Si (fun r => r = nI (pts f s1))) args s 0 0 (fun _ => False)) (F0 m 4 ls []) := by
    intro n
    induction n with
    | zero => intro j hn; exact absurd hn (by omega)
    | succ n ih4 =>
      intro j hn4 i4_0 ls hl
      have hle := ptsA_le hI s1 j
      refine lv_iload_n hx hb dX6_pointsOf_4 rfl (lv_at hl 3 rfl) ?_
      refine lv_iconst (v := (nI 4)) hx hb dX6_pointsOf_5 (by decide) ?_
      refine z_icmp_ge (u := ((j : Nat) : Int)) (v := ((4 : Nat) : Int)) (tgt := 28) hx hb (nI_toInt (by omega)) (nI_toInt (by omega)) dX6_pointsOf_6 (by decide) (fun c_6 => ?_) (fun c_6 => ?_)
      · refine lv_iload_n hx hb dX6_pointsOf_28 rfl (lv_at hl 2 rfl) ?_
        exact e_ri hx hb hr hlocks ((show nI (ptsA f s1 j) = nI (pts f s1) by unfold pts; rw [show (4 : Nat) = j by omega])) dX6_pointsOf_29
      · refine lv_iload_n hx hb dX6_pointsOf_9 rfl (lv_at hl 2 rfl) ?_
        refine lv_aload_n hx hb dX6_pointsOf_10 rfl (lv_at hl 0 rfl) ?_
        refine m_get (T := TX6) (N := 24) (ci := 7) (fs := (moF ad t i)) hx hb hwX6 hown hK hP hW.1 rfl 21 (by decide) (hts _ (List.mem_of_getElem? (i := 1) rfl)) (v := .ref (ad 21)) rfl dX6_pointsOf_11 ?_
        refine lv_iconst (v := (nI 4)) hx hb dX6_pointsOf_14 (by decide) ?_
        refine lv_iload_n hx hb dX6_pointsOf_15 rfl (lv_at hl 1 rfl) ?_
        refine n_mul (x := 4) (y := s1) hx hb dX6_pointsOf_16 ?_
        refine lv_iload_n hx hb dX6_pointsOf_17 rfl (lv_at hl 3 rfl) ?_
        refine n_add (x := 4 * s1) (y := j) hx hb dX6_pointsOf_18 ?_
        have bd_1 : (f 21) ((4 * s1) + j) ≤ 5 := hI.2.2.2.2.2 21 ((4 * s1) + j)
        refine n_iald (g := (f 21)) (n := 160) (i := (4 * s1) + j) hx hb hK hP (hW.2.1 21 (by decide)) (by omega) (by omega) dX6_pointsOf_19 ?_
        refine n_add (x := ptsA f s1 j) (y := (f 21) ((4 * s1) + j)) hx hb dX6_pointsOf_20 ?_
        refine lv_istore_n (lv' := [(2, .int (nI ((ptsA f s1 j) + ((f 21) ((4 * s1) + j))))), (0, .ref h), (1, .int (nI s1)), (3, .int (nI j))]) hx hb dX6_pointsOf_21 rfl hl (by decide) rfl (fun ls hl => ?_)
        refine n_iinc (x := j) (k := 1) (lv' := [(3, .int (nI (j + 1))), (2, .int (nI ((ptsA f s1 j) + ((f 21) ((4 * s1) + j))))), (0, .ref h), (1, .int (nI s1))]) hx hb dX6_pointsOf_22 rfl hl (q := 3) rfl (by decide) rfl (fun ls hl => ?_)
        refine lv_goto (tgt := 4) hx hb dX6_pointsOf_25 (by decide) ?_
        exact ih4  (j + 1) (by omega) (by omega) _ (lv_sub hl [2, 3, 1, 0] rfl)
  exact K4 (5 - 0 + 1) 0 (Nat.lt_succ_self _) (Nat.zero_le _) _ (lv_sub hl [2, 3, 1, 0] rfl)

set_option maxRecDepth 100000 in
set_option maxHeartbeats 4000000 in
/-- dropsMarks(a, s) -/
theorem c_X6_dropsMarks (l : Launch) (D : va_G) (cy : Nat → ClassId) (M : mM) (sz : Nat) (h : Nat) (ad : Nat → Nat) (t : Nat) (i : Nat → Nat) (f : Nat → Nat → Nat) (nc : Nat) (a s1 : Nat) (hW : MW cy M h ad t i f) (hI : MI nc i f) (hs : s1 < 40) (ha : a < 6) : mWv l yX6_dropsMarks wsX6_dropsMarks ({ frames := 0, cells := 0, slots := 0, locals := 0 } : Room) D cy M sz [.ref h, .int (nI a), .int (nI s1)] (fun M' => MW cy M' h ad t i (dropF f a s1)) 0 0 := by
  refine mW.of (cc := cX6_dropsMarks) (maxL := 6) (ret := none) (by decide) rfl (Nat.le_of_ble_eq_true rfl) ?_
  intro p e s m args below meth c ls hsz hx hb hr hts hown hlocks hml hname hP hD hS hA hK hl
  have hl : lv_has ls 6 [(0, .ref h), (1, .int (nI a)), (2, .int (nI s1))] := hl
  have hown : s.vm.findClass RX6 = some m.cls := hown
  have hwX6 : ∀ w ∈ wsX60, w.before args s = true := fun w h => hts w (List.mem_cons_of_mem _ (List.mem_append_right _ (h)))
  refine lv_iconst (v := (nI 0)) hx hb dX6_dropsMarks_0 (by decide) ?_
  refine lv_istore_n (lv' := [(3, .int (nI 0)), (0, .ref h), (1, .int (nI a)), (2, .int (nI s1))]) hx hb dX6_dropsMarks_1 rfl hl (by decide) rfl (fun ls hl => ?_)
  refine lv_iconst (v := (nI 0)) hx hb dX6_dropsMarks_2 (by decide) ?_
  refine lv_istore (lv' := [(4, .int (nI 0)), (3, .int (nI 0)), (0, .ref h), (1, .int (nI a)), (2, .int (nI s1))]) hx hb dX6_dropsMarks_3 hl (by decide) rfl (fun ls hl => ?_)
  have K5 : ∀ (n : Nat) (j : Nat), 4 - j < n → (j ≤ f 18 s1) → ∀ (Mq : mM) (H : Heap) (locs : List Loc), pm D Mq H → mD (mA M sz) Mq → va_S (mA M sz) s.heap H locs → (MW cy Mq h ad t i (dropM f a s1 j)) → ∀ (ls : Array Slot), lv_has ls 6 [(0, .ref h), (1, .int (nI a)), (2, .int (nI s1)), (3, .int (nI ((dropA f a s1 j).1))), (4, .int (nI j))] → W p l e ({ frames := 0, cells := 0, slots := 0, locals := 0 } : Room) s m args below meth c H locs 0 0 (MQ below (va_Qv (fun M' => MW cy M' h ad t i (dropF f a s1)) (mB D M sz) (mA M sz)) args s 0 0 (mA M sz)) (F0 m 5 ls []) := by
    intro n
    induction n with
    | zero => intro j hn; exact absurd hn (by omega)
    | succ n ih5 =>
      intro j hn5 i5_0 Mq H locs hP hD hS hW ls hl
      have hle := dropA_le f a s1 j
      refine lv_iload hx hb dX6_dropsMarks_5 (lv_at hl 4 rfl) ?_
      refine lv_aload_n hx hb dX6_dropsMarks_7 rfl (lv_at hl 0 rfl) ?_
      refine m_get (T := TX6) (N := 24) (ci := 7) (fs := (moF ad t i)) hx hb hwX6 hown hK hP hW.1 rfl 18 (by decide) (hts _ (List.mem_of_getElem? (i := 1) rfl)) (v := .ref (ad 18)) rfl dX6_dropsMarks_8 ?_
      refine lv_iload_n hx hb dX6_dropsMarks_11 rfl (lv_at hl 2 rfl) ?_
      have bd_1 : (f 18) s1 ≤ 3 := (MI.dropM hI a s1 j).2.2.2.2.2 18 s1
      refine n_iald (g := (f 18)) (n := 40) (i := s1) hx hb hK hP (hW.2.1 18 (by decide)) (by omega) (by omega) dX6_dropsMarks_12 ?_
      refine z_icmp_ge (u := ((j : Nat) : Int)) (v := (((f 18) s1 : Nat) : Int)) (tgt := 78) hx hb (nI_toInt (by omega)) (nI_toInt (by omega)) dX6_dropsMarks_13 (by decide) (fun c_13 => ?_) (fun c_13 => ?_)
      · refine lv_aload_n hx hb dX6_dropsMarks_78 rfl (lv_at hl 0 rfl) ?_
        refine m_get (T := TX6) (N := 24) (ci := 7) (fs := (moF ad t i)) hx hb hwX6 hown hK hP hW.1 rfl 18 (by decide) (hts _ (List.mem_of_getElem? (i := 1) rfl)) (v := .ref (ad 18)) rfl dX6_dropsMarks_79 ?_
        refine lv_iload_n hx hb dX6_dropsMarks_82 rfl (lv_at hl 2 rfl) ?_
        refine lv_iload_n hx hb dX6_dropsMarks_83 rfl (lv_at hl 3 rfl) ?_
        refine n_iast (g := (f 18)) (n := 40) (i := s1) (v := (dropA f a s1 j).1) hx hb hK hP hD hS (hW.2.1 18 (by decide)) (by omega) (by omega) dX6_dropsMarks_84 (fun H locs hP hD hS => ?_)
        have hW := hW.setI 18 (by decide) (va_up (f 18) s1 ((dropA f a s1 j).1))
        exact e_wv hx hb hr hlocks hP hD hS ((by have e9 : f 18 s1 = j := (by omega); unfold dropF; rw [e9]; exact hW)) dX6_dropsMarks_85
      · refine lv_iconst (v := (nI 3)) hx hb dX6_dropsMarks_16 (by decide) ?_
        refine lv_iload_n hx hb dX6_dropsMarks_17 rfl (lv_at hl 2 rfl) ?_
        refine n_mul (x := 3) (y := s1) hx hb dX6_dropsMarks_18 ?_
        refine lv_iload hx hb dX6_dropsMarks_19 (lv_at hl 4 rfl) ?_
        refine n_add (x := 3 * s1) (y := j) hx hb dX6_dropsMarks_21 ?_
        refine lv_istore (lv' := [(5, .int (nI ((3 * s1) + j))), (0, .ref h), (1, .int (nI a)), (2, .int (nI s1)), (3, .int (nI ((dropA f a s1 j).1))), (4, .int (nI j))]) hx hb dX6_dropsMarks_22 hl (by decide) rfl (fun ls hl => ?_)
        refine lv_aload_n hx hb dX6_dropsMarks_24 rfl (lv_at hl 1 rfl) ?_
        refine m_get (T := TX6) (N := 24) (ci := 7) (fs := (moF ad t i)) hx hb hwX6 hown hK hP hW.1 rfl 17 (by decide) (hts _ (List.mem_of_getElem? (i := 2) rfl)) (v := .ref (ad 17)) rfl dX6_dropsMarks_25 ?_
        refine lv_iload hx hb dX6_dropsMarks_28 (lv_at hl 0 rfl) ?_
        have bd_2 : ((dropA f a s1 j).2.2) ((3 * s1) + j) ≤ 5 := (MI.dropM hI a s1 j).2.2.2.2.2 17 ((3 * s1) + j)
        refine n_iald (g := ((dropA f a s1 j).2.2)) (n := 120) (i := (3 * s1) + j) hx hb hK hP (hW.2.1 17 (by decide)) (by omega) (by omega) dX6_dropsMarks_30 ?_
        refine lv_iload_n hx hb dX6_dropsMarks_31 rfl (lv_at hl 2 rfl) ?_
        refine z_icmp_eq (u := ((((dropA f a s1 j).2.2) ((3 * s1) + j) : Nat) : Int)) (v := ((a : Nat) : Int)) (tgt := 72) hx hb (nI_toInt (by omega)) (nI_toInt (by omega)) dX6_dropsMarks_32 (by decide) (fun c_32 => ?_) (fun c_32 => ?_)
        · refine n_iinc (x := j) (k := 1) (lv' := [(4, .int (nI (j + 1))), (5, .int (nI ((3 * s1) + j))), (0, .ref h), (1, .int (nI a)), (2, .int (nI s1)), (3, .int (nI ((dropA f a s1 j).1)))]) hx hb dX6_dropsMarks_72 rfl hl (q := 5) rfl (by decide) rfl (fun ls hl => ?_)
          refine lv_goto (tgt := 5) hx hb dX6_dropsMarks_75 (by decide) ?_
          have hl : lv_has ls 6 [(4, .int (nI (j + 1))), (5, .int (nI ((3 * s1) + j))), (0, .ref h), (1, .int (nI a)), (2, .int (nI s1)), (3, .int (nI ((dropA f a s1 (j + 1)).1)))] := by
            have heq0 : (.int (nI ((dropA f a s1 (j + 1)).1)) : Value) = .int (nI ((dropA f a s1 j).1)) := by first | rw [dropA_eq (by omega)] | rw [dropA_ne (by omega)]
            rw [heq0]
            exact hl
          exact ih5  (j + 1) (by omega) (by omega) _ _ _ hP hD hS (by first | (rw [dropM_eq (by omega)]; exact hW) | (rw [dropM_ne (by omega)]; exact hW)) _ (lv_sub hl [2, 3, 4, 5, 0] rfl)
        · refine lv_aload_n hx hb dX6_dropsMarks_35 rfl (lv_at hl 1 rfl) ?_
          refine m_get (T := TX6) (N := 24) (ci := 7) (fs := (moF ad t i)) hx hb hwX6 hown hK hP hW.1 rfl 16 (by decide) (hts _ (List.mem_of_getElem? (i := 3) rfl)) (v := .ref (ad 16)) rfl dX6_dropsMarks_36 ?_
          refine lv_iconst (v := (nI 3)) hx hb dX6_dropsMarks_39 (by decide) ?_
          refine lv_iload_n hx hb dX6_dropsMarks_40 rfl (lv_at hl 3 rfl) ?_
          refine n_mul (x := 3) (y := s1) hx hb dX6_dropsMarks_41 ?_
          refine lv_iload_n hx hb dX6_dropsMarks_42 rfl (lv_at hl 4 rfl) ?_
          refine n_add (x := 3 * s1) (y := (dropA f a s1 j).1) hx hb dX6_dropsMarks_43 ?_
          refine lv_aload_n hx hb dX6_dropsMarks_44 rfl (lv_at hl 1 rfl) ?_
          refine m_get (T := TX6) (N := 24) (ci := 7) (fs := (moF ad t i)) hx hb hwX6 hown hK hP hW.1 rfl 16 (by decide) (hts _ (List.mem_of_getElem? (i := 3) rfl)) (v := .ref (ad 16)) rfl dX6_dropsMarks_45 ?_
          refine lv_iload hx hb dX6_dropsMarks_48 (lv_at hl 0 rfl) ?_
          have bd_3 : ((dropA f a s1 j).2.1) ((3 * s1) + j) ≤ 20 := (MI.dropM hI a s1 j).2.2.2.2.2 16 ((3 * s1) + j)
          refine n_iald (g := ((dropA f a s1 j).2.1)) (n := 120) (i := (3 * s1) + j) hx hb hK hP (hW.2.1 16 (by decide)) (by omega) (by omega) dX6_dropsMarks_50 ?_
          refine n_iast (g := ((dropA f a s1 j).2.1)) (n := 120) (i := (3 * s1) + ((dropA f a s1 j).1)) (v := ((dropA f a s1 j).2.1) ((3 * s1) + j)) hx hb hK hP hD hS (hW.2.1 16 (by decide)) (by omega) (by omega) dX6_dropsMarks_51 (fun H locs hP hD hS => ?_)
          have hW := hW.setI 16 (by decide) (va_up ((dropA f a s1 j).2.1) ((3 * s1) + ((dropA f a s1 j).1)) (((dropA f a s1 j).2.1) ((3 * s1) + j)))
          refine lv_aload_n hx hb dX6_dropsMarks_52 rfl (lv_at hl 1 rfl) ?_
          refine m_get (T := TX6) (N := 24) (ci := 7) (fs := (moF ad t i)) hx hb hwX6 hown hK hP hW.1 rfl 17 (by decide) (hts _ (List.mem_of_getElem? (i := 2) rfl)) (v := .ref (ad 17)) rfl dX6_dropsMarks_53 ?_
          refine lv_iconst (v := (nI 3)) hx hb dX6_dropsMarks_56 (by decide) ?_
          refine lv_iload_n hx hb dX6_dropsMarks_57 rfl (lv_at hl 3 rfl) ?_
          refine n_mul (x := 3) (y := s1) hx hb dX6_dropsMarks_58 ?_
          refine lv_iload_n hx hb dX6_dropsMarks_59 rfl (lv_at hl 4 rfl) ?_
          refine n_add (x := 3 * s1) (y := (dropA f a s1 j).1) hx hb dX6_dropsMarks_60 ?_
          refine lv_aload_n hx hb dX6_dropsMarks_61 rfl (lv_at hl 1 rfl) ?_
          refine m_get (T := TX6) (N := 24) (ci := 7) (fs := (moF ad t i)) hx hb hwX6 hown hK hP hW.1 rfl 17 (by decide) (hts _ (List.mem_of_getElem? (i := 2) rfl)) (v := .ref (ad 17)) rfl dX6_dropsMarks_62 ?_
          refine lv_iload hx hb dX6_dropsMarks_65 (lv_at hl 0 rfl) ?_
          have bd_4 : ((dropA f a s1 j).2.2) ((3 * s1) + j) ≤ 5 := (MI.dropM hI a s1 j).2.2.2.2.2 17 ((3 * s1) + j)
          refine n_iald (g := ((dropA f a s1 j).2.2)) (n := 120) (i := (3 * s1) + j) hx hb hK hP (hW.2.1 17 (by decide)) (by omega) (by omega) dX6_dropsMarks_67 ?_
          refine n_iast (g := ((dropA f a s1 j).2.2)) (n := 120) (i := (3 * s1) + ((dropA f a s1 j).1)) (v := ((dropA f a s1 j).2.2) ((3 * s1) + j)) hx hb hK hP hD hS (hW.2.1 17 (by decide)) (by omega) (by omega) dX6_dropsMarks_68 (fun H locs hP hD hS => ?_)
          have hW := hW.setI 17 (by decide) (va_up ((dropA f a s1 j).2.2) ((3 * s1) + ((dropA f a s1 j).1)) (((dropA f a s1 j).2.2) ((3 * s1) + j)))
          refine n_iinc (x := (dropA f a s1 j).1) (k := 1) (lv' := [(3, .int (nI (((dropA f a s1 j).1) + 1))), (5, .int (nI ((3 * s1) + j))), (0, .ref h), (1, .int (nI a)), (2, .int (nI s1)), (4, .int (nI j))]) hx hb dX6_dropsMarks_69 rfl hl (q := 4) rfl (by decide) rfl (fun ls hl => ?_)
          refine n_iinc (x := j) (k := 1) (lv' := [(4, .int (nI (j + 1))), (3, .int (nI (((dropA f a s1 j).1) + 1))), (5, .int (nI ((3 * s1) + j))), (0, .ref h), (1, .int (nI a)), (2, .int (nI s1))]) hx hb dX6_dropsMarks_72 rfl hl (q := 5) rfl (by decide) rfl (fun ls hl => ?_)
          refine lv_goto (tgt := 5) hx hb dX6_dropsMarks_75 (by decide) ?_
          have hl : lv_has ls 6 [(4, .int (nI (j + 1))), (3, .int (nI ((dropA f a s1 (j + 1)).1))), (5, .int (nI ((3 * s1) + j))), (0, .ref h), (1, .int (nI a)), (2, .int (nI s1))] := by
            have heq0 : (.int (nI ((dropA f a s1 (j + 1)).1)) : Value) = .int (nI (((dropA f a s1 j).1) + 1)) := by first | rw [dropA_eq (by omega)] | rw [dropA_ne (by omega)]
            rw [heq0]
            exact hl
          exact ih5  (j + 1) (by omega) (by omega) _ _ _ hP hD hS (by first | (rw [dropM_eq (by omega)]; exact hW) | (rw [dropM_ne (by omega)]; exact hW)) _ (lv_sub hl [3, 4, 5, 1, 0] rfl)
  exact K5 (4 - 0 + 1) 0 (Nat.lt_succ_self _) (Nat.zero_le _) _ _ _ hP hD hS (by rw [dropM_0]; exact hW) _ (lv_sub hl [2, 3, 4, 1, 0] rfl)

set_option maxRecDepth 100000 in
set_option maxHeartbeats 4000000 in
/-- worthOf(s) -/
theorem c_X6_worthOf (l : Launch) (D : va_G) (cy : Nat → ClassId) (M : mM) (sz : Nat) (h : Nat) (ad : Nat → Nat) (t : Nat) (i : Nat → Nat) (f : Nat → Nat → Nat) (nc : Nat) (s1 : Nat) (hW : MW cy M h ad t i f) (hI : MI nc i f) (hs : s1 < 40) : mWi l yX6_worthOf wsX6_worthOf ({ frames := 6, cells := 0, slots := 0, locals := 141 } : Room) D cy M sz [.ref h, .int (nI s1)] (fun r M' => r = zI (worthS f s1) ∧ MW cy M' h ad t i f) 0 0 := by
  refine mW.of (cc := cX6_worthOf) (maxL := 3) (ret := (some .int)) (by decide) rfl (Nat.le_of_ble_eq_true rfl) ?_
  intro p e s m args below meth c ls hsz hx hb hr hts hown hlocks hml hname hP hD hS hA hK hl
  have hl : lv_has ls 3 [(0, .ref h), (1, .int (nI s1))] := hl
  have hown : s.vm.findClass RX6 = some m.cls := hown
  have hwX6 : ∀ w ∈ wsX60, w.before args s = true := fun w h => hts w (List.mem_cons_of_mem _ (List.mem_append_right _ (h)))
  refine lv_aload_n hx hb dX6_worthOf_0 rfl (lv_at hl 0 rfl) ?_
  refine lv_iload_n hx hb dX6_worthOf_1 rfl (lv_at hl 1 rfl) ?_
  refine vp_callSi (W.runV (C := RX6) (As := [.int (nI s1)]) (rest := []) ⟨hx, hb, hml, hown, hts⟩ (c_X6_gradeOf l D cy _ h ad t i f nc s1 hW hI (by omega)) (cwV 1 hts gX6_worthOf_X6_gradeOf rfl rfl rfl (by decide +kernel) ⟨Nat.le_of_ble_eq_true rfl, Nat.le_of_ble_eq_true rfl⟩) (mPreV hK hP hW.1 (ci := 7) rfl) rfl rfl hl.1 rfl (lv_room (Nat.le_of_ble_eq_true rfl)) dX6_worthOf_2 ⟨Nat.le_of_ble_eq_true rfl, Nat.le_of_ble_eq_true rfl⟩) (fun r9 hr9 => ?_)
  have hr9 : r9 = (zI (gradeS f s1)) := hr9
  subst hr9
  have bs_1 : -1 ≤ gradeS f s1 ∧ gradeS f s1 ≤ 20 := gradeS_bd hI _
  refine lv_istore_n (lv' := [(2, .int (zI (gradeS f s1))), (0, .ref h), (1, .int (nI s1))]) hx hb dX6_worthOf_5 rfl hl (by decide) rfl (fun ls hl => ?_)
  refine lv_iload_n hx hb dX6_worthOf_6 rfl (lv_at hl 0 rfl) ?_
  refine lv_iconst (v := (zI (-1))) hx hb dX6_worthOf_7 (by decide) ?_
  refine z_icmp_eq (u := (gradeS f s1)) (v := (-1)) (tgt := 20) hx hb (zI_toInt (by omega) (by omega)) (zI_toInt (by omega) (by omega)) dX6_worthOf_8 (by decide) (fun c_8 => ?_) (fun c_8 => ?_)
  · refine lv_sipush (v := (zI (-9999))) hx hb dX6_worthOf_20 (by decide) ?_
    refine lv_goto (tgt := 43) hx hb dX6_worthOf_23 (by decide) ?_
    exact e_wi hx hb hr hlocks hP hD hS (⟨(congrArg zI (by unfold worthS; (repeat (first | rw [if_pos (by omega)] | rw [if_neg (by omega)])); (first | done | rfl | omega))), hW⟩) dX6_worthOf_43
  · refine lv_aload_n hx hb dX6_worthOf_11 rfl (lv_at hl 1 rfl) ?_
    refine m_get (T := TX6) (N := 24) (ci := 7) (fs := (moF ad t i)) hx hb hwX6 hown hK hP hW.1 rfl 20 (by decide) (hts _ (List.mem_of_getElem? (i := 1) rfl)) (v := .ref (ad 20)) rfl dX6_worthOf_12 ?_
    refine lv_iload_n hx hb dX6_worthOf_15 rfl (lv_at hl 2 rfl) ?_
    have bd_2 : (f 20) s1 ≤ 1 := hI.2.2.2.2.2 20 s1
    refine n_zald (g := (f 20)) (n := 40) (i := s1) hx hb hK hP (hW.2.2.1 20 (by decide)) (by omega) (by omega) dX6_worthOf_16 ?_
    refine z_if_ne (u := (((f 20) s1 : Nat) : Int)) (tgt := 26) hx hb (nI_toInt (by omega)) dX6_worthOf_17 (by decide) (fun c_17 => ?_) (fun c_17 => ?_)
    · refine lv_iconst (v := (nI 3)) hx hb dX6_worthOf_26 (by decide) ?_
      refine lv_iload_n hx hb dX6_worthOf_27 rfl (lv_at hl 0 rfl) ?_
      refine z_mul (u := ((3 : Nat) : Int)) (v := (gradeS f s1)) hx hb (nI_zI _) (rfl) dX6_worthOf_28 ?_
      refine lv_iconst (v := (nI 2)) hx hb dX6_worthOf_29 (by decide) ?_
      refine lv_aload_n hx hb dX6_worthOf_30 rfl (lv_at hl 1 rfl) ?_
      refine lv_iload_n hx hb dX6_worthOf_31 rfl (lv_at hl 2 rfl) ?_
      refine vp_callSi (W.runV (C := RX6) (As := [.int (nI s1)]) (rest := [.int (nI 2), .int (zI (((3 : Nat) : Int) * (gradeS f s1)))]) ⟨hx, hb, hml, hown, hts⟩ (c_X6_pointsOf l D cy _ h ad t i f nc s1 hW hI (by omega)) (cwV 1 hts gX6_worthOf_X6_pointsOf rfl rfl rfl (by decide +kernel) ⟨Nat.le_of_ble_eq_true rfl, Nat.le_of_ble_eq_true rfl⟩) (mPreV hK hP hW.1 (ci := 7) rfl) rfl rfl hl.1 rfl (lv_room (Nat.le_of_ble_eq_true rfl)) dX6_worthOf_32 ⟨Nat.le_of_ble_eq_true rfl, Nat.le_of_ble_eq_true rfl⟩) (fun r9 hr9 => ?_)
      have hr9 : r9 = (nI (pts f s1)) := hr9
      subst hr9
      have bs_3 : pts f s1 ≤ 20 := pts_le hI _
      refine n_mul (x := 2) (y := pts f s1) hx hb dX6_worthOf_35 ?_
      refine z_add (u := (((3 : Nat) : Int) * (gradeS f s1))) (v := ((2 * (pts f s1) : Nat) : Int)) hx hb (rfl) (nI_zI _) dX6_worthOf_36 ?_
      refine lv_aload_n hx hb dX6_worthOf_37 rfl (lv_at hl 1 rfl) ?_
      refine lv_iload_n hx hb dX6_worthOf_38 rfl (lv_at hl 2 rfl) ?_
      refine m_calli (va_runV (C := RX6) (As := [.int (nI s1)]) (rest := [.int (zI ((((3 : Nat) : Int) * (gradeS f s1)) + ((2 * (pts f s1) : Nat) : Int)))]) ⟨hx, hb, hml, hown, hts⟩ (c_X6_allSlips l D cy _ _ h ad t i f nc s1 hW hI (by omega)) (cwV 1 hts gX6_worthOf_X6_allSlips rfl rfl rfl (by decide +kernel) ⟨Nat.le_of_ble_eq_true rfl, Nat.le_of_ble_eq_true rfl⟩) (mPreWV hK hP hW.1 (ci := 7) rfl) rfl rfl hl.1 rfl (lv_room (Nat.le_of_ble_eq_true rfl)) dX6_worthOf_39 ⟨Nat.le_of_ble_eq_true rfl, Nat.le_of_ble_eq_true rfl⟩) hD hA hS (fun r9 Mn H locs hq9 hP hD hS hz9 hd9 hk9 => ?_)
      obtain ⟨hr9, hW⟩ := hq9
      have hr9 : r9 = (zI (allSlips f s1)) := hr9
      subst hr9
      have hW : MW cy Mn h ad t i f := hW
      have bs_4 := allSlips_bd hI s1
      refine z_sub (u := ((((3 : Nat) : Int) * (gradeS f s1)) + ((2 * (pts f s1) : Nat) : Int))) (v := (allSlips f s1)) hx hb (rfl) (rfl) dX6_worthOf_42 ?_
      exact e_wi hx hb hr hlocks hP hD hS (⟨(congrArg zI (by unfold worthS; (repeat (first | rw [if_pos (by omega)] | rw [if_neg (by omega)])); (first | done | rfl | omega))), hW⟩) dX6_worthOf_43
    · refine lv_sipush (v := (zI (-9999))) hx hb dX6_worthOf_20 (by decide) ?_
      refine lv_goto (tgt := 43) hx hb dX6_worthOf_23 (by decide) ?_
      exact e_wi hx hb hr hlocks hP hD hS (⟨(congrArg zI (by unfold worthS; (repeat (first | rw [if_pos (by omega)] | rw [if_neg (by omega)])); (first | done | rfl | omega))), hW⟩) dX6_worthOf_43

set_option maxRecDepth 100000 in
set_option maxHeartbeats 4000000 in
/-- placeOf(s) -/
theorem c_X6_placeOf (l : Launch) (D : va_G) (cy : Nat → ClassId) (M : mM) (sz : Nat) (h : Nat) (ad : Nat → Nat) (t : Nat) (i : Nat → Nat) (f : Nat → Nat → Nat) (nc : Nat) (s1 : Nat) (hW : MW cy M h ad t i f) (hI : MI nc i f) (hs : s1 < 40) : mWi l yX6_placeOf wsX6_placeOf ({ frames := 7, cells := 0, slots := 0, locals := 163 } : Room) D cy M sz [.ref h, .int (nI s1)] (fun r M' => r = zI (placeS f (i 10) s1) ∧ MW cy M' h ad t i f) 0 0 := by
  refine mW.of (cc := cX6_placeOf) (maxL := 7) (ret := (some .int)) (by decide) rfl (Nat.le_of_ble_eq_true rfl) ?_
  intro p e s m args below meth c ls hsz hx hb hr hts hown hlocks hml hname hP hD hS hA hK hl
  have hl : lv_has ls 7 [(0, .ref h), (1, .int (nI s1))] := hl
  have hown : s.vm.findClass RX6 = some m.cls := hown
  have hwX6 : ∀ w ∈ wsX60, w.before args s = true := fun w h => hts w (List.mem_cons_of_mem _ (List.mem_append_right _ (h)))
  obtain ⟨-, -, -, -, hi10, -⟩ := id hI
  refine lv_aload_n hx hb dX6_placeOf_0 rfl (lv_at hl 0 rfl) ?_
  refine lv_iload_n hx hb dX6_placeOf_1 rfl (lv_at hl 1 rfl) ?_
  refine m_calli (va_runV (C := RX6) (As := [.int (nI s1)]) (rest := []) ⟨hx, hb, hml, hown, hts⟩ (c_X6_worthOf l D cy _ _ h ad t i f nc s1 hW hI (by omega)) (cwV 1 hts gX6_placeOf_X6_worthOf rfl rfl rfl (by decide +kernel) ⟨Nat.le_of_ble_eq_true rfl, Nat.le_of_ble_eq_true rfl⟩) (mPreWV hK hP hW.1 (ci := 7) rfl) rfl rfl hl.1 rfl (lv_room (Nat.le_of_ble_eq_true rfl)) dX6_placeOf_2 ⟨Nat.le_of_ble_eq_true rfl, Nat.le_of_ble_eq_true rfl⟩) hD hA hS (fun r9 Mn H locs hq9 hP hD hS hz9 hd9 hk9 => ?_)
  obtain ⟨hr9, hW⟩ := hq9
  have hr9 : r9 = (zI (worthS f s1)) := hr9
  subst hr9
  have hW : MW cy Mn h ad t i f := hW
  have bs_1 := worthS_bd hI s1
  refine lv_istore_n (lv' := [(2, .int (zI (worthS f s1))), (0, .ref h), (1, .int (nI s1))]) hx hb dX6_placeOf_5 rfl hl (by decide) rfl (fun ls hl => ?_)
  refine lv_iload_n hx hb dX6_placeOf_6 rfl (lv_at hl 0 rfl) ?_
  refine lv_sipush (v := (zI (-9999))) hx hb dX6_placeOf_7 (by decide) ?_
  refine z_icmp_ne (u := (worthS f s1)) (v := (-9999)) (tgt := 15) hx hb (zI_toInt (by omega) (by omega)) (zI_toInt (by omega) (by omega)) dX6_placeOf_10 (by decide) (fun c_10 => ?_) (fun c_10 => ?_)
  · refine lv_iconst (v := (nI 1)) hx hb dX6_placeOf_15 (by decide) ?_
    refine lv_istore_n (lv' := [(3, .int (nI 1)), (2, .int (zI (worthS f s1))), (0, .ref h), (1, .int (nI s1))]) hx hb dX6_placeOf_16 rfl hl (by decide) rfl (fun ls hl => ?_)
    refine lv_iconst (v := (nI 0)) hx hb dX6_placeOf_17 (by decide) ?_
    refine lv_istore (lv' := [(4, .int (nI 0)), (3, .int (nI 1)), (2, .int (zI (worthS f s1))), (0, .ref h), (1, .int (nI s1))]) hx hb dX6_placeOf_18 hl (by decide) rfl (fun ls hl => ?_)
    have K20 : ∀ (n : Nat) (j : Nat), 41 - j < n → (j ≤ i 10) → ∀ (Mq : mM) (H : Heap) (locs : List Loc), pm D Mq H → mD (mA M sz) Mq → va_S (mA M sz) s.heap H locs → (MW cy Mq h ad t i f) → ∀ (ls : Array Slot), lv_has ls 7 [(0, .ref h), (1, .int (nI s1)), (2, .int (zI (worthS f s1))), (3, .int (nI (placeA f (worthS f s1) s1 j))), (4, .int (nI j))] → W p l e ({ frames := 7, cells := 0, slots := 0, locals := 163 } : Room) s m args below meth c H locs 0 0 (MQ below (va_Qi (fun r M' => r = zI (placeS f (i 10) s1) ∧ MW cy M' h ad t i f) (mB D M sz) (mA M sz)) args s 0 0 (mA M sz)) (F0 m 20 ls []) := by
      intro n
      induction n with
      | zero => intro j hn; exact absurd hn (by omega)
      | succ n ih20 =>
        intro j hn20 i20_0 Mq H locs hP hD hS hW ls hl
        have hle := placeA_le f (worthS f s1) s1 j
        refine lv_iload hx hb dX6_placeOf_20 (lv_at hl 4 rfl) ?_
        refine lv_aload_n hx hb dX6_placeOf_22 rfl (lv_at hl 0 rfl) ?_
        refine m_get (T := TX6) (N := 24) (ci := 7) (fs := (moF ad t i)) hx hb hwX6 hown hK hP hW.1 rfl 10 (by decide) (hts _ (List.mem_of_getElem? (i := 1) rfl)) (v := .int (nI (i 10))) rfl dX6_placeOf_23 ?_
        refine z_icmp_ge (u := ((j : Nat) : Int)) (v := ((i 10 : Nat) : Int)) (tgt := 89) hx hb (nI_toInt (by omega)) (nI_toInt (by omega)) dX6_placeOf_26 (by decide) (fun c_26 => ?_) (fun c_26 => ?_)
        · refine lv_iload_n hx hb dX6_placeOf_89 rfl (lv_at hl 3 rfl) ?_
          exact e_wi hx hb hr hlocks hP hD hS (⟨(nI_zI _).trans (congrArg zI (by unfold placeS; rw [if_neg (by omega), show i 10 = j by omega])), hW⟩) dX6_placeOf_90
        · refine lv_aload_n hx hb dX6_placeOf_29 rfl (lv_at hl 0 rfl) ?_
          refine lv_iload hx hb dX6_placeOf_30 (lv_at hl 4 rfl) ?_
          refine m_calli (va_runV (C := RX6) (As := [.int (nI j)]) (rest := []) ⟨hx, hb, hml, hown, hts⟩ (c_X6_worthOf l D cy _ _ h ad t i f nc j hW hI (by omega)) (cwV 1 hts gX6_placeOf_X6_worthOf rfl rfl rfl (by decide +kernel) ⟨Nat.le_of_ble_eq_true rfl, Nat.le_of_ble_eq_true rfl⟩) (mPreWV hK hP hW.1 (ci := 7) rfl) rfl rfl hl.1 rfl (lv_room (Nat.le_of_ble_eq_true rfl)) dX6_placeOf_32 ⟨Nat.le_of_ble_eq_true rfl, Nat.le_of_ble_eq_true rfl⟩) hD hA hS (fun r9 Mn H locs hq9 hP hD hS hz9 hd9 hk9 => ?_)
          obtain ⟨hr9, hW⟩ := hq9
          have hr9 : r9 = (zI (worthS f j)) := hr9
          subst hr9
          have hW : MW cy Mn h ad t i f := hW
          have bs_2 := worthS_bd hI j
          refine lv_istore (lv' := [(5, .int (zI (worthS f j))), (0, .ref h), (1, .int (nI s1)), (2, .int (zI (worthS f s1))), (3, .int (nI (placeA f (worthS f s1) s1 j))), (4, .int (nI j))]) hx hb dX6_placeOf_35 hl (by decide) rfl (fun ls hl => ?_)
          refine lv_iload hx hb dX6_placeOf_37 (lv_at hl 0 rfl) ?_
          refine lv_sipush (v := (zI (-9999))) hx hb dX6_placeOf_39 (by decide) ?_
          refine z_icmp_eq (u := (worthS f j)) (v := (-9999)) (tgt := 67) hx hb (zI_toInt (by omega) (by omega)) (zI_toInt (by omega) (by omega)) dX6_placeOf_42 (by decide) (fun c_42 => ?_) (fun c_42 => ?_)
          · refine lv_iconst (v := (nI 0)) hx hb dX6_placeOf_67 (by decide) ?_
            refine lv_istore (lv' := [(6, .int (nI 0)), (5, .int (zI (worthS f j))), (0, .ref h), (1, .int (nI s1)), (2, .int (zI (worthS f s1))), (3, .int (nI (placeA f (worthS f s1) s1 j))), (4, .int (nI j))]) hx hb dX6_placeOf_68 hl (by decide) rfl (fun ls hl => ?_)
            refine lv_iload_n hx hb dX6_placeOf_70 rfl (lv_at hl 5 rfl) ?_
            refine lv_iload hx hb dX6_placeOf_71 (lv_at hl 0 rfl) ?_
            refine k_if_eq_0 (tgt := 80) hx hb dX6_placeOf_73 (by decide) ?_
            refine lv_iconst (v := (nI 0)) hx hb dX6_placeOf_80 (by decide) ?_
            refine n_add (x := placeA f (worthS f s1) s1 j) (y := 0) hx hb dX6_placeOf_81 ?_
            refine lv_istore_n (lv' := [(3, .int (nI ((placeA f (worthS f s1) s1 j) + 0))), (6, .int (nI 0)), (5, .int (zI (worthS f j))), (0, .ref h), (1, .int (nI s1)), (2, .int (zI (worthS f s1))), (4, .int (nI j))]) hx hb dX6_placeOf_82 rfl hl (by decide) rfl (fun ls hl => ?_)
            refine n_iinc (x := j) (k := 1) (lv' := [(4, .int (nI (j + 1))), (3, .int (nI ((placeA f (worthS f s1) s1 j) + 0))), (6, .int (nI 0)), (5, .int (zI (worthS f j))), (0, .ref h), (1, .int (nI s1)), (2, .int (zI (worthS f s1)))]) hx hb dX6_placeOf_83 rfl hl (q := 6) rfl (by decide) rfl (fun ls hl => ?_)
            refine lv_goto (tgt := 20) hx hb dX6_placeOf_86 (by decide) ?_
            have hl : lv_has ls 7 [(4, .int (nI (j + 1))), (3, .int (nI (placeA f (worthS f s1) s1 (j + 1)))), (6, .int (nI 0)), (5, .int (zI (worthS f j))), (0, .ref h), (1, .int (nI s1)), (2, .int (zI (worthS f s1)))] := by
              have heq0 : (.int (nI (placeA f (worthS f s1) s1 (j + 1))) : Value) = .int (nI ((placeA f (worthS f s1) s1 j) + 0)) := congrArg Value.int (congrArg nI (by show placeA f (worthS f s1) s1 j + b2 (aheadS f (worthS f s1) s1 j) = _; first | (rw [show aheadS f (worthS f s1) s1 j = true from decide_eq_true (by omega)]; rfl) | (rw [show aheadS f (worthS f s1) s1 j = false from decide_eq_false (by omega)]; rfl)))
              rw [heq0]
              exact hl
            exact ih20  (j + 1) (by omega) (by omega) _ _ _ hP hD hS (hW) _ (lv_sub hl [4, 5, 6, 1, 0] rfl)
          · refine lv_iload hx hb dX6_placeOf_45 (lv_at hl 0 rfl) ?_
            refine lv_iload_n hx hb dX6_placeOf_47 rfl (lv_at hl 3 rfl) ?_
            refine z_icmp_gt (u := (worthS f j)) (v := (worthS f s1)) (tgt := 63) hx hb (zI_toInt (by omega) (by omega)) (zI_toInt (by omega) (by omega)) dX6_placeOf_48 (by decide) (fun c_48 => ?_) (fun c_48 => ?_)
            · refine lv_iconst (v := (nI 1)) hx hb dX6_placeOf_63 (by decide) ?_
              refine lv_goto (tgt := 68) hx hb dX6_placeOf_64 (by decide) ?_
              refine lv_istore (lv' := [(6, .int (nI 1)), (5, .int (zI (worthS f j))), (0, .ref h), (1, .int (nI s1)), (2, .int (zI (worthS f s1))), (3, .int (nI (placeA f (worthS f s1) s1 j))), (4, .int (nI j))]) hx hb dX6_placeOf_68 hl (by decide) rfl (fun ls hl => ?_)
              refine lv_iload_n hx hb dX6_placeOf_70 rfl (lv_at hl 5 rfl) ?_
              refine lv_iload hx hb dX6_placeOf_71 (lv_at hl 0 rfl) ?_
              refine k_if_eq_1 (tgt := 80) hx hb dX6_placeOf_73 (by decide) ?_
              refine lv_iconst (v := (nI 1)) hx hb dX6_placeOf_76 (by decide) ?_
              refine lv_goto (tgt := 81) hx hb dX6_placeOf_77 (by decide) ?_
              refine n_add (x := placeA f (worthS f s1) s1 j) (y := 1) hx hb dX6_placeOf_81 ?_
              refine lv_istore_n (lv' := [(3, .int (nI ((placeA f (worthS f s1) s1 j) + 1))), (6, .int (nI 1)), (5, .int (zI (worthS f j))), (0, .ref h), (1, .int (nI s1)), (2, .int (zI (worthS f s1))), (4, .int (nI j))]) hx hb dX6_placeOf_82 rfl hl (by decide) rfl (fun ls hl => ?_)
              refine n_iinc (x := j) (k := 1) (lv' := [(4, .int (nI (j + 1))), (3, .int (nI ((placeA f (worthS f s1) s1 j) + 1))), (6, .int (nI 1)), (5, .int (zI (worthS f j))), (0, .ref h), (1, .int (nI s1)), (2, .int (zI (worthS f s1)))]) hx hb dX6_placeOf_83 rfl hl (q := 6) rfl (by decide) rfl (fun ls hl => ?_)
              refine lv_goto (tgt := 20) hx hb dX6_placeOf_86 (by decide) ?_
              have hl : lv_has ls 7 [(4, .int (nI (j + 1))), (3, .int (nI (placeA f (worthS f s1) s1 (j + 1)))), (6, .int (nI 1)), (5, .int (zI (worthS f j))), (0, .ref h), (1, .int (nI s1)), (2, .int (zI (worthS f s1)))] := by
                have heq0 : (.int (nI (placeA f (worthS f s1) s1 (j + 1))) : Value) = .int (nI ((placeA f (worthS f s1) s1 j) + 1)) := congrArg Value.int (congrArg nI (by show placeA f (worthS f s1) s1 j + b2 (aheadS f (worthS f s1) s1 j) = _; first | (rw [show aheadS f (worthS f s1) s1 j = true from decide_eq_true (by omega)]; rfl) | (rw [show aheadS f (worthS f s1) s1 j = false from decide_eq_false (by omega)]; rfl)))
                rw [heq0]
                exact hl
              exact ih20  (j + 1) (by omega) (by omega) _ _ _ hP hD hS (hW) _ (lv_sub hl [4, 5, 6, 1, 0] rfl)
            · refine lv_iload hx hb dX6_placeOf_51 (lv_at hl 0 rfl) ?_
              refine lv_iload_n hx hb dX6_placeOf_53 rfl (lv_at hl 3 rfl) ?_
              refine z_icmp_ne (u := (worthS f j)) (v := (worthS f s1)) (tgt := 67) hx hb (zI_toInt (by omega) (by omega)) (zI_toInt (by omega) (by omega)) dX6_placeOf_54 (by decide) (fun c_54 => ?_) (fun c_54 => ?_)
              · refine lv_iconst (v := (nI 0)) hx hb dX6_placeOf_67 (by decide) ?_
                refine lv_istore (lv' := [(6, .int (nI 0)), (5, .int (zI (worthS f j))), (0, .ref h), (1, .int (nI s1)), (2, .int (zI (worthS f s1))), (3, .int (nI (placeA f (worthS f s1) s1 j))), (4, .int (nI j))]) hx hb dX6_placeOf_68 hl (by decide) rfl (fun ls hl => ?_)
                refine lv_iload_n hx hb dX6_placeOf_70 rfl (lv_at hl 5 rfl) ?_
                refine lv_iload hx hb dX6_placeOf_71 (lv_at hl 0 rfl) ?_
                refine k_if_eq_0 (tgt := 80) hx hb dX6_placeOf_73 (by decide) ?_
                refine lv_iconst (v := (nI 0)) hx hb dX6_placeOf_80 (by decide) ?_
                refine n_add (x := placeA f (worthS f s1) s1 j) (y := 0) hx hb dX6_placeOf_81 ?_
                refine lv_istore_n (lv' := [(3, .int (nI ((placeA f (worthS f s1) s1 j) + 0))), (6, .int (nI 0)), (5, .int (zI (worthS f j))), (0, .ref h), (1, .int (nI s1)), (2, .int (zI (worthS f s1))), (4, .int (nI j))]) hx hb dX6_placeOf_82 rfl hl (by decide) rfl (fun ls hl => ?_)
                refine n_iinc (x := j) (k := 1) (lv' := [(4, .int (nI (j + 1))), (3, .int (nI ((placeA f (worthS f s1) s1 j) + 0))), (6, .int (nI 0)), (5, .int (zI (worthS f j))), (0, .ref h), (1, .int (nI s1)), (2, .int (zI (worthS f s1)))]) hx hb dX6_placeOf_83 rfl hl (q := 6) rfl (by decide) rfl (fun ls hl => ?_)
                refine lv_goto (tgt := 20) hx hb dX6_placeOf_86 (by decide) ?_
                have hl : lv_has ls 7 [(4, .int (nI (j + 1))), (3, .int (nI (placeA f (worthS f s1) s1 (j + 1)))), (6, .int (nI 0)), (5, .int (zI (worthS f j))), (0, .ref h), (1, .int (nI s1)), (2, .int (zI (worthS f s1)))] := by
                  have heq0 : (.int (nI (placeA f (worthS f s1) s1 (j + 1))) : Value) = .int (nI ((placeA f (worthS f s1) s1 j) + 0)) := congrArg Value.int (congrArg nI (by show placeA f (worthS f s1) s1 j + b2 (aheadS f (worthS f s1) s1 j) = _; first | (rw [show aheadS f (worthS f s1) s1 j = true from decide_eq_true (by omega)]; rfl) | (rw [show aheadS f (worthS f s1) s1 j = false from decide_eq_false (by omega)]; rfl)))
                  rw [heq0]
                  exact hl
                exact ih20  (j + 1) (by omega) (by omega) _ _ _ hP hD hS (hW) _ (lv_sub hl [4, 5, 6, 1, 0] rfl)
              · refine lv_iload hx hb dX6_placeOf_57 (lv_at hl 5 rfl) ?_
                refine lv_iload_n hx hb dX6_placeOf_59 rfl (lv_at hl 2 rfl) ?_
                refine z_icmp_ge (u := ((j : Nat) : Int)) (v := ((s1 : Nat) : Int)) (tgt := 67) hx hb (nI_toInt (by omega)) (nI_toInt (by omega)) dX6_placeOf_60 (by decide) (fun c_60 => ?_) (fun c_60 => ?_)
                · refine lv_iconst (v := (nI 0)) hx hb dX6_placeOf_67 (by decide) ?_
                  refine lv_istore (lv' := [(6, .int (nI 0)), (5, .int (zI (worthS f j))), (0, .ref h), (1, .int (nI s1)), (2, .int (zI (worthS f s1))), (3, .int (nI (placeA f (worthS f s1) s1 j))), (4, .int (nI j))]) hx hb dX6_placeOf_68 hl (by decide) rfl (fun ls hl => ?_)
                  refine lv_iload_n hx hb dX6_placeOf_70 rfl (lv_at hl 5 rfl) ?_
                  refine lv_iload hx hb dX6_placeOf_71 (lv_at hl 0 rfl) ?_
                  refine k_if_eq_0 (tgt := 80) hx hb dX6_placeOf_73 (by decide) ?_
                  refine lv_iconst (v := (nI 0)) hx hb dX6_placeOf_80 (by decide) ?_
                  refine n_add (x := placeA f (worthS f s1) s1 j) (y := 0) hx hb dX6_placeOf_81 ?_
                  refine lv_istore_n (lv' := [(3, .int (nI ((placeA f (worthS f s1) s1 j) + 0))), (6, .int (nI 0)), (5, .int (zI (worthS f j))), (0, .ref h), (1, .int (nI s1)), (2, .int (zI (worthS f s1))), (4, .int (nI j))]) hx hb dX6_placeOf_82 rfl hl (by decide) rfl (fun ls hl => ?_)
                  refine n_iinc (x := j) (k := 1) (lv' := [(4, .int (nI (j + 1))), (3, .int (nI ((placeA f (worthS f s1) s1 j) + 0))), (6, .int (nI 0)), (5, .int (zI (worthS f j))), (0, .ref h), (1, .int (nI s1)), (2, .int (zI (worthS f s1)))]) hx hb dX6_placeOf_83 rfl hl (q := 6) rfl (by decide) rfl (fun ls hl => ?_)
                  refine lv_goto (tgt := 20) hx hb dX6_placeOf_86 (by decide) ?_
                  have hl : lv_has ls 7 [(4, .int (nI (j + 1))), (3, .int (nI (placeA f (worthS f s1) s1 (j + 1)))), (6, .int (nI 0)), (5, .int (zI (worthS f j))), (0, .ref h), (1, .int (nI s1)), (2, .int (zI (worthS f s1)))] := by
                    have heq0 : (.int (nI (placeA f (worthS f s1) s1 (j + 1))) : Value) = .int (nI ((placeA f (worthS f s1) s1 j) + 0)) := congrArg Value.int (congrArg nI (by show placeA f (worthS f s1) s1 j + b2 (aheadS f (worthS f s1) s1 j) = _; first | (rw [show aheadS f (worthS f s1) s1 j = true from decide_eq_true (by omega)]; rfl) | (rw [show aheadS f (worthS f s1) s1 j = false from decide_eq_false (by omega)]; rfl)))
                    rw [heq0]
                    exact hl
                  exact ih20  (j + 1) (by omega) (by omega) _ _ _ hP hD hS (hW) _ (lv_sub hl [4, 5, 6, 1, 0] rfl)
                · refine lv_iconst (v := (nI 1)) hx hb dX6_placeOf_63 (by decide) ?_
                  refine lv_goto (tgt := 68) hx hb dX6_placeOf_64 (by decide) ?_
                  refine lv_istore (lv' := [(6, .int (nI 1)), (5, .int (zI (worthS f j))), (0, .ref h), (1, .int (nI s1)), (2, .int (zI (worthS f s1))), (3, .int (nI (placeA f (worthS f s1) s1 j))), (4, .int (nI j))]) hx hb dX6_placeOf_68 hl (by decide) rfl (fun ls hl => ?_)
                  refine lv_iload_n hx hb dX6_placeOf_70 rfl (lv_at hl 5 rfl) ?_
                  refine lv_iload hx hb dX6_placeOf_71 (lv_at hl 0 rfl) ?_
                  refine k_if_eq_1 (tgt := 80) hx hb dX6_placeOf_73 (by decide) ?_
                  refine lv_iconst (v := (nI 1)) hx hb dX6_placeOf_76 (by decide) ?_
                  refine lv_goto (tgt := 81) hx hb dX6_placeOf_77 (by decide) ?_
                  refine n_add (x := placeA f (worthS f s1) s1 j) (y := 1) hx hb dX6_placeOf_81 ?_
                  refine lv_istore_n (lv' := [(3, .int (nI ((placeA f (worthS f s1) s1 j) + 1))), (6, .int (nI 1)), (5, .int (zI (worthS f j))), (0, .ref h), (1, .int (nI s1)), (2, .int (zI (worthS f s1))), (4, .int (nI j))]) hx hb dX6_placeOf_82 rfl hl (by decide) rfl (fun ls hl => ?_)
                  refine n_iinc (x := j) (k := 1) (lv' := [(4, .int (nI (j + 1))), (3, .int (nI ((placeA f (worthS f s1) s1 j) + 1))), (6, .int (nI 1)), (5, .int (zI (worthS f j))), (0, .ref h), (1, .int (nI s1)), (2, .int (zI (worthS f s1)))]) hx hb dX6_placeOf_83 rfl hl (q := 6) rfl (by decide) rfl (fun ls hl => ?_)
                  refine lv_goto (tgt := 20) hx hb dX6_placeOf_86 (by decide) ?_
                  have hl : lv_has ls 7 [(4, .int (nI (j + 1))), (3, .int (nI (placeA f (worthS f s1) s1 (j + 1)))), (6, .int (nI 1)), (5, .int (zI (worthS f j))), (0, .ref h), (1, .int (nI s1)), (2, .int (zI (worthS f s1)))] := by
                    have heq0 : (.int (nI (placeA f (worthS f s1) s1 (j + 1))) : Value) = .int (nI ((placeA f (worthS f s1) s1 j) + 1)) := congrArg Value.int (congrArg nI (by show placeA f (worthS f s1) s1 j + b2 (aheadS f (worthS f s1) s1 j) = _; first | (rw [show aheadS f (worthS f s1) s1 j = true from decide_eq_true (by omega)]; rfl) | (rw [show aheadS f (worthS f s1) s1 j = false from decide_eq_false (by omega)]; rfl)))
                    rw [heq0]
                    exact hl
                  exact ih20  (j + 1) (by omega) (by omega) _ _ _ hP hD hS (hW) _ (lv_sub hl [4, 5, 6, 1, 0] rfl)
    exact K20 (41 - 0 + 1) 0 (Nat.lt_succ_self _) (Nat.zero_le _) _ _ _ hP hD hS (hW) _ (lv_sub hl [3, 4, 2, 1, 0] rfl)
  · refine lv_iconst (v := (zI (-1))) hx hb dX6_placeOf_13 (by decide) ?_
    exact e_wi hx hb hr hlocks hP hD hS (⟨congrArg zI (by unfold placeS; rw [if_pos (by omega)]), hW⟩) dX6_placeOf_14
end
section
set_option maxRecDepth 100000 in
set_option maxHeartbeats 4000000 in
/-- stroke -/
theorem c_X6_stroke (l : Launch) (D : va_G) (cy : Nat → ClassId) (M : mM) (sz : Nat) (h : Nat) (ad : Nat → Nat) (t : Nat) (i : Nat → Nat) (f : Nat → Nat → Nat) (nc : Nat)  (x : Int32) (ux : Int) (y : Int32) (uy : Int) (hW : MW cy M h ad t i f) (hI : MI nc i f)  (px : x.toInt = ux) (py : y.toInt = uy) : mWi l yX6_stroke wsX6_stroke ({ frames := 1, cells := 0, slots := 0, locals := 22 } : Room) D cy M sz [.ref h, .int x, .int y] (mPost cy h ad (oStroke ux uy i f)) 0 0 := by
  refine mW.of (cc := cX6_stroke) (maxL := 3) (ret := (some .int)) (by decide) rfl (Nat.le_of_ble_eq_true rfl) ?_
  intro p e s m args below meth c ls hsz hx hb hr hts hown hlocks hml hname hP hD hS hA hK hl
  have hl : lv_has ls 3 [(0, .ref h), (1, .int x), (2, .int y)] := hl
  have hown : s.vm.findClass RX6 = some m.cls := hown
  have hwX6 : ∀ w ∈ wsX60, w.before args s = true := fun w h => hts w (List.mem_cons_of_mem _ (List.mem_append_right _ (h)))
  obtain ⟨hn, hi1, hi2, hi5, hi10, -⟩ := id hI
  have rgx := i32_rng x
  rw [px] at rgx
  have rgy := i32_rng y
  rw [py] at rgy
  refine lv_aload_n hx hb dX6_stroke_0 rfl (lv_at hl 0 rfl) ?_
  refine lv_iload_n hx hb dX6_stroke_1 rfl (lv_at hl 1 rfl) ?_
  refine lv_iconst (v := (nI 0)) hx hb dX6_stroke_2 (by decide) ?_
  refine lv_bipush (v := (nI 8)) hx hb dX6_stroke_3 (by decide) ?_
  refine vp_callSi (W.runS (As := [.int x, .int (nI 0), .int (nI 8)]) (rest := [.ref h]) ⟨hx, hb, hml, hown, hts⟩ (c_X6_in l x (nI 0) (nI 8) ux ((0 : Nat) : Int) ((8 : Nat) : Int) (px) (nI_toInt (by omega)) (nI_toInt (by omega))) (va_cwS 3 hts gX6_stroke_X6_in rfl rfl rfl (by decide +kernel) ⟨Nat.le_of_ble_eq_true rfl, Nat.le_of_ble_eq_true rfl⟩) mPre0 rfl rfl hl.1 rfl (lv_room (Nat.le_of_ble_eq_true rfl)) dX6_stroke_5 ⟨Nat.le_of_ble_eq_true rfl, Nat.le_of_ble_eq_true rfl⟩) (fun r9 hr9 => ?_)
  have hr9 : r9 = (nI (b2 (inB ux ((0 : Nat) : Int) ((8 : Nat) : Int)))) := hr9
  subst hr9
  refine b_if_eq (b := inB ux ((0 : Nat) : Int) ((8 : Nat) : Int)) (tgt := 25) hx hb dX6_stroke_8 (by decide) (fun c_8 => ?_) (fun c_8 => ?_)
  · have c_8 := inB_f c_8
    refine lv_iconst (v := (nI 0)) hx hb dX6_stroke_25 (by decide) ?_
    refine m_calli (va_runV (C := RX6) (As := [.int (nI 0)]) (rest := []) ⟨hx, hb, hml, hown, hts⟩ (c_X6_asks l D cy _ _ h ad t i f nc false hW hI) (cwV 1 hts gX6_stroke_X6_asks rfl rfl rfl (by decide +kernel) ⟨Nat.le_of_ble_eq_true rfl, Nat.le_of_ble_eq_true rfl⟩) (mPreWV hK hP hW.1 (ci := 7) rfl) rfl rfl hl.1 rfl (lv_room (Nat.le_of_ble_eq_true rfl)) dX6_stroke_26 ⟨Nat.le_of_ble_eq_true rfl, Nat.le_of_ble_eq_true rfl⟩) hD hA hS (fun r9 Mn H locs hq9 hP hD hS hz9 hd9 hk9 => ?_)
    obtain ⟨hr9, hW⟩ := hq9
    have hr9 : r9 = (nI 0) := hr9
    subst hr9
    have hW : MW cy Mn h ad 1 i f := hW
    refine k_if_ne_0 (tgt := 34) hx hb dX6_stroke_29 (by decide) ?_
    refine lv_iconst (v := (nI 0)) hx hb dX6_stroke_32 (by decide) ?_
    exact e_wi hx hb hr hlocks hP hD hS (mPost_of (a := 1) (b := ((0 : Nat) : Int)) (i := i) (f := f) (by unfold oStroke; (repeat (first | rw [if_pos (by omega)] | rw [if_neg (by omega)])); (first | done | rfl | omega)) (nI_zI _) hW) dX6_stroke_33
  · have c_8 := inB_t c_8
    refine lv_iload_n hx hb dX6_stroke_11 rfl (lv_at hl 2 rfl) ?_
    refine lv_iconst (v := (nI 0)) hx hb dX6_stroke_12 (by decide) ?_
    refine lv_bipush (v := (nI 8)) hx hb dX6_stroke_13 (by decide) ?_
    refine vp_callSi (W.runS (As := [.int y, .int (nI 0), .int (nI 8)]) (rest := [.ref h]) ⟨hx, hb, hml, hown, hts⟩ (c_X6_in l y (nI 0) (nI 8) uy ((0 : Nat) : Int) ((8 : Nat) : Int) (py) (nI_toInt (by omega)) (nI_toInt (by omega))) (va_cwS 3 hts gX6_stroke_X6_in rfl rfl rfl (by decide +kernel) ⟨Nat.le_of_ble_eq_true rfl, Nat.le_of_ble_eq_true rfl⟩) mPre0 rfl rfl hl.1 rfl (lv_room (Nat.le_of_ble_eq_true rfl)) dX6_stroke_15 ⟨Nat.le_of_ble_eq_true rfl, Nat.le_of_ble_eq_true rfl⟩) (fun r9 hr9 => ?_)
    have hr9 : r9 = (nI (b2 (inB uy ((0 : Nat) : Int) ((8 : Nat) : Int)))) := hr9
    subst hr9
    refine b_if_eq (b := inB uy ((0 : Nat) : Int) ((8 : Nat) : Int)) (tgt := 25) hx hb dX6_stroke_18 (by decide) (fun c_18 => ?_) (fun c_18 => ?_)
    · have c_18 := inB_f c_18
      refine lv_iconst (v := (nI 0)) hx hb dX6_stroke_25 (by decide) ?_
      refine m_calli (va_runV (C := RX6) (As := [.int (nI 0)]) (rest := []) ⟨hx, hb, hml, hown, hts⟩ (c_X6_asks l D cy _ _ h ad t i f nc false hW hI) (cwV 1 hts gX6_stroke_X6_asks rfl rfl rfl (by decide +kernel) ⟨Nat.le_of_ble_eq_true rfl, Nat.le_of_ble_eq_true rfl⟩) (mPreWV hK hP hW.1 (ci := 7) rfl) rfl rfl hl.1 rfl (lv_room (Nat.le_of_ble_eq_true rfl)) dX6_stroke_26 ⟨Nat.le_of_ble_eq_true rfl, Nat.le_of_ble_eq_true rfl⟩) hD hA hS (fun r9 Mn H locs hq9 hP hD hS hz9 hd9 hk9 => ?_)
      obtain ⟨hr9, hW⟩ := hq9
      have hr9 : r9 = (nI 0) := hr9
      subst hr9
      have hW : MW cy Mn h ad 1 i f := hW
      refine k_if_ne_0 (tgt := 34) hx hb dX6_stroke_29 (by decide) ?_
      refine lv_iconst (v := (nI 0)) hx hb dX6_stroke_32 (by decide) ?_
      exact e_wi hx hb hr hlocks hP hD hS (mPost_of (a := 1) (b := ((0 : Nat) : Int)) (i := i) (f := f) (by unfold oStroke; (repeat (first | rw [if_pos (by omega)] | rw [if_neg (by omega)])); (first | done | rfl | omega)) (nI_zI _) hW) dX6_stroke_33
    · have c_18 := inB_t c_18
      refine lv_iconst (v := (nI 1)) hx hb dX6_stroke_21 (by decide) ?_
      refine lv_goto (tgt := 26) hx hb dX6_stroke_22 (by decide) ?_
      refine m_calli (va_runV (C := RX6) (As := [.int (nI 1)]) (rest := []) ⟨hx, hb, hml, hown, hts⟩ (c_X6_asks l D cy _ _ h ad t i f nc true hW hI) (cwV 1 hts gX6_stroke_X6_asks rfl rfl rfl (by decide +kernel) ⟨Nat.le_of_ble_eq_true rfl, Nat.le_of_ble_eq_true rfl⟩) (mPreWV hK hP hW.1 (ci := 7) rfl) rfl rfl hl.1 rfl (lv_room (Nat.le_of_ble_eq_true rfl)) dX6_stroke_26 ⟨Nat.le_of_ble_eq_true rfl, Nat.le_of_ble_eq_true rfl⟩) hD hA hS (fun r9 Mn H locs hq9 hP hD hS hz9 hd9 hk9 => ?_)
      obtain ⟨hr9, hW⟩ := hq9
      have hr9 : r9 = (nI 1) := hr9
      subst hr9
      have hW : MW cy Mn h ad 0 i f := hW
      refine k_if_ne_1 (tgt := 34) hx hb dX6_stroke_29 (by decide) ?_
      have ex_1 : x = (nI ux.toNat) := nI_of_toInt (px) (by omega)
      have ex_2 : y = (nI uy.toNat) := nI_of_toInt (py) (by omega)
      have hl : lv_has ls 3 [(0, .ref h), (1, .int (nI ux.toNat)), (2, .int (nI uy.toNat))] := by
        rw [← ex_1, ← ex_2]
        exact hl
      refine lv_iload_n hx hb dX6_stroke_34 rfl (lv_at hl 1 rfl) ?_
      refine lv_iload_n hx hb dX6_stroke_35 rfl (lv_at hl 2 rfl) ?_
      refine z_icmp_ne (u := ((ux.toNat : Nat) : Int)) (v := ((uy.toNat : Nat) : Int)) (tgt := 45) hx hb (nI_toInt (by omega)) (nI_toInt (by omega)) dX6_stroke_36 (by decide) (fun c_36 => ?_) (fun c_36 => ?_)
      · refine lv_aload_n hx hb dX6_stroke_45 rfl (lv_at hl 0 rfl) ?_
        refine m_get (T := TX6) (N := 24) (ci := 7) (fs := (moF ad 0 i)) hx hb hwX6 hown hK hP hW.1 rfl 1 (by decide) (hts _ (List.mem_of_getElem? (i := 1) rfl)) (v := .int (nI (i 1))) rfl dX6_stroke_46 ?_
        refine lv_bipush (v := (nI 8)) hx hb dX6_stroke_49 (by decide) ?_
        refine z_icmp_ne (u := ((i 1 : Nat) : Int)) (v := ((8 : Nat) : Int)) (tgt := 60) hx hb (nI_toInt (by omega)) (nI_toInt (by omega)) dX6_stroke_51 (by decide) (fun c_51 => ?_) (fun c_51 => ?_)
        · refine lv_aload_n hx hb dX6_stroke_60 rfl (lv_at hl 0 rfl) ?_
          refine m_get (T := TX6) (N := 24) (ci := 7) (fs := (moF ad 0 i)) hx hb hwX6 hown hK hP hW.1 rfl 0 (by decide) (hts _ (List.mem_of_getElem? (i := 2) rfl)) (v := .ref (ad 0)) rfl dX6_stroke_61 ?_
          refine lv_aload_n hx hb dX6_stroke_64 rfl (lv_at hl 0 rfl) ?_
          refine m_get (T := TX6) (N := 24) (ci := 7) (fs := (moF ad 0 i)) hx hb hwX6 hown hK hP hW.1 rfl 1 (by decide) (hts _ (List.mem_of_getElem? (i := 1) rfl)) (v := .int (nI (i 1))) rfl dX6_stroke_65 ?_
          refine lv_bipush (v := (nI 10)) hx hb dX6_stroke_68 (by decide) ?_
          refine lv_iload_n hx hb dX6_stroke_70 rfl (lv_at hl 1 rfl) ?_
          refine n_mul (x := 10) (y := ux.toNat) hx hb dX6_stroke_71 ?_
          refine lv_iload_n hx hb dX6_stroke_72 rfl (lv_at hl 2 rfl) ?_
          refine n_add (x := 10 * ux.toNat) (y := uy.toNat) hx hb dX6_stroke_73 ?_
          refine n_iast (g := (f 0)) (n := 8) (i := i 1) (v := (10 * ux.toNat) + uy.toNat) hx hb hK hP hD hS (hW.2.1 0 (by decide)) (by omega) (by omega) dX6_stroke_74 (fun H locs hP hD hS => ?_)
          have hW := hW.setI 0 (by decide) (va_up (f 0) (i 1) ((10 * ux.toNat) + uy.toNat))
          refine lv_aload_n hx hb dX6_stroke_75 rfl (lv_at hl 0 rfl) ?_
          refine lv_dup hx hb dX6_stroke_76 rfl ?_
          refine m_get (T := TX6) (N := 24) (ci := 7) (fs := (moF ad 0 i)) hx hb hwX6 hown hK hP hW.1 rfl 1 (by decide) (hts _ (List.mem_of_getElem? (i := 1) rfl)) (v := .int (nI (i 1))) rfl dX6_stroke_77 ?_
          refine lv_iconst (v := (nI 1)) hx hb dX6_stroke_80 (by decide) ?_
          refine n_add (x := i 1) (y := 1) hx hb dX6_stroke_81 ?_
          refine m_put (T := TX6) (N := 24) (ci := 7) (fs := (moF ad 0 i)) (v := .int (nI ((i 1) + 1))) hx hb hwX6 tyX6 tyX6_ok nmX6 hown hK hP hD hS hW.1 rfl 1 (by decide) (hts _ (List.mem_of_getElem? (i := 1) rfl)) rfl (rfl) rfl (Nat.le_of_ble_eq_true rfl) dX6_stroke_82 (fun H locs hP hD hS => ?_)
          have hW := hW.setO 0 (va_up i 1 ((i 1) + 1))
          refine lv_aload_n hx hb dX6_stroke_85 rfl (lv_at hl 0 rfl) ?_
          refine m_get (T := TX6) (N := 24) (ci := 7) (fs := (moF ad 0 (va_up i 1 ((i 1) + 1)))) hx hb hwX6 hown hK hP hW.1 rfl 1 (by decide) (hts _ (List.mem_of_getElem? (i := 1) rfl)) (v := .int (nI ((i 1) + 1))) rfl dX6_stroke_86 ?_
          exact e_wi hx hb hr hlocks hP hD hS (mPost_of (a := 0) (b := (((i 1) + 1 : Nat) : Int)) (i := va_up i 1 ((i 1) + 1)) (f := va_up f 0 (va_up (f 0) (i 1) ((10 * ux.toNat) + uy.toNat))) (by unfold oStroke; (repeat (first | rw [if_pos (by omega)] | rw [if_neg (by omega)])); (first | done | rfl | omega)) (nI_zI _) hW) dX6_stroke_89
        · refine lv_aload_n hx hb dX6_stroke_54 rfl (lv_at hl 0 rfl) ?_
          refine lv_iconst (v := (nI 3)) hx hb dX6_stroke_55 (by decide) ?_
          refine m_calli (va_runV (C := RX6) (As := [.int (nI 3)]) (rest := []) ⟨hx, hb, hml, hown, hts⟩ (c_X6_fails l D cy _ _ h ad 0 i f nc 3 hW hI) (cwV 1 hts gX6_stroke_X6_fails rfl rfl rfl (by decide +kernel) ⟨Nat.le_of_ble_eq_true rfl, Nat.le_of_ble_eq_true rfl⟩) (mPreWV hK hP hW.1 (ci := 7) rfl) rfl rfl hl.1 rfl (lv_room (Nat.le_of_ble_eq_true rfl)) dX6_stroke_56 ⟨Nat.le_of_ble_eq_true rfl, Nat.le_of_ble_eq_true rfl⟩) hD hA hS (fun r9 Mn H locs hq9 hP hD hS hz9 hd9 hk9 => ?_)
          obtain ⟨hr9, hW⟩ := hq9
          have hr9 : r9 = (nI 0) := hr9
          subst hr9
          have hW : MW cy Mn h ad 3 i f := hW
          exact e_wi hx hb hr hlocks hP hD hS (mPost_of (a := 3) (b := ((0 : Nat) : Int)) (i := i) (f := f) (by unfold oStroke; (repeat (first | rw [if_pos (by omega)] | rw [if_neg (by omega)])); (first | done | rfl | omega)) (nI_zI _) hW) dX6_stroke_59
      · refine lv_aload_n hx hb dX6_stroke_39 rfl (lv_at hl 0 rfl) ?_
        refine lv_iconst (v := (nI 2)) hx hb dX6_stroke_40 (by decide) ?_
        refine m_calli (va_runV (C := RX6) (As := [.int (nI 2)]) (rest := []) ⟨hx, hb, hml, hown, hts⟩ (c_X6_fails l D cy _ _ h ad 0 i f nc 2 hW hI) (cwV 1 hts gX6_stroke_X6_fails rfl rfl rfl (by decide +kernel) ⟨Nat.le_of_ble_eq_true rfl, Nat.le_of_ble_eq_true rfl⟩) (mPreWV hK hP hW.1 (ci := 7) rfl) rfl rfl hl.1 rfl (lv_room (Nat.le_of_ble_eq_true rfl)) dX6_stroke_41 ⟨Nat.le_of_ble_eq_true rfl, Nat.le_of_ble_eq_true rfl⟩) hD hA hS (fun r9 Mn H locs hq9 hP hD hS hz9 hd9 hk9 => ?_)
        obtain ⟨hr9, hW⟩ := hq9
        have hr9 : r9 = (nI 0) := hr9
        subst hr9
        have hW : MW cy Mn h ad 2 i f := hW
        exact e_wi hx hb hr hlocks hP hD hS (mPost_of (a := 2) (b := ((0 : Nat) : Int)) (i := i) (f := f) (by unfold oStroke; (repeat (first | rw [if_pos (by omega)] | rw [if_neg (by omega)])); (first | done | rfl | omega)) (nI_zI _) hW) dX6_stroke_44

set_option maxRecDepth 100000 in
set_option maxHeartbeats 4000000 in
/-- lift -/
theorem c_X6_lift (l : Launch) (D : va_G) (cy : Nat → ClassId) (M : mM) (sz : Nat) (h : Nat) (ad : Nat → Nat) (t : Nat) (i : Nat → Nat) (f : Nat → Nat → Nat) (nc : Nat)  (hW : MW cy M h ad t i f) (hI : MI nc i f)  : mWi l yX6_lift wsX6_lift ({ frames := 0, cells := 0, slots := 0, locals := 0 } : Room) D cy M sz [.ref h] (mPost cy h ad (oLift  i f)) 0 0 := by
  refine mW.of (cc := cX6_lift) (maxL := 2) (ret := (some .int)) (by decide) rfl (Nat.le_of_ble_eq_true rfl) ?_
  intro p e s m args below meth c ls hsz hx hb hr hts hown hlocks hml hname hP hD hS hA hK hl
  have hl : lv_has ls 2 [(0, .ref h)] := hl
  have hown : s.vm.findClass RX6 = some m.cls := hown
  have hwX6 : ∀ w ∈ wsX60, w.before args s = true := fun w h => hts w (List.mem_cons_of_mem _ (List.mem_append_right _ (h)))
  obtain ⟨hn, hi1, hi2, hi5, hi10, -⟩ := id hI
  refine lv_aload_n hx hb dX6_lift_0 rfl (lv_at hl 0 rfl) ?_
  refine lv_iconst (v := (nI 0)) hx hb dX6_lift_1 (by decide) ?_
  refine m_put (T := TX6) (N := 24) (ci := 7) (fs := (moF ad t i)) (v := .int (nI 0)) hx hb hwX6 tyX6 tyX6_ok nmX6 hown hK hP hD hS hW.1 rfl 22 (by decide) (hts _ (List.mem_of_getElem? (i := 1) rfl)) rfl (rfl) rfl (Nat.le_of_ble_eq_true rfl) dX6_lift_2 (fun H locs hP hD hS => ?_)
  have hW := hW.setO 0 i
  refine lv_aload_n hx hb dX6_lift_5 rfl (lv_at hl 0 rfl) ?_
  refine m_get (T := TX6) (N := 24) (ci := 7) (fs := (moF ad 0 i)) hx hb hwX6 hown hK hP hW.1 rfl 1 (by decide) (hts _ (List.mem_of_getElem? (i := 2) rfl)) (v := .int (nI (i 1))) rfl dX6_lift_6 ?_
  refine lv_istore_n (lv' := [(1, .int (nI (i 1))), (0, .ref h)]) hx hb dX6_lift_9 rfl hl (by decide) rfl (fun ls hl => ?_)
  refine lv_aload_n hx hb dX6_lift_10 rfl (lv_at hl 1 rfl) ?_
  refine lv_iconst (v := (nI 0)) hx hb dX6_lift_11 (by decide) ?_
  refine m_put (T := TX6) (N := 24) (ci := 7) (fs := (moF ad 0 i)) (v := .int (nI 0)) hx hb hwX6 tyX6 tyX6_ok nmX6 hown hK hP hD hS hW.1 rfl 1 (by decide) (hts _ (List.mem_of_getElem? (i := 2) rfl)) rfl (rfl) rfl (Nat.le_of_ble_eq_true rfl) dX6_lift_12 (fun H locs hP hD hS => ?_)
  have hW := hW.setO 0 (va_up i 1 0)
  refine lv_iload_n hx hb dX6_lift_15 rfl (lv_at hl 0 rfl) ?_
  exact e_wi hx hb hr hlocks hP hD hS (mPost_of (a := 0) (b := ((i 1 : Nat) : Int)) (i := va_up i 1 0) (f := f) (by unfold oLift; (repeat (first | rw [if_pos (by omega)] | rw [if_neg (by omega)])); (first | done | rfl | omega)) (nI_zI _) hW) dX6_lift_16

set_option maxRecDepth 100000 in
set_option maxHeartbeats 4000000 in
/-- strokeOf -/
theorem c_X6_strokeOf (l : Launch) (D : va_G) (cy : Nat → ClassId) (M : mM) (sz : Nat) (h : Nat) (ad : Nat → Nat) (t : Nat) (i : Nat → Nat) (f : Nat → Nat → Nat) (nc : Nat)  (x : Int32) (ux : Int) (y : Int32) (uy : Int) (hW : MW cy M h ad t i f) (hI : MI nc i f)  (px : x.toInt = ux) (py : y.toInt = uy) : mWi l yX6_strokeOf wsX6_strokeOf ({ frames := 2, cells := 0, slots := 0, locals := 43 } : Room) D cy M sz [.ref h, .int x, .int y] (mPost cy h ad (oStrokeOf ux uy i f)) 0 0 := by
  refine mW.of (cc := cX6_strokeOf) (maxL := 3) (ret := (some .int)) (by decide) rfl (Nat.le_of_ble_eq_true rfl) ?_
  intro p e s m args below meth c ls hsz hx hb hr hts hown hlocks hml hname hP hD hS hA hK hl
  have hl : lv_has ls 3 [(0, .ref h), (1, .int x), (2, .int y)] := hl
  have hown : s.vm.findClass RX6 = some m.cls := hown
  have hwX6 : ∀ w ∈ wsX60, w.before args s = true := fun w h => hts w (List.mem_cons_of_mem _ (List.mem_append_right _ (h)))
  obtain ⟨hn, hi1, hi2, hi5, hi10, -⟩ := id hI
  have rgx := i32_rng x
  rw [px] at rgx
  have rgy := i32_rng y
  rw [py] at rgy
  refine lv_aload_n hx hb dX6_strokeOf_0 rfl (lv_at hl 0 rfl) ?_
  refine lv_aload_n hx hb dX6_strokeOf_1 rfl (lv_at hl 0 rfl) ?_
  refine lv_iload_n hx hb dX6_strokeOf_2 rfl (lv_at hl 1 rfl) ?_
  refine vp_callSi (W.runV (C := RX6) (As := [.int x]) (rest := [.ref h]) ⟨hx, hb, hml, hown, hts⟩ (c_X6_isLetter l D cy _ h ad t i f nc x ux hW hI (px)) (cwV 1 hts gX6_strokeOf_X6_isLetter rfl rfl rfl (by decide +kernel) ⟨Nat.le_of_ble_eq_true rfl, Nat.le_of_ble_eq_true rfl⟩) (mPreV hK hP hW.1 (ci := 7) rfl) rfl rfl hl.1 rfl (lv_room (Nat.le_of_ble_eq_true rfl)) dX6_strokeOf_3 ⟨Nat.le_of_ble_eq_true rfl, Nat.le_of_ble_eq_true rfl⟩) (fun r9 hr9 => ?_)
  have hr9 : r9 = (nI (b2 (inB ux 0 ((i 2 : Int) - 1)))) := hr9
  subst hr9
  refine b_if_eq (b := inB ux 0 ((i 2 : Int) - 1)) (tgt := 17) hx hb dX6_strokeOf_6 (by decide) (fun c_6 => ?_) (fun c_6 => ?_)
  · have c_6 := inB_f c_6
    refine lv_iconst (v := (nI 0)) hx hb dX6_strokeOf_17 (by decide) ?_
    refine m_calli (va_runV (C := RX6) (As := [.int (nI 0)]) (rest := []) ⟨hx, hb, hml, hown, hts⟩ (c_X6_asks l D cy _ _ h ad t i f nc false hW hI) (cwV 1 hts gX6_strokeOf_X6_asks rfl rfl rfl (by decide +kernel) ⟨Nat.le_of_ble_eq_true rfl, Nat.le_of_ble_eq_true rfl⟩) (mPreWV hK hP hW.1 (ci := 7) rfl) rfl rfl hl.1 rfl (lv_room (Nat.le_of_ble_eq_true rfl)) dX6_strokeOf_18 ⟨Nat.le_of_ble_eq_true rfl, Nat.le_of_ble_eq_true rfl⟩) hD hA hS (fun r9 Mn H locs hq9 hP hD hS hz9 hd9 hk9 => ?_)
    obtain ⟨hr9, hW⟩ := hq9
    have hr9 : r9 = (nI 0) := hr9
    subst hr9
    have hW : MW cy Mn h ad 1 i f := hW
    refine k_if_ne_0 (tgt := 26) hx hb dX6_strokeOf_21 (by decide) ?_
    refine lv_iconst (v := (nI 0)) hx hb dX6_strokeOf_24 (by decide) ?_
    exact e_wi hx hb hr hlocks hP hD hS (mPost_of (a := 1) (b := ((0 : Nat) : Int)) (i := i) (f := f) (by unfold oStrokeOf; (repeat (first | rw [if_pos (by omega)] | rw [if_neg (by omega)])); (first | done | rfl | omega)) (nI_zI _) hW) dX6_strokeOf_25
  · have c_6 := inB_t c_6
    refine lv_iload_n hx hb dX6_strokeOf_9 rfl (lv_at hl 2 rfl) ?_
    refine z_if_lt (u := uy) (tgt := 17) hx hb (py) dX6_strokeOf_10 (by decide) (fun c_10 => ?_) (fun c_10 => ?_)
    · refine lv_iconst (v := (nI 0)) hx hb dX6_strokeOf_17 (by decide) ?_
      refine m_calli (va_runV (C := RX6) (As := [.int (nI 0)]) (rest := []) ⟨hx, hb, hml, hown, hts⟩ (c_X6_asks l D cy _ _ h ad t i f nc false hW hI) (cwV 1 hts gX6_strokeOf_X6_asks rfl rfl rfl (by decide +kernel) ⟨Nat.le_of_ble_eq_true rfl, Nat.le_of_ble_eq_true rfl⟩) (mPreWV hK hP hW.1 (ci := 7) rfl) rfl rfl hl.1 rfl (lv_room (Nat.le_of_ble_eq_true rfl)) dX6_strokeOf_18 ⟨Nat.le_of_ble_eq_true rfl, Nat.le_of_ble_eq_true rfl⟩) hD hA hS (fun r9 Mn H locs hq9 hP hD hS hz9 hd9 hk9 => ?_)
      obtain ⟨hr9, hW⟩ := hq9
      have hr9 : r9 = (nI 0) := hr9
      subst hr9
      have hW : MW cy Mn h ad 1 i f := hW
      refine k_if_ne_0 (tgt := 26) hx hb dX6_strokeOf_21 (by decide) ?_
      refine lv_iconst (v := (nI 0)) hx hb dX6_strokeOf_24 (by decide) ?_
      exact e_wi hx hb hr hlocks hP hD hS (mPost_of (a := 1) (b := ((0 : Nat) : Int)) (i := i) (f := f) (by unfold oStrokeOf; (repeat (first | rw [if_pos (by omega)] | rw [if_neg (by omega)])); (first | done | rfl | omega)) (nI_zI _) hW) dX6_strokeOf_25
    · refine lv_iconst (v := (nI 1)) hx hb dX6_strokeOf_13 (by decide) ?_
      refine lv_goto (tgt := 18) hx hb dX6_strokeOf_14 (by decide) ?_
      refine m_calli (va_runV (C := RX6) (As := [.int (nI 1)]) (rest := []) ⟨hx, hb, hml, hown, hts⟩ (c_X6_asks l D cy _ _ h ad t i f nc true hW hI) (cwV 1 hts gX6_strokeOf_X6_asks rfl rfl rfl (by decide +kernel) ⟨Nat.le_of_ble_eq_true rfl, Nat.le_of_ble_eq_true rfl⟩) (mPreWV hK hP hW.1 (ci := 7) rfl) rfl rfl hl.1 rfl (lv_room (Nat.le_of_ble_eq_true rfl)) dX6_strokeOf_18 ⟨Nat.le_of_ble_eq_true rfl, Nat.le_of_ble_eq_true rfl⟩) hD hA hS (fun r9 Mn H locs hq9 hP hD hS hz9 hd9 hk9 => ?_)
      obtain ⟨hr9, hW⟩ := hq9
      have hr9 : r9 = (nI 1) := hr9
      subst hr9
      have hW : MW cy Mn h ad 0 i f := hW
      refine k_if_ne_1 (tgt := 26) hx hb dX6_strokeOf_21 (by decide) ?_
      have ex_1 : x = (nI ux.toNat) := nI_of_toInt (px) (by omega)
      have ex_2 : y = (nI uy.toNat) := nI_of_toInt (py) (by omega)
      have hl : lv_has ls 3 [(0, .ref h), (1, .int (nI ux.toNat)), (2, .int (nI uy.toNat))] := by
        rw [← ex_1, ← ex_2]
        exact hl
      refine lv_iload_n hx hb dX6_strokeOf_26 rfl (lv_at hl 2 rfl) ?_
      refine lv_aload_n hx hb dX6_strokeOf_27 rfl (lv_at hl 0 rfl) ?_
      refine m_get (T := TX6) (N := 24) (ci := 7) (fs := (moF ad 0 i)) hx hb hwX6 hown hK hP hW.1 rfl 4 (by decide) (hts _ (List.mem_of_getElem? (i := 1) rfl)) (v := .ref (ad 4)) rfl dX6_strokeOf_28 ?_
      refine lv_iload_n hx hb dX6_strokeOf_31 rfl (lv_at hl 1 rfl) ?_
      have bd_1 : (f 4) ux.toNat ≤ 6 := hI.2.2.2.2.2 4 ux.toNat
      refine n_iald (g := (f 4)) (n := 10) (i := ux.toNat) hx hb hK hP (hW.2.1 4 (by decide)) (by omega) (by omega) dX6_strokeOf_32 ?_
      refine z_icmp_ge (u := ((uy.toNat : Nat) : Int)) (v := (((f 4) ux.toNat : Nat) : Int)) (tgt := 50) hx hb (nI_toInt (by omega)) (nI_toInt (by omega)) dX6_strokeOf_33 (by decide) (fun c_33 => ?_) (fun c_33 => ?_)
      · refine lv_iconst (v := (zI (-1))) hx hb dX6_strokeOf_50 (by decide) ?_
        exact e_wi hx hb hr hlocks hP hD hS (mPost_of (a := 0) (b := -1) (i := i) (f := f) (by unfold oStrokeOf; (repeat (first | rw [if_pos (by omega)] | rw [if_neg (by omega)])); (first | done | rfl | omega)) (rfl) hW) dX6_strokeOf_51
      · refine lv_aload_n hx hb dX6_strokeOf_36 rfl (lv_at hl 0 rfl) ?_
        refine m_get (T := TX6) (N := 24) (ci := 7) (fs := (moF ad 0 i)) hx hb hwX6 hown hK hP hW.1 rfl 3 (by decide) (hts _ (List.mem_of_getElem? (i := 2) rfl)) (v := .ref (ad 3)) rfl dX6_strokeOf_37 ?_
        refine lv_bipush (v := (nI 6)) hx hb dX6_strokeOf_40 (by decide) ?_
        refine lv_iload_n hx hb dX6_strokeOf_42 rfl (lv_at hl 1 rfl) ?_
        refine n_mul (x := 6) (y := ux.toNat) hx hb dX6_strokeOf_43 ?_
        refine lv_iload_n hx hb dX6_strokeOf_44 rfl (lv_at hl 2 rfl) ?_
        refine n_add (x := 6 * ux.toNat) (y := uy.toNat) hx hb dX6_strokeOf_45 ?_
        have bd_2 : (f 3) ((6 * ux.toNat) + uy.toNat) ≤ 88 := hI.2.2.2.2.2 3 ((6 * ux.toNat) + uy.toNat)
        refine n_iald (g := (f 3)) (n := 60) (i := (6 * ux.toNat) + uy.toNat) hx hb hK hP (hW.2.1 3 (by decide)) (by omega) (by omega) dX6_strokeOf_46 ?_
        refine lv_goto (tgt := 51) hx hb dX6_strokeOf_47 (by decide) ?_
        exact e_wi hx hb hr hlocks hP hD hS (mPost_of (a := 0) (b := (((f 3) ((6 * ux.toNat) + uy.toNat) : Nat) : Int)) (i := i) (f := f) (by unfold oStrokeOf; (repeat (first | rw [if_pos (by omega)] | rw [if_neg (by omega)])); (first | done | rfl | omega)) (nI_zI _) hW) dX6_strokeOf_51

set_option maxRecDepth 100000 in
set_option maxHeartbeats 4000000 in
/-- pupil -/
theorem c_X6_pupil (l : Launch) (D : va_G) (cy : Nat → ClassId) (M : mM) (sz : Nat) (h : Nat) (ad : Nat → Nat) (t : Nat) (i : Nat → Nat) (f : Nat → Nat → Nat) (nc : Nat)  (x : Int32) (ux : Int) (y : Int32) (uy : Int) (b : Bool) (hW : MW cy M h ad t i f) (hI : MI nc i f)  (px : x.toInt = ux) (py : y.toInt = uy) : mWi l yX6_pupil wsX6_pupil ({ frames := 1, cells := 0, slots := 0, locals := 22 } : Room) D cy M sz [.ref h, .int x, .int y, .int (nI (b2 b))] (mPost cy h ad (oPupil ux uy b i f)) 0 0 := by
  refine mW.of (cc := cX6_pupil) (maxL := 4) (ret := (some .int)) (by decide) rfl (Nat.le_of_ble_eq_true rfl) ?_
  intro p e s m args below meth c ls hsz hx hb hr hts hown hlocks hml hname hP hD hS hA hK hl
  have hl : lv_has ls 4 [(0, .ref h), (1, .int x), (2, .int y), (3, .int (nI (b2 b)))] := hl
  have hown : s.vm.findClass RX6 = some m.cls := hown
  have hwX6 : ∀ w ∈ wsX60, w.before args s = true := fun w h => hts w (List.mem_cons_of_mem _ (List.mem_append_right _ (h)))
  obtain ⟨hn, hi1, hi2, hi5, hi10, -⟩ := id hI
  have rgx := i32_rng x
  rw [px] at rgx
  have rgy := i32_rng y
  rw [py] at rgy
  refine lv_aload_n hx hb dX6_pupil_0 rfl (lv_at hl 0 rfl) ?_
  refine lv_iload_n hx hb dX6_pupil_1 rfl (lv_at hl 1 rfl) ?_
  refine lv_iconst (v := (nI 0)) hx hb dX6_pupil_2 (by decide) ?_
  refine lv_iconst (v := (nI 3)) hx hb dX6_pupil_3 (by decide) ?_
  refine vp_callSi (W.runS (As := [.int x, .int (nI 0), .int (nI 3)]) (rest := [.ref h]) ⟨hx, hb, hml, hown, hts⟩ (c_X6_in l x (nI 0) (nI 3) ux ((0 : Nat) : Int) ((3 : Nat) : Int) (px) (nI_toInt (by omega)) (nI_toInt (by omega))) (va_cwS 3 hts gX6_pupil_X6_in rfl rfl rfl (by decide +kernel) ⟨Nat.le_of_ble_eq_true rfl, Nat.le_of_ble_eq_true rfl⟩) mPre0 rfl rfl hl.1 rfl (lv_room (Nat.le_of_ble_eq_true rfl)) dX6_pupil_4 ⟨Nat.le_of_ble_eq_true rfl, Nat.le_of_ble_eq_true rfl⟩) (fun r9 hr9 => ?_)
  have hr9 : r9 = (nI (b2 (inB ux ((0 : Nat) : Int) ((3 : Nat) : Int)))) := hr9
  subst hr9
  refine m_calli (va_runV (C := RX6) (As := [.int (nI (b2 (inB ux ((0 : Nat) : Int) ((3 : Nat) : Int))))]) (rest := []) ⟨hx, hb, hml, hown, hts⟩ (c_X6_asks l D cy _ _ h ad t i f nc (inB ux ((0 : Nat) : Int) ((3 : Nat) : Int)) hW hI) (cwV 1 hts gX6_pupil_X6_asks rfl rfl rfl (by decide +kernel) ⟨Nat.le_of_ble_eq_true rfl, Nat.le_of_ble_eq_true rfl⟩) (mPreWV hK hP hW.1 (ci := 7) rfl) rfl rfl hl.1 rfl (lv_room (Nat.le_of_ble_eq_true rfl)) dX6_pupil_7 ⟨Nat.le_of_ble_eq_true rfl, Nat.le_of_ble_eq_true rfl⟩) hD hA hS (fun r9 Mn H locs hq9 hP hD hS hz9 hd9 hk9 => ?_)
  obtain ⟨hr9, hW⟩ := hq9
  have hr9 : r9 = (nI (b2 (inB ux ((0 : Nat) : Int) ((3 : Nat) : Int)))) := hr9
  subst hr9
  have hW : MW cy Mn h ad (b2 (!(inB ux ((0 : Nat) : Int) ((3 : Nat) : Int)))) i f := hW
  refine b_if_ne (b := inB ux ((0 : Nat) : Int) ((3 : Nat) : Int)) (tgt := 15) hx hb dX6_pupil_10 (by decide) (fun c_10 => ?_) (fun c_10 => ?_)
  · have hW := MW.tt hW c_10
    have c_10 := inB_t c_10
    refine lv_iload_n hx hb dX6_pupil_15 rfl (lv_at hl 2 rfl) ?_
    refine lv_iconst (v := (nI 5)) hx hb dX6_pupil_16 (by decide) ?_
    refine lv_bipush (v := (nI 16)) hx hb dX6_pupil_17 (by decide) ?_
    refine vp_callSi (W.runS (As := [.int y, .int (nI 5), .int (nI 16)]) (rest := []) ⟨hx, hb, hml, hown, hts⟩ (c_X6_in l y (nI 5) (nI 16) uy ((5 : Nat) : Int) ((16 : Nat) : Int) (py) (nI_toInt (by omega)) (nI_toInt (by omega))) (va_cwS 3 hts gX6_pupil_X6_in rfl rfl rfl (by decide +kernel) ⟨Nat.le_of_ble_eq_true rfl, Nat.le_of_ble_eq_true rfl⟩) mPre0 rfl rfl hl.1 rfl (lv_room (Nat.le_of_ble_eq_true rfl)) dX6_pupil_19 ⟨Nat.le_of_ble_eq_true rfl, Nat.le_of_ble_eq_true rfl⟩) (fun r9 hr9 => ?_)
    have hr9 : r9 = (nI (b2 (inB uy ((5 : Nat) : Int) ((16 : Nat) : Int)))) := hr9
    subst hr9
    refine b_if_ne (b := inB uy ((5 : Nat) : Int) ((16 : Nat) : Int)) (tgt := 31) hx hb dX6_pupil_22 (by decide) (fun c_22 => ?_) (fun c_22 => ?_)
    · have c_22 := inB_t c_22
      have ex_1 : x = (nI ux.toNat) := nI_of_toInt (px) (by omega)
      have ex_2 : y = (nI uy.toNat) := nI_of_toInt (py) (by omega)
      have hl : lv_has ls 4 [(0, .ref h), (1, .int (nI ux.toNat)), (2, .int (nI uy.toNat)), (3, .int (nI (b2 b)))] := by
        rw [← ex_1, ← ex_2]
        exact hl
      refine lv_aload_n hx hb dX6_pupil_31 rfl (lv_at hl 0 rfl) ?_
      refine m_get (T := TX6) (N := 24) (ci := 7) (fs := (moF ad 0 i)) hx hb hwX6 hown hK hP hW.1 rfl 5 (by decide) (hts _ (List.mem_of_getElem? (i := 1) rfl)) (v := .int (nI (i 5))) rfl dX6_pupil_32 ?_
      refine lv_bipush (v := (nI 20)) hx hb dX6_pupil_35 (by decide) ?_
      refine z_icmp_ne (u := ((i 5 : Nat) : Int)) (v := ((20 : Nat) : Int)) (tgt := 46) hx hb (nI_toInt (by omega)) (nI_toInt (by omega)) dX6_pupil_37 (by decide) (fun c_37 => ?_) (fun c_37 => ?_)
      · refine lv_aload_n hx hb dX6_pupil_46 rfl (lv_at hl 0 rfl) ?_
        refine m_get (T := TX6) (N := 24) (ci := 7) (fs := (moF ad 0 i)) hx hb hwX6 hown hK hP hW.1 rfl 6 (by decide) (hts _ (List.mem_of_getElem? (i := 2) rfl)) (v := .ref (ad 6)) rfl dX6_pupil_47 ?_
        refine lv_aload_n hx hb dX6_pupil_50 rfl (lv_at hl 0 rfl) ?_
        refine m_get (T := TX6) (N := 24) (ci := 7) (fs := (moF ad 0 i)) hx hb hwX6 hown hK hP hW.1 rfl 5 (by decide) (hts _ (List.mem_of_getElem? (i := 1) rfl)) (v := .int (nI (i 5))) rfl dX6_pupil_51 ?_
        refine lv_iload_n hx hb dX6_pupil_54 rfl (lv_at hl 1 rfl) ?_
        refine n_iast (g := (f 6)) (n := 20) (i := i 5) (v := ux.toNat) hx hb hK hP hD hS (hW.2.1 6 (by decide)) (by omega) (by omega) dX6_pupil_55 (fun H locs hP hD hS => ?_)
        have hW := hW.setI 6 (by decide) (va_up (f 6) (i 5) ux.toNat)
        refine lv_aload_n hx hb dX6_pupil_56 rfl (lv_at hl 0 rfl) ?_
        refine m_get (T := TX6) (N := 24) (ci := 7) (fs := (moF ad 0 i)) hx hb hwX6 hown hK hP hW.1 rfl 7 (by decide) (hts _ (List.mem_of_getElem? (i := 3) rfl)) (v := .ref (ad 7)) rfl dX6_pupil_57 ?_
        refine lv_aload_n hx hb dX6_pupil_60 rfl (lv_at hl 0 rfl) ?_
        refine m_get (T := TX6) (N := 24) (ci := 7) (fs := (moF ad 0 i)) hx hb hwX6 hown hK hP hW.1 rfl 5 (by decide) (hts _ (List.mem_of_getElem? (i := 1) rfl)) (v := .int (nI (i 5))) rfl dX6_pupil_61 ?_
        refine lv_iload_n hx hb dX6_pupil_64 rfl (lv_at hl 2 rfl) ?_
        refine n_iast (g := (f 7)) (n := 20) (i := i 5) (v := uy.toNat) hx hb hK hP hD hS (hW.2.1 7 (by decide)) (by omega) (by omega) dX6_pupil_65 (fun H locs hP hD hS => ?_)
        have hW := hW.setI 7 (by decide) (va_up (f 7) (i 5) uy.toNat)
        refine lv_aload_n hx hb dX6_pupil_66 rfl (lv_at hl 0 rfl) ?_
        refine m_get (T := TX6) (N := 24) (ci := 7) (fs := (moF ad 0 i)) hx hb hwX6 hown hK hP hW.1 rfl 8 (by decide) (hts _ (List.mem_of_getElem? (i := 4) rfl)) (v := .ref (ad 8)) rfl dX6_pupil_67 ?_
        refine lv_aload_n hx hb dX6_pupil_70 rfl (lv_at hl 0 rfl) ?_
        refine m_get (T := TX6) (N := 24) (ci := 7) (fs := (moF ad 0 i)) hx hb hwX6 hown hK hP hW.1 rfl 5 (by decide) (hts _ (List.mem_of_getElem? (i := 1) rfl)) (v := .int (nI (i 5))) rfl dX6_pupil_71 ?_
        refine lv_iload_n hx hb dX6_pupil_74 rfl (lv_at hl 3 rfl) ?_
        refine n_zast (g := (f 8)) (n := 20) (i := i 5) (v := b2 b) hx hb hK hP hD hS (hW.2.2.1 8 (by decide)) (by omega) (by omega) (b2_le _) dX6_pupil_75 (fun H locs hP hD hS => ?_)
        have hW := hW.setZ 8 (by decide) (va_up (f 8) (i 5) (b2 b))
        refine lv_aload_n hx hb dX6_pupil_76 rfl (lv_at hl 0 rfl) ?_
        refine lv_dup hx hb dX6_pupil_77 rfl ?_
        refine m_get (T := TX6) (N := 24) (ci := 7) (fs := (moF ad 0 i)) hx hb hwX6 hown hK hP hW.1 rfl 5 (by decide) (hts _ (List.mem_of_getElem? (i := 1) rfl)) (v := .int (nI (i 5))) rfl dX6_pupil_78 ?_
        refine lv_iconst (v := (nI 1)) hx hb dX6_pupil_81 (by decide) ?_
        refine n_add (x := i 5) (y := 1) hx hb dX6_pupil_82 ?_
        refine m_put (T := TX6) (N := 24) (ci := 7) (fs := (moF ad 0 i)) (v := .int (nI ((i 5) + 1))) hx hb hwX6 tyX6 tyX6_ok nmX6 hown hK hP hD hS hW.1 rfl 5 (by decide) (hts _ (List.mem_of_getElem? (i := 1) rfl)) rfl (rfl) rfl (Nat.le_of_ble_eq_true rfl) dX6_pupil_83 (fun H locs hP hD hS => ?_)
        have hW := hW.setO 0 (va_up i 5 ((i 5) + 1))
        refine lv_aload_n hx hb dX6_pupil_86 rfl (lv_at hl 0 rfl) ?_
        refine m_get (T := TX6) (N := 24) (ci := 7) (fs := (moF ad 0 (va_up i 5 ((i 5) + 1)))) hx hb hwX6 hown hK hP hW.1 rfl 5 (by decide) (hts _ (List.mem_of_getElem? (i := 1) rfl)) (v := .int (nI ((i 5) + 1))) rfl dX6_pupil_87 ?_
        refine lv_iconst (v := (nI 1)) hx hb dX6_pupil_90 (by decide) ?_
        refine n_sub (x := (i 5) + 1) (y := 1) hx hb (by omega) dX6_pupil_91 ?_
        refine n_name (show (nI (((i 5) + 1) - 1)) = nI (i 5) from congrArg nI (by omega)) ?_
        exact e_wi hx hb hr hlocks hP hD hS (mPost_of (a := 0) (b := ((i 5 : Nat) : Int)) (i := va_up i 5 ((i 5) + 1)) (f := va_up (va_up (va_up f 6 (va_up (f 6) (i 5) ux.toNat)) 7 (va_up (f 7) (i 5) uy.toNat)) 8 (va_up (f 8) (i 5) (b2 b))) (by unfold oPupil; (repeat (first | rw [if_pos (by omega)] | rw [if_neg (by omega)])); (first | done | rfl | omega)) (nI_zI _) hW) dX6_pupil_92
      · refine lv_aload_n hx hb dX6_pupil_40 rfl (lv_at hl 0 rfl) ?_
        refine lv_iconst (v := (nI 3)) hx hb dX6_pupil_41 (by decide) ?_
        refine m_calli (va_runV (C := RX6) (As := [.int (nI 3)]) (rest := []) ⟨hx, hb, hml, hown, hts⟩ (c_X6_fails l D cy _ _ h ad 0 i f nc 3 hW hI) (cwV 1 hts gX6_pupil_X6_fails rfl rfl rfl (by decide +kernel) ⟨Nat.le_of_ble_eq_true rfl, Nat.le_of_ble_eq_true rfl⟩) (mPreWV hK hP hW.1 (ci := 7) rfl) rfl rfl hl.1 rfl (lv_room (Nat.le_of_ble_eq_true rfl)) dX6_pupil_42 ⟨Nat.le_of_ble_eq_true rfl, Nat.le_of_ble_eq_true rfl⟩) hD hA hS (fun r9 Mn H locs hq9 hP hD hS hz9 hd9 hk9 => ?_)
        obtain ⟨hr9, hW⟩ := hq9
        have hr9 : r9 = (nI 0) := hr9
        subst hr9
        have hW : MW cy Mn h ad 3 i f := hW
        exact e_wi hx hb hr hlocks hP hD hS (mPost_of (a := 3) (b := ((0 : Nat) : Int)) (i := i) (f := f) (by unfold oPupil; (repeat (first | rw [if_pos (by omega)] | rw [if_neg (by omega)])); (first | done | rfl | omega)) (nI_zI _) hW) dX6_pupil_45
    · have c_22 := inB_f c_22
      refine lv_aload_n hx hb dX6_pupil_25 rfl (lv_at hl 0 rfl) ?_
      refine lv_iconst (v := (nI 2)) hx hb dX6_pupil_26 (by decide) ?_
      refine m_calli (va_runV (C := RX6) (As := [.int (nI 2)]) (rest := []) ⟨hx, hb, hml, hown, hts⟩ (c_X6_fails l D cy _ _ h ad 0 i f nc 2 hW hI) (cwV 1 hts gX6_pupil_X6_fails rfl rfl rfl (by decide +kernel) ⟨Nat.le_of_ble_eq_true rfl, Nat.le_of_ble_eq_true rfl⟩) (mPreWV hK hP hW.1 (ci := 7) rfl) rfl rfl hl.1 rfl (lv_room (Nat.le_of_ble_eq_true rfl)) dX6_pupil_27 ⟨Nat.le_of_ble_eq_true rfl, Nat.le_of_ble_eq_true rfl⟩) hD hA hS (fun r9 Mn H locs hq9 hP hD hS hz9 hd9 hk9 => ?_)
      obtain ⟨hr9, hW⟩ := hq9
      have hr9 : r9 = (nI 0) := hr9
      subst hr9
      have hW : MW cy Mn h ad 2 i f := hW
      exact e_wi hx hb hr hlocks hP hD hS (mPost_of (a := 2) (b := ((0 : Nat) : Int)) (i := i) (f := f) (by unfold oPupil; (repeat (first | rw [if_pos (by omega)] | rw [if_neg (by omega)])); (first | done | rfl | omega)) (nI_zI _) hW) dX6_pupil_30
  · have hW := MW.tf hW c_10
    have c_10 := inB_f c_10
    refine lv_iconst (v := (nI 0)) hx hb dX6_pupil_13 (by decide) ?_
    exact e_wi hx hb hr hlocks hP hD hS (mPost_of (a := 1) (b := ((0 : Nat) : Int)) (i := i) (f := f) (by unfold oPupil; (repeat (first | rw [if_pos (by omega)] | rw [if_neg (by omega)])); (first | done | rfl | omega)) (nI_zI _) hW) dX6_pupil_14

set_option maxRecDepth 100000 in
set_option maxHeartbeats 4000000 in
/-- print -/
theorem c_X6_print (l : Launch) (D : va_G) (cy : Nat → ClassId) (M : mM) (sz : Nat) (h : Nat) (ad : Nat → Nat) (t : Nat) (i : Nat → Nat) (f : Nat → Nat → Nat) (nc : Nat)  (x : Int32) (ux : Int) (b : Bool) (y : Int32) (uy : Int) (hW : MW cy M h ad t i f) (hI : MI nc i f)  (px : x.toInt = ux) (py : y.toInt = uy) : mWi l yX6_print wsX6_print ({ frames := 2, cells := 0, slots := 0, locals := 42 } : Room) D cy M sz [.ref h, .int x, .int (nI (b2 b)), .int y] (mPost cy h ad (oPrint ux b uy i f)) 0 0 := by
  refine mW.of (cc := cX6_print) (maxL := 4) (ret := (some .int)) (by decide) rfl (Nat.le_of_ble_eq_true rfl) ?_
  intro p e s m args below meth c ls hsz hx hb hr hts hown hlocks hml hname hP hD hS hA hK hl
  have hl : lv_has ls 4 [(0, .ref h), (1, .int x), (2, .int (nI (b2 b))), (3, .int y)] := hl
  have hown : s.vm.findClass RX6 = some m.cls := hown
  have hwX6 : ∀ w ∈ wsX60, w.before args s = true := fun w h => hts w (List.mem_cons_of_mem _ (List.mem_append_right _ (h)))
  obtain ⟨hn, hi1, hi2, hi5, hi10, -⟩ := id hI
  have rgx := i32_rng x
  rw [px] at rgx
  have rgy := i32_rng y
  rw [py] at rgy
  refine lv_aload_n hx hb dX6_print_0 rfl (lv_at hl 0 rfl) ?_
  refine lv_iload_n hx hb dX6_print_1 rfl (lv_at hl 1 rfl) ?_
  refine vp_callSi (W.runS (As := [.int x]) (rest := [.ref h]) ⟨hx, hb, hml, hown, hts⟩ (c_X6_isBand l x ux (px)) (va_cwS 1 hts gX6_print_X6_isBand rfl rfl rfl (by decide +kernel) ⟨Nat.le_of_ble_eq_true rfl, Nat.le_of_ble_eq_true rfl⟩) mPre0 rfl rfl hl.1 rfl (lv_room (Nat.le_of_ble_eq_true rfl)) dX6_print_2 ⟨Nat.le_of_ble_eq_true rfl, Nat.le_of_ble_eq_true rfl⟩) (fun r9 hr9 => ?_)
  have hr9 : r9 = (nI (b2 (inB ux 0 2))) := hr9
  subst hr9
  refine m_calli (va_runV (C := RX6) (As := [.int (nI (b2 (inB ux 0 2)))]) (rest := []) ⟨hx, hb, hml, hown, hts⟩ (c_X6_asks l D cy _ _ h ad t i f nc (inB ux 0 2) hW hI) (cwV 1 hts gX6_print_X6_asks rfl rfl rfl (by decide +kernel) ⟨Nat.le_of_ble_eq_true rfl, Nat.le_of_ble_eq_true rfl⟩) (mPreWV hK hP hW.1 (ci := 7) rfl) rfl rfl hl.1 rfl (lv_room (Nat.le_of_ble_eq_true rfl)) dX6_print_5 ⟨Nat.le_of_ble_eq_true rfl, Nat.le_of_ble_eq_true rfl⟩) hD hA hS (fun r9 Mn H locs hq9 hP hD hS hz9 hd9 hk9 => ?_)
  obtain ⟨hr9, hW⟩ := hq9
  have hr9 : r9 = (nI (b2 (inB ux 0 2))) := hr9
  subst hr9
  have hW : MW cy Mn h ad (b2 (!(inB ux 0 2))) i f := hW
  refine b_if_ne (b := inB ux 0 2) (tgt := 13) hx hb dX6_print_8 (by decide) (fun c_8 => ?_) (fun c_8 => ?_)
  · have hW := MW.tt hW c_8
    have c_8 := inB_t c_8
    refine lv_iload_n hx hb dX6_print_13 rfl (lv_at hl 3 rfl) ?_
    refine lv_iconst (v := (nI 1)) hx hb dX6_print_14 (by decide) ?_
    refine lv_bipush (v := (nI 50)) hx hb dX6_print_15 (by decide) ?_
    refine vp_callSi (W.runS (As := [.int y, .int (nI 1), .int (nI 50)]) (rest := []) ⟨hx, hb, hml, hown, hts⟩ (c_X6_in l y (nI 1) (nI 50) uy ((1 : Nat) : Int) ((50 : Nat) : Int) (py) (nI_toInt (by omega)) (nI_toInt (by omega))) (va_cwS 3 hts gX6_print_X6_in rfl rfl rfl (by decide +kernel) ⟨Nat.le_of_ble_eq_true rfl, Nat.le_of_ble_eq_true rfl⟩) mPre0 rfl rfl hl.1 rfl (lv_room (Nat.le_of_ble_eq_true rfl)) dX6_print_17 ⟨Nat.le_of_ble_eq_true rfl, Nat.le_of_ble_eq_true rfl⟩) (fun r9 hr9 => ?_)
    have hr9 : r9 = (nI (b2 (inB uy ((1 : Nat) : Int) ((50 : Nat) : Int)))) := hr9
    subst hr9
    refine b_if_ne (b := inB uy ((1 : Nat) : Int) ((50 : Nat) : Int)) (tgt := 29) hx hb dX6_print_20 (by decide) (fun c_20 => ?_) (fun c_20 => ?_)
    · have c_20 := inB_t c_20
      have ex_1 : x = (nI ux.toNat) := nI_of_toInt (px) (by omega)
      have ex_3 : y = (nI uy.toNat) := nI_of_toInt (py) (by omega)
      have hl : lv_has ls 4 [(0, .ref h), (1, .int (nI ux.toNat)), (2, .int (nI (b2 b))), (3, .int (nI uy.toNat))] := by
        rw [← ex_1, ← ex_3]
        exact hl
      refine lv_aload_n hx hb dX6_print_29 rfl (lv_at hl 0 rfl) ?_
      refine m_get (T := TX6) (N := 24) (ci := 7) (fs := (moF ad 0 i)) hx hb hwX6 hown hK hP hW.1 rfl 9 (by decide) (hts _ (List.mem_of_getElem? (i := 1) rfl)) (v := .ref (ad 9)) rfl dX6_print_30 ?_
      refine lv_iload_n hx hb dX6_print_33 rfl (lv_at hl 1 rfl) ?_
      refine lv_iload_n hx hb dX6_print_34 rfl (lv_at hl 2 rfl) ?_
      refine vp_callSi (W.runS (As := [.int (nI ux.toNat), .int (nI (b2 b))]) (rest := [.ref (ad 9)]) ⟨hx, hb, hml, hown, hts⟩ (c_X6_stack l ux.toNat (b2 b) (by omega) (b2_le _)) (va_cwS 2 hts gX6_print_X6_stack rfl rfl rfl (by decide +kernel) ⟨Nat.le_of_ble_eq_true rfl, Nat.le_of_ble_eq_true rfl⟩) mPre0 rfl rfl hl.1 rfl (lv_room (Nat.le_of_ble_eq_true rfl)) dX6_print_35 ⟨Nat.le_of_ble_eq_true rfl, Nat.le_of_ble_eq_true rfl⟩) (fun r9 hr9 => ?_)
      have hr9 : r9 = (nI (stackN ux.toNat (b2 b))) := hr9
      subst hr9
      have sk_1 : stackN ux.toNat (b2 b) ≤ 3 + ux.toNat := stackN_le _ _
      refine lv_dup2_11 hx hb dX6_print_38 rfl rfl ?_
      have bd_2 : (f 9) (stackN ux.toNat (b2 b)) ≤ 25600 := Nat.le_trans (hI.2.2.2.2.2 9 (stackN ux.toNat (b2 b))) (show 50 * nc ≤ 25600 by have := hI.1; omega)
      refine n_iald (g := (f 9)) (n := 6) (i := stackN ux.toNat (b2 b)) hx hb hK hP (hW.2.1 9 (by decide)) (by omega) (by omega) dX6_print_39 ?_
      refine lv_iload_n hx hb dX6_print_40 rfl (lv_at hl 3 rfl) ?_
      refine n_add (x := (f 9) (stackN ux.toNat (b2 b))) (y := uy.toNat) hx hb dX6_print_41 ?_
      refine n_iast (g := (f 9)) (n := 6) (i := stackN ux.toNat (b2 b)) (v := ((f 9) (stackN ux.toNat (b2 b))) + uy.toNat) hx hb hK hP hD hS (hW.2.1 9 (by decide)) (by omega) (by omega) dX6_print_42 (fun H locs hP hD hS => ?_)
      have hW := hW.setI 9 (by decide) (va_up (f 9) (stackN ux.toNat (b2 b)) (((f 9) (stackN ux.toNat (b2 b))) + uy.toNat))
      refine lv_aload_n hx hb dX6_print_43 rfl (lv_at hl 0 rfl) ?_
      refine m_get (T := TX6) (N := 24) (ci := 7) (fs := (moF ad 0 i)) hx hb hwX6 hown hK hP hW.1 rfl 9 (by decide) (hts _ (List.mem_of_getElem? (i := 1) rfl)) (v := .ref (ad 9)) rfl dX6_print_44 ?_
      refine lv_iload_n hx hb dX6_print_47 rfl (lv_at hl 1 rfl) ?_
      refine lv_iload_n hx hb dX6_print_48 rfl (lv_at hl 2 rfl) ?_
      refine vp_callSi (W.runS (As := [.int (nI ux.toNat), .int (nI (b2 b))]) (rest := [.ref (ad 9)]) ⟨hx, hb, hml, hown, hts⟩ (c_X6_stack l ux.toNat (b2 b) (by omega) (b2_le _)) (va_cwS 2 hts gX6_print_X6_stack rfl rfl rfl (by decide +kernel) ⟨Nat.le_of_ble_eq_true rfl, Nat.le_of_ble_eq_true rfl⟩) mPre0 rfl rfl hl.1 rfl (lv_room (Nat.le_of_ble_eq_true rfl)) dX6_print_49 ⟨Nat.le_of_ble_eq_true rfl, Nat.le_of_ble_eq_true rfl⟩) (fun r9 hr9 => ?_)
      have hr9 : r9 = (nI (stackN ux.toNat (b2 b))) := hr9
      subst hr9
      have sk_3 : stackN ux.toNat (b2 b) ≤ 3 + ux.toNat := stackN_le _ _
      refine n_iald (g := (va_up (f 9) (stackN ux.toNat (b2 b)) (((f 9) (stackN ux.toNat (b2 b))) + uy.toNat))) (n := 6) (i := stackN ux.toNat (b2 b)) hx hb hK hP (hW.2.1 9 (by decide)) (by omega) (by omega) dX6_print_52 ?_
      refine n_name (show (nI ((va_up (f 9) (stackN ux.toNat (b2 b)) (((f 9) (stackN ux.toNat (b2 b))) + uy.toNat)) (stackN ux.toNat (b2 b)))) = (nI (f 9 (stackN ux.toNat (b2 b)) + uy.toNat)) from congrArg nI (va_up_self _ _ _)) ?_
      exact e_wi hx hb hr hlocks hP hD hS (mPost_of (a := 0) (b := ((f 9 (stackN ux.toNat (b2 b)) + uy.toNat : Nat) : Int)) (i := i) (f := va_up f 9 (va_up (f 9) (stackN ux.toNat (b2 b)) (((f 9) (stackN ux.toNat (b2 b))) + uy.toNat))) (by unfold oPrint; (repeat (first | rw [if_pos (by omega)] | rw [if_neg (by omega)])); (first | done | rfl | omega)) (nI_zI _) hW) dX6_print_53
    · have c_20 := inB_f c_20
      refine lv_aload_n hx hb dX6_print_23 rfl (lv_at hl 0 rfl) ?_
      refine lv_iconst (v := (nI 2)) hx hb dX6_print_24 (by decide) ?_
      refine m_calli (va_runV (C := RX6) (As := [.int (nI 2)]) (rest := []) ⟨hx, hb, hml, hown, hts⟩ (c_X6_fails l D cy _ _ h ad 0 i f nc 2 hW hI) (cwV 1 hts gX6_print_X6_fails rfl rfl rfl (by decide +kernel) ⟨Nat.le_of_ble_eq_true rfl, Nat.le_of_ble_eq_true rfl⟩) (mPreWV hK hP hW.1 (ci := 7) rfl) rfl rfl hl.1 rfl (lv_room (Nat.le_of_ble_eq_true rfl)) dX6_print_25 ⟨Nat.le_of_ble_eq_true rfl, Nat.le_of_ble_eq_true rfl⟩) hD hA hS (fun r9 Mn H locs hq9 hP hD hS hz9 hd9 hk9 => ?_)
      obtain ⟨hr9, hW⟩ := hq9
      have hr9 : r9 = (nI 0) := hr9
      subst hr9
      have hW : MW cy Mn h ad 2 i f := hW
      exact e_wi hx hb hr hlocks hP hD hS (mPost_of (a := 2) (b := ((0 : Nat) : Int)) (i := i) (f := f) (by unfold oPrint; (repeat (first | rw [if_pos (by omega)] | rw [if_neg (by omega)])); (first | done | rfl | omega)) (nI_zI _) hW) dX6_print_28
  · have hW := MW.tf hW c_8
    have c_8 := inB_f c_8
    refine lv_iconst (v := (nI 0)) hx hb dX6_print_11 (by decide) ?_
    exact e_wi hx hb hr hlocks hP hD hS (mPost_of (a := 1) (b := ((0 : Nat) : Int)) (i := i) (f := f) (by unfold oPrint; (repeat (first | rw [if_pos (by omega)] | rw [if_neg (by omega)])); (first | done | rfl | omega)) (nI_zI _) hW) dX6_print_12

set_option maxRecDepth 100000 in
set_option maxHeartbeats 4000000 in
/-- sheets -/
theorem c_X6_sheets (l : Launch) (D : va_G) (cy : Nat → ClassId) (M : mM) (sz : Nat) (h : Nat) (ad : Nat → Nat) (t : Nat) (i : Nat → Nat) (f : Nat → Nat → Nat) (nc : Nat)  (x : Int32) (ux : Int) (b : Bool) (hW : MW cy M h ad t i f) (hI : MI nc i f)  (px : x.toInt = ux) : mWi l yX6_sheets wsX6_sheets ({ frames := 2, cells := 0, slots := 0, locals := 42 } : Room) D cy M sz [.ref h, .int x, .int (nI (b2 b))] (mPost cy h ad (oSheets ux b i f)) 0 0 := by
  refine mW.of (cc := cX6_sheets) (maxL := 3) (ret := (some .int)) (by decide) rfl (Nat.le_of_ble_eq_true rfl) ?_
  intro p e s m args below meth c ls hsz hx hb hr hts hown hlocks hml hname hP hD hS hA hK hl
  have hl : lv_has ls 3 [(0, .ref h), (1, .int x), (2, .int (nI (b2 b)))] := hl
  have hown : s.vm.findClass RX6 = some m.cls := hown
  have hwX6 : ∀ w ∈ wsX60, w.before args s = true := fun w h => hts w (List.mem_cons_of_mem _ (List.mem_append_right _ (h)))
  obtain ⟨hn, hi1, hi2, hi5, hi10, -⟩ := id hI
  have rgx := i32_rng x
  rw [px] at rgx
  refine lv_aload_n hx hb dX6_sheets_0 rfl (lv_at hl 0 rfl) ?_
  refine lv_iload_n hx hb dX6_sheets_1 rfl (lv_at hl 1 rfl) ?_
  refine vp_callSi (W.runS (As := [.int x]) (rest := [.ref h]) ⟨hx, hb, hml, hown, hts⟩ (c_X6_isBand l x ux (px)) (va_cwS 1 hts gX6_sheets_X6_isBand rfl rfl rfl (by decide +kernel) ⟨Nat.le_of_ble_eq_true rfl, Nat.le_of_ble_eq_true rfl⟩) mPre0 rfl rfl hl.1 rfl (lv_room (Nat.le_of_ble_eq_true rfl)) dX6_sheets_2 ⟨Nat.le_of_ble_eq_true rfl, Nat.le_of_ble_eq_true rfl⟩) (fun r9 hr9 => ?_)
  have hr9 : r9 = (nI (b2 (inB ux 0 2))) := hr9
  subst hr9
  refine m_calli (va_runV (C := RX6) (As := [.int (nI (b2 (inB ux 0 2)))]) (rest := []) ⟨hx, hb, hml, hown, hts⟩ (c_X6_asks l D cy _ _ h ad t i f nc (inB ux 0 2) hW hI) (cwV 1 hts gX6_sheets_X6_asks rfl rfl rfl (by decide +kernel) ⟨Nat.le_of_ble_eq_true rfl, Nat.le_of_ble_eq_true rfl⟩) (mPreWV hK hP hW.1 (ci := 7) rfl) rfl rfl hl.1 rfl (lv_room (Nat.le_of_ble_eq_true rfl)) dX6_sheets_5 ⟨Nat.le_of_ble_eq_true rfl, Nat.le_of_ble_eq_true rfl⟩) hD hA hS (fun r9 Mn H locs hq9 hP hD hS hz9 hd9 hk9 => ?_)
  obtain ⟨hr9, hW⟩ := hq9
  have hr9 : r9 = (nI (b2 (inB ux 0 2))) := hr9
  subst hr9
  have hW : MW cy Mn h ad (b2 (!(inB ux 0 2))) i f := hW
  refine b_if_eq (b := inB ux 0 2) (tgt := 24) hx hb dX6_sheets_8 (by decide) (fun c_8 => ?_) (fun c_8 => ?_)
  · have hW := MW.tf hW c_8
    have c_8 := inB_f c_8
    refine lv_iconst (v := (nI 0)) hx hb dX6_sheets_24 (by decide) ?_
    exact e_wi hx hb hr hlocks hP hD hS (mPost_of (a := 1) (b := ((0 : Nat) : Int)) (i := i) (f := f) (by unfold oSheets; (repeat (first | rw [if_pos (by omega)] | rw [if_neg (by omega)])); (first | done | rfl | omega)) (nI_zI _) hW) dX6_sheets_25
  · have hW := MW.tt hW c_8
    have c_8 := inB_t c_8
    have ex_1 : x = (nI ux.toNat) := nI_of_toInt (px) (by omega)
    have hl : lv_has ls 3 [(0, .ref h), (1, .int (nI ux.toNat)), (2, .int (nI (b2 b)))] := by
      rw [← ex_1]
      exact hl
    refine lv_aload_n hx hb dX6_sheets_11 rfl (lv_at hl 0 rfl) ?_
    refine m_get (T := TX6) (N := 24) (ci := 7) (fs := (moF ad 0 i)) hx hb hwX6 hown hK hP hW.1 rfl 9 (by decide) (hts _ (List.mem_of_getElem? (i := 1) rfl)) (v := .ref (ad 9)) rfl dX6_sheets_12 ?_
    refine lv_iload_n hx hb dX6_sheets_15 rfl (lv_at hl 1 rfl) ?_
    refine lv_iload_n hx hb dX6_sheets_16 rfl (lv_at hl 2 rfl) ?_
    refine vp_callSi (W.runS (As := [.int (nI ux.toNat), .int (nI (b2 b))]) (rest := [.ref (ad 9)]) ⟨hx, hb, hml, hown, hts⟩ (c_X6_stack l ux.toNat (b2 b) (by omega) (b2_le _)) (va_cwS 2 hts gX6_sheets_X6_stack rfl rfl rfl (by decide +kernel) ⟨Nat.le_of_ble_eq_true rfl, Nat.le_of_ble_eq_true rfl⟩) mPre0 rfl rfl hl.1 rfl (lv_room (Nat.le_of_ble_eq_true rfl)) dX6_sheets_17 ⟨Nat.le_of_ble_eq_true rfl, Nat.le_of_ble_eq_true rfl⟩) (fun r9 hr9 => ?_)
    have hr9 : r9 = (nI (stackN ux.toNat (b2 b))) := hr9
    subst hr9
    have sk_1 : stackN ux.toNat (b2 b) ≤ 3 + ux.toNat := stackN_le _ _
    have bd_2 : (f 9) (stackN ux.toNat (b2 b)) ≤ 25600 := Nat.le_trans (hI.2.2.2.2.2 9 (stackN ux.toNat (b2 b))) (show 50 * nc ≤ 25600 by have := hI.1; omega)
    refine n_iald (g := (f 9)) (n := 6) (i := stackN ux.toNat (b2 b)) hx hb hK hP (hW.2.1 9 (by decide)) (by omega) (by omega) dX6_sheets_20 ?_
    refine lv_goto (tgt := 25) hx hb dX6_sheets_21 (by decide) ?_
    exact e_wi hx hb hr hlocks hP hD hS (mPost_of (a := 0) (b := (((f 9) (stackN ux.toNat (b2 b)) : Nat) : Int)) (i := i) (f := f) (by unfold oSheets; (repeat (first | rw [if_pos (by omega)] | rw [if_neg (by omega)])); (first | done | rfl | omega)) (nI_zI _) hW) dX6_sheets_25

set_option maxRecDepth 100000 in
set_option maxHeartbeats 4000000 in
/-- orderAnew -/
theorem c_X6_orderAnew (l : Launch) (D : va_G) (cy : Nat → ClassId) (M : mM) (sz : Nat) (h : Nat) (ad : Nat → Nat) (t : Nat) (i : Nat → Nat) (f : Nat → Nat → Nat) (nc : Nat)  (x : Int32) (ux : Int) (hW : MW cy M h ad t i f) (hI : MI nc i f)  (px : x.toInt = ux) : mWi l yX6_orderAnew wsX6_orderAnew ({ frames := 5, cells := 0, slots := 0, locals := 118 } : Room) D cy M sz [.ref h, .int x] (mPost cy h ad (oOrder ux i f)) 0 0 := by
  refine mW.of (cc := cX6_orderAnew) (maxL := 2) (ret := (some .int)) (by decide) rfl (Nat.le_of_ble_eq_true rfl) ?_
  intro p e s m args below meth c ls hsz hx hb hr hts hown hlocks hml hname hP hD hS hA hK hl
  have hl : lv_has ls 2 [(0, .ref h), (1, .int x)] := hl
  have hown : s.vm.findClass RX6 = some m.cls := hown
  have hwX6 : ∀ w ∈ wsX60, w.before args s = true := fun w h => hts w (List.mem_cons_of_mem _ (List.mem_append_right _ (h)))
  obtain ⟨hn, hi1, hi2, hi5, hi10, -⟩ := id hI
  have rgx := i32_rng x
  rw [px] at rgx
  refine lv_aload_n hx hb dX6_orderAnew_0 rfl (lv_at hl 0 rfl) ?_
  refine lv_aload_n hx hb dX6_orderAnew_1 rfl (lv_at hl 0 rfl) ?_
  refine lv_iload_n hx hb dX6_orderAnew_2 rfl (lv_at hl 1 rfl) ?_
  refine vp_callSi (W.runV (C := RX6) (As := [.int x]) (rest := [.ref h]) ⟨hx, hb, hml, hown, hts⟩ (c_X6_isScript l D cy _ h ad t i f nc x ux hW hI (px)) (cwV 1 hts gX6_orderAnew_X6_isScript rfl rfl rfl (by decide +kernel) ⟨Nat.le_of_ble_eq_true rfl, Nat.le_of_ble_eq_true rfl⟩) (mPreV hK hP hW.1 (ci := 7) rfl) rfl rfl hl.1 rfl (lv_room (Nat.le_of_ble_eq_true rfl)) dX6_orderAnew_3 ⟨Nat.le_of_ble_eq_true rfl, Nat.le_of_ble_eq_true rfl⟩) (fun r9 hr9 => ?_)
  have hr9 : r9 = (nI (b2 (inB ux 0 ((i 10 : Int) - 1)))) := hr9
  subst hr9
  refine m_calli (va_runV (C := RX6) (As := [.int (nI (b2 (inB ux 0 ((i 10 : Int) - 1))))]) (rest := []) ⟨hx, hb, hml, hown, hts⟩ (c_X6_asks l D cy _ _ h ad t i f nc (inB ux 0 ((i 10 : Int) - 1)) hW hI) (cwV 1 hts gX6_orderAnew_X6_asks rfl rfl rfl (by decide +kernel) ⟨Nat.le_of_ble_eq_true rfl, Nat.le_of_ble_eq_true rfl⟩) (mPreWV hK hP hW.1 (ci := 7) rfl) rfl rfl hl.1 rfl (lv_room (Nat.le_of_ble_eq_true rfl)) dX6_orderAnew_6 ⟨Nat.le_of_ble_eq_true rfl, Nat.le_of_ble_eq_true rfl⟩) hD hA hS (fun r9 Mn H locs hq9 hP hD hS hz9 hd9 hk9 => ?_)
  obtain ⟨hr9, hW⟩ := hq9
  have hr9 : r9 = (nI (b2 (inB ux 0 ((i 10 : Int) - 1)))) := hr9
  subst hr9
  have hW : MW cy Mn h ad (b2 (!(inB ux 0 ((i 10 : Int) - 1)))) i f := hW
  refine b_if_eq (b := inB ux 0 ((i 10 : Int) - 1)) (tgt := 21) hx hb dX6_orderAnew_9 (by decide) (fun c_9 => ?_) (fun c_9 => ?_)
  · have hW := MW.tf hW c_9
    have c_9 := inB_f c_9
    refine lv_iconst (v := (nI 0)) hx hb dX6_orderAnew_21 (by decide) ?_
    exact e_wi hx hb hr hlocks hP hD hS (mPost_of (a := 1) (b := ((0 : Nat) : Int)) (i := i) (f := f) (by unfold oOrder; (repeat (first | rw [if_pos (by omega)] | rw [if_neg (by omega)])); (first | done | rfl | omega)) (nI_zI _) hW) dX6_orderAnew_22
  · have hW := MW.tt hW c_9
    have c_9 := inB_t c_9
    have ex_1 : x = (nI ux.toNat) := nI_of_toInt (px) (by omega)
    have hl : lv_has ls 2 [(0, .ref h), (1, .int (nI ux.toNat))] := by
      rw [← ex_1]
      exact hl
    refine lv_aload_n hx hb dX6_orderAnew_12 rfl (lv_at hl 0 rfl) ?_
    refine lv_iload_n hx hb dX6_orderAnew_13 rfl (lv_at hl 1 rfl) ?_
    refine lv_iconst (v := (nI 3)) hx hb dX6_orderAnew_14 (by decide) ?_
    refine m_calli (va_runV (C := RX6) (As := [.int (nI ux.toNat), .int (nI 3)]) (rest := []) ⟨hx, hb, hml, hown, hts⟩ (c_X6_slipsOf l D cy _ _ h ad 0 i f nc ux.toNat 3 hW hI (by omega) (by omega)) (cwV 2 hts gX6_orderAnew_X6_slipsOf rfl rfl rfl (by decide +kernel) ⟨Nat.le_of_ble_eq_true rfl, Nat.le_of_ble_eq_true rfl⟩) (mPreWV hK hP hW.1 (ci := 7) rfl) rfl rfl hl.1 rfl (lv_room (Nat.le_of_ble_eq_true rfl)) dX6_orderAnew_15 ⟨Nat.le_of_ble_eq_true rfl, Nat.le_of_ble_eq_true rfl⟩) hD hA hS (fun r9 Mn H locs hq9 hP hD hS hz9 hd9 hk9 => ?_)
    obtain ⟨hr9, hW⟩ := hq9
    have hr9 : r9 = (zI (slipsK f ux.toNat 3)) := hr9
    subst hr9
    have hW : MW cy Mn h ad 0 i f := hW
    have bs_1 := slipsK_bd hI ux.toNat 3
    refine lv_goto (tgt := 22) hx hb dX6_orderAnew_18 (by decide) ?_
    exact e_wi hx hb hr hlocks hP hD hS (mPost_of (a := 0) (b := slipsK f ux.toNat 3) (i := i) (f := f) (by unfold oOrder; (repeat (first | rw [if_pos (by omega)] | rw [if_neg (by omega)])); (first | done | rfl | omega)) (rfl) hW) dX6_orderAnew_22

set_option maxRecDepth 100000 in
set_option maxHeartbeats 4000000 in
/-- grade -/
theorem c_X6_grade (l : Launch) (D : va_G) (cy : Nat → ClassId) (M : mM) (sz : Nat) (h : Nat) (ad : Nat → Nat) (t : Nat) (i : Nat → Nat) (f : Nat → Nat → Nat) (nc : Nat)  (x : Int32) (ux : Int) (hW : MW cy M h ad t i f) (hI : MI nc i f)  (px : x.toInt = ux) : mWi l yX6_grade wsX6_grade ({ frames := 2, cells := 0, slots := 0, locals := 49 } : Room) D cy M sz [.ref h, .int x] (mPost cy h ad (oGrade ux i f)) 0 0 := by
  refine mW.of (cc := cX6_grade) (maxL := 2) (ret := (some .int)) (by decide) rfl (Nat.le_of_ble_eq_true rfl) ?_
  intro p e s m args below meth c ls hsz hx hb hr hts hown hlocks hml hname hP hD hS hA hK hl
  have hl : lv_has ls 2 [(0, .ref h), (1, .int x)] := hl
  have hown : s.vm.findClass RX6 = some m.cls := hown
  have hwX6 : ∀ w ∈ wsX60, w.before args s = true := fun w h => hts w (List.mem_cons_of_mem _ (List.mem_append_right _ (h)))
  obtain ⟨hn, hi1, hi2, hi5, hi10, -⟩ := id hI
  have rgx := i32_rng x
  rw [px] at rgx
  refine lv_aload_n hx hb dX6_grade_0 rfl (lv_at hl 0 rfl) ?_
  refine lv_aload_n hx hb dX6_grade_1 rfl (lv_at hl 0 rfl) ?_
  refine lv_iload_n hx hb dX6_grade_2 rfl (lv_at hl 1 rfl) ?_
  refine vp_callSi (W.runV (C := RX6) (As := [.int x]) (rest := [.ref h]) ⟨hx, hb, hml, hown, hts⟩ (c_X6_isScript l D cy _ h ad t i f nc x ux hW hI (px)) (cwV 1 hts gX6_grade_X6_isScript rfl rfl rfl (by decide +kernel) ⟨Nat.le_of_ble_eq_true rfl, Nat.le_of_ble_eq_true rfl⟩) (mPreV hK hP hW.1 (ci := 7) rfl) rfl rfl hl.1 rfl (lv_room (Nat.le_of_ble_eq_true rfl)) dX6_grade_3 ⟨Nat.le_of_ble_eq_true rfl, Nat.le_of_ble_eq_true rfl⟩) (fun r9 hr9 => ?_)
  have hr9 : r9 = (nI (b2 (inB ux 0 ((i 10 : Int) - 1)))) := hr9
  subst hr9
  refine m_calli (va_runV (C := RX6) (As := [.int (nI (b2 (inB ux 0 ((i 10 : Int) - 1))))]) (rest := []) ⟨hx, hb, hml, hown, hts⟩ (c_X6_asks l D cy _ _ h ad t i f nc (inB ux 0 ((i 10 : Int) - 1)) hW hI) (cwV 1 hts gX6_grade_X6_asks rfl rfl rfl (by decide +kernel) ⟨Nat.le_of_ble_eq_true rfl, Nat.le_of_ble_eq_true rfl⟩) (mPreWV hK hP hW.1 (ci := 7) rfl) rfl rfl hl.1 rfl (lv_room (Nat.le_of_ble_eq_true rfl)) dX6_grade_6 ⟨Nat.le_of_ble_eq_true rfl, Nat.le_of_ble_eq_true rfl⟩) hD hA hS (fun r9 Mn H locs hq9 hP hD hS hz9 hd9 hk9 => ?_)
  obtain ⟨hr9, hW⟩ := hq9
  have hr9 : r9 = (nI (b2 (inB ux 0 ((i 10 : Int) - 1)))) := hr9
  subst hr9
  have hW : MW cy Mn h ad (b2 (!(inB ux 0 ((i 10 : Int) - 1)))) i f := hW
  refine b_if_eq (b := inB ux 0 ((i 10 : Int) - 1)) (tgt := 20) hx hb dX6_grade_9 (by decide) (fun c_9 => ?_) (fun c_9 => ?_)
  · have hW := MW.tf hW c_9
    have c_9 := inB_f c_9
    refine lv_iconst (v := (nI 0)) hx hb dX6_grade_20 (by decide) ?_
    exact e_wi hx hb hr hlocks hP hD hS (mPost_of (a := 1) (b := ((0 : Nat) : Int)) (i := i) (f := f) (by unfold oGrade; (repeat (first | rw [if_pos (by omega)] | rw [if_neg (by omega)])); (first | done | rfl | omega)) (nI_zI _) hW) dX6_grade_21
  · have hW := MW.tt hW c_9
    have c_9 := inB_t c_9
    have ex_1 : x = (nI ux.toNat) := nI_of_toInt (px) (by omega)
    have hl : lv_has ls 2 [(0, .ref h), (1, .int (nI ux.toNat))] := by
      rw [← ex_1]
      exact hl
    refine lv_aload_n hx hb dX6_grade_12 rfl (lv_at hl 0 rfl) ?_
    refine lv_iload_n hx hb dX6_grade_13 rfl (lv_at hl 1 rfl) ?_
    refine vp_callSi (W.runV (C := RX6) (As := [.int (nI ux.toNat)]) (rest := []) ⟨hx, hb, hml, hown, hts⟩ (c_X6_gradeOf l D cy _ h ad 0 i f nc ux.toNat hW hI (by omega)) (cwV 1 hts gX6_grade_X6_gradeOf rfl rfl rfl (by decide +kernel) ⟨Nat.le_of_ble_eq_true rfl, Nat.le_of_ble_eq_true rfl⟩) (mPreV hK hP hW.1 (ci := 7) rfl) rfl rfl hl.1 rfl (lv_room (Nat.le_of_ble_eq_true rfl)) dX6_grade_14 ⟨Nat.le_of_ble_eq_true rfl, Nat.le_of_ble_eq_true rfl⟩) (fun r9 hr9 => ?_)
    have hr9 : r9 = (zI (gradeS f ux.toNat)) := hr9
    subst hr9
    have bs_1 : -1 ≤ gradeS f ux.toNat ∧ gradeS f ux.toNat ≤ 20 := gradeS_bd hI _
    refine lv_goto (tgt := 21) hx hb dX6_grade_17 (by decide) ?_
    exact e_wi hx hb hr hlocks hP hD hS (mPost_of (a := 0) (b := gradeS f ux.toNat) (i := i) (f := f) (by unfold oGrade; (repeat (first | rw [if_pos (by omega)] | rw [if_neg (by omega)])); (first | done | rfl | omega)) (rfl) hW) dX6_grade_21

set_option maxRecDepth 100000 in
set_option maxHeartbeats 4000000 in
/-- lacks -/
theorem c_X6_lacks (l : Launch) (D : va_G) (cy : Nat → ClassId) (M : mM) (sz : Nat) (h : Nat) (ad : Nat → Nat) (t : Nat) (i : Nat → Nat) (f : Nat → Nat → Nat) (nc : Nat)  (x : Int32) (ux : Int) (hW : MW cy M h ad t i f) (hI : MI nc i f)  (px : x.toInt = ux) : mWi l yX6_lacks wsX6_lacks ({ frames := 2, cells := 0, slots := 0, locals := 43 } : Room) D cy M sz [.ref h, .int x] (mPost cy h ad (oLacks ux i f)) 0 0 := by
  refine mW.of (cc := cX6_lacks) (maxL := 2) (ret := (some .int)) (by decide) rfl (Nat.le_of_ble_eq_true rfl) ?_
  intro p e s m args below meth c ls hsz hx hb hr hts hown hlocks hml hname hP hD hS hA hK hl
  have hl : lv_has ls 2 [(0, .ref h), (1, .int x)] := hl
  have hown : s.vm.findClass RX6 = some m.cls := hown
  have hwX6 : ∀ w ∈ wsX60, w.before args s = true := fun w h => hts w (List.mem_cons_of_mem _ (List.mem_append_right _ (h)))
  obtain ⟨hn, hi1, hi2, hi5, hi10, -⟩ := id hI
  have rgx := i32_rng x
  rw [px] at rgx
  refine lv_aload_n hx hb dX6_lacks_0 rfl (lv_at hl 0 rfl) ?_
  refine lv_aload_n hx hb dX6_lacks_1 rfl (lv_at hl 0 rfl) ?_
  refine lv_iload_n hx hb dX6_lacks_2 rfl (lv_at hl 1 rfl) ?_
  refine vp_callSi (W.runV (C := RX6) (As := [.int x]) (rest := [.ref h]) ⟨hx, hb, hml, hown, hts⟩ (c_X6_isScript l D cy _ h ad t i f nc x ux hW hI (px)) (cwV 1 hts gX6_lacks_X6_isScript rfl rfl rfl (by decide +kernel) ⟨Nat.le_of_ble_eq_true rfl, Nat.le_of_ble_eq_true rfl⟩) (mPreV hK hP hW.1 (ci := 7) rfl) rfl rfl hl.1 rfl (lv_room (Nat.le_of_ble_eq_true rfl)) dX6_lacks_3 ⟨Nat.le_of_ble_eq_true rfl, Nat.le_of_ble_eq_true rfl⟩) (fun r9 hr9 => ?_)
  have hr9 : r9 = (nI (b2 (inB ux 0 ((i 10 : Int) - 1)))) := hr9
  subst hr9
  refine m_calli (va_runV (C := RX6) (As := [.int (nI (b2 (inB ux 0 ((i 10 : Int) - 1))))]) (rest := []) ⟨hx, hb, hml, hown, hts⟩ (c_X6_asks l D cy _ _ h ad t i f nc (inB ux 0 ((i 10 : Int) - 1)) hW hI) (cwV 1 hts gX6_lacks_X6_asks rfl rfl rfl (by decide +kernel) ⟨Nat.le_of_ble_eq_true rfl, Nat.le_of_ble_eq_true rfl⟩) (mPreWV hK hP hW.1 (ci := 7) rfl) rfl rfl hl.1 rfl (lv_room (Nat.le_of_ble_eq_true rfl)) dX6_lacks_6 ⟨Nat.le_of_ble_eq_true rfl, Nat.le_of_ble_eq_true rfl⟩) hD hA hS (fun r9 Mn H locs hq9 hP hD hS hz9 hd9 hk9 => ?_)
  obtain ⟨hr9, hW⟩ := hq9
  have hr9 : r9 = (nI (b2 (inB ux 0 ((i 10 : Int) - 1)))) := hr9
  subst hr9
  have hW : MW cy Mn h ad (b2 (!(inB ux 0 ((i 10 : Int) - 1)))) i f := hW
  refine b_if_eq (b := inB ux 0 ((i 10 : Int) - 1)) (tgt := 20) hx hb dX6_lacks_9 (by decide) (fun c_9 => ?_) (fun c_9 => ?_)
  · have hW := MW.tf hW c_9
    have c_9 := inB_f c_9
    refine lv_iconst (v := (nI 0)) hx hb dX6_lacks_20 (by decide) ?_
    exact e_wi hx hb hr hlocks hP hD hS (mPost_of (a := 1) (b := ((0 : Nat) : Int)) (i := i) (f := f) (by unfold oLacks; (repeat (first | rw [if_pos (by omega)] | rw [if_neg (by omega)])); (first | done | rfl | omega)) (nI_zI _) hW) dX6_lacks_21
  · have hW := MW.tt hW c_9
    have c_9 := inB_t c_9
    have ex_1 : x = (nI ux.toNat) := nI_of_toInt (px) (by omega)
    have hl : lv_has ls 2 [(0, .ref h), (1, .int (nI ux.toNat))] := by
      rw [← ex_1]
      exact hl
    refine lv_aload_n hx hb dX6_lacks_12 rfl (lv_at hl 0 rfl) ?_
    refine lv_iload_n hx hb dX6_lacks_13 rfl (lv_at hl 1 rfl) ?_
    refine vp_callSi (W.runV (C := RX6) (As := [.int (nI ux.toNat)]) (rest := []) ⟨hx, hb, hml, hown, hts⟩ (c_X6_lacking l D cy _ h ad 0 i f nc ux.toNat hW hI (by omega)) (cwV 1 hts gX6_lacks_X6_lacking rfl rfl rfl (by decide +kernel) ⟨Nat.le_of_ble_eq_true rfl, Nat.le_of_ble_eq_true rfl⟩) (mPreV hK hP hW.1 (ci := 7) rfl) rfl rfl hl.1 rfl (lv_room (Nat.le_of_ble_eq_true rfl)) dX6_lacks_14 ⟨Nat.le_of_ble_eq_true rfl, Nat.le_of_ble_eq_true rfl⟩) (fun r9 hr9 => ?_)
    have hr9 : r9 = (nI (lackS f ux.toNat)) := hr9
    subst hr9
    have bs_1 : lackS f ux.toNat ≤ 2 := lackS_le _ _
    refine lv_goto (tgt := 21) hx hb dX6_lacks_17 (by decide) ?_
    exact e_wi hx hb hr hlocks hP hD hS (mPost_of (a := 0) (b := ((lackS f ux.toNat : Nat) : Int)) (i := i) (f := f) (by unfold oLacks; (repeat (first | rw [if_pos (by omega)] | rw [if_neg (by omega)])); (first | done | rfl | omega)) (nI_zI _) hW) dX6_lacks_21

set_option maxRecDepth 100000 in
set_option maxHeartbeats 4000000 in
/-- worth -/
theorem c_X6_worth (l : Launch) (D : va_G) (cy : Nat → ClassId) (M : mM) (sz : Nat) (h : Nat) (ad : Nat → Nat) (t : Nat) (i : Nat → Nat) (f : Nat → Nat → Nat) (nc : Nat)  (x : Int32) (ux : Int) (hW : MW cy M h ad t i f) (hI : MI nc i f)  (px : x.toInt = ux) : mWi l yX6_worth wsX6_worth ({ frames := 7, cells := 0, slots := 0, locals := 163 } : Room) D cy M sz [.ref h, .int x] (mPost cy h ad (oWorth ux i f)) 0 0 := by
  refine mW.of (cc := cX6_worth) (maxL := 2) (ret := (some .int)) (by decide) rfl (Nat.le_of_ble_eq_true rfl) ?_
  intro p e s m args below meth c ls hsz hx hb hr hts hown hlocks hml hname hP hD hS hA hK hl
  have hl : lv_has ls 2 [(0, .ref h), (1, .int x)] := hl
  have hown : s.vm.findClass RX6 = some m.cls := hown
  have hwX6 : ∀ w ∈ wsX60, w.before args s = true := fun w h => hts w (List.mem_cons_of_mem _ (List.mem_append_right _ (h)))
  obtain ⟨hn, hi1, hi2, hi5, hi10, -⟩ := id hI
  have rgx := i32_rng x
  rw [px] at rgx
  refine lv_aload_n hx hb dX6_worth_0 rfl (lv_at hl 0 rfl) ?_
  refine lv_aload_n hx hb dX6_worth_1 rfl (lv_at hl 0 rfl) ?_
  refine lv_iload_n hx hb dX6_worth_2 rfl (lv_at hl 1 rfl) ?_
  refine vp_callSi (W.runV (C := RX6) (As := [.int x]) (rest := [.ref h]) ⟨hx, hb, hml, hown, hts⟩ (c_X6_isScript l D cy _ h ad t i f nc x ux hW hI (px)) (cwV 1 hts gX6_worth_X6_isScript rfl rfl rfl (by decide +kernel) ⟨Nat.le_of_ble_eq_true rfl, Nat.le_of_ble_eq_true rfl⟩) (mPreV hK hP hW.1 (ci := 7) rfl) rfl rfl hl.1 rfl (lv_room (Nat.le_of_ble_eq_true rfl)) dX6_worth_3 ⟨Nat.le_of_ble_eq_true rfl, Nat.le_of_ble_eq_true rfl⟩) (fun r9 hr9 => ?_)
  have hr9 : r9 = (nI (b2 (inB ux 0 ((i 10 : Int) - 1)))) := hr9
  subst hr9
  refine m_calli (va_runV (C := RX6) (As := [.int (nI (b2 (inB ux 0 ((i 10 : Int) - 1))))]) (rest := []) ⟨hx, hb, hml, hown, hts⟩ (c_X6_asks l D cy _ _ h ad t i f nc (inB ux 0 ((i 10 : Int) - 1)) hW hI) (cwV 1 hts gX6_worth_X6_asks rfl rfl rfl (by decide +kernel) ⟨Nat.le_of_ble_eq_true rfl, Nat.le_of_ble_eq_true rfl⟩) (mPreWV hK hP hW.1 (ci := 7) rfl) rfl rfl hl.1 rfl (lv_room (Nat.le_of_ble_eq_true rfl)) dX6_worth_6 ⟨Nat.le_of_ble_eq_true rfl, Nat.le_of_ble_eq_true rfl⟩) hD hA hS (fun r9 Mn H locs hq9 hP hD hS hz9 hd9 hk9 => ?_)
  obtain ⟨hr9, hW⟩ := hq9
  have hr9 : r9 = (nI (b2 (inB ux 0 ((i 10 : Int) - 1)))) := hr9
  subst hr9
  have hW : MW cy Mn h ad (b2 (!(inB ux 0 ((i 10 : Int) - 1)))) i f := hW
  refine b_if_eq (b := inB ux 0 ((i 10 : Int) - 1)) (tgt := 20) hx hb dX6_worth_9 (by decide) (fun c_9 => ?_) (fun c_9 => ?_)
  · have hW := MW.tf hW c_9
    have c_9 := inB_f c_9
    refine lv_iconst (v := (nI 0)) hx hb dX6_worth_20 (by decide) ?_
    exact e_wi hx hb hr hlocks hP hD hS (mPost_of (a := 1) (b := ((0 : Nat) : Int)) (i := i) (f := f) (by unfold oWorth; (repeat (first | rw [if_pos (by omega)] | rw [if_neg (by omega)])); (first | done | rfl | omega)) (nI_zI _) hW) dX6_worth_21
  · have hW := MW.tt hW c_9
    have c_9 := inB_t c_9
    have ex_1 : x = (nI ux.toNat) := nI_of_toInt (px) (by omega)
    have hl : lv_has ls 2 [(0, .ref h), (1, .int (nI ux.toNat))] := by
      rw [← ex_1]
      exact hl
    refine lv_aload_n hx hb dX6_worth_12 rfl (lv_at hl 0 rfl) ?_
    refine lv_iload_n hx hb dX6_worth_13 rfl (lv_at hl 1 rfl) ?_
    refine m_calli (va_runV (C := RX6) (As := [.int (nI ux.toNat)]) (rest := []) ⟨hx, hb, hml, hown, hts⟩ (c_X6_worthOf l D cy _ _ h ad 0 i f nc ux.toNat hW hI (by omega)) (cwV 1 hts gX6_worth_X6_worthOf rfl rfl rfl (by decide +kernel) ⟨Nat.le_of_ble_eq_true rfl, Nat.le_of_ble_eq_true rfl⟩) (mPreWV hK hP hW.1 (ci := 7) rfl) rfl rfl hl.1 rfl (lv_room (Nat.le_of_ble_eq_true rfl)) dX6_worth_14 ⟨Nat.le_of_ble_eq_true rfl, Nat.le_of_ble_eq_true rfl⟩) hD hA hS (fun r9 Mn H locs hq9 hP hD hS hz9 hd9 hk9 => ?_)
    obtain ⟨hr9, hW⟩ := hq9
    have hr9 : r9 = (zI (worthS f ux.toNat)) := hr9
    subst hr9
    have hW : MW cy Mn h ad 0 i f := hW
    have bs_1 := worthS_bd hI ux.toNat
    refine lv_goto (tgt := 21) hx hb dX6_worth_17 (by decide) ?_
    exact e_wi hx hb hr hlocks hP hD hS (mPost_of (a := 0) (b := worthS f ux.toNat) (i := i) (f := f) (by unfold oWorth; (repeat (first | rw [if_pos (by omega)] | rw [if_neg (by omega)])); (first | done | rfl | omega)) (rfl) hW) dX6_worth_21

set_option maxRecDepth 100000 in
set_option maxHeartbeats 4000000 in
/-- place -/
theorem c_X6_place (l : Launch) (D : va_G) (cy : Nat → ClassId) (M : mM) (sz : Nat) (h : Nat) (ad : Nat → Nat) (t : Nat) (i : Nat → Nat) (f : Nat → Nat → Nat) (nc : Nat)  (x : Int32) (ux : Int) (hW : MW cy M h ad t i f) (hI : MI nc i f)  (px : x.toInt = ux) : mWi l yX6_place wsX6_place ({ frames := 8, cells := 0, slots := 0, locals := 189 } : Room) D cy M sz [.ref h, .int x] (mPost cy h ad (oPlace ux i f)) 0 0 := by
  refine mW.of (cc := cX6_place) (maxL := 2) (ret := (some .int)) (by decide) rfl (Nat.le_of_ble_eq_true rfl) ?_
  intro p e s m args below meth c ls hsz hx hb hr hts hown hlocks hml hname hP hD hS hA hK hl
  have hl : lv_has ls 2 [(0, .ref h), (1, .int x)] := hl
  have hown : s.vm.findClass RX6 = some m.cls := hown
  have hwX6 : ∀ w ∈ wsX60, w.before args s = true := fun w h => hts w (List.mem_cons_of_mem _ (List.mem_append_right _ (h)))
  obtain ⟨hn, hi1, hi2, hi5, hi10, -⟩ := id hI
  have rgx := i32_rng x
  rw [px] at rgx
  refine lv_aload_n hx hb dX6_place_0 rfl (lv_at hl 0 rfl) ?_
  refine lv_aload_n hx hb dX6_place_1 rfl (lv_at hl 0 rfl) ?_
  refine lv_iload_n hx hb dX6_place_2 rfl (lv_at hl 1 rfl) ?_
  refine vp_callSi (W.runV (C := RX6) (As := [.int x]) (rest := [.ref h]) ⟨hx, hb, hml, hown, hts⟩ (c_X6_isScript l D cy _ h ad t i f nc x ux hW hI (px)) (cwV 1 hts gX6_place_X6_isScript rfl rfl rfl (by decide +kernel) ⟨Nat.le_of_ble_eq_true rfl, Nat.le_of_ble_eq_true rfl⟩) (mPreV hK hP hW.1 (ci := 7) rfl) rfl rfl hl.1 rfl (lv_room (Nat.le_of_ble_eq_true rfl)) dX6_place_3 ⟨Nat.le_of_ble_eq_true rfl, Nat.le_of_ble_eq_true rfl⟩) (fun r9 hr9 => ?_)
  have hr9 : r9 = (nI (b2 (inB ux 0 ((i 10 : Int) - 1)))) := hr9
  subst hr9
  refine m_calli (va_runV (C := RX6) (As := [.int (nI (b2 (inB ux 0 ((i 10 : Int) - 1))))]) (rest := []) ⟨hx, hb, hml, hown, hts⟩ (c_X6_asks l D cy _ _ h ad t i f nc (inB ux 0 ((i 10 : Int) - 1)) hW hI) (cwV 1 hts gX6_place_X6_asks rfl rfl rfl (by decide +kernel) ⟨Nat.le_of_ble_eq_true rfl, Nat.le_of_ble_eq_true rfl⟩) (mPreWV hK hP hW.1 (ci := 7) rfl) rfl rfl hl.1 rfl (lv_room (Nat.le_of_ble_eq_true rfl)) dX6_place_6 ⟨Nat.le_of_ble_eq_true rfl, Nat.le_of_ble_eq_true rfl⟩) hD hA hS (fun r9 Mn H locs hq9 hP hD hS hz9 hd9 hk9 => ?_)
  obtain ⟨hr9, hW⟩ := hq9
  have hr9 : r9 = (nI (b2 (inB ux 0 ((i 10 : Int) - 1)))) := hr9
  subst hr9
  have hW : MW cy Mn h ad (b2 (!(inB ux 0 ((i 10 : Int) - 1)))) i f := hW
  refine b_if_eq (b := inB ux 0 ((i 10 : Int) - 1)) (tgt := 20) hx hb dX6_place_9 (by decide) (fun c_9 => ?_) (fun c_9 => ?_)
  · have hW := MW.tf hW c_9
    have c_9 := inB_f c_9
    refine lv_iconst (v := (nI 0)) hx hb dX6_place_20 (by decide) ?_
    exact e_wi hx hb hr hlocks hP hD hS (mPost_of (a := 1) (b := ((0 : Nat) : Int)) (i := i) (f := f) (by unfold oPlace; (repeat (first | rw [if_pos (by omega)] | rw [if_neg (by omega)])); (first | done | rfl | omega)) (nI_zI _) hW) dX6_place_21
  · have hW := MW.tt hW c_9
    have c_9 := inB_t c_9
    have ex_1 : x = (nI ux.toNat) := nI_of_toInt (px) (by omega)
    have hl : lv_has ls 2 [(0, .ref h), (1, .int (nI ux.toNat))] := by
      rw [← ex_1]
      exact hl
    refine lv_aload_n hx hb dX6_place_12 rfl (lv_at hl 0 rfl) ?_
    refine lv_iload_n hx hb dX6_place_13 rfl (lv_at hl 1 rfl) ?_
    refine m_calli (va_runV (C := RX6) (As := [.int (nI ux.toNat)]) (rest := []) ⟨hx, hb, hml, hown, hts⟩ (c_X6_placeOf l D cy _ _ h ad 0 i f nc ux.toNat hW hI (by omega)) (cwV 1 hts gX6_place_X6_placeOf rfl rfl rfl (by decide +kernel) ⟨Nat.le_of_ble_eq_true rfl, Nat.le_of_ble_eq_true rfl⟩) (mPreWV hK hP hW.1 (ci := 7) rfl) rfl rfl hl.1 rfl (lv_room (Nat.le_of_ble_eq_true rfl)) dX6_place_14 ⟨Nat.le_of_ble_eq_true rfl, Nat.le_of_ble_eq_true rfl⟩) hD hA hS (fun r9 Mn H locs hq9 hP hD hS hz9 hd9 hk9 => ?_)
    obtain ⟨hr9, hW⟩ := hq9
    have hr9 : r9 = (zI (placeS f (i 10) ux.toNat)) := hr9
    subst hr9
    have hW : MW cy Mn h ad 0 i f := hW
    have bs_1 := placeS_bd f (i 10) ux.toNat
    refine lv_goto (tgt := 21) hx hb dX6_place_17 (by decide) ?_
    exact e_wi hx hb hr hlocks hP hD hS (mPost_of (a := 0) (b := placeS f (i 10) ux.toNat) (i := i) (f := f) (by unfold oPlace; (repeat (first | rw [if_pos (by omega)] | rw [if_neg (by omega)])); (first | done | rfl | omega)) (rfl) hW) dX6_place_21

set_option maxRecDepth 100000 in
set_option maxHeartbeats 4000000 in
/-- slips -/
theorem c_X6_slips (l : Launch) (D : va_G) (cy : Nat → ClassId) (M : mM) (sz : Nat) (h : Nat) (ad : Nat → Nat) (t : Nat) (i : Nat → Nat) (f : Nat → Nat → Nat) (nc : Nat)  (x : Int32) (ux : Int) (y : Int32) (uy : Int) (hW : MW cy M h ad t i f) (hI : MI nc i f)  (px : x.toInt = ux) (py : y.toInt = uy) : mWi l yX6_slips wsX6_slips ({ frames := 6, cells := 0, slots := 0, locals := 141 } : Room) D cy M sz [.ref h, .int x, .int y] (mPost cy h ad (oSlips ux uy i f)) 0 0 := by
  refine mW.of (cc := cX6_slips) (maxL := 3) (ret := (some .int)) (by decide) rfl (Nat.le_of_ble_eq_true rfl) ?_
  intro p e s m args below meth c ls hsz hx hb hr hts hown hlocks hml hname hP hD hS hA hK hl
  have hl : lv_has ls 3 [(0, .ref h), (1, .int x), (2, .int y)] := hl
  have hown : s.vm.findClass RX6 = some m.cls := hown
  have hwX6 : ∀ w ∈ wsX60, w.before args s = true := fun w h => hts w (List.mem_cons_of_mem _ (List.mem_append_right _ (h)))
  obtain ⟨hn, hi1, hi2, hi5, hi10, -⟩ := id hI
  have rgx := i32_rng x
  rw [px] at rgx
  have rgy := i32_rng y
  rw [py] at rgy
  refine lv_aload_n hx hb dX6_slips_0 rfl (lv_at hl 0 rfl) ?_
  refine lv_aload_n hx hb dX6_slips_1 rfl (lv_at hl 0 rfl) ?_
  refine lv_iload_n hx hb dX6_slips_2 rfl (lv_at hl 1 rfl) ?_
  refine vp_callSi (W.runV (C := RX6) (As := [.int x]) (rest := [.ref h]) ⟨hx, hb, hml, hown, hts⟩ (c_X6_isScript l D cy _ h ad t i f nc x ux hW hI (px)) (cwV 1 hts gX6_slips_X6_isScript rfl rfl rfl (by decide +kernel) ⟨Nat.le_of_ble_eq_true rfl, Nat.le_of_ble_eq_true rfl⟩) (mPreV hK hP hW.1 (ci := 7) rfl) rfl rfl hl.1 rfl (lv_room (Nat.le_of_ble_eq_true rfl)) dX6_slips_3 ⟨Nat.le_of_ble_eq_true rfl, Nat.le_of_ble_eq_true rfl⟩) (fun r9 hr9 => ?_)
  have hr9 : r9 = (nI (b2 (inB ux 0 ((i 10 : Int) - 1)))) := hr9
  subst hr9
  refine m_calli (va_runV (C := RX6) (As := [.int (nI (b2 (inB ux 0 ((i 10 : Int) - 1))))]) (rest := []) ⟨hx, hb, hml, hown, hts⟩ (c_X6_asks l D cy _ _ h ad t i f nc (inB ux 0 ((i 10 : Int) - 1)) hW hI) (cwV 1 hts gX6_slips_X6_asks rfl rfl rfl (by decide +kernel) ⟨Nat.le_of_ble_eq_true rfl, Nat.le_of_ble_eq_true rfl⟩) (mPreWV hK hP hW.1 (ci := 7) rfl) rfl rfl hl.1 rfl (lv_room (Nat.le_of_ble_eq_true rfl)) dX6_slips_6 ⟨Nat.le_of_ble_eq_true rfl, Nat.le_of_ble_eq_true rfl⟩) hD hA hS (fun r9 Mn H locs hq9 hP hD hS hz9 hd9 hk9 => ?_)
  obtain ⟨hr9, hW⟩ := hq9
  have hr9 : r9 = (nI (b2 (inB ux 0 ((i 10 : Int) - 1)))) := hr9
  subst hr9
  have hW : MW cy Mn h ad (b2 (!(inB ux 0 ((i 10 : Int) - 1)))) i f := hW
  refine b_if_ne (b := inB ux 0 ((i 10 : Int) - 1)) (tgt := 14) hx hb dX6_slips_9 (by decide) (fun c_9 => ?_) (fun c_9 => ?_)
  · have hW := MW.tt hW c_9
    have c_9 := inB_t c_9
    refine lv_iload_n hx hb dX6_slips_14 rfl (lv_at hl 2 rfl) ?_
    refine lv_iconst (v := (nI 0)) hx hb dX6_slips_15 (by decide) ?_
    refine lv_iconst (v := (nI 5)) hx hb dX6_slips_16 (by decide) ?_
    refine vp_callSi (W.runS (As := [.int y, .int (nI 0), .int (nI 5)]) (rest := []) ⟨hx, hb, hml, hown, hts⟩ (c_X6_in l y (nI 0) (nI 5) uy ((0 : Nat) : Int) ((5 : Nat) : Int) (py) (nI_toInt (by omega)) (nI_toInt (by omega))) (va_cwS 3 hts gX6_slips_X6_in rfl rfl rfl (by decide +kernel) ⟨Nat.le_of_ble_eq_true rfl, Nat.le_of_ble_eq_true rfl⟩) mPre0 rfl rfl hl.1 rfl (lv_room (Nat.le_of_ble_eq_true rfl)) dX6_slips_17 ⟨Nat.le_of_ble_eq_true rfl, Nat.le_of_ble_eq_true rfl⟩) (fun r9 hr9 => ?_)
    have hr9 : r9 = (nI (b2 (inB uy ((0 : Nat) : Int) ((5 : Nat) : Int)))) := hr9
    subst hr9
    refine b_if_ne (b := inB uy ((0 : Nat) : Int) ((5 : Nat) : Int)) (tgt := 29) hx hb dX6_slips_20 (by decide) (fun c_20 => ?_) (fun c_20 => ?_)
    · have c_20 := inB_t c_20
      have ex_1 : x = (nI ux.toNat) := nI_of_toInt (px) (by omega)
      have ex_2 : y = (nI uy.toNat) := nI_of_toInt (py) (by omega)
      have hl : lv_has ls 3 [(0, .ref h), (1, .int (nI ux.toNat)), (2, .int (nI uy.toNat))] := by
        rw [← ex_1, ← ex_2]
        exact hl
      refine lv_iload_n hx hb dX6_slips_29 rfl (lv_at hl 2 rfl) ?_
      refine lv_iconst (v := (nI 4)) hx hb dX6_slips_30 (by decide) ?_
      refine z_icmp_le (u := ((uy.toNat : Nat) : Int)) (v := ((4 : Nat) : Int)) (tgt := 42) hx hb (nI_toInt (by omega)) (nI_toInt (by omega)) dX6_slips_31 (by decide) (fun c_31 => ?_) (fun c_31 => ?_)
      · refine lv_aload_n hx hb dX6_slips_42 rfl (lv_at hl 0 rfl) ?_
        refine lv_iload_n hx hb dX6_slips_43 rfl (lv_at hl 1 rfl) ?_
        refine lv_iload_n hx hb dX6_slips_44 rfl (lv_at hl 2 rfl) ?_
        refine m_calli (va_runV (C := RX6) (As := [.int (nI ux.toNat), .int (nI uy.toNat)]) (rest := []) ⟨hx, hb, hml, hown, hts⟩ (c_X6_slipsOf l D cy _ _ h ad 0 i f nc ux.toNat uy.toNat hW hI (by omega) (by omega)) (cwV 2 hts gX6_slips_X6_slipsOf rfl rfl rfl (by decide +kernel) ⟨Nat.le_of_ble_eq_true rfl, Nat.le_of_ble_eq_true rfl⟩) (mPreWV hK hP hW.1 (ci := 7) rfl) rfl rfl hl.1 rfl (lv_room (Nat.le_of_ble_eq_true rfl)) dX6_slips_45 ⟨Nat.le_of_ble_eq_true rfl, Nat.le_of_ble_eq_true rfl⟩) hD hA hS (fun r9 Mn H locs hq9 hP hD hS hz9 hd9 hk9 => ?_)
        obtain ⟨hr9, hW⟩ := hq9
        have hr9 : r9 = (zI (slipsK f ux.toNat uy.toNat)) := hr9
        subst hr9
        have hW : MW cy Mn h ad 0 i f := hW
        have bs_1 := slipsK_bd hI ux.toNat uy.toNat
        exact e_wi hx hb hr hlocks hP hD hS (mPost_of (a := 0) (b := slipsK f ux.toNat uy.toNat) (i := i) (f := f) (by unfold oSlips; (repeat (first | rw [if_pos (by omega)] | rw [if_neg (by omega)])); (first | done | rfl | omega)) (rfl) hW) dX6_slips_48
      · refine lv_aload_n hx hb dX6_slips_34 rfl (lv_at hl 0 rfl) ?_
        refine lv_iload_n hx hb dX6_slips_35 rfl (lv_at hl 1 rfl) ?_
        refine m_calli (va_runV (C := RX6) (As := [.int (nI ux.toNat)]) (rest := []) ⟨hx, hb, hml, hown, hts⟩ (c_X6_allSlips l D cy _ _ h ad 0 i f nc ux.toNat hW hI (by omega)) (cwV 1 hts gX6_slips_X6_allSlips rfl rfl rfl (by decide +kernel) ⟨Nat.le_of_ble_eq_true rfl, Nat.le_of_ble_eq_true rfl⟩) (mPreWV hK hP hW.1 (ci := 7) rfl) rfl rfl hl.1 rfl (lv_room (Nat.le_of_ble_eq_true rfl)) dX6_slips_36 ⟨Nat.le_of_ble_eq_true rfl, Nat.le_of_ble_eq_true rfl⟩) hD hA hS (fun r9 Mn H locs hq9 hP hD hS hz9 hd9 hk9 => ?_)
        obtain ⟨hr9, hW⟩ := hq9
        have hr9 : r9 = (zI (allSlips f ux.toNat)) := hr9
        subst hr9
        have hW : MW cy Mn h ad 0 i f := hW
        have bs_2 := allSlips_bd hI ux.toNat
        refine lv_goto (tgt := 48) hx hb dX6_slips_39 (by decide) ?_
        exact e_wi hx hb hr hlocks hP hD hS (mPost_of (a := 0) (b := allSlips f ux.toNat) (i := i) (f := f) (by unfold oSlips; (repeat (first | rw [if_pos (by omega)] | rw [if_neg (by omega)])); (first | done | rfl | omega)) (rfl) hW) dX6_slips_48
    · have c_20 := inB_f c_20
      refine lv_aload_n hx hb dX6_slips_23 rfl (lv_at hl 0 rfl) ?_
      refine lv_iconst (v := (nI 2)) hx hb dX6_slips_24 (by decide) ?_
      refine m_calli (va_runV (C := RX6) (As := [.int (nI 2)]) (rest := []) ⟨hx, hb, hml, hown, hts⟩ (c_X6_fails l D cy _ _ h ad 0 i f nc 2 hW hI) (cwV 1 hts gX6_slips_X6_fails rfl rfl rfl (by decide +kernel) ⟨Nat.le_of_ble_eq_true rfl, Nat.le_of_ble_eq_true rfl⟩) (mPreWV hK hP hW.1 (ci := 7) rfl) rfl rfl hl.1 rfl (lv_room (Nat.le_of_ble_eq_true rfl)) dX6_slips_25 ⟨Nat.le_of_ble_eq_true rfl, Nat.le_of_ble_eq_true rfl⟩) hD hA hS (fun r9 Mn H locs hq9 hP hD hS hz9 hd9 hk9 => ?_)
      obtain ⟨hr9, hW⟩ := hq9
      have hr9 : r9 = (nI 0) := hr9
      subst hr9
      have hW : MW cy Mn h ad 2 i f := hW
      exact e_wi hx hb hr hlocks hP hD hS (mPost_of (a := 2) (b := ((0 : Nat) : Int)) (i := i) (f := f) (by unfold oSlips; (repeat (first | rw [if_pos (by omega)] | rw [if_neg (by omega)])); (first | done | rfl | omega)) (nI_zI _) hW) dX6_slips_28
  · have hW := MW.tf hW c_9
    have c_9 := inB_f c_9
    refine lv_iconst (v := (nI 0)) hx hb dX6_slips_12 (by decide) ?_
    exact e_wi hx hb hr hlocks hP hD hS (mPost_of (a := 1) (b := ((0 : Nat) : Int)) (i := i) (f := f) (by unfold oSlips; (repeat (first | rw [if_pos (by omega)] | rw [if_neg (by omega)])); (first | done | rfl | omega)) (nI_zI _) hW) dX6_slips_13

set_option maxRecDepth 100000 in
set_option maxHeartbeats 4000000 in
/-- mark -/
theorem c_X6_mark (l : Launch) (D : va_G) (cy : Nat → ClassId) (M : mM) (sz : Nat) (h : Nat) (ad : Nat → Nat) (t : Nat) (i : Nat → Nat) (f : Nat → Nat → Nat) (nc : Nat)  (x : Int32) (ux : Int) (y : Int32) (uy : Int) (z : Int32) (uz : Int) (hW : MW cy M h ad t i f) (hI : MI nc i f)  (px : x.toInt = ux) (py : y.toInt = uy) (pz : z.toInt = uz) : mWi l yX6_mark wsX6_mark ({ frames := 2, cells := 0, slots := 0, locals := 43 } : Room) D cy M sz [.ref h, .int x, .int y, .int z] (mPost cy h ad (oMark ux uy uz i f)) 0 0 := by
  refine mW.of (cc := cX6_mark) (maxL := 4) (ret := (some .int)) (by decide) rfl (Nat.le_of_ble_eq_true rfl) ?_
  intro p e s m args below meth c ls hsz hx hb hr hts hown hlocks hml hname hP hD hS hA hK hl
  have hl : lv_has ls 4 [(0, .ref h), (1, .int x), (2, .int y), (3, .int z)] := hl
  have hown : s.vm.findClass RX6 = some m.cls := hown
  have hwX6 : ∀ w ∈ wsX60, w.before args s = true := fun w h => hts w (List.mem_cons_of_mem _ (List.mem_append_right _ (h)))
  obtain ⟨hn, hi1, hi2, hi5, hi10, -⟩ := id hI
  have rgx := i32_rng x
  rw [px] at rgx
  have rgy := i32_rng y
  rw [py] at rgy
  have rgz := i32_rng z
  rw [pz] at rgz
  refine lv_aload_n hx hb dX6_mark_0 rfl (lv_at hl 0 rfl) ?_
  refine lv_iload_n hx hb dX6_mark_1 rfl (lv_at hl 1 rfl) ?_
  refine vp_callSi (W.runS (As := [.int x]) (rest := [.ref h]) ⟨hx, hb, hml, hown, hts⟩ (c_X6_isExaminer l x ux (px)) (va_cwS 1 hts gX6_mark_X6_isExaminer rfl rfl rfl (by decide +kernel) ⟨Nat.le_of_ble_eq_true rfl, Nat.le_of_ble_eq_true rfl⟩) mPre0 rfl rfl hl.1 rfl (lv_room (Nat.le_of_ble_eq_true rfl)) dX6_mark_2 ⟨Nat.le_of_ble_eq_true rfl, Nat.le_of_ble_eq_true rfl⟩) (fun r9 hr9 => ?_)
  have hr9 : r9 = (nI (b2 (inB ux 0 5))) := hr9
  subst hr9
  refine b_if_eq (b := inB ux 0 5) (tgt := 20) hx hb dX6_mark_5 (by decide) (fun c_5 => ?_) (fun c_5 => ?_)
  · have c_5 := inB_f c_5
    refine lv_iconst (v := (nI 0)) hx hb dX6_mark_20 (by decide) ?_
    refine m_calli (va_runV (C := RX6) (As := [.int (nI 0)]) (rest := []) ⟨hx, hb, hml, hown, hts⟩ (c_X6_asks l D cy _ _ h ad t i f nc false hW hI) (cwV 1 hts gX6_mark_X6_asks rfl rfl rfl (by decide +kernel) ⟨Nat.le_of_ble_eq_true rfl, Nat.le_of_ble_eq_true rfl⟩) (mPreWV hK hP hW.1 (ci := 7) rfl) rfl rfl hl.1 rfl (lv_room (Nat.le_of_ble_eq_true rfl)) dX6_mark_21 ⟨Nat.le_of_ble_eq_true rfl, Nat.le_of_ble_eq_true rfl⟩) hD hA hS (fun r9 Mn H locs hq9 hP hD hS hz9 hd9 hk9 => ?_)
    obtain ⟨hr9, hW⟩ := hq9
    have hr9 : r9 = (nI 0) := hr9
    subst hr9
    have hW : MW cy Mn h ad 1 i f := hW
    refine k_if_ne_0 (tgt := 29) hx hb dX6_mark_24 (by decide) ?_
    refine lv_iconst (v := (nI 0)) hx hb dX6_mark_27 (by decide) ?_
    exact e_wi hx hb hr hlocks hP hD hS (mPost_of (a := 1) (b := ((0 : Nat) : Int)) (i := i) (f := f) (by unfold oMark; (repeat (first | rw [if_pos (by omega)] | rw [if_neg (by omega)] | rw [if_pos (Or.inl (by omega))] | rw [if_pos (Or.inr (Or.inl c_60))] | rw [if_pos (Or.inr (Or.inr (by omega)))] | rw [if_neg (fun h9 => by rcases h9 with h9 | h9 | h9; (omega); (rw [c_60] at h9; cases h9); (omega))])); (first | done | rfl | omega)) (nI_zI _) hW) dX6_mark_28
  · have c_5 := inB_t c_5
    refine lv_aload_n hx hb dX6_mark_8 rfl (lv_at hl 0 rfl) ?_
    refine lv_iload_n hx hb dX6_mark_9 rfl (lv_at hl 2 rfl) ?_
    refine vp_callSi (W.runV (C := RX6) (As := [.int y]) (rest := [.ref h]) ⟨hx, hb, hml, hown, hts⟩ (c_X6_isScript l D cy _ h ad t i f nc y uy hW hI (py)) (cwV 1 hts gX6_mark_X6_isScript rfl rfl rfl (by decide +kernel) ⟨Nat.le_of_ble_eq_true rfl, Nat.le_of_ble_eq_true rfl⟩) (mPreV hK hP hW.1 (ci := 7) rfl) rfl rfl hl.1 rfl (lv_room (Nat.le_of_ble_eq_true rfl)) dX6_mark_10 ⟨Nat.le_of_ble_eq_true rfl, Nat.le_of_ble_eq_true rfl⟩) (fun r9 hr9 => ?_)
    have hr9 : r9 = (nI (b2 (inB uy 0 ((i 10 : Int) - 1)))) := hr9
    subst hr9
    refine b_if_eq (b := inB uy 0 ((i 10 : Int) - 1)) (tgt := 20) hx hb dX6_mark_13 (by decide) (fun c_13 => ?_) (fun c_13 => ?_)
    · have c_13 := inB_f c_13
      refine lv_iconst (v := (nI 0)) hx hb dX6_mark_20 (by decide) ?_
      refine m_calli (va_runV (C := RX6) (As := [.int (nI 0)]) (rest := []) ⟨hx, hb, hml, hown, hts⟩ (c_X6_asks l D cy _ _ h ad t i f nc false hW hI) (cwV 1 hts gX6_mark_X6_asks rfl rfl rfl (by decide +kernel) ⟨Nat.le_of_ble_eq_true rfl, Nat.le_of_ble_eq_true rfl⟩) (mPreWV hK hP hW.1 (ci := 7) rfl) rfl rfl hl.1 rfl (lv_room (Nat.le_of_ble_eq_true rfl)) dX6_mark_21 ⟨Nat.le_of_ble_eq_true rfl, Nat.le_of_ble_eq_true rfl⟩) hD hA hS (fun r9 Mn H locs hq9 hP hD hS hz9 hd9 hk9 => ?_)
      obtain ⟨hr9, hW⟩ := hq9
      have hr9 : r9 = (nI 0) := hr9
      subst hr9
      have hW : MW cy Mn h ad 1 i f := hW
      refine k_if_ne_0 (tgt := 29) hx hb dX6_mark_24 (by decide) ?_
      refine lv_iconst (v := (nI 0)) hx hb dX6_mark_27 (by decide) ?_
      exact e_wi hx hb hr hlocks hP hD hS (mPost_of (a := 1) (b := ((0 : Nat) : Int)) (i := i) (f := f) (by unfold oMark; (repeat (first | rw [if_pos (by omega)] | rw [if_neg (by omega)] | rw [if_pos (Or.inl (by omega))] | rw [if_pos (Or.inr (Or.inl c_60))] | rw [if_pos (Or.inr (Or.inr (by omega)))] | rw [if_neg (fun h9 => by rcases h9 with h9 | h9 | h9; (omega); (rw [c_60] at h9; cases h9); (omega))])); (first | done | rfl | omega)) (nI_zI _) hW) dX6_mark_28
    · have c_13 := inB_t c_13
      refine lv_iconst (v := (nI 1)) hx hb dX6_mark_16 (by decide) ?_
      refine lv_goto (tgt := 21) hx hb dX6_mark_17 (by decide) ?_
      refine m_calli (va_runV (C := RX6) (As := [.int (nI 1)]) (rest := []) ⟨hx, hb, hml, hown, hts⟩ (c_X6_asks l D cy _ _ h ad t i f nc true hW hI) (cwV 1 hts gX6_mark_X6_asks rfl rfl rfl (by decide +kernel) ⟨Nat.le_of_ble_eq_true rfl, Nat.le_of_ble_eq_true rfl⟩) (mPreWV hK hP hW.1 (ci := 7) rfl) rfl rfl hl.1 rfl (lv_room (Nat.le_of_ble_eq_true rfl)) dX6_mark_21 ⟨Nat.le_of_ble_eq_true rfl, Nat.le_of_ble_eq_true rfl⟩) hD hA hS (fun r9 Mn H locs hq9 hP hD hS hz9 hd9 hk9 => ?_)
      obtain ⟨hr9, hW⟩ := hq9
      have hr9 : r9 = (nI 1) := hr9
      subst hr9
      have hW : MW cy Mn h ad 0 i f := hW
      refine k_if_ne_1 (tgt := 29) hx hb dX6_mark_24 (by decide) ?_
      refine lv_iload_n hx hb dX6_mark_29 rfl (lv_at hl 3 rfl) ?_
      refine lv_iconst (v := (nI 0)) hx hb dX6_mark_30 (by decide) ?_
      refine lv_bipush (v := (nI 20)) hx hb dX6_mark_31 (by decide) ?_
      refine vp_callSi (W.runS (As := [.int z, .int (nI 0), .int (nI 20)]) (rest := []) ⟨hx, hb, hml, hown, hts⟩ (c_X6_in l z (nI 0) (nI 20) uz ((0 : Nat) : Int) ((20 : Nat) : Int) (pz) (nI_toInt (by omega)) (nI_toInt (by omega))) (va_cwS 3 hts gX6_mark_X6_in rfl rfl rfl (by decide +kernel) ⟨Nat.le_of_ble_eq_true rfl, Nat.le_of_ble_eq_true rfl⟩) mPre0 rfl rfl hl.1 rfl (lv_room (Nat.le_of_ble_eq_true rfl)) dX6_mark_33 ⟨Nat.le_of_ble_eq_true rfl, Nat.le_of_ble_eq_true rfl⟩) (fun r9 hr9 => ?_)
      have hr9 : r9 = (nI (b2 (inB uz ((0 : Nat) : Int) ((20 : Nat) : Int)))) := hr9
      subst hr9
      refine b_if_ne (b := inB uz ((0 : Nat) : Int) ((20 : Nat) : Int)) (tgt := 45) hx hb dX6_mark_36 (by decide) (fun c_36 => ?_) (fun c_36 => ?_)
      · have c_36 := inB_t c_36
        have ex_1 : x = (nI ux.toNat) := nI_of_toInt (px) (by omega)
        have ex_2 : y = (nI uy.toNat) := nI_of_toInt (py) (by omega)
        have ex_3 : z = (nI uz.toNat) := nI_of_toInt (pz) (by omega)
        have hl : lv_has ls 4 [(0, .ref h), (1, .int (nI ux.toNat)), (2, .int (nI uy.toNat)), (3, .int (nI uz.toNat))] := by
          rw [← ex_1, ← ex_2, ← ex_3]
          exact hl
        refine lv_aload_n hx hb dX6_mark_45 rfl (lv_at hl 0 rfl) ?_
        refine m_get (T := TX6) (N := 24) (ci := 7) (fs := (moF ad 0 i)) hx hb hwX6 hown hK hP hW.1 rfl 19 (by decide) (hts _ (List.mem_of_getElem? (i := 1) rfl)) (v := .ref (ad 19)) rfl dX6_mark_46 ?_
        refine lv_iload_n hx hb dX6_mark_49 rfl (lv_at hl 1 rfl) ?_
        have bd_1 : (f 19) ux.toNat ≤ 1 := hI.2.2.2.2.2 19 ux.toNat
        refine n_zald (g := (f 19)) (n := 6) (i := ux.toNat) hx hb hK hP (hW.2.2.1 19 (by decide)) (by omega) (by omega) dX6_mark_50 ?_
        refine z_if_ne (u := (((f 19) ux.toNat : Nat) : Int)) (tgt := 71) hx hb (nI_toInt (by omega)) dX6_mark_51 (by decide) (fun c_51 => ?_) (fun c_51 => ?_)
        · refine lv_aload_n hx hb dX6_mark_71 rfl (lv_at hl 0 rfl) ?_
          refine lv_iconst (v := (nI 3)) hx hb dX6_mark_72 (by decide) ?_
          refine m_calli (va_runV (C := RX6) (As := [.int (nI 3)]) (rest := []) ⟨hx, hb, hml, hown, hts⟩ (c_X6_fails l D cy _ _ h ad 0 i f nc 3 hW hI) (cwV 1 hts gX6_mark_X6_fails rfl rfl rfl (by decide +kernel) ⟨Nat.le_of_ble_eq_true rfl, Nat.le_of_ble_eq_true rfl⟩) (mPreWV hK hP hW.1 (ci := 7) rfl) rfl rfl hl.1 rfl (lv_room (Nat.le_of_ble_eq_true rfl)) dX6_mark_73 ⟨Nat.le_of_ble_eq_true rfl, Nat.le_of_ble_eq_true rfl⟩) hD hA hS (fun r9 Mn H locs hq9 hP hD hS hz9 hd9 hk9 => ?_)
          obtain ⟨hr9, hW⟩ := hq9
          have hr9 : r9 = (nI 0) := hr9
          subst hr9
          have hW : MW cy Mn h ad 3 i f := hW
          exact e_wi hx hb hr hlocks hP hD hS (mPost_of (a := 3) (b := ((0 : Nat) : Int)) (i := i) (f := f) (by unfold oMark; (repeat (first | rw [if_pos (by omega)] | rw [if_neg (by omega)] | rw [if_pos (Or.inl (by omega))] | rw [if_pos (Or.inr (Or.inl c_60))] | rw [if_pos (Or.inr (Or.inr (by omega)))] | rw [if_neg (fun h9 => by rcases h9 with h9 | h9 | h9; (omega); (rw [c_60] at h9; cases h9); (omega))])); (first | done | rfl | omega)) (nI_zI _) hW) dX6_mark_76
        · refine lv_aload_n hx hb dX6_mark_54 rfl (lv_at hl 0 rfl) ?_
          refine lv_iload_n hx hb dX6_mark_55 rfl (lv_at hl 1 rfl) ?_
          refine lv_iload_n hx hb dX6_mark_56 rfl (lv_at hl 2 rfl) ?_
          refine vp_callSi (W.runV (C := RX6) (As := [.int (nI ux.toNat), .int (nI uy.toNat)]) (rest := []) ⟨hx, hb, hml, hown, hts⟩ (c_X6_hasMarked l D cy _ h ad 0 i f nc ux.toNat uy.toNat hW hI (by omega) (by omega)) (cwV 2 hts gX6_mark_X6_hasMarked rfl rfl rfl (by decide +kernel) ⟨Nat.le_of_ble_eq_true rfl, Nat.le_of_ble_eq_true rfl⟩) (mPreV hK hP hW.1 (ci := 7) rfl) rfl rfl hl.1 rfl (lv_room (Nat.le_of_ble_eq_true rfl)) dX6_mark_57 ⟨Nat.le_of_ble_eq_true rfl, Nat.le_of_ble_eq_true rfl⟩) (fun r9 hr9 => ?_)
          have hr9 : r9 = (nI (b2 (has f ux.toNat uy.toNat))) := hr9
          subst hr9
          refine b_if_ne (b := has f ux.toNat uy.toNat) (tgt := 71) hx hb dX6_mark_60 (by decide) (fun c_60 => ?_) (fun c_60 => ?_)
          · refine lv_aload_n hx hb dX6_mark_71 rfl (lv_at hl 0 rfl) ?_
            refine lv_iconst (v := (nI 3)) hx hb dX6_mark_72 (by decide) ?_
            refine m_calli (va_runV (C := RX6) (As := [.int (nI 3)]) (rest := []) ⟨hx, hb, hml, hown, hts⟩ (c_X6_fails l D cy _ _ h ad 0 i f nc 3 hW hI) (cwV 1 hts gX6_mark_X6_fails rfl rfl rfl (by decide +kernel) ⟨Nat.le_of_ble_eq_true rfl, Nat.le_of_ble_eq_true rfl⟩) (mPreWV hK hP hW.1 (ci := 7) rfl) rfl rfl hl.1 rfl (lv_room (Nat.le_of_ble_eq_true rfl)) dX6_mark_73 ⟨Nat.le_of_ble_eq_true rfl, Nat.le_of_ble_eq_true rfl⟩) hD hA hS (fun r9 Mn H locs hq9 hP hD hS hz9 hd9 hk9 => ?_)
            obtain ⟨hr9, hW⟩ := hq9
            have hr9 : r9 = (nI 0) := hr9
            subst hr9
            have hW : MW cy Mn h ad 3 i f := hW
            exact e_wi hx hb hr hlocks hP hD hS (mPost_of (a := 3) (b := ((0 : Nat) : Int)) (i := i) (f := f) (by unfold oMark; (repeat (first | rw [if_pos (by omega)] | rw [if_neg (by omega)] | rw [if_pos (Or.inl (by omega))] | rw [if_pos (Or.inr (Or.inl c_60))] | rw [if_pos (Or.inr (Or.inr (by omega)))] | rw [if_neg (fun h9 => by rcases h9 with h9 | h9 | h9; (omega); (rw [c_60] at h9; cases h9); (omega))])); (first | done | rfl | omega)) (nI_zI _) hW) dX6_mark_76
          · refine lv_aload_n hx hb dX6_mark_63 rfl (lv_at hl 0 rfl) ?_
            refine lv_iload_n hx hb dX6_mark_64 rfl (lv_at hl 2 rfl) ?_
            refine vp_callSi (W.runV (C := RX6) (As := [.int (nI uy.toNat)]) (rest := []) ⟨hx, hb, hml, hown, hts⟩ (c_X6_lacking l D cy _ h ad 0 i f nc uy.toNat hW hI (by omega)) (cwV 1 hts gX6_mark_X6_lacking rfl rfl rfl (by decide +kernel) ⟨Nat.le_of_ble_eq_true rfl, Nat.le_of_ble_eq_true rfl⟩) (mPreV hK hP hW.1 (ci := 7) rfl) rfl rfl hl.1 rfl (lv_room (Nat.le_of_ble_eq_true rfl)) dX6_mark_65 ⟨Nat.le_of_ble_eq_true rfl, Nat.le_of_ble_eq_true rfl⟩) (fun r9 hr9 => ?_)
            have hr9 : r9 = (nI (lackS f uy.toNat)) := hr9
            subst hr9
            have bs_2 : lackS f uy.toNat ≤ 2 := lackS_le _ _
            refine z_if_ne (u := ((lackS f uy.toNat : Nat) : Int)) (tgt := 77) hx hb (nI_toInt (by omega)) dX6_mark_68 (by decide) (fun c_68 => ?_) (fun c_68 => ?_)
            · have h18 : f 18 uy.toNat ≤ 2 := lackS_ne (by omega)
              refine lv_aload_n hx hb dX6_mark_77 rfl (lv_at hl 0 rfl) ?_
              refine m_get (T := TX6) (N := 24) (ci := 7) (fs := (moF ad 0 i)) hx hb hwX6 hown hK hP hW.1 rfl 16 (by decide) (hts _ (List.mem_of_getElem? (i := 2) rfl)) (v := .ref (ad 16)) rfl dX6_mark_78 ?_
              refine lv_iconst (v := (nI 3)) hx hb dX6_mark_81 (by decide) ?_
              refine lv_iload_n hx hb dX6_mark_82 rfl (lv_at hl 2 rfl) ?_
              refine n_mul (x := 3) (y := uy.toNat) hx hb dX6_mark_83 ?_
              refine lv_aload_n hx hb dX6_mark_84 rfl (lv_at hl 0 rfl) ?_
              refine m_get (T := TX6) (N := 24) (ci := 7) (fs := (moF ad 0 i)) hx hb hwX6 hown hK hP hW.1 rfl 18 (by decide) (hts _ (List.mem_of_getElem? (i := 3) rfl)) (v := .ref (ad 18)) rfl dX6_mark_85 ?_
              refine lv_iload_n hx hb dX6_mark_88 rfl (lv_at hl 2 rfl) ?_
              have bd_3 : (f 18) uy.toNat ≤ 3 := hI.2.2.2.2.2 18 uy.toNat
              refine n_iald (g := (f 18)) (n := 40) (i := uy.toNat) hx hb hK hP (hW.2.1 18 (by decide)) (by omega) (by omega) dX6_mark_89 ?_
              refine n_add (x := 3 * uy.toNat) (y := (f 18) uy.toNat) hx hb dX6_mark_90 ?_
              refine lv_iload_n hx hb dX6_mark_91 rfl (lv_at hl 3 rfl) ?_
              refine n_iast (g := (f 16)) (n := 120) (i := (3 * uy.toNat) + ((f 18) uy.toNat)) (v := uz.toNat) hx hb hK hP hD hS (hW.2.1 16 (by decide)) (by omega) (by omega) dX6_mark_92 (fun H locs hP hD hS => ?_)
              have hW := hW.setI 16 (by decide) (va_up (f 16) ((3 * uy.toNat) + ((f 18) uy.toNat)) uz.toNat)
              refine lv_aload_n hx hb dX6_mark_93 rfl (lv_at hl 0 rfl) ?_
              refine m_get (T := TX6) (N := 24) (ci := 7) (fs := (moF ad 0 i)) hx hb hwX6 hown hK hP hW.1 rfl 17 (by decide) (hts _ (List.mem_of_getElem? (i := 4) rfl)) (v := .ref (ad 17)) rfl dX6_mark_94 ?_
              refine lv_iconst (v := (nI 3)) hx hb dX6_mark_97 (by decide) ?_
              refine lv_iload_n hx hb dX6_mark_98 rfl (lv_at hl 2 rfl) ?_
              refine n_mul (x := 3) (y := uy.toNat) hx hb dX6_mark_99 ?_
              refine lv_aload_n hx hb dX6_mark_100 rfl (lv_at hl 0 rfl) ?_
              refine m_get (T := TX6) (N := 24) (ci := 7) (fs := (moF ad 0 i)) hx hb hwX6 hown hK hP hW.1 rfl 18 (by decide) (hts _ (List.mem_of_getElem? (i := 3) rfl)) (v := .ref (ad 18)) rfl dX6_mark_101 ?_
              refine lv_iload_n hx hb dX6_mark_104 rfl (lv_at hl 2 rfl) ?_
              have bd_4 : (f 18) uy.toNat ≤ 3 := hI.2.2.2.2.2 18 uy.toNat
              refine n_iald (g := (f 18)) (n := 40) (i := uy.toNat) hx hb hK hP (hW.2.1 18 (by decide)) (by omega) (by omega) dX6_mark_105 ?_
              refine n_add (x := 3 * uy.toNat) (y := (f 18) uy.toNat) hx hb dX6_mark_106 ?_
              refine lv_iload_n hx hb dX6_mark_107 rfl (lv_at hl 1 rfl) ?_
              refine n_iast (g := (f 17)) (n := 120) (i := (3 * uy.toNat) + ((f 18) uy.toNat)) (v := ux.toNat) hx hb hK hP hD hS (hW.2.1 17 (by decide)) (by omega) (by omega) dX6_mark_108 (fun H locs hP hD hS => ?_)
              have hW := hW.setI 17 (by decide) (va_up (f 17) ((3 * uy.toNat) + ((f 18) uy.toNat)) ux.toNat)
              refine lv_aload_n hx hb dX6_mark_109 rfl (lv_at hl 0 rfl) ?_
              refine m_get (T := TX6) (N := 24) (ci := 7) (fs := (moF ad 0 i)) hx hb hwX6 hown hK hP hW.1 rfl 18 (by decide) (hts _ (List.mem_of_getElem? (i := 3) rfl)) (v := .ref (ad 18)) rfl dX6_mark_110 ?_
              refine lv_iload_n hx hb dX6_mark_113 rfl (lv_at hl 2 rfl) ?_
              refine lv_dup2_11 hx hb dX6_mark_114 rfl rfl ?_
              have bd_5 : (f 18) uy.toNat ≤ 3 := hI.2.2.2.2.2 18 uy.toNat
              refine n_iald (g := (f 18)) (n := 40) (i := uy.toNat) hx hb hK hP (hW.2.1 18 (by decide)) (by omega) (by omega) dX6_mark_115 ?_
              refine lv_iconst (v := (nI 1)) hx hb dX6_mark_116 (by decide) ?_
              refine n_add (x := (f 18) uy.toNat) (y := 1) hx hb dX6_mark_117 ?_
              refine n_iast (g := (f 18)) (n := 40) (i := uy.toNat) (v := ((f 18) uy.toNat) + 1) hx hb hK hP hD hS (hW.2.1 18 (by decide)) (by omega) (by omega) dX6_mark_118 (fun H locs hP hD hS => ?_)
              have hW := hW.setI 18 (by decide) (va_up (f 18) uy.toNat (((f 18) uy.toNat) + 1))
              refine lv_aload_n hx hb dX6_mark_119 rfl (lv_at hl 0 rfl) ?_
              refine m_get (T := TX6) (N := 24) (ci := 7) (fs := (moF ad 0 i)) hx hb hwX6 hown hK hP hW.1 rfl 18 (by decide) (hts _ (List.mem_of_getElem? (i := 3) rfl)) (v := .ref (ad 18)) rfl dX6_mark_120 ?_
              refine lv_iload_n hx hb dX6_mark_123 rfl (lv_at hl 2 rfl) ?_
              refine n_iald (g := (va_up (f 18) uy.toNat (((f 18) uy.toNat) + 1))) (n := 40) (i := uy.toNat) hx hb hK hP (hW.2.1 18 (by decide)) (by omega) (by omega) dX6_mark_124 ?_
              refine n_name (show (nI ((va_up (f 18) uy.toNat (((f 18) uy.toNat) + 1)) uy.toNat)) = (nI (f 18 uy.toNat + 1)) from congrArg nI (va_up_self _ _ _)) ?_
              exact e_wi hx hb hr hlocks hP hD hS (mPost_of (a := 0) (b := ((f 18 uy.toNat + 1 : Nat) : Int)) (i := i) (f := va_up (va_up (va_up f 16 (va_up (f 16) ((3 * uy.toNat) + ((f 18) uy.toNat)) uz.toNat)) 17 (va_up (f 17) ((3 * uy.toNat) + ((f 18) uy.toNat)) ux.toNat)) 18 (va_up (f 18) uy.toNat (((f 18) uy.toNat) + 1))) (by unfold oMark; (repeat (first | rw [if_pos (by omega)] | rw [if_neg (by omega)] | rw [if_pos (Or.inl (by omega))] | rw [if_pos (Or.inr (Or.inl c_60))] | rw [if_pos (Or.inr (Or.inr (by omega)))] | rw [if_neg (fun h9 => by rcases h9 with h9 | h9 | h9; (omega); (rw [c_60] at h9; cases h9); (omega))])); (first | done | rfl | omega)) (nI_zI _) hW) dX6_mark_125
            · refine lv_aload_n hx hb dX6_mark_71 rfl (lv_at hl 0 rfl) ?_
              refine lv_iconst (v := (nI 3)) hx hb dX6_mark_72 (by decide) ?_
              refine m_calli (va_runV (C := RX6) (As := [.int (nI 3)]) (rest := []) ⟨hx, hb, hml, hown, hts⟩ (c_X6_fails l D cy _ _ h ad 0 i f nc 3 hW hI) (cwV 1 hts gX6_mark_X6_fails rfl rfl rfl (by decide +kernel) ⟨Nat.le_of_ble_eq_true rfl, Nat.le_of_ble_eq_true rfl⟩) (mPreWV hK hP hW.1 (ci := 7) rfl) rfl rfl hl.1 rfl (lv_room (Nat.le_of_ble_eq_true rfl)) dX6_mark_73 ⟨Nat.le_of_ble_eq_true rfl, Nat.le_of_ble_eq_true rfl⟩) hD hA hS (fun r9 Mn H locs hq9 hP hD hS hz9 hd9 hk9 => ?_)
              obtain ⟨hr9, hW⟩ := hq9
              have hr9 : r9 = (nI 0) := hr9
              subst hr9
              have hW : MW cy Mn h ad 3 i f := hW
              exact e_wi hx hb hr hlocks hP hD hS (mPost_of (a := 3) (b := ((0 : Nat) : Int)) (i := i) (f := f) (by unfold oMark; (repeat (first | rw [if_pos (by omega)] | rw [if_neg (by omega)] | rw [if_pos (Or.inl (by omega))] | rw [if_pos (Or.inr (Or.inl c_60))] | rw [if_pos (Or.inr (Or.inr (by omega)))] | rw [if_neg (fun h9 => by rcases h9 with h9 | h9 | h9; (omega); (rw [c_60] at h9; cases h9); (omega))])); (first | done | rfl | omega)) (nI_zI _) hW) dX6_mark_76
      · have c_36 := inB_f c_36
        refine lv_aload_n hx hb dX6_mark_39 rfl (lv_at hl 0 rfl) ?_
        refine lv_iconst (v := (nI 2)) hx hb dX6_mark_40 (by decide) ?_
        refine m_calli (va_runV (C := RX6) (As := [.int (nI 2)]) (rest := []) ⟨hx, hb, hml, hown, hts⟩ (c_X6_fails l D cy _ _ h ad 0 i f nc 2 hW hI) (cwV 1 hts gX6_mark_X6_fails rfl rfl rfl (by decide +kernel) ⟨Nat.le_of_ble_eq_true rfl, Nat.le_of_ble_eq_true rfl⟩) (mPreWV hK hP hW.1 (ci := 7) rfl) rfl rfl hl.1 rfl (lv_room (Nat.le_of_ble_eq_true rfl)) dX6_mark_41 ⟨Nat.le_of_ble_eq_true rfl, Nat.le_of_ble_eq_true rfl⟩) hD hA hS (fun r9 Mn H locs hq9 hP hD hS hz9 hd9 hk9 => ?_)
        obtain ⟨hr9, hW⟩ := hq9
        have hr9 : r9 = (nI 0) := hr9
        subst hr9
        have hW : MW cy Mn h ad 2 i f := hW
        exact e_wi hx hb hr hlocks hP hD hS (mPost_of (a := 2) (b := ((0 : Nat) : Int)) (i := i) (f := f) (by unfold oMark; (repeat (first | rw [if_pos (by omega)] | rw [if_neg (by omega)] | rw [if_pos (Or.inl (by omega))] | rw [if_pos (Or.inr (Or.inl c_60))] | rw [if_pos (Or.inr (Or.inr (by omega)))] | rw [if_neg (fun h9 => by rcases h9 with h9 | h9 | h9; (omega); (rw [c_60] at h9; cases h9); (omega))])); (first | done | rfl | omega)) (nI_zI _) hW) dX6_mark_44

set_option maxRecDepth 100000 in
set_option maxHeartbeats 4000000 in
/-- show -/
theorem c_X6_show (l : Launch) (D : va_G) (cy : Nat → ClassId) (M : mM) (sz : Nat) (h : Nat) (ad : Nat → Nat) (t : Nat) (i : Nat → Nat) (f : Nat → Nat → Nat) (nc : Nat)  (x : Int32) (ux : Int) (hW : MW cy M h ad t i f) (hI : MI nc i f)  (px : x.toInt = ux) : mWi l yX6_show wsX6_show ({ frames := 2, cells := 0, slots := 0, locals := 49 } : Room) D cy M sz [.ref h, .int x] (mPost cy h ad (oShow ux i f)) 0 0 := by
  refine mW.of (cc := cX6_show) (maxL := 4) (ret := (some .int)) (by decide) rfl (Nat.le_of_ble_eq_true rfl) ?_
  intro p e s m args below meth c ls hsz hx hb hr hts hown hlocks hml hname hP hD hS hA hK hl
  have hl : lv_has ls 4 [(0, .ref h), (1, .int x)] := hl
  have hown : s.vm.findClass RX6 = some m.cls := hown
  have hwX6 : ∀ w ∈ wsX60, w.before args s = true := fun w h => hts w (List.mem_cons_of_mem _ (List.mem_append_right _ (h)))
  obtain ⟨hn, hi1, hi2, hi5, hi10, -⟩ := id hI
  have rgx := i32_rng x
  rw [px] at rgx
  refine lv_aload_n hx hb dX6_show_0 rfl (lv_at hl 0 rfl) ?_
  refine lv_aload_n hx hb dX6_show_1 rfl (lv_at hl 0 rfl) ?_
  refine lv_iload_n hx hb dX6_show_2 rfl (lv_at hl 1 rfl) ?_
  refine vp_callSi (W.runV (C := RX6) (As := [.int x]) (rest := [.ref h]) ⟨hx, hb, hml, hown, hts⟩ (c_X6_isScript l D cy _ h ad t i f nc x ux hW hI (px)) (cwV 1 hts gX6_show_X6_isScript rfl rfl rfl (by decide +kernel) ⟨Nat.le_of_ble_eq_true rfl, Nat.le_of_ble_eq_true rfl⟩) (mPreV hK hP hW.1 (ci := 7) rfl) rfl rfl hl.1 rfl (lv_room (Nat.le_of_ble_eq_true rfl)) dX6_show_3 ⟨Nat.le_of_ble_eq_true rfl, Nat.le_of_ble_eq_true rfl⟩) (fun r9 hr9 => ?_)
  have hr9 : r9 = (nI (b2 (inB ux 0 ((i 10 : Int) - 1)))) := hr9
  subst hr9
  refine m_calli (va_runV (C := RX6) (As := [.int (nI (b2 (inB ux 0 ((i 10 : Int) - 1))))]) (rest := []) ⟨hx, hb, hml, hown, hts⟩ (c_X6_asks l D cy _ _ h ad t i f nc (inB ux 0 ((i 10 : Int) - 1)) hW hI) (cwV 1 hts gX6_show_X6_asks rfl rfl rfl (by decide +kernel) ⟨Nat.le_of_ble_eq_true rfl, Nat.le_of_ble_eq_true rfl⟩) (mPreWV hK hP hW.1 (ci := 7) rfl) rfl rfl hl.1 rfl (lv_room (Nat.le_of_ble_eq_true rfl)) dX6_show_6 ⟨Nat.le_of_ble_eq_true rfl, Nat.le_of_ble_eq_true rfl⟩) hD hA hS (fun r9 Mn H locs hq9 hP hD hS hz9 hd9 hk9 => ?_)
  obtain ⟨hr9, hW⟩ := hq9
  have hr9 : r9 = (nI (b2 (inB ux 0 ((i 10 : Int) - 1)))) := hr9
  subst hr9
  have hW : MW cy Mn h ad (b2 (!(inB ux 0 ((i 10 : Int) - 1)))) i f := hW
  refine b_if_ne (b := inB ux 0 ((i 10 : Int) - 1)) (tgt := 14) hx hb dX6_show_9 (by decide) (fun c_9 => ?_) (fun c_9 => ?_)
  · have hW := MW.tt hW c_9
    have c_9 := inB_t c_9
    have ex_1 : x = (nI ux.toNat) := nI_of_toInt (px) (by omega)
    have hl : lv_has ls 4 [(0, .ref h), (1, .int (nI ux.toNat))] := by
      rw [← ex_1]
      exact hl
    refine lv_aload_n hx hb dX6_show_14 rfl (lv_at hl 0 rfl) ?_
    refine m_get (T := TX6) (N := 24) (ci := 7) (fs := (moF ad 0 i)) hx hb hwX6 hown hK hP hW.1 rfl 20 (by decide) (hts _ (List.mem_of_getElem? (i := 1) rfl)) (v := .ref (ad 20)) rfl dX6_show_15 ?_
    refine lv_iload_n hx hb dX6_show_18 rfl (lv_at hl 1 rfl) ?_
    have bd_1 : (f 20) ux.toNat ≤ 1 := hI.2.2.2.2.2 20 ux.toNat
    refine n_zald (g := (f 20)) (n := 40) (i := ux.toNat) hx hb hK hP (hW.2.2.1 20 (by decide)) (by omega) (by omega) dX6_show_19 ?_
    refine z_if_ne (u := (((f 20) ux.toNat : Nat) : Int)) (tgt := 32) hx hb (nI_toInt (by omega)) dX6_show_20 (by decide) (fun c_20 => ?_) (fun c_20 => ?_)
    · refine lv_aload_n hx hb dX6_show_32 rfl (lv_at hl 0 rfl) ?_
      refine lv_iconst (v := (nI 2)) hx hb dX6_show_33 (by decide) ?_
      refine m_calli (va_runV (C := RX6) (As := [.int (nI 2)]) (rest := []) ⟨hx, hb, hml, hown, hts⟩ (c_X6_fails l D cy _ _ h ad 0 i f nc 2 hW hI) (cwV 1 hts gX6_show_X6_fails rfl rfl rfl (by decide +kernel) ⟨Nat.le_of_ble_eq_true rfl, Nat.le_of_ble_eq_true rfl⟩) (mPreWV hK hP hW.1 (ci := 7) rfl) rfl rfl hl.1 rfl (lv_room (Nat.le_of_ble_eq_true rfl)) dX6_show_34 ⟨Nat.le_of_ble_eq_true rfl, Nat.le_of_ble_eq_true rfl⟩) hD hA hS (fun r9 Mn H locs hq9 hP hD hS hz9 hd9 hk9 => ?_)
      obtain ⟨hr9, hW⟩ := hq9
      have hr9 : r9 = (nI 0) := hr9
      subst hr9
      have hW : MW cy Mn h ad 2 i f := hW
      exact e_wi hx hb hr hlocks hP hD hS (mPost_of (a := 2) (b := ((0 : Nat) : Int)) (i := i) (f := f) (by unfold oShow; (repeat (first | rw [if_pos (by omega)] | rw [if_neg (by omega)])); (first | done | rfl | omega)) (nI_zI _) hW) dX6_show_37
    · refine lv_aload_n hx hb dX6_show_23 rfl (lv_at hl 0 rfl) ?_
      refine lv_iload_n hx hb dX6_show_24 rfl (lv_at hl 1 rfl) ?_
      refine vp_callSi (W.runV (C := RX6) (As := [.int (nI ux.toNat)]) (rest := []) ⟨hx, hb, hml, hown, hts⟩ (c_X6_gradeOf l D cy _ h ad 0 i f nc ux.toNat hW hI (by omega)) (cwV 1 hts gX6_show_X6_gradeOf rfl rfl rfl (by decide +kernel) ⟨Nat.le_of_ble_eq_true rfl, Nat.le_of_ble_eq_true rfl⟩) (mPreV hK hP hW.1 (ci := 7) rfl) rfl rfl hl.1 rfl (lv_room (Nat.le_of_ble_eq_true rfl)) dX6_show_25 ⟨Nat.le_of_ble_eq_true rfl, Nat.le_of_ble_eq_true rfl⟩) (fun r9 hr9 => ?_)
      have hr9 : r9 = (zI (gradeS f ux.toNat)) := hr9
      subst hr9
      have bs_2 : -1 ≤ gradeS f ux.toNat ∧ gradeS f ux.toNat ≤ 20 := gradeS_bd hI _
      refine lv_iconst (v := (zI (-1))) hx hb dX6_show_28 (by decide) ?_
      refine z_icmp_ne (u := (gradeS f ux.toNat)) (v := (-1)) (tgt := 38) hx hb (zI_toInt (by omega) (by omega)) (zI_toInt (by omega) (by omega)) dX6_show_29 (by decide) (fun c_29 => ?_) (fun c_29 => ?_)
      · refine lv_aload_n hx hb dX6_show_38 rfl (lv_at hl 0 rfl) ?_
        refine m_get (T := TX6) (N := 24) (ci := 7) (fs := (moF ad 0 i)) hx hb hwX6 hown hK hP hW.1 rfl 20 (by decide) (hts _ (List.mem_of_getElem? (i := 1) rfl)) (v := .ref (ad 20)) rfl dX6_show_39 ?_
        refine lv_iload_n hx hb dX6_show_42 rfl (lv_at hl 1 rfl) ?_
        refine lv_iconst (v := (nI 1)) hx hb dX6_show_43 (by decide) ?_
        refine n_zast (g := (f 20)) (n := 40) (i := ux.toNat) (v := 1) hx hb hK hP hD hS (hW.2.2.1 20 (by decide)) (by omega) (by omega) (by omega) dX6_show_44 (fun H locs hP hD hS => ?_)
        have hW := hW.setZ 20 (by decide) (va_up (f 20) ux.toNat 1)
        have hI2 := hI.row 20 (va_up (f 20) ux.toNat 1) (up_le (b := 1) (fun x => hI.2.2.2.2.2 20 x) (by omega))
        have hf2 : ∀ x, va_up (f 20) ux.toNat 1 x ≤ 1 := fun x => hI2.2.2.2.2.2 20 x
        refine lv_iconst (v := (nI 0)) hx hb dX6_show_45 (by decide) ?_
        refine lv_istore_n (lv' := [(2, .int (nI 0)), (0, .ref h), (1, .int (nI ux.toNat))]) hx hb dX6_show_46 rfl hl (by decide) rfl (fun ls hl => ?_)
        refine lv_iconst (v := (nI 0)) hx hb dX6_show_47 (by decide) ?_
        refine lv_istore_n (lv' := [(3, .int (nI 0)), (2, .int (nI 0)), (0, .ref h), (1, .int (nI ux.toNat))]) hx hb dX6_show_48 rfl hl (by decide) rfl (fun ls hl => ?_)
        have K49 : ∀ (n : Nat) (j : Nat), 41 - j < n → (j ≤ i 10) → ∀ (Mq : mM) (H : Heap) (locs : List Loc), pm D Mq H → mD (mA M sz) Mq → va_S (mA M sz) s.heap H locs → (MW cy Mq h ad 0 i (va_up f 20 (va_up (f 20) ux.toNat 1))) → ∀ (ls : Array Slot), lv_has ls 4 [(0, .ref h), (1, .int (nI ux.toNat)), (2, .int (nI (shownA (va_up f 20 (va_up (f 20) ux.toNat 1)) j))), (3, .int (nI j))] → W p l e ({ frames := 2, cells := 0, slots := 0, locals := 49 } : Room) s m args below meth c H locs 0 0 (MQ below (va_Qi (mPost cy h ad (oShow ux i f)) (mB D M sz) (mA M sz)) args s 0 0 (mA M sz)) (F0 m 49 ls []) := by
          intro n
          induction n with
          | zero => intro j hn; exact absurd hn (by omega)
          | succ n ih49 =>
            intro j hn49 i49_0 Mq H locs hP hD hS hW ls hl
            have hle := shownA_le (f := va_up f 20 (va_up (f 20) ux.toNat 1)) hf2 j
            have hb9 := hf2 j
            refine lv_iload_n hx hb dX6_show_49 rfl (lv_at hl 3 rfl) ?_
            refine lv_aload_n hx hb dX6_show_50 rfl (lv_at hl 0 rfl) ?_
            refine m_get (T := TX6) (N := 24) (ci := 7) (fs := (moF ad 0 i)) hx hb hwX6 hown hK hP hW.1 rfl 10 (by decide) (hts _ (List.mem_of_getElem? (i := 2) rfl)) (v := .int (nI (i 10))) rfl dX6_show_51 ?_
            refine z_icmp_ge (u := ((j : Nat) : Int)) (v := ((i 10 : Nat) : Int)) (tgt := 80) hx hb (nI_toInt (by omega)) (nI_toInt (by omega)) dX6_show_54 (by decide) (fun c_54 => ?_) (fun c_54 => ?_)
            · refine lv_iload_n hx hb dX6_show_80 rfl (lv_at hl 2 rfl) ?_
              exact e_wi hx hb hr hlocks hP hD hS (mPost_of (a := 0) (b := ((shownA (va_up f 20 (va_up (f 20) ux.toNat 1)) j : Nat) : Int)) (i := i) (f := va_up f 20 (va_up (f 20) ux.toNat 1)) (by unfold oShow; (repeat (first | rw [if_pos (by omega)] | rw [if_neg (by omega)])); rw [show i 10 = j by omega]) (nI_zI _) hW) dX6_show_81
            · refine lv_iload_n hx hb dX6_show_57 rfl (lv_at hl 2 rfl) ?_
              refine lv_aload_n hx hb dX6_show_58 rfl (lv_at hl 0 rfl) ?_
              refine m_get (T := TX6) (N := 24) (ci := 7) (fs := (moF ad 0 i)) hx hb hwX6 hown hK hP hW.1 rfl 20 (by decide) (hts _ (List.mem_of_getElem? (i := 1) rfl)) (v := .ref (ad 20)) rfl dX6_show_59 ?_
              refine lv_iload_n hx hb dX6_show_62 rfl (lv_at hl 3 rfl) ?_
              have bd_3 : (va_up (f 20) ux.toNat 1) j ≤ 1 := hI2.2.2.2.2.2 20 j
              refine n_zald (g := (va_up (f 20) ux.toNat 1)) (n := 40) (i := j) hx hb hK hP (hW.2.2.1 20 (by decide)) (by omega) (by omega) dX6_show_63 ?_
              refine z_if_eq (u := (((va_up (f 20) ux.toNat 1) j : Nat) : Int)) (tgt := 71) hx hb (nI_toInt (by omega)) dX6_show_64 (by decide) (fun c_64 => ?_) (fun c_64 => ?_)
              · refine lv_iconst (v := (nI 0)) hx hb dX6_show_71 (by decide) ?_
                refine n_add (x := shownA (va_up f 20 (va_up (f 20) ux.toNat 1)) j) (y := 0) hx hb dX6_show_72 ?_
                refine lv_istore_n (lv' := [(2, .int (nI ((shownA (va_up f 20 (va_up (f 20) ux.toNat 1)) j) + 0))), (0, .ref h), (1, .int (nI ux.toNat)), (3, .int (nI j))]) hx hb dX6_show_73 rfl hl (by decide) rfl (fun ls hl => ?_)
                refine n_iinc (x := j) (k := 1) (lv' := [(3, .int (nI (j + 1))), (2, .int (nI ((shownA (va_up f 20 (va_up (f 20) ux.toNat 1)) j) + 0))), (0, .ref h), (1, .int (nI ux.toNat))]) hx hb dX6_show_74 rfl hl (q := 3) rfl (by decide) rfl (fun ls hl => ?_)
                refine lv_goto (tgt := 49) hx hb dX6_show_77 (by decide) ?_
                have hl : lv_has ls 4 [(3, .int (nI (j + 1))), (2, .int (nI (shownA (va_up f 20 (va_up (f 20) ux.toNat 1)) (j + 1)))), (0, .ref h), (1, .int (nI ux.toNat))] := by
                  have heq0 : (.int (nI (shownA (va_up f 20 (va_up (f 20) ux.toNat 1)) (j + 1))) : Value) = .int (nI ((shownA (va_up f 20 (va_up (f 20) ux.toNat 1)) j) + 0)) := congrArg Value.int (congrArg nI (show shownA (va_up f 20 (va_up (f 20) ux.toNat 1)) j + va_up (f 20) ux.toNat 1 j = _ by omega))
                  rw [heq0]
                  exact hl
                exact ih49  (j + 1) (by omega) (by omega) _ _ _ hP hD hS (hW) _ (lv_sub hl [2, 3, 1, 0] rfl)
              · refine lv_iconst (v := (nI 1)) hx hb dX6_show_67 (by decide) ?_
                refine lv_goto (tgt := 72) hx hb dX6_show_68 (by decide) ?_
                refine n_add (x := shownA (va_up f 20 (va_up (f 20) ux.toNat 1)) j) (y := 1) hx hb dX6_show_72 ?_
                refine lv_istore_n (lv' := [(2, .int (nI ((shownA (va_up f 20 (va_up (f 20) ux.toNat 1)) j) + 1))), (0, .ref h), (1, .int (nI ux.toNat)), (3, .int (nI j))]) hx hb dX6_show_73 rfl hl (by decide) rfl (fun ls hl => ?_)
                refine n_iinc (x := j) (k := 1) (lv' := [(3, .int (nI (j + 1))), (2, .int (nI ((shownA (va_up f 20 (va_up (f 20) ux.toNat 1)) j) + 1))), (0, .ref h), (1, .int (nI ux.toNat))]) hx hb dX6_show_74 rfl hl (q := 3) rfl (by decide) rfl (fun ls hl => ?_)
                refine lv_goto (tgt := 49) hx hb dX6_show_77 (by decide) ?_
                have hl : lv_has ls 4 [(3, .int (nI (j + 1))), (2, .int (nI (shownA (va_up f 20 (va_up (f 20) ux.toNat 1)) (j + 1)))), (0, .ref h), (1, .int (nI ux.toNat))] := by
                  have heq0 : (.int (nI (shownA (va_up f 20 (va_up (f 20) ux.toNat 1)) (j + 1))) : Value) = .int (nI ((shownA (va_up f 20 (va_up (f 20) ux.toNat 1)) j) + 1)) := congrArg Value.int (congrArg nI (show shownA (va_up f 20 (va_up (f 20) ux.toNat 1)) j + va_up (f 20) ux.toNat 1 j = _ by omega))
                  rw [heq0]
                  exact hl
                exact ih49  (j + 1) (by omega) (by omega) _ _ _ hP hD hS (hW) _ (lv_sub hl [2, 3, 1, 0] rfl)
        exact K49 (41 - 0 + 1) 0 (Nat.lt_succ_self _) (Nat.zero_le _) _ _ _ hP hD hS (hW) _ (lv_sub hl [2, 3, 1, 0] rfl)
      · refine lv_aload_n hx hb dX6_show_32 rfl (lv_at hl 0 rfl) ?_
        refine lv_iconst (v := (nI 2)) hx hb dX6_show_33 (by decide) ?_
        refine m_calli (va_runV (C := RX6) (As := [.int (nI 2)]) (rest := []) ⟨hx, hb, hml, hown, hts⟩ (c_X6_fails l D cy _ _ h ad 0 i f nc 2 hW hI) (cwV 1 hts gX6_show_X6_fails rfl rfl rfl (by decide +kernel) ⟨Nat.le_of_ble_eq_true rfl, Nat.le_of_ble_eq_true rfl⟩) (mPreWV hK hP hW.1 (ci := 7) rfl) rfl rfl hl.1 rfl (lv_room (Nat.le_of_ble_eq_true rfl)) dX6_show_34 ⟨Nat.le_of_ble_eq_true rfl, Nat.le_of_ble_eq_true rfl⟩) hD hA hS (fun r9 Mn H locs hq9 hP hD hS hz9 hd9 hk9 => ?_)
        obtain ⟨hr9, hW⟩ := hq9
        have hr9 : r9 = (nI 0) := hr9
        subst hr9
        have hW : MW cy Mn h ad 2 i f := hW
        exact e_wi hx hb hr hlocks hP hD hS (mPost_of (a := 2) (b := ((0 : Nat) : Int)) (i := i) (f := f) (by unfold oShow; (repeat (first | rw [if_pos (by omega)] | rw [if_neg (by omega)])); (first | done | rfl | omega)) (nI_zI _) hW) dX6_show_37
  · have hW := MW.tf hW c_9
    have c_9 := inB_f c_9
    refine lv_iconst (v := (nI 0)) hx hb dX6_show_12 (by decide) ?_
    exact e_wi hx hb hr hlocks hP hD hS (mPost_of (a := 1) (b := ((0 : Nat) : Int)) (i := i) (f := f) (by unfold oShow; (repeat (first | rw [if_pos (by omega)] | rw [if_neg (by omega)])); (first | done | rfl | omega)) (nI_zI _) hW) dX6_show_13

set_option maxRecDepth 100000 in
set_option maxHeartbeats 4000000 in
/-- vote -/
theorem c_X6_vote (l : Launch) (D : va_G) (cy : Nat → ClassId) (M : mM) (sz : Nat) (h : Nat) (ad : Nat → Nat) (t : Nat) (i : Nat → Nat) (f : Nat → Nat → Nat) (nc : Nat)  (x : Int32) (ux : Int) (y : Int32) (uy : Int) (z : Int32) (uz : Int) (hW : MW cy M h ad t i f) (hI : MI nc i f)  (px : x.toInt = ux) (py : y.toInt = uy) (pz : z.toInt = uz) : mWi l yX6_vote wsX6_vote ({ frames := 2, cells := 0, slots := 0, locals := 43 } : Room) D cy M sz [.ref h, .int x, .int y, .int z] (mPost cy h ad (oVote ux uy uz i f)) 0 0 := by
  refine mW.of (cc := cX6_vote) (maxL := 4) (ret := (some .int)) (by decide) rfl (Nat.le_of_ble_eq_true rfl) ?_
  intro p e s m args below meth c ls hsz hx hb hr hts hown hlocks hml hname hP hD hS hA hK hl
  have hl : lv_has ls 4 [(0, .ref h), (1, .int x), (2, .int y), (3, .int z)] := hl
  have hown : s.vm.findClass RX6 = some m.cls := hown
  have hwX6 : ∀ w ∈ wsX60, w.before args s = true := fun w h => hts w (List.mem_cons_of_mem _ (List.mem_append_right _ (h)))
  obtain ⟨hn, hi1, hi2, hi5, hi10, -⟩ := id hI
  have rgx := i32_rng x
  rw [px] at rgx
  have rgy := i32_rng y
  rw [py] at rgy
  have rgz := i32_rng z
  rw [pz] at rgz
  refine lv_aload_n hx hb dX6_vote_0 rfl (lv_at hl 0 rfl) ?_
  refine lv_iload_n hx hb dX6_vote_1 rfl (lv_at hl 1 rfl) ?_
  refine lv_iconst (v := (nI 0)) hx hb dX6_vote_2 (by decide) ?_
  refine lv_iconst (v := (nI 3)) hx hb dX6_vote_3 (by decide) ?_
  refine vp_callSi (W.runS (As := [.int x, .int (nI 0), .int (nI 3)]) (rest := [.ref h]) ⟨hx, hb, hml, hown, hts⟩ (c_X6_in l x (nI 0) (nI 3) ux ((0 : Nat) : Int) ((3 : Nat) : Int) (px) (nI_toInt (by omega)) (nI_toInt (by omega))) (va_cwS 3 hts gX6_vote_X6_in rfl rfl rfl (by decide +kernel) ⟨Nat.le_of_ble_eq_true rfl, Nat.le_of_ble_eq_true rfl⟩) mPre0 rfl rfl hl.1 rfl (lv_room (Nat.le_of_ble_eq_true rfl)) dX6_vote_4 ⟨Nat.le_of_ble_eq_true rfl, Nat.le_of_ble_eq_true rfl⟩) (fun r9 hr9 => ?_)
  have hr9 : r9 = (nI (b2 (inB ux ((0 : Nat) : Int) ((3 : Nat) : Int)))) := hr9
  subst hr9
  refine b_if_eq (b := inB ux ((0 : Nat) : Int) ((3 : Nat) : Int)) (tgt := 22) hx hb dX6_vote_7 (by decide) (fun c_7 => ?_) (fun c_7 => ?_)
  · have c_7 := inB_f c_7
    refine lv_iconst (v := (nI 0)) hx hb dX6_vote_22 (by decide) ?_
    refine m_calli (va_runV (C := RX6) (As := [.int (nI 0)]) (rest := []) ⟨hx, hb, hml, hown, hts⟩ (c_X6_asks l D cy _ _ h ad t i f nc false hW hI) (cwV 1 hts gX6_vote_X6_asks rfl rfl rfl (by decide +kernel) ⟨Nat.le_of_ble_eq_true rfl, Nat.le_of_ble_eq_true rfl⟩) (mPreWV hK hP hW.1 (ci := 7) rfl) rfl rfl hl.1 rfl (lv_room (Nat.le_of_ble_eq_true rfl)) dX6_vote_23 ⟨Nat.le_of_ble_eq_true rfl, Nat.le_of_ble_eq_true rfl⟩) hD hA hS (fun r9 Mn H locs hq9 hP hD hS hz9 hd9 hk9 => ?_)
    obtain ⟨hr9, hW⟩ := hq9
    have hr9 : r9 = (nI 0) := hr9
    subst hr9
    have hW : MW cy Mn h ad 1 i f := hW
    refine k_if_ne_0 (tgt := 31) hx hb dX6_vote_26 (by decide) ?_
    refine lv_iconst (v := (nI 0)) hx hb dX6_vote_29 (by decide) ?_
    exact e_wi hx hb hr hlocks hP hD hS (mPost_of (a := 1) (b := ((0 : Nat) : Int)) (i := i) (f := f) (by unfold oVote; (repeat (first | rw [if_pos (by omega)] | rw [if_neg (by omega)])); (first | done | rfl | omega)) (nI_zI _) hW) dX6_vote_30
  · have c_7 := inB_t c_7
    refine lv_aload_n hx hb dX6_vote_10 rfl (lv_at hl 0 rfl) ?_
    refine lv_iload_n hx hb dX6_vote_11 rfl (lv_at hl 2 rfl) ?_
    refine vp_callSi (W.runV (C := RX6) (As := [.int y]) (rest := [.ref h]) ⟨hx, hb, hml, hown, hts⟩ (c_X6_isScript l D cy _ h ad t i f nc y uy hW hI (py)) (cwV 1 hts gX6_vote_X6_isScript rfl rfl rfl (by decide +kernel) ⟨Nat.le_of_ble_eq_true rfl, Nat.le_of_ble_eq_true rfl⟩) (mPreV hK hP hW.1 (ci := 7) rfl) rfl rfl hl.1 rfl (lv_room (Nat.le_of_ble_eq_true rfl)) dX6_vote_12 ⟨Nat.le_of_ble_eq_true rfl, Nat.le_of_ble_eq_true rfl⟩) (fun r9 hr9 => ?_)
    have hr9 : r9 = (nI (b2 (inB uy 0 ((i 10 : Int) - 1)))) := hr9
    subst hr9
    refine b_if_eq (b := inB uy 0 ((i 10 : Int) - 1)) (tgt := 22) hx hb dX6_vote_15 (by decide) (fun c_15 => ?_) (fun c_15 => ?_)
    · have c_15 := inB_f c_15
      refine lv_iconst (v := (nI 0)) hx hb dX6_vote_22 (by decide) ?_
      refine m_calli (va_runV (C := RX6) (As := [.int (nI 0)]) (rest := []) ⟨hx, hb, hml, hown, hts⟩ (c_X6_asks l D cy _ _ h ad t i f nc false hW hI) (cwV 1 hts gX6_vote_X6_asks rfl rfl rfl (by decide +kernel) ⟨Nat.le_of_ble_eq_true rfl, Nat.le_of_ble_eq_true rfl⟩) (mPreWV hK hP hW.1 (ci := 7) rfl) rfl rfl hl.1 rfl (lv_room (Nat.le_of_ble_eq_true rfl)) dX6_vote_23 ⟨Nat.le_of_ble_eq_true rfl, Nat.le_of_ble_eq_true rfl⟩) hD hA hS (fun r9 Mn H locs hq9 hP hD hS hz9 hd9 hk9 => ?_)
      obtain ⟨hr9, hW⟩ := hq9
      have hr9 : r9 = (nI 0) := hr9
      subst hr9
      have hW : MW cy Mn h ad 1 i f := hW
      refine k_if_ne_0 (tgt := 31) hx hb dX6_vote_26 (by decide) ?_
      refine lv_iconst (v := (nI 0)) hx hb dX6_vote_29 (by decide) ?_
      exact e_wi hx hb hr hlocks hP hD hS (mPost_of (a := 1) (b := ((0 : Nat) : Int)) (i := i) (f := f) (by unfold oVote; (repeat (first | rw [if_pos (by omega)] | rw [if_neg (by omega)])); (first | done | rfl | omega)) (nI_zI _) hW) dX6_vote_30
    · have c_15 := inB_t c_15
      refine lv_iconst (v := (nI 1)) hx hb dX6_vote_18 (by decide) ?_
      refine lv_goto (tgt := 23) hx hb dX6_vote_19 (by decide) ?_
      refine m_calli (va_runV (C := RX6) (As := [.int (nI 1)]) (rest := []) ⟨hx, hb, hml, hown, hts⟩ (c_X6_asks l D cy _ _ h ad t i f nc true hW hI) (cwV 1 hts gX6_vote_X6_asks rfl rfl rfl (by decide +kernel) ⟨Nat.le_of_ble_eq_true rfl, Nat.le_of_ble_eq_true rfl⟩) (mPreWV hK hP hW.1 (ci := 7) rfl) rfl rfl hl.1 rfl (lv_room (Nat.le_of_ble_eq_true rfl)) dX6_vote_23 ⟨Nat.le_of_ble_eq_true rfl, Nat.le_of_ble_eq_true rfl⟩) hD hA hS (fun r9 Mn H locs hq9 hP hD hS hz9 hd9 hk9 => ?_)
      obtain ⟨hr9, hW⟩ := hq9
      have hr9 : r9 = (nI 1) := hr9
      subst hr9
      have hW : MW cy Mn h ad 0 i f := hW
      refine k_if_ne_1 (tgt := 31) hx hb dX6_vote_26 (by decide) ?_
      refine lv_iload_n hx hb dX6_vote_31 rfl (lv_at hl 3 rfl) ?_
      refine lv_iconst (v := (nI 0)) hx hb dX6_vote_32 (by decide) ?_
      refine lv_iconst (v := (nI 5)) hx hb dX6_vote_33 (by decide) ?_
      refine vp_callSi (W.runS (As := [.int z, .int (nI 0), .int (nI 5)]) (rest := []) ⟨hx, hb, hml, hown, hts⟩ (c_X6_in l z (nI 0) (nI 5) uz ((0 : Nat) : Int) ((5 : Nat) : Int) (pz) (nI_toInt (by omega)) (nI_toInt (by omega))) (va_cwS 3 hts gX6_vote_X6_in rfl rfl rfl (by decide +kernel) ⟨Nat.le_of_ble_eq_true rfl, Nat.le_of_ble_eq_true rfl⟩) mPre0 rfl rfl hl.1 rfl (lv_room (Nat.le_of_ble_eq_true rfl)) dX6_vote_34 ⟨Nat.le_of_ble_eq_true rfl, Nat.le_of_ble_eq_true rfl⟩) (fun r9 hr9 => ?_)
      have hr9 : r9 = (nI (b2 (inB uz ((0 : Nat) : Int) ((5 : Nat) : Int)))) := hr9
      subst hr9
      refine b_if_ne (b := inB uz ((0 : Nat) : Int) ((5 : Nat) : Int)) (tgt := 46) hx hb dX6_vote_37 (by decide) (fun c_37 => ?_) (fun c_37 => ?_)
      · have c_37 := inB_t c_37
        have ex_1 : x = (nI ux.toNat) := nI_of_toInt (px) (by omega)
        have ex_2 : y = (nI uy.toNat) := nI_of_toInt (py) (by omega)
        have ex_3 : z = (nI uz.toNat) := nI_of_toInt (pz) (by omega)
        have hl : lv_has ls 4 [(0, .ref h), (1, .int (nI ux.toNat)), (2, .int (nI uy.toNat)), (3, .int (nI uz.toNat))] := by
          rw [← ex_1, ← ex_2, ← ex_3]
          exact hl
        refine lv_aload_n hx hb dX6_vote_46 rfl (lv_at hl 0 rfl) ?_
        refine m_get (T := TX6) (N := 24) (ci := 7) (fs := (moF ad 0 i)) hx hb hwX6 hown hK hP hW.1 rfl 20 (by decide) (hts _ (List.mem_of_getElem? (i := 1) rfl)) (v := .ref (ad 20)) rfl dX6_vote_47 ?_
        refine lv_iload_n hx hb dX6_vote_50 rfl (lv_at hl 2 rfl) ?_
        have bd_1 : (f 20) uy.toNat ≤ 1 := hI.2.2.2.2.2 20 uy.toNat
        refine n_zald (g := (f 20)) (n := 40) (i := uy.toNat) hx hb hK hP (hW.2.2.1 20 (by decide)) (by omega) (by omega) dX6_vote_51 ?_
        refine z_if_eq (u := (((f 20) uy.toNat : Nat) : Int)) (tgt := 70) hx hb (nI_toInt (by omega)) dX6_vote_52 (by decide) (fun c_52 => ?_) (fun c_52 => ?_)
        · refine lv_aload_n hx hb dX6_vote_70 rfl (lv_at hl 0 rfl) ?_
          refine lv_iconst (v := (nI 3)) hx hb dX6_vote_71 (by decide) ?_
          refine m_calli (va_runV (C := RX6) (As := [.int (nI 3)]) (rest := []) ⟨hx, hb, hml, hown, hts⟩ (c_X6_fails l D cy _ _ h ad 0 i f nc 3 hW hI) (cwV 1 hts gX6_vote_X6_fails rfl rfl rfl (by decide +kernel) ⟨Nat.le_of_ble_eq_true rfl, Nat.le_of_ble_eq_true rfl⟩) (mPreWV hK hP hW.1 (ci := 7) rfl) rfl rfl hl.1 rfl (lv_room (Nat.le_of_ble_eq_true rfl)) dX6_vote_72 ⟨Nat.le_of_ble_eq_true rfl, Nat.le_of_ble_eq_true rfl⟩) hD hA hS (fun r9 Mn H locs hq9 hP hD hS hz9 hd9 hk9 => ?_)
          obtain ⟨hr9, hW⟩ := hq9
          have hr9 : r9 = (nI 0) := hr9
          subst hr9
          have hW : MW cy Mn h ad 3 i f := hW
          exact e_wi hx hb hr hlocks hP hD hS (mPost_of (a := 3) (b := ((0 : Nat) : Int)) (i := i) (f := f) (by unfold oVote; (repeat (first | rw [if_pos (by omega)] | rw [if_neg (by omega)])); (first | done | rfl | omega)) (nI_zI _) hW) dX6_vote_75
        · refine lv_aload_n hx hb dX6_vote_55 rfl (lv_at hl 0 rfl) ?_
          refine m_get (T := TX6) (N := 24) (ci := 7) (fs := (moF ad 0 i)) hx hb hwX6 hown hK hP hW.1 rfl 6 (by decide) (hts _ (List.mem_of_getElem? (i := 2) rfl)) (v := .ref (ad 6)) rfl dX6_vote_56 ?_
          refine lv_aload_n hx hb dX6_vote_59 rfl (lv_at hl 0 rfl) ?_
          refine m_get (T := TX6) (N := 24) (ci := 7) (fs := (moF ad 0 i)) hx hb hwX6 hown hK hP hW.1 rfl 13 (by decide) (hts _ (List.mem_of_getElem? (i := 3) rfl)) (v := .ref (ad 13)) rfl dX6_vote_60 ?_
          refine lv_iload_n hx hb dX6_vote_63 rfl (lv_at hl 2 rfl) ?_
          have bd_2 : (f 13) uy.toNat ≤ 19 := hI.2.2.2.2.2 13 uy.toNat
          refine n_iald (g := (f 13)) (n := 40) (i := uy.toNat) hx hb hK hP (hW.2.1 13 (by decide)) (by omega) (by omega) dX6_vote_64 ?_
          have bd_3 : (f 6) ((f 13) uy.toNat) ≤ 3 := hI.2.2.2.2.2 6 ((f 13) uy.toNat)
          refine n_iald (g := (f 6)) (n := 20) (i := (f 13) uy.toNat) hx hb hK hP (hW.2.1 6 (by decide)) (by omega) (by omega) dX6_vote_65 ?_
          refine lv_iload_n hx hb dX6_vote_66 rfl (lv_at hl 1 rfl) ?_
          refine z_icmp_ne (u := (((f 6) ((f 13) uy.toNat) : Nat) : Int)) (v := ((ux.toNat : Nat) : Int)) (tgt := 76) hx hb (nI_toInt (by omega)) (nI_toInt (by omega)) dX6_vote_67 (by decide) (fun c_67 => ?_) (fun c_67 => ?_)
          · refine lv_aload_n hx hb dX6_vote_76 rfl (lv_at hl 0 rfl) ?_
            refine m_get (T := TX6) (N := 24) (ci := 7) (fs := (moF ad 0 i)) hx hb hwX6 hown hK hP hW.1 rfl 21 (by decide) (hts _ (List.mem_of_getElem? (i := 4) rfl)) (v := .ref (ad 21)) rfl dX6_vote_77 ?_
            refine lv_iconst (v := (nI 4)) hx hb dX6_vote_80 (by decide) ?_
            refine lv_iload_n hx hb dX6_vote_81 rfl (lv_at hl 2 rfl) ?_
            refine n_mul (x := 4) (y := uy.toNat) hx hb dX6_vote_82 ?_
            refine lv_iload_n hx hb dX6_vote_83 rfl (lv_at hl 1 rfl) ?_
            refine n_add (x := 4 * uy.toNat) (y := ux.toNat) hx hb dX6_vote_84 ?_
            refine lv_iload_n hx hb dX6_vote_85 rfl (lv_at hl 3 rfl) ?_
            refine n_iast (g := (f 21)) (n := 160) (i := (4 * uy.toNat) + ux.toNat) (v := uz.toNat) hx hb hK hP hD hS (hW.2.1 21 (by decide)) (by omega) (by omega) dX6_vote_86 (fun H locs hP hD hS => ?_)
            have hW := hW.setI 21 (by decide) (va_up (f 21) ((4 * uy.toNat) + ux.toNat) uz.toNat)
            have hI := hI.row 21 (va_up (f 21) (4 * uy.toNat + ux.toNat) uz.toNat) (up_le (b := 5) (fun x => hI.2.2.2.2.2 21 x) (by omega))
            refine lv_aload_n hx hb dX6_vote_87 rfl (lv_at hl 0 rfl) ?_
            refine lv_iload_n hx hb dX6_vote_88 rfl (lv_at hl 2 rfl) ?_
            refine vp_callSi (W.runV (C := RX6) (As := [.int (nI uy.toNat)]) (rest := []) ⟨hx, hb, hml, hown, hts⟩ (c_X6_pointsOf l D cy _ h ad 0 i (va_up f 21 (va_up (f 21) ((4 * uy.toNat) + ux.toNat) uz.toNat)) nc uy.toNat hW hI (by omega)) (cwV 1 hts gX6_vote_X6_pointsOf rfl rfl rfl (by decide +kernel) ⟨Nat.le_of_ble_eq_true rfl, Nat.le_of_ble_eq_true rfl⟩) (mPreV hK hP hW.1 (ci := 7) rfl) rfl rfl hl.1 rfl (lv_room (Nat.le_of_ble_eq_true rfl)) dX6_vote_89 ⟨Nat.le_of_ble_eq_true rfl, Nat.le_of_ble_eq_true rfl⟩) (fun r9 hr9 => ?_)
            have hr9 : r9 = (nI (pts (va_up f 21 (va_up (f 21) ((4 * uy.toNat) + ux.toNat) uz.toNat)) uy.toNat)) := hr9
            subst hr9
            have bs_4 : pts (va_up f 21 (va_up (f 21) ((4 * uy.toNat) + ux.toNat) uz.toNat)) uy.toNat ≤ 20 := pts_le hI _
            exact e_wi hx hb hr hlocks hP hD hS (mPost_of (a := 0) (b := ((pts (va_up f 21 (va_up (f 21) ((4 * uy.toNat) + ux.toNat) uz.toNat)) uy.toNat : Nat) : Int)) (i := i) (f := va_up f 21 (va_up (f 21) ((4 * uy.toNat) + ux.toNat) uz.toNat)) (by unfold oVote; (repeat (first | rw [if_pos (by omega)] | rw [if_neg (by omega)])); (first | done | rfl | omega)) (nI_zI _) hW) dX6_vote_92
          · refine lv_aload_n hx hb dX6_vote_70 rfl (lv_at hl 0 rfl) ?_
            refine lv_iconst (v := (nI 3)) hx hb dX6_vote_71 (by decide) ?_
            refine m_calli (va_runV (C := RX6) (As := [.int (nI 3)]) (rest := []) ⟨hx, hb, hml, hown, hts⟩ (c_X6_fails l D cy _ _ h ad 0 i f nc 3 hW hI) (cwV 1 hts gX6_vote_X6_fails rfl rfl rfl (by decide +kernel) ⟨Nat.le_of_ble_eq_true rfl, Nat.le_of_ble_eq_true rfl⟩) (mPreWV hK hP hW.1 (ci := 7) rfl) rfl rfl hl.1 rfl (lv_room (Nat.le_of_ble_eq_true rfl)) dX6_vote_72 ⟨Nat.le_of_ble_eq_true rfl, Nat.le_of_ble_eq_true rfl⟩) hD hA hS (fun r9 Mn H locs hq9 hP hD hS hz9 hd9 hk9 => ?_)
            obtain ⟨hr9, hW⟩ := hq9
            have hr9 : r9 = (nI 0) := hr9
            subst hr9
            have hW : MW cy Mn h ad 3 i f := hW
            exact e_wi hx hb hr hlocks hP hD hS (mPost_of (a := 3) (b := ((0 : Nat) : Int)) (i := i) (f := f) (by unfold oVote; (repeat (first | rw [if_pos (by omega)] | rw [if_neg (by omega)])); (first | done | rfl | omega)) (nI_zI _) hW) dX6_vote_75
      · have c_37 := inB_f c_37
        refine lv_aload_n hx hb dX6_vote_40 rfl (lv_at hl 0 rfl) ?_
        refine lv_iconst (v := (nI 2)) hx hb dX6_vote_41 (by decide) ?_
        refine m_calli (va_runV (C := RX6) (As := [.int (nI 2)]) (rest := []) ⟨hx, hb, hml, hown, hts⟩ (c_X6_fails l D cy _ _ h ad 0 i f nc 2 hW hI) (cwV 1 hts gX6_vote_X6_fails rfl rfl rfl (by decide +kernel) ⟨Nat.le_of_ble_eq_true rfl, Nat.le_of_ble_eq_true rfl⟩) (mPreWV hK hP hW.1 (ci := 7) rfl) rfl rfl hl.1 rfl (lv_room (Nat.le_of_ble_eq_true rfl)) dX6_vote_42 ⟨Nat.le_of_ble_eq_true rfl, Nat.le_of_ble_eq_true rfl⟩) hD hA hS (fun r9 Mn H locs hq9 hP hD hS hz9 hd9 hk9 => ?_)
        obtain ⟨hr9, hW⟩ := hq9
        have hr9 : r9 = (nI 0) := hr9
        subst hr9
        have hW : MW cy Mn h ad 2 i f := hW
        exact e_wi hx hb hr hlocks hP hD hS (mPost_of (a := 2) (b := ((0 : Nat) : Int)) (i := i) (f := f) (by unfold oVote; (repeat (first | rw [if_pos (by omega)] | rw [if_neg (by omega)])); (first | done | rfl | omega)) (nI_zI _) hW) dX6_vote_45

set_option maxRecDepth 100000 in
set_option maxHeartbeats 4000000 in
/-- at -/
theorem c_X6_at (l : Launch) (D : va_G) (cy : Nat → ClassId) (M : mM) (sz : Nat) (h : Nat) (ad : Nat → Nat) (t : Nat) (i : Nat → Nat) (f : Nat → Nat → Nat) (nc : Nat)  (x : Int32) (ux : Int) (hW : MW cy M h ad t i f) (hI : MI nc i f)  (px : x.toInt = ux) : mWi l yX6_at wsX6_at ({ frames := 8, cells := 0, slots := 0, locals := 189 } : Room) D cy M sz [.ref h, .int x] (mPost cy h ad (oAt ux i f)) 0 0 := by
  refine mW.of (cc := cX6_at) (maxL := 4) (ret := (some .int)) (by decide) rfl (Nat.le_of_ble_eq_true rfl) ?_
  intro p e s m args below meth c ls hsz hx hb hr hts hown hlocks hml hname hP hD hS hA hK hl
  have hl : lv_has ls 4 [(0, .ref h), (1, .int x)] := hl
  have hown : s.vm.findClass RX6 = some m.cls := hown
  have hwX6 : ∀ w ∈ wsX60, w.before args s = true := fun w h => hts w (List.mem_cons_of_mem _ (List.mem_append_right _ (h)))
  obtain ⟨hn, hi1, hi2, hi5, hi10, -⟩ := id hI
  have rgx := i32_rng x
  rw [px] at rgx
  refine lv_aload_n hx hb dX6_at_0 rfl (lv_at hl 0 rfl) ?_
  refine lv_iload_n hx hb dX6_at_1 rfl (lv_at hl 1 rfl) ?_
  refine lv_iconst (v := (nI 1)) hx hb dX6_at_2 (by decide) ?_
  refine z_icmp_lt (u := ux) (v := ((1 : Nat) : Int)) (tgt := 10) hx hb (px) (nI_toInt (by omega)) dX6_at_3 (by decide) (fun c_3 => ?_) (fun c_3 => ?_)
  · refine lv_iconst (v := (nI 0)) hx hb dX6_at_10 (by decide) ?_
    refine m_calli (va_runV (C := RX6) (As := [.int (nI 0)]) (rest := []) ⟨hx, hb, hml, hown, hts⟩ (c_X6_asks l D cy _ _ h ad t i f nc false hW hI) (cwV 1 hts gX6_at_X6_asks rfl rfl rfl (by decide +kernel) ⟨Nat.le_of_ble_eq_true rfl, Nat.le_of_ble_eq_true rfl⟩) (mPreWV hK hP hW.1 (ci := 7) rfl) rfl rfl hl.1 rfl (lv_room (Nat.le_of_ble_eq_true rfl)) dX6_at_11 ⟨Nat.le_of_ble_eq_true rfl, Nat.le_of_ble_eq_true rfl⟩) hD hA hS (fun r9 Mn H locs hq9 hP hD hS hz9 hd9 hk9 => ?_)
    obtain ⟨hr9, hW⟩ := hq9
    have hr9 : r9 = (nI 0) := hr9
    subst hr9
    have hW : MW cy Mn h ad 1 i f := hW
    refine k_if_ne_0 (tgt := 19) hx hb dX6_at_14 (by decide) ?_
    refine lv_iconst (v := (nI 0)) hx hb dX6_at_17 (by decide) ?_
    exact e_wi hx hb hr hlocks hP hD hS (mPost_of (a := 1) (b := ((0 : Nat) : Int)) (i := i) (f := f) (by unfold oAt; (repeat (first | rw [if_pos (by omega)] | rw [if_neg (by omega)])); (first | done | rfl | omega)) (nI_zI _) hW) dX6_at_18
  · refine lv_iconst (v := (nI 1)) hx hb dX6_at_6 (by decide) ?_
    refine lv_goto (tgt := 11) hx hb dX6_at_7 (by decide) ?_
    refine m_calli (va_runV (C := RX6) (As := [.int (nI 1)]) (rest := []) ⟨hx, hb, hml, hown, hts⟩ (c_X6_asks l D cy _ _ h ad t i f nc true hW hI) (cwV 1 hts gX6_at_X6_asks rfl rfl rfl (by decide +kernel) ⟨Nat.le_of_ble_eq_true rfl, Nat.le_of_ble_eq_true rfl⟩) (mPreWV hK hP hW.1 (ci := 7) rfl) rfl rfl hl.1 rfl (lv_room (Nat.le_of_ble_eq_true rfl)) dX6_at_11 ⟨Nat.le_of_ble_eq_true rfl, Nat.le_of_ble_eq_true rfl⟩) hD hA hS (fun r9 Mn H locs hq9 hP hD hS hz9 hd9 hk9 => ?_)
    obtain ⟨hr9, hW⟩ := hq9
    have hr9 : r9 = (nI 1) := hr9
    subst hr9
    have hW : MW cy Mn h ad 0 i f := hW
    refine k_if_ne_1 (tgt := 19) hx hb dX6_at_14 (by decide) ?_
    refine lv_iconst (v := (zI (-1))) hx hb dX6_at_19 (by decide) ?_
    refine lv_istore_n (lv' := [(2, .int (zI (-1))), (0, .ref h), (1, .int x)]) hx hb dX6_at_20 rfl hl (by decide) rfl (fun ls hl => ?_)
    refine lv_iconst (v := (nI 0)) hx hb dX6_at_21 (by decide) ?_
    refine lv_istore_n (lv' := [(3, .int (nI 0)), (2, .int (zI (-1))), (0, .ref h), (1, .int x)]) hx hb dX6_at_22 rfl hl (by decide) rfl (fun ls hl => ?_)
    have K23 : ∀ (n : Nat) (j : Nat), 41 - j < n → (j ≤ i 10) → ∀ (Mq : mM) (H : Heap) (locs : List Loc), pm D Mq H → mD (mA M sz) Mq → va_S (mA M sz) s.heap H locs → (MW cy Mq h ad 0 i f) → ∀ (ls : Array Slot), lv_has ls 4 [(0, .ref h), (1, .int x), (2, .int (zI (atA f (i 10) ux j))), (3, .int (nI j))] → W p l e ({ frames := 8, cells := 0, slots := 0, locals := 189 } : Room) s m args below meth c H locs 0 0 (MQ below (va_Qi (mPost cy h ad (oAt ux i f)) (mB D M sz) (mA M sz)) args s 0 0 (mA M sz)) (F0 m 23 ls []) := by
      intro n
      induction n with
      | zero => intro j hn; exact absurd hn (by omega)
      | succ n ih23 =>
        intro j hn23 i23_0 Mq H locs hP hD hS hW ls hl
        have hle := atA_bd f (i 10) ux j
        refine lv_iload_n hx hb dX6_at_23 rfl (lv_at hl 3 rfl) ?_
        refine lv_aload_n hx hb dX6_at_24 rfl (lv_at hl 0 rfl) ?_
        refine m_get (T := TX6) (N := 24) (ci := 7) (fs := (moF ad 0 i)) hx hb hwX6 hown hK hP hW.1 rfl 10 (by decide) (hts _ (List.mem_of_getElem? (i := 1) rfl)) (v := .int (nI (i 10))) rfl dX6_at_25 ?_
        refine z_icmp_ge (u := ((j : Nat) : Int)) (v := ((i 10 : Nat) : Int)) (tgt := 52) hx hb (nI_toInt (by omega)) (nI_toInt (by omega)) dX6_at_28 (by decide) (fun c_28 => ?_) (fun c_28 => ?_)
        · refine lv_iload_n hx hb dX6_at_52 rfl (lv_at hl 2 rfl) ?_
          exact e_wi hx hb hr hlocks hP hD hS (mPost_of (a := 0) (b := atA f (i 10) ux j) (i := i) (f := f) (by unfold oAt; (repeat (first | rw [if_pos (by omega)] | rw [if_neg (by omega)])); rw [show i 10 = j by omega]) rfl hW) dX6_at_53
        · refine lv_aload_n hx hb dX6_at_31 rfl (lv_at hl 0 rfl) ?_
          refine lv_iload_n hx hb dX6_at_32 rfl (lv_at hl 3 rfl) ?_
          refine m_calli (va_runV (C := RX6) (As := [.int (nI j)]) (rest := []) ⟨hx, hb, hml, hown, hts⟩ (c_X6_placeOf l D cy _ _ h ad 0 i f nc j hW hI (by omega)) (cwV 1 hts gX6_at_X6_placeOf rfl rfl rfl (by decide +kernel) ⟨Nat.le_of_ble_eq_true rfl, Nat.le_of_ble_eq_true rfl⟩) (mPreWV hK hP hW.1 (ci := 7) rfl) rfl rfl hl.1 rfl (lv_room (Nat.le_of_ble_eq_true rfl)) dX6_at_33 ⟨Nat.le_of_ble_eq_true rfl, Nat.le_of_ble_eq_true rfl⟩) hD hA hS (fun r9 Mn H locs hq9 hP hD hS hz9 hd9 hk9 => ?_)
          obtain ⟨hr9, hW⟩ := hq9
          have hr9 : r9 = (zI (placeS f (i 10) j)) := hr9
          subst hr9
          have hW : MW cy Mn h ad 0 i f := hW
          have bs_1 := placeS_bd f (i 10) j
          refine lv_iload_n hx hb dX6_at_36 rfl (lv_at hl 1 rfl) ?_
          refine z_icmp_ne (u := (placeS f (i 10) j)) (v := ux) (tgt := 44) hx hb (zI_toInt (by omega) (by omega)) (px) dX6_at_37 (by decide) (fun c_37 => ?_) (fun c_37 => ?_)
          · refine lv_iload_n hx hb dX6_at_44 rfl (lv_at hl 2 rfl) ?_
            refine lv_istore_n (lv' := [(2, .int (zI (atA f (i 10) ux j))), (0, .ref h), (1, .int x), (3, .int (nI j))]) hx hb dX6_at_45 rfl hl (by decide) rfl (fun ls hl => ?_)
            refine n_iinc (x := j) (k := 1) (lv' := [(3, .int (nI (j + 1))), (2, .int (zI (atA f (i 10) ux j))), (0, .ref h), (1, .int x)]) hx hb dX6_at_46 rfl hl (q := 3) rfl (by decide) rfl (fun ls hl => ?_)
            refine lv_goto (tgt := 23) hx hb dX6_at_49 (by decide) ?_
            have hl : lv_has ls 4 [(3, .int (nI (j + 1))), (2, .int (zI (atA f (i 10) ux (j + 1)))), (0, .ref h), (1, .int x)] := by
              have heq0 : (.int (zI (atA f (i 10) ux (j + 1))) : Value) = .int (zI (atA f (i 10) ux j)) := congrArg Value.int (by show zI (if _ then _ else _) = _; first | (rw [if_pos (by omega)]; exact (nI_zI _).symm) | rw [if_neg (by omega)])
              rw [heq0]
              exact hl
            exact ih23  (j + 1) (by omega) (by omega) _ _ _ hP hD hS (hW) _ (lv_sub hl [2, 3, 1, 0] rfl)
          · refine lv_iload_n hx hb dX6_at_40 rfl (lv_at hl 3 rfl) ?_
            refine lv_goto (tgt := 45) hx hb dX6_at_41 (by decide) ?_
            refine lv_istore_n (lv' := [(2, .int (nI j)), (0, .ref h), (1, .int x), (3, .int (nI j))]) hx hb dX6_at_45 rfl hl (by decide) rfl (fun ls hl => ?_)
            refine n_iinc (x := j) (k := 1) (lv' := [(3, .int (nI (j + 1))), (2, .int (nI j)), (0, .ref h), (1, .int x)]) hx hb dX6_at_46 rfl hl (q := 3) rfl (by decide) rfl (fun ls hl => ?_)
            refine lv_goto (tgt := 23) hx hb dX6_at_49 (by decide) ?_
            have hl : lv_has ls 4 [(3, .int (nI (j + 1))), (2, .int (zI (atA f (i 10) ux (j + 1)))), (0, .ref h), (1, .int x)] := by
              have heq0 : (.int (zI (atA f (i 10) ux (j + 1))) : Value) = .int (nI j) := congrArg Value.int (by show zI (if _ then _ else _) = _; first | (rw [if_pos (by omega)]; exact (nI_zI _).symm) | rw [if_neg (by omega)])
              rw [heq0]
              exact hl
            exact ih23  (j + 1) (by omega) (by omega) _ _ _ hP hD hS (hW) _ (lv_sub hl [2, 3, 1, 0] rfl)
    exact K23 (41 - 0 + 1) 0 (Nat.lt_succ_self _) (Nat.zero_le _) _ _ _ hP hD hS (hW) _ (lv_sub hl [2, 3, 1, 0] rfl)

set_option maxRecDepth 100000 in
set_option maxHeartbeats 4000000 in
/-- takeOut -/
theorem c_X6_takeOut (l : Launch) (D : va_G) (cy : Nat → ClassId) (M : mM) (sz : Nat) (h : Nat) (ad : Nat → Nat) (t : Nat) (i : Nat → Nat) (f : Nat → Nat → Nat) (nc : Nat)  (x : Int32) (ux : Int) (hW : MW cy M h ad t i f) (hI : MI nc i f)  (px : x.toInt = ux) : mWi l yX6_takeOut wsX6_takeOut ({ frames := 2, cells := 0, slots := 0, locals := 49 } : Room) D cy M sz [.ref h, .int x] (mPost cy h ad (oTakeOut ux i f)) 0 0 := by
  refine mW.of (cc := cX6_takeOut) (maxL := 5) (ret := (some .int)) (by decide) rfl (Nat.le_of_ble_eq_true rfl) ?_
  intro p e s m args below meth c ls hsz hx hb hr hts hown hlocks hml hname hP hD hS hA hK hl
  have hl : lv_has ls 5 [(0, .ref h), (1, .int x)] := hl
  have hown : s.vm.findClass RX6 = some m.cls := hown
  have hwX6 : ∀ w ∈ wsX60, w.before args s = true := fun w h => hts w (List.mem_cons_of_mem _ (List.mem_append_right _ (h)))
  obtain ⟨hn, hi1, hi2, hi5, hi10, -⟩ := id hI
  have rgx := i32_rng x
  rw [px] at rgx
  refine lv_aload_n hx hb dX6_takeOut_0 rfl (lv_at hl 0 rfl) ?_
  refine lv_iload_n hx hb dX6_takeOut_1 rfl (lv_at hl 1 rfl) ?_
  refine vp_callSi (W.runS (As := [.int x]) (rest := [.ref h]) ⟨hx, hb, hml, hown, hts⟩ (c_X6_isExaminer l x ux (px)) (va_cwS 1 hts gX6_takeOut_X6_isExaminer rfl rfl rfl (by decide +kernel) ⟨Nat.le_of_ble_eq_true rfl, Nat.le_of_ble_eq_true rfl⟩) mPre0 rfl rfl hl.1 rfl (lv_room (Nat.le_of_ble_eq_true rfl)) dX6_takeOut_2 ⟨Nat.le_of_ble_eq_true rfl, Nat.le_of_ble_eq_true rfl⟩) (fun r9 hr9 => ?_)
  have hr9 : r9 = (nI (b2 (inB ux 0 5))) := hr9
  subst hr9
  refine m_calli (va_runV (C := RX6) (As := [.int (nI (b2 (inB ux 0 5)))]) (rest := []) ⟨hx, hb, hml, hown, hts⟩ (c_X6_asks l D cy _ _ h ad t i f nc (inB ux 0 5) hW hI) (cwV 1 hts gX6_takeOut_X6_asks rfl rfl rfl (by decide +kernel) ⟨Nat.le_of_ble_eq_true rfl, Nat.le_of_ble_eq_true rfl⟩) (mPreWV hK hP hW.1 (ci := 7) rfl) rfl rfl hl.1 rfl (lv_room (Nat.le_of_ble_eq_true rfl)) dX6_takeOut_5 ⟨Nat.le_of_ble_eq_true rfl, Nat.le_of_ble_eq_true rfl⟩) hD hA hS (fun r9 Mn H locs hq9 hP hD hS hz9 hd9 hk9 => ?_)
  obtain ⟨hr9, hW⟩ := hq9
  have hr9 : r9 = (nI (b2 (inB ux 0 5))) := hr9
  subst hr9
  have hW : MW cy Mn h ad (b2 (!(inB ux 0 5))) i f := hW
  refine b_if_ne (b := inB ux 0 5) (tgt := 13) hx hb dX6_takeOut_8 (by decide) (fun c_8 => ?_) (fun c_8 => ?_)
  · have hW := MW.tt hW c_8
    have c_8 := inB_t c_8
    have ex_1 : x = (nI ux.toNat) := nI_of_toInt (px) (by omega)
    have hl : lv_has ls 5 [(0, .ref h), (1, .int (nI ux.toNat))] := by
      rw [← ex_1]
      exact hl
    refine lv_aload_n hx hb dX6_takeOut_13 rfl (lv_at hl 0 rfl) ?_
    refine m_get (T := TX6) (N := 24) (ci := 7) (fs := (moF ad 0 i)) hx hb hwX6 hown hK hP hW.1 rfl 19 (by decide) (hts _ (List.mem_of_getElem? (i := 1) rfl)) (v := .ref (ad 19)) rfl dX6_takeOut_14 ?_
    refine lv_iload_n hx hb dX6_takeOut_17 rfl (lv_at hl 1 rfl) ?_
    have bd_1 : (f 19) ux.toNat ≤ 1 := hI.2.2.2.2.2 19 ux.toNat
    refine n_zald (g := (f 19)) (n := 6) (i := ux.toNat) hx hb hK hP (hW.2.2.1 19 (by decide)) (by omega) (by omega) dX6_takeOut_18 ?_
    refine z_if_eq (u := (((f 19) ux.toNat : Nat) : Int)) (tgt := 28) hx hb (nI_toInt (by omega)) dX6_takeOut_19 (by decide) (fun c_19 => ?_) (fun c_19 => ?_)
    · refine lv_aload_n hx hb dX6_takeOut_28 rfl (lv_at hl 0 rfl) ?_
      refine m_get (T := TX6) (N := 24) (ci := 7) (fs := (moF ad 0 i)) hx hb hwX6 hown hK hP hW.1 rfl 19 (by decide) (hts _ (List.mem_of_getElem? (i := 1) rfl)) (v := .ref (ad 19)) rfl dX6_takeOut_29 ?_
      refine lv_iload_n hx hb dX6_takeOut_32 rfl (lv_at hl 1 rfl) ?_
      refine lv_iconst (v := (nI 1)) hx hb dX6_takeOut_33 (by decide) ?_
      refine n_zast (g := (f 19)) (n := 6) (i := ux.toNat) (v := 1) hx hb hK hP hD hS (hW.2.2.1 19 (by decide)) (by omega) (by omega) (by omega) dX6_takeOut_34 (fun H locs hP hD hS => ?_)
      have hW := hW.setZ 19 (by decide) (va_up (f 19) ux.toNat 1)
      have hI2 := hI.row 19 (va_up (f 19) ux.toNat 1) (up_le (b := 1) (fun x => hI.2.2.2.2.2 19 x) (by omega))
      refine lv_iconst (v := (nI 0)) hx hb dX6_takeOut_35 (by decide) ?_
      refine lv_istore_n (lv' := [(2, .int (nI 0)), (0, .ref h), (1, .int (nI ux.toNat))]) hx hb dX6_takeOut_36 rfl hl (by decide) rfl (fun ls hl => ?_)
      refine lv_iconst (v := (nI 0)) hx hb dX6_takeOut_37 (by decide) ?_
      refine lv_istore_n (lv' := [(3, .int (nI 0)), (2, .int (nI 0)), (0, .ref h), (1, .int (nI ux.toNat))]) hx hb dX6_takeOut_38 rfl hl (by decide) rfl (fun ls hl => ?_)
      have K39 : ∀ (n : Nat) (j : Nat), 41 - j < n → (j ≤ i 10) → ∀ (Mq : mM) (H : Heap) (locs : List Loc), pm D Mq H → mD (mA M sz) Mq → va_S (mA M sz) s.heap H locs → (MW cy Mq h ad 0 i ((outA (va_up f 19 (va_up (f 19) ux.toNat 1)) ux.toNat j).2)) → ∀ (ls : Array Slot), lv_has ls 5 [(0, .ref h), (1, .int (nI ux.toNat)), (2, .int (nI ((outA (va_up f 19 (va_up (f 19) ux.toNat 1)) ux.toNat j).1))), (3, .int (nI j))] → W p l e ({ frames := 2, cells := 0, slots := 0, locals := 49 } : Room) s m args below meth c H locs 0 0 (MQ below (va_Qi (mPost cy h ad (oTakeOut ux i f)) (mB D M sz) (mA M sz)) args s 0 0 (mA M sz)) (F0 m 39 ls []) := by
        intro n
        induction n with
        | zero => intro j hn; exact absurd hn (by omega)
        | succ n ih39 =>
          intro j hn39 i39_0 Mq H locs hP hD hS hW ls hl
          have hle := outA_le (va_up f 19 (va_up (f 19) ux.toNat 1)) ux.toNat j
          refine lv_iload_n hx hb dX6_takeOut_39 rfl (lv_at hl 3 rfl) ?_
          refine lv_aload_n hx hb dX6_takeOut_40 rfl (lv_at hl 0 rfl) ?_
          refine m_get (T := TX6) (N := 24) (ci := 7) (fs := (moF ad 0 i)) hx hb hwX6 hown hK hP hW.1 rfl 10 (by decide) (hts _ (List.mem_of_getElem? (i := 2) rfl)) (v := .int (nI (i 10))) rfl dX6_takeOut_41 ?_
          refine z_icmp_ge (u := ((j : Nat) : Int)) (v := ((i 10 : Nat) : Int)) (tgt := 84) hx hb (nI_toInt (by omega)) (nI_toInt (by omega)) dX6_takeOut_44 (by decide) (fun c_44 => ?_) (fun c_44 => ?_)
          · refine lv_iload_n hx hb dX6_takeOut_84 rfl (lv_at hl 2 rfl) ?_
            exact e_wi hx hb hr hlocks hP hD hS (mPost_of (a := 0) (b := (((outA (va_up f 19 (va_up (f 19) ux.toNat 1)) ux.toNat j).1 : Nat) : Int)) (i := i) (f := (outA (va_up f 19 (va_up (f 19) ux.toNat 1)) ux.toNat j).2) (by unfold oTakeOut; (repeat (first | rw [if_pos (by omega)] | rw [if_neg (by omega)])); rw [show i 10 = j by omega]) (nI_zI _) hW) dX6_takeOut_85
          · refine lv_aload_n hx hb dX6_takeOut_47 rfl (lv_at hl 0 rfl) ?_
            refine lv_iload_n hx hb dX6_takeOut_48 rfl (lv_at hl 3 rfl) ?_
            refine vp_callSi (W.runV (C := RX6) (As := [.int (nI j)]) (rest := []) ⟨hx, hb, hml, hown, hts⟩ (c_X6_gradeOf l D cy _ h ad 0 i ((outA (va_up f 19 (va_up (f 19) ux.toNat 1)) ux.toNat j).2) nc j hW (MI.out hI2 ux.toNat j) (by omega)) (cwV 1 hts gX6_takeOut_X6_gradeOf rfl rfl rfl (by decide +kernel) ⟨Nat.le_of_ble_eq_true rfl, Nat.le_of_ble_eq_true rfl⟩) (mPreV hK hP hW.1 (ci := 7) rfl) rfl rfl hl.1 rfl (lv_room (Nat.le_of_ble_eq_true rfl)) dX6_takeOut_49 ⟨Nat.le_of_ble_eq_true rfl, Nat.le_of_ble_eq_true rfl⟩) (fun r9 hr9 => ?_)
            have hr9 : r9 = (zI (gradeS ((outA (va_up f 19 (va_up (f 19) ux.toNat 1)) ux.toNat j).2) j)) := hr9
            subst hr9
            have bs_2 : -1 ≤ gradeS ((outA (va_up f 19 (va_up (f 19) ux.toNat 1)) ux.toNat j).2) j ∧ gradeS ((outA (va_up f 19 (va_up (f 19) ux.toNat 1)) ux.toNat j).2) j ≤ 20 := gradeS_bd (MI.out hI2 ux.toNat j) _
            refine lv_istore (lv' := [(4, .int (zI (gradeS ((outA (va_up f 19 (va_up (f 19) ux.toNat 1)) ux.toNat j).2) j))), (0, .ref h), (1, .int (nI ux.toNat)), (2, .int (nI ((outA (va_up f 19 (va_up (f 19) ux.toNat 1)) ux.toNat j).1))), (3, .int (nI j))]) hx hb dX6_takeOut_52 hl (by decide) rfl (fun ls hl => ?_)
            refine lv_aload_n hx hb dX6_takeOut_54 rfl (lv_at hl 1 rfl) ?_
            refine lv_iload_n hx hb dX6_takeOut_55 rfl (lv_at hl 2 rfl) ?_
            refine lv_iload_n hx hb dX6_takeOut_56 rfl (lv_at hl 4 rfl) ?_
            refine m_callv (va_runV (C := RX6) (As := [.int (nI ux.toNat), .int (nI j)]) (rest := []) ⟨hx, hb, hml, hown, hts⟩ (c_X6_dropsMarks l D cy _ _ h ad 0 i ((outA (va_up f 19 (va_up (f 19) ux.toNat 1)) ux.toNat j).2) nc ux.toNat j hW (MI.out hI2 ux.toNat j) (by omega) (by omega)) (cwV 2 hts gX6_takeOut_X6_dropsMarks rfl rfl rfl (by decide +kernel) ⟨Nat.le_of_ble_eq_true rfl, Nat.le_of_ble_eq_true rfl⟩) (mPreWV hK hP hW.1 (ci := 7) rfl) rfl rfl hl.1 rfl (lv_room (Nat.le_of_ble_eq_true rfl)) dX6_takeOut_57 ⟨Nat.le_of_ble_eq_true rfl, Nat.le_of_ble_eq_true rfl⟩) hD hA hS (fun Mn H locs hq9 hP hD hS hz9 hd9 hk9 => ?_)
            have hW := hq9
            have hW : MW cy Mn h ad 0 i (dropF ((outA (va_up f 19 (va_up (f 19) ux.toNat 1)) ux.toNat j).2) ux.toNat j) := hW
            refine lv_iload_n hx hb dX6_takeOut_60 rfl (lv_at hl 3 rfl) ?_
            refine lv_aload_n hx hb dX6_takeOut_61 rfl (lv_at hl 1 rfl) ?_
            refine lv_iload_n hx hb dX6_takeOut_62 rfl (lv_at hl 4 rfl) ?_
            refine vp_callSi (W.runV (C := RX6) (As := [.int (nI j)]) (rest := [.int (nI ((outA (va_up f 19 (va_up (f 19) ux.toNat 1)) ux.toNat j).1))]) ⟨hx, hb, hml, hown, hts⟩ (c_X6_gradeOf l D cy _ h ad 0 i (dropF ((outA (va_up f 19 (va_up (f 19) ux.toNat 1)) ux.toNat j).2) ux.toNat j) nc j hW (MI.drop (MI.out hI2 ux.toNat j) ux.toNat j) (by omega)) (cwV 1 hts gX6_takeOut_X6_gradeOf rfl rfl rfl (by decide +kernel) ⟨Nat.le_of_ble_eq_true rfl, Nat.le_of_ble_eq_true rfl⟩) (mPreV hK hP hW.1 (ci := 7) rfl) rfl rfl hl.1 rfl (lv_room (Nat.le_of_ble_eq_true rfl)) dX6_takeOut_63 ⟨Nat.le_of_ble_eq_true rfl, Nat.le_of_ble_eq_true rfl⟩) (fun r9 hr9 => ?_)
            have hr9 : r9 = (zI (gradeS (dropF ((outA (va_up f 19 (va_up (f 19) ux.toNat 1)) ux.toNat j).2) ux.toNat j) j)) := hr9
            subst hr9
            have bs_3 : -1 ≤ gradeS (dropF ((outA (va_up f 19 (va_up (f 19) ux.toNat 1)) ux.toNat j).2) ux.toNat j) j ∧ gradeS (dropF ((outA (va_up f 19 (va_up (f 19) ux.toNat 1)) ux.toNat j).2) ux.toNat j) j ≤ 20 := gradeS_bd (MI.drop (MI.out hI2 ux.toNat j) ux.toNat j) _
            refine lv_iload hx hb dX6_takeOut_66 (lv_at hl 0 rfl) ?_
            refine z_icmp_ne (u := (gradeS (dropF ((outA (va_up f 19 (va_up (f 19) ux.toNat 1)) ux.toNat j).2) ux.toNat j) j)) (v := (gradeS ((outA (va_up f 19 (va_up (f 19) ux.toNat 1)) ux.toNat j).2) j)) (tgt := 75) hx hb (zI_toInt (by omega) (by omega)) (zI_toInt (by omega) (by omega)) dX6_takeOut_68 (by decide) (fun c_68 => ?_) (fun c_68 => ?_)
            · refine lv_iconst (v := (nI 1)) hx hb dX6_takeOut_75 (by decide) ?_
              refine n_add (x := (outA (va_up f 19 (va_up (f 19) ux.toNat 1)) ux.toNat j).1) (y := 1) hx hb dX6_takeOut_76 ?_
              refine lv_istore_n (lv' := [(2, .int (nI (((outA (va_up f 19 (va_up (f 19) ux.toNat 1)) ux.toNat j).1) + 1))), (4, .int (zI (gradeS ((outA (va_up f 19 (va_up (f 19) ux.toNat 1)) ux.toNat j).2) j))), (0, .ref h), (1, .int (nI ux.toNat)), (3, .int (nI j))]) hx hb dX6_takeOut_77 rfl hl (by decide) rfl (fun ls hl => ?_)
              refine n_iinc (x := j) (k := 1) (lv' := [(3, .int (nI (j + 1))), (2, .int (nI (((outA (va_up f 19 (va_up (f 19) ux.toNat 1)) ux.toNat j).1) + 1))), (4, .int (zI (gradeS ((outA (va_up f 19 (va_up (f 19) ux.toNat 1)) ux.toNat j).2) j))), (0, .ref h), (1, .int (nI ux.toNat))]) hx hb dX6_takeOut_78 rfl hl (q := 4) rfl (by decide) rfl (fun ls hl => ?_)
              refine lv_goto (tgt := 39) hx hb dX6_takeOut_81 (by decide) ?_
              have hl : lv_has ls 5 [(3, .int (nI (j + 1))), (2, .int (nI ((outA (va_up f 19 (va_up (f 19) ux.toNat 1)) ux.toNat (j + 1)).1))), (4, .int (zI (gradeS ((outA (va_up f 19 (va_up (f 19) ux.toNat 1)) ux.toNat j).2) j))), (0, .ref h), (1, .int (nI ux.toNat))] := by
                have heq0 : (.int (nI ((outA (va_up f 19 (va_up (f 19) ux.toNat 1)) ux.toNat (j + 1)).1)) : Value) = .int (nI (((outA (va_up f 19 (va_up (f 19) ux.toNat 1)) ux.toNat j).1) + 1)) := congrArg Value.int (congrArg nI (by show (outA (va_up f 19 (va_up (f 19) ux.toNat 1)) ux.toNat j).1 + b2 (decide _) = _; first | (rw [decide_eq_true (by omega)]; rfl) | (rw [decide_eq_false (by omega)]; rfl)))
                rw [heq0]
                exact hl
              exact ih39  (j + 1) (by omega) (by omega) _ _ _ hP hD hS (hW) _ (lv_sub hl [3, 4, 1, 0] rfl)
            · refine lv_iconst (v := (nI 0)) hx hb dX6_takeOut_71 (by decide) ?_
              refine lv_goto (tgt := 76) hx hb dX6_takeOut_72 (by decide) ?_
              refine n_add (x := (outA (va_up f 19 (va_up (f 19) ux.toNat 1)) ux.toNat j).1) (y := 0) hx hb dX6_takeOut_76 ?_
              refine lv_istore_n (lv' := [(2, .int (nI (((outA (va_up f 19 (va_up (f 19) ux.toNat 1)) ux.toNat j).1) + 0))), (4, .int (zI (gradeS ((outA (va_up f 19 (va_up (f 19) ux.toNat 1)) ux.toNat j).2) j))), (0, .ref h), (1, .int (nI ux.toNat)), (3, .int (nI j))]) hx hb dX6_takeOut_77 rfl hl (by decide) rfl (fun ls hl => ?_)
              refine n_iinc (x := j) (k := 1) (lv' := [(3, .int (nI (j + 1))), (2, .int (nI (((outA (va_up f 19 (va_up (f 19) ux.toNat 1)) ux.toNat j).1) + 0))), (4, .int (zI (gradeS ((outA (va_up f 19 (va_up (f 19) ux.toNat 1)) ux.toNat j).2) j))), (0, .ref h), (1, .int (nI ux.toNat))]) hx hb dX6_takeOut_78 rfl hl (q := 4) rfl (by decide) rfl (fun ls hl => ?_)
              refine lv_goto (tgt := 39) hx hb dX6_takeOut_81 (by decide) ?_
              have hl : lv_has ls 5 [(3, .int (nI (j + 1))), (2, .int (nI ((outA (va_up f 19 (va_up (f 19) ux.toNat 1)) ux.toNat (j + 1)).1))), (4, .int (zI (gradeS ((outA (va_up f 19 (va_up (f 19) ux.toNat 1)) ux.toNat j).2) j))), (0, .ref h), (1, .int (nI ux.toNat))] := by
                have heq0 : (.int (nI ((outA (va_up f 19 (va_up (f 19) ux.toNat 1)) ux.toNat (j + 1)).1)) : Value) = .int (nI (((outA (va_up f 19 (va_up (f 19) ux.toNat 1)) ux.toNat j).1) + 0)) := congrArg Value.int (congrArg nI (by show (outA (va_up f 19 (va_up (f 19) ux.toNat 1)) ux.toNat j).1 + b2 (decide _) = _; first | (rw [decide_eq_true (by omega)]; rfl) | (rw [decide_eq_false (by omega)]; rfl)))
                rw [heq0]
                exact hl
              exact ih39  (j + 1) (by omega) (by omega) _ _ _ hP hD hS (hW) _ (lv_sub hl [3, 4, 1, 0] rfl)
      exact K39 (41 - 0 + 1) 0 (Nat.lt_succ_self _) (Nat.zero_le _) _ _ _ hP hD hS (hW) _ (lv_sub hl [2, 3, 1, 0] rfl)
    · refine lv_aload_n hx hb dX6_takeOut_22 rfl (lv_at hl 0 rfl) ?_
      refine lv_iconst (v := (nI 2)) hx hb dX6_takeOut_23 (by decide) ?_
      refine m_calli (va_runV (C := RX6) (As := [.int (nI 2)]) (rest := []) ⟨hx, hb, hml, hown, hts⟩ (c_X6_fails l D cy _ _ h ad 0 i f nc 2 hW hI) (cwV 1 hts gX6_takeOut_X6_fails rfl rfl rfl (by decide +kernel) ⟨Nat.le_of_ble_eq_true rfl, Nat.le_of_ble_eq_true rfl⟩) (mPreWV hK hP hW.1 (ci := 7) rfl) rfl rfl hl.1 rfl (lv_room (Nat.le_of_ble_eq_true rfl)) dX6_takeOut_24 ⟨Nat.le_of_ble_eq_true rfl, Nat.le_of_ble_eq_true rfl⟩) hD hA hS (fun r9 Mn H locs hq9 hP hD hS hz9 hd9 hk9 => ?_)
      obtain ⟨hr9, hW⟩ := hq9
      have hr9 : r9 = (nI 0) := hr9
      subst hr9
      have hW : MW cy Mn h ad 2 i f := hW
      exact e_wi hx hb hr hlocks hP hD hS (mPost_of (a := 2) (b := ((0 : Nat) : Int)) (i := i) (f := f) (by unfold oTakeOut; (repeat (first | rw [if_pos (by omega)] | rw [if_neg (by omega)])); (first | done | rfl | omega)) (nI_zI _) hW) dX6_takeOut_27
  · have hW := MW.tf hW c_8
    have c_8 := inB_f c_8
    refine lv_iconst (v := (nI 0)) hx hb dX6_takeOut_11 (by decide) ?_
    exact e_wi hx hb hr hlocks hP hD hS (mPost_of (a := 1) (b := ((0 : Nat) : Int)) (i := i) (f := f) (by unfold oTakeOut; (repeat (first | rw [if_pos (by omega)] | rw [if_neg (by omega)])); (first | done | rfl | omega)) (nI_zI _) hW) dX6_takeOut_12
end
