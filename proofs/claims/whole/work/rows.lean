section
-- ===== PART A: goes FIRST, ahead of the names: the tables' words, and 'selects' of the private methods out of them =====
/-- a private method of a class that the tables say can be made, by its rows of tables_1 -/
def lw_okq (q : MethodName × Nat) : Prop := (q.1.cls ≠ "java/lang/invoke/MethodHandle" ∧ q.1.cls ≠ "java/lang/invoke/VarHandle") ∧ Cond.instantiable q.1.cls q.2 ∈ tables_1 ∧ Cond.privateMethod q.1 ∈ tables_1 ∧ Cond.instanceMethod q.1 ∈ tables_1
theorem lw_p0 : lw_okq (⟨"ShoreFields", "takeInBegin", "()V"⟩, 11) := ⟨⟨by decide +kernel, by decide +kernel⟩, List.mem_of_getElem? (i := 18) (by decide +kernel), List.mem_of_getElem? (i := 255) (by decide +kernel), List.mem_of_getElem? (i := 256) (by decide +kernel)⟩
theorem lw_p1 : lw_okq (⟨"ShoreFields$Shore", "comeInAtEnd", "(LShoreFields$Begin;II)V"⟩, 6) := ⟨⟨by decide +kernel, by decide +kernel⟩, List.mem_of_getElem? (i := 79) (by decide +kernel), List.mem_of_getElem? (i := 303) (by decide +kernel), List.mem_of_getElem? (i := 304) (by decide +kernel)⟩
theorem lw_p2 : lw_okq (⟨"ShoreFields$Shore", "passAt", "(LShoreFields$Begin;III)V"⟩, 6) := ⟨⟨by decide +kernel, by decide +kernel⟩, List.mem_of_getElem? (i := 79) (by decide +kernel), List.mem_of_getElem? (i := 307) (by decide +kernel), List.mem_of_getElem? (i := 308) (by decide +kernel)⟩
theorem lw_p3 : lw_okq (⟨"ShoreFields$Shore", "slope", "(II)I"⟩, 6) := ⟨⟨by decide +kernel, by decide +kernel⟩, List.mem_of_getElem? (i := 79) (by decide +kernel), List.mem_of_getElem? (i := 311) (by decide +kernel), List.mem_of_getElem? (i := 312) (by decide +kernel)⟩
theorem lw_p4 : lw_okq (⟨"ShoreFields$Shore", "takeFrom", "(LShoreFields$Begin;II)I"⟩, 6) := ⟨⟨by decide +kernel, by decide +kernel⟩, List.mem_of_getElem? (i := 79) (by decide +kernel), List.mem_of_getElem? (i := 325) (by decide +kernel), List.mem_of_getElem? (i := 326) (by decide +kernel)⟩
theorem lw_p5 : lw_okq (⟨"ShoreFields$Shore", "freeSandOf", "(LShoreFields$Begin;I)I"⟩, 6) := ⟨⟨by decide +kernel, by decide +kernel⟩, List.mem_of_getElem? (i := 79) (by decide +kernel), List.mem_of_getElem? (i := 329) (by decide +kernel), List.mem_of_getElem? (i := 330) (by decide +kernel)⟩
theorem lw_p6 : lw_okq (⟨"ShoreFields$Shore", "goOutAtEnd", "(LShoreFields$Begin;II)V"⟩, 6) := ⟨⟨by decide +kernel, by decide +kernel⟩, List.mem_of_getElem? (i := 79) (by decide +kernel), List.mem_of_getElem? (i := 333) (by decide +kernel), List.mem_of_getElem? (i := 334) (by decide +kernel)⟩
theorem lw_p7 : lw_okq (⟨"ShoreFields$Shore", "addChanges", "(LShoreFields$Begin;)V"⟩, 6) := ⟨⟨by decide +kernel, by decide +kernel⟩, List.mem_of_getElem? (i := 79) (by decide +kernel), List.mem_of_getElem? (i := 337) (by decide +kernel), List.mem_of_getElem? (i := 338) (by decide +kernel)⟩
theorem lw_p8 : lw_okq (⟨"ShoreFields$Shore", "takeOutToSea", "(LShoreFields$Begin;I)V"⟩, 6) := ⟨⟨by decide +kernel, by decide +kernel⟩, List.mem_of_getElem? (i := 79) (by decide +kernel), List.mem_of_getElem? (i := 342) (by decide +kernel), List.mem_of_getElem? (i := 343) (by decide +kernel)⟩
theorem lw_p9 : lw_okq (⟨"ShoreFields$Shore", "bringBackFromSea", "(LShoreFields$Begin;)V"⟩, 6) := ⟨⟨by decide +kernel, by decide +kernel⟩, List.mem_of_getElem? (i := 79) (by decide +kernel), List.mem_of_getElem? (i := 346) (by decide +kernel), List.mem_of_getElem? (i := 347) (by decide +kernel)⟩
theorem lw_p10 : lw_okq (⟨"ShoreFields", "lineLeavingAway", "(II)I"⟩, 11) := ⟨⟨by decide +kernel, by decide +kernel⟩, List.mem_of_getElem? (i := 18) (by decide +kernel), List.mem_of_getElem? (i := 388) (by decide +kernel), List.mem_of_getElem? (i := 389) (by decide +kernel)⟩
theorem lw_p11 : lw_okq (⟨"ShoreFields", "goThroughAgain", "(I)V"⟩, 11) := ⟨⟨by decide +kernel, by decide +kernel⟩, List.mem_of_getElem? (i := 18) (by decide +kernel), List.mem_of_getElem? (i := 402) (by decide +kernel), List.mem_of_getElem? (i := 403) (by decide +kernel)⟩
theorem lw_p12 : lw_okq (⟨"ShoreFields", "keepsMarks", "(I)Z"⟩, 11) := ⟨⟨by decide +kernel, by decide +kernel⟩, List.mem_of_getElem? (i := 18) (by decide +kernel), List.mem_of_getElem? (i := 432) (by decide +kernel), List.mem_of_getElem? (i := 433) (by decide +kernel)⟩
theorem lw_p13 : lw_okq (⟨"ShoreFields$WorkList", "applyOne", "(LShoreFields$Begin;I)V"⟩, 5) := ⟨⟨by decide +kernel, by decide +kernel⟩, List.mem_of_getElem? (i := 151) (by decide +kernel), List.mem_of_getElem? (i := 440) (by decide +kernel), List.mem_of_getElem? (i := 441) (by decide +kernel)⟩
theorem lw_p14 : lw_okq (⟨"ShoreFields", "agreesWithSurveys", "(I)Z"⟩, 11) := ⟨⟨by decide +kernel, by decide +kernel⟩, List.mem_of_getElem? (i := 18) (by decide +kernel), List.mem_of_getElem? (i := 459) (by decide +kernel), List.mem_of_getElem? (i := 460) (by decide +kernel)⟩
theorem lw_p15 : lw_okq (⟨"java/lang/Throwable", "fillInStackTrace", "(I)Ljava/lang/Throwable;"⟩, 6) := ⟨⟨by decide +kernel, by decide +kernel⟩, List.mem_of_getElem? (i := 520) (by decide +kernel), List.mem_of_getElem? (i := 518) (by decide +kernel), List.mem_of_getElem? (i := 519) (by decide +kernel)⟩
def lw_privs_1 : List (MethodName × Nat) := [(⟨"ShoreFields", "takeInBegin", "()V"⟩, 11), (⟨"ShoreFields$Shore", "comeInAtEnd", "(LShoreFields$Begin;II)V"⟩, 6), (⟨"ShoreFields$Shore", "passAt", "(LShoreFields$Begin;III)V"⟩, 6), (⟨"ShoreFields$Shore", "slope", "(II)I"⟩, 6), (⟨"ShoreFields$Shore", "takeFrom", "(LShoreFields$Begin;II)I"⟩, 6), (⟨"ShoreFields$Shore", "freeSandOf", "(LShoreFields$Begin;I)I"⟩, 6), (⟨"ShoreFields$Shore", "goOutAtEnd", "(LShoreFields$Begin;II)V"⟩, 6), (⟨"ShoreFields$Shore", "addChanges", "(LShoreFields$Begin;)V"⟩, 6), (⟨"ShoreFields$Shore", "takeOutToSea", "(LShoreFields$Begin;I)V"⟩, 6), (⟨"ShoreFields$Shore", "bringBackFromSea", "(LShoreFields$Begin;)V"⟩, 6), (⟨"ShoreFields", "lineLeavingAway", "(II)I"⟩, 11), (⟨"ShoreFields", "goThroughAgain", "(I)V"⟩, 11), (⟨"ShoreFields", "keepsMarks", "(I)Z"⟩, 11), (⟨"ShoreFields$WorkList", "applyOne", "(LShoreFields$Begin;I)V"⟩, 5), (⟨"ShoreFields", "agreesWithSurveys", "(I)Z"⟩, 11), (⟨"java/lang/Throwable", "fillInStackTrace", "(I)Ljava/lang/Throwable;"⟩, 6)]
theorem lw_r1 : ∀ q ∈ lw_privs_1, lw_okq q := List.forall_mem_cons.mpr ⟨lw_p0, List.forall_mem_cons.mpr ⟨lw_p1, List.forall_mem_cons.mpr ⟨lw_p2, List.forall_mem_cons.mpr ⟨lw_p3, List.forall_mem_cons.mpr ⟨lw_p4, List.forall_mem_cons.mpr ⟨lw_p5, List.forall_mem_cons.mpr ⟨lw_p6, List.forall_mem_cons.mpr ⟨lw_p7, List.forall_mem_cons.mpr ⟨lw_p8, List.forall_mem_cons.mpr ⟨lw_p9, List.forall_mem_cons.mpr ⟨lw_p10, List.forall_mem_cons.mpr ⟨lw_p11, List.forall_mem_cons.mpr ⟨lw_p12, List.forall_mem_cons.mpr ⟨lw_p13, List.forall_mem_cons.mpr ⟨lw_p14, List.forall_mem_cons.mpr ⟨lw_p15, fun _ h => absurd h List.not_mem_nil⟩⟩⟩⟩⟩⟩⟩⟩⟩⟩⟩⟩⟩⟩⟩⟩
theorem lw_p16 : lw_okq (⟨"ShoreFieldsModel", "isField", "(I)Z"⟩, 37) := ⟨⟨by decide +kernel, by decide +kernel⟩, List.mem_of_getElem? (i := 572) (by decide +kernel), List.mem_of_getElem? (i := 701) (by decide +kernel), List.mem_of_getElem? (i := 702) (by decide +kernel)⟩
theorem lw_p17 : lw_okq (⟨"ShoreFieldsModel", "isInner", "(I)Z"⟩, 37) := ⟨⟨by decide +kernel, by decide +kernel⟩, List.mem_of_getElem? (i := 572) (by decide +kernel), List.mem_of_getElem? (i := 710) (by decide +kernel), List.mem_of_getElem? (i := 711) (by decide +kernel)⟩
theorem lw_p18 : lw_okq (⟨"ShoreFieldsModel", "runs", "(II)V"⟩, 37) := ⟨⟨by decide +kernel, by decide +kernel⟩, List.mem_of_getElem? (i := 572) (by decide +kernel), List.mem_of_getElem? (i := 742) (by decide +kernel), List.mem_of_getElem? (i := 743) (by decide +kernel)⟩
theorem lw_p19 : lw_okq (⟨"ShoreFieldsModel", "begins", "(I)V"⟩, 37) := ⟨⟨by decide +kernel, by decide +kernel⟩, List.mem_of_getElem? (i := 572) (by decide +kernel), List.mem_of_getElem? (i := 746) (by decide +kernel), List.mem_of_getElem? (i := 747) (by decide +kernel)⟩
theorem lw_p20 : lw_okq (⟨"ShoreFieldsModel", "dredged", "(II)V"⟩, 37) := ⟨⟨by decide +kernel, by decide +kernel⟩, List.mem_of_getElem? (i := 572) (by decide +kernel), List.mem_of_getElem? (i := 750) (by decide +kernel), List.mem_of_getElem? (i := 751) (by decide +kernel)⟩
theorem lw_p21 : lw_okq (⟨"ShoreFieldsModel", "brings", "(II)V"⟩, 37) := ⟨⟨by decide +kernel, by decide +kernel⟩, List.mem_of_getElem? (i := 572) (by decide +kernel), List.mem_of_getElem? (i := 754) (by decide +kernel), List.mem_of_getElem? (i := 755) (by decide +kernel)⟩
theorem lw_p22 : lw_okq (⟨"ShoreFieldsModel", "week", "(II)V"⟩, 37) := ⟨⟨by decide +kernel, by decide +kernel⟩, List.mem_of_getElem? (i := 572) (by decide +kernel), List.mem_of_getElem? (i := 758) (by decide +kernel), List.mem_of_getElem? (i := 759) (by decide +kernel)⟩
theorem lw_p23 : lw_okq (⟨"ShoreFieldsModel", "passing", "(III)V"⟩, 37) := ⟨⟨by decide +kernel, by decide +kernel⟩, List.mem_of_getElem? (i := 572) (by decide +kernel), List.mem_of_getElem? (i := 762) (by decide +kernel), List.mem_of_getElem? (i := 763) (by decide +kernel)⟩
theorem lw_p24 : lw_okq (⟨"ShoreFieldsModel", "passes", "(IIIII)I"⟩, 37) := ⟨⟨by decide +kernel, by decide +kernel⟩, List.mem_of_getElem? (i := 572) (by decide +kernel), List.mem_of_getElem? (i := 766) (by decide +kernel), List.mem_of_getElem? (i := 767) (by decide +kernel)⟩
theorem lw_p25 : lw_okq (⟨"ShoreFieldsModel", "goesOut", "(II)I"⟩, 37) := ⟨⟨by decide +kernel, by decide +kernel⟩, List.mem_of_getElem? (i := 572) (by decide +kernel), List.mem_of_getElem? (i := 770) (by decide +kernel), List.mem_of_getElem? (i := 771) (by decide +kernel)⟩
theorem lw_p26 : lw_okq (⟨"ShoreFieldsModel", "above", "(I)I"⟩, 37) := ⟨⟨by decide +kernel, by decide +kernel⟩, List.mem_of_getElem? (i := 572) (by decide +kernel), List.mem_of_getElem? (i := 774) (by decide +kernel), List.mem_of_getElem? (i := 775) (by decide +kernel)⟩
theorem lw_p27 : lw_okq (⟨"ShoreFieldsModel", "areGroynes", "(I)Z"⟩, 37) := ⟨⟨by decide +kernel, by decide +kernel⟩, List.mem_of_getElem? (i := 572) (by decide +kernel), List.mem_of_getElem? (i := 795) (by decide +kernel), List.mem_of_getElem? (i := 796) (by decide +kernel)⟩
theorem lw_p28 : lw_okq (⟨"ShoreFieldsModel", "lineWithout", "(II)I"⟩, 37) := ⟨⟨by decide +kernel, by decide +kernel⟩, List.mem_of_getElem? (i := 572) (by decide +kernel), List.mem_of_getElem? (i := 799) (by decide +kernel), List.mem_of_getElem? (i := 800) (by decide +kernel)⟩
theorem lw_p29 : lw_okq (⟨"ShoreFieldsModel", "keeps", "(I)Z"⟩, 37) := ⟨⟨by decide +kernel, by decide +kernel⟩, List.mem_of_getElem? (i := 572) (by decide +kernel), List.mem_of_getElem? (i := 825) (by decide +kernel), List.mem_of_getElem? (i := 826) (by decide +kernel)⟩
theorem lw_p30 : lw_okq (⟨"ShoreFieldsModel", "areSo", "(I)Z"⟩, 37) := ⟨⟨by decide +kernel, by decide +kernel⟩, List.mem_of_getElem? (i := 572) (by decide +kernel), List.mem_of_getElem? (i := 837) (by decide +kernel), List.mem_of_getElem? (i := 838) (by decide +kernel)⟩
theorem lw_p31 : lw_okq (⟨"ShoreFieldsModel", "allSand", "()I"⟩, 37) := ⟨⟨by decide +kernel, by decide +kernel⟩, List.mem_of_getElem? (i := 572) (by decide +kernel), List.mem_of_getElem? (i := 845) (by decide +kernel), List.mem_of_getElem? (i := 846) (by decide +kernel)⟩
def lw_privs_2 : List (MethodName × Nat) := [(⟨"ShoreFieldsModel", "isField", "(I)Z"⟩, 37), (⟨"ShoreFieldsModel", "isInner", "(I)Z"⟩, 37), (⟨"ShoreFieldsModel", "runs", "(II)V"⟩, 37), (⟨"ShoreFieldsModel", "begins", "(I)V"⟩, 37), (⟨"ShoreFieldsModel", "dredged", "(II)V"⟩, 37), (⟨"ShoreFieldsModel", "brings", "(II)V"⟩, 37), (⟨"ShoreFieldsModel", "week", "(II)V"⟩, 37), (⟨"ShoreFieldsModel", "passing", "(III)V"⟩, 37), (⟨"ShoreFieldsModel", "passes", "(IIIII)I"⟩, 37), (⟨"ShoreFieldsModel", "goesOut", "(II)I"⟩, 37), (⟨"ShoreFieldsModel", "above", "(I)I"⟩, 37), (⟨"ShoreFieldsModel", "areGroynes", "(I)Z"⟩, 37), (⟨"ShoreFieldsModel", "lineWithout", "(II)I"⟩, 37), (⟨"ShoreFieldsModel", "keeps", "(I)Z"⟩, 37), (⟨"ShoreFieldsModel", "areSo", "(I)Z"⟩, 37), (⟨"ShoreFieldsModel", "allSand", "()I"⟩, 37)]
theorem lw_r2 : ∀ q ∈ lw_privs_2, lw_okq q := List.forall_mem_cons.mpr ⟨lw_p16, List.forall_mem_cons.mpr ⟨lw_p17, List.forall_mem_cons.mpr ⟨lw_p18, List.forall_mem_cons.mpr ⟨lw_p19, List.forall_mem_cons.mpr ⟨lw_p20, List.forall_mem_cons.mpr ⟨lw_p21, List.forall_mem_cons.mpr ⟨lw_p22, List.forall_mem_cons.mpr ⟨lw_p23, List.forall_mem_cons.mpr ⟨lw_p24, List.forall_mem_cons.mpr ⟨lw_p25, List.forall_mem_cons.mpr ⟨lw_p26, List.forall_mem_cons.mpr ⟨lw_p27, List.forall_mem_cons.mpr ⟨lw_p28, List.forall_mem_cons.mpr ⟨lw_p29, List.forall_mem_cons.mpr ⟨lw_p30, List.forall_mem_cons.mpr ⟨lw_p31, fun _ h => absurd h List.not_mem_nil⟩⟩⟩⟩⟩⟩⟩⟩⟩⟩⟩⟩⟩⟩⟩⟩
def lw_privs : List (MethodName × Nat) := lw_privs_1 ++ (lw_privs_2)
def lw_tbl : List Cond := k2_sels lw_privs ++ tables_1
theorem lw_privs_ok : ∀ q ∈ lw_privs, lw_okq q := by
  show ∀ q ∈ lw_privs_1 ++ (lw_privs_2), lw_okq q
  exact List.forall_mem_append.mpr ⟨lw_r1, lw_r2⟩
/-! ===== BEGIN words of one list among another's, by their places ===== -/
theorem goodIn_r {big : List Cond} (ws : List Cond) (ps : List Nat) (hp : ws = ps.filterMap (fun i => big[i]?)) (h : ws.all goodWord = true) : GoodIn big ws := by
  intro w hw
  have h1 := List.all_eq_true.mp h w hw
  rw [hp] at hw
  obtain ⟨i, -, hi⟩ := List.mem_filterMap.mp hw
  have hm : w ∈ big := by first | exact List.mem_of_getElem? hi | exact List.getElem?_mem hi
  exact ⟨hm, good_of_word h1⟩
theorem goodIn_app {big a b : List Cond} (ha : GoodIn big a) (hb : GoodIn big b) : GoodIn big (a ++ b) := fun w h => (List.mem_append.mp h).elim (ha w) (hb w)
theorem goodIn_ca {big a b : List Cond} {c : Cond} (ha : GoodIn big (c :: a)) (hb : GoodIn big b) : GoodIn big (c :: (a ++ b)) := fun w h => (List.mem_cons.mp h).elim (fun e => ha w (List.mem_cons.mpr (Or.inl e))) (fun h => (List.mem_append.mp h).elim (fun h => ha w (List.mem_cons.mpr (Or.inr h))) (hb w))
theorem goodIn_sub {big ws : List Cond} (hm : ∀ w ∈ ws, w ∈ big) (h : ws.all goodWord = true) : GoodIn big ws := fun w hw => ⟨hm w hw, good_of_word (List.all_eq_true.mp h w hw)⟩
/-! ===== END ===== -/
end
section
/-! ===== BEGIN exceptions that leave a method, and their catching by the caller (launches without stack traces) ===== -/
section VXA
/-! The laws vx_back, vx_callV, vx_callS, vx_callSW, vx_throw0, vx_throwS follow proofs of the library, with one case more: JvmDerived/Free/Laws.lean (Back.of_free), Shelf42/LK1.lean (callV, callS), Shelf/KitTraced.lean (throwNew0V, throwNewS). -/
def vx_T (XC : String → State → State → Prop) (st : State) (q : Addr) (t : State) (mc ms : Nat) (free : Addr → Prop) : Prop :=
  ∃ (E : String) (ce : Cell) (L : List Loc), XC E st t ∧ t.heap[q]? = some ce ∧ ce.vm = .none ∧ st.vm.findClass E = some ce.cls ∧ st.WarmedH t.vm ∧ st.sameButNew ({ t with vm := st.vm } : State) L mc ms ∧ ∀ z ∈ L, free z.base
def vx_Q (Qc : Array Value → State → Outcome → State → Prop) (XC : String → State → State → Prop) (mc ms : Nat) (free : Addr → Prop) : Array Value → State → Outcome → State → Prop := fun a st o t =>
  (Qc a st o t ∧ ∃ L, FrameEnd st o t L mc ms ∧ ∀ q ∈ L, free q.base) ∨ ∃ q, o = .threw q ∧ vx_T XC st q t mc ms free
def vx_Met (l : Launch) (y : MethodName) (ws : List Cond) (rm : Room) (Pc : Array Value → State → Prop) (Qc : Array Value → State → Outcome → State → Prop) (XC : String → State → State → Prop) (mc ms : Nat) (free : Addr → Prop) : Prop :=
  MetFree l y (headSpec ws rm) Pc (fun _ _ _ _ _ => True) (vx_Q Qc XC mc ms free)
def vx_Post (XC : String → State → State → Prop) (mc ms : Nat) (free : Addr → Prop) : Pt → Array Value → Addr → Pt → Prop := fun A a q B =>
  ∃ (g : JFrame) (mk : MethodId) (t : State) (L : List Loc) (E : String) (ce : Cell), B.U.heap = t.heap ∧ B.U.vm = t.vm ∧ XC E (A.U.calling g mk a) t ∧ t.heap[q]? = some ce ∧ ce.vm = .none ∧ A.U.vm.findClass E = some ce.cls ∧ B.locs = A.locs ++ L ∧ (∀ z ∈ L, free z.base) ∧ B.cells = A.cells + mc ∧ B.slots = A.slots + ms
def vx_Back (l : Launch) (R : Room) (p : Program) (e : Env) (below : List Frame) (s : State) (sargs : Array Value) (y : MethodName) (len W9 : Nat)
    (Pre : Pt → Array Value → Prop) (Post : Pt → Array Value → Option Value → Pt → Prop) (PostX : Pt → Array Value → Addr → Pt → Prop) : Prop :=
  ∀ (m : MethodId) (meth : Method) (c : Code) (A : Pt) (g : JFrame) (ig : Instr) (mk : MethodId) (a : Array Value),
    Stand p l e R s m sargs below meth c A.U A.locs A.cells A.slots → g.method = m → g.locals.size = c.maxLocals → decode c.code g.pc = .ok (ig, len) →
    2 * g.monitorRoom + (g.stack.map fun v => v.category).sum ≤ W9 → A.U.methodNamed? y = some mk → Pre A a →
    (∃ (v : Option Value) (B : Pt), Stand p l e R s m sargs below meth c B.U B.locs B.cells B.slots ∧ Post A a v B ∧
      Steps p.tables e below (doInvoke e (A.U.setTop g) [] mk a).1 (B.U.setTop { g with pc := g.pc + len, stack := v.toList ++ g.stack })) ∨
    (∃ (q : Addr) (B : Pt), Stand p l e R s m sargs below meth c B.U B.locs B.cells B.slots ∧ PostX A a q B ∧
      Steps p.tables e below (doInvoke e (A.U.setTop g) [] mk a).1 ((B.U.setTop g).pushFrame (.throwing q)))
section Payer
variable {l : Launch} {R : Room} {p : Program} {e : Env} {below : List Frame} {s : State} {sargs : Array Value} {y : MethodName} {len W9 : Nat}
theorem vx_back {ws : List Cond} {rm : Room} {Pc : Array Value → State → Prop} {Qc : Array Value → State → Outcome → State → Prop} {XC : String → State → State → Prop} {mc ms : Nat} {free : Addr → Prop} {bytes : ByteArray} {maxL : Nat} {ret : Option FieldType}
    (hM : vx_Met l y ws rm Pc Qc XC mc ms free) (hblind : FrameBlind Pc) (hrc : rm.cells = mc) (hrs : rm.slots = ms)
    (hframes : rm.frames + 1 ≤ R.frames) (hlocals : W9 + (maxL + 11) + rm.locals ≤ R.locals)
    (hws : ∀ w ∈ ws, ∀ a' U, s.WarmedH U.vm → w.before a' U = true) (hcode : Cond.code y bytes maxL ret ∈ ws) (hinit : ∀ a' U, s.WarmedH U.vm → (Cond.initialized y.cls).before a' U = true) :
    vx_Back l R p e below s sargs y len W9 (PreOf R mc ms Pc) (PostOf Qc mc ms free) (vx_Post XC mc ms free) := by
  intro m meth c A g ig mk a X hg hsize hdg hW hn hp
  have h1 : (headSpec ws rm).pre.before a A.U = true := atoms_intro fun w hw => hws w hw _ _ X.warmed
  have h2 : (Cond.code y bytes maxL ret).before a A.U = true := hws _ hcode _ _ X.warmed
  have h3 : (Cond.initialized y.cls).before a A.U = true := hinit _ _ X.warmed
  have h4 : A.cells + (headSpec ws rm).room.cells ≤ R.cells := by rw [show (headSpec ws rm).room.cells = mc from hrc]; exact hp.1
  have h5 : A.slots + (headSpec ws rm).room.slots ≤ R.slots := by rw [show (headSpec ws rm).room.slots = ms from hrs]; exact hp.2.1
  have hPc : Pc a (A.U.calling g mk a) := hblind _ _ _ _ hp.2.2
  obtain ⟨U, Ls, c0, s0⟩ := A
  dsimp only [Pt.U, Pt.locs, Pt.cells, Pt.slots] at h1 h2 h3 h4 h5 X hn hPc ⊢
  obtain ⟨methY, cY, hmY, hcY, -, hlY, -, -, -, -⟩ := Cond.code_spec hn h2
  obtain ⟨kY, hkY, -⟩ := className_of_methodNamed hn
  have hinitY : kY.init = .initialized := Cond.initialized_spec (findClass_of_methodNamed hn) hkY h3
  have h : At U g.method c below := by rw [hg]; exact X.here
  have hlocals9 : W9 + (maxL + 11) + (headSpec ws rm).room.locals ≤ R.locals := hlocals
  have happ : (headSpec ws rm).appliesLoose y e.platform (U.calling g mk a) = true :=
    Spec.appliesLoose_calling (g := g) h hdg hn hkY hinitY
      (X.room_calling (g := g) (R' := (headSpec ws rm).room) hsize hmY hcY hframes (by rw [hlY]; omega) h4 h5) h1
  obtain ⟨mid, hmid⟩ := h.above
  have hfr : (U.setTop g).frames = (.java g :: mid) ++ below := by rw [State.frames_setTop' g h.top, hmid]; rfl
  obtain ⟨o, s₂, hsteps, -, hend, hq⟩ := Steps.callFree hM p X.admits X.cas X.clock (acts := []) hfr happ hPc trivial
  have hq' : vx_Q Qc XC mc ms free a (U.calling g mk a) o s₂ := hq
  rw [State.frames_setTop' g h.top] at hend
  obtain ⟨g₀, hg0⟩ := Option.isSome_iff_exists.mp h.top
  obtain ⟨r, hr⟩ := State.topJava?_eq_some.mp hg0
  have hr' : (({ U with heap := s₂.heap, slotsUsed := s₂.slotsUsed } : State).setVm s₂.vm).frames = .java g₀ :: r := hr
  rcases hq' with ⟨hqc, L, hfe, hL⟩ | ⟨q, rfl, E, ce, L, hx, hce, hcv, hcl, hW₂, hsm, hL⟩
  · obtain ⟨⟨v, rfl⟩, hW₂, e2, q2, q3, q4, q5, q6⟩ := id hfe
    have e3 : s₂ = ({ (U.calling g mk a).setFrames s₂.frames with heap := s₂.heap, slotsUsed := s₂.slotsUsed } : State).setVm s₂.vm := by
      have : s₂ = ({ s₂ with vm := (U.calling g mk a).vm } : State).setVm s₂.vm := rfl
      rw [e2] at this
      exact this
    obtain ⟨c₂, i₂, len₂, hc₂, hd₂, hf₂⟩ := hend
    have hW' : U.WarmedH s₂.vm := hW₂
    have hcc : c₂ = c := by
      have h1 : s₂.code? g.method = U.code? g.method := by
        rw [State.code?_eq, State.code?_eq, hW'.alike.method?]
      exact Option.some.inj (hc₂.symm.trans (h1.trans h.code))
    subst hcc
    have hlen : len₂ = len := by rw [hdg] at hd₂; cases hd₂; rfl
    subst hlen
    have hs₂ : s₂ = (({ U with heap := s₂.heap, slotsUsed := s₂.slotsUsed } : State).setVm s₂.vm).setTop { g with pc := g.pc + len₂, stack := v.toList ++ g.stack } := by
      refine e3.trans ?_
      rw [hf₂, State.calling_eq h.top, State.setFrames_setFrames, State.setTop_of_frames _ hr', hr]
      rfl
    have hsame : U.sameButNew ({ U with heap := s₂.heap, slotsUsed := s₂.slotsUsed } : State) L mc ms := by
      refine ⟨?_, q2, q3, q4, q5, q6⟩
      obtain ⟨t, ht, -⟩ := State.frames_cons hr
      show ({ U with heap := s₂.heap, slotsUsed := s₂.slotsUsed } : State) = { U.setFrames U.frames with heap := s₂.heap, slotsUsed := s₂.slotsUsed }
      rw [State.setFrames_self ht]
    subst hg
    refine Or.inl ⟨v, ⟨(({ U with heap := s₂.heap, slotsUsed := s₂.slotsUsed } : State).setVm s₂.vm), Ls ++ L, c0 + mc, s0 + ms⟩,
      ⟨X.admits, X.cas, X.clock, X.frames, X.room, X.hears, X.method, X.code, (X.here.setHeapUsed s₂.heap s₂.slotsUsed).setVm hW'.alike, X.tail, State.WarmedH.trans X.warmed hW', X.limits, X.bytes, X.same.trans (hsame.setVm s.vm)⟩,
      ⟨g, mk, s₂, L, rfl, rfl, hqc, rfl, hL, rfl, rfl⟩, ?_⟩
    show Steps p.tables e below _ ((({ U with heap := s₂.heap, slotsUsed := s₂.slotsUsed } : State).setVm s₂.vm).setTop { g with pc := g.pc + len₂, stack := v.toList ++ g.stack })
    rw [← hs₂]
    exact hsteps
  · obtain ⟨e2, q2, q3, q4, q5, q6⟩ := id hsm
    have e3 : s₂ = ({ (U.calling g mk a).setFrames s₂.frames with heap := s₂.heap, slotsUsed := s₂.slotsUsed } : State).setVm s₂.vm := by
      have : s₂ = ({ s₂ with vm := (U.calling g mk a).vm } : State).setVm s₂.vm := rfl
      rw [e2] at this
      exact this
    have hf₂ : s₂.frames = .throwing q :: .java g :: U.frames.tail := hend
    have hW' : U.WarmedH s₂.vm := hW₂
    have hs₂ : s₂ = ((({ U with heap := s₂.heap, slotsUsed := s₂.slotsUsed } : State).setVm s₂.vm).setTop g).pushFrame (.throwing q) := by
      refine e3.trans ?_
      rw [hf₂, State.calling_eq h.top, State.setFrames_setFrames, State.pushFrame, State.frames_setTop _ hr', State.setTop_of_frames _ hr', State.setFrames_setFrames, hr]
      rfl
    have hsame : U.sameButNew ({ U with heap := s₂.heap, slotsUsed := s₂.slotsUsed } : State) L mc ms := by
      refine ⟨?_, q2, q3, q4, q5, q6⟩
      obtain ⟨t, ht, -⟩ := State.frames_cons hr
      show ({ U with heap := s₂.heap, slotsUsed := s₂.slotsUsed } : State) = { U.setFrames U.frames with heap := s₂.heap, slotsUsed := s₂.slotsUsed }
      rw [State.setFrames_self ht]
    subst hg
    refine Or.inr ⟨q, ⟨(({ U with heap := s₂.heap, slotsUsed := s₂.slotsUsed } : State).setVm s₂.vm), Ls ++ L, c0 + mc, s0 + ms⟩,
      ⟨X.admits, X.cas, X.clock, X.frames, X.room, X.hears, X.method, X.code, (X.here.setHeapUsed s₂.heap s₂.slotsUsed).setVm hW'.alike, X.tail, State.WarmedH.trans X.warmed hW', X.limits, X.bytes, X.same.trans (hsame.setVm s.vm)⟩,
      ⟨g, mk, s₂, L, E, ce, rfl, rfl, hx, hce, hcv, hcl, rfl, hL, rfl, rfl⟩, ?_⟩
    show Steps p.tables e below _ (((({ U with heap := s₂.heap, slotsUsed := s₂.slotsUsed } : State).setVm s₂.vm).setTop g).pushFrame (.throwing q))
    rw [← hs₂]
    exact hsteps
end Payer
section Calls
variable {p : Program} {l : Launch} {e : Env} {R : Room} {s : State} {m : MethodId} {args : Array Value} {below : List Frame} {meth : Method} {c : Code} {T : State} {locs : List Loc} {cells slots : Nat}
theorem vx_callV (X : Stand p l e R s m args below meth c T locs cells slots) (hexec : p.tables.exec = Jvm.exec) {own C : String} {index : Nat} {y : MethodName} {bytes : ByteArray} {maxL : Nat} {ret : Option FieldType}
    (hown : s.vm.findClass own = some m.cls) (hlink : (Cond.methodLink own index y).before args s = true) (hinst : (Cond.instanceMethod y).before args s = true) (hsel : (Cond.selects C y y).before args s = true)
    (hcode : (Cond.code y bytes maxL ret).before args s = true) (hy : y.cls ≠ "java/lang/invoke/MethodHandle" ∧ y.cls ≠ "java/lang/invoke/VarHandle")
    {W9 : Nat} {Pre : Pt → Array Value → Prop} {Post : Pt → Array Value → Option Value → Pt → Prop} {PostX : Pt → Array Value → Addr → Pt → Prop} (hK : vx_Back l R p e below s args y 3 W9 Pre Post PostX)
    {b : Addr} {cellB : Cell} (hcell : T.heap[b]? = some cellB) (hobj : cellB.vm.isStatics = false) (hcls : s.vm.findClass C = some cellB.cls)
    {g : JFrame} (hg : g.method = m) (hsize : g.locals.size = c.maxLocals) {argsL rest : List Value} (hlen : ∀ sig, parseMethodDescriptor y.desc = some sig → argsL.length = sig.parameters.length)
    (hstack : g.stack = argsL.reverse ++ .ref b :: rest) (hW : 2 * g.monitorRoom + (rest.map fun v => v.category).sum ≤ W9) (hdg : decode c.code g.pc = .ok (.invokevirtual index, 3))
    (hpre : ∀ vm₁, s.WarmedH vm₁ → Pre ⟨T.setVm vm₁, locs, cells, slots⟩ (Value.ref b :: argsL).toArray) :
    (∃ (v : Option Value) (vm₁ : Vm) (B : Pt), s.WarmedH vm₁ ∧ Stand p l e R s m args below meth c B.U B.locs B.cells B.slots ∧ Post ⟨T.setVm vm₁, locs, cells, slots⟩ (Value.ref b :: argsL).toArray v B ∧
      ∀ target, Steps p.tables e below (B.U.setTop { g with pc := g.pc + 3, stack := v.toList ++ rest }) target → Steps p.tables e below (T.setTop g) target) ∨
    (∃ (q : Addr) (vm₁ : Vm) (B : Pt), s.WarmedH vm₁ ∧ Stand p l e R s m args below meth c B.U B.locs B.cells B.slots ∧ PostX ⟨T.setVm vm₁, locs, cells, slots⟩ (Value.ref b :: argsL).toArray q B ∧
      Steps p.tables e below (T.setTop g) ((B.U.setTop { g with stack := rest }).pushFrame (.throwing q))) := by
  obtain ⟨mk, methM, hnamed, hmethM, hstM, habM⟩ := Cond.instanceMethod_spec hinst
  obtain ⟨methM', cM, hmethM', -, -, -, -, -, -, hsigM⟩ := Cond.code_spec hnamed hcode
  cases hmethM.symm.trans hmethM'
  obtain ⟨c2, r2, m2, q1, q2, q3, q4, kP, hkP, hkPi⟩ := Cond.selects_spec hsel
  cases hcls.symm.trans q1
  cases (State.methodFound?_of_named hnamed hy).symm.trans q2
  cases hnamed.symm.trans q3
  have hselP : selectMethod e.platform s.vm cellB.cls mk = .method mk := by rw [Launch.admits_selectMethod X.admits]; exact q4
  obtain ⟨vm₁, X₁, hstep₁⟩ := X.invokevirtual hexec hown hlink hnamed hmethM hstM hkP hkPi hy (a := b) (cell := cellB) hcell
    (fun z h => by rw [h] at hobj; cases hobj) hselP hmethM habM hkP hkPi (g := g) hg (argsL := argsL) (rest := rest) (hlen _ hsigM) hstack hdg
  rcases hK m meth c ⟨T.setVm vm₁, locs, cells, slots⟩ { g with stack := rest } (.invokevirtual index) mk (Value.ref b :: argsL).toArray X₁ hg hsize hdg hW (X₁.named hnamed) (hpre vm₁ X₁.warmed) with ⟨v, B, X', hpost, hsteps⟩ | ⟨q, B, X', hpost, hsteps⟩
  · exact Or.inl ⟨v, vm₁, B, X₁.warmed, X', hpost, fun target h => hstep₁ _ fun acts => by rw [doInvoke_state]; exact hsteps.trans h⟩
  · exact Or.inr ⟨q, vm₁, B, X₁.warmed, X', hpost, hstep₁ _ fun acts => by rw [doInvoke_state]; exact hsteps⟩
theorem vx_callS (X : Stand p l e R s m args below meth c T locs cells slots) (hexec : p.tables.exec = Jvm.exec) {own : String} {index : Nat} {y : MethodName} {bytes : ByteArray} {maxL : Nat} {ret : Option FieldType}
    (hown : s.vm.findClass own = some m.cls) (hlink : (Cond.methodLink own index y).before args s = true) (hstat : (Cond.static y).before args s = true) (hinit : (Cond.initialized y.cls).before args s = true)
    (hcode : (Cond.code y bytes maxL ret).before args s = true) (hy : y.cls ≠ "java/lang/invoke/MethodHandle" ∧ y.cls ≠ "java/lang/invoke/VarHandle")
    {W9 : Nat} {Pre : Pt → Array Value → Prop} {Post : Pt → Array Value → Option Value → Pt → Prop} {PostX : Pt → Array Value → Addr → Pt → Prop} (hK : vx_Back l R p e below s args y 3 W9 Pre Post PostX)
    {g : JFrame} (hg : g.method = m) (hsize : g.locals.size = c.maxLocals) {argsL rest : List Value} (hlen : ∀ sig, parseMethodDescriptor y.desc = some sig → argsL.length = sig.parameters.length)
    (hstack : g.stack = argsL.reverse ++ rest) (hW : 2 * g.monitorRoom + (rest.map fun v => v.category).sum ≤ W9) (hdg : decode c.code g.pc = .ok (.invokestatic index, 3))
    (hpre : ∀ vm₁, s.WarmedH vm₁ → Pre ⟨T.setVm vm₁, locs, cells, slots⟩ argsL.toArray) :
    (∃ (v : Option Value) (vm₁ : Vm) (B : Pt), s.WarmedH vm₁ ∧ Stand p l e R s m args below meth c B.U B.locs B.cells B.slots ∧ Post ⟨T.setVm vm₁, locs, cells, slots⟩ argsL.toArray v B ∧
      ∀ target, Steps p.tables e below (B.U.setTop { g with pc := g.pc + 3, stack := v.toList ++ rest }) target → Steps p.tables e below (T.setTop g) target) ∨
    (∃ (q : Addr) (vm₁ : Vm) (B : Pt), s.WarmedH vm₁ ∧ Stand p l e R s m args below meth c B.U B.locs B.cells B.slots ∧ PostX ⟨T.setVm vm₁, locs, cells, slots⟩ argsL.toArray q B ∧
      Steps p.tables e below (T.setTop g) ((B.U.setTop { g with stack := rest }).pushFrame (.throwing q))) := by
  obtain ⟨mk, hnamed⟩ := Cond.code_named hcode
  obtain ⟨methM, cM, hmethM, -, -, -, -, -, -, hsigM⟩ := Cond.code_spec hnamed hcode
  have hstatic : methM.isStatic = true := Cond.static_spec hnamed hmethM hstat
  obtain ⟨kP, hkP, -⟩ := className_of_methodNamed hnamed
  have hinitP : kP.init = .initialized := Cond.initialized_spec (findClass_of_methodNamed hnamed) hkP hinit
  obtain ⟨vm₁, X₁, hstep₁⟩ := X.invokestatic hexec hown hlink hnamed hmethM hstatic hkP hinitP hy (g := g) hg (argsL := argsL) (rest := rest) (hlen _ hsigM) hstack hdg
  rcases hK m meth c ⟨T.setVm vm₁, locs, cells, slots⟩ { g with stack := rest } (.invokestatic index) mk argsL.toArray X₁ hg hsize hdg hW (X₁.named hnamed) (hpre vm₁ X₁.warmed) with ⟨v, B, X', hpost, hsteps⟩ | ⟨q, B, X', hpost, hsteps⟩
  · exact Or.inl ⟨v, vm₁, B, X₁.warmed, X', hpost, fun target h => hstep₁ _ fun acts => by rw [doInvoke_state]; exact hsteps.trans h⟩
  · exact Or.inr ⟨q, vm₁, B, X₁.warmed, X', hpost, hstep₁ _ fun acts => by rw [doInvoke_state]; exact hsteps⟩
end Calls
theorem vx_cls {s : State} {T : State} {vm₁ : Vm} {E : String} {k : ClassId} (hW : s.WarmedH vm₁) (h : (T.setVm vm₁).vm.findClass E = some k) : s.vm.findClass E = some k := by
  have h1 : vm₁.findClass E = some k := h
  rw [hW.alike.findClass] at h1
  exact h1
def vx_W (p : Program) (l : Launch) (e : Env) (R : Room) (s : State) (m : MethodId) (args : Array Value) (below : List Frame) (meth : Method) (c : Code) (H : Heap) (locs : List Loc) (cells slots : Nat) (Q : State → Prop) (g : JFrame) (q : Addr) : Prop :=
  ∀ T : State, T.heap = H → Stand p l e R s m args below meth c T locs cells slots → ∃ t, Steps p.tables e below ((T.setTop g).pushFrame (.throwing q)) t ∧ Q t
def vx_Run (p : Program) (l : Launch) (e : Env) (R : Room) (s : State) (m : MethodId) (args : Array Value) (below : List Frame) (meth : Method) (c : Code) (H : Heap) (locs : List Loc) (cells slots mc ms : Nat) (g : JFrame) (rest : List Value) (Qa : State → Outcome → State → Prop) (XC : String → State → State → Prop) (free : Addr → Prop) : Prop :=
  ∀ T : State, T.heap = H → Stand p l e R s m args below meth c T locs cells slots →
    (∃ (v : Option Value) (st₀ t T' : State) (L : List Loc), st₀.heap = H ∧ Stand p l e R s m args below meth c T' (locs ++ L) (cells + mc) (slots + ms) ∧ (∀ q ∈ L, free q.base) ∧ T'.heap = t.heap ∧ T'.vm = t.vm ∧ Qa st₀ (.returned v) t ∧
      Goes p e below T g T' { g with pc := g.pc + 3, stack := v.toList ++ rest }) ∨
    (∃ (q : Addr) (st₀ t T' : State) (L : List Loc) (E : String) (ce : Cell), st₀.heap = H ∧ Stand p l e R s m args below meth c T' (locs ++ L) (cells + mc) (slots + ms) ∧ (∀ z ∈ L, free z.base) ∧ T'.heap = t.heap ∧ T'.vm = t.vm ∧ XC E st₀ t ∧ t.heap[q]? = some ce ∧ ce.vm = .none ∧ s.vm.findClass E = some ce.cls ∧
      Steps p.tables e below (T.setTop g) ((T'.setTop { g with stack := rest }).pushFrame (.throwing q)))
def vx_X {S : Type} (px : S → Prop) (B : String → S → State → Prop) (A : Nat → Prop) : String → State → State → Prop := fun E st t => ∃ u : S, px u ∧ B E u t ∧ va_F A st t
section Runs
variable {p : Program} {l : Launch} {e : Env} {R : Room} {s : State} {m : MethodId} {args : Array Value} {below : List Frame} {meth : Method} {c : Code} {H : Heap} {locs : List Loc} {cells slots : Nat}
variable {y : MethodName} {bytes cc : ByteArray} {maxL nL mc ms n index : Nat} {ret : Option FieldType} {ws : List Cond} {rm : Room} {Pc : Array Value → State → Prop} {Qc : Array Value → State → Outcome → State → Prop} {XC : String → State → State → Prop} {free : Addr → Prop} {Ts : List Cond} {own C : String} {b : Addr} {As rest : List Value} {g : JFrame}
theorem vx_callBack (cb : CallB R s args own index y bytes maxL ret ws rm mc ms n) (hM : vx_Met l y ws rm Pc Qc XC mc ms free) (hbl : FrameBlind Pc) : vx_Back l R p e below s args y 3 8 (PreOf R mc ms Pc) (PostOf Qc mc ms free) (vx_Post XC mc ms free) := by
  obtain ⟨hrc, hrs, hfr, hlo, hws, hcw, -, hini, -⟩ := cb
  exact vx_back (bytes := bytes) (maxL := maxL) (ret := ret) hM hbl hrc hrs hfr hlo hws hcw (fun a' U hW => word_at hW (Or.inl (by first | rfl | simp [Cond.onTables, Cond.keeps, Cond.steady])) hini)
theorem vx_runV (S : CallFix p m c cc nL s args Ts own) (hM : vx_Met l y ws rm Pc Qc XC mc ms free) (cw : CallW R s args own C index y bytes maxL ret ws rm mc ms n) (hp : PreV s H C b Pc As)
    (hg : g.method = m) (hn : As.length = n) (hsize : g.locals.size = nL) (hstack : g.stack = As.reverse ++ .ref b :: rest) (hW : 2 * g.monitorRoom + (rest.map fun v => v.category).sum ≤ 8) (hdg : decode cc g.pc = .ok (.invokevirtual index, 3)) (hf : cells + mc ≤ R.cells ∧ slots + ms ≤ R.slots) :
    vx_Run p l e R s m args below meth c H locs cells slots mc ms g rest (Qc (Value.ref b :: As).toArray) XC free := by
  have hK : vx_Back l R p e below s args y 3 8 (PreOf R mc ms Pc) (PostOf Qc mc ms free) (vx_Post XC mc ms free) := vx_callBack cw.1 hM hp.1
  obtain ⟨⟨-, -, -, -, -, -, hcode, -, hy, hlen, hl⟩, hin, hse⟩ := cw
  obtain ⟨hx, hb, hml, ho, -⟩ := S
  obtain ⟨-, ⟨cellB, hcB, hoB, hclB⟩, hPc⟩ := hp
  intro T hT X
  rcases vx_callV X hx (C := C) (bytes := bytes) (maxL := maxL) (ret := ret) ho hl hin hse hcode hy hK (by rw [hT]; exact hcB) hoB hclB hg (hsize.trans hml.symm) (argsL := As) (rest := rest) (fun sig h => hn.trans (hlen sig h)) hstack hW (by rw [hb]; exact hdg)
    (fun vm₁ hW₁ => ⟨hf.1, hf.2, hPc (T.setVm vm₁) hT hW₁⟩) with ⟨v, vm₁, ⟨U', l2, c2, s2⟩, hW₁, X', ⟨g', mk, t, L, e1, e2, hq, h1, hL, h2, h3⟩, st⟩ | ⟨q, vm₁, ⟨U', l2, c2, s2⟩, hW₁, X', ⟨g', mk, t, L, E, ce, e1, e2, hq, hce, hcv, hcl, h1, hL, h2, h3⟩, st⟩
  · dsimp only [Pt.U, Pt.locs, Pt.cells, Pt.slots] at X' e1 e2 h1 h2 h3 st
    subst h1; subst h2; subst h3
    exact Or.inl ⟨v, (T.setVm vm₁).calling g' mk (Value.ref b :: As).toArray, t, U', L, hT, X', hL, e1, e2, hq, st⟩
  · dsimp only [Pt.U, Pt.locs, Pt.cells, Pt.slots] at X' e1 e2 h1 h2 h3 st hcl
    subst h1; subst h2; subst h3
    exact Or.inr ⟨q, (T.setVm vm₁).calling g' mk (Value.ref b :: As).toArray, t, U', L, E, ce, hT, X', hL, e1, e2, hq, hce, hcv, vx_cls hW₁ hcl, st⟩
theorem vx_runS (S : CallFix p m c cc nL s args Ts own) (hM : vx_Met l y ws rm Pc Qc XC mc ms free) (cw : CallB R s args own index y bytes maxL ret ws rm mc ms n ∧ (Cond.static y).before args s = true) (hp : PreS s H Pc As)
    (hg : g.method = m) (hn : As.length = n) (hsize : g.locals.size = nL) (hstack : g.stack = As.reverse ++ rest) (hW : 2 * g.monitorRoom + (rest.map fun v => v.category).sum ≤ 8) (hdg : decode cc g.pc = .ok (.invokestatic index, 3)) (hf : cells + mc ≤ R.cells ∧ slots + ms ≤ R.slots) :
    vx_Run p l e R s m args below meth c H locs cells slots mc ms g rest (Qc As.toArray) XC free := by
  have hK : vx_Back l R p e below s args y 3 8 (PreOf R mc ms Pc) (PostOf Qc mc ms free) (vx_Post XC mc ms free) := vx_callBack cw.1 hM hp.1
  obtain ⟨⟨-, -, -, -, -, -, hcode, hini, hy, hlen, hl⟩, hstt⟩ := cw
  obtain ⟨hx, hb, hml, ho, -⟩ := S
  intro T hT X
  rcases vx_callS X hx (bytes := bytes) (maxL := maxL) (ret := ret) ho hl hstt hini hcode hy hK hg (hsize.trans hml.symm) (argsL := As) (rest := rest) (fun sig h => hn.trans (hlen sig h)) hstack hW (by rw [hb]; exact hdg)
    (fun vm₁ hW₁ => ⟨hf.1, hf.2, hp.2 (T.setVm vm₁) hT hW₁⟩) with ⟨v, vm₁, ⟨U', l2, c2, s2⟩, hW₁, X', ⟨g', mk, t, L, e1, e2, hq, h1, hL, h2, h3⟩, st⟩ | ⟨q, vm₁, ⟨U', l2, c2, s2⟩, hW₁, X', ⟨g', mk, t, L, E, ce, e1, e2, hq, hce, hcv, hcl, h1, hL, h2, h3⟩, st⟩
  · dsimp only [Pt.U, Pt.locs, Pt.cells, Pt.slots] at X' e1 e2 h1 h2 h3 st
    subst h1; subst h2; subst h3
    exact Or.inl ⟨v, (T.setVm vm₁).calling g' mk As.toArray, t, U', L, hT, X', hL, e1, e2, hq, st⟩
  · dsimp only [Pt.U, Pt.locs, Pt.cells, Pt.slots] at X' e1 e2 h1 h2 h3 st hcl
    subst h1; subst h2; subst h3
    exact Or.inr ⟨q, (T.setVm vm₁).calling g' mk As.toArray, t, U', L, E, ce, hT, X', hL, e1, e2, hq, hce, hcv, vx_cls hW₁ hcl, st⟩
end Runs
section Rows
variable {p : Program} {l : Launch} {e : Env} {R : Room} {s : State} {m : MethodId} {args : Array Value} {below : List Frame} {meth : Method} {c : Code} {H : Heap} {locs : List Loc} {cells slots : Nat} {Q : State → Prop}
variable {mc ms : Nat} {free : Addr → Prop} {A0 A1 : Nat → Prop} {H0 : Heap} {a : Array Value} {pc : Nat} {ls : Array Slot} {st0 rest : List Value}
theorem vx_keep {st₀ t T' : State} {L : List Loc} (h0 : st₀.heap = H) (e1 : T'.heap = t.heap) (hS : va_S A0 H0 H locs) (hA : ∀ q, q < H.size → A1 q → A0 q) (hf : ∀ q, free q → A0 q) (hL : ∀ q ∈ L, free q.base) (hF : va_F A1 st₀ t) :
    H.size ≤ T'.heap.size ∧ (∀ q : Nat, q < H.size → ¬ A1 q → T'.heap[q]? = H[q]?) ∧ va_S A0 H0 T'.heap (locs ++ L) := by
  obtain ⟨hz, hk⟩ := hF
  rw [h0] at hz hk
  exact ⟨by rw [e1]; exact hz, fun q h1 h2 => by rw [e1]; exact hk q h1 h2,
    ⟨Nat.le_trans hS.1 (by rw [e1]; exact hz), fun q h1 h2 => by rw [e1, hk q (Nat.lt_of_lt_of_le h1 hS.1) (fun z => h2 (hA q (Nat.lt_of_lt_of_le h1 hS.1) z))]; exact hS.2.1 q h1 h2, fun q hq => by
      rcases List.mem_append.mp hq with h | h
      · exact hS.2.2 q h
      · exact hf _ (hL q h)⟩⟩
theorem vx_calli {S SX : Type} {post : Int32 → S → Prop} {px : SX → Prop} {B : S → State → Prop} {BX : String → SX → State → Prop} {AX : Nat → Prop} (hr : vx_Run p l e R s m args below meth c H locs cells slots mc ms (F0 m pc ls st0) rest (va_Qi post B A1 a) (vx_X px BX AX) free) (hS : va_S A0 H0 H locs) (hA : ∀ q, q < H.size → A1 q → A0 q) (hf : ∀ q, free q → A0 q) (hAX : ∀ q, q < H.size → AX q → A0 q)
    (kx : ∀ (E : String) (ce : Cell) (q9 : Addr) (u : SX) (t : State) (H1 : Heap) (locs1 : List Loc), t.heap = H1 → s.vm.Alike t.vm → px u → BX E u t → H.size ≤ H1.size → (∀ q : Nat, q < H.size → ¬ AX q → H1[q]? = H[q]?) → va_S A0 H0 H1 locs1 → H1[q9]? = some ce → ce.vm = .none → s.vm.findClass E = some ce.cls → vx_W p l e R s m args below meth c H1 locs1 (cells + mc) (slots + ms) Q (F0 m pc ls rest) q9)
    (kk : ∀ (r : Int32) (u : S) (t : State) (H1 : Heap) (locs1 : List Loc), t.heap = H1 → s.vm.Alike t.vm → post r u → B u t → H.size ≤ H1.size → (∀ q : Nat, q < H.size → ¬ A1 q → H1[q]? = H[q]?) → va_S A0 H0 H1 locs1 → W p l e R s m args below meth c H1 locs1 (cells + mc) (slots + ms) Q (F0 m (pc + 3) ls (.int r :: rest))) : W p l e R s m args below meth c H locs cells slots Q (F0 m pc ls st0) := by
  intro T hT X
  rcases hr T hT X with ⟨v, st₀, t, T', L, h0, X', hL, e1, e2, ⟨⟨r, u, hv, hp, hb⟩, hF⟩, st⟩ | ⟨q, st₀, t, T', L, E, ce, h0, X', hL, e1, e2, ⟨u, hp, hb, hF⟩, hce, hcv, hcl, st⟩
  · cases hv
    obtain ⟨k1, k2, k3⟩ := vx_keep h0 e1 hS hA hf hL hF
    obtain ⟨t2, a1, b1⟩ := kk r u t T'.heap (locs ++ L) e1.symm (by rw [← e2]; exact X'.warmed.alike) hp hb k1 k2 k3 T' rfl X'
    exact ⟨t2, st t2 a1, b1⟩
  · obtain ⟨k1, k2, k3⟩ := vx_keep h0 e1 hS hAX hf hL hF
    obtain ⟨t2, a1, b1⟩ := kx E ce q u t T'.heap (locs ++ L) e1.symm (by rw [← e2]; exact X'.warmed.alike) hp hb k1 k2 k3 (by rw [e1]; exact hce) hcv hcl T' rfl X'
    exact ⟨t2, st.trans a1, b1⟩
theorem vx_calll {S SX : Type} {post : Int64 → S → Prop} {px : SX → Prop} {B : S → State → Prop} {BX : String → SX → State → Prop} {AX : Nat → Prop} (hr : vx_Run p l e R s m args below meth c H locs cells slots mc ms (F0 m pc ls st0) rest (va_Ql post B A1 a) (vx_X px BX AX) free) (hS : va_S A0 H0 H locs) (hA : ∀ q, q < H.size → A1 q → A0 q) (hf : ∀ q, free q → A0 q) (hAX : ∀ q, q < H.size → AX q → A0 q)
    (kx : ∀ (E : String) (ce : Cell) (q9 : Addr) (u : SX) (t : State) (H1 : Heap) (locs1 : List Loc), t.heap = H1 → s.vm.Alike t.vm → px u → BX E u t → H.size ≤ H1.size → (∀ q : Nat, q < H.size → ¬ AX q → H1[q]? = H[q]?) → va_S A0 H0 H1 locs1 → H1[q9]? = some ce → ce.vm = .none → s.vm.findClass E = some ce.cls → vx_W p l e R s m args below meth c H1 locs1 (cells + mc) (slots + ms) Q (F0 m pc ls rest) q9)
    (kk : ∀ (r : Int64) (u : S) (t : State) (H1 : Heap) (locs1 : List Loc), t.heap = H1 → s.vm.Alike t.vm → post r u → B u t → H.size ≤ H1.size → (∀ q : Nat, q < H.size → ¬ A1 q → H1[q]? = H[q]?) → va_S A0 H0 H1 locs1 → W p l e R s m args below meth c H1 locs1 (cells + mc) (slots + ms) Q (F0 m (pc + 3) ls (.long r :: rest))) : W p l e R s m args below meth c H locs cells slots Q (F0 m pc ls st0) := by
  intro T hT X
  rcases hr T hT X with ⟨v, st₀, t, T', L, h0, X', hL, e1, e2, ⟨⟨r, u, hv, hp, hb⟩, hF⟩, st⟩ | ⟨q, st₀, t, T', L, E, ce, h0, X', hL, e1, e2, ⟨u, hp, hb, hF⟩, hce, hcv, hcl, st⟩
  · cases hv
    obtain ⟨k1, k2, k3⟩ := vx_keep h0 e1 hS hA hf hL hF
    obtain ⟨t2, a1, b1⟩ := kk r u t T'.heap (locs ++ L) e1.symm (by rw [← e2]; exact X'.warmed.alike) hp hb k1 k2 k3 T' rfl X'
    exact ⟨t2, st t2 a1, b1⟩
  · obtain ⟨k1, k2, k3⟩ := vx_keep h0 e1 hS hAX hf hL hF
    obtain ⟨t2, a1, b1⟩ := kx E ce q u t T'.heap (locs ++ L) e1.symm (by rw [← e2]; exact X'.warmed.alike) hp hb k1 k2 k3 (by rw [e1]; exact hce) hcv hcl T' rfl X'
    exact ⟨t2, st.trans a1, b1⟩
theorem vx_callf {S SX : Type} {post : UInt32 → S → Prop} {px : SX → Prop} {B : S → State → Prop} {BX : String → SX → State → Prop} {AX : Nat → Prop} (hr : vx_Run p l e R s m args below meth c H locs cells slots mc ms (F0 m pc ls st0) rest (va_Qf post B A1 a) (vx_X px BX AX) free) (hS : va_S A0 H0 H locs) (hA : ∀ q, q < H.size → A1 q → A0 q) (hf : ∀ q, free q → A0 q) (hAX : ∀ q, q < H.size → AX q → A0 q)
    (kx : ∀ (E : String) (ce : Cell) (q9 : Addr) (u : SX) (t : State) (H1 : Heap) (locs1 : List Loc), t.heap = H1 → s.vm.Alike t.vm → px u → BX E u t → H.size ≤ H1.size → (∀ q : Nat, q < H.size → ¬ AX q → H1[q]? = H[q]?) → va_S A0 H0 H1 locs1 → H1[q9]? = some ce → ce.vm = .none → s.vm.findClass E = some ce.cls → vx_W p l e R s m args below meth c H1 locs1 (cells + mc) (slots + ms) Q (F0 m pc ls rest) q9)
    (kk : ∀ (r : UInt32) (u : S) (t : State) (H1 : Heap) (locs1 : List Loc), t.heap = H1 → s.vm.Alike t.vm → post r u → B u t → H.size ≤ H1.size → (∀ q : Nat, q < H.size → ¬ A1 q → H1[q]? = H[q]?) → va_S A0 H0 H1 locs1 → W p l e R s m args below meth c H1 locs1 (cells + mc) (slots + ms) Q (F0 m (pc + 3) ls (.float r :: rest))) : W p l e R s m args below meth c H locs cells slots Q (F0 m pc ls st0) := by
  intro T hT X
  rcases hr T hT X with ⟨v, st₀, t, T', L, h0, X', hL, e1, e2, ⟨⟨r, u, hv, hp, hb⟩, hF⟩, st⟩ | ⟨q, st₀, t, T', L, E, ce, h0, X', hL, e1, e2, ⟨u, hp, hb, hF⟩, hce, hcv, hcl, st⟩
  · cases hv
    obtain ⟨k1, k2, k3⟩ := vx_keep h0 e1 hS hA hf hL hF
    obtain ⟨t2, a1, b1⟩ := kk r u t T'.heap (locs ++ L) e1.symm (by rw [← e2]; exact X'.warmed.alike) hp hb k1 k2 k3 T' rfl X'
    exact ⟨t2, st t2 a1, b1⟩
  · obtain ⟨k1, k2, k3⟩ := vx_keep h0 e1 hS hAX hf hL hF
    obtain ⟨t2, a1, b1⟩ := kx E ce q u t T'.heap (locs ++ L) e1.symm (by rw [← e2]; exact X'.warmed.alike) hp hb k1 k2 k3 (by rw [e1]; exact hce) hcv hcl T' rfl X'
    exact ⟨t2, st.trans a1, b1⟩
theorem vx_calld {S SX : Type} {post : UInt64 → S → Prop} {px : SX → Prop} {B : S → State → Prop} {BX : String → SX → State → Prop} {AX : Nat → Prop} (hr : vx_Run p l e R s m args below meth c H locs cells slots mc ms (F0 m pc ls st0) rest (va_Qd post B A1 a) (vx_X px BX AX) free) (hS : va_S A0 H0 H locs) (hA : ∀ q, q < H.size → A1 q → A0 q) (hf : ∀ q, free q → A0 q) (hAX : ∀ q, q < H.size → AX q → A0 q)
    (kx : ∀ (E : String) (ce : Cell) (q9 : Addr) (u : SX) (t : State) (H1 : Heap) (locs1 : List Loc), t.heap = H1 → s.vm.Alike t.vm → px u → BX E u t → H.size ≤ H1.size → (∀ q : Nat, q < H.size → ¬ AX q → H1[q]? = H[q]?) → va_S A0 H0 H1 locs1 → H1[q9]? = some ce → ce.vm = .none → s.vm.findClass E = some ce.cls → vx_W p l e R s m args below meth c H1 locs1 (cells + mc) (slots + ms) Q (F0 m pc ls rest) q9)
    (kk : ∀ (r : UInt64) (u : S) (t : State) (H1 : Heap) (locs1 : List Loc), t.heap = H1 → s.vm.Alike t.vm → post r u → B u t → H.size ≤ H1.size → (∀ q : Nat, q < H.size → ¬ A1 q → H1[q]? = H[q]?) → va_S A0 H0 H1 locs1 → W p l e R s m args below meth c H1 locs1 (cells + mc) (slots + ms) Q (F0 m (pc + 3) ls (.double r :: rest))) : W p l e R s m args below meth c H locs cells slots Q (F0 m pc ls st0) := by
  intro T hT X
  rcases hr T hT X with ⟨v, st₀, t, T', L, h0, X', hL, e1, e2, ⟨⟨r, u, hv, hp, hb⟩, hF⟩, st⟩ | ⟨q, st₀, t, T', L, E, ce, h0, X', hL, e1, e2, ⟨u, hp, hb, hF⟩, hce, hcv, hcl, st⟩
  · cases hv
    obtain ⟨k1, k2, k3⟩ := vx_keep h0 e1 hS hA hf hL hF
    obtain ⟨t2, a1, b1⟩ := kk r u t T'.heap (locs ++ L) e1.symm (by rw [← e2]; exact X'.warmed.alike) hp hb k1 k2 k3 T' rfl X'
    exact ⟨t2, st t2 a1, b1⟩
  · obtain ⟨k1, k2, k3⟩ := vx_keep h0 e1 hS hAX hf hL hF
    obtain ⟨t2, a1, b1⟩ := kx E ce q u t T'.heap (locs ++ L) e1.symm (by rw [← e2]; exact X'.warmed.alike) hp hb k1 k2 k3 (by rw [e1]; exact hce) hcv hcl T' rfl X'
    exact ⟨t2, st.trans a1, b1⟩
theorem vx_callv {S SX : Type} {post : S → Prop} {px : SX → Prop} {B : S → State → Prop} {BX : String → SX → State → Prop} {AX : Nat → Prop} (hr : vx_Run p l e R s m args below meth c H locs cells slots mc ms (F0 m pc ls st0) rest (va_Qv post B A1 a) (vx_X px BX AX) free) (hS : va_S A0 H0 H locs) (hA : ∀ q, q < H.size → A1 q → A0 q) (hf : ∀ q, free q → A0 q) (hAX : ∀ q, q < H.size → AX q → A0 q)
    (kx : ∀ (E : String) (ce : Cell) (q9 : Addr) (u : SX) (t : State) (H1 : Heap) (locs1 : List Loc), t.heap = H1 → s.vm.Alike t.vm → px u → BX E u t → H.size ≤ H1.size → (∀ q : Nat, q < H.size → ¬ AX q → H1[q]? = H[q]?) → va_S A0 H0 H1 locs1 → H1[q9]? = some ce → ce.vm = .none → s.vm.findClass E = some ce.cls → vx_W p l e R s m args below meth c H1 locs1 (cells + mc) (slots + ms) Q (F0 m pc ls rest) q9)
    (kk : ∀ (u : S) (t : State) (H1 : Heap) (locs1 : List Loc), t.heap = H1 → s.vm.Alike t.vm → post u → B u t → H.size ≤ H1.size → (∀ q : Nat, q < H.size → ¬ A1 q → H1[q]? = H[q]?) → va_S A0 H0 H1 locs1 → W p l e R s m args below meth c H1 locs1 (cells + mc) (slots + ms) Q (F0 m (pc + 3) ls (rest))) : W p l e R s m args below meth c H locs cells slots Q (F0 m pc ls st0) := by
  intro T hT X
  rcases hr T hT X with ⟨v, st₀, t, T', L, h0, X', hL, e1, e2, ⟨⟨u, hv, hp, hb⟩, hF⟩, st⟩ | ⟨q, st₀, t, T', L, E, ce, h0, X', hL, e1, e2, ⟨u, hp, hb, hF⟩, hce, hcv, hcl, st⟩
  · cases hv
    obtain ⟨k1, k2, k3⟩ := vx_keep h0 e1 hS hA hf hL hF
    obtain ⟨t2, a1, b1⟩ := kk u t T'.heap (locs ++ L) e1.symm (by rw [← e2]; exact X'.warmed.alike) hp hb k1 k2 k3 T' rfl X'
    exact ⟨t2, st t2 a1, b1⟩
  · obtain ⟨k1, k2, k3⟩ := vx_keep h0 e1 hS hAX hf hL hF
    obtain ⟨t2, a1, b1⟩ := kx E ce q u t T'.heap (locs ++ L) e1.symm (by rw [← e2]; exact X'.warmed.alike) hp hb k1 k2 k3 (by rw [e1]; exact hce) hcv hcl T' rfl X'
    exact ⟨t2, st.trans a1, b1⟩
end Rows
section Ends
variable {p : Program} {l : Launch} {e : Env} {R : Room} {s : State} {m : MethodId} {args : Array Value} {below : List Frame} {meth : Method} {c : Code} {H : Heap} {locs : List Loc} {cells slots : Nat} {Q : State → Prop}
variable {mc ms : Nat} {free : Addr → Prop} {A0 A1 : Nat → Prop} {H0 : Heap} {a : Array Value} {ls : Array Slot} {st0 rest : List Value}
variable {Qc : Array Value → State → Outcome → State → Prop} {XC : String → State → State → Prop}
def vx_MQ (below : List Frame) (Qc : Array Value → State → Outcome → State → Prop) (XC : String → State → State → Prop) (a : Array Value) (s : State) (mc ms : Nat) (free : Addr → Prop) : State → Prop := fun t =>
  ∃ o, t.status = .running ∧ Ended t below o ∧ vx_Q Qc XC mc ms free a s o t
theorem vx_ret {g : JFrame} {mc ms : Nat} (k : W p l e R s m args below meth c H locs cells slots (MQ below Qc args s mc ms free) g) : W p l e R s m args below meth c H locs cells slots (vx_MQ below Qc XC args s mc ms free) g := by
  intro T hT X
  obtain ⟨t, a1, o, b1, b2, b3, b4⟩ := k T hT X
  exact ⟨t, a1, o, b1, b2, Or.inl ⟨b3, b4⟩⟩
theorem vx_widen {g : JFrame} {q : Addr} {k n : Nat} (h1 : cells ≤ k) (h2 : slots ≤ n) (kk : vx_W p l e R s m args below meth c H locs k n Q g q) : vx_W p l e R s m args below meth c H locs cells slots Q g q := fun T hT X => kk T hT (stand_widen X h1 h2)
theorem vx_out {pc : Nat} {E : String} {ce : Cell} {q : Addr} {mc ms : Nat} (hout : ∀ x ∈ c.exceptionTable.toList, covers x pc = false) (hlocks : meth.locks = false) (hcell : H[q]? = some ce) (hv : ce.vm = .none) (hcl : s.vm.findClass E = some ce.cls)
    (hx : ∀ t : State, t.heap = H → s.vm.Alike t.vm → XC E s t) (hf : ∀ z ∈ locs, free z.base) (hc : cells ≤ mc) (hs : slots ≤ ms) :
    vx_W p l e R s m args below meth c H locs cells slots (vx_MQ below Qc XC args s mc ms free) (F0 m pc ls rest) q := by
  intro T hT X
  obtain ⟨st1, hrun, hend, hW, hsm⟩ := X.leaveThrown q (g := F0 m pc ls rest) rfl rfl rfl hout hlocks
  have hcell9 : (T.setFrames (.throwing q :: below)).heap[q]? = some ce := by
    show T.heap[q]? = some ce
    rw [hT]; exact hcell
  exact ⟨_, st1, .threw q, hrun, hend, Or.inr ⟨q, rfl, E, ce, locs, hx _ hT hW.alike, hcell9, hv, hcl, hW, hsm.mono hc hs, hf⟩⟩
theorem vx_frame {U : State} {k n : Nat} (h : s.sameButNew ({ U with vm := s.vm } : State) locs k n) : s.heap.size ≤ U.heap.size ∧ ∀ q : Nat, q < s.heap.size → (∀ z ∈ locs, z.base ≠ q) → U.heap[q]? = s.heap[q]? := by
  obtain ⟨-, h2, -, -, -, h6⟩ := h
  refine ⟨h2, fun q hq hz => ?_⟩
  obtain ⟨c9, e1, e2, e3, e4⟩ := h6 q _ (Array.getElem?_eq_getElem hq)
  have hs : c9.slots = (s.heap[q]).slots := Array.ext_getElem? fun i => e4 i fun hm => hz _ hm rfl
  have h9 : c9 = s.heap[q] := by
    rw [hs] at e2
    exact e2
  have e5 : U.heap[q]? = some c9 := e1
  rw [e5, h9, Array.getElem?_eq_getElem hq]
def vx_no (w : Cond) : Bool := decide (w ≠ .isRef (.static Bundle.tN "UNASSIGNED_STACK" Bundle.steD)) && decide (w ≠ .isRef (.static Bundle.tN "SUPPRESSED_SENTINEL" Bundle.listD)) && decide (w ≠ .laysStatic Bundle.tN "UNASSIGNED_STACK" Bundle.steD) && decide (w ≠ .laysStatic Bundle.tN "SUPPRESSED_SENTINEL" Bundle.listD)
def vx_at0 (own : String) (ic : Nat) (X : String) (names : List String) : List Cond := (Bundle.ownAtoms0 own ic X names).filter vx_no
def vx_atS (own : String) (ic : Nat) (X : String) (names : List String) : List Cond := (Bundle.ownAtoms own ic X names).filter vx_no
def vx_ot (w : Cond) : Bool := w.onTables || goodWord w
theorem vx_ot_at {args a' : Array Value} {s U : State} {w : Cond} (hW : s.WarmedH U.vm) (hvm : s.vm = U.vm) (hg : vx_ot w = true) (h : w.before args s = true) : w.before a' U = true := by
  simp only [vx_ot, Bool.or_eq_true] at hg
  rcases hg with hg | hg
  · exact va_tabs hg hvm h
  · exact word_at hW (good_of_word hg) h
theorem vx_hat {args : Array Value} {s : State} {L B : List Cond} (h1 : ∀ w ∈ L.filter goodWord, w.before args s = true) (h2 : ∀ w ∈ L.filter (fun w => !goodWord w), w ∈ B) (h3 : ∀ w ∈ B, w.before args s = true) : ∀ w ∈ L, w.before args s = true := by
  intro w hw
  by_cases g : goodWord w = true
  · exact h1 w (List.mem_filter.mpr ⟨hw, g⟩)
  · refine h3 w (h2 w (List.mem_filter.mpr ⟨hw, ?_⟩))
    show (!goodWord w) = true
    cases hgw : goodWord w
    · rfl
    · exact absurd hgw g
theorem vx_c {args : Array Value} {s : State} {w : Cond} {B : List Cond} (h : w.before args s = true) (t : ∀ w ∈ B, w.before args s = true) : ∀ w' ∈ w :: B, w'.before args s = true := fun w' h' => (List.mem_cons.mp h').elim (fun e => by rw [e]; exact h) (t w')
theorem vx_n {args : Array Value} {s : State} : ∀ w ∈ ([] : List Cond), w.before args s = true := fun _ h => nomatch h
theorem vx_own {args : Array Value} {s : State} {L : List Cond} (h1 : ∀ w ∈ L.filter vx_no, w.before args s = true)
    (hU : (Cond.isRef (.static Bundle.tN "UNASSIGNED_STACK" Bundle.steD)).before args s = true) (hN : (Cond.isRef (.static Bundle.tN "SUPPRESSED_SENTINEL" Bundle.listD)).before args s = true)
    (lU : (Cond.laysStatic Bundle.tN "UNASSIGNED_STACK" Bundle.steD).before args s = true) (lN : (Cond.laysStatic Bundle.tN "SUPPRESSED_SENTINEL" Bundle.listD).before args s = true) : ∀ w ∈ L, w.before args s = true := by
  intro w hw
  by_cases e1 : w = .isRef (.static Bundle.tN "UNASSIGNED_STACK" Bundle.steD)
  · rw [e1]; exact hU
  · by_cases e2 : w = .isRef (.static Bundle.tN "SUPPRESSED_SENTINEL" Bundle.listD)
    · rw [e2]; exact hN
    · by_cases e3 : w = .laysStatic Bundle.tN "UNASSIGNED_STACK" Bundle.steD
      · rw [e3]; exact lU
      · by_cases e4 : w = .laysStatic Bundle.tN "SUPPRESSED_SENTINEL" Bundle.listD
        · rw [e4]; exact lN
        · exact h1 w (List.mem_filter.mpr ⟨hw, by unfold vx_no; rw [decide_eq_true e1, decide_eq_true e2, decide_eq_true e3, decide_eq_true e4]; rfl⟩)
def vx_L (C n d : String) (A : Nat → Prop) (U : State) (H : Heap) : Prop := ∃ (c : ClassId) (k : Class) (i : Nat) (f : Field) (a : Nat) (cell : Cell), U.vm.findClass C = some c ∧ U.fieldFound? C n d = some (c, k, i, f) ∧ f.isStatic = true ∧ k.statics = some a ∧ H[a]? = some cell ∧ cell.vm.isStatics = true ∧ cell.cls = c ∧ f.slot < cell.slots.size ∧ k.staticTypes[f.slot]? = some f.type ∧ ¬ A a
theorem vx_L.moved {C n d : String} {A : Nat → Prop} {u U : State} {H : Heap} (hvm : u.vm.Alike U.vm) (h : vx_L C n d A u H) : vx_L C n d A U H := by
  obtain ⟨c, k, i, f, a, cell, h1, h2, h3, h4, h5, h6, h7, h8, h9, h10⟩ := h
  obtain ⟨k', hi', he⟩ := State.fieldFound?_setVm hvm h2
  exact ⟨c, k', i, f, a, cell, by rw [hvm.findClass]; exact h1, hi', h3, by rw [he]; exact h4, h5, h6, h7, h8, by rw [he]; exact h9, h10⟩
theorem vx_L.kept {C n d : String} {A : Nat → Prop} {U : State} {H H1 : Heap} (h : vx_L C n d A U H) (hq : ∀ a : Nat, a < H.size → ¬ A a → H1[a]? = H[a]?) : vx_L C n d A U H1 := by
  obtain ⟨c, k, i, f, a, cell, h1, h2, h3, h4, h5, h6, h7, h8, h9, h10⟩ := h
  exact ⟨c, k, i, f, a, cell, h1, h2, h3, h4, by rw [hq a (Array.getElem?_eq_some_iff.mp h5).1 h10]; exact h5, h6, h7, h8, h9, h10⟩
theorem vx_L.narrow {C n d : String} {A B : Nat → Prop} {U : State} {H : Heap} (h : vx_L C n d A U H) (hAB : ∀ q, B q → A q) : vx_L C n d B U H := by
  obtain ⟨c, k, i, f, a, cell, h1, h2, h3, h4, h5, h6, h7, h8, h9, h10⟩ := h
  exact ⟨c, k, i, f, a, cell, h1, h2, h3, h4, h5, h6, h7, h8, h9, fun z => h10 (hAB _ z)⟩
theorem vx_L.word {C n d : String} {A : Nat → Prop} {s : State} {args : Array Value} (h : vx_L C n d A s s.heap) : (Cond.laysStatic C n d).before args s = true := by
  obtain ⟨c, k, i, f, a, cell, h1, h2, h3, h4, h5, h6, h7, h8, h9, -⟩ := h
  show (Cond.laysStatic C n d).holds args s none s [] = true
  exact Cond.laysStatic_of h1 h2 h3 h4 h5 h6 h7 h8 h9
def vx_Zq (C n d : String) (A : Nat → Prop) (U : State) (H : Heap) : Prop := va_Zq C n d A U H ∧ vx_L C n d A U H
theorem vx_Zq.moved {C n d : String} {A : Nat → Prop} {u U : State} {H : Heap} (hvm : u.vm.Alike U.vm) (h : vx_Zq C n d A u H) : vx_Zq C n d A U H := ⟨va_Zq.moved hvm h.1, vx_L.moved hvm h.2⟩
theorem vx_Zq.kept {C n d : String} {A : Nat → Prop} {U : State} {H H1 : Heap} (h : vx_Zq C n d A U H) (hq : ∀ a : Nat, a < H.size → ¬ A a → H1[a]? = H[a]?) : vx_Zq C n d A U H1 := ⟨va_Zq.kept h.1 hq, vx_L.kept h.2 hq⟩
theorem vx_Zq.narrow {C n d : String} {A B : Nat → Prop} {U : State} {H : Heap} (h : vx_Zq C n d A U H) (hAB : ∀ q, B q → A q) : vx_Zq C n d B U H := ⟨va_Zq.narrow h.1 hAB, vx_L.narrow h.2 hAB⟩
theorem vx_Zqof {args : Array Value} {s : State} {C n d : String} {A : Nat → Prop} (hl : (Cond.laysStatic C n d).before args s = true) (hini : (Cond.initialized C).before args s = true) (h : (Cond.isRef (.static C n d)).before args s = true) (hA : ∀ a : Nat, a < s.heap.size → ¬ A a) : vx_Zq C n d A s s.heap := by
  refine ⟨va_Zqof hl hini h hA, ?_⟩
  obtain ⟨c, k, i, f, a, cell, h1, h2, h3, h4, h5, h6, h7, h8, h9⟩ := Cond.laysStatic_spec hl
  exact ⟨c, k, i, f, a, cell, h1, h2, h3, h4, h5, h6, h7, h8, h9, hA a (Array.getElem?_eq_some_iff.mp h5).1⟩
theorem vx_isRef {C n d : String} {v : Value} {A : Nat → Prop} {s : State} {args : Array Value} (h : va_Z C n d v A s s.heap) (hv : v.isRef = true) : (Cond.isRef (.static C n d)).before args s = true := by
  obtain ⟨cf, kf, fi, f, a, cell, h1, h2, h3, h4, h5, h6, h7, -⟩ := h
  have he : (Term.static C n d).eval args s none [] s = some v := by
    simp [Term.eval, State.fieldNamed?, h1, h2, h4, h5, h6, h7]
  simp only [Cond.before, Cond.holds, Cond.value, he]
  cases v <;> simp_all [Value.isRef]
theorem vx_isRefq {C n d : String} {A : Nat → Prop} {s : State} {args : Array Value} (h : va_Zq C n d A s s.heap) : (Cond.isRef (.static C n d)).before args s = true := by
  rcases h with h | ⟨t, h⟩
  · exact vx_isRef h rfl
  · exact vx_isRef h rfl
theorem vx_rebase {T : State} (X : Stand p l e R s m args below meth c T locs cells slots) {R' : Room} (hf : R'.frames ≤ R.frames) (hl : R'.locals ≤ R.locals) (hc : cells + R'.cells ≤ R.cells) (hs : slots + R'.slots ≤ R.slots) :
    Stand p l e R' ((T.setVm s.vm).setFrames (.invoking m args :: below)) m args below meth c T [] 0 0 := by
  have htop : (T.setVm s.vm).topJava?.isSome := X.here.top
  have hF : ((T.setVm s.vm).setFrames (.invoking m args :: below)).frames = .invoking m args :: below := State.frames_setFrames _ (State.cur_lt_of_top htop)
  obtain ⟨g₀, hg0⟩ := Option.isSome_iff_exists.mp htop
  obtain ⟨r, hr⟩ := State.topJava?_eq_some.mp hg0
  have hl9 : e.platform.stackLimits (T.setVm s.vm).me = e.platform.stackLimits s.me := X.limits
  have hb9 : (T.setVm s.vm).me.stackBytes = s.me.stackBytes := X.bytes
  refine ⟨X.admits, X.cas, X.clock, hF, ?_, X.hears, X.method, X.code, X.here, X.tail, X.warmed, ?_, ?_, ?_⟩
  · have h := X.room
    have hU : ((T.setVm s.vm).setFrames (.invoking m args :: below)).localsInUse = s.localsInUse := by
      rw [State.localsInUse_invoking hF (meth := meth) (c := c) X.method X.code, State.localsInUse_invoking X.frames X.method X.code]
    simp only [State.hasRoom, Bool.and_eq_true, decide_eq_true_eq] at h ⊢
    obtain ⟨⟨⟨⟨h1, h2, h3, h4, h5, h6⟩, h7⟩, h8⟩, h9⟩ := h
    rw [X.frames, List.length_cons] at h2 h3
    have q1 := X.heapSize
    have q2 := X.used
    simp only [hF, hU, List.length_cons, State.stackLimits_setFrames, State.stackBytes_setFrames, hl9, hb9]
    refine ⟨⟨⟨⟨by omega, by omega, by omega, by omega, by omega, h6⟩, ?_⟩, ?_⟩, X.book⟩
    · show T.heap.size + R'.cells ≤ e.platform.maxCells
      omega
    · show T.slotsUsed + R'.slots ≤ e.platform.maxSlots
      omega
  · rw [State.stackLimits_setFrames]; rfl
  · rw [State.stackBytes_setFrames]; rfl
  · refine ⟨?_, Nat.le_refl _, Nat.le_refl _, ?_, ?_, fun a c9 h9 => ⟨c9, h9, rfl, rfl, fun _ _ => rfl⟩⟩
    · obtain ⟨t, ht, -⟩ := State.frames_cons hr
      show T.setVm s.vm = { ((T.setVm s.vm).setFrames (.invoking m args :: below)).setFrames (T.setVm s.vm).frames with heap := T.heap, slotsUsed := T.slotsUsed }
      rw [State.setFrames_setFrames, State.setFrames_self ht]
      rfl
    · show T.slotsUsed = T.slotsUsed + ((T.heap.toList.drop T.heap.size).map (·.slots.size)).sum
      rw [List.drop_eq_nil_of_le (Nat.le_of_eq Array.length_toList)]
      rfl
    · show ((T.heap.toList.drop T.heap.size).map (·.slots.size)).sum ≤ 0
      rw [List.drop_eq_nil_of_le (Nat.le_of_eq Array.length_toList)]
      exact Nat.le_refl _
theorem vx_throw0 {cc : ByteArray} {pc : Nat} (hexec : p.tables.exec = Jvm.exec) (hb : c.code = cc) (hl : l.stackTraces = false) {own cls : String} {names : List String} {ik ic mc ms : Nat} {A : Nat → Prop}
    (hown : s.vm.findClass own = some m.cls) (hcls : Bundle.fit cls = true) (hnames : ∀ n ∈ names, Bundle.fit n = true)
    (hk : (Cond.classLink own ik cls).before args s = true) (hini : (Cond.initialized cls).before args s = true) (hat : ∀ w ∈ vx_at0 own ic cls names, w.before args s = true)
    (hgood : ∀ w ∈ Cond.classLink own ik cls :: Cond.initialized cls :: vx_at0 own ic cls names, vx_ot w = true)
    (hU : vx_Zq Bundle.tN "UNASSIGNED_STACK" Bundle.steD A s s.heap) (hN : vx_Zq Bundle.tN "SUPPRESSED_SENTINEL" Bundle.listD A s s.heap) (hS : va_S A s.heap H locs) (hsize : ls.size = c.maxLocals)
    (d0 : decode cc pc = .ok (.new ik, 3)) (d3 : decode cc (pc + 3) = .ok (.dup, 1)) (d4 : decode cc (pc + 4) = .ok (.invokespecial ic, 3)) (d7 : decode cc (pc + 7) = .ok (.athrow, 1))
    (hout : ∀ x ∈ c.exceptionTable.toList, covers x (pc + 7) = false)
    (hRframes : names.length + 3 < R.frames) (hRlocals : (rest.map fun v => v.category).sum + (13 * (names.length + 1) + 42) ≤ R.locals) (hRcells : cells + 1 ≤ R.cells) (hRslots : slots + 6 ≤ R.slots) (hlocks : meth.locks = false)
    (hx : ∀ t : State, s.vm.Alike t.vm → H.size ≤ t.heap.size → (∀ q : Nat, q < H.size → t.heap[q]? = H[q]?) → XC cls s t)
    (hf : ∀ z ∈ locs, free z.base) (hc : cells + 1 ≤ mc) (hs : slots + 6 ≤ ms) :
    W p l e R s m args below meth c H locs cells slots (vx_MQ below Qc XC args s mc ms free) (F0 m pc ls rest) := by
  intro T hT X
  have htr : e.platform.stackTraces = false := (show e.platform.stackTraces = l.stackTraces by rw [X.admits.platform]).trans hl
  have Y := vx_rebase X (R' := { frames := R.frames, locals := R.locals, cells := 1, slots := 6 }) (Nat.le_refl _) (Nat.le_refl _) hRcells hRslots
  obtain ⟨s', hA⟩ : ∃ z, z = (T.setVm s.vm).setFrames (.invoking m args :: below) := ⟨_, rfl⟩
  rw [← hA] at Y
  have hvm : s'.vm = s.vm := by rw [hA]; rfl
  have hhp : s'.heap = H := by rw [hA]; exact hT
  have hW0 : s.WarmedH s'.vm := by rw [hvm]; exact State.WarmedH.refl s
  have hat' : ∀ w ∈ vx_at0 own ic cls names, w.before args s' = true := fun w hw => vx_ot_at hW0 hvm.symm (hgood w (List.mem_cons_of_mem _ (List.mem_cons_of_mem _ hw))) (hat w hw)
  have hk' : (Cond.classLink own ik cls).before args s' = true := vx_ot_at hW0 hvm.symm (hgood _ List.mem_cons_self) hk
  have hini' : (Cond.initialized cls).before args s' = true := vx_ot_at hW0 hvm.symm (hgood _ (List.mem_cons_of_mem _ List.mem_cons_self)) hini
  have hU' : vx_Zq Bundle.tN "UNASSIGNED_STACK" Bundle.steD A s' s'.heap := by rw [hhp]; exact vx_Zq.moved hW0.alike (hU.kept hS.2.1)
  have hN' : vx_Zq Bundle.tN "SUPPRESSED_SENTINEL" Bundle.listD A s' s'.heap := by rw [hhp]; exact vx_Zq.moved hW0.alike (hN.kept hS.2.1)
  have h : ∀ w ∈ Bundle.ownAtoms0 own ic cls names, w.before args s' = true := vx_own hat' (vx_isRefq hU'.1) (vx_isRefq hN'.1) hU'.2.word hN'.2.word
  have hown' : s'.vm.findClass own = some m.cls := by rw [hvm]; exact hown
  have hins : (Cond.instantiable cls 6).before args s' = true := h _ (by simp [Bundle.ownAtoms0])
  obtain ⟨vm₁, cX, kX, hfX, hkX, -, -, X₁, st1⟩ := Y.newCold hexec (own := own) (C := cls) (index := ik) (n := 6) hown' hk' hins hini'
    (g := F0 m pc ls rest) rfl (by rw [hb]; exact d0) (Nat.le_refl _) (Nat.le_refl _)
  generalize hT1 : (T.setVm vm₁).pushCell { cls := cX, slots := kX.instanceTypes.map defaultValue, vm := .none } = T1 at X₁ st1
  have hcat : (Value.ref T.heap.size).category = 1 := rfl
  have hcellA : T1.heap[T.heap.size]? = some (freshCell cX kX) := by rw [← hT1]; exact State.heap_pushCell_size _ _
  have d3' : decode c.code (pc + 3) = .ok (.dup, 1) := by rw [hb]; exact d3
  obtain ⟨U, hsteps, hrun, hend, hW, hsame, ce, hce, hO⟩ := X₁.ctorThrow0 hexec htr (own := own) (cls := cls) (names := names) (ic := ic) hown' hcls hnames h (fun x hx => nomatch hx) hfX hkX hcellA (by rw [hhp, hT]; exact Nat.le_refl _)
    (g := { method := m, pc := pc + 4, locals := ls, stack := .ref T.heap.size :: .ref T.heap.size :: rest, locked := none }) rfl hsize rfl rfl (rest := rest) rfl
    (by rw [hb]; exact d4) (by rw [hb]; exact d7) hout hRframes (by simp only [List.map_cons, List.sum_cons, hcat]; omega) hlocks
  obtain ⟨f1, f2⟩ := vx_frame hsame
  rw [hhp] at f1 f2
  have hWs : s.WarmedH U.vm := State.WarmedH.trans hW0 hW
  have hcl : s.vm.findClass cls = some ce.cls := by
    have h9 := hO.cls
    rw [hvm] at h9
    exact h9
  have hall : s.sameButNew ({ U with vm := s.vm } : State) locs mc ms := by
    subst hA
    obtain ⟨e1, e2⟩ := hsame
    rw [State.setFrames_setFrames] at e1
    have h2 : (T.setVm s.vm).sameButNew ({ U with vm := s.vm } : State) [] (0 + 1) (0 + 6) := ⟨e1, e2⟩
    have h3 := X.same.trans h2
    rw [List.append_nil] at h3
    exact h3.mono hc hs
  refine ⟨U, ?_, .threw T.heap.size, hrun, hend, Or.inr ⟨T.heap.size, rfl, cls, ce, locs, hx U hWs.alike f1 (fun q hq => f2 q hq (fun z hz => nomatch hz)), hce, hO.vm, hcl, hWs, hall, hf⟩⟩
  refine st1 _ ?_
  show Steps p.tables e below (T1.setTop { method := m, pc := pc + 3, locals := ls, stack := .ref T.heap.size :: rest, locked := none }) _
  jvm_step X₁.here [X₁.here.top, hexec, d3', Value.category]
  exact hsteps
theorem vx_throwS {cc : ByteArray} {pc : Nat} (hexec : p.tables.exec = Jvm.exec) (hb : c.code = cc) (hl : l.stackTraces = false) {own cls text : String} {names : List String} {ik is ic mc ms sa : Nat} {A : Nat → Prop}
    (hown : s.vm.findClass own = some m.cls) (hcls : Bundle.fit cls = true) (hnames : ∀ n ∈ names, Bundle.fit n = true)
    (hk : (Cond.classLink own ik cls).before args s = true) (hini : (Cond.initialized cls).before args s = true) (hstr : vk_R own is text sa s) (hat : ∀ w ∈ vx_atS own ic cls names, w.before args s = true)
    (hgood : ∀ w ∈ Cond.classLink own ik cls :: Cond.initialized cls :: vx_atS own ic cls names, vx_ot w = true)
    (hU : vx_Zq Bundle.tN "UNASSIGNED_STACK" Bundle.steD A s s.heap) (hN : vx_Zq Bundle.tN "SUPPRESSED_SENTINEL" Bundle.listD A s s.heap) (hS : va_S A s.heap H locs) (hsize : ls.size = c.maxLocals)
    (d0 : decode cc pc = .ok (.new ik, 3)) (d3 : decode cc (pc + 3) = .ok (.dup, 1)) (d4 : decode cc (pc + 4) = .ok (.ldc is, 2)) (d6 : decode cc (pc + 6) = .ok (.invokespecial ic, 3)) (d9 : decode cc (pc + 9) = .ok (.athrow, 1))
    (hout : ∀ x ∈ c.exceptionTable.toList, covers x (pc + 9) = false)
    (hRframes : names.length + 3 < R.frames) (hRlocals : (rest.map fun v => v.category).sum + (13 * (names.length + 1) + 43) ≤ R.locals) (hRcells : cells + 1 ≤ R.cells) (hRslots : slots + 6 ≤ R.slots) (hlocks : meth.locks = false)
    (hx : ∀ t : State, s.vm.Alike t.vm → H.size ≤ t.heap.size → (∀ q : Nat, q < H.size → t.heap[q]? = H[q]?) → XC cls s t)
    (hf : ∀ z ∈ locs, free z.base) (hc : cells + 1 ≤ mc) (hs : slots + 6 ≤ ms) :
    W p l e R s m args below meth c H locs cells slots (vx_MQ below Qc XC args s mc ms free) (F0 m pc ls rest) := by
  intro T hT X
  have htr : e.platform.stackTraces = false := (show e.platform.stackTraces = l.stackTraces by rw [X.admits.platform]).trans hl
  have Y := vx_rebase X (R' := { frames := R.frames, locals := R.locals, cells := 1, slots := 6 }) (Nat.le_refl _) (Nat.le_refl _) hRcells hRslots
  obtain ⟨s', hA⟩ : ∃ z, z = (T.setVm s.vm).setFrames (.invoking m args :: below) := ⟨_, rfl⟩
  rw [← hA] at Y
  have hvm : s'.vm = s.vm := by rw [hA]; rfl
  have hhp : s'.heap = H := by rw [hA]; exact hT
  have hW0 : s.WarmedH s'.vm := by rw [hvm]; exact State.WarmedH.refl s
  have hat' : ∀ w ∈ vx_atS own ic cls names, w.before args s' = true := fun w hw => vx_ot_at hW0 hvm.symm (hgood w (List.mem_cons_of_mem _ (List.mem_cons_of_mem _ hw))) (hat w hw)
  have hk' : (Cond.classLink own ik cls).before args s' = true := vx_ot_at hW0 hvm.symm (hgood _ List.mem_cons_self) hk
  have hini' : (Cond.initialized cls).before args s' = true := vx_ot_at hW0 hvm.symm (hgood _ (List.mem_cons_of_mem _ List.mem_cons_self)) hini
  have hU' : vx_Zq Bundle.tN "UNASSIGNED_STACK" Bundle.steD A s' s'.heap := by rw [hhp]; exact vx_Zq.moved hW0.alike (hU.kept hS.2.1)
  have hN' : vx_Zq Bundle.tN "SUPPRESSED_SENTINEL" Bundle.listD A s' s'.heap := by rw [hhp]; exact vx_Zq.moved hW0.alike (hN.kept hS.2.1)
  have h : ∀ w ∈ Bundle.ownAtoms own ic cls names, w.before args s' = true := vx_own hat' (vx_isRefq hU'.1) (vx_isRefq hN'.1) hU'.2.word hN'.2.word
  have hown' : s'.vm.findClass own = some m.cls := by rw [hvm]; exact hown
  have hins : (Cond.instantiable cls 6).before args s' = true := h _ (by simp [Bundle.ownAtoms])
  obtain ⟨vm₁, cX, kX, hfX, hkX, -, -, X₁, st1⟩ := Y.newCold hexec (own := own) (C := cls) (index := ik) (n := 6) hown' hk' hins hini'
    (g := F0 m pc ls rest) rfl (by rw [hb]; exact d0) (Nat.le_refl _) (Nat.le_refl _)
  generalize hT1 : (T.setVm vm₁).pushCell { cls := cX, slots := kX.instanceTypes.map defaultValue, vm := .none } = T1 at X₁ st1
  have hcat : (Value.ref T.heap.size).category = 1 := rfl
  have hcellA : T1.heap[T.heap.size]? = some (freshCell cX kX) := by rw [← hT1]; exact State.heap_pushCell_size _ _
  have d3' : decode c.code (pc + 3) = .ok (.dup, 1) := by rw [hb]; exact d3
  have d4' : decode c.code (pc + 4) = .ok (.ldc is, 2) := by rw [hb]; exact d4
  have hstr' : vk_R own is text sa s' := vk_R.warm hW0 hstr
  obtain ⟨U, hsteps, hrun, hend, hW, hsame, ce, hce, hO⟩ := X₁.ctorThrowS hexec htr (own := own) (cls := cls) (names := names) (ic := ic) hown' hcls hnames h (fun x hx => nomatch hx) hfX hkX hcellA (by rw [hhp, hT]; exact Nat.le_refl _) (msg := .ref sa) rfl
    (g := { method := m, pc := pc + 6, locals := ls, stack := .ref sa :: .ref T.heap.size :: .ref T.heap.size :: rest, locked := none }) rfl hsize rfl rfl (rest := rest) rfl
    (by rw [hb]; exact d6) (by rw [hb]; exact d9) hout hRframes (by simp only [List.map_cons, List.sum_cons, hcat]; omega) hlocks
  obtain ⟨f1, f2⟩ := vx_frame hsame
  rw [hhp] at f1 f2
  have hWs : s.WarmedH U.vm := State.WarmedH.trans hW0 hW
  have hcl : s.vm.findClass cls = some ce.cls := by
    have h9 := hO.cls
    rw [hvm] at h9
    exact h9
  have hall : s.sameButNew ({ U with vm := s.vm } : State) locs mc ms := by
    subst hA
    obtain ⟨e1, e2⟩ := hsame
    rw [State.setFrames_setFrames] at e1
    have h2 : (T.setVm s.vm).sameButNew ({ U with vm := s.vm } : State) [] (0 + 1) (0 + 6) := ⟨e1, e2⟩
    have h3 := X.same.trans h2
    rw [List.append_nil] at h3
    exact h3.mono hc hs
  refine ⟨U, ?_, .threw T.heap.size, hrun, hend, Or.inr ⟨T.heap.size, rfl, cls, ce, locs, hx U hWs.alike f1 (fun q hq => f2 q hq (fun z hz => nomatch hz)), hce, hO.vm, hcl, hWs, hall, hf⟩⟩
  refine st1 _ ?_
  show Steps p.tables e below (T1.setTop { method := m, pc := pc + 3, locals := ls, stack := .ref T.heap.size :: rest, locked := none }) _
  jvm_step X₁.here [X₁.here.top, hexec, d3', Value.category]
  exact X₁.ldcString hexec (own := own) (text := text) (index := is) (a := sa) hown' hstr'.1 hstr'.2
    (g := { method := m, pc := pc + 4, locals := ls, stack := .ref T.heap.size :: .ref T.heap.size :: rest, locked := none }) rfl d4' _ hsteps
theorem vx_throwSW {cc : ByteArray} {pc : Nat} (hexec : p.tables.exec = Jvm.exec) (hb : c.code = cc) (hl : l.stackTraces = false) {own cls text : String} {names : List String} {ik is ic mc ms sa : Nat} {A : Nat → Prop}
    (hown : s.vm.findClass own = some m.cls) (hcls : Bundle.fit cls = true) (hnames : ∀ n ∈ names, Bundle.fit n = true)
    (hk : (Cond.classLink own ik cls).before args s = true) (hini : (Cond.initialized cls).before args s = true) (hstr : vk_R own is text sa s) (hat : ∀ w ∈ vx_atS own ic cls names, w.before args s = true)
    (hgood : ∀ w ∈ Cond.classLink own ik cls :: Cond.initialized cls :: vx_atS own ic cls names, vx_ot w = true)
    (hU : vx_Zq Bundle.tN "UNASSIGNED_STACK" Bundle.steD A s s.heap) (hN : vx_Zq Bundle.tN "SUPPRESSED_SENTINEL" Bundle.listD A s s.heap) (hS : va_S A s.heap H locs) (hsize : ls.size = c.maxLocals)
    (d0 : decode cc pc = .ok (.new ik, 3)) (d3 : decode cc (pc + 3) = .ok (.dup, 1)) (d4 : decode cc (pc + 4) = .ok (.ldc_w is, 3)) (d7 : decode cc (pc + 7) = .ok (.invokespecial ic, 3)) (d10 : decode cc (pc + 10) = .ok (.athrow, 1))
    (hout : ∀ x ∈ c.exceptionTable.toList, covers x (pc + 10) = false)
    (hRframes : names.length + 3 < R.frames) (hRlocals : (rest.map fun v => v.category).sum + (13 * (names.length + 1) + 43) ≤ R.locals) (hRcells : cells + 1 ≤ R.cells) (hRslots : slots + 6 ≤ R.slots) (hlocks : meth.locks = false)
    (hx : ∀ t : State, s.vm.Alike t.vm → H.size ≤ t.heap.size → (∀ q : Nat, q < H.size → t.heap[q]? = H[q]?) → XC cls s t)
    (hf : ∀ z ∈ locs, free z.base) (hc : cells + 1 ≤ mc) (hs : slots + 6 ≤ ms) :
    W p l e R s m args below meth c H locs cells slots (vx_MQ below Qc XC args s mc ms free) (F0 m pc ls rest) := by
  intro T hT X
  have htr : e.platform.stackTraces = false := (show e.platform.stackTraces = l.stackTraces by rw [X.admits.platform]).trans hl
  have Y := vx_rebase X (R' := { frames := R.frames, locals := R.locals, cells := 1, slots := 6 }) (Nat.le_refl _) (Nat.le_refl _) hRcells hRslots
  obtain ⟨s', hA⟩ : ∃ z, z = (T.setVm s.vm).setFrames (.invoking m args :: below) := ⟨_, rfl⟩
  rw [← hA] at Y
  have hvm : s'.vm = s.vm := by rw [hA]; rfl
  have hhp : s'.heap = H := by rw [hA]; exact hT
  have hW0 : s.WarmedH s'.vm := by rw [hvm]; exact State.WarmedH.refl s
  have hat' : ∀ w ∈ vx_atS own ic cls names, w.before args s' = true := fun w hw => vx_ot_at hW0 hvm.symm (hgood w (List.mem_cons_of_mem _ (List.mem_cons_of_mem _ hw))) (hat w hw)
  have hk' : (Cond.classLink own ik cls).before args s' = true := vx_ot_at hW0 hvm.symm (hgood _ List.mem_cons_self) hk
  have hini' : (Cond.initialized cls).before args s' = true := vx_ot_at hW0 hvm.symm (hgood _ (List.mem_cons_of_mem _ List.mem_cons_self)) hini
  have hU' : vx_Zq Bundle.tN "UNASSIGNED_STACK" Bundle.steD A s' s'.heap := by rw [hhp]; exact vx_Zq.moved hW0.alike (hU.kept hS.2.1)
  have hN' : vx_Zq Bundle.tN "SUPPRESSED_SENTINEL" Bundle.listD A s' s'.heap := by rw [hhp]; exact vx_Zq.moved hW0.alike (hN.kept hS.2.1)
  have h : ∀ w ∈ Bundle.ownAtoms own ic cls names, w.before args s' = true := vx_own hat' (vx_isRefq hU'.1) (vx_isRefq hN'.1) hU'.2.word hN'.2.word
  have hown' : s'.vm.findClass own = some m.cls := by rw [hvm]; exact hown
  have hins : (Cond.instantiable cls 6).before args s' = true := h _ (by simp [Bundle.ownAtoms])
  obtain ⟨vm₁, cX, kX, hfX, hkX, -, -, X₁, st1⟩ := Y.newCold hexec (own := own) (C := cls) (index := ik) (n := 6) hown' hk' hins hini'
    (g := F0 m pc ls rest) rfl (by rw [hb]; exact d0) (Nat.le_refl _) (Nat.le_refl _)
  generalize hT1 : (T.setVm vm₁).pushCell { cls := cX, slots := kX.instanceTypes.map defaultValue, vm := .none } = T1 at X₁ st1
  have hcat : (Value.ref T.heap.size).category = 1 := rfl
  have hcellA : T1.heap[T.heap.size]? = some (freshCell cX kX) := by rw [← hT1]; exact State.heap_pushCell_size _ _
  have d3' : decode c.code (pc + 3) = .ok (.dup, 1) := by rw [hb]; exact d3
  have d4' : decode c.code (pc + 4) = .ok (.ldc_w is, 3) := by rw [hb]; exact d4
  have hstr' : vk_R own is text sa s' := vk_R.warm hW0 hstr
  obtain ⟨U, hsteps, hrun, hend, hW, hsame, ce, hce, hO⟩ := X₁.ctorThrowS hexec htr (own := own) (cls := cls) (names := names) (ic := ic) hown' hcls hnames h (fun x hx => nomatch hx) hfX hkX hcellA (by rw [hhp, hT]; exact Nat.le_refl _) (msg := .ref sa) rfl
    (g := { method := m, pc := pc + 7, locals := ls, stack := .ref sa :: .ref T.heap.size :: .ref T.heap.size :: rest, locked := none }) rfl hsize rfl rfl (rest := rest) rfl
    (by rw [hb]; exact d7) (by rw [hb]; exact d10) hout hRframes (by simp only [List.map_cons, List.sum_cons, hcat]; omega) hlocks
  obtain ⟨f1, f2⟩ := vx_frame hsame
  rw [hhp] at f1 f2
  have hWs : s.WarmedH U.vm := State.WarmedH.trans hW0 hW
  have hcl : s.vm.findClass cls = some ce.cls := by
    have h9 := hO.cls
    rw [hvm] at h9
    exact h9
  have hall : s.sameButNew ({ U with vm := s.vm } : State) locs mc ms := by
    subst hA
    obtain ⟨e1, e2⟩ := hsame
    rw [State.setFrames_setFrames] at e1
    have h2 : (T.setVm s.vm).sameButNew ({ U with vm := s.vm } : State) [] (0 + 1) (0 + 6) := ⟨e1, e2⟩
    have h3 := X.same.trans h2
    rw [List.append_nil] at h3
    exact h3.mono hc hs
  refine ⟨U, ?_, .threw T.heap.size, hrun, hend, Or.inr ⟨T.heap.size, rfl, cls, ce, locs, hx U hWs.alike f1 (fun q hq => f2 q hq (fun z hz => nomatch hz)), hce, hO.vm, hcl, hWs, hall, hf⟩⟩
  refine st1 _ ?_
  show Steps p.tables e below (T1.setTop { method := m, pc := pc + 3, locals := ls, stack := .ref T.heap.size :: rest, locked := none }) _
  jvm_step X₁.here [X₁.here.top, hexec, d3', Value.category]
  exact X₁.ldcStringW hexec (own := own) (text := text) (index := is) (a := sa) hown' hstr'.1 hstr'.2
    (g := { method := m, pc := pc + 4, locals := ls, stack := .ref T.heap.size :: .ref T.heap.size :: rest, locked := none }) rfl d4' _ hsteps
end Ends
section Bodies
variable {l : Launch}
theorem vx_ofW {y : MethodName} {ws ws' : List Cond} {rm : Room} {Pc : Array Value → State → Prop} {Qc : Array Value → State → Outcome → State → Prop} {XC : String → State → State → Prop} {mc ms : Nat} {free : Addr → Prop} {cc : ByteArray} {maxL : Nat} {ret : Option FieldType}
    (hy : plainName y.cls = true) (hw : ws = Cond.code y cc maxL ret :: ws')
    (body : ∀ p e s m args below meth c s₁, BodyLoose p l y (headSpec ws rm) cc maxL ret e s m args below meth c s₁ → c.maxLocals = maxL → (∀ x ∈ c.exceptionTable.toList, False) → Pc args s →
      W p l e (headSpec ws rm).room s m args below meth c s.heap [] 0 0 (vx_MQ below Qc XC args s mc ms free) (entryFrame m args maxL)) : vx_Met l y ws rm Pc Qc XC mc ms free := by
  refine MetFree.of_bodyS (code := cc) (maxLocals := maxL) (ret := ret) hy ?_ ?_
  · intro args s m h hn
    obtain ⟨meth, c, h1, h2, h3, h4, h5, h6, -, -⟩ := Cond.code_spec hn (atoms_spec (ws := ws) h _ (by rw [hw]; exact List.mem_cons_self))
    exact ⟨meth, c, h1, h2, h3, h4, h5, h6⟩
  · intro p e s m args below meth c s₁ B hml hP _
    have hh0 : s₁.heap = s.heap := by rw [B.state]; rfl
    have ht : ∀ x ∈ c.exceptionTable.toList, False := by
      obtain ⟨meth9, c9, h1, h2, -, -, -, -, h7, -⟩ := Cond.code_spec B.named (atoms_spec (ws := ws) B.pre _ (by rw [hw]; exact List.mem_cons_self))
      cases Option.some.inj (h1.symm.trans B.method)
      cases Option.some.inj (h2.symm.trans (Stand.of_body B).code)
      intro x hx
      rw [Array.isEmpty_iff.mp h7] at hx
      cases hx
    obtain ⟨t, a1, o, b1, b2, b3⟩ := body p e s m args below meth c s₁ B hml ht hP s₁ hh0 (Stand.of_body B)
    exact ⟨t, o, a1, b1, b2, b3⟩
theorem vx_table {p : Program} {x y : MethodName} {S : Spec} {cc bytes : ByteArray} {maxL maxL' : Nat} {ret ret' : Option FieldType} {e : Env} {s s₁ : State} {m : MethodId} {args : Array Value} {below : List Frame} {meth : Method} {c : Code} {hh : List (Nat × Nat × Nat × Nat)}
    (B : BodyLoose p l y S cc maxL ret e s m args below meth c s₁) (h : (Cond.codeWith y bytes maxL' ret' hh).before args s = true) : c.exceptionTable.toList = tableOf hh := by
  obtain ⟨m9, meth9, c9, hn9, h1, h2, -, -, h6, -⟩ := Cond.codeWith_spec h
  cases Option.some.inj (hn9.symm.trans B.named)
  cases Option.some.inj (h1.symm.trans B.method)
  cases Option.some.inj (h2.symm.trans (Stand.of_body B).code)
  rw [← h6, table_eq]
end Bodies
end VXA
/-! ===== END ===== -/
/-! ===== BEGIN a static call of a method with an exception table ===== -/
section VXS
variable {p : Program} {l : Launch} {e : Env} {R : Room} {s : State} {m : MethodId} {args : Array Value} {below : List Frame} {meth : Method} {c : Code} {T : State} {H : Heap} {locs : List Loc} {cells slots : Nat}
abbrev vx_CSW (R : Room) (s : State) (args : Array Value) (own : String) (index : Nat) (y : MethodName) (bytes : ByteArray) (maxL : Nat) (ret : Option FieldType) (hh : List (Nat × Nat × Nat × Nat)) (ws : List Cond) (rm : Room) (mc ms n : Nat) : Prop :=
  (rm.cells = mc ∧ rm.slots = ms ∧ rm.frames + 1 ≤ R.frames ∧ 8 + (maxL + 11) + rm.locals ≤ R.locals ∧ (∀ w ∈ ws, ∀ (a' : Array Value) (U : State), s.WarmedH U.vm → w.before a' U = true) ∧ Cond.codeWith y bytes maxL ret hh ∈ ws) ∧
  (Cond.codeWith y bytes maxL ret hh).before args s = true ∧ (Cond.initialized y.cls).before args s = true ∧ (y.cls ≠ "java/lang/invoke/MethodHandle" ∧ y.cls ≠ "java/lang/invoke/VarHandle") ∧
  (∀ sig, parseMethodDescriptor y.desc = some sig → n = sig.parameters.length) ∧ (Cond.methodLink own index y).before args s = true ∧ (Cond.static y).before args s = true
theorem vx_cwSW {own : String} {index maxL mc ms : Nat} {y : MethodName} {bytes : ByteArray} {ret : Option FieldType} {hh : List (Nat × Nat × Nat × Nat)} {Ts ws ws' : List Cond} {rm : Room} (n : Nat) (ht : ∀ w ∈ Ts, w.before args s = true) (hT : GoodIn Ts (va_wsS own index y ws)) (hw : ws = Cond.codeWith y bytes maxL ret hh :: ws') (hrc : rm.cells = mc) (hrs : rm.slots = ms)
    (hd : y.cls ≠ "java/lang/invoke/MethodHandle" ∧ y.cls ≠ "java/lang/invoke/VarHandle" ∧ (parseMethodDescriptor y.desc).map (fun d => d.parameters.length) = some n) (hR : rm.frames + 1 ≤ R.frames ∧ 8 + (maxL + 11) + rm.locals ≤ R.locals) :
    vx_CSW R s args own index y bytes maxL ret hh ws rm mc ms n := by
  have ok : ∀ w ∈ va_wsS own index y ws, w.before args s = true := fun w h => ht w (hT w h).1
  have hG : GoodIn Ts ws := fun w h => hT w (by unfold va_wsS; exact List.mem_append_right _ h)
  have hc : Cond.codeWith y bytes maxL ret hh ∈ ws := by rw [hw]; exact List.mem_cons_self
  refine ⟨⟨hrc, hrs, hR.1, hR.2, pay_in ht hG, hc⟩, ht _ (hG _ hc).1, ok _ (by simp [va_wsS]), ⟨hd.1, hd.2.1⟩, fun sig h => ?_, ok _ (by simp [va_wsS]), ok _ (by simp [va_wsS])⟩
  have h2 := hd.2.2
  rw [h] at h2
  exact (Option.some.inj h2).symm
theorem vx_callSW (X : Stand p l e R s m args below meth c T locs cells slots) (hexec : p.tables.exec = Jvm.exec) {own : String} {index : Nat} {y : MethodName} {bytes : ByteArray} {maxL : Nat} {ret : Option FieldType} {hh : List (Nat × Nat × Nat × Nat)}
    (hown : s.vm.findClass own = some m.cls) (hlink : (Cond.methodLink own index y).before args s = true) (hstat : (Cond.static y).before args s = true) (hinit : (Cond.initialized y.cls).before args s = true)
    (hcode : (Cond.codeWith y bytes maxL ret hh).before args s = true) (hy : y.cls ≠ "java/lang/invoke/MethodHandle" ∧ y.cls ≠ "java/lang/invoke/VarHandle")
    {W9 : Nat} {Pre : Pt → Array Value → Prop} {Post : Pt → Array Value → Option Value → Pt → Prop} (hK : Back l R p e below s args y 3 W9 Pre Post)
    {g : JFrame} (hg : g.method = m) (hsize : g.locals.size = c.maxLocals) {argsL rest : List Value} (hlen : ∀ sig, parseMethodDescriptor y.desc = some sig → argsL.length = sig.parameters.length)
    (hstack : g.stack = argsL.reverse ++ rest) (hW : 2 * g.monitorRoom + (rest.map fun v => v.category).sum ≤ W9) (hdg : decode c.code g.pc = .ok (.invokestatic index, 3))
    (hpre : ∀ vm₁, s.WarmedH vm₁ → Pre ⟨T.setVm vm₁, locs, cells, slots⟩ argsL.toArray) :
    ∃ (v : Option Value) (vm₁ : Vm) (B : Pt), s.WarmedH vm₁ ∧ Stand p l e R s m args below meth c B.U B.locs B.cells B.slots ∧ Post ⟨T.setVm vm₁, locs, cells, slots⟩ argsL.toArray v B ∧
      ∀ target, Steps p.tables e below (B.U.setTop { g with pc := g.pc + 3, stack := v.toList ++ rest }) target → Steps p.tables e below (T.setTop g) target := by
  obtain ⟨mk, methM, cM, hnamed, hmethM, -, -, -, -, -, -, hsigM⟩ := Cond.codeWith_spec hcode
  have hstatic : methM.isStatic = true := Cond.static_spec hnamed hmethM hstat
  obtain ⟨kP, hkP, -⟩ := className_of_methodNamed hnamed
  have hinitP : kP.init = .initialized := Cond.initialized_spec (findClass_of_methodNamed hnamed) hkP hinit
  obtain ⟨vm₁, X₁, hstep₁⟩ := X.invokestatic hexec hown hlink hnamed hmethM hstatic hkP hinitP hy (g := g) hg (argsL := argsL) (rest := rest) (hlen _ hsigM) hstack hdg
  obtain ⟨v, B, X', hpost, hsteps⟩ := hK m meth c ⟨T.setVm vm₁, locs, cells, slots⟩ { g with stack := rest } (.invokestatic index) mk argsL.toArray X₁ hg hsize hdg hW (X₁.named hnamed) (hpre vm₁ X₁.warmed)
  exact ⟨v, vm₁, B, X₁.warmed, X', hpost, fun target h => hstep₁ _ fun acts => by rw [doInvoke_state]; exact hsteps.trans h⟩
theorem vx_runSW {y : MethodName} {bytes cc : ByteArray} {maxL nL mc ms n index : Nat} {ret : Option FieldType} {hh : List (Nat × Nat × Nat × Nat)} {ws : List Cond} {rm : Room} {Pc : Array Value → State → Prop} {Qc : Array Value → State → Outcome → State → Prop} {free : Addr → Prop} {Ts : List Cond} {own : String} {As rest : List Value} {g : JFrame}
    (S : CallFix p m c cc nL s args Ts own) (hM : Met l y ws rm Pc Qc mc ms free) (cw : vx_CSW R s args own index y bytes maxL ret hh ws rm mc ms n) (hp : PreS s H Pc As)
    (hg : g.method = m) (hn : As.length = n) (hsize : g.locals.size = nL) (hstack : g.stack = As.reverse ++ rest) (hW : 2 * g.monitorRoom + (rest.map fun v => v.category).sum ≤ 8) (hdg : decode cc g.pc = .ok (.invokestatic index, 3)) (hf : cells + mc ≤ R.cells ∧ slots + ms ≤ R.slots) :
    va_Run p l e R s m args below meth c H locs cells slots mc ms g rest (Qc As.toArray) (free) := by
  obtain ⟨⟨hrc, hrs, hfr, hlo, hws, hcw⟩, hcode, hini, hy, hlen, hl, hstt⟩ := cw
  have hK : Back l R p e below s args y 3 8 (PreOf R mc ms Pc) (PostOf Qc mc ms free) := va_backW (hh := hh) (bytes := bytes) (maxL := maxL) (ret := ret) hM hp.1 hrc hrs hfr hlo hws hcw (fun a' U hW => word_at hW (Or.inl (by first | rfl | simp [Cond.onTables, Cond.keeps, Cond.steady])) hini)
  obtain ⟨hx, hb, hml, ho, -⟩ := S
  intro T hT X
  obtain ⟨v, vm₁, ⟨U', l2, c2, s2⟩, hW₁, X', ⟨g', mk, t, L, e1, e2, hq, h1, hL, h2, h3⟩, st⟩ := vx_callSW X hx (hh := hh) (bytes := bytes) (maxL := maxL) (ret := ret) ho hl hstt hini hcode hy hK hg (hsize.trans hml.symm) (argsL := As) (rest := rest) (fun sig h => hn.trans (hlen sig h)) hstack hW (by rw [hb]; exact hdg)
    (fun vm₁ hW₁ => ⟨hf.1, hf.2, hp.2 (T.setVm vm₁) hT hW₁⟩)
  dsimp only [Pt.U, Pt.locs, Pt.cells, Pt.slots] at X' e1 e2 h1 h2 h3 st
  subst h1; subst h2; subst h3
  exact ⟨v, (T.setVm vm₁).calling g' mk As.toArray, t, U', L, hT, X', hL, e1, e2, hq, st⟩
theorem vx_lt {D : va_G} {cl : List vw_C} {ws : va_W} {H1 : Heap} (h : va_P D cl ws H1) {k : Nat} {q : Nat × va_E} (hk : ws[k]? = some q) : q.1 < H1.size := (h k q hk).lt
end VXS
/-! ===== END ===== -/
/-! ===== BEGIN methods with a table of their own: called by a name, returning or throwing ===== -/
section VXH
/-! vx_backW, vx_callVX, vx_callSX, vx_callVW, vx_runVW, vx_runVX, vx_runSX, vx_ofWH follow the same proofs as their sisters above (Free/Laws.lean, Shelf42/LK1.lean); vx_outP calls Shelf42/NT130.lean (outThrough). -/
section
variable {l : Launch} {R : Room} {p : Program} {e : Env} {below : List Frame} {s : State} {sargs : Array Value} {y : MethodName} {len W9 : Nat}
theorem vx_backW {ws : List Cond} {rm : Room} {Pc : Array Value → State → Prop} {Qc : Array Value → State → Outcome → State → Prop} {XC : String → State → State → Prop} {mc ms : Nat} {free : Addr → Prop} {bytes : ByteArray} {maxL : Nat} {ret : Option FieldType} {hh : List (Nat × Nat × Nat × Nat)}
    (hM : vx_Met l y ws rm Pc Qc XC mc ms free) (hblind : FrameBlind Pc) (hrc : rm.cells = mc) (hrs : rm.slots = ms)
    (hframes : rm.frames + 1 ≤ R.frames) (hlocals : W9 + (maxL + 11) + rm.locals ≤ R.locals)
    (hws : ∀ w ∈ ws, ∀ a' U, s.WarmedH U.vm → w.before a' U = true) (hcode : Cond.codeWith y bytes maxL ret hh ∈ ws) (hinit : ∀ a' U, s.WarmedH U.vm → (Cond.initialized y.cls).before a' U = true) :
    vx_Back l R p e below s sargs y len W9 (PreOf R mc ms Pc) (PostOf Qc mc ms free) (vx_Post XC mc ms free) := by
  intro m meth c A g ig mk a X hg hsize hdg hW hn hp
  have h1 : (headSpec ws rm).pre.before a A.U = true := atoms_intro fun w hw => hws w hw _ _ X.warmed
  have h2 : (Cond.codeWith y bytes maxL ret hh).before a A.U = true := hws _ hcode _ _ X.warmed
  have h3 : (Cond.initialized y.cls).before a A.U = true := hinit _ _ X.warmed
  have h4 : A.cells + (headSpec ws rm).room.cells ≤ R.cells := by rw [show (headSpec ws rm).room.cells = mc from hrc]; exact hp.1
  have h5 : A.slots + (headSpec ws rm).room.slots ≤ R.slots := by rw [show (headSpec ws rm).room.slots = ms from hrs]; exact hp.2.1
  have hPc : Pc a (A.U.calling g mk a) := hblind _ _ _ _ hp.2.2
  obtain ⟨U, Ls, c0, s0⟩ := A
  dsimp only [Pt.U, Pt.locs, Pt.cells, Pt.slots] at h1 h2 h3 h4 h5 X hn hPc ⊢
  obtain ⟨m9, methY, cY, hn9, hmY, hcY, -, hlY, -⟩ := Cond.codeWith_spec h2
  cases Option.some.inj (hn9.symm.trans hn)
  obtain ⟨kY, hkY, -⟩ := className_of_methodNamed hn
  have hinitY : kY.init = .initialized := Cond.initialized_spec (findClass_of_methodNamed hn) hkY h3
  have h : At U g.method c below := by rw [hg]; exact X.here
  have hlocals9 : W9 + (maxL + 11) + (headSpec ws rm).room.locals ≤ R.locals := hlocals
  have happ : (headSpec ws rm).appliesLoose y e.platform (U.calling g mk a) = true :=
    Spec.appliesLoose_calling (g := g) h hdg hn hkY hinitY
      (X.room_calling (g := g) (R' := (headSpec ws rm).room) hsize hmY hcY hframes (by rw [hlY]; omega) h4 h5) h1
  obtain ⟨mid, hmid⟩ := h.above
  have hfr : (U.setTop g).frames = (.java g :: mid) ++ below := by rw [State.frames_setTop' g h.top, hmid]; rfl
  obtain ⟨o, s₂, hsteps, -, hend, hq⟩ := Steps.callFree hM p X.admits X.cas X.clock (acts := []) hfr happ hPc trivial
  have hq' : vx_Q Qc XC mc ms free a (U.calling g mk a) o s₂ := hq
  rw [State.frames_setTop' g h.top] at hend
  obtain ⟨g₀, hg0⟩ := Option.isSome_iff_exists.mp h.top
  obtain ⟨r, hr⟩ := State.topJava?_eq_some.mp hg0
  have hr' : (({ U with heap := s₂.heap, slotsUsed := s₂.slotsUsed } : State).setVm s₂.vm).frames = .java g₀ :: r := hr
  rcases hq' with ⟨hqc, L, hfe, hL⟩ | ⟨q, rfl, E, ce, L, hx, hce, hcv, hcl, hW₂, hsm, hL⟩
  · obtain ⟨⟨v, rfl⟩, hW₂, e2, q2, q3, q4, q5, q6⟩ := id hfe
    have e3 : s₂ = ({ (U.calling g mk a).setFrames s₂.frames with heap := s₂.heap, slotsUsed := s₂.slotsUsed } : State).setVm s₂.vm := by
      have : s₂ = ({ s₂ with vm := (U.calling g mk a).vm } : State).setVm s₂.vm := rfl
      rw [e2] at this
      exact this
    obtain ⟨c₂, i₂, len₂, hc₂, hd₂, hf₂⟩ := hend
    have hW' : U.WarmedH s₂.vm := hW₂
    have hcc : c₂ = c := by
      have h1 : s₂.code? g.method = U.code? g.method := by
        rw [State.code?_eq, State.code?_eq, hW'.alike.method?]
      exact Option.some.inj (hc₂.symm.trans (h1.trans h.code))
    subst hcc
    have hlen : len₂ = len := by rw [hdg] at hd₂; cases hd₂; rfl
    subst hlen
    have hs₂ : s₂ = (({ U with heap := s₂.heap, slotsUsed := s₂.slotsUsed } : State).setVm s₂.vm).setTop { g with pc := g.pc + len₂, stack := v.toList ++ g.stack } := by
      refine e3.trans ?_
      rw [hf₂, State.calling_eq h.top, State.setFrames_setFrames, State.setTop_of_frames _ hr', hr]
      rfl
    have hsame : U.sameButNew ({ U with heap := s₂.heap, slotsUsed := s₂.slotsUsed } : State) L mc ms := by
      refine ⟨?_, q2, q3, q4, q5, q6⟩
      obtain ⟨t, ht, -⟩ := State.frames_cons hr
      show ({ U with heap := s₂.heap, slotsUsed := s₂.slotsUsed } : State) = { U.setFrames U.frames with heap := s₂.heap, slotsUsed := s₂.slotsUsed }
      rw [State.setFrames_self ht]
    subst hg
    refine Or.inl ⟨v, ⟨(({ U with heap := s₂.heap, slotsUsed := s₂.slotsUsed } : State).setVm s₂.vm), Ls ++ L, c0 + mc, s0 + ms⟩,
      ⟨X.admits, X.cas, X.clock, X.frames, X.room, X.hears, X.method, X.code, (X.here.setHeapUsed s₂.heap s₂.slotsUsed).setVm hW'.alike, X.tail, State.WarmedH.trans X.warmed hW', X.limits, X.bytes, X.same.trans (hsame.setVm s.vm)⟩,
      ⟨g, mk, s₂, L, rfl, rfl, hqc, rfl, hL, rfl, rfl⟩, ?_⟩
    show Steps p.tables e below _ ((({ U with heap := s₂.heap, slotsUsed := s₂.slotsUsed } : State).setVm s₂.vm).setTop { g with pc := g.pc + len₂, stack := v.toList ++ g.stack })
    rw [← hs₂]
    exact hsteps
  · obtain ⟨e2, q2, q3, q4, q5, q6⟩ := id hsm
    have e3 : s₂ = ({ (U.calling g mk a).setFrames s₂.frames with heap := s₂.heap, slotsUsed := s₂.slotsUsed } : State).setVm s₂.vm := by
      have : s₂ = ({ s₂ with vm := (U.calling g mk a).vm } : State).setVm s₂.vm := rfl
      rw [e2] at this
      exact this
    have hf₂ : s₂.frames = .throwing q :: .java g :: U.frames.tail := hend
    have hW' : U.WarmedH s₂.vm := hW₂
    have hs₂ : s₂ = ((({ U with heap := s₂.heap, slotsUsed := s₂.slotsUsed } : State).setVm s₂.vm).setTop g).pushFrame (.throwing q) := by
      refine e3.trans ?_
      rw [hf₂, State.calling_eq h.top, State.setFrames_setFrames, State.pushFrame, State.frames_setTop _ hr', State.setTop_of_frames _ hr', State.setFrames_setFrames, hr]
      rfl
    have hsame : U.sameButNew ({ U with heap := s₂.heap, slotsUsed := s₂.slotsUsed } : State) L mc ms := by
      refine ⟨?_, q2, q3, q4, q5, q6⟩
      obtain ⟨t, ht, -⟩ := State.frames_cons hr
      show ({ U with heap := s₂.heap, slotsUsed := s₂.slotsUsed } : State) = { U.setFrames U.frames with heap := s₂.heap, slotsUsed := s₂.slotsUsed }
      rw [State.setFrames_self ht]
    subst hg
    refine Or.inr ⟨q, ⟨(({ U with heap := s₂.heap, slotsUsed := s₂.slotsUsed } : State).setVm s₂.vm), Ls ++ L, c0 + mc, s0 + ms⟩,
      ⟨X.admits, X.cas, X.clock, X.frames, X.room, X.hears, X.method, X.code, (X.here.setHeapUsed s₂.heap s₂.slotsUsed).setVm hW'.alike, X.tail, State.WarmedH.trans X.warmed hW', X.limits, X.bytes, X.same.trans (hsame.setVm s.vm)⟩,
      ⟨g, mk, s₂, L, E, ce, rfl, rfl, hx, hce, hcv, hcl, rfl, hL, rfl, rfl⟩, ?_⟩
    show Steps p.tables e below _ (((({ U with heap := s₂.heap, slotsUsed := s₂.slotsUsed } : State).setVm s₂.vm).setTop g).pushFrame (.throwing q))
    rw [← hs₂]
    exact hsteps
end
variable {p : Program} {l : Launch} {e : Env} {R : Room} {s : State} {m : MethodId} {args : Array Value} {below : List Frame} {meth : Method} {c : Code} {T : State} {H : Heap} {locs : List Loc} {cells slots : Nat}
theorem vx_callVX (X : Stand p l e R s m args below meth c T locs cells slots) (hexec : p.tables.exec = Jvm.exec) {own C : String} {index : Nat} {y : MethodName} {bytes : ByteArray} {maxL : Nat} {ret : Option FieldType} {hh : List (Nat × Nat × Nat × Nat)}
    (hown : s.vm.findClass own = some m.cls) (hlink : (Cond.methodLink own index y).before args s = true) (hinst : (Cond.instanceMethod y).before args s = true) (hsel : (Cond.selects C y y).before args s = true)
    (hcode : (Cond.codeWith y bytes maxL ret hh).before args s = true) (hy : y.cls ≠ "java/lang/invoke/MethodHandle" ∧ y.cls ≠ "java/lang/invoke/VarHandle")
    {W9 : Nat} {Pre : Pt → Array Value → Prop} {Post : Pt → Array Value → Option Value → Pt → Prop} {PostX : Pt → Array Value → Addr → Pt → Prop} (hK : vx_Back l R p e below s args y 3 W9 Pre Post PostX)
    {b : Addr} {cellB : Cell} (hcell : T.heap[b]? = some cellB) (hobj : cellB.vm.isStatics = false) (hcls : s.vm.findClass C = some cellB.cls)
    {g : JFrame} (hg : g.method = m) (hsize : g.locals.size = c.maxLocals) {argsL rest : List Value} (hlen : ∀ sig, parseMethodDescriptor y.desc = some sig → argsL.length = sig.parameters.length)
    (hstack : g.stack = argsL.reverse ++ .ref b :: rest) (hW : 2 * g.monitorRoom + (rest.map fun v => v.category).sum ≤ W9) (hdg : decode c.code g.pc = .ok (.invokevirtual index, 3))
    (hpre : ∀ vm₁, s.WarmedH vm₁ → Pre ⟨T.setVm vm₁, locs, cells, slots⟩ (Value.ref b :: argsL).toArray) :
    (∃ (v : Option Value) (vm₁ : Vm) (B : Pt), s.WarmedH vm₁ ∧ Stand p l e R s m args below meth c B.U B.locs B.cells B.slots ∧ Post ⟨T.setVm vm₁, locs, cells, slots⟩ (Value.ref b :: argsL).toArray v B ∧
      ∀ target, Steps p.tables e below (B.U.setTop { g with pc := g.pc + 3, stack := v.toList ++ rest }) target → Steps p.tables e below (T.setTop g) target) ∨
    (∃ (q : Addr) (vm₁ : Vm) (B : Pt), s.WarmedH vm₁ ∧ Stand p l e R s m args below meth c B.U B.locs B.cells B.slots ∧ PostX ⟨T.setVm vm₁, locs, cells, slots⟩ (Value.ref b :: argsL).toArray q B ∧
      Steps p.tables e below (T.setTop g) ((B.U.setTop { g with stack := rest }).pushFrame (.throwing q))) := by
  obtain ⟨mk, methM, hnamed, hmethM, hstM, habM⟩ := Cond.instanceMethod_spec hinst
  obtain ⟨m8, methM', cM, hn8, hmethM', -, -, -, -, -, -, hsigM⟩ := Cond.codeWith_spec hcode
  cases Option.some.inj (hn8.symm.trans hnamed)
  cases hmethM.symm.trans hmethM'
  obtain ⟨c2, r2, m2, q1, q2, q3, q4, kP, hkP, hkPi⟩ := Cond.selects_spec hsel
  cases hcls.symm.trans q1
  cases (State.methodFound?_of_named hnamed hy).symm.trans q2
  cases hnamed.symm.trans q3
  have hselP : selectMethod e.platform s.vm cellB.cls mk = .method mk := by rw [Launch.admits_selectMethod X.admits]; exact q4
  obtain ⟨vm₁, X₁, hstep₁⟩ := X.invokevirtual hexec hown hlink hnamed hmethM hstM hkP hkPi hy (a := b) (cell := cellB) hcell
    (fun z h => by rw [h] at hobj; cases hobj) hselP hmethM habM hkP hkPi (g := g) hg (argsL := argsL) (rest := rest) (hlen _ hsigM) hstack hdg
  rcases hK m meth c ⟨T.setVm vm₁, locs, cells, slots⟩ { g with stack := rest } (.invokevirtual index) mk (Value.ref b :: argsL).toArray X₁ hg hsize hdg hW (X₁.named hnamed) (hpre vm₁ X₁.warmed) with ⟨v, B, X', hpost, hsteps⟩ | ⟨q, B, X', hpost, hsteps⟩
  · exact Or.inl ⟨v, vm₁, B, X₁.warmed, X', hpost, fun target h => hstep₁ _ fun acts => by rw [doInvoke_state]; exact hsteps.trans h⟩
  · exact Or.inr ⟨q, vm₁, B, X₁.warmed, X', hpost, hstep₁ _ fun acts => by rw [doInvoke_state]; exact hsteps⟩
theorem vx_callSX (X : Stand p l e R s m args below meth c T locs cells slots) (hexec : p.tables.exec = Jvm.exec) {own : String} {index : Nat} {y : MethodName} {bytes : ByteArray} {maxL : Nat} {ret : Option FieldType} {hh : List (Nat × Nat × Nat × Nat)}
    (hown : s.vm.findClass own = some m.cls) (hlink : (Cond.methodLink own index y).before args s = true) (hstat : (Cond.static y).before args s = true) (hinit : (Cond.initialized y.cls).before args s = true)
    (hcode : (Cond.codeWith y bytes maxL ret hh).before args s = true) (hy : y.cls ≠ "java/lang/invoke/MethodHandle" ∧ y.cls ≠ "java/lang/invoke/VarHandle")
    {W9 : Nat} {Pre : Pt → Array Value → Prop} {Post : Pt → Array Value → Option Value → Pt → Prop} {PostX : Pt → Array Value → Addr → Pt → Prop} (hK : vx_Back l R p e below s args y 3 W9 Pre Post PostX)
    {g : JFrame} (hg : g.method = m) (hsize : g.locals.size = c.maxLocals) {argsL rest : List Value} (hlen : ∀ sig, parseMethodDescriptor y.desc = some sig → argsL.length = sig.parameters.length)
    (hstack : g.stack = argsL.reverse ++ rest) (hW : 2 * g.monitorRoom + (rest.map fun v => v.category).sum ≤ W9) (hdg : decode c.code g.pc = .ok (.invokestatic index, 3))
    (hpre : ∀ vm₁, s.WarmedH vm₁ → Pre ⟨T.setVm vm₁, locs, cells, slots⟩ argsL.toArray) :
    (∃ (v : Option Value) (vm₁ : Vm) (B : Pt), s.WarmedH vm₁ ∧ Stand p l e R s m args below meth c B.U B.locs B.cells B.slots ∧ Post ⟨T.setVm vm₁, locs, cells, slots⟩ argsL.toArray v B ∧
      ∀ target, Steps p.tables e below (B.U.setTop { g with pc := g.pc + 3, stack := v.toList ++ rest }) target → Steps p.tables e below (T.setTop g) target) ∨
    (∃ (q : Addr) (vm₁ : Vm) (B : Pt), s.WarmedH vm₁ ∧ Stand p l e R s m args below meth c B.U B.locs B.cells B.slots ∧ PostX ⟨T.setVm vm₁, locs, cells, slots⟩ argsL.toArray q B ∧
      Steps p.tables e below (T.setTop g) ((B.U.setTop { g with stack := rest }).pushFrame (.throwing q))) := by
  obtain ⟨mk, methM, cM, hnamed, hmethM, -, -, -, -, -, -, hsigM⟩ := Cond.codeWith_spec hcode
  have hstatic : methM.isStatic = true := Cond.static_spec hnamed hmethM hstat
  obtain ⟨kP, hkP, -⟩ := className_of_methodNamed hnamed
  have hinitP : kP.init = .initialized := Cond.initialized_spec (findClass_of_methodNamed hnamed) hkP hinit
  obtain ⟨vm₁, X₁, hstep₁⟩ := X.invokestatic hexec hown hlink hnamed hmethM hstatic hkP hinitP hy (g := g) hg (argsL := argsL) (rest := rest) (hlen _ hsigM) hstack hdg
  rcases hK m meth c ⟨T.setVm vm₁, locs, cells, slots⟩ { g with stack := rest } (.invokestatic index) mk argsL.toArray X₁ hg hsize hdg hW (X₁.named hnamed) (hpre vm₁ X₁.warmed) with ⟨v, B, X', hpost, hsteps⟩ | ⟨q, B, X', hpost, hsteps⟩
  · exact Or.inl ⟨v, vm₁, B, X₁.warmed, X', hpost, fun target h => hstep₁ _ fun acts => by rw [doInvoke_state]; exact hsteps.trans h⟩
  · exact Or.inr ⟨q, vm₁, B, X₁.warmed, X', hpost, hstep₁ _ fun acts => by rw [doInvoke_state]; exact hsteps⟩
theorem vx_callVW (X : Stand p l e R s m args below meth c T locs cells slots) (hexec : p.tables.exec = Jvm.exec) {own C : String} {index : Nat} {y : MethodName} {bytes : ByteArray} {maxL : Nat} {ret : Option FieldType} {hh : List (Nat × Nat × Nat × Nat)}
    (hown : s.vm.findClass own = some m.cls) (hlink : (Cond.methodLink own index y).before args s = true) (hinst : (Cond.instanceMethod y).before args s = true) (hsel : (Cond.selects C y y).before args s = true)
    (hcode : (Cond.codeWith y bytes maxL ret hh).before args s = true) (hy : y.cls ≠ "java/lang/invoke/MethodHandle" ∧ y.cls ≠ "java/lang/invoke/VarHandle")
    {W9 : Nat} {Pre : Pt → Array Value → Prop} {Post : Pt → Array Value → Option Value → Pt → Prop} (hK : Back l R p e below s args y 3 W9 Pre Post)
    {b : Addr} {cellB : Cell} (hcell : T.heap[b]? = some cellB) (hobj : cellB.vm.isStatics = false) (hcls : s.vm.findClass C = some cellB.cls)
    {g : JFrame} (hg : g.method = m) (hsize : g.locals.size = c.maxLocals) {argsL rest : List Value} (hlen : ∀ sig, parseMethodDescriptor y.desc = some sig → argsL.length = sig.parameters.length)
    (hstack : g.stack = argsL.reverse ++ .ref b :: rest) (hW : 2 * g.monitorRoom + (rest.map fun v => v.category).sum ≤ W9) (hdg : decode c.code g.pc = .ok (.invokevirtual index, 3))
    (hpre : ∀ vm₁, s.WarmedH vm₁ → Pre ⟨T.setVm vm₁, locs, cells, slots⟩ (Value.ref b :: argsL).toArray) :
    ∃ (v : Option Value) (vm₁ : Vm) (B : Pt), s.WarmedH vm₁ ∧ Stand p l e R s m args below meth c B.U B.locs B.cells B.slots ∧ Post ⟨T.setVm vm₁, locs, cells, slots⟩ (Value.ref b :: argsL).toArray v B ∧
      ∀ target, Steps p.tables e below (B.U.setTop { g with pc := g.pc + 3, stack := v.toList ++ rest }) target → Steps p.tables e below (T.setTop g) target := by
  obtain ⟨mk, methM, hnamed, hmethM, hstM, habM⟩ := Cond.instanceMethod_spec hinst
  obtain ⟨m8, methM', cM, hn8, hmethM', -, -, -, -, -, -, hsigM⟩ := Cond.codeWith_spec hcode
  cases Option.some.inj (hn8.symm.trans hnamed)
  cases hmethM.symm.trans hmethM'
  obtain ⟨c2, r2, m2, q1, q2, q3, q4, kP, hkP, hkPi⟩ := Cond.selects_spec hsel
  cases hcls.symm.trans q1
  cases (State.methodFound?_of_named hnamed hy).symm.trans q2
  cases hnamed.symm.trans q3
  have hselP : selectMethod e.platform s.vm cellB.cls mk = .method mk := by rw [Launch.admits_selectMethod X.admits]; exact q4
  obtain ⟨vm₁, X₁, hstep₁⟩ := X.invokevirtual hexec hown hlink hnamed hmethM hstM hkP hkPi hy (a := b) (cell := cellB) hcell
    (fun z h => by rw [h] at hobj; cases hobj) hselP hmethM habM hkP hkPi (g := g) hg (argsL := argsL) (rest := rest) (hlen _ hsigM) hstack hdg
  obtain ⟨v, B, X', hpost, hsteps⟩ := hK m meth c ⟨T.setVm vm₁, locs, cells, slots⟩ { g with stack := rest } (.invokevirtual index) mk (Value.ref b :: argsL).toArray X₁ hg hsize hdg hW (X₁.named hnamed) (hpre vm₁ X₁.warmed)
  exact ⟨v, vm₁, B, X₁.warmed, X', hpost, fun target h => hstep₁ _ fun acts => by rw [doInvoke_state]; exact hsteps.trans h⟩
abbrev vx_CVW (R : Room) (s : State) (args : Array Value) (own C : String) (index : Nat) (y : MethodName) (bytes : ByteArray) (maxL : Nat) (ret : Option FieldType) (hh : List (Nat × Nat × Nat × Nat)) (ws : List Cond) (rm : Room) (mc ms n : Nat) : Prop :=
  (rm.cells = mc ∧ rm.slots = ms ∧ rm.frames + 1 ≤ R.frames ∧ 8 + (maxL + 11) + rm.locals ≤ R.locals ∧ (∀ w ∈ ws, ∀ (a' : Array Value) (U : State), s.WarmedH U.vm → w.before a' U = true) ∧ Cond.codeWith y bytes maxL ret hh ∈ ws) ∧
  (Cond.codeWith y bytes maxL ret hh).before args s = true ∧ (Cond.initialized y.cls).before args s = true ∧ (y.cls ≠ "java/lang/invoke/MethodHandle" ∧ y.cls ≠ "java/lang/invoke/VarHandle") ∧
  (∀ sig, parseMethodDescriptor y.desc = some sig → n = sig.parameters.length) ∧ (Cond.methodLink own index y).before args s = true ∧ (Cond.instanceMethod y).before args s = true ∧ (Cond.selects C y y).before args s = true
theorem vx_cwVW {own C : String} {index maxL mc ms : Nat} {y : MethodName} {bytes : ByteArray} {ret : Option FieldType} {hh : List (Nat × Nat × Nat × Nat)} {Ts ws ws' : List Cond} {rm : Room} (n : Nat) (ht : ∀ w ∈ Ts, w.before args s = true) (hT : GoodIn Ts (wsV own index C y ws)) (hw : ws = Cond.codeWith y bytes maxL ret hh :: ws') (hrc : rm.cells = mc) (hrs : rm.slots = ms)
    (hd : y.cls = C ∧ y.cls ≠ "java/lang/invoke/MethodHandle" ∧ y.cls ≠ "java/lang/invoke/VarHandle" ∧ (parseMethodDescriptor y.desc).map (fun d => d.parameters.length) = some n) (hR : rm.frames + 1 ≤ R.frames ∧ 8 + (maxL + 11) + rm.locals ≤ R.locals) :
    vx_CVW R s args own C index y bytes maxL ret hh ws rm mc ms n := by
  obtain ⟨hC, hd⟩ := hd
  subst hC
  have ok : ∀ w ∈ wsV own index y.cls y ws, w.before args s = true := fun w h => ht w (hT w h).1
  have hG : GoodIn Ts ws := fun w h => hT w (by unfold wsV; exact List.mem_append_right _ h)
  have hc : Cond.codeWith y bytes maxL ret hh ∈ ws := by rw [hw]; exact List.mem_cons_self
  refine ⟨⟨hrc, hrs, hR.1, hR.2, pay_in ht hG, hc⟩, ht _ (hG _ hc).1, ok _ (by simp [wsV]), ⟨hd.1, hd.2.1⟩, fun sig h => ?_, ok _ (by simp [wsV]), ok _ (by simp [wsV]), ok _ (by simp [wsV])⟩
  have h2 := hd.2.2
  rw [h] at h2
  exact (Option.some.inj h2).symm
theorem vx_runVW {y : MethodName} {bytes cc : ByteArray} {maxL nL mc ms n index : Nat} {ret : Option FieldType} {hh : List (Nat × Nat × Nat × Nat)} {ws : List Cond} {rm : Room} {Pc : Array Value → State → Prop} {Qc : Array Value → State → Outcome → State → Prop} {free : Addr → Prop} {Ts : List Cond} {own C : String} {b : Addr} {As rest : List Value} {g : JFrame}
    (S : CallFix p m c cc nL s args Ts own) (hM : Met l y ws rm Pc Qc mc ms free) (cw : vx_CVW R s args own C index y bytes maxL ret hh ws rm mc ms n) (hp : PreV s H C b Pc As)
    (hg : g.method = m) (hn : As.length = n) (hsize : g.locals.size = nL) (hstack : g.stack = As.reverse ++ .ref b :: rest) (hW : 2 * g.monitorRoom + (rest.map fun v => v.category).sum ≤ 8) (hdg : decode cc g.pc = .ok (.invokevirtual index, 3)) (hf : cells + mc ≤ R.cells ∧ slots + ms ≤ R.slots) :
    va_Run p l e R s m args below meth c H locs cells slots mc ms g rest (Qc (Value.ref b :: As).toArray) free := by
  obtain ⟨⟨hrc, hrs, hfr, hlo, hws, hcw⟩, hcode, hini, hy, hlen, hl, hin, hse⟩ := cw
  have hK : Back l R p e below s args y 3 8 (PreOf R mc ms Pc) (PostOf Qc mc ms free) := va_backW (hh := hh) (bytes := bytes) (maxL := maxL) (ret := ret) hM hp.1 hrc hrs hfr hlo hws hcw (fun a' U hW => word_at hW (Or.inl (by first | rfl | simp [Cond.onTables, Cond.keeps, Cond.steady])) hini)
  obtain ⟨hx, hb, hml, ho, -⟩ := S
  obtain ⟨-, ⟨cellB, hcB, hoB, hclB⟩, hPc⟩ := hp
  intro T hT X
  obtain ⟨v, vm₁, ⟨U', l2, c2, s2⟩, hW₁, X', ⟨g', mk, t, L, e1, e2, hq, h1, hL, h2, h3⟩, st⟩ := vx_callVW X hx (C := C) (hh := hh) (bytes := bytes) (maxL := maxL) (ret := ret) ho hl hin hse hcode hy hK (by rw [hT]; exact hcB) hoB hclB hg (hsize.trans hml.symm) (argsL := As) (rest := rest) (fun sig h => hn.trans (hlen sig h)) hstack hW (by rw [hb]; exact hdg)
    (fun vm₁ hW₁ => ⟨hf.1, hf.2, hPc (T.setVm vm₁) hT hW₁⟩)
  dsimp only [Pt.U, Pt.locs, Pt.cells, Pt.slots] at X' e1 e2 h1 h2 h3 st
  subst h1; subst h2; subst h3
  exact ⟨v, (T.setVm vm₁).calling g' mk (Value.ref b :: As).toArray, t, U', L, hT, X', hL, e1, e2, hq, st⟩
section
variable {y : MethodName} {bytes cc : ByteArray} {maxL nL mc ms n index : Nat} {ret : Option FieldType} {ws : List Cond} {rm : Room} {Pc : Array Value → State → Prop} {Qc : Array Value → State → Outcome → State → Prop} {XC : String → State → State → Prop} {free : Addr → Prop} {Ts : List Cond} {own C : String} {b : Addr} {As rest : List Value} {g : JFrame}
theorem vx_runVX {hh : List (Nat × Nat × Nat × Nat)} (S : CallFix p m c cc nL s args Ts own) (hM : vx_Met l y ws rm Pc Qc XC mc ms free) (cw : vx_CVW R s args own C index y bytes maxL ret hh ws rm mc ms n) (hp : PreV s H C b Pc As)
    (hg : g.method = m) (hn : As.length = n) (hsize : g.locals.size = nL) (hstack : g.stack = As.reverse ++ .ref b :: rest) (hW : 2 * g.monitorRoom + (rest.map fun v => v.category).sum ≤ 8) (hdg : decode cc g.pc = .ok (.invokevirtual index, 3)) (hf : cells + mc ≤ R.cells ∧ slots + ms ≤ R.slots) :
    vx_Run p l e R s m args below meth c H locs cells slots mc ms g rest (Qc (Value.ref b :: As).toArray) XC free := by
  obtain ⟨⟨hrc, hrs, hfr, hlo, hws, hcw⟩, hcode, hini, hy, hlen, hl, hin, hse⟩ := cw
  have hK : vx_Back l R p e below s args y 3 8 (PreOf R mc ms Pc) (PostOf Qc mc ms free) (vx_Post XC mc ms free) := vx_backW (hh := hh) (bytes := bytes) (maxL := maxL) (ret := ret) hM hp.1 hrc hrs hfr hlo hws hcw (fun a' U hW => word_at hW (Or.inl (by first | rfl | simp [Cond.onTables, Cond.keeps, Cond.steady])) hini)
  obtain ⟨hx, hb, hml, ho, -⟩ := S
  obtain ⟨-, ⟨cellB, hcB, hoB, hclB⟩, hPc⟩ := hp
  intro T hT X
  rcases vx_callVX X hx (C := C) (hh := hh) (bytes := bytes) (maxL := maxL) (ret := ret) ho hl hin hse hcode hy hK (by rw [hT]; exact hcB) hoB hclB hg (hsize.trans hml.symm) (argsL := As) (rest := rest) (fun sig h => hn.trans (hlen sig h)) hstack hW (by rw [hb]; exact hdg)
    (fun vm₁ hW₁ => ⟨hf.1, hf.2, hPc (T.setVm vm₁) hT hW₁⟩) with ⟨v, vm₁, ⟨U', l2, c2, s2⟩, hW₁, X', ⟨g', mk, t, L, e1, e2, hq, h1, hL, h2, h3⟩, st⟩ | ⟨q, vm₁, ⟨U', l2, c2, s2⟩, hW₁, X', ⟨g', mk, t, L, E, ce, e1, e2, hq, hce, hcv, hcl, h1, hL, h2, h3⟩, st⟩
  · dsimp only [Pt.U, Pt.locs, Pt.cells, Pt.slots] at X' e1 e2 h1 h2 h3 st
    subst h1; subst h2; subst h3
    exact Or.inl ⟨v, (T.setVm vm₁).calling g' mk (Value.ref b :: As).toArray, t, U', L, hT, X', hL, e1, e2, hq, st⟩
  · dsimp only [Pt.U, Pt.locs, Pt.cells, Pt.slots] at X' e1 e2 h1 h2 h3 st hcl
    subst h1; subst h2; subst h3
    exact Or.inr ⟨q, (T.setVm vm₁).calling g' mk (Value.ref b :: As).toArray, t, U', L, E, ce, hT, X', hL, e1, e2, hq, hce, hcv, vx_cls hW₁ hcl, st⟩
theorem vx_runSX {hh : List (Nat × Nat × Nat × Nat)} (S : CallFix p m c cc nL s args Ts own) (hM : vx_Met l y ws rm Pc Qc XC mc ms free) (cw : vx_CSW R s args own index y bytes maxL ret hh ws rm mc ms n) (hp : PreS s H Pc As)
    (hg : g.method = m) (hn : As.length = n) (hsize : g.locals.size = nL) (hstack : g.stack = As.reverse ++ rest) (hW : 2 * g.monitorRoom + (rest.map fun v => v.category).sum ≤ 8) (hdg : decode cc g.pc = .ok (.invokestatic index, 3)) (hf : cells + mc ≤ R.cells ∧ slots + ms ≤ R.slots) :
    vx_Run p l e R s m args below meth c H locs cells slots mc ms g rest (Qc As.toArray) XC free := by
  obtain ⟨⟨hrc, hrs, hfr, hlo, hws, hcw⟩, hcode, hini, hy, hlen, hl, hstt⟩ := cw
  have hK : vx_Back l R p e below s args y 3 8 (PreOf R mc ms Pc) (PostOf Qc mc ms free) (vx_Post XC mc ms free) := vx_backW (hh := hh) (bytes := bytes) (maxL := maxL) (ret := ret) hM hp.1 hrc hrs hfr hlo hws hcw (fun a' U hW => word_at hW (Or.inl (by first | rfl | simp [Cond.onTables, Cond.keeps, Cond.steady])) hini)
  obtain ⟨hx, hb, hml, ho, -⟩ := S
  intro T hT X
  rcases vx_callSX X hx (hh := hh) (bytes := bytes) (maxL := maxL) (ret := ret) ho hl hstt hini hcode hy hK hg (hsize.trans hml.symm) (argsL := As) (rest := rest) (fun sig h => hn.trans (hlen sig h)) hstack hW (by rw [hb]; exact hdg)
    (fun vm₁ hW₁ => ⟨hf.1, hf.2, hp.2 (T.setVm vm₁) hT hW₁⟩) with ⟨v, vm₁, ⟨U', l2, c2, s2⟩, hW₁, X', ⟨g', mk, t, L, e1, e2, hq, h1, hL, h2, h3⟩, st⟩ | ⟨q, vm₁, ⟨U', l2, c2, s2⟩, hW₁, X', ⟨g', mk, t, L, E, ce, e1, e2, hq, hce, hcv, hcl, h1, hL, h2, h3⟩, st⟩
  · dsimp only [Pt.U, Pt.locs, Pt.cells, Pt.slots] at X' e1 e2 h1 h2 h3 st
    subst h1; subst h2; subst h3
    exact Or.inl ⟨v, (T.setVm vm₁).calling g' mk As.toArray, t, U', L, hT, X', hL, e1, e2, hq, st⟩
  · dsimp only [Pt.U, Pt.locs, Pt.cells, Pt.slots] at X' e1 e2 h1 h2 h3 st hcl
    subst h1; subst h2; subst h3
    exact Or.inr ⟨q, (T.setVm vm₁).calling g' mk As.toArray, t, U', L, E, ce, hT, X', hL, e1, e2, hq, hce, hcv, vx_cls hW₁ hcl, st⟩
end
end VXH
theorem vx_ofWH {l : Launch} {y : MethodName} {ws ws' : List Cond} {rm : Room} {Pc : Array Value → State → Prop} {Qc : Array Value → State → Outcome → State → Prop} {XC : String → State → State → Prop} {mc ms : Nat} {free : Addr → Prop} {cc : ByteArray} {maxL : Nat} {ret : Option FieldType} {hh : List (Nat × Nat × Nat × Nat)}
    (hy : plainName y.cls = true) (hw : ws = Cond.codeWith y cc maxL ret hh :: ws')
    (body : ∀ p e s m args below meth c s₁, BodyLoose p l y (headSpec ws rm) cc maxL ret e s m args below meth c s₁ → c.maxLocals = maxL → Pc args s →
      W p l e (headSpec ws rm).room s m args below meth c s.heap [] 0 0 (vx_MQ below Qc XC args s mc ms free) (entryFrame m args maxL)) : vx_Met l y ws rm Pc Qc XC mc ms free := by
  refine MetFree.of_bodyS (code := cc) (maxLocals := maxL) (ret := ret) hy ?_ ?_
  · intro args s m h hn
    obtain ⟨m9, meth, c, hn9, h1, h2, h3, h4, -, h5, h6, -⟩ := Cond.codeWith_spec (atoms_spec (ws := ws) h _ (by rw [hw]; exact List.mem_cons_self))
    cases hn.symm.trans hn9
    exact ⟨meth, c, h1, h2, h3, h4, h5, h6⟩
  · intro p e s m args below meth c s₁ B hml hP _
    have hh0 : s₁.heap = s.heap := by rw [B.state]; rfl
    obtain ⟨t, a1, o, b1, b2, b3⟩ := body p e s m args below meth c s₁ B hml hP s₁ hh0 (Stand.of_body B)
    exact ⟨t, o, a1, b1, b2, b3⟩
/-! ===== END ===== -/
end
section
def RX0 : String := "ShoreFields$Begin"
def TX0 : u_T := fun k => match k with
  | 0 => ("ShoreFields$Begin", "fieldCount", "I", false)
  | 1 => ("ShoreFields$Begin", "shoreNumber", "I", false)
  | 2 => ("ShoreFields$Begin", "sandOf", "[I", true)
  | 3 => ("ShoreFields$Begin", "wallOf", "[I", true)
  | 4 => ("ShoreFields$Begin", "feedOf", "[I", true)
  | 5 => ("ShoreFields$Begin", "kindAt", "[I", true)
  | 6 => ("ShoreFields$Begin", "sizeAt", "[I", true)
  | _ => ("ShoreFields$Begin", "leakAt", "[I", true)
def tyX0 : Nat → FieldType := fun k => match k with
  | 0 => .int
  | 1 => .int
  | 2 => .array .int
  | 3 => .array .int
  | 4 => .array .int
  | 5 => .array .int
  | 6 => .array .int
  | _ => .array .int
abbrev wsX00 : List Cond := u_ws RX0 TX0 8
theorem nmX0 : ∀ a, a < 8 → ∀ b, b < 8 → a ≠ b → (TX0 a).2.1 ≠ (TX0 b).2.1 := by decide +kernel
theorem tyX0_ok : ∀ k, k < 8 → parseFieldDescriptor (TX0 k).2.2.1 = some (tyX0 k) := by decide +kernel
abbrev cX0_init : ByteArray := prog_2_method_1_code
def yX0_init : MethodName := ⟨RX0, "<init>", "()V"⟩
abbrev cX0_hasField : ByteArray := prog_2_method_2_code
def yX0_hasField : MethodName := ⟨RX0, "hasField", "(I)Z"⟩
abbrev cX0_hasBorder : ByteArray := prog_2_method_3_code
def yX0_hasBorder : MethodName := ⟨RX0, "hasBorder", "(I)Z"⟩
abbrev cX0_liesBetweenFields : ByteArray := prog_2_method_4_code
def yX0_liesBetweenFields : MethodName := ⟨RX0, "liesBetweenFields", "(I)Z"⟩
abbrev cX0_hasAt : ByteArray := prog_2_method_5_code
def yX0_hasAt : MethodName := ⟨RX0, "hasAt", "(II)Z"⟩
abbrev cX0_hasGroynes : ByteArray := prog_2_method_6_code
def yX0_hasGroynes : MethodName := ⟨RX0, "hasGroynes", "(I)Z"⟩
abbrev cX0_build : ByteArray := prog_2_method_7_code
def yX0_build : MethodName := ⟨RX0, "build", "(IIII)V"⟩
abbrev cX0_leaveAway : ByteArray := prog_2_method_8_code
def yX0_leaveAway : MethodName := ⟨RX0, "leaveAway", "(I)V"⟩
abbrev cX0_copyFrom : ByteArray := prog_2_method_9_code
def yX0_copyFrom : MethodName := ⟨RX0, "copyFrom", "(LShoreFields$Begin;)V"⟩
def RX1 : String := "ShoreFields$Dredgings"
def TX1 : u_T := fun k => match k with
  | 0 => ("ShoreFields$Dredgings", "size", "I", false)
  | 1 => ("ShoreFields$Dredgings", "borders", "[I", true)
  | 2 => ("ShoreFields$Dredgings", "units", "[I", true)
  | 3 => ("ShoreFields$Dredgings", "fields", "[I", true)
  | _ => ("ShoreFields$Dredgings", "weeks", "[I", true)
def tyX1 : Nat → FieldType := fun k => match k with
  | 0 => .int
  | 1 => .array .int
  | 2 => .array .int
  | 3 => .array .int
  | _ => .array .int
abbrev wsX10 : List Cond := u_ws RX1 TX1 5
theorem nmX1 : ∀ a, a < 5 → ∀ b, b < 5 → a ≠ b → (TX1 a).2.1 ≠ (TX1 b).2.1 := by decide +kernel
theorem tyX1_ok : ∀ k, k < 5 → parseFieldDescriptor (TX1 k).2.2.1 = some (tyX1 k) := by decide +kernel
abbrev cX1_init : ByteArray := prog_3_method_1_code
def yX1_init : MethodName := ⟨RX1, "<init>", "()V"⟩
abbrev cX1_add : ByteArray := prog_3_method_2_code
def yX1_add : MethodName := ⟨RX1, "add", "(IIII)V"⟩
abbrev cX1_redoBehind : ByteArray := prog_3_method_3_code
def yX1_redoBehind : MethodName := ⟨RX1, "redoBehind", "(ILShoreFields$Shore;)V"⟩
def RX2 : String := "ShoreFields$Shore"
def TX2 : u_T := fun k => match k with
  | 0 => ("ShoreFields$Shore", "sandOf", "[I", true)
  | 1 => ("ShoreFields$Shore", "seaOf", "[I", true)
  | 2 => ("ShoreFields$Shore", "scourOf", "[I", true)
  | 3 => ("ShoreFields$Shore", "barAt", "[I", true)
  | 4 => ("ShoreFields$Shore", "passedAt", "[I", true)
  | _ => ("ShoreFields$Shore", "changeOf", "[I", true)
def tyX2 : Nat → FieldType := fun k => match k with
  | 0 => .array .int
  | 1 => .array .int
  | 2 => .array .int
  | 3 => .array .int
  | 4 => .array .int
  | _ => .array .int
abbrev wsX20 : List Cond := u_ws RX2 TX2 6
theorem nmX2 : ∀ a, a < 6 → ∀ b, b < 6 → a ≠ b → (TX2 a).2.1 ≠ (TX2 b).2.1 := by decide +kernel
theorem tyX2_ok : ∀ k, k < 6 → parseFieldDescriptor (TX2 k).2.2.1 = some (tyX2 k) := by decide +kernel
abbrev cX2_init : ByteArray := prog_4_method_1_code
def yX2_init : MethodName := ⟨RX2, "<init>", "()V"⟩
abbrev cX2_startFrom : ByteArray := prog_4_method_2_code
def yX2_startFrom : MethodName := ⟨RX2, "startFrom", "(LShoreFields$Begin;)V"⟩
abbrev cX2_lineOf : ByteArray := prog_4_method_3_code
def yX2_lineOf : MethodName := ⟨RX2, "lineOf", "(I)I"⟩
abbrev cX2_sandInAll : ByteArray := prog_4_method_4_code
def yX2_sandInAll : MethodName := ⟨RX2, "sandInAll", "(I)I"⟩
abbrev cX2_bringFromBar : ByteArray := prog_4_method_5_code
def yX2_bringFromBar : MethodName := ⟨RX2, "bringFromBar", "(III)I"⟩
abbrev cX2_goThrough : ByteArray := prog_4_method_6_code
def yX2_goThrough : MethodName := ⟨RX2, "goThrough", "(LShoreFields$Begin;II)V"⟩
abbrev cX2_comeInAtEnd : ByteArray := prog_4_method_7_code
def yX2_comeInAtEnd : MethodName := ⟨RX2, "comeInAtEnd", "(LShoreFields$Begin;II)V"⟩
abbrev cX2_goOutAtEnd : ByteArray := prog_4_method_8_code
def yX2_goOutAtEnd : MethodName := ⟨RX2, "goOutAtEnd", "(LShoreFields$Begin;II)V"⟩
abbrev cX2_passAt : ByteArray := prog_4_method_9_code
def yX2_passAt : MethodName := ⟨RX2, "passAt", "(LShoreFields$Begin;III)V"⟩
abbrev cX2_slope : ByteArray := prog_4_method_10_code
def yX2_slope : MethodName := ⟨RX2, "slope", "(II)I"⟩
abbrev cX2_takeFrom : ByteArray := prog_4_method_11_code
def yX2_takeFrom : MethodName := ⟨RX2, "takeFrom", "(LShoreFields$Begin;II)I"⟩
abbrev cX2_freeSandOf : ByteArray := prog_4_method_12_code
def yX2_freeSandOf : MethodName := ⟨RX2, "freeSandOf", "(LShoreFields$Begin;I)I"⟩
abbrev cX2_addChanges : ByteArray := prog_4_method_13_code
def yX2_addChanges : MethodName := ⟨RX2, "addChanges", "(LShoreFields$Begin;)V"⟩
abbrev cX2_takeOutToSea : ByteArray := prog_4_method_14_code
def yX2_takeOutToSea : MethodName := ⟨RX2, "takeOutToSea", "(LShoreFields$Begin;I)V"⟩
abbrev cX2_bringBackFromSea : ByteArray := prog_4_method_15_code
def yX2_bringBackFromSea : MethodName := ⟨RX2, "bringBackFromSea", "(LShoreFields$Begin;)V"⟩
def RX3 : String := "ShoreFields$SurveyList"
def TX3 : u_T := fun k => match k with
  | 0 => ("ShoreFields$SurveyList", "size", "I", false)
  | 1 => ("ShoreFields$SurveyList", "fields", "[I", true)
  | 2 => ("ShoreFields$SurveyList", "weeks", "[I", true)
  | 3 => ("ShoreFields$SurveyList", "leastLines", "[I", true)
  | _ => ("ShoreFields$SurveyList", "mostLines", "[I", true)
def tyX3 : Nat → FieldType := fun k => match k with
  | 0 => .int
  | 1 => .array .int
  | 2 => .array .int
  | 3 => .array .int
  | _ => .array .int
abbrev wsX30 : List Cond := u_ws RX3 TX3 5
theorem nmX3 : ∀ a, a < 5 → ∀ b, b < 5 → a ≠ b → (TX3 a).2.1 ≠ (TX3 b).2.1 := by decide +kernel
theorem tyX3_ok : ∀ k, k < 5 → parseFieldDescriptor (TX3 k).2.2.1 = some (tyX3 k) := by decide +kernel
abbrev cX3_init : ByteArray := prog_5_method_1_code
def yX3_init : MethodName := ⟨RX3, "<init>", "()V"⟩
abbrev cX3_add : ByteArray := prog_5_method_2_code
def yX3_add : MethodName := ⟨RX3, "add", "(IIII)V"⟩
abbrev cX3_agreeBehind : ByteArray := prog_5_method_3_code
def yX3_agreeBehind : MethodName := ⟨RX3, "agreeBehind", "(ILShoreFields$Shore;)Z"⟩
def RX4 : String := "ShoreFields$Weather"
def TX4 : u_T := fun k => match k with
  | 0 => ("ShoreFields$Weather", "size", "I", false)
  | 1 => ("ShoreFields$Weather", "heights", "[I", true)
  | _ => ("ShoreFields$Weather", "sides", "[I", true)
def tyX4 : Nat → FieldType := fun k => match k with
  | 0 => .int
  | 1 => .array .int
  | _ => .array .int
abbrev wsX40 : List Cond := u_ws RX4 TX4 3
theorem nmX4 : ∀ a, a < 3 → ∀ b, b < 3 → a ≠ b → (TX4 a).2.1 ≠ (TX4 b).2.1 := by decide +kernel
theorem tyX4_ok : ∀ k, k < 3 → parseFieldDescriptor (TX4 k).2.2.1 = some (tyX4 k) := by decide +kernel
abbrev cX4_init : ByteArray := prog_6_method_1_code
def yX4_init : MethodName := ⟨RX4, "<init>", "()V"⟩
abbrev cX4_add : ByteArray := prog_6_method_2_code
def yX4_add : MethodName := ⟨RX4, "add", "(II)V"⟩
def RX5 : String := "ShoreFields$WorkList"
def TX5 : u_T := fun k => match k with
  | 0 => ("ShoreFields$WorkList", "size", "I", false)
  | 1 => ("ShoreFields$WorkList", "kinds", "[I", true)
  | 2 => ("ShoreFields$WorkList", "places", "[I", true)
  | 3 => ("ShoreFields$WorkList", "amounts", "[I", true)
  | _ => ("ShoreFields$WorkList", "prices", "[I", true)
def tyX5 : Nat → FieldType := fun k => match k with
  | 0 => .int
  | 1 => .array .int
  | 2 => .array .int
  | 3 => .array .int
  | _ => .array .int
abbrev wsX50 : List Cond := u_ws RX5 TX5 5
theorem nmX5 : ∀ a, a < 5 → ∀ b, b < 5 → a ≠ b → (TX5 a).2.1 ≠ (TX5 b).2.1 := by decide +kernel
theorem tyX5_ok : ∀ k, k < 5 → parseFieldDescriptor (TX5 k).2.2.1 = some (tyX5 k) := by decide +kernel
abbrev cX5_init : ByteArray := prog_7_method_1_code
def yX5_init : MethodName := ⟨RX5, "<init>", "()V"⟩
abbrev cX5_add : ByteArray := prog_7_method_2_code
def yX5_add : MethodName := ⟨RX5, "add", "(IIII)V"⟩
abbrev cX5_priceOf : ByteArray := prog_7_method_3_code
def yX5_priceOf : MethodName := ⟨RX5, "priceOf", "(I)I"⟩
abbrev cX5_applyTo : ByteArray := prog_7_method_4_code
def yX5_applyTo : MethodName := ⟨RX5, "applyTo", "(LShoreFields$Begin;I)V"⟩
abbrev cX5_applyOne : ByteArray := prog_7_method_5_code
def yX5_applyOne : MethodName := ⟨RX5, "applyOne", "(LShoreFields$Begin;I)V"⟩
def RX6 : String := "ShoreFields"
def TX6 : u_T := fun k => match k with
  | 0 => ("ShoreFields", "begin", "LShoreFields$Begin;", true)
  | 1 => ("ShoreFields", "trial", "LShoreFields$Begin;", true)
  | 2 => ("ShoreFields", "now", "LShoreFields$Shore;", true)
  | 3 => ("ShoreFields", "again", "LShoreFields$Shore;", true)
  | 4 => ("ShoreFields", "weather", "LShoreFields$Weather;", true)
  | 5 => ("ShoreFields", "dredgings", "LShoreFields$Dredgings;", true)
  | 6 => ("ShoreFields", "workList", "LShoreFields$WorkList;", true)
  | 7 => ("ShoreFields", "surveyList", "LShoreFields$SurveyList;", true)
  | 8 => ("ShoreFields", "marks", "[I", true)
  | 9 => ("ShoreFields", "weeksGone", "I", false)
  | _ => ("ShoreFields", "anythingTold", "Z", false)
def tyX6 : Nat → FieldType := fun k => match k with
  | 0 => .object "ShoreFields$Begin"
  | 1 => .object "ShoreFields$Begin"
  | 2 => .object "ShoreFields$Shore"
  | 3 => .object "ShoreFields$Shore"
  | 4 => .object "ShoreFields$Weather"
  | 5 => .object "ShoreFields$Dredgings"
  | 6 => .object "ShoreFields$WorkList"
  | 7 => .object "ShoreFields$SurveyList"
  | 8 => .array .int
  | 9 => .int
  | _ => .boolean
abbrev wsX60 : List Cond := u_ws RX6 TX6 11
theorem nmX6 : ∀ a, a < 11 → ∀ b, b < 11 → a ≠ b → (TX6 a).2.1 ≠ (TX6 b).2.1 := by decide +kernel
theorem tyX6_ok : ∀ k, k < 11 → parseFieldDescriptor (TX6 k).2.2.1 = some (tyX6 k) := by decide +kernel
abbrev cX6_init : ByteArray := prog_1_method_1_code
def yX6_init : MethodName := ⟨RX6, "<init>", "()V"⟩
abbrev cX6_fields : ByteArray := prog_1_method_2_code
def yX6_fields : MethodName := ⟨RX6, "fields", "(I)Z"⟩
abbrev cX6_sand : ByteArray := prog_1_method_3_code
def yX6_sand : MethodName := ⟨RX6, "sand", "(II)Z"⟩
abbrev cX6_groyne : ByteArray := prog_1_method_4_code
def yX6_groyne : MethodName := ⟨RX6, "groyne", "(III)Z"⟩
abbrev cX6_mouth : ByteArray := prog_1_method_5_code
def yX6_mouth : MethodName := ⟨RX6, "mouth", "(II)Z"⟩
abbrev cX6_wall : ByteArray := prog_1_method_6_code
def yX6_wall : MethodName := ⟨RX6, "wall", "(II)Z"⟩
abbrev cX6_feed : ByteArray := prog_1_method_7_code
def yX6_feed : MethodName := ⟨RX6, "feed", "(II)Z"⟩
abbrev cX6_number : ByteArray := prog_1_method_8_code
def yX6_number : MethodName := ⟨RX6, "number", "(I)Z"⟩
abbrev cX6_wave : ByteArray := prog_1_method_9_code
def yX6_wave : MethodName := ⟨RX6, "wave", "(II)I"⟩
abbrev cX6_weeks : ByteArray := prog_1_method_10_code
def yX6_weeks : MethodName := ⟨RX6, "weeks", "(I)I"⟩
abbrev cX6_dredge : ByteArray := prog_1_method_11_code
def yX6_dredge : MethodName := ⟨RX6, "dredge", "(III)I"⟩
abbrev cX6_line : ByteArray := prog_1_method_12_code
def yX6_line : MethodName := ⟨RX6, "line", "(I)I"⟩
abbrev cX6_look : ByteArray := prog_1_method_13_code
def yX6_look : MethodName := ⟨RX6, "look", "(II)I"⟩
abbrev cX6_border : ByteArray := prog_1_method_14_code
def yX6_border : MethodName := ⟨RX6, "border", "(II)I"⟩
abbrev cX6_without : ByteArray := prog_1_method_15_code
def yX6_without : MethodName := ⟨RX6, "without", "(II)I"⟩
abbrev cX6_share : ByteArray := prog_1_method_16_code
def yX6_share : MethodName := ⟨RX6, "share", "(III)I"⟩
abbrev cX6_work : ByteArray := prog_1_method_17_code
def yX6_work : MethodName := ⟨RX6, "work", "(IIII)I"⟩
abbrev cX6_mark : ByteArray := prog_1_method_18_code
def yX6_mark : MethodName := ⟨RX6, "mark", "(II)Z"⟩
abbrev cX6_works : ByteArray := prog_1_method_19_code
def yX6_works : MethodName := ⟨RX6, "works", "()I"⟩
abbrev cX6_survey : ByteArray := prog_1_method_20_code
def yX6_survey : MethodName := ⟨RX6, "survey", "(IIII)I"⟩
abbrev cX6_fits : ByteArray := prog_1_method_21_code
def yX6_fits : MethodName := ⟨RX6, "fits", "()I"⟩
abbrev cX6_count : ByteArray := prog_1_method_22_code
def yX6_count : MethodName := ⟨RX6, "count", "(I)I"⟩
abbrev cX6_isWithin : ByteArray := prog_1_method_23_code
def yX6_isWithin : MethodName := ⟨RX6, "isWithin", "(III)Z"⟩
abbrev cX6_factorial : ByteArray := prog_1_method_24_code
def yX6_factorial : MethodName := ⟨RX6, "factorial", "(I)I"⟩
abbrev cX6_takeInBegin : ByteArray := prog_1_method_25_code
def yX6_takeInBegin : MethodName := ⟨RX6, "takeInBegin", "()V"⟩
abbrev cX6_lineLeavingAway : ByteArray := prog_1_method_26_code
def yX6_lineLeavingAway : MethodName := ⟨RX6, "lineLeavingAway", "(II)I"⟩
abbrev cX6_keepsMarks : ByteArray := prog_1_method_27_code
def yX6_keepsMarks : MethodName := ⟨RX6, "keepsMarks", "(I)Z"⟩
abbrev cX6_agreesWithSurveys : ByteArray := prog_1_method_28_code
def yX6_agreesWithSurveys : MethodName := ⟨RX6, "agreesWithSurveys", "(I)Z"⟩
abbrev cX6_goThroughAgain : ByteArray := prog_1_method_29_code
def yX6_goThroughAgain : MethodName := ⟨RX6, "goThroughAgain", "(I)V"⟩
def RX7 : String := "ShoreFieldsModel"
def TX7 : u_T := fun k => match k with
  | 0 => ("ShoreFieldsModel", "thrown", "I", false)
  | 1 => ("ShoreFieldsModel", "fields", "I", false)
  | 2 => ("ShoreFieldsModel", "isTold", "Z", false)
  | 3 => ("ShoreFieldsModel", "begin", "[I", true)
  | 4 => ("ShoreFieldsModel", "kind", "[I", true)
  | 5 => ("ShoreFieldsModel", "length", "[I", true)
  | 6 => ("ShoreFieldsModel", "part", "[I", true)
  | 7 => ("ShoreFieldsModel", "walls", "[I", true)
  | 8 => ("ShoreFieldsModel", "feeds", "[I", true)
  | 9 => ("ShoreFieldsModel", "k0", "I", false)
  | 10 => ("ShoreFieldsModel", "told", "I", false)
  | 11 => ("ShoreFieldsModel", "height", "[I", true)
  | 12 => ("ShoreFieldsModel", "side", "[I", true)
  | 13 => ("ShoreFieldsModel", "gone", "I", false)
  | 14 => ("ShoreFieldsModel", "dredges", "I", false)
  | 15 => ("ShoreFieldsModel", "dredgeOf", "[I", true)
  | 16 => ("ShoreFieldsModel", "dredgeUnits", "[I", true)
  | 17 => ("ShoreFieldsModel", "dredgeTo", "[I", true)
  | 18 => ("ShoreFieldsModel", "dredgeOn", "[I", true)
  | 19 => ("ShoreFieldsModel", "sand", "[I", true)
  | 20 => ("ShoreFieldsModel", "sea", "[I", true)
  | 21 => ("ShoreFieldsModel", "scour", "[I", true)
  | 22 => ("ShoreFieldsModel", "bar", "[I", true)
  | 23 => ("ShoreFieldsModel", "passed", "[I", true)
  | 24 => ("ShoreFieldsModel", "lengths", "[I", true)
  | 25 => ("ShoreFieldsModel", "more", "[I", true)
  | 26 => ("ShoreFieldsModel", "works", "I", false)
  | 27 => ("ShoreFieldsModel", "workKind", "[I", true)
  | 28 => ("ShoreFieldsModel", "workAt", "[I", true)
  | 29 => ("ShoreFieldsModel", "workN", "[I", true)
  | 30 => ("ShoreFieldsModel", "workPrice", "[I", true)
  | 31 => ("ShoreFieldsModel", "marks", "[I", true)
  | 32 => ("ShoreFieldsModel", "surveys", "I", false)
  | 33 => ("ShoreFieldsModel", "surveyOf", "[I", true)
  | 34 => ("ShoreFieldsModel", "surveyOn", "[I", true)
  | 35 => ("ShoreFieldsModel", "surveyLow", "[I", true)
  | _ => ("ShoreFieldsModel", "surveyHigh", "[I", true)
def tyX7 : Nat → FieldType := fun k => match k with
  | 0 => .int
  | 1 => .int
  | 2 => .boolean
  | 3 => .array .int
  | 4 => .array .int
  | 5 => .array .int
  | 6 => .array .int
  | 7 => .array .int
  | 8 => .array .int
  | 9 => .int
  | 10 => .int
  | 11 => .array .int
  | 12 => .array .int
  | 13 => .int
  | 14 => .int
  | 15 => .array .int
  | 16 => .array .int
  | 17 => .array .int
  | 18 => .array .int
  | 19 => .array .int
  | 20 => .array .int
  | 21 => .array .int
  | 22 => .array .int
  | 23 => .array .int
  | 24 => .array .int
  | 25 => .array .int
  | 26 => .int
  | 27 => .array .int
  | 28 => .array .int
  | 29 => .array .int
  | 30 => .array .int
  | 31 => .array .int
  | 32 => .int
  | 33 => .array .int
  | 34 => .array .int
  | 35 => .array .int
  | _ => .array .int
abbrev wsX70 : List Cond := u_ws RX7 TX7 37
theorem nmX7 : ∀ a, a < 37 → ∀ b, b < 37 → a ≠ b → (TX7 a).2.1 ≠ (TX7 b).2.1 := by decide +kernel
theorem tyX7_ok : ∀ k, k < 37 → parseFieldDescriptor (TX7 k).2.2.1 = some (tyX7 k) := by decide +kernel
abbrev cX7_thrown : ByteArray := prog_9_method_1_code
def yX7_thrown : MethodName := ⟨RX7, "thrown", "()I"⟩
abbrev cX7_init : ByteArray := prog_9_method_2_code
def yX7_init : MethodName := ⟨RX7, "<init>", "()V"⟩
abbrev cX7_within : ByteArray := prog_9_method_3_code
def yX7_within : MethodName := ⟨RX7, "within", "(III)Z"⟩
abbrev cX7_fields : ByteArray := prog_9_method_4_code
def yX7_fields : MethodName := ⟨RX7, "fields", "(I)Z"⟩
abbrev cX7_isField : ByteArray := prog_9_method_5_code
def yX7_isField : MethodName := ⟨RX7, "isField", "(I)Z"⟩
abbrev cX7_isInner : ByteArray := prog_9_method_6_code
def yX7_isInner : MethodName := ⟨RX7, "isInner", "(I)Z"⟩
abbrev cX7_sand : ByteArray := prog_9_method_7_code
def yX7_sand : MethodName := ⟨RX7, "sand", "(II)Z"⟩
abbrev cX7_groyne : ByteArray := prog_9_method_8_code
def yX7_groyne : MethodName := ⟨RX7, "groyne", "(III)Z"⟩
abbrev cX7_mouth : ByteArray := prog_9_method_9_code
def yX7_mouth : MethodName := ⟨RX7, "mouth", "(II)Z"⟩
abbrev cX7_wall : ByteArray := prog_9_method_10_code
def yX7_wall : MethodName := ⟨RX7, "wall", "(II)Z"⟩
abbrev cX7_feed : ByteArray := prog_9_method_11_code
def yX7_feed : MethodName := ⟨RX7, "feed", "(II)Z"⟩
abbrev cX7_number : ByteArray := prog_9_method_12_code
def yX7_number : MethodName := ⟨RX7, "number", "(I)Z"⟩
abbrev cX7_wave : ByteArray := prog_9_method_13_code
def yX7_wave : MethodName := ⟨RX7, "wave", "(II)I"⟩
abbrev cX7_begins : ByteArray := prog_9_method_14_code
def yX7_begins : MethodName := ⟨RX7, "begins", "(I)V"⟩
abbrev cX7_brings : ByteArray := prog_9_method_15_code
def yX7_brings : MethodName := ⟨RX7, "brings", "(II)V"⟩
abbrev cX7_above : ByteArray := prog_9_method_16_code
def yX7_above : MethodName := ⟨RX7, "above", "(I)I"⟩
abbrev cX7_goesOut : ByteArray := prog_9_method_17_code
def yX7_goesOut : MethodName := ⟨RX7, "goesOut", "(II)I"⟩
abbrev cX7_passes : ByteArray := prog_9_method_18_code
def yX7_passes : MethodName := ⟨RX7, "passes", "(IIIII)I"⟩
abbrev cX7_passing : ByteArray := prog_9_method_19_code
def yX7_passing : MethodName := ⟨RX7, "passing", "(III)V"⟩
abbrev cX7_week : ByteArray := prog_9_method_20_code
def yX7_week : MethodName := ⟨RX7, "week", "(II)V"⟩
abbrev cX7_dredged : ByteArray := prog_9_method_21_code
def yX7_dredged : MethodName := ⟨RX7, "dredged", "(II)V"⟩
abbrev cX7_runs : ByteArray := prog_9_method_22_code
def yX7_runs : MethodName := ⟨RX7, "runs", "(II)V"⟩
abbrev cX7_weeks : ByteArray := prog_9_method_23_code
def yX7_weeks : MethodName := ⟨RX7, "weeks", "(I)I"⟩
abbrev cX7_dredge : ByteArray := prog_9_method_24_code
def yX7_dredge : MethodName := ⟨RX7, "dredge", "(III)I"⟩
abbrev cX7_line : ByteArray := prog_9_method_25_code
def yX7_line : MethodName := ⟨RX7, "line", "(I)I"⟩
abbrev cX7_look : ByteArray := prog_9_method_26_code
def yX7_look : MethodName := ⟨RX7, "look", "(II)I"⟩
abbrev cX7_border : ByteArray := prog_9_method_27_code
def yX7_border : MethodName := ⟨RX7, "border", "(II)I"⟩
abbrev cX7_areGroynes : ByteArray := prog_9_method_28_code
def yX7_areGroynes : MethodName := ⟨RX7, "areGroynes", "(I)Z"⟩
abbrev cX7_lineWithout : ByteArray := prog_9_method_29_code
def yX7_lineWithout : MethodName := ⟨RX7, "lineWithout", "(II)I"⟩
abbrev cX7_without : ByteArray := prog_9_method_30_code
def yX7_without : MethodName := ⟨RX7, "without", "(II)I"⟩
abbrev cX7_bits : ByteArray := prog_9_method_31_code
def yX7_bits : MethodName := ⟨RX7, "bits", "(I)I"⟩
abbrev cX7_orders : ByteArray := prog_9_method_32_code
def yX7_orders : MethodName := ⟨RX7, "orders", "(I)I"⟩
abbrev cX7_share : ByteArray := prog_9_method_33_code
def yX7_share : MethodName := ⟨RX7, "share", "(III)I"⟩
abbrev cX7_work : ByteArray := prog_9_method_34_code
def yX7_work : MethodName := ⟨RX7, "work", "(IIII)I"⟩
abbrev cX7_mark : ByteArray := prog_9_method_35_code
def yX7_mark : MethodName := ⟨RX7, "mark", "(II)Z"⟩
abbrev cX7_keeps : ByteArray := prog_9_method_36_code
def yX7_keeps : MethodName := ⟨RX7, "keeps", "(I)Z"⟩
abbrev cX7_works : ByteArray := prog_9_method_37_code
def yX7_works : MethodName := ⟨RX7, "works", "()I"⟩
abbrev cX7_survey : ByteArray := prog_9_method_38_code
def yX7_survey : MethodName := ⟨RX7, "survey", "(IIII)I"⟩
abbrev cX7_areSo : ByteArray := prog_9_method_39_code
def yX7_areSo : MethodName := ⟨RX7, "areSo", "(I)Z"⟩
abbrev cX7_fits : ByteArray := prog_9_method_40_code
def yX7_fits : MethodName := ⟨RX7, "fits", "()I"⟩
abbrev cX7_count : ByteArray := prog_9_method_41_code
def yX7_count : MethodName := ⟨RX7, "count", "(I)I"⟩
abbrev cX7_allSand : ByteArray := prog_9_method_42_code
def yX7_allSand : MethodName := ⟨RX7, "allSand", "()I"⟩
def RJ6 : String := "java/lang/Integer"
def TJ6 : u_T := fun k => match k with
  | _ => ("", "", "", false)
def tyJ6 : Nat → FieldType := fun k => match k with
  | _ => .int
abbrev wsJ60 : List Cond := u_ws RJ6 TJ6 0
theorem nmJ6 : ∀ a, a < 0 → ∀ b, b < 0 → a ≠ b → (TJ6 a).2.1 ≠ (TJ6 b).2.1 := by decide +kernel
theorem tyJ6_ok : ∀ k, k < 0 → parseFieldDescriptor (TJ6 k).2.2.1 = some (tyJ6 k) := by decide +kernel
abbrev cJ6_bitCount_0f7a4 : ByteArray := prog_11_method_49_code
def yJ6_bitCount_0f7a4 : MethodName := ⟨RJ6, "bitCount", "(I)I"⟩
def RJ9 : String := "java/lang/Math"
def TJ9 : u_T := fun k => match k with
  | _ => ("", "", "", false)
def tyJ9 : Nat → FieldType := fun k => match k with
  | _ => .int
abbrev wsJ90 : List Cond := u_ws RJ9 TJ9 0
theorem nmJ9 : ∀ a, a < 0 → ∀ b, b < 0 → a ≠ b → (TJ9 a).2.1 ≠ (TJ9 b).2.1 := by decide +kernel
theorem tyJ9_ok : ∀ k, k < 0 → parseFieldDescriptor (TJ9 k).2.2.1 = some (tyJ9 k) := by decide +kernel
abbrev cJ9_max_7cf53 : ByteArray := prog_12_method_65_code
def yJ9_max_7cf53 : MethodName := ⟨RJ9, "max", "(II)I"⟩
abbrev cJ9_min_7cf53 : ByteArray := prog_12_method_69_code
def yJ9_min_7cf53 : MethodName := ⟨RJ9, "min", "(II)I"⟩
def RJ0 : String := "java/lang/String"
def TJ0 : u_T := fun k => match k with
  | _ => ("", "", "", false)
def tyJ0 : Nat → FieldType := fun k => match k with
  | _ => .int
abbrev wsJ00 : List Cond := u_ws RJ0 TJ0 0
theorem nmJ0 : ∀ a, a < 0 → ∀ b, b < 0 → a ≠ b → (TJ0 a).2.1 ≠ (TJ0 b).2.1 := by decide +kernel
theorem tyJ0_ok : ∀ k, k < 0 → parseFieldDescriptor (TJ0 k).2.2.1 = some (tyJ0 k) := by decide +kernel
def RJ10 : String := "java/lang/System"
def TJ10 : u_T := fun k => match k with
  | _ => ("", "", "", false)
def tyJ10 : Nat → FieldType := fun k => match k with
  | _ => .int
abbrev wsJ100 : List Cond := u_ws RJ10 TJ10 0
theorem nmJ10 : ∀ a, a < 0 → ∀ b, b < 0 → a ≠ b → (TJ10 a).2.1 ≠ (TJ10 b).2.1 := by decide +kernel
theorem tyJ10_ok : ∀ k, k < 0 → parseFieldDescriptor (TJ10 k).2.2.1 = some (tyJ10 k) := by decide +kernel
def RJ7 : String := "java/util/Arrays"
def TJ7 : u_T := fun k => match k with
  | _ => ("", "", "", false)
def tyJ7 : Nat → FieldType := fun k => match k with
  | _ => .int
abbrev wsJ70 : List Cond := u_ws RJ7 TJ7 0
theorem nmJ7 : ∀ a, a < 0 → ∀ b, b < 0 → a ≠ b → (TJ7 a).2.1 ≠ (TJ7 b).2.1 := by decide +kernel
theorem tyJ7_ok : ∀ k, k < 0 → parseFieldDescriptor (TJ7 k).2.2.1 = some (tyJ7 k) := by decide +kernel
abbrev cJ7_fill_53178 : ByteArray := prog_17_method_103_code
def yJ7_fill_53178 : MethodName := ⟨RJ7, "fill", "([II)V"⟩
def RL : String := "ShoreFieldsLaw"
abbrev cL_line : ByteArray := method_3_code
def yL_line : MethodName := ⟨RL, "line", "(LShoreFields;I[J)I"⟩
abbrev cL_share : ByteArray := method_4_code
def yL_share : MethodName := ⟨RL, "share", "(LShoreFields;III[J)I"⟩
abbrev cL_law : ByteArray := code
def yL_law : MethodName := ⟨RL, "law", "([I)Z"⟩
def wsJ7_fill_53178 : List Cond := .code yJ7_fill_53178 cJ7_fill_53178 4 none :: ([])
def wsX0_init : List Cond := .code yX0_init cX0_init 1 none :: ([.methodLink RX0 3 objectInit, .instanceMethod objectInit, .code objectInit ⟨#[0xb1]⟩ 1 none, .fieldLink RX0 9 "ShoreFields$Begin" "fieldCount" "I", .fieldLink RX0 15 "ShoreFields$Begin" "shoreNumber" "I", .arrayClass .int, .fieldLink RX0 18 "ShoreFields$Begin" "sandOf" "[I", .fieldLink RX0 22 "ShoreFields$Begin" "wallOf" "[I", .fieldLink RX0 25 "ShoreFields$Begin" "feedOf" "[I", .fieldLink RX0 28 "ShoreFields$Begin" "kindAt" "[I", .fieldLink RX0 31 "ShoreFields$Begin" "sizeAt" "[I", .fieldLink RX0 34 "ShoreFields$Begin" "leakAt" "[I", .methodLink RX0 37 yJ7_fill_53178, .static yJ7_fill_53178, .initialized RJ7, .code yJ7_fill_53178 cJ7_fill_53178 4 none] ++ wsX00)
def wsX0_hasField : List Cond := .code yX0_hasField cX0_hasField 2 (some .boolean) :: ([.fieldLink RX0 9 "ShoreFields$Begin" "fieldCount" "I"] ++ wsX00)
def wsX0_hasBorder : List Cond := .code yX0_hasBorder cX0_hasBorder 2 (some .boolean) :: ([.fieldLink RX0 9 "ShoreFields$Begin" "fieldCount" "I"] ++ wsX00)
def wsX0_liesBetweenFields : List Cond := .code yX0_liesBetweenFields cX0_liesBetweenFields 2 (some .boolean) :: ([.fieldLink RX0 9 "ShoreFields$Begin" "fieldCount" "I"] ++ wsX00)
def wsX0_hasAt : List Cond := .code yX0_hasAt cX0_hasAt 3 (some .boolean) :: ([.fieldLink RX0 28 "ShoreFields$Begin" "kindAt" "[I", .methodLink RX0 43 yX0_liesBetweenFields, .instanceMethod yX0_liesBetweenFields, .selects RX0 yX0_liesBetweenFields yX0_liesBetweenFields, .initialized RX0, .code yX0_liesBetweenFields cX0_liesBetweenFields 2 (some .boolean), .fieldLink RX0 9 "ShoreFields$Begin" "fieldCount" "I"] ++ wsX00)
def wsX0_hasGroynes : List Cond := .code yX0_hasGroynes cX0_hasGroynes 4 (some .boolean) :: ([.fieldLink RX0 9 "ShoreFields$Begin" "fieldCount" "I", .fieldLink RX0 28 "ShoreFields$Begin" "kindAt" "[I"] ++ wsX00)
def wsX0_build : List Cond := .code yX0_build cX0_build 5 none :: ([.fieldLink RX0 28 "ShoreFields$Begin" "kindAt" "[I", .fieldLink RX0 31 "ShoreFields$Begin" "sizeAt" "[I", .fieldLink RX0 34 "ShoreFields$Begin" "leakAt" "[I"] ++ wsX00)
def wsX0_leaveAway : List Cond := .code yX0_leaveAway cX0_leaveAway 3 none :: ([.fieldLink RX0 9 "ShoreFields$Begin" "fieldCount" "I", .methodLink RX0 47 yX0_build, .instanceMethod yX0_build, .selects RX0 yX0_build yX0_build, .initialized RX0, .code yX0_build cX0_build 5 none, .fieldLink RX0 28 "ShoreFields$Begin" "kindAt" "[I", .fieldLink RX0 31 "ShoreFields$Begin" "sizeAt" "[I", .fieldLink RX0 34 "ShoreFields$Begin" "leakAt" "[I"] ++ wsX00)
def wsX0_copyFrom : List Cond := .code yX0_copyFrom cX0_copyFrom 2 none :: ([.fieldLink RX0 9 "ShoreFields$Begin" "fieldCount" "I", .fieldLink RX0 15 "ShoreFields$Begin" "shoreNumber" "I", .fieldLink RX0 18 "ShoreFields$Begin" "sandOf" "[I", .methodLink RX0 51 arraycopyName, .native arraycopyName, .static arraycopyName, .initialized "java/lang/System", .fieldLink RX0 22 "ShoreFields$Begin" "wallOf" "[I", .fieldLink RX0 25 "ShoreFields$Begin" "feedOf" "[I", .fieldLink RX0 28 "ShoreFields$Begin" "kindAt" "[I", .fieldLink RX0 31 "ShoreFields$Begin" "sizeAt" "[I", .fieldLink RX0 34 "ShoreFields$Begin" "leakAt" "[I"] ++ wsX00)
def wsX1_init : List Cond := .code yX1_init cX1_init 1 none :: ([.methodLink RX1 3 objectInit, .instanceMethod objectInit, .code objectInit ⟨#[0xb1]⟩ 1 none, .fieldLink RX1 9 "ShoreFields$Dredgings" "size" "I", .arrayClass .int, .fieldLink RX1 15 "ShoreFields$Dredgings" "borders" "[I", .fieldLink RX1 19 "ShoreFields$Dredgings" "units" "[I", .fieldLink RX1 22 "ShoreFields$Dredgings" "fields" "[I", .fieldLink RX1 25 "ShoreFields$Dredgings" "weeks" "[I"] ++ wsX10)
def wsX1_add : List Cond := .code yX1_add cX1_add 5 none :: ([.fieldLink RX1 9 "ShoreFields$Dredgings" "size" "I", .fieldLink RX1 15 "ShoreFields$Dredgings" "borders" "[I", .fieldLink RX1 19 "ShoreFields$Dredgings" "units" "[I", .fieldLink RX1 22 "ShoreFields$Dredgings" "fields" "[I", .fieldLink RX1 25 "ShoreFields$Dredgings" "weeks" "[I"] ++ wsX10)
def wsX2_bringFromBar : List Cond := .code yX2_bringFromBar cX2_bringFromBar 5 (some .int) :: ([.fieldLink RX2 21 "ShoreFields$Shore" "barAt" "[I", .methodLink RX2 45 Lib.Math.min.name, .static Lib.Math.min.name, .initialized "java/lang/Math", .code Lib.Math.min.name Lib.Math.min.code 2 (some .int), .fieldLink RX2 9 "ShoreFields$Shore" "sandOf" "[I", .constant RX2 51 (99999)] ++ wsX20)
def wsX1_redoBehind : List Cond := .code yX1_redoBehind cX1_redoBehind 4 none :: ([.fieldLink RX1 9 "ShoreFields$Dredgings" "size" "I", .fieldLink RX1 25 "ShoreFields$Dredgings" "weeks" "[I", .fieldLink RX1 15 "ShoreFields$Dredgings" "borders" "[I", .fieldLink RX1 19 "ShoreFields$Dredgings" "units" "[I", .fieldLink RX1 22 "ShoreFields$Dredgings" "fields" "[I", .methodLink RX1 28 yX2_bringFromBar, .instanceMethod yX2_bringFromBar, .selects RX2 yX2_bringFromBar yX2_bringFromBar, .initialized RX2, .code yX2_bringFromBar cX2_bringFromBar 5 (some .int), .fieldLink RX2 21 "ShoreFields$Shore" "barAt" "[I", .methodLink RX2 45 Lib.Math.min.name, .static Lib.Math.min.name, .initialized "java/lang/Math", .code Lib.Math.min.name Lib.Math.min.code 2 (some .int), .fieldLink RX2 9 "ShoreFields$Shore" "sandOf" "[I", .constant RX2 51 (99999)] ++ wsX10 ++ wsX20)
def wsX2_init : List Cond := .code yX2_init cX2_init 1 none :: ([.methodLink RX2 3 objectInit, .instanceMethod objectInit, .code objectInit ⟨#[0xb1]⟩ 1 none, .arrayClass .int, .fieldLink RX2 9 "ShoreFields$Shore" "sandOf" "[I", .fieldLink RX2 15 "ShoreFields$Shore" "seaOf" "[I", .fieldLink RX2 18 "ShoreFields$Shore" "scourOf" "[I", .fieldLink RX2 21 "ShoreFields$Shore" "barAt" "[I", .fieldLink RX2 24 "ShoreFields$Shore" "passedAt" "[I", .fieldLink RX2 27 "ShoreFields$Shore" "changeOf" "[I"] ++ wsX20)
def wsX2_startFrom : List Cond := .code yX2_startFrom cX2_startFrom 2 none :: ([.fieldLink RX2 30 "ShoreFields$Begin" "sandOf" "[I", .fieldLink RX2 9 "ShoreFields$Shore" "sandOf" "[I", .methodLink RX2 33 arraycopyName, .native arraycopyName, .static arraycopyName, .initialized "java/lang/System", .fieldLink RX2 15 "ShoreFields$Shore" "seaOf" "[I", .fieldLink RX2 18 "ShoreFields$Shore" "scourOf" "[I", .fieldLink RX2 21 "ShoreFields$Shore" "barAt" "[I", .fieldLink RX2 24 "ShoreFields$Shore" "passedAt" "[I", .methodLink RX2 39 yJ7_fill_53178, .static yJ7_fill_53178, .initialized RJ7, .code yJ7_fill_53178 cJ7_fill_53178 4 none] ++ wsX00 ++ wsX20)
def wsX2_lineOf : List Cond := .code yX2_lineOf cX2_lineOf 2 (some .int) :: ([.fieldLink RX2 9 "ShoreFields$Shore" "sandOf" "[I"] ++ wsX20)
def wsX2_sandInAll : List Cond := .code yX2_sandInAll cX2_sandInAll 4 (some .int) :: ([.fieldLink RX2 9 "ShoreFields$Shore" "sandOf" "[I", .fieldLink RX2 15 "ShoreFields$Shore" "seaOf" "[I", .fieldLink RX2 21 "ShoreFields$Shore" "barAt" "[I"] ++ wsX20)
def wsX2_comeInAtEnd : List Cond := .code yX2_comeInAtEnd cX2_comeInAtEnd 6 none :: ([.fieldLink RX2 78 "ShoreFields$Begin" "shoreNumber" "I", .fieldLink RX2 81 "ShoreFields$Begin" "feedOf" "[I", .fieldLink RX2 27 "ShoreFields$Shore" "changeOf" "[I", .fieldLink RX2 56 "ShoreFields$Begin" "fieldCount" "I", .fieldLink RX2 24 "ShoreFields$Shore" "passedAt" "[I"] ++ wsX00 ++ wsX20)
def wsX2_slope : List Cond := .code yX2_slope cX2_slope 4 (some .int) :: ([.methodLink RX2 45 Lib.Math.min.name, .static Lib.Math.min.name, .initialized "java/lang/Math", .code Lib.Math.min.name Lib.Math.min.code 2 (some .int), .methodLink RX2 91 Lib.Math.max.name, .static Lib.Math.max.name, .code Lib.Math.max.name Lib.Math.max.code 2 (some .int), .methodLink RX2 97 yX2_lineOf, .instanceMethod yX2_lineOf, .selects RX2 yX2_lineOf yX2_lineOf, .initialized RX2, .code yX2_lineOf cX2_lineOf 2 (some .int), .fieldLink RX2 9 "ShoreFields$Shore" "sandOf" "[I"] ++ wsX20)
def wsX2_freeSandOf : List Cond := .code yX2_freeSandOf cX2_freeSandOf 4 (some .int) :: ([.fieldLink RX2 9 "ShoreFields$Shore" "sandOf" "[I", .fieldLink RX2 111 "ShoreFields$Begin" "wallOf" "[I"] ++ wsX20 ++ wsX00)
def wsX2_takeFrom : List Cond := .code yX2_takeFrom cX2_takeFrom 6 (some .int) :: ([.fieldLink RX2 9 "ShoreFields$Shore" "sandOf" "[I", .methodLink RX2 45 Lib.Math.min.name, .static Lib.Math.min.name, .initialized "java/lang/Math", .code Lib.Math.min.name Lib.Math.min.code 2 (some .int), .fieldLink RX2 18 "ShoreFields$Shore" "scourOf" "[I", .fieldLink RX2 27 "ShoreFields$Shore" "changeOf" "[I", .methodLink RX2 107 yX2_freeSandOf, .instanceMethod yX2_freeSandOf, .selects RX2 yX2_freeSandOf yX2_freeSandOf, .initialized RX2, .code yX2_freeSandOf cX2_freeSandOf 4 (some .int), .fieldLink RX2 111 "ShoreFields$Begin" "wallOf" "[I"] ++ wsX20 ++ wsX00)
def wsX2_passAt_r1 : List Cond := [Cond.fieldLink RX2 78 "ShoreFields$Begin" "shoreNumber" "I", Cond.methodLink RX2 91 Lib.Math.max.name, Cond.static Lib.Math.max.name, Cond.initialized "java/lang/Math", Cond.code Lib.Math.max.name Lib.Math.max.code 2 (some .int), Cond.fieldLink RX2 94 "ShoreFields$Begin" "kindAt" "[I", Cond.fieldLink RX2 101 "ShoreFields$Begin" "sizeAt" "[I", Cond.fieldLink RX2 104 "ShoreFields$Begin" "leakAt" "[I", Cond.fieldLink RX2 21 "ShoreFields$Shore" "barAt" "[I", Cond.fieldLink RX2 27 "ShoreFields$Shore" "changeOf" "[I", Cond.fieldLink RX2 24 "ShoreFields$Shore" "passedAt" "[I", Cond.methodLink RX2 88 yX2_slope, Cond.instanceMethod yX2_slope, Cond.selects RX2 yX2_slope yX2_slope, Cond.initialized RX2, Cond.code yX2_slope cX2_slope 4 (some .int), Cond.methodLink RX2 45 Lib.Math.min.name, Cond.static Lib.Math.min.name, Cond.code Lib.Math.min.name Lib.Math.min.code 2 (some .int), Cond.methodLink RX2 97 yX2_lineOf, Cond.instanceMethod yX2_lineOf, Cond.selects RX2 yX2_lineOf yX2_lineOf, Cond.code yX2_lineOf cX2_lineOf 2 (some .int), Cond.fieldLink RX2 9 "ShoreFields$Shore" "sandOf" "[I"]
def wsX2_passAt_r2 : List Cond := [Cond.methodLink RX2 84 yX2_takeFrom, Cond.instanceMethod yX2_takeFrom, Cond.selects RX2 yX2_takeFrom yX2_takeFrom, Cond.code yX2_takeFrom cX2_takeFrom 6 (some .int), Cond.fieldLink RX2 18 "ShoreFields$Shore" "scourOf" "[I", Cond.methodLink RX2 107 yX2_freeSandOf, Cond.instanceMethod yX2_freeSandOf, Cond.selects RX2 yX2_freeSandOf yX2_freeSandOf, Cond.code yX2_freeSandOf cX2_freeSandOf 4 (some .int), Cond.fieldLink RX2 111 "ShoreFields$Begin" "wallOf" "[I"]
def wsX2_passAt : List Cond := .code yX2_passAt cX2_passAt 11 none :: ((wsX2_passAt_r1 ++ wsX2_passAt_r2) ++ wsX00 ++ wsX20)
def wsX2_goOutAtEnd : List Cond := .code yX2_goOutAtEnd cX2_goOutAtEnd 6 none :: ([.fieldLink RX2 56 "ShoreFields$Begin" "fieldCount" "I", .fieldLink RX2 78 "ShoreFields$Begin" "shoreNumber" "I", .fieldLink RX2 24 "ShoreFields$Shore" "passedAt" "[I", .methodLink RX2 84 yX2_takeFrom, .instanceMethod yX2_takeFrom, .selects RX2 yX2_takeFrom yX2_takeFrom, .initialized RX2, .code yX2_takeFrom cX2_takeFrom 6 (some .int), .fieldLink RX2 9 "ShoreFields$Shore" "sandOf" "[I", .methodLink RX2 45 Lib.Math.min.name, .static Lib.Math.min.name, .initialized "java/lang/Math", .code Lib.Math.min.name Lib.Math.min.code 2 (some .int), .fieldLink RX2 18 "ShoreFields$Shore" "scourOf" "[I", .fieldLink RX2 27 "ShoreFields$Shore" "changeOf" "[I", .methodLink RX2 107 yX2_freeSandOf, .instanceMethod yX2_freeSandOf, .selects RX2 yX2_freeSandOf yX2_freeSandOf, .code yX2_freeSandOf cX2_freeSandOf 4 (some .int), .fieldLink RX2 111 "ShoreFields$Begin" "wallOf" "[I"] ++ wsX00 ++ wsX20)
def wsX2_addChanges : List Cond := .code yX2_addChanges cX2_addChanges 3 none :: ([.fieldLink RX2 56 "ShoreFields$Begin" "fieldCount" "I", .fieldLink RX2 9 "ShoreFields$Shore" "sandOf" "[I", .fieldLink RX2 27 "ShoreFields$Shore" "changeOf" "[I", .constant RX2 51 (99999), .methodLink RX2 45 Lib.Math.min.name, .static Lib.Math.min.name, .initialized "java/lang/Math", .code Lib.Math.min.name Lib.Math.min.code 2 (some .int)] ++ wsX00 ++ wsX20)
def wsX2_takeOutToSea : List Cond := .code yX2_takeOutToSea cX2_takeOutToSea 5 none :: ([.fieldLink RX2 56 "ShoreFields$Begin" "fieldCount" "I", .methodLink RX2 45 Lib.Math.min.name, .static Lib.Math.min.name, .initialized "java/lang/Math", .code Lib.Math.min.name Lib.Math.min.code 2 (some .int), .fieldLink RX2 9 "ShoreFields$Shore" "sandOf" "[I", .fieldLink RX2 15 "ShoreFields$Shore" "seaOf" "[I", .methodLink RX2 107 yX2_freeSandOf, .instanceMethod yX2_freeSandOf, .selects RX2 yX2_freeSandOf yX2_freeSandOf, .initialized RX2, .code yX2_freeSandOf cX2_freeSandOf 4 (some .int), .fieldLink RX2 111 "ShoreFields$Begin" "wallOf" "[I"] ++ wsX00 ++ wsX20)
def wsX2_bringBackFromSea : List Cond := .code yX2_bringBackFromSea cX2_bringBackFromSea 4 none :: ([.fieldLink RX2 56 "ShoreFields$Begin" "fieldCount" "I", .fieldLink RX2 15 "ShoreFields$Shore" "seaOf" "[I", .fieldLink RX2 9 "ShoreFields$Shore" "sandOf" "[I", .constant RX2 51 (99999), .methodLink RX2 45 Lib.Math.min.name, .static Lib.Math.min.name, .initialized "java/lang/Math", .code Lib.Math.min.name Lib.Math.min.code 2 (some .int)] ++ wsX00 ++ wsX20)
def wsX2_goThrough_r1 : List Cond := [Cond.fieldLink RX2 24 "ShoreFields$Shore" "passedAt" "[I", Cond.fieldLink RX2 27 "ShoreFields$Shore" "changeOf" "[I", Cond.fieldLink RX2 56 "ShoreFields$Begin" "fieldCount" "I", Cond.methodLink RX2 39 yJ7_fill_53178, Cond.static yJ7_fill_53178, Cond.initialized RJ7, Cond.code yJ7_fill_53178 cJ7_fill_53178 4 none, Cond.methodLink RX2 52 yX2_comeInAtEnd, Cond.instanceMethod yX2_comeInAtEnd, Cond.selects RX2 yX2_comeInAtEnd yX2_comeInAtEnd, Cond.initialized RX2, Cond.code yX2_comeInAtEnd cX2_comeInAtEnd 6 none, Cond.fieldLink RX2 78 "ShoreFields$Begin" "shoreNumber" "I", Cond.fieldLink RX2 81 "ShoreFields$Begin" "feedOf" "[I", Cond.methodLink RX2 60 yX2_passAt, Cond.instanceMethod yX2_passAt, Cond.selects RX2 yX2_passAt yX2_passAt, Cond.code yX2_passAt cX2_passAt 11 none, Cond.methodLink RX2 91 Lib.Math.max.name, Cond.static Lib.Math.max.name, Cond.initialized "java/lang/Math", Cond.code Lib.Math.max.name Lib.Math.max.code 2 (some .int), Cond.fieldLink RX2 94 "ShoreFields$Begin" "kindAt" "[I", Cond.fieldLink RX2 101 "ShoreFields$Begin" "sizeAt" "[I"]
def wsX2_goThrough_r2 : List Cond := [Cond.fieldLink RX2 104 "ShoreFields$Begin" "leakAt" "[I", Cond.fieldLink RX2 21 "ShoreFields$Shore" "barAt" "[I", Cond.methodLink RX2 88 yX2_slope, Cond.instanceMethod yX2_slope, Cond.selects RX2 yX2_slope yX2_slope, Cond.code yX2_slope cX2_slope 4 (some .int), Cond.methodLink RX2 45 Lib.Math.min.name, Cond.static Lib.Math.min.name, Cond.code Lib.Math.min.name Lib.Math.min.code 2 (some .int), Cond.methodLink RX2 97 yX2_lineOf, Cond.instanceMethod yX2_lineOf, Cond.selects RX2 yX2_lineOf yX2_lineOf, Cond.code yX2_lineOf cX2_lineOf 2 (some .int), Cond.fieldLink RX2 9 "ShoreFields$Shore" "sandOf" "[I", Cond.methodLink RX2 84 yX2_takeFrom, Cond.instanceMethod yX2_takeFrom, Cond.selects RX2 yX2_takeFrom yX2_takeFrom, Cond.code yX2_takeFrom cX2_takeFrom 6 (some .int), Cond.fieldLink RX2 18 "ShoreFields$Shore" "scourOf" "[I", Cond.methodLink RX2 107 yX2_freeSandOf, Cond.instanceMethod yX2_freeSandOf, Cond.selects RX2 yX2_freeSandOf yX2_freeSandOf, Cond.code yX2_freeSandOf cX2_freeSandOf 4 (some .int), Cond.fieldLink RX2 111 "ShoreFields$Begin" "wallOf" "[I"]
def wsX2_goThrough_r3 : List Cond := [Cond.methodLink RX2 64 yX2_goOutAtEnd, Cond.instanceMethod yX2_goOutAtEnd, Cond.selects RX2 yX2_goOutAtEnd yX2_goOutAtEnd, Cond.code yX2_goOutAtEnd cX2_goOutAtEnd 6 none, Cond.methodLink RX2 67 yX2_addChanges, Cond.instanceMethod yX2_addChanges, Cond.selects RX2 yX2_addChanges yX2_addChanges, Cond.code yX2_addChanges cX2_addChanges 3 none, Cond.constant RX2 51 (99999), Cond.methodLink RX2 71 yX2_takeOutToSea, Cond.instanceMethod yX2_takeOutToSea, Cond.selects RX2 yX2_takeOutToSea yX2_takeOutToSea, Cond.code yX2_takeOutToSea cX2_takeOutToSea 5 none, Cond.fieldLink RX2 15 "ShoreFields$Shore" "seaOf" "[I", Cond.methodLink RX2 75 yX2_bringBackFromSea, Cond.instanceMethod yX2_bringBackFromSea, Cond.selects RX2 yX2_bringBackFromSea yX2_bringBackFromSea, Cond.code yX2_bringBackFromSea cX2_bringBackFromSea 4 none]
def wsX2_goThrough : List Cond := .code yX2_goThrough cX2_goThrough 5 none :: ((wsX2_goThrough_r1 ++ (wsX2_goThrough_r2 ++ wsX2_goThrough_r3)) ++ wsX20 ++ wsX00)
def wsX3_init : List Cond := .code yX3_init cX3_init 1 none :: ([.methodLink RX3 3 objectInit, .instanceMethod objectInit, .code objectInit ⟨#[0xb1]⟩ 1 none, .fieldLink RX3 9 "ShoreFields$SurveyList" "size" "I", .arrayClass .int, .fieldLink RX3 15 "ShoreFields$SurveyList" "fields" "[I", .fieldLink RX3 19 "ShoreFields$SurveyList" "weeks" "[I", .fieldLink RX3 22 "ShoreFields$SurveyList" "leastLines" "[I", .fieldLink RX3 25 "ShoreFields$SurveyList" "mostLines" "[I"] ++ wsX30)
def wsX3_add : List Cond := .code yX3_add cX3_add 5 none :: ([.fieldLink RX3 9 "ShoreFields$SurveyList" "size" "I", .fieldLink RX3 15 "ShoreFields$SurveyList" "fields" "[I", .fieldLink RX3 19 "ShoreFields$SurveyList" "weeks" "[I", .fieldLink RX3 22 "ShoreFields$SurveyList" "leastLines" "[I", .fieldLink RX3 25 "ShoreFields$SurveyList" "mostLines" "[I"] ++ wsX30)
def wsX3_agreeBehind : List Cond := .code yX3_agreeBehind cX3_agreeBehind 5 (some .boolean) :: ([.fieldLink RX3 9 "ShoreFields$SurveyList" "size" "I", .fieldLink RX3 19 "ShoreFields$SurveyList" "weeks" "[I", .fieldLink RX3 15 "ShoreFields$SurveyList" "fields" "[I", .fieldLink RX3 22 "ShoreFields$SurveyList" "leastLines" "[I", .fieldLink RX3 25 "ShoreFields$SurveyList" "mostLines" "[I", .methodLink RX3 28 yX2_lineOf, .instanceMethod yX2_lineOf, .selects RX2 yX2_lineOf yX2_lineOf, .initialized RX2, .code yX2_lineOf cX2_lineOf 2 (some .int), .fieldLink RX2 9 "ShoreFields$Shore" "sandOf" "[I"] ++ wsX30 ++ wsX20)
def wsX4_init : List Cond := .code yX4_init cX4_init 1 none :: ([.methodLink RX4 3 objectInit, .instanceMethod objectInit, .code objectInit ⟨#[0xb1]⟩ 1 none, .fieldLink RX4 9 "ShoreFields$Weather" "size" "I", .arrayClass .int, .fieldLink RX4 15 "ShoreFields$Weather" "heights" "[I", .fieldLink RX4 19 "ShoreFields$Weather" "sides" "[I"] ++ wsX40)
def wsX4_add : List Cond := .code yX4_add cX4_add 3 none :: ([.fieldLink RX4 9 "ShoreFields$Weather" "size" "I", .fieldLink RX4 15 "ShoreFields$Weather" "heights" "[I", .fieldLink RX4 19 "ShoreFields$Weather" "sides" "[I"] ++ wsX40)
def wsX5_init : List Cond := .code yX5_init cX5_init 1 none :: ([.methodLink RX5 3 objectInit, .instanceMethod objectInit, .code objectInit ⟨#[0xb1]⟩ 1 none, .fieldLink RX5 9 "ShoreFields$WorkList" "size" "I", .arrayClass .int, .fieldLink RX5 15 "ShoreFields$WorkList" "kinds" "[I", .fieldLink RX5 19 "ShoreFields$WorkList" "places" "[I", .fieldLink RX5 22 "ShoreFields$WorkList" "amounts" "[I", .fieldLink RX5 25 "ShoreFields$WorkList" "prices" "[I"] ++ wsX50)
def wsX5_add : List Cond := .code yX5_add cX5_add 5 none :: ([.fieldLink RX5 9 "ShoreFields$WorkList" "size" "I", .fieldLink RX5 15 "ShoreFields$WorkList" "kinds" "[I", .fieldLink RX5 19 "ShoreFields$WorkList" "places" "[I", .fieldLink RX5 22 "ShoreFields$WorkList" "amounts" "[I", .fieldLink RX5 25 "ShoreFields$WorkList" "prices" "[I"] ++ wsX50)
def wsX5_priceOf : List Cond := .code yX5_priceOf cX5_priceOf 4 (some .int) :: ([.fieldLink RX5 9 "ShoreFields$WorkList" "size" "I", .fieldLink RX5 25 "ShoreFields$WorkList" "prices" "[I"] ++ wsX50)
def wsX5_applyOne : List Cond := .code yX5_applyOne cX5_applyOne 4 none :: ([.fieldLink RX5 19 "ShoreFields$WorkList" "places" "[I", .fieldLink RX5 15 "ShoreFields$WorkList" "kinds" "[I", .fieldLink RX5 32 "ShoreFields$Begin" "sandOf" "[I", .fieldLink RX5 22 "ShoreFields$WorkList" "amounts" "[I", .constant RX5 37 (99999), .methodLink RX5 38 Lib.Math.min.name, .static Lib.Math.min.name, .initialized "java/lang/Math", .code Lib.Math.min.name Lib.Math.min.code 2 (some .int), .fieldLink RX5 48 "ShoreFields$Begin" "sizeAt" "[I", .methodLink RX5 44 yX0_hasAt, .instanceMethod yX0_hasAt, .selects RX0 yX0_hasAt yX0_hasAt, .initialized RX0, .code yX0_hasAt cX0_hasAt 3 (some .boolean), .fieldLink RX0 28 "ShoreFields$Begin" "kindAt" "[I", .methodLink RX0 43 yX0_liesBetweenFields, .instanceMethod yX0_liesBetweenFields, .selects RX0 yX0_liesBetweenFields yX0_liesBetweenFields, .code yX0_liesBetweenFields cX0_liesBetweenFields 2 (some .boolean), .fieldLink RX0 9 "ShoreFields$Begin" "fieldCount" "I"] ++ wsX50 ++ wsX00)
def wsX5_applyTo_r1 : List Cond := [Cond.fieldLink RX5 9 "ShoreFields$WorkList" "size" "I", Cond.methodLink RX5 28 yX5_applyOne, Cond.instanceMethod yX5_applyOne, Cond.selects RX5 yX5_applyOne yX5_applyOne, Cond.initialized RX5, Cond.code yX5_applyOne cX5_applyOne 4 none, Cond.fieldLink RX5 19 "ShoreFields$WorkList" "places" "[I", Cond.fieldLink RX5 15 "ShoreFields$WorkList" "kinds" "[I", Cond.fieldLink RX5 32 "ShoreFields$Begin" "sandOf" "[I", Cond.fieldLink RX5 22 "ShoreFields$WorkList" "amounts" "[I", Cond.constant RX5 37 (99999), Cond.methodLink RX5 38 Lib.Math.min.name, Cond.static Lib.Math.min.name, Cond.initialized "java/lang/Math", Cond.code Lib.Math.min.name Lib.Math.min.code 2 (some .int), Cond.fieldLink RX5 48 "ShoreFields$Begin" "sizeAt" "[I", Cond.methodLink RX5 44 yX0_hasAt, Cond.instanceMethod yX0_hasAt, Cond.selects RX0 yX0_hasAt yX0_hasAt, Cond.initialized RX0, Cond.code yX0_hasAt cX0_hasAt 3 (some .boolean), Cond.fieldLink RX0 28 "ShoreFields$Begin" "kindAt" "[I", Cond.methodLink RX0 43 yX0_liesBetweenFields, Cond.instanceMethod yX0_liesBetweenFields]
def wsX5_applyTo_r2 : List Cond := [Cond.selects RX0 yX0_liesBetweenFields yX0_liesBetweenFields, Cond.code yX0_liesBetweenFields cX0_liesBetweenFields 2 (some .boolean), Cond.fieldLink RX0 9 "ShoreFields$Begin" "fieldCount" "I"]
def wsX5_applyTo : List Cond := .code yX5_applyTo cX5_applyTo 4 none :: ((wsX5_applyTo_r1 ++ wsX5_applyTo_r2) ++ wsX50 ++ wsX00)
def wsX6_init_r1 : List Cond := [Cond.methodLink RX6 3 objectInit, Cond.instanceMethod objectInit, Cond.code objectInit ⟨#[0xb1]⟩ 1 none, Cond.classLink RX6 9 RX0, Cond.instantiable RX0 8, Cond.initialized RX0, Cond.fieldLink RX6 12 "ShoreFields" "begin" "LShoreFields$Begin;", Cond.fieldLink RX6 16 "ShoreFields" "trial" "LShoreFields$Begin;", Cond.classLink RX6 19 RX2, Cond.instantiable RX2 6, Cond.initialized RX2, Cond.fieldLink RX6 22 "ShoreFields" "now" "LShoreFields$Shore;", Cond.fieldLink RX6 26 "ShoreFields" "again" "LShoreFields$Shore;", Cond.classLink RX6 29 RX4, Cond.instantiable RX4 3, Cond.initialized RX4, Cond.fieldLink RX6 32 "ShoreFields" "weather" "LShoreFields$Weather;", Cond.classLink RX6 36 RX1, Cond.instantiable RX1 5, Cond.initialized RX1, Cond.fieldLink RX6 39 "ShoreFields" "dredgings" "LShoreFields$Dredgings;", Cond.classLink RX6 43 RX5, Cond.instantiable RX5 5, Cond.initialized RX5]
def wsX6_init_r2 : List Cond := [Cond.fieldLink RX6 46 "ShoreFields" "workList" "LShoreFields$WorkList;", Cond.classLink RX6 50 RX3, Cond.instantiable RX3 5, Cond.initialized RX3, Cond.fieldLink RX6 53 "ShoreFields" "surveyList" "LShoreFields$SurveyList;", Cond.arrayClass .int, Cond.fieldLink RX6 57 "ShoreFields" "marks" "[I", Cond.fieldLink RX6 61 "ShoreFields" "weeksGone" "I", Cond.fieldLink RX6 65 "ShoreFields" "anythingTold" "Z", Cond.methodLink RX6 11 yX0_init, Cond.instanceMethod yX0_init, Cond.code yX0_init cX0_init 1 none, Cond.methodLink RX0 3 objectInit, Cond.fieldLink RX0 9 "ShoreFields$Begin" "fieldCount" "I", Cond.fieldLink RX0 15 "ShoreFields$Begin" "shoreNumber" "I", Cond.fieldLink RX0 18 "ShoreFields$Begin" "sandOf" "[I", Cond.fieldLink RX0 22 "ShoreFields$Begin" "wallOf" "[I", Cond.fieldLink RX0 25 "ShoreFields$Begin" "feedOf" "[I", Cond.fieldLink RX0 28 "ShoreFields$Begin" "kindAt" "[I", Cond.fieldLink RX0 31 "ShoreFields$Begin" "sizeAt" "[I", Cond.fieldLink RX0 34 "ShoreFields$Begin" "leakAt" "[I", Cond.methodLink RX0 37 yJ7_fill_53178, Cond.static yJ7_fill_53178, Cond.initialized RJ7]
def wsX6_init_r3 : List Cond := [Cond.code yJ7_fill_53178 cJ7_fill_53178 4 none, Cond.instanceMethod yX2_init, Cond.code yX2_init cX2_init 1 none, Cond.methodLink RX2 3 objectInit, Cond.fieldLink RX2 9 "ShoreFields$Shore" "sandOf" "[I", Cond.fieldLink RX2 15 "ShoreFields$Shore" "seaOf" "[I", Cond.fieldLink RX2 18 "ShoreFields$Shore" "scourOf" "[I", Cond.fieldLink RX2 21 "ShoreFields$Shore" "barAt" "[I", Cond.fieldLink RX2 24 "ShoreFields$Shore" "passedAt" "[I", Cond.fieldLink RX2 27 "ShoreFields$Shore" "changeOf" "[I", Cond.instanceMethod yX4_init, Cond.code yX4_init cX4_init 1 none, Cond.methodLink RX4 3 objectInit, Cond.fieldLink RX4 9 "ShoreFields$Weather" "size" "I", Cond.fieldLink RX4 15 "ShoreFields$Weather" "heights" "[I", Cond.fieldLink RX4 19 "ShoreFields$Weather" "sides" "[I", Cond.instanceMethod yX1_init, Cond.code yX1_init cX1_init 1 none, Cond.methodLink RX1 3 objectInit, Cond.fieldLink RX1 9 "ShoreFields$Dredgings" "size" "I", Cond.fieldLink RX1 15 "ShoreFields$Dredgings" "borders" "[I", Cond.fieldLink RX1 19 "ShoreFields$Dredgings" "units" "[I", Cond.fieldLink RX1 22 "ShoreFields$Dredgings" "fields" "[I", Cond.fieldLink RX1 25 "ShoreFields$Dredgings" "weeks" "[I"]
def wsX6_init_r4 : List Cond := [Cond.instanceMethod yX5_init, Cond.code yX5_init cX5_init 1 none, Cond.methodLink RX5 3 objectInit, Cond.fieldLink RX5 9 "ShoreFields$WorkList" "size" "I", Cond.fieldLink RX5 15 "ShoreFields$WorkList" "kinds" "[I", Cond.fieldLink RX5 19 "ShoreFields$WorkList" "places" "[I", Cond.fieldLink RX5 22 "ShoreFields$WorkList" "amounts" "[I", Cond.fieldLink RX5 25 "ShoreFields$WorkList" "prices" "[I", Cond.instanceMethod yX3_init, Cond.code yX3_init cX3_init 1 none, Cond.methodLink RX3 3 objectInit, Cond.fieldLink RX3 9 "ShoreFields$SurveyList" "size" "I", Cond.fieldLink RX3 15 "ShoreFields$SurveyList" "fields" "[I", Cond.fieldLink RX3 19 "ShoreFields$SurveyList" "weeks" "[I", Cond.fieldLink RX3 22 "ShoreFields$SurveyList" "leastLines" "[I", Cond.fieldLink RX3 25 "ShoreFields$SurveyList" "mostLines" "[I", Cond.methodLink RX6 69 yX2_startFrom, Cond.instanceMethod yX2_startFrom, Cond.selects RX2 yX2_startFrom yX2_startFrom, Cond.code yX2_startFrom cX2_startFrom 2 none, Cond.fieldLink RX2 30 "ShoreFields$Begin" "sandOf" "[I", Cond.methodLink RX2 33 arraycopyName, Cond.native arraycopyName, Cond.static arraycopyName]
def wsX6_init_r5 : List Cond := [Cond.initialized "java/lang/System", Cond.methodLink RX2 39 yJ7_fill_53178]
def wsX6_init : List Cond := .code yX6_init cX6_init 1 none :: ((wsX6_init_r1 ++ (wsX6_init_r2 ++ (wsX6_init_r3 ++ (wsX6_init_r4 ++ wsX6_init_r5)))) ++ wsX00 ++ wsX60 ++ wsX20 ++ wsX40 ++ wsX10 ++ wsX50 ++ wsX30)
def wsX6_isWithin : List Cond := .code yX6_isWithin cX6_isWithin 3 (some .boolean) :: ([])
def wsX6_fields : List Cond := .code yX6_fields cX6_fields 2 (some .boolean) :: ([.fieldLink RX6 65 "ShoreFields" "anythingTold" "Z", .fieldLink RX6 12 "ShoreFields" "begin" "LShoreFields$Begin;", .fieldLink RX6 77 "ShoreFields$Begin" "fieldCount" "I", .methodLink RX6 73 yX6_isWithin, .static yX6_isWithin, .initialized RX6, .code yX6_isWithin cX6_isWithin 3 (some .boolean)] ++ wsX60 ++ wsX00)
def wsX6_takeInBegin : List Cond := .code yX6_takeInBegin cX6_takeInBegin 1 none :: ([.fieldLink RX6 65 "ShoreFields" "anythingTold" "Z", .fieldLink RX6 22 "ShoreFields" "now" "LShoreFields$Shore;", .fieldLink RX6 12 "ShoreFields" "begin" "LShoreFields$Begin;", .methodLink RX6 69 yX2_startFrom, .instanceMethod yX2_startFrom, .selects RX2 yX2_startFrom yX2_startFrom, .initialized RX2, .code yX2_startFrom cX2_startFrom 2 none, .fieldLink RX2 30 "ShoreFields$Begin" "sandOf" "[I", .fieldLink RX2 9 "ShoreFields$Shore" "sandOf" "[I", .methodLink RX2 33 arraycopyName, .native arraycopyName, .static arraycopyName, .initialized "java/lang/System", .fieldLink RX2 15 "ShoreFields$Shore" "seaOf" "[I", .fieldLink RX2 18 "ShoreFields$Shore" "scourOf" "[I", .fieldLink RX2 21 "ShoreFields$Shore" "barAt" "[I", .fieldLink RX2 24 "ShoreFields$Shore" "passedAt" "[I", .methodLink RX2 39 yJ7_fill_53178, .static yJ7_fill_53178, .initialized RJ7, .code yJ7_fill_53178 cJ7_fill_53178 4 none] ++ wsX60 ++ wsX00 ++ wsX20)
def wsX6_sand_r1 : List Cond := [Cond.fieldLink RX6 61 "ShoreFields" "weeksGone" "I", Cond.fieldLink RX6 12 "ShoreFields" "begin" "LShoreFields$Begin;", Cond.constant RX6 84 (99999), Cond.fieldLink RX6 85 "ShoreFields$Begin" "sandOf" "[I", Cond.methodLink RX6 80 yX0_hasField, Cond.instanceMethod yX0_hasField, Cond.selects RX0 yX0_hasField yX0_hasField, Cond.initialized RX0, Cond.code yX0_hasField cX0_hasField 2 (some .boolean), Cond.fieldLink RX0 9 "ShoreFields$Begin" "fieldCount" "I", Cond.methodLink RX6 73 yX6_isWithin, Cond.static yX6_isWithin, Cond.initialized RX6, Cond.code yX6_isWithin cX6_isWithin 3 (some .boolean), Cond.methodLink RX6 88 yX6_takeInBegin, Cond.instanceMethod yX6_takeInBegin, Cond.selects RX6 yX6_takeInBegin yX6_takeInBegin, Cond.code yX6_takeInBegin cX6_takeInBegin 1 none, Cond.fieldLink RX6 65 "ShoreFields" "anythingTold" "Z", Cond.fieldLink RX6 22 "ShoreFields" "now" "LShoreFields$Shore;", Cond.methodLink RX6 69 yX2_startFrom, Cond.instanceMethod yX2_startFrom, Cond.selects RX2 yX2_startFrom yX2_startFrom, Cond.initialized RX2]
def wsX6_sand_r2 : List Cond := [Cond.code yX2_startFrom cX2_startFrom 2 none, Cond.fieldLink RX2 30 "ShoreFields$Begin" "sandOf" "[I", Cond.fieldLink RX2 9 "ShoreFields$Shore" "sandOf" "[I", Cond.methodLink RX2 33 arraycopyName, Cond.native arraycopyName, Cond.static arraycopyName, Cond.initialized "java/lang/System", Cond.fieldLink RX2 15 "ShoreFields$Shore" "seaOf" "[I", Cond.fieldLink RX2 18 "ShoreFields$Shore" "scourOf" "[I", Cond.fieldLink RX2 21 "ShoreFields$Shore" "barAt" "[I", Cond.fieldLink RX2 24 "ShoreFields$Shore" "passedAt" "[I", Cond.methodLink RX2 39 yJ7_fill_53178, Cond.static yJ7_fill_53178, Cond.initialized RJ7, Cond.code yJ7_fill_53178 cJ7_fill_53178 4 none]
def wsX6_sand : List Cond := .code yX6_sand cX6_sand 3 (some .boolean) :: ((wsX6_sand_r1 ++ wsX6_sand_r2) ++ wsX60 ++ wsX00 ++ wsX20)
def wsX6_groyne_r1 : List Cond := [Cond.fieldLink RX6 61 "ShoreFields" "weeksGone" "I", Cond.fieldLink RX6 12 "ShoreFields" "begin" "LShoreFields$Begin;", Cond.methodLink RX6 91 yX0_liesBetweenFields, Cond.instanceMethod yX0_liesBetweenFields, Cond.selects RX0 yX0_liesBetweenFields yX0_liesBetweenFields, Cond.initialized RX0, Cond.code yX0_liesBetweenFields cX0_liesBetweenFields 2 (some .boolean), Cond.fieldLink RX0 9 "ShoreFields$Begin" "fieldCount" "I", Cond.methodLink RX6 73 yX6_isWithin, Cond.static yX6_isWithin, Cond.initialized RX6, Cond.code yX6_isWithin cX6_isWithin 3 (some .boolean), Cond.methodLink RX6 94 yX0_build, Cond.instanceMethod yX0_build, Cond.selects RX0 yX0_build yX0_build, Cond.code yX0_build cX0_build 5 none, Cond.fieldLink RX0 28 "ShoreFields$Begin" "kindAt" "[I", Cond.fieldLink RX0 31 "ShoreFields$Begin" "sizeAt" "[I", Cond.fieldLink RX0 34 "ShoreFields$Begin" "leakAt" "[I", Cond.methodLink RX6 88 yX6_takeInBegin, Cond.instanceMethod yX6_takeInBegin, Cond.selects RX6 yX6_takeInBegin yX6_takeInBegin, Cond.code yX6_takeInBegin cX6_takeInBegin 1 none, Cond.fieldLink RX6 65 "ShoreFields" "anythingTold" "Z"]
def wsX6_groyne_r2 : List Cond := [Cond.fieldLink RX6 22 "ShoreFields" "now" "LShoreFields$Shore;", Cond.methodLink RX6 69 yX2_startFrom, Cond.instanceMethod yX2_startFrom, Cond.selects RX2 yX2_startFrom yX2_startFrom, Cond.initialized RX2, Cond.code yX2_startFrom cX2_startFrom 2 none, Cond.fieldLink RX2 30 "ShoreFields$Begin" "sandOf" "[I", Cond.fieldLink RX2 9 "ShoreFields$Shore" "sandOf" "[I", Cond.methodLink RX2 33 arraycopyName, Cond.native arraycopyName, Cond.static arraycopyName, Cond.initialized "java/lang/System", Cond.fieldLink RX2 15 "ShoreFields$Shore" "seaOf" "[I", Cond.fieldLink RX2 18 "ShoreFields$Shore" "scourOf" "[I", Cond.fieldLink RX2 21 "ShoreFields$Shore" "barAt" "[I", Cond.fieldLink RX2 24 "ShoreFields$Shore" "passedAt" "[I", Cond.methodLink RX2 39 yJ7_fill_53178, Cond.static yJ7_fill_53178, Cond.initialized RJ7, Cond.code yJ7_fill_53178 cJ7_fill_53178 4 none]
def wsX6_groyne : List Cond := .code yX6_groyne cX6_groyne 4 (some .boolean) :: ((wsX6_groyne_r1 ++ wsX6_groyne_r2) ++ wsX60 ++ wsX00 ++ wsX20)
def wsX6_mouth_r1 : List Cond := [Cond.fieldLink RX6 61 "ShoreFields" "weeksGone" "I", Cond.fieldLink RX6 12 "ShoreFields" "begin" "LShoreFields$Begin;", Cond.methodLink RX6 91 yX0_liesBetweenFields, Cond.instanceMethod yX0_liesBetweenFields, Cond.selects RX0 yX0_liesBetweenFields yX0_liesBetweenFields, Cond.initialized RX0, Cond.code yX0_liesBetweenFields cX0_liesBetweenFields 2 (some .boolean), Cond.fieldLink RX0 9 "ShoreFields$Begin" "fieldCount" "I", Cond.methodLink RX6 73 yX6_isWithin, Cond.static yX6_isWithin, Cond.initialized RX6, Cond.code yX6_isWithin cX6_isWithin 3 (some .boolean), Cond.methodLink RX6 94 yX0_build, Cond.instanceMethod yX0_build, Cond.selects RX0 yX0_build yX0_build, Cond.code yX0_build cX0_build 5 none, Cond.fieldLink RX0 28 "ShoreFields$Begin" "kindAt" "[I", Cond.fieldLink RX0 31 "ShoreFields$Begin" "sizeAt" "[I", Cond.fieldLink RX0 34 "ShoreFields$Begin" "leakAt" "[I", Cond.methodLink RX6 88 yX6_takeInBegin, Cond.instanceMethod yX6_takeInBegin, Cond.selects RX6 yX6_takeInBegin yX6_takeInBegin, Cond.code yX6_takeInBegin cX6_takeInBegin 1 none, Cond.fieldLink RX6 65 "ShoreFields" "anythingTold" "Z"]
def wsX6_mouth_r2 : List Cond := [Cond.fieldLink RX6 22 "ShoreFields" "now" "LShoreFields$Shore;", Cond.methodLink RX6 69 yX2_startFrom, Cond.instanceMethod yX2_startFrom, Cond.selects RX2 yX2_startFrom yX2_startFrom, Cond.initialized RX2, Cond.code yX2_startFrom cX2_startFrom 2 none, Cond.fieldLink RX2 30 "ShoreFields$Begin" "sandOf" "[I", Cond.fieldLink RX2 9 "ShoreFields$Shore" "sandOf" "[I", Cond.methodLink RX2 33 arraycopyName, Cond.native arraycopyName, Cond.static arraycopyName, Cond.initialized "java/lang/System", Cond.fieldLink RX2 15 "ShoreFields$Shore" "seaOf" "[I", Cond.fieldLink RX2 18 "ShoreFields$Shore" "scourOf" "[I", Cond.fieldLink RX2 21 "ShoreFields$Shore" "barAt" "[I", Cond.fieldLink RX2 24 "ShoreFields$Shore" "passedAt" "[I", Cond.methodLink RX2 39 yJ7_fill_53178, Cond.static yJ7_fill_53178, Cond.initialized RJ7, Cond.code yJ7_fill_53178 cJ7_fill_53178 4 none]
def wsX6_mouth : List Cond := .code yX6_mouth cX6_mouth 3 (some .boolean) :: ((wsX6_mouth_r1 ++ wsX6_mouth_r2) ++ wsX60 ++ wsX00 ++ wsX20)
def wsX6_wall_r1 : List Cond := [Cond.fieldLink RX6 61 "ShoreFields" "weeksGone" "I", Cond.fieldLink RX6 12 "ShoreFields" "begin" "LShoreFields$Begin;", Cond.fieldLink RX6 98 "ShoreFields$Begin" "wallOf" "[I", Cond.methodLink RX6 80 yX0_hasField, Cond.instanceMethod yX0_hasField, Cond.selects RX0 yX0_hasField yX0_hasField, Cond.initialized RX0, Cond.code yX0_hasField cX0_hasField 2 (some .boolean), Cond.fieldLink RX0 9 "ShoreFields$Begin" "fieldCount" "I", Cond.methodLink RX6 73 yX6_isWithin, Cond.static yX6_isWithin, Cond.initialized RX6, Cond.code yX6_isWithin cX6_isWithin 3 (some .boolean), Cond.methodLink RX6 88 yX6_takeInBegin, Cond.instanceMethod yX6_takeInBegin, Cond.selects RX6 yX6_takeInBegin yX6_takeInBegin, Cond.code yX6_takeInBegin cX6_takeInBegin 1 none, Cond.fieldLink RX6 65 "ShoreFields" "anythingTold" "Z", Cond.fieldLink RX6 22 "ShoreFields" "now" "LShoreFields$Shore;", Cond.methodLink RX6 69 yX2_startFrom, Cond.instanceMethod yX2_startFrom, Cond.selects RX2 yX2_startFrom yX2_startFrom, Cond.initialized RX2, Cond.code yX2_startFrom cX2_startFrom 2 none]
def wsX6_wall_r2 : List Cond := [Cond.fieldLink RX2 30 "ShoreFields$Begin" "sandOf" "[I", Cond.fieldLink RX2 9 "ShoreFields$Shore" "sandOf" "[I", Cond.methodLink RX2 33 arraycopyName, Cond.native arraycopyName, Cond.static arraycopyName, Cond.initialized "java/lang/System", Cond.fieldLink RX2 15 "ShoreFields$Shore" "seaOf" "[I", Cond.fieldLink RX2 18 "ShoreFields$Shore" "scourOf" "[I", Cond.fieldLink RX2 21 "ShoreFields$Shore" "barAt" "[I", Cond.fieldLink RX2 24 "ShoreFields$Shore" "passedAt" "[I", Cond.methodLink RX2 39 yJ7_fill_53178, Cond.static yJ7_fill_53178, Cond.initialized RJ7, Cond.code yJ7_fill_53178 cJ7_fill_53178 4 none]
def wsX6_wall : List Cond := .code yX6_wall cX6_wall 3 (some .boolean) :: ((wsX6_wall_r1 ++ wsX6_wall_r2) ++ wsX60 ++ wsX00 ++ wsX20)
def wsX6_feed_r1 : List Cond := [Cond.fieldLink RX6 61 "ShoreFields" "weeksGone" "I", Cond.fieldLink RX6 12 "ShoreFields" "begin" "LShoreFields$Begin;", Cond.fieldLink RX6 101 "ShoreFields$Begin" "feedOf" "[I", Cond.methodLink RX6 73 yX6_isWithin, Cond.static yX6_isWithin, Cond.initialized RX6, Cond.code yX6_isWithin cX6_isWithin 3 (some .boolean), Cond.methodLink RX6 88 yX6_takeInBegin, Cond.instanceMethod yX6_takeInBegin, Cond.selects RX6 yX6_takeInBegin yX6_takeInBegin, Cond.code yX6_takeInBegin cX6_takeInBegin 1 none, Cond.fieldLink RX6 65 "ShoreFields" "anythingTold" "Z", Cond.fieldLink RX6 22 "ShoreFields" "now" "LShoreFields$Shore;", Cond.methodLink RX6 69 yX2_startFrom, Cond.instanceMethod yX2_startFrom, Cond.selects RX2 yX2_startFrom yX2_startFrom, Cond.initialized RX2, Cond.code yX2_startFrom cX2_startFrom 2 none, Cond.fieldLink RX2 30 "ShoreFields$Begin" "sandOf" "[I", Cond.fieldLink RX2 9 "ShoreFields$Shore" "sandOf" "[I", Cond.methodLink RX2 33 arraycopyName, Cond.native arraycopyName, Cond.static arraycopyName, Cond.initialized "java/lang/System"]
def wsX6_feed_r2 : List Cond := [Cond.fieldLink RX2 15 "ShoreFields$Shore" "seaOf" "[I", Cond.fieldLink RX2 18 "ShoreFields$Shore" "scourOf" "[I", Cond.fieldLink RX2 21 "ShoreFields$Shore" "barAt" "[I", Cond.fieldLink RX2 24 "ShoreFields$Shore" "passedAt" "[I", Cond.methodLink RX2 39 yJ7_fill_53178, Cond.static yJ7_fill_53178, Cond.initialized RJ7, Cond.code yJ7_fill_53178 cJ7_fill_53178 4 none]
def wsX6_feed : List Cond := .code yX6_feed cX6_feed 3 (some .boolean) :: ((wsX6_feed_r1 ++ wsX6_feed_r2) ++ wsX60 ++ wsX00 ++ wsX20)
def wsX6_number_r1 : List Cond := [Cond.fieldLink RX6 61 "ShoreFields" "weeksGone" "I", Cond.fieldLink RX6 12 "ShoreFields" "begin" "LShoreFields$Begin;", Cond.fieldLink RX6 104 "ShoreFields$Begin" "shoreNumber" "I", Cond.methodLink RX6 73 yX6_isWithin, Cond.static yX6_isWithin, Cond.initialized RX6, Cond.code yX6_isWithin cX6_isWithin 3 (some .boolean), Cond.methodLink RX6 88 yX6_takeInBegin, Cond.instanceMethod yX6_takeInBegin, Cond.selects RX6 yX6_takeInBegin yX6_takeInBegin, Cond.code yX6_takeInBegin cX6_takeInBegin 1 none, Cond.fieldLink RX6 65 "ShoreFields" "anythingTold" "Z", Cond.fieldLink RX6 22 "ShoreFields" "now" "LShoreFields$Shore;", Cond.methodLink RX6 69 yX2_startFrom, Cond.instanceMethod yX2_startFrom, Cond.selects RX2 yX2_startFrom yX2_startFrom, Cond.initialized RX2, Cond.code yX2_startFrom cX2_startFrom 2 none, Cond.fieldLink RX2 30 "ShoreFields$Begin" "sandOf" "[I", Cond.fieldLink RX2 9 "ShoreFields$Shore" "sandOf" "[I", Cond.methodLink RX2 33 arraycopyName, Cond.native arraycopyName, Cond.static arraycopyName, Cond.initialized "java/lang/System"]
def wsX6_number_r2 : List Cond := [Cond.fieldLink RX2 15 "ShoreFields$Shore" "seaOf" "[I", Cond.fieldLink RX2 18 "ShoreFields$Shore" "scourOf" "[I", Cond.fieldLink RX2 21 "ShoreFields$Shore" "barAt" "[I", Cond.fieldLink RX2 24 "ShoreFields$Shore" "passedAt" "[I", Cond.methodLink RX2 39 yJ7_fill_53178, Cond.static yJ7_fill_53178, Cond.initialized RJ7, Cond.code yJ7_fill_53178 cJ7_fill_53178 4 none]
def wsX6_number : List Cond := .code yX6_number cX6_number 2 (some .boolean) :: ((wsX6_number_r1 ++ wsX6_number_r2) ++ wsX60 ++ wsX00 ++ wsX20)
def wsX6_wave : List Cond := .code yX6_wave cX6_wave 3 (some .int) :: ([.fieldLink RX6 32 "ShoreFields" "weather" "LShoreFields$Weather;", .fieldLink RX6 107 "ShoreFields$Weather" "size" "I", .fieldLink RX6 65 "ShoreFields" "anythingTold" "Z", .methodLink RX6 73 yX6_isWithin, .static yX6_isWithin, .initialized RX6, .code yX6_isWithin cX6_isWithin 3 (some .boolean), .methodLink RX6 110 yX4_add, .instanceMethod yX4_add, .selects RX4 yX4_add yX4_add, .initialized RX4, .code yX4_add cX4_add 3 none, .fieldLink RX4 9 "ShoreFields$Weather" "size" "I", .fieldLink RX4 15 "ShoreFields$Weather" "heights" "[I", .fieldLink RX4 19 "ShoreFields$Weather" "sides" "[I"] ++ wsX60 ++ wsX40)
def wsX6_weeks_r1 : List Cond := [Cond.fieldLink RX6 32 "ShoreFields" "weather" "LShoreFields$Weather;", Cond.fieldLink RX6 107 "ShoreFields$Weather" "size" "I", Cond.fieldLink RX6 61 "ShoreFields" "weeksGone" "I", Cond.fieldLink RX6 22 "ShoreFields" "now" "LShoreFields$Shore;", Cond.fieldLink RX6 12 "ShoreFields" "begin" "LShoreFields$Begin;", Cond.fieldLink RX6 114 "ShoreFields$Weather" "heights" "[I", Cond.fieldLink RX6 117 "ShoreFields$Weather" "sides" "[I", Cond.methodLink RX6 73 yX6_isWithin, Cond.static yX6_isWithin, Cond.initialized RX6, Cond.code yX6_isWithin cX6_isWithin 3 (some .boolean), Cond.methodLink RX6 120 yX2_goThrough, Cond.instanceMethod yX2_goThrough, Cond.selects RX2 yX2_goThrough yX2_goThrough, Cond.initialized RX2, Cond.code yX2_goThrough cX2_goThrough 5 none, Cond.fieldLink RX2 24 "ShoreFields$Shore" "passedAt" "[I", Cond.fieldLink RX2 27 "ShoreFields$Shore" "changeOf" "[I", Cond.fieldLink RX2 56 "ShoreFields$Begin" "fieldCount" "I", Cond.methodLink RX2 39 yJ7_fill_53178, Cond.static yJ7_fill_53178, Cond.initialized RJ7, Cond.code yJ7_fill_53178 cJ7_fill_53178 4 none, Cond.methodLink RX2 52 yX2_comeInAtEnd]
def wsX6_weeks_r2 : List Cond := [Cond.instanceMethod yX2_comeInAtEnd, Cond.selects RX2 yX2_comeInAtEnd yX2_comeInAtEnd, Cond.code yX2_comeInAtEnd cX2_comeInAtEnd 6 none, Cond.fieldLink RX2 78 "ShoreFields$Begin" "shoreNumber" "I", Cond.fieldLink RX2 81 "ShoreFields$Begin" "feedOf" "[I", Cond.methodLink RX2 60 yX2_passAt, Cond.instanceMethod yX2_passAt, Cond.selects RX2 yX2_passAt yX2_passAt, Cond.code yX2_passAt cX2_passAt 11 none, Cond.methodLink RX2 91 Lib.Math.max.name, Cond.static Lib.Math.max.name, Cond.initialized "java/lang/Math", Cond.code Lib.Math.max.name Lib.Math.max.code 2 (some .int), Cond.fieldLink RX2 94 "ShoreFields$Begin" "kindAt" "[I", Cond.fieldLink RX2 101 "ShoreFields$Begin" "sizeAt" "[I", Cond.fieldLink RX2 104 "ShoreFields$Begin" "leakAt" "[I", Cond.fieldLink RX2 21 "ShoreFields$Shore" "barAt" "[I", Cond.methodLink RX2 88 yX2_slope, Cond.instanceMethod yX2_slope, Cond.selects RX2 yX2_slope yX2_slope, Cond.code yX2_slope cX2_slope 4 (some .int), Cond.methodLink RX2 45 Lib.Math.min.name, Cond.static Lib.Math.min.name, Cond.code Lib.Math.min.name Lib.Math.min.code 2 (some .int)]
def wsX6_weeks_r3 : List Cond := [Cond.methodLink RX2 97 yX2_lineOf, Cond.instanceMethod yX2_lineOf, Cond.selects RX2 yX2_lineOf yX2_lineOf, Cond.code yX2_lineOf cX2_lineOf 2 (some .int), Cond.fieldLink RX2 9 "ShoreFields$Shore" "sandOf" "[I", Cond.methodLink RX2 84 yX2_takeFrom, Cond.instanceMethod yX2_takeFrom, Cond.selects RX2 yX2_takeFrom yX2_takeFrom, Cond.code yX2_takeFrom cX2_takeFrom 6 (some .int), Cond.fieldLink RX2 18 "ShoreFields$Shore" "scourOf" "[I", Cond.methodLink RX2 107 yX2_freeSandOf, Cond.instanceMethod yX2_freeSandOf, Cond.selects RX2 yX2_freeSandOf yX2_freeSandOf, Cond.code yX2_freeSandOf cX2_freeSandOf 4 (some .int), Cond.fieldLink RX2 111 "ShoreFields$Begin" "wallOf" "[I", Cond.methodLink RX2 64 yX2_goOutAtEnd, Cond.instanceMethod yX2_goOutAtEnd, Cond.selects RX2 yX2_goOutAtEnd yX2_goOutAtEnd, Cond.code yX2_goOutAtEnd cX2_goOutAtEnd 6 none, Cond.methodLink RX2 67 yX2_addChanges, Cond.instanceMethod yX2_addChanges, Cond.selects RX2 yX2_addChanges yX2_addChanges, Cond.code yX2_addChanges cX2_addChanges 3 none, Cond.constant RX2 51 (99999)]
def wsX6_weeks_r4 : List Cond := [Cond.methodLink RX2 71 yX2_takeOutToSea, Cond.instanceMethod yX2_takeOutToSea, Cond.selects RX2 yX2_takeOutToSea yX2_takeOutToSea, Cond.code yX2_takeOutToSea cX2_takeOutToSea 5 none, Cond.fieldLink RX2 15 "ShoreFields$Shore" "seaOf" "[I", Cond.methodLink RX2 75 yX2_bringBackFromSea, Cond.instanceMethod yX2_bringBackFromSea, Cond.selects RX2 yX2_bringBackFromSea yX2_bringBackFromSea, Cond.code yX2_bringBackFromSea cX2_bringBackFromSea 4 none]
def wsX6_weeks : List Cond := .code yX6_weeks cX6_weeks 4 (some .int) :: ((wsX6_weeks_r1 ++ (wsX6_weeks_r2 ++ (wsX6_weeks_r3 ++ wsX6_weeks_r4))) ++ wsX60 ++ wsX40 ++ wsX20 ++ wsX00)
def wsX6_dredge_r1 : List Cond := [Cond.fieldLink RX6 12 "ShoreFields" "begin" "LShoreFields$Begin;", Cond.fieldLink RX6 39 "ShoreFields" "dredgings" "LShoreFields$Dredgings;", Cond.fieldLink RX6 128 "ShoreFields$Dredgings" "size" "I", Cond.fieldLink RX6 61 "ShoreFields" "weeksGone" "I", Cond.fieldLink RX6 22 "ShoreFields" "now" "LShoreFields$Shore;", Cond.methodLink RX6 124 yX0_hasAt, Cond.instanceMethod yX0_hasAt, Cond.selects RX0 yX0_hasAt yX0_hasAt, Cond.initialized RX0, Cond.code yX0_hasAt cX0_hasAt 3 (some .boolean), Cond.fieldLink RX0 28 "ShoreFields$Begin" "kindAt" "[I", Cond.methodLink RX0 43 yX0_liesBetweenFields, Cond.instanceMethod yX0_liesBetweenFields, Cond.selects RX0 yX0_liesBetweenFields yX0_liesBetweenFields, Cond.code yX0_liesBetweenFields cX0_liesBetweenFields 2 (some .boolean), Cond.fieldLink RX0 9 "ShoreFields$Begin" "fieldCount" "I", Cond.methodLink RX6 80 yX0_hasField, Cond.instanceMethod yX0_hasField, Cond.selects RX0 yX0_hasField yX0_hasField, Cond.code yX0_hasField cX0_hasField 2 (some .boolean), Cond.methodLink RX6 73 yX6_isWithin, Cond.static yX6_isWithin, Cond.initialized RX6, Cond.code yX6_isWithin cX6_isWithin 3 (some .boolean)]
def wsX6_dredge_r2 : List Cond := [Cond.methodLink RX6 129 yX1_add, Cond.instanceMethod yX1_add, Cond.selects RX1 yX1_add yX1_add, Cond.initialized RX1, Cond.code yX1_add cX1_add 5 none, Cond.fieldLink RX1 9 "ShoreFields$Dredgings" "size" "I", Cond.fieldLink RX1 15 "ShoreFields$Dredgings" "borders" "[I", Cond.fieldLink RX1 19 "ShoreFields$Dredgings" "units" "[I", Cond.fieldLink RX1 22 "ShoreFields$Dredgings" "fields" "[I", Cond.fieldLink RX1 25 "ShoreFields$Dredgings" "weeks" "[I", Cond.methodLink RX6 131 yX2_bringFromBar, Cond.instanceMethod yX2_bringFromBar, Cond.selects RX2 yX2_bringFromBar yX2_bringFromBar, Cond.initialized RX2, Cond.code yX2_bringFromBar cX2_bringFromBar 5 (some .int), Cond.fieldLink RX2 21 "ShoreFields$Shore" "barAt" "[I", Cond.methodLink RX2 45 Lib.Math.min.name, Cond.static Lib.Math.min.name, Cond.initialized "java/lang/Math", Cond.code Lib.Math.min.name Lib.Math.min.code 2 (some .int), Cond.fieldLink RX2 9 "ShoreFields$Shore" "sandOf" "[I", Cond.constant RX2 51 (99999)]
def wsX6_dredge : List Cond := .code yX6_dredge cX6_dredge 4 (some .int) :: ((wsX6_dredge_r1 ++ wsX6_dredge_r2) ++ wsX60 ++ wsX10 ++ wsX00 ++ wsX20)
def wsX6_line : List Cond := .code yX6_line cX6_line 2 (some .int) :: ([.classLink RX6 135 "java/util/NoSuchElementException", .initialized "java/util/NoSuchElementException", .fieldLink RX6 12 "ShoreFields" "begin" "LShoreFields$Begin;", .fieldLink RX6 22 "ShoreFields" "now" "LShoreFields$Shore;", .methodLink RX6 80 yX0_hasField, .instanceMethod yX0_hasField, .selects RX0 yX0_hasField yX0_hasField, .initialized RX0, .code yX0_hasField cX0_hasField 2 (some .boolean), .fieldLink RX0 9 "ShoreFields$Begin" "fieldCount" "I", .methodLink RX6 142 yX2_lineOf, .instanceMethod yX2_lineOf, .selects RX2 yX2_lineOf yX2_lineOf, .initialized RX2, .code yX2_lineOf cX2_lineOf 2 (some .int), .fieldLink RX2 9 "ShoreFields$Shore" "sandOf" "[I"] ++ wsX60 ++ wsX00 ++ wsX20 ++ (vx_atS RX6 139 "java/util/NoSuchElementException" ["java/lang/RuntimeException", "java/lang/Exception"]).filter goodWord)
def wsX6_look : List Cond := .code yX6_look cX6_look 3 (some .int) :: ([.fieldLink RX6 12 "ShoreFields" "begin" "LShoreFields$Begin;", .fieldLink RX6 22 "ShoreFields" "now" "LShoreFields$Shore;", .fieldLink RX6 146 "ShoreFields$Shore" "sandOf" "[I", .fieldLink RX6 147 "ShoreFields$Shore" "seaOf" "[I", .fieldLink RX6 150 "ShoreFields$Shore" "scourOf" "[I", .methodLink RX6 80 yX0_hasField, .instanceMethod yX0_hasField, .selects RX0 yX0_hasField yX0_hasField, .initialized RX0, .code yX0_hasField cX0_hasField 2 (some .boolean), .fieldLink RX0 9 "ShoreFields$Begin" "fieldCount" "I"] ++ wsX60 ++ wsX20 ++ wsX00)
def wsX6_border : List Cond := .code yX6_border cX6_border 4 (some .int) :: ([.fieldLink RX6 12 "ShoreFields" "begin" "LShoreFields$Begin;", .constant RX6 156 (-100000), .fieldLink RX6 157 "ShoreFields$Begin" "kindAt" "[I", .fieldLink RX6 160 "ShoreFields$Begin" "sizeAt" "[I", .fieldLink RX6 22 "ShoreFields" "now" "LShoreFields$Shore;", .fieldLink RX6 163 "ShoreFields$Shore" "barAt" "[I", .fieldLink RX6 166 "ShoreFields$Begin" "leakAt" "[I", .fieldLink RX6 169 "ShoreFields$Shore" "passedAt" "[I", .methodLink RX6 153 yX0_hasBorder, .instanceMethod yX0_hasBorder, .selects RX0 yX0_hasBorder yX0_hasBorder, .initialized RX0, .code yX0_hasBorder cX0_hasBorder 2 (some .boolean), .fieldLink RX0 9 "ShoreFields$Begin" "fieldCount" "I"] ++ wsX60 ++ wsX00 ++ wsX20)
def wsX6_goThroughAgain_r1 : List Cond := [Cond.fieldLink RX6 26 "ShoreFields" "again" "LShoreFields$Shore;", Cond.fieldLink RX6 16 "ShoreFields" "trial" "LShoreFields$Begin;", Cond.fieldLink RX6 32 "ShoreFields" "weather" "LShoreFields$Weather;", Cond.fieldLink RX6 114 "ShoreFields$Weather" "heights" "[I", Cond.fieldLink RX6 117 "ShoreFields$Weather" "sides" "[I", Cond.fieldLink RX6 39 "ShoreFields" "dredgings" "LShoreFields$Dredgings;", Cond.methodLink RX6 120 yX2_goThrough, Cond.instanceMethod yX2_goThrough, Cond.selects RX2 yX2_goThrough yX2_goThrough, Cond.initialized RX2, Cond.code yX2_goThrough cX2_goThrough 5 none, Cond.fieldLink RX2 24 "ShoreFields$Shore" "passedAt" "[I", Cond.fieldLink RX2 27 "ShoreFields$Shore" "changeOf" "[I", Cond.fieldLink RX2 56 "ShoreFields$Begin" "fieldCount" "I", Cond.methodLink RX2 39 yJ7_fill_53178, Cond.static yJ7_fill_53178, Cond.initialized RJ7, Cond.code yJ7_fill_53178 cJ7_fill_53178 4 none, Cond.methodLink RX2 52 yX2_comeInAtEnd, Cond.instanceMethod yX2_comeInAtEnd, Cond.selects RX2 yX2_comeInAtEnd yX2_comeInAtEnd, Cond.code yX2_comeInAtEnd cX2_comeInAtEnd 6 none, Cond.fieldLink RX2 78 "ShoreFields$Begin" "shoreNumber" "I", Cond.fieldLink RX2 81 "ShoreFields$Begin" "feedOf" "[I"]
def wsX6_goThroughAgain_r2 : List Cond := [Cond.methodLink RX2 60 yX2_passAt, Cond.instanceMethod yX2_passAt, Cond.selects RX2 yX2_passAt yX2_passAt, Cond.code yX2_passAt cX2_passAt 11 none, Cond.methodLink RX2 91 Lib.Math.max.name, Cond.static Lib.Math.max.name, Cond.initialized "java/lang/Math", Cond.code Lib.Math.max.name Lib.Math.max.code 2 (some .int), Cond.fieldLink RX2 94 "ShoreFields$Begin" "kindAt" "[I", Cond.fieldLink RX2 101 "ShoreFields$Begin" "sizeAt" "[I", Cond.fieldLink RX2 104 "ShoreFields$Begin" "leakAt" "[I", Cond.fieldLink RX2 21 "ShoreFields$Shore" "barAt" "[I", Cond.methodLink RX2 88 yX2_slope, Cond.instanceMethod yX2_slope, Cond.selects RX2 yX2_slope yX2_slope, Cond.code yX2_slope cX2_slope 4 (some .int), Cond.methodLink RX2 45 Lib.Math.min.name, Cond.static Lib.Math.min.name, Cond.code Lib.Math.min.name Lib.Math.min.code 2 (some .int), Cond.methodLink RX2 97 yX2_lineOf, Cond.instanceMethod yX2_lineOf, Cond.selects RX2 yX2_lineOf yX2_lineOf, Cond.code yX2_lineOf cX2_lineOf 2 (some .int), Cond.fieldLink RX2 9 "ShoreFields$Shore" "sandOf" "[I"]
def wsX6_goThroughAgain_r3 : List Cond := [Cond.methodLink RX2 84 yX2_takeFrom, Cond.instanceMethod yX2_takeFrom, Cond.selects RX2 yX2_takeFrom yX2_takeFrom, Cond.code yX2_takeFrom cX2_takeFrom 6 (some .int), Cond.fieldLink RX2 18 "ShoreFields$Shore" "scourOf" "[I", Cond.methodLink RX2 107 yX2_freeSandOf, Cond.instanceMethod yX2_freeSandOf, Cond.selects RX2 yX2_freeSandOf yX2_freeSandOf, Cond.code yX2_freeSandOf cX2_freeSandOf 4 (some .int), Cond.fieldLink RX2 111 "ShoreFields$Begin" "wallOf" "[I", Cond.methodLink RX2 64 yX2_goOutAtEnd, Cond.instanceMethod yX2_goOutAtEnd, Cond.selects RX2 yX2_goOutAtEnd yX2_goOutAtEnd, Cond.code yX2_goOutAtEnd cX2_goOutAtEnd 6 none, Cond.methodLink RX2 67 yX2_addChanges, Cond.instanceMethod yX2_addChanges, Cond.selects RX2 yX2_addChanges yX2_addChanges, Cond.code yX2_addChanges cX2_addChanges 3 none, Cond.constant RX2 51 (99999), Cond.methodLink RX2 71 yX2_takeOutToSea, Cond.instanceMethod yX2_takeOutToSea, Cond.selects RX2 yX2_takeOutToSea yX2_takeOutToSea, Cond.code yX2_takeOutToSea cX2_takeOutToSea 5 none, Cond.fieldLink RX2 15 "ShoreFields$Shore" "seaOf" "[I"]
def wsX6_goThroughAgain_r4 : List Cond := [Cond.methodLink RX2 75 yX2_bringBackFromSea, Cond.instanceMethod yX2_bringBackFromSea, Cond.selects RX2 yX2_bringBackFromSea yX2_bringBackFromSea, Cond.code yX2_bringBackFromSea cX2_bringBackFromSea 4 none, Cond.methodLink RX6 225 yX1_redoBehind, Cond.instanceMethod yX1_redoBehind, Cond.selects RX1 yX1_redoBehind yX1_redoBehind, Cond.initialized RX1, Cond.code yX1_redoBehind cX1_redoBehind 4 none, Cond.fieldLink RX1 9 "ShoreFields$Dredgings" "size" "I", Cond.fieldLink RX1 25 "ShoreFields$Dredgings" "weeks" "[I", Cond.fieldLink RX1 15 "ShoreFields$Dredgings" "borders" "[I", Cond.fieldLink RX1 19 "ShoreFields$Dredgings" "units" "[I", Cond.fieldLink RX1 22 "ShoreFields$Dredgings" "fields" "[I", Cond.methodLink RX1 28 yX2_bringFromBar, Cond.instanceMethod yX2_bringFromBar, Cond.selects RX2 yX2_bringFromBar yX2_bringFromBar, Cond.code yX2_bringFromBar cX2_bringFromBar 5 (some .int)]
def wsX6_goThroughAgain : List Cond := .code yX6_goThroughAgain cX6_goThroughAgain 2 none :: ((wsX6_goThroughAgain_r1 ++ (wsX6_goThroughAgain_r2 ++ (wsX6_goThroughAgain_r3 ++ wsX6_goThroughAgain_r4))) ++ wsX60 ++ wsX40 ++ wsX20 ++ wsX00 ++ wsX10)
def wsX6_lineLeavingAway_r1 : List Cond := [Cond.fieldLink RX6 16 "ShoreFields" "trial" "LShoreFields$Begin;", Cond.fieldLink RX6 12 "ShoreFields" "begin" "LShoreFields$Begin;", Cond.fieldLink RX6 26 "ShoreFields" "again" "LShoreFields$Shore;", Cond.fieldLink RX6 61 "ShoreFields" "weeksGone" "I", Cond.methodLink RX6 207 yX0_copyFrom, Cond.instanceMethod yX0_copyFrom, Cond.selects RX0 yX0_copyFrom yX0_copyFrom, Cond.initialized RX0, Cond.code yX0_copyFrom cX0_copyFrom 2 none, Cond.fieldLink RX0 9 "ShoreFields$Begin" "fieldCount" "I", Cond.fieldLink RX0 15 "ShoreFields$Begin" "shoreNumber" "I", Cond.fieldLink RX0 18 "ShoreFields$Begin" "sandOf" "[I", Cond.methodLink RX0 51 arraycopyName, Cond.native arraycopyName, Cond.static arraycopyName, Cond.initialized "java/lang/System", Cond.fieldLink RX0 22 "ShoreFields$Begin" "wallOf" "[I", Cond.fieldLink RX0 25 "ShoreFields$Begin" "feedOf" "[I", Cond.fieldLink RX0 28 "ShoreFields$Begin" "kindAt" "[I", Cond.fieldLink RX0 31 "ShoreFields$Begin" "sizeAt" "[I", Cond.fieldLink RX0 34 "ShoreFields$Begin" "leakAt" "[I", Cond.methodLink RX6 210 yX0_leaveAway, Cond.instanceMethod yX0_leaveAway, Cond.selects RX0 yX0_leaveAway yX0_leaveAway]
def wsX6_lineLeavingAway_r2 : List Cond := [Cond.code yX0_leaveAway cX0_leaveAway 3 none, Cond.methodLink RX0 47 yX0_build, Cond.instanceMethod yX0_build, Cond.selects RX0 yX0_build yX0_build, Cond.code yX0_build cX0_build 5 none, Cond.methodLink RX6 69 yX2_startFrom, Cond.instanceMethod yX2_startFrom, Cond.selects RX2 yX2_startFrom yX2_startFrom, Cond.initialized RX2, Cond.code yX2_startFrom cX2_startFrom 2 none, Cond.fieldLink RX2 30 "ShoreFields$Begin" "sandOf" "[I", Cond.fieldLink RX2 9 "ShoreFields$Shore" "sandOf" "[I", Cond.methodLink RX2 33 arraycopyName, Cond.fieldLink RX2 15 "ShoreFields$Shore" "seaOf" "[I", Cond.fieldLink RX2 18 "ShoreFields$Shore" "scourOf" "[I", Cond.fieldLink RX2 21 "ShoreFields$Shore" "barAt" "[I", Cond.fieldLink RX2 24 "ShoreFields$Shore" "passedAt" "[I", Cond.methodLink RX2 39 yJ7_fill_53178, Cond.static yJ7_fill_53178, Cond.initialized RJ7, Cond.code yJ7_fill_53178 cJ7_fill_53178 4 none, Cond.methodLink RX6 214 yX6_goThroughAgain, Cond.instanceMethod yX6_goThroughAgain, Cond.selects RX6 yX6_goThroughAgain yX6_goThroughAgain]
def wsX6_lineLeavingAway_r3 : List Cond := [Cond.initialized RX6, Cond.code yX6_goThroughAgain cX6_goThroughAgain 2 none, Cond.fieldLink RX6 32 "ShoreFields" "weather" "LShoreFields$Weather;", Cond.fieldLink RX6 114 "ShoreFields$Weather" "heights" "[I", Cond.fieldLink RX6 117 "ShoreFields$Weather" "sides" "[I", Cond.fieldLink RX6 39 "ShoreFields" "dredgings" "LShoreFields$Dredgings;", Cond.methodLink RX6 120 yX2_goThrough, Cond.instanceMethod yX2_goThrough, Cond.selects RX2 yX2_goThrough yX2_goThrough, Cond.code yX2_goThrough cX2_goThrough 5 none, Cond.fieldLink RX2 27 "ShoreFields$Shore" "changeOf" "[I", Cond.fieldLink RX2 56 "ShoreFields$Begin" "fieldCount" "I", Cond.methodLink RX2 52 yX2_comeInAtEnd, Cond.instanceMethod yX2_comeInAtEnd, Cond.selects RX2 yX2_comeInAtEnd yX2_comeInAtEnd, Cond.code yX2_comeInAtEnd cX2_comeInAtEnd 6 none, Cond.fieldLink RX2 78 "ShoreFields$Begin" "shoreNumber" "I", Cond.fieldLink RX2 81 "ShoreFields$Begin" "feedOf" "[I", Cond.methodLink RX2 60 yX2_passAt, Cond.instanceMethod yX2_passAt, Cond.selects RX2 yX2_passAt yX2_passAt, Cond.code yX2_passAt cX2_passAt 11 none, Cond.methodLink RX2 91 Lib.Math.max.name, Cond.static Lib.Math.max.name]
def wsX6_lineLeavingAway_r4 : List Cond := [Cond.initialized "java/lang/Math", Cond.code Lib.Math.max.name Lib.Math.max.code 2 (some .int), Cond.fieldLink RX2 94 "ShoreFields$Begin" "kindAt" "[I", Cond.fieldLink RX2 101 "ShoreFields$Begin" "sizeAt" "[I", Cond.fieldLink RX2 104 "ShoreFields$Begin" "leakAt" "[I", Cond.methodLink RX2 88 yX2_slope, Cond.instanceMethod yX2_slope, Cond.selects RX2 yX2_slope yX2_slope, Cond.code yX2_slope cX2_slope 4 (some .int), Cond.methodLink RX2 45 Lib.Math.min.name, Cond.static Lib.Math.min.name, Cond.code Lib.Math.min.name Lib.Math.min.code 2 (some .int), Cond.methodLink RX2 97 yX2_lineOf, Cond.instanceMethod yX2_lineOf, Cond.selects RX2 yX2_lineOf yX2_lineOf, Cond.code yX2_lineOf cX2_lineOf 2 (some .int), Cond.methodLink RX2 84 yX2_takeFrom, Cond.instanceMethod yX2_takeFrom, Cond.selects RX2 yX2_takeFrom yX2_takeFrom, Cond.code yX2_takeFrom cX2_takeFrom 6 (some .int), Cond.methodLink RX2 107 yX2_freeSandOf, Cond.instanceMethod yX2_freeSandOf, Cond.selects RX2 yX2_freeSandOf yX2_freeSandOf, Cond.code yX2_freeSandOf cX2_freeSandOf 4 (some .int)]
def wsX6_lineLeavingAway_r5 : List Cond := [Cond.fieldLink RX2 111 "ShoreFields$Begin" "wallOf" "[I", Cond.methodLink RX2 64 yX2_goOutAtEnd, Cond.instanceMethod yX2_goOutAtEnd, Cond.selects RX2 yX2_goOutAtEnd yX2_goOutAtEnd, Cond.code yX2_goOutAtEnd cX2_goOutAtEnd 6 none, Cond.methodLink RX2 67 yX2_addChanges, Cond.instanceMethod yX2_addChanges, Cond.selects RX2 yX2_addChanges yX2_addChanges, Cond.code yX2_addChanges cX2_addChanges 3 none, Cond.constant RX2 51 (99999), Cond.methodLink RX2 71 yX2_takeOutToSea, Cond.instanceMethod yX2_takeOutToSea, Cond.selects RX2 yX2_takeOutToSea yX2_takeOutToSea, Cond.code yX2_takeOutToSea cX2_takeOutToSea 5 none, Cond.methodLink RX2 75 yX2_bringBackFromSea, Cond.instanceMethod yX2_bringBackFromSea, Cond.selects RX2 yX2_bringBackFromSea yX2_bringBackFromSea, Cond.code yX2_bringBackFromSea cX2_bringBackFromSea 4 none, Cond.methodLink RX6 225 yX1_redoBehind, Cond.instanceMethod yX1_redoBehind, Cond.selects RX1 yX1_redoBehind yX1_redoBehind, Cond.initialized RX1, Cond.code yX1_redoBehind cX1_redoBehind 4 none, Cond.fieldLink RX1 9 "ShoreFields$Dredgings" "size" "I"]
def wsX6_lineLeavingAway_r6 : List Cond := [Cond.fieldLink RX1 25 "ShoreFields$Dredgings" "weeks" "[I", Cond.fieldLink RX1 15 "ShoreFields$Dredgings" "borders" "[I", Cond.fieldLink RX1 19 "ShoreFields$Dredgings" "units" "[I", Cond.fieldLink RX1 22 "ShoreFields$Dredgings" "fields" "[I", Cond.methodLink RX1 28 yX2_bringFromBar, Cond.instanceMethod yX2_bringFromBar, Cond.selects RX2 yX2_bringFromBar yX2_bringFromBar, Cond.code yX2_bringFromBar cX2_bringFromBar 5 (some .int), Cond.methodLink RX6 142 yX2_lineOf]
def wsX6_lineLeavingAway : List Cond := .code yX6_lineLeavingAway cX6_lineLeavingAway 4 (some .int) :: ((wsX6_lineLeavingAway_r1 ++ (wsX6_lineLeavingAway_r2 ++ (wsX6_lineLeavingAway_r3 ++ (wsX6_lineLeavingAway_r4 ++ (wsX6_lineLeavingAway_r5 ++ wsX6_lineLeavingAway_r6))))) ++ wsX60 ++ wsX00 ++ wsX20 ++ wsX40 ++ wsX10)
def wsX6_without_r1 : List Cond := [Cond.fieldLink RX6 12 "ShoreFields" "begin" "LShoreFields$Begin;", Cond.methodLink RX6 80 yX0_hasField, Cond.instanceMethod yX0_hasField, Cond.selects RX0 yX0_hasField yX0_hasField, Cond.initialized RX0, Cond.code yX0_hasField cX0_hasField 2 (some .boolean), Cond.fieldLink RX0 9 "ShoreFields$Begin" "fieldCount" "I", Cond.methodLink RX6 172 yX0_hasGroynes, Cond.instanceMethod yX0_hasGroynes, Cond.selects RX0 yX0_hasGroynes yX0_hasGroynes, Cond.code yX0_hasGroynes cX0_hasGroynes 4 (some .boolean), Cond.fieldLink RX0 28 "ShoreFields$Begin" "kindAt" "[I", Cond.methodLink RX6 175 yX6_lineLeavingAway, Cond.instanceMethod yX6_lineLeavingAway, Cond.selects RX6 yX6_lineLeavingAway yX6_lineLeavingAway, Cond.initialized RX6, Cond.code yX6_lineLeavingAway cX6_lineLeavingAway 4 (some .int), Cond.fieldLink RX6 16 "ShoreFields" "trial" "LShoreFields$Begin;", Cond.fieldLink RX6 26 "ShoreFields" "again" "LShoreFields$Shore;", Cond.fieldLink RX6 61 "ShoreFields" "weeksGone" "I", Cond.methodLink RX6 207 yX0_copyFrom, Cond.instanceMethod yX0_copyFrom, Cond.selects RX0 yX0_copyFrom yX0_copyFrom, Cond.code yX0_copyFrom cX0_copyFrom 2 none]
def wsX6_without_r2 : List Cond := [Cond.fieldLink RX0 15 "ShoreFields$Begin" "shoreNumber" "I", Cond.fieldLink RX0 18 "ShoreFields$Begin" "sandOf" "[I", Cond.methodLink RX0 51 arraycopyName, Cond.native arraycopyName, Cond.static arraycopyName, Cond.initialized "java/lang/System", Cond.fieldLink RX0 22 "ShoreFields$Begin" "wallOf" "[I", Cond.fieldLink RX0 25 "ShoreFields$Begin" "feedOf" "[I", Cond.fieldLink RX0 31 "ShoreFields$Begin" "sizeAt" "[I", Cond.fieldLink RX0 34 "ShoreFields$Begin" "leakAt" "[I", Cond.methodLink RX6 210 yX0_leaveAway, Cond.instanceMethod yX0_leaveAway, Cond.selects RX0 yX0_leaveAway yX0_leaveAway, Cond.code yX0_leaveAway cX0_leaveAway 3 none, Cond.methodLink RX0 47 yX0_build, Cond.instanceMethod yX0_build, Cond.selects RX0 yX0_build yX0_build, Cond.code yX0_build cX0_build 5 none, Cond.methodLink RX6 69 yX2_startFrom, Cond.instanceMethod yX2_startFrom, Cond.selects RX2 yX2_startFrom yX2_startFrom, Cond.initialized RX2, Cond.code yX2_startFrom cX2_startFrom 2 none, Cond.fieldLink RX2 30 "ShoreFields$Begin" "sandOf" "[I"]
def wsX6_without_r3 : List Cond := [Cond.fieldLink RX2 9 "ShoreFields$Shore" "sandOf" "[I", Cond.methodLink RX2 33 arraycopyName, Cond.fieldLink RX2 15 "ShoreFields$Shore" "seaOf" "[I", Cond.fieldLink RX2 18 "ShoreFields$Shore" "scourOf" "[I", Cond.fieldLink RX2 21 "ShoreFields$Shore" "barAt" "[I", Cond.fieldLink RX2 24 "ShoreFields$Shore" "passedAt" "[I", Cond.methodLink RX2 39 yJ7_fill_53178, Cond.static yJ7_fill_53178, Cond.initialized RJ7, Cond.code yJ7_fill_53178 cJ7_fill_53178 4 none, Cond.methodLink RX6 214 yX6_goThroughAgain, Cond.instanceMethod yX6_goThroughAgain, Cond.selects RX6 yX6_goThroughAgain yX6_goThroughAgain, Cond.code yX6_goThroughAgain cX6_goThroughAgain 2 none, Cond.fieldLink RX6 32 "ShoreFields" "weather" "LShoreFields$Weather;", Cond.fieldLink RX6 114 "ShoreFields$Weather" "heights" "[I", Cond.fieldLink RX6 117 "ShoreFields$Weather" "sides" "[I", Cond.fieldLink RX6 39 "ShoreFields" "dredgings" "LShoreFields$Dredgings;", Cond.methodLink RX6 120 yX2_goThrough, Cond.instanceMethod yX2_goThrough, Cond.selects RX2 yX2_goThrough yX2_goThrough, Cond.code yX2_goThrough cX2_goThrough 5 none, Cond.fieldLink RX2 27 "ShoreFields$Shore" "changeOf" "[I", Cond.fieldLink RX2 56 "ShoreFields$Begin" "fieldCount" "I"]
def wsX6_without_r4 : List Cond := [Cond.methodLink RX2 52 yX2_comeInAtEnd, Cond.instanceMethod yX2_comeInAtEnd, Cond.selects RX2 yX2_comeInAtEnd yX2_comeInAtEnd, Cond.code yX2_comeInAtEnd cX2_comeInAtEnd 6 none, Cond.fieldLink RX2 78 "ShoreFields$Begin" "shoreNumber" "I", Cond.fieldLink RX2 81 "ShoreFields$Begin" "feedOf" "[I", Cond.methodLink RX2 60 yX2_passAt, Cond.instanceMethod yX2_passAt, Cond.selects RX2 yX2_passAt yX2_passAt, Cond.code yX2_passAt cX2_passAt 11 none, Cond.methodLink RX2 91 Lib.Math.max.name, Cond.static Lib.Math.max.name, Cond.initialized "java/lang/Math", Cond.code Lib.Math.max.name Lib.Math.max.code 2 (some .int), Cond.fieldLink RX2 94 "ShoreFields$Begin" "kindAt" "[I", Cond.fieldLink RX2 101 "ShoreFields$Begin" "sizeAt" "[I", Cond.fieldLink RX2 104 "ShoreFields$Begin" "leakAt" "[I", Cond.methodLink RX2 88 yX2_slope, Cond.instanceMethod yX2_slope, Cond.selects RX2 yX2_slope yX2_slope, Cond.code yX2_slope cX2_slope 4 (some .int), Cond.methodLink RX2 45 Lib.Math.min.name, Cond.static Lib.Math.min.name, Cond.code Lib.Math.min.name Lib.Math.min.code 2 (some .int)]
def wsX6_without_r5 : List Cond := [Cond.methodLink RX2 97 yX2_lineOf, Cond.instanceMethod yX2_lineOf, Cond.selects RX2 yX2_lineOf yX2_lineOf, Cond.code yX2_lineOf cX2_lineOf 2 (some .int), Cond.methodLink RX2 84 yX2_takeFrom, Cond.instanceMethod yX2_takeFrom, Cond.selects RX2 yX2_takeFrom yX2_takeFrom, Cond.code yX2_takeFrom cX2_takeFrom 6 (some .int), Cond.methodLink RX2 107 yX2_freeSandOf, Cond.instanceMethod yX2_freeSandOf, Cond.selects RX2 yX2_freeSandOf yX2_freeSandOf, Cond.code yX2_freeSandOf cX2_freeSandOf 4 (some .int), Cond.fieldLink RX2 111 "ShoreFields$Begin" "wallOf" "[I", Cond.methodLink RX2 64 yX2_goOutAtEnd, Cond.instanceMethod yX2_goOutAtEnd, Cond.selects RX2 yX2_goOutAtEnd yX2_goOutAtEnd, Cond.code yX2_goOutAtEnd cX2_goOutAtEnd 6 none, Cond.methodLink RX2 67 yX2_addChanges, Cond.instanceMethod yX2_addChanges, Cond.selects RX2 yX2_addChanges yX2_addChanges, Cond.code yX2_addChanges cX2_addChanges 3 none, Cond.constant RX2 51 (99999), Cond.methodLink RX2 71 yX2_takeOutToSea, Cond.instanceMethod yX2_takeOutToSea]
def wsX6_without_r6 : List Cond := [Cond.selects RX2 yX2_takeOutToSea yX2_takeOutToSea, Cond.code yX2_takeOutToSea cX2_takeOutToSea 5 none, Cond.methodLink RX2 75 yX2_bringBackFromSea, Cond.instanceMethod yX2_bringBackFromSea, Cond.selects RX2 yX2_bringBackFromSea yX2_bringBackFromSea, Cond.code yX2_bringBackFromSea cX2_bringBackFromSea 4 none, Cond.methodLink RX6 225 yX1_redoBehind, Cond.instanceMethod yX1_redoBehind, Cond.selects RX1 yX1_redoBehind yX1_redoBehind, Cond.initialized RX1, Cond.code yX1_redoBehind cX1_redoBehind 4 none, Cond.fieldLink RX1 9 "ShoreFields$Dredgings" "size" "I", Cond.fieldLink RX1 25 "ShoreFields$Dredgings" "weeks" "[I", Cond.fieldLink RX1 15 "ShoreFields$Dredgings" "borders" "[I", Cond.fieldLink RX1 19 "ShoreFields$Dredgings" "units" "[I", Cond.fieldLink RX1 22 "ShoreFields$Dredgings" "fields" "[I", Cond.methodLink RX1 28 yX2_bringFromBar, Cond.instanceMethod yX2_bringFromBar, Cond.selects RX2 yX2_bringFromBar yX2_bringFromBar, Cond.code yX2_bringFromBar cX2_bringFromBar 5 (some .int), Cond.methodLink RX6 142 yX2_lineOf]
def wsX6_without : List Cond := .code yX6_without cX6_without 3 (some .int) :: ((wsX6_without_r1 ++ (wsX6_without_r2 ++ (wsX6_without_r3 ++ (wsX6_without_r4 ++ (wsX6_without_r5 ++ wsX6_without_r6))))) ++ wsX60 ++ wsX00 ++ wsX20 ++ wsX40 ++ wsX10)
def wsJ6_bitCount_0f7a4 : List Cond := .code yJ6_bitCount_0f7a4 cJ6_bitCount_0f7a4 1 (some .int) :: ([.constant RJ6 265 (1431655765), .constant RJ6 266 (858993459), .constant RJ6 267 (252645135)])
def wsX6_factorial : List Cond := .code yX6_factorial cX6_factorial 3 (some .int) :: ([])
def wsX6_share_r1 : List Cond := [Cond.classLink RX6 135 "java/util/NoSuchElementException", Cond.initialized "java/util/NoSuchElementException", Cond.fieldLink RX6 12 "ShoreFields" "begin" "LShoreFields$Begin;", Cond.methodLink RX6 80 yX0_hasField, Cond.instanceMethod yX0_hasField, Cond.selects RX0 yX0_hasField yX0_hasField, Cond.initialized RX0, Cond.code yX0_hasField cX0_hasField 2 (some .boolean), Cond.fieldLink RX0 9 "ShoreFields$Begin" "fieldCount" "I", Cond.methodLink RX6 172 yX0_hasGroynes, Cond.instanceMethod yX0_hasGroynes, Cond.selects RX0 yX0_hasGroynes yX0_hasGroynes, Cond.code yX0_hasGroynes cX0_hasGroynes 4 (some .boolean), Cond.fieldLink RX0 28 "ShoreFields$Begin" "kindAt" "[I", Cond.methodLink RX6 179 yJ6_bitCount_0f7a4, Cond.static yJ6_bitCount_0f7a4, Cond.initialized RJ6, Cond.code yJ6_bitCount_0f7a4 cJ6_bitCount_0f7a4 1 (some .int), Cond.constant RJ6 265 (1431655765), Cond.constant RJ6 266 (858993459), Cond.constant RJ6 267 (252645135), Cond.methodLink RX6 153 yX0_hasBorder, Cond.instanceMethod yX0_hasBorder, Cond.selects RX0 yX0_hasBorder yX0_hasBorder]
def wsX6_share_r2 : List Cond := [Cond.code yX0_hasBorder cX0_hasBorder 2 (some .boolean), Cond.methodLink RX6 188 yX6_factorial, Cond.static yX6_factorial, Cond.initialized RX6, Cond.code yX6_factorial cX6_factorial 3 (some .int), Cond.methodLink RX6 175 yX6_lineLeavingAway, Cond.instanceMethod yX6_lineLeavingAway, Cond.selects RX6 yX6_lineLeavingAway yX6_lineLeavingAway, Cond.code yX6_lineLeavingAway cX6_lineLeavingAway 4 (some .int), Cond.fieldLink RX6 16 "ShoreFields" "trial" "LShoreFields$Begin;", Cond.fieldLink RX6 26 "ShoreFields" "again" "LShoreFields$Shore;", Cond.fieldLink RX6 61 "ShoreFields" "weeksGone" "I", Cond.methodLink RX6 207 yX0_copyFrom, Cond.instanceMethod yX0_copyFrom, Cond.selects RX0 yX0_copyFrom yX0_copyFrom, Cond.code yX0_copyFrom cX0_copyFrom 2 none, Cond.fieldLink RX0 15 "ShoreFields$Begin" "shoreNumber" "I", Cond.fieldLink RX0 18 "ShoreFields$Begin" "sandOf" "[I", Cond.methodLink RX0 51 arraycopyName, Cond.native arraycopyName, Cond.static arraycopyName, Cond.initialized "java/lang/System", Cond.fieldLink RX0 22 "ShoreFields$Begin" "wallOf" "[I", Cond.fieldLink RX0 25 "ShoreFields$Begin" "feedOf" "[I"]
def wsX6_share_r3 : List Cond := [Cond.fieldLink RX0 31 "ShoreFields$Begin" "sizeAt" "[I", Cond.fieldLink RX0 34 "ShoreFields$Begin" "leakAt" "[I", Cond.methodLink RX6 210 yX0_leaveAway, Cond.instanceMethod yX0_leaveAway, Cond.selects RX0 yX0_leaveAway yX0_leaveAway, Cond.code yX0_leaveAway cX0_leaveAway 3 none, Cond.methodLink RX0 47 yX0_build, Cond.instanceMethod yX0_build, Cond.selects RX0 yX0_build yX0_build, Cond.code yX0_build cX0_build 5 none, Cond.methodLink RX6 69 yX2_startFrom, Cond.instanceMethod yX2_startFrom, Cond.selects RX2 yX2_startFrom yX2_startFrom, Cond.initialized RX2, Cond.code yX2_startFrom cX2_startFrom 2 none, Cond.fieldLink RX2 30 "ShoreFields$Begin" "sandOf" "[I", Cond.fieldLink RX2 9 "ShoreFields$Shore" "sandOf" "[I", Cond.methodLink RX2 33 arraycopyName, Cond.fieldLink RX2 15 "ShoreFields$Shore" "seaOf" "[I", Cond.fieldLink RX2 18 "ShoreFields$Shore" "scourOf" "[I", Cond.fieldLink RX2 21 "ShoreFields$Shore" "barAt" "[I", Cond.fieldLink RX2 24 "ShoreFields$Shore" "passedAt" "[I", Cond.methodLink RX2 39 yJ7_fill_53178, Cond.static yJ7_fill_53178]
def wsX6_share_r4 : List Cond := [Cond.initialized RJ7, Cond.code yJ7_fill_53178 cJ7_fill_53178 4 none, Cond.methodLink RX6 214 yX6_goThroughAgain, Cond.instanceMethod yX6_goThroughAgain, Cond.selects RX6 yX6_goThroughAgain yX6_goThroughAgain, Cond.code yX6_goThroughAgain cX6_goThroughAgain 2 none, Cond.fieldLink RX6 32 "ShoreFields" "weather" "LShoreFields$Weather;", Cond.fieldLink RX6 114 "ShoreFields$Weather" "heights" "[I", Cond.fieldLink RX6 117 "ShoreFields$Weather" "sides" "[I", Cond.fieldLink RX6 39 "ShoreFields" "dredgings" "LShoreFields$Dredgings;", Cond.methodLink RX6 120 yX2_goThrough, Cond.instanceMethod yX2_goThrough, Cond.selects RX2 yX2_goThrough yX2_goThrough, Cond.code yX2_goThrough cX2_goThrough 5 none, Cond.fieldLink RX2 27 "ShoreFields$Shore" "changeOf" "[I", Cond.fieldLink RX2 56 "ShoreFields$Begin" "fieldCount" "I", Cond.methodLink RX2 52 yX2_comeInAtEnd, Cond.instanceMethod yX2_comeInAtEnd, Cond.selects RX2 yX2_comeInAtEnd yX2_comeInAtEnd, Cond.code yX2_comeInAtEnd cX2_comeInAtEnd 6 none, Cond.fieldLink RX2 78 "ShoreFields$Begin" "shoreNumber" "I", Cond.fieldLink RX2 81 "ShoreFields$Begin" "feedOf" "[I", Cond.methodLink RX2 60 yX2_passAt, Cond.instanceMethod yX2_passAt]
def wsX6_share_r5 : List Cond := [Cond.selects RX2 yX2_passAt yX2_passAt, Cond.code yX2_passAt cX2_passAt 11 none, Cond.methodLink RX2 91 Lib.Math.max.name, Cond.static Lib.Math.max.name, Cond.initialized "java/lang/Math", Cond.code Lib.Math.max.name Lib.Math.max.code 2 (some .int), Cond.fieldLink RX2 94 "ShoreFields$Begin" "kindAt" "[I", Cond.fieldLink RX2 101 "ShoreFields$Begin" "sizeAt" "[I", Cond.fieldLink RX2 104 "ShoreFields$Begin" "leakAt" "[I", Cond.methodLink RX2 88 yX2_slope, Cond.instanceMethod yX2_slope, Cond.selects RX2 yX2_slope yX2_slope, Cond.code yX2_slope cX2_slope 4 (some .int), Cond.methodLink RX2 45 Lib.Math.min.name, Cond.static Lib.Math.min.name, Cond.code Lib.Math.min.name Lib.Math.min.code 2 (some .int), Cond.methodLink RX2 97 yX2_lineOf, Cond.instanceMethod yX2_lineOf, Cond.selects RX2 yX2_lineOf yX2_lineOf, Cond.code yX2_lineOf cX2_lineOf 2 (some .int), Cond.methodLink RX2 84 yX2_takeFrom, Cond.instanceMethod yX2_takeFrom, Cond.selects RX2 yX2_takeFrom yX2_takeFrom, Cond.code yX2_takeFrom cX2_takeFrom 6 (some .int)]
def wsX6_share_r6 : List Cond := [Cond.methodLink RX2 107 yX2_freeSandOf, Cond.instanceMethod yX2_freeSandOf, Cond.selects RX2 yX2_freeSandOf yX2_freeSandOf, Cond.code yX2_freeSandOf cX2_freeSandOf 4 (some .int), Cond.fieldLink RX2 111 "ShoreFields$Begin" "wallOf" "[I", Cond.methodLink RX2 64 yX2_goOutAtEnd, Cond.instanceMethod yX2_goOutAtEnd, Cond.selects RX2 yX2_goOutAtEnd yX2_goOutAtEnd, Cond.code yX2_goOutAtEnd cX2_goOutAtEnd 6 none, Cond.methodLink RX2 67 yX2_addChanges, Cond.instanceMethod yX2_addChanges, Cond.selects RX2 yX2_addChanges yX2_addChanges, Cond.code yX2_addChanges cX2_addChanges 3 none, Cond.constant RX2 51 (99999), Cond.methodLink RX2 71 yX2_takeOutToSea, Cond.instanceMethod yX2_takeOutToSea, Cond.selects RX2 yX2_takeOutToSea yX2_takeOutToSea, Cond.code yX2_takeOutToSea cX2_takeOutToSea 5 none, Cond.methodLink RX2 75 yX2_bringBackFromSea, Cond.instanceMethod yX2_bringBackFromSea, Cond.selects RX2 yX2_bringBackFromSea yX2_bringBackFromSea, Cond.code yX2_bringBackFromSea cX2_bringBackFromSea 4 none, Cond.methodLink RX6 225 yX1_redoBehind, Cond.instanceMethod yX1_redoBehind]
def wsX6_share_r7 : List Cond := [Cond.selects RX1 yX1_redoBehind yX1_redoBehind, Cond.initialized RX1, Cond.code yX1_redoBehind cX1_redoBehind 4 none, Cond.fieldLink RX1 9 "ShoreFields$Dredgings" "size" "I", Cond.fieldLink RX1 25 "ShoreFields$Dredgings" "weeks" "[I", Cond.fieldLink RX1 15 "ShoreFields$Dredgings" "borders" "[I", Cond.fieldLink RX1 19 "ShoreFields$Dredgings" "units" "[I", Cond.fieldLink RX1 22 "ShoreFields$Dredgings" "fields" "[I", Cond.methodLink RX1 28 yX2_bringFromBar, Cond.instanceMethod yX2_bringFromBar, Cond.selects RX2 yX2_bringFromBar yX2_bringFromBar, Cond.code yX2_bringFromBar cX2_bringFromBar 5 (some .int), Cond.methodLink RX6 142 yX2_lineOf]
def wsX6_share : List Cond := .code yX6_share cX6_share 11 (some .int) :: ((wsX6_share_r1 ++ (wsX6_share_r2 ++ (wsX6_share_r3 ++ (wsX6_share_r4 ++ (wsX6_share_r5 ++ (wsX6_share_r6 ++ wsX6_share_r7)))))) ++ wsX60 ++ wsX00 ++ wsX20 ++ wsX40 ++ wsX10 ++ (vx_atS RX6 139 "java/util/NoSuchElementException" ["java/lang/RuntimeException", "java/lang/Exception"]).filter goodWord)
def wsX6_work_r1 : List Cond := [Cond.fieldLink RX6 46 "ShoreFields" "workList" "LShoreFields$WorkList;", Cond.fieldLink RX6 191 "ShoreFields$WorkList" "size" "I", Cond.fieldLink RX6 12 "ShoreFields" "begin" "LShoreFields$Begin;", Cond.fieldLink RX6 65 "ShoreFields" "anythingTold" "Z", Cond.methodLink RX6 73 yX6_isWithin, Cond.static yX6_isWithin, Cond.initialized RX6, Cond.code yX6_isWithin cX6_isWithin 3 (some .boolean), Cond.methodLink RX6 80 yX0_hasField, Cond.instanceMethod yX0_hasField, Cond.selects RX0 yX0_hasField yX0_hasField, Cond.initialized RX0, Cond.code yX0_hasField cX0_hasField 2 (some .boolean), Cond.fieldLink RX0 9 "ShoreFields$Begin" "fieldCount" "I", Cond.methodLink RX6 124 yX0_hasAt, Cond.instanceMethod yX0_hasAt, Cond.selects RX0 yX0_hasAt yX0_hasAt, Cond.code yX0_hasAt cX0_hasAt 3 (some .boolean), Cond.fieldLink RX0 28 "ShoreFields$Begin" "kindAt" "[I", Cond.methodLink RX0 43 yX0_liesBetweenFields, Cond.instanceMethod yX0_liesBetweenFields, Cond.selects RX0 yX0_liesBetweenFields yX0_liesBetweenFields, Cond.code yX0_liesBetweenFields cX0_liesBetweenFields 2 (some .boolean), Cond.methodLink RX6 192 yX5_add]
def wsX6_work_r2 : List Cond := [Cond.instanceMethod yX5_add, Cond.selects RX5 yX5_add yX5_add, Cond.initialized RX5, Cond.code yX5_add cX5_add 5 none, Cond.fieldLink RX5 9 "ShoreFields$WorkList" "size" "I", Cond.fieldLink RX5 15 "ShoreFields$WorkList" "kinds" "[I", Cond.fieldLink RX5 19 "ShoreFields$WorkList" "places" "[I", Cond.fieldLink RX5 22 "ShoreFields$WorkList" "amounts" "[I", Cond.fieldLink RX5 25 "ShoreFields$WorkList" "prices" "[I"]
def wsX6_work : List Cond := .code yX6_work cX6_work 7 (some .int) :: ((wsX6_work_r1 ++ wsX6_work_r2) ++ wsX60 ++ wsX50 ++ wsX00)
def wsX6_mark : List Cond := .code yX6_mark cX6_mark 3 (some .boolean) :: ([.fieldLink RX6 12 "ShoreFields" "begin" "LShoreFields$Begin;", .fieldLink RX6 57 "ShoreFields" "marks" "[I", .fieldLink RX6 65 "ShoreFields" "anythingTold" "Z", .methodLink RX6 80 yX0_hasField, .instanceMethod yX0_hasField, .selects RX0 yX0_hasField yX0_hasField, .initialized RX0, .code yX0_hasField cX0_hasField 2 (some .boolean), .fieldLink RX0 9 "ShoreFields$Begin" "fieldCount" "I", .methodLink RX6 73 yX6_isWithin, .static yX6_isWithin, .initialized RX6, .code yX6_isWithin cX6_isWithin 3 (some .boolean)] ++ wsX60 ++ wsX00)
def wsX6_keepsMarks_r1 : List Cond := [Cond.fieldLink RX6 16 "ShoreFields" "trial" "LShoreFields$Begin;", Cond.fieldLink RX6 12 "ShoreFields" "begin" "LShoreFields$Begin;", Cond.fieldLink RX6 46 "ShoreFields" "workList" "LShoreFields$WorkList;", Cond.fieldLink RX6 26 "ShoreFields" "again" "LShoreFields$Shore;", Cond.fieldLink RX6 32 "ShoreFields" "weather" "LShoreFields$Weather;", Cond.fieldLink RX6 107 "ShoreFields$Weather" "size" "I", Cond.fieldLink RX6 77 "ShoreFields$Begin" "fieldCount" "I", Cond.fieldLink RX6 57 "ShoreFields" "marks" "[I", Cond.methodLink RX6 207 yX0_copyFrom, Cond.instanceMethod yX0_copyFrom, Cond.selects RX0 yX0_copyFrom yX0_copyFrom, Cond.initialized RX0, Cond.code yX0_copyFrom cX0_copyFrom 2 none, Cond.fieldLink RX0 9 "ShoreFields$Begin" "fieldCount" "I", Cond.fieldLink RX0 15 "ShoreFields$Begin" "shoreNumber" "I", Cond.fieldLink RX0 18 "ShoreFields$Begin" "sandOf" "[I", Cond.methodLink RX0 51 arraycopyName, Cond.native arraycopyName, Cond.static arraycopyName, Cond.initialized "java/lang/System", Cond.fieldLink RX0 22 "ShoreFields$Begin" "wallOf" "[I", Cond.fieldLink RX0 25 "ShoreFields$Begin" "feedOf" "[I", Cond.fieldLink RX0 28 "ShoreFields$Begin" "kindAt" "[I", Cond.fieldLink RX0 31 "ShoreFields$Begin" "sizeAt" "[I"]
def wsX6_keepsMarks_r2 : List Cond := [Cond.fieldLink RX0 34 "ShoreFields$Begin" "leakAt" "[I", Cond.methodLink RX6 217 yX5_applyTo, Cond.instanceMethod yX5_applyTo, Cond.selects RX5 yX5_applyTo yX5_applyTo, Cond.initialized RX5, Cond.code yX5_applyTo cX5_applyTo 4 none, Cond.fieldLink RX5 9 "ShoreFields$WorkList" "size" "I", Cond.methodLink RX5 28 yX5_applyOne, Cond.instanceMethod yX5_applyOne, Cond.selects RX5 yX5_applyOne yX5_applyOne, Cond.code yX5_applyOne cX5_applyOne 4 none, Cond.fieldLink RX5 19 "ShoreFields$WorkList" "places" "[I", Cond.fieldLink RX5 15 "ShoreFields$WorkList" "kinds" "[I", Cond.fieldLink RX5 32 "ShoreFields$Begin" "sandOf" "[I", Cond.fieldLink RX5 22 "ShoreFields$WorkList" "amounts" "[I", Cond.constant RX5 37 (99999), Cond.methodLink RX5 38 Lib.Math.min.name, Cond.static Lib.Math.min.name, Cond.initialized "java/lang/Math", Cond.code Lib.Math.min.name Lib.Math.min.code 2 (some .int), Cond.fieldLink RX5 48 "ShoreFields$Begin" "sizeAt" "[I", Cond.methodLink RX5 44 yX0_hasAt, Cond.instanceMethod yX0_hasAt, Cond.selects RX0 yX0_hasAt yX0_hasAt]
def wsX6_keepsMarks_r3 : List Cond := [Cond.code yX0_hasAt cX0_hasAt 3 (some .boolean), Cond.methodLink RX0 43 yX0_liesBetweenFields, Cond.instanceMethod yX0_liesBetweenFields, Cond.selects RX0 yX0_liesBetweenFields yX0_liesBetweenFields, Cond.code yX0_liesBetweenFields cX0_liesBetweenFields 2 (some .boolean), Cond.methodLink RX6 69 yX2_startFrom, Cond.instanceMethod yX2_startFrom, Cond.selects RX2 yX2_startFrom yX2_startFrom, Cond.initialized RX2, Cond.code yX2_startFrom cX2_startFrom 2 none, Cond.fieldLink RX2 30 "ShoreFields$Begin" "sandOf" "[I", Cond.fieldLink RX2 9 "ShoreFields$Shore" "sandOf" "[I", Cond.methodLink RX2 33 arraycopyName, Cond.fieldLink RX2 15 "ShoreFields$Shore" "seaOf" "[I", Cond.fieldLink RX2 18 "ShoreFields$Shore" "scourOf" "[I", Cond.fieldLink RX2 21 "ShoreFields$Shore" "barAt" "[I", Cond.fieldLink RX2 24 "ShoreFields$Shore" "passedAt" "[I", Cond.methodLink RX2 39 yJ7_fill_53178, Cond.static yJ7_fill_53178, Cond.initialized RJ7, Cond.code yJ7_fill_53178 cJ7_fill_53178 4 none, Cond.methodLink RX6 214 yX6_goThroughAgain, Cond.instanceMethod yX6_goThroughAgain, Cond.selects RX6 yX6_goThroughAgain yX6_goThroughAgain]
def wsX6_keepsMarks_r4 : List Cond := [Cond.initialized RX6, Cond.code yX6_goThroughAgain cX6_goThroughAgain 2 none, Cond.fieldLink RX6 114 "ShoreFields$Weather" "heights" "[I", Cond.fieldLink RX6 117 "ShoreFields$Weather" "sides" "[I", Cond.fieldLink RX6 39 "ShoreFields" "dredgings" "LShoreFields$Dredgings;", Cond.methodLink RX6 120 yX2_goThrough, Cond.instanceMethod yX2_goThrough, Cond.selects RX2 yX2_goThrough yX2_goThrough, Cond.code yX2_goThrough cX2_goThrough 5 none, Cond.fieldLink RX2 27 "ShoreFields$Shore" "changeOf" "[I", Cond.fieldLink RX2 56 "ShoreFields$Begin" "fieldCount" "I", Cond.methodLink RX2 52 yX2_comeInAtEnd, Cond.instanceMethod yX2_comeInAtEnd, Cond.selects RX2 yX2_comeInAtEnd yX2_comeInAtEnd, Cond.code yX2_comeInAtEnd cX2_comeInAtEnd 6 none, Cond.fieldLink RX2 78 "ShoreFields$Begin" "shoreNumber" "I", Cond.fieldLink RX2 81 "ShoreFields$Begin" "feedOf" "[I", Cond.methodLink RX2 60 yX2_passAt, Cond.instanceMethod yX2_passAt, Cond.selects RX2 yX2_passAt yX2_passAt, Cond.code yX2_passAt cX2_passAt 11 none, Cond.methodLink RX2 91 Lib.Math.max.name, Cond.static Lib.Math.max.name, Cond.code Lib.Math.max.name Lib.Math.max.code 2 (some .int)]
def wsX6_keepsMarks_r5 : List Cond := [Cond.fieldLink RX2 94 "ShoreFields$Begin" "kindAt" "[I", Cond.fieldLink RX2 101 "ShoreFields$Begin" "sizeAt" "[I", Cond.fieldLink RX2 104 "ShoreFields$Begin" "leakAt" "[I", Cond.methodLink RX2 88 yX2_slope, Cond.instanceMethod yX2_slope, Cond.selects RX2 yX2_slope yX2_slope, Cond.code yX2_slope cX2_slope 4 (some .int), Cond.methodLink RX2 45 Lib.Math.min.name, Cond.methodLink RX2 97 yX2_lineOf, Cond.instanceMethod yX2_lineOf, Cond.selects RX2 yX2_lineOf yX2_lineOf, Cond.code yX2_lineOf cX2_lineOf 2 (some .int), Cond.methodLink RX2 84 yX2_takeFrom, Cond.instanceMethod yX2_takeFrom, Cond.selects RX2 yX2_takeFrom yX2_takeFrom, Cond.code yX2_takeFrom cX2_takeFrom 6 (some .int), Cond.methodLink RX2 107 yX2_freeSandOf, Cond.instanceMethod yX2_freeSandOf, Cond.selects RX2 yX2_freeSandOf yX2_freeSandOf, Cond.code yX2_freeSandOf cX2_freeSandOf 4 (some .int), Cond.fieldLink RX2 111 "ShoreFields$Begin" "wallOf" "[I", Cond.methodLink RX2 64 yX2_goOutAtEnd, Cond.instanceMethod yX2_goOutAtEnd, Cond.selects RX2 yX2_goOutAtEnd yX2_goOutAtEnd]
def wsX6_keepsMarks_r6 : List Cond := [Cond.code yX2_goOutAtEnd cX2_goOutAtEnd 6 none, Cond.methodLink RX2 67 yX2_addChanges, Cond.instanceMethod yX2_addChanges, Cond.selects RX2 yX2_addChanges yX2_addChanges, Cond.code yX2_addChanges cX2_addChanges 3 none, Cond.constant RX2 51 (99999), Cond.methodLink RX2 71 yX2_takeOutToSea, Cond.instanceMethod yX2_takeOutToSea, Cond.selects RX2 yX2_takeOutToSea yX2_takeOutToSea, Cond.code yX2_takeOutToSea cX2_takeOutToSea 5 none, Cond.methodLink RX2 75 yX2_bringBackFromSea, Cond.instanceMethod yX2_bringBackFromSea, Cond.selects RX2 yX2_bringBackFromSea yX2_bringBackFromSea, Cond.code yX2_bringBackFromSea cX2_bringBackFromSea 4 none, Cond.methodLink RX6 225 yX1_redoBehind, Cond.instanceMethod yX1_redoBehind, Cond.selects RX1 yX1_redoBehind yX1_redoBehind, Cond.initialized RX1, Cond.code yX1_redoBehind cX1_redoBehind 4 none, Cond.fieldLink RX1 9 "ShoreFields$Dredgings" "size" "I", Cond.fieldLink RX1 25 "ShoreFields$Dredgings" "weeks" "[I", Cond.fieldLink RX1 15 "ShoreFields$Dredgings" "borders" "[I", Cond.fieldLink RX1 19 "ShoreFields$Dredgings" "units" "[I", Cond.fieldLink RX1 22 "ShoreFields$Dredgings" "fields" "[I"]
def wsX6_keepsMarks_r7 : List Cond := [Cond.methodLink RX1 28 yX2_bringFromBar, Cond.instanceMethod yX2_bringFromBar, Cond.selects RX2 yX2_bringFromBar yX2_bringFromBar, Cond.code yX2_bringFromBar cX2_bringFromBar 5 (some .int), Cond.methodLink RX6 142 yX2_lineOf]
def wsX6_keepsMarks : List Cond := .code yX6_keepsMarks cX6_keepsMarks 4 (some .boolean) :: ((wsX6_keepsMarks_r1 ++ (wsX6_keepsMarks_r2 ++ (wsX6_keepsMarks_r3 ++ (wsX6_keepsMarks_r4 ++ (wsX6_keepsMarks_r5 ++ (wsX6_keepsMarks_r6 ++ wsX6_keepsMarks_r7)))))) ++ wsX60 ++ wsX40 ++ wsX00 ++ wsX50 ++ wsX20 ++ wsX10)
def wsX6_works_r1 : List Cond := [Cond.fieldLink RX6 46 "ShoreFields" "workList" "LShoreFields$WorkList;", Cond.fieldLink RX6 191 "ShoreFields$WorkList" "size" "I", Cond.methodLink RX6 193 yX5_priceOf, Cond.instanceMethod yX5_priceOf, Cond.selects RX5 yX5_priceOf yX5_priceOf, Cond.initialized RX5, Cond.code yX5_priceOf cX5_priceOf 4 (some .int), Cond.fieldLink RX5 9 "ShoreFields$WorkList" "size" "I", Cond.fieldLink RX5 25 "ShoreFields$WorkList" "prices" "[I", Cond.methodLink RX6 196 yX6_keepsMarks, Cond.instanceMethod yX6_keepsMarks, Cond.selects RX6 yX6_keepsMarks yX6_keepsMarks, Cond.initialized RX6, Cond.code yX6_keepsMarks cX6_keepsMarks 4 (some .boolean), Cond.fieldLink RX6 16 "ShoreFields" "trial" "LShoreFields$Begin;", Cond.fieldLink RX6 12 "ShoreFields" "begin" "LShoreFields$Begin;", Cond.fieldLink RX6 26 "ShoreFields" "again" "LShoreFields$Shore;", Cond.fieldLink RX6 32 "ShoreFields" "weather" "LShoreFields$Weather;", Cond.fieldLink RX6 107 "ShoreFields$Weather" "size" "I", Cond.fieldLink RX6 77 "ShoreFields$Begin" "fieldCount" "I", Cond.fieldLink RX6 57 "ShoreFields" "marks" "[I", Cond.methodLink RX6 207 yX0_copyFrom, Cond.instanceMethod yX0_copyFrom, Cond.selects RX0 yX0_copyFrom yX0_copyFrom]
def wsX6_works_r2 : List Cond := [Cond.initialized RX0, Cond.code yX0_copyFrom cX0_copyFrom 2 none, Cond.fieldLink RX0 9 "ShoreFields$Begin" "fieldCount" "I", Cond.fieldLink RX0 15 "ShoreFields$Begin" "shoreNumber" "I", Cond.fieldLink RX0 18 "ShoreFields$Begin" "sandOf" "[I", Cond.methodLink RX0 51 arraycopyName, Cond.native arraycopyName, Cond.static arraycopyName, Cond.initialized "java/lang/System", Cond.fieldLink RX0 22 "ShoreFields$Begin" "wallOf" "[I", Cond.fieldLink RX0 25 "ShoreFields$Begin" "feedOf" "[I", Cond.fieldLink RX0 28 "ShoreFields$Begin" "kindAt" "[I", Cond.fieldLink RX0 31 "ShoreFields$Begin" "sizeAt" "[I", Cond.fieldLink RX0 34 "ShoreFields$Begin" "leakAt" "[I", Cond.methodLink RX6 217 yX5_applyTo, Cond.instanceMethod yX5_applyTo, Cond.selects RX5 yX5_applyTo yX5_applyTo, Cond.code yX5_applyTo cX5_applyTo 4 none, Cond.methodLink RX5 28 yX5_applyOne, Cond.instanceMethod yX5_applyOne, Cond.selects RX5 yX5_applyOne yX5_applyOne, Cond.code yX5_applyOne cX5_applyOne 4 none, Cond.fieldLink RX5 19 "ShoreFields$WorkList" "places" "[I", Cond.fieldLink RX5 15 "ShoreFields$WorkList" "kinds" "[I"]
def wsX6_works_r3 : List Cond := [Cond.fieldLink RX5 32 "ShoreFields$Begin" "sandOf" "[I", Cond.fieldLink RX5 22 "ShoreFields$WorkList" "amounts" "[I", Cond.constant RX5 37 (99999), Cond.methodLink RX5 38 Lib.Math.min.name, Cond.static Lib.Math.min.name, Cond.initialized "java/lang/Math", Cond.code Lib.Math.min.name Lib.Math.min.code 2 (some .int), Cond.fieldLink RX5 48 "ShoreFields$Begin" "sizeAt" "[I", Cond.methodLink RX5 44 yX0_hasAt, Cond.instanceMethod yX0_hasAt, Cond.selects RX0 yX0_hasAt yX0_hasAt, Cond.code yX0_hasAt cX0_hasAt 3 (some .boolean), Cond.methodLink RX0 43 yX0_liesBetweenFields, Cond.instanceMethod yX0_liesBetweenFields, Cond.selects RX0 yX0_liesBetweenFields yX0_liesBetweenFields, Cond.code yX0_liesBetweenFields cX0_liesBetweenFields 2 (some .boolean), Cond.methodLink RX6 69 yX2_startFrom, Cond.instanceMethod yX2_startFrom, Cond.selects RX2 yX2_startFrom yX2_startFrom, Cond.initialized RX2, Cond.code yX2_startFrom cX2_startFrom 2 none, Cond.fieldLink RX2 30 "ShoreFields$Begin" "sandOf" "[I", Cond.fieldLink RX2 9 "ShoreFields$Shore" "sandOf" "[I", Cond.methodLink RX2 33 arraycopyName]
def wsX6_works_r4 : List Cond := [Cond.fieldLink RX2 15 "ShoreFields$Shore" "seaOf" "[I", Cond.fieldLink RX2 18 "ShoreFields$Shore" "scourOf" "[I", Cond.fieldLink RX2 21 "ShoreFields$Shore" "barAt" "[I", Cond.fieldLink RX2 24 "ShoreFields$Shore" "passedAt" "[I", Cond.methodLink RX2 39 yJ7_fill_53178, Cond.static yJ7_fill_53178, Cond.initialized RJ7, Cond.code yJ7_fill_53178 cJ7_fill_53178 4 none, Cond.methodLink RX6 214 yX6_goThroughAgain, Cond.instanceMethod yX6_goThroughAgain, Cond.selects RX6 yX6_goThroughAgain yX6_goThroughAgain, Cond.code yX6_goThroughAgain cX6_goThroughAgain 2 none, Cond.fieldLink RX6 114 "ShoreFields$Weather" "heights" "[I", Cond.fieldLink RX6 117 "ShoreFields$Weather" "sides" "[I", Cond.fieldLink RX6 39 "ShoreFields" "dredgings" "LShoreFields$Dredgings;", Cond.methodLink RX6 120 yX2_goThrough, Cond.instanceMethod yX2_goThrough, Cond.selects RX2 yX2_goThrough yX2_goThrough, Cond.code yX2_goThrough cX2_goThrough 5 none, Cond.fieldLink RX2 27 "ShoreFields$Shore" "changeOf" "[I", Cond.fieldLink RX2 56 "ShoreFields$Begin" "fieldCount" "I", Cond.methodLink RX2 52 yX2_comeInAtEnd, Cond.instanceMethod yX2_comeInAtEnd, Cond.selects RX2 yX2_comeInAtEnd yX2_comeInAtEnd]
def wsX6_works_r5 : List Cond := [Cond.code yX2_comeInAtEnd cX2_comeInAtEnd 6 none, Cond.fieldLink RX2 78 "ShoreFields$Begin" "shoreNumber" "I", Cond.fieldLink RX2 81 "ShoreFields$Begin" "feedOf" "[I", Cond.methodLink RX2 60 yX2_passAt, Cond.instanceMethod yX2_passAt, Cond.selects RX2 yX2_passAt yX2_passAt, Cond.code yX2_passAt cX2_passAt 11 none, Cond.methodLink RX2 91 Lib.Math.max.name, Cond.static Lib.Math.max.name, Cond.code Lib.Math.max.name Lib.Math.max.code 2 (some .int), Cond.fieldLink RX2 94 "ShoreFields$Begin" "kindAt" "[I", Cond.fieldLink RX2 101 "ShoreFields$Begin" "sizeAt" "[I", Cond.fieldLink RX2 104 "ShoreFields$Begin" "leakAt" "[I", Cond.methodLink RX2 88 yX2_slope, Cond.instanceMethod yX2_slope, Cond.selects RX2 yX2_slope yX2_slope, Cond.code yX2_slope cX2_slope 4 (some .int), Cond.methodLink RX2 45 Lib.Math.min.name, Cond.methodLink RX2 97 yX2_lineOf, Cond.instanceMethod yX2_lineOf, Cond.selects RX2 yX2_lineOf yX2_lineOf, Cond.code yX2_lineOf cX2_lineOf 2 (some .int), Cond.methodLink RX2 84 yX2_takeFrom, Cond.instanceMethod yX2_takeFrom]
def wsX6_works_r6 : List Cond := [Cond.selects RX2 yX2_takeFrom yX2_takeFrom, Cond.code yX2_takeFrom cX2_takeFrom 6 (some .int), Cond.methodLink RX2 107 yX2_freeSandOf, Cond.instanceMethod yX2_freeSandOf, Cond.selects RX2 yX2_freeSandOf yX2_freeSandOf, Cond.code yX2_freeSandOf cX2_freeSandOf 4 (some .int), Cond.fieldLink RX2 111 "ShoreFields$Begin" "wallOf" "[I", Cond.methodLink RX2 64 yX2_goOutAtEnd, Cond.instanceMethod yX2_goOutAtEnd, Cond.selects RX2 yX2_goOutAtEnd yX2_goOutAtEnd, Cond.code yX2_goOutAtEnd cX2_goOutAtEnd 6 none, Cond.methodLink RX2 67 yX2_addChanges, Cond.instanceMethod yX2_addChanges, Cond.selects RX2 yX2_addChanges yX2_addChanges, Cond.code yX2_addChanges cX2_addChanges 3 none, Cond.constant RX2 51 (99999), Cond.methodLink RX2 71 yX2_takeOutToSea, Cond.instanceMethod yX2_takeOutToSea, Cond.selects RX2 yX2_takeOutToSea yX2_takeOutToSea, Cond.code yX2_takeOutToSea cX2_takeOutToSea 5 none, Cond.methodLink RX2 75 yX2_bringBackFromSea, Cond.instanceMethod yX2_bringBackFromSea, Cond.selects RX2 yX2_bringBackFromSea yX2_bringBackFromSea, Cond.code yX2_bringBackFromSea cX2_bringBackFromSea 4 none]
def wsX6_works_r7 : List Cond := [Cond.methodLink RX6 225 yX1_redoBehind, Cond.instanceMethod yX1_redoBehind, Cond.selects RX1 yX1_redoBehind yX1_redoBehind, Cond.initialized RX1, Cond.code yX1_redoBehind cX1_redoBehind 4 none, Cond.fieldLink RX1 9 "ShoreFields$Dredgings" "size" "I", Cond.fieldLink RX1 25 "ShoreFields$Dredgings" "weeks" "[I", Cond.fieldLink RX1 15 "ShoreFields$Dredgings" "borders" "[I", Cond.fieldLink RX1 19 "ShoreFields$Dredgings" "units" "[I", Cond.fieldLink RX1 22 "ShoreFields$Dredgings" "fields" "[I", Cond.methodLink RX1 28 yX2_bringFromBar, Cond.instanceMethod yX2_bringFromBar, Cond.selects RX2 yX2_bringFromBar yX2_bringFromBar, Cond.code yX2_bringFromBar cX2_bringFromBar 5 (some .int), Cond.methodLink RX6 142 yX2_lineOf]
def wsX6_works : List Cond := .code yX6_works cX6_works 6 (some .int) :: ((wsX6_works_r1 ++ (wsX6_works_r2 ++ (wsX6_works_r3 ++ (wsX6_works_r4 ++ (wsX6_works_r5 ++ (wsX6_works_r6 ++ wsX6_works_r7)))))) ++ wsX60 ++ wsX50 ++ wsX40 ++ wsX00 ++ wsX20 ++ wsX10)
def wsX6_survey : List Cond := .code yX6_survey cX6_survey 5 (some .int) :: ([.fieldLink RX6 12 "ShoreFields" "begin" "LShoreFields$Begin;", .fieldLink RX6 53 "ShoreFields" "surveyList" "LShoreFields$SurveyList;", .fieldLink RX6 199 "ShoreFields$SurveyList" "size" "I", .fieldLink RX6 65 "ShoreFields" "anythingTold" "Z", .methodLink RX6 80 yX0_hasField, .instanceMethod yX0_hasField, .selects RX0 yX0_hasField yX0_hasField, .initialized RX0, .code yX0_hasField cX0_hasField 2 (some .boolean), .fieldLink RX0 9 "ShoreFields$Begin" "fieldCount" "I", .methodLink RX6 73 yX6_isWithin, .static yX6_isWithin, .initialized RX6, .code yX6_isWithin cX6_isWithin 3 (some .boolean), .methodLink RX6 200 yX3_add, .instanceMethod yX3_add, .selects RX3 yX3_add yX3_add, .initialized RX3, .code yX3_add cX3_add 5 none, .fieldLink RX3 9 "ShoreFields$SurveyList" "size" "I", .fieldLink RX3 15 "ShoreFields$SurveyList" "fields" "[I", .fieldLink RX3 19 "ShoreFields$SurveyList" "weeks" "[I", .fieldLink RX3 22 "ShoreFields$SurveyList" "leastLines" "[I", .fieldLink RX3 25 "ShoreFields$SurveyList" "mostLines" "[I"] ++ wsX60 ++ wsX30 ++ wsX00)
def wsX6_agreesWithSurveys_r1 : List Cond := [Cond.fieldLink RX6 16 "ShoreFields" "trial" "LShoreFields$Begin;", Cond.fieldLink RX6 12 "ShoreFields" "begin" "LShoreFields$Begin;", Cond.fieldLink RX6 104 "ShoreFields$Begin" "shoreNumber" "I", Cond.fieldLink RX6 26 "ShoreFields" "again" "LShoreFields$Shore;", Cond.fieldLink RX6 32 "ShoreFields" "weather" "LShoreFields$Weather;", Cond.fieldLink RX6 107 "ShoreFields$Weather" "size" "I", Cond.fieldLink RX6 53 "ShoreFields" "surveyList" "LShoreFields$SurveyList;", Cond.methodLink RX6 207 yX0_copyFrom, Cond.instanceMethod yX0_copyFrom, Cond.selects RX0 yX0_copyFrom yX0_copyFrom, Cond.initialized RX0, Cond.code yX0_copyFrom cX0_copyFrom 2 none, Cond.fieldLink RX0 9 "ShoreFields$Begin" "fieldCount" "I", Cond.fieldLink RX0 15 "ShoreFields$Begin" "shoreNumber" "I", Cond.fieldLink RX0 18 "ShoreFields$Begin" "sandOf" "[I", Cond.methodLink RX0 51 arraycopyName, Cond.native arraycopyName, Cond.static arraycopyName, Cond.initialized "java/lang/System", Cond.fieldLink RX0 22 "ShoreFields$Begin" "wallOf" "[I", Cond.fieldLink RX0 25 "ShoreFields$Begin" "feedOf" "[I", Cond.fieldLink RX0 28 "ShoreFields$Begin" "kindAt" "[I", Cond.fieldLink RX0 31 "ShoreFields$Begin" "sizeAt" "[I", Cond.fieldLink RX0 34 "ShoreFields$Begin" "leakAt" "[I"]
def wsX6_agreesWithSurveys_r2 : List Cond := [Cond.methodLink RX6 69 yX2_startFrom, Cond.instanceMethod yX2_startFrom, Cond.selects RX2 yX2_startFrom yX2_startFrom, Cond.initialized RX2, Cond.code yX2_startFrom cX2_startFrom 2 none, Cond.fieldLink RX2 30 "ShoreFields$Begin" "sandOf" "[I", Cond.fieldLink RX2 9 "ShoreFields$Shore" "sandOf" "[I", Cond.methodLink RX2 33 arraycopyName, Cond.fieldLink RX2 15 "ShoreFields$Shore" "seaOf" "[I", Cond.fieldLink RX2 18 "ShoreFields$Shore" "scourOf" "[I", Cond.fieldLink RX2 21 "ShoreFields$Shore" "barAt" "[I", Cond.fieldLink RX2 24 "ShoreFields$Shore" "passedAt" "[I", Cond.methodLink RX2 39 yJ7_fill_53178, Cond.static yJ7_fill_53178, Cond.initialized RJ7, Cond.code yJ7_fill_53178 cJ7_fill_53178 4 none, Cond.methodLink RX6 214 yX6_goThroughAgain, Cond.instanceMethod yX6_goThroughAgain, Cond.selects RX6 yX6_goThroughAgain yX6_goThroughAgain, Cond.initialized RX6, Cond.code yX6_goThroughAgain cX6_goThroughAgain 2 none, Cond.fieldLink RX6 114 "ShoreFields$Weather" "heights" "[I", Cond.fieldLink RX6 117 "ShoreFields$Weather" "sides" "[I", Cond.fieldLink RX6 39 "ShoreFields" "dredgings" "LShoreFields$Dredgings;"]
def wsX6_agreesWithSurveys_r3 : List Cond := [Cond.methodLink RX6 120 yX2_goThrough, Cond.instanceMethod yX2_goThrough, Cond.selects RX2 yX2_goThrough yX2_goThrough, Cond.code yX2_goThrough cX2_goThrough 5 none, Cond.fieldLink RX2 27 "ShoreFields$Shore" "changeOf" "[I", Cond.fieldLink RX2 56 "ShoreFields$Begin" "fieldCount" "I", Cond.methodLink RX2 52 yX2_comeInAtEnd, Cond.instanceMethod yX2_comeInAtEnd, Cond.selects RX2 yX2_comeInAtEnd yX2_comeInAtEnd, Cond.code yX2_comeInAtEnd cX2_comeInAtEnd 6 none, Cond.fieldLink RX2 78 "ShoreFields$Begin" "shoreNumber" "I", Cond.fieldLink RX2 81 "ShoreFields$Begin" "feedOf" "[I", Cond.methodLink RX2 60 yX2_passAt, Cond.instanceMethod yX2_passAt, Cond.selects RX2 yX2_passAt yX2_passAt, Cond.code yX2_passAt cX2_passAt 11 none, Cond.methodLink RX2 91 Lib.Math.max.name, Cond.static Lib.Math.max.name, Cond.initialized "java/lang/Math", Cond.code Lib.Math.max.name Lib.Math.max.code 2 (some .int), Cond.fieldLink RX2 94 "ShoreFields$Begin" "kindAt" "[I", Cond.fieldLink RX2 101 "ShoreFields$Begin" "sizeAt" "[I", Cond.fieldLink RX2 104 "ShoreFields$Begin" "leakAt" "[I", Cond.methodLink RX2 88 yX2_slope]
def wsX6_agreesWithSurveys_r4 : List Cond := [Cond.instanceMethod yX2_slope, Cond.selects RX2 yX2_slope yX2_slope, Cond.code yX2_slope cX2_slope 4 (some .int), Cond.methodLink RX2 45 Lib.Math.min.name, Cond.static Lib.Math.min.name, Cond.code Lib.Math.min.name Lib.Math.min.code 2 (some .int), Cond.methodLink RX2 97 yX2_lineOf, Cond.instanceMethod yX2_lineOf, Cond.selects RX2 yX2_lineOf yX2_lineOf, Cond.code yX2_lineOf cX2_lineOf 2 (some .int), Cond.methodLink RX2 84 yX2_takeFrom, Cond.instanceMethod yX2_takeFrom, Cond.selects RX2 yX2_takeFrom yX2_takeFrom, Cond.code yX2_takeFrom cX2_takeFrom 6 (some .int), Cond.methodLink RX2 107 yX2_freeSandOf, Cond.instanceMethod yX2_freeSandOf, Cond.selects RX2 yX2_freeSandOf yX2_freeSandOf, Cond.code yX2_freeSandOf cX2_freeSandOf 4 (some .int), Cond.fieldLink RX2 111 "ShoreFields$Begin" "wallOf" "[I", Cond.methodLink RX2 64 yX2_goOutAtEnd, Cond.instanceMethod yX2_goOutAtEnd, Cond.selects RX2 yX2_goOutAtEnd yX2_goOutAtEnd, Cond.code yX2_goOutAtEnd cX2_goOutAtEnd 6 none, Cond.methodLink RX2 67 yX2_addChanges]
def wsX6_agreesWithSurveys_r5 : List Cond := [Cond.instanceMethod yX2_addChanges, Cond.selects RX2 yX2_addChanges yX2_addChanges, Cond.code yX2_addChanges cX2_addChanges 3 none, Cond.constant RX2 51 (99999), Cond.methodLink RX2 71 yX2_takeOutToSea, Cond.instanceMethod yX2_takeOutToSea, Cond.selects RX2 yX2_takeOutToSea yX2_takeOutToSea, Cond.code yX2_takeOutToSea cX2_takeOutToSea 5 none, Cond.methodLink RX2 75 yX2_bringBackFromSea, Cond.instanceMethod yX2_bringBackFromSea, Cond.selects RX2 yX2_bringBackFromSea yX2_bringBackFromSea, Cond.code yX2_bringBackFromSea cX2_bringBackFromSea 4 none, Cond.methodLink RX6 225 yX1_redoBehind, Cond.instanceMethod yX1_redoBehind, Cond.selects RX1 yX1_redoBehind yX1_redoBehind, Cond.initialized RX1, Cond.code yX1_redoBehind cX1_redoBehind 4 none, Cond.fieldLink RX1 9 "ShoreFields$Dredgings" "size" "I", Cond.fieldLink RX1 25 "ShoreFields$Dredgings" "weeks" "[I", Cond.fieldLink RX1 15 "ShoreFields$Dredgings" "borders" "[I", Cond.fieldLink RX1 19 "ShoreFields$Dredgings" "units" "[I", Cond.fieldLink RX1 22 "ShoreFields$Dredgings" "fields" "[I", Cond.methodLink RX1 28 yX2_bringFromBar, Cond.instanceMethod yX2_bringFromBar]
def wsX6_agreesWithSurveys_r6 : List Cond := [Cond.selects RX2 yX2_bringFromBar yX2_bringFromBar, Cond.code yX2_bringFromBar cX2_bringFromBar 5 (some .int), Cond.methodLink RX6 221 yX3_agreeBehind, Cond.instanceMethod yX3_agreeBehind, Cond.selects RX3 yX3_agreeBehind yX3_agreeBehind, Cond.initialized RX3, Cond.code yX3_agreeBehind cX3_agreeBehind 5 (some .boolean), Cond.fieldLink RX3 9 "ShoreFields$SurveyList" "size" "I", Cond.fieldLink RX3 19 "ShoreFields$SurveyList" "weeks" "[I", Cond.fieldLink RX3 15 "ShoreFields$SurveyList" "fields" "[I", Cond.fieldLink RX3 22 "ShoreFields$SurveyList" "leastLines" "[I", Cond.fieldLink RX3 25 "ShoreFields$SurveyList" "mostLines" "[I", Cond.methodLink RX3 28 yX2_lineOf]
def wsX6_agreesWithSurveys : List Cond := .code yX6_agreesWithSurveys cX6_agreesWithSurveys 3 (some .boolean) :: ((wsX6_agreesWithSurveys_r1 ++ (wsX6_agreesWithSurveys_r2 ++ (wsX6_agreesWithSurveys_r3 ++ (wsX6_agreesWithSurveys_r4 ++ (wsX6_agreesWithSurveys_r5 ++ wsX6_agreesWithSurveys_r6))))) ++ wsX60 ++ wsX00 ++ wsX40 ++ wsX20 ++ wsX10 ++ wsX30)
def wsX6_fits_r1 : List Cond := [Cond.methodLink RX6 201 yX6_agreesWithSurveys, Cond.instanceMethod yX6_agreesWithSurveys, Cond.selects RX6 yX6_agreesWithSurveys yX6_agreesWithSurveys, Cond.initialized RX6, Cond.code yX6_agreesWithSurveys cX6_agreesWithSurveys 3 (some .boolean), Cond.fieldLink RX6 16 "ShoreFields" "trial" "LShoreFields$Begin;", Cond.fieldLink RX6 12 "ShoreFields" "begin" "LShoreFields$Begin;", Cond.fieldLink RX6 104 "ShoreFields$Begin" "shoreNumber" "I", Cond.fieldLink RX6 26 "ShoreFields" "again" "LShoreFields$Shore;", Cond.fieldLink RX6 32 "ShoreFields" "weather" "LShoreFields$Weather;", Cond.fieldLink RX6 107 "ShoreFields$Weather" "size" "I", Cond.fieldLink RX6 53 "ShoreFields" "surveyList" "LShoreFields$SurveyList;", Cond.methodLink RX6 207 yX0_copyFrom, Cond.instanceMethod yX0_copyFrom, Cond.selects RX0 yX0_copyFrom yX0_copyFrom, Cond.initialized RX0, Cond.code yX0_copyFrom cX0_copyFrom 2 none, Cond.fieldLink RX0 9 "ShoreFields$Begin" "fieldCount" "I", Cond.fieldLink RX0 15 "ShoreFields$Begin" "shoreNumber" "I", Cond.fieldLink RX0 18 "ShoreFields$Begin" "sandOf" "[I", Cond.methodLink RX0 51 arraycopyName, Cond.native arraycopyName, Cond.static arraycopyName, Cond.initialized "java/lang/System"]
def wsX6_fits_r2 : List Cond := [Cond.fieldLink RX0 22 "ShoreFields$Begin" "wallOf" "[I", Cond.fieldLink RX0 25 "ShoreFields$Begin" "feedOf" "[I", Cond.fieldLink RX0 28 "ShoreFields$Begin" "kindAt" "[I", Cond.fieldLink RX0 31 "ShoreFields$Begin" "sizeAt" "[I", Cond.fieldLink RX0 34 "ShoreFields$Begin" "leakAt" "[I", Cond.methodLink RX6 69 yX2_startFrom, Cond.instanceMethod yX2_startFrom, Cond.selects RX2 yX2_startFrom yX2_startFrom, Cond.initialized RX2, Cond.code yX2_startFrom cX2_startFrom 2 none, Cond.fieldLink RX2 30 "ShoreFields$Begin" "sandOf" "[I", Cond.fieldLink RX2 9 "ShoreFields$Shore" "sandOf" "[I", Cond.methodLink RX2 33 arraycopyName, Cond.fieldLink RX2 15 "ShoreFields$Shore" "seaOf" "[I", Cond.fieldLink RX2 18 "ShoreFields$Shore" "scourOf" "[I", Cond.fieldLink RX2 21 "ShoreFields$Shore" "barAt" "[I", Cond.fieldLink RX2 24 "ShoreFields$Shore" "passedAt" "[I", Cond.methodLink RX2 39 yJ7_fill_53178, Cond.static yJ7_fill_53178, Cond.initialized RJ7, Cond.code yJ7_fill_53178 cJ7_fill_53178 4 none, Cond.methodLink RX6 214 yX6_goThroughAgain, Cond.instanceMethod yX6_goThroughAgain, Cond.selects RX6 yX6_goThroughAgain yX6_goThroughAgain]
def wsX6_fits_r3 : List Cond := [Cond.code yX6_goThroughAgain cX6_goThroughAgain 2 none, Cond.fieldLink RX6 114 "ShoreFields$Weather" "heights" "[I", Cond.fieldLink RX6 117 "ShoreFields$Weather" "sides" "[I", Cond.fieldLink RX6 39 "ShoreFields" "dredgings" "LShoreFields$Dredgings;", Cond.methodLink RX6 120 yX2_goThrough, Cond.instanceMethod yX2_goThrough, Cond.selects RX2 yX2_goThrough yX2_goThrough, Cond.code yX2_goThrough cX2_goThrough 5 none, Cond.fieldLink RX2 27 "ShoreFields$Shore" "changeOf" "[I", Cond.fieldLink RX2 56 "ShoreFields$Begin" "fieldCount" "I", Cond.methodLink RX2 52 yX2_comeInAtEnd, Cond.instanceMethod yX2_comeInAtEnd, Cond.selects RX2 yX2_comeInAtEnd yX2_comeInAtEnd, Cond.code yX2_comeInAtEnd cX2_comeInAtEnd 6 none, Cond.fieldLink RX2 78 "ShoreFields$Begin" "shoreNumber" "I", Cond.fieldLink RX2 81 "ShoreFields$Begin" "feedOf" "[I", Cond.methodLink RX2 60 yX2_passAt, Cond.instanceMethod yX2_passAt, Cond.selects RX2 yX2_passAt yX2_passAt, Cond.code yX2_passAt cX2_passAt 11 none, Cond.methodLink RX2 91 Lib.Math.max.name, Cond.static Lib.Math.max.name, Cond.initialized "java/lang/Math", Cond.code Lib.Math.max.name Lib.Math.max.code 2 (some .int)]
def wsX6_fits_r4 : List Cond := [Cond.fieldLink RX2 94 "ShoreFields$Begin" "kindAt" "[I", Cond.fieldLink RX2 101 "ShoreFields$Begin" "sizeAt" "[I", Cond.fieldLink RX2 104 "ShoreFields$Begin" "leakAt" "[I", Cond.methodLink RX2 88 yX2_slope, Cond.instanceMethod yX2_slope, Cond.selects RX2 yX2_slope yX2_slope, Cond.code yX2_slope cX2_slope 4 (some .int), Cond.methodLink RX2 45 Lib.Math.min.name, Cond.static Lib.Math.min.name, Cond.code Lib.Math.min.name Lib.Math.min.code 2 (some .int), Cond.methodLink RX2 97 yX2_lineOf, Cond.instanceMethod yX2_lineOf, Cond.selects RX2 yX2_lineOf yX2_lineOf, Cond.code yX2_lineOf cX2_lineOf 2 (some .int), Cond.methodLink RX2 84 yX2_takeFrom, Cond.instanceMethod yX2_takeFrom, Cond.selects RX2 yX2_takeFrom yX2_takeFrom, Cond.code yX2_takeFrom cX2_takeFrom 6 (some .int), Cond.methodLink RX2 107 yX2_freeSandOf, Cond.instanceMethod yX2_freeSandOf, Cond.selects RX2 yX2_freeSandOf yX2_freeSandOf, Cond.code yX2_freeSandOf cX2_freeSandOf 4 (some .int), Cond.fieldLink RX2 111 "ShoreFields$Begin" "wallOf" "[I", Cond.methodLink RX2 64 yX2_goOutAtEnd]
def wsX6_fits_r5 : List Cond := [Cond.instanceMethod yX2_goOutAtEnd, Cond.selects RX2 yX2_goOutAtEnd yX2_goOutAtEnd, Cond.code yX2_goOutAtEnd cX2_goOutAtEnd 6 none, Cond.methodLink RX2 67 yX2_addChanges, Cond.instanceMethod yX2_addChanges, Cond.selects RX2 yX2_addChanges yX2_addChanges, Cond.code yX2_addChanges cX2_addChanges 3 none, Cond.constant RX2 51 (99999), Cond.methodLink RX2 71 yX2_takeOutToSea, Cond.instanceMethod yX2_takeOutToSea, Cond.selects RX2 yX2_takeOutToSea yX2_takeOutToSea, Cond.code yX2_takeOutToSea cX2_takeOutToSea 5 none, Cond.methodLink RX2 75 yX2_bringBackFromSea, Cond.instanceMethod yX2_bringBackFromSea, Cond.selects RX2 yX2_bringBackFromSea yX2_bringBackFromSea, Cond.code yX2_bringBackFromSea cX2_bringBackFromSea 4 none, Cond.methodLink RX6 225 yX1_redoBehind, Cond.instanceMethod yX1_redoBehind, Cond.selects RX1 yX1_redoBehind yX1_redoBehind, Cond.initialized RX1, Cond.code yX1_redoBehind cX1_redoBehind 4 none, Cond.fieldLink RX1 9 "ShoreFields$Dredgings" "size" "I", Cond.fieldLink RX1 25 "ShoreFields$Dredgings" "weeks" "[I", Cond.fieldLink RX1 15 "ShoreFields$Dredgings" "borders" "[I"]
def wsX6_fits_r6 : List Cond := [Cond.fieldLink RX1 19 "ShoreFields$Dredgings" "units" "[I", Cond.fieldLink RX1 22 "ShoreFields$Dredgings" "fields" "[I", Cond.methodLink RX1 28 yX2_bringFromBar, Cond.instanceMethod yX2_bringFromBar, Cond.selects RX2 yX2_bringFromBar yX2_bringFromBar, Cond.code yX2_bringFromBar cX2_bringFromBar 5 (some .int), Cond.methodLink RX6 221 yX3_agreeBehind, Cond.instanceMethod yX3_agreeBehind, Cond.selects RX3 yX3_agreeBehind yX3_agreeBehind, Cond.initialized RX3, Cond.code yX3_agreeBehind cX3_agreeBehind 5 (some .boolean), Cond.fieldLink RX3 9 "ShoreFields$SurveyList" "size" "I", Cond.fieldLink RX3 19 "ShoreFields$SurveyList" "weeks" "[I", Cond.fieldLink RX3 15 "ShoreFields$SurveyList" "fields" "[I", Cond.fieldLink RX3 22 "ShoreFields$SurveyList" "leastLines" "[I", Cond.fieldLink RX3 25 "ShoreFields$SurveyList" "mostLines" "[I", Cond.methodLink RX3 28 yX2_lineOf]
def wsX6_fits : List Cond := .code yX6_fits cX6_fits 3 (some .int) :: ((wsX6_fits_r1 ++ (wsX6_fits_r2 ++ (wsX6_fits_r3 ++ (wsX6_fits_r4 ++ (wsX6_fits_r5 ++ wsX6_fits_r6))))) ++ wsX60 ++ wsX00 ++ wsX40 ++ wsX20 ++ wsX10 ++ wsX30)
def wsX6_count : List Cond := .code yX6_count cX6_count 2 (some .int) :: ([.fieldLink RX6 12 "ShoreFields" "begin" "LShoreFields$Begin;", .fieldLink RX6 77 "ShoreFields$Begin" "fieldCount" "I", .fieldLink RX6 32 "ShoreFields" "weather" "LShoreFields$Weather;", .fieldLink RX6 107 "ShoreFields$Weather" "size" "I", .fieldLink RX6 61 "ShoreFields" "weeksGone" "I", .fieldLink RX6 46 "ShoreFields" "workList" "LShoreFields$WorkList;", .fieldLink RX6 191 "ShoreFields$WorkList" "size" "I", .fieldLink RX6 53 "ShoreFields" "surveyList" "LShoreFields$SurveyList;", .fieldLink RX6 199 "ShoreFields$SurveyList" "size" "I", .fieldLink RX6 39 "ShoreFields" "dredgings" "LShoreFields$Dredgings;", .fieldLink RX6 128 "ShoreFields$Dredgings" "size" "I", .fieldLink RX6 22 "ShoreFields" "now" "LShoreFields$Shore;", .methodLink RX6 204 yX2_sandInAll, .instanceMethod yX2_sandInAll, .selects RX2 yX2_sandInAll yX2_sandInAll, .initialized RX2, .code yX2_sandInAll cX2_sandInAll 4 (some .int), .fieldLink RX2 9 "ShoreFields$Shore" "sandOf" "[I", .fieldLink RX2 15 "ShoreFields$Shore" "seaOf" "[I", .fieldLink RX2 21 "ShoreFields$Shore" "barAt" "[I"] ++ wsX60 ++ wsX00 ++ wsX40 ++ wsX50 ++ wsX30 ++ wsX10 ++ wsX20)
def wsX7_thrown : List Cond := .code yX7_thrown cX7_thrown 1 (some .int) :: ([.fieldLink RX7 1 "ShoreFieldsModel" "thrown" "I"] ++ wsX70)
def wsX7_init_r1 : List Cond := [Cond.methodLink RX7 7 objectInit, Cond.instanceMethod objectInit, Cond.code objectInit ⟨#[0xb1]⟩ 1 none, Cond.fieldLink RX7 13 "ShoreFieldsModel" "fields" "I", Cond.arrayClass .int, Cond.fieldLink RX7 16 "ShoreFieldsModel" "begin" "[I", Cond.fieldLink RX7 20 "ShoreFieldsModel" "kind" "[I", Cond.fieldLink RX7 23 "ShoreFieldsModel" "length" "[I", Cond.fieldLink RX7 26 "ShoreFieldsModel" "part" "[I", Cond.fieldLink RX7 29 "ShoreFieldsModel" "walls" "[I", Cond.fieldLink RX7 32 "ShoreFieldsModel" "feeds" "[I", Cond.fieldLink RX7 35 "ShoreFieldsModel" "k0" "I", Cond.fieldLink RX7 38 "ShoreFieldsModel" "height" "[I", Cond.fieldLink RX7 41 "ShoreFieldsModel" "side" "[I", Cond.fieldLink RX7 44 "ShoreFieldsModel" "dredgeOf" "[I", Cond.fieldLink RX7 47 "ShoreFieldsModel" "dredgeUnits" "[I", Cond.fieldLink RX7 50 "ShoreFieldsModel" "dredgeTo" "[I", Cond.fieldLink RX7 53 "ShoreFieldsModel" "dredgeOn" "[I", Cond.fieldLink RX7 56 "ShoreFieldsModel" "sand" "[I", Cond.fieldLink RX7 59 "ShoreFieldsModel" "sea" "[I", Cond.fieldLink RX7 62 "ShoreFieldsModel" "scour" "[I", Cond.fieldLink RX7 65 "ShoreFieldsModel" "bar" "[I", Cond.fieldLink RX7 68 "ShoreFieldsModel" "passed" "[I", Cond.fieldLink RX7 71 "ShoreFieldsModel" "lengths" "[I"]
def wsX7_init_r2 : List Cond := [Cond.fieldLink RX7 74 "ShoreFieldsModel" "more" "[I", Cond.fieldLink RX7 77 "ShoreFieldsModel" "workKind" "[I", Cond.fieldLink RX7 80 "ShoreFieldsModel" "workAt" "[I", Cond.fieldLink RX7 83 "ShoreFieldsModel" "workN" "[I", Cond.fieldLink RX7 86 "ShoreFieldsModel" "workPrice" "[I", Cond.fieldLink RX7 89 "ShoreFieldsModel" "marks" "[I", Cond.fieldLink RX7 92 "ShoreFieldsModel" "surveyOf" "[I", Cond.fieldLink RX7 95 "ShoreFieldsModel" "surveyOn" "[I", Cond.fieldLink RX7 98 "ShoreFieldsModel" "surveyLow" "[I", Cond.fieldLink RX7 101 "ShoreFieldsModel" "surveyHigh" "[I"]
def wsX7_init : List Cond := .code yX7_init cX7_init 2 none :: ((wsX7_init_r1 ++ wsX7_init_r2) ++ wsX70)
def wsX7_within : List Cond := .code yX7_within cX7_within 3 (some .boolean) :: ([])
def wsX7_fields : List Cond := .code yX7_fields cX7_fields 2 (some .boolean) :: ([.fieldLink RX7 1 "ShoreFieldsModel" "thrown" "I", .fieldLink RX7 108 "ShoreFieldsModel" "isTold" "Z", .fieldLink RX7 13 "ShoreFieldsModel" "fields" "I", .methodLink RX7 104 yX7_within, .static yX7_within, .initialized RX7, .code yX7_within cX7_within 3 (some .boolean)] ++ wsX70)
def wsX7_isField : List Cond := .code yX7_isField cX7_isField 2 (some .boolean) :: ([.fieldLink RX7 13 "ShoreFieldsModel" "fields" "I", .methodLink RX7 104 yX7_within, .static yX7_within, .initialized RX7, .code yX7_within cX7_within 3 (some .boolean)] ++ wsX70)
def wsX7_isInner : List Cond := .code yX7_isInner cX7_isInner 2 (some .boolean) :: ([.fieldLink RX7 13 "ShoreFieldsModel" "fields" "I", .methodLink RX7 104 yX7_within, .static yX7_within, .initialized RX7, .code yX7_within cX7_within 3 (some .boolean)] ++ wsX70)
def wsX7_sand : List Cond := .code yX7_sand cX7_sand 3 (some .boolean) :: ([.fieldLink RX7 1 "ShoreFieldsModel" "thrown" "I", .constant RX7 116 (99999), .fieldLink RX7 117 "ShoreFieldsModel" "gone" "I", .fieldLink RX7 16 "ShoreFieldsModel" "begin" "[I", .fieldLink RX7 108 "ShoreFieldsModel" "isTold" "Z", .methodLink RX7 112 yX7_isField, .instanceMethod yX7_isField, .selects RX7 yX7_isField yX7_isField, .initialized RX7, .code yX7_isField cX7_isField 2 (some .boolean), .fieldLink RX7 13 "ShoreFieldsModel" "fields" "I", .methodLink RX7 104 yX7_within, .static yX7_within, .code yX7_within cX7_within 3 (some .boolean)] ++ wsX70)
def wsX7_groyne : List Cond := .code yX7_groyne cX7_groyne 4 (some .boolean) :: ([.fieldLink RX7 1 "ShoreFieldsModel" "thrown" "I", .fieldLink RX7 117 "ShoreFieldsModel" "gone" "I", .fieldLink RX7 20 "ShoreFieldsModel" "kind" "[I", .fieldLink RX7 23 "ShoreFieldsModel" "length" "[I", .fieldLink RX7 26 "ShoreFieldsModel" "part" "[I", .fieldLink RX7 108 "ShoreFieldsModel" "isTold" "Z", .methodLink RX7 120 yX7_isInner, .instanceMethod yX7_isInner, .selects RX7 yX7_isInner yX7_isInner, .initialized RX7, .code yX7_isInner cX7_isInner 2 (some .boolean), .fieldLink RX7 13 "ShoreFieldsModel" "fields" "I", .methodLink RX7 104 yX7_within, .static yX7_within, .code yX7_within cX7_within 3 (some .boolean)] ++ wsX70)
def wsX7_mouth : List Cond := .code yX7_mouth cX7_mouth 3 (some .boolean) :: ([.fieldLink RX7 1 "ShoreFieldsModel" "thrown" "I", .fieldLink RX7 117 "ShoreFieldsModel" "gone" "I", .fieldLink RX7 20 "ShoreFieldsModel" "kind" "[I", .fieldLink RX7 23 "ShoreFieldsModel" "length" "[I", .fieldLink RX7 26 "ShoreFieldsModel" "part" "[I", .fieldLink RX7 108 "ShoreFieldsModel" "isTold" "Z", .methodLink RX7 120 yX7_isInner, .instanceMethod yX7_isInner, .selects RX7 yX7_isInner yX7_isInner, .initialized RX7, .code yX7_isInner cX7_isInner 2 (some .boolean), .fieldLink RX7 13 "ShoreFieldsModel" "fields" "I", .methodLink RX7 104 yX7_within, .static yX7_within, .code yX7_within cX7_within 3 (some .boolean)] ++ wsX70)
def wsX7_wall : List Cond := .code yX7_wall cX7_wall 3 (some .boolean) :: ([.fieldLink RX7 1 "ShoreFieldsModel" "thrown" "I", .fieldLink RX7 117 "ShoreFieldsModel" "gone" "I", .fieldLink RX7 29 "ShoreFieldsModel" "walls" "[I", .fieldLink RX7 108 "ShoreFieldsModel" "isTold" "Z", .methodLink RX7 112 yX7_isField, .instanceMethod yX7_isField, .selects RX7 yX7_isField yX7_isField, .initialized RX7, .code yX7_isField cX7_isField 2 (some .boolean), .fieldLink RX7 13 "ShoreFieldsModel" "fields" "I", .methodLink RX7 104 yX7_within, .static yX7_within, .code yX7_within cX7_within 3 (some .boolean)] ++ wsX70)
def wsX7_feed : List Cond := .code yX7_feed cX7_feed 3 (some .boolean) :: ([.fieldLink RX7 1 "ShoreFieldsModel" "thrown" "I", .fieldLink RX7 117 "ShoreFieldsModel" "gone" "I", .fieldLink RX7 32 "ShoreFieldsModel" "feeds" "[I", .fieldLink RX7 108 "ShoreFieldsModel" "isTold" "Z", .methodLink RX7 104 yX7_within, .static yX7_within, .initialized RX7, .code yX7_within cX7_within 3 (some .boolean)] ++ wsX70)
def wsX7_number : List Cond := .code yX7_number cX7_number 2 (some .boolean) :: ([.fieldLink RX7 1 "ShoreFieldsModel" "thrown" "I", .fieldLink RX7 117 "ShoreFieldsModel" "gone" "I", .fieldLink RX7 35 "ShoreFieldsModel" "k0" "I", .fieldLink RX7 108 "ShoreFieldsModel" "isTold" "Z", .methodLink RX7 104 yX7_within, .static yX7_within, .initialized RX7, .code yX7_within cX7_within 3 (some .boolean)] ++ wsX70)
def wsX7_wave : List Cond := .code yX7_wave cX7_wave 3 (some .int) :: ([.fieldLink RX7 1 "ShoreFieldsModel" "thrown" "I", .fieldLink RX7 123 "ShoreFieldsModel" "told" "I", .fieldLink RX7 38 "ShoreFieldsModel" "height" "[I", .fieldLink RX7 41 "ShoreFieldsModel" "side" "[I", .fieldLink RX7 108 "ShoreFieldsModel" "isTold" "Z", .methodLink RX7 104 yX7_within, .static yX7_within, .initialized RX7, .code yX7_within cX7_within 3 (some .boolean)] ++ wsX70)
def wsX7_begins : List Cond := .code yX7_begins cX7_begins 3 none :: ([.fieldLink RX7 56 "ShoreFieldsModel" "sand" "[I", .fieldLink RX7 16 "ShoreFieldsModel" "begin" "[I", .fieldLink RX7 59 "ShoreFieldsModel" "sea" "[I", .fieldLink RX7 62 "ShoreFieldsModel" "scour" "[I", .fieldLink RX7 65 "ShoreFieldsModel" "bar" "[I", .fieldLink RX7 68 "ShoreFieldsModel" "passed" "[I", .fieldLink RX7 71 "ShoreFieldsModel" "lengths" "[I", .fieldLink RX7 20 "ShoreFieldsModel" "kind" "[I", .fieldLink RX7 23 "ShoreFieldsModel" "length" "[I"] ++ wsX70)
def wsX7_brings : List Cond := .code yX7_brings cX7_brings 3 none :: ([.fieldLink RX7 56 "ShoreFieldsModel" "sand" "[I", .constant RX7 116 (99999)] ++ wsX70)
def wsX7_above : List Cond := .code yX7_above cX7_above 3 (some .int) :: ([.fieldLink RX7 56 "ShoreFieldsModel" "sand" "[I", .fieldLink RX7 29 "ShoreFieldsModel" "walls" "[I"] ++ wsX70)
def wsX7_goesOut : List Cond := .code yX7_goesOut cX7_goesOut 5 (some .int) :: ([.fieldLink RX7 56 "ShoreFieldsModel" "sand" "[I", .fieldLink RX7 62 "ShoreFieldsModel" "scour" "[I", .methodLink RX7 126 yX7_above, .instanceMethod yX7_above, .selects RX7 yX7_above yX7_above, .initialized RX7, .code yX7_above cX7_above 3 (some .int), .fieldLink RX7 29 "ShoreFieldsModel" "walls" "[I"] ++ wsX70)
def wsX7_passes : List Cond := .code yX7_passes cX7_passes 8 (some .int) :: ([.fieldLink RX7 56 "ShoreFieldsModel" "sand" "[I", .fieldLink RX7 71 "ShoreFieldsModel" "lengths" "[I", .fieldLink RX7 26 "ShoreFieldsModel" "part" "[I", .methodLink RX7 130 yX7_goesOut, .instanceMethod yX7_goesOut, .selects RX7 yX7_goesOut yX7_goesOut, .initialized RX7, .code yX7_goesOut cX7_goesOut 5 (some .int), .fieldLink RX7 62 "ShoreFieldsModel" "scour" "[I", .methodLink RX7 126 yX7_above, .instanceMethod yX7_above, .selects RX7 yX7_above yX7_above, .code yX7_above cX7_above 3 (some .int), .fieldLink RX7 29 "ShoreFieldsModel" "walls" "[I"] ++ wsX70)
def wsX7_passing_r1 : List Cond := [Cond.fieldLink RX7 13 "ShoreFieldsModel" "fields" "I", Cond.fieldLink RX7 74 "ShoreFieldsModel" "more" "[I", Cond.fieldLink RX7 20 "ShoreFieldsModel" "kind" "[I", Cond.fieldLink RX7 26 "ShoreFieldsModel" "part" "[I", Cond.fieldLink RX7 68 "ShoreFieldsModel" "passed" "[I", Cond.fieldLink RX7 65 "ShoreFieldsModel" "bar" "[I", Cond.fieldLink RX7 32 "ShoreFieldsModel" "feeds" "[I", Cond.methodLink RX7 134 yX7_passes, Cond.instanceMethod yX7_passes, Cond.selects RX7 yX7_passes yX7_passes, Cond.initialized RX7, Cond.code yX7_passes cX7_passes 8 (some .int), Cond.fieldLink RX7 56 "ShoreFieldsModel" "sand" "[I", Cond.fieldLink RX7 71 "ShoreFieldsModel" "lengths" "[I", Cond.methodLink RX7 130 yX7_goesOut, Cond.instanceMethod yX7_goesOut, Cond.selects RX7 yX7_goesOut yX7_goesOut, Cond.code yX7_goesOut cX7_goesOut 5 (some .int), Cond.fieldLink RX7 62 "ShoreFieldsModel" "scour" "[I", Cond.methodLink RX7 126 yX7_above, Cond.instanceMethod yX7_above, Cond.selects RX7 yX7_above yX7_above, Cond.code yX7_above cX7_above 3 (some .int), Cond.fieldLink RX7 29 "ShoreFieldsModel" "walls" "[I"]
def wsX7_passing_r2 : List Cond := [Cond.methodLink RX7 138 yX7_brings, Cond.instanceMethod yX7_brings, Cond.selects RX7 yX7_brings yX7_brings, Cond.code yX7_brings cX7_brings 3 none, Cond.constant RX7 116 (99999)]
def wsX7_passing : List Cond := .code yX7_passing cX7_passing 10 none :: ((wsX7_passing_r1 ++ wsX7_passing_r2) ++ wsX70)
def wsX7_week_r1 : List Cond := [Cond.fieldLink RX7 38 "ShoreFieldsModel" "height" "[I", Cond.fieldLink RX7 68 "ShoreFieldsModel" "passed" "[I", Cond.fieldLink RX7 41 "ShoreFieldsModel" "side" "[I", Cond.fieldLink RX7 13 "ShoreFieldsModel" "fields" "I", Cond.fieldLink RX7 56 "ShoreFieldsModel" "sand" "[I", Cond.fieldLink RX7 59 "ShoreFieldsModel" "sea" "[I", Cond.methodLink RX7 142 yX7_passing, Cond.instanceMethod yX7_passing, Cond.selects RX7 yX7_passing yX7_passing, Cond.initialized RX7, Cond.code yX7_passing cX7_passing 10 none, Cond.fieldLink RX7 74 "ShoreFieldsModel" "more" "[I", Cond.fieldLink RX7 20 "ShoreFieldsModel" "kind" "[I", Cond.fieldLink RX7 26 "ShoreFieldsModel" "part" "[I", Cond.fieldLink RX7 65 "ShoreFieldsModel" "bar" "[I", Cond.fieldLink RX7 32 "ShoreFieldsModel" "feeds" "[I", Cond.methodLink RX7 134 yX7_passes, Cond.instanceMethod yX7_passes, Cond.selects RX7 yX7_passes yX7_passes, Cond.code yX7_passes cX7_passes 8 (some .int), Cond.fieldLink RX7 71 "ShoreFieldsModel" "lengths" "[I", Cond.methodLink RX7 130 yX7_goesOut, Cond.instanceMethod yX7_goesOut, Cond.selects RX7 yX7_goesOut yX7_goesOut]
def wsX7_week_r2 : List Cond := [Cond.code yX7_goesOut cX7_goesOut 5 (some .int), Cond.fieldLink RX7 62 "ShoreFieldsModel" "scour" "[I", Cond.methodLink RX7 126 yX7_above, Cond.instanceMethod yX7_above, Cond.selects RX7 yX7_above yX7_above, Cond.code yX7_above cX7_above 3 (some .int), Cond.fieldLink RX7 29 "ShoreFieldsModel" "walls" "[I", Cond.methodLink RX7 138 yX7_brings, Cond.instanceMethod yX7_brings, Cond.selects RX7 yX7_brings yX7_brings, Cond.code yX7_brings cX7_brings 3 none, Cond.constant RX7 116 (99999)]
def wsX7_week : List Cond := .code yX7_week cX7_week 6 none :: ((wsX7_week_r1 ++ wsX7_week_r2) ++ wsX70)
def wsX7_dredged : List Cond := .code yX7_dredged cX7_dredged 6 none :: ([.fieldLink RX7 53 "ShoreFieldsModel" "dredgeOn" "[I", .fieldLink RX7 44 "ShoreFieldsModel" "dredgeOf" "[I", .fieldLink RX7 47 "ShoreFieldsModel" "dredgeUnits" "[I", .fieldLink RX7 65 "ShoreFieldsModel" "bar" "[I", .fieldLink RX7 50 "ShoreFieldsModel" "dredgeTo" "[I", .methodLink RX7 138 yX7_brings, .instanceMethod yX7_brings, .selects RX7 yX7_brings yX7_brings, .initialized RX7, .code yX7_brings cX7_brings 3 none, .fieldLink RX7 56 "ShoreFieldsModel" "sand" "[I", .constant RX7 116 (99999)] ++ wsX70)
def wsX7_runs_r1 : List Cond := [Cond.fieldLink RX7 150 "ShoreFieldsModel" "dredges" "I", Cond.fieldLink RX7 35 "ShoreFieldsModel" "k0" "I", Cond.methodLink RX7 146 yX7_begins, Cond.instanceMethod yX7_begins, Cond.selects RX7 yX7_begins yX7_begins, Cond.initialized RX7, Cond.code yX7_begins cX7_begins 3 none, Cond.fieldLink RX7 56 "ShoreFieldsModel" "sand" "[I", Cond.fieldLink RX7 16 "ShoreFieldsModel" "begin" "[I", Cond.fieldLink RX7 59 "ShoreFieldsModel" "sea" "[I", Cond.fieldLink RX7 62 "ShoreFieldsModel" "scour" "[I", Cond.fieldLink RX7 65 "ShoreFieldsModel" "bar" "[I", Cond.fieldLink RX7 68 "ShoreFieldsModel" "passed" "[I", Cond.fieldLink RX7 71 "ShoreFieldsModel" "lengths" "[I", Cond.fieldLink RX7 20 "ShoreFieldsModel" "kind" "[I", Cond.fieldLink RX7 23 "ShoreFieldsModel" "length" "[I", Cond.methodLink RX7 153 yX7_dredged, Cond.instanceMethod yX7_dredged, Cond.selects RX7 yX7_dredged yX7_dredged, Cond.code yX7_dredged cX7_dredged 6 none, Cond.fieldLink RX7 53 "ShoreFieldsModel" "dredgeOn" "[I", Cond.fieldLink RX7 44 "ShoreFieldsModel" "dredgeOf" "[I", Cond.fieldLink RX7 47 "ShoreFieldsModel" "dredgeUnits" "[I", Cond.fieldLink RX7 50 "ShoreFieldsModel" "dredgeTo" "[I"]
def wsX7_runs_r2 : List Cond := [Cond.methodLink RX7 138 yX7_brings, Cond.instanceMethod yX7_brings, Cond.selects RX7 yX7_brings yX7_brings, Cond.code yX7_brings cX7_brings 3 none, Cond.constant RX7 116 (99999), Cond.methodLink RX7 156 yX7_week, Cond.instanceMethod yX7_week, Cond.selects RX7 yX7_week yX7_week, Cond.code yX7_week cX7_week 6 none, Cond.fieldLink RX7 38 "ShoreFieldsModel" "height" "[I", Cond.fieldLink RX7 41 "ShoreFieldsModel" "side" "[I", Cond.fieldLink RX7 13 "ShoreFieldsModel" "fields" "I", Cond.methodLink RX7 142 yX7_passing, Cond.instanceMethod yX7_passing, Cond.selects RX7 yX7_passing yX7_passing, Cond.code yX7_passing cX7_passing 10 none, Cond.fieldLink RX7 74 "ShoreFieldsModel" "more" "[I", Cond.fieldLink RX7 26 "ShoreFieldsModel" "part" "[I", Cond.fieldLink RX7 32 "ShoreFieldsModel" "feeds" "[I", Cond.methodLink RX7 134 yX7_passes, Cond.instanceMethod yX7_passes, Cond.selects RX7 yX7_passes yX7_passes, Cond.code yX7_passes cX7_passes 8 (some .int), Cond.methodLink RX7 130 yX7_goesOut]
def wsX7_runs_r3 : List Cond := [Cond.instanceMethod yX7_goesOut, Cond.selects RX7 yX7_goesOut yX7_goesOut, Cond.code yX7_goesOut cX7_goesOut 5 (some .int), Cond.methodLink RX7 126 yX7_above, Cond.instanceMethod yX7_above, Cond.selects RX7 yX7_above yX7_above, Cond.code yX7_above cX7_above 3 (some .int), Cond.fieldLink RX7 29 "ShoreFieldsModel" "walls" "[I"]
def wsX7_runs : List Cond := .code yX7_runs cX7_runs 4 none :: ((wsX7_runs_r1 ++ (wsX7_runs_r2 ++ wsX7_runs_r3)) ++ wsX70)
def wsX7_weeks : List Cond := .code yX7_weeks cX7_weeks 2 (some .int) :: ([.fieldLink RX7 1 "ShoreFieldsModel" "thrown" "I", .fieldLink RX7 117 "ShoreFieldsModel" "gone" "I", .fieldLink RX7 123 "ShoreFieldsModel" "told" "I", .methodLink RX7 104 yX7_within, .static yX7_within, .initialized RX7, .code yX7_within cX7_within 3 (some .boolean)] ++ wsX70)
def wsX7_dredge_r1 : List Cond := [Cond.fieldLink RX7 1 "ShoreFieldsModel" "thrown" "I", Cond.fieldLink RX7 20 "ShoreFieldsModel" "kind" "[I", Cond.fieldLink RX7 150 "ShoreFieldsModel" "dredges" "I", Cond.fieldLink RX7 117 "ShoreFieldsModel" "gone" "I", Cond.fieldLink RX7 44 "ShoreFieldsModel" "dredgeOf" "[I", Cond.fieldLink RX7 47 "ShoreFieldsModel" "dredgeUnits" "[I", Cond.fieldLink RX7 50 "ShoreFieldsModel" "dredgeTo" "[I", Cond.fieldLink RX7 53 "ShoreFieldsModel" "dredgeOn" "[I", Cond.fieldLink RX7 108 "ShoreFieldsModel" "isTold" "Z", Cond.fieldLink RX7 65 "ShoreFieldsModel" "bar" "[I", Cond.methodLink RX7 120 yX7_isInner, Cond.instanceMethod yX7_isInner, Cond.selects RX7 yX7_isInner yX7_isInner, Cond.initialized RX7, Cond.code yX7_isInner cX7_isInner 2 (some .boolean), Cond.fieldLink RX7 13 "ShoreFieldsModel" "fields" "I", Cond.methodLink RX7 104 yX7_within, Cond.static yX7_within, Cond.code yX7_within cX7_within 3 (some .boolean), Cond.methodLink RX7 112 yX7_isField, Cond.instanceMethod yX7_isField, Cond.selects RX7 yX7_isField yX7_isField, Cond.code yX7_isField cX7_isField 2 (some .boolean), Cond.methodLink RX7 159 yX7_runs]
end
section
def wsX7_dredge_r2 : List Cond := [Cond.instanceMethod yX7_runs, Cond.selects RX7 yX7_runs yX7_runs, Cond.code yX7_runs cX7_runs 4 none, Cond.fieldLink RX7 35 "ShoreFieldsModel" "k0" "I", Cond.methodLink RX7 146 yX7_begins, Cond.instanceMethod yX7_begins, Cond.selects RX7 yX7_begins yX7_begins, Cond.code yX7_begins cX7_begins 3 none, Cond.fieldLink RX7 56 "ShoreFieldsModel" "sand" "[I", Cond.fieldLink RX7 16 "ShoreFieldsModel" "begin" "[I", Cond.fieldLink RX7 59 "ShoreFieldsModel" "sea" "[I", Cond.fieldLink RX7 62 "ShoreFieldsModel" "scour" "[I", Cond.fieldLink RX7 68 "ShoreFieldsModel" "passed" "[I", Cond.fieldLink RX7 71 "ShoreFieldsModel" "lengths" "[I", Cond.fieldLink RX7 23 "ShoreFieldsModel" "length" "[I", Cond.methodLink RX7 153 yX7_dredged, Cond.instanceMethod yX7_dredged, Cond.selects RX7 yX7_dredged yX7_dredged, Cond.code yX7_dredged cX7_dredged 6 none, Cond.methodLink RX7 138 yX7_brings, Cond.instanceMethod yX7_brings, Cond.selects RX7 yX7_brings yX7_brings, Cond.code yX7_brings cX7_brings 3 none, Cond.constant RX7 116 (99999)]
def wsX7_dredge_r3 : List Cond := [Cond.methodLink RX7 156 yX7_week, Cond.instanceMethod yX7_week, Cond.selects RX7 yX7_week yX7_week, Cond.code yX7_week cX7_week 6 none, Cond.fieldLink RX7 38 "ShoreFieldsModel" "height" "[I", Cond.fieldLink RX7 41 "ShoreFieldsModel" "side" "[I", Cond.methodLink RX7 142 yX7_passing, Cond.instanceMethod yX7_passing, Cond.selects RX7 yX7_passing yX7_passing, Cond.code yX7_passing cX7_passing 10 none, Cond.fieldLink RX7 74 "ShoreFieldsModel" "more" "[I", Cond.fieldLink RX7 26 "ShoreFieldsModel" "part" "[I", Cond.fieldLink RX7 32 "ShoreFieldsModel" "feeds" "[I", Cond.methodLink RX7 134 yX7_passes, Cond.instanceMethod yX7_passes, Cond.selects RX7 yX7_passes yX7_passes, Cond.code yX7_passes cX7_passes 8 (some .int), Cond.methodLink RX7 130 yX7_goesOut, Cond.instanceMethod yX7_goesOut, Cond.selects RX7 yX7_goesOut yX7_goesOut, Cond.code yX7_goesOut cX7_goesOut 5 (some .int), Cond.methodLink RX7 126 yX7_above, Cond.instanceMethod yX7_above, Cond.selects RX7 yX7_above yX7_above]
def wsX7_dredge_r4 : List Cond := [Cond.code yX7_above cX7_above 3 (some .int), Cond.fieldLink RX7 29 "ShoreFieldsModel" "walls" "[I"]
def wsX7_dredge : List Cond := .code yX7_dredge cX7_dredge 4 (some .int) :: ((wsX7_dredge_r1 ++ (wsX7_dredge_r2 ++ (wsX7_dredge_r3 ++ wsX7_dredge_r4))) ++ wsX70)
def wsX7_line_r1 : List Cond := [Cond.fieldLink RX7 1 "ShoreFieldsModel" "thrown" "I", Cond.fieldLink RX7 117 "ShoreFieldsModel" "gone" "I", Cond.fieldLink RX7 56 "ShoreFieldsModel" "sand" "[I", Cond.methodLink RX7 112 yX7_isField, Cond.instanceMethod yX7_isField, Cond.selects RX7 yX7_isField yX7_isField, Cond.initialized RX7, Cond.code yX7_isField cX7_isField 2 (some .boolean), Cond.fieldLink RX7 13 "ShoreFieldsModel" "fields" "I", Cond.methodLink RX7 104 yX7_within, Cond.static yX7_within, Cond.code yX7_within cX7_within 3 (some .boolean), Cond.methodLink RX7 159 yX7_runs, Cond.instanceMethod yX7_runs, Cond.selects RX7 yX7_runs yX7_runs, Cond.code yX7_runs cX7_runs 4 none, Cond.fieldLink RX7 150 "ShoreFieldsModel" "dredges" "I", Cond.fieldLink RX7 35 "ShoreFieldsModel" "k0" "I", Cond.methodLink RX7 146 yX7_begins, Cond.instanceMethod yX7_begins, Cond.selects RX7 yX7_begins yX7_begins, Cond.code yX7_begins cX7_begins 3 none, Cond.fieldLink RX7 16 "ShoreFieldsModel" "begin" "[I", Cond.fieldLink RX7 59 "ShoreFieldsModel" "sea" "[I"]
def wsX7_line_r2 : List Cond := [Cond.fieldLink RX7 62 "ShoreFieldsModel" "scour" "[I", Cond.fieldLink RX7 65 "ShoreFieldsModel" "bar" "[I", Cond.fieldLink RX7 68 "ShoreFieldsModel" "passed" "[I", Cond.fieldLink RX7 71 "ShoreFieldsModel" "lengths" "[I", Cond.fieldLink RX7 20 "ShoreFieldsModel" "kind" "[I", Cond.fieldLink RX7 23 "ShoreFieldsModel" "length" "[I", Cond.methodLink RX7 153 yX7_dredged, Cond.instanceMethod yX7_dredged, Cond.selects RX7 yX7_dredged yX7_dredged, Cond.code yX7_dredged cX7_dredged 6 none, Cond.fieldLink RX7 53 "ShoreFieldsModel" "dredgeOn" "[I", Cond.fieldLink RX7 44 "ShoreFieldsModel" "dredgeOf" "[I", Cond.fieldLink RX7 47 "ShoreFieldsModel" "dredgeUnits" "[I", Cond.fieldLink RX7 50 "ShoreFieldsModel" "dredgeTo" "[I", Cond.methodLink RX7 138 yX7_brings, Cond.instanceMethod yX7_brings, Cond.selects RX7 yX7_brings yX7_brings, Cond.code yX7_brings cX7_brings 3 none, Cond.constant RX7 116 (99999), Cond.methodLink RX7 156 yX7_week, Cond.instanceMethod yX7_week, Cond.selects RX7 yX7_week yX7_week, Cond.code yX7_week cX7_week 6 none, Cond.fieldLink RX7 38 "ShoreFieldsModel" "height" "[I"]
def wsX7_line_r3 : List Cond := [Cond.fieldLink RX7 41 "ShoreFieldsModel" "side" "[I", Cond.methodLink RX7 142 yX7_passing, Cond.instanceMethod yX7_passing, Cond.selects RX7 yX7_passing yX7_passing, Cond.code yX7_passing cX7_passing 10 none, Cond.fieldLink RX7 74 "ShoreFieldsModel" "more" "[I", Cond.fieldLink RX7 26 "ShoreFieldsModel" "part" "[I", Cond.fieldLink RX7 32 "ShoreFieldsModel" "feeds" "[I", Cond.methodLink RX7 134 yX7_passes, Cond.instanceMethod yX7_passes, Cond.selects RX7 yX7_passes yX7_passes, Cond.code yX7_passes cX7_passes 8 (some .int), Cond.methodLink RX7 130 yX7_goesOut, Cond.instanceMethod yX7_goesOut, Cond.selects RX7 yX7_goesOut yX7_goesOut, Cond.code yX7_goesOut cX7_goesOut 5 (some .int), Cond.methodLink RX7 126 yX7_above, Cond.instanceMethod yX7_above, Cond.selects RX7 yX7_above yX7_above, Cond.code yX7_above cX7_above 3 (some .int), Cond.fieldLink RX7 29 "ShoreFieldsModel" "walls" "[I"]
def wsX7_line : List Cond := .code yX7_line cX7_line 2 (some .int) :: ((wsX7_line_r1 ++ (wsX7_line_r2 ++ wsX7_line_r3)) ++ wsX70)
def wsX7_look_r1 : List Cond := [Cond.fieldLink RX7 1 "ShoreFieldsModel" "thrown" "I", Cond.fieldLink RX7 117 "ShoreFieldsModel" "gone" "I", Cond.fieldLink RX7 56 "ShoreFieldsModel" "sand" "[I", Cond.fieldLink RX7 59 "ShoreFieldsModel" "sea" "[I", Cond.fieldLink RX7 62 "ShoreFieldsModel" "scour" "[I", Cond.methodLink RX7 112 yX7_isField, Cond.instanceMethod yX7_isField, Cond.selects RX7 yX7_isField yX7_isField, Cond.initialized RX7, Cond.code yX7_isField cX7_isField 2 (some .boolean), Cond.fieldLink RX7 13 "ShoreFieldsModel" "fields" "I", Cond.methodLink RX7 104 yX7_within, Cond.static yX7_within, Cond.code yX7_within cX7_within 3 (some .boolean), Cond.methodLink RX7 159 yX7_runs, Cond.instanceMethod yX7_runs, Cond.selects RX7 yX7_runs yX7_runs, Cond.code yX7_runs cX7_runs 4 none, Cond.fieldLink RX7 150 "ShoreFieldsModel" "dredges" "I", Cond.fieldLink RX7 35 "ShoreFieldsModel" "k0" "I", Cond.methodLink RX7 146 yX7_begins, Cond.instanceMethod yX7_begins, Cond.selects RX7 yX7_begins yX7_begins, Cond.code yX7_begins cX7_begins 3 none]
def wsX7_look_r2 : List Cond := [Cond.fieldLink RX7 16 "ShoreFieldsModel" "begin" "[I", Cond.fieldLink RX7 65 "ShoreFieldsModel" "bar" "[I", Cond.fieldLink RX7 68 "ShoreFieldsModel" "passed" "[I", Cond.fieldLink RX7 71 "ShoreFieldsModel" "lengths" "[I", Cond.fieldLink RX7 20 "ShoreFieldsModel" "kind" "[I", Cond.fieldLink RX7 23 "ShoreFieldsModel" "length" "[I", Cond.methodLink RX7 153 yX7_dredged, Cond.instanceMethod yX7_dredged, Cond.selects RX7 yX7_dredged yX7_dredged, Cond.code yX7_dredged cX7_dredged 6 none, Cond.fieldLink RX7 53 "ShoreFieldsModel" "dredgeOn" "[I", Cond.fieldLink RX7 44 "ShoreFieldsModel" "dredgeOf" "[I", Cond.fieldLink RX7 47 "ShoreFieldsModel" "dredgeUnits" "[I", Cond.fieldLink RX7 50 "ShoreFieldsModel" "dredgeTo" "[I", Cond.methodLink RX7 138 yX7_brings, Cond.instanceMethod yX7_brings, Cond.selects RX7 yX7_brings yX7_brings, Cond.code yX7_brings cX7_brings 3 none, Cond.constant RX7 116 (99999), Cond.methodLink RX7 156 yX7_week, Cond.instanceMethod yX7_week, Cond.selects RX7 yX7_week yX7_week, Cond.code yX7_week cX7_week 6 none, Cond.fieldLink RX7 38 "ShoreFieldsModel" "height" "[I"]
def wsX7_look_r3 : List Cond := [Cond.fieldLink RX7 41 "ShoreFieldsModel" "side" "[I", Cond.methodLink RX7 142 yX7_passing, Cond.instanceMethod yX7_passing, Cond.selects RX7 yX7_passing yX7_passing, Cond.code yX7_passing cX7_passing 10 none, Cond.fieldLink RX7 74 "ShoreFieldsModel" "more" "[I", Cond.fieldLink RX7 26 "ShoreFieldsModel" "part" "[I", Cond.fieldLink RX7 32 "ShoreFieldsModel" "feeds" "[I", Cond.methodLink RX7 134 yX7_passes, Cond.instanceMethod yX7_passes, Cond.selects RX7 yX7_passes yX7_passes, Cond.code yX7_passes cX7_passes 8 (some .int), Cond.methodLink RX7 130 yX7_goesOut, Cond.instanceMethod yX7_goesOut, Cond.selects RX7 yX7_goesOut yX7_goesOut, Cond.code yX7_goesOut cX7_goesOut 5 (some .int), Cond.methodLink RX7 126 yX7_above, Cond.instanceMethod yX7_above, Cond.selects RX7 yX7_above yX7_above, Cond.code yX7_above cX7_above 3 (some .int), Cond.fieldLink RX7 29 "ShoreFieldsModel" "walls" "[I"]
def wsX7_look : List Cond := .code yX7_look cX7_look 3 (some .int) :: ((wsX7_look_r1 ++ (wsX7_look_r2 ++ wsX7_look_r3)) ++ wsX70)
def wsX7_border_r1 : List Cond := [Cond.fieldLink RX7 1 "ShoreFieldsModel" "thrown" "I", Cond.fieldLink RX7 13 "ShoreFieldsModel" "fields" "I", Cond.constant RX7 162 (-100000), Cond.fieldLink RX7 117 "ShoreFieldsModel" "gone" "I", Cond.fieldLink RX7 20 "ShoreFieldsModel" "kind" "[I", Cond.fieldLink RX7 68 "ShoreFieldsModel" "passed" "[I", Cond.fieldLink RX7 23 "ShoreFieldsModel" "length" "[I", Cond.fieldLink RX7 26 "ShoreFieldsModel" "part" "[I", Cond.fieldLink RX7 65 "ShoreFieldsModel" "bar" "[I", Cond.methodLink RX7 104 yX7_within, Cond.static yX7_within, Cond.initialized RX7, Cond.code yX7_within cX7_within 3 (some .boolean), Cond.methodLink RX7 159 yX7_runs, Cond.instanceMethod yX7_runs, Cond.selects RX7 yX7_runs yX7_runs, Cond.code yX7_runs cX7_runs 4 none, Cond.fieldLink RX7 150 "ShoreFieldsModel" "dredges" "I", Cond.fieldLink RX7 35 "ShoreFieldsModel" "k0" "I", Cond.methodLink RX7 146 yX7_begins, Cond.instanceMethod yX7_begins, Cond.selects RX7 yX7_begins yX7_begins, Cond.code yX7_begins cX7_begins 3 none, Cond.fieldLink RX7 56 "ShoreFieldsModel" "sand" "[I"]
def wsX7_border_r2 : List Cond := [Cond.fieldLink RX7 16 "ShoreFieldsModel" "begin" "[I", Cond.fieldLink RX7 59 "ShoreFieldsModel" "sea" "[I", Cond.fieldLink RX7 62 "ShoreFieldsModel" "scour" "[I", Cond.fieldLink RX7 71 "ShoreFieldsModel" "lengths" "[I", Cond.methodLink RX7 153 yX7_dredged, Cond.instanceMethod yX7_dredged, Cond.selects RX7 yX7_dredged yX7_dredged, Cond.code yX7_dredged cX7_dredged 6 none, Cond.fieldLink RX7 53 "ShoreFieldsModel" "dredgeOn" "[I", Cond.fieldLink RX7 44 "ShoreFieldsModel" "dredgeOf" "[I", Cond.fieldLink RX7 47 "ShoreFieldsModel" "dredgeUnits" "[I", Cond.fieldLink RX7 50 "ShoreFieldsModel" "dredgeTo" "[I", Cond.methodLink RX7 138 yX7_brings, Cond.instanceMethod yX7_brings, Cond.selects RX7 yX7_brings yX7_brings, Cond.code yX7_brings cX7_brings 3 none, Cond.constant RX7 116 (99999), Cond.methodLink RX7 156 yX7_week, Cond.instanceMethod yX7_week, Cond.selects RX7 yX7_week yX7_week, Cond.code yX7_week cX7_week 6 none, Cond.fieldLink RX7 38 "ShoreFieldsModel" "height" "[I", Cond.fieldLink RX7 41 "ShoreFieldsModel" "side" "[I", Cond.methodLink RX7 142 yX7_passing]
def wsX7_border_r3 : List Cond := [Cond.instanceMethod yX7_passing, Cond.selects RX7 yX7_passing yX7_passing, Cond.code yX7_passing cX7_passing 10 none, Cond.fieldLink RX7 74 "ShoreFieldsModel" "more" "[I", Cond.fieldLink RX7 32 "ShoreFieldsModel" "feeds" "[I", Cond.methodLink RX7 134 yX7_passes, Cond.instanceMethod yX7_passes, Cond.selects RX7 yX7_passes yX7_passes, Cond.code yX7_passes cX7_passes 8 (some .int), Cond.methodLink RX7 130 yX7_goesOut, Cond.instanceMethod yX7_goesOut, Cond.selects RX7 yX7_goesOut yX7_goesOut, Cond.code yX7_goesOut cX7_goesOut 5 (some .int), Cond.methodLink RX7 126 yX7_above, Cond.instanceMethod yX7_above, Cond.selects RX7 yX7_above yX7_above, Cond.code yX7_above cX7_above 3 (some .int), Cond.fieldLink RX7 29 "ShoreFieldsModel" "walls" "[I"]
def wsX7_border : List Cond := .code yX7_border cX7_border 3 (some .int) :: ((wsX7_border_r1 ++ (wsX7_border_r2 ++ wsX7_border_r3)) ++ wsX70)
def wsX7_areGroynes : List Cond := .code yX7_areGroynes cX7_areGroynes 4 (some .boolean) :: ([.fieldLink RX7 20 "ShoreFieldsModel" "kind" "[I", .methodLink RX7 120 yX7_isInner, .instanceMethod yX7_isInner, .selects RX7 yX7_isInner yX7_isInner, .initialized RX7, .code yX7_isInner cX7_isInner 2 (some .boolean), .fieldLink RX7 13 "ShoreFieldsModel" "fields" "I", .methodLink RX7 104 yX7_within, .static yX7_within, .code yX7_within cX7_within 3 (some .boolean)] ++ wsX70)
def wsX7_lineWithout_r1 : List Cond := [Cond.fieldLink RX7 117 "ShoreFieldsModel" "gone" "I", Cond.fieldLink RX7 56 "ShoreFieldsModel" "sand" "[I", Cond.methodLink RX7 159 yX7_runs, Cond.instanceMethod yX7_runs, Cond.selects RX7 yX7_runs yX7_runs, Cond.initialized RX7, Cond.code yX7_runs cX7_runs 4 none, Cond.fieldLink RX7 150 "ShoreFieldsModel" "dredges" "I", Cond.fieldLink RX7 35 "ShoreFieldsModel" "k0" "I", Cond.methodLink RX7 146 yX7_begins, Cond.instanceMethod yX7_begins, Cond.selects RX7 yX7_begins yX7_begins, Cond.code yX7_begins cX7_begins 3 none, Cond.fieldLink RX7 16 "ShoreFieldsModel" "begin" "[I", Cond.fieldLink RX7 59 "ShoreFieldsModel" "sea" "[I", Cond.fieldLink RX7 62 "ShoreFieldsModel" "scour" "[I", Cond.fieldLink RX7 65 "ShoreFieldsModel" "bar" "[I", Cond.fieldLink RX7 68 "ShoreFieldsModel" "passed" "[I", Cond.fieldLink RX7 71 "ShoreFieldsModel" "lengths" "[I", Cond.fieldLink RX7 20 "ShoreFieldsModel" "kind" "[I", Cond.fieldLink RX7 23 "ShoreFieldsModel" "length" "[I", Cond.methodLink RX7 153 yX7_dredged, Cond.instanceMethod yX7_dredged, Cond.selects RX7 yX7_dredged yX7_dredged]
def wsX7_lineWithout_r2 : List Cond := [Cond.code yX7_dredged cX7_dredged 6 none, Cond.fieldLink RX7 53 "ShoreFieldsModel" "dredgeOn" "[I", Cond.fieldLink RX7 44 "ShoreFieldsModel" "dredgeOf" "[I", Cond.fieldLink RX7 47 "ShoreFieldsModel" "dredgeUnits" "[I", Cond.fieldLink RX7 50 "ShoreFieldsModel" "dredgeTo" "[I", Cond.methodLink RX7 138 yX7_brings, Cond.instanceMethod yX7_brings, Cond.selects RX7 yX7_brings yX7_brings, Cond.code yX7_brings cX7_brings 3 none, Cond.constant RX7 116 (99999), Cond.methodLink RX7 156 yX7_week, Cond.instanceMethod yX7_week, Cond.selects RX7 yX7_week yX7_week, Cond.code yX7_week cX7_week 6 none, Cond.fieldLink RX7 38 "ShoreFieldsModel" "height" "[I", Cond.fieldLink RX7 41 "ShoreFieldsModel" "side" "[I", Cond.fieldLink RX7 13 "ShoreFieldsModel" "fields" "I", Cond.methodLink RX7 142 yX7_passing, Cond.instanceMethod yX7_passing, Cond.selects RX7 yX7_passing yX7_passing, Cond.code yX7_passing cX7_passing 10 none, Cond.fieldLink RX7 74 "ShoreFieldsModel" "more" "[I", Cond.fieldLink RX7 26 "ShoreFieldsModel" "part" "[I", Cond.fieldLink RX7 32 "ShoreFieldsModel" "feeds" "[I"]
def wsX7_lineWithout_r3 : List Cond := [Cond.methodLink RX7 134 yX7_passes, Cond.instanceMethod yX7_passes, Cond.selects RX7 yX7_passes yX7_passes, Cond.code yX7_passes cX7_passes 8 (some .int), Cond.methodLink RX7 130 yX7_goesOut, Cond.instanceMethod yX7_goesOut, Cond.selects RX7 yX7_goesOut yX7_goesOut, Cond.code yX7_goesOut cX7_goesOut 5 (some .int), Cond.methodLink RX7 126 yX7_above, Cond.instanceMethod yX7_above, Cond.selects RX7 yX7_above yX7_above, Cond.code yX7_above cX7_above 3 (some .int), Cond.fieldLink RX7 29 "ShoreFieldsModel" "walls" "[I"]
def wsX7_lineWithout : List Cond := .code yX7_lineWithout cX7_lineWithout 3 (some .int) :: ((wsX7_lineWithout_r1 ++ (wsX7_lineWithout_r2 ++ wsX7_lineWithout_r3)) ++ wsX70)
def wsX7_without_r1 : List Cond := [Cond.fieldLink RX7 1 "ShoreFieldsModel" "thrown" "I", Cond.methodLink RX7 112 yX7_isField, Cond.instanceMethod yX7_isField, Cond.selects RX7 yX7_isField yX7_isField, Cond.initialized RX7, Cond.code yX7_isField cX7_isField 2 (some .boolean), Cond.fieldLink RX7 13 "ShoreFieldsModel" "fields" "I", Cond.methodLink RX7 104 yX7_within, Cond.static yX7_within, Cond.code yX7_within cX7_within 3 (some .boolean), Cond.methodLink RX7 163 yX7_areGroynes, Cond.instanceMethod yX7_areGroynes, Cond.selects RX7 yX7_areGroynes yX7_areGroynes, Cond.code yX7_areGroynes cX7_areGroynes 4 (some .boolean), Cond.fieldLink RX7 20 "ShoreFieldsModel" "kind" "[I", Cond.methodLink RX7 120 yX7_isInner, Cond.instanceMethod yX7_isInner, Cond.selects RX7 yX7_isInner yX7_isInner, Cond.code yX7_isInner cX7_isInner 2 (some .boolean), Cond.methodLink RX7 166 yX7_lineWithout, Cond.instanceMethod yX7_lineWithout, Cond.selects RX7 yX7_lineWithout yX7_lineWithout, Cond.code yX7_lineWithout cX7_lineWithout 3 (some .int), Cond.fieldLink RX7 117 "ShoreFieldsModel" "gone" "I"]
def wsX7_without_r2 : List Cond := [Cond.fieldLink RX7 56 "ShoreFieldsModel" "sand" "[I", Cond.methodLink RX7 159 yX7_runs, Cond.instanceMethod yX7_runs, Cond.selects RX7 yX7_runs yX7_runs, Cond.code yX7_runs cX7_runs 4 none, Cond.fieldLink RX7 150 "ShoreFieldsModel" "dredges" "I", Cond.fieldLink RX7 35 "ShoreFieldsModel" "k0" "I", Cond.methodLink RX7 146 yX7_begins, Cond.instanceMethod yX7_begins, Cond.selects RX7 yX7_begins yX7_begins, Cond.code yX7_begins cX7_begins 3 none, Cond.fieldLink RX7 16 "ShoreFieldsModel" "begin" "[I", Cond.fieldLink RX7 59 "ShoreFieldsModel" "sea" "[I", Cond.fieldLink RX7 62 "ShoreFieldsModel" "scour" "[I", Cond.fieldLink RX7 65 "ShoreFieldsModel" "bar" "[I", Cond.fieldLink RX7 68 "ShoreFieldsModel" "passed" "[I", Cond.fieldLink RX7 71 "ShoreFieldsModel" "lengths" "[I", Cond.fieldLink RX7 23 "ShoreFieldsModel" "length" "[I", Cond.methodLink RX7 153 yX7_dredged, Cond.instanceMethod yX7_dredged, Cond.selects RX7 yX7_dredged yX7_dredged, Cond.code yX7_dredged cX7_dredged 6 none, Cond.fieldLink RX7 53 "ShoreFieldsModel" "dredgeOn" "[I", Cond.fieldLink RX7 44 "ShoreFieldsModel" "dredgeOf" "[I"]
def wsX7_without_r3 : List Cond := [Cond.fieldLink RX7 47 "ShoreFieldsModel" "dredgeUnits" "[I", Cond.fieldLink RX7 50 "ShoreFieldsModel" "dredgeTo" "[I", Cond.methodLink RX7 138 yX7_brings, Cond.instanceMethod yX7_brings, Cond.selects RX7 yX7_brings yX7_brings, Cond.code yX7_brings cX7_brings 3 none, Cond.constant RX7 116 (99999), Cond.methodLink RX7 156 yX7_week, Cond.instanceMethod yX7_week, Cond.selects RX7 yX7_week yX7_week, Cond.code yX7_week cX7_week 6 none, Cond.fieldLink RX7 38 "ShoreFieldsModel" "height" "[I", Cond.fieldLink RX7 41 "ShoreFieldsModel" "side" "[I", Cond.methodLink RX7 142 yX7_passing, Cond.instanceMethod yX7_passing, Cond.selects RX7 yX7_passing yX7_passing, Cond.code yX7_passing cX7_passing 10 none, Cond.fieldLink RX7 74 "ShoreFieldsModel" "more" "[I", Cond.fieldLink RX7 26 "ShoreFieldsModel" "part" "[I", Cond.fieldLink RX7 32 "ShoreFieldsModel" "feeds" "[I", Cond.methodLink RX7 134 yX7_passes, Cond.instanceMethod yX7_passes, Cond.selects RX7 yX7_passes yX7_passes, Cond.code yX7_passes cX7_passes 8 (some .int)]
def wsX7_without_r4 : List Cond := [Cond.methodLink RX7 130 yX7_goesOut, Cond.instanceMethod yX7_goesOut, Cond.selects RX7 yX7_goesOut yX7_goesOut, Cond.code yX7_goesOut cX7_goesOut 5 (some .int), Cond.methodLink RX7 126 yX7_above, Cond.instanceMethod yX7_above, Cond.selects RX7 yX7_above yX7_above, Cond.code yX7_above cX7_above 3 (some .int), Cond.fieldLink RX7 29 "ShoreFieldsModel" "walls" "[I"]
def wsX7_without : List Cond := .code yX7_without cX7_without 3 (some .int) :: ((wsX7_without_r1 ++ (wsX7_without_r2 ++ (wsX7_without_r3 ++ wsX7_without_r4))) ++ wsX70)
def wsX7_bits : List Cond := .code yX7_bits cX7_bits 3 (some .int) :: ([])
def wsX7_orders : List Cond := .code yX7_orders cX7_orders 3 (some .int) :: ([])
def wsX7_share_r1 : List Cond := [Cond.fieldLink RX7 1 "ShoreFieldsModel" "thrown" "I", Cond.methodLink RX7 112 yX7_isField, Cond.instanceMethod yX7_isField, Cond.selects RX7 yX7_isField yX7_isField, Cond.initialized RX7, Cond.code yX7_isField cX7_isField 2 (some .boolean), Cond.fieldLink RX7 13 "ShoreFieldsModel" "fields" "I", Cond.methodLink RX7 104 yX7_within, Cond.static yX7_within, Cond.code yX7_within cX7_within 3 (some .boolean), Cond.methodLink RX7 163 yX7_areGroynes, Cond.instanceMethod yX7_areGroynes, Cond.selects RX7 yX7_areGroynes yX7_areGroynes, Cond.code yX7_areGroynes cX7_areGroynes 4 (some .boolean), Cond.fieldLink RX7 20 "ShoreFieldsModel" "kind" "[I", Cond.methodLink RX7 120 yX7_isInner, Cond.instanceMethod yX7_isInner, Cond.selects RX7 yX7_isInner yX7_isInner, Cond.code yX7_isInner cX7_isInner 2 (some .boolean), Cond.methodLink RX7 169 yX7_bits, Cond.static yX7_bits, Cond.code yX7_bits cX7_bits 3 (some .int), Cond.methodLink RX7 172 yX7_orders, Cond.static yX7_orders]
def wsX7_share_r2 : List Cond := [Cond.code yX7_orders cX7_orders 3 (some .int), Cond.methodLink RX7 166 yX7_lineWithout, Cond.instanceMethod yX7_lineWithout, Cond.selects RX7 yX7_lineWithout yX7_lineWithout, Cond.code yX7_lineWithout cX7_lineWithout 3 (some .int), Cond.fieldLink RX7 117 "ShoreFieldsModel" "gone" "I", Cond.fieldLink RX7 56 "ShoreFieldsModel" "sand" "[I", Cond.methodLink RX7 159 yX7_runs, Cond.instanceMethod yX7_runs, Cond.selects RX7 yX7_runs yX7_runs, Cond.code yX7_runs cX7_runs 4 none, Cond.fieldLink RX7 150 "ShoreFieldsModel" "dredges" "I", Cond.fieldLink RX7 35 "ShoreFieldsModel" "k0" "I", Cond.methodLink RX7 146 yX7_begins, Cond.instanceMethod yX7_begins, Cond.selects RX7 yX7_begins yX7_begins, Cond.code yX7_begins cX7_begins 3 none, Cond.fieldLink RX7 16 "ShoreFieldsModel" "begin" "[I", Cond.fieldLink RX7 59 "ShoreFieldsModel" "sea" "[I", Cond.fieldLink RX7 62 "ShoreFieldsModel" "scour" "[I", Cond.fieldLink RX7 65 "ShoreFieldsModel" "bar" "[I", Cond.fieldLink RX7 68 "ShoreFieldsModel" "passed" "[I", Cond.fieldLink RX7 71 "ShoreFieldsModel" "lengths" "[I", Cond.fieldLink RX7 23 "ShoreFieldsModel" "length" "[I"]
def wsX7_share_r3 : List Cond := [Cond.methodLink RX7 153 yX7_dredged, Cond.instanceMethod yX7_dredged, Cond.selects RX7 yX7_dredged yX7_dredged, Cond.code yX7_dredged cX7_dredged 6 none, Cond.fieldLink RX7 53 "ShoreFieldsModel" "dredgeOn" "[I", Cond.fieldLink RX7 44 "ShoreFieldsModel" "dredgeOf" "[I", Cond.fieldLink RX7 47 "ShoreFieldsModel" "dredgeUnits" "[I", Cond.fieldLink RX7 50 "ShoreFieldsModel" "dredgeTo" "[I", Cond.methodLink RX7 138 yX7_brings, Cond.instanceMethod yX7_brings, Cond.selects RX7 yX7_brings yX7_brings, Cond.code yX7_brings cX7_brings 3 none, Cond.constant RX7 116 (99999), Cond.methodLink RX7 156 yX7_week, Cond.instanceMethod yX7_week, Cond.selects RX7 yX7_week yX7_week, Cond.code yX7_week cX7_week 6 none, Cond.fieldLink RX7 38 "ShoreFieldsModel" "height" "[I", Cond.fieldLink RX7 41 "ShoreFieldsModel" "side" "[I", Cond.methodLink RX7 142 yX7_passing, Cond.instanceMethod yX7_passing, Cond.selects RX7 yX7_passing yX7_passing, Cond.code yX7_passing cX7_passing 10 none, Cond.fieldLink RX7 74 "ShoreFieldsModel" "more" "[I"]
def wsX7_share_r4 : List Cond := [Cond.fieldLink RX7 26 "ShoreFieldsModel" "part" "[I", Cond.fieldLink RX7 32 "ShoreFieldsModel" "feeds" "[I", Cond.methodLink RX7 134 yX7_passes, Cond.instanceMethod yX7_passes, Cond.selects RX7 yX7_passes yX7_passes, Cond.code yX7_passes cX7_passes 8 (some .int), Cond.methodLink RX7 130 yX7_goesOut, Cond.instanceMethod yX7_goesOut, Cond.selects RX7 yX7_goesOut yX7_goesOut, Cond.code yX7_goesOut cX7_goesOut 5 (some .int), Cond.methodLink RX7 126 yX7_above, Cond.instanceMethod yX7_above, Cond.selects RX7 yX7_above yX7_above, Cond.code yX7_above cX7_above 3 (some .int), Cond.fieldLink RX7 29 "ShoreFieldsModel" "walls" "[I"]
def wsX7_share : List Cond := .code yX7_share cX7_share 9 (some .int) :: ((wsX7_share_r1 ++ (wsX7_share_r2 ++ (wsX7_share_r3 ++ wsX7_share_r4))) ++ wsX70)
def wsX7_work : List Cond := .code yX7_work cX7_work 6 (some .int) :: ([.fieldLink RX7 1 "ShoreFieldsModel" "thrown" "I", .fieldLink RX7 20 "ShoreFieldsModel" "kind" "[I", .fieldLink RX7 175 "ShoreFieldsModel" "works" "I", .fieldLink RX7 77 "ShoreFieldsModel" "workKind" "[I", .fieldLink RX7 80 "ShoreFieldsModel" "workAt" "[I", .fieldLink RX7 83 "ShoreFieldsModel" "workN" "[I", .fieldLink RX7 86 "ShoreFieldsModel" "workPrice" "[I", .fieldLink RX7 108 "ShoreFieldsModel" "isTold" "Z", .methodLink RX7 112 yX7_isField, .instanceMethod yX7_isField, .selects RX7 yX7_isField yX7_isField, .initialized RX7, .code yX7_isField cX7_isField 2 (some .boolean), .fieldLink RX7 13 "ShoreFieldsModel" "fields" "I", .methodLink RX7 104 yX7_within, .static yX7_within, .code yX7_within cX7_within 3 (some .boolean), .methodLink RX7 120 yX7_isInner, .instanceMethod yX7_isInner, .selects RX7 yX7_isInner yX7_isInner, .code yX7_isInner cX7_isInner 2 (some .boolean)] ++ wsX70)
def wsX7_mark : List Cond := .code yX7_mark cX7_mark 3 (some .boolean) :: ([.fieldLink RX7 1 "ShoreFieldsModel" "thrown" "I", .fieldLink RX7 89 "ShoreFieldsModel" "marks" "[I", .fieldLink RX7 108 "ShoreFieldsModel" "isTold" "Z", .methodLink RX7 112 yX7_isField, .instanceMethod yX7_isField, .selects RX7 yX7_isField yX7_isField, .initialized RX7, .code yX7_isField cX7_isField 2 (some .boolean), .fieldLink RX7 13 "ShoreFieldsModel" "fields" "I", .methodLink RX7 104 yX7_within, .static yX7_within, .code yX7_within cX7_within 3 (some .boolean)] ++ wsX70)
def wsX7_keeps_r1 : List Cond := [Cond.fieldLink RX7 175 "ShoreFieldsModel" "works" "I", Cond.fieldLink RX7 77 "ShoreFieldsModel" "workKind" "[I", Cond.fieldLink RX7 80 "ShoreFieldsModel" "workAt" "[I", Cond.fieldLink RX7 83 "ShoreFieldsModel" "workN" "[I", Cond.fieldLink RX7 71 "ShoreFieldsModel" "lengths" "[I", Cond.fieldLink RX7 150 "ShoreFieldsModel" "dredges" "I", Cond.fieldLink RX7 123 "ShoreFieldsModel" "told" "I", Cond.fieldLink RX7 35 "ShoreFieldsModel" "k0" "I", Cond.fieldLink RX7 13 "ShoreFieldsModel" "fields" "I", Cond.fieldLink RX7 56 "ShoreFieldsModel" "sand" "[I", Cond.fieldLink RX7 89 "ShoreFieldsModel" "marks" "[I", Cond.methodLink RX7 146 yX7_begins, Cond.instanceMethod yX7_begins, Cond.selects RX7 yX7_begins yX7_begins, Cond.initialized RX7, Cond.code yX7_begins cX7_begins 3 none, Cond.fieldLink RX7 16 "ShoreFieldsModel" "begin" "[I", Cond.fieldLink RX7 59 "ShoreFieldsModel" "sea" "[I", Cond.fieldLink RX7 62 "ShoreFieldsModel" "scour" "[I", Cond.fieldLink RX7 65 "ShoreFieldsModel" "bar" "[I", Cond.fieldLink RX7 68 "ShoreFieldsModel" "passed" "[I", Cond.fieldLink RX7 20 "ShoreFieldsModel" "kind" "[I", Cond.fieldLink RX7 23 "ShoreFieldsModel" "length" "[I", Cond.methodLink RX7 138 yX7_brings]
def wsX7_keeps_r2 : List Cond := [Cond.instanceMethod yX7_brings, Cond.selects RX7 yX7_brings yX7_brings, Cond.code yX7_brings cX7_brings 3 none, Cond.constant RX7 116 (99999), Cond.methodLink RX7 153 yX7_dredged, Cond.instanceMethod yX7_dredged, Cond.selects RX7 yX7_dredged yX7_dredged, Cond.code yX7_dredged cX7_dredged 6 none, Cond.fieldLink RX7 53 "ShoreFieldsModel" "dredgeOn" "[I", Cond.fieldLink RX7 44 "ShoreFieldsModel" "dredgeOf" "[I", Cond.fieldLink RX7 47 "ShoreFieldsModel" "dredgeUnits" "[I", Cond.fieldLink RX7 50 "ShoreFieldsModel" "dredgeTo" "[I", Cond.methodLink RX7 156 yX7_week, Cond.instanceMethod yX7_week, Cond.selects RX7 yX7_week yX7_week, Cond.code yX7_week cX7_week 6 none, Cond.fieldLink RX7 38 "ShoreFieldsModel" "height" "[I", Cond.fieldLink RX7 41 "ShoreFieldsModel" "side" "[I", Cond.methodLink RX7 142 yX7_passing, Cond.instanceMethod yX7_passing, Cond.selects RX7 yX7_passing yX7_passing, Cond.code yX7_passing cX7_passing 10 none, Cond.fieldLink RX7 74 "ShoreFieldsModel" "more" "[I", Cond.fieldLink RX7 26 "ShoreFieldsModel" "part" "[I"]
def wsX7_keeps_r3 : List Cond := [Cond.fieldLink RX7 32 "ShoreFieldsModel" "feeds" "[I", Cond.methodLink RX7 134 yX7_passes, Cond.instanceMethod yX7_passes, Cond.selects RX7 yX7_passes yX7_passes, Cond.code yX7_passes cX7_passes 8 (some .int), Cond.methodLink RX7 130 yX7_goesOut, Cond.instanceMethod yX7_goesOut, Cond.selects RX7 yX7_goesOut yX7_goesOut, Cond.code yX7_goesOut cX7_goesOut 5 (some .int), Cond.methodLink RX7 126 yX7_above, Cond.instanceMethod yX7_above, Cond.selects RX7 yX7_above yX7_above, Cond.code yX7_above cX7_above 3 (some .int), Cond.fieldLink RX7 29 "ShoreFieldsModel" "walls" "[I"]
def wsX7_keeps : List Cond := .code yX7_keeps cX7_keeps 5 (some .boolean) :: ((wsX7_keeps_r1 ++ (wsX7_keeps_r2 ++ wsX7_keeps_r3)) ++ wsX70)
def wsX7_works_r1 : List Cond := [Cond.fieldLink RX7 1 "ShoreFieldsModel" "thrown" "I", Cond.fieldLink RX7 175 "ShoreFieldsModel" "works" "I", Cond.fieldLink RX7 86 "ShoreFieldsModel" "workPrice" "[I", Cond.methodLink RX7 178 yX7_keeps, Cond.instanceMethod yX7_keeps, Cond.selects RX7 yX7_keeps yX7_keeps, Cond.initialized RX7, Cond.code yX7_keeps cX7_keeps 5 (some .boolean), Cond.fieldLink RX7 77 "ShoreFieldsModel" "workKind" "[I", Cond.fieldLink RX7 80 "ShoreFieldsModel" "workAt" "[I", Cond.fieldLink RX7 83 "ShoreFieldsModel" "workN" "[I", Cond.fieldLink RX7 71 "ShoreFieldsModel" "lengths" "[I", Cond.fieldLink RX7 150 "ShoreFieldsModel" "dredges" "I", Cond.fieldLink RX7 123 "ShoreFieldsModel" "told" "I", Cond.fieldLink RX7 35 "ShoreFieldsModel" "k0" "I", Cond.fieldLink RX7 13 "ShoreFieldsModel" "fields" "I", Cond.fieldLink RX7 56 "ShoreFieldsModel" "sand" "[I", Cond.fieldLink RX7 89 "ShoreFieldsModel" "marks" "[I", Cond.methodLink RX7 146 yX7_begins, Cond.instanceMethod yX7_begins, Cond.selects RX7 yX7_begins yX7_begins, Cond.code yX7_begins cX7_begins 3 none, Cond.fieldLink RX7 16 "ShoreFieldsModel" "begin" "[I", Cond.fieldLink RX7 59 "ShoreFieldsModel" "sea" "[I"]
def wsX7_works_r2 : List Cond := [Cond.fieldLink RX7 62 "ShoreFieldsModel" "scour" "[I", Cond.fieldLink RX7 65 "ShoreFieldsModel" "bar" "[I", Cond.fieldLink RX7 68 "ShoreFieldsModel" "passed" "[I", Cond.fieldLink RX7 20 "ShoreFieldsModel" "kind" "[I", Cond.fieldLink RX7 23 "ShoreFieldsModel" "length" "[I", Cond.methodLink RX7 138 yX7_brings, Cond.instanceMethod yX7_brings, Cond.selects RX7 yX7_brings yX7_brings, Cond.code yX7_brings cX7_brings 3 none, Cond.constant RX7 116 (99999), Cond.methodLink RX7 153 yX7_dredged, Cond.instanceMethod yX7_dredged, Cond.selects RX7 yX7_dredged yX7_dredged, Cond.code yX7_dredged cX7_dredged 6 none, Cond.fieldLink RX7 53 "ShoreFieldsModel" "dredgeOn" "[I", Cond.fieldLink RX7 44 "ShoreFieldsModel" "dredgeOf" "[I", Cond.fieldLink RX7 47 "ShoreFieldsModel" "dredgeUnits" "[I", Cond.fieldLink RX7 50 "ShoreFieldsModel" "dredgeTo" "[I", Cond.methodLink RX7 156 yX7_week, Cond.instanceMethod yX7_week, Cond.selects RX7 yX7_week yX7_week, Cond.code yX7_week cX7_week 6 none, Cond.fieldLink RX7 38 "ShoreFieldsModel" "height" "[I", Cond.fieldLink RX7 41 "ShoreFieldsModel" "side" "[I"]
def wsX7_works_r3 : List Cond := [Cond.methodLink RX7 142 yX7_passing, Cond.instanceMethod yX7_passing, Cond.selects RX7 yX7_passing yX7_passing, Cond.code yX7_passing cX7_passing 10 none, Cond.fieldLink RX7 74 "ShoreFieldsModel" "more" "[I", Cond.fieldLink RX7 26 "ShoreFieldsModel" "part" "[I", Cond.fieldLink RX7 32 "ShoreFieldsModel" "feeds" "[I", Cond.methodLink RX7 134 yX7_passes, Cond.instanceMethod yX7_passes, Cond.selects RX7 yX7_passes yX7_passes, Cond.code yX7_passes cX7_passes 8 (some .int), Cond.methodLink RX7 130 yX7_goesOut, Cond.instanceMethod yX7_goesOut, Cond.selects RX7 yX7_goesOut yX7_goesOut, Cond.code yX7_goesOut cX7_goesOut 5 (some .int), Cond.methodLink RX7 126 yX7_above, Cond.instanceMethod yX7_above, Cond.selects RX7 yX7_above yX7_above, Cond.code yX7_above cX7_above 3 (some .int), Cond.fieldLink RX7 29 "ShoreFieldsModel" "walls" "[I"]
def wsX7_works : List Cond := .code yX7_works cX7_works 6 (some .int) :: ((wsX7_works_r1 ++ (wsX7_works_r2 ++ wsX7_works_r3)) ++ wsX70)
def wsX7_survey : List Cond := .code yX7_survey cX7_survey 5 (some .int) :: ([.fieldLink RX7 1 "ShoreFieldsModel" "thrown" "I", .fieldLink RX7 181 "ShoreFieldsModel" "surveys" "I", .fieldLink RX7 92 "ShoreFieldsModel" "surveyOf" "[I", .fieldLink RX7 95 "ShoreFieldsModel" "surveyOn" "[I", .fieldLink RX7 98 "ShoreFieldsModel" "surveyLow" "[I", .fieldLink RX7 101 "ShoreFieldsModel" "surveyHigh" "[I", .fieldLink RX7 108 "ShoreFieldsModel" "isTold" "Z", .methodLink RX7 112 yX7_isField, .instanceMethod yX7_isField, .selects RX7 yX7_isField yX7_isField, .initialized RX7, .code yX7_isField cX7_isField 2 (some .boolean), .fieldLink RX7 13 "ShoreFieldsModel" "fields" "I", .methodLink RX7 104 yX7_within, .static yX7_within, .code yX7_within cX7_within 3 (some .boolean)] ++ wsX70)
def wsX7_areSo : List Cond := .code yX7_areSo cX7_areSo 4 (some .boolean) :: ([.fieldLink RX7 181 "ShoreFieldsModel" "surveys" "I", .fieldLink RX7 95 "ShoreFieldsModel" "surveyOn" "[I", .fieldLink RX7 56 "ShoreFieldsModel" "sand" "[I", .fieldLink RX7 92 "ShoreFieldsModel" "surveyOf" "[I", .fieldLink RX7 98 "ShoreFieldsModel" "surveyLow" "[I", .fieldLink RX7 101 "ShoreFieldsModel" "surveyHigh" "[I", .methodLink RX7 104 yX7_within, .static yX7_within, .initialized RX7, .code yX7_within cX7_within 3 (some .boolean)] ++ wsX70)
def wsX7_fits_r1 : List Cond := [Cond.fieldLink RX7 1 "ShoreFieldsModel" "thrown" "I", Cond.fieldLink RX7 150 "ShoreFieldsModel" "dredges" "I", Cond.fieldLink RX7 123 "ShoreFieldsModel" "told" "I", Cond.methodLink RX7 146 yX7_begins, Cond.instanceMethod yX7_begins, Cond.selects RX7 yX7_begins yX7_begins, Cond.initialized RX7, Cond.code yX7_begins cX7_begins 3 none, Cond.fieldLink RX7 56 "ShoreFieldsModel" "sand" "[I", Cond.fieldLink RX7 16 "ShoreFieldsModel" "begin" "[I", Cond.fieldLink RX7 59 "ShoreFieldsModel" "sea" "[I", Cond.fieldLink RX7 62 "ShoreFieldsModel" "scour" "[I", Cond.fieldLink RX7 65 "ShoreFieldsModel" "bar" "[I", Cond.fieldLink RX7 68 "ShoreFieldsModel" "passed" "[I", Cond.fieldLink RX7 71 "ShoreFieldsModel" "lengths" "[I", Cond.fieldLink RX7 20 "ShoreFieldsModel" "kind" "[I", Cond.fieldLink RX7 23 "ShoreFieldsModel" "length" "[I", Cond.methodLink RX7 153 yX7_dredged, Cond.instanceMethod yX7_dredged, Cond.selects RX7 yX7_dredged yX7_dredged, Cond.code yX7_dredged cX7_dredged 6 none, Cond.fieldLink RX7 53 "ShoreFieldsModel" "dredgeOn" "[I", Cond.fieldLink RX7 44 "ShoreFieldsModel" "dredgeOf" "[I", Cond.fieldLink RX7 47 "ShoreFieldsModel" "dredgeUnits" "[I"]
def wsX7_fits_r2 : List Cond := [Cond.fieldLink RX7 50 "ShoreFieldsModel" "dredgeTo" "[I", Cond.methodLink RX7 138 yX7_brings, Cond.instanceMethod yX7_brings, Cond.selects RX7 yX7_brings yX7_brings, Cond.code yX7_brings cX7_brings 3 none, Cond.constant RX7 116 (99999), Cond.methodLink RX7 156 yX7_week, Cond.instanceMethod yX7_week, Cond.selects RX7 yX7_week yX7_week, Cond.code yX7_week cX7_week 6 none, Cond.fieldLink RX7 38 "ShoreFieldsModel" "height" "[I", Cond.fieldLink RX7 41 "ShoreFieldsModel" "side" "[I", Cond.fieldLink RX7 13 "ShoreFieldsModel" "fields" "I", Cond.methodLink RX7 142 yX7_passing, Cond.instanceMethod yX7_passing, Cond.selects RX7 yX7_passing yX7_passing, Cond.code yX7_passing cX7_passing 10 none, Cond.fieldLink RX7 74 "ShoreFieldsModel" "more" "[I", Cond.fieldLink RX7 26 "ShoreFieldsModel" "part" "[I", Cond.fieldLink RX7 32 "ShoreFieldsModel" "feeds" "[I", Cond.methodLink RX7 134 yX7_passes, Cond.instanceMethod yX7_passes, Cond.selects RX7 yX7_passes yX7_passes, Cond.code yX7_passes cX7_passes 8 (some .int)]
def wsX7_fits_r3 : List Cond := [Cond.methodLink RX7 130 yX7_goesOut, Cond.instanceMethod yX7_goesOut, Cond.selects RX7 yX7_goesOut yX7_goesOut, Cond.code yX7_goesOut cX7_goesOut 5 (some .int), Cond.methodLink RX7 126 yX7_above, Cond.instanceMethod yX7_above, Cond.selects RX7 yX7_above yX7_above, Cond.code yX7_above cX7_above 3 (some .int), Cond.fieldLink RX7 29 "ShoreFieldsModel" "walls" "[I", Cond.methodLink RX7 184 yX7_areSo, Cond.instanceMethod yX7_areSo, Cond.selects RX7 yX7_areSo yX7_areSo, Cond.code yX7_areSo cX7_areSo 4 (some .boolean), Cond.fieldLink RX7 181 "ShoreFieldsModel" "surveys" "I", Cond.fieldLink RX7 95 "ShoreFieldsModel" "surveyOn" "[I", Cond.fieldLink RX7 92 "ShoreFieldsModel" "surveyOf" "[I", Cond.fieldLink RX7 98 "ShoreFieldsModel" "surveyLow" "[I", Cond.fieldLink RX7 101 "ShoreFieldsModel" "surveyHigh" "[I", Cond.methodLink RX7 104 yX7_within, Cond.static yX7_within, Cond.code yX7_within cX7_within 3 (some .boolean)]
def wsX7_fits : List Cond := .code yX7_fits cX7_fits 5 (some .int) :: ((wsX7_fits_r1 ++ (wsX7_fits_r2 ++ wsX7_fits_r3)) ++ wsX70)
def wsX7_allSand_r1 : List Cond := [Cond.fieldLink RX7 117 "ShoreFieldsModel" "gone" "I", Cond.fieldLink RX7 13 "ShoreFieldsModel" "fields" "I", Cond.fieldLink RX7 56 "ShoreFieldsModel" "sand" "[I", Cond.fieldLink RX7 59 "ShoreFieldsModel" "sea" "[I", Cond.fieldLink RX7 65 "ShoreFieldsModel" "bar" "[I", Cond.methodLink RX7 159 yX7_runs, Cond.instanceMethod yX7_runs, Cond.selects RX7 yX7_runs yX7_runs, Cond.initialized RX7, Cond.code yX7_runs cX7_runs 4 none, Cond.fieldLink RX7 150 "ShoreFieldsModel" "dredges" "I", Cond.fieldLink RX7 35 "ShoreFieldsModel" "k0" "I", Cond.methodLink RX7 146 yX7_begins, Cond.instanceMethod yX7_begins, Cond.selects RX7 yX7_begins yX7_begins, Cond.code yX7_begins cX7_begins 3 none, Cond.fieldLink RX7 16 "ShoreFieldsModel" "begin" "[I", Cond.fieldLink RX7 62 "ShoreFieldsModel" "scour" "[I", Cond.fieldLink RX7 68 "ShoreFieldsModel" "passed" "[I", Cond.fieldLink RX7 71 "ShoreFieldsModel" "lengths" "[I", Cond.fieldLink RX7 20 "ShoreFieldsModel" "kind" "[I", Cond.fieldLink RX7 23 "ShoreFieldsModel" "length" "[I", Cond.methodLink RX7 153 yX7_dredged, Cond.instanceMethod yX7_dredged]
def wsX7_allSand_r2 : List Cond := [Cond.selects RX7 yX7_dredged yX7_dredged, Cond.code yX7_dredged cX7_dredged 6 none, Cond.fieldLink RX7 53 "ShoreFieldsModel" "dredgeOn" "[I", Cond.fieldLink RX7 44 "ShoreFieldsModel" "dredgeOf" "[I", Cond.fieldLink RX7 47 "ShoreFieldsModel" "dredgeUnits" "[I", Cond.fieldLink RX7 50 "ShoreFieldsModel" "dredgeTo" "[I", Cond.methodLink RX7 138 yX7_brings, Cond.instanceMethod yX7_brings, Cond.selects RX7 yX7_brings yX7_brings, Cond.code yX7_brings cX7_brings 3 none, Cond.constant RX7 116 (99999), Cond.methodLink RX7 156 yX7_week, Cond.instanceMethod yX7_week, Cond.selects RX7 yX7_week yX7_week, Cond.code yX7_week cX7_week 6 none, Cond.fieldLink RX7 38 "ShoreFieldsModel" "height" "[I", Cond.fieldLink RX7 41 "ShoreFieldsModel" "side" "[I", Cond.methodLink RX7 142 yX7_passing, Cond.instanceMethod yX7_passing, Cond.selects RX7 yX7_passing yX7_passing, Cond.code yX7_passing cX7_passing 10 none, Cond.fieldLink RX7 74 "ShoreFieldsModel" "more" "[I", Cond.fieldLink RX7 26 "ShoreFieldsModel" "part" "[I", Cond.fieldLink RX7 32 "ShoreFieldsModel" "feeds" "[I"]
def wsX7_allSand_r3 : List Cond := [Cond.methodLink RX7 134 yX7_passes, Cond.instanceMethod yX7_passes, Cond.selects RX7 yX7_passes yX7_passes, Cond.code yX7_passes cX7_passes 8 (some .int), Cond.methodLink RX7 130 yX7_goesOut, Cond.instanceMethod yX7_goesOut, Cond.selects RX7 yX7_goesOut yX7_goesOut, Cond.code yX7_goesOut cX7_goesOut 5 (some .int), Cond.methodLink RX7 126 yX7_above, Cond.instanceMethod yX7_above, Cond.selects RX7 yX7_above yX7_above, Cond.code yX7_above cX7_above 3 (some .int), Cond.fieldLink RX7 29 "ShoreFieldsModel" "walls" "[I"]
def wsX7_allSand : List Cond := .code yX7_allSand cX7_allSand 3 (some .int) :: ((wsX7_allSand_r1 ++ (wsX7_allSand_r2 ++ wsX7_allSand_r3)) ++ wsX70)
def wsX7_count_r1 : List Cond := [Cond.fieldLink RX7 1 "ShoreFieldsModel" "thrown" "I", Cond.fieldLink RX7 13 "ShoreFieldsModel" "fields" "I", Cond.fieldLink RX7 123 "ShoreFieldsModel" "told" "I", Cond.fieldLink RX7 117 "ShoreFieldsModel" "gone" "I", Cond.fieldLink RX7 175 "ShoreFieldsModel" "works" "I", Cond.fieldLink RX7 181 "ShoreFieldsModel" "surveys" "I", Cond.fieldLink RX7 150 "ShoreFieldsModel" "dredges" "I", Cond.methodLink RX7 187 yX7_allSand, Cond.instanceMethod yX7_allSand, Cond.selects RX7 yX7_allSand yX7_allSand, Cond.initialized RX7, Cond.code yX7_allSand cX7_allSand 3 (some .int), Cond.fieldLink RX7 56 "ShoreFieldsModel" "sand" "[I", Cond.fieldLink RX7 59 "ShoreFieldsModel" "sea" "[I", Cond.fieldLink RX7 65 "ShoreFieldsModel" "bar" "[I", Cond.methodLink RX7 159 yX7_runs, Cond.instanceMethod yX7_runs, Cond.selects RX7 yX7_runs yX7_runs, Cond.code yX7_runs cX7_runs 4 none, Cond.fieldLink RX7 35 "ShoreFieldsModel" "k0" "I", Cond.methodLink RX7 146 yX7_begins, Cond.instanceMethod yX7_begins, Cond.selects RX7 yX7_begins yX7_begins, Cond.code yX7_begins cX7_begins 3 none]
def wsX7_count_r2 : List Cond := [Cond.fieldLink RX7 16 "ShoreFieldsModel" "begin" "[I", Cond.fieldLink RX7 62 "ShoreFieldsModel" "scour" "[I", Cond.fieldLink RX7 68 "ShoreFieldsModel" "passed" "[I", Cond.fieldLink RX7 71 "ShoreFieldsModel" "lengths" "[I", Cond.fieldLink RX7 20 "ShoreFieldsModel" "kind" "[I", Cond.fieldLink RX7 23 "ShoreFieldsModel" "length" "[I", Cond.methodLink RX7 153 yX7_dredged, Cond.instanceMethod yX7_dredged, Cond.selects RX7 yX7_dredged yX7_dredged, Cond.code yX7_dredged cX7_dredged 6 none, Cond.fieldLink RX7 53 "ShoreFieldsModel" "dredgeOn" "[I", Cond.fieldLink RX7 44 "ShoreFieldsModel" "dredgeOf" "[I", Cond.fieldLink RX7 47 "ShoreFieldsModel" "dredgeUnits" "[I", Cond.fieldLink RX7 50 "ShoreFieldsModel" "dredgeTo" "[I", Cond.methodLink RX7 138 yX7_brings, Cond.instanceMethod yX7_brings, Cond.selects RX7 yX7_brings yX7_brings, Cond.code yX7_brings cX7_brings 3 none, Cond.constant RX7 116 (99999), Cond.methodLink RX7 156 yX7_week, Cond.instanceMethod yX7_week, Cond.selects RX7 yX7_week yX7_week, Cond.code yX7_week cX7_week 6 none, Cond.fieldLink RX7 38 "ShoreFieldsModel" "height" "[I"]
def wsX7_count_r3 : List Cond := [Cond.fieldLink RX7 41 "ShoreFieldsModel" "side" "[I", Cond.methodLink RX7 142 yX7_passing, Cond.instanceMethod yX7_passing, Cond.selects RX7 yX7_passing yX7_passing, Cond.code yX7_passing cX7_passing 10 none, Cond.fieldLink RX7 74 "ShoreFieldsModel" "more" "[I", Cond.fieldLink RX7 26 "ShoreFieldsModel" "part" "[I", Cond.fieldLink RX7 32 "ShoreFieldsModel" "feeds" "[I", Cond.methodLink RX7 134 yX7_passes, Cond.instanceMethod yX7_passes, Cond.selects RX7 yX7_passes yX7_passes, Cond.code yX7_passes cX7_passes 8 (some .int), Cond.methodLink RX7 130 yX7_goesOut, Cond.instanceMethod yX7_goesOut, Cond.selects RX7 yX7_goesOut yX7_goesOut, Cond.code yX7_goesOut cX7_goesOut 5 (some .int), Cond.methodLink RX7 126 yX7_above, Cond.instanceMethod yX7_above, Cond.selects RX7 yX7_above yX7_above, Cond.code yX7_above cX7_above 3 (some .int), Cond.fieldLink RX7 29 "ShoreFieldsModel" "walls" "[I"]
def wsX7_count : List Cond := .code yX7_count cX7_count 2 (some .int) :: ((wsX7_count_r1 ++ (wsX7_count_r2 ++ wsX7_count_r3)) ++ wsX70)
def wsJ9_max_7cf53 : List Cond := .code yJ9_max_7cf53 cJ9_max_7cf53 2 (some .int) :: ([])
def wsJ9_min_7cf53 : List Cond := .code yJ9_min_7cf53 cJ9_min_7cf53 2 (some .int) :: ([])
theorem inJ6 : ∀ w ∈ wsJ60, w ∈ lw_tbl := by decide +kernel
theorem inJ9 : ∀ w ∈ wsJ90, w ∈ lw_tbl := by decide +kernel
theorem inJ0 : ∀ w ∈ wsJ00, w ∈ lw_tbl := by decide +kernel
theorem inJ10 : ∀ w ∈ wsJ100, w ∈ lw_tbl := by decide +kernel
theorem inJ7 : ∀ w ∈ wsJ70, w ∈ lw_tbl := by decide +kernel
set_option maxRecDepth 20000 in
theorem ggX0_init_J7_fill_53178 : GoodIn wsX0_init wsJ7_fill_53178 := goodIn_r _ [16] (by decide +kernel) (by decide +kernel)
set_option maxRecDepth 20000 in
theorem gX0_init_J7_fill_53178 : GoodIn wsX0_init (va_wsS RX0 37 yJ7_fill_53178 wsJ7_fill_53178) := goodIn_app (goodIn_of _ (by decide +kernel)) ggX0_init_J7_fill_53178
theorem dX0_init_0 : decode cX0_init 0 = .ok (.aload_n 0, 1) := by decide +kernel
theorem dX0_init_1 : decode cX0_init 1 = .ok (.invokespecial 3, 3) := by decide +kernel
theorem dX0_init_4 : decode cX0_init 4 = .ok (.aload_n 0, 1) := by decide +kernel
theorem dX0_init_5 : decode cX0_init 5 = .ok (.bipush 6, 2) := by decide +kernel
theorem dX0_init_7 : decode cX0_init 7 = .ok (.putfield 9, 3) := by decide +kernel
theorem dX0_init_10 : decode cX0_init 10 = .ok (.aload_n 0, 1) := by decide +kernel
theorem dX0_init_11 : decode cX0_init 11 = .ok (.iconst 4, 1) := by decide +kernel
theorem dX0_init_12 : decode cX0_init 12 = .ok (.putfield 15, 3) := by decide +kernel
theorem dX0_init_15 : decode cX0_init 15 = .ok (.aload_n 0, 1) := by decide +kernel
theorem dX0_init_16 : decode cX0_init 16 = .ok (.bipush 12, 2) := by decide +kernel
theorem dX0_init_18 : decode cX0_init 18 = .ok (.newarray .int, 2) := by decide +kernel
theorem dX0_init_20 : decode cX0_init 20 = .ok (.putfield 18, 3) := by decide +kernel
theorem dX0_init_23 : decode cX0_init 23 = .ok (.aload_n 0, 1) := by decide +kernel
theorem dX0_init_24 : decode cX0_init 24 = .ok (.bipush 12, 2) := by decide +kernel
theorem dX0_init_26 : decode cX0_init 26 = .ok (.newarray .int, 2) := by decide +kernel
theorem dX0_init_28 : decode cX0_init 28 = .ok (.putfield 22, 3) := by decide +kernel
theorem dX0_init_31 : decode cX0_init 31 = .ok (.aload_n 0, 1) := by decide +kernel
theorem dX0_init_32 : decode cX0_init 32 = .ok (.iconst 2, 1) := by decide +kernel
theorem dX0_init_33 : decode cX0_init 33 = .ok (.newarray .int, 2) := by decide +kernel
theorem dX0_init_35 : decode cX0_init 35 = .ok (.putfield 25, 3) := by decide +kernel
theorem dX0_init_38 : decode cX0_init 38 = .ok (.aload_n 0, 1) := by decide +kernel
theorem dX0_init_39 : decode cX0_init 39 = .ok (.bipush 13, 2) := by decide +kernel
theorem dX0_init_41 : decode cX0_init 41 = .ok (.newarray .int, 2) := by decide +kernel
theorem dX0_init_43 : decode cX0_init 43 = .ok (.putfield 28, 3) := by decide +kernel
theorem dX0_init_46 : decode cX0_init 46 = .ok (.aload_n 0, 1) := by decide +kernel
theorem dX0_init_47 : decode cX0_init 47 = .ok (.bipush 13, 2) := by decide +kernel
theorem dX0_init_49 : decode cX0_init 49 = .ok (.newarray .int, 2) := by decide +kernel
theorem dX0_init_51 : decode cX0_init 51 = .ok (.putfield 31, 3) := by decide +kernel
theorem dX0_init_54 : decode cX0_init 54 = .ok (.aload_n 0, 1) := by decide +kernel
theorem dX0_init_55 : decode cX0_init 55 = .ok (.bipush 13, 2) := by decide +kernel
theorem dX0_init_57 : decode cX0_init 57 = .ok (.newarray .int, 2) := by decide +kernel
theorem dX0_init_59 : decode cX0_init 59 = .ok (.putfield 34, 3) := by decide +kernel
theorem dX0_init_62 : decode cX0_init 62 = .ok (.aload_n 0, 1) := by decide +kernel
theorem dX0_init_63 : decode cX0_init 63 = .ok (.getfield 18, 3) := by decide +kernel
theorem dX0_init_66 : decode cX0_init 66 = .ok (.sipush 1000, 3) := by decide +kernel
theorem dX0_init_69 : decode cX0_init 69 = .ok (.invokestatic 37, 3) := by decide +kernel
theorem dX0_init_72 : decode cX0_init 72 = .ok (.aload_n 0, 1) := by decide +kernel
theorem dX0_init_73 : decode cX0_init 73 = .ok (.getfield 25, 3) := by decide +kernel
theorem dX0_init_76 : decode cX0_init 76 = .ok (.bipush 100, 2) := by decide +kernel
theorem dX0_init_78 : decode cX0_init 78 = .ok (.invokestatic 37, 3) := by decide +kernel
theorem dX0_init_81 : decode cX0_init 81 = .ok (.return_, 1) := by decide +kernel
theorem dX0_hasField_0 : decode cX0_hasField 0 = .ok (.iload_n 1, 1) := by decide +kernel
theorem dX0_hasField_1 : decode cX0_hasField 1 = .ok (.ifCond .lt 15, 3) := by decide +kernel
theorem dX0_hasField_4 : decode cX0_hasField 4 = .ok (.iload_n 1, 1) := by decide +kernel
theorem dX0_hasField_5 : decode cX0_hasField 5 = .ok (.aload_n 0, 1) := by decide +kernel
theorem dX0_hasField_6 : decode cX0_hasField 6 = .ok (.getfield 9, 3) := by decide +kernel
theorem dX0_hasField_9 : decode cX0_hasField 9 = .ok (.if_icmp .ge 7, 3) := by decide +kernel
theorem dX0_hasField_12 : decode cX0_hasField 12 = .ok (.iconst 1, 1) := by decide +kernel
theorem dX0_hasField_13 : decode cX0_hasField 13 = .ok (.goto 4, 3) := by decide +kernel
theorem dX0_hasField_16 : decode cX0_hasField 16 = .ok (.iconst 0, 1) := by decide +kernel
theorem dX0_hasField_17 : decode cX0_hasField 17 = .ok (.ireturn, 1) := by decide +kernel
theorem dX0_hasBorder_0 : decode cX0_hasBorder 0 = .ok (.iload_n 1, 1) := by decide +kernel
theorem dX0_hasBorder_1 : decode cX0_hasBorder 1 = .ok (.ifCond .lt 15, 3) := by decide +kernel
theorem dX0_hasBorder_4 : decode cX0_hasBorder 4 = .ok (.iload_n 1, 1) := by decide +kernel
theorem dX0_hasBorder_5 : decode cX0_hasBorder 5 = .ok (.aload_n 0, 1) := by decide +kernel
theorem dX0_hasBorder_6 : decode cX0_hasBorder 6 = .ok (.getfield 9, 3) := by decide +kernel
theorem dX0_hasBorder_9 : decode cX0_hasBorder 9 = .ok (.if_icmp .gt 7, 3) := by decide +kernel
theorem dX0_hasBorder_12 : decode cX0_hasBorder 12 = .ok (.iconst 1, 1) := by decide +kernel
theorem dX0_hasBorder_13 : decode cX0_hasBorder 13 = .ok (.goto 4, 3) := by decide +kernel
theorem dX0_hasBorder_16 : decode cX0_hasBorder 16 = .ok (.iconst 0, 1) := by decide +kernel
theorem dX0_hasBorder_17 : decode cX0_hasBorder 17 = .ok (.ireturn, 1) := by decide +kernel
theorem dX0_liesBetweenFields_0 : decode cX0_liesBetweenFields 0 = .ok (.iload_n 1, 1) := by decide +kernel
theorem dX0_liesBetweenFields_1 : decode cX0_liesBetweenFields 1 = .ok (.iconst 1, 1) := by decide +kernel
theorem dX0_liesBetweenFields_2 : decode cX0_liesBetweenFields 2 = .ok (.if_icmp .lt 15, 3) := by decide +kernel
theorem dX0_liesBetweenFields_5 : decode cX0_liesBetweenFields 5 = .ok (.iload_n 1, 1) := by decide +kernel
theorem dX0_liesBetweenFields_6 : decode cX0_liesBetweenFields 6 = .ok (.aload_n 0, 1) := by decide +kernel
theorem dX0_liesBetweenFields_7 : decode cX0_liesBetweenFields 7 = .ok (.getfield 9, 3) := by decide +kernel
theorem dX0_liesBetweenFields_10 : decode cX0_liesBetweenFields 10 = .ok (.if_icmp .ge 7, 3) := by decide +kernel
theorem dX0_liesBetweenFields_13 : decode cX0_liesBetweenFields 13 = .ok (.iconst 1, 1) := by decide +kernel
theorem dX0_liesBetweenFields_14 : decode cX0_liesBetweenFields 14 = .ok (.goto 4, 3) := by decide +kernel
theorem dX0_liesBetweenFields_17 : decode cX0_liesBetweenFields 17 = .ok (.iconst 0, 1) := by decide +kernel
theorem dX0_liesBetweenFields_18 : decode cX0_liesBetweenFields 18 = .ok (.ireturn, 1) := by decide +kernel
set_option maxRecDepth 20000 in
theorem ggX0_hasAt_X0_liesBetweenFields : GoodIn wsX0_hasAt wsX0_liesBetweenFields := goodIn_r _ [6, 7, 8, 9, 10, 11, 12, 13, 14, 15] (by decide +kernel) (by decide +kernel)
set_option maxRecDepth 20000 in
theorem gX0_hasAt_X0_liesBetweenFields : GoodIn wsX0_hasAt (wsV RX0 43 RX0 yX0_liesBetweenFields wsX0_liesBetweenFields) := goodIn_app (goodIn_of _ (by decide +kernel)) ggX0_hasAt_X0_liesBetweenFields
theorem dX0_hasAt_0 : decode cX0_hasAt 0 = .ok (.aload_n 0, 1) := by decide +kernel
theorem dX0_hasAt_1 : decode cX0_hasAt 1 = .ok (.iload_n 1, 1) := by decide +kernel
theorem dX0_hasAt_2 : decode cX0_hasAt 2 = .ok (.invokevirtual 43, 3) := by decide +kernel
theorem dX0_hasAt_5 : decode cX0_hasAt 5 = .ok (.ifCond .eq 17, 3) := by decide +kernel
theorem dX0_hasAt_8 : decode cX0_hasAt 8 = .ok (.aload_n 0, 1) := by decide +kernel
theorem dX0_hasAt_9 : decode cX0_hasAt 9 = .ok (.getfield 28, 3) := by decide +kernel
theorem dX0_hasAt_12 : decode cX0_hasAt 12 = .ok (.iload_n 1, 1) := by decide +kernel
theorem dX0_hasAt_13 : decode cX0_hasAt 13 = .ok (.iaload, 1) := by decide +kernel
theorem dX0_hasAt_14 : decode cX0_hasAt 14 = .ok (.iload_n 2, 1) := by decide +kernel
theorem dX0_hasAt_15 : decode cX0_hasAt 15 = .ok (.if_icmp .ne 7, 3) := by decide +kernel
theorem dX0_hasAt_18 : decode cX0_hasAt 18 = .ok (.iconst 1, 1) := by decide +kernel
theorem dX0_hasAt_19 : decode cX0_hasAt 19 = .ok (.goto 4, 3) := by decide +kernel
theorem dX0_hasAt_22 : decode cX0_hasAt 22 = .ok (.iconst 0, 1) := by decide +kernel
theorem dX0_hasAt_23 : decode cX0_hasAt 23 = .ok (.ireturn, 1) := by decide +kernel
theorem dX0_hasGroynes_0 : decode cX0_hasGroynes 0 = .ok (.iload_n 1, 1) := by decide +kernel
theorem dX0_hasGroynes_1 : decode cX0_hasGroynes 1 = .ok (.istore_n 2, 1) := by decide +kernel
theorem dX0_hasGroynes_2 : decode cX0_hasGroynes 2 = .ok (.iconst 1, 1) := by decide +kernel
theorem dX0_hasGroynes_3 : decode cX0_hasGroynes 3 = .ok (.istore_n 3, 1) := by decide +kernel
theorem dX0_hasGroynes_4 : decode cX0_hasGroynes 4 = .ok (.iload_n 3, 1) := by decide +kernel
theorem dX0_hasGroynes_5 : decode cX0_hasGroynes 5 = .ok (.aload_n 0, 1) := by decide +kernel
theorem dX0_hasGroynes_6 : decode cX0_hasGroynes 6 = .ok (.getfield 9, 3) := by decide +kernel
theorem dX0_hasGroynes_9 : decode cX0_hasGroynes 9 = .ok (.if_icmp .ge 27, 3) := by decide +kernel
theorem dX0_hasGroynes_12 : decode cX0_hasGroynes 12 = .ok (.aload_n 0, 1) := by decide +kernel
theorem dX0_hasGroynes_13 : decode cX0_hasGroynes 13 = .ok (.getfield 28, 3) := by decide +kernel
theorem dX0_hasGroynes_16 : decode cX0_hasGroynes 16 = .ok (.iload_n 3, 1) := by decide +kernel
theorem dX0_hasGroynes_17 : decode cX0_hasGroynes 17 = .ok (.iaload, 1) := by decide +kernel
theorem dX0_hasGroynes_18 : decode cX0_hasGroynes 18 = .ok (.iconst 1, 1) := by decide +kernel
theorem dX0_hasGroynes_19 : decode cX0_hasGroynes 19 = .ok (.if_icmp .ne 11, 3) := by decide +kernel
theorem dX0_hasGroynes_22 : decode cX0_hasGroynes 22 = .ok (.iload_n 2, 1) := by decide +kernel
theorem dX0_hasGroynes_23 : decode cX0_hasGroynes 23 = .ok (.iconst 1, 1) := by decide +kernel
theorem dX0_hasGroynes_24 : decode cX0_hasGroynes 24 = .ok (.iload_n 3, 1) := by decide +kernel
theorem dX0_hasGroynes_25 : decode cX0_hasGroynes 25 = .ok (.ishl, 1) := by decide +kernel
theorem dX0_hasGroynes_26 : decode cX0_hasGroynes 26 = .ok (.iconst (-1), 1) := by decide +kernel
theorem dX0_hasGroynes_27 : decode cX0_hasGroynes 27 = .ok (.ixor, 1) := by decide +kernel
theorem dX0_hasGroynes_28 : decode cX0_hasGroynes 28 = .ok (.iand, 1) := by decide +kernel
theorem dX0_hasGroynes_29 : decode cX0_hasGroynes 29 = .ok (.istore_n 2, 1) := by decide +kernel
theorem dX0_hasGroynes_30 : decode cX0_hasGroynes 30 = .ok (.iinc 3 1, 3) := by decide +kernel
theorem dX0_hasGroynes_33 : decode cX0_hasGroynes 33 = .ok (.goto (-29), 3) := by decide +kernel
theorem dX0_hasGroynes_36 : decode cX0_hasGroynes 36 = .ok (.iload_n 2, 1) := by decide +kernel
theorem dX0_hasGroynes_37 : decode cX0_hasGroynes 37 = .ok (.ifCond .ne 7, 3) := by decide +kernel
theorem dX0_hasGroynes_40 : decode cX0_hasGroynes 40 = .ok (.iconst 1, 1) := by decide +kernel
theorem dX0_hasGroynes_41 : decode cX0_hasGroynes 41 = .ok (.goto 4, 3) := by decide +kernel
theorem dX0_hasGroynes_44 : decode cX0_hasGroynes 44 = .ok (.iconst 0, 1) := by decide +kernel
theorem dX0_hasGroynes_45 : decode cX0_hasGroynes 45 = .ok (.ireturn, 1) := by decide +kernel
theorem dX0_build_0 : decode cX0_build 0 = .ok (.aload_n 0, 1) := by decide +kernel
theorem dX0_build_1 : decode cX0_build 1 = .ok (.getfield 28, 3) := by decide +kernel
theorem dX0_build_4 : decode cX0_build 4 = .ok (.iload_n 1, 1) := by decide +kernel
theorem dX0_build_5 : decode cX0_build 5 = .ok (.iload_n 2, 1) := by decide +kernel
theorem dX0_build_6 : decode cX0_build 6 = .ok (.iastore, 1) := by decide +kernel
theorem dX0_build_7 : decode cX0_build 7 = .ok (.aload_n 0, 1) := by decide +kernel
theorem dX0_build_8 : decode cX0_build 8 = .ok (.getfield 31, 3) := by decide +kernel
theorem dX0_build_11 : decode cX0_build 11 = .ok (.iload_n 1, 1) := by decide +kernel
theorem dX0_build_12 : decode cX0_build 12 = .ok (.iload_n 3, 1) := by decide +kernel
theorem dX0_build_13 : decode cX0_build 13 = .ok (.iastore, 1) := by decide +kernel
theorem dX0_build_14 : decode cX0_build 14 = .ok (.aload_n 0, 1) := by decide +kernel
theorem dX0_build_15 : decode cX0_build 15 = .ok (.getfield 34, 3) := by decide +kernel
theorem dX0_build_18 : decode cX0_build 18 = .ok (.iload_n 1, 1) := by decide +kernel
theorem dX0_build_19 : decode cX0_build 19 = .ok (.iload 4, 2) := by decide +kernel
theorem dX0_build_21 : decode cX0_build 21 = .ok (.iastore, 1) := by decide +kernel
theorem dX0_build_22 : decode cX0_build 22 = .ok (.return_, 1) := by decide +kernel
set_option maxRecDepth 20000 in
theorem ggX0_leaveAway_X0_build : GoodIn wsX0_leaveAway wsX0_build := goodIn_r _ [6, 7, 8, 9, 10, 11, 12, 13, 14, 15, 16, 17] (by decide +kernel) (by decide +kernel)
set_option maxRecDepth 20000 in
theorem gX0_leaveAway_X0_build : GoodIn wsX0_leaveAway (wsV RX0 47 RX0 yX0_build wsX0_build) := goodIn_app (goodIn_of _ (by decide +kernel)) ggX0_leaveAway_X0_build
theorem dX0_leaveAway_0 : decode cX0_leaveAway 0 = .ok (.iconst 1, 1) := by decide +kernel
theorem dX0_leaveAway_1 : decode cX0_leaveAway 1 = .ok (.istore_n 2, 1) := by decide +kernel
theorem dX0_leaveAway_2 : decode cX0_leaveAway 2 = .ok (.iload_n 2, 1) := by decide +kernel
theorem dX0_leaveAway_3 : decode cX0_leaveAway 3 = .ok (.aload_n 0, 1) := by decide +kernel
theorem dX0_leaveAway_4 : decode cX0_leaveAway 4 = .ok (.getfield 9, 3) := by decide +kernel
theorem dX0_leaveAway_7 : decode cX0_leaveAway 7 = .ok (.if_icmp .ge 25, 3) := by decide +kernel
theorem dX0_leaveAway_10 : decode cX0_leaveAway 10 = .ok (.iload_n 1, 1) := by decide +kernel
theorem dX0_leaveAway_11 : decode cX0_leaveAway 11 = .ok (.iconst 1, 1) := by decide +kernel
theorem dX0_leaveAway_12 : decode cX0_leaveAway 12 = .ok (.iload_n 2, 1) := by decide +kernel
theorem dX0_leaveAway_13 : decode cX0_leaveAway 13 = .ok (.ishl, 1) := by decide +kernel
theorem dX0_leaveAway_14 : decode cX0_leaveAway 14 = .ok (.iand, 1) := by decide +kernel
theorem dX0_leaveAway_15 : decode cX0_leaveAway 15 = .ok (.ifCond .eq 11, 3) := by decide +kernel
theorem dX0_leaveAway_18 : decode cX0_leaveAway 18 = .ok (.aload_n 0, 1) := by decide +kernel
theorem dX0_leaveAway_19 : decode cX0_leaveAway 19 = .ok (.iload_n 2, 1) := by decide +kernel
theorem dX0_leaveAway_20 : decode cX0_leaveAway 20 = .ok (.iconst 0, 1) := by decide +kernel
theorem dX0_leaveAway_21 : decode cX0_leaveAway 21 = .ok (.iconst 0, 1) := by decide +kernel
theorem dX0_leaveAway_22 : decode cX0_leaveAway 22 = .ok (.iconst 0, 1) := by decide +kernel
theorem dX0_leaveAway_23 : decode cX0_leaveAway 23 = .ok (.invokevirtual 47, 3) := by decide +kernel
theorem dX0_leaveAway_26 : decode cX0_leaveAway 26 = .ok (.iinc 2 1, 3) := by decide +kernel
theorem dX0_leaveAway_29 : decode cX0_leaveAway 29 = .ok (.goto (-27), 3) := by decide +kernel
theorem dX0_leaveAway_32 : decode cX0_leaveAway 32 = .ok (.return_, 1) := by decide +kernel
theorem dX0_copyFrom_0 : decode cX0_copyFrom 0 = .ok (.aload_n 0, 1) := by decide +kernel
theorem dX0_copyFrom_1 : decode cX0_copyFrom 1 = .ok (.aload_n 1, 1) := by decide +kernel
theorem dX0_copyFrom_2 : decode cX0_copyFrom 2 = .ok (.getfield 9, 3) := by decide +kernel
theorem dX0_copyFrom_5 : decode cX0_copyFrom 5 = .ok (.putfield 9, 3) := by decide +kernel
theorem dX0_copyFrom_8 : decode cX0_copyFrom 8 = .ok (.aload_n 0, 1) := by decide +kernel
theorem dX0_copyFrom_9 : decode cX0_copyFrom 9 = .ok (.aload_n 1, 1) := by decide +kernel
theorem dX0_copyFrom_10 : decode cX0_copyFrom 10 = .ok (.getfield 15, 3) := by decide +kernel
theorem dX0_copyFrom_13 : decode cX0_copyFrom 13 = .ok (.putfield 15, 3) := by decide +kernel
theorem dX0_copyFrom_16 : decode cX0_copyFrom 16 = .ok (.aload_n 1, 1) := by decide +kernel
theorem dX0_copyFrom_17 : decode cX0_copyFrom 17 = .ok (.getfield 18, 3) := by decide +kernel
theorem dX0_copyFrom_20 : decode cX0_copyFrom 20 = .ok (.iconst 0, 1) := by decide +kernel
theorem dX0_copyFrom_21 : decode cX0_copyFrom 21 = .ok (.aload_n 0, 1) := by decide +kernel
theorem dX0_copyFrom_22 : decode cX0_copyFrom 22 = .ok (.getfield 18, 3) := by decide +kernel
theorem dX0_copyFrom_25 : decode cX0_copyFrom 25 = .ok (.iconst 0, 1) := by decide +kernel
theorem dX0_copyFrom_26 : decode cX0_copyFrom 26 = .ok (.bipush 12, 2) := by decide +kernel
theorem dX0_copyFrom_28 : decode cX0_copyFrom 28 = .ok (.invokestatic 51, 3) := by decide +kernel
theorem dX0_copyFrom_31 : decode cX0_copyFrom 31 = .ok (.aload_n 1, 1) := by decide +kernel
theorem dX0_copyFrom_32 : decode cX0_copyFrom 32 = .ok (.getfield 22, 3) := by decide +kernel
theorem dX0_copyFrom_35 : decode cX0_copyFrom 35 = .ok (.iconst 0, 1) := by decide +kernel
theorem dX0_copyFrom_36 : decode cX0_copyFrom 36 = .ok (.aload_n 0, 1) := by decide +kernel
theorem dX0_copyFrom_37 : decode cX0_copyFrom 37 = .ok (.getfield 22, 3) := by decide +kernel
theorem dX0_copyFrom_40 : decode cX0_copyFrom 40 = .ok (.iconst 0, 1) := by decide +kernel
theorem dX0_copyFrom_41 : decode cX0_copyFrom 41 = .ok (.bipush 12, 2) := by decide +kernel
theorem dX0_copyFrom_43 : decode cX0_copyFrom 43 = .ok (.invokestatic 51, 3) := by decide +kernel
theorem dX0_copyFrom_46 : decode cX0_copyFrom 46 = .ok (.aload_n 1, 1) := by decide +kernel
theorem dX0_copyFrom_47 : decode cX0_copyFrom 47 = .ok (.getfield 25, 3) := by decide +kernel
theorem dX0_copyFrom_50 : decode cX0_copyFrom 50 = .ok (.iconst 0, 1) := by decide +kernel
theorem dX0_copyFrom_51 : decode cX0_copyFrom 51 = .ok (.aload_n 0, 1) := by decide +kernel
theorem dX0_copyFrom_52 : decode cX0_copyFrom 52 = .ok (.getfield 25, 3) := by decide +kernel
theorem dX0_copyFrom_55 : decode cX0_copyFrom 55 = .ok (.iconst 0, 1) := by decide +kernel
theorem dX0_copyFrom_56 : decode cX0_copyFrom 56 = .ok (.iconst 2, 1) := by decide +kernel
theorem dX0_copyFrom_57 : decode cX0_copyFrom 57 = .ok (.invokestatic 51, 3) := by decide +kernel
theorem dX0_copyFrom_60 : decode cX0_copyFrom 60 = .ok (.aload_n 1, 1) := by decide +kernel
theorem dX0_copyFrom_61 : decode cX0_copyFrom 61 = .ok (.getfield 28, 3) := by decide +kernel
theorem dX0_copyFrom_64 : decode cX0_copyFrom 64 = .ok (.iconst 0, 1) := by decide +kernel
theorem dX0_copyFrom_65 : decode cX0_copyFrom 65 = .ok (.aload_n 0, 1) := by decide +kernel
theorem dX0_copyFrom_66 : decode cX0_copyFrom 66 = .ok (.getfield 28, 3) := by decide +kernel
theorem dX0_copyFrom_69 : decode cX0_copyFrom 69 = .ok (.iconst 0, 1) := by decide +kernel
theorem dX0_copyFrom_70 : decode cX0_copyFrom 70 = .ok (.bipush 13, 2) := by decide +kernel
theorem dX0_copyFrom_72 : decode cX0_copyFrom 72 = .ok (.invokestatic 51, 3) := by decide +kernel
theorem dX0_copyFrom_75 : decode cX0_copyFrom 75 = .ok (.aload_n 1, 1) := by decide +kernel
theorem dX0_copyFrom_76 : decode cX0_copyFrom 76 = .ok (.getfield 31, 3) := by decide +kernel
theorem dX0_copyFrom_79 : decode cX0_copyFrom 79 = .ok (.iconst 0, 1) := by decide +kernel
theorem dX0_copyFrom_80 : decode cX0_copyFrom 80 = .ok (.aload_n 0, 1) := by decide +kernel
theorem dX0_copyFrom_81 : decode cX0_copyFrom 81 = .ok (.getfield 31, 3) := by decide +kernel
theorem dX0_copyFrom_84 : decode cX0_copyFrom 84 = .ok (.iconst 0, 1) := by decide +kernel
theorem dX0_copyFrom_85 : decode cX0_copyFrom 85 = .ok (.bipush 13, 2) := by decide +kernel
theorem dX0_copyFrom_87 : decode cX0_copyFrom 87 = .ok (.invokestatic 51, 3) := by decide +kernel
theorem dX0_copyFrom_90 : decode cX0_copyFrom 90 = .ok (.aload_n 1, 1) := by decide +kernel
theorem dX0_copyFrom_91 : decode cX0_copyFrom 91 = .ok (.getfield 34, 3) := by decide +kernel
theorem dX0_copyFrom_94 : decode cX0_copyFrom 94 = .ok (.iconst 0, 1) := by decide +kernel
theorem dX0_copyFrom_95 : decode cX0_copyFrom 95 = .ok (.aload_n 0, 1) := by decide +kernel
theorem dX0_copyFrom_96 : decode cX0_copyFrom 96 = .ok (.getfield 34, 3) := by decide +kernel
theorem dX0_copyFrom_99 : decode cX0_copyFrom 99 = .ok (.iconst 0, 1) := by decide +kernel
theorem dX0_copyFrom_100 : decode cX0_copyFrom 100 = .ok (.bipush 13, 2) := by decide +kernel
theorem dX0_copyFrom_102 : decode cX0_copyFrom 102 = .ok (.invokestatic 51, 3) := by decide +kernel
theorem dX0_copyFrom_105 : decode cX0_copyFrom 105 = .ok (.return_, 1) := by decide +kernel
theorem dX1_init_0 : decode cX1_init 0 = .ok (.aload_n 0, 1) := by decide +kernel
theorem dX1_init_1 : decode cX1_init 1 = .ok (.invokespecial 3, 3) := by decide +kernel
theorem dX1_init_4 : decode cX1_init 4 = .ok (.aload_n 0, 1) := by decide +kernel
theorem dX1_init_5 : decode cX1_init 5 = .ok (.iconst 0, 1) := by decide +kernel
theorem dX1_init_6 : decode cX1_init 6 = .ok (.putfield 9, 3) := by decide +kernel
theorem dX1_init_9 : decode cX1_init 9 = .ok (.aload_n 0, 1) := by decide +kernel
theorem dX1_init_10 : decode cX1_init 10 = .ok (.bipush 20, 2) := by decide +kernel
theorem dX1_init_12 : decode cX1_init 12 = .ok (.newarray .int, 2) := by decide +kernel
theorem dX1_init_14 : decode cX1_init 14 = .ok (.putfield 15, 3) := by decide +kernel
theorem dX1_init_17 : decode cX1_init 17 = .ok (.aload_n 0, 1) := by decide +kernel
theorem dX1_init_18 : decode cX1_init 18 = .ok (.bipush 20, 2) := by decide +kernel
theorem dX1_init_20 : decode cX1_init 20 = .ok (.newarray .int, 2) := by decide +kernel
theorem dX1_init_22 : decode cX1_init 22 = .ok (.putfield 19, 3) := by decide +kernel
theorem dX1_init_25 : decode cX1_init 25 = .ok (.aload_n 0, 1) := by decide +kernel
theorem dX1_init_26 : decode cX1_init 26 = .ok (.bipush 20, 2) := by decide +kernel
theorem dX1_init_28 : decode cX1_init 28 = .ok (.newarray .int, 2) := by decide +kernel
theorem dX1_init_30 : decode cX1_init 30 = .ok (.putfield 22, 3) := by decide +kernel
theorem dX1_init_33 : decode cX1_init 33 = .ok (.aload_n 0, 1) := by decide +kernel
theorem dX1_init_34 : decode cX1_init 34 = .ok (.bipush 20, 2) := by decide +kernel
theorem dX1_init_36 : decode cX1_init 36 = .ok (.newarray .int, 2) := by decide +kernel
theorem dX1_init_38 : decode cX1_init 38 = .ok (.putfield 25, 3) := by decide +kernel
theorem dX1_init_41 : decode cX1_init 41 = .ok (.return_, 1) := by decide +kernel
theorem dX1_add_0 : decode cX1_add 0 = .ok (.aload_n 0, 1) := by decide +kernel
theorem dX1_add_1 : decode cX1_add 1 = .ok (.getfield 9, 3) := by decide +kernel
theorem dX1_add_4 : decode cX1_add 4 = .ok (.bipush 20, 2) := by decide +kernel
theorem dX1_add_6 : decode cX1_add 6 = .ok (.if_icmp .ge 54, 3) := by decide +kernel
theorem dX1_add_9 : decode cX1_add 9 = .ok (.aload_n 0, 1) := by decide +kernel
theorem dX1_add_10 : decode cX1_add 10 = .ok (.getfield 15, 3) := by decide +kernel
theorem dX1_add_13 : decode cX1_add 13 = .ok (.aload_n 0, 1) := by decide +kernel
theorem dX1_add_14 : decode cX1_add 14 = .ok (.getfield 9, 3) := by decide +kernel
theorem dX1_add_17 : decode cX1_add 17 = .ok (.iload_n 1, 1) := by decide +kernel
theorem dX1_add_18 : decode cX1_add 18 = .ok (.iastore, 1) := by decide +kernel
theorem dX1_add_19 : decode cX1_add 19 = .ok (.aload_n 0, 1) := by decide +kernel
theorem dX1_add_20 : decode cX1_add 20 = .ok (.getfield 19, 3) := by decide +kernel
theorem dX1_add_23 : decode cX1_add 23 = .ok (.aload_n 0, 1) := by decide +kernel
theorem dX1_add_24 : decode cX1_add 24 = .ok (.getfield 9, 3) := by decide +kernel
theorem dX1_add_27 : decode cX1_add 27 = .ok (.iload_n 2, 1) := by decide +kernel
theorem dX1_add_28 : decode cX1_add 28 = .ok (.iastore, 1) := by decide +kernel
theorem dX1_add_29 : decode cX1_add 29 = .ok (.aload_n 0, 1) := by decide +kernel
theorem dX1_add_30 : decode cX1_add 30 = .ok (.getfield 22, 3) := by decide +kernel
theorem dX1_add_33 : decode cX1_add 33 = .ok (.aload_n 0, 1) := by decide +kernel
theorem dX1_add_34 : decode cX1_add 34 = .ok (.getfield 9, 3) := by decide +kernel
theorem dX1_add_37 : decode cX1_add 37 = .ok (.iload_n 3, 1) := by decide +kernel
theorem dX1_add_38 : decode cX1_add 38 = .ok (.iastore, 1) := by decide +kernel
theorem dX1_add_39 : decode cX1_add 39 = .ok (.aload_n 0, 1) := by decide +kernel
theorem dX1_add_40 : decode cX1_add 40 = .ok (.getfield 25, 3) := by decide +kernel
theorem dX1_add_43 : decode cX1_add 43 = .ok (.aload_n 0, 1) := by decide +kernel
theorem dX1_add_44 : decode cX1_add 44 = .ok (.getfield 9, 3) := by decide +kernel
theorem dX1_add_47 : decode cX1_add 47 = .ok (.iload 4, 2) := by decide +kernel
theorem dX1_add_49 : decode cX1_add 49 = .ok (.iastore, 1) := by decide +kernel
theorem dX1_add_50 : decode cX1_add 50 = .ok (.aload_n 0, 1) := by decide +kernel
theorem dX1_add_51 : decode cX1_add 51 = .ok (.dup, 1) := by decide +kernel
theorem dX1_add_52 : decode cX1_add 52 = .ok (.getfield 9, 3) := by decide +kernel
theorem dX1_add_55 : decode cX1_add 55 = .ok (.iconst 1, 1) := by decide +kernel
theorem dX1_add_56 : decode cX1_add 56 = .ok (.iadd, 1) := by decide +kernel
theorem dX1_add_57 : decode cX1_add 57 = .ok (.putfield 9, 3) := by decide +kernel
theorem dX1_add_60 : decode cX1_add 60 = .ok (.return_, 1) := by decide +kernel
set_option maxRecDepth 20000 in
theorem ggX1_redoBehind_X2_bringFromBar : GoodIn wsX1_redoBehind wsX2_bringFromBar := goodIn_r _ [10, 11, 12, 13, 14, 15, 16, 17, 23, 24, 25, 26, 27, 28] (by decide +kernel) (by decide +kernel)
set_option maxRecDepth 20000 in
theorem gX1_redoBehind_X2_bringFromBar : GoodIn wsX1_redoBehind (wsV RX1 28 RX2 yX2_bringFromBar wsX2_bringFromBar) := goodIn_app (goodIn_of _ (by decide +kernel)) ggX1_redoBehind_X2_bringFromBar
theorem dX1_redoBehind_0 : decode cX1_redoBehind 0 = .ok (.iconst 0, 1) := by decide +kernel
theorem dX1_redoBehind_1 : decode cX1_redoBehind 1 = .ok (.istore_n 3, 1) := by decide +kernel
theorem dX1_redoBehind_2 : decode cX1_redoBehind 2 = .ok (.iload_n 3, 1) := by decide +kernel
theorem dX1_redoBehind_3 : decode cX1_redoBehind 3 = .ok (.aload_n 0, 1) := by decide +kernel
theorem dX1_redoBehind_4 : decode cX1_redoBehind 4 = .ok (.getfield 9, 3) := by decide +kernel
theorem dX1_redoBehind_7 : decode cX1_redoBehind 7 = .ok (.if_icmp .ge 42, 3) := by decide +kernel
theorem dX1_redoBehind_10 : decode cX1_redoBehind 10 = .ok (.aload_n 0, 1) := by decide +kernel
theorem dX1_redoBehind_11 : decode cX1_redoBehind 11 = .ok (.getfield 25, 3) := by decide +kernel
theorem dX1_redoBehind_14 : decode cX1_redoBehind 14 = .ok (.iload_n 3, 1) := by decide +kernel
theorem dX1_redoBehind_15 : decode cX1_redoBehind 15 = .ok (.iaload, 1) := by decide +kernel
theorem dX1_redoBehind_16 : decode cX1_redoBehind 16 = .ok (.iload_n 1, 1) := by decide +kernel
theorem dX1_redoBehind_17 : decode cX1_redoBehind 17 = .ok (.if_icmp .ne 26, 3) := by decide +kernel
theorem dX1_redoBehind_20 : decode cX1_redoBehind 20 = .ok (.aload_n 2, 1) := by decide +kernel
theorem dX1_redoBehind_21 : decode cX1_redoBehind 21 = .ok (.aload_n 0, 1) := by decide +kernel
theorem dX1_redoBehind_22 : decode cX1_redoBehind 22 = .ok (.getfield 15, 3) := by decide +kernel
theorem dX1_redoBehind_25 : decode cX1_redoBehind 25 = .ok (.iload_n 3, 1) := by decide +kernel
theorem dX1_redoBehind_26 : decode cX1_redoBehind 26 = .ok (.iaload, 1) := by decide +kernel
theorem dX1_redoBehind_27 : decode cX1_redoBehind 27 = .ok (.aload_n 0, 1) := by decide +kernel
theorem dX1_redoBehind_28 : decode cX1_redoBehind 28 = .ok (.getfield 19, 3) := by decide +kernel
theorem dX1_redoBehind_31 : decode cX1_redoBehind 31 = .ok (.iload_n 3, 1) := by decide +kernel
theorem dX1_redoBehind_32 : decode cX1_redoBehind 32 = .ok (.iaload, 1) := by decide +kernel
theorem dX1_redoBehind_33 : decode cX1_redoBehind 33 = .ok (.aload_n 0, 1) := by decide +kernel
theorem dX1_redoBehind_34 : decode cX1_redoBehind 34 = .ok (.getfield 22, 3) := by decide +kernel
theorem dX1_redoBehind_37 : decode cX1_redoBehind 37 = .ok (.iload_n 3, 1) := by decide +kernel
theorem dX1_redoBehind_38 : decode cX1_redoBehind 38 = .ok (.iaload, 1) := by decide +kernel
theorem dX1_redoBehind_39 : decode cX1_redoBehind 39 = .ok (.invokevirtual 28, 3) := by decide +kernel
theorem dX1_redoBehind_42 : decode cX1_redoBehind 42 = .ok (.pop, 1) := by decide +kernel
theorem dX1_redoBehind_43 : decode cX1_redoBehind 43 = .ok (.iinc 3 1, 3) := by decide +kernel
theorem dX1_redoBehind_46 : decode cX1_redoBehind 46 = .ok (.goto (-44), 3) := by decide +kernel
theorem dX1_redoBehind_49 : decode cX1_redoBehind 49 = .ok (.return_, 1) := by decide +kernel
theorem dX2_init_0 : decode cX2_init 0 = .ok (.aload_n 0, 1) := by decide +kernel
theorem dX2_init_1 : decode cX2_init 1 = .ok (.invokespecial 3, 3) := by decide +kernel
theorem dX2_init_4 : decode cX2_init 4 = .ok (.aload_n 0, 1) := by decide +kernel
theorem dX2_init_5 : decode cX2_init 5 = .ok (.bipush 12, 2) := by decide +kernel
theorem dX2_init_7 : decode cX2_init 7 = .ok (.newarray .int, 2) := by decide +kernel
theorem dX2_init_9 : decode cX2_init 9 = .ok (.putfield 9, 3) := by decide +kernel
theorem dX2_init_12 : decode cX2_init 12 = .ok (.aload_n 0, 1) := by decide +kernel
theorem dX2_init_13 : decode cX2_init 13 = .ok (.bipush 12, 2) := by decide +kernel
theorem dX2_init_15 : decode cX2_init 15 = .ok (.newarray .int, 2) := by decide +kernel
theorem dX2_init_17 : decode cX2_init 17 = .ok (.putfield 15, 3) := by decide +kernel
theorem dX2_init_20 : decode cX2_init 20 = .ok (.aload_n 0, 1) := by decide +kernel
theorem dX2_init_21 : decode cX2_init 21 = .ok (.bipush 12, 2) := by decide +kernel
theorem dX2_init_23 : decode cX2_init 23 = .ok (.newarray .int, 2) := by decide +kernel
theorem dX2_init_25 : decode cX2_init 25 = .ok (.putfield 18, 3) := by decide +kernel
theorem dX2_init_28 : decode cX2_init 28 = .ok (.aload_n 0, 1) := by decide +kernel
theorem dX2_init_29 : decode cX2_init 29 = .ok (.bipush 13, 2) := by decide +kernel
theorem dX2_init_31 : decode cX2_init 31 = .ok (.newarray .int, 2) := by decide +kernel
theorem dX2_init_33 : decode cX2_init 33 = .ok (.putfield 21, 3) := by decide +kernel
theorem dX2_init_36 : decode cX2_init 36 = .ok (.aload_n 0, 1) := by decide +kernel
theorem dX2_init_37 : decode cX2_init 37 = .ok (.bipush 13, 2) := by decide +kernel
theorem dX2_init_39 : decode cX2_init 39 = .ok (.newarray .int, 2) := by decide +kernel
theorem dX2_init_41 : decode cX2_init 41 = .ok (.putfield 24, 3) := by decide +kernel
theorem dX2_init_44 : decode cX2_init 44 = .ok (.aload_n 0, 1) := by decide +kernel
theorem dX2_init_45 : decode cX2_init 45 = .ok (.bipush 12, 2) := by decide +kernel
theorem dX2_init_47 : decode cX2_init 47 = .ok (.newarray .int, 2) := by decide +kernel
theorem dX2_init_49 : decode cX2_init 49 = .ok (.putfield 27, 3) := by decide +kernel
theorem dX2_init_52 : decode cX2_init 52 = .ok (.return_, 1) := by decide +kernel
set_option maxRecDepth 20000 in
theorem ggX2_startFrom_J7_fill_53178 : GoodIn wsX2_startFrom wsJ7_fill_53178 := goodIn_r _ [14] (by decide +kernel) (by decide +kernel)
set_option maxRecDepth 20000 in
theorem gX2_startFrom_J7_fill_53178 : GoodIn wsX2_startFrom (va_wsS RX2 39 yJ7_fill_53178 wsJ7_fill_53178) := goodIn_app (goodIn_of _ (by decide +kernel)) ggX2_startFrom_J7_fill_53178
theorem dX2_startFrom_0 : decode cX2_startFrom 0 = .ok (.aload_n 1, 1) := by decide +kernel
theorem dX2_startFrom_1 : decode cX2_startFrom 1 = .ok (.getfield 30, 3) := by decide +kernel
theorem dX2_startFrom_4 : decode cX2_startFrom 4 = .ok (.iconst 0, 1) := by decide +kernel
theorem dX2_startFrom_5 : decode cX2_startFrom 5 = .ok (.aload_n 0, 1) := by decide +kernel
theorem dX2_startFrom_6 : decode cX2_startFrom 6 = .ok (.getfield 9, 3) := by decide +kernel
theorem dX2_startFrom_9 : decode cX2_startFrom 9 = .ok (.iconst 0, 1) := by decide +kernel
theorem dX2_startFrom_10 : decode cX2_startFrom 10 = .ok (.bipush 12, 2) := by decide +kernel
theorem dX2_startFrom_12 : decode cX2_startFrom 12 = .ok (.invokestatic 33, 3) := by decide +kernel
theorem dX2_startFrom_15 : decode cX2_startFrom 15 = .ok (.aload_n 0, 1) := by decide +kernel
theorem dX2_startFrom_16 : decode cX2_startFrom 16 = .ok (.getfield 15, 3) := by decide +kernel
theorem dX2_startFrom_19 : decode cX2_startFrom 19 = .ok (.iconst 0, 1) := by decide +kernel
theorem dX2_startFrom_20 : decode cX2_startFrom 20 = .ok (.invokestatic 39, 3) := by decide +kernel
theorem dX2_startFrom_23 : decode cX2_startFrom 23 = .ok (.aload_n 0, 1) := by decide +kernel
theorem dX2_startFrom_24 : decode cX2_startFrom 24 = .ok (.getfield 18, 3) := by decide +kernel
theorem dX2_startFrom_27 : decode cX2_startFrom 27 = .ok (.iconst 0, 1) := by decide +kernel
theorem dX2_startFrom_28 : decode cX2_startFrom 28 = .ok (.invokestatic 39, 3) := by decide +kernel
theorem dX2_startFrom_31 : decode cX2_startFrom 31 = .ok (.aload_n 0, 1) := by decide +kernel
theorem dX2_startFrom_32 : decode cX2_startFrom 32 = .ok (.getfield 21, 3) := by decide +kernel
theorem dX2_startFrom_35 : decode cX2_startFrom 35 = .ok (.iconst 0, 1) := by decide +kernel
theorem dX2_startFrom_36 : decode cX2_startFrom 36 = .ok (.invokestatic 39, 3) := by decide +kernel
theorem dX2_startFrom_39 : decode cX2_startFrom 39 = .ok (.aload_n 0, 1) := by decide +kernel
theorem dX2_startFrom_40 : decode cX2_startFrom 40 = .ok (.getfield 24, 3) := by decide +kernel
theorem dX2_startFrom_43 : decode cX2_startFrom 43 = .ok (.iconst 0, 1) := by decide +kernel
theorem dX2_startFrom_44 : decode cX2_startFrom 44 = .ok (.invokestatic 39, 3) := by decide +kernel
theorem dX2_startFrom_47 : decode cX2_startFrom 47 = .ok (.return_, 1) := by decide +kernel
theorem dX2_lineOf_0 : decode cX2_lineOf 0 = .ok (.aload_n 0, 1) := by decide +kernel
theorem dX2_lineOf_1 : decode cX2_lineOf 1 = .ok (.getfield 9, 3) := by decide +kernel
theorem dX2_lineOf_4 : decode cX2_lineOf 4 = .ok (.iload_n 1, 1) := by decide +kernel
theorem dX2_lineOf_5 : decode cX2_lineOf 5 = .ok (.iaload, 1) := by decide +kernel
theorem dX2_lineOf_6 : decode cX2_lineOf 6 = .ok (.bipush 10, 2) := by decide +kernel
theorem dX2_lineOf_8 : decode cX2_lineOf 8 = .ok (.idiv, 1) := by decide +kernel
theorem dX2_lineOf_9 : decode cX2_lineOf 9 = .ok (.ireturn, 1) := by decide +kernel
theorem dX2_sandInAll_0 : decode cX2_sandInAll 0 = .ok (.iconst 0, 1) := by decide +kernel
theorem dX2_sandInAll_1 : decode cX2_sandInAll 1 = .ok (.istore_n 2, 1) := by decide +kernel
theorem dX2_sandInAll_2 : decode cX2_sandInAll 2 = .ok (.iconst 0, 1) := by decide +kernel
theorem dX2_sandInAll_3 : decode cX2_sandInAll 3 = .ok (.istore_n 3, 1) := by decide +kernel
theorem dX2_sandInAll_4 : decode cX2_sandInAll 4 = .ok (.iload_n 3, 1) := by decide +kernel
theorem dX2_sandInAll_5 : decode cX2_sandInAll 5 = .ok (.iload_n 1, 1) := by decide +kernel
theorem dX2_sandInAll_6 : decode cX2_sandInAll 6 = .ok (.if_icmp .ge 32, 3) := by decide +kernel
theorem dX2_sandInAll_9 : decode cX2_sandInAll 9 = .ok (.iload_n 2, 1) := by decide +kernel
theorem dX2_sandInAll_10 : decode cX2_sandInAll 10 = .ok (.aload_n 0, 1) := by decide +kernel
theorem dX2_sandInAll_11 : decode cX2_sandInAll 11 = .ok (.getfield 9, 3) := by decide +kernel
theorem dX2_sandInAll_14 : decode cX2_sandInAll 14 = .ok (.iload_n 3, 1) := by decide +kernel
theorem dX2_sandInAll_15 : decode cX2_sandInAll 15 = .ok (.iaload, 1) := by decide +kernel
theorem dX2_sandInAll_16 : decode cX2_sandInAll 16 = .ok (.aload_n 0, 1) := by decide +kernel
theorem dX2_sandInAll_17 : decode cX2_sandInAll 17 = .ok (.getfield 15, 3) := by decide +kernel
theorem dX2_sandInAll_20 : decode cX2_sandInAll 20 = .ok (.iload_n 3, 1) := by decide +kernel
theorem dX2_sandInAll_21 : decode cX2_sandInAll 21 = .ok (.iaload, 1) := by decide +kernel
theorem dX2_sandInAll_22 : decode cX2_sandInAll 22 = .ok (.iadd, 1) := by decide +kernel
theorem dX2_sandInAll_23 : decode cX2_sandInAll 23 = .ok (.aload_n 0, 1) := by decide +kernel
theorem dX2_sandInAll_24 : decode cX2_sandInAll 24 = .ok (.getfield 21, 3) := by decide +kernel
theorem dX2_sandInAll_27 : decode cX2_sandInAll 27 = .ok (.iload_n 3, 1) := by decide +kernel
theorem dX2_sandInAll_28 : decode cX2_sandInAll 28 = .ok (.iaload, 1) := by decide +kernel
theorem dX2_sandInAll_29 : decode cX2_sandInAll 29 = .ok (.iadd, 1) := by decide +kernel
theorem dX2_sandInAll_30 : decode cX2_sandInAll 30 = .ok (.iadd, 1) := by decide +kernel
theorem dX2_sandInAll_31 : decode cX2_sandInAll 31 = .ok (.istore_n 2, 1) := by decide +kernel
theorem dX2_sandInAll_32 : decode cX2_sandInAll 32 = .ok (.iinc 3 1, 3) := by decide +kernel
theorem dX2_sandInAll_35 : decode cX2_sandInAll 35 = .ok (.goto (-31), 3) := by decide +kernel
theorem dX2_sandInAll_38 : decode cX2_sandInAll 38 = .ok (.iload_n 2, 1) := by decide +kernel
theorem dX2_sandInAll_39 : decode cX2_sandInAll 39 = .ok (.ireturn, 1) := by decide +kernel
theorem dX2_bringFromBar_0 : decode cX2_bringFromBar 0 = .ok (.iload_n 2, 1) := by decide +kernel
theorem dX2_bringFromBar_1 : decode cX2_bringFromBar 1 = .ok (.aload_n 0, 1) := by decide +kernel
theorem dX2_bringFromBar_2 : decode cX2_bringFromBar 2 = .ok (.getfield 21, 3) := by decide +kernel
theorem dX2_bringFromBar_5 : decode cX2_bringFromBar 5 = .ok (.iload_n 1, 1) := by decide +kernel
theorem dX2_bringFromBar_6 : decode cX2_bringFromBar 6 = .ok (.iaload, 1) := by decide +kernel
theorem dX2_bringFromBar_7 : decode cX2_bringFromBar 7 = .ok (.invokestatic 45, 3) := by decide +kernel
theorem dX2_bringFromBar_10 : decode cX2_bringFromBar 10 = .ok (.istore 4, 2) := by decide +kernel
theorem dX2_bringFromBar_12 : decode cX2_bringFromBar 12 = .ok (.aload_n 0, 1) := by decide +kernel
theorem dX2_bringFromBar_13 : decode cX2_bringFromBar 13 = .ok (.getfield 21, 3) := by decide +kernel
theorem dX2_bringFromBar_16 : decode cX2_bringFromBar 16 = .ok (.iload_n 1, 1) := by decide +kernel
theorem dX2_bringFromBar_17 : decode cX2_bringFromBar 17 = .ok (.dup2, 1) := by decide +kernel
theorem dX2_bringFromBar_18 : decode cX2_bringFromBar 18 = .ok (.iaload, 1) := by decide +kernel
theorem dX2_bringFromBar_19 : decode cX2_bringFromBar 19 = .ok (.iload 4, 2) := by decide +kernel
theorem dX2_bringFromBar_21 : decode cX2_bringFromBar 21 = .ok (.isub, 1) := by decide +kernel
theorem dX2_bringFromBar_22 : decode cX2_bringFromBar 22 = .ok (.iastore, 1) := by decide +kernel
theorem dX2_bringFromBar_23 : decode cX2_bringFromBar 23 = .ok (.aload_n 0, 1) := by decide +kernel
theorem dX2_bringFromBar_24 : decode cX2_bringFromBar 24 = .ok (.getfield 9, 3) := by decide +kernel
theorem dX2_bringFromBar_27 : decode cX2_bringFromBar 27 = .ok (.iload_n 3, 1) := by decide +kernel
theorem dX2_bringFromBar_28 : decode cX2_bringFromBar 28 = .ok (.aload_n 0, 1) := by decide +kernel
theorem dX2_bringFromBar_29 : decode cX2_bringFromBar 29 = .ok (.getfield 9, 3) := by decide +kernel
theorem dX2_bringFromBar_32 : decode cX2_bringFromBar 32 = .ok (.iload_n 3, 1) := by decide +kernel
theorem dX2_bringFromBar_33 : decode cX2_bringFromBar 33 = .ok (.iaload, 1) := by decide +kernel
theorem dX2_bringFromBar_34 : decode cX2_bringFromBar 34 = .ok (.iload 4, 2) := by decide +kernel
theorem dX2_bringFromBar_36 : decode cX2_bringFromBar 36 = .ok (.iadd, 1) := by decide +kernel
theorem dX2_bringFromBar_37 : decode cX2_bringFromBar 37 = .ok (.ldc 51, 2) := by decide +kernel
theorem dX2_bringFromBar_39 : decode cX2_bringFromBar 39 = .ok (.invokestatic 45, 3) := by decide +kernel
theorem dX2_bringFromBar_42 : decode cX2_bringFromBar 42 = .ok (.iastore, 1) := by decide +kernel
theorem dX2_bringFromBar_43 : decode cX2_bringFromBar 43 = .ok (.iload 4, 2) := by decide +kernel
theorem dX2_bringFromBar_45 : decode cX2_bringFromBar 45 = .ok (.ireturn, 1) := by decide +kernel
set_option maxRecDepth 20000 in
theorem ggX2_goThrough_J7_fill_53178 : GoodIn wsX2_goThrough wsJ7_fill_53178 := goodIn_r _ [7] (by decide +kernel) (by decide +kernel)
set_option maxRecDepth 20000 in
theorem gX2_goThrough_J7_fill_53178 : GoodIn wsX2_goThrough (va_wsS RX2 39 yJ7_fill_53178 wsJ7_fill_53178) := goodIn_app (goodIn_of _ (by decide +kernel)) ggX2_goThrough_J7_fill_53178
set_option maxRecDepth 20000 in
theorem ggX2_goThrough_X2_comeInAtEnd : GoodIn wsX2_goThrough wsX2_comeInAtEnd := goodIn_r _ [12, 13, 14, 2, 3, 1, 73, 74, 75, 76, 77, 78, 79, 80, 67, 68, 69, 70, 71, 72] (by decide +kernel) (by decide +kernel)
set_option maxRecDepth 20000 in
theorem gX2_goThrough_X2_comeInAtEnd : GoodIn wsX2_goThrough (wsV RX2 52 RX2 yX2_comeInAtEnd wsX2_comeInAtEnd) := goodIn_app (goodIn_of _ (by decide +kernel)) ggX2_goThrough_X2_comeInAtEnd
set_option maxRecDepth 20000 in
theorem ggX2_goThrough_X2_passAt : GoodIn wsX2_goThrough wsX2_passAt := goodIn_r _ [18, 13, 19, 20, 21, 22, 23, 24, 25, 26, 2, 1, 27, 28, 29, 11, 30, 31, 32, 33, 34, 35, 36, 37, 38, 39, 40, 41, 42, 43, 44, 45, 46, 47, 48, 73, 74, 75, 76, 77, 78, 79, 80, 67, 68, 69, 70, 71, 72] (by decide +kernel) (by decide +kernel)
set_option maxRecDepth 20000 in
theorem gX2_goThrough_X2_passAt : GoodIn wsX2_goThrough (wsV RX2 60 RX2 yX2_passAt wsX2_passAt) := goodIn_app (goodIn_of _ (by decide +kernel)) ggX2_goThrough_X2_passAt
set_option maxRecDepth 20000 in
theorem ggX2_goThrough_X2_goOutAtEnd : GoodIn wsX2_goThrough wsX2_goOutAtEnd := goodIn_r _ [52, 3, 13, 1, 39, 40, 41, 11, 42, 38, 31, 32, 21, 33, 43, 2, 44, 45, 46, 47, 48, 73, 74, 75, 76, 77, 78, 79, 80, 67, 68, 69, 70, 71, 72] (by decide +kernel) (by decide +kernel)
set_option maxRecDepth 20000 in
theorem gX2_goThrough_X2_goOutAtEnd : GoodIn wsX2_goThrough (wsV RX2 64 RX2 yX2_goOutAtEnd wsX2_goOutAtEnd) := goodIn_app (goodIn_of _ (by decide +kernel)) ggX2_goThrough_X2_goOutAtEnd
set_option maxRecDepth 20000 in
theorem ggX2_goThrough_X2_addChanges : GoodIn wsX2_goThrough wsX2_addChanges := goodIn_r _ [56, 3, 38, 2, 57, 31, 32, 21, 33, 73, 74, 75, 76, 77, 78, 79, 80, 67, 68, 69, 70, 71, 72] (by decide +kernel) (by decide +kernel)
set_option maxRecDepth 20000 in
theorem gX2_goThrough_X2_addChanges : GoodIn wsX2_goThrough (wsV RX2 67 RX2 yX2_addChanges wsX2_addChanges) := goodIn_app (goodIn_of _ (by decide +kernel)) ggX2_goThrough_X2_addChanges
set_option maxRecDepth 20000 in
theorem ggX2_goThrough_X2_takeOutToSea : GoodIn wsX2_goThrough wsX2_takeOutToSea := goodIn_r _ [61, 3, 31, 32, 21, 33, 38, 62, 44, 45, 46, 11, 47, 48, 73, 74, 75, 76, 77, 78, 79, 80, 67, 68, 69, 70, 71, 72] (by decide +kernel) (by decide +kernel)
set_option maxRecDepth 20000 in
theorem gX2_goThrough_X2_takeOutToSea : GoodIn wsX2_goThrough (wsV RX2 71 RX2 yX2_takeOutToSea wsX2_takeOutToSea) := goodIn_app (goodIn_of _ (by decide +kernel)) ggX2_goThrough_X2_takeOutToSea
set_option maxRecDepth 20000 in
theorem ggX2_goThrough_X2_bringBackFromSea : GoodIn wsX2_goThrough wsX2_bringBackFromSea := goodIn_r _ [66, 3, 62, 38, 57, 31, 32, 21, 33, 73, 74, 75, 76, 77, 78, 79, 80, 67, 68, 69, 70, 71, 72] (by decide +kernel) (by decide +kernel)
set_option maxRecDepth 20000 in
theorem gX2_goThrough_X2_bringBackFromSea : GoodIn wsX2_goThrough (wsV RX2 75 RX2 yX2_bringBackFromSea wsX2_bringBackFromSea) := goodIn_app (goodIn_of _ (by decide +kernel)) ggX2_goThrough_X2_bringBackFromSea
theorem dX2_goThrough_0 : decode cX2_goThrough 0 = .ok (.aload_n 0, 1) := by decide +kernel
theorem dX2_goThrough_1 : decode cX2_goThrough 1 = .ok (.getfield 24, 3) := by decide +kernel
theorem dX2_goThrough_4 : decode cX2_goThrough 4 = .ok (.iconst 0, 1) := by decide +kernel
theorem dX2_goThrough_5 : decode cX2_goThrough 5 = .ok (.invokestatic 39, 3) := by decide +kernel
theorem dX2_goThrough_8 : decode cX2_goThrough 8 = .ok (.iload_n 3, 1) := by decide +kernel
theorem dX2_goThrough_9 : decode cX2_goThrough 9 = .ok (.iconst 2, 1) := by decide +kernel
theorem dX2_goThrough_10 : decode cX2_goThrough 10 = .ok (.if_icmp .eq 57, 3) := by decide +kernel
theorem dX2_goThrough_13 : decode cX2_goThrough 13 = .ok (.aload_n 0, 1) := by decide +kernel
theorem dX2_goThrough_14 : decode cX2_goThrough 14 = .ok (.getfield 27, 3) := by decide +kernel
theorem dX2_goThrough_17 : decode cX2_goThrough 17 = .ok (.iconst 0, 1) := by decide +kernel
theorem dX2_goThrough_18 : decode cX2_goThrough 18 = .ok (.invokestatic 39, 3) := by decide +kernel
theorem dX2_goThrough_21 : decode cX2_goThrough 21 = .ok (.aload_n 0, 1) := by decide +kernel
theorem dX2_goThrough_22 : decode cX2_goThrough 22 = .ok (.aload_n 1, 1) := by decide +kernel
theorem dX2_goThrough_23 : decode cX2_goThrough 23 = .ok (.iload_n 2, 1) := by decide +kernel
theorem dX2_goThrough_24 : decode cX2_goThrough 24 = .ok (.iload_n 3, 1) := by decide +kernel
theorem dX2_goThrough_25 : decode cX2_goThrough 25 = .ok (.invokevirtual 52, 3) := by decide +kernel
theorem dX2_goThrough_28 : decode cX2_goThrough 28 = .ok (.iconst 1, 1) := by decide +kernel
theorem dX2_goThrough_29 : decode cX2_goThrough 29 = .ok (.istore 4, 2) := by decide +kernel
theorem dX2_goThrough_31 : decode cX2_goThrough 31 = .ok (.iload 4, 2) := by decide +kernel
theorem dX2_goThrough_33 : decode cX2_goThrough 33 = .ok (.aload_n 1, 1) := by decide +kernel
theorem dX2_goThrough_34 : decode cX2_goThrough 34 = .ok (.getfield 56, 3) := by decide +kernel
theorem dX2_goThrough_37 : decode cX2_goThrough 37 = .ok (.if_icmp .ge 18, 3) := by decide +kernel
theorem dX2_goThrough_40 : decode cX2_goThrough 40 = .ok (.aload_n 0, 1) := by decide +kernel
theorem dX2_goThrough_41 : decode cX2_goThrough 41 = .ok (.aload_n 1, 1) := by decide +kernel
theorem dX2_goThrough_42 : decode cX2_goThrough 42 = .ok (.iload 4, 2) := by decide +kernel
theorem dX2_goThrough_44 : decode cX2_goThrough 44 = .ok (.iload_n 2, 1) := by decide +kernel
theorem dX2_goThrough_45 : decode cX2_goThrough 45 = .ok (.iload_n 3, 1) := by decide +kernel
theorem dX2_goThrough_46 : decode cX2_goThrough 46 = .ok (.invokevirtual 60, 3) := by decide +kernel
theorem dX2_goThrough_49 : decode cX2_goThrough 49 = .ok (.iinc 4 1, 3) := by decide +kernel
theorem dX2_goThrough_52 : decode cX2_goThrough 52 = .ok (.goto (-21), 3) := by decide +kernel
theorem dX2_goThrough_55 : decode cX2_goThrough 55 = .ok (.aload_n 0, 1) := by decide +kernel
theorem dX2_goThrough_56 : decode cX2_goThrough 56 = .ok (.aload_n 1, 1) := by decide +kernel
theorem dX2_goThrough_57 : decode cX2_goThrough 57 = .ok (.iload_n 2, 1) := by decide +kernel
theorem dX2_goThrough_58 : decode cX2_goThrough 58 = .ok (.iload_n 3, 1) := by decide +kernel
theorem dX2_goThrough_59 : decode cX2_goThrough 59 = .ok (.invokevirtual 64, 3) := by decide +kernel
theorem dX2_goThrough_62 : decode cX2_goThrough 62 = .ok (.aload_n 0, 1) := by decide +kernel
theorem dX2_goThrough_63 : decode cX2_goThrough 63 = .ok (.aload_n 1, 1) := by decide +kernel
theorem dX2_goThrough_64 : decode cX2_goThrough 64 = .ok (.invokevirtual 67, 3) := by decide +kernel
theorem dX2_goThrough_67 : decode cX2_goThrough 67 = .ok (.iload_n 2, 1) := by decide +kernel
theorem dX2_goThrough_68 : decode cX2_goThrough 68 = .ok (.bipush 7, 2) := by decide +kernel
theorem dX2_goThrough_70 : decode cX2_goThrough 70 = .ok (.if_icmp .lt 14, 3) := by decide +kernel
theorem dX2_goThrough_73 : decode cX2_goThrough 73 = .ok (.aload_n 0, 1) := by decide +kernel
theorem dX2_goThrough_74 : decode cX2_goThrough 74 = .ok (.aload_n 1, 1) := by decide +kernel
theorem dX2_goThrough_75 : decode cX2_goThrough 75 = .ok (.iconst 3, 1) := by decide +kernel
theorem dX2_goThrough_76 : decode cX2_goThrough 76 = .ok (.iload_n 2, 1) := by decide +kernel
theorem dX2_goThrough_77 : decode cX2_goThrough 77 = .ok (.imul, 1) := by decide +kernel
theorem dX2_goThrough_78 : decode cX2_goThrough 78 = .ok (.invokevirtual 71, 3) := by decide +kernel
theorem dX2_goThrough_81 : decode cX2_goThrough 81 = .ok (.goto 13, 3) := by decide +kernel
theorem dX2_goThrough_84 : decode cX2_goThrough 84 = .ok (.iload_n 2, 1) := by decide +kernel
theorem dX2_goThrough_85 : decode cX2_goThrough 85 = .ok (.iconst 2, 1) := by decide +kernel
theorem dX2_goThrough_86 : decode cX2_goThrough 86 = .ok (.if_icmp .gt 8, 3) := by decide +kernel
theorem dX2_goThrough_89 : decode cX2_goThrough 89 = .ok (.aload_n 0, 1) := by decide +kernel
theorem dX2_goThrough_90 : decode cX2_goThrough 90 = .ok (.aload_n 1, 1) := by decide +kernel
theorem dX2_goThrough_91 : decode cX2_goThrough 91 = .ok (.invokevirtual 75, 3) := by decide +kernel
theorem dX2_goThrough_94 : decode cX2_goThrough 94 = .ok (.return_, 1) := by decide +kernel
theorem dX2_comeInAtEnd_0 : decode cX2_comeInAtEnd 0 = .ok (.iload_n 3, 1) := by decide +kernel
theorem dX2_comeInAtEnd_1 : decode cX2_comeInAtEnd 1 = .ok (.ifCond .ne 7, 3) := by decide +kernel
theorem dX2_comeInAtEnd_4 : decode cX2_comeInAtEnd 4 = .ok (.iconst 1, 1) := by decide +kernel
theorem dX2_comeInAtEnd_5 : decode cX2_comeInAtEnd 5 = .ok (.goto 4, 3) := by decide +kernel
theorem dX2_comeInAtEnd_8 : decode cX2_comeInAtEnd 8 = .ok (.iconst 0, 1) := by decide +kernel
theorem dX2_comeInAtEnd_9 : decode cX2_comeInAtEnd 9 = .ok (.istore 4, 2) := by decide +kernel
theorem dX2_comeInAtEnd_11 : decode cX2_comeInAtEnd 11 = .ok (.aload_n 1, 1) := by decide +kernel
theorem dX2_comeInAtEnd_12 : decode cX2_comeInAtEnd 12 = .ok (.getfield 78, 3) := by decide +kernel
theorem dX2_comeInAtEnd_15 : decode cX2_comeInAtEnd 15 = .ok (.iload_n 2, 1) := by decide +kernel
theorem dX2_comeInAtEnd_16 : decode cX2_comeInAtEnd 16 = .ok (.imul, 1) := by decide +kernel
theorem dX2_comeInAtEnd_17 : decode cX2_comeInAtEnd 17 = .ok (.aload_n 1, 1) := by decide +kernel
theorem dX2_comeInAtEnd_18 : decode cX2_comeInAtEnd 18 = .ok (.getfield 81, 3) := by decide +kernel
theorem dX2_comeInAtEnd_21 : decode cX2_comeInAtEnd 21 = .ok (.iload 4, 2) := by decide +kernel
theorem dX2_comeInAtEnd_23 : decode cX2_comeInAtEnd 23 = .ok (.ifCond .eq 7, 3) := by decide +kernel
theorem dX2_comeInAtEnd_26 : decode cX2_comeInAtEnd 26 = .ok (.iconst 0, 1) := by decide +kernel
theorem dX2_comeInAtEnd_27 : decode cX2_comeInAtEnd 27 = .ok (.goto 4, 3) := by decide +kernel
theorem dX2_comeInAtEnd_30 : decode cX2_comeInAtEnd 30 = .ok (.iconst 1, 1) := by decide +kernel
theorem dX2_comeInAtEnd_31 : decode cX2_comeInAtEnd 31 = .ok (.iaload, 1) := by decide +kernel
theorem dX2_comeInAtEnd_32 : decode cX2_comeInAtEnd 32 = .ok (.imul, 1) := by decide +kernel
theorem dX2_comeInAtEnd_33 : decode cX2_comeInAtEnd 33 = .ok (.bipush 100, 2) := by decide +kernel
theorem dX2_comeInAtEnd_35 : decode cX2_comeInAtEnd 35 = .ok (.idiv, 1) := by decide +kernel
theorem dX2_comeInAtEnd_36 : decode cX2_comeInAtEnd 36 = .ok (.istore 5, 2) := by decide +kernel
theorem dX2_comeInAtEnd_38 : decode cX2_comeInAtEnd 38 = .ok (.aload_n 0, 1) := by decide +kernel
theorem dX2_comeInAtEnd_39 : decode cX2_comeInAtEnd 39 = .ok (.getfield 27, 3) := by decide +kernel
theorem dX2_comeInAtEnd_42 : decode cX2_comeInAtEnd 42 = .ok (.iload 4, 2) := by decide +kernel
theorem dX2_comeInAtEnd_44 : decode cX2_comeInAtEnd 44 = .ok (.ifCond .eq 7, 3) := by decide +kernel
theorem dX2_comeInAtEnd_47 : decode cX2_comeInAtEnd 47 = .ok (.iconst 0, 1) := by decide +kernel
theorem dX2_comeInAtEnd_48 : decode cX2_comeInAtEnd 48 = .ok (.goto 9, 3) := by decide +kernel
theorem dX2_comeInAtEnd_51 : decode cX2_comeInAtEnd 51 = .ok (.aload_n 1, 1) := by decide +kernel
theorem dX2_comeInAtEnd_52 : decode cX2_comeInAtEnd 52 = .ok (.getfield 56, 3) := by decide +kernel
theorem dX2_comeInAtEnd_55 : decode cX2_comeInAtEnd 55 = .ok (.iconst 1, 1) := by decide +kernel
theorem dX2_comeInAtEnd_56 : decode cX2_comeInAtEnd 56 = .ok (.isub, 1) := by decide +kernel
theorem dX2_comeInAtEnd_57 : decode cX2_comeInAtEnd 57 = .ok (.dup2, 1) := by decide +kernel
theorem dX2_comeInAtEnd_58 : decode cX2_comeInAtEnd 58 = .ok (.iaload, 1) := by decide +kernel
theorem dX2_comeInAtEnd_59 : decode cX2_comeInAtEnd 59 = .ok (.iload 5, 2) := by decide +kernel
theorem dX2_comeInAtEnd_61 : decode cX2_comeInAtEnd 61 = .ok (.iadd, 1) := by decide +kernel
theorem dX2_comeInAtEnd_62 : decode cX2_comeInAtEnd 62 = .ok (.iastore, 1) := by decide +kernel
theorem dX2_comeInAtEnd_63 : decode cX2_comeInAtEnd 63 = .ok (.aload_n 0, 1) := by decide +kernel
theorem dX2_comeInAtEnd_64 : decode cX2_comeInAtEnd 64 = .ok (.getfield 24, 3) := by decide +kernel
theorem dX2_comeInAtEnd_67 : decode cX2_comeInAtEnd 67 = .ok (.iload 4, 2) := by decide +kernel
theorem dX2_comeInAtEnd_69 : decode cX2_comeInAtEnd 69 = .ok (.ifCond .eq 7, 3) := by decide +kernel
theorem dX2_comeInAtEnd_72 : decode cX2_comeInAtEnd 72 = .ok (.iconst 0, 1) := by decide +kernel
theorem dX2_comeInAtEnd_73 : decode cX2_comeInAtEnd 73 = .ok (.goto 7, 3) := by decide +kernel
theorem dX2_comeInAtEnd_76 : decode cX2_comeInAtEnd 76 = .ok (.aload_n 1, 1) := by decide +kernel
theorem dX2_comeInAtEnd_77 : decode cX2_comeInAtEnd 77 = .ok (.getfield 56, 3) := by decide +kernel
theorem dX2_comeInAtEnd_80 : decode cX2_comeInAtEnd 80 = .ok (.iload 4, 2) := by decide +kernel
theorem dX2_comeInAtEnd_82 : decode cX2_comeInAtEnd 82 = .ok (.ifCond .eq 8, 3) := by decide +kernel
theorem dX2_comeInAtEnd_85 : decode cX2_comeInAtEnd 85 = .ok (.iload 5, 2) := by decide +kernel
theorem dX2_comeInAtEnd_87 : decode cX2_comeInAtEnd 87 = .ok (.goto 6, 3) := by decide +kernel
theorem dX2_comeInAtEnd_90 : decode cX2_comeInAtEnd 90 = .ok (.iload 5, 2) := by decide +kernel
theorem dX2_comeInAtEnd_92 : decode cX2_comeInAtEnd 92 = .ok (.ineg, 1) := by decide +kernel
theorem dX2_comeInAtEnd_93 : decode cX2_comeInAtEnd 93 = .ok (.iastore, 1) := by decide +kernel
theorem dX2_comeInAtEnd_94 : decode cX2_comeInAtEnd 94 = .ok (.return_, 1) := by decide +kernel
set_option maxRecDepth 20000 in
theorem ggX2_goOutAtEnd_X2_takeFrom : GoodIn wsX2_goOutAtEnd wsX2_takeFrom := goodIn_r _ [8, 9, 10, 11, 12, 13, 14, 15, 16, 17, 18, 7, 19, 20, 29, 30, 31, 32, 33, 34, 21, 22, 23, 24, 25, 26, 27, 28] (by decide +kernel) (by decide +kernel)
set_option maxRecDepth 20000 in
theorem gX2_goOutAtEnd_X2_takeFrom : GoodIn wsX2_goOutAtEnd (wsV RX2 84 RX2 yX2_takeFrom wsX2_takeFrom) := goodIn_app (goodIn_of _ (by decide +kernel)) ggX2_goOutAtEnd_X2_takeFrom
theorem dX2_goOutAtEnd_0 : decode cX2_goOutAtEnd 0 = .ok (.iload_n 3, 1) := by decide +kernel
theorem dX2_goOutAtEnd_1 : decode cX2_goOutAtEnd 1 = .ok (.ifCond .ne 7, 3) := by decide +kernel
theorem dX2_goOutAtEnd_4 : decode cX2_goOutAtEnd 4 = .ok (.iconst 1, 1) := by decide +kernel
theorem dX2_goOutAtEnd_5 : decode cX2_goOutAtEnd 5 = .ok (.goto 4, 3) := by decide +kernel
theorem dX2_goOutAtEnd_8 : decode cX2_goOutAtEnd 8 = .ok (.iconst 0, 1) := by decide +kernel
theorem dX2_goOutAtEnd_9 : decode cX2_goOutAtEnd 9 = .ok (.istore 4, 2) := by decide +kernel
theorem dX2_goOutAtEnd_11 : decode cX2_goOutAtEnd 11 = .ok (.aload_n 0, 1) := by decide +kernel
theorem dX2_goOutAtEnd_12 : decode cX2_goOutAtEnd 12 = .ok (.aload_n 1, 1) := by decide +kernel
theorem dX2_goOutAtEnd_13 : decode cX2_goOutAtEnd 13 = .ok (.iload 4, 2) := by decide +kernel
theorem dX2_goOutAtEnd_15 : decode cX2_goOutAtEnd 15 = .ok (.ifCond .eq 12, 3) := by decide +kernel
theorem dX2_goOutAtEnd_18 : decode cX2_goOutAtEnd 18 = .ok (.aload_n 1, 1) := by decide +kernel
theorem dX2_goOutAtEnd_19 : decode cX2_goOutAtEnd 19 = .ok (.getfield 56, 3) := by decide +kernel
theorem dX2_goOutAtEnd_22 : decode cX2_goOutAtEnd 22 = .ok (.iconst 1, 1) := by decide +kernel
theorem dX2_goOutAtEnd_23 : decode cX2_goOutAtEnd 23 = .ok (.isub, 1) := by decide +kernel
theorem dX2_goOutAtEnd_24 : decode cX2_goOutAtEnd 24 = .ok (.goto 4, 3) := by decide +kernel
theorem dX2_goOutAtEnd_27 : decode cX2_goOutAtEnd 27 = .ok (.iconst 0, 1) := by decide +kernel
theorem dX2_goOutAtEnd_28 : decode cX2_goOutAtEnd 28 = .ok (.aload_n 1, 1) := by decide +kernel
theorem dX2_goOutAtEnd_29 : decode cX2_goOutAtEnd 29 = .ok (.getfield 78, 3) := by decide +kernel
theorem dX2_goOutAtEnd_32 : decode cX2_goOutAtEnd 32 = .ok (.iload_n 2, 1) := by decide +kernel
theorem dX2_goOutAtEnd_33 : decode cX2_goOutAtEnd 33 = .ok (.imul, 1) := by decide +kernel
theorem dX2_goOutAtEnd_34 : decode cX2_goOutAtEnd 34 = .ok (.invokevirtual 84, 3) := by decide +kernel
theorem dX2_goOutAtEnd_37 : decode cX2_goOutAtEnd 37 = .ok (.istore 5, 2) := by decide +kernel
theorem dX2_goOutAtEnd_39 : decode cX2_goOutAtEnd 39 = .ok (.aload_n 0, 1) := by decide +kernel
theorem dX2_goOutAtEnd_40 : decode cX2_goOutAtEnd 40 = .ok (.getfield 24, 3) := by decide +kernel
theorem dX2_goOutAtEnd_43 : decode cX2_goOutAtEnd 43 = .ok (.iload 4, 2) := by decide +kernel
theorem dX2_goOutAtEnd_45 : decode cX2_goOutAtEnd 45 = .ok (.ifCond .eq 10, 3) := by decide +kernel
theorem dX2_goOutAtEnd_48 : decode cX2_goOutAtEnd 48 = .ok (.aload_n 1, 1) := by decide +kernel
theorem dX2_goOutAtEnd_49 : decode cX2_goOutAtEnd 49 = .ok (.getfield 56, 3) := by decide +kernel
theorem dX2_goOutAtEnd_52 : decode cX2_goOutAtEnd 52 = .ok (.goto 4, 3) := by decide +kernel
theorem dX2_goOutAtEnd_55 : decode cX2_goOutAtEnd 55 = .ok (.iconst 0, 1) := by decide +kernel
theorem dX2_goOutAtEnd_56 : decode cX2_goOutAtEnd 56 = .ok (.iload 4, 2) := by decide +kernel
theorem dX2_goOutAtEnd_58 : decode cX2_goOutAtEnd 58 = .ok (.ifCond .eq 8, 3) := by decide +kernel
theorem dX2_goOutAtEnd_61 : decode cX2_goOutAtEnd 61 = .ok (.iload 5, 2) := by decide +kernel
theorem dX2_goOutAtEnd_63 : decode cX2_goOutAtEnd 63 = .ok (.goto 6, 3) := by decide +kernel
theorem dX2_goOutAtEnd_66 : decode cX2_goOutAtEnd 66 = .ok (.iload 5, 2) := by decide +kernel
theorem dX2_goOutAtEnd_68 : decode cX2_goOutAtEnd 68 = .ok (.ineg, 1) := by decide +kernel
theorem dX2_goOutAtEnd_69 : decode cX2_goOutAtEnd 69 = .ok (.iastore, 1) := by decide +kernel
theorem dX2_goOutAtEnd_70 : decode cX2_goOutAtEnd 70 = .ok (.return_, 1) := by decide +kernel
set_option maxRecDepth 20000 in
theorem ggX2_passAt_X2_slope : GoodIn wsX2_passAt wsX2_slope := goodIn_r _ [16, 17, 18, 4, 19, 2, 3, 5, 20, 21, 22, 15, 23, 24, 43, 44, 45, 46, 47, 48] (by decide +kernel) (by decide +kernel)
set_option maxRecDepth 20000 in
theorem gX2_passAt_X2_slope : GoodIn wsX2_passAt (wsV RX2 88 RX2 yX2_slope wsX2_slope) := goodIn_app (goodIn_of _ (by decide +kernel)) ggX2_passAt_X2_slope
set_option maxRecDepth 20000 in
theorem ggX2_passAt_X2_lineOf : GoodIn wsX2_passAt wsX2_lineOf := goodIn_r _ [23, 24, 43, 44, 45, 46, 47, 48] (by decide +kernel) (by decide +kernel)
set_option maxRecDepth 20000 in
theorem gX2_passAt_X2_lineOf : GoodIn wsX2_passAt (wsV RX2 97 RX2 yX2_lineOf wsX2_lineOf) := goodIn_app (goodIn_of _ (by decide +kernel)) ggX2_passAt_X2_lineOf
set_option maxRecDepth 20000 in
theorem ggX2_passAt_X2_takeFrom : GoodIn wsX2_passAt wsX2_takeFrom := goodIn_r _ [28, 24, 17, 18, 4, 19, 29, 10, 30, 31, 32, 15, 33, 34, 43, 44, 45, 46, 47, 48, 35, 36, 37, 38, 39, 40, 41, 42] (by decide +kernel) (by decide +kernel)
set_option maxRecDepth 20000 in
theorem gX2_passAt_X2_takeFrom : GoodIn wsX2_passAt (wsV RX2 84 RX2 yX2_takeFrom wsX2_takeFrom) := goodIn_app (goodIn_of _ (by decide +kernel)) ggX2_passAt_X2_takeFrom
theorem dX2_passAt_0 : decode cX2_passAt 0 = .ok (.iload 4, 2) := by decide +kernel
theorem dX2_passAt_2 : decode cX2_passAt 2 = .ok (.ifCond .ne 7, 3) := by decide +kernel
theorem dX2_passAt_5 : decode cX2_passAt 5 = .ok (.iconst 1, 1) := by decide +kernel
theorem dX2_passAt_6 : decode cX2_passAt 6 = .ok (.goto 4, 3) := by decide +kernel
theorem dX2_passAt_9 : decode cX2_passAt 9 = .ok (.iconst 0, 1) := by decide +kernel
theorem dX2_passAt_10 : decode cX2_passAt 10 = .ok (.istore 5, 2) := by decide +kernel
theorem dX2_passAt_12 : decode cX2_passAt 12 = .ok (.iload 5, 2) := by decide +kernel
theorem dX2_passAt_14 : decode cX2_passAt 14 = .ok (.ifCond .eq 9, 3) := by decide +kernel
theorem dX2_passAt_17 : decode cX2_passAt 17 = .ok (.iload_n 2, 1) := by decide +kernel
theorem dX2_passAt_18 : decode cX2_passAt 18 = .ok (.iconst 1, 1) := by decide +kernel
theorem dX2_passAt_19 : decode cX2_passAt 19 = .ok (.isub, 1) := by decide +kernel
theorem dX2_passAt_20 : decode cX2_passAt 20 = .ok (.goto 4, 3) := by decide +kernel
theorem dX2_passAt_23 : decode cX2_passAt 23 = .ok (.iload_n 2, 1) := by decide +kernel
theorem dX2_passAt_24 : decode cX2_passAt 24 = .ok (.istore 6, 2) := by decide +kernel
theorem dX2_passAt_26 : decode cX2_passAt 26 = .ok (.iload 5, 2) := by decide +kernel
theorem dX2_passAt_28 : decode cX2_passAt 28 = .ok (.ifCond .eq 7, 3) := by decide +kernel
theorem dX2_passAt_31 : decode cX2_passAt 31 = .ok (.iload_n 2, 1) := by decide +kernel
theorem dX2_passAt_32 : decode cX2_passAt 32 = .ok (.goto 6, 3) := by decide +kernel
theorem dX2_passAt_35 : decode cX2_passAt 35 = .ok (.iload_n 2, 1) := by decide +kernel
theorem dX2_passAt_36 : decode cX2_passAt 36 = .ok (.iconst 1, 1) := by decide +kernel
theorem dX2_passAt_37 : decode cX2_passAt 37 = .ok (.isub, 1) := by decide +kernel
theorem dX2_passAt_38 : decode cX2_passAt 38 = .ok (.istore 7, 2) := by decide +kernel
theorem dX2_passAt_40 : decode cX2_passAt 40 = .ok (.aload_n 1, 1) := by decide +kernel
theorem dX2_passAt_41 : decode cX2_passAt 41 = .ok (.getfield 78, 3) := by decide +kernel
theorem dX2_passAt_44 : decode cX2_passAt 44 = .ok (.iload_n 3, 1) := by decide +kernel
theorem dX2_passAt_45 : decode cX2_passAt 45 = .ok (.imul, 1) := by decide +kernel
theorem dX2_passAt_46 : decode cX2_passAt 46 = .ok (.iload_n 3, 1) := by decide +kernel
theorem dX2_passAt_47 : decode cX2_passAt 47 = .ok (.aload_n 0, 1) := by decide +kernel
theorem dX2_passAt_48 : decode cX2_passAt 48 = .ok (.iload 6, 2) := by decide +kernel
theorem dX2_passAt_50 : decode cX2_passAt 50 = .ok (.iload 7, 2) := by decide +kernel
theorem dX2_passAt_52 : decode cX2_passAt 52 = .ok (.invokevirtual 88, 3) := by decide +kernel
theorem dX2_passAt_55 : decode cX2_passAt 55 = .ok (.imul, 1) := by decide +kernel
theorem dX2_passAt_56 : decode cX2_passAt 56 = .ok (.iconst 3, 1) := by decide +kernel
theorem dX2_passAt_57 : decode cX2_passAt 57 = .ok (.idiv, 1) := by decide +kernel
theorem dX2_passAt_58 : decode cX2_passAt 58 = .ok (.iadd, 1) := by decide +kernel
theorem dX2_passAt_59 : decode cX2_passAt 59 = .ok (.istore 8, 2) := by decide +kernel
theorem dX2_passAt_61 : decode cX2_passAt 61 = .ok (.iload 8, 2) := by decide +kernel
theorem dX2_passAt_63 : decode cX2_passAt 63 = .ok (.iconst 0, 1) := by decide +kernel
theorem dX2_passAt_64 : decode cX2_passAt 64 = .ok (.invokestatic 91, 3) := by decide +kernel
theorem dX2_passAt_67 : decode cX2_passAt 67 = .ok (.istore 8, 2) := by decide +kernel
theorem dX2_passAt_69 : decode cX2_passAt 69 = .ok (.aload_n 1, 1) := by decide +kernel
theorem dX2_passAt_70 : decode cX2_passAt 70 = .ok (.getfield 94, 3) := by decide +kernel
theorem dX2_passAt_73 : decode cX2_passAt 73 = .ok (.iload_n 2, 1) := by decide +kernel
theorem dX2_passAt_74 : decode cX2_passAt 74 = .ok (.iaload, 1) := by decide +kernel
theorem dX2_passAt_75 : decode cX2_passAt 75 = .ok (.iconst 1, 1) := by decide +kernel
theorem dX2_passAt_76 : decode cX2_passAt 76 = .ok (.if_icmp .ne 32, 3) := by decide +kernel
theorem dX2_passAt_79 : decode cX2_passAt 79 = .ok (.aload_n 0, 1) := by decide +kernel
theorem dX2_passAt_80 : decode cX2_passAt 80 = .ok (.iload 6, 2) := by decide +kernel
theorem dX2_passAt_82 : decode cX2_passAt 82 = .ok (.invokevirtual 97, 3) := by decide +kernel
theorem dX2_passAt_85 : decode cX2_passAt 85 = .ok (.aload_n 1, 1) := by decide +kernel
theorem dX2_passAt_86 : decode cX2_passAt 86 = .ok (.getfield 101, 3) := by decide +kernel
theorem dX2_passAt_89 : decode cX2_passAt 89 = .ok (.iload_n 2, 1) := by decide +kernel
theorem dX2_passAt_90 : decode cX2_passAt 90 = .ok (.iaload, 1) := by decide +kernel
theorem dX2_passAt_91 : decode cX2_passAt 91 = .ok (.if_icmp .ge 17, 3) := by decide +kernel
theorem dX2_passAt_94 : decode cX2_passAt 94 = .ok (.iload 8, 2) := by decide +kernel
theorem dX2_passAt_96 : decode cX2_passAt 96 = .ok (.aload_n 1, 1) := by decide +kernel
theorem dX2_passAt_97 : decode cX2_passAt 97 = .ok (.getfield 104, 3) := by decide +kernel
theorem dX2_passAt_100 : decode cX2_passAt 100 = .ok (.iload_n 2, 1) := by decide +kernel
theorem dX2_passAt_101 : decode cX2_passAt 101 = .ok (.iaload, 1) := by decide +kernel
theorem dX2_passAt_102 : decode cX2_passAt 102 = .ok (.imul, 1) := by decide +kernel
theorem dX2_passAt_103 : decode cX2_passAt 103 = .ok (.bipush 100, 2) := by decide +kernel
theorem dX2_passAt_105 : decode cX2_passAt 105 = .ok (.idiv, 1) := by decide +kernel
theorem dX2_passAt_106 : decode cX2_passAt 106 = .ok (.istore 8, 2) := by decide +kernel
theorem dX2_passAt_108 : decode cX2_passAt 108 = .ok (.aload_n 0, 1) := by decide +kernel
theorem dX2_passAt_109 : decode cX2_passAt 109 = .ok (.aload_n 1, 1) := by decide +kernel
theorem dX2_passAt_110 : decode cX2_passAt 110 = .ok (.iload 6, 2) := by decide +kernel
theorem dX2_passAt_112 : decode cX2_passAt 112 = .ok (.iload 8, 2) := by decide +kernel
theorem dX2_passAt_114 : decode cX2_passAt 114 = .ok (.invokevirtual 84, 3) := by decide +kernel
theorem dX2_passAt_117 : decode cX2_passAt 117 = .ok (.istore 9, 2) := by decide +kernel
theorem dX2_passAt_119 : decode cX2_passAt 119 = .ok (.aload_n 1, 1) := by decide +kernel
theorem dX2_passAt_120 : decode cX2_passAt 120 = .ok (.getfield 94, 3) := by decide +kernel
theorem dX2_passAt_123 : decode cX2_passAt 123 = .ok (.iload_n 2, 1) := by decide +kernel
theorem dX2_passAt_124 : decode cX2_passAt 124 = .ok (.iaload, 1) := by decide +kernel
theorem dX2_passAt_125 : decode cX2_passAt 125 = .ok (.iconst 2, 1) := by decide +kernel
theorem dX2_passAt_126 : decode cX2_passAt 126 = .ok (.if_icmp .ne 18, 3) := by decide +kernel
theorem dX2_passAt_129 : decode cX2_passAt 129 = .ok (.iload 9, 2) := by decide +kernel
theorem dX2_passAt_131 : decode cX2_passAt 131 = .ok (.aload_n 1, 1) := by decide +kernel
theorem dX2_passAt_132 : decode cX2_passAt 132 = .ok (.getfield 101, 3) := by decide +kernel
theorem dX2_passAt_135 : decode cX2_passAt 135 = .ok (.iload_n 2, 1) := by decide +kernel
theorem dX2_passAt_136 : decode cX2_passAt 136 = .ok (.iaload, 1) := by decide +kernel
theorem dX2_passAt_137 : decode cX2_passAt 137 = .ok (.imul, 1) := by decide +kernel
theorem dX2_passAt_138 : decode cX2_passAt 138 = .ok (.bipush 100, 2) := by decide +kernel
theorem dX2_passAt_140 : decode cX2_passAt 140 = .ok (.idiv, 1) := by decide +kernel
theorem dX2_passAt_141 : decode cX2_passAt 141 = .ok (.goto 4, 3) := by decide +kernel
theorem dX2_passAt_144 : decode cX2_passAt 144 = .ok (.iconst 0, 1) := by decide +kernel
theorem dX2_passAt_145 : decode cX2_passAt 145 = .ok (.istore 10, 2) := by decide +kernel
theorem dX2_passAt_147 : decode cX2_passAt 147 = .ok (.aload_n 0, 1) := by decide +kernel
theorem dX2_passAt_148 : decode cX2_passAt 148 = .ok (.getfield 21, 3) := by decide +kernel
theorem dX2_passAt_151 : decode cX2_passAt 151 = .ok (.iload_n 2, 1) := by decide +kernel
theorem dX2_passAt_152 : decode cX2_passAt 152 = .ok (.dup2, 1) := by decide +kernel
theorem dX2_passAt_153 : decode cX2_passAt 153 = .ok (.iaload, 1) := by decide +kernel
theorem dX2_passAt_154 : decode cX2_passAt 154 = .ok (.iload 10, 2) := by decide +kernel
theorem dX2_passAt_156 : decode cX2_passAt 156 = .ok (.iadd, 1) := by decide +kernel
theorem dX2_passAt_157 : decode cX2_passAt 157 = .ok (.iastore, 1) := by decide +kernel
theorem dX2_passAt_158 : decode cX2_passAt 158 = .ok (.aload_n 0, 1) := by decide +kernel
theorem dX2_passAt_159 : decode cX2_passAt 159 = .ok (.getfield 27, 3) := by decide +kernel
theorem dX2_passAt_162 : decode cX2_passAt 162 = .ok (.iload 7, 2) := by decide +kernel
theorem dX2_passAt_164 : decode cX2_passAt 164 = .ok (.dup2, 1) := by decide +kernel
theorem dX2_passAt_165 : decode cX2_passAt 165 = .ok (.iaload, 1) := by decide +kernel
theorem dX2_passAt_166 : decode cX2_passAt 166 = .ok (.iload 9, 2) := by decide +kernel
theorem dX2_passAt_168 : decode cX2_passAt 168 = .ok (.iload 10, 2) := by decide +kernel
theorem dX2_passAt_170 : decode cX2_passAt 170 = .ok (.isub, 1) := by decide +kernel
theorem dX2_passAt_171 : decode cX2_passAt 171 = .ok (.iadd, 1) := by decide +kernel
theorem dX2_passAt_172 : decode cX2_passAt 172 = .ok (.iastore, 1) := by decide +kernel
theorem dX2_passAt_173 : decode cX2_passAt 173 = .ok (.aload_n 0, 1) := by decide +kernel
theorem dX2_passAt_174 : decode cX2_passAt 174 = .ok (.getfield 24, 3) := by decide +kernel
theorem dX2_passAt_177 : decode cX2_passAt 177 = .ok (.iload_n 2, 1) := by decide +kernel
theorem dX2_passAt_178 : decode cX2_passAt 178 = .ok (.iload 5, 2) := by decide +kernel
theorem dX2_passAt_180 : decode cX2_passAt 180 = .ok (.ifCond .eq 8, 3) := by decide +kernel
theorem dX2_passAt_183 : decode cX2_passAt 183 = .ok (.iload 9, 2) := by decide +kernel
theorem dX2_passAt_185 : decode cX2_passAt 185 = .ok (.goto 6, 3) := by decide +kernel
theorem dX2_passAt_188 : decode cX2_passAt 188 = .ok (.iload 9, 2) := by decide +kernel
theorem dX2_passAt_190 : decode cX2_passAt 190 = .ok (.ineg, 1) := by decide +kernel
theorem dX2_passAt_191 : decode cX2_passAt 191 = .ok (.iastore, 1) := by decide +kernel
theorem dX2_passAt_192 : decode cX2_passAt 192 = .ok (.return_, 1) := by decide +kernel
set_option maxRecDepth 20000 in
theorem ggX2_slope_X2_lineOf : GoodIn wsX2_slope wsX2_lineOf := goodIn_r _ [12, 13, 14, 15, 16, 17, 18, 19] (by decide +kernel) (by decide +kernel)
set_option maxRecDepth 20000 in
theorem gX2_slope_X2_lineOf : GoodIn wsX2_slope (wsV RX2 97 RX2 yX2_lineOf wsX2_lineOf) := goodIn_app (goodIn_of _ (by decide +kernel)) ggX2_slope_X2_lineOf
theorem dX2_slope_0 : decode cX2_slope 0 = .ok (.aload_n 0, 1) := by decide +kernel
theorem dX2_slope_1 : decode cX2_slope 1 = .ok (.iload_n 1, 1) := by decide +kernel
theorem dX2_slope_2 : decode cX2_slope 2 = .ok (.invokevirtual 97, 3) := by decide +kernel
theorem dX2_slope_5 : decode cX2_slope 5 = .ok (.aload_n 0, 1) := by decide +kernel
theorem dX2_slope_6 : decode cX2_slope 6 = .ok (.iload_n 2, 1) := by decide +kernel
theorem dX2_slope_7 : decode cX2_slope 7 = .ok (.invokevirtual 97, 3) := by decide +kernel
theorem dX2_slope_10 : decode cX2_slope 10 = .ok (.isub, 1) := by decide +kernel
theorem dX2_slope_11 : decode cX2_slope 11 = .ok (.istore_n 3, 1) := by decide +kernel
theorem dX2_slope_12 : decode cX2_slope 12 = .ok (.bipush (-9), 2) := by decide +kernel
theorem dX2_slope_14 : decode cX2_slope 14 = .ok (.iload_n 3, 1) := by decide +kernel
theorem dX2_slope_15 : decode cX2_slope 15 = .ok (.bipush 9, 2) := by decide +kernel
theorem dX2_slope_17 : decode cX2_slope 17 = .ok (.invokestatic 45, 3) := by decide +kernel
theorem dX2_slope_20 : decode cX2_slope 20 = .ok (.invokestatic 91, 3) := by decide +kernel
theorem dX2_slope_23 : decode cX2_slope 23 = .ok (.ireturn, 1) := by decide +kernel
set_option maxRecDepth 20000 in
theorem ggX2_takeFrom_X2_freeSandOf : GoodIn wsX2_takeFrom wsX2_freeSandOf := goodIn_r _ [12, 1, 13, 14, 15, 16, 17, 18, 19, 20, 21, 22, 23, 24, 25, 26, 27] (by decide +kernel) (by decide +kernel)
set_option maxRecDepth 20000 in
theorem gX2_takeFrom_X2_freeSandOf : GoodIn wsX2_takeFrom (wsV RX2 107 RX2 yX2_freeSandOf wsX2_freeSandOf) := goodIn_app (goodIn_of _ (by decide +kernel)) ggX2_takeFrom_X2_freeSandOf
theorem dX2_takeFrom_0 : decode cX2_takeFrom 0 = .ok (.iload_n 3, 1) := by decide +kernel
theorem dX2_takeFrom_1 : decode cX2_takeFrom 1 = .ok (.aload_n 0, 1) := by decide +kernel
theorem dX2_takeFrom_2 : decode cX2_takeFrom 2 = .ok (.getfield 9, 3) := by decide +kernel
theorem dX2_takeFrom_5 : decode cX2_takeFrom 5 = .ok (.iload_n 2, 1) := by decide +kernel
theorem dX2_takeFrom_6 : decode cX2_takeFrom 6 = .ok (.iaload, 1) := by decide +kernel
theorem dX2_takeFrom_7 : decode cX2_takeFrom 7 = .ok (.invokestatic 45, 3) := by decide +kernel
theorem dX2_takeFrom_10 : decode cX2_takeFrom 10 = .ok (.istore 4, 2) := by decide +kernel
theorem dX2_takeFrom_12 : decode cX2_takeFrom 12 = .ok (.iload 4, 2) := by decide +kernel
theorem dX2_takeFrom_14 : decode cX2_takeFrom 14 = .ok (.aload_n 0, 1) := by decide +kernel
theorem dX2_takeFrom_15 : decode cX2_takeFrom 15 = .ok (.aload_n 1, 1) := by decide +kernel
theorem dX2_takeFrom_16 : decode cX2_takeFrom 16 = .ok (.iload_n 2, 1) := by decide +kernel
theorem dX2_takeFrom_17 : decode cX2_takeFrom 17 = .ok (.invokevirtual 107, 3) := by decide +kernel
theorem dX2_takeFrom_20 : decode cX2_takeFrom 20 = .ok (.invokestatic 45, 3) := by decide +kernel
theorem dX2_takeFrom_23 : decode cX2_takeFrom 23 = .ok (.istore 5, 2) := by decide +kernel
theorem dX2_takeFrom_25 : decode cX2_takeFrom 25 = .ok (.aload_n 0, 1) := by decide +kernel
theorem dX2_takeFrom_26 : decode cX2_takeFrom 26 = .ok (.getfield 18, 3) := by decide +kernel
theorem dX2_takeFrom_29 : decode cX2_takeFrom 29 = .ok (.iload_n 2, 1) := by decide +kernel
theorem dX2_takeFrom_30 : decode cX2_takeFrom 30 = .ok (.dup2, 1) := by decide +kernel
theorem dX2_takeFrom_31 : decode cX2_takeFrom 31 = .ok (.iaload, 1) := by decide +kernel
theorem dX2_takeFrom_32 : decode cX2_takeFrom 32 = .ok (.iload 4, 2) := by decide +kernel
theorem dX2_takeFrom_34 : decode cX2_takeFrom 34 = .ok (.iload 5, 2) := by decide +kernel
theorem dX2_takeFrom_36 : decode cX2_takeFrom 36 = .ok (.isub, 1) := by decide +kernel
theorem dX2_takeFrom_37 : decode cX2_takeFrom 37 = .ok (.iadd, 1) := by decide +kernel
theorem dX2_takeFrom_38 : decode cX2_takeFrom 38 = .ok (.iastore, 1) := by decide +kernel
theorem dX2_takeFrom_39 : decode cX2_takeFrom 39 = .ok (.aload_n 0, 1) := by decide +kernel
theorem dX2_takeFrom_40 : decode cX2_takeFrom 40 = .ok (.getfield 27, 3) := by decide +kernel
theorem dX2_takeFrom_43 : decode cX2_takeFrom 43 = .ok (.iload_n 2, 1) := by decide +kernel
theorem dX2_takeFrom_44 : decode cX2_takeFrom 44 = .ok (.dup2, 1) := by decide +kernel
theorem dX2_takeFrom_45 : decode cX2_takeFrom 45 = .ok (.iaload, 1) := by decide +kernel
theorem dX2_takeFrom_46 : decode cX2_takeFrom 46 = .ok (.iload 5, 2) := by decide +kernel
theorem dX2_takeFrom_48 : decode cX2_takeFrom 48 = .ok (.isub, 1) := by decide +kernel
theorem dX2_takeFrom_49 : decode cX2_takeFrom 49 = .ok (.iastore, 1) := by decide +kernel
theorem dX2_takeFrom_50 : decode cX2_takeFrom 50 = .ok (.iload 5, 2) := by decide +kernel
theorem dX2_takeFrom_52 : decode cX2_takeFrom 52 = .ok (.ireturn, 1) := by decide +kernel
theorem dX2_freeSandOf_0 : decode cX2_freeSandOf 0 = .ok (.aload_n 0, 1) := by decide +kernel
theorem dX2_freeSandOf_1 : decode cX2_freeSandOf 1 = .ok (.getfield 9, 3) := by decide +kernel
theorem dX2_freeSandOf_4 : decode cX2_freeSandOf 4 = .ok (.iload_n 2, 1) := by decide +kernel
theorem dX2_freeSandOf_5 : decode cX2_freeSandOf 5 = .ok (.iaload, 1) := by decide +kernel
theorem dX2_freeSandOf_6 : decode cX2_freeSandOf 6 = .ok (.bipush 10, 2) := by decide +kernel
theorem dX2_freeSandOf_8 : decode cX2_freeSandOf 8 = .ok (.aload_n 1, 1) := by decide +kernel
theorem dX2_freeSandOf_9 : decode cX2_freeSandOf 9 = .ok (.getfield 111, 3) := by decide +kernel
theorem dX2_freeSandOf_12 : decode cX2_freeSandOf 12 = .ok (.iload_n 2, 1) := by decide +kernel
theorem dX2_freeSandOf_13 : decode cX2_freeSandOf 13 = .ok (.iaload, 1) := by decide +kernel
theorem dX2_freeSandOf_14 : decode cX2_freeSandOf 14 = .ok (.imul, 1) := by decide +kernel
theorem dX2_freeSandOf_15 : decode cX2_freeSandOf 15 = .ok (.isub, 1) := by decide +kernel
theorem dX2_freeSandOf_16 : decode cX2_freeSandOf 16 = .ok (.istore_n 3, 1) := by decide +kernel
theorem dX2_freeSandOf_17 : decode cX2_freeSandOf 17 = .ok (.iload_n 3, 1) := by decide +kernel
theorem dX2_freeSandOf_18 : decode cX2_freeSandOf 18 = .ok (.ifCond .le 7, 3) := by decide +kernel
theorem dX2_freeSandOf_21 : decode cX2_freeSandOf 21 = .ok (.iload_n 3, 1) := by decide +kernel
theorem dX2_freeSandOf_22 : decode cX2_freeSandOf 22 = .ok (.goto 4, 3) := by decide +kernel
theorem dX2_freeSandOf_25 : decode cX2_freeSandOf 25 = .ok (.iconst 0, 1) := by decide +kernel
theorem dX2_freeSandOf_26 : decode cX2_freeSandOf 26 = .ok (.ireturn, 1) := by decide +kernel
theorem dX2_addChanges_0 : decode cX2_addChanges 0 = .ok (.iconst 0, 1) := by decide +kernel
theorem dX2_addChanges_1 : decode cX2_addChanges 1 = .ok (.istore_n 2, 1) := by decide +kernel
theorem dX2_addChanges_2 : decode cX2_addChanges 2 = .ok (.iload_n 2, 1) := by decide +kernel
theorem dX2_addChanges_3 : decode cX2_addChanges 3 = .ok (.aload_n 1, 1) := by decide +kernel
theorem dX2_addChanges_4 : decode cX2_addChanges 4 = .ok (.getfield 56, 3) := by decide +kernel
theorem dX2_addChanges_7 : decode cX2_addChanges 7 = .ok (.if_icmp .ge 33, 3) := by decide +kernel
theorem dX2_addChanges_10 : decode cX2_addChanges 10 = .ok (.aload_n 0, 1) := by decide +kernel
theorem dX2_addChanges_11 : decode cX2_addChanges 11 = .ok (.getfield 9, 3) := by decide +kernel
theorem dX2_addChanges_14 : decode cX2_addChanges 14 = .ok (.iload_n 2, 1) := by decide +kernel
theorem dX2_addChanges_15 : decode cX2_addChanges 15 = .ok (.aload_n 0, 1) := by decide +kernel
theorem dX2_addChanges_16 : decode cX2_addChanges 16 = .ok (.getfield 9, 3) := by decide +kernel
theorem dX2_addChanges_19 : decode cX2_addChanges 19 = .ok (.iload_n 2, 1) := by decide +kernel
theorem dX2_addChanges_20 : decode cX2_addChanges 20 = .ok (.iaload, 1) := by decide +kernel
theorem dX2_addChanges_21 : decode cX2_addChanges 21 = .ok (.aload_n 0, 1) := by decide +kernel
theorem dX2_addChanges_22 : decode cX2_addChanges 22 = .ok (.getfield 27, 3) := by decide +kernel
theorem dX2_addChanges_25 : decode cX2_addChanges 25 = .ok (.iload_n 2, 1) := by decide +kernel
theorem dX2_addChanges_26 : decode cX2_addChanges 26 = .ok (.iaload, 1) := by decide +kernel
theorem dX2_addChanges_27 : decode cX2_addChanges 27 = .ok (.iadd, 1) := by decide +kernel
theorem dX2_addChanges_28 : decode cX2_addChanges 28 = .ok (.ldc 51, 2) := by decide +kernel
theorem dX2_addChanges_30 : decode cX2_addChanges 30 = .ok (.invokestatic 45, 3) := by decide +kernel
theorem dX2_addChanges_33 : decode cX2_addChanges 33 = .ok (.iastore, 1) := by decide +kernel
theorem dX2_addChanges_34 : decode cX2_addChanges 34 = .ok (.iinc 2 1, 3) := by decide +kernel
theorem dX2_addChanges_37 : decode cX2_addChanges 37 = .ok (.goto (-35), 3) := by decide +kernel
theorem dX2_addChanges_40 : decode cX2_addChanges 40 = .ok (.return_, 1) := by decide +kernel
set_option maxRecDepth 20000 in
theorem ggX2_takeOutToSea_X2_freeSandOf : GoodIn wsX2_takeOutToSea wsX2_freeSandOf := goodIn_r _ [12, 6, 13, 22, 23, 24, 25, 26, 27, 14, 15, 16, 17, 18, 19, 20, 21] (by decide +kernel) (by decide +kernel)
set_option maxRecDepth 20000 in
theorem gX2_takeOutToSea_X2_freeSandOf : GoodIn wsX2_takeOutToSea (wsV RX2 107 RX2 yX2_freeSandOf wsX2_freeSandOf) := goodIn_app (goodIn_of _ (by decide +kernel)) ggX2_takeOutToSea_X2_freeSandOf
theorem dX2_takeOutToSea_0 : decode cX2_takeOutToSea 0 = .ok (.iconst 0, 1) := by decide +kernel
theorem dX2_takeOutToSea_1 : decode cX2_takeOutToSea 1 = .ok (.istore_n 3, 1) := by decide +kernel
theorem dX2_takeOutToSea_2 : decode cX2_takeOutToSea 2 = .ok (.iload_n 3, 1) := by decide +kernel
theorem dX2_takeOutToSea_3 : decode cX2_takeOutToSea 3 = .ok (.aload_n 1, 1) := by decide +kernel
theorem dX2_takeOutToSea_4 : decode cX2_takeOutToSea 4 = .ok (.getfield 56, 3) := by decide +kernel
theorem dX2_takeOutToSea_7 : decode cX2_takeOutToSea 7 = .ok (.if_icmp .ge 43, 3) := by decide +kernel
theorem dX2_takeOutToSea_10 : decode cX2_takeOutToSea 10 = .ok (.iload_n 2, 1) := by decide +kernel
theorem dX2_takeOutToSea_11 : decode cX2_takeOutToSea 11 = .ok (.aload_n 0, 1) := by decide +kernel
theorem dX2_takeOutToSea_12 : decode cX2_takeOutToSea 12 = .ok (.aload_n 1, 1) := by decide +kernel
theorem dX2_takeOutToSea_13 : decode cX2_takeOutToSea 13 = .ok (.iload_n 3, 1) := by decide +kernel
theorem dX2_takeOutToSea_14 : decode cX2_takeOutToSea 14 = .ok (.invokevirtual 107, 3) := by decide +kernel
theorem dX2_takeOutToSea_17 : decode cX2_takeOutToSea 17 = .ok (.invokestatic 45, 3) := by decide +kernel
theorem dX2_takeOutToSea_20 : decode cX2_takeOutToSea 20 = .ok (.istore 4, 2) := by decide +kernel
theorem dX2_takeOutToSea_22 : decode cX2_takeOutToSea 22 = .ok (.aload_n 0, 1) := by decide +kernel
theorem dX2_takeOutToSea_23 : decode cX2_takeOutToSea 23 = .ok (.getfield 9, 3) := by decide +kernel
theorem dX2_takeOutToSea_26 : decode cX2_takeOutToSea 26 = .ok (.iload_n 3, 1) := by decide +kernel
theorem dX2_takeOutToSea_27 : decode cX2_takeOutToSea 27 = .ok (.dup2, 1) := by decide +kernel
theorem dX2_takeOutToSea_28 : decode cX2_takeOutToSea 28 = .ok (.iaload, 1) := by decide +kernel
theorem dX2_takeOutToSea_29 : decode cX2_takeOutToSea 29 = .ok (.iload 4, 2) := by decide +kernel
theorem dX2_takeOutToSea_31 : decode cX2_takeOutToSea 31 = .ok (.isub, 1) := by decide +kernel
theorem dX2_takeOutToSea_32 : decode cX2_takeOutToSea 32 = .ok (.iastore, 1) := by decide +kernel
theorem dX2_takeOutToSea_33 : decode cX2_takeOutToSea 33 = .ok (.aload_n 0, 1) := by decide +kernel
theorem dX2_takeOutToSea_34 : decode cX2_takeOutToSea 34 = .ok (.getfield 15, 3) := by decide +kernel
theorem dX2_takeOutToSea_37 : decode cX2_takeOutToSea 37 = .ok (.iload_n 3, 1) := by decide +kernel
theorem dX2_takeOutToSea_38 : decode cX2_takeOutToSea 38 = .ok (.dup2, 1) := by decide +kernel
theorem dX2_takeOutToSea_39 : decode cX2_takeOutToSea 39 = .ok (.iaload, 1) := by decide +kernel
theorem dX2_takeOutToSea_40 : decode cX2_takeOutToSea 40 = .ok (.iload 4, 2) := by decide +kernel
theorem dX2_takeOutToSea_42 : decode cX2_takeOutToSea 42 = .ok (.iadd, 1) := by decide +kernel
theorem dX2_takeOutToSea_43 : decode cX2_takeOutToSea 43 = .ok (.iastore, 1) := by decide +kernel
theorem dX2_takeOutToSea_44 : decode cX2_takeOutToSea 44 = .ok (.iinc 3 1, 3) := by decide +kernel
theorem dX2_takeOutToSea_47 : decode cX2_takeOutToSea 47 = .ok (.goto (-45), 3) := by decide +kernel
theorem dX2_takeOutToSea_50 : decode cX2_takeOutToSea 50 = .ok (.return_, 1) := by decide +kernel
theorem dX2_bringBackFromSea_0 : decode cX2_bringBackFromSea 0 = .ok (.iconst 0, 1) := by decide +kernel
theorem dX2_bringBackFromSea_1 : decode cX2_bringBackFromSea 1 = .ok (.istore_n 2, 1) := by decide +kernel
theorem dX2_bringBackFromSea_2 : decode cX2_bringBackFromSea 2 = .ok (.iload_n 2, 1) := by decide +kernel
theorem dX2_bringBackFromSea_3 : decode cX2_bringBackFromSea 3 = .ok (.aload_n 1, 1) := by decide +kernel
theorem dX2_bringBackFromSea_4 : decode cX2_bringBackFromSea 4 = .ok (.getfield 56, 3) := by decide +kernel
theorem dX2_bringBackFromSea_7 : decode cX2_bringBackFromSea 7 = .ok (.if_icmp .ge 49, 3) := by decide +kernel
theorem dX2_bringBackFromSea_10 : decode cX2_bringBackFromSea 10 = .ok (.aload_n 0, 1) := by decide +kernel
theorem dX2_bringBackFromSea_11 : decode cX2_bringBackFromSea 11 = .ok (.getfield 15, 3) := by decide +kernel
theorem dX2_bringBackFromSea_14 : decode cX2_bringBackFromSea 14 = .ok (.iload_n 2, 1) := by decide +kernel
theorem dX2_bringBackFromSea_15 : decode cX2_bringBackFromSea 15 = .ok (.iaload, 1) := by decide +kernel
theorem dX2_bringBackFromSea_16 : decode cX2_bringBackFromSea 16 = .ok (.iconst 3, 1) := by decide +kernel
theorem dX2_bringBackFromSea_17 : decode cX2_bringBackFromSea 17 = .ok (.iadd, 1) := by decide +kernel
theorem dX2_bringBackFromSea_18 : decode cX2_bringBackFromSea 18 = .ok (.iconst 4, 1) := by decide +kernel
theorem dX2_bringBackFromSea_19 : decode cX2_bringBackFromSea 19 = .ok (.idiv, 1) := by decide +kernel
theorem dX2_bringBackFromSea_20 : decode cX2_bringBackFromSea 20 = .ok (.istore_n 3, 1) := by decide +kernel
theorem dX2_bringBackFromSea_21 : decode cX2_bringBackFromSea 21 = .ok (.aload_n 0, 1) := by decide +kernel
theorem dX2_bringBackFromSea_22 : decode cX2_bringBackFromSea 22 = .ok (.getfield 15, 3) := by decide +kernel
theorem dX2_bringBackFromSea_25 : decode cX2_bringBackFromSea 25 = .ok (.iload_n 2, 1) := by decide +kernel
theorem dX2_bringBackFromSea_26 : decode cX2_bringBackFromSea 26 = .ok (.dup2, 1) := by decide +kernel
theorem dX2_bringBackFromSea_27 : decode cX2_bringBackFromSea 27 = .ok (.iaload, 1) := by decide +kernel
theorem dX2_bringBackFromSea_28 : decode cX2_bringBackFromSea 28 = .ok (.iload_n 3, 1) := by decide +kernel
theorem dX2_bringBackFromSea_29 : decode cX2_bringBackFromSea 29 = .ok (.isub, 1) := by decide +kernel
theorem dX2_bringBackFromSea_30 : decode cX2_bringBackFromSea 30 = .ok (.iastore, 1) := by decide +kernel
theorem dX2_bringBackFromSea_31 : decode cX2_bringBackFromSea 31 = .ok (.aload_n 0, 1) := by decide +kernel
theorem dX2_bringBackFromSea_32 : decode cX2_bringBackFromSea 32 = .ok (.getfield 9, 3) := by decide +kernel
theorem dX2_bringBackFromSea_35 : decode cX2_bringBackFromSea 35 = .ok (.iload_n 2, 1) := by decide +kernel
theorem dX2_bringBackFromSea_36 : decode cX2_bringBackFromSea 36 = .ok (.aload_n 0, 1) := by decide +kernel
theorem dX2_bringBackFromSea_37 : decode cX2_bringBackFromSea 37 = .ok (.getfield 9, 3) := by decide +kernel
theorem dX2_bringBackFromSea_40 : decode cX2_bringBackFromSea 40 = .ok (.iload_n 2, 1) := by decide +kernel
theorem dX2_bringBackFromSea_41 : decode cX2_bringBackFromSea 41 = .ok (.iaload, 1) := by decide +kernel
theorem dX2_bringBackFromSea_42 : decode cX2_bringBackFromSea 42 = .ok (.iload_n 3, 1) := by decide +kernel
theorem dX2_bringBackFromSea_43 : decode cX2_bringBackFromSea 43 = .ok (.iadd, 1) := by decide +kernel
theorem dX2_bringBackFromSea_44 : decode cX2_bringBackFromSea 44 = .ok (.ldc 51, 2) := by decide +kernel
theorem dX2_bringBackFromSea_46 : decode cX2_bringBackFromSea 46 = .ok (.invokestatic 45, 3) := by decide +kernel
theorem dX2_bringBackFromSea_49 : decode cX2_bringBackFromSea 49 = .ok (.iastore, 1) := by decide +kernel
theorem dX2_bringBackFromSea_50 : decode cX2_bringBackFromSea 50 = .ok (.iinc 2 1, 3) := by decide +kernel
theorem dX2_bringBackFromSea_53 : decode cX2_bringBackFromSea 53 = .ok (.goto (-51), 3) := by decide +kernel
theorem dX2_bringBackFromSea_56 : decode cX2_bringBackFromSea 56 = .ok (.return_, 1) := by decide +kernel
theorem dX3_init_0 : decode cX3_init 0 = .ok (.aload_n 0, 1) := by decide +kernel
theorem dX3_init_1 : decode cX3_init 1 = .ok (.invokespecial 3, 3) := by decide +kernel
theorem dX3_init_4 : decode cX3_init 4 = .ok (.aload_n 0, 1) := by decide +kernel
theorem dX3_init_5 : decode cX3_init 5 = .ok (.iconst 0, 1) := by decide +kernel
theorem dX3_init_6 : decode cX3_init 6 = .ok (.putfield 9, 3) := by decide +kernel
theorem dX3_init_9 : decode cX3_init 9 = .ok (.aload_n 0, 1) := by decide +kernel
theorem dX3_init_10 : decode cX3_init 10 = .ok (.bipush 20, 2) := by decide +kernel
theorem dX3_init_12 : decode cX3_init 12 = .ok (.newarray .int, 2) := by decide +kernel
theorem dX3_init_14 : decode cX3_init 14 = .ok (.putfield 15, 3) := by decide +kernel
theorem dX3_init_17 : decode cX3_init 17 = .ok (.aload_n 0, 1) := by decide +kernel
theorem dX3_init_18 : decode cX3_init 18 = .ok (.bipush 20, 2) := by decide +kernel
theorem dX3_init_20 : decode cX3_init 20 = .ok (.newarray .int, 2) := by decide +kernel
theorem dX3_init_22 : decode cX3_init 22 = .ok (.putfield 19, 3) := by decide +kernel
theorem dX3_init_25 : decode cX3_init 25 = .ok (.aload_n 0, 1) := by decide +kernel
theorem dX3_init_26 : decode cX3_init 26 = .ok (.bipush 20, 2) := by decide +kernel
theorem dX3_init_28 : decode cX3_init 28 = .ok (.newarray .int, 2) := by decide +kernel
theorem dX3_init_30 : decode cX3_init 30 = .ok (.putfield 22, 3) := by decide +kernel
theorem dX3_init_33 : decode cX3_init 33 = .ok (.aload_n 0, 1) := by decide +kernel
theorem dX3_init_34 : decode cX3_init 34 = .ok (.bipush 20, 2) := by decide +kernel
theorem dX3_init_36 : decode cX3_init 36 = .ok (.newarray .int, 2) := by decide +kernel
theorem dX3_init_38 : decode cX3_init 38 = .ok (.putfield 25, 3) := by decide +kernel
theorem dX3_init_41 : decode cX3_init 41 = .ok (.return_, 1) := by decide +kernel
theorem dX3_add_0 : decode cX3_add 0 = .ok (.aload_n 0, 1) := by decide +kernel
theorem dX3_add_1 : decode cX3_add 1 = .ok (.getfield 9, 3) := by decide +kernel
theorem dX3_add_4 : decode cX3_add 4 = .ok (.bipush 20, 2) := by decide +kernel
theorem dX3_add_6 : decode cX3_add 6 = .ok (.if_icmp .ge 54, 3) := by decide +kernel
theorem dX3_add_9 : decode cX3_add 9 = .ok (.aload_n 0, 1) := by decide +kernel
theorem dX3_add_10 : decode cX3_add 10 = .ok (.getfield 15, 3) := by decide +kernel
theorem dX3_add_13 : decode cX3_add 13 = .ok (.aload_n 0, 1) := by decide +kernel
theorem dX3_add_14 : decode cX3_add 14 = .ok (.getfield 9, 3) := by decide +kernel
theorem dX3_add_17 : decode cX3_add 17 = .ok (.iload_n 1, 1) := by decide +kernel
theorem dX3_add_18 : decode cX3_add 18 = .ok (.iastore, 1) := by decide +kernel
theorem dX3_add_19 : decode cX3_add 19 = .ok (.aload_n 0, 1) := by decide +kernel
theorem dX3_add_20 : decode cX3_add 20 = .ok (.getfield 19, 3) := by decide +kernel
theorem dX3_add_23 : decode cX3_add 23 = .ok (.aload_n 0, 1) := by decide +kernel
theorem dX3_add_24 : decode cX3_add 24 = .ok (.getfield 9, 3) := by decide +kernel
theorem dX3_add_27 : decode cX3_add 27 = .ok (.iload_n 2, 1) := by decide +kernel
theorem dX3_add_28 : decode cX3_add 28 = .ok (.iastore, 1) := by decide +kernel
theorem dX3_add_29 : decode cX3_add 29 = .ok (.aload_n 0, 1) := by decide +kernel
theorem dX3_add_30 : decode cX3_add 30 = .ok (.getfield 22, 3) := by decide +kernel
theorem dX3_add_33 : decode cX3_add 33 = .ok (.aload_n 0, 1) := by decide +kernel
theorem dX3_add_34 : decode cX3_add 34 = .ok (.getfield 9, 3) := by decide +kernel
theorem dX3_add_37 : decode cX3_add 37 = .ok (.iload_n 3, 1) := by decide +kernel
theorem dX3_add_38 : decode cX3_add 38 = .ok (.iastore, 1) := by decide +kernel
theorem dX3_add_39 : decode cX3_add 39 = .ok (.aload_n 0, 1) := by decide +kernel
theorem dX3_add_40 : decode cX3_add 40 = .ok (.getfield 25, 3) := by decide +kernel
theorem dX3_add_43 : decode cX3_add 43 = .ok (.aload_n 0, 1) := by decide +kernel
theorem dX3_add_44 : decode cX3_add 44 = .ok (.getfield 9, 3) := by decide +kernel
theorem dX3_add_47 : decode cX3_add 47 = .ok (.iload 4, 2) := by decide +kernel
theorem dX3_add_49 : decode cX3_add 49 = .ok (.iastore, 1) := by decide +kernel
theorem dX3_add_50 : decode cX3_add 50 = .ok (.aload_n 0, 1) := by decide +kernel
theorem dX3_add_51 : decode cX3_add 51 = .ok (.dup, 1) := by decide +kernel
theorem dX3_add_52 : decode cX3_add 52 = .ok (.getfield 9, 3) := by decide +kernel
theorem dX3_add_55 : decode cX3_add 55 = .ok (.iconst 1, 1) := by decide +kernel
theorem dX3_add_56 : decode cX3_add 56 = .ok (.iadd, 1) := by decide +kernel
theorem dX3_add_57 : decode cX3_add 57 = .ok (.putfield 9, 3) := by decide +kernel
theorem dX3_add_60 : decode cX3_add 60 = .ok (.return_, 1) := by decide +kernel
set_option maxRecDepth 20000 in
theorem ggX3_agreeBehind_X2_lineOf : GoodIn wsX3_agreeBehind wsX2_lineOf := goodIn_r _ [10, 11, 17, 18, 19, 20, 21, 22] (by decide +kernel) (by decide +kernel)
set_option maxRecDepth 20000 in
theorem gX3_agreeBehind_X2_lineOf : GoodIn wsX3_agreeBehind (wsV RX3 28 RX2 yX2_lineOf wsX2_lineOf) := goodIn_app (goodIn_of _ (by decide +kernel)) ggX3_agreeBehind_X2_lineOf
theorem dX3_agreeBehind_0 : decode cX3_agreeBehind 0 = .ok (.iconst 0, 1) := by decide +kernel
theorem dX3_agreeBehind_1 : decode cX3_agreeBehind 1 = .ok (.istore_n 3, 1) := by decide +kernel
theorem dX3_agreeBehind_2 : decode cX3_agreeBehind 2 = .ok (.iload_n 3, 1) := by decide +kernel
theorem dX3_agreeBehind_3 : decode cX3_agreeBehind 3 = .ok (.aload_n 0, 1) := by decide +kernel
theorem dX3_agreeBehind_4 : decode cX3_agreeBehind 4 = .ok (.getfield 9, 3) := by decide +kernel
theorem dX3_agreeBehind_7 : decode cX3_agreeBehind 7 = .ok (.if_icmp .ge 55, 3) := by decide +kernel
theorem dX3_agreeBehind_10 : decode cX3_agreeBehind 10 = .ok (.aload_n 0, 1) := by decide +kernel
theorem dX3_agreeBehind_11 : decode cX3_agreeBehind 11 = .ok (.getfield 19, 3) := by decide +kernel
theorem dX3_agreeBehind_14 : decode cX3_agreeBehind 14 = .ok (.iload_n 3, 1) := by decide +kernel
theorem dX3_agreeBehind_15 : decode cX3_agreeBehind 15 = .ok (.iaload, 1) := by decide +kernel
theorem dX3_agreeBehind_16 : decode cX3_agreeBehind 16 = .ok (.iload_n 1, 1) := by decide +kernel
theorem dX3_agreeBehind_17 : decode cX3_agreeBehind 17 = .ok (.if_icmp .ne 39, 3) := by decide +kernel
theorem dX3_agreeBehind_20 : decode cX3_agreeBehind 20 = .ok (.aload_n 2, 1) := by decide +kernel
theorem dX3_agreeBehind_21 : decode cX3_agreeBehind 21 = .ok (.aload_n 0, 1) := by decide +kernel
theorem dX3_agreeBehind_22 : decode cX3_agreeBehind 22 = .ok (.getfield 15, 3) := by decide +kernel
theorem dX3_agreeBehind_25 : decode cX3_agreeBehind 25 = .ok (.iload_n 3, 1) := by decide +kernel
theorem dX3_agreeBehind_26 : decode cX3_agreeBehind 26 = .ok (.iaload, 1) := by decide +kernel
theorem dX3_agreeBehind_27 : decode cX3_agreeBehind 27 = .ok (.invokevirtual 28, 3) := by decide +kernel
theorem dX3_agreeBehind_30 : decode cX3_agreeBehind 30 = .ok (.istore 4, 2) := by decide +kernel
theorem dX3_agreeBehind_32 : decode cX3_agreeBehind 32 = .ok (.iload 4, 2) := by decide +kernel
theorem dX3_agreeBehind_34 : decode cX3_agreeBehind 34 = .ok (.aload_n 0, 1) := by decide +kernel
theorem dX3_agreeBehind_35 : decode cX3_agreeBehind 35 = .ok (.getfield 22, 3) := by decide +kernel
theorem dX3_agreeBehind_38 : decode cX3_agreeBehind 38 = .ok (.iload_n 3, 1) := by decide +kernel
theorem dX3_agreeBehind_39 : decode cX3_agreeBehind 39 = .ok (.iaload, 1) := by decide +kernel
theorem dX3_agreeBehind_40 : decode cX3_agreeBehind 40 = .ok (.if_icmp .lt 14, 3) := by decide +kernel
theorem dX3_agreeBehind_43 : decode cX3_agreeBehind 43 = .ok (.iload 4, 2) := by decide +kernel
theorem dX3_agreeBehind_45 : decode cX3_agreeBehind 45 = .ok (.aload_n 0, 1) := by decide +kernel
theorem dX3_agreeBehind_46 : decode cX3_agreeBehind 46 = .ok (.getfield 25, 3) := by decide +kernel
theorem dX3_agreeBehind_49 : decode cX3_agreeBehind 49 = .ok (.iload_n 3, 1) := by decide +kernel
theorem dX3_agreeBehind_50 : decode cX3_agreeBehind 50 = .ok (.iaload, 1) := by decide +kernel
theorem dX3_agreeBehind_51 : decode cX3_agreeBehind 51 = .ok (.if_icmp .le 5, 3) := by decide +kernel
theorem dX3_agreeBehind_54 : decode cX3_agreeBehind 54 = .ok (.iconst 0, 1) := by decide +kernel
theorem dX3_agreeBehind_55 : decode cX3_agreeBehind 55 = .ok (.ireturn, 1) := by decide +kernel
theorem dX3_agreeBehind_56 : decode cX3_agreeBehind 56 = .ok (.iinc 3 1, 3) := by decide +kernel
theorem dX3_agreeBehind_59 : decode cX3_agreeBehind 59 = .ok (.goto (-57), 3) := by decide +kernel
theorem dX3_agreeBehind_62 : decode cX3_agreeBehind 62 = .ok (.iconst 1, 1) := by decide +kernel
theorem dX3_agreeBehind_63 : decode cX3_agreeBehind 63 = .ok (.ireturn, 1) := by decide +kernel
theorem dX4_init_0 : decode cX4_init 0 = .ok (.aload_n 0, 1) := by decide +kernel
theorem dX4_init_1 : decode cX4_init 1 = .ok (.invokespecial 3, 3) := by decide +kernel
theorem dX4_init_4 : decode cX4_init 4 = .ok (.aload_n 0, 1) := by decide +kernel
theorem dX4_init_5 : decode cX4_init 5 = .ok (.iconst 0, 1) := by decide +kernel
theorem dX4_init_6 : decode cX4_init 6 = .ok (.putfield 9, 3) := by decide +kernel
theorem dX4_init_9 : decode cX4_init 9 = .ok (.aload_n 0, 1) := by decide +kernel
theorem dX4_init_10 : decode cX4_init 10 = .ok (.bipush 120, 2) := by decide +kernel
theorem dX4_init_12 : decode cX4_init 12 = .ok (.newarray .int, 2) := by decide +kernel
theorem dX4_init_14 : decode cX4_init 14 = .ok (.putfield 15, 3) := by decide +kernel
theorem dX4_init_17 : decode cX4_init 17 = .ok (.aload_n 0, 1) := by decide +kernel
theorem dX4_init_18 : decode cX4_init 18 = .ok (.bipush 120, 2) := by decide +kernel
theorem dX4_init_20 : decode cX4_init 20 = .ok (.newarray .int, 2) := by decide +kernel
theorem dX4_init_22 : decode cX4_init 22 = .ok (.putfield 19, 3) := by decide +kernel
theorem dX4_init_25 : decode cX4_init 25 = .ok (.return_, 1) := by decide +kernel
theorem dX4_add_0 : decode cX4_add 0 = .ok (.aload_n 0, 1) := by decide +kernel
theorem dX4_add_1 : decode cX4_add 1 = .ok (.getfield 9, 3) := by decide +kernel
theorem dX4_add_4 : decode cX4_add 4 = .ok (.bipush 120, 2) := by decide +kernel
theorem dX4_add_6 : decode cX4_add 6 = .ok (.if_icmp .ge 33, 3) := by decide +kernel
theorem dX4_add_9 : decode cX4_add 9 = .ok (.aload_n 0, 1) := by decide +kernel
theorem dX4_add_10 : decode cX4_add 10 = .ok (.getfield 15, 3) := by decide +kernel
theorem dX4_add_13 : decode cX4_add 13 = .ok (.aload_n 0, 1) := by decide +kernel
theorem dX4_add_14 : decode cX4_add 14 = .ok (.getfield 9, 3) := by decide +kernel
theorem dX4_add_17 : decode cX4_add 17 = .ok (.iload_n 1, 1) := by decide +kernel
theorem dX4_add_18 : decode cX4_add 18 = .ok (.iastore, 1) := by decide +kernel
theorem dX4_add_19 : decode cX4_add 19 = .ok (.aload_n 0, 1) := by decide +kernel
theorem dX4_add_20 : decode cX4_add 20 = .ok (.getfield 19, 3) := by decide +kernel
theorem dX4_add_23 : decode cX4_add 23 = .ok (.aload_n 0, 1) := by decide +kernel
theorem dX4_add_24 : decode cX4_add 24 = .ok (.getfield 9, 3) := by decide +kernel
theorem dX4_add_27 : decode cX4_add 27 = .ok (.iload_n 2, 1) := by decide +kernel
theorem dX4_add_28 : decode cX4_add 28 = .ok (.iastore, 1) := by decide +kernel
theorem dX4_add_29 : decode cX4_add 29 = .ok (.aload_n 0, 1) := by decide +kernel
theorem dX4_add_30 : decode cX4_add 30 = .ok (.dup, 1) := by decide +kernel
theorem dX4_add_31 : decode cX4_add 31 = .ok (.getfield 9, 3) := by decide +kernel
theorem dX4_add_34 : decode cX4_add 34 = .ok (.iconst 1, 1) := by decide +kernel
theorem dX4_add_35 : decode cX4_add 35 = .ok (.iadd, 1) := by decide +kernel
theorem dX4_add_36 : decode cX4_add 36 = .ok (.putfield 9, 3) := by decide +kernel
theorem dX4_add_39 : decode cX4_add 39 = .ok (.return_, 1) := by decide +kernel
theorem dX5_init_0 : decode cX5_init 0 = .ok (.aload_n 0, 1) := by decide +kernel
theorem dX5_init_1 : decode cX5_init 1 = .ok (.invokespecial 3, 3) := by decide +kernel
theorem dX5_init_4 : decode cX5_init 4 = .ok (.aload_n 0, 1) := by decide +kernel
theorem dX5_init_5 : decode cX5_init 5 = .ok (.iconst 0, 1) := by decide +kernel
theorem dX5_init_6 : decode cX5_init 6 = .ok (.putfield 9, 3) := by decide +kernel
theorem dX5_init_9 : decode cX5_init 9 = .ok (.aload_n 0, 1) := by decide +kernel
theorem dX5_init_10 : decode cX5_init 10 = .ok (.bipush 6, 2) := by decide +kernel
theorem dX5_init_12 : decode cX5_init 12 = .ok (.newarray .int, 2) := by decide +kernel
theorem dX5_init_14 : decode cX5_init 14 = .ok (.putfield 15, 3) := by decide +kernel
theorem dX5_init_17 : decode cX5_init 17 = .ok (.aload_n 0, 1) := by decide +kernel
theorem dX5_init_18 : decode cX5_init 18 = .ok (.bipush 6, 2) := by decide +kernel
theorem dX5_init_20 : decode cX5_init 20 = .ok (.newarray .int, 2) := by decide +kernel
theorem dX5_init_22 : decode cX5_init 22 = .ok (.putfield 19, 3) := by decide +kernel
theorem dX5_init_25 : decode cX5_init 25 = .ok (.aload_n 0, 1) := by decide +kernel
theorem dX5_init_26 : decode cX5_init 26 = .ok (.bipush 6, 2) := by decide +kernel
theorem dX5_init_28 : decode cX5_init 28 = .ok (.newarray .int, 2) := by decide +kernel
theorem dX5_init_30 : decode cX5_init 30 = .ok (.putfield 22, 3) := by decide +kernel
theorem dX5_init_33 : decode cX5_init 33 = .ok (.aload_n 0, 1) := by decide +kernel
theorem dX5_init_34 : decode cX5_init 34 = .ok (.bipush 6, 2) := by decide +kernel
theorem dX5_init_36 : decode cX5_init 36 = .ok (.newarray .int, 2) := by decide +kernel
theorem dX5_init_38 : decode cX5_init 38 = .ok (.putfield 25, 3) := by decide +kernel
theorem dX5_init_41 : decode cX5_init 41 = .ok (.return_, 1) := by decide +kernel
theorem dX5_add_0 : decode cX5_add 0 = .ok (.aload_n 0, 1) := by decide +kernel
theorem dX5_add_1 : decode cX5_add 1 = .ok (.getfield 9, 3) := by decide +kernel
theorem dX5_add_4 : decode cX5_add 4 = .ok (.bipush 6, 2) := by decide +kernel
theorem dX5_add_6 : decode cX5_add 6 = .ok (.if_icmp .ge 54, 3) := by decide +kernel
theorem dX5_add_9 : decode cX5_add 9 = .ok (.aload_n 0, 1) := by decide +kernel
theorem dX5_add_10 : decode cX5_add 10 = .ok (.getfield 15, 3) := by decide +kernel
theorem dX5_add_13 : decode cX5_add 13 = .ok (.aload_n 0, 1) := by decide +kernel
theorem dX5_add_14 : decode cX5_add 14 = .ok (.getfield 9, 3) := by decide +kernel
theorem dX5_add_17 : decode cX5_add 17 = .ok (.iload_n 1, 1) := by decide +kernel
theorem dX5_add_18 : decode cX5_add 18 = .ok (.iastore, 1) := by decide +kernel
theorem dX5_add_19 : decode cX5_add 19 = .ok (.aload_n 0, 1) := by decide +kernel
theorem dX5_add_20 : decode cX5_add 20 = .ok (.getfield 19, 3) := by decide +kernel
theorem dX5_add_23 : decode cX5_add 23 = .ok (.aload_n 0, 1) := by decide +kernel
theorem dX5_add_24 : decode cX5_add 24 = .ok (.getfield 9, 3) := by decide +kernel
theorem dX5_add_27 : decode cX5_add 27 = .ok (.iload_n 2, 1) := by decide +kernel
theorem dX5_add_28 : decode cX5_add 28 = .ok (.iastore, 1) := by decide +kernel
theorem dX5_add_29 : decode cX5_add 29 = .ok (.aload_n 0, 1) := by decide +kernel
theorem dX5_add_30 : decode cX5_add 30 = .ok (.getfield 22, 3) := by decide +kernel
theorem dX5_add_33 : decode cX5_add 33 = .ok (.aload_n 0, 1) := by decide +kernel
theorem dX5_add_34 : decode cX5_add 34 = .ok (.getfield 9, 3) := by decide +kernel
theorem dX5_add_37 : decode cX5_add 37 = .ok (.iload_n 3, 1) := by decide +kernel
theorem dX5_add_38 : decode cX5_add 38 = .ok (.iastore, 1) := by decide +kernel
theorem dX5_add_39 : decode cX5_add 39 = .ok (.aload_n 0, 1) := by decide +kernel
theorem dX5_add_40 : decode cX5_add 40 = .ok (.getfield 25, 3) := by decide +kernel
theorem dX5_add_43 : decode cX5_add 43 = .ok (.aload_n 0, 1) := by decide +kernel
theorem dX5_add_44 : decode cX5_add 44 = .ok (.getfield 9, 3) := by decide +kernel
theorem dX5_add_47 : decode cX5_add 47 = .ok (.iload 4, 2) := by decide +kernel
theorem dX5_add_49 : decode cX5_add 49 = .ok (.iastore, 1) := by decide +kernel
theorem dX5_add_50 : decode cX5_add 50 = .ok (.aload_n 0, 1) := by decide +kernel
theorem dX5_add_51 : decode cX5_add 51 = .ok (.dup, 1) := by decide +kernel
theorem dX5_add_52 : decode cX5_add 52 = .ok (.getfield 9, 3) := by decide +kernel
theorem dX5_add_55 : decode cX5_add 55 = .ok (.iconst 1, 1) := by decide +kernel
theorem dX5_add_56 : decode cX5_add 56 = .ok (.iadd, 1) := by decide +kernel
theorem dX5_add_57 : decode cX5_add 57 = .ok (.putfield 9, 3) := by decide +kernel
theorem dX5_add_60 : decode cX5_add 60 = .ok (.return_, 1) := by decide +kernel
theorem dX5_priceOf_0 : decode cX5_priceOf 0 = .ok (.iconst 0, 1) := by decide +kernel
theorem dX5_priceOf_1 : decode cX5_priceOf 1 = .ok (.istore_n 2, 1) := by decide +kernel
theorem dX5_priceOf_2 : decode cX5_priceOf 2 = .ok (.iconst 0, 1) := by decide +kernel
theorem dX5_priceOf_3 : decode cX5_priceOf 3 = .ok (.istore_n 3, 1) := by decide +kernel
theorem dX5_priceOf_4 : decode cX5_priceOf 4 = .ok (.iload_n 3, 1) := by decide +kernel
theorem dX5_priceOf_5 : decode cX5_priceOf 5 = .ok (.aload_n 0, 1) := by decide +kernel
theorem dX5_priceOf_6 : decode cX5_priceOf 6 = .ok (.getfield 9, 3) := by decide +kernel
theorem dX5_priceOf_9 : decode cX5_priceOf 9 = .ok (.if_icmp .ge 26, 3) := by decide +kernel
theorem dX5_priceOf_12 : decode cX5_priceOf 12 = .ok (.iload_n 1, 1) := by decide +kernel
theorem dX5_priceOf_13 : decode cX5_priceOf 13 = .ok (.iconst 1, 1) := by decide +kernel
theorem dX5_priceOf_14 : decode cX5_priceOf 14 = .ok (.iload_n 3, 1) := by decide +kernel
theorem dX5_priceOf_15 : decode cX5_priceOf 15 = .ok (.ishl, 1) := by decide +kernel
theorem dX5_priceOf_16 : decode cX5_priceOf 16 = .ok (.iand, 1) := by decide +kernel
theorem dX5_priceOf_17 : decode cX5_priceOf 17 = .ok (.ifCond .eq 12, 3) := by decide +kernel
theorem dX5_priceOf_20 : decode cX5_priceOf 20 = .ok (.iload_n 2, 1) := by decide +kernel
theorem dX5_priceOf_21 : decode cX5_priceOf 21 = .ok (.aload_n 0, 1) := by decide +kernel
theorem dX5_priceOf_22 : decode cX5_priceOf 22 = .ok (.getfield 25, 3) := by decide +kernel
theorem dX5_priceOf_25 : decode cX5_priceOf 25 = .ok (.iload_n 3, 1) := by decide +kernel
theorem dX5_priceOf_26 : decode cX5_priceOf 26 = .ok (.iaload, 1) := by decide +kernel
theorem dX5_priceOf_27 : decode cX5_priceOf 27 = .ok (.iadd, 1) := by decide +kernel
theorem dX5_priceOf_28 : decode cX5_priceOf 28 = .ok (.istore_n 2, 1) := by decide +kernel
theorem dX5_priceOf_29 : decode cX5_priceOf 29 = .ok (.iinc 3 1, 3) := by decide +kernel
theorem dX5_priceOf_32 : decode cX5_priceOf 32 = .ok (.goto (-28), 3) := by decide +kernel
theorem dX5_priceOf_35 : decode cX5_priceOf 35 = .ok (.iload_n 2, 1) := by decide +kernel
theorem dX5_priceOf_36 : decode cX5_priceOf 36 = .ok (.ireturn, 1) := by decide +kernel
set_option maxRecDepth 20000 in
theorem ggX5_applyTo_X5_applyOne : GoodIn wsX5_applyTo wsX5_applyOne := goodIn_r _ [6, 7, 8, 9, 10, 11, 12, 13, 14, 15, 16, 17, 18, 19, 20, 21, 22, 23, 24, 25, 26, 27, 28, 29, 30, 31, 32, 33, 34, 35, 36, 37, 38, 39, 40] (by decide +kernel) (by decide +kernel)
set_option maxRecDepth 20000 in
theorem gX5_applyTo_X5_applyOne : GoodIn wsX5_applyTo (wsV RX5 28 RX5 yX5_applyOne wsX5_applyOne) := goodIn_app (goodIn_of _ (by decide +kernel)) ggX5_applyTo_X5_applyOne
theorem dX5_applyTo_0 : decode cX5_applyTo 0 = .ok (.iconst 0, 1) := by decide +kernel
theorem dX5_applyTo_1 : decode cX5_applyTo 1 = .ok (.istore_n 3, 1) := by decide +kernel
theorem dX5_applyTo_2 : decode cX5_applyTo 2 = .ok (.iload_n 3, 1) := by decide +kernel
theorem dX5_applyTo_3 : decode cX5_applyTo 3 = .ok (.aload_n 0, 1) := by decide +kernel
theorem dX5_applyTo_4 : decode cX5_applyTo 4 = .ok (.getfield 9, 3) := by decide +kernel
theorem dX5_applyTo_7 : decode cX5_applyTo 7 = .ok (.if_icmp .ge 23, 3) := by decide +kernel
theorem dX5_applyTo_10 : decode cX5_applyTo 10 = .ok (.iload_n 2, 1) := by decide +kernel
theorem dX5_applyTo_11 : decode cX5_applyTo 11 = .ok (.iconst 1, 1) := by decide +kernel
theorem dX5_applyTo_12 : decode cX5_applyTo 12 = .ok (.iload_n 3, 1) := by decide +kernel
theorem dX5_applyTo_13 : decode cX5_applyTo 13 = .ok (.ishl, 1) := by decide +kernel
theorem dX5_applyTo_14 : decode cX5_applyTo 14 = .ok (.iand, 1) := by decide +kernel
theorem dX5_applyTo_15 : decode cX5_applyTo 15 = .ok (.ifCond .eq 9, 3) := by decide +kernel
theorem dX5_applyTo_18 : decode cX5_applyTo 18 = .ok (.aload_n 0, 1) := by decide +kernel
theorem dX5_applyTo_19 : decode cX5_applyTo 19 = .ok (.aload_n 1, 1) := by decide +kernel
theorem dX5_applyTo_20 : decode cX5_applyTo 20 = .ok (.iload_n 3, 1) := by decide +kernel
theorem dX5_applyTo_21 : decode cX5_applyTo 21 = .ok (.invokevirtual 28, 3) := by decide +kernel
theorem dX5_applyTo_24 : decode cX5_applyTo 24 = .ok (.iinc 3 1, 3) := by decide +kernel
theorem dX5_applyTo_27 : decode cX5_applyTo 27 = .ok (.goto (-25), 3) := by decide +kernel
theorem dX5_applyTo_30 : decode cX5_applyTo 30 = .ok (.return_, 1) := by decide +kernel
set_option maxRecDepth 20000 in
theorem ggX5_applyOne_X0_hasAt : GoodIn wsX5_applyOne wsX0_hasAt := goodIn_r _ [15, 16, 17, 18, 19, 14, 20, 21, 27, 28, 29, 30, 31, 32, 33, 34] (by decide +kernel) (by decide +kernel)
set_option maxRecDepth 20000 in
theorem gX5_applyOne_X0_hasAt : GoodIn wsX5_applyOne (wsV RX5 44 RX0 yX0_hasAt wsX0_hasAt) := goodIn_app (goodIn_of _ (by decide +kernel)) ggX5_applyOne_X0_hasAt
theorem dX5_applyOne_0 : decode cX5_applyOne 0 = .ok (.aload_n 0, 1) := by decide +kernel
theorem dX5_applyOne_1 : decode cX5_applyOne 1 = .ok (.getfield 19, 3) := by decide +kernel
theorem dX5_applyOne_4 : decode cX5_applyOne 4 = .ok (.iload_n 2, 1) := by decide +kernel
theorem dX5_applyOne_5 : decode cX5_applyOne 5 = .ok (.iaload, 1) := by decide +kernel
theorem dX5_applyOne_6 : decode cX5_applyOne 6 = .ok (.istore_n 3, 1) := by decide +kernel
theorem dX5_applyOne_7 : decode cX5_applyOne 7 = .ok (.aload_n 0, 1) := by decide +kernel
theorem dX5_applyOne_8 : decode cX5_applyOne 8 = .ok (.getfield 15, 3) := by decide +kernel
theorem dX5_applyOne_11 : decode cX5_applyOne 11 = .ok (.iload_n 2, 1) := by decide +kernel
theorem dX5_applyOne_12 : decode cX5_applyOne 12 = .ok (.iaload, 1) := by decide +kernel
theorem dX5_applyOne_13 : decode cX5_applyOne 13 = .ok (.ifCond .ne 30, 3) := by decide +kernel
theorem dX5_applyOne_16 : decode cX5_applyOne 16 = .ok (.aload_n 1, 1) := by decide +kernel
theorem dX5_applyOne_17 : decode cX5_applyOne 17 = .ok (.getfield 32, 3) := by decide +kernel
theorem dX5_applyOne_20 : decode cX5_applyOne 20 = .ok (.iload_n 3, 1) := by decide +kernel
theorem dX5_applyOne_21 : decode cX5_applyOne 21 = .ok (.aload_n 1, 1) := by decide +kernel
theorem dX5_applyOne_22 : decode cX5_applyOne 22 = .ok (.getfield 32, 3) := by decide +kernel
theorem dX5_applyOne_25 : decode cX5_applyOne 25 = .ok (.iload_n 3, 1) := by decide +kernel
theorem dX5_applyOne_26 : decode cX5_applyOne 26 = .ok (.iaload, 1) := by decide +kernel
theorem dX5_applyOne_27 : decode cX5_applyOne 27 = .ok (.aload_n 0, 1) := by decide +kernel
end
section
theorem dX5_applyOne_28 : decode cX5_applyOne 28 = .ok (.getfield 22, 3) := by decide +kernel
theorem dX5_applyOne_31 : decode cX5_applyOne 31 = .ok (.iload_n 2, 1) := by decide +kernel
theorem dX5_applyOne_32 : decode cX5_applyOne 32 = .ok (.iaload, 1) := by decide +kernel
theorem dX5_applyOne_33 : decode cX5_applyOne 33 = .ok (.iadd, 1) := by decide +kernel
theorem dX5_applyOne_34 : decode cX5_applyOne 34 = .ok (.ldc 37, 2) := by decide +kernel
theorem dX5_applyOne_36 : decode cX5_applyOne 36 = .ok (.invokestatic 38, 3) := by decide +kernel
theorem dX5_applyOne_39 : decode cX5_applyOne 39 = .ok (.iastore, 1) := by decide +kernel
theorem dX5_applyOne_40 : decode cX5_applyOne 40 = .ok (.goto 24, 3) := by decide +kernel
theorem dX5_applyOne_43 : decode cX5_applyOne 43 = .ok (.aload_n 1, 1) := by decide +kernel
theorem dX5_applyOne_44 : decode cX5_applyOne 44 = .ok (.iload_n 3, 1) := by decide +kernel
theorem dX5_applyOne_45 : decode cX5_applyOne 45 = .ok (.iconst 1, 1) := by decide +kernel
theorem dX5_applyOne_46 : decode cX5_applyOne 46 = .ok (.invokevirtual 44, 3) := by decide +kernel
theorem dX5_applyOne_49 : decode cX5_applyOne 49 = .ok (.ifCond .eq 15, 3) := by decide +kernel
theorem dX5_applyOne_52 : decode cX5_applyOne 52 = .ok (.aload_n 1, 1) := by decide +kernel
theorem dX5_applyOne_53 : decode cX5_applyOne 53 = .ok (.getfield 48, 3) := by decide +kernel
theorem dX5_applyOne_56 : decode cX5_applyOne 56 = .ok (.iload_n 3, 1) := by decide +kernel
theorem dX5_applyOne_57 : decode cX5_applyOne 57 = .ok (.aload_n 0, 1) := by decide +kernel
theorem dX5_applyOne_58 : decode cX5_applyOne 58 = .ok (.getfield 22, 3) := by decide +kernel
theorem dX5_applyOne_61 : decode cX5_applyOne 61 = .ok (.iload_n 2, 1) := by decide +kernel
theorem dX5_applyOne_62 : decode cX5_applyOne 62 = .ok (.iaload, 1) := by decide +kernel
theorem dX5_applyOne_63 : decode cX5_applyOne 63 = .ok (.iastore, 1) := by decide +kernel
theorem dX5_applyOne_64 : decode cX5_applyOne 64 = .ok (.return_, 1) := by decide +kernel
set_option maxRecDepth 20000 in
theorem ggX6_init_X0_init : GoodIn wsX6_init wsX0_init := goodIn_r _ [36, 37, 2, 3, 38, 39, 30, 40, 41, 42, 43, 44, 45, 46, 47, 48, 49, 99, 100, 101, 102, 103, 104, 105, 106] (by decide +kernel) (by decide +kernel)
set_option maxRecDepth 20000 in
theorem gX6_init_X0_init : GoodIn wsX6_init (wsX0_init) := ggX6_init_X0_init
set_option maxRecDepth 20000 in
theorem ggX6_init_X2_init : GoodIn wsX6_init wsX2_init := goodIn_r _ [51, 52, 2, 3, 30, 53, 54, 55, 56, 57, 58, 118, 119, 120, 121, 122, 123] (by decide +kernel) (by decide +kernel)
set_option maxRecDepth 20000 in
theorem gX6_init_X2_init_n21 : GoodIn wsX6_init (wsX2_init) := ggX6_init_X2_init
set_option maxRecDepth 20000 in
theorem ggX6_init_X4_init : GoodIn wsX6_init wsX4_init := goodIn_r _ [60, 61, 2, 3, 62, 30, 63, 64, 124, 125, 126] (by decide +kernel) (by decide +kernel)
set_option maxRecDepth 20000 in
theorem gX6_init_X4_init_n31 : GoodIn wsX6_init (wsX4_init) := ggX6_init_X4_init
set_option maxRecDepth 20000 in
theorem ggX6_init_X1_init : GoodIn wsX6_init wsX1_init := goodIn_r _ [66, 67, 2, 3, 68, 30, 69, 70, 71, 72, 127, 128, 129, 130, 131] (by decide +kernel) (by decide +kernel)
set_option maxRecDepth 20000 in
theorem gX6_init_X1_init_n38 : GoodIn wsX6_init (wsX1_init) := ggX6_init_X1_init
set_option maxRecDepth 20000 in
theorem ggX6_init_X5_init : GoodIn wsX6_init wsX5_init := goodIn_r _ [74, 75, 2, 3, 76, 30, 77, 78, 79, 80, 132, 133, 134, 135, 136] (by decide +kernel) (by decide +kernel)
set_option maxRecDepth 20000 in
theorem gX6_init_X5_init_n45 : GoodIn wsX6_init (wsX5_init) := ggX6_init_X5_init
set_option maxRecDepth 20000 in
theorem ggX6_init_X3_init : GoodIn wsX6_init wsX3_init := goodIn_r _ [82, 83, 2, 3, 84, 30, 85, 86, 87, 88, 137, 138, 139, 140, 141] (by decide +kernel) (by decide +kernel)
set_option maxRecDepth 20000 in
theorem gX6_init_X3_init_n52 : GoodIn wsX6_init (wsX3_init) := ggX6_init_X3_init
set_option maxRecDepth 20000 in
theorem ggX6_init_X2_startFrom : GoodIn wsX6_init wsX2_startFrom := goodIn_r _ [92, 93, 53, 94, 95, 96, 97, 54, 55, 56, 57, 98, 47, 48, 49, 99, 100, 101, 102, 103, 104, 105, 106, 118, 119, 120, 121, 122, 123] (by decide +kernel) (by decide +kernel)
set_option maxRecDepth 20000 in
theorem gX6_init_X2_startFrom : GoodIn wsX6_init (wsV RX6 69 RX2 yX2_startFrom wsX2_startFrom) := goodIn_app (goodIn_of _ (by decide +kernel)) ggX6_init_X2_startFrom
theorem dX6_init_0 : decode cX6_init 0 = .ok (.aload_n 0, 1) := by decide +kernel
theorem dX6_init_1 : decode cX6_init 1 = .ok (.invokespecial 3, 3) := by decide +kernel
theorem dX6_init_4 : decode cX6_init 4 = .ok (.aload_n 0, 1) := by decide +kernel
theorem dX6_init_5 : decode cX6_init 5 = .ok (.new 9, 3) := by decide +kernel
theorem dX6_init_8 : decode cX6_init 8 = .ok (.dup, 1) := by decide +kernel
theorem dX6_init_9 : decode cX6_init 9 = .ok (.invokespecial 11, 3) := by decide +kernel
theorem dX6_init_12 : decode cX6_init 12 = .ok (.putfield 12, 3) := by decide +kernel
theorem dX6_init_15 : decode cX6_init 15 = .ok (.aload_n 0, 1) := by decide +kernel
theorem dX6_init_16 : decode cX6_init 16 = .ok (.new 9, 3) := by decide +kernel
theorem dX6_init_19 : decode cX6_init 19 = .ok (.dup, 1) := by decide +kernel
theorem dX6_init_20 : decode cX6_init 20 = .ok (.invokespecial 11, 3) := by decide +kernel
theorem dX6_init_23 : decode cX6_init 23 = .ok (.putfield 16, 3) := by decide +kernel
theorem dX6_init_26 : decode cX6_init 26 = .ok (.aload_n 0, 1) := by decide +kernel
theorem dX6_init_27 : decode cX6_init 27 = .ok (.new 19, 3) := by decide +kernel
theorem dX6_init_30 : decode cX6_init 30 = .ok (.dup, 1) := by decide +kernel
theorem dX6_init_31 : decode cX6_init 31 = .ok (.invokespecial 21, 3) := by decide +kernel
theorem dX6_init_34 : decode cX6_init 34 = .ok (.putfield 22, 3) := by decide +kernel
theorem dX6_init_37 : decode cX6_init 37 = .ok (.aload_n 0, 1) := by decide +kernel
theorem dX6_init_38 : decode cX6_init 38 = .ok (.new 19, 3) := by decide +kernel
theorem dX6_init_41 : decode cX6_init 41 = .ok (.dup, 1) := by decide +kernel
theorem dX6_init_42 : decode cX6_init 42 = .ok (.invokespecial 21, 3) := by decide +kernel
theorem dX6_init_45 : decode cX6_init 45 = .ok (.putfield 26, 3) := by decide +kernel
theorem dX6_init_48 : decode cX6_init 48 = .ok (.aload_n 0, 1) := by decide +kernel
theorem dX6_init_49 : decode cX6_init 49 = .ok (.new 29, 3) := by decide +kernel
theorem dX6_init_52 : decode cX6_init 52 = .ok (.dup, 1) := by decide +kernel
theorem dX6_init_53 : decode cX6_init 53 = .ok (.invokespecial 31, 3) := by decide +kernel
theorem dX6_init_56 : decode cX6_init 56 = .ok (.putfield 32, 3) := by decide +kernel
theorem dX6_init_59 : decode cX6_init 59 = .ok (.aload_n 0, 1) := by decide +kernel
theorem dX6_init_60 : decode cX6_init 60 = .ok (.new 36, 3) := by decide +kernel
theorem dX6_init_63 : decode cX6_init 63 = .ok (.dup, 1) := by decide +kernel
theorem dX6_init_64 : decode cX6_init 64 = .ok (.invokespecial 38, 3) := by decide +kernel
theorem dX6_init_67 : decode cX6_init 67 = .ok (.putfield 39, 3) := by decide +kernel
theorem dX6_init_70 : decode cX6_init 70 = .ok (.aload_n 0, 1) := by decide +kernel
theorem dX6_init_71 : decode cX6_init 71 = .ok (.new 43, 3) := by decide +kernel
theorem dX6_init_74 : decode cX6_init 74 = .ok (.dup, 1) := by decide +kernel
theorem dX6_init_75 : decode cX6_init 75 = .ok (.invokespecial 45, 3) := by decide +kernel
theorem dX6_init_78 : decode cX6_init 78 = .ok (.putfield 46, 3) := by decide +kernel
theorem dX6_init_81 : decode cX6_init 81 = .ok (.aload_n 0, 1) := by decide +kernel
theorem dX6_init_82 : decode cX6_init 82 = .ok (.new 50, 3) := by decide +kernel
theorem dX6_init_85 : decode cX6_init 85 = .ok (.dup, 1) := by decide +kernel
theorem dX6_init_86 : decode cX6_init 86 = .ok (.invokespecial 52, 3) := by decide +kernel
theorem dX6_init_89 : decode cX6_init 89 = .ok (.putfield 53, 3) := by decide +kernel
theorem dX6_init_92 : decode cX6_init 92 = .ok (.aload_n 0, 1) := by decide +kernel
theorem dX6_init_93 : decode cX6_init 93 = .ok (.bipush 12, 2) := by decide +kernel
theorem dX6_init_95 : decode cX6_init 95 = .ok (.newarray .int, 2) := by decide +kernel
theorem dX6_init_97 : decode cX6_init 97 = .ok (.putfield 57, 3) := by decide +kernel
theorem dX6_init_100 : decode cX6_init 100 = .ok (.aload_n 0, 1) := by decide +kernel
theorem dX6_init_101 : decode cX6_init 101 = .ok (.iconst 0, 1) := by decide +kernel
theorem dX6_init_102 : decode cX6_init 102 = .ok (.putfield 61, 3) := by decide +kernel
theorem dX6_init_105 : decode cX6_init 105 = .ok (.aload_n 0, 1) := by decide +kernel
theorem dX6_init_106 : decode cX6_init 106 = .ok (.iconst 0, 1) := by decide +kernel
theorem dX6_init_107 : decode cX6_init 107 = .ok (.putfield 65, 3) := by decide +kernel
theorem dX6_init_110 : decode cX6_init 110 = .ok (.aload_n 0, 1) := by decide +kernel
theorem dX6_init_111 : decode cX6_init 111 = .ok (.getfield 22, 3) := by decide +kernel
theorem dX6_init_114 : decode cX6_init 114 = .ok (.aload_n 0, 1) := by decide +kernel
theorem dX6_init_115 : decode cX6_init 115 = .ok (.getfield 12, 3) := by decide +kernel
theorem dX6_init_118 : decode cX6_init 118 = .ok (.invokevirtual 69, 3) := by decide +kernel
theorem dX6_init_121 : decode cX6_init 121 = .ok (.return_, 1) := by decide +kernel
set_option maxRecDepth 20000 in
theorem ggX6_fields_X6_isWithin : GoodIn wsX6_fields wsX6_isWithin := goodIn_r _ [7] (by decide +kernel) (by decide +kernel)
set_option maxRecDepth 20000 in
theorem gX6_fields_X6_isWithin : GoodIn wsX6_fields (va_wsS RX6 73 yX6_isWithin wsX6_isWithin) := goodIn_app (goodIn_of _ (by decide +kernel)) ggX6_fields_X6_isWithin
theorem dX6_fields_0 : decode cX6_fields 0 = .ok (.iload_n 1, 1) := by decide +kernel
theorem dX6_fields_1 : decode cX6_fields 1 = .ok (.iconst 2, 1) := by decide +kernel
theorem dX6_fields_2 : decode cX6_fields 2 = .ok (.bipush 12, 2) := by decide +kernel
theorem dX6_fields_4 : decode cX6_fields 4 = .ok (.invokestatic 73, 3) := by decide +kernel
theorem dX6_fields_7 : decode cX6_fields 7 = .ok (.ifCond .eq 10, 3) := by decide +kernel
theorem dX6_fields_10 : decode cX6_fields 10 = .ok (.aload_n 0, 1) := by decide +kernel
theorem dX6_fields_11 : decode cX6_fields 11 = .ok (.getfield 65, 3) := by decide +kernel
theorem dX6_fields_14 : decode cX6_fields 14 = .ok (.ifCond .eq 5, 3) := by decide +kernel
theorem dX6_fields_17 : decode cX6_fields 17 = .ok (.iconst 0, 1) := by decide +kernel
theorem dX6_fields_18 : decode cX6_fields 18 = .ok (.ireturn, 1) := by decide +kernel
theorem dX6_fields_19 : decode cX6_fields 19 = .ok (.aload_n 0, 1) := by decide +kernel
theorem dX6_fields_20 : decode cX6_fields 20 = .ok (.getfield 12, 3) := by decide +kernel
theorem dX6_fields_23 : decode cX6_fields 23 = .ok (.iload_n 1, 1) := by decide +kernel
theorem dX6_fields_24 : decode cX6_fields 24 = .ok (.putfield 77, 3) := by decide +kernel
theorem dX6_fields_27 : decode cX6_fields 27 = .ok (.iconst 1, 1) := by decide +kernel
theorem dX6_fields_28 : decode cX6_fields 28 = .ok (.ireturn, 1) := by decide +kernel
set_option maxRecDepth 20000 in
theorem ggX6_sand_X0_hasField : GoodIn wsX6_sand wsX0_hasField := goodIn_r _ [9, 10, 51, 52, 53, 54, 55, 56, 57, 58] (by decide +kernel) (by decide +kernel)
set_option maxRecDepth 20000 in
theorem gX6_sand_X0_hasField : GoodIn wsX6_sand (wsV RX6 80 RX0 yX0_hasField wsX0_hasField) := goodIn_app (goodIn_of _ (by decide +kernel)) ggX6_sand_X0_hasField
set_option maxRecDepth 20000 in
theorem ggX6_sand_X6_isWithin : GoodIn wsX6_sand wsX6_isWithin := goodIn_r _ [14] (by decide +kernel) (by decide +kernel)
set_option maxRecDepth 20000 in
theorem gX6_sand_X6_isWithin : GoodIn wsX6_sand (va_wsS RX6 73 yX6_isWithin wsX6_isWithin) := goodIn_app (goodIn_of _ (by decide +kernel)) ggX6_sand_X6_isWithin
set_option maxRecDepth 20000 in
theorem ggX6_sand_X6_takeInBegin : GoodIn wsX6_sand wsX6_takeInBegin := goodIn_r _ [18, 19, 20, 2, 21, 22, 23, 24, 25, 26, 27, 28, 29, 30, 31, 32, 33, 34, 35, 36, 37, 38, 39, 40, 41, 42, 43, 44, 45, 46, 47, 48, 49, 50, 51, 52, 53, 54, 55, 56, 57, 58, 59, 60, 61, 62, 63, 64] (by decide +kernel) (by decide +kernel)
set_option maxRecDepth 20000 in
theorem gX6_sand_X6_takeInBegin : GoodIn wsX6_sand (wsV RX6 88 RX6 yX6_takeInBegin wsX6_takeInBegin) := goodIn_app (goodIn_of _ (by decide +kernel)) ggX6_sand_X6_takeInBegin
theorem dX6_sand_0 : decode cX6_sand 0 = .ok (.aload_n 0, 1) := by decide +kernel
theorem dX6_sand_1 : decode cX6_sand 1 = .ok (.getfield 61, 3) := by decide +kernel
theorem dX6_sand_4 : decode cX6_sand 4 = .ok (.ifCond .gt 24, 3) := by decide +kernel
theorem dX6_sand_7 : decode cX6_sand 7 = .ok (.aload_n 0, 1) := by decide +kernel
theorem dX6_sand_8 : decode cX6_sand 8 = .ok (.getfield 12, 3) := by decide +kernel
theorem dX6_sand_11 : decode cX6_sand 11 = .ok (.iload_n 1, 1) := by decide +kernel
theorem dX6_sand_12 : decode cX6_sand 12 = .ok (.invokevirtual 80, 3) := by decide +kernel
theorem dX6_sand_15 : decode cX6_sand 15 = .ok (.ifCond .eq 13, 3) := by decide +kernel
theorem dX6_sand_18 : decode cX6_sand 18 = .ok (.iload_n 2, 1) := by decide +kernel
theorem dX6_sand_19 : decode cX6_sand 19 = .ok (.iconst 0, 1) := by decide +kernel
theorem dX6_sand_20 : decode cX6_sand 20 = .ok (.ldc 84, 2) := by decide +kernel
theorem dX6_sand_22 : decode cX6_sand 22 = .ok (.invokestatic 73, 3) := by decide +kernel
theorem dX6_sand_25 : decode cX6_sand 25 = .ok (.ifCond .ne 5, 3) := by decide +kernel
theorem dX6_sand_28 : decode cX6_sand 28 = .ok (.iconst 0, 1) := by decide +kernel
theorem dX6_sand_29 : decode cX6_sand 29 = .ok (.ireturn, 1) := by decide +kernel
theorem dX6_sand_30 : decode cX6_sand 30 = .ok (.aload_n 0, 1) := by decide +kernel
theorem dX6_sand_31 : decode cX6_sand 31 = .ok (.getfield 12, 3) := by decide +kernel
theorem dX6_sand_34 : decode cX6_sand 34 = .ok (.getfield 85, 3) := by decide +kernel
theorem dX6_sand_37 : decode cX6_sand 37 = .ok (.iload_n 1, 1) := by decide +kernel
theorem dX6_sand_38 : decode cX6_sand 38 = .ok (.iload_n 2, 1) := by decide +kernel
theorem dX6_sand_39 : decode cX6_sand 39 = .ok (.iastore, 1) := by decide +kernel
theorem dX6_sand_40 : decode cX6_sand 40 = .ok (.aload_n 0, 1) := by decide +kernel
theorem dX6_sand_41 : decode cX6_sand 41 = .ok (.invokevirtual 88, 3) := by decide +kernel
theorem dX6_sand_44 : decode cX6_sand 44 = .ok (.iconst 1, 1) := by decide +kernel
theorem dX6_sand_45 : decode cX6_sand 45 = .ok (.ireturn, 1) := by decide +kernel
set_option maxRecDepth 20000 in
theorem ggX6_groyne_X0_liesBetweenFields : GoodIn wsX6_groyne wsX0_liesBetweenFields := goodIn_r _ [7, 8, 56, 57, 58, 59, 60, 61, 62, 63] (by decide +kernel) (by decide +kernel)
set_option maxRecDepth 20000 in
theorem gX6_groyne_X0_liesBetweenFields : GoodIn wsX6_groyne (wsV RX6 91 RX0 yX0_liesBetweenFields wsX0_liesBetweenFields) := goodIn_app (goodIn_of _ (by decide +kernel)) ggX6_groyne_X0_liesBetweenFields
set_option maxRecDepth 20000 in
theorem ggX6_groyne_X6_isWithin : GoodIn wsX6_groyne wsX6_isWithin := goodIn_r _ [12] (by decide +kernel) (by decide +kernel)
set_option maxRecDepth 20000 in
theorem gX6_groyne_X6_isWithin : GoodIn wsX6_groyne (va_wsS RX6 73 yX6_isWithin wsX6_isWithin) := goodIn_app (goodIn_of _ (by decide +kernel)) ggX6_groyne_X6_isWithin
set_option maxRecDepth 20000 in
theorem ggX6_groyne_X0_build : GoodIn wsX6_groyne wsX0_build := goodIn_r _ [16, 17, 18, 19, 56, 57, 58, 59, 60, 61, 62, 63] (by decide +kernel) (by decide +kernel)
set_option maxRecDepth 20000 in
theorem gX6_groyne_X0_build : GoodIn wsX6_groyne (wsV RX6 94 RX0 yX0_build wsX0_build) := goodIn_app (goodIn_of _ (by decide +kernel)) ggX6_groyne_X0_build
set_option maxRecDepth 20000 in
theorem ggX6_groyne_X6_takeInBegin : GoodIn wsX6_groyne wsX6_takeInBegin := goodIn_r _ [23, 24, 25, 2, 26, 27, 28, 29, 30, 31, 32, 33, 34, 35, 36, 37, 38, 39, 40, 41, 42, 43, 44, 45, 46, 47, 48, 49, 50, 51, 52, 53, 54, 55, 56, 57, 58, 59, 60, 61, 62, 63, 64, 65, 66, 67, 68, 69] (by decide +kernel) (by decide +kernel)
set_option maxRecDepth 20000 in
theorem gX6_groyne_X6_takeInBegin : GoodIn wsX6_groyne (wsV RX6 88 RX6 yX6_takeInBegin wsX6_takeInBegin) := goodIn_app (goodIn_of _ (by decide +kernel)) ggX6_groyne_X6_takeInBegin
theorem dX6_groyne_0 : decode cX6_groyne 0 = .ok (.aload_n 0, 1) := by decide +kernel
theorem dX6_groyne_1 : decode cX6_groyne 1 = .ok (.getfield 61, 3) := by decide +kernel
theorem dX6_groyne_4 : decode cX6_groyne 4 = .ok (.ifCond .gt 14, 3) := by decide +kernel
theorem dX6_groyne_7 : decode cX6_groyne 7 = .ok (.aload_n 0, 1) := by decide +kernel
theorem dX6_groyne_8 : decode cX6_groyne 8 = .ok (.getfield 12, 3) := by decide +kernel
theorem dX6_groyne_11 : decode cX6_groyne 11 = .ok (.iload_n 1, 1) := by decide +kernel
theorem dX6_groyne_12 : decode cX6_groyne 12 = .ok (.invokevirtual 91, 3) := by decide +kernel
theorem dX6_groyne_15 : decode cX6_groyne 15 = .ok (.ifCond .ne 5, 3) := by decide +kernel
theorem dX6_groyne_18 : decode cX6_groyne 18 = .ok (.iconst 0, 1) := by decide +kernel
theorem dX6_groyne_19 : decode cX6_groyne 19 = .ok (.ireturn, 1) := by decide +kernel
theorem dX6_groyne_20 : decode cX6_groyne 20 = .ok (.iload_n 2, 1) := by decide +kernel
theorem dX6_groyne_21 : decode cX6_groyne 21 = .ok (.iconst 0, 1) := by decide +kernel
theorem dX6_groyne_22 : decode cX6_groyne 22 = .ok (.sipush 999, 3) := by decide +kernel
theorem dX6_groyne_25 : decode cX6_groyne 25 = .ok (.invokestatic 73, 3) := by decide +kernel
theorem dX6_groyne_28 : decode cX6_groyne 28 = .ok (.ifCond .eq 13, 3) := by decide +kernel
theorem dX6_groyne_31 : decode cX6_groyne 31 = .ok (.iload_n 3, 1) := by decide +kernel
theorem dX6_groyne_32 : decode cX6_groyne 32 = .ok (.iconst 0, 1) := by decide +kernel
theorem dX6_groyne_33 : decode cX6_groyne 33 = .ok (.bipush 100, 2) := by decide +kernel
theorem dX6_groyne_35 : decode cX6_groyne 35 = .ok (.invokestatic 73, 3) := by decide +kernel
theorem dX6_groyne_38 : decode cX6_groyne 38 = .ok (.ifCond .ne 5, 3) := by decide +kernel
theorem dX6_groyne_41 : decode cX6_groyne 41 = .ok (.iconst 0, 1) := by decide +kernel
theorem dX6_groyne_42 : decode cX6_groyne 42 = .ok (.ireturn, 1) := by decide +kernel
theorem dX6_groyne_43 : decode cX6_groyne 43 = .ok (.aload_n 0, 1) := by decide +kernel
theorem dX6_groyne_44 : decode cX6_groyne 44 = .ok (.getfield 12, 3) := by decide +kernel
theorem dX6_groyne_47 : decode cX6_groyne 47 = .ok (.iload_n 1, 1) := by decide +kernel
theorem dX6_groyne_48 : decode cX6_groyne 48 = .ok (.iload_n 2, 1) := by decide +kernel
theorem dX6_groyne_49 : decode cX6_groyne 49 = .ok (.ifCond .ne 7, 3) := by decide +kernel
theorem dX6_groyne_52 : decode cX6_groyne 52 = .ok (.iconst 0, 1) := by decide +kernel
theorem dX6_groyne_53 : decode cX6_groyne 53 = .ok (.goto 4, 3) := by decide +kernel
theorem dX6_groyne_56 : decode cX6_groyne 56 = .ok (.iconst 1, 1) := by decide +kernel
theorem dX6_groyne_57 : decode cX6_groyne 57 = .ok (.iload_n 2, 1) := by decide +kernel
theorem dX6_groyne_58 : decode cX6_groyne 58 = .ok (.iload_n 3, 1) := by decide +kernel
theorem dX6_groyne_59 : decode cX6_groyne 59 = .ok (.invokevirtual 94, 3) := by decide +kernel
theorem dX6_groyne_62 : decode cX6_groyne 62 = .ok (.aload_n 0, 1) := by decide +kernel
theorem dX6_groyne_63 : decode cX6_groyne 63 = .ok (.invokevirtual 88, 3) := by decide +kernel
theorem dX6_groyne_66 : decode cX6_groyne 66 = .ok (.iconst 1, 1) := by decide +kernel
theorem dX6_groyne_67 : decode cX6_groyne 67 = .ok (.ireturn, 1) := by decide +kernel
set_option maxRecDepth 20000 in
theorem ggX6_mouth_X0_liesBetweenFields : GoodIn wsX6_mouth wsX0_liesBetweenFields := goodIn_r _ [7, 8, 56, 57, 58, 59, 60, 61, 62, 63] (by decide +kernel) (by decide +kernel)
set_option maxRecDepth 20000 in
theorem gX6_mouth_X0_liesBetweenFields : GoodIn wsX6_mouth (wsV RX6 91 RX0 yX0_liesBetweenFields wsX0_liesBetweenFields) := goodIn_app (goodIn_of _ (by decide +kernel)) ggX6_mouth_X0_liesBetweenFields
set_option maxRecDepth 20000 in
theorem ggX6_mouth_X6_isWithin : GoodIn wsX6_mouth wsX6_isWithin := goodIn_r _ [12] (by decide +kernel) (by decide +kernel)
set_option maxRecDepth 20000 in
theorem gX6_mouth_X6_isWithin : GoodIn wsX6_mouth (va_wsS RX6 73 yX6_isWithin wsX6_isWithin) := goodIn_app (goodIn_of _ (by decide +kernel)) ggX6_mouth_X6_isWithin
set_option maxRecDepth 20000 in
theorem ggX6_mouth_X0_build : GoodIn wsX6_mouth wsX0_build := goodIn_r _ [16, 17, 18, 19, 56, 57, 58, 59, 60, 61, 62, 63] (by decide +kernel) (by decide +kernel)
set_option maxRecDepth 20000 in
theorem gX6_mouth_X0_build : GoodIn wsX6_mouth (wsV RX6 94 RX0 yX0_build wsX0_build) := goodIn_app (goodIn_of _ (by decide +kernel)) ggX6_mouth_X0_build
set_option maxRecDepth 20000 in
theorem ggX6_mouth_X6_takeInBegin : GoodIn wsX6_mouth wsX6_takeInBegin := goodIn_r _ [23, 24, 25, 2, 26, 27, 28, 29, 30, 31, 32, 33, 34, 35, 36, 37, 38, 39, 40, 41, 42, 43, 44, 45, 46, 47, 48, 49, 50, 51, 52, 53, 54, 55, 56, 57, 58, 59, 60, 61, 62, 63, 64, 65, 66, 67, 68, 69] (by decide +kernel) (by decide +kernel)
set_option maxRecDepth 20000 in
theorem gX6_mouth_X6_takeInBegin : GoodIn wsX6_mouth (wsV RX6 88 RX6 yX6_takeInBegin wsX6_takeInBegin) := goodIn_app (goodIn_of _ (by decide +kernel)) ggX6_mouth_X6_takeInBegin
theorem dX6_mouth_0 : decode cX6_mouth 0 = .ok (.aload_n 0, 1) := by decide +kernel
theorem dX6_mouth_1 : decode cX6_mouth 1 = .ok (.getfield 61, 3) := by decide +kernel
theorem dX6_mouth_4 : decode cX6_mouth 4 = .ok (.ifCond .gt 24, 3) := by decide +kernel
theorem dX6_mouth_7 : decode cX6_mouth 7 = .ok (.aload_n 0, 1) := by decide +kernel
theorem dX6_mouth_8 : decode cX6_mouth 8 = .ok (.getfield 12, 3) := by decide +kernel
theorem dX6_mouth_11 : decode cX6_mouth 11 = .ok (.iload_n 1, 1) := by decide +kernel
theorem dX6_mouth_12 : decode cX6_mouth 12 = .ok (.invokevirtual 91, 3) := by decide +kernel
theorem dX6_mouth_15 : decode cX6_mouth 15 = .ok (.ifCond .eq 13, 3) := by decide +kernel
theorem dX6_mouth_18 : decode cX6_mouth 18 = .ok (.iload_n 2, 1) := by decide +kernel
theorem dX6_mouth_19 : decode cX6_mouth 19 = .ok (.iconst 0, 1) := by decide +kernel
theorem dX6_mouth_20 : decode cX6_mouth 20 = .ok (.bipush 100, 2) := by decide +kernel
theorem dX6_mouth_22 : decode cX6_mouth 22 = .ok (.invokestatic 73, 3) := by decide +kernel
theorem dX6_mouth_25 : decode cX6_mouth 25 = .ok (.ifCond .ne 5, 3) := by decide +kernel
theorem dX6_mouth_28 : decode cX6_mouth 28 = .ok (.iconst 0, 1) := by decide +kernel
theorem dX6_mouth_29 : decode cX6_mouth 29 = .ok (.ireturn, 1) := by decide +kernel
theorem dX6_mouth_30 : decode cX6_mouth 30 = .ok (.aload_n 0, 1) := by decide +kernel
theorem dX6_mouth_31 : decode cX6_mouth 31 = .ok (.getfield 12, 3) := by decide +kernel
theorem dX6_mouth_34 : decode cX6_mouth 34 = .ok (.iload_n 1, 1) := by decide +kernel
theorem dX6_mouth_35 : decode cX6_mouth 35 = .ok (.iconst 2, 1) := by decide +kernel
theorem dX6_mouth_36 : decode cX6_mouth 36 = .ok (.iload_n 2, 1) := by decide +kernel
theorem dX6_mouth_37 : decode cX6_mouth 37 = .ok (.iconst 0, 1) := by decide +kernel
theorem dX6_mouth_38 : decode cX6_mouth 38 = .ok (.invokevirtual 94, 3) := by decide +kernel
theorem dX6_mouth_41 : decode cX6_mouth 41 = .ok (.aload_n 0, 1) := by decide +kernel
theorem dX6_mouth_42 : decode cX6_mouth 42 = .ok (.invokevirtual 88, 3) := by decide +kernel
theorem dX6_mouth_45 : decode cX6_mouth 45 = .ok (.iconst 1, 1) := by decide +kernel
theorem dX6_mouth_46 : decode cX6_mouth 46 = .ok (.ireturn, 1) := by decide +kernel
set_option maxRecDepth 20000 in
theorem ggX6_wall_X0_hasField : GoodIn wsX6_wall wsX0_hasField := goodIn_r _ [8, 9, 50, 51, 52, 53, 54, 55, 56, 57] (by decide +kernel) (by decide +kernel)
set_option maxRecDepth 20000 in
theorem gX6_wall_X0_hasField : GoodIn wsX6_wall (wsV RX6 80 RX0 yX0_hasField wsX0_hasField) := goodIn_app (goodIn_of _ (by decide +kernel)) ggX6_wall_X0_hasField
set_option maxRecDepth 20000 in
theorem ggX6_wall_X6_isWithin : GoodIn wsX6_wall wsX6_isWithin := goodIn_r _ [13] (by decide +kernel) (by decide +kernel)
set_option maxRecDepth 20000 in
theorem gX6_wall_X6_isWithin : GoodIn wsX6_wall (va_wsS RX6 73 yX6_isWithin wsX6_isWithin) := goodIn_app (goodIn_of _ (by decide +kernel)) ggX6_wall_X6_isWithin
set_option maxRecDepth 20000 in
theorem ggX6_wall_X6_takeInBegin : GoodIn wsX6_wall wsX6_takeInBegin := goodIn_r _ [17, 18, 19, 2, 20, 21, 22, 23, 24, 25, 26, 27, 28, 29, 30, 31, 32, 33, 34, 35, 36, 37, 38, 39, 40, 41, 42, 43, 44, 45, 46, 47, 48, 49, 50, 51, 52, 53, 54, 55, 56, 57, 58, 59, 60, 61, 62, 63] (by decide +kernel) (by decide +kernel)
set_option maxRecDepth 20000 in
theorem gX6_wall_X6_takeInBegin : GoodIn wsX6_wall (wsV RX6 88 RX6 yX6_takeInBegin wsX6_takeInBegin) := goodIn_app (goodIn_of _ (by decide +kernel)) ggX6_wall_X6_takeInBegin
theorem dX6_wall_0 : decode cX6_wall 0 = .ok (.aload_n 0, 1) := by decide +kernel
theorem dX6_wall_1 : decode cX6_wall 1 = .ok (.getfield 61, 3) := by decide +kernel
theorem dX6_wall_4 : decode cX6_wall 4 = .ok (.ifCond .gt 25, 3) := by decide +kernel
theorem dX6_wall_7 : decode cX6_wall 7 = .ok (.aload_n 0, 1) := by decide +kernel
theorem dX6_wall_8 : decode cX6_wall 8 = .ok (.getfield 12, 3) := by decide +kernel
theorem dX6_wall_11 : decode cX6_wall 11 = .ok (.iload_n 1, 1) := by decide +kernel
theorem dX6_wall_12 : decode cX6_wall 12 = .ok (.invokevirtual 80, 3) := by decide +kernel
theorem dX6_wall_15 : decode cX6_wall 15 = .ok (.ifCond .eq 14, 3) := by decide +kernel
theorem dX6_wall_18 : decode cX6_wall 18 = .ok (.iload_n 2, 1) := by decide +kernel
theorem dX6_wall_19 : decode cX6_wall 19 = .ok (.iconst 0, 1) := by decide +kernel
theorem dX6_wall_20 : decode cX6_wall 20 = .ok (.sipush 999, 3) := by decide +kernel
theorem dX6_wall_23 : decode cX6_wall 23 = .ok (.invokestatic 73, 3) := by decide +kernel
theorem dX6_wall_26 : decode cX6_wall 26 = .ok (.ifCond .ne 5, 3) := by decide +kernel
theorem dX6_wall_29 : decode cX6_wall 29 = .ok (.iconst 0, 1) := by decide +kernel
theorem dX6_wall_30 : decode cX6_wall 30 = .ok (.ireturn, 1) := by decide +kernel
theorem dX6_wall_31 : decode cX6_wall 31 = .ok (.aload_n 0, 1) := by decide +kernel
theorem dX6_wall_32 : decode cX6_wall 32 = .ok (.getfield 12, 3) := by decide +kernel
theorem dX6_wall_35 : decode cX6_wall 35 = .ok (.getfield 98, 3) := by decide +kernel
theorem dX6_wall_38 : decode cX6_wall 38 = .ok (.iload_n 1, 1) := by decide +kernel
theorem dX6_wall_39 : decode cX6_wall 39 = .ok (.iload_n 2, 1) := by decide +kernel
theorem dX6_wall_40 : decode cX6_wall 40 = .ok (.iastore, 1) := by decide +kernel
theorem dX6_wall_41 : decode cX6_wall 41 = .ok (.aload_n 0, 1) := by decide +kernel
theorem dX6_wall_42 : decode cX6_wall 42 = .ok (.invokevirtual 88, 3) := by decide +kernel
theorem dX6_wall_45 : decode cX6_wall 45 = .ok (.iconst 1, 1) := by decide +kernel
theorem dX6_wall_46 : decode cX6_wall 46 = .ok (.ireturn, 1) := by decide +kernel
set_option maxRecDepth 20000 in
theorem ggX6_feed_X6_isWithin : GoodIn wsX6_feed wsX6_isWithin := goodIn_r _ [7] (by decide +kernel) (by decide +kernel)
set_option maxRecDepth 20000 in
theorem gX6_feed_X6_isWithin : GoodIn wsX6_feed (va_wsS RX6 73 yX6_isWithin wsX6_isWithin) := goodIn_app (goodIn_of _ (by decide +kernel)) ggX6_feed_X6_isWithin
set_option maxRecDepth 20000 in
theorem ggX6_feed_X6_takeInBegin : GoodIn wsX6_feed wsX6_takeInBegin := goodIn_r _ [11, 12, 13, 2, 14, 15, 16, 17, 18, 19, 20, 21, 22, 23, 24, 25, 26, 27, 28, 29, 30, 31, 32, 33, 34, 35, 36, 37, 38, 39, 40, 41, 42, 43, 44, 45, 46, 47, 48, 49, 50, 51, 52, 53, 54, 55, 56, 57] (by decide +kernel) (by decide +kernel)
set_option maxRecDepth 20000 in
theorem gX6_feed_X6_takeInBegin : GoodIn wsX6_feed (wsV RX6 88 RX6 yX6_takeInBegin wsX6_takeInBegin) := goodIn_app (goodIn_of _ (by decide +kernel)) ggX6_feed_X6_takeInBegin
theorem dX6_feed_0 : decode cX6_feed 0 = .ok (.aload_n 0, 1) := by decide +kernel
theorem dX6_feed_1 : decode cX6_feed 1 = .ok (.getfield 61, 3) := by decide +kernel
theorem dX6_feed_4 : decode cX6_feed 4 = .ok (.ifCond .gt 23, 3) := by decide +kernel
theorem dX6_feed_7 : decode cX6_feed 7 = .ok (.iload_n 1, 1) := by decide +kernel
theorem dX6_feed_8 : decode cX6_feed 8 = .ok (.iconst 0, 1) := by decide +kernel
theorem dX6_feed_9 : decode cX6_feed 9 = .ok (.iconst 1, 1) := by decide +kernel
theorem dX6_feed_10 : decode cX6_feed 10 = .ok (.invokestatic 73, 3) := by decide +kernel
theorem dX6_feed_13 : decode cX6_feed 13 = .ok (.ifCond .eq 14, 3) := by decide +kernel
theorem dX6_feed_16 : decode cX6_feed 16 = .ok (.iload_n 2, 1) := by decide +kernel
theorem dX6_feed_17 : decode cX6_feed 17 = .ok (.iconst 0, 1) := by decide +kernel
theorem dX6_feed_18 : decode cX6_feed 18 = .ok (.sipush 200, 3) := by decide +kernel
theorem dX6_feed_21 : decode cX6_feed 21 = .ok (.invokestatic 73, 3) := by decide +kernel
theorem dX6_feed_24 : decode cX6_feed 24 = .ok (.ifCond .ne 5, 3) := by decide +kernel
theorem dX6_feed_27 : decode cX6_feed 27 = .ok (.iconst 0, 1) := by decide +kernel
theorem dX6_feed_28 : decode cX6_feed 28 = .ok (.ireturn, 1) := by decide +kernel
theorem dX6_feed_29 : decode cX6_feed 29 = .ok (.aload_n 0, 1) := by decide +kernel
theorem dX6_feed_30 : decode cX6_feed 30 = .ok (.getfield 12, 3) := by decide +kernel
theorem dX6_feed_33 : decode cX6_feed 33 = .ok (.getfield 101, 3) := by decide +kernel
theorem dX6_feed_36 : decode cX6_feed 36 = .ok (.iload_n 1, 1) := by decide +kernel
theorem dX6_feed_37 : decode cX6_feed 37 = .ok (.iload_n 2, 1) := by decide +kernel
theorem dX6_feed_38 : decode cX6_feed 38 = .ok (.iastore, 1) := by decide +kernel
theorem dX6_feed_39 : decode cX6_feed 39 = .ok (.aload_n 0, 1) := by decide +kernel
theorem dX6_feed_40 : decode cX6_feed 40 = .ok (.invokevirtual 88, 3) := by decide +kernel
theorem dX6_feed_43 : decode cX6_feed 43 = .ok (.iconst 1, 1) := by decide +kernel
theorem dX6_feed_44 : decode cX6_feed 44 = .ok (.ireturn, 1) := by decide +kernel
set_option maxRecDepth 20000 in
theorem ggX6_number_X6_isWithin : GoodIn wsX6_number wsX6_isWithin := goodIn_r _ [7] (by decide +kernel) (by decide +kernel)
set_option maxRecDepth 20000 in
theorem gX6_number_X6_isWithin : GoodIn wsX6_number (va_wsS RX6 73 yX6_isWithin wsX6_isWithin) := goodIn_app (goodIn_of _ (by decide +kernel)) ggX6_number_X6_isWithin
set_option maxRecDepth 20000 in
theorem ggX6_number_X6_takeInBegin : GoodIn wsX6_number wsX6_takeInBegin := goodIn_r _ [11, 12, 13, 2, 14, 15, 16, 17, 18, 19, 20, 21, 22, 23, 24, 25, 26, 27, 28, 29, 30, 31, 32, 33, 34, 35, 36, 37, 38, 39, 40, 41, 42, 43, 44, 45, 46, 47, 48, 49, 50, 51, 52, 53, 54, 55, 56, 57] (by decide +kernel) (by decide +kernel)
set_option maxRecDepth 20000 in
theorem gX6_number_X6_takeInBegin : GoodIn wsX6_number (wsV RX6 88 RX6 yX6_takeInBegin wsX6_takeInBegin) := goodIn_app (goodIn_of _ (by decide +kernel)) ggX6_number_X6_takeInBegin
theorem dX6_number_0 : decode cX6_number 0 = .ok (.aload_n 0, 1) := by decide +kernel
theorem dX6_number_1 : decode cX6_number 1 = .ok (.getfield 61, 3) := by decide +kernel
theorem dX6_number_4 : decode cX6_number 4 = .ok (.ifCond .gt 13, 3) := by decide +kernel
theorem dX6_number_7 : decode cX6_number 7 = .ok (.iload_n 1, 1) := by decide +kernel
theorem dX6_number_8 : decode cX6_number 8 = .ok (.iconst 1, 1) := by decide +kernel
theorem dX6_number_9 : decode cX6_number 9 = .ok (.bipush 9, 2) := by decide +kernel
theorem dX6_number_11 : decode cX6_number 11 = .ok (.invokestatic 73, 3) := by decide +kernel
theorem dX6_number_14 : decode cX6_number 14 = .ok (.ifCond .ne 5, 3) := by decide +kernel
theorem dX6_number_17 : decode cX6_number 17 = .ok (.iconst 0, 1) := by decide +kernel
theorem dX6_number_18 : decode cX6_number 18 = .ok (.ireturn, 1) := by decide +kernel
theorem dX6_number_19 : decode cX6_number 19 = .ok (.aload_n 0, 1) := by decide +kernel
theorem dX6_number_20 : decode cX6_number 20 = .ok (.getfield 12, 3) := by decide +kernel
theorem dX6_number_23 : decode cX6_number 23 = .ok (.iload_n 1, 1) := by decide +kernel
theorem dX6_number_24 : decode cX6_number 24 = .ok (.putfield 104, 3) := by decide +kernel
theorem dX6_number_27 : decode cX6_number 27 = .ok (.aload_n 0, 1) := by decide +kernel
theorem dX6_number_28 : decode cX6_number 28 = .ok (.invokevirtual 88, 3) := by decide +kernel
theorem dX6_number_31 : decode cX6_number 31 = .ok (.iconst 1, 1) := by decide +kernel
theorem dX6_number_32 : decode cX6_number 32 = .ok (.ireturn, 1) := by decide +kernel
set_option maxRecDepth 20000 in
theorem ggX6_wave_X6_isWithin : GoodIn wsX6_wave wsX6_isWithin := goodIn_r _ [7] (by decide +kernel) (by decide +kernel)
set_option maxRecDepth 20000 in
theorem gX6_wave_X6_isWithin : GoodIn wsX6_wave (va_wsS RX6 73 yX6_isWithin wsX6_isWithin) := goodIn_app (goodIn_of _ (by decide +kernel)) ggX6_wave_X6_isWithin
set_option maxRecDepth 20000 in
theorem ggX6_wave_X4_add : GoodIn wsX6_wave wsX4_add := goodIn_r _ [12, 13, 14, 15, 27, 28, 29] (by decide +kernel) (by decide +kernel)
set_option maxRecDepth 20000 in
theorem gX6_wave_X4_add : GoodIn wsX6_wave (wsV RX6 110 RX4 yX4_add wsX4_add) := goodIn_app (goodIn_of _ (by decide +kernel)) ggX6_wave_X4_add
theorem dX6_wave_0 : decode cX6_wave 0 = .ok (.iload_n 1, 1) := by decide +kernel
theorem dX6_wave_1 : decode cX6_wave 1 = .ok (.iconst 0, 1) := by decide +kernel
theorem dX6_wave_2 : decode cX6_wave 2 = .ok (.bipush 9, 2) := by decide +kernel
theorem dX6_wave_4 : decode cX6_wave 4 = .ok (.invokestatic 73, 3) := by decide +kernel
theorem dX6_wave_7 : decode cX6_wave 7 = .ok (.ifCond .eq 24, 3) := by decide +kernel
theorem dX6_wave_10 : decode cX6_wave 10 = .ok (.iload_n 2, 1) := by decide +kernel
theorem dX6_wave_11 : decode cX6_wave 11 = .ok (.iconst 0, 1) := by decide +kernel
theorem dX6_wave_12 : decode cX6_wave 12 = .ok (.iconst 2, 1) := by decide +kernel
theorem dX6_wave_13 : decode cX6_wave 13 = .ok (.invokestatic 73, 3) := by decide +kernel
theorem dX6_wave_16 : decode cX6_wave 16 = .ok (.ifCond .eq 15, 3) := by decide +kernel
theorem dX6_wave_19 : decode cX6_wave 19 = .ok (.aload_n 0, 1) := by decide +kernel
theorem dX6_wave_20 : decode cX6_wave 20 = .ok (.getfield 32, 3) := by decide +kernel
theorem dX6_wave_23 : decode cX6_wave 23 = .ok (.getfield 107, 3) := by decide +kernel
theorem dX6_wave_26 : decode cX6_wave 26 = .ok (.bipush 120, 2) := by decide +kernel
theorem dX6_wave_28 : decode cX6_wave 28 = .ok (.if_icmp .lt 5, 3) := by decide +kernel
theorem dX6_wave_31 : decode cX6_wave 31 = .ok (.iconst (-1), 1) := by decide +kernel
theorem dX6_wave_32 : decode cX6_wave 32 = .ok (.ireturn, 1) := by decide +kernel
theorem dX6_wave_33 : decode cX6_wave 33 = .ok (.aload_n 0, 1) := by decide +kernel
theorem dX6_wave_34 : decode cX6_wave 34 = .ok (.getfield 32, 3) := by decide +kernel
theorem dX6_wave_37 : decode cX6_wave 37 = .ok (.iload_n 1, 1) := by decide +kernel
theorem dX6_wave_38 : decode cX6_wave 38 = .ok (.iload_n 2, 1) := by decide +kernel
theorem dX6_wave_39 : decode cX6_wave 39 = .ok (.invokevirtual 110, 3) := by decide +kernel
theorem dX6_wave_42 : decode cX6_wave 42 = .ok (.aload_n 0, 1) := by decide +kernel
theorem dX6_wave_43 : decode cX6_wave 43 = .ok (.iconst 1, 1) := by decide +kernel
theorem dX6_wave_44 : decode cX6_wave 44 = .ok (.putfield 65, 3) := by decide +kernel
theorem dX6_wave_47 : decode cX6_wave 47 = .ok (.aload_n 0, 1) := by decide +kernel
theorem dX6_wave_48 : decode cX6_wave 48 = .ok (.getfield 32, 3) := by decide +kernel
theorem dX6_wave_51 : decode cX6_wave 51 = .ok (.getfield 107, 3) := by decide +kernel
theorem dX6_wave_54 : decode cX6_wave 54 = .ok (.ireturn, 1) := by decide +kernel
set_option maxRecDepth 20000 in
theorem ggX6_weeks_X6_isWithin : GoodIn wsX6_weeks wsX6_isWithin := goodIn_r _ [11] (by decide +kernel) (by decide +kernel)
set_option maxRecDepth 20000 in
theorem gX6_weeks_X6_isWithin : GoodIn wsX6_weeks (va_wsS RX6 73 yX6_isWithin wsX6_isWithin) := goodIn_app (goodIn_of _ (by decide +kernel)) ggX6_weeks_X6_isWithin
set_option maxRecDepth 20000 in
theorem ggX6_weeks_X2_goThrough : GoodIn wsX6_weeks wsX2_goThrough := goodIn_r _ [16, 17, 18, 19, 20, 21, 22, 23, 24, 25, 26, 15, 27, 28, 29, 30, 31, 32, 33, 34, 35, 36, 37, 38, 39, 40, 41, 42, 43, 44, 45, 46, 47, 48, 49, 50, 51, 52, 53, 54, 55, 56, 57, 58, 59, 60, 61, 62, 63, 64, 65, 66, 67, 68, 69, 70, 71, 72, 73, 74, 75, 76, 77, 78, 79, 80, 81, 96, 97, 98, 99, 100, 101, 102, 103, 104, 105, 106, 107, 108, 109] (by decide +kernel) (by decide +kernel)
set_option maxRecDepth 20000 in
theorem gX6_weeks_X2_goThrough : GoodIn wsX6_weeks (wsV RX6 120 RX2 yX2_goThrough wsX2_goThrough) := goodIn_app (goodIn_of _ (by decide +kernel)) ggX6_weeks_X2_goThrough
theorem dX6_weeks_0 : decode cX6_weeks 0 = .ok (.iload_n 1, 1) := by decide +kernel
theorem dX6_weeks_1 : decode cX6_weeks 1 = .ok (.iconst 0, 1) := by decide +kernel
theorem dX6_weeks_2 : decode cX6_weeks 2 = .ok (.bipush 120, 2) := by decide +kernel
theorem dX6_weeks_4 : decode cX6_weeks 4 = .ok (.invokestatic 73, 3) := by decide +kernel
theorem dX6_weeks_7 : decode cX6_weeks 7 = .ok (.ifCond .eq 19, 3) := by decide +kernel
theorem dX6_weeks_10 : decode cX6_weeks 10 = .ok (.iload_n 1, 1) := by decide +kernel
theorem dX6_weeks_11 : decode cX6_weeks 11 = .ok (.aload_n 0, 1) := by decide +kernel
theorem dX6_weeks_12 : decode cX6_weeks 12 = .ok (.getfield 32, 3) := by decide +kernel
theorem dX6_weeks_15 : decode cX6_weeks 15 = .ok (.getfield 107, 3) := by decide +kernel
theorem dX6_weeks_18 : decode cX6_weeks 18 = .ok (.aload_n 0, 1) := by decide +kernel
theorem dX6_weeks_19 : decode cX6_weeks 19 = .ok (.getfield 61, 3) := by decide +kernel
theorem dX6_weeks_22 : decode cX6_weeks 22 = .ok (.isub, 1) := by decide +kernel
theorem dX6_weeks_23 : decode cX6_weeks 23 = .ok (.if_icmp .le 5, 3) := by decide +kernel
theorem dX6_weeks_26 : decode cX6_weeks 26 = .ok (.iconst (-1), 1) := by decide +kernel
theorem dX6_weeks_27 : decode cX6_weeks 27 = .ok (.ireturn, 1) := by decide +kernel
theorem dX6_weeks_28 : decode cX6_weeks 28 = .ok (.aload_n 0, 1) := by decide +kernel
theorem dX6_weeks_29 : decode cX6_weeks 29 = .ok (.getfield 61, 3) := by decide +kernel
theorem dX6_weeks_32 : decode cX6_weeks 32 = .ok (.iload_n 1, 1) := by decide +kernel
theorem dX6_weeks_33 : decode cX6_weeks 33 = .ok (.iadd, 1) := by decide +kernel
theorem dX6_weeks_34 : decode cX6_weeks 34 = .ok (.istore_n 2, 1) := by decide +kernel
theorem dX6_weeks_35 : decode cX6_weeks 35 = .ok (.aload_n 0, 1) := by decide +kernel
theorem dX6_weeks_36 : decode cX6_weeks 36 = .ok (.getfield 61, 3) := by decide +kernel
theorem dX6_weeks_39 : decode cX6_weeks 39 = .ok (.istore_n 3, 1) := by decide +kernel
theorem dX6_weeks_40 : decode cX6_weeks 40 = .ok (.iload_n 3, 1) := by decide +kernel
theorem dX6_weeks_41 : decode cX6_weeks 41 = .ok (.iload_n 2, 1) := by decide +kernel
theorem dX6_weeks_42 : decode cX6_weeks 42 = .ok (.if_icmp .ge 38, 3) := by decide +kernel
theorem dX6_weeks_45 : decode cX6_weeks 45 = .ok (.aload_n 0, 1) := by decide +kernel
theorem dX6_weeks_46 : decode cX6_weeks 46 = .ok (.getfield 22, 3) := by decide +kernel
theorem dX6_weeks_49 : decode cX6_weeks 49 = .ok (.aload_n 0, 1) := by decide +kernel
theorem dX6_weeks_50 : decode cX6_weeks 50 = .ok (.getfield 12, 3) := by decide +kernel
theorem dX6_weeks_53 : decode cX6_weeks 53 = .ok (.aload_n 0, 1) := by decide +kernel
theorem dX6_weeks_54 : decode cX6_weeks 54 = .ok (.getfield 32, 3) := by decide +kernel
theorem dX6_weeks_57 : decode cX6_weeks 57 = .ok (.getfield 114, 3) := by decide +kernel
theorem dX6_weeks_60 : decode cX6_weeks 60 = .ok (.iload_n 3, 1) := by decide +kernel
theorem dX6_weeks_61 : decode cX6_weeks 61 = .ok (.iaload, 1) := by decide +kernel
theorem dX6_weeks_62 : decode cX6_weeks 62 = .ok (.aload_n 0, 1) := by decide +kernel
theorem dX6_weeks_63 : decode cX6_weeks 63 = .ok (.getfield 32, 3) := by decide +kernel
theorem dX6_weeks_66 : decode cX6_weeks 66 = .ok (.getfield 117, 3) := by decide +kernel
theorem dX6_weeks_69 : decode cX6_weeks 69 = .ok (.iload_n 3, 1) := by decide +kernel
theorem dX6_weeks_70 : decode cX6_weeks 70 = .ok (.iaload, 1) := by decide +kernel
theorem dX6_weeks_71 : decode cX6_weeks 71 = .ok (.invokevirtual 120, 3) := by decide +kernel
theorem dX6_weeks_74 : decode cX6_weeks 74 = .ok (.iinc 3 1, 3) := by decide +kernel
theorem dX6_weeks_77 : decode cX6_weeks 77 = .ok (.goto (-37), 3) := by decide +kernel
theorem dX6_weeks_80 : decode cX6_weeks 80 = .ok (.aload_n 0, 1) := by decide +kernel
theorem dX6_weeks_81 : decode cX6_weeks 81 = .ok (.iload_n 2, 1) := by decide +kernel
theorem dX6_weeks_82 : decode cX6_weeks 82 = .ok (.putfield 61, 3) := by decide +kernel
theorem dX6_weeks_85 : decode cX6_weeks 85 = .ok (.aload_n 0, 1) := by decide +kernel
theorem dX6_weeks_86 : decode cX6_weeks 86 = .ok (.getfield 61, 3) := by decide +kernel
theorem dX6_weeks_89 : decode cX6_weeks 89 = .ok (.ireturn, 1) := by decide +kernel
set_option maxRecDepth 20000 in
theorem ggX6_dredge_X0_hasAt : GoodIn wsX6_dredge wsX0_hasAt := goodIn_r _ [10, 11, 12, 13, 14, 9, 15, 16, 63, 64, 65, 66, 67, 68, 69, 70] (by decide +kernel) (by decide +kernel)
set_option maxRecDepth 20000 in
theorem gX6_dredge_X0_hasAt : GoodIn wsX6_dredge (wsV RX6 124 RX0 yX0_hasAt wsX0_hasAt) := goodIn_app (goodIn_of _ (by decide +kernel)) ggX6_dredge_X0_hasAt
set_option maxRecDepth 20000 in
theorem ggX6_dredge_X0_hasField : GoodIn wsX6_dredge wsX0_hasField := goodIn_r _ [20, 16, 63, 64, 65, 66, 67, 68, 69, 70] (by decide +kernel) (by decide +kernel)
set_option maxRecDepth 20000 in
theorem gX6_dredge_X0_hasField : GoodIn wsX6_dredge (wsV RX6 80 RX0 yX0_hasField wsX0_hasField) := goodIn_app (goodIn_of _ (by decide +kernel)) ggX6_dredge_X0_hasField
set_option maxRecDepth 20000 in
theorem ggX6_dredge_X6_isWithin : GoodIn wsX6_dredge wsX6_isWithin := goodIn_r _ [24] (by decide +kernel) (by decide +kernel)
set_option maxRecDepth 20000 in
theorem gX6_dredge_X6_isWithin : GoodIn wsX6_dredge (va_wsS RX6 73 yX6_isWithin wsX6_isWithin) := goodIn_app (goodIn_of _ (by decide +kernel)) ggX6_dredge_X6_isWithin
set_option maxRecDepth 20000 in
theorem ggX6_dredge_X1_add : GoodIn wsX6_dredge wsX1_add := goodIn_r _ [29, 30, 31, 32, 33, 34, 58, 59, 60, 61, 62] (by decide +kernel) (by decide +kernel)
set_option maxRecDepth 20000 in
theorem gX6_dredge_X1_add : GoodIn wsX6_dredge (wsV RX6 129 RX1 yX1_add wsX1_add) := goodIn_app (goodIn_of _ (by decide +kernel)) ggX6_dredge_X1_add
set_option maxRecDepth 20000 in
theorem ggX6_dredge_X2_bringFromBar : GoodIn wsX6_dredge wsX2_bringFromBar := goodIn_r _ [39, 40, 41, 42, 43, 44, 45, 46, 71, 72, 73, 74, 75, 76] (by decide +kernel) (by decide +kernel)
set_option maxRecDepth 20000 in
theorem gX6_dredge_X2_bringFromBar : GoodIn wsX6_dredge (wsV RX6 131 RX2 yX2_bringFromBar wsX2_bringFromBar) := goodIn_app (goodIn_of _ (by decide +kernel)) ggX6_dredge_X2_bringFromBar
theorem dX6_dredge_0 : decode cX6_dredge 0 = .ok (.aload_n 0, 1) := by decide +kernel
theorem dX6_dredge_1 : decode cX6_dredge 1 = .ok (.getfield 12, 3) := by decide +kernel
theorem dX6_dredge_4 : decode cX6_dredge 4 = .ok (.iload_n 1, 1) := by decide +kernel
theorem dX6_dredge_5 : decode cX6_dredge 5 = .ok (.iconst 2, 1) := by decide +kernel
theorem dX6_dredge_6 : decode cX6_dredge 6 = .ok (.invokevirtual 124, 3) := by decide +kernel
theorem dX6_dredge_9 : decode cX6_dredge 9 = .ok (.ifCond .eq 14, 3) := by decide +kernel
theorem dX6_dredge_12 : decode cX6_dredge 12 = .ok (.aload_n 0, 1) := by decide +kernel
theorem dX6_dredge_13 : decode cX6_dredge 13 = .ok (.getfield 12, 3) := by decide +kernel
theorem dX6_dredge_16 : decode cX6_dredge 16 = .ok (.iload_n 3, 1) := by decide +kernel
theorem dX6_dredge_17 : decode cX6_dredge 17 = .ok (.invokevirtual 80, 3) := by decide +kernel
theorem dX6_dredge_20 : decode cX6_dredge 20 = .ok (.ifCond .ne 5, 3) := by decide +kernel
theorem dX6_dredge_23 : decode cX6_dredge 23 = .ok (.iconst (-1), 1) := by decide +kernel
theorem dX6_dredge_24 : decode cX6_dredge 24 = .ok (.ireturn, 1) := by decide +kernel
theorem dX6_dredge_25 : decode cX6_dredge 25 = .ok (.iload_n 2, 1) := by decide +kernel
theorem dX6_dredge_26 : decode cX6_dredge 26 = .ok (.iconst 1, 1) := by decide +kernel
theorem dX6_dredge_27 : decode cX6_dredge 27 = .ok (.sipush 9999, 3) := by decide +kernel
theorem dX6_dredge_30 : decode cX6_dredge 30 = .ok (.invokestatic 73, 3) := by decide +kernel
theorem dX6_dredge_33 : decode cX6_dredge 33 = .ok (.ifCond .eq 15, 3) := by decide +kernel
theorem dX6_dredge_36 : decode cX6_dredge 36 = .ok (.aload_n 0, 1) := by decide +kernel
theorem dX6_dredge_37 : decode cX6_dredge 37 = .ok (.getfield 39, 3) := by decide +kernel
theorem dX6_dredge_40 : decode cX6_dredge 40 = .ok (.getfield 128, 3) := by decide +kernel
theorem dX6_dredge_43 : decode cX6_dredge 43 = .ok (.bipush 20, 2) := by decide +kernel
theorem dX6_dredge_45 : decode cX6_dredge 45 = .ok (.if_icmp .lt 5, 3) := by decide +kernel
theorem dX6_dredge_48 : decode cX6_dredge 48 = .ok (.iconst (-1), 1) := by decide +kernel
theorem dX6_dredge_49 : decode cX6_dredge 49 = .ok (.ireturn, 1) := by decide +kernel
theorem dX6_dredge_50 : decode cX6_dredge 50 = .ok (.aload_n 0, 1) := by decide +kernel
theorem dX6_dredge_51 : decode cX6_dredge 51 = .ok (.getfield 39, 3) := by decide +kernel
theorem dX6_dredge_54 : decode cX6_dredge 54 = .ok (.iload_n 1, 1) := by decide +kernel
theorem dX6_dredge_55 : decode cX6_dredge 55 = .ok (.iload_n 2, 1) := by decide +kernel
theorem dX6_dredge_56 : decode cX6_dredge 56 = .ok (.iload_n 3, 1) := by decide +kernel
theorem dX6_dredge_57 : decode cX6_dredge 57 = .ok (.aload_n 0, 1) := by decide +kernel
theorem dX6_dredge_58 : decode cX6_dredge 58 = .ok (.getfield 61, 3) := by decide +kernel
theorem dX6_dredge_61 : decode cX6_dredge 61 = .ok (.invokevirtual 129, 3) := by decide +kernel
theorem dX6_dredge_64 : decode cX6_dredge 64 = .ok (.aload_n 0, 1) := by decide +kernel
theorem dX6_dredge_65 : decode cX6_dredge 65 = .ok (.getfield 22, 3) := by decide +kernel
theorem dX6_dredge_68 : decode cX6_dredge 68 = .ok (.iload_n 1, 1) := by decide +kernel
theorem dX6_dredge_69 : decode cX6_dredge 69 = .ok (.iload_n 2, 1) := by decide +kernel
theorem dX6_dredge_70 : decode cX6_dredge 70 = .ok (.iload_n 3, 1) := by decide +kernel
theorem dX6_dredge_71 : decode cX6_dredge 71 = .ok (.invokevirtual 131, 3) := by decide +kernel
theorem dX6_dredge_74 : decode cX6_dredge 74 = .ok (.ireturn, 1) := by decide +kernel
set_option maxRecDepth 20000 in
theorem ggX6_line_X0_hasField : GoodIn wsX6_line wsX0_hasField := goodIn_r _ [9, 10, 28, 29, 30, 31, 32, 33, 34, 35] (by decide +kernel) (by decide +kernel)
set_option maxRecDepth 20000 in
theorem gX6_line_X0_hasField : GoodIn wsX6_line (wsV RX6 80 RX0 yX0_hasField wsX0_hasField) := goodIn_app (goodIn_of _ (by decide +kernel)) ggX6_line_X0_hasField
set_option maxRecDepth 20000 in
theorem ggX6_line_X2_lineOf : GoodIn wsX6_line wsX2_lineOf := goodIn_r _ [15, 16, 36, 37, 38, 39, 40, 41] (by decide +kernel) (by decide +kernel)
set_option maxRecDepth 20000 in
theorem gX6_line_X2_lineOf : GoodIn wsX6_line (wsV RX6 142 RX2 yX2_lineOf wsX2_lineOf) := goodIn_app (goodIn_of _ (by decide +kernel)) ggX6_line_X2_lineOf
theorem dX6_line_0 : decode cX6_line 0 = .ok (.aload_n 0, 1) := by decide +kernel
theorem dX6_line_1 : decode cX6_line 1 = .ok (.getfield 12, 3) := by decide +kernel
theorem dX6_line_4 : decode cX6_line 4 = .ok (.iload_n 1, 1) := by decide +kernel
theorem dX6_line_5 : decode cX6_line 5 = .ok (.invokevirtual 80, 3) := by decide +kernel
theorem dX6_line_8 : decode cX6_line 8 = .ok (.ifCond .ne 13, 3) := by decide +kernel
theorem dX6_line_11 : decode cX6_line 11 = .ok (.new 135, 3) := by decide +kernel
theorem dX6_line_14 : decode cX6_line 14 = .ok (.dup, 1) := by decide +kernel
theorem dX6_line_15 : decode cX6_line 15 = .ok (.ldc 137, 2) := by decide +kernel
theorem dX6_line_17 : decode cX6_line 17 = .ok (.invokespecial 139, 3) := by decide +kernel
theorem dX6_line_20 : decode cX6_line 20 = .ok (.athrow, 1) := by decide +kernel
theorem dX6_line_21 : decode cX6_line 21 = .ok (.aload_n 0, 1) := by decide +kernel
theorem dX6_line_22 : decode cX6_line 22 = .ok (.getfield 22, 3) := by decide +kernel
theorem dX6_line_25 : decode cX6_line 25 = .ok (.iload_n 1, 1) := by decide +kernel
theorem dX6_line_26 : decode cX6_line 26 = .ok (.invokevirtual 142, 3) := by decide +kernel
theorem dX6_line_29 : decode cX6_line 29 = .ok (.ireturn, 1) := by decide +kernel
set_option maxRecDepth 20000 in
theorem ggX6_look_X0_hasField : GoodIn wsX6_look wsX0_hasField := goodIn_r _ [10, 11, 29, 30, 31, 32, 33, 34, 35, 36] (by decide +kernel) (by decide +kernel)
set_option maxRecDepth 20000 in
theorem gX6_look_X0_hasField : GoodIn wsX6_look (wsV RX6 80 RX0 yX0_hasField wsX0_hasField) := goodIn_app (goodIn_of _ (by decide +kernel)) ggX6_look_X0_hasField
theorem dX6_look_0 : decode cX6_look 0 = .ok (.aload_n 0, 1) := by decide +kernel
theorem dX6_look_1 : decode cX6_look 1 = .ok (.getfield 12, 3) := by decide +kernel
theorem dX6_look_4 : decode cX6_look 4 = .ok (.iload_n 1, 1) := by decide +kernel
theorem dX6_look_5 : decode cX6_look 5 = .ok (.invokevirtual 80, 3) := by decide +kernel
theorem dX6_look_8 : decode cX6_look 8 = .ok (.ifCond .ne 5, 3) := by decide +kernel
theorem dX6_look_11 : decode cX6_look 11 = .ok (.iconst (-1), 1) := by decide +kernel
theorem dX6_look_12 : decode cX6_look 12 = .ok (.ireturn, 1) := by decide +kernel
theorem dX6_look_13 : decode cX6_look 13 = .ok (.iload_n 2, 1) := by decide +kernel
theorem dX6_look_14 : decode cX6_look 14 = .ok (.tableswitch 56 0 2 #[26, 36, 46], 26) := by decide +kernel
theorem dX6_look_40 : decode cX6_look 40 = .ok (.aload_n 0, 1) := by decide +kernel
theorem dX6_look_41 : decode cX6_look 41 = .ok (.getfield 22, 3) := by decide +kernel
theorem dX6_look_44 : decode cX6_look 44 = .ok (.getfield 146, 3) := by decide +kernel
theorem dX6_look_47 : decode cX6_look 47 = .ok (.iload_n 1, 1) := by decide +kernel
theorem dX6_look_48 : decode cX6_look 48 = .ok (.iaload, 1) := by decide +kernel
theorem dX6_look_49 : decode cX6_look 49 = .ok (.ireturn, 1) := by decide +kernel
theorem dX6_look_50 : decode cX6_look 50 = .ok (.aload_n 0, 1) := by decide +kernel
theorem dX6_look_51 : decode cX6_look 51 = .ok (.getfield 22, 3) := by decide +kernel
theorem dX6_look_54 : decode cX6_look 54 = .ok (.getfield 147, 3) := by decide +kernel
theorem dX6_look_57 : decode cX6_look 57 = .ok (.iload_n 1, 1) := by decide +kernel
theorem dX6_look_58 : decode cX6_look 58 = .ok (.iaload, 1) := by decide +kernel
theorem dX6_look_59 : decode cX6_look 59 = .ok (.ireturn, 1) := by decide +kernel
theorem dX6_look_60 : decode cX6_look 60 = .ok (.aload_n 0, 1) := by decide +kernel
theorem dX6_look_61 : decode cX6_look 61 = .ok (.getfield 22, 3) := by decide +kernel
theorem dX6_look_64 : decode cX6_look 64 = .ok (.getfield 150, 3) := by decide +kernel
theorem dX6_look_67 : decode cX6_look 67 = .ok (.iload_n 1, 1) := by decide +kernel
theorem dX6_look_68 : decode cX6_look 68 = .ok (.iaload, 1) := by decide +kernel
theorem dX6_look_69 : decode cX6_look 69 = .ok (.ireturn, 1) := by decide +kernel
theorem dX6_look_70 : decode cX6_look 70 = .ok (.iconst (-1), 1) := by decide +kernel
theorem dX6_look_71 : decode cX6_look 71 = .ok (.ireturn, 1) := by decide +kernel
set_option maxRecDepth 20000 in
theorem ggX6_border_X0_hasBorder : GoodIn wsX6_border wsX0_hasBorder := goodIn_r _ [13, 14, 26, 27, 28, 29, 30, 31, 32, 33] (by decide +kernel) (by decide +kernel)
set_option maxRecDepth 20000 in
theorem gX6_border_X0_hasBorder : GoodIn wsX6_border (wsV RX6 153 RX0 yX0_hasBorder wsX0_hasBorder) := goodIn_app (goodIn_of _ (by decide +kernel)) ggX6_border_X0_hasBorder
theorem dX6_border_0 : decode cX6_border 0 = .ok (.aload_n 0, 1) := by decide +kernel
theorem dX6_border_1 : decode cX6_border 1 = .ok (.getfield 12, 3) := by decide +kernel
theorem dX6_border_4 : decode cX6_border 4 = .ok (.iload_n 1, 1) := by decide +kernel
theorem dX6_border_5 : decode cX6_border 5 = .ok (.invokevirtual 153, 3) := by decide +kernel
theorem dX6_border_8 : decode cX6_border 8 = .ok (.ifCond .ne 15, 3) := by decide +kernel
theorem dX6_border_11 : decode cX6_border 11 = .ok (.iload_n 2, 1) := by decide +kernel
theorem dX6_border_12 : decode cX6_border 12 = .ok (.iconst 3, 1) := by decide +kernel
theorem dX6_border_13 : decode cX6_border 13 = .ok (.if_icmp .ne 8, 3) := by decide +kernel
theorem dX6_border_16 : decode cX6_border 16 = .ok (.ldc 156, 2) := by decide +kernel
theorem dX6_border_18 : decode cX6_border 18 = .ok (.goto 4, 3) := by decide +kernel
theorem dX6_border_21 : decode cX6_border 21 = .ok (.iconst (-1), 1) := by decide +kernel
theorem dX6_border_22 : decode cX6_border 22 = .ok (.ireturn, 1) := by decide +kernel
theorem dX6_border_23 : decode cX6_border 23 = .ok (.aload_n 0, 1) := by decide +kernel
theorem dX6_border_24 : decode cX6_border 24 = .ok (.getfield 12, 3) := by decide +kernel
theorem dX6_border_27 : decode cX6_border 27 = .ok (.getfield 157, 3) := by decide +kernel
theorem dX6_border_30 : decode cX6_border 30 = .ok (.iload_n 1, 1) := by decide +kernel
theorem dX6_border_31 : decode cX6_border 31 = .ok (.iaload, 1) := by decide +kernel
theorem dX6_border_32 : decode cX6_border 32 = .ok (.istore_n 3, 1) := by decide +kernel
theorem dX6_border_33 : decode cX6_border 33 = .ok (.iload_n 2, 1) := by decide +kernel
theorem dX6_border_34 : decode cX6_border 34 = .ok (.tableswitch 94 0 3 #[30, 32, 50, 84], 30) := by decide +kernel
theorem dX6_border_64 : decode cX6_border 64 = .ok (.iload_n 3, 1) := by decide +kernel
theorem dX6_border_65 : decode cX6_border 65 = .ok (.ireturn, 1) := by decide +kernel
theorem dX6_border_66 : decode cX6_border 66 = .ok (.iload_n 3, 1) := by decide +kernel
theorem dX6_border_67 : decode cX6_border 67 = .ok (.ifCond .ne 7, 3) := by decide +kernel
theorem dX6_border_70 : decode cX6_border 70 = .ok (.iconst (-1), 1) := by decide +kernel
theorem dX6_border_71 : decode cX6_border 71 = .ok (.goto 12, 3) := by decide +kernel
theorem dX6_border_74 : decode cX6_border 74 = .ok (.aload_n 0, 1) := by decide +kernel
theorem dX6_border_75 : decode cX6_border 75 = .ok (.getfield 12, 3) := by decide +kernel
theorem dX6_border_78 : decode cX6_border 78 = .ok (.getfield 160, 3) := by decide +kernel
theorem dX6_border_81 : decode cX6_border 81 = .ok (.iload_n 1, 1) := by decide +kernel
theorem dX6_border_82 : decode cX6_border 82 = .ok (.iaload, 1) := by decide +kernel
theorem dX6_border_83 : decode cX6_border 83 = .ok (.ireturn, 1) := by decide +kernel
theorem dX6_border_84 : decode cX6_border 84 = .ok (.iload_n 3, 1) := by decide +kernel
theorem dX6_border_85 : decode cX6_border 85 = .ok (.iconst 2, 1) := by decide +kernel
theorem dX6_border_86 : decode cX6_border 86 = .ok (.if_icmp .ne 13, 3) := by decide +kernel
theorem dX6_border_89 : decode cX6_border 89 = .ok (.aload_n 0, 1) := by decide +kernel
theorem dX6_border_90 : decode cX6_border 90 = .ok (.getfield 22, 3) := by decide +kernel
theorem dX6_border_93 : decode cX6_border 93 = .ok (.getfield 163, 3) := by decide +kernel
theorem dX6_border_96 : decode cX6_border 96 = .ok (.iload_n 1, 1) := by decide +kernel
theorem dX6_border_97 : decode cX6_border 97 = .ok (.iaload, 1) := by decide +kernel
theorem dX6_border_98 : decode cX6_border 98 = .ok (.ireturn, 1) := by decide +kernel
theorem dX6_border_99 : decode cX6_border 99 = .ok (.iload_n 3, 1) := by decide +kernel
theorem dX6_border_100 : decode cX6_border 100 = .ok (.iconst 1, 1) := by decide +kernel
theorem dX6_border_101 : decode cX6_border 101 = .ok (.if_icmp .ne 15, 3) := by decide +kernel
theorem dX6_border_104 : decode cX6_border 104 = .ok (.aload_n 0, 1) := by decide +kernel
theorem dX6_border_105 : decode cX6_border 105 = .ok (.getfield 12, 3) := by decide +kernel
theorem dX6_border_108 : decode cX6_border 108 = .ok (.getfield 166, 3) := by decide +kernel
theorem dX6_border_111 : decode cX6_border 111 = .ok (.iload_n 1, 1) := by decide +kernel
theorem dX6_border_112 : decode cX6_border 112 = .ok (.iaload, 1) := by decide +kernel
theorem dX6_border_113 : decode cX6_border 113 = .ok (.goto 4, 3) := by decide +kernel
theorem dX6_border_116 : decode cX6_border 116 = .ok (.iconst (-1), 1) := by decide +kernel
theorem dX6_border_117 : decode cX6_border 117 = .ok (.ireturn, 1) := by decide +kernel
theorem dX6_border_118 : decode cX6_border 118 = .ok (.aload_n 0, 1) := by decide +kernel
theorem dX6_border_119 : decode cX6_border 119 = .ok (.getfield 22, 3) := by decide +kernel
theorem dX6_border_122 : decode cX6_border 122 = .ok (.getfield 169, 3) := by decide +kernel
theorem dX6_border_125 : decode cX6_border 125 = .ok (.iload_n 1, 1) := by decide +kernel
theorem dX6_border_126 : decode cX6_border 126 = .ok (.iaload, 1) := by decide +kernel
theorem dX6_border_127 : decode cX6_border 127 = .ok (.ireturn, 1) := by decide +kernel
theorem dX6_border_128 : decode cX6_border 128 = .ok (.iconst (-1), 1) := by decide +kernel
theorem dX6_border_129 : decode cX6_border 129 = .ok (.ireturn, 1) := by decide +kernel
set_option maxRecDepth 20000 in
theorem ggX6_without_X0_hasField : GoodIn wsX6_without wsX0_hasField := goodIn_r _ [6, 7, 153, 154, 155, 156, 157, 158, 159, 160] (by decide +kernel) (by decide +kernel)
set_option maxRecDepth 20000 in
theorem gX6_without_X0_hasField : GoodIn wsX6_without (wsV RX6 80 RX0 yX0_hasField wsX0_hasField) := goodIn_app (goodIn_of _ (by decide +kernel)) ggX6_without_X0_hasField
set_option maxRecDepth 20000 in
theorem ggX6_without_X0_hasGroynes : GoodIn wsX6_without wsX0_hasGroynes := goodIn_r _ [11, 7, 12, 153, 154, 155, 156, 157, 158, 159, 160] (by decide +kernel) (by decide +kernel)
set_option maxRecDepth 20000 in
theorem gX6_without_X0_hasGroynes : GoodIn wsX6_without (wsV RX6 172 RX0 yX0_hasGroynes wsX0_hasGroynes) := goodIn_app (goodIn_of _ (by decide +kernel)) ggX6_without_X0_hasGroynes
set_option maxRecDepth 20000 in
theorem ggX6_without_X6_lineLeavingAway : GoodIn wsX6_without wsX6_lineLeavingAway := goodIn_r _ [17, 18, 1, 19, 20, 21, 22, 23, 5, 24, 7, 25, 26, 27, 28, 29, 30, 31, 32, 12, 33, 34, 35, 36, 37, 38, 39, 40, 41, 42, 43, 44, 45, 46, 47, 48, 49, 50, 51, 52, 53, 54, 55, 56, 57, 58, 59, 60, 61, 16, 62, 63, 64, 65, 66, 67, 68, 69, 70, 71, 72, 73, 74, 75, 76, 77, 78, 79, 80, 81, 82, 83, 84, 85, 86, 87, 88, 89, 90, 91, 92, 93, 94, 95, 96, 97, 98, 99, 100, 101, 102, 103, 104, 105, 106, 107, 108, 109, 110, 111, 112, 113, 114, 115, 116, 117, 118, 119, 120, 121, 122, 123, 124, 125, 126, 127, 128, 129, 130, 131, 132, 133, 134, 135, 136, 137, 138, 139, 140, 141, 142, 143, 144, 145, 146, 147, 148, 149, 150, 151, 152, 153, 154, 155, 156, 157, 158, 159, 160, 161, 162, 163, 164, 165, 166, 167, 168, 169, 170, 171, 172, 173, 174] (by decide +kernel) (by decide +kernel)
set_option maxRecDepth 20000 in
theorem gX6_without_X6_lineLeavingAway : GoodIn wsX6_without (wsV RX6 175 RX6 yX6_lineLeavingAway wsX6_lineLeavingAway) := goodIn_app (goodIn_of _ (by decide +kernel)) ggX6_without_X6_lineLeavingAway
theorem dX6_without_0 : decode cX6_without 0 = .ok (.aload_n 0, 1) := by decide +kernel
theorem dX6_without_1 : decode cX6_without 1 = .ok (.getfield 12, 3) := by decide +kernel
theorem dX6_without_4 : decode cX6_without 4 = .ok (.iload_n 2, 1) := by decide +kernel
theorem dX6_without_5 : decode cX6_without 5 = .ok (.invokevirtual 80, 3) := by decide +kernel
theorem dX6_without_8 : decode cX6_without 8 = .ok (.ifCond .eq 14, 3) := by decide +kernel
theorem dX6_without_11 : decode cX6_without 11 = .ok (.aload_n 0, 1) := by decide +kernel
theorem dX6_without_12 : decode cX6_without 12 = .ok (.getfield 12, 3) := by decide +kernel
theorem dX6_without_15 : decode cX6_without 15 = .ok (.iload_n 1, 1) := by decide +kernel
theorem dX6_without_16 : decode cX6_without 16 = .ok (.invokevirtual 172, 3) := by decide +kernel
theorem dX6_without_19 : decode cX6_without 19 = .ok (.ifCond .ne 5, 3) := by decide +kernel
theorem dX6_without_22 : decode cX6_without 22 = .ok (.iconst (-1), 1) := by decide +kernel
theorem dX6_without_23 : decode cX6_without 23 = .ok (.ireturn, 1) := by decide +kernel
theorem dX6_without_24 : decode cX6_without 24 = .ok (.aload_n 0, 1) := by decide +kernel
theorem dX6_without_25 : decode cX6_without 25 = .ok (.iload_n 1, 1) := by decide +kernel
theorem dX6_without_26 : decode cX6_without 26 = .ok (.iload_n 2, 1) := by decide +kernel
theorem dX6_without_27 : decode cX6_without 27 = .ok (.invokevirtual 175, 3) := by decide +kernel
theorem dX6_without_30 : decode cX6_without 30 = .ok (.ireturn, 1) := by decide +kernel
set_option maxRecDepth 20000 in
theorem ggX6_share_X0_hasField : GoodIn wsX6_share wsX0_hasField := goodIn_r _ [8, 9, 169, 170, 171, 172, 173, 174, 175, 176] (by decide +kernel) (by decide +kernel)
set_option maxRecDepth 20000 in
theorem gX6_share_X0_hasField : GoodIn wsX6_share (wsV RX6 80 RX0 yX0_hasField wsX0_hasField) := goodIn_app (goodIn_of _ (by decide +kernel)) ggX6_share_X0_hasField
set_option maxRecDepth 20000 in
theorem ggX6_share_X0_hasGroynes : GoodIn wsX6_share wsX0_hasGroynes := goodIn_r _ [13, 9, 14, 169, 170, 171, 172, 173, 174, 175, 176] (by decide +kernel) (by decide +kernel)
set_option maxRecDepth 20000 in
theorem gX6_share_X0_hasGroynes : GoodIn wsX6_share (wsV RX6 172 RX0 yX0_hasGroynes wsX0_hasGroynes) := goodIn_app (goodIn_of _ (by decide +kernel)) ggX6_share_X0_hasGroynes
set_option maxRecDepth 20000 in
theorem ggX6_share_J6_bitCount_0f7a4 : GoodIn wsX6_share wsJ6_bitCount_0f7a4 := goodIn_r _ [18, 19, 20, 21] (by decide +kernel) (by decide +kernel)
set_option maxRecDepth 20000 in
theorem gX6_share_J6_bitCount_0f7a4 : GoodIn wsX6_share (va_wsS RX6 179 yJ6_bitCount_0f7a4 wsJ6_bitCount_0f7a4) := goodIn_app (goodIn_of _ (by decide +kernel)) ggX6_share_J6_bitCount_0f7a4
set_option maxRecDepth 20000 in
theorem ggX6_share_X0_hasBorder : GoodIn wsX6_share wsX0_hasBorder := goodIn_r _ [25, 9, 169, 170, 171, 172, 173, 174, 175, 176] (by decide +kernel) (by decide +kernel)
set_option maxRecDepth 20000 in
theorem gX6_share_X0_hasBorder : GoodIn wsX6_share (wsV RX6 153 RX0 yX0_hasBorder wsX0_hasBorder) := goodIn_app (goodIn_of _ (by decide +kernel)) ggX6_share_X0_hasBorder
set_option maxRecDepth 20000 in
theorem ggX6_share_X6_factorial : GoodIn wsX6_share wsX6_factorial := goodIn_r _ [29] (by decide +kernel) (by decide +kernel)
set_option maxRecDepth 20000 in
theorem gX6_share_X6_factorial : GoodIn wsX6_share (va_wsS RX6 188 yX6_factorial wsX6_factorial) := goodIn_app (goodIn_of _ (by decide +kernel)) ggX6_share_X6_factorial
set_option maxRecDepth 20000 in
theorem ggX6_share_X6_lineLeavingAway : GoodIn wsX6_share wsX6_lineLeavingAway := goodIn_r _ [33, 34, 3, 35, 36, 37, 38, 39, 7, 40, 9, 41, 42, 43, 44, 45, 46, 47, 48, 14, 49, 50, 51, 52, 53, 54, 55, 56, 57, 58, 59, 60, 61, 62, 63, 64, 65, 66, 67, 68, 69, 70, 71, 72, 73, 74, 75, 76, 77, 28, 78, 79, 80, 81, 82, 83, 84, 85, 86, 87, 88, 89, 90, 91, 92, 93, 94, 95, 96, 97, 98, 99, 100, 101, 102, 103, 104, 105, 106, 107, 108, 109, 110, 111, 112, 113, 114, 115, 116, 117, 118, 119, 120, 121, 122, 123, 124, 125, 126, 127, 128, 129, 130, 131, 132, 133, 134, 135, 136, 137, 138, 139, 140, 141, 142, 143, 144, 145, 146, 147, 148, 149, 150, 151, 152, 153, 154, 155, 156, 157, 158, 159, 160, 161, 162, 163, 164, 165, 166, 167, 168, 169, 170, 171, 172, 173, 174, 175, 176, 177, 178, 179, 180, 181, 182, 183, 184, 185, 186, 187, 188, 189, 190] (by decide +kernel) (by decide +kernel)
set_option maxRecDepth 20000 in
theorem gX6_share_X6_lineLeavingAway : GoodIn wsX6_share (wsV RX6 175 RX6 yX6_lineLeavingAway wsX6_lineLeavingAway) := goodIn_app (goodIn_of _ (by decide +kernel)) ggX6_share_X6_lineLeavingAway
theorem dX6_share_0 : decode cX6_share 0 = .ok (.aload_n 0, 1) := by decide +kernel
theorem dX6_share_1 : decode cX6_share 1 = .ok (.getfield 12, 3) := by decide +kernel
theorem dX6_share_4 : decode cX6_share 4 = .ok (.iload_n 3, 1) := by decide +kernel
theorem dX6_share_5 : decode cX6_share 5 = .ok (.invokevirtual 80, 3) := by decide +kernel
theorem dX6_share_8 : decode cX6_share 8 = .ok (.ifCond .eq 22, 3) := by decide +kernel
theorem dX6_share_11 : decode cX6_share 11 = .ok (.aload_n 0, 1) := by decide +kernel
theorem dX6_share_12 : decode cX6_share 12 = .ok (.getfield 12, 3) := by decide +kernel
theorem dX6_share_15 : decode cX6_share 15 = .ok (.iload_n 2, 1) := by decide +kernel
theorem dX6_share_16 : decode cX6_share 16 = .ok (.invokevirtual 172, 3) := by decide +kernel
theorem dX6_share_19 : decode cX6_share 19 = .ok (.ifCond .eq 11, 3) := by decide +kernel
theorem dX6_share_22 : decode cX6_share 22 = .ok (.iload_n 2, 1) := by decide +kernel
theorem dX6_share_23 : decode cX6_share 23 = .ok (.invokestatic 179, 3) := by decide +kernel
theorem dX6_share_26 : decode cX6_share 26 = .ok (.iconst 4, 1) := by decide +kernel
theorem dX6_share_27 : decode cX6_share 27 = .ok (.if_icmp .le 13, 3) := by decide +kernel
theorem dX6_share_30 : decode cX6_share 30 = .ok (.new 135, 3) := by decide +kernel
theorem dX6_share_33 : decode cX6_share 33 = .ok (.dup, 1) := by decide +kernel
theorem dX6_share_34 : decode cX6_share 34 = .ok (.ldc 184, 2) := by decide +kernel
theorem dX6_share_36 : decode cX6_share 36 = .ok (.invokespecial 139, 3) := by decide +kernel
theorem dX6_share_39 : decode cX6_share 39 = .ok (.athrow, 1) := by decide +kernel
theorem dX6_share_40 : decode cX6_share 40 = .ok (.aload_n 0, 1) := by decide +kernel
theorem dX6_share_41 : decode cX6_share 41 = .ok (.getfield 12, 3) := by decide +kernel
theorem dX6_share_44 : decode cX6_share 44 = .ok (.iload_n 1, 1) := by decide +kernel
theorem dX6_share_45 : decode cX6_share 45 = .ok (.invokevirtual 153, 3) := by decide +kernel
theorem dX6_share_48 : decode cX6_share 48 = .ok (.ifCond .eq 11, 3) := by decide +kernel
theorem dX6_share_51 : decode cX6_share 51 = .ok (.iload_n 2, 1) := by decide +kernel
theorem dX6_share_52 : decode cX6_share 52 = .ok (.iconst 1, 1) := by decide +kernel
theorem dX6_share_53 : decode cX6_share 53 = .ok (.iload_n 1, 1) := by decide +kernel
theorem dX6_share_54 : decode cX6_share 54 = .ok (.ishl, 1) := by decide +kernel
theorem dX6_share_55 : decode cX6_share 55 = .ok (.iand, 1) := by decide +kernel
theorem dX6_share_56 : decode cX6_share 56 = .ok (.ifCond .ne 13, 3) := by decide +kernel
theorem dX6_share_59 : decode cX6_share 59 = .ok (.new 135, 3) := by decide +kernel
theorem dX6_share_62 : decode cX6_share 62 = .ok (.dup, 1) := by decide +kernel
theorem dX6_share_63 : decode cX6_share 63 = .ok (.ldc 186, 2) := by decide +kernel
theorem dX6_share_65 : decode cX6_share 65 = .ok (.invokespecial 139, 3) := by decide +kernel
theorem dX6_share_68 : decode cX6_share 68 = .ok (.athrow, 1) := by decide +kernel
theorem dX6_share_69 : decode cX6_share 69 = .ok (.iconst 1, 1) := by decide +kernel
theorem dX6_share_70 : decode cX6_share 70 = .ok (.iload_n 1, 1) := by decide +kernel
theorem dX6_share_71 : decode cX6_share 71 = .ok (.ishl, 1) := by decide +kernel
theorem dX6_share_72 : decode cX6_share 72 = .ok (.istore 4, 2) := by decide +kernel
theorem dX6_share_74 : decode cX6_share 74 = .ok (.iload_n 2, 1) := by decide +kernel
theorem dX6_share_75 : decode cX6_share 75 = .ok (.iload 4, 2) := by decide +kernel
theorem dX6_share_77 : decode cX6_share 77 = .ok (.iconst (-1), 1) := by decide +kernel
theorem dX6_share_78 : decode cX6_share 78 = .ok (.ixor, 1) := by decide +kernel
theorem dX6_share_79 : decode cX6_share 79 = .ok (.iand, 1) := by decide +kernel
theorem dX6_share_80 : decode cX6_share 80 = .ok (.istore 5, 2) := by decide +kernel
theorem dX6_share_82 : decode cX6_share 82 = .ok (.iload 5, 2) := by decide +kernel
theorem dX6_share_84 : decode cX6_share 84 = .ok (.invokestatic 179, 3) := by decide +kernel
theorem dX6_share_87 : decode cX6_share 87 = .ok (.istore 6, 2) := by decide +kernel
theorem dX6_share_89 : decode cX6_share 89 = .ok (.iconst 0, 1) := by decide +kernel
theorem dX6_share_90 : decode cX6_share 90 = .ok (.istore 7, 2) := by decide +kernel
theorem dX6_share_92 : decode cX6_share 92 = .ok (.iconst 0, 1) := by decide +kernel
theorem dX6_share_93 : decode cX6_share 93 = .ok (.istore 8, 2) := by decide +kernel
theorem dX6_share_95 : decode cX6_share 95 = .ok (.iload 8, 2) := by decide +kernel
theorem dX6_share_97 : decode cX6_share 97 = .ok (.iload 5, 2) := by decide +kernel
theorem dX6_share_99 : decode cX6_share 99 = .ok (.if_icmp .gt 68, 3) := by decide +kernel
theorem dX6_share_102 : decode cX6_share 102 = .ok (.iload 8, 2) := by decide +kernel
theorem dX6_share_104 : decode cX6_share 104 = .ok (.iload 5, 2) := by decide +kernel
theorem dX6_share_106 : decode cX6_share 106 = .ok (.iand, 1) := by decide +kernel
theorem dX6_share_107 : decode cX6_share 107 = .ok (.iload 8, 2) := by decide +kernel
theorem dX6_share_109 : decode cX6_share 109 = .ok (.if_icmp .ne 52, 3) := by decide +kernel
theorem dX6_share_112 : decode cX6_share 112 = .ok (.iload 8, 2) := by decide +kernel
theorem dX6_share_114 : decode cX6_share 114 = .ok (.invokestatic 179, 3) := by decide +kernel
theorem dX6_share_117 : decode cX6_share 117 = .ok (.istore 9, 2) := by decide +kernel
theorem dX6_share_119 : decode cX6_share 119 = .ok (.iload 9, 2) := by decide +kernel
theorem dX6_share_121 : decode cX6_share 121 = .ok (.invokestatic 188, 3) := by decide +kernel
theorem dX6_share_124 : decode cX6_share 124 = .ok (.iload 6, 2) := by decide +kernel
theorem dX6_share_126 : decode cX6_share 126 = .ok (.iload 9, 2) := by decide +kernel
theorem dX6_share_128 : decode cX6_share 128 = .ok (.isub, 1) := by decide +kernel
theorem dX6_share_129 : decode cX6_share 129 = .ok (.invokestatic 188, 3) := by decide +kernel
theorem dX6_share_132 : decode cX6_share 132 = .ok (.imul, 1) := by decide +kernel
theorem dX6_share_133 : decode cX6_share 133 = .ok (.istore 10, 2) := by decide +kernel
theorem dX6_share_135 : decode cX6_share 135 = .ok (.iload 7, 2) := by decide +kernel
theorem dX6_share_137 : decode cX6_share 137 = .ok (.iload 10, 2) := by decide +kernel
theorem dX6_share_139 : decode cX6_share 139 = .ok (.aload_n 0, 1) := by decide +kernel
theorem dX6_share_140 : decode cX6_share 140 = .ok (.iload 8, 2) := by decide +kernel
theorem dX6_share_142 : decode cX6_share 142 = .ok (.iload 4, 2) := by decide +kernel
theorem dX6_share_144 : decode cX6_share 144 = .ok (.ior, 1) := by decide +kernel
theorem dX6_share_145 : decode cX6_share 145 = .ok (.iload_n 3, 1) := by decide +kernel
theorem dX6_share_146 : decode cX6_share 146 = .ok (.invokevirtual 175, 3) := by decide +kernel
theorem dX6_share_149 : decode cX6_share 149 = .ok (.aload_n 0, 1) := by decide +kernel
theorem dX6_share_150 : decode cX6_share 150 = .ok (.iload 8, 2) := by decide +kernel
theorem dX6_share_152 : decode cX6_share 152 = .ok (.iload_n 3, 1) := by decide +kernel
theorem dX6_share_153 : decode cX6_share 153 = .ok (.invokevirtual 175, 3) := by decide +kernel
theorem dX6_share_156 : decode cX6_share 156 = .ok (.isub, 1) := by decide +kernel
theorem dX6_share_157 : decode cX6_share 157 = .ok (.imul, 1) := by decide +kernel
theorem dX6_share_158 : decode cX6_share 158 = .ok (.iadd, 1) := by decide +kernel
theorem dX6_share_159 : decode cX6_share 159 = .ok (.istore 7, 2) := by decide +kernel
theorem dX6_share_161 : decode cX6_share 161 = .ok (.iinc 8 1, 3) := by decide +kernel
theorem dX6_share_164 : decode cX6_share 164 = .ok (.goto (-69), 3) := by decide +kernel
theorem dX6_share_167 : decode cX6_share 167 = .ok (.iload 7, 2) := by decide +kernel
theorem dX6_share_169 : decode cX6_share 169 = .ok (.ireturn, 1) := by decide +kernel
set_option maxRecDepth 20000 in
theorem ggX6_work_X6_isWithin : GoodIn wsX6_work wsX6_isWithin := goodIn_r _ [8] (by decide +kernel) (by decide +kernel)
set_option maxRecDepth 20000 in
theorem gX6_work_X6_isWithin : GoodIn wsX6_work (va_wsS RX6 73 yX6_isWithin wsX6_isWithin) := goodIn_app (goodIn_of _ (by decide +kernel)) ggX6_work_X6_isWithin
set_option maxRecDepth 20000 in
theorem ggX6_work_X0_hasField : GoodIn wsX6_work wsX0_hasField := goodIn_r _ [13, 14, 50, 51, 52, 53, 54, 55, 56, 57] (by decide +kernel) (by decide +kernel)
set_option maxRecDepth 20000 in
theorem gX6_work_X0_hasField : GoodIn wsX6_work (wsV RX6 80 RX0 yX0_hasField wsX0_hasField) := goodIn_app (goodIn_of _ (by decide +kernel)) ggX6_work_X0_hasField
set_option maxRecDepth 20000 in
theorem ggX6_work_X0_hasAt : GoodIn wsX6_work wsX0_hasAt := goodIn_r _ [18, 19, 20, 21, 22, 12, 23, 14, 50, 51, 52, 53, 54, 55, 56, 57] (by decide +kernel) (by decide +kernel)
set_option maxRecDepth 20000 in
theorem gX6_work_X0_hasAt : GoodIn wsX6_work (wsV RX6 124 RX0 yX0_hasAt wsX0_hasAt) := goodIn_app (goodIn_of _ (by decide +kernel)) ggX6_work_X0_hasAt
set_option maxRecDepth 20000 in
theorem ggX6_work_X5_add : GoodIn wsX6_work wsX5_add := goodIn_r _ [28, 29, 30, 31, 32, 33, 45, 46, 47, 48, 49] (by decide +kernel) (by decide +kernel)
set_option maxRecDepth 20000 in
theorem gX6_work_X5_add : GoodIn wsX6_work (wsV RX6 192 RX5 yX5_add wsX5_add) := goodIn_app (goodIn_of _ (by decide +kernel)) ggX6_work_X5_add
theorem dX6_work_0 : decode cX6_work 0 = .ok (.iload 4, 2) := by decide +kernel
theorem dX6_work_2 : decode cX6_work 2 = .ok (.iconst 1, 1) := by decide +kernel
theorem dX6_work_3 : decode cX6_work 3 = .ok (.sipush 999, 3) := by decide +kernel
theorem dX6_work_6 : decode cX6_work 6 = .ok (.invokestatic 73, 3) := by decide +kernel
theorem dX6_work_9 : decode cX6_work 9 = .ok (.ifCond .eq 15, 3) := by decide +kernel
theorem dX6_work_12 : decode cX6_work 12 = .ok (.aload_n 0, 1) := by decide +kernel
theorem dX6_work_13 : decode cX6_work 13 = .ok (.getfield 46, 3) := by decide +kernel
theorem dX6_work_16 : decode cX6_work 16 = .ok (.getfield 191, 3) := by decide +kernel
theorem dX6_work_19 : decode cX6_work 19 = .ok (.bipush 6, 2) := by decide +kernel
theorem dX6_work_21 : decode cX6_work 21 = .ok (.if_icmp .lt 5, 3) := by decide +kernel
theorem dX6_work_24 : decode cX6_work 24 = .ok (.iconst (-1), 1) := by decide +kernel
theorem dX6_work_25 : decode cX6_work 25 = .ok (.ireturn, 1) := by decide +kernel
theorem dX6_work_26 : decode cX6_work 26 = .ok (.iload_n 1, 1) := by decide +kernel
theorem dX6_work_27 : decode cX6_work 27 = .ok (.ifCond .ne 29, 3) := by decide +kernel
theorem dX6_work_30 : decode cX6_work 30 = .ok (.aload_n 0, 1) := by decide +kernel
theorem dX6_work_31 : decode cX6_work 31 = .ok (.getfield 12, 3) := by decide +kernel
theorem dX6_work_34 : decode cX6_work 34 = .ok (.iload_n 2, 1) := by decide +kernel
theorem dX6_work_35 : decode cX6_work 35 = .ok (.invokevirtual 80, 3) := by decide +kernel
theorem dX6_work_38 : decode cX6_work 38 = .ok (.ifCond .eq 18, 3) := by decide +kernel
theorem dX6_work_41 : decode cX6_work 41 = .ok (.iload_n 3, 1) := by decide +kernel
theorem dX6_work_42 : decode cX6_work 42 = .ok (.iconst 1, 1) := by decide +kernel
theorem dX6_work_43 : decode cX6_work 43 = .ok (.sipush 9999, 3) := by decide +kernel
theorem dX6_work_46 : decode cX6_work 46 = .ok (.invokestatic 73, 3) := by decide +kernel
theorem dX6_work_49 : decode cX6_work 49 = .ok (.ifCond .eq 7, 3) := by decide +kernel
theorem dX6_work_52 : decode cX6_work 52 = .ok (.iconst 1, 1) := by decide +kernel
theorem dX6_work_53 : decode cX6_work 53 = .ok (.goto 4, 3) := by decide +kernel
theorem dX6_work_56 : decode cX6_work 56 = .ok (.iconst 0, 1) := by decide +kernel
theorem dX6_work_57 : decode cX6_work 57 = .ok (.istore 5, 2) := by decide +kernel
theorem dX6_work_59 : decode cX6_work 59 = .ok (.iload_n 1, 1) := by decide +kernel
theorem dX6_work_60 : decode cX6_work 60 = .ok (.iconst 1, 1) := by decide +kernel
theorem dX6_work_61 : decode cX6_work 61 = .ok (.if_icmp .ne 30, 3) := by decide +kernel
theorem dX6_work_64 : decode cX6_work 64 = .ok (.aload_n 0, 1) := by decide +kernel
theorem dX6_work_65 : decode cX6_work 65 = .ok (.getfield 12, 3) := by decide +kernel
theorem dX6_work_68 : decode cX6_work 68 = .ok (.iload_n 2, 1) := by decide +kernel
theorem dX6_work_69 : decode cX6_work 69 = .ok (.iconst 1, 1) := by decide +kernel
theorem dX6_work_70 : decode cX6_work 70 = .ok (.invokevirtual 124, 3) := by decide +kernel
theorem dX6_work_73 : decode cX6_work 73 = .ok (.ifCond .eq 18, 3) := by decide +kernel
theorem dX6_work_76 : decode cX6_work 76 = .ok (.iload_n 3, 1) := by decide +kernel
theorem dX6_work_77 : decode cX6_work 77 = .ok (.iconst 1, 1) := by decide +kernel
theorem dX6_work_78 : decode cX6_work 78 = .ok (.sipush 999, 3) := by decide +kernel
theorem dX6_work_81 : decode cX6_work 81 = .ok (.invokestatic 73, 3) := by decide +kernel
theorem dX6_work_84 : decode cX6_work 84 = .ok (.ifCond .eq 7, 3) := by decide +kernel
theorem dX6_work_87 : decode cX6_work 87 = .ok (.iconst 1, 1) := by decide +kernel
theorem dX6_work_88 : decode cX6_work 88 = .ok (.goto 4, 3) := by decide +kernel
theorem dX6_work_91 : decode cX6_work 91 = .ok (.iconst 0, 1) := by decide +kernel
theorem dX6_work_92 : decode cX6_work 92 = .ok (.istore 6, 2) := by decide +kernel
theorem dX6_work_94 : decode cX6_work 94 = .ok (.iload 5, 2) := by decide +kernel
theorem dX6_work_96 : decode cX6_work 96 = .ok (.ifCond .ne 10, 3) := by decide +kernel
theorem dX6_work_99 : decode cX6_work 99 = .ok (.iload 6, 2) := by decide +kernel
theorem dX6_work_101 : decode cX6_work 101 = .ok (.ifCond .ne 5, 3) := by decide +kernel
theorem dX6_work_104 : decode cX6_work 104 = .ok (.iconst (-1), 1) := by decide +kernel
theorem dX6_work_105 : decode cX6_work 105 = .ok (.ireturn, 1) := by decide +kernel
theorem dX6_work_106 : decode cX6_work 106 = .ok (.aload_n 0, 1) := by decide +kernel
theorem dX6_work_107 : decode cX6_work 107 = .ok (.getfield 46, 3) := by decide +kernel
theorem dX6_work_110 : decode cX6_work 110 = .ok (.iload_n 1, 1) := by decide +kernel
theorem dX6_work_111 : decode cX6_work 111 = .ok (.iload_n 2, 1) := by decide +kernel
theorem dX6_work_112 : decode cX6_work 112 = .ok (.iload_n 3, 1) := by decide +kernel
theorem dX6_work_113 : decode cX6_work 113 = .ok (.iload 4, 2) := by decide +kernel
theorem dX6_work_115 : decode cX6_work 115 = .ok (.invokevirtual 192, 3) := by decide +kernel
theorem dX6_work_118 : decode cX6_work 118 = .ok (.aload_n 0, 1) := by decide +kernel
theorem dX6_work_119 : decode cX6_work 119 = .ok (.iconst 1, 1) := by decide +kernel
theorem dX6_work_120 : decode cX6_work 120 = .ok (.putfield 65, 3) := by decide +kernel
theorem dX6_work_123 : decode cX6_work 123 = .ok (.aload_n 0, 1) := by decide +kernel
theorem dX6_work_124 : decode cX6_work 124 = .ok (.getfield 46, 3) := by decide +kernel
theorem dX6_work_127 : decode cX6_work 127 = .ok (.getfield 191, 3) := by decide +kernel
theorem dX6_work_130 : decode cX6_work 130 = .ok (.iconst 1, 1) := by decide +kernel
theorem dX6_work_131 : decode cX6_work 131 = .ok (.isub, 1) := by decide +kernel
theorem dX6_work_132 : decode cX6_work 132 = .ok (.ireturn, 1) := by decide +kernel
set_option maxRecDepth 20000 in
theorem ggX6_mark_X0_hasField : GoodIn wsX6_mark wsX0_hasField := goodIn_r _ [8, 9, 25, 26, 27, 28, 29, 30, 31, 32] (by decide +kernel) (by decide +kernel)
set_option maxRecDepth 20000 in
theorem gX6_mark_X0_hasField : GoodIn wsX6_mark (wsV RX6 80 RX0 yX0_hasField wsX0_hasField) := goodIn_app (goodIn_of _ (by decide +kernel)) ggX6_mark_X0_hasField
set_option maxRecDepth 20000 in
theorem ggX6_mark_X6_isWithin : GoodIn wsX6_mark wsX6_isWithin := goodIn_r _ [13] (by decide +kernel) (by decide +kernel)
set_option maxRecDepth 20000 in
theorem gX6_mark_X6_isWithin : GoodIn wsX6_mark (va_wsS RX6 73 yX6_isWithin wsX6_isWithin) := goodIn_app (goodIn_of _ (by decide +kernel)) ggX6_mark_X6_isWithin
theorem dX6_mark_0 : decode cX6_mark 0 = .ok (.aload_n 0, 1) := by decide +kernel
theorem dX6_mark_1 : decode cX6_mark 1 = .ok (.getfield 12, 3) := by decide +kernel
theorem dX6_mark_4 : decode cX6_mark 4 = .ok (.iload_n 1, 1) := by decide +kernel
theorem dX6_mark_5 : decode cX6_mark 5 = .ok (.invokevirtual 80, 3) := by decide +kernel
theorem dX6_mark_8 : decode cX6_mark 8 = .ok (.ifCond .eq 14, 3) := by decide +kernel
theorem dX6_mark_11 : decode cX6_mark 11 = .ok (.iload_n 2, 1) := by decide +kernel
theorem dX6_mark_12 : decode cX6_mark 12 = .ok (.iconst 0, 1) := by decide +kernel
theorem dX6_mark_13 : decode cX6_mark 13 = .ok (.sipush 9999, 3) := by decide +kernel
theorem dX6_mark_16 : decode cX6_mark 16 = .ok (.invokestatic 73, 3) := by decide +kernel
theorem dX6_mark_19 : decode cX6_mark 19 = .ok (.ifCond .ne 5, 3) := by decide +kernel
theorem dX6_mark_22 : decode cX6_mark 22 = .ok (.iconst 0, 1) := by decide +kernel
theorem dX6_mark_23 : decode cX6_mark 23 = .ok (.ireturn, 1) := by decide +kernel
theorem dX6_mark_24 : decode cX6_mark 24 = .ok (.aload_n 0, 1) := by decide +kernel
theorem dX6_mark_25 : decode cX6_mark 25 = .ok (.getfield 57, 3) := by decide +kernel
theorem dX6_mark_28 : decode cX6_mark 28 = .ok (.iload_n 1, 1) := by decide +kernel
theorem dX6_mark_29 : decode cX6_mark 29 = .ok (.iload_n 2, 1) := by decide +kernel
theorem dX6_mark_30 : decode cX6_mark 30 = .ok (.iastore, 1) := by decide +kernel
theorem dX6_mark_31 : decode cX6_mark 31 = .ok (.aload_n 0, 1) := by decide +kernel
theorem dX6_mark_32 : decode cX6_mark 32 = .ok (.iconst 1, 1) := by decide +kernel
theorem dX6_mark_33 : decode cX6_mark 33 = .ok (.putfield 65, 3) := by decide +kernel
theorem dX6_mark_36 : decode cX6_mark 36 = .ok (.iconst 1, 1) := by decide +kernel
theorem dX6_mark_37 : decode cX6_mark 37 = .ok (.ireturn, 1) := by decide +kernel
set_option maxRecDepth 20000 in
theorem ggX6_works_X5_priceOf : GoodIn wsX6_works wsX5_priceOf := goodIn_r _ [7, 8, 9, 171, 172, 173, 174, 175] (by decide +kernel) (by decide +kernel)
set_option maxRecDepth 20000 in
theorem gX6_works_X5_priceOf : GoodIn wsX6_works (wsV RX6 193 RX5 yX5_priceOf wsX5_priceOf) := goodIn_app (goodIn_of _ (by decide +kernel)) ggX6_works_X5_priceOf
set_option maxRecDepth 20000 in
theorem ggX6_works_X6_keepsMarks : GoodIn wsX6_works wsX6_keepsMarks := goodIn_r _ [14, 15, 16, 1, 17, 18, 19, 20, 21, 22, 23, 24, 25, 26, 27, 28, 29, 30, 31, 32, 33, 34, 35, 36, 37, 38, 39, 40, 41, 6, 42, 8, 43, 44, 45, 46, 47, 48, 49, 50, 51, 52, 53, 54, 55, 56, 57, 58, 59, 60, 61, 62, 63, 64, 65, 66, 67, 68, 69, 70, 71, 72, 73, 74, 75, 76, 77, 78, 79, 80, 81, 82, 83, 13, 84, 85, 86, 87, 88, 89, 90, 91, 92, 93, 94, 95, 96, 97, 98, 99, 100, 101, 102, 103, 104, 105, 106, 107, 108, 109, 110, 111, 112, 113, 114, 115, 116, 117, 118, 119, 120, 121, 122, 123, 124, 125, 126, 127, 128, 129, 130, 131, 132, 133, 134, 135, 136, 137, 138, 139, 140, 141, 142, 143, 144, 145, 146, 147, 148, 149, 150, 151, 152, 153, 154, 155, 156, 157, 158, 159, 160, 161, 162, 163, 164, 165, 166, 167, 168, 169, 170, 176, 177, 178, 179, 180, 181, 182, 183, 184, 185, 186, 171, 172, 173, 174, 175, 187, 188, 189, 190, 191, 192, 193, 194, 195, 196, 197] (by decide +kernel) (by decide +kernel)
set_option maxRecDepth 20000 in
theorem gX6_works_X6_keepsMarks : GoodIn wsX6_works (wsV RX6 196 RX6 yX6_keepsMarks wsX6_keepsMarks) := goodIn_app (goodIn_of _ (by decide +kernel)) ggX6_works_X6_keepsMarks
theorem dX6_works_0 : decode cX6_works 0 = .ok (.iconst (-1), 1) := by decide +kernel
theorem dX6_works_1 : decode cX6_works 1 = .ok (.istore_n 1, 1) := by decide +kernel
theorem dX6_works_2 : decode cX6_works 2 = .ok (.iconst 0, 1) := by decide +kernel
theorem dX6_works_3 : decode cX6_works 3 = .ok (.istore_n 2, 1) := by decide +kernel
theorem dX6_works_4 : decode cX6_works 4 = .ok (.iconst 1, 1) := by decide +kernel
theorem dX6_works_5 : decode cX6_works 5 = .ok (.aload_n 0, 1) := by decide +kernel
theorem dX6_works_6 : decode cX6_works 6 = .ok (.getfield 46, 3) := by decide +kernel
theorem dX6_works_9 : decode cX6_works 9 = .ok (.getfield 191, 3) := by decide +kernel
theorem dX6_works_12 : decode cX6_works 12 = .ok (.ishl, 1) := by decide +kernel
theorem dX6_works_13 : decode cX6_works 13 = .ok (.istore_n 3, 1) := by decide +kernel
theorem dX6_works_14 : decode cX6_works 14 = .ok (.iconst 0, 1) := by decide +kernel
theorem dX6_works_15 : decode cX6_works 15 = .ok (.istore 4, 2) := by decide +kernel
theorem dX6_works_17 : decode cX6_works 17 = .ok (.iload 4, 2) := by decide +kernel
theorem dX6_works_19 : decode cX6_works 19 = .ok (.iload_n 3, 1) := by decide +kernel
theorem dX6_works_20 : decode cX6_works 20 = .ok (.if_icmp .ge 46, 3) := by decide +kernel
theorem dX6_works_23 : decode cX6_works 23 = .ok (.aload_n 0, 1) := by decide +kernel
theorem dX6_works_24 : decode cX6_works 24 = .ok (.getfield 46, 3) := by decide +kernel
theorem dX6_works_27 : decode cX6_works 27 = .ok (.iload 4, 2) := by decide +kernel
theorem dX6_works_29 : decode cX6_works 29 = .ok (.invokevirtual 193, 3) := by decide +kernel
theorem dX6_works_32 : decode cX6_works 32 = .ok (.istore 5, 2) := by decide +kernel
theorem dX6_works_34 : decode cX6_works 34 = .ok (.iload_n 1, 1) := by decide +kernel
theorem dX6_works_35 : decode cX6_works 35 = .ok (.iconst (-1), 1) := by decide +kernel
theorem dX6_works_36 : decode cX6_works 36 = .ok (.if_icmp .eq 9, 3) := by decide +kernel
theorem dX6_works_39 : decode cX6_works 39 = .ok (.iload 5, 2) := by decide +kernel
theorem dX6_works_41 : decode cX6_works 41 = .ok (.iload_n 2, 1) := by decide +kernel
theorem dX6_works_42 : decode cX6_works 42 = .ok (.if_icmp .ge 18, 3) := by decide +kernel
theorem dX6_works_45 : decode cX6_works 45 = .ok (.aload_n 0, 1) := by decide +kernel
theorem dX6_works_46 : decode cX6_works 46 = .ok (.iload 4, 2) := by decide +kernel
theorem dX6_works_48 : decode cX6_works 48 = .ok (.invokevirtual 196, 3) := by decide +kernel
theorem dX6_works_51 : decode cX6_works 51 = .ok (.ifCond .eq 9, 3) := by decide +kernel
theorem dX6_works_54 : decode cX6_works 54 = .ok (.iload 4, 2) := by decide +kernel
theorem dX6_works_56 : decode cX6_works 56 = .ok (.istore_n 1, 1) := by decide +kernel
theorem dX6_works_57 : decode cX6_works 57 = .ok (.iload 5, 2) := by decide +kernel
theorem dX6_works_59 : decode cX6_works 59 = .ok (.istore_n 2, 1) := by decide +kernel
theorem dX6_works_60 : decode cX6_works 60 = .ok (.iinc 4 1, 3) := by decide +kernel
theorem dX6_works_63 : decode cX6_works 63 = .ok (.goto (-46), 3) := by decide +kernel
theorem dX6_works_66 : decode cX6_works 66 = .ok (.iload_n 1, 1) := by decide +kernel
theorem dX6_works_67 : decode cX6_works 67 = .ok (.ireturn, 1) := by decide +kernel
set_option maxRecDepth 20000 in
theorem ggX6_survey_X0_hasField : GoodIn wsX6_survey wsX0_hasField := goodIn_r _ [9, 10, 41, 42, 43, 44, 45, 46, 47, 48] (by decide +kernel) (by decide +kernel)
set_option maxRecDepth 20000 in
theorem gX6_survey_X0_hasField : GoodIn wsX6_survey (wsV RX6 80 RX0 yX0_hasField wsX0_hasField) := goodIn_app (goodIn_of _ (by decide +kernel)) ggX6_survey_X0_hasField
set_option maxRecDepth 20000 in
theorem ggX6_survey_X6_isWithin : GoodIn wsX6_survey wsX6_isWithin := goodIn_r _ [14] (by decide +kernel) (by decide +kernel)
set_option maxRecDepth 20000 in
theorem gX6_survey_X6_isWithin : GoodIn wsX6_survey (va_wsS RX6 73 yX6_isWithin wsX6_isWithin) := goodIn_app (goodIn_of _ (by decide +kernel)) ggX6_survey_X6_isWithin
set_option maxRecDepth 20000 in
theorem ggX6_survey_X3_add : GoodIn wsX6_survey wsX3_add := goodIn_r _ [19, 20, 21, 22, 23, 24, 36, 37, 38, 39, 40] (by decide +kernel) (by decide +kernel)
set_option maxRecDepth 20000 in
theorem gX6_survey_X3_add : GoodIn wsX6_survey (wsV RX6 200 RX3 yX3_add wsX3_add) := goodIn_app (goodIn_of _ (by decide +kernel)) ggX6_survey_X3_add
theorem dX6_survey_0 : decode cX6_survey 0 = .ok (.aload_n 0, 1) := by decide +kernel
theorem dX6_survey_1 : decode cX6_survey 1 = .ok (.getfield 12, 3) := by decide +kernel
theorem dX6_survey_4 : decode cX6_survey 4 = .ok (.iload_n 1, 1) := by decide +kernel
theorem dX6_survey_5 : decode cX6_survey 5 = .ok (.invokevirtual 80, 3) := by decide +kernel
theorem dX6_survey_8 : decode cX6_survey 8 = .ok (.ifCond .eq 25, 3) := by decide +kernel
theorem dX6_survey_11 : decode cX6_survey 11 = .ok (.iload_n 2, 1) := by decide +kernel
theorem dX6_survey_12 : decode cX6_survey 12 = .ok (.iconst 1, 1) := by decide +kernel
theorem dX6_survey_13 : decode cX6_survey 13 = .ok (.bipush 120, 2) := by decide +kernel
theorem dX6_survey_15 : decode cX6_survey 15 = .ok (.invokestatic 73, 3) := by decide +kernel
theorem dX6_survey_18 : decode cX6_survey 18 = .ok (.ifCond .eq 15, 3) := by decide +kernel
theorem dX6_survey_21 : decode cX6_survey 21 = .ok (.aload_n 0, 1) := by decide +kernel
theorem dX6_survey_22 : decode cX6_survey 22 = .ok (.getfield 53, 3) := by decide +kernel
theorem dX6_survey_25 : decode cX6_survey 25 = .ok (.getfield 199, 3) := by decide +kernel
theorem dX6_survey_28 : decode cX6_survey 28 = .ok (.bipush 20, 2) := by decide +kernel
theorem dX6_survey_30 : decode cX6_survey 30 = .ok (.if_icmp .lt 5, 3) := by decide +kernel
theorem dX6_survey_33 : decode cX6_survey 33 = .ok (.iconst (-1), 1) := by decide +kernel
theorem dX6_survey_34 : decode cX6_survey 34 = .ok (.ireturn, 1) := by decide +kernel
theorem dX6_survey_35 : decode cX6_survey 35 = .ok (.iload_n 3, 1) := by decide +kernel
theorem dX6_survey_36 : decode cX6_survey 36 = .ok (.iconst 0, 1) := by decide +kernel
theorem dX6_survey_37 : decode cX6_survey 37 = .ok (.sipush 9999, 3) := by decide +kernel
theorem dX6_survey_40 : decode cX6_survey 40 = .ok (.invokestatic 73, 3) := by decide +kernel
theorem dX6_survey_43 : decode cX6_survey 43 = .ok (.ifCond .eq 15, 3) := by decide +kernel
theorem dX6_survey_46 : decode cX6_survey 46 = .ok (.iload 4, 2) := by decide +kernel
theorem dX6_survey_48 : decode cX6_survey 48 = .ok (.iload_n 3, 1) := by decide +kernel
theorem dX6_survey_49 : decode cX6_survey 49 = .ok (.sipush 9999, 3) := by decide +kernel
theorem dX6_survey_52 : decode cX6_survey 52 = .ok (.invokestatic 73, 3) := by decide +kernel
theorem dX6_survey_55 : decode cX6_survey 55 = .ok (.ifCond .ne 5, 3) := by decide +kernel
theorem dX6_survey_58 : decode cX6_survey 58 = .ok (.iconst (-1), 1) := by decide +kernel
theorem dX6_survey_59 : decode cX6_survey 59 = .ok (.ireturn, 1) := by decide +kernel
theorem dX6_survey_60 : decode cX6_survey 60 = .ok (.aload_n 0, 1) := by decide +kernel
theorem dX6_survey_61 : decode cX6_survey 61 = .ok (.getfield 53, 3) := by decide +kernel
theorem dX6_survey_64 : decode cX6_survey 64 = .ok (.iload_n 1, 1) := by decide +kernel
theorem dX6_survey_65 : decode cX6_survey 65 = .ok (.iload_n 2, 1) := by decide +kernel
theorem dX6_survey_66 : decode cX6_survey 66 = .ok (.iload_n 3, 1) := by decide +kernel
theorem dX6_survey_67 : decode cX6_survey 67 = .ok (.iload 4, 2) := by decide +kernel
theorem dX6_survey_69 : decode cX6_survey 69 = .ok (.invokevirtual 200, 3) := by decide +kernel
theorem dX6_survey_72 : decode cX6_survey 72 = .ok (.aload_n 0, 1) := by decide +kernel
theorem dX6_survey_73 : decode cX6_survey 73 = .ok (.iconst 1, 1) := by decide +kernel
theorem dX6_survey_74 : decode cX6_survey 74 = .ok (.putfield 65, 3) := by decide +kernel
theorem dX6_survey_77 : decode cX6_survey 77 = .ok (.aload_n 0, 1) := by decide +kernel
theorem dX6_survey_78 : decode cX6_survey 78 = .ok (.getfield 53, 3) := by decide +kernel
theorem dX6_survey_81 : decode cX6_survey 81 = .ok (.getfield 199, 3) := by decide +kernel
theorem dX6_survey_84 : decode cX6_survey 84 = .ok (.ireturn, 1) := by decide +kernel
set_option maxRecDepth 20000 in
theorem ggX6_fits_X6_agreesWithSurveys : GoodIn wsX6_fits wsX6_agreesWithSurveys := goodIn_r _ [5, 6, 7, 8, 9, 10, 11, 12, 13, 14, 15, 16, 17, 18, 19, 20, 21, 22, 23, 24, 25, 26, 27, 28, 29, 30, 31, 32, 33, 34, 35, 36, 37, 38, 39, 40, 41, 42, 43, 44, 45, 46, 47, 48, 4, 49, 50, 51, 52, 53, 54, 55, 56, 57, 58, 59, 60, 61, 62, 63, 64, 65, 66, 67, 68, 69, 70, 71, 72, 73, 74, 75, 76, 77, 78, 79, 80, 81, 82, 83, 84, 85, 86, 87, 88, 89, 90, 91, 92, 93, 94, 95, 96, 97, 98, 99, 100, 101, 102, 103, 104, 105, 106, 107, 108, 109, 110, 111, 112, 113, 114, 115, 116, 117, 118, 119, 120, 121, 122, 123, 124, 125, 126, 127, 128, 129, 130, 131, 132, 133, 134, 135, 136, 137, 138, 139, 140, 141, 142, 143, 144, 145, 146, 147, 148, 149, 150, 151, 152, 153, 154, 155, 156, 157, 158, 159, 160, 161, 162, 163, 164, 165, 166, 167, 168, 169, 170, 171, 172, 173, 174, 175] (by decide +kernel) (by decide +kernel)
set_option maxRecDepth 20000 in
theorem gX6_fits_X6_agreesWithSurveys : GoodIn wsX6_fits (wsV RX6 201 RX6 yX6_agreesWithSurveys wsX6_agreesWithSurveys) := goodIn_app (goodIn_of _ (by decide +kernel)) ggX6_fits_X6_agreesWithSurveys
theorem dX6_fits_0 : decode cX6_fits 0 = .ok (.iconst 0, 1) := by decide +kernel
theorem dX6_fits_1 : decode cX6_fits 1 = .ok (.istore_n 1, 1) := by decide +kernel
theorem dX6_fits_2 : decode cX6_fits 2 = .ok (.iconst 1, 1) := by decide +kernel
theorem dX6_fits_3 : decode cX6_fits 3 = .ok (.istore_n 2, 1) := by decide +kernel
theorem dX6_fits_4 : decode cX6_fits 4 = .ok (.iload_n 2, 1) := by decide +kernel
theorem dX6_fits_5 : decode cX6_fits 5 = .ok (.bipush 9, 2) := by decide +kernel
theorem dX6_fits_7 : decode cX6_fits 7 = .ok (.if_icmp .gt 25, 3) := by decide +kernel
theorem dX6_fits_10 : decode cX6_fits 10 = .ok (.aload_n 0, 1) := by decide +kernel
theorem dX6_fits_11 : decode cX6_fits 11 = .ok (.iload_n 2, 1) := by decide +kernel
theorem dX6_fits_12 : decode cX6_fits 12 = .ok (.invokevirtual 201, 3) := by decide +kernel
theorem dX6_fits_15 : decode cX6_fits 15 = .ok (.ifCond .eq 11, 3) := by decide +kernel
theorem dX6_fits_18 : decode cX6_fits 18 = .ok (.iload_n 1, 1) := by decide +kernel
theorem dX6_fits_19 : decode cX6_fits 19 = .ok (.iconst 1, 1) := by decide +kernel
theorem dX6_fits_20 : decode cX6_fits 20 = .ok (.iload_n 2, 1) := by decide +kernel
theorem dX6_fits_21 : decode cX6_fits 21 = .ok (.iconst 1, 1) := by decide +kernel
theorem dX6_fits_22 : decode cX6_fits 22 = .ok (.isub, 1) := by decide +kernel
theorem dX6_fits_23 : decode cX6_fits 23 = .ok (.ishl, 1) := by decide +kernel
theorem dX6_fits_24 : decode cX6_fits 24 = .ok (.ior, 1) := by decide +kernel
theorem dX6_fits_25 : decode cX6_fits 25 = .ok (.istore_n 1, 1) := by decide +kernel
theorem dX6_fits_26 : decode cX6_fits 26 = .ok (.iinc 2 1, 3) := by decide +kernel
theorem dX6_fits_29 : decode cX6_fits 29 = .ok (.goto (-25), 3) := by decide +kernel
theorem dX6_fits_32 : decode cX6_fits 32 = .ok (.iload_n 1, 1) := by decide +kernel
theorem dX6_fits_33 : decode cX6_fits 33 = .ok (.ireturn, 1) := by decide +kernel
set_option maxRecDepth 20000 in
theorem ggX6_count_X2_sandInAll : GoodIn wsX6_count wsX2_sandInAll := goodIn_r _ [17, 18, 19, 20, 58, 59, 60, 61, 62, 63] (by decide +kernel) (by decide +kernel)
set_option maxRecDepth 20000 in
theorem gX6_count_X2_sandInAll : GoodIn wsX6_count (wsV RX6 204 RX2 yX2_sandInAll wsX2_sandInAll) := goodIn_app (goodIn_of _ (by decide +kernel)) ggX6_count_X2_sandInAll
theorem dX6_count_0 : decode cX6_count 0 = .ok (.iload_n 1, 1) := by decide +kernel
theorem dX6_count_1 : decode cX6_count 1 = .ok (.tableswitch 103 0 6 #[43, 51, 59, 64, 72, 80, 88], 43) := by decide +kernel
theorem dX6_count_44 : decode cX6_count 44 = .ok (.aload_n 0, 1) := by decide +kernel
theorem dX6_count_45 : decode cX6_count 45 = .ok (.getfield 12, 3) := by decide +kernel
theorem dX6_count_48 : decode cX6_count 48 = .ok (.getfield 77, 3) := by decide +kernel
theorem dX6_count_51 : decode cX6_count 51 = .ok (.ireturn, 1) := by decide +kernel
theorem dX6_count_52 : decode cX6_count 52 = .ok (.aload_n 0, 1) := by decide +kernel
theorem dX6_count_53 : decode cX6_count 53 = .ok (.getfield 32, 3) := by decide +kernel
theorem dX6_count_56 : decode cX6_count 56 = .ok (.getfield 107, 3) := by decide +kernel
theorem dX6_count_59 : decode cX6_count 59 = .ok (.ireturn, 1) := by decide +kernel
theorem dX6_count_60 : decode cX6_count 60 = .ok (.aload_n 0, 1) := by decide +kernel
theorem dX6_count_61 : decode cX6_count 61 = .ok (.getfield 61, 3) := by decide +kernel
theorem dX6_count_64 : decode cX6_count 64 = .ok (.ireturn, 1) := by decide +kernel
theorem dX6_count_65 : decode cX6_count 65 = .ok (.aload_n 0, 1) := by decide +kernel
theorem dX6_count_66 : decode cX6_count 66 = .ok (.getfield 46, 3) := by decide +kernel
theorem dX6_count_69 : decode cX6_count 69 = .ok (.getfield 191, 3) := by decide +kernel
theorem dX6_count_72 : decode cX6_count 72 = .ok (.ireturn, 1) := by decide +kernel
theorem dX6_count_73 : decode cX6_count 73 = .ok (.aload_n 0, 1) := by decide +kernel
theorem dX6_count_74 : decode cX6_count 74 = .ok (.getfield 53, 3) := by decide +kernel
theorem dX6_count_77 : decode cX6_count 77 = .ok (.getfield 199, 3) := by decide +kernel
theorem dX6_count_80 : decode cX6_count 80 = .ok (.ireturn, 1) := by decide +kernel
theorem dX6_count_81 : decode cX6_count 81 = .ok (.aload_n 0, 1) := by decide +kernel
theorem dX6_count_82 : decode cX6_count 82 = .ok (.getfield 39, 3) := by decide +kernel
theorem dX6_count_85 : decode cX6_count 85 = .ok (.getfield 128, 3) := by decide +kernel
theorem dX6_count_88 : decode cX6_count 88 = .ok (.ireturn, 1) := by decide +kernel
theorem dX6_count_89 : decode cX6_count 89 = .ok (.aload_n 0, 1) := by decide +kernel
theorem dX6_count_90 : decode cX6_count 90 = .ok (.getfield 22, 3) := by decide +kernel
theorem dX6_count_93 : decode cX6_count 93 = .ok (.aload_n 0, 1) := by decide +kernel
theorem dX6_count_94 : decode cX6_count 94 = .ok (.getfield 12, 3) := by decide +kernel
theorem dX6_count_97 : decode cX6_count 97 = .ok (.getfield 77, 3) := by decide +kernel
theorem dX6_count_100 : decode cX6_count 100 = .ok (.invokevirtual 204, 3) := by decide +kernel
theorem dX6_count_103 : decode cX6_count 103 = .ok (.ireturn, 1) := by decide +kernel
theorem dX6_count_104 : decode cX6_count 104 = .ok (.iconst (-1), 1) := by decide +kernel
theorem dX6_count_105 : decode cX6_count 105 = .ok (.ireturn, 1) := by decide +kernel
theorem dX6_isWithin_0 : decode cX6_isWithin 0 = .ok (.iload_n 0, 1) := by decide +kernel
theorem dX6_isWithin_1 : decode cX6_isWithin 1 = .ok (.iload_n 1, 1) := by decide +kernel
theorem dX6_isWithin_2 : decode cX6_isWithin 2 = .ok (.if_icmp .lt 12, 3) := by decide +kernel
theorem dX6_isWithin_5 : decode cX6_isWithin 5 = .ok (.iload_n 0, 1) := by decide +kernel
theorem dX6_isWithin_6 : decode cX6_isWithin 6 = .ok (.iload_n 2, 1) := by decide +kernel
theorem dX6_isWithin_7 : decode cX6_isWithin 7 = .ok (.if_icmp .gt 7, 3) := by decide +kernel
theorem dX6_isWithin_10 : decode cX6_isWithin 10 = .ok (.iconst 1, 1) := by decide +kernel
theorem dX6_isWithin_11 : decode cX6_isWithin 11 = .ok (.goto 4, 3) := by decide +kernel
theorem dX6_isWithin_14 : decode cX6_isWithin 14 = .ok (.iconst 0, 1) := by decide +kernel
theorem dX6_isWithin_15 : decode cX6_isWithin 15 = .ok (.ireturn, 1) := by decide +kernel
theorem dX6_factorial_0 : decode cX6_factorial 0 = .ok (.iconst 1, 1) := by decide +kernel
theorem dX6_factorial_1 : decode cX6_factorial 1 = .ok (.istore_n 1, 1) := by decide +kernel
theorem dX6_factorial_2 : decode cX6_factorial 2 = .ok (.iconst 2, 1) := by decide +kernel
theorem dX6_factorial_3 : decode cX6_factorial 3 = .ok (.istore_n 2, 1) := by decide +kernel
theorem dX6_factorial_4 : decode cX6_factorial 4 = .ok (.iload_n 2, 1) := by decide +kernel
theorem dX6_factorial_5 : decode cX6_factorial 5 = .ok (.iload_n 0, 1) := by decide +kernel
theorem dX6_factorial_6 : decode cX6_factorial 6 = .ok (.if_icmp .gt 13, 3) := by decide +kernel
theorem dX6_factorial_9 : decode cX6_factorial 9 = .ok (.iload_n 1, 1) := by decide +kernel
theorem dX6_factorial_10 : decode cX6_factorial 10 = .ok (.iload_n 2, 1) := by decide +kernel
theorem dX6_factorial_11 : decode cX6_factorial 11 = .ok (.imul, 1) := by decide +kernel
theorem dX6_factorial_12 : decode cX6_factorial 12 = .ok (.istore_n 1, 1) := by decide +kernel
theorem dX6_factorial_13 : decode cX6_factorial 13 = .ok (.iinc 2 1, 3) := by decide +kernel
theorem dX6_factorial_16 : decode cX6_factorial 16 = .ok (.goto (-12), 3) := by decide +kernel
theorem dX6_factorial_19 : decode cX6_factorial 19 = .ok (.iload_n 1, 1) := by decide +kernel
theorem dX6_factorial_20 : decode cX6_factorial 20 = .ok (.ireturn, 1) := by decide +kernel
set_option maxRecDepth 20000 in
theorem ggX6_takeInBegin_X2_startFrom : GoodIn wsX6_takeInBegin wsX2_startFrom := goodIn_r _ [8, 9, 10, 11, 12, 13, 14, 15, 16, 17, 18, 19, 20, 21, 22, 34, 35, 36, 37, 38, 39, 40, 41, 42, 43, 44, 45, 46, 47] (by decide +kernel) (by decide +kernel)
set_option maxRecDepth 20000 in
theorem gX6_takeInBegin_X2_startFrom : GoodIn wsX6_takeInBegin (wsV RX6 69 RX2 yX2_startFrom wsX2_startFrom) := goodIn_app (goodIn_of _ (by decide +kernel)) ggX6_takeInBegin_X2_startFrom
theorem dX6_takeInBegin_0 : decode cX6_takeInBegin 0 = .ok (.aload_n 0, 1) := by decide +kernel
theorem dX6_takeInBegin_1 : decode cX6_takeInBegin 1 = .ok (.iconst 1, 1) := by decide +kernel
theorem dX6_takeInBegin_2 : decode cX6_takeInBegin 2 = .ok (.putfield 65, 3) := by decide +kernel
theorem dX6_takeInBegin_5 : decode cX6_takeInBegin 5 = .ok (.aload_n 0, 1) := by decide +kernel
theorem dX6_takeInBegin_6 : decode cX6_takeInBegin 6 = .ok (.getfield 22, 3) := by decide +kernel
theorem dX6_takeInBegin_9 : decode cX6_takeInBegin 9 = .ok (.aload_n 0, 1) := by decide +kernel
theorem dX6_takeInBegin_10 : decode cX6_takeInBegin 10 = .ok (.getfield 12, 3) := by decide +kernel
theorem dX6_takeInBegin_13 : decode cX6_takeInBegin 13 = .ok (.invokevirtual 69, 3) := by decide +kernel
theorem dX6_takeInBegin_16 : decode cX6_takeInBegin 16 = .ok (.return_, 1) := by decide +kernel
set_option maxRecDepth 20000 in
theorem ggX6_lineLeavingAway_X0_copyFrom : GoodIn wsX6_lineLeavingAway wsX0_copyFrom := goodIn_r _ [9, 10, 11, 12, 13, 14, 15, 16, 17, 18, 19, 20, 21, 141, 142, 143, 144, 145, 146, 147, 148] (by decide +kernel) (by decide +kernel)
set_option maxRecDepth 20000 in
theorem gX6_lineLeavingAway_X0_copyFrom : GoodIn wsX6_lineLeavingAway (wsV RX6 207 RX0 yX0_copyFrom wsX0_copyFrom) := goodIn_app (goodIn_of _ (by decide +kernel)) ggX6_lineLeavingAway_X0_copyFrom
set_option maxRecDepth 20000 in
theorem ggX6_lineLeavingAway_X0_leaveAway : GoodIn wsX6_lineLeavingAway wsX0_leaveAway := goodIn_r _ [25, 10, 26, 27, 28, 8, 29, 19, 20, 21, 141, 142, 143, 144, 145, 146, 147, 148] (by decide +kernel) (by decide +kernel)
set_option maxRecDepth 20000 in
theorem gX6_lineLeavingAway_X0_leaveAway : GoodIn wsX6_lineLeavingAway (wsV RX6 210 RX0 yX0_leaveAway wsX0_leaveAway) := goodIn_app (goodIn_of _ (by decide +kernel)) ggX6_lineLeavingAway_X0_leaveAway
set_option maxRecDepth 20000 in
theorem ggX6_lineLeavingAway_X2_startFrom : GoodIn wsX6_lineLeavingAway wsX2_startFrom := goodIn_r _ [34, 35, 36, 37, 14, 15, 16, 38, 39, 40, 41, 42, 43, 44, 45, 141, 142, 143, 144, 145, 146, 147, 148, 149, 150, 151, 152, 153, 154] (by decide +kernel) (by decide +kernel)
set_option maxRecDepth 20000 in
theorem gX6_lineLeavingAway_X2_startFrom : GoodIn wsX6_lineLeavingAway (wsV RX6 69 RX2 yX2_startFrom wsX2_startFrom) := goodIn_app (goodIn_of _ (by decide +kernel)) ggX6_lineLeavingAway_X2_startFrom
set_option maxRecDepth 20000 in
theorem ggX6_lineLeavingAway_X6_goThroughAgain : GoodIn wsX6_lineLeavingAway wsX6_goThroughAgain := goodIn_r _ [50, 3, 1, 51, 52, 53, 54, 55, 56, 57, 33, 58, 41, 59, 60, 42, 43, 44, 45, 61, 62, 63, 64, 65, 66, 67, 68, 69, 70, 71, 72, 73, 74, 75, 76, 77, 40, 78, 79, 80, 81, 82, 83, 84, 85, 86, 87, 88, 36, 89, 90, 91, 92, 39, 93, 94, 95, 96, 97, 98, 99, 100, 101, 102, 103, 104, 105, 106, 107, 108, 109, 110, 38, 111, 112, 113, 114, 115, 116, 117, 118, 119, 120, 121, 122, 123, 124, 125, 126, 127, 128, 130, 131, 132, 133, 134, 135, 136, 137, 138, 139, 140, 155, 156, 157, 149, 150, 151, 152, 153, 154, 141, 142, 143, 144, 145, 146, 147, 148, 158, 159, 160, 161, 162] (by decide +kernel) (by decide +kernel)
set_option maxRecDepth 20000 in
theorem gX6_lineLeavingAway_X6_goThroughAgain : GoodIn wsX6_lineLeavingAway (wsV RX6 214 RX6 yX6_goThroughAgain wsX6_goThroughAgain) := goodIn_app (goodIn_of _ (by decide +kernel)) ggX6_lineLeavingAway_X6_goThroughAgain
set_option maxRecDepth 20000 in
theorem ggX6_lineLeavingAway_X2_lineOf : GoodIn wsX6_lineLeavingAway wsX2_lineOf := goodIn_r _ [88, 36, 149, 150, 151, 152, 153, 154] (by decide +kernel) (by decide +kernel)
set_option maxRecDepth 20000 in
theorem gX6_lineLeavingAway_X2_lineOf : GoodIn wsX6_lineLeavingAway (wsV RX6 142 RX2 yX2_lineOf wsX2_lineOf) := goodIn_app (goodIn_of _ (by decide +kernel)) ggX6_lineLeavingAway_X2_lineOf
theorem dX6_lineLeavingAway_0 : decode cX6_lineLeavingAway 0 = .ok (.aload_n 0, 1) := by decide +kernel
theorem dX6_lineLeavingAway_1 : decode cX6_lineLeavingAway 1 = .ok (.getfield 16, 3) := by decide +kernel
theorem dX6_lineLeavingAway_4 : decode cX6_lineLeavingAway 4 = .ok (.aload_n 0, 1) := by decide +kernel
theorem dX6_lineLeavingAway_5 : decode cX6_lineLeavingAway 5 = .ok (.getfield 12, 3) := by decide +kernel
theorem dX6_lineLeavingAway_8 : decode cX6_lineLeavingAway 8 = .ok (.invokevirtual 207, 3) := by decide +kernel
theorem dX6_lineLeavingAway_11 : decode cX6_lineLeavingAway 11 = .ok (.aload_n 0, 1) := by decide +kernel
theorem dX6_lineLeavingAway_12 : decode cX6_lineLeavingAway 12 = .ok (.getfield 16, 3) := by decide +kernel
theorem dX6_lineLeavingAway_15 : decode cX6_lineLeavingAway 15 = .ok (.iload_n 1, 1) := by decide +kernel
theorem dX6_lineLeavingAway_16 : decode cX6_lineLeavingAway 16 = .ok (.invokevirtual 210, 3) := by decide +kernel
theorem dX6_lineLeavingAway_19 : decode cX6_lineLeavingAway 19 = .ok (.aload_n 0, 1) := by decide +kernel
theorem dX6_lineLeavingAway_20 : decode cX6_lineLeavingAway 20 = .ok (.getfield 26, 3) := by decide +kernel
theorem dX6_lineLeavingAway_23 : decode cX6_lineLeavingAway 23 = .ok (.aload_n 0, 1) := by decide +kernel
theorem dX6_lineLeavingAway_24 : decode cX6_lineLeavingAway 24 = .ok (.getfield 16, 3) := by decide +kernel
theorem dX6_lineLeavingAway_27 : decode cX6_lineLeavingAway 27 = .ok (.invokevirtual 69, 3) := by decide +kernel
theorem dX6_lineLeavingAway_30 : decode cX6_lineLeavingAway 30 = .ok (.iconst 0, 1) := by decide +kernel
theorem dX6_lineLeavingAway_31 : decode cX6_lineLeavingAway 31 = .ok (.istore_n 3, 1) := by decide +kernel
theorem dX6_lineLeavingAway_32 : decode cX6_lineLeavingAway 32 = .ok (.iload_n 3, 1) := by decide +kernel
theorem dX6_lineLeavingAway_33 : decode cX6_lineLeavingAway 33 = .ok (.aload_n 0, 1) := by decide +kernel
theorem dX6_lineLeavingAway_34 : decode cX6_lineLeavingAway 34 = .ok (.getfield 61, 3) := by decide +kernel
theorem dX6_lineLeavingAway_37 : decode cX6_lineLeavingAway 37 = .ok (.if_icmp .ge 14, 3) := by decide +kernel
theorem dX6_lineLeavingAway_40 : decode cX6_lineLeavingAway 40 = .ok (.aload_n 0, 1) := by decide +kernel
theorem dX6_lineLeavingAway_41 : decode cX6_lineLeavingAway 41 = .ok (.iload_n 3, 1) := by decide +kernel
theorem dX6_lineLeavingAway_42 : decode cX6_lineLeavingAway 42 = .ok (.invokevirtual 214, 3) := by decide +kernel
theorem dX6_lineLeavingAway_45 : decode cX6_lineLeavingAway 45 = .ok (.iinc 3 1, 3) := by decide +kernel
theorem dX6_lineLeavingAway_48 : decode cX6_lineLeavingAway 48 = .ok (.goto (-16), 3) := by decide +kernel
theorem dX6_lineLeavingAway_51 : decode cX6_lineLeavingAway 51 = .ok (.aload_n 0, 1) := by decide +kernel
theorem dX6_lineLeavingAway_52 : decode cX6_lineLeavingAway 52 = .ok (.getfield 26, 3) := by decide +kernel
theorem dX6_lineLeavingAway_55 : decode cX6_lineLeavingAway 55 = .ok (.iload_n 2, 1) := by decide +kernel
theorem dX6_lineLeavingAway_56 : decode cX6_lineLeavingAway 56 = .ok (.invokevirtual 142, 3) := by decide +kernel
theorem dX6_lineLeavingAway_59 : decode cX6_lineLeavingAway 59 = .ok (.ireturn, 1) := by decide +kernel
set_option maxRecDepth 20000 in
theorem ggX6_keepsMarks_X0_copyFrom : GoodIn wsX6_keepsMarks wsX0_copyFrom := goodIn_r _ [13, 14, 15, 16, 17, 18, 19, 20, 21, 22, 23, 24, 25, 164, 165, 166, 167, 168, 169, 170, 171] (by decide +kernel) (by decide +kernel)
set_option maxRecDepth 20000 in
theorem gX6_keepsMarks_X0_copyFrom : GoodIn wsX6_keepsMarks (wsV RX6 207 RX0 yX0_copyFrom wsX0_copyFrom) := goodIn_app (goodIn_of _ (by decide +kernel)) ggX6_keepsMarks_X0_copyFrom
set_option maxRecDepth 20000 in
theorem ggX6_keepsMarks_X5_applyTo : GoodIn wsX6_keepsMarks wsX5_applyTo := goodIn_r _ [30, 31, 32, 33, 34, 29, 35, 36, 37, 38, 39, 40, 41, 42, 43, 44, 45, 46, 47, 48, 12, 49, 23, 50, 51, 52, 53, 14, 172, 173, 174, 175, 176, 164, 165, 166, 167, 168, 169, 170, 171] (by decide +kernel) (by decide +kernel)
set_option maxRecDepth 20000 in
theorem gX6_keepsMarks_X5_applyTo : GoodIn wsX6_keepsMarks (wsV RX6 217 RX5 yX5_applyTo wsX5_applyTo) := goodIn_app (goodIn_of _ (by decide +kernel)) ggX6_keepsMarks_X5_applyTo
set_option maxRecDepth 20000 in
theorem ggX6_keepsMarks_X2_startFrom : GoodIn wsX6_keepsMarks wsX2_startFrom := goodIn_r _ [58, 59, 60, 61, 18, 19, 20, 62, 63, 64, 65, 66, 67, 68, 69, 164, 165, 166, 167, 168, 169, 170, 171, 177, 178, 179, 180, 181, 182] (by decide +kernel) (by decide +kernel)
set_option maxRecDepth 20000 in
theorem gX6_keepsMarks_X2_startFrom : GoodIn wsX6_keepsMarks (wsV RX6 69 RX2 yX2_startFrom wsX2_startFrom) := goodIn_app (goodIn_of _ (by decide +kernel)) ggX6_keepsMarks_X2_startFrom
set_option maxRecDepth 20000 in
theorem ggX6_keepsMarks_X6_goThroughAgain : GoodIn wsX6_keepsMarks wsX6_goThroughAgain := goodIn_r _ [74, 4, 1, 5, 75, 76, 77, 78, 79, 80, 57, 81, 65, 82, 83, 66, 67, 68, 69, 84, 85, 86, 87, 88, 89, 90, 91, 92, 93, 94, 95, 43, 96, 97, 98, 99, 64, 100, 101, 102, 103, 104, 42, 44, 105, 106, 107, 108, 60, 109, 110, 111, 112, 63, 113, 114, 115, 116, 117, 118, 119, 120, 121, 122, 123, 124, 125, 126, 127, 128, 129, 130, 62, 131, 132, 133, 134, 135, 136, 137, 138, 139, 140, 141, 142, 143, 144, 145, 146, 147, 148, 150, 151, 152, 153, 154, 155, 156, 157, 158, 159, 160, 161, 162, 163, 177, 178, 179, 180, 181, 182, 164, 165, 166, 167, 168, 169, 170, 171, 183, 184, 185, 186, 187] (by decide +kernel) (by decide +kernel)
set_option maxRecDepth 20000 in
theorem gX6_keepsMarks_X6_goThroughAgain : GoodIn wsX6_keepsMarks (wsV RX6 214 RX6 yX6_goThroughAgain wsX6_goThroughAgain) := goodIn_app (goodIn_of _ (by decide +kernel)) ggX6_keepsMarks_X6_goThroughAgain
set_option maxRecDepth 20000 in
theorem ggX6_keepsMarks_X2_lineOf : GoodIn wsX6_keepsMarks wsX2_lineOf := goodIn_r _ [108, 60, 177, 178, 179, 180, 181, 182] (by decide +kernel) (by decide +kernel)
set_option maxRecDepth 20000 in
theorem gX6_keepsMarks_X2_lineOf : GoodIn wsX6_keepsMarks (wsV RX6 142 RX2 yX2_lineOf wsX2_lineOf) := goodIn_app (goodIn_of _ (by decide +kernel)) ggX6_keepsMarks_X2_lineOf
theorem dX6_keepsMarks_0 : decode cX6_keepsMarks 0 = .ok (.aload_n 0, 1) := by decide +kernel
theorem dX6_keepsMarks_1 : decode cX6_keepsMarks 1 = .ok (.getfield 16, 3) := by decide +kernel
theorem dX6_keepsMarks_4 : decode cX6_keepsMarks 4 = .ok (.aload_n 0, 1) := by decide +kernel
theorem dX6_keepsMarks_5 : decode cX6_keepsMarks 5 = .ok (.getfield 12, 3) := by decide +kernel
theorem dX6_keepsMarks_8 : decode cX6_keepsMarks 8 = .ok (.invokevirtual 207, 3) := by decide +kernel
theorem dX6_keepsMarks_11 : decode cX6_keepsMarks 11 = .ok (.aload_n 0, 1) := by decide +kernel
theorem dX6_keepsMarks_12 : decode cX6_keepsMarks 12 = .ok (.getfield 46, 3) := by decide +kernel
theorem dX6_keepsMarks_15 : decode cX6_keepsMarks 15 = .ok (.aload_n 0, 1) := by decide +kernel
theorem dX6_keepsMarks_16 : decode cX6_keepsMarks 16 = .ok (.getfield 16, 3) := by decide +kernel
theorem dX6_keepsMarks_19 : decode cX6_keepsMarks 19 = .ok (.iload_n 1, 1) := by decide +kernel
theorem dX6_keepsMarks_20 : decode cX6_keepsMarks 20 = .ok (.invokevirtual 217, 3) := by decide +kernel
theorem dX6_keepsMarks_23 : decode cX6_keepsMarks 23 = .ok (.aload_n 0, 1) := by decide +kernel
theorem dX6_keepsMarks_24 : decode cX6_keepsMarks 24 = .ok (.getfield 26, 3) := by decide +kernel
theorem dX6_keepsMarks_27 : decode cX6_keepsMarks 27 = .ok (.aload_n 0, 1) := by decide +kernel
theorem dX6_keepsMarks_28 : decode cX6_keepsMarks 28 = .ok (.getfield 16, 3) := by decide +kernel
theorem dX6_keepsMarks_31 : decode cX6_keepsMarks 31 = .ok (.invokevirtual 69, 3) := by decide +kernel
theorem dX6_keepsMarks_34 : decode cX6_keepsMarks 34 = .ok (.iconst 0, 1) := by decide +kernel
theorem dX6_keepsMarks_35 : decode cX6_keepsMarks 35 = .ok (.istore_n 2, 1) := by decide +kernel
theorem dX6_keepsMarks_36 : decode cX6_keepsMarks 36 = .ok (.iload_n 2, 1) := by decide +kernel
theorem dX6_keepsMarks_37 : decode cX6_keepsMarks 37 = .ok (.aload_n 0, 1) := by decide +kernel
theorem dX6_keepsMarks_38 : decode cX6_keepsMarks 38 = .ok (.getfield 32, 3) := by decide +kernel
theorem dX6_keepsMarks_41 : decode cX6_keepsMarks 41 = .ok (.getfield 107, 3) := by decide +kernel
theorem dX6_keepsMarks_44 : decode cX6_keepsMarks 44 = .ok (.if_icmp .ge 52, 3) := by decide +kernel
theorem dX6_keepsMarks_47 : decode cX6_keepsMarks 47 = .ok (.aload_n 0, 1) := by decide +kernel
theorem dX6_keepsMarks_48 : decode cX6_keepsMarks 48 = .ok (.iload_n 2, 1) := by decide +kernel
theorem dX6_keepsMarks_49 : decode cX6_keepsMarks 49 = .ok (.invokevirtual 214, 3) := by decide +kernel
theorem dX6_keepsMarks_52 : decode cX6_keepsMarks 52 = .ok (.iconst 0, 1) := by decide +kernel
theorem dX6_keepsMarks_53 : decode cX6_keepsMarks 53 = .ok (.istore_n 3, 1) := by decide +kernel
theorem dX6_keepsMarks_54 : decode cX6_keepsMarks 54 = .ok (.iload_n 3, 1) := by decide +kernel
theorem dX6_keepsMarks_55 : decode cX6_keepsMarks 55 = .ok (.aload_n 0, 1) := by decide +kernel
theorem dX6_keepsMarks_56 : decode cX6_keepsMarks 56 = .ok (.getfield 16, 3) := by decide +kernel
theorem dX6_keepsMarks_59 : decode cX6_keepsMarks 59 = .ok (.getfield 77, 3) := by decide +kernel
theorem dX6_keepsMarks_62 : decode cX6_keepsMarks 62 = .ok (.if_icmp .ge 28, 3) := by decide +kernel
theorem dX6_keepsMarks_65 : decode cX6_keepsMarks 65 = .ok (.aload_n 0, 1) := by decide +kernel
theorem dX6_keepsMarks_66 : decode cX6_keepsMarks 66 = .ok (.getfield 26, 3) := by decide +kernel
theorem dX6_keepsMarks_69 : decode cX6_keepsMarks 69 = .ok (.iload_n 3, 1) := by decide +kernel
theorem dX6_keepsMarks_70 : decode cX6_keepsMarks 70 = .ok (.invokevirtual 142, 3) := by decide +kernel
theorem dX6_keepsMarks_73 : decode cX6_keepsMarks 73 = .ok (.aload_n 0, 1) := by decide +kernel
theorem dX6_keepsMarks_74 : decode cX6_keepsMarks 74 = .ok (.getfield 57, 3) := by decide +kernel
theorem dX6_keepsMarks_77 : decode cX6_keepsMarks 77 = .ok (.iload_n 3, 1) := by decide +kernel
theorem dX6_keepsMarks_78 : decode cX6_keepsMarks 78 = .ok (.iaload, 1) := by decide +kernel
theorem dX6_keepsMarks_79 : decode cX6_keepsMarks 79 = .ok (.if_icmp .ge 5, 3) := by decide +kernel
theorem dX6_keepsMarks_82 : decode cX6_keepsMarks 82 = .ok (.iconst 0, 1) := by decide +kernel
theorem dX6_keepsMarks_83 : decode cX6_keepsMarks 83 = .ok (.ireturn, 1) := by decide +kernel
theorem dX6_keepsMarks_84 : decode cX6_keepsMarks 84 = .ok (.iinc 3 1, 3) := by decide +kernel
theorem dX6_keepsMarks_87 : decode cX6_keepsMarks 87 = .ok (.goto (-33), 3) := by decide +kernel
theorem dX6_keepsMarks_90 : decode cX6_keepsMarks 90 = .ok (.iinc 2 1, 3) := by decide +kernel
theorem dX6_keepsMarks_93 : decode cX6_keepsMarks 93 = .ok (.goto (-57), 3) := by decide +kernel
theorem dX6_keepsMarks_96 : decode cX6_keepsMarks 96 = .ok (.iconst 1, 1) := by decide +kernel
theorem dX6_keepsMarks_97 : decode cX6_keepsMarks 97 = .ok (.ireturn, 1) := by decide +kernel
set_option maxRecDepth 20000 in
theorem ggX6_agreesWithSurveys_X0_copyFrom : GoodIn wsX6_agreesWithSurveys wsX0_copyFrom := goodIn_r _ [12, 13, 14, 15, 16, 17, 18, 19, 20, 21, 22, 23, 24, 145, 146, 147, 148, 149, 150, 151, 152] (by decide +kernel) (by decide +kernel)
set_option maxRecDepth 20000 in
theorem gX6_agreesWithSurveys_X0_copyFrom : GoodIn wsX6_agreesWithSurveys (wsV RX6 207 RX0 yX0_copyFrom wsX0_copyFrom) := goodIn_app (goodIn_of _ (by decide +kernel)) ggX6_agreesWithSurveys_X0_copyFrom
set_option maxRecDepth 20000 in
theorem ggX6_agreesWithSurveys_X2_startFrom : GoodIn wsX6_agreesWithSurveys wsX2_startFrom := goodIn_r _ [29, 30, 31, 32, 17, 18, 19, 33, 34, 35, 36, 37, 38, 39, 40, 145, 146, 147, 148, 149, 150, 151, 152, 156, 157, 158, 159, 160, 161] (by decide +kernel) (by decide +kernel)
set_option maxRecDepth 20000 in
theorem gX6_agreesWithSurveys_X2_startFrom : GoodIn wsX6_agreesWithSurveys (wsV RX6 69 RX2 yX2_startFrom wsX2_startFrom) := goodIn_app (goodIn_of _ (by decide +kernel)) ggX6_agreesWithSurveys_X2_startFrom
set_option maxRecDepth 20000 in
theorem ggX6_agreesWithSurveys_X6_goThroughAgain : GoodIn wsX6_agreesWithSurveys wsX6_goThroughAgain := goodIn_r _ [45, 4, 1, 5, 46, 47, 48, 49, 50, 51, 28, 52, 36, 53, 54, 37, 38, 39, 40, 55, 56, 57, 58, 59, 60, 61, 62, 63, 64, 65, 66, 67, 68, 69, 70, 71, 35, 72, 73, 74, 75, 76, 77, 78, 79, 80, 81, 82, 31, 83, 84, 85, 86, 34, 87, 88, 89, 90, 91, 92, 93, 94, 95, 96, 97, 98, 99, 100, 101, 102, 103, 104, 33, 105, 106, 107, 108, 109, 110, 111, 112, 113, 114, 115, 116, 117, 118, 119, 120, 121, 122, 134, 135, 136, 137, 138, 139, 140, 141, 142, 143, 144, 153, 154, 155, 156, 157, 158, 159, 160, 161, 145, 146, 147, 148, 149, 150, 151, 152, 162, 163, 164, 165, 166] (by decide +kernel) (by decide +kernel)
set_option maxRecDepth 20000 in
theorem gX6_agreesWithSurveys_X6_goThroughAgain : GoodIn wsX6_agreesWithSurveys (wsV RX6 214 RX6 yX6_goThroughAgain wsX6_goThroughAgain) := goodIn_app (goodIn_of _ (by decide +kernel)) ggX6_agreesWithSurveys_X6_goThroughAgain
set_option maxRecDepth 20000 in
theorem ggX6_agreesWithSurveys_X3_agreeBehind : GoodIn wsX6_agreesWithSurveys wsX3_agreeBehind := goodIn_r _ [127, 128, 129, 130, 131, 132, 133, 80, 81, 28, 82, 31, 167, 168, 169, 170, 171, 156, 157, 158, 159, 160, 161] (by decide +kernel) (by decide +kernel)
set_option maxRecDepth 20000 in
theorem gX6_agreesWithSurveys_X3_agreeBehind : GoodIn wsX6_agreesWithSurveys (wsV RX6 221 RX3 yX3_agreeBehind wsX3_agreeBehind) := goodIn_app (goodIn_of _ (by decide +kernel)) ggX6_agreesWithSurveys_X3_agreeBehind
theorem dX6_agreesWithSurveys_0 : decode cX6_agreesWithSurveys 0 = .ok (.aload_n 0, 1) := by decide +kernel
theorem dX6_agreesWithSurveys_1 : decode cX6_agreesWithSurveys 1 = .ok (.getfield 16, 3) := by decide +kernel
theorem dX6_agreesWithSurveys_4 : decode cX6_agreesWithSurveys 4 = .ok (.aload_n 0, 1) := by decide +kernel
theorem dX6_agreesWithSurveys_5 : decode cX6_agreesWithSurveys 5 = .ok (.getfield 12, 3) := by decide +kernel
theorem dX6_agreesWithSurveys_8 : decode cX6_agreesWithSurveys 8 = .ok (.invokevirtual 207, 3) := by decide +kernel
theorem dX6_agreesWithSurveys_11 : decode cX6_agreesWithSurveys 11 = .ok (.aload_n 0, 1) := by decide +kernel
theorem dX6_agreesWithSurveys_12 : decode cX6_agreesWithSurveys 12 = .ok (.getfield 16, 3) := by decide +kernel
theorem dX6_agreesWithSurveys_15 : decode cX6_agreesWithSurveys 15 = .ok (.iload_n 1, 1) := by decide +kernel
theorem dX6_agreesWithSurveys_16 : decode cX6_agreesWithSurveys 16 = .ok (.putfield 104, 3) := by decide +kernel
theorem dX6_agreesWithSurveys_19 : decode cX6_agreesWithSurveys 19 = .ok (.aload_n 0, 1) := by decide +kernel
theorem dX6_agreesWithSurveys_20 : decode cX6_agreesWithSurveys 20 = .ok (.getfield 26, 3) := by decide +kernel
theorem dX6_agreesWithSurveys_23 : decode cX6_agreesWithSurveys 23 = .ok (.aload_n 0, 1) := by decide +kernel
theorem dX6_agreesWithSurveys_24 : decode cX6_agreesWithSurveys 24 = .ok (.getfield 16, 3) := by decide +kernel
theorem dX6_agreesWithSurveys_27 : decode cX6_agreesWithSurveys 27 = .ok (.invokevirtual 69, 3) := by decide +kernel
theorem dX6_agreesWithSurveys_30 : decode cX6_agreesWithSurveys 30 = .ok (.iconst 0, 1) := by decide +kernel
theorem dX6_agreesWithSurveys_31 : decode cX6_agreesWithSurveys 31 = .ok (.istore_n 2, 1) := by decide +kernel
theorem dX6_agreesWithSurveys_32 : decode cX6_agreesWithSurveys 32 = .ok (.iload_n 2, 1) := by decide +kernel
theorem dX6_agreesWithSurveys_33 : decode cX6_agreesWithSurveys 33 = .ok (.aload_n 0, 1) := by decide +kernel
theorem dX6_agreesWithSurveys_34 : decode cX6_agreesWithSurveys 34 = .ok (.getfield 32, 3) := by decide +kernel
theorem dX6_agreesWithSurveys_37 : decode cX6_agreesWithSurveys 37 = .ok (.getfield 107, 3) := by decide +kernel
theorem dX6_agreesWithSurveys_40 : decode cX6_agreesWithSurveys 40 = .ok (.if_icmp .ge 33, 3) := by decide +kernel
theorem dX6_agreesWithSurveys_43 : decode cX6_agreesWithSurveys 43 = .ok (.aload_n 0, 1) := by decide +kernel
theorem dX6_agreesWithSurveys_44 : decode cX6_agreesWithSurveys 44 = .ok (.iload_n 2, 1) := by decide +kernel
theorem dX6_agreesWithSurveys_45 : decode cX6_agreesWithSurveys 45 = .ok (.invokevirtual 214, 3) := by decide +kernel
theorem dX6_agreesWithSurveys_48 : decode cX6_agreesWithSurveys 48 = .ok (.aload_n 0, 1) := by decide +kernel
theorem dX6_agreesWithSurveys_49 : decode cX6_agreesWithSurveys 49 = .ok (.getfield 53, 3) := by decide +kernel
theorem dX6_agreesWithSurveys_52 : decode cX6_agreesWithSurveys 52 = .ok (.iload_n 2, 1) := by decide +kernel
theorem dX6_agreesWithSurveys_53 : decode cX6_agreesWithSurveys 53 = .ok (.iconst 1, 1) := by decide +kernel
theorem dX6_agreesWithSurveys_54 : decode cX6_agreesWithSurveys 54 = .ok (.iadd, 1) := by decide +kernel
theorem dX6_agreesWithSurveys_55 : decode cX6_agreesWithSurveys 55 = .ok (.aload_n 0, 1) := by decide +kernel
theorem dX6_agreesWithSurveys_56 : decode cX6_agreesWithSurveys 56 = .ok (.getfield 26, 3) := by decide +kernel
theorem dX6_agreesWithSurveys_59 : decode cX6_agreesWithSurveys 59 = .ok (.invokevirtual 221, 3) := by decide +kernel
theorem dX6_agreesWithSurveys_62 : decode cX6_agreesWithSurveys 62 = .ok (.ifCond .ne 5, 3) := by decide +kernel
theorem dX6_agreesWithSurveys_65 : decode cX6_agreesWithSurveys 65 = .ok (.iconst 0, 1) := by decide +kernel
theorem dX6_agreesWithSurveys_66 : decode cX6_agreesWithSurveys 66 = .ok (.ireturn, 1) := by decide +kernel
theorem dX6_agreesWithSurveys_67 : decode cX6_agreesWithSurveys 67 = .ok (.iinc 2 1, 3) := by decide +kernel
theorem dX6_agreesWithSurveys_70 : decode cX6_agreesWithSurveys 70 = .ok (.goto (-38), 3) := by decide +kernel
theorem dX6_agreesWithSurveys_73 : decode cX6_agreesWithSurveys 73 = .ok (.iconst 1, 1) := by decide +kernel
theorem dX6_agreesWithSurveys_74 : decode cX6_agreesWithSurveys 74 = .ok (.ireturn, 1) := by decide +kernel
set_option maxRecDepth 20000 in
theorem ggX6_goThroughAgain_X2_goThrough : GoodIn wsX6_goThroughAgain wsX2_goThrough := goodIn_r _ [11, 12, 13, 14, 15, 16, 17, 18, 19, 20, 21, 10, 22, 23, 24, 25, 26, 27, 28, 29, 30, 31, 32, 33, 34, 35, 36, 37, 38, 39, 40, 41, 42, 43, 44, 45, 46, 47, 48, 49, 50, 51, 52, 53, 54, 55, 56, 57, 58, 59, 60, 61, 62, 63, 64, 65, 66, 67, 68, 69, 70, 71, 72, 73, 74, 75, 76, 105, 106, 107, 108, 109, 110, 111, 112, 113, 114, 115, 116, 117, 118] (by decide +kernel) (by decide +kernel)
set_option maxRecDepth 20000 in
theorem gX6_goThroughAgain_X2_goThrough : GoodIn wsX6_goThroughAgain (wsV RX6 120 RX2 yX2_goThrough wsX2_goThrough) := goodIn_app (goodIn_of _ (by decide +kernel)) ggX6_goThroughAgain_X2_goThrough
set_option maxRecDepth 20000 in
theorem ggX6_goThroughAgain_X1_redoBehind : GoodIn wsX6_goThroughAgain wsX1_redoBehind := goodIn_r _ [81, 82, 83, 84, 85, 86, 87, 88, 89, 10, 90, 36, 41, 42, 31, 43, 48, 67, 119, 120, 121, 122, 123, 105, 106, 107, 108, 109, 110] (by decide +kernel) (by decide +kernel)
set_option maxRecDepth 20000 in
theorem gX6_goThroughAgain_X1_redoBehind : GoodIn wsX6_goThroughAgain (wsV RX6 225 RX1 yX1_redoBehind wsX1_redoBehind) := goodIn_app (goodIn_of _ (by decide +kernel)) ggX6_goThroughAgain_X1_redoBehind
theorem dX6_goThroughAgain_0 : decode cX6_goThroughAgain 0 = .ok (.aload_n 0, 1) := by decide +kernel
theorem dX6_goThroughAgain_1 : decode cX6_goThroughAgain 1 = .ok (.getfield 26, 3) := by decide +kernel
theorem dX6_goThroughAgain_4 : decode cX6_goThroughAgain 4 = .ok (.aload_n 0, 1) := by decide +kernel
theorem dX6_goThroughAgain_5 : decode cX6_goThroughAgain 5 = .ok (.getfield 16, 3) := by decide +kernel
theorem dX6_goThroughAgain_8 : decode cX6_goThroughAgain 8 = .ok (.aload_n 0, 1) := by decide +kernel
theorem dX6_goThroughAgain_9 : decode cX6_goThroughAgain 9 = .ok (.getfield 32, 3) := by decide +kernel
theorem dX6_goThroughAgain_12 : decode cX6_goThroughAgain 12 = .ok (.getfield 114, 3) := by decide +kernel
theorem dX6_goThroughAgain_15 : decode cX6_goThroughAgain 15 = .ok (.iload_n 1, 1) := by decide +kernel
theorem dX6_goThroughAgain_16 : decode cX6_goThroughAgain 16 = .ok (.iaload, 1) := by decide +kernel
theorem dX6_goThroughAgain_17 : decode cX6_goThroughAgain 17 = .ok (.aload_n 0, 1) := by decide +kernel
theorem dX6_goThroughAgain_18 : decode cX6_goThroughAgain 18 = .ok (.getfield 32, 3) := by decide +kernel
theorem dX6_goThroughAgain_21 : decode cX6_goThroughAgain 21 = .ok (.getfield 117, 3) := by decide +kernel
theorem dX6_goThroughAgain_24 : decode cX6_goThroughAgain 24 = .ok (.iload_n 1, 1) := by decide +kernel
theorem dX6_goThroughAgain_25 : decode cX6_goThroughAgain 25 = .ok (.iaload, 1) := by decide +kernel
theorem dX6_goThroughAgain_26 : decode cX6_goThroughAgain 26 = .ok (.invokevirtual 120, 3) := by decide +kernel
theorem dX6_goThroughAgain_29 : decode cX6_goThroughAgain 29 = .ok (.aload_n 0, 1) := by decide +kernel
theorem dX6_goThroughAgain_30 : decode cX6_goThroughAgain 30 = .ok (.getfield 39, 3) := by decide +kernel
theorem dX6_goThroughAgain_33 : decode cX6_goThroughAgain 33 = .ok (.iload_n 1, 1) := by decide +kernel
theorem dX6_goThroughAgain_34 : decode cX6_goThroughAgain 34 = .ok (.iconst 1, 1) := by decide +kernel
theorem dX6_goThroughAgain_35 : decode cX6_goThroughAgain 35 = .ok (.iadd, 1) := by decide +kernel
theorem dX6_goThroughAgain_36 : decode cX6_goThroughAgain 36 = .ok (.aload_n 0, 1) := by decide +kernel
theorem dX6_goThroughAgain_37 : decode cX6_goThroughAgain 37 = .ok (.getfield 26, 3) := by decide +kernel
theorem dX6_goThroughAgain_40 : decode cX6_goThroughAgain 40 = .ok (.invokevirtual 225, 3) := by decide +kernel
theorem dX6_goThroughAgain_43 : decode cX6_goThroughAgain 43 = .ok (.return_, 1) := by decide +kernel
theorem dX7_thrown_0 : decode cX7_thrown 0 = .ok (.aload_n 0, 1) := by decide +kernel
theorem dX7_thrown_1 : decode cX7_thrown 1 = .ok (.getfield 1, 3) := by decide +kernel
theorem dX7_thrown_4 : decode cX7_thrown 4 = .ok (.ireturn, 1) := by decide +kernel
theorem dX7_init_0 : decode cX7_init 0 = .ok (.aload_n 0, 1) := by decide +kernel
theorem dX7_init_1 : decode cX7_init 1 = .ok (.invokespecial 7, 3) := by decide +kernel
theorem dX7_init_4 : decode cX7_init 4 = .ok (.aload_n 0, 1) := by decide +kernel
theorem dX7_init_5 : decode cX7_init 5 = .ok (.bipush 6, 2) := by decide +kernel
theorem dX7_init_7 : decode cX7_init 7 = .ok (.putfield 13, 3) := by decide +kernel
theorem dX7_init_10 : decode cX7_init 10 = .ok (.aload_n 0, 1) := by decide +kernel
theorem dX7_init_11 : decode cX7_init 11 = .ok (.bipush 12, 2) := by decide +kernel
theorem dX7_init_13 : decode cX7_init 13 = .ok (.newarray .int, 2) := by decide +kernel
theorem dX7_init_15 : decode cX7_init 15 = .ok (.putfield 16, 3) := by decide +kernel
theorem dX7_init_18 : decode cX7_init 18 = .ok (.aload_n 0, 1) := by decide +kernel
theorem dX7_init_19 : decode cX7_init 19 = .ok (.bipush 13, 2) := by decide +kernel
theorem dX7_init_21 : decode cX7_init 21 = .ok (.newarray .int, 2) := by decide +kernel
theorem dX7_init_23 : decode cX7_init 23 = .ok (.putfield 20, 3) := by decide +kernel
theorem dX7_init_26 : decode cX7_init 26 = .ok (.aload_n 0, 1) := by decide +kernel
theorem dX7_init_27 : decode cX7_init 27 = .ok (.bipush 13, 2) := by decide +kernel
theorem dX7_init_29 : decode cX7_init 29 = .ok (.newarray .int, 2) := by decide +kernel
theorem dX7_init_31 : decode cX7_init 31 = .ok (.putfield 23, 3) := by decide +kernel
theorem dX7_init_34 : decode cX7_init 34 = .ok (.aload_n 0, 1) := by decide +kernel
theorem dX7_init_35 : decode cX7_init 35 = .ok (.bipush 13, 2) := by decide +kernel
theorem dX7_init_37 : decode cX7_init 37 = .ok (.newarray .int, 2) := by decide +kernel
theorem dX7_init_39 : decode cX7_init 39 = .ok (.putfield 26, 3) := by decide +kernel
theorem dX7_init_42 : decode cX7_init 42 = .ok (.aload_n 0, 1) := by decide +kernel
theorem dX7_init_43 : decode cX7_init 43 = .ok (.bipush 12, 2) := by decide +kernel
theorem dX7_init_45 : decode cX7_init 45 = .ok (.newarray .int, 2) := by decide +kernel
theorem dX7_init_47 : decode cX7_init 47 = .ok (.putfield 29, 3) := by decide +kernel
theorem dX7_init_50 : decode cX7_init 50 = .ok (.aload_n 0, 1) := by decide +kernel
theorem dX7_init_51 : decode cX7_init 51 = .ok (.iconst 2, 1) := by decide +kernel
theorem dX7_init_52 : decode cX7_init 52 = .ok (.newarray .int, 2) := by decide +kernel
theorem dX7_init_54 : decode cX7_init 54 = .ok (.putfield 32, 3) := by decide +kernel
theorem dX7_init_57 : decode cX7_init 57 = .ok (.aload_n 0, 1) := by decide +kernel
theorem dX7_init_58 : decode cX7_init 58 = .ok (.iconst 4, 1) := by decide +kernel
theorem dX7_init_59 : decode cX7_init 59 = .ok (.putfield 35, 3) := by decide +kernel
theorem dX7_init_62 : decode cX7_init 62 = .ok (.aload_n 0, 1) := by decide +kernel
theorem dX7_init_63 : decode cX7_init 63 = .ok (.bipush 120, 2) := by decide +kernel
theorem dX7_init_65 : decode cX7_init 65 = .ok (.newarray .int, 2) := by decide +kernel
theorem dX7_init_67 : decode cX7_init 67 = .ok (.putfield 38, 3) := by decide +kernel
theorem dX7_init_70 : decode cX7_init 70 = .ok (.aload_n 0, 1) := by decide +kernel
theorem dX7_init_71 : decode cX7_init 71 = .ok (.bipush 120, 2) := by decide +kernel
theorem dX7_init_73 : decode cX7_init 73 = .ok (.newarray .int, 2) := by decide +kernel
theorem dX7_init_75 : decode cX7_init 75 = .ok (.putfield 41, 3) := by decide +kernel
theorem dX7_init_78 : decode cX7_init 78 = .ok (.aload_n 0, 1) := by decide +kernel
theorem dX7_init_79 : decode cX7_init 79 = .ok (.bipush 20, 2) := by decide +kernel
theorem dX7_init_81 : decode cX7_init 81 = .ok (.newarray .int, 2) := by decide +kernel
theorem dX7_init_83 : decode cX7_init 83 = .ok (.putfield 44, 3) := by decide +kernel
theorem dX7_init_86 : decode cX7_init 86 = .ok (.aload_n 0, 1) := by decide +kernel
theorem dX7_init_87 : decode cX7_init 87 = .ok (.bipush 20, 2) := by decide +kernel
theorem dX7_init_89 : decode cX7_init 89 = .ok (.newarray .int, 2) := by decide +kernel
theorem dX7_init_91 : decode cX7_init 91 = .ok (.putfield 47, 3) := by decide +kernel
theorem dX7_init_94 : decode cX7_init 94 = .ok (.aload_n 0, 1) := by decide +kernel
theorem dX7_init_95 : decode cX7_init 95 = .ok (.bipush 20, 2) := by decide +kernel
theorem dX7_init_97 : decode cX7_init 97 = .ok (.newarray .int, 2) := by decide +kernel
theorem dX7_init_99 : decode cX7_init 99 = .ok (.putfield 50, 3) := by decide +kernel
theorem dX7_init_102 : decode cX7_init 102 = .ok (.aload_n 0, 1) := by decide +kernel
theorem dX7_init_103 : decode cX7_init 103 = .ok (.bipush 20, 2) := by decide +kernel
theorem dX7_init_105 : decode cX7_init 105 = .ok (.newarray .int, 2) := by decide +kernel
theorem dX7_init_107 : decode cX7_init 107 = .ok (.putfield 53, 3) := by decide +kernel
theorem dX7_init_110 : decode cX7_init 110 = .ok (.aload_n 0, 1) := by decide +kernel
theorem dX7_init_111 : decode cX7_init 111 = .ok (.bipush 12, 2) := by decide +kernel
theorem dX7_init_113 : decode cX7_init 113 = .ok (.newarray .int, 2) := by decide +kernel
theorem dX7_init_115 : decode cX7_init 115 = .ok (.putfield 56, 3) := by decide +kernel
theorem dX7_init_118 : decode cX7_init 118 = .ok (.aload_n 0, 1) := by decide +kernel
theorem dX7_init_119 : decode cX7_init 119 = .ok (.bipush 12, 2) := by decide +kernel
theorem dX7_init_121 : decode cX7_init 121 = .ok (.newarray .int, 2) := by decide +kernel
theorem dX7_init_123 : decode cX7_init 123 = .ok (.putfield 59, 3) := by decide +kernel
theorem dX7_init_126 : decode cX7_init 126 = .ok (.aload_n 0, 1) := by decide +kernel
theorem dX7_init_127 : decode cX7_init 127 = .ok (.bipush 12, 2) := by decide +kernel
theorem dX7_init_129 : decode cX7_init 129 = .ok (.newarray .int, 2) := by decide +kernel
theorem dX7_init_131 : decode cX7_init 131 = .ok (.putfield 62, 3) := by decide +kernel
theorem dX7_init_134 : decode cX7_init 134 = .ok (.aload_n 0, 1) := by decide +kernel
theorem dX7_init_135 : decode cX7_init 135 = .ok (.bipush 13, 2) := by decide +kernel
theorem dX7_init_137 : decode cX7_init 137 = .ok (.newarray .int, 2) := by decide +kernel
theorem dX7_init_139 : decode cX7_init 139 = .ok (.putfield 65, 3) := by decide +kernel
theorem dX7_init_142 : decode cX7_init 142 = .ok (.aload_n 0, 1) := by decide +kernel
theorem dX7_init_143 : decode cX7_init 143 = .ok (.bipush 13, 2) := by decide +kernel
theorem dX7_init_145 : decode cX7_init 145 = .ok (.newarray .int, 2) := by decide +kernel
theorem dX7_init_147 : decode cX7_init 147 = .ok (.putfield 68, 3) := by decide +kernel
theorem dX7_init_150 : decode cX7_init 150 = .ok (.aload_n 0, 1) := by decide +kernel
theorem dX7_init_151 : decode cX7_init 151 = .ok (.bipush 13, 2) := by decide +kernel
theorem dX7_init_153 : decode cX7_init 153 = .ok (.newarray .int, 2) := by decide +kernel
theorem dX7_init_155 : decode cX7_init 155 = .ok (.putfield 71, 3) := by decide +kernel
theorem dX7_init_158 : decode cX7_init 158 = .ok (.aload_n 0, 1) := by decide +kernel
theorem dX7_init_159 : decode cX7_init 159 = .ok (.bipush 12, 2) := by decide +kernel
theorem dX7_init_161 : decode cX7_init 161 = .ok (.newarray .int, 2) := by decide +kernel
theorem dX7_init_163 : decode cX7_init 163 = .ok (.putfield 74, 3) := by decide +kernel
theorem dX7_init_166 : decode cX7_init 166 = .ok (.aload_n 0, 1) := by decide +kernel
theorem dX7_init_167 : decode cX7_init 167 = .ok (.bipush 6, 2) := by decide +kernel
theorem dX7_init_169 : decode cX7_init 169 = .ok (.newarray .int, 2) := by decide +kernel
theorem dX7_init_171 : decode cX7_init 171 = .ok (.putfield 77, 3) := by decide +kernel
theorem dX7_init_174 : decode cX7_init 174 = .ok (.aload_n 0, 1) := by decide +kernel
theorem dX7_init_175 : decode cX7_init 175 = .ok (.bipush 6, 2) := by decide +kernel
theorem dX7_init_177 : decode cX7_init 177 = .ok (.newarray .int, 2) := by decide +kernel
theorem dX7_init_179 : decode cX7_init 179 = .ok (.putfield 80, 3) := by decide +kernel
theorem dX7_init_182 : decode cX7_init 182 = .ok (.aload_n 0, 1) := by decide +kernel
theorem dX7_init_183 : decode cX7_init 183 = .ok (.bipush 6, 2) := by decide +kernel
theorem dX7_init_185 : decode cX7_init 185 = .ok (.newarray .int, 2) := by decide +kernel
theorem dX7_init_187 : decode cX7_init 187 = .ok (.putfield 83, 3) := by decide +kernel
theorem dX7_init_190 : decode cX7_init 190 = .ok (.aload_n 0, 1) := by decide +kernel
theorem dX7_init_191 : decode cX7_init 191 = .ok (.bipush 6, 2) := by decide +kernel
theorem dX7_init_193 : decode cX7_init 193 = .ok (.newarray .int, 2) := by decide +kernel
theorem dX7_init_195 : decode cX7_init 195 = .ok (.putfield 86, 3) := by decide +kernel
theorem dX7_init_198 : decode cX7_init 198 = .ok (.aload_n 0, 1) := by decide +kernel
theorem dX7_init_199 : decode cX7_init 199 = .ok (.bipush 12, 2) := by decide +kernel
theorem dX7_init_201 : decode cX7_init 201 = .ok (.newarray .int, 2) := by decide +kernel
theorem dX7_init_203 : decode cX7_init 203 = .ok (.putfield 89, 3) := by decide +kernel
theorem dX7_init_206 : decode cX7_init 206 = .ok (.aload_n 0, 1) := by decide +kernel
theorem dX7_init_207 : decode cX7_init 207 = .ok (.bipush 20, 2) := by decide +kernel
theorem dX7_init_209 : decode cX7_init 209 = .ok (.newarray .int, 2) := by decide +kernel
theorem dX7_init_211 : decode cX7_init 211 = .ok (.putfield 92, 3) := by decide +kernel
theorem dX7_init_214 : decode cX7_init 214 = .ok (.aload_n 0, 1) := by decide +kernel
theorem dX7_init_215 : decode cX7_init 215 = .ok (.bipush 20, 2) := by decide +kernel
theorem dX7_init_217 : decode cX7_init 217 = .ok (.newarray .int, 2) := by decide +kernel
theorem dX7_init_219 : decode cX7_init 219 = .ok (.putfield 95, 3) := by decide +kernel
theorem dX7_init_222 : decode cX7_init 222 = .ok (.aload_n 0, 1) := by decide +kernel
theorem dX7_init_223 : decode cX7_init 223 = .ok (.bipush 20, 2) := by decide +kernel
theorem dX7_init_225 : decode cX7_init 225 = .ok (.newarray .int, 2) := by decide +kernel
theorem dX7_init_227 : decode cX7_init 227 = .ok (.putfield 98, 3) := by decide +kernel
theorem dX7_init_230 : decode cX7_init 230 = .ok (.aload_n 0, 1) := by decide +kernel
theorem dX7_init_231 : decode cX7_init 231 = .ok (.bipush 20, 2) := by decide +kernel
theorem dX7_init_233 : decode cX7_init 233 = .ok (.newarray .int, 2) := by decide +kernel
theorem dX7_init_235 : decode cX7_init 235 = .ok (.putfield 101, 3) := by decide +kernel
theorem dX7_init_238 : decode cX7_init 238 = .ok (.iconst 0, 1) := by decide +kernel
theorem dX7_init_239 : decode cX7_init 239 = .ok (.istore_n 1, 1) := by decide +kernel
theorem dX7_init_240 : decode cX7_init 240 = .ok (.iload_n 1, 1) := by decide +kernel
theorem dX7_init_241 : decode cX7_init 241 = .ok (.bipush 12, 2) := by decide +kernel
theorem dX7_init_243 : decode cX7_init 243 = .ok (.if_icmp .ge 18, 3) := by decide +kernel
theorem dX7_init_246 : decode cX7_init 246 = .ok (.aload_n 0, 1) := by decide +kernel
theorem dX7_init_247 : decode cX7_init 247 = .ok (.getfield 16, 3) := by decide +kernel
theorem dX7_init_250 : decode cX7_init 250 = .ok (.iload_n 1, 1) := by decide +kernel
theorem dX7_init_251 : decode cX7_init 251 = .ok (.sipush 1000, 3) := by decide +kernel
theorem dX7_init_254 : decode cX7_init 254 = .ok (.iastore, 1) := by decide +kernel
theorem dX7_init_255 : decode cX7_init 255 = .ok (.iinc 1 1, 3) := by decide +kernel
theorem dX7_init_258 : decode cX7_init 258 = .ok (.goto (-18), 3) := by decide +kernel
theorem dX7_init_261 : decode cX7_init 261 = .ok (.aload_n 0, 1) := by decide +kernel
theorem dX7_init_262 : decode cX7_init 262 = .ok (.getfield 32, 3) := by decide +kernel
theorem dX7_init_265 : decode cX7_init 265 = .ok (.iconst 0, 1) := by decide +kernel
theorem dX7_init_266 : decode cX7_init 266 = .ok (.bipush 100, 2) := by decide +kernel
theorem dX7_init_268 : decode cX7_init 268 = .ok (.iastore, 1) := by decide +kernel
theorem dX7_init_269 : decode cX7_init 269 = .ok (.aload_n 0, 1) := by decide +kernel
theorem dX7_init_270 : decode cX7_init 270 = .ok (.getfield 32, 3) := by decide +kernel
theorem dX7_init_273 : decode cX7_init 273 = .ok (.iconst 1, 1) := by decide +kernel
theorem dX7_init_274 : decode cX7_init 274 = .ok (.bipush 100, 2) := by decide +kernel
theorem dX7_init_276 : decode cX7_init 276 = .ok (.iastore, 1) := by decide +kernel
theorem dX7_init_277 : decode cX7_init 277 = .ok (.return_, 1) := by decide +kernel
theorem dX7_within_0 : decode cX7_within 0 = .ok (.iload_n 0, 1) := by decide +kernel
theorem dX7_within_1 : decode cX7_within 1 = .ok (.iload_n 1, 1) := by decide +kernel
theorem dX7_within_2 : decode cX7_within 2 = .ok (.if_icmp .lt 12, 3) := by decide +kernel
theorem dX7_within_5 : decode cX7_within 5 = .ok (.iload_n 0, 1) := by decide +kernel
theorem dX7_within_6 : decode cX7_within 6 = .ok (.iload_n 2, 1) := by decide +kernel
theorem dX7_within_7 : decode cX7_within 7 = .ok (.if_icmp .gt 7, 3) := by decide +kernel
theorem dX7_within_10 : decode cX7_within 10 = .ok (.iconst 1, 1) := by decide +kernel
theorem dX7_within_11 : decode cX7_within 11 = .ok (.goto 4, 3) := by decide +kernel
theorem dX7_within_14 : decode cX7_within 14 = .ok (.iconst 0, 1) := by decide +kernel
theorem dX7_within_15 : decode cX7_within 15 = .ok (.ireturn, 1) := by decide +kernel
set_option maxRecDepth 20000 in
theorem ggX7_fields_X7_within : GoodIn wsX7_fields wsX7_within := goodIn_r _ [7] (by decide +kernel) (by decide +kernel)
set_option maxRecDepth 20000 in
theorem gX7_fields_X7_within : GoodIn wsX7_fields (va_wsS RX7 104 yX7_within wsX7_within) := goodIn_app (goodIn_of _ (by decide +kernel)) ggX7_fields_X7_within
theorem dX7_fields_0 : decode cX7_fields 0 = .ok (.aload_n 0, 1) := by decide +kernel
theorem dX7_fields_1 : decode cX7_fields 1 = .ok (.iconst 0, 1) := by decide +kernel
theorem dX7_fields_2 : decode cX7_fields 2 = .ok (.putfield 1, 3) := by decide +kernel
theorem dX7_fields_5 : decode cX7_fields 5 = .ok (.iload_n 1, 1) := by decide +kernel
theorem dX7_fields_6 : decode cX7_fields 6 = .ok (.iconst 2, 1) := by decide +kernel
theorem dX7_fields_7 : decode cX7_fields 7 = .ok (.bipush 12, 2) := by decide +kernel
theorem dX7_fields_9 : decode cX7_fields 9 = .ok (.invokestatic 104, 3) := by decide +kernel
theorem dX7_fields_12 : decode cX7_fields 12 = .ok (.ifCond .eq 10, 3) := by decide +kernel
theorem dX7_fields_15 : decode cX7_fields 15 = .ok (.aload_n 0, 1) := by decide +kernel
theorem dX7_fields_16 : decode cX7_fields 16 = .ok (.getfield 108, 3) := by decide +kernel
theorem dX7_fields_19 : decode cX7_fields 19 = .ok (.ifCond .eq 5, 3) := by decide +kernel
theorem dX7_fields_22 : decode cX7_fields 22 = .ok (.iconst 0, 1) := by decide +kernel
theorem dX7_fields_23 : decode cX7_fields 23 = .ok (.ireturn, 1) := by decide +kernel
theorem dX7_fields_24 : decode cX7_fields 24 = .ok (.aload_n 0, 1) := by decide +kernel
theorem dX7_fields_25 : decode cX7_fields 25 = .ok (.iload_n 1, 1) := by decide +kernel
theorem dX7_fields_26 : decode cX7_fields 26 = .ok (.putfield 13, 3) := by decide +kernel
theorem dX7_fields_29 : decode cX7_fields 29 = .ok (.iconst 1, 1) := by decide +kernel
theorem dX7_fields_30 : decode cX7_fields 30 = .ok (.ireturn, 1) := by decide +kernel
set_option maxRecDepth 20000 in
theorem ggX7_isField_X7_within : GoodIn wsX7_isField wsX7_within := goodIn_r _ [5] (by decide +kernel) (by decide +kernel)
set_option maxRecDepth 20000 in
theorem gX7_isField_X7_within : GoodIn wsX7_isField (va_wsS RX7 104 yX7_within wsX7_within) := goodIn_app (goodIn_of _ (by decide +kernel)) ggX7_isField_X7_within
theorem dX7_isField_0 : decode cX7_isField 0 = .ok (.iload_n 1, 1) := by decide +kernel
theorem dX7_isField_1 : decode cX7_isField 1 = .ok (.iconst 0, 1) := by decide +kernel
theorem dX7_isField_2 : decode cX7_isField 2 = .ok (.aload_n 0, 1) := by decide +kernel
theorem dX7_isField_3 : decode cX7_isField 3 = .ok (.getfield 13, 3) := by decide +kernel
theorem dX7_isField_6 : decode cX7_isField 6 = .ok (.iconst 1, 1) := by decide +kernel
theorem dX7_isField_7 : decode cX7_isField 7 = .ok (.isub, 1) := by decide +kernel
theorem dX7_isField_8 : decode cX7_isField 8 = .ok (.invokestatic 104, 3) := by decide +kernel
theorem dX7_isField_11 : decode cX7_isField 11 = .ok (.ireturn, 1) := by decide +kernel
set_option maxRecDepth 20000 in
theorem ggX7_isInner_X7_within : GoodIn wsX7_isInner wsX7_within := goodIn_r _ [5] (by decide +kernel) (by decide +kernel)
set_option maxRecDepth 20000 in
theorem gX7_isInner_X7_within : GoodIn wsX7_isInner (va_wsS RX7 104 yX7_within wsX7_within) := goodIn_app (goodIn_of _ (by decide +kernel)) ggX7_isInner_X7_within
theorem dX7_isInner_0 : decode cX7_isInner 0 = .ok (.iload_n 1, 1) := by decide +kernel
theorem dX7_isInner_1 : decode cX7_isInner 1 = .ok (.iconst 1, 1) := by decide +kernel
theorem dX7_isInner_2 : decode cX7_isInner 2 = .ok (.aload_n 0, 1) := by decide +kernel
theorem dX7_isInner_3 : decode cX7_isInner 3 = .ok (.getfield 13, 3) := by decide +kernel
theorem dX7_isInner_6 : decode cX7_isInner 6 = .ok (.iconst 1, 1) := by decide +kernel
theorem dX7_isInner_7 : decode cX7_isInner 7 = .ok (.isub, 1) := by decide +kernel
theorem dX7_isInner_8 : decode cX7_isInner 8 = .ok (.invokestatic 104, 3) := by decide +kernel
theorem dX7_isInner_11 : decode cX7_isInner 11 = .ok (.ireturn, 1) := by decide +kernel
set_option maxRecDepth 20000 in
theorem ggX7_sand_X7_isField : GoodIn wsX7_sand wsX7_isField := goodIn_r _ [10, 11, 12, 13, 9, 14, 15, 16, 17, 18, 19, 20, 21, 22, 23, 24, 25, 26, 27, 28, 29, 30, 31, 32, 33, 34, 35, 36, 37, 38, 39, 40, 41, 42, 43, 44, 45, 46, 47, 48, 49, 50, 51] (by decide +kernel) (by decide +kernel)
set_option maxRecDepth 20000 in
theorem gX7_sand_X7_isField : GoodIn wsX7_sand (wsV RX7 112 RX7 yX7_isField wsX7_isField) := goodIn_app (goodIn_of _ (by decide +kernel)) ggX7_sand_X7_isField
set_option maxRecDepth 20000 in
theorem ggX7_sand_X7_within : GoodIn wsX7_sand wsX7_within := goodIn_r _ [14] (by decide +kernel) (by decide +kernel)
set_option maxRecDepth 20000 in
theorem gX7_sand_X7_within : GoodIn wsX7_sand (va_wsS RX7 104 yX7_within wsX7_within) := goodIn_app (goodIn_of _ (by decide +kernel)) ggX7_sand_X7_within
theorem dX7_sand_0 : decode cX7_sand 0 = .ok (.aload_n 0, 1) := by decide +kernel
theorem dX7_sand_1 : decode cX7_sand 1 = .ok (.iconst 0, 1) := by decide +kernel
theorem dX7_sand_2 : decode cX7_sand 2 = .ok (.putfield 1, 3) := by decide +kernel
theorem dX7_sand_5 : decode cX7_sand 5 = .ok (.aload_n 0, 1) := by decide +kernel
theorem dX7_sand_6 : decode cX7_sand 6 = .ok (.iload_n 1, 1) := by decide +kernel
theorem dX7_sand_7 : decode cX7_sand 7 = .ok (.invokevirtual 112, 3) := by decide +kernel
theorem dX7_sand_10 : decode cX7_sand 10 = .ok (.ifCond .eq 20, 3) := by decide +kernel
theorem dX7_sand_13 : decode cX7_sand 13 = .ok (.iload_n 2, 1) := by decide +kernel
theorem dX7_sand_14 : decode cX7_sand 14 = .ok (.iconst 0, 1) := by decide +kernel
theorem dX7_sand_15 : decode cX7_sand 15 = .ok (.ldc 116, 2) := by decide +kernel
theorem dX7_sand_17 : decode cX7_sand 17 = .ok (.invokestatic 104, 3) := by decide +kernel
theorem dX7_sand_20 : decode cX7_sand 20 = .ok (.ifCond .eq 10, 3) := by decide +kernel
theorem dX7_sand_23 : decode cX7_sand 23 = .ok (.aload_n 0, 1) := by decide +kernel
theorem dX7_sand_24 : decode cX7_sand 24 = .ok (.getfield 117, 3) := by decide +kernel
theorem dX7_sand_27 : decode cX7_sand 27 = .ok (.ifCond .le 5, 3) := by decide +kernel
theorem dX7_sand_30 : decode cX7_sand 30 = .ok (.iconst 0, 1) := by decide +kernel
theorem dX7_sand_31 : decode cX7_sand 31 = .ok (.ireturn, 1) := by decide +kernel
theorem dX7_sand_32 : decode cX7_sand 32 = .ok (.aload_n 0, 1) := by decide +kernel
theorem dX7_sand_33 : decode cX7_sand 33 = .ok (.getfield 16, 3) := by decide +kernel
theorem dX7_sand_36 : decode cX7_sand 36 = .ok (.iload_n 1, 1) := by decide +kernel
theorem dX7_sand_37 : decode cX7_sand 37 = .ok (.iload_n 2, 1) := by decide +kernel
theorem dX7_sand_38 : decode cX7_sand 38 = .ok (.iastore, 1) := by decide +kernel
theorem dX7_sand_39 : decode cX7_sand 39 = .ok (.aload_n 0, 1) := by decide +kernel
theorem dX7_sand_40 : decode cX7_sand 40 = .ok (.iconst 1, 1) := by decide +kernel
theorem dX7_sand_41 : decode cX7_sand 41 = .ok (.putfield 108, 3) := by decide +kernel
theorem dX7_sand_44 : decode cX7_sand 44 = .ok (.iconst 1, 1) := by decide +kernel
theorem dX7_sand_45 : decode cX7_sand 45 = .ok (.ireturn, 1) := by decide +kernel
set_option maxRecDepth 20000 in
theorem ggX7_groyne_X7_isInner : GoodIn wsX7_groyne wsX7_isInner := goodIn_r _ [11, 12, 13, 14, 10, 15, 16, 17, 18, 19, 20, 21, 22, 23, 24, 25, 26, 27, 28, 29, 30, 31, 32, 33, 34, 35, 36, 37, 38, 39, 40, 41, 42, 43, 44, 45, 46, 47, 48, 49, 50, 51, 52] (by decide +kernel) (by decide +kernel)
set_option maxRecDepth 20000 in
theorem gX7_groyne_X7_isInner : GoodIn wsX7_groyne (wsV RX7 120 RX7 yX7_isInner wsX7_isInner) := goodIn_app (goodIn_of _ (by decide +kernel)) ggX7_groyne_X7_isInner
set_option maxRecDepth 20000 in
theorem ggX7_groyne_X7_within : GoodIn wsX7_groyne wsX7_within := goodIn_r _ [15] (by decide +kernel) (by decide +kernel)
set_option maxRecDepth 20000 in
theorem gX7_groyne_X7_within : GoodIn wsX7_groyne (va_wsS RX7 104 yX7_within wsX7_within) := goodIn_app (goodIn_of _ (by decide +kernel)) ggX7_groyne_X7_within
theorem dX7_groyne_0 : decode cX7_groyne 0 = .ok (.aload_n 0, 1) := by decide +kernel
theorem dX7_groyne_1 : decode cX7_groyne 1 = .ok (.iconst 0, 1) := by decide +kernel
theorem dX7_groyne_2 : decode cX7_groyne 2 = .ok (.putfield 1, 3) := by decide +kernel
theorem dX7_groyne_5 : decode cX7_groyne 5 = .ok (.aload_n 0, 1) := by decide +kernel
theorem dX7_groyne_6 : decode cX7_groyne 6 = .ok (.iload_n 1, 1) := by decide +kernel
theorem dX7_groyne_7 : decode cX7_groyne 7 = .ok (.invokevirtual 120, 3) := by decide +kernel
theorem dX7_groyne_10 : decode cX7_groyne 10 = .ok (.ifCond .eq 31, 3) := by decide +kernel
theorem dX7_groyne_13 : decode cX7_groyne 13 = .ok (.iload_n 2, 1) := by decide +kernel
theorem dX7_groyne_14 : decode cX7_groyne 14 = .ok (.iconst 0, 1) := by decide +kernel
theorem dX7_groyne_15 : decode cX7_groyne 15 = .ok (.sipush 999, 3) := by decide +kernel
theorem dX7_groyne_18 : decode cX7_groyne 18 = .ok (.invokestatic 104, 3) := by decide +kernel
theorem dX7_groyne_21 : decode cX7_groyne 21 = .ok (.ifCond .eq 20, 3) := by decide +kernel
theorem dX7_groyne_24 : decode cX7_groyne 24 = .ok (.iload_n 3, 1) := by decide +kernel
theorem dX7_groyne_25 : decode cX7_groyne 25 = .ok (.iconst 0, 1) := by decide +kernel
theorem dX7_groyne_26 : decode cX7_groyne 26 = .ok (.bipush 100, 2) := by decide +kernel
theorem dX7_groyne_28 : decode cX7_groyne 28 = .ok (.invokestatic 104, 3) := by decide +kernel
theorem dX7_groyne_31 : decode cX7_groyne 31 = .ok (.ifCond .eq 10, 3) := by decide +kernel
theorem dX7_groyne_34 : decode cX7_groyne 34 = .ok (.aload_n 0, 1) := by decide +kernel
theorem dX7_groyne_35 : decode cX7_groyne 35 = .ok (.getfield 117, 3) := by decide +kernel
theorem dX7_groyne_38 : decode cX7_groyne 38 = .ok (.ifCond .le 5, 3) := by decide +kernel
theorem dX7_groyne_41 : decode cX7_groyne 41 = .ok (.iconst 0, 1) := by decide +kernel
theorem dX7_groyne_42 : decode cX7_groyne 42 = .ok (.ireturn, 1) := by decide +kernel
theorem dX7_groyne_43 : decode cX7_groyne 43 = .ok (.aload_n 0, 1) := by decide +kernel
theorem dX7_groyne_44 : decode cX7_groyne 44 = .ok (.getfield 20, 3) := by decide +kernel
theorem dX7_groyne_47 : decode cX7_groyne 47 = .ok (.iload_n 1, 1) := by decide +kernel
theorem dX7_groyne_48 : decode cX7_groyne 48 = .ok (.iload_n 2, 1) := by decide +kernel
theorem dX7_groyne_49 : decode cX7_groyne 49 = .ok (.ifCond .ne 7, 3) := by decide +kernel
theorem dX7_groyne_52 : decode cX7_groyne 52 = .ok (.iconst 0, 1) := by decide +kernel
theorem dX7_groyne_53 : decode cX7_groyne 53 = .ok (.goto 4, 3) := by decide +kernel
theorem dX7_groyne_56 : decode cX7_groyne 56 = .ok (.iconst 1, 1) := by decide +kernel
theorem dX7_groyne_57 : decode cX7_groyne 57 = .ok (.iastore, 1) := by decide +kernel
theorem dX7_groyne_58 : decode cX7_groyne 58 = .ok (.aload_n 0, 1) := by decide +kernel
theorem dX7_groyne_59 : decode cX7_groyne 59 = .ok (.getfield 23, 3) := by decide +kernel
theorem dX7_groyne_62 : decode cX7_groyne 62 = .ok (.iload_n 1, 1) := by decide +kernel
theorem dX7_groyne_63 : decode cX7_groyne 63 = .ok (.iload_n 2, 1) := by decide +kernel
theorem dX7_groyne_64 : decode cX7_groyne 64 = .ok (.iastore, 1) := by decide +kernel
theorem dX7_groyne_65 : decode cX7_groyne 65 = .ok (.aload_n 0, 1) := by decide +kernel
theorem dX7_groyne_66 : decode cX7_groyne 66 = .ok (.getfield 26, 3) := by decide +kernel
theorem dX7_groyne_69 : decode cX7_groyne 69 = .ok (.iload_n 1, 1) := by decide +kernel
theorem dX7_groyne_70 : decode cX7_groyne 70 = .ok (.iload_n 3, 1) := by decide +kernel
theorem dX7_groyne_71 : decode cX7_groyne 71 = .ok (.iastore, 1) := by decide +kernel
theorem dX7_groyne_72 : decode cX7_groyne 72 = .ok (.aload_n 0, 1) := by decide +kernel
theorem dX7_groyne_73 : decode cX7_groyne 73 = .ok (.iconst 1, 1) := by decide +kernel
theorem dX7_groyne_74 : decode cX7_groyne 74 = .ok (.putfield 108, 3) := by decide +kernel
end
section
theorem dX7_groyne_77 : decode cX7_groyne 77 = .ok (.iconst 1, 1) := by decide +kernel
theorem dX7_groyne_78 : decode cX7_groyne 78 = .ok (.ireturn, 1) := by decide +kernel
set_option maxRecDepth 20000 in
theorem ggX7_mouth_X7_isInner : GoodIn wsX7_mouth wsX7_isInner := goodIn_r _ [11, 12, 13, 14, 10, 15, 16, 17, 18, 19, 20, 21, 22, 23, 24, 25, 26, 27, 28, 29, 30, 31, 32, 33, 34, 35, 36, 37, 38, 39, 40, 41, 42, 43, 44, 45, 46, 47, 48, 49, 50, 51, 52] (by decide +kernel) (by decide +kernel)
set_option maxRecDepth 20000 in
theorem gX7_mouth_X7_isInner : GoodIn wsX7_mouth (wsV RX7 120 RX7 yX7_isInner wsX7_isInner) := goodIn_app (goodIn_of _ (by decide +kernel)) ggX7_mouth_X7_isInner
set_option maxRecDepth 20000 in
theorem ggX7_mouth_X7_within : GoodIn wsX7_mouth wsX7_within := goodIn_r _ [15] (by decide +kernel) (by decide +kernel)
set_option maxRecDepth 20000 in
theorem gX7_mouth_X7_within : GoodIn wsX7_mouth (va_wsS RX7 104 yX7_within wsX7_within) := goodIn_app (goodIn_of _ (by decide +kernel)) ggX7_mouth_X7_within
theorem dX7_mouth_0 : decode cX7_mouth 0 = .ok (.aload_n 0, 1) := by decide +kernel
theorem dX7_mouth_1 : decode cX7_mouth 1 = .ok (.iconst 0, 1) := by decide +kernel
theorem dX7_mouth_2 : decode cX7_mouth 2 = .ok (.putfield 1, 3) := by decide +kernel
theorem dX7_mouth_5 : decode cX7_mouth 5 = .ok (.aload_n 0, 1) := by decide +kernel
theorem dX7_mouth_6 : decode cX7_mouth 6 = .ok (.iload_n 1, 1) := by decide +kernel
theorem dX7_mouth_7 : decode cX7_mouth 7 = .ok (.invokevirtual 120, 3) := by decide +kernel
theorem dX7_mouth_10 : decode cX7_mouth 10 = .ok (.ifCond .eq 20, 3) := by decide +kernel
theorem dX7_mouth_13 : decode cX7_mouth 13 = .ok (.iload_n 2, 1) := by decide +kernel
theorem dX7_mouth_14 : decode cX7_mouth 14 = .ok (.iconst 0, 1) := by decide +kernel
theorem dX7_mouth_15 : decode cX7_mouth 15 = .ok (.bipush 100, 2) := by decide +kernel
theorem dX7_mouth_17 : decode cX7_mouth 17 = .ok (.invokestatic 104, 3) := by decide +kernel
theorem dX7_mouth_20 : decode cX7_mouth 20 = .ok (.ifCond .eq 10, 3) := by decide +kernel
theorem dX7_mouth_23 : decode cX7_mouth 23 = .ok (.aload_n 0, 1) := by decide +kernel
theorem dX7_mouth_24 : decode cX7_mouth 24 = .ok (.getfield 117, 3) := by decide +kernel
theorem dX7_mouth_27 : decode cX7_mouth 27 = .ok (.ifCond .le 5, 3) := by decide +kernel
theorem dX7_mouth_30 : decode cX7_mouth 30 = .ok (.iconst 0, 1) := by decide +kernel
theorem dX7_mouth_31 : decode cX7_mouth 31 = .ok (.ireturn, 1) := by decide +kernel
theorem dX7_mouth_32 : decode cX7_mouth 32 = .ok (.aload_n 0, 1) := by decide +kernel
theorem dX7_mouth_33 : decode cX7_mouth 33 = .ok (.getfield 20, 3) := by decide +kernel
theorem dX7_mouth_36 : decode cX7_mouth 36 = .ok (.iload_n 1, 1) := by decide +kernel
theorem dX7_mouth_37 : decode cX7_mouth 37 = .ok (.iconst 2, 1) := by decide +kernel
theorem dX7_mouth_38 : decode cX7_mouth 38 = .ok (.iastore, 1) := by decide +kernel
theorem dX7_mouth_39 : decode cX7_mouth 39 = .ok (.aload_n 0, 1) := by decide +kernel
theorem dX7_mouth_40 : decode cX7_mouth 40 = .ok (.getfield 23, 3) := by decide +kernel
theorem dX7_mouth_43 : decode cX7_mouth 43 = .ok (.iload_n 1, 1) := by decide +kernel
theorem dX7_mouth_44 : decode cX7_mouth 44 = .ok (.iconst 0, 1) := by decide +kernel
theorem dX7_mouth_45 : decode cX7_mouth 45 = .ok (.iastore, 1) := by decide +kernel
theorem dX7_mouth_46 : decode cX7_mouth 46 = .ok (.aload_n 0, 1) := by decide +kernel
theorem dX7_mouth_47 : decode cX7_mouth 47 = .ok (.getfield 26, 3) := by decide +kernel
theorem dX7_mouth_50 : decode cX7_mouth 50 = .ok (.iload_n 1, 1) := by decide +kernel
theorem dX7_mouth_51 : decode cX7_mouth 51 = .ok (.iload_n 2, 1) := by decide +kernel
theorem dX7_mouth_52 : decode cX7_mouth 52 = .ok (.iastore, 1) := by decide +kernel
theorem dX7_mouth_53 : decode cX7_mouth 53 = .ok (.aload_n 0, 1) := by decide +kernel
theorem dX7_mouth_54 : decode cX7_mouth 54 = .ok (.iconst 1, 1) := by decide +kernel
theorem dX7_mouth_55 : decode cX7_mouth 55 = .ok (.putfield 108, 3) := by decide +kernel
theorem dX7_mouth_58 : decode cX7_mouth 58 = .ok (.iconst 1, 1) := by decide +kernel
theorem dX7_mouth_59 : decode cX7_mouth 59 = .ok (.ireturn, 1) := by decide +kernel
set_option maxRecDepth 20000 in
theorem ggX7_wall_X7_isField : GoodIn wsX7_wall wsX7_isField := goodIn_r _ [9, 10, 11, 12, 8, 13, 14, 15, 16, 17, 18, 19, 20, 21, 22, 23, 24, 25, 26, 27, 28, 29, 30, 31, 32, 33, 34, 35, 36, 37, 38, 39, 40, 41, 42, 43, 44, 45, 46, 47, 48, 49, 50] (by decide +kernel) (by decide +kernel)
set_option maxRecDepth 20000 in
theorem gX7_wall_X7_isField : GoodIn wsX7_wall (wsV RX7 112 RX7 yX7_isField wsX7_isField) := goodIn_app (goodIn_of _ (by decide +kernel)) ggX7_wall_X7_isField
set_option maxRecDepth 20000 in
theorem ggX7_wall_X7_within : GoodIn wsX7_wall wsX7_within := goodIn_r _ [13] (by decide +kernel) (by decide +kernel)
set_option maxRecDepth 20000 in
theorem gX7_wall_X7_within : GoodIn wsX7_wall (va_wsS RX7 104 yX7_within wsX7_within) := goodIn_app (goodIn_of _ (by decide +kernel)) ggX7_wall_X7_within
theorem dX7_wall_0 : decode cX7_wall 0 = .ok (.aload_n 0, 1) := by decide +kernel
theorem dX7_wall_1 : decode cX7_wall 1 = .ok (.iconst 0, 1) := by decide +kernel
theorem dX7_wall_2 : decode cX7_wall 2 = .ok (.putfield 1, 3) := by decide +kernel
theorem dX7_wall_5 : decode cX7_wall 5 = .ok (.aload_n 0, 1) := by decide +kernel
theorem dX7_wall_6 : decode cX7_wall 6 = .ok (.iload_n 1, 1) := by decide +kernel
theorem dX7_wall_7 : decode cX7_wall 7 = .ok (.invokevirtual 112, 3) := by decide +kernel
theorem dX7_wall_10 : decode cX7_wall 10 = .ok (.ifCond .eq 21, 3) := by decide +kernel
theorem dX7_wall_13 : decode cX7_wall 13 = .ok (.iload_n 2, 1) := by decide +kernel
theorem dX7_wall_14 : decode cX7_wall 14 = .ok (.iconst 0, 1) := by decide +kernel
theorem dX7_wall_15 : decode cX7_wall 15 = .ok (.sipush 999, 3) := by decide +kernel
theorem dX7_wall_18 : decode cX7_wall 18 = .ok (.invokestatic 104, 3) := by decide +kernel
theorem dX7_wall_21 : decode cX7_wall 21 = .ok (.ifCond .eq 10, 3) := by decide +kernel
theorem dX7_wall_24 : decode cX7_wall 24 = .ok (.aload_n 0, 1) := by decide +kernel
theorem dX7_wall_25 : decode cX7_wall 25 = .ok (.getfield 117, 3) := by decide +kernel
theorem dX7_wall_28 : decode cX7_wall 28 = .ok (.ifCond .le 5, 3) := by decide +kernel
theorem dX7_wall_31 : decode cX7_wall 31 = .ok (.iconst 0, 1) := by decide +kernel
theorem dX7_wall_32 : decode cX7_wall 32 = .ok (.ireturn, 1) := by decide +kernel
theorem dX7_wall_33 : decode cX7_wall 33 = .ok (.aload_n 0, 1) := by decide +kernel
theorem dX7_wall_34 : decode cX7_wall 34 = .ok (.getfield 29, 3) := by decide +kernel
theorem dX7_wall_37 : decode cX7_wall 37 = .ok (.iload_n 1, 1) := by decide +kernel
theorem dX7_wall_38 : decode cX7_wall 38 = .ok (.iload_n 2, 1) := by decide +kernel
theorem dX7_wall_39 : decode cX7_wall 39 = .ok (.iastore, 1) := by decide +kernel
theorem dX7_wall_40 : decode cX7_wall 40 = .ok (.aload_n 0, 1) := by decide +kernel
theorem dX7_wall_41 : decode cX7_wall 41 = .ok (.iconst 1, 1) := by decide +kernel
theorem dX7_wall_42 : decode cX7_wall 42 = .ok (.putfield 108, 3) := by decide +kernel
theorem dX7_wall_45 : decode cX7_wall 45 = .ok (.iconst 1, 1) := by decide +kernel
theorem dX7_wall_46 : decode cX7_wall 46 = .ok (.ireturn, 1) := by decide +kernel
set_option maxRecDepth 20000 in
theorem ggX7_feed_X7_within : GoodIn wsX7_feed wsX7_within := goodIn_r _ [8] (by decide +kernel) (by decide +kernel)
set_option maxRecDepth 20000 in
theorem gX7_feed_X7_within : GoodIn wsX7_feed (va_wsS RX7 104 yX7_within wsX7_within) := goodIn_app (goodIn_of _ (by decide +kernel)) ggX7_feed_X7_within
theorem dX7_feed_0 : decode cX7_feed 0 = .ok (.aload_n 0, 1) := by decide +kernel
theorem dX7_feed_1 : decode cX7_feed 1 = .ok (.iconst 0, 1) := by decide +kernel
theorem dX7_feed_2 : decode cX7_feed 2 = .ok (.putfield 1, 3) := by decide +kernel
theorem dX7_feed_5 : decode cX7_feed 5 = .ok (.iload_n 1, 1) := by decide +kernel
theorem dX7_feed_6 : decode cX7_feed 6 = .ok (.iconst 0, 1) := by decide +kernel
theorem dX7_feed_7 : decode cX7_feed 7 = .ok (.iconst 1, 1) := by decide +kernel
theorem dX7_feed_8 : decode cX7_feed 8 = .ok (.invokestatic 104, 3) := by decide +kernel
theorem dX7_feed_11 : decode cX7_feed 11 = .ok (.ifCond .eq 21, 3) := by decide +kernel
theorem dX7_feed_14 : decode cX7_feed 14 = .ok (.iload_n 2, 1) := by decide +kernel
theorem dX7_feed_15 : decode cX7_feed 15 = .ok (.iconst 0, 1) := by decide +kernel
theorem dX7_feed_16 : decode cX7_feed 16 = .ok (.sipush 200, 3) := by decide +kernel
theorem dX7_feed_19 : decode cX7_feed 19 = .ok (.invokestatic 104, 3) := by decide +kernel
theorem dX7_feed_22 : decode cX7_feed 22 = .ok (.ifCond .eq 10, 3) := by decide +kernel
theorem dX7_feed_25 : decode cX7_feed 25 = .ok (.aload_n 0, 1) := by decide +kernel
theorem dX7_feed_26 : decode cX7_feed 26 = .ok (.getfield 117, 3) := by decide +kernel
theorem dX7_feed_29 : decode cX7_feed 29 = .ok (.ifCond .le 5, 3) := by decide +kernel
theorem dX7_feed_32 : decode cX7_feed 32 = .ok (.iconst 0, 1) := by decide +kernel
theorem dX7_feed_33 : decode cX7_feed 33 = .ok (.ireturn, 1) := by decide +kernel
theorem dX7_feed_34 : decode cX7_feed 34 = .ok (.aload_n 0, 1) := by decide +kernel
theorem dX7_feed_35 : decode cX7_feed 35 = .ok (.getfield 32, 3) := by decide +kernel
theorem dX7_feed_38 : decode cX7_feed 38 = .ok (.iload_n 1, 1) := by decide +kernel
theorem dX7_feed_39 : decode cX7_feed 39 = .ok (.iload_n 2, 1) := by decide +kernel
theorem dX7_feed_40 : decode cX7_feed 40 = .ok (.iastore, 1) := by decide +kernel
theorem dX7_feed_41 : decode cX7_feed 41 = .ok (.aload_n 0, 1) := by decide +kernel
theorem dX7_feed_42 : decode cX7_feed 42 = .ok (.iconst 1, 1) := by decide +kernel
theorem dX7_feed_43 : decode cX7_feed 43 = .ok (.putfield 108, 3) := by decide +kernel
theorem dX7_feed_46 : decode cX7_feed 46 = .ok (.iconst 1, 1) := by decide +kernel
theorem dX7_feed_47 : decode cX7_feed 47 = .ok (.ireturn, 1) := by decide +kernel
set_option maxRecDepth 20000 in
theorem ggX7_number_X7_within : GoodIn wsX7_number wsX7_within := goodIn_r _ [8] (by decide +kernel) (by decide +kernel)
set_option maxRecDepth 20000 in
theorem gX7_number_X7_within : GoodIn wsX7_number (va_wsS RX7 104 yX7_within wsX7_within) := goodIn_app (goodIn_of _ (by decide +kernel)) ggX7_number_X7_within
theorem dX7_number_0 : decode cX7_number 0 = .ok (.aload_n 0, 1) := by decide +kernel
theorem dX7_number_1 : decode cX7_number 1 = .ok (.iconst 0, 1) := by decide +kernel
theorem dX7_number_2 : decode cX7_number 2 = .ok (.putfield 1, 3) := by decide +kernel
theorem dX7_number_5 : decode cX7_number 5 = .ok (.iload_n 1, 1) := by decide +kernel
theorem dX7_number_6 : decode cX7_number 6 = .ok (.iconst 1, 1) := by decide +kernel
theorem dX7_number_7 : decode cX7_number 7 = .ok (.bipush 9, 2) := by decide +kernel
theorem dX7_number_9 : decode cX7_number 9 = .ok (.invokestatic 104, 3) := by decide +kernel
theorem dX7_number_12 : decode cX7_number 12 = .ok (.ifCond .eq 10, 3) := by decide +kernel
theorem dX7_number_15 : decode cX7_number 15 = .ok (.aload_n 0, 1) := by decide +kernel
theorem dX7_number_16 : decode cX7_number 16 = .ok (.getfield 117, 3) := by decide +kernel
theorem dX7_number_19 : decode cX7_number 19 = .ok (.ifCond .le 5, 3) := by decide +kernel
theorem dX7_number_22 : decode cX7_number 22 = .ok (.iconst 0, 1) := by decide +kernel
theorem dX7_number_23 : decode cX7_number 23 = .ok (.ireturn, 1) := by decide +kernel
theorem dX7_number_24 : decode cX7_number 24 = .ok (.aload_n 0, 1) := by decide +kernel
theorem dX7_number_25 : decode cX7_number 25 = .ok (.iload_n 1, 1) := by decide +kernel
theorem dX7_number_26 : decode cX7_number 26 = .ok (.putfield 35, 3) := by decide +kernel
theorem dX7_number_29 : decode cX7_number 29 = .ok (.aload_n 0, 1) := by decide +kernel
theorem dX7_number_30 : decode cX7_number 30 = .ok (.iconst 1, 1) := by decide +kernel
theorem dX7_number_31 : decode cX7_number 31 = .ok (.putfield 108, 3) := by decide +kernel
theorem dX7_number_34 : decode cX7_number 34 = .ok (.iconst 1, 1) := by decide +kernel
theorem dX7_number_35 : decode cX7_number 35 = .ok (.ireturn, 1) := by decide +kernel
set_option maxRecDepth 20000 in
theorem ggX7_wave_X7_within : GoodIn wsX7_wave wsX7_within := goodIn_r _ [9] (by decide +kernel) (by decide +kernel)
set_option maxRecDepth 20000 in
theorem gX7_wave_X7_within : GoodIn wsX7_wave (va_wsS RX7 104 yX7_within wsX7_within) := goodIn_app (goodIn_of _ (by decide +kernel)) ggX7_wave_X7_within
theorem dX7_wave_0 : decode cX7_wave 0 = .ok (.aload_n 0, 1) := by decide +kernel
theorem dX7_wave_1 : decode cX7_wave 1 = .ok (.iconst 0, 1) := by decide +kernel
theorem dX7_wave_2 : decode cX7_wave 2 = .ok (.putfield 1, 3) := by decide +kernel
theorem dX7_wave_5 : decode cX7_wave 5 = .ok (.iload_n 1, 1) := by decide +kernel
theorem dX7_wave_6 : decode cX7_wave 6 = .ok (.iconst 0, 1) := by decide +kernel
theorem dX7_wave_7 : decode cX7_wave 7 = .ok (.bipush 9, 2) := by decide +kernel
theorem dX7_wave_9 : decode cX7_wave 9 = .ok (.invokestatic 104, 3) := by decide +kernel
theorem dX7_wave_12 : decode cX7_wave 12 = .ok (.ifCond .eq 21, 3) := by decide +kernel
theorem dX7_wave_15 : decode cX7_wave 15 = .ok (.iload_n 2, 1) := by decide +kernel
theorem dX7_wave_16 : decode cX7_wave 16 = .ok (.iconst 0, 1) := by decide +kernel
theorem dX7_wave_17 : decode cX7_wave 17 = .ok (.iconst 2, 1) := by decide +kernel
theorem dX7_wave_18 : decode cX7_wave 18 = .ok (.invokestatic 104, 3) := by decide +kernel
theorem dX7_wave_21 : decode cX7_wave 21 = .ok (.ifCond .eq 12, 3) := by decide +kernel
theorem dX7_wave_24 : decode cX7_wave 24 = .ok (.aload_n 0, 1) := by decide +kernel
theorem dX7_wave_25 : decode cX7_wave 25 = .ok (.getfield 123, 3) := by decide +kernel
theorem dX7_wave_28 : decode cX7_wave 28 = .ok (.bipush 120, 2) := by decide +kernel
theorem dX7_wave_30 : decode cX7_wave 30 = .ok (.if_icmp .ne 5, 3) := by decide +kernel
theorem dX7_wave_33 : decode cX7_wave 33 = .ok (.iconst (-1), 1) := by decide +kernel
theorem dX7_wave_34 : decode cX7_wave 34 = .ok (.ireturn, 1) := by decide +kernel
theorem dX7_wave_35 : decode cX7_wave 35 = .ok (.aload_n 0, 1) := by decide +kernel
theorem dX7_wave_36 : decode cX7_wave 36 = .ok (.getfield 38, 3) := by decide +kernel
theorem dX7_wave_39 : decode cX7_wave 39 = .ok (.aload_n 0, 1) := by decide +kernel
theorem dX7_wave_40 : decode cX7_wave 40 = .ok (.getfield 123, 3) := by decide +kernel
theorem dX7_wave_43 : decode cX7_wave 43 = .ok (.iload_n 1, 1) := by decide +kernel
theorem dX7_wave_44 : decode cX7_wave 44 = .ok (.iastore, 1) := by decide +kernel
theorem dX7_wave_45 : decode cX7_wave 45 = .ok (.aload_n 0, 1) := by decide +kernel
theorem dX7_wave_46 : decode cX7_wave 46 = .ok (.getfield 41, 3) := by decide +kernel
theorem dX7_wave_49 : decode cX7_wave 49 = .ok (.aload_n 0, 1) := by decide +kernel
theorem dX7_wave_50 : decode cX7_wave 50 = .ok (.getfield 123, 3) := by decide +kernel
theorem dX7_wave_53 : decode cX7_wave 53 = .ok (.iload_n 2, 1) := by decide +kernel
theorem dX7_wave_54 : decode cX7_wave 54 = .ok (.iastore, 1) := by decide +kernel
theorem dX7_wave_55 : decode cX7_wave 55 = .ok (.aload_n 0, 1) := by decide +kernel
theorem dX7_wave_56 : decode cX7_wave 56 = .ok (.dup, 1) := by decide +kernel
theorem dX7_wave_57 : decode cX7_wave 57 = .ok (.getfield 123, 3) := by decide +kernel
theorem dX7_wave_60 : decode cX7_wave 60 = .ok (.iconst 1, 1) := by decide +kernel
theorem dX7_wave_61 : decode cX7_wave 61 = .ok (.iadd, 1) := by decide +kernel
theorem dX7_wave_62 : decode cX7_wave 62 = .ok (.putfield 123, 3) := by decide +kernel
theorem dX7_wave_65 : decode cX7_wave 65 = .ok (.aload_n 0, 1) := by decide +kernel
theorem dX7_wave_66 : decode cX7_wave 66 = .ok (.iconst 1, 1) := by decide +kernel
theorem dX7_wave_67 : decode cX7_wave 67 = .ok (.putfield 108, 3) := by decide +kernel
theorem dX7_wave_70 : decode cX7_wave 70 = .ok (.aload_n 0, 1) := by decide +kernel
theorem dX7_wave_71 : decode cX7_wave 71 = .ok (.getfield 123, 3) := by decide +kernel
theorem dX7_wave_74 : decode cX7_wave 74 = .ok (.ireturn, 1) := by decide +kernel
theorem dX7_begins_0 : decode cX7_begins 0 = .ok (.iconst 0, 1) := by decide +kernel
theorem dX7_begins_1 : decode cX7_begins 1 = .ok (.istore_n 2, 1) := by decide +kernel
theorem dX7_begins_2 : decode cX7_begins 2 = .ok (.iload_n 2, 1) := by decide +kernel
theorem dX7_begins_3 : decode cX7_begins 3 = .ok (.bipush 12, 2) := by decide +kernel
theorem dX7_begins_5 : decode cX7_begins 5 = .ok (.if_icmp .ge 35, 3) := by decide +kernel
theorem dX7_begins_8 : decode cX7_begins 8 = .ok (.aload_n 0, 1) := by decide +kernel
theorem dX7_begins_9 : decode cX7_begins 9 = .ok (.getfield 56, 3) := by decide +kernel
theorem dX7_begins_12 : decode cX7_begins 12 = .ok (.iload_n 2, 1) := by decide +kernel
theorem dX7_begins_13 : decode cX7_begins 13 = .ok (.aload_n 0, 1) := by decide +kernel
theorem dX7_begins_14 : decode cX7_begins 14 = .ok (.getfield 16, 3) := by decide +kernel
theorem dX7_begins_17 : decode cX7_begins 17 = .ok (.iload_n 2, 1) := by decide +kernel
theorem dX7_begins_18 : decode cX7_begins 18 = .ok (.iaload, 1) := by decide +kernel
theorem dX7_begins_19 : decode cX7_begins 19 = .ok (.iastore, 1) := by decide +kernel
theorem dX7_begins_20 : decode cX7_begins 20 = .ok (.aload_n 0, 1) := by decide +kernel
theorem dX7_begins_21 : decode cX7_begins 21 = .ok (.getfield 59, 3) := by decide +kernel
theorem dX7_begins_24 : decode cX7_begins 24 = .ok (.iload_n 2, 1) := by decide +kernel
theorem dX7_begins_25 : decode cX7_begins 25 = .ok (.iconst 0, 1) := by decide +kernel
theorem dX7_begins_26 : decode cX7_begins 26 = .ok (.iastore, 1) := by decide +kernel
theorem dX7_begins_27 : decode cX7_begins 27 = .ok (.aload_n 0, 1) := by decide +kernel
theorem dX7_begins_28 : decode cX7_begins 28 = .ok (.getfield 62, 3) := by decide +kernel
theorem dX7_begins_31 : decode cX7_begins 31 = .ok (.iload_n 2, 1) := by decide +kernel
theorem dX7_begins_32 : decode cX7_begins 32 = .ok (.iconst 0, 1) := by decide +kernel
theorem dX7_begins_33 : decode cX7_begins 33 = .ok (.iastore, 1) := by decide +kernel
theorem dX7_begins_34 : decode cX7_begins 34 = .ok (.iinc 2 1, 3) := by decide +kernel
theorem dX7_begins_37 : decode cX7_begins 37 = .ok (.goto (-35), 3) := by decide +kernel
theorem dX7_begins_40 : decode cX7_begins 40 = .ok (.iconst 0, 1) := by decide +kernel
theorem dX7_begins_41 : decode cX7_begins 41 = .ok (.istore_n 2, 1) := by decide +kernel
theorem dX7_begins_42 : decode cX7_begins 42 = .ok (.iload_n 2, 1) := by decide +kernel
theorem dX7_begins_43 : decode cX7_begins 43 = .ok (.bipush 13, 2) := by decide +kernel
theorem dX7_begins_45 : decode cX7_begins 45 = .ok (.if_icmp .ge 57, 3) := by decide +kernel
theorem dX7_begins_48 : decode cX7_begins 48 = .ok (.aload_n 0, 1) := by decide +kernel
theorem dX7_begins_49 : decode cX7_begins 49 = .ok (.getfield 65, 3) := by decide +kernel
theorem dX7_begins_52 : decode cX7_begins 52 = .ok (.iload_n 2, 1) := by decide +kernel
theorem dX7_begins_53 : decode cX7_begins 53 = .ok (.iconst 0, 1) := by decide +kernel
theorem dX7_begins_54 : decode cX7_begins 54 = .ok (.iastore, 1) := by decide +kernel
theorem dX7_begins_55 : decode cX7_begins 55 = .ok (.aload_n 0, 1) := by decide +kernel
theorem dX7_begins_56 : decode cX7_begins 56 = .ok (.getfield 68, 3) := by decide +kernel
theorem dX7_begins_59 : decode cX7_begins 59 = .ok (.iload_n 2, 1) := by decide +kernel
theorem dX7_begins_60 : decode cX7_begins 60 = .ok (.iconst 0, 1) := by decide +kernel
theorem dX7_begins_61 : decode cX7_begins 61 = .ok (.iastore, 1) := by decide +kernel
theorem dX7_begins_62 : decode cX7_begins 62 = .ok (.aload_n 0, 1) := by decide +kernel
theorem dX7_begins_63 : decode cX7_begins 63 = .ok (.getfield 71, 3) := by decide +kernel
theorem dX7_begins_66 : decode cX7_begins 66 = .ok (.iload_n 2, 1) := by decide +kernel
theorem dX7_begins_67 : decode cX7_begins 67 = .ok (.aload_n 0, 1) := by decide +kernel
theorem dX7_begins_68 : decode cX7_begins 68 = .ok (.getfield 20, 3) := by decide +kernel
theorem dX7_begins_71 : decode cX7_begins 71 = .ok (.iload_n 2, 1) := by decide +kernel
theorem dX7_begins_72 : decode cX7_begins 72 = .ok (.iaload, 1) := by decide +kernel
theorem dX7_begins_73 : decode cX7_begins 73 = .ok (.iconst 1, 1) := by decide +kernel
theorem dX7_begins_74 : decode cX7_begins 74 = .ok (.if_icmp .ne 20, 3) := by decide +kernel
theorem dX7_begins_77 : decode cX7_begins 77 = .ok (.iload_n 1, 1) := by decide +kernel
theorem dX7_begins_78 : decode cX7_begins 78 = .ok (.iload_n 2, 1) := by decide +kernel
theorem dX7_begins_79 : decode cX7_begins 79 = .ok (.ishr, 1) := by decide +kernel
theorem dX7_begins_80 : decode cX7_begins 80 = .ok (.iconst 1, 1) := by decide +kernel
theorem dX7_begins_81 : decode cX7_begins 81 = .ok (.iand, 1) := by decide +kernel
theorem dX7_begins_82 : decode cX7_begins 82 = .ok (.ifCond .ne 12, 3) := by decide +kernel
theorem dX7_begins_85 : decode cX7_begins 85 = .ok (.aload_n 0, 1) := by decide +kernel
theorem dX7_begins_86 : decode cX7_begins 86 = .ok (.getfield 23, 3) := by decide +kernel
theorem dX7_begins_89 : decode cX7_begins 89 = .ok (.iload_n 2, 1) := by decide +kernel
theorem dX7_begins_90 : decode cX7_begins 90 = .ok (.iaload, 1) := by decide +kernel
theorem dX7_begins_91 : decode cX7_begins 91 = .ok (.goto 4, 3) := by decide +kernel
theorem dX7_begins_94 : decode cX7_begins 94 = .ok (.iconst 0, 1) := by decide +kernel
theorem dX7_begins_95 : decode cX7_begins 95 = .ok (.iastore, 1) := by decide +kernel
theorem dX7_begins_96 : decode cX7_begins 96 = .ok (.iinc 2 1, 3) := by decide +kernel
theorem dX7_begins_99 : decode cX7_begins 99 = .ok (.goto (-57), 3) := by decide +kernel
theorem dX7_begins_102 : decode cX7_begins 102 = .ok (.return_, 1) := by decide +kernel
theorem dX7_brings_0 : decode cX7_brings 0 = .ok (.aload_n 0, 1) := by decide +kernel
theorem dX7_brings_1 : decode cX7_brings 1 = .ok (.getfield 56, 3) := by decide +kernel
theorem dX7_brings_4 : decode cX7_brings 4 = .ok (.iload_n 1, 1) := by decide +kernel
theorem dX7_brings_5 : decode cX7_brings 5 = .ok (.aload_n 0, 1) := by decide +kernel
theorem dX7_brings_6 : decode cX7_brings 6 = .ok (.getfield 56, 3) := by decide +kernel
theorem dX7_brings_9 : decode cX7_brings 9 = .ok (.iload_n 1, 1) := by decide +kernel
theorem dX7_brings_10 : decode cX7_brings 10 = .ok (.iaload, 1) := by decide +kernel
theorem dX7_brings_11 : decode cX7_brings 11 = .ok (.iload_n 2, 1) := by decide +kernel
theorem dX7_brings_12 : decode cX7_brings 12 = .ok (.iadd, 1) := by decide +kernel
theorem dX7_brings_13 : decode cX7_brings 13 = .ok (.ldc 116, 2) := by decide +kernel
theorem dX7_brings_15 : decode cX7_brings 15 = .ok (.if_icmp .le 8, 3) := by decide +kernel
theorem dX7_brings_18 : decode cX7_brings 18 = .ok (.ldc 116, 2) := by decide +kernel
theorem dX7_brings_20 : decode cX7_brings 20 = .ok (.goto 11, 3) := by decide +kernel
theorem dX7_brings_23 : decode cX7_brings 23 = .ok (.aload_n 0, 1) := by decide +kernel
theorem dX7_brings_24 : decode cX7_brings 24 = .ok (.getfield 56, 3) := by decide +kernel
theorem dX7_brings_27 : decode cX7_brings 27 = .ok (.iload_n 1, 1) := by decide +kernel
theorem dX7_brings_28 : decode cX7_brings 28 = .ok (.iaload, 1) := by decide +kernel
theorem dX7_brings_29 : decode cX7_brings 29 = .ok (.iload_n 2, 1) := by decide +kernel
theorem dX7_brings_30 : decode cX7_brings 30 = .ok (.iadd, 1) := by decide +kernel
theorem dX7_brings_31 : decode cX7_brings 31 = .ok (.iastore, 1) := by decide +kernel
theorem dX7_brings_32 : decode cX7_brings 32 = .ok (.return_, 1) := by decide +kernel
theorem dX7_above_0 : decode cX7_above 0 = .ok (.aload_n 0, 1) := by decide +kernel
theorem dX7_above_1 : decode cX7_above 1 = .ok (.getfield 56, 3) := by decide +kernel
theorem dX7_above_4 : decode cX7_above 4 = .ok (.iload_n 1, 1) := by decide +kernel
theorem dX7_above_5 : decode cX7_above 5 = .ok (.iaload, 1) := by decide +kernel
theorem dX7_above_6 : decode cX7_above 6 = .ok (.bipush 10, 2) := by decide +kernel
theorem dX7_above_8 : decode cX7_above 8 = .ok (.aload_n 0, 1) := by decide +kernel
theorem dX7_above_9 : decode cX7_above 9 = .ok (.getfield 29, 3) := by decide +kernel
theorem dX7_above_12 : decode cX7_above 12 = .ok (.iload_n 1, 1) := by decide +kernel
theorem dX7_above_13 : decode cX7_above 13 = .ok (.iaload, 1) := by decide +kernel
theorem dX7_above_14 : decode cX7_above 14 = .ok (.imul, 1) := by decide +kernel
theorem dX7_above_15 : decode cX7_above 15 = .ok (.isub, 1) := by decide +kernel
theorem dX7_above_16 : decode cX7_above 16 = .ok (.istore_n 2, 1) := by decide +kernel
theorem dX7_above_17 : decode cX7_above 17 = .ok (.iload_n 2, 1) := by decide +kernel
theorem dX7_above_18 : decode cX7_above 18 = .ok (.ifCond .ge 7, 3) := by decide +kernel
theorem dX7_above_21 : decode cX7_above 21 = .ok (.iconst 0, 1) := by decide +kernel
theorem dX7_above_22 : decode cX7_above 22 = .ok (.goto 4, 3) := by decide +kernel
theorem dX7_above_25 : decode cX7_above 25 = .ok (.iload_n 2, 1) := by decide +kernel
theorem dX7_above_26 : decode cX7_above 26 = .ok (.ireturn, 1) := by decide +kernel
set_option maxRecDepth 20000 in
theorem ggX7_goesOut_X7_above : GoodIn wsX7_goesOut wsX7_above := goodIn_r _ [7, 1, 8, 9, 10, 11, 12, 13, 14, 15, 16, 17, 18, 19, 20, 21, 22, 23, 24, 25, 26, 27, 28, 29, 30, 31, 32, 33, 34, 35, 36, 37, 38, 39, 40, 41, 42, 43, 44, 45] (by decide +kernel) (by decide +kernel)
set_option maxRecDepth 20000 in
theorem gX7_goesOut_X7_above : GoodIn wsX7_goesOut (wsV RX7 126 RX7 yX7_above wsX7_above) := goodIn_app (goodIn_of _ (by decide +kernel)) ggX7_goesOut_X7_above
theorem dX7_goesOut_0 : decode cX7_goesOut 0 = .ok (.iload_n 2, 1) := by decide +kernel
theorem dX7_goesOut_1 : decode cX7_goesOut 1 = .ok (.aload_n 0, 1) := by decide +kernel
theorem dX7_goesOut_2 : decode cX7_goesOut 2 = .ok (.getfield 56, 3) := by decide +kernel
theorem dX7_goesOut_5 : decode cX7_goesOut 5 = .ok (.iload_n 1, 1) := by decide +kernel
theorem dX7_goesOut_6 : decode cX7_goesOut 6 = .ok (.iaload, 1) := by decide +kernel
theorem dX7_goesOut_7 : decode cX7_goesOut 7 = .ok (.if_icmp .le 12, 3) := by decide +kernel
theorem dX7_goesOut_10 : decode cX7_goesOut 10 = .ok (.aload_n 0, 1) := by decide +kernel
theorem dX7_goesOut_11 : decode cX7_goesOut 11 = .ok (.getfield 56, 3) := by decide +kernel
theorem dX7_goesOut_14 : decode cX7_goesOut 14 = .ok (.iload_n 1, 1) := by decide +kernel
theorem dX7_goesOut_15 : decode cX7_goesOut 15 = .ok (.iaload, 1) := by decide +kernel
theorem dX7_goesOut_16 : decode cX7_goesOut 16 = .ok (.goto 4, 3) := by decide +kernel
theorem dX7_goesOut_19 : decode cX7_goesOut 19 = .ok (.iload_n 2, 1) := by decide +kernel
theorem dX7_goesOut_20 : decode cX7_goesOut 20 = .ok (.istore_n 3, 1) := by decide +kernel
theorem dX7_goesOut_21 : decode cX7_goesOut 21 = .ok (.aload_n 0, 1) := by decide +kernel
theorem dX7_goesOut_22 : decode cX7_goesOut 22 = .ok (.iload_n 1, 1) := by decide +kernel
theorem dX7_goesOut_23 : decode cX7_goesOut 23 = .ok (.invokevirtual 126, 3) := by decide +kernel
theorem dX7_goesOut_26 : decode cX7_goesOut 26 = .ok (.istore 4, 2) := by decide +kernel
theorem dX7_goesOut_28 : decode cX7_goesOut 28 = .ok (.iload_n 3, 1) := by decide +kernel
theorem dX7_goesOut_29 : decode cX7_goesOut 29 = .ok (.iload 4, 2) := by decide +kernel
theorem dX7_goesOut_31 : decode cX7_goesOut 31 = .ok (.if_icmp .le 19, 3) := by decide +kernel
theorem dX7_goesOut_34 : decode cX7_goesOut 34 = .ok (.aload_n 0, 1) := by decide +kernel
theorem dX7_goesOut_35 : decode cX7_goesOut 35 = .ok (.getfield 62, 3) := by decide +kernel
theorem dX7_goesOut_38 : decode cX7_goesOut 38 = .ok (.iload_n 1, 1) := by decide +kernel
theorem dX7_goesOut_39 : decode cX7_goesOut 39 = .ok (.dup2, 1) := by decide +kernel
theorem dX7_goesOut_40 : decode cX7_goesOut 40 = .ok (.iaload, 1) := by decide +kernel
theorem dX7_goesOut_41 : decode cX7_goesOut 41 = .ok (.iload_n 3, 1) := by decide +kernel
theorem dX7_goesOut_42 : decode cX7_goesOut 42 = .ok (.iload 4, 2) := by decide +kernel
theorem dX7_goesOut_44 : decode cX7_goesOut 44 = .ok (.isub, 1) := by decide +kernel
theorem dX7_goesOut_45 : decode cX7_goesOut 45 = .ok (.iadd, 1) := by decide +kernel
theorem dX7_goesOut_46 : decode cX7_goesOut 46 = .ok (.iastore, 1) := by decide +kernel
theorem dX7_goesOut_47 : decode cX7_goesOut 47 = .ok (.iload 4, 2) := by decide +kernel
theorem dX7_goesOut_49 : decode cX7_goesOut 49 = .ok (.ireturn, 1) := by decide +kernel
theorem dX7_goesOut_50 : decode cX7_goesOut 50 = .ok (.iload_n 3, 1) := by decide +kernel
theorem dX7_goesOut_51 : decode cX7_goesOut 51 = .ok (.ireturn, 1) := by decide +kernel
set_option maxRecDepth 20000 in
theorem ggX7_passes_X7_goesOut : GoodIn wsX7_passes wsX7_goesOut := goodIn_r _ [8, 1, 9, 10, 11, 12, 7, 13, 14, 15, 16, 17, 18, 19, 20, 21, 22, 23, 24, 25, 26, 27, 28, 29, 30, 31, 32, 33, 34, 35, 36, 37, 38, 39, 40, 41, 42, 43, 44, 45, 46, 47, 48, 49, 50, 51] (by decide +kernel) (by decide +kernel)
set_option maxRecDepth 20000 in
theorem gX7_passes_X7_goesOut : GoodIn wsX7_passes (wsV RX7 130 RX7 yX7_goesOut wsX7_goesOut) := goodIn_app (goodIn_of _ (by decide +kernel)) ggX7_passes_X7_goesOut
theorem dX7_passes_0 : decode cX7_passes 0 = .ok (.aload_n 0, 1) := by decide +kernel
theorem dX7_passes_1 : decode cX7_passes 1 = .ok (.getfield 56, 3) := by decide +kernel
theorem dX7_passes_4 : decode cX7_passes 4 = .ok (.iload_n 2, 1) := by decide +kernel
theorem dX7_passes_5 : decode cX7_passes 5 = .ok (.iaload, 1) := by decide +kernel
theorem dX7_passes_6 : decode cX7_passes 6 = .ok (.bipush 10, 2) := by decide +kernel
theorem dX7_passes_8 : decode cX7_passes 8 = .ok (.idiv, 1) := by decide +kernel
theorem dX7_passes_9 : decode cX7_passes 9 = .ok (.aload_n 0, 1) := by decide +kernel
theorem dX7_passes_10 : decode cX7_passes 10 = .ok (.getfield 56, 3) := by decide +kernel
theorem dX7_passes_13 : decode cX7_passes 13 = .ok (.iload_n 3, 1) := by decide +kernel
theorem dX7_passes_14 : decode cX7_passes 14 = .ok (.iaload, 1) := by decide +kernel
theorem dX7_passes_15 : decode cX7_passes 15 = .ok (.bipush 10, 2) := by decide +kernel
theorem dX7_passes_17 : decode cX7_passes 17 = .ok (.idiv, 1) := by decide +kernel
theorem dX7_passes_18 : decode cX7_passes 18 = .ok (.isub, 1) := by decide +kernel
theorem dX7_passes_19 : decode cX7_passes 19 = .ok (.istore 6, 2) := by decide +kernel
theorem dX7_passes_21 : decode cX7_passes 21 = .ok (.iload 6, 2) := by decide +kernel
theorem dX7_passes_23 : decode cX7_passes 23 = .ok (.bipush (-9), 2) := by decide +kernel
theorem dX7_passes_25 : decode cX7_passes 25 = .ok (.if_icmp .ge 8, 3) := by decide +kernel
theorem dX7_passes_28 : decode cX7_passes 28 = .ok (.bipush (-9), 2) := by decide +kernel
theorem dX7_passes_30 : decode cX7_passes 30 = .ok (.goto 17, 3) := by decide +kernel
theorem dX7_passes_33 : decode cX7_passes 33 = .ok (.iload 6, 2) := by decide +kernel
theorem dX7_passes_35 : decode cX7_passes 35 = .ok (.bipush 9, 2) := by decide +kernel
theorem dX7_passes_37 : decode cX7_passes 37 = .ok (.if_icmp .le 8, 3) := by decide +kernel
theorem dX7_passes_40 : decode cX7_passes 40 = .ok (.bipush 9, 2) := by decide +kernel
theorem dX7_passes_42 : decode cX7_passes 42 = .ok (.goto 5, 3) := by decide +kernel
theorem dX7_passes_45 : decode cX7_passes 45 = .ok (.iload 6, 2) := by decide +kernel
theorem dX7_passes_47 : decode cX7_passes 47 = .ok (.istore 6, 2) := by decide +kernel
theorem dX7_passes_49 : decode cX7_passes 49 = .ok (.iload 4, 2) := by decide +kernel
theorem dX7_passes_51 : decode cX7_passes 51 = .ok (.iload 5, 2) := by decide +kernel
theorem dX7_passes_53 : decode cX7_passes 53 = .ok (.imul, 1) := by decide +kernel
theorem dX7_passes_54 : decode cX7_passes 54 = .ok (.iload 4, 2) := by decide +kernel
theorem dX7_passes_56 : decode cX7_passes 56 = .ok (.iload 6, 2) := by decide +kernel
theorem dX7_passes_58 : decode cX7_passes 58 = .ok (.imul, 1) := by decide +kernel
theorem dX7_passes_59 : decode cX7_passes 59 = .ok (.iconst 3, 1) := by decide +kernel
theorem dX7_passes_60 : decode cX7_passes 60 = .ok (.idiv, 1) := by decide +kernel
theorem dX7_passes_61 : decode cX7_passes 61 = .ok (.iadd, 1) := by decide +kernel
theorem dX7_passes_62 : decode cX7_passes 62 = .ok (.istore 7, 2) := by decide +kernel
theorem dX7_passes_64 : decode cX7_passes 64 = .ok (.iload 7, 2) := by decide +kernel
theorem dX7_passes_66 : decode cX7_passes 66 = .ok (.ifCond .ge 7, 3) := by decide +kernel
theorem dX7_passes_69 : decode cX7_passes 69 = .ok (.iconst 0, 1) := by decide +kernel
theorem dX7_passes_70 : decode cX7_passes 70 = .ok (.goto 5, 3) := by decide +kernel
theorem dX7_passes_73 : decode cX7_passes 73 = .ok (.iload 7, 2) := by decide +kernel
theorem dX7_passes_75 : decode cX7_passes 75 = .ok (.istore 7, 2) := by decide +kernel
theorem dX7_passes_77 : decode cX7_passes 77 = .ok (.aload_n 0, 1) := by decide +kernel
theorem dX7_passes_78 : decode cX7_passes 78 = .ok (.getfield 56, 3) := by decide +kernel
theorem dX7_passes_81 : decode cX7_passes 81 = .ok (.iload_n 2, 1) := by decide +kernel
theorem dX7_passes_82 : decode cX7_passes 82 = .ok (.iaload, 1) := by decide +kernel
theorem dX7_passes_83 : decode cX7_passes 83 = .ok (.bipush 10, 2) := by decide +kernel
theorem dX7_passes_85 : decode cX7_passes 85 = .ok (.idiv, 1) := by decide +kernel
theorem dX7_passes_86 : decode cX7_passes 86 = .ok (.aload_n 0, 1) := by decide +kernel
theorem dX7_passes_87 : decode cX7_passes 87 = .ok (.getfield 71, 3) := by decide +kernel
theorem dX7_passes_90 : decode cX7_passes 90 = .ok (.iload_n 1, 1) := by decide +kernel
theorem dX7_passes_91 : decode cX7_passes 91 = .ok (.iaload, 1) := by decide +kernel
theorem dX7_passes_92 : decode cX7_passes 92 = .ok (.if_icmp .ge 17, 3) := by decide +kernel
theorem dX7_passes_95 : decode cX7_passes 95 = .ok (.iload 7, 2) := by decide +kernel
theorem dX7_passes_97 : decode cX7_passes 97 = .ok (.aload_n 0, 1) := by decide +kernel
theorem dX7_passes_98 : decode cX7_passes 98 = .ok (.getfield 26, 3) := by decide +kernel
theorem dX7_passes_101 : decode cX7_passes 101 = .ok (.iload_n 1, 1) := by decide +kernel
theorem dX7_passes_102 : decode cX7_passes 102 = .ok (.iaload, 1) := by decide +kernel
theorem dX7_passes_103 : decode cX7_passes 103 = .ok (.imul, 1) := by decide +kernel
theorem dX7_passes_104 : decode cX7_passes 104 = .ok (.bipush 100, 2) := by decide +kernel
theorem dX7_passes_106 : decode cX7_passes 106 = .ok (.idiv, 1) := by decide +kernel
theorem dX7_passes_107 : decode cX7_passes 107 = .ok (.istore 7, 2) := by decide +kernel
theorem dX7_passes_109 : decode cX7_passes 109 = .ok (.aload_n 0, 1) := by decide +kernel
theorem dX7_passes_110 : decode cX7_passes 110 = .ok (.iload_n 2, 1) := by decide +kernel
theorem dX7_passes_111 : decode cX7_passes 111 = .ok (.iload 7, 2) := by decide +kernel
theorem dX7_passes_113 : decode cX7_passes 113 = .ok (.invokevirtual 130, 3) := by decide +kernel
theorem dX7_passes_116 : decode cX7_passes 116 = .ok (.ireturn, 1) := by decide +kernel
set_option maxRecDepth 20000 in
theorem ggX7_passing_X7_passes : GoodIn wsX7_passing wsX7_passes := goodIn_r _ [12, 13, 14, 4, 15, 16, 17, 11, 18, 19, 20, 21, 22, 23, 24, 30, 31, 32, 33, 34, 35, 36, 37, 38, 39, 40, 41, 42, 43, 44, 45, 46, 47, 48, 49, 50, 51, 52, 53, 54, 55, 56, 57, 58, 59, 60, 61, 62, 63, 64, 65, 66] (by decide +kernel) (by decide +kernel)
set_option maxRecDepth 20000 in
theorem gX7_passing_X7_passes : GoodIn wsX7_passing (wsV RX7 134 RX7 yX7_passes wsX7_passes) := goodIn_app (goodIn_of _ (by decide +kernel)) ggX7_passing_X7_passes
set_option maxRecDepth 20000 in
theorem ggX7_passing_X7_goesOut : GoodIn wsX7_passing wsX7_goesOut := goodIn_r _ [18, 13, 19, 20, 21, 22, 11, 23, 24, 30, 31, 32, 33, 34, 35, 36, 37, 38, 39, 40, 41, 42, 43, 44, 45, 46, 47, 48, 49, 50, 51, 52, 53, 54, 55, 56, 57, 58, 59, 60, 61, 62, 63, 64, 65, 66] (by decide +kernel) (by decide +kernel)
set_option maxRecDepth 20000 in
theorem gX7_passing_X7_goesOut : GoodIn wsX7_passing (wsV RX7 130 RX7 yX7_goesOut wsX7_goesOut) := goodIn_app (goodIn_of _ (by decide +kernel)) ggX7_passing_X7_goesOut
set_option maxRecDepth 20000 in
theorem ggX7_passing_X7_brings : GoodIn wsX7_passing wsX7_brings := goodIn_r _ [28, 13, 29, 30, 31, 32, 33, 34, 35, 36, 37, 38, 39, 40, 41, 42, 43, 44, 45, 46, 47, 48, 49, 50, 51, 52, 53, 54, 55, 56, 57, 58, 59, 60, 61, 62, 63, 64, 65, 66] (by decide +kernel) (by decide +kernel)
set_option maxRecDepth 20000 in
theorem gX7_passing_X7_brings : GoodIn wsX7_passing (wsV RX7 138 RX7 yX7_brings wsX7_brings) := goodIn_app (goodIn_of _ (by decide +kernel)) ggX7_passing_X7_brings
theorem dX7_passing_0 : decode cX7_passing 0 = .ok (.iload_n 2, 1) := by decide +kernel
theorem dX7_passing_1 : decode cX7_passing 1 = .ok (.ifCond .ne 7, 3) := by decide +kernel
theorem dX7_passing_4 : decode cX7_passing 4 = .ok (.iconst 1, 1) := by decide +kernel
theorem dX7_passing_5 : decode cX7_passing 5 = .ok (.goto 4, 3) := by decide +kernel
theorem dX7_passing_8 : decode cX7_passing 8 = .ok (.iconst (-1), 1) := by decide +kernel
theorem dX7_passing_9 : decode cX7_passing 9 = .ok (.istore 4, 2) := by decide +kernel
theorem dX7_passing_11 : decode cX7_passing 11 = .ok (.iconst 0, 1) := by decide +kernel
theorem dX7_passing_12 : decode cX7_passing 12 = .ok (.istore 5, 2) := by decide +kernel
theorem dX7_passing_14 : decode cX7_passing 14 = .ok (.iload 5, 2) := by decide +kernel
theorem dX7_passing_16 : decode cX7_passing 16 = .ok (.aload_n 0, 1) := by decide +kernel
theorem dX7_passing_17 : decode cX7_passing 17 = .ok (.getfield 13, 3) := by decide +kernel
theorem dX7_passing_20 : decode cX7_passing 20 = .ok (.if_icmp .ge 17, 3) := by decide +kernel
theorem dX7_passing_23 : decode cX7_passing 23 = .ok (.aload_n 0, 1) := by decide +kernel
theorem dX7_passing_24 : decode cX7_passing 24 = .ok (.getfield 74, 3) := by decide +kernel
theorem dX7_passing_27 : decode cX7_passing 27 = .ok (.iload 5, 2) := by decide +kernel
theorem dX7_passing_29 : decode cX7_passing 29 = .ok (.iconst 0, 1) := by decide +kernel
theorem dX7_passing_30 : decode cX7_passing 30 = .ok (.iastore, 1) := by decide +kernel
theorem dX7_passing_31 : decode cX7_passing 31 = .ok (.iinc 5 1, 3) := by decide +kernel
theorem dX7_passing_34 : decode cX7_passing 34 = .ok (.goto (-20), 3) := by decide +kernel
theorem dX7_passing_37 : decode cX7_passing 37 = .ok (.iconst 1, 1) := by decide +kernel
theorem dX7_passing_38 : decode cX7_passing 38 = .ok (.istore 5, 2) := by decide +kernel
theorem dX7_passing_40 : decode cX7_passing 40 = .ok (.iload 5, 2) := by decide +kernel
theorem dX7_passing_42 : decode cX7_passing 42 = .ok (.aload_n 0, 1) := by decide +kernel
theorem dX7_passing_43 : decode cX7_passing 43 = .ok (.getfield 13, 3) := by decide +kernel
theorem dX7_passing_46 : decode cX7_passing 46 = .ok (.if_icmp .ge 126, 3) := by decide +kernel
theorem dX7_passing_49 : decode cX7_passing 49 = .ok (.iload_n 2, 1) := by decide +kernel
theorem dX7_passing_50 : decode cX7_passing 50 = .ok (.ifCond .ne 10, 3) := by decide +kernel
theorem dX7_passing_53 : decode cX7_passing 53 = .ok (.iload 5, 2) := by decide +kernel
theorem dX7_passing_55 : decode cX7_passing 55 = .ok (.iconst 1, 1) := by decide +kernel
theorem dX7_passing_56 : decode cX7_passing 56 = .ok (.isub, 1) := by decide +kernel
theorem dX7_passing_57 : decode cX7_passing 57 = .ok (.goto 5, 3) := by decide +kernel
theorem dX7_passing_60 : decode cX7_passing 60 = .ok (.iload 5, 2) := by decide +kernel
theorem dX7_passing_62 : decode cX7_passing 62 = .ok (.istore 6, 2) := by decide +kernel
theorem dX7_passing_64 : decode cX7_passing 64 = .ok (.iload 6, 2) := by decide +kernel
theorem dX7_passing_66 : decode cX7_passing 66 = .ok (.iload 4, 2) := by decide +kernel
theorem dX7_passing_68 : decode cX7_passing 68 = .ok (.iadd, 1) := by decide +kernel
theorem dX7_passing_69 : decode cX7_passing 69 = .ok (.istore 7, 2) := by decide +kernel
theorem dX7_passing_71 : decode cX7_passing 71 = .ok (.aload_n 0, 1) := by decide +kernel
theorem dX7_passing_72 : decode cX7_passing 72 = .ok (.iload 5, 2) := by decide +kernel
theorem dX7_passing_74 : decode cX7_passing 74 = .ok (.iload 6, 2) := by decide +kernel
theorem dX7_passing_76 : decode cX7_passing 76 = .ok (.iload 7, 2) := by decide +kernel
theorem dX7_passing_78 : decode cX7_passing 78 = .ok (.iload_n 1, 1) := by decide +kernel
theorem dX7_passing_79 : decode cX7_passing 79 = .ok (.iload_n 3, 1) := by decide +kernel
theorem dX7_passing_80 : decode cX7_passing 80 = .ok (.invokevirtual 134, 3) := by decide +kernel
theorem dX7_passing_83 : decode cX7_passing 83 = .ok (.istore 8, 2) := by decide +kernel
theorem dX7_passing_85 : decode cX7_passing 85 = .ok (.aload_n 0, 1) := by decide +kernel
theorem dX7_passing_86 : decode cX7_passing 86 = .ok (.getfield 20, 3) := by decide +kernel
theorem dX7_passing_89 : decode cX7_passing 89 = .ok (.iload 5, 2) := by decide +kernel
theorem dX7_passing_91 : decode cX7_passing 91 = .ok (.iaload, 1) := by decide +kernel
theorem dX7_passing_92 : decode cX7_passing 92 = .ok (.iconst 2, 1) := by decide +kernel
theorem dX7_passing_93 : decode cX7_passing 93 = .ok (.if_icmp .ne 19, 3) := by decide +kernel
theorem dX7_passing_96 : decode cX7_passing 96 = .ok (.iload 8, 2) := by decide +kernel
theorem dX7_passing_98 : decode cX7_passing 98 = .ok (.aload_n 0, 1) := by decide +kernel
theorem dX7_passing_99 : decode cX7_passing 99 = .ok (.getfield 26, 3) := by decide +kernel
theorem dX7_passing_102 : decode cX7_passing 102 = .ok (.iload 5, 2) := by decide +kernel
theorem dX7_passing_104 : decode cX7_passing 104 = .ok (.iaload, 1) := by decide +kernel
theorem dX7_passing_105 : decode cX7_passing 105 = .ok (.imul, 1) := by decide +kernel
theorem dX7_passing_106 : decode cX7_passing 106 = .ok (.bipush 100, 2) := by decide +kernel
theorem dX7_passing_108 : decode cX7_passing 108 = .ok (.idiv, 1) := by decide +kernel
theorem dX7_passing_109 : decode cX7_passing 109 = .ok (.goto 4, 3) := by decide +kernel
theorem dX7_passing_112 : decode cX7_passing 112 = .ok (.iconst 0, 1) := by decide +kernel
theorem dX7_passing_113 : decode cX7_passing 113 = .ok (.istore 9, 2) := by decide +kernel
theorem dX7_passing_115 : decode cX7_passing 115 = .ok (.aload_n 0, 1) := by decide +kernel
theorem dX7_passing_116 : decode cX7_passing 116 = .ok (.getfield 68, 3) := by decide +kernel
theorem dX7_passing_119 : decode cX7_passing 119 = .ok (.iload 5, 2) := by decide +kernel
theorem dX7_passing_121 : decode cX7_passing 121 = .ok (.iload 4, 2) := by decide +kernel
theorem dX7_passing_123 : decode cX7_passing 123 = .ok (.iload 8, 2) := by decide +kernel
theorem dX7_passing_125 : decode cX7_passing 125 = .ok (.imul, 1) := by decide +kernel
theorem dX7_passing_126 : decode cX7_passing 126 = .ok (.iastore, 1) := by decide +kernel
theorem dX7_passing_127 : decode cX7_passing 127 = .ok (.aload_n 0, 1) := by decide +kernel
theorem dX7_passing_128 : decode cX7_passing 128 = .ok (.getfield 74, 3) := by decide +kernel
theorem dX7_passing_131 : decode cX7_passing 131 = .ok (.iload 6, 2) := by decide +kernel
theorem dX7_passing_133 : decode cX7_passing 133 = .ok (.dup2, 1) := by decide +kernel
theorem dX7_passing_134 : decode cX7_passing 134 = .ok (.iaload, 1) := by decide +kernel
theorem dX7_passing_135 : decode cX7_passing 135 = .ok (.iload 8, 2) := by decide +kernel
theorem dX7_passing_137 : decode cX7_passing 137 = .ok (.isub, 1) := by decide +kernel
theorem dX7_passing_138 : decode cX7_passing 138 = .ok (.iastore, 1) := by decide +kernel
theorem dX7_passing_139 : decode cX7_passing 139 = .ok (.aload_n 0, 1) := by decide +kernel
theorem dX7_passing_140 : decode cX7_passing 140 = .ok (.getfield 74, 3) := by decide +kernel
theorem dX7_passing_143 : decode cX7_passing 143 = .ok (.iload 7, 2) := by decide +kernel
theorem dX7_passing_145 : decode cX7_passing 145 = .ok (.dup2, 1) := by decide +kernel
theorem dX7_passing_146 : decode cX7_passing 146 = .ok (.iaload, 1) := by decide +kernel
theorem dX7_passing_147 : decode cX7_passing 147 = .ok (.iload 8, 2) := by decide +kernel
theorem dX7_passing_149 : decode cX7_passing 149 = .ok (.iload 9, 2) := by decide +kernel
theorem dX7_passing_151 : decode cX7_passing 151 = .ok (.isub, 1) := by decide +kernel
theorem dX7_passing_152 : decode cX7_passing 152 = .ok (.iadd, 1) := by decide +kernel
theorem dX7_passing_153 : decode cX7_passing 153 = .ok (.iastore, 1) := by decide +kernel
theorem dX7_passing_154 : decode cX7_passing 154 = .ok (.aload_n 0, 1) := by decide +kernel
theorem dX7_passing_155 : decode cX7_passing 155 = .ok (.getfield 65, 3) := by decide +kernel
theorem dX7_passing_158 : decode cX7_passing 158 = .ok (.iload 5, 2) := by decide +kernel
theorem dX7_passing_160 : decode cX7_passing 160 = .ok (.dup2, 1) := by decide +kernel
theorem dX7_passing_161 : decode cX7_passing 161 = .ok (.iaload, 1) := by decide +kernel
theorem dX7_passing_162 : decode cX7_passing 162 = .ok (.iload 9, 2) := by decide +kernel
theorem dX7_passing_164 : decode cX7_passing 164 = .ok (.iadd, 1) := by decide +kernel
theorem dX7_passing_165 : decode cX7_passing 165 = .ok (.iastore, 1) := by decide +kernel
theorem dX7_passing_166 : decode cX7_passing 166 = .ok (.iinc 5 1, 3) := by decide +kernel
theorem dX7_passing_169 : decode cX7_passing 169 = .ok (.goto (-129), 3) := by decide +kernel
theorem dX7_passing_172 : decode cX7_passing 172 = .ok (.iload_n 2, 1) := by decide +kernel
theorem dX7_passing_173 : decode cX7_passing 173 = .ok (.ifCond .ne 7, 3) := by decide +kernel
theorem dX7_passing_176 : decode cX7_passing 176 = .ok (.iconst 0, 1) := by decide +kernel
theorem dX7_passing_177 : decode cX7_passing 177 = .ok (.goto 9, 3) := by decide +kernel
theorem dX7_passing_180 : decode cX7_passing 180 = .ok (.aload_n 0, 1) := by decide +kernel
theorem dX7_passing_181 : decode cX7_passing 181 = .ok (.getfield 13, 3) := by decide +kernel
theorem dX7_passing_184 : decode cX7_passing 184 = .ok (.iconst 1, 1) := by decide +kernel
theorem dX7_passing_185 : decode cX7_passing 185 = .ok (.isub, 1) := by decide +kernel
theorem dX7_passing_186 : decode cX7_passing 186 = .ok (.istore 5, 2) := by decide +kernel
theorem dX7_passing_188 : decode cX7_passing 188 = .ok (.aload_n 0, 1) := by decide +kernel
theorem dX7_passing_189 : decode cX7_passing 189 = .ok (.getfield 13, 3) := by decide +kernel
theorem dX7_passing_192 : decode cX7_passing 192 = .ok (.iconst 1, 1) := by decide +kernel
theorem dX7_passing_193 : decode cX7_passing 193 = .ok (.isub, 1) := by decide +kernel
theorem dX7_passing_194 : decode cX7_passing 194 = .ok (.iload 5, 2) := by decide +kernel
theorem dX7_passing_196 : decode cX7_passing 196 = .ok (.isub, 1) := by decide +kernel
theorem dX7_passing_197 : decode cX7_passing 197 = .ok (.istore 6, 2) := by decide +kernel
theorem dX7_passing_199 : decode cX7_passing 199 = .ok (.iload_n 3, 1) := by decide +kernel
theorem dX7_passing_200 : decode cX7_passing 200 = .ok (.iload_n 1, 1) := by decide +kernel
theorem dX7_passing_201 : decode cX7_passing 201 = .ok (.imul, 1) := by decide +kernel
theorem dX7_passing_202 : decode cX7_passing 202 = .ok (.aload_n 0, 1) := by decide +kernel
theorem dX7_passing_203 : decode cX7_passing 203 = .ok (.getfield 32, 3) := by decide +kernel
theorem dX7_passing_206 : decode cX7_passing 206 = .ok (.iload_n 2, 1) := by decide +kernel
theorem dX7_passing_207 : decode cX7_passing 207 = .ok (.iaload, 1) := by decide +kernel
theorem dX7_passing_208 : decode cX7_passing 208 = .ok (.imul, 1) := by decide +kernel
theorem dX7_passing_209 : decode cX7_passing 209 = .ok (.bipush 100, 2) := by decide +kernel
theorem dX7_passing_211 : decode cX7_passing 211 = .ok (.idiv, 1) := by decide +kernel
theorem dX7_passing_212 : decode cX7_passing 212 = .ok (.istore 7, 2) := by decide +kernel
theorem dX7_passing_214 : decode cX7_passing 214 = .ok (.aload_n 0, 1) := by decide +kernel
theorem dX7_passing_215 : decode cX7_passing 215 = .ok (.iload 6, 2) := by decide +kernel
theorem dX7_passing_217 : decode cX7_passing 217 = .ok (.iload_n 3, 1) := by decide +kernel
theorem dX7_passing_218 : decode cX7_passing 218 = .ok (.iload_n 1, 1) := by decide +kernel
theorem dX7_passing_219 : decode cX7_passing 219 = .ok (.imul, 1) := by decide +kernel
theorem dX7_passing_220 : decode cX7_passing 220 = .ok (.invokevirtual 130, 3) := by decide +kernel
theorem dX7_passing_223 : decode cX7_passing 223 = .ok (.istore 8, 2) := by decide +kernel
theorem dX7_passing_225 : decode cX7_passing 225 = .ok (.aload_n 0, 1) := by decide +kernel
theorem dX7_passing_226 : decode cX7_passing 226 = .ok (.getfield 74, 3) := by decide +kernel
theorem dX7_passing_229 : decode cX7_passing 229 = .ok (.iload 5, 2) := by decide +kernel
theorem dX7_passing_231 : decode cX7_passing 231 = .ok (.dup2, 1) := by decide +kernel
theorem dX7_passing_232 : decode cX7_passing 232 = .ok (.iaload, 1) := by decide +kernel
theorem dX7_passing_233 : decode cX7_passing 233 = .ok (.iload 7, 2) := by decide +kernel
theorem dX7_passing_235 : decode cX7_passing 235 = .ok (.iadd, 1) := by decide +kernel
theorem dX7_passing_236 : decode cX7_passing 236 = .ok (.iastore, 1) := by decide +kernel
theorem dX7_passing_237 : decode cX7_passing 237 = .ok (.aload_n 0, 1) := by decide +kernel
theorem dX7_passing_238 : decode cX7_passing 238 = .ok (.getfield 74, 3) := by decide +kernel
theorem dX7_passing_241 : decode cX7_passing 241 = .ok (.iload 6, 2) := by decide +kernel
theorem dX7_passing_243 : decode cX7_passing 243 = .ok (.dup2, 1) := by decide +kernel
theorem dX7_passing_244 : decode cX7_passing 244 = .ok (.iaload, 1) := by decide +kernel
theorem dX7_passing_245 : decode cX7_passing 245 = .ok (.iload 8, 2) := by decide +kernel
theorem dX7_passing_247 : decode cX7_passing 247 = .ok (.isub, 1) := by decide +kernel
theorem dX7_passing_248 : decode cX7_passing 248 = .ok (.iastore, 1) := by decide +kernel
theorem dX7_passing_249 : decode cX7_passing 249 = .ok (.aload_n 0, 1) := by decide +kernel
theorem dX7_passing_250 : decode cX7_passing 250 = .ok (.getfield 68, 3) := by decide +kernel
theorem dX7_passing_253 : decode cX7_passing 253 = .ok (.iload_n 2, 1) := by decide +kernel
theorem dX7_passing_254 : decode cX7_passing 254 = .ok (.ifCond .ne 7, 3) := by decide +kernel
theorem dX7_passing_257 : decode cX7_passing 257 = .ok (.iconst 0, 1) := by decide +kernel
theorem dX7_passing_258 : decode cX7_passing 258 = .ok (.goto 7, 3) := by decide +kernel
theorem dX7_passing_261 : decode cX7_passing 261 = .ok (.aload_n 0, 1) := by decide +kernel
theorem dX7_passing_262 : decode cX7_passing 262 = .ok (.getfield 13, 3) := by decide +kernel
theorem dX7_passing_265 : decode cX7_passing 265 = .ok (.iload 4, 2) := by decide +kernel
theorem dX7_passing_267 : decode cX7_passing 267 = .ok (.iload 7, 2) := by decide +kernel
theorem dX7_passing_269 : decode cX7_passing 269 = .ok (.imul, 1) := by decide +kernel
theorem dX7_passing_270 : decode cX7_passing 270 = .ok (.iastore, 1) := by decide +kernel
theorem dX7_passing_271 : decode cX7_passing 271 = .ok (.aload_n 0, 1) := by decide +kernel
theorem dX7_passing_272 : decode cX7_passing 272 = .ok (.getfield 68, 3) := by decide +kernel
theorem dX7_passing_275 : decode cX7_passing 275 = .ok (.iload_n 2, 1) := by decide +kernel
theorem dX7_passing_276 : decode cX7_passing 276 = .ok (.ifCond .ne 10, 3) := by decide +kernel
theorem dX7_passing_279 : decode cX7_passing 279 = .ok (.aload_n 0, 1) := by decide +kernel
theorem dX7_passing_280 : decode cX7_passing 280 = .ok (.getfield 13, 3) := by decide +kernel
theorem dX7_passing_283 : decode cX7_passing 283 = .ok (.goto 4, 3) := by decide +kernel
theorem dX7_passing_286 : decode cX7_passing 286 = .ok (.iconst 0, 1) := by decide +kernel
theorem dX7_passing_287 : decode cX7_passing 287 = .ok (.iload 4, 2) := by decide +kernel
theorem dX7_passing_289 : decode cX7_passing 289 = .ok (.iload 8, 2) := by decide +kernel
theorem dX7_passing_291 : decode cX7_passing 291 = .ok (.imul, 1) := by decide +kernel
theorem dX7_passing_292 : decode cX7_passing 292 = .ok (.iastore, 1) := by decide +kernel
theorem dX7_passing_293 : decode cX7_passing 293 = .ok (.iconst 0, 1) := by decide +kernel
theorem dX7_passing_294 : decode cX7_passing 294 = .ok (.istore 9, 2) := by decide +kernel
theorem dX7_passing_296 : decode cX7_passing 296 = .ok (.iload 9, 2) := by decide +kernel
theorem dX7_passing_298 : decode cX7_passing 298 = .ok (.aload_n 0, 1) := by decide +kernel
theorem dX7_passing_299 : decode cX7_passing 299 = .ok (.getfield 13, 3) := by decide +kernel
theorem dX7_passing_302 : decode cX7_passing 302 = .ok (.if_icmp .ge 22, 3) := by decide +kernel
theorem dX7_passing_305 : decode cX7_passing 305 = .ok (.aload_n 0, 1) := by decide +kernel
theorem dX7_passing_306 : decode cX7_passing 306 = .ok (.iload 9, 2) := by decide +kernel
theorem dX7_passing_308 : decode cX7_passing 308 = .ok (.aload_n 0, 1) := by decide +kernel
theorem dX7_passing_309 : decode cX7_passing 309 = .ok (.getfield 74, 3) := by decide +kernel
theorem dX7_passing_312 : decode cX7_passing 312 = .ok (.iload 9, 2) := by decide +kernel
theorem dX7_passing_314 : decode cX7_passing 314 = .ok (.iaload, 1) := by decide +kernel
theorem dX7_passing_315 : decode cX7_passing 315 = .ok (.invokevirtual 138, 3) := by decide +kernel
theorem dX7_passing_318 : decode cX7_passing 318 = .ok (.iinc 9 1, 3) := by decide +kernel
theorem dX7_passing_321 : decode cX7_passing 321 = .ok (.goto (-25), 3) := by decide +kernel
theorem dX7_passing_324 : decode cX7_passing 324 = .ok (.return_, 1) := by decide +kernel
set_option maxRecDepth 20000 in
theorem ggX7_week_X7_passing : GoodIn wsX7_week wsX7_passing := goodIn_r _ [11, 4, 12, 13, 14, 2, 15, 16, 17, 18, 19, 10, 20, 5, 21, 22, 23, 24, 25, 26, 27, 28, 29, 30, 31, 32, 33, 34, 35, 36, 37, 38, 39, 40, 41, 42, 43, 44, 45, 46, 47, 48, 49, 50, 51, 52, 53, 54, 55, 56, 57, 58, 59, 60, 61, 62, 63, 64, 65, 66, 67, 68, 69, 70, 71, 72, 73] (by decide +kernel) (by decide +kernel)
set_option maxRecDepth 20000 in
theorem gX7_week_X7_passing : GoodIn wsX7_week (wsV RX7 142 RX7 yX7_passing wsX7_passing) := goodIn_app (goodIn_of _ (by decide +kernel)) ggX7_week_X7_passing
set_option maxRecDepth 20000 in
theorem ggX7_week_X7_above : GoodIn wsX7_week wsX7_above := goodIn_r _ [30, 5, 31, 37, 38, 39, 40, 41, 42, 43, 44, 45, 46, 47, 48, 49, 50, 51, 52, 53, 54, 55, 56, 57, 58, 59, 60, 61, 62, 63, 64, 65, 66, 67, 68, 69, 70, 71, 72, 73] (by decide +kernel) (by decide +kernel)
set_option maxRecDepth 20000 in
theorem gX7_week_X7_above : GoodIn wsX7_week (wsV RX7 126 RX7 yX7_above wsX7_above) := goodIn_app (goodIn_of _ (by decide +kernel)) ggX7_week_X7_above
set_option maxRecDepth 20000 in
theorem ggX7_week_X7_brings : GoodIn wsX7_week wsX7_brings := goodIn_r _ [35, 5, 36, 37, 38, 39, 40, 41, 42, 43, 44, 45, 46, 47, 48, 49, 50, 51, 52, 53, 54, 55, 56, 57, 58, 59, 60, 61, 62, 63, 64, 65, 66, 67, 68, 69, 70, 71, 72, 73] (by decide +kernel) (by decide +kernel)
set_option maxRecDepth 20000 in
theorem gX7_week_X7_brings : GoodIn wsX7_week (wsV RX7 138 RX7 yX7_brings wsX7_brings) := goodIn_app (goodIn_of _ (by decide +kernel)) ggX7_week_X7_brings
theorem dX7_week_0 : decode cX7_week 0 = .ok (.aload_n 0, 1) := by decide +kernel
theorem dX7_week_1 : decode cX7_week 1 = .ok (.getfield 38, 3) := by decide +kernel
theorem dX7_week_4 : decode cX7_week 4 = .ok (.iload_n 1, 1) := by decide +kernel
theorem dX7_week_5 : decode cX7_week 5 = .ok (.iaload, 1) := by decide +kernel
theorem dX7_week_6 : decode cX7_week 6 = .ok (.istore_n 3, 1) := by decide +kernel
theorem dX7_week_7 : decode cX7_week 7 = .ok (.iconst 0, 1) := by decide +kernel
theorem dX7_week_8 : decode cX7_week 8 = .ok (.istore 4, 2) := by decide +kernel
theorem dX7_week_10 : decode cX7_week 10 = .ok (.iload 4, 2) := by decide +kernel
theorem dX7_week_12 : decode cX7_week 12 = .ok (.bipush 13, 2) := by decide +kernel
theorem dX7_week_14 : decode cX7_week 14 = .ok (.if_icmp .ge 17, 3) := by decide +kernel
theorem dX7_week_17 : decode cX7_week 17 = .ok (.aload_n 0, 1) := by decide +kernel
theorem dX7_week_18 : decode cX7_week 18 = .ok (.getfield 68, 3) := by decide +kernel
theorem dX7_week_21 : decode cX7_week 21 = .ok (.iload 4, 2) := by decide +kernel
theorem dX7_week_23 : decode cX7_week 23 = .ok (.iconst 0, 1) := by decide +kernel
theorem dX7_week_24 : decode cX7_week 24 = .ok (.iastore, 1) := by decide +kernel
theorem dX7_week_25 : decode cX7_week 25 = .ok (.iinc 4 1, 3) := by decide +kernel
theorem dX7_week_28 : decode cX7_week 28 = .ok (.goto (-18), 3) := by decide +kernel
theorem dX7_week_31 : decode cX7_week 31 = .ok (.aload_n 0, 1) := by decide +kernel
theorem dX7_week_32 : decode cX7_week 32 = .ok (.getfield 41, 3) := by decide +kernel
theorem dX7_week_35 : decode cX7_week 35 = .ok (.iload_n 1, 1) := by decide +kernel
theorem dX7_week_36 : decode cX7_week 36 = .ok (.iaload, 1) := by decide +kernel
theorem dX7_week_37 : decode cX7_week 37 = .ok (.iconst 2, 1) := by decide +kernel
theorem dX7_week_38 : decode cX7_week 38 = .ok (.if_icmp .ge 15, 3) := by decide +kernel
theorem dX7_week_41 : decode cX7_week 41 = .ok (.aload_n 0, 1) := by decide +kernel
theorem dX7_week_42 : decode cX7_week 42 = .ok (.iload_n 3, 1) := by decide +kernel
theorem dX7_week_43 : decode cX7_week 43 = .ok (.aload_n 0, 1) := by decide +kernel
theorem dX7_week_44 : decode cX7_week 44 = .ok (.getfield 41, 3) := by decide +kernel
theorem dX7_week_47 : decode cX7_week 47 = .ok (.iload_n 1, 1) := by decide +kernel
theorem dX7_week_48 : decode cX7_week 48 = .ok (.iaload, 1) := by decide +kernel
theorem dX7_week_49 : decode cX7_week 49 = .ok (.iload_n 2, 1) := by decide +kernel
theorem dX7_week_50 : decode cX7_week 50 = .ok (.invokevirtual 142, 3) := by decide +kernel
theorem dX7_week_53 : decode cX7_week 53 = .ok (.iconst 0, 1) := by decide +kernel
theorem dX7_week_54 : decode cX7_week 54 = .ok (.istore 4, 2) := by decide +kernel
theorem dX7_week_56 : decode cX7_week 56 = .ok (.iload 4, 2) := by decide +kernel
theorem dX7_week_58 : decode cX7_week 58 = .ok (.aload_n 0, 1) := by decide +kernel
theorem dX7_week_59 : decode cX7_week 59 = .ok (.getfield 13, 3) := by decide +kernel
theorem dX7_week_62 : decode cX7_week 62 = .ok (.if_icmp .ge 106, 3) := by decide +kernel
theorem dX7_week_65 : decode cX7_week 65 = .ok (.iload_n 3, 1) := by decide +kernel
theorem dX7_week_66 : decode cX7_week 66 = .ok (.bipush 7, 2) := by decide +kernel
theorem dX7_week_68 : decode cX7_week 68 = .ok (.if_icmp .lt 56, 3) := by decide +kernel
theorem dX7_week_71 : decode cX7_week 71 = .ok (.iconst 3, 1) := by decide +kernel
theorem dX7_week_72 : decode cX7_week 72 = .ok (.iload_n 3, 1) := by decide +kernel
theorem dX7_week_73 : decode cX7_week 73 = .ok (.imul, 1) := by decide +kernel
theorem dX7_week_74 : decode cX7_week 74 = .ok (.aload_n 0, 1) := by decide +kernel
theorem dX7_week_75 : decode cX7_week 75 = .ok (.iload 4, 2) := by decide +kernel
theorem dX7_week_77 : decode cX7_week 77 = .ok (.invokevirtual 126, 3) := by decide +kernel
theorem dX7_week_80 : decode cX7_week 80 = .ok (.if_icmp .ge 9, 3) := by decide +kernel
theorem dX7_week_83 : decode cX7_week 83 = .ok (.iconst 3, 1) := by decide +kernel
theorem dX7_week_84 : decode cX7_week 84 = .ok (.iload_n 3, 1) := by decide +kernel
theorem dX7_week_85 : decode cX7_week 85 = .ok (.imul, 1) := by decide +kernel
theorem dX7_week_86 : decode cX7_week 86 = .ok (.goto 9, 3) := by decide +kernel
theorem dX7_week_89 : decode cX7_week 89 = .ok (.aload_n 0, 1) := by decide +kernel
theorem dX7_week_90 : decode cX7_week 90 = .ok (.iload 4, 2) := by decide +kernel
theorem dX7_week_92 : decode cX7_week 92 = .ok (.invokevirtual 126, 3) := by decide +kernel
theorem dX7_week_95 : decode cX7_week 95 = .ok (.istore 5, 2) := by decide +kernel
theorem dX7_week_97 : decode cX7_week 97 = .ok (.aload_n 0, 1) := by decide +kernel
theorem dX7_week_98 : decode cX7_week 98 = .ok (.getfield 56, 3) := by decide +kernel
theorem dX7_week_101 : decode cX7_week 101 = .ok (.iload 4, 2) := by decide +kernel
theorem dX7_week_103 : decode cX7_week 103 = .ok (.dup2, 1) := by decide +kernel
theorem dX7_week_104 : decode cX7_week 104 = .ok (.iaload, 1) := by decide +kernel
theorem dX7_week_105 : decode cX7_week 105 = .ok (.iload 5, 2) := by decide +kernel
theorem dX7_week_107 : decode cX7_week 107 = .ok (.isub, 1) := by decide +kernel
theorem dX7_week_108 : decode cX7_week 108 = .ok (.iastore, 1) := by decide +kernel
theorem dX7_week_109 : decode cX7_week 109 = .ok (.aload_n 0, 1) := by decide +kernel
theorem dX7_week_110 : decode cX7_week 110 = .ok (.getfield 59, 3) := by decide +kernel
theorem dX7_week_113 : decode cX7_week 113 = .ok (.iload 4, 2) := by decide +kernel
theorem dX7_week_115 : decode cX7_week 115 = .ok (.dup2, 1) := by decide +kernel
theorem dX7_week_116 : decode cX7_week 116 = .ok (.iaload, 1) := by decide +kernel
theorem dX7_week_117 : decode cX7_week 117 = .ok (.iload 5, 2) := by decide +kernel
theorem dX7_week_119 : decode cX7_week 119 = .ok (.iadd, 1) := by decide +kernel
theorem dX7_week_120 : decode cX7_week 120 = .ok (.iastore, 1) := by decide +kernel
theorem dX7_week_121 : decode cX7_week 121 = .ok (.goto 41, 3) := by decide +kernel
theorem dX7_week_124 : decode cX7_week 124 = .ok (.iload_n 3, 1) := by decide +kernel
theorem dX7_week_125 : decode cX7_week 125 = .ok (.iconst 2, 1) := by decide +kernel
theorem dX7_week_126 : decode cX7_week 126 = .ok (.if_icmp .gt 36, 3) := by decide +kernel
theorem dX7_week_129 : decode cX7_week 129 = .ok (.aload_n 0, 1) := by decide +kernel
theorem dX7_week_130 : decode cX7_week 130 = .ok (.getfield 59, 3) := by decide +kernel
theorem dX7_week_133 : decode cX7_week 133 = .ok (.iload 4, 2) := by decide +kernel
theorem dX7_week_135 : decode cX7_week 135 = .ok (.iaload, 1) := by decide +kernel
theorem dX7_week_136 : decode cX7_week 136 = .ok (.iconst 3, 1) := by decide +kernel
theorem dX7_week_137 : decode cX7_week 137 = .ok (.iadd, 1) := by decide +kernel
theorem dX7_week_138 : decode cX7_week 138 = .ok (.iconst 4, 1) := by decide +kernel
theorem dX7_week_139 : decode cX7_week 139 = .ok (.idiv, 1) := by decide +kernel
theorem dX7_week_140 : decode cX7_week 140 = .ok (.istore 5, 2) := by decide +kernel
theorem dX7_week_142 : decode cX7_week 142 = .ok (.aload_n 0, 1) := by decide +kernel
theorem dX7_week_143 : decode cX7_week 143 = .ok (.getfield 59, 3) := by decide +kernel
theorem dX7_week_146 : decode cX7_week 146 = .ok (.iload 4, 2) := by decide +kernel
theorem dX7_week_148 : decode cX7_week 148 = .ok (.dup2, 1) := by decide +kernel
theorem dX7_week_149 : decode cX7_week 149 = .ok (.iaload, 1) := by decide +kernel
theorem dX7_week_150 : decode cX7_week 150 = .ok (.iload 5, 2) := by decide +kernel
theorem dX7_week_152 : decode cX7_week 152 = .ok (.isub, 1) := by decide +kernel
theorem dX7_week_153 : decode cX7_week 153 = .ok (.iastore, 1) := by decide +kernel
theorem dX7_week_154 : decode cX7_week 154 = .ok (.aload_n 0, 1) := by decide +kernel
theorem dX7_week_155 : decode cX7_week 155 = .ok (.iload 4, 2) := by decide +kernel
theorem dX7_week_157 : decode cX7_week 157 = .ok (.iload 5, 2) := by decide +kernel
theorem dX7_week_159 : decode cX7_week 159 = .ok (.invokevirtual 138, 3) := by decide +kernel
theorem dX7_week_162 : decode cX7_week 162 = .ok (.iinc 4 1, 3) := by decide +kernel
theorem dX7_week_165 : decode cX7_week 165 = .ok (.goto (-109), 3) := by decide +kernel
theorem dX7_week_168 : decode cX7_week 168 = .ok (.return_, 1) := by decide +kernel
set_option maxRecDepth 20000 in
theorem ggX7_dredged_X7_brings : GoodIn wsX7_dredged wsX7_brings := goodIn_r _ [10, 11, 12, 13, 14, 15, 16, 17, 18, 19, 20, 21, 22, 23, 24, 25, 26, 27, 28, 29, 30, 31, 32, 33, 34, 35, 36, 37, 38, 39, 40, 41, 42, 43, 44, 45, 46, 47, 48, 49] (by decide +kernel) (by decide +kernel)
set_option maxRecDepth 20000 in
theorem gX7_dredged_X7_brings : GoodIn wsX7_dredged (wsV RX7 138 RX7 yX7_brings wsX7_brings) := goodIn_app (goodIn_of _ (by decide +kernel)) ggX7_dredged_X7_brings
theorem dX7_dredged_0 : decode cX7_dredged 0 = .ok (.iconst 0, 1) := by decide +kernel
theorem dX7_dredged_1 : decode cX7_dredged 1 = .ok (.istore_n 3, 1) := by decide +kernel
theorem dX7_dredged_2 : decode cX7_dredged 2 = .ok (.iload_n 3, 1) := by decide +kernel
theorem dX7_dredged_3 : decode cX7_dredged 3 = .ok (.iload_n 2, 1) := by decide +kernel
theorem dX7_dredged_4 : decode cX7_dredged 4 = .ok (.if_icmp .ge 85, 3) := by decide +kernel
theorem dX7_dredged_7 : decode cX7_dredged 7 = .ok (.aload_n 0, 1) := by decide +kernel
theorem dX7_dredged_8 : decode cX7_dredged 8 = .ok (.getfield 53, 3) := by decide +kernel
theorem dX7_dredged_11 : decode cX7_dredged 11 = .ok (.iload_n 3, 1) := by decide +kernel
theorem dX7_dredged_12 : decode cX7_dredged 12 = .ok (.iaload, 1) := by decide +kernel
theorem dX7_dredged_13 : decode cX7_dredged 13 = .ok (.iload_n 1, 1) := by decide +kernel
theorem dX7_dredged_14 : decode cX7_dredged 14 = .ok (.if_icmp .ne 69, 3) := by decide +kernel
theorem dX7_dredged_17 : decode cX7_dredged 17 = .ok (.aload_n 0, 1) := by decide +kernel
theorem dX7_dredged_18 : decode cX7_dredged 18 = .ok (.getfield 44, 3) := by decide +kernel
theorem dX7_dredged_21 : decode cX7_dredged 21 = .ok (.iload_n 3, 1) := by decide +kernel
theorem dX7_dredged_22 : decode cX7_dredged 22 = .ok (.iaload, 1) := by decide +kernel
theorem dX7_dredged_23 : decode cX7_dredged 23 = .ok (.istore 4, 2) := by decide +kernel
theorem dX7_dredged_25 : decode cX7_dredged 25 = .ok (.aload_n 0, 1) := by decide +kernel
theorem dX7_dredged_26 : decode cX7_dredged 26 = .ok (.getfield 47, 3) := by decide +kernel
theorem dX7_dredged_29 : decode cX7_dredged 29 = .ok (.iload_n 3, 1) := by decide +kernel
theorem dX7_dredged_30 : decode cX7_dredged 30 = .ok (.iaload, 1) := by decide +kernel
theorem dX7_dredged_31 : decode cX7_dredged 31 = .ok (.aload_n 0, 1) := by decide +kernel
theorem dX7_dredged_32 : decode cX7_dredged 32 = .ok (.getfield 65, 3) := by decide +kernel
theorem dX7_dredged_35 : decode cX7_dredged 35 = .ok (.iload 4, 2) := by decide +kernel
theorem dX7_dredged_37 : decode cX7_dredged 37 = .ok (.iaload, 1) := by decide +kernel
theorem dX7_dredged_38 : decode cX7_dredged 38 = .ok (.if_icmp .ge 12, 3) := by decide +kernel
theorem dX7_dredged_41 : decode cX7_dredged 41 = .ok (.aload_n 0, 1) := by decide +kernel
theorem dX7_dredged_42 : decode cX7_dredged 42 = .ok (.getfield 47, 3) := by decide +kernel
theorem dX7_dredged_45 : decode cX7_dredged 45 = .ok (.iload_n 3, 1) := by decide +kernel
theorem dX7_dredged_46 : decode cX7_dredged 46 = .ok (.iaload, 1) := by decide +kernel
theorem dX7_dredged_47 : decode cX7_dredged 47 = .ok (.goto 10, 3) := by decide +kernel
theorem dX7_dredged_50 : decode cX7_dredged 50 = .ok (.aload_n 0, 1) := by decide +kernel
theorem dX7_dredged_51 : decode cX7_dredged 51 = .ok (.getfield 65, 3) := by decide +kernel
theorem dX7_dredged_54 : decode cX7_dredged 54 = .ok (.iload 4, 2) := by decide +kernel
theorem dX7_dredged_56 : decode cX7_dredged 56 = .ok (.iaload, 1) := by decide +kernel
theorem dX7_dredged_57 : decode cX7_dredged 57 = .ok (.istore 5, 2) := by decide +kernel
theorem dX7_dredged_59 : decode cX7_dredged 59 = .ok (.aload_n 0, 1) := by decide +kernel
theorem dX7_dredged_60 : decode cX7_dredged 60 = .ok (.getfield 65, 3) := by decide +kernel
theorem dX7_dredged_63 : decode cX7_dredged 63 = .ok (.iload 4, 2) := by decide +kernel
theorem dX7_dredged_65 : decode cX7_dredged 65 = .ok (.dup2, 1) := by decide +kernel
theorem dX7_dredged_66 : decode cX7_dredged 66 = .ok (.iaload, 1) := by decide +kernel
theorem dX7_dredged_67 : decode cX7_dredged 67 = .ok (.iload 5, 2) := by decide +kernel
theorem dX7_dredged_69 : decode cX7_dredged 69 = .ok (.isub, 1) := by decide +kernel
theorem dX7_dredged_70 : decode cX7_dredged 70 = .ok (.iastore, 1) := by decide +kernel
theorem dX7_dredged_71 : decode cX7_dredged 71 = .ok (.aload_n 0, 1) := by decide +kernel
theorem dX7_dredged_72 : decode cX7_dredged 72 = .ok (.aload_n 0, 1) := by decide +kernel
theorem dX7_dredged_73 : decode cX7_dredged 73 = .ok (.getfield 50, 3) := by decide +kernel
theorem dX7_dredged_76 : decode cX7_dredged 76 = .ok (.iload_n 3, 1) := by decide +kernel
theorem dX7_dredged_77 : decode cX7_dredged 77 = .ok (.iaload, 1) := by decide +kernel
theorem dX7_dredged_78 : decode cX7_dredged 78 = .ok (.iload 5, 2) := by decide +kernel
theorem dX7_dredged_80 : decode cX7_dredged 80 = .ok (.invokevirtual 138, 3) := by decide +kernel
theorem dX7_dredged_83 : decode cX7_dredged 83 = .ok (.iinc 3 1, 3) := by decide +kernel
theorem dX7_dredged_86 : decode cX7_dredged 86 = .ok (.goto (-84), 3) := by decide +kernel
theorem dX7_dredged_89 : decode cX7_dredged 89 = .ok (.return_, 1) := by decide +kernel
set_option maxRecDepth 20000 in
theorem ggX7_runs_X7_begins : GoodIn wsX7_runs wsX7_begins := goodIn_r _ [7, 8, 9, 10, 11, 12, 13, 14, 15, 16, 57, 58, 59, 60, 61, 62, 63, 64, 65, 66, 67, 68, 69, 70, 71, 72, 73, 74, 75, 76, 77, 78, 79, 80, 81, 82, 83, 84, 85, 86, 87, 88, 89, 90, 91, 92, 93] (by decide +kernel) (by decide +kernel)
set_option maxRecDepth 20000 in
theorem gX7_runs_X7_begins : GoodIn wsX7_runs (wsV RX7 146 RX7 yX7_begins wsX7_begins) := goodIn_app (goodIn_of _ (by decide +kernel)) ggX7_runs_X7_begins
set_option maxRecDepth 20000 in
theorem ggX7_runs_X7_dredged : GoodIn wsX7_runs wsX7_dredged := goodIn_r _ [20, 21, 22, 23, 12, 24, 25, 26, 27, 6, 28, 8, 29, 57, 58, 59, 60, 61, 62, 63, 64, 65, 66, 67, 68, 69, 70, 71, 72, 73, 74, 75, 76, 77, 78, 79, 80, 81, 82, 83, 84, 85, 86, 87, 88, 89, 90, 91, 92, 93] (by decide +kernel) (by decide +kernel)
set_option maxRecDepth 20000 in
theorem gX7_runs_X7_dredged : GoodIn wsX7_runs (wsV RX7 153 RX7 yX7_dredged wsX7_dredged) := goodIn_app (goodIn_of _ (by decide +kernel)) ggX7_runs_X7_dredged
set_option maxRecDepth 20000 in
theorem ggX7_runs_X7_week : GoodIn wsX7_runs wsX7_week := goodIn_r _ [33, 34, 13, 35, 36, 8, 10, 37, 38, 39, 6, 40, 41, 15, 42, 12, 43, 44, 45, 46, 47, 14, 48, 49, 50, 51, 11, 52, 53, 54, 55, 56, 25, 26, 27, 28, 29, 57, 58, 59, 60, 61, 62, 63, 64, 65, 66, 67, 68, 69, 70, 71, 72, 73, 74, 75, 76, 77, 78, 79, 80, 81, 82, 83, 84, 85, 86, 87, 88, 89, 90, 91, 92, 93] (by decide +kernel) (by decide +kernel)
set_option maxRecDepth 20000 in
theorem gX7_runs_X7_week : GoodIn wsX7_runs (wsV RX7 156 RX7 yX7_week wsX7_week) := goodIn_app (goodIn_of _ (by decide +kernel)) ggX7_runs_X7_week
theorem dX7_runs_0 : decode cX7_runs 0 = .ok (.aload_n 0, 1) := by decide +kernel
theorem dX7_runs_1 : decode cX7_runs 1 = .ok (.iload_n 2, 1) := by decide +kernel
theorem dX7_runs_2 : decode cX7_runs 2 = .ok (.invokevirtual 146, 3) := by decide +kernel
theorem dX7_runs_5 : decode cX7_runs 5 = .ok (.aload_n 0, 1) := by decide +kernel
theorem dX7_runs_6 : decode cX7_runs 6 = .ok (.iconst 0, 1) := by decide +kernel
theorem dX7_runs_7 : decode cX7_runs 7 = .ok (.aload_n 0, 1) := by decide +kernel
theorem dX7_runs_8 : decode cX7_runs 8 = .ok (.getfield 150, 3) := by decide +kernel
theorem dX7_runs_11 : decode cX7_runs 11 = .ok (.invokevirtual 153, 3) := by decide +kernel
theorem dX7_runs_14 : decode cX7_runs 14 = .ok (.iconst 0, 1) := by decide +kernel
theorem dX7_runs_15 : decode cX7_runs 15 = .ok (.istore_n 3, 1) := by decide +kernel
theorem dX7_runs_16 : decode cX7_runs 16 = .ok (.iload_n 3, 1) := by decide +kernel
theorem dX7_runs_17 : decode cX7_runs 17 = .ok (.iload_n 1, 1) := by decide +kernel
theorem dX7_runs_18 : decode cX7_runs 18 = .ok (.if_icmp .ge 29, 3) := by decide +kernel
theorem dX7_runs_21 : decode cX7_runs 21 = .ok (.aload_n 0, 1) := by decide +kernel
theorem dX7_runs_22 : decode cX7_runs 22 = .ok (.iload_n 3, 1) := by decide +kernel
theorem dX7_runs_23 : decode cX7_runs 23 = .ok (.aload_n 0, 1) := by decide +kernel
theorem dX7_runs_24 : decode cX7_runs 24 = .ok (.getfield 35, 3) := by decide +kernel
theorem dX7_runs_27 : decode cX7_runs 27 = .ok (.invokevirtual 156, 3) := by decide +kernel
theorem dX7_runs_30 : decode cX7_runs 30 = .ok (.aload_n 0, 1) := by decide +kernel
theorem dX7_runs_31 : decode cX7_runs 31 = .ok (.iload_n 3, 1) := by decide +kernel
theorem dX7_runs_32 : decode cX7_runs 32 = .ok (.iconst 1, 1) := by decide +kernel
theorem dX7_runs_33 : decode cX7_runs 33 = .ok (.iadd, 1) := by decide +kernel
theorem dX7_runs_34 : decode cX7_runs 34 = .ok (.aload_n 0, 1) := by decide +kernel
theorem dX7_runs_35 : decode cX7_runs 35 = .ok (.getfield 150, 3) := by decide +kernel
theorem dX7_runs_38 : decode cX7_runs 38 = .ok (.invokevirtual 153, 3) := by decide +kernel
theorem dX7_runs_41 : decode cX7_runs 41 = .ok (.iinc 3 1, 3) := by decide +kernel
theorem dX7_runs_44 : decode cX7_runs 44 = .ok (.goto (-28), 3) := by decide +kernel
theorem dX7_runs_47 : decode cX7_runs 47 = .ok (.return_, 1) := by decide +kernel
set_option maxRecDepth 20000 in
theorem ggX7_weeks_X7_within : GoodIn wsX7_weeks wsX7_within := goodIn_r _ [7] (by decide +kernel) (by decide +kernel)
set_option maxRecDepth 20000 in
theorem gX7_weeks_X7_within : GoodIn wsX7_weeks (va_wsS RX7 104 yX7_within wsX7_within) := goodIn_app (goodIn_of _ (by decide +kernel)) ggX7_weeks_X7_within
theorem dX7_weeks_0 : decode cX7_weeks 0 = .ok (.aload_n 0, 1) := by decide +kernel
theorem dX7_weeks_1 : decode cX7_weeks 1 = .ok (.iconst 0, 1) := by decide +kernel
theorem dX7_weeks_2 : decode cX7_weeks 2 = .ok (.putfield 1, 3) := by decide +kernel
theorem dX7_weeks_5 : decode cX7_weeks 5 = .ok (.iload_n 1, 1) := by decide +kernel
theorem dX7_weeks_6 : decode cX7_weeks 6 = .ok (.iconst 0, 1) := by decide +kernel
theorem dX7_weeks_7 : decode cX7_weeks 7 = .ok (.bipush 120, 2) := by decide +kernel
theorem dX7_weeks_9 : decode cX7_weeks 9 = .ok (.invokestatic 104, 3) := by decide +kernel
theorem dX7_weeks_12 : decode cX7_weeks 12 = .ok (.ifCond .eq 16, 3) := by decide +kernel
theorem dX7_weeks_15 : decode cX7_weeks 15 = .ok (.aload_n 0, 1) := by decide +kernel
theorem dX7_weeks_16 : decode cX7_weeks 16 = .ok (.getfield 117, 3) := by decide +kernel
theorem dX7_weeks_19 : decode cX7_weeks 19 = .ok (.iload_n 1, 1) := by decide +kernel
theorem dX7_weeks_20 : decode cX7_weeks 20 = .ok (.iadd, 1) := by decide +kernel
theorem dX7_weeks_21 : decode cX7_weeks 21 = .ok (.aload_n 0, 1) := by decide +kernel
theorem dX7_weeks_22 : decode cX7_weeks 22 = .ok (.getfield 123, 3) := by decide +kernel
theorem dX7_weeks_25 : decode cX7_weeks 25 = .ok (.if_icmp .le 5, 3) := by decide +kernel
theorem dX7_weeks_28 : decode cX7_weeks 28 = .ok (.iconst (-1), 1) := by decide +kernel
theorem dX7_weeks_29 : decode cX7_weeks 29 = .ok (.ireturn, 1) := by decide +kernel
theorem dX7_weeks_30 : decode cX7_weeks 30 = .ok (.aload_n 0, 1) := by decide +kernel
theorem dX7_weeks_31 : decode cX7_weeks 31 = .ok (.dup, 1) := by decide +kernel
theorem dX7_weeks_32 : decode cX7_weeks 32 = .ok (.getfield 117, 3) := by decide +kernel
theorem dX7_weeks_35 : decode cX7_weeks 35 = .ok (.iload_n 1, 1) := by decide +kernel
theorem dX7_weeks_36 : decode cX7_weeks 36 = .ok (.iadd, 1) := by decide +kernel
theorem dX7_weeks_37 : decode cX7_weeks 37 = .ok (.putfield 117, 3) := by decide +kernel
theorem dX7_weeks_40 : decode cX7_weeks 40 = .ok (.aload_n 0, 1) := by decide +kernel
theorem dX7_weeks_41 : decode cX7_weeks 41 = .ok (.getfield 117, 3) := by decide +kernel
theorem dX7_weeks_44 : decode cX7_weeks 44 = .ok (.ireturn, 1) := by decide +kernel
set_option maxRecDepth 20000 in
theorem ggX7_dredge_X7_isInner : GoodIn wsX7_dredge wsX7_isInner := goodIn_r _ [15, 16, 17, 18, 14, 19, 75, 76, 77, 78, 79, 80, 81, 82, 83, 84, 85, 86, 87, 88, 89, 90, 91, 92, 93, 94, 95, 96, 97, 98, 99, 100, 101, 102, 103, 104, 105, 106, 107, 108, 109, 110, 111] (by decide +kernel) (by decide +kernel)
set_option maxRecDepth 20000 in
theorem gX7_dredge_X7_isInner : GoodIn wsX7_dredge (wsV RX7 120 RX7 yX7_isInner wsX7_isInner) := goodIn_app (goodIn_of _ (by decide +kernel)) ggX7_dredge_X7_isInner
set_option maxRecDepth 20000 in
theorem ggX7_dredge_X7_isField : GoodIn wsX7_dredge wsX7_isField := goodIn_r _ [23, 16, 17, 18, 14, 19, 75, 76, 77, 78, 79, 80, 81, 82, 83, 84, 85, 86, 87, 88, 89, 90, 91, 92, 93, 94, 95, 96, 97, 98, 99, 100, 101, 102, 103, 104, 105, 106, 107, 108, 109, 110, 111] (by decide +kernel) (by decide +kernel)
set_option maxRecDepth 20000 in
theorem gX7_dredge_X7_isField : GoodIn wsX7_dredge (wsV RX7 112 RX7 yX7_isField wsX7_isField) := goodIn_app (goodIn_of _ (by decide +kernel)) ggX7_dredge_X7_isField
set_option maxRecDepth 20000 in
theorem ggX7_dredge_X7_within : GoodIn wsX7_dredge wsX7_within := goodIn_r _ [19] (by decide +kernel) (by decide +kernel)
set_option maxRecDepth 20000 in
theorem gX7_dredge_X7_within : GoodIn wsX7_dredge (va_wsS RX7 104 yX7_within wsX7_within) := goodIn_app (goodIn_of _ (by decide +kernel)) ggX7_dredge_X7_within
set_option maxRecDepth 20000 in
theorem ggX7_dredge_X7_runs : GoodIn wsX7_dredge wsX7_runs := goodIn_r _ [27, 3, 28, 29, 30, 31, 14, 32, 33, 34, 35, 36, 10, 37, 38, 2, 39, 40, 41, 42, 43, 8, 5, 6, 7, 44, 45, 46, 47, 48, 49, 50, 51, 52, 53, 54, 16, 55, 56, 57, 58, 59, 60, 61, 62, 63, 64, 65, 66, 67, 68, 69, 70, 71, 72, 73, 74, 75, 76, 77, 78, 79, 80, 81, 82, 83, 84, 85, 86, 87, 88, 89, 90, 91, 92, 93, 94, 95, 96, 97, 98, 99, 100, 101, 102, 103, 104, 105, 106, 107, 108, 109, 110, 111] (by decide +kernel) (by decide +kernel)
set_option maxRecDepth 20000 in
theorem gX7_dredge_X7_runs : GoodIn wsX7_dredge (wsV RX7 159 RX7 yX7_runs wsX7_runs) := goodIn_app (goodIn_of _ (by decide +kernel)) ggX7_dredge_X7_runs
theorem dX7_dredge_0 : decode cX7_dredge 0 = .ok (.aload_n 0, 1) := by decide +kernel
theorem dX7_dredge_1 : decode cX7_dredge 1 = .ok (.iconst 0, 1) := by decide +kernel
theorem dX7_dredge_2 : decode cX7_dredge 2 = .ok (.putfield 1, 3) := by decide +kernel
theorem dX7_dredge_5 : decode cX7_dredge 5 = .ok (.aload_n 0, 1) := by decide +kernel
theorem dX7_dredge_6 : decode cX7_dredge 6 = .ok (.iload_n 1, 1) := by decide +kernel
theorem dX7_dredge_7 : decode cX7_dredge 7 = .ok (.invokevirtual 120, 3) := by decide +kernel
theorem dX7_dredge_10 : decode cX7_dredge 10 = .ok (.ifCond .eq 41, 3) := by decide +kernel
theorem dX7_dredge_13 : decode cX7_dredge 13 = .ok (.aload_n 0, 1) := by decide +kernel
theorem dX7_dredge_14 : decode cX7_dredge 14 = .ok (.getfield 20, 3) := by decide +kernel
theorem dX7_dredge_17 : decode cX7_dredge 17 = .ok (.iload_n 1, 1) := by decide +kernel
theorem dX7_dredge_18 : decode cX7_dredge 18 = .ok (.iaload, 1) := by decide +kernel
theorem dX7_dredge_19 : decode cX7_dredge 19 = .ok (.iconst 2, 1) := by decide +kernel
theorem dX7_dredge_20 : decode cX7_dredge 20 = .ok (.if_icmp .ne 31, 3) := by decide +kernel
theorem dX7_dredge_23 : decode cX7_dredge 23 = .ok (.aload_n 0, 1) := by decide +kernel
theorem dX7_dredge_24 : decode cX7_dredge 24 = .ok (.iload_n 3, 1) := by decide +kernel
theorem dX7_dredge_25 : decode cX7_dredge 25 = .ok (.invokevirtual 112, 3) := by decide +kernel
theorem dX7_dredge_28 : decode cX7_dredge 28 = .ok (.ifCond .eq 23, 3) := by decide +kernel
theorem dX7_dredge_31 : decode cX7_dredge 31 = .ok (.iload_n 2, 1) := by decide +kernel
theorem dX7_dredge_32 : decode cX7_dredge 32 = .ok (.iconst 1, 1) := by decide +kernel
theorem dX7_dredge_33 : decode cX7_dredge 33 = .ok (.sipush 9999, 3) := by decide +kernel
theorem dX7_dredge_36 : decode cX7_dredge 36 = .ok (.invokestatic 104, 3) := by decide +kernel
theorem dX7_dredge_39 : decode cX7_dredge 39 = .ok (.ifCond .eq 12, 3) := by decide +kernel
theorem dX7_dredge_42 : decode cX7_dredge 42 = .ok (.aload_n 0, 1) := by decide +kernel
theorem dX7_dredge_43 : decode cX7_dredge 43 = .ok (.getfield 150, 3) := by decide +kernel
theorem dX7_dredge_46 : decode cX7_dredge 46 = .ok (.bipush 20, 2) := by decide +kernel
theorem dX7_dredge_48 : decode cX7_dredge 48 = .ok (.if_icmp .ne 5, 3) := by decide +kernel
theorem dX7_dredge_51 : decode cX7_dredge 51 = .ok (.iconst (-1), 1) := by decide +kernel
theorem dX7_dredge_52 : decode cX7_dredge 52 = .ok (.ireturn, 1) := by decide +kernel
theorem dX7_dredge_53 : decode cX7_dredge 53 = .ok (.aload_n 0, 1) := by decide +kernel
theorem dX7_dredge_54 : decode cX7_dredge 54 = .ok (.aload_n 0, 1) := by decide +kernel
theorem dX7_dredge_55 : decode cX7_dredge 55 = .ok (.getfield 117, 3) := by decide +kernel
theorem dX7_dredge_58 : decode cX7_dredge 58 = .ok (.iconst 0, 1) := by decide +kernel
theorem dX7_dredge_59 : decode cX7_dredge 59 = .ok (.invokevirtual 159, 3) := by decide +kernel
theorem dX7_dredge_62 : decode cX7_dredge 62 = .ok (.aload_n 0, 1) := by decide +kernel
theorem dX7_dredge_63 : decode cX7_dredge 63 = .ok (.getfield 44, 3) := by decide +kernel
theorem dX7_dredge_66 : decode cX7_dredge 66 = .ok (.aload_n 0, 1) := by decide +kernel
theorem dX7_dredge_67 : decode cX7_dredge 67 = .ok (.getfield 150, 3) := by decide +kernel
theorem dX7_dredge_70 : decode cX7_dredge 70 = .ok (.iload_n 1, 1) := by decide +kernel
theorem dX7_dredge_71 : decode cX7_dredge 71 = .ok (.iastore, 1) := by decide +kernel
theorem dX7_dredge_72 : decode cX7_dredge 72 = .ok (.aload_n 0, 1) := by decide +kernel
theorem dX7_dredge_73 : decode cX7_dredge 73 = .ok (.getfield 47, 3) := by decide +kernel
theorem dX7_dredge_76 : decode cX7_dredge 76 = .ok (.aload_n 0, 1) := by decide +kernel
theorem dX7_dredge_77 : decode cX7_dredge 77 = .ok (.getfield 150, 3) := by decide +kernel
theorem dX7_dredge_80 : decode cX7_dredge 80 = .ok (.iload_n 2, 1) := by decide +kernel
theorem dX7_dredge_81 : decode cX7_dredge 81 = .ok (.iastore, 1) := by decide +kernel
theorem dX7_dredge_82 : decode cX7_dredge 82 = .ok (.aload_n 0, 1) := by decide +kernel
theorem dX7_dredge_83 : decode cX7_dredge 83 = .ok (.getfield 50, 3) := by decide +kernel
theorem dX7_dredge_86 : decode cX7_dredge 86 = .ok (.aload_n 0, 1) := by decide +kernel
theorem dX7_dredge_87 : decode cX7_dredge 87 = .ok (.getfield 150, 3) := by decide +kernel
theorem dX7_dredge_90 : decode cX7_dredge 90 = .ok (.iload_n 3, 1) := by decide +kernel
theorem dX7_dredge_91 : decode cX7_dredge 91 = .ok (.iastore, 1) := by decide +kernel
theorem dX7_dredge_92 : decode cX7_dredge 92 = .ok (.aload_n 0, 1) := by decide +kernel
theorem dX7_dredge_93 : decode cX7_dredge 93 = .ok (.getfield 53, 3) := by decide +kernel
theorem dX7_dredge_96 : decode cX7_dredge 96 = .ok (.aload_n 0, 1) := by decide +kernel
theorem dX7_dredge_97 : decode cX7_dredge 97 = .ok (.getfield 150, 3) := by decide +kernel
theorem dX7_dredge_100 : decode cX7_dredge 100 = .ok (.aload_n 0, 1) := by decide +kernel
theorem dX7_dredge_101 : decode cX7_dredge 101 = .ok (.getfield 117, 3) := by decide +kernel
theorem dX7_dredge_104 : decode cX7_dredge 104 = .ok (.iastore, 1) := by decide +kernel
theorem dX7_dredge_105 : decode cX7_dredge 105 = .ok (.aload_n 0, 1) := by decide +kernel
theorem dX7_dredge_106 : decode cX7_dredge 106 = .ok (.dup, 1) := by decide +kernel
theorem dX7_dredge_107 : decode cX7_dredge 107 = .ok (.getfield 150, 3) := by decide +kernel
theorem dX7_dredge_110 : decode cX7_dredge 110 = .ok (.iconst 1, 1) := by decide +kernel
theorem dX7_dredge_111 : decode cX7_dredge 111 = .ok (.iadd, 1) := by decide +kernel
theorem dX7_dredge_112 : decode cX7_dredge 112 = .ok (.putfield 150, 3) := by decide +kernel
theorem dX7_dredge_115 : decode cX7_dredge 115 = .ok (.aload_n 0, 1) := by decide +kernel
theorem dX7_dredge_116 : decode cX7_dredge 116 = .ok (.iconst 1, 1) := by decide +kernel
theorem dX7_dredge_117 : decode cX7_dredge 117 = .ok (.putfield 108, 3) := by decide +kernel
theorem dX7_dredge_120 : decode cX7_dredge 120 = .ok (.iload_n 2, 1) := by decide +kernel
theorem dX7_dredge_121 : decode cX7_dredge 121 = .ok (.aload_n 0, 1) := by decide +kernel
theorem dX7_dredge_122 : decode cX7_dredge 122 = .ok (.getfield 65, 3) := by decide +kernel
theorem dX7_dredge_125 : decode cX7_dredge 125 = .ok (.iload_n 1, 1) := by decide +kernel
theorem dX7_dredge_126 : decode cX7_dredge 126 = .ok (.iaload, 1) := by decide +kernel
theorem dX7_dredge_127 : decode cX7_dredge 127 = .ok (.if_icmp .ge 7, 3) := by decide +kernel
theorem dX7_dredge_130 : decode cX7_dredge 130 = .ok (.iload_n 2, 1) := by decide +kernel
theorem dX7_dredge_131 : decode cX7_dredge 131 = .ok (.goto 9, 3) := by decide +kernel
theorem dX7_dredge_134 : decode cX7_dredge 134 = .ok (.aload_n 0, 1) := by decide +kernel
theorem dX7_dredge_135 : decode cX7_dredge 135 = .ok (.getfield 65, 3) := by decide +kernel
theorem dX7_dredge_138 : decode cX7_dredge 138 = .ok (.iload_n 1, 1) := by decide +kernel
theorem dX7_dredge_139 : decode cX7_dredge 139 = .ok (.iaload, 1) := by decide +kernel
theorem dX7_dredge_140 : decode cX7_dredge 140 = .ok (.ireturn, 1) := by decide +kernel
set_option maxRecDepth 20000 in
theorem ggX7_line_X7_isField : GoodIn wsX7_line wsX7_isField := goodIn_r _ [8, 9, 10, 11, 7, 12, 70, 71, 72, 73, 74, 75, 76, 77, 78, 79, 80, 81, 82, 83, 84, 85, 86, 87, 88, 89, 90, 91, 92, 93, 94, 95, 96, 97, 98, 99, 100, 101, 102, 103, 104, 105, 106] (by decide +kernel) (by decide +kernel)
set_option maxRecDepth 20000 in
theorem gX7_line_X7_isField : GoodIn wsX7_line (wsV RX7 112 RX7 yX7_isField wsX7_isField) := goodIn_app (goodIn_of _ (by decide +kernel)) ggX7_line_X7_isField
set_option maxRecDepth 20000 in
theorem ggX7_line_X7_runs : GoodIn wsX7_line wsX7_runs := goodIn_r _ [16, 17, 18, 19, 20, 21, 7, 22, 3, 23, 24, 25, 26, 27, 28, 29, 30, 31, 32, 33, 34, 35, 36, 37, 38, 39, 40, 41, 42, 43, 44, 45, 46, 47, 48, 49, 9, 50, 51, 52, 53, 54, 55, 56, 57, 58, 59, 60, 61, 62, 63, 64, 65, 66, 67, 68, 69, 70, 71, 72, 73, 74, 75, 76, 77, 78, 79, 80, 81, 82, 83, 84, 85, 86, 87, 88, 89, 90, 91, 92, 93, 94, 95, 96, 97, 98, 99, 100, 101, 102, 103, 104, 105, 106] (by decide +kernel) (by decide +kernel)
set_option maxRecDepth 20000 in
theorem gX7_line_X7_runs : GoodIn wsX7_line (wsV RX7 159 RX7 yX7_runs wsX7_runs) := goodIn_app (goodIn_of _ (by decide +kernel)) ggX7_line_X7_runs
theorem dX7_line_0 : decode cX7_line 0 = .ok (.aload_n 0, 1) := by decide +kernel
theorem dX7_line_1 : decode cX7_line 1 = .ok (.aload_n 0, 1) := by decide +kernel
theorem dX7_line_2 : decode cX7_line 2 = .ok (.iload_n 1, 1) := by decide +kernel
theorem dX7_line_3 : decode cX7_line 3 = .ok (.invokevirtual 112, 3) := by decide +kernel
theorem dX7_line_6 : decode cX7_line 6 = .ok (.ifCond .eq 7, 3) := by decide +kernel
theorem dX7_line_9 : decode cX7_line 9 = .ok (.iconst 0, 1) := by decide +kernel
theorem dX7_line_10 : decode cX7_line 10 = .ok (.goto 4, 3) := by decide +kernel
theorem dX7_line_13 : decode cX7_line 13 = .ok (.iconst 1, 1) := by decide +kernel
theorem dX7_line_14 : decode cX7_line 14 = .ok (.putfield 1, 3) := by decide +kernel
theorem dX7_line_17 : decode cX7_line 17 = .ok (.aload_n 0, 1) := by decide +kernel
theorem dX7_line_18 : decode cX7_line 18 = .ok (.getfield 1, 3) := by decide +kernel
theorem dX7_line_21 : decode cX7_line 21 = .ok (.ifCond .le 5, 3) := by decide +kernel
theorem dX7_line_24 : decode cX7_line 24 = .ok (.iconst 0, 1) := by decide +kernel
theorem dX7_line_25 : decode cX7_line 25 = .ok (.ireturn, 1) := by decide +kernel
theorem dX7_line_26 : decode cX7_line 26 = .ok (.aload_n 0, 1) := by decide +kernel
theorem dX7_line_27 : decode cX7_line 27 = .ok (.aload_n 0, 1) := by decide +kernel
theorem dX7_line_28 : decode cX7_line 28 = .ok (.getfield 117, 3) := by decide +kernel
theorem dX7_line_31 : decode cX7_line 31 = .ok (.iconst 0, 1) := by decide +kernel
theorem dX7_line_32 : decode cX7_line 32 = .ok (.invokevirtual 159, 3) := by decide +kernel
theorem dX7_line_35 : decode cX7_line 35 = .ok (.aload_n 0, 1) := by decide +kernel
theorem dX7_line_36 : decode cX7_line 36 = .ok (.getfield 56, 3) := by decide +kernel
theorem dX7_line_39 : decode cX7_line 39 = .ok (.iload_n 1, 1) := by decide +kernel
theorem dX7_line_40 : decode cX7_line 40 = .ok (.iaload, 1) := by decide +kernel
theorem dX7_line_41 : decode cX7_line 41 = .ok (.bipush 10, 2) := by decide +kernel
theorem dX7_line_43 : decode cX7_line 43 = .ok (.idiv, 1) := by decide +kernel
theorem dX7_line_44 : decode cX7_line 44 = .ok (.ireturn, 1) := by decide +kernel
set_option maxRecDepth 20000 in
theorem ggX7_look_X7_isField : GoodIn wsX7_look wsX7_isField := goodIn_r _ [10, 11, 12, 13, 9, 14, 70, 71, 72, 73, 74, 75, 76, 77, 78, 79, 80, 81, 82, 83, 84, 85, 86, 87, 88, 89, 90, 91, 92, 93, 94, 95, 96, 97, 98, 99, 100, 101, 102, 103, 104, 105, 106] (by decide +kernel) (by decide +kernel)
set_option maxRecDepth 20000 in
theorem gX7_look_X7_isField : GoodIn wsX7_look (wsV RX7 112 RX7 yX7_isField wsX7_isField) := goodIn_app (goodIn_of _ (by decide +kernel)) ggX7_look_X7_isField
set_option maxRecDepth 20000 in
theorem ggX7_look_X7_runs : GoodIn wsX7_look wsX7_runs := goodIn_r _ [18, 19, 20, 21, 22, 23, 9, 24, 3, 25, 4, 5, 26, 27, 28, 29, 30, 31, 32, 33, 34, 35, 36, 37, 38, 39, 40, 41, 42, 43, 44, 45, 46, 47, 48, 49, 11, 50, 51, 52, 53, 54, 55, 56, 57, 58, 59, 60, 61, 62, 63, 64, 65, 66, 67, 68, 69, 70, 71, 72, 73, 74, 75, 76, 77, 78, 79, 80, 81, 82, 83, 84, 85, 86, 87, 88, 89, 90, 91, 92, 93, 94, 95, 96, 97, 98, 99, 100, 101, 102, 103, 104, 105, 106] (by decide +kernel) (by decide +kernel)
set_option maxRecDepth 20000 in
theorem gX7_look_X7_runs : GoodIn wsX7_look (wsV RX7 159 RX7 yX7_runs wsX7_runs) := goodIn_app (goodIn_of _ (by decide +kernel)) ggX7_look_X7_runs
theorem dX7_look_0 : decode cX7_look 0 = .ok (.aload_n 0, 1) := by decide +kernel
theorem dX7_look_1 : decode cX7_look 1 = .ok (.iconst 0, 1) := by decide +kernel
theorem dX7_look_2 : decode cX7_look 2 = .ok (.putfield 1, 3) := by decide +kernel
theorem dX7_look_5 : decode cX7_look 5 = .ok (.aload_n 0, 1) := by decide +kernel
theorem dX7_look_6 : decode cX7_look 6 = .ok (.iload_n 1, 1) := by decide +kernel
theorem dX7_look_7 : decode cX7_look 7 = .ok (.invokevirtual 112, 3) := by decide +kernel
theorem dX7_look_10 : decode cX7_look 10 = .ok (.ifCond .ne 5, 3) := by decide +kernel
theorem dX7_look_13 : decode cX7_look 13 = .ok (.iconst (-1), 1) := by decide +kernel
theorem dX7_look_14 : decode cX7_look 14 = .ok (.ireturn, 1) := by decide +kernel
theorem dX7_look_15 : decode cX7_look 15 = .ok (.aload_n 0, 1) := by decide +kernel
theorem dX7_look_16 : decode cX7_look 16 = .ok (.aload_n 0, 1) := by decide +kernel
theorem dX7_look_17 : decode cX7_look 17 = .ok (.getfield 117, 3) := by decide +kernel
theorem dX7_look_20 : decode cX7_look 20 = .ok (.iconst 0, 1) := by decide +kernel
theorem dX7_look_21 : decode cX7_look 21 = .ok (.invokevirtual 159, 3) := by decide +kernel
theorem dX7_look_24 : decode cX7_look 24 = .ok (.iload_n 2, 1) := by decide +kernel
theorem dX7_look_25 : decode cX7_look 25 = .ok (.ifCond .ne 12, 3) := by decide +kernel
theorem dX7_look_28 : decode cX7_look 28 = .ok (.aload_n 0, 1) := by decide +kernel
theorem dX7_look_29 : decode cX7_look 29 = .ok (.getfield 56, 3) := by decide +kernel
theorem dX7_look_32 : decode cX7_look 32 = .ok (.iload_n 1, 1) := by decide +kernel
theorem dX7_look_33 : decode cX7_look 33 = .ok (.iaload, 1) := by decide +kernel
theorem dX7_look_34 : decode cX7_look 34 = .ok (.goto 32, 3) := by decide +kernel
theorem dX7_look_37 : decode cX7_look 37 = .ok (.iload_n 2, 1) := by decide +kernel
theorem dX7_look_38 : decode cX7_look 38 = .ok (.iconst 1, 1) := by decide +kernel
theorem dX7_look_39 : decode cX7_look 39 = .ok (.if_icmp .ne 12, 3) := by decide +kernel
theorem dX7_look_42 : decode cX7_look 42 = .ok (.aload_n 0, 1) := by decide +kernel
theorem dX7_look_43 : decode cX7_look 43 = .ok (.getfield 59, 3) := by decide +kernel
theorem dX7_look_46 : decode cX7_look 46 = .ok (.iload_n 1, 1) := by decide +kernel
theorem dX7_look_47 : decode cX7_look 47 = .ok (.iaload, 1) := by decide +kernel
theorem dX7_look_48 : decode cX7_look 48 = .ok (.goto 18, 3) := by decide +kernel
theorem dX7_look_51 : decode cX7_look 51 = .ok (.iload_n 2, 1) := by decide +kernel
theorem dX7_look_52 : decode cX7_look 52 = .ok (.iconst 2, 1) := by decide +kernel
theorem dX7_look_53 : decode cX7_look 53 = .ok (.if_icmp .ne 12, 3) := by decide +kernel
theorem dX7_look_56 : decode cX7_look 56 = .ok (.aload_n 0, 1) := by decide +kernel
theorem dX7_look_57 : decode cX7_look 57 = .ok (.getfield 62, 3) := by decide +kernel
theorem dX7_look_60 : decode cX7_look 60 = .ok (.iload_n 1, 1) := by decide +kernel
theorem dX7_look_61 : decode cX7_look 61 = .ok (.iaload, 1) := by decide +kernel
theorem dX7_look_62 : decode cX7_look 62 = .ok (.goto 4, 3) := by decide +kernel
theorem dX7_look_65 : decode cX7_look 65 = .ok (.iconst (-1), 1) := by decide +kernel
theorem dX7_look_66 : decode cX7_look 66 = .ok (.ireturn, 1) := by decide +kernel
set_option maxRecDepth 20000 in
theorem ggX7_border_X7_within : GoodIn wsX7_border wsX7_within := goodIn_r _ [13] (by decide +kernel) (by decide +kernel)
set_option maxRecDepth 20000 in
theorem gX7_border_X7_within : GoodIn wsX7_border (va_wsS RX7 104 yX7_within wsX7_within) := goodIn_app (goodIn_of _ (by decide +kernel)) ggX7_border_X7_within
set_option maxRecDepth 20000 in
theorem ggX7_border_X7_runs : GoodIn wsX7_border wsX7_runs := goodIn_r _ [17, 18, 19, 20, 21, 22, 12, 23, 24, 25, 26, 27, 9, 6, 28, 5, 7, 29, 30, 31, 32, 33, 34, 35, 36, 37, 38, 39, 40, 41, 42, 43, 44, 45, 46, 47, 2, 48, 49, 50, 51, 52, 8, 53, 54, 55, 56, 57, 58, 59, 60, 61, 62, 63, 64, 65, 66, 67, 68, 69, 70, 71, 72, 73, 74, 75, 76, 77, 78, 79, 80, 81, 82, 83, 84, 85, 86, 87, 88, 89, 90, 91, 92, 93, 94, 95, 96, 97, 98, 99, 100, 101, 102, 103] (by decide +kernel) (by decide +kernel)
set_option maxRecDepth 20000 in
theorem gX7_border_X7_runs : GoodIn wsX7_border (wsV RX7 159 RX7 yX7_runs wsX7_runs) := goodIn_app (goodIn_of _ (by decide +kernel)) ggX7_border_X7_runs
theorem dX7_border_0 : decode cX7_border 0 = .ok (.aload_n 0, 1) := by decide +kernel
theorem dX7_border_1 : decode cX7_border 1 = .ok (.iconst 0, 1) := by decide +kernel
theorem dX7_border_2 : decode cX7_border 2 = .ok (.putfield 1, 3) := by decide +kernel
theorem dX7_border_5 : decode cX7_border 5 = .ok (.iload_n 1, 1) := by decide +kernel
theorem dX7_border_6 : decode cX7_border 6 = .ok (.iconst 0, 1) := by decide +kernel
theorem dX7_border_7 : decode cX7_border 7 = .ok (.aload_n 0, 1) := by decide +kernel
theorem dX7_border_8 : decode cX7_border 8 = .ok (.getfield 13, 3) := by decide +kernel
theorem dX7_border_11 : decode cX7_border 11 = .ok (.invokestatic 104, 3) := by decide +kernel
theorem dX7_border_14 : decode cX7_border 14 = .ok (.ifCond .ne 15, 3) := by decide +kernel
theorem dX7_border_17 : decode cX7_border 17 = .ok (.iload_n 2, 1) := by decide +kernel
theorem dX7_border_18 : decode cX7_border 18 = .ok (.iconst 3, 1) := by decide +kernel
theorem dX7_border_19 : decode cX7_border 19 = .ok (.if_icmp .ne 8, 3) := by decide +kernel
theorem dX7_border_22 : decode cX7_border 22 = .ok (.ldc 162, 2) := by decide +kernel
theorem dX7_border_24 : decode cX7_border 24 = .ok (.goto 4, 3) := by decide +kernel
theorem dX7_border_27 : decode cX7_border 27 = .ok (.iconst (-1), 1) := by decide +kernel
theorem dX7_border_28 : decode cX7_border 28 = .ok (.ireturn, 1) := by decide +kernel
theorem dX7_border_29 : decode cX7_border 29 = .ok (.aload_n 0, 1) := by decide +kernel
theorem dX7_border_30 : decode cX7_border 30 = .ok (.aload_n 0, 1) := by decide +kernel
theorem dX7_border_31 : decode cX7_border 31 = .ok (.getfield 117, 3) := by decide +kernel
theorem dX7_border_34 : decode cX7_border 34 = .ok (.iconst 0, 1) := by decide +kernel
theorem dX7_border_35 : decode cX7_border 35 = .ok (.invokevirtual 159, 3) := by decide +kernel
theorem dX7_border_38 : decode cX7_border 38 = .ok (.iload_n 2, 1) := by decide +kernel
theorem dX7_border_39 : decode cX7_border 39 = .ok (.ifCond .ne 10, 3) := by decide +kernel
theorem dX7_border_42 : decode cX7_border 42 = .ok (.aload_n 0, 1) := by decide +kernel
theorem dX7_border_43 : decode cX7_border 43 = .ok (.getfield 20, 3) := by decide +kernel
theorem dX7_border_46 : decode cX7_border 46 = .ok (.iload_n 1, 1) := by decide +kernel
theorem dX7_border_47 : decode cX7_border 47 = .ok (.iaload, 1) := by decide +kernel
theorem dX7_border_48 : decode cX7_border 48 = .ok (.ireturn, 1) := by decide +kernel
theorem dX7_border_49 : decode cX7_border 49 = .ok (.iload_n 2, 1) := by decide +kernel
theorem dX7_border_50 : decode cX7_border 50 = .ok (.iconst 3, 1) := by decide +kernel
theorem dX7_border_51 : decode cX7_border 51 = .ok (.if_icmp .ne 10, 3) := by decide +kernel
theorem dX7_border_54 : decode cX7_border 54 = .ok (.aload_n 0, 1) := by decide +kernel
theorem dX7_border_55 : decode cX7_border 55 = .ok (.getfield 68, 3) := by decide +kernel
theorem dX7_border_58 : decode cX7_border 58 = .ok (.iload_n 1, 1) := by decide +kernel
theorem dX7_border_59 : decode cX7_border 59 = .ok (.iaload, 1) := by decide +kernel
theorem dX7_border_60 : decode cX7_border 60 = .ok (.ireturn, 1) := by decide +kernel
theorem dX7_border_61 : decode cX7_border 61 = .ok (.iload_n 2, 1) := by decide +kernel
theorem dX7_border_62 : decode cX7_border 62 = .ok (.iconst 1, 1) := by decide +kernel
theorem dX7_border_63 : decode cX7_border 63 = .ok (.if_icmp .lt 17, 3) := by decide +kernel
theorem dX7_border_66 : decode cX7_border 66 = .ok (.iload_n 2, 1) := by decide +kernel
theorem dX7_border_67 : decode cX7_border 67 = .ok (.iconst 2, 1) := by decide +kernel
theorem dX7_border_68 : decode cX7_border 68 = .ok (.if_icmp .gt 12, 3) := by decide +kernel
theorem dX7_border_71 : decode cX7_border 71 = .ok (.aload_n 0, 1) := by decide +kernel
theorem dX7_border_72 : decode cX7_border 72 = .ok (.getfield 20, 3) := by decide +kernel
theorem dX7_border_75 : decode cX7_border 75 = .ok (.iload_n 1, 1) := by decide +kernel
theorem dX7_border_76 : decode cX7_border 76 = .ok (.iaload, 1) := by decide +kernel
theorem dX7_border_77 : decode cX7_border 77 = .ok (.ifCond .ne 5, 3) := by decide +kernel
theorem dX7_border_80 : decode cX7_border 80 = .ok (.iconst (-1), 1) := by decide +kernel
theorem dX7_border_81 : decode cX7_border 81 = .ok (.ireturn, 1) := by decide +kernel
theorem dX7_border_82 : decode cX7_border 82 = .ok (.iload_n 2, 1) := by decide +kernel
theorem dX7_border_83 : decode cX7_border 83 = .ok (.iconst 1, 1) := by decide +kernel
theorem dX7_border_84 : decode cX7_border 84 = .ok (.if_icmp .ne 31, 3) := by decide +kernel
theorem dX7_border_87 : decode cX7_border 87 = .ok (.aload_n 0, 1) := by decide +kernel
theorem dX7_border_88 : decode cX7_border 88 = .ok (.getfield 20, 3) := by decide +kernel
theorem dX7_border_91 : decode cX7_border 91 = .ok (.iload_n 1, 1) := by decide +kernel
theorem dX7_border_92 : decode cX7_border 92 = .ok (.iaload, 1) := by decide +kernel
theorem dX7_border_93 : decode cX7_border 93 = .ok (.iconst 1, 1) := by decide +kernel
theorem dX7_border_94 : decode cX7_border 94 = .ok (.if_icmp .ne 12, 3) := by decide +kernel
theorem dX7_border_97 : decode cX7_border 97 = .ok (.aload_n 0, 1) := by decide +kernel
theorem dX7_border_98 : decode cX7_border 98 = .ok (.getfield 23, 3) := by decide +kernel
theorem dX7_border_101 : decode cX7_border 101 = .ok (.iload_n 1, 1) := by decide +kernel
theorem dX7_border_102 : decode cX7_border 102 = .ok (.iaload, 1) := by decide +kernel
theorem dX7_border_103 : decode cX7_border 103 = .ok (.goto 37, 3) := by decide +kernel
theorem dX7_border_106 : decode cX7_border 106 = .ok (.aload_n 0, 1) := by decide +kernel
theorem dX7_border_107 : decode cX7_border 107 = .ok (.getfield 26, 3) := by decide +kernel
theorem dX7_border_110 : decode cX7_border 110 = .ok (.iload_n 1, 1) := by decide +kernel
theorem dX7_border_111 : decode cX7_border 111 = .ok (.iaload, 1) := by decide +kernel
theorem dX7_border_112 : decode cX7_border 112 = .ok (.goto 28, 3) := by decide +kernel
theorem dX7_border_115 : decode cX7_border 115 = .ok (.aload_n 0, 1) := by decide +kernel
theorem dX7_border_116 : decode cX7_border 116 = .ok (.getfield 20, 3) := by decide +kernel
theorem dX7_border_119 : decode cX7_border 119 = .ok (.iload_n 1, 1) := by decide +kernel
theorem dX7_border_120 : decode cX7_border 120 = .ok (.iaload, 1) := by decide +kernel
theorem dX7_border_121 : decode cX7_border 121 = .ok (.iconst 1, 1) := by decide +kernel
theorem dX7_border_122 : decode cX7_border 122 = .ok (.if_icmp .ne 12, 3) := by decide +kernel
theorem dX7_border_125 : decode cX7_border 125 = .ok (.aload_n 0, 1) := by decide +kernel
theorem dX7_border_126 : decode cX7_border 126 = .ok (.getfield 26, 3) := by decide +kernel
theorem dX7_border_129 : decode cX7_border 129 = .ok (.iload_n 1, 1) := by decide +kernel
theorem dX7_border_130 : decode cX7_border 130 = .ok (.iaload, 1) := by decide +kernel
theorem dX7_border_131 : decode cX7_border 131 = .ok (.goto 9, 3) := by decide +kernel
theorem dX7_border_134 : decode cX7_border 134 = .ok (.aload_n 0, 1) := by decide +kernel
theorem dX7_border_135 : decode cX7_border 135 = .ok (.getfield 65, 3) := by decide +kernel
theorem dX7_border_138 : decode cX7_border 138 = .ok (.iload_n 1, 1) := by decide +kernel
theorem dX7_border_139 : decode cX7_border 139 = .ok (.iaload, 1) := by decide +kernel
theorem dX7_border_140 : decode cX7_border 140 = .ok (.ireturn, 1) := by decide +kernel
set_option maxRecDepth 20000 in
theorem ggX7_areGroynes_X7_isInner : GoodIn wsX7_areGroynes wsX7_isInner := goodIn_r _ [6, 7, 8, 9, 5, 10, 11, 12, 13, 14, 15, 16, 17, 18, 19, 20, 21, 22, 23, 24, 25, 26, 27, 28, 29, 30, 31, 32, 33, 34, 35, 36, 37, 38, 39, 40, 41, 42, 43, 44, 45, 46, 47] (by decide +kernel) (by decide +kernel)
set_option maxRecDepth 20000 in
theorem gX7_areGroynes_X7_isInner : GoodIn wsX7_areGroynes (wsV RX7 120 RX7 yX7_isInner wsX7_isInner) := goodIn_app (goodIn_of _ (by decide +kernel)) ggX7_areGroynes_X7_isInner
theorem dX7_areGroynes_0 : decode cX7_areGroynes 0 = .ok (.iconst 1, 1) := by decide +kernel
theorem dX7_areGroynes_1 : decode cX7_areGroynes 1 = .ok (.istore_n 2, 1) := by decide +kernel
theorem dX7_areGroynes_2 : decode cX7_areGroynes 2 = .ok (.iconst 0, 1) := by decide +kernel
theorem dX7_areGroynes_3 : decode cX7_areGroynes 3 = .ok (.istore_n 3, 1) := by decide +kernel
theorem dX7_areGroynes_4 : decode cX7_areGroynes 4 = .ok (.iload_n 3, 1) := by decide +kernel
theorem dX7_areGroynes_5 : decode cX7_areGroynes 5 = .ok (.bipush 32, 2) := by decide +kernel
theorem dX7_areGroynes_7 : decode cX7_areGroynes 7 = .ok (.if_icmp .ge 51, 3) := by decide +kernel
theorem dX7_areGroynes_10 : decode cX7_areGroynes 10 = .ok (.iload_n 2, 1) := by decide +kernel
theorem dX7_areGroynes_11 : decode cX7_areGroynes 11 = .ok (.ifCond .eq 39, 3) := by decide +kernel
theorem dX7_areGroynes_14 : decode cX7_areGroynes 14 = .ok (.iload_n 1, 1) := by decide +kernel
theorem dX7_areGroynes_15 : decode cX7_areGroynes 15 = .ok (.iload_n 3, 1) := by decide +kernel
theorem dX7_areGroynes_16 : decode cX7_areGroynes 16 = .ok (.ishr, 1) := by decide +kernel
theorem dX7_areGroynes_17 : decode cX7_areGroynes 17 = .ok (.iconst 1, 1) := by decide +kernel
theorem dX7_areGroynes_18 : decode cX7_areGroynes 18 = .ok (.iand, 1) := by decide +kernel
theorem dX7_areGroynes_19 : decode cX7_areGroynes 19 = .ok (.ifCond .eq 27, 3) := by decide +kernel
theorem dX7_areGroynes_22 : decode cX7_areGroynes 22 = .ok (.iload_n 3, 1) := by decide +kernel
theorem dX7_areGroynes_23 : decode cX7_areGroynes 23 = .ok (.bipush 13, 2) := by decide +kernel
theorem dX7_areGroynes_25 : decode cX7_areGroynes 25 = .ok (.if_icmp .ge 25, 3) := by decide +kernel
theorem dX7_areGroynes_28 : decode cX7_areGroynes 28 = .ok (.aload_n 0, 1) := by decide +kernel
theorem dX7_areGroynes_29 : decode cX7_areGroynes 29 = .ok (.iload_n 3, 1) := by decide +kernel
theorem dX7_areGroynes_30 : decode cX7_areGroynes 30 = .ok (.invokevirtual 120, 3) := by decide +kernel
theorem dX7_areGroynes_33 : decode cX7_areGroynes 33 = .ok (.ifCond .eq 17, 3) := by decide +kernel
theorem dX7_areGroynes_36 : decode cX7_areGroynes 36 = .ok (.aload_n 0, 1) := by decide +kernel
theorem dX7_areGroynes_37 : decode cX7_areGroynes 37 = .ok (.getfield 20, 3) := by decide +kernel
theorem dX7_areGroynes_40 : decode cX7_areGroynes 40 = .ok (.iload_n 3, 1) := by decide +kernel
theorem dX7_areGroynes_41 : decode cX7_areGroynes 41 = .ok (.iaload, 1) := by decide +kernel
theorem dX7_areGroynes_42 : decode cX7_areGroynes 42 = .ok (.iconst 1, 1) := by decide +kernel
theorem dX7_areGroynes_43 : decode cX7_areGroynes 43 = .ok (.if_icmp .ne 7, 3) := by decide +kernel
theorem dX7_areGroynes_46 : decode cX7_areGroynes 46 = .ok (.iconst 1, 1) := by decide +kernel
theorem dX7_areGroynes_47 : decode cX7_areGroynes 47 = .ok (.goto 4, 3) := by decide +kernel
theorem dX7_areGroynes_50 : decode cX7_areGroynes 50 = .ok (.iconst 0, 1) := by decide +kernel
theorem dX7_areGroynes_51 : decode cX7_areGroynes 51 = .ok (.istore_n 2, 1) := by decide +kernel
theorem dX7_areGroynes_52 : decode cX7_areGroynes 52 = .ok (.iinc 3 1, 3) := by decide +kernel
theorem dX7_areGroynes_55 : decode cX7_areGroynes 55 = .ok (.goto (-51), 3) := by decide +kernel
theorem dX7_areGroynes_58 : decode cX7_areGroynes 58 = .ok (.iload_n 2, 1) := by decide +kernel
theorem dX7_areGroynes_59 : decode cX7_areGroynes 59 = .ok (.ireturn, 1) := by decide +kernel
set_option maxRecDepth 20000 in
theorem ggX7_lineWithout_X7_runs : GoodIn wsX7_lineWithout wsX7_runs := goodIn_r _ [7, 8, 9, 10, 11, 12, 6, 13, 2, 14, 15, 16, 17, 18, 19, 20, 21, 22, 23, 24, 25, 26, 27, 28, 29, 30, 31, 32, 33, 34, 35, 36, 37, 38, 39, 40, 41, 42, 43, 44, 45, 46, 47, 48, 49, 50, 51, 52, 53, 54, 55, 56, 57, 58, 59, 60, 61, 62, 63, 64, 65, 66, 67, 68, 69, 70, 71, 72, 73, 74, 75, 76, 77, 78, 79, 80, 81, 82, 83, 84, 85, 86, 87, 88, 89, 90, 91, 92, 93, 94, 95, 96, 97, 98] (by decide +kernel) (by decide +kernel)
set_option maxRecDepth 20000 in
theorem gX7_lineWithout_X7_runs : GoodIn wsX7_lineWithout (wsV RX7 159 RX7 yX7_runs wsX7_runs) := goodIn_app (goodIn_of _ (by decide +kernel)) ggX7_lineWithout_X7_runs
theorem dX7_lineWithout_0 : decode cX7_lineWithout 0 = .ok (.aload_n 0, 1) := by decide +kernel
theorem dX7_lineWithout_1 : decode cX7_lineWithout 1 = .ok (.aload_n 0, 1) := by decide +kernel
theorem dX7_lineWithout_2 : decode cX7_lineWithout 2 = .ok (.getfield 117, 3) := by decide +kernel
theorem dX7_lineWithout_5 : decode cX7_lineWithout 5 = .ok (.iload_n 1, 1) := by decide +kernel
theorem dX7_lineWithout_6 : decode cX7_lineWithout 6 = .ok (.invokevirtual 159, 3) := by decide +kernel
theorem dX7_lineWithout_9 : decode cX7_lineWithout 9 = .ok (.aload_n 0, 1) := by decide +kernel
theorem dX7_lineWithout_10 : decode cX7_lineWithout 10 = .ok (.getfield 56, 3) := by decide +kernel
theorem dX7_lineWithout_13 : decode cX7_lineWithout 13 = .ok (.iload_n 2, 1) := by decide +kernel
theorem dX7_lineWithout_14 : decode cX7_lineWithout 14 = .ok (.iaload, 1) := by decide +kernel
theorem dX7_lineWithout_15 : decode cX7_lineWithout 15 = .ok (.bipush 10, 2) := by decide +kernel
theorem dX7_lineWithout_17 : decode cX7_lineWithout 17 = .ok (.idiv, 1) := by decide +kernel
theorem dX7_lineWithout_18 : decode cX7_lineWithout 18 = .ok (.ireturn, 1) := by decide +kernel
set_option maxRecDepth 20000 in
theorem ggX7_without_X7_isField : GoodIn wsX7_without wsX7_isField := goodIn_r _ [6, 7, 8, 9, 5, 10, 82, 83, 84, 85, 86, 87, 88, 89, 90, 91, 92, 93, 94, 95, 96, 97, 98, 99, 100, 101, 102, 103, 104, 105, 106, 107, 108, 109, 110, 111, 112, 113, 114, 115, 116, 117, 118] (by decide +kernel) (by decide +kernel)
set_option maxRecDepth 20000 in
theorem gX7_without_X7_isField : GoodIn wsX7_without (wsV RX7 112 RX7 yX7_isField wsX7_isField) := goodIn_app (goodIn_of _ (by decide +kernel)) ggX7_without_X7_isField
set_option maxRecDepth 20000 in
theorem ggX7_without_X7_areGroynes : GoodIn wsX7_without wsX7_areGroynes := goodIn_r _ [14, 15, 16, 17, 18, 5, 19, 7, 8, 9, 10, 82, 83, 84, 85, 86, 87, 88, 89, 90, 91, 92, 93, 94, 95, 96, 97, 98, 99, 100, 101, 102, 103, 104, 105, 106, 107, 108, 109, 110, 111, 112, 113, 114, 115, 116, 117, 118] (by decide +kernel) (by decide +kernel)
set_option maxRecDepth 20000 in
theorem gX7_without_X7_areGroynes : GoodIn wsX7_without (wsV RX7 163 RX7 yX7_areGroynes wsX7_areGroynes) := goodIn_app (goodIn_of _ (by decide +kernel)) ggX7_without_X7_areGroynes
set_option maxRecDepth 20000 in
theorem ggX7_without_X7_lineWithout : GoodIn wsX7_without wsX7_lineWithout := goodIn_r _ [23, 24, 25, 26, 27, 28, 5, 29, 30, 31, 32, 33, 34, 35, 36, 37, 38, 39, 40, 41, 15, 42, 43, 44, 45, 46, 47, 48, 49, 50, 51, 52, 53, 54, 55, 56, 57, 58, 59, 60, 61, 7, 62, 63, 64, 65, 66, 67, 68, 69, 70, 71, 72, 73, 74, 75, 76, 77, 78, 79, 80, 81, 82, 83, 84, 85, 86, 87, 88, 89, 90, 91, 92, 93, 94, 95, 96, 97, 98, 99, 100, 101, 102, 103, 104, 105, 106, 107, 108, 109, 110, 111, 112, 113, 114, 115, 116, 117, 118] (by decide +kernel) (by decide +kernel)
set_option maxRecDepth 20000 in
theorem gX7_without_X7_lineWithout : GoodIn wsX7_without (wsV RX7 166 RX7 yX7_lineWithout wsX7_lineWithout) := goodIn_app (goodIn_of _ (by decide +kernel)) ggX7_without_X7_lineWithout
theorem dX7_without_0 : decode cX7_without 0 = .ok (.aload_n 0, 1) := by decide +kernel
theorem dX7_without_1 : decode cX7_without 1 = .ok (.iconst 0, 1) := by decide +kernel
theorem dX7_without_2 : decode cX7_without 2 = .ok (.putfield 1, 3) := by decide +kernel
theorem dX7_without_5 : decode cX7_without 5 = .ok (.aload_n 0, 1) := by decide +kernel
theorem dX7_without_6 : decode cX7_without 6 = .ok (.iload_n 2, 1) := by decide +kernel
theorem dX7_without_7 : decode cX7_without 7 = .ok (.invokevirtual 112, 3) := by decide +kernel
theorem dX7_without_10 : decode cX7_without 10 = .ok (.ifCond .eq 11, 3) := by decide +kernel
theorem dX7_without_13 : decode cX7_without 13 = .ok (.aload_n 0, 1) := by decide +kernel
theorem dX7_without_14 : decode cX7_without 14 = .ok (.iload_n 1, 1) := by decide +kernel
theorem dX7_without_15 : decode cX7_without 15 = .ok (.invokevirtual 163, 3) := by decide +kernel
theorem dX7_without_18 : decode cX7_without 18 = .ok (.ifCond .ne 7, 3) := by decide +kernel
theorem dX7_without_21 : decode cX7_without 21 = .ok (.iconst (-1), 1) := by decide +kernel
theorem dX7_without_22 : decode cX7_without 22 = .ok (.goto 9, 3) := by decide +kernel
theorem dX7_without_25 : decode cX7_without 25 = .ok (.aload_n 0, 1) := by decide +kernel
theorem dX7_without_26 : decode cX7_without 26 = .ok (.iload_n 1, 1) := by decide +kernel
theorem dX7_without_27 : decode cX7_without 27 = .ok (.iload_n 2, 1) := by decide +kernel
theorem dX7_without_28 : decode cX7_without 28 = .ok (.invokevirtual 166, 3) := by decide +kernel
theorem dX7_without_31 : decode cX7_without 31 = .ok (.ireturn, 1) := by decide +kernel
theorem dX7_bits_0 : decode cX7_bits 0 = .ok (.iconst 0, 1) := by decide +kernel
theorem dX7_bits_1 : decode cX7_bits 1 = .ok (.istore_n 1, 1) := by decide +kernel
theorem dX7_bits_2 : decode cX7_bits 2 = .ok (.iconst 0, 1) := by decide +kernel
theorem dX7_bits_3 : decode cX7_bits 3 = .ok (.istore_n 2, 1) := by decide +kernel
theorem dX7_bits_4 : decode cX7_bits 4 = .ok (.iload_n 2, 1) := by decide +kernel
theorem dX7_bits_5 : decode cX7_bits 5 = .ok (.bipush 13, 2) := by decide +kernel
theorem dX7_bits_7 : decode cX7_bits 7 = .ok (.if_icmp .ge 17, 3) := by decide +kernel
theorem dX7_bits_10 : decode cX7_bits 10 = .ok (.iload_n 1, 1) := by decide +kernel
theorem dX7_bits_11 : decode cX7_bits 11 = .ok (.iload_n 0, 1) := by decide +kernel
theorem dX7_bits_12 : decode cX7_bits 12 = .ok (.iload_n 2, 1) := by decide +kernel
theorem dX7_bits_13 : decode cX7_bits 13 = .ok (.ishr, 1) := by decide +kernel
theorem dX7_bits_14 : decode cX7_bits 14 = .ok (.iconst 1, 1) := by decide +kernel
theorem dX7_bits_15 : decode cX7_bits 15 = .ok (.iand, 1) := by decide +kernel
theorem dX7_bits_16 : decode cX7_bits 16 = .ok (.iadd, 1) := by decide +kernel
theorem dX7_bits_17 : decode cX7_bits 17 = .ok (.istore_n 1, 1) := by decide +kernel
theorem dX7_bits_18 : decode cX7_bits 18 = .ok (.iinc 2 1, 3) := by decide +kernel
theorem dX7_bits_21 : decode cX7_bits 21 = .ok (.goto (-17), 3) := by decide +kernel
theorem dX7_bits_24 : decode cX7_bits 24 = .ok (.iload_n 1, 1) := by decide +kernel
theorem dX7_bits_25 : decode cX7_bits 25 = .ok (.ireturn, 1) := by decide +kernel
theorem dX7_orders_0 : decode cX7_orders 0 = .ok (.iconst 1, 1) := by decide +kernel
theorem dX7_orders_1 : decode cX7_orders 1 = .ok (.istore_n 1, 1) := by decide +kernel
theorem dX7_orders_2 : decode cX7_orders 2 = .ok (.iconst 2, 1) := by decide +kernel
theorem dX7_orders_3 : decode cX7_orders 3 = .ok (.istore_n 2, 1) := by decide +kernel
theorem dX7_orders_4 : decode cX7_orders 4 = .ok (.iload_n 2, 1) := by decide +kernel
theorem dX7_orders_5 : decode cX7_orders 5 = .ok (.iload_n 0, 1) := by decide +kernel
theorem dX7_orders_6 : decode cX7_orders 6 = .ok (.if_icmp .gt 13, 3) := by decide +kernel
theorem dX7_orders_9 : decode cX7_orders 9 = .ok (.iload_n 1, 1) := by decide +kernel
theorem dX7_orders_10 : decode cX7_orders 10 = .ok (.iload_n 2, 1) := by decide +kernel
theorem dX7_orders_11 : decode cX7_orders 11 = .ok (.imul, 1) := by decide +kernel
theorem dX7_orders_12 : decode cX7_orders 12 = .ok (.istore_n 1, 1) := by decide +kernel
theorem dX7_orders_13 : decode cX7_orders 13 = .ok (.iinc 2 1, 3) := by decide +kernel
theorem dX7_orders_16 : decode cX7_orders 16 = .ok (.goto (-12), 3) := by decide +kernel
theorem dX7_orders_19 : decode cX7_orders 19 = .ok (.iload_n 1, 1) := by decide +kernel
theorem dX7_orders_20 : decode cX7_orders 20 = .ok (.ireturn, 1) := by decide +kernel
set_option maxRecDepth 20000 in
theorem ggX7_share_X7_isField : GoodIn wsX7_share wsX7_isField := goodIn_r _ [6, 7, 8, 9, 5, 10, 88, 89, 90, 91, 92, 93, 94, 95, 96, 97, 98, 99, 100, 101, 102, 103, 104, 105, 106, 107, 108, 109, 110, 111, 112, 113, 114, 115, 116, 117, 118, 119, 120, 121, 122, 123, 124] (by decide +kernel) (by decide +kernel)
set_option maxRecDepth 20000 in
theorem gX7_share_X7_isField : GoodIn wsX7_share (wsV RX7 112 RX7 yX7_isField wsX7_isField) := goodIn_app (goodIn_of _ (by decide +kernel)) ggX7_share_X7_isField
set_option maxRecDepth 20000 in
theorem ggX7_share_X7_areGroynes : GoodIn wsX7_share wsX7_areGroynes := goodIn_r _ [14, 15, 16, 17, 18, 5, 19, 7, 8, 9, 10, 88, 89, 90, 91, 92, 93, 94, 95, 96, 97, 98, 99, 100, 101, 102, 103, 104, 105, 106, 107, 108, 109, 110, 111, 112, 113, 114, 115, 116, 117, 118, 119, 120, 121, 122, 123, 124] (by decide +kernel) (by decide +kernel)
set_option maxRecDepth 20000 in
theorem gX7_share_X7_areGroynes : GoodIn wsX7_share (wsV RX7 163 RX7 yX7_areGroynes wsX7_areGroynes) := goodIn_app (goodIn_of _ (by decide +kernel)) ggX7_share_X7_areGroynes
set_option maxRecDepth 20000 in
theorem ggX7_share_X7_bits : GoodIn wsX7_share wsX7_bits := goodIn_r _ [22] (by decide +kernel) (by decide +kernel)
set_option maxRecDepth 20000 in
theorem gX7_share_X7_bits : GoodIn wsX7_share (va_wsS RX7 169 yX7_bits wsX7_bits) := goodIn_app (goodIn_of _ (by decide +kernel)) ggX7_share_X7_bits
set_option maxRecDepth 20000 in
theorem ggX7_share_X7_isInner : GoodIn wsX7_share wsX7_isInner := goodIn_r _ [19, 7, 8, 9, 5, 10, 88, 89, 90, 91, 92, 93, 94, 95, 96, 97, 98, 99, 100, 101, 102, 103, 104, 105, 106, 107, 108, 109, 110, 111, 112, 113, 114, 115, 116, 117, 118, 119, 120, 121, 122, 123, 124] (by decide +kernel) (by decide +kernel)
set_option maxRecDepth 20000 in
theorem gX7_share_X7_isInner : GoodIn wsX7_share (wsV RX7 120 RX7 yX7_isInner wsX7_isInner) := goodIn_app (goodIn_of _ (by decide +kernel)) ggX7_share_X7_isInner
set_option maxRecDepth 20000 in
theorem ggX7_share_X7_orders : GoodIn wsX7_share wsX7_orders := goodIn_r _ [25] (by decide +kernel) (by decide +kernel)
set_option maxRecDepth 20000 in
theorem gX7_share_X7_orders : GoodIn wsX7_share (va_wsS RX7 172 yX7_orders wsX7_orders) := goodIn_app (goodIn_of _ (by decide +kernel)) ggX7_share_X7_orders
set_option maxRecDepth 20000 in
theorem ggX7_share_X7_lineWithout : GoodIn wsX7_share wsX7_lineWithout := goodIn_r _ [29, 30, 31, 32, 33, 34, 5, 35, 36, 37, 38, 39, 40, 41, 42, 43, 44, 45, 46, 47, 15, 48, 49, 50, 51, 52, 53, 54, 55, 56, 57, 58, 59, 60, 61, 62, 63, 64, 65, 66, 67, 7, 68, 69, 70, 71, 72, 73, 74, 75, 76, 77, 78, 79, 80, 81, 82, 83, 84, 85, 86, 87, 88, 89, 90, 91, 92, 93, 94, 95, 96, 97, 98, 99, 100, 101, 102, 103, 104, 105, 106, 107, 108, 109, 110, 111, 112, 113, 114, 115, 116, 117, 118, 119, 120, 121, 122, 123, 124] (by decide +kernel) (by decide +kernel)
set_option maxRecDepth 20000 in
theorem gX7_share_X7_lineWithout : GoodIn wsX7_share (wsV RX7 166 RX7 yX7_lineWithout wsX7_lineWithout) := goodIn_app (goodIn_of _ (by decide +kernel)) ggX7_share_X7_lineWithout
theorem dX7_share_0 : decode cX7_share 0 = .ok (.aload_n 0, 1) := by decide +kernel
theorem dX7_share_1 : decode cX7_share 1 = .ok (.iload_n 3, 1) := by decide +kernel
theorem dX7_share_2 : decode cX7_share 2 = .ok (.invokevirtual 112, 3) := by decide +kernel
theorem dX7_share_5 : decode cX7_share 5 = .ok (.ifCond .eq 40, 3) := by decide +kernel
theorem dX7_share_8 : decode cX7_share 8 = .ok (.aload_n 0, 1) := by decide +kernel
theorem dX7_share_9 : decode cX7_share 9 = .ok (.iload_n 2, 1) := by decide +kernel
theorem dX7_share_10 : decode cX7_share 10 = .ok (.invokevirtual 163, 3) := by decide +kernel
theorem dX7_share_13 : decode cX7_share 13 = .ok (.ifCond .eq 32, 3) := by decide +kernel
theorem dX7_share_16 : decode cX7_share 16 = .ok (.iload_n 2, 1) := by decide +kernel
theorem dX7_share_17 : decode cX7_share 17 = .ok (.invokestatic 169, 3) := by decide +kernel
theorem dX7_share_20 : decode cX7_share 20 = .ok (.iconst 4, 1) := by decide +kernel
theorem dX7_share_21 : decode cX7_share 21 = .ok (.if_icmp .gt 24, 3) := by decide +kernel
theorem dX7_share_24 : decode cX7_share 24 = .ok (.aload_n 0, 1) := by decide +kernel
theorem dX7_share_25 : decode cX7_share 25 = .ok (.iload_n 1, 1) := by decide +kernel
theorem dX7_share_26 : decode cX7_share 26 = .ok (.invokevirtual 120, 3) := by decide +kernel
theorem dX7_share_29 : decode cX7_share 29 = .ok (.ifCond .eq 16, 3) := by decide +kernel
theorem dX7_share_32 : decode cX7_share 32 = .ok (.iload_n 2, 1) := by decide +kernel
theorem dX7_share_33 : decode cX7_share 33 = .ok (.iload_n 1, 1) := by decide +kernel
theorem dX7_share_34 : decode cX7_share 34 = .ok (.ishr, 1) := by decide +kernel
theorem dX7_share_35 : decode cX7_share 35 = .ok (.iconst 1, 1) := by decide +kernel
theorem dX7_share_36 : decode cX7_share 36 = .ok (.iand, 1) := by decide +kernel
theorem dX7_share_37 : decode cX7_share 37 = .ok (.iconst 1, 1) := by decide +kernel
theorem dX7_share_38 : decode cX7_share 38 = .ok (.if_icmp .ne 7, 3) := by decide +kernel
theorem dX7_share_41 : decode cX7_share 41 = .ok (.iconst 1, 1) := by decide +kernel
theorem dX7_share_42 : decode cX7_share 42 = .ok (.goto 4, 3) := by decide +kernel
theorem dX7_share_45 : decode cX7_share 45 = .ok (.iconst 0, 1) := by decide +kernel
theorem dX7_share_46 : decode cX7_share 46 = .ok (.istore 4, 2) := by decide +kernel
theorem dX7_share_48 : decode cX7_share 48 = .ok (.aload_n 0, 1) := by decide +kernel
theorem dX7_share_49 : decode cX7_share 49 = .ok (.iload 4, 2) := by decide +kernel
theorem dX7_share_51 : decode cX7_share 51 = .ok (.ifCond .eq 7, 3) := by decide +kernel
theorem dX7_share_54 : decode cX7_share 54 = .ok (.iconst 0, 1) := by decide +kernel
theorem dX7_share_55 : decode cX7_share 55 = .ok (.goto 4, 3) := by decide +kernel
theorem dX7_share_58 : decode cX7_share 58 = .ok (.iconst 1, 1) := by decide +kernel
theorem dX7_share_59 : decode cX7_share 59 = .ok (.putfield 1, 3) := by decide +kernel
theorem dX7_share_62 : decode cX7_share 62 = .ok (.aload_n 0, 1) := by decide +kernel
theorem dX7_share_63 : decode cX7_share 63 = .ok (.getfield 1, 3) := by decide +kernel
theorem dX7_share_66 : decode cX7_share 66 = .ok (.ifCond .le 5, 3) := by decide +kernel
theorem dX7_share_69 : decode cX7_share 69 = .ok (.iconst 0, 1) := by decide +kernel
theorem dX7_share_70 : decode cX7_share 70 = .ok (.ireturn, 1) := by decide +kernel
theorem dX7_share_71 : decode cX7_share 71 = .ok (.iconst 0, 1) := by decide +kernel
theorem dX7_share_72 : decode cX7_share 72 = .ok (.istore 5, 2) := by decide +kernel
theorem dX7_share_74 : decode cX7_share 74 = .ok (.iload_n 2, 1) := by decide +kernel
theorem dX7_share_75 : decode cX7_share 75 = .ok (.invokestatic 169, 3) := by decide +kernel
theorem dX7_share_78 : decode cX7_share 78 = .ok (.istore 6, 2) := by decide +kernel
theorem dX7_share_80 : decode cX7_share 80 = .ok (.iconst 0, 1) := by decide +kernel
theorem dX7_share_81 : decode cX7_share 81 = .ok (.istore 7, 2) := by decide +kernel
theorem dX7_share_83 : decode cX7_share 83 = .ok (.iload 7, 2) := by decide +kernel
theorem dX7_share_85 : decode cX7_share 85 = .ok (.sipush 8192, 3) := by decide +kernel
theorem dX7_share_88 : decode cX7_share 88 = .ok (.if_icmp .ge 75, 3) := by decide +kernel
theorem dX7_share_91 : decode cX7_share 91 = .ok (.iload 7, 2) := by decide +kernel
theorem dX7_share_93 : decode cX7_share 93 = .ok (.iload_n 2, 1) := by decide +kernel
theorem dX7_share_94 : decode cX7_share 94 = .ok (.iconst (-1), 1) := by decide +kernel
theorem dX7_share_95 : decode cX7_share 95 = .ok (.ixor, 1) := by decide +kernel
theorem dX7_share_96 : decode cX7_share 96 = .ok (.iand, 1) := by decide +kernel
theorem dX7_share_97 : decode cX7_share 97 = .ok (.ifCond .ne 60, 3) := by decide +kernel
theorem dX7_share_100 : decode cX7_share 100 = .ok (.iload 7, 2) := by decide +kernel
theorem dX7_share_102 : decode cX7_share 102 = .ok (.iload_n 1, 1) := by decide +kernel
theorem dX7_share_103 : decode cX7_share 103 = .ok (.ishr, 1) := by decide +kernel
theorem dX7_share_104 : decode cX7_share 104 = .ok (.iconst 1, 1) := by decide +kernel
theorem dX7_share_105 : decode cX7_share 105 = .ok (.iand, 1) := by decide +kernel
theorem dX7_share_106 : decode cX7_share 106 = .ok (.ifCond .ne 51, 3) := by decide +kernel
theorem dX7_share_109 : decode cX7_share 109 = .ok (.iload 7, 2) := by decide +kernel
theorem dX7_share_111 : decode cX7_share 111 = .ok (.invokestatic 169, 3) := by decide +kernel
theorem dX7_share_114 : decode cX7_share 114 = .ok (.istore 8, 2) := by decide +kernel
theorem dX7_share_116 : decode cX7_share 116 = .ok (.iload 5, 2) := by decide +kernel
theorem dX7_share_118 : decode cX7_share 118 = .ok (.iload 8, 2) := by decide +kernel
theorem dX7_share_120 : decode cX7_share 120 = .ok (.invokestatic 172, 3) := by decide +kernel
theorem dX7_share_123 : decode cX7_share 123 = .ok (.iload 6, 2) := by decide +kernel
theorem dX7_share_125 : decode cX7_share 125 = .ok (.iconst 1, 1) := by decide +kernel
theorem dX7_share_126 : decode cX7_share 126 = .ok (.isub, 1) := by decide +kernel
theorem dX7_share_127 : decode cX7_share 127 = .ok (.iload 8, 2) := by decide +kernel
theorem dX7_share_129 : decode cX7_share 129 = .ok (.isub, 1) := by decide +kernel
theorem dX7_share_130 : decode cX7_share 130 = .ok (.invokestatic 172, 3) := by decide +kernel
theorem dX7_share_133 : decode cX7_share 133 = .ok (.imul, 1) := by decide +kernel
theorem dX7_share_134 : decode cX7_share 134 = .ok (.aload_n 0, 1) := by decide +kernel
theorem dX7_share_135 : decode cX7_share 135 = .ok (.iload 7, 2) := by decide +kernel
theorem dX7_share_137 : decode cX7_share 137 = .ok (.iconst 1, 1) := by decide +kernel
theorem dX7_share_138 : decode cX7_share 138 = .ok (.iload_n 1, 1) := by decide +kernel
theorem dX7_share_139 : decode cX7_share 139 = .ok (.ishl, 1) := by decide +kernel
theorem dX7_share_140 : decode cX7_share 140 = .ok (.ior, 1) := by decide +kernel
theorem dX7_share_141 : decode cX7_share 141 = .ok (.iload_n 3, 1) := by decide +kernel
theorem dX7_share_142 : decode cX7_share 142 = .ok (.invokevirtual 166, 3) := by decide +kernel
theorem dX7_share_145 : decode cX7_share 145 = .ok (.aload_n 0, 1) := by decide +kernel
theorem dX7_share_146 : decode cX7_share 146 = .ok (.iload 7, 2) := by decide +kernel
theorem dX7_share_148 : decode cX7_share 148 = .ok (.iload_n 3, 1) := by decide +kernel
theorem dX7_share_149 : decode cX7_share 149 = .ok (.invokevirtual 166, 3) := by decide +kernel
theorem dX7_share_152 : decode cX7_share 152 = .ok (.isub, 1) := by decide +kernel
theorem dX7_share_153 : decode cX7_share 153 = .ok (.imul, 1) := by decide +kernel
theorem dX7_share_154 : decode cX7_share 154 = .ok (.iadd, 1) := by decide +kernel
theorem dX7_share_155 : decode cX7_share 155 = .ok (.istore 5, 2) := by decide +kernel
theorem dX7_share_157 : decode cX7_share 157 = .ok (.iinc 7 1, 3) := by decide +kernel
theorem dX7_share_160 : decode cX7_share 160 = .ok (.goto (-77), 3) := by decide +kernel
theorem dX7_share_163 : decode cX7_share 163 = .ok (.iload 5, 2) := by decide +kernel
theorem dX7_share_165 : decode cX7_share 165 = .ok (.ireturn, 1) := by decide +kernel
set_option maxRecDepth 20000 in
theorem ggX7_work_X7_isField : GoodIn wsX7_work wsX7_isField := goodIn_r _ [13, 14, 15, 16, 12, 17, 22, 23, 24, 25, 26, 27, 28, 29, 30, 31, 32, 33, 34, 35, 36, 37, 38, 39, 40, 41, 42, 43, 44, 45, 46, 47, 48, 49, 50, 51, 52, 53, 54, 55, 56, 57, 58] (by decide +kernel) (by decide +kernel)
set_option maxRecDepth 20000 in
theorem gX7_work_X7_isField : GoodIn wsX7_work (wsV RX7 112 RX7 yX7_isField wsX7_isField) := goodIn_app (goodIn_of _ (by decide +kernel)) ggX7_work_X7_isField
set_option maxRecDepth 20000 in
theorem ggX7_work_X7_within : GoodIn wsX7_work wsX7_within := goodIn_r _ [17] (by decide +kernel) (by decide +kernel)
set_option maxRecDepth 20000 in
theorem gX7_work_X7_within : GoodIn wsX7_work (va_wsS RX7 104 yX7_within wsX7_within) := goodIn_app (goodIn_of _ (by decide +kernel)) ggX7_work_X7_within
set_option maxRecDepth 20000 in
theorem ggX7_work_X7_isInner : GoodIn wsX7_work wsX7_isInner := goodIn_r _ [21, 14, 15, 16, 12, 17, 22, 23, 24, 25, 26, 27, 28, 29, 30, 31, 32, 33, 34, 35, 36, 37, 38, 39, 40, 41, 42, 43, 44, 45, 46, 47, 48, 49, 50, 51, 52, 53, 54, 55, 56, 57, 58] (by decide +kernel) (by decide +kernel)
set_option maxRecDepth 20000 in
theorem gX7_work_X7_isInner : GoodIn wsX7_work (wsV RX7 120 RX7 yX7_isInner wsX7_isInner) := goodIn_app (goodIn_of _ (by decide +kernel)) ggX7_work_X7_isInner
theorem dX7_work_0 : decode cX7_work 0 = .ok (.aload_n 0, 1) := by decide +kernel
theorem dX7_work_1 : decode cX7_work 1 = .ok (.iconst 0, 1) := by decide +kernel
theorem dX7_work_2 : decode cX7_work 2 = .ok (.putfield 1, 3) := by decide +kernel
theorem dX7_work_5 : decode cX7_work 5 = .ok (.iload_n 1, 1) := by decide +kernel
theorem dX7_work_6 : decode cX7_work 6 = .ok (.ifCond .ne 22, 3) := by decide +kernel
theorem dX7_work_9 : decode cX7_work 9 = .ok (.aload_n 0, 1) := by decide +kernel
theorem dX7_work_10 : decode cX7_work 10 = .ok (.iload_n 2, 1) := by decide +kernel
theorem dX7_work_11 : decode cX7_work 11 = .ok (.invokevirtual 112, 3) := by decide +kernel
theorem dX7_work_14 : decode cX7_work 14 = .ok (.ifCond .eq 14, 3) := by decide +kernel
theorem dX7_work_17 : decode cX7_work 17 = .ok (.iload_n 3, 1) := by decide +kernel
theorem dX7_work_18 : decode cX7_work 18 = .ok (.iconst 1, 1) := by decide +kernel
theorem dX7_work_19 : decode cX7_work 19 = .ok (.sipush 9999, 3) := by decide +kernel
theorem dX7_work_22 : decode cX7_work 22 = .ok (.invokestatic 104, 3) := by decide +kernel
theorem dX7_work_25 : decode cX7_work 25 = .ok (.ifCond .ne 37, 3) := by decide +kernel
theorem dX7_work_28 : decode cX7_work 28 = .ok (.iload_n 1, 1) := by decide +kernel
theorem dX7_work_29 : decode cX7_work 29 = .ok (.iconst 1, 1) := by decide +kernel
theorem dX7_work_30 : decode cX7_work 30 = .ok (.if_icmp .ne 36, 3) := by decide +kernel
theorem dX7_work_33 : decode cX7_work 33 = .ok (.aload_n 0, 1) := by decide +kernel
theorem dX7_work_34 : decode cX7_work 34 = .ok (.iload_n 2, 1) := by decide +kernel
theorem dX7_work_35 : decode cX7_work 35 = .ok (.invokevirtual 120, 3) := by decide +kernel
theorem dX7_work_38 : decode cX7_work 38 = .ok (.ifCond .eq 28, 3) := by decide +kernel
theorem dX7_work_41 : decode cX7_work 41 = .ok (.aload_n 0, 1) := by decide +kernel
theorem dX7_work_42 : decode cX7_work 42 = .ok (.getfield 20, 3) := by decide +kernel
theorem dX7_work_45 : decode cX7_work 45 = .ok (.iload_n 2, 1) := by decide +kernel
theorem dX7_work_46 : decode cX7_work 46 = .ok (.iaload, 1) := by decide +kernel
theorem dX7_work_47 : decode cX7_work 47 = .ok (.iconst 1, 1) := by decide +kernel
theorem dX7_work_48 : decode cX7_work 48 = .ok (.if_icmp .ne 18, 3) := by decide +kernel
theorem dX7_work_51 : decode cX7_work 51 = .ok (.iload_n 3, 1) := by decide +kernel
theorem dX7_work_52 : decode cX7_work 52 = .ok (.iconst 1, 1) := by decide +kernel
theorem dX7_work_53 : decode cX7_work 53 = .ok (.sipush 999, 3) := by decide +kernel
theorem dX7_work_56 : decode cX7_work 56 = .ok (.invokestatic 104, 3) := by decide +kernel
theorem dX7_work_59 : decode cX7_work 59 = .ok (.ifCond .eq 7, 3) := by decide +kernel
theorem dX7_work_62 : decode cX7_work 62 = .ok (.iconst 1, 1) := by decide +kernel
theorem dX7_work_63 : decode cX7_work 63 = .ok (.goto 4, 3) := by decide +kernel
theorem dX7_work_66 : decode cX7_work 66 = .ok (.iconst 0, 1) := by decide +kernel
theorem dX7_work_67 : decode cX7_work 67 = .ok (.istore 5, 2) := by decide +kernel
theorem dX7_work_69 : decode cX7_work 69 = .ok (.iload 5, 2) := by decide +kernel
theorem dX7_work_71 : decode cX7_work 71 = .ok (.ifCond .eq 24, 3) := by decide +kernel
theorem dX7_work_74 : decode cX7_work 74 = .ok (.iload 4, 2) := by decide +kernel
theorem dX7_work_76 : decode cX7_work 76 = .ok (.iconst 1, 1) := by decide +kernel
theorem dX7_work_77 : decode cX7_work 77 = .ok (.sipush 999, 3) := by decide +kernel
theorem dX7_work_80 : decode cX7_work 80 = .ok (.invokestatic 104, 3) := by decide +kernel
theorem dX7_work_83 : decode cX7_work 83 = .ok (.ifCond .eq 12, 3) := by decide +kernel
theorem dX7_work_86 : decode cX7_work 86 = .ok (.aload_n 0, 1) := by decide +kernel
theorem dX7_work_87 : decode cX7_work 87 = .ok (.getfield 175, 3) := by decide +kernel
theorem dX7_work_90 : decode cX7_work 90 = .ok (.bipush 6, 2) := by decide +kernel
theorem dX7_work_92 : decode cX7_work 92 = .ok (.if_icmp .ne 5, 3) := by decide +kernel
theorem dX7_work_95 : decode cX7_work 95 = .ok (.iconst (-1), 1) := by decide +kernel
theorem dX7_work_96 : decode cX7_work 96 = .ok (.ireturn, 1) := by decide +kernel
theorem dX7_work_97 : decode cX7_work 97 = .ok (.aload_n 0, 1) := by decide +kernel
theorem dX7_work_98 : decode cX7_work 98 = .ok (.getfield 77, 3) := by decide +kernel
theorem dX7_work_101 : decode cX7_work 101 = .ok (.aload_n 0, 1) := by decide +kernel
theorem dX7_work_102 : decode cX7_work 102 = .ok (.getfield 175, 3) := by decide +kernel
theorem dX7_work_105 : decode cX7_work 105 = .ok (.iload_n 1, 1) := by decide +kernel
theorem dX7_work_106 : decode cX7_work 106 = .ok (.iastore, 1) := by decide +kernel
theorem dX7_work_107 : decode cX7_work 107 = .ok (.aload_n 0, 1) := by decide +kernel
theorem dX7_work_108 : decode cX7_work 108 = .ok (.getfield 80, 3) := by decide +kernel
theorem dX7_work_111 : decode cX7_work 111 = .ok (.aload_n 0, 1) := by decide +kernel
theorem dX7_work_112 : decode cX7_work 112 = .ok (.getfield 175, 3) := by decide +kernel
theorem dX7_work_115 : decode cX7_work 115 = .ok (.iload_n 2, 1) := by decide +kernel
theorem dX7_work_116 : decode cX7_work 116 = .ok (.iastore, 1) := by decide +kernel
theorem dX7_work_117 : decode cX7_work 117 = .ok (.aload_n 0, 1) := by decide +kernel
theorem dX7_work_118 : decode cX7_work 118 = .ok (.getfield 83, 3) := by decide +kernel
theorem dX7_work_121 : decode cX7_work 121 = .ok (.aload_n 0, 1) := by decide +kernel
theorem dX7_work_122 : decode cX7_work 122 = .ok (.getfield 175, 3) := by decide +kernel
theorem dX7_work_125 : decode cX7_work 125 = .ok (.iload_n 3, 1) := by decide +kernel
theorem dX7_work_126 : decode cX7_work 126 = .ok (.iastore, 1) := by decide +kernel
theorem dX7_work_127 : decode cX7_work 127 = .ok (.aload_n 0, 1) := by decide +kernel
theorem dX7_work_128 : decode cX7_work 128 = .ok (.getfield 86, 3) := by decide +kernel
theorem dX7_work_131 : decode cX7_work 131 = .ok (.aload_n 0, 1) := by decide +kernel
theorem dX7_work_132 : decode cX7_work 132 = .ok (.getfield 175, 3) := by decide +kernel
theorem dX7_work_135 : decode cX7_work 135 = .ok (.iload 4, 2) := by decide +kernel
theorem dX7_work_137 : decode cX7_work 137 = .ok (.iastore, 1) := by decide +kernel
theorem dX7_work_138 : decode cX7_work 138 = .ok (.aload_n 0, 1) := by decide +kernel
theorem dX7_work_139 : decode cX7_work 139 = .ok (.dup, 1) := by decide +kernel
theorem dX7_work_140 : decode cX7_work 140 = .ok (.getfield 175, 3) := by decide +kernel
theorem dX7_work_143 : decode cX7_work 143 = .ok (.iconst 1, 1) := by decide +kernel
theorem dX7_work_144 : decode cX7_work 144 = .ok (.iadd, 1) := by decide +kernel
theorem dX7_work_145 : decode cX7_work 145 = .ok (.putfield 175, 3) := by decide +kernel
theorem dX7_work_148 : decode cX7_work 148 = .ok (.aload_n 0, 1) := by decide +kernel
theorem dX7_work_149 : decode cX7_work 149 = .ok (.iconst 1, 1) := by decide +kernel
theorem dX7_work_150 : decode cX7_work 150 = .ok (.putfield 108, 3) := by decide +kernel
theorem dX7_work_153 : decode cX7_work 153 = .ok (.aload_n 0, 1) := by decide +kernel
theorem dX7_work_154 : decode cX7_work 154 = .ok (.getfield 175, 3) := by decide +kernel
theorem dX7_work_157 : decode cX7_work 157 = .ok (.iconst 1, 1) := by decide +kernel
theorem dX7_work_158 : decode cX7_work 158 = .ok (.isub, 1) := by decide +kernel
theorem dX7_work_159 : decode cX7_work 159 = .ok (.ireturn, 1) := by decide +kernel
set_option maxRecDepth 20000 in
theorem ggX7_mark_X7_isField : GoodIn wsX7_mark wsX7_isField := goodIn_r _ [8, 9, 10, 11, 7, 12, 13, 14, 15, 16, 17, 18, 19, 20, 21, 22, 23, 24, 25, 26, 27, 28, 29, 30, 31, 32, 33, 34, 35, 36, 37, 38, 39, 40, 41, 42, 43, 44, 45, 46, 47, 48, 49] (by decide +kernel) (by decide +kernel)
set_option maxRecDepth 20000 in
theorem gX7_mark_X7_isField : GoodIn wsX7_mark (wsV RX7 112 RX7 yX7_isField wsX7_isField) := goodIn_app (goodIn_of _ (by decide +kernel)) ggX7_mark_X7_isField
set_option maxRecDepth 20000 in
theorem ggX7_mark_X7_within : GoodIn wsX7_mark wsX7_within := goodIn_r _ [12] (by decide +kernel) (by decide +kernel)
set_option maxRecDepth 20000 in
theorem gX7_mark_X7_within : GoodIn wsX7_mark (va_wsS RX7 104 yX7_within wsX7_within) := goodIn_app (goodIn_of _ (by decide +kernel)) ggX7_mark_X7_within
theorem dX7_mark_0 : decode cX7_mark 0 = .ok (.aload_n 0, 1) := by decide +kernel
theorem dX7_mark_1 : decode cX7_mark 1 = .ok (.iconst 0, 1) := by decide +kernel
theorem dX7_mark_2 : decode cX7_mark 2 = .ok (.putfield 1, 3) := by decide +kernel
theorem dX7_mark_5 : decode cX7_mark 5 = .ok (.aload_n 0, 1) := by decide +kernel
theorem dX7_mark_6 : decode cX7_mark 6 = .ok (.iload_n 1, 1) := by decide +kernel
theorem dX7_mark_7 : decode cX7_mark 7 = .ok (.invokevirtual 112, 3) := by decide +kernel
theorem dX7_mark_10 : decode cX7_mark 10 = .ok (.ifCond .eq 14, 3) := by decide +kernel
theorem dX7_mark_13 : decode cX7_mark 13 = .ok (.iload_n 2, 1) := by decide +kernel
theorem dX7_mark_14 : decode cX7_mark 14 = .ok (.iconst 0, 1) := by decide +kernel
theorem dX7_mark_15 : decode cX7_mark 15 = .ok (.sipush 9999, 3) := by decide +kernel
theorem dX7_mark_18 : decode cX7_mark 18 = .ok (.invokestatic 104, 3) := by decide +kernel
theorem dX7_mark_21 : decode cX7_mark 21 = .ok (.ifCond .ne 5, 3) := by decide +kernel
theorem dX7_mark_24 : decode cX7_mark 24 = .ok (.iconst 0, 1) := by decide +kernel
theorem dX7_mark_25 : decode cX7_mark 25 = .ok (.ireturn, 1) := by decide +kernel
theorem dX7_mark_26 : decode cX7_mark 26 = .ok (.aload_n 0, 1) := by decide +kernel
theorem dX7_mark_27 : decode cX7_mark 27 = .ok (.getfield 89, 3) := by decide +kernel
theorem dX7_mark_30 : decode cX7_mark 30 = .ok (.iload_n 1, 1) := by decide +kernel
theorem dX7_mark_31 : decode cX7_mark 31 = .ok (.iload_n 2, 1) := by decide +kernel
theorem dX7_mark_32 : decode cX7_mark 32 = .ok (.iastore, 1) := by decide +kernel
theorem dX7_mark_33 : decode cX7_mark 33 = .ok (.aload_n 0, 1) := by decide +kernel
theorem dX7_mark_34 : decode cX7_mark 34 = .ok (.iconst 1, 1) := by decide +kernel
theorem dX7_mark_35 : decode cX7_mark 35 = .ok (.putfield 108, 3) := by decide +kernel
theorem dX7_mark_38 : decode cX7_mark 38 = .ok (.iconst 1, 1) := by decide +kernel
theorem dX7_mark_39 : decode cX7_mark 39 = .ok (.ireturn, 1) := by decide +kernel
set_option maxRecDepth 20000 in
theorem ggX7_keeps_X7_begins : GoodIn wsX7_keeps wsX7_begins := goodIn_r _ [16, 10, 17, 18, 19, 20, 21, 5, 22, 23, 63, 64, 65, 66, 67, 68, 69, 70, 71, 72, 73, 74, 75, 76, 77, 78, 79, 80, 81, 82, 83, 84, 85, 86, 87, 88, 89, 90, 91, 92, 93, 94, 95, 96, 97, 98, 99] (by decide +kernel) (by decide +kernel)
set_option maxRecDepth 20000 in
theorem gX7_keeps_X7_begins : GoodIn wsX7_keeps (wsV RX7 146 RX7 yX7_begins wsX7_begins) := goodIn_app (goodIn_of _ (by decide +kernel)) ggX7_keeps_X7_begins
set_option maxRecDepth 20000 in
theorem ggX7_keeps_X7_brings : GoodIn wsX7_keeps wsX7_brings := goodIn_r _ [27, 10, 28, 63, 64, 65, 66, 67, 68, 69, 70, 71, 72, 73, 74, 75, 76, 77, 78, 79, 80, 81, 82, 83, 84, 85, 86, 87, 88, 89, 90, 91, 92, 93, 94, 95, 96, 97, 98, 99] (by decide +kernel) (by decide +kernel)
set_option maxRecDepth 20000 in
theorem gX7_keeps_X7_brings : GoodIn wsX7_keeps (wsV RX7 138 RX7 yX7_brings wsX7_brings) := goodIn_app (goodIn_of _ (by decide +kernel)) ggX7_keeps_X7_brings
set_option maxRecDepth 20000 in
theorem ggX7_keeps_X7_dredged : GoodIn wsX7_keeps wsX7_dredged := goodIn_r _ [32, 33, 34, 35, 20, 36, 24, 25, 26, 15, 27, 10, 28, 63, 64, 65, 66, 67, 68, 69, 70, 71, 72, 73, 74, 75, 76, 77, 78, 79, 80, 81, 82, 83, 84, 85, 86, 87, 88, 89, 90, 91, 92, 93, 94, 95, 96, 97, 98, 99] (by decide +kernel) (by decide +kernel)
set_option maxRecDepth 20000 in
theorem gX7_keeps_X7_dredged : GoodIn wsX7_keeps (wsV RX7 153 RX7 yX7_dredged wsX7_dredged) := goodIn_app (goodIn_of _ (by decide +kernel)) ggX7_keeps_X7_dredged
set_option maxRecDepth 20000 in
theorem ggX7_keeps_X7_week : GoodIn wsX7_keeps wsX7_week := goodIn_r _ [40, 41, 21, 42, 9, 10, 18, 43, 44, 45, 15, 46, 47, 22, 48, 20, 49, 50, 51, 52, 53, 5, 54, 55, 56, 57, 19, 58, 59, 60, 61, 62, 24, 25, 26, 27, 28, 63, 64, 65, 66, 67, 68, 69, 70, 71, 72, 73, 74, 75, 76, 77, 78, 79, 80, 81, 82, 83, 84, 85, 86, 87, 88, 89, 90, 91, 92, 93, 94, 95, 96, 97, 98, 99] (by decide +kernel) (by decide +kernel)
set_option maxRecDepth 20000 in
theorem gX7_keeps_X7_week : GoodIn wsX7_keeps (wsV RX7 156 RX7 yX7_week wsX7_week) := goodIn_app (goodIn_of _ (by decide +kernel)) ggX7_keeps_X7_week
theorem dX7_keeps_0 : decode cX7_keeps 0 = .ok (.aload_n 0, 1) := by decide +kernel
theorem dX7_keeps_1 : decode cX7_keeps 1 = .ok (.iconst 0, 1) := by decide +kernel
theorem dX7_keeps_2 : decode cX7_keeps 2 = .ok (.invokevirtual 146, 3) := by decide +kernel
theorem dX7_keeps_5 : decode cX7_keeps 5 = .ok (.iconst 0, 1) := by decide +kernel
theorem dX7_keeps_6 : decode cX7_keeps 6 = .ok (.istore_n 2, 1) := by decide +kernel
theorem dX7_keeps_7 : decode cX7_keeps 7 = .ok (.iload_n 2, 1) := by decide +kernel
theorem dX7_keeps_8 : decode cX7_keeps 8 = .ok (.aload_n 0, 1) := by decide +kernel
theorem dX7_keeps_9 : decode cX7_keeps 9 = .ok (.getfield 175, 3) := by decide +kernel
theorem dX7_keeps_12 : decode cX7_keeps 12 = .ok (.if_icmp .ge 77, 3) := by decide +kernel
theorem dX7_keeps_15 : decode cX7_keeps 15 = .ok (.iload_n 1, 1) := by decide +kernel
theorem dX7_keeps_16 : decode cX7_keeps 16 = .ok (.iload_n 2, 1) := by decide +kernel
theorem dX7_keeps_17 : decode cX7_keeps 17 = .ok (.ishr, 1) := by decide +kernel
theorem dX7_keeps_18 : decode cX7_keeps 18 = .ok (.iconst 1, 1) := by decide +kernel
theorem dX7_keeps_19 : decode cX7_keeps 19 = .ok (.iand, 1) := by decide +kernel
theorem dX7_keeps_20 : decode cX7_keeps 20 = .ok (.iconst 1, 1) := by decide +kernel
theorem dX7_keeps_21 : decode cX7_keeps 21 = .ok (.if_icmp .ne 62, 3) := by decide +kernel
theorem dX7_keeps_24 : decode cX7_keeps 24 = .ok (.aload_n 0, 1) := by decide +kernel
theorem dX7_keeps_25 : decode cX7_keeps 25 = .ok (.getfield 77, 3) := by decide +kernel
theorem dX7_keeps_28 : decode cX7_keeps 28 = .ok (.iload_n 2, 1) := by decide +kernel
theorem dX7_keeps_29 : decode cX7_keeps 29 = .ok (.iaload, 1) := by decide +kernel
theorem dX7_keeps_30 : decode cX7_keeps 30 = .ok (.ifCond .ne 22, 3) := by decide +kernel
theorem dX7_keeps_33 : decode cX7_keeps 33 = .ok (.aload_n 0, 1) := by decide +kernel
theorem dX7_keeps_34 : decode cX7_keeps 34 = .ok (.aload_n 0, 1) := by decide +kernel
theorem dX7_keeps_35 : decode cX7_keeps 35 = .ok (.getfield 80, 3) := by decide +kernel
theorem dX7_keeps_38 : decode cX7_keeps 38 = .ok (.iload_n 2, 1) := by decide +kernel
theorem dX7_keeps_39 : decode cX7_keeps 39 = .ok (.iaload, 1) := by decide +kernel
theorem dX7_keeps_40 : decode cX7_keeps 40 = .ok (.aload_n 0, 1) := by decide +kernel
theorem dX7_keeps_41 : decode cX7_keeps 41 = .ok (.getfield 83, 3) := by decide +kernel
theorem dX7_keeps_44 : decode cX7_keeps 44 = .ok (.iload_n 2, 1) := by decide +kernel
theorem dX7_keeps_45 : decode cX7_keeps 45 = .ok (.iaload, 1) := by decide +kernel
theorem dX7_keeps_46 : decode cX7_keeps 46 = .ok (.invokevirtual 138, 3) := by decide +kernel
theorem dX7_keeps_49 : decode cX7_keeps 49 = .ok (.goto 34, 3) := by decide +kernel
theorem dX7_keeps_52 : decode cX7_keeps 52 = .ok (.aload_n 0, 1) := by decide +kernel
theorem dX7_keeps_53 : decode cX7_keeps 53 = .ok (.getfield 71, 3) := by decide +kernel
theorem dX7_keeps_56 : decode cX7_keeps 56 = .ok (.aload_n 0, 1) := by decide +kernel
theorem dX7_keeps_57 : decode cX7_keeps 57 = .ok (.getfield 80, 3) := by decide +kernel
theorem dX7_keeps_60 : decode cX7_keeps 60 = .ok (.iload_n 2, 1) := by decide +kernel
theorem dX7_keeps_61 : decode cX7_keeps 61 = .ok (.iaload, 1) := by decide +kernel
theorem dX7_keeps_62 : decode cX7_keeps 62 = .ok (.iaload, 1) := by decide +kernel
theorem dX7_keeps_63 : decode cX7_keeps 63 = .ok (.ifCond .le 20, 3) := by decide +kernel
theorem dX7_keeps_66 : decode cX7_keeps 66 = .ok (.aload_n 0, 1) := by decide +kernel
theorem dX7_keeps_67 : decode cX7_keeps 67 = .ok (.getfield 71, 3) := by decide +kernel
theorem dX7_keeps_70 : decode cX7_keeps 70 = .ok (.aload_n 0, 1) := by decide +kernel
theorem dX7_keeps_71 : decode cX7_keeps 71 = .ok (.getfield 80, 3) := by decide +kernel
theorem dX7_keeps_74 : decode cX7_keeps 74 = .ok (.iload_n 2, 1) := by decide +kernel
theorem dX7_keeps_75 : decode cX7_keeps 75 = .ok (.iaload, 1) := by decide +kernel
theorem dX7_keeps_76 : decode cX7_keeps 76 = .ok (.aload_n 0, 1) := by decide +kernel
theorem dX7_keeps_77 : decode cX7_keeps 77 = .ok (.getfield 83, 3) := by decide +kernel
theorem dX7_keeps_80 : decode cX7_keeps 80 = .ok (.iload_n 2, 1) := by decide +kernel
theorem dX7_keeps_81 : decode cX7_keeps 81 = .ok (.iaload, 1) := by decide +kernel
theorem dX7_keeps_82 : decode cX7_keeps 82 = .ok (.iastore, 1) := by decide +kernel
theorem dX7_keeps_83 : decode cX7_keeps 83 = .ok (.iinc 2 1, 3) := by decide +kernel
theorem dX7_keeps_86 : decode cX7_keeps 86 = .ok (.goto (-79), 3) := by decide +kernel
theorem dX7_keeps_89 : decode cX7_keeps 89 = .ok (.aload_n 0, 1) := by decide +kernel
theorem dX7_keeps_90 : decode cX7_keeps 90 = .ok (.iconst 0, 1) := by decide +kernel
theorem dX7_keeps_91 : decode cX7_keeps 91 = .ok (.aload_n 0, 1) := by decide +kernel
theorem dX7_keeps_92 : decode cX7_keeps 92 = .ok (.getfield 150, 3) := by decide +kernel
theorem dX7_keeps_95 : decode cX7_keeps 95 = .ok (.invokevirtual 153, 3) := by decide +kernel
theorem dX7_keeps_98 : decode cX7_keeps 98 = .ok (.iconst 1, 1) := by decide +kernel
theorem dX7_keeps_99 : decode cX7_keeps 99 = .ok (.istore_n 2, 1) := by decide +kernel
theorem dX7_keeps_100 : decode cX7_keeps 100 = .ok (.iconst 0, 1) := by decide +kernel
theorem dX7_keeps_101 : decode cX7_keeps 101 = .ok (.istore_n 3, 1) := by decide +kernel
theorem dX7_keeps_102 : decode cX7_keeps 102 = .ok (.iload_n 3, 1) := by decide +kernel
theorem dX7_keeps_103 : decode cX7_keeps 103 = .ok (.aload_n 0, 1) := by decide +kernel
theorem dX7_keeps_104 : decode cX7_keeps 104 = .ok (.getfield 123, 3) := by decide +kernel
theorem dX7_keeps_107 : decode cX7_keeps 107 = .ok (.if_icmp .ge 81, 3) := by decide +kernel
theorem dX7_keeps_110 : decode cX7_keeps 110 = .ok (.iload_n 2, 1) := by decide +kernel
theorem dX7_keeps_111 : decode cX7_keeps 111 = .ok (.ifCond .eq 77, 3) := by decide +kernel
theorem dX7_keeps_114 : decode cX7_keeps 114 = .ok (.aload_n 0, 1) := by decide +kernel
theorem dX7_keeps_115 : decode cX7_keeps 115 = .ok (.iload_n 3, 1) := by decide +kernel
theorem dX7_keeps_116 : decode cX7_keeps 116 = .ok (.aload_n 0, 1) := by decide +kernel
theorem dX7_keeps_117 : decode cX7_keeps 117 = .ok (.getfield 35, 3) := by decide +kernel
theorem dX7_keeps_120 : decode cX7_keeps 120 = .ok (.invokevirtual 156, 3) := by decide +kernel
theorem dX7_keeps_123 : decode cX7_keeps 123 = .ok (.aload_n 0, 1) := by decide +kernel
theorem dX7_keeps_124 : decode cX7_keeps 124 = .ok (.iload_n 3, 1) := by decide +kernel
theorem dX7_keeps_125 : decode cX7_keeps 125 = .ok (.iconst 1, 1) := by decide +kernel
theorem dX7_keeps_126 : decode cX7_keeps 126 = .ok (.iadd, 1) := by decide +kernel
theorem dX7_keeps_127 : decode cX7_keeps 127 = .ok (.aload_n 0, 1) := by decide +kernel
theorem dX7_keeps_128 : decode cX7_keeps 128 = .ok (.getfield 150, 3) := by decide +kernel
theorem dX7_keeps_131 : decode cX7_keeps 131 = .ok (.invokevirtual 153, 3) := by decide +kernel
theorem dX7_keeps_134 : decode cX7_keeps 134 = .ok (.iconst 0, 1) := by decide +kernel
theorem dX7_keeps_135 : decode cX7_keeps 135 = .ok (.istore 4, 2) := by decide +kernel
theorem dX7_keeps_137 : decode cX7_keeps 137 = .ok (.iload 4, 2) := by decide +kernel
theorem dX7_keeps_139 : decode cX7_keeps 139 = .ok (.aload_n 0, 1) := by decide +kernel
theorem dX7_keeps_140 : decode cX7_keeps 140 = .ok (.getfield 13, 3) := by decide +kernel
theorem dX7_keeps_143 : decode cX7_keeps 143 = .ok (.if_icmp .ge 39, 3) := by decide +kernel
theorem dX7_keeps_146 : decode cX7_keeps 146 = .ok (.iload_n 2, 1) := by decide +kernel
theorem dX7_keeps_147 : decode cX7_keeps 147 = .ok (.ifCond .eq 27, 3) := by decide +kernel
theorem dX7_keeps_150 : decode cX7_keeps 150 = .ok (.aload_n 0, 1) := by decide +kernel
theorem dX7_keeps_151 : decode cX7_keeps 151 = .ok (.getfield 56, 3) := by decide +kernel
theorem dX7_keeps_154 : decode cX7_keeps 154 = .ok (.iload 4, 2) := by decide +kernel
theorem dX7_keeps_156 : decode cX7_keeps 156 = .ok (.iaload, 1) := by decide +kernel
theorem dX7_keeps_157 : decode cX7_keeps 157 = .ok (.bipush 10, 2) := by decide +kernel
theorem dX7_keeps_159 : decode cX7_keeps 159 = .ok (.idiv, 1) := by decide +kernel
theorem dX7_keeps_160 : decode cX7_keeps 160 = .ok (.aload_n 0, 1) := by decide +kernel
theorem dX7_keeps_161 : decode cX7_keeps 161 = .ok (.getfield 89, 3) := by decide +kernel
theorem dX7_keeps_164 : decode cX7_keeps 164 = .ok (.iload 4, 2) := by decide +kernel
theorem dX7_keeps_166 : decode cX7_keeps 166 = .ok (.iaload, 1) := by decide +kernel
theorem dX7_keeps_167 : decode cX7_keeps 167 = .ok (.if_icmp .lt 7, 3) := by decide +kernel
theorem dX7_keeps_170 : decode cX7_keeps 170 = .ok (.iconst 1, 1) := by decide +kernel
theorem dX7_keeps_171 : decode cX7_keeps 171 = .ok (.goto 4, 3) := by decide +kernel
theorem dX7_keeps_174 : decode cX7_keeps 174 = .ok (.iconst 0, 1) := by decide +kernel
theorem dX7_keeps_175 : decode cX7_keeps 175 = .ok (.istore_n 2, 1) := by decide +kernel
theorem dX7_keeps_176 : decode cX7_keeps 176 = .ok (.iinc 4 1, 3) := by decide +kernel
theorem dX7_keeps_179 : decode cX7_keeps 179 = .ok (.goto (-42), 3) := by decide +kernel
theorem dX7_keeps_182 : decode cX7_keeps 182 = .ok (.iinc 3 1, 3) := by decide +kernel
theorem dX7_keeps_185 : decode cX7_keeps 185 = .ok (.goto (-83), 3) := by decide +kernel
theorem dX7_keeps_188 : decode cX7_keeps 188 = .ok (.iload_n 2, 1) := by decide +kernel
theorem dX7_keeps_189 : decode cX7_keeps 189 = .ok (.ireturn, 1) := by decide +kernel
set_option maxRecDepth 20000 in
theorem ggX7_works_X7_keeps : GoodIn wsX7_works wsX7_keeps := goodIn_r _ [8, 2, 9, 10, 11, 12, 13, 14, 15, 16, 17, 18, 19, 20, 21, 7, 22, 23, 24, 25, 26, 27, 28, 29, 30, 31, 32, 33, 34, 35, 36, 37, 38, 39, 40, 41, 42, 43, 44, 45, 46, 47, 48, 49, 50, 51, 52, 53, 54, 55, 56, 57, 58, 59, 60, 61, 62, 63, 64, 65, 66, 67, 68, 69, 70, 71, 72, 73, 74, 75, 76, 77, 78, 79, 80, 81, 82, 83, 84, 85, 86, 87, 88, 89, 90, 91, 92, 93, 94, 95, 96, 97, 98, 99, 100, 101, 102, 103, 104, 105] (by decide +kernel) (by decide +kernel)
set_option maxRecDepth 20000 in
theorem gX7_works_X7_keeps : GoodIn wsX7_works (wsV RX7 178 RX7 yX7_keeps wsX7_keeps) := goodIn_app (goodIn_of _ (by decide +kernel)) ggX7_works_X7_keeps
theorem dX7_works_0 : decode cX7_works 0 = .ok (.aload_n 0, 1) := by decide +kernel
theorem dX7_works_1 : decode cX7_works 1 = .ok (.iconst 0, 1) := by decide +kernel
theorem dX7_works_2 : decode cX7_works 2 = .ok (.putfield 1, 3) := by decide +kernel
theorem dX7_works_5 : decode cX7_works 5 = .ok (.iconst (-1), 1) := by decide +kernel
theorem dX7_works_6 : decode cX7_works 6 = .ok (.istore_n 1, 1) := by decide +kernel
theorem dX7_works_7 : decode cX7_works 7 = .ok (.iconst 0, 1) := by decide +kernel
theorem dX7_works_8 : decode cX7_works 8 = .ok (.istore_n 2, 1) := by decide +kernel
theorem dX7_works_9 : decode cX7_works 9 = .ok (.iconst 0, 1) := by decide +kernel
theorem dX7_works_10 : decode cX7_works 10 = .ok (.istore_n 3, 1) := by decide +kernel
theorem dX7_works_11 : decode cX7_works 11 = .ok (.iload_n 3, 1) := by decide +kernel
theorem dX7_works_12 : decode cX7_works 12 = .ok (.iconst 1, 1) := by decide +kernel
theorem dX7_works_13 : decode cX7_works 13 = .ok (.aload_n 0, 1) := by decide +kernel
theorem dX7_works_14 : decode cX7_works 14 = .ok (.getfield 175, 3) := by decide +kernel
theorem dX7_works_17 : decode cX7_works 17 = .ok (.ishl, 1) := by decide +kernel
theorem dX7_works_18 : decode cX7_works 18 = .ok (.if_icmp .ge 79, 3) := by decide +kernel
theorem dX7_works_21 : decode cX7_works 21 = .ok (.iconst 0, 1) := by decide +kernel
theorem dX7_works_22 : decode cX7_works 22 = .ok (.istore 4, 2) := by decide +kernel
theorem dX7_works_24 : decode cX7_works 24 = .ok (.iconst 0, 1) := by decide +kernel
theorem dX7_works_25 : decode cX7_works 25 = .ok (.istore 5, 2) := by decide +kernel
theorem dX7_works_27 : decode cX7_works 27 = .ok (.iload 5, 2) := by decide +kernel
theorem dX7_works_29 : decode cX7_works 29 = .ok (.aload_n 0, 1) := by decide +kernel
theorem dX7_works_30 : decode cX7_works 30 = .ok (.getfield 175, 3) := by decide +kernel
theorem dX7_works_33 : decode cX7_works 33 = .ok (.if_icmp .ge 35, 3) := by decide +kernel
theorem dX7_works_36 : decode cX7_works 36 = .ok (.iload 4, 2) := by decide +kernel
theorem dX7_works_38 : decode cX7_works 38 = .ok (.iload_n 3, 1) := by decide +kernel
theorem dX7_works_39 : decode cX7_works 39 = .ok (.iload 5, 2) := by decide +kernel
theorem dX7_works_41 : decode cX7_works 41 = .ok (.ishr, 1) := by decide +kernel
theorem dX7_works_42 : decode cX7_works 42 = .ok (.iconst 1, 1) := by decide +kernel
theorem dX7_works_43 : decode cX7_works 43 = .ok (.iand, 1) := by decide +kernel
theorem dX7_works_44 : decode cX7_works 44 = .ok (.iconst 1, 1) := by decide +kernel
theorem dX7_works_45 : decode cX7_works 45 = .ok (.if_icmp .ne 13, 3) := by decide +kernel
theorem dX7_works_48 : decode cX7_works 48 = .ok (.aload_n 0, 1) := by decide +kernel
end
section
theorem dX7_works_49 : decode cX7_works 49 = .ok (.getfield 86, 3) := by decide +kernel
theorem dX7_works_52 : decode cX7_works 52 = .ok (.iload 5, 2) := by decide +kernel
theorem dX7_works_54 : decode cX7_works 54 = .ok (.iaload, 1) := by decide +kernel
theorem dX7_works_55 : decode cX7_works 55 = .ok (.goto 4, 3) := by decide +kernel
theorem dX7_works_58 : decode cX7_works 58 = .ok (.iconst 0, 1) := by decide +kernel
theorem dX7_works_59 : decode cX7_works 59 = .ok (.iadd, 1) := by decide +kernel
theorem dX7_works_60 : decode cX7_works 60 = .ok (.istore 4, 2) := by decide +kernel
theorem dX7_works_62 : decode cX7_works 62 = .ok (.iinc 5 1, 3) := by decide +kernel
theorem dX7_works_65 : decode cX7_works 65 = .ok (.goto (-38), 3) := by decide +kernel
theorem dX7_works_68 : decode cX7_works 68 = .ok (.iload_n 1, 1) := by decide +kernel
theorem dX7_works_69 : decode cX7_works 69 = .ok (.ifCond .lt 9, 3) := by decide +kernel
theorem dX7_works_72 : decode cX7_works 72 = .ok (.iload 4, 2) := by decide +kernel
theorem dX7_works_74 : decode cX7_works 74 = .ok (.iload_n 2, 1) := by decide +kernel
theorem dX7_works_75 : decode cX7_works 75 = .ok (.if_icmp .ge 16, 3) := by decide +kernel
theorem dX7_works_78 : decode cX7_works 78 = .ok (.aload_n 0, 1) := by decide +kernel
theorem dX7_works_79 : decode cX7_works 79 = .ok (.iload_n 3, 1) := by decide +kernel
theorem dX7_works_80 : decode cX7_works 80 = .ok (.invokevirtual 178, 3) := by decide +kernel
theorem dX7_works_83 : decode cX7_works 83 = .ok (.ifCond .eq 8, 3) := by decide +kernel
theorem dX7_works_86 : decode cX7_works 86 = .ok (.iload_n 3, 1) := by decide +kernel
theorem dX7_works_87 : decode cX7_works 87 = .ok (.istore_n 1, 1) := by decide +kernel
theorem dX7_works_88 : decode cX7_works 88 = .ok (.iload 4, 2) := by decide +kernel
theorem dX7_works_90 : decode cX7_works 90 = .ok (.istore_n 2, 1) := by decide +kernel
theorem dX7_works_91 : decode cX7_works 91 = .ok (.iinc 3 1, 3) := by decide +kernel
theorem dX7_works_94 : decode cX7_works 94 = .ok (.goto (-83), 3) := by decide +kernel
theorem dX7_works_97 : decode cX7_works 97 = .ok (.iload_n 1, 1) := by decide +kernel
theorem dX7_works_98 : decode cX7_works 98 = .ok (.ireturn, 1) := by decide +kernel
set_option maxRecDepth 20000 in
theorem ggX7_survey_X7_isField : GoodIn wsX7_survey wsX7_isField := goodIn_r _ [12, 13, 14, 15, 11, 16, 17, 18, 19, 20, 21, 22, 23, 24, 25, 26, 27, 28, 29, 30, 31, 32, 33, 34, 35, 36, 37, 38, 39, 40, 41, 42, 43, 44, 45, 46, 47, 48, 49, 50, 51, 52, 53] (by decide +kernel) (by decide +kernel)
set_option maxRecDepth 20000 in
theorem gX7_survey_X7_isField : GoodIn wsX7_survey (wsV RX7 112 RX7 yX7_isField wsX7_isField) := goodIn_app (goodIn_of _ (by decide +kernel)) ggX7_survey_X7_isField
set_option maxRecDepth 20000 in
theorem ggX7_survey_X7_within : GoodIn wsX7_survey wsX7_within := goodIn_r _ [16] (by decide +kernel) (by decide +kernel)
set_option maxRecDepth 20000 in
theorem gX7_survey_X7_within : GoodIn wsX7_survey (va_wsS RX7 104 yX7_within wsX7_within) := goodIn_app (goodIn_of _ (by decide +kernel)) ggX7_survey_X7_within
theorem dX7_survey_0 : decode cX7_survey 0 = .ok (.aload_n 0, 1) := by decide +kernel
theorem dX7_survey_1 : decode cX7_survey 1 = .ok (.iconst 0, 1) := by decide +kernel
theorem dX7_survey_2 : decode cX7_survey 2 = .ok (.putfield 1, 3) := by decide +kernel
theorem dX7_survey_5 : decode cX7_survey 5 = .ok (.aload_n 0, 1) := by decide +kernel
theorem dX7_survey_6 : decode cX7_survey 6 = .ok (.iload_n 1, 1) := by decide +kernel
theorem dX7_survey_7 : decode cX7_survey 7 = .ok (.invokevirtual 112, 3) := by decide +kernel
theorem dX7_survey_10 : decode cX7_survey 10 = .ok (.ifCond .eq 40, 3) := by decide +kernel
theorem dX7_survey_13 : decode cX7_survey 13 = .ok (.iload_n 2, 1) := by decide +kernel
theorem dX7_survey_14 : decode cX7_survey 14 = .ok (.iconst 1, 1) := by decide +kernel
theorem dX7_survey_15 : decode cX7_survey 15 = .ok (.bipush 120, 2) := by decide +kernel
theorem dX7_survey_17 : decode cX7_survey 17 = .ok (.invokestatic 104, 3) := by decide +kernel
theorem dX7_survey_20 : decode cX7_survey 20 = .ok (.ifCond .eq 30, 3) := by decide +kernel
theorem dX7_survey_23 : decode cX7_survey 23 = .ok (.iload_n 3, 1) := by decide +kernel
theorem dX7_survey_24 : decode cX7_survey 24 = .ok (.ifCond .lt 26, 3) := by decide +kernel
theorem dX7_survey_27 : decode cX7_survey 27 = .ok (.iload 4, 2) := by decide +kernel
theorem dX7_survey_29 : decode cX7_survey 29 = .ok (.sipush 9999, 3) := by decide +kernel
theorem dX7_survey_32 : decode cX7_survey 32 = .ok (.if_icmp .gt 18, 3) := by decide +kernel
theorem dX7_survey_35 : decode cX7_survey 35 = .ok (.iload_n 3, 1) := by decide +kernel
theorem dX7_survey_36 : decode cX7_survey 36 = .ok (.iload 4, 2) := by decide +kernel
theorem dX7_survey_38 : decode cX7_survey 38 = .ok (.if_icmp .gt 12, 3) := by decide +kernel
theorem dX7_survey_41 : decode cX7_survey 41 = .ok (.aload_n 0, 1) := by decide +kernel
theorem dX7_survey_42 : decode cX7_survey 42 = .ok (.getfield 181, 3) := by decide +kernel
theorem dX7_survey_45 : decode cX7_survey 45 = .ok (.bipush 20, 2) := by decide +kernel
theorem dX7_survey_47 : decode cX7_survey 47 = .ok (.if_icmp .ne 5, 3) := by decide +kernel
theorem dX7_survey_50 : decode cX7_survey 50 = .ok (.iconst (-1), 1) := by decide +kernel
theorem dX7_survey_51 : decode cX7_survey 51 = .ok (.ireturn, 1) := by decide +kernel
theorem dX7_survey_52 : decode cX7_survey 52 = .ok (.aload_n 0, 1) := by decide +kernel
theorem dX7_survey_53 : decode cX7_survey 53 = .ok (.getfield 92, 3) := by decide +kernel
theorem dX7_survey_56 : decode cX7_survey 56 = .ok (.aload_n 0, 1) := by decide +kernel
theorem dX7_survey_57 : decode cX7_survey 57 = .ok (.getfield 181, 3) := by decide +kernel
theorem dX7_survey_60 : decode cX7_survey 60 = .ok (.iload_n 1, 1) := by decide +kernel
theorem dX7_survey_61 : decode cX7_survey 61 = .ok (.iastore, 1) := by decide +kernel
theorem dX7_survey_62 : decode cX7_survey 62 = .ok (.aload_n 0, 1) := by decide +kernel
theorem dX7_survey_63 : decode cX7_survey 63 = .ok (.getfield 95, 3) := by decide +kernel
theorem dX7_survey_66 : decode cX7_survey 66 = .ok (.aload_n 0, 1) := by decide +kernel
theorem dX7_survey_67 : decode cX7_survey 67 = .ok (.getfield 181, 3) := by decide +kernel
theorem dX7_survey_70 : decode cX7_survey 70 = .ok (.iload_n 2, 1) := by decide +kernel
theorem dX7_survey_71 : decode cX7_survey 71 = .ok (.iastore, 1) := by decide +kernel
theorem dX7_survey_72 : decode cX7_survey 72 = .ok (.aload_n 0, 1) := by decide +kernel
theorem dX7_survey_73 : decode cX7_survey 73 = .ok (.getfield 98, 3) := by decide +kernel
theorem dX7_survey_76 : decode cX7_survey 76 = .ok (.aload_n 0, 1) := by decide +kernel
theorem dX7_survey_77 : decode cX7_survey 77 = .ok (.getfield 181, 3) := by decide +kernel
theorem dX7_survey_80 : decode cX7_survey 80 = .ok (.iload_n 3, 1) := by decide +kernel
theorem dX7_survey_81 : decode cX7_survey 81 = .ok (.iastore, 1) := by decide +kernel
theorem dX7_survey_82 : decode cX7_survey 82 = .ok (.aload_n 0, 1) := by decide +kernel
theorem dX7_survey_83 : decode cX7_survey 83 = .ok (.getfield 101, 3) := by decide +kernel
theorem dX7_survey_86 : decode cX7_survey 86 = .ok (.aload_n 0, 1) := by decide +kernel
theorem dX7_survey_87 : decode cX7_survey 87 = .ok (.getfield 181, 3) := by decide +kernel
theorem dX7_survey_90 : decode cX7_survey 90 = .ok (.iload 4, 2) := by decide +kernel
theorem dX7_survey_92 : decode cX7_survey 92 = .ok (.iastore, 1) := by decide +kernel
theorem dX7_survey_93 : decode cX7_survey 93 = .ok (.aload_n 0, 1) := by decide +kernel
theorem dX7_survey_94 : decode cX7_survey 94 = .ok (.dup, 1) := by decide +kernel
theorem dX7_survey_95 : decode cX7_survey 95 = .ok (.getfield 181, 3) := by decide +kernel
theorem dX7_survey_98 : decode cX7_survey 98 = .ok (.iconst 1, 1) := by decide +kernel
theorem dX7_survey_99 : decode cX7_survey 99 = .ok (.iadd, 1) := by decide +kernel
theorem dX7_survey_100 : decode cX7_survey 100 = .ok (.putfield 181, 3) := by decide +kernel
theorem dX7_survey_103 : decode cX7_survey 103 = .ok (.aload_n 0, 1) := by decide +kernel
theorem dX7_survey_104 : decode cX7_survey 104 = .ok (.iconst 1, 1) := by decide +kernel
theorem dX7_survey_105 : decode cX7_survey 105 = .ok (.putfield 108, 3) := by decide +kernel
theorem dX7_survey_108 : decode cX7_survey 108 = .ok (.aload_n 0, 1) := by decide +kernel
theorem dX7_survey_109 : decode cX7_survey 109 = .ok (.getfield 181, 3) := by decide +kernel
theorem dX7_survey_112 : decode cX7_survey 112 = .ok (.ireturn, 1) := by decide +kernel
set_option maxRecDepth 20000 in
theorem ggX7_areSo_X7_within : GoodIn wsX7_areSo wsX7_within := goodIn_r _ [10] (by decide +kernel) (by decide +kernel)
set_option maxRecDepth 20000 in
theorem gX7_areSo_X7_within : GoodIn wsX7_areSo (va_wsS RX7 104 yX7_within wsX7_within) := goodIn_app (goodIn_of _ (by decide +kernel)) ggX7_areSo_X7_within
theorem dX7_areSo_0 : decode cX7_areSo 0 = .ok (.iconst 1, 1) := by decide +kernel
theorem dX7_areSo_1 : decode cX7_areSo 1 = .ok (.istore_n 2, 1) := by decide +kernel
theorem dX7_areSo_2 : decode cX7_areSo 2 = .ok (.iconst 0, 1) := by decide +kernel
theorem dX7_areSo_3 : decode cX7_areSo 3 = .ok (.istore_n 3, 1) := by decide +kernel
theorem dX7_areSo_4 : decode cX7_areSo 4 = .ok (.iload_n 3, 1) := by decide +kernel
theorem dX7_areSo_5 : decode cX7_areSo 5 = .ok (.aload_n 0, 1) := by decide +kernel
theorem dX7_areSo_6 : decode cX7_areSo 6 = .ok (.getfield 181, 3) := by decide +kernel
theorem dX7_areSo_9 : decode cX7_areSo 9 = .ok (.if_icmp .ge 61, 3) := by decide +kernel
theorem dX7_areSo_12 : decode cX7_areSo 12 = .ok (.iload_n 2, 1) := by decide +kernel
theorem dX7_areSo_13 : decode cX7_areSo 13 = .ok (.ifCond .eq 49, 3) := by decide +kernel
theorem dX7_areSo_16 : decode cX7_areSo 16 = .ok (.aload_n 0, 1) := by decide +kernel
theorem dX7_areSo_17 : decode cX7_areSo 17 = .ok (.getfield 95, 3) := by decide +kernel
theorem dX7_areSo_20 : decode cX7_areSo 20 = .ok (.iload_n 3, 1) := by decide +kernel
theorem dX7_areSo_21 : decode cX7_areSo 21 = .ok (.iaload, 1) := by decide +kernel
theorem dX7_areSo_22 : decode cX7_areSo 22 = .ok (.iload_n 1, 1) := by decide +kernel
theorem dX7_areSo_23 : decode cX7_areSo 23 = .ok (.if_icmp .ne 35, 3) := by decide +kernel
theorem dX7_areSo_26 : decode cX7_areSo 26 = .ok (.aload_n 0, 1) := by decide +kernel
theorem dX7_areSo_27 : decode cX7_areSo 27 = .ok (.getfield 56, 3) := by decide +kernel
theorem dX7_areSo_30 : decode cX7_areSo 30 = .ok (.aload_n 0, 1) := by decide +kernel
theorem dX7_areSo_31 : decode cX7_areSo 31 = .ok (.getfield 92, 3) := by decide +kernel
theorem dX7_areSo_34 : decode cX7_areSo 34 = .ok (.iload_n 3, 1) := by decide +kernel
theorem dX7_areSo_35 : decode cX7_areSo 35 = .ok (.iaload, 1) := by decide +kernel
theorem dX7_areSo_36 : decode cX7_areSo 36 = .ok (.iaload, 1) := by decide +kernel
theorem dX7_areSo_37 : decode cX7_areSo 37 = .ok (.bipush 10, 2) := by decide +kernel
theorem dX7_areSo_39 : decode cX7_areSo 39 = .ok (.idiv, 1) := by decide +kernel
theorem dX7_areSo_40 : decode cX7_areSo 40 = .ok (.aload_n 0, 1) := by decide +kernel
theorem dX7_areSo_41 : decode cX7_areSo 41 = .ok (.getfield 98, 3) := by decide +kernel
theorem dX7_areSo_44 : decode cX7_areSo 44 = .ok (.iload_n 3, 1) := by decide +kernel
theorem dX7_areSo_45 : decode cX7_areSo 45 = .ok (.iaload, 1) := by decide +kernel
theorem dX7_areSo_46 : decode cX7_areSo 46 = .ok (.aload_n 0, 1) := by decide +kernel
theorem dX7_areSo_47 : decode cX7_areSo 47 = .ok (.getfield 101, 3) := by decide +kernel
theorem dX7_areSo_50 : decode cX7_areSo 50 = .ok (.iload_n 3, 1) := by decide +kernel
theorem dX7_areSo_51 : decode cX7_areSo 51 = .ok (.iaload, 1) := by decide +kernel
theorem dX7_areSo_52 : decode cX7_areSo 52 = .ok (.invokestatic 104, 3) := by decide +kernel
theorem dX7_areSo_55 : decode cX7_areSo 55 = .ok (.ifCond .eq 7, 3) := by decide +kernel
theorem dX7_areSo_58 : decode cX7_areSo 58 = .ok (.iconst 1, 1) := by decide +kernel
theorem dX7_areSo_59 : decode cX7_areSo 59 = .ok (.goto 4, 3) := by decide +kernel
theorem dX7_areSo_62 : decode cX7_areSo 62 = .ok (.iconst 0, 1) := by decide +kernel
theorem dX7_areSo_63 : decode cX7_areSo 63 = .ok (.istore_n 2, 1) := by decide +kernel
theorem dX7_areSo_64 : decode cX7_areSo 64 = .ok (.iinc 3 1, 3) := by decide +kernel
theorem dX7_areSo_67 : decode cX7_areSo 67 = .ok (.goto (-63), 3) := by decide +kernel
theorem dX7_areSo_70 : decode cX7_areSo 70 = .ok (.iload_n 2, 1) := by decide +kernel
theorem dX7_areSo_71 : decode cX7_areSo 71 = .ok (.ireturn, 1) := by decide +kernel
set_option maxRecDepth 20000 in
theorem ggX7_fits_X7_begins : GoodIn wsX7_fits wsX7_begins := goodIn_r _ [8, 9, 10, 11, 12, 13, 14, 15, 16, 17, 70, 71, 72, 73, 74, 75, 76, 77, 78, 79, 80, 81, 82, 83, 84, 85, 86, 87, 88, 89, 90, 91, 92, 93, 94, 95, 96, 97, 98, 99, 100, 101, 102, 103, 104, 105, 106] (by decide +kernel) (by decide +kernel)
set_option maxRecDepth 20000 in
theorem gX7_fits_X7_begins : GoodIn wsX7_fits (wsV RX7 146 RX7 yX7_begins wsX7_begins) := goodIn_app (goodIn_of _ (by decide +kernel)) ggX7_fits_X7_begins
set_option maxRecDepth 20000 in
theorem ggX7_fits_X7_dredged : GoodIn wsX7_fits wsX7_dredged := goodIn_r _ [21, 22, 23, 24, 13, 25, 26, 27, 28, 7, 29, 9, 30, 70, 71, 72, 73, 74, 75, 76, 77, 78, 79, 80, 81, 82, 83, 84, 85, 86, 87, 88, 89, 90, 91, 92, 93, 94, 95, 96, 97, 98, 99, 100, 101, 102, 103, 104, 105, 106] (by decide +kernel) (by decide +kernel)
set_option maxRecDepth 20000 in
theorem gX7_fits_X7_dredged : GoodIn wsX7_fits (wsV RX7 153 RX7 yX7_dredged wsX7_dredged) := goodIn_app (goodIn_of _ (by decide +kernel)) ggX7_fits_X7_dredged
set_option maxRecDepth 20000 in
theorem ggX7_fits_X7_week : GoodIn wsX7_fits wsX7_week := goodIn_r _ [34, 35, 14, 36, 37, 9, 11, 38, 39, 40, 7, 41, 42, 16, 43, 13, 44, 45, 46, 47, 48, 15, 49, 50, 51, 52, 12, 53, 54, 55, 56, 57, 26, 27, 28, 29, 30, 70, 71, 72, 73, 74, 75, 76, 77, 78, 79, 80, 81, 82, 83, 84, 85, 86, 87, 88, 89, 90, 91, 92, 93, 94, 95, 96, 97, 98, 99, 100, 101, 102, 103, 104, 105, 106] (by decide +kernel) (by decide +kernel)
set_option maxRecDepth 20000 in
theorem gX7_fits_X7_week : GoodIn wsX7_fits (wsV RX7 156 RX7 yX7_week wsX7_week) := goodIn_app (goodIn_of _ (by decide +kernel)) ggX7_fits_X7_week
set_option maxRecDepth 20000 in
theorem ggX7_fits_X7_areSo : GoodIn wsX7_fits wsX7_areSo := goodIn_r _ [61, 62, 63, 9, 64, 65, 66, 67, 68, 7, 69, 70, 71, 72, 73, 74, 75, 76, 77, 78, 79, 80, 81, 82, 83, 84, 85, 86, 87, 88, 89, 90, 91, 92, 93, 94, 95, 96, 97, 98, 99, 100, 101, 102, 103, 104, 105, 106] (by decide +kernel) (by decide +kernel)
set_option maxRecDepth 20000 in
theorem gX7_fits_X7_areSo : GoodIn wsX7_fits (wsV RX7 184 RX7 yX7_areSo wsX7_areSo) := goodIn_app (goodIn_of _ (by decide +kernel)) ggX7_fits_X7_areSo
theorem dX7_fits_0 : decode cX7_fits 0 = .ok (.aload_n 0, 1) := by decide +kernel
theorem dX7_fits_1 : decode cX7_fits 1 = .ok (.iconst 0, 1) := by decide +kernel
theorem dX7_fits_2 : decode cX7_fits 2 = .ok (.putfield 1, 3) := by decide +kernel
theorem dX7_fits_5 : decode cX7_fits 5 = .ok (.iconst 0, 1) := by decide +kernel
theorem dX7_fits_6 : decode cX7_fits 6 = .ok (.istore_n 1, 1) := by decide +kernel
theorem dX7_fits_7 : decode cX7_fits 7 = .ok (.iconst 1, 1) := by decide +kernel
theorem dX7_fits_8 : decode cX7_fits 8 = .ok (.istore_n 2, 1) := by decide +kernel
theorem dX7_fits_9 : decode cX7_fits 9 = .ok (.iload_n 2, 1) := by decide +kernel
theorem dX7_fits_10 : decode cX7_fits 10 = .ok (.bipush 9, 2) := by decide +kernel
theorem dX7_fits_12 : decode cX7_fits 12 = .ok (.if_icmp .gt 99, 3) := by decide +kernel
theorem dX7_fits_15 : decode cX7_fits 15 = .ok (.aload_n 0, 1) := by decide +kernel
theorem dX7_fits_16 : decode cX7_fits 16 = .ok (.iconst 0, 1) := by decide +kernel
theorem dX7_fits_17 : decode cX7_fits 17 = .ok (.invokevirtual 146, 3) := by decide +kernel
theorem dX7_fits_20 : decode cX7_fits 20 = .ok (.aload_n 0, 1) := by decide +kernel
theorem dX7_fits_21 : decode cX7_fits 21 = .ok (.iconst 0, 1) := by decide +kernel
theorem dX7_fits_22 : decode cX7_fits 22 = .ok (.aload_n 0, 1) := by decide +kernel
theorem dX7_fits_23 : decode cX7_fits 23 = .ok (.getfield 150, 3) := by decide +kernel
theorem dX7_fits_26 : decode cX7_fits 26 = .ok (.invokevirtual 153, 3) := by decide +kernel
theorem dX7_fits_29 : decode cX7_fits 29 = .ok (.iconst 1, 1) := by decide +kernel
theorem dX7_fits_30 : decode cX7_fits 30 = .ok (.istore_n 3, 1) := by decide +kernel
theorem dX7_fits_31 : decode cX7_fits 31 = .ok (.iconst 0, 1) := by decide +kernel
theorem dX7_fits_32 : decode cX7_fits 32 = .ok (.istore 4, 2) := by decide +kernel
theorem dX7_fits_34 : decode cX7_fits 34 = .ok (.iload 4, 2) := by decide +kernel
theorem dX7_fits_36 : decode cX7_fits 36 = .ok (.aload_n 0, 1) := by decide +kernel
theorem dX7_fits_37 : decode cX7_fits 37 = .ok (.getfield 123, 3) := by decide +kernel
theorem dX7_fits_40 : decode cX7_fits 40 = .ok (.if_icmp .ge 49, 3) := by decide +kernel
theorem dX7_fits_43 : decode cX7_fits 43 = .ok (.aload_n 0, 1) := by decide +kernel
theorem dX7_fits_44 : decode cX7_fits 44 = .ok (.iload 4, 2) := by decide +kernel
theorem dX7_fits_46 : decode cX7_fits 46 = .ok (.iload_n 2, 1) := by decide +kernel
theorem dX7_fits_47 : decode cX7_fits 47 = .ok (.invokevirtual 156, 3) := by decide +kernel
theorem dX7_fits_50 : decode cX7_fits 50 = .ok (.aload_n 0, 1) := by decide +kernel
theorem dX7_fits_51 : decode cX7_fits 51 = .ok (.iload 4, 2) := by decide +kernel
theorem dX7_fits_53 : decode cX7_fits 53 = .ok (.iconst 1, 1) := by decide +kernel
theorem dX7_fits_54 : decode cX7_fits 54 = .ok (.iadd, 1) := by decide +kernel
theorem dX7_fits_55 : decode cX7_fits 55 = .ok (.aload_n 0, 1) := by decide +kernel
theorem dX7_fits_56 : decode cX7_fits 56 = .ok (.getfield 150, 3) := by decide +kernel
theorem dX7_fits_59 : decode cX7_fits 59 = .ok (.invokevirtual 153, 3) := by decide +kernel
theorem dX7_fits_62 : decode cX7_fits 62 = .ok (.iload_n 3, 1) := by decide +kernel
theorem dX7_fits_63 : decode cX7_fits 63 = .ok (.ifCond .eq 18, 3) := by decide +kernel
theorem dX7_fits_66 : decode cX7_fits 66 = .ok (.aload_n 0, 1) := by decide +kernel
theorem dX7_fits_67 : decode cX7_fits 67 = .ok (.iload 4, 2) := by decide +kernel
theorem dX7_fits_69 : decode cX7_fits 69 = .ok (.iconst 1, 1) := by decide +kernel
theorem dX7_fits_70 : decode cX7_fits 70 = .ok (.iadd, 1) := by decide +kernel
theorem dX7_fits_71 : decode cX7_fits 71 = .ok (.invokevirtual 184, 3) := by decide +kernel
theorem dX7_fits_74 : decode cX7_fits 74 = .ok (.ifCond .eq 7, 3) := by decide +kernel
theorem dX7_fits_77 : decode cX7_fits 77 = .ok (.iconst 1, 1) := by decide +kernel
theorem dX7_fits_78 : decode cX7_fits 78 = .ok (.goto 4, 3) := by decide +kernel
theorem dX7_fits_81 : decode cX7_fits 81 = .ok (.iconst 0, 1) := by decide +kernel
theorem dX7_fits_82 : decode cX7_fits 82 = .ok (.istore_n 3, 1) := by decide +kernel
theorem dX7_fits_83 : decode cX7_fits 83 = .ok (.iinc 4 1, 3) := by decide +kernel
theorem dX7_fits_86 : decode cX7_fits 86 = .ok (.goto (-52), 3) := by decide +kernel
theorem dX7_fits_89 : decode cX7_fits 89 = .ok (.iload_n 1, 1) := by decide +kernel
theorem dX7_fits_90 : decode cX7_fits 90 = .ok (.iload_n 3, 1) := by decide +kernel
theorem dX7_fits_91 : decode cX7_fits 91 = .ok (.ifCond .eq 11, 3) := by decide +kernel
theorem dX7_fits_94 : decode cX7_fits 94 = .ok (.iconst 1, 1) := by decide +kernel
theorem dX7_fits_95 : decode cX7_fits 95 = .ok (.iload_n 2, 1) := by decide +kernel
theorem dX7_fits_96 : decode cX7_fits 96 = .ok (.iconst 1, 1) := by decide +kernel
theorem dX7_fits_97 : decode cX7_fits 97 = .ok (.isub, 1) := by decide +kernel
theorem dX7_fits_98 : decode cX7_fits 98 = .ok (.ishl, 1) := by decide +kernel
theorem dX7_fits_99 : decode cX7_fits 99 = .ok (.goto 4, 3) := by decide +kernel
theorem dX7_fits_102 : decode cX7_fits 102 = .ok (.iconst 0, 1) := by decide +kernel
theorem dX7_fits_103 : decode cX7_fits 103 = .ok (.ior, 1) := by decide +kernel
theorem dX7_fits_104 : decode cX7_fits 104 = .ok (.istore_n 1, 1) := by decide +kernel
theorem dX7_fits_105 : decode cX7_fits 105 = .ok (.iinc 2 1, 3) := by decide +kernel
theorem dX7_fits_108 : decode cX7_fits 108 = .ok (.goto (-99), 3) := by decide +kernel
theorem dX7_fits_111 : decode cX7_fits 111 = .ok (.iload_n 1, 1) := by decide +kernel
theorem dX7_fits_112 : decode cX7_fits 112 = .ok (.ireturn, 1) := by decide +kernel
set_option maxRecDepth 20000 in
theorem ggX7_count_X7_allSand : GoodIn wsX7_count wsX7_allSand := goodIn_r _ [12, 4, 2, 13, 14, 15, 16, 17, 18, 11, 19, 7, 20, 21, 22, 23, 24, 25, 26, 27, 28, 29, 30, 31, 32, 33, 34, 35, 36, 37, 38, 39, 40, 41, 42, 43, 44, 45, 46, 47, 48, 49, 50, 51, 52, 53, 54, 55, 56, 57, 58, 59, 60, 61, 62, 63, 64, 65, 66, 67, 68, 69, 70, 71, 72, 73, 74, 75, 76, 77, 78, 79, 80, 81, 82, 83, 84, 85, 86, 87, 88, 89, 90, 91, 92, 93, 94, 95, 96, 97, 98, 99, 100, 101, 102, 103, 104, 105, 106] (by decide +kernel) (by decide +kernel)
set_option maxRecDepth 20000 in
theorem gX7_count_X7_allSand : GoodIn wsX7_count (wsV RX7 187 RX7 yX7_allSand wsX7_allSand) := goodIn_app (goodIn_of _ (by decide +kernel)) ggX7_count_X7_allSand
theorem dX7_count_0 : decode cX7_count 0 = .ok (.aload_n 0, 1) := by decide +kernel
theorem dX7_count_1 : decode cX7_count 1 = .ok (.iconst 0, 1) := by decide +kernel
theorem dX7_count_2 : decode cX7_count 2 = .ok (.putfield 1, 3) := by decide +kernel
theorem dX7_count_5 : decode cX7_count 5 = .ok (.iload_n 1, 1) := by decide +kernel
theorem dX7_count_6 : decode cX7_count 6 = .ok (.tableswitch 77 0 6 #[42, 47, 52, 57, 62, 67, 72], 42) := by decide +kernel
theorem dX7_count_48 : decode cX7_count 48 = .ok (.aload_n 0, 1) := by decide +kernel
theorem dX7_count_49 : decode cX7_count 49 = .ok (.getfield 13, 3) := by decide +kernel
theorem dX7_count_52 : decode cX7_count 52 = .ok (.ireturn, 1) := by decide +kernel
theorem dX7_count_53 : decode cX7_count 53 = .ok (.aload_n 0, 1) := by decide +kernel
theorem dX7_count_54 : decode cX7_count 54 = .ok (.getfield 123, 3) := by decide +kernel
theorem dX7_count_57 : decode cX7_count 57 = .ok (.ireturn, 1) := by decide +kernel
theorem dX7_count_58 : decode cX7_count 58 = .ok (.aload_n 0, 1) := by decide +kernel
theorem dX7_count_59 : decode cX7_count 59 = .ok (.getfield 117, 3) := by decide +kernel
theorem dX7_count_62 : decode cX7_count 62 = .ok (.ireturn, 1) := by decide +kernel
theorem dX7_count_63 : decode cX7_count 63 = .ok (.aload_n 0, 1) := by decide +kernel
theorem dX7_count_64 : decode cX7_count 64 = .ok (.getfield 175, 3) := by decide +kernel
theorem dX7_count_67 : decode cX7_count 67 = .ok (.ireturn, 1) := by decide +kernel
theorem dX7_count_68 : decode cX7_count 68 = .ok (.aload_n 0, 1) := by decide +kernel
theorem dX7_count_69 : decode cX7_count 69 = .ok (.getfield 181, 3) := by decide +kernel
theorem dX7_count_72 : decode cX7_count 72 = .ok (.ireturn, 1) := by decide +kernel
theorem dX7_count_73 : decode cX7_count 73 = .ok (.aload_n 0, 1) := by decide +kernel
theorem dX7_count_74 : decode cX7_count 74 = .ok (.getfield 150, 3) := by decide +kernel
theorem dX7_count_77 : decode cX7_count 77 = .ok (.ireturn, 1) := by decide +kernel
theorem dX7_count_78 : decode cX7_count 78 = .ok (.aload_n 0, 1) := by decide +kernel
theorem dX7_count_79 : decode cX7_count 79 = .ok (.invokevirtual 187, 3) := by decide +kernel
theorem dX7_count_82 : decode cX7_count 82 = .ok (.ireturn, 1) := by decide +kernel
theorem dX7_count_83 : decode cX7_count 83 = .ok (.iconst (-1), 1) := by decide +kernel
theorem dX7_count_84 : decode cX7_count 84 = .ok (.ireturn, 1) := by decide +kernel
set_option maxRecDepth 20000 in
theorem ggX7_allSand_X7_runs : GoodIn wsX7_allSand wsX7_runs := goodIn_r _ [10, 11, 12, 13, 14, 15, 9, 16, 3, 17, 4, 18, 5, 19, 20, 21, 22, 23, 24, 25, 26, 27, 28, 29, 30, 31, 32, 33, 34, 35, 36, 37, 38, 39, 40, 41, 2, 42, 43, 44, 45, 46, 47, 48, 49, 50, 51, 52, 53, 54, 55, 56, 57, 58, 59, 60, 61, 62, 63, 64, 65, 66, 67, 68, 69, 70, 71, 72, 73, 74, 75, 76, 77, 78, 79, 80, 81, 82, 83, 84, 85, 86, 87, 88, 89, 90, 91, 92, 93, 94, 95, 96, 97, 98] (by decide +kernel) (by decide +kernel)
set_option maxRecDepth 20000 in
theorem gX7_allSand_X7_runs : GoodIn wsX7_allSand (wsV RX7 159 RX7 yX7_runs wsX7_runs) := goodIn_app (goodIn_of _ (by decide +kernel)) ggX7_allSand_X7_runs
theorem dX7_allSand_0 : decode cX7_allSand 0 = .ok (.aload_n 0, 1) := by decide +kernel
theorem dX7_allSand_1 : decode cX7_allSand 1 = .ok (.aload_n 0, 1) := by decide +kernel
theorem dX7_allSand_2 : decode cX7_allSand 2 = .ok (.getfield 117, 3) := by decide +kernel
theorem dX7_allSand_5 : decode cX7_allSand 5 = .ok (.iconst 0, 1) := by decide +kernel
theorem dX7_allSand_6 : decode cX7_allSand 6 = .ok (.invokevirtual 159, 3) := by decide +kernel
theorem dX7_allSand_9 : decode cX7_allSand 9 = .ok (.iconst 0, 1) := by decide +kernel
theorem dX7_allSand_10 : decode cX7_allSand 10 = .ok (.istore_n 1, 1) := by decide +kernel
theorem dX7_allSand_11 : decode cX7_allSand 11 = .ok (.iconst 0, 1) := by decide +kernel
theorem dX7_allSand_12 : decode cX7_allSand 12 = .ok (.istore_n 2, 1) := by decide +kernel
theorem dX7_allSand_13 : decode cX7_allSand 13 = .ok (.iload_n 2, 1) := by decide +kernel
theorem dX7_allSand_14 : decode cX7_allSand 14 = .ok (.aload_n 0, 1) := by decide +kernel
theorem dX7_allSand_15 : decode cX7_allSand 15 = .ok (.getfield 13, 3) := by decide +kernel
theorem dX7_allSand_18 : decode cX7_allSand 18 = .ok (.if_icmp .ge 25, 3) := by decide +kernel
theorem dX7_allSand_21 : decode cX7_allSand 21 = .ok (.iload_n 1, 1) := by decide +kernel
theorem dX7_allSand_22 : decode cX7_allSand 22 = .ok (.aload_n 0, 1) := by decide +kernel
theorem dX7_allSand_23 : decode cX7_allSand 23 = .ok (.getfield 56, 3) := by decide +kernel
theorem dX7_allSand_26 : decode cX7_allSand 26 = .ok (.iload_n 2, 1) := by decide +kernel
theorem dX7_allSand_27 : decode cX7_allSand 27 = .ok (.iaload, 1) := by decide +kernel
theorem dX7_allSand_28 : decode cX7_allSand 28 = .ok (.aload_n 0, 1) := by decide +kernel
theorem dX7_allSand_29 : decode cX7_allSand 29 = .ok (.getfield 59, 3) := by decide +kernel
theorem dX7_allSand_32 : decode cX7_allSand 32 = .ok (.iload_n 2, 1) := by decide +kernel
theorem dX7_allSand_33 : decode cX7_allSand 33 = .ok (.iaload, 1) := by decide +kernel
theorem dX7_allSand_34 : decode cX7_allSand 34 = .ok (.iadd, 1) := by decide +kernel
theorem dX7_allSand_35 : decode cX7_allSand 35 = .ok (.iadd, 1) := by decide +kernel
theorem dX7_allSand_36 : decode cX7_allSand 36 = .ok (.istore_n 1, 1) := by decide +kernel
theorem dX7_allSand_37 : decode cX7_allSand 37 = .ok (.iinc 2 1, 3) := by decide +kernel
theorem dX7_allSand_40 : decode cX7_allSand 40 = .ok (.goto (-27), 3) := by decide +kernel
theorem dX7_allSand_43 : decode cX7_allSand 43 = .ok (.iconst 0, 1) := by decide +kernel
theorem dX7_allSand_44 : decode cX7_allSand 44 = .ok (.istore_n 2, 1) := by decide +kernel
theorem dX7_allSand_45 : decode cX7_allSand 45 = .ok (.iload_n 2, 1) := by decide +kernel
theorem dX7_allSand_46 : decode cX7_allSand 46 = .ok (.bipush 13, 2) := by decide +kernel
theorem dX7_allSand_48 : decode cX7_allSand 48 = .ok (.if_icmp .ge 18, 3) := by decide +kernel
theorem dX7_allSand_51 : decode cX7_allSand 51 = .ok (.iload_n 1, 1) := by decide +kernel
theorem dX7_allSand_52 : decode cX7_allSand 52 = .ok (.aload_n 0, 1) := by decide +kernel
theorem dX7_allSand_53 : decode cX7_allSand 53 = .ok (.getfield 65, 3) := by decide +kernel
theorem dX7_allSand_56 : decode cX7_allSand 56 = .ok (.iload_n 2, 1) := by decide +kernel
theorem dX7_allSand_57 : decode cX7_allSand 57 = .ok (.iaload, 1) := by decide +kernel
theorem dX7_allSand_58 : decode cX7_allSand 58 = .ok (.iadd, 1) := by decide +kernel
theorem dX7_allSand_59 : decode cX7_allSand 59 = .ok (.istore_n 1, 1) := by decide +kernel
theorem dX7_allSand_60 : decode cX7_allSand 60 = .ok (.iinc 2 1, 3) := by decide +kernel
theorem dX7_allSand_63 : decode cX7_allSand 63 = .ok (.goto (-18), 3) := by decide +kernel
theorem dX7_allSand_66 : decode cX7_allSand 66 = .ok (.iload_n 1, 1) := by decide +kernel
theorem dX7_allSand_67 : decode cX7_allSand 67 = .ok (.ireturn, 1) := by decide +kernel
theorem dJ6_bitCount_0f7a4_0 : decode cJ6_bitCount_0f7a4 0 = .ok (.iload_n 0, 1) := by decide +kernel
theorem dJ6_bitCount_0f7a4_1 : decode cJ6_bitCount_0f7a4 1 = .ok (.iload_n 0, 1) := by decide +kernel
theorem dJ6_bitCount_0f7a4_2 : decode cJ6_bitCount_0f7a4 2 = .ok (.iconst 1, 1) := by decide +kernel
theorem dJ6_bitCount_0f7a4_3 : decode cJ6_bitCount_0f7a4 3 = .ok (.iushr, 1) := by decide +kernel
theorem dJ6_bitCount_0f7a4_4 : decode cJ6_bitCount_0f7a4 4 = .ok (.ldc_w 265, 3) := by decide +kernel
theorem dJ6_bitCount_0f7a4_7 : decode cJ6_bitCount_0f7a4 7 = .ok (.iand, 1) := by decide +kernel
theorem dJ6_bitCount_0f7a4_8 : decode cJ6_bitCount_0f7a4 8 = .ok (.isub, 1) := by decide +kernel
theorem dJ6_bitCount_0f7a4_9 : decode cJ6_bitCount_0f7a4 9 = .ok (.istore_n 0, 1) := by decide +kernel
theorem dJ6_bitCount_0f7a4_10 : decode cJ6_bitCount_0f7a4 10 = .ok (.iload_n 0, 1) := by decide +kernel
theorem dJ6_bitCount_0f7a4_11 : decode cJ6_bitCount_0f7a4 11 = .ok (.ldc_w 266, 3) := by decide +kernel
theorem dJ6_bitCount_0f7a4_14 : decode cJ6_bitCount_0f7a4 14 = .ok (.iand, 1) := by decide +kernel
theorem dJ6_bitCount_0f7a4_15 : decode cJ6_bitCount_0f7a4 15 = .ok (.iload_n 0, 1) := by decide +kernel
theorem dJ6_bitCount_0f7a4_16 : decode cJ6_bitCount_0f7a4 16 = .ok (.iconst 2, 1) := by decide +kernel
theorem dJ6_bitCount_0f7a4_17 : decode cJ6_bitCount_0f7a4 17 = .ok (.iushr, 1) := by decide +kernel
theorem dJ6_bitCount_0f7a4_18 : decode cJ6_bitCount_0f7a4 18 = .ok (.ldc_w 266, 3) := by decide +kernel
theorem dJ6_bitCount_0f7a4_21 : decode cJ6_bitCount_0f7a4 21 = .ok (.iand, 1) := by decide +kernel
theorem dJ6_bitCount_0f7a4_22 : decode cJ6_bitCount_0f7a4 22 = .ok (.iadd, 1) := by decide +kernel
theorem dJ6_bitCount_0f7a4_23 : decode cJ6_bitCount_0f7a4 23 = .ok (.istore_n 0, 1) := by decide +kernel
theorem dJ6_bitCount_0f7a4_24 : decode cJ6_bitCount_0f7a4 24 = .ok (.iload_n 0, 1) := by decide +kernel
theorem dJ6_bitCount_0f7a4_25 : decode cJ6_bitCount_0f7a4 25 = .ok (.iload_n 0, 1) := by decide +kernel
theorem dJ6_bitCount_0f7a4_26 : decode cJ6_bitCount_0f7a4 26 = .ok (.iconst 4, 1) := by decide +kernel
theorem dJ6_bitCount_0f7a4_27 : decode cJ6_bitCount_0f7a4 27 = .ok (.iushr, 1) := by decide +kernel
theorem dJ6_bitCount_0f7a4_28 : decode cJ6_bitCount_0f7a4 28 = .ok (.iadd, 1) := by decide +kernel
theorem dJ6_bitCount_0f7a4_29 : decode cJ6_bitCount_0f7a4 29 = .ok (.ldc_w 267, 3) := by decide +kernel
theorem dJ6_bitCount_0f7a4_32 : decode cJ6_bitCount_0f7a4 32 = .ok (.iand, 1) := by decide +kernel
theorem dJ6_bitCount_0f7a4_33 : decode cJ6_bitCount_0f7a4 33 = .ok (.istore_n 0, 1) := by decide +kernel
theorem dJ6_bitCount_0f7a4_34 : decode cJ6_bitCount_0f7a4 34 = .ok (.iload_n 0, 1) := by decide +kernel
theorem dJ6_bitCount_0f7a4_35 : decode cJ6_bitCount_0f7a4 35 = .ok (.iload_n 0, 1) := by decide +kernel
theorem dJ6_bitCount_0f7a4_36 : decode cJ6_bitCount_0f7a4 36 = .ok (.bipush 8, 2) := by decide +kernel
theorem dJ6_bitCount_0f7a4_38 : decode cJ6_bitCount_0f7a4 38 = .ok (.iushr, 1) := by decide +kernel
theorem dJ6_bitCount_0f7a4_39 : decode cJ6_bitCount_0f7a4 39 = .ok (.iadd, 1) := by decide +kernel
theorem dJ6_bitCount_0f7a4_40 : decode cJ6_bitCount_0f7a4 40 = .ok (.istore_n 0, 1) := by decide +kernel
theorem dJ6_bitCount_0f7a4_41 : decode cJ6_bitCount_0f7a4 41 = .ok (.iload_n 0, 1) := by decide +kernel
theorem dJ6_bitCount_0f7a4_42 : decode cJ6_bitCount_0f7a4 42 = .ok (.iload_n 0, 1) := by decide +kernel
theorem dJ6_bitCount_0f7a4_43 : decode cJ6_bitCount_0f7a4 43 = .ok (.bipush 16, 2) := by decide +kernel
theorem dJ6_bitCount_0f7a4_45 : decode cJ6_bitCount_0f7a4 45 = .ok (.iushr, 1) := by decide +kernel
theorem dJ6_bitCount_0f7a4_46 : decode cJ6_bitCount_0f7a4 46 = .ok (.iadd, 1) := by decide +kernel
theorem dJ6_bitCount_0f7a4_47 : decode cJ6_bitCount_0f7a4 47 = .ok (.istore_n 0, 1) := by decide +kernel
theorem dJ6_bitCount_0f7a4_48 : decode cJ6_bitCount_0f7a4 48 = .ok (.iload_n 0, 1) := by decide +kernel
theorem dJ6_bitCount_0f7a4_49 : decode cJ6_bitCount_0f7a4 49 = .ok (.bipush 63, 2) := by decide +kernel
theorem dJ6_bitCount_0f7a4_51 : decode cJ6_bitCount_0f7a4 51 = .ok (.iand, 1) := by decide +kernel
theorem dJ6_bitCount_0f7a4_52 : decode cJ6_bitCount_0f7a4 52 = .ok (.ireturn, 1) := by decide +kernel
theorem dJ9_max_7cf53_0 : decode cJ9_max_7cf53 0 = .ok (.iload_n 0, 1) := by decide +kernel
theorem dJ9_max_7cf53_1 : decode cJ9_max_7cf53 1 = .ok (.iload_n 1, 1) := by decide +kernel
theorem dJ9_max_7cf53_2 : decode cJ9_max_7cf53 2 = .ok (.if_icmp .lt 7, 3) := by decide +kernel
theorem dJ9_max_7cf53_5 : decode cJ9_max_7cf53 5 = .ok (.iload_n 0, 1) := by decide +kernel
theorem dJ9_max_7cf53_6 : decode cJ9_max_7cf53 6 = .ok (.goto 4, 3) := by decide +kernel
theorem dJ9_max_7cf53_9 : decode cJ9_max_7cf53 9 = .ok (.iload_n 1, 1) := by decide +kernel
theorem dJ9_max_7cf53_10 : decode cJ9_max_7cf53 10 = .ok (.ireturn, 1) := by decide +kernel
theorem dJ9_min_7cf53_0 : decode cJ9_min_7cf53 0 = .ok (.iload_n 0, 1) := by decide +kernel
theorem dJ9_min_7cf53_1 : decode cJ9_min_7cf53 1 = .ok (.iload_n 1, 1) := by decide +kernel
theorem dJ9_min_7cf53_2 : decode cJ9_min_7cf53 2 = .ok (.if_icmp .gt 7, 3) := by decide +kernel
theorem dJ9_min_7cf53_5 : decode cJ9_min_7cf53 5 = .ok (.iload_n 0, 1) := by decide +kernel
theorem dJ9_min_7cf53_6 : decode cJ9_min_7cf53 6 = .ok (.goto 4, 3) := by decide +kernel
theorem dJ9_min_7cf53_9 : decode cJ9_min_7cf53 9 = .ok (.iload_n 1, 1) := by decide +kernel
theorem dJ9_min_7cf53_10 : decode cJ9_min_7cf53 10 = .ok (.ireturn, 1) := by decide +kernel
theorem dJ7_fill_53178_0 : decode cJ7_fill_53178 0 = .ok (.iconst 0, 1) := by decide +kernel
theorem dJ7_fill_53178_1 : decode cJ7_fill_53178 1 = .ok (.istore_n 2, 1) := by decide +kernel
theorem dJ7_fill_53178_2 : decode cJ7_fill_53178 2 = .ok (.aload_n 0, 1) := by decide +kernel
theorem dJ7_fill_53178_3 : decode cJ7_fill_53178 3 = .ok (.arraylength, 1) := by decide +kernel
theorem dJ7_fill_53178_4 : decode cJ7_fill_53178 4 = .ok (.istore_n 3, 1) := by decide +kernel
theorem dJ7_fill_53178_5 : decode cJ7_fill_53178 5 = .ok (.iload_n 2, 1) := by decide +kernel
theorem dJ7_fill_53178_6 : decode cJ7_fill_53178 6 = .ok (.iload_n 3, 1) := by decide +kernel
theorem dJ7_fill_53178_7 : decode cJ7_fill_53178 7 = .ok (.if_icmp .ge 13, 3) := by decide +kernel
theorem dJ7_fill_53178_10 : decode cJ7_fill_53178 10 = .ok (.aload_n 0, 1) := by decide +kernel
theorem dJ7_fill_53178_11 : decode cJ7_fill_53178 11 = .ok (.iload_n 2, 1) := by decide +kernel
theorem dJ7_fill_53178_12 : decode cJ7_fill_53178 12 = .ok (.iload_n 1, 1) := by decide +kernel
theorem dJ7_fill_53178_13 : decode cJ7_fill_53178 13 = .ok (.iastore, 1) := by decide +kernel
theorem dJ7_fill_53178_14 : decode cJ7_fill_53178 14 = .ok (.iinc 2 1, 3) := by decide +kernel
theorem dJ7_fill_53178_17 : decode cJ7_fill_53178 17 = .ok (.goto (-12), 3) := by decide +kernel
theorem dJ7_fill_53178_20 : decode cJ7_fill_53178 20 = .ok (.return_, 1) := by decide +kernel
abbrev vwCl : List vw_C := [(RX0, TX0, 8), (RX1, TX1, 5), (RX2, TX2, 6), (RX3, TX3, 5), (RX4, TX4, 3), (RX5, TX5, 5), (RX6, TX6, 11), (RX7, TX7, 37)]
end
section
/-! points of a walk: the world, the locals and the stack stand in the proposition itself -/
section PT
variable {p : Program} {l : Launch} {e : Env} {R : Room} {s : State} {m : MethodId} {args : Array Value} {below : List Frame} {meth : Method} {c : Code} {Q : State → Prop}
variable {cc : ByteArray} {nL cells slots pc pc' : Nat} {Ts : List Cond} {own : String} {D : va_G} {cA : ClassId} {A : Nat → Prop} {ws ws' : va_W} {lv lv' : List (Nat × Value)} {st st' rest : List Value} {tys : List (ClassId × FieldType)}
/-- what holds all through a body -/
def pt_C (p : Program) (s : State) (m : MethodId) (args : Array Value) (c : Code) (cc : ByteArray) (nL : Nat) (Ts : List Cond) (own : String) (D : va_G) (tys : List (ClassId × FieldType)) (A : Nat → Prop) : Prop :=
  p.tables.exec = Jvm.exec ∧ c.code = cc ∧ c.maxLocals = nL ∧ s.vm.findClass own = some m.cls ∧ (∀ w ∈ Ts, w.before args s = true) ∧ va_K D vwCl tys s ∧ (∀ q : Nat, s.heap.size ≤ q → A q)
theorem pt_C.hts (C : pt_C p s m args c cc nL Ts own D tys A) : ∀ w ∈ Ts, w.before args s = true := C.2.2.2.2.1
/-- a point -/
def pt_P (p : Program) (l : Launch) (e : Env) (R : Room) (s : State) (m : MethodId) (args : Array Value) (below : List Frame) (meth : Method) (c : Code) (D : va_G) (A : Nat → Prop) (nL : Nat) (Q : State → Prop) (cells slots pc : Nat) (ws : va_W) (lv : List (Nat × Value)) (st : List Value) : Prop :=
  ∀ (H : Heap) (locs : List Loc) (ls : Array Slot), va_P D vwCl ws H → va_D A ws → va_S A s.heap H locs → lv_has ls nL lv → W p l e R s m args below meth c H locs cells slots Q (F0 m pc ls st)
theorem pt_cv (hw : ws = ws') (ks : List Nat) (hl : lv_pick lv ks = lv') (hs : st = st') (K : pt_P p l e R s m args below meth c D A nL Q cells slots pc ws' lv' st') : pt_P p l e R s m args below meth c D A nL Q cells slots pc ws lv st := by
  subst hw; subst hs
  exact fun H locs ls hP hD hS h => K H locs ls hP hD hS (lv_sub h ks hl)
theorem pt_eq (hw : ws = ws') (hl : lv = lv') (hs : st = st') (K : pt_P p l e R s m args below meth c D A nL Q cells slots pc ws' lv' st') : pt_P p l e R s m args below meth c D A nL Q cells slots pc ws lv st := by
  subst hw; subst hs; subst hl
  exact K
theorem pt_wd {k n : Nat} (h1 : cells ≤ k) (h2 : slots ≤ n) (K : pt_P p l e R s m args below meth c D A nL Q k n pc ws lv st) : pt_P p l e R s m args below meth c D A nL Q cells slots pc ws lv st :=
  fun H locs ls hP hD hS h => W.widen h1 h2 (K H locs ls hP hD hS h)
/-- a loop: the point at its head, for the number of rounds gone -/
theorem pt_for {wsf : Nat → va_W} {lvf : Nat → List (Nat × Value)} (N : Nat) (last : pt_P p l e R s m args below meth c D A nL Q cells slots pc (wsf N) (lvf N) st)
    (step : ∀ j, j < N → pt_P p l e R s m args below meth c D A nL Q cells slots pc (wsf (j + 1)) (lvf (j + 1)) st → pt_P p l e R s m args below meth c D A nL Q cells slots pc (wsf j) (lvf j) st) : pt_P p l e R s m args below meth c D A nL Q cells slots pc (wsf 0) (lvf 0) st := by
  have h : ∀ k, k ≤ N → pt_P p l e R s m args below meth c D A nL Q cells slots pc (wsf (N - k)) (lvf (N - k)) st := by
    intro k
    induction k with
    | zero => intro _; exact last
    | succ k ih =>
      intro hk
      have h1 := step (N - (k + 1)) (by omega)
      rw [show N - (k + 1) + 1 = N - k by omega] at h1
      exact h1 (ih (by omega))
  have h2 := h N (Nat.le_refl N)
  rw [Nat.sub_self] at h2
  exact h2
/-- a loop that may leave: what holds of the rounds gone goes along -/
theorem pt_forI {wsf : Nat → va_W} {lvf : Nat → List (Nat × Value)} {I : Nat → Prop} (N : Nat) (h0 : I 0) (last : I N → pt_P p l e R s m args below meth c D A nL Q cells slots pc (wsf N) (lvf N) st)
    (step : ∀ j, j < N → I j → (I (j + 1) → pt_P p l e R s m args below meth c D A nL Q cells slots pc (wsf (j + 1)) (lvf (j + 1)) st) → pt_P p l e R s m args below meth c D A nL Q cells slots pc (wsf j) (lvf j) st) : pt_P p l e R s m args below meth c D A nL Q cells slots pc (wsf 0) (lvf 0) st := by
  have h : ∀ k, k ≤ N → I (N - k) → pt_P p l e R s m args below meth c D A nL Q cells slots pc (wsf (N - k)) (lvf (N - k)) st := by
    intro k
    induction k with
    | zero => intro _ hi; exact last hi
    | succ k ih =>
      intro hk hi
      have h1 := step (N - (k + 1)) (by omega) hi
      rw [show N - (k + 1) + 1 = N - k by omega] at h1
      exact h1 (ih (by omega))
  have h2 := h N (Nat.le_refl N)
  rw [Nat.sub_self] at h2
  exact h2 h0
/-- a place where branches meet -/
theorem pt_jn {k n q : Nat} (ws0 : va_W) (lv0 : List (Nat × Value)) (st0 : List Value) (f : pt_P p l e R s m args below meth c D A nL Q k n q ws0 lv0 st0 → pt_P p l e R s m args below meth c D A nL Q cells slots pc ws lv st) (K : pt_P p l e R s m args below meth c D A nL Q k n q ws0 lv0 st0) : pt_P p l e R s m args below meth c D A nL Q cells slots pc ws lv st := f K
/-- what stands behind an array's end may be read as one likes -/
theorem pt_ext {a N : Nat} {f : Nat → Int32} (g : Nat → Int32) (q0 : Nat) (he : ws[q0]? = some (a, .inl (cA, N, .inl f))) (h : ∀ j, j < N → f j = g j) (hw : ws.set q0 (a, .inl (cA, N, .inl g)) = ws') (K : pt_P p l e R s m args below meth c D A nL Q cells slots pc ws' lv st) : pt_P p l e R s m args below meth c D A nL Q cells slots pc ws lv st := by
  subst hw
  refine fun H locs ls hP hD hS hl => K H locs ls (hP.set hD he ?_ (fun _ _ => rfl)) (hD.set he) hS hl
  show H[a]? = some (vp_cell cA (N, .inl g))
  have h2 : H[a]? = some (vp_cell cA (N, .inl f)) := hP q0 _ he
  have h3 : vp_cell cA (N, .inl f) = vp_cell cA (N, .inl g) := by
    rw [vp_cell_i, vp_cell_i, arrV, arrV]
    have h4 : (fun j : Fin N => Value.int (f j.val)) = (fun j : Fin N => Value.int (g j.val)) := by
      funext j
      rw [h j.val j.isLt]
    rw [h4]
  rw [h2, h3]
section ROWS
theorem pt_iconst (C : pt_C p s m args c cc nL Ts own D tys A) {n : Int} {v : Int32} (hd : decode cc pc = .ok (.iconst n, 1)) (hpc : pc + 1 = pc') (hv : Int32.ofInt n = v) (K : pt_P p l e R s m args below meth c D A nL Q cells slots pc' ws lv (.int v :: st)) : pt_P p l e R s m args below meth c D A nL Q cells slots pc ws lv st := by
  subst hpc; exact fun H locs ls hP hD hS h => lv_iconst C.1 C.2.1 hd hv (K H locs ls hP hD hS h)
theorem pt_bipush (C : pt_C p s m args c cc nL Ts own D tys A) {n : Int} {v : Int32} (hd : decode cc pc = .ok (.bipush n, 2)) (hpc : pc + 2 = pc') (hv : (Int8.ofInt n).toInt32 = v) (K : pt_P p l e R s m args below meth c D A nL Q cells slots pc' ws lv (.int v :: st)) : pt_P p l e R s m args below meth c D A nL Q cells slots pc ws lv st := by
  subst hpc; exact fun H locs ls hP hD hS h => lv_bipush C.1 C.2.1 hd hv (K H locs ls hP hD hS h)
theorem pt_sipush (C : pt_C p s m args c cc nL Ts own D tys A) {n : Int} {v : Int32} (hd : decode cc pc = .ok (.sipush n, 3)) (hpc : pc + 3 = pc') (hv : (Int16.ofInt n).toInt32 = v) (K : pt_P p l e R s m args below meth c D A nL Q cells slots pc' ws lv (.int v :: st)) : pt_P p l e R s m args below meth c D A nL Q cells slots pc ws lv st := by
  subst hpc; exact fun H locs ls hP hD hS h => lv_sipush C.1 C.2.1 hd hv (K H locs ls hP hD hS h)
theorem pt_ldc (C : pt_C p s m args c cc nL Ts own D tys A) {index : Nat} {v : Int32} (hd : decode cc pc = .ok (.ldc index, 2)) (hpc : pc + 2 = pc') (hk : (Jvm.Cond.constant own index v).before args s = true) (K : pt_P p l e R s m args below meth c D A nL Q cells slots pc' ws lv (.int v :: st)) : pt_P p l e R s m args below meth c D A nL Q cells slots pc ws lv st := by
  subst hpc; exact fun H locs ls hP hD hS h => lv_ldc C.1 C.2.1 C.2.2.2.1 hk hd (K H locs ls hP hD hS h)
theorem pt_iload_n (C : pt_C p s m args c cc nL Ts own D tys A) {k : Fin 4} {x : Int32} (hd : decode cc pc = .ok (.iload_n k, 1)) (hpc : pc + 1 = pc') (i : Nat) (hi : lv[i]? = some ((k : Nat), .int x)) (K : pt_P p l e R s m args below meth c D A nL Q cells slots pc' ws lv (.int x :: st)) : pt_P p l e R s m args below meth c D A nL Q cells slots pc ws lv st := by
  subst hpc; exact fun H locs ls hP hD hS h => lv_iload_n C.1 C.2.1 hd rfl (lv_at h i hi) (K H locs ls hP hD hS h)
theorem pt_iload (C : pt_C p s m args c cc nL Ts own D tys A) {k : Nat} {x : Int32} (hd : decode cc pc = .ok (.iload k, 2)) (hpc : pc + 2 = pc') (i : Nat) (hi : lv[i]? = some (k, .int x)) (K : pt_P p l e R s m args below meth c D A nL Q cells slots pc' ws lv (.int x :: st)) : pt_P p l e R s m args below meth c D A nL Q cells slots pc ws lv st := by
  subst hpc; exact fun H locs ls hP hD hS h => lv_iload C.1 C.2.1 hd (lv_at h i hi) (K H locs ls hP hD hS h)
theorem pt_aload_n (C : pt_C p s m args c cc nL Ts own D tys A) {k : Fin 4} {a : Nat} (hd : decode cc pc = .ok (.aload_n k, 1)) (hpc : pc + 1 = pc') (i : Nat) (hi : lv[i]? = some ((k : Nat), .ref a)) (K : pt_P p l e R s m args below meth c D A nL Q cells slots pc' ws lv (.ref a :: st)) : pt_P p l e R s m args below meth c D A nL Q cells slots pc ws lv st := by
  subst hpc; exact fun H locs ls hP hD hS h => lv_aload_n C.1 C.2.1 hd rfl (lv_at h i hi) (K H locs ls hP hD hS h)
theorem pt_aload (C : pt_C p s m args c cc nL Ts own D tys A) {k : Nat} {a : Nat} (hd : decode cc pc = .ok (.aload k, 2)) (hpc : pc + 2 = pc') (i : Nat) (hi : lv[i]? = some (k, .ref a)) (K : pt_P p l e R s m args below meth c D A nL Q cells slots pc' ws lv (.ref a :: st)) : pt_P p l e R s m args below meth c D A nL Q cells slots pc ws lv st := by
  subst hpc; exact fun H locs ls hP hD hS h => lv_aload C.1 C.2.1 hd (lv_at h i hi) (K H locs ls hP hD hS h)
theorem pt_istore_n (C : pt_C p s m args c cc nL Ts own D tys A) {k : Fin 4} {i : Nat} {x : Int32} (hd : decode cc pc = .ok (.istore_n k, 1)) (hpc : pc + 1 = pc') (hi : (k : Nat) = i) (hn : i < nL) (hl : (i, Value.int x) :: lv.filter (fun q => !(q.1 == i) && !(q.1 + 1 == i && q.2.category == 2)) = lv') (K : pt_P p l e R s m args below meth c D A nL Q cells slots pc' ws lv' rest) : pt_P p l e R s m args below meth c D A nL Q cells slots pc ws lv (.int x :: rest) := by
  subst hpc; exact fun H locs ls hP hD hS h => lv_istore_n C.1 C.2.1 hd hi h hn hl (fun ls' h' => K H locs ls' hP hD hS h')
theorem pt_istore (C : pt_C p s m args c cc nL Ts own D tys A) {i : Nat} {x : Int32} (hd : decode cc pc = .ok (.istore i, 2)) (hpc : pc + 2 = pc') (hn : i < nL) (hl : (i, Value.int x) :: lv.filter (fun q => !(q.1 == i) && !(q.1 + 1 == i && q.2.category == 2)) = lv') (K : pt_P p l e R s m args below meth c D A nL Q cells slots pc' ws lv' rest) : pt_P p l e R s m args below meth c D A nL Q cells slots pc ws lv (.int x :: rest) := by
  subst hpc; exact fun H locs ls hP hD hS h => lv_istore C.1 C.2.1 hd h hn hl (fun ls' h' => K H locs ls' hP hD hS h')
theorem pt_iinc (C : pt_C p s m args c cc nL Ts own D tys A) {i : Nat} {n : Int} {x v : Int32} (hd : decode cc pc = .ok (.iinc i n, 3)) (hpc : pc + 3 = pc') (k : Nat) (hk : lv[k]? = some (i, .int x)) (hv : x + Int32.ofInt n = v) (hn : i < nL) (hl : (i, Value.int v) :: lv.filter (fun q => !(q.1 == i) && !(q.1 + 1 == i && q.2.category == 2)) = lv') (K : pt_P p l e R s m args below meth c D A nL Q cells slots pc' ws lv' st) : pt_P p l e R s m args below meth c D A nL Q cells slots pc ws lv st := by
  subst hpc; exact fun H locs ls hP hD hS h => lv_iinc C.1 C.2.1 hd h hk hv hn hl (fun ls' h' => K H locs ls' hP hD hS h')
theorem pt_iadd (C : pt_C p s m args c cc nL Ts own D tys A) {x y : Int32} (hd : decode cc pc = .ok (.iadd, 1)) (hpc : pc + 1 = pc') (K : pt_P p l e R s m args below meth c D A nL Q cells slots pc' ws lv (.int (x + y) :: rest)) : pt_P p l e R s m args below meth c D A nL Q cells slots pc ws lv (.int y :: .int x :: rest) := by
  subst hpc; exact fun H locs ls hP hD hS h => lv_iadd C.1 C.2.1 hd (K H locs ls hP hD hS h)
theorem pt_isub (C : pt_C p s m args c cc nL Ts own D tys A) {x y : Int32} (hd : decode cc pc = .ok (.isub, 1)) (hpc : pc + 1 = pc') (K : pt_P p l e R s m args below meth c D A nL Q cells slots pc' ws lv (.int (x - y) :: rest)) : pt_P p l e R s m args below meth c D A nL Q cells slots pc ws lv (.int y :: .int x :: rest) := by
  subst hpc; exact fun H locs ls hP hD hS h => lv_isub C.1 C.2.1 hd (K H locs ls hP hD hS h)
theorem pt_imul (C : pt_C p s m args c cc nL Ts own D tys A) {x y : Int32} (hd : decode cc pc = .ok (.imul, 1)) (hpc : pc + 1 = pc') (K : pt_P p l e R s m args below meth c D A nL Q cells slots pc' ws lv (.int (x * y) :: rest)) : pt_P p l e R s m args below meth c D A nL Q cells slots pc ws lv (.int y :: .int x :: rest) := by
  subst hpc; exact fun H locs ls hP hD hS h => lv_imul C.1 C.2.1 hd (K H locs ls hP hD hS h)
theorem pt_idiv (C : pt_C p s m args c cc nL Ts own D tys A) {x y : Int32} (hd : decode cc pc = .ok (.idiv, 1)) (hpc : pc + 1 = pc') (hne : ¬ y = 0) (K : pt_P p l e R s m args below meth c D A nL Q cells slots pc' ws lv (.int (x / y) :: rest)) : pt_P p l e R s m args below meth c D A nL Q cells slots pc ws lv (.int y :: .int x :: rest) := by
  subst hpc; exact fun H locs ls hP hD hS h => lv_idiv C.1 C.2.1 hd hne (K H locs ls hP hD hS h)
theorem pt_iand (C : pt_C p s m args c cc nL Ts own D tys A) {x y : Int32} (hd : decode cc pc = .ok (.iand, 1)) (hpc : pc + 1 = pc') (K : pt_P p l e R s m args below meth c D A nL Q cells slots pc' ws lv (.int (x &&& y) :: rest)) : pt_P p l e R s m args below meth c D A nL Q cells slots pc ws lv (.int y :: .int x :: rest) := by
  subst hpc; exact fun H locs ls hP hD hS h => lv_iand C.1 C.2.1 hd (K H locs ls hP hD hS h)
theorem pt_ior (C : pt_C p s m args c cc nL Ts own D tys A) {x y : Int32} (hd : decode cc pc = .ok (.ior, 1)) (hpc : pc + 1 = pc') (K : pt_P p l e R s m args below meth c D A nL Q cells slots pc' ws lv (.int (x ||| y) :: rest)) : pt_P p l e R s m args below meth c D A nL Q cells slots pc ws lv (.int y :: .int x :: rest) := by
  subst hpc; exact fun H locs ls hP hD hS h => lv_ior C.1 C.2.1 hd (K H locs ls hP hD hS h)
theorem pt_ixor (C : pt_C p s m args c cc nL Ts own D tys A) {x y : Int32} (hd : decode cc pc = .ok (.ixor, 1)) (hpc : pc + 1 = pc') (K : pt_P p l e R s m args below meth c D A nL Q cells slots pc' ws lv (.int (x ^^^ y) :: rest)) : pt_P p l e R s m args below meth c D A nL Q cells slots pc ws lv (.int y :: .int x :: rest) := by
  subst hpc; exact fun H locs ls hP hD hS h => lv_ixor C.1 C.2.1 hd (K H locs ls hP hD hS h)
theorem pt_ishl (C : pt_C p s m args c cc nL Ts own D tys A) {x y : Int32} (hd : decode cc pc = .ok (.ishl, 1)) (hpc : pc + 1 = pc') (K : pt_P p l e R s m args below meth c D A nL Q cells slots pc' ws lv (.int (x <<< (y &&& 31)) :: rest)) : pt_P p l e R s m args below meth c D A nL Q cells slots pc ws lv (.int y :: .int x :: rest) := by
  subst hpc; exact fun H locs ls hP hD hS h => lv_ishl C.1 C.2.1 hd (K H locs ls hP hD hS h)
theorem pt_ishr (C : pt_C p s m args c cc nL Ts own D tys A) {x y : Int32} (hd : decode cc pc = .ok (.ishr, 1)) (hpc : pc + 1 = pc') (K : pt_P p l e R s m args below meth c D A nL Q cells slots pc' ws lv (.int (x >>> (y &&& 31)) :: rest)) : pt_P p l e R s m args below meth c D A nL Q cells slots pc ws lv (.int y :: .int x :: rest) := by
  subst hpc; exact fun H locs ls hP hD hS h => lv_ishr C.1 C.2.1 hd (K H locs ls hP hD hS h)
theorem pt_ineg (C : pt_C p s m args c cc nL Ts own D tys A) {x : Int32} (hd : decode cc pc = .ok (.ineg, 1)) (hpc : pc + 1 = pc') (K : pt_P p l e R s m args below meth c D A nL Q cells slots pc' ws lv (.int (-x) :: rest)) : pt_P p l e R s m args below meth c D A nL Q cells slots pc ws lv (.int x :: rest) := by
  subst hpc; exact fun H locs ls hP hD hS h => lv_ineg C.1 C.2.1 hd (K H locs ls hP hD hS h)
theorem pt_dup (C : pt_C p s m args c cc nL Ts own D tys A) {va : Value} (hd : decode cc pc = .ok (.dup, 1)) (hpc : pc + 1 = pc') (hva : va.category = 1) (K : pt_P p l e R s m args below meth c D A nL Q cells slots pc' ws lv (va :: va :: rest)) : pt_P p l e R s m args below meth c D A nL Q cells slots pc ws lv (va :: rest) := by
  subst hpc; exact fun H locs ls hP hD hS h => lv_dup C.1 C.2.1 hd hva (K H locs ls hP hD hS h)
theorem pt_pop (C : pt_C p s m args c cc nL Ts own D tys A) {va : Value} (hd : decode cc pc = .ok (.pop, 1)) (hpc : pc + 1 = pc') (hva : va.category = 1) (K : pt_P p l e R s m args below meth c D A nL Q cells slots pc' ws lv rest) : pt_P p l e R s m args below meth c D A nL Q cells slots pc ws lv (va :: rest) := by
  subst hpc; exact fun H locs ls hP hD hS h => lv_pop C.1 C.2.1 hd hva (K H locs ls hP hD hS h)
theorem pt_dup_x1 (C : pt_C p s m args c cc nL Ts own D tys A) {va vb : Value} (hd : decode cc pc = .ok (.dup_x1, 1)) (hpc : pc + 1 = pc') (hva : va.category = 1) (hvb : vb.category = 1) (K : pt_P p l e R s m args below meth c D A nL Q cells slots pc' ws lv (va :: vb :: va :: rest)) : pt_P p l e R s m args below meth c D A nL Q cells slots pc ws lv (va :: vb :: rest) := by
  subst hpc; exact fun H locs ls hP hD hS h => lv_dup_x1 C.1 C.2.1 hd hva hvb (K H locs ls hP hD hS h)
theorem pt_dup2 (C : pt_C p s m args c cc nL Ts own D tys A) {va vb : Value} (hd : decode cc pc = .ok (.dup2, 1)) (hpc : pc + 1 = pc') (hva : va.category = 1) (hvb : vb.category = 1) (K : pt_P p l e R s m args below meth c D A nL Q cells slots pc' ws lv (va :: vb :: va :: vb :: rest)) : pt_P p l e R s m args below meth c D A nL Q cells slots pc ws lv (va :: vb :: rest) := by
  subst hpc; exact fun H locs ls hP hD hS h => lv_dup2_11 C.1 C.2.1 hd hva hvb (K H locs ls hP hD hS h)
theorem pt_goto (C : pt_C p s m args c cc nL Ts own D tys A) {off : Int} (hd : decode cc pc = .ok (.goto off, 3)) (hpc : (pc : Int) + off = (pc' : Int)) (K : pt_P p l e R s m args below meth c D A nL Q cells slots pc' ws lv st) : pt_P p l e R s m args below meth c D A nL Q cells slots pc ws lv st :=
  fun H locs ls hP hD hS h => lv_goto C.1 C.2.1 hd hpc (K H locs ls hP hD hS h)
theorem pt_if_eq (C : pt_C p s m args c cc nL Ts own D tys A) {x : Int32} {off : Int} {tgt : Nat} (hd : decode cc pc = .ok (.ifCond .eq off, 3)) (ht : (pc : Int) + off = (tgt : Int)) (hpc : pc + 3 = pc') (kt : x = 0 → pt_P p l e R s m args below meth c D A nL Q cells slots tgt ws lv rest) (kf : ¬ x = 0 → pt_P p l e R s m args below meth c D A nL Q cells slots pc' ws lv rest) : pt_P p l e R s m args below meth c D A nL Q cells slots pc ws lv (.int x :: rest) := by
  subst hpc; exact fun H locs ls hP hD hS h => lv_if_eq C.1 C.2.1 hd ht (fun c => kt c H locs ls hP hD hS h) (fun c => kf c H locs ls hP hD hS h)
theorem pt_icmp_eq (C : pt_C p s m args c cc nL Ts own D tys A) {x y : Int32} {off : Int} {tgt : Nat} (hd : decode cc pc = .ok (.if_icmp .eq off, 3)) (ht : (pc : Int) + off = (tgt : Int)) (hpc : pc + 3 = pc') (kt : x = y → pt_P p l e R s m args below meth c D A nL Q cells slots tgt ws lv rest) (kf : ¬ x = y → pt_P p l e R s m args below meth c D A nL Q cells slots pc' ws lv rest) : pt_P p l e R s m args below meth c D A nL Q cells slots pc ws lv (.int y :: .int x :: rest) := by
  subst hpc; exact fun H locs ls hP hD hS h => lv_icmp_eq C.1 C.2.1 hd ht (fun c => kt c H locs ls hP hD hS h) (fun c => kf c H locs ls hP hD hS h)
theorem pt_if_ne (C : pt_C p s m args c cc nL Ts own D tys A) {x : Int32} {off : Int} {tgt : Nat} (hd : decode cc pc = .ok (.ifCond .ne off, 3)) (ht : (pc : Int) + off = (tgt : Int)) (hpc : pc + 3 = pc') (kt : ¬ x = 0 → pt_P p l e R s m args below meth c D A nL Q cells slots tgt ws lv rest) (kf : x = 0 → pt_P p l e R s m args below meth c D A nL Q cells slots pc' ws lv rest) : pt_P p l e R s m args below meth c D A nL Q cells slots pc ws lv (.int x :: rest) := by
  subst hpc; exact fun H locs ls hP hD hS h => lv_if_ne C.1 C.2.1 hd ht (fun c => kt c H locs ls hP hD hS h) (fun c => kf c H locs ls hP hD hS h)
theorem pt_icmp_ne (C : pt_C p s m args c cc nL Ts own D tys A) {x y : Int32} {off : Int} {tgt : Nat} (hd : decode cc pc = .ok (.if_icmp .ne off, 3)) (ht : (pc : Int) + off = (tgt : Int)) (hpc : pc + 3 = pc') (kt : ¬ x = y → pt_P p l e R s m args below meth c D A nL Q cells slots tgt ws lv rest) (kf : x = y → pt_P p l e R s m args below meth c D A nL Q cells slots pc' ws lv rest) : pt_P p l e R s m args below meth c D A nL Q cells slots pc ws lv (.int y :: .int x :: rest) := by
  subst hpc; exact fun H locs ls hP hD hS h => lv_icmp_ne C.1 C.2.1 hd ht (fun c => kt c H locs ls hP hD hS h) (fun c => kf c H locs ls hP hD hS h)
theorem pt_if_lt (C : pt_C p s m args c cc nL Ts own D tys A) {x : Int32} {off : Int} {tgt : Nat} (hd : decode cc pc = .ok (.ifCond .lt off, 3)) (ht : (pc : Int) + off = (tgt : Int)) (hpc : pc + 3 = pc') (kt : x < 0 → pt_P p l e R s m args below meth c D A nL Q cells slots tgt ws lv rest) (kf : ¬ x < 0 → pt_P p l e R s m args below meth c D A nL Q cells slots pc' ws lv rest) : pt_P p l e R s m args below meth c D A nL Q cells slots pc ws lv (.int x :: rest) := by
  subst hpc; exact fun H locs ls hP hD hS h => lv_if_lt C.1 C.2.1 hd ht (fun c => kt c H locs ls hP hD hS h) (fun c => kf c H locs ls hP hD hS h)
theorem pt_icmp_lt (C : pt_C p s m args c cc nL Ts own D tys A) {x y : Int32} {off : Int} {tgt : Nat} (hd : decode cc pc = .ok (.if_icmp .lt off, 3)) (ht : (pc : Int) + off = (tgt : Int)) (hpc : pc + 3 = pc') (kt : x < y → pt_P p l e R s m args below meth c D A nL Q cells slots tgt ws lv rest) (kf : ¬ x < y → pt_P p l e R s m args below meth c D A nL Q cells slots pc' ws lv rest) : pt_P p l e R s m args below meth c D A nL Q cells slots pc ws lv (.int y :: .int x :: rest) := by
  subst hpc; exact fun H locs ls hP hD hS h => lv_icmp_lt C.1 C.2.1 hd ht (fun c => kt c H locs ls hP hD hS h) (fun c => kf c H locs ls hP hD hS h)
theorem pt_if_ge (C : pt_C p s m args c cc nL Ts own D tys A) {x : Int32} {off : Int} {tgt : Nat} (hd : decode cc pc = .ok (.ifCond .ge off, 3)) (ht : (pc : Int) + off = (tgt : Int)) (hpc : pc + 3 = pc') (kt : 0 ≤ x → pt_P p l e R s m args below meth c D A nL Q cells slots tgt ws lv rest) (kf : ¬ 0 ≤ x → pt_P p l e R s m args below meth c D A nL Q cells slots pc' ws lv rest) : pt_P p l e R s m args below meth c D A nL Q cells slots pc ws lv (.int x :: rest) := by
  subst hpc; exact fun H locs ls hP hD hS h => lv_if_ge C.1 C.2.1 hd ht (fun c => kt c H locs ls hP hD hS h) (fun c => kf c H locs ls hP hD hS h)
theorem pt_icmp_ge (C : pt_C p s m args c cc nL Ts own D tys A) {x y : Int32} {off : Int} {tgt : Nat} (hd : decode cc pc = .ok (.if_icmp .ge off, 3)) (ht : (pc : Int) + off = (tgt : Int)) (hpc : pc + 3 = pc') (kt : y ≤ x → pt_P p l e R s m args below meth c D A nL Q cells slots tgt ws lv rest) (kf : ¬ y ≤ x → pt_P p l e R s m args below meth c D A nL Q cells slots pc' ws lv rest) : pt_P p l e R s m args below meth c D A nL Q cells slots pc ws lv (.int y :: .int x :: rest) := by
  subst hpc; exact fun H locs ls hP hD hS h => lv_icmp_ge C.1 C.2.1 hd ht (fun c => kt c H locs ls hP hD hS h) (fun c => kf c H locs ls hP hD hS h)
theorem pt_if_gt (C : pt_C p s m args c cc nL Ts own D tys A) {x : Int32} {off : Int} {tgt : Nat} (hd : decode cc pc = .ok (.ifCond .gt off, 3)) (ht : (pc : Int) + off = (tgt : Int)) (hpc : pc + 3 = pc') (kt : 0 < x → pt_P p l e R s m args below meth c D A nL Q cells slots tgt ws lv rest) (kf : ¬ 0 < x → pt_P p l e R s m args below meth c D A nL Q cells slots pc' ws lv rest) : pt_P p l e R s m args below meth c D A nL Q cells slots pc ws lv (.int x :: rest) := by
  subst hpc; exact fun H locs ls hP hD hS h => lv_if_gt C.1 C.2.1 hd ht (fun c => kt c H locs ls hP hD hS h) (fun c => kf c H locs ls hP hD hS h)
theorem pt_icmp_gt (C : pt_C p s m args c cc nL Ts own D tys A) {x y : Int32} {off : Int} {tgt : Nat} (hd : decode cc pc = .ok (.if_icmp .gt off, 3)) (ht : (pc : Int) + off = (tgt : Int)) (hpc : pc + 3 = pc') (kt : y < x → pt_P p l e R s m args below meth c D A nL Q cells slots tgt ws lv rest) (kf : ¬ y < x → pt_P p l e R s m args below meth c D A nL Q cells slots pc' ws lv rest) : pt_P p l e R s m args below meth c D A nL Q cells slots pc ws lv (.int y :: .int x :: rest) := by
  subst hpc; exact fun H locs ls hP hD hS h => lv_icmp_gt C.1 C.2.1 hd ht (fun c => kt c H locs ls hP hD hS h) (fun c => kf c H locs ls hP hD hS h)
theorem pt_if_le (C : pt_C p s m args c cc nL Ts own D tys A) {x : Int32} {off : Int} {tgt : Nat} (hd : decode cc pc = .ok (.ifCond .le off, 3)) (ht : (pc : Int) + off = (tgt : Int)) (hpc : pc + 3 = pc') (kt : x ≤ 0 → pt_P p l e R s m args below meth c D A nL Q cells slots tgt ws lv rest) (kf : ¬ x ≤ 0 → pt_P p l e R s m args below meth c D A nL Q cells slots pc' ws lv rest) : pt_P p l e R s m args below meth c D A nL Q cells slots pc ws lv (.int x :: rest) := by
  subst hpc; exact fun H locs ls hP hD hS h => lv_if_le C.1 C.2.1 hd ht (fun c => kt c H locs ls hP hD hS h) (fun c => kf c H locs ls hP hD hS h)
theorem pt_icmp_le (C : pt_C p s m args c cc nL Ts own D tys A) {x y : Int32} {off : Int} {tgt : Nat} (hd : decode cc pc = .ok (.if_icmp .le off, 3)) (ht : (pc : Int) + off = (tgt : Int)) (hpc : pc + 3 = pc') (kt : x ≤ y → pt_P p l e R s m args below meth c D A nL Q cells slots tgt ws lv rest) (kf : ¬ x ≤ y → pt_P p l e R s m args below meth c D A nL Q cells slots pc' ws lv rest) : pt_P p l e R s m args below meth c D A nL Q cells slots pc ws lv (.int y :: .int x :: rest) := by
  subst hpc; exact fun H locs ls hP hD hS h => lv_icmp_le C.1 C.2.1 hd ht (fun c => kt c H locs ls hP hD hS h) (fun c => kf c H locs ls hP hD hS h)
theorem pt_tabIn (C : pt_C p s m args c cc nL Ts own D tys A) {dflt lo hi : Int} {offs : Array Int} {len : Nat} {x : Int32} {off : Int} {tgt : Nat} (hd : decode cc pc = .ok (.tableswitch dflt lo hi offs, len)) (h1 : ¬ x.toInt < lo) (h2 : ¬ hi < x.toInt) (ho : offs[(x.toInt - lo).toNat]? = some off) (ht : (pc : Int) + off = (tgt : Int)) (K : pt_P p l e R s m args below meth c D A nL Q cells slots tgt ws lv rest) : pt_P p l e R s m args below meth c D A nL Q cells slots pc ws lv (.int x :: rest) :=
  fun H locs ls hP hD hS h => lv_tableIn C.1 C.2.1 hd h1 h2 ho ht (K H locs ls hP hD hS h)
theorem pt_tabOut (C : pt_C p s m args c cc nL Ts own D tys A) {dflt lo hi : Int} {offs : Array Int} {len : Nat} {x : Int32} {tgt : Nat} (hd : decode cc pc = .ok (.tableswitch dflt lo hi offs, len)) (h1 : x.toInt < lo ∨ hi < x.toInt) (ht : (pc : Int) + dflt = (tgt : Int)) (K : pt_P p l e R s m args below meth c D A nL Q cells slots tgt ws lv rest) : pt_P p l e R s m args below meth c D A nL Q cells slots pc ws lv (.int x :: rest) :=
  fun H locs ls hP hD hS h => lv_tableOut C.1 C.2.1 hd h1 ht (K H locs ls hP hD hS h)
theorem pt_get (C : pt_C p s m args c cc nL Ts own D tys A) {Cn : String} {T : u_T} {N ci index a : Nat} {fs : List Value} {v : Value} (hin : ∀ w ∈ u_ws Cn T N, w ∈ Ts) (hd : decode cc pc = .ok (.getfield index, 3)) (hpc : pc + 3 = pc') (q0 k : Nat) (he : ws[q0]? = some (a, .inr (ci, fs))) (hc : vwCl[ci]? = some (Cn, T, N)) (hk : k < N) (hlink : (Cond.fieldLink own index (T k).1 (T k).2.1 (T k).2.2.1).before args s = true) (hv : fs[k]? = some v) (K : pt_P p l e R s m args below meth c D A nL Q cells slots pc' ws lv (v :: rest)) : pt_P p l e R s m args below meth c D A nL Q cells slots pc ws lv (.ref a :: rest) := by
  subst hpc; exact fun H locs ls hP hD hS h => va_get C.1 C.2.1 C.hts hin C.2.2.2.1 C.2.2.2.2.2.1 hP q0 he hc k hk hlink (fun _ h9 => h9) hv hd (K H locs ls hP hD hS h)
theorem pt_put (C : pt_C p s m args c cc nL Ts own D tys A) {Cn : String} {T : u_T} {N ci index a : Nat} {fs : List Value} {v : Value} {ty : FieldType} (hin : ∀ w ∈ u_ws Cn T N, w ∈ Ts) (ty0 : Nat → FieldType) (hty : ∀ k, k < N → parseFieldDescriptor (T k).2.2.1 = some (ty0 k)) (hnm : ∀ a, a < N → ∀ b, b < N → a ≠ b → (T a).2.1 ≠ (T b).2.1) (hd : decode cc pc = .ok (.putfield index, 3)) (hpc : pc + 3 = pc') (q0 k : Nat) (he : ws[q0]? = some (a, .inr (ci, fs))) (hc : vwCl[ci]? = some (Cn, T, N)) (hk : k < N) (hlink : (Cond.fieldLink own index (T k).1 (T k).2.1 (T k).2.2.1).before args s = true) (hfin : (T k).2.2.2 = false) (htt : parseFieldDescriptor (T k).2.2.1 = some ty) (hn : narrow ty v = v) (hfit : fits ty v = true) (hlen : k < fs.length) (hw : ws.set q0 (a, .inr (ci, fs.set k v)) = ws') (K : pt_P p l e R s m args below meth c D A nL Q cells slots pc' ws' lv rest) : pt_P p l e R s m args below meth c D A nL Q cells slots pc ws lv (v :: .ref a :: rest) := by
  subst hpc; subst hw; exact fun H locs ls hP hD hS h => va_put C.1 C.2.1 C.hts hin ty0 hty hnm C.2.2.2.1 C.2.2.2.2.2.1 hP hD hS q0 he hc k hk hlink (fun _ h9 => h9) hfin htt hn hfit hlen hd (fun H1 locs1 hP hD hS => K H1 locs1 ls hP hD hS h)
theorem pt_putF (C : pt_C p s m args c cc nL Ts own D tys A) {Cn : String} {T : u_T} {N ci index a : Nat} {fs : List Value} {v : Value} {ty : FieldType} (hin2 : meth.name = "<init>") (hin : ∀ w ∈ u_ws Cn T N, w ∈ Ts) (ty0 : Nat → FieldType) (hty : ∀ k, k < N → parseFieldDescriptor (T k).2.2.1 = some (ty0 k)) (hnm : ∀ a, a < N → ∀ b, b < N → a ≠ b → (T a).2.1 ≠ (T b).2.1) (hd : decode cc pc = .ok (.putfield index, 3)) (hpc : pc + 3 = pc') (q0 k : Nat) (he : ws[q0]? = some (a, .inr (ci, fs))) (hc : vwCl[ci]? = some (Cn, T, N)) (hk : k < N) (hlink : (Cond.fieldLink own index (T k).1 (T k).2.1 (T k).2.2.1).before args s = true) (hfin : (T k).2.2.2 = true) (hdecl : (T k).1 = own) (htt : parseFieldDescriptor (T k).2.2.1 = some ty) (hn : narrow ty v = v) (hfit : fits ty v = true) (hlen : k < fs.length) (hw : ws.set q0 (a, .inr (ci, fs.set k v)) = ws') (K : pt_P p l e R s m args below meth c D A nL Q cells slots pc' ws' lv rest) : pt_P p l e R s m args below meth c D A nL Q cells slots pc ws lv (v :: .ref a :: rest) := by
  subst hpc; subst hw; exact fun H locs ls hP hD hS h => va_putF C.1 C.2.1 C.hts hin ty0 hty hnm C.2.2.2.1 C.2.2.2.2.2.1 hP hD hS q0 he hc k hk hlink (fun _ h9 => h9) hfin hin2 hdecl htt hn hfit hlen hd (fun H1 locs1 hP hD hS => K H1 locs1 ls hP hD hS h)
theorem pt_iald (C : pt_C p s m args c cc nL Ts own D tys A) {a n : Nat} {f : Nat → Int32} {i : Int32} (hd : decode cc pc = .ok (.iaload, 1)) (hpc : pc + 1 = pc') (q0 : Nat) (he : ws[q0]? = some (a, .inl (cA, n, .inl f))) (ht : tys[0]? = some (cA, .int)) (k : Nat) (hi : i = nI k) (hk : k < n) (hn : n < 2 ^ 31) (K : pt_P p l e R s m args below meth c D A nL Q cells slots pc' ws lv (.int (f k) :: rest)) : pt_P p l e R s m args below meth c D A nL Q cells slots pc ws lv (.int i :: .ref a :: rest) := by
  subst hpc; subst hi
  have e1 : (nI k).toNatClampNeg = k := nI_clamp (by omega)
  refine fun H locs ls hP hD hS h => va_iald C.1 C.2.1 C.2.2.2.2.2.1 hP q0 0 he ht (vp_in_nI hk hn) hd ?_
  rw [e1]
  exact K H locs ls hP hD hS h
theorem pt_iast (C : pt_C p s m args c cc nL Ts own D tys A) {a n : Nat} {f : Nat → Int32} {i x : Int32} (hd : decode cc pc = .ok (.iastore, 1)) (hpc : pc + 1 = pc') (q0 : Nat) (he : ws[q0]? = some (a, .inl (cA, n, .inl f))) (ht : tys[0]? = some (cA, .int)) (k : Nat) (hi : i = nI k) (hk : k < n) (hn : n < 2 ^ 31) (hw : ws.set q0 (a, .inl (cA, n, .inl (upd f k x))) = ws') (K : pt_P p l e R s m args below meth c D A nL Q cells slots pc' ws' lv rest) : pt_P p l e R s m args below meth c D A nL Q cells slots pc ws lv (.int x :: .int i :: .ref a :: rest) := by
  subst hpc; subst hi; subst hw
  have e1 : (nI k).toNatClampNeg = k := nI_clamp (by omega)
  refine fun H locs ls hP hD hS h => va_iast C.1 C.2.1 C.2.2.2.2.2.1 hP hD hS q0 0 he ht (vp_in_nI hk hn) hd ?_
  rw [e1]
  exact fun H1 locs1 hP hD hS => K H1 locs1 ls hP hD hS h
theorem pt_alen (C : pt_C p s m args c cc nL Ts own D tys A) {a n : Nat} {f : Nat → Int32} (hd : decode cc pc = .ok (.arraylength, 1)) (hpc : pc + 1 = pc') (q0 : Nat) (he : ws[q0]? = some (a, .inl (cA, n, .inl f))) (ht : tys[0]? = some (cA, .int)) (K : pt_P p l e R s m args below meth c D A nL Q cells slots pc' ws lv (.int (nI n) :: rest)) : pt_P p l e R s m args below meth c D A nL Q cells slots pc ws lv (.ref a :: rest) := by
  subst hpc; exact fun H locs ls hP hD hS h => va_alen C.1 C.2.1 C.2.2.2.2.2.1 hP q0 0 he ht rfl hd (K H locs ls hP hD hS h)
theorem pt_mmin (C : pt_C p s m args c cc nL Ts own D tys A) {index : Nat} {x y : Int32} (hd : decode cc pc = .ok (.invokestatic index, 3)) (hpc : pc + 3 = pc') (hlink : (Cond.methodLink own index Lib.Math.min.name).before args s = true) (hstat : (Cond.static Lib.Math.min.name).before args s = true) (hini : (Cond.initialized "java/lang/Math").before args s = true) (hcode : (Cond.code Lib.Math.min.name Lib.Math.min.code 2 (some .int)).before args s = true) (hframes : 1 ≤ R.frames) (hlocals : (rest.map fun v => v.category).sum + 13 ≤ R.locals) (hc : cells ≤ R.cells) (hs : slots ≤ R.slots) (K : pt_P p l e R s m args below meth c D A nL Q cells slots pc' ws lv (.int (if y < x then y else x) :: rest)) : pt_P p l e R s m args below meth c D A nL Q cells slots pc ws lv (.int y :: .int x :: rest) := by
  subst hpc; exact fun H locs ls hP hD hS h => va_mmin C.1 C.2.1 (C.2.2.1.trans h.1.symm) C.2.2.2.1 hlink hstat hini hcode hframes hlocals hc hs hd (K H locs ls hP hD hS h)
theorem pt_mmax (C : pt_C p s m args c cc nL Ts own D tys A) {index : Nat} {x y : Int32} (hd : decode cc pc = .ok (.invokestatic index, 3)) (hpc : pc + 3 = pc') (hlink : (Cond.methodLink own index Lib.Math.max.name).before args s = true) (hstat : (Cond.static Lib.Math.max.name).before args s = true) (hini : (Cond.initialized "java/lang/Math").before args s = true) (hcode : (Cond.code Lib.Math.max.name Lib.Math.max.code 2 (some .int)).before args s = true) (hframes : 1 ≤ R.frames) (hlocals : (rest.map fun v => v.category).sum + 13 ≤ R.locals) (hc : cells ≤ R.cells) (hs : slots ≤ R.slots) (K : pt_P p l e R s m args below meth c D A nL Q cells slots pc' ws lv (.int (if x < y then y else x) :: rest)) : pt_P p l e R s m args below meth c D A nL Q cells slots pc ws lv (.int y :: .int x :: rest) := by
  subst hpc; exact fun H locs ls hP hD hS h => va_mmax C.1 C.2.1 (C.2.2.1.trans h.1.symm) C.2.2.2.1 hlink hstat hini hcode hframes hlocals hc hs hd (K H locs ls hP hD hS h)
theorem pt_copy (C : pt_C p s m args c cc nL Ts own D tys A) {index a a0 n0 n1 : Nat} {f g : Nat → Int32} {nn : Int32} (hd : decode cc pc = .ok (.invokestatic index, 3)) (hpc : pc + 3 = pc') (hlink : (Cond.methodLink own index arraycopyName).before args s = true) (hnat : (Cond.native arraycopyName).before args s = true) (hstat : (Cond.static arraycopyName).before args s = true) (hini : (Cond.initialized "java/lang/System").before args s = true)
    (q0 q1 : Nat) (he0 : ws[q0]? = some (a0, .inl (cA, n0, .inl f))) (he1 : ws[q1]? = some (a, .inl (cA, n1, .inl g))) (ht : tys[0]? = some (cA, .int)) (k : Nat) (hk : nn = nI k) (h4 : k ≤ n0) (h5 : k ≤ n1) (hn : k < 2 ^ 31) (hframes : 1 ≤ R.frames) (hlocals : (rest.map fun v => v.category).sum + (nativeFrameWords "java/lang/System" "arraycopy" 5 + 11) ≤ R.locals)
    (hw : ws.set q1 (a, .inl (cA, n1, .inl (fun j => if j < k then f j else g j))) = ws') (K : pt_P p l e R s m args below meth c D A nL Q cells slots pc' ws' lv rest) : pt_P p l e R s m args below meth c D A nL Q cells slots pc ws lv (.int nn :: .int 0 :: .ref a :: .int 0 :: .ref a0 :: rest) := by
  subst hpc; subst hk; subst hw
  have e1 : (nI k).toNatClampNeg = k := nI_clamp hn
  have e0 : (0 : Int32).toNatClampNeg = 0 := rfl
  have e2 : va_cpy f g (0 : Int32).toNatClampNeg (0 : Int32).toNatClampNeg (nI k).toNatClampNeg = (fun j => if j < k then f j else g j) := by
    rw [e1, e0]
    funext j
    simp [va_cpy]
  refine fun H locs ls hP hD hS h => va_copyi C.1 C.2.1 (C.2.2.1.trans h.1.symm) C.2.2.2.1 hlink hnat hstat hini C.2.2.2.2.2.1 hP hD hS q0 q1 0 0 he0 he1 ht ht rfl (by decide) (by decide) (nI_pos hn) (by rw [e1, e0]; omega) (by rw [e1, e0]; omega) (fun i _ => rfl) hframes hlocals hd ?_
  rw [e2]
  exact fun H1 locs1 hP hD hS => K H1 locs1 ls hP hD hS h
theorem pt_copyA (C : pt_C p s m args c cc nL Ts own D tys A) {index a a0 n0 n1 : Nat} {f g : Nat → Int32} {nn : Int32} (hd : decode cc pc = .ok (.invokestatic index, 3)) (hpc : pc + 3 = pc') (hlink : (Cond.methodLink own index arraycopyName).before args s = true) (hnat : (Cond.native arraycopyName).before args s = true) (hstat : (Cond.static arraycopyName).before args s = true) (hini : (Cond.initialized "java/lang/System").before args s = true)
    (q0 q1 : Nat) (he0 : ws[q0]? = some (a0, .inl (cA, n0, .inl f))) (he1 : ws[q1]? = some (a, .inl (cA, n1, .inl g))) (ht : tys[0]? = some (cA, .int)) (hk : nn = nI n1) (h4 : n1 ≤ n0) (hn : n1 < 2 ^ 31) (hframes : 1 ≤ R.frames) (hlocals : (rest.map fun v => v.category).sum + (nativeFrameWords "java/lang/System" "arraycopy" 5 + 11) ≤ R.locals)
    (hw : ws.set q1 (a, .inl (cA, n1, .inl f)) = ws') (K : pt_P p l e R s m args below meth c D A nL Q cells slots pc' ws' lv rest) : pt_P p l e R s m args below meth c D A nL Q cells slots pc ws lv (.int nn :: .int 0 :: .ref a :: .int 0 :: .ref a0 :: rest) := by
  have hl : q1 < ws.length := (List.getElem?_eq_some_iff.mp he1).1
  refine pt_copy C hd hpc hlink hnat hstat hini q0 q1 he0 he1 ht n1 hk h4 (Nat.le_refl _) hn hframes hlocals rfl ?_
  refine pt_ext f q1 (List.getElem?_set_self hl) (fun j hj => if_pos hj) ?_ K
  rw [List.set_set]
  exact hw
end ROWS
/-! contracts: the answer and the world behind the method, as functions of the world ahead of it -/
def mt_B (D : va_G) (tys : List (ClassId × FieldType)) (A : Nat → Prop) (w1 : va_W) (t : State) : Prop := va_P D vwCl w1 t.heap ∧ va_K D vwCl tys t ∧ va_D A w1
def mt_Pc (D : va_G) (tys : List (ClassId × FieldType)) (sz : Nat) (w0 : va_W) : State → Prop := fun U => U.heap.size = sz ∧ va_P D vwCl w0 U.heap ∧ va_K D vwCl tys U ∧ va_D (fun _ => True) w0
def mt_I (l : Launch) (y : MethodName) (wy : List Cond) (rm : Room) (D : va_G) (tys : List (ClassId × FieldType)) (av : List Value) (w0 : va_W) (r : Int32) (w1 : va_W) : Prop :=
  ∀ sz : Nat, Met l y wy rm (va_Pc av (mt_Pc D tys sz w0)) (va_Qi (fun r' (_ : Unit) => r' = r) (fun _ t => mt_B D tys (va_A w0 sz) w1 t) (va_A w0 sz)) 0 0 (va_A w0 sz)
def mt_V (l : Launch) (y : MethodName) (wy : List Cond) (rm : Room) (D : va_G) (tys : List (ClassId × FieldType)) (av : List Value) (w0 : va_W) (w1 : va_W) : Prop :=
  ∀ sz : Nat, Met l y wy rm (va_Pc av (mt_Pc D tys sz w0)) (va_Qv (fun (_ : Unit) => True) (fun _ t => mt_B D tys (va_A w0 sz) w1 t) (va_A w0 sz)) 0 0 (va_A w0 sz)
theorem mt_blind {av : List Value} {sz : Nat} {w0 : va_W} : FrameBlind (va_Pc av (mt_Pc D tys sz w0)) := fun a U g mk q => ⟨q.1, q.2.1, q.2.2.1, va_K.moved (u := U) (U := U.calling g mk a) (Vm.Alike.refl U.vm) q.2.2.2.1, q.2.2.2.2⟩
theorem mt_pre {H : Heap} {av : List Value} {w0 : va_W} {A0 : Nat → Prop} (hK : va_K D vwCl tys s) (hP : va_P D vwCl w0 H) (hD : va_D A0 w0) : ∀ U : State, U.heap = H → s.WarmedH U.vm → va_Pc av (mt_Pc D tys H.size w0) av.toArray U :=
  fun U hU hW => ⟨rfl, by rw [hU], by rw [hU]; exact hP, va_K.moved hW.alike hK, hD.weaken (fun _ _ _ _ => trivial)⟩
/-- what a body owes -/
def pt_QI (below : List Frame) (args : Array Value) (s : State) (D : va_G) (tys : List (ClassId × FieldType)) (A : Nat → Prop) (r : Int32) (w1 : va_W) : State → Prop := MQ below (va_Qi (fun r' (_ : Unit) => r' = r) (fun _ t => mt_B D tys A w1 t) A) args s 0 0 A
def pt_QV (below : List Frame) (args : Array Value) (s : State) (D : va_G) (tys : List (ClassId × FieldType)) (A : Nat → Prop) (w1 : va_W) : State → Prop := MQ below (va_Qv (fun (_ : Unit) => True) (fun _ t => mt_B D tys A w1 t) A) args s 0 0 A
theorem mt_ofI {y : MethodName} {wy wy' : List Cond} {rm : Room} {av : List Value} {w0 w1 : va_W} {r : Int32} {maxL : Nat} {ret : Option FieldType} (hy : plainName y.cls = true) (hw : wy = Cond.code y cc maxL ret :: wy') (hlen : (lg_sl av).length ≤ maxL) (hlv : lv_args 0 av = lv)
    (body : ∀ (p : Program) (e : Env) (s : State) (m : MethodId) (args : Array Value) (below : List Frame) (meth : Method) (c : Code) (A : Nat → Prop), pt_C p s m args c cc maxL wy y.cls D tys A → meth.sig.returnType = ret → meth.locks = false → pt_P p l e rm s m args below meth c D A maxL (pt_QI below args s D tys A r w1) 0 0 0 w0 lv []) : mt_I l y wy rm D tys av w0 r w1 := by
  intro sz
  refine Met.ofW (cc := cc) (maxL := maxL) (ret := ret) hy hw ?_
  intro p e s m args below meth c s₁ B hml hv
  obtain ⟨rfl, hsz, hP, hK, hD0⟩ := hv
  have hts := atoms_spec (ws := wy) B.pre
  subst hsz
  have hA : ∀ q : Nat, s.heap.size ≤ q → va_A w0 s.heap.size q := fun q h => Or.inr h
  have hl := lv_entry av (n := maxL) hlen
  rw [lg_entry_eq]
  rw [hlv] at hl
  exact body p e s m _ below meth c _ ⟨B.exec, B.bytes, hml, findClass_of_methodNamed B.named, hts, hK, hA⟩ B.returns B.notSynchronized s.heap [] _ hP (hD0.self) va_S.rf hl
theorem mt_ofIF {y : MethodName} {wy wy' : List Cond} {rm : Room} {av : List Value} {w0 w1 : va_W} {r : Int32} {maxL : Nat} {ret : Option FieldType} (hy : plainFor y = true) (hw : wy = Cond.code y cc maxL ret :: wy') (hlen : (lg_sl av).length ≤ maxL) (hlv : lv_args 0 av = lv)
    (body : ∀ (p : Program) (e : Env) (s : State) (m : MethodId) (args : Array Value) (below : List Frame) (meth : Method) (c : Code) (A : Nat → Prop), pt_C p s m args c cc maxL wy y.cls D tys A → meth.sig.returnType = ret → meth.locks = false → pt_P p l e rm s m args below meth c D A maxL (pt_QI below args s D tys A r w1) 0 0 0 w0 lv []) : mt_I l y wy rm D tys av w0 r w1 := by
  intro sz
  refine va_MetF (cc := cc) (maxL := maxL) (ret := ret) hy hw ?_
  intro p e s m args below meth c s₁ B hml hv
  obtain ⟨rfl, hsz, hP, hK, hD0⟩ := hv
  have hts := atoms_spec (ws := wy) B.pre
  subst hsz
  have hA : ∀ q : Nat, s.heap.size ≤ q → va_A w0 s.heap.size q := fun q h => Or.inr h
  have hl := lv_entry av (n := maxL) hlen
  rw [lg_entry_eq]
  rw [hlv] at hl
  exact body p e s m _ below meth c _ ⟨B.exec, B.bytes, hml, findClass_of_methodNamed B.named, hts, hK, hA⟩ B.returns B.notSynchronized s.heap [] _ hP (hD0.self) va_S.rf hl
theorem mt_ofV {y : MethodName} {wy wy' : List Cond} {rm : Room} {av : List Value} {w0 w1 : va_W} {maxL : Nat} {ret : Option FieldType} (hy : plainName y.cls = true) (hw : wy = Cond.code y cc maxL ret :: wy') (hlen : (lg_sl av).length ≤ maxL) (hlv : lv_args 0 av = lv)
    (body : ∀ (p : Program) (e : Env) (s : State) (m : MethodId) (args : Array Value) (below : List Frame) (meth : Method) (c : Code) (A : Nat → Prop), pt_C p s m args c cc maxL wy y.cls D tys A → meth.sig.returnType = ret → meth.locks = false → pt_P p l e rm s m args below meth c D A maxL (pt_QV below args s D tys A w1) 0 0 0 w0 lv []) : mt_V l y wy rm D tys av w0 w1 := by
  intro sz
  refine Met.ofW (cc := cc) (maxL := maxL) (ret := ret) hy hw ?_
  intro p e s m args below meth c s₁ B hml hv
  obtain ⟨rfl, hsz, hP, hK, hD0⟩ := hv
  have hts := atoms_spec (ws := wy) B.pre
  subst hsz
  have hA : ∀ q : Nat, s.heap.size ≤ q → va_A w0 s.heap.size q := fun q h => Or.inr h
  have hl := lv_entry av (n := maxL) hlen
  rw [lg_entry_eq]
  rw [hlv] at hl
  exact body p e s m _ below meth c _ ⟨B.exec, B.bytes, hml, findClass_of_methodNamed B.named, hts, hK, hA⟩ B.returns B.notSynchronized s.heap [] _ hP (hD0.self) va_S.rf hl
theorem mt_ofVF {y : MethodName} {wy wy' : List Cond} {rm : Room} {av : List Value} {w0 w1 : va_W} {maxL : Nat} {ret : Option FieldType} (hy : plainFor y = true) (hw : wy = Cond.code y cc maxL ret :: wy') (hlen : (lg_sl av).length ≤ maxL) (hlv : lv_args 0 av = lv)
    (body : ∀ (p : Program) (e : Env) (s : State) (m : MethodId) (args : Array Value) (below : List Frame) (meth : Method) (c : Code) (A : Nat → Prop), pt_C p s m args c cc maxL wy y.cls D tys A → meth.sig.returnType = ret → meth.locks = false → pt_P p l e rm s m args below meth c D A maxL (pt_QV below args s D tys A w1) 0 0 0 w0 lv []) : mt_V l y wy rm D tys av w0 w1 := by
  intro sz
  refine va_MetF (cc := cc) (maxL := maxL) (ret := ret) hy hw ?_
  intro p e s m args below meth c s₁ B hml hv
  obtain ⟨rfl, hsz, hP, hK, hD0⟩ := hv
  have hts := atoms_spec (ws := wy) B.pre
  subst hsz
  have hA : ∀ q : Nat, s.heap.size ≤ q → va_A w0 s.heap.size q := fun q h => Or.inr h
  have hl := lv_entry av (n := maxL) hlen
  rw [lg_entry_eq]
  rw [hlv] at hl
  exact body p e s m _ below meth c _ ⟨B.exec, B.bytes, hml, findClass_of_methodNamed B.named, hts, hK, hA⟩ B.returns B.notSynchronized s.heap [] _ hP (hD0.self) va_S.rf hl
theorem pt_iret {v r : Int32} {w1 : va_W} {ty : FieldType} (C : pt_C p s m args c cc nL Ts own D tys A) (hr : meth.sig.returnType = some ty) (hlocks : meth.locks = false) (hd : decode cc pc = .ok (.ireturn, 1)) (hn : narrow ty (.int v) = .int v) (hv : v = r) (hw : ws = w1) : pt_P p l e R s m args below meth c D A nL (pt_QI below args s D tys A r w1) 0 0 pc ws lv [.int v] := by
  subst hw
  exact fun H locs ls hP hD hS h => W.zret C.1 C.2.1 hr hn (fun t ht hW => ⟨⟨v, (), rfl, hv, by rw [ht]; exact hP, va_K.moved hW.alike C.2.2.2.2.2.1, hD⟩, hS.F ht⟩) hS.2.2 hd hlocks
theorem pt_vret {w1 : va_W} (C : pt_C p s m args c cc nL Ts own D tys A) (hr : meth.sig.returnType = none) (hlocks : meth.locks = false) (hd : decode cc pc = .ok (.return_, 1)) (hw : ws = w1) : pt_P p l e R s m args below meth c D A nL (pt_QV below args s D tys A w1) 0 0 pc ws lv [] := by
  subst hw
  exact fun H locs ls hP hD hS h => W.vret C.1 C.2.1 hr (fun t ht hW => ⟨⟨(), rfl, trivial, by rw [ht]; exact hP, va_K.moved hW.alike C.2.2.2.2.2.1, hD⟩, hS.F ht⟩) hS.2.2 hd hlocks
/-! contracts that leave some cells open -/
def mt_IE {S : Type} (l : Launch) (y : MethodName) (wy : List Cond) (rm : Room) (D : va_G) (tys : List (ClassId × FieldType)) (av : List Value) (w0 : va_W) (r : Int32) (w1 : S → va_W) : Prop :=
  ∀ sz : Nat, Met l y wy rm (va_Pc av (mt_Pc D tys sz w0)) (va_Qi (fun r' (_ : S) => r' = r) (fun u t => mt_B D tys (va_A w0 sz) (w1 u) t) (va_A w0 sz)) 0 0 (va_A w0 sz)
def pt_QIE {S : Type} (below : List Frame) (args : Array Value) (s : State) (D : va_G) (tys : List (ClassId × FieldType)) (A : Nat → Prop) (r : Int32) (w1 : S → va_W) : State → Prop := MQ below (va_Qi (fun r' (_ : S) => r' = r) (fun u t => mt_B D tys A (w1 u) t) A) args s 0 0 A
theorem mt_ofIE {S : Type} {y : MethodName} {wy wy' : List Cond} {rm : Room} {av : List Value} {w0 : va_W} {w1 : S → va_W} {r : Int32} {maxL : Nat} {ret : Option FieldType} (hy : plainName y.cls = true) (hw : wy = Cond.code y cc maxL ret :: wy') (hlen : (lg_sl av).length ≤ maxL) (hlv : lv_args 0 av = lv)
    (body : ∀ (p : Program) (e : Env) (s : State) (m : MethodId) (args : Array Value) (below : List Frame) (meth : Method) (c : Code) (A : Nat → Prop), pt_C p s m args c cc maxL wy y.cls D tys A → meth.sig.returnType = ret → meth.locks = false → pt_P p l e rm s m args below meth c D A maxL (pt_QIE below args s D tys A r w1) 0 0 0 w0 lv []) : mt_IE l y wy rm D tys av w0 r w1 := by
  intro sz
  refine Met.ofW (cc := cc) (maxL := maxL) (ret := ret) hy hw ?_
  intro p e s m args below meth c s₁ B hml hv
  obtain ⟨rfl, hsz, hP, hK, hD0⟩ := hv
  have hts := atoms_spec (ws := wy) B.pre
  subst hsz
  have hA : ∀ q : Nat, s.heap.size ≤ q → va_A w0 s.heap.size q := fun q h => Or.inr h
  have hl := lv_entry av (n := maxL) hlen
  rw [lg_entry_eq]
  rw [hlv] at hl
  exact body p e s m _ below meth c _ ⟨B.exec, B.bytes, hml, findClass_of_methodNamed B.named, hts, hK, hA⟩ B.returns B.notSynchronized s.heap [] _ hP (hD0.self) va_S.rf hl
theorem pt_iretE {S : Type} {v r : Int32} {w1 : S → va_W} {ty : FieldType} (C : pt_C p s m args c cc nL Ts own D tys A) (hr : meth.sig.returnType = some ty) (hlocks : meth.locks = false) (hd : decode cc pc = .ok (.ireturn, 1)) (hn : narrow ty (.int v) = .int v) (hv : v = r) (u : S) (hw : ws = w1 u) : pt_P p l e R s m args below meth c D A nL (pt_QIE below args s D tys A r w1) 0 0 pc ws lv [.int v] := by
  subst hw
  exact fun H locs ls hP hD hS h => W.zret C.1 C.2.1 hr hn (fun t ht hW => ⟨⟨v, u, rfl, hv, by rw [ht]; exact hP, va_K.moved hW.alike C.2.2.2.2.2.1, hD⟩, hS.F ht⟩) hS.2.2 hd hlocks
/-! calls -/
theorem pt_fm {isC : List Nat} {w0 : va_W} (h : isC.map (fun i => ws[i]?) = w0.map some) : isC.filterMap (fun i => ws[i]?) = w0 := by
  have h1 : isC.filterMap (fun i => ws[i]?) = (isC.map (fun i => ws[i]?)).filterMap id := by rw [List.filterMap_map]; rfl
  rw [h1, h, List.filterMap_map]
  show List.filterMap (fun x => some x) w0 = w0
  exact List.filterMap_some
theorem pt_after {H H1 : Heap} {locs : List Loc} {w0 w1 wr : va_W} (hP : va_P D vwCl ws H) (hD : va_D A ws) (hS : va_S A s.heap H locs) (hA : ∀ q : Nat, s.heap.size ≤ q → A q) (isC isR isF : List Nat) (hC : isC.map (fun i => ws[i]?) = w0.map some) (hR : isR.map (fun i => ws[i]?) = wr.map some) (hn : va_nd isR = true) (hdis : ∀ i ∈ isR, i ∉ isC)
    (hF : isF.map (fun i => (wr ++ w1)[i]?) = ws'.map some) (hnF : va_nd isF = true) (hk : ∀ q : Nat, q < H.size → ¬ va_A w0 H.size q → H1[q]? = H[q]?) (hP1 : va_P D vwCl w1 H1) (hD1 : va_D (va_A w0 H.size) w1) : va_P D vwCl ws' H1 ∧ va_D A ws' := by
  have j := va_join hP hD isC isR hC hR hn hdis hk (va_free hD hS hA isC hC) hP1 hD1
  exact ⟨j.1.sub isF (pt_fm hF), j.2.sub isF hnF hF⟩
theorem pt_free0 {H : Heap} {locs : List Loc} (hD : va_D A ws) (hS : va_S A s.heap H locs) (hA : ∀ q : Nat, s.heap.size ≤ q → A q) : ∀ q, va_A ws H.size q → A q := by
  intro q h
  rcases h with ⟨k, e, h⟩ | h
  · exact hD.2 k (q, e) h
  · exact hA q (Nat.le_trans hS.1 h)
section CALLS
variable {y : MethodName} {wy : List Cond} {rm : Room} {b : Nat} {As : List Value} {r : Int32} {w0 w1 wr : va_W} {Cn : String} {index maxL n ci : Nat} {bytes : ByteArray} {ret : Option FieldType} {fs : List Value} {qc : vw_C}
theorem pt_cvI (C : pt_C p s m args c cc nL Ts own D tys A) (hM : mt_I l y wy rm D tys (.ref b :: As) w0 r w1) (cw : CallW R s args own Cn index y bytes maxL ret wy rm 0 0 n) (hd : decode cc pc = .ok (.invokevirtual index, 3)) (hpc : pc + 3 = pc') (qb : Nat) (he : ws[qb]? = some (b, .inr (ci, fs))) (hc : vwCl[ci]? = some qc) (hq : qc.1 = Cn) (hn : As.length = n) (hst : st = As.reverse ++ .ref b :: rest) (hW : (rest.map fun v => v.category).sum ≤ 8) (hcs : cells ≤ R.cells ∧ slots ≤ R.slots)
    (isC isR isF : List Nat) (hC : isC.map (fun i => ws[i]?) = w0.map some) (hnC : va_nd isC = true) (hR : isR.map (fun i => ws[i]?) = wr.map some) (hnR : va_nd isR = true) (hdis : ∀ i ∈ isR, i ∉ isC) (hF : isF.map (fun i => (wr ++ w1)[i]?) = ws'.map some) (hnF : va_nd isF = true)
    (K : pt_P p l e R s m args below meth c D A nL Q cells slots pc' ws' lv (.int r :: rest)) : pt_P p l e R s m args below meth c D A nL Q cells slots pc ws lv st := by
  subst hpc; subst hst; subst hq
  intro H locs ls hP hD hS h
  have hP0 := hP.sub isC (pt_fm hC)
  have hD0 := hD.sub isC hnC hC
  have hfr := va_free hD hS C.2.2.2.2.2.2 isC hC
  refine va_calli (va_runV (As := As) (rest := rest) (b := b) ⟨C.1, C.2.1, C.2.2.1, C.2.2.2.1, C.hts⟩ (hM H.size) cw ⟨mt_blind, va_recv C.2.2.2.2.2.1 hP hc he, mt_pre C.2.2.2.2.2.1 hP0 hD0⟩ rfl hn h.1 rfl (lv_room hW) hd hcs) hS (fun q _ hq => hfr q hq) hfr (fun r' u t H1 locs1 ht hvm hr hB hz hk hS1 => ?_)
  obtain ⟨hP1, -, hD1⟩ := hB
  rw [ht] at hP1
  obtain ⟨hP2, hD2⟩ := pt_after hP hD hS C.2.2.2.2.2.2 isC isR isF hC hR hnR hdis hF hnF hk hP1 hD1
  rw [hr]
  exact K H1 locs1 ls hP2 hD2 hS1 h
theorem pt_cvIE (C : pt_C p s m args c cc nL Ts own D tys A) {S : Type} {w1 wf : S → va_W} (hM : mt_IE l y wy rm D tys (.ref b :: As) w0 r w1) (cw : CallW R s args own Cn index y bytes maxL ret wy rm 0 0 n) (hd : decode cc pc = .ok (.invokevirtual index, 3)) (hpc : pc + 3 = pc') (qb : Nat) (he : ws[qb]? = some (b, .inr (ci, fs))) (hc : vwCl[ci]? = some qc) (hq : qc.1 = Cn) (hn : As.length = n) (hst : st = As.reverse ++ .ref b :: rest) (hW : (rest.map fun v => v.category).sum ≤ 8) (hcs : cells ≤ R.cells ∧ slots ≤ R.slots)
    (isC isR isF : List Nat) (hC : isC.map (fun i => ws[i]?) = w0.map some) (hnC : va_nd isC = true) (hR : isR.map (fun i => ws[i]?) = wr.map some) (hnR : va_nd isR = true) (hdis : ∀ i ∈ isR, i ∉ isC) (hF : ∀ u, isF.map (fun i => (wr ++ w1 u)[i]?) = (wf u).map some) (hnF : va_nd isF = true)
    (K : ∀ u : S, pt_P p l e R s m args below meth c D A nL Q cells slots pc' (wf u) lv (.int r :: rest)) : pt_P p l e R s m args below meth c D A nL Q cells slots pc ws lv st := by
  subst hpc; subst hst; subst hq
  intro H locs ls hP hD hS h
  have hP0 := hP.sub isC (pt_fm hC)
  have hD0 := hD.sub isC hnC hC
  have hfr := va_free hD hS C.2.2.2.2.2.2 isC hC
  refine va_calli (va_runV (As := As) (rest := rest) (b := b) ⟨C.1, C.2.1, C.2.2.1, C.2.2.2.1, C.hts⟩ (hM H.size) cw ⟨mt_blind, va_recv C.2.2.2.2.2.1 hP hc he, mt_pre C.2.2.2.2.2.1 hP0 hD0⟩ rfl hn h.1 rfl (lv_room hW) hd hcs) hS (fun q _ hq => hfr q hq) hfr (fun r' u t H1 locs1 ht hvm hr hB hz hk hS1 => ?_)
  obtain ⟨hP1, -, hD1⟩ := hB
  rw [ht] at hP1
  obtain ⟨hP2, hD2⟩ := pt_after hP hD hS C.2.2.2.2.2.2 isC isR isF hC hR hnR hdis (hF u) hnF hk hP1 hD1
  rw [hr]
  exact K u H1 locs1 ls hP2 hD2 hS1 h
theorem pt_cvV (C : pt_C p s m args c cc nL Ts own D tys A) (hM : mt_V l y wy rm D tys (.ref b :: As) w0 w1) (cw : CallW R s args own Cn index y bytes maxL ret wy rm 0 0 n) (hd : decode cc pc = .ok (.invokevirtual index, 3)) (hpc : pc + 3 = pc') (qb : Nat) (he : ws[qb]? = some (b, .inr (ci, fs))) (hc : vwCl[ci]? = some qc) (hq : qc.1 = Cn) (hn : As.length = n) (hst : st = As.reverse ++ .ref b :: rest) (hW : (rest.map fun v => v.category).sum ≤ 8) (hcs : cells ≤ R.cells ∧ slots ≤ R.slots)
    (isC isR isF : List Nat) (hC : isC.map (fun i => ws[i]?) = w0.map some) (hnC : va_nd isC = true) (hR : isR.map (fun i => ws[i]?) = wr.map some) (hnR : va_nd isR = true) (hdis : ∀ i ∈ isR, i ∉ isC) (hF : isF.map (fun i => (wr ++ w1)[i]?) = ws'.map some) (hnF : va_nd isF = true)
    (K : pt_P p l e R s m args below meth c D A nL Q cells slots pc' ws' lv rest) : pt_P p l e R s m args below meth c D A nL Q cells slots pc ws lv st := by
  subst hpc; subst hst; subst hq
  intro H locs ls hP hD hS h
  have hP0 := hP.sub isC (pt_fm hC)
  have hD0 := hD.sub isC hnC hC
  have hfr := va_free hD hS C.2.2.2.2.2.2 isC hC
  refine va_callv (va_runV (As := As) (rest := rest) (b := b) ⟨C.1, C.2.1, C.2.2.1, C.2.2.2.1, C.hts⟩ (hM H.size) cw ⟨mt_blind, va_recv C.2.2.2.2.2.1 hP hc he, mt_pre C.2.2.2.2.2.1 hP0 hD0⟩ rfl hn h.1 rfl (lv_room hW) hd hcs) hS (fun q _ hq => hfr q hq) hfr (fun u t H1 locs1 ht hvm hr hB hz hk hS1 => ?_)
  obtain ⟨hP1, -, hD1⟩ := hB
  rw [ht] at hP1
  obtain ⟨hP2, hD2⟩ := pt_after hP hD hS C.2.2.2.2.2.2 isC isR isF hC hR hnR hdis hF hnF hk hP1 hD1
  exact K H1 locs1 ls hP2 hD2 hS1 h
theorem pt_cvI0 (C : pt_C p s m args c cc nL Ts own D tys A) (hM : mt_I l y wy rm D tys (.ref b :: As) ws r w1) (cw : CallW R s args own Cn index y bytes maxL ret wy rm 0 0 n) (hd : decode cc pc = .ok (.invokevirtual index, 3)) (hpc : pc + 3 = pc') (qb : Nat) (he : ws[qb]? = some (b, .inr (ci, fs))) (hc : vwCl[ci]? = some qc) (hq : qc.1 = Cn) (hn : As.length = n) (hst : st = As.reverse ++ .ref b :: rest) (hW : (rest.map fun v => v.category).sum ≤ 8) (hcs : cells ≤ R.cells ∧ slots ≤ R.slots)
    (K : pt_P p l e R s m args below meth c D A nL Q cells slots pc' w1 lv (.int r :: rest)) : pt_P p l e R s m args below meth c D A nL Q cells slots pc ws lv st := by
  subst hpc; subst hst; subst hq
  intro H locs ls hP hD hS h
  have hfr := pt_free0 hD hS C.2.2.2.2.2.2
  refine va_calli (va_runV (As := As) (rest := rest) (b := b) ⟨C.1, C.2.1, C.2.2.1, C.2.2.2.1, C.hts⟩ (hM H.size) cw ⟨mt_blind, va_recv C.2.2.2.2.2.1 hP hc he, mt_pre C.2.2.2.2.2.1 hP hD⟩ rfl hn h.1 rfl (lv_room hW) hd hcs) hS (fun q _ hq => hfr q hq) hfr (fun r' u t H1 locs1 ht hvm hr hB hz hk hS1 => ?_)
  obtain ⟨hP1, -, hD1⟩ := hB
  rw [ht] at hP1
  rw [hr]
  exact K H1 locs1 ls hP1 (hD1.weaken (fun _ _ _ hz => hfr _ hz)) hS1 h
theorem pt_cvIE0 (C : pt_C p s m args c cc nL Ts own D tys A) {S : Type} {w1 : S → va_W} (hM : mt_IE l y wy rm D tys (.ref b :: As) ws r w1) (cw : CallW R s args own Cn index y bytes maxL ret wy rm 0 0 n) (hd : decode cc pc = .ok (.invokevirtual index, 3)) (hpc : pc + 3 = pc') (qb : Nat) (he : ws[qb]? = some (b, .inr (ci, fs))) (hc : vwCl[ci]? = some qc) (hq : qc.1 = Cn) (hn : As.length = n) (hst : st = As.reverse ++ .ref b :: rest) (hW : (rest.map fun v => v.category).sum ≤ 8) (hcs : cells ≤ R.cells ∧ slots ≤ R.slots)
    (K : ∀ u : S, pt_P p l e R s m args below meth c D A nL Q cells slots pc' (w1 u) lv (.int r :: rest)) : pt_P p l e R s m args below meth c D A nL Q cells slots pc ws lv st := by
  subst hpc; subst hst; subst hq
  intro H locs ls hP hD hS h
  have hfr := pt_free0 hD hS C.2.2.2.2.2.2
  refine va_calli (va_runV (As := As) (rest := rest) (b := b) ⟨C.1, C.2.1, C.2.2.1, C.2.2.2.1, C.hts⟩ (hM H.size) cw ⟨mt_blind, va_recv C.2.2.2.2.2.1 hP hc he, mt_pre C.2.2.2.2.2.1 hP hD⟩ rfl hn h.1 rfl (lv_room hW) hd hcs) hS (fun q _ hq => hfr q hq) hfr (fun r' u t H1 locs1 ht hvm hr hB hz hk hS1 => ?_)
  obtain ⟨hP1, -, hD1⟩ := hB
  rw [ht] at hP1
  rw [hr]
  exact K u H1 locs1 ls hP1 (hD1.weaken (fun _ _ _ hz => hfr _ hz)) hS1 h
theorem pt_cvV0 (C : pt_C p s m args c cc nL Ts own D tys A) (hM : mt_V l y wy rm D tys (.ref b :: As) ws w1) (cw : CallW R s args own Cn index y bytes maxL ret wy rm 0 0 n) (hd : decode cc pc = .ok (.invokevirtual index, 3)) (hpc : pc + 3 = pc') (qb : Nat) (he : ws[qb]? = some (b, .inr (ci, fs))) (hc : vwCl[ci]? = some qc) (hq : qc.1 = Cn) (hn : As.length = n) (hst : st = As.reverse ++ .ref b :: rest) (hW : (rest.map fun v => v.category).sum ≤ 8) (hcs : cells ≤ R.cells ∧ slots ≤ R.slots)
    (K : pt_P p l e R s m args below meth c D A nL Q cells slots pc' w1 lv rest) : pt_P p l e R s m args below meth c D A nL Q cells slots pc ws lv st := by
  subst hpc; subst hst; subst hq
  intro H locs ls hP hD hS h
  have hfr := pt_free0 hD hS C.2.2.2.2.2.2
  refine va_callv (va_runV (As := As) (rest := rest) (b := b) ⟨C.1, C.2.1, C.2.2.1, C.2.2.2.1, C.hts⟩ (hM H.size) cw ⟨mt_blind, va_recv C.2.2.2.2.2.1 hP hc he, mt_pre C.2.2.2.2.2.1 hP hD⟩ rfl hn h.1 rfl (lv_room hW) hd hcs) hS (fun q _ hq => hfr q hq) hfr (fun u t H1 locs1 ht hvm hr hB hz hk hS1 => ?_)
  obtain ⟨hP1, -, hD1⟩ := hB
  rw [ht] at hP1
  exact K H1 locs1 ls hP1 (hD1.weaken (fun _ _ _ hz => hfr _ hz)) hS1 h
theorem pt_csV (C : pt_C p s m args c cc nL Ts own D tys A) (hM : mt_V l y wy rm D tys As w0 w1) (cw : CallB R s args own index y bytes maxL ret wy rm 0 0 n ∧ (Cond.static y).before args s = true) (hd : decode cc pc = .ok (.invokestatic index, 3)) (hpc : pc + 3 = pc') (hn : As.length = n) (hst : st = As.reverse ++ rest) (hW : (rest.map fun v => v.category).sum ≤ 8) (hcs : cells ≤ R.cells ∧ slots ≤ R.slots)
    (isC isR isF : List Nat) (hC : isC.map (fun i => ws[i]?) = w0.map some) (hnC : va_nd isC = true) (hR : isR.map (fun i => ws[i]?) = wr.map some) (hnR : va_nd isR = true) (hdis : ∀ i ∈ isR, i ∉ isC) (hF : isF.map (fun i => (wr ++ w1)[i]?) = ws'.map some) (hnF : va_nd isF = true)
    (K : pt_P p l e R s m args below meth c D A nL Q cells slots pc' ws' lv rest) : pt_P p l e R s m args below meth c D A nL Q cells slots pc ws lv st := by
  subst hpc; subst hst
  intro H locs ls hP hD hS h
  have hP0 := hP.sub isC (pt_fm hC)
  have hD0 := hD.sub isC hnC hC
  have hfr := va_free hD hS C.2.2.2.2.2.2 isC hC
  refine va_callv (va_runS (As := As) (rest := rest) ⟨C.1, C.2.1, C.2.2.1, C.2.2.2.1, C.hts⟩ (hM H.size) cw ⟨mt_blind, mt_pre C.2.2.2.2.2.1 hP0 hD0⟩ rfl hn h.1 rfl (lv_room hW) hd hcs) hS (fun q _ hq => hfr q hq) hfr (fun u t H1 locs1 ht hvm hr hB hz hk hS1 => ?_)
  obtain ⟨hP1, -, hD1⟩ := hB
  rw [ht] at hP1
  obtain ⟨hP2, hD2⟩ := pt_after hP hD hS C.2.2.2.2.2.2 isC isR isF hC hR hnR hdis hF hnF hk hP1 hD1
  exact K H1 locs1 ls hP2 hD2 hS1 h
/-- a static method of numbers alone -/
theorem pt_csI0 (C : pt_C p s m args c cc nL Ts own D tys A) (hM : mt_I l y wy rm D tys As [] r []) (cw : CallB R s args own index y bytes maxL ret wy rm 0 0 n ∧ (Cond.static y).before args s = true) (hd : decode cc pc = .ok (.invokestatic index, 3)) (hpc : pc + 3 = pc') (hn : As.length = n) (hst : st = As.reverse ++ rest) (hW : (rest.map fun v => v.category).sum ≤ 8) (hcs : cells ≤ R.cells ∧ slots ≤ R.slots)
    (K : pt_P p l e R s m args below meth c D A nL Q cells slots pc' ws lv (.int r :: rest)) : pt_P p l e R s m args below meth c D A nL Q cells slots pc ws lv st := by
  subst hpc; subst hst
  intro H locs ls hP hD hS h
  have hfr : ∀ q, va_A [] H.size q → A q := by
    rintro q (⟨k, e, h9⟩ | h9)
    · simp at h9
    · exact C.2.2.2.2.2.2 q (Nat.le_trans hS.1 h9)
  refine va_calli (va_runS (As := As) (rest := rest) ⟨C.1, C.2.1, C.2.2.1, C.2.2.2.1, C.hts⟩ (hM H.size) cw ⟨mt_blind, mt_pre C.2.2.2.2.2.1 (fun k q h => by simp at h) (A0 := fun _ => True) ⟨fun i j p q h => by simp at h, fun k q h => by simp at h⟩⟩ rfl hn h.1 rfl (lv_room hW) hd hcs) hS (fun q _ hq => hfr q hq) hfr (fun r' u t H1 locs1 ht hvm hr hB hz hk hS1 => ?_)
  rw [hr]
  refine K H1 locs1 ls (hP.kept (fun k x hx => hk x.1 ((hP k x hx).lt) ?_)) hD hS1 h
  rintro (⟨k9, e9, h9⟩ | h9)
  · simp at h9
  · exact absurd ((hP k x hx).lt) (by omega)
end CALLS
end PT
end
section
/-! the cells of the objects, and the numbers that the methods compute -/
abbrev ar (cA : ClassId) (a n : Nat) (f : Nat → Int32) : Nat × va_E := (a, .inl (cA, n, .inl f))
/-- one array alone -/
abbrev w1A (cA : ClassId) (a : Nat → Nat) (N : Nat) (f : Nat → Int32) : va_W := [ar cA (a 0) N f]
/-- Begin: how many fields, the shore's number; sand, walls, feeds, kinds, sizes, leaks -/
abbrev wB (cA : ClassId) (a : Nat → Nat) (n : Nat) (k : Int32) (sd wl fd kd sz lk : Nat → Int32) : va_W :=
  [(a 0, .inr (0, [.int (nI n), .int k, .ref (a 1), .ref (a 2), .ref (a 3), .ref (a 4), .ref (a 5), .ref (a 6)])), ar cA (a 1) 12 sd, ar cA (a 2) 12 wl, ar cA (a 3) 2 fd, ar cA (a 4) 13 kd, ar cA (a 5) 13 sz, ar cA (a 6) 13 lk]
/-- Shore: sand, sea, scour, bars, what passed, changes -/
abbrev wS (cA : ClassId) (a : Nat → Nat) (sd se sc ba pa ch : Nat → Int32) : va_W :=
  [(a 0, .inr (2, [.ref (a 1), .ref (a 2), .ref (a 3), .ref (a 4), .ref (a 5), .ref (a 6)])), ar cA (a 1) 12 sd, ar cA (a 2) 12 se, ar cA (a 3) 12 sc, ar cA (a 4) 13 ba, ar cA (a 5) 13 pa, ar cA (a 6) 12 ch]
/-- Weather: how many weeks; heights, sides -/
abbrev wW (cA : ClassId) (a : Nat → Nat) (td : Nat) (he si : Nat → Int32) : va_W := [(a 0, .inr (4, [.int (nI td), .ref (a 1), .ref (a 2)])), ar cA (a 1) 120 he, ar cA (a 2) 120 si]
/-- Dredgings: how many; borders, units, fields, weeks -/
abbrev wD (cA : ClassId) (a : Nat → Nat) (dr : Nat) (db du df dw : Nat → Int32) : va_W := [(a 0, .inr (1, [.int (nI dr), .ref (a 1), .ref (a 2), .ref (a 3), .ref (a 4)])), ar cA (a 1) 20 db, ar cA (a 2) 20 du, ar cA (a 3) 20 df, ar cA (a 4) 20 dw]
/-- WorkList: how many; kinds, places, amounts, prices -/
abbrev wO (cA : ClassId) (a : Nat → Nat) (wk : Nat) (ok op oa oc : Nat → Int32) : va_W := [(a 0, .inr (5, [.int (nI wk), .ref (a 1), .ref (a 2), .ref (a 3), .ref (a 4)])), ar cA (a 1) 6 ok, ar cA (a 2) 6 op, ar cA (a 3) 6 oa, ar cA (a 4) 6 oc]
/-- SurveyList: how many; fields, weeks, least lines, most lines -/
abbrev wV (cA : ClassId) (a : Nat → Nat) (sv : Nat) (vf vw vl vm : Nat → Int32) : va_W := [(a 0, .inr (3, [.int (nI sv), .ref (a 1), .ref (a 2), .ref (a 3), .ref (a 4)])), ar cA (a 1) 20 vf, ar cA (a 2) 20 vw, ar cA (a 3) 20 vl, ar cA (a 4) 20 vm]
/-- some cells of a list -/
abbrev pkN (ks : List Nat) (w : va_W) : va_W := ks.filterMap (fun i => w[i]?)
abbrev mn (x y : Int32) : Int32 := if y < x then y else x
abbrev mx (x y : Int32) : Int32 := if x < y then y else x
abbrev cpN (k : Nat) (f g : Nat → Int32) : Nat → Int32 := fun j => if j < k then f j else g j
/-- k rounds from a on -/
def itf {S : Type} (f : Nat → S → S) (a : Nat) : Nat → S → S
  | 0, s => s
  | k + 1, s => f (a + k) (itf f a k s)
theorem itf_0 {S : Type} (f : Nat → S → S) (a : Nat) (s : S) : itf f a 0 s = s := rfl
theorem itf_s {S : Type} (f : Nat → S → S) (a k : Nat) (s : S) : itf f a (k + 1) s = f (a + k) (itf f a k s) := rfl
def flN (N : Nat) (v : Int32) (f : Nat → Int32) : Nat → Int32 := fun j => if j < N then v else f j
theorem flN_0 (v : Int32) (f : Nat → Int32) : flN 0 v f = f := by funext j; simp [flN]
theorem flN_s (N : Nat) (v : Int32) (f : Nat → Int32) : upd (flN N v f) N v = flN (N + 1) v f := by
  funext j
  simp only [upd, flN]
  by_cases h : j = N
  · subst h; simp
  · by_cases h2 : j < N
    · rw [if_neg h, if_pos h2, if_pos (by omega)]
    · rw [if_neg h, if_neg h2, if_neg (by omega)]
/-! Begin -/
def bI (b : Bool) : Int32 := cond b 1 0
theorem bI_n (b : Bool) : narrow .boolean (.int (bI b)) = .int (bI b) := by cases b <;> rfl
theorem bI_f {b : Bool} (h : bI b = 0) : b = false := by
  cases b
  · rfl
  · exact absurd h (by decide)
theorem bI_t {b : Bool} (h : ¬ bI b = 0) : b = true := by
  cases b
  · exact absurd rfl h
  · rfl
/-- a field, a border, a border between fields, a number within -/
def inF (n : Nat) (x : Int32) : Bool := if x < 0 then false else if nI n ≤ x then false else true
def inBd (n : Nat) (x : Int32) : Bool := if x < 0 then false else if nI n < x then false else true
def inI (n : Nat) (x : Int32) : Bool := if x < 1 then false else if nI n ≤ x then false else true
def inR (v a b : Int32) : Bool := if v < a then false else if b < v then false else true
/-! Shore -/
def ln (sd : Nat → Int32) (f : Nat) : Int32 := sd f / 10
def slp (sd : Nat → Int32) (u d : Nat) : Int32 := mx (-9) (mn (ln sd u - ln sd d) 9)
def fre (sd wl : Nat → Int32) (f : Nat) : Int32 := if sd f - 10 * wl f ≤ 0 then 0 else sd f - 10 * wl f
/-- what may be taken of the sand; then what goes -/
def tk0 (sd : Nat → Int32) (f : Nat) (w : Int32) : Int32 := mn w (sd f)
def tk (sd wl : Nat → Int32) (f : Nat) (w : Int32) : Int32 := mn (tk0 sd f w) (fre sd wl f)
def tkSc (sd wl sc : Nat → Int32) (f : Nat) (w : Int32) : Nat → Int32 := upd sc f (sc f + (tk0 sd f w - tk sd wl f w))
def tkCh (sd wl ch : Nat → Int32) (f : Nat) (w : Int32) : Nat → Int32 := upd ch f (ch f - tk sd wl f w)
/-- the first n places by g -/
def mapN (n : Nat) (g f : Nat → Int32) : Nat → Int32 := fun i => if i < n then g i else f i
theorem mapN_0 (g f : Nat → Int32) : mapN 0 g f = f := by funext j; simp [mapN]
theorem mapN_at (n : Nat) (g f : Nat → Int32) : mapN n g f n = f n := by simp [mapN]
theorem mapN_s (n : Nat) (g f : Nat → Int32) {x : Int32} (hx : x = g n) : upd (mapN n g f) n x = mapN (n + 1) g f := by
  subst hx
  funext j
  simp only [upd, mapN]
  by_cases h : j = n
  · subst h; simp
  · by_cases h2 : j < n
    · rw [if_neg h, if_pos h2, if_pos (by omega)]
    · rw [if_neg h, if_neg h2, if_neg (by omega)]
theorem nI_m1 {n : Nat} (h : 1 ≤ n) : nI n - 1 = nI (n - 1) := pk_sub (a := n) (b := 1) h
def uF (r : Bool) (b : Nat) : Nat := cond r b (b - 1)
def dF (r : Bool) (b : Nat) : Nat := cond r (b - 1) b
def sgn (r : Bool) (x : Int32) : Int32 := cond r (-x) x
/-- what the waves drive over a border -/
def drv (k h : Int32) (sd kd sz lk : Nat → Int32) (u d b : Nat) : Int32 :=
  if kd b = 1 then (if sz b ≤ ln sd u then mx (k * h + h * slp sd u d / 3) 0 else mx (k * h + h * slp sd u d / 3) 0 * lk b / 100) else mx (k * h + h * slp sd u d / 3) 0
def kpt (kd sz : Nat → Int32) (b : Nat) (x : Int32) : Int32 := if kd b = 2 then x * sz b / 100 else 0
def uni (r : Bool) (k h : Int32) (sd wl kd sz lk : Nat → Int32) (b : Nat) : Int32 := tk sd wl (uF r b) (drv k h sd kd sz lk (uF r b) (dF r b) b)
abbrev S4 : Type := (Nat → Int32) × (Nat → Int32) × (Nat → Int32) × (Nat → Int32)
/-- what a border does to scour, bars, what passed, changes -/
def psX (r : Bool) (k h : Int32) (sd wl kd sz lk : Nat → Int32) (b : Nat) (t : S4) : S4 :=
  (tkSc sd wl t.1 (uF r b) (drv k h sd kd sz lk (uF r b) (dF r b) b),
   upd t.2.1 b (t.2.1 b + kpt kd sz b (uni r k h sd wl kd sz lk b)),
   upd t.2.2.1 b (sgn r (uni r k h sd wl kd sz lk b)),
   upd (tkCh sd wl t.2.2.2 (uF r b) (drv k h sd kd sz lk (uF r b) (dF r b) b)) (dF r b) (tkCh sd wl t.2.2.2 (uF r b) (drv k h sd kd sz lk (uF r b) (dF r b) b) (dF r b) + (uni r k h sd wl kd sz lk b - kpt kd sz b (uni r k h sd wl kd sz lk b))))
/-- what comes in at the end where the waves come from -/
def fdU (k h : Int32) (fd : Nat → Int32) (i : Nat) : Int32 := k * h * fd i / 100
/-- a week's passing on (scour, bars, passed, changes) from side r; the sand stays -/
def ciX (r : Bool) (n : Nat) (k h : Int32) (fd : Nat → Int32) (t : S4) : S4 :=
  (t.1, t.2.1, upd t.2.2.1 (cond r n 0) (sgn r (fdU k h fd (cond r 1 0))), upd t.2.2.2 (cond r (n - 1) 0) (t.2.2.2 (cond r (n - 1) 0) + fdU k h fd (cond r 1 0)))
def goX (r : Bool) (n : Nat) (k h : Int32) (sd wl : Nat → Int32) (t : S4) : S4 :=
  (tkSc sd wl t.1 (cond r 0 (n - 1)) (k * h), t.2.1, upd t.2.2.1 (cond r 0 n) (sgn r (tk sd wl (cond r 0 (n - 1)) (k * h))), tkCh sd wl t.2.2.2 (cond r 0 (n - 1)) (k * h))
def paX (r : Bool) (n : Nat) (k h : Int32) (sd wl fd kd sz lk : Nat → Int32) (t : S4) : S4 := goX r n k h sd wl (itf (psX r k h sd wl kd sz lk) 1 (n - 1) (ciX r n k h fd t))
/-- behind the passing: the changes come to the sand -/
def adX (n : Nat) (sd ch : Nat → Int32) : Nat → Int32 := mapN n (fun i => mn (sd i + ch i) 99999) sd
def toSd (n : Nat) (w : Int32) (sd wl : Nat → Int32) : Nat → Int32 := mapN n (fun i => sd i - mn w (fre sd wl i)) sd
def toSe (n : Nat) (w : Int32) (sd wl se : Nat → Int32) : Nat → Int32 := mapN n (fun i => se i + mn w (fre sd wl i)) se
def bkSe (n : Nat) (se : Nat → Int32) : Nat → Int32 := mapN n (fun i => se i - (se i + 3) / 4) se
def bkSd (n : Nat) (sd se : Nat → Int32) : Nat → Int32 := mapN n (fun i => mn (sd i + (se i + 3) / 4) 99999) sd
/-- k rounds from 0 on -/
def itz {S : Type} (f : Nat → S → S) : Nat → S → S
  | 0, s => s
  | k + 1, s => f k (itz f k s)
theorem itz_0 {S : Type} (f : Nat → S → S) (s : S) : itz f 0 s = s := rfl
theorem itz_s {S : Type} (f : Nat → S → S) (k : Nat) (s : S) : itz f (k + 1) s = f k (itz f k s) := rfl
def allB (f : Nat → Bool) : Nat → Bool
  | 0 => true
  | n + 1 => allB f n && f n
theorem allB_s {f : Nat → Bool} {n : Nat} (h : allB f n = true) (h1 : f n = true) : allB f (n + 1) = true := by
  show (allB f n && f n) = true
  rw [h, h1]; rfl
theorem allB_f {f : Nat → Bool} {j : Nat} : ∀ {n : Nat}, j < n → f j = false → allB f n = false := by
  intro n
  induction n with
  | zero => intro h; exact absurd h (Nat.not_lt_zero j)
  | succ n ih =>
    intro h hf
    show (allB f n && f n) = false
    by_cases e : j = n
    · subst e; rw [hf, Bool.and_false]
    · rw [ih (by omega) hf, Bool.false_and]
theorem inF_in {n : Nat} {x : Int32} (hn : n ≤ 12) (h : inF n x = true) : x = nI x.toNatClampNeg ∧ x.toNatClampNeg < n := by
  unfold inF at h
  split at h
  · exact absurd h (by decide)
  · split at h
    · exact absurd h (by decide)
    · rename_i h1 h2
      rcases pk_ix x (n := n) (by omega) with q | q | ⟨j, hj, rfl⟩
      · exact absurd q h1
      · exact absurd q h2
      · rw [nI_clamp (by omega)]; exact ⟨rfl, hj⟩
theorem inI_in {n : Nat} {x : Int32} (hn : n ≤ 12) (h : inI n x = true) : x = nI x.toNatClampNeg ∧ 1 ≤ x.toNatClampNeg ∧ x.toNatClampNeg < n := by
  unfold inI at h
  split at h
  · exact absurd h (by decide)
  · split at h
    · exact absurd h (by decide)
    · rename_i h1 h2
      rcases pk_ix x (n := n) (by omega) with q | q | ⟨j, hj, rfl⟩
      · refine absurd ?_ h1
        rw [Int32.lt_iff_toInt_lt] at q ⊢
        have e0 : (0 : Int32).toInt = 0 := rfl
        have e1 : (1 : Int32).toInt = 1 := rfl
        omega
      · exact absurd q h2
      · rw [nI_clamp (by omega)]
        refine ⟨rfl, ?_, hj⟩
        rcases Nat.eq_zero_or_pos j with h0 | h0
        · subst h0; exact absurd (by decide) h1
        · exact h0
def hasA (n : Nat) (kd : Nat → Int32) (x y : Int32) : Bool := inI n x && (if kd x.toNatClampNeg = y then true else false)
def hgS (kd : Nat → Int32) (b : Nat) (ms : Int32) : Int32 := if kd b = 1 then ms &&& ((1 <<< (nI b &&& 31)) ^^^ (-1)) else ms
def hasG (n : Nat) (kd : Nat → Int32) (x : Int32) : Bool := if itf (hgS kd) 1 (n - 1) x = 0 then true else false
def laS (g : Int32) (b : Nat) (t : (Nat → Int32) × (Nat → Int32) × (Nat → Int32)) : (Nat → Int32) × (Nat → Int32) × (Nat → Int32) :=
  if g &&& (1 <<< (nI b &&& 31)) = 0 then t else (upd t.1 b 0, upd t.2.1 b 0, upd t.2.2 b 0)
def siS (sd se ba : Nat → Int32) (i : Nat) (a : Int32) : Int32 := a + ((sd i + se i) + ba i)
/-- storm and calm -/
def s2X (h : Int32) (n : Nat) (sd wl se : Nat → Int32) : Nat → Int32 := if h < 7 then (if 2 < h then sd else bkSd n sd se) else toSd n (3 * h) sd wl
def e2X (h : Int32) (n : Nat) (sd wl se : Nat → Int32) : Nat → Int32 := if h < 7 then (if 2 < h then se else bkSe n se) else toSe n (3 * h) sd wl se
/-- sand brought out of a bar -/
def bbS (sd : Nat → Int32) (f : Nat) (x : Int32) : Nat → Int32 := upd sd f (mn (sd f + x) 99999)
def bbB (ba : Nat → Int32) (b : Nat) (x : Int32) : Nat → Int32 := upd ba b (ba b - x)
def rdX (w : Int32) (db du df dw : Nat → Int32) (i : Nat) (t : (Nat → Int32) × (Nat → Int32)) : (Nat → Int32) × (Nat → Int32) :=
  if dw i = w then (bbS t.1 (df i).toNatClampNeg (mn (du i) (t.2 (db i).toNatClampNeg)), bbB t.2 (db i).toNatClampNeg (mn (du i) (t.2 (db i).toNatClampNeg))) else t
/-- what a told dredging is: a border, a field -/
def dOk (db df : Nat → Int32) (i : Nat) : Prop := (db i = nI (db i).toNatClampNeg ∧ (db i).toNatClampNeg < 13) ∧ df i = nI (df i).toNatClampNeg ∧ (df i).toNatClampNeg < 12
def okB (w : Int32) (vf vw vl vm sd : Nat → Int32) (i : Nat) : Bool := if vw i = w then (if ln sd (vf i).toNatClampNeg < vl i then false else if ln sd (vf i).toNatClampNeg ≤ vm i then true else false) else true
def prS (x : Int32) (oc : Nat → Int32) (i : Nat) (a : Int32) : Int32 := if x &&& (1 <<< (nI i &&& 31)) = 0 then a else a + oc i
def ao1 (n : Nat) (kd ok op oa : Nat → Int32) (i : Nat) (t : (Nat → Int32) × (Nat → Int32)) : (Nat → Int32) × (Nat → Int32) :=
  if ok i = 0 then (bbS t.1 (op i).toNatClampNeg (oa i), t.2) else cond (hasA n kd (op i) 1) (t.1, upd t.2 (op i).toNatClampNeg (oa i)) t
def aoS (x : Int32) (n : Nat) (kd ok op oa : Nat → Int32) (i : Nat) (t : (Nat → Int32) × (Nat → Int32)) : (Nat → Int32) × (Nat → Int32) :=
  if x &&& (1 <<< (nI i &&& 31)) = 0 then t else ao1 n kd ok op oa i t
theorem hasA_in {n : Nat} {kd : Nat → Int32} {x y : Int32} (hn : n ≤ 12) (h : hasA n kd x y = true) : (x = nI x.toNatClampNeg ∧ 1 ≤ x.toNatClampNeg ∧ x.toNatClampNeg < n) ∧ kd x.toNatClampNeg = y := by
  unfold hasA at h
  rw [Bool.and_eq_true] at h
  refine ⟨inI_in hn h.1, ?_⟩
  have h2 := h.2
  split at h2
  · assumption
  · exact absurd h2 (by decide)
end
section
set_option maxHeartbeats 4000000 in
set_option maxRecDepth 100000 in
theorem mJ7_fill_53178 (l : Launch) (D : va_G) (cA : ClassId) (aA : Nat → Nat) (N : Nat) (f : Nat → Int32) (v : Int32) (hN : N < 2 ^ 31) : mt_V l yJ7_fill_53178 wsJ7_fill_53178 { frames := 0, cells := 0, slots := 0, locals := 0 } D [(cA, .int)] [.ref (aA 0), .int v] (w1A cA aA N f) (w1A cA aA N (fun _ => v)) := by
  refine mt_ofVF (cc := cJ7_fill_53178) (maxL := 4) (ret := none) (lv := [(0, .ref (aA 0)), (1, .int v)]) (by decide) rfl (Nat.le_of_ble_eq_true rfl) rfl ?_
  intro p e s m args below meth c A C hr hk
  refine pt_iconst (pc' := 1) C dJ7_fill_53178_0 rfl (v := 0) (by decide) ?_
  refine pt_istore_n (pc' := 2) (lv' := [(2, .int 0), (0, .ref (aA 0)), (1, .int v)]) C dJ7_fill_53178_1 rfl rfl (by decide) rfl ?_
  refine pt_aload_n (pc' := 3) C dJ7_fill_53178_2 rfl 1 rfl ?_
  refine pt_alen (pc' := 4) C dJ7_fill_53178_3 rfl 0 rfl rfl ?_
  refine pt_istore_n (pc' := 5) (lv' := [(3, .int (nI N)), (2, .int 0), (0, .ref (aA 0)), (1, .int v)]) C dJ7_fill_53178_4 rfl rfl (by decide) rfl ?_
  refine pt_cv (ws' := w1A cA aA N (flN 0 v f)) (lv' := [(3, .int (nI N)), (2, .int (nI 0)), (0, .ref (aA 0)), (1, .int v)]) (by rw [flN_0]) [0, 1, 2, 3] (rfl) rfl ?_
  refine pt_for (wsf := fun j => w1A cA aA N (flN j v f)) (lvf := fun j => [(3, .int (nI N)), (2, .int (nI j)), (0, .ref (aA 0)), (1, .int v)]) N ?_ (fun j hj_5 ih_5 => ?_)
  rotate_left
  · refine pt_iload_n (pc' := 6) C dJ7_fill_53178_5 rfl 1 rfl ?_
    refine pt_iload_n (pc' := 7) C dJ7_fill_53178_6 rfl 0 rfl ?_
    refine pt_icmp_ge (pc' := 10) (tgt := 20) C dJ7_fill_53178_7 (by decide) rfl (fun h_7 => absurd h_7 (nI_ge hj_5 hN)) (fun h_7 => ?_)
    refine pt_aload_n (pc' := 11) C dJ7_fill_53178_10 rfl 2 rfl ?_
    refine pt_iload_n (pc' := 12) C dJ7_fill_53178_11 rfl 1 rfl ?_
    refine pt_iload_n (pc' := 13) C dJ7_fill_53178_12 rfl 3 rfl ?_
    refine pt_iast (pc' := 14) (ws' := w1A cA aA N (upd (flN j v f) j v)) C dJ7_fill_53178_13 rfl 0 rfl rfl j (rfl) (hj_5) (hN) rfl ?_
    refine pt_iinc (pc' := 17) (v := nI (j + 1)) (lv' := [(2, .int (nI (j + 1))), (3, .int (nI N)), (0, .ref (aA 0)), (1, .int v)]) C dJ7_fill_53178_14 rfl 1 rfl (nI_1 _) (by decide) rfl ?_
    refine pt_goto (pc' := 5) C dJ7_fill_53178_17 (by decide) ?_
    exact pt_cv (by rw [flN_s]) [1, 0, 2, 3] (rfl) rfl ih_5
  refine pt_iload_n (pc' := 6) C dJ7_fill_53178_5 rfl 1 rfl ?_
  refine pt_iload_n (pc' := 7) C dJ7_fill_53178_6 rfl 0 rfl ?_
  refine pt_icmp_ge (pc' := 10) (tgt := 20) C dJ7_fill_53178_7 (by decide) rfl (fun h_7 => ?_) (fun h_7 => absurd (nI_le (Nat.le_refl N) hN) h_7)
  refine pt_ext (ws' := w1A cA aA N (fun _ => v)) (fun _ => v) 0 rfl (fun j hj => by simp only [flN, if_pos hj]) rfl ?_
  exact pt_vret C hr hk dJ7_fill_53178_20 (rfl)

set_option maxHeartbeats 4000000 in
set_option maxRecDepth 100000 in
theorem mX0_hasField (l : Launch) (D : va_G) (cA : ClassId) (aB : Nat → Nat) (n : Nat) (k : Int32) (bs : Nat → Int32) (wl : Nat → Int32) (fd : Nat → Int32) (kd : Nat → Int32) (sz : Nat → Int32) (lk : Nat → Int32) (x : Int32) : mt_I l yX0_hasField wsX0_hasField { frames := 0, cells := 0, slots := 0, locals := 0 } D [(cA, .int)] [.ref (aB 0), .int x] (wB cA aB n k bs wl fd kd sz lk) (bI (inF n x)) (wB cA aB n k bs wl fd kd sz lk) := by
  refine mt_ofI (cc := cX0_hasField) (maxL := 2) (ret := (some .boolean)) (lv := [(0, .ref (aB 0)), (1, .int x)]) (by decide) rfl (Nat.le_of_ble_eq_true rfl) rfl ?_
  intro p e s m args below meth c A C hr hk
  have f_9 := C.hts (.fieldLink RX0 9 "ShoreFields$Begin" "fieldCount" "I") (by decide +kernel)
  have in_0 : ∀ w ∈ u_ws RX0 TX0 8, w ∈ wsX0_hasField := by decide +kernel
  refine pt_iload_n (pc' := 1) C dX0_hasField_0 rfl 1 rfl ?_
  refine pt_if_lt (pc' := 4) (tgt := 16) C dX0_hasField_1 (by decide) rfl (fun h_1 => ?_) (fun h_1 => ?_)
  · refine pt_iconst (pc' := 17) C dX0_hasField_16 rfl (v := 0) (by decide) ?_
    exact pt_iret C hr hk dX0_hasField_17 (rfl) (by simp only [inF, bI, cond_false, cond_true, if_pos h_1]) (rfl)
  · refine pt_iload_n (pc' := 5) C dX0_hasField_4 rfl 1 rfl ?_
    refine pt_aload_n (pc' := 6) C dX0_hasField_5 rfl 0 rfl ?_
    refine pt_get (pc' := 9) C in_0 dX0_hasField_6 rfl 0 0 rfl rfl (by decide) f_9 rfl ?_
    refine pt_icmp_ge (pc' := 12) (tgt := 16) C dX0_hasField_9 (by decide) rfl (fun h_9 => ?_) (fun h_9 => ?_)
    · refine pt_iconst (pc' := 17) C dX0_hasField_16 rfl (v := 0) (by decide) ?_
      exact pt_iret C hr hk dX0_hasField_17 (rfl) (by simp only [inF, bI, cond_false, cond_true, if_neg h_1, if_pos h_9]) (rfl)
    · refine pt_iconst (pc' := 13) C dX0_hasField_12 rfl (v := 1) (by decide) ?_
      refine pt_goto (pc' := 17) C dX0_hasField_13 (by decide) ?_
      exact pt_iret C hr hk dX0_hasField_17 (rfl) (by simp only [inF, bI, cond_false, cond_true, if_neg h_1, if_neg h_9]) (rfl)

set_option maxHeartbeats 4000000 in
set_option maxRecDepth 100000 in
theorem mX0_hasBorder (l : Launch) (D : va_G) (cA : ClassId) (aB : Nat → Nat) (n : Nat) (k : Int32) (bs : Nat → Int32) (wl : Nat → Int32) (fd : Nat → Int32) (kd : Nat → Int32) (sz : Nat → Int32) (lk : Nat → Int32) (x : Int32) : mt_I l yX0_hasBorder wsX0_hasBorder { frames := 0, cells := 0, slots := 0, locals := 0 } D [(cA, .int)] [.ref (aB 0), .int x] (wB cA aB n k bs wl fd kd sz lk) (bI (inBd n x)) (wB cA aB n k bs wl fd kd sz lk) := by
  refine mt_ofI (cc := cX0_hasBorder) (maxL := 2) (ret := (some .boolean)) (lv := [(0, .ref (aB 0)), (1, .int x)]) (by decide) rfl (Nat.le_of_ble_eq_true rfl) rfl ?_
  intro p e s m args below meth c A C hr hk
  have f_9 := C.hts (.fieldLink RX0 9 "ShoreFields$Begin" "fieldCount" "I") (by decide +kernel)
  have in_0 : ∀ w ∈ u_ws RX0 TX0 8, w ∈ wsX0_hasBorder := by decide +kernel
  refine pt_iload_n (pc' := 1) C dX0_hasBorder_0 rfl 1 rfl ?_
  refine pt_if_lt (pc' := 4) (tgt := 16) C dX0_hasBorder_1 (by decide) rfl (fun h_1 => ?_) (fun h_1 => ?_)
  · refine pt_iconst (pc' := 17) C dX0_hasBorder_16 rfl (v := 0) (by decide) ?_
    exact pt_iret C hr hk dX0_hasBorder_17 (rfl) (by simp only [inBd, bI, cond_false, cond_true, if_pos h_1]) (rfl)
  · refine pt_iload_n (pc' := 5) C dX0_hasBorder_4 rfl 1 rfl ?_
    refine pt_aload_n (pc' := 6) C dX0_hasBorder_5 rfl 0 rfl ?_
    refine pt_get (pc' := 9) C in_0 dX0_hasBorder_6 rfl 0 0 rfl rfl (by decide) f_9 rfl ?_
    refine pt_icmp_gt (pc' := 12) (tgt := 16) C dX0_hasBorder_9 (by decide) rfl (fun h_9 => ?_) (fun h_9 => ?_)
    · refine pt_iconst (pc' := 17) C dX0_hasBorder_16 rfl (v := 0) (by decide) ?_
      exact pt_iret C hr hk dX0_hasBorder_17 (rfl) (by simp only [inBd, bI, cond_false, cond_true, if_neg h_1, if_pos h_9]) (rfl)
    · refine pt_iconst (pc' := 13) C dX0_hasBorder_12 rfl (v := 1) (by decide) ?_
      refine pt_goto (pc' := 17) C dX0_hasBorder_13 (by decide) ?_
      exact pt_iret C hr hk dX0_hasBorder_17 (rfl) (by simp only [inBd, bI, cond_false, cond_true, if_neg h_1, if_neg h_9]) (rfl)

set_option maxHeartbeats 4000000 in
set_option maxRecDepth 100000 in
theorem mX0_liesBetweenFields (l : Launch) (D : va_G) (cA : ClassId) (aB : Nat → Nat) (n : Nat) (k : Int32) (bs : Nat → Int32) (wl : Nat → Int32) (fd : Nat → Int32) (kd : Nat → Int32) (sz : Nat → Int32) (lk : Nat → Int32) (x : Int32) : mt_I l yX0_liesBetweenFields wsX0_liesBetweenFields { frames := 0, cells := 0, slots := 0, locals := 0 } D [(cA, .int)] [.ref (aB 0), .int x] (wB cA aB n k bs wl fd kd sz lk) (bI (inI n x)) (wB cA aB n k bs wl fd kd sz lk) := by
  refine mt_ofI (cc := cX0_liesBetweenFields) (maxL := 2) (ret := (some .boolean)) (lv := [(0, .ref (aB 0)), (1, .int x)]) (by decide) rfl (Nat.le_of_ble_eq_true rfl) rfl ?_
  intro p e s m args below meth c A C hr hk
  have f_9 := C.hts (.fieldLink RX0 9 "ShoreFields$Begin" "fieldCount" "I") (by decide +kernel)
  have in_0 : ∀ w ∈ u_ws RX0 TX0 8, w ∈ wsX0_liesBetweenFields := by decide +kernel
  refine pt_iload_n (pc' := 1) C dX0_liesBetweenFields_0 rfl 1 rfl ?_
  refine pt_iconst (pc' := 2) C dX0_liesBetweenFields_1 rfl (v := 1) (by decide) ?_
  refine pt_icmp_lt (pc' := 5) (tgt := 17) C dX0_liesBetweenFields_2 (by decide) rfl (fun h_2 => ?_) (fun h_2 => ?_)
  · refine pt_iconst (pc' := 18) C dX0_liesBetweenFields_17 rfl (v := 0) (by decide) ?_
    exact pt_iret C hr hk dX0_liesBetweenFields_18 (rfl) (by simp only [inI, bI, cond_false, cond_true, if_pos h_2]) (rfl)
  · refine pt_iload_n (pc' := 6) C dX0_liesBetweenFields_5 rfl 1 rfl ?_
    refine pt_aload_n (pc' := 7) C dX0_liesBetweenFields_6 rfl 0 rfl ?_
    refine pt_get (pc' := 10) C in_0 dX0_liesBetweenFields_7 rfl 0 0 rfl rfl (by decide) f_9 rfl ?_
    refine pt_icmp_ge (pc' := 13) (tgt := 17) C dX0_liesBetweenFields_10 (by decide) rfl (fun h_10 => ?_) (fun h_10 => ?_)
    · refine pt_iconst (pc' := 18) C dX0_liesBetweenFields_17 rfl (v := 0) (by decide) ?_
      exact pt_iret C hr hk dX0_liesBetweenFields_18 (rfl) (by simp only [inI, bI, cond_false, cond_true, if_neg h_2, if_pos h_10]) (rfl)
    · refine pt_iconst (pc' := 14) C dX0_liesBetweenFields_13 rfl (v := 1) (by decide) ?_
      refine pt_goto (pc' := 18) C dX0_liesBetweenFields_14 (by decide) ?_
      exact pt_iret C hr hk dX0_liesBetweenFields_18 (rfl) (by simp only [inI, bI, cond_false, cond_true, if_neg h_2, if_neg h_10]) (rfl)

set_option maxHeartbeats 4000000 in
set_option maxRecDepth 100000 in
theorem mX0_hasAt (l : Launch) (D : va_G) (cA : ClassId) (aB : Nat → Nat) (n : Nat) (k : Int32) (bs : Nat → Int32) (wl : Nat → Int32) (fd : Nat → Int32) (kd : Nat → Int32) (sz : Nat → Int32) (lk : Nat → Int32) (x : Int32) (y : Int32) (hm : n ≤ 12) : mt_I l yX0_hasAt wsX0_hasAt { frames := 1, cells := 0, slots := 0, locals := 21 } D [(cA, .int)] [.ref (aB 0), .int x, .int y] (wB cA aB n k bs wl fd kd sz lk) (bI (hasA n kd x y)) (wB cA aB n k bs wl fd kd sz lk) := by
  refine mt_ofI (cc := cX0_hasAt) (maxL := 3) (ret := (some .boolean)) (lv := [(0, .ref (aB 0)), (1, .int x), (2, .int y)]) (by decide) rfl (Nat.le_of_ble_eq_true rfl) rfl ?_
  intro p e s m args below meth c A C hr hk
  have f_28 := C.hts (.fieldLink RX0 28 "ShoreFields$Begin" "kindAt" "[I") (by decide +kernel)
  have in_0 : ∀ w ∈ u_ws RX0 TX0 8, w ∈ wsX0_hasAt := by decide +kernel
  refine pt_aload_n (pc' := 1) C dX0_hasAt_0 rfl 0 rfl ?_
  refine pt_iload_n (pc' := 2) C dX0_hasAt_1 rfl 1 rfl ?_
  refine pt_cvI0 (pc' := 5) (w1 := wB cA aB n k bs wl fd kd sz lk) (As := [.int x]) (rest := []) C (mX0_liesBetweenFields l D cA aB n k bs wl fd kd sz lk x ) (cwV 1 C.hts gX0_hasAt_X0_liesBetweenFields rfl rfl rfl (by decide +kernel) ⟨Nat.le_of_ble_eq_true rfl, Nat.le_of_ble_eq_true rfl⟩) dX0_hasAt_2 rfl 0 rfl rfl rfl rfl rfl (Nat.le_of_ble_eq_true rfl) ⟨Nat.le_of_ble_eq_true rfl, Nat.le_of_ble_eq_true rfl⟩ ?_
  refine pt_if_eq (pc' := 8) (tgt := 22) C dX0_hasAt_5 (by decide) rfl (fun h_5 => ?_) (fun h_5 => ?_)
  · refine pt_iconst (pc' := 23) C dX0_hasAt_22 rfl (v := 0) (by decide) ?_
    exact pt_iret C hr hk dX0_hasAt_23 (rfl) (by simp only [hasA, bI_f h_5, bI, cond_false, cond_true, Bool.and_true, Bool.true_and, Bool.and_false, Bool.false_and]) (rfl)
  · refine pt_aload_n (pc' := 9) C dX0_hasAt_8 rfl 0 rfl ?_
    refine pt_get (pc' := 12) C in_0 dX0_hasAt_9 rfl 0 5 rfl rfl (by decide) f_28 rfl ?_
    refine pt_iload_n (pc' := 13) C dX0_hasAt_12 rfl 1 rfl ?_
    refine pt_iald (pc' := 14) C dX0_hasAt_13 rfl 4 rfl rfl x.toNatClampNeg ((inI_in hm (bI_t h_5)).1) (by have := (inI_in hm (bI_t h_5)).2.2; omega) (by decide) ?_
    refine pt_iload_n (pc' := 15) C dX0_hasAt_14 rfl 2 rfl ?_
    refine pt_icmp_ne (pc' := 18) (tgt := 22) C dX0_hasAt_15 (by decide) rfl (fun h_15 => ?_) (fun h_15 => ?_)
    · refine pt_iconst (pc' := 23) C dX0_hasAt_22 rfl (v := 0) (by decide) ?_
      exact pt_iret C hr hk dX0_hasAt_23 (rfl) (by simp only [hasA, bI_t h_5, if_neg h_15, bI, cond_false, cond_true, Bool.and_true, Bool.true_and, Bool.and_false, Bool.false_and]) (rfl)
    · refine pt_iconst (pc' := 19) C dX0_hasAt_18 rfl (v := 1) (by decide) ?_
      refine pt_goto (pc' := 23) C dX0_hasAt_19 (by decide) ?_
      exact pt_iret C hr hk dX0_hasAt_23 (rfl) (by simp only [hasA, bI_t h_5, if_pos h_15, bI, cond_false, cond_true, Bool.and_true, Bool.true_and, Bool.and_false, Bool.false_and]) (rfl)

set_option maxHeartbeats 4000000 in
set_option maxRecDepth 100000 in
theorem mX0_hasGroynes (l : Launch) (D : va_G) (cA : ClassId) (aB : Nat → Nat) (n : Nat) (k : Int32) (bs : Nat → Int32) (wl : Nat → Int32) (fd : Nat → Int32) (kd : Nat → Int32) (sz : Nat → Int32) (lk : Nat → Int32) (x : Int32) (hn : 2 ≤ n) (hm : n ≤ 12) : mt_I l yX0_hasGroynes wsX0_hasGroynes { frames := 0, cells := 0, slots := 0, locals := 0 } D [(cA, .int)] [.ref (aB 0), .int x] (wB cA aB n k bs wl fd kd sz lk) (bI (hasG n kd x)) (wB cA aB n k bs wl fd kd sz lk) := by
  refine mt_ofI (cc := cX0_hasGroynes) (maxL := 4) (ret := (some .boolean)) (lv := [(0, .ref (aB 0)), (1, .int x)]) (by decide) rfl (Nat.le_of_ble_eq_true rfl) rfl ?_
  intro p e s m args below meth c A C hr hk
  have f_9 := C.hts (.fieldLink RX0 9 "ShoreFields$Begin" "fieldCount" "I") (by decide +kernel)
  have in_0 : ∀ w ∈ u_ws RX0 TX0 8, w ∈ wsX0_hasGroynes := by decide +kernel
  have f_28 := C.hts (.fieldLink RX0 28 "ShoreFields$Begin" "kindAt" "[I") (by decide +kernel)
  refine pt_iload_n (pc' := 1) C dX0_hasGroynes_0 rfl 1 rfl ?_
  refine pt_istore_n (pc' := 2) (lv' := [(2, .int x), (0, .ref (aB 0)), (1, .int x)]) C dX0_hasGroynes_1 rfl rfl (by decide) rfl ?_
  refine pt_iconst (pc' := 3) C dX0_hasGroynes_2 rfl (v := 1) (by decide) ?_
  refine pt_istore_n (pc' := 4) (lv' := [(3, .int 1), (2, .int x), (0, .ref (aB 0)), (1, .int x)]) C dX0_hasGroynes_3 rfl rfl (by decide) rfl ?_
  refine pt_cv (ws' := wB cA aB n k bs wl fd kd sz lk) (lv' := [(3, .int (nI (1 + 0))), (2, .int (itf (hgS kd) 1 0 x)), (0, .ref (aB 0)), (1, .int x)]) (rfl) [0, 1, 2, 3] (rfl) rfl ?_
  refine pt_for (wsf := fun j => wB cA aB n k bs wl fd kd sz lk) (lvf := fun j => [(3, .int (nI (1 + j))), (2, .int (itf (hgS kd) 1 j x)), (0, .ref (aB 0)), (1, .int x)]) (n - 1) ?_ (fun j hj_4 ih_4 => ?_)
  rotate_left
  · refine pt_iload_n (pc' := 5) C dX0_hasGroynes_4 rfl 0 rfl ?_
    refine pt_aload_n (pc' := 6) C dX0_hasGroynes_5 rfl 2 rfl ?_
    refine pt_get (pc' := 9) C in_0 dX0_hasGroynes_6 rfl 0 0 rfl rfl (by decide) f_9 rfl ?_
    refine pt_icmp_ge (pc' := 12) (tgt := 36) C dX0_hasGroynes_9 (by decide) rfl (fun h_9 => absurd h_9 (nI_ge (show 1 + j < n by omega) (by omega))) (fun h_9 => ?_)
    refine pt_aload_n (pc' := 13) C dX0_hasGroynes_12 rfl 2 rfl ?_
    refine pt_get (pc' := 16) C in_0 dX0_hasGroynes_13 rfl 0 5 rfl rfl (by decide) f_28 rfl ?_
    refine pt_iload_n (pc' := 17) C dX0_hasGroynes_16 rfl 0 rfl ?_
    refine pt_iald (pc' := 18) C dX0_hasGroynes_17 rfl 4 rfl rfl (1 + j) (rfl) (by omega) (by decide) ?_
    refine pt_iconst (pc' := 19) C dX0_hasGroynes_18 rfl (v := 1) (by decide) ?_
    refine pt_jn (q := 30) (k := 0) (n := 0) (wB cA aB n k bs wl fd kd sz lk) [(2, .int (if (kd (1 + j)) = 1 then (itf (hgS kd) 1 j x) &&& ((1 <<< ((nI (1 + j)) &&& 31)) ^^^ (-1)) else itf (hgS kd) 1 j x)), (3, .int (nI (1 + j))), (0, .ref (aB 0)), (1, .int x)] [] (fun K => ?_) ?_
    · refine pt_icmp_ne (pc' := 22) (tgt := 30) C dX0_hasGroynes_19 (by decide) rfl (fun h_19 => ?_) (fun h_19 => ?_)
      · exact pt_cv (lv' := [(2, .int (itf (hgS kd) 1 j x)), (3, .int (nI (1 + j))), (0, .ref (aB 0)), (1, .int x)]) rfl [1, 0, 2, 3] rfl rfl (by simpa only [if_neg h_19] using K)
      · refine pt_iload_n (pc' := 23) C dX0_hasGroynes_22 rfl 1 rfl ?_
        refine pt_iconst (pc' := 24) C dX0_hasGroynes_23 rfl (v := 1) (by decide) ?_
        refine pt_iload_n (pc' := 25) C dX0_hasGroynes_24 rfl 0 rfl ?_
        refine pt_ishl (pc' := 26) C dX0_hasGroynes_25 rfl ?_
        refine pt_iconst (pc' := 27) C dX0_hasGroynes_26 rfl (v := -1) (by decide) ?_
        refine pt_ixor (pc' := 28) C dX0_hasGroynes_27 rfl ?_
        refine pt_iand (pc' := 29) C dX0_hasGroynes_28 rfl ?_
        refine pt_istore_n (pc' := 30) (lv' := [(2, .int ((itf (hgS kd) 1 j x) &&& ((1 <<< ((nI (1 + j)) &&& 31)) ^^^ (-1)))), (3, .int (nI (1 + j))), (0, .ref (aB 0)), (1, .int x)]) C dX0_hasGroynes_29 rfl rfl (by decide) rfl ?_
        exact pt_cv (lv' := [(2, .int ((itf (hgS kd) 1 j x) &&& ((1 <<< ((nI (1 + j)) &&& 31)) ^^^ (-1)))), (3, .int (nI (1 + j))), (0, .ref (aB 0)), (1, .int x)]) rfl [0, 1, 2, 3] rfl rfl (by simpa only [if_pos h_19] using K)
    refine pt_iinc (pc' := 33) (v := nI (1 + (j + 1))) (lv' := [(3, .int (nI (1 + (j + 1)))), (2, .int (if (kd (1 + j)) = 1 then (itf (hgS kd) 1 j x) &&& ((1 <<< ((nI (1 + j)) &&& 31)) ^^^ (-1)) else itf (hgS kd) 1 j x)), (0, .ref (aB 0)), (1, .int x)]) C dX0_hasGroynes_30 rfl 1 rfl (nI_1 _) (by decide) rfl ?_
    refine pt_goto (pc' := 4) C dX0_hasGroynes_33 (by decide) ?_
    exact pt_cv (rfl) [0, 1, 2, 3] (rfl) rfl ih_4
  refine pt_iload_n (pc' := 5) C dX0_hasGroynes_4 rfl 0 rfl ?_
  refine pt_aload_n (pc' := 6) C dX0_hasGroynes_5 rfl 2 rfl ?_
  refine pt_get (pc' := 9) C in_0 dX0_hasGroynes_6 rfl 0 0 rfl rfl (by decide) f_9 rfl ?_
  refine pt_icmp_ge (pc' := 12) (tgt := 36) C dX0_hasGroynes_9 (by decide) rfl (fun h_9 => ?_) (fun h_9 => absurd (nI_le (show n ≤ 1 + (n - 1) by omega) (by omega)) h_9)
  refine pt_iload_n (pc' := 37) C dX0_hasGroynes_36 rfl 1 rfl ?_
  refine pt_if_ne (pc' := 40) (tgt := 44) C dX0_hasGroynes_37 (by decide) rfl (fun h_37 => ?_) (fun h_37 => ?_)
  · refine pt_iconst (pc' := 45) C dX0_hasGroynes_44 rfl (v := 0) (by decide) ?_
    exact pt_iret C hr hk dX0_hasGroynes_45 (rfl) (by simp only [hasG, bI, cond_false, cond_true, if_neg h_37]) (rfl)
  · refine pt_iconst (pc' := 41) C dX0_hasGroynes_40 rfl (v := 1) (by decide) ?_
    refine pt_goto (pc' := 45) C dX0_hasGroynes_41 (by decide) ?_
    exact pt_iret C hr hk dX0_hasGroynes_45 (rfl) (by simp only [hasG, bI, cond_false, cond_true, if_pos h_37]) (rfl)

set_option maxHeartbeats 4000000 in
set_option maxRecDepth 100000 in
theorem mX0_build (l : Launch) (D : va_G) (cA : ClassId) (aB : Nat → Nat) (n : Nat) (k : Int32) (bs : Nat → Int32) (wl : Nat → Int32) (fd : Nat → Int32) (kd : Nat → Int32) (sz : Nat → Int32) (lk : Nat → Int32) (b : Nat) (x : Int32) (y : Int32) (z : Int32) (hb : b < 13) : mt_V l yX0_build wsX0_build { frames := 0, cells := 0, slots := 0, locals := 0 } D [(cA, .int)] [.ref (aB 0), .int (nI b), .int x, .int y, .int z] (wB cA aB n k bs wl fd kd sz lk) (wB cA aB n k bs wl fd (upd kd b x) (upd sz b y) (upd lk b z)) := by
  refine mt_ofV (cc := cX0_build) (maxL := 5) (ret := none) (lv := [(0, .ref (aB 0)), (1, .int (nI b)), (2, .int x), (3, .int y), (4, .int z)]) (by decide) rfl (Nat.le_of_ble_eq_true rfl) rfl ?_
  intro p e s m args below meth c A C hr hk
  have f_28 := C.hts (.fieldLink RX0 28 "ShoreFields$Begin" "kindAt" "[I") (by decide +kernel)
  have in_0 : ∀ w ∈ u_ws RX0 TX0 8, w ∈ wsX0_build := by decide +kernel
  have f_31 := C.hts (.fieldLink RX0 31 "ShoreFields$Begin" "sizeAt" "[I") (by decide +kernel)
  have f_34 := C.hts (.fieldLink RX0 34 "ShoreFields$Begin" "leakAt" "[I") (by decide +kernel)
  refine pt_aload_n (pc' := 1) C dX0_build_0 rfl 0 rfl ?_
  refine pt_get (pc' := 4) C in_0 dX0_build_1 rfl 0 5 rfl rfl (by decide) f_28 rfl ?_
  refine pt_iload_n (pc' := 5) C dX0_build_4 rfl 1 rfl ?_
  refine pt_iload_n (pc' := 6) C dX0_build_5 rfl 2 rfl ?_
  refine pt_iast (pc' := 7) (ws' := wB cA aB n k bs wl fd (upd kd b x) sz lk) C dX0_build_6 rfl 4 rfl rfl b (rfl) (by omega) (by decide) rfl ?_
  refine pt_aload_n (pc' := 8) C dX0_build_7 rfl 0 rfl ?_
  refine pt_get (pc' := 11) C in_0 dX0_build_8 rfl 0 6 rfl rfl (by decide) f_31 rfl ?_
  refine pt_iload_n (pc' := 12) C dX0_build_11 rfl 1 rfl ?_
  refine pt_iload_n (pc' := 13) C dX0_build_12 rfl 3 rfl ?_
  refine pt_iast (pc' := 14) (ws' := wB cA aB n k bs wl fd (upd kd b x) (upd sz b y) lk) C dX0_build_13 rfl 5 rfl rfl b (rfl) (by omega) (by decide) rfl ?_
  refine pt_aload_n (pc' := 15) C dX0_build_14 rfl 0 rfl ?_
  refine pt_get (pc' := 18) C in_0 dX0_build_15 rfl 0 7 rfl rfl (by decide) f_34 rfl ?_
  refine pt_iload_n (pc' := 19) C dX0_build_18 rfl 1 rfl ?_
  refine pt_iload (pc' := 21) C dX0_build_19 rfl 4 rfl ?_
  refine pt_iast (pc' := 22) (ws' := wB cA aB n k bs wl fd (upd kd b x) (upd sz b y) (upd lk b z)) C dX0_build_21 rfl 6 rfl rfl b (rfl) (by omega) (by decide) rfl ?_
  exact pt_vret C hr hk dX0_build_22 (rfl)

set_option maxHeartbeats 4000000 in
set_option maxRecDepth 100000 in
theorem mX0_leaveAway (l : Launch) (D : va_G) (cA : ClassId) (aB : Nat → Nat) (n : Nat) (k : Int32) (bs : Nat → Int32) (wl : Nat → Int32) (fd : Nat → Int32) (kd : Nat → Int32) (sz : Nat → Int32) (lk : Nat → Int32) (x : Int32) (hn : 2 ≤ n) (hm : n ≤ 12) : mt_V l yX0_leaveAway wsX0_leaveAway { frames := 1, cells := 0, slots := 0, locals := 24 } D [(cA, .int)] [.ref (aB 0), .int x] (wB cA aB n k bs wl fd kd sz lk) (wB cA aB n k bs wl fd ((itf (laS x) 1 (n - 1) (kd, sz, lk)).1) ((itf (laS x) 1 (n - 1) (kd, sz, lk)).2.1) ((itf (laS x) 1 (n - 1) (kd, sz, lk)).2.2)) := by
  refine mt_ofV (cc := cX0_leaveAway) (maxL := 3) (ret := none) (lv := [(0, .ref (aB 0)), (1, .int x)]) (by decide) rfl (Nat.le_of_ble_eq_true rfl) rfl ?_
  intro p e s m args below meth c A C hr hk
  have f_9 := C.hts (.fieldLink RX0 9 "ShoreFields$Begin" "fieldCount" "I") (by decide +kernel)
  have in_0 : ∀ w ∈ u_ws RX0 TX0 8, w ∈ wsX0_leaveAway := by decide +kernel
  refine pt_iconst (pc' := 1) C dX0_leaveAway_0 rfl (v := 1) (by decide) ?_
  refine pt_istore_n (pc' := 2) (lv' := [(2, .int 1), (0, .ref (aB 0)), (1, .int x)]) C dX0_leaveAway_1 rfl rfl (by decide) rfl ?_
  refine pt_cv (ws' := wB cA aB n k bs wl fd ((itf (laS x) 1 0 (kd, sz, lk)).1) ((itf (laS x) 1 0 (kd, sz, lk)).2.1) ((itf (laS x) 1 0 (kd, sz, lk)).2.2)) (lv' := [(2, .int (nI (1 + 0))), (0, .ref (aB 0)), (1, .int x)]) (rfl) [0, 1, 2] (rfl) rfl ?_
  refine pt_for (wsf := fun j => wB cA aB n k bs wl fd ((itf (laS x) 1 j (kd, sz, lk)).1) ((itf (laS x) 1 j (kd, sz, lk)).2.1) ((itf (laS x) 1 j (kd, sz, lk)).2.2)) (lvf := fun j => [(2, .int (nI (1 + j))), (0, .ref (aB 0)), (1, .int x)]) (n - 1) ?_ (fun j hj_2 ih_2 => ?_)
  rotate_left
  · refine pt_iload_n (pc' := 3) C dX0_leaveAway_2 rfl 0 rfl ?_
    refine pt_aload_n (pc' := 4) C dX0_leaveAway_3 rfl 1 rfl ?_
    refine pt_get (pc' := 7) C in_0 dX0_leaveAway_4 rfl 0 0 rfl rfl (by decide) f_9 rfl ?_
    refine pt_icmp_ge (pc' := 10) (tgt := 32) C dX0_leaveAway_7 (by decide) rfl (fun h_7 => absurd h_7 (nI_ge (show 1 + j < n by omega) (by omega))) (fun h_7 => ?_)
    refine pt_iload_n (pc' := 11) C dX0_leaveAway_10 rfl 2 rfl ?_
    refine pt_iconst (pc' := 12) C dX0_leaveAway_11 rfl (v := 1) (by decide) ?_
    refine pt_iload_n (pc' := 13) C dX0_leaveAway_12 rfl 0 rfl ?_
    refine pt_ishl (pc' := 14) C dX0_leaveAway_13 rfl ?_
    refine pt_iand (pc' := 15) C dX0_leaveAway_14 rfl ?_
    refine pt_if_eq (pc' := 18) (tgt := 26) C dX0_leaveAway_15 (by decide) rfl (fun h_15 => ?_) (fun h_15 => ?_)
    · refine pt_iinc (pc' := 29) (v := nI (1 + (j + 1))) (lv' := [(2, .int (nI (1 + (j + 1)))), (0, .ref (aB 0)), (1, .int x)]) C dX0_leaveAway_26 rfl 0 rfl (nI_1 _) (by decide) rfl ?_
      refine pt_goto (pc' := 2) C dX0_leaveAway_29 (by decide) ?_
      exact pt_cv (by simp only [itf_s, laS, if_pos h_15]) [0, 1, 2] (rfl) rfl ih_2
    · refine pt_aload_n (pc' := 19) C dX0_leaveAway_18 rfl 1 rfl ?_
      refine pt_iload_n (pc' := 20) C dX0_leaveAway_19 rfl 0 rfl ?_
      refine pt_iconst (pc' := 21) C dX0_leaveAway_20 rfl (v := 0) (by decide) ?_
      refine pt_iconst (pc' := 22) C dX0_leaveAway_21 rfl (v := 0) (by decide) ?_
      refine pt_iconst (pc' := 23) C dX0_leaveAway_22 rfl (v := 0) (by decide) ?_
      refine pt_cvV0 (pc' := 26) (w1 := wB cA aB n k bs wl fd (upd ((itf (laS x) 1 j (kd, sz, lk)).1) (1 + j) 0) (upd ((itf (laS x) 1 j (kd, sz, lk)).2.1) (1 + j) 0) (upd ((itf (laS x) 1 j (kd, sz, lk)).2.2) (1 + j) 0)) (As := [.int (nI (1 + j)), .int 0, .int 0, .int 0]) (rest := []) C (mX0_build l D cA aB n k bs wl fd ((itf (laS x) 1 j (kd, sz, lk)).1) ((itf (laS x) 1 j (kd, sz, lk)).2.1) ((itf (laS x) 1 j (kd, sz, lk)).2.2) (1 + j) 0 0 0 (by first | assumption | omega)) (cwV 4 C.hts gX0_leaveAway_X0_build rfl rfl rfl (by decide +kernel) ⟨Nat.le_of_ble_eq_true rfl, Nat.le_of_ble_eq_true rfl⟩) dX0_leaveAway_23 rfl 0 rfl rfl rfl rfl rfl (Nat.le_of_ble_eq_true rfl) ⟨Nat.le_of_ble_eq_true rfl, Nat.le_of_ble_eq_true rfl⟩ ?_
      refine pt_iinc (pc' := 29) (v := nI (1 + (j + 1))) (lv' := [(2, .int (nI (1 + (j + 1)))), (0, .ref (aB 0)), (1, .int x)]) C dX0_leaveAway_26 rfl 0 rfl (nI_1 _) (by decide) rfl ?_
      refine pt_goto (pc' := 2) C dX0_leaveAway_29 (by decide) ?_
      exact pt_cv (by simp only [itf_s, laS, if_neg h_15]) [0, 1, 2] (rfl) rfl ih_2
  refine pt_iload_n (pc' := 3) C dX0_leaveAway_2 rfl 0 rfl ?_
  refine pt_aload_n (pc' := 4) C dX0_leaveAway_3 rfl 1 rfl ?_
  refine pt_get (pc' := 7) C in_0 dX0_leaveAway_4 rfl 0 0 rfl rfl (by decide) f_9 rfl ?_
  refine pt_icmp_ge (pc' := 10) (tgt := 32) C dX0_leaveAway_7 (by decide) rfl (fun h_7 => ?_) (fun h_7 => absurd (nI_le (show n ≤ 1 + (n - 1) by omega) (by omega)) h_7)
  exact pt_vret C hr hk dX0_leaveAway_32 (rfl)

set_option maxHeartbeats 4000000 in
set_option maxRecDepth 100000 in
theorem mX0_copyFrom (l : Launch) (D : va_G) (cA : ClassId) (aB : Nat → Nat) (n : Nat) (k : Int32) (bs : Nat → Int32) (wl : Nat → Int32) (fd : Nat → Int32) (kd : Nat → Int32) (sz : Nat → Int32) (lk : Nat → Int32) (aC : Nat → Nat) (n2 : Nat) (k2 : Int32) (bs2 : Nat → Int32) (wl2 : Nat → Int32) (fd2 : Nat → Int32) (kd2 : Nat → Int32) (sz2 : Nat → Int32) (lk2 : Nat → Int32) : mt_V l yX0_copyFrom wsX0_copyFrom { frames := 1, cells := 0, slots := 0, locals := 60 } D [(cA, .int)] [.ref (aB 0), .ref (aC 0)] (wB cA aB n k bs wl fd kd sz lk ++ wB cA aC n2 k2 bs2 wl2 fd2 kd2 sz2 lk2) (wB cA aB n2 k2 bs2 wl2 fd2 kd2 sz2 lk2 ++ wB cA aC n2 k2 bs2 wl2 fd2 kd2 sz2 lk2) := by
  refine mt_ofV (cc := cX0_copyFrom) (maxL := 2) (ret := none) (lv := [(0, .ref (aB 0)), (1, .ref (aC 0))]) (by decide) rfl (Nat.le_of_ble_eq_true rfl) rfl ?_
  intro p e s m args below meth c A C hr hk
  have f_9 := C.hts (.fieldLink RX0 9 "ShoreFields$Begin" "fieldCount" "I") (by decide +kernel)
  have in_0 : ∀ w ∈ u_ws RX0 TX0 8, w ∈ wsX0_copyFrom := by decide +kernel
  have f_15 := C.hts (.fieldLink RX0 15 "ShoreFields$Begin" "shoreNumber" "I") (by decide +kernel)
  have f_18 := C.hts (.fieldLink RX0 18 "ShoreFields$Begin" "sandOf" "[I") (by decide +kernel)
  have m_51 := C.hts (.methodLink RX0 51 arraycopyName) (by decide +kernel)
  have ac_n := C.hts (.native arraycopyName) (by decide +kernel)
  have ac_s := C.hts (.static arraycopyName) (by decide +kernel)
  have ac_i := C.hts (.initialized "java/lang/System") (by decide +kernel)
  have f_22 := C.hts (.fieldLink RX0 22 "ShoreFields$Begin" "wallOf" "[I") (by decide +kernel)
  have f_25 := C.hts (.fieldLink RX0 25 "ShoreFields$Begin" "feedOf" "[I") (by decide +kernel)
  have f_28 := C.hts (.fieldLink RX0 28 "ShoreFields$Begin" "kindAt" "[I") (by decide +kernel)
  have f_31 := C.hts (.fieldLink RX0 31 "ShoreFields$Begin" "sizeAt" "[I") (by decide +kernel)
  have f_34 := C.hts (.fieldLink RX0 34 "ShoreFields$Begin" "leakAt" "[I") (by decide +kernel)
  refine pt_aload_n (pc' := 1) C dX0_copyFrom_0 rfl 0 rfl ?_
  refine pt_aload_n (pc' := 2) C dX0_copyFrom_1 rfl 1 rfl ?_
  refine pt_get (pc' := 5) C in_0 dX0_copyFrom_2 rfl 7 0 rfl rfl (by decide) f_9 rfl ?_
  refine pt_put (pc' := 8) (ty := .int) (ws' := wB cA aB n2 k bs wl fd kd sz lk ++ wB cA aC n2 k2 bs2 wl2 fd2 kd2 sz2 lk2) C in_0 tyX0 tyX0_ok nmX0 dX0_copyFrom_5 rfl 0 0 rfl rfl (by decide) f_9 rfl (by decide +kernel) (rfl) (rfl) (Nat.le_of_ble_eq_true rfl) rfl ?_
  refine pt_aload_n (pc' := 9) C dX0_copyFrom_8 rfl 0 rfl ?_
  refine pt_aload_n (pc' := 10) C dX0_copyFrom_9 rfl 1 rfl ?_
  refine pt_get (pc' := 13) C in_0 dX0_copyFrom_10 rfl 7 1 rfl rfl (by decide) f_15 rfl ?_
  refine pt_put (pc' := 16) (ty := .int) (ws' := wB cA aB n2 k2 bs wl fd kd sz lk ++ wB cA aC n2 k2 bs2 wl2 fd2 kd2 sz2 lk2) C in_0 tyX0 tyX0_ok nmX0 dX0_copyFrom_13 rfl 0 1 rfl rfl (by decide) f_15 rfl (by decide +kernel) (rfl) (rfl) (Nat.le_of_ble_eq_true rfl) rfl ?_
  refine pt_aload_n (pc' := 17) C dX0_copyFrom_16 rfl 1 rfl ?_
  refine pt_get (pc' := 20) C in_0 dX0_copyFrom_17 rfl 7 2 rfl rfl (by decide) f_18 rfl ?_
  refine pt_iconst (pc' := 21) C dX0_copyFrom_20 rfl (v := 0) (by decide) ?_
  refine pt_aload_n (pc' := 22) C dX0_copyFrom_21 rfl 0 rfl ?_
  refine pt_get (pc' := 25) C in_0 dX0_copyFrom_22 rfl 0 2 rfl rfl (by decide) f_18 rfl ?_
  refine pt_iconst (pc' := 26) C dX0_copyFrom_25 rfl (v := 0) (by decide) ?_
  refine pt_bipush (pc' := 28) C dX0_copyFrom_26 rfl (v := 12) (by decide) ?_
  refine pt_copyA (pc' := 31) (ws' := wB cA aB n2 k2 bs2 wl fd kd sz lk ++ wB cA aC n2 k2 bs2 wl2 fd2 kd2 sz2 lk2) C dX0_copyFrom_28 rfl m_51 ac_n ac_s ac_i 8 1 rfl rfl rfl (rfl) (by decide) (by decide) (Nat.le_of_ble_eq_true rfl) (Nat.le_of_ble_eq_true rfl) rfl ?_
  refine pt_aload_n (pc' := 32) C dX0_copyFrom_31 rfl 1 rfl ?_
  refine pt_get (pc' := 35) C in_0 dX0_copyFrom_32 rfl 7 3 rfl rfl (by decide) f_22 rfl ?_
  refine pt_iconst (pc' := 36) C dX0_copyFrom_35 rfl (v := 0) (by decide) ?_
  refine pt_aload_n (pc' := 37) C dX0_copyFrom_36 rfl 0 rfl ?_
  refine pt_get (pc' := 40) C in_0 dX0_copyFrom_37 rfl 0 3 rfl rfl (by decide) f_22 rfl ?_
  refine pt_iconst (pc' := 41) C dX0_copyFrom_40 rfl (v := 0) (by decide) ?_
  refine pt_bipush (pc' := 43) C dX0_copyFrom_41 rfl (v := 12) (by decide) ?_
  refine pt_copyA (pc' := 46) (ws' := wB cA aB n2 k2 bs2 wl2 fd kd sz lk ++ wB cA aC n2 k2 bs2 wl2 fd2 kd2 sz2 lk2) C dX0_copyFrom_43 rfl m_51 ac_n ac_s ac_i 9 2 rfl rfl rfl (rfl) (by decide) (by decide) (Nat.le_of_ble_eq_true rfl) (Nat.le_of_ble_eq_true rfl) rfl ?_
  refine pt_aload_n (pc' := 47) C dX0_copyFrom_46 rfl 1 rfl ?_
  refine pt_get (pc' := 50) C in_0 dX0_copyFrom_47 rfl 7 4 rfl rfl (by decide) f_25 rfl ?_
  refine pt_iconst (pc' := 51) C dX0_copyFrom_50 rfl (v := 0) (by decide) ?_
  refine pt_aload_n (pc' := 52) C dX0_copyFrom_51 rfl 0 rfl ?_
  refine pt_get (pc' := 55) C in_0 dX0_copyFrom_52 rfl 0 4 rfl rfl (by decide) f_25 rfl ?_
  refine pt_iconst (pc' := 56) C dX0_copyFrom_55 rfl (v := 0) (by decide) ?_
  refine pt_iconst (pc' := 57) C dX0_copyFrom_56 rfl (v := 2) (by decide) ?_
  refine pt_copyA (pc' := 60) (ws' := wB cA aB n2 k2 bs2 wl2 fd2 kd sz lk ++ wB cA aC n2 k2 bs2 wl2 fd2 kd2 sz2 lk2) C dX0_copyFrom_57 rfl m_51 ac_n ac_s ac_i 10 3 rfl rfl rfl (rfl) (by decide) (by decide) (Nat.le_of_ble_eq_true rfl) (Nat.le_of_ble_eq_true rfl) rfl ?_
  refine pt_aload_n (pc' := 61) C dX0_copyFrom_60 rfl 1 rfl ?_
  refine pt_get (pc' := 64) C in_0 dX0_copyFrom_61 rfl 7 5 rfl rfl (by decide) f_28 rfl ?_
  refine pt_iconst (pc' := 65) C dX0_copyFrom_64 rfl (v := 0) (by decide) ?_
  refine pt_aload_n (pc' := 66) C dX0_copyFrom_65 rfl 0 rfl ?_
  refine pt_get (pc' := 69) C in_0 dX0_copyFrom_66 rfl 0 5 rfl rfl (by decide) f_28 rfl ?_
  refine pt_iconst (pc' := 70) C dX0_copyFrom_69 rfl (v := 0) (by decide) ?_
  refine pt_bipush (pc' := 72) C dX0_copyFrom_70 rfl (v := 13) (by decide) ?_
  refine pt_copyA (pc' := 75) (ws' := wB cA aB n2 k2 bs2 wl2 fd2 kd2 sz lk ++ wB cA aC n2 k2 bs2 wl2 fd2 kd2 sz2 lk2) C dX0_copyFrom_72 rfl m_51 ac_n ac_s ac_i 11 4 rfl rfl rfl (rfl) (by decide) (by decide) (Nat.le_of_ble_eq_true rfl) (Nat.le_of_ble_eq_true rfl) rfl ?_
  refine pt_aload_n (pc' := 76) C dX0_copyFrom_75 rfl 1 rfl ?_
  refine pt_get (pc' := 79) C in_0 dX0_copyFrom_76 rfl 7 6 rfl rfl (by decide) f_31 rfl ?_
  refine pt_iconst (pc' := 80) C dX0_copyFrom_79 rfl (v := 0) (by decide) ?_
  refine pt_aload_n (pc' := 81) C dX0_copyFrom_80 rfl 0 rfl ?_
  refine pt_get (pc' := 84) C in_0 dX0_copyFrom_81 rfl 0 6 rfl rfl (by decide) f_31 rfl ?_
  refine pt_iconst (pc' := 85) C dX0_copyFrom_84 rfl (v := 0) (by decide) ?_
  refine pt_bipush (pc' := 87) C dX0_copyFrom_85 rfl (v := 13) (by decide) ?_
  refine pt_copyA (pc' := 90) (ws' := wB cA aB n2 k2 bs2 wl2 fd2 kd2 sz2 lk ++ wB cA aC n2 k2 bs2 wl2 fd2 kd2 sz2 lk2) C dX0_copyFrom_87 rfl m_51 ac_n ac_s ac_i 12 5 rfl rfl rfl (rfl) (by decide) (by decide) (Nat.le_of_ble_eq_true rfl) (Nat.le_of_ble_eq_true rfl) rfl ?_
  refine pt_aload_n (pc' := 91) C dX0_copyFrom_90 rfl 1 rfl ?_
  refine pt_get (pc' := 94) C in_0 dX0_copyFrom_91 rfl 7 7 rfl rfl (by decide) f_34 rfl ?_
  refine pt_iconst (pc' := 95) C dX0_copyFrom_94 rfl (v := 0) (by decide) ?_
  refine pt_aload_n (pc' := 96) C dX0_copyFrom_95 rfl 0 rfl ?_
  refine pt_get (pc' := 99) C in_0 dX0_copyFrom_96 rfl 0 7 rfl rfl (by decide) f_34 rfl ?_
  refine pt_iconst (pc' := 100) C dX0_copyFrom_99 rfl (v := 0) (by decide) ?_
  refine pt_bipush (pc' := 102) C dX0_copyFrom_100 rfl (v := 13) (by decide) ?_
  refine pt_copyA (pc' := 105) (ws' := wB cA aB n2 k2 bs2 wl2 fd2 kd2 sz2 lk2 ++ wB cA aC n2 k2 bs2 wl2 fd2 kd2 sz2 lk2) C dX0_copyFrom_102 rfl m_51 ac_n ac_s ac_i 13 6 rfl rfl rfl (rfl) (by decide) (by decide) (Nat.le_of_ble_eq_true rfl) (Nat.le_of_ble_eq_true rfl) rfl ?_
  exact pt_vret C hr hk dX0_copyFrom_105 (rfl)
end
