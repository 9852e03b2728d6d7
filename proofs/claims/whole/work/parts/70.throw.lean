/-! throws, and the law's own two methods that catch them -/
/-- a throw that the one row of a table of handlers catches: the library's own row says it; it stands behind all else (the last part) -/
def CatchRow : Prop := ∀ (p : Program) (l : Launch) (e : Env) (R : Room) (s : State) (m : MethodId) (args : Array Value) (below : List Frame) (meth : Method) (c : Code) (H : Heap) (locs : List Loc) (cells slots : Nat) (Q : State → Prop) (pc : Nat) (ls : Array Slot) (rest : List Value) (own E : String) (ce : Cell) (q : Addr) (x : ExceptionTableEntry),
  s.vm.findClass own = some m.cls → c.exceptionTable.toList = [x] → covers x pc = true → x.catchType ≠ 0 → (Cond.classLink own x.catchType E).before args s = true → (Cond.castable E E).before args s = true → H[q]? = some ce → ce.vm = .none → s.vm.findClass E = some ce.cls →
  W p l e R s m args below meth c H locs cells slots Q (F0 m x.handlerPc ls [.ref q]) → vx_W p l e R s m args below meth c H locs cells slots Q (F0 m pc ls rest) q
set_option maxRecDepth 100000 in
theorem thL_ot : ∀ w ∈ Cond.classLink RX6 135 NSE :: Cond.initialized NSE :: thL, vx_ot w = true := by decide +kernel
set_option maxRecDepth 100000 in
theorem thL_f : ∀ w ∈ thL.filter (fun w => !goodWord w), w.onTables = true ∧ w.faceAtom = true := by decide +kernel
def thS (A : Nat → Prop) (U : State) : Prop := vx_Zq Bundle.tN "UNASSIGNED_STACK" Bundle.steD A U U.heap ∧ vx_Zq Bundle.tN "SUPPRESSED_SENTINEL" Bundle.listD A U U.heap
def thW (U : State) : Prop := (∃ a, vk_R RX6 137 "no such field" a U) ∧ (∃ a, vk_R RX6 184 "no such field or set of groynes" a U) ∧ (∃ a, vk_R RX6 186 "the groyne is not of the set" a U) ∧ ∀ w ∈ thL.filter (fun w => !goodWord w), va_Nw w U
theorem thW_ok : nx_ok thW := by
  refine ⟨fun u U h q => ?_, fun s U hW q => ?_⟩
  · obtain ⟨⟨a, h1⟩, ⟨b, h2⟩, ⟨c, h3⟩, h4⟩ := q
    exact ⟨⟨a, vk_R.same h.symm h1⟩, ⟨b, vk_R.same h.symm h2⟩, ⟨c, vk_R.same h.symm h3⟩, fun w hw => va_Nw.same (thL_f w hw).1 h (h4 w hw)⟩
  · obtain ⟨⟨a, h1⟩, ⟨b, h2⟩, ⟨c, h3⟩, h4⟩ := q
    exact ⟨⟨a, vk_R.warm hW h1⟩, ⟨b, vk_R.warm hW h2⟩, ⟨c, vk_R.warm hW h3⟩, fun w hw => va_tabs (thL_f w hw).1 (rfl : (s.setVm U.vm).vm = U.vm) (Cond.faceAtom_setVm (args := #[]) hW.alike w (thL_f w hw).2 (h4 w hw))⟩
theorem thS.call {A A1 : Nat → Prop} {s : State} {H : Heap} {locs : List Loc} (h : thS A s) (hS : va_S A s.heap H locs) (hfr : ∀ q, A1 q → A q) : ∀ U : State, U.heap = H → s.WarmedH U.vm → thS A1 U := by
  intro U hU hW
  refine ⟨?_, ?_⟩
  · rw [hU]; exact ((h.1.kept hS.2.1).moved hW.alike).narrow hfr
  · rw [hU]; exact ((h.2.kept hS.2.1).moved hW.alike).narrow hfr
theorem thS.same {A : Nat → Prop} {u U : State} (hv : u.vm.Alike U.vm) (hh : U.heap = u.heap) (h : thS A u) : thS A U := ⟨by rw [hh]; exact h.1.moved hv, by rw [hh]; exact h.2.moved hv⟩
section THC
variable {p : Program} {l : Launch} {e : Env} {R : Room} {s : State} {m₀ : MethodId} {args : Array Value} {below : List Frame} {meth : Method} {c : Code} {W : State} {locs : List Loc} {cells slots : Nat}
set_option maxHeartbeats 1000000 in
/-- the exception's constructor, then athrow: what the library's row says of a chain by entry 7, for this class -/
theorem th_ctor (X : Stand p l e R s m₀ args below meth c W [] cells slots) (hexec : p.tables.exec = Jvm.exec) (htr : e.platform.stackTraces = false)
    (hown : s.vm.findClass RX6 = some m₀.cls) (h : ∀ a ∈ thA, a.before args s = true)
    {a : Addr} {cX : ClassId} {kX : Class} (hfoundX : s.vm.findClass NSE = some cX) (hkX : s.vm.classes[cX]? = some kX) (hcell : W.heap[a]? = some (freshCell cX kX)) (hnew : s.heap.size ≤ a)
    {msg : Value} (hmsg : msg.isRef = true)
    {g : JFrame} (hg : g.method = m₀) (hsize : g.locals.size = c.maxLocals) (hlocked : g.locked = none) (hentered : g.entered = []) {rest : List Value} (hstack : g.stack = msg :: .ref a :: .ref a :: rest)
    (hd6 : decode c.code g.pc = .ok (.invokespecial 139, 3)) (hd9 : decode c.code (g.pc + 3) = .ok (.athrow, 1)) (hout : ∀ x ∈ c.exceptionTable.toList, covers x (g.pc + 3) = false)
    (hRframes : 5 < R.frames) (hRlocals : 2 * g.monitorRoom + ((Value.ref a :: rest).map fun v => v.category).sum + 81 ≤ R.locals) (hlocks : meth.locks = false) :
    ∃ U : State, Steps p.tables e below (W.setTop g) U ∧ U.status = .running ∧ Ended U below (.threw a) ∧ s.WarmedH U.vm ∧ s.sameButNew ({ U with vm := s.vm } : State) [] cells slots ∧
      ∃ ce, U.heap[a]? = some ce ∧ ce.vm = .none ∧ s.vm.findClass NSE = some ce.cls := by
  have howns : e.platform.frameOwnsMonitors = true := by rw [X.admits.platform]
  have hfin : e.platform.finalization = false := by rw [X.admits.platform]
  have hpl : e.platform.magicAccessors = ({} : Platform).magicAccessors := by rw [X.admits.platform]
  have a' : ∀ x, x ∈ thA → x.holds args s none s [] = true := fun x hx => h x hx
  have k1 : ∀ x ∈ Bundle.throwableAtoms, x ∈ thA := fun x hx => List.mem_append_left _ hx
  have k2 : ∀ x ∈ Bundle.throwableSAtoms, x ∈ thA := fun x hx => List.mem_append_right _ (List.mem_append_left _ hx)
  have k3 : ∀ x ∈ Bundle.passSAtoms NSE RTE 13 s13, x ∈ thA := fun x hx => List.mem_append_right _ (List.mem_append_right _ (List.mem_append_left _ hx))
  have k4 : ∀ x ∈ Bundle.chainSAtoms RTE ["java/lang/Exception"], x ∈ thA := fun x hx => List.mem_append_right _ (List.mem_append_right _ (List.mem_append_right _ (List.mem_append_left _ hx)))
  have k5 : ∀ x ∈ thT, x ∈ thA := fun x hx => List.mem_append_right _ (List.mem_append_right _ (List.mem_append_right _ (List.mem_append_right _ hx)))
  have t' : ∀ x, x ∈ thT → x.holds args s none s [] = true := fun x hx => a' x (k5 x hx)
  obtain ⟨T, Z0, L, -, Y⟩ := ThrowableC.of_atoms (args := args) howns hfin hpl (fun x hx => h x (k1 x hx))
  obtain ⟨Z, M, LZ, LM, hnZ⟩ := Init0T.ofS_atoms (args := args) hpl L Y (fun x hx => h x (k2 x hx))
  obtain ⟨P1, L1, hP1m, hP1s⟩ := PassC.ofS_atoms (args := args) (s := s) hpl (X := NSE) (Y := RTE) (by decide) ⟨by decide, by decide⟩ s13_0 s13_1 s13_2 s13_5 (fun x hx => h x (k3 x hx))
  obtain ⟨P2, Ps, hlen, L2, hL, hP2m, hlink2, hlink⟩ := Bundle.chainS (args := args) hpl hnZ ["java/lang/Exception"] RTE (by decide) (by decide) (fun x hx => h x (k4 x hx))
  have hlink1 : P1.sup = P2.m := Option.some.inj (hP1s.symm.trans hP2m)
  have hfound : s.vm.findClass NSE = some P1.m.cls := findClass_of_methodNamed hP1m
  cases Option.some.inj (hfoundX.symm.trans hfound)
  obtain ⟨c1, kX', hc1, hk, hord, -, -, hn6⟩ := Cond.instantiable_spec (t' (.instantiable NSE 6) (by simp [thT]))
  cases Option.some.inj (hc1.symm.trans hfound)
  cases Option.some.inj (hkX.symm.trans hk)
  have hsel0 : selectMethod e.platform s.vm P1.m.cls T.fill0 = .method T.fill0 := by
    obtain ⟨c2, r2, m2, q1, q2, q3, q4, -⟩ := Cond.selects_spec (t' (.selects NSE Bundle.tFill0 Bundle.tFill0) (by simp [thT]))
    cases Option.some.inj (q1.symm.trans hfound)
    cases Option.some.inj (q2.symm.trans (State.methodFound?_of_named Y.fill0 (by decide)))
    cases Option.some.inj (q3.symm.trans Y.fill0)
    rw [Launch.admits_selectMethod X.admits]; exact q4
  have hselF : selectMethod e.platform s.vm P1.m.cls T.fill = .method T.fill := by
    obtain ⟨c2, r2, m2, q1, q2, q3, q4, -⟩ := Cond.selects_spec (t' (.selects NSE Bundle.tFill Bundle.tFill) (by simp [thT]))
    cases Option.some.inj (q1.symm.trans hfound)
    cases Option.some.inj (q2.symm.trans (State.methodFound?_of_named Y.fill (by decide)))
    cases Option.some.inj (q3.symm.trans Y.fill)
    rw [Launch.admits_selectMethod X.admits]; exact q4
  obtain ⟨cellS0, hcS0, hiss⟩ := Y.statics
  obtain ⟨u0, hu0⟩ := Cond.staticRefV Y.unassigned L.unassignedStatic L.statics hcS0 hiss (t' (.isRef (.static Bundle.tN "UNASSIGNED_STACK" Bundle.steD)) (by simp [thT]))
  obtain ⟨sen, hsen⟩ := Cond.staticRefV Y.sentinel L.sentinelStatic L.statics hcS0 hiss (t' (.isRef (.static Bundle.tN "SUPPRESSED_SENTINEL" Bundle.listD)) (by simp [thT]))
  obtain ⟨ci198, i198, fB, hk198, hg198, ha198, hsB, -, hnB, htB, hffB⟩ := Cond.ownField (t := .object "java/lang/Object") Y.found L.cls (by decide +kernel) (t' (.fieldLink Bundle.tN 198 Bundle.tN "backtrace" "Ljava/lang/Object;") (by simp [thT])) (t' (.lays Bundle.tN Bundle.tN "backtrace" "Ljava/lang/Object;") (by simp [thT])) e.platform hpl
  obtain ⟨cellS, hcS', heS, -, hkeep⟩ := X.same.2.2.2.2.2 T.aS cellS0 hcS0
  have hcellS : W.heap[T.aS]? = some cellS := hcS'
  have hout' : ∀ i, (⟨T.aS, i⟩ : Loc) ∉ ([] : List Loc) := fun i => List.not_mem_nil
  have hknownS : cellS.vm ≠ .unknown := by
    rw [heS]; intro hu
    rw [show cellS0.vm = .unknown from hu] at hiss
    cases hiss
  have hneS : T.aS ≠ a := Nat.ne_of_lt (Nat.lt_of_lt_of_le (Array.getElem?_eq_some_iff.mp hcS0).1 hnew)
  obtain ⟨iM, hffM⟩ := Y.msg
  obtain ⟨tyC, dC, hdC, hdnC⟩ := Cond.laysAt hfound hk Y.cause (t' (.lays NSE Bundle.tN "cause" "Ljava/lang/Throwable;") (by simp [thT]))
  obtain ⟨tyS, dS, hdS, hdnS⟩ := Cond.laysAt hfound hk Y.stack (t' (.lays NSE Bundle.tN "stackTrace" Bundle.steD) (by simp [thT]))
  obtain ⟨tyP, dP, hdP, hdnP⟩ := Cond.laysAt hfound hk Y.supp (t' (.lays NSE Bundle.tN "suppressedExceptions" Bundle.listD) (by simp [thT]))
  obtain ⟨tyM, dM, hdM, hdnM⟩ := Cond.laysAt hfound hk hffM (t' (.lays NSE Bundle.tN "detailMessage" "Ljava/lang/String;") (by simp [thT]))
  obtain ⟨tyB, dB, hdB, hdnB⟩ := Cond.laysAt hfound hk hffB (t' (.lays NSE Bundle.tN "backtrace" "Ljava/lang/Object;") (by simp [thT]))
  have bC := Cond.laysApart hdB hdC hdnB hdnC (by rw [hnB, Y.causeName]; decide)
  have bS := Cond.laysApart hdB hdS hdnB hdnS (by rw [hnB, Y.stackName]; decide)
  have bP := Cond.laysApart hdB hdP hdnB hdnP (by rw [hnB, Y.suppName]; decide)
  have hskip : SkipFacts T e.platform s (fun u => u) u0 ((preparedCellV T.toThrowableT (freshCell P1.m.cls kX) a u0 sen).withEntry W.cur) :=
    ⟨{ ci198 := ci198, i198 := i198, fBack := fB }, ⟨hk198, hg198, ha198, hsB⟩, by
      have := fresh_default (c := P1.m.cls) tyB
      rw [htB] at this
      simpa [preparedCellV, Cell.setSlot, Cell.withEntry, Array.getElem?_setIfInBounds, bC, bS, bP, bC.symm, bS.symm, bP.symm, defaultValue] using this, fun _ _ => rfl⟩
  obtain ⟨tm, methC, cdC, kC, vm₁, hnC, -, -, -, -, -, -, -, hW₁, st1⟩ := Steps.initColdS (tb := p.tables) (e := e) (below := below) (s := s) (U := W) X.here hexec X.warmed hpl hown (t := Bundle.initS NSE) rfl rfl ⟨by decide, by decide⟩
    (t' (.methodLink RX6 139 (Bundle.initS NSE)) (by simp [thT])) (h (.instanceMethod (Bundle.initS NSE)) (k3 _ (by simp [Bundle.passSAtoms]))) (bytes := s13) (maxL := 2) (h (.code (Bundle.initS NSE) s13 2 none) (k3 _ (by simp [Bundle.passSAtoms])))
    (f := g) hg (a := a) (msg := msg) (rest := .ref a :: rest) hstack hd6
  cases Option.some.inj (hnC.symm.trans hP1m)
  have X₁ := X.noted hW₁
  have hlen2 : Ps.length = 1 := hlen
  obtain ⟨vm₂, X₂, st2⟩ := X₁.ctorMessageOffV hexec (g := { g with stack := .ref a :: rest }) hg hsize T L Z LZ M LM (P1 :: P2 :: Ps)
    (fun P hP => by rcases List.mem_cons.mp hP with rfl | hP; exact L1; rcases List.mem_cons.mp hP with rfl | hP; exact L2; exact hL P hP) ⟨hlink1, hlink2, hlink⟩ (u0 := u0) (sen := sen) (self := a) hmsg (cell := freshCell P1.m.cls kX) (cellS := cellS)
    hcell (fun _ => by simp) (by simp) rfl rfl hsel0 hselF hcellS hneS hknownS (by rw [hkeep _ (hout' _)]; exact hu0) (by rw [hkeep _ (hout' _)]; exact hsen)
    (Takes.of_laid hk hord tyC (by rw [Y.causeType]; rfl)) (Takes.of_laid hk hord tyS (by rw [Y.stackType]; exact fits_refV_array _ u0)) (Takes.of_laid hk hord tyP (by rw [Y.suppType]; exact fits_refV_object _ sen))
    (Takes.of_laid hk hord tyM (by rw [Y.msgType]; exact fits_refV_object _ ⟨msg, hmsg⟩)) Y.objLocals hskip htr [] hd6
    (by simp only [List.length_cons, hlen2]; omega) (by simp only [List.length_cons, hlen2]; exact hRlocals)
  obtain ⟨hwalk, hrun, hended, hWU, hsame⟩ := X₂.athrowLeaves hexec (g := { g with stack := .ref a :: rest, pc := g.pc + 3 }) hg hlocked hentered hout (a := a) (rest := rest) rfl hd9
  have hlt : a < ((W.setVm vm₁).setVm vm₂).heap.size := (Array.getElem?_eq_some_iff.mp hcell).1
  have hU := heapAt_setCell_self (s := (W.setVm vm₁).setVm vm₂) (plainBareV T.toThrowableT (freshCell P1.m.cls kX) a u0 sen msg) hlt
  refine ⟨_, st1 _ (fun acts => ?_), hrun, hended, hWU, hsame.weaken (fun y hy hlt' => ?_) (Nat.le_refl _) (Nat.le_refl _), _, hU, rfl, hfound⟩
  · rw [doInvoke_state]
    exact st2 _ hwalk
  · exfalso
    have hb : y.base = a := by
      simp only [List.nil_append, List.mem_cons, List.not_mem_nil, or_false] at hy
      rcases hy with rfl | rfl | rfl | rfl | rfl <;> rfl
    rw [hb] at hlt'
    exact Nat.not_lt.mpr hnew hlt'
end THC
section THT
variable {p : Program} {l : Launch} {e : Env} {R : Room} {s : State} {m : MethodId} {args : Array Value} {below : List Frame} {meth : Method} {c : Code} {H : Heap} {locs : List Loc} {cells slots : Nat}
variable {free : Addr → Prop} {ls : Array Slot} {rest : List Value} {Qc : Array Value → State → Outcome → State → Prop} {XC : String → State → State → Prop}
theorem th_throw {cc : ByteArray} {pc : Nat} (hexec : p.tables.exec = Jvm.exec) (hb : c.code = cc) (hl : l.stackTraces = false) {text : String} {is mc ms sa : Nat} {A : Nat → Prop}
    (hown : s.vm.findClass RX6 = some m.cls)
    (hk : (Cond.classLink RX6 135 NSE).before args s = true) (hini : (Cond.initialized NSE).before args s = true) (hstr : vk_R RX6 is text sa s) (hat : ∀ w ∈ thL, w.before args s = true)
    (hgood : ∀ w ∈ Cond.classLink RX6 135 NSE :: Cond.initialized NSE :: thL, vx_ot w = true)
    (hU : vx_Zq Bundle.tN "UNASSIGNED_STACK" Bundle.steD A s s.heap) (hN : vx_Zq Bundle.tN "SUPPRESSED_SENTINEL" Bundle.listD A s s.heap) (hS : va_S A s.heap H locs) (hsize : ls.size = c.maxLocals)
    (d0 : decode cc pc = .ok (.new 135, 3)) (d3 : decode cc (pc + 3) = .ok (.dup, 1)) (d4 : decode cc (pc + 4) = .ok (.ldc is, 2)) (d6 : decode cc (pc + 6) = .ok (.invokespecial 139, 3)) (d9 : decode cc (pc + 9) = .ok (.athrow, 1))
    (hout : ∀ x ∈ c.exceptionTable.toList, covers x (pc + 9) = false)
    (hRframes : 5 < R.frames) (hRlocals : (rest.map fun v => v.category).sum + 82 ≤ R.locals) (hRcells : cells + 1 ≤ R.cells) (hRslots : slots + 6 ≤ R.slots) (hlocks : meth.locks = false)
    (hx : ∀ t : State, s.vm.Alike t.vm → H.size ≤ t.heap.size → (∀ q : Nat, q < H.size → t.heap[q]? = H[q]?) → XC NSE s t)
    (hf : ∀ z ∈ locs, free z.base) (hc : cells + 1 ≤ mc) (hs : slots + 6 ≤ ms) :
    W p l e R s m args below meth c H locs cells slots (vx_MQ below Qc XC args s mc ms free) (F0 m pc ls rest) := by
  intro T hT X
  have htr : e.platform.stackTraces = false := (show e.platform.stackTraces = l.stackTraces by rw [X.admits.platform]).trans hl
  have Y := vx_rebase X (R' := { frames := R.frames, locals := R.locals, cells := 1, slots := 6 }) (Nat.le_refl _) (Nat.le_refl _) hRcells hRslots
  obtain ⟨s', hA⟩ : ∃ z, z = (T.setVm s.vm).setFrames (.invoking m args :: below) := ⟨_, rfl⟩
  rw [← hA] at Y
  have hvm : s'.vm = s.vm := by rw [hA]; rfl
  have hhp : s'.heap = H := by rw [hA]; exact hT
  have hW0 : s.WarmedH s'.vm := by rw [hvm]; exact State.WarmedH.refl s
  have hat' : ∀ w ∈ thL, w.before args s' = true := fun w hw => vx_ot_at hW0 hvm.symm (hgood w (List.mem_cons_of_mem _ (List.mem_cons_of_mem _ hw))) (hat w hw)
  have hk' : (Cond.classLink RX6 135 NSE).before args s' = true := vx_ot_at hW0 hvm.symm (hgood _ List.mem_cons_self) hk
  have hini' : (Cond.initialized NSE).before args s' = true := vx_ot_at hW0 hvm.symm (hgood _ (List.mem_cons_of_mem _ List.mem_cons_self)) hini
  have hU' : vx_Zq Bundle.tN "UNASSIGNED_STACK" Bundle.steD A s' s'.heap := by rw [hhp]; exact vx_Zq.moved hW0.alike (hU.kept hS.2.1)
  have hN' : vx_Zq Bundle.tN "SUPPRESSED_SENTINEL" Bundle.listD A s' s'.heap := by rw [hhp]; exact vx_Zq.moved hW0.alike (hN.kept hS.2.1)
  have h : ∀ w ∈ thA, w.before args s' = true := vx_own hat' (vx_isRefq hU'.1) (vx_isRefq hN'.1) hU'.2.word hN'.2.word
  have hown' : s'.vm.findClass RX6 = some m.cls := by rw [hvm]; exact hown
  have hins : (Cond.instantiable NSE 6).before args s' = true := h _ (List.mem_append_right _ (List.mem_append_right _ (List.mem_append_right _ (List.mem_append_right _ (by simp [thT])))))
  obtain ⟨vm₁, cX, kX, hfX, hkX, -, -, X₁, st1⟩ := Y.newCold hexec (own := RX6) (C := NSE) (index := 135) (n := 6) hown' hk' hins hini'
    (g := F0 m pc ls rest) rfl (by rw [hb]; exact d0) (Nat.le_refl _) (Nat.le_refl _)
  generalize hT1 : (T.setVm vm₁).pushCell { cls := cX, slots := kX.instanceTypes.map defaultValue, vm := .none } = T1 at X₁ st1
  have hcat : (Value.ref T.heap.size).category = 1 := rfl
  have hcellA : T1.heap[T.heap.size]? = some (freshCell cX kX) := by rw [← hT1]; exact State.heap_pushCell_size _ _
  have d3' : decode c.code (pc + 3) = .ok (.dup, 1) := by rw [hb]; exact d3
  have d4' : decode c.code (pc + 4) = .ok (.ldc is, 2) := by rw [hb]; exact d4
  have hstr' : vk_R RX6 is text sa s' := vk_R.warm hW0 hstr
  obtain ⟨U, hsteps, hrun, hend, hW, hsame, ce, hce, hv, hcl⟩ := th_ctor X₁ hexec htr hown' h hfX hkX hcellA (by rw [hhp, hT]; exact Nat.le_refl _) (msg := .ref sa) rfl
    (g := { method := m, pc := pc + 6, locals := ls, stack := .ref sa :: .ref T.heap.size :: .ref T.heap.size :: rest, locked := none }) rfl hsize rfl rfl (rest := rest) rfl
    (by rw [hb]; exact d6) (by rw [hb]; exact d9) hout hRframes (by simp only [List.map_cons, List.sum_cons, hcat]; show 2 * 0 + (1 + _) + 81 ≤ _; show _ ≤ R.locals; omega) hlocks
  obtain ⟨f1, f2⟩ := vx_frame hsame
  rw [hhp] at f1 f2
  have hWs : s.WarmedH U.vm := State.WarmedH.trans hW0 hW
  rw [hvm] at hcl
  have hall : s.sameButNew ({ U with vm := s.vm } : State) locs mc ms := by
    subst hA
    obtain ⟨e1, e2⟩ := hsame
    rw [State.setFrames_setFrames] at e1
    have h2 : (T.setVm s.vm).sameButNew ({ U with vm := s.vm } : State) [] (0 + 1) (0 + 6) := ⟨e1, e2⟩
    have h3 := X.same.trans h2
    rw [List.append_nil] at h3
    exact h3.mono hc hs
  refine ⟨U, ?_, .threw T.heap.size, hrun, hend, Or.inr ⟨T.heap.size, rfl, NSE, ce, locs, hx U hWs.alike f1 (fun q hq => f2 q hq (fun z hz => nomatch hz)), hce, hv, hcl, hWs, hall, hf⟩⟩
  refine st1 _ ?_
  show Steps p.tables e below (T1.setTop { method := m, pc := pc + 3, locals := ls, stack := .ref T.heap.size :: rest, locked := none }) _
  jvm_step X₁.here [X₁.here.top, hexec, d3', Value.category]
  exact X₁.ldcString hexec (own := RX6) (text := text) (index := is) (a := sa) hown' hstr'.1 hstr'.2
    (g := { method := m, pc := pc + 4, locals := ls, stack := .ref T.heap.size :: .ref T.heap.size :: rest, locked := none }) rfl d4' _ hsteps
end THT
section PT
variable {p : Program} {l : Launch} {e : Env} {R : Room} {s : State} {m : MethodId} {args : Array Value} {below : List Frame} {meth : Method} {c : Code} {Q : State → Prop}
variable {cc : ByteArray} {nL cells slots pc pc' : Nat} {Ts : List Cond} {own : String} {D : va_G} {cA cL : ClassId} {A : Nat → Prop} {ws ws' : va_W} {lv lv' : List (Nat × Value)} {st st' rest : List Value} {tys : List (ClassId × FieldType)}
/-- a method that throws at these cells -/
def mt_T (l : Launch) (y : MethodName) (wy : List Cond) (rm : Room) (D : va_G) (tys : List (ClassId × FieldType)) (av : List Value) (w0 : va_W) : Prop :=
  ∀ sz : Nat, vx_Met l y wy rm (va_Pc av (fun U => mt_Pc D tys sz w0 U ∧ thW U ∧ thS (va_A w0 sz) U)) (va_Qi (fun _ (_ : Unit) => False) (fun _ _ => True) (va_A w0 sz)) (vx_X (fun _ : Unit => True) (fun E _ t => E = NSE ∧ mt_B D tys (va_A w0 sz) w0 t) (va_A w0 sz)) 1 6 (va_A w0 sz)
def pt_QT (below : List Frame) (args : Array Value) (s : State) (D : va_G) (tys : List (ClassId × FieldType)) (A : Nat → Prop) (w0 : va_W) : State → Prop := vx_MQ below (va_Qi (fun _ (_ : Unit) => False) (fun _ _ => True) A) (vx_X (fun _ : Unit => True) (fun E _ t => E = NSE ∧ mt_B D tys A w0 t) A) args s 1 6 A
theorem mt_ofT {y : MethodName} {wy wy' : List Cond} {rm : Room} {av : List Value} {w0 : va_W} {maxL : Nat} {ret : Option FieldType} (hy : plainName y.cls = true) (hw : wy = Cond.code y cc maxL ret :: wy') (hlen : (lg_sl av).length ≤ maxL) (hlv : lv_args 0 av = lv)
    (body : ∀ (p : Program) (e : Env) (s : State) (m : MethodId) (args : Array Value) (below : List Frame) (meth : Method) (c : Code) (A : Nat → Prop), pt_C p s m args c cc maxL wy y.cls D tys A → meth.locks = false → (∀ x ∈ c.exceptionTable.toList, False) → thW s → thS A s → pt_P p l e rm s m args below meth c D A maxL (pt_QT below args s D tys A w0) 0 0 0 w0 lv []) : mt_T l y wy rm D tys av w0 := by
  intro sz
  refine vx_ofW (cc := cc) (maxL := maxL) (ret := ret) hy hw ?_
  intro p e s m args below meth c s₁ B hml hex hv
  obtain ⟨rfl, ⟨hsz, hP, hK, hD0⟩, hT, hZ⟩ := hv
  have hts := atoms_spec (ws := wy) B.pre
  subst hsz
  have hA : ∀ q : Nat, s.heap.size ≤ q → va_A w0 s.heap.size q := fun q h => Or.inr h
  have hl := lv_entry av (n := maxL) hlen
  rw [lg_entry_eq]
  rw [hlv] at hl
  exact body p e s m _ below meth c _ ⟨B.exec, B.bytes, hml, findClass_of_methodNamed B.named, hts, hK, hA⟩ B.notSynchronized hex hT hZ s.heap [] _ hP (hD0.self) va_S.rf hl
theorem pt_thr (C : pt_C p s m args c cc nL Ts RX6 D tys A) (hl : l.stackTraces = false) (hex : ∀ x ∈ c.exceptionTable.toList, False) (hlocks : meth.locks = false) {is sa : Nat} {text : String} (hstr : vk_R RX6 is text sa s) (hb : ∀ w ∈ thL.filter (fun w => !goodWord w), va_Nw w s) (hin : ∀ w ∈ thL.filter goodWord, w ∈ Ts) (hk : (Cond.classLink RX6 135 NSE).before args s = true) (hini : (Cond.initialized NSE).before args s = true) (hz : thS A s)
    (d0 : decode cc pc = .ok (.new 135, 3)) (d3 : decode cc (pc + 3) = .ok (.dup, 1)) (d4 : decode cc (pc + 4) = .ok (.ldc is, 2)) (d6 : decode cc (pc + 6) = .ok (.invokespecial 139, 3)) (d9 : decode cc (pc + 9) = .ok (.athrow, 1)) (hf : 6 ≤ R.frames) (hlo : 82 ≤ R.locals) (hc : 1 ≤ R.cells) (hs : 6 ≤ R.slots) :
    pt_P p l e R s m args below meth c D A nL (pt_QT below args s D tys A ws) 0 0 pc ws lv [] := by
  intro H locs ls hP hD hS h
  have hat : ∀ w ∈ thL, w.before args s = true := vx_hat (fun w hw => C.hts w (hin w hw)) (fun w hw => hw) (fun w hw => va_Nw.use (thL_f w hw).1 (hb w hw))
  refine th_throw (A := A) C.1 C.2.1 hl C.2.2.2.1 hk hini hstr hat thL_ot hz.1 hz.2 hS (h.1.trans C.2.2.1.symm) d0 d3 d4 d6 d9 (fun x hx => (hex x hx).elim) ?_ ?_ ?_ ?_ hlocks ?_ hS.2.2 (Nat.le_refl _) (Nat.le_refl _)
  · omega
  · show 0 + 82 ≤ R.locals
    omega
  · omega
  · omega
  · intro t ha h1 h2
    refine ⟨(), trivial, ⟨rfl, ?_, va_K.moved ha C.2.2.2.2.2.1, hD⟩, Nat.le_trans hS.1 h1, fun q hq hn => (h2 q (Nat.lt_of_lt_of_le hq hS.1)).trans (hS.2.1 q hq hn)⟩
    exact hP.kept (fun k x hx => h2 x.1 ((hP k x hx).lt))
/-- a call that throws, caught here -/
theorem pt_cvT (hCR : CatchRow) {y : MethodName} {wy : List Cond} {rm : Room} {b index maxL n ci hp : Nat} {As : List Value} {Cn : String} {bytes : ByteArray} {ret : Option FieldType} {fs : List Value} {qc : vw_C} {k9 n9 : Nat} (C : pt_C p s m args c cc nL Ts own D tys A) (hM : mt_T l y wy rm D tys (.ref b :: As) ws) (cw : CallW R s args own Cn index y bytes maxL ret wy rm 1 6 n) (hd : decode cc pc = .ok (.invokevirtual index, 3)) (qb : Nat) (he : ws[qb]? = some (b, .inr (ci, fs))) (hc : vwCl[ci]? = some qc) (hq : qc.1 = Cn) (hn : As.length = n) (hst : st = As.reverse ++ .ref b :: rest) (hW : (rest.map fun v => v.category).sum ≤ 8) (hcs : cells + 1 ≤ R.cells ∧ slots + 6 ≤ R.slots) (h9 : cells + 1 = k9 ∧ slots + 6 = n9)
    (hT : thW s) (hZ : thS A s) (x : ExceptionTableEntry) (hx : c.exceptionTable.toList = [x]) (hcov : covers x pc = true) (h0 : x.catchType ≠ 0) (hlink : (Cond.classLink own x.catchType NSE).before args s = true) (hcast : (Cond.castable NSE NSE).before args s = true) (hh : x.handlerPc = hp)
    (K : ∀ q : Nat, pt_P p l e R s m args below meth c D A nL Q k9 n9 hp ws lv [.ref q]) : pt_P p l e R s m args below meth c D A nL Q cells slots pc ws lv st := by
  obtain ⟨rfl, rfl⟩ := h9
  subst hst; subst hq; subst hh
  intro H locs ls hP hD hS h
  have hfr := pt_free0 hD hS C.2.2.2.2.2.2
  have hbl : FrameBlind (va_Pc (.ref b :: As) (fun U => mt_Pc D tys H.size ws U ∧ thW U ∧ thS (va_A ws H.size) U)) := fun a U g mk q => ⟨q.1, ⟨q.2.1.1, q.2.1.2.1, va_K.moved (u := U) (U := U.calling g mk a) (Vm.Alike.refl U.vm) q.2.1.2.2.1, q.2.1.2.2.2⟩, thW_ok.1 U _ rfl q.2.2.1, thS.same (u := U) (U := U.calling g mk a) (Vm.Alike.refl U.vm) rfl q.2.2.2⟩
  refine vx_calli (vx_runV (As := As) (rest := rest) (b := b) ⟨C.1, C.2.1, C.2.2.1, C.2.2.2.1, C.hts⟩ (hM H.size) cw ⟨hbl, va_recv C.2.2.2.2.2.1 hP hc he, fun U hU hW2 => ⟨rfl, ⟨by rw [hU], by rw [hU]; exact hP, va_K.moved hW2.alike C.2.2.2.2.2.1, hD.weaken (fun _ _ _ _ => trivial)⟩, thW_ok.2 s U hW2 hT, hZ.call hS hfr U hU hW2⟩⟩ rfl hn h.1 rfl (lv_room hW) hd hcs) hS (fun q _ hq => hfr q hq) hfr (fun q _ hq => hfr q hq) ?_ ?_
  · intro E ce q9 u t H1 locs1 ht hvm _ hB hz hk hS1 hcell hv hcl
    obtain ⟨hE, hP1, -, hD1⟩ := hB
    rw [ht] at hP1
    rw [hE] at hcl
    exact hCR _ _ _ _ _ _ _ _ _ _ _ _ _ _ _ _ _ _ _ _ _ _ x C.2.2.2.1 hx hcov h0 hlink hcast hcell hv hcl (K q9 H1 locs1 ls hP1 (hD1.weaken (fun _ _ _ hz => hfr _ hz)) hS1 h)
  · intro r u t H1 locs1 ht hvm hr
    exact hr.elim
/-- the law's own method that has caught -/
def mt_L (l : Launch) (y : MethodName) (wy : List Cond) (rm : Room) (D : va_G) (tys : List (ClassId × FieldType)) (av : List Value) (w0 : va_W) (r : Int32) : Prop :=
  ∀ sz : Nat, Met l y wy rm (va_Pc av (fun U => mt_Pc D tys sz w0 U ∧ thW U ∧ thS (va_A w0 sz) U)) (va_Qi (fun r' (_ : Unit) => r' = r) (fun _ t => mt_B D tys (va_A w0 sz) w0 t) (va_A w0 sz)) 1 6 (va_A w0 sz)
def pt_QL (below : List Frame) (args : Array Value) (s : State) (D : va_G) (tys : List (ClassId × FieldType)) (A : Nat → Prop) (r : Int32) (w1 : va_W) : State → Prop := MQ below (va_Qi (fun r' (_ : Unit) => r' = r) (fun _ t => mt_B D tys A w1 t) A) args s 1 6 A
theorem mt_ofL {y : MethodName} {wy wy' : List Cond} {rm : Room} {av : List Value} {w0 : va_W} {r : Int32} {maxL : Nat} {ret : Option FieldType} {hh : List (Nat × Nat × Nat × Nat)} (hy : plainName y.cls = true) (hw : wy = Cond.codeWith y cc maxL ret hh :: wy') (hlen : (lg_sl av).length ≤ maxL) (hlv : lv_args 0 av = lv)
    (body : ∀ (p : Program) (e : Env) (s : State) (m : MethodId) (args : Array Value) (below : List Frame) (meth : Method) (c : Code) (A : Nat → Prop), pt_C p s m args c cc maxL wy y.cls D tys A → meth.sig.returnType = ret → meth.locks = false → c.exceptionTable.toList = tableOf hh → thW s → thS A s → pt_P p l e rm s m args below meth c D A maxL (pt_QL below args s D tys A r w0) 0 0 0 w0 lv []) : mt_L l y wy rm D tys av w0 r := by
  intro sz
  refine va_MetW (cc := cc) (maxL := maxL) (ret := ret) (hh := hh) hy hw ?_
  intro p e s m args below meth c s₁ B hml hv
  obtain ⟨rfl, ⟨hsz, hP, hK, hD0⟩, hT, hZ⟩ := hv
  have hts := atoms_spec (ws := wy) B.pre
  have hex := vx_table (x := y) B (hts _ (by rw [hw]; exact List.mem_cons_self))
  subst hsz
  have hA : ∀ q : Nat, s.heap.size ≤ q → va_A w0 s.heap.size q := fun q h => Or.inr h
  have hl := lv_entry av (n := maxL) hlen
  rw [lg_entry_eq]
  rw [hlv] at hl
  exact body p e s m _ below meth c _ ⟨B.exec, B.bytes, hml, findClass_of_methodNamed B.named, hts, hK, hA⟩ B.returns B.notSynchronized hex hT hZ s.heap [] _ hP (hD0.self) va_S.rf hl
theorem pt_iretL {v r : Int32} {w1 : va_W} {ty : FieldType} (C : pt_C p s m args c cc nL Ts own D tys A) (hr : meth.sig.returnType = some ty) (hlocks : meth.locks = false) (hd : decode cc pc = .ok (.ireturn, 1)) (hn : narrow ty (.int v) = .int v) (hv : v = r) (hw : ws = w1) : pt_P p l e R s m args below meth c D A nL (pt_QL below args s D tys A r w1) 1 6 pc ws lv [.int v] := by
  subst hw
  exact fun H locs ls hP hD hS h => W.zret C.1 C.2.1 hr hn (fun t ht hW => ⟨⟨v, (), rfl, hv, by rw [ht]; exact hP, va_K.moved hW.alike C.2.2.2.2.2.1, hD⟩, hS.F ht⟩) hS.2.2 hd hlocks
/-- .. and one that has not: mt_IE over a table of handlers -/
theorem mt_ofIW {S : Type} {y : MethodName} {wy wy' : List Cond} {rm : Room} {av : List Value} {w0 : va_W} {w1 : S → va_W} {r : Int32} {maxL : Nat} {ret : Option FieldType} {hh : List (Nat × Nat × Nat × Nat)} (hy : plainName y.cls = true) (hw : wy = Cond.codeWith y cc maxL ret hh :: wy') (hlen : (lg_sl av).length ≤ maxL) (hlv : lv_args 0 av = lv)
    (body : ∀ (p : Program) (e : Env) (s : State) (m : MethodId) (args : Array Value) (below : List Frame) (meth : Method) (c : Code) (A : Nat → Prop), pt_C p s m args c cc maxL wy y.cls D tys A → meth.sig.returnType = ret → meth.locks = false → pt_P p l e rm s m args below meth c D A maxL (pt_QIE below args s D tys A r w1) 0 0 0 w0 lv []) : mt_IE l y wy rm D tys av w0 r w1 := by
  intro sz
  refine va_MetW (cc := cc) (maxL := maxL) (ret := ret) (hh := hh) hy hw ?_
  intro p e s m args below meth c s₁ B hml hv
  obtain ⟨rfl, hsz, hP, hK, hD0⟩ := hv
  have hts := atoms_spec (ws := wy) B.pre
  subst hsz
  have hA : ∀ q : Nat, s.heap.size ≤ q → va_A w0 s.heap.size q := fun q h => Or.inr h
  have hl := lv_entry av (n := maxL) hlen
  rw [lg_entry_eq]
  rw [hlv] at hl
  exact body p e s m _ below meth c _ ⟨B.exec, B.bytes, hml, findClass_of_methodNamed B.named, hts, hK, hA⟩ B.returns B.notSynchronized s.heap [] _ hP (hD0.self) va_S.rf hl
theorem pt_C.sub0 (C : pt_C p s m args c cc nL Ts own D [(cA, .int), (cL, .long)] A) : pt_C p s m args c cc nL Ts own D [(cA, .int)] A := ⟨C.1, C.2.1, C.2.2.1, C.2.2.2.1, C.2.2.2.2.1, C.2.2.2.2.2.1.sub [0] rfl, C.2.2.2.2.2.2⟩
theorem pt_i2l (C : pt_C p s m args c cc nL Ts own D tys A) {x : Int32} (hd : decode cc pc = .ok (.i2l, 1)) (hpc : pc + 1 = pc') (K : pt_P p l e R s m args below meth c D A nL Q cells slots pc' ws lv (.long x.toInt64 :: rest)) : pt_P p l e R s m args below meth c D A nL Q cells slots pc ws lv (.int x :: rest) := by
  subst hpc; exact fun H locs ls hP hD hS h => lv_i2l C.1 C.2.1 hd rfl (K H locs ls hP hD hS h)
/-- the law's out: one long -/
abbrev arL (cL : ClassId) (a : Nat) (f : Nat → Int64) : Nat × va_E := (a, .inl (cL, 1, .inr (.inl f)))
theorem pt_last (C : pt_C p s m args c cc nL Ts own D [(cA, .int), (cL, .long)] A) {a : Nat} {f : Nat → Int64} {x : Int64} (hd : decode cc pc = .ok (.lastore, 1)) (hpc : pc + 1 = pc') (q0 : Nat) (he : ws[q0]? = some (arL cL a f)) (hw : ws.set q0 (arL cL a (vp_updL f 0 x)) = ws') (K : pt_P p l e R s m args below meth c D A nL Q cells slots pc' ws' lv rest) : pt_P p l e R s m args below meth c D A nL Q cells slots pc ws lv (.long x :: .int 0 :: .ref a :: rest) := by
  subst hpc; subst hw
  exact fun H locs ls hP hD hS h => va_last C.1 C.2.1 C.2.2.2.2.2.1 hP hD hS q0 1 he rfl (pk_in 0 1 (by decide)) hd (fun H1 locs1 hP1 hD1 hS1 => K H1 locs1 ls hP1 hD1 hS1 h)
theorem pt_lald (C : pt_C p s m args c cc nL Ts own D [(cA, .int), (cL, .long)] A) {a : Nat} {f : Nat → Int64} (hd : decode cc pc = .ok (.laload, 1)) (hpc : pc + 1 = pc') (q0 : Nat) (he : ws[q0]? = some (arL cL a f)) (K : pt_P p l e R s m args below meth c D A nL Q cells slots pc' ws lv (.long (f 0) :: rest)) : pt_P p l e R s m args below meth c D A nL Q cells slots pc ws lv (.int 0 :: .ref a :: rest) := by
  subst hpc
  exact fun H locs ls hP hD hS h => va_lald C.1 C.2.1 C.2.2.2.2.2.1 hP q0 1 he rfl (pk_in 0 1 (by decide)) hd (K H locs ls hP hD hS h)
theorem pt_lcmp (C : pt_C p s m args c cc nL Ts own D tys A) {x y : Int64} (hd : decode cc pc = .ok (.lcmp, 1)) (hpc : pc + 1 = pc') (K : pt_P p l e R s m args below meth c D A nL Q cells slots pc' ws lv (.int (lg_cmp x y) :: rest)) : pt_P p l e R s m args below meth c D A nL Q cells slots pc ws lv (.long y :: .long x :: rest) := by
  subst hpc; exact fun H locs ls hP hD hS h => W.lcmp C.1 C.2.1 hd (K H locs ls hP hD hS h)
end PT
section PT2
variable {p : Program} {l : Launch} {e : Env} {R : Room} {s : State} {m : MethodId} {args : Array Value} {below : List Frame} {meth : Method} {c : Code} {Q : State → Prop}
variable {cc : ByteArray} {nL cells slots pc pc' : Nat} {Ts : List Cond} {own : String} {D : va_G} {A : Nat → Prop} {ws : va_W} {lv lv' : List (Nat × Value)} {rest : List Value} {tys : List (ClassId × FieldType)}
theorem pt_astore (C : pt_C p s m args c cc nL Ts own D tys A) {i a : Nat} (hd : decode cc pc = .ok (.astore i, 2)) (hpc : pc + 2 = pc') (hn : i < nL) (hl : (i, Value.ref a) :: lv.filter (fun q => !(q.1 == i) && !(q.1 + 1 == i && q.2.category == 2)) = lv') (K : pt_P p l e R s m args below meth c D A nL Q cells slots pc' ws lv' rest) : pt_P p l e R s m args below meth c D A nL Q cells slots pc ws lv (.ref a :: rest) := by
  subst hpc; exact fun H locs ls hP hD hS h => lv_astore C.1 C.2.1 hd h hn hl (fun ls' h' => K H locs ls' hP hD hS h')
end PT2
/-- line and share of ShoreFields where they throw -/
def okSh (n : Nat) (kd : Nat → Int32) (b q f : Int32) : Bool := inF n f && (hasG n kd q && (decide (bc q ≤ 4) && (inBd n b && !decide (q &&& (1 <<< (b &&& 31)) = 0))))
set_option maxHeartbeats 4000000 in
set_option maxRecDepth 100000 in
theorem mX6_line_no (l : Launch) (hl : l.stackTraces = false) (D : va_G) (cA : ClassId) (aX : Nat → Nat) (aB : Nat → Nat) (aT : Nat → Nat) (aN : Nat → Nat) (aG : Nat → Nat) (aW : Nat → Nat) (aD : Nat → Nat) (aO : Nat → Nat) (aV : Nat → Nat) (g : Nat) (t : Int32) (mk : Nat → Int32) (n : Nat) (k : Int32) (bs : Nat → Int32) (wl : Nat → Int32) (fd : Nat → Int32) (kd : Nat → Int32) (sz : Nat → Int32) (lk : Nat → Int32) (x : Int32) (hok : inF n x = false) : mt_T l yX6_line wtX6_line { frames := 6, cells := 1, slots := 6, locals := 100 } D [(cA, .int)] [.ref (aX 0), .int x] (wX cA aX aB aT aN aG aW aD aO aV g t mk ++ wB cA aB n k bs wl fd kd sz lk) := by
  refine mt_ofT (cc := cX6_line) (maxL := 2) (ret := (some .int)) (lv := [(0, .ref (aX 0)), (1, .int x)]) (by decide) rfl (Nat.le_of_ble_eq_true rfl) rfl ?_
  intro p e s m args below meth c A C hk hex hT hZ
  obtain ⟨⟨s1, t1⟩, ⟨s2, t2⟩, ⟨s3, t3⟩, t4⟩ := hT
  have f_12 := C.hts (.fieldLink RX6 12 "ShoreFields" "begin" "LShoreFields$Begin;") (by decide +kernel)
  have k_135 := C.hts (.classLink RX6 135 NSE) (by decide +kernel)
  have i_n := C.hts (.initialized NSE) (by decide +kernel)
  have in_6 : ∀ w ∈ u_ws RX6 TX6 11, w ∈ wtX6_line := by decide +kernel
  have in_t : ∀ w ∈ thL.filter goodWord, w ∈ wtX6_line := fun w h => List.mem_cons_of_mem _ (List.mem_append_right _ h)
  refine pt_aload_n (pc' := 1) C dX6_line_0 rfl 0 rfl ?_
  refine pt_get (pc' := 4) C in_6 dX6_line_1 rfl 0 0 rfl rfl (by decide) f_12 rfl ?_
  refine pt_iload_n (pc' := 5) C dX6_line_4 rfl 1 rfl ?_
  refine pt_cvI (pc' := 8) (ws' := wX cA aX aB aT aN aG aW aD aO aV g t mk ++ wB cA aB n k bs wl fd kd sz lk) (wr := wX cA aX aB aT aN aG aW aD aO aV g t mk) (As := [.int x]) (rest := []) C (mX0_hasField l D cA aB n k bs wl fd kd sz lk x ) (cwV 1 C.hts hX6_line_X0_hasField rfl rfl rfl (by decide +kernel) ⟨Nat.le_of_ble_eq_true rfl, Nat.le_of_ble_eq_true rfl⟩) dX6_line_5 rfl 2 rfl rfl rfl rfl rfl (Nat.le_of_ble_eq_true rfl) ⟨Nat.le_of_ble_eq_true rfl, Nat.le_of_ble_eq_true rfl⟩ [2, 3, 4, 5, 6, 7, 8] [0, 1] [0, 1, 2, 3, 4, 5, 6, 7, 8] rfl (by decide) rfl (by decide) (by decide) rfl (by decide) ?_
  refine pt_if_ne (pc' := 11) (tgt := 21) C dX6_line_8 (by decide) rfl (fun h_8 => absurd (bI_t h_8) (by rw [hok]; decide)) (fun h_8 => ?_)
  exact pt_thr C hl hex hk t1 t4 in_t k_135 i_n hZ dX6_line_11 dX6_line_14 dX6_line_15 dX6_line_17 dX6_line_20 (Nat.le_of_ble_eq_true rfl) (Nat.le_of_ble_eq_true rfl) (Nat.le_of_ble_eq_true rfl) (Nat.le_of_ble_eq_true rfl)

set_option maxHeartbeats 4000000 in
set_option maxRecDepth 100000 in
theorem mX6_share_no (l : Launch) (hl : l.stackTraces = false) (D : va_G) (cA : ClassId) (aX : Nat → Nat) (aB : Nat → Nat) (aT : Nat → Nat) (aN : Nat → Nat) (aG : Nat → Nat) (aW : Nat → Nat) (aD : Nat → Nat) (aO : Nat → Nat) (aV : Nat → Nat) (g : Nat) (t : Int32) (mk : Nat → Int32) (n : Nat) (k : Int32) (bs : Nat → Int32) (wl : Nat → Int32) (fd : Nat → Int32) (kd : Nat → Int32) (sz : Nat → Int32) (lk : Nat → Int32) (b q f : Int32) (hn : 2 ≤ n) (hm : n ≤ 12) (hok : okSh n kd b q f = false) : mt_T l yX6_share wtX6_share { frames := 6, cells := 1, slots := 6, locals := 100 } D [(cA, .int)] [.ref (aX 0), .int b, .int q, .int f] (wX cA aX aB aT aN aG aW aD aO aV g t mk ++ wB cA aB n k bs wl fd kd sz lk) := by
  refine mt_ofT (cc := cX6_share) (maxL := 11) (ret := (some .int)) (lv := [(0, .ref (aX 0)), (1, .int b), (2, .int q), (3, .int f)]) (by decide) rfl (Nat.le_of_ble_eq_true rfl) rfl ?_
  intro p e s m args below meth c A C hk hex hT hZ
  obtain ⟨⟨s1, t1⟩, ⟨s2, t2⟩, ⟨s3, t3⟩, t4⟩ := hT
  have f_12 := C.hts (.fieldLink RX6 12 "ShoreFields" "begin" "LShoreFields$Begin;") (by decide +kernel)
  have k_135 := C.hts (.classLink RX6 135 NSE) (by decide +kernel)
  have i_n := C.hts (.initialized NSE) (by decide +kernel)
  have in_6 : ∀ w ∈ u_ws RX6 TX6 11, w ∈ wtX6_share := by decide +kernel
  have in_t : ∀ w ∈ thL.filter goodWord, w ∈ wtX6_share := fun w h => List.mem_cons_of_mem _ (List.mem_append_right _ h)
  refine pt_aload_n (pc' := 1) C dX6_share_0 rfl 0 rfl ?_
  refine pt_get (pc' := 4) C in_6 dX6_share_1 rfl 0 0 rfl rfl (by decide) f_12 rfl ?_
  refine pt_iload_n (pc' := 5) C dX6_share_4 rfl 3 rfl ?_
  refine pt_cvI (pc' := 8) (ws' := wX cA aX aB aT aN aG aW aD aO aV g t mk ++ wB cA aB n k bs wl fd kd sz lk) (wr := wX cA aX aB aT aN aG aW aD aO aV g t mk) (As := [.int f]) (rest := []) C (mX0_hasField l D cA aB n k bs wl fd kd sz lk f ) (cwV 1 C.hts hX6_share_X0_hasField rfl rfl rfl (by decide +kernel) ⟨Nat.le_of_ble_eq_true rfl, Nat.le_of_ble_eq_true rfl⟩) dX6_share_5 rfl 2 rfl rfl rfl rfl rfl (Nat.le_of_ble_eq_true rfl) ⟨Nat.le_of_ble_eq_true rfl, Nat.le_of_ble_eq_true rfl⟩ [2, 3, 4, 5, 6, 7, 8] [0, 1] [0, 1, 2, 3, 4, 5, 6, 7, 8] rfl (by decide) rfl (by decide) (by decide) rfl (by decide) ?_
  refine pt_if_eq (pc' := 11) (tgt := 30) C dX6_share_8 (by decide) rfl (fun h_8 => ?_) (fun h_8 => ?_)
  · exact pt_thr C hl hex hk t2 t4 in_t k_135 i_n hZ dX6_share_30 dX6_share_33 dX6_share_34 dX6_share_36 dX6_share_39 (Nat.le_of_ble_eq_true rfl) (Nat.le_of_ble_eq_true rfl) (Nat.le_of_ble_eq_true rfl) (Nat.le_of_ble_eq_true rfl)
  refine pt_aload_n (pc' := 12) C dX6_share_11 rfl 0 rfl ?_
  refine pt_get (pc' := 15) C in_6 dX6_share_12 rfl 0 0 rfl rfl (by decide) f_12 rfl ?_
  refine pt_iload_n (pc' := 16) C dX6_share_15 rfl 2 rfl ?_
  refine pt_cvI (pc' := 19) (ws' := wX cA aX aB aT aN aG aW aD aO aV g t mk ++ wB cA aB n k bs wl fd kd sz lk) (wr := wX cA aX aB aT aN aG aW aD aO aV g t mk) (As := [.int q]) (rest := []) C (mX0_hasGroynes l D cA aB n k bs wl fd kd sz lk q hn hm) (cwV 1 C.hts hX6_share_X0_hasGroynes rfl rfl rfl (by decide +kernel) ⟨Nat.le_of_ble_eq_true rfl, Nat.le_of_ble_eq_true rfl⟩) dX6_share_16 rfl 2 rfl rfl rfl rfl rfl (Nat.le_of_ble_eq_true rfl) ⟨Nat.le_of_ble_eq_true rfl, Nat.le_of_ble_eq_true rfl⟩ [2, 3, 4, 5, 6, 7, 8] [0, 1] [0, 1, 2, 3, 4, 5, 6, 7, 8] rfl (by decide) rfl (by decide) (by decide) rfl (by decide) ?_
  refine pt_if_eq (pc' := 22) (tgt := 30) C dX6_share_19 (by decide) rfl (fun h_19 => ?_) (fun h_19 => ?_)
  · exact pt_thr C hl hex hk t2 t4 in_t k_135 i_n hZ dX6_share_30 dX6_share_33 dX6_share_34 dX6_share_36 dX6_share_39 (Nat.le_of_ble_eq_true rfl) (Nat.le_of_ble_eq_true rfl) (Nat.le_of_ble_eq_true rfl) (Nat.le_of_ble_eq_true rfl)
  refine pt_iload_n (pc' := 23) C dX6_share_22 rfl 2 rfl ?_
  refine pt_csI0 (pc' := 26) (As := [.int q]) (rest := []) C (mJ6_bitCount_0f7a4 l D cA q) (va_cwS 1 C.hts hX6_share_J6_bitCount_0f7a4 rfl rfl rfl (by decide +kernel) ⟨Nat.le_of_ble_eq_true rfl, Nat.le_of_ble_eq_true rfl⟩) dX6_share_23 rfl rfl rfl (Nat.le_of_ble_eq_true rfl) ⟨Nat.le_of_ble_eq_true rfl, Nat.le_of_ble_eq_true rfl⟩ ?_
  refine pt_iconst (pc' := 27) C dX6_share_26 rfl (v := 4) (by decide) ?_
  refine pt_icmp_le (pc' := 30) (tgt := 40) C dX6_share_27 (by decide) rfl (fun h_27 => ?_) (fun h_27 => ?_)
  rotate_left
  · exact pt_thr C hl hex hk t2 t4 in_t k_135 i_n hZ dX6_share_30 dX6_share_33 dX6_share_34 dX6_share_36 dX6_share_39 (Nat.le_of_ble_eq_true rfl) (Nat.le_of_ble_eq_true rfl) (Nat.le_of_ble_eq_true rfl) (Nat.le_of_ble_eq_true rfl)
  refine pt_aload_n (pc' := 41) C dX6_share_40 rfl 0 rfl ?_
  refine pt_get (pc' := 44) C in_6 dX6_share_41 rfl 0 0 rfl rfl (by decide) f_12 rfl ?_
  refine pt_iload_n (pc' := 45) C dX6_share_44 rfl 1 rfl ?_
  refine pt_cvI (pc' := 48) (ws' := wX cA aX aB aT aN aG aW aD aO aV g t mk ++ wB cA aB n k bs wl fd kd sz lk) (wr := wX cA aX aB aT aN aG aW aD aO aV g t mk) (As := [.int b]) (rest := []) C (mX0_hasBorder l D cA aB n k bs wl fd kd sz lk b ) (cwV 1 C.hts hX6_share_X0_hasBorder rfl rfl rfl (by decide +kernel) ⟨Nat.le_of_ble_eq_true rfl, Nat.le_of_ble_eq_true rfl⟩) dX6_share_45 rfl 2 rfl rfl rfl rfl rfl (Nat.le_of_ble_eq_true rfl) ⟨Nat.le_of_ble_eq_true rfl, Nat.le_of_ble_eq_true rfl⟩ [2, 3, 4, 5, 6, 7, 8] [0, 1] [0, 1, 2, 3, 4, 5, 6, 7, 8] rfl (by decide) rfl (by decide) (by decide) rfl (by decide) ?_
  refine pt_if_eq (pc' := 51) (tgt := 59) C dX6_share_48 (by decide) rfl (fun h_48 => ?_) (fun h_48 => ?_)
  · exact pt_thr C hl hex hk t3 t4 in_t k_135 i_n hZ dX6_share_59 dX6_share_62 dX6_share_63 dX6_share_65 dX6_share_68 (Nat.le_of_ble_eq_true rfl) (Nat.le_of_ble_eq_true rfl) (Nat.le_of_ble_eq_true rfl) (Nat.le_of_ble_eq_true rfl)
  refine pt_iload_n (pc' := 52) C dX6_share_51 rfl 2 rfl ?_
  refine pt_iconst (pc' := 53) C dX6_share_52 rfl (v := 1) (by decide) ?_
  refine pt_iload_n (pc' := 54) C dX6_share_53 rfl 1 rfl ?_
  refine pt_ishl (pc' := 55) C dX6_share_54 rfl ?_
  refine pt_iand (pc' := 56) C dX6_share_55 rfl ?_
  refine pt_if_ne (pc' := 59) (tgt := 69) C dX6_share_56 (by decide) rfl (fun h_56 => ?_) (fun h_56 => ?_)
  · refine absurd hok ?_
    unfold okSh
    rw [bI_t h_8, bI_t h_19, bI_t h_48, decide_eq_true h_27, decide_eq_false h_56]
    decide
  · exact pt_thr C hl hex hk t3 t4 in_t k_135 i_n hZ dX6_share_59 dX6_share_62 dX6_share_63 dX6_share_65 dX6_share_68 (Nat.le_of_ble_eq_true rfl) (Nat.le_of_ble_eq_true rfl) (Nat.le_of_ble_eq_true rfl) (Nat.le_of_ble_eq_true rfl)

set_option maxHeartbeats 4000000 in
set_option maxRecDepth 100000 in
theorem mL_line_no (hCR : CatchRow) (l : Launch) (hl : l.stackTraces = false) (D : va_G) (cA : ClassId) (aX : Nat → Nat) (aB : Nat → Nat) (aT : Nat → Nat) (aN : Nat → Nat) (aG : Nat → Nat) (aW : Nat → Nat) (aD : Nat → Nat) (aO : Nat → Nat) (aV : Nat → Nat) (g : Nat) (t : Int32) (mk : Nat → Int32) (n : Nat) (k : Int32) (bs : Nat → Int32) (wl : Nat → Int32) (fd : Nat → Int32) (kd : Nat → Int32) (sz : Nat → Int32) (lk : Nat → Int32) (oa : Nat) (x : Int32) (hok : inF n x = false) : mt_L l yL_line wsL_line { frames := 7, cells := 1, slots := 6, locals := 130 } D [(cA, .int)] [.ref (aX 0), .int x, .ref oa] (wX cA aX aB aT aN aG aW aD aO aV g t mk ++ wB cA aB n k bs wl fd kd sz lk) 1 := by
  refine mt_ofL (cc := cL_line) (maxL := 4) (ret := (some .int)) (hh := [(0, 9, 12, 13)]) (lv := [(0, .ref (aX 0)), (1, .int x), (2, .ref oa)]) (by decide) rfl (Nat.le_of_ble_eq_true rfl) rfl ?_
  intro p e s m args below meth c A C hr hk hex hT hZ
  have k_13 := C.hts (.classLink RL 13 NSE) (by decide +kernel)
  have hct : (Cond.castable NSE NSE).before args s = true := va_Nw.use rfl (hT.2.2.2 _ (by decide +kernel))
  refine pt_aload_n (pc' := 1) C dL_line_0 rfl 2 rfl ?_
  refine pt_iconst (pc' := 2) C dL_line_1 rfl (v := 0) (by decide) ?_
  refine pt_aload_n (pc' := 3) C dL_line_2 rfl 0 rfl ?_
  refine pt_iload_n (pc' := 4) C dL_line_3 rfl 1 rfl ?_
  refine pt_cvT hCR (k9 := 1) (n9 := 6) (hp := 12) (As := [.int x]) (rest := [.int 0, .ref oa]) C (mX6_line_no l hl D cA aX aB aT aN aG aW aD aO aV g t mk n k bs wl fd kd sz lk x hok) (cwV 1 C.hts gL_line_X6_line rfl rfl rfl (by decide +kernel) ⟨Nat.le_of_ble_eq_true rfl, Nat.le_of_ble_eq_true rfl⟩) dL_line_4 0 rfl rfl rfl rfl rfl (Nat.le_of_ble_eq_true rfl) ⟨Nat.le_of_ble_eq_true rfl, Nat.le_of_ble_eq_true rfl⟩ ⟨rfl, rfl⟩ hT hZ _ hex (by decide) (by decide) k_13 hct rfl (fun q9 => ?_)
  refine pt_astore_n (pc' := 13) (lv' := [(3, .ref q9), (0, .ref (aX 0)), (1, .int x), (2, .ref oa)]) C dL_line_12 rfl rfl (by decide) rfl ?_
  refine pt_iconst (pc' := 14) C dL_line_13 rfl (v := 1) (by decide) ?_
  exact pt_iretL C hr hk dL_line_14 rfl rfl rfl

set_option maxHeartbeats 4000000 in
set_option maxRecDepth 100000 in
theorem mL_share_no (hCR : CatchRow) (l : Launch) (hl : l.stackTraces = false) (D : va_G) (cA : ClassId) (aX : Nat → Nat) (aB : Nat → Nat) (aT : Nat → Nat) (aN : Nat → Nat) (aG : Nat → Nat) (aW : Nat → Nat) (aD : Nat → Nat) (aO : Nat → Nat) (aV : Nat → Nat) (g : Nat) (t : Int32) (mk : Nat → Int32) (n : Nat) (k : Int32) (bs : Nat → Int32) (wl : Nat → Int32) (fd : Nat → Int32) (kd : Nat → Int32) (sz : Nat → Int32) (lk : Nat → Int32) (oa : Nat) (b q f : Int32) (hn : 2 ≤ n) (hm : n ≤ 12) (hok : okSh n kd b q f = false) : mt_L l yL_share wsL_share { frames := 7, cells := 1, slots := 6, locals := 130 } D [(cA, .int)] [.ref (aX 0), .int b, .int q, .int f, .ref oa] (wX cA aX aB aT aN aG aW aD aO aV g t mk ++ wB cA aB n k bs wl fd kd sz lk) 1 := by
  refine mt_ofL (cc := cL_share) (maxL := 6) (ret := (some .int)) (hh := [(0, 12, 15, 13)]) (lv := [(0, .ref (aX 0)), (1, .int b), (2, .int q), (3, .int f), (4, .ref oa)]) (by decide) rfl (Nat.le_of_ble_eq_true rfl) rfl ?_
  intro p e s m args below meth c A C hr hk hex hT hZ
  have k_13 := C.hts (.classLink RL 13 NSE) (by decide +kernel)
  have hct : (Cond.castable NSE NSE).before args s = true := va_Nw.use rfl (hT.2.2.2 _ (by decide +kernel))
  refine pt_aload (pc' := 2) C dL_share_0 rfl 4 rfl ?_
  refine pt_iconst (pc' := 3) C dL_share_2 rfl (v := 0) (by decide) ?_
  refine pt_aload_n (pc' := 4) C dL_share_3 rfl 0 rfl ?_
  refine pt_iload_n (pc' := 5) C dL_share_4 rfl 1 rfl ?_
  refine pt_iload_n (pc' := 6) C dL_share_5 rfl 2 rfl ?_
  refine pt_iload_n (pc' := 7) C dL_share_6 rfl 3 rfl ?_
  refine pt_cvT hCR (k9 := 1) (n9 := 6) (hp := 15) (As := [.int b, .int q, .int f]) (rest := [.int 0, .ref oa]) C (mX6_share_no l hl D cA aX aB aT aN aG aW aD aO aV g t mk n k bs wl fd kd sz lk b q f hn hm hok) (cwV 3 C.hts gL_share_X6_share rfl rfl rfl (by decide +kernel) ⟨Nat.le_of_ble_eq_true rfl, Nat.le_of_ble_eq_true rfl⟩) dL_share_7 0 rfl rfl rfl rfl rfl (Nat.le_of_ble_eq_true rfl) ⟨Nat.le_of_ble_eq_true rfl, Nat.le_of_ble_eq_true rfl⟩ ⟨rfl, rfl⟩ hT hZ _ hex (by decide) (by decide) k_13 hct rfl (fun q9 => ?_)
  refine pt_astore (pc' := 17) (lv' := [(5, .ref q9), (0, .ref (aX 0)), (1, .int b), (2, .int q), (3, .int f), (4, .ref oa)]) C dL_share_15 rfl (by decide) rfl ?_
  refine pt_iconst (pc' := 18) C dL_share_17 rfl (v := 1) (by decide) ?_
  exact pt_iretL C hr hk dL_share_18 rfl rfl rfl

