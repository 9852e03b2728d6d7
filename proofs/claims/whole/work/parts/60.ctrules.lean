/-! constructors: new cells, whose addresses the contract leaves open -/
def ad (h : Nat) (f : Nat → Nat) : Nat → Nat
  | 0 => h
  | i + 1 => f i
def adL (xs : List Nat) : Nat → Nat := fun i => xs.getD i 0
section PT
variable {p : Program} {l : Launch} {e : Env} {R : Room} {s : State} {m : MethodId} {args : Array Value} {below : List Frame} {meth : Method} {c : Code} {Q : State → Prop}
variable {cc : ByteArray} {nL cells slots pc pc' : Nat} {Ts : List Cond} {own : String} {D : va_G} {cA : ClassId} {A : Nat → Prop} {ws ws' : va_W} {lv lv' : List (Nat × Value)} {st st' rest : List Value} {tys : List (ClassId × FieldType)}
theorem pt_newa (C : pt_C p s m args c cc nL Ts own D tys A) {n : Int32} {k9 n9 : Nat} (N : Nat) {wf : Nat → va_W} (harr : (Cond.arrayClass .int).before args s = true) (hd : decode cc pc = .ok (.newarray .int, 2)) (hpc : pc + 2 = pc') (ht : tys[0]? = some (cA, .int)) (hn : ¬ n < 0) (hN : n.toNatClampNeg = N) (hb : N * componentBytes .int ≤ 536870912) (hcs : cells + 1 ≤ R.cells ∧ slots + N ≤ R.slots) (h9 : cells + 1 = k9 ∧ slots + N = n9) (hw : ∀ q : Nat, ws ++ [(q, .inl (cA, N, .inl (fun _ => 0)))] = wf q)
    (K : ∀ q : Nat, pt_P p l e R s m args below meth c D A nL Q k9 n9 pc' (wf q) lv (.ref q :: rest)) : pt_P p l e R s m args below meth c D A nL Q cells slots pc ws lv (.int n :: rest) := by
  obtain ⟨rfl, rfl⟩ := h9
  subst hpc
  intro H locs ls hP hD hS h
  refine va_newa (atype := .int) (ty := .int) C.1 C.2.1 harr rfl C.2.2.2.2.2.1 hP hD hS C.2.2.2.2.2.2 (a0 := (N, .inl (fun _ => 0))) (fun c9 => by rw [vp_cell_i]; rfl) hn hN hb hcs.1 hcs.2 hd ?_
  intro q c9 H1 hK1 hP1 hD1 hS1
  have e1 : c9 = cA := by
    have h1 := (hK1.2 tys.length (c9, .int) (by simp)).2
    have h2 := (C.2.2.2.2.2.1.2 0 (cA, .int) ht).2
    exact Option.some.inj ((show s.vm.findClass _ = some c9 from h1).symm.trans (show s.vm.findClass _ = some cA from h2))
  subst e1
  have hk := K q
  rw [← hw q] at hk
  exact hk H1 locs ls hP1 hD1 hS1 h
theorem pt_new (C : pt_C p s m args c cc nL Ts own D tys A) {Cn : String} {T : u_T} {N ci index : Nat} {fs : List Value} {k9 n9 : Nat} {wf : Nat → va_W} (hin : ∀ w ∈ u_ws Cn T N, w ∈ Ts) (ty0 : Nat → FieldType) (hty : ∀ k, k < N → parseFieldDescriptor (T k).2.2.1 = some (ty0 k)) (hcl : (Cond.classLink own index Cn).before args s = true) (hinst : (Cond.instantiable Cn N).before args s = true) (hini : (Cond.initialized Cn).before args s = true) (hc : vwCl[ci]? = some (Cn, T, N)) (hfs : ∀ j, j < N → defaultValue (ty0 j) = vp_V fs j) (hd : decode cc pc = .ok (.new index, 3)) (hpc : pc + 3 = pc') (hcs : cells + 1 ≤ R.cells ∧ slots + N ≤ R.slots) (h9 : cells + 1 = k9 ∧ slots + N = n9) (hw : ∀ q : Nat, ws ++ [(q, .inr (ci, fs))] = wf q)
    (K : ∀ q : Nat, pt_P p l e R s m args below meth c D A nL Q k9 n9 pc' (wf q) lv (.ref q :: rest)) : pt_P p l e R s m args below meth c D A nL Q cells slots pc ws lv rest := by
  obtain ⟨rfl, rfl⟩ := h9
  subst hpc
  intro H locs ls hP hD hS h
  refine va_new C.1 C.2.1 C.hts hin ty0 hty C.2.2.2.1 hcl hinst hini C.2.2.2.2.2.1 hP hD hS C.2.2.2.2.2.2 hc hfs hcs.1 hcs.2 hd ?_
  intro q H1 hP1 hD1 hS1
  have hk := K q
  rw [← hw q] at hk
  exact hk H1 locs ls hP1 hD1 hS1 h
theorem pt_objI (C : pt_C p s m args c cc nL Ts own D tys A) {index a : Nat} (hd : decode cc pc = .ok (.invokespecial index, 3)) (hpc : pc + 3 = pc') (hl : (Cond.methodLink own index Lib.objectInit).before args s = true) (hi : (Cond.instanceMethod Lib.objectInit).before args s = true) (hcode : (Cond.code Lib.objectInit ⟨#[0xb1]⟩ 1 none).before args s = true) (hf : 1 ≤ R.frames) (hlo : 12 ≤ R.locals)
    (K : pt_P p l e R s m args below meth c D A nL Q cells slots pc' ws lv []) : pt_P p l e R s m args below meth c D A nL Q cells slots pc ws lv [.ref a] := by
  subst hpc
  intro H locs ls hP hD hS h
  refine W.objInit C.1 C.2.1 C.2.2.2.1 hl hi hcode rfl (h.1.trans C.2.2.1.symm) rfl hd hf ?_ ?_
  · show 2 * 0 + 0 + 12 ≤ R.locals
    omega
  · exact K H locs ls hP hD hS h
theorem pt_astore_n (C : pt_C p s m args c cc nL Ts own D tys A) {k : Fin 4} {i a : Nat} (hd : decode cc pc = .ok (.astore_n k, 1)) (hpc : pc + 1 = pc') (hi : (k : Nat) = i) (hn : i < nL) (hl : (i, Value.ref a) :: lv.filter (fun q => !(q.1 == i) && !(q.1 + 1 == i && q.2.category == 2)) = lv') (K : pt_P p l e R s m args below meth c D A nL Q cells slots pc' ws lv' rest) : pt_P p l e R s m args below meth c D A nL Q cells slots pc ws lv (.ref a :: rest) := by
  subst hpc; exact fun H locs ls hP hD hS h => lv_astore_n C.1 C.2.1 hd hi h hn hl (fun ls' h' => K H locs ls' hP hD hS h')
/-- a constructor's contract: NX is what the tables must say besides -/
def mt_N {S : Type} (l : Launch) (y : MethodName) (wy : List Cond) (rm : Room) (D : va_G) (tys : List (ClassId × FieldType)) (av : List Value) (w0 : va_W) (mc ms : Nat) (NX : State → Prop) (w1 : S → va_W) : Prop :=
  ∀ sz : Nat, Met l y wy rm (va_Pc av (fun U => mt_Pc D tys sz w0 U ∧ NX U)) (va_Qv (fun (_ : S) => True) (fun u t => mt_B D tys (va_A w0 sz) (w1 u) t) (va_A w0 sz)) mc ms (va_A w0 sz)
def pt_QN {S : Type} (below : List Frame) (args : Array Value) (s : State) (D : va_G) (tys : List (ClassId × FieldType)) (A : Nat → Prop) (mc ms : Nat) (w1 : S → va_W) : State → Prop := MQ below (va_Qv (fun (_ : S) => True) (fun u t => mt_B D tys A (w1 u) t) A) args s mc ms A
theorem mt_ofN {S : Type} {y : MethodName} {wy wy' : List Cond} {rm : Room} {av : List Value} {w0 : va_W} {mc ms : Nat} {NX : State → Prop} {w1 : S → va_W} {maxL : Nat} {ret : Option FieldType} (hy : plainName y.cls = true) (hw : wy = Cond.code y cc maxL ret :: wy') (hlen : (lg_sl av).length ≤ maxL) (hlv : lv_args 0 av = lv)
    (body : ∀ (p : Program) (e : Env) (s : State) (m : MethodId) (args : Array Value) (below : List Frame) (meth : Method) (c : Code) (A : Nat → Prop), pt_C p s m args c cc maxL wy y.cls D tys A → meth.sig.returnType = ret → meth.locks = false → meth.name = y.name → NX s → pt_P p l e rm s m args below meth c D A maxL (pt_QN below args s D tys A mc ms w1) 0 0 0 w0 lv []) : mt_N l y wy rm D tys av w0 mc ms NX w1 := by
  intro sz
  refine Met.ofW (cc := cc) (maxL := maxL) (ret := ret) hy hw ?_
  intro p e s m args below meth c s₁ B hml hv
  obtain ⟨rfl, ⟨hsz, hP, hK, hD0⟩, hNX⟩ := hv
  have hts := atoms_spec (ws := wy) B.pre
  subst hsz
  have hA : ∀ q : Nat, s.heap.size ≤ q → va_A w0 s.heap.size q := fun q h => Or.inr h
  have hl := lv_entry av (n := maxL) hlen
  rw [lg_entry_eq]
  rw [hlv] at hl
  exact body p e s m _ below meth c _ ⟨B.exec, B.bytes, hml, findClass_of_methodNamed B.named, hts, hK, hA⟩ B.returns B.notSynchronized (name_of_methodNamed B.named B.method).1 hNX s.heap [] _ hP (hD0.self) va_S.rf hl
theorem pt_vretN {S : Type} {w1 : S → va_W} (C : pt_C p s m args c cc nL Ts own D tys A) (hr : meth.sig.returnType = none) (hlocks : meth.locks = false) (hd : decode cc pc = .ok (.return_, 1)) (u : S) (hw : ws = w1 u) : pt_P p l e R s m args below meth c D A nL (pt_QN below args s D tys A cells slots w1) cells slots pc ws lv [] := by
  subst hw
  exact fun H locs ls hP hD hS h => W.vret C.1 C.2.1 hr (fun t ht hW => ⟨⟨u, rfl, trivial, by rw [ht]; exact hP, va_K.moved hW.alike C.2.2.2.2.2.1, hD⟩, hS.F ht⟩) hS.2.2 hd hlocks
/-- what the tables say stays said -/
def nx_ok (NX : State → Prop) : Prop := (∀ u U : State, u.vm = U.vm → NX u → NX U) ∧ (∀ s U : State, s.WarmedH U.vm → NX s → NX U)
theorem nx_T : nx_ok (fun _ => True) := ⟨fun _ _ _ _ => trivial, fun _ _ _ _ => trivial⟩
theorem mt_blindN {av : List Value} {sz : Nat} {w0 : va_W} {NX : State → Prop} (hx : nx_ok NX) : FrameBlind (va_Pc av (fun U => mt_Pc D tys sz w0 U ∧ NX U)) := fun a U g mk q => ⟨q.1, ⟨q.2.1.1, q.2.1.2.1, va_K.moved (u := U) (U := U.calling g mk a) (Vm.Alike.refl U.vm) q.2.1.2.2.1, q.2.1.2.2.2⟩, hx.1 U _ rfl q.2.2⟩
theorem mt_preN {H : Heap} {av : List Value} {w0 : va_W} {A0 : Nat → Prop} {NX : State → Prop} (hx : nx_ok NX) (hn : NX s) (hK : va_K D vwCl tys s) (hP : va_P D vwCl w0 H) (hD : va_D A0 w0) : ∀ U : State, U.heap = H → s.WarmedH U.vm → va_Pc av (fun U => mt_Pc D tys H.size w0 U ∧ NX U) av.toArray U :=
  fun U hU hW => ⟨rfl, ⟨by rw [hU], by rw [hU]; exact hP, va_K.moved hW.alike hK, hD.weaken (fun _ _ _ _ => trivial)⟩, hx.2 s U hW hn⟩
section CALLS
variable {y : MethodName} {wy : List Cond} {rm : Room} {b : Nat} {w0 wr : va_W} {index maxL n mc ms k9 n9 : Nat} {bytes : ByteArray} {NX : State → Prop}
theorem pt_ci (C : pt_C p s m args c cc nL Ts own D tys A) {S : Type} {w1 wf : S → va_W} (hx : nx_ok NX) (hn : NX s) (hM : mt_N l y wy rm D tys [.ref b] w0 mc ms NX w1) (cw : CallB R s args own index y bytes maxL none wy rm mc ms 0 ∧ y.name = "<init>" ∧ (Cond.instanceMethod y).before args s = true) (hd : decode cc pc = .ok (.invokespecial index, 3)) (hpc : pc + 3 = pc') (hst : st = .ref b :: rest) (hW : (rest.map fun v => v.category).sum ≤ 8) (hcs : cells + mc ≤ R.cells ∧ slots + ms ≤ R.slots) (h9 : cells + mc = k9 ∧ slots + ms = n9)
    (isC isR isF : List Nat) (hC : isC.map (fun i => ws[i]?) = w0.map some) (hnC : va_nd isC = true) (hR : isR.map (fun i => ws[i]?) = wr.map some) (hnR : va_nd isR = true) (hdis : ∀ i ∈ isR, i ∉ isC) (hF : ∀ u, isF.map (fun i => (wr ++ w1 u)[i]?) = (wf u).map some) (hnF : va_nd isF = true)
    (K : ∀ u : S, pt_P p l e R s m args below meth c D A nL Q k9 n9 pc' (wf u) lv rest) : pt_P p l e R s m args below meth c D A nL Q cells slots pc ws lv st := by
  obtain ⟨rfl, rfl⟩ := h9
  subst hpc; subst hst
  intro H locs ls hP hD hS h
  have hP0 := hP.sub isC (pt_fm hC)
  have hD0 := hD.sub isC hnC hC
  have hfr := va_free hD hS C.2.2.2.2.2.2 isC hC
  refine va_callv (va_runI (As := []) (rest := rest) (b := b) ⟨C.1, C.2.1, C.2.2.1, C.2.2.2.1, C.hts⟩ (hM H.size) cw ⟨mt_blindN hx, mt_preN hx hn C.2.2.2.2.2.1 hP0 hD0⟩ rfl rfl h.1 rfl (lv_room hW) hd hcs) hS (fun q _ hq => hfr q hq) hfr (fun u t H1 locs1 ht hvm hr hB hz hk hS1 => ?_)
  obtain ⟨hP1, -, hD1⟩ := hB
  rw [ht] at hP1
  obtain ⟨hP2, hD2⟩ := pt_after hP hD hS C.2.2.2.2.2.2 isC isR isF hC hR hnR hdis (hF u) hnF hk hP1 hD1
  exact K u H1 locs1 ls hP2 hD2 hS1 h
theorem pt_ciN (C : pt_C p s m args c cc nL Ts own D tys A) {S : Type} {w1 wf : S → va_W} {host : String} (hx : nx_ok NX) (hn : NX s) (hM : mt_N l y wy rm D tys [.ref b] w0 mc ms NX w1) (cw : va_CN R s args own index y host bytes maxL none wy rm mc ms 0 ∧ y.name = "<init>" ∧ (Cond.instanceMethod y).before args s = true) (hd : decode cc pc = .ok (.invokespecial index, 3)) (hpc : pc + 3 = pc') (hst : st = .ref b :: rest) (hW : (rest.map fun v => v.category).sum ≤ 8) (hcs : cells + mc ≤ R.cells ∧ slots + ms ≤ R.slots) (h9 : cells + mc = k9 ∧ slots + ms = n9)
    (isC isR isF : List Nat) (hC : isC.map (fun i => ws[i]?) = w0.map some) (hnC : va_nd isC = true) (hR : isR.map (fun i => ws[i]?) = wr.map some) (hnR : va_nd isR = true) (hdis : ∀ i ∈ isR, i ∉ isC) (hF : ∀ u, isF.map (fun i => (wr ++ w1 u)[i]?) = (wf u).map some) (hnF : va_nd isF = true)
    (K : ∀ u : S, pt_P p l e R s m args below meth c D A nL Q k9 n9 pc' (wf u) lv rest) : pt_P p l e R s m args below meth c D A nL Q cells slots pc ws lv st := by
  obtain ⟨rfl, rfl⟩ := h9
  subst hpc; subst hst
  intro H locs ls hP hD hS h
  have hP0 := hP.sub isC (pt_fm hC)
  have hD0 := hD.sub isC hnC hC
  have hfr := va_free hD hS C.2.2.2.2.2.2 isC hC
  refine va_callv (va_runIN (As := []) (rest := rest) (b := b) ⟨C.1, C.2.1, C.2.2.1, C.2.2.2.1, C.hts⟩ (hM H.size) cw ⟨mt_blindN hx, mt_preN hx hn C.2.2.2.2.2.1 hP0 hD0⟩ rfl rfl h.1 rfl (lv_room hW) hd hcs) hS (fun q _ hq => hfr q hq) hfr (fun u t H1 locs1 ht hvm hr hB hz hk hS1 => ?_)
  obtain ⟨hP1, -, hD1⟩ := hB
  rw [ht] at hP1
  obtain ⟨hP2, hD2⟩ := pt_after hP hD hS C.2.2.2.2.2.2 isC isR isF hC hR hnR hdis (hF u) hnF hk hP1 hD1
  exact K u H1 locs1 ls hP2 hD2 hS1 h
end CALLS
end PT
