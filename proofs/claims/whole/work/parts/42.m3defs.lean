section VE
variable {p : Program} {l : Launch} {e : Env} {R : Room} {s : State} {m : MethodId} {args : Array Value} {below : List Frame} {meth : Method} {c : Code} {Q : State → Prop}
variable {cc : ByteArray} {nL cells slots pc pc' : Nat} {Ts : List Cond} {own : String} {D : va_G} {cA : ClassId} {A : Nat → Prop} {ws ws' : va_W} {lv lv' : List (Nat × Value)} {st st' rest : List Value} {tys : List (ClassId × FieldType)}
def mt_VE {S : Type} (l : Launch) (y : MethodName) (wy : List Cond) (rm : Room) (D : va_G) (tys : List (ClassId × FieldType)) (av : List Value) (w0 : va_W) (w1 : S → va_W) : Prop :=
  ∀ sz : Nat, Met l y wy rm (va_Pc av (mt_Pc D tys sz w0)) (va_Qv (fun (_ : S) => True) (fun u t => mt_B D tys (va_A w0 sz) (w1 u) t) (va_A w0 sz)) 0 0 (va_A w0 sz)
def pt_QVE {S : Type} (below : List Frame) (args : Array Value) (s : State) (D : va_G) (tys : List (ClassId × FieldType)) (A : Nat → Prop) (w1 : S → va_W) : State → Prop := MQ below (va_Qv (fun (_ : S) => True) (fun u t => mt_B D tys A (w1 u) t) A) args s 0 0 A
theorem mt_ofVE {S : Type} {y : MethodName} {wy wy' : List Cond} {rm : Room} {av : List Value} {w0 : va_W} {w1 : S → va_W} {maxL : Nat} {ret : Option FieldType} (hy : plainName y.cls = true) (hw : wy = Cond.code y cc maxL ret :: wy') (hlen : (lg_sl av).length ≤ maxL) (hlv : lv_args 0 av = lv)
    (body : ∀ (p : Program) (e : Env) (s : State) (m : MethodId) (args : Array Value) (below : List Frame) (meth : Method) (c : Code) (A : Nat → Prop), pt_C p s m args c cc maxL wy y.cls D tys A → meth.sig.returnType = ret → meth.locks = false → pt_P p l e rm s m args below meth c D A maxL (pt_QVE below args s D tys A w1) 0 0 0 w0 lv []) : mt_VE l y wy rm D tys av w0 w1 := by
  intro sz
  refine Met.ofW (cc := cc) (maxL := maxL) (ret := ret) hy hw ?_
  intro p e s m args below meth c s₁ B hml hv
  obtain ⟨rfl, hsz, hP, hK, hD0⟩ := hv
  have hts := atoms_spec (ws := wy) B.pre
  subst hsz
  have hA : ∀ q : Nat, s.heap.size ≤ q → va_A w0 s.heap.size q := fun q h => Or.inr h
  have hl := lv_entry av (n := maxL) hlen
  rw [lg_entry_eq]
  rw [hlv] at hl
  exact body p e s m _ below meth c _ ⟨B.exec, B.bytes, hml, findClass_of_methodNamed B.named, hts, hK, hA⟩ B.returns B.notSynchronized s.heap [] _ hP (hD0.self) va_S.rf hl
theorem pt_vretE {S : Type} {w1 : S → va_W} (C : pt_C p s m args c cc nL Ts own D tys A) (hr : meth.sig.returnType = none) (hlocks : meth.locks = false) (hd : decode cc pc = .ok (.return_, 1)) (u : S) (hw : ws = w1 u) : pt_P p l e R s m args below meth c D A nL (pt_QVE below args s D tys A w1) 0 0 pc ws lv [] := by
  subst hw
  exact fun H locs ls hP hD hS h => W.vret C.1 C.2.1 hr (fun t ht hW => ⟨⟨u, rfl, trivial, by rw [ht]; exact hP, va_K.moved hW.alike C.2.2.2.2.2.1, hD⟩, hS.F ht⟩) hS.2.2 hd hlocks
section CV
variable {y : MethodName} {wy : List Cond} {rm : Room} {b : Nat} {As : List Value} {r : Int32} {Cn : String} {index maxL n ci : Nat} {bytes : ByteArray} {ret : Option FieldType} {fs : List Value} {qc : vw_C}
theorem pt_cvVE0 (C : pt_C p s m args c cc nL Ts own D tys A) {S : Type} {w1 : S → va_W} (hM : mt_VE l y wy rm D tys (.ref b :: As) ws w1) (cw : CallW R s args own Cn index y bytes maxL ret wy rm 0 0 n) (hd : decode cc pc = .ok (.invokevirtual index, 3)) (hpc : pc + 3 = pc') (qb : Nat) (he : ws[qb]? = some (b, .inr (ci, fs))) (hc : vwCl[ci]? = some qc) (hq : qc.1 = Cn) (hn : As.length = n) (hst : st = As.reverse ++ .ref b :: rest) (hW : (rest.map fun v => v.category).sum ≤ 8) (hcs : cells ≤ R.cells ∧ slots ≤ R.slots)
    (K : ∀ u : S, pt_P p l e R s m args below meth c D A nL Q cells slots pc' (w1 u) lv rest) : pt_P p l e R s m args below meth c D A nL Q cells slots pc ws lv st := by
  subst hpc; subst hst; subst hq
  intro H locs ls hP hD hS h
  have hfr := pt_free0 hD hS C.2.2.2.2.2.2
  refine va_callv (va_runV (As := As) (rest := rest) (b := b) ⟨C.1, C.2.1, C.2.2.1, C.2.2.2.1, C.hts⟩ (hM H.size) cw ⟨mt_blind, va_recv C.2.2.2.2.2.1 hP hc he, mt_pre C.2.2.2.2.2.1 hP hD⟩ rfl hn h.1 rfl (lv_room hW) hd hcs) hS (fun q _ hq => hfr q hq) hfr (fun u t H1 locs1 ht hvm hr hB hz hk hS1 => ?_)
  obtain ⟨hP1, -, hD1⟩ := hB
  rw [ht] at hP1
  exact K u H1 locs1 ls hP1 (hD1.weaken (fun _ _ _ hz => hfr _ hz)) hS1 h
end CV
end VE
/-! the model in the class's words -/
abbrev S7 : Type := (Nat → Int32) × (Nat → Int32) × (Nat → Int32) × (Nat → Int32) × (Nat → Int32) × (Nat → Int32) × (Nat → Int32)
def agB (n : Nat) (kd : Nat → Int32) (x : Int32) (b : Nat) : Bool := if (x >>> (nI b &&& 31)) &&& 1 = 0 then true else if 13 ≤ nI b then false else (inI n (nI b) && (if kd b = 1 then true else false))
def btS (x : Int32) (b : Nat) (a : Int32) : Int32 := a + ((x >>> (nI b &&& 31)) &&& 1)
theorem lt13 {j : Nat} (hj : j < 32) (h : ¬ 13 ≤ nI j) : j < 13 := by
  rcases Nat.lt_or_ge j 13 with q | q
  · exact q
  · exact absurd (nI_le (a := 13) (b := j) q (by omega)) h
def saM (sd se : Nat → Int32) (i : Nat) (a : Int32) : Int32 := a + (sd i + se i)
def sbM (ba : Nat → Int32) (i : Nat) (a : Int32) : Int32 := a + ba i
def soB (w : Int32) (vf vw vl vm sd : Nat → Int32) (i : Nat) : Bool := if vw i = w then inR (sd (vf i).toNatClampNeg / 10) (vl i) (vm i) else true
