/-! worlds put together of pieces: a call takes some of them -/
theorem vd_iff {A : Nat → Prop} {ws : va_W} : va_D A ws ↔ ws.Pairwise (fun p q => p.1 ≠ q.1) ∧ ∀ q ∈ ws, A q.1 := by
  constructor
  · rintro ⟨h1, h2⟩
    refine ⟨List.pairwise_iff_getElem.mpr (fun i j hi hj hij e => ?_), fun q hq => ?_⟩
    · have := h1 i j ws[i] ws[j] (List.getElem?_eq_getElem hi) (List.getElem?_eq_getElem hj) e
      omega
    · obtain ⟨k, hk⟩ := List.getElem?_of_mem hq
      exact h2 k q hk
  · rintro ⟨h1, h2⟩
    refine ⟨fun i j p q hp hq e => ?_, fun k q hk => h2 q (List.mem_of_getElem? hk)⟩
    obtain ⟨hi, rfl⟩ := List.getElem?_eq_some_iff.mp hp
    obtain ⟨hj, rfl⟩ := List.getElem?_eq_some_iff.mp hq
    rcases Nat.lt_trichotomy i j with h | h | h
    · exact absurd e (List.pairwise_iff_getElem.mp h1 i j hi hj h)
    · exact h
    · exact absurd e.symm (List.pairwise_iff_getElem.mp h1 j i hj hi h)
theorem vp_iff {D : va_G} {cl : List vw_C} {ws : va_W} {H : Heap} : va_P D cl ws H ↔ ∀ q ∈ ws, va_at D cl q H := by
  constructor
  · intro h q hq
    obtain ⟨k, hk⟩ := List.getElem?_of_mem hq
    exact h k q hk
  · intro h k q hk
    exact h q (List.mem_of_getElem? hk)
theorem vp_perm {D : va_G} {cl : List vw_C} {ws ws' : va_W} {H : Heap} (h : ws.Perm ws') (hP : va_P D cl ws H) : va_P D cl ws' H := vp_iff.mpr (fun q hq => vp_iff.mp hP q (h.mem_iff.mpr hq))
theorem vd_perm {A : Nat → Prop} {ws ws' : va_W} (h : ws.Perm ws') (hD : va_D A ws) : va_D A ws' := vd_iff.mpr ⟨(h.pairwise_iff (fun z e => z e.symm)).mp (vd_iff.mp hD).1, fun q hq => (vd_iff.mp hD).2 q (h.mem_iff.mpr hq)⟩
section PT
variable {p : Program} {l : Launch} {e : Env} {R : Room} {s : State} {m : MethodId} {args : Array Value} {below : List Frame} {meth : Method} {c : Code} {Q : State → Prop}
variable {cc : ByteArray} {nL cells slots pc pc' : Nat} {Ts : List Cond} {own : String} {D : va_G} {A : Nat → Prop} {ws ws' : va_W} {lv lv' : List (Nat × Value)} {st rest : List Value} {tys : List (ClassId × FieldType)}
/-- what the callee finds -/
theorem pt_foreP {H : Heap} {locs : List Loc} {w0 wr : va_W} (hP : va_P D vwCl ws H) (hD : va_D A ws) (hS : va_S A s.heap H locs) (hA : ∀ q : Nat, s.heap.size ≤ q → A q) (hp : ws.Perm (w0 ++ wr)) : va_P D vwCl w0 H ∧ va_D A w0 ∧ ∀ q, va_A w0 H.size q → A q := by
  have hP2 := vp_iff.mp (vp_perm hp hP)
  have hD2 := vd_iff.mp (vd_perm hp hD)
  have hD0 : va_D A w0 := vd_iff.mpr ⟨(List.pairwise_append.mp hD2.1).1, fun q hq => hD2.2 q (List.mem_append_left _ hq)⟩
  refine ⟨vp_iff.mpr (fun q hq => hP2 q (List.mem_append_left _ hq)), hD0, ?_⟩
  rintro q (⟨k, e, h⟩ | h)
  · exact hD0.2 k (q, e) h
  · exact hA q (Nat.le_trans hS.1 h)
/-- .. and what stands behind the call -/
theorem pt_afterP {H H1 : Heap} {locs : List Loc} {w0 w1 wr : va_W} (hP : va_P D vwCl ws H) (hD : va_D A ws) (hS : va_S A s.heap H locs) (hA : ∀ q : Nat, s.heap.size ≤ q → A q) (hp : ws.Perm (w0 ++ wr)) (hp1 : (w1 ++ wr).Perm ws') (hk : ∀ q : Nat, q < H.size → ¬ va_A w0 H.size q → H1[q]? = H[q]?) (hP1 : va_P D vwCl w1 H1) (hD1 : va_D (va_A w0 H.size) w1) : va_P D vwCl ws' H1 ∧ va_D A ws' := by
  have hP2 := vp_iff.mp (vp_perm hp hP)
  have hD2 := vd_iff.mp (vd_perm hp hD)
  obtain ⟨-, -, hfr⟩ := pt_foreP hP hD hS hA hp
  have hPr : va_P D vwCl wr H := vp_iff.mpr (fun q hq => hP2 q (List.mem_append_right _ hq))
  have hx := (List.pairwise_append.mp hD2.1).2.2
  have hno : ∀ q ∈ wr, ∀ a : Nat, va_A w0 H.size a → a ≠ q.1 := by
    rintro q hq a (⟨k, e, h⟩ | h) rfl
    · exact hx (q.1, e) (List.mem_of_getElem? h) q hq rfl
    · obtain ⟨k, hk⟩ := List.getElem?_of_mem hq
      exact absurd ((hPr k q hk).lt) (by omega)
  have hPr1 : va_P D vwCl wr H1 := hPr.kept (fun k x hx => hk x.1 ((hPr k x hx).lt) (fun z => hno x (List.mem_of_getElem? hx) x.1 z rfl))
  refine ⟨vp_perm hp1 (hP1.app hPr1), vd_perm hp1 (va_D.app (hD1.weaken (fun _ _ _ hz => hfr _ hz)) (vd_iff.mpr ⟨(List.pairwise_append.mp hD2.1).2.1, fun q hq => hD2.2 q (List.mem_append_right _ hq)⟩) (fun i j p q h1 h2 => hno q (List.mem_of_getElem? h2) p.1 (hD1.2 i p h1)))⟩
section CALLS
variable {y : MethodName} {wy : List Cond} {rm : Room} {b : Nat} {As : List Value} {r : Int32} {w0 w1 wr : va_W} {Cn : String} {index maxL n ci : Nat} {bytes : ByteArray} {ret : Option FieldType} {fs : List Value} {qc : vw_C} {hh : List (Nat × Nat × Nat × Nat)}
theorem pt_cvIP (C : pt_C p s m args c cc nL Ts own D tys A) (hM : mt_I l y wy rm D tys (.ref b :: As) w0 r w1) (cw : CallW R s args own Cn index y bytes maxL ret wy rm 0 0 n) (hd : decode cc pc = .ok (.invokevirtual index, 3)) (hpc : pc + 3 = pc') (he : w0[0]? = some (b, .inr (ci, fs))) (hc : vwCl[ci]? = some qc) (hq : qc.1 = Cn) (hn : As.length = n) (hst : st = As.reverse ++ .ref b :: rest) (hW : (rest.map fun v => v.category).sum ≤ 8) (hcs : cells ≤ R.cells ∧ slots ≤ R.slots)
    (hp : ws.Perm (w0 ++ wr)) (hp1 : (w1 ++ wr).Perm ws') (K : pt_P p l e R s m args below meth c D A nL Q cells slots pc' ws' lv (.int r :: rest)) : pt_P p l e R s m args below meth c D A nL Q cells slots pc ws lv st := by
  subst hpc; subst hst; subst hq
  intro H locs ls hP hD hS h
  obtain ⟨hP0, hD0, hfr⟩ := pt_foreP hP hD hS C.2.2.2.2.2.2 hp
  refine va_calli (va_runV (As := As) (rest := rest) (b := b) ⟨C.1, C.2.1, C.2.2.1, C.2.2.2.1, C.hts⟩ (hM H.size) cw ⟨mt_blind, va_recv C.2.2.2.2.2.1 hP0 hc he, mt_pre C.2.2.2.2.2.1 hP0 hD0⟩ rfl hn h.1 rfl (lv_room hW) hd hcs) hS (fun q _ hq => hfr q hq) hfr (fun r' u t H1 locs1 ht hvm hr hB hz hk hS1 => ?_)
  obtain ⟨hP1, -, hD1⟩ := hB
  rw [ht] at hP1
  obtain ⟨hP2, hD2⟩ := pt_afterP hP hD hS C.2.2.2.2.2.2 hp hp1 hk hP1 hD1
  rw [hr]
  exact K H1 locs1 ls hP2 hD2 hS1 h
theorem pt_cvEP (C : pt_C p s m args c cc nL Ts own D tys A) {S : Type} {w1 wf : S → va_W} (hM : mt_IE l y wy rm D tys (.ref b :: As) w0 r w1) (cw : CallW R s args own Cn index y bytes maxL ret wy rm 0 0 n) (hd : decode cc pc = .ok (.invokevirtual index, 3)) (hpc : pc + 3 = pc') (he : w0[0]? = some (b, .inr (ci, fs))) (hc : vwCl[ci]? = some qc) (hq : qc.1 = Cn) (hn : As.length = n) (hst : st = As.reverse ++ .ref b :: rest) (hW : (rest.map fun v => v.category).sum ≤ 8) (hcs : cells ≤ R.cells ∧ slots ≤ R.slots)
    (hp : ws.Perm (w0 ++ wr)) (hp1 : ∀ u, (w1 u ++ wr).Perm (wf u)) (K : ∀ u : S, pt_P p l e R s m args below meth c D A nL Q cells slots pc' (wf u) lv (.int r :: rest)) : pt_P p l e R s m args below meth c D A nL Q cells slots pc ws lv st := by
  subst hpc; subst hst; subst hq
  intro H locs ls hP hD hS h
  obtain ⟨hP0, hD0, hfr⟩ := pt_foreP hP hD hS C.2.2.2.2.2.2 hp
  refine va_calli (va_runV (As := As) (rest := rest) (b := b) ⟨C.1, C.2.1, C.2.2.1, C.2.2.2.1, C.hts⟩ (hM H.size) cw ⟨mt_blind, va_recv C.2.2.2.2.2.1 hP0 hc he, mt_pre C.2.2.2.2.2.1 hP0 hD0⟩ rfl hn h.1 rfl (lv_room hW) hd hcs) hS (fun q _ hq => hfr q hq) hfr (fun r' u t H1 locs1 ht hvm hr hB hz hk hS1 => ?_)
  obtain ⟨hP1, -, hD1⟩ := hB
  rw [ht] at hP1
  obtain ⟨hP2, hD2⟩ := pt_afterP hP hD hS C.2.2.2.2.2.2 hp (hp1 u) hk hP1 hD1
  rw [hr]
  exact K u H1 locs1 ls hP2 hD2 hS1 h
theorem pt_csEP (C : pt_C p s m args c cc nL Ts own D tys A) {S : Type} {w1 wf : S → va_W} (hM : mt_IE l y wy rm D tys As w0 r w1) (cw : vx_CSW R s args own index y bytes maxL ret hh wy rm 0 0 n) (hd : decode cc pc = .ok (.invokestatic index, 3)) (hpc : pc + 3 = pc') (hn : As.length = n) (hst : st = As.reverse ++ rest) (hW : (rest.map fun v => v.category).sum ≤ 8) (hcs : cells ≤ R.cells ∧ slots ≤ R.slots)
    (hp : ws.Perm (w0 ++ wr)) (hp1 : ∀ u, (w1 u ++ wr).Perm (wf u)) (K : ∀ u : S, pt_P p l e R s m args below meth c D A nL Q cells slots pc' (wf u) lv (.int r :: rest)) : pt_P p l e R s m args below meth c D A nL Q cells slots pc ws lv st := by
  subst hpc; subst hst
  intro H locs ls hP hD hS h
  obtain ⟨hP0, hD0, hfr⟩ := pt_foreP hP hD hS C.2.2.2.2.2.2 hp
  refine va_calli (vx_runSW (As := As) (rest := rest) ⟨C.1, C.2.1, C.2.2.1, C.2.2.2.1, C.hts⟩ (hM H.size) cw ⟨mt_blind, mt_pre C.2.2.2.2.2.1 hP0 hD0⟩ rfl hn h.1 rfl (lv_room hW) hd hcs) hS (fun q _ hq => hfr q hq) hfr (fun r' u t H1 locs1 ht hvm hr hB hz hk hS1 => ?_)
  obtain ⟨hP1, -, hD1⟩ := hB
  rw [ht] at hP1
  obtain ⟨hP2, hD2⟩ := pt_afterP hP hD hS C.2.2.2.2.2.2 hp (hp1 u) hk hP1 hD1
  rw [hr]
  exact K u H1 locs1 ls hP2 hD2 hS1 h
theorem pt_csLP (C : pt_C p s m args c cc nL Ts own D tys A) {k9 n9 : Nat} (hM : mt_L l y wy rm D tys As w0 r) (cw : vx_CSW R s args own index y bytes maxL ret hh wy rm 1 6 n) (hd : decode cc pc = .ok (.invokestatic index, 3)) (hpc : pc + 3 = pc') (hn : As.length = n) (hst : st = As.reverse ++ rest) (hW : (rest.map fun v => v.category).sum ≤ 8) (hcs : cells + 1 ≤ R.cells ∧ slots + 6 ≤ R.slots) (h9 : cells + 1 = k9 ∧ slots + 6 = n9) (hT : thW s) (hZ : thS A s)
    (hp : ws.Perm (w0 ++ wr)) (K : pt_P p l e R s m args below meth c D A nL Q k9 n9 pc' ws lv (.int r :: rest)) : pt_P p l e R s m args below meth c D A nL Q cells slots pc ws lv st := by
  obtain ⟨rfl, rfl⟩ := h9
  subst hpc; subst hst
  intro H locs ls hP hD hS h
  obtain ⟨hP0, hD0, hfr⟩ := pt_foreP hP hD hS C.2.2.2.2.2.2 hp
  have hbl : FrameBlind (va_Pc As (fun U => mt_Pc D tys H.size w0 U ∧ thW U ∧ thS (va_A w0 H.size) U)) := fun a U g mk q => ⟨q.1, ⟨q.2.1.1, q.2.1.2.1, va_K.moved (u := U) (U := U.calling g mk a) (Vm.Alike.refl U.vm) q.2.1.2.2.1, q.2.1.2.2.2⟩, thW_ok.1 U _ rfl q.2.2.1, thS.same (u := U) (U := U.calling g mk a) (Vm.Alike.refl U.vm) rfl q.2.2.2⟩
  refine va_calli (vx_runSW (As := As) (rest := rest) ⟨C.1, C.2.1, C.2.2.1, C.2.2.2.1, C.hts⟩ (hM H.size) cw ⟨hbl, fun U hU hW2 => ⟨rfl, ⟨by rw [hU], by rw [hU]; exact hP0, va_K.moved hW2.alike C.2.2.2.2.2.1, hD0.weaken (fun _ _ _ _ => trivial)⟩, thW_ok.2 s U hW2 hT, hZ.call hS hfr U hU hW2⟩⟩ rfl hn h.1 rfl (lv_room hW) hd hcs) hS (fun q _ hq => hfr q hq) hfr (fun r' u t H1 locs1 ht hvm hr hB hz hk hS1 => ?_)
  obtain ⟨hP1, -, hD1⟩ := hB
  rw [ht] at hP1
  obtain ⟨hP2, hD2⟩ := pt_afterP hP hD hS C.2.2.2.2.2.2 hp hp.symm hk hP1 hD1
  rw [hr]
  exact K H1 locs1 ls hP2 hD2 hS1 h
/-- the law's out, the last cell -/
theorem pt_laldP {cA cL : ClassId} {w : va_W} (C : pt_C p s m args c cc nL Ts own D [(cA, .int), (cL, .long)] A) {a : Nat} {f : Nat → Int64} (hd : decode cc pc = .ok (.laload, 1)) (hpc : pc + 1 = pc') (hw : ws = w ++ [arL cL a f]) (K : pt_P p l e R s m args below meth c D A nL Q cells slots pc' ws lv (.long (f 0) :: rest)) : pt_P p l e R s m args below meth c D A nL Q cells slots pc ws lv (.int 0 :: .ref a :: rest) :=
  pt_lald C hd hpc w.length (by rw [hw, List.getElem?_append_right (Nat.le_refl _), Nat.sub_self]; rfl) K
end CALLS
end PT
theorem pm_XB {α : Type} (x1 b1 t1 n1 g1 w1 d1 o1 v1 m1 u1 : List α) : (x1 ++ b1 ++ t1 ++ n1 ++ g1 ++ w1 ++ d1 ++ o1 ++ v1 ++ m1 ++ u1).Perm ((x1 ++ b1) ++ (t1 ++ n1 ++ g1 ++ w1 ++ d1 ++ o1 ++ v1 ++ m1 ++ u1)) := by
  classical
  rw [List.perm_iff_count]
  intro a
  simp only [List.count_append]
  omega
theorem pm_XBN {α : Type} (x1 b1 t1 n1 g1 w1 d1 o1 v1 m1 u1 : List α) : (x1 ++ b1 ++ t1 ++ n1 ++ g1 ++ w1 ++ d1 ++ o1 ++ v1 ++ m1 ++ u1).Perm ((x1 ++ b1 ++ n1) ++ (t1 ++ g1 ++ w1 ++ d1 ++ o1 ++ v1 ++ m1 ++ u1)) := by
  classical
  rw [List.perm_iff_count]
  intro a
  simp only [List.count_append]
  omega
theorem pm_XW {α : Type} (x1 b1 t1 n1 g1 w1 d1 o1 v1 m1 u1 : List α) : (x1 ++ b1 ++ t1 ++ n1 ++ g1 ++ w1 ++ d1 ++ o1 ++ v1 ++ m1 ++ u1).Perm ((x1 ++ w1) ++ (b1 ++ t1 ++ n1 ++ g1 ++ d1 ++ o1 ++ v1 ++ m1 ++ u1)) := by
  classical
  rw [List.perm_iff_count]
  intro a
  simp only [List.count_append]
  omega
theorem pm_XBV {α : Type} (x1 b1 t1 n1 g1 w1 d1 o1 v1 m1 u1 : List α) : (x1 ++ b1 ++ t1 ++ n1 ++ g1 ++ w1 ++ d1 ++ o1 ++ v1 ++ m1 ++ u1).Perm ((x1 ++ b1 ++ v1) ++ (t1 ++ n1 ++ g1 ++ w1 ++ d1 ++ o1 ++ m1 ++ u1)) := by
  classical
  rw [List.perm_iff_count]
  intro a
  simp only [List.count_append]
  omega
theorem pm_XBO {α : Type} (x1 b1 t1 n1 g1 w1 d1 o1 v1 m1 u1 : List α) : (x1 ++ b1 ++ t1 ++ n1 ++ g1 ++ w1 ++ d1 ++ o1 ++ v1 ++ m1 ++ u1).Perm ((x1 ++ b1 ++ o1) ++ (t1 ++ n1 ++ g1 ++ w1 ++ d1 ++ v1 ++ m1 ++ u1)) := by
  classical
  rw [List.perm_iff_count]
  intro a
  simp only [List.count_append]
  omega
theorem pm_XBNW {α : Type} (x1 b1 t1 n1 g1 w1 d1 o1 v1 m1 u1 : List α) : (x1 ++ b1 ++ t1 ++ n1 ++ g1 ++ w1 ++ d1 ++ o1 ++ v1 ++ m1 ++ u1).Perm ((x1 ++ b1 ++ n1 ++ w1) ++ (t1 ++ g1 ++ d1 ++ o1 ++ v1 ++ m1 ++ u1)) := by
  classical
  rw [List.perm_iff_count]
  intro a
  simp only [List.count_append]
  omega
theorem pm_XBND {α : Type} (x1 b1 t1 n1 g1 w1 d1 o1 v1 m1 u1 : List α) : (x1 ++ b1 ++ t1 ++ n1 ++ g1 ++ w1 ++ d1 ++ o1 ++ v1 ++ m1 ++ u1).Perm ((x1 ++ b1 ++ n1 ++ d1) ++ (t1 ++ g1 ++ w1 ++ o1 ++ v1 ++ m1 ++ u1)) := by
  classical
  rw [List.perm_iff_count]
  intro a
  simp only [List.count_append]
  omega
theorem pm_XBNWDOV {α : Type} (x1 b1 t1 n1 g1 w1 d1 o1 v1 m1 u1 : List α) : (x1 ++ b1 ++ t1 ++ n1 ++ g1 ++ w1 ++ d1 ++ o1 ++ v1 ++ m1 ++ u1).Perm ((x1 ++ b1 ++ n1 ++ w1 ++ d1 ++ o1 ++ v1) ++ (t1 ++ g1 ++ m1 ++ u1)) := by
  classical
  rw [List.perm_iff_count]
  intro a
  simp only [List.count_append]
  omega
theorem pm_XBTGWD {α : Type} (x1 b1 t1 n1 g1 w1 d1 o1 v1 m1 u1 : List α) : (x1 ++ b1 ++ t1 ++ n1 ++ g1 ++ w1 ++ d1 ++ o1 ++ v1 ++ m1 ++ u1).Perm ((x1 ++ b1 ++ t1 ++ g1 ++ w1 ++ d1) ++ (n1 ++ o1 ++ v1 ++ m1 ++ u1)) := by
  classical
  rw [List.perm_iff_count]
  intro a
  simp only [List.count_append]
  omega
theorem pm_XBTGWDV {α : Type} (x1 b1 t1 n1 g1 w1 d1 o1 v1 m1 u1 : List α) : (x1 ++ b1 ++ t1 ++ n1 ++ g1 ++ w1 ++ d1 ++ o1 ++ v1 ++ m1 ++ u1).Perm ((x1 ++ b1 ++ t1 ++ g1 ++ w1 ++ d1 ++ v1) ++ (n1 ++ o1 ++ m1 ++ u1)) := by
  classical
  rw [List.perm_iff_count]
  intro a
  simp only [List.count_append]
  omega
theorem pm_XBTGWDO {α : Type} (x1 b1 t1 n1 g1 w1 d1 o1 v1 m1 u1 : List α) : (x1 ++ b1 ++ t1 ++ n1 ++ g1 ++ w1 ++ d1 ++ o1 ++ v1 ++ m1 ++ u1).Perm ((x1 ++ b1 ++ t1 ++ g1 ++ w1 ++ d1 ++ o1) ++ (n1 ++ v1 ++ m1 ++ u1)) := by
  classical
  rw [List.perm_iff_count]
  intro a
  simp only [List.count_append]
  omega
theorem pm_M {α : Type} (x1 b1 t1 n1 g1 w1 d1 o1 v1 m1 u1 : List α) : (x1 ++ b1 ++ t1 ++ n1 ++ g1 ++ w1 ++ d1 ++ o1 ++ v1 ++ m1 ++ u1).Perm ((m1) ++ (x1 ++ b1 ++ t1 ++ n1 ++ g1 ++ w1 ++ d1 ++ o1 ++ v1 ++ u1)) := by
  classical
  rw [List.perm_iff_count]
  intro a
  simp only [List.count_append]
  omega
theorem pm_XBNU {α : Type} (x1 b1 t1 n1 g1 w1 d1 o1 v1 m1 u1 : List α) : (x1 ++ b1 ++ t1 ++ n1 ++ g1 ++ w1 ++ d1 ++ o1 ++ v1 ++ m1 ++ u1).Perm ((x1 ++ b1 ++ n1 ++ u1) ++ (t1 ++ g1 ++ w1 ++ d1 ++ o1 ++ v1 ++ m1)) := by
  classical
  rw [List.perm_iff_count]
  intro a
  simp only [List.count_append]
  omega
theorem pm_XBTGWDU {α : Type} (x1 b1 t1 n1 g1 w1 d1 o1 v1 m1 u1 : List α) : (x1 ++ b1 ++ t1 ++ n1 ++ g1 ++ w1 ++ d1 ++ o1 ++ v1 ++ m1 ++ u1).Perm ((x1 ++ b1 ++ t1 ++ g1 ++ w1 ++ d1 ++ u1) ++ (n1 ++ o1 ++ v1 ++ m1)) := by
  classical
  rw [List.perm_iff_count]
  intro a
  simp only [List.count_append]
  omega
