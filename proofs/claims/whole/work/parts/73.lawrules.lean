/-! the law's line and share where nothing is thrown -/
set_option maxHeartbeats 4000000 in
set_option maxRecDepth 100000 in
theorem mL_line_ok (l : Launch) (D : va_G) (cA cL : ClassId) (aX aB aT aN aG aW aD aO aV : Nat → Nat) (g : Nat) (t : Int32) (mk : Nat → Int32) (n : Nat) (k : Int32) (bs wl fd kd sz lk sd se sc ba pa ch : Nat → Int32) (ou : Nat) (fo : Nat → Int64) (x : Int32) (hn : 2 ≤ n) (hm : n ≤ 12) (hok : inF n x = true) : mt_IE l yL_line wsL_line { frames := 2, cells := 0, slots := 0, locals := 42 } D [(cA, .int), (cL, .long)] [.ref (aX 0), .int x, .ref ou] (wX cA aX aB aT aN aG aW aD aO aV g t mk ++ wB cA aB n k bs wl fd kd sz lk ++ wS cA aN sd se sc ba pa ch ++ [arL cL ou fo]) 0 (fun _ : Unit => wX cA aX aB aT aN aG aW aD aO aV g t mk ++ wB cA aB n k bs wl fd kd sz lk ++ wS cA aN sd se sc ba pa ch ++ [arL cL ou (vp_updL fo 0 (ln sd x.toNatClampNeg).toInt64)]) := by
  refine mt_ofIW (cc := cL_line) (maxL := 4) (ret := (some .int)) (hh := [(0, 9, 12, 13)]) (lv := [(0, .ref (aX 0)), (1, .int x), (2, .ref ou)]) (by decide) rfl (Nat.le_of_ble_eq_true rfl) rfl ?_
  intro p e s m args below meth c A C hr hk
  refine pt_aload_n (pc' := 1) C dL_line_0 rfl 2 rfl ?_
  refine pt_iconst (pc' := 2) C dL_line_1 rfl (v := 0) (by decide) ?_
  refine pt_aload_n (pc' := 3) C dL_line_2 rfl 0 rfl ?_
  refine pt_iload_n (pc' := 4) C dL_line_3 rfl 1 rfl ?_
  refine pt_cvI (pc' := 7) (ws' := wX cA aX aB aT aN aG aW aD aO aV g t mk ++ wB cA aB n k bs wl fd kd sz lk ++ wS cA aN sd se sc ba pa ch ++ [arL cL ou fo]) (wr := [arL cL ou fo]) (As := [.int x]) (rest := [.int 0, .ref ou]) C.sub0 (mX6_line l D cA aX aB aT aN aG aW aD aO aV g t mk n k bs wl fd kd sz lk sd se sc ba pa ch x hn hm hok) (cwV 1 C.hts gL_line_X6_line rfl rfl rfl (by decide +kernel) ⟨Nat.le_of_ble_eq_true rfl, Nat.le_of_ble_eq_true rfl⟩) dL_line_4 rfl 0 rfl rfl rfl rfl rfl (Nat.le_of_ble_eq_true rfl) ⟨Nat.le_of_ble_eq_true rfl, Nat.le_of_ble_eq_true rfl⟩ [0, 1, 2, 3, 4, 5, 6, 7, 8, 9, 10, 11, 12, 13, 14, 15] [16] [1, 2, 3, 4, 5, 6, 7, 8, 9, 10, 11, 12, 13, 14, 15, 16, 0] rfl (by decide) rfl (by decide) (by decide) rfl (by decide) ?_
  refine pt_i2l (pc' := 8) C dL_line_7 rfl ?_
  refine pt_last (pc' := 9) (ws' := wX cA aX aB aT aN aG aW aD aO aV g t mk ++ wB cA aB n k bs wl fd kd sz lk ++ wS cA aN sd se sc ba pa ch ++ [arL cL ou (vp_updL fo 0 (ln sd x.toNatClampNeg).toInt64)]) C dL_line_8 rfl 16 rfl rfl ?_
  refine pt_goto (pc' := 15) C dL_line_9 (by decide) ?_
  refine pt_iconst (pc' := 16) C dL_line_15 rfl (v := 0) (by decide) ?_
  exact pt_iretE C hr hk dL_line_16 rfl rfl () rfl
set_option maxHeartbeats 4000000 in
set_option maxRecDepth 100000 in
theorem mL_share_ok (l : Launch) (D : va_G) (cA cL : ClassId) (aX aB aT aN aG aW aD aO aV : Nat → Nat) (g : Nat) (t : Int32) (mk : Nat → Int32) (n : Nat) (k : Int32) (bs wl fd kd sz lk : Nat → Int32) (tn : Nat) (tq : Int32) (tbs twl tfd tkd tsz tlk gsd gse gsc gba gpa gch : Nat → Int32) (td : Nat) (he si : Nat → Int32) (dr : Nat) (db du df dw : Nat → Int32) (ou : Nat) (fo : Nat → Int64) (b q f o : Nat) (hn : 2 ≤ n) (hm : n ≤ 12) (hg : g ≤ 120) (hS : ∀ w, w < g → si w = 0 ∨ si w = 1 ∨ si w = 2) (hr2 : dr ≤ 20) (hD : ∀ i, i < dr → dOk db df i) (hf : f < n) (hok1 : inF n (nI f) = true) (hok2 : hasG n kd (nI q) = true) (hok3 : pcN q ≤ 4) (hq : q < 4096) (hb : b < 13) (hok4 : inBd n (nI b) = true) (hok5 : ¬ nI q &&& (1 <<< (nI b &&& 31)) = 0) (ho : nI q &&& (nI (2 ^ b) ^^^ (-1)) = nI o) (ho2 : o < 4096) (hpc : ∀ j, j ≤ o → nI j &&& nI o = nI j → pcN j ≤ pcN o) : mt_IE l yL_share wsL_share { frames := 8, cells := 0, slots := 0, locals := 228 } D [(cA, .int), (cL, .long)] [.ref (aX 0), .int (nI b), .int (nI q), .int (nI f), .ref ou] (wX cA aX aB aT aN aG aW aD aO aV g t mk ++ wB cA aB n k bs wl fd kd sz lk ++ wB cA aT tn tq tbs twl tfd tkd tsz tlk ++ wS cA aG gsd gse gsc gba gpa gch ++ wW cA aW td he si ++ wD cA aD dr db du df dw ++ [arL cL ou fo]) 0 (fun u : SX => wX cA aX aB aT aN aG aW aD aO aV g t mk ++ wB cA aB n k bs wl fd kd sz lk ++ wB cA aT u.1 u.2.1 u.2.2.1 u.2.2.2.1 u.2.2.2.2.1 u.2.2.2.2.2.1 u.2.2.2.2.2.2.1 u.2.2.2.2.2.2.2.1 ++ wS cA aG u.2.2.2.2.2.2.2.2.1 u.2.2.2.2.2.2.2.2.2.1 u.2.2.2.2.2.2.2.2.2.2.1 u.2.2.2.2.2.2.2.2.2.2.2.1 u.2.2.2.2.2.2.2.2.2.2.2.2.1 u.2.2.2.2.2.2.2.2.2.2.2.2.2 ++ wW cA aW td he si ++ wD cA aD dr db du df dw ++ [arL cL ou (vp_updL fo 0 (itz (shS (fun x => liX n k bs wl fd kd sz lk he si dr db du df dw g x f) o b) (o + 1) 0).toInt64)]) := by
  refine mt_ofIW (cc := cL_share) (maxL := 6) (ret := (some .int)) (hh := [(0, 12, 15, 13)]) (lv := [(0, .ref (aX 0)), (1, .int (nI b)), (2, .int (nI q)), (3, .int (nI f)), (4, .ref ou)]) (by decide) rfl (Nat.le_of_ble_eq_true rfl) rfl ?_
  intro p e s m args below meth c A C hr hk
  refine pt_aload (pc' := 2) C dL_share_0 rfl 4 rfl ?_
  refine pt_iconst (pc' := 3) C dL_share_2 rfl (v := 0) (by decide) ?_
  refine pt_aload_n (pc' := 4) C dL_share_3 rfl 0 rfl ?_
  refine pt_iload_n (pc' := 5) C dL_share_4 rfl 1 rfl ?_
  refine pt_iload_n (pc' := 6) C dL_share_5 rfl 2 rfl ?_
  refine pt_iload_n (pc' := 7) C dL_share_6 rfl 3 rfl ?_
  refine pt_cvIE (pc' := 10) (wf := fun (u : SX) => wX cA aX aB aT aN aG aW aD aO aV g t mk ++ wB cA aB n k bs wl fd kd sz lk ++ wB cA aT u.1 u.2.1 u.2.2.1 u.2.2.2.1 u.2.2.2.2.1 u.2.2.2.2.2.1 u.2.2.2.2.2.2.1 u.2.2.2.2.2.2.2.1 ++ wS cA aG u.2.2.2.2.2.2.2.2.1 u.2.2.2.2.2.2.2.2.2.1 u.2.2.2.2.2.2.2.2.2.2.1 u.2.2.2.2.2.2.2.2.2.2.2.1 u.2.2.2.2.2.2.2.2.2.2.2.2.1 u.2.2.2.2.2.2.2.2.2.2.2.2.2 ++ wW cA aW td he si ++ wD cA aD dr db du df dw ++ [arL cL ou fo]) (wr := [arL cL ou fo]) (As := [.int (nI b), .int (nI q), .int (nI f)]) (rest := [.int 0, .ref ou]) C.sub0 (mX6_share l D cA aX aB aT aN aG aW aD aO aV g t mk n k bs wl fd kd sz lk tn tq tbs twl tfd tkd tsz tlk gsd gse gsc gba gpa gch td he si dr db du df dw b q f o hn hm hg hS hr2 hD hf hok1 hok2 hok3 hq hb hok4 hok5 ho ho2 hpc) (cwV 3 C.hts gL_share_X6_share rfl rfl rfl (by decide +kernel) ⟨Nat.le_of_ble_eq_true rfl, Nat.le_of_ble_eq_true rfl⟩) dL_share_7 rfl 0 rfl rfl rfl rfl rfl (Nat.le_of_ble_eq_true rfl) ⟨Nat.le_of_ble_eq_true rfl, Nat.le_of_ble_eq_true rfl⟩ [0, 1, 2, 3, 4, 5, 6, 7, 8, 9, 10, 11, 12, 13, 14, 15, 16, 17, 18, 19, 20, 21, 22, 23, 24, 25, 26, 27, 28, 29, 30] [31] [1, 2, 3, 4, 5, 6, 7, 8, 9, 10, 11, 12, 13, 14, 15, 16, 17, 18, 19, 20, 21, 22, 23, 24, 25, 26, 27, 28, 29, 30, 31, 0] rfl (by decide) rfl (by decide) (by decide) (fun _ => rfl) (by decide) (fun u => ?_)
  refine pt_i2l (pc' := 11) C dL_share_10 rfl ?_
  refine pt_last (pc' := 12) (ws' := wX cA aX aB aT aN aG aW aD aO aV g t mk ++ wB cA aB n k bs wl fd kd sz lk ++ wB cA aT u.1 u.2.1 u.2.2.1 u.2.2.2.1 u.2.2.2.2.1 u.2.2.2.2.2.1 u.2.2.2.2.2.2.1 u.2.2.2.2.2.2.2.1 ++ wS cA aG u.2.2.2.2.2.2.2.2.1 u.2.2.2.2.2.2.2.2.2.1 u.2.2.2.2.2.2.2.2.2.2.1 u.2.2.2.2.2.2.2.2.2.2.2.1 u.2.2.2.2.2.2.2.2.2.2.2.2.1 u.2.2.2.2.2.2.2.2.2.2.2.2.2 ++ wW cA aW td he si ++ wD cA aD dr db du df dw ++ [arL cL ou (vp_updL fo 0 (itz (shS (fun x => liX n k bs wl fd kd sz lk he si dr db du df dw g x f) o b) (o + 1) 0).toInt64)]) C dL_share_11 rfl 31 rfl rfl ?_
  refine pt_goto (pc' := 19) C dL_share_12 (by decide) ?_
  refine pt_iconst (pc' := 20) C dL_share_19 rfl (v := 0) (by decide) ?_
  exact pt_iretE C hr hk dL_share_20 rfl rfl u rfl
section PT
variable {p : Program} {l : Launch} {e : Env} {R : Room} {s : State} {m : MethodId} {args : Array Value} {below : List Frame} {meth : Method} {c : Code} {Q : State → Prop}
variable {cc : ByteArray} {nL cells slots pc pc' : Nat} {Ts : List Cond} {own : String} {D : va_G} {A : Nat → Prop} {ws ws' : va_W} {lv lv' : List (Nat × Value)} {st rest : List Value} {tys : List (ClassId × FieldType)}
variable {y : MethodName} {wy : List Cond} {rm : Room} {As : List Value} {r : Int32} {w0 wr : va_W} {index maxL n : Nat} {bytes : ByteArray} {ret : Option FieldType} {hh : List (Nat × Nat × Nat × Nat)}
/-- a static method over a table of handlers -/
theorem pt_csIW (C : pt_C p s m args c cc nL Ts own D tys A) {S : Type} {w1 wf : S → va_W} (hM : mt_IE l y wy rm D tys As w0 r w1) (cw : vx_CSW R s args own index y bytes maxL ret hh wy rm 0 0 n) (hd : decode cc pc = .ok (.invokestatic index, 3)) (hpc : pc + 3 = pc') (hn : As.length = n) (hst : st = As.reverse ++ rest) (hW : (rest.map fun v => v.category).sum ≤ 8) (hcs : cells ≤ R.cells ∧ slots ≤ R.slots)
    (isC isR isF : List Nat) (hC : isC.map (fun i => ws[i]?) = w0.map some) (hnC : va_nd isC = true) (hR : isR.map (fun i => ws[i]?) = wr.map some) (hnR : va_nd isR = true) (hdis : ∀ i ∈ isR, i ∉ isC) (hF : ∀ u, isF.map (fun i => (wr ++ w1 u)[i]?) = (wf u).map some) (hnF : va_nd isF = true)
    (K : ∀ u : S, pt_P p l e R s m args below meth c D A nL Q cells slots pc' (wf u) lv (.int r :: rest)) : pt_P p l e R s m args below meth c D A nL Q cells slots pc ws lv st := by
  subst hpc; subst hst
  intro H locs ls hP hD hS h
  have hP0 := hP.sub isC (pt_fm hC)
  have hD0 := hD.sub isC hnC hC
  have hfr := va_free hD hS C.2.2.2.2.2.2 isC hC
  refine va_calli (vx_runSW (As := As) (rest := rest) ⟨C.1, C.2.1, C.2.2.1, C.2.2.2.1, C.hts⟩ (hM H.size) cw ⟨mt_blind, mt_pre C.2.2.2.2.2.1 hP0 hD0⟩ rfl hn h.1 rfl (lv_room hW) hd hcs) hS (fun q _ hq => hfr q hq) hfr (fun r' u t H1 locs1 ht hvm hr hB hz hk hS1 => ?_)
  obtain ⟨hP1, -, hD1⟩ := hB
  rw [ht] at hP1
  obtain ⟨hP2, hD2⟩ := pt_after hP hD hS C.2.2.2.2.2.2 isC isR isF hC hR hnR hdis (hF u) hnF hk hP1 hD1
  rw [hr]
  exact K u H1 locs1 ls hP2 hD2 hS1 h
/-- .. one that has caught: a cell more, and its six slots -/
theorem pt_csL (C : pt_C p s m args c cc nL Ts own D tys A) {k9 n9 : Nat} (hM : mt_L l y wy rm D tys As w0 r) (cw : vx_CSW R s args own index y bytes maxL ret hh wy rm 1 6 n) (hd : decode cc pc = .ok (.invokestatic index, 3)) (hpc : pc + 3 = pc') (hn : As.length = n) (hst : st = As.reverse ++ rest) (hW : (rest.map fun v => v.category).sum ≤ 8) (hcs : cells + 1 ≤ R.cells ∧ slots + 6 ≤ R.slots) (h9 : cells + 1 = k9 ∧ slots + 6 = n9) (hT : thW s) (hZ : thS A s)
    (isC isR isF : List Nat) (hC : isC.map (fun i => ws[i]?) = w0.map some) (hnC : va_nd isC = true) (hR : isR.map (fun i => ws[i]?) = wr.map some) (hnR : va_nd isR = true) (hdis : ∀ i ∈ isR, i ∉ isC) (hF : isF.map (fun i => (wr ++ w0)[i]?) = ws'.map some) (hnF : va_nd isF = true)
    (K : pt_P p l e R s m args below meth c D A nL Q k9 n9 pc' ws' lv (.int r :: rest)) : pt_P p l e R s m args below meth c D A nL Q cells slots pc ws lv st := by
  obtain ⟨rfl, rfl⟩ := h9
  subst hpc; subst hst
  intro H locs ls hP hD hS h
  have hP0 := hP.sub isC (pt_fm hC)
  have hD0 := hD.sub isC hnC hC
  have hfr := va_free hD hS C.2.2.2.2.2.2 isC hC
  have hbl : FrameBlind (va_Pc As (fun U => mt_Pc D tys H.size w0 U ∧ thW U ∧ thS (va_A w0 H.size) U)) := fun a U g mk q => ⟨q.1, ⟨q.2.1.1, q.2.1.2.1, va_K.moved (u := U) (U := U.calling g mk a) (Vm.Alike.refl U.vm) q.2.1.2.2.1, q.2.1.2.2.2⟩, thW_ok.1 U _ rfl q.2.2.1, thS.same (u := U) (U := U.calling g mk a) (Vm.Alike.refl U.vm) rfl q.2.2.2⟩
  refine va_calli (vx_runSW (As := As) (rest := rest) ⟨C.1, C.2.1, C.2.2.1, C.2.2.2.1, C.hts⟩ (hM H.size) cw ⟨hbl, fun U hU hW2 => ⟨rfl, ⟨by rw [hU], by rw [hU]; exact hP0, va_K.moved hW2.alike C.2.2.2.2.2.1, hD0.weaken (fun _ _ _ _ => trivial)⟩, thW_ok.2 s U hW2 hT, hZ.call hS hfr U hU hW2⟩⟩ rfl hn h.1 rfl (lv_room hW) hd hcs) hS (fun q _ hq => hfr q hq) hfr (fun r' u t H1 locs1 ht hvm hr hB hz hk hS1 => ?_)
  obtain ⟨hP1, -, hD1⟩ := hB
  rw [ht] at hP1
  obtain ⟨hP2, hD2⟩ := pt_after hP hD hS C.2.2.2.2.2.2 isC isR isF hC hR hnR hdis hF hnF hk hP1 hD1
  rw [hr]
  exact K H1 locs1 ls hP2 hD2 hS1 h
/-- the script: its length, one of its ints, and one that a call takes -/
theorem pt_slen (C : pt_C p s m args c cc nL Ts own D tys A) {b L : Nat} {xs : Nat → Int32} (hX : va_X b L xs s s.heap) (hbl : b < s.heap.size) (hbA : ¬ A b) (hd : decode cc pc = .ok (.arraylength, 1)) (hpc : pc + 1 = pc') (K : pt_P p l e R s m args below meth c D A nL Q cells slots pc' ws lv (.int (nI L) :: rest)) : pt_P p l e R s m args below meth c D A nL Q cells slots pc ws lv (.ref b :: rest) := by
  subst hpc; exact fun H locs ls hP hD hS h => va_slen C.1 C.2.1 hX hbl hbA hS hd (K H locs ls hP hD hS h)
theorem pt_sld (C : pt_C p s m args c cc nL Ts own D tys A) {b L : Nat} {xs : Nat → Int32} (hX : va_X b L xs s s.heap) (hbl : b < s.heap.size) (hbA : ¬ A b) {i : Nat} (hi : i < L) (hL : L ≤ 2560) (hd : decode cc pc = .ok (.iaload, 1)) (hpc : pc + 1 = pc') (K : pt_P p l e R s m args below meth c D A nL Q cells slots pc' ws lv (.int (xs i) :: rest)) : pt_P p l e R s m args below meth c D A nL Q cells slots pc ws lv (.int (nI i) :: .ref b :: rest) := by
  subst hpc
  intro H locs ls hP hD hS h
  refine va_sld C.1 C.2.1 hX hbl hbA hS (vp_in_nI hi (by omega)) hd ?_
  rw [nI_clamp (by omega)]
  exact K H locs ls hP hD hS h
theorem pt_arg (C : pt_C p s m args c cc nL Ts own D tys A) {b L j c0 : Nat} {ci : Int} {xs : Nat → Int32} (hX : va_X b L xs s s.heap) (hbl : b < s.heap.size) (hbA : ¬ A b) (hj : 5 * j + 5 ≤ L) (hc : c0 < 5) (hL : L ≤ 2560) (hci : Int32.ofInt ci = nI c0) (i0 i4 : Nat) (h0 : lv[i0]? = some (0, .ref b)) (h4 : lv[i4]? = some (4, .int (nI (5 * j))))
    (d0 : decode cc pc = .ok (.aload_n 0, 1)) (d1 : decode cc (pc + 1) = .ok (.iload 4, 2)) (d2 : decode cc (pc + 3) = .ok (.iconst ci, 1)) (d3 : decode cc (pc + 4) = .ok (.iadd, 1)) (d4 : decode cc (pc + 5) = .ok (.iaload, 1)) (hpc : pc + 6 = pc') (K : pt_P p l e R s m args below meth c D A nL Q cells slots pc' ws lv (.int (xs (5 * j + c0)) :: st)) : pt_P p l e R s m args below meth c D A nL Q cells slots pc ws lv st := by
  subst hpc
  refine pt_aload_n (pc' := pc + 1) C d0 rfl i0 h0 ?_
  refine pt_iload (pc' := pc + 3) C d1 rfl i4 h4 ?_
  refine pt_iconst (pc' := pc + 4) C d2 rfl (v := nI c0) hci ?_
  refine pt_iadd (pc' := pc + 5) C d3 rfl ?_
  rw [nI_add]
  exact pt_sld (pc' := pc + 6) C hX hbl hbA (show 5 * j + c0 < L by omega) hL d4 rfl K
end PT
/-- the law's world: class, model, out -/
abbrev wLw (cA cL : ClassId) (aX aB aT aN aG aW aD aO aV aM : Nat → Nat) (ou : Nat) (n : Nat) (k : Int32) (g : Nat) (t : Int32) (td dr wk sv : Nat) (P : Nat → Nat → Int32) (sz lk sd se sc ba pa ch : Nat → Int32) (T : SX) (th : Int32) (M : S7) (fo : Nat → Int64) : va_W :=
  wX cA aX aB aT aN aG aW aD aO aV g t (P 16) ++ wB cA aB n k (P 0) (P 4) (P 5) (P 1) sz lk ++ wB cA aT T.1 T.2.1 T.2.2.1 T.2.2.2.1 T.2.2.2.2.1 T.2.2.2.2.2.1 T.2.2.2.2.2.2.1 T.2.2.2.2.2.2.2.1 ++ wS cA aN sd se sc ba pa ch ++ wS cA aG T.2.2.2.2.2.2.2.2.1 T.2.2.2.2.2.2.2.2.2.1 T.2.2.2.2.2.2.2.2.2.2.1 T.2.2.2.2.2.2.2.2.2.2.2.1 T.2.2.2.2.2.2.2.2.2.2.2.2.1 T.2.2.2.2.2.2.2.2.2.2.2.2.2 ++ wW cA aW td (P 6) (P 7) ++ wD cA aD dr (P 8) (P 9) (P 10) (P 11) ++ wO cA aO wk (P 12) (P 13) (P 14) (P 15) ++ wV cA aV sv (P 17) (P 18) (P 19) (P 20) ++ wM cA aM th n t k td g dr wk sv P M.1 M.2.1 M.2.2.1 M.2.2.2.1 M.2.2.2.2.1 M.2.2.2.2.2.1 M.2.2.2.2.2.2 ++ [arL cL ou fo]
abbrev lwIP (n : Nat) (k : Int32) (g : Nat) (t : Int32) (td dr wk sv : Nat) (P : Nat → Nat → Int32) (sz lk sd se sc ba pa : Nat → Int32) : Prop := lwI n k g t td dr wk sv (P 0) (P 1) (P 2) (P 3) (P 4) (P 5) (P 6) (P 7) (P 8) (P 9) (P 10) (P 11) (P 13) (P 14) (P 17) sz lk sd se sc ba pa
/-- the law goes on at a place, in any world that the invariant allows -/
def lwK (p : Program) (l : Launch) (e : Env) (s : State) (m : MethodId) (args : Array Value) (below : List Frame) (meth : Method) (c : Code) (D : va_G) (A : Nat → Prop) (Q : State → Prop) (cA cL : ClassId) (aX aB aT aN aG aW aD aO aV aM : Nat → Nat) (ou b j : Nat) (cells slots pc : Nat) : Prop :=
  ∀ (n : Nat) (k : Int32) (g : Nat) (t : Int32) (td dr wk sv : Nat) (P : Nat → Nat → Int32) (sz lk sd se sc ba pa ch : Nat → Int32) (T : SX) (th : Int32) (M : S7) (fo : Nat → Int64), lwIP n k g t td dr wk sv P sz lk sd se sc ba pa →
    pt_P p l e room_1 s m args below meth c D A 7 Q cells slots pc (wLw cA cL aX aB aT aN aG aW aD aO aV aM ou n k g t td dr wk sv P sz lk sd se sc ba pa ch T th M fo) [(4, .int (nI (5 * j))), (3, .ref ou), (2, .ref (aM 0)), (1, .ref (aX 0)), (0, .ref b)] []
