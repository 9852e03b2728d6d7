set_option maxHeartbeats 4000000 in
set_option maxRecDepth 100000 in
theorem mX6_fits (l : Launch) (D : va_G) (cA : ClassId) (aX : Nat → Nat) (aB : Nat → Nat) (aT : Nat → Nat) (aN : Nat → Nat) (aG : Nat → Nat) (aW : Nat → Nat) (aD : Nat → Nat) (aO : Nat → Nat) (aV : Nat → Nat) (g : Nat) (t : Int32) (mk : Nat → Int32) (n : Nat) (k : Int32) (bs : Nat → Int32) (wl : Nat → Int32) (fd : Nat → Int32) (kd : Nat → Int32) (sz : Nat → Int32) (lk : Nat → Int32) (tn : Nat) (tq : Int32) (tbs : Nat → Int32) (twl : Nat → Int32) (tfd : Nat → Int32) (tkd : Nat → Int32) (tsz : Nat → Int32) (tlk : Nat → Int32) (gsd : Nat → Int32) (gse : Nat → Int32) (gsc : Nat → Int32) (gba : Nat → Int32) (gpa : Nat → Int32) (gch : Nat → Int32) (td : Nat) (he : Nat → Int32) (si : Nat → Int32) (dr : Nat) (db : Nat → Int32) (du : Nat → Int32) (df : Nat → Int32) (dw : Nat → Int32) (sv : Nat) (vf : Nat → Int32) (vw : Nat → Int32) (vl : Nat → Int32) (vm : Nat → Int32) (hn : 2 ≤ n) (hm : n ≤ 12) (ht : td ≤ 120) (hS : ∀ w, w < td → si w = 0 ∨ si w = 1 ∨ si w = 2) (hr2 : dr ≤ 20) (hD : ∀ i, i < dr → dOk db df i) (hv : sv ≤ 20) (hV : ∀ i, i < sv → vf i = nI (vf i).toNatClampNeg ∧ (vf i).toNatClampNeg < 12) : mt_IE l yX6_fits wsX6_fits { frames := 7, cells := 0, slots := 0, locals := 197 } D [(cA, .int)] [.ref (aX 0)] (wX cA aX aB aT aN aG aW aD aO aV g t mk ++ wB cA aB n k bs wl fd kd sz lk ++ wB cA aT tn tq tbs twl tfd tkd tsz tlk ++ wS cA aG gsd gse gsc gba gpa gch ++ wW cA aW td he si ++ wD cA aD dr db du df dw ++ wV cA aV sv vf vw vl vm) (itf (ftS (kfX n bs wl fd kd sz lk td he si dr db du df dw sv vf vw vl vm)) 1 9 0) (fun u : SX => wX cA aX aB aT aN aG aW aD aO aV g t mk ++ wB cA aB n k bs wl fd kd sz lk ++ wB cA aT u.1 u.2.1 u.2.2.1 u.2.2.2.1 u.2.2.2.2.1 u.2.2.2.2.2.1 u.2.2.2.2.2.2.1 u.2.2.2.2.2.2.2.1 ++ wS cA aG u.2.2.2.2.2.2.2.2.1 u.2.2.2.2.2.2.2.2.2.1 u.2.2.2.2.2.2.2.2.2.2.1 u.2.2.2.2.2.2.2.2.2.2.2.1 u.2.2.2.2.2.2.2.2.2.2.2.2.1 u.2.2.2.2.2.2.2.2.2.2.2.2.2 ++ wW cA aW td he si ++ wD cA aD dr db du df dw ++ wV cA aV sv vf vw vl vm) := by
  refine mt_ofIE (cc := cX6_fits) (maxL := 3) (ret := (some .int)) (lv := [(0, .ref (aX 0))]) (by decide) rfl (Nat.le_of_ble_eq_true rfl) rfl ?_
  intro p e s m args below meth c A C hr hk
  refine pt_iconst (pc' := 1) C dX6_fits_0 rfl (v := 0) (by decide) ?_
  refine pt_istore_n (pc' := 2) (lv' := [(1, .int 0), (0, .ref (aX 0))]) C dX6_fits_1 rfl rfl (by decide) rfl ?_
  refine pt_iconst (pc' := 3) C dX6_fits_2 rfl (v := 1) (by decide) ?_
  refine pt_istore_n (pc' := 4) (lv' := [(2, .int 1), (1, .int 0), (0, .ref (aX 0))]) C dX6_fits_3 rfl rfl (by decide) rfl ?_
  refine pt_cv (ws' := wX cA aX aB aT aN aG aW aD aO aV g t mk ++ wB cA aB n k bs wl fd kd sz lk ++ wB cA aT tn tq tbs twl tfd tkd tsz tlk ++ wS cA aG gsd gse gsc gba gpa gch ++ wW cA aW td he si ++ wD cA aD dr db du df dw ++ wV cA aV sv vf vw vl vm) (lv' := [(2, .int (nI (1 + 0))), (1, .int (itf (ftS (kfX n bs wl fd kd sz lk td he si dr db du df dw sv vf vw vl vm)) 1 0 0)), (0, .ref (aX 0))]) (rfl) [0, 1, 2] (rfl) rfl ?_
  refine pt_forE (wsf := fun j (u : SX) => wX cA aX aB aT aN aG aW aD aO aV g t mk ++ wB cA aB n k bs wl fd kd sz lk ++ wB cA aT u.1 u.2.1 u.2.2.1 u.2.2.2.1 u.2.2.2.2.1 u.2.2.2.2.2.1 u.2.2.2.2.2.2.1 u.2.2.2.2.2.2.2.1 ++ wS cA aG u.2.2.2.2.2.2.2.2.1 u.2.2.2.2.2.2.2.2.2.1 u.2.2.2.2.2.2.2.2.2.2.1 u.2.2.2.2.2.2.2.2.2.2.2.1 u.2.2.2.2.2.2.2.2.2.2.2.2.1 u.2.2.2.2.2.2.2.2.2.2.2.2.2 ++ wW cA aW td he si ++ wD cA aD dr db du df dw ++ wV cA aV sv vf vw vl vm) (lvf := fun j => [(2, .int (nI (1 + j))), (1, .int (itf (ftS (kfX n bs wl fd kd sz lk td he si dr db du df dw sv vf vw vl vm)) 1 j 0)), (0, .ref (aX 0))]) (I := fun j => True) 9 (trivial) (fun hi_4 u_4 => ?_) (fun j hj_4 hi_4 ih_4 u_4 => ?_) (tn, tq, tbs, twl, tfd, tkd, tsz, tlk, gsd, gse, gsc, gba, gpa, gch)
  rotate_left
  · refine pt_iload_n (pc' := 5) C dX6_fits_4 rfl 0 rfl ?_
    refine pt_bipush (pc' := 7) C dX6_fits_5 rfl (v := 9) (by decide) ?_
    refine pt_icmp_gt (pc' := 10) (tgt := 32) C dX6_fits_7 (by decide) rfl (fun h_7 => absurd h_7 (nI_nlt (show 1 + j ≤ 9 by omega) (by decide))) (fun h_7 => ?_)
    refine pt_aload_n (pc' := 11) C dX6_fits_10 rfl 2 rfl ?_
    refine pt_iload_n (pc' := 12) C dX6_fits_11 rfl 0 rfl ?_
    refine pt_cvIE (pc' := 15) (wf := fun (u_12 : S6) => wX cA aX aB aT aN aG aW aD aO aV g t mk ++ wB cA aB n k bs wl fd kd sz lk ++ wB cA aT n (nI (1 + j)) bs wl fd kd sz lk ++ wS cA aG u_12.1 u_12.2.1 u_12.2.2.1 u_12.2.2.2.1 u_12.2.2.2.2.1 u_12.2.2.2.2.2 ++ wW cA aW td he si ++ wD cA aD dr db du df dw ++ wV cA aV sv vf vw vl vm) (wr := []) (As := [.int (nI (1 + j))]) (rest := []) C (mX6_agreesWithSurveys l D cA aX aB aT aN aG aW aD aO aV g t mk n k bs wl fd kd sz lk u_4.1 u_4.2.1 u_4.2.2.1 u_4.2.2.2.1 u_4.2.2.2.2.1 u_4.2.2.2.2.2.1 u_4.2.2.2.2.2.2.1 u_4.2.2.2.2.2.2.2.1 u_4.2.2.2.2.2.2.2.2.1 u_4.2.2.2.2.2.2.2.2.2.1 u_4.2.2.2.2.2.2.2.2.2.2.1 u_4.2.2.2.2.2.2.2.2.2.2.2.1 u_4.2.2.2.2.2.2.2.2.2.2.2.2.1 u_4.2.2.2.2.2.2.2.2.2.2.2.2.2 td he si dr db du df dw sv vf vw vl vm (nI (1 + j)) (hn) (hm) (ht) (hS) (hr2) (hD) (hv) (hV)) (cwV 1 C.hts gX6_fits_X6_agreesWithSurveys rfl rfl rfl (by decide +kernel) ⟨Nat.le_of_ble_eq_true rfl, Nat.le_of_ble_eq_true rfl⟩) dX6_fits_12 rfl 0 rfl rfl rfl rfl rfl (Nat.le_of_ble_eq_true rfl) ⟨Nat.le_of_ble_eq_true rfl, Nat.le_of_ble_eq_true rfl⟩ [0, 1, 2, 3, 4, 5, 6, 7, 8, 9, 10, 11, 12, 13, 14, 15, 16, 17, 18, 19, 20, 21, 22, 23, 24, 25, 26, 27, 28, 29, 30, 31, 32, 33, 34, 35] [] [0, 1, 2, 3, 4, 5, 6, 7, 8, 9, 10, 11, 12, 13, 14, 15, 16, 17, 18, 19, 20, 21, 22, 23, 24, 25, 26, 27, 28, 29, 30, 31, 32, 33, 34, 35] rfl (by decide) rfl (by decide) (by decide) (fun _ => rfl) (by decide) (fun u_12 => ?_)
    refine pt_if_eq (pc' := 18) (tgt := 26) C dX6_fits_15 (by decide) rfl (fun h_15 => ?_) (fun h_15 => ?_)
    · refine pt_iinc (pc' := 29) (v := nI (1 + (j + 1))) (lv' := [(2, .int (nI (1 + (j + 1)))), (1, .int (itf (ftS (kfX n bs wl fd kd sz lk td he si dr db du df dw sv vf vw vl vm)) 1 j 0)), (0, .ref (aX 0))]) C dX6_fits_26 rfl 0 rfl (nI_1 _) (by decide) rfl ?_
      refine pt_goto (pc' := 4) C dX6_fits_29 (by decide) ?_
      exact pt_cv (rfl) [0, 1, 2] (by simp only [itf_s, ftS, if_pos (show bI ((kfX n bs wl fd kd sz lk td he si dr db du df dw sv vf vw vl vm) (nI (1 + j))) = 0 from h_15)]; rfl) rfl (ih_4 (trivial) (n, (nI (1 + j)), bs, wl, fd, kd, sz, lk, u_12.1, u_12.2.1, u_12.2.2.1, u_12.2.2.2.1, u_12.2.2.2.2.1, u_12.2.2.2.2.2))
    · refine pt_iload_n (pc' := 19) C dX6_fits_18 rfl 1 rfl ?_
      refine pt_iconst (pc' := 20) C dX6_fits_19 rfl (v := 1) (by decide) ?_
      refine pt_iload_n (pc' := 21) C dX6_fits_20 rfl 0 rfl ?_
      refine pt_iconst (pc' := 22) C dX6_fits_21 rfl (v := 1) (by decide) ?_
      refine pt_isub (pc' := 23) C dX6_fits_22 rfl ?_
      refine pt_ishl (pc' := 24) C dX6_fits_23 rfl ?_
      refine pt_ior (pc' := 25) C dX6_fits_24 rfl ?_
      refine pt_istore_n (pc' := 26) (lv' := [(1, .int ((itf (ftS (kfX n bs wl fd kd sz lk td he si dr db du df dw sv vf vw vl vm)) 1 j 0) ||| (1 <<< (((nI (1 + j)) - 1) &&& 31)))), (2, .int (nI (1 + j))), (0, .ref (aX 0))]) C dX6_fits_25 rfl rfl (by decide) rfl ?_
      refine pt_iinc (pc' := 29) (v := nI (1 + (j + 1))) (lv' := [(2, .int (nI (1 + (j + 1)))), (1, .int ((itf (ftS (kfX n bs wl fd kd sz lk td he si dr db du df dw sv vf vw vl vm)) 1 j 0) ||| (1 <<< (((nI (1 + j)) - 1) &&& 31)))), (0, .ref (aX 0))]) C dX6_fits_26 rfl 1 rfl (nI_1 _) (by decide) rfl ?_
      refine pt_goto (pc' := 4) C dX6_fits_29 (by decide) ?_
      exact pt_cv (rfl) [0, 1, 2] (by simp only [itf_s, ftS, if_neg (show ¬ bI ((kfX n bs wl fd kd sz lk td he si dr db du df dw sv vf vw vl vm) (nI (1 + j))) = 0 from h_15)]; rfl) rfl (ih_4 (trivial) (n, (nI (1 + j)), bs, wl, fd, kd, sz, lk, u_12.1, u_12.2.1, u_12.2.2.1, u_12.2.2.2.1, u_12.2.2.2.2.1, u_12.2.2.2.2.2))
  refine pt_iload_n (pc' := 5) C dX6_fits_4 rfl 0 rfl ?_
  refine pt_bipush (pc' := 7) C dX6_fits_5 rfl (v := 9) (by decide) ?_
  refine pt_icmp_gt (pc' := 10) (tgt := 32) C dX6_fits_7 (by decide) rfl (fun h_7 => ?_) (fun h_7 => absurd (nI_lt (show 9 < 1 + 9 by decide) (by decide)) h_7)
  refine pt_iload_n (pc' := 33) C dX6_fits_32 rfl 1 rfl ?_
  exact pt_iretE C hr hk dX6_fits_33 (rfl) (rfl) (u_4.1, u_4.2.1, u_4.2.2.1, u_4.2.2.2.1, u_4.2.2.2.2.1, u_4.2.2.2.2.2.1, u_4.2.2.2.2.2.2.1, u_4.2.2.2.2.2.2.2.1, u_4.2.2.2.2.2.2.2.2.1, u_4.2.2.2.2.2.2.2.2.2.1, u_4.2.2.2.2.2.2.2.2.2.2.1, u_4.2.2.2.2.2.2.2.2.2.2.2.1, u_4.2.2.2.2.2.2.2.2.2.2.2.2.1, u_4.2.2.2.2.2.2.2.2.2.2.2.2.2) (rfl)

set_option maxHeartbeats 4000000 in
set_option maxRecDepth 100000 in
theorem mX6_works (l : Launch) (D : va_G) (cA : ClassId) (aX : Nat → Nat) (aB : Nat → Nat) (aT : Nat → Nat) (aN : Nat → Nat) (aG : Nat → Nat) (aW : Nat → Nat) (aD : Nat → Nat) (aO : Nat → Nat) (aV : Nat → Nat) (g : Nat) (t : Int32) (mk : Nat → Int32) (n : Nat) (k : Int32) (bs : Nat → Int32) (wl : Nat → Int32) (fd : Nat → Int32) (kd : Nat → Int32) (sz : Nat → Int32) (lk : Nat → Int32) (tn : Nat) (tq : Int32) (tbs : Nat → Int32) (twl : Nat → Int32) (tfd : Nat → Int32) (tkd : Nat → Int32) (tsz : Nat → Int32) (tlk : Nat → Int32) (gsd : Nat → Int32) (gse : Nat → Int32) (gsc : Nat → Int32) (gba : Nat → Int32) (gpa : Nat → Int32) (gch : Nat → Int32) (td : Nat) (he : Nat → Int32) (si : Nat → Int32) (dr : Nat) (db : Nat → Int32) (du : Nat → Int32) (df : Nat → Int32) (dw : Nat → Int32) (wk : Nat) (ok : Nat → Int32) (op : Nat → Int32) (oa : Nat → Int32) (oc : Nat → Int32) (hn : 2 ≤ n) (hm : n ≤ 12) (ht : td ≤ 120) (hS : ∀ w, w < td → si w = 0 ∨ si w = 1 ∨ si w = 2) (hr2 : dr ≤ 20) (hD : ∀ i, i < dr → dOk db df i) (hw6 : wk ≤ 6) (ho : ∀ i, i < wk → ok i = 0 → op i = nI (op i).toNatClampNeg ∧ (op i).toNatClampNeg < 12) : mt_IE l yX6_works wsX6_works { frames := 7, cells := 0, slots := 0, locals := 198 } D [(cA, .int)] [.ref (aX 0)] (wX cA aX aB aT aN aG aW aD aO aV g t mk ++ wB cA aB n k bs wl fd kd sz lk ++ wB cA aT tn tq tbs twl tfd tkd tsz tlk ++ wS cA aG gsd gse gsc gba gpa gch ++ wW cA aW td he si ++ wD cA aD dr db du df dw ++ wO cA aO wk ok op oa oc) ((itz (wkB wk oc (kpX n k bs wl fd kd sz lk mk td he si dr db du df dw wk ok op oa)) (2 ^ wk) (-1, 0)).1) (fun u : SX => wX cA aX aB aT aN aG aW aD aO aV g t mk ++ wB cA aB n k bs wl fd kd sz lk ++ wB cA aT u.1 u.2.1 u.2.2.1 u.2.2.2.1 u.2.2.2.2.1 u.2.2.2.2.2.1 u.2.2.2.2.2.2.1 u.2.2.2.2.2.2.2.1 ++ wS cA aG u.2.2.2.2.2.2.2.2.1 u.2.2.2.2.2.2.2.2.2.1 u.2.2.2.2.2.2.2.2.2.2.1 u.2.2.2.2.2.2.2.2.2.2.2.1 u.2.2.2.2.2.2.2.2.2.2.2.2.1 u.2.2.2.2.2.2.2.2.2.2.2.2.2 ++ wW cA aW td he si ++ wD cA aD dr db du df dw ++ wO cA aO wk ok op oa oc) := by
  refine mt_ofIE (cc := cX6_works) (maxL := 6) (ret := (some .int)) (lv := [(0, .ref (aX 0))]) (by decide) rfl (Nat.le_of_ble_eq_true rfl) rfl ?_
  intro p e s m args below meth c A C hr hk
  have f_46 := C.hts (.fieldLink RX6 46 "ShoreFields" "workList" "LShoreFields$WorkList;") (by decide +kernel)
  have in_6 : ∀ w ∈ u_ws RX6 TX6 11, w ∈ wsX6_works := by decide +kernel
  have f_191 := C.hts (.fieldLink RX6 191 "ShoreFields$WorkList" "size" "I") (by decide +kernel)
  have in_5 : ∀ w ∈ u_ws RX5 TX5 5, w ∈ wsX6_works := by decide +kernel
  refine pt_iconst (pc' := 1) C dX6_works_0 rfl (v := -1) (by decide) ?_
  refine pt_istore_n (pc' := 2) (lv' := [(1, .int (-1)), (0, .ref (aX 0))]) C dX6_works_1 rfl rfl (by decide) rfl ?_
  refine pt_iconst (pc' := 3) C dX6_works_2 rfl (v := 0) (by decide) ?_
  refine pt_istore_n (pc' := 4) (lv' := [(2, .int 0), (1, .int (-1)), (0, .ref (aX 0))]) C dX6_works_3 rfl rfl (by decide) rfl ?_
  refine pt_iconst (pc' := 5) C dX6_works_4 rfl (v := 1) (by decide) ?_
  refine pt_aload_n (pc' := 6) C dX6_works_5 rfl 2 rfl ?_
  refine pt_get (pc' := 9) C in_6 dX6_works_6 rfl 0 6 rfl rfl (by decide) f_46 rfl ?_
  refine pt_get (pc' := 12) C in_5 dX6_works_9 rfl 31 0 rfl rfl (by decide) f_191 rfl ?_
  refine pt_ishl (pc' := 13) C dX6_works_12 rfl ?_
  refine pt_eq (st' := [.int (nI (2 ^ wk))]) rfl rfl (by rw [sh_pow hw6]) ?_
  refine pt_istore_n (pc' := 14) (lv' := [(3, .int (nI (2 ^ wk))), (2, .int 0), (1, .int (-1)), (0, .ref (aX 0))]) C dX6_works_13 rfl rfl (by decide) rfl ?_
  refine pt_iconst (pc' := 15) C dX6_works_14 rfl (v := 0) (by decide) ?_
  refine pt_istore (pc' := 17) (lv' := [(4, .int 0), (3, .int (nI (2 ^ wk))), (2, .int 0), (1, .int (-1)), (0, .ref (aX 0))]) C dX6_works_15 rfl (by decide) rfl ?_
  refine pt_cv (ws' := wX cA aX aB aT aN aG aW aD aO aV g t mk ++ wB cA aB n k bs wl fd kd sz lk ++ wB cA aT tn tq tbs twl tfd tkd tsz tlk ++ wS cA aG gsd gse gsc gba gpa gch ++ wW cA aW td he si ++ wD cA aD dr db du df dw ++ wO cA aO wk ok op oa oc) (lv' := [(4, .int (nI 0)), (3, .int (nI (2 ^ wk))), (2, .int ((itz (wkB wk oc (kpX n k bs wl fd kd sz lk mk td he si dr db du df dw wk ok op oa)) 0 (-1, 0)).2)), (1, .int ((itz (wkB wk oc (kpX n k bs wl fd kd sz lk mk td he si dr db du df dw wk ok op oa)) 0 (-1, 0)).1)), (0, .ref (aX 0))]) (rfl) [0, 1, 2, 3, 4] (rfl) rfl ?_
  refine pt_forE (wsf := fun j (u : SX) => wX cA aX aB aT aN aG aW aD aO aV g t mk ++ wB cA aB n k bs wl fd kd sz lk ++ wB cA aT u.1 u.2.1 u.2.2.1 u.2.2.2.1 u.2.2.2.2.1 u.2.2.2.2.2.1 u.2.2.2.2.2.2.1 u.2.2.2.2.2.2.2.1 ++ wS cA aG u.2.2.2.2.2.2.2.2.1 u.2.2.2.2.2.2.2.2.2.1 u.2.2.2.2.2.2.2.2.2.2.1 u.2.2.2.2.2.2.2.2.2.2.2.1 u.2.2.2.2.2.2.2.2.2.2.2.2.1 u.2.2.2.2.2.2.2.2.2.2.2.2.2 ++ wW cA aW td he si ++ wD cA aD dr db du df dw ++ wO cA aO wk ok op oa oc) (lvf := fun j => [(4, .int (nI j)), (3, .int (nI (2 ^ wk))), (2, .int ((itz (wkB wk oc (kpX n k bs wl fd kd sz lk mk td he si dr db du df dw wk ok op oa)) j (-1, 0)).2)), (1, .int ((itz (wkB wk oc (kpX n k bs wl fd kd sz lk mk td he si dr db du df dw wk ok op oa)) j (-1, 0)).1)), (0, .ref (aX 0))]) (I := fun j => True) (2 ^ wk) (trivial) (fun hi_17 u_17 => ?_) (fun j hj_17 hi_17 ih_17 u_17 => ?_) (tn, tq, tbs, twl, tfd, tkd, tsz, tlk, gsd, gse, gsc, gba, gpa, gch)
  rotate_left
  · have hp := pow_64 hw6
    refine pt_iload (pc' := 19) C dX6_works_17 rfl 0 rfl ?_
    refine pt_iload_n (pc' := 20) C dX6_works_19 rfl 1 rfl ?_
    refine pt_icmp_ge (pc' := 23) (tgt := 66) C dX6_works_20 (by decide) rfl (fun h_20 => absurd h_20 (nI_ge hj_17 (by omega))) (fun h_20 => ?_)
    refine pt_aload_n (pc' := 24) C dX6_works_23 rfl 4 rfl ?_
    refine pt_get (pc' := 27) C in_6 dX6_works_24 rfl 0 6 rfl rfl (by decide) f_46 rfl ?_
    refine pt_iload (pc' := 29) C dX6_works_27 rfl 0 rfl ?_
    refine pt_cvI (pc' := 32) (ws' := wX cA aX aB aT aN aG aW aD aO aV g t mk ++ wB cA aB n k bs wl fd kd sz lk ++ wB cA aT u_17.1 u_17.2.1 u_17.2.2.1 u_17.2.2.2.1 u_17.2.2.2.2.1 u_17.2.2.2.2.2.1 u_17.2.2.2.2.2.2.1 u_17.2.2.2.2.2.2.2.1 ++ wS cA aG u_17.2.2.2.2.2.2.2.2.1 u_17.2.2.2.2.2.2.2.2.2.1 u_17.2.2.2.2.2.2.2.2.2.2.1 u_17.2.2.2.2.2.2.2.2.2.2.2.1 u_17.2.2.2.2.2.2.2.2.2.2.2.2.1 u_17.2.2.2.2.2.2.2.2.2.2.2.2.2 ++ wW cA aW td he si ++ wD cA aD dr db du df dw ++ wO cA aO wk ok op oa oc) (wr := wX cA aX aB aT aN aG aW aD aO aV g t mk ++ wB cA aB n k bs wl fd kd sz lk ++ wB cA aT u_17.1 u_17.2.1 u_17.2.2.1 u_17.2.2.2.1 u_17.2.2.2.2.1 u_17.2.2.2.2.2.1 u_17.2.2.2.2.2.2.1 u_17.2.2.2.2.2.2.2.1 ++ wS cA aG u_17.2.2.2.2.2.2.2.2.1 u_17.2.2.2.2.2.2.2.2.2.1 u_17.2.2.2.2.2.2.2.2.2.2.1 u_17.2.2.2.2.2.2.2.2.2.2.2.1 u_17.2.2.2.2.2.2.2.2.2.2.2.2.1 u_17.2.2.2.2.2.2.2.2.2.2.2.2.2 ++ wW cA aW td he si ++ wD cA aD dr db du df dw) (As := [.int (nI j)]) (rest := []) C (mX5_priceOf l D cA aO wk ok op oa oc (nI j) (hw6)) (cwV 1 C.hts gX6_works_X5_priceOf rfl rfl rfl (by decide +kernel) ⟨Nat.le_of_ble_eq_true rfl, Nat.le_of_ble_eq_true rfl⟩) dX6_works_29 rfl 31 rfl rfl rfl rfl rfl (Nat.le_of_ble_eq_true rfl) ⟨Nat.le_of_ble_eq_true rfl, Nat.le_of_ble_eq_true rfl⟩ [31, 32, 33, 34, 35] [0, 1, 2, 3, 4, 5, 6, 7, 8, 9, 10, 11, 12, 13, 14, 15, 16, 17, 18, 19, 20, 21, 22, 23, 24, 25, 26, 27, 28, 29, 30] [0, 1, 2, 3, 4, 5, 6, 7, 8, 9, 10, 11, 12, 13, 14, 15, 16, 17, 18, 19, 20, 21, 22, 23, 24, 25, 26, 27, 28, 29, 30, 31, 32, 33, 34, 35] rfl (by decide) rfl (by decide) (by decide) rfl (by decide) ?_
    refine pt_istore (pc' := 34) (lv' := [(5, .int (itz (prS (nI j) oc) wk 0)), (4, .int (nI j)), (3, .int (nI (2 ^ wk))), (2, .int ((itz (wkB wk oc (kpX n k bs wl fd kd sz lk mk td he si dr db du df dw wk ok op oa)) j (-1, 0)).2)), (1, .int ((itz (wkB wk oc (kpX n k bs wl fd kd sz lk mk td he si dr db du df dw wk ok op oa)) j (-1, 0)).1)), (0, .ref (aX 0))]) C dX6_works_32 rfl (by decide) rfl ?_
    refine pt_iload_n (pc' := 35) C dX6_works_34 rfl 4 rfl ?_
    refine pt_iconst (pc' := 36) C dX6_works_35 rfl (v := -1) (by decide) ?_
    refine pt_icmp_eq (pc' := 39) (tgt := 45) C dX6_works_36 (by decide) rfl (fun h_36 => ?_) (fun h_36 => ?_)
    · refine pt_aload_n (pc' := 46) C dX6_works_45 rfl 5 rfl ?_
      refine pt_iload (pc' := 48) C dX6_works_46 rfl 1 rfl ?_
      refine pt_cvIE (pc' := 51) (wf := fun (u_48 : S6) => wX cA aX aB aT aN aG aW aD aO aV g t mk ++ wB cA aB n k bs wl fd kd sz lk ++ wB cA aT n k ((aoX (nI j) n kd ok op oa wk bs sz).1) wl fd kd ((aoX (nI j) n kd ok op oa wk bs sz).2) lk ++ wS cA aG u_48.1 u_48.2.1 u_48.2.2.1 u_48.2.2.2.1 u_48.2.2.2.2.1 u_48.2.2.2.2.2 ++ wW cA aW td he si ++ wD cA aD dr db du df dw ++ wO cA aO wk ok op oa oc) (wr := []) (As := [.int (nI j)]) (rest := []) C (mX6_keepsMarks l D cA aX aB aT aN aG aW aD aO aV g t mk n k bs wl fd kd sz lk u_17.1 u_17.2.1 u_17.2.2.1 u_17.2.2.2.1 u_17.2.2.2.2.1 u_17.2.2.2.2.2.1 u_17.2.2.2.2.2.2.1 u_17.2.2.2.2.2.2.2.1 u_17.2.2.2.2.2.2.2.2.1 u_17.2.2.2.2.2.2.2.2.2.1 u_17.2.2.2.2.2.2.2.2.2.2.1 u_17.2.2.2.2.2.2.2.2.2.2.2.1 u_17.2.2.2.2.2.2.2.2.2.2.2.2.1 u_17.2.2.2.2.2.2.2.2.2.2.2.2.2 td he si dr db du df dw wk ok op oa oc (nI j) (hn) (hm) (ht) (hS) (hr2) (hD) (hw6) (ho)) (cwV 1 C.hts gX6_works_X6_keepsMarks rfl rfl rfl (by decide +kernel) ⟨Nat.le_of_ble_eq_true rfl, Nat.le_of_ble_eq_true rfl⟩) dX6_works_48 rfl 0 rfl rfl rfl rfl rfl (Nat.le_of_ble_eq_true rfl) ⟨Nat.le_of_ble_eq_true rfl, Nat.le_of_ble_eq_true rfl⟩ [0, 1, 2, 3, 4, 5, 6, 7, 8, 9, 10, 11, 12, 13, 14, 15, 16, 17, 18, 19, 20, 21, 22, 23, 24, 25, 26, 27, 28, 29, 30, 31, 32, 33, 34, 35] [] [0, 1, 2, 3, 4, 5, 6, 7, 8, 9, 10, 11, 12, 13, 14, 15, 16, 17, 18, 19, 20, 21, 22, 23, 24, 25, 26, 27, 28, 29, 30, 31, 32, 33, 34, 35] rfl (by decide) rfl (by decide) (by decide) (fun _ => rfl) (by decide) (fun u_48 => ?_)
      refine pt_if_eq (pc' := 54) (tgt := 60) C dX6_works_51 (by decide) rfl (fun h_51 => ?_) (fun h_51 => ?_)
      · refine pt_iinc (pc' := 63) (v := nI (j + 1)) (lv' := [(4, .int (nI (j + 1))), (5, .int (itz (prS (nI j) oc) wk 0)), (3, .int (nI (2 ^ wk))), (2, .int ((itz (wkB wk oc (kpX n k bs wl fd kd sz lk mk td he si dr db du df dw wk ok op oa)) j (-1, 0)).2)), (1, .int ((itz (wkB wk oc (kpX n k bs wl fd kd sz lk mk td he si dr db du df dw wk ok op oa)) j (-1, 0)).1)), (0, .ref (aX 0))]) C dX6_works_60 rfl 1 rfl (nI_1 _) (by decide) rfl ?_
        refine pt_goto (pc' := 17) C dX6_works_63 (by decide) ?_
        exact pt_cv (rfl) [0, 2, 3, 4, 5] (by simp only [itz_s, wkB, if_pos h_36, if_pos (show bI ((kpX n k bs wl fd kd sz lk mk td he si dr db du df dw wk ok op oa) (nI j)) = 0 from h_51)]; rfl) rfl (ih_17 (trivial) (n, k, (aoX (nI j) n kd ok op oa wk bs sz).1, wl, fd, kd, (aoX (nI j) n kd ok op oa wk bs sz).2, lk, u_48.1, u_48.2.1, u_48.2.2.1, u_48.2.2.2.1, u_48.2.2.2.2.1, u_48.2.2.2.2.2))
      · refine pt_iload (pc' := 56) C dX6_works_54 rfl 1 rfl ?_
        refine pt_istore_n (pc' := 57) (lv' := [(1, .int (nI j)), (5, .int (itz (prS (nI j) oc) wk 0)), (4, .int (nI j)), (3, .int (nI (2 ^ wk))), (2, .int ((itz (wkB wk oc (kpX n k bs wl fd kd sz lk mk td he si dr db du df dw wk ok op oa)) j (-1, 0)).2)), (0, .ref (aX 0))]) C dX6_works_56 rfl rfl (by decide) rfl ?_
        refine pt_iload (pc' := 59) C dX6_works_57 rfl 1 rfl ?_
        refine pt_istore_n (pc' := 60) (lv' := [(2, .int (itz (prS (nI j) oc) wk 0)), (1, .int (nI j)), (5, .int (itz (prS (nI j) oc) wk 0)), (4, .int (nI j)), (3, .int (nI (2 ^ wk))), (0, .ref (aX 0))]) C dX6_works_59 rfl rfl (by decide) rfl ?_
        refine pt_iinc (pc' := 63) (v := nI (j + 1)) (lv' := [(4, .int (nI (j + 1))), (2, .int (itz (prS (nI j) oc) wk 0)), (1, .int (nI j)), (5, .int (itz (prS (nI j) oc) wk 0)), (3, .int (nI (2 ^ wk))), (0, .ref (aX 0))]) C dX6_works_60 rfl 3 rfl (nI_1 _) (by decide) rfl ?_
        refine pt_goto (pc' := 17) C dX6_works_63 (by decide) ?_
        exact pt_cv (rfl) [0, 4, 1, 2, 5] (by simp only [itz_s, wkB, if_pos h_36, if_neg (show ¬ bI ((kpX n k bs wl fd kd sz lk mk td he si dr db du df dw wk ok op oa) (nI j)) = 0 from h_51)]; rfl) rfl (ih_17 (trivial) (n, k, (aoX (nI j) n kd ok op oa wk bs sz).1, wl, fd, kd, (aoX (nI j) n kd ok op oa wk bs sz).2, lk, u_48.1, u_48.2.1, u_48.2.2.1, u_48.2.2.2.1, u_48.2.2.2.2.1, u_48.2.2.2.2.2))
    · refine pt_iload (pc' := 41) C dX6_works_39 rfl 0 rfl ?_
      refine pt_iload_n (pc' := 42) C dX6_works_41 rfl 3 rfl ?_
      refine pt_icmp_ge (pc' := 45) (tgt := 60) C dX6_works_42 (by decide) rfl (fun h_42 => ?_) (fun h_42 => ?_)
      · refine pt_iinc (pc' := 63) (v := nI (j + 1)) (lv' := [(4, .int (nI (j + 1))), (5, .int (itz (prS (nI j) oc) wk 0)), (3, .int (nI (2 ^ wk))), (2, .int ((itz (wkB wk oc (kpX n k bs wl fd kd sz lk mk td he si dr db du df dw wk ok op oa)) j (-1, 0)).2)), (1, .int ((itz (wkB wk oc (kpX n k bs wl fd kd sz lk mk td he si dr db du df dw wk ok op oa)) j (-1, 0)).1)), (0, .ref (aX 0))]) C dX6_works_60 rfl 1 rfl (nI_1 _) (by decide) rfl ?_
        refine pt_goto (pc' := 17) C dX6_works_63 (by decide) ?_
        exact pt_cv (rfl) [0, 2, 3, 4, 5] (by simp only [itz_s, wkB, if_neg h_36, if_pos h_42]; rfl) rfl (ih_17 (trivial) (u_17.1, u_17.2.1, u_17.2.2.1, u_17.2.2.2.1, u_17.2.2.2.2.1, u_17.2.2.2.2.2.1, u_17.2.2.2.2.2.2.1, u_17.2.2.2.2.2.2.2.1, u_17.2.2.2.2.2.2.2.2.1, u_17.2.2.2.2.2.2.2.2.2.1, u_17.2.2.2.2.2.2.2.2.2.2.1, u_17.2.2.2.2.2.2.2.2.2.2.2.1, u_17.2.2.2.2.2.2.2.2.2.2.2.2.1, u_17.2.2.2.2.2.2.2.2.2.2.2.2.2))
      · refine pt_aload_n (pc' := 46) C dX6_works_45 rfl 5 rfl ?_
        refine pt_iload (pc' := 48) C dX6_works_46 rfl 1 rfl ?_
        refine pt_cvIE (pc' := 51) (wf := fun (u_48 : S6) => wX cA aX aB aT aN aG aW aD aO aV g t mk ++ wB cA aB n k bs wl fd kd sz lk ++ wB cA aT n k ((aoX (nI j) n kd ok op oa wk bs sz).1) wl fd kd ((aoX (nI j) n kd ok op oa wk bs sz).2) lk ++ wS cA aG u_48.1 u_48.2.1 u_48.2.2.1 u_48.2.2.2.1 u_48.2.2.2.2.1 u_48.2.2.2.2.2 ++ wW cA aW td he si ++ wD cA aD dr db du df dw ++ wO cA aO wk ok op oa oc) (wr := []) (As := [.int (nI j)]) (rest := []) C (mX6_keepsMarks l D cA aX aB aT aN aG aW aD aO aV g t mk n k bs wl fd kd sz lk u_17.1 u_17.2.1 u_17.2.2.1 u_17.2.2.2.1 u_17.2.2.2.2.1 u_17.2.2.2.2.2.1 u_17.2.2.2.2.2.2.1 u_17.2.2.2.2.2.2.2.1 u_17.2.2.2.2.2.2.2.2.1 u_17.2.2.2.2.2.2.2.2.2.1 u_17.2.2.2.2.2.2.2.2.2.2.1 u_17.2.2.2.2.2.2.2.2.2.2.2.1 u_17.2.2.2.2.2.2.2.2.2.2.2.2.1 u_17.2.2.2.2.2.2.2.2.2.2.2.2.2 td he si dr db du df dw wk ok op oa oc (nI j) (hn) (hm) (ht) (hS) (hr2) (hD) (hw6) (ho)) (cwV 1 C.hts gX6_works_X6_keepsMarks rfl rfl rfl (by decide +kernel) ⟨Nat.le_of_ble_eq_true rfl, Nat.le_of_ble_eq_true rfl⟩) dX6_works_48 rfl 0 rfl rfl rfl rfl rfl (Nat.le_of_ble_eq_true rfl) ⟨Nat.le_of_ble_eq_true rfl, Nat.le_of_ble_eq_true rfl⟩ [0, 1, 2, 3, 4, 5, 6, 7, 8, 9, 10, 11, 12, 13, 14, 15, 16, 17, 18, 19, 20, 21, 22, 23, 24, 25, 26, 27, 28, 29, 30, 31, 32, 33, 34, 35] [] [0, 1, 2, 3, 4, 5, 6, 7, 8, 9, 10, 11, 12, 13, 14, 15, 16, 17, 18, 19, 20, 21, 22, 23, 24, 25, 26, 27, 28, 29, 30, 31, 32, 33, 34, 35] rfl (by decide) rfl (by decide) (by decide) (fun _ => rfl) (by decide) (fun u_48 => ?_)
        refine pt_if_eq (pc' := 54) (tgt := 60) C dX6_works_51 (by decide) rfl (fun h_51 => ?_) (fun h_51 => ?_)
        · refine pt_iinc (pc' := 63) (v := nI (j + 1)) (lv' := [(4, .int (nI (j + 1))), (5, .int (itz (prS (nI j) oc) wk 0)), (3, .int (nI (2 ^ wk))), (2, .int ((itz (wkB wk oc (kpX n k bs wl fd kd sz lk mk td he si dr db du df dw wk ok op oa)) j (-1, 0)).2)), (1, .int ((itz (wkB wk oc (kpX n k bs wl fd kd sz lk mk td he si dr db du df dw wk ok op oa)) j (-1, 0)).1)), (0, .ref (aX 0))]) C dX6_works_60 rfl 1 rfl (nI_1 _) (by decide) rfl ?_
          refine pt_goto (pc' := 17) C dX6_works_63 (by decide) ?_
          exact pt_cv (rfl) [0, 2, 3, 4, 5] (by simp only [itz_s, wkB, if_neg h_36, if_neg h_42, if_pos (show bI ((kpX n k bs wl fd kd sz lk mk td he si dr db du df dw wk ok op oa) (nI j)) = 0 from h_51)]; rfl) rfl (ih_17 (trivial) (n, k, (aoX (nI j) n kd ok op oa wk bs sz).1, wl, fd, kd, (aoX (nI j) n kd ok op oa wk bs sz).2, lk, u_48.1, u_48.2.1, u_48.2.2.1, u_48.2.2.2.1, u_48.2.2.2.2.1, u_48.2.2.2.2.2))
        · refine pt_iload (pc' := 56) C dX6_works_54 rfl 1 rfl ?_
          refine pt_istore_n (pc' := 57) (lv' := [(1, .int (nI j)), (5, .int (itz (prS (nI j) oc) wk 0)), (4, .int (nI j)), (3, .int (nI (2 ^ wk))), (2, .int ((itz (wkB wk oc (kpX n k bs wl fd kd sz lk mk td he si dr db du df dw wk ok op oa)) j (-1, 0)).2)), (0, .ref (aX 0))]) C dX6_works_56 rfl rfl (by decide) rfl ?_
          refine pt_iload (pc' := 59) C dX6_works_57 rfl 1 rfl ?_
          refine pt_istore_n (pc' := 60) (lv' := [(2, .int (itz (prS (nI j) oc) wk 0)), (1, .int (nI j)), (5, .int (itz (prS (nI j) oc) wk 0)), (4, .int (nI j)), (3, .int (nI (2 ^ wk))), (0, .ref (aX 0))]) C dX6_works_59 rfl rfl (by decide) rfl ?_
          refine pt_iinc (pc' := 63) (v := nI (j + 1)) (lv' := [(4, .int (nI (j + 1))), (2, .int (itz (prS (nI j) oc) wk 0)), (1, .int (nI j)), (5, .int (itz (prS (nI j) oc) wk 0)), (3, .int (nI (2 ^ wk))), (0, .ref (aX 0))]) C dX6_works_60 rfl 3 rfl (nI_1 _) (by decide) rfl ?_
          refine pt_goto (pc' := 17) C dX6_works_63 (by decide) ?_
          exact pt_cv (rfl) [0, 4, 1, 2, 5] (by simp only [itz_s, wkB, if_neg h_36, if_neg h_42, if_neg (show ¬ bI ((kpX n k bs wl fd kd sz lk mk td he si dr db du df dw wk ok op oa) (nI j)) = 0 from h_51)]; rfl) rfl (ih_17 (trivial) (n, k, (aoX (nI j) n kd ok op oa wk bs sz).1, wl, fd, kd, (aoX (nI j) n kd ok op oa wk bs sz).2, lk, u_48.1, u_48.2.1, u_48.2.2.1, u_48.2.2.2.1, u_48.2.2.2.2.1, u_48.2.2.2.2.2))
  have hp := pow_64 hw6
  refine pt_iload (pc' := 19) C dX6_works_17 rfl 0 rfl ?_
  refine pt_iload_n (pc' := 20) C dX6_works_19 rfl 1 rfl ?_
  refine pt_icmp_ge (pc' := 23) (tgt := 66) C dX6_works_20 (by decide) rfl (fun h_20 => ?_) (fun h_20 => absurd (nI_le (Nat.le_refl (2 ^ wk)) (by omega)) h_20)
  refine pt_iload_n (pc' := 67) C dX6_works_66 rfl 3 rfl ?_
  exact pt_iretE C hr hk dX6_works_67 (rfl) (rfl) (u_17.1, u_17.2.1, u_17.2.2.1, u_17.2.2.2.1, u_17.2.2.2.2.1, u_17.2.2.2.2.2.1, u_17.2.2.2.2.2.2.1, u_17.2.2.2.2.2.2.2.1, u_17.2.2.2.2.2.2.2.2.1, u_17.2.2.2.2.2.2.2.2.2.1, u_17.2.2.2.2.2.2.2.2.2.2.1, u_17.2.2.2.2.2.2.2.2.2.2.2.1, u_17.2.2.2.2.2.2.2.2.2.2.2.2.1, u_17.2.2.2.2.2.2.2.2.2.2.2.2.2) (rfl)

set_option maxHeartbeats 4000000 in
set_option maxRecDepth 100000 in
theorem mX6_work (l : Launch) (D : va_G) (cA : ClassId) (aX : Nat → Nat) (aB : Nat → Nat) (aT : Nat → Nat) (aN : Nat → Nat) (aG : Nat → Nat) (aW : Nat → Nat) (aD : Nat → Nat) (aO : Nat → Nat) (aV : Nat → Nat) (g : Nat) (t : Int32) (mk : Nat → Int32) (n : Nat) (k : Int32) (bs : Nat → Int32) (wl : Nat → Int32) (fd : Nat → Int32) (kd : Nat → Int32) (sz : Nat → Int32) (lk : Nat → Int32) (wk : Nat) (ok : Nat → Int32) (op : Nat → Int32) (oa : Nat → Int32) (oc : Nat → Int32) (x : Int32) (y : Int32) (z : Int32) (w : Int32) (hn : 2 ≤ n) (hm : n ≤ 12) (hw6 : wk ≤ 6) : mt_I l yX6_work wsX6_work { frames := 2, cells := 0, slots := 0, locals := 43 } D [(cA, .int)] [.ref (aX 0), .int x, .int y, .int z, .int w] (wX cA aX aB aT aN aG aW aD aO aV g t mk ++ wB cA aB n k bs wl fd kd sz lk ++ wO cA aO wk ok op oa oc) (cond (okWrk n wk kd x y z w) (nI wk) (-1)) (wX cA aX aB aT aN aG aW aD aO aV g (cond (okWrk n wk kd x y z w) (1) t) mk ++ wB cA aB n k bs wl fd kd sz lk ++ wO cA aO (cond (okWrk n wk kd x y z w) (wk + 1) wk) (cond (okWrk n wk kd x y z w) (upd ok wk x) ok) (cond (okWrk n wk kd x y z w) (upd op wk y) op) (cond (okWrk n wk kd x y z w) (upd oa wk z) oa) (cond (okWrk n wk kd x y z w) (upd oc wk w) oc)) := by
  refine mt_ofI (cc := cX6_work) (maxL := 7) (ret := (some .int)) (lv := [(0, .ref (aX 0)), (1, .int x), (2, .int y), (3, .int z), (4, .int w)]) (by decide) rfl (Nat.le_of_ble_eq_true rfl) rfl ?_
  intro p e s m args below meth c A C hr hk
  have f_46 := C.hts (.fieldLink RX6 46 "ShoreFields" "workList" "LShoreFields$WorkList;") (by decide +kernel)
  have in_6 : ∀ w ∈ u_ws RX6 TX6 11, w ∈ wsX6_work := by decide +kernel
  have f_191 := C.hts (.fieldLink RX6 191 "ShoreFields$WorkList" "size" "I") (by decide +kernel)
  have in_5 : ∀ w ∈ u_ws RX5 TX5 5, w ∈ wsX6_work := by decide +kernel
  have f_12 := C.hts (.fieldLink RX6 12 "ShoreFields" "begin" "LShoreFields$Begin;") (by decide +kernel)
  have f_65 := C.hts (.fieldLink RX6 65 "ShoreFields" "anythingTold" "Z") (by decide +kernel)
  refine pt_iload (pc' := 2) C dX6_work_0 rfl 4 rfl ?_
  refine pt_iconst (pc' := 3) C dX6_work_2 rfl (v := 1) (by decide) ?_
  refine pt_sipush (pc' := 6) C dX6_work_3 rfl (v := 999) (by decide) ?_
  refine pt_csI0 (pc' := 9) (As := [.int w, .int 1, .int 999]) (rest := []) C (mX6_isWithin l D cA w 1 999 ) (va_cwS 3 C.hts gX6_work_X6_isWithin rfl rfl rfl (by decide +kernel) ⟨Nat.le_of_ble_eq_true rfl, Nat.le_of_ble_eq_true rfl⟩) dX6_work_6 rfl rfl rfl (Nat.le_of_ble_eq_true rfl) ⟨Nat.le_of_ble_eq_true rfl, Nat.le_of_ble_eq_true rfl⟩ ?_
  refine pt_if_eq (pc' := 12) (tgt := 24) C dX6_work_9 (by decide) rfl (fun h_9 => ?_) (fun h_9 => ?_)
  · refine pt_iconst (pc' := 25) C dX6_work_24 rfl (v := -1) (by decide) ?_
    exact pt_iret C hr hk dX6_work_25 (rfl) (by simp only [okWrk, bI_f h_9, Bool.or_true, Bool.true_or, Bool.or_false, Bool.false_or, bI, cond_false, cond_true, Bool.and_true, Bool.true_and, Bool.and_false, Bool.false_and]) (by simp only [okWrk, bI_f h_9, Bool.or_true, Bool.true_or, Bool.or_false, Bool.false_or, bI, cond_false, cond_true, Bool.and_true, Bool.true_and, Bool.and_false, Bool.false_and])
  · refine pt_aload_n (pc' := 13) C dX6_work_12 rfl 0 rfl ?_
    refine pt_get (pc' := 16) C in_6 dX6_work_13 rfl 0 6 rfl rfl (by decide) f_46 rfl ?_
    refine pt_get (pc' := 19) C in_5 dX6_work_16 rfl 9 0 rfl rfl (by decide) f_191 rfl ?_
    refine pt_bipush (pc' := 21) C dX6_work_19 rfl (v := 6) (by decide) ?_
    refine pt_icmp_lt (pc' := 24) (tgt := 26) C dX6_work_21 (by decide) rfl (fun h_21 => ?_) (fun h_21 => ?_)
    · refine pt_iload_n (pc' := 27) C dX6_work_26 rfl 1 rfl ?_
      refine pt_if_ne (pc' := 30) (tgt := 56) C dX6_work_27 (by decide) rfl (fun h_27 => ?_) (fun h_27 => ?_)
      · refine pt_iconst (pc' := 57) C dX6_work_56 rfl (v := 0) (by decide) ?_
        refine pt_istore (pc' := 59) (lv' := [(5, .int 0), (0, .ref (aX 0)), (1, .int x), (2, .int y), (3, .int z), (4, .int w)]) C dX6_work_57 rfl (by decide) rfl ?_
        refine pt_iload_n (pc' := 60) C dX6_work_59 rfl 2 rfl ?_
        refine pt_iconst (pc' := 61) C dX6_work_60 rfl (v := 1) (by decide) ?_
        refine pt_icmp_ne (pc' := 64) (tgt := 91) C dX6_work_61 (by decide) rfl (fun h_61 => ?_) (fun h_61 => ?_)
        · refine pt_iconst (pc' := 92) C dX6_work_91 rfl (v := 0) (by decide) ?_
          refine pt_istore (pc' := 94) (lv' := [(6, .int 0), (5, .int 0), (0, .ref (aX 0)), (1, .int x), (2, .int y), (3, .int z), (4, .int w)]) C dX6_work_92 rfl (by decide) rfl ?_
          refine pt_iload (pc' := 96) C dX6_work_94 rfl 1 rfl ?_
          refine pt_if_ne (pc' := 99) (tgt := 106) C dX6_work_96 (by decide) rfl (fun h_96 => absurd (by decide) h_96) (fun h_96 => ?_)
          refine pt_iload (pc' := 101) C dX6_work_99 rfl 0 rfl ?_
          refine pt_if_ne (pc' := 104) (tgt := 106) C dX6_work_101 (by decide) rfl (fun h_101 => absurd (by decide) h_101) (fun h_101 => ?_)
          refine pt_iconst (pc' := 105) C dX6_work_104 rfl (v := -1) (by decide) ?_
          exact pt_iret C hr hk dX6_work_105 (rfl) (by simp only [okWrk, bI_t h_9, dl_t (by decide) (by omega) h_21, if_neg h_27, if_neg h_61, Bool.or_true, Bool.true_or, Bool.or_false, Bool.false_or, bI, cond_false, cond_true, Bool.and_true, Bool.true_and, Bool.and_false, Bool.false_and]) (by simp only [okWrk, bI_t h_9, dl_t (by decide) (by omega) h_21, if_neg h_27, if_neg h_61, Bool.or_true, Bool.true_or, Bool.or_false, Bool.false_or, bI, cond_false, cond_true, Bool.and_true, Bool.true_and, Bool.and_false, Bool.false_and])
        · refine pt_aload_n (pc' := 65) C dX6_work_64 rfl 1 rfl ?_
          refine pt_get (pc' := 68) C in_6 dX6_work_65 rfl 0 0 rfl rfl (by decide) f_12 rfl ?_
          refine pt_iload_n (pc' := 69) C dX6_work_68 rfl 3 rfl ?_
          refine pt_iconst (pc' := 70) C dX6_work_69 rfl (v := 1) (by decide) ?_
          refine pt_cvI (pc' := 73) (ws' := wX cA aX aB aT aN aG aW aD aO aV g t mk ++ wB cA aB n k bs wl fd kd sz lk ++ wO cA aO wk ok op oa oc) (wr := wX cA aX aB aT aN aG aW aD aO aV g t mk ++ wO cA aO wk ok op oa oc) (As := [.int y, .int 1]) (rest := []) C (mX0_hasAt l D cA aB n k bs wl fd kd sz lk y 1 (hm)) (cwV 2 C.hts gX6_work_X0_hasAt rfl rfl rfl (by decide +kernel) ⟨Nat.le_of_ble_eq_true rfl, Nat.le_of_ble_eq_true rfl⟩) dX6_work_70 rfl 2 rfl rfl rfl rfl rfl (Nat.le_of_ble_eq_true rfl) ⟨Nat.le_of_ble_eq_true rfl, Nat.le_of_ble_eq_true rfl⟩ [2, 3, 4, 5, 6, 7, 8] [0, 1, 9, 10, 11, 12, 13] [0, 1, 7, 8, 9, 10, 11, 12, 13, 2, 3, 4, 5, 6] rfl (by decide) rfl (by decide) (by decide) rfl (by decide) ?_
          refine pt_if_eq (pc' := 76) (tgt := 91) C dX6_work_73 (by decide) rfl (fun h_73 => ?_) (fun h_73 => ?_)
          · refine pt_iconst (pc' := 92) C dX6_work_91 rfl (v := 0) (by decide) ?_
            refine pt_istore (pc' := 94) (lv' := [(6, .int 0), (5, .int 0), (0, .ref (aX 0)), (1, .int x), (2, .int y), (3, .int z), (4, .int w)]) C dX6_work_92 rfl (by decide) rfl ?_
            refine pt_iload (pc' := 96) C dX6_work_94 rfl 1 rfl ?_
            refine pt_if_ne (pc' := 99) (tgt := 106) C dX6_work_96 (by decide) rfl (fun h_96 => absurd (by decide) h_96) (fun h_96 => ?_)
            refine pt_iload (pc' := 101) C dX6_work_99 rfl 0 rfl ?_
            refine pt_if_ne (pc' := 104) (tgt := 106) C dX6_work_101 (by decide) rfl (fun h_101 => absurd (by decide) h_101) (fun h_101 => ?_)
            refine pt_iconst (pc' := 105) C dX6_work_104 rfl (v := -1) (by decide) ?_
            exact pt_iret C hr hk dX6_work_105 (rfl) (by simp only [okWrk, bI_t h_9, dl_t (by decide) (by omega) h_21, if_neg h_27, if_pos h_61, bI_f h_73, Bool.or_true, Bool.true_or, Bool.or_false, Bool.false_or, bI, cond_false, cond_true, Bool.and_true, Bool.true_and, Bool.and_false, Bool.false_and]) (by simp only [okWrk, bI_t h_9, dl_t (by decide) (by omega) h_21, if_neg h_27, if_pos h_61, bI_f h_73, Bool.or_true, Bool.true_or, Bool.or_false, Bool.false_or, bI, cond_false, cond_true, Bool.and_true, Bool.true_and, Bool.and_false, Bool.false_and])
          · refine pt_iload_n (pc' := 77) C dX6_work_76 rfl 4 rfl ?_
            refine pt_iconst (pc' := 78) C dX6_work_77 rfl (v := 1) (by decide) ?_
            refine pt_sipush (pc' := 81) C dX6_work_78 rfl (v := 999) (by decide) ?_
            refine pt_csI0 (pc' := 84) (As := [.int z, .int 1, .int 999]) (rest := []) C (mX6_isWithin l D cA z 1 999 ) (va_cwS 3 C.hts gX6_work_X6_isWithin rfl rfl rfl (by decide +kernel) ⟨Nat.le_of_ble_eq_true rfl, Nat.le_of_ble_eq_true rfl⟩) dX6_work_81 rfl rfl rfl (Nat.le_of_ble_eq_true rfl) ⟨Nat.le_of_ble_eq_true rfl, Nat.le_of_ble_eq_true rfl⟩ ?_
            refine pt_if_eq (pc' := 87) (tgt := 91) C dX6_work_84 (by decide) rfl (fun h_84 => ?_) (fun h_84 => ?_)
            · refine pt_iconst (pc' := 92) C dX6_work_91 rfl (v := 0) (by decide) ?_
              refine pt_istore (pc' := 94) (lv' := [(6, .int 0), (5, .int 0), (0, .ref (aX 0)), (1, .int x), (2, .int y), (3, .int z), (4, .int w)]) C dX6_work_92 rfl (by decide) rfl ?_
              refine pt_iload (pc' := 96) C dX6_work_94 rfl 1 rfl ?_
              refine pt_if_ne (pc' := 99) (tgt := 106) C dX6_work_96 (by decide) rfl (fun h_96 => absurd (by decide) h_96) (fun h_96 => ?_)
              refine pt_iload (pc' := 101) C dX6_work_99 rfl 0 rfl ?_
              refine pt_if_ne (pc' := 104) (tgt := 106) C dX6_work_101 (by decide) rfl (fun h_101 => absurd (by decide) h_101) (fun h_101 => ?_)
              refine pt_iconst (pc' := 105) C dX6_work_104 rfl (v := -1) (by decide) ?_
              exact pt_iret C hr hk dX6_work_105 (rfl) (by simp only [okWrk, bI_t h_9, dl_t (by decide) (by omega) h_21, if_neg h_27, if_pos h_61, bI_t h_73, bI_f h_84, Bool.or_true, Bool.true_or, Bool.or_false, Bool.false_or, bI, cond_false, cond_true, Bool.and_true, Bool.true_and, Bool.and_false, Bool.false_and]) (by simp only [okWrk, bI_t h_9, dl_t (by decide) (by omega) h_21, if_neg h_27, if_pos h_61, bI_t h_73, bI_f h_84, Bool.or_true, Bool.true_or, Bool.or_false, Bool.false_or, bI, cond_false, cond_true, Bool.and_true, Bool.true_and, Bool.and_false, Bool.false_and])
            · refine pt_iconst (pc' := 88) C dX6_work_87 rfl (v := 1) (by decide) ?_
              refine pt_goto (pc' := 92) C dX6_work_88 (by decide) ?_
              refine pt_istore (pc' := 94) (lv' := [(6, .int 1), (5, .int 0), (0, .ref (aX 0)), (1, .int x), (2, .int y), (3, .int z), (4, .int w)]) C dX6_work_92 rfl (by decide) rfl ?_
              refine pt_iload (pc' := 96) C dX6_work_94 rfl 1 rfl ?_
              refine pt_if_ne (pc' := 99) (tgt := 106) C dX6_work_96 (by decide) rfl (fun h_96 => absurd (by decide) h_96) (fun h_96 => ?_)
              refine pt_iload (pc' := 101) C dX6_work_99 rfl 0 rfl ?_
              refine pt_if_ne (pc' := 104) (tgt := 106) C dX6_work_101 (by decide) rfl (fun h_101 => ?_) (fun h_101 => absurd h_101 (by decide))
              refine pt_aload_n (pc' := 107) C dX6_work_106 rfl 2 rfl ?_
              refine pt_get (pc' := 110) C in_6 dX6_work_107 rfl 0 6 rfl rfl (by decide) f_46 rfl ?_
              refine pt_iload_n (pc' := 111) C dX6_work_110 rfl 3 rfl ?_
              refine pt_iload_n (pc' := 112) C dX6_work_111 rfl 4 rfl ?_
              refine pt_iload_n (pc' := 113) C dX6_work_112 rfl 5 rfl ?_
              refine pt_iload (pc' := 115) C dX6_work_113 rfl 6 rfl ?_
              refine pt_cvV (pc' := 118) (ws' := wX cA aX aB aT aN aG aW aD aO aV g t mk ++ wB cA aB n k bs wl fd kd sz lk ++ wO cA aO (wk + 1) (upd ok wk x) (upd op wk y) (upd oa wk z) (upd oc wk w)) (wr := wX cA aX aB aT aN aG aW aD aO aV g t mk ++ wB cA aB n k bs wl fd kd sz lk) (As := [.int x, .int y, .int z, .int w]) (rest := []) C (mX5_add l D cA aO wk ok op oa oc x y z w (of_decide_eq_true (dl_t (by decide) (by omega) h_21))) (cwV 4 C.hts gX6_work_X5_add rfl rfl rfl (by decide +kernel) ⟨Nat.le_of_ble_eq_true rfl, Nat.le_of_ble_eq_true rfl⟩) dX6_work_115 rfl 9 rfl rfl rfl rfl rfl (Nat.le_of_ble_eq_true rfl) ⟨Nat.le_of_ble_eq_true rfl, Nat.le_of_ble_eq_true rfl⟩ [9, 10, 11, 12, 13] [0, 1, 2, 3, 4, 5, 6, 7, 8] [0, 1, 2, 3, 4, 5, 6, 7, 8, 9, 10, 11, 12, 13] rfl (by decide) rfl (by decide) (by decide) rfl (by decide) ?_
              refine pt_aload_n (pc' := 119) C dX6_work_118 rfl 2 rfl ?_
              refine pt_iconst (pc' := 120) C dX6_work_119 rfl (v := 1) (by decide) ?_
              refine pt_put (pc' := 123) (ty := .boolean) (ws' := wX cA aX aB aT aN aG aW aD aO aV g 1 mk ++ wB cA aB n k bs wl fd kd sz lk ++ wO cA aO (wk + 1) (upd ok wk x) (upd op wk y) (upd oa wk z) (upd oc wk w)) C in_6 tyX6 tyX6_ok nmX6 dX6_work_120 rfl 0 10 rfl rfl (by decide) f_65 rfl (by decide +kernel) (rfl) (rfl) (Nat.le_of_ble_eq_true rfl) rfl ?_
              refine pt_aload_n (pc' := 124) C dX6_work_123 rfl 2 rfl ?_
              refine pt_get (pc' := 127) C in_6 dX6_work_124 rfl 0 6 rfl rfl (by decide) f_46 rfl ?_
              refine pt_get (pc' := 130) C in_5 dX6_work_127 rfl 9 0 rfl rfl (by decide) f_191 rfl ?_
              refine pt_iconst (pc' := 131) C dX6_work_130 rfl (v := 1) (by decide) ?_
              refine pt_isub (pc' := 132) C dX6_work_131 rfl ?_
              refine pt_eq (st' := [.int (nI wk)]) rfl rfl (by rw [nI_m1 (by omega), Nat.add_sub_cancel]) ?_
              exact pt_iret C hr hk dX6_work_132 (rfl) (by simp only [okWrk, bI_t h_9, dl_t (by decide) (by omega) h_21, if_neg h_27, if_pos h_61, bI_t h_73, bI_t h_84, Bool.or_true, Bool.true_or, Bool.or_false, Bool.false_or, bI, cond_false, cond_true, Bool.and_true, Bool.true_and, Bool.and_false, Bool.false_and]) (by simp only [okWrk, bI_t h_9, dl_t (by decide) (by omega) h_21, if_neg h_27, if_pos h_61, bI_t h_73, bI_t h_84, Bool.or_true, Bool.true_or, Bool.or_false, Bool.false_or, bI, cond_false, cond_true, Bool.and_true, Bool.true_and, Bool.and_false, Bool.false_and])
      · refine pt_aload_n (pc' := 31) C dX6_work_30 rfl 0 rfl ?_
        refine pt_get (pc' := 34) C in_6 dX6_work_31 rfl 0 0 rfl rfl (by decide) f_12 rfl ?_
        refine pt_iload_n (pc' := 35) C dX6_work_34 rfl 2 rfl ?_
        refine pt_cvI (pc' := 38) (ws' := wX cA aX aB aT aN aG aW aD aO aV g t mk ++ wB cA aB n k bs wl fd kd sz lk ++ wO cA aO wk ok op oa oc) (wr := wX cA aX aB aT aN aG aW aD aO aV g t mk ++ wO cA aO wk ok op oa oc) (As := [.int y]) (rest := []) C (mX0_hasField l D cA aB n k bs wl fd kd sz lk y ) (cwV 1 C.hts gX6_work_X0_hasField rfl rfl rfl (by decide +kernel) ⟨Nat.le_of_ble_eq_true rfl, Nat.le_of_ble_eq_true rfl⟩) dX6_work_35 rfl 2 rfl rfl rfl rfl rfl (Nat.le_of_ble_eq_true rfl) ⟨Nat.le_of_ble_eq_true rfl, Nat.le_of_ble_eq_true rfl⟩ [2, 3, 4, 5, 6, 7, 8] [0, 1, 9, 10, 11, 12, 13] [0, 1, 7, 8, 9, 10, 11, 12, 13, 2, 3, 4, 5, 6] rfl (by decide) rfl (by decide) (by decide) rfl (by decide) ?_
        refine pt_if_eq (pc' := 41) (tgt := 56) C dX6_work_38 (by decide) rfl (fun h_38 => ?_) (fun h_38 => ?_)
        · refine pt_iconst (pc' := 57) C dX6_work_56 rfl (v := 0) (by decide) ?_
          refine pt_istore (pc' := 59) (lv' := [(5, .int 0), (0, .ref (aX 0)), (1, .int x), (2, .int y), (3, .int z), (4, .int w)]) C dX6_work_57 rfl (by decide) rfl ?_
          refine pt_iload_n (pc' := 60) C dX6_work_59 rfl 2 rfl ?_
          refine pt_iconst (pc' := 61) C dX6_work_60 rfl (v := 1) (by decide) ?_
          refine pt_icmp_ne (pc' := 64) (tgt := 91) C dX6_work_61 (by decide) rfl (fun h_61 => ?_) (fun h_61 => ?_)
          · refine pt_iconst (pc' := 92) C dX6_work_91 rfl (v := 0) (by decide) ?_
            refine pt_istore (pc' := 94) (lv' := [(6, .int 0), (5, .int 0), (0, .ref (aX 0)), (1, .int x), (2, .int y), (3, .int z), (4, .int w)]) C dX6_work_92 rfl (by decide) rfl ?_
            refine pt_iload (pc' := 96) C dX6_work_94 rfl 1 rfl ?_
            refine pt_if_ne (pc' := 99) (tgt := 106) C dX6_work_96 (by decide) rfl (fun h_96 => absurd (by decide) h_96) (fun h_96 => ?_)
            refine pt_iload (pc' := 101) C dX6_work_99 rfl 0 rfl ?_
            refine pt_if_ne (pc' := 104) (tgt := 106) C dX6_work_101 (by decide) rfl (fun h_101 => absurd (by decide) h_101) (fun h_101 => ?_)
            refine pt_iconst (pc' := 105) C dX6_work_104 rfl (v := -1) (by decide) ?_
            exact pt_iret C hr hk dX6_work_105 (rfl) (by simp only [okWrk, bI_t h_9, dl_t (by decide) (by omega) h_21, if_pos h_27, bI_f h_38, if_neg h_61, Bool.or_true, Bool.true_or, Bool.or_false, Bool.false_or, bI, cond_false, cond_true, Bool.and_true, Bool.true_and, Bool.and_false, Bool.false_and]) (by simp only [okWrk, bI_t h_9, dl_t (by decide) (by omega) h_21, if_pos h_27, bI_f h_38, if_neg h_61, Bool.or_true, Bool.true_or, Bool.or_false, Bool.false_or, bI, cond_false, cond_true, Bool.and_true, Bool.true_and, Bool.and_false, Bool.false_and])
          · refine pt_aload_n (pc' := 65) C dX6_work_64 rfl 1 rfl ?_
            refine pt_get (pc' := 68) C in_6 dX6_work_65 rfl 0 0 rfl rfl (by decide) f_12 rfl ?_
            refine pt_iload_n (pc' := 69) C dX6_work_68 rfl 3 rfl ?_
            refine pt_iconst (pc' := 70) C dX6_work_69 rfl (v := 1) (by decide) ?_
            refine pt_cvI (pc' := 73) (ws' := wX cA aX aB aT aN aG aW aD aO aV g t mk ++ wB cA aB n k bs wl fd kd sz lk ++ wO cA aO wk ok op oa oc) (wr := wX cA aX aB aT aN aG aW aD aO aV g t mk ++ wO cA aO wk ok op oa oc) (As := [.int y, .int 1]) (rest := []) C (mX0_hasAt l D cA aB n k bs wl fd kd sz lk y 1 (hm)) (cwV 2 C.hts gX6_work_X0_hasAt rfl rfl rfl (by decide +kernel) ⟨Nat.le_of_ble_eq_true rfl, Nat.le_of_ble_eq_true rfl⟩) dX6_work_70 rfl 2 rfl rfl rfl rfl rfl (Nat.le_of_ble_eq_true rfl) ⟨Nat.le_of_ble_eq_true rfl, Nat.le_of_ble_eq_true rfl⟩ [2, 3, 4, 5, 6, 7, 8] [0, 1, 9, 10, 11, 12, 13] [0, 1, 7, 8, 9, 10, 11, 12, 13, 2, 3, 4, 5, 6] rfl (by decide) rfl (by decide) (by decide) rfl (by decide) ?_
            refine pt_if_eq (pc' := 76) (tgt := 91) C dX6_work_73 (by decide) rfl (fun h_73 => ?_) (fun h_73 => ?_)
            · refine pt_iconst (pc' := 92) C dX6_work_91 rfl (v := 0) (by decide) ?_
              refine pt_istore (pc' := 94) (lv' := [(6, .int 0), (5, .int 0), (0, .ref (aX 0)), (1, .int x), (2, .int y), (3, .int z), (4, .int w)]) C dX6_work_92 rfl (by decide) rfl ?_
              refine pt_iload (pc' := 96) C dX6_work_94 rfl 1 rfl ?_
              refine pt_if_ne (pc' := 99) (tgt := 106) C dX6_work_96 (by decide) rfl (fun h_96 => absurd (by decide) h_96) (fun h_96 => ?_)
              refine pt_iload (pc' := 101) C dX6_work_99 rfl 0 rfl ?_
              refine pt_if_ne (pc' := 104) (tgt := 106) C dX6_work_101 (by decide) rfl (fun h_101 => absurd (by decide) h_101) (fun h_101 => ?_)
              refine pt_iconst (pc' := 105) C dX6_work_104 rfl (v := -1) (by decide) ?_
              exact pt_iret C hr hk dX6_work_105 (rfl) (by simp only [okWrk, bI_t h_9, dl_t (by decide) (by omega) h_21, if_pos h_27, bI_f h_38, if_pos h_61, bI_f h_73, Bool.or_true, Bool.true_or, Bool.or_false, Bool.false_or, bI, cond_false, cond_true, Bool.and_true, Bool.true_and, Bool.and_false, Bool.false_and]) (by simp only [okWrk, bI_t h_9, dl_t (by decide) (by omega) h_21, if_pos h_27, bI_f h_38, if_pos h_61, bI_f h_73, Bool.or_true, Bool.true_or, Bool.or_false, Bool.false_or, bI, cond_false, cond_true, Bool.and_true, Bool.true_and, Bool.and_false, Bool.false_and])
            · refine pt_iload_n (pc' := 77) C dX6_work_76 rfl 4 rfl ?_
              refine pt_iconst (pc' := 78) C dX6_work_77 rfl (v := 1) (by decide) ?_
              refine pt_sipush (pc' := 81) C dX6_work_78 rfl (v := 999) (by decide) ?_
              refine pt_csI0 (pc' := 84) (As := [.int z, .int 1, .int 999]) (rest := []) C (mX6_isWithin l D cA z 1 999 ) (va_cwS 3 C.hts gX6_work_X6_isWithin rfl rfl rfl (by decide +kernel) ⟨Nat.le_of_ble_eq_true rfl, Nat.le_of_ble_eq_true rfl⟩) dX6_work_81 rfl rfl rfl (Nat.le_of_ble_eq_true rfl) ⟨Nat.le_of_ble_eq_true rfl, Nat.le_of_ble_eq_true rfl⟩ ?_
              refine pt_if_eq (pc' := 87) (tgt := 91) C dX6_work_84 (by decide) rfl (fun h_84 => ?_) (fun h_84 => ?_)
              · refine pt_iconst (pc' := 92) C dX6_work_91 rfl (v := 0) (by decide) ?_
                refine pt_istore (pc' := 94) (lv' := [(6, .int 0), (5, .int 0), (0, .ref (aX 0)), (1, .int x), (2, .int y), (3, .int z), (4, .int w)]) C dX6_work_92 rfl (by decide) rfl ?_
                refine pt_iload (pc' := 96) C dX6_work_94 rfl 1 rfl ?_
                refine pt_if_ne (pc' := 99) (tgt := 106) C dX6_work_96 (by decide) rfl (fun h_96 => absurd (by decide) h_96) (fun h_96 => ?_)
                refine pt_iload (pc' := 101) C dX6_work_99 rfl 0 rfl ?_
                refine pt_if_ne (pc' := 104) (tgt := 106) C dX6_work_101 (by decide) rfl (fun h_101 => absurd (by decide) h_101) (fun h_101 => ?_)
                refine pt_iconst (pc' := 105) C dX6_work_104 rfl (v := -1) (by decide) ?_
                exact pt_iret C hr hk dX6_work_105 (rfl) (by simp only [okWrk, bI_t h_9, dl_t (by decide) (by omega) h_21, if_pos h_27, bI_f h_38, if_pos h_61, bI_t h_73, bI_f h_84, Bool.or_true, Bool.true_or, Bool.or_false, Bool.false_or, bI, cond_false, cond_true, Bool.and_true, Bool.true_and, Bool.and_false, Bool.false_and]) (by simp only [okWrk, bI_t h_9, dl_t (by decide) (by omega) h_21, if_pos h_27, bI_f h_38, if_pos h_61, bI_t h_73, bI_f h_84, Bool.or_true, Bool.true_or, Bool.or_false, Bool.false_or, bI, cond_false, cond_true, Bool.and_true, Bool.true_and, Bool.and_false, Bool.false_and])
              · refine pt_iconst (pc' := 88) C dX6_work_87 rfl (v := 1) (by decide) ?_
                refine pt_goto (pc' := 92) C dX6_work_88 (by decide) ?_
                refine pt_istore (pc' := 94) (lv' := [(6, .int 1), (5, .int 0), (0, .ref (aX 0)), (1, .int x), (2, .int y), (3, .int z), (4, .int w)]) C dX6_work_92 rfl (by decide) rfl ?_
                refine pt_iload (pc' := 96) C dX6_work_94 rfl 1 rfl ?_
                refine pt_if_ne (pc' := 99) (tgt := 106) C dX6_work_96 (by decide) rfl (fun h_96 => absurd (by decide) h_96) (fun h_96 => ?_)
                refine pt_iload (pc' := 101) C dX6_work_99 rfl 0 rfl ?_
                refine pt_if_ne (pc' := 104) (tgt := 106) C dX6_work_101 (by decide) rfl (fun h_101 => ?_) (fun h_101 => absurd h_101 (by decide))
                refine pt_aload_n (pc' := 107) C dX6_work_106 rfl 2 rfl ?_
                refine pt_get (pc' := 110) C in_6 dX6_work_107 rfl 0 6 rfl rfl (by decide) f_46 rfl ?_
                refine pt_iload_n (pc' := 111) C dX6_work_110 rfl 3 rfl ?_
                refine pt_iload_n (pc' := 112) C dX6_work_111 rfl 4 rfl ?_
                refine pt_iload_n (pc' := 113) C dX6_work_112 rfl 5 rfl ?_
                refine pt_iload (pc' := 115) C dX6_work_113 rfl 6 rfl ?_
                refine pt_cvV (pc' := 118) (ws' := wX cA aX aB aT aN aG aW aD aO aV g t mk ++ wB cA aB n k bs wl fd kd sz lk ++ wO cA aO (wk + 1) (upd ok wk x) (upd op wk y) (upd oa wk z) (upd oc wk w)) (wr := wX cA aX aB aT aN aG aW aD aO aV g t mk ++ wB cA aB n k bs wl fd kd sz lk) (As := [.int x, .int y, .int z, .int w]) (rest := []) C (mX5_add l D cA aO wk ok op oa oc x y z w (of_decide_eq_true (dl_t (by decide) (by omega) h_21))) (cwV 4 C.hts gX6_work_X5_add rfl rfl rfl (by decide +kernel) ⟨Nat.le_of_ble_eq_true rfl, Nat.le_of_ble_eq_true rfl⟩) dX6_work_115 rfl 9 rfl rfl rfl rfl rfl (Nat.le_of_ble_eq_true rfl) ⟨Nat.le_of_ble_eq_true rfl, Nat.le_of_ble_eq_true rfl⟩ [9, 10, 11, 12, 13] [0, 1, 2, 3, 4, 5, 6, 7, 8] [0, 1, 2, 3, 4, 5, 6, 7, 8, 9, 10, 11, 12, 13] rfl (by decide) rfl (by decide) (by decide) rfl (by decide) ?_
                refine pt_aload_n (pc' := 119) C dX6_work_118 rfl 2 rfl ?_
                refine pt_iconst (pc' := 120) C dX6_work_119 rfl (v := 1) (by decide) ?_
                refine pt_put (pc' := 123) (ty := .boolean) (ws' := wX cA aX aB aT aN aG aW aD aO aV g 1 mk ++ wB cA aB n k bs wl fd kd sz lk ++ wO cA aO (wk + 1) (upd ok wk x) (upd op wk y) (upd oa wk z) (upd oc wk w)) C in_6 tyX6 tyX6_ok nmX6 dX6_work_120 rfl 0 10 rfl rfl (by decide) f_65 rfl (by decide +kernel) (rfl) (rfl) (Nat.le_of_ble_eq_true rfl) rfl ?_
                refine pt_aload_n (pc' := 124) C dX6_work_123 rfl 2 rfl ?_
                refine pt_get (pc' := 127) C in_6 dX6_work_124 rfl 0 6 rfl rfl (by decide) f_46 rfl ?_
                refine pt_get (pc' := 130) C in_5 dX6_work_127 rfl 9 0 rfl rfl (by decide) f_191 rfl ?_
                refine pt_iconst (pc' := 131) C dX6_work_130 rfl (v := 1) (by decide) ?_
                refine pt_isub (pc' := 132) C dX6_work_131 rfl ?_
                refine pt_eq (st' := [.int (nI wk)]) rfl rfl (by rw [nI_m1 (by omega), Nat.add_sub_cancel]) ?_
                exact pt_iret C hr hk dX6_work_132 (rfl) (by simp only [okWrk, bI_t h_9, dl_t (by decide) (by omega) h_21, if_pos h_27, bI_f h_38, if_pos h_61, bI_t h_73, bI_t h_84, Bool.or_true, Bool.true_or, Bool.or_false, Bool.false_or, bI, cond_false, cond_true, Bool.and_true, Bool.true_and, Bool.and_false, Bool.false_and]) (by simp only [okWrk, bI_t h_9, dl_t (by decide) (by omega) h_21, if_pos h_27, bI_f h_38, if_pos h_61, bI_t h_73, bI_t h_84, Bool.or_true, Bool.true_or, Bool.or_false, Bool.false_or, bI, cond_false, cond_true, Bool.and_true, Bool.true_and, Bool.and_false, Bool.false_and])
        · refine pt_iload_n (pc' := 42) C dX6_work_41 rfl 3 rfl ?_
          refine pt_iconst (pc' := 43) C dX6_work_42 rfl (v := 1) (by decide) ?_
          refine pt_sipush (pc' := 46) C dX6_work_43 rfl (v := 9999) (by decide) ?_
          refine pt_csI0 (pc' := 49) (As := [.int z, .int 1, .int 9999]) (rest := []) C (mX6_isWithin l D cA z 1 9999 ) (va_cwS 3 C.hts gX6_work_X6_isWithin rfl rfl rfl (by decide +kernel) ⟨Nat.le_of_ble_eq_true rfl, Nat.le_of_ble_eq_true rfl⟩) dX6_work_46 rfl rfl rfl (Nat.le_of_ble_eq_true rfl) ⟨Nat.le_of_ble_eq_true rfl, Nat.le_of_ble_eq_true rfl⟩ ?_
          refine pt_if_eq (pc' := 52) (tgt := 56) C dX6_work_49 (by decide) rfl (fun h_49 => ?_) (fun h_49 => ?_)
          · refine pt_iconst (pc' := 57) C dX6_work_56 rfl (v := 0) (by decide) ?_
            refine pt_istore (pc' := 59) (lv' := [(5, .int 0), (0, .ref (aX 0)), (1, .int x), (2, .int y), (3, .int z), (4, .int w)]) C dX6_work_57 rfl (by decide) rfl ?_
            refine pt_iload_n (pc' := 60) C dX6_work_59 rfl 2 rfl ?_
            refine pt_iconst (pc' := 61) C dX6_work_60 rfl (v := 1) (by decide) ?_
            refine pt_icmp_ne (pc' := 64) (tgt := 91) C dX6_work_61 (by decide) rfl (fun h_61 => ?_) (fun h_61 => ?_)
            · refine pt_iconst (pc' := 92) C dX6_work_91 rfl (v := 0) (by decide) ?_
              refine pt_istore (pc' := 94) (lv' := [(6, .int 0), (5, .int 0), (0, .ref (aX 0)), (1, .int x), (2, .int y), (3, .int z), (4, .int w)]) C dX6_work_92 rfl (by decide) rfl ?_
              refine pt_iload (pc' := 96) C dX6_work_94 rfl 1 rfl ?_
              refine pt_if_ne (pc' := 99) (tgt := 106) C dX6_work_96 (by decide) rfl (fun h_96 => absurd (by decide) h_96) (fun h_96 => ?_)
              refine pt_iload (pc' := 101) C dX6_work_99 rfl 0 rfl ?_
              refine pt_if_ne (pc' := 104) (tgt := 106) C dX6_work_101 (by decide) rfl (fun h_101 => absurd (by decide) h_101) (fun h_101 => ?_)
              refine pt_iconst (pc' := 105) C dX6_work_104 rfl (v := -1) (by decide) ?_
              exact pt_iret C hr hk dX6_work_105 (rfl) (by simp only [okWrk, bI_t h_9, dl_t (by decide) (by omega) h_21, if_pos h_27, bI_t h_38, bI_f h_49, if_neg h_61, Bool.or_true, Bool.true_or, Bool.or_false, Bool.false_or, bI, cond_false, cond_true, Bool.and_true, Bool.true_and, Bool.and_false, Bool.false_and]) (by simp only [okWrk, bI_t h_9, dl_t (by decide) (by omega) h_21, if_pos h_27, bI_t h_38, bI_f h_49, if_neg h_61, Bool.or_true, Bool.true_or, Bool.or_false, Bool.false_or, bI, cond_false, cond_true, Bool.and_true, Bool.true_and, Bool.and_false, Bool.false_and])
            · refine pt_aload_n (pc' := 65) C dX6_work_64 rfl 1 rfl ?_
              refine pt_get (pc' := 68) C in_6 dX6_work_65 rfl 0 0 rfl rfl (by decide) f_12 rfl ?_
              refine pt_iload_n (pc' := 69) C dX6_work_68 rfl 3 rfl ?_
              refine pt_iconst (pc' := 70) C dX6_work_69 rfl (v := 1) (by decide) ?_
              refine pt_cvI (pc' := 73) (ws' := wX cA aX aB aT aN aG aW aD aO aV g t mk ++ wB cA aB n k bs wl fd kd sz lk ++ wO cA aO wk ok op oa oc) (wr := wX cA aX aB aT aN aG aW aD aO aV g t mk ++ wO cA aO wk ok op oa oc) (As := [.int y, .int 1]) (rest := []) C (mX0_hasAt l D cA aB n k bs wl fd kd sz lk y 1 (hm)) (cwV 2 C.hts gX6_work_X0_hasAt rfl rfl rfl (by decide +kernel) ⟨Nat.le_of_ble_eq_true rfl, Nat.le_of_ble_eq_true rfl⟩) dX6_work_70 rfl 2 rfl rfl rfl rfl rfl (Nat.le_of_ble_eq_true rfl) ⟨Nat.le_of_ble_eq_true rfl, Nat.le_of_ble_eq_true rfl⟩ [2, 3, 4, 5, 6, 7, 8] [0, 1, 9, 10, 11, 12, 13] [0, 1, 7, 8, 9, 10, 11, 12, 13, 2, 3, 4, 5, 6] rfl (by decide) rfl (by decide) (by decide) rfl (by decide) ?_
              refine pt_if_eq (pc' := 76) (tgt := 91) C dX6_work_73 (by decide) rfl (fun h_73 => ?_) (fun h_73 => ?_)
              · refine pt_iconst (pc' := 92) C dX6_work_91 rfl (v := 0) (by decide) ?_
                refine pt_istore (pc' := 94) (lv' := [(6, .int 0), (5, .int 0), (0, .ref (aX 0)), (1, .int x), (2, .int y), (3, .int z), (4, .int w)]) C dX6_work_92 rfl (by decide) rfl ?_
                refine pt_iload (pc' := 96) C dX6_work_94 rfl 1 rfl ?_
                refine pt_if_ne (pc' := 99) (tgt := 106) C dX6_work_96 (by decide) rfl (fun h_96 => absurd (by decide) h_96) (fun h_96 => ?_)
                refine pt_iload (pc' := 101) C dX6_work_99 rfl 0 rfl ?_
                refine pt_if_ne (pc' := 104) (tgt := 106) C dX6_work_101 (by decide) rfl (fun h_101 => absurd (by decide) h_101) (fun h_101 => ?_)
                refine pt_iconst (pc' := 105) C dX6_work_104 rfl (v := -1) (by decide) ?_
                exact pt_iret C hr hk dX6_work_105 (rfl) (by simp only [okWrk, bI_t h_9, dl_t (by decide) (by omega) h_21, if_pos h_27, bI_t h_38, bI_f h_49, if_pos h_61, bI_f h_73, Bool.or_true, Bool.true_or, Bool.or_false, Bool.false_or, bI, cond_false, cond_true, Bool.and_true, Bool.true_and, Bool.and_false, Bool.false_and]) (by simp only [okWrk, bI_t h_9, dl_t (by decide) (by omega) h_21, if_pos h_27, bI_t h_38, bI_f h_49, if_pos h_61, bI_f h_73, Bool.or_true, Bool.true_or, Bool.or_false, Bool.false_or, bI, cond_false, cond_true, Bool.and_true, Bool.true_and, Bool.and_false, Bool.false_and])
              · refine pt_iload_n (pc' := 77) C dX6_work_76 rfl 4 rfl ?_
                refine pt_iconst (pc' := 78) C dX6_work_77 rfl (v := 1) (by decide) ?_
                refine pt_sipush (pc' := 81) C dX6_work_78 rfl (v := 999) (by decide) ?_
                refine pt_csI0 (pc' := 84) (As := [.int z, .int 1, .int 999]) (rest := []) C (mX6_isWithin l D cA z 1 999 ) (va_cwS 3 C.hts gX6_work_X6_isWithin rfl rfl rfl (by decide +kernel) ⟨Nat.le_of_ble_eq_true rfl, Nat.le_of_ble_eq_true rfl⟩) dX6_work_81 rfl rfl rfl (Nat.le_of_ble_eq_true rfl) ⟨Nat.le_of_ble_eq_true rfl, Nat.le_of_ble_eq_true rfl⟩ ?_
                refine pt_if_eq (pc' := 87) (tgt := 91) C dX6_work_84 (by decide) rfl (fun h_84 => ?_) (fun h_84 => ?_)
                · refine pt_iconst (pc' := 92) C dX6_work_91 rfl (v := 0) (by decide) ?_
                  refine pt_istore (pc' := 94) (lv' := [(6, .int 0), (5, .int 0), (0, .ref (aX 0)), (1, .int x), (2, .int y), (3, .int z), (4, .int w)]) C dX6_work_92 rfl (by decide) rfl ?_
                  refine pt_iload (pc' := 96) C dX6_work_94 rfl 1 rfl ?_
                  refine pt_if_ne (pc' := 99) (tgt := 106) C dX6_work_96 (by decide) rfl (fun h_96 => absurd (by decide) h_96) (fun h_96 => ?_)
                  refine pt_iload (pc' := 101) C dX6_work_99 rfl 0 rfl ?_
                  refine pt_if_ne (pc' := 104) (tgt := 106) C dX6_work_101 (by decide) rfl (fun h_101 => absurd (by decide) h_101) (fun h_101 => ?_)
                  refine pt_iconst (pc' := 105) C dX6_work_104 rfl (v := -1) (by decide) ?_
                  exact pt_iret C hr hk dX6_work_105 (rfl) (by simp only [okWrk, bI_t h_9, dl_t (by decide) (by omega) h_21, if_pos h_27, bI_t h_38, bI_f h_49, if_pos h_61, bI_t h_73, bI_f h_84, Bool.or_true, Bool.true_or, Bool.or_false, Bool.false_or, bI, cond_false, cond_true, Bool.and_true, Bool.true_and, Bool.and_false, Bool.false_and]) (by simp only [okWrk, bI_t h_9, dl_t (by decide) (by omega) h_21, if_pos h_27, bI_t h_38, bI_f h_49, if_pos h_61, bI_t h_73, bI_f h_84, Bool.or_true, Bool.true_or, Bool.or_false, Bool.false_or, bI, cond_false, cond_true, Bool.and_true, Bool.true_and, Bool.and_false, Bool.false_and])
                · refine pt_iconst (pc' := 88) C dX6_work_87 rfl (v := 1) (by decide) ?_
                  refine pt_goto (pc' := 92) C dX6_work_88 (by decide) ?_
                  refine pt_istore (pc' := 94) (lv' := [(6, .int 1), (5, .int 0), (0, .ref (aX 0)), (1, .int x), (2, .int y), (3, .int z), (4, .int w)]) C dX6_work_92 rfl (by decide) rfl ?_
                  refine pt_iload (pc' := 96) C dX6_work_94 rfl 1 rfl ?_
                  refine pt_if_ne (pc' := 99) (tgt := 106) C dX6_work_96 (by decide) rfl (fun h_96 => absurd (by decide) h_96) (fun h_96 => ?_)
                  refine pt_iload (pc' := 101) C dX6_work_99 rfl 0 rfl ?_
                  refine pt_if_ne (pc' := 104) (tgt := 106) C dX6_work_101 (by decide) rfl (fun h_101 => ?_) (fun h_101 => absurd h_101 (by decide))
                  refine pt_aload_n (pc' := 107) C dX6_work_106 rfl 2 rfl ?_
                  refine pt_get (pc' := 110) C in_6 dX6_work_107 rfl 0 6 rfl rfl (by decide) f_46 rfl ?_
                  refine pt_iload_n (pc' := 111) C dX6_work_110 rfl 3 rfl ?_
                  refine pt_iload_n (pc' := 112) C dX6_work_111 rfl 4 rfl ?_
                  refine pt_iload_n (pc' := 113) C dX6_work_112 rfl 5 rfl ?_
                  refine pt_iload (pc' := 115) C dX6_work_113 rfl 6 rfl ?_
                  refine pt_cvV (pc' := 118) (ws' := wX cA aX aB aT aN aG aW aD aO aV g t mk ++ wB cA aB n k bs wl fd kd sz lk ++ wO cA aO (wk + 1) (upd ok wk x) (upd op wk y) (upd oa wk z) (upd oc wk w)) (wr := wX cA aX aB aT aN aG aW aD aO aV g t mk ++ wB cA aB n k bs wl fd kd sz lk) (As := [.int x, .int y, .int z, .int w]) (rest := []) C (mX5_add l D cA aO wk ok op oa oc x y z w (of_decide_eq_true (dl_t (by decide) (by omega) h_21))) (cwV 4 C.hts gX6_work_X5_add rfl rfl rfl (by decide +kernel) ⟨Nat.le_of_ble_eq_true rfl, Nat.le_of_ble_eq_true rfl⟩) dX6_work_115 rfl 9 rfl rfl rfl rfl rfl (Nat.le_of_ble_eq_true rfl) ⟨Nat.le_of_ble_eq_true rfl, Nat.le_of_ble_eq_true rfl⟩ [9, 10, 11, 12, 13] [0, 1, 2, 3, 4, 5, 6, 7, 8] [0, 1, 2, 3, 4, 5, 6, 7, 8, 9, 10, 11, 12, 13] rfl (by decide) rfl (by decide) (by decide) rfl (by decide) ?_
                  refine pt_aload_n (pc' := 119) C dX6_work_118 rfl 2 rfl ?_
                  refine pt_iconst (pc' := 120) C dX6_work_119 rfl (v := 1) (by decide) ?_
                  refine pt_put (pc' := 123) (ty := .boolean) (ws' := wX cA aX aB aT aN aG aW aD aO aV g 1 mk ++ wB cA aB n k bs wl fd kd sz lk ++ wO cA aO (wk + 1) (upd ok wk x) (upd op wk y) (upd oa wk z) (upd oc wk w)) C in_6 tyX6 tyX6_ok nmX6 dX6_work_120 rfl 0 10 rfl rfl (by decide) f_65 rfl (by decide +kernel) (rfl) (rfl) (Nat.le_of_ble_eq_true rfl) rfl ?_
                  refine pt_aload_n (pc' := 124) C dX6_work_123 rfl 2 rfl ?_
                  refine pt_get (pc' := 127) C in_6 dX6_work_124 rfl 0 6 rfl rfl (by decide) f_46 rfl ?_
                  refine pt_get (pc' := 130) C in_5 dX6_work_127 rfl 9 0 rfl rfl (by decide) f_191 rfl ?_
                  refine pt_iconst (pc' := 131) C dX6_work_130 rfl (v := 1) (by decide) ?_
                  refine pt_isub (pc' := 132) C dX6_work_131 rfl ?_
                  refine pt_eq (st' := [.int (nI wk)]) rfl rfl (by rw [nI_m1 (by omega), Nat.add_sub_cancel]) ?_
                  exact pt_iret C hr hk dX6_work_132 (rfl) (by simp only [okWrk, bI_t h_9, dl_t (by decide) (by omega) h_21, if_pos h_27, bI_t h_38, bI_f h_49, if_pos h_61, bI_t h_73, bI_t h_84, Bool.or_true, Bool.true_or, Bool.or_false, Bool.false_or, bI, cond_false, cond_true, Bool.and_true, Bool.true_and, Bool.and_false, Bool.false_and]) (by simp only [okWrk, bI_t h_9, dl_t (by decide) (by omega) h_21, if_pos h_27, bI_t h_38, bI_f h_49, if_pos h_61, bI_t h_73, bI_t h_84, Bool.or_true, Bool.true_or, Bool.or_false, Bool.false_or, bI, cond_false, cond_true, Bool.and_true, Bool.true_and, Bool.and_false, Bool.false_and])
          · refine pt_iconst (pc' := 53) C dX6_work_52 rfl (v := 1) (by decide) ?_
            refine pt_goto (pc' := 57) C dX6_work_53 (by decide) ?_
            refine pt_istore (pc' := 59) (lv' := [(5, .int 1), (0, .ref (aX 0)), (1, .int x), (2, .int y), (3, .int z), (4, .int w)]) C dX6_work_57 rfl (by decide) rfl ?_
            refine pt_iload_n (pc' := 60) C dX6_work_59 rfl 2 rfl ?_
            refine pt_iconst (pc' := 61) C dX6_work_60 rfl (v := 1) (by decide) ?_
            refine pt_icmp_ne (pc' := 64) (tgt := 91) C dX6_work_61 (by decide) rfl (fun h_61 => ?_) (fun h_61 => ?_)
            · refine pt_iconst (pc' := 92) C dX6_work_91 rfl (v := 0) (by decide) ?_
              refine pt_istore (pc' := 94) (lv' := [(6, .int 0), (5, .int 1), (0, .ref (aX 0)), (1, .int x), (2, .int y), (3, .int z), (4, .int w)]) C dX6_work_92 rfl (by decide) rfl ?_
              refine pt_iload (pc' := 96) C dX6_work_94 rfl 1 rfl ?_
              refine pt_if_ne (pc' := 99) (tgt := 106) C dX6_work_96 (by decide) rfl (fun h_96 => ?_) (fun h_96 => absurd h_96 (by decide))
              refine pt_aload_n (pc' := 107) C dX6_work_106 rfl 2 rfl ?_
              refine pt_get (pc' := 110) C in_6 dX6_work_107 rfl 0 6 rfl rfl (by decide) f_46 rfl ?_
              refine pt_iload_n (pc' := 111) C dX6_work_110 rfl 3 rfl ?_
              refine pt_iload_n (pc' := 112) C dX6_work_111 rfl 4 rfl ?_
              refine pt_iload_n (pc' := 113) C dX6_work_112 rfl 5 rfl ?_
              refine pt_iload (pc' := 115) C dX6_work_113 rfl 6 rfl ?_
              refine pt_cvV (pc' := 118) (ws' := wX cA aX aB aT aN aG aW aD aO aV g t mk ++ wB cA aB n k bs wl fd kd sz lk ++ wO cA aO (wk + 1) (upd ok wk x) (upd op wk y) (upd oa wk z) (upd oc wk w)) (wr := wX cA aX aB aT aN aG aW aD aO aV g t mk ++ wB cA aB n k bs wl fd kd sz lk) (As := [.int x, .int y, .int z, .int w]) (rest := []) C (mX5_add l D cA aO wk ok op oa oc x y z w (of_decide_eq_true (dl_t (by decide) (by omega) h_21))) (cwV 4 C.hts gX6_work_X5_add rfl rfl rfl (by decide +kernel) ⟨Nat.le_of_ble_eq_true rfl, Nat.le_of_ble_eq_true rfl⟩) dX6_work_115 rfl 9 rfl rfl rfl rfl rfl (Nat.le_of_ble_eq_true rfl) ⟨Nat.le_of_ble_eq_true rfl, Nat.le_of_ble_eq_true rfl⟩ [9, 10, 11, 12, 13] [0, 1, 2, 3, 4, 5, 6, 7, 8] [0, 1, 2, 3, 4, 5, 6, 7, 8, 9, 10, 11, 12, 13] rfl (by decide) rfl (by decide) (by decide) rfl (by decide) ?_
              refine pt_aload_n (pc' := 119) C dX6_work_118 rfl 2 rfl ?_
              refine pt_iconst (pc' := 120) C dX6_work_119 rfl (v := 1) (by decide) ?_
              refine pt_put (pc' := 123) (ty := .boolean) (ws' := wX cA aX aB aT aN aG aW aD aO aV g 1 mk ++ wB cA aB n k bs wl fd kd sz lk ++ wO cA aO (wk + 1) (upd ok wk x) (upd op wk y) (upd oa wk z) (upd oc wk w)) C in_6 tyX6 tyX6_ok nmX6 dX6_work_120 rfl 0 10 rfl rfl (by decide) f_65 rfl (by decide +kernel) (rfl) (rfl) (Nat.le_of_ble_eq_true rfl) rfl ?_
              refine pt_aload_n (pc' := 124) C dX6_work_123 rfl 2 rfl ?_
              refine pt_get (pc' := 127) C in_6 dX6_work_124 rfl 0 6 rfl rfl (by decide) f_46 rfl ?_
              refine pt_get (pc' := 130) C in_5 dX6_work_127 rfl 9 0 rfl rfl (by decide) f_191 rfl ?_
              refine pt_iconst (pc' := 131) C dX6_work_130 rfl (v := 1) (by decide) ?_
              refine pt_isub (pc' := 132) C dX6_work_131 rfl ?_
              refine pt_eq (st' := [.int (nI wk)]) rfl rfl (by rw [nI_m1 (by omega), Nat.add_sub_cancel]) ?_
              exact pt_iret C hr hk dX6_work_132 (rfl) (by simp only [okWrk, bI_t h_9, dl_t (by decide) (by omega) h_21, if_pos h_27, bI_t h_38, bI_t h_49, if_neg h_61, Bool.or_true, Bool.true_or, Bool.or_false, Bool.false_or, bI, cond_false, cond_true, Bool.and_true, Bool.true_and, Bool.and_false, Bool.false_and]) (by simp only [okWrk, bI_t h_9, dl_t (by decide) (by omega) h_21, if_pos h_27, bI_t h_38, bI_t h_49, if_neg h_61, Bool.or_true, Bool.true_or, Bool.or_false, Bool.false_or, bI, cond_false, cond_true, Bool.and_true, Bool.true_and, Bool.and_false, Bool.false_and])
            · refine pt_aload_n (pc' := 65) C dX6_work_64 rfl 1 rfl ?_
              refine pt_get (pc' := 68) C in_6 dX6_work_65 rfl 0 0 rfl rfl (by decide) f_12 rfl ?_
              refine pt_iload_n (pc' := 69) C dX6_work_68 rfl 3 rfl ?_
              refine pt_iconst (pc' := 70) C dX6_work_69 rfl (v := 1) (by decide) ?_
              refine pt_cvI (pc' := 73) (ws' := wX cA aX aB aT aN aG aW aD aO aV g t mk ++ wB cA aB n k bs wl fd kd sz lk ++ wO cA aO wk ok op oa oc) (wr := wX cA aX aB aT aN aG aW aD aO aV g t mk ++ wO cA aO wk ok op oa oc) (As := [.int y, .int 1]) (rest := []) C (mX0_hasAt l D cA aB n k bs wl fd kd sz lk y 1 (hm)) (cwV 2 C.hts gX6_work_X0_hasAt rfl rfl rfl (by decide +kernel) ⟨Nat.le_of_ble_eq_true rfl, Nat.le_of_ble_eq_true rfl⟩) dX6_work_70 rfl 2 rfl rfl rfl rfl rfl (Nat.le_of_ble_eq_true rfl) ⟨Nat.le_of_ble_eq_true rfl, Nat.le_of_ble_eq_true rfl⟩ [2, 3, 4, 5, 6, 7, 8] [0, 1, 9, 10, 11, 12, 13] [0, 1, 7, 8, 9, 10, 11, 12, 13, 2, 3, 4, 5, 6] rfl (by decide) rfl (by decide) (by decide) rfl (by decide) ?_
              refine pt_if_eq (pc' := 76) (tgt := 91) C dX6_work_73 (by decide) rfl (fun h_73 => ?_) (fun h_73 => ?_)
              · refine pt_iconst (pc' := 92) C dX6_work_91 rfl (v := 0) (by decide) ?_
                refine pt_istore (pc' := 94) (lv' := [(6, .int 0), (5, .int 1), (0, .ref (aX 0)), (1, .int x), (2, .int y), (3, .int z), (4, .int w)]) C dX6_work_92 rfl (by decide) rfl ?_
                refine pt_iload (pc' := 96) C dX6_work_94 rfl 1 rfl ?_
                refine pt_if_ne (pc' := 99) (tgt := 106) C dX6_work_96 (by decide) rfl (fun h_96 => ?_) (fun h_96 => absurd h_96 (by decide))
                refine pt_aload_n (pc' := 107) C dX6_work_106 rfl 2 rfl ?_
                refine pt_get (pc' := 110) C in_6 dX6_work_107 rfl 0 6 rfl rfl (by decide) f_46 rfl ?_
                refine pt_iload_n (pc' := 111) C dX6_work_110 rfl 3 rfl ?_
                refine pt_iload_n (pc' := 112) C dX6_work_111 rfl 4 rfl ?_
                refine pt_iload_n (pc' := 113) C dX6_work_112 rfl 5 rfl ?_
                refine pt_iload (pc' := 115) C dX6_work_113 rfl 6 rfl ?_
                refine pt_cvV (pc' := 118) (ws' := wX cA aX aB aT aN aG aW aD aO aV g t mk ++ wB cA aB n k bs wl fd kd sz lk ++ wO cA aO (wk + 1) (upd ok wk x) (upd op wk y) (upd oa wk z) (upd oc wk w)) (wr := wX cA aX aB aT aN aG aW aD aO aV g t mk ++ wB cA aB n k bs wl fd kd sz lk) (As := [.int x, .int y, .int z, .int w]) (rest := []) C (mX5_add l D cA aO wk ok op oa oc x y z w (of_decide_eq_true (dl_t (by decide) (by omega) h_21))) (cwV 4 C.hts gX6_work_X5_add rfl rfl rfl (by decide +kernel) ⟨Nat.le_of_ble_eq_true rfl, Nat.le_of_ble_eq_true rfl⟩) dX6_work_115 rfl 9 rfl rfl rfl rfl rfl (Nat.le_of_ble_eq_true rfl) ⟨Nat.le_of_ble_eq_true rfl, Nat.le_of_ble_eq_true rfl⟩ [9, 10, 11, 12, 13] [0, 1, 2, 3, 4, 5, 6, 7, 8] [0, 1, 2, 3, 4, 5, 6, 7, 8, 9, 10, 11, 12, 13] rfl (by decide) rfl (by decide) (by decide) rfl (by decide) ?_
                refine pt_aload_n (pc' := 119) C dX6_work_118 rfl 2 rfl ?_
                refine pt_iconst (pc' := 120) C dX6_work_119 rfl (v := 1) (by decide) ?_
                refine pt_put (pc' := 123) (ty := .boolean) (ws' := wX cA aX aB aT aN aG aW aD aO aV g 1 mk ++ wB cA aB n k bs wl fd kd sz lk ++ wO cA aO (wk + 1) (upd ok wk x) (upd op wk y) (upd oa wk z) (upd oc wk w)) C in_6 tyX6 tyX6_ok nmX6 dX6_work_120 rfl 0 10 rfl rfl (by decide) f_65 rfl (by decide +kernel) (rfl) (rfl) (Nat.le_of_ble_eq_true rfl) rfl ?_
                refine pt_aload_n (pc' := 124) C dX6_work_123 rfl 2 rfl ?_
                refine pt_get (pc' := 127) C in_6 dX6_work_124 rfl 0 6 rfl rfl (by decide) f_46 rfl ?_
                refine pt_get (pc' := 130) C in_5 dX6_work_127 rfl 9 0 rfl rfl (by decide) f_191 rfl ?_
                refine pt_iconst (pc' := 131) C dX6_work_130 rfl (v := 1) (by decide) ?_
                refine pt_isub (pc' := 132) C dX6_work_131 rfl ?_
                refine pt_eq (st' := [.int (nI wk)]) rfl rfl (by rw [nI_m1 (by omega), Nat.add_sub_cancel]) ?_
                exact pt_iret C hr hk dX6_work_132 (rfl) (by simp only [okWrk, bI_t h_9, dl_t (by decide) (by omega) h_21, if_pos h_27, bI_t h_38, bI_t h_49, if_pos h_61, bI_f h_73, Bool.or_true, Bool.true_or, Bool.or_false, Bool.false_or, bI, cond_false, cond_true, Bool.and_true, Bool.true_and, Bool.and_false, Bool.false_and]) (by simp only [okWrk, bI_t h_9, dl_t (by decide) (by omega) h_21, if_pos h_27, bI_t h_38, bI_t h_49, if_pos h_61, bI_f h_73, Bool.or_true, Bool.true_or, Bool.or_false, Bool.false_or, bI, cond_false, cond_true, Bool.and_true, Bool.true_and, Bool.and_false, Bool.false_and])
              · refine pt_iload_n (pc' := 77) C dX6_work_76 rfl 4 rfl ?_
                refine pt_iconst (pc' := 78) C dX6_work_77 rfl (v := 1) (by decide) ?_
                refine pt_sipush (pc' := 81) C dX6_work_78 rfl (v := 999) (by decide) ?_
                refine pt_csI0 (pc' := 84) (As := [.int z, .int 1, .int 999]) (rest := []) C (mX6_isWithin l D cA z 1 999 ) (va_cwS 3 C.hts gX6_work_X6_isWithin rfl rfl rfl (by decide +kernel) ⟨Nat.le_of_ble_eq_true rfl, Nat.le_of_ble_eq_true rfl⟩) dX6_work_81 rfl rfl rfl (Nat.le_of_ble_eq_true rfl) ⟨Nat.le_of_ble_eq_true rfl, Nat.le_of_ble_eq_true rfl⟩ ?_
                refine pt_if_eq (pc' := 87) (tgt := 91) C dX6_work_84 (by decide) rfl (fun h_84 => ?_) (fun h_84 => ?_)
                · refine pt_iconst (pc' := 92) C dX6_work_91 rfl (v := 0) (by decide) ?_
                  refine pt_istore (pc' := 94) (lv' := [(6, .int 0), (5, .int 1), (0, .ref (aX 0)), (1, .int x), (2, .int y), (3, .int z), (4, .int w)]) C dX6_work_92 rfl (by decide) rfl ?_
                  refine pt_iload (pc' := 96) C dX6_work_94 rfl 1 rfl ?_
                  refine pt_if_ne (pc' := 99) (tgt := 106) C dX6_work_96 (by decide) rfl (fun h_96 => ?_) (fun h_96 => absurd h_96 (by decide))
                  refine pt_aload_n (pc' := 107) C dX6_work_106 rfl 2 rfl ?_
                  refine pt_get (pc' := 110) C in_6 dX6_work_107 rfl 0 6 rfl rfl (by decide) f_46 rfl ?_
                  refine pt_iload_n (pc' := 111) C dX6_work_110 rfl 3 rfl ?_
                  refine pt_iload_n (pc' := 112) C dX6_work_111 rfl 4 rfl ?_
                  refine pt_iload_n (pc' := 113) C dX6_work_112 rfl 5 rfl ?_
                  refine pt_iload (pc' := 115) C dX6_work_113 rfl 6 rfl ?_
                  refine pt_cvV (pc' := 118) (ws' := wX cA aX aB aT aN aG aW aD aO aV g t mk ++ wB cA aB n k bs wl fd kd sz lk ++ wO cA aO (wk + 1) (upd ok wk x) (upd op wk y) (upd oa wk z) (upd oc wk w)) (wr := wX cA aX aB aT aN aG aW aD aO aV g t mk ++ wB cA aB n k bs wl fd kd sz lk) (As := [.int x, .int y, .int z, .int w]) (rest := []) C (mX5_add l D cA aO wk ok op oa oc x y z w (of_decide_eq_true (dl_t (by decide) (by omega) h_21))) (cwV 4 C.hts gX6_work_X5_add rfl rfl rfl (by decide +kernel) ⟨Nat.le_of_ble_eq_true rfl, Nat.le_of_ble_eq_true rfl⟩) dX6_work_115 rfl 9 rfl rfl rfl rfl rfl (Nat.le_of_ble_eq_true rfl) ⟨Nat.le_of_ble_eq_true rfl, Nat.le_of_ble_eq_true rfl⟩ [9, 10, 11, 12, 13] [0, 1, 2, 3, 4, 5, 6, 7, 8] [0, 1, 2, 3, 4, 5, 6, 7, 8, 9, 10, 11, 12, 13] rfl (by decide) rfl (by decide) (by decide) rfl (by decide) ?_
                  refine pt_aload_n (pc' := 119) C dX6_work_118 rfl 2 rfl ?_
                  refine pt_iconst (pc' := 120) C dX6_work_119 rfl (v := 1) (by decide) ?_
                  refine pt_put (pc' := 123) (ty := .boolean) (ws' := wX cA aX aB aT aN aG aW aD aO aV g 1 mk ++ wB cA aB n k bs wl fd kd sz lk ++ wO cA aO (wk + 1) (upd ok wk x) (upd op wk y) (upd oa wk z) (upd oc wk w)) C in_6 tyX6 tyX6_ok nmX6 dX6_work_120 rfl 0 10 rfl rfl (by decide) f_65 rfl (by decide +kernel) (rfl) (rfl) (Nat.le_of_ble_eq_true rfl) rfl ?_
                  refine pt_aload_n (pc' := 124) C dX6_work_123 rfl 2 rfl ?_
                  refine pt_get (pc' := 127) C in_6 dX6_work_124 rfl 0 6 rfl rfl (by decide) f_46 rfl ?_
                  refine pt_get (pc' := 130) C in_5 dX6_work_127 rfl 9 0 rfl rfl (by decide) f_191 rfl ?_
                  refine pt_iconst (pc' := 131) C dX6_work_130 rfl (v := 1) (by decide) ?_
                  refine pt_isub (pc' := 132) C dX6_work_131 rfl ?_
                  refine pt_eq (st' := [.int (nI wk)]) rfl rfl (by rw [nI_m1 (by omega), Nat.add_sub_cancel]) ?_
                  exact pt_iret C hr hk dX6_work_132 (rfl) (by simp only [okWrk, bI_t h_9, dl_t (by decide) (by omega) h_21, if_pos h_27, bI_t h_38, bI_t h_49, if_pos h_61, bI_t h_73, bI_f h_84, Bool.or_true, Bool.true_or, Bool.or_false, Bool.false_or, bI, cond_false, cond_true, Bool.and_true, Bool.true_and, Bool.and_false, Bool.false_and]) (by simp only [okWrk, bI_t h_9, dl_t (by decide) (by omega) h_21, if_pos h_27, bI_t h_38, bI_t h_49, if_pos h_61, bI_t h_73, bI_f h_84, Bool.or_true, Bool.true_or, Bool.or_false, Bool.false_or, bI, cond_false, cond_true, Bool.and_true, Bool.true_and, Bool.and_false, Bool.false_and])
                · refine pt_iconst (pc' := 88) C dX6_work_87 rfl (v := 1) (by decide) ?_
                  refine pt_goto (pc' := 92) C dX6_work_88 (by decide) ?_
                  refine pt_istore (pc' := 94) (lv' := [(6, .int 1), (5, .int 1), (0, .ref (aX 0)), (1, .int x), (2, .int y), (3, .int z), (4, .int w)]) C dX6_work_92 rfl (by decide) rfl ?_
                  refine pt_iload (pc' := 96) C dX6_work_94 rfl 1 rfl ?_
                  refine pt_if_ne (pc' := 99) (tgt := 106) C dX6_work_96 (by decide) rfl (fun h_96 => ?_) (fun h_96 => absurd h_96 (by decide))
                  refine pt_aload_n (pc' := 107) C dX6_work_106 rfl 2 rfl ?_
                  refine pt_get (pc' := 110) C in_6 dX6_work_107 rfl 0 6 rfl rfl (by decide) f_46 rfl ?_
                  refine pt_iload_n (pc' := 111) C dX6_work_110 rfl 3 rfl ?_
                  refine pt_iload_n (pc' := 112) C dX6_work_111 rfl 4 rfl ?_
                  refine pt_iload_n (pc' := 113) C dX6_work_112 rfl 5 rfl ?_
                  refine pt_iload (pc' := 115) C dX6_work_113 rfl 6 rfl ?_
                  refine pt_cvV (pc' := 118) (ws' := wX cA aX aB aT aN aG aW aD aO aV g t mk ++ wB cA aB n k bs wl fd kd sz lk ++ wO cA aO (wk + 1) (upd ok wk x) (upd op wk y) (upd oa wk z) (upd oc wk w)) (wr := wX cA aX aB aT aN aG aW aD aO aV g t mk ++ wB cA aB n k bs wl fd kd sz lk) (As := [.int x, .int y, .int z, .int w]) (rest := []) C (mX5_add l D cA aO wk ok op oa oc x y z w (of_decide_eq_true (dl_t (by decide) (by omega) h_21))) (cwV 4 C.hts gX6_work_X5_add rfl rfl rfl (by decide +kernel) ⟨Nat.le_of_ble_eq_true rfl, Nat.le_of_ble_eq_true rfl⟩) dX6_work_115 rfl 9 rfl rfl rfl rfl rfl (Nat.le_of_ble_eq_true rfl) ⟨Nat.le_of_ble_eq_true rfl, Nat.le_of_ble_eq_true rfl⟩ [9, 10, 11, 12, 13] [0, 1, 2, 3, 4, 5, 6, 7, 8] [0, 1, 2, 3, 4, 5, 6, 7, 8, 9, 10, 11, 12, 13] rfl (by decide) rfl (by decide) (by decide) rfl (by decide) ?_
                  refine pt_aload_n (pc' := 119) C dX6_work_118 rfl 2 rfl ?_
                  refine pt_iconst (pc' := 120) C dX6_work_119 rfl (v := 1) (by decide) ?_
                  refine pt_put (pc' := 123) (ty := .boolean) (ws' := wX cA aX aB aT aN aG aW aD aO aV g 1 mk ++ wB cA aB n k bs wl fd kd sz lk ++ wO cA aO (wk + 1) (upd ok wk x) (upd op wk y) (upd oa wk z) (upd oc wk w)) C in_6 tyX6 tyX6_ok nmX6 dX6_work_120 rfl 0 10 rfl rfl (by decide) f_65 rfl (by decide +kernel) (rfl) (rfl) (Nat.le_of_ble_eq_true rfl) rfl ?_
                  refine pt_aload_n (pc' := 124) C dX6_work_123 rfl 2 rfl ?_
                  refine pt_get (pc' := 127) C in_6 dX6_work_124 rfl 0 6 rfl rfl (by decide) f_46 rfl ?_
                  refine pt_get (pc' := 130) C in_5 dX6_work_127 rfl 9 0 rfl rfl (by decide) f_191 rfl ?_
                  refine pt_iconst (pc' := 131) C dX6_work_130 rfl (v := 1) (by decide) ?_
                  refine pt_isub (pc' := 132) C dX6_work_131 rfl ?_
                  refine pt_eq (st' := [.int (nI wk)]) rfl rfl (by rw [nI_m1 (by omega), Nat.add_sub_cancel]) ?_
                  exact pt_iret C hr hk dX6_work_132 (rfl) (by simp only [okWrk, bI_t h_9, dl_t (by decide) (by omega) h_21, if_pos h_27, bI_t h_38, bI_t h_49, if_pos h_61, bI_t h_73, bI_t h_84, Bool.or_true, Bool.true_or, Bool.or_false, Bool.false_or, bI, cond_false, cond_true, Bool.and_true, Bool.true_and, Bool.and_false, Bool.false_and]) (by simp only [okWrk, bI_t h_9, dl_t (by decide) (by omega) h_21, if_pos h_27, bI_t h_38, bI_t h_49, if_pos h_61, bI_t h_73, bI_t h_84, Bool.or_true, Bool.true_or, Bool.or_false, Bool.false_or, bI, cond_false, cond_true, Bool.and_true, Bool.true_and, Bool.and_false, Bool.false_and])
    · refine pt_iconst (pc' := 25) C dX6_work_24 rfl (v := -1) (by decide) ?_
      exact pt_iret C hr hk dX6_work_25 (rfl) (by simp only [okWrk, bI_t h_9, dl_f (by decide) (by omega) h_21, Bool.or_true, Bool.true_or, Bool.or_false, Bool.false_or, bI, cond_false, cond_true, Bool.and_true, Bool.true_and, Bool.and_false, Bool.false_and]) (by simp only [okWrk, bI_t h_9, dl_f (by decide) (by omega) h_21, Bool.or_true, Bool.true_or, Bool.or_false, Bool.false_or, bI, cond_false, cond_true, Bool.and_true, Bool.true_and, Bool.and_false, Bool.false_and])
