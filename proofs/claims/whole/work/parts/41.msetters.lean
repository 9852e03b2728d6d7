set_option maxHeartbeats 4000000 in
set_option maxRecDepth 100000 in
theorem mX7_fields (l : Launch) (D : va_G) (cA : ClassId) (aM : Nat → Nat) (th : Int32) (n : Nat) (it : Int32) (k : Int32) (td : Nat) (gn : Nat) (dr : Nat) (wk : Nat) (sv : Nat) (P : Nat → Nat → Int32) (sd : Nat → Int32) (se : Nat → Int32) (sc : Nat → Int32) (ba : Nat → Int32) (pa : Nat → Int32) (le : Nat → Int32) (mo : Nat → Int32) (x : Int32) (hn : 2 ≤ n) (hm : n ≤ 12) : mt_I l yX7_fields wsX7_fields { frames := 1, cells := 0, slots := 0, locals := 22 } D [(cA, .int)] [.ref (aM 0), .int x] (wM cA aM th n it k td gn dr wk sv P sd se sc ba pa le mo) (bI (okFie it x)) (wM cA aM 0 (cond (okFie it x) (x.toNatClampNeg) n) it k td gn dr wk sv P sd se sc ba pa le mo) := by
  refine mt_ofI (cc := cX7_fields) (maxL := 2) (ret := (some .boolean)) (lv := [(0, .ref (aM 0)), (1, .int x)]) (by decide) rfl (Nat.le_of_ble_eq_true rfl) rfl ?_
  intro p e s m args below meth c A C hr hk
  have f_1 := C.hts (.fieldLink RX7 1 "ShoreFieldsModel" "thrown" "I") (by decide +kernel)
  have in_7 : ∀ w ∈ u_ws RX7 TX7 37, w ∈ wsX7_fields := by decide +kernel
  have f_108 := C.hts (.fieldLink RX7 108 "ShoreFieldsModel" "isTold" "Z") (by decide +kernel)
  have f_13 := C.hts (.fieldLink RX7 13 "ShoreFieldsModel" "fields" "I") (by decide +kernel)
  refine pt_aload_n (pc' := 1) C dX7_fields_0 rfl 0 rfl ?_
  refine pt_iconst (pc' := 2) C dX7_fields_1 rfl (v := 0) (by decide) ?_
  refine pt_put (pc' := 5) (ty := .int) (ws' := wM cA aM 0 n it k td gn dr wk sv P sd se sc ba pa le mo) C in_7 tyX7 tyX7_ok nmX7 dX7_fields_2 rfl 0 0 rfl rfl (by decide) f_1 rfl (by decide +kernel) (rfl) (rfl) (Nat.le_of_ble_eq_true rfl) rfl ?_
  refine pt_iload_n (pc' := 6) C dX7_fields_5 rfl 1 rfl ?_
  refine pt_iconst (pc' := 7) C dX7_fields_6 rfl (v := 2) (by decide) ?_
  refine pt_bipush (pc' := 9) C dX7_fields_7 rfl (v := 12) (by decide) ?_
  refine pt_csI0 (pc' := 12) (As := [.int x, .int 2, .int 12]) (rest := []) C (mX7_within l D cA x 2 12 ) (va_cwS 3 C.hts gX7_fields_X7_within rfl rfl rfl (by decide +kernel) ⟨Nat.le_of_ble_eq_true rfl, Nat.le_of_ble_eq_true rfl⟩) dX7_fields_9 rfl rfl rfl (Nat.le_of_ble_eq_true rfl) ⟨Nat.le_of_ble_eq_true rfl, Nat.le_of_ble_eq_true rfl⟩ ?_
  refine pt_if_eq (pc' := 15) (tgt := 22) C dX7_fields_12 (by decide) rfl (fun h_12 => ?_) (fun h_12 => ?_)
  · refine pt_iconst (pc' := 23) C dX7_fields_22 rfl (v := 0) (by decide) ?_
    exact pt_iret C hr hk dX7_fields_23 (rfl) (by simp only [okFie, bI_f h_12, bI, cond_false, cond_true, Bool.and_true, Bool.true_and, Bool.and_false, Bool.false_and] <;> rfl) (by simp only [okFie, bI_f h_12, bI, cond_false, cond_true, Bool.and_true, Bool.true_and, Bool.and_false, Bool.false_and] <;> rfl)
  · refine pt_aload_n (pc' := 16) C dX7_fields_15 rfl 0 rfl ?_
    refine pt_get (pc' := 19) C in_7 dX7_fields_16 rfl 0 2 rfl rfl (by decide) f_108 rfl ?_
    refine pt_if_eq (pc' := 22) (tgt := 24) C dX7_fields_19 (by decide) rfl (fun h_19 => ?_) (fun h_19 => ?_)
    · refine pt_aload_n (pc' := 25) C dX7_fields_24 rfl 0 rfl ?_
      refine pt_iload_n (pc' := 26) C dX7_fields_25 rfl 1 rfl ?_
      refine pt_eq (st' := [.int (nI x.toNatClampNeg), .ref (aM 0)]) rfl rfl (by rw [← (inR_in (b := 12) (inR_lo (bI_t h_12)) (by decide)).1]) ?_
      refine pt_put (pc' := 29) (ty := .int) (ws' := wM cA aM 0 x.toNatClampNeg it k td gn dr wk sv P sd se sc ba pa le mo) C in_7 tyX7 tyX7_ok nmX7 dX7_fields_26 rfl 0 1 rfl rfl (by decide) f_13 rfl (by decide +kernel) (rfl) (rfl) (Nat.le_of_ble_eq_true rfl) rfl ?_
      refine pt_iconst (pc' := 30) C dX7_fields_29 rfl (v := 1) (by decide) ?_
      exact pt_iret C hr hk dX7_fields_30 (rfl) (by simp only [okFie, bI_t h_12, if_pos h_19, bI, cond_false, cond_true, Bool.and_true, Bool.true_and, Bool.and_false, Bool.false_and] <;> rfl) (by simp only [okFie, bI_t h_12, if_pos h_19, bI, cond_false, cond_true, Bool.and_true, Bool.true_and, Bool.and_false, Bool.false_and] <;> rfl)
    · refine pt_iconst (pc' := 23) C dX7_fields_22 rfl (v := 0) (by decide) ?_
      exact pt_iret C hr hk dX7_fields_23 (rfl) (by simp only [okFie, bI_t h_12, if_neg h_19, bI, cond_false, cond_true, Bool.and_true, Bool.true_and, Bool.and_false, Bool.false_and] <;> rfl) (by simp only [okFie, bI_t h_12, if_neg h_19, bI, cond_false, cond_true, Bool.and_true, Bool.true_and, Bool.and_false, Bool.false_and] <;> rfl)

set_option maxHeartbeats 4000000 in
set_option maxRecDepth 100000 in
theorem mX7_sand (l : Launch) (D : va_G) (cA : ClassId) (aM : Nat → Nat) (th : Int32) (n : Nat) (it : Int32) (k : Int32) (td : Nat) (gn : Nat) (dr : Nat) (wk : Nat) (sv : Nat) (P : Nat → Nat → Int32) (sd : Nat → Int32) (se : Nat → Int32) (sc : Nat → Int32) (ba : Nat → Int32) (pa : Nat → Int32) (le : Nat → Int32) (mo : Nat → Int32) (x : Int32) (y : Int32) (hn : 2 ≤ n) (hm : n ≤ 12) (hg : gn ≤ 120) : mt_I l yX7_sand wsX7_sand { frames := 2, cells := 0, slots := 0, locals := 43 } D [(cA, .int)] [.ref (aM 0), .int x, .int y] (wM cA aM th n it k td gn dr wk sv P sd se sc ba pa le mo) (bI (okSand gn n x y)) (wM cA aM 0 n (cond (okSand gn n x y) (1) it) k td gn dr wk sv (cond (okSand gn n x y) (va_up P 0 (upd (P 0) x.toNatClampNeg y)) P) sd se sc ba pa le mo) := by
  refine mt_ofI (cc := cX7_sand) (maxL := 3) (ret := (some .boolean)) (lv := [(0, .ref (aM 0)), (1, .int x), (2, .int y)]) (by decide) rfl (Nat.le_of_ble_eq_true rfl) rfl ?_
  intro p e s m args below meth c A C hr hk
  have f_1 := C.hts (.fieldLink RX7 1 "ShoreFieldsModel" "thrown" "I") (by decide +kernel)
  have in_7 : ∀ w ∈ u_ws RX7 TX7 37, w ∈ wsX7_sand := by decide +kernel
  have k_116 := C.hts (.constant RX7 116 (99999)) (by decide +kernel)
  have f_117 := C.hts (.fieldLink RX7 117 "ShoreFieldsModel" "gone" "I") (by decide +kernel)
  have f_16 := C.hts (.fieldLink RX7 16 "ShoreFieldsModel" "begin" "[I") (by decide +kernel)
  have f_108 := C.hts (.fieldLink RX7 108 "ShoreFieldsModel" "isTold" "Z") (by decide +kernel)
  refine pt_aload_n (pc' := 1) C dX7_sand_0 rfl 0 rfl ?_
  refine pt_iconst (pc' := 2) C dX7_sand_1 rfl (v := 0) (by decide) ?_
  refine pt_put (pc' := 5) (ty := .int) (ws' := wM cA aM 0 n it k td gn dr wk sv P sd se sc ba pa le mo) C in_7 tyX7 tyX7_ok nmX7 dX7_sand_2 rfl 0 0 rfl rfl (by decide) f_1 rfl (by decide +kernel) (rfl) (rfl) (Nat.le_of_ble_eq_true rfl) rfl ?_
  refine pt_aload_n (pc' := 6) C dX7_sand_5 rfl 0 rfl ?_
  refine pt_iload_n (pc' := 7) C dX7_sand_6 rfl 1 rfl ?_
  refine pt_cvI0 (pc' := 10) (w1 := wM cA aM 0 n it k td gn dr wk sv P sd se sc ba pa le mo) (As := [.int x]) (rest := []) C (mX7_isField l D cA aM 0 n it k td gn dr wk sv P sd se sc ba pa le mo x (by first | assumption | omega) (by first | assumption | omega)) (cwV 1 C.hts gX7_sand_X7_isField rfl rfl rfl (by decide +kernel) ⟨Nat.le_of_ble_eq_true rfl, Nat.le_of_ble_eq_true rfl⟩) dX7_sand_7 rfl 0 rfl rfl rfl rfl rfl (Nat.le_of_ble_eq_true rfl) ⟨Nat.le_of_ble_eq_true rfl, Nat.le_of_ble_eq_true rfl⟩ ?_
  refine pt_if_eq (pc' := 13) (tgt := 30) C dX7_sand_10 (by decide) rfl (fun h_10 => ?_) (fun h_10 => ?_)
  · refine pt_iconst (pc' := 31) C dX7_sand_30 rfl (v := 0) (by decide) ?_
    exact pt_iret C hr hk dX7_sand_31 (rfl) (by simp only [okSand, bI_f h_10, bI, cond_false, cond_true, Bool.and_true, Bool.true_and, Bool.and_false, Bool.false_and] <;> rfl) (by simp only [okSand, bI_f h_10, bI, cond_false, cond_true, Bool.and_true, Bool.true_and, Bool.and_false, Bool.false_and] <;> rfl)
  · refine pt_iload_n (pc' := 14) C dX7_sand_13 rfl 2 rfl ?_
    refine pt_iconst (pc' := 15) C dX7_sand_14 rfl (v := 0) (by decide) ?_
    refine pt_ldc (pc' := 17) C dX7_sand_15 rfl k_116 ?_
    refine pt_csI0 (pc' := 20) (As := [.int y, .int 0, .int 99999]) (rest := []) C (mX7_within l D cA y 0 99999 ) (va_cwS 3 C.hts gX7_sand_X7_within rfl rfl rfl (by decide +kernel) ⟨Nat.le_of_ble_eq_true rfl, Nat.le_of_ble_eq_true rfl⟩) dX7_sand_17 rfl rfl rfl (Nat.le_of_ble_eq_true rfl) ⟨Nat.le_of_ble_eq_true rfl, Nat.le_of_ble_eq_true rfl⟩ ?_
    refine pt_if_eq (pc' := 23) (tgt := 30) C dX7_sand_20 (by decide) rfl (fun h_20 => ?_) (fun h_20 => ?_)
    · refine pt_iconst (pc' := 31) C dX7_sand_30 rfl (v := 0) (by decide) ?_
      exact pt_iret C hr hk dX7_sand_31 (rfl) (by simp only [okSand, bI_t h_10, bI_f h_20, bI, cond_false, cond_true, Bool.and_true, Bool.true_and, Bool.and_false, Bool.false_and] <;> rfl) (by simp only [okSand, bI_t h_10, bI_f h_20, bI, cond_false, cond_true, Bool.and_true, Bool.true_and, Bool.and_false, Bool.false_and] <;> rfl)
    · refine pt_aload_n (pc' := 24) C dX7_sand_23 rfl 0 rfl ?_
      refine pt_get (pc' := 27) C in_7 dX7_sand_24 rfl 0 13 rfl rfl (by decide) f_117 rfl ?_
      refine pt_if_le (pc' := 30) (tgt := 32) C dX7_sand_27 (by decide) rfl (fun h_27 => ?_) (fun h_27 => ?_)
      · refine pt_aload_n (pc' := 33) C dX7_sand_32 rfl 0 rfl ?_
        refine pt_get (pc' := 36) C in_7 dX7_sand_33 rfl 0 3 rfl rfl (by decide) f_16 rfl ?_
        refine pt_iload_n (pc' := 37) C dX7_sand_36 rfl 1 rfl ?_
        refine pt_iload_n (pc' := 38) C dX7_sand_37 rfl 2 rfl ?_
        refine pt_iast (pc' := 39) (ws' := wM cA aM 0 n it k td gn dr wk sv (va_up P 0 (upd (P 0) x.toNatClampNeg y)) sd se sc ba pa le mo) C dX7_sand_38 rfl 1 rfl rfl x.toNatClampNeg ((inF_in hm (bI_t h_10)).1) (by have := (inF_in hm (bI_t h_10)).2; omega) (by decide) rfl ?_
        refine pt_aload_n (pc' := 40) C dX7_sand_39 rfl 0 rfl ?_
        refine pt_iconst (pc' := 41) C dX7_sand_40 rfl (v := 1) (by decide) ?_
        refine pt_put (pc' := 44) (ty := .boolean) (ws' := wM cA aM 0 n 1 k td gn dr wk sv (va_up P 0 (upd (P 0) x.toNatClampNeg y)) sd se sc ba pa le mo) C in_7 tyX7 tyX7_ok nmX7 dX7_sand_41 rfl 0 2 rfl rfl (by decide) f_108 rfl (by decide +kernel) (rfl) (rfl) (Nat.le_of_ble_eq_true rfl) rfl ?_
        refine pt_iconst (pc' := 45) C dX7_sand_44 rfl (v := 1) (by decide) ?_
        exact pt_iret C hr hk dX7_sand_45 (rfl) (by simp only [okSand, bI_t h_10, bI_t h_20, g1_t hg h_27, bI, cond_false, cond_true, Bool.and_true, Bool.true_and, Bool.and_false, Bool.false_and] <;> rfl) (by simp only [okSand, bI_t h_10, bI_t h_20, g1_t hg h_27, bI, cond_false, cond_true, Bool.and_true, Bool.true_and, Bool.and_false, Bool.false_and] <;> rfl)
      · refine pt_iconst (pc' := 31) C dX7_sand_30 rfl (v := 0) (by decide) ?_
        exact pt_iret C hr hk dX7_sand_31 (rfl) (by simp only [okSand, bI_t h_10, bI_t h_20, g1_f hg h_27, bI, cond_false, cond_true, Bool.and_true, Bool.true_and, Bool.and_false, Bool.false_and] <;> rfl) (by simp only [okSand, bI_t h_10, bI_t h_20, g1_f hg h_27, bI, cond_false, cond_true, Bool.and_true, Bool.true_and, Bool.and_false, Bool.false_and] <;> rfl)

set_option maxHeartbeats 4000000 in
set_option maxRecDepth 100000 in
theorem mX7_wall (l : Launch) (D : va_G) (cA : ClassId) (aM : Nat → Nat) (th : Int32) (n : Nat) (it : Int32) (k : Int32) (td : Nat) (gn : Nat) (dr : Nat) (wk : Nat) (sv : Nat) (P : Nat → Nat → Int32) (sd : Nat → Int32) (se : Nat → Int32) (sc : Nat → Int32) (ba : Nat → Int32) (pa : Nat → Int32) (le : Nat → Int32) (mo : Nat → Int32) (x : Int32) (y : Int32) (hn : 2 ≤ n) (hm : n ≤ 12) (hg : gn ≤ 120) : mt_I l yX7_wall wsX7_wall { frames := 2, cells := 0, slots := 0, locals := 43 } D [(cA, .int)] [.ref (aM 0), .int x, .int y] (wM cA aM th n it k td gn dr wk sv P sd se sc ba pa le mo) (bI (okWal gn n x y)) (wM cA aM 0 n (cond (okWal gn n x y) (1) it) k td gn dr wk sv (cond (okWal gn n x y) (va_up P 4 (upd (P 4) x.toNatClampNeg y)) P) sd se sc ba pa le mo) := by
  refine mt_ofI (cc := cX7_wall) (maxL := 3) (ret := (some .boolean)) (lv := [(0, .ref (aM 0)), (1, .int x), (2, .int y)]) (by decide) rfl (Nat.le_of_ble_eq_true rfl) rfl ?_
  intro p e s m args below meth c A C hr hk
  have f_1 := C.hts (.fieldLink RX7 1 "ShoreFieldsModel" "thrown" "I") (by decide +kernel)
  have in_7 : ∀ w ∈ u_ws RX7 TX7 37, w ∈ wsX7_wall := by decide +kernel
  have f_117 := C.hts (.fieldLink RX7 117 "ShoreFieldsModel" "gone" "I") (by decide +kernel)
  have f_29 := C.hts (.fieldLink RX7 29 "ShoreFieldsModel" "walls" "[I") (by decide +kernel)
  have f_108 := C.hts (.fieldLink RX7 108 "ShoreFieldsModel" "isTold" "Z") (by decide +kernel)
  refine pt_aload_n (pc' := 1) C dX7_wall_0 rfl 0 rfl ?_
  refine pt_iconst (pc' := 2) C dX7_wall_1 rfl (v := 0) (by decide) ?_
  refine pt_put (pc' := 5) (ty := .int) (ws' := wM cA aM 0 n it k td gn dr wk sv P sd se sc ba pa le mo) C in_7 tyX7 tyX7_ok nmX7 dX7_wall_2 rfl 0 0 rfl rfl (by decide) f_1 rfl (by decide +kernel) (rfl) (rfl) (Nat.le_of_ble_eq_true rfl) rfl ?_
  refine pt_aload_n (pc' := 6) C dX7_wall_5 rfl 0 rfl ?_
  refine pt_iload_n (pc' := 7) C dX7_wall_6 rfl 1 rfl ?_
  refine pt_cvI0 (pc' := 10) (w1 := wM cA aM 0 n it k td gn dr wk sv P sd se sc ba pa le mo) (As := [.int x]) (rest := []) C (mX7_isField l D cA aM 0 n it k td gn dr wk sv P sd se sc ba pa le mo x (by first | assumption | omega) (by first | assumption | omega)) (cwV 1 C.hts gX7_wall_X7_isField rfl rfl rfl (by decide +kernel) ⟨Nat.le_of_ble_eq_true rfl, Nat.le_of_ble_eq_true rfl⟩) dX7_wall_7 rfl 0 rfl rfl rfl rfl rfl (Nat.le_of_ble_eq_true rfl) ⟨Nat.le_of_ble_eq_true rfl, Nat.le_of_ble_eq_true rfl⟩ ?_
  refine pt_if_eq (pc' := 13) (tgt := 31) C dX7_wall_10 (by decide) rfl (fun h_10 => ?_) (fun h_10 => ?_)
  · refine pt_iconst (pc' := 32) C dX7_wall_31 rfl (v := 0) (by decide) ?_
    exact pt_iret C hr hk dX7_wall_32 (rfl) (by simp only [okWal, bI_f h_10, bI, cond_false, cond_true, Bool.and_true, Bool.true_and, Bool.and_false, Bool.false_and] <;> rfl) (by simp only [okWal, bI_f h_10, bI, cond_false, cond_true, Bool.and_true, Bool.true_and, Bool.and_false, Bool.false_and] <;> rfl)
  · refine pt_iload_n (pc' := 14) C dX7_wall_13 rfl 2 rfl ?_
    refine pt_iconst (pc' := 15) C dX7_wall_14 rfl (v := 0) (by decide) ?_
    refine pt_sipush (pc' := 18) C dX7_wall_15 rfl (v := 999) (by decide) ?_
    refine pt_csI0 (pc' := 21) (As := [.int y, .int 0, .int 999]) (rest := []) C (mX7_within l D cA y 0 999 ) (va_cwS 3 C.hts gX7_wall_X7_within rfl rfl rfl (by decide +kernel) ⟨Nat.le_of_ble_eq_true rfl, Nat.le_of_ble_eq_true rfl⟩) dX7_wall_18 rfl rfl rfl (Nat.le_of_ble_eq_true rfl) ⟨Nat.le_of_ble_eq_true rfl, Nat.le_of_ble_eq_true rfl⟩ ?_
    refine pt_if_eq (pc' := 24) (tgt := 31) C dX7_wall_21 (by decide) rfl (fun h_21 => ?_) (fun h_21 => ?_)
    · refine pt_iconst (pc' := 32) C dX7_wall_31 rfl (v := 0) (by decide) ?_
      exact pt_iret C hr hk dX7_wall_32 (rfl) (by simp only [okWal, bI_t h_10, bI_f h_21, bI, cond_false, cond_true, Bool.and_true, Bool.true_and, Bool.and_false, Bool.false_and] <;> rfl) (by simp only [okWal, bI_t h_10, bI_f h_21, bI, cond_false, cond_true, Bool.and_true, Bool.true_and, Bool.and_false, Bool.false_and] <;> rfl)
    · refine pt_aload_n (pc' := 25) C dX7_wall_24 rfl 0 rfl ?_
      refine pt_get (pc' := 28) C in_7 dX7_wall_25 rfl 0 13 rfl rfl (by decide) f_117 rfl ?_
      refine pt_if_le (pc' := 31) (tgt := 33) C dX7_wall_28 (by decide) rfl (fun h_28 => ?_) (fun h_28 => ?_)
      · refine pt_aload_n (pc' := 34) C dX7_wall_33 rfl 0 rfl ?_
        refine pt_get (pc' := 37) C in_7 dX7_wall_34 rfl 0 7 rfl rfl (by decide) f_29 rfl ?_
        refine pt_iload_n (pc' := 38) C dX7_wall_37 rfl 1 rfl ?_
        refine pt_iload_n (pc' := 39) C dX7_wall_38 rfl 2 rfl ?_
        refine pt_iast (pc' := 40) (ws' := wM cA aM 0 n it k td gn dr wk sv (va_up P 4 (upd (P 4) x.toNatClampNeg y)) sd se sc ba pa le mo) C dX7_wall_39 rfl 5 rfl rfl x.toNatClampNeg ((inF_in hm (bI_t h_10)).1) (by have := (inF_in hm (bI_t h_10)).2; omega) (by decide) rfl ?_
        refine pt_aload_n (pc' := 41) C dX7_wall_40 rfl 0 rfl ?_
        refine pt_iconst (pc' := 42) C dX7_wall_41 rfl (v := 1) (by decide) ?_
        refine pt_put (pc' := 45) (ty := .boolean) (ws' := wM cA aM 0 n 1 k td gn dr wk sv (va_up P 4 (upd (P 4) x.toNatClampNeg y)) sd se sc ba pa le mo) C in_7 tyX7 tyX7_ok nmX7 dX7_wall_42 rfl 0 2 rfl rfl (by decide) f_108 rfl (by decide +kernel) (rfl) (rfl) (Nat.le_of_ble_eq_true rfl) rfl ?_
        refine pt_iconst (pc' := 46) C dX7_wall_45 rfl (v := 1) (by decide) ?_
        exact pt_iret C hr hk dX7_wall_46 (rfl) (by simp only [okWal, bI_t h_10, bI_t h_21, g1_t hg h_28, bI, cond_false, cond_true, Bool.and_true, Bool.true_and, Bool.and_false, Bool.false_and] <;> rfl) (by simp only [okWal, bI_t h_10, bI_t h_21, g1_t hg h_28, bI, cond_false, cond_true, Bool.and_true, Bool.true_and, Bool.and_false, Bool.false_and] <;> rfl)
      · refine pt_iconst (pc' := 32) C dX7_wall_31 rfl (v := 0) (by decide) ?_
        exact pt_iret C hr hk dX7_wall_32 (rfl) (by simp only [okWal, bI_t h_10, bI_t h_21, g1_f hg h_28, bI, cond_false, cond_true, Bool.and_true, Bool.true_and, Bool.and_false, Bool.false_and] <;> rfl) (by simp only [okWal, bI_t h_10, bI_t h_21, g1_f hg h_28, bI, cond_false, cond_true, Bool.and_true, Bool.true_and, Bool.and_false, Bool.false_and] <;> rfl)

set_option maxHeartbeats 4000000 in
set_option maxRecDepth 100000 in
theorem mX7_feed (l : Launch) (D : va_G) (cA : ClassId) (aM : Nat → Nat) (th : Int32) (n : Nat) (it : Int32) (k : Int32) (td : Nat) (gn : Nat) (dr : Nat) (wk : Nat) (sv : Nat) (P : Nat → Nat → Int32) (sd : Nat → Int32) (se : Nat → Int32) (sc : Nat → Int32) (ba : Nat → Int32) (pa : Nat → Int32) (le : Nat → Int32) (mo : Nat → Int32) (x : Int32) (y : Int32) (hn : 2 ≤ n) (hm : n ≤ 12) (hg : gn ≤ 120) : mt_I l yX7_feed wsX7_feed { frames := 1, cells := 0, slots := 0, locals := 22 } D [(cA, .int)] [.ref (aM 0), .int x, .int y] (wM cA aM th n it k td gn dr wk sv P sd se sc ba pa le mo) (bI (okFee gn x y)) (wM cA aM 0 n (cond (okFee gn x y) (1) it) k td gn dr wk sv (cond (okFee gn x y) (va_up P 5 (upd (P 5) x.toNatClampNeg y)) P) sd se sc ba pa le mo) := by
  refine mt_ofI (cc := cX7_feed) (maxL := 3) (ret := (some .boolean)) (lv := [(0, .ref (aM 0)), (1, .int x), (2, .int y)]) (by decide) rfl (Nat.le_of_ble_eq_true rfl) rfl ?_
  intro p e s m args below meth c A C hr hk
  have f_1 := C.hts (.fieldLink RX7 1 "ShoreFieldsModel" "thrown" "I") (by decide +kernel)
  have in_7 : ∀ w ∈ u_ws RX7 TX7 37, w ∈ wsX7_feed := by decide +kernel
  have f_117 := C.hts (.fieldLink RX7 117 "ShoreFieldsModel" "gone" "I") (by decide +kernel)
  have f_32 := C.hts (.fieldLink RX7 32 "ShoreFieldsModel" "feeds" "[I") (by decide +kernel)
  have f_108 := C.hts (.fieldLink RX7 108 "ShoreFieldsModel" "isTold" "Z") (by decide +kernel)
  refine pt_aload_n (pc' := 1) C dX7_feed_0 rfl 0 rfl ?_
  refine pt_iconst (pc' := 2) C dX7_feed_1 rfl (v := 0) (by decide) ?_
  refine pt_put (pc' := 5) (ty := .int) (ws' := wM cA aM 0 n it k td gn dr wk sv P sd se sc ba pa le mo) C in_7 tyX7 tyX7_ok nmX7 dX7_feed_2 rfl 0 0 rfl rfl (by decide) f_1 rfl (by decide +kernel) (rfl) (rfl) (Nat.le_of_ble_eq_true rfl) rfl ?_
  refine pt_iload_n (pc' := 6) C dX7_feed_5 rfl 1 rfl ?_
  refine pt_iconst (pc' := 7) C dX7_feed_6 rfl (v := 0) (by decide) ?_
  refine pt_iconst (pc' := 8) C dX7_feed_7 rfl (v := 1) (by decide) ?_
  refine pt_csI0 (pc' := 11) (As := [.int x, .int 0, .int 1]) (rest := []) C (mX7_within l D cA x 0 1 ) (va_cwS 3 C.hts gX7_feed_X7_within rfl rfl rfl (by decide +kernel) ⟨Nat.le_of_ble_eq_true rfl, Nat.le_of_ble_eq_true rfl⟩) dX7_feed_8 rfl rfl rfl (Nat.le_of_ble_eq_true rfl) ⟨Nat.le_of_ble_eq_true rfl, Nat.le_of_ble_eq_true rfl⟩ ?_
  refine pt_if_eq (pc' := 14) (tgt := 32) C dX7_feed_11 (by decide) rfl (fun h_11 => ?_) (fun h_11 => ?_)
  · refine pt_iconst (pc' := 33) C dX7_feed_32 rfl (v := 0) (by decide) ?_
    exact pt_iret C hr hk dX7_feed_33 (rfl) (by simp only [okFee, bI_f h_11, bI, cond_false, cond_true, Bool.and_true, Bool.true_and, Bool.and_false, Bool.false_and] <;> rfl) (by simp only [okFee, bI_f h_11, bI, cond_false, cond_true, Bool.and_true, Bool.true_and, Bool.and_false, Bool.false_and] <;> rfl)
  · refine pt_iload_n (pc' := 15) C dX7_feed_14 rfl 2 rfl ?_
    refine pt_iconst (pc' := 16) C dX7_feed_15 rfl (v := 0) (by decide) ?_
    refine pt_sipush (pc' := 19) C dX7_feed_16 rfl (v := 200) (by decide) ?_
    refine pt_csI0 (pc' := 22) (As := [.int y, .int 0, .int 200]) (rest := []) C (mX7_within l D cA y 0 200 ) (va_cwS 3 C.hts gX7_feed_X7_within rfl rfl rfl (by decide +kernel) ⟨Nat.le_of_ble_eq_true rfl, Nat.le_of_ble_eq_true rfl⟩) dX7_feed_19 rfl rfl rfl (Nat.le_of_ble_eq_true rfl) ⟨Nat.le_of_ble_eq_true rfl, Nat.le_of_ble_eq_true rfl⟩ ?_
    refine pt_if_eq (pc' := 25) (tgt := 32) C dX7_feed_22 (by decide) rfl (fun h_22 => ?_) (fun h_22 => ?_)
    · refine pt_iconst (pc' := 33) C dX7_feed_32 rfl (v := 0) (by decide) ?_
      exact pt_iret C hr hk dX7_feed_33 (rfl) (by simp only [okFee, bI_t h_11, bI_f h_22, bI, cond_false, cond_true, Bool.and_true, Bool.true_and, Bool.and_false, Bool.false_and] <;> rfl) (by simp only [okFee, bI_t h_11, bI_f h_22, bI, cond_false, cond_true, Bool.and_true, Bool.true_and, Bool.and_false, Bool.false_and] <;> rfl)
    · refine pt_aload_n (pc' := 26) C dX7_feed_25 rfl 0 rfl ?_
      refine pt_get (pc' := 29) C in_7 dX7_feed_26 rfl 0 13 rfl rfl (by decide) f_117 rfl ?_
      refine pt_if_le (pc' := 32) (tgt := 34) C dX7_feed_29 (by decide) rfl (fun h_29 => ?_) (fun h_29 => ?_)
      · refine pt_aload_n (pc' := 35) C dX7_feed_34 rfl 0 rfl ?_
        refine pt_get (pc' := 38) C in_7 dX7_feed_35 rfl 0 8 rfl rfl (by decide) f_32 rfl ?_
        refine pt_iload_n (pc' := 39) C dX7_feed_38 rfl 1 rfl ?_
        refine pt_iload_n (pc' := 40) C dX7_feed_39 rfl 2 rfl ?_
        refine pt_iast (pc' := 41) (ws' := wM cA aM 0 n it k td gn dr wk sv (va_up P 5 (upd (P 5) x.toNatClampNeg y)) sd se sc ba pa le mo) C dX7_feed_40 rfl 6 rfl rfl x.toNatClampNeg ((inR_in (b := 1) (bI_t h_11) (by decide)).1) (by have := (inR_in (b := 1) (bI_t h_11) (by decide)).2; omega) (by decide) rfl ?_
        refine pt_aload_n (pc' := 42) C dX7_feed_41 rfl 0 rfl ?_
        refine pt_iconst (pc' := 43) C dX7_feed_42 rfl (v := 1) (by decide) ?_
        refine pt_put (pc' := 46) (ty := .boolean) (ws' := wM cA aM 0 n 1 k td gn dr wk sv (va_up P 5 (upd (P 5) x.toNatClampNeg y)) sd se sc ba pa le mo) C in_7 tyX7 tyX7_ok nmX7 dX7_feed_43 rfl 0 2 rfl rfl (by decide) f_108 rfl (by decide +kernel) (rfl) (rfl) (Nat.le_of_ble_eq_true rfl) rfl ?_
        refine pt_iconst (pc' := 47) C dX7_feed_46 rfl (v := 1) (by decide) ?_
        exact pt_iret C hr hk dX7_feed_47 (rfl) (by simp only [okFee, bI_t h_11, bI_t h_22, g1_t hg h_29, bI, cond_false, cond_true, Bool.and_true, Bool.true_and, Bool.and_false, Bool.false_and] <;> rfl) (by simp only [okFee, bI_t h_11, bI_t h_22, g1_t hg h_29, bI, cond_false, cond_true, Bool.and_true, Bool.true_and, Bool.and_false, Bool.false_and] <;> rfl)
      · refine pt_iconst (pc' := 33) C dX7_feed_32 rfl (v := 0) (by decide) ?_
        exact pt_iret C hr hk dX7_feed_33 (rfl) (by simp only [okFee, bI_t h_11, bI_t h_22, g1_f hg h_29, bI, cond_false, cond_true, Bool.and_true, Bool.true_and, Bool.and_false, Bool.false_and] <;> rfl) (by simp only [okFee, bI_t h_11, bI_t h_22, g1_f hg h_29, bI, cond_false, cond_true, Bool.and_true, Bool.true_and, Bool.and_false, Bool.false_and] <;> rfl)

set_option maxHeartbeats 4000000 in
set_option maxRecDepth 100000 in
theorem mX7_number (l : Launch) (D : va_G) (cA : ClassId) (aM : Nat → Nat) (th : Int32) (n : Nat) (it : Int32) (k : Int32) (td : Nat) (gn : Nat) (dr : Nat) (wk : Nat) (sv : Nat) (P : Nat → Nat → Int32) (sd : Nat → Int32) (se : Nat → Int32) (sc : Nat → Int32) (ba : Nat → Int32) (pa : Nat → Int32) (le : Nat → Int32) (mo : Nat → Int32) (x : Int32) (hg : gn ≤ 120) : mt_I l yX7_number wsX7_number { frames := 1, cells := 0, slots := 0, locals := 22 } D [(cA, .int)] [.ref (aM 0), .int x] (wM cA aM th n it k td gn dr wk sv P sd se sc ba pa le mo) (bI (okNum gn x)) (wM cA aM 0 n (cond (okNum gn x) (1) it) (cond (okNum gn x) (x) k) td gn dr wk sv P sd se sc ba pa le mo) := by
  refine mt_ofI (cc := cX7_number) (maxL := 2) (ret := (some .boolean)) (lv := [(0, .ref (aM 0)), (1, .int x)]) (by decide) rfl (Nat.le_of_ble_eq_true rfl) rfl ?_
  intro p e s m args below meth c A C hr hk
  have f_1 := C.hts (.fieldLink RX7 1 "ShoreFieldsModel" "thrown" "I") (by decide +kernel)
  have in_7 : ∀ w ∈ u_ws RX7 TX7 37, w ∈ wsX7_number := by decide +kernel
  have f_117 := C.hts (.fieldLink RX7 117 "ShoreFieldsModel" "gone" "I") (by decide +kernel)
  have f_35 := C.hts (.fieldLink RX7 35 "ShoreFieldsModel" "k0" "I") (by decide +kernel)
  have f_108 := C.hts (.fieldLink RX7 108 "ShoreFieldsModel" "isTold" "Z") (by decide +kernel)
  refine pt_aload_n (pc' := 1) C dX7_number_0 rfl 0 rfl ?_
  refine pt_iconst (pc' := 2) C dX7_number_1 rfl (v := 0) (by decide) ?_
  refine pt_put (pc' := 5) (ty := .int) (ws' := wM cA aM 0 n it k td gn dr wk sv P sd se sc ba pa le mo) C in_7 tyX7 tyX7_ok nmX7 dX7_number_2 rfl 0 0 rfl rfl (by decide) f_1 rfl (by decide +kernel) (rfl) (rfl) (Nat.le_of_ble_eq_true rfl) rfl ?_
  refine pt_iload_n (pc' := 6) C dX7_number_5 rfl 1 rfl ?_
  refine pt_iconst (pc' := 7) C dX7_number_6 rfl (v := 1) (by decide) ?_
  refine pt_bipush (pc' := 9) C dX7_number_7 rfl (v := 9) (by decide) ?_
  refine pt_csI0 (pc' := 12) (As := [.int x, .int 1, .int 9]) (rest := []) C (mX7_within l D cA x 1 9 ) (va_cwS 3 C.hts gX7_number_X7_within rfl rfl rfl (by decide +kernel) ⟨Nat.le_of_ble_eq_true rfl, Nat.le_of_ble_eq_true rfl⟩) dX7_number_9 rfl rfl rfl (Nat.le_of_ble_eq_true rfl) ⟨Nat.le_of_ble_eq_true rfl, Nat.le_of_ble_eq_true rfl⟩ ?_
  refine pt_if_eq (pc' := 15) (tgt := 22) C dX7_number_12 (by decide) rfl (fun h_12 => ?_) (fun h_12 => ?_)
  · refine pt_iconst (pc' := 23) C dX7_number_22 rfl (v := 0) (by decide) ?_
    exact pt_iret C hr hk dX7_number_23 (rfl) (by simp only [okNum, bI_f h_12, bI, cond_false, cond_true, Bool.and_true, Bool.true_and, Bool.and_false, Bool.false_and] <;> rfl) (by simp only [okNum, bI_f h_12, bI, cond_false, cond_true, Bool.and_true, Bool.true_and, Bool.and_false, Bool.false_and] <;> rfl)
  · refine pt_aload_n (pc' := 16) C dX7_number_15 rfl 0 rfl ?_
    refine pt_get (pc' := 19) C in_7 dX7_number_16 rfl 0 13 rfl rfl (by decide) f_117 rfl ?_
    refine pt_if_le (pc' := 22) (tgt := 24) C dX7_number_19 (by decide) rfl (fun h_19 => ?_) (fun h_19 => ?_)
    · refine pt_aload_n (pc' := 25) C dX7_number_24 rfl 0 rfl ?_
      refine pt_iload_n (pc' := 26) C dX7_number_25 rfl 1 rfl ?_
      refine pt_put (pc' := 29) (ty := .int) (ws' := wM cA aM 0 n it x td gn dr wk sv P sd se sc ba pa le mo) C in_7 tyX7 tyX7_ok nmX7 dX7_number_26 rfl 0 9 rfl rfl (by decide) f_35 rfl (by decide +kernel) (rfl) (rfl) (Nat.le_of_ble_eq_true rfl) rfl ?_
      refine pt_aload_n (pc' := 30) C dX7_number_29 rfl 0 rfl ?_
      refine pt_iconst (pc' := 31) C dX7_number_30 rfl (v := 1) (by decide) ?_
      refine pt_put (pc' := 34) (ty := .boolean) (ws' := wM cA aM 0 n 1 x td gn dr wk sv P sd se sc ba pa le mo) C in_7 tyX7 tyX7_ok nmX7 dX7_number_31 rfl 0 2 rfl rfl (by decide) f_108 rfl (by decide +kernel) (rfl) (rfl) (Nat.le_of_ble_eq_true rfl) rfl ?_
      refine pt_iconst (pc' := 35) C dX7_number_34 rfl (v := 1) (by decide) ?_
      exact pt_iret C hr hk dX7_number_35 (rfl) (by simp only [okNum, bI_t h_12, g1_t hg h_19, bI, cond_false, cond_true, Bool.and_true, Bool.true_and, Bool.and_false, Bool.false_and] <;> rfl) (by simp only [okNum, bI_t h_12, g1_t hg h_19, bI, cond_false, cond_true, Bool.and_true, Bool.true_and, Bool.and_false, Bool.false_and] <;> rfl)
    · refine pt_iconst (pc' := 23) C dX7_number_22 rfl (v := 0) (by decide) ?_
      exact pt_iret C hr hk dX7_number_23 (rfl) (by simp only [okNum, bI_t h_12, g1_f hg h_19, bI, cond_false, cond_true, Bool.and_true, Bool.true_and, Bool.and_false, Bool.false_and] <;> rfl) (by simp only [okNum, bI_t h_12, g1_f hg h_19, bI, cond_false, cond_true, Bool.and_true, Bool.true_and, Bool.and_false, Bool.false_and] <;> rfl)

set_option maxHeartbeats 4000000 in
set_option maxRecDepth 100000 in
theorem mX7_groyne (l : Launch) (D : va_G) (cA : ClassId) (aM : Nat → Nat) (th : Int32) (n : Nat) (it : Int32) (k : Int32) (td : Nat) (gn : Nat) (dr : Nat) (wk : Nat) (sv : Nat) (P : Nat → Nat → Int32) (sd : Nat → Int32) (se : Nat → Int32) (sc : Nat → Int32) (ba : Nat → Int32) (pa : Nat → Int32) (le : Nat → Int32) (mo : Nat → Int32) (x : Int32) (y : Int32) (z : Int32) (hn : 2 ≤ n) (hm : n ≤ 12) (hg : gn ≤ 120) : mt_I l yX7_groyne wsX7_groyne { frames := 2, cells := 0, slots := 0, locals := 43 } D [(cA, .int)] [.ref (aM 0), .int x, .int y, .int z] (wM cA aM th n it k td gn dr wk sv P sd se sc ba pa le mo) (bI (okGro gn n x y z)) (wM cA aM 0 n (cond (okGro gn n x y z) (1) it) k td gn dr wk sv (cond (okGro gn n x y z) (va_up (va_up (va_up P 1 (upd (P 1) x.toNatClampNeg (if y = 0 then 0 else 1))) 2 (upd (P 2) x.toNatClampNeg y)) 3 (upd (P 3) x.toNatClampNeg z)) P) sd se sc ba pa le mo) := by
  refine mt_ofI (cc := cX7_groyne) (maxL := 4) (ret := (some .boolean)) (lv := [(0, .ref (aM 0)), (1, .int x), (2, .int y), (3, .int z)]) (by decide) rfl (Nat.le_of_ble_eq_true rfl) rfl ?_
  intro p e s m args below meth c A C hr hk
  have f_1 := C.hts (.fieldLink RX7 1 "ShoreFieldsModel" "thrown" "I") (by decide +kernel)
  have in_7 : ∀ w ∈ u_ws RX7 TX7 37, w ∈ wsX7_groyne := by decide +kernel
  have f_117 := C.hts (.fieldLink RX7 117 "ShoreFieldsModel" "gone" "I") (by decide +kernel)
  have f_20 := C.hts (.fieldLink RX7 20 "ShoreFieldsModel" "kind" "[I") (by decide +kernel)
  have f_23 := C.hts (.fieldLink RX7 23 "ShoreFieldsModel" "length" "[I") (by decide +kernel)
  have f_26 := C.hts (.fieldLink RX7 26 "ShoreFieldsModel" "part" "[I") (by decide +kernel)
  have f_108 := C.hts (.fieldLink RX7 108 "ShoreFieldsModel" "isTold" "Z") (by decide +kernel)
  refine pt_aload_n (pc' := 1) C dX7_groyne_0 rfl 0 rfl ?_
  refine pt_iconst (pc' := 2) C dX7_groyne_1 rfl (v := 0) (by decide) ?_
  refine pt_put (pc' := 5) (ty := .int) (ws' := wM cA aM 0 n it k td gn dr wk sv P sd se sc ba pa le mo) C in_7 tyX7 tyX7_ok nmX7 dX7_groyne_2 rfl 0 0 rfl rfl (by decide) f_1 rfl (by decide +kernel) (rfl) (rfl) (Nat.le_of_ble_eq_true rfl) rfl ?_
  refine pt_aload_n (pc' := 6) C dX7_groyne_5 rfl 0 rfl ?_
  refine pt_iload_n (pc' := 7) C dX7_groyne_6 rfl 1 rfl ?_
  refine pt_cvI0 (pc' := 10) (w1 := wM cA aM 0 n it k td gn dr wk sv P sd se sc ba pa le mo) (As := [.int x]) (rest := []) C (mX7_isInner l D cA aM 0 n it k td gn dr wk sv P sd se sc ba pa le mo x (by first | assumption | omega) (by first | assumption | omega)) (cwV 1 C.hts gX7_groyne_X7_isInner rfl rfl rfl (by decide +kernel) ⟨Nat.le_of_ble_eq_true rfl, Nat.le_of_ble_eq_true rfl⟩) dX7_groyne_7 rfl 0 rfl rfl rfl rfl rfl (Nat.le_of_ble_eq_true rfl) ⟨Nat.le_of_ble_eq_true rfl, Nat.le_of_ble_eq_true rfl⟩ ?_
  refine pt_if_eq (pc' := 13) (tgt := 41) C dX7_groyne_10 (by decide) rfl (fun h_10 => ?_) (fun h_10 => ?_)
  · refine pt_iconst (pc' := 42) C dX7_groyne_41 rfl (v := 0) (by decide) ?_
    exact pt_iret C hr hk dX7_groyne_42 (rfl) (by simp only [okGro, bI_f h_10, bI, cond_false, cond_true, Bool.and_true, Bool.true_and, Bool.and_false, Bool.false_and] <;> rfl) (by simp only [okGro, bI_f h_10, bI, cond_false, cond_true, Bool.and_true, Bool.true_and, Bool.and_false, Bool.false_and] <;> rfl)
  · refine pt_iload_n (pc' := 14) C dX7_groyne_13 rfl 2 rfl ?_
    refine pt_iconst (pc' := 15) C dX7_groyne_14 rfl (v := 0) (by decide) ?_
    refine pt_sipush (pc' := 18) C dX7_groyne_15 rfl (v := 999) (by decide) ?_
    refine pt_csI0 (pc' := 21) (As := [.int y, .int 0, .int 999]) (rest := []) C (mX7_within l D cA y 0 999 ) (va_cwS 3 C.hts gX7_groyne_X7_within rfl rfl rfl (by decide +kernel) ⟨Nat.le_of_ble_eq_true rfl, Nat.le_of_ble_eq_true rfl⟩) dX7_groyne_18 rfl rfl rfl (Nat.le_of_ble_eq_true rfl) ⟨Nat.le_of_ble_eq_true rfl, Nat.le_of_ble_eq_true rfl⟩ ?_
    refine pt_if_eq (pc' := 24) (tgt := 41) C dX7_groyne_21 (by decide) rfl (fun h_21 => ?_) (fun h_21 => ?_)
    · refine pt_iconst (pc' := 42) C dX7_groyne_41 rfl (v := 0) (by decide) ?_
      exact pt_iret C hr hk dX7_groyne_42 (rfl) (by simp only [okGro, bI_t h_10, bI_f h_21, bI, cond_false, cond_true, Bool.and_true, Bool.true_and, Bool.and_false, Bool.false_and] <;> rfl) (by simp only [okGro, bI_t h_10, bI_f h_21, bI, cond_false, cond_true, Bool.and_true, Bool.true_and, Bool.and_false, Bool.false_and] <;> rfl)
    · refine pt_iload_n (pc' := 25) C dX7_groyne_24 rfl 3 rfl ?_
      refine pt_iconst (pc' := 26) C dX7_groyne_25 rfl (v := 0) (by decide) ?_
      refine pt_bipush (pc' := 28) C dX7_groyne_26 rfl (v := 100) (by decide) ?_
      refine pt_csI0 (pc' := 31) (As := [.int z, .int 0, .int 100]) (rest := []) C (mX7_within l D cA z 0 100 ) (va_cwS 3 C.hts gX7_groyne_X7_within rfl rfl rfl (by decide +kernel) ⟨Nat.le_of_ble_eq_true rfl, Nat.le_of_ble_eq_true rfl⟩) dX7_groyne_28 rfl rfl rfl (Nat.le_of_ble_eq_true rfl) ⟨Nat.le_of_ble_eq_true rfl, Nat.le_of_ble_eq_true rfl⟩ ?_
      refine pt_if_eq (pc' := 34) (tgt := 41) C dX7_groyne_31 (by decide) rfl (fun h_31 => ?_) (fun h_31 => ?_)
      · refine pt_iconst (pc' := 42) C dX7_groyne_41 rfl (v := 0) (by decide) ?_
        exact pt_iret C hr hk dX7_groyne_42 (rfl) (by simp only [okGro, bI_t h_10, bI_t h_21, bI_f h_31, bI, cond_false, cond_true, Bool.and_true, Bool.true_and, Bool.and_false, Bool.false_and] <;> rfl) (by simp only [okGro, bI_t h_10, bI_t h_21, bI_f h_31, bI, cond_false, cond_true, Bool.and_true, Bool.true_and, Bool.and_false, Bool.false_and] <;> rfl)
      · refine pt_aload_n (pc' := 35) C dX7_groyne_34 rfl 0 rfl ?_
        refine pt_get (pc' := 38) C in_7 dX7_groyne_35 rfl 0 13 rfl rfl (by decide) f_117 rfl ?_
        refine pt_if_le (pc' := 41) (tgt := 43) C dX7_groyne_38 (by decide) rfl (fun h_38 => ?_) (fun h_38 => ?_)
        · refine pt_aload_n (pc' := 44) C dX7_groyne_43 rfl 0 rfl ?_
          refine pt_get (pc' := 47) C in_7 dX7_groyne_44 rfl 0 4 rfl rfl (by decide) f_20 rfl ?_
          refine pt_iload_n (pc' := 48) C dX7_groyne_47 rfl 1 rfl ?_
          refine pt_iload_n (pc' := 49) C dX7_groyne_48 rfl 2 rfl ?_
          refine pt_jn (q := 57) (k := 0) (n := 0) (wM cA aM 0 n it k td gn dr wk sv P sd se sc ba pa le mo) [(0, .ref (aM 0)), (1, .int x), (2, .int y), (3, .int z)] [.int (if y = 0 then 0 else 1), .int x, .ref (aM 2)] (fun K => ?_) ?_
          · refine pt_if_ne (pc' := 52) (tgt := 56) C dX7_groyne_49 (by decide) rfl (fun h_49 => ?_) (fun h_49 => ?_)
            · refine pt_iconst (pc' := 57) C dX7_groyne_56 rfl (v := 1) (by decide) ?_
              exact pt_cv (lv' := [(0, .ref (aM 0)), (1, .int x), (2, .int y), (3, .int z)]) rfl [0, 1, 2, 3] rfl rfl (by simpa only [if_neg h_49] using K)
            · refine pt_iconst (pc' := 53) C dX7_groyne_52 rfl (v := 0) (by decide) ?_
              refine pt_goto (pc' := 57) C dX7_groyne_53 (by decide) ?_
              exact pt_cv (lv' := [(0, .ref (aM 0)), (1, .int x), (2, .int y), (3, .int z)]) rfl [0, 1, 2, 3] rfl rfl (by simpa only [if_pos h_49] using K)
          refine pt_iast (pc' := 58) (ws' := wM cA aM 0 n it k td gn dr wk sv (va_up P 1 (upd (P 1) x.toNatClampNeg (if y = 0 then 0 else 1))) sd se sc ba pa le mo) C dX7_groyne_57 rfl 2 rfl rfl x.toNatClampNeg ((inI_in hm (bI_t h_10)).1) (by have := (inI_in hm (bI_t h_10)).2.2; omega) (by decide) rfl ?_
          refine pt_aload_n (pc' := 59) C dX7_groyne_58 rfl 0 rfl ?_
          refine pt_get (pc' := 62) C in_7 dX7_groyne_59 rfl 0 5 rfl rfl (by decide) f_23 rfl ?_
          refine pt_iload_n (pc' := 63) C dX7_groyne_62 rfl 1 rfl ?_
          refine pt_iload_n (pc' := 64) C dX7_groyne_63 rfl 2 rfl ?_
          refine pt_iast (pc' := 65) (ws' := wM cA aM 0 n it k td gn dr wk sv (va_up (va_up P 1 (upd (P 1) x.toNatClampNeg (if y = 0 then 0 else 1))) 2 (upd ((va_up P 1 (upd (P 1) x.toNatClampNeg (if y = 0 then 0 else 1))) 2) x.toNatClampNeg y)) sd se sc ba pa le mo) C dX7_groyne_64 rfl 3 rfl rfl x.toNatClampNeg ((inI_in hm (bI_t h_10)).1) (by have := (inI_in hm (bI_t h_10)).2.2; omega) (by decide) rfl ?_
          refine pt_aload_n (pc' := 66) C dX7_groyne_65 rfl 0 rfl ?_
          refine pt_get (pc' := 69) C in_7 dX7_groyne_66 rfl 0 6 rfl rfl (by decide) f_26 rfl ?_
          refine pt_iload_n (pc' := 70) C dX7_groyne_69 rfl 1 rfl ?_
          refine pt_iload_n (pc' := 71) C dX7_groyne_70 rfl 3 rfl ?_
          refine pt_iast (pc' := 72) (ws' := wM cA aM 0 n it k td gn dr wk sv (va_up (va_up (va_up P 1 (upd (P 1) x.toNatClampNeg (if y = 0 then 0 else 1))) 2 (upd ((va_up P 1 (upd (P 1) x.toNatClampNeg (if y = 0 then 0 else 1))) 2) x.toNatClampNeg y)) 3 (upd ((va_up (va_up P 1 (upd (P 1) x.toNatClampNeg (if y = 0 then 0 else 1))) 2 (upd ((va_up P 1 (upd (P 1) x.toNatClampNeg (if y = 0 then 0 else 1))) 2) x.toNatClampNeg y)) 3) x.toNatClampNeg z)) sd se sc ba pa le mo) C dX7_groyne_71 rfl 4 rfl rfl x.toNatClampNeg ((inI_in hm (bI_t h_10)).1) (by have := (inI_in hm (bI_t h_10)).2.2; omega) (by decide) rfl ?_
          refine pt_aload_n (pc' := 73) C dX7_groyne_72 rfl 0 rfl ?_
          refine pt_iconst (pc' := 74) C dX7_groyne_73 rfl (v := 1) (by decide) ?_
          refine pt_put (pc' := 77) (ty := .boolean) (ws' := wM cA aM 0 n 1 k td gn dr wk sv (va_up (va_up (va_up P 1 (upd (P 1) x.toNatClampNeg (if y = 0 then 0 else 1))) 2 (upd ((va_up P 1 (upd (P 1) x.toNatClampNeg (if y = 0 then 0 else 1))) 2) x.toNatClampNeg y)) 3 (upd ((va_up (va_up P 1 (upd (P 1) x.toNatClampNeg (if y = 0 then 0 else 1))) 2 (upd ((va_up P 1 (upd (P 1) x.toNatClampNeg (if y = 0 then 0 else 1))) 2) x.toNatClampNeg y)) 3) x.toNatClampNeg z)) sd se sc ba pa le mo) C in_7 tyX7 tyX7_ok nmX7 dX7_groyne_74 rfl 0 2 rfl rfl (by decide) f_108 rfl (by decide +kernel) (rfl) (rfl) (Nat.le_of_ble_eq_true rfl) rfl ?_
          refine pt_iconst (pc' := 78) C dX7_groyne_77 rfl (v := 1) (by decide) ?_
          exact pt_iret C hr hk dX7_groyne_78 (rfl) (by simp only [okGro, bI_t h_10, bI_t h_21, bI_t h_31, g1_t hg h_38, bI, cond_false, cond_true, Bool.and_true, Bool.true_and, Bool.and_false, Bool.false_and] <;> rfl) (by simp only [okGro, bI_t h_10, bI_t h_21, bI_t h_31, g1_t hg h_38, bI, cond_false, cond_true, Bool.and_true, Bool.true_and, Bool.and_false, Bool.false_and] <;> rfl)
        · refine pt_iconst (pc' := 42) C dX7_groyne_41 rfl (v := 0) (by decide) ?_
          exact pt_iret C hr hk dX7_groyne_42 (rfl) (by simp only [okGro, bI_t h_10, bI_t h_21, bI_t h_31, g1_f hg h_38, bI, cond_false, cond_true, Bool.and_true, Bool.true_and, Bool.and_false, Bool.false_and] <;> rfl) (by simp only [okGro, bI_t h_10, bI_t h_21, bI_t h_31, g1_f hg h_38, bI, cond_false, cond_true, Bool.and_true, Bool.true_and, Bool.and_false, Bool.false_and] <;> rfl)

set_option maxHeartbeats 4000000 in
set_option maxRecDepth 100000 in
theorem mX7_mouth (l : Launch) (D : va_G) (cA : ClassId) (aM : Nat → Nat) (th : Int32) (n : Nat) (it : Int32) (k : Int32) (td : Nat) (gn : Nat) (dr : Nat) (wk : Nat) (sv : Nat) (P : Nat → Nat → Int32) (sd : Nat → Int32) (se : Nat → Int32) (sc : Nat → Int32) (ba : Nat → Int32) (pa : Nat → Int32) (le : Nat → Int32) (mo : Nat → Int32) (x : Int32) (y : Int32) (hn : 2 ≤ n) (hm : n ≤ 12) (hg : gn ≤ 120) : mt_I l yX7_mouth wsX7_mouth { frames := 2, cells := 0, slots := 0, locals := 43 } D [(cA, .int)] [.ref (aM 0), .int x, .int y] (wM cA aM th n it k td gn dr wk sv P sd se sc ba pa le mo) (bI (okMou gn n x y)) (wM cA aM 0 n (cond (okMou gn n x y) (1) it) k td gn dr wk sv (cond (okMou gn n x y) (va_up (va_up (va_up P 1 (upd (P 1) x.toNatClampNeg 2)) 2 (upd (P 2) x.toNatClampNeg 0)) 3 (upd (P 3) x.toNatClampNeg y)) P) sd se sc ba pa le mo) := by
  refine mt_ofI (cc := cX7_mouth) (maxL := 3) (ret := (some .boolean)) (lv := [(0, .ref (aM 0)), (1, .int x), (2, .int y)]) (by decide) rfl (Nat.le_of_ble_eq_true rfl) rfl ?_
  intro p e s m args below meth c A C hr hk
  have f_1 := C.hts (.fieldLink RX7 1 "ShoreFieldsModel" "thrown" "I") (by decide +kernel)
  have in_7 : ∀ w ∈ u_ws RX7 TX7 37, w ∈ wsX7_mouth := by decide +kernel
  have f_117 := C.hts (.fieldLink RX7 117 "ShoreFieldsModel" "gone" "I") (by decide +kernel)
  have f_20 := C.hts (.fieldLink RX7 20 "ShoreFieldsModel" "kind" "[I") (by decide +kernel)
  have f_23 := C.hts (.fieldLink RX7 23 "ShoreFieldsModel" "length" "[I") (by decide +kernel)
  have f_26 := C.hts (.fieldLink RX7 26 "ShoreFieldsModel" "part" "[I") (by decide +kernel)
  have f_108 := C.hts (.fieldLink RX7 108 "ShoreFieldsModel" "isTold" "Z") (by decide +kernel)
  refine pt_aload_n (pc' := 1) C dX7_mouth_0 rfl 0 rfl ?_
  refine pt_iconst (pc' := 2) C dX7_mouth_1 rfl (v := 0) (by decide) ?_
  refine pt_put (pc' := 5) (ty := .int) (ws' := wM cA aM 0 n it k td gn dr wk sv P sd se sc ba pa le mo) C in_7 tyX7 tyX7_ok nmX7 dX7_mouth_2 rfl 0 0 rfl rfl (by decide) f_1 rfl (by decide +kernel) (rfl) (rfl) (Nat.le_of_ble_eq_true rfl) rfl ?_
  refine pt_aload_n (pc' := 6) C dX7_mouth_5 rfl 0 rfl ?_
  refine pt_iload_n (pc' := 7) C dX7_mouth_6 rfl 1 rfl ?_
  refine pt_cvI0 (pc' := 10) (w1 := wM cA aM 0 n it k td gn dr wk sv P sd se sc ba pa le mo) (As := [.int x]) (rest := []) C (mX7_isInner l D cA aM 0 n it k td gn dr wk sv P sd se sc ba pa le mo x (by first | assumption | omega) (by first | assumption | omega)) (cwV 1 C.hts gX7_mouth_X7_isInner rfl rfl rfl (by decide +kernel) ⟨Nat.le_of_ble_eq_true rfl, Nat.le_of_ble_eq_true rfl⟩) dX7_mouth_7 rfl 0 rfl rfl rfl rfl rfl (Nat.le_of_ble_eq_true rfl) ⟨Nat.le_of_ble_eq_true rfl, Nat.le_of_ble_eq_true rfl⟩ ?_
  refine pt_if_eq (pc' := 13) (tgt := 30) C dX7_mouth_10 (by decide) rfl (fun h_10 => ?_) (fun h_10 => ?_)
  · refine pt_iconst (pc' := 31) C dX7_mouth_30 rfl (v := 0) (by decide) ?_
    exact pt_iret C hr hk dX7_mouth_31 (rfl) (by simp only [okMou, bI_f h_10, bI, cond_false, cond_true, Bool.and_true, Bool.true_and, Bool.and_false, Bool.false_and] <;> rfl) (by simp only [okMou, bI_f h_10, bI, cond_false, cond_true, Bool.and_true, Bool.true_and, Bool.and_false, Bool.false_and] <;> rfl)
  · refine pt_iload_n (pc' := 14) C dX7_mouth_13 rfl 2 rfl ?_
    refine pt_iconst (pc' := 15) C dX7_mouth_14 rfl (v := 0) (by decide) ?_
    refine pt_bipush (pc' := 17) C dX7_mouth_15 rfl (v := 100) (by decide) ?_
    refine pt_csI0 (pc' := 20) (As := [.int y, .int 0, .int 100]) (rest := []) C (mX7_within l D cA y 0 100 ) (va_cwS 3 C.hts gX7_mouth_X7_within rfl rfl rfl (by decide +kernel) ⟨Nat.le_of_ble_eq_true rfl, Nat.le_of_ble_eq_true rfl⟩) dX7_mouth_17 rfl rfl rfl (Nat.le_of_ble_eq_true rfl) ⟨Nat.le_of_ble_eq_true rfl, Nat.le_of_ble_eq_true rfl⟩ ?_
    refine pt_if_eq (pc' := 23) (tgt := 30) C dX7_mouth_20 (by decide) rfl (fun h_20 => ?_) (fun h_20 => ?_)
    · refine pt_iconst (pc' := 31) C dX7_mouth_30 rfl (v := 0) (by decide) ?_
      exact pt_iret C hr hk dX7_mouth_31 (rfl) (by simp only [okMou, bI_t h_10, bI_f h_20, bI, cond_false, cond_true, Bool.and_true, Bool.true_and, Bool.and_false, Bool.false_and] <;> rfl) (by simp only [okMou, bI_t h_10, bI_f h_20, bI, cond_false, cond_true, Bool.and_true, Bool.true_and, Bool.and_false, Bool.false_and] <;> rfl)
    · refine pt_aload_n (pc' := 24) C dX7_mouth_23 rfl 0 rfl ?_
      refine pt_get (pc' := 27) C in_7 dX7_mouth_24 rfl 0 13 rfl rfl (by decide) f_117 rfl ?_
      refine pt_if_le (pc' := 30) (tgt := 32) C dX7_mouth_27 (by decide) rfl (fun h_27 => ?_) (fun h_27 => ?_)
      · refine pt_aload_n (pc' := 33) C dX7_mouth_32 rfl 0 rfl ?_
        refine pt_get (pc' := 36) C in_7 dX7_mouth_33 rfl 0 4 rfl rfl (by decide) f_20 rfl ?_
        refine pt_iload_n (pc' := 37) C dX7_mouth_36 rfl 1 rfl ?_
        refine pt_iconst (pc' := 38) C dX7_mouth_37 rfl (v := 2) (by decide) ?_
        refine pt_iast (pc' := 39) (ws' := wM cA aM 0 n it k td gn dr wk sv (va_up P 1 (upd (P 1) x.toNatClampNeg 2)) sd se sc ba pa le mo) C dX7_mouth_38 rfl 2 rfl rfl x.toNatClampNeg ((inI_in hm (bI_t h_10)).1) (by have := (inI_in hm (bI_t h_10)).2.2; omega) (by decide) rfl ?_
        refine pt_aload_n (pc' := 40) C dX7_mouth_39 rfl 0 rfl ?_
        refine pt_get (pc' := 43) C in_7 dX7_mouth_40 rfl 0 5 rfl rfl (by decide) f_23 rfl ?_
        refine pt_iload_n (pc' := 44) C dX7_mouth_43 rfl 1 rfl ?_
        refine pt_iconst (pc' := 45) C dX7_mouth_44 rfl (v := 0) (by decide) ?_
        refine pt_iast (pc' := 46) (ws' := wM cA aM 0 n it k td gn dr wk sv (va_up (va_up P 1 (upd (P 1) x.toNatClampNeg 2)) 2 (upd ((va_up P 1 (upd (P 1) x.toNatClampNeg 2)) 2) x.toNatClampNeg 0)) sd se sc ba pa le mo) C dX7_mouth_45 rfl 3 rfl rfl x.toNatClampNeg ((inI_in hm (bI_t h_10)).1) (by have := (inI_in hm (bI_t h_10)).2.2; omega) (by decide) rfl ?_
        refine pt_aload_n (pc' := 47) C dX7_mouth_46 rfl 0 rfl ?_
        refine pt_get (pc' := 50) C in_7 dX7_mouth_47 rfl 0 6 rfl rfl (by decide) f_26 rfl ?_
        refine pt_iload_n (pc' := 51) C dX7_mouth_50 rfl 1 rfl ?_
        refine pt_iload_n (pc' := 52) C dX7_mouth_51 rfl 2 rfl ?_
        refine pt_iast (pc' := 53) (ws' := wM cA aM 0 n it k td gn dr wk sv (va_up (va_up (va_up P 1 (upd (P 1) x.toNatClampNeg 2)) 2 (upd ((va_up P 1 (upd (P 1) x.toNatClampNeg 2)) 2) x.toNatClampNeg 0)) 3 (upd ((va_up (va_up P 1 (upd (P 1) x.toNatClampNeg 2)) 2 (upd ((va_up P 1 (upd (P 1) x.toNatClampNeg 2)) 2) x.toNatClampNeg 0)) 3) x.toNatClampNeg y)) sd se sc ba pa le mo) C dX7_mouth_52 rfl 4 rfl rfl x.toNatClampNeg ((inI_in hm (bI_t h_10)).1) (by have := (inI_in hm (bI_t h_10)).2.2; omega) (by decide) rfl ?_
        refine pt_aload_n (pc' := 54) C dX7_mouth_53 rfl 0 rfl ?_
        refine pt_iconst (pc' := 55) C dX7_mouth_54 rfl (v := 1) (by decide) ?_
        refine pt_put (pc' := 58) (ty := .boolean) (ws' := wM cA aM 0 n 1 k td gn dr wk sv (va_up (va_up (va_up P 1 (upd (P 1) x.toNatClampNeg 2)) 2 (upd ((va_up P 1 (upd (P 1) x.toNatClampNeg 2)) 2) x.toNatClampNeg 0)) 3 (upd ((va_up (va_up P 1 (upd (P 1) x.toNatClampNeg 2)) 2 (upd ((va_up P 1 (upd (P 1) x.toNatClampNeg 2)) 2) x.toNatClampNeg 0)) 3) x.toNatClampNeg y)) sd se sc ba pa le mo) C in_7 tyX7 tyX7_ok nmX7 dX7_mouth_55 rfl 0 2 rfl rfl (by decide) f_108 rfl (by decide +kernel) (rfl) (rfl) (Nat.le_of_ble_eq_true rfl) rfl ?_
        refine pt_iconst (pc' := 59) C dX7_mouth_58 rfl (v := 1) (by decide) ?_
        exact pt_iret C hr hk dX7_mouth_59 (rfl) (by simp only [okMou, bI_t h_10, bI_t h_20, g1_t hg h_27, bI, cond_false, cond_true, Bool.and_true, Bool.true_and, Bool.and_false, Bool.false_and] <;> rfl) (by simp only [okMou, bI_t h_10, bI_t h_20, g1_t hg h_27, bI, cond_false, cond_true, Bool.and_true, Bool.true_and, Bool.and_false, Bool.false_and] <;> rfl)
      · refine pt_iconst (pc' := 31) C dX7_mouth_30 rfl (v := 0) (by decide) ?_
        exact pt_iret C hr hk dX7_mouth_31 (rfl) (by simp only [okMou, bI_t h_10, bI_t h_20, g1_f hg h_27, bI, cond_false, cond_true, Bool.and_true, Bool.true_and, Bool.and_false, Bool.false_and] <;> rfl) (by simp only [okMou, bI_t h_10, bI_t h_20, g1_f hg h_27, bI, cond_false, cond_true, Bool.and_true, Bool.true_and, Bool.and_false, Bool.false_and] <;> rfl)

set_option maxHeartbeats 4000000 in
set_option maxRecDepth 100000 in
theorem mX7_wave (l : Launch) (D : va_G) (cA : ClassId) (aM : Nat → Nat) (th : Int32) (n : Nat) (it : Int32) (k : Int32) (td : Nat) (gn : Nat) (dr : Nat) (wk : Nat) (sv : Nat) (P : Nat → Nat → Int32) (sd : Nat → Int32) (se : Nat → Int32) (sc : Nat → Int32) (ba : Nat → Int32) (pa : Nat → Int32) (le : Nat → Int32) (mo : Nat → Int32) (x : Int32) (y : Int32) (ht : td ≤ 120) : mt_I l yX7_wave wsX7_wave { frames := 1, cells := 0, slots := 0, locals := 22 } D [(cA, .int)] [.ref (aM 0), .int x, .int y] (wM cA aM th n it k td gn dr wk sv P sd se sc ba pa le mo) (cond (okWav td x y) (nI (td + 1)) (-1)) (wM cA aM 0 n (cond (okWav td x y) (1) it) k (cond (okWav td x y) (td + 1) td) gn dr wk sv (cond (okWav td x y) (va_up (va_up P 6 (upd (P 6) td x)) 7 (upd (P 7) td y)) P) sd se sc ba pa le mo) := by
  refine mt_ofI (cc := cX7_wave) (maxL := 3) (ret := (some .int)) (lv := [(0, .ref (aM 0)), (1, .int x), (2, .int y)]) (by decide) rfl (Nat.le_of_ble_eq_true rfl) rfl ?_
  intro p e s m args below meth c A C hr hk
  have f_1 := C.hts (.fieldLink RX7 1 "ShoreFieldsModel" "thrown" "I") (by decide +kernel)
  have in_7 : ∀ w ∈ u_ws RX7 TX7 37, w ∈ wsX7_wave := by decide +kernel
  have f_123 := C.hts (.fieldLink RX7 123 "ShoreFieldsModel" "told" "I") (by decide +kernel)
  have f_38 := C.hts (.fieldLink RX7 38 "ShoreFieldsModel" "height" "[I") (by decide +kernel)
  have f_41 := C.hts (.fieldLink RX7 41 "ShoreFieldsModel" "side" "[I") (by decide +kernel)
  have f_108 := C.hts (.fieldLink RX7 108 "ShoreFieldsModel" "isTold" "Z") (by decide +kernel)
  refine pt_aload_n (pc' := 1) C dX7_wave_0 rfl 0 rfl ?_
  refine pt_iconst (pc' := 2) C dX7_wave_1 rfl (v := 0) (by decide) ?_
  refine pt_put (pc' := 5) (ty := .int) (ws' := wM cA aM 0 n it k td gn dr wk sv P sd se sc ba pa le mo) C in_7 tyX7 tyX7_ok nmX7 dX7_wave_2 rfl 0 0 rfl rfl (by decide) f_1 rfl (by decide +kernel) (rfl) (rfl) (Nat.le_of_ble_eq_true rfl) rfl ?_
  refine pt_iload_n (pc' := 6) C dX7_wave_5 rfl 1 rfl ?_
  refine pt_iconst (pc' := 7) C dX7_wave_6 rfl (v := 0) (by decide) ?_
  refine pt_bipush (pc' := 9) C dX7_wave_7 rfl (v := 9) (by decide) ?_
  refine pt_csI0 (pc' := 12) (As := [.int x, .int 0, .int 9]) (rest := []) C (mX7_within l D cA x 0 9 ) (va_cwS 3 C.hts gX7_wave_X7_within rfl rfl rfl (by decide +kernel) ⟨Nat.le_of_ble_eq_true rfl, Nat.le_of_ble_eq_true rfl⟩) dX7_wave_9 rfl rfl rfl (Nat.le_of_ble_eq_true rfl) ⟨Nat.le_of_ble_eq_true rfl, Nat.le_of_ble_eq_true rfl⟩ ?_
  refine pt_if_eq (pc' := 15) (tgt := 33) C dX7_wave_12 (by decide) rfl (fun h_12 => ?_) (fun h_12 => ?_)
  · refine pt_iconst (pc' := 34) C dX7_wave_33 rfl (v := -1) (by decide) ?_
    exact pt_iret C hr hk dX7_wave_34 (rfl) (by simp only [okWav, bI_f h_12, bI, cond_false, cond_true, Bool.and_true, Bool.true_and, Bool.and_false, Bool.false_and] <;> rfl) (by simp only [okWav, bI_f h_12, bI, cond_false, cond_true, Bool.and_true, Bool.true_and, Bool.and_false, Bool.false_and] <;> rfl)
  · refine pt_iload_n (pc' := 16) C dX7_wave_15 rfl 2 rfl ?_
    refine pt_iconst (pc' := 17) C dX7_wave_16 rfl (v := 0) (by decide) ?_
    refine pt_iconst (pc' := 18) C dX7_wave_17 rfl (v := 2) (by decide) ?_
    refine pt_csI0 (pc' := 21) (As := [.int y, .int 0, .int 2]) (rest := []) C (mX7_within l D cA y 0 2 ) (va_cwS 3 C.hts gX7_wave_X7_within rfl rfl rfl (by decide +kernel) ⟨Nat.le_of_ble_eq_true rfl, Nat.le_of_ble_eq_true rfl⟩) dX7_wave_18 rfl rfl rfl (Nat.le_of_ble_eq_true rfl) ⟨Nat.le_of_ble_eq_true rfl, Nat.le_of_ble_eq_true rfl⟩ ?_
    refine pt_if_eq (pc' := 24) (tgt := 33) C dX7_wave_21 (by decide) rfl (fun h_21 => ?_) (fun h_21 => ?_)
    · refine pt_iconst (pc' := 34) C dX7_wave_33 rfl (v := -1) (by decide) ?_
      exact pt_iret C hr hk dX7_wave_34 (rfl) (by simp only [okWav, bI_t h_12, bI_f h_21, bI, cond_false, cond_true, Bool.and_true, Bool.true_and, Bool.and_false, Bool.false_and] <;> rfl) (by simp only [okWav, bI_t h_12, bI_f h_21, bI, cond_false, cond_true, Bool.and_true, Bool.true_and, Bool.and_false, Bool.false_and] <;> rfl)
    · refine pt_aload_n (pc' := 25) C dX7_wave_24 rfl 0 rfl ?_
      refine pt_get (pc' := 28) C in_7 dX7_wave_25 rfl 0 10 rfl rfl (by decide) f_123 rfl ?_
      refine pt_bipush (pc' := 30) C dX7_wave_28 rfl (v := 120) (by decide) ?_
      refine pt_icmp_ne (pc' := 33) (tgt := 35) C dX7_wave_30 (by decide) rfl (fun h_30 => ?_) (fun h_30 => ?_)
      · have hlt : td < 120 := of_decide_eq_true (de_t (b := 120) (by decide) ht h_30)
        refine pt_aload_n (pc' := 36) C dX7_wave_35 rfl 0 rfl ?_
        refine pt_get (pc' := 39) C in_7 dX7_wave_36 rfl 0 11 rfl rfl (by decide) f_38 rfl ?_
        refine pt_aload_n (pc' := 40) C dX7_wave_39 rfl 0 rfl ?_
        refine pt_get (pc' := 43) C in_7 dX7_wave_40 rfl 0 10 rfl rfl (by decide) f_123 rfl ?_
        refine pt_iload_n (pc' := 44) C dX7_wave_43 rfl 1 rfl ?_
        refine pt_iast (pc' := 45) (ws' := wM cA aM 0 n it k td gn dr wk sv (va_up P 6 (upd (P 6) td x)) sd se sc ba pa le mo) C dX7_wave_44 rfl 7 rfl rfl td (rfl) (by omega) (by decide) rfl ?_
        refine pt_aload_n (pc' := 46) C dX7_wave_45 rfl 0 rfl ?_
        refine pt_get (pc' := 49) C in_7 dX7_wave_46 rfl 0 12 rfl rfl (by decide) f_41 rfl ?_
        refine pt_aload_n (pc' := 50) C dX7_wave_49 rfl 0 rfl ?_
        refine pt_get (pc' := 53) C in_7 dX7_wave_50 rfl 0 10 rfl rfl (by decide) f_123 rfl ?_
        refine pt_iload_n (pc' := 54) C dX7_wave_53 rfl 2 rfl ?_
        refine pt_iast (pc' := 55) (ws' := wM cA aM 0 n it k td gn dr wk sv (va_up (va_up P 6 (upd (P 6) td x)) 7 (upd ((va_up P 6 (upd (P 6) td x)) 7) td y)) sd se sc ba pa le mo) C dX7_wave_54 rfl 8 rfl rfl td (rfl) (by omega) (by decide) rfl ?_
        refine pt_aload_n (pc' := 56) C dX7_wave_55 rfl 0 rfl ?_
        refine pt_dup (pc' := 57) C dX7_wave_56 rfl rfl ?_
        refine pt_get (pc' := 60) C in_7 dX7_wave_57 rfl 0 10 rfl rfl (by decide) f_123 rfl ?_
        refine pt_iconst (pc' := 61) C dX7_wave_60 rfl (v := 1) (by decide) ?_
        refine pt_iadd (pc' := 62) C dX7_wave_61 rfl ?_
        refine pt_eq (st' := [.int (nI (td + 1)), .ref (aM 0)]) rfl rfl (by rw [nI_1]) ?_
        refine pt_put (pc' := 65) (ty := .int) (ws' := wM cA aM 0 n it k (td + 1) gn dr wk sv (va_up (va_up P 6 (upd (P 6) td x)) 7 (upd ((va_up P 6 (upd (P 6) td x)) 7) td y)) sd se sc ba pa le mo) C in_7 tyX7 tyX7_ok nmX7 dX7_wave_62 rfl 0 10 rfl rfl (by decide) f_123 rfl (by decide +kernel) (rfl) (rfl) (Nat.le_of_ble_eq_true rfl) rfl ?_
        refine pt_aload_n (pc' := 66) C dX7_wave_65 rfl 0 rfl ?_
        refine pt_iconst (pc' := 67) C dX7_wave_66 rfl (v := 1) (by decide) ?_
        refine pt_put (pc' := 70) (ty := .boolean) (ws' := wM cA aM 0 n 1 k (td + 1) gn dr wk sv (va_up (va_up P 6 (upd (P 6) td x)) 7 (upd ((va_up P 6 (upd (P 6) td x)) 7) td y)) sd se sc ba pa le mo) C in_7 tyX7 tyX7_ok nmX7 dX7_wave_67 rfl 0 2 rfl rfl (by decide) f_108 rfl (by decide +kernel) (rfl) (rfl) (Nat.le_of_ble_eq_true rfl) rfl ?_
        refine pt_aload_n (pc' := 71) C dX7_wave_70 rfl 0 rfl ?_
        refine pt_get (pc' := 74) C in_7 dX7_wave_71 rfl 0 10 rfl rfl (by decide) f_123 rfl ?_
        exact pt_iret C hr hk dX7_wave_74 (rfl) (by simp only [okWav, bI_t h_12, bI_t h_21, de_t (b := 120) (by decide) (by omega) h_30, bI, cond_false, cond_true, Bool.and_true, Bool.true_and, Bool.and_false, Bool.false_and] <;> rfl) (by simp only [okWav, bI_t h_12, bI_t h_21, de_t (b := 120) (by decide) (by omega) h_30, bI, cond_false, cond_true, Bool.and_true, Bool.true_and, Bool.and_false, Bool.false_and] <;> rfl)
      · refine pt_iconst (pc' := 34) C dX7_wave_33 rfl (v := -1) (by decide) ?_
        exact pt_iret C hr hk dX7_wave_34 (rfl) (by simp only [okWav, bI_t h_12, bI_t h_21, de_f (b := 120) (by decide) (by omega) h_30, bI, cond_false, cond_true, Bool.and_true, Bool.true_and, Bool.and_false, Bool.false_and] <;> rfl) (by simp only [okWav, bI_t h_12, bI_t h_21, de_f (b := 120) (by decide) (by omega) h_30, bI, cond_false, cond_true, Bool.and_true, Bool.true_and, Bool.and_false, Bool.false_and] <;> rfl)

set_option maxHeartbeats 4000000 in
set_option maxRecDepth 100000 in
theorem mX7_weeks (l : Launch) (D : va_G) (cA : ClassId) (aM : Nat → Nat) (th : Int32) (n : Nat) (it : Int32) (k : Int32) (td : Nat) (gn : Nat) (dr : Nat) (wk : Nat) (sv : Nat) (P : Nat → Nat → Int32) (sd : Nat → Int32) (se : Nat → Int32) (sc : Nat → Int32) (ba : Nat → Int32) (pa : Nat → Int32) (le : Nat → Int32) (mo : Nat → Int32) (x : Int32) (hgt : gn ≤ td) (ht : td ≤ 120) : mt_I l yX7_weeks wsX7_weeks { frames := 1, cells := 0, slots := 0, locals := 22 } D [(cA, .int)] [.ref (aM 0), .int x] (wM cA aM th n it k td gn dr wk sv P sd se sc ba pa le mo) (cond (okWks td gn x) (nI (gn + x.toNatClampNeg)) (-1)) (wM cA aM 0 n it k td (cond (okWks td gn x) (gn + x.toNatClampNeg) gn) dr wk sv P sd se sc ba pa le mo) := by
  refine mt_ofI (cc := cX7_weeks) (maxL := 2) (ret := (some .int)) (lv := [(0, .ref (aM 0)), (1, .int x)]) (by decide) rfl (Nat.le_of_ble_eq_true rfl) rfl ?_
  intro p e s m args below meth c A C hr hk
  have f_1 := C.hts (.fieldLink RX7 1 "ShoreFieldsModel" "thrown" "I") (by decide +kernel)
  have in_7 : ∀ w ∈ u_ws RX7 TX7 37, w ∈ wsX7_weeks := by decide +kernel
  have f_117 := C.hts (.fieldLink RX7 117 "ShoreFieldsModel" "gone" "I") (by decide +kernel)
  have f_123 := C.hts (.fieldLink RX7 123 "ShoreFieldsModel" "told" "I") (by decide +kernel)
  refine pt_aload_n (pc' := 1) C dX7_weeks_0 rfl 0 rfl ?_
  refine pt_iconst (pc' := 2) C dX7_weeks_1 rfl (v := 0) (by decide) ?_
  refine pt_put (pc' := 5) (ty := .int) (ws' := wM cA aM 0 n it k td gn dr wk sv P sd se sc ba pa le mo) C in_7 tyX7 tyX7_ok nmX7 dX7_weeks_2 rfl 0 0 rfl rfl (by decide) f_1 rfl (by decide +kernel) (rfl) (rfl) (Nat.le_of_ble_eq_true rfl) rfl ?_
  refine pt_iload_n (pc' := 6) C dX7_weeks_5 rfl 1 rfl ?_
  refine pt_iconst (pc' := 7) C dX7_weeks_6 rfl (v := 0) (by decide) ?_
  refine pt_bipush (pc' := 9) C dX7_weeks_7 rfl (v := 120) (by decide) ?_
  refine pt_csI0 (pc' := 12) (As := [.int x, .int 0, .int 120]) (rest := []) C (mX7_within l D cA x 0 120 ) (va_cwS 3 C.hts gX7_weeks_X7_within rfl rfl rfl (by decide +kernel) ⟨Nat.le_of_ble_eq_true rfl, Nat.le_of_ble_eq_true rfl⟩) dX7_weeks_9 rfl rfl rfl (Nat.le_of_ble_eq_true rfl) ⟨Nat.le_of_ble_eq_true rfl, Nat.le_of_ble_eq_true rfl⟩ ?_
  refine pt_if_eq (pc' := 15) (tgt := 28) C dX7_weeks_12 (by decide) rfl (fun h_12 => ?_) (fun h_12 => ?_)
  · refine pt_iconst (pc' := 29) C dX7_weeks_28 rfl (v := -1) (by decide) ?_
    exact pt_iret C hr hk dX7_weeks_29 (rfl) (by simp only [okWks, bI_f h_12, bI, cond_false, cond_true, Bool.and_true, Bool.true_and, Bool.and_false, Bool.false_and] <;> rfl) (by simp only [okWks, bI_f h_12, bI, cond_false, cond_true, Bool.and_true, Bool.true_and, Bool.and_false, Bool.false_and] <;> rfl)
  · refine pt_aload_n (pc' := 16) C dX7_weeks_15 rfl 0 rfl ?_
    refine pt_get (pc' := 19) C in_7 dX7_weeks_16 rfl 0 13 rfl rfl (by decide) f_117 rfl ?_
    refine pt_iload_n (pc' := 20) C dX7_weeks_19 rfl 1 rfl ?_
    refine pt_iadd (pc' := 21) C dX7_weeks_20 rfl ?_
    refine pt_aload_n (pc' := 22) C dX7_weeks_21 rfl 0 rfl ?_
    refine pt_get (pc' := 25) C in_7 dX7_weeks_22 rfl 0 10 rfl rfl (by decide) f_123 rfl ?_
    refine pt_icmp_le (pc' := 28) (tgt := 30) C dX7_weeks_25 (by decide) rfl (fun h_25 => ?_) (fun h_25 => ?_)
    · refine pt_aload_n (pc' := 31) C dX7_weeks_30 rfl 0 rfl ?_
      refine pt_dup (pc' := 32) C dX7_weeks_31 rfl rfl ?_
      refine pt_get (pc' := 35) C in_7 dX7_weeks_32 rfl 0 13 rfl rfl (by decide) f_117 rfl ?_
      refine pt_iload_n (pc' := 36) C dX7_weeks_35 rfl 1 rfl ?_
      refine pt_iadd (pc' := 37) C dX7_weeks_36 rfl ?_
      refine pt_eq (st' := [.int (nI (gn + x.toNatClampNeg)), .ref (aM 0)]) rfl rfl (by rw [← nI_add, ← (inR_in (b := 120) (bI_t h_12) (by decide)).1]) ?_
      refine pt_put (pc' := 40) (ty := .int) (ws' := wM cA aM 0 n it k td (gn + x.toNatClampNeg) dr wk sv P sd se sc ba pa le mo) C in_7 tyX7 tyX7_ok nmX7 dX7_weeks_37 rfl 0 13 rfl rfl (by decide) f_117 rfl (by decide +kernel) (rfl) (rfl) (Nat.le_of_ble_eq_true rfl) rfl ?_
      refine pt_aload_n (pc' := 41) C dX7_weeks_40 rfl 0 rfl ?_
      refine pt_get (pc' := 44) C in_7 dX7_weeks_41 rfl 0 13 rfl rfl (by decide) f_117 rfl ?_
      exact pt_iret C hr hk dX7_weeks_44 (rfl) (by simp only [okWks, bI_t h_12, dv_t (bI_t h_12) hgt ht h_25, bI, cond_false, cond_true, Bool.and_true, Bool.true_and, Bool.and_false, Bool.false_and] <;> rfl) (by simp only [okWks, bI_t h_12, dv_t (bI_t h_12) hgt ht h_25, bI, cond_false, cond_true, Bool.and_true, Bool.true_and, Bool.and_false, Bool.false_and] <;> rfl)
    · refine pt_iconst (pc' := 29) C dX7_weeks_28 rfl (v := -1) (by decide) ?_
      exact pt_iret C hr hk dX7_weeks_29 (rfl) (by simp only [okWks, bI_t h_12, dv_f (bI_t h_12) hgt ht h_25, bI, cond_false, cond_true, Bool.and_true, Bool.true_and, Bool.and_false, Bool.false_and] <;> rfl) (by simp only [okWks, bI_t h_12, dv_f (bI_t h_12) hgt ht h_25, bI, cond_false, cond_true, Bool.and_true, Bool.true_and, Bool.and_false, Bool.false_and] <;> rfl)

set_option maxHeartbeats 4000000 in
set_option maxRecDepth 100000 in
theorem mX7_mark (l : Launch) (D : va_G) (cA : ClassId) (aM : Nat → Nat) (th : Int32) (n : Nat) (it : Int32) (k : Int32) (td : Nat) (gn : Nat) (dr : Nat) (wk : Nat) (sv : Nat) (P : Nat → Nat → Int32) (sd : Nat → Int32) (se : Nat → Int32) (sc : Nat → Int32) (ba : Nat → Int32) (pa : Nat → Int32) (le : Nat → Int32) (mo : Nat → Int32) (x : Int32) (y : Int32) (hn : 2 ≤ n) (hm : n ≤ 12) : mt_I l yX7_mark wsX7_mark { frames := 2, cells := 0, slots := 0, locals := 43 } D [(cA, .int)] [.ref (aM 0), .int x, .int y] (wM cA aM th n it k td gn dr wk sv P sd se sc ba pa le mo) (bI (okMar n x y)) (wM cA aM 0 n (cond (okMar n x y) (1) it) k td gn dr wk sv (cond (okMar n x y) (va_up P 16 (upd (P 16) x.toNatClampNeg y)) P) sd se sc ba pa le mo) := by
  refine mt_ofI (cc := cX7_mark) (maxL := 3) (ret := (some .boolean)) (lv := [(0, .ref (aM 0)), (1, .int x), (2, .int y)]) (by decide) rfl (Nat.le_of_ble_eq_true rfl) rfl ?_
  intro p e s m args below meth c A C hr hk
  have f_1 := C.hts (.fieldLink RX7 1 "ShoreFieldsModel" "thrown" "I") (by decide +kernel)
  have in_7 : ∀ w ∈ u_ws RX7 TX7 37, w ∈ wsX7_mark := by decide +kernel
  have f_89 := C.hts (.fieldLink RX7 89 "ShoreFieldsModel" "marks" "[I") (by decide +kernel)
  have f_108 := C.hts (.fieldLink RX7 108 "ShoreFieldsModel" "isTold" "Z") (by decide +kernel)
  refine pt_aload_n (pc' := 1) C dX7_mark_0 rfl 0 rfl ?_
  refine pt_iconst (pc' := 2) C dX7_mark_1 rfl (v := 0) (by decide) ?_
  refine pt_put (pc' := 5) (ty := .int) (ws' := wM cA aM 0 n it k td gn dr wk sv P sd se sc ba pa le mo) C in_7 tyX7 tyX7_ok nmX7 dX7_mark_2 rfl 0 0 rfl rfl (by decide) f_1 rfl (by decide +kernel) (rfl) (rfl) (Nat.le_of_ble_eq_true rfl) rfl ?_
  refine pt_aload_n (pc' := 6) C dX7_mark_5 rfl 0 rfl ?_
  refine pt_iload_n (pc' := 7) C dX7_mark_6 rfl 1 rfl ?_
  refine pt_cvI0 (pc' := 10) (w1 := wM cA aM 0 n it k td gn dr wk sv P sd se sc ba pa le mo) (As := [.int x]) (rest := []) C (mX7_isField l D cA aM 0 n it k td gn dr wk sv P sd se sc ba pa le mo x (by first | assumption | omega) (by first | assumption | omega)) (cwV 1 C.hts gX7_mark_X7_isField rfl rfl rfl (by decide +kernel) ⟨Nat.le_of_ble_eq_true rfl, Nat.le_of_ble_eq_true rfl⟩) dX7_mark_7 rfl 0 rfl rfl rfl rfl rfl (Nat.le_of_ble_eq_true rfl) ⟨Nat.le_of_ble_eq_true rfl, Nat.le_of_ble_eq_true rfl⟩ ?_
  refine pt_if_eq (pc' := 13) (tgt := 24) C dX7_mark_10 (by decide) rfl (fun h_10 => ?_) (fun h_10 => ?_)
  · refine pt_iconst (pc' := 25) C dX7_mark_24 rfl (v := 0) (by decide) ?_
    exact pt_iret C hr hk dX7_mark_25 (rfl) (by simp only [okMar, bI_f h_10, bI, cond_false, cond_true, Bool.and_true, Bool.true_and, Bool.and_false, Bool.false_and] <;> rfl) (by simp only [okMar, bI_f h_10, bI, cond_false, cond_true, Bool.and_true, Bool.true_and, Bool.and_false, Bool.false_and] <;> rfl)
  · refine pt_iload_n (pc' := 14) C dX7_mark_13 rfl 2 rfl ?_
    refine pt_iconst (pc' := 15) C dX7_mark_14 rfl (v := 0) (by decide) ?_
    refine pt_sipush (pc' := 18) C dX7_mark_15 rfl (v := 9999) (by decide) ?_
    refine pt_csI0 (pc' := 21) (As := [.int y, .int 0, .int 9999]) (rest := []) C (mX7_within l D cA y 0 9999 ) (va_cwS 3 C.hts gX7_mark_X7_within rfl rfl rfl (by decide +kernel) ⟨Nat.le_of_ble_eq_true rfl, Nat.le_of_ble_eq_true rfl⟩) dX7_mark_18 rfl rfl rfl (Nat.le_of_ble_eq_true rfl) ⟨Nat.le_of_ble_eq_true rfl, Nat.le_of_ble_eq_true rfl⟩ ?_
    refine pt_if_ne (pc' := 24) (tgt := 26) C dX7_mark_21 (by decide) rfl (fun h_21 => ?_) (fun h_21 => ?_)
    · refine pt_aload_n (pc' := 27) C dX7_mark_26 rfl 0 rfl ?_
      refine pt_get (pc' := 30) C in_7 dX7_mark_27 rfl 0 31 rfl rfl (by decide) f_89 rfl ?_
      refine pt_iload_n (pc' := 31) C dX7_mark_30 rfl 1 rfl ?_
      refine pt_iload_n (pc' := 32) C dX7_mark_31 rfl 2 rfl ?_
      refine pt_iast (pc' := 33) (ws' := wM cA aM 0 n it k td gn dr wk sv (va_up P 16 (upd (P 16) x.toNatClampNeg y)) sd se sc ba pa le mo) C dX7_mark_32 rfl 24 rfl rfl x.toNatClampNeg ((inF_in hm (bI_t h_10)).1) (by have := (inF_in hm (bI_t h_10)).2; omega) (by decide) rfl ?_
      refine pt_aload_n (pc' := 34) C dX7_mark_33 rfl 0 rfl ?_
      refine pt_iconst (pc' := 35) C dX7_mark_34 rfl (v := 1) (by decide) ?_
      refine pt_put (pc' := 38) (ty := .boolean) (ws' := wM cA aM 0 n 1 k td gn dr wk sv (va_up P 16 (upd (P 16) x.toNatClampNeg y)) sd se sc ba pa le mo) C in_7 tyX7 tyX7_ok nmX7 dX7_mark_35 rfl 0 2 rfl rfl (by decide) f_108 rfl (by decide +kernel) (rfl) (rfl) (Nat.le_of_ble_eq_true rfl) rfl ?_
      refine pt_iconst (pc' := 39) C dX7_mark_38 rfl (v := 1) (by decide) ?_
      exact pt_iret C hr hk dX7_mark_39 (rfl) (by simp only [okMar, bI_t h_10, bI_t h_21, bI, cond_false, cond_true, Bool.and_true, Bool.true_and, Bool.and_false, Bool.false_and] <;> rfl) (by simp only [okMar, bI_t h_10, bI_t h_21, bI, cond_false, cond_true, Bool.and_true, Bool.true_and, Bool.and_false, Bool.false_and] <;> rfl)
    · refine pt_iconst (pc' := 25) C dX7_mark_24 rfl (v := 0) (by decide) ?_
      exact pt_iret C hr hk dX7_mark_25 (rfl) (by simp only [okMar, bI_t h_10, bI_f h_21, bI, cond_false, cond_true, Bool.and_true, Bool.true_and, Bool.and_false, Bool.false_and] <;> rfl) (by simp only [okMar, bI_t h_10, bI_f h_21, bI, cond_false, cond_true, Bool.and_true, Bool.true_and, Bool.and_false, Bool.false_and] <;> rfl)

set_option maxHeartbeats 4000000 in
set_option maxRecDepth 100000 in
theorem mX7_survey (l : Launch) (D : va_G) (cA : ClassId) (aM : Nat → Nat) (th : Int32) (n : Nat) (it : Int32) (k : Int32) (td : Nat) (gn : Nat) (dr : Nat) (wk : Nat) (sv : Nat) (P : Nat → Nat → Int32) (sd : Nat → Int32) (se : Nat → Int32) (sc : Nat → Int32) (ba : Nat → Int32) (pa : Nat → Int32) (le : Nat → Int32) (mo : Nat → Int32) (x : Int32) (y : Int32) (a : Int32) (b : Int32) (hn : 2 ≤ n) (hm : n ≤ 12) (hv : sv ≤ 20) : mt_I l yX7_survey wsX7_survey { frames := 2, cells := 0, slots := 0, locals := 43 } D [(cA, .int)] [.ref (aM 0), .int x, .int y, .int a, .int b] (wM cA aM th n it k td gn dr wk sv P sd se sc ba pa le mo) (cond (okSur n sv x y a b) (nI (sv + 1)) (-1)) (wM cA aM 0 n (cond (okSur n sv x y a b) (1) it) k td gn dr wk (cond (okSur n sv x y a b) (sv + 1) sv) (cond (okSur n sv x y a b) (va_up (va_up (va_up (va_up P 17 (upd (P 17) sv x)) 18 (upd (P 18) sv y)) 19 (upd (P 19) sv a)) 20 (upd (P 20) sv b)) P) sd se sc ba pa le mo) := by
  refine mt_ofI (cc := cX7_survey) (maxL := 5) (ret := (some .int)) (lv := [(0, .ref (aM 0)), (1, .int x), (2, .int y), (3, .int a), (4, .int b)]) (by decide) rfl (Nat.le_of_ble_eq_true rfl) rfl ?_
  intro p e s m args below meth c A C hr hk
  have f_1 := C.hts (.fieldLink RX7 1 "ShoreFieldsModel" "thrown" "I") (by decide +kernel)
  have in_7 : ∀ w ∈ u_ws RX7 TX7 37, w ∈ wsX7_survey := by decide +kernel
  have f_181 := C.hts (.fieldLink RX7 181 "ShoreFieldsModel" "surveys" "I") (by decide +kernel)
  have f_92 := C.hts (.fieldLink RX7 92 "ShoreFieldsModel" "surveyOf" "[I") (by decide +kernel)
  have f_95 := C.hts (.fieldLink RX7 95 "ShoreFieldsModel" "surveyOn" "[I") (by decide +kernel)
  have f_98 := C.hts (.fieldLink RX7 98 "ShoreFieldsModel" "surveyLow" "[I") (by decide +kernel)
  have f_101 := C.hts (.fieldLink RX7 101 "ShoreFieldsModel" "surveyHigh" "[I") (by decide +kernel)
  have f_108 := C.hts (.fieldLink RX7 108 "ShoreFieldsModel" "isTold" "Z") (by decide +kernel)
  refine pt_aload_n (pc' := 1) C dX7_survey_0 rfl 0 rfl ?_
  refine pt_iconst (pc' := 2) C dX7_survey_1 rfl (v := 0) (by decide) ?_
  refine pt_put (pc' := 5) (ty := .int) (ws' := wM cA aM 0 n it k td gn dr wk sv P sd se sc ba pa le mo) C in_7 tyX7 tyX7_ok nmX7 dX7_survey_2 rfl 0 0 rfl rfl (by decide) f_1 rfl (by decide +kernel) (rfl) (rfl) (Nat.le_of_ble_eq_true rfl) rfl ?_
  refine pt_aload_n (pc' := 6) C dX7_survey_5 rfl 0 rfl ?_
  refine pt_iload_n (pc' := 7) C dX7_survey_6 rfl 1 rfl ?_
  refine pt_cvI0 (pc' := 10) (w1 := wM cA aM 0 n it k td gn dr wk sv P sd se sc ba pa le mo) (As := [.int x]) (rest := []) C (mX7_isField l D cA aM 0 n it k td gn dr wk sv P sd se sc ba pa le mo x (by first | assumption | omega) (by first | assumption | omega)) (cwV 1 C.hts gX7_survey_X7_isField rfl rfl rfl (by decide +kernel) ⟨Nat.le_of_ble_eq_true rfl, Nat.le_of_ble_eq_true rfl⟩) dX7_survey_7 rfl 0 rfl rfl rfl rfl rfl (Nat.le_of_ble_eq_true rfl) ⟨Nat.le_of_ble_eq_true rfl, Nat.le_of_ble_eq_true rfl⟩ ?_
  refine pt_if_eq (pc' := 13) (tgt := 50) C dX7_survey_10 (by decide) rfl (fun h_10 => ?_) (fun h_10 => ?_)
  · refine pt_iconst (pc' := 51) C dX7_survey_50 rfl (v := -1) (by decide) ?_
    exact pt_iret C hr hk dX7_survey_51 (rfl) (by simp only [okSur_M, sur2, bI_f h_10, bI, cond_false, cond_true, Bool.and_true, Bool.true_and, Bool.and_false, Bool.false_and] <;> rfl) (by simp only [okSur_M, sur2, bI_f h_10, bI, cond_false, cond_true, Bool.and_true, Bool.true_and, Bool.and_false, Bool.false_and] <;> rfl)
  · refine pt_iload_n (pc' := 14) C dX7_survey_13 rfl 2 rfl ?_
    refine pt_iconst (pc' := 15) C dX7_survey_14 rfl (v := 1) (by decide) ?_
    refine pt_bipush (pc' := 17) C dX7_survey_15 rfl (v := 120) (by decide) ?_
    refine pt_csI0 (pc' := 20) (As := [.int y, .int 1, .int 120]) (rest := []) C (mX7_within l D cA y 1 120 ) (va_cwS 3 C.hts gX7_survey_X7_within rfl rfl rfl (by decide +kernel) ⟨Nat.le_of_ble_eq_true rfl, Nat.le_of_ble_eq_true rfl⟩) dX7_survey_17 rfl rfl rfl (Nat.le_of_ble_eq_true rfl) ⟨Nat.le_of_ble_eq_true rfl, Nat.le_of_ble_eq_true rfl⟩ ?_
    refine pt_if_eq (pc' := 23) (tgt := 50) C dX7_survey_20 (by decide) rfl (fun h_20 => ?_) (fun h_20 => ?_)
    · refine pt_iconst (pc' := 51) C dX7_survey_50 rfl (v := -1) (by decide) ?_
      exact pt_iret C hr hk dX7_survey_51 (rfl) (by simp only [okSur_M, sur2, bI_t h_10, bI_f h_20, bI, cond_false, cond_true, Bool.and_true, Bool.true_and, Bool.and_false, Bool.false_and] <;> rfl) (by simp only [okSur_M, sur2, bI_t h_10, bI_f h_20, bI, cond_false, cond_true, Bool.and_true, Bool.true_and, Bool.and_false, Bool.false_and] <;> rfl)
    · refine pt_iload_n (pc' := 24) C dX7_survey_23 rfl 3 rfl ?_
      refine pt_if_lt (pc' := 27) (tgt := 50) C dX7_survey_24 (by decide) rfl (fun h_24 => ?_) (fun h_24 => ?_)
      · refine pt_iconst (pc' := 51) C dX7_survey_50 rfl (v := -1) (by decide) ?_
        exact pt_iret C hr hk dX7_survey_51 (rfl) (by simp only [okSur_M, sur2, bI_t h_10, bI_t h_20, if_pos h_24, bI, cond_false, cond_true, Bool.and_true, Bool.true_and, Bool.and_false, Bool.false_and] <;> rfl) (by simp only [okSur_M, sur2, bI_t h_10, bI_t h_20, if_pos h_24, bI, cond_false, cond_true, Bool.and_true, Bool.true_and, Bool.and_false, Bool.false_and] <;> rfl)
      · refine pt_iload (pc' := 29) C dX7_survey_27 rfl 4 rfl ?_
        refine pt_sipush (pc' := 32) C dX7_survey_29 rfl (v := 9999) (by decide) ?_
        refine pt_icmp_gt (pc' := 35) (tgt := 50) C dX7_survey_32 (by decide) rfl (fun h_32 => ?_) (fun h_32 => ?_)
        · refine pt_iconst (pc' := 51) C dX7_survey_50 rfl (v := -1) (by decide) ?_
          exact pt_iret C hr hk dX7_survey_51 (rfl) (by simp only [okSur_M, sur2, bI_t h_10, bI_t h_20, if_neg h_24, if_pos h_32, bI, cond_false, cond_true, Bool.and_true, Bool.true_and, Bool.and_false, Bool.false_and] <;> rfl) (by simp only [okSur_M, sur2, bI_t h_10, bI_t h_20, if_neg h_24, if_pos h_32, bI, cond_false, cond_true, Bool.and_true, Bool.true_and, Bool.and_false, Bool.false_and] <;> rfl)
        · refine pt_iload_n (pc' := 36) C dX7_survey_35 rfl 3 rfl ?_
          refine pt_iload (pc' := 38) C dX7_survey_36 rfl 4 rfl ?_
          refine pt_icmp_gt (pc' := 41) (tgt := 50) C dX7_survey_38 (by decide) rfl (fun h_38 => ?_) (fun h_38 => ?_)
          · refine pt_iconst (pc' := 51) C dX7_survey_50 rfl (v := -1) (by decide) ?_
            exact pt_iret C hr hk dX7_survey_51 (rfl) (by simp only [okSur_M, sur2, bI_t h_10, bI_t h_20, if_neg h_24, if_neg h_32, if_pos h_38, bI, cond_false, cond_true, Bool.and_true, Bool.true_and, Bool.and_false, Bool.false_and] <;> rfl) (by simp only [okSur_M, sur2, bI_t h_10, bI_t h_20, if_neg h_24, if_neg h_32, if_pos h_38, bI, cond_false, cond_true, Bool.and_true, Bool.true_and, Bool.and_false, Bool.false_and] <;> rfl)
          · refine pt_aload_n (pc' := 42) C dX7_survey_41 rfl 0 rfl ?_
            refine pt_get (pc' := 45) C in_7 dX7_survey_42 rfl 0 32 rfl rfl (by decide) f_181 rfl ?_
            refine pt_bipush (pc' := 47) C dX7_survey_45 rfl (v := 20) (by decide) ?_
            refine pt_icmp_ne (pc' := 50) (tgt := 52) C dX7_survey_47 (by decide) rfl (fun h_47 => ?_) (fun h_47 => ?_)
            · have hlt : sv < 20 := of_decide_eq_true (de_t (b := 20) (by decide) hv h_47)
              refine pt_aload_n (pc' := 53) C dX7_survey_52 rfl 0 rfl ?_
              refine pt_get (pc' := 56) C in_7 dX7_survey_53 rfl 0 33 rfl rfl (by decide) f_92 rfl ?_
              refine pt_aload_n (pc' := 57) C dX7_survey_56 rfl 0 rfl ?_
              refine pt_get (pc' := 60) C in_7 dX7_survey_57 rfl 0 32 rfl rfl (by decide) f_181 rfl ?_
              refine pt_iload_n (pc' := 61) C dX7_survey_60 rfl 1 rfl ?_
              refine pt_iast (pc' := 62) (ws' := wM cA aM 0 n it k td gn dr wk sv (va_up P 17 (upd (P 17) sv x)) sd se sc ba pa le mo) C dX7_survey_61 rfl 25 rfl rfl sv (rfl) (by omega) (by decide) rfl ?_
              refine pt_aload_n (pc' := 63) C dX7_survey_62 rfl 0 rfl ?_
              refine pt_get (pc' := 66) C in_7 dX7_survey_63 rfl 0 34 rfl rfl (by decide) f_95 rfl ?_
              refine pt_aload_n (pc' := 67) C dX7_survey_66 rfl 0 rfl ?_
              refine pt_get (pc' := 70) C in_7 dX7_survey_67 rfl 0 32 rfl rfl (by decide) f_181 rfl ?_
              refine pt_iload_n (pc' := 71) C dX7_survey_70 rfl 2 rfl ?_
              refine pt_iast (pc' := 72) (ws' := wM cA aM 0 n it k td gn dr wk sv (va_up (va_up P 17 (upd (P 17) sv x)) 18 (upd ((va_up P 17 (upd (P 17) sv x)) 18) sv y)) sd se sc ba pa le mo) C dX7_survey_71 rfl 26 rfl rfl sv (rfl) (by omega) (by decide) rfl ?_
              refine pt_aload_n (pc' := 73) C dX7_survey_72 rfl 0 rfl ?_
              refine pt_get (pc' := 76) C in_7 dX7_survey_73 rfl 0 35 rfl rfl (by decide) f_98 rfl ?_
              refine pt_aload_n (pc' := 77) C dX7_survey_76 rfl 0 rfl ?_
              refine pt_get (pc' := 80) C in_7 dX7_survey_77 rfl 0 32 rfl rfl (by decide) f_181 rfl ?_
              refine pt_iload_n (pc' := 81) C dX7_survey_80 rfl 3 rfl ?_
              refine pt_iast (pc' := 82) (ws' := wM cA aM 0 n it k td gn dr wk sv (va_up (va_up (va_up P 17 (upd (P 17) sv x)) 18 (upd ((va_up P 17 (upd (P 17) sv x)) 18) sv y)) 19 (upd ((va_up (va_up P 17 (upd (P 17) sv x)) 18 (upd ((va_up P 17 (upd (P 17) sv x)) 18) sv y)) 19) sv a)) sd se sc ba pa le mo) C dX7_survey_81 rfl 27 rfl rfl sv (rfl) (by omega) (by decide) rfl ?_
              refine pt_aload_n (pc' := 83) C dX7_survey_82 rfl 0 rfl ?_
              refine pt_get (pc' := 86) C in_7 dX7_survey_83 rfl 0 36 rfl rfl (by decide) f_101 rfl ?_
              refine pt_aload_n (pc' := 87) C dX7_survey_86 rfl 0 rfl ?_
              refine pt_get (pc' := 90) C in_7 dX7_survey_87 rfl 0 32 rfl rfl (by decide) f_181 rfl ?_
              refine pt_iload (pc' := 92) C dX7_survey_90 rfl 4 rfl ?_
              refine pt_iast (pc' := 93) (ws' := wM cA aM 0 n it k td gn dr wk sv (va_up (va_up (va_up (va_up P 17 (upd (P 17) sv x)) 18 (upd ((va_up P 17 (upd (P 17) sv x)) 18) sv y)) 19 (upd ((va_up (va_up P 17 (upd (P 17) sv x)) 18 (upd ((va_up P 17 (upd (P 17) sv x)) 18) sv y)) 19) sv a)) 20 (upd ((va_up (va_up (va_up P 17 (upd (P 17) sv x)) 18 (upd ((va_up P 17 (upd (P 17) sv x)) 18) sv y)) 19 (upd ((va_up (va_up P 17 (upd (P 17) sv x)) 18 (upd ((va_up P 17 (upd (P 17) sv x)) 18) sv y)) 19) sv a)) 20) sv b)) sd se sc ba pa le mo) C dX7_survey_92 rfl 28 rfl rfl sv (rfl) (by omega) (by decide) rfl ?_
              refine pt_aload_n (pc' := 94) C dX7_survey_93 rfl 0 rfl ?_
              refine pt_dup (pc' := 95) C dX7_survey_94 rfl rfl ?_
              refine pt_get (pc' := 98) C in_7 dX7_survey_95 rfl 0 32 rfl rfl (by decide) f_181 rfl ?_
              refine pt_iconst (pc' := 99) C dX7_survey_98 rfl (v := 1) (by decide) ?_
              refine pt_iadd (pc' := 100) C dX7_survey_99 rfl ?_
              refine pt_eq (st' := [.int (nI (sv + 1)), .ref (aM 0)]) rfl rfl (by rw [nI_1]) ?_
              refine pt_put (pc' := 103) (ty := .int) (ws' := wM cA aM 0 n it k td gn dr wk (sv + 1) (va_up (va_up (va_up (va_up P 17 (upd (P 17) sv x)) 18 (upd ((va_up P 17 (upd (P 17) sv x)) 18) sv y)) 19 (upd ((va_up (va_up P 17 (upd (P 17) sv x)) 18 (upd ((va_up P 17 (upd (P 17) sv x)) 18) sv y)) 19) sv a)) 20 (upd ((va_up (va_up (va_up P 17 (upd (P 17) sv x)) 18 (upd ((va_up P 17 (upd (P 17) sv x)) 18) sv y)) 19 (upd ((va_up (va_up P 17 (upd (P 17) sv x)) 18 (upd ((va_up P 17 (upd (P 17) sv x)) 18) sv y)) 19) sv a)) 20) sv b)) sd se sc ba pa le mo) C in_7 tyX7 tyX7_ok nmX7 dX7_survey_100 rfl 0 32 rfl rfl (by decide) f_181 rfl (by decide +kernel) (rfl) (rfl) (Nat.le_of_ble_eq_true rfl) rfl ?_
              refine pt_aload_n (pc' := 104) C dX7_survey_103 rfl 0 rfl ?_
              refine pt_iconst (pc' := 105) C dX7_survey_104 rfl (v := 1) (by decide) ?_
              refine pt_put (pc' := 108) (ty := .boolean) (ws' := wM cA aM 0 n 1 k td gn dr wk (sv + 1) (va_up (va_up (va_up (va_up P 17 (upd (P 17) sv x)) 18 (upd ((va_up P 17 (upd (P 17) sv x)) 18) sv y)) 19 (upd ((va_up (va_up P 17 (upd (P 17) sv x)) 18 (upd ((va_up P 17 (upd (P 17) sv x)) 18) sv y)) 19) sv a)) 20 (upd ((va_up (va_up (va_up P 17 (upd (P 17) sv x)) 18 (upd ((va_up P 17 (upd (P 17) sv x)) 18) sv y)) 19 (upd ((va_up (va_up P 17 (upd (P 17) sv x)) 18 (upd ((va_up P 17 (upd (P 17) sv x)) 18) sv y)) 19) sv a)) 20) sv b)) sd se sc ba pa le mo) C in_7 tyX7 tyX7_ok nmX7 dX7_survey_105 rfl 0 2 rfl rfl (by decide) f_108 rfl (by decide +kernel) (rfl) (rfl) (Nat.le_of_ble_eq_true rfl) rfl ?_
              refine pt_aload_n (pc' := 109) C dX7_survey_108 rfl 0 rfl ?_
              refine pt_get (pc' := 112) C in_7 dX7_survey_109 rfl 0 32 rfl rfl (by decide) f_181 rfl ?_
              exact pt_iret C hr hk dX7_survey_112 (rfl) (by simp only [okSur_M, sur2, bI_t h_10, bI_t h_20, if_neg h_24, if_neg h_32, if_neg h_38, de_t (b := 20) (by decide) (by omega) h_47, bI, cond_false, cond_true, Bool.and_true, Bool.true_and, Bool.and_false, Bool.false_and] <;> rfl) (by simp only [okSur_M, sur2, bI_t h_10, bI_t h_20, if_neg h_24, if_neg h_32, if_neg h_38, de_t (b := 20) (by decide) (by omega) h_47, bI, cond_false, cond_true, Bool.and_true, Bool.true_and, Bool.and_false, Bool.false_and] <;> rfl)
            · refine pt_iconst (pc' := 51) C dX7_survey_50 rfl (v := -1) (by decide) ?_
              exact pt_iret C hr hk dX7_survey_51 (rfl) (by simp only [okSur_M, sur2, bI_t h_10, bI_t h_20, if_neg h_24, if_neg h_32, if_neg h_38, de_f (b := 20) (by decide) (by omega) h_47, bI, cond_false, cond_true, Bool.and_true, Bool.true_and, Bool.and_false, Bool.false_and] <;> rfl) (by simp only [okSur_M, sur2, bI_t h_10, bI_t h_20, if_neg h_24, if_neg h_32, if_neg h_38, de_f (b := 20) (by decide) (by omega) h_47, bI, cond_false, cond_true, Bool.and_true, Bool.true_and, Bool.and_false, Bool.false_and] <;> rfl)

set_option maxHeartbeats 4000000 in
set_option maxRecDepth 100000 in
theorem mX7_work (l : Launch) (D : va_G) (cA : ClassId) (aM : Nat → Nat) (th : Int32) (n : Nat) (it : Int32) (k : Int32) (td : Nat) (gn : Nat) (dr : Nat) (wk : Nat) (sv : Nat) (P : Nat → Nat → Int32) (sd : Nat → Int32) (se : Nat → Int32) (sc : Nat → Int32) (ba : Nat → Int32) (pa : Nat → Int32) (le : Nat → Int32) (mo : Nat → Int32) (x : Int32) (y : Int32) (z : Int32) (w : Int32) (hn : 2 ≤ n) (hm : n ≤ 12) (hw6 : wk ≤ 6) : mt_I l yX7_work wsX7_work { frames := 2, cells := 0, slots := 0, locals := 43 } D [(cA, .int)] [.ref (aM 0), .int x, .int y, .int z, .int w] (wM cA aM th n it k td gn dr wk sv P sd se sc ba pa le mo) (cond (okWrk n wk (P 1) x y z w) (nI wk) (-1)) (wM cA aM 0 n (cond (okWrk n wk (P 1) x y z w) (1) it) k td gn dr (cond (okWrk n wk (P 1) x y z w) (wk + 1) wk) sv (cond (okWrk n wk (P 1) x y z w) (va_up (va_up (va_up (va_up P 12 (upd (P 12) wk x)) 13 (upd (P 13) wk y)) 14 (upd (P 14) wk z)) 15 (upd (P 15) wk w)) P) sd se sc ba pa le mo) := by
  refine mt_ofI (cc := cX7_work) (maxL := 6) (ret := (some .int)) (lv := [(0, .ref (aM 0)), (1, .int x), (2, .int y), (3, .int z), (4, .int w)]) (by decide) rfl (Nat.le_of_ble_eq_true rfl) rfl ?_
  intro p e s m args below meth c A C hr hk
  have f_1 := C.hts (.fieldLink RX7 1 "ShoreFieldsModel" "thrown" "I") (by decide +kernel)
  have in_7 : ∀ w ∈ u_ws RX7 TX7 37, w ∈ wsX7_work := by decide +kernel
  have f_20 := C.hts (.fieldLink RX7 20 "ShoreFieldsModel" "kind" "[I") (by decide +kernel)
  have f_175 := C.hts (.fieldLink RX7 175 "ShoreFieldsModel" "works" "I") (by decide +kernel)
  have f_77 := C.hts (.fieldLink RX7 77 "ShoreFieldsModel" "workKind" "[I") (by decide +kernel)
  have f_80 := C.hts (.fieldLink RX7 80 "ShoreFieldsModel" "workAt" "[I") (by decide +kernel)
  have f_83 := C.hts (.fieldLink RX7 83 "ShoreFieldsModel" "workN" "[I") (by decide +kernel)
  have f_86 := C.hts (.fieldLink RX7 86 "ShoreFieldsModel" "workPrice" "[I") (by decide +kernel)
  have f_108 := C.hts (.fieldLink RX7 108 "ShoreFieldsModel" "isTold" "Z") (by decide +kernel)
  refine pt_aload_n (pc' := 1) C dX7_work_0 rfl 0 rfl ?_
  refine pt_iconst (pc' := 2) C dX7_work_1 rfl (v := 0) (by decide) ?_
  refine pt_put (pc' := 5) (ty := .int) (ws' := wM cA aM 0 n it k td gn dr wk sv P sd se sc ba pa le mo) C in_7 tyX7 tyX7_ok nmX7 dX7_work_2 rfl 0 0 rfl rfl (by decide) f_1 rfl (by decide +kernel) (rfl) (rfl) (Nat.le_of_ble_eq_true rfl) rfl ?_
  refine pt_iload_n (pc' := 6) C dX7_work_5 rfl 1 rfl ?_
  refine pt_if_ne (pc' := 9) (tgt := 28) C dX7_work_6 (by decide) rfl (fun h_6 => ?_) (fun h_6 => ?_)
  · refine pt_iload_n (pc' := 29) C dX7_work_28 rfl 1 rfl ?_
    refine pt_iconst (pc' := 30) C dX7_work_29 rfl (v := 1) (by decide) ?_
    refine pt_icmp_ne (pc' := 33) (tgt := 66) C dX7_work_30 (by decide) rfl (fun h_30 => ?_) (fun h_30 => ?_)
    · refine pt_iconst (pc' := 67) C dX7_work_66 rfl (v := 0) (by decide) ?_
      refine pt_istore (pc' := 69) (lv' := [(5, .int 0), (0, .ref (aM 0)), (1, .int x), (2, .int y), (3, .int z), (4, .int w)]) C dX7_work_67 rfl (by decide) rfl ?_
      refine pt_iload (pc' := 71) C dX7_work_69 rfl 0 rfl ?_
      refine pt_if_eq (pc' := 74) (tgt := 95) C dX7_work_71 (by decide) rfl (fun h_71 => ?_) (fun h_71 => absurd (by decide) h_71)
      refine pt_iconst (pc' := 96) C dX7_work_95 rfl (v := -1) (by decide) ?_
      exact pt_iret C hr hk dX7_work_96 (rfl) (by simp only [okWrk, hasA, if_neg h_6, if_neg h_30, Bool.or_true, Bool.true_or, Bool.or_false, Bool.false_or, bI, cond_false, cond_true, Bool.and_true, Bool.true_and, Bool.and_false, Bool.false_and] <;> rfl) (by simp only [okWrk, hasA, if_neg h_6, if_neg h_30, Bool.or_true, Bool.true_or, Bool.or_false, Bool.false_or, bI, cond_false, cond_true, Bool.and_true, Bool.true_and, Bool.and_false, Bool.false_and] <;> rfl)
    · refine pt_aload_n (pc' := 34) C dX7_work_33 rfl 0 rfl ?_
      refine pt_iload_n (pc' := 35) C dX7_work_34 rfl 2 rfl ?_
      refine pt_cvI0 (pc' := 38) (w1 := wM cA aM 0 n it k td gn dr wk sv P sd se sc ba pa le mo) (As := [.int y]) (rest := []) C (mX7_isInner l D cA aM 0 n it k td gn dr wk sv P sd se sc ba pa le mo y (by first | assumption | omega) (by first | assumption | omega)) (cwV 1 C.hts gX7_work_X7_isInner rfl rfl rfl (by decide +kernel) ⟨Nat.le_of_ble_eq_true rfl, Nat.le_of_ble_eq_true rfl⟩) dX7_work_35 rfl 0 rfl rfl rfl rfl rfl (Nat.le_of_ble_eq_true rfl) ⟨Nat.le_of_ble_eq_true rfl, Nat.le_of_ble_eq_true rfl⟩ ?_
      refine pt_if_eq (pc' := 41) (tgt := 66) C dX7_work_38 (by decide) rfl (fun h_38 => ?_) (fun h_38 => ?_)
      · refine pt_iconst (pc' := 67) C dX7_work_66 rfl (v := 0) (by decide) ?_
        refine pt_istore (pc' := 69) (lv' := [(5, .int 0), (0, .ref (aM 0)), (1, .int x), (2, .int y), (3, .int z), (4, .int w)]) C dX7_work_67 rfl (by decide) rfl ?_
        refine pt_iload (pc' := 71) C dX7_work_69 rfl 0 rfl ?_
        refine pt_if_eq (pc' := 74) (tgt := 95) C dX7_work_71 (by decide) rfl (fun h_71 => ?_) (fun h_71 => absurd (by decide) h_71)
        refine pt_iconst (pc' := 96) C dX7_work_95 rfl (v := -1) (by decide) ?_
        exact pt_iret C hr hk dX7_work_96 (rfl) (by simp only [okWrk, hasA, if_neg h_6, if_pos h_30, bI_f h_38, Bool.or_true, Bool.true_or, Bool.or_false, Bool.false_or, bI, cond_false, cond_true, Bool.and_true, Bool.true_and, Bool.and_false, Bool.false_and] <;> rfl) (by simp only [okWrk, hasA, if_neg h_6, if_pos h_30, bI_f h_38, Bool.or_true, Bool.true_or, Bool.or_false, Bool.false_or, bI, cond_false, cond_true, Bool.and_true, Bool.true_and, Bool.and_false, Bool.false_and] <;> rfl)
      · refine pt_aload_n (pc' := 42) C dX7_work_41 rfl 0 rfl ?_
        refine pt_get (pc' := 45) C in_7 dX7_work_42 rfl 0 4 rfl rfl (by decide) f_20 rfl ?_
        refine pt_iload_n (pc' := 46) C dX7_work_45 rfl 2 rfl ?_
        refine pt_iald (pc' := 47) C dX7_work_46 rfl 2 rfl rfl y.toNatClampNeg ((inI_in hm (bI_t h_38)).1) (by have := (inI_in hm (bI_t h_38)).2.2; omega) (by decide) ?_
        refine pt_iconst (pc' := 48) C dX7_work_47 rfl (v := 1) (by decide) ?_
        refine pt_icmp_ne (pc' := 51) (tgt := 66) C dX7_work_48 (by decide) rfl (fun h_48 => ?_) (fun h_48 => ?_)
        · refine pt_iconst (pc' := 67) C dX7_work_66 rfl (v := 0) (by decide) ?_
          refine pt_istore (pc' := 69) (lv' := [(5, .int 0), (0, .ref (aM 0)), (1, .int x), (2, .int y), (3, .int z), (4, .int w)]) C dX7_work_67 rfl (by decide) rfl ?_
          refine pt_iload (pc' := 71) C dX7_work_69 rfl 0 rfl ?_
          refine pt_if_eq (pc' := 74) (tgt := 95) C dX7_work_71 (by decide) rfl (fun h_71 => ?_) (fun h_71 => absurd (by decide) h_71)
          refine pt_iconst (pc' := 96) C dX7_work_95 rfl (v := -1) (by decide) ?_
          exact pt_iret C hr hk dX7_work_96 (rfl) (by simp only [okWrk, hasA, if_neg h_6, if_pos h_30, bI_t h_38, if_neg h_48, Bool.or_true, Bool.true_or, Bool.or_false, Bool.false_or, bI, cond_false, cond_true, Bool.and_true, Bool.true_and, Bool.and_false, Bool.false_and] <;> rfl) (by simp only [okWrk, hasA, if_neg h_6, if_pos h_30, bI_t h_38, if_neg h_48, Bool.or_true, Bool.true_or, Bool.or_false, Bool.false_or, bI, cond_false, cond_true, Bool.and_true, Bool.true_and, Bool.and_false, Bool.false_and] <;> rfl)
        · refine pt_iload_n (pc' := 52) C dX7_work_51 rfl 3 rfl ?_
          refine pt_iconst (pc' := 53) C dX7_work_52 rfl (v := 1) (by decide) ?_
          refine pt_sipush (pc' := 56) C dX7_work_53 rfl (v := 999) (by decide) ?_
          refine pt_csI0 (pc' := 59) (As := [.int z, .int 1, .int 999]) (rest := []) C (mX7_within l D cA z 1 999 ) (va_cwS 3 C.hts gX7_work_X7_within rfl rfl rfl (by decide +kernel) ⟨Nat.le_of_ble_eq_true rfl, Nat.le_of_ble_eq_true rfl⟩) dX7_work_56 rfl rfl rfl (Nat.le_of_ble_eq_true rfl) ⟨Nat.le_of_ble_eq_true rfl, Nat.le_of_ble_eq_true rfl⟩ ?_
          refine pt_if_eq (pc' := 62) (tgt := 66) C dX7_work_59 (by decide) rfl (fun h_59 => ?_) (fun h_59 => ?_)
          · refine pt_iconst (pc' := 67) C dX7_work_66 rfl (v := 0) (by decide) ?_
            refine pt_istore (pc' := 69) (lv' := [(5, .int 0), (0, .ref (aM 0)), (1, .int x), (2, .int y), (3, .int z), (4, .int w)]) C dX7_work_67 rfl (by decide) rfl ?_
            refine pt_iload (pc' := 71) C dX7_work_69 rfl 0 rfl ?_
            refine pt_if_eq (pc' := 74) (tgt := 95) C dX7_work_71 (by decide) rfl (fun h_71 => ?_) (fun h_71 => absurd (by decide) h_71)
            refine pt_iconst (pc' := 96) C dX7_work_95 rfl (v := -1) (by decide) ?_
            exact pt_iret C hr hk dX7_work_96 (rfl) (by simp only [okWrk, hasA, if_neg h_6, if_pos h_30, bI_t h_38, if_pos h_48, bI_f h_59, Bool.or_true, Bool.true_or, Bool.or_false, Bool.false_or, bI, cond_false, cond_true, Bool.and_true, Bool.true_and, Bool.and_false, Bool.false_and] <;> rfl) (by simp only [okWrk, hasA, if_neg h_6, if_pos h_30, bI_t h_38, if_pos h_48, bI_f h_59, Bool.or_true, Bool.true_or, Bool.or_false, Bool.false_or, bI, cond_false, cond_true, Bool.and_true, Bool.true_and, Bool.and_false, Bool.false_and] <;> rfl)
          · refine pt_iconst (pc' := 63) C dX7_work_62 rfl (v := 1) (by decide) ?_
            refine pt_goto (pc' := 67) C dX7_work_63 (by decide) ?_
            refine pt_istore (pc' := 69) (lv' := [(5, .int 1), (0, .ref (aM 0)), (1, .int x), (2, .int y), (3, .int z), (4, .int w)]) C dX7_work_67 rfl (by decide) rfl ?_
            refine pt_iload (pc' := 71) C dX7_work_69 rfl 0 rfl ?_
            refine pt_if_eq (pc' := 74) (tgt := 95) C dX7_work_71 (by decide) rfl (fun h_71 => absurd h_71 (by decide)) (fun h_71 => ?_)
            refine pt_iload (pc' := 76) C dX7_work_74 rfl 5 rfl ?_
            refine pt_iconst (pc' := 77) C dX7_work_76 rfl (v := 1) (by decide) ?_
            refine pt_sipush (pc' := 80) C dX7_work_77 rfl (v := 999) (by decide) ?_
            refine pt_csI0 (pc' := 83) (As := [.int w, .int 1, .int 999]) (rest := []) C (mX7_within l D cA w 1 999 ) (va_cwS 3 C.hts gX7_work_X7_within rfl rfl rfl (by decide +kernel) ⟨Nat.le_of_ble_eq_true rfl, Nat.le_of_ble_eq_true rfl⟩) dX7_work_80 rfl rfl rfl (Nat.le_of_ble_eq_true rfl) ⟨Nat.le_of_ble_eq_true rfl, Nat.le_of_ble_eq_true rfl⟩ ?_
            refine pt_if_eq (pc' := 86) (tgt := 95) C dX7_work_83 (by decide) rfl (fun h_83 => ?_) (fun h_83 => ?_)
            · refine pt_iconst (pc' := 96) C dX7_work_95 rfl (v := -1) (by decide) ?_
              exact pt_iret C hr hk dX7_work_96 (rfl) (by simp only [okWrk, hasA, if_neg h_6, if_pos h_30, bI_t h_38, if_pos h_48, bI_t h_59, bI_f h_83, Bool.or_true, Bool.true_or, Bool.or_false, Bool.false_or, bI, cond_false, cond_true, Bool.and_true, Bool.true_and, Bool.and_false, Bool.false_and] <;> rfl) (by simp only [okWrk, hasA, if_neg h_6, if_pos h_30, bI_t h_38, if_pos h_48, bI_t h_59, bI_f h_83, Bool.or_true, Bool.true_or, Bool.or_false, Bool.false_or, bI, cond_false, cond_true, Bool.and_true, Bool.true_and, Bool.and_false, Bool.false_and] <;> rfl)
            · refine pt_aload_n (pc' := 87) C dX7_work_86 rfl 1 rfl ?_
              refine pt_get (pc' := 90) C in_7 dX7_work_87 rfl 0 26 rfl rfl (by decide) f_175 rfl ?_
              refine pt_bipush (pc' := 92) C dX7_work_90 rfl (v := 6) (by decide) ?_
              refine pt_icmp_ne (pc' := 95) (tgt := 97) C dX7_work_92 (by decide) rfl (fun h_92 => ?_) (fun h_92 => ?_)
              · have hlt : wk < 6 := of_decide_eq_true (de_t (b := 6) (by decide) hw6 h_92)
                refine pt_aload_n (pc' := 98) C dX7_work_97 rfl 1 rfl ?_
                refine pt_get (pc' := 101) C in_7 dX7_work_98 rfl 0 27 rfl rfl (by decide) f_77 rfl ?_
                refine pt_aload_n (pc' := 102) C dX7_work_101 rfl 1 rfl ?_
                refine pt_get (pc' := 105) C in_7 dX7_work_102 rfl 0 26 rfl rfl (by decide) f_175 rfl ?_
                refine pt_iload_n (pc' := 106) C dX7_work_105 rfl 2 rfl ?_
                refine pt_iast (pc' := 107) (ws' := wM cA aM 0 n it k td gn dr wk sv (va_up P 12 (upd (P 12) wk x)) sd se sc ba pa le mo) C dX7_work_106 rfl 20 rfl rfl wk (rfl) (by omega) (by decide) rfl ?_
                refine pt_aload_n (pc' := 108) C dX7_work_107 rfl 1 rfl ?_
                refine pt_get (pc' := 111) C in_7 dX7_work_108 rfl 0 28 rfl rfl (by decide) f_80 rfl ?_
                refine pt_aload_n (pc' := 112) C dX7_work_111 rfl 1 rfl ?_
                refine pt_get (pc' := 115) C in_7 dX7_work_112 rfl 0 26 rfl rfl (by decide) f_175 rfl ?_
                refine pt_iload_n (pc' := 116) C dX7_work_115 rfl 3 rfl ?_
                refine pt_iast (pc' := 117) (ws' := wM cA aM 0 n it k td gn dr wk sv (va_up (va_up P 12 (upd (P 12) wk x)) 13 (upd ((va_up P 12 (upd (P 12) wk x)) 13) wk y)) sd se sc ba pa le mo) C dX7_work_116 rfl 21 rfl rfl wk (rfl) (by omega) (by decide) rfl ?_
                refine pt_aload_n (pc' := 118) C dX7_work_117 rfl 1 rfl ?_
                refine pt_get (pc' := 121) C in_7 dX7_work_118 rfl 0 29 rfl rfl (by decide) f_83 rfl ?_
                refine pt_aload_n (pc' := 122) C dX7_work_121 rfl 1 rfl ?_
                refine pt_get (pc' := 125) C in_7 dX7_work_122 rfl 0 26 rfl rfl (by decide) f_175 rfl ?_
                refine pt_iload_n (pc' := 126) C dX7_work_125 rfl 4 rfl ?_
                refine pt_iast (pc' := 127) (ws' := wM cA aM 0 n it k td gn dr wk sv (va_up (va_up (va_up P 12 (upd (P 12) wk x)) 13 (upd ((va_up P 12 (upd (P 12) wk x)) 13) wk y)) 14 (upd ((va_up (va_up P 12 (upd (P 12) wk x)) 13 (upd ((va_up P 12 (upd (P 12) wk x)) 13) wk y)) 14) wk z)) sd se sc ba pa le mo) C dX7_work_126 rfl 22 rfl rfl wk (rfl) (by omega) (by decide) rfl ?_
                refine pt_aload_n (pc' := 128) C dX7_work_127 rfl 1 rfl ?_
                refine pt_get (pc' := 131) C in_7 dX7_work_128 rfl 0 30 rfl rfl (by decide) f_86 rfl ?_
                refine pt_aload_n (pc' := 132) C dX7_work_131 rfl 1 rfl ?_
                refine pt_get (pc' := 135) C in_7 dX7_work_132 rfl 0 26 rfl rfl (by decide) f_175 rfl ?_
                refine pt_iload (pc' := 137) C dX7_work_135 rfl 5 rfl ?_
                refine pt_iast (pc' := 138) (ws' := wM cA aM 0 n it k td gn dr wk sv (va_up (va_up (va_up (va_up P 12 (upd (P 12) wk x)) 13 (upd ((va_up P 12 (upd (P 12) wk x)) 13) wk y)) 14 (upd ((va_up (va_up P 12 (upd (P 12) wk x)) 13 (upd ((va_up P 12 (upd (P 12) wk x)) 13) wk y)) 14) wk z)) 15 (upd ((va_up (va_up (va_up P 12 (upd (P 12) wk x)) 13 (upd ((va_up P 12 (upd (P 12) wk x)) 13) wk y)) 14 (upd ((va_up (va_up P 12 (upd (P 12) wk x)) 13 (upd ((va_up P 12 (upd (P 12) wk x)) 13) wk y)) 14) wk z)) 15) wk w)) sd se sc ba pa le mo) C dX7_work_137 rfl 23 rfl rfl wk (rfl) (by omega) (by decide) rfl ?_
                refine pt_aload_n (pc' := 139) C dX7_work_138 rfl 1 rfl ?_
                refine pt_dup (pc' := 140) C dX7_work_139 rfl rfl ?_
                refine pt_get (pc' := 143) C in_7 dX7_work_140 rfl 0 26 rfl rfl (by decide) f_175 rfl ?_
                refine pt_iconst (pc' := 144) C dX7_work_143 rfl (v := 1) (by decide) ?_
                refine pt_iadd (pc' := 145) C dX7_work_144 rfl ?_
                refine pt_eq (st' := [.int (nI (wk + 1)), .ref (aM 0)]) rfl rfl (by rw [nI_1]) ?_
                refine pt_put (pc' := 148) (ty := .int) (ws' := wM cA aM 0 n it k td gn dr (wk + 1) sv (va_up (va_up (va_up (va_up P 12 (upd (P 12) wk x)) 13 (upd ((va_up P 12 (upd (P 12) wk x)) 13) wk y)) 14 (upd ((va_up (va_up P 12 (upd (P 12) wk x)) 13 (upd ((va_up P 12 (upd (P 12) wk x)) 13) wk y)) 14) wk z)) 15 (upd ((va_up (va_up (va_up P 12 (upd (P 12) wk x)) 13 (upd ((va_up P 12 (upd (P 12) wk x)) 13) wk y)) 14 (upd ((va_up (va_up P 12 (upd (P 12) wk x)) 13 (upd ((va_up P 12 (upd (P 12) wk x)) 13) wk y)) 14) wk z)) 15) wk w)) sd se sc ba pa le mo) C in_7 tyX7 tyX7_ok nmX7 dX7_work_145 rfl 0 26 rfl rfl (by decide) f_175 rfl (by decide +kernel) (rfl) (rfl) (Nat.le_of_ble_eq_true rfl) rfl ?_
                refine pt_aload_n (pc' := 149) C dX7_work_148 rfl 1 rfl ?_
                refine pt_iconst (pc' := 150) C dX7_work_149 rfl (v := 1) (by decide) ?_
                refine pt_put (pc' := 153) (ty := .boolean) (ws' := wM cA aM 0 n 1 k td gn dr (wk + 1) sv (va_up (va_up (va_up (va_up P 12 (upd (P 12) wk x)) 13 (upd ((va_up P 12 (upd (P 12) wk x)) 13) wk y)) 14 (upd ((va_up (va_up P 12 (upd (P 12) wk x)) 13 (upd ((va_up P 12 (upd (P 12) wk x)) 13) wk y)) 14) wk z)) 15 (upd ((va_up (va_up (va_up P 12 (upd (P 12) wk x)) 13 (upd ((va_up P 12 (upd (P 12) wk x)) 13) wk y)) 14 (upd ((va_up (va_up P 12 (upd (P 12) wk x)) 13 (upd ((va_up P 12 (upd (P 12) wk x)) 13) wk y)) 14) wk z)) 15) wk w)) sd se sc ba pa le mo) C in_7 tyX7 tyX7_ok nmX7 dX7_work_150 rfl 0 2 rfl rfl (by decide) f_108 rfl (by decide +kernel) (rfl) (rfl) (Nat.le_of_ble_eq_true rfl) rfl ?_
                refine pt_aload_n (pc' := 154) C dX7_work_153 rfl 1 rfl ?_
                refine pt_get (pc' := 157) C in_7 dX7_work_154 rfl 0 26 rfl rfl (by decide) f_175 rfl ?_
                refine pt_iconst (pc' := 158) C dX7_work_157 rfl (v := 1) (by decide) ?_
                refine pt_isub (pc' := 159) C dX7_work_158 rfl ?_
                refine pt_eq (st' := [.int (nI wk)]) rfl rfl (by rw [nI_m1 (by omega), Nat.add_sub_cancel]) ?_
                exact pt_iret C hr hk dX7_work_159 (rfl) (by simp only [okWrk, hasA, if_neg h_6, if_pos h_30, bI_t h_38, if_pos h_48, bI_t h_59, bI_t h_83, de_t (b := 6) (by decide) (by omega) h_92, Bool.or_true, Bool.true_or, Bool.or_false, Bool.false_or, bI, cond_false, cond_true, Bool.and_true, Bool.true_and, Bool.and_false, Bool.false_and] <;> rfl) (by simp only [okWrk, hasA, if_neg h_6, if_pos h_30, bI_t h_38, if_pos h_48, bI_t h_59, bI_t h_83, de_t (b := 6) (by decide) (by omega) h_92, Bool.or_true, Bool.true_or, Bool.or_false, Bool.false_or, bI, cond_false, cond_true, Bool.and_true, Bool.true_and, Bool.and_false, Bool.false_and] <;> rfl)
              · refine pt_iconst (pc' := 96) C dX7_work_95 rfl (v := -1) (by decide) ?_
                exact pt_iret C hr hk dX7_work_96 (rfl) (by simp only [okWrk, hasA, if_neg h_6, if_pos h_30, bI_t h_38, if_pos h_48, bI_t h_59, bI_t h_83, de_f (b := 6) (by decide) (by omega) h_92, Bool.or_true, Bool.true_or, Bool.or_false, Bool.false_or, bI, cond_false, cond_true, Bool.and_true, Bool.true_and, Bool.and_false, Bool.false_and] <;> rfl) (by simp only [okWrk, hasA, if_neg h_6, if_pos h_30, bI_t h_38, if_pos h_48, bI_t h_59, bI_t h_83, de_f (b := 6) (by decide) (by omega) h_92, Bool.or_true, Bool.true_or, Bool.or_false, Bool.false_or, bI, cond_false, cond_true, Bool.and_true, Bool.true_and, Bool.and_false, Bool.false_and] <;> rfl)
  · refine pt_aload_n (pc' := 10) C dX7_work_9 rfl 0 rfl ?_
    refine pt_iload_n (pc' := 11) C dX7_work_10 rfl 2 rfl ?_
    refine pt_cvI0 (pc' := 14) (w1 := wM cA aM 0 n it k td gn dr wk sv P sd se sc ba pa le mo) (As := [.int y]) (rest := []) C (mX7_isField l D cA aM 0 n it k td gn dr wk sv P sd se sc ba pa le mo y (by first | assumption | omega) (by first | assumption | omega)) (cwV 1 C.hts gX7_work_X7_isField rfl rfl rfl (by decide +kernel) ⟨Nat.le_of_ble_eq_true rfl, Nat.le_of_ble_eq_true rfl⟩) dX7_work_11 rfl 0 rfl rfl rfl rfl rfl (Nat.le_of_ble_eq_true rfl) ⟨Nat.le_of_ble_eq_true rfl, Nat.le_of_ble_eq_true rfl⟩ ?_
    refine pt_if_eq (pc' := 17) (tgt := 28) C dX7_work_14 (by decide) rfl (fun h_14 => ?_) (fun h_14 => ?_)
    · refine pt_iload_n (pc' := 29) C dX7_work_28 rfl 1 rfl ?_
      refine pt_iconst (pc' := 30) C dX7_work_29 rfl (v := 1) (by decide) ?_
      refine pt_icmp_ne (pc' := 33) (tgt := 66) C dX7_work_30 (by decide) rfl (fun h_30 => ?_) (fun h_30 => ?_)
      · refine pt_iconst (pc' := 67) C dX7_work_66 rfl (v := 0) (by decide) ?_
        refine pt_istore (pc' := 69) (lv' := [(5, .int 0), (0, .ref (aM 0)), (1, .int x), (2, .int y), (3, .int z), (4, .int w)]) C dX7_work_67 rfl (by decide) rfl ?_
        refine pt_iload (pc' := 71) C dX7_work_69 rfl 0 rfl ?_
        refine pt_if_eq (pc' := 74) (tgt := 95) C dX7_work_71 (by decide) rfl (fun h_71 => ?_) (fun h_71 => absurd (by decide) h_71)
        refine pt_iconst (pc' := 96) C dX7_work_95 rfl (v := -1) (by decide) ?_
        exact pt_iret C hr hk dX7_work_96 (rfl) (by simp only [okWrk, hasA, if_pos h_6, bI_f h_14, if_neg h_30, Bool.or_true, Bool.true_or, Bool.or_false, Bool.false_or, bI, cond_false, cond_true, Bool.and_true, Bool.true_and, Bool.and_false, Bool.false_and] <;> rfl) (by simp only [okWrk, hasA, if_pos h_6, bI_f h_14, if_neg h_30, Bool.or_true, Bool.true_or, Bool.or_false, Bool.false_or, bI, cond_false, cond_true, Bool.and_true, Bool.true_and, Bool.and_false, Bool.false_and] <;> rfl)
      · refine pt_aload_n (pc' := 34) C dX7_work_33 rfl 0 rfl ?_
        refine pt_iload_n (pc' := 35) C dX7_work_34 rfl 2 rfl ?_
        refine pt_cvI0 (pc' := 38) (w1 := wM cA aM 0 n it k td gn dr wk sv P sd se sc ba pa le mo) (As := [.int y]) (rest := []) C (mX7_isInner l D cA aM 0 n it k td gn dr wk sv P sd se sc ba pa le mo y (by first | assumption | omega) (by first | assumption | omega)) (cwV 1 C.hts gX7_work_X7_isInner rfl rfl rfl (by decide +kernel) ⟨Nat.le_of_ble_eq_true rfl, Nat.le_of_ble_eq_true rfl⟩) dX7_work_35 rfl 0 rfl rfl rfl rfl rfl (Nat.le_of_ble_eq_true rfl) ⟨Nat.le_of_ble_eq_true rfl, Nat.le_of_ble_eq_true rfl⟩ ?_
        refine pt_if_eq (pc' := 41) (tgt := 66) C dX7_work_38 (by decide) rfl (fun h_38 => ?_) (fun h_38 => ?_)
        · refine pt_iconst (pc' := 67) C dX7_work_66 rfl (v := 0) (by decide) ?_
          refine pt_istore (pc' := 69) (lv' := [(5, .int 0), (0, .ref (aM 0)), (1, .int x), (2, .int y), (3, .int z), (4, .int w)]) C dX7_work_67 rfl (by decide) rfl ?_
          refine pt_iload (pc' := 71) C dX7_work_69 rfl 0 rfl ?_
          refine pt_if_eq (pc' := 74) (tgt := 95) C dX7_work_71 (by decide) rfl (fun h_71 => ?_) (fun h_71 => absurd (by decide) h_71)
          refine pt_iconst (pc' := 96) C dX7_work_95 rfl (v := -1) (by decide) ?_
          exact pt_iret C hr hk dX7_work_96 (rfl) (by simp only [okWrk, hasA, if_pos h_6, bI_f h_14, if_pos h_30, bI_f h_38, Bool.or_true, Bool.true_or, Bool.or_false, Bool.false_or, bI, cond_false, cond_true, Bool.and_true, Bool.true_and, Bool.and_false, Bool.false_and] <;> rfl) (by simp only [okWrk, hasA, if_pos h_6, bI_f h_14, if_pos h_30, bI_f h_38, Bool.or_true, Bool.true_or, Bool.or_false, Bool.false_or, bI, cond_false, cond_true, Bool.and_true, Bool.true_and, Bool.and_false, Bool.false_and] <;> rfl)
        · refine pt_aload_n (pc' := 42) C dX7_work_41 rfl 0 rfl ?_
          refine pt_get (pc' := 45) C in_7 dX7_work_42 rfl 0 4 rfl rfl (by decide) f_20 rfl ?_
          refine pt_iload_n (pc' := 46) C dX7_work_45 rfl 2 rfl ?_
          refine pt_iald (pc' := 47) C dX7_work_46 rfl 2 rfl rfl y.toNatClampNeg ((inI_in hm (bI_t h_38)).1) (by have := (inI_in hm (bI_t h_38)).2.2; omega) (by decide) ?_
          refine pt_iconst (pc' := 48) C dX7_work_47 rfl (v := 1) (by decide) ?_
          refine pt_icmp_ne (pc' := 51) (tgt := 66) C dX7_work_48 (by decide) rfl (fun h_48 => ?_) (fun h_48 => ?_)
          · refine pt_iconst (pc' := 67) C dX7_work_66 rfl (v := 0) (by decide) ?_
            refine pt_istore (pc' := 69) (lv' := [(5, .int 0), (0, .ref (aM 0)), (1, .int x), (2, .int y), (3, .int z), (4, .int w)]) C dX7_work_67 rfl (by decide) rfl ?_
            refine pt_iload (pc' := 71) C dX7_work_69 rfl 0 rfl ?_
            refine pt_if_eq (pc' := 74) (tgt := 95) C dX7_work_71 (by decide) rfl (fun h_71 => ?_) (fun h_71 => absurd (by decide) h_71)
            refine pt_iconst (pc' := 96) C dX7_work_95 rfl (v := -1) (by decide) ?_
            exact pt_iret C hr hk dX7_work_96 (rfl) (by simp only [okWrk, hasA, if_pos h_6, bI_f h_14, if_pos h_30, bI_t h_38, if_neg h_48, Bool.or_true, Bool.true_or, Bool.or_false, Bool.false_or, bI, cond_false, cond_true, Bool.and_true, Bool.true_and, Bool.and_false, Bool.false_and] <;> rfl) (by simp only [okWrk, hasA, if_pos h_6, bI_f h_14, if_pos h_30, bI_t h_38, if_neg h_48, Bool.or_true, Bool.true_or, Bool.or_false, Bool.false_or, bI, cond_false, cond_true, Bool.and_true, Bool.true_and, Bool.and_false, Bool.false_and] <;> rfl)
          · refine pt_iload_n (pc' := 52) C dX7_work_51 rfl 3 rfl ?_
            refine pt_iconst (pc' := 53) C dX7_work_52 rfl (v := 1) (by decide) ?_
            refine pt_sipush (pc' := 56) C dX7_work_53 rfl (v := 999) (by decide) ?_
            refine pt_csI0 (pc' := 59) (As := [.int z, .int 1, .int 999]) (rest := []) C (mX7_within l D cA z 1 999 ) (va_cwS 3 C.hts gX7_work_X7_within rfl rfl rfl (by decide +kernel) ⟨Nat.le_of_ble_eq_true rfl, Nat.le_of_ble_eq_true rfl⟩) dX7_work_56 rfl rfl rfl (Nat.le_of_ble_eq_true rfl) ⟨Nat.le_of_ble_eq_true rfl, Nat.le_of_ble_eq_true rfl⟩ ?_
            refine pt_if_eq (pc' := 62) (tgt := 66) C dX7_work_59 (by decide) rfl (fun h_59 => ?_) (fun h_59 => ?_)
            · refine pt_iconst (pc' := 67) C dX7_work_66 rfl (v := 0) (by decide) ?_
              refine pt_istore (pc' := 69) (lv' := [(5, .int 0), (0, .ref (aM 0)), (1, .int x), (2, .int y), (3, .int z), (4, .int w)]) C dX7_work_67 rfl (by decide) rfl ?_
              refine pt_iload (pc' := 71) C dX7_work_69 rfl 0 rfl ?_
              refine pt_if_eq (pc' := 74) (tgt := 95) C dX7_work_71 (by decide) rfl (fun h_71 => ?_) (fun h_71 => absurd (by decide) h_71)
              refine pt_iconst (pc' := 96) C dX7_work_95 rfl (v := -1) (by decide) ?_
              exact pt_iret C hr hk dX7_work_96 (rfl) (by simp only [okWrk, hasA, if_pos h_6, bI_f h_14, if_pos h_30, bI_t h_38, if_pos h_48, bI_f h_59, Bool.or_true, Bool.true_or, Bool.or_false, Bool.false_or, bI, cond_false, cond_true, Bool.and_true, Bool.true_and, Bool.and_false, Bool.false_and] <;> rfl) (by simp only [okWrk, hasA, if_pos h_6, bI_f h_14, if_pos h_30, bI_t h_38, if_pos h_48, bI_f h_59, Bool.or_true, Bool.true_or, Bool.or_false, Bool.false_or, bI, cond_false, cond_true, Bool.and_true, Bool.true_and, Bool.and_false, Bool.false_and] <;> rfl)
            · refine pt_iconst (pc' := 63) C dX7_work_62 rfl (v := 1) (by decide) ?_
              refine pt_goto (pc' := 67) C dX7_work_63 (by decide) ?_
              refine pt_istore (pc' := 69) (lv' := [(5, .int 1), (0, .ref (aM 0)), (1, .int x), (2, .int y), (3, .int z), (4, .int w)]) C dX7_work_67 rfl (by decide) rfl ?_
              refine pt_iload (pc' := 71) C dX7_work_69 rfl 0 rfl ?_
              refine pt_if_eq (pc' := 74) (tgt := 95) C dX7_work_71 (by decide) rfl (fun h_71 => absurd h_71 (by decide)) (fun h_71 => ?_)
              refine pt_iload (pc' := 76) C dX7_work_74 rfl 5 rfl ?_
              refine pt_iconst (pc' := 77) C dX7_work_76 rfl (v := 1) (by decide) ?_
              refine pt_sipush (pc' := 80) C dX7_work_77 rfl (v := 999) (by decide) ?_
              refine pt_csI0 (pc' := 83) (As := [.int w, .int 1, .int 999]) (rest := []) C (mX7_within l D cA w 1 999 ) (va_cwS 3 C.hts gX7_work_X7_within rfl rfl rfl (by decide +kernel) ⟨Nat.le_of_ble_eq_true rfl, Nat.le_of_ble_eq_true rfl⟩) dX7_work_80 rfl rfl rfl (Nat.le_of_ble_eq_true rfl) ⟨Nat.le_of_ble_eq_true rfl, Nat.le_of_ble_eq_true rfl⟩ ?_
              refine pt_if_eq (pc' := 86) (tgt := 95) C dX7_work_83 (by decide) rfl (fun h_83 => ?_) (fun h_83 => ?_)
              · refine pt_iconst (pc' := 96) C dX7_work_95 rfl (v := -1) (by decide) ?_
                exact pt_iret C hr hk dX7_work_96 (rfl) (by simp only [okWrk, hasA, if_pos h_6, bI_f h_14, if_pos h_30, bI_t h_38, if_pos h_48, bI_t h_59, bI_f h_83, Bool.or_true, Bool.true_or, Bool.or_false, Bool.false_or, bI, cond_false, cond_true, Bool.and_true, Bool.true_and, Bool.and_false, Bool.false_and] <;> rfl) (by simp only [okWrk, hasA, if_pos h_6, bI_f h_14, if_pos h_30, bI_t h_38, if_pos h_48, bI_t h_59, bI_f h_83, Bool.or_true, Bool.true_or, Bool.or_false, Bool.false_or, bI, cond_false, cond_true, Bool.and_true, Bool.true_and, Bool.and_false, Bool.false_and] <;> rfl)
              · refine pt_aload_n (pc' := 87) C dX7_work_86 rfl 1 rfl ?_
                refine pt_get (pc' := 90) C in_7 dX7_work_87 rfl 0 26 rfl rfl (by decide) f_175 rfl ?_
                refine pt_bipush (pc' := 92) C dX7_work_90 rfl (v := 6) (by decide) ?_
                refine pt_icmp_ne (pc' := 95) (tgt := 97) C dX7_work_92 (by decide) rfl (fun h_92 => ?_) (fun h_92 => ?_)
                · have hlt : wk < 6 := of_decide_eq_true (de_t (b := 6) (by decide) hw6 h_92)
                  refine pt_aload_n (pc' := 98) C dX7_work_97 rfl 1 rfl ?_
                  refine pt_get (pc' := 101) C in_7 dX7_work_98 rfl 0 27 rfl rfl (by decide) f_77 rfl ?_
                  refine pt_aload_n (pc' := 102) C dX7_work_101 rfl 1 rfl ?_
                  refine pt_get (pc' := 105) C in_7 dX7_work_102 rfl 0 26 rfl rfl (by decide) f_175 rfl ?_
                  refine pt_iload_n (pc' := 106) C dX7_work_105 rfl 2 rfl ?_
                  refine pt_iast (pc' := 107) (ws' := wM cA aM 0 n it k td gn dr wk sv (va_up P 12 (upd (P 12) wk x)) sd se sc ba pa le mo) C dX7_work_106 rfl 20 rfl rfl wk (rfl) (by omega) (by decide) rfl ?_
                  refine pt_aload_n (pc' := 108) C dX7_work_107 rfl 1 rfl ?_
                  refine pt_get (pc' := 111) C in_7 dX7_work_108 rfl 0 28 rfl rfl (by decide) f_80 rfl ?_
                  refine pt_aload_n (pc' := 112) C dX7_work_111 rfl 1 rfl ?_
                  refine pt_get (pc' := 115) C in_7 dX7_work_112 rfl 0 26 rfl rfl (by decide) f_175 rfl ?_
                  refine pt_iload_n (pc' := 116) C dX7_work_115 rfl 3 rfl ?_
                  refine pt_iast (pc' := 117) (ws' := wM cA aM 0 n it k td gn dr wk sv (va_up (va_up P 12 (upd (P 12) wk x)) 13 (upd ((va_up P 12 (upd (P 12) wk x)) 13) wk y)) sd se sc ba pa le mo) C dX7_work_116 rfl 21 rfl rfl wk (rfl) (by omega) (by decide) rfl ?_
                  refine pt_aload_n (pc' := 118) C dX7_work_117 rfl 1 rfl ?_
                  refine pt_get (pc' := 121) C in_7 dX7_work_118 rfl 0 29 rfl rfl (by decide) f_83 rfl ?_
                  refine pt_aload_n (pc' := 122) C dX7_work_121 rfl 1 rfl ?_
                  refine pt_get (pc' := 125) C in_7 dX7_work_122 rfl 0 26 rfl rfl (by decide) f_175 rfl ?_
                  refine pt_iload_n (pc' := 126) C dX7_work_125 rfl 4 rfl ?_
                  refine pt_iast (pc' := 127) (ws' := wM cA aM 0 n it k td gn dr wk sv (va_up (va_up (va_up P 12 (upd (P 12) wk x)) 13 (upd ((va_up P 12 (upd (P 12) wk x)) 13) wk y)) 14 (upd ((va_up (va_up P 12 (upd (P 12) wk x)) 13 (upd ((va_up P 12 (upd (P 12) wk x)) 13) wk y)) 14) wk z)) sd se sc ba pa le mo) C dX7_work_126 rfl 22 rfl rfl wk (rfl) (by omega) (by decide) rfl ?_
                  refine pt_aload_n (pc' := 128) C dX7_work_127 rfl 1 rfl ?_
                  refine pt_get (pc' := 131) C in_7 dX7_work_128 rfl 0 30 rfl rfl (by decide) f_86 rfl ?_
                  refine pt_aload_n (pc' := 132) C dX7_work_131 rfl 1 rfl ?_
                  refine pt_get (pc' := 135) C in_7 dX7_work_132 rfl 0 26 rfl rfl (by decide) f_175 rfl ?_
                  refine pt_iload (pc' := 137) C dX7_work_135 rfl 5 rfl ?_
                  refine pt_iast (pc' := 138) (ws' := wM cA aM 0 n it k td gn dr wk sv (va_up (va_up (va_up (va_up P 12 (upd (P 12) wk x)) 13 (upd ((va_up P 12 (upd (P 12) wk x)) 13) wk y)) 14 (upd ((va_up (va_up P 12 (upd (P 12) wk x)) 13 (upd ((va_up P 12 (upd (P 12) wk x)) 13) wk y)) 14) wk z)) 15 (upd ((va_up (va_up (va_up P 12 (upd (P 12) wk x)) 13 (upd ((va_up P 12 (upd (P 12) wk x)) 13) wk y)) 14 (upd ((va_up (va_up P 12 (upd (P 12) wk x)) 13 (upd ((va_up P 12 (upd (P 12) wk x)) 13) wk y)) 14) wk z)) 15) wk w)) sd se sc ba pa le mo) C dX7_work_137 rfl 23 rfl rfl wk (rfl) (by omega) (by decide) rfl ?_
                  refine pt_aload_n (pc' := 139) C dX7_work_138 rfl 1 rfl ?_
                  refine pt_dup (pc' := 140) C dX7_work_139 rfl rfl ?_
                  refine pt_get (pc' := 143) C in_7 dX7_work_140 rfl 0 26 rfl rfl (by decide) f_175 rfl ?_
                  refine pt_iconst (pc' := 144) C dX7_work_143 rfl (v := 1) (by decide) ?_
                  refine pt_iadd (pc' := 145) C dX7_work_144 rfl ?_
                  refine pt_eq (st' := [.int (nI (wk + 1)), .ref (aM 0)]) rfl rfl (by rw [nI_1]) ?_
                  refine pt_put (pc' := 148) (ty := .int) (ws' := wM cA aM 0 n it k td gn dr (wk + 1) sv (va_up (va_up (va_up (va_up P 12 (upd (P 12) wk x)) 13 (upd ((va_up P 12 (upd (P 12) wk x)) 13) wk y)) 14 (upd ((va_up (va_up P 12 (upd (P 12) wk x)) 13 (upd ((va_up P 12 (upd (P 12) wk x)) 13) wk y)) 14) wk z)) 15 (upd ((va_up (va_up (va_up P 12 (upd (P 12) wk x)) 13 (upd ((va_up P 12 (upd (P 12) wk x)) 13) wk y)) 14 (upd ((va_up (va_up P 12 (upd (P 12) wk x)) 13 (upd ((va_up P 12 (upd (P 12) wk x)) 13) wk y)) 14) wk z)) 15) wk w)) sd se sc ba pa le mo) C in_7 tyX7 tyX7_ok nmX7 dX7_work_145 rfl 0 26 rfl rfl (by decide) f_175 rfl (by decide +kernel) (rfl) (rfl) (Nat.le_of_ble_eq_true rfl) rfl ?_
                  refine pt_aload_n (pc' := 149) C dX7_work_148 rfl 1 rfl ?_
                  refine pt_iconst (pc' := 150) C dX7_work_149 rfl (v := 1) (by decide) ?_
                  refine pt_put (pc' := 153) (ty := .boolean) (ws' := wM cA aM 0 n 1 k td gn dr (wk + 1) sv (va_up (va_up (va_up (va_up P 12 (upd (P 12) wk x)) 13 (upd ((va_up P 12 (upd (P 12) wk x)) 13) wk y)) 14 (upd ((va_up (va_up P 12 (upd (P 12) wk x)) 13 (upd ((va_up P 12 (upd (P 12) wk x)) 13) wk y)) 14) wk z)) 15 (upd ((va_up (va_up (va_up P 12 (upd (P 12) wk x)) 13 (upd ((va_up P 12 (upd (P 12) wk x)) 13) wk y)) 14 (upd ((va_up (va_up P 12 (upd (P 12) wk x)) 13 (upd ((va_up P 12 (upd (P 12) wk x)) 13) wk y)) 14) wk z)) 15) wk w)) sd se sc ba pa le mo) C in_7 tyX7 tyX7_ok nmX7 dX7_work_150 rfl 0 2 rfl rfl (by decide) f_108 rfl (by decide +kernel) (rfl) (rfl) (Nat.le_of_ble_eq_true rfl) rfl ?_
                  refine pt_aload_n (pc' := 154) C dX7_work_153 rfl 1 rfl ?_
                  refine pt_get (pc' := 157) C in_7 dX7_work_154 rfl 0 26 rfl rfl (by decide) f_175 rfl ?_
                  refine pt_iconst (pc' := 158) C dX7_work_157 rfl (v := 1) (by decide) ?_
                  refine pt_isub (pc' := 159) C dX7_work_158 rfl ?_
                  refine pt_eq (st' := [.int (nI wk)]) rfl rfl (by rw [nI_m1 (by omega), Nat.add_sub_cancel]) ?_
                  exact pt_iret C hr hk dX7_work_159 (rfl) (by simp only [okWrk, hasA, if_pos h_6, bI_f h_14, if_pos h_30, bI_t h_38, if_pos h_48, bI_t h_59, bI_t h_83, de_t (b := 6) (by decide) (by omega) h_92, Bool.or_true, Bool.true_or, Bool.or_false, Bool.false_or, bI, cond_false, cond_true, Bool.and_true, Bool.true_and, Bool.and_false, Bool.false_and] <;> rfl) (by simp only [okWrk, hasA, if_pos h_6, bI_f h_14, if_pos h_30, bI_t h_38, if_pos h_48, bI_t h_59, bI_t h_83, de_t (b := 6) (by decide) (by omega) h_92, Bool.or_true, Bool.true_or, Bool.or_false, Bool.false_or, bI, cond_false, cond_true, Bool.and_true, Bool.true_and, Bool.and_false, Bool.false_and] <;> rfl)
                · refine pt_iconst (pc' := 96) C dX7_work_95 rfl (v := -1) (by decide) ?_
                  exact pt_iret C hr hk dX7_work_96 (rfl) (by simp only [okWrk, hasA, if_pos h_6, bI_f h_14, if_pos h_30, bI_t h_38, if_pos h_48, bI_t h_59, bI_t h_83, de_f (b := 6) (by decide) (by omega) h_92, Bool.or_true, Bool.true_or, Bool.or_false, Bool.false_or, bI, cond_false, cond_true, Bool.and_true, Bool.true_and, Bool.and_false, Bool.false_and] <;> rfl) (by simp only [okWrk, hasA, if_pos h_6, bI_f h_14, if_pos h_30, bI_t h_38, if_pos h_48, bI_t h_59, bI_t h_83, de_f (b := 6) (by decide) (by omega) h_92, Bool.or_true, Bool.true_or, Bool.or_false, Bool.false_or, bI, cond_false, cond_true, Bool.and_true, Bool.true_and, Bool.and_false, Bool.false_and] <;> rfl)
    · refine pt_iload_n (pc' := 18) C dX7_work_17 rfl 3 rfl ?_
      refine pt_iconst (pc' := 19) C dX7_work_18 rfl (v := 1) (by decide) ?_
      refine pt_sipush (pc' := 22) C dX7_work_19 rfl (v := 9999) (by decide) ?_
      refine pt_csI0 (pc' := 25) (As := [.int z, .int 1, .int 9999]) (rest := []) C (mX7_within l D cA z 1 9999 ) (va_cwS 3 C.hts gX7_work_X7_within rfl rfl rfl (by decide +kernel) ⟨Nat.le_of_ble_eq_true rfl, Nat.le_of_ble_eq_true rfl⟩) dX7_work_22 rfl rfl rfl (Nat.le_of_ble_eq_true rfl) ⟨Nat.le_of_ble_eq_true rfl, Nat.le_of_ble_eq_true rfl⟩ ?_
      refine pt_if_ne (pc' := 28) (tgt := 62) C dX7_work_25 (by decide) rfl (fun h_25 => ?_) (fun h_25 => ?_)
      · refine pt_iconst (pc' := 63) C dX7_work_62 rfl (v := 1) (by decide) ?_
        refine pt_goto (pc' := 67) C dX7_work_63 (by decide) ?_
        refine pt_istore (pc' := 69) (lv' := [(5, .int 1), (0, .ref (aM 0)), (1, .int x), (2, .int y), (3, .int z), (4, .int w)]) C dX7_work_67 rfl (by decide) rfl ?_
        refine pt_iload (pc' := 71) C dX7_work_69 rfl 0 rfl ?_
        refine pt_if_eq (pc' := 74) (tgt := 95) C dX7_work_71 (by decide) rfl (fun h_71 => absurd h_71 (by decide)) (fun h_71 => ?_)
        refine pt_iload (pc' := 76) C dX7_work_74 rfl 5 rfl ?_
        refine pt_iconst (pc' := 77) C dX7_work_76 rfl (v := 1) (by decide) ?_
        refine pt_sipush (pc' := 80) C dX7_work_77 rfl (v := 999) (by decide) ?_
        refine pt_csI0 (pc' := 83) (As := [.int w, .int 1, .int 999]) (rest := []) C (mX7_within l D cA w 1 999 ) (va_cwS 3 C.hts gX7_work_X7_within rfl rfl rfl (by decide +kernel) ⟨Nat.le_of_ble_eq_true rfl, Nat.le_of_ble_eq_true rfl⟩) dX7_work_80 rfl rfl rfl (Nat.le_of_ble_eq_true rfl) ⟨Nat.le_of_ble_eq_true rfl, Nat.le_of_ble_eq_true rfl⟩ ?_
        refine pt_if_eq (pc' := 86) (tgt := 95) C dX7_work_83 (by decide) rfl (fun h_83 => ?_) (fun h_83 => ?_)
        · refine pt_iconst (pc' := 96) C dX7_work_95 rfl (v := -1) (by decide) ?_
          exact pt_iret C hr hk dX7_work_96 (rfl) (by simp only [okWrk, hasA, if_pos h_6, bI_t h_14, bI_t h_25, bI_f h_83, Bool.or_true, Bool.true_or, Bool.or_false, Bool.false_or, bI, cond_false, cond_true, Bool.and_true, Bool.true_and, Bool.and_false, Bool.false_and] <;> rfl) (by simp only [okWrk, hasA, if_pos h_6, bI_t h_14, bI_t h_25, bI_f h_83, Bool.or_true, Bool.true_or, Bool.or_false, Bool.false_or, bI, cond_false, cond_true, Bool.and_true, Bool.true_and, Bool.and_false, Bool.false_and] <;> rfl)
        · refine pt_aload_n (pc' := 87) C dX7_work_86 rfl 1 rfl ?_
          refine pt_get (pc' := 90) C in_7 dX7_work_87 rfl 0 26 rfl rfl (by decide) f_175 rfl ?_
          refine pt_bipush (pc' := 92) C dX7_work_90 rfl (v := 6) (by decide) ?_
          refine pt_icmp_ne (pc' := 95) (tgt := 97) C dX7_work_92 (by decide) rfl (fun h_92 => ?_) (fun h_92 => ?_)
          · have hlt : wk < 6 := of_decide_eq_true (de_t (b := 6) (by decide) hw6 h_92)
            refine pt_aload_n (pc' := 98) C dX7_work_97 rfl 1 rfl ?_
            refine pt_get (pc' := 101) C in_7 dX7_work_98 rfl 0 27 rfl rfl (by decide) f_77 rfl ?_
            refine pt_aload_n (pc' := 102) C dX7_work_101 rfl 1 rfl ?_
            refine pt_get (pc' := 105) C in_7 dX7_work_102 rfl 0 26 rfl rfl (by decide) f_175 rfl ?_
            refine pt_iload_n (pc' := 106) C dX7_work_105 rfl 2 rfl ?_
            refine pt_iast (pc' := 107) (ws' := wM cA aM 0 n it k td gn dr wk sv (va_up P 12 (upd (P 12) wk x)) sd se sc ba pa le mo) C dX7_work_106 rfl 20 rfl rfl wk (rfl) (by omega) (by decide) rfl ?_
            refine pt_aload_n (pc' := 108) C dX7_work_107 rfl 1 rfl ?_
            refine pt_get (pc' := 111) C in_7 dX7_work_108 rfl 0 28 rfl rfl (by decide) f_80 rfl ?_
            refine pt_aload_n (pc' := 112) C dX7_work_111 rfl 1 rfl ?_
            refine pt_get (pc' := 115) C in_7 dX7_work_112 rfl 0 26 rfl rfl (by decide) f_175 rfl ?_
            refine pt_iload_n (pc' := 116) C dX7_work_115 rfl 3 rfl ?_
            refine pt_iast (pc' := 117) (ws' := wM cA aM 0 n it k td gn dr wk sv (va_up (va_up P 12 (upd (P 12) wk x)) 13 (upd ((va_up P 12 (upd (P 12) wk x)) 13) wk y)) sd se sc ba pa le mo) C dX7_work_116 rfl 21 rfl rfl wk (rfl) (by omega) (by decide) rfl ?_
            refine pt_aload_n (pc' := 118) C dX7_work_117 rfl 1 rfl ?_
            refine pt_get (pc' := 121) C in_7 dX7_work_118 rfl 0 29 rfl rfl (by decide) f_83 rfl ?_
            refine pt_aload_n (pc' := 122) C dX7_work_121 rfl 1 rfl ?_
            refine pt_get (pc' := 125) C in_7 dX7_work_122 rfl 0 26 rfl rfl (by decide) f_175 rfl ?_
            refine pt_iload_n (pc' := 126) C dX7_work_125 rfl 4 rfl ?_
            refine pt_iast (pc' := 127) (ws' := wM cA aM 0 n it k td gn dr wk sv (va_up (va_up (va_up P 12 (upd (P 12) wk x)) 13 (upd ((va_up P 12 (upd (P 12) wk x)) 13) wk y)) 14 (upd ((va_up (va_up P 12 (upd (P 12) wk x)) 13 (upd ((va_up P 12 (upd (P 12) wk x)) 13) wk y)) 14) wk z)) sd se sc ba pa le mo) C dX7_work_126 rfl 22 rfl rfl wk (rfl) (by omega) (by decide) rfl ?_
            refine pt_aload_n (pc' := 128) C dX7_work_127 rfl 1 rfl ?_
            refine pt_get (pc' := 131) C in_7 dX7_work_128 rfl 0 30 rfl rfl (by decide) f_86 rfl ?_
            refine pt_aload_n (pc' := 132) C dX7_work_131 rfl 1 rfl ?_
            refine pt_get (pc' := 135) C in_7 dX7_work_132 rfl 0 26 rfl rfl (by decide) f_175 rfl ?_
            refine pt_iload (pc' := 137) C dX7_work_135 rfl 5 rfl ?_
            refine pt_iast (pc' := 138) (ws' := wM cA aM 0 n it k td gn dr wk sv (va_up (va_up (va_up (va_up P 12 (upd (P 12) wk x)) 13 (upd ((va_up P 12 (upd (P 12) wk x)) 13) wk y)) 14 (upd ((va_up (va_up P 12 (upd (P 12) wk x)) 13 (upd ((va_up P 12 (upd (P 12) wk x)) 13) wk y)) 14) wk z)) 15 (upd ((va_up (va_up (va_up P 12 (upd (P 12) wk x)) 13 (upd ((va_up P 12 (upd (P 12) wk x)) 13) wk y)) 14 (upd ((va_up (va_up P 12 (upd (P 12) wk x)) 13 (upd ((va_up P 12 (upd (P 12) wk x)) 13) wk y)) 14) wk z)) 15) wk w)) sd se sc ba pa le mo) C dX7_work_137 rfl 23 rfl rfl wk (rfl) (by omega) (by decide) rfl ?_
            refine pt_aload_n (pc' := 139) C dX7_work_138 rfl 1 rfl ?_
            refine pt_dup (pc' := 140) C dX7_work_139 rfl rfl ?_
            refine pt_get (pc' := 143) C in_7 dX7_work_140 rfl 0 26 rfl rfl (by decide) f_175 rfl ?_
            refine pt_iconst (pc' := 144) C dX7_work_143 rfl (v := 1) (by decide) ?_
            refine pt_iadd (pc' := 145) C dX7_work_144 rfl ?_
            refine pt_eq (st' := [.int (nI (wk + 1)), .ref (aM 0)]) rfl rfl (by rw [nI_1]) ?_
            refine pt_put (pc' := 148) (ty := .int) (ws' := wM cA aM 0 n it k td gn dr (wk + 1) sv (va_up (va_up (va_up (va_up P 12 (upd (P 12) wk x)) 13 (upd ((va_up P 12 (upd (P 12) wk x)) 13) wk y)) 14 (upd ((va_up (va_up P 12 (upd (P 12) wk x)) 13 (upd ((va_up P 12 (upd (P 12) wk x)) 13) wk y)) 14) wk z)) 15 (upd ((va_up (va_up (va_up P 12 (upd (P 12) wk x)) 13 (upd ((va_up P 12 (upd (P 12) wk x)) 13) wk y)) 14 (upd ((va_up (va_up P 12 (upd (P 12) wk x)) 13 (upd ((va_up P 12 (upd (P 12) wk x)) 13) wk y)) 14) wk z)) 15) wk w)) sd se sc ba pa le mo) C in_7 tyX7 tyX7_ok nmX7 dX7_work_145 rfl 0 26 rfl rfl (by decide) f_175 rfl (by decide +kernel) (rfl) (rfl) (Nat.le_of_ble_eq_true rfl) rfl ?_
            refine pt_aload_n (pc' := 149) C dX7_work_148 rfl 1 rfl ?_
            refine pt_iconst (pc' := 150) C dX7_work_149 rfl (v := 1) (by decide) ?_
            refine pt_put (pc' := 153) (ty := .boolean) (ws' := wM cA aM 0 n 1 k td gn dr (wk + 1) sv (va_up (va_up (va_up (va_up P 12 (upd (P 12) wk x)) 13 (upd ((va_up P 12 (upd (P 12) wk x)) 13) wk y)) 14 (upd ((va_up (va_up P 12 (upd (P 12) wk x)) 13 (upd ((va_up P 12 (upd (P 12) wk x)) 13) wk y)) 14) wk z)) 15 (upd ((va_up (va_up (va_up P 12 (upd (P 12) wk x)) 13 (upd ((va_up P 12 (upd (P 12) wk x)) 13) wk y)) 14 (upd ((va_up (va_up P 12 (upd (P 12) wk x)) 13 (upd ((va_up P 12 (upd (P 12) wk x)) 13) wk y)) 14) wk z)) 15) wk w)) sd se sc ba pa le mo) C in_7 tyX7 tyX7_ok nmX7 dX7_work_150 rfl 0 2 rfl rfl (by decide) f_108 rfl (by decide +kernel) (rfl) (rfl) (Nat.le_of_ble_eq_true rfl) rfl ?_
            refine pt_aload_n (pc' := 154) C dX7_work_153 rfl 1 rfl ?_
            refine pt_get (pc' := 157) C in_7 dX7_work_154 rfl 0 26 rfl rfl (by decide) f_175 rfl ?_
            refine pt_iconst (pc' := 158) C dX7_work_157 rfl (v := 1) (by decide) ?_
            refine pt_isub (pc' := 159) C dX7_work_158 rfl ?_
            refine pt_eq (st' := [.int (nI wk)]) rfl rfl (by rw [nI_m1 (by omega), Nat.add_sub_cancel]) ?_
            exact pt_iret C hr hk dX7_work_159 (rfl) (by simp only [okWrk, hasA, if_pos h_6, bI_t h_14, bI_t h_25, bI_t h_83, de_t (b := 6) (by decide) (by omega) h_92, Bool.or_true, Bool.true_or, Bool.or_false, Bool.false_or, bI, cond_false, cond_true, Bool.and_true, Bool.true_and, Bool.and_false, Bool.false_and] <;> rfl) (by simp only [okWrk, hasA, if_pos h_6, bI_t h_14, bI_t h_25, bI_t h_83, de_t (b := 6) (by decide) (by omega) h_92, Bool.or_true, Bool.true_or, Bool.or_false, Bool.false_or, bI, cond_false, cond_true, Bool.and_true, Bool.true_and, Bool.and_false, Bool.false_and] <;> rfl)
          · refine pt_iconst (pc' := 96) C dX7_work_95 rfl (v := -1) (by decide) ?_
            exact pt_iret C hr hk dX7_work_96 (rfl) (by simp only [okWrk, hasA, if_pos h_6, bI_t h_14, bI_t h_25, bI_t h_83, de_f (b := 6) (by decide) (by omega) h_92, Bool.or_true, Bool.true_or, Bool.or_false, Bool.false_or, bI, cond_false, cond_true, Bool.and_true, Bool.true_and, Bool.and_false, Bool.false_and] <;> rfl) (by simp only [okWrk, hasA, if_pos h_6, bI_t h_14, bI_t h_25, bI_t h_83, de_f (b := 6) (by decide) (by omega) h_92, Bool.or_true, Bool.true_or, Bool.or_false, Bool.false_or, bI, cond_false, cond_true, Bool.and_true, Bool.true_and, Bool.and_false, Bool.false_and] <;> rfl)
      · refine pt_iload_n (pc' := 29) C dX7_work_28 rfl 1 rfl ?_
        refine pt_iconst (pc' := 30) C dX7_work_29 rfl (v := 1) (by decide) ?_
        refine pt_icmp_ne (pc' := 33) (tgt := 66) C dX7_work_30 (by decide) rfl (fun h_30 => ?_) (fun h_30 => ?_)
        · refine pt_iconst (pc' := 67) C dX7_work_66 rfl (v := 0) (by decide) ?_
          refine pt_istore (pc' := 69) (lv' := [(5, .int 0), (0, .ref (aM 0)), (1, .int x), (2, .int y), (3, .int z), (4, .int w)]) C dX7_work_67 rfl (by decide) rfl ?_
          refine pt_iload (pc' := 71) C dX7_work_69 rfl 0 rfl ?_
          refine pt_if_eq (pc' := 74) (tgt := 95) C dX7_work_71 (by decide) rfl (fun h_71 => ?_) (fun h_71 => absurd (by decide) h_71)
          refine pt_iconst (pc' := 96) C dX7_work_95 rfl (v := -1) (by decide) ?_
          exact pt_iret C hr hk dX7_work_96 (rfl) (by simp only [okWrk, hasA, if_pos h_6, bI_t h_14, bI_f h_25, if_neg h_30, Bool.or_true, Bool.true_or, Bool.or_false, Bool.false_or, bI, cond_false, cond_true, Bool.and_true, Bool.true_and, Bool.and_false, Bool.false_and] <;> rfl) (by simp only [okWrk, hasA, if_pos h_6, bI_t h_14, bI_f h_25, if_neg h_30, Bool.or_true, Bool.true_or, Bool.or_false, Bool.false_or, bI, cond_false, cond_true, Bool.and_true, Bool.true_and, Bool.and_false, Bool.false_and] <;> rfl)
        · refine pt_aload_n (pc' := 34) C dX7_work_33 rfl 0 rfl ?_
          refine pt_iload_n (pc' := 35) C dX7_work_34 rfl 2 rfl ?_
          refine pt_cvI0 (pc' := 38) (w1 := wM cA aM 0 n it k td gn dr wk sv P sd se sc ba pa le mo) (As := [.int y]) (rest := []) C (mX7_isInner l D cA aM 0 n it k td gn dr wk sv P sd se sc ba pa le mo y (by first | assumption | omega) (by first | assumption | omega)) (cwV 1 C.hts gX7_work_X7_isInner rfl rfl rfl (by decide +kernel) ⟨Nat.le_of_ble_eq_true rfl, Nat.le_of_ble_eq_true rfl⟩) dX7_work_35 rfl 0 rfl rfl rfl rfl rfl (Nat.le_of_ble_eq_true rfl) ⟨Nat.le_of_ble_eq_true rfl, Nat.le_of_ble_eq_true rfl⟩ ?_
          refine pt_if_eq (pc' := 41) (tgt := 66) C dX7_work_38 (by decide) rfl (fun h_38 => ?_) (fun h_38 => ?_)
          · refine pt_iconst (pc' := 67) C dX7_work_66 rfl (v := 0) (by decide) ?_
            refine pt_istore (pc' := 69) (lv' := [(5, .int 0), (0, .ref (aM 0)), (1, .int x), (2, .int y), (3, .int z), (4, .int w)]) C dX7_work_67 rfl (by decide) rfl ?_
            refine pt_iload (pc' := 71) C dX7_work_69 rfl 0 rfl ?_
            refine pt_if_eq (pc' := 74) (tgt := 95) C dX7_work_71 (by decide) rfl (fun h_71 => ?_) (fun h_71 => absurd (by decide) h_71)
            refine pt_iconst (pc' := 96) C dX7_work_95 rfl (v := -1) (by decide) ?_
            exact pt_iret C hr hk dX7_work_96 (rfl) (by simp only [okWrk, hasA, if_pos h_6, bI_t h_14, bI_f h_25, if_pos h_30, bI_f h_38, Bool.or_true, Bool.true_or, Bool.or_false, Bool.false_or, bI, cond_false, cond_true, Bool.and_true, Bool.true_and, Bool.and_false, Bool.false_and] <;> rfl) (by simp only [okWrk, hasA, if_pos h_6, bI_t h_14, bI_f h_25, if_pos h_30, bI_f h_38, Bool.or_true, Bool.true_or, Bool.or_false, Bool.false_or, bI, cond_false, cond_true, Bool.and_true, Bool.true_and, Bool.and_false, Bool.false_and] <;> rfl)
          · refine pt_aload_n (pc' := 42) C dX7_work_41 rfl 0 rfl ?_
            refine pt_get (pc' := 45) C in_7 dX7_work_42 rfl 0 4 rfl rfl (by decide) f_20 rfl ?_
            refine pt_iload_n (pc' := 46) C dX7_work_45 rfl 2 rfl ?_
            refine pt_iald (pc' := 47) C dX7_work_46 rfl 2 rfl rfl y.toNatClampNeg ((inI_in hm (bI_t h_38)).1) (by have := (inI_in hm (bI_t h_38)).2.2; omega) (by decide) ?_
            refine pt_iconst (pc' := 48) C dX7_work_47 rfl (v := 1) (by decide) ?_
            refine pt_icmp_ne (pc' := 51) (tgt := 66) C dX7_work_48 (by decide) rfl (fun h_48 => ?_) (fun h_48 => ?_)
            · refine pt_iconst (pc' := 67) C dX7_work_66 rfl (v := 0) (by decide) ?_
              refine pt_istore (pc' := 69) (lv' := [(5, .int 0), (0, .ref (aM 0)), (1, .int x), (2, .int y), (3, .int z), (4, .int w)]) C dX7_work_67 rfl (by decide) rfl ?_
              refine pt_iload (pc' := 71) C dX7_work_69 rfl 0 rfl ?_
              refine pt_if_eq (pc' := 74) (tgt := 95) C dX7_work_71 (by decide) rfl (fun h_71 => ?_) (fun h_71 => absurd (by decide) h_71)
              refine pt_iconst (pc' := 96) C dX7_work_95 rfl (v := -1) (by decide) ?_
              exact pt_iret C hr hk dX7_work_96 (rfl) (by simp only [okWrk, hasA, if_pos h_6, bI_t h_14, bI_f h_25, if_pos h_30, bI_t h_38, if_neg h_48, Bool.or_true, Bool.true_or, Bool.or_false, Bool.false_or, bI, cond_false, cond_true, Bool.and_true, Bool.true_and, Bool.and_false, Bool.false_and] <;> rfl) (by simp only [okWrk, hasA, if_pos h_6, bI_t h_14, bI_f h_25, if_pos h_30, bI_t h_38, if_neg h_48, Bool.or_true, Bool.true_or, Bool.or_false, Bool.false_or, bI, cond_false, cond_true, Bool.and_true, Bool.true_and, Bool.and_false, Bool.false_and] <;> rfl)
            · refine pt_iload_n (pc' := 52) C dX7_work_51 rfl 3 rfl ?_
              refine pt_iconst (pc' := 53) C dX7_work_52 rfl (v := 1) (by decide) ?_
              refine pt_sipush (pc' := 56) C dX7_work_53 rfl (v := 999) (by decide) ?_
              refine pt_csI0 (pc' := 59) (As := [.int z, .int 1, .int 999]) (rest := []) C (mX7_within l D cA z 1 999 ) (va_cwS 3 C.hts gX7_work_X7_within rfl rfl rfl (by decide +kernel) ⟨Nat.le_of_ble_eq_true rfl, Nat.le_of_ble_eq_true rfl⟩) dX7_work_56 rfl rfl rfl (Nat.le_of_ble_eq_true rfl) ⟨Nat.le_of_ble_eq_true rfl, Nat.le_of_ble_eq_true rfl⟩ ?_
              refine pt_if_eq (pc' := 62) (tgt := 66) C dX7_work_59 (by decide) rfl (fun h_59 => ?_) (fun h_59 => ?_)
              · refine pt_iconst (pc' := 67) C dX7_work_66 rfl (v := 0) (by decide) ?_
                refine pt_istore (pc' := 69) (lv' := [(5, .int 0), (0, .ref (aM 0)), (1, .int x), (2, .int y), (3, .int z), (4, .int w)]) C dX7_work_67 rfl (by decide) rfl ?_
                refine pt_iload (pc' := 71) C dX7_work_69 rfl 0 rfl ?_
                refine pt_if_eq (pc' := 74) (tgt := 95) C dX7_work_71 (by decide) rfl (fun h_71 => ?_) (fun h_71 => absurd (by decide) h_71)
                refine pt_iconst (pc' := 96) C dX7_work_95 rfl (v := -1) (by decide) ?_
                exact pt_iret C hr hk dX7_work_96 (rfl) (by simp only [okWrk, hasA, if_pos h_6, bI_t h_14, bI_f h_25, if_pos h_30, bI_t h_38, if_pos h_48, bI_f h_59, Bool.or_true, Bool.true_or, Bool.or_false, Bool.false_or, bI, cond_false, cond_true, Bool.and_true, Bool.true_and, Bool.and_false, Bool.false_and] <;> rfl) (by simp only [okWrk, hasA, if_pos h_6, bI_t h_14, bI_f h_25, if_pos h_30, bI_t h_38, if_pos h_48, bI_f h_59, Bool.or_true, Bool.true_or, Bool.or_false, Bool.false_or, bI, cond_false, cond_true, Bool.and_true, Bool.true_and, Bool.and_false, Bool.false_and] <;> rfl)
              · refine pt_iconst (pc' := 63) C dX7_work_62 rfl (v := 1) (by decide) ?_
                refine pt_goto (pc' := 67) C dX7_work_63 (by decide) ?_
                refine pt_istore (pc' := 69) (lv' := [(5, .int 1), (0, .ref (aM 0)), (1, .int x), (2, .int y), (3, .int z), (4, .int w)]) C dX7_work_67 rfl (by decide) rfl ?_
                refine pt_iload (pc' := 71) C dX7_work_69 rfl 0 rfl ?_
                refine pt_if_eq (pc' := 74) (tgt := 95) C dX7_work_71 (by decide) rfl (fun h_71 => absurd h_71 (by decide)) (fun h_71 => ?_)
                refine pt_iload (pc' := 76) C dX7_work_74 rfl 5 rfl ?_
                refine pt_iconst (pc' := 77) C dX7_work_76 rfl (v := 1) (by decide) ?_
                refine pt_sipush (pc' := 80) C dX7_work_77 rfl (v := 999) (by decide) ?_
                refine pt_csI0 (pc' := 83) (As := [.int w, .int 1, .int 999]) (rest := []) C (mX7_within l D cA w 1 999 ) (va_cwS 3 C.hts gX7_work_X7_within rfl rfl rfl (by decide +kernel) ⟨Nat.le_of_ble_eq_true rfl, Nat.le_of_ble_eq_true rfl⟩) dX7_work_80 rfl rfl rfl (Nat.le_of_ble_eq_true rfl) ⟨Nat.le_of_ble_eq_true rfl, Nat.le_of_ble_eq_true rfl⟩ ?_
                refine pt_if_eq (pc' := 86) (tgt := 95) C dX7_work_83 (by decide) rfl (fun h_83 => ?_) (fun h_83 => ?_)
                · refine pt_iconst (pc' := 96) C dX7_work_95 rfl (v := -1) (by decide) ?_
                  exact pt_iret C hr hk dX7_work_96 (rfl) (by simp only [okWrk, hasA, if_pos h_6, bI_t h_14, bI_f h_25, if_pos h_30, bI_t h_38, if_pos h_48, bI_t h_59, bI_f h_83, Bool.or_true, Bool.true_or, Bool.or_false, Bool.false_or, bI, cond_false, cond_true, Bool.and_true, Bool.true_and, Bool.and_false, Bool.false_and] <;> rfl) (by simp only [okWrk, hasA, if_pos h_6, bI_t h_14, bI_f h_25, if_pos h_30, bI_t h_38, if_pos h_48, bI_t h_59, bI_f h_83, Bool.or_true, Bool.true_or, Bool.or_false, Bool.false_or, bI, cond_false, cond_true, Bool.and_true, Bool.true_and, Bool.and_false, Bool.false_and] <;> rfl)
                · refine pt_aload_n (pc' := 87) C dX7_work_86 rfl 1 rfl ?_
                  refine pt_get (pc' := 90) C in_7 dX7_work_87 rfl 0 26 rfl rfl (by decide) f_175 rfl ?_
                  refine pt_bipush (pc' := 92) C dX7_work_90 rfl (v := 6) (by decide) ?_
                  refine pt_icmp_ne (pc' := 95) (tgt := 97) C dX7_work_92 (by decide) rfl (fun h_92 => ?_) (fun h_92 => ?_)
                  · have hlt : wk < 6 := of_decide_eq_true (de_t (b := 6) (by decide) hw6 h_92)
                    refine pt_aload_n (pc' := 98) C dX7_work_97 rfl 1 rfl ?_
                    refine pt_get (pc' := 101) C in_7 dX7_work_98 rfl 0 27 rfl rfl (by decide) f_77 rfl ?_
                    refine pt_aload_n (pc' := 102) C dX7_work_101 rfl 1 rfl ?_
                    refine pt_get (pc' := 105) C in_7 dX7_work_102 rfl 0 26 rfl rfl (by decide) f_175 rfl ?_
                    refine pt_iload_n (pc' := 106) C dX7_work_105 rfl 2 rfl ?_
                    refine pt_iast (pc' := 107) (ws' := wM cA aM 0 n it k td gn dr wk sv (va_up P 12 (upd (P 12) wk x)) sd se sc ba pa le mo) C dX7_work_106 rfl 20 rfl rfl wk (rfl) (by omega) (by decide) rfl ?_
                    refine pt_aload_n (pc' := 108) C dX7_work_107 rfl 1 rfl ?_
                    refine pt_get (pc' := 111) C in_7 dX7_work_108 rfl 0 28 rfl rfl (by decide) f_80 rfl ?_
                    refine pt_aload_n (pc' := 112) C dX7_work_111 rfl 1 rfl ?_
                    refine pt_get (pc' := 115) C in_7 dX7_work_112 rfl 0 26 rfl rfl (by decide) f_175 rfl ?_
                    refine pt_iload_n (pc' := 116) C dX7_work_115 rfl 3 rfl ?_
                    refine pt_iast (pc' := 117) (ws' := wM cA aM 0 n it k td gn dr wk sv (va_up (va_up P 12 (upd (P 12) wk x)) 13 (upd ((va_up P 12 (upd (P 12) wk x)) 13) wk y)) sd se sc ba pa le mo) C dX7_work_116 rfl 21 rfl rfl wk (rfl) (by omega) (by decide) rfl ?_
                    refine pt_aload_n (pc' := 118) C dX7_work_117 rfl 1 rfl ?_
                    refine pt_get (pc' := 121) C in_7 dX7_work_118 rfl 0 29 rfl rfl (by decide) f_83 rfl ?_
                    refine pt_aload_n (pc' := 122) C dX7_work_121 rfl 1 rfl ?_
                    refine pt_get (pc' := 125) C in_7 dX7_work_122 rfl 0 26 rfl rfl (by decide) f_175 rfl ?_
                    refine pt_iload_n (pc' := 126) C dX7_work_125 rfl 4 rfl ?_
                    refine pt_iast (pc' := 127) (ws' := wM cA aM 0 n it k td gn dr wk sv (va_up (va_up (va_up P 12 (upd (P 12) wk x)) 13 (upd ((va_up P 12 (upd (P 12) wk x)) 13) wk y)) 14 (upd ((va_up (va_up P 12 (upd (P 12) wk x)) 13 (upd ((va_up P 12 (upd (P 12) wk x)) 13) wk y)) 14) wk z)) sd se sc ba pa le mo) C dX7_work_126 rfl 22 rfl rfl wk (rfl) (by omega) (by decide) rfl ?_
                    refine pt_aload_n (pc' := 128) C dX7_work_127 rfl 1 rfl ?_
                    refine pt_get (pc' := 131) C in_7 dX7_work_128 rfl 0 30 rfl rfl (by decide) f_86 rfl ?_
                    refine pt_aload_n (pc' := 132) C dX7_work_131 rfl 1 rfl ?_
                    refine pt_get (pc' := 135) C in_7 dX7_work_132 rfl 0 26 rfl rfl (by decide) f_175 rfl ?_
                    refine pt_iload (pc' := 137) C dX7_work_135 rfl 5 rfl ?_
                    refine pt_iast (pc' := 138) (ws' := wM cA aM 0 n it k td gn dr wk sv (va_up (va_up (va_up (va_up P 12 (upd (P 12) wk x)) 13 (upd ((va_up P 12 (upd (P 12) wk x)) 13) wk y)) 14 (upd ((va_up (va_up P 12 (upd (P 12) wk x)) 13 (upd ((va_up P 12 (upd (P 12) wk x)) 13) wk y)) 14) wk z)) 15 (upd ((va_up (va_up (va_up P 12 (upd (P 12) wk x)) 13 (upd ((va_up P 12 (upd (P 12) wk x)) 13) wk y)) 14 (upd ((va_up (va_up P 12 (upd (P 12) wk x)) 13 (upd ((va_up P 12 (upd (P 12) wk x)) 13) wk y)) 14) wk z)) 15) wk w)) sd se sc ba pa le mo) C dX7_work_137 rfl 23 rfl rfl wk (rfl) (by omega) (by decide) rfl ?_
                    refine pt_aload_n (pc' := 139) C dX7_work_138 rfl 1 rfl ?_
                    refine pt_dup (pc' := 140) C dX7_work_139 rfl rfl ?_
                    refine pt_get (pc' := 143) C in_7 dX7_work_140 rfl 0 26 rfl rfl (by decide) f_175 rfl ?_
                    refine pt_iconst (pc' := 144) C dX7_work_143 rfl (v := 1) (by decide) ?_
                    refine pt_iadd (pc' := 145) C dX7_work_144 rfl ?_
                    refine pt_eq (st' := [.int (nI (wk + 1)), .ref (aM 0)]) rfl rfl (by rw [nI_1]) ?_
                    refine pt_put (pc' := 148) (ty := .int) (ws' := wM cA aM 0 n it k td gn dr (wk + 1) sv (va_up (va_up (va_up (va_up P 12 (upd (P 12) wk x)) 13 (upd ((va_up P 12 (upd (P 12) wk x)) 13) wk y)) 14 (upd ((va_up (va_up P 12 (upd (P 12) wk x)) 13 (upd ((va_up P 12 (upd (P 12) wk x)) 13) wk y)) 14) wk z)) 15 (upd ((va_up (va_up (va_up P 12 (upd (P 12) wk x)) 13 (upd ((va_up P 12 (upd (P 12) wk x)) 13) wk y)) 14 (upd ((va_up (va_up P 12 (upd (P 12) wk x)) 13 (upd ((va_up P 12 (upd (P 12) wk x)) 13) wk y)) 14) wk z)) 15) wk w)) sd se sc ba pa le mo) C in_7 tyX7 tyX7_ok nmX7 dX7_work_145 rfl 0 26 rfl rfl (by decide) f_175 rfl (by decide +kernel) (rfl) (rfl) (Nat.le_of_ble_eq_true rfl) rfl ?_
                    refine pt_aload_n (pc' := 149) C dX7_work_148 rfl 1 rfl ?_
                    refine pt_iconst (pc' := 150) C dX7_work_149 rfl (v := 1) (by decide) ?_
                    refine pt_put (pc' := 153) (ty := .boolean) (ws' := wM cA aM 0 n 1 k td gn dr (wk + 1) sv (va_up (va_up (va_up (va_up P 12 (upd (P 12) wk x)) 13 (upd ((va_up P 12 (upd (P 12) wk x)) 13) wk y)) 14 (upd ((va_up (va_up P 12 (upd (P 12) wk x)) 13 (upd ((va_up P 12 (upd (P 12) wk x)) 13) wk y)) 14) wk z)) 15 (upd ((va_up (va_up (va_up P 12 (upd (P 12) wk x)) 13 (upd ((va_up P 12 (upd (P 12) wk x)) 13) wk y)) 14 (upd ((va_up (va_up P 12 (upd (P 12) wk x)) 13 (upd ((va_up P 12 (upd (P 12) wk x)) 13) wk y)) 14) wk z)) 15) wk w)) sd se sc ba pa le mo) C in_7 tyX7 tyX7_ok nmX7 dX7_work_150 rfl 0 2 rfl rfl (by decide) f_108 rfl (by decide +kernel) (rfl) (rfl) (Nat.le_of_ble_eq_true rfl) rfl ?_
                    refine pt_aload_n (pc' := 154) C dX7_work_153 rfl 1 rfl ?_
                    refine pt_get (pc' := 157) C in_7 dX7_work_154 rfl 0 26 rfl rfl (by decide) f_175 rfl ?_
                    refine pt_iconst (pc' := 158) C dX7_work_157 rfl (v := 1) (by decide) ?_
                    refine pt_isub (pc' := 159) C dX7_work_158 rfl ?_
                    refine pt_eq (st' := [.int (nI wk)]) rfl rfl (by rw [nI_m1 (by omega), Nat.add_sub_cancel]) ?_
                    exact pt_iret C hr hk dX7_work_159 (rfl) (by simp only [okWrk, hasA, if_pos h_6, bI_t h_14, bI_f h_25, if_pos h_30, bI_t h_38, if_pos h_48, bI_t h_59, bI_t h_83, de_t (b := 6) (by decide) (by omega) h_92, Bool.or_true, Bool.true_or, Bool.or_false, Bool.false_or, bI, cond_false, cond_true, Bool.and_true, Bool.true_and, Bool.and_false, Bool.false_and] <;> rfl) (by simp only [okWrk, hasA, if_pos h_6, bI_t h_14, bI_f h_25, if_pos h_30, bI_t h_38, if_pos h_48, bI_t h_59, bI_t h_83, de_t (b := 6) (by decide) (by omega) h_92, Bool.or_true, Bool.true_or, Bool.or_false, Bool.false_or, bI, cond_false, cond_true, Bool.and_true, Bool.true_and, Bool.and_false, Bool.false_and] <;> rfl)
                  · refine pt_iconst (pc' := 96) C dX7_work_95 rfl (v := -1) (by decide) ?_
                    exact pt_iret C hr hk dX7_work_96 (rfl) (by simp only [okWrk, hasA, if_pos h_6, bI_t h_14, bI_f h_25, if_pos h_30, bI_t h_38, if_pos h_48, bI_t h_59, bI_t h_83, de_f (b := 6) (by decide) (by omega) h_92, Bool.or_true, Bool.true_or, Bool.or_false, Bool.false_or, bI, cond_false, cond_true, Bool.and_true, Bool.true_and, Bool.and_false, Bool.false_and] <;> rfl) (by simp only [okWrk, hasA, if_pos h_6, bI_t h_14, bI_f h_25, if_pos h_30, bI_t h_38, if_pos h_48, bI_t h_59, bI_t h_83, de_f (b := 6) (by decide) (by omega) h_92, Bool.or_true, Bool.true_or, Bool.or_false, Bool.false_or, bI, cond_false, cond_true, Bool.and_true, Bool.true_and, Bool.and_false, Bool.false_and] <;> rfl)
