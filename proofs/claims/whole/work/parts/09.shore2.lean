set_option maxHeartbeats 4000000 in
set_option maxRecDepth 100000 in
theorem mX2_startFrom (l : Launch) (D : va_G) (cA : ClassId) (aS : Nat → Nat) (sd : Nat → Int32) (se : Nat → Int32) (sc : Nat → Int32) (ba : Nat → Int32) (pa : Nat → Int32) (ch : Nat → Int32) (aB : Nat → Nat) (n : Nat) (k : Int32) (bs : Nat → Int32) (wl : Nat → Int32) (fd : Nat → Int32) (kd : Nat → Int32) (sz : Nat → Int32) (lk : Nat → Int32) : mt_V l yX2_startFrom wsX2_startFrom { frames := 1, cells := 0, slots := 0, locals := 60 } D [(cA, .int)] [.ref (aS 0), .ref (aB 0)] (wS cA aS sd se sc ba pa ch ++ wB cA aB n k bs wl fd kd sz lk) (wS cA aS bs (fun _ => 0) (fun _ => 0) (fun _ => 0) (fun _ => 0) ch ++ wB cA aB n k bs wl fd kd sz lk) := by
  refine mt_ofV (cc := cX2_startFrom) (maxL := 2) (ret := none) (lv := [(0, .ref (aS 0)), (1, .ref (aB 0))]) (by decide) rfl (Nat.le_of_ble_eq_true rfl) rfl ?_
  intro p e s m args below meth c A C hr hk
  have f_30 := C.hts (.fieldLink RX2 30 "ShoreFields$Begin" "sandOf" "[I") (by decide +kernel)
  have in_0 : ∀ w ∈ u_ws RX0 TX0 8, w ∈ wsX2_startFrom := by decide +kernel
  have f_9 := C.hts (.fieldLink RX2 9 "ShoreFields$Shore" "sandOf" "[I") (by decide +kernel)
  have in_2 : ∀ w ∈ u_ws RX2 TX2 6, w ∈ wsX2_startFrom := by decide +kernel
  have m_33 := C.hts (.methodLink RX2 33 arraycopyName) (by decide +kernel)
  have ac_n := C.hts (.native arraycopyName) (by decide +kernel)
  have ac_s := C.hts (.static arraycopyName) (by decide +kernel)
  have ac_i := C.hts (.initialized "java/lang/System") (by decide +kernel)
  have f_15 := C.hts (.fieldLink RX2 15 "ShoreFields$Shore" "seaOf" "[I") (by decide +kernel)
  have f_18 := C.hts (.fieldLink RX2 18 "ShoreFields$Shore" "scourOf" "[I") (by decide +kernel)
  have f_21 := C.hts (.fieldLink RX2 21 "ShoreFields$Shore" "barAt" "[I") (by decide +kernel)
  have f_24 := C.hts (.fieldLink RX2 24 "ShoreFields$Shore" "passedAt" "[I") (by decide +kernel)
  refine pt_aload_n (pc' := 1) C dX2_startFrom_0 rfl 1 rfl ?_
  refine pt_get (pc' := 4) C in_0 dX2_startFrom_1 rfl 7 2 rfl rfl (by decide) f_30 rfl ?_
  refine pt_iconst (pc' := 5) C dX2_startFrom_4 rfl (v := 0) (by decide) ?_
  refine pt_aload_n (pc' := 6) C dX2_startFrom_5 rfl 0 rfl ?_
  refine pt_get (pc' := 9) C in_2 dX2_startFrom_6 rfl 0 0 rfl rfl (by decide) f_9 rfl ?_
  refine pt_iconst (pc' := 10) C dX2_startFrom_9 rfl (v := 0) (by decide) ?_
  refine pt_bipush (pc' := 12) C dX2_startFrom_10 rfl (v := 12) (by decide) ?_
  refine pt_copyA (pc' := 15) (ws' := wS cA aS bs se sc ba pa ch ++ wB cA aB n k bs wl fd kd sz lk) C dX2_startFrom_12 rfl m_33 ac_n ac_s ac_i 8 1 rfl rfl rfl (rfl) (by decide) (by decide) (Nat.le_of_ble_eq_true rfl) (Nat.le_of_ble_eq_true rfl) rfl ?_
  refine pt_aload_n (pc' := 16) C dX2_startFrom_15 rfl 0 rfl ?_
  refine pt_get (pc' := 19) C in_2 dX2_startFrom_16 rfl 0 1 rfl rfl (by decide) f_15 rfl ?_
  refine pt_iconst (pc' := 20) C dX2_startFrom_19 rfl (v := 0) (by decide) ?_
  refine pt_csV (pc' := 23) (ws' := wS cA aS bs (fun _ => 0) sc ba pa ch ++ wB cA aB n k bs wl fd kd sz lk) (wr := pkN [0, 1, 3, 4, 5, 6] (wS cA aS bs se sc ba pa ch) ++ wB cA aB n k bs wl fd kd sz lk) (As := [.ref (aS 2), .int 0]) (rest := []) C (mJ7_fill_53178 l D cA (fun _ => aS 2) 12 se 0 (by first | assumption | omega)) (va_cwS 2 C.hts gX2_startFrom_J7_fill_53178 rfl rfl rfl (by decide +kernel) ⟨Nat.le_of_ble_eq_true rfl, Nat.le_of_ble_eq_true rfl⟩) dX2_startFrom_20 rfl rfl rfl (Nat.le_of_ble_eq_true rfl) ⟨Nat.le_of_ble_eq_true rfl, Nat.le_of_ble_eq_true rfl⟩ [2] [0, 1, 3, 4, 5, 6, 7, 8, 9, 10, 11, 12, 13] [0, 1, 13, 2, 3, 4, 5, 6, 7, 8, 9, 10, 11, 12] rfl (by decide) rfl (by decide) (by decide) rfl (by decide) ?_
  refine pt_aload_n (pc' := 24) C dX2_startFrom_23 rfl 0 rfl ?_
  refine pt_get (pc' := 27) C in_2 dX2_startFrom_24 rfl 0 2 rfl rfl (by decide) f_18 rfl ?_
  refine pt_iconst (pc' := 28) C dX2_startFrom_27 rfl (v := 0) (by decide) ?_
  refine pt_csV (pc' := 31) (ws' := wS cA aS bs (fun _ => 0) (fun _ => 0) ba pa ch ++ wB cA aB n k bs wl fd kd sz lk) (wr := pkN [0, 1, 2, 4, 5, 6] (wS cA aS bs (fun _ => 0) sc ba pa ch) ++ wB cA aB n k bs wl fd kd sz lk) (As := [.ref (aS 3), .int 0]) (rest := []) C (mJ7_fill_53178 l D cA (fun _ => aS 3) 12 sc 0 (by first | assumption | omega)) (va_cwS 2 C.hts gX2_startFrom_J7_fill_53178 rfl rfl rfl (by decide +kernel) ⟨Nat.le_of_ble_eq_true rfl, Nat.le_of_ble_eq_true rfl⟩) dX2_startFrom_28 rfl rfl rfl (Nat.le_of_ble_eq_true rfl) ⟨Nat.le_of_ble_eq_true rfl, Nat.le_of_ble_eq_true rfl⟩ [3] [0, 1, 2, 4, 5, 6, 7, 8, 9, 10, 11, 12, 13] [0, 1, 2, 13, 3, 4, 5, 6, 7, 8, 9, 10, 11, 12] rfl (by decide) rfl (by decide) (by decide) rfl (by decide) ?_
  refine pt_aload_n (pc' := 32) C dX2_startFrom_31 rfl 0 rfl ?_
  refine pt_get (pc' := 35) C in_2 dX2_startFrom_32 rfl 0 3 rfl rfl (by decide) f_21 rfl ?_
  refine pt_iconst (pc' := 36) C dX2_startFrom_35 rfl (v := 0) (by decide) ?_
  refine pt_csV (pc' := 39) (ws' := wS cA aS bs (fun _ => 0) (fun _ => 0) (fun _ => 0) pa ch ++ wB cA aB n k bs wl fd kd sz lk) (wr := pkN [0, 1, 2, 3, 5, 6] (wS cA aS bs (fun _ => 0) (fun _ => 0) ba pa ch) ++ wB cA aB n k bs wl fd kd sz lk) (As := [.ref (aS 4), .int 0]) (rest := []) C (mJ7_fill_53178 l D cA (fun _ => aS 4) 13 ba 0 (by first | assumption | omega)) (va_cwS 2 C.hts gX2_startFrom_J7_fill_53178 rfl rfl rfl (by decide +kernel) ⟨Nat.le_of_ble_eq_true rfl, Nat.le_of_ble_eq_true rfl⟩) dX2_startFrom_36 rfl rfl rfl (Nat.le_of_ble_eq_true rfl) ⟨Nat.le_of_ble_eq_true rfl, Nat.le_of_ble_eq_true rfl⟩ [4] [0, 1, 2, 3, 5, 6, 7, 8, 9, 10, 11, 12, 13] [0, 1, 2, 3, 13, 4, 5, 6, 7, 8, 9, 10, 11, 12] rfl (by decide) rfl (by decide) (by decide) rfl (by decide) ?_
  refine pt_aload_n (pc' := 40) C dX2_startFrom_39 rfl 0 rfl ?_
  refine pt_get (pc' := 43) C in_2 dX2_startFrom_40 rfl 0 4 rfl rfl (by decide) f_24 rfl ?_
  refine pt_iconst (pc' := 44) C dX2_startFrom_43 rfl (v := 0) (by decide) ?_
  refine pt_csV (pc' := 47) (ws' := wS cA aS bs (fun _ => 0) (fun _ => 0) (fun _ => 0) (fun _ => 0) ch ++ wB cA aB n k bs wl fd kd sz lk) (wr := pkN [0, 1, 2, 3, 4, 6] (wS cA aS bs (fun _ => 0) (fun _ => 0) (fun _ => 0) pa ch) ++ wB cA aB n k bs wl fd kd sz lk) (As := [.ref (aS 5), .int 0]) (rest := []) C (mJ7_fill_53178 l D cA (fun _ => aS 5) 13 pa 0 (by first | assumption | omega)) (va_cwS 2 C.hts gX2_startFrom_J7_fill_53178 rfl rfl rfl (by decide +kernel) ⟨Nat.le_of_ble_eq_true rfl, Nat.le_of_ble_eq_true rfl⟩) dX2_startFrom_44 rfl rfl rfl (Nat.le_of_ble_eq_true rfl) ⟨Nat.le_of_ble_eq_true rfl, Nat.le_of_ble_eq_true rfl⟩ [5] [0, 1, 2, 3, 4, 6, 7, 8, 9, 10, 11, 12, 13] [0, 1, 2, 3, 4, 13, 5, 6, 7, 8, 9, 10, 11, 12] rfl (by decide) rfl (by decide) (by decide) rfl (by decide) ?_
  exact pt_vret C hr hk dX2_startFrom_47 (rfl)

set_option maxHeartbeats 4000000 in
set_option maxRecDepth 100000 in
theorem mX2_sandInAll (l : Launch) (D : va_G) (cA : ClassId) (aS : Nat → Nat) (sd : Nat → Int32) (se : Nat → Int32) (sc : Nat → Int32) (ba : Nat → Int32) (pa : Nat → Int32) (ch : Nat → Int32) (n : Nat) (hm : n ≤ 12) : mt_I l yX2_sandInAll wsX2_sandInAll { frames := 0, cells := 0, slots := 0, locals := 0 } D [(cA, .int)] [.ref (aS 0), .int (nI n)] (wS cA aS sd se sc ba pa ch) (itz (siS sd se ba) n 0) (wS cA aS sd se sc ba pa ch) := by
  refine mt_ofI (cc := cX2_sandInAll) (maxL := 4) (ret := (some .int)) (lv := [(0, .ref (aS 0)), (1, .int (nI n))]) (by decide) rfl (Nat.le_of_ble_eq_true rfl) rfl ?_
  intro p e s m args below meth c A C hr hk
  have f_9 := C.hts (.fieldLink RX2 9 "ShoreFields$Shore" "sandOf" "[I") (by decide +kernel)
  have in_2 : ∀ w ∈ u_ws RX2 TX2 6, w ∈ wsX2_sandInAll := by decide +kernel
  have f_15 := C.hts (.fieldLink RX2 15 "ShoreFields$Shore" "seaOf" "[I") (by decide +kernel)
  have f_21 := C.hts (.fieldLink RX2 21 "ShoreFields$Shore" "barAt" "[I") (by decide +kernel)
  refine pt_iconst (pc' := 1) C dX2_sandInAll_0 rfl (v := 0) (by decide) ?_
  refine pt_istore_n (pc' := 2) (lv' := [(2, .int 0), (0, .ref (aS 0)), (1, .int (nI n))]) C dX2_sandInAll_1 rfl rfl (by decide) rfl ?_
  refine pt_iconst (pc' := 3) C dX2_sandInAll_2 rfl (v := 0) (by decide) ?_
  refine pt_istore_n (pc' := 4) (lv' := [(3, .int 0), (2, .int 0), (0, .ref (aS 0)), (1, .int (nI n))]) C dX2_sandInAll_3 rfl rfl (by decide) rfl ?_
  refine pt_cv (ws' := wS cA aS sd se sc ba pa ch) (lv' := [(3, .int (nI 0)), (2, .int (itz (siS sd se ba) 0 0)), (0, .ref (aS 0)), (1, .int (nI n))]) (rfl) [0, 1, 2, 3] (rfl) rfl ?_
  refine pt_for (wsf := fun j => wS cA aS sd se sc ba pa ch) (lvf := fun j => [(3, .int (nI j)), (2, .int (itz (siS sd se ba) j 0)), (0, .ref (aS 0)), (1, .int (nI n))]) n ?_ (fun j hj_4 ih_4 => ?_)
  rotate_left
  · refine pt_iload_n (pc' := 5) C dX2_sandInAll_4 rfl 0 rfl ?_
    refine pt_iload_n (pc' := 6) C dX2_sandInAll_5 rfl 3 rfl ?_
    refine pt_icmp_ge (pc' := 9) (tgt := 38) C dX2_sandInAll_6 (by decide) rfl (fun h_6 => absurd h_6 (nI_ge hj_4 (by omega))) (fun h_6 => ?_)
    refine pt_iload_n (pc' := 10) C dX2_sandInAll_9 rfl 1 rfl ?_
    refine pt_aload_n (pc' := 11) C dX2_sandInAll_10 rfl 2 rfl ?_
    refine pt_get (pc' := 14) C in_2 dX2_sandInAll_11 rfl 0 0 rfl rfl (by decide) f_9 rfl ?_
    refine pt_iload_n (pc' := 15) C dX2_sandInAll_14 rfl 0 rfl ?_
    refine pt_iald (pc' := 16) C dX2_sandInAll_15 rfl 1 rfl rfl j (rfl) (by omega) (by decide) ?_
    refine pt_aload_n (pc' := 17) C dX2_sandInAll_16 rfl 2 rfl ?_
    refine pt_get (pc' := 20) C in_2 dX2_sandInAll_17 rfl 0 1 rfl rfl (by decide) f_15 rfl ?_
    refine pt_iload_n (pc' := 21) C dX2_sandInAll_20 rfl 0 rfl ?_
    refine pt_iald (pc' := 22) C dX2_sandInAll_21 rfl 2 rfl rfl j (rfl) (by omega) (by decide) ?_
    refine pt_iadd (pc' := 23) C dX2_sandInAll_22 rfl ?_
    refine pt_aload_n (pc' := 24) C dX2_sandInAll_23 rfl 2 rfl ?_
    refine pt_get (pc' := 27) C in_2 dX2_sandInAll_24 rfl 0 3 rfl rfl (by decide) f_21 rfl ?_
    refine pt_iload_n (pc' := 28) C dX2_sandInAll_27 rfl 0 rfl ?_
    refine pt_iald (pc' := 29) C dX2_sandInAll_28 rfl 4 rfl rfl j (rfl) (by omega) (by decide) ?_
    refine pt_iadd (pc' := 30) C dX2_sandInAll_29 rfl ?_
    refine pt_iadd (pc' := 31) C dX2_sandInAll_30 rfl ?_
    refine pt_istore_n (pc' := 32) (lv' := [(2, .int ((itz (siS sd se ba) j 0) + (((sd j) + (se j)) + (ba j)))), (3, .int (nI j)), (0, .ref (aS 0)), (1, .int (nI n))]) C dX2_sandInAll_31 rfl rfl (by decide) rfl ?_
    refine pt_iinc (pc' := 35) (v := nI (j + 1)) (lv' := [(3, .int (nI (j + 1))), (2, .int ((itz (siS sd se ba) j 0) + (((sd j) + (se j)) + (ba j)))), (0, .ref (aS 0)), (1, .int (nI n))]) C dX2_sandInAll_32 rfl 1 rfl (nI_1 _) (by decide) rfl ?_
    refine pt_goto (pc' := 4) C dX2_sandInAll_35 (by decide) ?_
    exact pt_cv (rfl) [0, 1, 2, 3] (rfl) rfl ih_4
  refine pt_iload_n (pc' := 5) C dX2_sandInAll_4 rfl 0 rfl ?_
  refine pt_iload_n (pc' := 6) C dX2_sandInAll_5 rfl 3 rfl ?_
  refine pt_icmp_ge (pc' := 9) (tgt := 38) C dX2_sandInAll_6 (by decide) rfl (fun h_6 => ?_) (fun h_6 => absurd (nI_le (Nat.le_refl n) (by omega)) h_6)
  refine pt_iload_n (pc' := 39) C dX2_sandInAll_38 rfl 1 rfl ?_
  exact pt_iret C hr hk dX2_sandInAll_39 (rfl) (rfl) (rfl)

set_option maxHeartbeats 4000000 in
set_option maxRecDepth 100000 in
theorem mX2_bringFromBar (l : Launch) (D : va_G) (cA : ClassId) (aS : Nat → Nat) (sd : Nat → Int32) (se : Nat → Int32) (sc : Nat → Int32) (ba : Nat → Int32) (pa : Nat → Int32) (ch : Nat → Int32) (b : Nat) (w : Int32) (f : Nat) (hb : b < 13) (hf : f < 12) : mt_I l yX2_bringFromBar wsX2_bringFromBar { frames := 1, cells := 0, slots := 0, locals := 15 } D [(cA, .int)] [.ref (aS 0), .int (nI b), .int w, .int (nI f)] (wS cA aS sd se sc ba pa ch) (mn w (ba b)) (wS cA aS (bbS sd f (mn w (ba b))) se sc (bbB ba b (mn w (ba b))) pa ch) := by
  refine mt_ofI (cc := cX2_bringFromBar) (maxL := 5) (ret := (some .int)) (lv := [(0, .ref (aS 0)), (1, .int (nI b)), (2, .int w), (3, .int (nI f))]) (by decide) rfl (Nat.le_of_ble_eq_true rfl) rfl ?_
  intro p e s m args below meth c A C hr hk
  have f_21 := C.hts (.fieldLink RX2 21 "ShoreFields$Shore" "barAt" "[I") (by decide +kernel)
  have in_2 : ∀ w ∈ u_ws RX2 TX2 6, w ∈ wsX2_bringFromBar := by decide +kernel
  have m_45 := C.hts (.methodLink RX2 45 Lib.Math.min.name) (by decide +kernel)
  have ms_mmin := C.hts (.static Lib.Math.min.name) (by decide +kernel)
  have mi_math := C.hts (.initialized "java/lang/Math") (by decide +kernel)
  have mc_mmin := C.hts (.code Lib.Math.min.name Lib.Math.min.code 2 (some .int)) (by decide +kernel)
  have f_9 := C.hts (.fieldLink RX2 9 "ShoreFields$Shore" "sandOf" "[I") (by decide +kernel)
  have k_51 := C.hts (.constant RX2 51 (99999)) (by decide +kernel)
  refine pt_iload_n (pc' := 1) C dX2_bringFromBar_0 rfl 2 rfl ?_
  refine pt_aload_n (pc' := 2) C dX2_bringFromBar_1 rfl 0 rfl ?_
  refine pt_get (pc' := 5) C in_2 dX2_bringFromBar_2 rfl 0 3 rfl rfl (by decide) f_21 rfl ?_
  refine pt_iload_n (pc' := 6) C dX2_bringFromBar_5 rfl 1 rfl ?_
  refine pt_iald (pc' := 7) C dX2_bringFromBar_6 rfl 4 rfl rfl b (rfl) (by omega) (by decide) ?_
  refine pt_mmin (pc' := 10) C dX2_bringFromBar_7 rfl m_45 ms_mmin mi_math mc_mmin (Nat.le_of_ble_eq_true rfl) (Nat.le_of_ble_eq_true rfl) (Nat.le_of_ble_eq_true rfl) (Nat.le_of_ble_eq_true rfl) ?_
  refine pt_istore (pc' := 12) (lv' := [(4, .int (mn w (ba b))), (0, .ref (aS 0)), (1, .int (nI b)), (2, .int w), (3, .int (nI f))]) C dX2_bringFromBar_10 rfl (by decide) rfl ?_
  refine pt_aload_n (pc' := 13) C dX2_bringFromBar_12 rfl 1 rfl ?_
  refine pt_get (pc' := 16) C in_2 dX2_bringFromBar_13 rfl 0 3 rfl rfl (by decide) f_21 rfl ?_
  refine pt_iload_n (pc' := 17) C dX2_bringFromBar_16 rfl 2 rfl ?_
  refine pt_dup2 (pc' := 18) C dX2_bringFromBar_17 rfl rfl rfl ?_
  refine pt_iald (pc' := 19) C dX2_bringFromBar_18 rfl 4 rfl rfl b (rfl) (by omega) (by decide) ?_
  refine pt_iload (pc' := 21) C dX2_bringFromBar_19 rfl 0 rfl ?_
  refine pt_isub (pc' := 22) C dX2_bringFromBar_21 rfl ?_
  refine pt_iast (pc' := 23) (ws' := wS cA aS sd se sc (upd ba b ((ba b) - (mn w (ba b)))) pa ch) C dX2_bringFromBar_22 rfl 4 rfl rfl b (rfl) (by omega) (by decide) rfl ?_
  refine pt_aload_n (pc' := 24) C dX2_bringFromBar_23 rfl 1 rfl ?_
  refine pt_get (pc' := 27) C in_2 dX2_bringFromBar_24 rfl 0 0 rfl rfl (by decide) f_9 rfl ?_
  refine pt_iload_n (pc' := 28) C dX2_bringFromBar_27 rfl 4 rfl ?_
  refine pt_aload_n (pc' := 29) C dX2_bringFromBar_28 rfl 1 rfl ?_
  refine pt_get (pc' := 32) C in_2 dX2_bringFromBar_29 rfl 0 0 rfl rfl (by decide) f_9 rfl ?_
  refine pt_iload_n (pc' := 33) C dX2_bringFromBar_32 rfl 4 rfl ?_
  refine pt_iald (pc' := 34) C dX2_bringFromBar_33 rfl 1 rfl rfl f (rfl) (by omega) (by decide) ?_
  refine pt_iload (pc' := 36) C dX2_bringFromBar_34 rfl 0 rfl ?_
  refine pt_iadd (pc' := 37) C dX2_bringFromBar_36 rfl ?_
  refine pt_ldc (pc' := 39) C dX2_bringFromBar_37 rfl k_51 ?_
  refine pt_mmin (pc' := 42) C dX2_bringFromBar_39 rfl m_45 ms_mmin mi_math mc_mmin (Nat.le_of_ble_eq_true rfl) (Nat.le_of_ble_eq_true rfl) (Nat.le_of_ble_eq_true rfl) (Nat.le_of_ble_eq_true rfl) ?_
  refine pt_iast (pc' := 43) (ws' := wS cA aS (upd sd f (mn ((sd f) + (mn w (ba b))) 99999)) se sc (upd ba b ((ba b) - (mn w (ba b)))) pa ch) C dX2_bringFromBar_42 rfl 1 rfl rfl f (rfl) (by omega) (by decide) rfl ?_
  refine pt_iload (pc' := 45) C dX2_bringFromBar_43 rfl 0 rfl ?_
  exact pt_iret C hr hk dX2_bringFromBar_45 (rfl) (rfl) (rfl)

set_option maxHeartbeats 4000000 in
set_option maxRecDepth 100000 in
theorem cX2_goThrough_0 (l : Launch) (D : va_G) (cA : ClassId) (aS : Nat → Nat) (sd : Nat → Int32) (se : Nat → Int32) (sc : Nat → Int32) (ba : Nat → Int32) (pa : Nat → Int32) (ch : Nat → Int32) (aB : Nat → Nat) (n : Nat) (k : Int32) (bs : Nat → Int32) (wl : Nat → Int32) (fd : Nat → Int32) (kd : Nat → Int32) (sz : Nat → Int32) (lk : Nat → Int32) (h : Int32) (hn : 2 ≤ n) (hm : n ≤ 12) : mt_V l yX2_goThrough wsX2_goThrough { frames := 4, cells := 0, slots := 0, locals := 130 } D [(cA, .int)] [.ref (aS 0), .ref (aB 0), .int h, .int 0] (wS cA aS sd se sc ba pa ch ++ wB cA aB n k bs wl fd kd sz lk) (wS cA aS (s2X h n (adX n sd (paX false n k h sd wl fd kd sz lk (sc, ba, (fun _ => 0), (fun _ => 0))).2.2.2) wl se) (e2X h n (adX n sd (paX false n k h sd wl fd kd sz lk (sc, ba, (fun _ => 0), (fun _ => 0))).2.2.2) wl se) ((paX false n k h sd wl fd kd sz lk (sc, ba, (fun _ => 0), (fun _ => 0))).1) ((paX false n k h sd wl fd kd sz lk (sc, ba, (fun _ => 0), (fun _ => 0))).2.1) ((paX false n k h sd wl fd kd sz lk (sc, ba, (fun _ => 0), (fun _ => 0))).2.2.1) ((paX false n k h sd wl fd kd sz lk (sc, ba, (fun _ => 0), (fun _ => 0))).2.2.2) ++ wB cA aB n k bs wl fd kd sz lk) := by
  refine mt_ofV (cc := cX2_goThrough) (maxL := 5) (ret := none) (lv := [(0, .ref (aS 0)), (1, .ref (aB 0)), (2, .int h), (3, .int 0)]) (by decide) rfl (Nat.le_of_ble_eq_true rfl) rfl ?_
  intro p e s m args below meth c A C hr hk
  have f_24 := C.hts (.fieldLink RX2 24 "ShoreFields$Shore" "passedAt" "[I") (by decide +kernel)
  have in_2 : ∀ w ∈ u_ws RX2 TX2 6, w ∈ wsX2_goThrough := by decide +kernel
  have f_27 := C.hts (.fieldLink RX2 27 "ShoreFields$Shore" "changeOf" "[I") (by decide +kernel)
  have f_56 := C.hts (.fieldLink RX2 56 "ShoreFields$Begin" "fieldCount" "I") (by decide +kernel)
  have in_0 : ∀ w ∈ u_ws RX0 TX0 8, w ∈ wsX2_goThrough := by decide +kernel
  refine pt_aload_n (pc' := 1) C dX2_goThrough_0 rfl 0 rfl ?_
  refine pt_get (pc' := 4) C in_2 dX2_goThrough_1 rfl 0 4 rfl rfl (by decide) f_24 rfl ?_
  refine pt_iconst (pc' := 5) C dX2_goThrough_4 rfl (v := 0) (by decide) ?_
  refine pt_csV (pc' := 8) (ws' := wS cA aS sd se sc ba (fun _ => 0) ch ++ wB cA aB n k bs wl fd kd sz lk) (wr := pkN [0, 1, 2, 3, 4, 6] (wS cA aS sd se sc ba pa ch) ++ wB cA aB n k bs wl fd kd sz lk) (As := [.ref (aS 5), .int 0]) (rest := []) C (mJ7_fill_53178 l D cA (fun _ => aS 5) 13 pa 0 (by first | assumption | omega)) (va_cwS 2 C.hts gX2_goThrough_J7_fill_53178 rfl rfl rfl (by decide +kernel) ⟨Nat.le_of_ble_eq_true rfl, Nat.le_of_ble_eq_true rfl⟩) dX2_goThrough_5 rfl rfl rfl (Nat.le_of_ble_eq_true rfl) ⟨Nat.le_of_ble_eq_true rfl, Nat.le_of_ble_eq_true rfl⟩ [5] [0, 1, 2, 3, 4, 6, 7, 8, 9, 10, 11, 12, 13] [0, 1, 2, 3, 4, 13, 5, 6, 7, 8, 9, 10, 11, 12] rfl (by decide) rfl (by decide) (by decide) rfl (by decide) ?_
  refine pt_iload_n (pc' := 9) C dX2_goThrough_8 rfl 3 rfl ?_
  refine pt_iconst (pc' := 10) C dX2_goThrough_9 rfl (v := 2) (by decide) ?_
  refine pt_icmp_eq (pc' := 13) (tgt := 67) C dX2_goThrough_10 (by decide) rfl (fun h_10 => absurd h_10 (by decide)) (fun h_10 => ?_)
  refine pt_aload_n (pc' := 14) C dX2_goThrough_13 rfl 0 rfl ?_
  refine pt_get (pc' := 17) C in_2 dX2_goThrough_14 rfl 0 5 rfl rfl (by decide) f_27 rfl ?_
  refine pt_iconst (pc' := 18) C dX2_goThrough_17 rfl (v := 0) (by decide) ?_
  refine pt_csV (pc' := 21) (ws' := wS cA aS sd se sc ba (fun _ => 0) (fun _ => 0) ++ wB cA aB n k bs wl fd kd sz lk) (wr := pkN [0, 1, 2, 3, 4, 5] (wS cA aS sd se sc ba (fun _ => 0) ch) ++ wB cA aB n k bs wl fd kd sz lk) (As := [.ref (aS 6), .int 0]) (rest := []) C (mJ7_fill_53178 l D cA (fun _ => aS 6) 12 ch 0 (by first | assumption | omega)) (va_cwS 2 C.hts gX2_goThrough_J7_fill_53178 rfl rfl rfl (by decide +kernel) ⟨Nat.le_of_ble_eq_true rfl, Nat.le_of_ble_eq_true rfl⟩) dX2_goThrough_18 rfl rfl rfl (Nat.le_of_ble_eq_true rfl) ⟨Nat.le_of_ble_eq_true rfl, Nat.le_of_ble_eq_true rfl⟩ [6] [0, 1, 2, 3, 4, 5, 7, 8, 9, 10, 11, 12, 13] [0, 1, 2, 3, 4, 5, 13, 6, 7, 8, 9, 10, 11, 12] rfl (by decide) rfl (by decide) (by decide) rfl (by decide) ?_
  refine pt_aload_n (pc' := 22) C dX2_goThrough_21 rfl 0 rfl ?_
  refine pt_aload_n (pc' := 23) C dX2_goThrough_22 rfl 1 rfl ?_
  refine pt_iload_n (pc' := 24) C dX2_goThrough_23 rfl 2 rfl ?_
  refine pt_iload_n (pc' := 25) C dX2_goThrough_24 rfl 3 rfl ?_
  refine pt_cvV0 (pc' := 28) (w1 := wS cA aS sd se sc ba (upd (fun _ => 0) 0 (fdU k h fd 0)) (upd (fun _ => 0) 0 ((fun _ => 0) 0 + fdU k h fd 0)) ++ wB cA aB n k bs wl fd kd sz lk) (As := [.ref (aB 0), .int h, .int 0]) (rest := []) C (cX2_comeIn_L l D cA aS sd se sc ba (fun _ => 0) (fun _ => 0) aB n k bs wl fd kd sz lk h (by first | assumption | omega) (by first | assumption | omega)) (cwV 3 C.hts gX2_goThrough_X2_comeInAtEnd rfl rfl rfl (by decide +kernel) ⟨Nat.le_of_ble_eq_true rfl, Nat.le_of_ble_eq_true rfl⟩) dX2_goThrough_25 rfl 0 rfl rfl rfl rfl rfl (Nat.le_of_ble_eq_true rfl) ⟨Nat.le_of_ble_eq_true rfl, Nat.le_of_ble_eq_true rfl⟩ ?_
  refine pt_iconst (pc' := 29) C dX2_goThrough_28 rfl (v := 1) (by decide) ?_
  refine pt_istore (pc' := 31) (lv' := [(4, .int 1), (0, .ref (aS 0)), (1, .ref (aB 0)), (2, .int h), (3, .int 0)]) C dX2_goThrough_29 rfl (by decide) rfl ?_
  refine pt_cv (ws' := wS cA aS sd se ((itf (psX false k h sd wl kd sz lk) 1 0 (ciX false n k h fd (sc, ba, (fun _ => 0), (fun _ => 0)))).1) ((itf (psX false k h sd wl kd sz lk) 1 0 (ciX false n k h fd (sc, ba, (fun _ => 0), (fun _ => 0)))).2.1) ((itf (psX false k h sd wl kd sz lk) 1 0 (ciX false n k h fd (sc, ba, (fun _ => 0), (fun _ => 0)))).2.2.1) ((itf (psX false k h sd wl kd sz lk) 1 0 (ciX false n k h fd (sc, ba, (fun _ => 0), (fun _ => 0)))).2.2.2) ++ wB cA aB n k bs wl fd kd sz lk) (lv' := [(4, .int (nI (1 + 0))), (0, .ref (aS 0)), (1, .ref (aB 0)), (2, .int h), (3, .int 0)]) (rfl) [0, 1, 2, 3, 4] (rfl) rfl ?_
  refine pt_for (wsf := fun j => wS cA aS sd se ((itf (psX false k h sd wl kd sz lk) 1 j (ciX false n k h fd (sc, ba, (fun _ => 0), (fun _ => 0)))).1) ((itf (psX false k h sd wl kd sz lk) 1 j (ciX false n k h fd (sc, ba, (fun _ => 0), (fun _ => 0)))).2.1) ((itf (psX false k h sd wl kd sz lk) 1 j (ciX false n k h fd (sc, ba, (fun _ => 0), (fun _ => 0)))).2.2.1) ((itf (psX false k h sd wl kd sz lk) 1 j (ciX false n k h fd (sc, ba, (fun _ => 0), (fun _ => 0)))).2.2.2) ++ wB cA aB n k bs wl fd kd sz lk) (lvf := fun j => [(4, .int (nI (1 + j))), (0, .ref (aS 0)), (1, .ref (aB 0)), (2, .int h), (3, .int 0)]) (n - 1) ?_ (fun j hj_31 ih_31 => ?_)
  rotate_left
  · refine pt_iload (pc' := 33) C dX2_goThrough_31 rfl 0 rfl ?_
    refine pt_aload_n (pc' := 34) C dX2_goThrough_33 rfl 2 rfl ?_
    refine pt_get (pc' := 37) C in_0 dX2_goThrough_34 rfl 7 0 rfl rfl (by decide) f_56 rfl ?_
    refine pt_icmp_ge (pc' := 40) (tgt := 55) C dX2_goThrough_37 (by decide) rfl (fun h_37 => absurd h_37 (nI_ge (show 1 + j < n by omega) (by omega))) (fun h_37 => ?_)
    refine pt_aload_n (pc' := 41) C dX2_goThrough_40 rfl 1 rfl ?_
    refine pt_aload_n (pc' := 42) C dX2_goThrough_41 rfl 2 rfl ?_
    refine pt_iload (pc' := 44) C dX2_goThrough_42 rfl 0 rfl ?_
    refine pt_iload_n (pc' := 45) C dX2_goThrough_44 rfl 3 rfl ?_
    refine pt_iload_n (pc' := 46) C dX2_goThrough_45 rfl 4 rfl ?_
    refine pt_cvV0 (pc' := 49) (w1 := wS cA aS sd se ((psX false k h sd wl kd sz lk (1 + j) (((itf (psX false k h sd wl kd sz lk) 1 j (ciX false n k h fd (sc, ba, (fun _ => 0), (fun _ => 0)))).1), ((itf (psX false k h sd wl kd sz lk) 1 j (ciX false n k h fd (sc, ba, (fun _ => 0), (fun _ => 0)))).2.1), ((itf (psX false k h sd wl kd sz lk) 1 j (ciX false n k h fd (sc, ba, (fun _ => 0), (fun _ => 0)))).2.2.1), ((itf (psX false k h sd wl kd sz lk) 1 j (ciX false n k h fd (sc, ba, (fun _ => 0), (fun _ => 0)))).2.2.2))).1) ((psX false k h sd wl kd sz lk (1 + j) (((itf (psX false k h sd wl kd sz lk) 1 j (ciX false n k h fd (sc, ba, (fun _ => 0), (fun _ => 0)))).1), ((itf (psX false k h sd wl kd sz lk) 1 j (ciX false n k h fd (sc, ba, (fun _ => 0), (fun _ => 0)))).2.1), ((itf (psX false k h sd wl kd sz lk) 1 j (ciX false n k h fd (sc, ba, (fun _ => 0), (fun _ => 0)))).2.2.1), ((itf (psX false k h sd wl kd sz lk) 1 j (ciX false n k h fd (sc, ba, (fun _ => 0), (fun _ => 0)))).2.2.2))).2.1) ((psX false k h sd wl kd sz lk (1 + j) (((itf (psX false k h sd wl kd sz lk) 1 j (ciX false n k h fd (sc, ba, (fun _ => 0), (fun _ => 0)))).1), ((itf (psX false k h sd wl kd sz lk) 1 j (ciX false n k h fd (sc, ba, (fun _ => 0), (fun _ => 0)))).2.1), ((itf (psX false k h sd wl kd sz lk) 1 j (ciX false n k h fd (sc, ba, (fun _ => 0), (fun _ => 0)))).2.2.1), ((itf (psX false k h sd wl kd sz lk) 1 j (ciX false n k h fd (sc, ba, (fun _ => 0), (fun _ => 0)))).2.2.2))).2.2.1) ((psX false k h sd wl kd sz lk (1 + j) (((itf (psX false k h sd wl kd sz lk) 1 j (ciX false n k h fd (sc, ba, (fun _ => 0), (fun _ => 0)))).1), ((itf (psX false k h sd wl kd sz lk) 1 j (ciX false n k h fd (sc, ba, (fun _ => 0), (fun _ => 0)))).2.1), ((itf (psX false k h sd wl kd sz lk) 1 j (ciX false n k h fd (sc, ba, (fun _ => 0), (fun _ => 0)))).2.2.1), ((itf (psX false k h sd wl kd sz lk) 1 j (ciX false n k h fd (sc, ba, (fun _ => 0), (fun _ => 0)))).2.2.2))).2.2.2) ++ wB cA aB n k bs wl fd kd sz lk) (As := [.ref (aB 0), .int (nI (1 + j)), .int h, .int 0]) (rest := []) C (cX2_passAt_L l D cA aS sd se ((itf (psX false k h sd wl kd sz lk) 1 j (ciX false n k h fd (sc, ba, (fun _ => 0), (fun _ => 0)))).1) ((itf (psX false k h sd wl kd sz lk) 1 j (ciX false n k h fd (sc, ba, (fun _ => 0), (fun _ => 0)))).2.1) ((itf (psX false k h sd wl kd sz lk) 1 j (ciX false n k h fd (sc, ba, (fun _ => 0), (fun _ => 0)))).2.2.1) ((itf (psX false k h sd wl kd sz lk) 1 j (ciX false n k h fd (sc, ba, (fun _ => 0), (fun _ => 0)))).2.2.2) aB n k bs wl fd kd sz lk (1 + j) h (by first | assumption | omega) (by first | assumption | omega) (by first | assumption | omega)) (cwV 4 C.hts gX2_goThrough_X2_passAt rfl rfl rfl (by decide +kernel) ⟨Nat.le_of_ble_eq_true rfl, Nat.le_of_ble_eq_true rfl⟩) dX2_goThrough_46 rfl 0 rfl rfl rfl rfl rfl (Nat.le_of_ble_eq_true rfl) ⟨Nat.le_of_ble_eq_true rfl, Nat.le_of_ble_eq_true rfl⟩ ?_
    refine pt_iinc (pc' := 52) (v := nI (1 + (j + 1))) (lv' := [(4, .int (nI (1 + (j + 1)))), (0, .ref (aS 0)), (1, .ref (aB 0)), (2, .int h), (3, .int 0)]) C dX2_goThrough_49 rfl 0 rfl (nI_1 _) (by decide) rfl ?_
    refine pt_goto (pc' := 31) C dX2_goThrough_52 (by decide) ?_
    exact pt_cv (rfl) [0, 1, 2, 3, 4] (rfl) rfl ih_31
  refine pt_iload (pc' := 33) C dX2_goThrough_31 rfl 0 rfl ?_
  refine pt_aload_n (pc' := 34) C dX2_goThrough_33 rfl 2 rfl ?_
  refine pt_get (pc' := 37) C in_0 dX2_goThrough_34 rfl 7 0 rfl rfl (by decide) f_56 rfl ?_
  refine pt_icmp_ge (pc' := 40) (tgt := 55) C dX2_goThrough_37 (by decide) rfl (fun h_37 => ?_) (fun h_37 => absurd (nI_le (show n ≤ 1 + (n - 1) by omega) (by omega)) h_37)
  refine pt_aload_n (pc' := 56) C dX2_goThrough_55 rfl 1 rfl ?_
  refine pt_aload_n (pc' := 57) C dX2_goThrough_56 rfl 2 rfl ?_
  refine pt_iload_n (pc' := 58) C dX2_goThrough_57 rfl 3 rfl ?_
  refine pt_iload_n (pc' := 59) C dX2_goThrough_58 rfl 4 rfl ?_
  refine pt_cvV0 (pc' := 62) (w1 := wS cA aS sd se (tkSc sd wl ((itf (psX false k h sd wl kd sz lk) 1 (n - 1) (ciX false n k h fd (sc, ba, (fun _ => 0), (fun _ => 0)))).1) (n - 1) (k * h)) ((itf (psX false k h sd wl kd sz lk) 1 (n - 1) (ciX false n k h fd (sc, ba, (fun _ => 0), (fun _ => 0)))).2.1) (upd ((itf (psX false k h sd wl kd sz lk) 1 (n - 1) (ciX false n k h fd (sc, ba, (fun _ => 0), (fun _ => 0)))).2.2.1) n (tk sd wl (n - 1) (k * h))) (tkCh sd wl ((itf (psX false k h sd wl kd sz lk) 1 (n - 1) (ciX false n k h fd (sc, ba, (fun _ => 0), (fun _ => 0)))).2.2.2) (n - 1) (k * h)) ++ wB cA aB n k bs wl fd kd sz lk) (As := [.ref (aB 0), .int h, .int 0]) (rest := []) C (cX2_goOut_L l D cA aS sd se ((itf (psX false k h sd wl kd sz lk) 1 (n - 1) (ciX false n k h fd (sc, ba, (fun _ => 0), (fun _ => 0)))).1) ((itf (psX false k h sd wl kd sz lk) 1 (n - 1) (ciX false n k h fd (sc, ba, (fun _ => 0), (fun _ => 0)))).2.1) ((itf (psX false k h sd wl kd sz lk) 1 (n - 1) (ciX false n k h fd (sc, ba, (fun _ => 0), (fun _ => 0)))).2.2.1) ((itf (psX false k h sd wl kd sz lk) 1 (n - 1) (ciX false n k h fd (sc, ba, (fun _ => 0), (fun _ => 0)))).2.2.2) aB n k bs wl fd kd sz lk h (by first | assumption | omega) (by first | assumption | omega)) (cwV 3 C.hts gX2_goThrough_X2_goOutAtEnd rfl rfl rfl (by decide +kernel) ⟨Nat.le_of_ble_eq_true rfl, Nat.le_of_ble_eq_true rfl⟩) dX2_goThrough_59 rfl 0 rfl rfl rfl rfl rfl (Nat.le_of_ble_eq_true rfl) ⟨Nat.le_of_ble_eq_true rfl, Nat.le_of_ble_eq_true rfl⟩ ?_
  refine pt_aload_n (pc' := 63) C dX2_goThrough_62 rfl 1 rfl ?_
  refine pt_aload_n (pc' := 64) C dX2_goThrough_63 rfl 2 rfl ?_
  refine pt_cvV0 (pc' := 67) (w1 := wS cA aS (adX n sd (tkCh sd wl ((itf (psX false k h sd wl kd sz lk) 1 (n - 1) (ciX false n k h fd (sc, ba, (fun _ => 0), (fun _ => 0)))).2.2.2) (n - 1) (k * h))) se (tkSc sd wl ((itf (psX false k h sd wl kd sz lk) 1 (n - 1) (ciX false n k h fd (sc, ba, (fun _ => 0), (fun _ => 0)))).1) (n - 1) (k * h)) ((itf (psX false k h sd wl kd sz lk) 1 (n - 1) (ciX false n k h fd (sc, ba, (fun _ => 0), (fun _ => 0)))).2.1) (upd ((itf (psX false k h sd wl kd sz lk) 1 (n - 1) (ciX false n k h fd (sc, ba, (fun _ => 0), (fun _ => 0)))).2.2.1) n (tk sd wl (n - 1) (k * h))) (tkCh sd wl ((itf (psX false k h sd wl kd sz lk) 1 (n - 1) (ciX false n k h fd (sc, ba, (fun _ => 0), (fun _ => 0)))).2.2.2) (n - 1) (k * h)) ++ wB cA aB n k bs wl fd kd sz lk) (As := [.ref (aB 0)]) (rest := []) C (mX2_addChanges l D cA aS sd se (tkSc sd wl ((itf (psX false k h sd wl kd sz lk) 1 (n - 1) (ciX false n k h fd (sc, ba, (fun _ => 0), (fun _ => 0)))).1) (n - 1) (k * h)) ((itf (psX false k h sd wl kd sz lk) 1 (n - 1) (ciX false n k h fd (sc, ba, (fun _ => 0), (fun _ => 0)))).2.1) (upd ((itf (psX false k h sd wl kd sz lk) 1 (n - 1) (ciX false n k h fd (sc, ba, (fun _ => 0), (fun _ => 0)))).2.2.1) n (tk sd wl (n - 1) (k * h))) (tkCh sd wl ((itf (psX false k h sd wl kd sz lk) 1 (n - 1) (ciX false n k h fd (sc, ba, (fun _ => 0), (fun _ => 0)))).2.2.2) (n - 1) (k * h)) aB n k bs wl fd kd sz lk (by first | assumption | omega)) (cwV 1 C.hts gX2_goThrough_X2_addChanges rfl rfl rfl (by decide +kernel) ⟨Nat.le_of_ble_eq_true rfl, Nat.le_of_ble_eq_true rfl⟩) dX2_goThrough_64 rfl 0 rfl rfl rfl rfl rfl (Nat.le_of_ble_eq_true rfl) ⟨Nat.le_of_ble_eq_true rfl, Nat.le_of_ble_eq_true rfl⟩ ?_
  refine pt_iload_n (pc' := 68) C dX2_goThrough_67 rfl 3 rfl ?_
  refine pt_bipush (pc' := 70) C dX2_goThrough_68 rfl (v := 7) (by decide) ?_
  refine pt_icmp_lt (pc' := 73) (tgt := 84) C dX2_goThrough_70 (by decide) rfl (fun h_70 => ?_) (fun h_70 => ?_)
  · refine pt_iload_n (pc' := 85) C dX2_goThrough_84 rfl 3 rfl ?_
    refine pt_iconst (pc' := 86) C dX2_goThrough_85 rfl (v := 2) (by decide) ?_
    refine pt_icmp_gt (pc' := 89) (tgt := 94) C dX2_goThrough_86 (by decide) rfl (fun h_86 => ?_) (fun h_86 => ?_)
    · exact pt_vret C hr hk dX2_goThrough_94 (by simp only [s2X, e2X, if_pos h_70, if_pos h_86] <;> rfl)
    · refine pt_aload_n (pc' := 90) C dX2_goThrough_89 rfl 1 rfl ?_
      refine pt_aload_n (pc' := 91) C dX2_goThrough_90 rfl 2 rfl ?_
      refine pt_cvV0 (pc' := 94) (w1 := wS cA aS (bkSd n (adX n sd (tkCh sd wl ((itf (psX false k h sd wl kd sz lk) 1 (n - 1) (ciX false n k h fd (sc, ba, (fun _ => 0), (fun _ => 0)))).2.2.2) (n - 1) (k * h))) se) (bkSe n se) (tkSc sd wl ((itf (psX false k h sd wl kd sz lk) 1 (n - 1) (ciX false n k h fd (sc, ba, (fun _ => 0), (fun _ => 0)))).1) (n - 1) (k * h)) ((itf (psX false k h sd wl kd sz lk) 1 (n - 1) (ciX false n k h fd (sc, ba, (fun _ => 0), (fun _ => 0)))).2.1) (upd ((itf (psX false k h sd wl kd sz lk) 1 (n - 1) (ciX false n k h fd (sc, ba, (fun _ => 0), (fun _ => 0)))).2.2.1) n (tk sd wl (n - 1) (k * h))) (tkCh sd wl ((itf (psX false k h sd wl kd sz lk) 1 (n - 1) (ciX false n k h fd (sc, ba, (fun _ => 0), (fun _ => 0)))).2.2.2) (n - 1) (k * h)) ++ wB cA aB n k bs wl fd kd sz lk) (As := [.ref (aB 0)]) (rest := []) C (mX2_bringBackFromSea l D cA aS (adX n sd (tkCh sd wl ((itf (psX false k h sd wl kd sz lk) 1 (n - 1) (ciX false n k h fd (sc, ba, (fun _ => 0), (fun _ => 0)))).2.2.2) (n - 1) (k * h))) se (tkSc sd wl ((itf (psX false k h sd wl kd sz lk) 1 (n - 1) (ciX false n k h fd (sc, ba, (fun _ => 0), (fun _ => 0)))).1) (n - 1) (k * h)) ((itf (psX false k h sd wl kd sz lk) 1 (n - 1) (ciX false n k h fd (sc, ba, (fun _ => 0), (fun _ => 0)))).2.1) (upd ((itf (psX false k h sd wl kd sz lk) 1 (n - 1) (ciX false n k h fd (sc, ba, (fun _ => 0), (fun _ => 0)))).2.2.1) n (tk sd wl (n - 1) (k * h))) (tkCh sd wl ((itf (psX false k h sd wl kd sz lk) 1 (n - 1) (ciX false n k h fd (sc, ba, (fun _ => 0), (fun _ => 0)))).2.2.2) (n - 1) (k * h)) aB n k bs wl fd kd sz lk (by first | assumption | omega)) (cwV 1 C.hts gX2_goThrough_X2_bringBackFromSea rfl rfl rfl (by decide +kernel) ⟨Nat.le_of_ble_eq_true rfl, Nat.le_of_ble_eq_true rfl⟩) dX2_goThrough_91 rfl 0 rfl rfl rfl rfl rfl (Nat.le_of_ble_eq_true rfl) ⟨Nat.le_of_ble_eq_true rfl, Nat.le_of_ble_eq_true rfl⟩ ?_
      exact pt_vret C hr hk dX2_goThrough_94 (by simp only [s2X, e2X, if_pos h_70, if_neg h_86] <;> rfl)
  · refine pt_aload_n (pc' := 74) C dX2_goThrough_73 rfl 1 rfl ?_
    refine pt_aload_n (pc' := 75) C dX2_goThrough_74 rfl 2 rfl ?_
    refine pt_iconst (pc' := 76) C dX2_goThrough_75 rfl (v := 3) (by decide) ?_
    refine pt_iload_n (pc' := 77) C dX2_goThrough_76 rfl 3 rfl ?_
    refine pt_imul (pc' := 78) C dX2_goThrough_77 rfl ?_
    refine pt_cvV0 (pc' := 81) (w1 := wS cA aS (toSd n (3 * h) (adX n sd (tkCh sd wl ((itf (psX false k h sd wl kd sz lk) 1 (n - 1) (ciX false n k h fd (sc, ba, (fun _ => 0), (fun _ => 0)))).2.2.2) (n - 1) (k * h))) wl) (toSe n (3 * h) (adX n sd (tkCh sd wl ((itf (psX false k h sd wl kd sz lk) 1 (n - 1) (ciX false n k h fd (sc, ba, (fun _ => 0), (fun _ => 0)))).2.2.2) (n - 1) (k * h))) wl se) (tkSc sd wl ((itf (psX false k h sd wl kd sz lk) 1 (n - 1) (ciX false n k h fd (sc, ba, (fun _ => 0), (fun _ => 0)))).1) (n - 1) (k * h)) ((itf (psX false k h sd wl kd sz lk) 1 (n - 1) (ciX false n k h fd (sc, ba, (fun _ => 0), (fun _ => 0)))).2.1) (upd ((itf (psX false k h sd wl kd sz lk) 1 (n - 1) (ciX false n k h fd (sc, ba, (fun _ => 0), (fun _ => 0)))).2.2.1) n (tk sd wl (n - 1) (k * h))) (tkCh sd wl ((itf (psX false k h sd wl kd sz lk) 1 (n - 1) (ciX false n k h fd (sc, ba, (fun _ => 0), (fun _ => 0)))).2.2.2) (n - 1) (k * h)) ++ wB cA aB n k bs wl fd kd sz lk) (As := [.ref (aB 0), .int (3 * h)]) (rest := []) C (mX2_takeOutToSea l D cA aS (adX n sd (tkCh sd wl ((itf (psX false k h sd wl kd sz lk) 1 (n - 1) (ciX false n k h fd (sc, ba, (fun _ => 0), (fun _ => 0)))).2.2.2) (n - 1) (k * h))) se (tkSc sd wl ((itf (psX false k h sd wl kd sz lk) 1 (n - 1) (ciX false n k h fd (sc, ba, (fun _ => 0), (fun _ => 0)))).1) (n - 1) (k * h)) ((itf (psX false k h sd wl kd sz lk) 1 (n - 1) (ciX false n k h fd (sc, ba, (fun _ => 0), (fun _ => 0)))).2.1) (upd ((itf (psX false k h sd wl kd sz lk) 1 (n - 1) (ciX false n k h fd (sc, ba, (fun _ => 0), (fun _ => 0)))).2.2.1) n (tk sd wl (n - 1) (k * h))) (tkCh sd wl ((itf (psX false k h sd wl kd sz lk) 1 (n - 1) (ciX false n k h fd (sc, ba, (fun _ => 0), (fun _ => 0)))).2.2.2) (n - 1) (k * h)) aB n k bs wl fd kd sz lk (3 * h) (by first | assumption | omega)) (cwV 2 C.hts gX2_goThrough_X2_takeOutToSea rfl rfl rfl (by decide +kernel) ⟨Nat.le_of_ble_eq_true rfl, Nat.le_of_ble_eq_true rfl⟩) dX2_goThrough_78 rfl 0 rfl rfl rfl rfl rfl (Nat.le_of_ble_eq_true rfl) ⟨Nat.le_of_ble_eq_true rfl, Nat.le_of_ble_eq_true rfl⟩ ?_
    refine pt_goto (pc' := 94) C dX2_goThrough_81 (by decide) ?_
    exact pt_vret C hr hk dX2_goThrough_94 (by simp only [s2X, e2X, if_neg h_70] <;> rfl)

set_option maxHeartbeats 4000000 in
set_option maxRecDepth 100000 in
theorem cX2_goThrough_1 (l : Launch) (D : va_G) (cA : ClassId) (aS : Nat → Nat) (sd : Nat → Int32) (se : Nat → Int32) (sc : Nat → Int32) (ba : Nat → Int32) (pa : Nat → Int32) (ch : Nat → Int32) (aB : Nat → Nat) (n : Nat) (k : Int32) (bs : Nat → Int32) (wl : Nat → Int32) (fd : Nat → Int32) (kd : Nat → Int32) (sz : Nat → Int32) (lk : Nat → Int32) (h : Int32) (hn : 2 ≤ n) (hm : n ≤ 12) : mt_V l yX2_goThrough wsX2_goThrough { frames := 4, cells := 0, slots := 0, locals := 130 } D [(cA, .int)] [.ref (aS 0), .ref (aB 0), .int h, .int 1] (wS cA aS sd se sc ba pa ch ++ wB cA aB n k bs wl fd kd sz lk) (wS cA aS (s2X h n (adX n sd (paX true n k h sd wl fd kd sz lk (sc, ba, (fun _ => 0), (fun _ => 0))).2.2.2) wl se) (e2X h n (adX n sd (paX true n k h sd wl fd kd sz lk (sc, ba, (fun _ => 0), (fun _ => 0))).2.2.2) wl se) ((paX true n k h sd wl fd kd sz lk (sc, ba, (fun _ => 0), (fun _ => 0))).1) ((paX true n k h sd wl fd kd sz lk (sc, ba, (fun _ => 0), (fun _ => 0))).2.1) ((paX true n k h sd wl fd kd sz lk (sc, ba, (fun _ => 0), (fun _ => 0))).2.2.1) ((paX true n k h sd wl fd kd sz lk (sc, ba, (fun _ => 0), (fun _ => 0))).2.2.2) ++ wB cA aB n k bs wl fd kd sz lk) := by
  refine mt_ofV (cc := cX2_goThrough) (maxL := 5) (ret := none) (lv := [(0, .ref (aS 0)), (1, .ref (aB 0)), (2, .int h), (3, .int 1)]) (by decide) rfl (Nat.le_of_ble_eq_true rfl) rfl ?_
  intro p e s m args below meth c A C hr hk
  have f_24 := C.hts (.fieldLink RX2 24 "ShoreFields$Shore" "passedAt" "[I") (by decide +kernel)
  have in_2 : ∀ w ∈ u_ws RX2 TX2 6, w ∈ wsX2_goThrough := by decide +kernel
  have f_27 := C.hts (.fieldLink RX2 27 "ShoreFields$Shore" "changeOf" "[I") (by decide +kernel)
  have f_56 := C.hts (.fieldLink RX2 56 "ShoreFields$Begin" "fieldCount" "I") (by decide +kernel)
  have in_0 : ∀ w ∈ u_ws RX0 TX0 8, w ∈ wsX2_goThrough := by decide +kernel
  refine pt_aload_n (pc' := 1) C dX2_goThrough_0 rfl 0 rfl ?_
  refine pt_get (pc' := 4) C in_2 dX2_goThrough_1 rfl 0 4 rfl rfl (by decide) f_24 rfl ?_
  refine pt_iconst (pc' := 5) C dX2_goThrough_4 rfl (v := 0) (by decide) ?_
  refine pt_csV (pc' := 8) (ws' := wS cA aS sd se sc ba (fun _ => 0) ch ++ wB cA aB n k bs wl fd kd sz lk) (wr := pkN [0, 1, 2, 3, 4, 6] (wS cA aS sd se sc ba pa ch) ++ wB cA aB n k bs wl fd kd sz lk) (As := [.ref (aS 5), .int 0]) (rest := []) C (mJ7_fill_53178 l D cA (fun _ => aS 5) 13 pa 0 (by first | assumption | omega)) (va_cwS 2 C.hts gX2_goThrough_J7_fill_53178 rfl rfl rfl (by decide +kernel) ⟨Nat.le_of_ble_eq_true rfl, Nat.le_of_ble_eq_true rfl⟩) dX2_goThrough_5 rfl rfl rfl (Nat.le_of_ble_eq_true rfl) ⟨Nat.le_of_ble_eq_true rfl, Nat.le_of_ble_eq_true rfl⟩ [5] [0, 1, 2, 3, 4, 6, 7, 8, 9, 10, 11, 12, 13] [0, 1, 2, 3, 4, 13, 5, 6, 7, 8, 9, 10, 11, 12] rfl (by decide) rfl (by decide) (by decide) rfl (by decide) ?_
  refine pt_iload_n (pc' := 9) C dX2_goThrough_8 rfl 3 rfl ?_
  refine pt_iconst (pc' := 10) C dX2_goThrough_9 rfl (v := 2) (by decide) ?_
  refine pt_icmp_eq (pc' := 13) (tgt := 67) C dX2_goThrough_10 (by decide) rfl (fun h_10 => absurd h_10 (by decide)) (fun h_10 => ?_)
  refine pt_aload_n (pc' := 14) C dX2_goThrough_13 rfl 0 rfl ?_
  refine pt_get (pc' := 17) C in_2 dX2_goThrough_14 rfl 0 5 rfl rfl (by decide) f_27 rfl ?_
  refine pt_iconst (pc' := 18) C dX2_goThrough_17 rfl (v := 0) (by decide) ?_
  refine pt_csV (pc' := 21) (ws' := wS cA aS sd se sc ba (fun _ => 0) (fun _ => 0) ++ wB cA aB n k bs wl fd kd sz lk) (wr := pkN [0, 1, 2, 3, 4, 5] (wS cA aS sd se sc ba (fun _ => 0) ch) ++ wB cA aB n k bs wl fd kd sz lk) (As := [.ref (aS 6), .int 0]) (rest := []) C (mJ7_fill_53178 l D cA (fun _ => aS 6) 12 ch 0 (by first | assumption | omega)) (va_cwS 2 C.hts gX2_goThrough_J7_fill_53178 rfl rfl rfl (by decide +kernel) ⟨Nat.le_of_ble_eq_true rfl, Nat.le_of_ble_eq_true rfl⟩) dX2_goThrough_18 rfl rfl rfl (Nat.le_of_ble_eq_true rfl) ⟨Nat.le_of_ble_eq_true rfl, Nat.le_of_ble_eq_true rfl⟩ [6] [0, 1, 2, 3, 4, 5, 7, 8, 9, 10, 11, 12, 13] [0, 1, 2, 3, 4, 5, 13, 6, 7, 8, 9, 10, 11, 12] rfl (by decide) rfl (by decide) (by decide) rfl (by decide) ?_
  refine pt_aload_n (pc' := 22) C dX2_goThrough_21 rfl 0 rfl ?_
  refine pt_aload_n (pc' := 23) C dX2_goThrough_22 rfl 1 rfl ?_
  refine pt_iload_n (pc' := 24) C dX2_goThrough_23 rfl 2 rfl ?_
  refine pt_iload_n (pc' := 25) C dX2_goThrough_24 rfl 3 rfl ?_
  refine pt_cvV0 (pc' := 28) (w1 := wS cA aS sd se sc ba (upd (fun _ => 0) n (-fdU k h fd 1)) (upd (fun _ => 0) (n - 1) ((fun _ => 0) (n - 1) + fdU k h fd 1)) ++ wB cA aB n k bs wl fd kd sz lk) (As := [.ref (aB 0), .int h, .int 1]) (rest := []) C (cX2_comeIn_R l D cA aS sd se sc ba (fun _ => 0) (fun _ => 0) aB n k bs wl fd kd sz lk h (by first | assumption | omega) (by first | assumption | omega)) (cwV 3 C.hts gX2_goThrough_X2_comeInAtEnd rfl rfl rfl (by decide +kernel) ⟨Nat.le_of_ble_eq_true rfl, Nat.le_of_ble_eq_true rfl⟩) dX2_goThrough_25 rfl 0 rfl rfl rfl rfl rfl (Nat.le_of_ble_eq_true rfl) ⟨Nat.le_of_ble_eq_true rfl, Nat.le_of_ble_eq_true rfl⟩ ?_
  refine pt_iconst (pc' := 29) C dX2_goThrough_28 rfl (v := 1) (by decide) ?_
  refine pt_istore (pc' := 31) (lv' := [(4, .int 1), (0, .ref (aS 0)), (1, .ref (aB 0)), (2, .int h), (3, .int 1)]) C dX2_goThrough_29 rfl (by decide) rfl ?_
  refine pt_cv (ws' := wS cA aS sd se ((itf (psX true k h sd wl kd sz lk) 1 0 (ciX true n k h fd (sc, ba, (fun _ => 0), (fun _ => 0)))).1) ((itf (psX true k h sd wl kd sz lk) 1 0 (ciX true n k h fd (sc, ba, (fun _ => 0), (fun _ => 0)))).2.1) ((itf (psX true k h sd wl kd sz lk) 1 0 (ciX true n k h fd (sc, ba, (fun _ => 0), (fun _ => 0)))).2.2.1) ((itf (psX true k h sd wl kd sz lk) 1 0 (ciX true n k h fd (sc, ba, (fun _ => 0), (fun _ => 0)))).2.2.2) ++ wB cA aB n k bs wl fd kd sz lk) (lv' := [(4, .int (nI (1 + 0))), (0, .ref (aS 0)), (1, .ref (aB 0)), (2, .int h), (3, .int 1)]) (rfl) [0, 1, 2, 3, 4] (rfl) rfl ?_
  refine pt_for (wsf := fun j => wS cA aS sd se ((itf (psX true k h sd wl kd sz lk) 1 j (ciX true n k h fd (sc, ba, (fun _ => 0), (fun _ => 0)))).1) ((itf (psX true k h sd wl kd sz lk) 1 j (ciX true n k h fd (sc, ba, (fun _ => 0), (fun _ => 0)))).2.1) ((itf (psX true k h sd wl kd sz lk) 1 j (ciX true n k h fd (sc, ba, (fun _ => 0), (fun _ => 0)))).2.2.1) ((itf (psX true k h sd wl kd sz lk) 1 j (ciX true n k h fd (sc, ba, (fun _ => 0), (fun _ => 0)))).2.2.2) ++ wB cA aB n k bs wl fd kd sz lk) (lvf := fun j => [(4, .int (nI (1 + j))), (0, .ref (aS 0)), (1, .ref (aB 0)), (2, .int h), (3, .int 1)]) (n - 1) ?_ (fun j hj_31 ih_31 => ?_)
  rotate_left
  · refine pt_iload (pc' := 33) C dX2_goThrough_31 rfl 0 rfl ?_
    refine pt_aload_n (pc' := 34) C dX2_goThrough_33 rfl 2 rfl ?_
    refine pt_get (pc' := 37) C in_0 dX2_goThrough_34 rfl 7 0 rfl rfl (by decide) f_56 rfl ?_
    refine pt_icmp_ge (pc' := 40) (tgt := 55) C dX2_goThrough_37 (by decide) rfl (fun h_37 => absurd h_37 (nI_ge (show 1 + j < n by omega) (by omega))) (fun h_37 => ?_)
    refine pt_aload_n (pc' := 41) C dX2_goThrough_40 rfl 1 rfl ?_
    refine pt_aload_n (pc' := 42) C dX2_goThrough_41 rfl 2 rfl ?_
    refine pt_iload (pc' := 44) C dX2_goThrough_42 rfl 0 rfl ?_
    refine pt_iload_n (pc' := 45) C dX2_goThrough_44 rfl 3 rfl ?_
    refine pt_iload_n (pc' := 46) C dX2_goThrough_45 rfl 4 rfl ?_
    refine pt_cvV0 (pc' := 49) (w1 := wS cA aS sd se ((psX true k h sd wl kd sz lk (1 + j) (((itf (psX true k h sd wl kd sz lk) 1 j (ciX true n k h fd (sc, ba, (fun _ => 0), (fun _ => 0)))).1), ((itf (psX true k h sd wl kd sz lk) 1 j (ciX true n k h fd (sc, ba, (fun _ => 0), (fun _ => 0)))).2.1), ((itf (psX true k h sd wl kd sz lk) 1 j (ciX true n k h fd (sc, ba, (fun _ => 0), (fun _ => 0)))).2.2.1), ((itf (psX true k h sd wl kd sz lk) 1 j (ciX true n k h fd (sc, ba, (fun _ => 0), (fun _ => 0)))).2.2.2))).1) ((psX true k h sd wl kd sz lk (1 + j) (((itf (psX true k h sd wl kd sz lk) 1 j (ciX true n k h fd (sc, ba, (fun _ => 0), (fun _ => 0)))).1), ((itf (psX true k h sd wl kd sz lk) 1 j (ciX true n k h fd (sc, ba, (fun _ => 0), (fun _ => 0)))).2.1), ((itf (psX true k h sd wl kd sz lk) 1 j (ciX true n k h fd (sc, ba, (fun _ => 0), (fun _ => 0)))).2.2.1), ((itf (psX true k h sd wl kd sz lk) 1 j (ciX true n k h fd (sc, ba, (fun _ => 0), (fun _ => 0)))).2.2.2))).2.1) ((psX true k h sd wl kd sz lk (1 + j) (((itf (psX true k h sd wl kd sz lk) 1 j (ciX true n k h fd (sc, ba, (fun _ => 0), (fun _ => 0)))).1), ((itf (psX true k h sd wl kd sz lk) 1 j (ciX true n k h fd (sc, ba, (fun _ => 0), (fun _ => 0)))).2.1), ((itf (psX true k h sd wl kd sz lk) 1 j (ciX true n k h fd (sc, ba, (fun _ => 0), (fun _ => 0)))).2.2.1), ((itf (psX true k h sd wl kd sz lk) 1 j (ciX true n k h fd (sc, ba, (fun _ => 0), (fun _ => 0)))).2.2.2))).2.2.1) ((psX true k h sd wl kd sz lk (1 + j) (((itf (psX true k h sd wl kd sz lk) 1 j (ciX true n k h fd (sc, ba, (fun _ => 0), (fun _ => 0)))).1), ((itf (psX true k h sd wl kd sz lk) 1 j (ciX true n k h fd (sc, ba, (fun _ => 0), (fun _ => 0)))).2.1), ((itf (psX true k h sd wl kd sz lk) 1 j (ciX true n k h fd (sc, ba, (fun _ => 0), (fun _ => 0)))).2.2.1), ((itf (psX true k h sd wl kd sz lk) 1 j (ciX true n k h fd (sc, ba, (fun _ => 0), (fun _ => 0)))).2.2.2))).2.2.2) ++ wB cA aB n k bs wl fd kd sz lk) (As := [.ref (aB 0), .int (nI (1 + j)), .int h, .int 1]) (rest := []) C (cX2_passAt_R l D cA aS sd se ((itf (psX true k h sd wl kd sz lk) 1 j (ciX true n k h fd (sc, ba, (fun _ => 0), (fun _ => 0)))).1) ((itf (psX true k h sd wl kd sz lk) 1 j (ciX true n k h fd (sc, ba, (fun _ => 0), (fun _ => 0)))).2.1) ((itf (psX true k h sd wl kd sz lk) 1 j (ciX true n k h fd (sc, ba, (fun _ => 0), (fun _ => 0)))).2.2.1) ((itf (psX true k h sd wl kd sz lk) 1 j (ciX true n k h fd (sc, ba, (fun _ => 0), (fun _ => 0)))).2.2.2) aB n k bs wl fd kd sz lk (1 + j) h (by first | assumption | omega) (by first | assumption | omega) (by first | assumption | omega)) (cwV 4 C.hts gX2_goThrough_X2_passAt rfl rfl rfl (by decide +kernel) ⟨Nat.le_of_ble_eq_true rfl, Nat.le_of_ble_eq_true rfl⟩) dX2_goThrough_46 rfl 0 rfl rfl rfl rfl rfl (Nat.le_of_ble_eq_true rfl) ⟨Nat.le_of_ble_eq_true rfl, Nat.le_of_ble_eq_true rfl⟩ ?_
    refine pt_iinc (pc' := 52) (v := nI (1 + (j + 1))) (lv' := [(4, .int (nI (1 + (j + 1)))), (0, .ref (aS 0)), (1, .ref (aB 0)), (2, .int h), (3, .int 1)]) C dX2_goThrough_49 rfl 0 rfl (nI_1 _) (by decide) rfl ?_
    refine pt_goto (pc' := 31) C dX2_goThrough_52 (by decide) ?_
    exact pt_cv (rfl) [0, 1, 2, 3, 4] (rfl) rfl ih_31
  refine pt_iload (pc' := 33) C dX2_goThrough_31 rfl 0 rfl ?_
  refine pt_aload_n (pc' := 34) C dX2_goThrough_33 rfl 2 rfl ?_
  refine pt_get (pc' := 37) C in_0 dX2_goThrough_34 rfl 7 0 rfl rfl (by decide) f_56 rfl ?_
  refine pt_icmp_ge (pc' := 40) (tgt := 55) C dX2_goThrough_37 (by decide) rfl (fun h_37 => ?_) (fun h_37 => absurd (nI_le (show n ≤ 1 + (n - 1) by omega) (by omega)) h_37)
  refine pt_aload_n (pc' := 56) C dX2_goThrough_55 rfl 1 rfl ?_
  refine pt_aload_n (pc' := 57) C dX2_goThrough_56 rfl 2 rfl ?_
  refine pt_iload_n (pc' := 58) C dX2_goThrough_57 rfl 3 rfl ?_
  refine pt_iload_n (pc' := 59) C dX2_goThrough_58 rfl 4 rfl ?_
  refine pt_cvV0 (pc' := 62) (w1 := wS cA aS sd se (tkSc sd wl ((itf (psX true k h sd wl kd sz lk) 1 (n - 1) (ciX true n k h fd (sc, ba, (fun _ => 0), (fun _ => 0)))).1) 0 (k * h)) ((itf (psX true k h sd wl kd sz lk) 1 (n - 1) (ciX true n k h fd (sc, ba, (fun _ => 0), (fun _ => 0)))).2.1) (upd ((itf (psX true k h sd wl kd sz lk) 1 (n - 1) (ciX true n k h fd (sc, ba, (fun _ => 0), (fun _ => 0)))).2.2.1) 0 (-tk sd wl 0 (k * h))) (tkCh sd wl ((itf (psX true k h sd wl kd sz lk) 1 (n - 1) (ciX true n k h fd (sc, ba, (fun _ => 0), (fun _ => 0)))).2.2.2) 0 (k * h)) ++ wB cA aB n k bs wl fd kd sz lk) (As := [.ref (aB 0), .int h, .int 1]) (rest := []) C (cX2_goOut_R l D cA aS sd se ((itf (psX true k h sd wl kd sz lk) 1 (n - 1) (ciX true n k h fd (sc, ba, (fun _ => 0), (fun _ => 0)))).1) ((itf (psX true k h sd wl kd sz lk) 1 (n - 1) (ciX true n k h fd (sc, ba, (fun _ => 0), (fun _ => 0)))).2.1) ((itf (psX true k h sd wl kd sz lk) 1 (n - 1) (ciX true n k h fd (sc, ba, (fun _ => 0), (fun _ => 0)))).2.2.1) ((itf (psX true k h sd wl kd sz lk) 1 (n - 1) (ciX true n k h fd (sc, ba, (fun _ => 0), (fun _ => 0)))).2.2.2) aB n k bs wl fd kd sz lk h (by first | assumption | omega) (by first | assumption | omega)) (cwV 3 C.hts gX2_goThrough_X2_goOutAtEnd rfl rfl rfl (by decide +kernel) ⟨Nat.le_of_ble_eq_true rfl, Nat.le_of_ble_eq_true rfl⟩) dX2_goThrough_59 rfl 0 rfl rfl rfl rfl rfl (Nat.le_of_ble_eq_true rfl) ⟨Nat.le_of_ble_eq_true rfl, Nat.le_of_ble_eq_true rfl⟩ ?_
  refine pt_aload_n (pc' := 63) C dX2_goThrough_62 rfl 1 rfl ?_
  refine pt_aload_n (pc' := 64) C dX2_goThrough_63 rfl 2 rfl ?_
  refine pt_cvV0 (pc' := 67) (w1 := wS cA aS (adX n sd (tkCh sd wl ((itf (psX true k h sd wl kd sz lk) 1 (n - 1) (ciX true n k h fd (sc, ba, (fun _ => 0), (fun _ => 0)))).2.2.2) 0 (k * h))) se (tkSc sd wl ((itf (psX true k h sd wl kd sz lk) 1 (n - 1) (ciX true n k h fd (sc, ba, (fun _ => 0), (fun _ => 0)))).1) 0 (k * h)) ((itf (psX true k h sd wl kd sz lk) 1 (n - 1) (ciX true n k h fd (sc, ba, (fun _ => 0), (fun _ => 0)))).2.1) (upd ((itf (psX true k h sd wl kd sz lk) 1 (n - 1) (ciX true n k h fd (sc, ba, (fun _ => 0), (fun _ => 0)))).2.2.1) 0 (-tk sd wl 0 (k * h))) (tkCh sd wl ((itf (psX true k h sd wl kd sz lk) 1 (n - 1) (ciX true n k h fd (sc, ba, (fun _ => 0), (fun _ => 0)))).2.2.2) 0 (k * h)) ++ wB cA aB n k bs wl fd kd sz lk) (As := [.ref (aB 0)]) (rest := []) C (mX2_addChanges l D cA aS sd se (tkSc sd wl ((itf (psX true k h sd wl kd sz lk) 1 (n - 1) (ciX true n k h fd (sc, ba, (fun _ => 0), (fun _ => 0)))).1) 0 (k * h)) ((itf (psX true k h sd wl kd sz lk) 1 (n - 1) (ciX true n k h fd (sc, ba, (fun _ => 0), (fun _ => 0)))).2.1) (upd ((itf (psX true k h sd wl kd sz lk) 1 (n - 1) (ciX true n k h fd (sc, ba, (fun _ => 0), (fun _ => 0)))).2.2.1) 0 (-tk sd wl 0 (k * h))) (tkCh sd wl ((itf (psX true k h sd wl kd sz lk) 1 (n - 1) (ciX true n k h fd (sc, ba, (fun _ => 0), (fun _ => 0)))).2.2.2) 0 (k * h)) aB n k bs wl fd kd sz lk (by first | assumption | omega)) (cwV 1 C.hts gX2_goThrough_X2_addChanges rfl rfl rfl (by decide +kernel) ⟨Nat.le_of_ble_eq_true rfl, Nat.le_of_ble_eq_true rfl⟩) dX2_goThrough_64 rfl 0 rfl rfl rfl rfl rfl (Nat.le_of_ble_eq_true rfl) ⟨Nat.le_of_ble_eq_true rfl, Nat.le_of_ble_eq_true rfl⟩ ?_
  refine pt_iload_n (pc' := 68) C dX2_goThrough_67 rfl 3 rfl ?_
  refine pt_bipush (pc' := 70) C dX2_goThrough_68 rfl (v := 7) (by decide) ?_
  refine pt_icmp_lt (pc' := 73) (tgt := 84) C dX2_goThrough_70 (by decide) rfl (fun h_70 => ?_) (fun h_70 => ?_)
  · refine pt_iload_n (pc' := 85) C dX2_goThrough_84 rfl 3 rfl ?_
    refine pt_iconst (pc' := 86) C dX2_goThrough_85 rfl (v := 2) (by decide) ?_
    refine pt_icmp_gt (pc' := 89) (tgt := 94) C dX2_goThrough_86 (by decide) rfl (fun h_86 => ?_) (fun h_86 => ?_)
    · exact pt_vret C hr hk dX2_goThrough_94 (by simp only [s2X, e2X, if_pos h_70, if_pos h_86] <;> rfl)
    · refine pt_aload_n (pc' := 90) C dX2_goThrough_89 rfl 1 rfl ?_
      refine pt_aload_n (pc' := 91) C dX2_goThrough_90 rfl 2 rfl ?_
      refine pt_cvV0 (pc' := 94) (w1 := wS cA aS (bkSd n (adX n sd (tkCh sd wl ((itf (psX true k h sd wl kd sz lk) 1 (n - 1) (ciX true n k h fd (sc, ba, (fun _ => 0), (fun _ => 0)))).2.2.2) 0 (k * h))) se) (bkSe n se) (tkSc sd wl ((itf (psX true k h sd wl kd sz lk) 1 (n - 1) (ciX true n k h fd (sc, ba, (fun _ => 0), (fun _ => 0)))).1) 0 (k * h)) ((itf (psX true k h sd wl kd sz lk) 1 (n - 1) (ciX true n k h fd (sc, ba, (fun _ => 0), (fun _ => 0)))).2.1) (upd ((itf (psX true k h sd wl kd sz lk) 1 (n - 1) (ciX true n k h fd (sc, ba, (fun _ => 0), (fun _ => 0)))).2.2.1) 0 (-tk sd wl 0 (k * h))) (tkCh sd wl ((itf (psX true k h sd wl kd sz lk) 1 (n - 1) (ciX true n k h fd (sc, ba, (fun _ => 0), (fun _ => 0)))).2.2.2) 0 (k * h)) ++ wB cA aB n k bs wl fd kd sz lk) (As := [.ref (aB 0)]) (rest := []) C (mX2_bringBackFromSea l D cA aS (adX n sd (tkCh sd wl ((itf (psX true k h sd wl kd sz lk) 1 (n - 1) (ciX true n k h fd (sc, ba, (fun _ => 0), (fun _ => 0)))).2.2.2) 0 (k * h))) se (tkSc sd wl ((itf (psX true k h sd wl kd sz lk) 1 (n - 1) (ciX true n k h fd (sc, ba, (fun _ => 0), (fun _ => 0)))).1) 0 (k * h)) ((itf (psX true k h sd wl kd sz lk) 1 (n - 1) (ciX true n k h fd (sc, ba, (fun _ => 0), (fun _ => 0)))).2.1) (upd ((itf (psX true k h sd wl kd sz lk) 1 (n - 1) (ciX true n k h fd (sc, ba, (fun _ => 0), (fun _ => 0)))).2.2.1) 0 (-tk sd wl 0 (k * h))) (tkCh sd wl ((itf (psX true k h sd wl kd sz lk) 1 (n - 1) (ciX true n k h fd (sc, ba, (fun _ => 0), (fun _ => 0)))).2.2.2) 0 (k * h)) aB n k bs wl fd kd sz lk (by first | assumption | omega)) (cwV 1 C.hts gX2_goThrough_X2_bringBackFromSea rfl rfl rfl (by decide +kernel) ⟨Nat.le_of_ble_eq_true rfl, Nat.le_of_ble_eq_true rfl⟩) dX2_goThrough_91 rfl 0 rfl rfl rfl rfl rfl (Nat.le_of_ble_eq_true rfl) ⟨Nat.le_of_ble_eq_true rfl, Nat.le_of_ble_eq_true rfl⟩ ?_
      exact pt_vret C hr hk dX2_goThrough_94 (by simp only [s2X, e2X, if_pos h_70, if_neg h_86] <;> rfl)
  · refine pt_aload_n (pc' := 74) C dX2_goThrough_73 rfl 1 rfl ?_
    refine pt_aload_n (pc' := 75) C dX2_goThrough_74 rfl 2 rfl ?_
    refine pt_iconst (pc' := 76) C dX2_goThrough_75 rfl (v := 3) (by decide) ?_
    refine pt_iload_n (pc' := 77) C dX2_goThrough_76 rfl 3 rfl ?_
    refine pt_imul (pc' := 78) C dX2_goThrough_77 rfl ?_
    refine pt_cvV0 (pc' := 81) (w1 := wS cA aS (toSd n (3 * h) (adX n sd (tkCh sd wl ((itf (psX true k h sd wl kd sz lk) 1 (n - 1) (ciX true n k h fd (sc, ba, (fun _ => 0), (fun _ => 0)))).2.2.2) 0 (k * h))) wl) (toSe n (3 * h) (adX n sd (tkCh sd wl ((itf (psX true k h sd wl kd sz lk) 1 (n - 1) (ciX true n k h fd (sc, ba, (fun _ => 0), (fun _ => 0)))).2.2.2) 0 (k * h))) wl se) (tkSc sd wl ((itf (psX true k h sd wl kd sz lk) 1 (n - 1) (ciX true n k h fd (sc, ba, (fun _ => 0), (fun _ => 0)))).1) 0 (k * h)) ((itf (psX true k h sd wl kd sz lk) 1 (n - 1) (ciX true n k h fd (sc, ba, (fun _ => 0), (fun _ => 0)))).2.1) (upd ((itf (psX true k h sd wl kd sz lk) 1 (n - 1) (ciX true n k h fd (sc, ba, (fun _ => 0), (fun _ => 0)))).2.2.1) 0 (-tk sd wl 0 (k * h))) (tkCh sd wl ((itf (psX true k h sd wl kd sz lk) 1 (n - 1) (ciX true n k h fd (sc, ba, (fun _ => 0), (fun _ => 0)))).2.2.2) 0 (k * h)) ++ wB cA aB n k bs wl fd kd sz lk) (As := [.ref (aB 0), .int (3 * h)]) (rest := []) C (mX2_takeOutToSea l D cA aS (adX n sd (tkCh sd wl ((itf (psX true k h sd wl kd sz lk) 1 (n - 1) (ciX true n k h fd (sc, ba, (fun _ => 0), (fun _ => 0)))).2.2.2) 0 (k * h))) se (tkSc sd wl ((itf (psX true k h sd wl kd sz lk) 1 (n - 1) (ciX true n k h fd (sc, ba, (fun _ => 0), (fun _ => 0)))).1) 0 (k * h)) ((itf (psX true k h sd wl kd sz lk) 1 (n - 1) (ciX true n k h fd (sc, ba, (fun _ => 0), (fun _ => 0)))).2.1) (upd ((itf (psX true k h sd wl kd sz lk) 1 (n - 1) (ciX true n k h fd (sc, ba, (fun _ => 0), (fun _ => 0)))).2.2.1) 0 (-tk sd wl 0 (k * h))) (tkCh sd wl ((itf (psX true k h sd wl kd sz lk) 1 (n - 1) (ciX true n k h fd (sc, ba, (fun _ => 0), (fun _ => 0)))).2.2.2) 0 (k * h)) aB n k bs wl fd kd sz lk (3 * h) (by first | assumption | omega)) (cwV 2 C.hts gX2_goThrough_X2_takeOutToSea rfl rfl rfl (by decide +kernel) ⟨Nat.le_of_ble_eq_true rfl, Nat.le_of_ble_eq_true rfl⟩) dX2_goThrough_78 rfl 0 rfl rfl rfl rfl rfl (Nat.le_of_ble_eq_true rfl) ⟨Nat.le_of_ble_eq_true rfl, Nat.le_of_ble_eq_true rfl⟩ ?_
    refine pt_goto (pc' := 94) C dX2_goThrough_81 (by decide) ?_
    exact pt_vret C hr hk dX2_goThrough_94 (by simp only [s2X, e2X, if_neg h_70] <;> rfl)

set_option maxHeartbeats 4000000 in
set_option maxRecDepth 100000 in
theorem cX2_goThrough_2 (l : Launch) (D : va_G) (cA : ClassId) (aS : Nat → Nat) (sd : Nat → Int32) (se : Nat → Int32) (sc : Nat → Int32) (ba : Nat → Int32) (pa : Nat → Int32) (ch : Nat → Int32) (aB : Nat → Nat) (n : Nat) (k : Int32) (bs : Nat → Int32) (wl : Nat → Int32) (fd : Nat → Int32) (kd : Nat → Int32) (sz : Nat → Int32) (lk : Nat → Int32) (h : Int32) (hn : 2 ≤ n) (hm : n ≤ 12) : mt_V l yX2_goThrough wsX2_goThrough { frames := 4, cells := 0, slots := 0, locals := 130 } D [(cA, .int)] [.ref (aS 0), .ref (aB 0), .int h, .int 2] (wS cA aS sd se sc ba pa ch ++ wB cA aB n k bs wl fd kd sz lk) (wS cA aS (s2X h n sd wl se) (e2X h n sd wl se) sc ba (fun _ => 0) ch ++ wB cA aB n k bs wl fd kd sz lk) := by
  refine mt_ofV (cc := cX2_goThrough) (maxL := 5) (ret := none) (lv := [(0, .ref (aS 0)), (1, .ref (aB 0)), (2, .int h), (3, .int 2)]) (by decide) rfl (Nat.le_of_ble_eq_true rfl) rfl ?_
  intro p e s m args below meth c A C hr hk
  have f_24 := C.hts (.fieldLink RX2 24 "ShoreFields$Shore" "passedAt" "[I") (by decide +kernel)
  have in_2 : ∀ w ∈ u_ws RX2 TX2 6, w ∈ wsX2_goThrough := by decide +kernel
  refine pt_aload_n (pc' := 1) C dX2_goThrough_0 rfl 0 rfl ?_
  refine pt_get (pc' := 4) C in_2 dX2_goThrough_1 rfl 0 4 rfl rfl (by decide) f_24 rfl ?_
  refine pt_iconst (pc' := 5) C dX2_goThrough_4 rfl (v := 0) (by decide) ?_
  refine pt_csV (pc' := 8) (ws' := wS cA aS sd se sc ba (fun _ => 0) ch ++ wB cA aB n k bs wl fd kd sz lk) (wr := pkN [0, 1, 2, 3, 4, 6] (wS cA aS sd se sc ba pa ch) ++ wB cA aB n k bs wl fd kd sz lk) (As := [.ref (aS 5), .int 0]) (rest := []) C (mJ7_fill_53178 l D cA (fun _ => aS 5) 13 pa 0 (by first | assumption | omega)) (va_cwS 2 C.hts gX2_goThrough_J7_fill_53178 rfl rfl rfl (by decide +kernel) ⟨Nat.le_of_ble_eq_true rfl, Nat.le_of_ble_eq_true rfl⟩) dX2_goThrough_5 rfl rfl rfl (Nat.le_of_ble_eq_true rfl) ⟨Nat.le_of_ble_eq_true rfl, Nat.le_of_ble_eq_true rfl⟩ [5] [0, 1, 2, 3, 4, 6, 7, 8, 9, 10, 11, 12, 13] [0, 1, 2, 3, 4, 13, 5, 6, 7, 8, 9, 10, 11, 12] rfl (by decide) rfl (by decide) (by decide) rfl (by decide) ?_
  refine pt_iload_n (pc' := 9) C dX2_goThrough_8 rfl 3 rfl ?_
  refine pt_iconst (pc' := 10) C dX2_goThrough_9 rfl (v := 2) (by decide) ?_
  refine pt_icmp_eq (pc' := 13) (tgt := 67) C dX2_goThrough_10 (by decide) rfl (fun h_10 => ?_) (fun h_10 => absurd (by decide) h_10)
  refine pt_iload_n (pc' := 68) C dX2_goThrough_67 rfl 2 rfl ?_
  refine pt_bipush (pc' := 70) C dX2_goThrough_68 rfl (v := 7) (by decide) ?_
  refine pt_icmp_lt (pc' := 73) (tgt := 84) C dX2_goThrough_70 (by decide) rfl (fun h_70 => ?_) (fun h_70 => ?_)
  · refine pt_iload_n (pc' := 85) C dX2_goThrough_84 rfl 2 rfl ?_
    refine pt_iconst (pc' := 86) C dX2_goThrough_85 rfl (v := 2) (by decide) ?_
    refine pt_icmp_gt (pc' := 89) (tgt := 94) C dX2_goThrough_86 (by decide) rfl (fun h_86 => ?_) (fun h_86 => ?_)
    · exact pt_vret C hr hk dX2_goThrough_94 (by simp only [s2X, e2X, if_pos h_70, if_pos h_86] <;> rfl)
    · refine pt_aload_n (pc' := 90) C dX2_goThrough_89 rfl 0 rfl ?_
      refine pt_aload_n (pc' := 91) C dX2_goThrough_90 rfl 1 rfl ?_
      refine pt_cvV0 (pc' := 94) (w1 := wS cA aS (bkSd n sd se) (bkSe n se) sc ba (fun _ => 0) ch ++ wB cA aB n k bs wl fd kd sz lk) (As := [.ref (aB 0)]) (rest := []) C (mX2_bringBackFromSea l D cA aS sd se sc ba (fun _ => 0) ch aB n k bs wl fd kd sz lk (by first | assumption | omega)) (cwV 1 C.hts gX2_goThrough_X2_bringBackFromSea rfl rfl rfl (by decide +kernel) ⟨Nat.le_of_ble_eq_true rfl, Nat.le_of_ble_eq_true rfl⟩) dX2_goThrough_91 rfl 0 rfl rfl rfl rfl rfl (Nat.le_of_ble_eq_true rfl) ⟨Nat.le_of_ble_eq_true rfl, Nat.le_of_ble_eq_true rfl⟩ ?_
      exact pt_vret C hr hk dX2_goThrough_94 (by simp only [s2X, e2X, if_pos h_70, if_neg h_86] <;> rfl)
  · refine pt_aload_n (pc' := 74) C dX2_goThrough_73 rfl 0 rfl ?_
    refine pt_aload_n (pc' := 75) C dX2_goThrough_74 rfl 1 rfl ?_
    refine pt_iconst (pc' := 76) C dX2_goThrough_75 rfl (v := 3) (by decide) ?_
    refine pt_iload_n (pc' := 77) C dX2_goThrough_76 rfl 2 rfl ?_
    refine pt_imul (pc' := 78) C dX2_goThrough_77 rfl ?_
    refine pt_cvV0 (pc' := 81) (w1 := wS cA aS (toSd n (3 * h) sd wl) (toSe n (3 * h) sd wl se) sc ba (fun _ => 0) ch ++ wB cA aB n k bs wl fd kd sz lk) (As := [.ref (aB 0), .int (3 * h)]) (rest := []) C (mX2_takeOutToSea l D cA aS sd se sc ba (fun _ => 0) ch aB n k bs wl fd kd sz lk (3 * h) (by first | assumption | omega)) (cwV 2 C.hts gX2_goThrough_X2_takeOutToSea rfl rfl rfl (by decide +kernel) ⟨Nat.le_of_ble_eq_true rfl, Nat.le_of_ble_eq_true rfl⟩) dX2_goThrough_78 rfl 0 rfl rfl rfl rfl rfl (Nat.le_of_ble_eq_true rfl) ⟨Nat.le_of_ble_eq_true rfl, Nat.le_of_ble_eq_true rfl⟩ ?_
    refine pt_goto (pc' := 94) C dX2_goThrough_81 (by decide) ?_
    exact pt_vret C hr hk dX2_goThrough_94 (by simp only [s2X, e2X, if_neg h_70] <;> rfl)
