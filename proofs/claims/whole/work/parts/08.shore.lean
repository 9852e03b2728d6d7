set_option maxHeartbeats 4000000 in
set_option maxRecDepth 100000 in
theorem mX2_lineOf (l : Launch) (D : va_G) (cA : ClassId) (aS : Nat → Nat) (sd : Nat → Int32) (se : Nat → Int32) (sc : Nat → Int32) (ba : Nat → Int32) (pa : Nat → Int32) (ch : Nat → Int32) (f : Nat) (hf : f < 12) : mt_I l yX2_lineOf wsX2_lineOf { frames := 0, cells := 0, slots := 0, locals := 0 } D [(cA, .int)] [.ref (aS 0), .int (nI f)] (wS cA aS sd se sc ba pa ch) (ln sd f) (wS cA aS sd se sc ba pa ch) := by
  refine mt_ofI (cc := cX2_lineOf) (maxL := 2) (ret := (some .int)) (lv := [(0, .ref (aS 0)), (1, .int (nI f))]) (by decide) rfl (Nat.le_of_ble_eq_true rfl) rfl ?_
  intro p e s m args below meth c A C hr hk
  have f_9 := C.hts (.fieldLink RX2 9 "ShoreFields$Shore" "sandOf" "[I") (by decide +kernel)
  have in_2 : ∀ w ∈ u_ws RX2 TX2 6, w ∈ wsX2_lineOf := by decide +kernel
  refine pt_aload_n (pc' := 1) C dX2_lineOf_0 rfl 0 rfl ?_
  refine pt_get (pc' := 4) C in_2 dX2_lineOf_1 rfl 0 0 rfl rfl (by decide) f_9 rfl ?_
  refine pt_iload_n (pc' := 5) C dX2_lineOf_4 rfl 1 rfl ?_
  refine pt_iald (pc' := 6) C dX2_lineOf_5 rfl 1 rfl rfl f (rfl) (by omega) (by decide) ?_
  refine pt_bipush (pc' := 8) C dX2_lineOf_6 rfl (v := 10) (by decide) ?_
  refine pt_idiv (pc' := 9) C dX2_lineOf_8 rfl (by decide) ?_
  exact pt_iret C hr hk dX2_lineOf_9 (rfl) (rfl) (rfl)

set_option maxHeartbeats 4000000 in
set_option maxRecDepth 100000 in
theorem mX2_slope (l : Launch) (D : va_G) (cA : ClassId) (aS : Nat → Nat) (sd : Nat → Int32) (se : Nat → Int32) (sc : Nat → Int32) (ba : Nat → Int32) (pa : Nat → Int32) (ch : Nat → Int32) (u : Nat) (d : Nat) (hu : u < 12) (hd : d < 12) : mt_I l yX2_slope wsX2_slope { frames := 1, cells := 0, slots := 0, locals := 21 } D [(cA, .int)] [.ref (aS 0), .int (nI u), .int (nI d)] (wS cA aS sd se sc ba pa ch) (slp sd u d) (wS cA aS sd se sc ba pa ch) := by
  refine mt_ofI (cc := cX2_slope) (maxL := 4) (ret := (some .int)) (lv := [(0, .ref (aS 0)), (1, .int (nI u)), (2, .int (nI d))]) (by decide) rfl (Nat.le_of_ble_eq_true rfl) rfl ?_
  intro p e s m args below meth c A C hr hk
  have m_45 := C.hts (.methodLink RX2 45 Lib.Math.min.name) (by decide +kernel)
  have ms_mmin := C.hts (.static Lib.Math.min.name) (by decide +kernel)
  have mi_math := C.hts (.initialized "java/lang/Math") (by decide +kernel)
  have mc_mmin := C.hts (.code Lib.Math.min.name Lib.Math.min.code 2 (some .int)) (by decide +kernel)
  have m_91 := C.hts (.methodLink RX2 91 Lib.Math.max.name) (by decide +kernel)
  have ms_mmax := C.hts (.static Lib.Math.max.name) (by decide +kernel)
  have mc_mmax := C.hts (.code Lib.Math.max.name Lib.Math.max.code 2 (some .int)) (by decide +kernel)
  refine pt_aload_n (pc' := 1) C dX2_slope_0 rfl 0 rfl ?_
  refine pt_iload_n (pc' := 2) C dX2_slope_1 rfl 1 rfl ?_
  refine pt_cvI0 (pc' := 5) (w1 := wS cA aS sd se sc ba pa ch) (As := [.int (nI u)]) (rest := []) C (mX2_lineOf l D cA aS sd se sc ba pa ch u (by first | assumption | omega)) (cwV 1 C.hts gX2_slope_X2_lineOf rfl rfl rfl (by decide +kernel) ⟨Nat.le_of_ble_eq_true rfl, Nat.le_of_ble_eq_true rfl⟩) dX2_slope_2 rfl 0 rfl rfl rfl rfl rfl (Nat.le_of_ble_eq_true rfl) ⟨Nat.le_of_ble_eq_true rfl, Nat.le_of_ble_eq_true rfl⟩ ?_
  refine pt_aload_n (pc' := 6) C dX2_slope_5 rfl 0 rfl ?_
  refine pt_iload_n (pc' := 7) C dX2_slope_6 rfl 2 rfl ?_
  refine pt_cvI0 (pc' := 10) (w1 := wS cA aS sd se sc ba pa ch) (As := [.int (nI d)]) (rest := [.int (ln sd u)]) C (mX2_lineOf l D cA aS sd se sc ba pa ch d (by first | assumption | omega)) (cwV 1 C.hts gX2_slope_X2_lineOf rfl rfl rfl (by decide +kernel) ⟨Nat.le_of_ble_eq_true rfl, Nat.le_of_ble_eq_true rfl⟩) dX2_slope_7 rfl 0 rfl rfl rfl rfl rfl (Nat.le_of_ble_eq_true rfl) ⟨Nat.le_of_ble_eq_true rfl, Nat.le_of_ble_eq_true rfl⟩ ?_
  refine pt_isub (pc' := 11) C dX2_slope_10 rfl ?_
  refine pt_istore_n (pc' := 12) (lv' := [(3, .int ((ln sd u) - (ln sd d))), (0, .ref (aS 0)), (1, .int (nI u)), (2, .int (nI d))]) C dX2_slope_11 rfl rfl (by decide) rfl ?_
  refine pt_bipush (pc' := 14) C dX2_slope_12 rfl (v := -9) (by decide) ?_
  refine pt_iload_n (pc' := 15) C dX2_slope_14 rfl 0 rfl ?_
  refine pt_bipush (pc' := 17) C dX2_slope_15 rfl (v := 9) (by decide) ?_
  refine pt_mmin (pc' := 20) C dX2_slope_17 rfl m_45 ms_mmin mi_math mc_mmin (Nat.le_of_ble_eq_true rfl) (Nat.le_of_ble_eq_true rfl) (Nat.le_of_ble_eq_true rfl) (Nat.le_of_ble_eq_true rfl) ?_
  refine pt_mmax (pc' := 23) C dX2_slope_20 rfl m_91 ms_mmax mi_math mc_mmax (Nat.le_of_ble_eq_true rfl) (Nat.le_of_ble_eq_true rfl) (Nat.le_of_ble_eq_true rfl) (Nat.le_of_ble_eq_true rfl) ?_
  exact pt_iret C hr hk dX2_slope_23 (rfl) (rfl) (rfl)

set_option maxHeartbeats 4000000 in
set_option maxRecDepth 100000 in
theorem mX2_freeSandOf (l : Launch) (D : va_G) (cA : ClassId) (aS : Nat → Nat) (sd : Nat → Int32) (se : Nat → Int32) (sc : Nat → Int32) (ba : Nat → Int32) (pa : Nat → Int32) (ch : Nat → Int32) (aB : Nat → Nat) (n : Nat) (k : Int32) (bs : Nat → Int32) (wl : Nat → Int32) (fd : Nat → Int32) (kd : Nat → Int32) (sz : Nat → Int32) (lk : Nat → Int32) (f : Nat) (hf : f < 12) : mt_I l yX2_freeSandOf wsX2_freeSandOf { frames := 0, cells := 0, slots := 0, locals := 0 } D [(cA, .int)] [.ref (aS 0), .ref (aB 0), .int (nI f)] (wS cA aS sd se sc ba pa ch ++ wB cA aB n k bs wl fd kd sz lk) (fre sd wl f) (wS cA aS sd se sc ba pa ch ++ wB cA aB n k bs wl fd kd sz lk) := by
  refine mt_ofI (cc := cX2_freeSandOf) (maxL := 4) (ret := (some .int)) (lv := [(0, .ref (aS 0)), (1, .ref (aB 0)), (2, .int (nI f))]) (by decide) rfl (Nat.le_of_ble_eq_true rfl) rfl ?_
  intro p e s m args below meth c A C hr hk
  have f_9 := C.hts (.fieldLink RX2 9 "ShoreFields$Shore" "sandOf" "[I") (by decide +kernel)
  have in_2 : ∀ w ∈ u_ws RX2 TX2 6, w ∈ wsX2_freeSandOf := by decide +kernel
  have f_111 := C.hts (.fieldLink RX2 111 "ShoreFields$Begin" "wallOf" "[I") (by decide +kernel)
  have in_0 : ∀ w ∈ u_ws RX0 TX0 8, w ∈ wsX2_freeSandOf := by decide +kernel
  refine pt_aload_n (pc' := 1) C dX2_freeSandOf_0 rfl 0 rfl ?_
  refine pt_get (pc' := 4) C in_2 dX2_freeSandOf_1 rfl 0 0 rfl rfl (by decide) f_9 rfl ?_
  refine pt_iload_n (pc' := 5) C dX2_freeSandOf_4 rfl 2 rfl ?_
  refine pt_iald (pc' := 6) C dX2_freeSandOf_5 rfl 1 rfl rfl f (rfl) (by omega) (by decide) ?_
  refine pt_bipush (pc' := 8) C dX2_freeSandOf_6 rfl (v := 10) (by decide) ?_
  refine pt_aload_n (pc' := 9) C dX2_freeSandOf_8 rfl 1 rfl ?_
  refine pt_get (pc' := 12) C in_0 dX2_freeSandOf_9 rfl 7 3 rfl rfl (by decide) f_111 rfl ?_
  refine pt_iload_n (pc' := 13) C dX2_freeSandOf_12 rfl 2 rfl ?_
  refine pt_iald (pc' := 14) C dX2_freeSandOf_13 rfl 9 rfl rfl f (rfl) (by omega) (by decide) ?_
  refine pt_imul (pc' := 15) C dX2_freeSandOf_14 rfl ?_
  refine pt_isub (pc' := 16) C dX2_freeSandOf_15 rfl ?_
  refine pt_istore_n (pc' := 17) (lv' := [(3, .int ((sd f) - (10 * (wl f)))), (0, .ref (aS 0)), (1, .ref (aB 0)), (2, .int (nI f))]) C dX2_freeSandOf_16 rfl rfl (by decide) rfl ?_
  refine pt_iload_n (pc' := 18) C dX2_freeSandOf_17 rfl 0 rfl ?_
  refine pt_jn (q := 26) (k := 0) (n := 0) (wS cA aS sd se sc ba pa ch ++ wB cA aB n k bs wl fd kd sz lk) [(3, .int ((sd f) - (10 * (wl f)))), (0, .ref (aS 0)), (1, .ref (aB 0)), (2, .int (nI f))] [.int (if ((sd f) - (10 * (wl f))) ≤ 0 then 0 else (sd f) - (10 * (wl f)))] (fun K => ?_) ?_
  · refine pt_if_le (pc' := 21) (tgt := 25) C dX2_freeSandOf_18 (by decide) rfl (fun h_18 => ?_) (fun h_18 => ?_)
    · refine pt_iconst (pc' := 26) C dX2_freeSandOf_25 rfl (v := 0) (by decide) ?_
      exact pt_cv (lv' := [(3, .int ((sd f) - (10 * (wl f)))), (0, .ref (aS 0)), (1, .ref (aB 0)), (2, .int (nI f))]) rfl [0, 1, 2, 3] rfl rfl (by simpa only [if_pos h_18] using K)
    · refine pt_iload_n (pc' := 22) C dX2_freeSandOf_21 rfl 0 rfl ?_
      refine pt_goto (pc' := 26) C dX2_freeSandOf_22 (by decide) ?_
      exact pt_cv (lv' := [(3, .int ((sd f) - (10 * (wl f)))), (0, .ref (aS 0)), (1, .ref (aB 0)), (2, .int (nI f))]) rfl [0, 1, 2, 3] rfl rfl (by simpa only [if_neg h_18] using K)
  exact pt_iret C hr hk dX2_freeSandOf_26 (rfl) (rfl) (rfl)

set_option maxHeartbeats 4000000 in
set_option maxRecDepth 100000 in
theorem mX2_takeFrom (l : Launch) (D : va_G) (cA : ClassId) (aS : Nat → Nat) (sd : Nat → Int32) (se : Nat → Int32) (sc : Nat → Int32) (ba : Nat → Int32) (pa : Nat → Int32) (ch : Nat → Int32) (aB : Nat → Nat) (n : Nat) (k : Int32) (bs : Nat → Int32) (wl : Nat → Int32) (fd : Nat → Int32) (kd : Nat → Int32) (sz : Nat → Int32) (lk : Nat → Int32) (f : Nat) (w : Int32) (hf : f < 12) : mt_I l yX2_takeFrom wsX2_takeFrom { frames := 1, cells := 0, slots := 0, locals := 23 } D [(cA, .int)] [.ref (aS 0), .ref (aB 0), .int (nI f), .int w] (wS cA aS sd se sc ba pa ch ++ wB cA aB n k bs wl fd kd sz lk) (tk sd wl f w) (wS cA aS sd se (tkSc sd wl sc f w) ba pa (tkCh sd wl ch f w) ++ wB cA aB n k bs wl fd kd sz lk) := by
  refine mt_ofI (cc := cX2_takeFrom) (maxL := 6) (ret := (some .int)) (lv := [(0, .ref (aS 0)), (1, .ref (aB 0)), (2, .int (nI f)), (3, .int w)]) (by decide) rfl (Nat.le_of_ble_eq_true rfl) rfl ?_
  intro p e s m args below meth c A C hr hk
  have f_9 := C.hts (.fieldLink RX2 9 "ShoreFields$Shore" "sandOf" "[I") (by decide +kernel)
  have in_2 : ∀ w ∈ u_ws RX2 TX2 6, w ∈ wsX2_takeFrom := by decide +kernel
  have m_45 := C.hts (.methodLink RX2 45 Lib.Math.min.name) (by decide +kernel)
  have ms_mmin := C.hts (.static Lib.Math.min.name) (by decide +kernel)
  have mi_math := C.hts (.initialized "java/lang/Math") (by decide +kernel)
  have mc_mmin := C.hts (.code Lib.Math.min.name Lib.Math.min.code 2 (some .int)) (by decide +kernel)
  have f_18 := C.hts (.fieldLink RX2 18 "ShoreFields$Shore" "scourOf" "[I") (by decide +kernel)
  have f_27 := C.hts (.fieldLink RX2 27 "ShoreFields$Shore" "changeOf" "[I") (by decide +kernel)
  refine pt_iload_n (pc' := 1) C dX2_takeFrom_0 rfl 3 rfl ?_
  refine pt_aload_n (pc' := 2) C dX2_takeFrom_1 rfl 0 rfl ?_
  refine pt_get (pc' := 5) C in_2 dX2_takeFrom_2 rfl 0 0 rfl rfl (by decide) f_9 rfl ?_
  refine pt_iload_n (pc' := 6) C dX2_takeFrom_5 rfl 2 rfl ?_
  refine pt_iald (pc' := 7) C dX2_takeFrom_6 rfl 1 rfl rfl f (rfl) (by omega) (by decide) ?_
  refine pt_mmin (pc' := 10) C dX2_takeFrom_7 rfl m_45 ms_mmin mi_math mc_mmin (Nat.le_of_ble_eq_true rfl) (Nat.le_of_ble_eq_true rfl) (Nat.le_of_ble_eq_true rfl) (Nat.le_of_ble_eq_true rfl) ?_
  refine pt_istore (pc' := 12) (lv' := [(4, .int (mn w (sd f))), (0, .ref (aS 0)), (1, .ref (aB 0)), (2, .int (nI f)), (3, .int w)]) C dX2_takeFrom_10 rfl (by decide) rfl ?_
  refine pt_iload (pc' := 14) C dX2_takeFrom_12 rfl 0 rfl ?_
  refine pt_aload_n (pc' := 15) C dX2_takeFrom_14 rfl 1 rfl ?_
  refine pt_aload_n (pc' := 16) C dX2_takeFrom_15 rfl 2 rfl ?_
  refine pt_iload_n (pc' := 17) C dX2_takeFrom_16 rfl 3 rfl ?_
  refine pt_cvI0 (pc' := 20) (w1 := wS cA aS sd se sc ba pa ch ++ wB cA aB n k bs wl fd kd sz lk) (As := [.ref (aB 0), .int (nI f)]) (rest := [.int (mn w (sd f))]) C (mX2_freeSandOf l D cA aS sd se sc ba pa ch aB n k bs wl fd kd sz lk f (by first | assumption | omega)) (cwV 2 C.hts gX2_takeFrom_X2_freeSandOf rfl rfl rfl (by decide +kernel) ⟨Nat.le_of_ble_eq_true rfl, Nat.le_of_ble_eq_true rfl⟩) dX2_takeFrom_17 rfl 0 rfl rfl rfl rfl rfl (Nat.le_of_ble_eq_true rfl) ⟨Nat.le_of_ble_eq_true rfl, Nat.le_of_ble_eq_true rfl⟩ ?_
  refine pt_mmin (pc' := 23) C dX2_takeFrom_20 rfl m_45 ms_mmin mi_math mc_mmin (Nat.le_of_ble_eq_true rfl) (Nat.le_of_ble_eq_true rfl) (Nat.le_of_ble_eq_true rfl) (Nat.le_of_ble_eq_true rfl) ?_
  refine pt_istore (pc' := 25) (lv' := [(5, .int (mn (mn w (sd f)) (fre sd wl f))), (4, .int (mn w (sd f))), (0, .ref (aS 0)), (1, .ref (aB 0)), (2, .int (nI f)), (3, .int w)]) C dX2_takeFrom_23 rfl (by decide) rfl ?_
  refine pt_aload_n (pc' := 26) C dX2_takeFrom_25 rfl 2 rfl ?_
  refine pt_get (pc' := 29) C in_2 dX2_takeFrom_26 rfl 0 2 rfl rfl (by decide) f_18 rfl ?_
  refine pt_iload_n (pc' := 30) C dX2_takeFrom_29 rfl 4 rfl ?_
  refine pt_dup2 (pc' := 31) C dX2_takeFrom_30 rfl rfl rfl ?_
  refine pt_iald (pc' := 32) C dX2_takeFrom_31 rfl 3 rfl rfl f (rfl) (by omega) (by decide) ?_
  refine pt_iload (pc' := 34) C dX2_takeFrom_32 rfl 1 rfl ?_
  refine pt_iload (pc' := 36) C dX2_takeFrom_34 rfl 0 rfl ?_
  refine pt_isub (pc' := 37) C dX2_takeFrom_36 rfl ?_
  refine pt_iadd (pc' := 38) C dX2_takeFrom_37 rfl ?_
  refine pt_iast (pc' := 39) (ws' := wS cA aS sd se (upd sc f ((sc f) + ((mn w (sd f)) - (mn (mn w (sd f)) (fre sd wl f))))) ba pa ch ++ wB cA aB n k bs wl fd kd sz lk) C dX2_takeFrom_38 rfl 3 rfl rfl f (rfl) (by omega) (by decide) rfl ?_
  refine pt_aload_n (pc' := 40) C dX2_takeFrom_39 rfl 2 rfl ?_
  refine pt_get (pc' := 43) C in_2 dX2_takeFrom_40 rfl 0 5 rfl rfl (by decide) f_27 rfl ?_
  refine pt_iload_n (pc' := 44) C dX2_takeFrom_43 rfl 4 rfl ?_
  refine pt_dup2 (pc' := 45) C dX2_takeFrom_44 rfl rfl rfl ?_
  refine pt_iald (pc' := 46) C dX2_takeFrom_45 rfl 6 rfl rfl f (rfl) (by omega) (by decide) ?_
  refine pt_iload (pc' := 48) C dX2_takeFrom_46 rfl 0 rfl ?_
  refine pt_isub (pc' := 49) C dX2_takeFrom_48 rfl ?_
  refine pt_iast (pc' := 50) (ws' := wS cA aS sd se (upd sc f ((sc f) + ((mn w (sd f)) - (mn (mn w (sd f)) (fre sd wl f))))) ba pa (upd ch f ((ch f) - (mn (mn w (sd f)) (fre sd wl f)))) ++ wB cA aB n k bs wl fd kd sz lk) C dX2_takeFrom_49 rfl 6 rfl rfl f (rfl) (by omega) (by decide) rfl ?_
  refine pt_iload (pc' := 52) C dX2_takeFrom_50 rfl 0 rfl ?_
  exact pt_iret C hr hk dX2_takeFrom_52 (rfl) (rfl) (rfl)

set_option maxHeartbeats 4000000 in
set_option maxRecDepth 100000 in
theorem cX2_comeIn_L (l : Launch) (D : va_G) (cA : ClassId) (aS : Nat → Nat) (sd : Nat → Int32) (se : Nat → Int32) (sc : Nat → Int32) (ba : Nat → Int32) (pa : Nat → Int32) (ch : Nat → Int32) (aB : Nat → Nat) (n : Nat) (k : Int32) (bs : Nat → Int32) (wl : Nat → Int32) (fd : Nat → Int32) (kd : Nat → Int32) (sz : Nat → Int32) (lk : Nat → Int32) (h : Int32) (hn : 2 ≤ n) (hm : n ≤ 12) : mt_V l yX2_comeInAtEnd wsX2_comeInAtEnd { frames := 0, cells := 0, slots := 0, locals := 0 } D [(cA, .int)] [.ref (aS 0), .ref (aB 0), .int h, .int 0] (wS cA aS sd se sc ba pa ch ++ wB cA aB n k bs wl fd kd sz lk) (wS cA aS sd se sc ba (upd pa 0 (fdU k h fd 0)) (upd ch 0 (ch 0 + fdU k h fd 0)) ++ wB cA aB n k bs wl fd kd sz lk) := by
  refine mt_ofV (cc := cX2_comeInAtEnd) (maxL := 6) (ret := none) (lv := [(0, .ref (aS 0)), (1, .ref (aB 0)), (2, .int h), (3, .int 0)]) (by decide) rfl (Nat.le_of_ble_eq_true rfl) rfl ?_
  intro p e s m args below meth c A C hr hk
  have f_78 := C.hts (.fieldLink RX2 78 "ShoreFields$Begin" "shoreNumber" "I") (by decide +kernel)
  have in_0 : ∀ w ∈ u_ws RX0 TX0 8, w ∈ wsX2_comeInAtEnd := by decide +kernel
  have f_81 := C.hts (.fieldLink RX2 81 "ShoreFields$Begin" "feedOf" "[I") (by decide +kernel)
  have f_27 := C.hts (.fieldLink RX2 27 "ShoreFields$Shore" "changeOf" "[I") (by decide +kernel)
  have in_2 : ∀ w ∈ u_ws RX2 TX2 6, w ∈ wsX2_comeInAtEnd := by decide +kernel
  have f_24 := C.hts (.fieldLink RX2 24 "ShoreFields$Shore" "passedAt" "[I") (by decide +kernel)
  refine pt_iload_n (pc' := 1) C dX2_comeInAtEnd_0 rfl 3 rfl ?_
  refine pt_if_ne (pc' := 4) (tgt := 8) C dX2_comeInAtEnd_1 (by decide) rfl (fun h_1 => absurd (by decide) h_1) (fun h_1 => ?_)
  refine pt_iconst (pc' := 5) C dX2_comeInAtEnd_4 rfl (v := 1) (by decide) ?_
  refine pt_goto (pc' := 9) C dX2_comeInAtEnd_5 (by decide) ?_
  refine pt_istore (pc' := 11) (lv' := [(4, .int 1), (0, .ref (aS 0)), (1, .ref (aB 0)), (2, .int h), (3, .int 0)]) C dX2_comeInAtEnd_9 rfl (by decide) rfl ?_
  refine pt_aload_n (pc' := 12) C dX2_comeInAtEnd_11 rfl 2 rfl ?_
  refine pt_get (pc' := 15) C in_0 dX2_comeInAtEnd_12 rfl 7 1 rfl rfl (by decide) f_78 rfl ?_
  refine pt_iload_n (pc' := 16) C dX2_comeInAtEnd_15 rfl 3 rfl ?_
  refine pt_imul (pc' := 17) C dX2_comeInAtEnd_16 rfl ?_
  refine pt_aload_n (pc' := 18) C dX2_comeInAtEnd_17 rfl 2 rfl ?_
  refine pt_get (pc' := 21) C in_0 dX2_comeInAtEnd_18 rfl 7 4 rfl rfl (by decide) f_81 rfl ?_
  refine pt_iload (pc' := 23) C dX2_comeInAtEnd_21 rfl 0 rfl ?_
  refine pt_if_eq (pc' := 26) (tgt := 30) C dX2_comeInAtEnd_23 (by decide) rfl (fun h_23 => absurd h_23 (by decide)) (fun h_23 => ?_)
  refine pt_iconst (pc' := 27) C dX2_comeInAtEnd_26 rfl (v := 0) (by decide) ?_
  refine pt_goto (pc' := 31) C dX2_comeInAtEnd_27 (by decide) ?_
  refine pt_iald (pc' := 32) C dX2_comeInAtEnd_31 rfl 10 rfl rfl 0 (rfl) (by omega) (by decide) ?_
  refine pt_imul (pc' := 33) C dX2_comeInAtEnd_32 rfl ?_
  refine pt_bipush (pc' := 35) C dX2_comeInAtEnd_33 rfl (v := 100) (by decide) ?_
  refine pt_idiv (pc' := 36) C dX2_comeInAtEnd_35 rfl (by decide) ?_
  refine pt_istore (pc' := 38) (lv' := [(5, .int (((k * h) * (fd 0)) / 100)), (4, .int 1), (0, .ref (aS 0)), (1, .ref (aB 0)), (2, .int h), (3, .int 0)]) C dX2_comeInAtEnd_36 rfl (by decide) rfl ?_
  refine pt_aload_n (pc' := 39) C dX2_comeInAtEnd_38 rfl 2 rfl ?_
  refine pt_get (pc' := 42) C in_2 dX2_comeInAtEnd_39 rfl 0 5 rfl rfl (by decide) f_27 rfl ?_
  refine pt_iload (pc' := 44) C dX2_comeInAtEnd_42 rfl 1 rfl ?_
  refine pt_if_eq (pc' := 47) (tgt := 51) C dX2_comeInAtEnd_44 (by decide) rfl (fun h_44 => absurd h_44 (by decide)) (fun h_44 => ?_)
  refine pt_iconst (pc' := 48) C dX2_comeInAtEnd_47 rfl (v := 0) (by decide) ?_
  refine pt_goto (pc' := 57) C dX2_comeInAtEnd_48 (by decide) ?_
  refine pt_dup2 (pc' := 58) C dX2_comeInAtEnd_57 rfl rfl rfl ?_
  refine pt_iald (pc' := 59) C dX2_comeInAtEnd_58 rfl 6 rfl rfl 0 (rfl) (by omega) (by decide) ?_
  refine pt_iload (pc' := 61) C dX2_comeInAtEnd_59 rfl 0 rfl ?_
  refine pt_iadd (pc' := 62) C dX2_comeInAtEnd_61 rfl ?_
  refine pt_iast (pc' := 63) (ws' := wS cA aS sd se sc ba pa (upd ch 0 ((ch 0) + (((k * h) * (fd 0)) / 100))) ++ wB cA aB n k bs wl fd kd sz lk) C dX2_comeInAtEnd_62 rfl 6 rfl rfl 0 (rfl) (by omega) (by decide) rfl ?_
  refine pt_aload_n (pc' := 64) C dX2_comeInAtEnd_63 rfl 2 rfl ?_
  refine pt_get (pc' := 67) C in_2 dX2_comeInAtEnd_64 rfl 0 4 rfl rfl (by decide) f_24 rfl ?_
  refine pt_iload (pc' := 69) C dX2_comeInAtEnd_67 rfl 1 rfl ?_
  refine pt_if_eq (pc' := 72) (tgt := 76) C dX2_comeInAtEnd_69 (by decide) rfl (fun h_69 => absurd h_69 (by decide)) (fun h_69 => ?_)
  refine pt_iconst (pc' := 73) C dX2_comeInAtEnd_72 rfl (v := 0) (by decide) ?_
  refine pt_goto (pc' := 80) C dX2_comeInAtEnd_73 (by decide) ?_
  refine pt_iload (pc' := 82) C dX2_comeInAtEnd_80 rfl 1 rfl ?_
  refine pt_if_eq (pc' := 85) (tgt := 90) C dX2_comeInAtEnd_82 (by decide) rfl (fun h_82 => absurd h_82 (by decide)) (fun h_82 => ?_)
  refine pt_iload (pc' := 87) C dX2_comeInAtEnd_85 rfl 0 rfl ?_
  refine pt_goto (pc' := 93) C dX2_comeInAtEnd_87 (by decide) ?_
  refine pt_iast (pc' := 94) (ws' := wS cA aS sd se sc ba (upd pa 0 (((k * h) * (fd 0)) / 100)) (upd ch 0 ((ch 0) + (((k * h) * (fd 0)) / 100))) ++ wB cA aB n k bs wl fd kd sz lk) C dX2_comeInAtEnd_93 rfl 5 rfl rfl 0 (rfl) (by omega) (by decide) rfl ?_
  exact pt_vret C hr hk dX2_comeInAtEnd_94 (rfl)

set_option maxHeartbeats 4000000 in
set_option maxRecDepth 100000 in
theorem cX2_comeIn_R (l : Launch) (D : va_G) (cA : ClassId) (aS : Nat → Nat) (sd : Nat → Int32) (se : Nat → Int32) (sc : Nat → Int32) (ba : Nat → Int32) (pa : Nat → Int32) (ch : Nat → Int32) (aB : Nat → Nat) (n : Nat) (k : Int32) (bs : Nat → Int32) (wl : Nat → Int32) (fd : Nat → Int32) (kd : Nat → Int32) (sz : Nat → Int32) (lk : Nat → Int32) (h : Int32) (hn : 2 ≤ n) (hm : n ≤ 12) : mt_V l yX2_comeInAtEnd wsX2_comeInAtEnd { frames := 0, cells := 0, slots := 0, locals := 0 } D [(cA, .int)] [.ref (aS 0), .ref (aB 0), .int h, .int 1] (wS cA aS sd se sc ba pa ch ++ wB cA aB n k bs wl fd kd sz lk) (wS cA aS sd se sc ba (upd pa n (-fdU k h fd 1)) (upd ch (n - 1) (ch (n - 1) + fdU k h fd 1)) ++ wB cA aB n k bs wl fd kd sz lk) := by
  refine mt_ofV (cc := cX2_comeInAtEnd) (maxL := 6) (ret := none) (lv := [(0, .ref (aS 0)), (1, .ref (aB 0)), (2, .int h), (3, .int 1)]) (by decide) rfl (Nat.le_of_ble_eq_true rfl) rfl ?_
  intro p e s m args below meth c A C hr hk
  have f_78 := C.hts (.fieldLink RX2 78 "ShoreFields$Begin" "shoreNumber" "I") (by decide +kernel)
  have in_0 : ∀ w ∈ u_ws RX0 TX0 8, w ∈ wsX2_comeInAtEnd := by decide +kernel
  have f_81 := C.hts (.fieldLink RX2 81 "ShoreFields$Begin" "feedOf" "[I") (by decide +kernel)
  have f_27 := C.hts (.fieldLink RX2 27 "ShoreFields$Shore" "changeOf" "[I") (by decide +kernel)
  have in_2 : ∀ w ∈ u_ws RX2 TX2 6, w ∈ wsX2_comeInAtEnd := by decide +kernel
  have f_56 := C.hts (.fieldLink RX2 56 "ShoreFields$Begin" "fieldCount" "I") (by decide +kernel)
  have f_24 := C.hts (.fieldLink RX2 24 "ShoreFields$Shore" "passedAt" "[I") (by decide +kernel)
  refine pt_iload_n (pc' := 1) C dX2_comeInAtEnd_0 rfl 3 rfl ?_
  refine pt_if_ne (pc' := 4) (tgt := 8) C dX2_comeInAtEnd_1 (by decide) rfl (fun h_1 => ?_) (fun h_1 => absurd h_1 (by decide))
  refine pt_iconst (pc' := 9) C dX2_comeInAtEnd_8 rfl (v := 0) (by decide) ?_
  refine pt_istore (pc' := 11) (lv' := [(4, .int 0), (0, .ref (aS 0)), (1, .ref (aB 0)), (2, .int h), (3, .int 1)]) C dX2_comeInAtEnd_9 rfl (by decide) rfl ?_
  refine pt_aload_n (pc' := 12) C dX2_comeInAtEnd_11 rfl 2 rfl ?_
  refine pt_get (pc' := 15) C in_0 dX2_comeInAtEnd_12 rfl 7 1 rfl rfl (by decide) f_78 rfl ?_
  refine pt_iload_n (pc' := 16) C dX2_comeInAtEnd_15 rfl 3 rfl ?_
  refine pt_imul (pc' := 17) C dX2_comeInAtEnd_16 rfl ?_
  refine pt_aload_n (pc' := 18) C dX2_comeInAtEnd_17 rfl 2 rfl ?_
  refine pt_get (pc' := 21) C in_0 dX2_comeInAtEnd_18 rfl 7 4 rfl rfl (by decide) f_81 rfl ?_
  refine pt_iload (pc' := 23) C dX2_comeInAtEnd_21 rfl 0 rfl ?_
  refine pt_if_eq (pc' := 26) (tgt := 30) C dX2_comeInAtEnd_23 (by decide) rfl (fun h_23 => ?_) (fun h_23 => absurd (by decide) h_23)
  refine pt_iconst (pc' := 31) C dX2_comeInAtEnd_30 rfl (v := 1) (by decide) ?_
  refine pt_iald (pc' := 32) C dX2_comeInAtEnd_31 rfl 10 rfl rfl 1 (rfl) (by omega) (by decide) ?_
  refine pt_imul (pc' := 33) C dX2_comeInAtEnd_32 rfl ?_
  refine pt_bipush (pc' := 35) C dX2_comeInAtEnd_33 rfl (v := 100) (by decide) ?_
  refine pt_idiv (pc' := 36) C dX2_comeInAtEnd_35 rfl (by decide) ?_
  refine pt_istore (pc' := 38) (lv' := [(5, .int (((k * h) * (fd 1)) / 100)), (4, .int 0), (0, .ref (aS 0)), (1, .ref (aB 0)), (2, .int h), (3, .int 1)]) C dX2_comeInAtEnd_36 rfl (by decide) rfl ?_
  refine pt_aload_n (pc' := 39) C dX2_comeInAtEnd_38 rfl 2 rfl ?_
  refine pt_get (pc' := 42) C in_2 dX2_comeInAtEnd_39 rfl 0 5 rfl rfl (by decide) f_27 rfl ?_
  refine pt_iload (pc' := 44) C dX2_comeInAtEnd_42 rfl 1 rfl ?_
  refine pt_if_eq (pc' := 47) (tgt := 51) C dX2_comeInAtEnd_44 (by decide) rfl (fun h_44 => ?_) (fun h_44 => absurd (by decide) h_44)
  refine pt_aload_n (pc' := 52) C dX2_comeInAtEnd_51 rfl 3 rfl ?_
  refine pt_get (pc' := 55) C in_0 dX2_comeInAtEnd_52 rfl 7 0 rfl rfl (by decide) f_56 rfl ?_
  refine pt_iconst (pc' := 56) C dX2_comeInAtEnd_55 rfl (v := 1) (by decide) ?_
  refine pt_isub (pc' := 57) C dX2_comeInAtEnd_56 rfl ?_
  refine pt_eq (st' := [.int (nI (n - 1)), .ref (aS 6)]) rfl rfl (by rw [nI_m1 (by omega)]) ?_
  refine pt_dup2 (pc' := 58) C dX2_comeInAtEnd_57 rfl rfl rfl ?_
  refine pt_iald (pc' := 59) C dX2_comeInAtEnd_58 rfl 6 rfl rfl (n - 1) (rfl) (by omega) (by decide) ?_
  refine pt_iload (pc' := 61) C dX2_comeInAtEnd_59 rfl 0 rfl ?_
  refine pt_iadd (pc' := 62) C dX2_comeInAtEnd_61 rfl ?_
  refine pt_iast (pc' := 63) (ws' := wS cA aS sd se sc ba pa (upd ch (n - 1) ((ch (n - 1)) + (((k * h) * (fd 1)) / 100))) ++ wB cA aB n k bs wl fd kd sz lk) C dX2_comeInAtEnd_62 rfl 6 rfl rfl (n - 1) (rfl) (by omega) (by decide) rfl ?_
  refine pt_aload_n (pc' := 64) C dX2_comeInAtEnd_63 rfl 2 rfl ?_
  refine pt_get (pc' := 67) C in_2 dX2_comeInAtEnd_64 rfl 0 4 rfl rfl (by decide) f_24 rfl ?_
  refine pt_iload (pc' := 69) C dX2_comeInAtEnd_67 rfl 1 rfl ?_
  refine pt_if_eq (pc' := 72) (tgt := 76) C dX2_comeInAtEnd_69 (by decide) rfl (fun h_69 => ?_) (fun h_69 => absurd (by decide) h_69)
  refine pt_aload_n (pc' := 77) C dX2_comeInAtEnd_76 rfl 3 rfl ?_
  refine pt_get (pc' := 80) C in_0 dX2_comeInAtEnd_77 rfl 7 0 rfl rfl (by decide) f_56 rfl ?_
  refine pt_iload (pc' := 82) C dX2_comeInAtEnd_80 rfl 1 rfl ?_
  refine pt_if_eq (pc' := 85) (tgt := 90) C dX2_comeInAtEnd_82 (by decide) rfl (fun h_82 => ?_) (fun h_82 => absurd (by decide) h_82)
  refine pt_iload (pc' := 92) C dX2_comeInAtEnd_90 rfl 0 rfl ?_
  refine pt_ineg (pc' := 93) C dX2_comeInAtEnd_92 rfl ?_
  refine pt_iast (pc' := 94) (ws' := wS cA aS sd se sc ba (upd pa n (-(((k * h) * (fd 1)) / 100))) (upd ch (n - 1) ((ch (n - 1)) + (((k * h) * (fd 1)) / 100))) ++ wB cA aB n k bs wl fd kd sz lk) C dX2_comeInAtEnd_93 rfl 5 rfl rfl n (rfl) (by omega) (by decide) rfl ?_
  exact pt_vret C hr hk dX2_comeInAtEnd_94 (rfl)

set_option maxHeartbeats 4000000 in
set_option maxRecDepth 100000 in
theorem cX2_goOut_L (l : Launch) (D : va_G) (cA : ClassId) (aS : Nat → Nat) (sd : Nat → Int32) (se : Nat → Int32) (sc : Nat → Int32) (ba : Nat → Int32) (pa : Nat → Int32) (ch : Nat → Int32) (aB : Nat → Nat) (n : Nat) (k : Int32) (bs : Nat → Int32) (wl : Nat → Int32) (fd : Nat → Int32) (kd : Nat → Int32) (sz : Nat → Int32) (lk : Nat → Int32) (h : Int32) (hn : 2 ≤ n) (hm : n ≤ 12) : mt_V l yX2_goOutAtEnd wsX2_goOutAtEnd { frames := 2, cells := 0, slots := 0, locals := 48 } D [(cA, .int)] [.ref (aS 0), .ref (aB 0), .int h, .int 0] (wS cA aS sd se sc ba pa ch ++ wB cA aB n k bs wl fd kd sz lk) (wS cA aS sd se (tkSc sd wl sc (n - 1) (k * h)) ba (upd pa n (tk sd wl (n - 1) (k * h))) (tkCh sd wl ch (n - 1) (k * h)) ++ wB cA aB n k bs wl fd kd sz lk) := by
  refine mt_ofV (cc := cX2_goOutAtEnd) (maxL := 6) (ret := none) (lv := [(0, .ref (aS 0)), (1, .ref (aB 0)), (2, .int h), (3, .int 0)]) (by decide) rfl (Nat.le_of_ble_eq_true rfl) rfl ?_
  intro p e s m args below meth c A C hr hk
  have f_56 := C.hts (.fieldLink RX2 56 "ShoreFields$Begin" "fieldCount" "I") (by decide +kernel)
  have in_0 : ∀ w ∈ u_ws RX0 TX0 8, w ∈ wsX2_goOutAtEnd := by decide +kernel
  have f_78 := C.hts (.fieldLink RX2 78 "ShoreFields$Begin" "shoreNumber" "I") (by decide +kernel)
  have f_24 := C.hts (.fieldLink RX2 24 "ShoreFields$Shore" "passedAt" "[I") (by decide +kernel)
  have in_2 : ∀ w ∈ u_ws RX2 TX2 6, w ∈ wsX2_goOutAtEnd := by decide +kernel
  refine pt_iload_n (pc' := 1) C dX2_goOutAtEnd_0 rfl 3 rfl ?_
  refine pt_if_ne (pc' := 4) (tgt := 8) C dX2_goOutAtEnd_1 (by decide) rfl (fun h_1 => absurd (by decide) h_1) (fun h_1 => ?_)
  refine pt_iconst (pc' := 5) C dX2_goOutAtEnd_4 rfl (v := 1) (by decide) ?_
  refine pt_goto (pc' := 9) C dX2_goOutAtEnd_5 (by decide) ?_
  refine pt_istore (pc' := 11) (lv' := [(4, .int 1), (0, .ref (aS 0)), (1, .ref (aB 0)), (2, .int h), (3, .int 0)]) C dX2_goOutAtEnd_9 rfl (by decide) rfl ?_
  refine pt_aload_n (pc' := 12) C dX2_goOutAtEnd_11 rfl 1 rfl ?_
  refine pt_aload_n (pc' := 13) C dX2_goOutAtEnd_12 rfl 2 rfl ?_
  refine pt_iload (pc' := 15) C dX2_goOutAtEnd_13 rfl 0 rfl ?_
  refine pt_if_eq (pc' := 18) (tgt := 27) C dX2_goOutAtEnd_15 (by decide) rfl (fun h_15 => absurd h_15 (by decide)) (fun h_15 => ?_)
  refine pt_aload_n (pc' := 19) C dX2_goOutAtEnd_18 rfl 2 rfl ?_
  refine pt_get (pc' := 22) C in_0 dX2_goOutAtEnd_19 rfl 7 0 rfl rfl (by decide) f_56 rfl ?_
  refine pt_iconst (pc' := 23) C dX2_goOutAtEnd_22 rfl (v := 1) (by decide) ?_
  refine pt_isub (pc' := 24) C dX2_goOutAtEnd_23 rfl ?_
  refine pt_eq (st' := [.int (nI (n - 1)), .ref (aB 0), .ref (aS 0)]) rfl rfl (by rw [nI_m1 (by omega)]) ?_
  refine pt_goto (pc' := 28) C dX2_goOutAtEnd_24 (by decide) ?_
  refine pt_aload_n (pc' := 29) C dX2_goOutAtEnd_28 rfl 2 rfl ?_
  refine pt_get (pc' := 32) C in_0 dX2_goOutAtEnd_29 rfl 7 1 rfl rfl (by decide) f_78 rfl ?_
  refine pt_iload_n (pc' := 33) C dX2_goOutAtEnd_32 rfl 3 rfl ?_
  refine pt_imul (pc' := 34) C dX2_goOutAtEnd_33 rfl ?_
  refine pt_cvI0 (pc' := 37) (w1 := wS cA aS sd se (tkSc sd wl sc (n - 1) (k * h)) ba pa (tkCh sd wl ch (n - 1) (k * h)) ++ wB cA aB n k bs wl fd kd sz lk) (As := [.ref (aB 0), .int (nI (n - 1)), .int (k * h)]) (rest := []) C (mX2_takeFrom l D cA aS sd se sc ba pa ch aB n k bs wl fd kd sz lk (n - 1) (k * h) (by first | assumption | omega)) (cwV 3 C.hts gX2_goOutAtEnd_X2_takeFrom rfl rfl rfl (by decide +kernel) ⟨Nat.le_of_ble_eq_true rfl, Nat.le_of_ble_eq_true rfl⟩) dX2_goOutAtEnd_34 rfl 0 rfl rfl rfl rfl rfl (Nat.le_of_ble_eq_true rfl) ⟨Nat.le_of_ble_eq_true rfl, Nat.le_of_ble_eq_true rfl⟩ ?_
  refine pt_istore (pc' := 39) (lv' := [(5, .int (tk sd wl (n - 1) (k * h))), (4, .int 1), (0, .ref (aS 0)), (1, .ref (aB 0)), (2, .int h), (3, .int 0)]) C dX2_goOutAtEnd_37 rfl (by decide) rfl ?_
  refine pt_aload_n (pc' := 40) C dX2_goOutAtEnd_39 rfl 2 rfl ?_
  refine pt_get (pc' := 43) C in_2 dX2_goOutAtEnd_40 rfl 0 4 rfl rfl (by decide) f_24 rfl ?_
  refine pt_iload (pc' := 45) C dX2_goOutAtEnd_43 rfl 1 rfl ?_
  refine pt_if_eq (pc' := 48) (tgt := 55) C dX2_goOutAtEnd_45 (by decide) rfl (fun h_45 => absurd h_45 (by decide)) (fun h_45 => ?_)
  refine pt_aload_n (pc' := 49) C dX2_goOutAtEnd_48 rfl 3 rfl ?_
  refine pt_get (pc' := 52) C in_0 dX2_goOutAtEnd_49 rfl 7 0 rfl rfl (by decide) f_56 rfl ?_
  refine pt_goto (pc' := 56) C dX2_goOutAtEnd_52 (by decide) ?_
  refine pt_iload (pc' := 58) C dX2_goOutAtEnd_56 rfl 1 rfl ?_
  refine pt_if_eq (pc' := 61) (tgt := 66) C dX2_goOutAtEnd_58 (by decide) rfl (fun h_58 => absurd h_58 (by decide)) (fun h_58 => ?_)
  refine pt_iload (pc' := 63) C dX2_goOutAtEnd_61 rfl 0 rfl ?_
  refine pt_goto (pc' := 69) C dX2_goOutAtEnd_63 (by decide) ?_
  refine pt_iast (pc' := 70) (ws' := wS cA aS sd se (tkSc sd wl sc (n - 1) (k * h)) ba (upd pa n (tk sd wl (n - 1) (k * h))) (tkCh sd wl ch (n - 1) (k * h)) ++ wB cA aB n k bs wl fd kd sz lk) C dX2_goOutAtEnd_69 rfl 5 rfl rfl n (rfl) (by omega) (by decide) rfl ?_
  exact pt_vret C hr hk dX2_goOutAtEnd_70 (rfl)

set_option maxHeartbeats 4000000 in
set_option maxRecDepth 100000 in
theorem cX2_goOut_R (l : Launch) (D : va_G) (cA : ClassId) (aS : Nat → Nat) (sd : Nat → Int32) (se : Nat → Int32) (sc : Nat → Int32) (ba : Nat → Int32) (pa : Nat → Int32) (ch : Nat → Int32) (aB : Nat → Nat) (n : Nat) (k : Int32) (bs : Nat → Int32) (wl : Nat → Int32) (fd : Nat → Int32) (kd : Nat → Int32) (sz : Nat → Int32) (lk : Nat → Int32) (h : Int32) (hn : 2 ≤ n) (hm : n ≤ 12) : mt_V l yX2_goOutAtEnd wsX2_goOutAtEnd { frames := 2, cells := 0, slots := 0, locals := 48 } D [(cA, .int)] [.ref (aS 0), .ref (aB 0), .int h, .int 1] (wS cA aS sd se sc ba pa ch ++ wB cA aB n k bs wl fd kd sz lk) (wS cA aS sd se (tkSc sd wl sc 0 (k * h)) ba (upd pa 0 (-tk sd wl 0 (k * h))) (tkCh sd wl ch 0 (k * h)) ++ wB cA aB n k bs wl fd kd sz lk) := by
  refine mt_ofV (cc := cX2_goOutAtEnd) (maxL := 6) (ret := none) (lv := [(0, .ref (aS 0)), (1, .ref (aB 0)), (2, .int h), (3, .int 1)]) (by decide) rfl (Nat.le_of_ble_eq_true rfl) rfl ?_
  intro p e s m args below meth c A C hr hk
  have f_78 := C.hts (.fieldLink RX2 78 "ShoreFields$Begin" "shoreNumber" "I") (by decide +kernel)
  have in_0 : ∀ w ∈ u_ws RX0 TX0 8, w ∈ wsX2_goOutAtEnd := by decide +kernel
  have f_24 := C.hts (.fieldLink RX2 24 "ShoreFields$Shore" "passedAt" "[I") (by decide +kernel)
  have in_2 : ∀ w ∈ u_ws RX2 TX2 6, w ∈ wsX2_goOutAtEnd := by decide +kernel
  refine pt_iload_n (pc' := 1) C dX2_goOutAtEnd_0 rfl 3 rfl ?_
  refine pt_if_ne (pc' := 4) (tgt := 8) C dX2_goOutAtEnd_1 (by decide) rfl (fun h_1 => ?_) (fun h_1 => absurd h_1 (by decide))
  refine pt_iconst (pc' := 9) C dX2_goOutAtEnd_8 rfl (v := 0) (by decide) ?_
  refine pt_istore (pc' := 11) (lv' := [(4, .int 0), (0, .ref (aS 0)), (1, .ref (aB 0)), (2, .int h), (3, .int 1)]) C dX2_goOutAtEnd_9 rfl (by decide) rfl ?_
  refine pt_aload_n (pc' := 12) C dX2_goOutAtEnd_11 rfl 1 rfl ?_
  refine pt_aload_n (pc' := 13) C dX2_goOutAtEnd_12 rfl 2 rfl ?_
  refine pt_iload (pc' := 15) C dX2_goOutAtEnd_13 rfl 0 rfl ?_
  refine pt_if_eq (pc' := 18) (tgt := 27) C dX2_goOutAtEnd_15 (by decide) rfl (fun h_15 => ?_) (fun h_15 => absurd (by decide) h_15)
  refine pt_iconst (pc' := 28) C dX2_goOutAtEnd_27 rfl (v := 0) (by decide) ?_
  refine pt_eq (st' := [.int (nI 0), .ref (aB 0), .ref (aS 0)]) rfl rfl (rfl) ?_
  refine pt_aload_n (pc' := 29) C dX2_goOutAtEnd_28 rfl 2 rfl ?_
  refine pt_get (pc' := 32) C in_0 dX2_goOutAtEnd_29 rfl 7 1 rfl rfl (by decide) f_78 rfl ?_
  refine pt_iload_n (pc' := 33) C dX2_goOutAtEnd_32 rfl 3 rfl ?_
  refine pt_imul (pc' := 34) C dX2_goOutAtEnd_33 rfl ?_
  refine pt_cvI0 (pc' := 37) (w1 := wS cA aS sd se (tkSc sd wl sc 0 (k * h)) ba pa (tkCh sd wl ch 0 (k * h)) ++ wB cA aB n k bs wl fd kd sz lk) (As := [.ref (aB 0), .int (nI 0), .int (k * h)]) (rest := []) C (mX2_takeFrom l D cA aS sd se sc ba pa ch aB n k bs wl fd kd sz lk 0 (k * h) (by first | assumption | omega)) (cwV 3 C.hts gX2_goOutAtEnd_X2_takeFrom rfl rfl rfl (by decide +kernel) ⟨Nat.le_of_ble_eq_true rfl, Nat.le_of_ble_eq_true rfl⟩) dX2_goOutAtEnd_34 rfl 0 rfl rfl rfl rfl rfl (Nat.le_of_ble_eq_true rfl) ⟨Nat.le_of_ble_eq_true rfl, Nat.le_of_ble_eq_true rfl⟩ ?_
  refine pt_istore (pc' := 39) (lv' := [(5, .int (tk sd wl 0 (k * h))), (4, .int 0), (0, .ref (aS 0)), (1, .ref (aB 0)), (2, .int h), (3, .int 1)]) C dX2_goOutAtEnd_37 rfl (by decide) rfl ?_
  refine pt_aload_n (pc' := 40) C dX2_goOutAtEnd_39 rfl 2 rfl ?_
  refine pt_get (pc' := 43) C in_2 dX2_goOutAtEnd_40 rfl 0 4 rfl rfl (by decide) f_24 rfl ?_
  refine pt_iload (pc' := 45) C dX2_goOutAtEnd_43 rfl 1 rfl ?_
  refine pt_if_eq (pc' := 48) (tgt := 55) C dX2_goOutAtEnd_45 (by decide) rfl (fun h_45 => ?_) (fun h_45 => absurd (by decide) h_45)
  refine pt_iconst (pc' := 56) C dX2_goOutAtEnd_55 rfl (v := 0) (by decide) ?_
  refine pt_iload (pc' := 58) C dX2_goOutAtEnd_56 rfl 1 rfl ?_
  refine pt_if_eq (pc' := 61) (tgt := 66) C dX2_goOutAtEnd_58 (by decide) rfl (fun h_58 => ?_) (fun h_58 => absurd (by decide) h_58)
  refine pt_iload (pc' := 68) C dX2_goOutAtEnd_66 rfl 0 rfl ?_
  refine pt_ineg (pc' := 69) C dX2_goOutAtEnd_68 rfl ?_
  refine pt_iast (pc' := 70) (ws' := wS cA aS sd se (tkSc sd wl sc 0 (k * h)) ba (upd pa 0 (-(tk sd wl 0 (k * h)))) (tkCh sd wl ch 0 (k * h)) ++ wB cA aB n k bs wl fd kd sz lk) C dX2_goOutAtEnd_69 rfl 5 rfl rfl 0 (rfl) (by omega) (by decide) rfl ?_
  exact pt_vret C hr hk dX2_goOutAtEnd_70 (rfl)

set_option maxHeartbeats 4000000 in
set_option maxRecDepth 100000 in
theorem cX2_passAt_L (l : Launch) (D : va_G) (cA : ClassId) (aS : Nat → Nat) (sd : Nat → Int32) (se : Nat → Int32) (sc : Nat → Int32) (ba : Nat → Int32) (pa : Nat → Int32) (ch : Nat → Int32) (aB : Nat → Nat) (n : Nat) (k : Int32) (bs : Nat → Int32) (wl : Nat → Int32) (fd : Nat → Int32) (kd : Nat → Int32) (sz : Nat → Int32) (lk : Nat → Int32) (b : Nat) (h : Int32) (hb : 1 ≤ b) (hbn : b < n) (hm : n ≤ 12) : mt_V l yX2_passAt wsX2_passAt { frames := 2, cells := 0, slots := 0, locals := 48 } D [(cA, .int)] [.ref (aS 0), .ref (aB 0), .int (nI b), .int h, .int 0] (wS cA aS sd se sc ba pa ch ++ wB cA aB n k bs wl fd kd sz lk) (wS cA aS sd se ((psX false k h sd wl kd sz lk b (sc, ba, pa, ch)).1) ((psX false k h sd wl kd sz lk b (sc, ba, pa, ch)).2.1) ((psX false k h sd wl kd sz lk b (sc, ba, pa, ch)).2.2.1) ((psX false k h sd wl kd sz lk b (sc, ba, pa, ch)).2.2.2) ++ wB cA aB n k bs wl fd kd sz lk) := by
  refine mt_ofV (cc := cX2_passAt) (maxL := 11) (ret := none) (lv := [(0, .ref (aS 0)), (1, .ref (aB 0)), (2, .int (nI b)), (3, .int h), (4, .int 0)]) (by decide) rfl (Nat.le_of_ble_eq_true rfl) rfl ?_
  intro p e s m args below meth c A C hr hk
  have f_78 := C.hts (.fieldLink RX2 78 "ShoreFields$Begin" "shoreNumber" "I") (by decide +kernel)
  have in_0 : ∀ w ∈ u_ws RX0 TX0 8, w ∈ wsX2_passAt := by decide +kernel
  have m_91 := C.hts (.methodLink RX2 91 Lib.Math.max.name) (by decide +kernel)
  have ms_mmax := C.hts (.static Lib.Math.max.name) (by decide +kernel)
  have mi_math := C.hts (.initialized "java/lang/Math") (by decide +kernel)
  have mc_mmax := C.hts (.code Lib.Math.max.name Lib.Math.max.code 2 (some .int)) (by decide +kernel)
  have f_94 := C.hts (.fieldLink RX2 94 "ShoreFields$Begin" "kindAt" "[I") (by decide +kernel)
  have f_101 := C.hts (.fieldLink RX2 101 "ShoreFields$Begin" "sizeAt" "[I") (by decide +kernel)
  have f_104 := C.hts (.fieldLink RX2 104 "ShoreFields$Begin" "leakAt" "[I") (by decide +kernel)
  have f_21 := C.hts (.fieldLink RX2 21 "ShoreFields$Shore" "barAt" "[I") (by decide +kernel)
  have in_2 : ∀ w ∈ u_ws RX2 TX2 6, w ∈ wsX2_passAt := by decide +kernel
  have f_27 := C.hts (.fieldLink RX2 27 "ShoreFields$Shore" "changeOf" "[I") (by decide +kernel)
  have f_24 := C.hts (.fieldLink RX2 24 "ShoreFields$Shore" "passedAt" "[I") (by decide +kernel)
  refine pt_iload (pc' := 2) C dX2_passAt_0 rfl 4 rfl ?_
  refine pt_if_ne (pc' := 5) (tgt := 9) C dX2_passAt_2 (by decide) rfl (fun h_2 => absurd (by decide) h_2) (fun h_2 => ?_)
  refine pt_iconst (pc' := 6) C dX2_passAt_5 rfl (v := 1) (by decide) ?_
  refine pt_goto (pc' := 10) C dX2_passAt_6 (by decide) ?_
  refine pt_istore (pc' := 12) (lv' := [(5, .int 1), (0, .ref (aS 0)), (1, .ref (aB 0)), (2, .int (nI b)), (3, .int h), (4, .int 0)]) C dX2_passAt_10 rfl (by decide) rfl ?_
  refine pt_iload (pc' := 14) C dX2_passAt_12 rfl 0 rfl ?_
  refine pt_if_eq (pc' := 17) (tgt := 23) C dX2_passAt_14 (by decide) rfl (fun h_14 => absurd h_14 (by decide)) (fun h_14 => ?_)
  refine pt_iload_n (pc' := 18) C dX2_passAt_17 rfl 3 rfl ?_
  refine pt_iconst (pc' := 19) C dX2_passAt_18 rfl (v := 1) (by decide) ?_
  refine pt_isub (pc' := 20) C dX2_passAt_19 rfl ?_
  refine pt_eq (st' := [.int (nI (b - 1))]) rfl rfl (by rw [nI_m1 (by omega)]) ?_
  refine pt_goto (pc' := 24) C dX2_passAt_20 (by decide) ?_
  refine pt_istore (pc' := 26) (lv' := [(6, .int (nI (b - 1))), (5, .int 1), (0, .ref (aS 0)), (1, .ref (aB 0)), (2, .int (nI b)), (3, .int h), (4, .int 0)]) C dX2_passAt_24 rfl (by decide) rfl ?_
  refine pt_iload (pc' := 28) C dX2_passAt_26 rfl 1 rfl ?_
  refine pt_if_eq (pc' := 31) (tgt := 35) C dX2_passAt_28 (by decide) rfl (fun h_28 => absurd h_28 (by decide)) (fun h_28 => ?_)
  refine pt_iload_n (pc' := 32) C dX2_passAt_31 rfl 4 rfl ?_
  refine pt_goto (pc' := 38) C dX2_passAt_32 (by decide) ?_
  refine pt_istore (pc' := 40) (lv' := [(7, .int (nI b)), (6, .int (nI (b - 1))), (5, .int 1), (0, .ref (aS 0)), (1, .ref (aB 0)), (2, .int (nI b)), (3, .int h), (4, .int 0)]) C dX2_passAt_38 rfl (by decide) rfl ?_
  refine pt_aload_n (pc' := 41) C dX2_passAt_40 rfl 4 rfl ?_
  refine pt_get (pc' := 44) C in_0 dX2_passAt_41 rfl 7 1 rfl rfl (by decide) f_78 rfl ?_
  refine pt_iload_n (pc' := 45) C dX2_passAt_44 rfl 6 rfl ?_
  refine pt_imul (pc' := 46) C dX2_passAt_45 rfl ?_
  refine pt_iload_n (pc' := 47) C dX2_passAt_46 rfl 6 rfl ?_
  refine pt_aload_n (pc' := 48) C dX2_passAt_47 rfl 3 rfl ?_
  refine pt_iload (pc' := 50) C dX2_passAt_48 rfl 1 rfl ?_
  refine pt_iload (pc' := 52) C dX2_passAt_50 rfl 0 rfl ?_
  refine pt_cvI (pc' := 55) (ws' := wS cA aS sd se sc ba pa ch ++ wB cA aB n k bs wl fd kd sz lk) (wr := wB cA aB n k bs wl fd kd sz lk) (As := [.int (nI (b - 1)), .int (nI b)]) (rest := [.int h, .int (k * h)]) C (mX2_slope l D cA aS sd se sc ba pa ch (b - 1) b (by first | assumption | omega) (by first | assumption | omega)) (cwV 2 C.hts gX2_passAt_X2_slope rfl rfl rfl (by decide +kernel) ⟨Nat.le_of_ble_eq_true rfl, Nat.le_of_ble_eq_true rfl⟩) dX2_passAt_52 rfl 0 rfl rfl rfl rfl rfl (Nat.le_of_ble_eq_true rfl) ⟨Nat.le_of_ble_eq_true rfl, Nat.le_of_ble_eq_true rfl⟩ [0, 1, 2, 3, 4, 5, 6] [7, 8, 9, 10, 11, 12, 13] [7, 8, 9, 10, 11, 12, 13, 0, 1, 2, 3, 4, 5, 6] rfl (by decide) rfl (by decide) (by decide) rfl (by decide) ?_
  refine pt_imul (pc' := 56) C dX2_passAt_55 rfl ?_
  refine pt_iconst (pc' := 57) C dX2_passAt_56 rfl (v := 3) (by decide) ?_
  refine pt_idiv (pc' := 58) C dX2_passAt_57 rfl (by decide) ?_
  refine pt_iadd (pc' := 59) C dX2_passAt_58 rfl ?_
  refine pt_istore (pc' := 61) (lv' := [(8, .int ((k * h) + ((h * (slp sd (b - 1) b)) / 3))), (7, .int (nI b)), (6, .int (nI (b - 1))), (5, .int 1), (0, .ref (aS 0)), (1, .ref (aB 0)), (2, .int (nI b)), (3, .int h), (4, .int 0)]) C dX2_passAt_59 rfl (by decide) rfl ?_
  refine pt_iload (pc' := 63) C dX2_passAt_61 rfl 0 rfl ?_
  refine pt_iconst (pc' := 64) C dX2_passAt_63 rfl (v := 0) (by decide) ?_
  refine pt_mmax (pc' := 67) C dX2_passAt_64 rfl m_91 ms_mmax mi_math mc_mmax (Nat.le_of_ble_eq_true rfl) (Nat.le_of_ble_eq_true rfl) (Nat.le_of_ble_eq_true rfl) (Nat.le_of_ble_eq_true rfl) ?_
  refine pt_istore (pc' := 69) (lv' := [(8, .int (mx ((k * h) + ((h * (slp sd (b - 1) b)) / 3)) 0)), (7, .int (nI b)), (6, .int (nI (b - 1))), (5, .int 1), (0, .ref (aS 0)), (1, .ref (aB 0)), (2, .int (nI b)), (3, .int h), (4, .int 0)]) C dX2_passAt_67 rfl (by decide) rfl ?_
  refine pt_aload_n (pc' := 70) C dX2_passAt_69 rfl 5 rfl ?_
  refine pt_get (pc' := 73) C in_0 dX2_passAt_70 rfl 7 5 rfl rfl (by decide) f_94 rfl ?_
  refine pt_iload_n (pc' := 74) C dX2_passAt_73 rfl 6 rfl ?_
  refine pt_iald (pc' := 75) C dX2_passAt_74 rfl 11 rfl rfl b (rfl) (by omega) (by decide) ?_
  refine pt_iconst (pc' := 76) C dX2_passAt_75 rfl (v := 1) (by decide) ?_
  refine pt_jn (q := 108) (k := 0) (n := 0) (wS cA aS sd se sc ba pa ch ++ wB cA aB n k bs wl fd kd sz lk) [(8, .int (if (kd b) = 1 then if (sz b) ≤ (ln sd (b - 1)) then mx ((k * h) + ((h * (slp sd (b - 1) b)) / 3)) 0 else ((mx ((k * h) + ((h * (slp sd (b - 1) b)) / 3)) 0) * (lk b)) / 100 else mx ((k * h) + ((h * (slp sd (b - 1) b)) / 3)) 0)), (7, .int (nI b)), (6, .int (nI (b - 1))), (5, .int 1), (0, .ref (aS 0)), (1, .ref (aB 0)), (2, .int (nI b)), (3, .int h), (4, .int 0)] [] (fun K => ?_) ?_
  · refine pt_icmp_ne (pc' := 79) (tgt := 108) C dX2_passAt_76 (by decide) rfl (fun h_76 => ?_) (fun h_76 => ?_)
    · exact pt_cv (lv' := [(8, .int (mx ((k * h) + ((h * (slp sd (b - 1) b)) / 3)) 0)), (7, .int (nI b)), (6, .int (nI (b - 1))), (5, .int 1), (0, .ref (aS 0)), (1, .ref (aB 0)), (2, .int (nI b)), (3, .int h), (4, .int 0)]) rfl [0, 1, 2, 3, 4, 5, 6, 7, 8] rfl rfl (by simpa only [if_neg h_76] using K)
    · refine pt_aload_n (pc' := 80) C dX2_passAt_79 rfl 4 rfl ?_
      refine pt_iload (pc' := 82) C dX2_passAt_80 rfl 2 rfl ?_
      refine pt_cvI (pc' := 85) (ws' := wS cA aS sd se sc ba pa ch ++ wB cA aB n k bs wl fd kd sz lk) (wr := wB cA aB n k bs wl fd kd sz lk) (As := [.int (nI (b - 1))]) (rest := []) C (mX2_lineOf l D cA aS sd se sc ba pa ch (b - 1) (by first | assumption | omega)) (cwV 1 C.hts gX2_passAt_X2_lineOf rfl rfl rfl (by decide +kernel) ⟨Nat.le_of_ble_eq_true rfl, Nat.le_of_ble_eq_true rfl⟩) dX2_passAt_82 rfl 0 rfl rfl rfl rfl rfl (Nat.le_of_ble_eq_true rfl) ⟨Nat.le_of_ble_eq_true rfl, Nat.le_of_ble_eq_true rfl⟩ [0, 1, 2, 3, 4, 5, 6] [7, 8, 9, 10, 11, 12, 13] [7, 8, 9, 10, 11, 12, 13, 0, 1, 2, 3, 4, 5, 6] rfl (by decide) rfl (by decide) (by decide) rfl (by decide) ?_
      refine pt_aload_n (pc' := 86) C dX2_passAt_85 rfl 5 rfl ?_
      refine pt_get (pc' := 89) C in_0 dX2_passAt_86 rfl 7 6 rfl rfl (by decide) f_101 rfl ?_
      refine pt_iload_n (pc' := 90) C dX2_passAt_89 rfl 6 rfl ?_
      refine pt_iald (pc' := 91) C dX2_passAt_90 rfl 12 rfl rfl b (rfl) (by omega) (by decide) ?_
      refine pt_icmp_ge (pc' := 94) (tgt := 108) C dX2_passAt_91 (by decide) rfl (fun h_91 => ?_) (fun h_91 => ?_)
      · exact pt_cv (lv' := [(8, .int (mx ((k * h) + ((h * (slp sd (b - 1) b)) / 3)) 0)), (7, .int (nI b)), (6, .int (nI (b - 1))), (5, .int 1), (0, .ref (aS 0)), (1, .ref (aB 0)), (2, .int (nI b)), (3, .int h), (4, .int 0)]) rfl [0, 1, 2, 3, 4, 5, 6, 7, 8] rfl rfl (by simpa only [if_pos h_76, if_pos h_91] using K)
      · refine pt_iload (pc' := 96) C dX2_passAt_94 rfl 0 rfl ?_
        refine pt_aload_n (pc' := 97) C dX2_passAt_96 rfl 5 rfl ?_
        refine pt_get (pc' := 100) C in_0 dX2_passAt_97 rfl 7 7 rfl rfl (by decide) f_104 rfl ?_
        refine pt_iload_n (pc' := 101) C dX2_passAt_100 rfl 6 rfl ?_
        refine pt_iald (pc' := 102) C dX2_passAt_101 rfl 13 rfl rfl b (rfl) (by omega) (by decide) ?_
        refine pt_imul (pc' := 103) C dX2_passAt_102 rfl ?_
        refine pt_bipush (pc' := 105) C dX2_passAt_103 rfl (v := 100) (by decide) ?_
        refine pt_idiv (pc' := 106) C dX2_passAt_105 rfl (by decide) ?_
        refine pt_istore (pc' := 108) (lv' := [(8, .int (((mx ((k * h) + ((h * (slp sd (b - 1) b)) / 3)) 0) * (lk b)) / 100)), (7, .int (nI b)), (6, .int (nI (b - 1))), (5, .int 1), (0, .ref (aS 0)), (1, .ref (aB 0)), (2, .int (nI b)), (3, .int h), (4, .int 0)]) C dX2_passAt_106 rfl (by decide) rfl ?_
        exact pt_cv (lv' := [(8, .int (((mx ((k * h) + ((h * (slp sd (b - 1) b)) / 3)) 0) * (lk b)) / 100)), (7, .int (nI b)), (6, .int (nI (b - 1))), (5, .int 1), (0, .ref (aS 0)), (1, .ref (aB 0)), (2, .int (nI b)), (3, .int h), (4, .int 0)]) rfl [0, 1, 2, 3, 4, 5, 6, 7, 8] rfl rfl (by simpa only [if_pos h_76, if_neg h_91] using K)
  refine pt_aload_n (pc' := 109) C dX2_passAt_108 rfl 4 rfl ?_
  refine pt_aload_n (pc' := 110) C dX2_passAt_109 rfl 5 rfl ?_
  refine pt_iload (pc' := 112) C dX2_passAt_110 rfl 2 rfl ?_
  refine pt_iload (pc' := 114) C dX2_passAt_112 rfl 0 rfl ?_
  refine pt_cvI0 (pc' := 117) (w1 := wS cA aS sd se (tkSc sd wl sc (b - 1) (if (kd b) = 1 then if (sz b) ≤ (ln sd (b - 1)) then mx ((k * h) + ((h * (slp sd (b - 1) b)) / 3)) 0 else ((mx ((k * h) + ((h * (slp sd (b - 1) b)) / 3)) 0) * (lk b)) / 100 else mx ((k * h) + ((h * (slp sd (b - 1) b)) / 3)) 0)) ba pa (tkCh sd wl ch (b - 1) (if (kd b) = 1 then if (sz b) ≤ (ln sd (b - 1)) then mx ((k * h) + ((h * (slp sd (b - 1) b)) / 3)) 0 else ((mx ((k * h) + ((h * (slp sd (b - 1) b)) / 3)) 0) * (lk b)) / 100 else mx ((k * h) + ((h * (slp sd (b - 1) b)) / 3)) 0)) ++ wB cA aB n k bs wl fd kd sz lk) (As := [.ref (aB 0), .int (nI (b - 1)), .int (if (kd b) = 1 then if (sz b) ≤ (ln sd (b - 1)) then mx ((k * h) + ((h * (slp sd (b - 1) b)) / 3)) 0 else ((mx ((k * h) + ((h * (slp sd (b - 1) b)) / 3)) 0) * (lk b)) / 100 else mx ((k * h) + ((h * (slp sd (b - 1) b)) / 3)) 0)]) (rest := []) C (mX2_takeFrom l D cA aS sd se sc ba pa ch aB n k bs wl fd kd sz lk (b - 1) (if (kd b) = 1 then if (sz b) ≤ (ln sd (b - 1)) then mx ((k * h) + ((h * (slp sd (b - 1) b)) / 3)) 0 else ((mx ((k * h) + ((h * (slp sd (b - 1) b)) / 3)) 0) * (lk b)) / 100 else mx ((k * h) + ((h * (slp sd (b - 1) b)) / 3)) 0) (by first | assumption | omega)) (cwV 3 C.hts gX2_passAt_X2_takeFrom rfl rfl rfl (by decide +kernel) ⟨Nat.le_of_ble_eq_true rfl, Nat.le_of_ble_eq_true rfl⟩) dX2_passAt_114 rfl 0 rfl rfl rfl rfl rfl (Nat.le_of_ble_eq_true rfl) ⟨Nat.le_of_ble_eq_true rfl, Nat.le_of_ble_eq_true rfl⟩ ?_
  refine pt_istore (pc' := 119) (lv' := [(9, .int (tk sd wl (b - 1) (if (kd b) = 1 then if (sz b) ≤ (ln sd (b - 1)) then mx ((k * h) + ((h * (slp sd (b - 1) b)) / 3)) 0 else ((mx ((k * h) + ((h * (slp sd (b - 1) b)) / 3)) 0) * (lk b)) / 100 else mx ((k * h) + ((h * (slp sd (b - 1) b)) / 3)) 0))), (8, .int (if (kd b) = 1 then if (sz b) ≤ (ln sd (b - 1)) then mx ((k * h) + ((h * (slp sd (b - 1) b)) / 3)) 0 else ((mx ((k * h) + ((h * (slp sd (b - 1) b)) / 3)) 0) * (lk b)) / 100 else mx ((k * h) + ((h * (slp sd (b - 1) b)) / 3)) 0)), (7, .int (nI b)), (6, .int (nI (b - 1))), (5, .int 1), (0, .ref (aS 0)), (1, .ref (aB 0)), (2, .int (nI b)), (3, .int h), (4, .int 0)]) C dX2_passAt_117 rfl (by decide) rfl ?_
  refine pt_aload_n (pc' := 120) C dX2_passAt_119 rfl 6 rfl ?_
  refine pt_get (pc' := 123) C in_0 dX2_passAt_120 rfl 7 5 rfl rfl (by decide) f_94 rfl ?_
  refine pt_iload_n (pc' := 124) C dX2_passAt_123 rfl 7 rfl ?_
  refine pt_iald (pc' := 125) C dX2_passAt_124 rfl 11 rfl rfl b (rfl) (by omega) (by decide) ?_
  refine pt_iconst (pc' := 126) C dX2_passAt_125 rfl (v := 2) (by decide) ?_
  refine pt_jn (q := 145) (k := 0) (n := 0) (wS cA aS sd se (tkSc sd wl sc (b - 1) (if (kd b) = 1 then if (sz b) ≤ (ln sd (b - 1)) then mx ((k * h) + ((h * (slp sd (b - 1) b)) / 3)) 0 else ((mx ((k * h) + ((h * (slp sd (b - 1) b)) / 3)) 0) * (lk b)) / 100 else mx ((k * h) + ((h * (slp sd (b - 1) b)) / 3)) 0)) ba pa (tkCh sd wl ch (b - 1) (if (kd b) = 1 then if (sz b) ≤ (ln sd (b - 1)) then mx ((k * h) + ((h * (slp sd (b - 1) b)) / 3)) 0 else ((mx ((k * h) + ((h * (slp sd (b - 1) b)) / 3)) 0) * (lk b)) / 100 else mx ((k * h) + ((h * (slp sd (b - 1) b)) / 3)) 0)) ++ wB cA aB n k bs wl fd kd sz lk) [(9, .int (tk sd wl (b - 1) (if (kd b) = 1 then if (sz b) ≤ (ln sd (b - 1)) then mx ((k * h) + ((h * (slp sd (b - 1) b)) / 3)) 0 else ((mx ((k * h) + ((h * (slp sd (b - 1) b)) / 3)) 0) * (lk b)) / 100 else mx ((k * h) + ((h * (slp sd (b - 1) b)) / 3)) 0))), (8, .int (if (kd b) = 1 then if (sz b) ≤ (ln sd (b - 1)) then mx ((k * h) + ((h * (slp sd (b - 1) b)) / 3)) 0 else ((mx ((k * h) + ((h * (slp sd (b - 1) b)) / 3)) 0) * (lk b)) / 100 else mx ((k * h) + ((h * (slp sd (b - 1) b)) / 3)) 0)), (7, .int (nI b)), (6, .int (nI (b - 1))), (5, .int 1), (0, .ref (aS 0)), (1, .ref (aB 0)), (2, .int (nI b)), (3, .int h), (4, .int 0)] [.int (if (kd b) = 2 then ((tk sd wl (b - 1) (if (kd b) = 1 then if (sz b) ≤ (ln sd (b - 1)) then mx ((k * h) + ((h * (slp sd (b - 1) b)) / 3)) 0 else ((mx ((k * h) + ((h * (slp sd (b - 1) b)) / 3)) 0) * (lk b)) / 100 else mx ((k * h) + ((h * (slp sd (b - 1) b)) / 3)) 0)) * (sz b)) / 100 else 0)] (fun K => ?_) ?_
  · refine pt_icmp_ne (pc' := 129) (tgt := 144) C dX2_passAt_126 (by decide) rfl (fun h_126 => ?_) (fun h_126 => ?_)
    · refine pt_iconst (pc' := 145) C dX2_passAt_144 rfl (v := 0) (by decide) ?_
      exact pt_cv (lv' := [(9, .int (tk sd wl (b - 1) (if (kd b) = 1 then if (sz b) ≤ (ln sd (b - 1)) then mx ((k * h) + ((h * (slp sd (b - 1) b)) / 3)) 0 else ((mx ((k * h) + ((h * (slp sd (b - 1) b)) / 3)) 0) * (lk b)) / 100 else mx ((k * h) + ((h * (slp sd (b - 1) b)) / 3)) 0))), (8, .int (if (kd b) = 1 then if (sz b) ≤ (ln sd (b - 1)) then mx ((k * h) + ((h * (slp sd (b - 1) b)) / 3)) 0 else ((mx ((k * h) + ((h * (slp sd (b - 1) b)) / 3)) 0) * (lk b)) / 100 else mx ((k * h) + ((h * (slp sd (b - 1) b)) / 3)) 0)), (7, .int (nI b)), (6, .int (nI (b - 1))), (5, .int 1), (0, .ref (aS 0)), (1, .ref (aB 0)), (2, .int (nI b)), (3, .int h), (4, .int 0)]) rfl [0, 1, 2, 3, 4, 5, 6, 7, 8, 9] rfl rfl (by simpa only [if_neg h_126] using K)
    · refine pt_iload (pc' := 131) C dX2_passAt_129 rfl 0 rfl ?_
      refine pt_aload_n (pc' := 132) C dX2_passAt_131 rfl 6 rfl ?_
      refine pt_get (pc' := 135) C in_0 dX2_passAt_132 rfl 7 6 rfl rfl (by decide) f_101 rfl ?_
      refine pt_iload_n (pc' := 136) C dX2_passAt_135 rfl 7 rfl ?_
      refine pt_iald (pc' := 137) C dX2_passAt_136 rfl 12 rfl rfl b (rfl) (by omega) (by decide) ?_
      refine pt_imul (pc' := 138) C dX2_passAt_137 rfl ?_
      refine pt_bipush (pc' := 140) C dX2_passAt_138 rfl (v := 100) (by decide) ?_
      refine pt_idiv (pc' := 141) C dX2_passAt_140 rfl (by decide) ?_
      refine pt_goto (pc' := 145) C dX2_passAt_141 (by decide) ?_
      exact pt_cv (lv' := [(9, .int (tk sd wl (b - 1) (if (kd b) = 1 then if (sz b) ≤ (ln sd (b - 1)) then mx ((k * h) + ((h * (slp sd (b - 1) b)) / 3)) 0 else ((mx ((k * h) + ((h * (slp sd (b - 1) b)) / 3)) 0) * (lk b)) / 100 else mx ((k * h) + ((h * (slp sd (b - 1) b)) / 3)) 0))), (8, .int (if (kd b) = 1 then if (sz b) ≤ (ln sd (b - 1)) then mx ((k * h) + ((h * (slp sd (b - 1) b)) / 3)) 0 else ((mx ((k * h) + ((h * (slp sd (b - 1) b)) / 3)) 0) * (lk b)) / 100 else mx ((k * h) + ((h * (slp sd (b - 1) b)) / 3)) 0)), (7, .int (nI b)), (6, .int (nI (b - 1))), (5, .int 1), (0, .ref (aS 0)), (1, .ref (aB 0)), (2, .int (nI b)), (3, .int h), (4, .int 0)]) rfl [0, 1, 2, 3, 4, 5, 6, 7, 8, 9] rfl rfl (by simpa only [if_pos h_126] using K)
  refine pt_istore (pc' := 147) (lv' := [(10, .int (if (kd b) = 2 then ((tk sd wl (b - 1) (if (kd b) = 1 then if (sz b) ≤ (ln sd (b - 1)) then mx ((k * h) + ((h * (slp sd (b - 1) b)) / 3)) 0 else ((mx ((k * h) + ((h * (slp sd (b - 1) b)) / 3)) 0) * (lk b)) / 100 else mx ((k * h) + ((h * (slp sd (b - 1) b)) / 3)) 0)) * (sz b)) / 100 else 0)), (9, .int (tk sd wl (b - 1) (if (kd b) = 1 then if (sz b) ≤ (ln sd (b - 1)) then mx ((k * h) + ((h * (slp sd (b - 1) b)) / 3)) 0 else ((mx ((k * h) + ((h * (slp sd (b - 1) b)) / 3)) 0) * (lk b)) / 100 else mx ((k * h) + ((h * (slp sd (b - 1) b)) / 3)) 0))), (8, .int (if (kd b) = 1 then if (sz b) ≤ (ln sd (b - 1)) then mx ((k * h) + ((h * (slp sd (b - 1) b)) / 3)) 0 else ((mx ((k * h) + ((h * (slp sd (b - 1) b)) / 3)) 0) * (lk b)) / 100 else mx ((k * h) + ((h * (slp sd (b - 1) b)) / 3)) 0)), (7, .int (nI b)), (6, .int (nI (b - 1))), (5, .int 1), (0, .ref (aS 0)), (1, .ref (aB 0)), (2, .int (nI b)), (3, .int h), (4, .int 0)]) C dX2_passAt_145 rfl (by decide) rfl ?_
  refine pt_aload_n (pc' := 148) C dX2_passAt_147 rfl 6 rfl ?_
  refine pt_get (pc' := 151) C in_2 dX2_passAt_148 rfl 0 3 rfl rfl (by decide) f_21 rfl ?_
  refine pt_iload_n (pc' := 152) C dX2_passAt_151 rfl 8 rfl ?_
  refine pt_dup2 (pc' := 153) C dX2_passAt_152 rfl rfl rfl ?_
  refine pt_iald (pc' := 154) C dX2_passAt_153 rfl 4 rfl rfl b (rfl) (by omega) (by decide) ?_
  refine pt_iload (pc' := 156) C dX2_passAt_154 rfl 0 rfl ?_
  refine pt_iadd (pc' := 157) C dX2_passAt_156 rfl ?_
  refine pt_iast (pc' := 158) (ws' := wS cA aS sd se (tkSc sd wl sc (b - 1) (if (kd b) = 1 then if (sz b) ≤ (ln sd (b - 1)) then mx ((k * h) + ((h * (slp sd (b - 1) b)) / 3)) 0 else ((mx ((k * h) + ((h * (slp sd (b - 1) b)) / 3)) 0) * (lk b)) / 100 else mx ((k * h) + ((h * (slp sd (b - 1) b)) / 3)) 0)) (upd ba b ((ba b) + (if (kd b) = 2 then ((tk sd wl (b - 1) (if (kd b) = 1 then if (sz b) ≤ (ln sd (b - 1)) then mx ((k * h) + ((h * (slp sd (b - 1) b)) / 3)) 0 else ((mx ((k * h) + ((h * (slp sd (b - 1) b)) / 3)) 0) * (lk b)) / 100 else mx ((k * h) + ((h * (slp sd (b - 1) b)) / 3)) 0)) * (sz b)) / 100 else 0))) pa (tkCh sd wl ch (b - 1) (if (kd b) = 1 then if (sz b) ≤ (ln sd (b - 1)) then mx ((k * h) + ((h * (slp sd (b - 1) b)) / 3)) 0 else ((mx ((k * h) + ((h * (slp sd (b - 1) b)) / 3)) 0) * (lk b)) / 100 else mx ((k * h) + ((h * (slp sd (b - 1) b)) / 3)) 0)) ++ wB cA aB n k bs wl fd kd sz lk) C dX2_passAt_157 rfl 4 rfl rfl b (rfl) (by omega) (by decide) rfl ?_
  refine pt_aload_n (pc' := 159) C dX2_passAt_158 rfl 6 rfl ?_
  refine pt_get (pc' := 162) C in_2 dX2_passAt_159 rfl 0 5 rfl rfl (by decide) f_27 rfl ?_
  refine pt_iload (pc' := 164) C dX2_passAt_162 rfl 3 rfl ?_
  refine pt_dup2 (pc' := 165) C dX2_passAt_164 rfl rfl rfl ?_
  refine pt_iald (pc' := 166) C dX2_passAt_165 rfl 6 rfl rfl b (rfl) (by omega) (by decide) ?_
  refine pt_iload (pc' := 168) C dX2_passAt_166 rfl 1 rfl ?_
  refine pt_iload (pc' := 170) C dX2_passAt_168 rfl 0 rfl ?_
  refine pt_isub (pc' := 171) C dX2_passAt_170 rfl ?_
  refine pt_iadd (pc' := 172) C dX2_passAt_171 rfl ?_
  refine pt_iast (pc' := 173) (ws' := wS cA aS sd se (tkSc sd wl sc (b - 1) (if (kd b) = 1 then if (sz b) ≤ (ln sd (b - 1)) then mx ((k * h) + ((h * (slp sd (b - 1) b)) / 3)) 0 else ((mx ((k * h) + ((h * (slp sd (b - 1) b)) / 3)) 0) * (lk b)) / 100 else mx ((k * h) + ((h * (slp sd (b - 1) b)) / 3)) 0)) (upd ba b ((ba b) + (if (kd b) = 2 then ((tk sd wl (b - 1) (if (kd b) = 1 then if (sz b) ≤ (ln sd (b - 1)) then mx ((k * h) + ((h * (slp sd (b - 1) b)) / 3)) 0 else ((mx ((k * h) + ((h * (slp sd (b - 1) b)) / 3)) 0) * (lk b)) / 100 else mx ((k * h) + ((h * (slp sd (b - 1) b)) / 3)) 0)) * (sz b)) / 100 else 0))) pa (upd (tkCh sd wl ch (b - 1) (if (kd b) = 1 then if (sz b) ≤ (ln sd (b - 1)) then mx ((k * h) + ((h * (slp sd (b - 1) b)) / 3)) 0 else ((mx ((k * h) + ((h * (slp sd (b - 1) b)) / 3)) 0) * (lk b)) / 100 else mx ((k * h) + ((h * (slp sd (b - 1) b)) / 3)) 0)) b (((tkCh sd wl ch (b - 1) (if (kd b) = 1 then if (sz b) ≤ (ln sd (b - 1)) then mx ((k * h) + ((h * (slp sd (b - 1) b)) / 3)) 0 else ((mx ((k * h) + ((h * (slp sd (b - 1) b)) / 3)) 0) * (lk b)) / 100 else mx ((k * h) + ((h * (slp sd (b - 1) b)) / 3)) 0)) b) + ((tk sd wl (b - 1) (if (kd b) = 1 then if (sz b) ≤ (ln sd (b - 1)) then mx ((k * h) + ((h * (slp sd (b - 1) b)) / 3)) 0 else ((mx ((k * h) + ((h * (slp sd (b - 1) b)) / 3)) 0) * (lk b)) / 100 else mx ((k * h) + ((h * (slp sd (b - 1) b)) / 3)) 0)) - (if (kd b) = 2 then ((tk sd wl (b - 1) (if (kd b) = 1 then if (sz b) ≤ (ln sd (b - 1)) then mx ((k * h) + ((h * (slp sd (b - 1) b)) / 3)) 0 else ((mx ((k * h) + ((h * (slp sd (b - 1) b)) / 3)) 0) * (lk b)) / 100 else mx ((k * h) + ((h * (slp sd (b - 1) b)) / 3)) 0)) * (sz b)) / 100 else 0)))) ++ wB cA aB n k bs wl fd kd sz lk) C dX2_passAt_172 rfl 6 rfl rfl b (rfl) (by omega) (by decide) rfl ?_
  refine pt_aload_n (pc' := 174) C dX2_passAt_173 rfl 6 rfl ?_
  refine pt_get (pc' := 177) C in_2 dX2_passAt_174 rfl 0 4 rfl rfl (by decide) f_24 rfl ?_
  refine pt_iload_n (pc' := 178) C dX2_passAt_177 rfl 8 rfl ?_
  refine pt_iload (pc' := 180) C dX2_passAt_178 rfl 5 rfl ?_
  refine pt_if_eq (pc' := 183) (tgt := 188) C dX2_passAt_180 (by decide) rfl (fun h_180 => absurd h_180 (by decide)) (fun h_180 => ?_)
  refine pt_iload (pc' := 185) C dX2_passAt_183 rfl 1 rfl ?_
  refine pt_goto (pc' := 191) C dX2_passAt_185 (by decide) ?_
  refine pt_iast (pc' := 192) (ws' := wS cA aS sd se (tkSc sd wl sc (b - 1) (if (kd b) = 1 then if (sz b) ≤ (ln sd (b - 1)) then mx ((k * h) + ((h * (slp sd (b - 1) b)) / 3)) 0 else ((mx ((k * h) + ((h * (slp sd (b - 1) b)) / 3)) 0) * (lk b)) / 100 else mx ((k * h) + ((h * (slp sd (b - 1) b)) / 3)) 0)) (upd ba b ((ba b) + (if (kd b) = 2 then ((tk sd wl (b - 1) (if (kd b) = 1 then if (sz b) ≤ (ln sd (b - 1)) then mx ((k * h) + ((h * (slp sd (b - 1) b)) / 3)) 0 else ((mx ((k * h) + ((h * (slp sd (b - 1) b)) / 3)) 0) * (lk b)) / 100 else mx ((k * h) + ((h * (slp sd (b - 1) b)) / 3)) 0)) * (sz b)) / 100 else 0))) (upd pa b (tk sd wl (b - 1) (if (kd b) = 1 then if (sz b) ≤ (ln sd (b - 1)) then mx ((k * h) + ((h * (slp sd (b - 1) b)) / 3)) 0 else ((mx ((k * h) + ((h * (slp sd (b - 1) b)) / 3)) 0) * (lk b)) / 100 else mx ((k * h) + ((h * (slp sd (b - 1) b)) / 3)) 0))) (upd (tkCh sd wl ch (b - 1) (if (kd b) = 1 then if (sz b) ≤ (ln sd (b - 1)) then mx ((k * h) + ((h * (slp sd (b - 1) b)) / 3)) 0 else ((mx ((k * h) + ((h * (slp sd (b - 1) b)) / 3)) 0) * (lk b)) / 100 else mx ((k * h) + ((h * (slp sd (b - 1) b)) / 3)) 0)) b (((tkCh sd wl ch (b - 1) (if (kd b) = 1 then if (sz b) ≤ (ln sd (b - 1)) then mx ((k * h) + ((h * (slp sd (b - 1) b)) / 3)) 0 else ((mx ((k * h) + ((h * (slp sd (b - 1) b)) / 3)) 0) * (lk b)) / 100 else mx ((k * h) + ((h * (slp sd (b - 1) b)) / 3)) 0)) b) + ((tk sd wl (b - 1) (if (kd b) = 1 then if (sz b) ≤ (ln sd (b - 1)) then mx ((k * h) + ((h * (slp sd (b - 1) b)) / 3)) 0 else ((mx ((k * h) + ((h * (slp sd (b - 1) b)) / 3)) 0) * (lk b)) / 100 else mx ((k * h) + ((h * (slp sd (b - 1) b)) / 3)) 0)) - (if (kd b) = 2 then ((tk sd wl (b - 1) (if (kd b) = 1 then if (sz b) ≤ (ln sd (b - 1)) then mx ((k * h) + ((h * (slp sd (b - 1) b)) / 3)) 0 else ((mx ((k * h) + ((h * (slp sd (b - 1) b)) / 3)) 0) * (lk b)) / 100 else mx ((k * h) + ((h * (slp sd (b - 1) b)) / 3)) 0)) * (sz b)) / 100 else 0)))) ++ wB cA aB n k bs wl fd kd sz lk) C dX2_passAt_191 rfl 5 rfl rfl b (rfl) (by omega) (by decide) rfl ?_
  exact pt_vret C hr hk dX2_passAt_192 (rfl)

set_option maxHeartbeats 4000000 in
set_option maxRecDepth 100000 in
theorem cX2_passAt_R (l : Launch) (D : va_G) (cA : ClassId) (aS : Nat → Nat) (sd : Nat → Int32) (se : Nat → Int32) (sc : Nat → Int32) (ba : Nat → Int32) (pa : Nat → Int32) (ch : Nat → Int32) (aB : Nat → Nat) (n : Nat) (k : Int32) (bs : Nat → Int32) (wl : Nat → Int32) (fd : Nat → Int32) (kd : Nat → Int32) (sz : Nat → Int32) (lk : Nat → Int32) (b : Nat) (h : Int32) (hb : 1 ≤ b) (hbn : b < n) (hm : n ≤ 12) : mt_V l yX2_passAt wsX2_passAt { frames := 2, cells := 0, slots := 0, locals := 48 } D [(cA, .int)] [.ref (aS 0), .ref (aB 0), .int (nI b), .int h, .int 1] (wS cA aS sd se sc ba pa ch ++ wB cA aB n k bs wl fd kd sz lk) (wS cA aS sd se ((psX true k h sd wl kd sz lk b (sc, ba, pa, ch)).1) ((psX true k h sd wl kd sz lk b (sc, ba, pa, ch)).2.1) ((psX true k h sd wl kd sz lk b (sc, ba, pa, ch)).2.2.1) ((psX true k h sd wl kd sz lk b (sc, ba, pa, ch)).2.2.2) ++ wB cA aB n k bs wl fd kd sz lk) := by
  refine mt_ofV (cc := cX2_passAt) (maxL := 11) (ret := none) (lv := [(0, .ref (aS 0)), (1, .ref (aB 0)), (2, .int (nI b)), (3, .int h), (4, .int 1)]) (by decide) rfl (Nat.le_of_ble_eq_true rfl) rfl ?_
  intro p e s m args below meth c A C hr hk
  have f_78 := C.hts (.fieldLink RX2 78 "ShoreFields$Begin" "shoreNumber" "I") (by decide +kernel)
  have in_0 : ∀ w ∈ u_ws RX0 TX0 8, w ∈ wsX2_passAt := by decide +kernel
  have m_91 := C.hts (.methodLink RX2 91 Lib.Math.max.name) (by decide +kernel)
  have ms_mmax := C.hts (.static Lib.Math.max.name) (by decide +kernel)
  have mi_math := C.hts (.initialized "java/lang/Math") (by decide +kernel)
  have mc_mmax := C.hts (.code Lib.Math.max.name Lib.Math.max.code 2 (some .int)) (by decide +kernel)
  have f_94 := C.hts (.fieldLink RX2 94 "ShoreFields$Begin" "kindAt" "[I") (by decide +kernel)
  have f_101 := C.hts (.fieldLink RX2 101 "ShoreFields$Begin" "sizeAt" "[I") (by decide +kernel)
  have f_104 := C.hts (.fieldLink RX2 104 "ShoreFields$Begin" "leakAt" "[I") (by decide +kernel)
  have f_21 := C.hts (.fieldLink RX2 21 "ShoreFields$Shore" "barAt" "[I") (by decide +kernel)
  have in_2 : ∀ w ∈ u_ws RX2 TX2 6, w ∈ wsX2_passAt := by decide +kernel
  have f_27 := C.hts (.fieldLink RX2 27 "ShoreFields$Shore" "changeOf" "[I") (by decide +kernel)
  have f_24 := C.hts (.fieldLink RX2 24 "ShoreFields$Shore" "passedAt" "[I") (by decide +kernel)
  refine pt_iload (pc' := 2) C dX2_passAt_0 rfl 4 rfl ?_
  refine pt_if_ne (pc' := 5) (tgt := 9) C dX2_passAt_2 (by decide) rfl (fun h_2 => ?_) (fun h_2 => absurd h_2 (by decide))
  refine pt_iconst (pc' := 10) C dX2_passAt_9 rfl (v := 0) (by decide) ?_
  refine pt_istore (pc' := 12) (lv' := [(5, .int 0), (0, .ref (aS 0)), (1, .ref (aB 0)), (2, .int (nI b)), (3, .int h), (4, .int 1)]) C dX2_passAt_10 rfl (by decide) rfl ?_
  refine pt_iload (pc' := 14) C dX2_passAt_12 rfl 0 rfl ?_
  refine pt_if_eq (pc' := 17) (tgt := 23) C dX2_passAt_14 (by decide) rfl (fun h_14 => ?_) (fun h_14 => absurd (by decide) h_14)
  refine pt_iload_n (pc' := 24) C dX2_passAt_23 rfl 3 rfl ?_
  refine pt_istore (pc' := 26) (lv' := [(6, .int (nI b)), (5, .int 0), (0, .ref (aS 0)), (1, .ref (aB 0)), (2, .int (nI b)), (3, .int h), (4, .int 1)]) C dX2_passAt_24 rfl (by decide) rfl ?_
  refine pt_iload (pc' := 28) C dX2_passAt_26 rfl 1 rfl ?_
  refine pt_if_eq (pc' := 31) (tgt := 35) C dX2_passAt_28 (by decide) rfl (fun h_28 => ?_) (fun h_28 => absurd (by decide) h_28)
  refine pt_iload_n (pc' := 36) C dX2_passAt_35 rfl 4 rfl ?_
  refine pt_iconst (pc' := 37) C dX2_passAt_36 rfl (v := 1) (by decide) ?_
  refine pt_isub (pc' := 38) C dX2_passAt_37 rfl ?_
  refine pt_eq (st' := [.int (nI (b - 1))]) rfl rfl (by rw [nI_m1 (by omega)]) ?_
  refine pt_istore (pc' := 40) (lv' := [(7, .int (nI (b - 1))), (6, .int (nI b)), (5, .int 0), (0, .ref (aS 0)), (1, .ref (aB 0)), (2, .int (nI b)), (3, .int h), (4, .int 1)]) C dX2_passAt_38 rfl (by decide) rfl ?_
  refine pt_aload_n (pc' := 41) C dX2_passAt_40 rfl 4 rfl ?_
  refine pt_get (pc' := 44) C in_0 dX2_passAt_41 rfl 7 1 rfl rfl (by decide) f_78 rfl ?_
  refine pt_iload_n (pc' := 45) C dX2_passAt_44 rfl 6 rfl ?_
  refine pt_imul (pc' := 46) C dX2_passAt_45 rfl ?_
  refine pt_iload_n (pc' := 47) C dX2_passAt_46 rfl 6 rfl ?_
  refine pt_aload_n (pc' := 48) C dX2_passAt_47 rfl 3 rfl ?_
  refine pt_iload (pc' := 50) C dX2_passAt_48 rfl 1 rfl ?_
  refine pt_iload (pc' := 52) C dX2_passAt_50 rfl 0 rfl ?_
  refine pt_cvI (pc' := 55) (ws' := wS cA aS sd se sc ba pa ch ++ wB cA aB n k bs wl fd kd sz lk) (wr := wB cA aB n k bs wl fd kd sz lk) (As := [.int (nI b), .int (nI (b - 1))]) (rest := [.int h, .int (k * h)]) C (mX2_slope l D cA aS sd se sc ba pa ch b (b - 1) (by first | assumption | omega) (by first | assumption | omega)) (cwV 2 C.hts gX2_passAt_X2_slope rfl rfl rfl (by decide +kernel) ⟨Nat.le_of_ble_eq_true rfl, Nat.le_of_ble_eq_true rfl⟩) dX2_passAt_52 rfl 0 rfl rfl rfl rfl rfl (Nat.le_of_ble_eq_true rfl) ⟨Nat.le_of_ble_eq_true rfl, Nat.le_of_ble_eq_true rfl⟩ [0, 1, 2, 3, 4, 5, 6] [7, 8, 9, 10, 11, 12, 13] [7, 8, 9, 10, 11, 12, 13, 0, 1, 2, 3, 4, 5, 6] rfl (by decide) rfl (by decide) (by decide) rfl (by decide) ?_
  refine pt_imul (pc' := 56) C dX2_passAt_55 rfl ?_
  refine pt_iconst (pc' := 57) C dX2_passAt_56 rfl (v := 3) (by decide) ?_
  refine pt_idiv (pc' := 58) C dX2_passAt_57 rfl (by decide) ?_
  refine pt_iadd (pc' := 59) C dX2_passAt_58 rfl ?_
  refine pt_istore (pc' := 61) (lv' := [(8, .int ((k * h) + ((h * (slp sd b (b - 1))) / 3))), (7, .int (nI (b - 1))), (6, .int (nI b)), (5, .int 0), (0, .ref (aS 0)), (1, .ref (aB 0)), (2, .int (nI b)), (3, .int h), (4, .int 1)]) C dX2_passAt_59 rfl (by decide) rfl ?_
  refine pt_iload (pc' := 63) C dX2_passAt_61 rfl 0 rfl ?_
  refine pt_iconst (pc' := 64) C dX2_passAt_63 rfl (v := 0) (by decide) ?_
  refine pt_mmax (pc' := 67) C dX2_passAt_64 rfl m_91 ms_mmax mi_math mc_mmax (Nat.le_of_ble_eq_true rfl) (Nat.le_of_ble_eq_true rfl) (Nat.le_of_ble_eq_true rfl) (Nat.le_of_ble_eq_true rfl) ?_
  refine pt_istore (pc' := 69) (lv' := [(8, .int (mx ((k * h) + ((h * (slp sd b (b - 1))) / 3)) 0)), (7, .int (nI (b - 1))), (6, .int (nI b)), (5, .int 0), (0, .ref (aS 0)), (1, .ref (aB 0)), (2, .int (nI b)), (3, .int h), (4, .int 1)]) C dX2_passAt_67 rfl (by decide) rfl ?_
  refine pt_aload_n (pc' := 70) C dX2_passAt_69 rfl 5 rfl ?_
  refine pt_get (pc' := 73) C in_0 dX2_passAt_70 rfl 7 5 rfl rfl (by decide) f_94 rfl ?_
  refine pt_iload_n (pc' := 74) C dX2_passAt_73 rfl 6 rfl ?_
  refine pt_iald (pc' := 75) C dX2_passAt_74 rfl 11 rfl rfl b (rfl) (by omega) (by decide) ?_
  refine pt_iconst (pc' := 76) C dX2_passAt_75 rfl (v := 1) (by decide) ?_
  refine pt_jn (q := 108) (k := 0) (n := 0) (wS cA aS sd se sc ba pa ch ++ wB cA aB n k bs wl fd kd sz lk) [(8, .int (if (kd b) = 1 then if (sz b) ≤ (ln sd b) then mx ((k * h) + ((h * (slp sd b (b - 1))) / 3)) 0 else ((mx ((k * h) + ((h * (slp sd b (b - 1))) / 3)) 0) * (lk b)) / 100 else mx ((k * h) + ((h * (slp sd b (b - 1))) / 3)) 0)), (7, .int (nI (b - 1))), (6, .int (nI b)), (5, .int 0), (0, .ref (aS 0)), (1, .ref (aB 0)), (2, .int (nI b)), (3, .int h), (4, .int 1)] [] (fun K => ?_) ?_
  · refine pt_icmp_ne (pc' := 79) (tgt := 108) C dX2_passAt_76 (by decide) rfl (fun h_76 => ?_) (fun h_76 => ?_)
    · exact pt_cv (lv' := [(8, .int (mx ((k * h) + ((h * (slp sd b (b - 1))) / 3)) 0)), (7, .int (nI (b - 1))), (6, .int (nI b)), (5, .int 0), (0, .ref (aS 0)), (1, .ref (aB 0)), (2, .int (nI b)), (3, .int h), (4, .int 1)]) rfl [0, 1, 2, 3, 4, 5, 6, 7, 8] rfl rfl (by simpa only [if_neg h_76] using K)
    · refine pt_aload_n (pc' := 80) C dX2_passAt_79 rfl 4 rfl ?_
      refine pt_iload (pc' := 82) C dX2_passAt_80 rfl 2 rfl ?_
      refine pt_cvI (pc' := 85) (ws' := wS cA aS sd se sc ba pa ch ++ wB cA aB n k bs wl fd kd sz lk) (wr := wB cA aB n k bs wl fd kd sz lk) (As := [.int (nI b)]) (rest := []) C (mX2_lineOf l D cA aS sd se sc ba pa ch b (by first | assumption | omega)) (cwV 1 C.hts gX2_passAt_X2_lineOf rfl rfl rfl (by decide +kernel) ⟨Nat.le_of_ble_eq_true rfl, Nat.le_of_ble_eq_true rfl⟩) dX2_passAt_82 rfl 0 rfl rfl rfl rfl rfl (Nat.le_of_ble_eq_true rfl) ⟨Nat.le_of_ble_eq_true rfl, Nat.le_of_ble_eq_true rfl⟩ [0, 1, 2, 3, 4, 5, 6] [7, 8, 9, 10, 11, 12, 13] [7, 8, 9, 10, 11, 12, 13, 0, 1, 2, 3, 4, 5, 6] rfl (by decide) rfl (by decide) (by decide) rfl (by decide) ?_
      refine pt_aload_n (pc' := 86) C dX2_passAt_85 rfl 5 rfl ?_
      refine pt_get (pc' := 89) C in_0 dX2_passAt_86 rfl 7 6 rfl rfl (by decide) f_101 rfl ?_
      refine pt_iload_n (pc' := 90) C dX2_passAt_89 rfl 6 rfl ?_
      refine pt_iald (pc' := 91) C dX2_passAt_90 rfl 12 rfl rfl b (rfl) (by omega) (by decide) ?_
      refine pt_icmp_ge (pc' := 94) (tgt := 108) C dX2_passAt_91 (by decide) rfl (fun h_91 => ?_) (fun h_91 => ?_)
      · exact pt_cv (lv' := [(8, .int (mx ((k * h) + ((h * (slp sd b (b - 1))) / 3)) 0)), (7, .int (nI (b - 1))), (6, .int (nI b)), (5, .int 0), (0, .ref (aS 0)), (1, .ref (aB 0)), (2, .int (nI b)), (3, .int h), (4, .int 1)]) rfl [0, 1, 2, 3, 4, 5, 6, 7, 8] rfl rfl (by simpa only [if_pos h_76, if_pos h_91] using K)
      · refine pt_iload (pc' := 96) C dX2_passAt_94 rfl 0 rfl ?_
        refine pt_aload_n (pc' := 97) C dX2_passAt_96 rfl 5 rfl ?_
        refine pt_get (pc' := 100) C in_0 dX2_passAt_97 rfl 7 7 rfl rfl (by decide) f_104 rfl ?_
        refine pt_iload_n (pc' := 101) C dX2_passAt_100 rfl 6 rfl ?_
        refine pt_iald (pc' := 102) C dX2_passAt_101 rfl 13 rfl rfl b (rfl) (by omega) (by decide) ?_
        refine pt_imul (pc' := 103) C dX2_passAt_102 rfl ?_
        refine pt_bipush (pc' := 105) C dX2_passAt_103 rfl (v := 100) (by decide) ?_
        refine pt_idiv (pc' := 106) C dX2_passAt_105 rfl (by decide) ?_
        refine pt_istore (pc' := 108) (lv' := [(8, .int (((mx ((k * h) + ((h * (slp sd b (b - 1))) / 3)) 0) * (lk b)) / 100)), (7, .int (nI (b - 1))), (6, .int (nI b)), (5, .int 0), (0, .ref (aS 0)), (1, .ref (aB 0)), (2, .int (nI b)), (3, .int h), (4, .int 1)]) C dX2_passAt_106 rfl (by decide) rfl ?_
        exact pt_cv (lv' := [(8, .int (((mx ((k * h) + ((h * (slp sd b (b - 1))) / 3)) 0) * (lk b)) / 100)), (7, .int (nI (b - 1))), (6, .int (nI b)), (5, .int 0), (0, .ref (aS 0)), (1, .ref (aB 0)), (2, .int (nI b)), (3, .int h), (4, .int 1)]) rfl [0, 1, 2, 3, 4, 5, 6, 7, 8] rfl rfl (by simpa only [if_pos h_76, if_neg h_91] using K)
  refine pt_aload_n (pc' := 109) C dX2_passAt_108 rfl 4 rfl ?_
  refine pt_aload_n (pc' := 110) C dX2_passAt_109 rfl 5 rfl ?_
  refine pt_iload (pc' := 112) C dX2_passAt_110 rfl 2 rfl ?_
  refine pt_iload (pc' := 114) C dX2_passAt_112 rfl 0 rfl ?_
  refine pt_cvI0 (pc' := 117) (w1 := wS cA aS sd se (tkSc sd wl sc b (if (kd b) = 1 then if (sz b) ≤ (ln sd b) then mx ((k * h) + ((h * (slp sd b (b - 1))) / 3)) 0 else ((mx ((k * h) + ((h * (slp sd b (b - 1))) / 3)) 0) * (lk b)) / 100 else mx ((k * h) + ((h * (slp sd b (b - 1))) / 3)) 0)) ba pa (tkCh sd wl ch b (if (kd b) = 1 then if (sz b) ≤ (ln sd b) then mx ((k * h) + ((h * (slp sd b (b - 1))) / 3)) 0 else ((mx ((k * h) + ((h * (slp sd b (b - 1))) / 3)) 0) * (lk b)) / 100 else mx ((k * h) + ((h * (slp sd b (b - 1))) / 3)) 0)) ++ wB cA aB n k bs wl fd kd sz lk) (As := [.ref (aB 0), .int (nI b), .int (if (kd b) = 1 then if (sz b) ≤ (ln sd b) then mx ((k * h) + ((h * (slp sd b (b - 1))) / 3)) 0 else ((mx ((k * h) + ((h * (slp sd b (b - 1))) / 3)) 0) * (lk b)) / 100 else mx ((k * h) + ((h * (slp sd b (b - 1))) / 3)) 0)]) (rest := []) C (mX2_takeFrom l D cA aS sd se sc ba pa ch aB n k bs wl fd kd sz lk b (if (kd b) = 1 then if (sz b) ≤ (ln sd b) then mx ((k * h) + ((h * (slp sd b (b - 1))) / 3)) 0 else ((mx ((k * h) + ((h * (slp sd b (b - 1))) / 3)) 0) * (lk b)) / 100 else mx ((k * h) + ((h * (slp sd b (b - 1))) / 3)) 0) (by first | assumption | omega)) (cwV 3 C.hts gX2_passAt_X2_takeFrom rfl rfl rfl (by decide +kernel) ⟨Nat.le_of_ble_eq_true rfl, Nat.le_of_ble_eq_true rfl⟩) dX2_passAt_114 rfl 0 rfl rfl rfl rfl rfl (Nat.le_of_ble_eq_true rfl) ⟨Nat.le_of_ble_eq_true rfl, Nat.le_of_ble_eq_true rfl⟩ ?_
  refine pt_istore (pc' := 119) (lv' := [(9, .int (tk sd wl b (if (kd b) = 1 then if (sz b) ≤ (ln sd b) then mx ((k * h) + ((h * (slp sd b (b - 1))) / 3)) 0 else ((mx ((k * h) + ((h * (slp sd b (b - 1))) / 3)) 0) * (lk b)) / 100 else mx ((k * h) + ((h * (slp sd b (b - 1))) / 3)) 0))), (8, .int (if (kd b) = 1 then if (sz b) ≤ (ln sd b) then mx ((k * h) + ((h * (slp sd b (b - 1))) / 3)) 0 else ((mx ((k * h) + ((h * (slp sd b (b - 1))) / 3)) 0) * (lk b)) / 100 else mx ((k * h) + ((h * (slp sd b (b - 1))) / 3)) 0)), (7, .int (nI (b - 1))), (6, .int (nI b)), (5, .int 0), (0, .ref (aS 0)), (1, .ref (aB 0)), (2, .int (nI b)), (3, .int h), (4, .int 1)]) C dX2_passAt_117 rfl (by decide) rfl ?_
  refine pt_aload_n (pc' := 120) C dX2_passAt_119 rfl 6 rfl ?_
  refine pt_get (pc' := 123) C in_0 dX2_passAt_120 rfl 7 5 rfl rfl (by decide) f_94 rfl ?_
  refine pt_iload_n (pc' := 124) C dX2_passAt_123 rfl 7 rfl ?_
  refine pt_iald (pc' := 125) C dX2_passAt_124 rfl 11 rfl rfl b (rfl) (by omega) (by decide) ?_
  refine pt_iconst (pc' := 126) C dX2_passAt_125 rfl (v := 2) (by decide) ?_
  refine pt_jn (q := 145) (k := 0) (n := 0) (wS cA aS sd se (tkSc sd wl sc b (if (kd b) = 1 then if (sz b) ≤ (ln sd b) then mx ((k * h) + ((h * (slp sd b (b - 1))) / 3)) 0 else ((mx ((k * h) + ((h * (slp sd b (b - 1))) / 3)) 0) * (lk b)) / 100 else mx ((k * h) + ((h * (slp sd b (b - 1))) / 3)) 0)) ba pa (tkCh sd wl ch b (if (kd b) = 1 then if (sz b) ≤ (ln sd b) then mx ((k * h) + ((h * (slp sd b (b - 1))) / 3)) 0 else ((mx ((k * h) + ((h * (slp sd b (b - 1))) / 3)) 0) * (lk b)) / 100 else mx ((k * h) + ((h * (slp sd b (b - 1))) / 3)) 0)) ++ wB cA aB n k bs wl fd kd sz lk) [(9, .int (tk sd wl b (if (kd b) = 1 then if (sz b) ≤ (ln sd b) then mx ((k * h) + ((h * (slp sd b (b - 1))) / 3)) 0 else ((mx ((k * h) + ((h * (slp sd b (b - 1))) / 3)) 0) * (lk b)) / 100 else mx ((k * h) + ((h * (slp sd b (b - 1))) / 3)) 0))), (8, .int (if (kd b) = 1 then if (sz b) ≤ (ln sd b) then mx ((k * h) + ((h * (slp sd b (b - 1))) / 3)) 0 else ((mx ((k * h) + ((h * (slp sd b (b - 1))) / 3)) 0) * (lk b)) / 100 else mx ((k * h) + ((h * (slp sd b (b - 1))) / 3)) 0)), (7, .int (nI (b - 1))), (6, .int (nI b)), (5, .int 0), (0, .ref (aS 0)), (1, .ref (aB 0)), (2, .int (nI b)), (3, .int h), (4, .int 1)] [.int (if (kd b) = 2 then ((tk sd wl b (if (kd b) = 1 then if (sz b) ≤ (ln sd b) then mx ((k * h) + ((h * (slp sd b (b - 1))) / 3)) 0 else ((mx ((k * h) + ((h * (slp sd b (b - 1))) / 3)) 0) * (lk b)) / 100 else mx ((k * h) + ((h * (slp sd b (b - 1))) / 3)) 0)) * (sz b)) / 100 else 0)] (fun K => ?_) ?_
  · refine pt_icmp_ne (pc' := 129) (tgt := 144) C dX2_passAt_126 (by decide) rfl (fun h_126 => ?_) (fun h_126 => ?_)
    · refine pt_iconst (pc' := 145) C dX2_passAt_144 rfl (v := 0) (by decide) ?_
      exact pt_cv (lv' := [(9, .int (tk sd wl b (if (kd b) = 1 then if (sz b) ≤ (ln sd b) then mx ((k * h) + ((h * (slp sd b (b - 1))) / 3)) 0 else ((mx ((k * h) + ((h * (slp sd b (b - 1))) / 3)) 0) * (lk b)) / 100 else mx ((k * h) + ((h * (slp sd b (b - 1))) / 3)) 0))), (8, .int (if (kd b) = 1 then if (sz b) ≤ (ln sd b) then mx ((k * h) + ((h * (slp sd b (b - 1))) / 3)) 0 else ((mx ((k * h) + ((h * (slp sd b (b - 1))) / 3)) 0) * (lk b)) / 100 else mx ((k * h) + ((h * (slp sd b (b - 1))) / 3)) 0)), (7, .int (nI (b - 1))), (6, .int (nI b)), (5, .int 0), (0, .ref (aS 0)), (1, .ref (aB 0)), (2, .int (nI b)), (3, .int h), (4, .int 1)]) rfl [0, 1, 2, 3, 4, 5, 6, 7, 8, 9] rfl rfl (by simpa only [if_neg h_126] using K)
    · refine pt_iload (pc' := 131) C dX2_passAt_129 rfl 0 rfl ?_
      refine pt_aload_n (pc' := 132) C dX2_passAt_131 rfl 6 rfl ?_
      refine pt_get (pc' := 135) C in_0 dX2_passAt_132 rfl 7 6 rfl rfl (by decide) f_101 rfl ?_
      refine pt_iload_n (pc' := 136) C dX2_passAt_135 rfl 7 rfl ?_
      refine pt_iald (pc' := 137) C dX2_passAt_136 rfl 12 rfl rfl b (rfl) (by omega) (by decide) ?_
      refine pt_imul (pc' := 138) C dX2_passAt_137 rfl ?_
      refine pt_bipush (pc' := 140) C dX2_passAt_138 rfl (v := 100) (by decide) ?_
      refine pt_idiv (pc' := 141) C dX2_passAt_140 rfl (by decide) ?_
      refine pt_goto (pc' := 145) C dX2_passAt_141 (by decide) ?_
      exact pt_cv (lv' := [(9, .int (tk sd wl b (if (kd b) = 1 then if (sz b) ≤ (ln sd b) then mx ((k * h) + ((h * (slp sd b (b - 1))) / 3)) 0 else ((mx ((k * h) + ((h * (slp sd b (b - 1))) / 3)) 0) * (lk b)) / 100 else mx ((k * h) + ((h * (slp sd b (b - 1))) / 3)) 0))), (8, .int (if (kd b) = 1 then if (sz b) ≤ (ln sd b) then mx ((k * h) + ((h * (slp sd b (b - 1))) / 3)) 0 else ((mx ((k * h) + ((h * (slp sd b (b - 1))) / 3)) 0) * (lk b)) / 100 else mx ((k * h) + ((h * (slp sd b (b - 1))) / 3)) 0)), (7, .int (nI (b - 1))), (6, .int (nI b)), (5, .int 0), (0, .ref (aS 0)), (1, .ref (aB 0)), (2, .int (nI b)), (3, .int h), (4, .int 1)]) rfl [0, 1, 2, 3, 4, 5, 6, 7, 8, 9] rfl rfl (by simpa only [if_pos h_126] using K)
  refine pt_istore (pc' := 147) (lv' := [(10, .int (if (kd b) = 2 then ((tk sd wl b (if (kd b) = 1 then if (sz b) ≤ (ln sd b) then mx ((k * h) + ((h * (slp sd b (b - 1))) / 3)) 0 else ((mx ((k * h) + ((h * (slp sd b (b - 1))) / 3)) 0) * (lk b)) / 100 else mx ((k * h) + ((h * (slp sd b (b - 1))) / 3)) 0)) * (sz b)) / 100 else 0)), (9, .int (tk sd wl b (if (kd b) = 1 then if (sz b) ≤ (ln sd b) then mx ((k * h) + ((h * (slp sd b (b - 1))) / 3)) 0 else ((mx ((k * h) + ((h * (slp sd b (b - 1))) / 3)) 0) * (lk b)) / 100 else mx ((k * h) + ((h * (slp sd b (b - 1))) / 3)) 0))), (8, .int (if (kd b) = 1 then if (sz b) ≤ (ln sd b) then mx ((k * h) + ((h * (slp sd b (b - 1))) / 3)) 0 else ((mx ((k * h) + ((h * (slp sd b (b - 1))) / 3)) 0) * (lk b)) / 100 else mx ((k * h) + ((h * (slp sd b (b - 1))) / 3)) 0)), (7, .int (nI (b - 1))), (6, .int (nI b)), (5, .int 0), (0, .ref (aS 0)), (1, .ref (aB 0)), (2, .int (nI b)), (3, .int h), (4, .int 1)]) C dX2_passAt_145 rfl (by decide) rfl ?_
  refine pt_aload_n (pc' := 148) C dX2_passAt_147 rfl 6 rfl ?_
  refine pt_get (pc' := 151) C in_2 dX2_passAt_148 rfl 0 3 rfl rfl (by decide) f_21 rfl ?_
  refine pt_iload_n (pc' := 152) C dX2_passAt_151 rfl 8 rfl ?_
  refine pt_dup2 (pc' := 153) C dX2_passAt_152 rfl rfl rfl ?_
  refine pt_iald (pc' := 154) C dX2_passAt_153 rfl 4 rfl rfl b (rfl) (by omega) (by decide) ?_
  refine pt_iload (pc' := 156) C dX2_passAt_154 rfl 0 rfl ?_
  refine pt_iadd (pc' := 157) C dX2_passAt_156 rfl ?_
  refine pt_iast (pc' := 158) (ws' := wS cA aS sd se (tkSc sd wl sc b (if (kd b) = 1 then if (sz b) ≤ (ln sd b) then mx ((k * h) + ((h * (slp sd b (b - 1))) / 3)) 0 else ((mx ((k * h) + ((h * (slp sd b (b - 1))) / 3)) 0) * (lk b)) / 100 else mx ((k * h) + ((h * (slp sd b (b - 1))) / 3)) 0)) (upd ba b ((ba b) + (if (kd b) = 2 then ((tk sd wl b (if (kd b) = 1 then if (sz b) ≤ (ln sd b) then mx ((k * h) + ((h * (slp sd b (b - 1))) / 3)) 0 else ((mx ((k * h) + ((h * (slp sd b (b - 1))) / 3)) 0) * (lk b)) / 100 else mx ((k * h) + ((h * (slp sd b (b - 1))) / 3)) 0)) * (sz b)) / 100 else 0))) pa (tkCh sd wl ch b (if (kd b) = 1 then if (sz b) ≤ (ln sd b) then mx ((k * h) + ((h * (slp sd b (b - 1))) / 3)) 0 else ((mx ((k * h) + ((h * (slp sd b (b - 1))) / 3)) 0) * (lk b)) / 100 else mx ((k * h) + ((h * (slp sd b (b - 1))) / 3)) 0)) ++ wB cA aB n k bs wl fd kd sz lk) C dX2_passAt_157 rfl 4 rfl rfl b (rfl) (by omega) (by decide) rfl ?_
  refine pt_aload_n (pc' := 159) C dX2_passAt_158 rfl 6 rfl ?_
  refine pt_get (pc' := 162) C in_2 dX2_passAt_159 rfl 0 5 rfl rfl (by decide) f_27 rfl ?_
  refine pt_iload (pc' := 164) C dX2_passAt_162 rfl 3 rfl ?_
  refine pt_dup2 (pc' := 165) C dX2_passAt_164 rfl rfl rfl ?_
  refine pt_iald (pc' := 166) C dX2_passAt_165 rfl 6 rfl rfl (b - 1) (rfl) (by omega) (by decide) ?_
  refine pt_iload (pc' := 168) C dX2_passAt_166 rfl 1 rfl ?_
  refine pt_iload (pc' := 170) C dX2_passAt_168 rfl 0 rfl ?_
  refine pt_isub (pc' := 171) C dX2_passAt_170 rfl ?_
  refine pt_iadd (pc' := 172) C dX2_passAt_171 rfl ?_
  refine pt_iast (pc' := 173) (ws' := wS cA aS sd se (tkSc sd wl sc b (if (kd b) = 1 then if (sz b) ≤ (ln sd b) then mx ((k * h) + ((h * (slp sd b (b - 1))) / 3)) 0 else ((mx ((k * h) + ((h * (slp sd b (b - 1))) / 3)) 0) * (lk b)) / 100 else mx ((k * h) + ((h * (slp sd b (b - 1))) / 3)) 0)) (upd ba b ((ba b) + (if (kd b) = 2 then ((tk sd wl b (if (kd b) = 1 then if (sz b) ≤ (ln sd b) then mx ((k * h) + ((h * (slp sd b (b - 1))) / 3)) 0 else ((mx ((k * h) + ((h * (slp sd b (b - 1))) / 3)) 0) * (lk b)) / 100 else mx ((k * h) + ((h * (slp sd b (b - 1))) / 3)) 0)) * (sz b)) / 100 else 0))) pa (upd (tkCh sd wl ch b (if (kd b) = 1 then if (sz b) ≤ (ln sd b) then mx ((k * h) + ((h * (slp sd b (b - 1))) / 3)) 0 else ((mx ((k * h) + ((h * (slp sd b (b - 1))) / 3)) 0) * (lk b)) / 100 else mx ((k * h) + ((h * (slp sd b (b - 1))) / 3)) 0)) (b - 1) (((tkCh sd wl ch b (if (kd b) = 1 then if (sz b) ≤ (ln sd b) then mx ((k * h) + ((h * (slp sd b (b - 1))) / 3)) 0 else ((mx ((k * h) + ((h * (slp sd b (b - 1))) / 3)) 0) * (lk b)) / 100 else mx ((k * h) + ((h * (slp sd b (b - 1))) / 3)) 0)) (b - 1)) + ((tk sd wl b (if (kd b) = 1 then if (sz b) ≤ (ln sd b) then mx ((k * h) + ((h * (slp sd b (b - 1))) / 3)) 0 else ((mx ((k * h) + ((h * (slp sd b (b - 1))) / 3)) 0) * (lk b)) / 100 else mx ((k * h) + ((h * (slp sd b (b - 1))) / 3)) 0)) - (if (kd b) = 2 then ((tk sd wl b (if (kd b) = 1 then if (sz b) ≤ (ln sd b) then mx ((k * h) + ((h * (slp sd b (b - 1))) / 3)) 0 else ((mx ((k * h) + ((h * (slp sd b (b - 1))) / 3)) 0) * (lk b)) / 100 else mx ((k * h) + ((h * (slp sd b (b - 1))) / 3)) 0)) * (sz b)) / 100 else 0)))) ++ wB cA aB n k bs wl fd kd sz lk) C dX2_passAt_172 rfl 6 rfl rfl (b - 1) (rfl) (by omega) (by decide) rfl ?_
  refine pt_aload_n (pc' := 174) C dX2_passAt_173 rfl 6 rfl ?_
  refine pt_get (pc' := 177) C in_2 dX2_passAt_174 rfl 0 4 rfl rfl (by decide) f_24 rfl ?_
  refine pt_iload_n (pc' := 178) C dX2_passAt_177 rfl 8 rfl ?_
  refine pt_iload (pc' := 180) C dX2_passAt_178 rfl 5 rfl ?_
  refine pt_if_eq (pc' := 183) (tgt := 188) C dX2_passAt_180 (by decide) rfl (fun h_180 => ?_) (fun h_180 => absurd (by decide) h_180)
  refine pt_iload (pc' := 190) C dX2_passAt_188 rfl 1 rfl ?_
  refine pt_ineg (pc' := 191) C dX2_passAt_190 rfl ?_
  refine pt_iast (pc' := 192) (ws' := wS cA aS sd se (tkSc sd wl sc b (if (kd b) = 1 then if (sz b) ≤ (ln sd b) then mx ((k * h) + ((h * (slp sd b (b - 1))) / 3)) 0 else ((mx ((k * h) + ((h * (slp sd b (b - 1))) / 3)) 0) * (lk b)) / 100 else mx ((k * h) + ((h * (slp sd b (b - 1))) / 3)) 0)) (upd ba b ((ba b) + (if (kd b) = 2 then ((tk sd wl b (if (kd b) = 1 then if (sz b) ≤ (ln sd b) then mx ((k * h) + ((h * (slp sd b (b - 1))) / 3)) 0 else ((mx ((k * h) + ((h * (slp sd b (b - 1))) / 3)) 0) * (lk b)) / 100 else mx ((k * h) + ((h * (slp sd b (b - 1))) / 3)) 0)) * (sz b)) / 100 else 0))) (upd pa b (-(tk sd wl b (if (kd b) = 1 then if (sz b) ≤ (ln sd b) then mx ((k * h) + ((h * (slp sd b (b - 1))) / 3)) 0 else ((mx ((k * h) + ((h * (slp sd b (b - 1))) / 3)) 0) * (lk b)) / 100 else mx ((k * h) + ((h * (slp sd b (b - 1))) / 3)) 0)))) (upd (tkCh sd wl ch b (if (kd b) = 1 then if (sz b) ≤ (ln sd b) then mx ((k * h) + ((h * (slp sd b (b - 1))) / 3)) 0 else ((mx ((k * h) + ((h * (slp sd b (b - 1))) / 3)) 0) * (lk b)) / 100 else mx ((k * h) + ((h * (slp sd b (b - 1))) / 3)) 0)) (b - 1) (((tkCh sd wl ch b (if (kd b) = 1 then if (sz b) ≤ (ln sd b) then mx ((k * h) + ((h * (slp sd b (b - 1))) / 3)) 0 else ((mx ((k * h) + ((h * (slp sd b (b - 1))) / 3)) 0) * (lk b)) / 100 else mx ((k * h) + ((h * (slp sd b (b - 1))) / 3)) 0)) (b - 1)) + ((tk sd wl b (if (kd b) = 1 then if (sz b) ≤ (ln sd b) then mx ((k * h) + ((h * (slp sd b (b - 1))) / 3)) 0 else ((mx ((k * h) + ((h * (slp sd b (b - 1))) / 3)) 0) * (lk b)) / 100 else mx ((k * h) + ((h * (slp sd b (b - 1))) / 3)) 0)) - (if (kd b) = 2 then ((tk sd wl b (if (kd b) = 1 then if (sz b) ≤ (ln sd b) then mx ((k * h) + ((h * (slp sd b (b - 1))) / 3)) 0 else ((mx ((k * h) + ((h * (slp sd b (b - 1))) / 3)) 0) * (lk b)) / 100 else mx ((k * h) + ((h * (slp sd b (b - 1))) / 3)) 0)) * (sz b)) / 100 else 0)))) ++ wB cA aB n k bs wl fd kd sz lk) C dX2_passAt_191 rfl 5 rfl rfl b (rfl) (by omega) (by decide) rfl ?_
  exact pt_vret C hr hk dX2_passAt_192 (rfl)

set_option maxHeartbeats 4000000 in
set_option maxRecDepth 100000 in
theorem mX2_addChanges (l : Launch) (D : va_G) (cA : ClassId) (aS : Nat → Nat) (sd : Nat → Int32) (se : Nat → Int32) (sc : Nat → Int32) (ba : Nat → Int32) (pa : Nat → Int32) (ch : Nat → Int32) (aB : Nat → Nat) (n : Nat) (k : Int32) (bs : Nat → Int32) (wl : Nat → Int32) (fd : Nat → Int32) (kd : Nat → Int32) (sz : Nat → Int32) (lk : Nat → Int32) (hm : n ≤ 12) : mt_V l yX2_addChanges wsX2_addChanges { frames := 1, cells := 0, slots := 0, locals := 15 } D [(cA, .int)] [.ref (aS 0), .ref (aB 0)] (wS cA aS sd se sc ba pa ch ++ wB cA aB n k bs wl fd kd sz lk) (wS cA aS (adX n sd ch) se sc ba pa ch ++ wB cA aB n k bs wl fd kd sz lk) := by
  refine mt_ofV (cc := cX2_addChanges) (maxL := 3) (ret := none) (lv := [(0, .ref (aS 0)), (1, .ref (aB 0))]) (by decide) rfl (Nat.le_of_ble_eq_true rfl) rfl ?_
  intro p e s m args below meth c A C hr hk
  have f_56 := C.hts (.fieldLink RX2 56 "ShoreFields$Begin" "fieldCount" "I") (by decide +kernel)
  have in_0 : ∀ w ∈ u_ws RX0 TX0 8, w ∈ wsX2_addChanges := by decide +kernel
  have f_9 := C.hts (.fieldLink RX2 9 "ShoreFields$Shore" "sandOf" "[I") (by decide +kernel)
  have in_2 : ∀ w ∈ u_ws RX2 TX2 6, w ∈ wsX2_addChanges := by decide +kernel
  have f_27 := C.hts (.fieldLink RX2 27 "ShoreFields$Shore" "changeOf" "[I") (by decide +kernel)
  have k_51 := C.hts (.constant RX2 51 (99999)) (by decide +kernel)
  have m_45 := C.hts (.methodLink RX2 45 Lib.Math.min.name) (by decide +kernel)
  have ms_mmin := C.hts (.static Lib.Math.min.name) (by decide +kernel)
  have mi_math := C.hts (.initialized "java/lang/Math") (by decide +kernel)
  have mc_mmin := C.hts (.code Lib.Math.min.name Lib.Math.min.code 2 (some .int)) (by decide +kernel)
  refine pt_iconst (pc' := 1) C dX2_addChanges_0 rfl (v := 0) (by decide) ?_
  refine pt_istore_n (pc' := 2) (lv' := [(2, .int 0), (0, .ref (aS 0)), (1, .ref (aB 0))]) C dX2_addChanges_1 rfl rfl (by decide) rfl ?_
  refine pt_cv (ws' := wS cA aS (adX 0 sd ch) se sc ba pa ch ++ wB cA aB n k bs wl fd kd sz lk) (lv' := [(2, .int (nI 0)), (0, .ref (aS 0)), (1, .ref (aB 0))]) (by rw [adX, mapN_0]) [0, 1, 2] (rfl) rfl ?_
  refine pt_for (wsf := fun j => wS cA aS (adX j sd ch) se sc ba pa ch ++ wB cA aB n k bs wl fd kd sz lk) (lvf := fun j => [(2, .int (nI j)), (0, .ref (aS 0)), (1, .ref (aB 0))]) n ?_ (fun j hj_2 ih_2 => ?_)
  rotate_left
  · refine pt_iload_n (pc' := 3) C dX2_addChanges_2 rfl 0 rfl ?_
    refine pt_aload_n (pc' := 4) C dX2_addChanges_3 rfl 2 rfl ?_
    refine pt_get (pc' := 7) C in_0 dX2_addChanges_4 rfl 7 0 rfl rfl (by decide) f_56 rfl ?_
    refine pt_icmp_ge (pc' := 10) (tgt := 40) C dX2_addChanges_7 (by decide) rfl (fun h_7 => absurd h_7 (nI_ge hj_2 (by omega))) (fun h_7 => ?_)
    refine pt_aload_n (pc' := 11) C dX2_addChanges_10 rfl 1 rfl ?_
    refine pt_get (pc' := 14) C in_2 dX2_addChanges_11 rfl 0 0 rfl rfl (by decide) f_9 rfl ?_
    refine pt_iload_n (pc' := 15) C dX2_addChanges_14 rfl 0 rfl ?_
    refine pt_aload_n (pc' := 16) C dX2_addChanges_15 rfl 1 rfl ?_
    refine pt_get (pc' := 19) C in_2 dX2_addChanges_16 rfl 0 0 rfl rfl (by decide) f_9 rfl ?_
    refine pt_iload_n (pc' := 20) C dX2_addChanges_19 rfl 0 rfl ?_
    refine pt_iald (pc' := 21) C dX2_addChanges_20 rfl 1 rfl rfl j (rfl) (by omega) (by decide) ?_
    refine pt_aload_n (pc' := 22) C dX2_addChanges_21 rfl 1 rfl ?_
    refine pt_get (pc' := 25) C in_2 dX2_addChanges_22 rfl 0 5 rfl rfl (by decide) f_27 rfl ?_
    refine pt_iload_n (pc' := 26) C dX2_addChanges_25 rfl 0 rfl ?_
    refine pt_iald (pc' := 27) C dX2_addChanges_26 rfl 6 rfl rfl j (rfl) (by omega) (by decide) ?_
    refine pt_iadd (pc' := 28) C dX2_addChanges_27 rfl ?_
    refine pt_ldc (pc' := 30) C dX2_addChanges_28 rfl k_51 ?_
    refine pt_mmin (pc' := 33) C dX2_addChanges_30 rfl m_45 ms_mmin mi_math mc_mmin (Nat.le_of_ble_eq_true rfl) (Nat.le_of_ble_eq_true rfl) (Nat.le_of_ble_eq_true rfl) (Nat.le_of_ble_eq_true rfl) ?_
    refine pt_iast (pc' := 34) (ws' := wS cA aS (upd (adX j sd ch) j (mn (((adX j sd ch) j) + (ch j)) 99999)) se sc ba pa ch ++ wB cA aB n k bs wl fd kd sz lk) C dX2_addChanges_33 rfl 1 rfl rfl j (rfl) (by omega) (by decide) rfl ?_
    refine pt_iinc (pc' := 37) (v := nI (j + 1)) (lv' := [(2, .int (nI (j + 1))), (0, .ref (aS 0)), (1, .ref (aB 0))]) C dX2_addChanges_34 rfl 0 rfl (nI_1 _) (by decide) rfl ?_
    refine pt_goto (pc' := 2) C dX2_addChanges_37 (by decide) ?_
    exact pt_cv (by rw [adX, mapN_s _ _ _ (by rw [mapN_at]), ← adX]) [0, 1, 2] (rfl) rfl ih_2
  refine pt_iload_n (pc' := 3) C dX2_addChanges_2 rfl 0 rfl ?_
  refine pt_aload_n (pc' := 4) C dX2_addChanges_3 rfl 2 rfl ?_
  refine pt_get (pc' := 7) C in_0 dX2_addChanges_4 rfl 7 0 rfl rfl (by decide) f_56 rfl ?_
  refine pt_icmp_ge (pc' := 10) (tgt := 40) C dX2_addChanges_7 (by decide) rfl (fun h_7 => ?_) (fun h_7 => absurd (nI_le (Nat.le_refl n) (by omega)) h_7)
  exact pt_vret C hr hk dX2_addChanges_40 (rfl)

set_option maxHeartbeats 4000000 in
set_option maxRecDepth 100000 in
theorem mX2_takeOutToSea (l : Launch) (D : va_G) (cA : ClassId) (aS : Nat → Nat) (sd : Nat → Int32) (se : Nat → Int32) (sc : Nat → Int32) (ba : Nat → Int32) (pa : Nat → Int32) (ch : Nat → Int32) (aB : Nat → Nat) (n : Nat) (k : Int32) (bs : Nat → Int32) (wl : Nat → Int32) (fd : Nat → Int32) (kd : Nat → Int32) (sz : Nat → Int32) (lk : Nat → Int32) (w : Int32) (hm : n ≤ 12) : mt_V l yX2_takeOutToSea wsX2_takeOutToSea { frames := 1, cells := 0, slots := 0, locals := 23 } D [(cA, .int)] [.ref (aS 0), .ref (aB 0), .int w] (wS cA aS sd se sc ba pa ch ++ wB cA aB n k bs wl fd kd sz lk) (wS cA aS (toSd n w sd wl) (toSe n w sd wl se) sc ba pa ch ++ wB cA aB n k bs wl fd kd sz lk) := by
  refine mt_ofV (cc := cX2_takeOutToSea) (maxL := 5) (ret := none) (lv := [(0, .ref (aS 0)), (1, .ref (aB 0)), (2, .int w)]) (by decide) rfl (Nat.le_of_ble_eq_true rfl) rfl ?_
  intro p e s m args below meth c A C hr hk
  have f_56 := C.hts (.fieldLink RX2 56 "ShoreFields$Begin" "fieldCount" "I") (by decide +kernel)
  have in_0 : ∀ w ∈ u_ws RX0 TX0 8, w ∈ wsX2_takeOutToSea := by decide +kernel
  have m_45 := C.hts (.methodLink RX2 45 Lib.Math.min.name) (by decide +kernel)
  have ms_mmin := C.hts (.static Lib.Math.min.name) (by decide +kernel)
  have mi_math := C.hts (.initialized "java/lang/Math") (by decide +kernel)
  have mc_mmin := C.hts (.code Lib.Math.min.name Lib.Math.min.code 2 (some .int)) (by decide +kernel)
  have f_9 := C.hts (.fieldLink RX2 9 "ShoreFields$Shore" "sandOf" "[I") (by decide +kernel)
  have in_2 : ∀ w ∈ u_ws RX2 TX2 6, w ∈ wsX2_takeOutToSea := by decide +kernel
  have f_15 := C.hts (.fieldLink RX2 15 "ShoreFields$Shore" "seaOf" "[I") (by decide +kernel)
  refine pt_iconst (pc' := 1) C dX2_takeOutToSea_0 rfl (v := 0) (by decide) ?_
  refine pt_istore_n (pc' := 2) (lv' := [(3, .int 0), (0, .ref (aS 0)), (1, .ref (aB 0)), (2, .int w)]) C dX2_takeOutToSea_1 rfl rfl (by decide) rfl ?_
  refine pt_cv (ws' := wS cA aS (toSd 0 w sd wl) (toSe 0 w sd wl se) sc ba pa ch ++ wB cA aB n k bs wl fd kd sz lk) (lv' := [(3, .int (nI 0)), (0, .ref (aS 0)), (1, .ref (aB 0)), (2, .int w)]) (by rw [toSd, toSe, mapN_0, mapN_0]) [0, 1, 2, 3] (rfl) rfl ?_
  refine pt_for (wsf := fun j => wS cA aS (toSd j w sd wl) (toSe j w sd wl se) sc ba pa ch ++ wB cA aB n k bs wl fd kd sz lk) (lvf := fun j => [(3, .int (nI j)), (0, .ref (aS 0)), (1, .ref (aB 0)), (2, .int w)]) n ?_ (fun j hj_2 ih_2 => ?_)
  rotate_left
  · refine pt_iload_n (pc' := 3) C dX2_takeOutToSea_2 rfl 0 rfl ?_
    refine pt_aload_n (pc' := 4) C dX2_takeOutToSea_3 rfl 2 rfl ?_
    refine pt_get (pc' := 7) C in_0 dX2_takeOutToSea_4 rfl 7 0 rfl rfl (by decide) f_56 rfl ?_
    refine pt_icmp_ge (pc' := 10) (tgt := 50) C dX2_takeOutToSea_7 (by decide) rfl (fun h_7 => absurd h_7 (nI_ge hj_2 (by omega))) (fun h_7 => ?_)
    refine pt_iload_n (pc' := 11) C dX2_takeOutToSea_10 rfl 3 rfl ?_
    refine pt_aload_n (pc' := 12) C dX2_takeOutToSea_11 rfl 1 rfl ?_
    refine pt_aload_n (pc' := 13) C dX2_takeOutToSea_12 rfl 2 rfl ?_
    refine pt_iload_n (pc' := 14) C dX2_takeOutToSea_13 rfl 0 rfl ?_
    refine pt_cvI0 (pc' := 17) (w1 := wS cA aS (toSd j w sd wl) (toSe j w sd wl se) sc ba pa ch ++ wB cA aB n k bs wl fd kd sz lk) (As := [.ref (aB 0), .int (nI j)]) (rest := [.int w]) C (mX2_freeSandOf l D cA aS (toSd j w sd wl) (toSe j w sd wl se) sc ba pa ch aB n k bs wl fd kd sz lk j (by first | assumption | omega)) (cwV 2 C.hts gX2_takeOutToSea_X2_freeSandOf rfl rfl rfl (by decide +kernel) ⟨Nat.le_of_ble_eq_true rfl, Nat.le_of_ble_eq_true rfl⟩) dX2_takeOutToSea_14 rfl 0 rfl rfl rfl rfl rfl (Nat.le_of_ble_eq_true rfl) ⟨Nat.le_of_ble_eq_true rfl, Nat.le_of_ble_eq_true rfl⟩ ?_
    refine pt_mmin (pc' := 20) C dX2_takeOutToSea_17 rfl m_45 ms_mmin mi_math mc_mmin (Nat.le_of_ble_eq_true rfl) (Nat.le_of_ble_eq_true rfl) (Nat.le_of_ble_eq_true rfl) (Nat.le_of_ble_eq_true rfl) ?_
    refine pt_istore (pc' := 22) (lv' := [(4, .int (mn w (fre (toSd j w sd wl) wl j))), (3, .int (nI j)), (0, .ref (aS 0)), (1, .ref (aB 0)), (2, .int w)]) C dX2_takeOutToSea_20 rfl (by decide) rfl ?_
    refine pt_aload_n (pc' := 23) C dX2_takeOutToSea_22 rfl 2 rfl ?_
    refine pt_get (pc' := 26) C in_2 dX2_takeOutToSea_23 rfl 0 0 rfl rfl (by decide) f_9 rfl ?_
    refine pt_iload_n (pc' := 27) C dX2_takeOutToSea_26 rfl 1 rfl ?_
    refine pt_dup2 (pc' := 28) C dX2_takeOutToSea_27 rfl rfl rfl ?_
    refine pt_iald (pc' := 29) C dX2_takeOutToSea_28 rfl 1 rfl rfl j (rfl) (by omega) (by decide) ?_
    refine pt_iload (pc' := 31) C dX2_takeOutToSea_29 rfl 0 rfl ?_
    refine pt_isub (pc' := 32) C dX2_takeOutToSea_31 rfl ?_
    refine pt_iast (pc' := 33) (ws' := wS cA aS (upd (toSd j w sd wl) j (((toSd j w sd wl) j) - (mn w (fre (toSd j w sd wl) wl j)))) (toSe j w sd wl se) sc ba pa ch ++ wB cA aB n k bs wl fd kd sz lk) C dX2_takeOutToSea_32 rfl 1 rfl rfl j (rfl) (by omega) (by decide) rfl ?_
    refine pt_aload_n (pc' := 34) C dX2_takeOutToSea_33 rfl 2 rfl ?_
    refine pt_get (pc' := 37) C in_2 dX2_takeOutToSea_34 rfl 0 1 rfl rfl (by decide) f_15 rfl ?_
    refine pt_iload_n (pc' := 38) C dX2_takeOutToSea_37 rfl 1 rfl ?_
    refine pt_dup2 (pc' := 39) C dX2_takeOutToSea_38 rfl rfl rfl ?_
    refine pt_iald (pc' := 40) C dX2_takeOutToSea_39 rfl 2 rfl rfl j (rfl) (by omega) (by decide) ?_
    refine pt_iload (pc' := 42) C dX2_takeOutToSea_40 rfl 0 rfl ?_
    refine pt_iadd (pc' := 43) C dX2_takeOutToSea_42 rfl ?_
    refine pt_iast (pc' := 44) (ws' := wS cA aS (upd (toSd j w sd wl) j (((toSd j w sd wl) j) - (mn w (fre (toSd j w sd wl) wl j)))) (upd (toSe j w sd wl se) j (((toSe j w sd wl se) j) + (mn w (fre (toSd j w sd wl) wl j)))) sc ba pa ch ++ wB cA aB n k bs wl fd kd sz lk) C dX2_takeOutToSea_43 rfl 2 rfl rfl j (rfl) (by omega) (by decide) rfl ?_
    refine pt_iinc (pc' := 47) (v := nI (j + 1)) (lv' := [(3, .int (nI (j + 1))), (4, .int (mn w (fre (toSd j w sd wl) wl j))), (0, .ref (aS 0)), (1, .ref (aB 0)), (2, .int w)]) C dX2_takeOutToSea_44 rfl 1 rfl (nI_1 _) (by decide) rfl ?_
    refine pt_goto (pc' := 2) C dX2_takeOutToSea_47 (by decide) ?_
    exact pt_cv (by rw [toSd, toSe, mapN_s _ _ _ (by simp only [fre, mapN_at]), mapN_s _ _ _ (by simp only [fre, mapN_at]), ← toSd, ← toSe]) [0, 2, 3, 4] (rfl) rfl ih_2
  refine pt_iload_n (pc' := 3) C dX2_takeOutToSea_2 rfl 0 rfl ?_
  refine pt_aload_n (pc' := 4) C dX2_takeOutToSea_3 rfl 2 rfl ?_
  refine pt_get (pc' := 7) C in_0 dX2_takeOutToSea_4 rfl 7 0 rfl rfl (by decide) f_56 rfl ?_
  refine pt_icmp_ge (pc' := 10) (tgt := 50) C dX2_takeOutToSea_7 (by decide) rfl (fun h_7 => ?_) (fun h_7 => absurd (nI_le (Nat.le_refl n) (by omega)) h_7)
  exact pt_vret C hr hk dX2_takeOutToSea_50 (rfl)

set_option maxHeartbeats 4000000 in
set_option maxRecDepth 100000 in
theorem mX2_bringBackFromSea (l : Launch) (D : va_G) (cA : ClassId) (aS : Nat → Nat) (sd : Nat → Int32) (se : Nat → Int32) (sc : Nat → Int32) (ba : Nat → Int32) (pa : Nat → Int32) (ch : Nat → Int32) (aB : Nat → Nat) (n : Nat) (k : Int32) (bs : Nat → Int32) (wl : Nat → Int32) (fd : Nat → Int32) (kd : Nat → Int32) (sz : Nat → Int32) (lk : Nat → Int32) (hm : n ≤ 12) : mt_V l yX2_bringBackFromSea wsX2_bringBackFromSea { frames := 1, cells := 0, slots := 0, locals := 15 } D [(cA, .int)] [.ref (aS 0), .ref (aB 0)] (wS cA aS sd se sc ba pa ch ++ wB cA aB n k bs wl fd kd sz lk) (wS cA aS (bkSd n sd se) (bkSe n se) sc ba pa ch ++ wB cA aB n k bs wl fd kd sz lk) := by
  refine mt_ofV (cc := cX2_bringBackFromSea) (maxL := 4) (ret := none) (lv := [(0, .ref (aS 0)), (1, .ref (aB 0))]) (by decide) rfl (Nat.le_of_ble_eq_true rfl) rfl ?_
  intro p e s m args below meth c A C hr hk
  have f_56 := C.hts (.fieldLink RX2 56 "ShoreFields$Begin" "fieldCount" "I") (by decide +kernel)
  have in_0 : ∀ w ∈ u_ws RX0 TX0 8, w ∈ wsX2_bringBackFromSea := by decide +kernel
  have f_15 := C.hts (.fieldLink RX2 15 "ShoreFields$Shore" "seaOf" "[I") (by decide +kernel)
  have in_2 : ∀ w ∈ u_ws RX2 TX2 6, w ∈ wsX2_bringBackFromSea := by decide +kernel
  have f_9 := C.hts (.fieldLink RX2 9 "ShoreFields$Shore" "sandOf" "[I") (by decide +kernel)
  have k_51 := C.hts (.constant RX2 51 (99999)) (by decide +kernel)
  have m_45 := C.hts (.methodLink RX2 45 Lib.Math.min.name) (by decide +kernel)
  have ms_mmin := C.hts (.static Lib.Math.min.name) (by decide +kernel)
  have mi_math := C.hts (.initialized "java/lang/Math") (by decide +kernel)
  have mc_mmin := C.hts (.code Lib.Math.min.name Lib.Math.min.code 2 (some .int)) (by decide +kernel)
  refine pt_iconst (pc' := 1) C dX2_bringBackFromSea_0 rfl (v := 0) (by decide) ?_
  refine pt_istore_n (pc' := 2) (lv' := [(2, .int 0), (0, .ref (aS 0)), (1, .ref (aB 0))]) C dX2_bringBackFromSea_1 rfl rfl (by decide) rfl ?_
  refine pt_cv (ws' := wS cA aS (bkSd 0 sd se) (bkSe 0 se) sc ba pa ch ++ wB cA aB n k bs wl fd kd sz lk) (lv' := [(2, .int (nI 0)), (0, .ref (aS 0)), (1, .ref (aB 0))]) (by rw [bkSd, bkSe, mapN_0, mapN_0]) [0, 1, 2] (rfl) rfl ?_
  refine pt_for (wsf := fun j => wS cA aS (bkSd j sd se) (bkSe j se) sc ba pa ch ++ wB cA aB n k bs wl fd kd sz lk) (lvf := fun j => [(2, .int (nI j)), (0, .ref (aS 0)), (1, .ref (aB 0))]) n ?_ (fun j hj_2 ih_2 => ?_)
  rotate_left
  · refine pt_iload_n (pc' := 3) C dX2_bringBackFromSea_2 rfl 0 rfl ?_
    refine pt_aload_n (pc' := 4) C dX2_bringBackFromSea_3 rfl 2 rfl ?_
    refine pt_get (pc' := 7) C in_0 dX2_bringBackFromSea_4 rfl 7 0 rfl rfl (by decide) f_56 rfl ?_
    refine pt_icmp_ge (pc' := 10) (tgt := 56) C dX2_bringBackFromSea_7 (by decide) rfl (fun h_7 => absurd h_7 (nI_ge hj_2 (by omega))) (fun h_7 => ?_)
    refine pt_aload_n (pc' := 11) C dX2_bringBackFromSea_10 rfl 1 rfl ?_
    refine pt_get (pc' := 14) C in_2 dX2_bringBackFromSea_11 rfl 0 1 rfl rfl (by decide) f_15 rfl ?_
    refine pt_iload_n (pc' := 15) C dX2_bringBackFromSea_14 rfl 0 rfl ?_
    refine pt_iald (pc' := 16) C dX2_bringBackFromSea_15 rfl 2 rfl rfl j (rfl) (by omega) (by decide) ?_
    refine pt_iconst (pc' := 17) C dX2_bringBackFromSea_16 rfl (v := 3) (by decide) ?_
    refine pt_iadd (pc' := 18) C dX2_bringBackFromSea_17 rfl ?_
    refine pt_iconst (pc' := 19) C dX2_bringBackFromSea_18 rfl (v := 4) (by decide) ?_
    refine pt_idiv (pc' := 20) C dX2_bringBackFromSea_19 rfl (by decide) ?_
    refine pt_istore_n (pc' := 21) (lv' := [(3, .int ((((bkSe j se) j) + 3) / 4)), (2, .int (nI j)), (0, .ref (aS 0)), (1, .ref (aB 0))]) C dX2_bringBackFromSea_20 rfl rfl (by decide) rfl ?_
    refine pt_aload_n (pc' := 22) C dX2_bringBackFromSea_21 rfl 2 rfl ?_
    refine pt_get (pc' := 25) C in_2 dX2_bringBackFromSea_22 rfl 0 1 rfl rfl (by decide) f_15 rfl ?_
    refine pt_iload_n (pc' := 26) C dX2_bringBackFromSea_25 rfl 1 rfl ?_
    refine pt_dup2 (pc' := 27) C dX2_bringBackFromSea_26 rfl rfl rfl ?_
    refine pt_iald (pc' := 28) C dX2_bringBackFromSea_27 rfl 2 rfl rfl j (rfl) (by omega) (by decide) ?_
    refine pt_iload_n (pc' := 29) C dX2_bringBackFromSea_28 rfl 0 rfl ?_
    refine pt_isub (pc' := 30) C dX2_bringBackFromSea_29 rfl ?_
    refine pt_iast (pc' := 31) (ws' := wS cA aS (bkSd j sd se) (upd (bkSe j se) j (((bkSe j se) j) - ((((bkSe j se) j) + 3) / 4))) sc ba pa ch ++ wB cA aB n k bs wl fd kd sz lk) C dX2_bringBackFromSea_30 rfl 2 rfl rfl j (rfl) (by omega) (by decide) rfl ?_
    refine pt_aload_n (pc' := 32) C dX2_bringBackFromSea_31 rfl 2 rfl ?_
    refine pt_get (pc' := 35) C in_2 dX2_bringBackFromSea_32 rfl 0 0 rfl rfl (by decide) f_9 rfl ?_
    refine pt_iload_n (pc' := 36) C dX2_bringBackFromSea_35 rfl 1 rfl ?_
    refine pt_aload_n (pc' := 37) C dX2_bringBackFromSea_36 rfl 2 rfl ?_
    refine pt_get (pc' := 40) C in_2 dX2_bringBackFromSea_37 rfl 0 0 rfl rfl (by decide) f_9 rfl ?_
    refine pt_iload_n (pc' := 41) C dX2_bringBackFromSea_40 rfl 1 rfl ?_
    refine pt_iald (pc' := 42) C dX2_bringBackFromSea_41 rfl 1 rfl rfl j (rfl) (by omega) (by decide) ?_
    refine pt_iload_n (pc' := 43) C dX2_bringBackFromSea_42 rfl 0 rfl ?_
    refine pt_iadd (pc' := 44) C dX2_bringBackFromSea_43 rfl ?_
    refine pt_ldc (pc' := 46) C dX2_bringBackFromSea_44 rfl k_51 ?_
    refine pt_mmin (pc' := 49) C dX2_bringBackFromSea_46 rfl m_45 ms_mmin mi_math mc_mmin (Nat.le_of_ble_eq_true rfl) (Nat.le_of_ble_eq_true rfl) (Nat.le_of_ble_eq_true rfl) (Nat.le_of_ble_eq_true rfl) ?_
    refine pt_iast (pc' := 50) (ws' := wS cA aS (upd (bkSd j sd se) j (mn (((bkSd j sd se) j) + ((((bkSe j se) j) + 3) / 4)) 99999)) (upd (bkSe j se) j (((bkSe j se) j) - ((((bkSe j se) j) + 3) / 4))) sc ba pa ch ++ wB cA aB n k bs wl fd kd sz lk) C dX2_bringBackFromSea_49 rfl 1 rfl rfl j (rfl) (by omega) (by decide) rfl ?_
    refine pt_iinc (pc' := 53) (v := nI (j + 1)) (lv' := [(2, .int (nI (j + 1))), (3, .int ((((bkSe j se) j) + 3) / 4)), (0, .ref (aS 0)), (1, .ref (aB 0))]) C dX2_bringBackFromSea_50 rfl 1 rfl (nI_1 _) (by decide) rfl ?_
    refine pt_goto (pc' := 2) C dX2_bringBackFromSea_53 (by decide) ?_
    exact pt_cv (by rw [bkSd, bkSe, mapN_s _ _ _ (by rw [mapN_at, mapN_at]), mapN_s _ _ _ (by rw [mapN_at]), ← bkSd, ← bkSe]) [0, 2, 3] (rfl) rfl ih_2
  refine pt_iload_n (pc' := 3) C dX2_bringBackFromSea_2 rfl 0 rfl ?_
  refine pt_aload_n (pc' := 4) C dX2_bringBackFromSea_3 rfl 2 rfl ?_
  refine pt_get (pc' := 7) C in_0 dX2_bringBackFromSea_4 rfl 7 0 rfl rfl (by decide) f_56 rfl ?_
  refine pt_icmp_ge (pc' := 10) (tgt := 56) C dX2_bringBackFromSea_7 (by decide) rfl (fun h_7 => ?_) (fun h_7 => absurd (nI_le (Nat.le_refl n) (by omega)) h_7)
  exact pt_vret C hr hk dX2_bringBackFromSea_56 (rfl)
