set_option maxHeartbeats 4000000 in
set_option maxRecDepth 100000 in
theorem mX7_within (l : Launch) (D : va_G) (cA : ClassId) (v : Int32) (a : Int32) (b : Int32) : mt_I l yX7_within wsX7_within { frames := 0, cells := 0, slots := 0, locals := 0 } D [(cA, .int)] [.int v, .int a, .int b] ([]) (bI (inR v a b)) ([]) := by
  refine mt_ofI (cc := cX7_within) (maxL := 3) (ret := (some .boolean)) (lv := [(0, .int v), (1, .int a), (2, .int b)]) (by decide) rfl (Nat.le_of_ble_eq_true rfl) rfl ?_
  intro p e s m args below meth c A C hr hk
  refine pt_iload_n (pc' := 1) C dX7_within_0 rfl 0 rfl ?_
  refine pt_iload_n (pc' := 2) C dX7_within_1 rfl 1 rfl ?_
  refine pt_icmp_lt (pc' := 5) (tgt := 14) C dX7_within_2 (by decide) rfl (fun h_2 => ?_) (fun h_2 => ?_)
  · refine pt_iconst (pc' := 15) C dX7_within_14 rfl (v := 0) (by decide) ?_
    exact pt_iret C hr hk dX7_within_15 (rfl) (by simp only [inR, bI, cond_false, cond_true, if_pos h_2]) (rfl)
  · refine pt_iload_n (pc' := 6) C dX7_within_5 rfl 0 rfl ?_
    refine pt_iload_n (pc' := 7) C dX7_within_6 rfl 2 rfl ?_
    refine pt_icmp_gt (pc' := 10) (tgt := 14) C dX7_within_7 (by decide) rfl (fun h_7 => ?_) (fun h_7 => ?_)
    · refine pt_iconst (pc' := 15) C dX7_within_14 rfl (v := 0) (by decide) ?_
      exact pt_iret C hr hk dX7_within_15 (rfl) (by simp only [inR, bI, cond_false, cond_true, if_neg h_2, if_pos h_7]) (rfl)
    · refine pt_iconst (pc' := 11) C dX7_within_10 rfl (v := 1) (by decide) ?_
      refine pt_goto (pc' := 15) C dX7_within_11 (by decide) ?_
      exact pt_iret C hr hk dX7_within_15 (rfl) (by simp only [inR, bI, cond_false, cond_true, if_neg h_2, if_neg h_7]) (rfl)

set_option maxHeartbeats 4000000 in
set_option maxRecDepth 100000 in
theorem mX7_isField (l : Launch) (D : va_G) (cA : ClassId) (aM : Nat → Nat) (th : Int32) (n : Nat) (it : Int32) (k : Int32) (td : Nat) (gn : Nat) (dr : Nat) (wk : Nat) (sv : Nat) (P : Nat → Nat → Int32) (sd : Nat → Int32) (se : Nat → Int32) (sc : Nat → Int32) (ba : Nat → Int32) (pa : Nat → Int32) (le : Nat → Int32) (mo : Nat → Int32) (x : Int32) (hn : 2 ≤ n) (hm : n ≤ 12) : mt_I l yX7_isField wsX7_isField { frames := 1, cells := 0, slots := 0, locals := 22 } D [(cA, .int)] [.ref (aM 0), .int x] (wM cA aM th n it k td gn dr wk sv P sd se sc ba pa le mo) (bI (inF n x)) (wM cA aM th n it k td gn dr wk sv P sd se sc ba pa le mo) := by
  refine mt_ofI (cc := cX7_isField) (maxL := 2) (ret := (some .boolean)) (lv := [(0, .ref (aM 0)), (1, .int x)]) (by decide) rfl (Nat.le_of_ble_eq_true rfl) rfl ?_
  intro p e s m args below meth c A C hr hk
  have f_13 := C.hts (.fieldLink RX7 13 "ShoreFieldsModel" "fields" "I") (by decide +kernel)
  have in_7 : ∀ w ∈ u_ws RX7 TX7 37, w ∈ wsX7_isField := by decide +kernel
  refine pt_iload_n (pc' := 1) C dX7_isField_0 rfl 1 rfl ?_
  refine pt_iconst (pc' := 2) C dX7_isField_1 rfl (v := 0) (by decide) ?_
  refine pt_aload_n (pc' := 3) C dX7_isField_2 rfl 0 rfl ?_
  refine pt_get (pc' := 6) C in_7 dX7_isField_3 rfl 0 1 rfl rfl (by decide) f_13 rfl ?_
  refine pt_iconst (pc' := 7) C dX7_isField_6 rfl (v := 1) (by decide) ?_
  refine pt_isub (pc' := 8) C dX7_isField_7 rfl ?_
  refine pt_csI0 (pc' := 11) (As := [.int x, .int 0, .int ((nI n) - 1)]) (rest := []) C (mX7_within l D cA x 0 ((nI n) - 1) ) (va_cwS 3 C.hts gX7_isField_X7_within rfl rfl rfl (by decide +kernel) ⟨Nat.le_of_ble_eq_true rfl, Nat.le_of_ble_eq_true rfl⟩) dX7_isField_8 rfl rfl rfl (Nat.le_of_ble_eq_true rfl) ⟨Nat.le_of_ble_eq_true rfl, Nat.le_of_ble_eq_true rfl⟩ ?_
  exact pt_iret C hr hk dX7_isField_11 (bI_n _) (by rw [inR_F (by omega) hm]) (rfl)

set_option maxHeartbeats 4000000 in
set_option maxRecDepth 100000 in
theorem mX7_isInner (l : Launch) (D : va_G) (cA : ClassId) (aM : Nat → Nat) (th : Int32) (n : Nat) (it : Int32) (k : Int32) (td : Nat) (gn : Nat) (dr : Nat) (wk : Nat) (sv : Nat) (P : Nat → Nat → Int32) (sd : Nat → Int32) (se : Nat → Int32) (sc : Nat → Int32) (ba : Nat → Int32) (pa : Nat → Int32) (le : Nat → Int32) (mo : Nat → Int32) (x : Int32) (hn : 2 ≤ n) (hm : n ≤ 12) : mt_I l yX7_isInner wsX7_isInner { frames := 1, cells := 0, slots := 0, locals := 22 } D [(cA, .int)] [.ref (aM 0), .int x] (wM cA aM th n it k td gn dr wk sv P sd se sc ba pa le mo) (bI (inI n x)) (wM cA aM th n it k td gn dr wk sv P sd se sc ba pa le mo) := by
  refine mt_ofI (cc := cX7_isInner) (maxL := 2) (ret := (some .boolean)) (lv := [(0, .ref (aM 0)), (1, .int x)]) (by decide) rfl (Nat.le_of_ble_eq_true rfl) rfl ?_
  intro p e s m args below meth c A C hr hk
  have f_13 := C.hts (.fieldLink RX7 13 "ShoreFieldsModel" "fields" "I") (by decide +kernel)
  have in_7 : ∀ w ∈ u_ws RX7 TX7 37, w ∈ wsX7_isInner := by decide +kernel
  refine pt_iload_n (pc' := 1) C dX7_isInner_0 rfl 1 rfl ?_
  refine pt_iconst (pc' := 2) C dX7_isInner_1 rfl (v := 1) (by decide) ?_
  refine pt_aload_n (pc' := 3) C dX7_isInner_2 rfl 0 rfl ?_
  refine pt_get (pc' := 6) C in_7 dX7_isInner_3 rfl 0 1 rfl rfl (by decide) f_13 rfl ?_
  refine pt_iconst (pc' := 7) C dX7_isInner_6 rfl (v := 1) (by decide) ?_
  refine pt_isub (pc' := 8) C dX7_isInner_7 rfl ?_
  refine pt_csI0 (pc' := 11) (As := [.int x, .int 1, .int ((nI n) - 1)]) (rest := []) C (mX7_within l D cA x 1 ((nI n) - 1) ) (va_cwS 3 C.hts gX7_isInner_X7_within rfl rfl rfl (by decide +kernel) ⟨Nat.le_of_ble_eq_true rfl, Nat.le_of_ble_eq_true rfl⟩) dX7_isInner_8 rfl rfl rfl (Nat.le_of_ble_eq_true rfl) ⟨Nat.le_of_ble_eq_true rfl, Nat.le_of_ble_eq_true rfl⟩ ?_
  exact pt_iret C hr hk dX7_isInner_11 (bI_n _) (by rw [inR_I (by omega) hm]) (rfl)

set_option maxHeartbeats 4000000 in
set_option maxRecDepth 100000 in
theorem mX7_brings (l : Launch) (D : va_G) (cA : ClassId) (aM : Nat → Nat) (th : Int32) (n : Nat) (it : Int32) (k : Int32) (td : Nat) (gn : Nat) (dr : Nat) (wk : Nat) (sv : Nat) (P : Nat → Nat → Int32) (sd : Nat → Int32) (se : Nat → Int32) (sc : Nat → Int32) (ba : Nat → Int32) (pa : Nat → Int32) (le : Nat → Int32) (mo : Nat → Int32) (f : Nat) (x : Int32) (hf : f < 12) : mt_V l yX7_brings wsX7_brings { frames := 0, cells := 0, slots := 0, locals := 0 } D [(cA, .int)] [.ref (aM 0), .int (nI f), .int x] (wM cA aM th n it k td gn dr wk sv P sd se sc ba pa le mo) (wM cA aM th n it k td gn dr wk sv P (brM sd f x) se sc ba pa le mo) := by
  refine mt_ofV (cc := cX7_brings) (maxL := 3) (ret := none) (lv := [(0, .ref (aM 0)), (1, .int (nI f)), (2, .int x)]) (by decide) rfl (Nat.le_of_ble_eq_true rfl) rfl ?_
  intro p e s m args below meth c A C hr hk
  have f_56 := C.hts (.fieldLink RX7 56 "ShoreFieldsModel" "sand" "[I") (by decide +kernel)
  have in_7 : ∀ w ∈ u_ws RX7 TX7 37, w ∈ wsX7_brings := by decide +kernel
  have k_116 := C.hts (.constant RX7 116 (99999)) (by decide +kernel)
  refine pt_aload_n (pc' := 1) C dX7_brings_0 rfl 0 rfl ?_
  refine pt_get (pc' := 4) C in_7 dX7_brings_1 rfl 0 19 rfl rfl (by decide) f_56 rfl ?_
  refine pt_iload_n (pc' := 5) C dX7_brings_4 rfl 1 rfl ?_
  refine pt_aload_n (pc' := 6) C dX7_brings_5 rfl 0 rfl ?_
  refine pt_get (pc' := 9) C in_7 dX7_brings_6 rfl 0 19 rfl rfl (by decide) f_56 rfl ?_
  refine pt_iload_n (pc' := 10) C dX7_brings_9 rfl 1 rfl ?_
  refine pt_iald (pc' := 11) C dX7_brings_10 rfl 13 rfl rfl f (rfl) (by omega) (by decide) ?_
  refine pt_iload_n (pc' := 12) C dX7_brings_11 rfl 2 rfl ?_
  refine pt_iadd (pc' := 13) C dX7_brings_12 rfl ?_
  refine pt_ldc (pc' := 15) C dX7_brings_13 rfl k_116 ?_
  refine pt_jn (q := 31) (k := 0) (n := 0) (wM cA aM th n it k td gn dr wk sv P sd se sc ba pa le mo) [(0, .ref (aM 0)), (1, .int (nI f)), (2, .int x)] [.int (if ((sd f) + x) ≤ 99999 then (sd f) + x else 99999), .int (nI f), .ref (aM 13)] (fun K => ?_) ?_
  · refine pt_icmp_le (pc' := 18) (tgt := 23) C dX7_brings_15 (by decide) rfl (fun h_15 => ?_) (fun h_15 => ?_)
    · refine pt_aload_n (pc' := 24) C dX7_brings_23 rfl 0 rfl ?_
      refine pt_get (pc' := 27) C in_7 dX7_brings_24 rfl 0 19 rfl rfl (by decide) f_56 rfl ?_
      refine pt_iload_n (pc' := 28) C dX7_brings_27 rfl 1 rfl ?_
      refine pt_iald (pc' := 29) C dX7_brings_28 rfl 13 rfl rfl f (rfl) (by omega) (by decide) ?_
      refine pt_iload_n (pc' := 30) C dX7_brings_29 rfl 2 rfl ?_
      refine pt_iadd (pc' := 31) C dX7_brings_30 rfl ?_
      exact pt_cv (lv' := [(0, .ref (aM 0)), (1, .int (nI f)), (2, .int x)]) rfl [0, 1, 2] rfl rfl (by simpa only [if_pos h_15] using K)
    · refine pt_ldc (pc' := 20) C dX7_brings_18 rfl k_116 ?_
      refine pt_goto (pc' := 31) C dX7_brings_20 (by decide) ?_
      exact pt_cv (lv' := [(0, .ref (aM 0)), (1, .int (nI f)), (2, .int x)]) rfl [0, 1, 2] rfl rfl (by simpa only [if_neg h_15] using K)
  refine pt_iast (pc' := 32) (ws' := wM cA aM th n it k td gn dr wk sv P (upd sd f (if ((sd f) + x) ≤ 99999 then (sd f) + x else 99999)) se sc ba pa le mo) C dX7_brings_31 rfl 13 rfl rfl f (rfl) (by omega) (by decide) rfl ?_
  exact pt_vret C hr hk dX7_brings_32 (rfl)

set_option maxHeartbeats 4000000 in
set_option maxRecDepth 100000 in
theorem mX7_above (l : Launch) (D : va_G) (cA : ClassId) (aM : Nat → Nat) (th : Int32) (n : Nat) (it : Int32) (k : Int32) (td : Nat) (gn : Nat) (dr : Nat) (wk : Nat) (sv : Nat) (P : Nat → Nat → Int32) (sd : Nat → Int32) (se : Nat → Int32) (sc : Nat → Int32) (ba : Nat → Int32) (pa : Nat → Int32) (le : Nat → Int32) (mo : Nat → Int32) (f : Nat) (hf : f < 12) : mt_I l yX7_above wsX7_above { frames := 0, cells := 0, slots := 0, locals := 0 } D [(cA, .int)] [.ref (aM 0), .int (nI f)] (wM cA aM th n it k td gn dr wk sv P sd se sc ba pa le mo) (abM sd (P 4) f) (wM cA aM th n it k td gn dr wk sv P sd se sc ba pa le mo) := by
  refine mt_ofI (cc := cX7_above) (maxL := 3) (ret := (some .int)) (lv := [(0, .ref (aM 0)), (1, .int (nI f))]) (by decide) rfl (Nat.le_of_ble_eq_true rfl) rfl ?_
  intro p e s m args below meth c A C hr hk
  have f_56 := C.hts (.fieldLink RX7 56 "ShoreFieldsModel" "sand" "[I") (by decide +kernel)
  have in_7 : ∀ w ∈ u_ws RX7 TX7 37, w ∈ wsX7_above := by decide +kernel
  have f_29 := C.hts (.fieldLink RX7 29 "ShoreFieldsModel" "walls" "[I") (by decide +kernel)
  refine pt_aload_n (pc' := 1) C dX7_above_0 rfl 0 rfl ?_
  refine pt_get (pc' := 4) C in_7 dX7_above_1 rfl 0 19 rfl rfl (by decide) f_56 rfl ?_
  refine pt_iload_n (pc' := 5) C dX7_above_4 rfl 1 rfl ?_
  refine pt_iald (pc' := 6) C dX7_above_5 rfl 13 rfl rfl f (rfl) (by omega) (by decide) ?_
  refine pt_bipush (pc' := 8) C dX7_above_6 rfl (v := 10) (by decide) ?_
  refine pt_aload_n (pc' := 9) C dX7_above_8 rfl 0 rfl ?_
  refine pt_get (pc' := 12) C in_7 dX7_above_9 rfl 0 7 rfl rfl (by decide) f_29 rfl ?_
  refine pt_iload_n (pc' := 13) C dX7_above_12 rfl 1 rfl ?_
  refine pt_iald (pc' := 14) C dX7_above_13 rfl 5 rfl rfl f (rfl) (by omega) (by decide) ?_
  refine pt_imul (pc' := 15) C dX7_above_14 rfl ?_
  refine pt_isub (pc' := 16) C dX7_above_15 rfl ?_
  refine pt_istore_n (pc' := 17) (lv' := [(2, .int ((sd f) - (10 * ((P 4) f)))), (0, .ref (aM 0)), (1, .int (nI f))]) C dX7_above_16 rfl rfl (by decide) rfl ?_
  refine pt_iload_n (pc' := 18) C dX7_above_17 rfl 0 rfl ?_
  refine pt_jn (q := 26) (k := 0) (n := 0) (wM cA aM th n it k td gn dr wk sv P sd se sc ba pa le mo) [(2, .int ((sd f) - (10 * ((P 4) f)))), (0, .ref (aM 0)), (1, .int (nI f))] [.int (if 0 ≤ ((sd f) - (10 * ((P 4) f))) then (sd f) - (10 * ((P 4) f)) else 0)] (fun K => ?_) ?_
  · refine pt_if_ge (pc' := 21) (tgt := 25) C dX7_above_18 (by decide) rfl (fun h_18 => ?_) (fun h_18 => ?_)
    · refine pt_iload_n (pc' := 26) C dX7_above_25 rfl 0 rfl ?_
      exact pt_cv (lv' := [(2, .int ((sd f) - (10 * ((P 4) f)))), (0, .ref (aM 0)), (1, .int (nI f))]) rfl [0, 1, 2] rfl rfl (by simpa only [if_pos h_18] using K)
    · refine pt_iconst (pc' := 22) C dX7_above_21 rfl (v := 0) (by decide) ?_
      refine pt_goto (pc' := 26) C dX7_above_22 (by decide) ?_
      exact pt_cv (lv' := [(2, .int ((sd f) - (10 * ((P 4) f)))), (0, .ref (aM 0)), (1, .int (nI f))]) rfl [0, 1, 2] rfl rfl (by simpa only [if_neg h_18] using K)
  exact pt_iret C hr hk dX7_above_26 (rfl) (rfl) (rfl)

set_option maxHeartbeats 4000000 in
set_option maxRecDepth 100000 in
theorem mX7_goesOut (l : Launch) (D : va_G) (cA : ClassId) (aM : Nat → Nat) (th : Int32) (n : Nat) (it : Int32) (k : Int32) (td : Nat) (gn : Nat) (dr : Nat) (wk : Nat) (sv : Nat) (P : Nat → Nat → Int32) (sd : Nat → Int32) (se : Nat → Int32) (sc : Nat → Int32) (ba : Nat → Int32) (pa : Nat → Int32) (le : Nat → Int32) (mo : Nat → Int32) (f : Nat) (x : Int32) (hf : f < 12) : mt_I l yX7_goesOut wsX7_goesOut { frames := 1, cells := 0, slots := 0, locals := 22 } D [(cA, .int)] [.ref (aM 0), .int (nI f), .int x] (wM cA aM th n it k td gn dr wk sv P sd se sc ba pa le mo) (goM sd (P 4) f x) (wM cA aM th n it k td gn dr wk sv P sd se (goMc sd (P 4) sc f x) ba pa le mo) := by
  refine mt_ofI (cc := cX7_goesOut) (maxL := 5) (ret := (some .int)) (lv := [(0, .ref (aM 0)), (1, .int (nI f)), (2, .int x)]) (by decide) rfl (Nat.le_of_ble_eq_true rfl) rfl ?_
  intro p e s m args below meth c A C hr hk
  have f_56 := C.hts (.fieldLink RX7 56 "ShoreFieldsModel" "sand" "[I") (by decide +kernel)
  have in_7 : ∀ w ∈ u_ws RX7 TX7 37, w ∈ wsX7_goesOut := by decide +kernel
  have f_62 := C.hts (.fieldLink RX7 62 "ShoreFieldsModel" "scour" "[I") (by decide +kernel)
  refine pt_iload_n (pc' := 1) C dX7_goesOut_0 rfl 2 rfl ?_
  refine pt_aload_n (pc' := 2) C dX7_goesOut_1 rfl 0 rfl ?_
  refine pt_get (pc' := 5) C in_7 dX7_goesOut_2 rfl 0 19 rfl rfl (by decide) f_56 rfl ?_
  refine pt_iload_n (pc' := 6) C dX7_goesOut_5 rfl 1 rfl ?_
  refine pt_iald (pc' := 7) C dX7_goesOut_6 rfl 13 rfl rfl f (rfl) (by omega) (by decide) ?_
  refine pt_jn (q := 20) (k := 0) (n := 0) (wM cA aM th n it k td gn dr wk sv P sd se sc ba pa le mo) [(0, .ref (aM 0)), (1, .int (nI f)), (2, .int x)] [.int (if x ≤ (sd f) then x else sd f)] (fun K => ?_) ?_
  · refine pt_icmp_le (pc' := 10) (tgt := 19) C dX7_goesOut_7 (by decide) rfl (fun h_7 => ?_) (fun h_7 => ?_)
    · refine pt_iload_n (pc' := 20) C dX7_goesOut_19 rfl 2 rfl ?_
      exact pt_cv (lv' := [(0, .ref (aM 0)), (1, .int (nI f)), (2, .int x)]) rfl [0, 1, 2] rfl rfl (by simpa only [if_pos h_7] using K)
    · refine pt_aload_n (pc' := 11) C dX7_goesOut_10 rfl 0 rfl ?_
      refine pt_get (pc' := 14) C in_7 dX7_goesOut_11 rfl 0 19 rfl rfl (by decide) f_56 rfl ?_
      refine pt_iload_n (pc' := 15) C dX7_goesOut_14 rfl 1 rfl ?_
      refine pt_iald (pc' := 16) C dX7_goesOut_15 rfl 13 rfl rfl f (rfl) (by omega) (by decide) ?_
      refine pt_goto (pc' := 20) C dX7_goesOut_16 (by decide) ?_
      exact pt_cv (lv' := [(0, .ref (aM 0)), (1, .int (nI f)), (2, .int x)]) rfl [0, 1, 2] rfl rfl (by simpa only [if_neg h_7] using K)
  refine pt_istore_n (pc' := 21) (lv' := [(3, .int (if x ≤ (sd f) then x else sd f)), (0, .ref (aM 0)), (1, .int (nI f)), (2, .int x)]) C dX7_goesOut_20 rfl rfl (by decide) rfl ?_
  refine pt_aload_n (pc' := 22) C dX7_goesOut_21 rfl 1 rfl ?_
  refine pt_iload_n (pc' := 23) C dX7_goesOut_22 rfl 2 rfl ?_
  refine pt_cvI0 (pc' := 26) (w1 := wM cA aM th n it k td gn dr wk sv P sd se sc ba pa le mo) (As := [.int (nI f)]) (rest := []) C (mX7_above l D cA aM th n it k td gn dr wk sv P sd se sc ba pa le mo f (by first | assumption | omega)) (cwV 1 C.hts gX7_goesOut_X7_above rfl rfl rfl (by decide +kernel) ⟨Nat.le_of_ble_eq_true rfl, Nat.le_of_ble_eq_true rfl⟩) dX7_goesOut_23 rfl 0 rfl rfl rfl rfl rfl (Nat.le_of_ble_eq_true rfl) ⟨Nat.le_of_ble_eq_true rfl, Nat.le_of_ble_eq_true rfl⟩ ?_
  refine pt_istore (pc' := 28) (lv' := [(4, .int (abM sd (P 4) f)), (3, .int (if x ≤ (sd f) then x else sd f)), (0, .ref (aM 0)), (1, .int (nI f)), (2, .int x)]) C dX7_goesOut_26 rfl (by decide) rfl ?_
  refine pt_iload_n (pc' := 29) C dX7_goesOut_28 rfl 1 rfl ?_
  refine pt_iload (pc' := 31) C dX7_goesOut_29 rfl 0 rfl ?_
  refine pt_icmp_le (pc' := 34) (tgt := 50) C dX7_goesOut_31 (by decide) rfl (fun h_31 => ?_) (fun h_31 => ?_)
  · refine pt_iload_n (pc' := 51) C dX7_goesOut_50 rfl 1 rfl ?_
    exact pt_iret C hr hk dX7_goesOut_51 (rfl) (by simp only [goM, goMc, if_pos h_31]) (by simp only [goM, goMc, if_pos h_31])
  · refine pt_aload_n (pc' := 35) C dX7_goesOut_34 rfl 2 rfl ?_
    refine pt_get (pc' := 38) C in_7 dX7_goesOut_35 rfl 0 21 rfl rfl (by decide) f_62 rfl ?_
    refine pt_iload_n (pc' := 39) C dX7_goesOut_38 rfl 3 rfl ?_
    refine pt_dup2 (pc' := 40) C dX7_goesOut_39 rfl rfl rfl ?_
    refine pt_iald (pc' := 41) C dX7_goesOut_40 rfl 15 rfl rfl f (rfl) (by omega) (by decide) ?_
    refine pt_iload_n (pc' := 42) C dX7_goesOut_41 rfl 1 rfl ?_
    refine pt_iload (pc' := 44) C dX7_goesOut_42 rfl 0 rfl ?_
    refine pt_isub (pc' := 45) C dX7_goesOut_44 rfl ?_
    refine pt_iadd (pc' := 46) C dX7_goesOut_45 rfl ?_
    refine pt_iast (pc' := 47) (ws' := wM cA aM th n it k td gn dr wk sv P sd se (upd sc f ((sc f) + ((if x ≤ (sd f) then x else sd f) - (abM sd (P 4) f)))) ba pa le mo) C dX7_goesOut_46 rfl 15 rfl rfl f (rfl) (by omega) (by decide) rfl ?_
    refine pt_iload (pc' := 49) C dX7_goesOut_47 rfl 0 rfl ?_
    exact pt_iret C hr hk dX7_goesOut_49 (rfl) (by simp only [goM, goMc, if_neg h_31]) (by simp only [goM, goMc, if_neg h_31])

set_option maxHeartbeats 4000000 in
set_option maxRecDepth 100000 in
theorem mX7_passes (l : Launch) (D : va_G) (cA : ClassId) (aM : Nat → Nat) (th : Int32) (n : Nat) (it : Int32) (k : Int32) (td : Nat) (gn : Nat) (dr : Nat) (wk : Nat) (sv : Nat) (P : Nat → Nat → Int32) (sd : Nat → Int32) (se : Nat → Int32) (sc : Nat → Int32) (ba : Nat → Int32) (pa : Nat → Int32) (le : Nat → Int32) (mo : Nat → Int32) (b : Nat) (u : Nat) (d : Nat) (h : Int32) (kk : Int32) (hb : b < 13) (hu : u < 12) (hd : d < 12) : mt_I l yX7_passes wsX7_passes { frames := 2, cells := 0, slots := 0, locals := 46 } D [(cA, .int)] [.ref (aM 0), .int (nI b), .int (nI u), .int (nI d), .int h, .int kk] (wM cA aM th n it k td gn dr wk sv P sd se sc ba pa le mo) (goM sd (P 4) u (drM h kk sd le (P 3) u d b)) (wM cA aM th n it k td gn dr wk sv P sd se (goMc sd (P 4) sc u (drM h kk sd le (P 3) u d b)) ba pa le mo) := by
  refine mt_ofI (cc := cX7_passes) (maxL := 8) (ret := (some .int)) (lv := [(0, .ref (aM 0)), (1, .int (nI b)), (2, .int (nI u)), (3, .int (nI d)), (4, .int h), (5, .int kk)]) (by decide) rfl (Nat.le_of_ble_eq_true rfl) rfl ?_
  intro p e s m args below meth c A C hr hk
  have f_56 := C.hts (.fieldLink RX7 56 "ShoreFieldsModel" "sand" "[I") (by decide +kernel)
  have in_7 : ∀ w ∈ u_ws RX7 TX7 37, w ∈ wsX7_passes := by decide +kernel
  have f_71 := C.hts (.fieldLink RX7 71 "ShoreFieldsModel" "lengths" "[I") (by decide +kernel)
  have f_26 := C.hts (.fieldLink RX7 26 "ShoreFieldsModel" "part" "[I") (by decide +kernel)
  refine pt_aload_n (pc' := 1) C dX7_passes_0 rfl 0 rfl ?_
  refine pt_get (pc' := 4) C in_7 dX7_passes_1 rfl 0 19 rfl rfl (by decide) f_56 rfl ?_
  refine pt_iload_n (pc' := 5) C dX7_passes_4 rfl 2 rfl ?_
  refine pt_iald (pc' := 6) C dX7_passes_5 rfl 13 rfl rfl u (rfl) (by omega) (by decide) ?_
  refine pt_bipush (pc' := 8) C dX7_passes_6 rfl (v := 10) (by decide) ?_
  refine pt_idiv (pc' := 9) C dX7_passes_8 rfl (by decide) ?_
  refine pt_aload_n (pc' := 10) C dX7_passes_9 rfl 0 rfl ?_
  refine pt_get (pc' := 13) C in_7 dX7_passes_10 rfl 0 19 rfl rfl (by decide) f_56 rfl ?_
  refine pt_iload_n (pc' := 14) C dX7_passes_13 rfl 3 rfl ?_
  refine pt_iald (pc' := 15) C dX7_passes_14 rfl 13 rfl rfl d (rfl) (by omega) (by decide) ?_
  refine pt_bipush (pc' := 17) C dX7_passes_15 rfl (v := 10) (by decide) ?_
  refine pt_idiv (pc' := 18) C dX7_passes_17 rfl (by decide) ?_
  refine pt_isub (pc' := 19) C dX7_passes_18 rfl ?_
  refine pt_istore (pc' := 21) (lv' := [(6, .int (((sd u) / 10) - ((sd d) / 10))), (0, .ref (aM 0)), (1, .int (nI b)), (2, .int (nI u)), (3, .int (nI d)), (4, .int h), (5, .int kk)]) C dX7_passes_19 rfl (by decide) rfl ?_
  refine pt_iload (pc' := 23) C dX7_passes_21 rfl 0 rfl ?_
  refine pt_bipush (pc' := 25) C dX7_passes_23 rfl (v := -9) (by decide) ?_
  refine pt_jn (q := 47) (k := 0) (n := 0) (wM cA aM th n it k td gn dr wk sv P sd se sc ba pa le mo) [(6, .int (((sd u) / 10) - ((sd d) / 10))), (0, .ref (aM 0)), (1, .int (nI b)), (2, .int (nI u)), (3, .int (nI d)), (4, .int h), (5, .int kk)] [.int (if (-9) ≤ (((sd u) / 10) - ((sd d) / 10)) then if (((sd u) / 10) - ((sd d) / 10)) ≤ 9 then ((sd u) / 10) - ((sd d) / 10) else 9 else -9)] (fun K => ?_) ?_
  · refine pt_icmp_ge (pc' := 28) (tgt := 33) C dX7_passes_25 (by decide) rfl (fun h_25 => ?_) (fun h_25 => ?_)
    · refine pt_iload (pc' := 35) C dX7_passes_33 rfl 0 rfl ?_
      refine pt_bipush (pc' := 37) C dX7_passes_35 rfl (v := 9) (by decide) ?_
      refine pt_icmp_le (pc' := 40) (tgt := 45) C dX7_passes_37 (by decide) rfl (fun h_37 => ?_) (fun h_37 => ?_)
      · refine pt_iload (pc' := 47) C dX7_passes_45 rfl 0 rfl ?_
        exact pt_cv (lv' := [(6, .int (((sd u) / 10) - ((sd d) / 10))), (0, .ref (aM 0)), (1, .int (nI b)), (2, .int (nI u)), (3, .int (nI d)), (4, .int h), (5, .int kk)]) rfl [0, 1, 2, 3, 4, 5, 6] rfl rfl (by simpa only [if_pos h_25, if_pos h_37] using K)
      · refine pt_bipush (pc' := 42) C dX7_passes_40 rfl (v := 9) (by decide) ?_
        refine pt_goto (pc' := 47) C dX7_passes_42 (by decide) ?_
        exact pt_cv (lv' := [(6, .int (((sd u) / 10) - ((sd d) / 10))), (0, .ref (aM 0)), (1, .int (nI b)), (2, .int (nI u)), (3, .int (nI d)), (4, .int h), (5, .int kk)]) rfl [0, 1, 2, 3, 4, 5, 6] rfl rfl (by simpa only [if_pos h_25, if_neg h_37] using K)
    · refine pt_bipush (pc' := 30) C dX7_passes_28 rfl (v := -9) (by decide) ?_
      refine pt_goto (pc' := 47) C dX7_passes_30 (by decide) ?_
      exact pt_cv (lv' := [(6, .int (((sd u) / 10) - ((sd d) / 10))), (0, .ref (aM 0)), (1, .int (nI b)), (2, .int (nI u)), (3, .int (nI d)), (4, .int h), (5, .int kk)]) rfl [0, 1, 2, 3, 4, 5, 6] rfl rfl (by simpa only [if_neg h_25] using K)
  refine pt_istore (pc' := 49) (lv' := [(6, .int (if (-9) ≤ (((sd u) / 10) - ((sd d) / 10)) then if (((sd u) / 10) - ((sd d) / 10)) ≤ 9 then ((sd u) / 10) - ((sd d) / 10) else 9 else -9)), (0, .ref (aM 0)), (1, .int (nI b)), (2, .int (nI u)), (3, .int (nI d)), (4, .int h), (5, .int kk)]) C dX7_passes_47 rfl (by decide) rfl ?_
  refine pt_iload (pc' := 51) C dX7_passes_49 rfl 5 rfl ?_
  refine pt_iload (pc' := 53) C dX7_passes_51 rfl 6 rfl ?_
  refine pt_imul (pc' := 54) C dX7_passes_53 rfl ?_
  refine pt_iload (pc' := 56) C dX7_passes_54 rfl 5 rfl ?_
  refine pt_iload (pc' := 58) C dX7_passes_56 rfl 0 rfl ?_
  refine pt_imul (pc' := 59) C dX7_passes_58 rfl ?_
  refine pt_iconst (pc' := 60) C dX7_passes_59 rfl (v := 3) (by decide) ?_
  refine pt_idiv (pc' := 61) C dX7_passes_60 rfl (by decide) ?_
  refine pt_iadd (pc' := 62) C dX7_passes_61 rfl ?_
  refine pt_istore (pc' := 64) (lv' := [(7, .int ((h * kk) + ((h * (if (-9) ≤ (((sd u) / 10) - ((sd d) / 10)) then if (((sd u) / 10) - ((sd d) / 10)) ≤ 9 then ((sd u) / 10) - ((sd d) / 10) else 9 else -9)) / 3))), (6, .int (if (-9) ≤ (((sd u) / 10) - ((sd d) / 10)) then if (((sd u) / 10) - ((sd d) / 10)) ≤ 9 then ((sd u) / 10) - ((sd d) / 10) else 9 else -9)), (0, .ref (aM 0)), (1, .int (nI b)), (2, .int (nI u)), (3, .int (nI d)), (4, .int h), (5, .int kk)]) C dX7_passes_62 rfl (by decide) rfl ?_
  refine pt_iload (pc' := 66) C dX7_passes_64 rfl 0 rfl ?_
  refine pt_jn (q := 75) (k := 0) (n := 0) (wM cA aM th n it k td gn dr wk sv P sd se sc ba pa le mo) [(7, .int ((h * kk) + ((h * (if (-9) ≤ (((sd u) / 10) - ((sd d) / 10)) then if (((sd u) / 10) - ((sd d) / 10)) ≤ 9 then ((sd u) / 10) - ((sd d) / 10) else 9 else -9)) / 3))), (6, .int (if (-9) ≤ (((sd u) / 10) - ((sd d) / 10)) then if (((sd u) / 10) - ((sd d) / 10)) ≤ 9 then ((sd u) / 10) - ((sd d) / 10) else 9 else -9)), (0, .ref (aM 0)), (1, .int (nI b)), (2, .int (nI u)), (3, .int (nI d)), (4, .int h), (5, .int kk)] [.int (if 0 ≤ ((h * kk) + ((h * (if (-9) ≤ (((sd u) / 10) - ((sd d) / 10)) then if (((sd u) / 10) - ((sd d) / 10)) ≤ 9 then ((sd u) / 10) - ((sd d) / 10) else 9 else -9)) / 3)) then (h * kk) + ((h * (if (-9) ≤ (((sd u) / 10) - ((sd d) / 10)) then if (((sd u) / 10) - ((sd d) / 10)) ≤ 9 then ((sd u) / 10) - ((sd d) / 10) else 9 else -9)) / 3) else 0)] (fun K => ?_) ?_
  · refine pt_if_ge (pc' := 69) (tgt := 73) C dX7_passes_66 (by decide) rfl (fun h_66 => ?_) (fun h_66 => ?_)
    · refine pt_iload (pc' := 75) C dX7_passes_73 rfl 0 rfl ?_
      exact pt_cv (lv' := [(7, .int ((h * kk) + ((h * (if (-9) ≤ (((sd u) / 10) - ((sd d) / 10)) then if (((sd u) / 10) - ((sd d) / 10)) ≤ 9 then ((sd u) / 10) - ((sd d) / 10) else 9 else -9)) / 3))), (6, .int (if (-9) ≤ (((sd u) / 10) - ((sd d) / 10)) then if (((sd u) / 10) - ((sd d) / 10)) ≤ 9 then ((sd u) / 10) - ((sd d) / 10) else 9 else -9)), (0, .ref (aM 0)), (1, .int (nI b)), (2, .int (nI u)), (3, .int (nI d)), (4, .int h), (5, .int kk)]) rfl [0, 1, 2, 3, 4, 5, 6, 7] rfl rfl (by simpa only [if_pos h_66] using K)
    · refine pt_iconst (pc' := 70) C dX7_passes_69 rfl (v := 0) (by decide) ?_
      refine pt_goto (pc' := 75) C dX7_passes_70 (by decide) ?_
      exact pt_cv (lv' := [(7, .int ((h * kk) + ((h * (if (-9) ≤ (((sd u) / 10) - ((sd d) / 10)) then if (((sd u) / 10) - ((sd d) / 10)) ≤ 9 then ((sd u) / 10) - ((sd d) / 10) else 9 else -9)) / 3))), (6, .int (if (-9) ≤ (((sd u) / 10) - ((sd d) / 10)) then if (((sd u) / 10) - ((sd d) / 10)) ≤ 9 then ((sd u) / 10) - ((sd d) / 10) else 9 else -9)), (0, .ref (aM 0)), (1, .int (nI b)), (2, .int (nI u)), (3, .int (nI d)), (4, .int h), (5, .int kk)]) rfl [0, 1, 2, 3, 4, 5, 6, 7] rfl rfl (by simpa only [if_neg h_66] using K)
  refine pt_istore (pc' := 77) (lv' := [(7, .int (if 0 ≤ ((h * kk) + ((h * (if (-9) ≤ (((sd u) / 10) - ((sd d) / 10)) then if (((sd u) / 10) - ((sd d) / 10)) ≤ 9 then ((sd u) / 10) - ((sd d) / 10) else 9 else -9)) / 3)) then (h * kk) + ((h * (if (-9) ≤ (((sd u) / 10) - ((sd d) / 10)) then if (((sd u) / 10) - ((sd d) / 10)) ≤ 9 then ((sd u) / 10) - ((sd d) / 10) else 9 else -9)) / 3) else 0)), (6, .int (if (-9) ≤ (((sd u) / 10) - ((sd d) / 10)) then if (((sd u) / 10) - ((sd d) / 10)) ≤ 9 then ((sd u) / 10) - ((sd d) / 10) else 9 else -9)), (0, .ref (aM 0)), (1, .int (nI b)), (2, .int (nI u)), (3, .int (nI d)), (4, .int h), (5, .int kk)]) C dX7_passes_75 rfl (by decide) rfl ?_
  refine pt_aload_n (pc' := 78) C dX7_passes_77 rfl 2 rfl ?_
  refine pt_get (pc' := 81) C in_7 dX7_passes_78 rfl 0 19 rfl rfl (by decide) f_56 rfl ?_
  refine pt_iload_n (pc' := 82) C dX7_passes_81 rfl 4 rfl ?_
  refine pt_iald (pc' := 83) C dX7_passes_82 rfl 13 rfl rfl u (rfl) (by omega) (by decide) ?_
  refine pt_bipush (pc' := 85) C dX7_passes_83 rfl (v := 10) (by decide) ?_
  refine pt_idiv (pc' := 86) C dX7_passes_85 rfl (by decide) ?_
  refine pt_aload_n (pc' := 87) C dX7_passes_86 rfl 2 rfl ?_
  refine pt_get (pc' := 90) C in_7 dX7_passes_87 rfl 0 24 rfl rfl (by decide) f_71 rfl ?_
  refine pt_iload_n (pc' := 91) C dX7_passes_90 rfl 3 rfl ?_
  refine pt_iald (pc' := 92) C dX7_passes_91 rfl 18 rfl rfl b (rfl) (by omega) (by decide) ?_
  refine pt_jn (q := 109) (k := 0) (n := 0) (wM cA aM th n it k td gn dr wk sv P sd se sc ba pa le mo) [(7, .int (if (le b) ≤ ((sd u) / 10) then if 0 ≤ ((h * kk) + ((h * (if (-9) ≤ (((sd u) / 10) - ((sd d) / 10)) then if (((sd u) / 10) - ((sd d) / 10)) ≤ 9 then ((sd u) / 10) - ((sd d) / 10) else 9 else -9)) / 3)) then (h * kk) + ((h * (if (-9) ≤ (((sd u) / 10) - ((sd d) / 10)) then if (((sd u) / 10) - ((sd d) / 10)) ≤ 9 then ((sd u) / 10) - ((sd d) / 10) else 9 else -9)) / 3) else 0 else ((if 0 ≤ ((h * kk) + ((h * (if (-9) ≤ (((sd u) / 10) - ((sd d) / 10)) then if (((sd u) / 10) - ((sd d) / 10)) ≤ 9 then ((sd u) / 10) - ((sd d) / 10) else 9 else -9)) / 3)) then (h * kk) + ((h * (if (-9) ≤ (((sd u) / 10) - ((sd d) / 10)) then if (((sd u) / 10) - ((sd d) / 10)) ≤ 9 then ((sd u) / 10) - ((sd d) / 10) else 9 else -9)) / 3) else 0) * ((P 3) b)) / 100)), (6, .int (if (-9) ≤ (((sd u) / 10) - ((sd d) / 10)) then if (((sd u) / 10) - ((sd d) / 10)) ≤ 9 then ((sd u) / 10) - ((sd d) / 10) else 9 else -9)), (0, .ref (aM 0)), (1, .int (nI b)), (2, .int (nI u)), (3, .int (nI d)), (4, .int h), (5, .int kk)] [] (fun K => ?_) ?_
  · refine pt_icmp_ge (pc' := 95) (tgt := 109) C dX7_passes_92 (by decide) rfl (fun h_92 => ?_) (fun h_92 => ?_)
    · exact pt_cv (lv' := [(7, .int (if 0 ≤ ((h * kk) + ((h * (if (-9) ≤ (((sd u) / 10) - ((sd d) / 10)) then if (((sd u) / 10) - ((sd d) / 10)) ≤ 9 then ((sd u) / 10) - ((sd d) / 10) else 9 else -9)) / 3)) then (h * kk) + ((h * (if (-9) ≤ (((sd u) / 10) - ((sd d) / 10)) then if (((sd u) / 10) - ((sd d) / 10)) ≤ 9 then ((sd u) / 10) - ((sd d) / 10) else 9 else -9)) / 3) else 0)), (6, .int (if (-9) ≤ (((sd u) / 10) - ((sd d) / 10)) then if (((sd u) / 10) - ((sd d) / 10)) ≤ 9 then ((sd u) / 10) - ((sd d) / 10) else 9 else -9)), (0, .ref (aM 0)), (1, .int (nI b)), (2, .int (nI u)), (3, .int (nI d)), (4, .int h), (5, .int kk)]) rfl [0, 1, 2, 3, 4, 5, 6, 7] rfl rfl (by simpa only [if_pos h_92] using K)
    · refine pt_iload (pc' := 97) C dX7_passes_95 rfl 0 rfl ?_
      refine pt_aload_n (pc' := 98) C dX7_passes_97 rfl 2 rfl ?_
      refine pt_get (pc' := 101) C in_7 dX7_passes_98 rfl 0 6 rfl rfl (by decide) f_26 rfl ?_
      refine pt_iload_n (pc' := 102) C dX7_passes_101 rfl 3 rfl ?_
      refine pt_iald (pc' := 103) C dX7_passes_102 rfl 4 rfl rfl b (rfl) (by omega) (by decide) ?_
      refine pt_imul (pc' := 104) C dX7_passes_103 rfl ?_
      refine pt_bipush (pc' := 106) C dX7_passes_104 rfl (v := 100) (by decide) ?_
      refine pt_idiv (pc' := 107) C dX7_passes_106 rfl (by decide) ?_
      refine pt_istore (pc' := 109) (lv' := [(7, .int (((if 0 ≤ ((h * kk) + ((h * (if (-9) ≤ (((sd u) / 10) - ((sd d) / 10)) then if (((sd u) / 10) - ((sd d) / 10)) ≤ 9 then ((sd u) / 10) - ((sd d) / 10) else 9 else -9)) / 3)) then (h * kk) + ((h * (if (-9) ≤ (((sd u) / 10) - ((sd d) / 10)) then if (((sd u) / 10) - ((sd d) / 10)) ≤ 9 then ((sd u) / 10) - ((sd d) / 10) else 9 else -9)) / 3) else 0) * ((P 3) b)) / 100)), (6, .int (if (-9) ≤ (((sd u) / 10) - ((sd d) / 10)) then if (((sd u) / 10) - ((sd d) / 10)) ≤ 9 then ((sd u) / 10) - ((sd d) / 10) else 9 else -9)), (0, .ref (aM 0)), (1, .int (nI b)), (2, .int (nI u)), (3, .int (nI d)), (4, .int h), (5, .int kk)]) C dX7_passes_107 rfl (by decide) rfl ?_
      exact pt_cv (lv' := [(7, .int (((if 0 ≤ ((h * kk) + ((h * (if (-9) ≤ (((sd u) / 10) - ((sd d) / 10)) then if (((sd u) / 10) - ((sd d) / 10)) ≤ 9 then ((sd u) / 10) - ((sd d) / 10) else 9 else -9)) / 3)) then (h * kk) + ((h * (if (-9) ≤ (((sd u) / 10) - ((sd d) / 10)) then if (((sd u) / 10) - ((sd d) / 10)) ≤ 9 then ((sd u) / 10) - ((sd d) / 10) else 9 else -9)) / 3) else 0) * ((P 3) b)) / 100)), (6, .int (if (-9) ≤ (((sd u) / 10) - ((sd d) / 10)) then if (((sd u) / 10) - ((sd d) / 10)) ≤ 9 then ((sd u) / 10) - ((sd d) / 10) else 9 else -9)), (0, .ref (aM 0)), (1, .int (nI b)), (2, .int (nI u)), (3, .int (nI d)), (4, .int h), (5, .int kk)]) rfl [0, 1, 2, 3, 4, 5, 6, 7] rfl rfl (by simpa only [if_neg h_92] using K)
  refine pt_aload_n (pc' := 110) C dX7_passes_109 rfl 2 rfl ?_
  refine pt_iload_n (pc' := 111) C dX7_passes_110 rfl 4 rfl ?_
  refine pt_iload (pc' := 113) C dX7_passes_111 rfl 0 rfl ?_
  refine pt_cvI0 (pc' := 116) (w1 := wM cA aM th n it k td gn dr wk sv P sd se (goMc sd (P 4) sc u (if (le b) ≤ ((sd u) / 10) then if 0 ≤ ((h * kk) + ((h * (if (-9) ≤ (((sd u) / 10) - ((sd d) / 10)) then if (((sd u) / 10) - ((sd d) / 10)) ≤ 9 then ((sd u) / 10) - ((sd d) / 10) else 9 else -9)) / 3)) then (h * kk) + ((h * (if (-9) ≤ (((sd u) / 10) - ((sd d) / 10)) then if (((sd u) / 10) - ((sd d) / 10)) ≤ 9 then ((sd u) / 10) - ((sd d) / 10) else 9 else -9)) / 3) else 0 else ((if 0 ≤ ((h * kk) + ((h * (if (-9) ≤ (((sd u) / 10) - ((sd d) / 10)) then if (((sd u) / 10) - ((sd d) / 10)) ≤ 9 then ((sd u) / 10) - ((sd d) / 10) else 9 else -9)) / 3)) then (h * kk) + ((h * (if (-9) ≤ (((sd u) / 10) - ((sd d) / 10)) then if (((sd u) / 10) - ((sd d) / 10)) ≤ 9 then ((sd u) / 10) - ((sd d) / 10) else 9 else -9)) / 3) else 0) * ((P 3) b)) / 100)) ba pa le mo) (As := [.int (nI u), .int (if (le b) ≤ ((sd u) / 10) then if 0 ≤ ((h * kk) + ((h * (if (-9) ≤ (((sd u) / 10) - ((sd d) / 10)) then if (((sd u) / 10) - ((sd d) / 10)) ≤ 9 then ((sd u) / 10) - ((sd d) / 10) else 9 else -9)) / 3)) then (h * kk) + ((h * (if (-9) ≤ (((sd u) / 10) - ((sd d) / 10)) then if (((sd u) / 10) - ((sd d) / 10)) ≤ 9 then ((sd u) / 10) - ((sd d) / 10) else 9 else -9)) / 3) else 0 else ((if 0 ≤ ((h * kk) + ((h * (if (-9) ≤ (((sd u) / 10) - ((sd d) / 10)) then if (((sd u) / 10) - ((sd d) / 10)) ≤ 9 then ((sd u) / 10) - ((sd d) / 10) else 9 else -9)) / 3)) then (h * kk) + ((h * (if (-9) ≤ (((sd u) / 10) - ((sd d) / 10)) then if (((sd u) / 10) - ((sd d) / 10)) ≤ 9 then ((sd u) / 10) - ((sd d) / 10) else 9 else -9)) / 3) else 0) * ((P 3) b)) / 100)]) (rest := []) C (mX7_goesOut l D cA aM th n it k td gn dr wk sv P sd se sc ba pa le mo u (if (le b) ≤ ((sd u) / 10) then if 0 ≤ ((h * kk) + ((h * (if (-9) ≤ (((sd u) / 10) - ((sd d) / 10)) then if (((sd u) / 10) - ((sd d) / 10)) ≤ 9 then ((sd u) / 10) - ((sd d) / 10) else 9 else -9)) / 3)) then (h * kk) + ((h * (if (-9) ≤ (((sd u) / 10) - ((sd d) / 10)) then if (((sd u) / 10) - ((sd d) / 10)) ≤ 9 then ((sd u) / 10) - ((sd d) / 10) else 9 else -9)) / 3) else 0 else ((if 0 ≤ ((h * kk) + ((h * (if (-9) ≤ (((sd u) / 10) - ((sd d) / 10)) then if (((sd u) / 10) - ((sd d) / 10)) ≤ 9 then ((sd u) / 10) - ((sd d) / 10) else 9 else -9)) / 3)) then (h * kk) + ((h * (if (-9) ≤ (((sd u) / 10) - ((sd d) / 10)) then if (((sd u) / 10) - ((sd d) / 10)) ≤ 9 then ((sd u) / 10) - ((sd d) / 10) else 9 else -9)) / 3) else 0) * ((P 3) b)) / 100) (by first | assumption | omega)) (cwV 2 C.hts gX7_passes_X7_goesOut rfl rfl rfl (by decide +kernel) ⟨Nat.le_of_ble_eq_true rfl, Nat.le_of_ble_eq_true rfl⟩) dX7_passes_113 rfl 0 rfl rfl rfl rfl rfl (Nat.le_of_ble_eq_true rfl) ⟨Nat.le_of_ble_eq_true rfl, Nat.le_of_ble_eq_true rfl⟩ ?_
  exact pt_iret C hr hk dX7_passes_116 (rfl) (rfl) (rfl)
