theorem mX2_goThrough (l : Launch) (D : va_G) (cA : ClassId) (aS : Nat → Nat) (sd : Nat → Int32) (se : Nat → Int32) (sc : Nat → Int32) (ba : Nat → Int32) (pa : Nat → Int32) (ch : Nat → Int32) (aB : Nat → Nat) (n : Nat) (k : Int32) (bs : Nat → Int32) (wl : Nat → Int32) (fd : Nat → Int32) (kd : Nat → Int32) (sz : Nat → Int32) (lk : Nat → Int32) (h : Int32) (x : Int32) (hn : 2 ≤ n) (hm : n ≤ 12) (hs : x = 0 ∨ x = 1 ∨ x = 2) : mt_V l yX2_goThrough wsX2_goThrough { frames := 4, cells := 0, slots := 0, locals := 130 } D [(cA, .int)] [.ref (aS 0), .ref (aB 0), .int h, .int x] (wS cA aS sd se sc ba pa ch ++ wB cA aB n k bs wl fd kd sz lk) (wS cA aS ((wkX n k wl fd kd sz lk h x (sd, se, sc, ba, pa, ch)).1) ((wkX n k wl fd kd sz lk h x (sd, se, sc, ba, pa, ch)).2.1) ((wkX n k wl fd kd sz lk h x (sd, se, sc, ba, pa, ch)).2.2.1) ((wkX n k wl fd kd sz lk h x (sd, se, sc, ba, pa, ch)).2.2.2.1) ((wkX n k wl fd kd sz lk h x (sd, se, sc, ba, pa, ch)).2.2.2.2.1) ((wkX n k wl fd kd sz lk h x (sd, se, sc, ba, pa, ch)).2.2.2.2.2) ++ wB cA aB n k bs wl fd kd sz lk) := by
  rcases hs with rfl | rfl | rfl
  · have e : wkX n k wl fd kd sz lk h 0 (sd, se, sc, ba, pa, ch) = wx1 false n k wl fd kd sz lk h (sd, se, sc, ba, pa, ch) := if_pos rfl
    rw [e]; exact cX2_goThrough_0 l D cA aS sd se sc ba pa ch aB n k bs wl fd kd sz lk h hn hm
  · have e : wkX n k wl fd kd sz lk h 1 (sd, se, sc, ba, pa, ch) = wx1 true n k wl fd kd sz lk h (sd, se, sc, ba, pa, ch) := by rw [wkX, if_neg (by decide), if_pos rfl]
    rw [e]; exact cX2_goThrough_1 l D cA aS sd se sc ba pa ch aB n k bs wl fd kd sz lk h hn hm
  · have e : wkX n k wl fd kd sz lk h 2 (sd, se, sc, ba, pa, ch) = wx2 n wl h (sd, se, sc, ba, pa, ch) := by rw [wkX, if_neg (by decide), if_neg (by decide)]
    rw [e]; exact cX2_goThrough_2 l D cA aS sd se sc ba pa ch aB n k bs wl fd kd sz lk h hn hm

set_option maxHeartbeats 4000000 in
set_option maxRecDepth 100000 in
theorem mX4_add (l : Launch) (D : va_G) (cA : ClassId) (aW : Nat → Nat) (td : Nat) (he : Nat → Int32) (si : Nat → Int32) (h : Int32) (x : Int32) (ht : td < 120) : mt_V l yX4_add wsX4_add { frames := 0, cells := 0, slots := 0, locals := 0 } D [(cA, .int)] [.ref (aW 0), .int h, .int x] (wW cA aW td he si) (wW cA aW (td + 1) (upd he td h) (upd si td x)) := by
  refine mt_ofV (cc := cX4_add) (maxL := 3) (ret := none) (lv := [(0, .ref (aW 0)), (1, .int h), (2, .int x)]) (by decide) rfl (Nat.le_of_ble_eq_true rfl) rfl ?_
  intro p e s m args below meth c A C hr hk
  have f_9 := C.hts (.fieldLink RX4 9 "ShoreFields$Weather" "size" "I") (by decide +kernel)
  have in_4 : ∀ w ∈ u_ws RX4 TX4 3, w ∈ wsX4_add := by decide +kernel
  have f_15 := C.hts (.fieldLink RX4 15 "ShoreFields$Weather" "heights" "[I") (by decide +kernel)
  have f_19 := C.hts (.fieldLink RX4 19 "ShoreFields$Weather" "sides" "[I") (by decide +kernel)
  refine pt_aload_n (pc' := 1) C dX4_add_0 rfl 0 rfl ?_
  refine pt_get (pc' := 4) C in_4 dX4_add_1 rfl 0 0 rfl rfl (by decide) f_9 rfl ?_
  refine pt_bipush (pc' := 6) C dX4_add_4 rfl (v := 120) (by decide) ?_
  refine pt_icmp_ge (pc' := 9) (tgt := 39) C dX4_add_6 (by decide) rfl (fun h_6 => absurd h_6 (nI_ge ht (by decide))) (fun h_6 => ?_)
  refine pt_aload_n (pc' := 10) C dX4_add_9 rfl 0 rfl ?_
  refine pt_get (pc' := 13) C in_4 dX4_add_10 rfl 0 1 rfl rfl (by decide) f_15 rfl ?_
  refine pt_aload_n (pc' := 14) C dX4_add_13 rfl 0 rfl ?_
  refine pt_get (pc' := 17) C in_4 dX4_add_14 rfl 0 0 rfl rfl (by decide) f_9 rfl ?_
  refine pt_iload_n (pc' := 18) C dX4_add_17 rfl 1 rfl ?_
  refine pt_iast (pc' := 19) (ws' := wW cA aW td (upd he td h) si) C dX4_add_18 rfl 1 rfl rfl td (rfl) (by omega) (by decide) rfl ?_
  refine pt_aload_n (pc' := 20) C dX4_add_19 rfl 0 rfl ?_
  refine pt_get (pc' := 23) C in_4 dX4_add_20 rfl 0 2 rfl rfl (by decide) f_19 rfl ?_
  refine pt_aload_n (pc' := 24) C dX4_add_23 rfl 0 rfl ?_
  refine pt_get (pc' := 27) C in_4 dX4_add_24 rfl 0 0 rfl rfl (by decide) f_9 rfl ?_
  refine pt_iload_n (pc' := 28) C dX4_add_27 rfl 2 rfl ?_
  refine pt_iast (pc' := 29) (ws' := wW cA aW td (upd he td h) (upd si td x)) C dX4_add_28 rfl 2 rfl rfl td (rfl) (by omega) (by decide) rfl ?_
  refine pt_aload_n (pc' := 30) C dX4_add_29 rfl 0 rfl ?_
  refine pt_dup (pc' := 31) C dX4_add_30 rfl rfl ?_
  refine pt_get (pc' := 34) C in_4 dX4_add_31 rfl 0 0 rfl rfl (by decide) f_9 rfl ?_
  refine pt_iconst (pc' := 35) C dX4_add_34 rfl (v := 1) (by decide) ?_
  refine pt_iadd (pc' := 36) C dX4_add_35 rfl ?_
  refine pt_eq (st' := [.int (nI (td + 1)), .ref (aW 0)]) rfl rfl (by rw [nI_1]) ?_
  refine pt_put (pc' := 39) (ty := .int) (ws' := wW cA aW (td + 1) (upd he td h) (upd si td x)) C in_4 tyX4 tyX4_ok nmX4 dX4_add_36 rfl 0 0 rfl rfl (by decide) f_9 rfl (by decide +kernel) (rfl) (rfl) (Nat.le_of_ble_eq_true rfl) rfl ?_
  exact pt_vret C hr hk dX4_add_39 (rfl)

set_option maxHeartbeats 4000000 in
set_option maxRecDepth 100000 in
theorem mX1_add (l : Launch) (D : va_G) (cA : ClassId) (aD : Nat → Nat) (dr : Nat) (db : Nat → Int32) (du : Nat → Int32) (df : Nat → Int32) (dw : Nat → Int32) (x1 : Int32) (x2 : Int32) (x3 : Int32) (x4 : Int32) (ht : dr < 20) : mt_V l yX1_add wsX1_add { frames := 0, cells := 0, slots := 0, locals := 0 } D [(cA, .int)] [.ref (aD 0), .int x1, .int x2, .int x3, .int x4] (wD cA aD dr db du df dw) (wD cA aD (dr + 1) (upd db dr x1) (upd du dr x2) (upd df dr x3) (upd dw dr x4)) := by
  refine mt_ofV (cc := cX1_add) (maxL := 5) (ret := none) (lv := [(0, .ref (aD 0)), (1, .int x1), (2, .int x2), (3, .int x3), (4, .int x4)]) (by decide) rfl (Nat.le_of_ble_eq_true rfl) rfl ?_
  intro p e s m args below meth c A C hr hk
  have f_9 := C.hts (.fieldLink RX1 9 "ShoreFields$Dredgings" "size" "I") (by decide +kernel)
  have in_1 : ∀ w ∈ u_ws RX1 TX1 5, w ∈ wsX1_add := by decide +kernel
  have f_15 := C.hts (.fieldLink RX1 15 "ShoreFields$Dredgings" "borders" "[I") (by decide +kernel)
  have f_19 := C.hts (.fieldLink RX1 19 "ShoreFields$Dredgings" "units" "[I") (by decide +kernel)
  have f_22 := C.hts (.fieldLink RX1 22 "ShoreFields$Dredgings" "fields" "[I") (by decide +kernel)
  have f_25 := C.hts (.fieldLink RX1 25 "ShoreFields$Dredgings" "weeks" "[I") (by decide +kernel)
  refine pt_aload_n (pc' := 1) C dX1_add_0 rfl 0 rfl ?_
  refine pt_get (pc' := 4) C in_1 dX1_add_1 rfl 0 0 rfl rfl (by decide) f_9 rfl ?_
  refine pt_bipush (pc' := 6) C dX1_add_4 rfl (v := 20) (by decide) ?_
  refine pt_icmp_ge (pc' := 9) (tgt := 60) C dX1_add_6 (by decide) rfl (fun h_6 => absurd h_6 (nI_ge ht (by decide))) (fun h_6 => ?_)
  refine pt_aload_n (pc' := 10) C dX1_add_9 rfl 0 rfl ?_
  refine pt_get (pc' := 13) C in_1 dX1_add_10 rfl 0 1 rfl rfl (by decide) f_15 rfl ?_
  refine pt_aload_n (pc' := 14) C dX1_add_13 rfl 0 rfl ?_
  refine pt_get (pc' := 17) C in_1 dX1_add_14 rfl 0 0 rfl rfl (by decide) f_9 rfl ?_
  refine pt_iload_n (pc' := 18) C dX1_add_17 rfl 1 rfl ?_
  refine pt_iast (pc' := 19) (ws' := wD cA aD dr (upd db dr x1) du df dw) C dX1_add_18 rfl 1 rfl rfl dr (rfl) (by omega) (by decide) rfl ?_
  refine pt_aload_n (pc' := 20) C dX1_add_19 rfl 0 rfl ?_
  refine pt_get (pc' := 23) C in_1 dX1_add_20 rfl 0 2 rfl rfl (by decide) f_19 rfl ?_
  refine pt_aload_n (pc' := 24) C dX1_add_23 rfl 0 rfl ?_
  refine pt_get (pc' := 27) C in_1 dX1_add_24 rfl 0 0 rfl rfl (by decide) f_9 rfl ?_
  refine pt_iload_n (pc' := 28) C dX1_add_27 rfl 2 rfl ?_
  refine pt_iast (pc' := 29) (ws' := wD cA aD dr (upd db dr x1) (upd du dr x2) df dw) C dX1_add_28 rfl 2 rfl rfl dr (rfl) (by omega) (by decide) rfl ?_
  refine pt_aload_n (pc' := 30) C dX1_add_29 rfl 0 rfl ?_
  refine pt_get (pc' := 33) C in_1 dX1_add_30 rfl 0 3 rfl rfl (by decide) f_22 rfl ?_
  refine pt_aload_n (pc' := 34) C dX1_add_33 rfl 0 rfl ?_
  refine pt_get (pc' := 37) C in_1 dX1_add_34 rfl 0 0 rfl rfl (by decide) f_9 rfl ?_
  refine pt_iload_n (pc' := 38) C dX1_add_37 rfl 3 rfl ?_
  refine pt_iast (pc' := 39) (ws' := wD cA aD dr (upd db dr x1) (upd du dr x2) (upd df dr x3) dw) C dX1_add_38 rfl 3 rfl rfl dr (rfl) (by omega) (by decide) rfl ?_
  refine pt_aload_n (pc' := 40) C dX1_add_39 rfl 0 rfl ?_
  refine pt_get (pc' := 43) C in_1 dX1_add_40 rfl 0 4 rfl rfl (by decide) f_25 rfl ?_
  refine pt_aload_n (pc' := 44) C dX1_add_43 rfl 0 rfl ?_
  refine pt_get (pc' := 47) C in_1 dX1_add_44 rfl 0 0 rfl rfl (by decide) f_9 rfl ?_
  refine pt_iload (pc' := 49) C dX1_add_47 rfl 4 rfl ?_
  refine pt_iast (pc' := 50) (ws' := wD cA aD dr (upd db dr x1) (upd du dr x2) (upd df dr x3) (upd dw dr x4)) C dX1_add_49 rfl 4 rfl rfl dr (rfl) (by omega) (by decide) rfl ?_
  refine pt_aload_n (pc' := 51) C dX1_add_50 rfl 0 rfl ?_
  refine pt_dup (pc' := 52) C dX1_add_51 rfl rfl ?_
  refine pt_get (pc' := 55) C in_1 dX1_add_52 rfl 0 0 rfl rfl (by decide) f_9 rfl ?_
  refine pt_iconst (pc' := 56) C dX1_add_55 rfl (v := 1) (by decide) ?_
  refine pt_iadd (pc' := 57) C dX1_add_56 rfl ?_
  refine pt_eq (st' := [.int (nI (dr + 1)), .ref (aD 0)]) rfl rfl (by rw [nI_1]) ?_
  refine pt_put (pc' := 60) (ty := .int) (ws' := wD cA aD (dr + 1) (upd db dr x1) (upd du dr x2) (upd df dr x3) (upd dw dr x4)) C in_1 tyX1 tyX1_ok nmX1 dX1_add_57 rfl 0 0 rfl rfl (by decide) f_9 rfl (by decide +kernel) (rfl) (rfl) (Nat.le_of_ble_eq_true rfl) rfl ?_
  exact pt_vret C hr hk dX1_add_60 (rfl)

set_option maxHeartbeats 4000000 in
set_option maxRecDepth 100000 in
theorem mX3_add (l : Launch) (D : va_G) (cA : ClassId) (aV : Nat → Nat) (sv : Nat) (vf : Nat → Int32) (vw : Nat → Int32) (vl : Nat → Int32) (vm : Nat → Int32) (x1 : Int32) (x2 : Int32) (x3 : Int32) (x4 : Int32) (ht : sv < 20) : mt_V l yX3_add wsX3_add { frames := 0, cells := 0, slots := 0, locals := 0 } D [(cA, .int)] [.ref (aV 0), .int x1, .int x2, .int x3, .int x4] (wV cA aV sv vf vw vl vm) (wV cA aV (sv + 1) (upd vf sv x1) (upd vw sv x2) (upd vl sv x3) (upd vm sv x4)) := by
  refine mt_ofV (cc := cX3_add) (maxL := 5) (ret := none) (lv := [(0, .ref (aV 0)), (1, .int x1), (2, .int x2), (3, .int x3), (4, .int x4)]) (by decide) rfl (Nat.le_of_ble_eq_true rfl) rfl ?_
  intro p e s m args below meth c A C hr hk
  have f_9 := C.hts (.fieldLink RX3 9 "ShoreFields$SurveyList" "size" "I") (by decide +kernel)
  have in_3 : ∀ w ∈ u_ws RX3 TX3 5, w ∈ wsX3_add := by decide +kernel
  have f_15 := C.hts (.fieldLink RX3 15 "ShoreFields$SurveyList" "fields" "[I") (by decide +kernel)
  have f_19 := C.hts (.fieldLink RX3 19 "ShoreFields$SurveyList" "weeks" "[I") (by decide +kernel)
  have f_22 := C.hts (.fieldLink RX3 22 "ShoreFields$SurveyList" "leastLines" "[I") (by decide +kernel)
  have f_25 := C.hts (.fieldLink RX3 25 "ShoreFields$SurveyList" "mostLines" "[I") (by decide +kernel)
  refine pt_aload_n (pc' := 1) C dX3_add_0 rfl 0 rfl ?_
  refine pt_get (pc' := 4) C in_3 dX3_add_1 rfl 0 0 rfl rfl (by decide) f_9 rfl ?_
  refine pt_bipush (pc' := 6) C dX3_add_4 rfl (v := 20) (by decide) ?_
  refine pt_icmp_ge (pc' := 9) (tgt := 60) C dX3_add_6 (by decide) rfl (fun h_6 => absurd h_6 (nI_ge ht (by decide))) (fun h_6 => ?_)
  refine pt_aload_n (pc' := 10) C dX3_add_9 rfl 0 rfl ?_
  refine pt_get (pc' := 13) C in_3 dX3_add_10 rfl 0 1 rfl rfl (by decide) f_15 rfl ?_
  refine pt_aload_n (pc' := 14) C dX3_add_13 rfl 0 rfl ?_
  refine pt_get (pc' := 17) C in_3 dX3_add_14 rfl 0 0 rfl rfl (by decide) f_9 rfl ?_
  refine pt_iload_n (pc' := 18) C dX3_add_17 rfl 1 rfl ?_
  refine pt_iast (pc' := 19) (ws' := wV cA aV sv (upd vf sv x1) vw vl vm) C dX3_add_18 rfl 1 rfl rfl sv (rfl) (by omega) (by decide) rfl ?_
  refine pt_aload_n (pc' := 20) C dX3_add_19 rfl 0 rfl ?_
  refine pt_get (pc' := 23) C in_3 dX3_add_20 rfl 0 2 rfl rfl (by decide) f_19 rfl ?_
  refine pt_aload_n (pc' := 24) C dX3_add_23 rfl 0 rfl ?_
  refine pt_get (pc' := 27) C in_3 dX3_add_24 rfl 0 0 rfl rfl (by decide) f_9 rfl ?_
  refine pt_iload_n (pc' := 28) C dX3_add_27 rfl 2 rfl ?_
  refine pt_iast (pc' := 29) (ws' := wV cA aV sv (upd vf sv x1) (upd vw sv x2) vl vm) C dX3_add_28 rfl 2 rfl rfl sv (rfl) (by omega) (by decide) rfl ?_
  refine pt_aload_n (pc' := 30) C dX3_add_29 rfl 0 rfl ?_
  refine pt_get (pc' := 33) C in_3 dX3_add_30 rfl 0 3 rfl rfl (by decide) f_22 rfl ?_
  refine pt_aload_n (pc' := 34) C dX3_add_33 rfl 0 rfl ?_
  refine pt_get (pc' := 37) C in_3 dX3_add_34 rfl 0 0 rfl rfl (by decide) f_9 rfl ?_
  refine pt_iload_n (pc' := 38) C dX3_add_37 rfl 3 rfl ?_
  refine pt_iast (pc' := 39) (ws' := wV cA aV sv (upd vf sv x1) (upd vw sv x2) (upd vl sv x3) vm) C dX3_add_38 rfl 3 rfl rfl sv (rfl) (by omega) (by decide) rfl ?_
  refine pt_aload_n (pc' := 40) C dX3_add_39 rfl 0 rfl ?_
  refine pt_get (pc' := 43) C in_3 dX3_add_40 rfl 0 4 rfl rfl (by decide) f_25 rfl ?_
  refine pt_aload_n (pc' := 44) C dX3_add_43 rfl 0 rfl ?_
  refine pt_get (pc' := 47) C in_3 dX3_add_44 rfl 0 0 rfl rfl (by decide) f_9 rfl ?_
  refine pt_iload (pc' := 49) C dX3_add_47 rfl 4 rfl ?_
  refine pt_iast (pc' := 50) (ws' := wV cA aV sv (upd vf sv x1) (upd vw sv x2) (upd vl sv x3) (upd vm sv x4)) C dX3_add_49 rfl 4 rfl rfl sv (rfl) (by omega) (by decide) rfl ?_
  refine pt_aload_n (pc' := 51) C dX3_add_50 rfl 0 rfl ?_
  refine pt_dup (pc' := 52) C dX3_add_51 rfl rfl ?_
  refine pt_get (pc' := 55) C in_3 dX3_add_52 rfl 0 0 rfl rfl (by decide) f_9 rfl ?_
  refine pt_iconst (pc' := 56) C dX3_add_55 rfl (v := 1) (by decide) ?_
  refine pt_iadd (pc' := 57) C dX3_add_56 rfl ?_
  refine pt_eq (st' := [.int (nI (sv + 1)), .ref (aV 0)]) rfl rfl (by rw [nI_1]) ?_
  refine pt_put (pc' := 60) (ty := .int) (ws' := wV cA aV (sv + 1) (upd vf sv x1) (upd vw sv x2) (upd vl sv x3) (upd vm sv x4)) C in_3 tyX3 tyX3_ok nmX3 dX3_add_57 rfl 0 0 rfl rfl (by decide) f_9 rfl (by decide +kernel) (rfl) (rfl) (Nat.le_of_ble_eq_true rfl) rfl ?_
  exact pt_vret C hr hk dX3_add_60 (rfl)

set_option maxHeartbeats 4000000 in
set_option maxRecDepth 100000 in
theorem mX5_add (l : Launch) (D : va_G) (cA : ClassId) (aO : Nat → Nat) (wk : Nat) (ok : Nat → Int32) (op : Nat → Int32) (oa : Nat → Int32) (oc : Nat → Int32) (x1 : Int32) (x2 : Int32) (x3 : Int32) (x4 : Int32) (ht : wk < 6) : mt_V l yX5_add wsX5_add { frames := 0, cells := 0, slots := 0, locals := 0 } D [(cA, .int)] [.ref (aO 0), .int x1, .int x2, .int x3, .int x4] (wO cA aO wk ok op oa oc) (wO cA aO (wk + 1) (upd ok wk x1) (upd op wk x2) (upd oa wk x3) (upd oc wk x4)) := by
  refine mt_ofV (cc := cX5_add) (maxL := 5) (ret := none) (lv := [(0, .ref (aO 0)), (1, .int x1), (2, .int x2), (3, .int x3), (4, .int x4)]) (by decide) rfl (Nat.le_of_ble_eq_true rfl) rfl ?_
  intro p e s m args below meth c A C hr hk
  have f_9 := C.hts (.fieldLink RX5 9 "ShoreFields$WorkList" "size" "I") (by decide +kernel)
  have in_5 : ∀ w ∈ u_ws RX5 TX5 5, w ∈ wsX5_add := by decide +kernel
  have f_15 := C.hts (.fieldLink RX5 15 "ShoreFields$WorkList" "kinds" "[I") (by decide +kernel)
  have f_19 := C.hts (.fieldLink RX5 19 "ShoreFields$WorkList" "places" "[I") (by decide +kernel)
  have f_22 := C.hts (.fieldLink RX5 22 "ShoreFields$WorkList" "amounts" "[I") (by decide +kernel)
  have f_25 := C.hts (.fieldLink RX5 25 "ShoreFields$WorkList" "prices" "[I") (by decide +kernel)
  refine pt_aload_n (pc' := 1) C dX5_add_0 rfl 0 rfl ?_
  refine pt_get (pc' := 4) C in_5 dX5_add_1 rfl 0 0 rfl rfl (by decide) f_9 rfl ?_
  refine pt_bipush (pc' := 6) C dX5_add_4 rfl (v := 6) (by decide) ?_
  refine pt_icmp_ge (pc' := 9) (tgt := 60) C dX5_add_6 (by decide) rfl (fun h_6 => absurd h_6 (nI_ge ht (by decide))) (fun h_6 => ?_)
  refine pt_aload_n (pc' := 10) C dX5_add_9 rfl 0 rfl ?_
  refine pt_get (pc' := 13) C in_5 dX5_add_10 rfl 0 1 rfl rfl (by decide) f_15 rfl ?_
  refine pt_aload_n (pc' := 14) C dX5_add_13 rfl 0 rfl ?_
  refine pt_get (pc' := 17) C in_5 dX5_add_14 rfl 0 0 rfl rfl (by decide) f_9 rfl ?_
  refine pt_iload_n (pc' := 18) C dX5_add_17 rfl 1 rfl ?_
  refine pt_iast (pc' := 19) (ws' := wO cA aO wk (upd ok wk x1) op oa oc) C dX5_add_18 rfl 1 rfl rfl wk (rfl) (by omega) (by decide) rfl ?_
  refine pt_aload_n (pc' := 20) C dX5_add_19 rfl 0 rfl ?_
  refine pt_get (pc' := 23) C in_5 dX5_add_20 rfl 0 2 rfl rfl (by decide) f_19 rfl ?_
  refine pt_aload_n (pc' := 24) C dX5_add_23 rfl 0 rfl ?_
  refine pt_get (pc' := 27) C in_5 dX5_add_24 rfl 0 0 rfl rfl (by decide) f_9 rfl ?_
  refine pt_iload_n (pc' := 28) C dX5_add_27 rfl 2 rfl ?_
  refine pt_iast (pc' := 29) (ws' := wO cA aO wk (upd ok wk x1) (upd op wk x2) oa oc) C dX5_add_28 rfl 2 rfl rfl wk (rfl) (by omega) (by decide) rfl ?_
  refine pt_aload_n (pc' := 30) C dX5_add_29 rfl 0 rfl ?_
  refine pt_get (pc' := 33) C in_5 dX5_add_30 rfl 0 3 rfl rfl (by decide) f_22 rfl ?_
  refine pt_aload_n (pc' := 34) C dX5_add_33 rfl 0 rfl ?_
  refine pt_get (pc' := 37) C in_5 dX5_add_34 rfl 0 0 rfl rfl (by decide) f_9 rfl ?_
  refine pt_iload_n (pc' := 38) C dX5_add_37 rfl 3 rfl ?_
  refine pt_iast (pc' := 39) (ws' := wO cA aO wk (upd ok wk x1) (upd op wk x2) (upd oa wk x3) oc) C dX5_add_38 rfl 3 rfl rfl wk (rfl) (by omega) (by decide) rfl ?_
  refine pt_aload_n (pc' := 40) C dX5_add_39 rfl 0 rfl ?_
  refine pt_get (pc' := 43) C in_5 dX5_add_40 rfl 0 4 rfl rfl (by decide) f_25 rfl ?_
  refine pt_aload_n (pc' := 44) C dX5_add_43 rfl 0 rfl ?_
  refine pt_get (pc' := 47) C in_5 dX5_add_44 rfl 0 0 rfl rfl (by decide) f_9 rfl ?_
  refine pt_iload (pc' := 49) C dX5_add_47 rfl 4 rfl ?_
  refine pt_iast (pc' := 50) (ws' := wO cA aO wk (upd ok wk x1) (upd op wk x2) (upd oa wk x3) (upd oc wk x4)) C dX5_add_49 rfl 4 rfl rfl wk (rfl) (by omega) (by decide) rfl ?_
  refine pt_aload_n (pc' := 51) C dX5_add_50 rfl 0 rfl ?_
  refine pt_dup (pc' := 52) C dX5_add_51 rfl rfl ?_
  refine pt_get (pc' := 55) C in_5 dX5_add_52 rfl 0 0 rfl rfl (by decide) f_9 rfl ?_
  refine pt_iconst (pc' := 56) C dX5_add_55 rfl (v := 1) (by decide) ?_
  refine pt_iadd (pc' := 57) C dX5_add_56 rfl ?_
  refine pt_eq (st' := [.int (nI (wk + 1)), .ref (aO 0)]) rfl rfl (by rw [nI_1]) ?_
  refine pt_put (pc' := 60) (ty := .int) (ws' := wO cA aO (wk + 1) (upd ok wk x1) (upd op wk x2) (upd oa wk x3) (upd oc wk x4)) C in_5 tyX5 tyX5_ok nmX5 dX5_add_57 rfl 0 0 rfl rfl (by decide) f_9 rfl (by decide +kernel) (rfl) (rfl) (Nat.le_of_ble_eq_true rfl) rfl ?_
  exact pt_vret C hr hk dX5_add_60 (rfl)

set_option maxHeartbeats 4000000 in
set_option maxRecDepth 100000 in
theorem mX1_redoBehind (l : Launch) (D : va_G) (cA : ClassId) (aD : Nat → Nat) (dr : Nat) (db : Nat → Int32) (du : Nat → Int32) (df : Nat → Int32) (dw : Nat → Int32) (aS : Nat → Nat) (sd : Nat → Int32) (se : Nat → Int32) (sc : Nat → Int32) (ba : Nat → Int32) (pa : Nat → Int32) (ch : Nat → Int32) (w : Int32) (hm : dr ≤ 20) (hD : ∀ i, i < dr → dOk db df i) : mt_V l yX1_redoBehind wsX1_redoBehind { frames := 2, cells := 0, slots := 0, locals := 39 } D [(cA, .int)] [.ref (aD 0), .int w, .ref (aS 0)] (wD cA aD dr db du df dw ++ wS cA aS sd se sc ba pa ch) (wD cA aD dr db du df dw ++ wS cA aS ((itz (rdX w db du df dw) dr (sd, ba)).1) se sc ((itz (rdX w db du df dw) dr (sd, ba)).2) pa ch) := by
  refine mt_ofV (cc := cX1_redoBehind) (maxL := 4) (ret := none) (lv := [(0, .ref (aD 0)), (1, .int w), (2, .ref (aS 0))]) (by decide) rfl (Nat.le_of_ble_eq_true rfl) rfl ?_
  intro p e s m args below meth c A C hr hk
  have f_9 := C.hts (.fieldLink RX1 9 "ShoreFields$Dredgings" "size" "I") (by decide +kernel)
  have in_1 : ∀ w ∈ u_ws RX1 TX1 5, w ∈ wsX1_redoBehind := by decide +kernel
  have f_25 := C.hts (.fieldLink RX1 25 "ShoreFields$Dredgings" "weeks" "[I") (by decide +kernel)
  have f_15 := C.hts (.fieldLink RX1 15 "ShoreFields$Dredgings" "borders" "[I") (by decide +kernel)
  have f_19 := C.hts (.fieldLink RX1 19 "ShoreFields$Dredgings" "units" "[I") (by decide +kernel)
  have f_22 := C.hts (.fieldLink RX1 22 "ShoreFields$Dredgings" "fields" "[I") (by decide +kernel)
  refine pt_iconst (pc' := 1) C dX1_redoBehind_0 rfl (v := 0) (by decide) ?_
  refine pt_istore_n (pc' := 2) (lv' := [(3, .int 0), (0, .ref (aD 0)), (1, .int w), (2, .ref (aS 0))]) C dX1_redoBehind_1 rfl rfl (by decide) rfl ?_
  refine pt_cv (ws' := wD cA aD dr db du df dw ++ wS cA aS ((itz (rdX w db du df dw) 0 (sd, ba)).1) se sc ((itz (rdX w db du df dw) 0 (sd, ba)).2) pa ch) (lv' := [(3, .int (nI 0)), (0, .ref (aD 0)), (1, .int w), (2, .ref (aS 0))]) (rfl) [0, 1, 2, 3] (rfl) rfl ?_
  refine pt_for (wsf := fun j => wD cA aD dr db du df dw ++ wS cA aS ((itz (rdX w db du df dw) j (sd, ba)).1) se sc ((itz (rdX w db du df dw) j (sd, ba)).2) pa ch) (lvf := fun j => [(3, .int (nI j)), (0, .ref (aD 0)), (1, .int w), (2, .ref (aS 0))]) dr ?_ (fun j hj_2 ih_2 => ?_)
  rotate_left
  · refine pt_iload_n (pc' := 3) C dX1_redoBehind_2 rfl 0 rfl ?_
    refine pt_aload_n (pc' := 4) C dX1_redoBehind_3 rfl 1 rfl ?_
    refine pt_get (pc' := 7) C in_1 dX1_redoBehind_4 rfl 0 0 rfl rfl (by decide) f_9 rfl ?_
    refine pt_icmp_ge (pc' := 10) (tgt := 49) C dX1_redoBehind_7 (by decide) rfl (fun h_7 => absurd h_7 (nI_ge hj_2 (by omega))) (fun h_7 => ?_)
    refine pt_aload_n (pc' := 11) C dX1_redoBehind_10 rfl 1 rfl ?_
    refine pt_get (pc' := 14) C in_1 dX1_redoBehind_11 rfl 0 4 rfl rfl (by decide) f_25 rfl ?_
    refine pt_iload_n (pc' := 15) C dX1_redoBehind_14 rfl 0 rfl ?_
    refine pt_iald (pc' := 16) C dX1_redoBehind_15 rfl 4 rfl rfl j (rfl) (by omega) (by decide) ?_
    refine pt_iload_n (pc' := 17) C dX1_redoBehind_16 rfl 2 rfl ?_
    refine pt_icmp_ne (pc' := 20) (tgt := 43) C dX1_redoBehind_17 (by decide) rfl (fun h_17 => ?_) (fun h_17 => ?_)
    · refine pt_iinc (pc' := 46) (v := nI (j + 1)) (lv' := [(3, .int (nI (j + 1))), (0, .ref (aD 0)), (1, .int w), (2, .ref (aS 0))]) C dX1_redoBehind_43 rfl 0 rfl (nI_1 _) (by decide) rfl ?_
      refine pt_goto (pc' := 2) C dX1_redoBehind_46 (by decide) ?_
      exact pt_cv (by simp only [itz_s, rdX, if_neg h_17]) [0, 1, 2, 3] (rfl) rfl ih_2
    · refine pt_aload_n (pc' := 21) C dX1_redoBehind_20 rfl 3 rfl ?_
      refine pt_aload_n (pc' := 22) C dX1_redoBehind_21 rfl 1 rfl ?_
      refine pt_get (pc' := 25) C in_1 dX1_redoBehind_22 rfl 0 1 rfl rfl (by decide) f_15 rfl ?_
      refine pt_iload_n (pc' := 26) C dX1_redoBehind_25 rfl 0 rfl ?_
      refine pt_iald (pc' := 27) C dX1_redoBehind_26 rfl 1 rfl rfl j (rfl) (by omega) (by decide) ?_
      refine pt_aload_n (pc' := 28) C dX1_redoBehind_27 rfl 1 rfl ?_
      refine pt_get (pc' := 31) C in_1 dX1_redoBehind_28 rfl 0 2 rfl rfl (by decide) f_19 rfl ?_
      refine pt_iload_n (pc' := 32) C dX1_redoBehind_31 rfl 0 rfl ?_
      refine pt_iald (pc' := 33) C dX1_redoBehind_32 rfl 2 rfl rfl j (rfl) (by omega) (by decide) ?_
      refine pt_aload_n (pc' := 34) C dX1_redoBehind_33 rfl 1 rfl ?_
      refine pt_get (pc' := 37) C in_1 dX1_redoBehind_34 rfl 0 3 rfl rfl (by decide) f_22 rfl ?_
      refine pt_iload_n (pc' := 38) C dX1_redoBehind_37 rfl 0 rfl ?_
      refine pt_iald (pc' := 39) C dX1_redoBehind_38 rfl 3 rfl rfl j (rfl) (by omega) (by decide) ?_
      refine pt_eq (st' := [.int (nI (df j).toNatClampNeg), .int (du j), .int (db j), .ref (aS 0)]) rfl rfl (by rw [← (hD j hj_2).2.1]) ?_
      refine pt_eq (st' := [.int (nI (df j).toNatClampNeg), .int (du j), .int (nI (db j).toNatClampNeg), .ref (aS 0)]) rfl rfl (by rw [← (hD j hj_2).1.1]) ?_
      refine pt_cvI (pc' := 42) (ws' := wD cA aD dr db du df dw ++ wS cA aS (bbS ((itz (rdX w db du df dw) j (sd, ba)).1) ((df j).toNatClampNeg) (mn (du j) (((itz (rdX w db du df dw) j (sd, ba)).2) ((db j).toNatClampNeg)))) se sc (bbB ((itz (rdX w db du df dw) j (sd, ba)).2) ((db j).toNatClampNeg) (mn (du j) (((itz (rdX w db du df dw) j (sd, ba)).2) ((db j).toNatClampNeg)))) pa ch) (wr := wD cA aD dr db du df dw) (As := [.int (nI (db j).toNatClampNeg), .int (du j), .int (nI (df j).toNatClampNeg)]) (rest := []) C (mX2_bringFromBar l D cA aS ((itz (rdX w db du df dw) j (sd, ba)).1) se sc ((itz (rdX w db du df dw) j (sd, ba)).2) pa ch ((db j).toNatClampNeg) (du j) ((df j).toNatClampNeg) ((hD j hj_2).1.2) ((hD j hj_2).2.2)) (cwV 3 C.hts gX1_redoBehind_X2_bringFromBar rfl rfl rfl (by decide +kernel) ⟨Nat.le_of_ble_eq_true rfl, Nat.le_of_ble_eq_true rfl⟩) dX1_redoBehind_39 rfl 5 rfl rfl rfl rfl rfl (Nat.le_of_ble_eq_true rfl) ⟨Nat.le_of_ble_eq_true rfl, Nat.le_of_ble_eq_true rfl⟩ [5, 6, 7, 8, 9, 10, 11] [0, 1, 2, 3, 4] [0, 1, 2, 3, 4, 5, 6, 7, 8, 9, 10, 11] rfl (by decide) rfl (by decide) (by decide) rfl (by decide) ?_
      refine pt_pop (pc' := 43) C dX1_redoBehind_42 rfl rfl ?_
      refine pt_iinc (pc' := 46) (v := nI (j + 1)) (lv' := [(3, .int (nI (j + 1))), (0, .ref (aD 0)), (1, .int w), (2, .ref (aS 0))]) C dX1_redoBehind_43 rfl 0 rfl (nI_1 _) (by decide) rfl ?_
      refine pt_goto (pc' := 2) C dX1_redoBehind_46 (by decide) ?_
      exact pt_cv (by simp only [itz_s, rdX, if_pos h_17]) [0, 1, 2, 3] (rfl) rfl ih_2
  refine pt_iload_n (pc' := 3) C dX1_redoBehind_2 rfl 0 rfl ?_
  refine pt_aload_n (pc' := 4) C dX1_redoBehind_3 rfl 1 rfl ?_
  refine pt_get (pc' := 7) C in_1 dX1_redoBehind_4 rfl 0 0 rfl rfl (by decide) f_9 rfl ?_
  refine pt_icmp_ge (pc' := 10) (tgt := 49) C dX1_redoBehind_7 (by decide) rfl (fun h_7 => ?_) (fun h_7 => absurd (nI_le (Nat.le_refl dr) (by omega)) h_7)
  exact pt_vret C hr hk dX1_redoBehind_49 (rfl)

set_option maxHeartbeats 4000000 in
set_option maxRecDepth 100000 in
theorem mX3_agreeBehind (l : Launch) (D : va_G) (cA : ClassId) (aV : Nat → Nat) (sv : Nat) (vf : Nat → Int32) (vw : Nat → Int32) (vl : Nat → Int32) (vm : Nat → Int32) (aS : Nat → Nat) (sd : Nat → Int32) (se : Nat → Int32) (sc : Nat → Int32) (ba : Nat → Int32) (pa : Nat → Int32) (ch : Nat → Int32) (w : Int32) (hm : sv ≤ 20) (hV : ∀ i, i < sv → vf i = nI (vf i).toNatClampNeg ∧ (vf i).toNatClampNeg < 12) : mt_I l yX3_agreeBehind wsX3_agreeBehind { frames := 1, cells := 0, slots := 0, locals := 21 } D [(cA, .int)] [.ref (aV 0), .int w, .ref (aS 0)] (wV cA aV sv vf vw vl vm ++ wS cA aS sd se sc ba pa ch) (bI (allB (okB w vf vw vl vm sd) sv)) (wV cA aV sv vf vw vl vm ++ wS cA aS sd se sc ba pa ch) := by
  refine mt_ofI (cc := cX3_agreeBehind) (maxL := 5) (ret := (some .boolean)) (lv := [(0, .ref (aV 0)), (1, .int w), (2, .ref (aS 0))]) (by decide) rfl (Nat.le_of_ble_eq_true rfl) rfl ?_
  intro p e s m args below meth c A C hr hk
  have f_9 := C.hts (.fieldLink RX3 9 "ShoreFields$SurveyList" "size" "I") (by decide +kernel)
  have in_3 : ∀ w ∈ u_ws RX3 TX3 5, w ∈ wsX3_agreeBehind := by decide +kernel
  have f_19 := C.hts (.fieldLink RX3 19 "ShoreFields$SurveyList" "weeks" "[I") (by decide +kernel)
  have f_15 := C.hts (.fieldLink RX3 15 "ShoreFields$SurveyList" "fields" "[I") (by decide +kernel)
  have f_22 := C.hts (.fieldLink RX3 22 "ShoreFields$SurveyList" "leastLines" "[I") (by decide +kernel)
  have f_25 := C.hts (.fieldLink RX3 25 "ShoreFields$SurveyList" "mostLines" "[I") (by decide +kernel)
  refine pt_iconst (pc' := 1) C dX3_agreeBehind_0 rfl (v := 0) (by decide) ?_
  refine pt_istore_n (pc' := 2) (lv' := [(3, .int 0), (0, .ref (aV 0)), (1, .int w), (2, .ref (aS 0))]) C dX3_agreeBehind_1 rfl rfl (by decide) rfl ?_
  refine pt_cv (ws' := wV cA aV sv vf vw vl vm ++ wS cA aS sd se sc ba pa ch) (lv' := [(3, .int (nI 0)), (0, .ref (aV 0)), (1, .int w), (2, .ref (aS 0))]) (rfl) [0, 1, 2, 3] (rfl) rfl ?_
  refine pt_forI (wsf := fun j => wV cA aV sv vf vw vl vm ++ wS cA aS sd se sc ba pa ch) (lvf := fun j => [(3, .int (nI j)), (0, .ref (aV 0)), (1, .int w), (2, .ref (aS 0))]) (I := fun j => allB (okB w vf vw vl vm sd) j = true) sv (rfl) (fun hi_2 => ?_) (fun j hj_2 hi_2 ih_2 => ?_)
  rotate_left
  · refine pt_iload_n (pc' := 3) C dX3_agreeBehind_2 rfl 0 rfl ?_
    refine pt_aload_n (pc' := 4) C dX3_agreeBehind_3 rfl 1 rfl ?_
    refine pt_get (pc' := 7) C in_3 dX3_agreeBehind_4 rfl 0 0 rfl rfl (by decide) f_9 rfl ?_
    refine pt_icmp_ge (pc' := 10) (tgt := 62) C dX3_agreeBehind_7 (by decide) rfl (fun h_7 => absurd h_7 (nI_ge hj_2 (by omega))) (fun h_7 => ?_)
    refine pt_aload_n (pc' := 11) C dX3_agreeBehind_10 rfl 1 rfl ?_
    refine pt_get (pc' := 14) C in_3 dX3_agreeBehind_11 rfl 0 2 rfl rfl (by decide) f_19 rfl ?_
    refine pt_iload_n (pc' := 15) C dX3_agreeBehind_14 rfl 0 rfl ?_
    refine pt_iald (pc' := 16) C dX3_agreeBehind_15 rfl 2 rfl rfl j (rfl) (by omega) (by decide) ?_
    refine pt_iload_n (pc' := 17) C dX3_agreeBehind_16 rfl 2 rfl ?_
    refine pt_icmp_ne (pc' := 20) (tgt := 56) C dX3_agreeBehind_17 (by decide) rfl (fun h_17 => ?_) (fun h_17 => ?_)
    · refine pt_iinc (pc' := 59) (v := nI (j + 1)) (lv' := [(3, .int (nI (j + 1))), (0, .ref (aV 0)), (1, .int w), (2, .ref (aS 0))]) C dX3_agreeBehind_56 rfl 0 rfl (nI_1 _) (by decide) rfl ?_
      refine pt_goto (pc' := 2) C dX3_agreeBehind_59 (by decide) ?_
      exact pt_cv (rfl) [0, 1, 2, 3] (rfl) rfl (ih_2 (allB_s hi_2 (by simp only [okB, if_neg h_17])))
    · refine pt_aload_n (pc' := 21) C dX3_agreeBehind_20 rfl 3 rfl ?_
      refine pt_aload_n (pc' := 22) C dX3_agreeBehind_21 rfl 1 rfl ?_
      refine pt_get (pc' := 25) C in_3 dX3_agreeBehind_22 rfl 0 1 rfl rfl (by decide) f_15 rfl ?_
      refine pt_iload_n (pc' := 26) C dX3_agreeBehind_25 rfl 0 rfl ?_
      refine pt_iald (pc' := 27) C dX3_agreeBehind_26 rfl 1 rfl rfl j (rfl) (by omega) (by decide) ?_
      refine pt_eq (st' := [.int (nI (vf j).toNatClampNeg), .ref (aS 0)]) rfl rfl (by rw [← (hV j hj_2).1]) ?_
      refine pt_cvI (pc' := 30) (ws' := wV cA aV sv vf vw vl vm ++ wS cA aS sd se sc ba pa ch) (wr := wV cA aV sv vf vw vl vm) (As := [.int (nI (vf j).toNatClampNeg)]) (rest := []) C (mX2_lineOf l D cA aS sd se sc ba pa ch ((vf j).toNatClampNeg) ((hV j hj_2).2)) (cwV 1 C.hts gX3_agreeBehind_X2_lineOf rfl rfl rfl (by decide +kernel) ⟨Nat.le_of_ble_eq_true rfl, Nat.le_of_ble_eq_true rfl⟩) dX3_agreeBehind_27 rfl 5 rfl rfl rfl rfl rfl (Nat.le_of_ble_eq_true rfl) ⟨Nat.le_of_ble_eq_true rfl, Nat.le_of_ble_eq_true rfl⟩ [5, 6, 7, 8, 9, 10, 11] [0, 1, 2, 3, 4] [0, 1, 2, 3, 4, 5, 6, 7, 8, 9, 10, 11] rfl (by decide) rfl (by decide) (by decide) rfl (by decide) ?_
      refine pt_istore (pc' := 32) (lv' := [(4, .int (ln sd ((vf j).toNatClampNeg))), (3, .int (nI j)), (0, .ref (aV 0)), (1, .int w), (2, .ref (aS 0))]) C dX3_agreeBehind_30 rfl (by decide) rfl ?_
      refine pt_iload (pc' := 34) C dX3_agreeBehind_32 rfl 0 rfl ?_
      refine pt_aload_n (pc' := 35) C dX3_agreeBehind_34 rfl 2 rfl ?_
      refine pt_get (pc' := 38) C in_3 dX3_agreeBehind_35 rfl 0 3 rfl rfl (by decide) f_22 rfl ?_
      refine pt_iload_n (pc' := 39) C dX3_agreeBehind_38 rfl 1 rfl ?_
      refine pt_iald (pc' := 40) C dX3_agreeBehind_39 rfl 3 rfl rfl j (rfl) (by omega) (by decide) ?_
      refine pt_icmp_lt (pc' := 43) (tgt := 54) C dX3_agreeBehind_40 (by decide) rfl (fun h_40 => ?_) (fun h_40 => ?_)
      · refine pt_iconst (pc' := 55) C dX3_agreeBehind_54 rfl (v := 0) (by decide) ?_
        exact pt_iret C hr hk dX3_agreeBehind_55 (rfl) (by rw [allB_f hj_2 (by simp only [okB, if_pos h_17, if_pos h_40])]; rfl) (rfl)
      · refine pt_iload (pc' := 45) C dX3_agreeBehind_43 rfl 0 rfl ?_
        refine pt_aload_n (pc' := 46) C dX3_agreeBehind_45 rfl 2 rfl ?_
        refine pt_get (pc' := 49) C in_3 dX3_agreeBehind_46 rfl 0 4 rfl rfl (by decide) f_25 rfl ?_
        refine pt_iload_n (pc' := 50) C dX3_agreeBehind_49 rfl 1 rfl ?_
        refine pt_iald (pc' := 51) C dX3_agreeBehind_50 rfl 4 rfl rfl j (rfl) (by omega) (by decide) ?_
        refine pt_icmp_le (pc' := 54) (tgt := 56) C dX3_agreeBehind_51 (by decide) rfl (fun h_51 => ?_) (fun h_51 => ?_)
        · refine pt_iinc (pc' := 59) (v := nI (j + 1)) (lv' := [(3, .int (nI (j + 1))), (4, .int (ln sd ((vf j).toNatClampNeg))), (0, .ref (aV 0)), (1, .int w), (2, .ref (aS 0))]) C dX3_agreeBehind_56 rfl 1 rfl (nI_1 _) (by decide) rfl ?_
          refine pt_goto (pc' := 2) C dX3_agreeBehind_59 (by decide) ?_
          exact pt_cv (rfl) [0, 2, 3, 4] (rfl) rfl (ih_2 (allB_s hi_2 (by simp only [okB, if_pos h_17, if_neg h_40, if_pos h_51])))
        · refine pt_iconst (pc' := 55) C dX3_agreeBehind_54 rfl (v := 0) (by decide) ?_
          exact pt_iret C hr hk dX3_agreeBehind_55 (rfl) (by rw [allB_f hj_2 (by simp only [okB, if_pos h_17, if_neg h_40, if_neg h_51])]; rfl) (rfl)
  refine pt_iload_n (pc' := 3) C dX3_agreeBehind_2 rfl 0 rfl ?_
  refine pt_aload_n (pc' := 4) C dX3_agreeBehind_3 rfl 1 rfl ?_
  refine pt_get (pc' := 7) C in_3 dX3_agreeBehind_4 rfl 0 0 rfl rfl (by decide) f_9 rfl ?_
  refine pt_icmp_ge (pc' := 10) (tgt := 62) C dX3_agreeBehind_7 (by decide) rfl (fun h_7 => ?_) (fun h_7 => absurd (nI_le (Nat.le_refl sv) (by omega)) h_7)
  refine pt_iconst (pc' := 63) C dX3_agreeBehind_62 rfl (v := 1) (by decide) ?_
  exact pt_iret C hr hk dX3_agreeBehind_63 (rfl) (by rw [hi_2]; rfl) (rfl)

set_option maxHeartbeats 4000000 in
set_option maxRecDepth 100000 in
theorem mX5_priceOf (l : Launch) (D : va_G) (cA : ClassId) (aO : Nat → Nat) (wk : Nat) (ok : Nat → Int32) (op : Nat → Int32) (oa : Nat → Int32) (oc : Nat → Int32) (x : Int32) (hm : wk ≤ 6) : mt_I l yX5_priceOf wsX5_priceOf { frames := 0, cells := 0, slots := 0, locals := 0 } D [(cA, .int)] [.ref (aO 0), .int x] (wO cA aO wk ok op oa oc) (itz (prS x oc) wk 0) (wO cA aO wk ok op oa oc) := by
  refine mt_ofI (cc := cX5_priceOf) (maxL := 4) (ret := (some .int)) (lv := [(0, .ref (aO 0)), (1, .int x)]) (by decide) rfl (Nat.le_of_ble_eq_true rfl) rfl ?_
  intro p e s m args below meth c A C hr hk
  have f_9 := C.hts (.fieldLink RX5 9 "ShoreFields$WorkList" "size" "I") (by decide +kernel)
  have in_5 : ∀ w ∈ u_ws RX5 TX5 5, w ∈ wsX5_priceOf := by decide +kernel
  have f_25 := C.hts (.fieldLink RX5 25 "ShoreFields$WorkList" "prices" "[I") (by decide +kernel)
  refine pt_iconst (pc' := 1) C dX5_priceOf_0 rfl (v := 0) (by decide) ?_
  refine pt_istore_n (pc' := 2) (lv' := [(2, .int 0), (0, .ref (aO 0)), (1, .int x)]) C dX5_priceOf_1 rfl rfl (by decide) rfl ?_
  refine pt_iconst (pc' := 3) C dX5_priceOf_2 rfl (v := 0) (by decide) ?_
  refine pt_istore_n (pc' := 4) (lv' := [(3, .int 0), (2, .int 0), (0, .ref (aO 0)), (1, .int x)]) C dX5_priceOf_3 rfl rfl (by decide) rfl ?_
  refine pt_cv (ws' := wO cA aO wk ok op oa oc) (lv' := [(3, .int (nI 0)), (2, .int (itz (prS x oc) 0 0)), (0, .ref (aO 0)), (1, .int x)]) (rfl) [0, 1, 2, 3] (rfl) rfl ?_
  refine pt_for (wsf := fun j => wO cA aO wk ok op oa oc) (lvf := fun j => [(3, .int (nI j)), (2, .int (itz (prS x oc) j 0)), (0, .ref (aO 0)), (1, .int x)]) wk ?_ (fun j hj_4 ih_4 => ?_)
  rotate_left
  · refine pt_iload_n (pc' := 5) C dX5_priceOf_4 rfl 0 rfl ?_
    refine pt_aload_n (pc' := 6) C dX5_priceOf_5 rfl 2 rfl ?_
    refine pt_get (pc' := 9) C in_5 dX5_priceOf_6 rfl 0 0 rfl rfl (by decide) f_9 rfl ?_
    refine pt_icmp_ge (pc' := 12) (tgt := 35) C dX5_priceOf_9 (by decide) rfl (fun h_9 => absurd h_9 (nI_ge hj_4 (by omega))) (fun h_9 => ?_)
    refine pt_iload_n (pc' := 13) C dX5_priceOf_12 rfl 3 rfl ?_
    refine pt_iconst (pc' := 14) C dX5_priceOf_13 rfl (v := 1) (by decide) ?_
    refine pt_iload_n (pc' := 15) C dX5_priceOf_14 rfl 0 rfl ?_
    refine pt_ishl (pc' := 16) C dX5_priceOf_15 rfl ?_
    refine pt_iand (pc' := 17) C dX5_priceOf_16 rfl ?_
    refine pt_jn (q := 29) (k := 0) (n := 0) (wO cA aO wk ok op oa oc) [(3, .int (nI j)), (2, .int (if (x &&& (1 <<< ((nI j) &&& 31))) = 0 then itz (prS x oc) j 0 else (itz (prS x oc) j 0) + (oc j))), (0, .ref (aO 0)), (1, .int x)] [] (fun K => ?_) ?_
    · refine pt_if_eq (pc' := 20) (tgt := 29) C dX5_priceOf_17 (by decide) rfl (fun h_17 => ?_) (fun h_17 => ?_)
      · exact pt_cv (lv' := [(3, .int (nI j)), (2, .int (itz (prS x oc) j 0)), (0, .ref (aO 0)), (1, .int x)]) rfl [0, 1, 2, 3] rfl rfl (by simpa only [if_pos h_17] using K)
      · refine pt_iload_n (pc' := 21) C dX5_priceOf_20 rfl 1 rfl ?_
        refine pt_aload_n (pc' := 22) C dX5_priceOf_21 rfl 2 rfl ?_
        refine pt_get (pc' := 25) C in_5 dX5_priceOf_22 rfl 0 4 rfl rfl (by decide) f_25 rfl ?_
        refine pt_iload_n (pc' := 26) C dX5_priceOf_25 rfl 0 rfl ?_
        refine pt_iald (pc' := 27) C dX5_priceOf_26 rfl 4 rfl rfl j (rfl) (by omega) (by decide) ?_
        refine pt_iadd (pc' := 28) C dX5_priceOf_27 rfl ?_
        refine pt_istore_n (pc' := 29) (lv' := [(2, .int ((itz (prS x oc) j 0) + (oc j))), (3, .int (nI j)), (0, .ref (aO 0)), (1, .int x)]) C dX5_priceOf_28 rfl rfl (by decide) rfl ?_
        exact pt_cv (lv' := [(3, .int (nI j)), (2, .int ((itz (prS x oc) j 0) + (oc j))), (0, .ref (aO 0)), (1, .int x)]) rfl [1, 0, 2, 3] rfl rfl (by simpa only [if_neg h_17] using K)
    refine pt_iinc (pc' := 32) (v := nI (j + 1)) (lv' := [(3, .int (nI (j + 1))), (2, .int (if (x &&& (1 <<< ((nI j) &&& 31))) = 0 then itz (prS x oc) j 0 else (itz (prS x oc) j 0) + (oc j))), (0, .ref (aO 0)), (1, .int x)]) C dX5_priceOf_29 rfl 0 rfl (nI_1 _) (by decide) rfl ?_
    refine pt_goto (pc' := 4) C dX5_priceOf_32 (by decide) ?_
    exact pt_cv (rfl) [0, 1, 2, 3] (rfl) rfl ih_4
  refine pt_iload_n (pc' := 5) C dX5_priceOf_4 rfl 0 rfl ?_
  refine pt_aload_n (pc' := 6) C dX5_priceOf_5 rfl 2 rfl ?_
  refine pt_get (pc' := 9) C in_5 dX5_priceOf_6 rfl 0 0 rfl rfl (by decide) f_9 rfl ?_
  refine pt_icmp_ge (pc' := 12) (tgt := 35) C dX5_priceOf_9 (by decide) rfl (fun h_9 => ?_) (fun h_9 => absurd (nI_le (Nat.le_refl wk) (by omega)) h_9)
  refine pt_iload_n (pc' := 36) C dX5_priceOf_35 rfl 1 rfl ?_
  exact pt_iret C hr hk dX5_priceOf_36 (rfl) (rfl) (rfl)

set_option maxHeartbeats 4000000 in
set_option maxRecDepth 100000 in
theorem mX5_applyOne (l : Launch) (D : va_G) (cA : ClassId) (aO : Nat → Nat) (wk : Nat) (ok : Nat → Int32) (op : Nat → Int32) (oa : Nat → Int32) (oc : Nat → Int32) (aB : Nat → Nat) (n : Nat) (k : Int32) (bs : Nat → Int32) (wl : Nat → Int32) (fd : Nat → Int32) (kd : Nat → Int32) (sz : Nat → Int32) (lk : Nat → Int32) (i : Nat) (hi : i < 6) (hm : n ≤ 12) (ho : ok i = 0 → op i = nI (op i).toNatClampNeg ∧ (op i).toNatClampNeg < 12) : mt_V l yX5_applyOne wsX5_applyOne { frames := 2, cells := 0, slots := 0, locals := 43 } D [(cA, .int)] [.ref (aO 0), .ref (aB 0), .int (nI i)] (wO cA aO wk ok op oa oc ++ wB cA aB n k bs wl fd kd sz lk) (wO cA aO wk ok op oa oc ++ wB cA aB n k ((ao1 n kd ok op oa i (bs, sz)).1) wl fd kd ((ao1 n kd ok op oa i (bs, sz)).2) lk) := by
  refine mt_ofV (cc := cX5_applyOne) (maxL := 4) (ret := none) (lv := [(0, .ref (aO 0)), (1, .ref (aB 0)), (2, .int (nI i))]) (by decide) rfl (Nat.le_of_ble_eq_true rfl) rfl ?_
  intro p e s m args below meth c A C hr hk
  have f_19 := C.hts (.fieldLink RX5 19 "ShoreFields$WorkList" "places" "[I") (by decide +kernel)
  have in_5 : ∀ w ∈ u_ws RX5 TX5 5, w ∈ wsX5_applyOne := by decide +kernel
  have f_15 := C.hts (.fieldLink RX5 15 "ShoreFields$WorkList" "kinds" "[I") (by decide +kernel)
  have f_48 := C.hts (.fieldLink RX5 48 "ShoreFields$Begin" "sizeAt" "[I") (by decide +kernel)
  have in_0 : ∀ w ∈ u_ws RX0 TX0 8, w ∈ wsX5_applyOne := by decide +kernel
  have f_22 := C.hts (.fieldLink RX5 22 "ShoreFields$WorkList" "amounts" "[I") (by decide +kernel)
  have f_32 := C.hts (.fieldLink RX5 32 "ShoreFields$Begin" "sandOf" "[I") (by decide +kernel)
  have k_37 := C.hts (.constant RX5 37 (99999)) (by decide +kernel)
  have m_38 := C.hts (.methodLink RX5 38 Lib.Math.min.name) (by decide +kernel)
  have ms_mmin := C.hts (.static Lib.Math.min.name) (by decide +kernel)
  have mi_math := C.hts (.initialized "java/lang/Math") (by decide +kernel)
  have mc_mmin := C.hts (.code Lib.Math.min.name Lib.Math.min.code 2 (some .int)) (by decide +kernel)
  refine pt_aload_n (pc' := 1) C dX5_applyOne_0 rfl 0 rfl ?_
  refine pt_get (pc' := 4) C in_5 dX5_applyOne_1 rfl 0 2 rfl rfl (by decide) f_19 rfl ?_
  refine pt_iload_n (pc' := 5) C dX5_applyOne_4 rfl 2 rfl ?_
  refine pt_iald (pc' := 6) C dX5_applyOne_5 rfl 2 rfl rfl i (rfl) (by omega) (by decide) ?_
  refine pt_istore_n (pc' := 7) (lv' := [(3, .int (op i)), (0, .ref (aO 0)), (1, .ref (aB 0)), (2, .int (nI i))]) C dX5_applyOne_6 rfl rfl (by decide) rfl ?_
  refine pt_aload_n (pc' := 8) C dX5_applyOne_7 rfl 1 rfl ?_
  refine pt_get (pc' := 11) C in_5 dX5_applyOne_8 rfl 0 1 rfl rfl (by decide) f_15 rfl ?_
  refine pt_iload_n (pc' := 12) C dX5_applyOne_11 rfl 3 rfl ?_
  refine pt_iald (pc' := 13) C dX5_applyOne_12 rfl 1 rfl rfl i (rfl) (by omega) (by decide) ?_
  refine pt_if_ne (pc' := 16) (tgt := 43) C dX5_applyOne_13 (by decide) rfl (fun h_13 => ?_) (fun h_13 => ?_)
  · refine pt_aload_n (pc' := 44) C dX5_applyOne_43 rfl 2 rfl ?_
    refine pt_iload_n (pc' := 45) C dX5_applyOne_44 rfl 0 rfl ?_
    refine pt_iconst (pc' := 46) C dX5_applyOne_45 rfl (v := 1) (by decide) ?_
    refine pt_cvI (pc' := 49) (ws' := wO cA aO wk ok op oa oc ++ wB cA aB n k bs wl fd kd sz lk) (wr := wO cA aO wk ok op oa oc) (As := [.int (op i), .int 1]) (rest := []) C (mX0_hasAt l D cA aB n k bs wl fd kd sz lk (op i) 1 (by first | assumption | omega)) (cwV 2 C.hts gX5_applyOne_X0_hasAt rfl rfl rfl (by decide +kernel) ⟨Nat.le_of_ble_eq_true rfl, Nat.le_of_ble_eq_true rfl⟩) dX5_applyOne_46 rfl 5 rfl rfl rfl rfl rfl (Nat.le_of_ble_eq_true rfl) ⟨Nat.le_of_ble_eq_true rfl, Nat.le_of_ble_eq_true rfl⟩ [5, 6, 7, 8, 9, 10, 11] [0, 1, 2, 3, 4] [0, 1, 2, 3, 4, 5, 6, 7, 8, 9, 10, 11] rfl (by decide) rfl (by decide) (by decide) rfl (by decide) ?_
    refine pt_if_eq (pc' := 52) (tgt := 64) C dX5_applyOne_49 (by decide) rfl (fun h_49 => ?_) (fun h_49 => ?_)
    · exact pt_vret C hr hk dX5_applyOne_64 (by simp only [ao1, if_neg h_13, bI_f h_49, bI, cond_false, cond_true, Bool.and_true, Bool.true_and, Bool.and_false, Bool.false_and] <;> rfl)
    · refine pt_aload_n (pc' := 53) C dX5_applyOne_52 rfl 2 rfl ?_
      refine pt_get (pc' := 56) C in_0 dX5_applyOne_53 rfl 5 6 rfl rfl (by decide) f_48 rfl ?_
      refine pt_iload_n (pc' := 57) C dX5_applyOne_56 rfl 0 rfl ?_
      refine pt_aload_n (pc' := 58) C dX5_applyOne_57 rfl 1 rfl ?_
      refine pt_get (pc' := 61) C in_5 dX5_applyOne_58 rfl 0 3 rfl rfl (by decide) f_22 rfl ?_
      refine pt_iload_n (pc' := 62) C dX5_applyOne_61 rfl 3 rfl ?_
      refine pt_iald (pc' := 63) C dX5_applyOne_62 rfl 3 rfl rfl i (rfl) (by omega) (by decide) ?_
      refine pt_iast (pc' := 64) (ws' := wO cA aO wk ok op oa oc ++ wB cA aB n k bs wl fd kd (upd sz ((op i).toNatClampNeg) (oa i)) lk) C dX5_applyOne_63 rfl 10 rfl rfl ((op i).toNatClampNeg) ((hasA_in hm (bI_t h_49)).1.1) (by have := (hasA_in hm (bI_t h_49)).1.2.2; omega) (by decide) rfl ?_
      exact pt_vret C hr hk dX5_applyOne_64 (by simp only [ao1, if_neg h_13, bI_t h_49, bI, cond_false, cond_true, Bool.and_true, Bool.true_and, Bool.and_false, Bool.false_and] <;> rfl)
  · refine pt_aload_n (pc' := 17) C dX5_applyOne_16 rfl 2 rfl ?_
    refine pt_get (pc' := 20) C in_0 dX5_applyOne_17 rfl 5 2 rfl rfl (by decide) f_32 rfl ?_
    refine pt_iload_n (pc' := 21) C dX5_applyOne_20 rfl 0 rfl ?_
    refine pt_aload_n (pc' := 22) C dX5_applyOne_21 rfl 2 rfl ?_
    refine pt_get (pc' := 25) C in_0 dX5_applyOne_22 rfl 5 2 rfl rfl (by decide) f_32 rfl ?_
    refine pt_iload_n (pc' := 26) C dX5_applyOne_25 rfl 0 rfl ?_
    refine pt_iald (pc' := 27) C dX5_applyOne_26 rfl 6 rfl rfl ((op i).toNatClampNeg) ((ho h_13).1) ((ho h_13).2) (by decide) ?_
    refine pt_aload_n (pc' := 28) C dX5_applyOne_27 rfl 1 rfl ?_
    refine pt_get (pc' := 31) C in_5 dX5_applyOne_28 rfl 0 3 rfl rfl (by decide) f_22 rfl ?_
    refine pt_iload_n (pc' := 32) C dX5_applyOne_31 rfl 3 rfl ?_
    refine pt_iald (pc' := 33) C dX5_applyOne_32 rfl 3 rfl rfl i (rfl) (by omega) (by decide) ?_
    refine pt_iadd (pc' := 34) C dX5_applyOne_33 rfl ?_
    refine pt_ldc (pc' := 36) C dX5_applyOne_34 rfl k_37 ?_
    refine pt_mmin (pc' := 39) C dX5_applyOne_36 rfl m_38 ms_mmin mi_math mc_mmin (Nat.le_of_ble_eq_true rfl) (Nat.le_of_ble_eq_true rfl) (Nat.le_of_ble_eq_true rfl) (Nat.le_of_ble_eq_true rfl) ?_
    refine pt_iast (pc' := 40) (ws' := wO cA aO wk ok op oa oc ++ wB cA aB n k (upd bs ((op i).toNatClampNeg) (mn ((bs ((op i).toNatClampNeg)) + (oa i)) 99999)) wl fd kd sz lk) C dX5_applyOne_39 rfl 6 rfl rfl ((op i).toNatClampNeg) ((ho h_13).1) ((ho h_13).2) (by decide) rfl ?_
    refine pt_goto (pc' := 64) C dX5_applyOne_40 (by decide) ?_
    exact pt_vret C hr hk dX5_applyOne_64 (by simp only [ao1, if_pos h_13, bI, cond_false, cond_true, Bool.and_true, Bool.true_and, Bool.and_false, Bool.false_and] <;> rfl)

set_option maxHeartbeats 4000000 in
set_option maxRecDepth 100000 in
theorem mX5_applyTo (l : Launch) (D : va_G) (cA : ClassId) (aO : Nat → Nat) (wk : Nat) (ok : Nat → Int32) (op : Nat → Int32) (oa : Nat → Int32) (oc : Nat → Int32) (aB : Nat → Nat) (n : Nat) (k : Int32) (bs : Nat → Int32) (wl : Nat → Int32) (fd : Nat → Int32) (kd : Nat → Int32) (sz : Nat → Int32) (lk : Nat → Int32) (x : Int32) (hw : wk ≤ 6) (hm : n ≤ 12) (ho : ∀ i, i < wk → ok i = 0 → op i = nI (op i).toNatClampNeg ∧ (op i).toNatClampNeg < 12) : mt_V l yX5_applyTo wsX5_applyTo { frames := 3, cells := 0, slots := 0, locals := 66 } D [(cA, .int)] [.ref (aO 0), .ref (aB 0), .int x] (wO cA aO wk ok op oa oc ++ wB cA aB n k bs wl fd kd sz lk) (wO cA aO wk ok op oa oc ++ wB cA aB n k ((itz (aoS x n kd ok op oa) wk (bs, sz)).1) wl fd kd ((itz (aoS x n kd ok op oa) wk (bs, sz)).2) lk) := by
  refine mt_ofV (cc := cX5_applyTo) (maxL := 4) (ret := none) (lv := [(0, .ref (aO 0)), (1, .ref (aB 0)), (2, .int x)]) (by decide) rfl (Nat.le_of_ble_eq_true rfl) rfl ?_
  intro p e s m args below meth c A C hr hk
  have f_9 := C.hts (.fieldLink RX5 9 "ShoreFields$WorkList" "size" "I") (by decide +kernel)
  have in_5 : ∀ w ∈ u_ws RX5 TX5 5, w ∈ wsX5_applyTo := by decide +kernel
  refine pt_iconst (pc' := 1) C dX5_applyTo_0 rfl (v := 0) (by decide) ?_
  refine pt_istore_n (pc' := 2) (lv' := [(3, .int 0), (0, .ref (aO 0)), (1, .ref (aB 0)), (2, .int x)]) C dX5_applyTo_1 rfl rfl (by decide) rfl ?_
  refine pt_cv (ws' := wO cA aO wk ok op oa oc ++ wB cA aB n k ((itz (aoS x n kd ok op oa) 0 (bs, sz)).1) wl fd kd ((itz (aoS x n kd ok op oa) 0 (bs, sz)).2) lk) (lv' := [(3, .int (nI 0)), (0, .ref (aO 0)), (1, .ref (aB 0)), (2, .int x)]) (rfl) [0, 1, 2, 3] (rfl) rfl ?_
  refine pt_for (wsf := fun j => wO cA aO wk ok op oa oc ++ wB cA aB n k ((itz (aoS x n kd ok op oa) j (bs, sz)).1) wl fd kd ((itz (aoS x n kd ok op oa) j (bs, sz)).2) lk) (lvf := fun j => [(3, .int (nI j)), (0, .ref (aO 0)), (1, .ref (aB 0)), (2, .int x)]) wk ?_ (fun j hj_2 ih_2 => ?_)
  rotate_left
  · refine pt_iload_n (pc' := 3) C dX5_applyTo_2 rfl 0 rfl ?_
    refine pt_aload_n (pc' := 4) C dX5_applyTo_3 rfl 1 rfl ?_
    refine pt_get (pc' := 7) C in_5 dX5_applyTo_4 rfl 0 0 rfl rfl (by decide) f_9 rfl ?_
    refine pt_icmp_ge (pc' := 10) (tgt := 30) C dX5_applyTo_7 (by decide) rfl (fun h_7 => absurd h_7 (nI_ge hj_2 (by omega))) (fun h_7 => ?_)
    refine pt_iload_n (pc' := 11) C dX5_applyTo_10 rfl 3 rfl ?_
    refine pt_iconst (pc' := 12) C dX5_applyTo_11 rfl (v := 1) (by decide) ?_
    refine pt_iload_n (pc' := 13) C dX5_applyTo_12 rfl 0 rfl ?_
    refine pt_ishl (pc' := 14) C dX5_applyTo_13 rfl ?_
    refine pt_iand (pc' := 15) C dX5_applyTo_14 rfl ?_
    refine pt_if_eq (pc' := 18) (tgt := 24) C dX5_applyTo_15 (by decide) rfl (fun h_15 => ?_) (fun h_15 => ?_)
    · refine pt_iinc (pc' := 27) (v := nI (j + 1)) (lv' := [(3, .int (nI (j + 1))), (0, .ref (aO 0)), (1, .ref (aB 0)), (2, .int x)]) C dX5_applyTo_24 rfl 0 rfl (nI_1 _) (by decide) rfl ?_
      refine pt_goto (pc' := 2) C dX5_applyTo_27 (by decide) ?_
      exact pt_cv (by simp only [itz_s, aoS, if_pos h_15]) [0, 1, 2, 3] (rfl) rfl ih_2
    · refine pt_aload_n (pc' := 19) C dX5_applyTo_18 rfl 1 rfl ?_
      refine pt_aload_n (pc' := 20) C dX5_applyTo_19 rfl 2 rfl ?_
      refine pt_iload_n (pc' := 21) C dX5_applyTo_20 rfl 0 rfl ?_
      refine pt_cvV0 (pc' := 24) (w1 := wO cA aO wk ok op oa oc ++ wB cA aB n k ((ao1 n kd ok op oa j (((itz (aoS x n kd ok op oa) j (bs, sz)).1), ((itz (aoS x n kd ok op oa) j (bs, sz)).2))).1) wl fd kd ((ao1 n kd ok op oa j (((itz (aoS x n kd ok op oa) j (bs, sz)).1), ((itz (aoS x n kd ok op oa) j (bs, sz)).2))).2) lk) (As := [.ref (aB 0), .int (nI j)]) (rest := []) C (mX5_applyOne l D cA aO wk ok op oa oc aB n k ((itz (aoS x n kd ok op oa) j (bs, sz)).1) wl fd kd ((itz (aoS x n kd ok op oa) j (bs, sz)).2) lk j (by omega) (hm) (ho j hj_2)) (cwV 2 C.hts gX5_applyTo_X5_applyOne rfl rfl rfl (by decide +kernel) ⟨Nat.le_of_ble_eq_true rfl, Nat.le_of_ble_eq_true rfl⟩) dX5_applyTo_21 rfl 0 rfl rfl rfl rfl rfl (Nat.le_of_ble_eq_true rfl) ⟨Nat.le_of_ble_eq_true rfl, Nat.le_of_ble_eq_true rfl⟩ ?_
      refine pt_iinc (pc' := 27) (v := nI (j + 1)) (lv' := [(3, .int (nI (j + 1))), (0, .ref (aO 0)), (1, .ref (aB 0)), (2, .int x)]) C dX5_applyTo_24 rfl 0 rfl (nI_1 _) (by decide) rfl ?_
      refine pt_goto (pc' := 2) C dX5_applyTo_27 (by decide) ?_
      exact pt_cv (by simp only [itz_s, aoS, if_neg h_15]) [0, 1, 2, 3] (rfl) rfl ih_2
  refine pt_iload_n (pc' := 3) C dX5_applyTo_2 rfl 0 rfl ?_
  refine pt_aload_n (pc' := 4) C dX5_applyTo_3 rfl 1 rfl ?_
  refine pt_get (pc' := 7) C in_5 dX5_applyTo_4 rfl 0 0 rfl rfl (by decide) f_9 rfl ?_
  refine pt_icmp_ge (pc' := 10) (tgt := 30) C dX5_applyTo_7 (by decide) rfl (fun h_7 => ?_) (fun h_7 => absurd (nI_le (Nat.le_refl wk) (by omega)) h_7)
  exact pt_vret C hr hk dX5_applyTo_30 (rfl)
