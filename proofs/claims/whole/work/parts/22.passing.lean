set_option maxHeartbeats 4000000 in
set_option maxRecDepth 100000 in
theorem cX7_passing_L (l : Launch) (D : va_G) (cA : ClassId) (aM : Nat → Nat) (th : Int32) (n : Nat) (it : Int32) (k : Int32) (td : Nat) (gn : Nat) (dr : Nat) (wk : Nat) (sv : Nat) (P : Nat → Nat → Int32) (sd : Nat → Int32) (se : Nat → Int32) (sc : Nat → Int32) (ba : Nat → Int32) (pa : Nat → Int32) (le : Nat → Int32) (mo : Nat → Int32) (h : Int32) (kk : Int32) (hn : 2 ≤ n) (hm : n ≤ 12) : mt_V l yX7_passing wsX7_passing { frames := 3, cells := 0, slots := 0, locals := 73 } D [(cA, .int)] [.ref (aM 0), .int h, .int 0, .int kk] (wM cA aM th n it k td gn dr wk sv P sd se sc ba pa le mo) (wM cA aM th n it k td gn dr wk sv P (adM n sd (paM false n h kk sd (P 4) (P 5) (P 1) le (P 3) (sc, ba, pa, mo)).2.2.2) se ((paM false n h kk sd (P 4) (P 5) (P 1) le (P 3) (sc, ba, pa, mo)).1) ((paM false n h kk sd (P 4) (P 5) (P 1) le (P 3) (sc, ba, pa, mo)).2.1) ((paM false n h kk sd (P 4) (P 5) (P 1) le (P 3) (sc, ba, pa, mo)).2.2.1) le ((paM false n h kk sd (P 4) (P 5) (P 1) le (P 3) (sc, ba, pa, mo)).2.2.2)) := by
  refine mt_ofV (cc := cX7_passing) (maxL := 10) (ret := none) (lv := [(0, .ref (aM 0)), (1, .int h), (2, .int 0), (3, .int kk)]) (by decide) rfl (Nat.le_of_ble_eq_true rfl) rfl ?_
  intro p e s m args below meth c A C hr hk
  have f_13 := C.hts (.fieldLink RX7 13 "ShoreFieldsModel" "fields" "I") (by decide +kernel)
  have in_7 : ∀ w ∈ u_ws RX7 TX7 37, w ∈ wsX7_passing := by decide +kernel
  have f_74 := C.hts (.fieldLink RX7 74 "ShoreFieldsModel" "more" "[I") (by decide +kernel)
  have f_20 := C.hts (.fieldLink RX7 20 "ShoreFieldsModel" "kind" "[I") (by decide +kernel)
  have f_26 := C.hts (.fieldLink RX7 26 "ShoreFieldsModel" "part" "[I") (by decide +kernel)
  have f_68 := C.hts (.fieldLink RX7 68 "ShoreFieldsModel" "passed" "[I") (by decide +kernel)
  have f_65 := C.hts (.fieldLink RX7 65 "ShoreFieldsModel" "bar" "[I") (by decide +kernel)
  have f_32 := C.hts (.fieldLink RX7 32 "ShoreFieldsModel" "feeds" "[I") (by decide +kernel)
  refine pt_iload_n (pc' := 1) C dX7_passing_0 rfl 2 rfl ?_
  refine pt_if_ne (pc' := 4) (tgt := 8) C dX7_passing_1 (by decide) rfl (fun h_1 => absurd (by decide) h_1) (fun h_1 => ?_)
  refine pt_iconst (pc' := 5) C dX7_passing_4 rfl (v := 1) (by decide) ?_
  refine pt_goto (pc' := 9) C dX7_passing_5 (by decide) ?_
  refine pt_istore (pc' := 11) (lv' := [(4, .int 1), (0, .ref (aM 0)), (1, .int h), (2, .int 0), (3, .int kk)]) C dX7_passing_9 rfl (by decide) rfl ?_
  refine pt_iconst (pc' := 12) C dX7_passing_11 rfl (v := 0) (by decide) ?_
  refine pt_istore (pc' := 14) (lv' := [(5, .int 0), (4, .int 1), (0, .ref (aM 0)), (1, .int h), (2, .int 0), (3, .int kk)]) C dX7_passing_12 rfl (by decide) rfl ?_
  refine pt_cv (ws' := wM cA aM th n it k td gn dr wk sv P sd se sc ba pa le (flN 0 0 mo)) (lv' := [(5, .int (nI 0)), (4, .int 1), (0, .ref (aM 0)), (1, .int h), (2, .int 0), (3, .int kk)]) (by rw [flN_0]) [0, 1, 2, 3, 4, 5] (rfl) rfl ?_
  refine pt_for (wsf := fun j => wM cA aM th n it k td gn dr wk sv P sd se sc ba pa le (flN j 0 mo)) (lvf := fun j => [(5, .int (nI j)), (4, .int 1), (0, .ref (aM 0)), (1, .int h), (2, .int 0), (3, .int kk)]) n ?_ (fun j hj_14 ih_14 => ?_)
  rotate_left
  · refine pt_iload (pc' := 16) C dX7_passing_14 rfl 0 rfl ?_
    refine pt_aload_n (pc' := 17) C dX7_passing_16 rfl 2 rfl ?_
    refine pt_get (pc' := 20) C in_7 dX7_passing_17 rfl 0 1 rfl rfl (by decide) f_13 rfl ?_
    refine pt_icmp_ge (pc' := 23) (tgt := 37) C dX7_passing_20 (by decide) rfl (fun h_20 => absurd h_20 (nI_ge hj_14 (by omega))) (fun h_20 => ?_)
    refine pt_aload_n (pc' := 24) C dX7_passing_23 rfl 2 rfl ?_
    refine pt_get (pc' := 27) C in_7 dX7_passing_24 rfl 0 25 rfl rfl (by decide) f_74 rfl ?_
    refine pt_iload (pc' := 29) C dX7_passing_27 rfl 0 rfl ?_
    refine pt_iconst (pc' := 30) C dX7_passing_29 rfl (v := 0) (by decide) ?_
    refine pt_iast (pc' := 31) (ws' := wM cA aM th n it k td gn dr wk sv P sd se sc ba pa le (upd (flN j 0 mo) j 0)) C dX7_passing_30 rfl 19 rfl rfl j (rfl) (by omega) (by decide) rfl ?_
    refine pt_iinc (pc' := 34) (v := nI (j + 1)) (lv' := [(5, .int (nI (j + 1))), (4, .int 1), (0, .ref (aM 0)), (1, .int h), (2, .int 0), (3, .int kk)]) C dX7_passing_31 rfl 0 rfl (nI_1 _) (by decide) rfl ?_
    refine pt_goto (pc' := 14) C dX7_passing_34 (by decide) ?_
    exact pt_cv (by rw [flN_s]) [0, 1, 2, 3, 4, 5] (rfl) rfl ih_14
  refine pt_iload (pc' := 16) C dX7_passing_14 rfl 0 rfl ?_
  refine pt_aload_n (pc' := 17) C dX7_passing_16 rfl 2 rfl ?_
  refine pt_get (pc' := 20) C in_7 dX7_passing_17 rfl 0 1 rfl rfl (by decide) f_13 rfl ?_
  refine pt_icmp_ge (pc' := 23) (tgt := 37) C dX7_passing_20 (by decide) rfl (fun h_20 => ?_) (fun h_20 => absurd (nI_le (Nat.le_refl n) (by omega)) h_20)
  refine pt_iconst (pc' := 38) C dX7_passing_37 rfl (v := 1) (by decide) ?_
  refine pt_istore (pc' := 40) (lv' := [(5, .int 1), (4, .int 1), (0, .ref (aM 0)), (1, .int h), (2, .int 0), (3, .int kk)]) C dX7_passing_38 rfl (by decide) rfl ?_
  refine pt_cv (ws' := wM cA aM th n it k td gn dr wk sv P sd se ((itf (psM false h kk sd (P 4) (P 1) le (P 3)) 1 0 (sc, ba, pa, flN n 0 mo)).1) ((itf (psM false h kk sd (P 4) (P 1) le (P 3)) 1 0 (sc, ba, pa, flN n 0 mo)).2.1) ((itf (psM false h kk sd (P 4) (P 1) le (P 3)) 1 0 (sc, ba, pa, flN n 0 mo)).2.2.1) le ((itf (psM false h kk sd (P 4) (P 1) le (P 3)) 1 0 (sc, ba, pa, flN n 0 mo)).2.2.2)) (lv' := [(5, .int (nI (1 + 0))), (4, .int 1), (0, .ref (aM 0)), (1, .int h), (2, .int 0), (3, .int kk)]) (rfl) [0, 1, 2, 3, 4, 5] (rfl) rfl ?_
  refine pt_for (wsf := fun j => wM cA aM th n it k td gn dr wk sv P sd se ((itf (psM false h kk sd (P 4) (P 1) le (P 3)) 1 j (sc, ba, pa, flN n 0 mo)).1) ((itf (psM false h kk sd (P 4) (P 1) le (P 3)) 1 j (sc, ba, pa, flN n 0 mo)).2.1) ((itf (psM false h kk sd (P 4) (P 1) le (P 3)) 1 j (sc, ba, pa, flN n 0 mo)).2.2.1) le ((itf (psM false h kk sd (P 4) (P 1) le (P 3)) 1 j (sc, ba, pa, flN n 0 mo)).2.2.2)) (lvf := fun j => [(5, .int (nI (1 + j))), (4, .int 1), (0, .ref (aM 0)), (1, .int h), (2, .int 0), (3, .int kk)]) (n - 1) ?_ (fun j hj_40 ih_40 => ?_)
  rotate_left
  · refine pt_iload (pc' := 42) C dX7_passing_40 rfl 0 rfl ?_
    refine pt_aload_n (pc' := 43) C dX7_passing_42 rfl 2 rfl ?_
    refine pt_get (pc' := 46) C in_7 dX7_passing_43 rfl 0 1 rfl rfl (by decide) f_13 rfl ?_
    refine pt_icmp_ge (pc' := 49) (tgt := 172) C dX7_passing_46 (by decide) rfl (fun h_46 => absurd h_46 (nI_ge (show 1 + j < n by omega) (by omega))) (fun h_46 => ?_)
    refine pt_iload_n (pc' := 50) C dX7_passing_49 rfl 4 rfl ?_
    refine pt_if_ne (pc' := 53) (tgt := 60) C dX7_passing_50 (by decide) rfl (fun h_50 => absurd (by decide) h_50) (fun h_50 => ?_)
    refine pt_iload (pc' := 55) C dX7_passing_53 rfl 0 rfl ?_
    refine pt_iconst (pc' := 56) C dX7_passing_55 rfl (v := 1) (by decide) ?_
    refine pt_isub (pc' := 57) C dX7_passing_56 rfl ?_
    refine pt_eq (st' := [.int (nI (1 + j - 1))]) rfl rfl (by rw [nI_m1 (by omega)]) ?_
    refine pt_goto (pc' := 62) C dX7_passing_57 (by decide) ?_
    refine pt_istore (pc' := 64) (lv' := [(6, .int (nI (1 + j - 1))), (5, .int (nI (1 + j))), (4, .int 1), (0, .ref (aM 0)), (1, .int h), (2, .int 0), (3, .int kk)]) C dX7_passing_62 rfl (by decide) rfl ?_
    refine pt_iload (pc' := 66) C dX7_passing_64 rfl 0 rfl ?_
    refine pt_iload (pc' := 68) C dX7_passing_66 rfl 2 rfl ?_
    refine pt_iadd (pc' := 69) C dX7_passing_68 rfl ?_
    refine pt_eq (st' := [.int (nI (1 + j))]) rfl rfl (by rw [nI_1, show 1 + j - 1 + 1 = 1 + j by omega]) ?_
    refine pt_istore (pc' := 71) (lv' := [(7, .int (nI (1 + j))), (6, .int (nI (1 + j - 1))), (5, .int (nI (1 + j))), (4, .int 1), (0, .ref (aM 0)), (1, .int h), (2, .int 0), (3, .int kk)]) C dX7_passing_69 rfl (by decide) rfl ?_
    refine pt_aload_n (pc' := 72) C dX7_passing_71 rfl 4 rfl ?_
    refine pt_iload (pc' := 74) C dX7_passing_72 rfl 2 rfl ?_
    refine pt_iload (pc' := 76) C dX7_passing_74 rfl 1 rfl ?_
    refine pt_iload (pc' := 78) C dX7_passing_76 rfl 0 rfl ?_
    refine pt_iload_n (pc' := 79) C dX7_passing_78 rfl 5 rfl ?_
    refine pt_iload_n (pc' := 80) C dX7_passing_79 rfl 7 rfl ?_
    refine pt_cvI0 (pc' := 83) (w1 := wM cA aM th n it k td gn dr wk sv P sd se (goMc sd (P 4) ((itf (psM false h kk sd (P 4) (P 1) le (P 3)) 1 j (sc, ba, pa, flN n 0 mo)).1) (1 + j - 1) (drM h kk sd le (P 3) (1 + j - 1) (1 + j) (1 + j))) ((itf (psM false h kk sd (P 4) (P 1) le (P 3)) 1 j (sc, ba, pa, flN n 0 mo)).2.1) ((itf (psM false h kk sd (P 4) (P 1) le (P 3)) 1 j (sc, ba, pa, flN n 0 mo)).2.2.1) le ((itf (psM false h kk sd (P 4) (P 1) le (P 3)) 1 j (sc, ba, pa, flN n 0 mo)).2.2.2)) (As := [.int (nI (1 + j)), .int (nI (1 + j - 1)), .int (nI (1 + j)), .int h, .int kk]) (rest := []) C (mX7_passes l D cA aM th n it k td gn dr wk sv P sd se ((itf (psM false h kk sd (P 4) (P 1) le (P 3)) 1 j (sc, ba, pa, flN n 0 mo)).1) ((itf (psM false h kk sd (P 4) (P 1) le (P 3)) 1 j (sc, ba, pa, flN n 0 mo)).2.1) ((itf (psM false h kk sd (P 4) (P 1) le (P 3)) 1 j (sc, ba, pa, flN n 0 mo)).2.2.1) le ((itf (psM false h kk sd (P 4) (P 1) le (P 3)) 1 j (sc, ba, pa, flN n 0 mo)).2.2.2) (1 + j) (1 + j - 1) (1 + j) h kk (by first | assumption | omega) (by first | assumption | omega) (by first | assumption | omega)) (cwV 5 C.hts gX7_passing_X7_passes rfl rfl rfl (by decide +kernel) ⟨Nat.le_of_ble_eq_true rfl, Nat.le_of_ble_eq_true rfl⟩) dX7_passing_80 rfl 0 rfl rfl rfl rfl rfl (Nat.le_of_ble_eq_true rfl) ⟨Nat.le_of_ble_eq_true rfl, Nat.le_of_ble_eq_true rfl⟩ ?_
    refine pt_istore (pc' := 85) (lv' := [(8, .int (goM sd (P 4) (1 + j - 1) (drM h kk sd le (P 3) (1 + j - 1) (1 + j) (1 + j)))), (7, .int (nI (1 + j))), (6, .int (nI (1 + j - 1))), (5, .int (nI (1 + j))), (4, .int 1), (0, .ref (aM 0)), (1, .int h), (2, .int 0), (3, .int kk)]) C dX7_passing_83 rfl (by decide) rfl ?_
    refine pt_aload_n (pc' := 86) C dX7_passing_85 rfl 5 rfl ?_
    refine pt_get (pc' := 89) C in_7 dX7_passing_86 rfl 0 4 rfl rfl (by decide) f_20 rfl ?_
    refine pt_iload (pc' := 91) C dX7_passing_89 rfl 3 rfl ?_
    refine pt_iald (pc' := 92) C dX7_passing_91 rfl 2 rfl rfl (1 + j) (rfl) (by omega) (by decide) ?_
    refine pt_iconst (pc' := 93) C dX7_passing_92 rfl (v := 2) (by decide) ?_
    refine pt_jn (q := 113) (k := 0) (n := 0) (wM cA aM th n it k td gn dr wk sv P sd se (goMc sd (P 4) ((itf (psM false h kk sd (P 4) (P 1) le (P 3)) 1 j (sc, ba, pa, flN n 0 mo)).1) (1 + j - 1) (drM h kk sd le (P 3) (1 + j - 1) (1 + j) (1 + j))) ((itf (psM false h kk sd (P 4) (P 1) le (P 3)) 1 j (sc, ba, pa, flN n 0 mo)).2.1) ((itf (psM false h kk sd (P 4) (P 1) le (P 3)) 1 j (sc, ba, pa, flN n 0 mo)).2.2.1) le ((itf (psM false h kk sd (P 4) (P 1) le (P 3)) 1 j (sc, ba, pa, flN n 0 mo)).2.2.2)) [(8, .int (goM sd (P 4) (1 + j - 1) (drM h kk sd le (P 3) (1 + j - 1) (1 + j) (1 + j)))), (7, .int (nI (1 + j))), (6, .int (nI (1 + j - 1))), (5, .int (nI (1 + j))), (4, .int 1), (0, .ref (aM 0)), (1, .int h), (2, .int 0), (3, .int kk)] [.int (if ((P 1) (1 + j)) = 2 then ((goM sd (P 4) (1 + j - 1) (drM h kk sd le (P 3) (1 + j - 1) (1 + j) (1 + j))) * ((P 3) (1 + j))) / 100 else 0)] (fun K => ?_) ?_
    · refine pt_icmp_ne (pc' := 96) (tgt := 112) C dX7_passing_93 (by decide) rfl (fun h_93 => ?_) (fun h_93 => ?_)
      · refine pt_iconst (pc' := 113) C dX7_passing_112 rfl (v := 0) (by decide) ?_
        exact pt_cv (lv' := [(8, .int (goM sd (P 4) (1 + j - 1) (drM h kk sd le (P 3) (1 + j - 1) (1 + j) (1 + j)))), (7, .int (nI (1 + j))), (6, .int (nI (1 + j - 1))), (5, .int (nI (1 + j))), (4, .int 1), (0, .ref (aM 0)), (1, .int h), (2, .int 0), (3, .int kk)]) rfl [0, 1, 2, 3, 4, 5, 6, 7, 8] rfl rfl (by simpa only [if_neg h_93] using K)
      · refine pt_iload (pc' := 98) C dX7_passing_96 rfl 0 rfl ?_
        refine pt_aload_n (pc' := 99) C dX7_passing_98 rfl 5 rfl ?_
        refine pt_get (pc' := 102) C in_7 dX7_passing_99 rfl 0 6 rfl rfl (by decide) f_26 rfl ?_
        refine pt_iload (pc' := 104) C dX7_passing_102 rfl 3 rfl ?_
        refine pt_iald (pc' := 105) C dX7_passing_104 rfl 4 rfl rfl (1 + j) (rfl) (by omega) (by decide) ?_
        refine pt_imul (pc' := 106) C dX7_passing_105 rfl ?_
        refine pt_bipush (pc' := 108) C dX7_passing_106 rfl (v := 100) (by decide) ?_
        refine pt_idiv (pc' := 109) C dX7_passing_108 rfl (by decide) ?_
        refine pt_goto (pc' := 113) C dX7_passing_109 (by decide) ?_
        exact pt_cv (lv' := [(8, .int (goM sd (P 4) (1 + j - 1) (drM h kk sd le (P 3) (1 + j - 1) (1 + j) (1 + j)))), (7, .int (nI (1 + j))), (6, .int (nI (1 + j - 1))), (5, .int (nI (1 + j))), (4, .int 1), (0, .ref (aM 0)), (1, .int h), (2, .int 0), (3, .int kk)]) rfl [0, 1, 2, 3, 4, 5, 6, 7, 8] rfl rfl (by simpa only [if_pos h_93] using K)
    refine pt_istore (pc' := 115) (lv' := [(9, .int (if ((P 1) (1 + j)) = 2 then ((goM sd (P 4) (1 + j - 1) (drM h kk sd le (P 3) (1 + j - 1) (1 + j) (1 + j))) * ((P 3) (1 + j))) / 100 else 0)), (8, .int (goM sd (P 4) (1 + j - 1) (drM h kk sd le (P 3) (1 + j - 1) (1 + j) (1 + j)))), (7, .int (nI (1 + j))), (6, .int (nI (1 + j - 1))), (5, .int (nI (1 + j))), (4, .int 1), (0, .ref (aM 0)), (1, .int h), (2, .int 0), (3, .int kk)]) C dX7_passing_113 rfl (by decide) rfl ?_
    refine pt_aload_n (pc' := 116) C dX7_passing_115 rfl 6 rfl ?_
    refine pt_get (pc' := 119) C in_7 dX7_passing_116 rfl 0 23 rfl rfl (by decide) f_68 rfl ?_
    refine pt_iload (pc' := 121) C dX7_passing_119 rfl 4 rfl ?_
    refine pt_iload (pc' := 123) C dX7_passing_121 rfl 5 rfl ?_
    refine pt_iload (pc' := 125) C dX7_passing_123 rfl 1 rfl ?_
    refine pt_imul (pc' := 126) C dX7_passing_125 rfl ?_
    refine pt_iast (pc' := 127) (ws' := wM cA aM th n it k td gn dr wk sv P sd se (goMc sd (P 4) ((itf (psM false h kk sd (P 4) (P 1) le (P 3)) 1 j (sc, ba, pa, flN n 0 mo)).1) (1 + j - 1) (drM h kk sd le (P 3) (1 + j - 1) (1 + j) (1 + j))) ((itf (psM false h kk sd (P 4) (P 1) le (P 3)) 1 j (sc, ba, pa, flN n 0 mo)).2.1) (upd ((itf (psM false h kk sd (P 4) (P 1) le (P 3)) 1 j (sc, ba, pa, flN n 0 mo)).2.2.1) (1 + j) (1 * (goM sd (P 4) (1 + j - 1) (drM h kk sd le (P 3) (1 + j - 1) (1 + j) (1 + j))))) le ((itf (psM false h kk sd (P 4) (P 1) le (P 3)) 1 j (sc, ba, pa, flN n 0 mo)).2.2.2)) C dX7_passing_126 rfl 17 rfl rfl (1 + j) (rfl) (by omega) (by decide) rfl ?_
    refine pt_aload_n (pc' := 128) C dX7_passing_127 rfl 6 rfl ?_
    refine pt_get (pc' := 131) C in_7 dX7_passing_128 rfl 0 25 rfl rfl (by decide) f_74 rfl ?_
    refine pt_iload (pc' := 133) C dX7_passing_131 rfl 3 rfl ?_
    refine pt_dup2 (pc' := 134) C dX7_passing_133 rfl rfl rfl ?_
    refine pt_iald (pc' := 135) C dX7_passing_134 rfl 19 rfl rfl (1 + j - 1) (rfl) (by omega) (by decide) ?_
    refine pt_iload (pc' := 137) C dX7_passing_135 rfl 1 rfl ?_
    refine pt_isub (pc' := 138) C dX7_passing_137 rfl ?_
    refine pt_iast (pc' := 139) (ws' := wM cA aM th n it k td gn dr wk sv P sd se (goMc sd (P 4) ((itf (psM false h kk sd (P 4) (P 1) le (P 3)) 1 j (sc, ba, pa, flN n 0 mo)).1) (1 + j - 1) (drM h kk sd le (P 3) (1 + j - 1) (1 + j) (1 + j))) ((itf (psM false h kk sd (P 4) (P 1) le (P 3)) 1 j (sc, ba, pa, flN n 0 mo)).2.1) (upd ((itf (psM false h kk sd (P 4) (P 1) le (P 3)) 1 j (sc, ba, pa, flN n 0 mo)).2.2.1) (1 + j) (1 * (goM sd (P 4) (1 + j - 1) (drM h kk sd le (P 3) (1 + j - 1) (1 + j) (1 + j))))) le (upd ((itf (psM false h kk sd (P 4) (P 1) le (P 3)) 1 j (sc, ba, pa, flN n 0 mo)).2.2.2) (1 + j - 1) ((((itf (psM false h kk sd (P 4) (P 1) le (P 3)) 1 j (sc, ba, pa, flN n 0 mo)).2.2.2) (1 + j - 1)) - (goM sd (P 4) (1 + j - 1) (drM h kk sd le (P 3) (1 + j - 1) (1 + j) (1 + j)))))) C dX7_passing_138 rfl 19 rfl rfl (1 + j - 1) (rfl) (by omega) (by decide) rfl ?_
    refine pt_aload_n (pc' := 140) C dX7_passing_139 rfl 6 rfl ?_
    refine pt_get (pc' := 143) C in_7 dX7_passing_140 rfl 0 25 rfl rfl (by decide) f_74 rfl ?_
    refine pt_iload (pc' := 145) C dX7_passing_143 rfl 2 rfl ?_
    refine pt_dup2 (pc' := 146) C dX7_passing_145 rfl rfl rfl ?_
    refine pt_iald (pc' := 147) C dX7_passing_146 rfl 19 rfl rfl (1 + j) (rfl) (by omega) (by decide) ?_
    refine pt_iload (pc' := 149) C dX7_passing_147 rfl 1 rfl ?_
    refine pt_iload (pc' := 151) C dX7_passing_149 rfl 0 rfl ?_
    refine pt_isub (pc' := 152) C dX7_passing_151 rfl ?_
    refine pt_iadd (pc' := 153) C dX7_passing_152 rfl ?_
    refine pt_iast (pc' := 154) (ws' := wM cA aM th n it k td gn dr wk sv P sd se (goMc sd (P 4) ((itf (psM false h kk sd (P 4) (P 1) le (P 3)) 1 j (sc, ba, pa, flN n 0 mo)).1) (1 + j - 1) (drM h kk sd le (P 3) (1 + j - 1) (1 + j) (1 + j))) ((itf (psM false h kk sd (P 4) (P 1) le (P 3)) 1 j (sc, ba, pa, flN n 0 mo)).2.1) (upd ((itf (psM false h kk sd (P 4) (P 1) le (P 3)) 1 j (sc, ba, pa, flN n 0 mo)).2.2.1) (1 + j) (1 * (goM sd (P 4) (1 + j - 1) (drM h kk sd le (P 3) (1 + j - 1) (1 + j) (1 + j))))) le (upd (upd ((itf (psM false h kk sd (P 4) (P 1) le (P 3)) 1 j (sc, ba, pa, flN n 0 mo)).2.2.2) (1 + j - 1) ((((itf (psM false h kk sd (P 4) (P 1) le (P 3)) 1 j (sc, ba, pa, flN n 0 mo)).2.2.2) (1 + j - 1)) - (goM sd (P 4) (1 + j - 1) (drM h kk sd le (P 3) (1 + j - 1) (1 + j) (1 + j))))) (1 + j) (((upd ((itf (psM false h kk sd (P 4) (P 1) le (P 3)) 1 j (sc, ba, pa, flN n 0 mo)).2.2.2) (1 + j - 1) ((((itf (psM false h kk sd (P 4) (P 1) le (P 3)) 1 j (sc, ba, pa, flN n 0 mo)).2.2.2) (1 + j - 1)) - (goM sd (P 4) (1 + j - 1) (drM h kk sd le (P 3) (1 + j - 1) (1 + j) (1 + j))))) (1 + j)) + ((goM sd (P 4) (1 + j - 1) (drM h kk sd le (P 3) (1 + j - 1) (1 + j) (1 + j))) - (if ((P 1) (1 + j)) = 2 then ((goM sd (P 4) (1 + j - 1) (drM h kk sd le (P 3) (1 + j - 1) (1 + j) (1 + j))) * ((P 3) (1 + j))) / 100 else 0))))) C dX7_passing_153 rfl 19 rfl rfl (1 + j) (rfl) (by omega) (by decide) rfl ?_
    refine pt_aload_n (pc' := 155) C dX7_passing_154 rfl 6 rfl ?_
    refine pt_get (pc' := 158) C in_7 dX7_passing_155 rfl 0 22 rfl rfl (by decide) f_65 rfl ?_
    refine pt_iload (pc' := 160) C dX7_passing_158 rfl 4 rfl ?_
    refine pt_dup2 (pc' := 161) C dX7_passing_160 rfl rfl rfl ?_
    refine pt_iald (pc' := 162) C dX7_passing_161 rfl 16 rfl rfl (1 + j) (rfl) (by omega) (by decide) ?_
    refine pt_iload (pc' := 164) C dX7_passing_162 rfl 0 rfl ?_
    refine pt_iadd (pc' := 165) C dX7_passing_164 rfl ?_
    refine pt_iast (pc' := 166) (ws' := wM cA aM th n it k td gn dr wk sv P sd se (goMc sd (P 4) ((itf (psM false h kk sd (P 4) (P 1) le (P 3)) 1 j (sc, ba, pa, flN n 0 mo)).1) (1 + j - 1) (drM h kk sd le (P 3) (1 + j - 1) (1 + j) (1 + j))) (upd ((itf (psM false h kk sd (P 4) (P 1) le (P 3)) 1 j (sc, ba, pa, flN n 0 mo)).2.1) (1 + j) ((((itf (psM false h kk sd (P 4) (P 1) le (P 3)) 1 j (sc, ba, pa, flN n 0 mo)).2.1) (1 + j)) + (if ((P 1) (1 + j)) = 2 then ((goM sd (P 4) (1 + j - 1) (drM h kk sd le (P 3) (1 + j - 1) (1 + j) (1 + j))) * ((P 3) (1 + j))) / 100 else 0))) (upd ((itf (psM false h kk sd (P 4) (P 1) le (P 3)) 1 j (sc, ba, pa, flN n 0 mo)).2.2.1) (1 + j) (1 * (goM sd (P 4) (1 + j - 1) (drM h kk sd le (P 3) (1 + j - 1) (1 + j) (1 + j))))) le (upd (upd ((itf (psM false h kk sd (P 4) (P 1) le (P 3)) 1 j (sc, ba, pa, flN n 0 mo)).2.2.2) (1 + j - 1) ((((itf (psM false h kk sd (P 4) (P 1) le (P 3)) 1 j (sc, ba, pa, flN n 0 mo)).2.2.2) (1 + j - 1)) - (goM sd (P 4) (1 + j - 1) (drM h kk sd le (P 3) (1 + j - 1) (1 + j) (1 + j))))) (1 + j) (((upd ((itf (psM false h kk sd (P 4) (P 1) le (P 3)) 1 j (sc, ba, pa, flN n 0 mo)).2.2.2) (1 + j - 1) ((((itf (psM false h kk sd (P 4) (P 1) le (P 3)) 1 j (sc, ba, pa, flN n 0 mo)).2.2.2) (1 + j - 1)) - (goM sd (P 4) (1 + j - 1) (drM h kk sd le (P 3) (1 + j - 1) (1 + j) (1 + j))))) (1 + j)) + ((goM sd (P 4) (1 + j - 1) (drM h kk sd le (P 3) (1 + j - 1) (1 + j) (1 + j))) - (if ((P 1) (1 + j)) = 2 then ((goM sd (P 4) (1 + j - 1) (drM h kk sd le (P 3) (1 + j - 1) (1 + j) (1 + j))) * ((P 3) (1 + j))) / 100 else 0))))) C dX7_passing_165 rfl 16 rfl rfl (1 + j) (rfl) (by omega) (by decide) rfl ?_
    refine pt_iinc (pc' := 169) (v := nI (1 + (j + 1))) (lv' := [(5, .int (nI (1 + (j + 1)))), (9, .int (if ((P 1) (1 + j)) = 2 then ((goM sd (P 4) (1 + j - 1) (drM h kk sd le (P 3) (1 + j - 1) (1 + j) (1 + j))) * ((P 3) (1 + j))) / 100 else 0)), (8, .int (goM sd (P 4) (1 + j - 1) (drM h kk sd le (P 3) (1 + j - 1) (1 + j) (1 + j)))), (7, .int (nI (1 + j))), (6, .int (nI (1 + j - 1))), (4, .int 1), (0, .ref (aM 0)), (1, .int h), (2, .int 0), (3, .int kk)]) C dX7_passing_166 rfl 4 rfl (nI_1 _) (by decide) rfl ?_
    refine pt_goto (pc' := 40) C dX7_passing_169 (by decide) ?_
    exact pt_cv (rfl) [0, 5, 6, 7, 8, 9] (rfl) rfl ih_40
  refine pt_iload (pc' := 42) C dX7_passing_40 rfl 0 rfl ?_
  refine pt_aload_n (pc' := 43) C dX7_passing_42 rfl 2 rfl ?_
  refine pt_get (pc' := 46) C in_7 dX7_passing_43 rfl 0 1 rfl rfl (by decide) f_13 rfl ?_
  refine pt_icmp_ge (pc' := 49) (tgt := 172) C dX7_passing_46 (by decide) rfl (fun h_46 => ?_) (fun h_46 => absurd (nI_le (show n ≤ 1 + (n - 1) by omega) (by omega)) h_46)
  refine pt_iload_n (pc' := 173) C dX7_passing_172 rfl 4 rfl ?_
  refine pt_if_ne (pc' := 176) (tgt := 180) C dX7_passing_173 (by decide) rfl (fun h_173 => absurd (by decide) h_173) (fun h_173 => ?_)
  refine pt_iconst (pc' := 177) C dX7_passing_176 rfl (v := 0) (by decide) ?_
  refine pt_goto (pc' := 186) C dX7_passing_177 (by decide) ?_
  refine pt_istore (pc' := 188) (lv' := [(5, .int 0), (4, .int 1), (0, .ref (aM 0)), (1, .int h), (2, .int 0), (3, .int kk)]) C dX7_passing_186 rfl (by decide) rfl ?_
  refine pt_aload_n (pc' := 189) C dX7_passing_188 rfl 2 rfl ?_
  refine pt_get (pc' := 192) C in_7 dX7_passing_189 rfl 0 1 rfl rfl (by decide) f_13 rfl ?_
  refine pt_iconst (pc' := 193) C dX7_passing_192 rfl (v := 1) (by decide) ?_
  refine pt_isub (pc' := 194) C dX7_passing_193 rfl ?_
  refine pt_iload (pc' := 196) C dX7_passing_194 rfl 0 rfl ?_
  refine pt_isub (pc' := 197) C dX7_passing_196 rfl ?_
  refine pt_eq (st' := [.int (nI (n - 1))]) rfl rfl (by rw [nI_m1 (by omega)]; rw [show nI (n - 1) - 0 = nI (n - 1) from Int32.sub_zero _]) ?_
  refine pt_istore (pc' := 199) (lv' := [(6, .int (nI (n - 1))), (5, .int 0), (4, .int 1), (0, .ref (aM 0)), (1, .int h), (2, .int 0), (3, .int kk)]) C dX7_passing_197 rfl (by decide) rfl ?_
  refine pt_iload_n (pc' := 200) C dX7_passing_199 rfl 6 rfl ?_
  refine pt_iload_n (pc' := 201) C dX7_passing_200 rfl 4 rfl ?_
  refine pt_imul (pc' := 202) C dX7_passing_201 rfl ?_
  refine pt_aload_n (pc' := 203) C dX7_passing_202 rfl 3 rfl ?_
  refine pt_get (pc' := 206) C in_7 dX7_passing_203 rfl 0 8 rfl rfl (by decide) f_32 rfl ?_
  refine pt_iload_n (pc' := 207) C dX7_passing_206 rfl 5 rfl ?_
  refine pt_iald (pc' := 208) C dX7_passing_207 rfl 6 rfl rfl 0 (rfl) (by omega) (by decide) ?_
  refine pt_imul (pc' := 209) C dX7_passing_208 rfl ?_
  refine pt_bipush (pc' := 211) C dX7_passing_209 rfl (v := 100) (by decide) ?_
  refine pt_idiv (pc' := 212) C dX7_passing_211 rfl (by decide) ?_
  refine pt_istore (pc' := 214) (lv' := [(7, .int (((kk * h) * ((P 5) 0)) / 100)), (6, .int (nI (n - 1))), (5, .int 0), (4, .int 1), (0, .ref (aM 0)), (1, .int h), (2, .int 0), (3, .int kk)]) C dX7_passing_212 rfl (by decide) rfl ?_
  refine pt_aload_n (pc' := 215) C dX7_passing_214 rfl 4 rfl ?_
  refine pt_iload (pc' := 217) C dX7_passing_215 rfl 1 rfl ?_
  refine pt_iload_n (pc' := 218) C dX7_passing_217 rfl 7 rfl ?_
  refine pt_iload_n (pc' := 219) C dX7_passing_218 rfl 5 rfl ?_
  refine pt_imul (pc' := 220) C dX7_passing_219 rfl ?_
  refine pt_cvI0 (pc' := 223) (w1 := wM cA aM th n it k td gn dr wk sv P sd se (goMc sd (P 4) ((itf (psM false h kk sd (P 4) (P 1) le (P 3)) 1 (n - 1) (sc, ba, pa, flN n 0 mo)).1) (n - 1) (kk * h)) ((itf (psM false h kk sd (P 4) (P 1) le (P 3)) 1 (n - 1) (sc, ba, pa, flN n 0 mo)).2.1) ((itf (psM false h kk sd (P 4) (P 1) le (P 3)) 1 (n - 1) (sc, ba, pa, flN n 0 mo)).2.2.1) le ((itf (psM false h kk sd (P 4) (P 1) le (P 3)) 1 (n - 1) (sc, ba, pa, flN n 0 mo)).2.2.2)) (As := [.int (nI (n - 1)), .int (kk * h)]) (rest := []) C (mX7_goesOut l D cA aM th n it k td gn dr wk sv P sd se ((itf (psM false h kk sd (P 4) (P 1) le (P 3)) 1 (n - 1) (sc, ba, pa, flN n 0 mo)).1) ((itf (psM false h kk sd (P 4) (P 1) le (P 3)) 1 (n - 1) (sc, ba, pa, flN n 0 mo)).2.1) ((itf (psM false h kk sd (P 4) (P 1) le (P 3)) 1 (n - 1) (sc, ba, pa, flN n 0 mo)).2.2.1) le ((itf (psM false h kk sd (P 4) (P 1) le (P 3)) 1 (n - 1) (sc, ba, pa, flN n 0 mo)).2.2.2) (n - 1) (kk * h) (by first | assumption | omega)) (cwV 2 C.hts gX7_passing_X7_goesOut rfl rfl rfl (by decide +kernel) ⟨Nat.le_of_ble_eq_true rfl, Nat.le_of_ble_eq_true rfl⟩) dX7_passing_220 rfl 0 rfl rfl rfl rfl rfl (Nat.le_of_ble_eq_true rfl) ⟨Nat.le_of_ble_eq_true rfl, Nat.le_of_ble_eq_true rfl⟩ ?_
  refine pt_istore (pc' := 225) (lv' := [(8, .int (goM sd (P 4) (n - 1) (kk * h))), (7, .int (((kk * h) * ((P 5) 0)) / 100)), (6, .int (nI (n - 1))), (5, .int 0), (4, .int 1), (0, .ref (aM 0)), (1, .int h), (2, .int 0), (3, .int kk)]) C dX7_passing_223 rfl (by decide) rfl ?_
  refine pt_aload_n (pc' := 226) C dX7_passing_225 rfl 5 rfl ?_
  refine pt_get (pc' := 229) C in_7 dX7_passing_226 rfl 0 25 rfl rfl (by decide) f_74 rfl ?_
  refine pt_iload (pc' := 231) C dX7_passing_229 rfl 3 rfl ?_
  refine pt_dup2 (pc' := 232) C dX7_passing_231 rfl rfl rfl ?_
  refine pt_iald (pc' := 233) C dX7_passing_232 rfl 19 rfl rfl 0 (rfl) (by omega) (by decide) ?_
  refine pt_iload (pc' := 235) C dX7_passing_233 rfl 1 rfl ?_
  refine pt_iadd (pc' := 236) C dX7_passing_235 rfl ?_
  refine pt_iast (pc' := 237) (ws' := wM cA aM th n it k td gn dr wk sv P sd se (goMc sd (P 4) ((itf (psM false h kk sd (P 4) (P 1) le (P 3)) 1 (n - 1) (sc, ba, pa, flN n 0 mo)).1) (n - 1) (kk * h)) ((itf (psM false h kk sd (P 4) (P 1) le (P 3)) 1 (n - 1) (sc, ba, pa, flN n 0 mo)).2.1) ((itf (psM false h kk sd (P 4) (P 1) le (P 3)) 1 (n - 1) (sc, ba, pa, flN n 0 mo)).2.2.1) le (upd ((itf (psM false h kk sd (P 4) (P 1) le (P 3)) 1 (n - 1) (sc, ba, pa, flN n 0 mo)).2.2.2) 0 ((((itf (psM false h kk sd (P 4) (P 1) le (P 3)) 1 (n - 1) (sc, ba, pa, flN n 0 mo)).2.2.2) 0) + (((kk * h) * ((P 5) 0)) / 100)))) C dX7_passing_236 rfl 19 rfl rfl 0 (rfl) (by omega) (by decide) rfl ?_
  refine pt_aload_n (pc' := 238) C dX7_passing_237 rfl 5 rfl ?_
  refine pt_get (pc' := 241) C in_7 dX7_passing_238 rfl 0 25 rfl rfl (by decide) f_74 rfl ?_
  refine pt_iload (pc' := 243) C dX7_passing_241 rfl 2 rfl ?_
  refine pt_dup2 (pc' := 244) C dX7_passing_243 rfl rfl rfl ?_
  refine pt_iald (pc' := 245) C dX7_passing_244 rfl 19 rfl rfl (n - 1) (rfl) (by omega) (by decide) ?_
  refine pt_iload (pc' := 247) C dX7_passing_245 rfl 0 rfl ?_
  refine pt_isub (pc' := 248) C dX7_passing_247 rfl ?_
  refine pt_iast (pc' := 249) (ws' := wM cA aM th n it k td gn dr wk sv P sd se (goMc sd (P 4) ((itf (psM false h kk sd (P 4) (P 1) le (P 3)) 1 (n - 1) (sc, ba, pa, flN n 0 mo)).1) (n - 1) (kk * h)) ((itf (psM false h kk sd (P 4) (P 1) le (P 3)) 1 (n - 1) (sc, ba, pa, flN n 0 mo)).2.1) ((itf (psM false h kk sd (P 4) (P 1) le (P 3)) 1 (n - 1) (sc, ba, pa, flN n 0 mo)).2.2.1) le (upd (upd ((itf (psM false h kk sd (P 4) (P 1) le (P 3)) 1 (n - 1) (sc, ba, pa, flN n 0 mo)).2.2.2) 0 ((((itf (psM false h kk sd (P 4) (P 1) le (P 3)) 1 (n - 1) (sc, ba, pa, flN n 0 mo)).2.2.2) 0) + (((kk * h) * ((P 5) 0)) / 100))) (n - 1) (((upd ((itf (psM false h kk sd (P 4) (P 1) le (P 3)) 1 (n - 1) (sc, ba, pa, flN n 0 mo)).2.2.2) 0 ((((itf (psM false h kk sd (P 4) (P 1) le (P 3)) 1 (n - 1) (sc, ba, pa, flN n 0 mo)).2.2.2) 0) + (((kk * h) * ((P 5) 0)) / 100))) (n - 1)) - (goM sd (P 4) (n - 1) (kk * h))))) C dX7_passing_248 rfl 19 rfl rfl (n - 1) (rfl) (by omega) (by decide) rfl ?_
  refine pt_aload_n (pc' := 250) C dX7_passing_249 rfl 5 rfl ?_
  refine pt_get (pc' := 253) C in_7 dX7_passing_250 rfl 0 23 rfl rfl (by decide) f_68 rfl ?_
  refine pt_iload_n (pc' := 254) C dX7_passing_253 rfl 7 rfl ?_
  refine pt_if_ne (pc' := 257) (tgt := 261) C dX7_passing_254 (by decide) rfl (fun h_254 => absurd (by decide) h_254) (fun h_254 => ?_)
  refine pt_iconst (pc' := 258) C dX7_passing_257 rfl (v := 0) (by decide) ?_
  refine pt_goto (pc' := 265) C dX7_passing_258 (by decide) ?_
  refine pt_iload (pc' := 267) C dX7_passing_265 rfl 4 rfl ?_
  refine pt_iload (pc' := 269) C dX7_passing_267 rfl 1 rfl ?_
  refine pt_imul (pc' := 270) C dX7_passing_269 rfl ?_
  refine pt_iast (pc' := 271) (ws' := wM cA aM th n it k td gn dr wk sv P sd se (goMc sd (P 4) ((itf (psM false h kk sd (P 4) (P 1) le (P 3)) 1 (n - 1) (sc, ba, pa, flN n 0 mo)).1) (n - 1) (kk * h)) ((itf (psM false h kk sd (P 4) (P 1) le (P 3)) 1 (n - 1) (sc, ba, pa, flN n 0 mo)).2.1) (upd ((itf (psM false h kk sd (P 4) (P 1) le (P 3)) 1 (n - 1) (sc, ba, pa, flN n 0 mo)).2.2.1) 0 (1 * (((kk * h) * ((P 5) 0)) / 100))) le (upd (upd ((itf (psM false h kk sd (P 4) (P 1) le (P 3)) 1 (n - 1) (sc, ba, pa, flN n 0 mo)).2.2.2) 0 ((((itf (psM false h kk sd (P 4) (P 1) le (P 3)) 1 (n - 1) (sc, ba, pa, flN n 0 mo)).2.2.2) 0) + (((kk * h) * ((P 5) 0)) / 100))) (n - 1) (((upd ((itf (psM false h kk sd (P 4) (P 1) le (P 3)) 1 (n - 1) (sc, ba, pa, flN n 0 mo)).2.2.2) 0 ((((itf (psM false h kk sd (P 4) (P 1) le (P 3)) 1 (n - 1) (sc, ba, pa, flN n 0 mo)).2.2.2) 0) + (((kk * h) * ((P 5) 0)) / 100))) (n - 1)) - (goM sd (P 4) (n - 1) (kk * h))))) C dX7_passing_270 rfl 17 rfl rfl 0 (rfl) (by omega) (by decide) rfl ?_
  refine pt_aload_n (pc' := 272) C dX7_passing_271 rfl 5 rfl ?_
  refine pt_get (pc' := 275) C in_7 dX7_passing_272 rfl 0 23 rfl rfl (by decide) f_68 rfl ?_
  refine pt_iload_n (pc' := 276) C dX7_passing_275 rfl 7 rfl ?_
  refine pt_if_ne (pc' := 279) (tgt := 286) C dX7_passing_276 (by decide) rfl (fun h_276 => absurd (by decide) h_276) (fun h_276 => ?_)
  refine pt_aload_n (pc' := 280) C dX7_passing_279 rfl 5 rfl ?_
  refine pt_get (pc' := 283) C in_7 dX7_passing_280 rfl 0 1 rfl rfl (by decide) f_13 rfl ?_
  refine pt_goto (pc' := 287) C dX7_passing_283 (by decide) ?_
  refine pt_iload (pc' := 289) C dX7_passing_287 rfl 4 rfl ?_
  refine pt_iload (pc' := 291) C dX7_passing_289 rfl 0 rfl ?_
  refine pt_imul (pc' := 292) C dX7_passing_291 rfl ?_
  refine pt_iast (pc' := 293) (ws' := wM cA aM th n it k td gn dr wk sv P sd se (goMc sd (P 4) ((itf (psM false h kk sd (P 4) (P 1) le (P 3)) 1 (n - 1) (sc, ba, pa, flN n 0 mo)).1) (n - 1) (kk * h)) ((itf (psM false h kk sd (P 4) (P 1) le (P 3)) 1 (n - 1) (sc, ba, pa, flN n 0 mo)).2.1) (upd (upd ((itf (psM false h kk sd (P 4) (P 1) le (P 3)) 1 (n - 1) (sc, ba, pa, flN n 0 mo)).2.2.1) 0 (1 * (((kk * h) * ((P 5) 0)) / 100))) n (1 * (goM sd (P 4) (n - 1) (kk * h)))) le (upd (upd ((itf (psM false h kk sd (P 4) (P 1) le (P 3)) 1 (n - 1) (sc, ba, pa, flN n 0 mo)).2.2.2) 0 ((((itf (psM false h kk sd (P 4) (P 1) le (P 3)) 1 (n - 1) (sc, ba, pa, flN n 0 mo)).2.2.2) 0) + (((kk * h) * ((P 5) 0)) / 100))) (n - 1) (((upd ((itf (psM false h kk sd (P 4) (P 1) le (P 3)) 1 (n - 1) (sc, ba, pa, flN n 0 mo)).2.2.2) 0 ((((itf (psM false h kk sd (P 4) (P 1) le (P 3)) 1 (n - 1) (sc, ba, pa, flN n 0 mo)).2.2.2) 0) + (((kk * h) * ((P 5) 0)) / 100))) (n - 1)) - (goM sd (P 4) (n - 1) (kk * h))))) C dX7_passing_292 rfl 17 rfl rfl n (rfl) (by omega) (by decide) rfl ?_
  refine pt_iconst (pc' := 294) C dX7_passing_293 rfl (v := 0) (by decide) ?_
  refine pt_istore (pc' := 296) (lv' := [(9, .int 0), (8, .int (goM sd (P 4) (n - 1) (kk * h))), (7, .int (((kk * h) * ((P 5) 0)) / 100)), (6, .int (nI (n - 1))), (5, .int 0), (4, .int 1), (0, .ref (aM 0)), (1, .int h), (2, .int 0), (3, .int kk)]) C dX7_passing_294 rfl (by decide) rfl ?_
  refine pt_cv (ws' := wM cA aM th n it k td gn dr wk sv P (adM 0 sd (paM false n h kk sd (P 4) (P 5) (P 1) le (P 3) (sc, ba, pa, mo)).2.2.2) se ((paM false n h kk sd (P 4) (P 5) (P 1) le (P 3) (sc, ba, pa, mo)).1) ((paM false n h kk sd (P 4) (P 5) (P 1) le (P 3) (sc, ba, pa, mo)).2.1) ((paM false n h kk sd (P 4) (P 5) (P 1) le (P 3) (sc, ba, pa, mo)).2.2.1) le ((paM false n h kk sd (P 4) (P 5) (P 1) le (P 3) (sc, ba, pa, mo)).2.2.2)) (lv' := [(9, .int (nI 0)), (8, .int (goM sd (P 4) (n - 1) (kk * h))), (7, .int (((kk * h) * ((P 5) 0)) / 100)), (6, .int (nI (n - 1))), (5, .int 0), (4, .int 1), (0, .ref (aM 0)), (1, .int h), (2, .int 0), (3, .int kk)]) (by rw [adM, mapN_0]; rfl) [0, 1, 2, 3, 4, 5, 6, 7, 8, 9] (rfl) rfl ?_
  refine pt_for (wsf := fun j => wM cA aM th n it k td gn dr wk sv P (adM j sd (paM false n h kk sd (P 4) (P 5) (P 1) le (P 3) (sc, ba, pa, mo)).2.2.2) se ((paM false n h kk sd (P 4) (P 5) (P 1) le (P 3) (sc, ba, pa, mo)).1) ((paM false n h kk sd (P 4) (P 5) (P 1) le (P 3) (sc, ba, pa, mo)).2.1) ((paM false n h kk sd (P 4) (P 5) (P 1) le (P 3) (sc, ba, pa, mo)).2.2.1) le ((paM false n h kk sd (P 4) (P 5) (P 1) le (P 3) (sc, ba, pa, mo)).2.2.2)) (lvf := fun j => [(9, .int (nI j)), (8, .int (goM sd (P 4) (n - 1) (kk * h))), (7, .int (((kk * h) * ((P 5) 0)) / 100)), (6, .int (nI (n - 1))), (5, .int 0), (4, .int 1), (0, .ref (aM 0)), (1, .int h), (2, .int 0), (3, .int kk)]) n ?_ (fun j hj_296 ih_296 => ?_)
  rotate_left
  · refine pt_iload (pc' := 298) C dX7_passing_296 rfl 0 rfl ?_
    refine pt_aload_n (pc' := 299) C dX7_passing_298 rfl 6 rfl ?_
    refine pt_get (pc' := 302) C in_7 dX7_passing_299 rfl 0 1 rfl rfl (by decide) f_13 rfl ?_
    refine pt_icmp_ge (pc' := 305) (tgt := 324) C dX7_passing_302 (by decide) rfl (fun h_302 => absurd h_302 (nI_ge hj_296 (by omega))) (fun h_302 => ?_)
    refine pt_aload_n (pc' := 306) C dX7_passing_305 rfl 6 rfl ?_
    refine pt_iload (pc' := 308) C dX7_passing_306 rfl 0 rfl ?_
    refine pt_aload_n (pc' := 309) C dX7_passing_308 rfl 6 rfl ?_
    refine pt_get (pc' := 312) C in_7 dX7_passing_309 rfl 0 25 rfl rfl (by decide) f_74 rfl ?_
    refine pt_iload (pc' := 314) C dX7_passing_312 rfl 0 rfl ?_
    refine pt_iald (pc' := 315) C dX7_passing_314 rfl 19 rfl rfl j (rfl) (by omega) (by decide) ?_
    refine pt_cvV0 (pc' := 318) (w1 := wM cA aM th n it k td gn dr wk sv P (brM (adM j sd (paM false n h kk sd (P 4) (P 5) (P 1) le (P 3) (sc, ba, pa, mo)).2.2.2) j (((paM false n h kk sd (P 4) (P 5) (P 1) le (P 3) (sc, ba, pa, mo)).2.2.2) j)) se ((paM false n h kk sd (P 4) (P 5) (P 1) le (P 3) (sc, ba, pa, mo)).1) ((paM false n h kk sd (P 4) (P 5) (P 1) le (P 3) (sc, ba, pa, mo)).2.1) ((paM false n h kk sd (P 4) (P 5) (P 1) le (P 3) (sc, ba, pa, mo)).2.2.1) le ((paM false n h kk sd (P 4) (P 5) (P 1) le (P 3) (sc, ba, pa, mo)).2.2.2)) (As := [.int (nI j), .int (((paM false n h kk sd (P 4) (P 5) (P 1) le (P 3) (sc, ba, pa, mo)).2.2.2) j)]) (rest := []) C (mX7_brings l D cA aM th n it k td gn dr wk sv P (adM j sd (paM false n h kk sd (P 4) (P 5) (P 1) le (P 3) (sc, ba, pa, mo)).2.2.2) se ((paM false n h kk sd (P 4) (P 5) (P 1) le (P 3) (sc, ba, pa, mo)).1) ((paM false n h kk sd (P 4) (P 5) (P 1) le (P 3) (sc, ba, pa, mo)).2.1) ((paM false n h kk sd (P 4) (P 5) (P 1) le (P 3) (sc, ba, pa, mo)).2.2.1) le ((paM false n h kk sd (P 4) (P 5) (P 1) le (P 3) (sc, ba, pa, mo)).2.2.2) j (((paM false n h kk sd (P 4) (P 5) (P 1) le (P 3) (sc, ba, pa, mo)).2.2.2) j) (by first | assumption | omega)) (cwV 2 C.hts gX7_passing_X7_brings rfl rfl rfl (by decide +kernel) ⟨Nat.le_of_ble_eq_true rfl, Nat.le_of_ble_eq_true rfl⟩) dX7_passing_315 rfl 0 rfl rfl rfl rfl rfl (Nat.le_of_ble_eq_true rfl) ⟨Nat.le_of_ble_eq_true rfl, Nat.le_of_ble_eq_true rfl⟩ ?_
    refine pt_iinc (pc' := 321) (v := nI (j + 1)) (lv' := [(9, .int (nI (j + 1))), (8, .int (goM sd (P 4) (n - 1) (kk * h))), (7, .int (((kk * h) * ((P 5) 0)) / 100)), (6, .int (nI (n - 1))), (5, .int 0), (4, .int 1), (0, .ref (aM 0)), (1, .int h), (2, .int 0), (3, .int kk)]) C dX7_passing_318 rfl 0 rfl (nI_1 _) (by decide) rfl ?_
    refine pt_goto (pc' := 296) C dX7_passing_321 (by decide) ?_
    exact pt_cv (by rw [brM, adM, mapN_s _ _ _ (by rw [mapN_at]), ← adM]) [0, 1, 2, 3, 4, 5, 6, 7, 8, 9] (rfl) rfl ih_296
  refine pt_iload (pc' := 298) C dX7_passing_296 rfl 0 rfl ?_
  refine pt_aload_n (pc' := 299) C dX7_passing_298 rfl 6 rfl ?_
  refine pt_get (pc' := 302) C in_7 dX7_passing_299 rfl 0 1 rfl rfl (by decide) f_13 rfl ?_
  refine pt_icmp_ge (pc' := 305) (tgt := 324) C dX7_passing_302 (by decide) rfl (fun h_302 => ?_) (fun h_302 => absurd (nI_le (Nat.le_refl n) (by omega)) h_302)
  exact pt_vret C hr hk dX7_passing_324 (rfl)

set_option maxHeartbeats 4000000 in
set_option maxRecDepth 100000 in
theorem cX7_passing_R (l : Launch) (D : va_G) (cA : ClassId) (aM : Nat → Nat) (th : Int32) (n : Nat) (it : Int32) (k : Int32) (td : Nat) (gn : Nat) (dr : Nat) (wk : Nat) (sv : Nat) (P : Nat → Nat → Int32) (sd : Nat → Int32) (se : Nat → Int32) (sc : Nat → Int32) (ba : Nat → Int32) (pa : Nat → Int32) (le : Nat → Int32) (mo : Nat → Int32) (h : Int32) (kk : Int32) (hn : 2 ≤ n) (hm : n ≤ 12) : mt_V l yX7_passing wsX7_passing { frames := 3, cells := 0, slots := 0, locals := 73 } D [(cA, .int)] [.ref (aM 0), .int h, .int 1, .int kk] (wM cA aM th n it k td gn dr wk sv P sd se sc ba pa le mo) (wM cA aM th n it k td gn dr wk sv P (adM n sd (paM true n h kk sd (P 4) (P 5) (P 1) le (P 3) (sc, ba, pa, mo)).2.2.2) se ((paM true n h kk sd (P 4) (P 5) (P 1) le (P 3) (sc, ba, pa, mo)).1) ((paM true n h kk sd (P 4) (P 5) (P 1) le (P 3) (sc, ba, pa, mo)).2.1) ((paM true n h kk sd (P 4) (P 5) (P 1) le (P 3) (sc, ba, pa, mo)).2.2.1) le ((paM true n h kk sd (P 4) (P 5) (P 1) le (P 3) (sc, ba, pa, mo)).2.2.2)) := by
  refine mt_ofV (cc := cX7_passing) (maxL := 10) (ret := none) (lv := [(0, .ref (aM 0)), (1, .int h), (2, .int 1), (3, .int kk)]) (by decide) rfl (Nat.le_of_ble_eq_true rfl) rfl ?_
  intro p e s m args below meth c A C hr hk
  have f_13 := C.hts (.fieldLink RX7 13 "ShoreFieldsModel" "fields" "I") (by decide +kernel)
  have in_7 : ∀ w ∈ u_ws RX7 TX7 37, w ∈ wsX7_passing := by decide +kernel
  have f_74 := C.hts (.fieldLink RX7 74 "ShoreFieldsModel" "more" "[I") (by decide +kernel)
  have f_20 := C.hts (.fieldLink RX7 20 "ShoreFieldsModel" "kind" "[I") (by decide +kernel)
  have f_26 := C.hts (.fieldLink RX7 26 "ShoreFieldsModel" "part" "[I") (by decide +kernel)
  have f_68 := C.hts (.fieldLink RX7 68 "ShoreFieldsModel" "passed" "[I") (by decide +kernel)
  have f_65 := C.hts (.fieldLink RX7 65 "ShoreFieldsModel" "bar" "[I") (by decide +kernel)
  have f_32 := C.hts (.fieldLink RX7 32 "ShoreFieldsModel" "feeds" "[I") (by decide +kernel)
  refine pt_iload_n (pc' := 1) C dX7_passing_0 rfl 2 rfl ?_
  refine pt_if_ne (pc' := 4) (tgt := 8) C dX7_passing_1 (by decide) rfl (fun h_1 => ?_) (fun h_1 => absurd h_1 (by decide))
  refine pt_iconst (pc' := 9) C dX7_passing_8 rfl (v := -1) (by decide) ?_
  refine pt_istore (pc' := 11) (lv' := [(4, .int (-1)), (0, .ref (aM 0)), (1, .int h), (2, .int 1), (3, .int kk)]) C dX7_passing_9 rfl (by decide) rfl ?_
  refine pt_iconst (pc' := 12) C dX7_passing_11 rfl (v := 0) (by decide) ?_
  refine pt_istore (pc' := 14) (lv' := [(5, .int 0), (4, .int (-1)), (0, .ref (aM 0)), (1, .int h), (2, .int 1), (3, .int kk)]) C dX7_passing_12 rfl (by decide) rfl ?_
  refine pt_cv (ws' := wM cA aM th n it k td gn dr wk sv P sd se sc ba pa le (flN 0 0 mo)) (lv' := [(5, .int (nI 0)), (4, .int (-1)), (0, .ref (aM 0)), (1, .int h), (2, .int 1), (3, .int kk)]) (by rw [flN_0]) [0, 1, 2, 3, 4, 5] (rfl) rfl ?_
  refine pt_for (wsf := fun j => wM cA aM th n it k td gn dr wk sv P sd se sc ba pa le (flN j 0 mo)) (lvf := fun j => [(5, .int (nI j)), (4, .int (-1)), (0, .ref (aM 0)), (1, .int h), (2, .int 1), (3, .int kk)]) n ?_ (fun j hj_14 ih_14 => ?_)
  rotate_left
  · refine pt_iload (pc' := 16) C dX7_passing_14 rfl 0 rfl ?_
    refine pt_aload_n (pc' := 17) C dX7_passing_16 rfl 2 rfl ?_
    refine pt_get (pc' := 20) C in_7 dX7_passing_17 rfl 0 1 rfl rfl (by decide) f_13 rfl ?_
    refine pt_icmp_ge (pc' := 23) (tgt := 37) C dX7_passing_20 (by decide) rfl (fun h_20 => absurd h_20 (nI_ge hj_14 (by omega))) (fun h_20 => ?_)
    refine pt_aload_n (pc' := 24) C dX7_passing_23 rfl 2 rfl ?_
    refine pt_get (pc' := 27) C in_7 dX7_passing_24 rfl 0 25 rfl rfl (by decide) f_74 rfl ?_
    refine pt_iload (pc' := 29) C dX7_passing_27 rfl 0 rfl ?_
    refine pt_iconst (pc' := 30) C dX7_passing_29 rfl (v := 0) (by decide) ?_
    refine pt_iast (pc' := 31) (ws' := wM cA aM th n it k td gn dr wk sv P sd se sc ba pa le (upd (flN j 0 mo) j 0)) C dX7_passing_30 rfl 19 rfl rfl j (rfl) (by omega) (by decide) rfl ?_
    refine pt_iinc (pc' := 34) (v := nI (j + 1)) (lv' := [(5, .int (nI (j + 1))), (4, .int (-1)), (0, .ref (aM 0)), (1, .int h), (2, .int 1), (3, .int kk)]) C dX7_passing_31 rfl 0 rfl (nI_1 _) (by decide) rfl ?_
    refine pt_goto (pc' := 14) C dX7_passing_34 (by decide) ?_
    exact pt_cv (by rw [flN_s]) [0, 1, 2, 3, 4, 5] (rfl) rfl ih_14
  refine pt_iload (pc' := 16) C dX7_passing_14 rfl 0 rfl ?_
  refine pt_aload_n (pc' := 17) C dX7_passing_16 rfl 2 rfl ?_
  refine pt_get (pc' := 20) C in_7 dX7_passing_17 rfl 0 1 rfl rfl (by decide) f_13 rfl ?_
  refine pt_icmp_ge (pc' := 23) (tgt := 37) C dX7_passing_20 (by decide) rfl (fun h_20 => ?_) (fun h_20 => absurd (nI_le (Nat.le_refl n) (by omega)) h_20)
  refine pt_iconst (pc' := 38) C dX7_passing_37 rfl (v := 1) (by decide) ?_
  refine pt_istore (pc' := 40) (lv' := [(5, .int 1), (4, .int (-1)), (0, .ref (aM 0)), (1, .int h), (2, .int 1), (3, .int kk)]) C dX7_passing_38 rfl (by decide) rfl ?_
  refine pt_cv (ws' := wM cA aM th n it k td gn dr wk sv P sd se ((itf (psM true h kk sd (P 4) (P 1) le (P 3)) 1 0 (sc, ba, pa, flN n 0 mo)).1) ((itf (psM true h kk sd (P 4) (P 1) le (P 3)) 1 0 (sc, ba, pa, flN n 0 mo)).2.1) ((itf (psM true h kk sd (P 4) (P 1) le (P 3)) 1 0 (sc, ba, pa, flN n 0 mo)).2.2.1) le ((itf (psM true h kk sd (P 4) (P 1) le (P 3)) 1 0 (sc, ba, pa, flN n 0 mo)).2.2.2)) (lv' := [(5, .int (nI (1 + 0))), (4, .int (-1)), (0, .ref (aM 0)), (1, .int h), (2, .int 1), (3, .int kk)]) (rfl) [0, 1, 2, 3, 4, 5] (rfl) rfl ?_
  refine pt_for (wsf := fun j => wM cA aM th n it k td gn dr wk sv P sd se ((itf (psM true h kk sd (P 4) (P 1) le (P 3)) 1 j (sc, ba, pa, flN n 0 mo)).1) ((itf (psM true h kk sd (P 4) (P 1) le (P 3)) 1 j (sc, ba, pa, flN n 0 mo)).2.1) ((itf (psM true h kk sd (P 4) (P 1) le (P 3)) 1 j (sc, ba, pa, flN n 0 mo)).2.2.1) le ((itf (psM true h kk sd (P 4) (P 1) le (P 3)) 1 j (sc, ba, pa, flN n 0 mo)).2.2.2)) (lvf := fun j => [(5, .int (nI (1 + j))), (4, .int (-1)), (0, .ref (aM 0)), (1, .int h), (2, .int 1), (3, .int kk)]) (n - 1) ?_ (fun j hj_40 ih_40 => ?_)
  rotate_left
  · refine pt_iload (pc' := 42) C dX7_passing_40 rfl 0 rfl ?_
    refine pt_aload_n (pc' := 43) C dX7_passing_42 rfl 2 rfl ?_
    refine pt_get (pc' := 46) C in_7 dX7_passing_43 rfl 0 1 rfl rfl (by decide) f_13 rfl ?_
    refine pt_icmp_ge (pc' := 49) (tgt := 172) C dX7_passing_46 (by decide) rfl (fun h_46 => absurd h_46 (nI_ge (show 1 + j < n by omega) (by omega))) (fun h_46 => ?_)
    refine pt_iload_n (pc' := 50) C dX7_passing_49 rfl 4 rfl ?_
    refine pt_if_ne (pc' := 53) (tgt := 60) C dX7_passing_50 (by decide) rfl (fun h_50 => ?_) (fun h_50 => absurd h_50 (by decide))
    refine pt_iload (pc' := 62) C dX7_passing_60 rfl 0 rfl ?_
    refine pt_istore (pc' := 64) (lv' := [(6, .int (nI (1 + j))), (5, .int (nI (1 + j))), (4, .int (-1)), (0, .ref (aM 0)), (1, .int h), (2, .int 1), (3, .int kk)]) C dX7_passing_62 rfl (by decide) rfl ?_
    refine pt_iload (pc' := 66) C dX7_passing_64 rfl 0 rfl ?_
    refine pt_iload (pc' := 68) C dX7_passing_66 rfl 2 rfl ?_
    refine pt_iadd (pc' := 69) C dX7_passing_68 rfl ?_
    refine pt_eq (st' := [.int (nI (1 + j - 1))]) rfl rfl (by rw [show nI (1 + j) + (-1) = nI (1 + j - 1) from nI_p1 (by omega)]) ?_
    refine pt_istore (pc' := 71) (lv' := [(7, .int (nI (1 + j - 1))), (6, .int (nI (1 + j))), (5, .int (nI (1 + j))), (4, .int (-1)), (0, .ref (aM 0)), (1, .int h), (2, .int 1), (3, .int kk)]) C dX7_passing_69 rfl (by decide) rfl ?_
    refine pt_aload_n (pc' := 72) C dX7_passing_71 rfl 4 rfl ?_
    refine pt_iload (pc' := 74) C dX7_passing_72 rfl 2 rfl ?_
    refine pt_iload (pc' := 76) C dX7_passing_74 rfl 1 rfl ?_
    refine pt_iload (pc' := 78) C dX7_passing_76 rfl 0 rfl ?_
    refine pt_iload_n (pc' := 79) C dX7_passing_78 rfl 5 rfl ?_
    refine pt_iload_n (pc' := 80) C dX7_passing_79 rfl 7 rfl ?_
    refine pt_cvI0 (pc' := 83) (w1 := wM cA aM th n it k td gn dr wk sv P sd se (goMc sd (P 4) ((itf (psM true h kk sd (P 4) (P 1) le (P 3)) 1 j (sc, ba, pa, flN n 0 mo)).1) (1 + j) (drM h kk sd le (P 3) (1 + j) (1 + j - 1) (1 + j))) ((itf (psM true h kk sd (P 4) (P 1) le (P 3)) 1 j (sc, ba, pa, flN n 0 mo)).2.1) ((itf (psM true h kk sd (P 4) (P 1) le (P 3)) 1 j (sc, ba, pa, flN n 0 mo)).2.2.1) le ((itf (psM true h kk sd (P 4) (P 1) le (P 3)) 1 j (sc, ba, pa, flN n 0 mo)).2.2.2)) (As := [.int (nI (1 + j)), .int (nI (1 + j)), .int (nI (1 + j - 1)), .int h, .int kk]) (rest := []) C (mX7_passes l D cA aM th n it k td gn dr wk sv P sd se ((itf (psM true h kk sd (P 4) (P 1) le (P 3)) 1 j (sc, ba, pa, flN n 0 mo)).1) ((itf (psM true h kk sd (P 4) (P 1) le (P 3)) 1 j (sc, ba, pa, flN n 0 mo)).2.1) ((itf (psM true h kk sd (P 4) (P 1) le (P 3)) 1 j (sc, ba, pa, flN n 0 mo)).2.2.1) le ((itf (psM true h kk sd (P 4) (P 1) le (P 3)) 1 j (sc, ba, pa, flN n 0 mo)).2.2.2) (1 + j) (1 + j) (1 + j - 1) h kk (by first | assumption | omega) (by first | assumption | omega) (by first | assumption | omega)) (cwV 5 C.hts gX7_passing_X7_passes rfl rfl rfl (by decide +kernel) ⟨Nat.le_of_ble_eq_true rfl, Nat.le_of_ble_eq_true rfl⟩) dX7_passing_80 rfl 0 rfl rfl rfl rfl rfl (Nat.le_of_ble_eq_true rfl) ⟨Nat.le_of_ble_eq_true rfl, Nat.le_of_ble_eq_true rfl⟩ ?_
    refine pt_istore (pc' := 85) (lv' := [(8, .int (goM sd (P 4) (1 + j) (drM h kk sd le (P 3) (1 + j) (1 + j - 1) (1 + j)))), (7, .int (nI (1 + j - 1))), (6, .int (nI (1 + j))), (5, .int (nI (1 + j))), (4, .int (-1)), (0, .ref (aM 0)), (1, .int h), (2, .int 1), (3, .int kk)]) C dX7_passing_83 rfl (by decide) rfl ?_
    refine pt_aload_n (pc' := 86) C dX7_passing_85 rfl 5 rfl ?_
    refine pt_get (pc' := 89) C in_7 dX7_passing_86 rfl 0 4 rfl rfl (by decide) f_20 rfl ?_
    refine pt_iload (pc' := 91) C dX7_passing_89 rfl 3 rfl ?_
    refine pt_iald (pc' := 92) C dX7_passing_91 rfl 2 rfl rfl (1 + j) (rfl) (by omega) (by decide) ?_
    refine pt_iconst (pc' := 93) C dX7_passing_92 rfl (v := 2) (by decide) ?_
    refine pt_jn (q := 113) (k := 0) (n := 0) (wM cA aM th n it k td gn dr wk sv P sd se (goMc sd (P 4) ((itf (psM true h kk sd (P 4) (P 1) le (P 3)) 1 j (sc, ba, pa, flN n 0 mo)).1) (1 + j) (drM h kk sd le (P 3) (1 + j) (1 + j - 1) (1 + j))) ((itf (psM true h kk sd (P 4) (P 1) le (P 3)) 1 j (sc, ba, pa, flN n 0 mo)).2.1) ((itf (psM true h kk sd (P 4) (P 1) le (P 3)) 1 j (sc, ba, pa, flN n 0 mo)).2.2.1) le ((itf (psM true h kk sd (P 4) (P 1) le (P 3)) 1 j (sc, ba, pa, flN n 0 mo)).2.2.2)) [(8, .int (goM sd (P 4) (1 + j) (drM h kk sd le (P 3) (1 + j) (1 + j - 1) (1 + j)))), (7, .int (nI (1 + j - 1))), (6, .int (nI (1 + j))), (5, .int (nI (1 + j))), (4, .int (-1)), (0, .ref (aM 0)), (1, .int h), (2, .int 1), (3, .int kk)] [.int (if ((P 1) (1 + j)) = 2 then ((goM sd (P 4) (1 + j) (drM h kk sd le (P 3) (1 + j) (1 + j - 1) (1 + j))) * ((P 3) (1 + j))) / 100 else 0)] (fun K => ?_) ?_
    · refine pt_icmp_ne (pc' := 96) (tgt := 112) C dX7_passing_93 (by decide) rfl (fun h_93 => ?_) (fun h_93 => ?_)
      · refine pt_iconst (pc' := 113) C dX7_passing_112 rfl (v := 0) (by decide) ?_
        exact pt_cv (lv' := [(8, .int (goM sd (P 4) (1 + j) (drM h kk sd le (P 3) (1 + j) (1 + j - 1) (1 + j)))), (7, .int (nI (1 + j - 1))), (6, .int (nI (1 + j))), (5, .int (nI (1 + j))), (4, .int (-1)), (0, .ref (aM 0)), (1, .int h), (2, .int 1), (3, .int kk)]) rfl [0, 1, 2, 3, 4, 5, 6, 7, 8] rfl rfl (by simpa only [if_neg h_93] using K)
      · refine pt_iload (pc' := 98) C dX7_passing_96 rfl 0 rfl ?_
        refine pt_aload_n (pc' := 99) C dX7_passing_98 rfl 5 rfl ?_
        refine pt_get (pc' := 102) C in_7 dX7_passing_99 rfl 0 6 rfl rfl (by decide) f_26 rfl ?_
        refine pt_iload (pc' := 104) C dX7_passing_102 rfl 3 rfl ?_
        refine pt_iald (pc' := 105) C dX7_passing_104 rfl 4 rfl rfl (1 + j) (rfl) (by omega) (by decide) ?_
        refine pt_imul (pc' := 106) C dX7_passing_105 rfl ?_
        refine pt_bipush (pc' := 108) C dX7_passing_106 rfl (v := 100) (by decide) ?_
        refine pt_idiv (pc' := 109) C dX7_passing_108 rfl (by decide) ?_
        refine pt_goto (pc' := 113) C dX7_passing_109 (by decide) ?_
        exact pt_cv (lv' := [(8, .int (goM sd (P 4) (1 + j) (drM h kk sd le (P 3) (1 + j) (1 + j - 1) (1 + j)))), (7, .int (nI (1 + j - 1))), (6, .int (nI (1 + j))), (5, .int (nI (1 + j))), (4, .int (-1)), (0, .ref (aM 0)), (1, .int h), (2, .int 1), (3, .int kk)]) rfl [0, 1, 2, 3, 4, 5, 6, 7, 8] rfl rfl (by simpa only [if_pos h_93] using K)
    refine pt_istore (pc' := 115) (lv' := [(9, .int (if ((P 1) (1 + j)) = 2 then ((goM sd (P 4) (1 + j) (drM h kk sd le (P 3) (1 + j) (1 + j - 1) (1 + j))) * ((P 3) (1 + j))) / 100 else 0)), (8, .int (goM sd (P 4) (1 + j) (drM h kk sd le (P 3) (1 + j) (1 + j - 1) (1 + j)))), (7, .int (nI (1 + j - 1))), (6, .int (nI (1 + j))), (5, .int (nI (1 + j))), (4, .int (-1)), (0, .ref (aM 0)), (1, .int h), (2, .int 1), (3, .int kk)]) C dX7_passing_113 rfl (by decide) rfl ?_
    refine pt_aload_n (pc' := 116) C dX7_passing_115 rfl 6 rfl ?_
    refine pt_get (pc' := 119) C in_7 dX7_passing_116 rfl 0 23 rfl rfl (by decide) f_68 rfl ?_
    refine pt_iload (pc' := 121) C dX7_passing_119 rfl 4 rfl ?_
    refine pt_iload (pc' := 123) C dX7_passing_121 rfl 5 rfl ?_
    refine pt_iload (pc' := 125) C dX7_passing_123 rfl 1 rfl ?_
    refine pt_imul (pc' := 126) C dX7_passing_125 rfl ?_
    refine pt_iast (pc' := 127) (ws' := wM cA aM th n it k td gn dr wk sv P sd se (goMc sd (P 4) ((itf (psM true h kk sd (P 4) (P 1) le (P 3)) 1 j (sc, ba, pa, flN n 0 mo)).1) (1 + j) (drM h kk sd le (P 3) (1 + j) (1 + j - 1) (1 + j))) ((itf (psM true h kk sd (P 4) (P 1) le (P 3)) 1 j (sc, ba, pa, flN n 0 mo)).2.1) (upd ((itf (psM true h kk sd (P 4) (P 1) le (P 3)) 1 j (sc, ba, pa, flN n 0 mo)).2.2.1) (1 + j) ((-1) * (goM sd (P 4) (1 + j) (drM h kk sd le (P 3) (1 + j) (1 + j - 1) (1 + j))))) le ((itf (psM true h kk sd (P 4) (P 1) le (P 3)) 1 j (sc, ba, pa, flN n 0 mo)).2.2.2)) C dX7_passing_126 rfl 17 rfl rfl (1 + j) (rfl) (by omega) (by decide) rfl ?_
    refine pt_aload_n (pc' := 128) C dX7_passing_127 rfl 6 rfl ?_
    refine pt_get (pc' := 131) C in_7 dX7_passing_128 rfl 0 25 rfl rfl (by decide) f_74 rfl ?_
    refine pt_iload (pc' := 133) C dX7_passing_131 rfl 3 rfl ?_
    refine pt_dup2 (pc' := 134) C dX7_passing_133 rfl rfl rfl ?_
    refine pt_iald (pc' := 135) C dX7_passing_134 rfl 19 rfl rfl (1 + j) (rfl) (by omega) (by decide) ?_
    refine pt_iload (pc' := 137) C dX7_passing_135 rfl 1 rfl ?_
    refine pt_isub (pc' := 138) C dX7_passing_137 rfl ?_
    refine pt_iast (pc' := 139) (ws' := wM cA aM th n it k td gn dr wk sv P sd se (goMc sd (P 4) ((itf (psM true h kk sd (P 4) (P 1) le (P 3)) 1 j (sc, ba, pa, flN n 0 mo)).1) (1 + j) (drM h kk sd le (P 3) (1 + j) (1 + j - 1) (1 + j))) ((itf (psM true h kk sd (P 4) (P 1) le (P 3)) 1 j (sc, ba, pa, flN n 0 mo)).2.1) (upd ((itf (psM true h kk sd (P 4) (P 1) le (P 3)) 1 j (sc, ba, pa, flN n 0 mo)).2.2.1) (1 + j) ((-1) * (goM sd (P 4) (1 + j) (drM h kk sd le (P 3) (1 + j) (1 + j - 1) (1 + j))))) le (upd ((itf (psM true h kk sd (P 4) (P 1) le (P 3)) 1 j (sc, ba, pa, flN n 0 mo)).2.2.2) (1 + j) ((((itf (psM true h kk sd (P 4) (P 1) le (P 3)) 1 j (sc, ba, pa, flN n 0 mo)).2.2.2) (1 + j)) - (goM sd (P 4) (1 + j) (drM h kk sd le (P 3) (1 + j) (1 + j - 1) (1 + j)))))) C dX7_passing_138 rfl 19 rfl rfl (1 + j) (rfl) (by omega) (by decide) rfl ?_
    refine pt_aload_n (pc' := 140) C dX7_passing_139 rfl 6 rfl ?_
    refine pt_get (pc' := 143) C in_7 dX7_passing_140 rfl 0 25 rfl rfl (by decide) f_74 rfl ?_
    refine pt_iload (pc' := 145) C dX7_passing_143 rfl 2 rfl ?_
    refine pt_dup2 (pc' := 146) C dX7_passing_145 rfl rfl rfl ?_
    refine pt_iald (pc' := 147) C dX7_passing_146 rfl 19 rfl rfl (1 + j - 1) (rfl) (by omega) (by decide) ?_
    refine pt_iload (pc' := 149) C dX7_passing_147 rfl 1 rfl ?_
    refine pt_iload (pc' := 151) C dX7_passing_149 rfl 0 rfl ?_
    refine pt_isub (pc' := 152) C dX7_passing_151 rfl ?_
    refine pt_iadd (pc' := 153) C dX7_passing_152 rfl ?_
    refine pt_iast (pc' := 154) (ws' := wM cA aM th n it k td gn dr wk sv P sd se (goMc sd (P 4) ((itf (psM true h kk sd (P 4) (P 1) le (P 3)) 1 j (sc, ba, pa, flN n 0 mo)).1) (1 + j) (drM h kk sd le (P 3) (1 + j) (1 + j - 1) (1 + j))) ((itf (psM true h kk sd (P 4) (P 1) le (P 3)) 1 j (sc, ba, pa, flN n 0 mo)).2.1) (upd ((itf (psM true h kk sd (P 4) (P 1) le (P 3)) 1 j (sc, ba, pa, flN n 0 mo)).2.2.1) (1 + j) ((-1) * (goM sd (P 4) (1 + j) (drM h kk sd le (P 3) (1 + j) (1 + j - 1) (1 + j))))) le (upd (upd ((itf (psM true h kk sd (P 4) (P 1) le (P 3)) 1 j (sc, ba, pa, flN n 0 mo)).2.2.2) (1 + j) ((((itf (psM true h kk sd (P 4) (P 1) le (P 3)) 1 j (sc, ba, pa, flN n 0 mo)).2.2.2) (1 + j)) - (goM sd (P 4) (1 + j) (drM h kk sd le (P 3) (1 + j) (1 + j - 1) (1 + j))))) (1 + j - 1) (((upd ((itf (psM true h kk sd (P 4) (P 1) le (P 3)) 1 j (sc, ba, pa, flN n 0 mo)).2.2.2) (1 + j) ((((itf (psM true h kk sd (P 4) (P 1) le (P 3)) 1 j (sc, ba, pa, flN n 0 mo)).2.2.2) (1 + j)) - (goM sd (P 4) (1 + j) (drM h kk sd le (P 3) (1 + j) (1 + j - 1) (1 + j))))) (1 + j - 1)) + ((goM sd (P 4) (1 + j) (drM h kk sd le (P 3) (1 + j) (1 + j - 1) (1 + j))) - (if ((P 1) (1 + j)) = 2 then ((goM sd (P 4) (1 + j) (drM h kk sd le (P 3) (1 + j) (1 + j - 1) (1 + j))) * ((P 3) (1 + j))) / 100 else 0))))) C dX7_passing_153 rfl 19 rfl rfl (1 + j - 1) (rfl) (by omega) (by decide) rfl ?_
    refine pt_aload_n (pc' := 155) C dX7_passing_154 rfl 6 rfl ?_
    refine pt_get (pc' := 158) C in_7 dX7_passing_155 rfl 0 22 rfl rfl (by decide) f_65 rfl ?_
    refine pt_iload (pc' := 160) C dX7_passing_158 rfl 4 rfl ?_
    refine pt_dup2 (pc' := 161) C dX7_passing_160 rfl rfl rfl ?_
    refine pt_iald (pc' := 162) C dX7_passing_161 rfl 16 rfl rfl (1 + j) (rfl) (by omega) (by decide) ?_
    refine pt_iload (pc' := 164) C dX7_passing_162 rfl 0 rfl ?_
    refine pt_iadd (pc' := 165) C dX7_passing_164 rfl ?_
    refine pt_iast (pc' := 166) (ws' := wM cA aM th n it k td gn dr wk sv P sd se (goMc sd (P 4) ((itf (psM true h kk sd (P 4) (P 1) le (P 3)) 1 j (sc, ba, pa, flN n 0 mo)).1) (1 + j) (drM h kk sd le (P 3) (1 + j) (1 + j - 1) (1 + j))) (upd ((itf (psM true h kk sd (P 4) (P 1) le (P 3)) 1 j (sc, ba, pa, flN n 0 mo)).2.1) (1 + j) ((((itf (psM true h kk sd (P 4) (P 1) le (P 3)) 1 j (sc, ba, pa, flN n 0 mo)).2.1) (1 + j)) + (if ((P 1) (1 + j)) = 2 then ((goM sd (P 4) (1 + j) (drM h kk sd le (P 3) (1 + j) (1 + j - 1) (1 + j))) * ((P 3) (1 + j))) / 100 else 0))) (upd ((itf (psM true h kk sd (P 4) (P 1) le (P 3)) 1 j (sc, ba, pa, flN n 0 mo)).2.2.1) (1 + j) ((-1) * (goM sd (P 4) (1 + j) (drM h kk sd le (P 3) (1 + j) (1 + j - 1) (1 + j))))) le (upd (upd ((itf (psM true h kk sd (P 4) (P 1) le (P 3)) 1 j (sc, ba, pa, flN n 0 mo)).2.2.2) (1 + j) ((((itf (psM true h kk sd (P 4) (P 1) le (P 3)) 1 j (sc, ba, pa, flN n 0 mo)).2.2.2) (1 + j)) - (goM sd (P 4) (1 + j) (drM h kk sd le (P 3) (1 + j) (1 + j - 1) (1 + j))))) (1 + j - 1) (((upd ((itf (psM true h kk sd (P 4) (P 1) le (P 3)) 1 j (sc, ba, pa, flN n 0 mo)).2.2.2) (1 + j) ((((itf (psM true h kk sd (P 4) (P 1) le (P 3)) 1 j (sc, ba, pa, flN n 0 mo)).2.2.2) (1 + j)) - (goM sd (P 4) (1 + j) (drM h kk sd le (P 3) (1 + j) (1 + j - 1) (1 + j))))) (1 + j - 1)) + ((goM sd (P 4) (1 + j) (drM h kk sd le (P 3) (1 + j) (1 + j - 1) (1 + j))) - (if ((P 1) (1 + j)) = 2 then ((goM sd (P 4) (1 + j) (drM h kk sd le (P 3) (1 + j) (1 + j - 1) (1 + j))) * ((P 3) (1 + j))) / 100 else 0))))) C dX7_passing_165 rfl 16 rfl rfl (1 + j) (rfl) (by omega) (by decide) rfl ?_
    refine pt_iinc (pc' := 169) (v := nI (1 + (j + 1))) (lv' := [(5, .int (nI (1 + (j + 1)))), (9, .int (if ((P 1) (1 + j)) = 2 then ((goM sd (P 4) (1 + j) (drM h kk sd le (P 3) (1 + j) (1 + j - 1) (1 + j))) * ((P 3) (1 + j))) / 100 else 0)), (8, .int (goM sd (P 4) (1 + j) (drM h kk sd le (P 3) (1 + j) (1 + j - 1) (1 + j)))), (7, .int (nI (1 + j - 1))), (6, .int (nI (1 + j))), (4, .int (-1)), (0, .ref (aM 0)), (1, .int h), (2, .int 1), (3, .int kk)]) C dX7_passing_166 rfl 4 rfl (nI_1 _) (by decide) rfl ?_
    refine pt_goto (pc' := 40) C dX7_passing_169 (by decide) ?_
    exact pt_cv (rfl) [0, 5, 6, 7, 8, 9] (rfl) rfl ih_40
  refine pt_iload (pc' := 42) C dX7_passing_40 rfl 0 rfl ?_
  refine pt_aload_n (pc' := 43) C dX7_passing_42 rfl 2 rfl ?_
  refine pt_get (pc' := 46) C in_7 dX7_passing_43 rfl 0 1 rfl rfl (by decide) f_13 rfl ?_
  refine pt_icmp_ge (pc' := 49) (tgt := 172) C dX7_passing_46 (by decide) rfl (fun h_46 => ?_) (fun h_46 => absurd (nI_le (show n ≤ 1 + (n - 1) by omega) (by omega)) h_46)
  refine pt_iload_n (pc' := 173) C dX7_passing_172 rfl 4 rfl ?_
  refine pt_if_ne (pc' := 176) (tgt := 180) C dX7_passing_173 (by decide) rfl (fun h_173 => ?_) (fun h_173 => absurd h_173 (by decide))
  refine pt_aload_n (pc' := 181) C dX7_passing_180 rfl 2 rfl ?_
  refine pt_get (pc' := 184) C in_7 dX7_passing_181 rfl 0 1 rfl rfl (by decide) f_13 rfl ?_
  refine pt_iconst (pc' := 185) C dX7_passing_184 rfl (v := 1) (by decide) ?_
  refine pt_isub (pc' := 186) C dX7_passing_185 rfl ?_
  refine pt_eq (st' := [.int (nI (n - 1))]) rfl rfl (by rw [nI_m1 (by omega)]) ?_
  refine pt_istore (pc' := 188) (lv' := [(5, .int (nI (n - 1))), (4, .int (-1)), (0, .ref (aM 0)), (1, .int h), (2, .int 1), (3, .int kk)]) C dX7_passing_186 rfl (by decide) rfl ?_
  refine pt_aload_n (pc' := 189) C dX7_passing_188 rfl 2 rfl ?_
  refine pt_get (pc' := 192) C in_7 dX7_passing_189 rfl 0 1 rfl rfl (by decide) f_13 rfl ?_
  refine pt_iconst (pc' := 193) C dX7_passing_192 rfl (v := 1) (by decide) ?_
  refine pt_isub (pc' := 194) C dX7_passing_193 rfl ?_
  refine pt_iload (pc' := 196) C dX7_passing_194 rfl 0 rfl ?_
  refine pt_isub (pc' := 197) C dX7_passing_196 rfl ?_
  refine pt_eq (st' := [.int (nI 0)]) rfl rfl (by rw [nI_m1 (by omega), Int32.sub_self]; rfl) ?_
  refine pt_istore (pc' := 199) (lv' := [(6, .int (nI 0)), (5, .int (nI (n - 1))), (4, .int (-1)), (0, .ref (aM 0)), (1, .int h), (2, .int 1), (3, .int kk)]) C dX7_passing_197 rfl (by decide) rfl ?_
  refine pt_iload_n (pc' := 200) C dX7_passing_199 rfl 6 rfl ?_
  refine pt_iload_n (pc' := 201) C dX7_passing_200 rfl 4 rfl ?_
  refine pt_imul (pc' := 202) C dX7_passing_201 rfl ?_
  refine pt_aload_n (pc' := 203) C dX7_passing_202 rfl 3 rfl ?_
  refine pt_get (pc' := 206) C in_7 dX7_passing_203 rfl 0 8 rfl rfl (by decide) f_32 rfl ?_
  refine pt_iload_n (pc' := 207) C dX7_passing_206 rfl 5 rfl ?_
  refine pt_iald (pc' := 208) C dX7_passing_207 rfl 6 rfl rfl 1 (rfl) (by omega) (by decide) ?_
  refine pt_imul (pc' := 209) C dX7_passing_208 rfl ?_
  refine pt_bipush (pc' := 211) C dX7_passing_209 rfl (v := 100) (by decide) ?_
  refine pt_idiv (pc' := 212) C dX7_passing_211 rfl (by decide) ?_
  refine pt_istore (pc' := 214) (lv' := [(7, .int (((kk * h) * ((P 5) 1)) / 100)), (6, .int (nI 0)), (5, .int (nI (n - 1))), (4, .int (-1)), (0, .ref (aM 0)), (1, .int h), (2, .int 1), (3, .int kk)]) C dX7_passing_212 rfl (by decide) rfl ?_
  refine pt_aload_n (pc' := 215) C dX7_passing_214 rfl 4 rfl ?_
  refine pt_iload (pc' := 217) C dX7_passing_215 rfl 1 rfl ?_
  refine pt_iload_n (pc' := 218) C dX7_passing_217 rfl 7 rfl ?_
  refine pt_iload_n (pc' := 219) C dX7_passing_218 rfl 5 rfl ?_
  refine pt_imul (pc' := 220) C dX7_passing_219 rfl ?_
  refine pt_cvI0 (pc' := 223) (w1 := wM cA aM th n it k td gn dr wk sv P sd se (goMc sd (P 4) ((itf (psM true h kk sd (P 4) (P 1) le (P 3)) 1 (n - 1) (sc, ba, pa, flN n 0 mo)).1) 0 (kk * h)) ((itf (psM true h kk sd (P 4) (P 1) le (P 3)) 1 (n - 1) (sc, ba, pa, flN n 0 mo)).2.1) ((itf (psM true h kk sd (P 4) (P 1) le (P 3)) 1 (n - 1) (sc, ba, pa, flN n 0 mo)).2.2.1) le ((itf (psM true h kk sd (P 4) (P 1) le (P 3)) 1 (n - 1) (sc, ba, pa, flN n 0 mo)).2.2.2)) (As := [.int (nI 0), .int (kk * h)]) (rest := []) C (mX7_goesOut l D cA aM th n it k td gn dr wk sv P sd se ((itf (psM true h kk sd (P 4) (P 1) le (P 3)) 1 (n - 1) (sc, ba, pa, flN n 0 mo)).1) ((itf (psM true h kk sd (P 4) (P 1) le (P 3)) 1 (n - 1) (sc, ba, pa, flN n 0 mo)).2.1) ((itf (psM true h kk sd (P 4) (P 1) le (P 3)) 1 (n - 1) (sc, ba, pa, flN n 0 mo)).2.2.1) le ((itf (psM true h kk sd (P 4) (P 1) le (P 3)) 1 (n - 1) (sc, ba, pa, flN n 0 mo)).2.2.2) 0 (kk * h) (by first | assumption | omega)) (cwV 2 C.hts gX7_passing_X7_goesOut rfl rfl rfl (by decide +kernel) ⟨Nat.le_of_ble_eq_true rfl, Nat.le_of_ble_eq_true rfl⟩) dX7_passing_220 rfl 0 rfl rfl rfl rfl rfl (Nat.le_of_ble_eq_true rfl) ⟨Nat.le_of_ble_eq_true rfl, Nat.le_of_ble_eq_true rfl⟩ ?_
  refine pt_istore (pc' := 225) (lv' := [(8, .int (goM sd (P 4) 0 (kk * h))), (7, .int (((kk * h) * ((P 5) 1)) / 100)), (6, .int (nI 0)), (5, .int (nI (n - 1))), (4, .int (-1)), (0, .ref (aM 0)), (1, .int h), (2, .int 1), (3, .int kk)]) C dX7_passing_223 rfl (by decide) rfl ?_
  refine pt_aload_n (pc' := 226) C dX7_passing_225 rfl 5 rfl ?_
  refine pt_get (pc' := 229) C in_7 dX7_passing_226 rfl 0 25 rfl rfl (by decide) f_74 rfl ?_
  refine pt_iload (pc' := 231) C dX7_passing_229 rfl 3 rfl ?_
  refine pt_dup2 (pc' := 232) C dX7_passing_231 rfl rfl rfl ?_
  refine pt_iald (pc' := 233) C dX7_passing_232 rfl 19 rfl rfl (n - 1) (rfl) (by omega) (by decide) ?_
  refine pt_iload (pc' := 235) C dX7_passing_233 rfl 1 rfl ?_
  refine pt_iadd (pc' := 236) C dX7_passing_235 rfl ?_
  refine pt_iast (pc' := 237) (ws' := wM cA aM th n it k td gn dr wk sv P sd se (goMc sd (P 4) ((itf (psM true h kk sd (P 4) (P 1) le (P 3)) 1 (n - 1) (sc, ba, pa, flN n 0 mo)).1) 0 (kk * h)) ((itf (psM true h kk sd (P 4) (P 1) le (P 3)) 1 (n - 1) (sc, ba, pa, flN n 0 mo)).2.1) ((itf (psM true h kk sd (P 4) (P 1) le (P 3)) 1 (n - 1) (sc, ba, pa, flN n 0 mo)).2.2.1) le (upd ((itf (psM true h kk sd (P 4) (P 1) le (P 3)) 1 (n - 1) (sc, ba, pa, flN n 0 mo)).2.2.2) (n - 1) ((((itf (psM true h kk sd (P 4) (P 1) le (P 3)) 1 (n - 1) (sc, ba, pa, flN n 0 mo)).2.2.2) (n - 1)) + (((kk * h) * ((P 5) 1)) / 100)))) C dX7_passing_236 rfl 19 rfl rfl (n - 1) (rfl) (by omega) (by decide) rfl ?_
  refine pt_aload_n (pc' := 238) C dX7_passing_237 rfl 5 rfl ?_
  refine pt_get (pc' := 241) C in_7 dX7_passing_238 rfl 0 25 rfl rfl (by decide) f_74 rfl ?_
  refine pt_iload (pc' := 243) C dX7_passing_241 rfl 2 rfl ?_
  refine pt_dup2 (pc' := 244) C dX7_passing_243 rfl rfl rfl ?_
  refine pt_iald (pc' := 245) C dX7_passing_244 rfl 19 rfl rfl 0 (rfl) (by omega) (by decide) ?_
  refine pt_iload (pc' := 247) C dX7_passing_245 rfl 0 rfl ?_
  refine pt_isub (pc' := 248) C dX7_passing_247 rfl ?_
  refine pt_iast (pc' := 249) (ws' := wM cA aM th n it k td gn dr wk sv P sd se (goMc sd (P 4) ((itf (psM true h kk sd (P 4) (P 1) le (P 3)) 1 (n - 1) (sc, ba, pa, flN n 0 mo)).1) 0 (kk * h)) ((itf (psM true h kk sd (P 4) (P 1) le (P 3)) 1 (n - 1) (sc, ba, pa, flN n 0 mo)).2.1) ((itf (psM true h kk sd (P 4) (P 1) le (P 3)) 1 (n - 1) (sc, ba, pa, flN n 0 mo)).2.2.1) le (upd (upd ((itf (psM true h kk sd (P 4) (P 1) le (P 3)) 1 (n - 1) (sc, ba, pa, flN n 0 mo)).2.2.2) (n - 1) ((((itf (psM true h kk sd (P 4) (P 1) le (P 3)) 1 (n - 1) (sc, ba, pa, flN n 0 mo)).2.2.2) (n - 1)) + (((kk * h) * ((P 5) 1)) / 100))) 0 (((upd ((itf (psM true h kk sd (P 4) (P 1) le (P 3)) 1 (n - 1) (sc, ba, pa, flN n 0 mo)).2.2.2) (n - 1) ((((itf (psM true h kk sd (P 4) (P 1) le (P 3)) 1 (n - 1) (sc, ba, pa, flN n 0 mo)).2.2.2) (n - 1)) + (((kk * h) * ((P 5) 1)) / 100))) 0) - (goM sd (P 4) 0 (kk * h))))) C dX7_passing_248 rfl 19 rfl rfl 0 (rfl) (by omega) (by decide) rfl ?_
  refine pt_aload_n (pc' := 250) C dX7_passing_249 rfl 5 rfl ?_
  refine pt_get (pc' := 253) C in_7 dX7_passing_250 rfl 0 23 rfl rfl (by decide) f_68 rfl ?_
  refine pt_iload_n (pc' := 254) C dX7_passing_253 rfl 7 rfl ?_
  refine pt_if_ne (pc' := 257) (tgt := 261) C dX7_passing_254 (by decide) rfl (fun h_254 => ?_) (fun h_254 => absurd h_254 (by decide))
  refine pt_aload_n (pc' := 262) C dX7_passing_261 rfl 5 rfl ?_
  refine pt_get (pc' := 265) C in_7 dX7_passing_262 rfl 0 1 rfl rfl (by decide) f_13 rfl ?_
  refine pt_iload (pc' := 267) C dX7_passing_265 rfl 4 rfl ?_
  refine pt_iload (pc' := 269) C dX7_passing_267 rfl 1 rfl ?_
  refine pt_imul (pc' := 270) C dX7_passing_269 rfl ?_
  refine pt_iast (pc' := 271) (ws' := wM cA aM th n it k td gn dr wk sv P sd se (goMc sd (P 4) ((itf (psM true h kk sd (P 4) (P 1) le (P 3)) 1 (n - 1) (sc, ba, pa, flN n 0 mo)).1) 0 (kk * h)) ((itf (psM true h kk sd (P 4) (P 1) le (P 3)) 1 (n - 1) (sc, ba, pa, flN n 0 mo)).2.1) (upd ((itf (psM true h kk sd (P 4) (P 1) le (P 3)) 1 (n - 1) (sc, ba, pa, flN n 0 mo)).2.2.1) n ((-1) * (((kk * h) * ((P 5) 1)) / 100))) le (upd (upd ((itf (psM true h kk sd (P 4) (P 1) le (P 3)) 1 (n - 1) (sc, ba, pa, flN n 0 mo)).2.2.2) (n - 1) ((((itf (psM true h kk sd (P 4) (P 1) le (P 3)) 1 (n - 1) (sc, ba, pa, flN n 0 mo)).2.2.2) (n - 1)) + (((kk * h) * ((P 5) 1)) / 100))) 0 (((upd ((itf (psM true h kk sd (P 4) (P 1) le (P 3)) 1 (n - 1) (sc, ba, pa, flN n 0 mo)).2.2.2) (n - 1) ((((itf (psM true h kk sd (P 4) (P 1) le (P 3)) 1 (n - 1) (sc, ba, pa, flN n 0 mo)).2.2.2) (n - 1)) + (((kk * h) * ((P 5) 1)) / 100))) 0) - (goM sd (P 4) 0 (kk * h))))) C dX7_passing_270 rfl 17 rfl rfl n (rfl) (by omega) (by decide) rfl ?_
  refine pt_aload_n (pc' := 272) C dX7_passing_271 rfl 5 rfl ?_
  refine pt_get (pc' := 275) C in_7 dX7_passing_272 rfl 0 23 rfl rfl (by decide) f_68 rfl ?_
  refine pt_iload_n (pc' := 276) C dX7_passing_275 rfl 7 rfl ?_
  refine pt_if_ne (pc' := 279) (tgt := 286) C dX7_passing_276 (by decide) rfl (fun h_276 => ?_) (fun h_276 => absurd h_276 (by decide))
  refine pt_iconst (pc' := 287) C dX7_passing_286 rfl (v := 0) (by decide) ?_
  refine pt_iload (pc' := 289) C dX7_passing_287 rfl 4 rfl ?_
  refine pt_iload (pc' := 291) C dX7_passing_289 rfl 0 rfl ?_
  refine pt_imul (pc' := 292) C dX7_passing_291 rfl ?_
  refine pt_iast (pc' := 293) (ws' := wM cA aM th n it k td gn dr wk sv P sd se (goMc sd (P 4) ((itf (psM true h kk sd (P 4) (P 1) le (P 3)) 1 (n - 1) (sc, ba, pa, flN n 0 mo)).1) 0 (kk * h)) ((itf (psM true h kk sd (P 4) (P 1) le (P 3)) 1 (n - 1) (sc, ba, pa, flN n 0 mo)).2.1) (upd (upd ((itf (psM true h kk sd (P 4) (P 1) le (P 3)) 1 (n - 1) (sc, ba, pa, flN n 0 mo)).2.2.1) n ((-1) * (((kk * h) * ((P 5) 1)) / 100))) 0 ((-1) * (goM sd (P 4) 0 (kk * h)))) le (upd (upd ((itf (psM true h kk sd (P 4) (P 1) le (P 3)) 1 (n - 1) (sc, ba, pa, flN n 0 mo)).2.2.2) (n - 1) ((((itf (psM true h kk sd (P 4) (P 1) le (P 3)) 1 (n - 1) (sc, ba, pa, flN n 0 mo)).2.2.2) (n - 1)) + (((kk * h) * ((P 5) 1)) / 100))) 0 (((upd ((itf (psM true h kk sd (P 4) (P 1) le (P 3)) 1 (n - 1) (sc, ba, pa, flN n 0 mo)).2.2.2) (n - 1) ((((itf (psM true h kk sd (P 4) (P 1) le (P 3)) 1 (n - 1) (sc, ba, pa, flN n 0 mo)).2.2.2) (n - 1)) + (((kk * h) * ((P 5) 1)) / 100))) 0) - (goM sd (P 4) 0 (kk * h))))) C dX7_passing_292 rfl 17 rfl rfl 0 (rfl) (by omega) (by decide) rfl ?_
  refine pt_iconst (pc' := 294) C dX7_passing_293 rfl (v := 0) (by decide) ?_
  refine pt_istore (pc' := 296) (lv' := [(9, .int 0), (8, .int (goM sd (P 4) 0 (kk * h))), (7, .int (((kk * h) * ((P 5) 1)) / 100)), (6, .int (nI 0)), (5, .int (nI (n - 1))), (4, .int (-1)), (0, .ref (aM 0)), (1, .int h), (2, .int 1), (3, .int kk)]) C dX7_passing_294 rfl (by decide) rfl ?_
  refine pt_cv (ws' := wM cA aM th n it k td gn dr wk sv P (adM 0 sd (paM true n h kk sd (P 4) (P 5) (P 1) le (P 3) (sc, ba, pa, mo)).2.2.2) se ((paM true n h kk sd (P 4) (P 5) (P 1) le (P 3) (sc, ba, pa, mo)).1) ((paM true n h kk sd (P 4) (P 5) (P 1) le (P 3) (sc, ba, pa, mo)).2.1) ((paM true n h kk sd (P 4) (P 5) (P 1) le (P 3) (sc, ba, pa, mo)).2.2.1) le ((paM true n h kk sd (P 4) (P 5) (P 1) le (P 3) (sc, ba, pa, mo)).2.2.2)) (lv' := [(9, .int (nI 0)), (8, .int (goM sd (P 4) 0 (kk * h))), (7, .int (((kk * h) * ((P 5) 1)) / 100)), (6, .int (nI 0)), (5, .int (nI (n - 1))), (4, .int (-1)), (0, .ref (aM 0)), (1, .int h), (2, .int 1), (3, .int kk)]) (by rw [adM, mapN_0]; rfl) [0, 1, 2, 3, 4, 5, 6, 7, 8, 9] (rfl) rfl ?_
  refine pt_for (wsf := fun j => wM cA aM th n it k td gn dr wk sv P (adM j sd (paM true n h kk sd (P 4) (P 5) (P 1) le (P 3) (sc, ba, pa, mo)).2.2.2) se ((paM true n h kk sd (P 4) (P 5) (P 1) le (P 3) (sc, ba, pa, mo)).1) ((paM true n h kk sd (P 4) (P 5) (P 1) le (P 3) (sc, ba, pa, mo)).2.1) ((paM true n h kk sd (P 4) (P 5) (P 1) le (P 3) (sc, ba, pa, mo)).2.2.1) le ((paM true n h kk sd (P 4) (P 5) (P 1) le (P 3) (sc, ba, pa, mo)).2.2.2)) (lvf := fun j => [(9, .int (nI j)), (8, .int (goM sd (P 4) 0 (kk * h))), (7, .int (((kk * h) * ((P 5) 1)) / 100)), (6, .int (nI 0)), (5, .int (nI (n - 1))), (4, .int (-1)), (0, .ref (aM 0)), (1, .int h), (2, .int 1), (3, .int kk)]) n ?_ (fun j hj_296 ih_296 => ?_)
  rotate_left
  · refine pt_iload (pc' := 298) C dX7_passing_296 rfl 0 rfl ?_
    refine pt_aload_n (pc' := 299) C dX7_passing_298 rfl 6 rfl ?_
    refine pt_get (pc' := 302) C in_7 dX7_passing_299 rfl 0 1 rfl rfl (by decide) f_13 rfl ?_
    refine pt_icmp_ge (pc' := 305) (tgt := 324) C dX7_passing_302 (by decide) rfl (fun h_302 => absurd h_302 (nI_ge hj_296 (by omega))) (fun h_302 => ?_)
    refine pt_aload_n (pc' := 306) C dX7_passing_305 rfl 6 rfl ?_
    refine pt_iload (pc' := 308) C dX7_passing_306 rfl 0 rfl ?_
    refine pt_aload_n (pc' := 309) C dX7_passing_308 rfl 6 rfl ?_
    refine pt_get (pc' := 312) C in_7 dX7_passing_309 rfl 0 25 rfl rfl (by decide) f_74 rfl ?_
    refine pt_iload (pc' := 314) C dX7_passing_312 rfl 0 rfl ?_
    refine pt_iald (pc' := 315) C dX7_passing_314 rfl 19 rfl rfl j (rfl) (by omega) (by decide) ?_
    refine pt_cvV0 (pc' := 318) (w1 := wM cA aM th n it k td gn dr wk sv P (brM (adM j sd (paM true n h kk sd (P 4) (P 5) (P 1) le (P 3) (sc, ba, pa, mo)).2.2.2) j (((paM true n h kk sd (P 4) (P 5) (P 1) le (P 3) (sc, ba, pa, mo)).2.2.2) j)) se ((paM true n h kk sd (P 4) (P 5) (P 1) le (P 3) (sc, ba, pa, mo)).1) ((paM true n h kk sd (P 4) (P 5) (P 1) le (P 3) (sc, ba, pa, mo)).2.1) ((paM true n h kk sd (P 4) (P 5) (P 1) le (P 3) (sc, ba, pa, mo)).2.2.1) le ((paM true n h kk sd (P 4) (P 5) (P 1) le (P 3) (sc, ba, pa, mo)).2.2.2)) (As := [.int (nI j), .int (((paM true n h kk sd (P 4) (P 5) (P 1) le (P 3) (sc, ba, pa, mo)).2.2.2) j)]) (rest := []) C (mX7_brings l D cA aM th n it k td gn dr wk sv P (adM j sd (paM true n h kk sd (P 4) (P 5) (P 1) le (P 3) (sc, ba, pa, mo)).2.2.2) se ((paM true n h kk sd (P 4) (P 5) (P 1) le (P 3) (sc, ba, pa, mo)).1) ((paM true n h kk sd (P 4) (P 5) (P 1) le (P 3) (sc, ba, pa, mo)).2.1) ((paM true n h kk sd (P 4) (P 5) (P 1) le (P 3) (sc, ba, pa, mo)).2.2.1) le ((paM true n h kk sd (P 4) (P 5) (P 1) le (P 3) (sc, ba, pa, mo)).2.2.2) j (((paM true n h kk sd (P 4) (P 5) (P 1) le (P 3) (sc, ba, pa, mo)).2.2.2) j) (by first | assumption | omega)) (cwV 2 C.hts gX7_passing_X7_brings rfl rfl rfl (by decide +kernel) ⟨Nat.le_of_ble_eq_true rfl, Nat.le_of_ble_eq_true rfl⟩) dX7_passing_315 rfl 0 rfl rfl rfl rfl rfl (Nat.le_of_ble_eq_true rfl) ⟨Nat.le_of_ble_eq_true rfl, Nat.le_of_ble_eq_true rfl⟩ ?_
    refine pt_iinc (pc' := 321) (v := nI (j + 1)) (lv' := [(9, .int (nI (j + 1))), (8, .int (goM sd (P 4) 0 (kk * h))), (7, .int (((kk * h) * ((P 5) 1)) / 100)), (6, .int (nI 0)), (5, .int (nI (n - 1))), (4, .int (-1)), (0, .ref (aM 0)), (1, .int h), (2, .int 1), (3, .int kk)]) C dX7_passing_318 rfl 0 rfl (nI_1 _) (by decide) rfl ?_
    refine pt_goto (pc' := 296) C dX7_passing_321 (by decide) ?_
    exact pt_cv (by rw [brM, adM, mapN_s _ _ _ (by rw [mapN_at]), ← adM]) [0, 1, 2, 3, 4, 5, 6, 7, 8, 9] (rfl) rfl ih_296
  refine pt_iload (pc' := 298) C dX7_passing_296 rfl 0 rfl ?_
  refine pt_aload_n (pc' := 299) C dX7_passing_298 rfl 6 rfl ?_
  refine pt_get (pc' := 302) C in_7 dX7_passing_299 rfl 0 1 rfl rfl (by decide) f_13 rfl ?_
  refine pt_icmp_ge (pc' := 305) (tgt := 324) C dX7_passing_302 (by decide) rfl (fun h_302 => ?_) (fun h_302 => absurd (nI_le (Nat.le_refl n) (by omega)) h_302)
  exact pt_vret C hr hk dX7_passing_324 (rfl)
