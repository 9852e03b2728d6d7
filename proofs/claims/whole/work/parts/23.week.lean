set_option maxHeartbeats 4000000 in
set_option maxRecDepth 100000 in
theorem cX7_week_0 (l : Launch) (D : va_G) (cA : ClassId) (aM : Nat → Nat) (th : Int32) (n : Nat) (it : Int32) (k : Int32) (td : Nat) (gn : Nat) (dr : Nat) (wk : Nat) (sv : Nat) (P : Nat → Nat → Int32) (sd : Nat → Int32) (se : Nat → Int32) (sc : Nat → Int32) (ba : Nat → Int32) (pa : Nat → Int32) (le : Nat → Int32) (mo : Nat → Int32) (w : Nat) (kk : Int32) (hn : 2 ≤ n) (hm : n ≤ 12) (hw : w < 120) (hs : P 7 w = 0) : mt_V l yX7_week wsX7_week { frames := 4, cells := 0, slots := 0, locals := 102 } D [(cA, .int)] [.ref (aM 0), .int (nI w), .int kk] (wM cA aM th n it k td gn dr wk sv P sd se sc ba pa le mo) (wM cA aM th n it k td gn dr wk sv P (mapN n (s2M (P 6 w) (adM n sd (paM false n (P 6 w) kk sd (P 4) (P 5) (P 1) le (P 3) (sc, ba, (fun _ => 0), mo)).2.2.2) (P 4) se) (adM n sd (paM false n (P 6 w) kk sd (P 4) (P 5) (P 1) le (P 3) (sc, ba, (fun _ => 0), mo)).2.2.2)) (mapN n (e2M (P 6 w) (adM n sd (paM false n (P 6 w) kk sd (P 4) (P 5) (P 1) le (P 3) (sc, ba, (fun _ => 0), mo)).2.2.2) (P 4) se) se) ((paM false n (P 6 w) kk sd (P 4) (P 5) (P 1) le (P 3) (sc, ba, (fun _ => 0), mo)).1) ((paM false n (P 6 w) kk sd (P 4) (P 5) (P 1) le (P 3) (sc, ba, (fun _ => 0), mo)).2.1) ((paM false n (P 6 w) kk sd (P 4) (P 5) (P 1) le (P 3) (sc, ba, (fun _ => 0), mo)).2.2.1) le ((paM false n (P 6 w) kk sd (P 4) (P 5) (P 1) le (P 3) (sc, ba, (fun _ => 0), mo)).2.2.2)) := by
  refine mt_ofV (cc := cX7_week) (maxL := 6) (ret := none) (lv := [(0, .ref (aM 0)), (1, .int (nI w)), (2, .int kk)]) (by decide) rfl (Nat.le_of_ble_eq_true rfl) rfl ?_
  intro p e s m args below meth c A C hr hk
  have f_38 := C.hts (.fieldLink RX7 38 "ShoreFieldsModel" "height" "[I") (by decide +kernel)
  have in_7 : ∀ w ∈ u_ws RX7 TX7 37, w ∈ wsX7_week := by decide +kernel
  have f_68 := C.hts (.fieldLink RX7 68 "ShoreFieldsModel" "passed" "[I") (by decide +kernel)
  have f_41 := C.hts (.fieldLink RX7 41 "ShoreFieldsModel" "side" "[I") (by decide +kernel)
  have f_13 := C.hts (.fieldLink RX7 13 "ShoreFieldsModel" "fields" "I") (by decide +kernel)
  have f_59 := C.hts (.fieldLink RX7 59 "ShoreFieldsModel" "sea" "[I") (by decide +kernel)
  have f_56 := C.hts (.fieldLink RX7 56 "ShoreFieldsModel" "sand" "[I") (by decide +kernel)
  refine pt_aload_n (pc' := 1) C dX7_week_0 rfl 0 rfl ?_
  refine pt_get (pc' := 4) C in_7 dX7_week_1 rfl 0 11 rfl rfl (by decide) f_38 rfl ?_
  refine pt_iload_n (pc' := 5) C dX7_week_4 rfl 1 rfl ?_
  refine pt_iald (pc' := 6) C dX7_week_5 rfl 7 rfl rfl w (rfl) (by omega) (by decide) ?_
  refine pt_istore_n (pc' := 7) (lv' := [(3, .int ((P 6) w)), (0, .ref (aM 0)), (1, .int (nI w)), (2, .int kk)]) C dX7_week_6 rfl rfl (by decide) rfl ?_
  refine pt_iconst (pc' := 8) C dX7_week_7 rfl (v := 0) (by decide) ?_
  refine pt_istore (pc' := 10) (lv' := [(4, .int 0), (3, .int ((P 6) w)), (0, .ref (aM 0)), (1, .int (nI w)), (2, .int kk)]) C dX7_week_8 rfl (by decide) rfl ?_
  refine pt_cv (ws' := wM cA aM th n it k td gn dr wk sv P sd se sc ba (flN 0 0 pa) le mo) (lv' := [(4, .int (nI 0)), (3, .int ((P 6) w)), (0, .ref (aM 0)), (1, .int (nI w)), (2, .int kk)]) (by rw [flN_0]) [0, 1, 2, 3, 4] (rfl) rfl ?_
  refine pt_for (wsf := fun j => wM cA aM th n it k td gn dr wk sv P sd se sc ba (flN j 0 pa) le mo) (lvf := fun j => [(4, .int (nI j)), (3, .int ((P 6) w)), (0, .ref (aM 0)), (1, .int (nI w)), (2, .int kk)]) 13 ?_ (fun j hj_10 ih_10 => ?_)
  rotate_left
  · refine pt_iload (pc' := 12) C dX7_week_10 rfl 0 rfl ?_
    refine pt_bipush (pc' := 14) C dX7_week_12 rfl (v := 13) (by decide) ?_
    refine pt_icmp_ge (pc' := 17) (tgt := 31) C dX7_week_14 (by decide) rfl (fun h_14 => absurd h_14 (nI_ge hj_10 (by decide))) (fun h_14 => ?_)
    refine pt_aload_n (pc' := 18) C dX7_week_17 rfl 2 rfl ?_
    refine pt_get (pc' := 21) C in_7 dX7_week_18 rfl 0 23 rfl rfl (by decide) f_68 rfl ?_
    refine pt_iload (pc' := 23) C dX7_week_21 rfl 0 rfl ?_
    refine pt_iconst (pc' := 24) C dX7_week_23 rfl (v := 0) (by decide) ?_
    refine pt_iast (pc' := 25) (ws' := wM cA aM th n it k td gn dr wk sv P sd se sc ba (upd (flN j 0 pa) j 0) le mo) C dX7_week_24 rfl 17 rfl rfl j (rfl) (by omega) (by decide) rfl ?_
    refine pt_iinc (pc' := 28) (v := nI (j + 1)) (lv' := [(4, .int (nI (j + 1))), (3, .int ((P 6) w)), (0, .ref (aM 0)), (1, .int (nI w)), (2, .int kk)]) C dX7_week_25 rfl 0 rfl (nI_1 _) (by decide) rfl ?_
    refine pt_goto (pc' := 10) C dX7_week_28 (by decide) ?_
    exact pt_cv (by rw [flN_s]) [0, 1, 2, 3, 4] (rfl) rfl ih_10
  refine pt_iload (pc' := 12) C dX7_week_10 rfl 0 rfl ?_
  refine pt_bipush (pc' := 14) C dX7_week_12 rfl (v := 13) (by decide) ?_
  refine pt_icmp_ge (pc' := 17) (tgt := 31) C dX7_week_14 (by decide) rfl (fun h_14 => ?_) (fun h_14 => absurd (nI_le (Nat.le_refl 13) (by decide)) h_14)
  refine pt_ext (ws' := wM cA aM th n it k td gn dr wk sv P sd se sc ba (fun _ => 0) le mo) (fun _ => 0) 17 rfl (fun j hj => by simp only [flN, if_pos hj]) rfl ?_
  refine pt_aload_n (pc' := 32) C dX7_week_31 rfl 2 rfl ?_
  refine pt_get (pc' := 35) C in_7 dX7_week_32 rfl 0 12 rfl rfl (by decide) f_41 rfl ?_
  refine pt_iload_n (pc' := 36) C dX7_week_35 rfl 3 rfl ?_
  refine pt_iald (pc' := 37) C dX7_week_36 rfl 8 rfl rfl w (rfl) (by omega) (by decide) ?_
  refine pt_eq (st' := [.int 0]) rfl rfl (by rw [hs]) ?_
  refine pt_iconst (pc' := 38) C dX7_week_37 rfl (v := 2) (by decide) ?_
  refine pt_icmp_ge (pc' := 41) (tgt := 53) C dX7_week_38 (by decide) rfl (fun h_38 => absurd h_38 (by decide)) (fun h_38 => ?_)
  refine pt_aload_n (pc' := 42) C dX7_week_41 rfl 2 rfl ?_
  refine pt_iload_n (pc' := 43) C dX7_week_42 rfl 1 rfl ?_
  refine pt_aload_n (pc' := 44) C dX7_week_43 rfl 2 rfl ?_
  refine pt_get (pc' := 47) C in_7 dX7_week_44 rfl 0 12 rfl rfl (by decide) f_41 rfl ?_
  refine pt_iload_n (pc' := 48) C dX7_week_47 rfl 3 rfl ?_
  refine pt_iald (pc' := 49) C dX7_week_48 rfl 8 rfl rfl w (rfl) (by omega) (by decide) ?_
  refine pt_eq (st' := [.int 0, .int ((P 6) w), .ref (aM 0)]) rfl rfl (by rw [hs]) ?_
  refine pt_iload_n (pc' := 50) C dX7_week_49 rfl 4 rfl ?_
  refine pt_cvV0 (pc' := 53) (w1 := wM cA aM th n it k td gn dr wk sv P (adM n sd (paM false n ((P 6) w) kk sd (P 4) (P 5) (P 1) le (P 3) (sc, ba, (fun _ => 0), mo)).2.2.2) se ((paM false n ((P 6) w) kk sd (P 4) (P 5) (P 1) le (P 3) (sc, ba, (fun _ => 0), mo)).1) ((paM false n ((P 6) w) kk sd (P 4) (P 5) (P 1) le (P 3) (sc, ba, (fun _ => 0), mo)).2.1) ((paM false n ((P 6) w) kk sd (P 4) (P 5) (P 1) le (P 3) (sc, ba, (fun _ => 0), mo)).2.2.1) le ((paM false n ((P 6) w) kk sd (P 4) (P 5) (P 1) le (P 3) (sc, ba, (fun _ => 0), mo)).2.2.2)) (As := [.int ((P 6) w), .int 0, .int kk]) (rest := []) C (cX7_passing_L l D cA aM th n it k td gn dr wk sv P sd se sc ba (fun _ => 0) le mo ((P 6) w) kk (by first | assumption | omega) (by first | assumption | omega)) (cwV 3 C.hts gX7_week_X7_passing rfl rfl rfl (by decide +kernel) ⟨Nat.le_of_ble_eq_true rfl, Nat.le_of_ble_eq_true rfl⟩) dX7_week_50 rfl 0 rfl rfl rfl rfl rfl (Nat.le_of_ble_eq_true rfl) ⟨Nat.le_of_ble_eq_true rfl, Nat.le_of_ble_eq_true rfl⟩ ?_
  refine pt_iconst (pc' := 54) C dX7_week_53 rfl (v := 0) (by decide) ?_
  refine pt_istore (pc' := 56) (lv' := [(4, .int 0), (3, .int ((P 6) w)), (0, .ref (aM 0)), (1, .int (nI w)), (2, .int kk)]) C dX7_week_54 rfl (by decide) rfl ?_
  refine pt_cv (ws' := wM cA aM th n it k td gn dr wk sv P (mapN 0 (s2M (P 6 w) (adM n sd (paM false n (P 6 w) kk sd (P 4) (P 5) (P 1) le (P 3) (sc, ba, (fun _ => 0), mo)).2.2.2) (P 4) se) (adM n sd (paM false n (P 6 w) kk sd (P 4) (P 5) (P 1) le (P 3) (sc, ba, (fun _ => 0), mo)).2.2.2)) (mapN 0 (e2M (P 6 w) (adM n sd (paM false n (P 6 w) kk sd (P 4) (P 5) (P 1) le (P 3) (sc, ba, (fun _ => 0), mo)).2.2.2) (P 4) se) se) ((paM false n ((P 6) w) kk sd (P 4) (P 5) (P 1) le (P 3) (sc, ba, (fun _ => 0), mo)).1) ((paM false n ((P 6) w) kk sd (P 4) (P 5) (P 1) le (P 3) (sc, ba, (fun _ => 0), mo)).2.1) ((paM false n ((P 6) w) kk sd (P 4) (P 5) (P 1) le (P 3) (sc, ba, (fun _ => 0), mo)).2.2.1) le ((paM false n ((P 6) w) kk sd (P 4) (P 5) (P 1) le (P 3) (sc, ba, (fun _ => 0), mo)).2.2.2)) (lv' := [(4, .int (nI 0)), (3, .int ((P 6) w)), (0, .ref (aM 0)), (1, .int (nI w)), (2, .int kk)]) (by rw [mapN_0, mapN_0]) [0, 1, 2, 3, 4] (rfl) rfl ?_
  refine pt_for (wsf := fun j => wM cA aM th n it k td gn dr wk sv P (mapN j (s2M (P 6 w) (adM n sd (paM false n (P 6 w) kk sd (P 4) (P 5) (P 1) le (P 3) (sc, ba, (fun _ => 0), mo)).2.2.2) (P 4) se) (adM n sd (paM false n (P 6 w) kk sd (P 4) (P 5) (P 1) le (P 3) (sc, ba, (fun _ => 0), mo)).2.2.2)) (mapN j (e2M (P 6 w) (adM n sd (paM false n (P 6 w) kk sd (P 4) (P 5) (P 1) le (P 3) (sc, ba, (fun _ => 0), mo)).2.2.2) (P 4) se) se) ((paM false n ((P 6) w) kk sd (P 4) (P 5) (P 1) le (P 3) (sc, ba, (fun _ => 0), mo)).1) ((paM false n ((P 6) w) kk sd (P 4) (P 5) (P 1) le (P 3) (sc, ba, (fun _ => 0), mo)).2.1) ((paM false n ((P 6) w) kk sd (P 4) (P 5) (P 1) le (P 3) (sc, ba, (fun _ => 0), mo)).2.2.1) le ((paM false n ((P 6) w) kk sd (P 4) (P 5) (P 1) le (P 3) (sc, ba, (fun _ => 0), mo)).2.2.2)) (lvf := fun j => [(4, .int (nI j)), (3, .int ((P 6) w)), (0, .ref (aM 0)), (1, .int (nI w)), (2, .int kk)]) n ?_ (fun j hj_56 ih_56 => ?_)
  rotate_left
  · refine pt_iload (pc' := 58) C dX7_week_56 rfl 0 rfl ?_
    refine pt_aload_n (pc' := 59) C dX7_week_58 rfl 2 rfl ?_
    refine pt_get (pc' := 62) C in_7 dX7_week_59 rfl 0 1 rfl rfl (by decide) f_13 rfl ?_
    refine pt_icmp_ge (pc' := 65) (tgt := 168) C dX7_week_62 (by decide) rfl (fun h_62 => absurd h_62 (nI_ge hj_56 (by omega))) (fun h_62 => ?_)
    refine pt_iload_n (pc' := 66) C dX7_week_65 rfl 1 rfl ?_
    refine pt_bipush (pc' := 68) C dX7_week_66 rfl (v := 7) (by decide) ?_
    refine pt_icmp_lt (pc' := 71) (tgt := 124) C dX7_week_68 (by decide) rfl (fun h_68 => ?_) (fun h_68 => ?_)
    · refine pt_iload_n (pc' := 125) C dX7_week_124 rfl 1 rfl ?_
      refine pt_iconst (pc' := 126) C dX7_week_125 rfl (v := 2) (by decide) ?_
      refine pt_icmp_gt (pc' := 129) (tgt := 162) C dX7_week_126 (by decide) rfl (fun h_126 => ?_) (fun h_126 => ?_)
      · refine pt_iinc (pc' := 165) (v := nI (j + 1)) (lv' := [(4, .int (nI (j + 1))), (3, .int ((P 6) w)), (0, .ref (aM 0)), (1, .int (nI w)), (2, .int kk)]) C dX7_week_162 rfl 0 rfl (nI_1 _) (by decide) rfl ?_
        refine pt_goto (pc' := 56) C dX7_week_165 (by decide) ?_
        exact pt_cv (by rw [mapN_k j (s2M (P 6 w) (adM n sd (paM false n (P 6 w) kk sd (P 4) (P 5) (P 1) le (P 3) (sc, ba, (fun _ => 0), mo)).2.2.2) (P 4) se) (adM n sd (paM false n (P 6 w) kk sd (P 4) (P 5) (P 1) le (P 3) (sc, ba, (fun _ => 0), mo)).2.2.2) (by simp only [s2M, if_pos h_68, if_pos h_126]), mapN_k j (e2M (P 6 w) (adM n sd (paM false n (P 6 w) kk sd (P 4) (P 5) (P 1) le (P 3) (sc, ba, (fun _ => 0), mo)).2.2.2) (P 4) se) se (by simp only [e2M, if_pos h_68, if_pos h_126])]) [0, 1, 2, 3, 4] (rfl) rfl ih_56
      · refine pt_aload_n (pc' := 130) C dX7_week_129 rfl 2 rfl ?_
        refine pt_get (pc' := 133) C in_7 dX7_week_130 rfl 0 20 rfl rfl (by decide) f_59 rfl ?_
        refine pt_iload (pc' := 135) C dX7_week_133 rfl 0 rfl ?_
        refine pt_iald (pc' := 136) C dX7_week_135 rfl 14 rfl rfl j (rfl) (by omega) (by decide) ?_
        refine pt_iconst (pc' := 137) C dX7_week_136 rfl (v := 3) (by decide) ?_
        refine pt_iadd (pc' := 138) C dX7_week_137 rfl ?_
        refine pt_iconst (pc' := 139) C dX7_week_138 rfl (v := 4) (by decide) ?_
        refine pt_idiv (pc' := 140) C dX7_week_139 rfl (by decide) ?_
        refine pt_istore (pc' := 142) (lv' := [(5, .int ((((mapN j (e2M (P 6 w) (adM n sd (paM false n (P 6 w) kk sd (P 4) (P 5) (P 1) le (P 3) (sc, ba, (fun _ => 0), mo)).2.2.2) (P 4) se) se) j) + 3) / 4)), (4, .int (nI j)), (3, .int ((P 6) w)), (0, .ref (aM 0)), (1, .int (nI w)), (2, .int kk)]) C dX7_week_140 rfl (by decide) rfl ?_
        refine pt_aload_n (pc' := 143) C dX7_week_142 rfl 3 rfl ?_
        refine pt_get (pc' := 146) C in_7 dX7_week_143 rfl 0 20 rfl rfl (by decide) f_59 rfl ?_
        refine pt_iload (pc' := 148) C dX7_week_146 rfl 1 rfl ?_
        refine pt_dup2 (pc' := 149) C dX7_week_148 rfl rfl rfl ?_
        refine pt_iald (pc' := 150) C dX7_week_149 rfl 14 rfl rfl j (rfl) (by omega) (by decide) ?_
        refine pt_iload (pc' := 152) C dX7_week_150 rfl 0 rfl ?_
        refine pt_isub (pc' := 153) C dX7_week_152 rfl ?_
        refine pt_iast (pc' := 154) (ws' := wM cA aM th n it k td gn dr wk sv P (mapN j (s2M (P 6 w) (adM n sd (paM false n (P 6 w) kk sd (P 4) (P 5) (P 1) le (P 3) (sc, ba, (fun _ => 0), mo)).2.2.2) (P 4) se) (adM n sd (paM false n (P 6 w) kk sd (P 4) (P 5) (P 1) le (P 3) (sc, ba, (fun _ => 0), mo)).2.2.2)) (upd (mapN j (e2M (P 6 w) (adM n sd (paM false n (P 6 w) kk sd (P 4) (P 5) (P 1) le (P 3) (sc, ba, (fun _ => 0), mo)).2.2.2) (P 4) se) se) j (((mapN j (e2M (P 6 w) (adM n sd (paM false n (P 6 w) kk sd (P 4) (P 5) (P 1) le (P 3) (sc, ba, (fun _ => 0), mo)).2.2.2) (P 4) se) se) j) - ((((mapN j (e2M (P 6 w) (adM n sd (paM false n (P 6 w) kk sd (P 4) (P 5) (P 1) le (P 3) (sc, ba, (fun _ => 0), mo)).2.2.2) (P 4) se) se) j) + 3) / 4))) ((paM false n ((P 6) w) kk sd (P 4) (P 5) (P 1) le (P 3) (sc, ba, (fun _ => 0), mo)).1) ((paM false n ((P 6) w) kk sd (P 4) (P 5) (P 1) le (P 3) (sc, ba, (fun _ => 0), mo)).2.1) ((paM false n ((P 6) w) kk sd (P 4) (P 5) (P 1) le (P 3) (sc, ba, (fun _ => 0), mo)).2.2.1) le ((paM false n ((P 6) w) kk sd (P 4) (P 5) (P 1) le (P 3) (sc, ba, (fun _ => 0), mo)).2.2.2)) C dX7_week_153 rfl 14 rfl rfl j (rfl) (by omega) (by decide) rfl ?_
        refine pt_aload_n (pc' := 155) C dX7_week_154 rfl 3 rfl ?_
        refine pt_iload (pc' := 157) C dX7_week_155 rfl 1 rfl ?_
        refine pt_iload (pc' := 159) C dX7_week_157 rfl 0 rfl ?_
        refine pt_cvV0 (pc' := 162) (w1 := wM cA aM th n it k td gn dr wk sv P (brM (mapN j (s2M (P 6 w) (adM n sd (paM false n (P 6 w) kk sd (P 4) (P 5) (P 1) le (P 3) (sc, ba, (fun _ => 0), mo)).2.2.2) (P 4) se) (adM n sd (paM false n (P 6 w) kk sd (P 4) (P 5) (P 1) le (P 3) (sc, ba, (fun _ => 0), mo)).2.2.2)) j ((((mapN j (e2M (P 6 w) (adM n sd (paM false n (P 6 w) kk sd (P 4) (P 5) (P 1) le (P 3) (sc, ba, (fun _ => 0), mo)).2.2.2) (P 4) se) se) j) + 3) / 4)) (upd (mapN j (e2M (P 6 w) (adM n sd (paM false n (P 6 w) kk sd (P 4) (P 5) (P 1) le (P 3) (sc, ba, (fun _ => 0), mo)).2.2.2) (P 4) se) se) j (((mapN j (e2M (P 6 w) (adM n sd (paM false n (P 6 w) kk sd (P 4) (P 5) (P 1) le (P 3) (sc, ba, (fun _ => 0), mo)).2.2.2) (P 4) se) se) j) - ((((mapN j (e2M (P 6 w) (adM n sd (paM false n (P 6 w) kk sd (P 4) (P 5) (P 1) le (P 3) (sc, ba, (fun _ => 0), mo)).2.2.2) (P 4) se) se) j) + 3) / 4))) ((paM false n ((P 6) w) kk sd (P 4) (P 5) (P 1) le (P 3) (sc, ba, (fun _ => 0), mo)).1) ((paM false n ((P 6) w) kk sd (P 4) (P 5) (P 1) le (P 3) (sc, ba, (fun _ => 0), mo)).2.1) ((paM false n ((P 6) w) kk sd (P 4) (P 5) (P 1) le (P 3) (sc, ba, (fun _ => 0), mo)).2.2.1) le ((paM false n ((P 6) w) kk sd (P 4) (P 5) (P 1) le (P 3) (sc, ba, (fun _ => 0), mo)).2.2.2)) (As := [.int (nI j), .int ((((mapN j (e2M (P 6 w) (adM n sd (paM false n (P 6 w) kk sd (P 4) (P 5) (P 1) le (P 3) (sc, ba, (fun _ => 0), mo)).2.2.2) (P 4) se) se) j) + 3) / 4)]) (rest := []) C (mX7_brings l D cA aM th n it k td gn dr wk sv P (mapN j (s2M (P 6 w) (adM n sd (paM false n (P 6 w) kk sd (P 4) (P 5) (P 1) le (P 3) (sc, ba, (fun _ => 0), mo)).2.2.2) (P 4) se) (adM n sd (paM false n (P 6 w) kk sd (P 4) (P 5) (P 1) le (P 3) (sc, ba, (fun _ => 0), mo)).2.2.2)) (upd (mapN j (e2M (P 6 w) (adM n sd (paM false n (P 6 w) kk sd (P 4) (P 5) (P 1) le (P 3) (sc, ba, (fun _ => 0), mo)).2.2.2) (P 4) se) se) j (((mapN j (e2M (P 6 w) (adM n sd (paM false n (P 6 w) kk sd (P 4) (P 5) (P 1) le (P 3) (sc, ba, (fun _ => 0), mo)).2.2.2) (P 4) se) se) j) - ((((mapN j (e2M (P 6 w) (adM n sd (paM false n (P 6 w) kk sd (P 4) (P 5) (P 1) le (P 3) (sc, ba, (fun _ => 0), mo)).2.2.2) (P 4) se) se) j) + 3) / 4))) ((paM false n ((P 6) w) kk sd (P 4) (P 5) (P 1) le (P 3) (sc, ba, (fun _ => 0), mo)).1) ((paM false n ((P 6) w) kk sd (P 4) (P 5) (P 1) le (P 3) (sc, ba, (fun _ => 0), mo)).2.1) ((paM false n ((P 6) w) kk sd (P 4) (P 5) (P 1) le (P 3) (sc, ba, (fun _ => 0), mo)).2.2.1) le ((paM false n ((P 6) w) kk sd (P 4) (P 5) (P 1) le (P 3) (sc, ba, (fun _ => 0), mo)).2.2.2) j ((((mapN j (e2M (P 6 w) (adM n sd (paM false n (P 6 w) kk sd (P 4) (P 5) (P 1) le (P 3) (sc, ba, (fun _ => 0), mo)).2.2.2) (P 4) se) se) j) + 3) / 4) (by first | assumption | omega)) (cwV 2 C.hts gX7_week_X7_brings rfl rfl rfl (by decide +kernel) ⟨Nat.le_of_ble_eq_true rfl, Nat.le_of_ble_eq_true rfl⟩) dX7_week_159 rfl 0 rfl rfl rfl rfl rfl (Nat.le_of_ble_eq_true rfl) ⟨Nat.le_of_ble_eq_true rfl, Nat.le_of_ble_eq_true rfl⟩ ?_
        refine pt_iinc (pc' := 165) (v := nI (j + 1)) (lv' := [(4, .int (nI (j + 1))), (5, .int ((((mapN j (e2M (P 6 w) (adM n sd (paM false n (P 6 w) kk sd (P 4) (P 5) (P 1) le (P 3) (sc, ba, (fun _ => 0), mo)).2.2.2) (P 4) se) se) j) + 3) / 4)), (3, .int ((P 6) w)), (0, .ref (aM 0)), (1, .int (nI w)), (2, .int kk)]) C dX7_week_162 rfl 1 rfl (nI_1 _) (by decide) rfl ?_
        refine pt_goto (pc' := 56) C dX7_week_165 (by decide) ?_
        exact pt_cv (by rw [brM, mapN_s j (s2M (P 6 w) (adM n sd (paM false n (P 6 w) kk sd (P 4) (P 5) (P 1) le (P 3) (sc, ba, (fun _ => 0), mo)).2.2.2) (P 4) se) (adM n sd (paM false n (P 6 w) kk sd (P 4) (P 5) (P 1) le (P 3) (sc, ba, (fun _ => 0), mo)).2.2.2) (by simp only [s2M, mapN_at, if_pos h_68, if_neg h_126]), mapN_s j (e2M (P 6 w) (adM n sd (paM false n (P 6 w) kk sd (P 4) (P 5) (P 1) le (P 3) (sc, ba, (fun _ => 0), mo)).2.2.2) (P 4) se) se (by simp only [e2M, mapN_at, if_pos h_68, if_neg h_126])]) [0, 2, 3, 4, 5] (rfl) rfl ih_56
    · refine pt_iconst (pc' := 72) C dX7_week_71 rfl (v := 3) (by decide) ?_
      refine pt_iload_n (pc' := 73) C dX7_week_72 rfl 1 rfl ?_
      refine pt_imul (pc' := 74) C dX7_week_73 rfl ?_
      refine pt_aload_n (pc' := 75) C dX7_week_74 rfl 2 rfl ?_
      refine pt_iload (pc' := 77) C dX7_week_75 rfl 0 rfl ?_
      refine pt_cvI0 (pc' := 80) (w1 := wM cA aM th n it k td gn dr wk sv P (mapN j (s2M (P 6 w) (adM n sd (paM false n (P 6 w) kk sd (P 4) (P 5) (P 1) le (P 3) (sc, ba, (fun _ => 0), mo)).2.2.2) (P 4) se) (adM n sd (paM false n (P 6 w) kk sd (P 4) (P 5) (P 1) le (P 3) (sc, ba, (fun _ => 0), mo)).2.2.2)) (mapN j (e2M (P 6 w) (adM n sd (paM false n (P 6 w) kk sd (P 4) (P 5) (P 1) le (P 3) (sc, ba, (fun _ => 0), mo)).2.2.2) (P 4) se) se) ((paM false n ((P 6) w) kk sd (P 4) (P 5) (P 1) le (P 3) (sc, ba, (fun _ => 0), mo)).1) ((paM false n ((P 6) w) kk sd (P 4) (P 5) (P 1) le (P 3) (sc, ba, (fun _ => 0), mo)).2.1) ((paM false n ((P 6) w) kk sd (P 4) (P 5) (P 1) le (P 3) (sc, ba, (fun _ => 0), mo)).2.2.1) le ((paM false n ((P 6) w) kk sd (P 4) (P 5) (P 1) le (P 3) (sc, ba, (fun _ => 0), mo)).2.2.2)) (As := [.int (nI j)]) (rest := [.int (3 * ((P 6) w))]) C (mX7_above l D cA aM th n it k td gn dr wk sv P (mapN j (s2M (P 6 w) (adM n sd (paM false n (P 6 w) kk sd (P 4) (P 5) (P 1) le (P 3) (sc, ba, (fun _ => 0), mo)).2.2.2) (P 4) se) (adM n sd (paM false n (P 6 w) kk sd (P 4) (P 5) (P 1) le (P 3) (sc, ba, (fun _ => 0), mo)).2.2.2)) (mapN j (e2M (P 6 w) (adM n sd (paM false n (P 6 w) kk sd (P 4) (P 5) (P 1) le (P 3) (sc, ba, (fun _ => 0), mo)).2.2.2) (P 4) se) se) ((paM false n ((P 6) w) kk sd (P 4) (P 5) (P 1) le (P 3) (sc, ba, (fun _ => 0), mo)).1) ((paM false n ((P 6) w) kk sd (P 4) (P 5) (P 1) le (P 3) (sc, ba, (fun _ => 0), mo)).2.1) ((paM false n ((P 6) w) kk sd (P 4) (P 5) (P 1) le (P 3) (sc, ba, (fun _ => 0), mo)).2.2.1) le ((paM false n ((P 6) w) kk sd (P 4) (P 5) (P 1) le (P 3) (sc, ba, (fun _ => 0), mo)).2.2.2) j (by first | assumption | omega)) (cwV 1 C.hts gX7_week_X7_above rfl rfl rfl (by decide +kernel) ⟨Nat.le_of_ble_eq_true rfl, Nat.le_of_ble_eq_true rfl⟩) dX7_week_77 rfl 0 rfl rfl rfl rfl rfl (Nat.le_of_ble_eq_true rfl) ⟨Nat.le_of_ble_eq_true rfl, Nat.le_of_ble_eq_true rfl⟩ ?_
      refine pt_jn (q := 95) (k := 0) (n := 0) (wM cA aM th n it k td gn dr wk sv P (mapN j (s2M (P 6 w) (adM n sd (paM false n (P 6 w) kk sd (P 4) (P 5) (P 1) le (P 3) (sc, ba, (fun _ => 0), mo)).2.2.2) (P 4) se) (adM n sd (paM false n (P 6 w) kk sd (P 4) (P 5) (P 1) le (P 3) (sc, ba, (fun _ => 0), mo)).2.2.2)) (mapN j (e2M (P 6 w) (adM n sd (paM false n (P 6 w) kk sd (P 4) (P 5) (P 1) le (P 3) (sc, ba, (fun _ => 0), mo)).2.2.2) (P 4) se) se) ((paM false n ((P 6) w) kk sd (P 4) (P 5) (P 1) le (P 3) (sc, ba, (fun _ => 0), mo)).1) ((paM false n ((P 6) w) kk sd (P 4) (P 5) (P 1) le (P 3) (sc, ba, (fun _ => 0), mo)).2.1) ((paM false n ((P 6) w) kk sd (P 4) (P 5) (P 1) le (P 3) (sc, ba, (fun _ => 0), mo)).2.2.1) le ((paM false n ((P 6) w) kk sd (P 4) (P 5) (P 1) le (P 3) (sc, ba, (fun _ => 0), mo)).2.2.2)) [(4, .int (nI j)), (3, .int ((P 6) w)), (0, .ref (aM 0)), (1, .int (nI w)), (2, .int kk)] [.int (if (abM (mapN j (s2M (P 6 w) (adM n sd (paM false n (P 6 w) kk sd (P 4) (P 5) (P 1) le (P 3) (sc, ba, (fun _ => 0), mo)).2.2.2) (P 4) se) (adM n sd (paM false n (P 6 w) kk sd (P 4) (P 5) (P 1) le (P 3) (sc, ba, (fun _ => 0), mo)).2.2.2)) (P 4) j) ≤ (3 * ((P 6) w)) then abM (mapN j (s2M (P 6 w) (adM n sd (paM false n (P 6 w) kk sd (P 4) (P 5) (P 1) le (P 3) (sc, ba, (fun _ => 0), mo)).2.2.2) (P 4) se) (adM n sd (paM false n (P 6 w) kk sd (P 4) (P 5) (P 1) le (P 3) (sc, ba, (fun _ => 0), mo)).2.2.2)) (P 4) j else 3 * ((P 6) w))] (fun K => ?_) ?_
      · refine pt_icmp_ge (pc' := 83) (tgt := 89) C dX7_week_80 (by decide) rfl (fun h_80 => ?_) (fun h_80 => ?_)
        · refine pt_aload_n (pc' := 90) C dX7_week_89 rfl 2 rfl ?_
          refine pt_iload (pc' := 92) C dX7_week_90 rfl 0 rfl ?_
          refine pt_cvI0 (pc' := 95) (w1 := wM cA aM th n it k td gn dr wk sv P (mapN j (s2M (P 6 w) (adM n sd (paM false n (P 6 w) kk sd (P 4) (P 5) (P 1) le (P 3) (sc, ba, (fun _ => 0), mo)).2.2.2) (P 4) se) (adM n sd (paM false n (P 6 w) kk sd (P 4) (P 5) (P 1) le (P 3) (sc, ba, (fun _ => 0), mo)).2.2.2)) (mapN j (e2M (P 6 w) (adM n sd (paM false n (P 6 w) kk sd (P 4) (P 5) (P 1) le (P 3) (sc, ba, (fun _ => 0), mo)).2.2.2) (P 4) se) se) ((paM false n ((P 6) w) kk sd (P 4) (P 5) (P 1) le (P 3) (sc, ba, (fun _ => 0), mo)).1) ((paM false n ((P 6) w) kk sd (P 4) (P 5) (P 1) le (P 3) (sc, ba, (fun _ => 0), mo)).2.1) ((paM false n ((P 6) w) kk sd (P 4) (P 5) (P 1) le (P 3) (sc, ba, (fun _ => 0), mo)).2.2.1) le ((paM false n ((P 6) w) kk sd (P 4) (P 5) (P 1) le (P 3) (sc, ba, (fun _ => 0), mo)).2.2.2)) (As := [.int (nI j)]) (rest := []) C (mX7_above l D cA aM th n it k td gn dr wk sv P (mapN j (s2M (P 6 w) (adM n sd (paM false n (P 6 w) kk sd (P 4) (P 5) (P 1) le (P 3) (sc, ba, (fun _ => 0), mo)).2.2.2) (P 4) se) (adM n sd (paM false n (P 6 w) kk sd (P 4) (P 5) (P 1) le (P 3) (sc, ba, (fun _ => 0), mo)).2.2.2)) (mapN j (e2M (P 6 w) (adM n sd (paM false n (P 6 w) kk sd (P 4) (P 5) (P 1) le (P 3) (sc, ba, (fun _ => 0), mo)).2.2.2) (P 4) se) se) ((paM false n ((P 6) w) kk sd (P 4) (P 5) (P 1) le (P 3) (sc, ba, (fun _ => 0), mo)).1) ((paM false n ((P 6) w) kk sd (P 4) (P 5) (P 1) le (P 3) (sc, ba, (fun _ => 0), mo)).2.1) ((paM false n ((P 6) w) kk sd (P 4) (P 5) (P 1) le (P 3) (sc, ba, (fun _ => 0), mo)).2.2.1) le ((paM false n ((P 6) w) kk sd (P 4) (P 5) (P 1) le (P 3) (sc, ba, (fun _ => 0), mo)).2.2.2) j (by first | assumption | omega)) (cwV 1 C.hts gX7_week_X7_above rfl rfl rfl (by decide +kernel) ⟨Nat.le_of_ble_eq_true rfl, Nat.le_of_ble_eq_true rfl⟩) dX7_week_92 rfl 0 rfl rfl rfl rfl rfl (Nat.le_of_ble_eq_true rfl) ⟨Nat.le_of_ble_eq_true rfl, Nat.le_of_ble_eq_true rfl⟩ ?_
          exact pt_cv (lv' := [(4, .int (nI j)), (3, .int ((P 6) w)), (0, .ref (aM 0)), (1, .int (nI w)), (2, .int kk)]) rfl [0, 1, 2, 3, 4] rfl rfl (by simpa only [if_pos h_80] using K)
        · refine pt_iconst (pc' := 84) C dX7_week_83 rfl (v := 3) (by decide) ?_
          refine pt_iload_n (pc' := 85) C dX7_week_84 rfl 1 rfl ?_
          refine pt_imul (pc' := 86) C dX7_week_85 rfl ?_
          refine pt_goto (pc' := 95) C dX7_week_86 (by decide) ?_
          exact pt_cv (lv' := [(4, .int (nI j)), (3, .int ((P 6) w)), (0, .ref (aM 0)), (1, .int (nI w)), (2, .int kk)]) rfl [0, 1, 2, 3, 4] rfl rfl (by simpa only [if_neg h_80] using K)
      refine pt_istore (pc' := 97) (lv' := [(5, .int (if (abM (mapN j (s2M (P 6 w) (adM n sd (paM false n (P 6 w) kk sd (P 4) (P 5) (P 1) le (P 3) (sc, ba, (fun _ => 0), mo)).2.2.2) (P 4) se) (adM n sd (paM false n (P 6 w) kk sd (P 4) (P 5) (P 1) le (P 3) (sc, ba, (fun _ => 0), mo)).2.2.2)) (P 4) j) ≤ (3 * ((P 6) w)) then abM (mapN j (s2M (P 6 w) (adM n sd (paM false n (P 6 w) kk sd (P 4) (P 5) (P 1) le (P 3) (sc, ba, (fun _ => 0), mo)).2.2.2) (P 4) se) (adM n sd (paM false n (P 6 w) kk sd (P 4) (P 5) (P 1) le (P 3) (sc, ba, (fun _ => 0), mo)).2.2.2)) (P 4) j else 3 * ((P 6) w))), (4, .int (nI j)), (3, .int ((P 6) w)), (0, .ref (aM 0)), (1, .int (nI w)), (2, .int kk)]) C dX7_week_95 rfl (by decide) rfl ?_
      refine pt_aload_n (pc' := 98) C dX7_week_97 rfl 3 rfl ?_
      refine pt_get (pc' := 101) C in_7 dX7_week_98 rfl 0 19 rfl rfl (by decide) f_56 rfl ?_
      refine pt_iload (pc' := 103) C dX7_week_101 rfl 1 rfl ?_
      refine pt_dup2 (pc' := 104) C dX7_week_103 rfl rfl rfl ?_
      refine pt_iald (pc' := 105) C dX7_week_104 rfl 13 rfl rfl j (rfl) (by omega) (by decide) ?_
      refine pt_iload (pc' := 107) C dX7_week_105 rfl 0 rfl ?_
      refine pt_isub (pc' := 108) C dX7_week_107 rfl ?_
      refine pt_iast (pc' := 109) (ws' := wM cA aM th n it k td gn dr wk sv P (upd (mapN j (s2M (P 6 w) (adM n sd (paM false n (P 6 w) kk sd (P 4) (P 5) (P 1) le (P 3) (sc, ba, (fun _ => 0), mo)).2.2.2) (P 4) se) (adM n sd (paM false n (P 6 w) kk sd (P 4) (P 5) (P 1) le (P 3) (sc, ba, (fun _ => 0), mo)).2.2.2)) j (((mapN j (s2M (P 6 w) (adM n sd (paM false n (P 6 w) kk sd (P 4) (P 5) (P 1) le (P 3) (sc, ba, (fun _ => 0), mo)).2.2.2) (P 4) se) (adM n sd (paM false n (P 6 w) kk sd (P 4) (P 5) (P 1) le (P 3) (sc, ba, (fun _ => 0), mo)).2.2.2)) j) - (if (abM (mapN j (s2M (P 6 w) (adM n sd (paM false n (P 6 w) kk sd (P 4) (P 5) (P 1) le (P 3) (sc, ba, (fun _ => 0), mo)).2.2.2) (P 4) se) (adM n sd (paM false n (P 6 w) kk sd (P 4) (P 5) (P 1) le (P 3) (sc, ba, (fun _ => 0), mo)).2.2.2)) (P 4) j) ≤ (3 * ((P 6) w)) then abM (mapN j (s2M (P 6 w) (adM n sd (paM false n (P 6 w) kk sd (P 4) (P 5) (P 1) le (P 3) (sc, ba, (fun _ => 0), mo)).2.2.2) (P 4) se) (adM n sd (paM false n (P 6 w) kk sd (P 4) (P 5) (P 1) le (P 3) (sc, ba, (fun _ => 0), mo)).2.2.2)) (P 4) j else 3 * ((P 6) w)))) (mapN j (e2M (P 6 w) (adM n sd (paM false n (P 6 w) kk sd (P 4) (P 5) (P 1) le (P 3) (sc, ba, (fun _ => 0), mo)).2.2.2) (P 4) se) se) ((paM false n ((P 6) w) kk sd (P 4) (P 5) (P 1) le (P 3) (sc, ba, (fun _ => 0), mo)).1) ((paM false n ((P 6) w) kk sd (P 4) (P 5) (P 1) le (P 3) (sc, ba, (fun _ => 0), mo)).2.1) ((paM false n ((P 6) w) kk sd (P 4) (P 5) (P 1) le (P 3) (sc, ba, (fun _ => 0), mo)).2.2.1) le ((paM false n ((P 6) w) kk sd (P 4) (P 5) (P 1) le (P 3) (sc, ba, (fun _ => 0), mo)).2.2.2)) C dX7_week_108 rfl 13 rfl rfl j (rfl) (by omega) (by decide) rfl ?_
      refine pt_aload_n (pc' := 110) C dX7_week_109 rfl 3 rfl ?_
      refine pt_get (pc' := 113) C in_7 dX7_week_110 rfl 0 20 rfl rfl (by decide) f_59 rfl ?_
      refine pt_iload (pc' := 115) C dX7_week_113 rfl 1 rfl ?_
      refine pt_dup2 (pc' := 116) C dX7_week_115 rfl rfl rfl ?_
      refine pt_iald (pc' := 117) C dX7_week_116 rfl 14 rfl rfl j (rfl) (by omega) (by decide) ?_
      refine pt_iload (pc' := 119) C dX7_week_117 rfl 0 rfl ?_
      refine pt_iadd (pc' := 120) C dX7_week_119 rfl ?_
      refine pt_iast (pc' := 121) (ws' := wM cA aM th n it k td gn dr wk sv P (upd (mapN j (s2M (P 6 w) (adM n sd (paM false n (P 6 w) kk sd (P 4) (P 5) (P 1) le (P 3) (sc, ba, (fun _ => 0), mo)).2.2.2) (P 4) se) (adM n sd (paM false n (P 6 w) kk sd (P 4) (P 5) (P 1) le (P 3) (sc, ba, (fun _ => 0), mo)).2.2.2)) j (((mapN j (s2M (P 6 w) (adM n sd (paM false n (P 6 w) kk sd (P 4) (P 5) (P 1) le (P 3) (sc, ba, (fun _ => 0), mo)).2.2.2) (P 4) se) (adM n sd (paM false n (P 6 w) kk sd (P 4) (P 5) (P 1) le (P 3) (sc, ba, (fun _ => 0), mo)).2.2.2)) j) - (if (abM (mapN j (s2M (P 6 w) (adM n sd (paM false n (P 6 w) kk sd (P 4) (P 5) (P 1) le (P 3) (sc, ba, (fun _ => 0), mo)).2.2.2) (P 4) se) (adM n sd (paM false n (P 6 w) kk sd (P 4) (P 5) (P 1) le (P 3) (sc, ba, (fun _ => 0), mo)).2.2.2)) (P 4) j) ≤ (3 * ((P 6) w)) then abM (mapN j (s2M (P 6 w) (adM n sd (paM false n (P 6 w) kk sd (P 4) (P 5) (P 1) le (P 3) (sc, ba, (fun _ => 0), mo)).2.2.2) (P 4) se) (adM n sd (paM false n (P 6 w) kk sd (P 4) (P 5) (P 1) le (P 3) (sc, ba, (fun _ => 0), mo)).2.2.2)) (P 4) j else 3 * ((P 6) w)))) (upd (mapN j (e2M (P 6 w) (adM n sd (paM false n (P 6 w) kk sd (P 4) (P 5) (P 1) le (P 3) (sc, ba, (fun _ => 0), mo)).2.2.2) (P 4) se) se) j (((mapN j (e2M (P 6 w) (adM n sd (paM false n (P 6 w) kk sd (P 4) (P 5) (P 1) le (P 3) (sc, ba, (fun _ => 0), mo)).2.2.2) (P 4) se) se) j) + (if (abM (mapN j (s2M (P 6 w) (adM n sd (paM false n (P 6 w) kk sd (P 4) (P 5) (P 1) le (P 3) (sc, ba, (fun _ => 0), mo)).2.2.2) (P 4) se) (adM n sd (paM false n (P 6 w) kk sd (P 4) (P 5) (P 1) le (P 3) (sc, ba, (fun _ => 0), mo)).2.2.2)) (P 4) j) ≤ (3 * ((P 6) w)) then abM (mapN j (s2M (P 6 w) (adM n sd (paM false n (P 6 w) kk sd (P 4) (P 5) (P 1) le (P 3) (sc, ba, (fun _ => 0), mo)).2.2.2) (P 4) se) (adM n sd (paM false n (P 6 w) kk sd (P 4) (P 5) (P 1) le (P 3) (sc, ba, (fun _ => 0), mo)).2.2.2)) (P 4) j else 3 * ((P 6) w)))) ((paM false n ((P 6) w) kk sd (P 4) (P 5) (P 1) le (P 3) (sc, ba, (fun _ => 0), mo)).1) ((paM false n ((P 6) w) kk sd (P 4) (P 5) (P 1) le (P 3) (sc, ba, (fun _ => 0), mo)).2.1) ((paM false n ((P 6) w) kk sd (P 4) (P 5) (P 1) le (P 3) (sc, ba, (fun _ => 0), mo)).2.2.1) le ((paM false n ((P 6) w) kk sd (P 4) (P 5) (P 1) le (P 3) (sc, ba, (fun _ => 0), mo)).2.2.2)) C dX7_week_120 rfl 14 rfl rfl j (rfl) (by omega) (by decide) rfl ?_
      refine pt_goto (pc' := 162) C dX7_week_121 (by decide) ?_
      refine pt_iinc (pc' := 165) (v := nI (j + 1)) (lv' := [(4, .int (nI (j + 1))), (5, .int (if (abM (mapN j (s2M (P 6 w) (adM n sd (paM false n (P 6 w) kk sd (P 4) (P 5) (P 1) le (P 3) (sc, ba, (fun _ => 0), mo)).2.2.2) (P 4) se) (adM n sd (paM false n (P 6 w) kk sd (P 4) (P 5) (P 1) le (P 3) (sc, ba, (fun _ => 0), mo)).2.2.2)) (P 4) j) ≤ (3 * ((P 6) w)) then abM (mapN j (s2M (P 6 w) (adM n sd (paM false n (P 6 w) kk sd (P 4) (P 5) (P 1) le (P 3) (sc, ba, (fun _ => 0), mo)).2.2.2) (P 4) se) (adM n sd (paM false n (P 6 w) kk sd (P 4) (P 5) (P 1) le (P 3) (sc, ba, (fun _ => 0), mo)).2.2.2)) (P 4) j else 3 * ((P 6) w))), (3, .int ((P 6) w)), (0, .ref (aM 0)), (1, .int (nI w)), (2, .int kk)]) C dX7_week_162 rfl 1 rfl (nI_1 _) (by decide) rfl ?_
      refine pt_goto (pc' := 56) C dX7_week_165 (by decide) ?_
      exact pt_cv (by rw [mapN_s j (s2M (P 6 w) (adM n sd (paM false n (P 6 w) kk sd (P 4) (P 5) (P 1) le (P 3) (sc, ba, (fun _ => 0), mo)).2.2.2) (P 4) se) (adM n sd (paM false n (P 6 w) kk sd (P 4) (P 5) (P 1) le (P 3) (sc, ba, (fun _ => 0), mo)).2.2.2) (by rw [s2M, if_neg h_68, abM_at, mapN_at]), mapN_s j (e2M (P 6 w) (adM n sd (paM false n (P 6 w) kk sd (P 4) (P 5) (P 1) le (P 3) (sc, ba, (fun _ => 0), mo)).2.2.2) (P 4) se) se (by rw [e2M, if_neg h_68, abM_at, mapN_at])]) [0, 2, 3, 4, 5] (rfl) rfl ih_56
  refine pt_iload (pc' := 58) C dX7_week_56 rfl 0 rfl ?_
  refine pt_aload_n (pc' := 59) C dX7_week_58 rfl 2 rfl ?_
  refine pt_get (pc' := 62) C in_7 dX7_week_59 rfl 0 1 rfl rfl (by decide) f_13 rfl ?_
  refine pt_icmp_ge (pc' := 65) (tgt := 168) C dX7_week_62 (by decide) rfl (fun h_62 => ?_) (fun h_62 => absurd (nI_le (Nat.le_refl n) (by omega)) h_62)
  exact pt_vret C hr hk dX7_week_168 (rfl)

set_option maxHeartbeats 4000000 in
set_option maxRecDepth 100000 in
theorem cX7_week_1 (l : Launch) (D : va_G) (cA : ClassId) (aM : Nat → Nat) (th : Int32) (n : Nat) (it : Int32) (k : Int32) (td : Nat) (gn : Nat) (dr : Nat) (wk : Nat) (sv : Nat) (P : Nat → Nat → Int32) (sd : Nat → Int32) (se : Nat → Int32) (sc : Nat → Int32) (ba : Nat → Int32) (pa : Nat → Int32) (le : Nat → Int32) (mo : Nat → Int32) (w : Nat) (kk : Int32) (hn : 2 ≤ n) (hm : n ≤ 12) (hw : w < 120) (hs : P 7 w = 1) : mt_V l yX7_week wsX7_week { frames := 4, cells := 0, slots := 0, locals := 102 } D [(cA, .int)] [.ref (aM 0), .int (nI w), .int kk] (wM cA aM th n it k td gn dr wk sv P sd se sc ba pa le mo) (wM cA aM th n it k td gn dr wk sv P (mapN n (s2M (P 6 w) (adM n sd (paM true n (P 6 w) kk sd (P 4) (P 5) (P 1) le (P 3) (sc, ba, (fun _ => 0), mo)).2.2.2) (P 4) se) (adM n sd (paM true n (P 6 w) kk sd (P 4) (P 5) (P 1) le (P 3) (sc, ba, (fun _ => 0), mo)).2.2.2)) (mapN n (e2M (P 6 w) (adM n sd (paM true n (P 6 w) kk sd (P 4) (P 5) (P 1) le (P 3) (sc, ba, (fun _ => 0), mo)).2.2.2) (P 4) se) se) ((paM true n (P 6 w) kk sd (P 4) (P 5) (P 1) le (P 3) (sc, ba, (fun _ => 0), mo)).1) ((paM true n (P 6 w) kk sd (P 4) (P 5) (P 1) le (P 3) (sc, ba, (fun _ => 0), mo)).2.1) ((paM true n (P 6 w) kk sd (P 4) (P 5) (P 1) le (P 3) (sc, ba, (fun _ => 0), mo)).2.2.1) le ((paM true n (P 6 w) kk sd (P 4) (P 5) (P 1) le (P 3) (sc, ba, (fun _ => 0), mo)).2.2.2)) := by
  refine mt_ofV (cc := cX7_week) (maxL := 6) (ret := none) (lv := [(0, .ref (aM 0)), (1, .int (nI w)), (2, .int kk)]) (by decide) rfl (Nat.le_of_ble_eq_true rfl) rfl ?_
  intro p e s m args below meth c A C hr hk
  have f_38 := C.hts (.fieldLink RX7 38 "ShoreFieldsModel" "height" "[I") (by decide +kernel)
  have in_7 : ∀ w ∈ u_ws RX7 TX7 37, w ∈ wsX7_week := by decide +kernel
  have f_68 := C.hts (.fieldLink RX7 68 "ShoreFieldsModel" "passed" "[I") (by decide +kernel)
  have f_41 := C.hts (.fieldLink RX7 41 "ShoreFieldsModel" "side" "[I") (by decide +kernel)
  have f_13 := C.hts (.fieldLink RX7 13 "ShoreFieldsModel" "fields" "I") (by decide +kernel)
  have f_59 := C.hts (.fieldLink RX7 59 "ShoreFieldsModel" "sea" "[I") (by decide +kernel)
  have f_56 := C.hts (.fieldLink RX7 56 "ShoreFieldsModel" "sand" "[I") (by decide +kernel)
  refine pt_aload_n (pc' := 1) C dX7_week_0 rfl 0 rfl ?_
  refine pt_get (pc' := 4) C in_7 dX7_week_1 rfl 0 11 rfl rfl (by decide) f_38 rfl ?_
  refine pt_iload_n (pc' := 5) C dX7_week_4 rfl 1 rfl ?_
  refine pt_iald (pc' := 6) C dX7_week_5 rfl 7 rfl rfl w (rfl) (by omega) (by decide) ?_
  refine pt_istore_n (pc' := 7) (lv' := [(3, .int ((P 6) w)), (0, .ref (aM 0)), (1, .int (nI w)), (2, .int kk)]) C dX7_week_6 rfl rfl (by decide) rfl ?_
  refine pt_iconst (pc' := 8) C dX7_week_7 rfl (v := 0) (by decide) ?_
  refine pt_istore (pc' := 10) (lv' := [(4, .int 0), (3, .int ((P 6) w)), (0, .ref (aM 0)), (1, .int (nI w)), (2, .int kk)]) C dX7_week_8 rfl (by decide) rfl ?_
  refine pt_cv (ws' := wM cA aM th n it k td gn dr wk sv P sd se sc ba (flN 0 0 pa) le mo) (lv' := [(4, .int (nI 0)), (3, .int ((P 6) w)), (0, .ref (aM 0)), (1, .int (nI w)), (2, .int kk)]) (by rw [flN_0]) [0, 1, 2, 3, 4] (rfl) rfl ?_
  refine pt_for (wsf := fun j => wM cA aM th n it k td gn dr wk sv P sd se sc ba (flN j 0 pa) le mo) (lvf := fun j => [(4, .int (nI j)), (3, .int ((P 6) w)), (0, .ref (aM 0)), (1, .int (nI w)), (2, .int kk)]) 13 ?_ (fun j hj_10 ih_10 => ?_)
  rotate_left
  · refine pt_iload (pc' := 12) C dX7_week_10 rfl 0 rfl ?_
    refine pt_bipush (pc' := 14) C dX7_week_12 rfl (v := 13) (by decide) ?_
    refine pt_icmp_ge (pc' := 17) (tgt := 31) C dX7_week_14 (by decide) rfl (fun h_14 => absurd h_14 (nI_ge hj_10 (by decide))) (fun h_14 => ?_)
    refine pt_aload_n (pc' := 18) C dX7_week_17 rfl 2 rfl ?_
    refine pt_get (pc' := 21) C in_7 dX7_week_18 rfl 0 23 rfl rfl (by decide) f_68 rfl ?_
    refine pt_iload (pc' := 23) C dX7_week_21 rfl 0 rfl ?_
    refine pt_iconst (pc' := 24) C dX7_week_23 rfl (v := 0) (by decide) ?_
    refine pt_iast (pc' := 25) (ws' := wM cA aM th n it k td gn dr wk sv P sd se sc ba (upd (flN j 0 pa) j 0) le mo) C dX7_week_24 rfl 17 rfl rfl j (rfl) (by omega) (by decide) rfl ?_
    refine pt_iinc (pc' := 28) (v := nI (j + 1)) (lv' := [(4, .int (nI (j + 1))), (3, .int ((P 6) w)), (0, .ref (aM 0)), (1, .int (nI w)), (2, .int kk)]) C dX7_week_25 rfl 0 rfl (nI_1 _) (by decide) rfl ?_
    refine pt_goto (pc' := 10) C dX7_week_28 (by decide) ?_
    exact pt_cv (by rw [flN_s]) [0, 1, 2, 3, 4] (rfl) rfl ih_10
  refine pt_iload (pc' := 12) C dX7_week_10 rfl 0 rfl ?_
  refine pt_bipush (pc' := 14) C dX7_week_12 rfl (v := 13) (by decide) ?_
  refine pt_icmp_ge (pc' := 17) (tgt := 31) C dX7_week_14 (by decide) rfl (fun h_14 => ?_) (fun h_14 => absurd (nI_le (Nat.le_refl 13) (by decide)) h_14)
  refine pt_ext (ws' := wM cA aM th n it k td gn dr wk sv P sd se sc ba (fun _ => 0) le mo) (fun _ => 0) 17 rfl (fun j hj => by simp only [flN, if_pos hj]) rfl ?_
  refine pt_aload_n (pc' := 32) C dX7_week_31 rfl 2 rfl ?_
  refine pt_get (pc' := 35) C in_7 dX7_week_32 rfl 0 12 rfl rfl (by decide) f_41 rfl ?_
  refine pt_iload_n (pc' := 36) C dX7_week_35 rfl 3 rfl ?_
  refine pt_iald (pc' := 37) C dX7_week_36 rfl 8 rfl rfl w (rfl) (by omega) (by decide) ?_
  refine pt_eq (st' := [.int 1]) rfl rfl (by rw [hs]) ?_
  refine pt_iconst (pc' := 38) C dX7_week_37 rfl (v := 2) (by decide) ?_
  refine pt_icmp_ge (pc' := 41) (tgt := 53) C dX7_week_38 (by decide) rfl (fun h_38 => absurd h_38 (by decide)) (fun h_38 => ?_)
  refine pt_aload_n (pc' := 42) C dX7_week_41 rfl 2 rfl ?_
  refine pt_iload_n (pc' := 43) C dX7_week_42 rfl 1 rfl ?_
  refine pt_aload_n (pc' := 44) C dX7_week_43 rfl 2 rfl ?_
  refine pt_get (pc' := 47) C in_7 dX7_week_44 rfl 0 12 rfl rfl (by decide) f_41 rfl ?_
  refine pt_iload_n (pc' := 48) C dX7_week_47 rfl 3 rfl ?_
  refine pt_iald (pc' := 49) C dX7_week_48 rfl 8 rfl rfl w (rfl) (by omega) (by decide) ?_
  refine pt_eq (st' := [.int 1, .int ((P 6) w), .ref (aM 0)]) rfl rfl (by rw [hs]) ?_
  refine pt_iload_n (pc' := 50) C dX7_week_49 rfl 4 rfl ?_
  refine pt_cvV0 (pc' := 53) (w1 := wM cA aM th n it k td gn dr wk sv P (adM n sd (paM true n ((P 6) w) kk sd (P 4) (P 5) (P 1) le (P 3) (sc, ba, (fun _ => 0), mo)).2.2.2) se ((paM true n ((P 6) w) kk sd (P 4) (P 5) (P 1) le (P 3) (sc, ba, (fun _ => 0), mo)).1) ((paM true n ((P 6) w) kk sd (P 4) (P 5) (P 1) le (P 3) (sc, ba, (fun _ => 0), mo)).2.1) ((paM true n ((P 6) w) kk sd (P 4) (P 5) (P 1) le (P 3) (sc, ba, (fun _ => 0), mo)).2.2.1) le ((paM true n ((P 6) w) kk sd (P 4) (P 5) (P 1) le (P 3) (sc, ba, (fun _ => 0), mo)).2.2.2)) (As := [.int ((P 6) w), .int 1, .int kk]) (rest := []) C (cX7_passing_R l D cA aM th n it k td gn dr wk sv P sd se sc ba (fun _ => 0) le mo ((P 6) w) kk (by first | assumption | omega) (by first | assumption | omega)) (cwV 3 C.hts gX7_week_X7_passing rfl rfl rfl (by decide +kernel) ⟨Nat.le_of_ble_eq_true rfl, Nat.le_of_ble_eq_true rfl⟩) dX7_week_50 rfl 0 rfl rfl rfl rfl rfl (Nat.le_of_ble_eq_true rfl) ⟨Nat.le_of_ble_eq_true rfl, Nat.le_of_ble_eq_true rfl⟩ ?_
  refine pt_iconst (pc' := 54) C dX7_week_53 rfl (v := 0) (by decide) ?_
  refine pt_istore (pc' := 56) (lv' := [(4, .int 0), (3, .int ((P 6) w)), (0, .ref (aM 0)), (1, .int (nI w)), (2, .int kk)]) C dX7_week_54 rfl (by decide) rfl ?_
  refine pt_cv (ws' := wM cA aM th n it k td gn dr wk sv P (mapN 0 (s2M (P 6 w) (adM n sd (paM true n (P 6 w) kk sd (P 4) (P 5) (P 1) le (P 3) (sc, ba, (fun _ => 0), mo)).2.2.2) (P 4) se) (adM n sd (paM true n (P 6 w) kk sd (P 4) (P 5) (P 1) le (P 3) (sc, ba, (fun _ => 0), mo)).2.2.2)) (mapN 0 (e2M (P 6 w) (adM n sd (paM true n (P 6 w) kk sd (P 4) (P 5) (P 1) le (P 3) (sc, ba, (fun _ => 0), mo)).2.2.2) (P 4) se) se) ((paM true n ((P 6) w) kk sd (P 4) (P 5) (P 1) le (P 3) (sc, ba, (fun _ => 0), mo)).1) ((paM true n ((P 6) w) kk sd (P 4) (P 5) (P 1) le (P 3) (sc, ba, (fun _ => 0), mo)).2.1) ((paM true n ((P 6) w) kk sd (P 4) (P 5) (P 1) le (P 3) (sc, ba, (fun _ => 0), mo)).2.2.1) le ((paM true n ((P 6) w) kk sd (P 4) (P 5) (P 1) le (P 3) (sc, ba, (fun _ => 0), mo)).2.2.2)) (lv' := [(4, .int (nI 0)), (3, .int ((P 6) w)), (0, .ref (aM 0)), (1, .int (nI w)), (2, .int kk)]) (by rw [mapN_0, mapN_0]) [0, 1, 2, 3, 4] (rfl) rfl ?_
  refine pt_for (wsf := fun j => wM cA aM th n it k td gn dr wk sv P (mapN j (s2M (P 6 w) (adM n sd (paM true n (P 6 w) kk sd (P 4) (P 5) (P 1) le (P 3) (sc, ba, (fun _ => 0), mo)).2.2.2) (P 4) se) (adM n sd (paM true n (P 6 w) kk sd (P 4) (P 5) (P 1) le (P 3) (sc, ba, (fun _ => 0), mo)).2.2.2)) (mapN j (e2M (P 6 w) (adM n sd (paM true n (P 6 w) kk sd (P 4) (P 5) (P 1) le (P 3) (sc, ba, (fun _ => 0), mo)).2.2.2) (P 4) se) se) ((paM true n ((P 6) w) kk sd (P 4) (P 5) (P 1) le (P 3) (sc, ba, (fun _ => 0), mo)).1) ((paM true n ((P 6) w) kk sd (P 4) (P 5) (P 1) le (P 3) (sc, ba, (fun _ => 0), mo)).2.1) ((paM true n ((P 6) w) kk sd (P 4) (P 5) (P 1) le (P 3) (sc, ba, (fun _ => 0), mo)).2.2.1) le ((paM true n ((P 6) w) kk sd (P 4) (P 5) (P 1) le (P 3) (sc, ba, (fun _ => 0), mo)).2.2.2)) (lvf := fun j => [(4, .int (nI j)), (3, .int ((P 6) w)), (0, .ref (aM 0)), (1, .int (nI w)), (2, .int kk)]) n ?_ (fun j hj_56 ih_56 => ?_)
  rotate_left
  · refine pt_iload (pc' := 58) C dX7_week_56 rfl 0 rfl ?_
    refine pt_aload_n (pc' := 59) C dX7_week_58 rfl 2 rfl ?_
    refine pt_get (pc' := 62) C in_7 dX7_week_59 rfl 0 1 rfl rfl (by decide) f_13 rfl ?_
    refine pt_icmp_ge (pc' := 65) (tgt := 168) C dX7_week_62 (by decide) rfl (fun h_62 => absurd h_62 (nI_ge hj_56 (by omega))) (fun h_62 => ?_)
    refine pt_iload_n (pc' := 66) C dX7_week_65 rfl 1 rfl ?_
    refine pt_bipush (pc' := 68) C dX7_week_66 rfl (v := 7) (by decide) ?_
    refine pt_icmp_lt (pc' := 71) (tgt := 124) C dX7_week_68 (by decide) rfl (fun h_68 => ?_) (fun h_68 => ?_)
    · refine pt_iload_n (pc' := 125) C dX7_week_124 rfl 1 rfl ?_
      refine pt_iconst (pc' := 126) C dX7_week_125 rfl (v := 2) (by decide) ?_
      refine pt_icmp_gt (pc' := 129) (tgt := 162) C dX7_week_126 (by decide) rfl (fun h_126 => ?_) (fun h_126 => ?_)
      · refine pt_iinc (pc' := 165) (v := nI (j + 1)) (lv' := [(4, .int (nI (j + 1))), (3, .int ((P 6) w)), (0, .ref (aM 0)), (1, .int (nI w)), (2, .int kk)]) C dX7_week_162 rfl 0 rfl (nI_1 _) (by decide) rfl ?_
        refine pt_goto (pc' := 56) C dX7_week_165 (by decide) ?_
        exact pt_cv (by rw [mapN_k j (s2M (P 6 w) (adM n sd (paM true n (P 6 w) kk sd (P 4) (P 5) (P 1) le (P 3) (sc, ba, (fun _ => 0), mo)).2.2.2) (P 4) se) (adM n sd (paM true n (P 6 w) kk sd (P 4) (P 5) (P 1) le (P 3) (sc, ba, (fun _ => 0), mo)).2.2.2) (by simp only [s2M, if_pos h_68, if_pos h_126]), mapN_k j (e2M (P 6 w) (adM n sd (paM true n (P 6 w) kk sd (P 4) (P 5) (P 1) le (P 3) (sc, ba, (fun _ => 0), mo)).2.2.2) (P 4) se) se (by simp only [e2M, if_pos h_68, if_pos h_126])]) [0, 1, 2, 3, 4] (rfl) rfl ih_56
      · refine pt_aload_n (pc' := 130) C dX7_week_129 rfl 2 rfl ?_
        refine pt_get (pc' := 133) C in_7 dX7_week_130 rfl 0 20 rfl rfl (by decide) f_59 rfl ?_
        refine pt_iload (pc' := 135) C dX7_week_133 rfl 0 rfl ?_
        refine pt_iald (pc' := 136) C dX7_week_135 rfl 14 rfl rfl j (rfl) (by omega) (by decide) ?_
        refine pt_iconst (pc' := 137) C dX7_week_136 rfl (v := 3) (by decide) ?_
        refine pt_iadd (pc' := 138) C dX7_week_137 rfl ?_
        refine pt_iconst (pc' := 139) C dX7_week_138 rfl (v := 4) (by decide) ?_
        refine pt_idiv (pc' := 140) C dX7_week_139 rfl (by decide) ?_
        refine pt_istore (pc' := 142) (lv' := [(5, .int ((((mapN j (e2M (P 6 w) (adM n sd (paM true n (P 6 w) kk sd (P 4) (P 5) (P 1) le (P 3) (sc, ba, (fun _ => 0), mo)).2.2.2) (P 4) se) se) j) + 3) / 4)), (4, .int (nI j)), (3, .int ((P 6) w)), (0, .ref (aM 0)), (1, .int (nI w)), (2, .int kk)]) C dX7_week_140 rfl (by decide) rfl ?_
        refine pt_aload_n (pc' := 143) C dX7_week_142 rfl 3 rfl ?_
        refine pt_get (pc' := 146) C in_7 dX7_week_143 rfl 0 20 rfl rfl (by decide) f_59 rfl ?_
        refine pt_iload (pc' := 148) C dX7_week_146 rfl 1 rfl ?_
        refine pt_dup2 (pc' := 149) C dX7_week_148 rfl rfl rfl ?_
        refine pt_iald (pc' := 150) C dX7_week_149 rfl 14 rfl rfl j (rfl) (by omega) (by decide) ?_
        refine pt_iload (pc' := 152) C dX7_week_150 rfl 0 rfl ?_
        refine pt_isub (pc' := 153) C dX7_week_152 rfl ?_
        refine pt_iast (pc' := 154) (ws' := wM cA aM th n it k td gn dr wk sv P (mapN j (s2M (P 6 w) (adM n sd (paM true n (P 6 w) kk sd (P 4) (P 5) (P 1) le (P 3) (sc, ba, (fun _ => 0), mo)).2.2.2) (P 4) se) (adM n sd (paM true n (P 6 w) kk sd (P 4) (P 5) (P 1) le (P 3) (sc, ba, (fun _ => 0), mo)).2.2.2)) (upd (mapN j (e2M (P 6 w) (adM n sd (paM true n (P 6 w) kk sd (P 4) (P 5) (P 1) le (P 3) (sc, ba, (fun _ => 0), mo)).2.2.2) (P 4) se) se) j (((mapN j (e2M (P 6 w) (adM n sd (paM true n (P 6 w) kk sd (P 4) (P 5) (P 1) le (P 3) (sc, ba, (fun _ => 0), mo)).2.2.2) (P 4) se) se) j) - ((((mapN j (e2M (P 6 w) (adM n sd (paM true n (P 6 w) kk sd (P 4) (P 5) (P 1) le (P 3) (sc, ba, (fun _ => 0), mo)).2.2.2) (P 4) se) se) j) + 3) / 4))) ((paM true n ((P 6) w) kk sd (P 4) (P 5) (P 1) le (P 3) (sc, ba, (fun _ => 0), mo)).1) ((paM true n ((P 6) w) kk sd (P 4) (P 5) (P 1) le (P 3) (sc, ba, (fun _ => 0), mo)).2.1) ((paM true n ((P 6) w) kk sd (P 4) (P 5) (P 1) le (P 3) (sc, ba, (fun _ => 0), mo)).2.2.1) le ((paM true n ((P 6) w) kk sd (P 4) (P 5) (P 1) le (P 3) (sc, ba, (fun _ => 0), mo)).2.2.2)) C dX7_week_153 rfl 14 rfl rfl j (rfl) (by omega) (by decide) rfl ?_
        refine pt_aload_n (pc' := 155) C dX7_week_154 rfl 3 rfl ?_
        refine pt_iload (pc' := 157) C dX7_week_155 rfl 1 rfl ?_
        refine pt_iload (pc' := 159) C dX7_week_157 rfl 0 rfl ?_
        refine pt_cvV0 (pc' := 162) (w1 := wM cA aM th n it k td gn dr wk sv P (brM (mapN j (s2M (P 6 w) (adM n sd (paM true n (P 6 w) kk sd (P 4) (P 5) (P 1) le (P 3) (sc, ba, (fun _ => 0), mo)).2.2.2) (P 4) se) (adM n sd (paM true n (P 6 w) kk sd (P 4) (P 5) (P 1) le (P 3) (sc, ba, (fun _ => 0), mo)).2.2.2)) j ((((mapN j (e2M (P 6 w) (adM n sd (paM true n (P 6 w) kk sd (P 4) (P 5) (P 1) le (P 3) (sc, ba, (fun _ => 0), mo)).2.2.2) (P 4) se) se) j) + 3) / 4)) (upd (mapN j (e2M (P 6 w) (adM n sd (paM true n (P 6 w) kk sd (P 4) (P 5) (P 1) le (P 3) (sc, ba, (fun _ => 0), mo)).2.2.2) (P 4) se) se) j (((mapN j (e2M (P 6 w) (adM n sd (paM true n (P 6 w) kk sd (P 4) (P 5) (P 1) le (P 3) (sc, ba, (fun _ => 0), mo)).2.2.2) (P 4) se) se) j) - ((((mapN j (e2M (P 6 w) (adM n sd (paM true n (P 6 w) kk sd (P 4) (P 5) (P 1) le (P 3) (sc, ba, (fun _ => 0), mo)).2.2.2) (P 4) se) se) j) + 3) / 4))) ((paM true n ((P 6) w) kk sd (P 4) (P 5) (P 1) le (P 3) (sc, ba, (fun _ => 0), mo)).1) ((paM true n ((P 6) w) kk sd (P 4) (P 5) (P 1) le (P 3) (sc, ba, (fun _ => 0), mo)).2.1) ((paM true n ((P 6) w) kk sd (P 4) (P 5) (P 1) le (P 3) (sc, ba, (fun _ => 0), mo)).2.2.1) le ((paM true n ((P 6) w) kk sd (P 4) (P 5) (P 1) le (P 3) (sc, ba, (fun _ => 0), mo)).2.2.2)) (As := [.int (nI j), .int ((((mapN j (e2M (P 6 w) (adM n sd (paM true n (P 6 w) kk sd (P 4) (P 5) (P 1) le (P 3) (sc, ba, (fun _ => 0), mo)).2.2.2) (P 4) se) se) j) + 3) / 4)]) (rest := []) C (mX7_brings l D cA aM th n it k td gn dr wk sv P (mapN j (s2M (P 6 w) (adM n sd (paM true n (P 6 w) kk sd (P 4) (P 5) (P 1) le (P 3) (sc, ba, (fun _ => 0), mo)).2.2.2) (P 4) se) (adM n sd (paM true n (P 6 w) kk sd (P 4) (P 5) (P 1) le (P 3) (sc, ba, (fun _ => 0), mo)).2.2.2)) (upd (mapN j (e2M (P 6 w) (adM n sd (paM true n (P 6 w) kk sd (P 4) (P 5) (P 1) le (P 3) (sc, ba, (fun _ => 0), mo)).2.2.2) (P 4) se) se) j (((mapN j (e2M (P 6 w) (adM n sd (paM true n (P 6 w) kk sd (P 4) (P 5) (P 1) le (P 3) (sc, ba, (fun _ => 0), mo)).2.2.2) (P 4) se) se) j) - ((((mapN j (e2M (P 6 w) (adM n sd (paM true n (P 6 w) kk sd (P 4) (P 5) (P 1) le (P 3) (sc, ba, (fun _ => 0), mo)).2.2.2) (P 4) se) se) j) + 3) / 4))) ((paM true n ((P 6) w) kk sd (P 4) (P 5) (P 1) le (P 3) (sc, ba, (fun _ => 0), mo)).1) ((paM true n ((P 6) w) kk sd (P 4) (P 5) (P 1) le (P 3) (sc, ba, (fun _ => 0), mo)).2.1) ((paM true n ((P 6) w) kk sd (P 4) (P 5) (P 1) le (P 3) (sc, ba, (fun _ => 0), mo)).2.2.1) le ((paM true n ((P 6) w) kk sd (P 4) (P 5) (P 1) le (P 3) (sc, ba, (fun _ => 0), mo)).2.2.2) j ((((mapN j (e2M (P 6 w) (adM n sd (paM true n (P 6 w) kk sd (P 4) (P 5) (P 1) le (P 3) (sc, ba, (fun _ => 0), mo)).2.2.2) (P 4) se) se) j) + 3) / 4) (by first | assumption | omega)) (cwV 2 C.hts gX7_week_X7_brings rfl rfl rfl (by decide +kernel) ⟨Nat.le_of_ble_eq_true rfl, Nat.le_of_ble_eq_true rfl⟩) dX7_week_159 rfl 0 rfl rfl rfl rfl rfl (Nat.le_of_ble_eq_true rfl) ⟨Nat.le_of_ble_eq_true rfl, Nat.le_of_ble_eq_true rfl⟩ ?_
        refine pt_iinc (pc' := 165) (v := nI (j + 1)) (lv' := [(4, .int (nI (j + 1))), (5, .int ((((mapN j (e2M (P 6 w) (adM n sd (paM true n (P 6 w) kk sd (P 4) (P 5) (P 1) le (P 3) (sc, ba, (fun _ => 0), mo)).2.2.2) (P 4) se) se) j) + 3) / 4)), (3, .int ((P 6) w)), (0, .ref (aM 0)), (1, .int (nI w)), (2, .int kk)]) C dX7_week_162 rfl 1 rfl (nI_1 _) (by decide) rfl ?_
        refine pt_goto (pc' := 56) C dX7_week_165 (by decide) ?_
        exact pt_cv (by rw [brM, mapN_s j (s2M (P 6 w) (adM n sd (paM true n (P 6 w) kk sd (P 4) (P 5) (P 1) le (P 3) (sc, ba, (fun _ => 0), mo)).2.2.2) (P 4) se) (adM n sd (paM true n (P 6 w) kk sd (P 4) (P 5) (P 1) le (P 3) (sc, ba, (fun _ => 0), mo)).2.2.2) (by simp only [s2M, mapN_at, if_pos h_68, if_neg h_126]), mapN_s j (e2M (P 6 w) (adM n sd (paM true n (P 6 w) kk sd (P 4) (P 5) (P 1) le (P 3) (sc, ba, (fun _ => 0), mo)).2.2.2) (P 4) se) se (by simp only [e2M, mapN_at, if_pos h_68, if_neg h_126])]) [0, 2, 3, 4, 5] (rfl) rfl ih_56
    · refine pt_iconst (pc' := 72) C dX7_week_71 rfl (v := 3) (by decide) ?_
      refine pt_iload_n (pc' := 73) C dX7_week_72 rfl 1 rfl ?_
      refine pt_imul (pc' := 74) C dX7_week_73 rfl ?_
      refine pt_aload_n (pc' := 75) C dX7_week_74 rfl 2 rfl ?_
      refine pt_iload (pc' := 77) C dX7_week_75 rfl 0 rfl ?_
      refine pt_cvI0 (pc' := 80) (w1 := wM cA aM th n it k td gn dr wk sv P (mapN j (s2M (P 6 w) (adM n sd (paM true n (P 6 w) kk sd (P 4) (P 5) (P 1) le (P 3) (sc, ba, (fun _ => 0), mo)).2.2.2) (P 4) se) (adM n sd (paM true n (P 6 w) kk sd (P 4) (P 5) (P 1) le (P 3) (sc, ba, (fun _ => 0), mo)).2.2.2)) (mapN j (e2M (P 6 w) (adM n sd (paM true n (P 6 w) kk sd (P 4) (P 5) (P 1) le (P 3) (sc, ba, (fun _ => 0), mo)).2.2.2) (P 4) se) se) ((paM true n ((P 6) w) kk sd (P 4) (P 5) (P 1) le (P 3) (sc, ba, (fun _ => 0), mo)).1) ((paM true n ((P 6) w) kk sd (P 4) (P 5) (P 1) le (P 3) (sc, ba, (fun _ => 0), mo)).2.1) ((paM true n ((P 6) w) kk sd (P 4) (P 5) (P 1) le (P 3) (sc, ba, (fun _ => 0), mo)).2.2.1) le ((paM true n ((P 6) w) kk sd (P 4) (P 5) (P 1) le (P 3) (sc, ba, (fun _ => 0), mo)).2.2.2)) (As := [.int (nI j)]) (rest := [.int (3 * ((P 6) w))]) C (mX7_above l D cA aM th n it k td gn dr wk sv P (mapN j (s2M (P 6 w) (adM n sd (paM true n (P 6 w) kk sd (P 4) (P 5) (P 1) le (P 3) (sc, ba, (fun _ => 0), mo)).2.2.2) (P 4) se) (adM n sd (paM true n (P 6 w) kk sd (P 4) (P 5) (P 1) le (P 3) (sc, ba, (fun _ => 0), mo)).2.2.2)) (mapN j (e2M (P 6 w) (adM n sd (paM true n (P 6 w) kk sd (P 4) (P 5) (P 1) le (P 3) (sc, ba, (fun _ => 0), mo)).2.2.2) (P 4) se) se) ((paM true n ((P 6) w) kk sd (P 4) (P 5) (P 1) le (P 3) (sc, ba, (fun _ => 0), mo)).1) ((paM true n ((P 6) w) kk sd (P 4) (P 5) (P 1) le (P 3) (sc, ba, (fun _ => 0), mo)).2.1) ((paM true n ((P 6) w) kk sd (P 4) (P 5) (P 1) le (P 3) (sc, ba, (fun _ => 0), mo)).2.2.1) le ((paM true n ((P 6) w) kk sd (P 4) (P 5) (P 1) le (P 3) (sc, ba, (fun _ => 0), mo)).2.2.2) j (by first | assumption | omega)) (cwV 1 C.hts gX7_week_X7_above rfl rfl rfl (by decide +kernel) ⟨Nat.le_of_ble_eq_true rfl, Nat.le_of_ble_eq_true rfl⟩) dX7_week_77 rfl 0 rfl rfl rfl rfl rfl (Nat.le_of_ble_eq_true rfl) ⟨Nat.le_of_ble_eq_true rfl, Nat.le_of_ble_eq_true rfl⟩ ?_
      refine pt_jn (q := 95) (k := 0) (n := 0) (wM cA aM th n it k td gn dr wk sv P (mapN j (s2M (P 6 w) (adM n sd (paM true n (P 6 w) kk sd (P 4) (P 5) (P 1) le (P 3) (sc, ba, (fun _ => 0), mo)).2.2.2) (P 4) se) (adM n sd (paM true n (P 6 w) kk sd (P 4) (P 5) (P 1) le (P 3) (sc, ba, (fun _ => 0), mo)).2.2.2)) (mapN j (e2M (P 6 w) (adM n sd (paM true n (P 6 w) kk sd (P 4) (P 5) (P 1) le (P 3) (sc, ba, (fun _ => 0), mo)).2.2.2) (P 4) se) se) ((paM true n ((P 6) w) kk sd (P 4) (P 5) (P 1) le (P 3) (sc, ba, (fun _ => 0), mo)).1) ((paM true n ((P 6) w) kk sd (P 4) (P 5) (P 1) le (P 3) (sc, ba, (fun _ => 0), mo)).2.1) ((paM true n ((P 6) w) kk sd (P 4) (P 5) (P 1) le (P 3) (sc, ba, (fun _ => 0), mo)).2.2.1) le ((paM true n ((P 6) w) kk sd (P 4) (P 5) (P 1) le (P 3) (sc, ba, (fun _ => 0), mo)).2.2.2)) [(4, .int (nI j)), (3, .int ((P 6) w)), (0, .ref (aM 0)), (1, .int (nI w)), (2, .int kk)] [.int (if (abM (mapN j (s2M (P 6 w) (adM n sd (paM true n (P 6 w) kk sd (P 4) (P 5) (P 1) le (P 3) (sc, ba, (fun _ => 0), mo)).2.2.2) (P 4) se) (adM n sd (paM true n (P 6 w) kk sd (P 4) (P 5) (P 1) le (P 3) (sc, ba, (fun _ => 0), mo)).2.2.2)) (P 4) j) ≤ (3 * ((P 6) w)) then abM (mapN j (s2M (P 6 w) (adM n sd (paM true n (P 6 w) kk sd (P 4) (P 5) (P 1) le (P 3) (sc, ba, (fun _ => 0), mo)).2.2.2) (P 4) se) (adM n sd (paM true n (P 6 w) kk sd (P 4) (P 5) (P 1) le (P 3) (sc, ba, (fun _ => 0), mo)).2.2.2)) (P 4) j else 3 * ((P 6) w))] (fun K => ?_) ?_
      · refine pt_icmp_ge (pc' := 83) (tgt := 89) C dX7_week_80 (by decide) rfl (fun h_80 => ?_) (fun h_80 => ?_)
        · refine pt_aload_n (pc' := 90) C dX7_week_89 rfl 2 rfl ?_
          refine pt_iload (pc' := 92) C dX7_week_90 rfl 0 rfl ?_
          refine pt_cvI0 (pc' := 95) (w1 := wM cA aM th n it k td gn dr wk sv P (mapN j (s2M (P 6 w) (adM n sd (paM true n (P 6 w) kk sd (P 4) (P 5) (P 1) le (P 3) (sc, ba, (fun _ => 0), mo)).2.2.2) (P 4) se) (adM n sd (paM true n (P 6 w) kk sd (P 4) (P 5) (P 1) le (P 3) (sc, ba, (fun _ => 0), mo)).2.2.2)) (mapN j (e2M (P 6 w) (adM n sd (paM true n (P 6 w) kk sd (P 4) (P 5) (P 1) le (P 3) (sc, ba, (fun _ => 0), mo)).2.2.2) (P 4) se) se) ((paM true n ((P 6) w) kk sd (P 4) (P 5) (P 1) le (P 3) (sc, ba, (fun _ => 0), mo)).1) ((paM true n ((P 6) w) kk sd (P 4) (P 5) (P 1) le (P 3) (sc, ba, (fun _ => 0), mo)).2.1) ((paM true n ((P 6) w) kk sd (P 4) (P 5) (P 1) le (P 3) (sc, ba, (fun _ => 0), mo)).2.2.1) le ((paM true n ((P 6) w) kk sd (P 4) (P 5) (P 1) le (P 3) (sc, ba, (fun _ => 0), mo)).2.2.2)) (As := [.int (nI j)]) (rest := []) C (mX7_above l D cA aM th n it k td gn dr wk sv P (mapN j (s2M (P 6 w) (adM n sd (paM true n (P 6 w) kk sd (P 4) (P 5) (P 1) le (P 3) (sc, ba, (fun _ => 0), mo)).2.2.2) (P 4) se) (adM n sd (paM true n (P 6 w) kk sd (P 4) (P 5) (P 1) le (P 3) (sc, ba, (fun _ => 0), mo)).2.2.2)) (mapN j (e2M (P 6 w) (adM n sd (paM true n (P 6 w) kk sd (P 4) (P 5) (P 1) le (P 3) (sc, ba, (fun _ => 0), mo)).2.2.2) (P 4) se) se) ((paM true n ((P 6) w) kk sd (P 4) (P 5) (P 1) le (P 3) (sc, ba, (fun _ => 0), mo)).1) ((paM true n ((P 6) w) kk sd (P 4) (P 5) (P 1) le (P 3) (sc, ba, (fun _ => 0), mo)).2.1) ((paM true n ((P 6) w) kk sd (P 4) (P 5) (P 1) le (P 3) (sc, ba, (fun _ => 0), mo)).2.2.1) le ((paM true n ((P 6) w) kk sd (P 4) (P 5) (P 1) le (P 3) (sc, ba, (fun _ => 0), mo)).2.2.2) j (by first | assumption | omega)) (cwV 1 C.hts gX7_week_X7_above rfl rfl rfl (by decide +kernel) ⟨Nat.le_of_ble_eq_true rfl, Nat.le_of_ble_eq_true rfl⟩) dX7_week_92 rfl 0 rfl rfl rfl rfl rfl (Nat.le_of_ble_eq_true rfl) ⟨Nat.le_of_ble_eq_true rfl, Nat.le_of_ble_eq_true rfl⟩ ?_
          exact pt_cv (lv' := [(4, .int (nI j)), (3, .int ((P 6) w)), (0, .ref (aM 0)), (1, .int (nI w)), (2, .int kk)]) rfl [0, 1, 2, 3, 4] rfl rfl (by simpa only [if_pos h_80] using K)
        · refine pt_iconst (pc' := 84) C dX7_week_83 rfl (v := 3) (by decide) ?_
          refine pt_iload_n (pc' := 85) C dX7_week_84 rfl 1 rfl ?_
          refine pt_imul (pc' := 86) C dX7_week_85 rfl ?_
          refine pt_goto (pc' := 95) C dX7_week_86 (by decide) ?_
          exact pt_cv (lv' := [(4, .int (nI j)), (3, .int ((P 6) w)), (0, .ref (aM 0)), (1, .int (nI w)), (2, .int kk)]) rfl [0, 1, 2, 3, 4] rfl rfl (by simpa only [if_neg h_80] using K)
      refine pt_istore (pc' := 97) (lv' := [(5, .int (if (abM (mapN j (s2M (P 6 w) (adM n sd (paM true n (P 6 w) kk sd (P 4) (P 5) (P 1) le (P 3) (sc, ba, (fun _ => 0), mo)).2.2.2) (P 4) se) (adM n sd (paM true n (P 6 w) kk sd (P 4) (P 5) (P 1) le (P 3) (sc, ba, (fun _ => 0), mo)).2.2.2)) (P 4) j) ≤ (3 * ((P 6) w)) then abM (mapN j (s2M (P 6 w) (adM n sd (paM true n (P 6 w) kk sd (P 4) (P 5) (P 1) le (P 3) (sc, ba, (fun _ => 0), mo)).2.2.2) (P 4) se) (adM n sd (paM true n (P 6 w) kk sd (P 4) (P 5) (P 1) le (P 3) (sc, ba, (fun _ => 0), mo)).2.2.2)) (P 4) j else 3 * ((P 6) w))), (4, .int (nI j)), (3, .int ((P 6) w)), (0, .ref (aM 0)), (1, .int (nI w)), (2, .int kk)]) C dX7_week_95 rfl (by decide) rfl ?_
      refine pt_aload_n (pc' := 98) C dX7_week_97 rfl 3 rfl ?_
      refine pt_get (pc' := 101) C in_7 dX7_week_98 rfl 0 19 rfl rfl (by decide) f_56 rfl ?_
      refine pt_iload (pc' := 103) C dX7_week_101 rfl 1 rfl ?_
      refine pt_dup2 (pc' := 104) C dX7_week_103 rfl rfl rfl ?_
      refine pt_iald (pc' := 105) C dX7_week_104 rfl 13 rfl rfl j (rfl) (by omega) (by decide) ?_
      refine pt_iload (pc' := 107) C dX7_week_105 rfl 0 rfl ?_
      refine pt_isub (pc' := 108) C dX7_week_107 rfl ?_
      refine pt_iast (pc' := 109) (ws' := wM cA aM th n it k td gn dr wk sv P (upd (mapN j (s2M (P 6 w) (adM n sd (paM true n (P 6 w) kk sd (P 4) (P 5) (P 1) le (P 3) (sc, ba, (fun _ => 0), mo)).2.2.2) (P 4) se) (adM n sd (paM true n (P 6 w) kk sd (P 4) (P 5) (P 1) le (P 3) (sc, ba, (fun _ => 0), mo)).2.2.2)) j (((mapN j (s2M (P 6 w) (adM n sd (paM true n (P 6 w) kk sd (P 4) (P 5) (P 1) le (P 3) (sc, ba, (fun _ => 0), mo)).2.2.2) (P 4) se) (adM n sd (paM true n (P 6 w) kk sd (P 4) (P 5) (P 1) le (P 3) (sc, ba, (fun _ => 0), mo)).2.2.2)) j) - (if (abM (mapN j (s2M (P 6 w) (adM n sd (paM true n (P 6 w) kk sd (P 4) (P 5) (P 1) le (P 3) (sc, ba, (fun _ => 0), mo)).2.2.2) (P 4) se) (adM n sd (paM true n (P 6 w) kk sd (P 4) (P 5) (P 1) le (P 3) (sc, ba, (fun _ => 0), mo)).2.2.2)) (P 4) j) ≤ (3 * ((P 6) w)) then abM (mapN j (s2M (P 6 w) (adM n sd (paM true n (P 6 w) kk sd (P 4) (P 5) (P 1) le (P 3) (sc, ba, (fun _ => 0), mo)).2.2.2) (P 4) se) (adM n sd (paM true n (P 6 w) kk sd (P 4) (P 5) (P 1) le (P 3) (sc, ba, (fun _ => 0), mo)).2.2.2)) (P 4) j else 3 * ((P 6) w)))) (mapN j (e2M (P 6 w) (adM n sd (paM true n (P 6 w) kk sd (P 4) (P 5) (P 1) le (P 3) (sc, ba, (fun _ => 0), mo)).2.2.2) (P 4) se) se) ((paM true n ((P 6) w) kk sd (P 4) (P 5) (P 1) le (P 3) (sc, ba, (fun _ => 0), mo)).1) ((paM true n ((P 6) w) kk sd (P 4) (P 5) (P 1) le (P 3) (sc, ba, (fun _ => 0), mo)).2.1) ((paM true n ((P 6) w) kk sd (P 4) (P 5) (P 1) le (P 3) (sc, ba, (fun _ => 0), mo)).2.2.1) le ((paM true n ((P 6) w) kk sd (P 4) (P 5) (P 1) le (P 3) (sc, ba, (fun _ => 0), mo)).2.2.2)) C dX7_week_108 rfl 13 rfl rfl j (rfl) (by omega) (by decide) rfl ?_
      refine pt_aload_n (pc' := 110) C dX7_week_109 rfl 3 rfl ?_
      refine pt_get (pc' := 113) C in_7 dX7_week_110 rfl 0 20 rfl rfl (by decide) f_59 rfl ?_
      refine pt_iload (pc' := 115) C dX7_week_113 rfl 1 rfl ?_
      refine pt_dup2 (pc' := 116) C dX7_week_115 rfl rfl rfl ?_
      refine pt_iald (pc' := 117) C dX7_week_116 rfl 14 rfl rfl j (rfl) (by omega) (by decide) ?_
      refine pt_iload (pc' := 119) C dX7_week_117 rfl 0 rfl ?_
      refine pt_iadd (pc' := 120) C dX7_week_119 rfl ?_
      refine pt_iast (pc' := 121) (ws' := wM cA aM th n it k td gn dr wk sv P (upd (mapN j (s2M (P 6 w) (adM n sd (paM true n (P 6 w) kk sd (P 4) (P 5) (P 1) le (P 3) (sc, ba, (fun _ => 0), mo)).2.2.2) (P 4) se) (adM n sd (paM true n (P 6 w) kk sd (P 4) (P 5) (P 1) le (P 3) (sc, ba, (fun _ => 0), mo)).2.2.2)) j (((mapN j (s2M (P 6 w) (adM n sd (paM true n (P 6 w) kk sd (P 4) (P 5) (P 1) le (P 3) (sc, ba, (fun _ => 0), mo)).2.2.2) (P 4) se) (adM n sd (paM true n (P 6 w) kk sd (P 4) (P 5) (P 1) le (P 3) (sc, ba, (fun _ => 0), mo)).2.2.2)) j) - (if (abM (mapN j (s2M (P 6 w) (adM n sd (paM true n (P 6 w) kk sd (P 4) (P 5) (P 1) le (P 3) (sc, ba, (fun _ => 0), mo)).2.2.2) (P 4) se) (adM n sd (paM true n (P 6 w) kk sd (P 4) (P 5) (P 1) le (P 3) (sc, ba, (fun _ => 0), mo)).2.2.2)) (P 4) j) ≤ (3 * ((P 6) w)) then abM (mapN j (s2M (P 6 w) (adM n sd (paM true n (P 6 w) kk sd (P 4) (P 5) (P 1) le (P 3) (sc, ba, (fun _ => 0), mo)).2.2.2) (P 4) se) (adM n sd (paM true n (P 6 w) kk sd (P 4) (P 5) (P 1) le (P 3) (sc, ba, (fun _ => 0), mo)).2.2.2)) (P 4) j else 3 * ((P 6) w)))) (upd (mapN j (e2M (P 6 w) (adM n sd (paM true n (P 6 w) kk sd (P 4) (P 5) (P 1) le (P 3) (sc, ba, (fun _ => 0), mo)).2.2.2) (P 4) se) se) j (((mapN j (e2M (P 6 w) (adM n sd (paM true n (P 6 w) kk sd (P 4) (P 5) (P 1) le (P 3) (sc, ba, (fun _ => 0), mo)).2.2.2) (P 4) se) se) j) + (if (abM (mapN j (s2M (P 6 w) (adM n sd (paM true n (P 6 w) kk sd (P 4) (P 5) (P 1) le (P 3) (sc, ba, (fun _ => 0), mo)).2.2.2) (P 4) se) (adM n sd (paM true n (P 6 w) kk sd (P 4) (P 5) (P 1) le (P 3) (sc, ba, (fun _ => 0), mo)).2.2.2)) (P 4) j) ≤ (3 * ((P 6) w)) then abM (mapN j (s2M (P 6 w) (adM n sd (paM true n (P 6 w) kk sd (P 4) (P 5) (P 1) le (P 3) (sc, ba, (fun _ => 0), mo)).2.2.2) (P 4) se) (adM n sd (paM true n (P 6 w) kk sd (P 4) (P 5) (P 1) le (P 3) (sc, ba, (fun _ => 0), mo)).2.2.2)) (P 4) j else 3 * ((P 6) w)))) ((paM true n ((P 6) w) kk sd (P 4) (P 5) (P 1) le (P 3) (sc, ba, (fun _ => 0), mo)).1) ((paM true n ((P 6) w) kk sd (P 4) (P 5) (P 1) le (P 3) (sc, ba, (fun _ => 0), mo)).2.1) ((paM true n ((P 6) w) kk sd (P 4) (P 5) (P 1) le (P 3) (sc, ba, (fun _ => 0), mo)).2.2.1) le ((paM true n ((P 6) w) kk sd (P 4) (P 5) (P 1) le (P 3) (sc, ba, (fun _ => 0), mo)).2.2.2)) C dX7_week_120 rfl 14 rfl rfl j (rfl) (by omega) (by decide) rfl ?_
      refine pt_goto (pc' := 162) C dX7_week_121 (by decide) ?_
      refine pt_iinc (pc' := 165) (v := nI (j + 1)) (lv' := [(4, .int (nI (j + 1))), (5, .int (if (abM (mapN j (s2M (P 6 w) (adM n sd (paM true n (P 6 w) kk sd (P 4) (P 5) (P 1) le (P 3) (sc, ba, (fun _ => 0), mo)).2.2.2) (P 4) se) (adM n sd (paM true n (P 6 w) kk sd (P 4) (P 5) (P 1) le (P 3) (sc, ba, (fun _ => 0), mo)).2.2.2)) (P 4) j) ≤ (3 * ((P 6) w)) then abM (mapN j (s2M (P 6 w) (adM n sd (paM true n (P 6 w) kk sd (P 4) (P 5) (P 1) le (P 3) (sc, ba, (fun _ => 0), mo)).2.2.2) (P 4) se) (adM n sd (paM true n (P 6 w) kk sd (P 4) (P 5) (P 1) le (P 3) (sc, ba, (fun _ => 0), mo)).2.2.2)) (P 4) j else 3 * ((P 6) w))), (3, .int ((P 6) w)), (0, .ref (aM 0)), (1, .int (nI w)), (2, .int kk)]) C dX7_week_162 rfl 1 rfl (nI_1 _) (by decide) rfl ?_
      refine pt_goto (pc' := 56) C dX7_week_165 (by decide) ?_
      exact pt_cv (by rw [mapN_s j (s2M (P 6 w) (adM n sd (paM true n (P 6 w) kk sd (P 4) (P 5) (P 1) le (P 3) (sc, ba, (fun _ => 0), mo)).2.2.2) (P 4) se) (adM n sd (paM true n (P 6 w) kk sd (P 4) (P 5) (P 1) le (P 3) (sc, ba, (fun _ => 0), mo)).2.2.2) (by rw [s2M, if_neg h_68, abM_at, mapN_at]), mapN_s j (e2M (P 6 w) (adM n sd (paM true n (P 6 w) kk sd (P 4) (P 5) (P 1) le (P 3) (sc, ba, (fun _ => 0), mo)).2.2.2) (P 4) se) se (by rw [e2M, if_neg h_68, abM_at, mapN_at])]) [0, 2, 3, 4, 5] (rfl) rfl ih_56
  refine pt_iload (pc' := 58) C dX7_week_56 rfl 0 rfl ?_
  refine pt_aload_n (pc' := 59) C dX7_week_58 rfl 2 rfl ?_
  refine pt_get (pc' := 62) C in_7 dX7_week_59 rfl 0 1 rfl rfl (by decide) f_13 rfl ?_
  refine pt_icmp_ge (pc' := 65) (tgt := 168) C dX7_week_62 (by decide) rfl (fun h_62 => ?_) (fun h_62 => absurd (nI_le (Nat.le_refl n) (by omega)) h_62)
  exact pt_vret C hr hk dX7_week_168 (rfl)

set_option maxHeartbeats 4000000 in
set_option maxRecDepth 100000 in
theorem cX7_week_2 (l : Launch) (D : va_G) (cA : ClassId) (aM : Nat → Nat) (th : Int32) (n : Nat) (it : Int32) (k : Int32) (td : Nat) (gn : Nat) (dr : Nat) (wk : Nat) (sv : Nat) (P : Nat → Nat → Int32) (sd : Nat → Int32) (se : Nat → Int32) (sc : Nat → Int32) (ba : Nat → Int32) (pa : Nat → Int32) (le : Nat → Int32) (mo : Nat → Int32) (w : Nat) (kk : Int32) (hn : 2 ≤ n) (hm : n ≤ 12) (hw : w < 120) (hs : P 7 w = 2) : mt_V l yX7_week wsX7_week { frames := 4, cells := 0, slots := 0, locals := 102 } D [(cA, .int)] [.ref (aM 0), .int (nI w), .int kk] (wM cA aM th n it k td gn dr wk sv P sd se sc ba pa le mo) (wM cA aM th n it k td gn dr wk sv P (mapN n (s2M (P 6 w) sd (P 4) se) sd) (mapN n (e2M (P 6 w) sd (P 4) se) se) sc ba (fun _ => 0) le mo) := by
  refine mt_ofV (cc := cX7_week) (maxL := 6) (ret := none) (lv := [(0, .ref (aM 0)), (1, .int (nI w)), (2, .int kk)]) (by decide) rfl (Nat.le_of_ble_eq_true rfl) rfl ?_
  intro p e s m args below meth c A C hr hk
  have f_38 := C.hts (.fieldLink RX7 38 "ShoreFieldsModel" "height" "[I") (by decide +kernel)
  have in_7 : ∀ w ∈ u_ws RX7 TX7 37, w ∈ wsX7_week := by decide +kernel
  have f_68 := C.hts (.fieldLink RX7 68 "ShoreFieldsModel" "passed" "[I") (by decide +kernel)
  have f_41 := C.hts (.fieldLink RX7 41 "ShoreFieldsModel" "side" "[I") (by decide +kernel)
  have f_13 := C.hts (.fieldLink RX7 13 "ShoreFieldsModel" "fields" "I") (by decide +kernel)
  have f_59 := C.hts (.fieldLink RX7 59 "ShoreFieldsModel" "sea" "[I") (by decide +kernel)
  have f_56 := C.hts (.fieldLink RX7 56 "ShoreFieldsModel" "sand" "[I") (by decide +kernel)
  refine pt_aload_n (pc' := 1) C dX7_week_0 rfl 0 rfl ?_
  refine pt_get (pc' := 4) C in_7 dX7_week_1 rfl 0 11 rfl rfl (by decide) f_38 rfl ?_
  refine pt_iload_n (pc' := 5) C dX7_week_4 rfl 1 rfl ?_
  refine pt_iald (pc' := 6) C dX7_week_5 rfl 7 rfl rfl w (rfl) (by omega) (by decide) ?_
  refine pt_istore_n (pc' := 7) (lv' := [(3, .int ((P 6) w)), (0, .ref (aM 0)), (1, .int (nI w)), (2, .int kk)]) C dX7_week_6 rfl rfl (by decide) rfl ?_
  refine pt_iconst (pc' := 8) C dX7_week_7 rfl (v := 0) (by decide) ?_
  refine pt_istore (pc' := 10) (lv' := [(4, .int 0), (3, .int ((P 6) w)), (0, .ref (aM 0)), (1, .int (nI w)), (2, .int kk)]) C dX7_week_8 rfl (by decide) rfl ?_
  refine pt_cv (ws' := wM cA aM th n it k td gn dr wk sv P sd se sc ba (flN 0 0 pa) le mo) (lv' := [(4, .int (nI 0)), (3, .int ((P 6) w)), (0, .ref (aM 0)), (1, .int (nI w)), (2, .int kk)]) (by rw [flN_0]) [0, 1, 2, 3, 4] (rfl) rfl ?_
  refine pt_for (wsf := fun j => wM cA aM th n it k td gn dr wk sv P sd se sc ba (flN j 0 pa) le mo) (lvf := fun j => [(4, .int (nI j)), (3, .int ((P 6) w)), (0, .ref (aM 0)), (1, .int (nI w)), (2, .int kk)]) 13 ?_ (fun j hj_10 ih_10 => ?_)
  rotate_left
  · refine pt_iload (pc' := 12) C dX7_week_10 rfl 0 rfl ?_
    refine pt_bipush (pc' := 14) C dX7_week_12 rfl (v := 13) (by decide) ?_
    refine pt_icmp_ge (pc' := 17) (tgt := 31) C dX7_week_14 (by decide) rfl (fun h_14 => absurd h_14 (nI_ge hj_10 (by decide))) (fun h_14 => ?_)
    refine pt_aload_n (pc' := 18) C dX7_week_17 rfl 2 rfl ?_
    refine pt_get (pc' := 21) C in_7 dX7_week_18 rfl 0 23 rfl rfl (by decide) f_68 rfl ?_
    refine pt_iload (pc' := 23) C dX7_week_21 rfl 0 rfl ?_
    refine pt_iconst (pc' := 24) C dX7_week_23 rfl (v := 0) (by decide) ?_
    refine pt_iast (pc' := 25) (ws' := wM cA aM th n it k td gn dr wk sv P sd se sc ba (upd (flN j 0 pa) j 0) le mo) C dX7_week_24 rfl 17 rfl rfl j (rfl) (by omega) (by decide) rfl ?_
    refine pt_iinc (pc' := 28) (v := nI (j + 1)) (lv' := [(4, .int (nI (j + 1))), (3, .int ((P 6) w)), (0, .ref (aM 0)), (1, .int (nI w)), (2, .int kk)]) C dX7_week_25 rfl 0 rfl (nI_1 _) (by decide) rfl ?_
    refine pt_goto (pc' := 10) C dX7_week_28 (by decide) ?_
    exact pt_cv (by rw [flN_s]) [0, 1, 2, 3, 4] (rfl) rfl ih_10
  refine pt_iload (pc' := 12) C dX7_week_10 rfl 0 rfl ?_
  refine pt_bipush (pc' := 14) C dX7_week_12 rfl (v := 13) (by decide) ?_
  refine pt_icmp_ge (pc' := 17) (tgt := 31) C dX7_week_14 (by decide) rfl (fun h_14 => ?_) (fun h_14 => absurd (nI_le (Nat.le_refl 13) (by decide)) h_14)
  refine pt_ext (ws' := wM cA aM th n it k td gn dr wk sv P sd se sc ba (fun _ => 0) le mo) (fun _ => 0) 17 rfl (fun j hj => by simp only [flN, if_pos hj]) rfl ?_
  refine pt_aload_n (pc' := 32) C dX7_week_31 rfl 2 rfl ?_
  refine pt_get (pc' := 35) C in_7 dX7_week_32 rfl 0 12 rfl rfl (by decide) f_41 rfl ?_
  refine pt_iload_n (pc' := 36) C dX7_week_35 rfl 3 rfl ?_
  refine pt_iald (pc' := 37) C dX7_week_36 rfl 8 rfl rfl w (rfl) (by omega) (by decide) ?_
  refine pt_eq (st' := [.int 2]) rfl rfl (by rw [hs]) ?_
  refine pt_iconst (pc' := 38) C dX7_week_37 rfl (v := 2) (by decide) ?_
  refine pt_icmp_ge (pc' := 41) (tgt := 53) C dX7_week_38 (by decide) rfl (fun h_38 => ?_) (fun h_38 => absurd (by decide) h_38)
  refine pt_iconst (pc' := 54) C dX7_week_53 rfl (v := 0) (by decide) ?_
  refine pt_istore (pc' := 56) (lv' := [(4, .int 0), (3, .int ((P 6) w)), (0, .ref (aM 0)), (1, .int (nI w)), (2, .int kk)]) C dX7_week_54 rfl (by decide) rfl ?_
  refine pt_cv (ws' := wM cA aM th n it k td gn dr wk sv P (mapN 0 (s2M (P 6 w) sd (P 4) se) sd) (mapN 0 (e2M (P 6 w) sd (P 4) se) se) sc ba (fun _ => 0) le mo) (lv' := [(4, .int (nI 0)), (3, .int ((P 6) w)), (0, .ref (aM 0)), (1, .int (nI w)), (2, .int kk)]) (by rw [mapN_0, mapN_0]) [0, 1, 2, 3, 4] (rfl) rfl ?_
  refine pt_for (wsf := fun j => wM cA aM th n it k td gn dr wk sv P (mapN j (s2M (P 6 w) sd (P 4) se) sd) (mapN j (e2M (P 6 w) sd (P 4) se) se) sc ba (fun _ => 0) le mo) (lvf := fun j => [(4, .int (nI j)), (3, .int ((P 6) w)), (0, .ref (aM 0)), (1, .int (nI w)), (2, .int kk)]) n ?_ (fun j hj_56 ih_56 => ?_)
  rotate_left
  · refine pt_iload (pc' := 58) C dX7_week_56 rfl 0 rfl ?_
    refine pt_aload_n (pc' := 59) C dX7_week_58 rfl 2 rfl ?_
    refine pt_get (pc' := 62) C in_7 dX7_week_59 rfl 0 1 rfl rfl (by decide) f_13 rfl ?_
    refine pt_icmp_ge (pc' := 65) (tgt := 168) C dX7_week_62 (by decide) rfl (fun h_62 => absurd h_62 (nI_ge hj_56 (by omega))) (fun h_62 => ?_)
    refine pt_iload_n (pc' := 66) C dX7_week_65 rfl 1 rfl ?_
    refine pt_bipush (pc' := 68) C dX7_week_66 rfl (v := 7) (by decide) ?_
    refine pt_icmp_lt (pc' := 71) (tgt := 124) C dX7_week_68 (by decide) rfl (fun h_68 => ?_) (fun h_68 => ?_)
    · refine pt_iload_n (pc' := 125) C dX7_week_124 rfl 1 rfl ?_
      refine pt_iconst (pc' := 126) C dX7_week_125 rfl (v := 2) (by decide) ?_
      refine pt_icmp_gt (pc' := 129) (tgt := 162) C dX7_week_126 (by decide) rfl (fun h_126 => ?_) (fun h_126 => ?_)
      · refine pt_iinc (pc' := 165) (v := nI (j + 1)) (lv' := [(4, .int (nI (j + 1))), (3, .int ((P 6) w)), (0, .ref (aM 0)), (1, .int (nI w)), (2, .int kk)]) C dX7_week_162 rfl 0 rfl (nI_1 _) (by decide) rfl ?_
        refine pt_goto (pc' := 56) C dX7_week_165 (by decide) ?_
        exact pt_cv (by rw [mapN_k j (s2M (P 6 w) sd (P 4) se) sd (by simp only [s2M, if_pos h_68, if_pos h_126]), mapN_k j (e2M (P 6 w) sd (P 4) se) se (by simp only [e2M, if_pos h_68, if_pos h_126])]) [0, 1, 2, 3, 4] (rfl) rfl ih_56
      · refine pt_aload_n (pc' := 130) C dX7_week_129 rfl 2 rfl ?_
        refine pt_get (pc' := 133) C in_7 dX7_week_130 rfl 0 20 rfl rfl (by decide) f_59 rfl ?_
        refine pt_iload (pc' := 135) C dX7_week_133 rfl 0 rfl ?_
        refine pt_iald (pc' := 136) C dX7_week_135 rfl 14 rfl rfl j (rfl) (by omega) (by decide) ?_
        refine pt_iconst (pc' := 137) C dX7_week_136 rfl (v := 3) (by decide) ?_
        refine pt_iadd (pc' := 138) C dX7_week_137 rfl ?_
        refine pt_iconst (pc' := 139) C dX7_week_138 rfl (v := 4) (by decide) ?_
        refine pt_idiv (pc' := 140) C dX7_week_139 rfl (by decide) ?_
        refine pt_istore (pc' := 142) (lv' := [(5, .int ((((mapN j (e2M (P 6 w) sd (P 4) se) se) j) + 3) / 4)), (4, .int (nI j)), (3, .int ((P 6) w)), (0, .ref (aM 0)), (1, .int (nI w)), (2, .int kk)]) C dX7_week_140 rfl (by decide) rfl ?_
        refine pt_aload_n (pc' := 143) C dX7_week_142 rfl 3 rfl ?_
        refine pt_get (pc' := 146) C in_7 dX7_week_143 rfl 0 20 rfl rfl (by decide) f_59 rfl ?_
        refine pt_iload (pc' := 148) C dX7_week_146 rfl 1 rfl ?_
        refine pt_dup2 (pc' := 149) C dX7_week_148 rfl rfl rfl ?_
        refine pt_iald (pc' := 150) C dX7_week_149 rfl 14 rfl rfl j (rfl) (by omega) (by decide) ?_
        refine pt_iload (pc' := 152) C dX7_week_150 rfl 0 rfl ?_
        refine pt_isub (pc' := 153) C dX7_week_152 rfl ?_
        refine pt_iast (pc' := 154) (ws' := wM cA aM th n it k td gn dr wk sv P (mapN j (s2M (P 6 w) sd (P 4) se) sd) (upd (mapN j (e2M (P 6 w) sd (P 4) se) se) j (((mapN j (e2M (P 6 w) sd (P 4) se) se) j) - ((((mapN j (e2M (P 6 w) sd (P 4) se) se) j) + 3) / 4))) sc ba (fun _ => 0) le mo) C dX7_week_153 rfl 14 rfl rfl j (rfl) (by omega) (by decide) rfl ?_
        refine pt_aload_n (pc' := 155) C dX7_week_154 rfl 3 rfl ?_
        refine pt_iload (pc' := 157) C dX7_week_155 rfl 1 rfl ?_
        refine pt_iload (pc' := 159) C dX7_week_157 rfl 0 rfl ?_
        refine pt_cvV0 (pc' := 162) (w1 := wM cA aM th n it k td gn dr wk sv P (brM (mapN j (s2M (P 6 w) sd (P 4) se) sd) j ((((mapN j (e2M (P 6 w) sd (P 4) se) se) j) + 3) / 4)) (upd (mapN j (e2M (P 6 w) sd (P 4) se) se) j (((mapN j (e2M (P 6 w) sd (P 4) se) se) j) - ((((mapN j (e2M (P 6 w) sd (P 4) se) se) j) + 3) / 4))) sc ba (fun _ => 0) le mo) (As := [.int (nI j), .int ((((mapN j (e2M (P 6 w) sd (P 4) se) se) j) + 3) / 4)]) (rest := []) C (mX7_brings l D cA aM th n it k td gn dr wk sv P (mapN j (s2M (P 6 w) sd (P 4) se) sd) (upd (mapN j (e2M (P 6 w) sd (P 4) se) se) j (((mapN j (e2M (P 6 w) sd (P 4) se) se) j) - ((((mapN j (e2M (P 6 w) sd (P 4) se) se) j) + 3) / 4))) sc ba (fun _ => 0) le mo j ((((mapN j (e2M (P 6 w) sd (P 4) se) se) j) + 3) / 4) (by first | assumption | omega)) (cwV 2 C.hts gX7_week_X7_brings rfl rfl rfl (by decide +kernel) ⟨Nat.le_of_ble_eq_true rfl, Nat.le_of_ble_eq_true rfl⟩) dX7_week_159 rfl 0 rfl rfl rfl rfl rfl (Nat.le_of_ble_eq_true rfl) ⟨Nat.le_of_ble_eq_true rfl, Nat.le_of_ble_eq_true rfl⟩ ?_
        refine pt_iinc (pc' := 165) (v := nI (j + 1)) (lv' := [(4, .int (nI (j + 1))), (5, .int ((((mapN j (e2M (P 6 w) sd (P 4) se) se) j) + 3) / 4)), (3, .int ((P 6) w)), (0, .ref (aM 0)), (1, .int (nI w)), (2, .int kk)]) C dX7_week_162 rfl 1 rfl (nI_1 _) (by decide) rfl ?_
        refine pt_goto (pc' := 56) C dX7_week_165 (by decide) ?_
        exact pt_cv (by rw [brM, mapN_s j (s2M (P 6 w) sd (P 4) se) sd (by simp only [s2M, mapN_at, if_pos h_68, if_neg h_126]), mapN_s j (e2M (P 6 w) sd (P 4) se) se (by simp only [e2M, mapN_at, if_pos h_68, if_neg h_126])]) [0, 2, 3, 4, 5] (rfl) rfl ih_56
    · refine pt_iconst (pc' := 72) C dX7_week_71 rfl (v := 3) (by decide) ?_
      refine pt_iload_n (pc' := 73) C dX7_week_72 rfl 1 rfl ?_
      refine pt_imul (pc' := 74) C dX7_week_73 rfl ?_
      refine pt_aload_n (pc' := 75) C dX7_week_74 rfl 2 rfl ?_
      refine pt_iload (pc' := 77) C dX7_week_75 rfl 0 rfl ?_
      refine pt_cvI0 (pc' := 80) (w1 := wM cA aM th n it k td gn dr wk sv P (mapN j (s2M (P 6 w) sd (P 4) se) sd) (mapN j (e2M (P 6 w) sd (P 4) se) se) sc ba (fun _ => 0) le mo) (As := [.int (nI j)]) (rest := [.int (3 * ((P 6) w))]) C (mX7_above l D cA aM th n it k td gn dr wk sv P (mapN j (s2M (P 6 w) sd (P 4) se) sd) (mapN j (e2M (P 6 w) sd (P 4) se) se) sc ba (fun _ => 0) le mo j (by first | assumption | omega)) (cwV 1 C.hts gX7_week_X7_above rfl rfl rfl (by decide +kernel) ⟨Nat.le_of_ble_eq_true rfl, Nat.le_of_ble_eq_true rfl⟩) dX7_week_77 rfl 0 rfl rfl rfl rfl rfl (Nat.le_of_ble_eq_true rfl) ⟨Nat.le_of_ble_eq_true rfl, Nat.le_of_ble_eq_true rfl⟩ ?_
      refine pt_jn (q := 95) (k := 0) (n := 0) (wM cA aM th n it k td gn dr wk sv P (mapN j (s2M (P 6 w) sd (P 4) se) sd) (mapN j (e2M (P 6 w) sd (P 4) se) se) sc ba (fun _ => 0) le mo) [(4, .int (nI j)), (3, .int ((P 6) w)), (0, .ref (aM 0)), (1, .int (nI w)), (2, .int kk)] [.int (if (abM (mapN j (s2M (P 6 w) sd (P 4) se) sd) (P 4) j) ≤ (3 * ((P 6) w)) then abM (mapN j (s2M (P 6 w) sd (P 4) se) sd) (P 4) j else 3 * ((P 6) w))] (fun K => ?_) ?_
      · refine pt_icmp_ge (pc' := 83) (tgt := 89) C dX7_week_80 (by decide) rfl (fun h_80 => ?_) (fun h_80 => ?_)
        · refine pt_aload_n (pc' := 90) C dX7_week_89 rfl 2 rfl ?_
          refine pt_iload (pc' := 92) C dX7_week_90 rfl 0 rfl ?_
          refine pt_cvI0 (pc' := 95) (w1 := wM cA aM th n it k td gn dr wk sv P (mapN j (s2M (P 6 w) sd (P 4) se) sd) (mapN j (e2M (P 6 w) sd (P 4) se) se) sc ba (fun _ => 0) le mo) (As := [.int (nI j)]) (rest := []) C (mX7_above l D cA aM th n it k td gn dr wk sv P (mapN j (s2M (P 6 w) sd (P 4) se) sd) (mapN j (e2M (P 6 w) sd (P 4) se) se) sc ba (fun _ => 0) le mo j (by first | assumption | omega)) (cwV 1 C.hts gX7_week_X7_above rfl rfl rfl (by decide +kernel) ⟨Nat.le_of_ble_eq_true rfl, Nat.le_of_ble_eq_true rfl⟩) dX7_week_92 rfl 0 rfl rfl rfl rfl rfl (Nat.le_of_ble_eq_true rfl) ⟨Nat.le_of_ble_eq_true rfl, Nat.le_of_ble_eq_true rfl⟩ ?_
          exact pt_cv (lv' := [(4, .int (nI j)), (3, .int ((P 6) w)), (0, .ref (aM 0)), (1, .int (nI w)), (2, .int kk)]) rfl [0, 1, 2, 3, 4] rfl rfl (by simpa only [if_pos h_80] using K)
        · refine pt_iconst (pc' := 84) C dX7_week_83 rfl (v := 3) (by decide) ?_
          refine pt_iload_n (pc' := 85) C dX7_week_84 rfl 1 rfl ?_
          refine pt_imul (pc' := 86) C dX7_week_85 rfl ?_
          refine pt_goto (pc' := 95) C dX7_week_86 (by decide) ?_
          exact pt_cv (lv' := [(4, .int (nI j)), (3, .int ((P 6) w)), (0, .ref (aM 0)), (1, .int (nI w)), (2, .int kk)]) rfl [0, 1, 2, 3, 4] rfl rfl (by simpa only [if_neg h_80] using K)
      refine pt_istore (pc' := 97) (lv' := [(5, .int (if (abM (mapN j (s2M (P 6 w) sd (P 4) se) sd) (P 4) j) ≤ (3 * ((P 6) w)) then abM (mapN j (s2M (P 6 w) sd (P 4) se) sd) (P 4) j else 3 * ((P 6) w))), (4, .int (nI j)), (3, .int ((P 6) w)), (0, .ref (aM 0)), (1, .int (nI w)), (2, .int kk)]) C dX7_week_95 rfl (by decide) rfl ?_
      refine pt_aload_n (pc' := 98) C dX7_week_97 rfl 3 rfl ?_
      refine pt_get (pc' := 101) C in_7 dX7_week_98 rfl 0 19 rfl rfl (by decide) f_56 rfl ?_
      refine pt_iload (pc' := 103) C dX7_week_101 rfl 1 rfl ?_
      refine pt_dup2 (pc' := 104) C dX7_week_103 rfl rfl rfl ?_
      refine pt_iald (pc' := 105) C dX7_week_104 rfl 13 rfl rfl j (rfl) (by omega) (by decide) ?_
      refine pt_iload (pc' := 107) C dX7_week_105 rfl 0 rfl ?_
      refine pt_isub (pc' := 108) C dX7_week_107 rfl ?_
      refine pt_iast (pc' := 109) (ws' := wM cA aM th n it k td gn dr wk sv P (upd (mapN j (s2M (P 6 w) sd (P 4) se) sd) j (((mapN j (s2M (P 6 w) sd (P 4) se) sd) j) - (if (abM (mapN j (s2M (P 6 w) sd (P 4) se) sd) (P 4) j) ≤ (3 * ((P 6) w)) then abM (mapN j (s2M (P 6 w) sd (P 4) se) sd) (P 4) j else 3 * ((P 6) w)))) (mapN j (e2M (P 6 w) sd (P 4) se) se) sc ba (fun _ => 0) le mo) C dX7_week_108 rfl 13 rfl rfl j (rfl) (by omega) (by decide) rfl ?_
      refine pt_aload_n (pc' := 110) C dX7_week_109 rfl 3 rfl ?_
      refine pt_get (pc' := 113) C in_7 dX7_week_110 rfl 0 20 rfl rfl (by decide) f_59 rfl ?_
      refine pt_iload (pc' := 115) C dX7_week_113 rfl 1 rfl ?_
      refine pt_dup2 (pc' := 116) C dX7_week_115 rfl rfl rfl ?_
      refine pt_iald (pc' := 117) C dX7_week_116 rfl 14 rfl rfl j (rfl) (by omega) (by decide) ?_
      refine pt_iload (pc' := 119) C dX7_week_117 rfl 0 rfl ?_
      refine pt_iadd (pc' := 120) C dX7_week_119 rfl ?_
      refine pt_iast (pc' := 121) (ws' := wM cA aM th n it k td gn dr wk sv P (upd (mapN j (s2M (P 6 w) sd (P 4) se) sd) j (((mapN j (s2M (P 6 w) sd (P 4) se) sd) j) - (if (abM (mapN j (s2M (P 6 w) sd (P 4) se) sd) (P 4) j) ≤ (3 * ((P 6) w)) then abM (mapN j (s2M (P 6 w) sd (P 4) se) sd) (P 4) j else 3 * ((P 6) w)))) (upd (mapN j (e2M (P 6 w) sd (P 4) se) se) j (((mapN j (e2M (P 6 w) sd (P 4) se) se) j) + (if (abM (mapN j (s2M (P 6 w) sd (P 4) se) sd) (P 4) j) ≤ (3 * ((P 6) w)) then abM (mapN j (s2M (P 6 w) sd (P 4) se) sd) (P 4) j else 3 * ((P 6) w)))) sc ba (fun _ => 0) le mo) C dX7_week_120 rfl 14 rfl rfl j (rfl) (by omega) (by decide) rfl ?_
      refine pt_goto (pc' := 162) C dX7_week_121 (by decide) ?_
      refine pt_iinc (pc' := 165) (v := nI (j + 1)) (lv' := [(4, .int (nI (j + 1))), (5, .int (if (abM (mapN j (s2M (P 6 w) sd (P 4) se) sd) (P 4) j) ≤ (3 * ((P 6) w)) then abM (mapN j (s2M (P 6 w) sd (P 4) se) sd) (P 4) j else 3 * ((P 6) w))), (3, .int ((P 6) w)), (0, .ref (aM 0)), (1, .int (nI w)), (2, .int kk)]) C dX7_week_162 rfl 1 rfl (nI_1 _) (by decide) rfl ?_
      refine pt_goto (pc' := 56) C dX7_week_165 (by decide) ?_
      exact pt_cv (by rw [mapN_s j (s2M (P 6 w) sd (P 4) se) sd (by rw [s2M, if_neg h_68, abM_at, mapN_at]), mapN_s j (e2M (P 6 w) sd (P 4) se) se (by rw [e2M, if_neg h_68, abM_at, mapN_at])]) [0, 2, 3, 4, 5] (rfl) rfl ih_56
  refine pt_iload (pc' := 58) C dX7_week_56 rfl 0 rfl ?_
  refine pt_aload_n (pc' := 59) C dX7_week_58 rfl 2 rfl ?_
  refine pt_get (pc' := 62) C in_7 dX7_week_59 rfl 0 1 rfl rfl (by decide) f_13 rfl ?_
  refine pt_icmp_ge (pc' := 65) (tgt := 168) C dX7_week_62 (by decide) rfl (fun h_62 => ?_) (fun h_62 => absurd (nI_le (Nat.le_refl n) (by omega)) h_62)
  exact pt_vret C hr hk dX7_week_168 (rfl)

theorem mX7_week (l : Launch) (D : va_G) (cA : ClassId) (aM : Nat → Nat) (th : Int32) (n : Nat) (it : Int32) (k : Int32) (td : Nat) (gn : Nat) (dr : Nat) (wk : Nat) (sv : Nat) (P : Nat → Nat → Int32) (sd : Nat → Int32) (se : Nat → Int32) (sc : Nat → Int32) (ba : Nat → Int32) (pa : Nat → Int32) (le : Nat → Int32) (mo : Nat → Int32) (w : Nat) (kk : Int32) (hn : 2 ≤ n) (hm : n ≤ 12) (hw : w < 120) (hs : P 7 w = 0 ∨ P 7 w = 1 ∨ P 7 w = 2) : mt_V l yX7_week wsX7_week { frames := 4, cells := 0, slots := 0, locals := 102 } D [(cA, .int)] [.ref (aM 0), .int (nI w), .int kk] (wM cA aM th n it k td gn dr wk sv P sd se sc ba pa le mo) (wM cA aM th n it k td gn dr wk sv P ((wkM n kk P le w (sd, se, sc, ba, pa, mo)).1) ((wkM n kk P le w (sd, se, sc, ba, pa, mo)).2.1) ((wkM n kk P le w (sd, se, sc, ba, pa, mo)).2.2.1) ((wkM n kk P le w (sd, se, sc, ba, pa, mo)).2.2.2.1) ((wkM n kk P le w (sd, se, sc, ba, pa, mo)).2.2.2.2.1) le ((wkM n kk P le w (sd, se, sc, ba, pa, mo)).2.2.2.2.2)) := by
  rcases hs with hs | hs | hs
  · have e : wkM n kk P le w (sd, se, sc, ba, pa, mo) = wk1 false n (P 6 w) kk P le (sd, se, sc, ba, pa, mo) := if_pos hs
    rw [e]; exact cX7_week_0 l D cA aM th n it k td gn dr wk sv P sd se sc ba pa le mo w kk hn hm hw hs
  · have e : wkM n kk P le w (sd, se, sc, ba, pa, mo) = wk1 true n (P 6 w) kk P le (sd, se, sc, ba, pa, mo) := by rw [wkM, if_neg (by rw [hs]; decide), if_pos hs]
    rw [e]; exact cX7_week_1 l D cA aM th n it k td gn dr wk sv P sd se sc ba pa le mo w kk hn hm hw hs
  · have e : wkM n kk P le w (sd, se, sc, ba, pa, mo) = wk2 n (P 6 w) P (sd, se, sc, ba, pa, mo) := by rw [wkM, if_neg (by rw [hs]; decide), if_neg (by rw [hs]; decide)]
    rw [e]; exact cX7_week_2 l D cA aM th n it k td gn dr wk sv P sd se sc ba pa le mo w kk hn hm hw hs
