set_option maxHeartbeats 4000000 in
set_option maxRecDepth 100000 in
theorem mX7_begins (l : Launch) (D : va_G) (cA : ClassId) (aM : Nat → Nat) (th : Int32) (n : Nat) (it : Int32) (k : Int32) (td : Nat) (gn : Nat) (dr : Nat) (wk : Nat) (sv : Nat) (P : Nat → Nat → Int32) (sd : Nat → Int32) (se : Nat → Int32) (sc : Nat → Int32) (ba : Nat → Int32) (pa : Nat → Int32) (le : Nat → Int32) (mo : Nat → Int32) (wo : Int32) : mt_V l yX7_begins wsX7_begins { frames := 0, cells := 0, slots := 0, locals := 0 } D [(cA, .int)] [.ref (aM 0), .int wo] (wM cA aM th n it k td gn dr wk sv P sd se sc ba pa le mo) (wM cA aM th n it k td gn dr wk sv P (P 0) (fun _ => 0) (fun _ => 0) (fun _ => 0) (fun _ => 0) (leM wo (P 1) (P 2)) mo) := by
  refine mt_ofV (cc := cX7_begins) (maxL := 3) (ret := none) (lv := [(0, .ref (aM 0)), (1, .int wo)]) (by decide) rfl (Nat.le_of_ble_eq_true rfl) rfl ?_
  intro p e s m args below meth c A C hr hk
  have f_56 := C.hts (.fieldLink RX7 56 "ShoreFieldsModel" "sand" "[I") (by decide +kernel)
  have in_7 : ∀ w ∈ u_ws RX7 TX7 37, w ∈ wsX7_begins := by decide +kernel
  have f_16 := C.hts (.fieldLink RX7 16 "ShoreFieldsModel" "begin" "[I") (by decide +kernel)
  have f_59 := C.hts (.fieldLink RX7 59 "ShoreFieldsModel" "sea" "[I") (by decide +kernel)
  have f_62 := C.hts (.fieldLink RX7 62 "ShoreFieldsModel" "scour" "[I") (by decide +kernel)
  have f_65 := C.hts (.fieldLink RX7 65 "ShoreFieldsModel" "bar" "[I") (by decide +kernel)
  have f_68 := C.hts (.fieldLink RX7 68 "ShoreFieldsModel" "passed" "[I") (by decide +kernel)
  have f_71 := C.hts (.fieldLink RX7 71 "ShoreFieldsModel" "lengths" "[I") (by decide +kernel)
  have f_20 := C.hts (.fieldLink RX7 20 "ShoreFieldsModel" "kind" "[I") (by decide +kernel)
  have f_23 := C.hts (.fieldLink RX7 23 "ShoreFieldsModel" "length" "[I") (by decide +kernel)
  refine pt_iconst (pc' := 1) C dX7_begins_0 rfl (v := 0) (by decide) ?_
  refine pt_istore_n (pc' := 2) (lv' := [(2, .int 0), (0, .ref (aM 0)), (1, .int wo)]) C dX7_begins_1 rfl rfl (by decide) rfl ?_
  refine pt_cv (ws' := wM cA aM th n it k td gn dr wk sv P (mapN 0 (P 0) sd) (flN 0 0 se) (flN 0 0 sc) ba pa le mo) (lv' := [(2, .int (nI 0)), (0, .ref (aM 0)), (1, .int wo)]) (by rw [mapN_0, flN_0, flN_0]) [0, 1, 2] (rfl) rfl ?_
  refine pt_for (wsf := fun j => wM cA aM th n it k td gn dr wk sv P (mapN j (P 0) sd) (flN j 0 se) (flN j 0 sc) ba pa le mo) (lvf := fun j => [(2, .int (nI j)), (0, .ref (aM 0)), (1, .int wo)]) 12 ?_ (fun j hj_2 ih_2 => ?_)
  rotate_left
  · refine pt_iload_n (pc' := 3) C dX7_begins_2 rfl 0 rfl ?_
    refine pt_bipush (pc' := 5) C dX7_begins_3 rfl (v := 12) (by decide) ?_
    refine pt_icmp_ge (pc' := 8) (tgt := 40) C dX7_begins_5 (by decide) rfl (fun h_5 => absurd h_5 (nI_ge hj_2 (by decide))) (fun h_5 => ?_)
    refine pt_aload_n (pc' := 9) C dX7_begins_8 rfl 1 rfl ?_
    refine pt_get (pc' := 12) C in_7 dX7_begins_9 rfl 0 19 rfl rfl (by decide) f_56 rfl ?_
    refine pt_iload_n (pc' := 13) C dX7_begins_12 rfl 0 rfl ?_
    refine pt_aload_n (pc' := 14) C dX7_begins_13 rfl 1 rfl ?_
    refine pt_get (pc' := 17) C in_7 dX7_begins_14 rfl 0 3 rfl rfl (by decide) f_16 rfl ?_
    refine pt_iload_n (pc' := 18) C dX7_begins_17 rfl 0 rfl ?_
    refine pt_iald (pc' := 19) C dX7_begins_18 rfl 1 rfl rfl j (rfl) (by omega) (by decide) ?_
    refine pt_iast (pc' := 20) (ws' := wM cA aM th n it k td gn dr wk sv P (upd (mapN j (P 0) sd) j ((P 0) j)) (flN j 0 se) (flN j 0 sc) ba pa le mo) C dX7_begins_19 rfl 13 rfl rfl j (rfl) (by omega) (by decide) rfl ?_
    refine pt_aload_n (pc' := 21) C dX7_begins_20 rfl 1 rfl ?_
    refine pt_get (pc' := 24) C in_7 dX7_begins_21 rfl 0 20 rfl rfl (by decide) f_59 rfl ?_
    refine pt_iload_n (pc' := 25) C dX7_begins_24 rfl 0 rfl ?_
    refine pt_iconst (pc' := 26) C dX7_begins_25 rfl (v := 0) (by decide) ?_
    refine pt_iast (pc' := 27) (ws' := wM cA aM th n it k td gn dr wk sv P (upd (mapN j (P 0) sd) j ((P 0) j)) (upd (flN j 0 se) j 0) (flN j 0 sc) ba pa le mo) C dX7_begins_26 rfl 14 rfl rfl j (rfl) (by omega) (by decide) rfl ?_
    refine pt_aload_n (pc' := 28) C dX7_begins_27 rfl 1 rfl ?_
    refine pt_get (pc' := 31) C in_7 dX7_begins_28 rfl 0 21 rfl rfl (by decide) f_62 rfl ?_
    refine pt_iload_n (pc' := 32) C dX7_begins_31 rfl 0 rfl ?_
    refine pt_iconst (pc' := 33) C dX7_begins_32 rfl (v := 0) (by decide) ?_
    refine pt_iast (pc' := 34) (ws' := wM cA aM th n it k td gn dr wk sv P (upd (mapN j (P 0) sd) j ((P 0) j)) (upd (flN j 0 se) j 0) (upd (flN j 0 sc) j 0) ba pa le mo) C dX7_begins_33 rfl 15 rfl rfl j (rfl) (by omega) (by decide) rfl ?_
    refine pt_iinc (pc' := 37) (v := nI (j + 1)) (lv' := [(2, .int (nI (j + 1))), (0, .ref (aM 0)), (1, .int wo)]) C dX7_begins_34 rfl 0 rfl (nI_1 _) (by decide) rfl ?_
    refine pt_goto (pc' := 2) C dX7_begins_37 (by decide) ?_
    exact pt_cv (by rw [mapN_s _ _ _ rfl, flN_s, flN_s]) [0, 1, 2] (rfl) rfl ih_2
  refine pt_iload_n (pc' := 3) C dX7_begins_2 rfl 0 rfl ?_
  refine pt_bipush (pc' := 5) C dX7_begins_3 rfl (v := 12) (by decide) ?_
  refine pt_icmp_ge (pc' := 8) (tgt := 40) C dX7_begins_5 (by decide) rfl (fun h_5 => ?_) (fun h_5 => absurd (nI_le (Nat.le_refl 12) (by decide)) h_5)
  refine pt_ext (ws' := wM cA aM th n it k td gn dr wk sv P (P 0) (flN 12 0 se) (flN 12 0 sc) ba pa le mo) (P 0) 13 rfl (fun j hj => by simp only [mapN, if_pos hj]) rfl ?_
  refine pt_ext (ws' := wM cA aM th n it k td gn dr wk sv P (P 0) (fun _ => 0) (flN 12 0 sc) ba pa le mo) (fun _ => 0) 14 rfl (fun j hj => by simp only [flN, if_pos hj]) rfl ?_
  refine pt_ext (ws' := wM cA aM th n it k td gn dr wk sv P (P 0) (fun _ => 0) (fun _ => 0) ba pa le mo) (fun _ => 0) 15 rfl (fun j hj => by simp only [flN, if_pos hj]) rfl ?_
  refine pt_iconst (pc' := 41) C dX7_begins_40 rfl (v := 0) (by decide) ?_
  refine pt_istore_n (pc' := 42) (lv' := [(2, .int 0), (0, .ref (aM 0)), (1, .int wo)]) C dX7_begins_41 rfl rfl (by decide) rfl ?_
  refine pt_cv (ws' := wM cA aM th n it k td gn dr wk sv P (P 0) (fun _ => 0) (fun _ => 0) (flN 0 0 ba) (flN 0 0 pa) (mapN 0 (leM wo (P 1) (P 2)) le) mo) (lv' := [(2, .int (nI 0)), (0, .ref (aM 0)), (1, .int wo)]) (by rw [mapN_0, flN_0, flN_0]) [0, 1, 2] (rfl) rfl ?_
  refine pt_for (wsf := fun j => wM cA aM th n it k td gn dr wk sv P (P 0) (fun _ => 0) (fun _ => 0) (flN j 0 ba) (flN j 0 pa) (mapN j (leM wo (P 1) (P 2)) le) mo) (lvf := fun j => [(2, .int (nI j)), (0, .ref (aM 0)), (1, .int wo)]) 13 ?_ (fun j hj_42 ih_42 => ?_)
  rotate_left
  · refine pt_iload_n (pc' := 43) C dX7_begins_42 rfl 0 rfl ?_
    refine pt_bipush (pc' := 45) C dX7_begins_43 rfl (v := 13) (by decide) ?_
    refine pt_icmp_ge (pc' := 48) (tgt := 102) C dX7_begins_45 (by decide) rfl (fun h_45 => absurd h_45 (nI_ge hj_42 (by decide))) (fun h_45 => ?_)
    refine pt_aload_n (pc' := 49) C dX7_begins_48 rfl 1 rfl ?_
    refine pt_get (pc' := 52) C in_7 dX7_begins_49 rfl 0 22 rfl rfl (by decide) f_65 rfl ?_
    refine pt_iload_n (pc' := 53) C dX7_begins_52 rfl 0 rfl ?_
    refine pt_iconst (pc' := 54) C dX7_begins_53 rfl (v := 0) (by decide) ?_
    refine pt_iast (pc' := 55) (ws' := wM cA aM th n it k td gn dr wk sv P (P 0) (fun _ => 0) (fun _ => 0) (upd (flN j 0 ba) j 0) (flN j 0 pa) (mapN j (leM wo (P 1) (P 2)) le) mo) C dX7_begins_54 rfl 16 rfl rfl j (rfl) (by omega) (by decide) rfl ?_
    refine pt_aload_n (pc' := 56) C dX7_begins_55 rfl 1 rfl ?_
    refine pt_get (pc' := 59) C in_7 dX7_begins_56 rfl 0 23 rfl rfl (by decide) f_68 rfl ?_
    refine pt_iload_n (pc' := 60) C dX7_begins_59 rfl 0 rfl ?_
    refine pt_iconst (pc' := 61) C dX7_begins_60 rfl (v := 0) (by decide) ?_
    refine pt_iast (pc' := 62) (ws' := wM cA aM th n it k td gn dr wk sv P (P 0) (fun _ => 0) (fun _ => 0) (upd (flN j 0 ba) j 0) (upd (flN j 0 pa) j 0) (mapN j (leM wo (P 1) (P 2)) le) mo) C dX7_begins_61 rfl 17 rfl rfl j (rfl) (by omega) (by decide) rfl ?_
    refine pt_aload_n (pc' := 63) C dX7_begins_62 rfl 1 rfl ?_
    refine pt_get (pc' := 66) C in_7 dX7_begins_63 rfl 0 24 rfl rfl (by decide) f_71 rfl ?_
    refine pt_iload_n (pc' := 67) C dX7_begins_66 rfl 0 rfl ?_
    refine pt_aload_n (pc' := 68) C dX7_begins_67 rfl 1 rfl ?_
    refine pt_get (pc' := 71) C in_7 dX7_begins_68 rfl 0 4 rfl rfl (by decide) f_20 rfl ?_
    refine pt_iload_n (pc' := 72) C dX7_begins_71 rfl 0 rfl ?_
    refine pt_iald (pc' := 73) C dX7_begins_72 rfl 2 rfl rfl j (rfl) (by omega) (by decide) ?_
    refine pt_iconst (pc' := 74) C dX7_begins_73 rfl (v := 1) (by decide) ?_
    refine pt_jn (q := 95) (k := 0) (n := 0) (wM cA aM th n it k td gn dr wk sv P (P 0) (fun _ => 0) (fun _ => 0) (upd (flN j 0 ba) j 0) (upd (flN j 0 pa) j 0) (mapN j (leM wo (P 1) (P 2)) le) mo) [(2, .int (nI j)), (0, .ref (aM 0)), (1, .int wo)] [.int (if ((P 1) j) = 1 then if ((wo >>> ((nI j) &&& 31)) &&& 1) = 0 then (P 2) j else 0 else 0), .int (nI j), .ref (aM 18)] (fun K => ?_) ?_
    · refine pt_icmp_ne (pc' := 77) (tgt := 94) C dX7_begins_74 (by decide) rfl (fun h_74 => ?_) (fun h_74 => ?_)
      · refine pt_iconst (pc' := 95) C dX7_begins_94 rfl (v := 0) (by decide) ?_
        exact pt_cv (lv' := [(2, .int (nI j)), (0, .ref (aM 0)), (1, .int wo)]) rfl [0, 1, 2] rfl rfl (by simpa only [if_neg h_74] using K)
      · refine pt_iload_n (pc' := 78) C dX7_begins_77 rfl 2 rfl ?_
        refine pt_iload_n (pc' := 79) C dX7_begins_78 rfl 0 rfl ?_
        refine pt_ishr (pc' := 80) C dX7_begins_79 rfl ?_
        refine pt_iconst (pc' := 81) C dX7_begins_80 rfl (v := 1) (by decide) ?_
        refine pt_iand (pc' := 82) C dX7_begins_81 rfl ?_
        refine pt_if_ne (pc' := 85) (tgt := 94) C dX7_begins_82 (by decide) rfl (fun h_82 => ?_) (fun h_82 => ?_)
        · refine pt_iconst (pc' := 95) C dX7_begins_94 rfl (v := 0) (by decide) ?_
          exact pt_cv (lv' := [(2, .int (nI j)), (0, .ref (aM 0)), (1, .int wo)]) rfl [0, 1, 2] rfl rfl (by simpa only [if_pos h_74, if_neg h_82] using K)
        · refine pt_aload_n (pc' := 86) C dX7_begins_85 rfl 1 rfl ?_
          refine pt_get (pc' := 89) C in_7 dX7_begins_86 rfl 0 5 rfl rfl (by decide) f_23 rfl ?_
          refine pt_iload_n (pc' := 90) C dX7_begins_89 rfl 0 rfl ?_
          refine pt_iald (pc' := 91) C dX7_begins_90 rfl 3 rfl rfl j (rfl) (by omega) (by decide) ?_
          refine pt_goto (pc' := 95) C dX7_begins_91 (by decide) ?_
          exact pt_cv (lv' := [(2, .int (nI j)), (0, .ref (aM 0)), (1, .int wo)]) rfl [0, 1, 2] rfl rfl (by simpa only [if_pos h_74, if_pos h_82] using K)
    refine pt_iast (pc' := 96) (ws' := wM cA aM th n it k td gn dr wk sv P (P 0) (fun _ => 0) (fun _ => 0) (upd (flN j 0 ba) j 0) (upd (flN j 0 pa) j 0) (upd (mapN j (leM wo (P 1) (P 2)) le) j (if ((P 1) j) = 1 then if ((wo >>> ((nI j) &&& 31)) &&& 1) = 0 then (P 2) j else 0 else 0)) mo) C dX7_begins_95 rfl 18 rfl rfl j (rfl) (by omega) (by decide) rfl ?_
    refine pt_iinc (pc' := 99) (v := nI (j + 1)) (lv' := [(2, .int (nI (j + 1))), (0, .ref (aM 0)), (1, .int wo)]) C dX7_begins_96 rfl 0 rfl (nI_1 _) (by decide) rfl ?_
    refine pt_goto (pc' := 42) C dX7_begins_99 (by decide) ?_
    exact pt_cv (by rw [mapN_s j (leM wo (P 1) (P 2)) le (x := if P 1 j = 1 then (if (wo >>> (nI j &&& 31)) &&& 1 = 0 then P 2 j else 0) else 0) rfl, flN_s, flN_s]) [0, 1, 2] (rfl) rfl ih_42
  refine pt_iload_n (pc' := 43) C dX7_begins_42 rfl 0 rfl ?_
  refine pt_bipush (pc' := 45) C dX7_begins_43 rfl (v := 13) (by decide) ?_
  refine pt_icmp_ge (pc' := 48) (tgt := 102) C dX7_begins_45 (by decide) rfl (fun h_45 => ?_) (fun h_45 => absurd (nI_le (Nat.le_refl 13) (by decide)) h_45)
  refine pt_ext (ws' := wM cA aM th n it k td gn dr wk sv P (P 0) (fun _ => 0) (fun _ => 0) (fun _ => 0) (flN 13 0 pa) (mapN 13 (leM wo (P 1) (P 2)) le) mo) (fun _ => 0) 16 rfl (fun j hj => by simp only [flN, if_pos hj]) rfl ?_
  refine pt_ext (ws' := wM cA aM th n it k td gn dr wk sv P (P 0) (fun _ => 0) (fun _ => 0) (fun _ => 0) (fun _ => 0) (mapN 13 (leM wo (P 1) (P 2)) le) mo) (fun _ => 0) 17 rfl (fun j hj => by simp only [flN, if_pos hj]) rfl ?_
  refine pt_ext (ws' := wM cA aM th n it k td gn dr wk sv P (P 0) (fun _ => 0) (fun _ => 0) (fun _ => 0) (fun _ => 0) (leM wo (P 1) (P 2)) mo) (leM wo (P 1) (P 2)) 18 rfl (fun j hj => by simp only [mapN, if_pos hj]) rfl ?_
  exact pt_vret C hr hk dX7_begins_102 (rfl)

set_option maxHeartbeats 4000000 in
set_option maxRecDepth 100000 in
theorem mX7_dredged (l : Launch) (D : va_G) (cA : ClassId) (aM : Nat → Nat) (th : Int32) (n : Nat) (it : Int32) (k : Int32) (td : Nat) (gn : Nat) (dr : Nat) (wk : Nat) (sv : Nat) (P : Nat → Nat → Int32) (sd : Nat → Int32) (se : Nat → Int32) (sc : Nat → Int32) (ba : Nat → Int32) (pa : Nat → Int32) (le : Nat → Int32) (mo : Nat → Int32) (w : Int32) (q : Nat) (hq : q ≤ 20) (hD : ∀ i, i < q → dOk (P 8) (P 10) i) : mt_V l yX7_dredged wsX7_dredged { frames := 1, cells := 0, slots := 0, locals := 22 } D [(cA, .int)] [.ref (aM 0), .int w, .int (nI q)] (wM cA aM th n it k td gn dr wk sv P sd se sc ba pa le mo) (wM cA aM th n it k td gn dr wk sv P ((dgsM w q P (sd, ba)).1) se sc ((dgsM w q P (sd, ba)).2) pa le mo) := by
  refine mt_ofV (cc := cX7_dredged) (maxL := 6) (ret := none) (lv := [(0, .ref (aM 0)), (1, .int w), (2, .int (nI q))]) (by decide) rfl (Nat.le_of_ble_eq_true rfl) rfl ?_
  intro p e s m args below meth c A C hr hk
  have f_53 := C.hts (.fieldLink RX7 53 "ShoreFieldsModel" "dredgeOn" "[I") (by decide +kernel)
  have in_7 : ∀ w ∈ u_ws RX7 TX7 37, w ∈ wsX7_dredged := by decide +kernel
  have f_44 := C.hts (.fieldLink RX7 44 "ShoreFieldsModel" "dredgeOf" "[I") (by decide +kernel)
  have f_47 := C.hts (.fieldLink RX7 47 "ShoreFieldsModel" "dredgeUnits" "[I") (by decide +kernel)
  have f_65 := C.hts (.fieldLink RX7 65 "ShoreFieldsModel" "bar" "[I") (by decide +kernel)
  have f_50 := C.hts (.fieldLink RX7 50 "ShoreFieldsModel" "dredgeTo" "[I") (by decide +kernel)
  refine pt_iconst (pc' := 1) C dX7_dredged_0 rfl (v := 0) (by decide) ?_
  refine pt_istore_n (pc' := 2) (lv' := [(3, .int 0), (0, .ref (aM 0)), (1, .int w), (2, .int (nI q))]) C dX7_dredged_1 rfl rfl (by decide) rfl ?_
  refine pt_cv (ws' := wM cA aM th n it k td gn dr wk sv P ((itz (dgM w (P 8) (P 9) (P 10) (P 11)) 0 (sd, ba)).1) se sc ((itz (dgM w (P 8) (P 9) (P 10) (P 11)) 0 (sd, ba)).2) pa le mo) (lv' := [(3, .int (nI 0)), (0, .ref (aM 0)), (1, .int w), (2, .int (nI q))]) (rfl) [0, 1, 2, 3] (rfl) rfl ?_
  refine pt_for (wsf := fun j => wM cA aM th n it k td gn dr wk sv P ((itz (dgM w (P 8) (P 9) (P 10) (P 11)) j (sd, ba)).1) se sc ((itz (dgM w (P 8) (P 9) (P 10) (P 11)) j (sd, ba)).2) pa le mo) (lvf := fun j => [(3, .int (nI j)), (0, .ref (aM 0)), (1, .int w), (2, .int (nI q))]) q ?_ (fun j hj_2 ih_2 => ?_)
  rotate_left
  · refine pt_iload_n (pc' := 3) C dX7_dredged_2 rfl 0 rfl ?_
    refine pt_iload_n (pc' := 4) C dX7_dredged_3 rfl 3 rfl ?_
    refine pt_icmp_ge (pc' := 7) (tgt := 89) C dX7_dredged_4 (by decide) rfl (fun h_4 => absurd h_4 (nI_ge hj_2 (by omega))) (fun h_4 => ?_)
    refine pt_aload_n (pc' := 8) C dX7_dredged_7 rfl 1 rfl ?_
    refine pt_get (pc' := 11) C in_7 dX7_dredged_8 rfl 0 18 rfl rfl (by decide) f_53 rfl ?_
    refine pt_iload_n (pc' := 12) C dX7_dredged_11 rfl 0 rfl ?_
    refine pt_iald (pc' := 13) C dX7_dredged_12 rfl 12 rfl rfl j (rfl) (by omega) (by decide) ?_
    refine pt_iload_n (pc' := 14) C dX7_dredged_13 rfl 2 rfl ?_
    refine pt_icmp_ne (pc' := 17) (tgt := 83) C dX7_dredged_14 (by decide) rfl (fun h_14 => ?_) (fun h_14 => ?_)
    · refine pt_iinc (pc' := 86) (v := nI (j + 1)) (lv' := [(3, .int (nI (j + 1))), (0, .ref (aM 0)), (1, .int w), (2, .int (nI q))]) C dX7_dredged_83 rfl 0 rfl (nI_1 _) (by decide) rfl ?_
      refine pt_goto (pc' := 2) C dX7_dredged_86 (by decide) ?_
      exact pt_cv (by simp only [itz_s, dgM, if_neg h_14]) [0, 1, 2, 3] (rfl) rfl ih_2
    · refine pt_aload_n (pc' := 18) C dX7_dredged_17 rfl 1 rfl ?_
      refine pt_get (pc' := 21) C in_7 dX7_dredged_18 rfl 0 15 rfl rfl (by decide) f_44 rfl ?_
      refine pt_iload_n (pc' := 22) C dX7_dredged_21 rfl 0 rfl ?_
      refine pt_iald (pc' := 23) C dX7_dredged_22 rfl 9 rfl rfl j (rfl) (by omega) (by decide) ?_
      refine pt_eq (st' := [.int (nI ((P 8) j).toNatClampNeg)]) rfl rfl (by rw [← (hD j hj_2).1.1]) ?_
      refine pt_istore (pc' := 25) (lv' := [(4, .int (nI ((P 8) j).toNatClampNeg)), (3, .int (nI j)), (0, .ref (aM 0)), (1, .int w), (2, .int (nI q))]) C dX7_dredged_23 rfl (by decide) rfl ?_
      refine pt_aload_n (pc' := 26) C dX7_dredged_25 rfl 2 rfl ?_
      refine pt_get (pc' := 29) C in_7 dX7_dredged_26 rfl 0 16 rfl rfl (by decide) f_47 rfl ?_
      refine pt_iload_n (pc' := 30) C dX7_dredged_29 rfl 1 rfl ?_
      refine pt_iald (pc' := 31) C dX7_dredged_30 rfl 10 rfl rfl j (rfl) (by omega) (by decide) ?_
      refine pt_aload_n (pc' := 32) C dX7_dredged_31 rfl 2 rfl ?_
      refine pt_get (pc' := 35) C in_7 dX7_dredged_32 rfl 0 22 rfl rfl (by decide) f_65 rfl ?_
      refine pt_iload (pc' := 37) C dX7_dredged_35 rfl 0 rfl ?_
      refine pt_iald (pc' := 38) C dX7_dredged_37 rfl 16 rfl rfl (((P 8) j).toNatClampNeg) (rfl) ((hD j hj_2).1.2) (by decide) ?_
      refine pt_jn (q := 57) (k := 0) (n := 0) (wM cA aM th n it k td gn dr wk sv P ((itz (dgM w (P 8) (P 9) (P 10) (P 11)) j (sd, ba)).1) se sc ((itz (dgM w (P 8) (P 9) (P 10) (P 11)) j (sd, ba)).2) pa le mo) [(4, .int (nI ((P 8) j).toNatClampNeg)), (3, .int (nI j)), (0, .ref (aM 0)), (1, .int w), (2, .int (nI q))] [.int (if (((itz (dgM w (P 8) (P 9) (P 10) (P 11)) j (sd, ba)).2) (((P 8) j).toNatClampNeg)) ≤ ((P 9) j) then ((itz (dgM w (P 8) (P 9) (P 10) (P 11)) j (sd, ba)).2) (((P 8) j).toNatClampNeg) else (P 9) j)] (fun K => ?_) ?_
      · refine pt_icmp_ge (pc' := 41) (tgt := 50) C dX7_dredged_38 (by decide) rfl (fun h_38 => ?_) (fun h_38 => ?_)
        · refine pt_aload_n (pc' := 51) C dX7_dredged_50 rfl 2 rfl ?_
          refine pt_get (pc' := 54) C in_7 dX7_dredged_51 rfl 0 22 rfl rfl (by decide) f_65 rfl ?_
          refine pt_iload (pc' := 56) C dX7_dredged_54 rfl 0 rfl ?_
          refine pt_iald (pc' := 57) C dX7_dredged_56 rfl 16 rfl rfl (((P 8) j).toNatClampNeg) (rfl) ((hD j hj_2).1.2) (by decide) ?_
          exact pt_cv (lv' := [(4, .int (nI ((P 8) j).toNatClampNeg)), (3, .int (nI j)), (0, .ref (aM 0)), (1, .int w), (2, .int (nI q))]) rfl [0, 1, 2, 3, 4] rfl rfl (by simpa only [if_pos h_38] using K)
        · refine pt_aload_n (pc' := 42) C dX7_dredged_41 rfl 2 rfl ?_
          refine pt_get (pc' := 45) C in_7 dX7_dredged_42 rfl 0 16 rfl rfl (by decide) f_47 rfl ?_
          refine pt_iload_n (pc' := 46) C dX7_dredged_45 rfl 1 rfl ?_
          refine pt_iald (pc' := 47) C dX7_dredged_46 rfl 10 rfl rfl j (rfl) (by omega) (by decide) ?_
          refine pt_goto (pc' := 57) C dX7_dredged_47 (by decide) ?_
          exact pt_cv (lv' := [(4, .int (nI ((P 8) j).toNatClampNeg)), (3, .int (nI j)), (0, .ref (aM 0)), (1, .int w), (2, .int (nI q))]) rfl [0, 1, 2, 3, 4] rfl rfl (by simpa only [if_neg h_38] using K)
      refine pt_istore (pc' := 59) (lv' := [(5, .int (if (((itz (dgM w (P 8) (P 9) (P 10) (P 11)) j (sd, ba)).2) (((P 8) j).toNatClampNeg)) ≤ ((P 9) j) then ((itz (dgM w (P 8) (P 9) (P 10) (P 11)) j (sd, ba)).2) (((P 8) j).toNatClampNeg) else (P 9) j)), (4, .int (nI ((P 8) j).toNatClampNeg)), (3, .int (nI j)), (0, .ref (aM 0)), (1, .int w), (2, .int (nI q))]) C dX7_dredged_57 rfl (by decide) rfl ?_
      refine pt_aload_n (pc' := 60) C dX7_dredged_59 rfl 3 rfl ?_
      refine pt_get (pc' := 63) C in_7 dX7_dredged_60 rfl 0 22 rfl rfl (by decide) f_65 rfl ?_
      refine pt_iload (pc' := 65) C dX7_dredged_63 rfl 1 rfl ?_
      refine pt_dup2 (pc' := 66) C dX7_dredged_65 rfl rfl rfl ?_
      refine pt_iald (pc' := 67) C dX7_dredged_66 rfl 16 rfl rfl (((P 8) j).toNatClampNeg) (rfl) ((hD j hj_2).1.2) (by decide) ?_
      refine pt_iload (pc' := 69) C dX7_dredged_67 rfl 0 rfl ?_
      refine pt_isub (pc' := 70) C dX7_dredged_69 rfl ?_
      refine pt_iast (pc' := 71) (ws' := wM cA aM th n it k td gn dr wk sv P ((itz (dgM w (P 8) (P 9) (P 10) (P 11)) j (sd, ba)).1) se sc (upd ((itz (dgM w (P 8) (P 9) (P 10) (P 11)) j (sd, ba)).2) (((P 8) j).toNatClampNeg) ((((itz (dgM w (P 8) (P 9) (P 10) (P 11)) j (sd, ba)).2) (((P 8) j).toNatClampNeg)) - (if (((itz (dgM w (P 8) (P 9) (P 10) (P 11)) j (sd, ba)).2) (((P 8) j).toNatClampNeg)) ≤ ((P 9) j) then ((itz (dgM w (P 8) (P 9) (P 10) (P 11)) j (sd, ba)).2) (((P 8) j).toNatClampNeg) else (P 9) j))) pa le mo) C dX7_dredged_70 rfl 16 rfl rfl (((P 8) j).toNatClampNeg) (rfl) ((hD j hj_2).1.2) (by decide) rfl ?_
      refine pt_aload_n (pc' := 72) C dX7_dredged_71 rfl 3 rfl ?_
      refine pt_aload_n (pc' := 73) C dX7_dredged_72 rfl 3 rfl ?_
      refine pt_get (pc' := 76) C in_7 dX7_dredged_73 rfl 0 17 rfl rfl (by decide) f_50 rfl ?_
      refine pt_iload_n (pc' := 77) C dX7_dredged_76 rfl 2 rfl ?_
      refine pt_iald (pc' := 78) C dX7_dredged_77 rfl 11 rfl rfl j (rfl) (by omega) (by decide) ?_
      refine pt_iload (pc' := 80) C dX7_dredged_78 rfl 0 rfl ?_
      refine pt_eq (st' := [.int (if (((itz (dgM w (P 8) (P 9) (P 10) (P 11)) j (sd, ba)).2) (((P 8) j).toNatClampNeg)) ≤ ((P 9) j) then ((itz (dgM w (P 8) (P 9) (P 10) (P 11)) j (sd, ba)).2) (((P 8) j).toNatClampNeg) else (P 9) j), .int (nI ((P 10) j).toNatClampNeg), .ref (aM 0)]) rfl rfl (by rw [← (hD j hj_2).2.1]) ?_
      refine pt_cvV0 (pc' := 83) (w1 := wM cA aM th n it k td gn dr wk sv P (brM ((itz (dgM w (P 8) (P 9) (P 10) (P 11)) j (sd, ba)).1) (((P 10) j).toNatClampNeg) (if (((itz (dgM w (P 8) (P 9) (P 10) (P 11)) j (sd, ba)).2) (((P 8) j).toNatClampNeg)) ≤ ((P 9) j) then ((itz (dgM w (P 8) (P 9) (P 10) (P 11)) j (sd, ba)).2) (((P 8) j).toNatClampNeg) else (P 9) j)) se sc (upd ((itz (dgM w (P 8) (P 9) (P 10) (P 11)) j (sd, ba)).2) (((P 8) j).toNatClampNeg) ((((itz (dgM w (P 8) (P 9) (P 10) (P 11)) j (sd, ba)).2) (((P 8) j).toNatClampNeg)) - (if (((itz (dgM w (P 8) (P 9) (P 10) (P 11)) j (sd, ba)).2) (((P 8) j).toNatClampNeg)) ≤ ((P 9) j) then ((itz (dgM w (P 8) (P 9) (P 10) (P 11)) j (sd, ba)).2) (((P 8) j).toNatClampNeg) else (P 9) j))) pa le mo) (As := [.int (nI ((P 10) j).toNatClampNeg), .int (if (((itz (dgM w (P 8) (P 9) (P 10) (P 11)) j (sd, ba)).2) (((P 8) j).toNatClampNeg)) ≤ ((P 9) j) then ((itz (dgM w (P 8) (P 9) (P 10) (P 11)) j (sd, ba)).2) (((P 8) j).toNatClampNeg) else (P 9) j)]) (rest := []) C (mX7_brings l D cA aM th n it k td gn dr wk sv P ((itz (dgM w (P 8) (P 9) (P 10) (P 11)) j (sd, ba)).1) se sc (upd ((itz (dgM w (P 8) (P 9) (P 10) (P 11)) j (sd, ba)).2) (((P 8) j).toNatClampNeg) ((((itz (dgM w (P 8) (P 9) (P 10) (P 11)) j (sd, ba)).2) (((P 8) j).toNatClampNeg)) - (if (((itz (dgM w (P 8) (P 9) (P 10) (P 11)) j (sd, ba)).2) (((P 8) j).toNatClampNeg)) ≤ ((P 9) j) then ((itz (dgM w (P 8) (P 9) (P 10) (P 11)) j (sd, ba)).2) (((P 8) j).toNatClampNeg) else (P 9) j))) pa le mo (((P 10) j).toNatClampNeg) (if (((itz (dgM w (P 8) (P 9) (P 10) (P 11)) j (sd, ba)).2) (((P 8) j).toNatClampNeg)) ≤ ((P 9) j) then ((itz (dgM w (P 8) (P 9) (P 10) (P 11)) j (sd, ba)).2) (((P 8) j).toNatClampNeg) else (P 9) j) ((hD j hj_2).2.2)) (cwV 2 C.hts gX7_dredged_X7_brings rfl rfl rfl (by decide +kernel) ⟨Nat.le_of_ble_eq_true rfl, Nat.le_of_ble_eq_true rfl⟩) dX7_dredged_80 rfl 0 rfl rfl rfl rfl rfl (Nat.le_of_ble_eq_true rfl) ⟨Nat.le_of_ble_eq_true rfl, Nat.le_of_ble_eq_true rfl⟩ ?_
      refine pt_iinc (pc' := 86) (v := nI (j + 1)) (lv' := [(3, .int (nI (j + 1))), (5, .int (if (((itz (dgM w (P 8) (P 9) (P 10) (P 11)) j (sd, ba)).2) (((P 8) j).toNatClampNeg)) ≤ ((P 9) j) then ((itz (dgM w (P 8) (P 9) (P 10) (P 11)) j (sd, ba)).2) (((P 8) j).toNatClampNeg) else (P 9) j)), (4, .int (nI ((P 8) j).toNatClampNeg)), (0, .ref (aM 0)), (1, .int w), (2, .int (nI q))]) C dX7_dredged_83 rfl 2 rfl (nI_1 _) (by decide) rfl ?_
      refine pt_goto (pc' := 2) C dX7_dredged_86 (by decide) ?_
      exact pt_cv (by simp only [itz_s, dgM, if_pos h_14]) [0, 3, 4, 5] (rfl) rfl ih_2
  refine pt_iload_n (pc' := 3) C dX7_dredged_2 rfl 0 rfl ?_
  refine pt_iload_n (pc' := 4) C dX7_dredged_3 rfl 3 rfl ?_
  refine pt_icmp_ge (pc' := 7) (tgt := 89) C dX7_dredged_4 (by decide) rfl (fun h_4 => ?_) (fun h_4 => absurd (nI_le (Nat.le_refl q) (by omega)) h_4)
  exact pt_vret C hr hk dX7_dredged_89 (rfl)

set_option maxHeartbeats 4000000 in
set_option maxRecDepth 100000 in
theorem mX7_runs (l : Launch) (D : va_G) (cA : ClassId) (aM : Nat → Nat) (th : Int32) (n : Nat) (it : Int32) (k : Int32) (td : Nat) (gn : Nat) (dr : Nat) (wk : Nat) (sv : Nat) (P : Nat → Nat → Int32) (sd : Nat → Int32) (se : Nat → Int32) (sc : Nat → Int32) (ba : Nat → Int32) (pa : Nat → Int32) (le : Nat → Int32) (mo : Nat → Int32) (q : Nat) (wo : Int32) (hn : 2 ≤ n) (hm : n ≤ 12) (hq : q ≤ 120) (hr2 : dr ≤ 20) (hS : ∀ w, w < q → P 7 w = 0 ∨ P 7 w = 1 ∨ P 7 w = 2) (hD : ∀ i, i < dr → dOk (P 8) (P 10) i) : mt_V l yX7_runs wsX7_runs { frames := 5, cells := 0, slots := 0, locals := 127 } D [(cA, .int)] [.ref (aM 0), .int (nI q), .int wo] (wM cA aM th n it k td gn dr wk sv P sd se sc ba pa le mo) (wM cA aM th n it k td gn dr wk sv P ((rnM n k P (leM wo (P 1) (P 2)) dr q mo).1) ((rnM n k P (leM wo (P 1) (P 2)) dr q mo).2.1) ((rnM n k P (leM wo (P 1) (P 2)) dr q mo).2.2.1) ((rnM n k P (leM wo (P 1) (P 2)) dr q mo).2.2.2.1) ((rnM n k P (leM wo (P 1) (P 2)) dr q mo).2.2.2.2.1) (leM wo (P 1) (P 2)) ((rnM n k P (leM wo (P 1) (P 2)) dr q mo).2.2.2.2.2)) := by
  refine mt_ofV (cc := cX7_runs) (maxL := 4) (ret := none) (lv := [(0, .ref (aM 0)), (1, .int (nI q)), (2, .int wo)]) (by decide) rfl (Nat.le_of_ble_eq_true rfl) rfl ?_
  intro p e s m args below meth c A C hr hk
  have f_150 := C.hts (.fieldLink RX7 150 "ShoreFieldsModel" "dredges" "I") (by decide +kernel)
  have in_7 : ∀ w ∈ u_ws RX7 TX7 37, w ∈ wsX7_runs := by decide +kernel
  have f_35 := C.hts (.fieldLink RX7 35 "ShoreFieldsModel" "k0" "I") (by decide +kernel)
  refine pt_aload_n (pc' := 1) C dX7_runs_0 rfl 0 rfl ?_
  refine pt_iload_n (pc' := 2) C dX7_runs_1 rfl 2 rfl ?_
  refine pt_cvV0 (pc' := 5) (w1 := wM cA aM th n it k td gn dr wk sv P (P 0) (fun _ => 0) (fun _ => 0) (fun _ => 0) (fun _ => 0) (leM wo (P 1) (P 2)) mo) (As := [.int wo]) (rest := []) C (mX7_begins l D cA aM th n it k td gn dr wk sv P sd se sc ba pa le mo wo ) (cwV 1 C.hts gX7_runs_X7_begins rfl rfl rfl (by decide +kernel) ⟨Nat.le_of_ble_eq_true rfl, Nat.le_of_ble_eq_true rfl⟩) dX7_runs_2 rfl 0 rfl rfl rfl rfl rfl (Nat.le_of_ble_eq_true rfl) ⟨Nat.le_of_ble_eq_true rfl, Nat.le_of_ble_eq_true rfl⟩ ?_
  refine pt_aload_n (pc' := 6) C dX7_runs_5 rfl 0 rfl ?_
  refine pt_iconst (pc' := 7) C dX7_runs_6 rfl (v := 0) (by decide) ?_
  refine pt_aload_n (pc' := 8) C dX7_runs_7 rfl 0 rfl ?_
  refine pt_get (pc' := 11) C in_7 dX7_runs_8 rfl 0 14 rfl rfl (by decide) f_150 rfl ?_
  refine pt_cvV0 (pc' := 14) (w1 := wM cA aM th n it k td gn dr wk sv P ((dgsM 0 dr P ((P 0), (fun _ => 0))).1) (fun _ => 0) (fun _ => 0) ((dgsM 0 dr P ((P 0), (fun _ => 0))).2) (fun _ => 0) (leM wo (P 1) (P 2)) mo) (As := [.int 0, .int (nI dr)]) (rest := []) C (mX7_dredged l D cA aM th n it k td gn dr wk sv P (P 0) (fun _ => 0) (fun _ => 0) (fun _ => 0) (fun _ => 0) (leM wo (P 1) (P 2)) mo 0 dr (hr2) (hD)) (cwV 2 C.hts gX7_runs_X7_dredged rfl rfl rfl (by decide +kernel) ⟨Nat.le_of_ble_eq_true rfl, Nat.le_of_ble_eq_true rfl⟩) dX7_runs_11 rfl 0 rfl rfl rfl rfl rfl (Nat.le_of_ble_eq_true rfl) ⟨Nat.le_of_ble_eq_true rfl, Nat.le_of_ble_eq_true rfl⟩ ?_
  refine pt_iconst (pc' := 15) C dX7_runs_14 rfl (v := 0) (by decide) ?_
  refine pt_istore_n (pc' := 16) (lv' := [(3, .int 0), (0, .ref (aM 0)), (1, .int (nI q)), (2, .int wo)]) C dX7_runs_15 rfl rfl (by decide) rfl ?_
  refine pt_cv (ws' := wM cA aM th n it k td gn dr wk sv P ((itz (stpM n k P (leM wo (P 1) (P 2)) dr) 0 (beM P dr (P 0) mo)).1) ((itz (stpM n k P (leM wo (P 1) (P 2)) dr) 0 (beM P dr (P 0) mo)).2.1) ((itz (stpM n k P (leM wo (P 1) (P 2)) dr) 0 (beM P dr (P 0) mo)).2.2.1) ((itz (stpM n k P (leM wo (P 1) (P 2)) dr) 0 (beM P dr (P 0) mo)).2.2.2.1) ((itz (stpM n k P (leM wo (P 1) (P 2)) dr) 0 (beM P dr (P 0) mo)).2.2.2.2.1) (leM wo (P 1) (P 2)) ((itz (stpM n k P (leM wo (P 1) (P 2)) dr) 0 (beM P dr (P 0) mo)).2.2.2.2.2)) (lv' := [(3, .int (nI 0)), (0, .ref (aM 0)), (1, .int (nI q)), (2, .int wo)]) (rfl) [0, 1, 2, 3] (rfl) rfl ?_
  refine pt_for (wsf := fun j => wM cA aM th n it k td gn dr wk sv P ((itz (stpM n k P (leM wo (P 1) (P 2)) dr) j (beM P dr (P 0) mo)).1) ((itz (stpM n k P (leM wo (P 1) (P 2)) dr) j (beM P dr (P 0) mo)).2.1) ((itz (stpM n k P (leM wo (P 1) (P 2)) dr) j (beM P dr (P 0) mo)).2.2.1) ((itz (stpM n k P (leM wo (P 1) (P 2)) dr) j (beM P dr (P 0) mo)).2.2.2.1) ((itz (stpM n k P (leM wo (P 1) (P 2)) dr) j (beM P dr (P 0) mo)).2.2.2.2.1) (leM wo (P 1) (P 2)) ((itz (stpM n k P (leM wo (P 1) (P 2)) dr) j (beM P dr (P 0) mo)).2.2.2.2.2)) (lvf := fun j => [(3, .int (nI j)), (0, .ref (aM 0)), (1, .int (nI q)), (2, .int wo)]) q ?_ (fun j hj_16 ih_16 => ?_)
  rotate_left
  · refine pt_iload_n (pc' := 17) C dX7_runs_16 rfl 0 rfl ?_
    refine pt_iload_n (pc' := 18) C dX7_runs_17 rfl 2 rfl ?_
    refine pt_icmp_ge (pc' := 21) (tgt := 47) C dX7_runs_18 (by decide) rfl (fun h_18 => absurd h_18 (nI_ge hj_16 (by omega))) (fun h_18 => ?_)
    refine pt_aload_n (pc' := 22) C dX7_runs_21 rfl 1 rfl ?_
    refine pt_iload_n (pc' := 23) C dX7_runs_22 rfl 0 rfl ?_
    refine pt_aload_n (pc' := 24) C dX7_runs_23 rfl 1 rfl ?_
    refine pt_get (pc' := 27) C in_7 dX7_runs_24 rfl 0 9 rfl rfl (by decide) f_35 rfl ?_
    refine pt_cvV0 (pc' := 30) (w1 := wM cA aM th n it k td gn dr wk sv P ((wkM n k P (leM wo (P 1) (P 2)) j (((itz (stpM n k P (leM wo (P 1) (P 2)) dr) j (beM P dr (P 0) mo)).1), ((itz (stpM n k P (leM wo (P 1) (P 2)) dr) j (beM P dr (P 0) mo)).2.1), ((itz (stpM n k P (leM wo (P 1) (P 2)) dr) j (beM P dr (P 0) mo)).2.2.1), ((itz (stpM n k P (leM wo (P 1) (P 2)) dr) j (beM P dr (P 0) mo)).2.2.2.1), ((itz (stpM n k P (leM wo (P 1) (P 2)) dr) j (beM P dr (P 0) mo)).2.2.2.2.1), ((itz (stpM n k P (leM wo (P 1) (P 2)) dr) j (beM P dr (P 0) mo)).2.2.2.2.2))).1) ((wkM n k P (leM wo (P 1) (P 2)) j (((itz (stpM n k P (leM wo (P 1) (P 2)) dr) j (beM P dr (P 0) mo)).1), ((itz (stpM n k P (leM wo (P 1) (P 2)) dr) j (beM P dr (P 0) mo)).2.1), ((itz (stpM n k P (leM wo (P 1) (P 2)) dr) j (beM P dr (P 0) mo)).2.2.1), ((itz (stpM n k P (leM wo (P 1) (P 2)) dr) j (beM P dr (P 0) mo)).2.2.2.1), ((itz (stpM n k P (leM wo (P 1) (P 2)) dr) j (beM P dr (P 0) mo)).2.2.2.2.1), ((itz (stpM n k P (leM wo (P 1) (P 2)) dr) j (beM P dr (P 0) mo)).2.2.2.2.2))).2.1) ((wkM n k P (leM wo (P 1) (P 2)) j (((itz (stpM n k P (leM wo (P 1) (P 2)) dr) j (beM P dr (P 0) mo)).1), ((itz (stpM n k P (leM wo (P 1) (P 2)) dr) j (beM P dr (P 0) mo)).2.1), ((itz (stpM n k P (leM wo (P 1) (P 2)) dr) j (beM P dr (P 0) mo)).2.2.1), ((itz (stpM n k P (leM wo (P 1) (P 2)) dr) j (beM P dr (P 0) mo)).2.2.2.1), ((itz (stpM n k P (leM wo (P 1) (P 2)) dr) j (beM P dr (P 0) mo)).2.2.2.2.1), ((itz (stpM n k P (leM wo (P 1) (P 2)) dr) j (beM P dr (P 0) mo)).2.2.2.2.2))).2.2.1) ((wkM n k P (leM wo (P 1) (P 2)) j (((itz (stpM n k P (leM wo (P 1) (P 2)) dr) j (beM P dr (P 0) mo)).1), ((itz (stpM n k P (leM wo (P 1) (P 2)) dr) j (beM P dr (P 0) mo)).2.1), ((itz (stpM n k P (leM wo (P 1) (P 2)) dr) j (beM P dr (P 0) mo)).2.2.1), ((itz (stpM n k P (leM wo (P 1) (P 2)) dr) j (beM P dr (P 0) mo)).2.2.2.1), ((itz (stpM n k P (leM wo (P 1) (P 2)) dr) j (beM P dr (P 0) mo)).2.2.2.2.1), ((itz (stpM n k P (leM wo (P 1) (P 2)) dr) j (beM P dr (P 0) mo)).2.2.2.2.2))).2.2.2.1) ((wkM n k P (leM wo (P 1) (P 2)) j (((itz (stpM n k P (leM wo (P 1) (P 2)) dr) j (beM P dr (P 0) mo)).1), ((itz (stpM n k P (leM wo (P 1) (P 2)) dr) j (beM P dr (P 0) mo)).2.1), ((itz (stpM n k P (leM wo (P 1) (P 2)) dr) j (beM P dr (P 0) mo)).2.2.1), ((itz (stpM n k P (leM wo (P 1) (P 2)) dr) j (beM P dr (P 0) mo)).2.2.2.1), ((itz (stpM n k P (leM wo (P 1) (P 2)) dr) j (beM P dr (P 0) mo)).2.2.2.2.1), ((itz (stpM n k P (leM wo (P 1) (P 2)) dr) j (beM P dr (P 0) mo)).2.2.2.2.2))).2.2.2.2.1) (leM wo (P 1) (P 2)) ((wkM n k P (leM wo (P 1) (P 2)) j (((itz (stpM n k P (leM wo (P 1) (P 2)) dr) j (beM P dr (P 0) mo)).1), ((itz (stpM n k P (leM wo (P 1) (P 2)) dr) j (beM P dr (P 0) mo)).2.1), ((itz (stpM n k P (leM wo (P 1) (P 2)) dr) j (beM P dr (P 0) mo)).2.2.1), ((itz (stpM n k P (leM wo (P 1) (P 2)) dr) j (beM P dr (P 0) mo)).2.2.2.1), ((itz (stpM n k P (leM wo (P 1) (P 2)) dr) j (beM P dr (P 0) mo)).2.2.2.2.1), ((itz (stpM n k P (leM wo (P 1) (P 2)) dr) j (beM P dr (P 0) mo)).2.2.2.2.2))).2.2.2.2.2)) (As := [.int (nI j), .int k]) (rest := []) C (mX7_week l D cA aM th n it k td gn dr wk sv P ((itz (stpM n k P (leM wo (P 1) (P 2)) dr) j (beM P dr (P 0) mo)).1) ((itz (stpM n k P (leM wo (P 1) (P 2)) dr) j (beM P dr (P 0) mo)).2.1) ((itz (stpM n k P (leM wo (P 1) (P 2)) dr) j (beM P dr (P 0) mo)).2.2.1) ((itz (stpM n k P (leM wo (P 1) (P 2)) dr) j (beM P dr (P 0) mo)).2.2.2.1) ((itz (stpM n k P (leM wo (P 1) (P 2)) dr) j (beM P dr (P 0) mo)).2.2.2.2.1) (leM wo (P 1) (P 2)) ((itz (stpM n k P (leM wo (P 1) (P 2)) dr) j (beM P dr (P 0) mo)).2.2.2.2.2) j k (hn) (hm) (by omega) (hS j hj_16)) (cwV 2 C.hts gX7_runs_X7_week rfl rfl rfl (by decide +kernel) ⟨Nat.le_of_ble_eq_true rfl, Nat.le_of_ble_eq_true rfl⟩) dX7_runs_27 rfl 0 rfl rfl rfl rfl rfl (Nat.le_of_ble_eq_true rfl) ⟨Nat.le_of_ble_eq_true rfl, Nat.le_of_ble_eq_true rfl⟩ ?_
    refine pt_aload_n (pc' := 31) C dX7_runs_30 rfl 1 rfl ?_
    refine pt_iload_n (pc' := 32) C dX7_runs_31 rfl 0 rfl ?_
    refine pt_iconst (pc' := 33) C dX7_runs_32 rfl (v := 1) (by decide) ?_
    refine pt_iadd (pc' := 34) C dX7_runs_33 rfl ?_
    refine pt_aload_n (pc' := 35) C dX7_runs_34 rfl 1 rfl ?_
    refine pt_get (pc' := 38) C in_7 dX7_runs_35 rfl 0 14 rfl rfl (by decide) f_150 rfl ?_
    refine pt_cvV0 (pc' := 41) (w1 := wM cA aM th n it k td gn dr wk sv P ((dgsM ((nI j) + 1) dr P (((wkM n k P (leM wo (P 1) (P 2)) j (((itz (stpM n k P (leM wo (P 1) (P 2)) dr) j (beM P dr (P 0) mo)).1), ((itz (stpM n k P (leM wo (P 1) (P 2)) dr) j (beM P dr (P 0) mo)).2.1), ((itz (stpM n k P (leM wo (P 1) (P 2)) dr) j (beM P dr (P 0) mo)).2.2.1), ((itz (stpM n k P (leM wo (P 1) (P 2)) dr) j (beM P dr (P 0) mo)).2.2.2.1), ((itz (stpM n k P (leM wo (P 1) (P 2)) dr) j (beM P dr (P 0) mo)).2.2.2.2.1), ((itz (stpM n k P (leM wo (P 1) (P 2)) dr) j (beM P dr (P 0) mo)).2.2.2.2.2))).1), ((wkM n k P (leM wo (P 1) (P 2)) j (((itz (stpM n k P (leM wo (P 1) (P 2)) dr) j (beM P dr (P 0) mo)).1), ((itz (stpM n k P (leM wo (P 1) (P 2)) dr) j (beM P dr (P 0) mo)).2.1), ((itz (stpM n k P (leM wo (P 1) (P 2)) dr) j (beM P dr (P 0) mo)).2.2.1), ((itz (stpM n k P (leM wo (P 1) (P 2)) dr) j (beM P dr (P 0) mo)).2.2.2.1), ((itz (stpM n k P (leM wo (P 1) (P 2)) dr) j (beM P dr (P 0) mo)).2.2.2.2.1), ((itz (stpM n k P (leM wo (P 1) (P 2)) dr) j (beM P dr (P 0) mo)).2.2.2.2.2))).2.2.2.1))).1) ((wkM n k P (leM wo (P 1) (P 2)) j (((itz (stpM n k P (leM wo (P 1) (P 2)) dr) j (beM P dr (P 0) mo)).1), ((itz (stpM n k P (leM wo (P 1) (P 2)) dr) j (beM P dr (P 0) mo)).2.1), ((itz (stpM n k P (leM wo (P 1) (P 2)) dr) j (beM P dr (P 0) mo)).2.2.1), ((itz (stpM n k P (leM wo (P 1) (P 2)) dr) j (beM P dr (P 0) mo)).2.2.2.1), ((itz (stpM n k P (leM wo (P 1) (P 2)) dr) j (beM P dr (P 0) mo)).2.2.2.2.1), ((itz (stpM n k P (leM wo (P 1) (P 2)) dr) j (beM P dr (P 0) mo)).2.2.2.2.2))).2.1) ((wkM n k P (leM wo (P 1) (P 2)) j (((itz (stpM n k P (leM wo (P 1) (P 2)) dr) j (beM P dr (P 0) mo)).1), ((itz (stpM n k P (leM wo (P 1) (P 2)) dr) j (beM P dr (P 0) mo)).2.1), ((itz (stpM n k P (leM wo (P 1) (P 2)) dr) j (beM P dr (P 0) mo)).2.2.1), ((itz (stpM n k P (leM wo (P 1) (P 2)) dr) j (beM P dr (P 0) mo)).2.2.2.1), ((itz (stpM n k P (leM wo (P 1) (P 2)) dr) j (beM P dr (P 0) mo)).2.2.2.2.1), ((itz (stpM n k P (leM wo (P 1) (P 2)) dr) j (beM P dr (P 0) mo)).2.2.2.2.2))).2.2.1) ((dgsM ((nI j) + 1) dr P (((wkM n k P (leM wo (P 1) (P 2)) j (((itz (stpM n k P (leM wo (P 1) (P 2)) dr) j (beM P dr (P 0) mo)).1), ((itz (stpM n k P (leM wo (P 1) (P 2)) dr) j (beM P dr (P 0) mo)).2.1), ((itz (stpM n k P (leM wo (P 1) (P 2)) dr) j (beM P dr (P 0) mo)).2.2.1), ((itz (stpM n k P (leM wo (P 1) (P 2)) dr) j (beM P dr (P 0) mo)).2.2.2.1), ((itz (stpM n k P (leM wo (P 1) (P 2)) dr) j (beM P dr (P 0) mo)).2.2.2.2.1), ((itz (stpM n k P (leM wo (P 1) (P 2)) dr) j (beM P dr (P 0) mo)).2.2.2.2.2))).1), ((wkM n k P (leM wo (P 1) (P 2)) j (((itz (stpM n k P (leM wo (P 1) (P 2)) dr) j (beM P dr (P 0) mo)).1), ((itz (stpM n k P (leM wo (P 1) (P 2)) dr) j (beM P dr (P 0) mo)).2.1), ((itz (stpM n k P (leM wo (P 1) (P 2)) dr) j (beM P dr (P 0) mo)).2.2.1), ((itz (stpM n k P (leM wo (P 1) (P 2)) dr) j (beM P dr (P 0) mo)).2.2.2.1), ((itz (stpM n k P (leM wo (P 1) (P 2)) dr) j (beM P dr (P 0) mo)).2.2.2.2.1), ((itz (stpM n k P (leM wo (P 1) (P 2)) dr) j (beM P dr (P 0) mo)).2.2.2.2.2))).2.2.2.1))).2) ((wkM n k P (leM wo (P 1) (P 2)) j (((itz (stpM n k P (leM wo (P 1) (P 2)) dr) j (beM P dr (P 0) mo)).1), ((itz (stpM n k P (leM wo (P 1) (P 2)) dr) j (beM P dr (P 0) mo)).2.1), ((itz (stpM n k P (leM wo (P 1) (P 2)) dr) j (beM P dr (P 0) mo)).2.2.1), ((itz (stpM n k P (leM wo (P 1) (P 2)) dr) j (beM P dr (P 0) mo)).2.2.2.1), ((itz (stpM n k P (leM wo (P 1) (P 2)) dr) j (beM P dr (P 0) mo)).2.2.2.2.1), ((itz (stpM n k P (leM wo (P 1) (P 2)) dr) j (beM P dr (P 0) mo)).2.2.2.2.2))).2.2.2.2.1) (leM wo (P 1) (P 2)) ((wkM n k P (leM wo (P 1) (P 2)) j (((itz (stpM n k P (leM wo (P 1) (P 2)) dr) j (beM P dr (P 0) mo)).1), ((itz (stpM n k P (leM wo (P 1) (P 2)) dr) j (beM P dr (P 0) mo)).2.1), ((itz (stpM n k P (leM wo (P 1) (P 2)) dr) j (beM P dr (P 0) mo)).2.2.1), ((itz (stpM n k P (leM wo (P 1) (P 2)) dr) j (beM P dr (P 0) mo)).2.2.2.1), ((itz (stpM n k P (leM wo (P 1) (P 2)) dr) j (beM P dr (P 0) mo)).2.2.2.2.1), ((itz (stpM n k P (leM wo (P 1) (P 2)) dr) j (beM P dr (P 0) mo)).2.2.2.2.2))).2.2.2.2.2)) (As := [.int ((nI j) + 1), .int (nI dr)]) (rest := []) C (mX7_dredged l D cA aM th n it k td gn dr wk sv P ((wkM n k P (leM wo (P 1) (P 2)) j (((itz (stpM n k P (leM wo (P 1) (P 2)) dr) j (beM P dr (P 0) mo)).1), ((itz (stpM n k P (leM wo (P 1) (P 2)) dr) j (beM P dr (P 0) mo)).2.1), ((itz (stpM n k P (leM wo (P 1) (P 2)) dr) j (beM P dr (P 0) mo)).2.2.1), ((itz (stpM n k P (leM wo (P 1) (P 2)) dr) j (beM P dr (P 0) mo)).2.2.2.1), ((itz (stpM n k P (leM wo (P 1) (P 2)) dr) j (beM P dr (P 0) mo)).2.2.2.2.1), ((itz (stpM n k P (leM wo (P 1) (P 2)) dr) j (beM P dr (P 0) mo)).2.2.2.2.2))).1) ((wkM n k P (leM wo (P 1) (P 2)) j (((itz (stpM n k P (leM wo (P 1) (P 2)) dr) j (beM P dr (P 0) mo)).1), ((itz (stpM n k P (leM wo (P 1) (P 2)) dr) j (beM P dr (P 0) mo)).2.1), ((itz (stpM n k P (leM wo (P 1) (P 2)) dr) j (beM P dr (P 0) mo)).2.2.1), ((itz (stpM n k P (leM wo (P 1) (P 2)) dr) j (beM P dr (P 0) mo)).2.2.2.1), ((itz (stpM n k P (leM wo (P 1) (P 2)) dr) j (beM P dr (P 0) mo)).2.2.2.2.1), ((itz (stpM n k P (leM wo (P 1) (P 2)) dr) j (beM P dr (P 0) mo)).2.2.2.2.2))).2.1) ((wkM n k P (leM wo (P 1) (P 2)) j (((itz (stpM n k P (leM wo (P 1) (P 2)) dr) j (beM P dr (P 0) mo)).1), ((itz (stpM n k P (leM wo (P 1) (P 2)) dr) j (beM P dr (P 0) mo)).2.1), ((itz (stpM n k P (leM wo (P 1) (P 2)) dr) j (beM P dr (P 0) mo)).2.2.1), ((itz (stpM n k P (leM wo (P 1) (P 2)) dr) j (beM P dr (P 0) mo)).2.2.2.1), ((itz (stpM n k P (leM wo (P 1) (P 2)) dr) j (beM P dr (P 0) mo)).2.2.2.2.1), ((itz (stpM n k P (leM wo (P 1) (P 2)) dr) j (beM P dr (P 0) mo)).2.2.2.2.2))).2.2.1) ((wkM n k P (leM wo (P 1) (P 2)) j (((itz (stpM n k P (leM wo (P 1) (P 2)) dr) j (beM P dr (P 0) mo)).1), ((itz (stpM n k P (leM wo (P 1) (P 2)) dr) j (beM P dr (P 0) mo)).2.1), ((itz (stpM n k P (leM wo (P 1) (P 2)) dr) j (beM P dr (P 0) mo)).2.2.1), ((itz (stpM n k P (leM wo (P 1) (P 2)) dr) j (beM P dr (P 0) mo)).2.2.2.1), ((itz (stpM n k P (leM wo (P 1) (P 2)) dr) j (beM P dr (P 0) mo)).2.2.2.2.1), ((itz (stpM n k P (leM wo (P 1) (P 2)) dr) j (beM P dr (P 0) mo)).2.2.2.2.2))).2.2.2.1) ((wkM n k P (leM wo (P 1) (P 2)) j (((itz (stpM n k P (leM wo (P 1) (P 2)) dr) j (beM P dr (P 0) mo)).1), ((itz (stpM n k P (leM wo (P 1) (P 2)) dr) j (beM P dr (P 0) mo)).2.1), ((itz (stpM n k P (leM wo (P 1) (P 2)) dr) j (beM P dr (P 0) mo)).2.2.1), ((itz (stpM n k P (leM wo (P 1) (P 2)) dr) j (beM P dr (P 0) mo)).2.2.2.1), ((itz (stpM n k P (leM wo (P 1) (P 2)) dr) j (beM P dr (P 0) mo)).2.2.2.2.1), ((itz (stpM n k P (leM wo (P 1) (P 2)) dr) j (beM P dr (P 0) mo)).2.2.2.2.2))).2.2.2.2.1) (leM wo (P 1) (P 2)) ((wkM n k P (leM wo (P 1) (P 2)) j (((itz (stpM n k P (leM wo (P 1) (P 2)) dr) j (beM P dr (P 0) mo)).1), ((itz (stpM n k P (leM wo (P 1) (P 2)) dr) j (beM P dr (P 0) mo)).2.1), ((itz (stpM n k P (leM wo (P 1) (P 2)) dr) j (beM P dr (P 0) mo)).2.2.1), ((itz (stpM n k P (leM wo (P 1) (P 2)) dr) j (beM P dr (P 0) mo)).2.2.2.1), ((itz (stpM n k P (leM wo (P 1) (P 2)) dr) j (beM P dr (P 0) mo)).2.2.2.2.1), ((itz (stpM n k P (leM wo (P 1) (P 2)) dr) j (beM P dr (P 0) mo)).2.2.2.2.2))).2.2.2.2.2) ((nI j) + 1) dr (hr2) (hD)) (cwV 2 C.hts gX7_runs_X7_dredged rfl rfl rfl (by decide +kernel) ⟨Nat.le_of_ble_eq_true rfl, Nat.le_of_ble_eq_true rfl⟩) dX7_runs_38 rfl 0 rfl rfl rfl rfl rfl (Nat.le_of_ble_eq_true rfl) ⟨Nat.le_of_ble_eq_true rfl, Nat.le_of_ble_eq_true rfl⟩ ?_
    refine pt_iinc (pc' := 44) (v := nI (j + 1)) (lv' := [(3, .int (nI (j + 1))), (0, .ref (aM 0)), (1, .int (nI q)), (2, .int wo)]) C dX7_runs_41 rfl 0 rfl (nI_1 _) (by decide) rfl ?_
    refine pt_goto (pc' := 16) C dX7_runs_44 (by decide) ?_
    exact pt_cv (rfl) [0, 1, 2, 3] (rfl) rfl ih_16
  refine pt_iload_n (pc' := 17) C dX7_runs_16 rfl 0 rfl ?_
  refine pt_iload_n (pc' := 18) C dX7_runs_17 rfl 2 rfl ?_
  refine pt_icmp_ge (pc' := 21) (tgt := 47) C dX7_runs_18 (by decide) rfl (fun h_18 => ?_) (fun h_18 => absurd (nI_le (Nat.le_refl q) (by omega)) h_18)
  exact pt_vret C hr hk dX7_runs_47 (rfl)
