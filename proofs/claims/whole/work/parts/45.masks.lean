set_option maxHeartbeats 4000000 in
set_option maxRecDepth 100000 in
theorem mX7_line (l : Launch) (D : va_G) (cA : ClassId) (aM : Nat → Nat) (th : Int32) (n : Nat) (it : Int32) (k : Int32) (td : Nat) (gn : Nat) (dr : Nat) (wk : Nat) (sv : Nat) (P : Nat → Nat → Int32) (sd : Nat → Int32) (se : Nat → Int32) (sc : Nat → Int32) (ba : Nat → Int32) (pa : Nat → Int32) (le : Nat → Int32) (mo : Nat → Int32) (x : Int32) (kd : Nat → Int32) (sz : Nat → Int32) (lk : Nat → Int32) (hn : 2 ≤ n) (hm : n ≤ 12) (hg : gn ≤ 120) (hS : ∀ w, w < gn → P 7 w = 0 ∨ P 7 w = 1 ∨ P 7 w = 2) (hH : ∀ w, w < gn → heK (P 6) w) (hr2 : dr ≤ 20) (hD : ∀ i, i < dr → dOk (P 8) (P 10) i) (hU : ∀ i, i < dr → dUk (P 9) i) (hB : ∀ i, i < 12 → 0 ≤ (P 0 i).toInt ∧ (P 0 i).toInt ≤ 99999) (hp : gdP k (P 4) (P 5) kd sz lk) (hrel : ∀ b, 1 ≤ b → b < n → relB kd sz lk (P 1) (leM 0 (P 1) (P 2)) (P 3) b) : mt_IE l yX7_line wsX7_line { frames := 6, cells := 0, slots := 0, locals := 150 } D [(cA, .int)] [.ref (aM 0), .int x] (wM cA aM th n it k td gn dr wk sv P sd se sc ba pa le mo) (cond (inF n x) (ln (rpY n k (P 0) (P 4) (P 5) kd sz lk (P 6) (P 7) dr (P 8) (P 9) (P 10) (P 11) gn).1 x.toNatClampNeg) 0) (fun u : S7 => wM cA aM (cond (inF n x) 0 1) n it k td gn dr wk sv P u.1 u.2.1 u.2.2.1 u.2.2.2.1 u.2.2.2.2.1 u.2.2.2.2.2.1 u.2.2.2.2.2.2) := by
  refine mt_ofIE (cc := cX7_line) (maxL := 2) (ret := (some .int)) (lv := [(0, .ref (aM 0)), (1, .int x)]) (by decide) rfl (Nat.le_of_ble_eq_true rfl) rfl ?_
  intro p e s m args below meth c A C hr hk
  have f_1 := C.hts (.fieldLink RX7 1 "ShoreFieldsModel" "thrown" "I") (by decide +kernel)
  have in_7 : ∀ w ∈ u_ws RX7 TX7 37, w ∈ wsX7_line := by decide +kernel
  have f_117 := C.hts (.fieldLink RX7 117 "ShoreFieldsModel" "gone" "I") (by decide +kernel)
  have f_56 := C.hts (.fieldLink RX7 56 "ShoreFieldsModel" "sand" "[I") (by decide +kernel)
  refine pt_aload_n (pc' := 1) C dX7_line_0 rfl 0 rfl ?_
  refine pt_aload_n (pc' := 2) C dX7_line_1 rfl 0 rfl ?_
  refine pt_iload_n (pc' := 3) C dX7_line_2 rfl 1 rfl ?_
  refine pt_cvI0 (pc' := 6) (w1 := wM cA aM th n it k td gn dr wk sv P sd se sc ba pa le mo) (As := [.int x]) (rest := [.ref (aM 0)]) C (mX7_isField l D cA aM th n it k td gn dr wk sv P sd se sc ba pa le mo x (hn) (hm)) (cwV 1 C.hts gX7_line_X7_isField rfl rfl rfl (by decide +kernel) ⟨Nat.le_of_ble_eq_true rfl, Nat.le_of_ble_eq_true rfl⟩) dX7_line_3 rfl 0 rfl rfl rfl rfl rfl (Nat.le_of_ble_eq_true rfl) ⟨Nat.le_of_ble_eq_true rfl, Nat.le_of_ble_eq_true rfl⟩ ?_
  refine pt_if_eq (pc' := 9) (tgt := 13) C dX7_line_6 (by decide) rfl (fun h_6 => ?_) (fun h_6 => ?_)
  · refine pt_iconst (pc' := 14) C dX7_line_13 rfl (v := 1) (by decide) ?_
    refine pt_put (pc' := 17) (ty := .int) (ws' := wM cA aM 1 n it k td gn dr wk sv P sd se sc ba pa le mo) C in_7 tyX7 tyX7_ok nmX7 dX7_line_14 rfl 0 0 rfl rfl (by decide) f_1 rfl (by decide +kernel) (rfl) (rfl) (Nat.le_of_ble_eq_true rfl) rfl ?_
    refine pt_aload_n (pc' := 18) C dX7_line_17 rfl 0 rfl ?_
    refine pt_get (pc' := 21) C in_7 dX7_line_18 rfl 0 0 rfl rfl (by decide) f_1 rfl ?_
    refine pt_if_le (pc' := 24) (tgt := 26) C dX7_line_21 (by decide) rfl (fun h_21 => absurd h_21 (by decide)) (fun h_21 => ?_)
    refine pt_iconst (pc' := 25) C dX7_line_24 rfl (v := 0) (by decide) ?_
    exact pt_iretE C hr hk dX7_line_25 (rfl) (by simp only [bI_f h_6, bI, cond_false, cond_true, Bool.and_true, Bool.true_and, Bool.and_false, Bool.false_and] <;> rfl) (sd, se, sc, ba, pa, le, mo) (by simp only [bI_f h_6, bI, cond_false, cond_true, Bool.and_true, Bool.true_and, Bool.and_false, Bool.false_and] <;> rfl)
  · refine pt_iconst (pc' := 10) C dX7_line_9 rfl (v := 0) (by decide) ?_
    refine pt_goto (pc' := 14) C dX7_line_10 (by decide) ?_
    refine pt_put (pc' := 17) (ty := .int) (ws' := wM cA aM 0 n it k td gn dr wk sv P sd se sc ba pa le mo) C in_7 tyX7 tyX7_ok nmX7 dX7_line_14 rfl 0 0 rfl rfl (by decide) f_1 rfl (by decide +kernel) (rfl) (rfl) (Nat.le_of_ble_eq_true rfl) rfl ?_
    refine pt_aload_n (pc' := 18) C dX7_line_17 rfl 0 rfl ?_
    refine pt_get (pc' := 21) C in_7 dX7_line_18 rfl 0 0 rfl rfl (by decide) f_1 rfl ?_
    refine pt_if_le (pc' := 24) (tgt := 26) C dX7_line_21 (by decide) rfl (fun h_21 => ?_) (fun h_21 => absurd (by decide) h_21)
    refine pt_aload_n (pc' := 27) C dX7_line_26 rfl 0 rfl ?_
    refine pt_aload_n (pc' := 28) C dX7_line_27 rfl 0 rfl ?_
    refine pt_get (pc' := 31) C in_7 dX7_line_28 rfl 0 13 rfl rfl (by decide) f_117 rfl ?_
    refine pt_iconst (pc' := 32) C dX7_line_31 rfl (v := 0) (by decide) ?_
    refine pt_cvVE0 (pc' := 35) (w1 := fun (u_32 : Nat → Int32) => wM cA aM 0 n it k td gn dr wk sv P ((rpY n k (P 0) (P 4) (P 5) kd sz lk (P 6) (P 7) dr (P 8) (P 9) (P 10) (P 11) gn).1) ((rpY n k (P 0) (P 4) (P 5) kd sz lk (P 6) (P 7) dr (P 8) (P 9) (P 10) (P 11) gn).2.1) ((rpY n k (P 0) (P 4) (P 5) kd sz lk (P 6) (P 7) dr (P 8) (P 9) (P 10) (P 11) gn).2.2.1) ((rpY n k (P 0) (P 4) (P 5) kd sz lk (P 6) (P 7) dr (P 8) (P 9) (P 10) (P 11) gn).2.2.2.1) ((rpY n k (P 0) (P 4) (P 5) kd sz lk (P 6) (P 7) dr (P 8) (P 9) (P 10) (P 11) gn).2.2.2.2) (leM 0 (P 1) (P 2)) u_32) (As := [.int (nI gn), .int 0]) (rest := []) C (mY7_runs l D cA aM 0 n it k td gn dr wk sv P sd se sc ba pa le mo gn 0 kd sz lk (hn) (hm) (hg) (hS) (hH) (hr2) (hD) (hU) (hB) (hp) (hrel)) (cwV 2 C.hts gX7_line_X7_runs rfl rfl rfl (by decide +kernel) ⟨Nat.le_of_ble_eq_true rfl, Nat.le_of_ble_eq_true rfl⟩) dX7_line_32 rfl 0 rfl rfl rfl rfl rfl (Nat.le_of_ble_eq_true rfl) ⟨Nat.le_of_ble_eq_true rfl, Nat.le_of_ble_eq_true rfl⟩ (fun u_32 => ?_)
    refine pt_aload_n (pc' := 36) C dX7_line_35 rfl 0 rfl ?_
    refine pt_get (pc' := 39) C in_7 dX7_line_36 rfl 0 19 rfl rfl (by decide) f_56 rfl ?_
    refine pt_iload_n (pc' := 40) C dX7_line_39 rfl 1 rfl ?_
    refine pt_iald (pc' := 41) C dX7_line_40 rfl 13 rfl rfl x.toNatClampNeg ((inF_in hm (bI_t h_6)).1) (by have := (inF_in hm (bI_t h_6)).2; omega) (by decide) ?_
    refine pt_bipush (pc' := 43) C dX7_line_41 rfl (v := 10) (by decide) ?_
    refine pt_idiv (pc' := 44) C dX7_line_43 rfl (by decide) ?_
    exact pt_iretE C hr hk dX7_line_44 (rfl) (by simp only [bI_t h_6, bI, cond_false, cond_true, Bool.and_true, Bool.true_and, Bool.and_false, Bool.false_and] <;> rfl) ((rpY n k (P 0) (P 4) (P 5) kd sz lk (P 6) (P 7) dr (P 8) (P 9) (P 10) (P 11) gn).1, (rpY n k (P 0) (P 4) (P 5) kd sz lk (P 6) (P 7) dr (P 8) (P 9) (P 10) (P 11) gn).2.1, (rpY n k (P 0) (P 4) (P 5) kd sz lk (P 6) (P 7) dr (P 8) (P 9) (P 10) (P 11) gn).2.2.1, (rpY n k (P 0) (P 4) (P 5) kd sz lk (P 6) (P 7) dr (P 8) (P 9) (P 10) (P 11) gn).2.2.2.1, (rpY n k (P 0) (P 4) (P 5) kd sz lk (P 6) (P 7) dr (P 8) (P 9) (P 10) (P 11) gn).2.2.2.2, leM 0 (P 1) (P 2), u_32) (by simp only [bI_t h_6, bI, cond_false, cond_true, Bool.and_true, Bool.true_and, Bool.and_false, Bool.false_and] <;> rfl)

set_option maxHeartbeats 4000000 in
set_option maxRecDepth 100000 in
theorem mX7_look (l : Launch) (D : va_G) (cA : ClassId) (aM : Nat → Nat) (th : Int32) (n : Nat) (it : Int32) (k : Int32) (td : Nat) (gn : Nat) (dr : Nat) (wk : Nat) (sv : Nat) (P : Nat → Nat → Int32) (sd : Nat → Int32) (se : Nat → Int32) (sc : Nat → Int32) (ba : Nat → Int32) (pa : Nat → Int32) (le : Nat → Int32) (mo : Nat → Int32) (x : Int32) (y : Int32) (kd : Nat → Int32) (sz : Nat → Int32) (lk : Nat → Int32) (hn : 2 ≤ n) (hm : n ≤ 12) (hg : gn ≤ 120) (hS : ∀ w, w < gn → P 7 w = 0 ∨ P 7 w = 1 ∨ P 7 w = 2) (hH : ∀ w, w < gn → heK (P 6) w) (hr2 : dr ≤ 20) (hD : ∀ i, i < dr → dOk (P 8) (P 10) i) (hU : ∀ i, i < dr → dUk (P 9) i) (hB : ∀ i, i < 12 → 0 ≤ (P 0 i).toInt ∧ (P 0 i).toInt ≤ 99999) (hp : gdP k (P 4) (P 5) kd sz lk) (hrel : ∀ b, 1 ≤ b → b < n → relB kd sz lk (P 1) (leM 0 (P 1) (P 2)) (P 3) b) : mt_IE l yX7_look wsX7_look { frames := 6, cells := 0, slots := 0, locals := 150 } D [(cA, .int)] [.ref (aM 0), .int x, .int y] (wM cA aM th n it k td gn dr wk sv P sd se sc ba pa le mo) (cond (inF n x) (lkV y (rpY n k (P 0) (P 4) (P 5) kd sz lk (P 6) (P 7) dr (P 8) (P 9) (P 10) (P 11) gn).1 (rpY n k (P 0) (P 4) (P 5) kd sz lk (P 6) (P 7) dr (P 8) (P 9) (P 10) (P 11) gn).2.1 (rpY n k (P 0) (P 4) (P 5) kd sz lk (P 6) (P 7) dr (P 8) (P 9) (P 10) (P 11) gn).2.2.1 x.toNatClampNeg) (-1)) (fun u : S7 => wM cA aM 0 n it k td gn dr wk sv P u.1 u.2.1 u.2.2.1 u.2.2.2.1 u.2.2.2.2.1 u.2.2.2.2.2.1 u.2.2.2.2.2.2) := by
  refine mt_ofIE (cc := cX7_look) (maxL := 3) (ret := (some .int)) (lv := [(0, .ref (aM 0)), (1, .int x), (2, .int y)]) (by decide) rfl (Nat.le_of_ble_eq_true rfl) rfl ?_
  intro p e s m args below meth c A C hr hk
  have f_1 := C.hts (.fieldLink RX7 1 "ShoreFieldsModel" "thrown" "I") (by decide +kernel)
  have in_7 : ∀ w ∈ u_ws RX7 TX7 37, w ∈ wsX7_look := by decide +kernel
  have f_117 := C.hts (.fieldLink RX7 117 "ShoreFieldsModel" "gone" "I") (by decide +kernel)
  have f_62 := C.hts (.fieldLink RX7 62 "ShoreFieldsModel" "scour" "[I") (by decide +kernel)
  have f_59 := C.hts (.fieldLink RX7 59 "ShoreFieldsModel" "sea" "[I") (by decide +kernel)
  have f_56 := C.hts (.fieldLink RX7 56 "ShoreFieldsModel" "sand" "[I") (by decide +kernel)
  refine pt_aload_n (pc' := 1) C dX7_look_0 rfl 0 rfl ?_
  refine pt_iconst (pc' := 2) C dX7_look_1 rfl (v := 0) (by decide) ?_
  refine pt_put (pc' := 5) (ty := .int) (ws' := wM cA aM 0 n it k td gn dr wk sv P sd se sc ba pa le mo) C in_7 tyX7 tyX7_ok nmX7 dX7_look_2 rfl 0 0 rfl rfl (by decide) f_1 rfl (by decide +kernel) (rfl) (rfl) (Nat.le_of_ble_eq_true rfl) rfl ?_
  refine pt_aload_n (pc' := 6) C dX7_look_5 rfl 0 rfl ?_
  refine pt_iload_n (pc' := 7) C dX7_look_6 rfl 1 rfl ?_
  refine pt_cvI0 (pc' := 10) (w1 := wM cA aM 0 n it k td gn dr wk sv P sd se sc ba pa le mo) (As := [.int x]) (rest := []) C (mX7_isField l D cA aM 0 n it k td gn dr wk sv P sd se sc ba pa le mo x (hn) (hm)) (cwV 1 C.hts gX7_look_X7_isField rfl rfl rfl (by decide +kernel) ⟨Nat.le_of_ble_eq_true rfl, Nat.le_of_ble_eq_true rfl⟩) dX7_look_7 rfl 0 rfl rfl rfl rfl rfl (Nat.le_of_ble_eq_true rfl) ⟨Nat.le_of_ble_eq_true rfl, Nat.le_of_ble_eq_true rfl⟩ ?_
  refine pt_if_ne (pc' := 13) (tgt := 15) C dX7_look_10 (by decide) rfl (fun h_10 => ?_) (fun h_10 => ?_)
  · refine pt_aload_n (pc' := 16) C dX7_look_15 rfl 0 rfl ?_
    refine pt_aload_n (pc' := 17) C dX7_look_16 rfl 0 rfl ?_
    refine pt_get (pc' := 20) C in_7 dX7_look_17 rfl 0 13 rfl rfl (by decide) f_117 rfl ?_
    refine pt_iconst (pc' := 21) C dX7_look_20 rfl (v := 0) (by decide) ?_
    refine pt_cvVE0 (pc' := 24) (w1 := fun (u_21 : Nat → Int32) => wM cA aM 0 n it k td gn dr wk sv P ((rpY n k (P 0) (P 4) (P 5) kd sz lk (P 6) (P 7) dr (P 8) (P 9) (P 10) (P 11) gn).1) ((rpY n k (P 0) (P 4) (P 5) kd sz lk (P 6) (P 7) dr (P 8) (P 9) (P 10) (P 11) gn).2.1) ((rpY n k (P 0) (P 4) (P 5) kd sz lk (P 6) (P 7) dr (P 8) (P 9) (P 10) (P 11) gn).2.2.1) ((rpY n k (P 0) (P 4) (P 5) kd sz lk (P 6) (P 7) dr (P 8) (P 9) (P 10) (P 11) gn).2.2.2.1) ((rpY n k (P 0) (P 4) (P 5) kd sz lk (P 6) (P 7) dr (P 8) (P 9) (P 10) (P 11) gn).2.2.2.2) (leM 0 (P 1) (P 2)) u_21) (As := [.int (nI gn), .int 0]) (rest := []) C (mY7_runs l D cA aM 0 n it k td gn dr wk sv P sd se sc ba pa le mo gn 0 kd sz lk (hn) (hm) (hg) (hS) (hH) (hr2) (hD) (hU) (hB) (hp) (hrel)) (cwV 2 C.hts gX7_look_X7_runs rfl rfl rfl (by decide +kernel) ⟨Nat.le_of_ble_eq_true rfl, Nat.le_of_ble_eq_true rfl⟩) dX7_look_21 rfl 0 rfl rfl rfl rfl rfl (Nat.le_of_ble_eq_true rfl) ⟨Nat.le_of_ble_eq_true rfl, Nat.le_of_ble_eq_true rfl⟩ (fun u_21 => ?_)
    refine pt_iload_n (pc' := 25) C dX7_look_24 rfl 2 rfl ?_
    refine pt_jn (q := 66) (k := 0) (n := 0) (wM cA aM 0 n it k td gn dr wk sv P ((rpY n k (P 0) (P 4) (P 5) kd sz lk (P 6) (P 7) dr (P 8) (P 9) (P 10) (P 11) gn).1) ((rpY n k (P 0) (P 4) (P 5) kd sz lk (P 6) (P 7) dr (P 8) (P 9) (P 10) (P 11) gn).2.1) ((rpY n k (P 0) (P 4) (P 5) kd sz lk (P 6) (P 7) dr (P 8) (P 9) (P 10) (P 11) gn).2.2.1) ((rpY n k (P 0) (P 4) (P 5) kd sz lk (P 6) (P 7) dr (P 8) (P 9) (P 10) (P 11) gn).2.2.2.1) ((rpY n k (P 0) (P 4) (P 5) kd sz lk (P 6) (P 7) dr (P 8) (P 9) (P 10) (P 11) gn).2.2.2.2) (leM 0 (P 1) (P 2)) u_21) [(0, .ref (aM 0)), (1, .int x), (2, .int y)] [.int (if y = 0 then ((rpY n k (P 0) (P 4) (P 5) kd sz lk (P 6) (P 7) dr (P 8) (P 9) (P 10) (P 11) gn).1) x.toNatClampNeg else if y = 1 then ((rpY n k (P 0) (P 4) (P 5) kd sz lk (P 6) (P 7) dr (P 8) (P 9) (P 10) (P 11) gn).2.1) x.toNatClampNeg else if y = 2 then ((rpY n k (P 0) (P 4) (P 5) kd sz lk (P 6) (P 7) dr (P 8) (P 9) (P 10) (P 11) gn).2.2.1) x.toNatClampNeg else -1)] (fun K => ?_) ?_
    · refine pt_if_ne (pc' := 28) (tgt := 37) C dX7_look_25 (by decide) rfl (fun h_25 => ?_) (fun h_25 => ?_)
      · refine pt_iload_n (pc' := 38) C dX7_look_37 rfl 2 rfl ?_
        refine pt_iconst (pc' := 39) C dX7_look_38 rfl (v := 1) (by decide) ?_
        refine pt_icmp_ne (pc' := 42) (tgt := 51) C dX7_look_39 (by decide) rfl (fun h_39 => ?_) (fun h_39 => ?_)
        · refine pt_iload_n (pc' := 52) C dX7_look_51 rfl 2 rfl ?_
          refine pt_iconst (pc' := 53) C dX7_look_52 rfl (v := 2) (by decide) ?_
          refine pt_icmp_ne (pc' := 56) (tgt := 65) C dX7_look_53 (by decide) rfl (fun h_53 => ?_) (fun h_53 => ?_)
          · refine pt_iconst (pc' := 66) C dX7_look_65 rfl (v := -1) (by decide) ?_
            exact pt_cv (lv' := [(0, .ref (aM 0)), (1, .int x), (2, .int y)]) rfl [0, 1, 2] rfl rfl (by simpa only [if_neg h_25, if_neg h_39, if_neg h_53] using K)
          · refine pt_aload_n (pc' := 57) C dX7_look_56 rfl 0 rfl ?_
            refine pt_get (pc' := 60) C in_7 dX7_look_57 rfl 0 21 rfl rfl (by decide) f_62 rfl ?_
            refine pt_iload_n (pc' := 61) C dX7_look_60 rfl 1 rfl ?_
            refine pt_iald (pc' := 62) C dX7_look_61 rfl 15 rfl rfl x.toNatClampNeg ((inF_in hm (bI_t h_10)).1) (by have := (inF_in hm (bI_t h_10)).2; omega) (by decide) ?_
            refine pt_goto (pc' := 66) C dX7_look_62 (by decide) ?_
            exact pt_cv (lv' := [(0, .ref (aM 0)), (1, .int x), (2, .int y)]) rfl [0, 1, 2] rfl rfl (by simpa only [if_neg h_25, if_neg h_39, if_pos h_53] using K)
        · refine pt_aload_n (pc' := 43) C dX7_look_42 rfl 0 rfl ?_
          refine pt_get (pc' := 46) C in_7 dX7_look_43 rfl 0 20 rfl rfl (by decide) f_59 rfl ?_
          refine pt_iload_n (pc' := 47) C dX7_look_46 rfl 1 rfl ?_
          refine pt_iald (pc' := 48) C dX7_look_47 rfl 14 rfl rfl x.toNatClampNeg ((inF_in hm (bI_t h_10)).1) (by have := (inF_in hm (bI_t h_10)).2; omega) (by decide) ?_
          refine pt_goto (pc' := 66) C dX7_look_48 (by decide) ?_
          exact pt_cv (lv' := [(0, .ref (aM 0)), (1, .int x), (2, .int y)]) rfl [0, 1, 2] rfl rfl (by simpa only [if_neg h_25, if_pos h_39] using K)
      · refine pt_aload_n (pc' := 29) C dX7_look_28 rfl 0 rfl ?_
        refine pt_get (pc' := 32) C in_7 dX7_look_29 rfl 0 19 rfl rfl (by decide) f_56 rfl ?_
        refine pt_iload_n (pc' := 33) C dX7_look_32 rfl 1 rfl ?_
        refine pt_iald (pc' := 34) C dX7_look_33 rfl 13 rfl rfl x.toNatClampNeg ((inF_in hm (bI_t h_10)).1) (by have := (inF_in hm (bI_t h_10)).2; omega) (by decide) ?_
        refine pt_goto (pc' := 66) C dX7_look_34 (by decide) ?_
        exact pt_cv (lv' := [(0, .ref (aM 0)), (1, .int x), (2, .int y)]) rfl [0, 1, 2] rfl rfl (by simpa only [if_pos h_25] using K)
    exact pt_iretE C hr hk dX7_look_66 (rfl) (by simp only [bI_t h_10, bI, cond_false, cond_true, Bool.and_true, Bool.true_and, Bool.and_false, Bool.false_and] <;> rfl) ((rpY n k (P 0) (P 4) (P 5) kd sz lk (P 6) (P 7) dr (P 8) (P 9) (P 10) (P 11) gn).1, (rpY n k (P 0) (P 4) (P 5) kd sz lk (P 6) (P 7) dr (P 8) (P 9) (P 10) (P 11) gn).2.1, (rpY n k (P 0) (P 4) (P 5) kd sz lk (P 6) (P 7) dr (P 8) (P 9) (P 10) (P 11) gn).2.2.1, (rpY n k (P 0) (P 4) (P 5) kd sz lk (P 6) (P 7) dr (P 8) (P 9) (P 10) (P 11) gn).2.2.2.1, (rpY n k (P 0) (P 4) (P 5) kd sz lk (P 6) (P 7) dr (P 8) (P 9) (P 10) (P 11) gn).2.2.2.2, leM 0 (P 1) (P 2), u_21) (rfl)
  · refine pt_iconst (pc' := 14) C dX7_look_13 rfl (v := -1) (by decide) ?_
    exact pt_iretE C hr hk dX7_look_14 (rfl) (by simp only [bI_f h_10, bI, cond_false, cond_true, Bool.and_true, Bool.true_and, Bool.and_false, Bool.false_and] <;> rfl) (sd, se, sc, ba, pa, le, mo) (rfl)

set_option maxHeartbeats 4000000 in
set_option maxRecDepth 100000 in
theorem mX7_border (l : Launch) (D : va_G) (cA : ClassId) (aM : Nat → Nat) (th : Int32) (n : Nat) (it : Int32) (k : Int32) (td : Nat) (gn : Nat) (dr : Nat) (wk : Nat) (sv : Nat) (P : Nat → Nat → Int32) (sd : Nat → Int32) (se : Nat → Int32) (sc : Nat → Int32) (ba : Nat → Int32) (pa : Nat → Int32) (le : Nat → Int32) (mo : Nat → Int32) (x : Int32) (y : Int32) (kd : Nat → Int32) (sz : Nat → Int32) (lk : Nat → Int32) (hn : 2 ≤ n) (hm : n ≤ 12) (hg : gn ≤ 120) (hS : ∀ w, w < gn → P 7 w = 0 ∨ P 7 w = 1 ∨ P 7 w = 2) (hH : ∀ w, w < gn → heK (P 6) w) (hr2 : dr ≤ 20) (hD : ∀ i, i < dr → dOk (P 8) (P 10) i) (hU : ∀ i, i < dr → dUk (P 9) i) (hB : ∀ i, i < 12 → 0 ≤ (P 0 i).toInt ∧ (P 0 i).toInt ≤ 99999) (hp : gdP k (P 4) (P 5) kd sz lk) (hrel : ∀ b, 1 ≤ b → b < n → relB kd sz lk (P 1) (leM 0 (P 1) (P 2)) (P 3) b) : mt_IE l yX7_border wsX7_border { frames := 6, cells := 0, slots := 0, locals := 150 } D [(cA, .int)] [.ref (aM 0), .int x, .int y] (wM cA aM th n it k td gn dr wk sv P sd se sc ba pa le mo) (cond (inBd n x) (bmV y (P 1) (P 2) (P 3) (rpY n k (P 0) (P 4) (P 5) kd sz lk (P 6) (P 7) dr (P 8) (P 9) (P 10) (P 11) gn).2.2.2.1 (rpY n k (P 0) (P 4) (P 5) kd sz lk (P 6) (P 7) dr (P 8) (P 9) (P 10) (P 11) gn).2.2.2.2 x.toNatClampNeg) (if y = 3 then -100000 else -1)) (fun u : S7 => wM cA aM 0 n it k td gn dr wk sv P u.1 u.2.1 u.2.2.1 u.2.2.2.1 u.2.2.2.2.1 u.2.2.2.2.2.1 u.2.2.2.2.2.2) := by
  refine mt_ofIE (cc := cX7_border) (maxL := 3) (ret := (some .int)) (lv := [(0, .ref (aM 0)), (1, .int x), (2, .int y)]) (by decide) rfl (Nat.le_of_ble_eq_true rfl) rfl ?_
  intro p e s m args below meth c A C hr hk
  have f_1 := C.hts (.fieldLink RX7 1 "ShoreFieldsModel" "thrown" "I") (by decide +kernel)
  have in_7 : ∀ w ∈ u_ws RX7 TX7 37, w ∈ wsX7_border := by decide +kernel
  have f_13 := C.hts (.fieldLink RX7 13 "ShoreFieldsModel" "fields" "I") (by decide +kernel)
  have f_117 := C.hts (.fieldLink RX7 117 "ShoreFieldsModel" "gone" "I") (by decide +kernel)
  have f_20 := C.hts (.fieldLink RX7 20 "ShoreFieldsModel" "kind" "[I") (by decide +kernel)
  have f_65 := C.hts (.fieldLink RX7 65 "ShoreFieldsModel" "bar" "[I") (by decide +kernel)
  have f_26 := C.hts (.fieldLink RX7 26 "ShoreFieldsModel" "part" "[I") (by decide +kernel)
  have f_23 := C.hts (.fieldLink RX7 23 "ShoreFieldsModel" "length" "[I") (by decide +kernel)
  have f_68 := C.hts (.fieldLink RX7 68 "ShoreFieldsModel" "passed" "[I") (by decide +kernel)
  have k_162 := C.hts (.constant RX7 162 (-100000)) (by decide +kernel)
  refine pt_aload_n (pc' := 1) C dX7_border_0 rfl 0 rfl ?_
  refine pt_iconst (pc' := 2) C dX7_border_1 rfl (v := 0) (by decide) ?_
  refine pt_put (pc' := 5) (ty := .int) (ws' := wM cA aM 0 n it k td gn dr wk sv P sd se sc ba pa le mo) C in_7 tyX7 tyX7_ok nmX7 dX7_border_2 rfl 0 0 rfl rfl (by decide) f_1 rfl (by decide +kernel) (rfl) (rfl) (Nat.le_of_ble_eq_true rfl) rfl ?_
  refine pt_iload_n (pc' := 6) C dX7_border_5 rfl 1 rfl ?_
  refine pt_iconst (pc' := 7) C dX7_border_6 rfl (v := 0) (by decide) ?_
  refine pt_aload_n (pc' := 8) C dX7_border_7 rfl 0 rfl ?_
  refine pt_get (pc' := 11) C in_7 dX7_border_8 rfl 0 1 rfl rfl (by decide) f_13 rfl ?_
  refine pt_csI0 (pc' := 14) (As := [.int x, .int 0, .int (nI n)]) (rest := []) C (mX7_within l D cA x 0 (nI n) ) (va_cwS 3 C.hts gX7_border_X7_within rfl rfl rfl (by decide +kernel) ⟨Nat.le_of_ble_eq_true rfl, Nat.le_of_ble_eq_true rfl⟩) dX7_border_11 rfl rfl rfl (Nat.le_of_ble_eq_true rfl) ⟨Nat.le_of_ble_eq_true rfl, Nat.le_of_ble_eq_true rfl⟩ ?_
  refine pt_if_ne (pc' := 17) (tgt := 29) C dX7_border_14 (by decide) rfl (fun h_14 => ?_) (fun h_14 => ?_)
  · refine pt_aload_n (pc' := 30) C dX7_border_29 rfl 0 rfl ?_
    refine pt_aload_n (pc' := 31) C dX7_border_30 rfl 0 rfl ?_
    refine pt_get (pc' := 34) C in_7 dX7_border_31 rfl 0 13 rfl rfl (by decide) f_117 rfl ?_
    refine pt_iconst (pc' := 35) C dX7_border_34 rfl (v := 0) (by decide) ?_
    refine pt_cvVE0 (pc' := 38) (w1 := fun (u_35 : Nat → Int32) => wM cA aM 0 n it k td gn dr wk sv P ((rpY n k (P 0) (P 4) (P 5) kd sz lk (P 6) (P 7) dr (P 8) (P 9) (P 10) (P 11) gn).1) ((rpY n k (P 0) (P 4) (P 5) kd sz lk (P 6) (P 7) dr (P 8) (P 9) (P 10) (P 11) gn).2.1) ((rpY n k (P 0) (P 4) (P 5) kd sz lk (P 6) (P 7) dr (P 8) (P 9) (P 10) (P 11) gn).2.2.1) ((rpY n k (P 0) (P 4) (P 5) kd sz lk (P 6) (P 7) dr (P 8) (P 9) (P 10) (P 11) gn).2.2.2.1) ((rpY n k (P 0) (P 4) (P 5) kd sz lk (P 6) (P 7) dr (P 8) (P 9) (P 10) (P 11) gn).2.2.2.2) (leM 0 (P 1) (P 2)) u_35) (As := [.int (nI gn), .int 0]) (rest := []) C (mY7_runs l D cA aM 0 n it k td gn dr wk sv P sd se sc ba pa le mo gn 0 kd sz lk (hn) (hm) (hg) (hS) (hH) (hr2) (hD) (hU) (hB) (hp) (hrel)) (cwV 2 C.hts gX7_border_X7_runs rfl rfl rfl (by decide +kernel) ⟨Nat.le_of_ble_eq_true rfl, Nat.le_of_ble_eq_true rfl⟩) dX7_border_35 rfl 0 rfl rfl rfl rfl rfl (Nat.le_of_ble_eq_true rfl) ⟨Nat.le_of_ble_eq_true rfl, Nat.le_of_ble_eq_true rfl⟩ (fun u_35 => ?_)
    refine pt_iload_n (pc' := 39) C dX7_border_38 rfl 2 rfl ?_
    refine pt_if_ne (pc' := 42) (tgt := 49) C dX7_border_39 (by decide) rfl (fun h_39 => ?_) (fun h_39 => ?_)
    · refine pt_iload_n (pc' := 50) C dX7_border_49 rfl 2 rfl ?_
      refine pt_iconst (pc' := 51) C dX7_border_50 rfl (v := 3) (by decide) ?_
      refine pt_icmp_ne (pc' := 54) (tgt := 61) C dX7_border_51 (by decide) rfl (fun h_51 => ?_) (fun h_51 => ?_)
      · refine pt_iload_n (pc' := 62) C dX7_border_61 rfl 2 rfl ?_
        refine pt_iconst (pc' := 63) C dX7_border_62 rfl (v := 1) (by decide) ?_
        refine pt_icmp_lt (pc' := 66) (tgt := 80) C dX7_border_63 (by decide) rfl (fun h_63 => ?_) (fun h_63 => ?_)
        · refine pt_iconst (pc' := 81) C dX7_border_80 rfl (v := -1) (by decide) ?_
          exact pt_iretE C hr hk dX7_border_81 (rfl) (by rw [show inBd n x = true from bI_t h_14]; simp only [bmV, if_neg h_39, if_neg h_51, if_pos h_63, bI, cond_false, cond_true, Bool.and_true, Bool.true_and, Bool.and_false, Bool.false_and] <;> rfl) ((rpY n k (P 0) (P 4) (P 5) kd sz lk (P 6) (P 7) dr (P 8) (P 9) (P 10) (P 11) gn).1, (rpY n k (P 0) (P 4) (P 5) kd sz lk (P 6) (P 7) dr (P 8) (P 9) (P 10) (P 11) gn).2.1, (rpY n k (P 0) (P 4) (P 5) kd sz lk (P 6) (P 7) dr (P 8) (P 9) (P 10) (P 11) gn).2.2.1, (rpY n k (P 0) (P 4) (P 5) kd sz lk (P 6) (P 7) dr (P 8) (P 9) (P 10) (P 11) gn).2.2.2.1, (rpY n k (P 0) (P 4) (P 5) kd sz lk (P 6) (P 7) dr (P 8) (P 9) (P 10) (P 11) gn).2.2.2.2, leM 0 (P 1) (P 2), u_35) (rfl)
        · refine pt_iload_n (pc' := 67) C dX7_border_66 rfl 2 rfl ?_
          refine pt_iconst (pc' := 68) C dX7_border_67 rfl (v := 2) (by decide) ?_
          refine pt_icmp_gt (pc' := 71) (tgt := 80) C dX7_border_68 (by decide) rfl (fun h_68 => ?_) (fun h_68 => ?_)
          · refine pt_iconst (pc' := 81) C dX7_border_80 rfl (v := -1) (by decide) ?_
            exact pt_iretE C hr hk dX7_border_81 (rfl) (by rw [show inBd n x = true from bI_t h_14]; simp only [bmV, if_neg h_39, if_neg h_51, if_neg h_63, if_pos h_68, bI, cond_false, cond_true, Bool.and_true, Bool.true_and, Bool.and_false, Bool.false_and] <;> rfl) ((rpY n k (P 0) (P 4) (P 5) kd sz lk (P 6) (P 7) dr (P 8) (P 9) (P 10) (P 11) gn).1, (rpY n k (P 0) (P 4) (P 5) kd sz lk (P 6) (P 7) dr (P 8) (P 9) (P 10) (P 11) gn).2.1, (rpY n k (P 0) (P 4) (P 5) kd sz lk (P 6) (P 7) dr (P 8) (P 9) (P 10) (P 11) gn).2.2.1, (rpY n k (P 0) (P 4) (P 5) kd sz lk (P 6) (P 7) dr (P 8) (P 9) (P 10) (P 11) gn).2.2.2.1, (rpY n k (P 0) (P 4) (P 5) kd sz lk (P 6) (P 7) dr (P 8) (P 9) (P 10) (P 11) gn).2.2.2.2, leM 0 (P 1) (P 2), u_35) (rfl)
          · refine pt_aload_n (pc' := 72) C dX7_border_71 rfl 0 rfl ?_
            refine pt_get (pc' := 75) C in_7 dX7_border_72 rfl 0 4 rfl rfl (by decide) f_20 rfl ?_
            refine pt_iload_n (pc' := 76) C dX7_border_75 rfl 1 rfl ?_
            refine pt_iald (pc' := 77) C dX7_border_76 rfl 2 rfl rfl x.toNatClampNeg ((inBd_in hm (bI_t h_14)).1) (by have := (inBd_in hm (bI_t h_14)).2; omega) (by decide) ?_
            refine pt_if_ne (pc' := 80) (tgt := 82) C dX7_border_77 (by decide) rfl (fun h_77 => ?_) (fun h_77 => ?_)
            · refine pt_iload_n (pc' := 83) C dX7_border_82 rfl 2 rfl ?_
              refine pt_iconst (pc' := 84) C dX7_border_83 rfl (v := 1) (by decide) ?_
              refine pt_icmp_ne (pc' := 87) (tgt := 115) C dX7_border_84 (by decide) rfl (fun h_84 => ?_) (fun h_84 => ?_)
              · refine pt_aload_n (pc' := 116) C dX7_border_115 rfl 0 rfl ?_
                refine pt_get (pc' := 119) C in_7 dX7_border_116 rfl 0 4 rfl rfl (by decide) f_20 rfl ?_
                refine pt_iload_n (pc' := 120) C dX7_border_119 rfl 1 rfl ?_
                refine pt_iald (pc' := 121) C dX7_border_120 rfl 2 rfl rfl x.toNatClampNeg ((inBd_in hm (bI_t h_14)).1) (by have := (inBd_in hm (bI_t h_14)).2; omega) (by decide) ?_
                refine pt_iconst (pc' := 122) C dX7_border_121 rfl (v := 1) (by decide) ?_
                refine pt_icmp_ne (pc' := 125) (tgt := 134) C dX7_border_122 (by decide) rfl (fun h_122 => ?_) (fun h_122 => ?_)
                · refine pt_aload_n (pc' := 135) C dX7_border_134 rfl 0 rfl ?_
                  refine pt_get (pc' := 138) C in_7 dX7_border_135 rfl 0 22 rfl rfl (by decide) f_65 rfl ?_
                  refine pt_iload_n (pc' := 139) C dX7_border_138 rfl 1 rfl ?_
                  refine pt_iald (pc' := 140) C dX7_border_139 rfl 16 rfl rfl x.toNatClampNeg ((inBd_in hm (bI_t h_14)).1) (by have := (inBd_in hm (bI_t h_14)).2; omega) (by decide) ?_
                  exact pt_iretE C hr hk dX7_border_140 (rfl) (by rw [show inBd n x = true from bI_t h_14]; simp only [bmV, if_neg h_39, if_neg h_51, if_neg h_63, if_neg h_68, if_neg h_77, if_neg h_84, if_neg h_122, bI, cond_false, cond_true, Bool.and_true, Bool.true_and, Bool.and_false, Bool.false_and] <;> rfl) ((rpY n k (P 0) (P 4) (P 5) kd sz lk (P 6) (P 7) dr (P 8) (P 9) (P 10) (P 11) gn).1, (rpY n k (P 0) (P 4) (P 5) kd sz lk (P 6) (P 7) dr (P 8) (P 9) (P 10) (P 11) gn).2.1, (rpY n k (P 0) (P 4) (P 5) kd sz lk (P 6) (P 7) dr (P 8) (P 9) (P 10) (P 11) gn).2.2.1, (rpY n k (P 0) (P 4) (P 5) kd sz lk (P 6) (P 7) dr (P 8) (P 9) (P 10) (P 11) gn).2.2.2.1, (rpY n k (P 0) (P 4) (P 5) kd sz lk (P 6) (P 7) dr (P 8) (P 9) (P 10) (P 11) gn).2.2.2.2, leM 0 (P 1) (P 2), u_35) (rfl)
                · refine pt_aload_n (pc' := 126) C dX7_border_125 rfl 0 rfl ?_
                  refine pt_get (pc' := 129) C in_7 dX7_border_126 rfl 0 6 rfl rfl (by decide) f_26 rfl ?_
                  refine pt_iload_n (pc' := 130) C dX7_border_129 rfl 1 rfl ?_
                  refine pt_iald (pc' := 131) C dX7_border_130 rfl 4 rfl rfl x.toNatClampNeg ((inBd_in hm (bI_t h_14)).1) (by have := (inBd_in hm (bI_t h_14)).2; omega) (by decide) ?_
                  refine pt_goto (pc' := 140) C dX7_border_131 (by decide) ?_
                  exact pt_iretE C hr hk dX7_border_140 (rfl) (by rw [show inBd n x = true from bI_t h_14]; simp only [bmV, if_neg h_39, if_neg h_51, if_neg h_63, if_neg h_68, if_neg h_77, if_neg h_84, if_pos h_122, bI, cond_false, cond_true, Bool.and_true, Bool.true_and, Bool.and_false, Bool.false_and] <;> rfl) ((rpY n k (P 0) (P 4) (P 5) kd sz lk (P 6) (P 7) dr (P 8) (P 9) (P 10) (P 11) gn).1, (rpY n k (P 0) (P 4) (P 5) kd sz lk (P 6) (P 7) dr (P 8) (P 9) (P 10) (P 11) gn).2.1, (rpY n k (P 0) (P 4) (P 5) kd sz lk (P 6) (P 7) dr (P 8) (P 9) (P 10) (P 11) gn).2.2.1, (rpY n k (P 0) (P 4) (P 5) kd sz lk (P 6) (P 7) dr (P 8) (P 9) (P 10) (P 11) gn).2.2.2.1, (rpY n k (P 0) (P 4) (P 5) kd sz lk (P 6) (P 7) dr (P 8) (P 9) (P 10) (P 11) gn).2.2.2.2, leM 0 (P 1) (P 2), u_35) (rfl)
              · refine pt_aload_n (pc' := 88) C dX7_border_87 rfl 0 rfl ?_
                refine pt_get (pc' := 91) C in_7 dX7_border_88 rfl 0 4 rfl rfl (by decide) f_20 rfl ?_
                refine pt_iload_n (pc' := 92) C dX7_border_91 rfl 1 rfl ?_
                refine pt_iald (pc' := 93) C dX7_border_92 rfl 2 rfl rfl x.toNatClampNeg ((inBd_in hm (bI_t h_14)).1) (by have := (inBd_in hm (bI_t h_14)).2; omega) (by decide) ?_
                refine pt_iconst (pc' := 94) C dX7_border_93 rfl (v := 1) (by decide) ?_
                refine pt_icmp_ne (pc' := 97) (tgt := 106) C dX7_border_94 (by decide) rfl (fun h_94 => ?_) (fun h_94 => ?_)
                · refine pt_aload_n (pc' := 107) C dX7_border_106 rfl 0 rfl ?_
                  refine pt_get (pc' := 110) C in_7 dX7_border_107 rfl 0 6 rfl rfl (by decide) f_26 rfl ?_
                  refine pt_iload_n (pc' := 111) C dX7_border_110 rfl 1 rfl ?_
                  refine pt_iald (pc' := 112) C dX7_border_111 rfl 4 rfl rfl x.toNatClampNeg ((inBd_in hm (bI_t h_14)).1) (by have := (inBd_in hm (bI_t h_14)).2; omega) (by decide) ?_
                  refine pt_goto (pc' := 140) C dX7_border_112 (by decide) ?_
                  exact pt_iretE C hr hk dX7_border_140 (rfl) (by rw [show inBd n x = true from bI_t h_14]; simp only [bmV, if_neg h_39, if_neg h_51, if_neg h_63, if_neg h_68, if_neg h_77, if_pos h_84, if_neg h_94, bI, cond_false, cond_true, Bool.and_true, Bool.true_and, Bool.and_false, Bool.false_and] <;> rfl) ((rpY n k (P 0) (P 4) (P 5) kd sz lk (P 6) (P 7) dr (P 8) (P 9) (P 10) (P 11) gn).1, (rpY n k (P 0) (P 4) (P 5) kd sz lk (P 6) (P 7) dr (P 8) (P 9) (P 10) (P 11) gn).2.1, (rpY n k (P 0) (P 4) (P 5) kd sz lk (P 6) (P 7) dr (P 8) (P 9) (P 10) (P 11) gn).2.2.1, (rpY n k (P 0) (P 4) (P 5) kd sz lk (P 6) (P 7) dr (P 8) (P 9) (P 10) (P 11) gn).2.2.2.1, (rpY n k (P 0) (P 4) (P 5) kd sz lk (P 6) (P 7) dr (P 8) (P 9) (P 10) (P 11) gn).2.2.2.2, leM 0 (P 1) (P 2), u_35) (rfl)
                · refine pt_aload_n (pc' := 98) C dX7_border_97 rfl 0 rfl ?_
                  refine pt_get (pc' := 101) C in_7 dX7_border_98 rfl 0 5 rfl rfl (by decide) f_23 rfl ?_
                  refine pt_iload_n (pc' := 102) C dX7_border_101 rfl 1 rfl ?_
                  refine pt_iald (pc' := 103) C dX7_border_102 rfl 3 rfl rfl x.toNatClampNeg ((inBd_in hm (bI_t h_14)).1) (by have := (inBd_in hm (bI_t h_14)).2; omega) (by decide) ?_
                  refine pt_goto (pc' := 140) C dX7_border_103 (by decide) ?_
                  exact pt_iretE C hr hk dX7_border_140 (rfl) (by rw [show inBd n x = true from bI_t h_14]; simp only [bmV, if_neg h_39, if_neg h_51, if_neg h_63, if_neg h_68, if_neg h_77, if_pos h_84, if_pos h_94, bI, cond_false, cond_true, Bool.and_true, Bool.true_and, Bool.and_false, Bool.false_and] <;> rfl) ((rpY n k (P 0) (P 4) (P 5) kd sz lk (P 6) (P 7) dr (P 8) (P 9) (P 10) (P 11) gn).1, (rpY n k (P 0) (P 4) (P 5) kd sz lk (P 6) (P 7) dr (P 8) (P 9) (P 10) (P 11) gn).2.1, (rpY n k (P 0) (P 4) (P 5) kd sz lk (P 6) (P 7) dr (P 8) (P 9) (P 10) (P 11) gn).2.2.1, (rpY n k (P 0) (P 4) (P 5) kd sz lk (P 6) (P 7) dr (P 8) (P 9) (P 10) (P 11) gn).2.2.2.1, (rpY n k (P 0) (P 4) (P 5) kd sz lk (P 6) (P 7) dr (P 8) (P 9) (P 10) (P 11) gn).2.2.2.2, leM 0 (P 1) (P 2), u_35) (rfl)
            · refine pt_iconst (pc' := 81) C dX7_border_80 rfl (v := -1) (by decide) ?_
              exact pt_iretE C hr hk dX7_border_81 (rfl) (by rw [show inBd n x = true from bI_t h_14]; simp only [bmV, if_neg h_39, if_neg h_51, if_neg h_63, if_neg h_68, if_pos h_77, bI, cond_false, cond_true, Bool.and_true, Bool.true_and, Bool.and_false, Bool.false_and] <;> rfl) ((rpY n k (P 0) (P 4) (P 5) kd sz lk (P 6) (P 7) dr (P 8) (P 9) (P 10) (P 11) gn).1, (rpY n k (P 0) (P 4) (P 5) kd sz lk (P 6) (P 7) dr (P 8) (P 9) (P 10) (P 11) gn).2.1, (rpY n k (P 0) (P 4) (P 5) kd sz lk (P 6) (P 7) dr (P 8) (P 9) (P 10) (P 11) gn).2.2.1, (rpY n k (P 0) (P 4) (P 5) kd sz lk (P 6) (P 7) dr (P 8) (P 9) (P 10) (P 11) gn).2.2.2.1, (rpY n k (P 0) (P 4) (P 5) kd sz lk (P 6) (P 7) dr (P 8) (P 9) (P 10) (P 11) gn).2.2.2.2, leM 0 (P 1) (P 2), u_35) (rfl)
      · refine pt_aload_n (pc' := 55) C dX7_border_54 rfl 0 rfl ?_
        refine pt_get (pc' := 58) C in_7 dX7_border_55 rfl 0 23 rfl rfl (by decide) f_68 rfl ?_
        refine pt_iload_n (pc' := 59) C dX7_border_58 rfl 1 rfl ?_
        refine pt_iald (pc' := 60) C dX7_border_59 rfl 17 rfl rfl x.toNatClampNeg ((inBd_in hm (bI_t h_14)).1) (by have := (inBd_in hm (bI_t h_14)).2; omega) (by decide) ?_
        exact pt_iretE C hr hk dX7_border_60 (rfl) (by rw [show inBd n x = true from bI_t h_14]; simp only [bmV, if_neg h_39, if_pos h_51, bI, cond_false, cond_true, Bool.and_true, Bool.true_and, Bool.and_false, Bool.false_and] <;> rfl) ((rpY n k (P 0) (P 4) (P 5) kd sz lk (P 6) (P 7) dr (P 8) (P 9) (P 10) (P 11) gn).1, (rpY n k (P 0) (P 4) (P 5) kd sz lk (P 6) (P 7) dr (P 8) (P 9) (P 10) (P 11) gn).2.1, (rpY n k (P 0) (P 4) (P 5) kd sz lk (P 6) (P 7) dr (P 8) (P 9) (P 10) (P 11) gn).2.2.1, (rpY n k (P 0) (P 4) (P 5) kd sz lk (P 6) (P 7) dr (P 8) (P 9) (P 10) (P 11) gn).2.2.2.1, (rpY n k (P 0) (P 4) (P 5) kd sz lk (P 6) (P 7) dr (P 8) (P 9) (P 10) (P 11) gn).2.2.2.2, leM 0 (P 1) (P 2), u_35) (rfl)
    · refine pt_aload_n (pc' := 43) C dX7_border_42 rfl 0 rfl ?_
      refine pt_get (pc' := 46) C in_7 dX7_border_43 rfl 0 4 rfl rfl (by decide) f_20 rfl ?_
      refine pt_iload_n (pc' := 47) C dX7_border_46 rfl 1 rfl ?_
      refine pt_iald (pc' := 48) C dX7_border_47 rfl 2 rfl rfl x.toNatClampNeg ((inBd_in hm (bI_t h_14)).1) (by have := (inBd_in hm (bI_t h_14)).2; omega) (by decide) ?_
      exact pt_iretE C hr hk dX7_border_48 (rfl) (by rw [show inBd n x = true from bI_t h_14]; simp only [bmV, if_pos h_39, bI, cond_false, cond_true, Bool.and_true, Bool.true_and, Bool.and_false, Bool.false_and] <;> rfl) ((rpY n k (P 0) (P 4) (P 5) kd sz lk (P 6) (P 7) dr (P 8) (P 9) (P 10) (P 11) gn).1, (rpY n k (P 0) (P 4) (P 5) kd sz lk (P 6) (P 7) dr (P 8) (P 9) (P 10) (P 11) gn).2.1, (rpY n k (P 0) (P 4) (P 5) kd sz lk (P 6) (P 7) dr (P 8) (P 9) (P 10) (P 11) gn).2.2.1, (rpY n k (P 0) (P 4) (P 5) kd sz lk (P 6) (P 7) dr (P 8) (P 9) (P 10) (P 11) gn).2.2.2.1, (rpY n k (P 0) (P 4) (P 5) kd sz lk (P 6) (P 7) dr (P 8) (P 9) (P 10) (P 11) gn).2.2.2.2, leM 0 (P 1) (P 2), u_35) (rfl)
  · refine pt_iload_n (pc' := 18) C dX7_border_17 rfl 2 rfl ?_
    refine pt_iconst (pc' := 19) C dX7_border_18 rfl (v := 3) (by decide) ?_
    refine pt_jn (q := 28) (k := 0) (n := 0) (wM cA aM 0 n it k td gn dr wk sv P sd se sc ba pa le mo) [(0, .ref (aM 0)), (1, .int x), (2, .int y)] [.int (if y = 3 then -100000 else -1)] (fun K => ?_) ?_
    · refine pt_icmp_ne (pc' := 22) (tgt := 27) C dX7_border_19 (by decide) rfl (fun h_19 => ?_) (fun h_19 => ?_)
      · refine pt_iconst (pc' := 28) C dX7_border_27 rfl (v := -1) (by decide) ?_
        exact pt_cv (lv' := [(0, .ref (aM 0)), (1, .int x), (2, .int y)]) rfl [0, 1, 2] rfl rfl (by simpa only [if_neg h_19] using K)
      · refine pt_ldc (pc' := 24) C dX7_border_22 rfl k_162 ?_
        refine pt_goto (pc' := 28) C dX7_border_24 (by decide) ?_
        exact pt_cv (lv' := [(0, .ref (aM 0)), (1, .int x), (2, .int y)]) rfl [0, 1, 2] rfl rfl (by simpa only [if_pos h_19] using K)
    exact pt_iretE C hr hk dX7_border_28 (rfl) (by rw [show inBd n x = false from bI_f h_14]; rfl) (sd, se, sc, ba, pa, le, mo) (rfl)

set_option maxHeartbeats 4000000 in
set_option maxRecDepth 100000 in
theorem mX7_count (l : Launch) (D : va_G) (cA : ClassId) (aM : Nat → Nat) (th : Int32) (n : Nat) (it : Int32) (k : Int32) (td : Nat) (gn : Nat) (dr : Nat) (wk : Nat) (sv : Nat) (P : Nat → Nat → Int32) (sd : Nat → Int32) (se : Nat → Int32) (sc : Nat → Int32) (ba : Nat → Int32) (pa : Nat → Int32) (le : Nat → Int32) (mo : Nat → Int32) (y : Int32) (kd : Nat → Int32) (sz : Nat → Int32) (lk : Nat → Int32) (hn : 2 ≤ n) (hm : n ≤ 12) (hg : gn ≤ 120) (hS : ∀ w, w < gn → P 7 w = 0 ∨ P 7 w = 1 ∨ P 7 w = 2) (hH : ∀ w, w < gn → heK (P 6) w) (hr2 : dr ≤ 20) (hD : ∀ i, i < dr → dOk (P 8) (P 10) i) (hU : ∀ i, i < dr → dUk (P 9) i) (hB : ∀ i, i < 12 → 0 ≤ (P 0 i).toInt ∧ (P 0 i).toInt ≤ 99999) (hp : gdP k (P 4) (P 5) kd sz lk) (hrel : ∀ b, 1 ≤ b → b < n → relB kd sz lk (P 1) (leM 0 (P 1) (P 2)) (P 3) b) : mt_IE l yX7_count wsX7_count { frames := 7, cells := 0, slots := 0, locals := 172 } D [(cA, .int)] [.ref (aM 0), .int y] (wM cA aM th n it k td gn dr wk sv P sd se sc ba pa le mo) (ctV y n td gn wk sv dr (itz (sbM (rpY n k (P 0) (P 4) (P 5) kd sz lk (P 6) (P 7) dr (P 8) (P 9) (P 10) (P 11) gn).2.2.2.1) 13 (itz (saM (rpY n k (P 0) (P 4) (P 5) kd sz lk (P 6) (P 7) dr (P 8) (P 9) (P 10) (P 11) gn).1 (rpY n k (P 0) (P 4) (P 5) kd sz lk (P 6) (P 7) dr (P 8) (P 9) (P 10) (P 11) gn).2.1) n 0))) (fun u : S7 => wM cA aM 0 n it k td gn dr wk sv P u.1 u.2.1 u.2.2.1 u.2.2.2.1 u.2.2.2.2.1 u.2.2.2.2.2.1 u.2.2.2.2.2.2) := by
  refine mt_ofIE (cc := cX7_count) (maxL := 2) (ret := (some .int)) (lv := [(0, .ref (aM 0)), (1, .int y)]) (by decide) rfl (Nat.le_of_ble_eq_true rfl) rfl ?_
  intro p e s m args below meth c A C hr hk
  have f_1 := C.hts (.fieldLink RX7 1 "ShoreFieldsModel" "thrown" "I") (by decide +kernel)
  have in_7 : ∀ w ∈ u_ws RX7 TX7 37, w ∈ wsX7_count := by decide +kernel
  have f_13 := C.hts (.fieldLink RX7 13 "ShoreFieldsModel" "fields" "I") (by decide +kernel)
  have f_123 := C.hts (.fieldLink RX7 123 "ShoreFieldsModel" "told" "I") (by decide +kernel)
  have f_117 := C.hts (.fieldLink RX7 117 "ShoreFieldsModel" "gone" "I") (by decide +kernel)
  have f_175 := C.hts (.fieldLink RX7 175 "ShoreFieldsModel" "works" "I") (by decide +kernel)
  have f_181 := C.hts (.fieldLink RX7 181 "ShoreFieldsModel" "surveys" "I") (by decide +kernel)
  have f_150 := C.hts (.fieldLink RX7 150 "ShoreFieldsModel" "dredges" "I") (by decide +kernel)
  refine pt_aload_n (pc' := 1) C dX7_count_0 rfl 0 rfl ?_
  refine pt_iconst (pc' := 2) C dX7_count_1 rfl (v := 0) (by decide) ?_
  refine pt_put (pc' := 5) (ty := .int) (ws' := wM cA aM 0 n it k td gn dr wk sv P sd se sc ba pa le mo) C in_7 tyX7 tyX7_ok nmX7 dX7_count_2 rfl 0 0 rfl rfl (by decide) f_1 rfl (by decide +kernel) (rfl) (rfl) (Nat.le_of_ble_eq_true rfl) rfl ?_
  refine pt_iload_n (pc' := 6) C dX7_count_5 rfl 1 rfl ?_
  rcases sw_6 y with hq_6 | rfl | rfl | rfl | rfl | rfl | rfl | rfl
  · refine pt_tabOut (tgt := 83) C dX7_count_6 hq_6 (by decide) ?_
    refine pt_iconst (pc' := 84) C dX7_count_83 rfl (v := -1) (by decide) ?_
    exact pt_iretE C hr hk dX7_count_84 (rfl) (by simp only [ctV, if_neg (sw_ne (c := 0) hq_6 (by decide)), if_neg (sw_ne (c := 1) hq_6 (by decide)), if_neg (sw_ne (c := 2) hq_6 (by decide)), if_neg (sw_ne (c := 3) hq_6 (by decide)), if_neg (sw_ne (c := 4) hq_6 (by decide)), if_neg (sw_ne (c := 5) hq_6 (by decide)), if_neg (sw_ne (c := 6) hq_6 (by decide))]) (sd, se, sc, ba, pa, le, mo) (rfl)
  · refine pt_tabIn (tgt := 48) C dX7_count_6 (by decide) (by decide) rfl (by decide) ?_
    refine pt_aload_n (pc' := 49) C dX7_count_48 rfl 0 rfl ?_
    refine pt_get (pc' := 52) C in_7 dX7_count_49 rfl 0 1 rfl rfl (by decide) f_13 rfl ?_
    exact pt_iretE C hr hk dX7_count_52 (rfl) (rfl) (sd, se, sc, ba, pa, le, mo) (rfl)
  · refine pt_tabIn (tgt := 53) C dX7_count_6 (by decide) (by decide) rfl (by decide) ?_
    refine pt_aload_n (pc' := 54) C dX7_count_53 rfl 0 rfl ?_
    refine pt_get (pc' := 57) C in_7 dX7_count_54 rfl 0 10 rfl rfl (by decide) f_123 rfl ?_
    exact pt_iretE C hr hk dX7_count_57 (rfl) (rfl) (sd, se, sc, ba, pa, le, mo) (rfl)
  · refine pt_tabIn (tgt := 58) C dX7_count_6 (by decide) (by decide) rfl (by decide) ?_
    refine pt_aload_n (pc' := 59) C dX7_count_58 rfl 0 rfl ?_
    refine pt_get (pc' := 62) C in_7 dX7_count_59 rfl 0 13 rfl rfl (by decide) f_117 rfl ?_
    exact pt_iretE C hr hk dX7_count_62 (rfl) (rfl) (sd, se, sc, ba, pa, le, mo) (rfl)
  · refine pt_tabIn (tgt := 63) C dX7_count_6 (by decide) (by decide) rfl (by decide) ?_
    refine pt_aload_n (pc' := 64) C dX7_count_63 rfl 0 rfl ?_
    refine pt_get (pc' := 67) C in_7 dX7_count_64 rfl 0 26 rfl rfl (by decide) f_175 rfl ?_
    exact pt_iretE C hr hk dX7_count_67 (rfl) (rfl) (sd, se, sc, ba, pa, le, mo) (rfl)
  · refine pt_tabIn (tgt := 68) C dX7_count_6 (by decide) (by decide) rfl (by decide) ?_
    refine pt_aload_n (pc' := 69) C dX7_count_68 rfl 0 rfl ?_
    refine pt_get (pc' := 72) C in_7 dX7_count_69 rfl 0 32 rfl rfl (by decide) f_181 rfl ?_
    exact pt_iretE C hr hk dX7_count_72 (rfl) (rfl) (sd, se, sc, ba, pa, le, mo) (rfl)
  · refine pt_tabIn (tgt := 73) C dX7_count_6 (by decide) (by decide) rfl (by decide) ?_
    refine pt_aload_n (pc' := 74) C dX7_count_73 rfl 0 rfl ?_
    refine pt_get (pc' := 77) C in_7 dX7_count_74 rfl 0 14 rfl rfl (by decide) f_150 rfl ?_
    exact pt_iretE C hr hk dX7_count_77 (rfl) (rfl) (sd, se, sc, ba, pa, le, mo) (rfl)
  · refine pt_tabIn (tgt := 78) C dX7_count_6 (by decide) (by decide) rfl (by decide) ?_
    refine pt_aload_n (pc' := 79) C dX7_count_78 rfl 0 rfl ?_
    refine pt_cvIE0 (pc' := 82) (w1 := fun (u_79 : S7) => wM cA aM 0 n it k td gn dr wk sv P u_79.1 u_79.2.1 u_79.2.2.1 u_79.2.2.2.1 u_79.2.2.2.2.1 u_79.2.2.2.2.2.1 u_79.2.2.2.2.2.2) (As := []) (rest := []) C (mX7_allSand l D cA aM 0 n it k td gn dr wk sv P sd se sc ba pa le mo kd sz lk (hn) (hm) (hg) (hS) (hH) (hr2) (hD) (hU) (hB) (hp) (hrel)) (cwV 0 C.hts gX7_count_X7_allSand rfl rfl rfl (by decide +kernel) ⟨Nat.le_of_ble_eq_true rfl, Nat.le_of_ble_eq_true rfl⟩) dX7_count_79 rfl 0 rfl rfl rfl rfl rfl (Nat.le_of_ble_eq_true rfl) ⟨Nat.le_of_ble_eq_true rfl, Nat.le_of_ble_eq_true rfl⟩ (fun u_79 => ?_)
    exact pt_iretE C hr hk dX7_count_82 (rfl) (rfl) (u_79.1, u_79.2.1, u_79.2.2.1, u_79.2.2.2.1, u_79.2.2.2.2.1, u_79.2.2.2.2.2.1, u_79.2.2.2.2.2.2) (rfl)

set_option maxHeartbeats 4000000 in
set_option maxRecDepth 100000 in
theorem mX7_dredge (l : Launch) (D : va_G) (cA : ClassId) (aM : Nat → Nat) (th : Int32) (n : Nat) (it : Int32) (k : Int32) (td : Nat) (gn : Nat) (dr : Nat) (wk : Nat) (sv : Nat) (P : Nat → Nat → Int32) (sd : Nat → Int32) (se : Nat → Int32) (sc : Nat → Int32) (ba : Nat → Int32) (pa : Nat → Int32) (le : Nat → Int32) (mo : Nat → Int32) (x : Int32) (y : Int32) (z : Int32) (kd : Nat → Int32) (sz : Nat → Int32) (lk : Nat → Int32) (hn : 2 ≤ n) (hm : n ≤ 12) (hg : gn ≤ 120) (hS : ∀ w, w < gn → P 7 w = 0 ∨ P 7 w = 1 ∨ P 7 w = 2) (hH : ∀ w, w < gn → heK (P 6) w) (hr2 : dr ≤ 20) (hD : ∀ i, i < dr → dOk (P 8) (P 10) i) (hU : ∀ i, i < dr → dUk (P 9) i) (hB : ∀ i, i < 12 → 0 ≤ (P 0 i).toInt ∧ (P 0 i).toInt ≤ 99999) (hp : gdP k (P 4) (P 5) kd sz lk) (hrel : ∀ b, 1 ≤ b → b < n → relB kd sz lk (P 1) (leM 0 (P 1) (P 2)) (P 3) b) : mt_IE l yX7_dredge wsX7_dredge { frames := 6, cells := 0, slots := 0, locals := 150 } D [(cA, .int)] [.ref (aM 0), .int x, .int y, .int z] (wM cA aM th n it k td gn dr wk sv P sd se sc ba pa le mo) (cond (okDre n dr (P 1) x y z) (if ((rpY n k (P 0) (P 4) (P 5) kd sz lk (P 6) (P 7) dr (P 8) (P 9) (P 10) (P 11) gn).2.2.2.1 x.toNatClampNeg) ≤ y then ((rpY n k (P 0) (P 4) (P 5) kd sz lk (P 6) (P 7) dr (P 8) (P 9) (P 10) (P 11) gn).2.2.2.1 x.toNatClampNeg) else y) (-1)) (fun u : S7 => wM cA aM 0 n (cond (okDre n dr (P 1) x y z) 1 it) k td gn (cond (okDre n dr (P 1) x y z) (dr + 1) dr) wk sv (cond (okDre n dr (P 1) x y z) (va_up (va_up (va_up (va_up P 8 (upd (P 8) dr x)) 9 (upd (P 9) dr y)) 10 (upd (P 10) dr z)) 11 (upd (P 11) dr (nI gn))) P) u.1 u.2.1 u.2.2.1 u.2.2.2.1 u.2.2.2.2.1 u.2.2.2.2.2.1 u.2.2.2.2.2.2) := by
  refine mt_ofIE (cc := cX7_dredge) (maxL := 4) (ret := (some .int)) (lv := [(0, .ref (aM 0)), (1, .int x), (2, .int y), (3, .int z)]) (by decide) rfl (Nat.le_of_ble_eq_true rfl) rfl ?_
  intro p e s m args below meth c A C hr hk
  have f_1 := C.hts (.fieldLink RX7 1 "ShoreFieldsModel" "thrown" "I") (by decide +kernel)
  have in_7 : ∀ w ∈ u_ws RX7 TX7 37, w ∈ wsX7_dredge := by decide +kernel
  have f_20 := C.hts (.fieldLink RX7 20 "ShoreFieldsModel" "kind" "[I") (by decide +kernel)
  have f_150 := C.hts (.fieldLink RX7 150 "ShoreFieldsModel" "dredges" "I") (by decide +kernel)
  have f_117 := C.hts (.fieldLink RX7 117 "ShoreFieldsModel" "gone" "I") (by decide +kernel)
  have f_44 := C.hts (.fieldLink RX7 44 "ShoreFieldsModel" "dredgeOf" "[I") (by decide +kernel)
  have f_47 := C.hts (.fieldLink RX7 47 "ShoreFieldsModel" "dredgeUnits" "[I") (by decide +kernel)
  have f_50 := C.hts (.fieldLink RX7 50 "ShoreFieldsModel" "dredgeTo" "[I") (by decide +kernel)
  have f_53 := C.hts (.fieldLink RX7 53 "ShoreFieldsModel" "dredgeOn" "[I") (by decide +kernel)
  have f_108 := C.hts (.fieldLink RX7 108 "ShoreFieldsModel" "isTold" "Z") (by decide +kernel)
  have f_65 := C.hts (.fieldLink RX7 65 "ShoreFieldsModel" "bar" "[I") (by decide +kernel)
  refine pt_aload_n (pc' := 1) C dX7_dredge_0 rfl 0 rfl ?_
  refine pt_iconst (pc' := 2) C dX7_dredge_1 rfl (v := 0) (by decide) ?_
  refine pt_put (pc' := 5) (ty := .int) (ws' := wM cA aM 0 n it k td gn dr wk sv P sd se sc ba pa le mo) C in_7 tyX7 tyX7_ok nmX7 dX7_dredge_2 rfl 0 0 rfl rfl (by decide) f_1 rfl (by decide +kernel) (rfl) (rfl) (Nat.le_of_ble_eq_true rfl) rfl ?_
  refine pt_aload_n (pc' := 6) C dX7_dredge_5 rfl 0 rfl ?_
  refine pt_iload_n (pc' := 7) C dX7_dredge_6 rfl 1 rfl ?_
  refine pt_cvI0 (pc' := 10) (w1 := wM cA aM 0 n it k td gn dr wk sv P sd se sc ba pa le mo) (As := [.int x]) (rest := []) C (mX7_isInner l D cA aM 0 n it k td gn dr wk sv P sd se sc ba pa le mo x (hn) (hm)) (cwV 1 C.hts gX7_dredge_X7_isInner rfl rfl rfl (by decide +kernel) ⟨Nat.le_of_ble_eq_true rfl, Nat.le_of_ble_eq_true rfl⟩) dX7_dredge_7 rfl 0 rfl rfl rfl rfl rfl (Nat.le_of_ble_eq_true rfl) ⟨Nat.le_of_ble_eq_true rfl, Nat.le_of_ble_eq_true rfl⟩ ?_
  refine pt_if_eq (pc' := 13) (tgt := 51) C dX7_dredge_10 (by decide) rfl (fun h_10 => ?_) (fun h_10 => ?_)
  · refine pt_iconst (pc' := 52) C dX7_dredge_51 rfl (v := -1) (by decide) ?_
    exact pt_iretE C hr hk dX7_dredge_52 (rfl) (by simp only [okDre, hasA, bI_f h_10, bI, cond_false, cond_true, Bool.and_true, Bool.true_and, Bool.and_false, Bool.false_and] <;> rfl) (sd, se, sc, ba, pa, le, mo) (by simp only [okDre, hasA, bI_f h_10, bI, cond_false, cond_true, Bool.and_true, Bool.true_and, Bool.and_false, Bool.false_and] <;> rfl)
  · refine pt_aload_n (pc' := 14) C dX7_dredge_13 rfl 0 rfl ?_
    refine pt_get (pc' := 17) C in_7 dX7_dredge_14 rfl 0 4 rfl rfl (by decide) f_20 rfl ?_
    refine pt_iload_n (pc' := 18) C dX7_dredge_17 rfl 1 rfl ?_
    refine pt_iald (pc' := 19) C dX7_dredge_18 rfl 2 rfl rfl x.toNatClampNeg ((inI_in hm (bI_t h_10)).1) (by have := (inI_in hm (bI_t h_10)).2.2; omega) (by decide) ?_
    refine pt_iconst (pc' := 20) C dX7_dredge_19 rfl (v := 2) (by decide) ?_
    refine pt_icmp_ne (pc' := 23) (tgt := 51) C dX7_dredge_20 (by decide) rfl (fun h_20 => ?_) (fun h_20 => ?_)
    · refine pt_iconst (pc' := 52) C dX7_dredge_51 rfl (v := -1) (by decide) ?_
      exact pt_iretE C hr hk dX7_dredge_52 (rfl) (by simp only [okDre, hasA, bI_t h_10, if_neg h_20, bI, cond_false, cond_true, Bool.and_true, Bool.true_and, Bool.and_false, Bool.false_and] <;> rfl) (sd, se, sc, ba, pa, le, mo) (by simp only [okDre, hasA, bI_t h_10, if_neg h_20, bI, cond_false, cond_true, Bool.and_true, Bool.true_and, Bool.and_false, Bool.false_and] <;> rfl)
    · refine pt_aload_n (pc' := 24) C dX7_dredge_23 rfl 0 rfl ?_
      refine pt_iload_n (pc' := 25) C dX7_dredge_24 rfl 3 rfl ?_
      refine pt_cvI0 (pc' := 28) (w1 := wM cA aM 0 n it k td gn dr wk sv P sd se sc ba pa le mo) (As := [.int z]) (rest := []) C (mX7_isField l D cA aM 0 n it k td gn dr wk sv P sd se sc ba pa le mo z (hn) (hm)) (cwV 1 C.hts gX7_dredge_X7_isField rfl rfl rfl (by decide +kernel) ⟨Nat.le_of_ble_eq_true rfl, Nat.le_of_ble_eq_true rfl⟩) dX7_dredge_25 rfl 0 rfl rfl rfl rfl rfl (Nat.le_of_ble_eq_true rfl) ⟨Nat.le_of_ble_eq_true rfl, Nat.le_of_ble_eq_true rfl⟩ ?_
      refine pt_if_eq (pc' := 31) (tgt := 51) C dX7_dredge_28 (by decide) rfl (fun h_28 => ?_) (fun h_28 => ?_)
      · refine pt_iconst (pc' := 52) C dX7_dredge_51 rfl (v := -1) (by decide) ?_
        exact pt_iretE C hr hk dX7_dredge_52 (rfl) (by simp only [okDre, hasA, bI_t h_10, if_pos h_20, bI_f h_28, bI, cond_false, cond_true, Bool.and_true, Bool.true_and, Bool.and_false, Bool.false_and] <;> rfl) (sd, se, sc, ba, pa, le, mo) (by simp only [okDre, hasA, bI_t h_10, if_pos h_20, bI_f h_28, bI, cond_false, cond_true, Bool.and_true, Bool.true_and, Bool.and_false, Bool.false_and] <;> rfl)
      · refine pt_iload_n (pc' := 32) C dX7_dredge_31 rfl 2 rfl ?_
        refine pt_iconst (pc' := 33) C dX7_dredge_32 rfl (v := 1) (by decide) ?_
        refine pt_sipush (pc' := 36) C dX7_dredge_33 rfl (v := 9999) (by decide) ?_
        refine pt_csI0 (pc' := 39) (As := [.int y, .int 1, .int 9999]) (rest := []) C (mX7_within l D cA y 1 9999 ) (va_cwS 3 C.hts gX7_dredge_X7_within rfl rfl rfl (by decide +kernel) ⟨Nat.le_of_ble_eq_true rfl, Nat.le_of_ble_eq_true rfl⟩) dX7_dredge_36 rfl rfl rfl (Nat.le_of_ble_eq_true rfl) ⟨Nat.le_of_ble_eq_true rfl, Nat.le_of_ble_eq_true rfl⟩ ?_
        refine pt_if_eq (pc' := 42) (tgt := 51) C dX7_dredge_39 (by decide) rfl (fun h_39 => ?_) (fun h_39 => ?_)
        · refine pt_iconst (pc' := 52) C dX7_dredge_51 rfl (v := -1) (by decide) ?_
          exact pt_iretE C hr hk dX7_dredge_52 (rfl) (by simp only [okDre, hasA, bI_t h_10, if_pos h_20, bI_t h_28, bI_f h_39, bI, cond_false, cond_true, Bool.and_true, Bool.true_and, Bool.and_false, Bool.false_and] <;> rfl) (sd, se, sc, ba, pa, le, mo) (by simp only [okDre, hasA, bI_t h_10, if_pos h_20, bI_t h_28, bI_f h_39, bI, cond_false, cond_true, Bool.and_true, Bool.true_and, Bool.and_false, Bool.false_and] <;> rfl)
        · refine pt_aload_n (pc' := 43) C dX7_dredge_42 rfl 0 rfl ?_
          refine pt_get (pc' := 46) C in_7 dX7_dredge_43 rfl 0 14 rfl rfl (by decide) f_150 rfl ?_
          refine pt_bipush (pc' := 48) C dX7_dredge_46 rfl (v := 20) (by decide) ?_
          refine pt_icmp_ne (pc' := 51) (tgt := 53) C dX7_dredge_48 (by decide) rfl (fun h_48 => ?_) (fun h_48 => ?_)
          · have hlt : dr < 20 := of_decide_eq_true (de_t (b := 20) (by decide) hr2 h_48)
            refine pt_aload_n (pc' := 54) C dX7_dredge_53 rfl 0 rfl ?_
            refine pt_aload_n (pc' := 55) C dX7_dredge_54 rfl 0 rfl ?_
            refine pt_get (pc' := 58) C in_7 dX7_dredge_55 rfl 0 13 rfl rfl (by decide) f_117 rfl ?_
            refine pt_iconst (pc' := 59) C dX7_dredge_58 rfl (v := 0) (by decide) ?_
            refine pt_cvVE0 (pc' := 62) (w1 := fun (u_59 : Nat → Int32) => wM cA aM 0 n it k td gn dr wk sv P ((rpY n k (P 0) (P 4) (P 5) kd sz lk (P 6) (P 7) dr (P 8) (P 9) (P 10) (P 11) gn).1) ((rpY n k (P 0) (P 4) (P 5) kd sz lk (P 6) (P 7) dr (P 8) (P 9) (P 10) (P 11) gn).2.1) ((rpY n k (P 0) (P 4) (P 5) kd sz lk (P 6) (P 7) dr (P 8) (P 9) (P 10) (P 11) gn).2.2.1) ((rpY n k (P 0) (P 4) (P 5) kd sz lk (P 6) (P 7) dr (P 8) (P 9) (P 10) (P 11) gn).2.2.2.1) ((rpY n k (P 0) (P 4) (P 5) kd sz lk (P 6) (P 7) dr (P 8) (P 9) (P 10) (P 11) gn).2.2.2.2) (leM 0 (P 1) (P 2)) u_59) (As := [.int (nI gn), .int 0]) (rest := []) C (mY7_runs l D cA aM 0 n it k td gn dr wk sv P sd se sc ba pa le mo gn 0 kd sz lk (hn) (hm) (hg) (hS) (hH) (hr2) (hD) (hU) (hB) (hp) (hrel)) (cwV 2 C.hts gX7_dredge_X7_runs rfl rfl rfl (by decide +kernel) ⟨Nat.le_of_ble_eq_true rfl, Nat.le_of_ble_eq_true rfl⟩) dX7_dredge_59 rfl 0 rfl rfl rfl rfl rfl (Nat.le_of_ble_eq_true rfl) ⟨Nat.le_of_ble_eq_true rfl, Nat.le_of_ble_eq_true rfl⟩ (fun u_59 => ?_)
            refine pt_aload_n (pc' := 63) C dX7_dredge_62 rfl 0 rfl ?_
            refine pt_get (pc' := 66) C in_7 dX7_dredge_63 rfl 0 15 rfl rfl (by decide) f_44 rfl ?_
            refine pt_aload_n (pc' := 67) C dX7_dredge_66 rfl 0 rfl ?_
            refine pt_get (pc' := 70) C in_7 dX7_dredge_67 rfl 0 14 rfl rfl (by decide) f_150 rfl ?_
            refine pt_iload_n (pc' := 71) C dX7_dredge_70 rfl 1 rfl ?_
            refine pt_iast (pc' := 72) (ws' := wM cA aM 0 n it k td gn dr wk sv (va_up P 8 (upd (P 8) dr x)) ((rpY n k (P 0) (P 4) (P 5) kd sz lk (P 6) (P 7) dr (P 8) (P 9) (P 10) (P 11) gn).1) ((rpY n k (P 0) (P 4) (P 5) kd sz lk (P 6) (P 7) dr (P 8) (P 9) (P 10) (P 11) gn).2.1) ((rpY n k (P 0) (P 4) (P 5) kd sz lk (P 6) (P 7) dr (P 8) (P 9) (P 10) (P 11) gn).2.2.1) ((rpY n k (P 0) (P 4) (P 5) kd sz lk (P 6) (P 7) dr (P 8) (P 9) (P 10) (P 11) gn).2.2.2.1) ((rpY n k (P 0) (P 4) (P 5) kd sz lk (P 6) (P 7) dr (P 8) (P 9) (P 10) (P 11) gn).2.2.2.2) (leM 0 (P 1) (P 2)) u_59) C dX7_dredge_71 rfl 9 rfl rfl dr (rfl) (by omega) (by decide) rfl ?_
            refine pt_aload_n (pc' := 73) C dX7_dredge_72 rfl 0 rfl ?_
            refine pt_get (pc' := 76) C in_7 dX7_dredge_73 rfl 0 16 rfl rfl (by decide) f_47 rfl ?_
            refine pt_aload_n (pc' := 77) C dX7_dredge_76 rfl 0 rfl ?_
            refine pt_get (pc' := 80) C in_7 dX7_dredge_77 rfl 0 14 rfl rfl (by decide) f_150 rfl ?_
            refine pt_iload_n (pc' := 81) C dX7_dredge_80 rfl 2 rfl ?_
            refine pt_iast (pc' := 82) (ws' := wM cA aM 0 n it k td gn dr wk sv (va_up (va_up P 8 (upd (P 8) dr x)) 9 (upd ((va_up P 8 (upd (P 8) dr x)) 9) dr y)) ((rpY n k (P 0) (P 4) (P 5) kd sz lk (P 6) (P 7) dr (P 8) (P 9) (P 10) (P 11) gn).1) ((rpY n k (P 0) (P 4) (P 5) kd sz lk (P 6) (P 7) dr (P 8) (P 9) (P 10) (P 11) gn).2.1) ((rpY n k (P 0) (P 4) (P 5) kd sz lk (P 6) (P 7) dr (P 8) (P 9) (P 10) (P 11) gn).2.2.1) ((rpY n k (P 0) (P 4) (P 5) kd sz lk (P 6) (P 7) dr (P 8) (P 9) (P 10) (P 11) gn).2.2.2.1) ((rpY n k (P 0) (P 4) (P 5) kd sz lk (P 6) (P 7) dr (P 8) (P 9) (P 10) (P 11) gn).2.2.2.2) (leM 0 (P 1) (P 2)) u_59) C dX7_dredge_81 rfl 10 rfl rfl dr (rfl) (by omega) (by decide) rfl ?_
            refine pt_aload_n (pc' := 83) C dX7_dredge_82 rfl 0 rfl ?_
            refine pt_get (pc' := 86) C in_7 dX7_dredge_83 rfl 0 17 rfl rfl (by decide) f_50 rfl ?_
            refine pt_aload_n (pc' := 87) C dX7_dredge_86 rfl 0 rfl ?_
            refine pt_get (pc' := 90) C in_7 dX7_dredge_87 rfl 0 14 rfl rfl (by decide) f_150 rfl ?_
            refine pt_iload_n (pc' := 91) C dX7_dredge_90 rfl 3 rfl ?_
            refine pt_iast (pc' := 92) (ws' := wM cA aM 0 n it k td gn dr wk sv (va_up (va_up (va_up P 8 (upd (P 8) dr x)) 9 (upd ((va_up P 8 (upd (P 8) dr x)) 9) dr y)) 10 (upd ((va_up (va_up P 8 (upd (P 8) dr x)) 9 (upd ((va_up P 8 (upd (P 8) dr x)) 9) dr y)) 10) dr z)) ((rpY n k (P 0) (P 4) (P 5) kd sz lk (P 6) (P 7) dr (P 8) (P 9) (P 10) (P 11) gn).1) ((rpY n k (P 0) (P 4) (P 5) kd sz lk (P 6) (P 7) dr (P 8) (P 9) (P 10) (P 11) gn).2.1) ((rpY n k (P 0) (P 4) (P 5) kd sz lk (P 6) (P 7) dr (P 8) (P 9) (P 10) (P 11) gn).2.2.1) ((rpY n k (P 0) (P 4) (P 5) kd sz lk (P 6) (P 7) dr (P 8) (P 9) (P 10) (P 11) gn).2.2.2.1) ((rpY n k (P 0) (P 4) (P 5) kd sz lk (P 6) (P 7) dr (P 8) (P 9) (P 10) (P 11) gn).2.2.2.2) (leM 0 (P 1) (P 2)) u_59) C dX7_dredge_91 rfl 11 rfl rfl dr (rfl) (by omega) (by decide) rfl ?_
            refine pt_aload_n (pc' := 93) C dX7_dredge_92 rfl 0 rfl ?_
            refine pt_get (pc' := 96) C in_7 dX7_dredge_93 rfl 0 18 rfl rfl (by decide) f_53 rfl ?_
            refine pt_aload_n (pc' := 97) C dX7_dredge_96 rfl 0 rfl ?_
            refine pt_get (pc' := 100) C in_7 dX7_dredge_97 rfl 0 14 rfl rfl (by decide) f_150 rfl ?_
            refine pt_aload_n (pc' := 101) C dX7_dredge_100 rfl 0 rfl ?_
            refine pt_get (pc' := 104) C in_7 dX7_dredge_101 rfl 0 13 rfl rfl (by decide) f_117 rfl ?_
            refine pt_iast (pc' := 105) (ws' := wM cA aM 0 n it k td gn dr wk sv (va_up (va_up (va_up (va_up P 8 (upd (P 8) dr x)) 9 (upd ((va_up P 8 (upd (P 8) dr x)) 9) dr y)) 10 (upd ((va_up (va_up P 8 (upd (P 8) dr x)) 9 (upd ((va_up P 8 (upd (P 8) dr x)) 9) dr y)) 10) dr z)) 11 (upd ((va_up (va_up (va_up P 8 (upd (P 8) dr x)) 9 (upd ((va_up P 8 (upd (P 8) dr x)) 9) dr y)) 10 (upd ((va_up (va_up P 8 (upd (P 8) dr x)) 9 (upd ((va_up P 8 (upd (P 8) dr x)) 9) dr y)) 10) dr z)) 11) dr (nI gn))) ((rpY n k (P 0) (P 4) (P 5) kd sz lk (P 6) (P 7) dr (P 8) (P 9) (P 10) (P 11) gn).1) ((rpY n k (P 0) (P 4) (P 5) kd sz lk (P 6) (P 7) dr (P 8) (P 9) (P 10) (P 11) gn).2.1) ((rpY n k (P 0) (P 4) (P 5) kd sz lk (P 6) (P 7) dr (P 8) (P 9) (P 10) (P 11) gn).2.2.1) ((rpY n k (P 0) (P 4) (P 5) kd sz lk (P 6) (P 7) dr (P 8) (P 9) (P 10) (P 11) gn).2.2.2.1) ((rpY n k (P 0) (P 4) (P 5) kd sz lk (P 6) (P 7) dr (P 8) (P 9) (P 10) (P 11) gn).2.2.2.2) (leM 0 (P 1) (P 2)) u_59) C dX7_dredge_104 rfl 12 rfl rfl dr (rfl) (by omega) (by decide) rfl ?_
            refine pt_aload_n (pc' := 106) C dX7_dredge_105 rfl 0 rfl ?_
            refine pt_dup (pc' := 107) C dX7_dredge_106 rfl rfl ?_
            refine pt_get (pc' := 110) C in_7 dX7_dredge_107 rfl 0 14 rfl rfl (by decide) f_150 rfl ?_
            refine pt_iconst (pc' := 111) C dX7_dredge_110 rfl (v := 1) (by decide) ?_
            refine pt_iadd (pc' := 112) C dX7_dredge_111 rfl ?_
            refine pt_eq (st' := [.int (nI (dr + 1)), .ref (aM 0)]) rfl rfl (by rw [nI_1]) ?_
            refine pt_put (pc' := 115) (ty := .int) (ws' := wM cA aM 0 n it k td gn (dr + 1) wk sv (va_up (va_up (va_up (va_up P 8 (upd (P 8) dr x)) 9 (upd ((va_up P 8 (upd (P 8) dr x)) 9) dr y)) 10 (upd ((va_up (va_up P 8 (upd (P 8) dr x)) 9 (upd ((va_up P 8 (upd (P 8) dr x)) 9) dr y)) 10) dr z)) 11 (upd ((va_up (va_up (va_up P 8 (upd (P 8) dr x)) 9 (upd ((va_up P 8 (upd (P 8) dr x)) 9) dr y)) 10 (upd ((va_up (va_up P 8 (upd (P 8) dr x)) 9 (upd ((va_up P 8 (upd (P 8) dr x)) 9) dr y)) 10) dr z)) 11) dr (nI gn))) ((rpY n k (P 0) (P 4) (P 5) kd sz lk (P 6) (P 7) dr (P 8) (P 9) (P 10) (P 11) gn).1) ((rpY n k (P 0) (P 4) (P 5) kd sz lk (P 6) (P 7) dr (P 8) (P 9) (P 10) (P 11) gn).2.1) ((rpY n k (P 0) (P 4) (P 5) kd sz lk (P 6) (P 7) dr (P 8) (P 9) (P 10) (P 11) gn).2.2.1) ((rpY n k (P 0) (P 4) (P 5) kd sz lk (P 6) (P 7) dr (P 8) (P 9) (P 10) (P 11) gn).2.2.2.1) ((rpY n k (P 0) (P 4) (P 5) kd sz lk (P 6) (P 7) dr (P 8) (P 9) (P 10) (P 11) gn).2.2.2.2) (leM 0 (P 1) (P 2)) u_59) C in_7 tyX7 tyX7_ok nmX7 dX7_dredge_112 rfl 0 14 rfl rfl (by decide) f_150 rfl (by decide +kernel) (rfl) (rfl) (Nat.le_of_ble_eq_true rfl) rfl ?_
            refine pt_aload_n (pc' := 116) C dX7_dredge_115 rfl 0 rfl ?_
            refine pt_iconst (pc' := 117) C dX7_dredge_116 rfl (v := 1) (by decide) ?_
            refine pt_put (pc' := 120) (ty := .boolean) (ws' := wM cA aM 0 n 1 k td gn (dr + 1) wk sv (va_up (va_up (va_up (va_up P 8 (upd (P 8) dr x)) 9 (upd ((va_up P 8 (upd (P 8) dr x)) 9) dr y)) 10 (upd ((va_up (va_up P 8 (upd (P 8) dr x)) 9 (upd ((va_up P 8 (upd (P 8) dr x)) 9) dr y)) 10) dr z)) 11 (upd ((va_up (va_up (va_up P 8 (upd (P 8) dr x)) 9 (upd ((va_up P 8 (upd (P 8) dr x)) 9) dr y)) 10 (upd ((va_up (va_up P 8 (upd (P 8) dr x)) 9 (upd ((va_up P 8 (upd (P 8) dr x)) 9) dr y)) 10) dr z)) 11) dr (nI gn))) ((rpY n k (P 0) (P 4) (P 5) kd sz lk (P 6) (P 7) dr (P 8) (P 9) (P 10) (P 11) gn).1) ((rpY n k (P 0) (P 4) (P 5) kd sz lk (P 6) (P 7) dr (P 8) (P 9) (P 10) (P 11) gn).2.1) ((rpY n k (P 0) (P 4) (P 5) kd sz lk (P 6) (P 7) dr (P 8) (P 9) (P 10) (P 11) gn).2.2.1) ((rpY n k (P 0) (P 4) (P 5) kd sz lk (P 6) (P 7) dr (P 8) (P 9) (P 10) (P 11) gn).2.2.2.1) ((rpY n k (P 0) (P 4) (P 5) kd sz lk (P 6) (P 7) dr (P 8) (P 9) (P 10) (P 11) gn).2.2.2.2) (leM 0 (P 1) (P 2)) u_59) C in_7 tyX7 tyX7_ok nmX7 dX7_dredge_117 rfl 0 2 rfl rfl (by decide) f_108 rfl (by decide +kernel) (rfl) (rfl) (Nat.le_of_ble_eq_true rfl) rfl ?_
            refine pt_iload_n (pc' := 121) C dX7_dredge_120 rfl 2 rfl ?_
            refine pt_aload_n (pc' := 122) C dX7_dredge_121 rfl 0 rfl ?_
            refine pt_get (pc' := 125) C in_7 dX7_dredge_122 rfl 0 22 rfl rfl (by decide) f_65 rfl ?_
            refine pt_iload_n (pc' := 126) C dX7_dredge_125 rfl 1 rfl ?_
            refine pt_iald (pc' := 127) C dX7_dredge_126 rfl 16 rfl rfl x.toNatClampNeg ((inI_in hm (bI_t h_10)).1) (by have := (inI_in hm (bI_t h_10)).2.2; omega) (by decide) ?_
            refine pt_jn (q := 140) (k := 0) (n := 0) (wM cA aM 0 n 1 k td gn (dr + 1) wk sv (va_up (va_up (va_up (va_up P 8 (upd (P 8) dr x)) 9 (upd ((va_up P 8 (upd (P 8) dr x)) 9) dr y)) 10 (upd ((va_up (va_up P 8 (upd (P 8) dr x)) 9 (upd ((va_up P 8 (upd (P 8) dr x)) 9) dr y)) 10) dr z)) 11 (upd ((va_up (va_up (va_up P 8 (upd (P 8) dr x)) 9 (upd ((va_up P 8 (upd (P 8) dr x)) 9) dr y)) 10 (upd ((va_up (va_up P 8 (upd (P 8) dr x)) 9 (upd ((va_up P 8 (upd (P 8) dr x)) 9) dr y)) 10) dr z)) 11) dr (nI gn))) ((rpY n k (P 0) (P 4) (P 5) kd sz lk (P 6) (P 7) dr (P 8) (P 9) (P 10) (P 11) gn).1) ((rpY n k (P 0) (P 4) (P 5) kd sz lk (P 6) (P 7) dr (P 8) (P 9) (P 10) (P 11) gn).2.1) ((rpY n k (P 0) (P 4) (P 5) kd sz lk (P 6) (P 7) dr (P 8) (P 9) (P 10) (P 11) gn).2.2.1) ((rpY n k (P 0) (P 4) (P 5) kd sz lk (P 6) (P 7) dr (P 8) (P 9) (P 10) (P 11) gn).2.2.2.1) ((rpY n k (P 0) (P 4) (P 5) kd sz lk (P 6) (P 7) dr (P 8) (P 9) (P 10) (P 11) gn).2.2.2.2) (leM 0 (P 1) (P 2)) u_59) [(0, .ref (aM 0)), (1, .int x), (2, .int y), (3, .int z)] [.int (if (((rpY n k (P 0) (P 4) (P 5) kd sz lk (P 6) (P 7) dr (P 8) (P 9) (P 10) (P 11) gn).2.2.2.1) x.toNatClampNeg) ≤ y then ((rpY n k (P 0) (P 4) (P 5) kd sz lk (P 6) (P 7) dr (P 8) (P 9) (P 10) (P 11) gn).2.2.2.1) x.toNatClampNeg else y)] (fun K => ?_) ?_
            · refine pt_icmp_ge (pc' := 130) (tgt := 134) C dX7_dredge_127 (by decide) rfl (fun h_127 => ?_) (fun h_127 => ?_)
              · refine pt_aload_n (pc' := 135) C dX7_dredge_134 rfl 0 rfl ?_
                refine pt_get (pc' := 138) C in_7 dX7_dredge_135 rfl 0 22 rfl rfl (by decide) f_65 rfl ?_
                refine pt_iload_n (pc' := 139) C dX7_dredge_138 rfl 1 rfl ?_
                refine pt_iald (pc' := 140) C dX7_dredge_139 rfl 16 rfl rfl x.toNatClampNeg ((inI_in hm (bI_t h_10)).1) (by have := (inI_in hm (bI_t h_10)).2.2; omega) (by decide) ?_
                exact pt_cv (lv' := [(0, .ref (aM 0)), (1, .int x), (2, .int y), (3, .int z)]) rfl [0, 1, 2, 3] rfl rfl (by simpa only [if_pos h_127] using K)
              · refine pt_iload_n (pc' := 131) C dX7_dredge_130 rfl 2 rfl ?_
                refine pt_goto (pc' := 140) C dX7_dredge_131 (by decide) ?_
                exact pt_cv (lv' := [(0, .ref (aM 0)), (1, .int x), (2, .int y), (3, .int z)]) rfl [0, 1, 2, 3] rfl rfl (by simpa only [if_neg h_127] using K)
            exact pt_iretE C hr hk dX7_dredge_140 (rfl) (by simp only [okDre, hasA, bI_t h_10, if_pos h_20, bI_t h_28, bI_t h_39, de_t (b := 20) (by decide) (by omega) h_48, bI, cond_false, cond_true, Bool.and_true, Bool.true_and, Bool.and_false, Bool.false_and] <;> rfl) ((rpY n k (P 0) (P 4) (P 5) kd sz lk (P 6) (P 7) dr (P 8) (P 9) (P 10) (P 11) gn).1, (rpY n k (P 0) (P 4) (P 5) kd sz lk (P 6) (P 7) dr (P 8) (P 9) (P 10) (P 11) gn).2.1, (rpY n k (P 0) (P 4) (P 5) kd sz lk (P 6) (P 7) dr (P 8) (P 9) (P 10) (P 11) gn).2.2.1, (rpY n k (P 0) (P 4) (P 5) kd sz lk (P 6) (P 7) dr (P 8) (P 9) (P 10) (P 11) gn).2.2.2.1, (rpY n k (P 0) (P 4) (P 5) kd sz lk (P 6) (P 7) dr (P 8) (P 9) (P 10) (P 11) gn).2.2.2.2, leM 0 (P 1) (P 2), u_59) (by simp only [okDre, hasA, bI_t h_10, if_pos h_20, bI_t h_28, bI_t h_39, de_t (b := 20) (by decide) (by omega) h_48, bI, cond_false, cond_true, Bool.and_true, Bool.true_and, Bool.and_false, Bool.false_and] <;> rfl)
          · refine pt_iconst (pc' := 52) C dX7_dredge_51 rfl (v := -1) (by decide) ?_
            exact pt_iretE C hr hk dX7_dredge_52 (rfl) (by simp only [okDre, hasA, bI_t h_10, if_pos h_20, bI_t h_28, bI_t h_39, de_f (b := 20) (by decide) (by omega) h_48, bI, cond_false, cond_true, Bool.and_true, Bool.true_and, Bool.and_false, Bool.false_and] <;> rfl) (sd, se, sc, ba, pa, le, mo) (by simp only [okDre, hasA, bI_t h_10, if_pos h_20, bI_t h_28, bI_t h_39, de_f (b := 20) (by decide) (by omega) h_48, bI, cond_false, cond_true, Bool.and_true, Bool.true_and, Bool.and_false, Bool.false_and] <;> rfl)

set_option maxHeartbeats 4000000 in
set_option maxRecDepth 100000 in
theorem mX7_without (l : Launch) (D : va_G) (cA : ClassId) (aM : Nat → Nat) (th : Int32) (n : Nat) (it : Int32) (k : Int32) (td : Nat) (gn : Nat) (dr : Nat) (wk : Nat) (sv : Nat) (P : Nat → Nat → Int32) (sd : Nat → Int32) (se : Nat → Int32) (sc : Nat → Int32) (ba : Nat → Int32) (pa : Nat → Int32) (le : Nat → Int32) (mo : Nat → Int32) (x : Int32) (y : Int32) (kd : Nat → Int32) (sz : Nat → Int32) (lk : Nat → Int32) (hn : 2 ≤ n) (hm : n ≤ 12) (hg : gn ≤ 120) (hS : ∀ w, w < gn → P 7 w = 0 ∨ P 7 w = 1 ∨ P 7 w = 2) (hH : ∀ w, w < gn → heK (P 6) w) (hr2 : dr ≤ 20) (hD : ∀ i, i < dr → dOk (P 8) (P 10) i) (hU : ∀ i, i < dr → dUk (P 9) i) (hB : ∀ i, i < 12 → 0 ≤ (P 0 i).toInt ∧ (P 0 i).toInt ≤ 99999) (hp : gdP k (P 4) (P 5) kd sz lk) (hrel : allB (agB n (P 1) x) 32 = true → ∀ b, 1 ≤ b → b < n → relB kd sz lk (P 1) (leM x (P 1) (P 2)) (P 3) b) : mt_IE l yX7_without wsX7_without { frames := 7, cells := 0, slots := 0, locals := 172 } D [(cA, .int)] [.ref (aM 0), .int x, .int y] (wM cA aM th n it k td gn dr wk sv P sd se sc ba pa le mo) (cond (inF n y && allB (agB n (P 1) x) 32) (ln (rpY n k (P 0) (P 4) (P 5) kd sz lk (P 6) (P 7) dr (P 8) (P 9) (P 10) (P 11) gn).1 y.toNatClampNeg) (-1)) (fun u : S7 => wM cA aM 0 n it k td gn dr wk sv P u.1 u.2.1 u.2.2.1 u.2.2.2.1 u.2.2.2.2.1 u.2.2.2.2.2.1 u.2.2.2.2.2.2) := by
  refine mt_ofIE (cc := cX7_without) (maxL := 3) (ret := (some .int)) (lv := [(0, .ref (aM 0)), (1, .int x), (2, .int y)]) (by decide) rfl (Nat.le_of_ble_eq_true rfl) rfl ?_
  intro p e s m args below meth c A C hr hk
  have f_1 := C.hts (.fieldLink RX7 1 "ShoreFieldsModel" "thrown" "I") (by decide +kernel)
  have in_7 : ∀ w ∈ u_ws RX7 TX7 37, w ∈ wsX7_without := by decide +kernel
  refine pt_aload_n (pc' := 1) C dX7_without_0 rfl 0 rfl ?_
  refine pt_iconst (pc' := 2) C dX7_without_1 rfl (v := 0) (by decide) ?_
  refine pt_put (pc' := 5) (ty := .int) (ws' := wM cA aM 0 n it k td gn dr wk sv P sd se sc ba pa le mo) C in_7 tyX7 tyX7_ok nmX7 dX7_without_2 rfl 0 0 rfl rfl (by decide) f_1 rfl (by decide +kernel) (rfl) (rfl) (Nat.le_of_ble_eq_true rfl) rfl ?_
  refine pt_aload_n (pc' := 6) C dX7_without_5 rfl 0 rfl ?_
  refine pt_iload_n (pc' := 7) C dX7_without_6 rfl 2 rfl ?_
  refine pt_cvI0 (pc' := 10) (w1 := wM cA aM 0 n it k td gn dr wk sv P sd se sc ba pa le mo) (As := [.int y]) (rest := []) C (mX7_isField l D cA aM 0 n it k td gn dr wk sv P sd se sc ba pa le mo y (hn) (hm)) (cwV 1 C.hts gX7_without_X7_isField rfl rfl rfl (by decide +kernel) ⟨Nat.le_of_ble_eq_true rfl, Nat.le_of_ble_eq_true rfl⟩) dX7_without_7 rfl 0 rfl rfl rfl rfl rfl (Nat.le_of_ble_eq_true rfl) ⟨Nat.le_of_ble_eq_true rfl, Nat.le_of_ble_eq_true rfl⟩ ?_
  refine pt_if_eq (pc' := 13) (tgt := 21) C dX7_without_10 (by decide) rfl (fun h_10 => ?_) (fun h_10 => ?_)
  · refine pt_iconst (pc' := 22) C dX7_without_21 rfl (v := -1) (by decide) ?_
    refine pt_goto (pc' := 31) C dX7_without_22 (by decide) ?_
    exact pt_iretE C hr hk dX7_without_31 (rfl) (by simp only [bI_f h_10, bI, cond_false, cond_true, Bool.and_true, Bool.true_and, Bool.and_false, Bool.false_and] <;> rfl) (sd, se, sc, ba, pa, le, mo) (rfl)
  · refine pt_aload_n (pc' := 14) C dX7_without_13 rfl 0 rfl ?_
    refine pt_iload_n (pc' := 15) C dX7_without_14 rfl 1 rfl ?_
    refine pt_cvI0 (pc' := 18) (w1 := wM cA aM 0 n it k td gn dr wk sv P sd se sc ba pa le mo) (As := [.int x]) (rest := []) C (mX7_areGroynes l D cA aM 0 n it k td gn dr wk sv P sd se sc ba pa le mo x (hn) (hm)) (cwV 1 C.hts gX7_without_X7_areGroynes rfl rfl rfl (by decide +kernel) ⟨Nat.le_of_ble_eq_true rfl, Nat.le_of_ble_eq_true rfl⟩) dX7_without_15 rfl 0 rfl rfl rfl rfl rfl (Nat.le_of_ble_eq_true rfl) ⟨Nat.le_of_ble_eq_true rfl, Nat.le_of_ble_eq_true rfl⟩ ?_
    refine pt_if_ne (pc' := 21) (tgt := 25) C dX7_without_18 (by decide) rfl (fun h_18 => ?_) (fun h_18 => ?_)
    · refine pt_aload_n (pc' := 26) C dX7_without_25 rfl 0 rfl ?_
      refine pt_iload_n (pc' := 27) C dX7_without_26 rfl 1 rfl ?_
      refine pt_iload_n (pc' := 28) C dX7_without_27 rfl 2 rfl ?_
      refine pt_eq (st' := [.int (nI y.toNatClampNeg), .int x, .ref (aM 0)]) rfl rfl (by rw [← (inF_in hm (bI_t h_10)).1]) ?_
      refine pt_cvIE0 (pc' := 31) (w1 := fun (u_28 : S7) => wM cA aM 0 n it k td gn dr wk sv P u_28.1 u_28.2.1 u_28.2.2.1 u_28.2.2.2.1 u_28.2.2.2.2.1 u_28.2.2.2.2.2.1 u_28.2.2.2.2.2.2) (As := [.int x, .int (nI y.toNatClampNeg)]) (rest := []) C (mX7_lineWithout l D cA aM 0 n it k td gn dr wk sv P sd se sc ba pa le mo x y.toNatClampNeg kd sz lk (hn) (hm) (hg) (hS) (hH) (hr2) (hD) (hU) (hB) (hp) (hrel (bI_t h_18)) (by have := (inF_in hm (bI_t h_10)).2; omega)) (cwV 2 C.hts gX7_without_X7_lineWithout rfl rfl rfl (by decide +kernel) ⟨Nat.le_of_ble_eq_true rfl, Nat.le_of_ble_eq_true rfl⟩) dX7_without_28 rfl 0 rfl rfl rfl rfl rfl (Nat.le_of_ble_eq_true rfl) ⟨Nat.le_of_ble_eq_true rfl, Nat.le_of_ble_eq_true rfl⟩ (fun u_28 => ?_)
      exact pt_iretE C hr hk dX7_without_31 (rfl) (by simp only [bI_t h_10, bI_t h_18, bI, cond_false, cond_true, Bool.and_true, Bool.true_and, Bool.and_false, Bool.false_and] <;> rfl) (u_28.1, u_28.2.1, u_28.2.2.1, u_28.2.2.2.1, u_28.2.2.2.2.1, u_28.2.2.2.2.2.1, u_28.2.2.2.2.2.2) (rfl)
    · refine pt_iconst (pc' := 22) C dX7_without_21 rfl (v := -1) (by decide) ?_
      refine pt_goto (pc' := 31) C dX7_without_22 (by decide) ?_
      exact pt_iretE C hr hk dX7_without_31 (rfl) (by simp only [bI_t h_10, bI_f h_18, bI, cond_false, cond_true, Bool.and_true, Bool.true_and, Bool.and_false, Bool.false_and] <;> rfl) (sd, se, sc, ba, pa, le, mo) (rfl)
