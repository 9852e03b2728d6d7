set_option maxHeartbeats 4000000 in
set_option maxRecDepth 100000 in
theorem mX6_weeks (l : Launch) (D : va_G) (cA : ClassId) (aX : Nat → Nat) (aB : Nat → Nat) (aT : Nat → Nat) (aN : Nat → Nat) (aG : Nat → Nat) (aW : Nat → Nat) (aD : Nat → Nat) (aO : Nat → Nat) (aV : Nat → Nat) (g : Nat) (t : Int32) (mk : Nat → Int32) (n : Nat) (k : Int32) (bs : Nat → Int32) (wl : Nat → Int32) (fd : Nat → Int32) (kd : Nat → Int32) (sz : Nat → Int32) (lk : Nat → Int32) (sd : Nat → Int32) (se : Nat → Int32) (sc : Nat → Int32) (ba : Nat → Int32) (pa : Nat → Int32) (ch : Nat → Int32) (td : Nat) (he : Nat → Int32) (si : Nat → Int32) (x : Int32) (hn : 2 ≤ n) (hm : n ≤ 12) (hg : g ≤ td) (ht : td ≤ 120) (hS : ∀ w, w < td → si w = 0 ∨ si w = 1 ∨ si w = 2) : mt_IE l yX6_weeks wsX6_weeks { frames := 5, cells := 0, slots := 0, locals := 154 } D [(cA, .int)] [.ref (aX 0), .int x] (wX cA aX aB aT aN aG aW aD aO aV g t mk ++ wB cA aB n k bs wl fd kd sz lk ++ wS cA aN sd se sc ba pa ch ++ wW cA aW td he si) (cond (okWks td g x) (nI (g + x.toNatClampNeg)) (-1)) (fun u : Nat → Int32 => wX cA aX aB aT aN aG aW aD aO aV (cond (okWks td g x) (g + x.toNatClampNeg) g) t mk ++ wB cA aB n k bs wl fd kd sz lk ++ wS cA aN (cond (okWks td g x) (itf (nwY n k wl fd kd sz lk he si) g x.toNatClampNeg (sd, se, sc, ba, pa)).1 sd) (cond (okWks td g x) (itf (nwY n k wl fd kd sz lk he si) g x.toNatClampNeg (sd, se, sc, ba, pa)).2.1 se) (cond (okWks td g x) (itf (nwY n k wl fd kd sz lk he si) g x.toNatClampNeg (sd, se, sc, ba, pa)).2.2.1 sc) (cond (okWks td g x) (itf (nwY n k wl fd kd sz lk he si) g x.toNatClampNeg (sd, se, sc, ba, pa)).2.2.2.1 ba) (cond (okWks td g x) (itf (nwY n k wl fd kd sz lk he si) g x.toNatClampNeg (sd, se, sc, ba, pa)).2.2.2.2 pa) u ++ wW cA aW td he si) := by
  refine mt_ofIE (cc := cX6_weeks) (maxL := 4) (ret := (some .int)) (lv := [(0, .ref (aX 0)), (1, .int x)]) (by decide) rfl (Nat.le_of_ble_eq_true rfl) rfl ?_
  intro p e s m args below meth c A C hr hk
  have f_32 := C.hts (.fieldLink RX6 32 "ShoreFields" "weather" "LShoreFields$Weather;") (by decide +kernel)
  have in_6 : ∀ w ∈ u_ws RX6 TX6 11, w ∈ wsX6_weeks := by decide +kernel
  have f_107 := C.hts (.fieldLink RX6 107 "ShoreFields$Weather" "size" "I") (by decide +kernel)
  have in_4 : ∀ w ∈ u_ws RX4 TX4 3, w ∈ wsX6_weeks := by decide +kernel
  have f_61 := C.hts (.fieldLink RX6 61 "ShoreFields" "weeksGone" "I") (by decide +kernel)
  have f_22 := C.hts (.fieldLink RX6 22 "ShoreFields" "now" "LShoreFields$Shore;") (by decide +kernel)
  have f_12 := C.hts (.fieldLink RX6 12 "ShoreFields" "begin" "LShoreFields$Begin;") (by decide +kernel)
  have f_114 := C.hts (.fieldLink RX6 114 "ShoreFields$Weather" "heights" "[I") (by decide +kernel)
  have f_117 := C.hts (.fieldLink RX6 117 "ShoreFields$Weather" "sides" "[I") (by decide +kernel)
  have hq := fun (h : inR x 0 120 = true) => inR_in (b := 120) h (by decide)
  refine pt_iload_n (pc' := 1) C dX6_weeks_0 rfl 1 rfl ?_
  refine pt_iconst (pc' := 2) C dX6_weeks_1 rfl (v := 0) (by decide) ?_
  refine pt_bipush (pc' := 4) C dX6_weeks_2 rfl (v := 120) (by decide) ?_
  refine pt_csI0 (pc' := 7) (As := [.int x, .int 0, .int 120]) (rest := []) C (mX6_isWithin l D cA x 0 120 ) (va_cwS 3 C.hts gX6_weeks_X6_isWithin rfl rfl rfl (by decide +kernel) ⟨Nat.le_of_ble_eq_true rfl, Nat.le_of_ble_eq_true rfl⟩) dX6_weeks_4 rfl rfl rfl (Nat.le_of_ble_eq_true rfl) ⟨Nat.le_of_ble_eq_true rfl, Nat.le_of_ble_eq_true rfl⟩ ?_
  refine pt_if_eq (pc' := 10) (tgt := 26) C dX6_weeks_7 (by decide) rfl (fun h_7 => ?_) (fun h_7 => ?_)
  · refine pt_iconst (pc' := 27) C dX6_weeks_26 rfl (v := -1) (by decide) ?_
    exact pt_iretE C hr hk dX6_weeks_27 (rfl) (by simp only [okWks, bI_f h_7, bI, cond_false, cond_true, Bool.and_true, Bool.true_and, Bool.and_false, Bool.false_and]) ch (by simp only [okWks, bI_f h_7, bI, cond_false, cond_true, Bool.and_true, Bool.true_and, Bool.and_false, Bool.false_and] <;> rfl)
  · refine pt_iload_n (pc' := 11) C dX6_weeks_10 rfl 1 rfl ?_
    refine pt_aload_n (pc' := 12) C dX6_weeks_11 rfl 0 rfl ?_
    refine pt_get (pc' := 15) C in_6 dX6_weeks_12 rfl 0 4 rfl rfl (by decide) f_32 rfl ?_
    refine pt_get (pc' := 18) C in_4 dX6_weeks_15 rfl 16 0 rfl rfl (by decide) f_107 rfl ?_
    refine pt_aload_n (pc' := 19) C dX6_weeks_18 rfl 0 rfl ?_
    refine pt_get (pc' := 22) C in_6 dX6_weeks_19 rfl 0 9 rfl rfl (by decide) f_61 rfl ?_
    refine pt_isub (pc' := 23) C dX6_weeks_22 rfl ?_
    refine pt_icmp_le (pc' := 26) (tgt := 28) C dX6_weeks_23 (by decide) rfl (fun h_23 => ?_) (fun h_23 => ?_)
    · have hle : g + x.toNatClampNeg ≤ td := of_decide_eq_true (dw_t (bI_t h_7) hg ht h_23)
      refine pt_aload_n (pc' := 29) C dX6_weeks_28 rfl 0 rfl ?_
      refine pt_get (pc' := 32) C in_6 dX6_weeks_29 rfl 0 9 rfl rfl (by decide) f_61 rfl ?_
      refine pt_iload_n (pc' := 33) C dX6_weeks_32 rfl 1 rfl ?_
      refine pt_iadd (pc' := 34) C dX6_weeks_33 rfl ?_
      refine pt_eq (st' := [.int (nI (g + x.toNatClampNeg))]) rfl rfl (by rw [← nI_add, ← (inR_in (b := 120) (bI_t h_7) (by decide)).1]) ?_
      refine pt_istore_n (pc' := 35) (lv' := [(2, .int (nI (g + x.toNatClampNeg))), (0, .ref (aX 0)), (1, .int x)]) C dX6_weeks_34 rfl rfl (by decide) rfl ?_
      refine pt_aload_n (pc' := 36) C dX6_weeks_35 rfl 1 rfl ?_
      refine pt_get (pc' := 39) C in_6 dX6_weeks_36 rfl 0 9 rfl rfl (by decide) f_61 rfl ?_
      refine pt_istore_n (pc' := 40) (lv' := [(3, .int (nI g)), (2, .int (nI (g + x.toNatClampNeg))), (0, .ref (aX 0)), (1, .int x)]) C dX6_weeks_39 rfl rfl (by decide) rfl ?_
      refine pt_cv (ws' := wX cA aX aB aT aN aG aW aD aO aV g t mk ++ wB cA aB n k bs wl fd kd sz lk ++ wS cA aN ((itf (nwY n k wl fd kd sz lk he si) g 0 (sd, se, sc, ba, pa)).1) ((itf (nwY n k wl fd kd sz lk he si) g 0 (sd, se, sc, ba, pa)).2.1) ((itf (nwY n k wl fd kd sz lk he si) g 0 (sd, se, sc, ba, pa)).2.2.1) ((itf (nwY n k wl fd kd sz lk he si) g 0 (sd, se, sc, ba, pa)).2.2.2.1) ((itf (nwY n k wl fd kd sz lk he si) g 0 (sd, se, sc, ba, pa)).2.2.2.2) ch ++ wW cA aW td he si) (lv' := [(3, .int (nI (g + 0))), (2, .int (nI (g + x.toNatClampNeg))), (0, .ref (aX 0)), (1, .int x)]) (rfl) [0, 1, 2, 3] (rfl) rfl ?_
      refine pt_forE (wsf := fun j (u : Nat → Int32) => wX cA aX aB aT aN aG aW aD aO aV g t mk ++ wB cA aB n k bs wl fd kd sz lk ++ wS cA aN ((itf (nwY n k wl fd kd sz lk he si) g j (sd, se, sc, ba, pa)).1) ((itf (nwY n k wl fd kd sz lk he si) g j (sd, se, sc, ba, pa)).2.1) ((itf (nwY n k wl fd kd sz lk he si) g j (sd, se, sc, ba, pa)).2.2.1) ((itf (nwY n k wl fd kd sz lk he si) g j (sd, se, sc, ba, pa)).2.2.2.1) ((itf (nwY n k wl fd kd sz lk he si) g j (sd, se, sc, ba, pa)).2.2.2.2) u ++ wW cA aW td he si) (lvf := fun j => [(3, .int (nI (g + j))), (2, .int (nI (g + x.toNatClampNeg))), (0, .ref (aX 0)), (1, .int x)]) (I := fun j => True) x.toNatClampNeg (trivial) (fun hi_40 u_40 => ?_) (fun j hj_40 hi_40 ih_40 u_40 => ?_) ch
      rotate_left
      · refine pt_iload_n (pc' := 41) C dX6_weeks_40 rfl 0 rfl ?_
        refine pt_iload_n (pc' := 42) C dX6_weeks_41 rfl 1 rfl ?_
        refine pt_icmp_ge (pc' := 45) (tgt := 80) C dX6_weeks_42 (by decide) rfl (fun h_42 => absurd h_42 (nI_ge (show g + j < g + x.toNatClampNeg by omega) (by omega))) (fun h_42 => ?_)
        refine pt_aload_n (pc' := 46) C dX6_weeks_45 rfl 2 rfl ?_
        refine pt_get (pc' := 49) C in_6 dX6_weeks_46 rfl 0 2 rfl rfl (by decide) f_22 rfl ?_
        refine pt_aload_n (pc' := 50) C dX6_weeks_49 rfl 2 rfl ?_
        refine pt_get (pc' := 53) C in_6 dX6_weeks_50 rfl 0 0 rfl rfl (by decide) f_12 rfl ?_
        refine pt_aload_n (pc' := 54) C dX6_weeks_53 rfl 2 rfl ?_
        refine pt_get (pc' := 57) C in_6 dX6_weeks_54 rfl 0 4 rfl rfl (by decide) f_32 rfl ?_
        refine pt_get (pc' := 60) C in_4 dX6_weeks_57 rfl 16 1 rfl rfl (by decide) f_114 rfl ?_
        refine pt_iload_n (pc' := 61) C dX6_weeks_60 rfl 0 rfl ?_
        refine pt_iald (pc' := 62) C dX6_weeks_61 rfl 17 rfl rfl (g + j) (rfl) (by omega) (by decide) ?_
        refine pt_aload_n (pc' := 63) C dX6_weeks_62 rfl 2 rfl ?_
        refine pt_get (pc' := 66) C in_6 dX6_weeks_63 rfl 0 4 rfl rfl (by decide) f_32 rfl ?_
        refine pt_get (pc' := 69) C in_4 dX6_weeks_66 rfl 16 2 rfl rfl (by decide) f_117 rfl ?_
        refine pt_iload_n (pc' := 70) C dX6_weeks_69 rfl 0 rfl ?_
        refine pt_iald (pc' := 71) C dX6_weeks_70 rfl 18 rfl rfl (g + j) (rfl) (by omega) (by decide) ?_
        refine pt_cvV (pc' := 74) (ws' := wX cA aX aB aT aN aG aW aD aO aV g t mk ++ wB cA aB n k bs wl fd kd sz lk ++ wS cA aN ((wkY n k wl fd kd sz lk (he (g + j)) (si (g + j)) (((itf (nwY n k wl fd kd sz lk he si) g j (sd, se, sc, ba, pa)).1), ((itf (nwY n k wl fd kd sz lk he si) g j (sd, se, sc, ba, pa)).2.1), ((itf (nwY n k wl fd kd sz lk he si) g j (sd, se, sc, ba, pa)).2.2.1), ((itf (nwY n k wl fd kd sz lk he si) g j (sd, se, sc, ba, pa)).2.2.2.1), ((itf (nwY n k wl fd kd sz lk he si) g j (sd, se, sc, ba, pa)).2.2.2.2))).1) ((wkY n k wl fd kd sz lk (he (g + j)) (si (g + j)) (((itf (nwY n k wl fd kd sz lk he si) g j (sd, se, sc, ba, pa)).1), ((itf (nwY n k wl fd kd sz lk he si) g j (sd, se, sc, ba, pa)).2.1), ((itf (nwY n k wl fd kd sz lk he si) g j (sd, se, sc, ba, pa)).2.2.1), ((itf (nwY n k wl fd kd sz lk he si) g j (sd, se, sc, ba, pa)).2.2.2.1), ((itf (nwY n k wl fd kd sz lk he si) g j (sd, se, sc, ba, pa)).2.2.2.2))).2.1) ((wkY n k wl fd kd sz lk (he (g + j)) (si (g + j)) (((itf (nwY n k wl fd kd sz lk he si) g j (sd, se, sc, ba, pa)).1), ((itf (nwY n k wl fd kd sz lk he si) g j (sd, se, sc, ba, pa)).2.1), ((itf (nwY n k wl fd kd sz lk he si) g j (sd, se, sc, ba, pa)).2.2.1), ((itf (nwY n k wl fd kd sz lk he si) g j (sd, se, sc, ba, pa)).2.2.2.1), ((itf (nwY n k wl fd kd sz lk he si) g j (sd, se, sc, ba, pa)).2.2.2.2))).2.2.1) ((wkY n k wl fd kd sz lk (he (g + j)) (si (g + j)) (((itf (nwY n k wl fd kd sz lk he si) g j (sd, se, sc, ba, pa)).1), ((itf (nwY n k wl fd kd sz lk he si) g j (sd, se, sc, ba, pa)).2.1), ((itf (nwY n k wl fd kd sz lk he si) g j (sd, se, sc, ba, pa)).2.2.1), ((itf (nwY n k wl fd kd sz lk he si) g j (sd, se, sc, ba, pa)).2.2.2.1), ((itf (nwY n k wl fd kd sz lk he si) g j (sd, se, sc, ba, pa)).2.2.2.2))).2.2.2.1) ((wkY n k wl fd kd sz lk (he (g + j)) (si (g + j)) (((itf (nwY n k wl fd kd sz lk he si) g j (sd, se, sc, ba, pa)).1), ((itf (nwY n k wl fd kd sz lk he si) g j (sd, se, sc, ba, pa)).2.1), ((itf (nwY n k wl fd kd sz lk he si) g j (sd, se, sc, ba, pa)).2.2.1), ((itf (nwY n k wl fd kd sz lk he si) g j (sd, se, sc, ba, pa)).2.2.2.1), ((itf (nwY n k wl fd kd sz lk he si) g j (sd, se, sc, ba, pa)).2.2.2.2))).2.2.2.2) (chY n k wl fd kd sz lk (he (g + j)) (si (g + j)) (((itf (nwY n k wl fd kd sz lk he si) g j (sd, se, sc, ba, pa)).1), ((itf (nwY n k wl fd kd sz lk he si) g j (sd, se, sc, ba, pa)).2.1), ((itf (nwY n k wl fd kd sz lk he si) g j (sd, se, sc, ba, pa)).2.2.1), ((itf (nwY n k wl fd kd sz lk he si) g j (sd, se, sc, ba, pa)).2.2.2.1), ((itf (nwY n k wl fd kd sz lk he si) g j (sd, se, sc, ba, pa)).2.2.2.2), u_40)) ++ wW cA aW td he si) (wr := wX cA aX aB aT aN aG aW aD aO aV g t mk ++ wW cA aW td he si) (As := [.ref (aB 0), .int (he (g + j)), .int (si (g + j))]) (rest := []) C (mY2_goThrough l D cA aN ((itf (nwY n k wl fd kd sz lk he si) g j (sd, se, sc, ba, pa)).1) ((itf (nwY n k wl fd kd sz lk he si) g j (sd, se, sc, ba, pa)).2.1) ((itf (nwY n k wl fd kd sz lk he si) g j (sd, se, sc, ba, pa)).2.2.1) ((itf (nwY n k wl fd kd sz lk he si) g j (sd, se, sc, ba, pa)).2.2.2.1) ((itf (nwY n k wl fd kd sz lk he si) g j (sd, se, sc, ba, pa)).2.2.2.2) u_40 aB n k bs wl fd kd sz lk (he (g + j)) (si (g + j)) (hn) (hm) (hS (g + j) (by omega))) (cwV 3 C.hts gX6_weeks_X2_goThrough rfl rfl rfl (by decide +kernel) ⟨Nat.le_of_ble_eq_true rfl, Nat.le_of_ble_eq_true rfl⟩) dX6_weeks_71 rfl 9 rfl rfl rfl rfl rfl (Nat.le_of_ble_eq_true rfl) ⟨Nat.le_of_ble_eq_true rfl, Nat.le_of_ble_eq_true rfl⟩ [9, 10, 11, 12, 13, 14, 15, 2, 3, 4, 5, 6, 7, 8] [0, 1, 16, 17, 18] [0, 1, 12, 13, 14, 15, 16, 17, 18, 5, 6, 7, 8, 9, 10, 11, 2, 3, 4] rfl (by decide) rfl (by decide) (by decide) rfl (by decide) ?_
        refine pt_iinc (pc' := 77) (v := nI (g + (j + 1))) (lv' := [(3, .int (nI (g + (j + 1)))), (2, .int (nI (g + x.toNatClampNeg))), (0, .ref (aX 0)), (1, .int x)]) C dX6_weeks_74 rfl 0 rfl (nI_1 _) (by decide) rfl ?_
        refine pt_goto (pc' := 40) C dX6_weeks_77 (by decide) ?_
        exact pt_cv (rfl) [0, 1, 2, 3] (rfl) rfl (ih_40 (trivial) (chY n k wl fd kd sz lk (he (g + j)) (si (g + j)) (((itf (nwY n k wl fd kd sz lk he si) g j (sd, se, sc, ba, pa)).1), ((itf (nwY n k wl fd kd sz lk he si) g j (sd, se, sc, ba, pa)).2.1), ((itf (nwY n k wl fd kd sz lk he si) g j (sd, se, sc, ba, pa)).2.2.1), ((itf (nwY n k wl fd kd sz lk he si) g j (sd, se, sc, ba, pa)).2.2.2.1), ((itf (nwY n k wl fd kd sz lk he si) g j (sd, se, sc, ba, pa)).2.2.2.2), u_40)))
      refine pt_iload_n (pc' := 41) C dX6_weeks_40 rfl 0 rfl ?_
      refine pt_iload_n (pc' := 42) C dX6_weeks_41 rfl 1 rfl ?_
      refine pt_icmp_ge (pc' := 45) (tgt := 80) C dX6_weeks_42 (by decide) rfl (fun h_42 => ?_) (fun h_42 => absurd (nI_le (Nat.le_refl _) (by omega)) h_42)
      refine pt_aload_n (pc' := 81) C dX6_weeks_80 rfl 2 rfl ?_
      refine pt_iload_n (pc' := 82) C dX6_weeks_81 rfl 1 rfl ?_
      refine pt_put (pc' := 85) (ty := .int) (ws' := wX cA aX aB aT aN aG aW aD aO aV (g + x.toNatClampNeg) t mk ++ wB cA aB n k bs wl fd kd sz lk ++ wS cA aN ((itf (nwY n k wl fd kd sz lk he si) g x.toNatClampNeg (sd, se, sc, ba, pa)).1) ((itf (nwY n k wl fd kd sz lk he si) g x.toNatClampNeg (sd, se, sc, ba, pa)).2.1) ((itf (nwY n k wl fd kd sz lk he si) g x.toNatClampNeg (sd, se, sc, ba, pa)).2.2.1) ((itf (nwY n k wl fd kd sz lk he si) g x.toNatClampNeg (sd, se, sc, ba, pa)).2.2.2.1) ((itf (nwY n k wl fd kd sz lk he si) g x.toNatClampNeg (sd, se, sc, ba, pa)).2.2.2.2) u_40 ++ wW cA aW td he si) C in_6 tyX6 tyX6_ok nmX6 dX6_weeks_82 rfl 0 9 rfl rfl (by decide) f_61 rfl (by decide +kernel) (rfl) (rfl) (Nat.le_of_ble_eq_true rfl) rfl ?_
      refine pt_aload_n (pc' := 86) C dX6_weeks_85 rfl 2 rfl ?_
      refine pt_get (pc' := 89) C in_6 dX6_weeks_86 rfl 0 9 rfl rfl (by decide) f_61 rfl ?_
      exact pt_iretE C hr hk dX6_weeks_89 (rfl) (by simp only [okWks, bI_t h_7, dw_t (bI_t h_7) hg ht h_23, bI, cond_false, cond_true, Bool.and_true, Bool.true_and, Bool.and_false, Bool.false_and]) u_40 (by simp only [okWks, bI_t h_7, dw_t (bI_t h_7) hg ht h_23, bI, cond_false, cond_true, Bool.and_true, Bool.true_and, Bool.and_false, Bool.false_and] <;> rfl)
    · refine pt_iconst (pc' := 27) C dX6_weeks_26 rfl (v := -1) (by decide) ?_
      exact pt_iretE C hr hk dX6_weeks_27 (rfl) (by simp only [okWks, bI_t h_7, dw_f (bI_t h_7) hg ht h_23, bI, cond_false, cond_true, Bool.and_true, Bool.true_and, Bool.and_false, Bool.false_and]) ch (by simp only [okWks, bI_t h_7, dw_f (bI_t h_7) hg ht h_23, bI, cond_false, cond_true, Bool.and_true, Bool.true_and, Bool.and_false, Bool.false_and] <;> rfl)

set_option maxHeartbeats 4000000 in
set_option maxRecDepth 100000 in
theorem mX6_look (l : Launch) (D : va_G) (cA : ClassId) (aX : Nat → Nat) (aB : Nat → Nat) (aT : Nat → Nat) (aN : Nat → Nat) (aG : Nat → Nat) (aW : Nat → Nat) (aD : Nat → Nat) (aO : Nat → Nat) (aV : Nat → Nat) (g : Nat) (t : Int32) (mk : Nat → Int32) (n : Nat) (k : Int32) (bs : Nat → Int32) (wl : Nat → Int32) (fd : Nat → Int32) (kd : Nat → Int32) (sz : Nat → Int32) (lk : Nat → Int32) (sd : Nat → Int32) (se : Nat → Int32) (sc : Nat → Int32) (ba : Nat → Int32) (pa : Nat → Int32) (ch : Nat → Int32) (x : Int32) (y : Int32) (hn : 2 ≤ n) (hm : n ≤ 12) : mt_I l yX6_look wsX6_look { frames := 1, cells := 0, slots := 0, locals := 21 } D [(cA, .int)] [.ref (aX 0), .int x, .int y] (wX cA aX aB aT aN aG aW aD aO aV g t mk ++ wB cA aB n k bs wl fd kd sz lk ++ wS cA aN sd se sc ba pa ch) (cond (inF n x) (lkV y sd se sc x.toNatClampNeg) (-1)) (wX cA aX aB aT aN aG aW aD aO aV g t mk ++ wB cA aB n k bs wl fd kd sz lk ++ wS cA aN sd se sc ba pa ch) := by
  refine mt_ofI (cc := cX6_look) (maxL := 3) (ret := (some .int)) (lv := [(0, .ref (aX 0)), (1, .int x), (2, .int y)]) (by decide) rfl (Nat.le_of_ble_eq_true rfl) rfl ?_
  intro p e s m args below meth c A C hr hk
  have f_12 := C.hts (.fieldLink RX6 12 "ShoreFields" "begin" "LShoreFields$Begin;") (by decide +kernel)
  have in_6 : ∀ w ∈ u_ws RX6 TX6 11, w ∈ wsX6_look := by decide +kernel
  have f_22 := C.hts (.fieldLink RX6 22 "ShoreFields" "now" "LShoreFields$Shore;") (by decide +kernel)
  have f_146 := C.hts (.fieldLink RX6 146 "ShoreFields$Shore" "sandOf" "[I") (by decide +kernel)
  have in_2 : ∀ w ∈ u_ws RX2 TX2 6, w ∈ wsX6_look := by decide +kernel
  have f_147 := C.hts (.fieldLink RX6 147 "ShoreFields$Shore" "seaOf" "[I") (by decide +kernel)
  have f_150 := C.hts (.fieldLink RX6 150 "ShoreFields$Shore" "scourOf" "[I") (by decide +kernel)
  refine pt_aload_n (pc' := 1) C dX6_look_0 rfl 0 rfl ?_
  refine pt_get (pc' := 4) C in_6 dX6_look_1 rfl 0 0 rfl rfl (by decide) f_12 rfl ?_
  refine pt_iload_n (pc' := 5) C dX6_look_4 rfl 1 rfl ?_
  refine pt_cvI (pc' := 8) (ws' := wX cA aX aB aT aN aG aW aD aO aV g t mk ++ wB cA aB n k bs wl fd kd sz lk ++ wS cA aN sd se sc ba pa ch) (wr := wX cA aX aB aT aN aG aW aD aO aV g t mk ++ wS cA aN sd se sc ba pa ch) (As := [.int x]) (rest := []) C (mX0_hasField l D cA aB n k bs wl fd kd sz lk x ) (cwV 1 C.hts gX6_look_X0_hasField rfl rfl rfl (by decide +kernel) ⟨Nat.le_of_ble_eq_true rfl, Nat.le_of_ble_eq_true rfl⟩) dX6_look_5 rfl 2 rfl rfl rfl rfl rfl (Nat.le_of_ble_eq_true rfl) ⟨Nat.le_of_ble_eq_true rfl, Nat.le_of_ble_eq_true rfl⟩ [2, 3, 4, 5, 6, 7, 8] [0, 1, 9, 10, 11, 12, 13, 14, 15] [0, 1, 9, 10, 11, 12, 13, 14, 15, 2, 3, 4, 5, 6, 7, 8] rfl (by decide) rfl (by decide) (by decide) rfl (by decide) ?_
  refine pt_if_ne (pc' := 11) (tgt := 13) C dX6_look_8 (by decide) rfl (fun h_8 => ?_) (fun h_8 => ?_)
  · refine pt_iload_n (pc' := 14) C dX6_look_13 rfl 2 rfl ?_
    rcases sw_2 y with hq_14 | rfl | rfl | rfl
    · refine pt_tabOut (tgt := 70) C dX6_look_14 hq_14 (by decide) ?_
      refine pt_iconst (pc' := 71) C dX6_look_70 rfl (v := -1) (by decide) ?_
      exact pt_iret C hr hk dX6_look_71 (rfl) (by rw [bI_t h_8]; simp only [lkV, cond_true, if_neg (sw_ne (c := 0) hq_14 (by decide)), if_neg (sw_ne (c := 1) hq_14 (by decide)), if_neg (sw_ne (c := 2) hq_14 (by decide))]) (rfl)
    · refine pt_tabIn (tgt := 40) C dX6_look_14 (by decide) (by decide) rfl (by decide) ?_
      refine pt_aload_n (pc' := 41) C dX6_look_40 rfl 0 rfl ?_
      refine pt_get (pc' := 44) C in_6 dX6_look_41 rfl 0 2 rfl rfl (by decide) f_22 rfl ?_
      refine pt_get (pc' := 47) C in_2 dX6_look_44 rfl 9 0 rfl rfl (by decide) f_146 rfl ?_
      refine pt_iload_n (pc' := 48) C dX6_look_47 rfl 1 rfl ?_
      refine pt_iald (pc' := 49) C dX6_look_48 rfl 10 rfl rfl x.toNatClampNeg ((inF_in hm (bI_t h_8)).1) (by have := (inF_in hm (bI_t h_8)).2; omega) (by decide) ?_
      exact pt_iret C hr hk dX6_look_49 (rfl) (by rw [bI_t h_8]; rfl) (rfl)
    · refine pt_tabIn (tgt := 50) C dX6_look_14 (by decide) (by decide) rfl (by decide) ?_
      refine pt_aload_n (pc' := 51) C dX6_look_50 rfl 0 rfl ?_
      refine pt_get (pc' := 54) C in_6 dX6_look_51 rfl 0 2 rfl rfl (by decide) f_22 rfl ?_
      refine pt_get (pc' := 57) C in_2 dX6_look_54 rfl 9 1 rfl rfl (by decide) f_147 rfl ?_
      refine pt_iload_n (pc' := 58) C dX6_look_57 rfl 1 rfl ?_
      refine pt_iald (pc' := 59) C dX6_look_58 rfl 11 rfl rfl x.toNatClampNeg ((inF_in hm (bI_t h_8)).1) (by have := (inF_in hm (bI_t h_8)).2; omega) (by decide) ?_
      exact pt_iret C hr hk dX6_look_59 (rfl) (by rw [bI_t h_8]; rfl) (rfl)
    · refine pt_tabIn (tgt := 60) C dX6_look_14 (by decide) (by decide) rfl (by decide) ?_
      refine pt_aload_n (pc' := 61) C dX6_look_60 rfl 0 rfl ?_
      refine pt_get (pc' := 64) C in_6 dX6_look_61 rfl 0 2 rfl rfl (by decide) f_22 rfl ?_
      refine pt_get (pc' := 67) C in_2 dX6_look_64 rfl 9 2 rfl rfl (by decide) f_150 rfl ?_
      refine pt_iload_n (pc' := 68) C dX6_look_67 rfl 1 rfl ?_
      refine pt_iald (pc' := 69) C dX6_look_68 rfl 12 rfl rfl x.toNatClampNeg ((inF_in hm (bI_t h_8)).1) (by have := (inF_in hm (bI_t h_8)).2; omega) (by decide) ?_
      exact pt_iret C hr hk dX6_look_69 (rfl) (by rw [bI_t h_8]; rfl) (rfl)
  · refine pt_iconst (pc' := 12) C dX6_look_11 rfl (v := -1) (by decide) ?_
    exact pt_iret C hr hk dX6_look_12 (rfl) (by rw [bI_f h_8]; rfl) (rfl)

set_option maxHeartbeats 4000000 in
set_option maxRecDepth 100000 in
theorem mX6_border (l : Launch) (D : va_G) (cA : ClassId) (aX : Nat → Nat) (aB : Nat → Nat) (aT : Nat → Nat) (aN : Nat → Nat) (aG : Nat → Nat) (aW : Nat → Nat) (aD : Nat → Nat) (aO : Nat → Nat) (aV : Nat → Nat) (g : Nat) (t : Int32) (mk : Nat → Int32) (n : Nat) (k : Int32) (bs : Nat → Int32) (wl : Nat → Int32) (fd : Nat → Int32) (kd : Nat → Int32) (sz : Nat → Int32) (lk : Nat → Int32) (sd : Nat → Int32) (se : Nat → Int32) (sc : Nat → Int32) (ba : Nat → Int32) (pa : Nat → Int32) (ch : Nat → Int32) (x : Int32) (y : Int32) (hn : 2 ≤ n) (hm : n ≤ 12) : mt_I l yX6_border wsX6_border { frames := 1, cells := 0, slots := 0, locals := 21 } D [(cA, .int)] [.ref (aX 0), .int x, .int y] (wX cA aX aB aT aN aG aW aD aO aV g t mk ++ wB cA aB n k bs wl fd kd sz lk ++ wS cA aN sd se sc ba pa ch) (cond (inBd n x) (bdV y kd sz lk ba pa x.toNatClampNeg) (if y = 3 then -100000 else -1)) (wX cA aX aB aT aN aG aW aD aO aV g t mk ++ wB cA aB n k bs wl fd kd sz lk ++ wS cA aN sd se sc ba pa ch) := by
  refine mt_ofI (cc := cX6_border) (maxL := 4) (ret := (some .int)) (lv := [(0, .ref (aX 0)), (1, .int x), (2, .int y)]) (by decide) rfl (Nat.le_of_ble_eq_true rfl) rfl ?_
  intro p e s m args below meth c A C hr hk
  have f_12 := C.hts (.fieldLink RX6 12 "ShoreFields" "begin" "LShoreFields$Begin;") (by decide +kernel)
  have in_6 : ∀ w ∈ u_ws RX6 TX6 11, w ∈ wsX6_border := by decide +kernel
  have f_157 := C.hts (.fieldLink RX6 157 "ShoreFields$Begin" "kindAt" "[I") (by decide +kernel)
  have in_0 : ∀ w ∈ u_ws RX0 TX0 8, w ∈ wsX6_border := by decide +kernel
  have f_160 := C.hts (.fieldLink RX6 160 "ShoreFields$Begin" "sizeAt" "[I") (by decide +kernel)
  have f_166 := C.hts (.fieldLink RX6 166 "ShoreFields$Begin" "leakAt" "[I") (by decide +kernel)
  have f_22 := C.hts (.fieldLink RX6 22 "ShoreFields" "now" "LShoreFields$Shore;") (by decide +kernel)
  have f_163 := C.hts (.fieldLink RX6 163 "ShoreFields$Shore" "barAt" "[I") (by decide +kernel)
  have in_2 : ∀ w ∈ u_ws RX2 TX2 6, w ∈ wsX6_border := by decide +kernel
  have f_169 := C.hts (.fieldLink RX6 169 "ShoreFields$Shore" "passedAt" "[I") (by decide +kernel)
  have k_156 := C.hts (.constant RX6 156 (-100000)) (by decide +kernel)
  refine pt_aload_n (pc' := 1) C dX6_border_0 rfl 0 rfl ?_
  refine pt_get (pc' := 4) C in_6 dX6_border_1 rfl 0 0 rfl rfl (by decide) f_12 rfl ?_
  refine pt_iload_n (pc' := 5) C dX6_border_4 rfl 1 rfl ?_
  refine pt_cvI (pc' := 8) (ws' := wX cA aX aB aT aN aG aW aD aO aV g t mk ++ wB cA aB n k bs wl fd kd sz lk ++ wS cA aN sd se sc ba pa ch) (wr := wX cA aX aB aT aN aG aW aD aO aV g t mk ++ wS cA aN sd se sc ba pa ch) (As := [.int x]) (rest := []) C (mX0_hasBorder l D cA aB n k bs wl fd kd sz lk x ) (cwV 1 C.hts gX6_border_X0_hasBorder rfl rfl rfl (by decide +kernel) ⟨Nat.le_of_ble_eq_true rfl, Nat.le_of_ble_eq_true rfl⟩) dX6_border_5 rfl 2 rfl rfl rfl rfl rfl (Nat.le_of_ble_eq_true rfl) ⟨Nat.le_of_ble_eq_true rfl, Nat.le_of_ble_eq_true rfl⟩ [2, 3, 4, 5, 6, 7, 8] [0, 1, 9, 10, 11, 12, 13, 14, 15] [0, 1, 9, 10, 11, 12, 13, 14, 15, 2, 3, 4, 5, 6, 7, 8] rfl (by decide) rfl (by decide) (by decide) rfl (by decide) ?_
  refine pt_if_ne (pc' := 11) (tgt := 23) C dX6_border_8 (by decide) rfl (fun h_8 => ?_) (fun h_8 => ?_)
  · refine pt_aload_n (pc' := 24) C dX6_border_23 rfl 0 rfl ?_
    refine pt_get (pc' := 27) C in_6 dX6_border_24 rfl 0 0 rfl rfl (by decide) f_12 rfl ?_
    refine pt_get (pc' := 30) C in_0 dX6_border_27 rfl 2 5 rfl rfl (by decide) f_157 rfl ?_
    refine pt_iload_n (pc' := 31) C dX6_border_30 rfl 1 rfl ?_
    refine pt_iald (pc' := 32) C dX6_border_31 rfl 6 rfl rfl x.toNatClampNeg ((inBd_in hm (bI_t h_8)).1) (by have := (inBd_in hm (bI_t h_8)).2; omega) (by decide) ?_
    refine pt_istore_n (pc' := 33) (lv' := [(3, .int (kd x.toNatClampNeg)), (0, .ref (aX 0)), (1, .int x), (2, .int y)]) C dX6_border_32 rfl rfl (by decide) rfl ?_
    refine pt_iload_n (pc' := 34) C dX6_border_33 rfl 3 rfl ?_
    rcases sw_3 y with hq_34 | rfl | rfl | rfl | rfl
    · refine pt_tabOut (tgt := 128) C dX6_border_34 hq_34 (by decide) ?_
      refine pt_iconst (pc' := 129) C dX6_border_128 rfl (v := -1) (by decide) ?_
      exact pt_iret C hr hk dX6_border_129 (rfl) (by rw [bI_t h_8]; simp only [bdV, cond_true, if_neg (sw_ne (c := 0) hq_34 (by decide)), if_neg (sw_ne (c := 1) hq_34 (by decide)), if_neg (sw_ne (c := 2) hq_34 (by decide)), if_neg (sw_ne (c := 3) hq_34 (by decide))]) (rfl)
    · refine pt_tabIn (tgt := 64) C dX6_border_34 (by decide) (by decide) rfl (by decide) ?_
      refine pt_iload_n (pc' := 65) C dX6_border_64 rfl 0 rfl ?_
      exact pt_iret C hr hk dX6_border_65 (rfl) (by rw [bI_t h_8]; show _ = bdV 0 kd sz lk ba pa x.toNatClampNeg; simp only [bdV, if_true, if_pos (show (0 : Int32) = 0 from rfl)]) (rfl)
    · refine pt_tabIn (tgt := 66) C dX6_border_34 (by decide) (by decide) rfl (by decide) ?_
      refine pt_iload_n (pc' := 67) C dX6_border_66 rfl 0 rfl ?_
      refine pt_if_ne (pc' := 70) (tgt := 74) C dX6_border_67 (by decide) rfl (fun h_67 => ?_) (fun h_67 => ?_)
      · refine pt_aload_n (pc' := 75) C dX6_border_74 rfl 1 rfl ?_
        refine pt_get (pc' := 78) C in_6 dX6_border_75 rfl 0 0 rfl rfl (by decide) f_12 rfl ?_
        refine pt_get (pc' := 81) C in_0 dX6_border_78 rfl 2 6 rfl rfl (by decide) f_160 rfl ?_
        refine pt_iload_n (pc' := 82) C dX6_border_81 rfl 2 rfl ?_
        refine pt_iald (pc' := 83) C dX6_border_82 rfl 7 rfl rfl x.toNatClampNeg ((inBd_in hm (bI_t h_8)).1) (by have := (inBd_in hm (bI_t h_8)).2; omega) (by decide) ?_
        exact pt_iret C hr hk dX6_border_83 (rfl) (by rw [bI_t h_8]; show _ = bdV 1 kd sz lk ba pa x.toNatClampNeg; simp only [bdV, if_neg (show ¬ (1 : Int32) = 0 by decide), if_true, if_pos (show (1 : Int32) = 1 from rfl), if_neg h_67]) (rfl)
      · refine pt_iconst (pc' := 71) C dX6_border_70 rfl (v := -1) (by decide) ?_
        refine pt_goto (pc' := 83) C dX6_border_71 (by decide) ?_
        exact pt_iret C hr hk dX6_border_83 (rfl) (by rw [bI_t h_8]; show _ = bdV 1 kd sz lk ba pa x.toNatClampNeg; simp only [bdV, if_neg (show ¬ (1 : Int32) = 0 by decide), if_true, if_pos (show (1 : Int32) = 1 from rfl), if_pos h_67]) (rfl)
    · refine pt_tabIn (tgt := 84) C dX6_border_34 (by decide) (by decide) rfl (by decide) ?_
      refine pt_iload_n (pc' := 85) C dX6_border_84 rfl 0 rfl ?_
      refine pt_iconst (pc' := 86) C dX6_border_85 rfl (v := 2) (by decide) ?_
      refine pt_icmp_ne (pc' := 89) (tgt := 99) C dX6_border_86 (by decide) rfl (fun h_86 => ?_) (fun h_86 => ?_)
      · refine pt_iload_n (pc' := 100) C dX6_border_99 rfl 0 rfl ?_
        refine pt_iconst (pc' := 101) C dX6_border_100 rfl (v := 1) (by decide) ?_
        refine pt_icmp_ne (pc' := 104) (tgt := 116) C dX6_border_101 (by decide) rfl (fun h_101 => ?_) (fun h_101 => ?_)
        · refine pt_iconst (pc' := 117) C dX6_border_116 rfl (v := -1) (by decide) ?_
          exact pt_iret C hr hk dX6_border_117 (rfl) (by rw [bI_t h_8]; show _ = bdV 2 kd sz lk ba pa x.toNatClampNeg; simp only [bdV, if_neg (show ¬ (2 : Int32) = 0 by decide), if_neg (show ¬ (2 : Int32) = 1 by decide), if_true, if_pos (show (2 : Int32) = 2 from rfl), if_neg h_86, if_neg h_101]) (rfl)
        · refine pt_aload_n (pc' := 105) C dX6_border_104 rfl 1 rfl ?_
          refine pt_get (pc' := 108) C in_6 dX6_border_105 rfl 0 0 rfl rfl (by decide) f_12 rfl ?_
          refine pt_get (pc' := 111) C in_0 dX6_border_108 rfl 2 7 rfl rfl (by decide) f_166 rfl ?_
          refine pt_iload_n (pc' := 112) C dX6_border_111 rfl 2 rfl ?_
          refine pt_iald (pc' := 113) C dX6_border_112 rfl 8 rfl rfl x.toNatClampNeg ((inBd_in hm (bI_t h_8)).1) (by have := (inBd_in hm (bI_t h_8)).2; omega) (by decide) ?_
          refine pt_goto (pc' := 117) C dX6_border_113 (by decide) ?_
          exact pt_iret C hr hk dX6_border_117 (rfl) (by rw [bI_t h_8]; show _ = bdV 2 kd sz lk ba pa x.toNatClampNeg; simp only [bdV, if_neg (show ¬ (2 : Int32) = 0 by decide), if_neg (show ¬ (2 : Int32) = 1 by decide), if_true, if_pos (show (2 : Int32) = 2 from rfl), if_neg h_86, if_pos h_101]) (rfl)
      · refine pt_aload_n (pc' := 90) C dX6_border_89 rfl 1 rfl ?_
        refine pt_get (pc' := 93) C in_6 dX6_border_90 rfl 0 2 rfl rfl (by decide) f_22 rfl ?_
        refine pt_get (pc' := 96) C in_2 dX6_border_93 rfl 9 3 rfl rfl (by decide) f_163 rfl ?_
        refine pt_iload_n (pc' := 97) C dX6_border_96 rfl 2 rfl ?_
        refine pt_iald (pc' := 98) C dX6_border_97 rfl 13 rfl rfl x.toNatClampNeg ((inBd_in hm (bI_t h_8)).1) (by have := (inBd_in hm (bI_t h_8)).2; omega) (by decide) ?_
        exact pt_iret C hr hk dX6_border_98 (rfl) (by rw [bI_t h_8]; show _ = bdV 2 kd sz lk ba pa x.toNatClampNeg; simp only [bdV, if_neg (show ¬ (2 : Int32) = 0 by decide), if_neg (show ¬ (2 : Int32) = 1 by decide), if_true, if_pos (show (2 : Int32) = 2 from rfl), if_pos h_86]) (rfl)
    · refine pt_tabIn (tgt := 118) C dX6_border_34 (by decide) (by decide) rfl (by decide) ?_
      refine pt_aload_n (pc' := 119) C dX6_border_118 rfl 1 rfl ?_
      refine pt_get (pc' := 122) C in_6 dX6_border_119 rfl 0 2 rfl rfl (by decide) f_22 rfl ?_
      refine pt_get (pc' := 125) C in_2 dX6_border_122 rfl 9 4 rfl rfl (by decide) f_169 rfl ?_
      refine pt_iload_n (pc' := 126) C dX6_border_125 rfl 2 rfl ?_
      refine pt_iald (pc' := 127) C dX6_border_126 rfl 14 rfl rfl x.toNatClampNeg ((inBd_in hm (bI_t h_8)).1) (by have := (inBd_in hm (bI_t h_8)).2; omega) (by decide) ?_
      exact pt_iret C hr hk dX6_border_127 (rfl) (by rw [bI_t h_8]; show _ = bdV 3 kd sz lk ba pa x.toNatClampNeg; simp only [bdV, if_neg (show ¬ (3 : Int32) = 0 by decide), if_neg (show ¬ (3 : Int32) = 1 by decide), if_neg (show ¬ (3 : Int32) = 2 by decide), if_true, if_pos (show (3 : Int32) = 3 from rfl)]) (rfl)
  · refine pt_iload_n (pc' := 12) C dX6_border_11 rfl 2 rfl ?_
    refine pt_iconst (pc' := 13) C dX6_border_12 rfl (v := 3) (by decide) ?_
    refine pt_jn (q := 22) (k := 0) (n := 0) (wX cA aX aB aT aN aG aW aD aO aV g t mk ++ wB cA aB n k bs wl fd kd sz lk ++ wS cA aN sd se sc ba pa ch) [(0, .ref (aX 0)), (1, .int x), (2, .int y)] [.int (if y = 3 then -100000 else -1)] (fun K => ?_) ?_
    · refine pt_icmp_ne (pc' := 16) (tgt := 21) C dX6_border_13 (by decide) rfl (fun h_13 => ?_) (fun h_13 => ?_)
      · refine pt_iconst (pc' := 22) C dX6_border_21 rfl (v := -1) (by decide) ?_
        exact pt_cv (lv' := [(0, .ref (aX 0)), (1, .int x), (2, .int y)]) rfl [0, 1, 2] rfl rfl (by simpa only [if_neg h_13] using K)
      · refine pt_ldc (pc' := 18) C dX6_border_16 rfl k_156 ?_
        refine pt_goto (pc' := 22) C dX6_border_18 (by decide) ?_
        exact pt_cv (lv' := [(0, .ref (aX 0)), (1, .int x), (2, .int y)]) rfl [0, 1, 2] rfl rfl (by simpa only [if_pos h_13] using K)
    exact pt_iret C hr hk dX6_border_22 (rfl) (by rw [bI_f h_8]; rfl) (rfl)

set_option maxHeartbeats 4000000 in
set_option maxRecDepth 100000 in
theorem mX6_count (l : Launch) (D : va_G) (cA : ClassId) (aX : Nat → Nat) (aB : Nat → Nat) (aT : Nat → Nat) (aN : Nat → Nat) (aG : Nat → Nat) (aW : Nat → Nat) (aD : Nat → Nat) (aO : Nat → Nat) (aV : Nat → Nat) (g : Nat) (t : Int32) (mk : Nat → Int32) (n : Nat) (k : Int32) (bs : Nat → Int32) (wl : Nat → Int32) (fd : Nat → Int32) (kd : Nat → Int32) (sz : Nat → Int32) (lk : Nat → Int32) (sd : Nat → Int32) (se : Nat → Int32) (sc : Nat → Int32) (ba : Nat → Int32) (pa : Nat → Int32) (ch : Nat → Int32) (td : Nat) (he : Nat → Int32) (si : Nat → Int32) (dr : Nat) (db : Nat → Int32) (du : Nat → Int32) (df : Nat → Int32) (dw : Nat → Int32) (wk : Nat) (ok : Nat → Int32) (op : Nat → Int32) (oa : Nat → Int32) (oc : Nat → Int32) (sv : Nat) (vf : Nat → Int32) (vw : Nat → Int32) (vl : Nat → Int32) (vm : Nat → Int32) (y : Int32) (hn : 2 ≤ n) (hm : n ≤ 12) : mt_I l yX6_count wsX6_count { frames := 1, cells := 0, slots := 0, locals := 23 } D [(cA, .int)] [.ref (aX 0), .int y] (wX cA aX aB aT aN aG aW aD aO aV g t mk ++ wB cA aB n k bs wl fd kd sz lk ++ wS cA aN sd se sc ba pa ch ++ wW cA aW td he si ++ wD cA aD dr db du df dw ++ wO cA aO wk ok op oa oc ++ wV cA aV sv vf vw vl vm) (ctV y n td g wk sv dr (itz (siS sd se ba) n 0)) (wX cA aX aB aT aN aG aW aD aO aV g t mk ++ wB cA aB n k bs wl fd kd sz lk ++ wS cA aN sd se sc ba pa ch ++ wW cA aW td he si ++ wD cA aD dr db du df dw ++ wO cA aO wk ok op oa oc ++ wV cA aV sv vf vw vl vm) := by
  refine mt_ofI (cc := cX6_count) (maxL := 2) (ret := (some .int)) (lv := [(0, .ref (aX 0)), (1, .int y)]) (by decide) rfl (Nat.le_of_ble_eq_true rfl) rfl ?_
  intro p e s m args below meth c A C hr hk
  have f_12 := C.hts (.fieldLink RX6 12 "ShoreFields" "begin" "LShoreFields$Begin;") (by decide +kernel)
  have in_6 : ∀ w ∈ u_ws RX6 TX6 11, w ∈ wsX6_count := by decide +kernel
  have f_77 := C.hts (.fieldLink RX6 77 "ShoreFields$Begin" "fieldCount" "I") (by decide +kernel)
  have in_0 : ∀ w ∈ u_ws RX0 TX0 8, w ∈ wsX6_count := by decide +kernel
  have f_32 := C.hts (.fieldLink RX6 32 "ShoreFields" "weather" "LShoreFields$Weather;") (by decide +kernel)
  have f_107 := C.hts (.fieldLink RX6 107 "ShoreFields$Weather" "size" "I") (by decide +kernel)
  have in_4 : ∀ w ∈ u_ws RX4 TX4 3, w ∈ wsX6_count := by decide +kernel
  have f_61 := C.hts (.fieldLink RX6 61 "ShoreFields" "weeksGone" "I") (by decide +kernel)
  have f_46 := C.hts (.fieldLink RX6 46 "ShoreFields" "workList" "LShoreFields$WorkList;") (by decide +kernel)
  have f_191 := C.hts (.fieldLink RX6 191 "ShoreFields$WorkList" "size" "I") (by decide +kernel)
  have in_5 : ∀ w ∈ u_ws RX5 TX5 5, w ∈ wsX6_count := by decide +kernel
  have f_53 := C.hts (.fieldLink RX6 53 "ShoreFields" "surveyList" "LShoreFields$SurveyList;") (by decide +kernel)
  have f_199 := C.hts (.fieldLink RX6 199 "ShoreFields$SurveyList" "size" "I") (by decide +kernel)
  have in_3 : ∀ w ∈ u_ws RX3 TX3 5, w ∈ wsX6_count := by decide +kernel
  have f_39 := C.hts (.fieldLink RX6 39 "ShoreFields" "dredgings" "LShoreFields$Dredgings;") (by decide +kernel)
  have f_128 := C.hts (.fieldLink RX6 128 "ShoreFields$Dredgings" "size" "I") (by decide +kernel)
  have in_1 : ∀ w ∈ u_ws RX1 TX1 5, w ∈ wsX6_count := by decide +kernel
  have f_22 := C.hts (.fieldLink RX6 22 "ShoreFields" "now" "LShoreFields$Shore;") (by decide +kernel)
  refine pt_iload_n (pc' := 1) C dX6_count_0 rfl 1 rfl ?_
  rcases sw_6 y with hq_1 | rfl | rfl | rfl | rfl | rfl | rfl | rfl
  · refine pt_tabOut (tgt := 104) C dX6_count_1 hq_1 (by decide) ?_
    refine pt_iconst (pc' := 105) C dX6_count_104 rfl (v := -1) (by decide) ?_
    exact pt_iret C hr hk dX6_count_105 (rfl) (by simp only [ctV, if_neg (sw_ne (c := 0) hq_1 (by decide)), if_neg (sw_ne (c := 1) hq_1 (by decide)), if_neg (sw_ne (c := 2) hq_1 (by decide)), if_neg (sw_ne (c := 3) hq_1 (by decide)), if_neg (sw_ne (c := 4) hq_1 (by decide)), if_neg (sw_ne (c := 5) hq_1 (by decide)), if_neg (sw_ne (c := 6) hq_1 (by decide))]) (rfl)
  · refine pt_tabIn (tgt := 44) C dX6_count_1 (by decide) (by decide) rfl (by decide) ?_
    refine pt_aload_n (pc' := 45) C dX6_count_44 rfl 0 rfl ?_
    refine pt_get (pc' := 48) C in_6 dX6_count_45 rfl 0 0 rfl rfl (by decide) f_12 rfl ?_
    refine pt_get (pc' := 51) C in_0 dX6_count_48 rfl 2 0 rfl rfl (by decide) f_77 rfl ?_
    exact pt_iret C hr hk dX6_count_51 (rfl) (rfl) (rfl)
  · refine pt_tabIn (tgt := 52) C dX6_count_1 (by decide) (by decide) rfl (by decide) ?_
    refine pt_aload_n (pc' := 53) C dX6_count_52 rfl 0 rfl ?_
    refine pt_get (pc' := 56) C in_6 dX6_count_53 rfl 0 4 rfl rfl (by decide) f_32 rfl ?_
    refine pt_get (pc' := 59) C in_4 dX6_count_56 rfl 16 0 rfl rfl (by decide) f_107 rfl ?_
    exact pt_iret C hr hk dX6_count_59 (rfl) (rfl) (rfl)
  · refine pt_tabIn (tgt := 60) C dX6_count_1 (by decide) (by decide) rfl (by decide) ?_
    refine pt_aload_n (pc' := 61) C dX6_count_60 rfl 0 rfl ?_
    refine pt_get (pc' := 64) C in_6 dX6_count_61 rfl 0 9 rfl rfl (by decide) f_61 rfl ?_
    exact pt_iret C hr hk dX6_count_64 (rfl) (rfl) (rfl)
  · refine pt_tabIn (tgt := 65) C dX6_count_1 (by decide) (by decide) rfl (by decide) ?_
    refine pt_aload_n (pc' := 66) C dX6_count_65 rfl 0 rfl ?_
    refine pt_get (pc' := 69) C in_6 dX6_count_66 rfl 0 6 rfl rfl (by decide) f_46 rfl ?_
    refine pt_get (pc' := 72) C in_5 dX6_count_69 rfl 24 0 rfl rfl (by decide) f_191 rfl ?_
    exact pt_iret C hr hk dX6_count_72 (rfl) (rfl) (rfl)
  · refine pt_tabIn (tgt := 73) C dX6_count_1 (by decide) (by decide) rfl (by decide) ?_
    refine pt_aload_n (pc' := 74) C dX6_count_73 rfl 0 rfl ?_
    refine pt_get (pc' := 77) C in_6 dX6_count_74 rfl 0 7 rfl rfl (by decide) f_53 rfl ?_
    refine pt_get (pc' := 80) C in_3 dX6_count_77 rfl 29 0 rfl rfl (by decide) f_199 rfl ?_
    exact pt_iret C hr hk dX6_count_80 (rfl) (rfl) (rfl)
  · refine pt_tabIn (tgt := 81) C dX6_count_1 (by decide) (by decide) rfl (by decide) ?_
    refine pt_aload_n (pc' := 82) C dX6_count_81 rfl 0 rfl ?_
    refine pt_get (pc' := 85) C in_6 dX6_count_82 rfl 0 5 rfl rfl (by decide) f_39 rfl ?_
    refine pt_get (pc' := 88) C in_1 dX6_count_85 rfl 19 0 rfl rfl (by decide) f_128 rfl ?_
    exact pt_iret C hr hk dX6_count_88 (rfl) (rfl) (rfl)
  · refine pt_tabIn (tgt := 89) C dX6_count_1 (by decide) (by decide) rfl (by decide) ?_
    refine pt_aload_n (pc' := 90) C dX6_count_89 rfl 0 rfl ?_
    refine pt_get (pc' := 93) C in_6 dX6_count_90 rfl 0 2 rfl rfl (by decide) f_22 rfl ?_
    refine pt_aload_n (pc' := 94) C dX6_count_93 rfl 0 rfl ?_
    refine pt_get (pc' := 97) C in_6 dX6_count_94 rfl 0 0 rfl rfl (by decide) f_12 rfl ?_
    refine pt_get (pc' := 100) C in_0 dX6_count_97 rfl 2 0 rfl rfl (by decide) f_77 rfl ?_
    refine pt_cvI (pc' := 103) (ws' := wX cA aX aB aT aN aG aW aD aO aV g t mk ++ wB cA aB n k bs wl fd kd sz lk ++ wS cA aN sd se sc ba pa ch ++ wW cA aW td he si ++ wD cA aD dr db du df dw ++ wO cA aO wk ok op oa oc ++ wV cA aV sv vf vw vl vm) (wr := wX cA aX aB aT aN aG aW aD aO aV g t mk ++ wB cA aB n k bs wl fd kd sz lk ++ wW cA aW td he si ++ wD cA aD dr db du df dw ++ wO cA aO wk ok op oa oc ++ wV cA aV sv vf vw vl vm) (As := [.int (nI n)]) (rest := []) C (mX2_sandInAll l D cA aN sd se sc ba pa ch n (by first | assumption | omega)) (cwV 1 C.hts gX6_count_X2_sandInAll rfl rfl rfl (by decide +kernel) ⟨Nat.le_of_ble_eq_true rfl, Nat.le_of_ble_eq_true rfl⟩) dX6_count_100 rfl 9 rfl rfl rfl rfl rfl (Nat.le_of_ble_eq_true rfl) ⟨Nat.le_of_ble_eq_true rfl, Nat.le_of_ble_eq_true rfl⟩ [9, 10, 11, 12, 13, 14, 15] [0, 1, 2, 3, 4, 5, 6, 7, 8, 16, 17, 18, 19, 20, 21, 22, 23, 24, 25, 26, 27, 28, 29, 30, 31, 32, 33] [0, 1, 2, 3, 4, 5, 6, 7, 8, 27, 28, 29, 30, 31, 32, 33, 9, 10, 11, 12, 13, 14, 15, 16, 17, 18, 19, 20, 21, 22, 23, 24, 25, 26] rfl (by decide) rfl (by decide) (by decide) rfl (by decide) ?_
    exact pt_iret C hr hk dX6_count_103 (rfl) (rfl) (rfl)

set_option maxHeartbeats 4000000 in
set_option maxRecDepth 100000 in
theorem mX6_factorial (l : Launch) (D : va_G) (cA : ClassId) (q : Nat) (hq : q < 100) : mt_I l yX6_factorial wsX6_factorial { frames := 0, cells := 0, slots := 0, locals := 0 } D [(cA, .int)] [.int (nI q)] ([]) (fac q) ([]) := by
  refine mt_ofI (cc := cX6_factorial) (maxL := 3) (ret := (some .int)) (lv := [(0, .int (nI q))]) (by decide) rfl (Nat.le_of_ble_eq_true rfl) rfl ?_
  intro p e s m args below meth c A C hr hk
  refine pt_iconst (pc' := 1) C dX6_factorial_0 rfl (v := 1) (by decide) ?_
  refine pt_istore_n (pc' := 2) (lv' := [(1, .int 1), (0, .int (nI q))]) C dX6_factorial_1 rfl rfl (by decide) rfl ?_
  refine pt_iconst (pc' := 3) C dX6_factorial_2 rfl (v := 2) (by decide) ?_
  refine pt_istore_n (pc' := 4) (lv' := [(2, .int 2), (1, .int 1), (0, .int (nI q))]) C dX6_factorial_3 rfl rfl (by decide) rfl ?_
  refine pt_cv (ws' := []) (lv' := [(2, .int (nI (2 + 0))), (1, .int (itf faS 2 0 1)), (0, .int (nI q))]) (rfl) [0, 1, 2] (rfl) rfl ?_
  refine pt_for (wsf := fun j => []) (lvf := fun j => [(2, .int (nI (2 + j))), (1, .int (itf faS 2 j 1)), (0, .int (nI q))]) (q - 1) ?_ (fun j hj_4 ih_4 => ?_)
  rotate_left
  · refine pt_iload_n (pc' := 5) C dX6_factorial_4 rfl 0 rfl ?_
    refine pt_iload_n (pc' := 6) C dX6_factorial_5 rfl 2 rfl ?_
    refine pt_icmp_gt (pc' := 9) (tgt := 19) C dX6_factorial_6 (by decide) rfl (fun h_6 => absurd h_6 (nI_nlt (show 2 + j ≤ q by omega) (by omega))) (fun h_6 => ?_)
    refine pt_iload_n (pc' := 10) C dX6_factorial_9 rfl 1 rfl ?_
    refine pt_iload_n (pc' := 11) C dX6_factorial_10 rfl 0 rfl ?_
    refine pt_imul (pc' := 12) C dX6_factorial_11 rfl ?_
    refine pt_istore_n (pc' := 13) (lv' := [(1, .int ((itf faS 2 j 1) * (nI (2 + j)))), (2, .int (nI (2 + j))), (0, .int (nI q))]) C dX6_factorial_12 rfl rfl (by decide) rfl ?_
    refine pt_iinc (pc' := 16) (v := nI (2 + (j + 1))) (lv' := [(2, .int (nI (2 + (j + 1)))), (1, .int ((itf faS 2 j 1) * (nI (2 + j)))), (0, .int (nI q))]) C dX6_factorial_13 rfl 1 rfl (nI_1 _) (by decide) rfl ?_
    refine pt_goto (pc' := 4) C dX6_factorial_16 (by decide) ?_
    exact pt_cv (rfl) [0, 1, 2] (rfl) rfl ih_4
  refine pt_iload_n (pc' := 5) C dX6_factorial_4 rfl 0 rfl ?_
  refine pt_iload_n (pc' := 6) C dX6_factorial_5 rfl 2 rfl ?_
  refine pt_icmp_gt (pc' := 9) (tgt := 19) C dX6_factorial_6 (by decide) rfl (fun h_6 => ?_) (fun h_6 => absurd (nI_lt (show q < 2 + (q - 1) by omega) (by omega)) h_6)
  refine pt_iload_n (pc' := 20) C dX6_factorial_19 rfl 1 rfl ?_
  exact pt_iret C hr hk dX6_factorial_20 (rfl) (rfl) (rfl)

set_option maxHeartbeats 4000000 in
set_option maxRecDepth 100000 in
theorem mX6_without (l : Launch) (D : va_G) (cA : ClassId) (aX : Nat → Nat) (aB : Nat → Nat) (aT : Nat → Nat) (aN : Nat → Nat) (aG : Nat → Nat) (aW : Nat → Nat) (aD : Nat → Nat) (aO : Nat → Nat) (aV : Nat → Nat) (g : Nat) (t : Int32) (mk : Nat → Int32) (n : Nat) (k : Int32) (bs : Nat → Int32) (wl : Nat → Int32) (fd : Nat → Int32) (kd : Nat → Int32) (sz : Nat → Int32) (lk : Nat → Int32) (tn : Nat) (tq : Int32) (tbs : Nat → Int32) (twl : Nat → Int32) (tfd : Nat → Int32) (tkd : Nat → Int32) (tsz : Nat → Int32) (tlk : Nat → Int32) (gsd : Nat → Int32) (gse : Nat → Int32) (gsc : Nat → Int32) (gba : Nat → Int32) (gpa : Nat → Int32) (gch : Nat → Int32) (td : Nat) (he : Nat → Int32) (si : Nat → Int32) (dr : Nat) (db : Nat → Int32) (du : Nat → Int32) (df : Nat → Int32) (dw : Nat → Int32) (x : Int32) (y : Int32) (hn : 2 ≤ n) (hm : n ≤ 12) (hg : g ≤ 120) (hS : ∀ w, w < g → si w = 0 ∨ si w = 1 ∨ si w = 2) (hr2 : dr ≤ 20) (hD : ∀ i, i < dr → dOk db df i) : mt_IE l yX6_without wsX6_without { frames := 7, cells := 0, slots := 0, locals := 198 } D [(cA, .int)] [.ref (aX 0), .int x, .int y] (wX cA aX aB aT aN aG aW aD aO aV g t mk ++ wB cA aB n k bs wl fd kd sz lk ++ wB cA aT tn tq tbs twl tfd tkd tsz tlk ++ wS cA aG gsd gse gsc gba gpa gch ++ wW cA aW td he si ++ wD cA aD dr db du df dw) (cond (inF n y && hasG n kd x) (liX n k bs wl fd kd sz lk he si dr db du df dw g x y.toNatClampNeg) (-1)) (fun u : SX => wX cA aX aB aT aN aG aW aD aO aV g t mk ++ wB cA aB n k bs wl fd kd sz lk ++ wB cA aT u.1 u.2.1 u.2.2.1 u.2.2.2.1 u.2.2.2.2.1 u.2.2.2.2.2.1 u.2.2.2.2.2.2.1 u.2.2.2.2.2.2.2.1 ++ wS cA aG u.2.2.2.2.2.2.2.2.1 u.2.2.2.2.2.2.2.2.2.1 u.2.2.2.2.2.2.2.2.2.2.1 u.2.2.2.2.2.2.2.2.2.2.2.1 u.2.2.2.2.2.2.2.2.2.2.2.2.1 u.2.2.2.2.2.2.2.2.2.2.2.2.2 ++ wW cA aW td he si ++ wD cA aD dr db du df dw) := by
  refine mt_ofIE (cc := cX6_without) (maxL := 3) (ret := (some .int)) (lv := [(0, .ref (aX 0)), (1, .int x), (2, .int y)]) (by decide) rfl (Nat.le_of_ble_eq_true rfl) rfl ?_
  intro p e s m args below meth c A C hr hk
  have f_12 := C.hts (.fieldLink RX6 12 "ShoreFields" "begin" "LShoreFields$Begin;") (by decide +kernel)
  have in_6 : ∀ w ∈ u_ws RX6 TX6 11, w ∈ wsX6_without := by decide +kernel
  refine pt_aload_n (pc' := 1) C dX6_without_0 rfl 0 rfl ?_
  refine pt_get (pc' := 4) C in_6 dX6_without_1 rfl 0 0 rfl rfl (by decide) f_12 rfl ?_
  refine pt_iload_n (pc' := 5) C dX6_without_4 rfl 2 rfl ?_
  refine pt_cvI (pc' := 8) (ws' := wX cA aX aB aT aN aG aW aD aO aV g t mk ++ wB cA aB n k bs wl fd kd sz lk ++ wB cA aT tn tq tbs twl tfd tkd tsz tlk ++ wS cA aG gsd gse gsc gba gpa gch ++ wW cA aW td he si ++ wD cA aD dr db du df dw) (wr := wX cA aX aB aT aN aG aW aD aO aV g t mk ++ wB cA aT tn tq tbs twl tfd tkd tsz tlk ++ wS cA aG gsd gse gsc gba gpa gch ++ wW cA aW td he si ++ wD cA aD dr db du df dw) (As := [.int y]) (rest := []) C (mX0_hasField l D cA aB n k bs wl fd kd sz lk y ) (cwV 1 C.hts gX6_without_X0_hasField rfl rfl rfl (by decide +kernel) ⟨Nat.le_of_ble_eq_true rfl, Nat.le_of_ble_eq_true rfl⟩) dX6_without_5 rfl 2 rfl rfl rfl rfl rfl (Nat.le_of_ble_eq_true rfl) ⟨Nat.le_of_ble_eq_true rfl, Nat.le_of_ble_eq_true rfl⟩ [2, 3, 4, 5, 6, 7, 8] [0, 1, 9, 10, 11, 12, 13, 14, 15, 16, 17, 18, 19, 20, 21, 22, 23, 24, 25, 26, 27, 28, 29, 30] [0, 1, 24, 25, 26, 27, 28, 29, 30, 2, 3, 4, 5, 6, 7, 8, 9, 10, 11, 12, 13, 14, 15, 16, 17, 18, 19, 20, 21, 22, 23] rfl (by decide) rfl (by decide) (by decide) rfl (by decide) ?_
  refine pt_if_eq (pc' := 11) (tgt := 22) C dX6_without_8 (by decide) rfl (fun h_8 => ?_) (fun h_8 => ?_)
  · refine pt_iconst (pc' := 23) C dX6_without_22 rfl (v := -1) (by decide) ?_
    exact pt_iretE C hr hk dX6_without_23 (rfl) (by simp only [bI_f h_8, bI, cond_false, cond_true, Bool.and_true, Bool.true_and, Bool.and_false, Bool.false_and] <;> rfl) (tn, tq, tbs, twl, tfd, tkd, tsz, tlk, gsd, gse, gsc, gba, gpa, gch) (rfl)
  · refine pt_aload_n (pc' := 12) C dX6_without_11 rfl 0 rfl ?_
    refine pt_get (pc' := 15) C in_6 dX6_without_12 rfl 0 0 rfl rfl (by decide) f_12 rfl ?_
    refine pt_iload_n (pc' := 16) C dX6_without_15 rfl 1 rfl ?_
    refine pt_cvI (pc' := 19) (ws' := wX cA aX aB aT aN aG aW aD aO aV g t mk ++ wB cA aB n k bs wl fd kd sz lk ++ wB cA aT tn tq tbs twl tfd tkd tsz tlk ++ wS cA aG gsd gse gsc gba gpa gch ++ wW cA aW td he si ++ wD cA aD dr db du df dw) (wr := wX cA aX aB aT aN aG aW aD aO aV g t mk ++ wB cA aT tn tq tbs twl tfd tkd tsz tlk ++ wS cA aG gsd gse gsc gba gpa gch ++ wW cA aW td he si ++ wD cA aD dr db du df dw) (As := [.int x]) (rest := []) C (mX0_hasGroynes l D cA aB n k bs wl fd kd sz lk x (hn) (hm)) (cwV 1 C.hts gX6_without_X0_hasGroynes rfl rfl rfl (by decide +kernel) ⟨Nat.le_of_ble_eq_true rfl, Nat.le_of_ble_eq_true rfl⟩) dX6_without_16 rfl 2 rfl rfl rfl rfl rfl (Nat.le_of_ble_eq_true rfl) ⟨Nat.le_of_ble_eq_true rfl, Nat.le_of_ble_eq_true rfl⟩ [2, 3, 4, 5, 6, 7, 8] [0, 1, 9, 10, 11, 12, 13, 14, 15, 16, 17, 18, 19, 20, 21, 22, 23, 24, 25, 26, 27, 28, 29, 30] [0, 1, 24, 25, 26, 27, 28, 29, 30, 2, 3, 4, 5, 6, 7, 8, 9, 10, 11, 12, 13, 14, 15, 16, 17, 18, 19, 20, 21, 22, 23] rfl (by decide) rfl (by decide) (by decide) rfl (by decide) ?_
    refine pt_if_ne (pc' := 22) (tgt := 24) C dX6_without_19 (by decide) rfl (fun h_19 => ?_) (fun h_19 => ?_)
    · refine pt_aload_n (pc' := 25) C dX6_without_24 rfl 0 rfl ?_
      refine pt_iload_n (pc' := 26) C dX6_without_25 rfl 1 rfl ?_
      refine pt_iload_n (pc' := 27) C dX6_without_26 rfl 2 rfl ?_
      refine pt_eq (st' := [.int (nI y.toNatClampNeg), .int x, .ref (aX 0)]) rfl rfl (by rw [← (inF_in hm (bI_t h_8)).1]) ?_
      refine pt_cvIE (pc' := 30) (wf := fun (u_27 : S6) => wX cA aX aB aT aN aG aW aD aO aV g t mk ++ wB cA aB n k bs wl fd kd sz lk ++ wB cA aT n k bs wl fd ((laX x n kd sz lk).1) ((laX x n kd sz lk).2.1) ((laX x n kd sz lk).2.2) ++ wS cA aG u_27.1 u_27.2.1 u_27.2.2.1 u_27.2.2.2.1 u_27.2.2.2.2.1 u_27.2.2.2.2.2 ++ wW cA aW td he si ++ wD cA aD dr db du df dw) (wr := []) (As := [.int x, .int (nI y.toNatClampNeg)]) (rest := []) C (mX6_lineLeavingAway l D cA aX aB aT aN aG aW aD aO aV g t mk n k bs wl fd kd sz lk tn tq tbs twl tfd tkd tsz tlk gsd gse gsc gba gpa gch td he si dr db du df dw x y.toNatClampNeg (hn) (hm) (hg) (by have := (inF_in hm (bI_t h_8)).2; omega) (hS) (hr2) (hD)) (cwV 2 C.hts gX6_without_X6_lineLeavingAway rfl rfl rfl (by decide +kernel) ⟨Nat.le_of_ble_eq_true rfl, Nat.le_of_ble_eq_true rfl⟩) dX6_without_27 rfl 0 rfl rfl rfl rfl rfl (Nat.le_of_ble_eq_true rfl) ⟨Nat.le_of_ble_eq_true rfl, Nat.le_of_ble_eq_true rfl⟩ [0, 1, 2, 3, 4, 5, 6, 7, 8, 9, 10, 11, 12, 13, 14, 15, 16, 17, 18, 19, 20, 21, 22, 23, 24, 25, 26, 27, 28, 29, 30] [] [0, 1, 2, 3, 4, 5, 6, 7, 8, 9, 10, 11, 12, 13, 14, 15, 16, 17, 18, 19, 20, 21, 22, 23, 24, 25, 26, 27, 28, 29, 30] rfl (by decide) rfl (by decide) (by decide) (fun _ => rfl) (by decide) (fun u_27 => ?_)
      exact pt_iretE C hr hk dX6_without_30 (rfl) (by simp only [bI_t h_8, bI_t h_19, bI, cond_false, cond_true, Bool.and_true, Bool.true_and, Bool.and_false, Bool.false_and] <;> rfl) (n, k, bs, wl, fd, (laX x n kd sz lk).1, (laX x n kd sz lk).2.1, (laX x n kd sz lk).2.2, u_27.1, u_27.2.1, u_27.2.2.1, u_27.2.2.2.1, u_27.2.2.2.2.1, u_27.2.2.2.2.2) (rfl)
    · refine pt_iconst (pc' := 23) C dX6_without_22 rfl (v := -1) (by decide) ?_
      exact pt_iretE C hr hk dX6_without_23 (rfl) (by simp only [bI_t h_8, bI_f h_19, bI, cond_false, cond_true, Bool.and_true, Bool.true_and, Bool.and_false, Bool.false_and] <;> rfl) (tn, tq, tbs, twl, tfd, tkd, tsz, tlk, gsd, gse, gsc, gba, gpa, gch) (rfl)
