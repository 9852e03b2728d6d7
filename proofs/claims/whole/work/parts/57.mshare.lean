set_option maxHeartbeats 4000000 in
set_option maxRecDepth 100000 in
theorem mX7_thrown (l : Launch) (D : va_G) (cA : ClassId) (aM : Nat → Nat) (th : Int32) (n : Nat) (it : Int32) (k : Int32) (td : Nat) (gn : Nat) (dr : Nat) (wk : Nat) (sv : Nat) (P : Nat → Nat → Int32) (sd : Nat → Int32) (se : Nat → Int32) (sc : Nat → Int32) (ba : Nat → Int32) (pa : Nat → Int32) (le : Nat → Int32) (mo : Nat → Int32) : mt_I l yX7_thrown wsX7_thrown { frames := 0, cells := 0, slots := 0, locals := 0 } D [(cA, .int)] [.ref (aM 0)] (wM cA aM th n it k td gn dr wk sv P sd se sc ba pa le mo) (th) (wM cA aM th n it k td gn dr wk sv P sd se sc ba pa le mo) := by
  refine mt_ofI (cc := cX7_thrown) (maxL := 1) (ret := (some .int)) (lv := [(0, .ref (aM 0))]) (by decide) rfl (Nat.le_of_ble_eq_true rfl) rfl ?_
  intro p e s m args below meth c A C hr hk
  have f_1 := C.hts (.fieldLink RX7 1 "ShoreFieldsModel" "thrown" "I") (by decide +kernel)
  have in_7 : ∀ w ∈ u_ws RX7 TX7 37, w ∈ wsX7_thrown := by decide +kernel
  refine pt_aload_n (pc' := 1) C dX7_thrown_0 rfl 0 rfl ?_
  refine pt_get (pc' := 4) C in_7 dX7_thrown_1 rfl 0 0 rfl rfl (by decide) f_1 rfl ?_
  exact pt_iret C hr hk dX7_thrown_4 (rfl) (rfl) (rfl)

set_option maxHeartbeats 4000000 in
set_option maxRecDepth 100000 in
theorem mX7_share (l : Launch) (D : va_G) (cA : ClassId) (aM : Nat → Nat) (th : Int32) (n : Nat) (it : Int32) (k : Int32) (td : Nat) (gn : Nat) (dr : Nat) (wk : Nat) (sv : Nat) (P : Nat → Nat → Int32) (sd : Nat → Int32) (se : Nat → Int32) (sc : Nat → Int32) (ba : Nat → Int32) (pa : Nat → Int32) (le : Nat → Int32) (mo : Nat → Int32) (b : Nat) (q : Nat) (f : Nat) (sz : Nat → Int32) (lk : Nat → Int32) (hn : 2 ≤ n) (hm : n ≤ 12) (hg : gn ≤ 120) (hS : ∀ w, w < gn → P 7 w = 0 ∨ P 7 w = 1 ∨ P 7 w = 2) (hH : ∀ w, w < gn → heK (P 6) w) (hr2 : dr ≤ 20) (hD : ∀ i, i < dr → dOk (P 8) (P 10) i) (hU : ∀ i, i < dr → dUk (P 9) i) (hB : ∀ i, i < 12 → 0 ≤ (P 0 i).toInt ∧ (P 0 i).toInt ≤ 99999) (hp : gdP k (P 4) (P 5) (P 1) sz lk) (hrel : ∀ b, b < 13 → relP (P 1) sz lk (P 2) (P 3) n b) (hf : f < n) (hok1 : inF n (nI f) = true) (hok2 : allB (agB n (P 1) (nI q)) 32 = true) (hok3 : pcN q ≤ 4) (hq : q < 4096) (hb : b < 13) (hok4 : inI n (nI b) = true) (hok5 : (nI q >>> (nI b &&& 31)) &&& 1 = 1) (hpc : ∀ j, j < 8192 → nI j &&& (nI q ^^^ (-1)) = 0 → (nI j >>> (nI b &&& 31)) &&& 1 = 0 → pcN j + 1 ≤ pcN q) (hgro : ∀ j, j < 8192 → nI j &&& (nI q ^^^ (-1)) = 0 → groB n (P 1) (nI j ||| (1 <<< (nI b &&& 31))) ∧ groB n (P 1) (nI j)) : mt_IE l yX7_share wsX7_share { frames := 7, cells := 0, slots := 0, locals := 172 } D [(cA, .int)] [.ref (aM 0), .int (nI b), .int (nI q), .int (nI f)] (wM cA aM th n it k td gn dr wk sv P sd se sc ba pa le mo) (itz (smS (fun x => liX n k (P 0) (P 4) (P 5) (P 1) sz lk (P 6) (P 7) dr (P 8) (P 9) (P 10) (P 11) gn x f) q b) 8192 0) (fun u : S7 => wM cA aM 0 n it k td gn dr wk sv P u.1 u.2.1 u.2.2.1 u.2.2.2.1 u.2.2.2.2.1 u.2.2.2.2.2.1 u.2.2.2.2.2.2) := by
  refine mt_ofIE (cc := cX7_share) (maxL := 9) (ret := (some .int)) (lv := [(0, .ref (aM 0)), (1, .int (nI b)), (2, .int (nI q)), (3, .int (nI f))]) (by decide) rfl (Nat.le_of_ble_eq_true rfl) rfl ?_
  intro p e s m args below meth c A C hr hk
  have f_1 := C.hts (.fieldLink RX7 1 "ShoreFieldsModel" "thrown" "I") (by decide +kernel)
  have in_7 : ∀ w ∈ u_ws RX7 TX7 37, w ∈ wsX7_share := by decide +kernel
  refine pt_aload_n (pc' := 1) C dX7_share_0 rfl 0 rfl ?_
  refine pt_iload_n (pc' := 2) C dX7_share_1 rfl 3 rfl ?_
  refine pt_cvI0 (pc' := 5) (w1 := wM cA aM th n it k td gn dr wk sv P sd se sc ba pa le mo) (As := [.int (nI f)]) (rest := []) C (mX7_isField l D cA aM th n it k td gn dr wk sv P sd se sc ba pa le mo (nI f) (hn) (hm)) (cwV 1 C.hts gX7_share_X7_isField rfl rfl rfl (by decide +kernel) ⟨Nat.le_of_ble_eq_true rfl, Nat.le_of_ble_eq_true rfl⟩) dX7_share_2 rfl 0 rfl rfl rfl rfl rfl (Nat.le_of_ble_eq_true rfl) ⟨Nat.le_of_ble_eq_true rfl, Nat.le_of_ble_eq_true rfl⟩ ?_
  refine pt_if_eq (pc' := 8) (tgt := 45) C dX7_share_5 (by decide) rfl (fun h_5 => absurd h_5 (fun z => absurd (bI_f z) (by rw [hok1]; decide))) (fun h_5 => ?_)
  refine pt_aload_n (pc' := 9) C dX7_share_8 rfl 0 rfl ?_
  refine pt_iload_n (pc' := 10) C dX7_share_9 rfl 2 rfl ?_
  refine pt_cvI0 (pc' := 13) (w1 := wM cA aM th n it k td gn dr wk sv P sd se sc ba pa le mo) (As := [.int (nI q)]) (rest := []) C (mX7_areGroynes l D cA aM th n it k td gn dr wk sv P sd se sc ba pa le mo (nI q) (hn) (hm)) (cwV 1 C.hts gX7_share_X7_areGroynes rfl rfl rfl (by decide +kernel) ⟨Nat.le_of_ble_eq_true rfl, Nat.le_of_ble_eq_true rfl⟩) dX7_share_10 rfl 0 rfl rfl rfl rfl rfl (Nat.le_of_ble_eq_true rfl) ⟨Nat.le_of_ble_eq_true rfl, Nat.le_of_ble_eq_true rfl⟩ ?_
  refine pt_if_eq (pc' := 16) (tgt := 45) C dX7_share_13 (by decide) rfl (fun h_13 => absurd h_13 (fun z => absurd (bI_f z) (by rw [hok2]; decide))) (fun h_13 => ?_)
  refine pt_iload_n (pc' := 17) C dX7_share_16 rfl 2 rfl ?_
  refine pt_csI0 (pc' := 20) (As := [.int (nI q)]) (rest := []) C (mX7_bits l D cA (nI q) ) (va_cwS 1 C.hts gX7_share_X7_bits rfl rfl rfl (by decide +kernel) ⟨Nat.le_of_ble_eq_true rfl, Nat.le_of_ble_eq_true rfl⟩) dX7_share_17 rfl rfl rfl (Nat.le_of_ble_eq_true rfl) ⟨Nat.le_of_ble_eq_true rfl, Nat.le_of_ble_eq_true rfl⟩ ?_
  refine pt_iconst (pc' := 21) C dX7_share_20 rfl (v := 4) (by decide) ?_
  refine pt_icmp_gt (pc' := 24) (tgt := 45) C dX7_share_21 (by decide) rfl (fun h_21 => absurd h_21 (by rw [bt_pc (by omega)]; exact nI_nlt (a := 4) hok3 (by decide))) (fun h_21 => ?_)
  refine pt_aload_n (pc' := 25) C dX7_share_24 rfl 0 rfl ?_
  refine pt_iload_n (pc' := 26) C dX7_share_25 rfl 1 rfl ?_
  refine pt_cvI0 (pc' := 29) (w1 := wM cA aM th n it k td gn dr wk sv P sd se sc ba pa le mo) (As := [.int (nI b)]) (rest := []) C (mX7_isInner l D cA aM th n it k td gn dr wk sv P sd se sc ba pa le mo (nI b) (hn) (hm)) (cwV 1 C.hts gX7_share_X7_isInner rfl rfl rfl (by decide +kernel) ⟨Nat.le_of_ble_eq_true rfl, Nat.le_of_ble_eq_true rfl⟩) dX7_share_26 rfl 0 rfl rfl rfl rfl rfl (Nat.le_of_ble_eq_true rfl) ⟨Nat.le_of_ble_eq_true rfl, Nat.le_of_ble_eq_true rfl⟩ ?_
  refine pt_if_eq (pc' := 32) (tgt := 45) C dX7_share_29 (by decide) rfl (fun h_29 => absurd h_29 (fun z => absurd (bI_f z) (by rw [hok4]; decide))) (fun h_29 => ?_)
  refine pt_iload_n (pc' := 33) C dX7_share_32 rfl 2 rfl ?_
  refine pt_iload_n (pc' := 34) C dX7_share_33 rfl 1 rfl ?_
  refine pt_ishr (pc' := 35) C dX7_share_34 rfl ?_
  refine pt_iconst (pc' := 36) C dX7_share_35 rfl (v := 1) (by decide) ?_
  refine pt_iand (pc' := 37) C dX7_share_36 rfl ?_
  refine pt_iconst (pc' := 38) C dX7_share_37 rfl (v := 1) (by decide) ?_
  refine pt_icmp_ne (pc' := 41) (tgt := 45) C dX7_share_38 (by decide) rfl (fun h_38 => absurd (hok5) h_38) (fun h_38 => ?_)
  refine pt_iconst (pc' := 42) C dX7_share_41 rfl (v := 1) (by decide) ?_
  refine pt_goto (pc' := 46) C dX7_share_42 (by decide) ?_
  refine pt_istore (pc' := 48) (lv' := [(4, .int 1), (0, .ref (aM 0)), (1, .int (nI b)), (2, .int (nI q)), (3, .int (nI f))]) C dX7_share_46 rfl (by decide) rfl ?_
  refine pt_aload_n (pc' := 49) C dX7_share_48 rfl 1 rfl ?_
  refine pt_iload (pc' := 51) C dX7_share_49 rfl 0 rfl ?_
  refine pt_if_eq (pc' := 54) (tgt := 58) C dX7_share_51 (by decide) rfl (fun h_51 => absurd h_51 (by decide)) (fun h_51 => ?_)
  refine pt_iconst (pc' := 55) C dX7_share_54 rfl (v := 0) (by decide) ?_
  refine pt_goto (pc' := 59) C dX7_share_55 (by decide) ?_
  refine pt_put (pc' := 62) (ty := .int) (ws' := wM cA aM 0 n it k td gn dr wk sv P sd se sc ba pa le mo) C in_7 tyX7 tyX7_ok nmX7 dX7_share_59 rfl 0 0 rfl rfl (by decide) f_1 rfl (by decide +kernel) (rfl) (rfl) (Nat.le_of_ble_eq_true rfl) rfl ?_
  refine pt_aload_n (pc' := 63) C dX7_share_62 rfl 1 rfl ?_
  refine pt_get (pc' := 66) C in_7 dX7_share_63 rfl 0 0 rfl rfl (by decide) f_1 rfl ?_
  refine pt_if_le (pc' := 69) (tgt := 71) C dX7_share_66 (by decide) rfl (fun h_66 => ?_) (fun h_66 => absurd (by decide) h_66)
  refine pt_iconst (pc' := 72) C dX7_share_71 rfl (v := 0) (by decide) ?_
  refine pt_istore (pc' := 74) (lv' := [(5, .int 0), (4, .int 1), (0, .ref (aM 0)), (1, .int (nI b)), (2, .int (nI q)), (3, .int (nI f))]) C dX7_share_72 rfl (by decide) rfl ?_
  refine pt_iload_n (pc' := 75) C dX7_share_74 rfl 4 rfl ?_
  refine pt_csI0 (pc' := 78) (As := [.int (nI q)]) (rest := []) C (mX7_bits l D cA (nI q) ) (va_cwS 1 C.hts gX7_share_X7_bits rfl rfl rfl (by decide +kernel) ⟨Nat.le_of_ble_eq_true rfl, Nat.le_of_ble_eq_true rfl⟩) dX7_share_75 rfl rfl rfl (Nat.le_of_ble_eq_true rfl) ⟨Nat.le_of_ble_eq_true rfl, Nat.le_of_ble_eq_true rfl⟩ ?_
  refine pt_eq (st' := [.int (nI (pcN q))]) rfl rfl (by rw [bt_pc (by omega)]) ?_
  refine pt_istore (pc' := 80) (lv' := [(6, .int (nI (pcN q))), (5, .int 0), (4, .int 1), (0, .ref (aM 0)), (1, .int (nI b)), (2, .int (nI q)), (3, .int (nI f))]) C dX7_share_78 rfl (by decide) rfl ?_
  refine pt_iconst (pc' := 81) C dX7_share_80 rfl (v := 0) (by decide) ?_
  refine pt_istore (pc' := 83) (lv' := [(7, .int 0), (6, .int (nI (pcN q))), (5, .int 0), (4, .int 1), (0, .ref (aM 0)), (1, .int (nI b)), (2, .int (nI q)), (3, .int (nI f))]) C dX7_share_81 rfl (by decide) rfl ?_
  refine pt_cv (ws' := wM cA aM 0 n it k td gn dr wk sv P sd se sc ba pa le mo) (lv' := [(7, .int (nI 0)), (6, .int (nI (pcN q))), (5, .int (itz (smS (fun x => liX n k (P 0) (P 4) (P 5) (P 1) sz lk (P 6) (P 7) dr (P 8) (P 9) (P 10) (P 11) gn x f) q b) 0 0)), (4, .int 1), (0, .ref (aM 0)), (1, .int (nI b)), (2, .int (nI q)), (3, .int (nI f))]) (rfl) [0, 1, 2, 3, 4, 5, 6, 7] (rfl) rfl ?_
  refine pt_forE (wsf := fun j (u : S7) => wM cA aM 0 n it k td gn dr wk sv P u.1 u.2.1 u.2.2.1 u.2.2.2.1 u.2.2.2.2.1 u.2.2.2.2.2.1 u.2.2.2.2.2.2) (lvf := fun j => [(7, .int (nI j)), (6, .int (nI (pcN q))), (5, .int (itz (smS (fun x => liX n k (P 0) (P 4) (P 5) (P 1) sz lk (P 6) (P 7) dr (P 8) (P 9) (P 10) (P 11) gn x f) q b) j 0)), (4, .int 1), (0, .ref (aM 0)), (1, .int (nI b)), (2, .int (nI q)), (3, .int (nI f))]) (I := fun j => True) 8192 (trivial) (fun hi_83 u_83 => ?_) (fun j hj_83 hi_83 ih_83 u_83 => ?_) (sd, se, sc, ba, pa, le, mo)
  rotate_left
  · refine pt_iload (pc' := 85) C dX7_share_83 rfl 0 rfl ?_
    refine pt_sipush (pc' := 88) C dX7_share_85 rfl (v := 8192) (by decide) ?_
    refine pt_icmp_ge (pc' := 91) (tgt := 163) C dX7_share_88 (by decide) rfl (fun h_88 => absurd h_88 (nI_ge hj_83 (by decide))) (fun h_88 => ?_)
    refine pt_iload (pc' := 93) C dX7_share_91 rfl 0 rfl ?_
    refine pt_iload_n (pc' := 94) C dX7_share_93 rfl 6 rfl ?_
    refine pt_iconst (pc' := 95) C dX7_share_94 rfl (v := -1) (by decide) ?_
    refine pt_ixor (pc' := 96) C dX7_share_95 rfl ?_
    refine pt_iand (pc' := 97) C dX7_share_96 rfl ?_
    refine pt_if_ne (pc' := 100) (tgt := 157) C dX7_share_97 (by decide) rfl (fun h_97 => ?_) (fun h_97 => ?_)
    · refine pt_iinc (pc' := 160) (v := nI (j + 1)) (lv' := [(7, .int (nI (j + 1))), (6, .int (nI (pcN q))), (5, .int (itz (smS (fun x => liX n k (P 0) (P 4) (P 5) (P 1) sz lk (P 6) (P 7) dr (P 8) (P 9) (P 10) (P 11) gn x f) q b) j 0)), (4, .int 1), (0, .ref (aM 0)), (1, .int (nI b)), (2, .int (nI q)), (3, .int (nI f))]) C dX7_share_157 rfl 0 rfl (nI_1 _) (by decide) rfl ?_
      refine pt_goto (pc' := 83) C dX7_share_160 (by decide) ?_
      exact pt_cv (rfl) [0, 1, 2, 3, 4, 5, 6, 7] (by simp only [itz_s, smS, if_neg h_97]; rfl) rfl (ih_83 (trivial) (u_83.1, u_83.2.1, u_83.2.2.1, u_83.2.2.2.1, u_83.2.2.2.2.1, u_83.2.2.2.2.2.1, u_83.2.2.2.2.2.2))
    · refine pt_iload (pc' := 102) C dX7_share_100 rfl 0 rfl ?_
      refine pt_iload_n (pc' := 103) C dX7_share_102 rfl 5 rfl ?_
      refine pt_ishr (pc' := 104) C dX7_share_103 rfl ?_
      refine pt_iconst (pc' := 105) C dX7_share_104 rfl (v := 1) (by decide) ?_
      refine pt_iand (pc' := 106) C dX7_share_105 rfl ?_
      refine pt_if_ne (pc' := 109) (tgt := 157) C dX7_share_106 (by decide) rfl (fun h_106 => ?_) (fun h_106 => ?_)
      · refine pt_iinc (pc' := 160) (v := nI (j + 1)) (lv' := [(7, .int (nI (j + 1))), (6, .int (nI (pcN q))), (5, .int (itz (smS (fun x => liX n k (P 0) (P 4) (P 5) (P 1) sz lk (P 6) (P 7) dr (P 8) (P 9) (P 10) (P 11) gn x f) q b) j 0)), (4, .int 1), (0, .ref (aM 0)), (1, .int (nI b)), (2, .int (nI q)), (3, .int (nI f))]) C dX7_share_157 rfl 0 rfl (nI_1 _) (by decide) rfl ?_
        refine pt_goto (pc' := 83) C dX7_share_160 (by decide) ?_
        exact pt_cv (rfl) [0, 1, 2, 3, 4, 5, 6, 7] (by simp only [itz_s, smS, if_pos h_97, if_neg h_106]; rfl) rfl (ih_83 (trivial) (u_83.1, u_83.2.1, u_83.2.2.1, u_83.2.2.2.1, u_83.2.2.2.2.1, u_83.2.2.2.2.2.1, u_83.2.2.2.2.2.2))
      · refine pt_iload (pc' := 111) C dX7_share_109 rfl 0 rfl ?_
        refine pt_csI0 (pc' := 114) (As := [.int (nI j)]) (rest := []) C (mX7_bits l D cA (nI j) ) (va_cwS 1 C.hts gX7_share_X7_bits rfl rfl rfl (by decide +kernel) ⟨Nat.le_of_ble_eq_true rfl, Nat.le_of_ble_eq_true rfl⟩) dX7_share_111 rfl rfl rfl (Nat.le_of_ble_eq_true rfl) ⟨Nat.le_of_ble_eq_true rfl, Nat.le_of_ble_eq_true rfl⟩ ?_
        refine pt_eq (st' := [.int (nI (pcN j))]) rfl rfl (by rw [bt_pc hj_83]) ?_
        refine pt_istore (pc' := 116) (lv' := [(8, .int (nI (pcN j))), (7, .int (nI j)), (6, .int (nI (pcN q))), (5, .int (itz (smS (fun x => liX n k (P 0) (P 4) (P 5) (P 1) sz lk (P 6) (P 7) dr (P 8) (P 9) (P 10) (P 11) gn x f) q b) j 0)), (4, .int 1), (0, .ref (aM 0)), (1, .int (nI b)), (2, .int (nI q)), (3, .int (nI f))]) C dX7_share_114 rfl (by decide) rfl ?_
        refine pt_iload (pc' := 118) C dX7_share_116 rfl 3 rfl ?_
        refine pt_iload (pc' := 120) C dX7_share_118 rfl 0 rfl ?_
        refine pt_csI0 (pc' := 123) (As := [.int (nI (pcN j))]) (rest := [.int (itz (smS (fun x => liX n k (P 0) (P 4) (P 5) (P 1) sz lk (P 6) (P 7) dr (P 8) (P 9) (P 10) (P 11) gn x f) q b) j 0)]) C (mX7_orders l D cA (pcN j) (by have := pcN_le j; omega)) (va_cwS 1 C.hts gX7_share_X7_orders rfl rfl rfl (by decide +kernel) ⟨Nat.le_of_ble_eq_true rfl, Nat.le_of_ble_eq_true rfl⟩) dX7_share_120 rfl rfl rfl (Nat.le_of_ble_eq_true rfl) ⟨Nat.le_of_ble_eq_true rfl, Nat.le_of_ble_eq_true rfl⟩ ?_
        refine pt_iload (pc' := 125) C dX7_share_123 rfl 2 rfl ?_
        refine pt_iconst (pc' := 126) C dX7_share_125 rfl (v := 1) (by decide) ?_
        refine pt_isub (pc' := 127) C dX7_share_126 rfl ?_
        refine pt_iload (pc' := 129) C dX7_share_127 rfl 0 rfl ?_
        refine pt_isub (pc' := 130) C dX7_share_129 rfl ?_
        have hpq := hpc j hj_83 h_97 h_106
        refine pt_eq (st' := [.int (nI (pcN q - 1 - pcN j)), .int (fac (pcN j)), .int (itz (smS (fun x => liX n k (P 0) (P 4) (P 5) (P 1) sz lk (P 6) (P 7) dr (P 8) (P 9) (P 10) (P 11) gn x f) q b) j 0)]) rfl rfl (by rw [nI_m1 (by omega), pk_sub (by omega)]) ?_
        refine pt_csI0 (pc' := 133) (As := [.int (nI (pcN q - 1 - pcN j))]) (rest := [.int (fac (pcN j)), .int (itz (smS (fun x => liX n k (P 0) (P 4) (P 5) (P 1) sz lk (P 6) (P 7) dr (P 8) (P 9) (P 10) (P 11) gn x f) q b) j 0)]) C (mX7_orders l D cA (pcN q - 1 - pcN j) (by omega)) (va_cwS 1 C.hts gX7_share_X7_orders rfl rfl rfl (by decide +kernel) ⟨Nat.le_of_ble_eq_true rfl, Nat.le_of_ble_eq_true rfl⟩) dX7_share_130 rfl rfl rfl (Nat.le_of_ble_eq_true rfl) ⟨Nat.le_of_ble_eq_true rfl, Nat.le_of_ble_eq_true rfl⟩ ?_
        refine pt_imul (pc' := 134) C dX7_share_133 rfl ?_
        refine pt_aload_n (pc' := 135) C dX7_share_134 rfl 5 rfl ?_
        refine pt_iload (pc' := 137) C dX7_share_135 rfl 1 rfl ?_
        refine pt_iconst (pc' := 138) C dX7_share_137 rfl (v := 1) (by decide) ?_
        refine pt_iload_n (pc' := 139) C dX7_share_138 rfl 6 rfl ?_
        refine pt_ishl (pc' := 140) C dX7_share_139 rfl ?_
        refine pt_ior (pc' := 141) C dX7_share_140 rfl ?_
        refine pt_iload_n (pc' := 142) C dX7_share_141 rfl 8 rfl ?_
        refine pt_cvIE0 (pc' := 145) (w1 := fun (u_142 : S7) => wM cA aM 0 n it k td gn dr wk sv P u_142.1 u_142.2.1 u_142.2.2.1 u_142.2.2.2.1 u_142.2.2.2.2.1 u_142.2.2.2.2.2.1 u_142.2.2.2.2.2.2) (As := [.int ((nI j) ||| (1 <<< ((nI b) &&& 31))), .int (nI f)]) (rest := [.int ((fac (pcN j)) * (fac (pcN q - 1 - pcN j))), .int (itz (smS (fun x => liX n k (P 0) (P 4) (P 5) (P 1) sz lk (P 6) (P 7) dr (P 8) (P 9) (P 10) (P 11) gn x f) q b) j 0)]) C (mX7_lineWithout l D cA aM 0 n it k td gn dr wk sv P u_83.1 u_83.2.1 u_83.2.2.1 u_83.2.2.2.1 u_83.2.2.2.2.1 u_83.2.2.2.2.2.1 u_83.2.2.2.2.2.2 ((nI j) ||| (1 <<< ((nI b) &&& 31))) f ((laX ((nI j) ||| (1 <<< ((nI b) &&& 31))) n (P 1) sz lk).1) ((laX ((nI j) ||| (1 <<< ((nI b) &&& 31))) n (P 1) sz lk).2.1) ((laX ((nI j) ||| (1 <<< ((nI b) &&& 31))) n (P 1) sz lk).2.2) (hn) (hm) (hg) (hS) (hH) (hr2) (hD) (hU) (hB) (la_gdP hm hp) (fun b h1 h2 => rel_la hm h1 h2 (hrel b (by omega)) (hgro j hj_83 h_97).1) (by omega)) (cwV 2 C.hts gX7_share_X7_lineWithout rfl rfl rfl (by decide +kernel) ⟨Nat.le_of_ble_eq_true rfl, Nat.le_of_ble_eq_true rfl⟩) dX7_share_142 rfl 0 rfl rfl rfl rfl rfl (Nat.le_of_ble_eq_true rfl) ⟨Nat.le_of_ble_eq_true rfl, Nat.le_of_ble_eq_true rfl⟩ (fun u_142 => ?_)
        refine pt_aload_n (pc' := 146) C dX7_share_145 rfl 5 rfl ?_
        refine pt_iload (pc' := 148) C dX7_share_146 rfl 1 rfl ?_
        refine pt_iload_n (pc' := 149) C dX7_share_148 rfl 8 rfl ?_
        refine pt_cvIE0 (pc' := 152) (w1 := fun (u_149 : S7) => wM cA aM 0 n it k td gn dr wk sv P u_149.1 u_149.2.1 u_149.2.2.1 u_149.2.2.2.1 u_149.2.2.2.2.1 u_149.2.2.2.2.2.1 u_149.2.2.2.2.2.2) (As := [.int (nI j), .int (nI f)]) (rest := [.int (ln (rpY n k (P 0) (P 4) (P 5) ((laX ((nI j) ||| (1 <<< ((nI b) &&& 31))) n (P 1) sz lk).1) ((laX ((nI j) ||| (1 <<< ((nI b) &&& 31))) n (P 1) sz lk).2.1) ((laX ((nI j) ||| (1 <<< ((nI b) &&& 31))) n (P 1) sz lk).2.2) (P 6) (P 7) dr (P 8) (P 9) (P 10) (P 11) gn).1 f), .int ((fac (pcN j)) * (fac (pcN q - 1 - pcN j))), .int (itz (smS (fun x => liX n k (P 0) (P 4) (P 5) (P 1) sz lk (P 6) (P 7) dr (P 8) (P 9) (P 10) (P 11) gn x f) q b) j 0)]) C (mX7_lineWithout l D cA aM 0 n it k td gn dr wk sv P u_142.1 u_142.2.1 u_142.2.2.1 u_142.2.2.2.1 u_142.2.2.2.2.1 u_142.2.2.2.2.2.1 u_142.2.2.2.2.2.2 (nI j) f ((laX (nI j) n (P 1) sz lk).1) ((laX (nI j) n (P 1) sz lk).2.1) ((laX (nI j) n (P 1) sz lk).2.2) (hn) (hm) (hg) (hS) (hH) (hr2) (hD) (hU) (hB) (la_gdP hm hp) (fun b h1 h2 => rel_la hm h1 h2 (hrel b (by omega)) (hgro j hj_83 h_97).2) (by omega)) (cwV 2 C.hts gX7_share_X7_lineWithout rfl rfl rfl (by decide +kernel) ⟨Nat.le_of_ble_eq_true rfl, Nat.le_of_ble_eq_true rfl⟩) dX7_share_149 rfl 0 rfl rfl rfl rfl rfl (Nat.le_of_ble_eq_true rfl) ⟨Nat.le_of_ble_eq_true rfl, Nat.le_of_ble_eq_true rfl⟩ (fun u_149 => ?_)
        refine pt_isub (pc' := 153) C dX7_share_152 rfl ?_
        refine pt_imul (pc' := 154) C dX7_share_153 rfl ?_
        refine pt_iadd (pc' := 155) C dX7_share_154 rfl ?_
        refine pt_istore (pc' := 157) (lv' := [(5, .int ((itz (smS (fun x => liX n k (P 0) (P 4) (P 5) (P 1) sz lk (P 6) (P 7) dr (P 8) (P 9) (P 10) (P 11) gn x f) q b) j 0) + (((fac (pcN j)) * (fac (pcN q - 1 - pcN j))) * ((ln (rpY n k (P 0) (P 4) (P 5) ((laX ((nI j) ||| (1 <<< ((nI b) &&& 31))) n (P 1) sz lk).1) ((laX ((nI j) ||| (1 <<< ((nI b) &&& 31))) n (P 1) sz lk).2.1) ((laX ((nI j) ||| (1 <<< ((nI b) &&& 31))) n (P 1) sz lk).2.2) (P 6) (P 7) dr (P 8) (P 9) (P 10) (P 11) gn).1 f) - (ln (rpY n k (P 0) (P 4) (P 5) ((laX (nI j) n (P 1) sz lk).1) ((laX (nI j) n (P 1) sz lk).2.1) ((laX (nI j) n (P 1) sz lk).2.2) (P 6) (P 7) dr (P 8) (P 9) (P 10) (P 11) gn).1 f))))), (8, .int (nI (pcN j))), (7, .int (nI j)), (6, .int (nI (pcN q))), (4, .int 1), (0, .ref (aM 0)), (1, .int (nI b)), (2, .int (nI q)), (3, .int (nI f))]) C dX7_share_155 rfl (by decide) rfl ?_
        refine pt_iinc (pc' := 160) (v := nI (j + 1)) (lv' := [(7, .int (nI (j + 1))), (5, .int ((itz (smS (fun x => liX n k (P 0) (P 4) (P 5) (P 1) sz lk (P 6) (P 7) dr (P 8) (P 9) (P 10) (P 11) gn x f) q b) j 0) + (((fac (pcN j)) * (fac (pcN q - 1 - pcN j))) * ((ln (rpY n k (P 0) (P 4) (P 5) ((laX ((nI j) ||| (1 <<< ((nI b) &&& 31))) n (P 1) sz lk).1) ((laX ((nI j) ||| (1 <<< ((nI b) &&& 31))) n (P 1) sz lk).2.1) ((laX ((nI j) ||| (1 <<< ((nI b) &&& 31))) n (P 1) sz lk).2.2) (P 6) (P 7) dr (P 8) (P 9) (P 10) (P 11) gn).1 f) - (ln (rpY n k (P 0) (P 4) (P 5) ((laX (nI j) n (P 1) sz lk).1) ((laX (nI j) n (P 1) sz lk).2.1) ((laX (nI j) n (P 1) sz lk).2.2) (P 6) (P 7) dr (P 8) (P 9) (P 10) (P 11) gn).1 f))))), (8, .int (nI (pcN j))), (6, .int (nI (pcN q))), (4, .int 1), (0, .ref (aM 0)), (1, .int (nI b)), (2, .int (nI q)), (3, .int (nI f))]) C dX7_share_157 rfl 2 rfl (nI_1 _) (by decide) rfl ?_
        refine pt_goto (pc' := 83) C dX7_share_160 (by decide) ?_
        exact pt_cv (rfl) [0, 3, 1, 4, 5, 6, 7, 8] (by simp only [itz_s, smS, if_pos h_97, if_pos h_106]; rfl) rfl (ih_83 (trivial) (u_149.1, u_149.2.1, u_149.2.2.1, u_149.2.2.2.1, u_149.2.2.2.2.1, u_149.2.2.2.2.2.1, u_149.2.2.2.2.2.2))
  refine pt_iload (pc' := 85) C dX7_share_83 rfl 0 rfl ?_
  refine pt_sipush (pc' := 88) C dX7_share_85 rfl (v := 8192) (by decide) ?_
  refine pt_icmp_ge (pc' := 91) (tgt := 163) C dX7_share_88 (by decide) rfl (fun h_88 => ?_) (fun h_88 => absurd (nI_le (Nat.le_refl 8192) (by decide)) h_88)
  refine pt_iload (pc' := 165) C dX7_share_163 rfl 2 rfl ?_
  exact pt_iretE C hr hk dX7_share_165 (rfl) (rfl) (u_83.1, u_83.2.1, u_83.2.2.1, u_83.2.2.2.1, u_83.2.2.2.2.1, u_83.2.2.2.2.2.1, u_83.2.2.2.2.2.2) (rfl)

set_option maxHeartbeats 4000000 in
set_option maxRecDepth 100000 in
theorem mX7_share_no (l : Launch) (D : va_G) (cA : ClassId) (aM : Nat → Nat) (th : Int32) (n : Nat) (it : Int32) (k : Int32) (td : Nat) (gn : Nat) (dr : Nat) (wk : Nat) (sv : Nat) (P : Nat → Nat → Int32) (sd : Nat → Int32) (se : Nat → Int32) (sc : Nat → Int32) (ba : Nat → Int32) (pa : Nat → Int32) (le : Nat → Int32) (mo : Nat → Int32) (b : Int32) (x : Int32) (y : Int32) (hn : 2 ≤ n) (hm : n ≤ 12) (hno : okShM n (P 1) x b y = false) : mt_I l yX7_share wsX7_share { frames := 3, cells := 0, slots := 0, locals := 66 } D [(cA, .int)] [.ref (aM 0), .int b, .int x, .int y] (wM cA aM th n it k td gn dr wk sv P sd se sc ba pa le mo) (0) (wM cA aM 1 n it k td gn dr wk sv P sd se sc ba pa le mo) := by
  refine mt_ofI (cc := cX7_share) (maxL := 9) (ret := (some .int)) (lv := [(0, .ref (aM 0)), (1, .int b), (2, .int x), (3, .int y)]) (by decide) rfl (Nat.le_of_ble_eq_true rfl) rfl ?_
  intro p e s m args below meth c A C hr hk
  have f_1 := C.hts (.fieldLink RX7 1 "ShoreFieldsModel" "thrown" "I") (by decide +kernel)
  have in_7 : ∀ w ∈ u_ws RX7 TX7 37, w ∈ wsX7_share := by decide +kernel
  refine pt_aload_n (pc' := 1) C dX7_share_0 rfl 0 rfl ?_
  refine pt_iload_n (pc' := 2) C dX7_share_1 rfl 3 rfl ?_
  refine pt_cvI0 (pc' := 5) (w1 := wM cA aM th n it k td gn dr wk sv P sd se sc ba pa le mo) (As := [.int y]) (rest := []) C (mX7_isField l D cA aM th n it k td gn dr wk sv P sd se sc ba pa le mo y (hn) (hm)) (cwV 1 C.hts gX7_share_X7_isField rfl rfl rfl (by decide +kernel) ⟨Nat.le_of_ble_eq_true rfl, Nat.le_of_ble_eq_true rfl⟩) dX7_share_2 rfl 0 rfl rfl rfl rfl rfl (Nat.le_of_ble_eq_true rfl) ⟨Nat.le_of_ble_eq_true rfl, Nat.le_of_ble_eq_true rfl⟩ ?_
  refine pt_if_eq (pc' := 8) (tgt := 45) C dX7_share_5 (by decide) rfl (fun h_5 => ?_) (fun h_5 => ?_)
  · refine pt_iconst (pc' := 46) C dX7_share_45 rfl (v := 0) (by decide) ?_
    refine pt_istore (pc' := 48) (lv' := [(4, .int 0), (0, .ref (aM 0)), (1, .int b), (2, .int x), (3, .int y)]) C dX7_share_46 rfl (by decide) rfl ?_
    refine pt_aload_n (pc' := 49) C dX7_share_48 rfl 1 rfl ?_
    refine pt_iload (pc' := 51) C dX7_share_49 rfl 0 rfl ?_
    refine pt_if_eq (pc' := 54) (tgt := 58) C dX7_share_51 (by decide) rfl (fun h_51 => ?_) (fun h_51 => absurd (by decide) h_51)
    refine pt_iconst (pc' := 59) C dX7_share_58 rfl (v := 1) (by decide) ?_
    refine pt_put (pc' := 62) (ty := .int) (ws' := wM cA aM 1 n it k td gn dr wk sv P sd se sc ba pa le mo) C in_7 tyX7 tyX7_ok nmX7 dX7_share_59 rfl 0 0 rfl rfl (by decide) f_1 rfl (by decide +kernel) (rfl) (rfl) (Nat.le_of_ble_eq_true rfl) rfl ?_
    refine pt_aload_n (pc' := 63) C dX7_share_62 rfl 1 rfl ?_
    refine pt_get (pc' := 66) C in_7 dX7_share_63 rfl 0 0 rfl rfl (by decide) f_1 rfl ?_
    refine pt_if_le (pc' := 69) (tgt := 71) C dX7_share_66 (by decide) rfl (fun h_66 => absurd h_66 (by decide)) (fun h_66 => ?_)
    refine pt_iconst (pc' := 70) C dX7_share_69 rfl (v := 0) (by decide) ?_
    exact pt_iret C hr hk dX7_share_70 (rfl) (rfl) (rfl)
  · refine pt_aload_n (pc' := 9) C dX7_share_8 rfl 0 rfl ?_
    refine pt_iload_n (pc' := 10) C dX7_share_9 rfl 2 rfl ?_
    refine pt_cvI0 (pc' := 13) (w1 := wM cA aM th n it k td gn dr wk sv P sd se sc ba pa le mo) (As := [.int x]) (rest := []) C (mX7_areGroynes l D cA aM th n it k td gn dr wk sv P sd se sc ba pa le mo x (hn) (hm)) (cwV 1 C.hts gX7_share_X7_areGroynes rfl rfl rfl (by decide +kernel) ⟨Nat.le_of_ble_eq_true rfl, Nat.le_of_ble_eq_true rfl⟩) dX7_share_10 rfl 0 rfl rfl rfl rfl rfl (Nat.le_of_ble_eq_true rfl) ⟨Nat.le_of_ble_eq_true rfl, Nat.le_of_ble_eq_true rfl⟩ ?_
    refine pt_if_eq (pc' := 16) (tgt := 45) C dX7_share_13 (by decide) rfl (fun h_13 => ?_) (fun h_13 => ?_)
    · refine pt_iconst (pc' := 46) C dX7_share_45 rfl (v := 0) (by decide) ?_
      refine pt_istore (pc' := 48) (lv' := [(4, .int 0), (0, .ref (aM 0)), (1, .int b), (2, .int x), (3, .int y)]) C dX7_share_46 rfl (by decide) rfl ?_
      refine pt_aload_n (pc' := 49) C dX7_share_48 rfl 1 rfl ?_
      refine pt_iload (pc' := 51) C dX7_share_49 rfl 0 rfl ?_
      refine pt_if_eq (pc' := 54) (tgt := 58) C dX7_share_51 (by decide) rfl (fun h_51 => ?_) (fun h_51 => absurd (by decide) h_51)
      refine pt_iconst (pc' := 59) C dX7_share_58 rfl (v := 1) (by decide) ?_
      refine pt_put (pc' := 62) (ty := .int) (ws' := wM cA aM 1 n it k td gn dr wk sv P sd se sc ba pa le mo) C in_7 tyX7 tyX7_ok nmX7 dX7_share_59 rfl 0 0 rfl rfl (by decide) f_1 rfl (by decide +kernel) (rfl) (rfl) (Nat.le_of_ble_eq_true rfl) rfl ?_
      refine pt_aload_n (pc' := 63) C dX7_share_62 rfl 1 rfl ?_
      refine pt_get (pc' := 66) C in_7 dX7_share_63 rfl 0 0 rfl rfl (by decide) f_1 rfl ?_
      refine pt_if_le (pc' := 69) (tgt := 71) C dX7_share_66 (by decide) rfl (fun h_66 => absurd h_66 (by decide)) (fun h_66 => ?_)
      refine pt_iconst (pc' := 70) C dX7_share_69 rfl (v := 0) (by decide) ?_
      exact pt_iret C hr hk dX7_share_70 (rfl) (rfl) (rfl)
    · refine pt_iload_n (pc' := 17) C dX7_share_16 rfl 2 rfl ?_
      refine pt_csI0 (pc' := 20) (As := [.int x]) (rest := []) C (mX7_bits l D cA x ) (va_cwS 1 C.hts gX7_share_X7_bits rfl rfl rfl (by decide +kernel) ⟨Nat.le_of_ble_eq_true rfl, Nat.le_of_ble_eq_true rfl⟩) dX7_share_17 rfl rfl rfl (Nat.le_of_ble_eq_true rfl) ⟨Nat.le_of_ble_eq_true rfl, Nat.le_of_ble_eq_true rfl⟩ ?_
      refine pt_iconst (pc' := 21) C dX7_share_20 rfl (v := 4) (by decide) ?_
      refine pt_icmp_gt (pc' := 24) (tgt := 45) C dX7_share_21 (by decide) rfl (fun h_21 => ?_) (fun h_21 => ?_)
      · refine pt_iconst (pc' := 46) C dX7_share_45 rfl (v := 0) (by decide) ?_
        refine pt_istore (pc' := 48) (lv' := [(4, .int 0), (0, .ref (aM 0)), (1, .int b), (2, .int x), (3, .int y)]) C dX7_share_46 rfl (by decide) rfl ?_
        refine pt_aload_n (pc' := 49) C dX7_share_48 rfl 1 rfl ?_
        refine pt_iload (pc' := 51) C dX7_share_49 rfl 0 rfl ?_
        refine pt_if_eq (pc' := 54) (tgt := 58) C dX7_share_51 (by decide) rfl (fun h_51 => ?_) (fun h_51 => absurd (by decide) h_51)
        refine pt_iconst (pc' := 59) C dX7_share_58 rfl (v := 1) (by decide) ?_
        refine pt_put (pc' := 62) (ty := .int) (ws' := wM cA aM 1 n it k td gn dr wk sv P sd se sc ba pa le mo) C in_7 tyX7 tyX7_ok nmX7 dX7_share_59 rfl 0 0 rfl rfl (by decide) f_1 rfl (by decide +kernel) (rfl) (rfl) (Nat.le_of_ble_eq_true rfl) rfl ?_
        refine pt_aload_n (pc' := 63) C dX7_share_62 rfl 1 rfl ?_
        refine pt_get (pc' := 66) C in_7 dX7_share_63 rfl 0 0 rfl rfl (by decide) f_1 rfl ?_
        refine pt_if_le (pc' := 69) (tgt := 71) C dX7_share_66 (by decide) rfl (fun h_66 => absurd h_66 (by decide)) (fun h_66 => ?_)
        refine pt_iconst (pc' := 70) C dX7_share_69 rfl (v := 0) (by decide) ?_
        exact pt_iret C hr hk dX7_share_70 (rfl) (rfl) (rfl)
      · refine pt_aload_n (pc' := 25) C dX7_share_24 rfl 0 rfl ?_
        refine pt_iload_n (pc' := 26) C dX7_share_25 rfl 1 rfl ?_
        refine pt_cvI0 (pc' := 29) (w1 := wM cA aM th n it k td gn dr wk sv P sd se sc ba pa le mo) (As := [.int b]) (rest := []) C (mX7_isInner l D cA aM th n it k td gn dr wk sv P sd se sc ba pa le mo b (hn) (hm)) (cwV 1 C.hts gX7_share_X7_isInner rfl rfl rfl (by decide +kernel) ⟨Nat.le_of_ble_eq_true rfl, Nat.le_of_ble_eq_true rfl⟩) dX7_share_26 rfl 0 rfl rfl rfl rfl rfl (Nat.le_of_ble_eq_true rfl) ⟨Nat.le_of_ble_eq_true rfl, Nat.le_of_ble_eq_true rfl⟩ ?_
        refine pt_if_eq (pc' := 32) (tgt := 45) C dX7_share_29 (by decide) rfl (fun h_29 => ?_) (fun h_29 => ?_)
        · refine pt_iconst (pc' := 46) C dX7_share_45 rfl (v := 0) (by decide) ?_
          refine pt_istore (pc' := 48) (lv' := [(4, .int 0), (0, .ref (aM 0)), (1, .int b), (2, .int x), (3, .int y)]) C dX7_share_46 rfl (by decide) rfl ?_
          refine pt_aload_n (pc' := 49) C dX7_share_48 rfl 1 rfl ?_
          refine pt_iload (pc' := 51) C dX7_share_49 rfl 0 rfl ?_
          refine pt_if_eq (pc' := 54) (tgt := 58) C dX7_share_51 (by decide) rfl (fun h_51 => ?_) (fun h_51 => absurd (by decide) h_51)
          refine pt_iconst (pc' := 59) C dX7_share_58 rfl (v := 1) (by decide) ?_
          refine pt_put (pc' := 62) (ty := .int) (ws' := wM cA aM 1 n it k td gn dr wk sv P sd se sc ba pa le mo) C in_7 tyX7 tyX7_ok nmX7 dX7_share_59 rfl 0 0 rfl rfl (by decide) f_1 rfl (by decide +kernel) (rfl) (rfl) (Nat.le_of_ble_eq_true rfl) rfl ?_
          refine pt_aload_n (pc' := 63) C dX7_share_62 rfl 1 rfl ?_
          refine pt_get (pc' := 66) C in_7 dX7_share_63 rfl 0 0 rfl rfl (by decide) f_1 rfl ?_
          refine pt_if_le (pc' := 69) (tgt := 71) C dX7_share_66 (by decide) rfl (fun h_66 => absurd h_66 (by decide)) (fun h_66 => ?_)
          refine pt_iconst (pc' := 70) C dX7_share_69 rfl (v := 0) (by decide) ?_
          exact pt_iret C hr hk dX7_share_70 (rfl) (rfl) (rfl)
        · refine pt_iload_n (pc' := 33) C dX7_share_32 rfl 2 rfl ?_
          refine pt_iload_n (pc' := 34) C dX7_share_33 rfl 1 rfl ?_
          refine pt_ishr (pc' := 35) C dX7_share_34 rfl ?_
          refine pt_iconst (pc' := 36) C dX7_share_35 rfl (v := 1) (by decide) ?_
          refine pt_iand (pc' := 37) C dX7_share_36 rfl ?_
          refine pt_iconst (pc' := 38) C dX7_share_37 rfl (v := 1) (by decide) ?_
          refine pt_icmp_ne (pc' := 41) (tgt := 45) C dX7_share_38 (by decide) rfl (fun h_38 => ?_) (fun h_38 => ?_)
          · refine pt_iconst (pc' := 46) C dX7_share_45 rfl (v := 0) (by decide) ?_
            refine pt_istore (pc' := 48) (lv' := [(4, .int 0), (0, .ref (aM 0)), (1, .int b), (2, .int x), (3, .int y)]) C dX7_share_46 rfl (by decide) rfl ?_
            refine pt_aload_n (pc' := 49) C dX7_share_48 rfl 1 rfl ?_
            refine pt_iload (pc' := 51) C dX7_share_49 rfl 0 rfl ?_
            refine pt_if_eq (pc' := 54) (tgt := 58) C dX7_share_51 (by decide) rfl (fun h_51 => ?_) (fun h_51 => absurd (by decide) h_51)
            refine pt_iconst (pc' := 59) C dX7_share_58 rfl (v := 1) (by decide) ?_
            refine pt_put (pc' := 62) (ty := .int) (ws' := wM cA aM 1 n it k td gn dr wk sv P sd se sc ba pa le mo) C in_7 tyX7 tyX7_ok nmX7 dX7_share_59 rfl 0 0 rfl rfl (by decide) f_1 rfl (by decide +kernel) (rfl) (rfl) (Nat.le_of_ble_eq_true rfl) rfl ?_
            refine pt_aload_n (pc' := 63) C dX7_share_62 rfl 1 rfl ?_
            refine pt_get (pc' := 66) C in_7 dX7_share_63 rfl 0 0 rfl rfl (by decide) f_1 rfl ?_
            refine pt_if_le (pc' := 69) (tgt := 71) C dX7_share_66 (by decide) rfl (fun h_66 => absurd h_66 (by decide)) (fun h_66 => ?_)
            refine pt_iconst (pc' := 70) C dX7_share_69 rfl (v := 0) (by decide) ?_
            exact pt_iret C hr hk dX7_share_70 (rfl) (rfl) (rfl)
          · exact absurd hno (by simp [okShM, bI_t h_5, bI_t h_13, if_neg h_21, bI_t h_29, if_pos h_38])
