set_option maxHeartbeats 4000000 in
set_option maxRecDepth 100000 in
theorem mJ6_bitCount_0f7a4 (l : Launch) (D : va_G) (cA : ClassId) (x : Int32) : mt_I l yJ6_bitCount_0f7a4 wsJ6_bitCount_0f7a4 { frames := 0, cells := 0, slots := 0, locals := 0 } D [(cA, .int)] [.int x] ([]) (bc x) ([]) := by
  refine mt_ofIF (cc := cJ6_bitCount_0f7a4) (maxL := 1) (ret := (some .int)) (lv := [(0, .int x)]) (by decide) rfl (Nat.le_of_ble_eq_true rfl) rfl ?_
  intro p e s m args below meth c A C hr hk
  have k_265 := C.hts (.constant RJ6 265 (1431655765)) (by decide +kernel)
  have k_266 := C.hts (.constant RJ6 266 (858993459)) (by decide +kernel)
  have k_267 := C.hts (.constant RJ6 267 (252645135)) (by decide +kernel)
  refine pt_iload_n (pc' := 1) C dJ6_bitCount_0f7a4_0 rfl 0 rfl ?_
  refine pt_iload_n (pc' := 2) C dJ6_bitCount_0f7a4_1 rfl 0 rfl ?_
  refine pt_iconst (pc' := 3) C dJ6_bitCount_0f7a4_2 rfl (v := 1) (by decide) ?_
  refine pt_iushr (pc' := 4) C dJ6_bitCount_0f7a4_3 rfl ?_
  refine pt_ldcw (pc' := 7) C dJ6_bitCount_0f7a4_4 rfl k_265 ?_
  refine pt_iand (pc' := 8) C dJ6_bitCount_0f7a4_7 rfl ?_
  refine pt_isub (pc' := 9) C dJ6_bitCount_0f7a4_8 rfl ?_
  refine pt_istore_n (pc' := 10) (lv' := [(0, .int (x - ((ush x 1) &&& 1431655765)))]) C dJ6_bitCount_0f7a4_9 rfl rfl (by decide) rfl ?_
  refine pt_iload_n (pc' := 11) C dJ6_bitCount_0f7a4_10 rfl 0 rfl ?_
  refine pt_ldcw (pc' := 14) C dJ6_bitCount_0f7a4_11 rfl k_266 ?_
  refine pt_iand (pc' := 15) C dJ6_bitCount_0f7a4_14 rfl ?_
  refine pt_iload_n (pc' := 16) C dJ6_bitCount_0f7a4_15 rfl 0 rfl ?_
  refine pt_iconst (pc' := 17) C dJ6_bitCount_0f7a4_16 rfl (v := 2) (by decide) ?_
  refine pt_iushr (pc' := 18) C dJ6_bitCount_0f7a4_17 rfl ?_
  refine pt_ldcw (pc' := 21) C dJ6_bitCount_0f7a4_18 rfl k_266 ?_
  refine pt_iand (pc' := 22) C dJ6_bitCount_0f7a4_21 rfl ?_
  refine pt_iadd (pc' := 23) C dJ6_bitCount_0f7a4_22 rfl ?_
  refine pt_istore_n (pc' := 24) (lv' := [(0, .int (((x - ((ush x 1) &&& 1431655765)) &&& 858993459) + ((ush (x - ((ush x 1) &&& 1431655765)) 2) &&& 858993459)))]) C dJ6_bitCount_0f7a4_23 rfl rfl (by decide) rfl ?_
  refine pt_iload_n (pc' := 25) C dJ6_bitCount_0f7a4_24 rfl 0 rfl ?_
  refine pt_iload_n (pc' := 26) C dJ6_bitCount_0f7a4_25 rfl 0 rfl ?_
  refine pt_iconst (pc' := 27) C dJ6_bitCount_0f7a4_26 rfl (v := 4) (by decide) ?_
  refine pt_iushr (pc' := 28) C dJ6_bitCount_0f7a4_27 rfl ?_
  refine pt_iadd (pc' := 29) C dJ6_bitCount_0f7a4_28 rfl ?_
  refine pt_ldcw (pc' := 32) C dJ6_bitCount_0f7a4_29 rfl k_267 ?_
  refine pt_iand (pc' := 33) C dJ6_bitCount_0f7a4_32 rfl ?_
  refine pt_istore_n (pc' := 34) (lv' := [(0, .int (((((x - ((ush x 1) &&& 1431655765)) &&& 858993459) + ((ush (x - ((ush x 1) &&& 1431655765)) 2) &&& 858993459)) + (ush (((x - ((ush x 1) &&& 1431655765)) &&& 858993459) + ((ush (x - ((ush x 1) &&& 1431655765)) 2) &&& 858993459)) 4)) &&& 252645135))]) C dJ6_bitCount_0f7a4_33 rfl rfl (by decide) rfl ?_
  refine pt_iload_n (pc' := 35) C dJ6_bitCount_0f7a4_34 rfl 0 rfl ?_
  refine pt_iload_n (pc' := 36) C dJ6_bitCount_0f7a4_35 rfl 0 rfl ?_
  refine pt_bipush (pc' := 38) C dJ6_bitCount_0f7a4_36 rfl (v := 8) (by decide) ?_
  refine pt_iushr (pc' := 39) C dJ6_bitCount_0f7a4_38 rfl ?_
  refine pt_iadd (pc' := 40) C dJ6_bitCount_0f7a4_39 rfl ?_
  refine pt_istore_n (pc' := 41) (lv' := [(0, .int ((((((x - ((ush x 1) &&& 1431655765)) &&& 858993459) + ((ush (x - ((ush x 1) &&& 1431655765)) 2) &&& 858993459)) + (ush (((x - ((ush x 1) &&& 1431655765)) &&& 858993459) + ((ush (x - ((ush x 1) &&& 1431655765)) 2) &&& 858993459)) 4)) &&& 252645135) + (ush (((((x - ((ush x 1) &&& 1431655765)) &&& 858993459) + ((ush (x - ((ush x 1) &&& 1431655765)) 2) &&& 858993459)) + (ush (((x - ((ush x 1) &&& 1431655765)) &&& 858993459) + ((ush (x - ((ush x 1) &&& 1431655765)) 2) &&& 858993459)) 4)) &&& 252645135) 8)))]) C dJ6_bitCount_0f7a4_40 rfl rfl (by decide) rfl ?_
  refine pt_iload_n (pc' := 42) C dJ6_bitCount_0f7a4_41 rfl 0 rfl ?_
  refine pt_iload_n (pc' := 43) C dJ6_bitCount_0f7a4_42 rfl 0 rfl ?_
  refine pt_bipush (pc' := 45) C dJ6_bitCount_0f7a4_43 rfl (v := 16) (by decide) ?_
  refine pt_iushr (pc' := 46) C dJ6_bitCount_0f7a4_45 rfl ?_
  refine pt_iadd (pc' := 47) C dJ6_bitCount_0f7a4_46 rfl ?_
  refine pt_istore_n (pc' := 48) (lv' := [(0, .int (((((((x - ((ush x 1) &&& 1431655765)) &&& 858993459) + ((ush (x - ((ush x 1) &&& 1431655765)) 2) &&& 858993459)) + (ush (((x - ((ush x 1) &&& 1431655765)) &&& 858993459) + ((ush (x - ((ush x 1) &&& 1431655765)) 2) &&& 858993459)) 4)) &&& 252645135) + (ush (((((x - ((ush x 1) &&& 1431655765)) &&& 858993459) + ((ush (x - ((ush x 1) &&& 1431655765)) 2) &&& 858993459)) + (ush (((x - ((ush x 1) &&& 1431655765)) &&& 858993459) + ((ush (x - ((ush x 1) &&& 1431655765)) 2) &&& 858993459)) 4)) &&& 252645135) 8)) + (ush ((((((x - ((ush x 1) &&& 1431655765)) &&& 858993459) + ((ush (x - ((ush x 1) &&& 1431655765)) 2) &&& 858993459)) + (ush (((x - ((ush x 1) &&& 1431655765)) &&& 858993459) + ((ush (x - ((ush x 1) &&& 1431655765)) 2) &&& 858993459)) 4)) &&& 252645135) + (ush (((((x - ((ush x 1) &&& 1431655765)) &&& 858993459) + ((ush (x - ((ush x 1) &&& 1431655765)) 2) &&& 858993459)) + (ush (((x - ((ush x 1) &&& 1431655765)) &&& 858993459) + ((ush (x - ((ush x 1) &&& 1431655765)) 2) &&& 858993459)) 4)) &&& 252645135) 8)) 16)))]) C dJ6_bitCount_0f7a4_47 rfl rfl (by decide) rfl ?_
  refine pt_iload_n (pc' := 49) C dJ6_bitCount_0f7a4_48 rfl 0 rfl ?_
  refine pt_bipush (pc' := 51) C dJ6_bitCount_0f7a4_49 rfl (v := 63) (by decide) ?_
  refine pt_iand (pc' := 52) C dJ6_bitCount_0f7a4_51 rfl ?_
  exact pt_iret C hr hk dJ6_bitCount_0f7a4_52 (rfl) (rfl) (rfl)

set_option maxHeartbeats 4000000 in
set_option maxRecDepth 100000 in
theorem mX6_line (l : Launch) (D : va_G) (cA : ClassId) (aX : Nat → Nat) (aB : Nat → Nat) (aT : Nat → Nat) (aN : Nat → Nat) (aG : Nat → Nat) (aW : Nat → Nat) (aD : Nat → Nat) (aO : Nat → Nat) (aV : Nat → Nat) (g : Nat) (t : Int32) (mk : Nat → Int32) (n : Nat) (k : Int32) (bs : Nat → Int32) (wl : Nat → Int32) (fd : Nat → Int32) (kd : Nat → Int32) (sz : Nat → Int32) (lk : Nat → Int32) (sd : Nat → Int32) (se : Nat → Int32) (sc : Nat → Int32) (ba : Nat → Int32) (pa : Nat → Int32) (ch : Nat → Int32) (x : Int32) (hn : 2 ≤ n) (hm : n ≤ 12) (hok : inF n x = true) : mt_I l yX6_line wtX6_line { frames := 1, cells := 0, slots := 0, locals := 21 } D [(cA, .int)] [.ref (aX 0), .int x] (wX cA aX aB aT aN aG aW aD aO aV g t mk ++ wB cA aB n k bs wl fd kd sz lk ++ wS cA aN sd se sc ba pa ch) (ln sd x.toNatClampNeg) (wX cA aX aB aT aN aG aW aD aO aV g t mk ++ wB cA aB n k bs wl fd kd sz lk ++ wS cA aN sd se sc ba pa ch) := by
  refine mt_ofI (cc := cX6_line) (maxL := 2) (ret := (some .int)) (lv := [(0, .ref (aX 0)), (1, .int x)]) (by decide) rfl (Nat.le_of_ble_eq_true rfl) rfl ?_
  intro p e s m args below meth c A C hr hk
  have f_12 := C.hts (.fieldLink RX6 12 "ShoreFields" "begin" "LShoreFields$Begin;") (by decide +kernel)
  have in_6 : ∀ w ∈ u_ws RX6 TX6 11, w ∈ wtX6_line := by decide +kernel
  have f_22 := C.hts (.fieldLink RX6 22 "ShoreFields" "now" "LShoreFields$Shore;") (by decide +kernel)
  refine pt_aload_n (pc' := 1) C dX6_line_0 rfl 0 rfl ?_
  refine pt_get (pc' := 4) C in_6 dX6_line_1 rfl 0 0 rfl rfl (by decide) f_12 rfl ?_
  refine pt_iload_n (pc' := 5) C dX6_line_4 rfl 1 rfl ?_
  refine pt_cvI (pc' := 8) (ws' := wX cA aX aB aT aN aG aW aD aO aV g t mk ++ wB cA aB n k bs wl fd kd sz lk ++ wS cA aN sd se sc ba pa ch) (wr := wX cA aX aB aT aN aG aW aD aO aV g t mk ++ wS cA aN sd se sc ba pa ch) (As := [.int x]) (rest := []) C (mX0_hasField l D cA aB n k bs wl fd kd sz lk x ) (cwV 1 C.hts hX6_line_X0_hasField rfl rfl rfl (by decide +kernel) ⟨Nat.le_of_ble_eq_true rfl, Nat.le_of_ble_eq_true rfl⟩) dX6_line_5 rfl 2 rfl rfl rfl rfl rfl (Nat.le_of_ble_eq_true rfl) ⟨Nat.le_of_ble_eq_true rfl, Nat.le_of_ble_eq_true rfl⟩ [2, 3, 4, 5, 6, 7, 8] [0, 1, 9, 10, 11, 12, 13, 14, 15] [0, 1, 9, 10, 11, 12, 13, 14, 15, 2, 3, 4, 5, 6, 7, 8] rfl (by decide) rfl (by decide) (by decide) rfl (by decide) ?_
  refine pt_if_ne (pc' := 11) (tgt := 21) C dX6_line_8 (by decide) rfl (fun h_8 => ?_) (fun h_8 => absurd h_8 (fun z => absurd (bI_f z) (by rw [hok]; decide)))
  refine pt_aload_n (pc' := 22) C dX6_line_21 rfl 0 rfl ?_
  refine pt_get (pc' := 25) C in_6 dX6_line_22 rfl 0 2 rfl rfl (by decide) f_22 rfl ?_
  refine pt_iload_n (pc' := 26) C dX6_line_25 rfl 1 rfl ?_
  refine pt_eq (st' := [.int (nI x.toNatClampNeg), .ref (aN 0)]) rfl rfl (by rw [← (inF_in hm hok).1]) ?_
  refine pt_cvI (pc' := 29) (ws' := wX cA aX aB aT aN aG aW aD aO aV g t mk ++ wB cA aB n k bs wl fd kd sz lk ++ wS cA aN sd se sc ba pa ch) (wr := wX cA aX aB aT aN aG aW aD aO aV g t mk ++ wB cA aB n k bs wl fd kd sz lk) (As := [.int (nI x.toNatClampNeg)]) (rest := []) C (mX2_lineOf l D cA aN sd se sc ba pa ch x.toNatClampNeg (by have := (inF_in hm hok).2; omega)) (cwV 1 C.hts hX6_line_X2_lineOf rfl rfl rfl (by decide +kernel) ⟨Nat.le_of_ble_eq_true rfl, Nat.le_of_ble_eq_true rfl⟩) dX6_line_26 rfl 9 rfl rfl rfl rfl rfl (Nat.le_of_ble_eq_true rfl) ⟨Nat.le_of_ble_eq_true rfl, Nat.le_of_ble_eq_true rfl⟩ [9, 10, 11, 12, 13, 14, 15] [0, 1, 2, 3, 4, 5, 6, 7, 8] [0, 1, 2, 3, 4, 5, 6, 7, 8, 9, 10, 11, 12, 13, 14, 15] rfl (by decide) rfl (by decide) (by decide) rfl (by decide) ?_
  exact pt_iret C hr hk dX6_line_29 (rfl) (rfl) (rfl)

set_option maxHeartbeats 4000000 in
set_option maxRecDepth 100000 in
theorem mX6_share (l : Launch) (D : va_G) (cA : ClassId) (aX : Nat → Nat) (aB : Nat → Nat) (aT : Nat → Nat) (aN : Nat → Nat) (aG : Nat → Nat) (aW : Nat → Nat) (aD : Nat → Nat) (aO : Nat → Nat) (aV : Nat → Nat) (g : Nat) (t : Int32) (mk : Nat → Int32) (n : Nat) (k : Int32) (bs : Nat → Int32) (wl : Nat → Int32) (fd : Nat → Int32) (kd : Nat → Int32) (sz : Nat → Int32) (lk : Nat → Int32) (tn : Nat) (tq : Int32) (tbs : Nat → Int32) (twl : Nat → Int32) (tfd : Nat → Int32) (tkd : Nat → Int32) (tsz : Nat → Int32) (tlk : Nat → Int32) (gsd : Nat → Int32) (gse : Nat → Int32) (gsc : Nat → Int32) (gba : Nat → Int32) (gpa : Nat → Int32) (gch : Nat → Int32) (td : Nat) (he : Nat → Int32) (si : Nat → Int32) (dr : Nat) (db : Nat → Int32) (du : Nat → Int32) (df : Nat → Int32) (dw : Nat → Int32) (b : Nat) (q : Nat) (f : Nat) (o : Nat) (hn : 2 ≤ n) (hm : n ≤ 12) (hg : g ≤ 120) (hS : ∀ w, w < g → si w = 0 ∨ si w = 1 ∨ si w = 2) (hr2 : dr ≤ 20) (hD : ∀ i, i < dr → dOk db df i) (hf : f < n) (hok1 : inF n (nI f) = true) (hok2 : hasG n kd (nI q) = true) (hok3 : pcN q ≤ 4) (hq : q < 4096) (hb : b < 13) (hok4 : inBd n (nI b) = true) (hok5 : ¬ nI q &&& (1 <<< (nI b &&& 31)) = 0) (ho : nI q &&& (nI (2 ^ b) ^^^ (-1)) = nI o) (ho2 : o < 4096) (hpc : ∀ j, j ≤ o → nI j &&& nI o = nI j → pcN j ≤ pcN o) : mt_IE l yX6_share wtX6_share { frames := 7, cells := 0, slots := 0, locals := 198 } D [(cA, .int)] [.ref (aX 0), .int (nI b), .int (nI q), .int (nI f)] (wX cA aX aB aT aN aG aW aD aO aV g t mk ++ wB cA aB n k bs wl fd kd sz lk ++ wB cA aT tn tq tbs twl tfd tkd tsz tlk ++ wS cA aG gsd gse gsc gba gpa gch ++ wW cA aW td he si ++ wD cA aD dr db du df dw) (itz (shS (fun x => liX n k bs wl fd kd sz lk he si dr db du df dw g x f) o b) (o + 1) 0) (fun u : SX => wX cA aX aB aT aN aG aW aD aO aV g t mk ++ wB cA aB n k bs wl fd kd sz lk ++ wB cA aT u.1 u.2.1 u.2.2.1 u.2.2.2.1 u.2.2.2.2.1 u.2.2.2.2.2.1 u.2.2.2.2.2.2.1 u.2.2.2.2.2.2.2.1 ++ wS cA aG u.2.2.2.2.2.2.2.2.1 u.2.2.2.2.2.2.2.2.2.1 u.2.2.2.2.2.2.2.2.2.2.1 u.2.2.2.2.2.2.2.2.2.2.2.1 u.2.2.2.2.2.2.2.2.2.2.2.2.1 u.2.2.2.2.2.2.2.2.2.2.2.2.2 ++ wW cA aW td he si ++ wD cA aD dr db du df dw) := by
  refine mt_ofIE (cc := cX6_share) (maxL := 11) (ret := (some .int)) (lv := [(0, .ref (aX 0)), (1, .int (nI b)), (2, .int (nI q)), (3, .int (nI f))]) (by decide) rfl (Nat.le_of_ble_eq_true rfl) rfl ?_
  intro p e s m args below meth c A C hr hk
  have f_12 := C.hts (.fieldLink RX6 12 "ShoreFields" "begin" "LShoreFields$Begin;") (by decide +kernel)
  have in_6 : ∀ w ∈ u_ws RX6 TX6 11, w ∈ wtX6_share := by decide +kernel
  refine pt_aload_n (pc' := 1) C dX6_share_0 rfl 0 rfl ?_
  refine pt_get (pc' := 4) C in_6 dX6_share_1 rfl 0 0 rfl rfl (by decide) f_12 rfl ?_
  refine pt_iload_n (pc' := 5) C dX6_share_4 rfl 3 rfl ?_
  refine pt_cvI (pc' := 8) (ws' := wX cA aX aB aT aN aG aW aD aO aV g t mk ++ wB cA aB n k bs wl fd kd sz lk ++ wB cA aT tn tq tbs twl tfd tkd tsz tlk ++ wS cA aG gsd gse gsc gba gpa gch ++ wW cA aW td he si ++ wD cA aD dr db du df dw) (wr := wX cA aX aB aT aN aG aW aD aO aV g t mk ++ wB cA aT tn tq tbs twl tfd tkd tsz tlk ++ wS cA aG gsd gse gsc gba gpa gch ++ wW cA aW td he si ++ wD cA aD dr db du df dw) (As := [.int (nI f)]) (rest := []) C (mX0_hasField l D cA aB n k bs wl fd kd sz lk (nI f) ) (cwV 1 C.hts hX6_share_X0_hasField rfl rfl rfl (by decide +kernel) ⟨Nat.le_of_ble_eq_true rfl, Nat.le_of_ble_eq_true rfl⟩) dX6_share_5 rfl 2 rfl rfl rfl rfl rfl (Nat.le_of_ble_eq_true rfl) ⟨Nat.le_of_ble_eq_true rfl, Nat.le_of_ble_eq_true rfl⟩ [2, 3, 4, 5, 6, 7, 8] [0, 1, 9, 10, 11, 12, 13, 14, 15, 16, 17, 18, 19, 20, 21, 22, 23, 24, 25, 26, 27, 28, 29, 30] [0, 1, 24, 25, 26, 27, 28, 29, 30, 2, 3, 4, 5, 6, 7, 8, 9, 10, 11, 12, 13, 14, 15, 16, 17, 18, 19, 20, 21, 22, 23] rfl (by decide) rfl (by decide) (by decide) rfl (by decide) ?_
  refine pt_if_eq (pc' := 11) (tgt := 30) C dX6_share_8 (by decide) rfl (fun h_8 => absurd h_8 (fun z => absurd (bI_f z) (by rw [hok1]; decide))) (fun h_8 => ?_)
  refine pt_aload_n (pc' := 12) C dX6_share_11 rfl 0 rfl ?_
  refine pt_get (pc' := 15) C in_6 dX6_share_12 rfl 0 0 rfl rfl (by decide) f_12 rfl ?_
  refine pt_iload_n (pc' := 16) C dX6_share_15 rfl 2 rfl ?_
  refine pt_cvI (pc' := 19) (ws' := wX cA aX aB aT aN aG aW aD aO aV g t mk ++ wB cA aB n k bs wl fd kd sz lk ++ wB cA aT tn tq tbs twl tfd tkd tsz tlk ++ wS cA aG gsd gse gsc gba gpa gch ++ wW cA aW td he si ++ wD cA aD dr db du df dw) (wr := wX cA aX aB aT aN aG aW aD aO aV g t mk ++ wB cA aT tn tq tbs twl tfd tkd tsz tlk ++ wS cA aG gsd gse gsc gba gpa gch ++ wW cA aW td he si ++ wD cA aD dr db du df dw) (As := [.int (nI q)]) (rest := []) C (mX0_hasGroynes l D cA aB n k bs wl fd kd sz lk (nI q) (hn) (hm)) (cwV 1 C.hts hX6_share_X0_hasGroynes rfl rfl rfl (by decide +kernel) ⟨Nat.le_of_ble_eq_true rfl, Nat.le_of_ble_eq_true rfl⟩) dX6_share_16 rfl 2 rfl rfl rfl rfl rfl (Nat.le_of_ble_eq_true rfl) ⟨Nat.le_of_ble_eq_true rfl, Nat.le_of_ble_eq_true rfl⟩ [2, 3, 4, 5, 6, 7, 8] [0, 1, 9, 10, 11, 12, 13, 14, 15, 16, 17, 18, 19, 20, 21, 22, 23, 24, 25, 26, 27, 28, 29, 30] [0, 1, 24, 25, 26, 27, 28, 29, 30, 2, 3, 4, 5, 6, 7, 8, 9, 10, 11, 12, 13, 14, 15, 16, 17, 18, 19, 20, 21, 22, 23] rfl (by decide) rfl (by decide) (by decide) rfl (by decide) ?_
  refine pt_if_eq (pc' := 22) (tgt := 30) C dX6_share_19 (by decide) rfl (fun h_19 => absurd h_19 (fun z => absurd (bI_f z) (by rw [hok2]; decide))) (fun h_19 => ?_)
  refine pt_iload_n (pc' := 23) C dX6_share_22 rfl 2 rfl ?_
  refine pt_csI0 (pc' := 26) (As := [.int (nI q)]) (rest := []) C (mJ6_bitCount_0f7a4 l D cA (nI q) ) (va_cwS 1 C.hts hX6_share_J6_bitCount_0f7a4 rfl rfl rfl (by decide +kernel) ⟨Nat.le_of_ble_eq_true rfl, Nat.le_of_ble_eq_true rfl⟩) dX6_share_23 rfl rfl rfl (Nat.le_of_ble_eq_true rfl) ⟨Nat.le_of_ble_eq_true rfl, Nat.le_of_ble_eq_true rfl⟩ ?_
  refine pt_iconst (pc' := 27) C dX6_share_26 rfl (v := 4) (by decide) ?_
  refine pt_icmp_le (pc' := 30) (tgt := 40) C dX6_share_27 (by decide) rfl (fun h_27 => ?_) (fun h_27 => absurd (by rw [bc_pc hq]; exact nI_le (b := 4) hok3 (by decide)) h_27)
  refine pt_aload_n (pc' := 41) C dX6_share_40 rfl 0 rfl ?_
  refine pt_get (pc' := 44) C in_6 dX6_share_41 rfl 0 0 rfl rfl (by decide) f_12 rfl ?_
  refine pt_iload_n (pc' := 45) C dX6_share_44 rfl 1 rfl ?_
  refine pt_cvI (pc' := 48) (ws' := wX cA aX aB aT aN aG aW aD aO aV g t mk ++ wB cA aB n k bs wl fd kd sz lk ++ wB cA aT tn tq tbs twl tfd tkd tsz tlk ++ wS cA aG gsd gse gsc gba gpa gch ++ wW cA aW td he si ++ wD cA aD dr db du df dw) (wr := wX cA aX aB aT aN aG aW aD aO aV g t mk ++ wB cA aT tn tq tbs twl tfd tkd tsz tlk ++ wS cA aG gsd gse gsc gba gpa gch ++ wW cA aW td he si ++ wD cA aD dr db du df dw) (As := [.int (nI b)]) (rest := []) C (mX0_hasBorder l D cA aB n k bs wl fd kd sz lk (nI b) ) (cwV 1 C.hts hX6_share_X0_hasBorder rfl rfl rfl (by decide +kernel) ⟨Nat.le_of_ble_eq_true rfl, Nat.le_of_ble_eq_true rfl⟩) dX6_share_45 rfl 2 rfl rfl rfl rfl rfl (Nat.le_of_ble_eq_true rfl) ⟨Nat.le_of_ble_eq_true rfl, Nat.le_of_ble_eq_true rfl⟩ [2, 3, 4, 5, 6, 7, 8] [0, 1, 9, 10, 11, 12, 13, 14, 15, 16, 17, 18, 19, 20, 21, 22, 23, 24, 25, 26, 27, 28, 29, 30] [0, 1, 24, 25, 26, 27, 28, 29, 30, 2, 3, 4, 5, 6, 7, 8, 9, 10, 11, 12, 13, 14, 15, 16, 17, 18, 19, 20, 21, 22, 23] rfl (by decide) rfl (by decide) (by decide) rfl (by decide) ?_
  refine pt_if_eq (pc' := 51) (tgt := 59) C dX6_share_48 (by decide) rfl (fun h_48 => absurd h_48 (fun z => absurd (bI_f z) (by rw [hok4]; decide))) (fun h_48 => ?_)
  refine pt_iload_n (pc' := 52) C dX6_share_51 rfl 2 rfl ?_
  refine pt_iconst (pc' := 53) C dX6_share_52 rfl (v := 1) (by decide) ?_
  refine pt_iload_n (pc' := 54) C dX6_share_53 rfl 1 rfl ?_
  refine pt_ishl (pc' := 55) C dX6_share_54 rfl ?_
  refine pt_iand (pc' := 56) C dX6_share_55 rfl ?_
  refine pt_if_ne (pc' := 59) (tgt := 69) C dX6_share_56 (by decide) rfl (fun h_56 => ?_) (fun h_56 => absurd h_56 (hok5))
  refine pt_iconst (pc' := 70) C dX6_share_69 rfl (v := 1) (by decide) ?_
  refine pt_iload_n (pc' := 71) C dX6_share_70 rfl 1 rfl ?_
  refine pt_ishl (pc' := 72) C dX6_share_71 rfl ?_
  refine pt_eq (st' := [.int (nI (2 ^ b))]) rfl rfl (by rw [sh_pw hb]) ?_
  refine pt_istore (pc' := 74) (lv' := [(4, .int (nI (2 ^ b))), (0, .ref (aX 0)), (1, .int (nI b)), (2, .int (nI q)), (3, .int (nI f))]) C dX6_share_72 rfl (by decide) rfl ?_
  refine pt_iload_n (pc' := 75) C dX6_share_74 rfl 3 rfl ?_
  refine pt_iload (pc' := 77) C dX6_share_75 rfl 0 rfl ?_
  refine pt_iconst (pc' := 78) C dX6_share_77 rfl (v := -1) (by decide) ?_
  refine pt_ixor (pc' := 79) C dX6_share_78 rfl ?_
  refine pt_iand (pc' := 80) C dX6_share_79 rfl ?_
  refine pt_eq (st' := [.int (nI o)]) rfl rfl (by rw [ho]) ?_
  refine pt_istore (pc' := 82) (lv' := [(5, .int (nI o)), (4, .int (nI (2 ^ b))), (0, .ref (aX 0)), (1, .int (nI b)), (2, .int (nI q)), (3, .int (nI f))]) C dX6_share_80 rfl (by decide) rfl ?_
  refine pt_iload (pc' := 84) C dX6_share_82 rfl 0 rfl ?_
  refine pt_csI0 (pc' := 87) (As := [.int (nI o)]) (rest := []) C (mJ6_bitCount_0f7a4 l D cA (nI o) ) (va_cwS 1 C.hts hX6_share_J6_bitCount_0f7a4 rfl rfl rfl (by decide +kernel) ⟨Nat.le_of_ble_eq_true rfl, Nat.le_of_ble_eq_true rfl⟩) dX6_share_84 rfl rfl rfl (Nat.le_of_ble_eq_true rfl) ⟨Nat.le_of_ble_eq_true rfl, Nat.le_of_ble_eq_true rfl⟩ ?_
  refine pt_eq (st' := [.int (nI (pcN o))]) rfl rfl (by rw [bc_pc ho2]) ?_
  refine pt_istore (pc' := 89) (lv' := [(6, .int (nI (pcN o))), (5, .int (nI o)), (4, .int (nI (2 ^ b))), (0, .ref (aX 0)), (1, .int (nI b)), (2, .int (nI q)), (3, .int (nI f))]) C dX6_share_87 rfl (by decide) rfl ?_
  refine pt_iconst (pc' := 90) C dX6_share_89 rfl (v := 0) (by decide) ?_
  refine pt_istore (pc' := 92) (lv' := [(7, .int 0), (6, .int (nI (pcN o))), (5, .int (nI o)), (4, .int (nI (2 ^ b))), (0, .ref (aX 0)), (1, .int (nI b)), (2, .int (nI q)), (3, .int (nI f))]) C dX6_share_90 rfl (by decide) rfl ?_
  refine pt_iconst (pc' := 93) C dX6_share_92 rfl (v := 0) (by decide) ?_
  refine pt_istore (pc' := 95) (lv' := [(8, .int 0), (7, .int 0), (6, .int (nI (pcN o))), (5, .int (nI o)), (4, .int (nI (2 ^ b))), (0, .ref (aX 0)), (1, .int (nI b)), (2, .int (nI q)), (3, .int (nI f))]) C dX6_share_93 rfl (by decide) rfl ?_
  refine pt_cv (ws' := wX cA aX aB aT aN aG aW aD aO aV g t mk ++ wB cA aB n k bs wl fd kd sz lk ++ wB cA aT tn tq tbs twl tfd tkd tsz tlk ++ wS cA aG gsd gse gsc gba gpa gch ++ wW cA aW td he si ++ wD cA aD dr db du df dw) (lv' := [(8, .int (nI 0)), (7, .int (itz (shS (fun x => liX n k bs wl fd kd sz lk he si dr db du df dw g x f) o b) 0 0)), (6, .int (nI (pcN o))), (5, .int (nI o)), (4, .int (nI (2 ^ b))), (0, .ref (aX 0)), (1, .int (nI b)), (2, .int (nI q)), (3, .int (nI f))]) (rfl) [0, 1, 2, 3, 4, 5, 6, 7, 8] (rfl) rfl ?_
  refine pt_forE (wsf := fun j (u : SX) => wX cA aX aB aT aN aG aW aD aO aV g t mk ++ wB cA aB n k bs wl fd kd sz lk ++ wB cA aT u.1 u.2.1 u.2.2.1 u.2.2.2.1 u.2.2.2.2.1 u.2.2.2.2.2.1 u.2.2.2.2.2.2.1 u.2.2.2.2.2.2.2.1 ++ wS cA aG u.2.2.2.2.2.2.2.2.1 u.2.2.2.2.2.2.2.2.2.1 u.2.2.2.2.2.2.2.2.2.2.1 u.2.2.2.2.2.2.2.2.2.2.2.1 u.2.2.2.2.2.2.2.2.2.2.2.2.1 u.2.2.2.2.2.2.2.2.2.2.2.2.2 ++ wW cA aW td he si ++ wD cA aD dr db du df dw) (lvf := fun j => [(8, .int (nI j)), (7, .int (itz (shS (fun x => liX n k bs wl fd kd sz lk he si dr db du df dw g x f) o b) j 0)), (6, .int (nI (pcN o))), (5, .int (nI o)), (4, .int (nI (2 ^ b))), (0, .ref (aX 0)), (1, .int (nI b)), (2, .int (nI q)), (3, .int (nI f))]) (I := fun j => True) (o + 1) (trivial) (fun hi_95 u_95 => ?_) (fun j hj_95 hi_95 ih_95 u_95 => ?_) (tn, tq, tbs, twl, tfd, tkd, tsz, tlk, gsd, gse, gsc, gba, gpa, gch)
  rotate_left
  · refine pt_iload (pc' := 97) C dX6_share_95 rfl 0 rfl ?_
    refine pt_iload (pc' := 99) C dX6_share_97 rfl 3 rfl ?_
    refine pt_icmp_gt (pc' := 102) (tgt := 167) C dX6_share_99 (by decide) rfl (fun h_99 => absurd h_99 (nI_nlt (show j ≤ o by omega) (by omega))) (fun h_99 => ?_)
    refine pt_iload (pc' := 104) C dX6_share_102 rfl 0 rfl ?_
    refine pt_iload (pc' := 106) C dX6_share_104 rfl 3 rfl ?_
    refine pt_iand (pc' := 107) C dX6_share_106 rfl ?_
    refine pt_iload (pc' := 109) C dX6_share_107 rfl 0 rfl ?_
    refine pt_icmp_ne (pc' := 112) (tgt := 161) C dX6_share_109 (by decide) rfl (fun h_109 => ?_) (fun h_109 => ?_)
    · refine pt_iinc (pc' := 164) (v := nI (j + 1)) (lv' := [(8, .int (nI (j + 1))), (7, .int (itz (shS (fun x => liX n k bs wl fd kd sz lk he si dr db du df dw g x f) o b) j 0)), (6, .int (nI (pcN o))), (5, .int (nI o)), (4, .int (nI (2 ^ b))), (0, .ref (aX 0)), (1, .int (nI b)), (2, .int (nI q)), (3, .int (nI f))]) C dX6_share_161 rfl 0 rfl (nI_1 _) (by decide) rfl ?_
      refine pt_goto (pc' := 95) C dX6_share_164 (by decide) ?_
      exact pt_cv (rfl) [0, 1, 2, 3, 4, 5, 6, 7, 8] (by simp only [itz_s, shS, if_neg h_109]; rfl) rfl (ih_95 (trivial) (u_95.1, u_95.2.1, u_95.2.2.1, u_95.2.2.2.1, u_95.2.2.2.2.1, u_95.2.2.2.2.2.1, u_95.2.2.2.2.2.2.1, u_95.2.2.2.2.2.2.2.1, u_95.2.2.2.2.2.2.2.2.1, u_95.2.2.2.2.2.2.2.2.2.1, u_95.2.2.2.2.2.2.2.2.2.2.1, u_95.2.2.2.2.2.2.2.2.2.2.2.1, u_95.2.2.2.2.2.2.2.2.2.2.2.2.1, u_95.2.2.2.2.2.2.2.2.2.2.2.2.2))
    · refine pt_iload (pc' := 114) C dX6_share_112 rfl 0 rfl ?_
      refine pt_csI0 (pc' := 117) (As := [.int (nI j)]) (rest := []) C (mJ6_bitCount_0f7a4 l D cA (nI j) ) (va_cwS 1 C.hts hX6_share_J6_bitCount_0f7a4 rfl rfl rfl (by decide +kernel) ⟨Nat.le_of_ble_eq_true rfl, Nat.le_of_ble_eq_true rfl⟩) dX6_share_114 rfl rfl rfl (Nat.le_of_ble_eq_true rfl) ⟨Nat.le_of_ble_eq_true rfl, Nat.le_of_ble_eq_true rfl⟩ ?_
      refine pt_eq (st' := [.int (nI (pcN j))]) rfl rfl (by rw [bc_pc (by omega)]) ?_
      refine pt_istore (pc' := 119) (lv' := [(9, .int (nI (pcN j))), (8, .int (nI j)), (7, .int (itz (shS (fun x => liX n k bs wl fd kd sz lk he si dr db du df dw g x f) o b) j 0)), (6, .int (nI (pcN o))), (5, .int (nI o)), (4, .int (nI (2 ^ b))), (0, .ref (aX 0)), (1, .int (nI b)), (2, .int (nI q)), (3, .int (nI f))]) C dX6_share_117 rfl (by decide) rfl ?_
      refine pt_iload (pc' := 121) C dX6_share_119 rfl 0 rfl ?_
      refine pt_csI0 (pc' := 124) (As := [.int (nI (pcN j))]) (rest := []) C (mX6_factorial l D cA (pcN j) (by have := pcN_le j; omega)) (va_cwS 1 C.hts hX6_share_X6_factorial rfl rfl rfl (by decide +kernel) ⟨Nat.le_of_ble_eq_true rfl, Nat.le_of_ble_eq_true rfl⟩) dX6_share_121 rfl rfl rfl (Nat.le_of_ble_eq_true rfl) ⟨Nat.le_of_ble_eq_true rfl, Nat.le_of_ble_eq_true rfl⟩ ?_
      refine pt_iload (pc' := 126) C dX6_share_124 rfl 3 rfl ?_
      refine pt_iload (pc' := 128) C dX6_share_126 rfl 0 rfl ?_
      refine pt_isub (pc' := 129) C dX6_share_128 rfl ?_
      refine pt_eq (st' := [.int (nI (pcN o - pcN j)), .int (fac (pcN j))]) rfl rfl (by rw [pk_sub (hpc j (by omega) h_109)]) ?_
      have hpo := pcN_le o
      refine pt_csI0 (pc' := 132) (As := [.int (nI (pcN o - pcN j))]) (rest := [.int (fac (pcN j))]) C (mX6_factorial l D cA (pcN o - pcN j) (by omega)) (va_cwS 1 C.hts hX6_share_X6_factorial rfl rfl rfl (by decide +kernel) ⟨Nat.le_of_ble_eq_true rfl, Nat.le_of_ble_eq_true rfl⟩) dX6_share_129 rfl rfl rfl (Nat.le_of_ble_eq_true rfl) ⟨Nat.le_of_ble_eq_true rfl, Nat.le_of_ble_eq_true rfl⟩ ?_
      refine pt_imul (pc' := 133) C dX6_share_132 rfl ?_
      refine pt_istore (pc' := 135) (lv' := [(10, .int ((fac (pcN j)) * (fac (pcN o - pcN j)))), (9, .int (nI (pcN j))), (8, .int (nI j)), (7, .int (itz (shS (fun x => liX n k bs wl fd kd sz lk he si dr db du df dw g x f) o b) j 0)), (6, .int (nI (pcN o))), (5, .int (nI o)), (4, .int (nI (2 ^ b))), (0, .ref (aX 0)), (1, .int (nI b)), (2, .int (nI q)), (3, .int (nI f))]) C dX6_share_133 rfl (by decide) rfl ?_
      refine pt_iload (pc' := 137) C dX6_share_135 rfl 3 rfl ?_
      refine pt_iload (pc' := 139) C dX6_share_137 rfl 0 rfl ?_
      refine pt_aload_n (pc' := 140) C dX6_share_139 rfl 7 rfl ?_
      refine pt_iload (pc' := 142) C dX6_share_140 rfl 2 rfl ?_
      refine pt_iload (pc' := 144) C dX6_share_142 rfl 6 rfl ?_
      refine pt_ior (pc' := 145) C dX6_share_144 rfl ?_
      refine pt_iload_n (pc' := 146) C dX6_share_145 rfl 10 rfl ?_
      refine pt_cvIE0 (pc' := 149) (w1 := fun (u_146 : S6) => wX cA aX aB aT aN aG aW aD aO aV g t mk ++ wB cA aB n k bs wl fd kd sz lk ++ wB cA aT n k bs wl fd ((laX ((nI j) ||| (nI (2 ^ b))) n kd sz lk).1) ((laX ((nI j) ||| (nI (2 ^ b))) n kd sz lk).2.1) ((laX ((nI j) ||| (nI (2 ^ b))) n kd sz lk).2.2) ++ wS cA aG u_146.1 u_146.2.1 u_146.2.2.1 u_146.2.2.2.1 u_146.2.2.2.2.1 u_146.2.2.2.2.2 ++ wW cA aW td he si ++ wD cA aD dr db du df dw) (As := [.int ((nI j) ||| (nI (2 ^ b))), .int (nI f)]) (rest := [.int ((fac (pcN j)) * (fac (pcN o - pcN j))), .int (itz (shS (fun x => liX n k bs wl fd kd sz lk he si dr db du df dw g x f) o b) j 0)]) C (mX6_lineLeavingAway l D cA aX aB aT aN aG aW aD aO aV g t mk n k bs wl fd kd sz lk u_95.1 u_95.2.1 u_95.2.2.1 u_95.2.2.2.1 u_95.2.2.2.2.1 u_95.2.2.2.2.2.1 u_95.2.2.2.2.2.2.1 u_95.2.2.2.2.2.2.2.1 u_95.2.2.2.2.2.2.2.2.1 u_95.2.2.2.2.2.2.2.2.2.1 u_95.2.2.2.2.2.2.2.2.2.2.1 u_95.2.2.2.2.2.2.2.2.2.2.2.1 u_95.2.2.2.2.2.2.2.2.2.2.2.2.1 u_95.2.2.2.2.2.2.2.2.2.2.2.2.2 td he si dr db du df dw ((nI j) ||| (nI (2 ^ b))) f (hn) (hm) (hg) (by omega) (hS) (hr2) (hD)) (cwV 2 C.hts hX6_share_X6_lineLeavingAway rfl rfl rfl (by decide +kernel) ⟨Nat.le_of_ble_eq_true rfl, Nat.le_of_ble_eq_true rfl⟩) dX6_share_146 rfl 0 rfl rfl rfl rfl rfl (Nat.le_of_ble_eq_true rfl) ⟨Nat.le_of_ble_eq_true rfl, Nat.le_of_ble_eq_true rfl⟩ (fun u_146 => ?_)
      refine pt_aload_n (pc' := 150) C dX6_share_149 rfl 7 rfl ?_
      refine pt_iload (pc' := 152) C dX6_share_150 rfl 2 rfl ?_
      refine pt_iload_n (pc' := 153) C dX6_share_152 rfl 10 rfl ?_
      refine pt_cvIE0 (pc' := 156) (w1 := fun (u_153 : S6) => wX cA aX aB aT aN aG aW aD aO aV g t mk ++ wB cA aB n k bs wl fd kd sz lk ++ wB cA aT n k bs wl fd ((laX (nI j) n kd sz lk).1) ((laX (nI j) n kd sz lk).2.1) ((laX (nI j) n kd sz lk).2.2) ++ wS cA aG u_153.1 u_153.2.1 u_153.2.2.1 u_153.2.2.2.1 u_153.2.2.2.2.1 u_153.2.2.2.2.2 ++ wW cA aW td he si ++ wD cA aD dr db du df dw) (As := [.int (nI j), .int (nI f)]) (rest := [.int (ln (rpY n k bs wl fd (laX ((nI j) ||| (nI (2 ^ b))) n kd sz lk).1 (laX ((nI j) ||| (nI (2 ^ b))) n kd sz lk).2.1 (laX ((nI j) ||| (nI (2 ^ b))) n kd sz lk).2.2 he si dr db du df dw g).1 f), .int ((fac (pcN j)) * (fac (pcN o - pcN j))), .int (itz (shS (fun x => liX n k bs wl fd kd sz lk he si dr db du df dw g x f) o b) j 0)]) C (mX6_lineLeavingAway l D cA aX aB aT aN aG aW aD aO aV g t mk n k bs wl fd kd sz lk n k bs wl fd ((laX ((nI j) ||| (nI (2 ^ b))) n kd sz lk).1) ((laX ((nI j) ||| (nI (2 ^ b))) n kd sz lk).2.1) ((laX ((nI j) ||| (nI (2 ^ b))) n kd sz lk).2.2) u_146.1 u_146.2.1 u_146.2.2.1 u_146.2.2.2.1 u_146.2.2.2.2.1 u_146.2.2.2.2.2 td he si dr db du df dw (nI j) f (hn) (hm) (hg) (by omega) (hS) (hr2) (hD)) (cwV 2 C.hts hX6_share_X6_lineLeavingAway rfl rfl rfl (by decide +kernel) ⟨Nat.le_of_ble_eq_true rfl, Nat.le_of_ble_eq_true rfl⟩) dX6_share_153 rfl 0 rfl rfl rfl rfl rfl (Nat.le_of_ble_eq_true rfl) ⟨Nat.le_of_ble_eq_true rfl, Nat.le_of_ble_eq_true rfl⟩ (fun u_153 => ?_)
      refine pt_isub (pc' := 157) C dX6_share_156 rfl ?_
      refine pt_imul (pc' := 158) C dX6_share_157 rfl ?_
      refine pt_iadd (pc' := 159) C dX6_share_158 rfl ?_
      refine pt_istore (pc' := 161) (lv' := [(7, .int ((itz (shS (fun x => liX n k bs wl fd kd sz lk he si dr db du df dw g x f) o b) j 0) + (((fac (pcN j)) * (fac (pcN o - pcN j))) * ((ln (rpY n k bs wl fd (laX ((nI j) ||| (nI (2 ^ b))) n kd sz lk).1 (laX ((nI j) ||| (nI (2 ^ b))) n kd sz lk).2.1 (laX ((nI j) ||| (nI (2 ^ b))) n kd sz lk).2.2 he si dr db du df dw g).1 f) - (ln (rpY n k bs wl fd (laX (nI j) n kd sz lk).1 (laX (nI j) n kd sz lk).2.1 (laX (nI j) n kd sz lk).2.2 he si dr db du df dw g).1 f))))), (10, .int ((fac (pcN j)) * (fac (pcN o - pcN j)))), (9, .int (nI (pcN j))), (8, .int (nI j)), (6, .int (nI (pcN o))), (5, .int (nI o)), (4, .int (nI (2 ^ b))), (0, .ref (aX 0)), (1, .int (nI b)), (2, .int (nI q)), (3, .int (nI f))]) C dX6_share_159 rfl (by decide) rfl ?_
      refine pt_iinc (pc' := 164) (v := nI (j + 1)) (lv' := [(8, .int (nI (j + 1))), (7, .int ((itz (shS (fun x => liX n k bs wl fd kd sz lk he si dr db du df dw g x f) o b) j 0) + (((fac (pcN j)) * (fac (pcN o - pcN j))) * ((ln (rpY n k bs wl fd (laX ((nI j) ||| (nI (2 ^ b))) n kd sz lk).1 (laX ((nI j) ||| (nI (2 ^ b))) n kd sz lk).2.1 (laX ((nI j) ||| (nI (2 ^ b))) n kd sz lk).2.2 he si dr db du df dw g).1 f) - (ln (rpY n k bs wl fd (laX (nI j) n kd sz lk).1 (laX (nI j) n kd sz lk).2.1 (laX (nI j) n kd sz lk).2.2 he si dr db du df dw g).1 f))))), (10, .int ((fac (pcN j)) * (fac (pcN o - pcN j)))), (9, .int (nI (pcN j))), (6, .int (nI (pcN o))), (5, .int (nI o)), (4, .int (nI (2 ^ b))), (0, .ref (aX 0)), (1, .int (nI b)), (2, .int (nI q)), (3, .int (nI f))]) C dX6_share_161 rfl 3 rfl (nI_1 _) (by decide) rfl ?_
      refine pt_goto (pc' := 95) C dX6_share_164 (by decide) ?_
      exact pt_cv (rfl) [0, 1, 4, 5, 6, 7, 8, 9, 10] (by simp only [itz_s, shS, if_pos h_109]; rfl) rfl (ih_95 (trivial) (n, k, bs, wl, fd, (laX (nI j) n kd sz lk).1, (laX (nI j) n kd sz lk).2.1, (laX (nI j) n kd sz lk).2.2, u_153.1, u_153.2.1, u_153.2.2.1, u_153.2.2.2.1, u_153.2.2.2.2.1, u_153.2.2.2.2.2))
  refine pt_iload (pc' := 97) C dX6_share_95 rfl 0 rfl ?_
  refine pt_iload (pc' := 99) C dX6_share_97 rfl 3 rfl ?_
  refine pt_icmp_gt (pc' := 102) (tgt := 167) C dX6_share_99 (by decide) rfl (fun h_99 => ?_) (fun h_99 => absurd (nI_lt (show o < o + 1 by omega) (by omega)) h_99)
  refine pt_iload (pc' := 169) C dX6_share_167 rfl 1 rfl ?_
  exact pt_iretE C hr hk dX6_share_169 (rfl) (rfl) (u_95.1, u_95.2.1, u_95.2.2.1, u_95.2.2.2.1, u_95.2.2.2.2.1, u_95.2.2.2.2.2.1, u_95.2.2.2.2.2.2.1, u_95.2.2.2.2.2.2.2.1, u_95.2.2.2.2.2.2.2.2.1, u_95.2.2.2.2.2.2.2.2.2.1, u_95.2.2.2.2.2.2.2.2.2.2.1, u_95.2.2.2.2.2.2.2.2.2.2.2.1, u_95.2.2.2.2.2.2.2.2.2.2.2.2.1, u_95.2.2.2.2.2.2.2.2.2.2.2.2.2) (rfl)
