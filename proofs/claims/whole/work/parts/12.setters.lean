set_option maxHeartbeats 4000000 in
set_option maxRecDepth 100000 in
theorem mX6_isWithin (l : Launch) (D : va_G) (cA : ClassId) (v : Int32) (a : Int32) (b : Int32) : mt_I l yX6_isWithin wsX6_isWithin { frames := 0, cells := 0, slots := 0, locals := 0 } D [(cA, .int)] [.int v, .int a, .int b] ([]) (bI (inR v a b)) ([]) := by
  refine mt_ofI (cc := cX6_isWithin) (maxL := 3) (ret := (some .boolean)) (lv := [(0, .int v), (1, .int a), (2, .int b)]) (by decide) rfl (Nat.le_of_ble_eq_true rfl) rfl ?_
  intro p e s m args below meth c A C hr hk
  refine pt_iload_n (pc' := 1) C dX6_isWithin_0 rfl 0 rfl ?_
  refine pt_iload_n (pc' := 2) C dX6_isWithin_1 rfl 1 rfl ?_
  refine pt_icmp_lt (pc' := 5) (tgt := 14) C dX6_isWithin_2 (by decide) rfl (fun h_2 => ?_) (fun h_2 => ?_)
  · refine pt_iconst (pc' := 15) C dX6_isWithin_14 rfl (v := 0) (by decide) ?_
    exact pt_iret C hr hk dX6_isWithin_15 (rfl) (by simp only [inR, bI, cond_false, cond_true, if_pos h_2]) (rfl)
  · refine pt_iload_n (pc' := 6) C dX6_isWithin_5 rfl 0 rfl ?_
    refine pt_iload_n (pc' := 7) C dX6_isWithin_6 rfl 2 rfl ?_
    refine pt_icmp_gt (pc' := 10) (tgt := 14) C dX6_isWithin_7 (by decide) rfl (fun h_7 => ?_) (fun h_7 => ?_)
    · refine pt_iconst (pc' := 15) C dX6_isWithin_14 rfl (v := 0) (by decide) ?_
      exact pt_iret C hr hk dX6_isWithin_15 (rfl) (by simp only [inR, bI, cond_false, cond_true, if_neg h_2, if_pos h_7]) (rfl)
    · refine pt_iconst (pc' := 11) C dX6_isWithin_10 rfl (v := 1) (by decide) ?_
      refine pt_goto (pc' := 15) C dX6_isWithin_11 (by decide) ?_
      exact pt_iret C hr hk dX6_isWithin_15 (rfl) (by simp only [inR, bI, cond_false, cond_true, if_neg h_2, if_neg h_7]) (rfl)

set_option maxHeartbeats 4000000 in
set_option maxRecDepth 100000 in
theorem mX6_takeInBegin (l : Launch) (D : va_G) (cA : ClassId) (aX : Nat → Nat) (aB : Nat → Nat) (aT : Nat → Nat) (aN : Nat → Nat) (aG : Nat → Nat) (aW : Nat → Nat) (aD : Nat → Nat) (aO : Nat → Nat) (aV : Nat → Nat) (g : Nat) (t : Int32) (mk : Nat → Int32) (n : Nat) (k : Int32) (bs : Nat → Int32) (wl : Nat → Int32) (fd : Nat → Int32) (kd : Nat → Int32) (sz : Nat → Int32) (lk : Nat → Int32) (sd : Nat → Int32) (se : Nat → Int32) (sc : Nat → Int32) (ba : Nat → Int32) (pa : Nat → Int32) (ch : Nat → Int32) : mt_V l yX6_takeInBegin wsX6_takeInBegin { frames := 2, cells := 0, slots := 0, locals := 81 } D [(cA, .int)] [.ref (aX 0)] (wX cA aX aB aT aN aG aW aD aO aV g t mk ++ wB cA aB n k bs wl fd kd sz lk ++ wS cA aN sd se sc ba pa ch) (wX cA aX aB aT aN aG aW aD aO aV g 1 mk ++ wB cA aB n k bs wl fd kd sz lk ++ wS cA aN bs (fun _ => 0) (fun _ => 0) (fun _ => 0) (fun _ => 0) ch) := by
  refine mt_ofV (cc := cX6_takeInBegin) (maxL := 1) (ret := none) (lv := [(0, .ref (aX 0))]) (by decide) rfl (Nat.le_of_ble_eq_true rfl) rfl ?_
  intro p e s m args below meth c A C hr hk
  have f_65 := C.hts (.fieldLink RX6 65 "ShoreFields" "anythingTold" "Z") (by decide +kernel)
  have in_6 : ∀ w ∈ u_ws RX6 TX6 11, w ∈ wsX6_takeInBegin := by decide +kernel
  have f_22 := C.hts (.fieldLink RX6 22 "ShoreFields" "now" "LShoreFields$Shore;") (by decide +kernel)
  have f_12 := C.hts (.fieldLink RX6 12 "ShoreFields" "begin" "LShoreFields$Begin;") (by decide +kernel)
  refine pt_aload_n (pc' := 1) C dX6_takeInBegin_0 rfl 0 rfl ?_
  refine pt_iconst (pc' := 2) C dX6_takeInBegin_1 rfl (v := 1) (by decide) ?_
  refine pt_put (pc' := 5) (ty := .boolean) (ws' := wX cA aX aB aT aN aG aW aD aO aV g 1 mk ++ wB cA aB n k bs wl fd kd sz lk ++ wS cA aN sd se sc ba pa ch) C in_6 tyX6 tyX6_ok nmX6 dX6_takeInBegin_2 rfl 0 10 rfl rfl (by decide) f_65 rfl (by decide +kernel) (rfl) (rfl) (Nat.le_of_ble_eq_true rfl) rfl ?_
  refine pt_aload_n (pc' := 6) C dX6_takeInBegin_5 rfl 0 rfl ?_
  refine pt_get (pc' := 9) C in_6 dX6_takeInBegin_6 rfl 0 2 rfl rfl (by decide) f_22 rfl ?_
  refine pt_aload_n (pc' := 10) C dX6_takeInBegin_9 rfl 0 rfl ?_
  refine pt_get (pc' := 13) C in_6 dX6_takeInBegin_10 rfl 0 0 rfl rfl (by decide) f_12 rfl ?_
  refine pt_cvV (pc' := 16) (ws' := wX cA aX aB aT aN aG aW aD aO aV g 1 mk ++ wB cA aB n k bs wl fd kd sz lk ++ wS cA aN bs (fun _ => 0) (fun _ => 0) (fun _ => 0) (fun _ => 0) ch) (wr := wX cA aX aB aT aN aG aW aD aO aV g 1 mk) (As := [.ref (aB 0)]) (rest := []) C (mX2_startFrom l D cA aN sd se sc ba pa ch aB n k bs wl fd kd sz lk ) (cwV 1 C.hts gX6_takeInBegin_X2_startFrom rfl rfl rfl (by decide +kernel) ⟨Nat.le_of_ble_eq_true rfl, Nat.le_of_ble_eq_true rfl⟩) dX6_takeInBegin_13 rfl 9 rfl rfl rfl rfl rfl (Nat.le_of_ble_eq_true rfl) ⟨Nat.le_of_ble_eq_true rfl, Nat.le_of_ble_eq_true rfl⟩ [9, 10, 11, 12, 13, 14, 15, 2, 3, 4, 5, 6, 7, 8] [0, 1] [0, 1, 9, 10, 11, 12, 13, 14, 15, 2, 3, 4, 5, 6, 7, 8] rfl (by decide) rfl (by decide) (by decide) rfl (by decide) ?_
  exact pt_vret C hr hk dX6_takeInBegin_16 (rfl)

set_option maxHeartbeats 4000000 in
set_option maxRecDepth 100000 in
theorem mX6_sand (l : Launch) (D : va_G) (cA : ClassId) (aX : Nat → Nat) (aB : Nat → Nat) (aT : Nat → Nat) (aN : Nat → Nat) (aG : Nat → Nat) (aW : Nat → Nat) (aD : Nat → Nat) (aO : Nat → Nat) (aV : Nat → Nat) (g : Nat) (t : Int32) (mk : Nat → Int32) (n : Nat) (k : Int32) (bs : Nat → Int32) (wl : Nat → Int32) (fd : Nat → Int32) (kd : Nat → Int32) (sz : Nat → Int32) (lk : Nat → Int32) (sd : Nat → Int32) (se : Nat → Int32) (sc : Nat → Int32) (ba : Nat → Int32) (pa : Nat → Int32) (ch : Nat → Int32) (x : Int32) (y : Int32) (hn : 2 ≤ n) (hm : n ≤ 12) (hg : g ≤ 120) : mt_I l yX6_sand wsX6_sand { frames := 3, cells := 0, slots := 0, locals := 101 } D [(cA, .int)] [.ref (aX 0), .int x, .int y] (wX cA aX aB aT aN aG aW aD aO aV g t mk ++ wB cA aB n k bs wl fd kd sz lk ++ wS cA aN sd se sc ba pa ch) (bI (okSand g n x y)) (wX cA aX aB aT aN aG aW aD aO aV g (cond (okSand g n x y) (1) t) mk ++ wB cA aB n k (cond (okSand g n x y) (upd bs x.toNatClampNeg y) bs) wl fd kd sz lk ++ wS cA aN (cond (okSand g n x y) (upd bs x.toNatClampNeg y) sd) (cond (okSand g n x y) (fun _ => 0) se) (cond (okSand g n x y) (fun _ => 0) sc) (cond (okSand g n x y) (fun _ => 0) ba) (cond (okSand g n x y) (fun _ => 0) pa) ch) := by
  refine mt_ofI (cc := cX6_sand) (maxL := 3) (ret := (some .boolean)) (lv := [(0, .ref (aX 0)), (1, .int x), (2, .int y)]) (by decide) rfl (Nat.le_of_ble_eq_true rfl) rfl ?_
  intro p e s m args below meth c A C hr hk
  have f_61 := C.hts (.fieldLink RX6 61 "ShoreFields" "weeksGone" "I") (by decide +kernel)
  have in_6 : ∀ w ∈ u_ws RX6 TX6 11, w ∈ wsX6_sand := by decide +kernel
  have f_12 := C.hts (.fieldLink RX6 12 "ShoreFields" "begin" "LShoreFields$Begin;") (by decide +kernel)
  have k_84 := C.hts (.constant RX6 84 (99999)) (by decide +kernel)
  have f_85 := C.hts (.fieldLink RX6 85 "ShoreFields$Begin" "sandOf" "[I") (by decide +kernel)
  have in_0 : ∀ w ∈ u_ws RX0 TX0 8, w ∈ wsX6_sand := by decide +kernel
  refine pt_aload_n (pc' := 1) C dX6_sand_0 rfl 0 rfl ?_
  refine pt_get (pc' := 4) C in_6 dX6_sand_1 rfl 0 9 rfl rfl (by decide) f_61 rfl ?_
  refine pt_if_gt (pc' := 7) (tgt := 28) C dX6_sand_4 (by decide) rfl (fun h_4 => ?_) (fun h_4 => ?_)
  · refine pt_iconst (pc' := 29) C dX6_sand_28 rfl (v := 0) (by decide) ?_
    exact pt_iret C hr hk dX6_sand_29 (rfl) (by simp only [okSand, g0_f hg h_4, bI, cond_false, cond_true, Bool.and_true, Bool.true_and, Bool.and_false, Bool.false_and]) (by simp only [okSand, g0_f hg h_4, bI, cond_false, cond_true, Bool.and_true, Bool.true_and, Bool.and_false, Bool.false_and])
  · refine pt_aload_n (pc' := 8) C dX6_sand_7 rfl 0 rfl ?_
    refine pt_get (pc' := 11) C in_6 dX6_sand_8 rfl 0 0 rfl rfl (by decide) f_12 rfl ?_
    refine pt_iload_n (pc' := 12) C dX6_sand_11 rfl 1 rfl ?_
    refine pt_cvI (pc' := 15) (ws' := wX cA aX aB aT aN aG aW aD aO aV g t mk ++ wB cA aB n k bs wl fd kd sz lk ++ wS cA aN sd se sc ba pa ch) (wr := wX cA aX aB aT aN aG aW aD aO aV g t mk ++ wS cA aN sd se sc ba pa ch) (As := [.int x]) (rest := []) C (mX0_hasField l D cA aB n k bs wl fd kd sz lk x ) (cwV 1 C.hts gX6_sand_X0_hasField rfl rfl rfl (by decide +kernel) ⟨Nat.le_of_ble_eq_true rfl, Nat.le_of_ble_eq_true rfl⟩) dX6_sand_12 rfl 2 rfl rfl rfl rfl rfl (Nat.le_of_ble_eq_true rfl) ⟨Nat.le_of_ble_eq_true rfl, Nat.le_of_ble_eq_true rfl⟩ [2, 3, 4, 5, 6, 7, 8] [0, 1, 9, 10, 11, 12, 13, 14, 15] [0, 1, 9, 10, 11, 12, 13, 14, 15, 2, 3, 4, 5, 6, 7, 8] rfl (by decide) rfl (by decide) (by decide) rfl (by decide) ?_
    refine pt_if_eq (pc' := 18) (tgt := 28) C dX6_sand_15 (by decide) rfl (fun h_15 => ?_) (fun h_15 => ?_)
    · refine pt_iconst (pc' := 29) C dX6_sand_28 rfl (v := 0) (by decide) ?_
      exact pt_iret C hr hk dX6_sand_29 (rfl) (by simp only [okSand, g0_t hg h_4, bI_f h_15, bI, cond_false, cond_true, Bool.and_true, Bool.true_and, Bool.and_false, Bool.false_and]) (by simp only [okSand, g0_t hg h_4, bI_f h_15, bI, cond_false, cond_true, Bool.and_true, Bool.true_and, Bool.and_false, Bool.false_and])
    · refine pt_iload_n (pc' := 19) C dX6_sand_18 rfl 2 rfl ?_
      refine pt_iconst (pc' := 20) C dX6_sand_19 rfl (v := 0) (by decide) ?_
      refine pt_ldc (pc' := 22) C dX6_sand_20 rfl k_84 ?_
      refine pt_csI0 (pc' := 25) (As := [.int y, .int 0, .int 99999]) (rest := []) C (mX6_isWithin l D cA y 0 99999 ) (va_cwS 3 C.hts gX6_sand_X6_isWithin rfl rfl rfl (by decide +kernel) ⟨Nat.le_of_ble_eq_true rfl, Nat.le_of_ble_eq_true rfl⟩) dX6_sand_22 rfl rfl rfl (Nat.le_of_ble_eq_true rfl) ⟨Nat.le_of_ble_eq_true rfl, Nat.le_of_ble_eq_true rfl⟩ ?_
      refine pt_if_ne (pc' := 28) (tgt := 30) C dX6_sand_25 (by decide) rfl (fun h_25 => ?_) (fun h_25 => ?_)
      · refine pt_aload_n (pc' := 31) C dX6_sand_30 rfl 0 rfl ?_
        refine pt_get (pc' := 34) C in_6 dX6_sand_31 rfl 0 0 rfl rfl (by decide) f_12 rfl ?_
        refine pt_get (pc' := 37) C in_0 dX6_sand_34 rfl 2 2 rfl rfl (by decide) f_85 rfl ?_
        refine pt_iload_n (pc' := 38) C dX6_sand_37 rfl 1 rfl ?_
        refine pt_iload_n (pc' := 39) C dX6_sand_38 rfl 2 rfl ?_
        refine pt_iast (pc' := 40) (ws' := wX cA aX aB aT aN aG aW aD aO aV g t mk ++ wB cA aB n k (upd bs x.toNatClampNeg y) wl fd kd sz lk ++ wS cA aN sd se sc ba pa ch) C dX6_sand_39 rfl 3 rfl rfl x.toNatClampNeg ((inF_in hm (bI_t h_15)).1) (by have := (inF_in hm (bI_t h_15)).2; omega) (by decide) rfl ?_
        refine pt_aload_n (pc' := 41) C dX6_sand_40 rfl 0 rfl ?_
        refine pt_cvV0 (pc' := 44) (w1 := wX cA aX aB aT aN aG aW aD aO aV g 1 mk ++ wB cA aB n k (upd bs x.toNatClampNeg y) wl fd kd sz lk ++ wS cA aN (upd bs x.toNatClampNeg y) (fun _ => 0) (fun _ => 0) (fun _ => 0) (fun _ => 0) ch) (As := []) (rest := []) C (mX6_takeInBegin l D cA aX aB aT aN aG aW aD aO aV g t mk n k (upd bs x.toNatClampNeg y) wl fd kd sz lk sd se sc ba pa ch ) (cwV 0 C.hts gX6_sand_X6_takeInBegin rfl rfl rfl (by decide +kernel) ⟨Nat.le_of_ble_eq_true rfl, Nat.le_of_ble_eq_true rfl⟩) dX6_sand_41 rfl 0 rfl rfl rfl rfl rfl (Nat.le_of_ble_eq_true rfl) ⟨Nat.le_of_ble_eq_true rfl, Nat.le_of_ble_eq_true rfl⟩ ?_
        refine pt_iconst (pc' := 45) C dX6_sand_44 rfl (v := 1) (by decide) ?_
        exact pt_iret C hr hk dX6_sand_45 (rfl) (by simp only [okSand, g0_t hg h_4, bI_t h_15, bI_t h_25, bI, cond_false, cond_true, Bool.and_true, Bool.true_and, Bool.and_false, Bool.false_and]) (by simp only [okSand, g0_t hg h_4, bI_t h_15, bI_t h_25, bI, cond_false, cond_true, Bool.and_true, Bool.true_and, Bool.and_false, Bool.false_and])
      · refine pt_iconst (pc' := 29) C dX6_sand_28 rfl (v := 0) (by decide) ?_
        exact pt_iret C hr hk dX6_sand_29 (rfl) (by simp only [okSand, g0_t hg h_4, bI_t h_15, bI_f h_25, bI, cond_false, cond_true, Bool.and_true, Bool.true_and, Bool.and_false, Bool.false_and]) (by simp only [okSand, g0_t hg h_4, bI_t h_15, bI_f h_25, bI, cond_false, cond_true, Bool.and_true, Bool.true_and, Bool.and_false, Bool.false_and])

set_option maxHeartbeats 4000000 in
set_option maxRecDepth 100000 in
theorem mX6_wall (l : Launch) (D : va_G) (cA : ClassId) (aX : Nat → Nat) (aB : Nat → Nat) (aT : Nat → Nat) (aN : Nat → Nat) (aG : Nat → Nat) (aW : Nat → Nat) (aD : Nat → Nat) (aO : Nat → Nat) (aV : Nat → Nat) (g : Nat) (t : Int32) (mk : Nat → Int32) (n : Nat) (k : Int32) (bs : Nat → Int32) (wl : Nat → Int32) (fd : Nat → Int32) (kd : Nat → Int32) (sz : Nat → Int32) (lk : Nat → Int32) (sd : Nat → Int32) (se : Nat → Int32) (sc : Nat → Int32) (ba : Nat → Int32) (pa : Nat → Int32) (ch : Nat → Int32) (x : Int32) (y : Int32) (hn : 2 ≤ n) (hm : n ≤ 12) (hg : g ≤ 120) : mt_I l yX6_wall wsX6_wall { frames := 3, cells := 0, slots := 0, locals := 101 } D [(cA, .int)] [.ref (aX 0), .int x, .int y] (wX cA aX aB aT aN aG aW aD aO aV g t mk ++ wB cA aB n k bs wl fd kd sz lk ++ wS cA aN sd se sc ba pa ch) (bI (okWal g n x y)) (wX cA aX aB aT aN aG aW aD aO aV g (cond (okWal g n x y) (1) t) mk ++ wB cA aB n k bs (cond (okWal g n x y) (upd wl x.toNatClampNeg y) wl) fd kd sz lk ++ wS cA aN (cond (okWal g n x y) (bs) sd) (cond (okWal g n x y) (fun _ => 0) se) (cond (okWal g n x y) (fun _ => 0) sc) (cond (okWal g n x y) (fun _ => 0) ba) (cond (okWal g n x y) (fun _ => 0) pa) ch) := by
  refine mt_ofI (cc := cX6_wall) (maxL := 3) (ret := (some .boolean)) (lv := [(0, .ref (aX 0)), (1, .int x), (2, .int y)]) (by decide) rfl (Nat.le_of_ble_eq_true rfl) rfl ?_
  intro p e s m args below meth c A C hr hk
  have f_61 := C.hts (.fieldLink RX6 61 "ShoreFields" "weeksGone" "I") (by decide +kernel)
  have in_6 : ∀ w ∈ u_ws RX6 TX6 11, w ∈ wsX6_wall := by decide +kernel
  have f_12 := C.hts (.fieldLink RX6 12 "ShoreFields" "begin" "LShoreFields$Begin;") (by decide +kernel)
  have f_98 := C.hts (.fieldLink RX6 98 "ShoreFields$Begin" "wallOf" "[I") (by decide +kernel)
  have in_0 : ∀ w ∈ u_ws RX0 TX0 8, w ∈ wsX6_wall := by decide +kernel
  refine pt_aload_n (pc' := 1) C dX6_wall_0 rfl 0 rfl ?_
  refine pt_get (pc' := 4) C in_6 dX6_wall_1 rfl 0 9 rfl rfl (by decide) f_61 rfl ?_
  refine pt_if_gt (pc' := 7) (tgt := 29) C dX6_wall_4 (by decide) rfl (fun h_4 => ?_) (fun h_4 => ?_)
  · refine pt_iconst (pc' := 30) C dX6_wall_29 rfl (v := 0) (by decide) ?_
    exact pt_iret C hr hk dX6_wall_30 (rfl) (by simp only [okWal, g0_f hg h_4, bI, cond_false, cond_true, Bool.and_true, Bool.true_and, Bool.and_false, Bool.false_and]) (by simp only [okWal, g0_f hg h_4, bI, cond_false, cond_true, Bool.and_true, Bool.true_and, Bool.and_false, Bool.false_and])
  · refine pt_aload_n (pc' := 8) C dX6_wall_7 rfl 0 rfl ?_
    refine pt_get (pc' := 11) C in_6 dX6_wall_8 rfl 0 0 rfl rfl (by decide) f_12 rfl ?_
    refine pt_iload_n (pc' := 12) C dX6_wall_11 rfl 1 rfl ?_
    refine pt_cvI (pc' := 15) (ws' := wX cA aX aB aT aN aG aW aD aO aV g t mk ++ wB cA aB n k bs wl fd kd sz lk ++ wS cA aN sd se sc ba pa ch) (wr := wX cA aX aB aT aN aG aW aD aO aV g t mk ++ wS cA aN sd se sc ba pa ch) (As := [.int x]) (rest := []) C (mX0_hasField l D cA aB n k bs wl fd kd sz lk x ) (cwV 1 C.hts gX6_wall_X0_hasField rfl rfl rfl (by decide +kernel) ⟨Nat.le_of_ble_eq_true rfl, Nat.le_of_ble_eq_true rfl⟩) dX6_wall_12 rfl 2 rfl rfl rfl rfl rfl (Nat.le_of_ble_eq_true rfl) ⟨Nat.le_of_ble_eq_true rfl, Nat.le_of_ble_eq_true rfl⟩ [2, 3, 4, 5, 6, 7, 8] [0, 1, 9, 10, 11, 12, 13, 14, 15] [0, 1, 9, 10, 11, 12, 13, 14, 15, 2, 3, 4, 5, 6, 7, 8] rfl (by decide) rfl (by decide) (by decide) rfl (by decide) ?_
    refine pt_if_eq (pc' := 18) (tgt := 29) C dX6_wall_15 (by decide) rfl (fun h_15 => ?_) (fun h_15 => ?_)
    · refine pt_iconst (pc' := 30) C dX6_wall_29 rfl (v := 0) (by decide) ?_
      exact pt_iret C hr hk dX6_wall_30 (rfl) (by simp only [okWal, g0_t hg h_4, bI_f h_15, bI, cond_false, cond_true, Bool.and_true, Bool.true_and, Bool.and_false, Bool.false_and]) (by simp only [okWal, g0_t hg h_4, bI_f h_15, bI, cond_false, cond_true, Bool.and_true, Bool.true_and, Bool.and_false, Bool.false_and])
    · refine pt_iload_n (pc' := 19) C dX6_wall_18 rfl 2 rfl ?_
      refine pt_iconst (pc' := 20) C dX6_wall_19 rfl (v := 0) (by decide) ?_
      refine pt_sipush (pc' := 23) C dX6_wall_20 rfl (v := 999) (by decide) ?_
      refine pt_csI0 (pc' := 26) (As := [.int y, .int 0, .int 999]) (rest := []) C (mX6_isWithin l D cA y 0 999 ) (va_cwS 3 C.hts gX6_wall_X6_isWithin rfl rfl rfl (by decide +kernel) ⟨Nat.le_of_ble_eq_true rfl, Nat.le_of_ble_eq_true rfl⟩) dX6_wall_23 rfl rfl rfl (Nat.le_of_ble_eq_true rfl) ⟨Nat.le_of_ble_eq_true rfl, Nat.le_of_ble_eq_true rfl⟩ ?_
      refine pt_if_ne (pc' := 29) (tgt := 31) C dX6_wall_26 (by decide) rfl (fun h_26 => ?_) (fun h_26 => ?_)
      · refine pt_aload_n (pc' := 32) C dX6_wall_31 rfl 0 rfl ?_
        refine pt_get (pc' := 35) C in_6 dX6_wall_32 rfl 0 0 rfl rfl (by decide) f_12 rfl ?_
        refine pt_get (pc' := 38) C in_0 dX6_wall_35 rfl 2 3 rfl rfl (by decide) f_98 rfl ?_
        refine pt_iload_n (pc' := 39) C dX6_wall_38 rfl 1 rfl ?_
        refine pt_iload_n (pc' := 40) C dX6_wall_39 rfl 2 rfl ?_
        refine pt_iast (pc' := 41) (ws' := wX cA aX aB aT aN aG aW aD aO aV g t mk ++ wB cA aB n k bs (upd wl x.toNatClampNeg y) fd kd sz lk ++ wS cA aN sd se sc ba pa ch) C dX6_wall_40 rfl 4 rfl rfl x.toNatClampNeg ((inF_in hm (bI_t h_15)).1) (by have := (inF_in hm (bI_t h_15)).2; omega) (by decide) rfl ?_
        refine pt_aload_n (pc' := 42) C dX6_wall_41 rfl 0 rfl ?_
        refine pt_cvV0 (pc' := 45) (w1 := wX cA aX aB aT aN aG aW aD aO aV g 1 mk ++ wB cA aB n k bs (upd wl x.toNatClampNeg y) fd kd sz lk ++ wS cA aN bs (fun _ => 0) (fun _ => 0) (fun _ => 0) (fun _ => 0) ch) (As := []) (rest := []) C (mX6_takeInBegin l D cA aX aB aT aN aG aW aD aO aV g t mk n k bs (upd wl x.toNatClampNeg y) fd kd sz lk sd se sc ba pa ch ) (cwV 0 C.hts gX6_wall_X6_takeInBegin rfl rfl rfl (by decide +kernel) ⟨Nat.le_of_ble_eq_true rfl, Nat.le_of_ble_eq_true rfl⟩) dX6_wall_42 rfl 0 rfl rfl rfl rfl rfl (Nat.le_of_ble_eq_true rfl) ⟨Nat.le_of_ble_eq_true rfl, Nat.le_of_ble_eq_true rfl⟩ ?_
        refine pt_iconst (pc' := 46) C dX6_wall_45 rfl (v := 1) (by decide) ?_
        exact pt_iret C hr hk dX6_wall_46 (rfl) (by simp only [okWal, g0_t hg h_4, bI_t h_15, bI_t h_26, bI, cond_false, cond_true, Bool.and_true, Bool.true_and, Bool.and_false, Bool.false_and]) (by simp only [okWal, g0_t hg h_4, bI_t h_15, bI_t h_26, bI, cond_false, cond_true, Bool.and_true, Bool.true_and, Bool.and_false, Bool.false_and])
      · refine pt_iconst (pc' := 30) C dX6_wall_29 rfl (v := 0) (by decide) ?_
        exact pt_iret C hr hk dX6_wall_30 (rfl) (by simp only [okWal, g0_t hg h_4, bI_t h_15, bI_f h_26, bI, cond_false, cond_true, Bool.and_true, Bool.true_and, Bool.and_false, Bool.false_and]) (by simp only [okWal, g0_t hg h_4, bI_t h_15, bI_f h_26, bI, cond_false, cond_true, Bool.and_true, Bool.true_and, Bool.and_false, Bool.false_and])

set_option maxHeartbeats 4000000 in
set_option maxRecDepth 100000 in
theorem mX6_feed (l : Launch) (D : va_G) (cA : ClassId) (aX : Nat → Nat) (aB : Nat → Nat) (aT : Nat → Nat) (aN : Nat → Nat) (aG : Nat → Nat) (aW : Nat → Nat) (aD : Nat → Nat) (aO : Nat → Nat) (aV : Nat → Nat) (g : Nat) (t : Int32) (mk : Nat → Int32) (n : Nat) (k : Int32) (bs : Nat → Int32) (wl : Nat → Int32) (fd : Nat → Int32) (kd : Nat → Int32) (sz : Nat → Int32) (lk : Nat → Int32) (sd : Nat → Int32) (se : Nat → Int32) (sc : Nat → Int32) (ba : Nat → Int32) (pa : Nat → Int32) (ch : Nat → Int32) (x : Int32) (y : Int32) (hn : 2 ≤ n) (hm : n ≤ 12) (hg : g ≤ 120) : mt_I l yX6_feed wsX6_feed { frames := 3, cells := 0, slots := 0, locals := 101 } D [(cA, .int)] [.ref (aX 0), .int x, .int y] (wX cA aX aB aT aN aG aW aD aO aV g t mk ++ wB cA aB n k bs wl fd kd sz lk ++ wS cA aN sd se sc ba pa ch) (bI (okFee g x y)) (wX cA aX aB aT aN aG aW aD aO aV g (cond (okFee g x y) (1) t) mk ++ wB cA aB n k bs wl (cond (okFee g x y) (upd fd x.toNatClampNeg y) fd) kd sz lk ++ wS cA aN (cond (okFee g x y) (bs) sd) (cond (okFee g x y) (fun _ => 0) se) (cond (okFee g x y) (fun _ => 0) sc) (cond (okFee g x y) (fun _ => 0) ba) (cond (okFee g x y) (fun _ => 0) pa) ch) := by
  refine mt_ofI (cc := cX6_feed) (maxL := 3) (ret := (some .boolean)) (lv := [(0, .ref (aX 0)), (1, .int x), (2, .int y)]) (by decide) rfl (Nat.le_of_ble_eq_true rfl) rfl ?_
  intro p e s m args below meth c A C hr hk
  have f_61 := C.hts (.fieldLink RX6 61 "ShoreFields" "weeksGone" "I") (by decide +kernel)
  have in_6 : ∀ w ∈ u_ws RX6 TX6 11, w ∈ wsX6_feed := by decide +kernel
  have f_12 := C.hts (.fieldLink RX6 12 "ShoreFields" "begin" "LShoreFields$Begin;") (by decide +kernel)
  have f_101 := C.hts (.fieldLink RX6 101 "ShoreFields$Begin" "feedOf" "[I") (by decide +kernel)
  have in_0 : ∀ w ∈ u_ws RX0 TX0 8, w ∈ wsX6_feed := by decide +kernel
  refine pt_aload_n (pc' := 1) C dX6_feed_0 rfl 0 rfl ?_
  refine pt_get (pc' := 4) C in_6 dX6_feed_1 rfl 0 9 rfl rfl (by decide) f_61 rfl ?_
  refine pt_if_gt (pc' := 7) (tgt := 27) C dX6_feed_4 (by decide) rfl (fun h_4 => ?_) (fun h_4 => ?_)
  · refine pt_iconst (pc' := 28) C dX6_feed_27 rfl (v := 0) (by decide) ?_
    exact pt_iret C hr hk dX6_feed_28 (rfl) (by simp only [okFee, g0_f hg h_4, bI, cond_false, cond_true, Bool.and_true, Bool.true_and, Bool.and_false, Bool.false_and]) (by simp only [okFee, g0_f hg h_4, bI, cond_false, cond_true, Bool.and_true, Bool.true_and, Bool.and_false, Bool.false_and])
  · refine pt_iload_n (pc' := 8) C dX6_feed_7 rfl 1 rfl ?_
    refine pt_iconst (pc' := 9) C dX6_feed_8 rfl (v := 0) (by decide) ?_
    refine pt_iconst (pc' := 10) C dX6_feed_9 rfl (v := 1) (by decide) ?_
    refine pt_csI0 (pc' := 13) (As := [.int x, .int 0, .int 1]) (rest := []) C (mX6_isWithin l D cA x 0 1 ) (va_cwS 3 C.hts gX6_feed_X6_isWithin rfl rfl rfl (by decide +kernel) ⟨Nat.le_of_ble_eq_true rfl, Nat.le_of_ble_eq_true rfl⟩) dX6_feed_10 rfl rfl rfl (Nat.le_of_ble_eq_true rfl) ⟨Nat.le_of_ble_eq_true rfl, Nat.le_of_ble_eq_true rfl⟩ ?_
    refine pt_if_eq (pc' := 16) (tgt := 27) C dX6_feed_13 (by decide) rfl (fun h_13 => ?_) (fun h_13 => ?_)
    · refine pt_iconst (pc' := 28) C dX6_feed_27 rfl (v := 0) (by decide) ?_
      exact pt_iret C hr hk dX6_feed_28 (rfl) (by simp only [okFee, g0_t hg h_4, bI_f h_13, bI, cond_false, cond_true, Bool.and_true, Bool.true_and, Bool.and_false, Bool.false_and]) (by simp only [okFee, g0_t hg h_4, bI_f h_13, bI, cond_false, cond_true, Bool.and_true, Bool.true_and, Bool.and_false, Bool.false_and])
    · refine pt_iload_n (pc' := 17) C dX6_feed_16 rfl 2 rfl ?_
      refine pt_iconst (pc' := 18) C dX6_feed_17 rfl (v := 0) (by decide) ?_
      refine pt_sipush (pc' := 21) C dX6_feed_18 rfl (v := 200) (by decide) ?_
      refine pt_csI0 (pc' := 24) (As := [.int y, .int 0, .int 200]) (rest := []) C (mX6_isWithin l D cA y 0 200 ) (va_cwS 3 C.hts gX6_feed_X6_isWithin rfl rfl rfl (by decide +kernel) ⟨Nat.le_of_ble_eq_true rfl, Nat.le_of_ble_eq_true rfl⟩) dX6_feed_21 rfl rfl rfl (Nat.le_of_ble_eq_true rfl) ⟨Nat.le_of_ble_eq_true rfl, Nat.le_of_ble_eq_true rfl⟩ ?_
      refine pt_if_ne (pc' := 27) (tgt := 29) C dX6_feed_24 (by decide) rfl (fun h_24 => ?_) (fun h_24 => ?_)
      · refine pt_aload_n (pc' := 30) C dX6_feed_29 rfl 0 rfl ?_
        refine pt_get (pc' := 33) C in_6 dX6_feed_30 rfl 0 0 rfl rfl (by decide) f_12 rfl ?_
        refine pt_get (pc' := 36) C in_0 dX6_feed_33 rfl 2 4 rfl rfl (by decide) f_101 rfl ?_
        refine pt_iload_n (pc' := 37) C dX6_feed_36 rfl 1 rfl ?_
        refine pt_iload_n (pc' := 38) C dX6_feed_37 rfl 2 rfl ?_
        refine pt_iast (pc' := 39) (ws' := wX cA aX aB aT aN aG aW aD aO aV g t mk ++ wB cA aB n k bs wl (upd fd x.toNatClampNeg y) kd sz lk ++ wS cA aN sd se sc ba pa ch) C dX6_feed_38 rfl 5 rfl rfl x.toNatClampNeg ((inR_in (b := 1) (bI_t h_13) (by decide)).1) (by have := (inR_in (b := 1) (bI_t h_13) (by decide)).2; omega) (by decide) rfl ?_
        refine pt_aload_n (pc' := 40) C dX6_feed_39 rfl 0 rfl ?_
        refine pt_cvV0 (pc' := 43) (w1 := wX cA aX aB aT aN aG aW aD aO aV g 1 mk ++ wB cA aB n k bs wl (upd fd x.toNatClampNeg y) kd sz lk ++ wS cA aN bs (fun _ => 0) (fun _ => 0) (fun _ => 0) (fun _ => 0) ch) (As := []) (rest := []) C (mX6_takeInBegin l D cA aX aB aT aN aG aW aD aO aV g t mk n k bs wl (upd fd x.toNatClampNeg y) kd sz lk sd se sc ba pa ch ) (cwV 0 C.hts gX6_feed_X6_takeInBegin rfl rfl rfl (by decide +kernel) ⟨Nat.le_of_ble_eq_true rfl, Nat.le_of_ble_eq_true rfl⟩) dX6_feed_40 rfl 0 rfl rfl rfl rfl rfl (Nat.le_of_ble_eq_true rfl) ⟨Nat.le_of_ble_eq_true rfl, Nat.le_of_ble_eq_true rfl⟩ ?_
        refine pt_iconst (pc' := 44) C dX6_feed_43 rfl (v := 1) (by decide) ?_
        exact pt_iret C hr hk dX6_feed_44 (rfl) (by simp only [okFee, g0_t hg h_4, bI_t h_13, bI_t h_24, bI, cond_false, cond_true, Bool.and_true, Bool.true_and, Bool.and_false, Bool.false_and]) (by simp only [okFee, g0_t hg h_4, bI_t h_13, bI_t h_24, bI, cond_false, cond_true, Bool.and_true, Bool.true_and, Bool.and_false, Bool.false_and])
      · refine pt_iconst (pc' := 28) C dX6_feed_27 rfl (v := 0) (by decide) ?_
        exact pt_iret C hr hk dX6_feed_28 (rfl) (by simp only [okFee, g0_t hg h_4, bI_t h_13, bI_f h_24, bI, cond_false, cond_true, Bool.and_true, Bool.true_and, Bool.and_false, Bool.false_and]) (by simp only [okFee, g0_t hg h_4, bI_t h_13, bI_f h_24, bI, cond_false, cond_true, Bool.and_true, Bool.true_and, Bool.and_false, Bool.false_and])

set_option maxHeartbeats 4000000 in
set_option maxRecDepth 100000 in
theorem mX6_number (l : Launch) (D : va_G) (cA : ClassId) (aX : Nat → Nat) (aB : Nat → Nat) (aT : Nat → Nat) (aN : Nat → Nat) (aG : Nat → Nat) (aW : Nat → Nat) (aD : Nat → Nat) (aO : Nat → Nat) (aV : Nat → Nat) (g : Nat) (t : Int32) (mk : Nat → Int32) (n : Nat) (k : Int32) (bs : Nat → Int32) (wl : Nat → Int32) (fd : Nat → Int32) (kd : Nat → Int32) (sz : Nat → Int32) (lk : Nat → Int32) (sd : Nat → Int32) (se : Nat → Int32) (sc : Nat → Int32) (ba : Nat → Int32) (pa : Nat → Int32) (ch : Nat → Int32) (x : Int32) (hn : 2 ≤ n) (hm : n ≤ 12) (hg : g ≤ 120) : mt_I l yX6_number wsX6_number { frames := 3, cells := 0, slots := 0, locals := 101 } D [(cA, .int)] [.ref (aX 0), .int x] (wX cA aX aB aT aN aG aW aD aO aV g t mk ++ wB cA aB n k bs wl fd kd sz lk ++ wS cA aN sd se sc ba pa ch) (bI (okNum g x)) (wX cA aX aB aT aN aG aW aD aO aV g (cond (okNum g x) (1) t) mk ++ wB cA aB n (cond (okNum g x) (x) k) bs wl fd kd sz lk ++ wS cA aN (cond (okNum g x) (bs) sd) (cond (okNum g x) (fun _ => 0) se) (cond (okNum g x) (fun _ => 0) sc) (cond (okNum g x) (fun _ => 0) ba) (cond (okNum g x) (fun _ => 0) pa) ch) := by
  refine mt_ofI (cc := cX6_number) (maxL := 2) (ret := (some .boolean)) (lv := [(0, .ref (aX 0)), (1, .int x)]) (by decide) rfl (Nat.le_of_ble_eq_true rfl) rfl ?_
  intro p e s m args below meth c A C hr hk
  have f_61 := C.hts (.fieldLink RX6 61 "ShoreFields" "weeksGone" "I") (by decide +kernel)
  have in_6 : ∀ w ∈ u_ws RX6 TX6 11, w ∈ wsX6_number := by decide +kernel
  have f_12 := C.hts (.fieldLink RX6 12 "ShoreFields" "begin" "LShoreFields$Begin;") (by decide +kernel)
  have f_104 := C.hts (.fieldLink RX6 104 "ShoreFields$Begin" "shoreNumber" "I") (by decide +kernel)
  have in_0 : ∀ w ∈ u_ws RX0 TX0 8, w ∈ wsX6_number := by decide +kernel
  refine pt_aload_n (pc' := 1) C dX6_number_0 rfl 0 rfl ?_
  refine pt_get (pc' := 4) C in_6 dX6_number_1 rfl 0 9 rfl rfl (by decide) f_61 rfl ?_
  refine pt_if_gt (pc' := 7) (tgt := 17) C dX6_number_4 (by decide) rfl (fun h_4 => ?_) (fun h_4 => ?_)
  · refine pt_iconst (pc' := 18) C dX6_number_17 rfl (v := 0) (by decide) ?_
    exact pt_iret C hr hk dX6_number_18 (rfl) (by simp only [okNum, g0_f hg h_4, bI, cond_false, cond_true, Bool.and_true, Bool.true_and, Bool.and_false, Bool.false_and]) (by simp only [okNum, g0_f hg h_4, bI, cond_false, cond_true, Bool.and_true, Bool.true_and, Bool.and_false, Bool.false_and])
  · refine pt_iload_n (pc' := 8) C dX6_number_7 rfl 1 rfl ?_
    refine pt_iconst (pc' := 9) C dX6_number_8 rfl (v := 1) (by decide) ?_
    refine pt_bipush (pc' := 11) C dX6_number_9 rfl (v := 9) (by decide) ?_
    refine pt_csI0 (pc' := 14) (As := [.int x, .int 1, .int 9]) (rest := []) C (mX6_isWithin l D cA x 1 9 ) (va_cwS 3 C.hts gX6_number_X6_isWithin rfl rfl rfl (by decide +kernel) ⟨Nat.le_of_ble_eq_true rfl, Nat.le_of_ble_eq_true rfl⟩) dX6_number_11 rfl rfl rfl (Nat.le_of_ble_eq_true rfl) ⟨Nat.le_of_ble_eq_true rfl, Nat.le_of_ble_eq_true rfl⟩ ?_
    refine pt_if_ne (pc' := 17) (tgt := 19) C dX6_number_14 (by decide) rfl (fun h_14 => ?_) (fun h_14 => ?_)
    · refine pt_aload_n (pc' := 20) C dX6_number_19 rfl 0 rfl ?_
      refine pt_get (pc' := 23) C in_6 dX6_number_20 rfl 0 0 rfl rfl (by decide) f_12 rfl ?_
      refine pt_iload_n (pc' := 24) C dX6_number_23 rfl 1 rfl ?_
      refine pt_put (pc' := 27) (ty := .int) (ws' := wX cA aX aB aT aN aG aW aD aO aV g t mk ++ wB cA aB n x bs wl fd kd sz lk ++ wS cA aN sd se sc ba pa ch) C in_0 tyX0 tyX0_ok nmX0 dX6_number_24 rfl 2 1 rfl rfl (by decide) f_104 rfl (by decide +kernel) (rfl) (rfl) (Nat.le_of_ble_eq_true rfl) rfl ?_
      refine pt_aload_n (pc' := 28) C dX6_number_27 rfl 0 rfl ?_
      refine pt_cvV0 (pc' := 31) (w1 := wX cA aX aB aT aN aG aW aD aO aV g 1 mk ++ wB cA aB n x bs wl fd kd sz lk ++ wS cA aN bs (fun _ => 0) (fun _ => 0) (fun _ => 0) (fun _ => 0) ch) (As := []) (rest := []) C (mX6_takeInBegin l D cA aX aB aT aN aG aW aD aO aV g t mk n x bs wl fd kd sz lk sd se sc ba pa ch ) (cwV 0 C.hts gX6_number_X6_takeInBegin rfl rfl rfl (by decide +kernel) ⟨Nat.le_of_ble_eq_true rfl, Nat.le_of_ble_eq_true rfl⟩) dX6_number_28 rfl 0 rfl rfl rfl rfl rfl (Nat.le_of_ble_eq_true rfl) ⟨Nat.le_of_ble_eq_true rfl, Nat.le_of_ble_eq_true rfl⟩ ?_
      refine pt_iconst (pc' := 32) C dX6_number_31 rfl (v := 1) (by decide) ?_
      exact pt_iret C hr hk dX6_number_32 (rfl) (by simp only [okNum, g0_t hg h_4, bI_t h_14, bI, cond_false, cond_true, Bool.and_true, Bool.true_and, Bool.and_false, Bool.false_and]) (by simp only [okNum, g0_t hg h_4, bI_t h_14, bI, cond_false, cond_true, Bool.and_true, Bool.true_and, Bool.and_false, Bool.false_and])
    · refine pt_iconst (pc' := 18) C dX6_number_17 rfl (v := 0) (by decide) ?_
      exact pt_iret C hr hk dX6_number_18 (rfl) (by simp only [okNum, g0_t hg h_4, bI_f h_14, bI, cond_false, cond_true, Bool.and_true, Bool.true_and, Bool.and_false, Bool.false_and]) (by simp only [okNum, g0_t hg h_4, bI_f h_14, bI, cond_false, cond_true, Bool.and_true, Bool.true_and, Bool.and_false, Bool.false_and])

set_option maxHeartbeats 4000000 in
set_option maxRecDepth 100000 in
theorem mX6_groyne (l : Launch) (D : va_G) (cA : ClassId) (aX : Nat → Nat) (aB : Nat → Nat) (aT : Nat → Nat) (aN : Nat → Nat) (aG : Nat → Nat) (aW : Nat → Nat) (aD : Nat → Nat) (aO : Nat → Nat) (aV : Nat → Nat) (g : Nat) (t : Int32) (mk : Nat → Int32) (n : Nat) (k : Int32) (bs : Nat → Int32) (wl : Nat → Int32) (fd : Nat → Int32) (kd : Nat → Int32) (sz : Nat → Int32) (lk : Nat → Int32) (sd : Nat → Int32) (se : Nat → Int32) (sc : Nat → Int32) (ba : Nat → Int32) (pa : Nat → Int32) (ch : Nat → Int32) (x : Int32) (y : Int32) (z : Int32) (hn : 2 ≤ n) (hm : n ≤ 12) (hg : g ≤ 120) : mt_I l yX6_groyne wsX6_groyne { frames := 3, cells := 0, slots := 0, locals := 101 } D [(cA, .int)] [.ref (aX 0), .int x, .int y, .int z] (wX cA aX aB aT aN aG aW aD aO aV g t mk ++ wB cA aB n k bs wl fd kd sz lk ++ wS cA aN sd se sc ba pa ch) (bI (okGro g n x y z)) (wX cA aX aB aT aN aG aW aD aO aV g (cond (okGro g n x y z) (1) t) mk ++ wB cA aB n k bs wl fd (cond (okGro g n x y z) (upd kd x.toNatClampNeg (if y = 0 then 0 else 1)) kd) (cond (okGro g n x y z) (upd sz x.toNatClampNeg y) sz) (cond (okGro g n x y z) (upd lk x.toNatClampNeg z) lk) ++ wS cA aN (cond (okGro g n x y z) (bs) sd) (cond (okGro g n x y z) (fun _ => 0) se) (cond (okGro g n x y z) (fun _ => 0) sc) (cond (okGro g n x y z) (fun _ => 0) ba) (cond (okGro g n x y z) (fun _ => 0) pa) ch) := by
  refine mt_ofI (cc := cX6_groyne) (maxL := 4) (ret := (some .boolean)) (lv := [(0, .ref (aX 0)), (1, .int x), (2, .int y), (3, .int z)]) (by decide) rfl (Nat.le_of_ble_eq_true rfl) rfl ?_
  intro p e s m args below meth c A C hr hk
  have f_61 := C.hts (.fieldLink RX6 61 "ShoreFields" "weeksGone" "I") (by decide +kernel)
  have in_6 : ∀ w ∈ u_ws RX6 TX6 11, w ∈ wsX6_groyne := by decide +kernel
  have f_12 := C.hts (.fieldLink RX6 12 "ShoreFields" "begin" "LShoreFields$Begin;") (by decide +kernel)
  refine pt_aload_n (pc' := 1) C dX6_groyne_0 rfl 0 rfl ?_
  refine pt_get (pc' := 4) C in_6 dX6_groyne_1 rfl 0 9 rfl rfl (by decide) f_61 rfl ?_
  refine pt_if_gt (pc' := 7) (tgt := 18) C dX6_groyne_4 (by decide) rfl (fun h_4 => ?_) (fun h_4 => ?_)
  · refine pt_iconst (pc' := 19) C dX6_groyne_18 rfl (v := 0) (by decide) ?_
    exact pt_iret C hr hk dX6_groyne_19 (rfl) (by simp only [okGro, g0_f hg h_4, bI, cond_false, cond_true, Bool.and_true, Bool.true_and, Bool.and_false, Bool.false_and]) (by simp only [okGro, g0_f hg h_4, bI, cond_false, cond_true, Bool.and_true, Bool.true_and, Bool.and_false, Bool.false_and])
  · refine pt_aload_n (pc' := 8) C dX6_groyne_7 rfl 0 rfl ?_
    refine pt_get (pc' := 11) C in_6 dX6_groyne_8 rfl 0 0 rfl rfl (by decide) f_12 rfl ?_
    refine pt_iload_n (pc' := 12) C dX6_groyne_11 rfl 1 rfl ?_
    refine pt_cvI (pc' := 15) (ws' := wX cA aX aB aT aN aG aW aD aO aV g t mk ++ wB cA aB n k bs wl fd kd sz lk ++ wS cA aN sd se sc ba pa ch) (wr := wX cA aX aB aT aN aG aW aD aO aV g t mk ++ wS cA aN sd se sc ba pa ch) (As := [.int x]) (rest := []) C (mX0_liesBetweenFields l D cA aB n k bs wl fd kd sz lk x ) (cwV 1 C.hts gX6_groyne_X0_liesBetweenFields rfl rfl rfl (by decide +kernel) ⟨Nat.le_of_ble_eq_true rfl, Nat.le_of_ble_eq_true rfl⟩) dX6_groyne_12 rfl 2 rfl rfl rfl rfl rfl (Nat.le_of_ble_eq_true rfl) ⟨Nat.le_of_ble_eq_true rfl, Nat.le_of_ble_eq_true rfl⟩ [2, 3, 4, 5, 6, 7, 8] [0, 1, 9, 10, 11, 12, 13, 14, 15] [0, 1, 9, 10, 11, 12, 13, 14, 15, 2, 3, 4, 5, 6, 7, 8] rfl (by decide) rfl (by decide) (by decide) rfl (by decide) ?_
    refine pt_if_ne (pc' := 18) (tgt := 20) C dX6_groyne_15 (by decide) rfl (fun h_15 => ?_) (fun h_15 => ?_)
    · refine pt_iload_n (pc' := 21) C dX6_groyne_20 rfl 2 rfl ?_
      refine pt_iconst (pc' := 22) C dX6_groyne_21 rfl (v := 0) (by decide) ?_
      refine pt_sipush (pc' := 25) C dX6_groyne_22 rfl (v := 999) (by decide) ?_
      refine pt_csI0 (pc' := 28) (As := [.int y, .int 0, .int 999]) (rest := []) C (mX6_isWithin l D cA y 0 999 ) (va_cwS 3 C.hts gX6_groyne_X6_isWithin rfl rfl rfl (by decide +kernel) ⟨Nat.le_of_ble_eq_true rfl, Nat.le_of_ble_eq_true rfl⟩) dX6_groyne_25 rfl rfl rfl (Nat.le_of_ble_eq_true rfl) ⟨Nat.le_of_ble_eq_true rfl, Nat.le_of_ble_eq_true rfl⟩ ?_
      refine pt_if_eq (pc' := 31) (tgt := 41) C dX6_groyne_28 (by decide) rfl (fun h_28 => ?_) (fun h_28 => ?_)
      · refine pt_iconst (pc' := 42) C dX6_groyne_41 rfl (v := 0) (by decide) ?_
        exact pt_iret C hr hk dX6_groyne_42 (rfl) (by simp only [okGro, g0_t hg h_4, bI_t h_15, bI_f h_28, bI, cond_false, cond_true, Bool.and_true, Bool.true_and, Bool.and_false, Bool.false_and]) (by simp only [okGro, g0_t hg h_4, bI_t h_15, bI_f h_28, bI, cond_false, cond_true, Bool.and_true, Bool.true_and, Bool.and_false, Bool.false_and])
      · refine pt_iload_n (pc' := 32) C dX6_groyne_31 rfl 3 rfl ?_
        refine pt_iconst (pc' := 33) C dX6_groyne_32 rfl (v := 0) (by decide) ?_
        refine pt_bipush (pc' := 35) C dX6_groyne_33 rfl (v := 100) (by decide) ?_
        refine pt_csI0 (pc' := 38) (As := [.int z, .int 0, .int 100]) (rest := []) C (mX6_isWithin l D cA z 0 100 ) (va_cwS 3 C.hts gX6_groyne_X6_isWithin rfl rfl rfl (by decide +kernel) ⟨Nat.le_of_ble_eq_true rfl, Nat.le_of_ble_eq_true rfl⟩) dX6_groyne_35 rfl rfl rfl (Nat.le_of_ble_eq_true rfl) ⟨Nat.le_of_ble_eq_true rfl, Nat.le_of_ble_eq_true rfl⟩ ?_
        refine pt_if_ne (pc' := 41) (tgt := 43) C dX6_groyne_38 (by decide) rfl (fun h_38 => ?_) (fun h_38 => ?_)
        · refine pt_aload_n (pc' := 44) C dX6_groyne_43 rfl 0 rfl ?_
          refine pt_get (pc' := 47) C in_6 dX6_groyne_44 rfl 0 0 rfl rfl (by decide) f_12 rfl ?_
          refine pt_iload_n (pc' := 48) C dX6_groyne_47 rfl 1 rfl ?_
          refine pt_iload_n (pc' := 49) C dX6_groyne_48 rfl 2 rfl ?_
          refine pt_jn (q := 57) (k := 0) (n := 0) (wX cA aX aB aT aN aG aW aD aO aV g t mk ++ wB cA aB n k bs wl fd kd sz lk ++ wS cA aN sd se sc ba pa ch) [(0, .ref (aX 0)), (1, .int x), (2, .int y), (3, .int z)] [.int (if y = 0 then 0 else 1), .int x, .ref (aB 0)] (fun K => ?_) ?_
          · refine pt_if_ne (pc' := 52) (tgt := 56) C dX6_groyne_49 (by decide) rfl (fun h_49 => ?_) (fun h_49 => ?_)
            · refine pt_iconst (pc' := 57) C dX6_groyne_56 rfl (v := 1) (by decide) ?_
              exact pt_cv (lv' := [(0, .ref (aX 0)), (1, .int x), (2, .int y), (3, .int z)]) rfl [0, 1, 2, 3] rfl rfl (by simpa only [if_neg h_49] using K)
            · refine pt_iconst (pc' := 53) C dX6_groyne_52 rfl (v := 0) (by decide) ?_
              refine pt_goto (pc' := 57) C dX6_groyne_53 (by decide) ?_
              exact pt_cv (lv' := [(0, .ref (aX 0)), (1, .int x), (2, .int y), (3, .int z)]) rfl [0, 1, 2, 3] rfl rfl (by simpa only [if_pos h_49] using K)
          refine pt_iload_n (pc' := 58) C dX6_groyne_57 rfl 2 rfl ?_
          refine pt_iload_n (pc' := 59) C dX6_groyne_58 rfl 3 rfl ?_
          refine pt_eq (st' := [.int z, .int y, .int (if y = 0 then 0 else 1), .int (nI x.toNatClampNeg), .ref (aB 0)]) rfl rfl (by rw [← (inI_in hm (bI_t h_15)).1]) ?_
          refine pt_cvV (pc' := 62) (ws' := wX cA aX aB aT aN aG aW aD aO aV g t mk ++ wB cA aB n k bs wl fd (upd kd x.toNatClampNeg (if y = 0 then 0 else 1)) (upd sz x.toNatClampNeg y) (upd lk x.toNatClampNeg z) ++ wS cA aN sd se sc ba pa ch) (wr := wX cA aX aB aT aN aG aW aD aO aV g t mk ++ wS cA aN sd se sc ba pa ch) (As := [.int (nI x.toNatClampNeg), .int (if y = 0 then 0 else 1), .int y, .int z]) (rest := []) C (mX0_build l D cA aB n k bs wl fd kd sz lk x.toNatClampNeg (if y = 0 then 0 else 1) y z (by have := (inI_in hm (bI_t h_15)).2.2; omega)) (cwV 4 C.hts gX6_groyne_X0_build rfl rfl rfl (by decide +kernel) ⟨Nat.le_of_ble_eq_true rfl, Nat.le_of_ble_eq_true rfl⟩) dX6_groyne_59 rfl 2 rfl rfl rfl rfl rfl (Nat.le_of_ble_eq_true rfl) ⟨Nat.le_of_ble_eq_true rfl, Nat.le_of_ble_eq_true rfl⟩ [2, 3, 4, 5, 6, 7, 8] [0, 1, 9, 10, 11, 12, 13, 14, 15] [0, 1, 9, 10, 11, 12, 13, 14, 15, 2, 3, 4, 5, 6, 7, 8] rfl (by decide) rfl (by decide) (by decide) rfl (by decide) ?_
          refine pt_aload_n (pc' := 63) C dX6_groyne_62 rfl 0 rfl ?_
          refine pt_cvV0 (pc' := 66) (w1 := wX cA aX aB aT aN aG aW aD aO aV g 1 mk ++ wB cA aB n k bs wl fd (upd kd x.toNatClampNeg (if y = 0 then 0 else 1)) (upd sz x.toNatClampNeg y) (upd lk x.toNatClampNeg z) ++ wS cA aN bs (fun _ => 0) (fun _ => 0) (fun _ => 0) (fun _ => 0) ch) (As := []) (rest := []) C (mX6_takeInBegin l D cA aX aB aT aN aG aW aD aO aV g t mk n k bs wl fd (upd kd x.toNatClampNeg (if y = 0 then 0 else 1)) (upd sz x.toNatClampNeg y) (upd lk x.toNatClampNeg z) sd se sc ba pa ch ) (cwV 0 C.hts gX6_groyne_X6_takeInBegin rfl rfl rfl (by decide +kernel) ⟨Nat.le_of_ble_eq_true rfl, Nat.le_of_ble_eq_true rfl⟩) dX6_groyne_63 rfl 0 rfl rfl rfl rfl rfl (Nat.le_of_ble_eq_true rfl) ⟨Nat.le_of_ble_eq_true rfl, Nat.le_of_ble_eq_true rfl⟩ ?_
          refine pt_iconst (pc' := 67) C dX6_groyne_66 rfl (v := 1) (by decide) ?_
          exact pt_iret C hr hk dX6_groyne_67 (rfl) (by simp only [okGro, g0_t hg h_4, bI_t h_15, bI_t h_28, bI_t h_38, bI, cond_false, cond_true, Bool.and_true, Bool.true_and, Bool.and_false, Bool.false_and]) (by simp only [okGro, g0_t hg h_4, bI_t h_15, bI_t h_28, bI_t h_38, bI, cond_false, cond_true, Bool.and_true, Bool.true_and, Bool.and_false, Bool.false_and])
        · refine pt_iconst (pc' := 42) C dX6_groyne_41 rfl (v := 0) (by decide) ?_
          exact pt_iret C hr hk dX6_groyne_42 (rfl) (by simp only [okGro, g0_t hg h_4, bI_t h_15, bI_t h_28, bI_f h_38, bI, cond_false, cond_true, Bool.and_true, Bool.true_and, Bool.and_false, Bool.false_and]) (by simp only [okGro, g0_t hg h_4, bI_t h_15, bI_t h_28, bI_f h_38, bI, cond_false, cond_true, Bool.and_true, Bool.true_and, Bool.and_false, Bool.false_and])
    · refine pt_iconst (pc' := 19) C dX6_groyne_18 rfl (v := 0) (by decide) ?_
      exact pt_iret C hr hk dX6_groyne_19 (rfl) (by simp only [okGro, g0_t hg h_4, bI_f h_15, bI, cond_false, cond_true, Bool.and_true, Bool.true_and, Bool.and_false, Bool.false_and]) (by simp only [okGro, g0_t hg h_4, bI_f h_15, bI, cond_false, cond_true, Bool.and_true, Bool.true_and, Bool.and_false, Bool.false_and])

set_option maxHeartbeats 4000000 in
set_option maxRecDepth 100000 in
theorem mX6_mouth (l : Launch) (D : va_G) (cA : ClassId) (aX : Nat → Nat) (aB : Nat → Nat) (aT : Nat → Nat) (aN : Nat → Nat) (aG : Nat → Nat) (aW : Nat → Nat) (aD : Nat → Nat) (aO : Nat → Nat) (aV : Nat → Nat) (g : Nat) (t : Int32) (mk : Nat → Int32) (n : Nat) (k : Int32) (bs : Nat → Int32) (wl : Nat → Int32) (fd : Nat → Int32) (kd : Nat → Int32) (sz : Nat → Int32) (lk : Nat → Int32) (sd : Nat → Int32) (se : Nat → Int32) (sc : Nat → Int32) (ba : Nat → Int32) (pa : Nat → Int32) (ch : Nat → Int32) (x : Int32) (y : Int32) (hn : 2 ≤ n) (hm : n ≤ 12) (hg : g ≤ 120) : mt_I l yX6_mouth wsX6_mouth { frames := 3, cells := 0, slots := 0, locals := 101 } D [(cA, .int)] [.ref (aX 0), .int x, .int y] (wX cA aX aB aT aN aG aW aD aO aV g t mk ++ wB cA aB n k bs wl fd kd sz lk ++ wS cA aN sd se sc ba pa ch) (bI (okMou g n x y)) (wX cA aX aB aT aN aG aW aD aO aV g (cond (okMou g n x y) (1) t) mk ++ wB cA aB n k bs wl fd (cond (okMou g n x y) (upd kd x.toNatClampNeg 2) kd) (cond (okMou g n x y) (upd sz x.toNatClampNeg y) sz) (cond (okMou g n x y) (upd lk x.toNatClampNeg 0) lk) ++ wS cA aN (cond (okMou g n x y) (bs) sd) (cond (okMou g n x y) (fun _ => 0) se) (cond (okMou g n x y) (fun _ => 0) sc) (cond (okMou g n x y) (fun _ => 0) ba) (cond (okMou g n x y) (fun _ => 0) pa) ch) := by
  refine mt_ofI (cc := cX6_mouth) (maxL := 3) (ret := (some .boolean)) (lv := [(0, .ref (aX 0)), (1, .int x), (2, .int y)]) (by decide) rfl (Nat.le_of_ble_eq_true rfl) rfl ?_
  intro p e s m args below meth c A C hr hk
  have f_61 := C.hts (.fieldLink RX6 61 "ShoreFields" "weeksGone" "I") (by decide +kernel)
  have in_6 : ∀ w ∈ u_ws RX6 TX6 11, w ∈ wsX6_mouth := by decide +kernel
  have f_12 := C.hts (.fieldLink RX6 12 "ShoreFields" "begin" "LShoreFields$Begin;") (by decide +kernel)
  refine pt_aload_n (pc' := 1) C dX6_mouth_0 rfl 0 rfl ?_
  refine pt_get (pc' := 4) C in_6 dX6_mouth_1 rfl 0 9 rfl rfl (by decide) f_61 rfl ?_
  refine pt_if_gt (pc' := 7) (tgt := 28) C dX6_mouth_4 (by decide) rfl (fun h_4 => ?_) (fun h_4 => ?_)
  · refine pt_iconst (pc' := 29) C dX6_mouth_28 rfl (v := 0) (by decide) ?_
    exact pt_iret C hr hk dX6_mouth_29 (rfl) (by simp only [okMou, g0_f hg h_4, bI, cond_false, cond_true, Bool.and_true, Bool.true_and, Bool.and_false, Bool.false_and]) (by simp only [okMou, g0_f hg h_4, bI, cond_false, cond_true, Bool.and_true, Bool.true_and, Bool.and_false, Bool.false_and])
  · refine pt_aload_n (pc' := 8) C dX6_mouth_7 rfl 0 rfl ?_
    refine pt_get (pc' := 11) C in_6 dX6_mouth_8 rfl 0 0 rfl rfl (by decide) f_12 rfl ?_
    refine pt_iload_n (pc' := 12) C dX6_mouth_11 rfl 1 rfl ?_
    refine pt_cvI (pc' := 15) (ws' := wX cA aX aB aT aN aG aW aD aO aV g t mk ++ wB cA aB n k bs wl fd kd sz lk ++ wS cA aN sd se sc ba pa ch) (wr := wX cA aX aB aT aN aG aW aD aO aV g t mk ++ wS cA aN sd se sc ba pa ch) (As := [.int x]) (rest := []) C (mX0_liesBetweenFields l D cA aB n k bs wl fd kd sz lk x ) (cwV 1 C.hts gX6_mouth_X0_liesBetweenFields rfl rfl rfl (by decide +kernel) ⟨Nat.le_of_ble_eq_true rfl, Nat.le_of_ble_eq_true rfl⟩) dX6_mouth_12 rfl 2 rfl rfl rfl rfl rfl (Nat.le_of_ble_eq_true rfl) ⟨Nat.le_of_ble_eq_true rfl, Nat.le_of_ble_eq_true rfl⟩ [2, 3, 4, 5, 6, 7, 8] [0, 1, 9, 10, 11, 12, 13, 14, 15] [0, 1, 9, 10, 11, 12, 13, 14, 15, 2, 3, 4, 5, 6, 7, 8] rfl (by decide) rfl (by decide) (by decide) rfl (by decide) ?_
    refine pt_if_eq (pc' := 18) (tgt := 28) C dX6_mouth_15 (by decide) rfl (fun h_15 => ?_) (fun h_15 => ?_)
    · refine pt_iconst (pc' := 29) C dX6_mouth_28 rfl (v := 0) (by decide) ?_
      exact pt_iret C hr hk dX6_mouth_29 (rfl) (by simp only [okMou, g0_t hg h_4, bI_f h_15, bI, cond_false, cond_true, Bool.and_true, Bool.true_and, Bool.and_false, Bool.false_and]) (by simp only [okMou, g0_t hg h_4, bI_f h_15, bI, cond_false, cond_true, Bool.and_true, Bool.true_and, Bool.and_false, Bool.false_and])
    · refine pt_iload_n (pc' := 19) C dX6_mouth_18 rfl 2 rfl ?_
      refine pt_iconst (pc' := 20) C dX6_mouth_19 rfl (v := 0) (by decide) ?_
      refine pt_bipush (pc' := 22) C dX6_mouth_20 rfl (v := 100) (by decide) ?_
      refine pt_csI0 (pc' := 25) (As := [.int y, .int 0, .int 100]) (rest := []) C (mX6_isWithin l D cA y 0 100 ) (va_cwS 3 C.hts gX6_mouth_X6_isWithin rfl rfl rfl (by decide +kernel) ⟨Nat.le_of_ble_eq_true rfl, Nat.le_of_ble_eq_true rfl⟩) dX6_mouth_22 rfl rfl rfl (Nat.le_of_ble_eq_true rfl) ⟨Nat.le_of_ble_eq_true rfl, Nat.le_of_ble_eq_true rfl⟩ ?_
      refine pt_if_ne (pc' := 28) (tgt := 30) C dX6_mouth_25 (by decide) rfl (fun h_25 => ?_) (fun h_25 => ?_)
      · refine pt_aload_n (pc' := 31) C dX6_mouth_30 rfl 0 rfl ?_
        refine pt_get (pc' := 34) C in_6 dX6_mouth_31 rfl 0 0 rfl rfl (by decide) f_12 rfl ?_
        refine pt_iload_n (pc' := 35) C dX6_mouth_34 rfl 1 rfl ?_
        refine pt_iconst (pc' := 36) C dX6_mouth_35 rfl (v := 2) (by decide) ?_
        refine pt_iload_n (pc' := 37) C dX6_mouth_36 rfl 2 rfl ?_
        refine pt_iconst (pc' := 38) C dX6_mouth_37 rfl (v := 0) (by decide) ?_
        refine pt_eq (st' := [.int 0, .int y, .int 2, .int (nI x.toNatClampNeg), .ref (aB 0)]) rfl rfl (by rw [← (inI_in hm (bI_t h_15)).1]) ?_
        refine pt_cvV (pc' := 41) (ws' := wX cA aX aB aT aN aG aW aD aO aV g t mk ++ wB cA aB n k bs wl fd (upd kd x.toNatClampNeg 2) (upd sz x.toNatClampNeg y) (upd lk x.toNatClampNeg 0) ++ wS cA aN sd se sc ba pa ch) (wr := wX cA aX aB aT aN aG aW aD aO aV g t mk ++ wS cA aN sd se sc ba pa ch) (As := [.int (nI x.toNatClampNeg), .int 2, .int y, .int 0]) (rest := []) C (mX0_build l D cA aB n k bs wl fd kd sz lk x.toNatClampNeg 2 y 0 (by have := (inI_in hm (bI_t h_15)).2.2; omega)) (cwV 4 C.hts gX6_mouth_X0_build rfl rfl rfl (by decide +kernel) ⟨Nat.le_of_ble_eq_true rfl, Nat.le_of_ble_eq_true rfl⟩) dX6_mouth_38 rfl 2 rfl rfl rfl rfl rfl (Nat.le_of_ble_eq_true rfl) ⟨Nat.le_of_ble_eq_true rfl, Nat.le_of_ble_eq_true rfl⟩ [2, 3, 4, 5, 6, 7, 8] [0, 1, 9, 10, 11, 12, 13, 14, 15] [0, 1, 9, 10, 11, 12, 13, 14, 15, 2, 3, 4, 5, 6, 7, 8] rfl (by decide) rfl (by decide) (by decide) rfl (by decide) ?_
        refine pt_aload_n (pc' := 42) C dX6_mouth_41 rfl 0 rfl ?_
        refine pt_cvV0 (pc' := 45) (w1 := wX cA aX aB aT aN aG aW aD aO aV g 1 mk ++ wB cA aB n k bs wl fd (upd kd x.toNatClampNeg 2) (upd sz x.toNatClampNeg y) (upd lk x.toNatClampNeg 0) ++ wS cA aN bs (fun _ => 0) (fun _ => 0) (fun _ => 0) (fun _ => 0) ch) (As := []) (rest := []) C (mX6_takeInBegin l D cA aX aB aT aN aG aW aD aO aV g t mk n k bs wl fd (upd kd x.toNatClampNeg 2) (upd sz x.toNatClampNeg y) (upd lk x.toNatClampNeg 0) sd se sc ba pa ch ) (cwV 0 C.hts gX6_mouth_X6_takeInBegin rfl rfl rfl (by decide +kernel) ⟨Nat.le_of_ble_eq_true rfl, Nat.le_of_ble_eq_true rfl⟩) dX6_mouth_42 rfl 0 rfl rfl rfl rfl rfl (Nat.le_of_ble_eq_true rfl) ⟨Nat.le_of_ble_eq_true rfl, Nat.le_of_ble_eq_true rfl⟩ ?_
        refine pt_iconst (pc' := 46) C dX6_mouth_45 rfl (v := 1) (by decide) ?_
        exact pt_iret C hr hk dX6_mouth_46 (rfl) (by simp only [okMou, g0_t hg h_4, bI_t h_15, bI_t h_25, bI, cond_false, cond_true, Bool.and_true, Bool.true_and, Bool.and_false, Bool.false_and]) (by simp only [okMou, g0_t hg h_4, bI_t h_15, bI_t h_25, bI, cond_false, cond_true, Bool.and_true, Bool.true_and, Bool.and_false, Bool.false_and])
      · refine pt_iconst (pc' := 29) C dX6_mouth_28 rfl (v := 0) (by decide) ?_
        exact pt_iret C hr hk dX6_mouth_29 (rfl) (by simp only [okMou, g0_t hg h_4, bI_t h_15, bI_f h_25, bI, cond_false, cond_true, Bool.and_true, Bool.true_and, Bool.and_false, Bool.false_and]) (by simp only [okMou, g0_t hg h_4, bI_t h_15, bI_f h_25, bI, cond_false, cond_true, Bool.and_true, Bool.true_and, Bool.and_false, Bool.false_and])

set_option maxHeartbeats 4000000 in
set_option maxRecDepth 100000 in
theorem mX6_fields (l : Launch) (D : va_G) (cA : ClassId) (aX : Nat → Nat) (aB : Nat → Nat) (aT : Nat → Nat) (aN : Nat → Nat) (aG : Nat → Nat) (aW : Nat → Nat) (aD : Nat → Nat) (aO : Nat → Nat) (aV : Nat → Nat) (g : Nat) (t : Int32) (mk : Nat → Int32) (n : Nat) (k : Int32) (bs : Nat → Int32) (wl : Nat → Int32) (fd : Nat → Int32) (kd : Nat → Int32) (sz : Nat → Int32) (lk : Nat → Int32) (x : Int32) (hn : 2 ≤ n) (hm : n ≤ 12) : mt_I l yX6_fields wsX6_fields { frames := 1, cells := 0, slots := 0, locals := 22 } D [(cA, .int)] [.ref (aX 0), .int x] (wX cA aX aB aT aN aG aW aD aO aV g t mk ++ wB cA aB n k bs wl fd kd sz lk) (bI (okFie t x)) (wX cA aX aB aT aN aG aW aD aO aV g t mk ++ wB cA aB (cond (okFie t x) (x.toNatClampNeg) n) k bs wl fd kd sz lk) := by
  refine mt_ofI (cc := cX6_fields) (maxL := 2) (ret := (some .boolean)) (lv := [(0, .ref (aX 0)), (1, .int x)]) (by decide) rfl (Nat.le_of_ble_eq_true rfl) rfl ?_
  intro p e s m args below meth c A C hr hk
  have f_65 := C.hts (.fieldLink RX6 65 "ShoreFields" "anythingTold" "Z") (by decide +kernel)
  have in_6 : ∀ w ∈ u_ws RX6 TX6 11, w ∈ wsX6_fields := by decide +kernel
  have f_12 := C.hts (.fieldLink RX6 12 "ShoreFields" "begin" "LShoreFields$Begin;") (by decide +kernel)
  have f_77 := C.hts (.fieldLink RX6 77 "ShoreFields$Begin" "fieldCount" "I") (by decide +kernel)
  have in_0 : ∀ w ∈ u_ws RX0 TX0 8, w ∈ wsX6_fields := by decide +kernel
  refine pt_iload_n (pc' := 1) C dX6_fields_0 rfl 1 rfl ?_
  refine pt_iconst (pc' := 2) C dX6_fields_1 rfl (v := 2) (by decide) ?_
  refine pt_bipush (pc' := 4) C dX6_fields_2 rfl (v := 12) (by decide) ?_
  refine pt_csI0 (pc' := 7) (As := [.int x, .int 2, .int 12]) (rest := []) C (mX6_isWithin l D cA x 2 12 ) (va_cwS 3 C.hts gX6_fields_X6_isWithin rfl rfl rfl (by decide +kernel) ⟨Nat.le_of_ble_eq_true rfl, Nat.le_of_ble_eq_true rfl⟩) dX6_fields_4 rfl rfl rfl (Nat.le_of_ble_eq_true rfl) ⟨Nat.le_of_ble_eq_true rfl, Nat.le_of_ble_eq_true rfl⟩ ?_
  refine pt_if_eq (pc' := 10) (tgt := 17) C dX6_fields_7 (by decide) rfl (fun h_7 => ?_) (fun h_7 => ?_)
  · refine pt_iconst (pc' := 18) C dX6_fields_17 rfl (v := 0) (by decide) ?_
    exact pt_iret C hr hk dX6_fields_18 (rfl) (by simp only [okFie, bI_f h_7, bI, cond_false, cond_true, Bool.and_true, Bool.true_and, Bool.and_false, Bool.false_and]) (by simp only [okFie, bI_f h_7, bI, cond_false, cond_true, Bool.and_true, Bool.true_and, Bool.and_false, Bool.false_and])
  · refine pt_aload_n (pc' := 11) C dX6_fields_10 rfl 0 rfl ?_
    refine pt_get (pc' := 14) C in_6 dX6_fields_11 rfl 0 10 rfl rfl (by decide) f_65 rfl ?_
    refine pt_if_eq (pc' := 17) (tgt := 19) C dX6_fields_14 (by decide) rfl (fun h_14 => ?_) (fun h_14 => ?_)
    · refine pt_aload_n (pc' := 20) C dX6_fields_19 rfl 0 rfl ?_
      refine pt_get (pc' := 23) C in_6 dX6_fields_20 rfl 0 0 rfl rfl (by decide) f_12 rfl ?_
      refine pt_iload_n (pc' := 24) C dX6_fields_23 rfl 1 rfl ?_
      refine pt_eq (st' := [.int (nI x.toNatClampNeg), .ref (aB 0)]) rfl rfl (by rw [← (inR_in (b := 12) (inR_lo (bI_t h_7)) (by decide)).1]) ?_
      refine pt_put (pc' := 27) (ty := .int) (ws' := wX cA aX aB aT aN aG aW aD aO aV g t mk ++ wB cA aB x.toNatClampNeg k bs wl fd kd sz lk) C in_0 tyX0 tyX0_ok nmX0 dX6_fields_24 rfl 2 0 rfl rfl (by decide) f_77 rfl (by decide +kernel) (rfl) (rfl) (Nat.le_of_ble_eq_true rfl) rfl ?_
      refine pt_iconst (pc' := 28) C dX6_fields_27 rfl (v := 1) (by decide) ?_
      exact pt_iret C hr hk dX6_fields_28 (rfl) (by simp only [okFie, bI_t h_7, if_pos h_14, bI, cond_false, cond_true, Bool.and_true, Bool.true_and, Bool.and_false, Bool.false_and]) (by simp only [okFie, bI_t h_7, if_pos h_14, bI, cond_false, cond_true, Bool.and_true, Bool.true_and, Bool.and_false, Bool.false_and])
    · refine pt_iconst (pc' := 18) C dX6_fields_17 rfl (v := 0) (by decide) ?_
      exact pt_iret C hr hk dX6_fields_18 (rfl) (by simp only [okFie, bI_t h_7, if_neg h_14, bI, cond_false, cond_true, Bool.and_true, Bool.true_and, Bool.and_false, Bool.false_and]) (by simp only [okFie, bI_t h_7, if_neg h_14, bI, cond_false, cond_true, Bool.and_true, Bool.true_and, Bool.and_false, Bool.false_and])

set_option maxHeartbeats 4000000 in
set_option maxRecDepth 100000 in
theorem mX6_wave (l : Launch) (D : va_G) (cA : ClassId) (aX : Nat → Nat) (aB : Nat → Nat) (aT : Nat → Nat) (aN : Nat → Nat) (aG : Nat → Nat) (aW : Nat → Nat) (aD : Nat → Nat) (aO : Nat → Nat) (aV : Nat → Nat) (g : Nat) (t : Int32) (mk : Nat → Int32) (td : Nat) (he : Nat → Int32) (si : Nat → Int32) (x : Int32) (y : Int32) (ht : td ≤ 120) : mt_I l yX6_wave wsX6_wave { frames := 1, cells := 0, slots := 0, locals := 22 } D [(cA, .int)] [.ref (aX 0), .int x, .int y] (wX cA aX aB aT aN aG aW aD aO aV g t mk ++ wW cA aW td he si) (cond (okWav td x y) (nI (td + 1)) (-1)) (wX cA aX aB aT aN aG aW aD aO aV g (cond (okWav td x y) (1) t) mk ++ wW cA aW (cond (okWav td x y) (td + 1) td) (cond (okWav td x y) (upd he td x) he) (cond (okWav td x y) (upd si td y) si)) := by
  refine mt_ofI (cc := cX6_wave) (maxL := 3) (ret := (some .int)) (lv := [(0, .ref (aX 0)), (1, .int x), (2, .int y)]) (by decide) rfl (Nat.le_of_ble_eq_true rfl) rfl ?_
  intro p e s m args below meth c A C hr hk
  have f_32 := C.hts (.fieldLink RX6 32 "ShoreFields" "weather" "LShoreFields$Weather;") (by decide +kernel)
  have in_6 : ∀ w ∈ u_ws RX6 TX6 11, w ∈ wsX6_wave := by decide +kernel
  have f_107 := C.hts (.fieldLink RX6 107 "ShoreFields$Weather" "size" "I") (by decide +kernel)
  have in_4 : ∀ w ∈ u_ws RX4 TX4 3, w ∈ wsX6_wave := by decide +kernel
  have f_65 := C.hts (.fieldLink RX6 65 "ShoreFields" "anythingTold" "Z") (by decide +kernel)
  refine pt_iload_n (pc' := 1) C dX6_wave_0 rfl 1 rfl ?_
  refine pt_iconst (pc' := 2) C dX6_wave_1 rfl (v := 0) (by decide) ?_
  refine pt_bipush (pc' := 4) C dX6_wave_2 rfl (v := 9) (by decide) ?_
  refine pt_csI0 (pc' := 7) (As := [.int x, .int 0, .int 9]) (rest := []) C (mX6_isWithin l D cA x 0 9 ) (va_cwS 3 C.hts gX6_wave_X6_isWithin rfl rfl rfl (by decide +kernel) ⟨Nat.le_of_ble_eq_true rfl, Nat.le_of_ble_eq_true rfl⟩) dX6_wave_4 rfl rfl rfl (Nat.le_of_ble_eq_true rfl) ⟨Nat.le_of_ble_eq_true rfl, Nat.le_of_ble_eq_true rfl⟩ ?_
  refine pt_if_eq (pc' := 10) (tgt := 31) C dX6_wave_7 (by decide) rfl (fun h_7 => ?_) (fun h_7 => ?_)
  · refine pt_iconst (pc' := 32) C dX6_wave_31 rfl (v := -1) (by decide) ?_
    exact pt_iret C hr hk dX6_wave_32 (rfl) (by simp only [okWav, bI_f h_7, bI, cond_false, cond_true, Bool.and_true, Bool.true_and, Bool.and_false, Bool.false_and]) (by simp only [okWav, bI_f h_7, bI, cond_false, cond_true, Bool.and_true, Bool.true_and, Bool.and_false, Bool.false_and])
  · refine pt_iload_n (pc' := 11) C dX6_wave_10 rfl 2 rfl ?_
    refine pt_iconst (pc' := 12) C dX6_wave_11 rfl (v := 0) (by decide) ?_
    refine pt_iconst (pc' := 13) C dX6_wave_12 rfl (v := 2) (by decide) ?_
    refine pt_csI0 (pc' := 16) (As := [.int y, .int 0, .int 2]) (rest := []) C (mX6_isWithin l D cA y 0 2 ) (va_cwS 3 C.hts gX6_wave_X6_isWithin rfl rfl rfl (by decide +kernel) ⟨Nat.le_of_ble_eq_true rfl, Nat.le_of_ble_eq_true rfl⟩) dX6_wave_13 rfl rfl rfl (Nat.le_of_ble_eq_true rfl) ⟨Nat.le_of_ble_eq_true rfl, Nat.le_of_ble_eq_true rfl⟩ ?_
    refine pt_if_eq (pc' := 19) (tgt := 31) C dX6_wave_16 (by decide) rfl (fun h_16 => ?_) (fun h_16 => ?_)
    · refine pt_iconst (pc' := 32) C dX6_wave_31 rfl (v := -1) (by decide) ?_
      exact pt_iret C hr hk dX6_wave_32 (rfl) (by simp only [okWav, bI_t h_7, bI_f h_16, bI, cond_false, cond_true, Bool.and_true, Bool.true_and, Bool.and_false, Bool.false_and]) (by simp only [okWav, bI_t h_7, bI_f h_16, bI, cond_false, cond_true, Bool.and_true, Bool.true_and, Bool.and_false, Bool.false_and])
    · refine pt_aload_n (pc' := 20) C dX6_wave_19 rfl 0 rfl ?_
      refine pt_get (pc' := 23) C in_6 dX6_wave_20 rfl 0 4 rfl rfl (by decide) f_32 rfl ?_
      refine pt_get (pc' := 26) C in_4 dX6_wave_23 rfl 2 0 rfl rfl (by decide) f_107 rfl ?_
      refine pt_bipush (pc' := 28) C dX6_wave_26 rfl (v := 120) (by decide) ?_
      refine pt_icmp_lt (pc' := 31) (tgt := 33) C dX6_wave_28 (by decide) rfl (fun h_28 => ?_) (fun h_28 => ?_)
      · refine pt_aload_n (pc' := 34) C dX6_wave_33 rfl 0 rfl ?_
        refine pt_get (pc' := 37) C in_6 dX6_wave_34 rfl 0 4 rfl rfl (by decide) f_32 rfl ?_
        refine pt_iload_n (pc' := 38) C dX6_wave_37 rfl 1 rfl ?_
        refine pt_iload_n (pc' := 39) C dX6_wave_38 rfl 2 rfl ?_
        refine pt_cvV (pc' := 42) (ws' := wX cA aX aB aT aN aG aW aD aO aV g t mk ++ wW cA aW (td + 1) (upd he td x) (upd si td y)) (wr := wX cA aX aB aT aN aG aW aD aO aV g t mk) (As := [.int x, .int y]) (rest := []) C (mX4_add l D cA aW td he si x y (of_decide_eq_true (dl_t (by decide) (by omega) h_28))) (cwV 2 C.hts gX6_wave_X4_add rfl rfl rfl (by decide +kernel) ⟨Nat.le_of_ble_eq_true rfl, Nat.le_of_ble_eq_true rfl⟩) dX6_wave_39 rfl 2 rfl rfl rfl rfl rfl (Nat.le_of_ble_eq_true rfl) ⟨Nat.le_of_ble_eq_true rfl, Nat.le_of_ble_eq_true rfl⟩ [2, 3, 4] [0, 1] [0, 1, 2, 3, 4] rfl (by decide) rfl (by decide) (by decide) rfl (by decide) ?_
        refine pt_aload_n (pc' := 43) C dX6_wave_42 rfl 0 rfl ?_
        refine pt_iconst (pc' := 44) C dX6_wave_43 rfl (v := 1) (by decide) ?_
        refine pt_put (pc' := 47) (ty := .boolean) (ws' := wX cA aX aB aT aN aG aW aD aO aV g 1 mk ++ wW cA aW (td + 1) (upd he td x) (upd si td y)) C in_6 tyX6 tyX6_ok nmX6 dX6_wave_44 rfl 0 10 rfl rfl (by decide) f_65 rfl (by decide +kernel) (rfl) (rfl) (Nat.le_of_ble_eq_true rfl) rfl ?_
        refine pt_aload_n (pc' := 48) C dX6_wave_47 rfl 0 rfl ?_
        refine pt_get (pc' := 51) C in_6 dX6_wave_48 rfl 0 4 rfl rfl (by decide) f_32 rfl ?_
        refine pt_get (pc' := 54) C in_4 dX6_wave_51 rfl 2 0 rfl rfl (by decide) f_107 rfl ?_
        exact pt_iret C hr hk dX6_wave_54 (rfl) (by simp only [okWav, bI_t h_7, bI_t h_16, dl_t (by decide) (by omega) h_28, bI, cond_false, cond_true, Bool.and_true, Bool.true_and, Bool.and_false, Bool.false_and]) (by simp only [okWav, bI_t h_7, bI_t h_16, dl_t (by decide) (by omega) h_28, bI, cond_false, cond_true, Bool.and_true, Bool.true_and, Bool.and_false, Bool.false_and])
      · refine pt_iconst (pc' := 32) C dX6_wave_31 rfl (v := -1) (by decide) ?_
        exact pt_iret C hr hk dX6_wave_32 (rfl) (by simp only [okWav, bI_t h_7, bI_t h_16, dl_f (by decide) (by omega) h_28, bI, cond_false, cond_true, Bool.and_true, Bool.true_and, Bool.and_false, Bool.false_and]) (by simp only [okWav, bI_t h_7, bI_t h_16, dl_f (by decide) (by omega) h_28, bI, cond_false, cond_true, Bool.and_true, Bool.true_and, Bool.and_false, Bool.false_and])

set_option maxHeartbeats 4000000 in
set_option maxRecDepth 100000 in
theorem mX6_mark (l : Launch) (D : va_G) (cA : ClassId) (aX : Nat → Nat) (aB : Nat → Nat) (aT : Nat → Nat) (aN : Nat → Nat) (aG : Nat → Nat) (aW : Nat → Nat) (aD : Nat → Nat) (aO : Nat → Nat) (aV : Nat → Nat) (g : Nat) (t : Int32) (mk : Nat → Int32) (n : Nat) (k : Int32) (bs : Nat → Int32) (wl : Nat → Int32) (fd : Nat → Int32) (kd : Nat → Int32) (sz : Nat → Int32) (lk : Nat → Int32) (x : Int32) (y : Int32) (hn : 2 ≤ n) (hm : n ≤ 12) : mt_I l yX6_mark wsX6_mark { frames := 1, cells := 0, slots := 0, locals := 22 } D [(cA, .int)] [.ref (aX 0), .int x, .int y] (wX cA aX aB aT aN aG aW aD aO aV g t mk ++ wB cA aB n k bs wl fd kd sz lk) (bI (okMar n x y)) (wX cA aX aB aT aN aG aW aD aO aV g (cond (okMar n x y) (1) t) (cond (okMar n x y) (upd mk x.toNatClampNeg y) mk) ++ wB cA aB n k bs wl fd kd sz lk) := by
  refine mt_ofI (cc := cX6_mark) (maxL := 3) (ret := (some .boolean)) (lv := [(0, .ref (aX 0)), (1, .int x), (2, .int y)]) (by decide) rfl (Nat.le_of_ble_eq_true rfl) rfl ?_
  intro p e s m args below meth c A C hr hk
  have f_12 := C.hts (.fieldLink RX6 12 "ShoreFields" "begin" "LShoreFields$Begin;") (by decide +kernel)
  have in_6 : ∀ w ∈ u_ws RX6 TX6 11, w ∈ wsX6_mark := by decide +kernel
  have f_57 := C.hts (.fieldLink RX6 57 "ShoreFields" "marks" "[I") (by decide +kernel)
  have f_65 := C.hts (.fieldLink RX6 65 "ShoreFields" "anythingTold" "Z") (by decide +kernel)
  refine pt_aload_n (pc' := 1) C dX6_mark_0 rfl 0 rfl ?_
  refine pt_get (pc' := 4) C in_6 dX6_mark_1 rfl 0 0 rfl rfl (by decide) f_12 rfl ?_
  refine pt_iload_n (pc' := 5) C dX6_mark_4 rfl 1 rfl ?_
  refine pt_cvI (pc' := 8) (ws' := wX cA aX aB aT aN aG aW aD aO aV g t mk ++ wB cA aB n k bs wl fd kd sz lk) (wr := wX cA aX aB aT aN aG aW aD aO aV g t mk) (As := [.int x]) (rest := []) C (mX0_hasField l D cA aB n k bs wl fd kd sz lk x ) (cwV 1 C.hts gX6_mark_X0_hasField rfl rfl rfl (by decide +kernel) ⟨Nat.le_of_ble_eq_true rfl, Nat.le_of_ble_eq_true rfl⟩) dX6_mark_5 rfl 2 rfl rfl rfl rfl rfl (Nat.le_of_ble_eq_true rfl) ⟨Nat.le_of_ble_eq_true rfl, Nat.le_of_ble_eq_true rfl⟩ [2, 3, 4, 5, 6, 7, 8] [0, 1] [0, 1, 2, 3, 4, 5, 6, 7, 8] rfl (by decide) rfl (by decide) (by decide) rfl (by decide) ?_
  refine pt_if_eq (pc' := 11) (tgt := 22) C dX6_mark_8 (by decide) rfl (fun h_8 => ?_) (fun h_8 => ?_)
  · refine pt_iconst (pc' := 23) C dX6_mark_22 rfl (v := 0) (by decide) ?_
    exact pt_iret C hr hk dX6_mark_23 (rfl) (by simp only [okMar, bI_f h_8, bI, cond_false, cond_true, Bool.and_true, Bool.true_and, Bool.and_false, Bool.false_and]) (by simp only [okMar, bI_f h_8, bI, cond_false, cond_true, Bool.and_true, Bool.true_and, Bool.and_false, Bool.false_and])
  · refine pt_iload_n (pc' := 12) C dX6_mark_11 rfl 2 rfl ?_
    refine pt_iconst (pc' := 13) C dX6_mark_12 rfl (v := 0) (by decide) ?_
    refine pt_sipush (pc' := 16) C dX6_mark_13 rfl (v := 9999) (by decide) ?_
    refine pt_csI0 (pc' := 19) (As := [.int y, .int 0, .int 9999]) (rest := []) C (mX6_isWithin l D cA y 0 9999 ) (va_cwS 3 C.hts gX6_mark_X6_isWithin rfl rfl rfl (by decide +kernel) ⟨Nat.le_of_ble_eq_true rfl, Nat.le_of_ble_eq_true rfl⟩) dX6_mark_16 rfl rfl rfl (Nat.le_of_ble_eq_true rfl) ⟨Nat.le_of_ble_eq_true rfl, Nat.le_of_ble_eq_true rfl⟩ ?_
    refine pt_if_ne (pc' := 22) (tgt := 24) C dX6_mark_19 (by decide) rfl (fun h_19 => ?_) (fun h_19 => ?_)
    · refine pt_aload_n (pc' := 25) C dX6_mark_24 rfl 0 rfl ?_
      refine pt_get (pc' := 28) C in_6 dX6_mark_25 rfl 0 8 rfl rfl (by decide) f_57 rfl ?_
      refine pt_iload_n (pc' := 29) C dX6_mark_28 rfl 1 rfl ?_
      refine pt_iload_n (pc' := 30) C dX6_mark_29 rfl 2 rfl ?_
      refine pt_iast (pc' := 31) (ws' := wX cA aX aB aT aN aG aW aD aO aV g t (upd mk x.toNatClampNeg y) ++ wB cA aB n k bs wl fd kd sz lk) C dX6_mark_30 rfl 1 rfl rfl x.toNatClampNeg ((inF_in hm (bI_t h_8)).1) (by have := (inF_in hm (bI_t h_8)).2; omega) (by decide) rfl ?_
      refine pt_aload_n (pc' := 32) C dX6_mark_31 rfl 0 rfl ?_
      refine pt_iconst (pc' := 33) C dX6_mark_32 rfl (v := 1) (by decide) ?_
      refine pt_put (pc' := 36) (ty := .boolean) (ws' := wX cA aX aB aT aN aG aW aD aO aV g 1 (upd mk x.toNatClampNeg y) ++ wB cA aB n k bs wl fd kd sz lk) C in_6 tyX6 tyX6_ok nmX6 dX6_mark_33 rfl 0 10 rfl rfl (by decide) f_65 rfl (by decide +kernel) (rfl) (rfl) (Nat.le_of_ble_eq_true rfl) rfl ?_
      refine pt_iconst (pc' := 37) C dX6_mark_36 rfl (v := 1) (by decide) ?_
      exact pt_iret C hr hk dX6_mark_37 (rfl) (by simp only [okMar, bI_t h_8, bI_t h_19, bI, cond_false, cond_true, Bool.and_true, Bool.true_and, Bool.and_false, Bool.false_and]) (by simp only [okMar, bI_t h_8, bI_t h_19, bI, cond_false, cond_true, Bool.and_true, Bool.true_and, Bool.and_false, Bool.false_and])
    · refine pt_iconst (pc' := 23) C dX6_mark_22 rfl (v := 0) (by decide) ?_
      exact pt_iret C hr hk dX6_mark_23 (rfl) (by simp only [okMar, bI_t h_8, bI_f h_19, bI, cond_false, cond_true, Bool.and_true, Bool.true_and, Bool.and_false, Bool.false_and]) (by simp only [okMar, bI_t h_8, bI_f h_19, bI, cond_false, cond_true, Bool.and_true, Bool.true_and, Bool.and_false, Bool.false_and])

set_option maxHeartbeats 4000000 in
set_option maxRecDepth 100000 in
theorem mX6_survey (l : Launch) (D : va_G) (cA : ClassId) (aX : Nat → Nat) (aB : Nat → Nat) (aT : Nat → Nat) (aN : Nat → Nat) (aG : Nat → Nat) (aW : Nat → Nat) (aD : Nat → Nat) (aO : Nat → Nat) (aV : Nat → Nat) (g : Nat) (t : Int32) (mk : Nat → Int32) (n : Nat) (k : Int32) (bs : Nat → Int32) (wl : Nat → Int32) (fd : Nat → Int32) (kd : Nat → Int32) (sz : Nat → Int32) (lk : Nat → Int32) (sv : Nat) (vf : Nat → Int32) (vw : Nat → Int32) (vl : Nat → Int32) (vm : Nat → Int32) (x : Int32) (y : Int32) (a : Int32) (b : Int32) (hn : 2 ≤ n) (hm : n ≤ 12) (hv : sv ≤ 20) : mt_I l yX6_survey wsX6_survey { frames := 1, cells := 0, slots := 0, locals := 24 } D [(cA, .int)] [.ref (aX 0), .int x, .int y, .int a, .int b] (wX cA aX aB aT aN aG aW aD aO aV g t mk ++ wB cA aB n k bs wl fd kd sz lk ++ wV cA aV sv vf vw vl vm) (cond (okSur n sv x y a b) (nI (sv + 1)) (-1)) (wX cA aX aB aT aN aG aW aD aO aV g (cond (okSur n sv x y a b) (1) t) mk ++ wB cA aB n k bs wl fd kd sz lk ++ wV cA aV (cond (okSur n sv x y a b) (sv + 1) sv) (cond (okSur n sv x y a b) (upd vf sv x) vf) (cond (okSur n sv x y a b) (upd vw sv y) vw) (cond (okSur n sv x y a b) (upd vl sv a) vl) (cond (okSur n sv x y a b) (upd vm sv b) vm)) := by
  refine mt_ofI (cc := cX6_survey) (maxL := 5) (ret := (some .int)) (lv := [(0, .ref (aX 0)), (1, .int x), (2, .int y), (3, .int a), (4, .int b)]) (by decide) rfl (Nat.le_of_ble_eq_true rfl) rfl ?_
  intro p e s m args below meth c A C hr hk
  have f_12 := C.hts (.fieldLink RX6 12 "ShoreFields" "begin" "LShoreFields$Begin;") (by decide +kernel)
  have in_6 : ∀ w ∈ u_ws RX6 TX6 11, w ∈ wsX6_survey := by decide +kernel
  have f_53 := C.hts (.fieldLink RX6 53 "ShoreFields" "surveyList" "LShoreFields$SurveyList;") (by decide +kernel)
  have f_199 := C.hts (.fieldLink RX6 199 "ShoreFields$SurveyList" "size" "I") (by decide +kernel)
  have in_3 : ∀ w ∈ u_ws RX3 TX3 5, w ∈ wsX6_survey := by decide +kernel
  have f_65 := C.hts (.fieldLink RX6 65 "ShoreFields" "anythingTold" "Z") (by decide +kernel)
  refine pt_aload_n (pc' := 1) C dX6_survey_0 rfl 0 rfl ?_
  refine pt_get (pc' := 4) C in_6 dX6_survey_1 rfl 0 0 rfl rfl (by decide) f_12 rfl ?_
  refine pt_iload_n (pc' := 5) C dX6_survey_4 rfl 1 rfl ?_
  refine pt_cvI (pc' := 8) (ws' := wX cA aX aB aT aN aG aW aD aO aV g t mk ++ wB cA aB n k bs wl fd kd sz lk ++ wV cA aV sv vf vw vl vm) (wr := wX cA aX aB aT aN aG aW aD aO aV g t mk ++ wV cA aV sv vf vw vl vm) (As := [.int x]) (rest := []) C (mX0_hasField l D cA aB n k bs wl fd kd sz lk x ) (cwV 1 C.hts gX6_survey_X0_hasField rfl rfl rfl (by decide +kernel) ⟨Nat.le_of_ble_eq_true rfl, Nat.le_of_ble_eq_true rfl⟩) dX6_survey_5 rfl 2 rfl rfl rfl rfl rfl (Nat.le_of_ble_eq_true rfl) ⟨Nat.le_of_ble_eq_true rfl, Nat.le_of_ble_eq_true rfl⟩ [2, 3, 4, 5, 6, 7, 8] [0, 1, 9, 10, 11, 12, 13] [0, 1, 7, 8, 9, 10, 11, 12, 13, 2, 3, 4, 5, 6] rfl (by decide) rfl (by decide) (by decide) rfl (by decide) ?_
  refine pt_if_eq (pc' := 11) (tgt := 33) C dX6_survey_8 (by decide) rfl (fun h_8 => ?_) (fun h_8 => ?_)
  · refine pt_iconst (pc' := 34) C dX6_survey_33 rfl (v := -1) (by decide) ?_
    exact pt_iret C hr hk dX6_survey_34 (rfl) (by simp only [okSur, bI_f h_8, bI, cond_false, cond_true, Bool.and_true, Bool.true_and, Bool.and_false, Bool.false_and]) (by simp only [okSur, bI_f h_8, bI, cond_false, cond_true, Bool.and_true, Bool.true_and, Bool.and_false, Bool.false_and])
  · refine pt_iload_n (pc' := 12) C dX6_survey_11 rfl 2 rfl ?_
    refine pt_iconst (pc' := 13) C dX6_survey_12 rfl (v := 1) (by decide) ?_
    refine pt_bipush (pc' := 15) C dX6_survey_13 rfl (v := 120) (by decide) ?_
    refine pt_csI0 (pc' := 18) (As := [.int y, .int 1, .int 120]) (rest := []) C (mX6_isWithin l D cA y 1 120 ) (va_cwS 3 C.hts gX6_survey_X6_isWithin rfl rfl rfl (by decide +kernel) ⟨Nat.le_of_ble_eq_true rfl, Nat.le_of_ble_eq_true rfl⟩) dX6_survey_15 rfl rfl rfl (Nat.le_of_ble_eq_true rfl) ⟨Nat.le_of_ble_eq_true rfl, Nat.le_of_ble_eq_true rfl⟩ ?_
    refine pt_if_eq (pc' := 21) (tgt := 33) C dX6_survey_18 (by decide) rfl (fun h_18 => ?_) (fun h_18 => ?_)
    · refine pt_iconst (pc' := 34) C dX6_survey_33 rfl (v := -1) (by decide) ?_
      exact pt_iret C hr hk dX6_survey_34 (rfl) (by simp only [okSur, bI_t h_8, bI_f h_18, bI, cond_false, cond_true, Bool.and_true, Bool.true_and, Bool.and_false, Bool.false_and]) (by simp only [okSur, bI_t h_8, bI_f h_18, bI, cond_false, cond_true, Bool.and_true, Bool.true_and, Bool.and_false, Bool.false_and])
    · refine pt_aload_n (pc' := 22) C dX6_survey_21 rfl 0 rfl ?_
      refine pt_get (pc' := 25) C in_6 dX6_survey_22 rfl 0 7 rfl rfl (by decide) f_53 rfl ?_
      refine pt_get (pc' := 28) C in_3 dX6_survey_25 rfl 9 0 rfl rfl (by decide) f_199 rfl ?_
      refine pt_bipush (pc' := 30) C dX6_survey_28 rfl (v := 20) (by decide) ?_
      refine pt_icmp_lt (pc' := 33) (tgt := 35) C dX6_survey_30 (by decide) rfl (fun h_30 => ?_) (fun h_30 => ?_)
      · refine pt_iload_n (pc' := 36) C dX6_survey_35 rfl 3 rfl ?_
        refine pt_iconst (pc' := 37) C dX6_survey_36 rfl (v := 0) (by decide) ?_
        refine pt_sipush (pc' := 40) C dX6_survey_37 rfl (v := 9999) (by decide) ?_
        refine pt_csI0 (pc' := 43) (As := [.int a, .int 0, .int 9999]) (rest := []) C (mX6_isWithin l D cA a 0 9999 ) (va_cwS 3 C.hts gX6_survey_X6_isWithin rfl rfl rfl (by decide +kernel) ⟨Nat.le_of_ble_eq_true rfl, Nat.le_of_ble_eq_true rfl⟩) dX6_survey_40 rfl rfl rfl (Nat.le_of_ble_eq_true rfl) ⟨Nat.le_of_ble_eq_true rfl, Nat.le_of_ble_eq_true rfl⟩ ?_
        refine pt_if_eq (pc' := 46) (tgt := 58) C dX6_survey_43 (by decide) rfl (fun h_43 => ?_) (fun h_43 => ?_)
        · refine pt_iconst (pc' := 59) C dX6_survey_58 rfl (v := -1) (by decide) ?_
          exact pt_iret C hr hk dX6_survey_59 (rfl) (by simp only [okSur, bI_t h_8, bI_t h_18, dl_t (by decide) (by omega) h_30, bI_f h_43, bI, cond_false, cond_true, Bool.and_true, Bool.true_and, Bool.and_false, Bool.false_and]) (by simp only [okSur, bI_t h_8, bI_t h_18, dl_t (by decide) (by omega) h_30, bI_f h_43, bI, cond_false, cond_true, Bool.and_true, Bool.true_and, Bool.and_false, Bool.false_and])
        · refine pt_iload (pc' := 48) C dX6_survey_46 rfl 4 rfl ?_
          refine pt_iload_n (pc' := 49) C dX6_survey_48 rfl 3 rfl ?_
          refine pt_sipush (pc' := 52) C dX6_survey_49 rfl (v := 9999) (by decide) ?_
          refine pt_csI0 (pc' := 55) (As := [.int b, .int a, .int 9999]) (rest := []) C (mX6_isWithin l D cA b a 9999 ) (va_cwS 3 C.hts gX6_survey_X6_isWithin rfl rfl rfl (by decide +kernel) ⟨Nat.le_of_ble_eq_true rfl, Nat.le_of_ble_eq_true rfl⟩) dX6_survey_52 rfl rfl rfl (Nat.le_of_ble_eq_true rfl) ⟨Nat.le_of_ble_eq_true rfl, Nat.le_of_ble_eq_true rfl⟩ ?_
          refine pt_if_ne (pc' := 58) (tgt := 60) C dX6_survey_55 (by decide) rfl (fun h_55 => ?_) (fun h_55 => ?_)
          · refine pt_aload_n (pc' := 61) C dX6_survey_60 rfl 0 rfl ?_
            refine pt_get (pc' := 64) C in_6 dX6_survey_61 rfl 0 7 rfl rfl (by decide) f_53 rfl ?_
            refine pt_iload_n (pc' := 65) C dX6_survey_64 rfl 1 rfl ?_
            refine pt_iload_n (pc' := 66) C dX6_survey_65 rfl 2 rfl ?_
            refine pt_iload_n (pc' := 67) C dX6_survey_66 rfl 3 rfl ?_
            refine pt_iload (pc' := 69) C dX6_survey_67 rfl 4 rfl ?_
            refine pt_cvV (pc' := 72) (ws' := wX cA aX aB aT aN aG aW aD aO aV g t mk ++ wB cA aB n k bs wl fd kd sz lk ++ wV cA aV (sv + 1) (upd vf sv x) (upd vw sv y) (upd vl sv a) (upd vm sv b)) (wr := wX cA aX aB aT aN aG aW aD aO aV g t mk ++ wB cA aB n k bs wl fd kd sz lk) (As := [.int x, .int y, .int a, .int b]) (rest := []) C (mX3_add l D cA aV sv vf vw vl vm x y a b (of_decide_eq_true (dl_t (by decide) (by omega) h_30))) (cwV 4 C.hts gX6_survey_X3_add rfl rfl rfl (by decide +kernel) ⟨Nat.le_of_ble_eq_true rfl, Nat.le_of_ble_eq_true rfl⟩) dX6_survey_69 rfl 9 rfl rfl rfl rfl rfl (Nat.le_of_ble_eq_true rfl) ⟨Nat.le_of_ble_eq_true rfl, Nat.le_of_ble_eq_true rfl⟩ [9, 10, 11, 12, 13] [0, 1, 2, 3, 4, 5, 6, 7, 8] [0, 1, 2, 3, 4, 5, 6, 7, 8, 9, 10, 11, 12, 13] rfl (by decide) rfl (by decide) (by decide) rfl (by decide) ?_
            refine pt_aload_n (pc' := 73) C dX6_survey_72 rfl 0 rfl ?_
            refine pt_iconst (pc' := 74) C dX6_survey_73 rfl (v := 1) (by decide) ?_
            refine pt_put (pc' := 77) (ty := .boolean) (ws' := wX cA aX aB aT aN aG aW aD aO aV g 1 mk ++ wB cA aB n k bs wl fd kd sz lk ++ wV cA aV (sv + 1) (upd vf sv x) (upd vw sv y) (upd vl sv a) (upd vm sv b)) C in_6 tyX6 tyX6_ok nmX6 dX6_survey_74 rfl 0 10 rfl rfl (by decide) f_65 rfl (by decide +kernel) (rfl) (rfl) (Nat.le_of_ble_eq_true rfl) rfl ?_
            refine pt_aload_n (pc' := 78) C dX6_survey_77 rfl 0 rfl ?_
            refine pt_get (pc' := 81) C in_6 dX6_survey_78 rfl 0 7 rfl rfl (by decide) f_53 rfl ?_
            refine pt_get (pc' := 84) C in_3 dX6_survey_81 rfl 9 0 rfl rfl (by decide) f_199 rfl ?_
            exact pt_iret C hr hk dX6_survey_84 (rfl) (by simp only [okSur, bI_t h_8, bI_t h_18, dl_t (by decide) (by omega) h_30, bI_t h_43, bI_t h_55, bI, cond_false, cond_true, Bool.and_true, Bool.true_and, Bool.and_false, Bool.false_and]) (by simp only [okSur, bI_t h_8, bI_t h_18, dl_t (by decide) (by omega) h_30, bI_t h_43, bI_t h_55, bI, cond_false, cond_true, Bool.and_true, Bool.true_and, Bool.and_false, Bool.false_and])
          · refine pt_iconst (pc' := 59) C dX6_survey_58 rfl (v := -1) (by decide) ?_
            exact pt_iret C hr hk dX6_survey_59 (rfl) (by simp only [okSur, bI_t h_8, bI_t h_18, dl_t (by decide) (by omega) h_30, bI_t h_43, bI_f h_55, bI, cond_false, cond_true, Bool.and_true, Bool.true_and, Bool.and_false, Bool.false_and]) (by simp only [okSur, bI_t h_8, bI_t h_18, dl_t (by decide) (by omega) h_30, bI_t h_43, bI_f h_55, bI, cond_false, cond_true, Bool.and_true, Bool.true_and, Bool.and_false, Bool.false_and])
      · refine pt_iconst (pc' := 34) C dX6_survey_33 rfl (v := -1) (by decide) ?_
        exact pt_iret C hr hk dX6_survey_34 (rfl) (by simp only [okSur, bI_t h_8, bI_t h_18, dl_f (by decide) (by omega) h_30, bI, cond_false, cond_true, Bool.and_true, Bool.true_and, Bool.and_false, Bool.false_and]) (by simp only [okSur, bI_t h_8, bI_t h_18, dl_f (by decide) (by omega) h_30, bI, cond_false, cond_true, Bool.and_true, Bool.true_and, Bool.and_false, Bool.false_and])

set_option maxHeartbeats 4000000 in
set_option maxRecDepth 100000 in
theorem mX6_dredge (l : Launch) (D : va_G) (cA : ClassId) (aX : Nat → Nat) (aB : Nat → Nat) (aT : Nat → Nat) (aN : Nat → Nat) (aG : Nat → Nat) (aW : Nat → Nat) (aD : Nat → Nat) (aO : Nat → Nat) (aV : Nat → Nat) (g : Nat) (t : Int32) (mk : Nat → Int32) (n : Nat) (k : Int32) (bs : Nat → Int32) (wl : Nat → Int32) (fd : Nat → Int32) (kd : Nat → Int32) (sz : Nat → Int32) (lk : Nat → Int32) (sd : Nat → Int32) (se : Nat → Int32) (sc : Nat → Int32) (ba : Nat → Int32) (pa : Nat → Int32) (ch : Nat → Int32) (dr : Nat) (db : Nat → Int32) (du : Nat → Int32) (df : Nat → Int32) (dw : Nat → Int32) (x : Int32) (y : Int32) (z : Int32) (hn : 2 ≤ n) (hm : n ≤ 12) (hd : dr ≤ 20) : mt_I l yX6_dredge wsX6_dredge { frames := 2, cells := 0, slots := 0, locals := 43 } D [(cA, .int)] [.ref (aX 0), .int x, .int y, .int z] (wX cA aX aB aT aN aG aW aD aO aV g t mk ++ wB cA aB n k bs wl fd kd sz lk ++ wS cA aN sd se sc ba pa ch ++ wD cA aD dr db du df dw) (cond (okDre n dr kd x y z) (mn y (ba x.toNatClampNeg)) (-1)) (wX cA aX aB aT aN aG aW aD aO aV g t mk ++ wB cA aB n k bs wl fd kd sz lk ++ wS cA aN (cond (okDre n dr kd x y z) (bbS sd z.toNatClampNeg (mn y (ba x.toNatClampNeg))) sd) se sc (cond (okDre n dr kd x y z) (bbB ba x.toNatClampNeg (mn y (ba x.toNatClampNeg))) ba) pa ch ++ wD cA aD (cond (okDre n dr kd x y z) (dr + 1) dr) (cond (okDre n dr kd x y z) (upd db dr x) db) (cond (okDre n dr kd x y z) (upd du dr y) du) (cond (okDre n dr kd x y z) (upd df dr z) df) (cond (okDre n dr kd x y z) (upd dw dr (nI g)) dw)) := by
  refine mt_ofI (cc := cX6_dredge) (maxL := 4) (ret := (some .int)) (lv := [(0, .ref (aX 0)), (1, .int x), (2, .int y), (3, .int z)]) (by decide) rfl (Nat.le_of_ble_eq_true rfl) rfl ?_
  intro p e s m args below meth c A C hr hk
  have f_12 := C.hts (.fieldLink RX6 12 "ShoreFields" "begin" "LShoreFields$Begin;") (by decide +kernel)
  have in_6 : ∀ w ∈ u_ws RX6 TX6 11, w ∈ wsX6_dredge := by decide +kernel
  have f_39 := C.hts (.fieldLink RX6 39 "ShoreFields" "dredgings" "LShoreFields$Dredgings;") (by decide +kernel)
  have f_128 := C.hts (.fieldLink RX6 128 "ShoreFields$Dredgings" "size" "I") (by decide +kernel)
  have in_1 : ∀ w ∈ u_ws RX1 TX1 5, w ∈ wsX6_dredge := by decide +kernel
  have f_61 := C.hts (.fieldLink RX6 61 "ShoreFields" "weeksGone" "I") (by decide +kernel)
  have f_22 := C.hts (.fieldLink RX6 22 "ShoreFields" "now" "LShoreFields$Shore;") (by decide +kernel)
  refine pt_aload_n (pc' := 1) C dX6_dredge_0 rfl 0 rfl ?_
  refine pt_get (pc' := 4) C in_6 dX6_dredge_1 rfl 0 0 rfl rfl (by decide) f_12 rfl ?_
  refine pt_iload_n (pc' := 5) C dX6_dredge_4 rfl 1 rfl ?_
  refine pt_iconst (pc' := 6) C dX6_dredge_5 rfl (v := 2) (by decide) ?_
  refine pt_cvI (pc' := 9) (ws' := wX cA aX aB aT aN aG aW aD aO aV g t mk ++ wB cA aB n k bs wl fd kd sz lk ++ wS cA aN sd se sc ba pa ch ++ wD cA aD dr db du df dw) (wr := wX cA aX aB aT aN aG aW aD aO aV g t mk ++ wS cA aN sd se sc ba pa ch ++ wD cA aD dr db du df dw) (As := [.int x, .int 2]) (rest := []) C (mX0_hasAt l D cA aB n k bs wl fd kd sz lk x 2 (hm)) (cwV 2 C.hts gX6_dredge_X0_hasAt rfl rfl rfl (by decide +kernel) ⟨Nat.le_of_ble_eq_true rfl, Nat.le_of_ble_eq_true rfl⟩) dX6_dredge_6 rfl 2 rfl rfl rfl rfl rfl (Nat.le_of_ble_eq_true rfl) ⟨Nat.le_of_ble_eq_true rfl, Nat.le_of_ble_eq_true rfl⟩ [2, 3, 4, 5, 6, 7, 8] [0, 1, 9, 10, 11, 12, 13, 14, 15, 16, 17, 18, 19, 20] [0, 1, 14, 15, 16, 17, 18, 19, 20, 2, 3, 4, 5, 6, 7, 8, 9, 10, 11, 12, 13] rfl (by decide) rfl (by decide) (by decide) rfl (by decide) ?_
  refine pt_if_eq (pc' := 12) (tgt := 23) C dX6_dredge_9 (by decide) rfl (fun h_9 => ?_) (fun h_9 => ?_)
  · refine pt_iconst (pc' := 24) C dX6_dredge_23 rfl (v := -1) (by decide) ?_
    exact pt_iret C hr hk dX6_dredge_24 (rfl) (by simp only [okDre, bI_f h_9, bI, cond_false, cond_true, Bool.and_true, Bool.true_and, Bool.and_false, Bool.false_and]) (by simp only [okDre, bI_f h_9, bI, cond_false, cond_true, Bool.and_true, Bool.true_and, Bool.and_false, Bool.false_and])
  · refine pt_aload_n (pc' := 13) C dX6_dredge_12 rfl 0 rfl ?_
    refine pt_get (pc' := 16) C in_6 dX6_dredge_13 rfl 0 0 rfl rfl (by decide) f_12 rfl ?_
    refine pt_iload_n (pc' := 17) C dX6_dredge_16 rfl 3 rfl ?_
    refine pt_cvI (pc' := 20) (ws' := wX cA aX aB aT aN aG aW aD aO aV g t mk ++ wB cA aB n k bs wl fd kd sz lk ++ wS cA aN sd se sc ba pa ch ++ wD cA aD dr db du df dw) (wr := wX cA aX aB aT aN aG aW aD aO aV g t mk ++ wS cA aN sd se sc ba pa ch ++ wD cA aD dr db du df dw) (As := [.int z]) (rest := []) C (mX0_hasField l D cA aB n k bs wl fd kd sz lk z ) (cwV 1 C.hts gX6_dredge_X0_hasField rfl rfl rfl (by decide +kernel) ⟨Nat.le_of_ble_eq_true rfl, Nat.le_of_ble_eq_true rfl⟩) dX6_dredge_17 rfl 2 rfl rfl rfl rfl rfl (Nat.le_of_ble_eq_true rfl) ⟨Nat.le_of_ble_eq_true rfl, Nat.le_of_ble_eq_true rfl⟩ [2, 3, 4, 5, 6, 7, 8] [0, 1, 9, 10, 11, 12, 13, 14, 15, 16, 17, 18, 19, 20] [0, 1, 14, 15, 16, 17, 18, 19, 20, 2, 3, 4, 5, 6, 7, 8, 9, 10, 11, 12, 13] rfl (by decide) rfl (by decide) (by decide) rfl (by decide) ?_
    refine pt_if_ne (pc' := 23) (tgt := 25) C dX6_dredge_20 (by decide) rfl (fun h_20 => ?_) (fun h_20 => ?_)
    · refine pt_iload_n (pc' := 26) C dX6_dredge_25 rfl 2 rfl ?_
      refine pt_iconst (pc' := 27) C dX6_dredge_26 rfl (v := 1) (by decide) ?_
      refine pt_sipush (pc' := 30) C dX6_dredge_27 rfl (v := 9999) (by decide) ?_
      refine pt_csI0 (pc' := 33) (As := [.int y, .int 1, .int 9999]) (rest := []) C (mX6_isWithin l D cA y 1 9999 ) (va_cwS 3 C.hts gX6_dredge_X6_isWithin rfl rfl rfl (by decide +kernel) ⟨Nat.le_of_ble_eq_true rfl, Nat.le_of_ble_eq_true rfl⟩) dX6_dredge_30 rfl rfl rfl (Nat.le_of_ble_eq_true rfl) ⟨Nat.le_of_ble_eq_true rfl, Nat.le_of_ble_eq_true rfl⟩ ?_
      refine pt_if_eq (pc' := 36) (tgt := 48) C dX6_dredge_33 (by decide) rfl (fun h_33 => ?_) (fun h_33 => ?_)
      · refine pt_iconst (pc' := 49) C dX6_dredge_48 rfl (v := -1) (by decide) ?_
        exact pt_iret C hr hk dX6_dredge_49 (rfl) (by simp only [okDre, bI_t h_9, bI_t h_20, bI_f h_33, bI, cond_false, cond_true, Bool.and_true, Bool.true_and, Bool.and_false, Bool.false_and]) (by simp only [okDre, bI_t h_9, bI_t h_20, bI_f h_33, bI, cond_false, cond_true, Bool.and_true, Bool.true_and, Bool.and_false, Bool.false_and])
      · refine pt_aload_n (pc' := 37) C dX6_dredge_36 rfl 0 rfl ?_
        refine pt_get (pc' := 40) C in_6 dX6_dredge_37 rfl 0 5 rfl rfl (by decide) f_39 rfl ?_
        refine pt_get (pc' := 43) C in_1 dX6_dredge_40 rfl 16 0 rfl rfl (by decide) f_128 rfl ?_
        refine pt_bipush (pc' := 45) C dX6_dredge_43 rfl (v := 20) (by decide) ?_
        refine pt_icmp_lt (pc' := 48) (tgt := 50) C dX6_dredge_45 (by decide) rfl (fun h_45 => ?_) (fun h_45 => ?_)
        · refine pt_aload_n (pc' := 51) C dX6_dredge_50 rfl 0 rfl ?_
          refine pt_get (pc' := 54) C in_6 dX6_dredge_51 rfl 0 5 rfl rfl (by decide) f_39 rfl ?_
          refine pt_iload_n (pc' := 55) C dX6_dredge_54 rfl 1 rfl ?_
          refine pt_iload_n (pc' := 56) C dX6_dredge_55 rfl 2 rfl ?_
          refine pt_iload_n (pc' := 57) C dX6_dredge_56 rfl 3 rfl ?_
          refine pt_aload_n (pc' := 58) C dX6_dredge_57 rfl 0 rfl ?_
          refine pt_get (pc' := 61) C in_6 dX6_dredge_58 rfl 0 9 rfl rfl (by decide) f_61 rfl ?_
          refine pt_cvV (pc' := 64) (ws' := wX cA aX aB aT aN aG aW aD aO aV g t mk ++ wB cA aB n k bs wl fd kd sz lk ++ wS cA aN sd se sc ba pa ch ++ wD cA aD (dr + 1) (upd db dr x) (upd du dr y) (upd df dr z) (upd dw dr (nI g))) (wr := wX cA aX aB aT aN aG aW aD aO aV g t mk ++ wB cA aB n k bs wl fd kd sz lk ++ wS cA aN sd se sc ba pa ch) (As := [.int x, .int y, .int z, .int (nI g)]) (rest := []) C (mX1_add l D cA aD dr db du df dw x y z (nI g) (of_decide_eq_true (dl_t (by decide) (by omega) h_45))) (cwV 4 C.hts gX6_dredge_X1_add rfl rfl rfl (by decide +kernel) ⟨Nat.le_of_ble_eq_true rfl, Nat.le_of_ble_eq_true rfl⟩) dX6_dredge_61 rfl 16 rfl rfl rfl rfl rfl (Nat.le_of_ble_eq_true rfl) ⟨Nat.le_of_ble_eq_true rfl, Nat.le_of_ble_eq_true rfl⟩ [16, 17, 18, 19, 20] [0, 1, 2, 3, 4, 5, 6, 7, 8, 9, 10, 11, 12, 13, 14, 15] [0, 1, 2, 3, 4, 5, 6, 7, 8, 9, 10, 11, 12, 13, 14, 15, 16, 17, 18, 19, 20] rfl (by decide) rfl (by decide) (by decide) rfl (by decide) ?_
          refine pt_aload_n (pc' := 65) C dX6_dredge_64 rfl 0 rfl ?_
          refine pt_get (pc' := 68) C in_6 dX6_dredge_65 rfl 0 2 rfl rfl (by decide) f_22 rfl ?_
          refine pt_iload_n (pc' := 69) C dX6_dredge_68 rfl 1 rfl ?_
          refine pt_iload_n (pc' := 70) C dX6_dredge_69 rfl 2 rfl ?_
          refine pt_iload_n (pc' := 71) C dX6_dredge_70 rfl 3 rfl ?_
          refine pt_eq (st' := [.int (nI z.toNatClampNeg), .int y, .int x, .ref (aN 0)]) rfl rfl (by rw [← (inF_in hm (bI_t h_20)).1]) ?_
          refine pt_eq (st' := [.int (nI z.toNatClampNeg), .int y, .int (nI x.toNatClampNeg), .ref (aN 0)]) rfl rfl (by rw [← (hasA_in hm (bI_t h_9)).1.1]) ?_
          refine pt_cvI (pc' := 74) (ws' := wX cA aX aB aT aN aG aW aD aO aV g t mk ++ wB cA aB n k bs wl fd kd sz lk ++ wS cA aN (bbS sd z.toNatClampNeg (mn y (ba x.toNatClampNeg))) se sc (bbB ba x.toNatClampNeg (mn y (ba x.toNatClampNeg))) pa ch ++ wD cA aD (dr + 1) (upd db dr x) (upd du dr y) (upd df dr z) (upd dw dr (nI g))) (wr := wX cA aX aB aT aN aG aW aD aO aV g t mk ++ wB cA aB n k bs wl fd kd sz lk ++ wD cA aD (dr + 1) (upd db dr x) (upd du dr y) (upd df dr z) (upd dw dr (nI g))) (As := [.int (nI x.toNatClampNeg), .int y, .int (nI z.toNatClampNeg)]) (rest := []) C (mX2_bringFromBar l D cA aN sd se sc ba pa ch x.toNatClampNeg y z.toNatClampNeg (by have := (hasA_in hm (bI_t h_9)).1.2.2; omega) (by have := (inF_in hm (bI_t h_20)).2; omega)) (cwV 3 C.hts gX6_dredge_X2_bringFromBar rfl rfl rfl (by decide +kernel) ⟨Nat.le_of_ble_eq_true rfl, Nat.le_of_ble_eq_true rfl⟩) dX6_dredge_71 rfl 9 rfl rfl rfl rfl rfl (Nat.le_of_ble_eq_true rfl) ⟨Nat.le_of_ble_eq_true rfl, Nat.le_of_ble_eq_true rfl⟩ [9, 10, 11, 12, 13, 14, 15] [0, 1, 2, 3, 4, 5, 6, 7, 8, 16, 17, 18, 19, 20] [0, 1, 2, 3, 4, 5, 6, 7, 8, 14, 15, 16, 17, 18, 19, 20, 9, 10, 11, 12, 13] rfl (by decide) rfl (by decide) (by decide) rfl (by decide) ?_
          exact pt_iret C hr hk dX6_dredge_74 (rfl) (by simp only [okDre, bI_t h_9, bI_t h_20, bI_t h_33, dl_t (by decide) (by omega) h_45, bI, cond_false, cond_true, Bool.and_true, Bool.true_and, Bool.and_false, Bool.false_and]) (by simp only [okDre, bI_t h_9, bI_t h_20, bI_t h_33, dl_t (by decide) (by omega) h_45, bI, cond_false, cond_true, Bool.and_true, Bool.true_and, Bool.and_false, Bool.false_and])
        · refine pt_iconst (pc' := 49) C dX6_dredge_48 rfl (v := -1) (by decide) ?_
          exact pt_iret C hr hk dX6_dredge_49 (rfl) (by simp only [okDre, bI_t h_9, bI_t h_20, bI_t h_33, dl_f (by decide) (by omega) h_45, bI, cond_false, cond_true, Bool.and_true, Bool.true_and, Bool.and_false, Bool.false_and]) (by simp only [okDre, bI_t h_9, bI_t h_20, bI_t h_33, dl_f (by decide) (by omega) h_45, bI, cond_false, cond_true, Bool.and_true, Bool.true_and, Bool.and_false, Bool.false_and])
    · refine pt_iconst (pc' := 24) C dX6_dredge_23 rfl (v := -1) (by decide) ?_
      exact pt_iret C hr hk dX6_dredge_24 (rfl) (by simp only [okDre, bI_t h_9, bI_f h_20, bI, cond_false, cond_true, Bool.and_true, Bool.true_and, Bool.and_false, Bool.false_and]) (by simp only [okDre, bI_t h_9, bI_f h_20, bI, cond_false, cond_true, Bool.and_true, Bool.true_and, Bool.and_false, Bool.false_and])
