set_option maxHeartbeats 4000000 in
set_option maxRecDepth 100000 in
theorem mJ7_fill_53178 (l : Launch) (D : va_G) (cA : ClassId) (aA : Nat → Nat) (N : Nat) (f : Nat → Int32) (v : Int32) (hN : N < 2 ^ 31) : mt_V l yJ7_fill_53178 wsJ7_fill_53178 { frames := 0, cells := 0, slots := 0, locals := 0 } D [(cA, .int)] [.ref (aA 0), .int v] (w1A cA aA N f) (w1A cA aA N (fun _ => v)) := by
  refine mt_ofVF (cc := cJ7_fill_53178) (maxL := 4) (ret := none) (lv := [(0, .ref (aA 0)), (1, .int v)]) (by decide) rfl (Nat.le_of_ble_eq_true rfl) rfl ?_
  intro p e s m args below meth c A C hr hk
  refine pt_iconst (pc' := 1) C dJ7_fill_53178_0 rfl (v := 0) (by decide) ?_
  refine pt_istore_n (pc' := 2) (lv' := [(2, .int 0), (0, .ref (aA 0)), (1, .int v)]) C dJ7_fill_53178_1 rfl rfl (by decide) rfl ?_
  refine pt_aload_n (pc' := 3) C dJ7_fill_53178_2 rfl 1 rfl ?_
  refine pt_alen (pc' := 4) C dJ7_fill_53178_3 rfl 0 rfl rfl ?_
  refine pt_istore_n (pc' := 5) (lv' := [(3, .int (nI N)), (2, .int 0), (0, .ref (aA 0)), (1, .int v)]) C dJ7_fill_53178_4 rfl rfl (by decide) rfl ?_
  refine pt_cv (ws' := w1A cA aA N (flN 0 v f)) (lv' := [(3, .int (nI N)), (2, .int (nI 0)), (0, .ref (aA 0)), (1, .int v)]) (by rw [flN_0]) [0, 1, 2, 3] (rfl) rfl ?_
  refine pt_for (wsf := fun j => w1A cA aA N (flN j v f)) (lvf := fun j => [(3, .int (nI N)), (2, .int (nI j)), (0, .ref (aA 0)), (1, .int v)]) N ?_ (fun j hj_5 ih_5 => ?_)
  rotate_left
  · refine pt_iload_n (pc' := 6) C dJ7_fill_53178_5 rfl 1 rfl ?_
    refine pt_iload_n (pc' := 7) C dJ7_fill_53178_6 rfl 0 rfl ?_
    refine pt_icmp_ge (pc' := 10) (tgt := 20) C dJ7_fill_53178_7 (by decide) rfl (fun h_7 => absurd h_7 (nI_ge hj_5 hN)) (fun h_7 => ?_)
    refine pt_aload_n (pc' := 11) C dJ7_fill_53178_10 rfl 2 rfl ?_
    refine pt_iload_n (pc' := 12) C dJ7_fill_53178_11 rfl 1 rfl ?_
    refine pt_iload_n (pc' := 13) C dJ7_fill_53178_12 rfl 3 rfl ?_
    refine pt_iast (pc' := 14) (ws' := w1A cA aA N (upd (flN j v f) j v)) C dJ7_fill_53178_13 rfl 0 rfl rfl j (rfl) (hj_5) (hN) rfl ?_
    refine pt_iinc (pc' := 17) (v := nI (j + 1)) (lv' := [(2, .int (nI (j + 1))), (3, .int (nI N)), (0, .ref (aA 0)), (1, .int v)]) C dJ7_fill_53178_14 rfl 1 rfl (nI_1 _) (by decide) rfl ?_
    refine pt_goto (pc' := 5) C dJ7_fill_53178_17 (by decide) ?_
    exact pt_cv (by rw [flN_s]) [1, 0, 2, 3] (rfl) rfl ih_5
  refine pt_iload_n (pc' := 6) C dJ7_fill_53178_5 rfl 1 rfl ?_
  refine pt_iload_n (pc' := 7) C dJ7_fill_53178_6 rfl 0 rfl ?_
  refine pt_icmp_ge (pc' := 10) (tgt := 20) C dJ7_fill_53178_7 (by decide) rfl (fun h_7 => ?_) (fun h_7 => absurd (nI_le (Nat.le_refl N) hN) h_7)
  refine pt_ext (ws' := w1A cA aA N (fun _ => v)) (fun _ => v) 0 rfl (fun j hj => by simp only [flN, if_pos hj]) rfl ?_
  exact pt_vret C hr hk dJ7_fill_53178_20 (rfl)

set_option maxHeartbeats 4000000 in
set_option maxRecDepth 100000 in
theorem mX0_hasField (l : Launch) (D : va_G) (cA : ClassId) (aB : Nat → Nat) (n : Nat) (k : Int32) (bs : Nat → Int32) (wl : Nat → Int32) (fd : Nat → Int32) (kd : Nat → Int32) (sz : Nat → Int32) (lk : Nat → Int32) (x : Int32) : mt_I l yX0_hasField wsX0_hasField { frames := 0, cells := 0, slots := 0, locals := 0 } D [(cA, .int)] [.ref (aB 0), .int x] (wB cA aB n k bs wl fd kd sz lk) (bI (inF n x)) (wB cA aB n k bs wl fd kd sz lk) := by
  refine mt_ofI (cc := cX0_hasField) (maxL := 2) (ret := (some .boolean)) (lv := [(0, .ref (aB 0)), (1, .int x)]) (by decide) rfl (Nat.le_of_ble_eq_true rfl) rfl ?_
  intro p e s m args below meth c A C hr hk
  have f_9 := C.hts (.fieldLink RX0 9 "ShoreFields$Begin" "fieldCount" "I") (by decide +kernel)
  have in_0 : ∀ w ∈ u_ws RX0 TX0 8, w ∈ wsX0_hasField := by decide +kernel
  refine pt_iload_n (pc' := 1) C dX0_hasField_0 rfl 1 rfl ?_
  refine pt_if_lt (pc' := 4) (tgt := 16) C dX0_hasField_1 (by decide) rfl (fun h_1 => ?_) (fun h_1 => ?_)
  · refine pt_iconst (pc' := 17) C dX0_hasField_16 rfl (v := 0) (by decide) ?_
    exact pt_iret C hr hk dX0_hasField_17 (rfl) (by simp only [inF, bI, cond_false, cond_true, if_pos h_1]) (rfl)
  · refine pt_iload_n (pc' := 5) C dX0_hasField_4 rfl 1 rfl ?_
    refine pt_aload_n (pc' := 6) C dX0_hasField_5 rfl 0 rfl ?_
    refine pt_get (pc' := 9) C in_0 dX0_hasField_6 rfl 0 0 rfl rfl (by decide) f_9 rfl ?_
    refine pt_icmp_ge (pc' := 12) (tgt := 16) C dX0_hasField_9 (by decide) rfl (fun h_9 => ?_) (fun h_9 => ?_)
    · refine pt_iconst (pc' := 17) C dX0_hasField_16 rfl (v := 0) (by decide) ?_
      exact pt_iret C hr hk dX0_hasField_17 (rfl) (by simp only [inF, bI, cond_false, cond_true, if_neg h_1, if_pos h_9]) (rfl)
    · refine pt_iconst (pc' := 13) C dX0_hasField_12 rfl (v := 1) (by decide) ?_
      refine pt_goto (pc' := 17) C dX0_hasField_13 (by decide) ?_
      exact pt_iret C hr hk dX0_hasField_17 (rfl) (by simp only [inF, bI, cond_false, cond_true, if_neg h_1, if_neg h_9]) (rfl)

set_option maxHeartbeats 4000000 in
set_option maxRecDepth 100000 in
theorem mX0_hasBorder (l : Launch) (D : va_G) (cA : ClassId) (aB : Nat → Nat) (n : Nat) (k : Int32) (bs : Nat → Int32) (wl : Nat → Int32) (fd : Nat → Int32) (kd : Nat → Int32) (sz : Nat → Int32) (lk : Nat → Int32) (x : Int32) : mt_I l yX0_hasBorder wsX0_hasBorder { frames := 0, cells := 0, slots := 0, locals := 0 } D [(cA, .int)] [.ref (aB 0), .int x] (wB cA aB n k bs wl fd kd sz lk) (bI (inBd n x)) (wB cA aB n k bs wl fd kd sz lk) := by
  refine mt_ofI (cc := cX0_hasBorder) (maxL := 2) (ret := (some .boolean)) (lv := [(0, .ref (aB 0)), (1, .int x)]) (by decide) rfl (Nat.le_of_ble_eq_true rfl) rfl ?_
  intro p e s m args below meth c A C hr hk
  have f_9 := C.hts (.fieldLink RX0 9 "ShoreFields$Begin" "fieldCount" "I") (by decide +kernel)
  have in_0 : ∀ w ∈ u_ws RX0 TX0 8, w ∈ wsX0_hasBorder := by decide +kernel
  refine pt_iload_n (pc' := 1) C dX0_hasBorder_0 rfl 1 rfl ?_
  refine pt_if_lt (pc' := 4) (tgt := 16) C dX0_hasBorder_1 (by decide) rfl (fun h_1 => ?_) (fun h_1 => ?_)
  · refine pt_iconst (pc' := 17) C dX0_hasBorder_16 rfl (v := 0) (by decide) ?_
    exact pt_iret C hr hk dX0_hasBorder_17 (rfl) (by simp only [inBd, bI, cond_false, cond_true, if_pos h_1]) (rfl)
  · refine pt_iload_n (pc' := 5) C dX0_hasBorder_4 rfl 1 rfl ?_
    refine pt_aload_n (pc' := 6) C dX0_hasBorder_5 rfl 0 rfl ?_
    refine pt_get (pc' := 9) C in_0 dX0_hasBorder_6 rfl 0 0 rfl rfl (by decide) f_9 rfl ?_
    refine pt_icmp_gt (pc' := 12) (tgt := 16) C dX0_hasBorder_9 (by decide) rfl (fun h_9 => ?_) (fun h_9 => ?_)
    · refine pt_iconst (pc' := 17) C dX0_hasBorder_16 rfl (v := 0) (by decide) ?_
      exact pt_iret C hr hk dX0_hasBorder_17 (rfl) (by simp only [inBd, bI, cond_false, cond_true, if_neg h_1, if_pos h_9]) (rfl)
    · refine pt_iconst (pc' := 13) C dX0_hasBorder_12 rfl (v := 1) (by decide) ?_
      refine pt_goto (pc' := 17) C dX0_hasBorder_13 (by decide) ?_
      exact pt_iret C hr hk dX0_hasBorder_17 (rfl) (by simp only [inBd, bI, cond_false, cond_true, if_neg h_1, if_neg h_9]) (rfl)

set_option maxHeartbeats 4000000 in
set_option maxRecDepth 100000 in
theorem mX0_liesBetweenFields (l : Launch) (D : va_G) (cA : ClassId) (aB : Nat → Nat) (n : Nat) (k : Int32) (bs : Nat → Int32) (wl : Nat → Int32) (fd : Nat → Int32) (kd : Nat → Int32) (sz : Nat → Int32) (lk : Nat → Int32) (x : Int32) : mt_I l yX0_liesBetweenFields wsX0_liesBetweenFields { frames := 0, cells := 0, slots := 0, locals := 0 } D [(cA, .int)] [.ref (aB 0), .int x] (wB cA aB n k bs wl fd kd sz lk) (bI (inI n x)) (wB cA aB n k bs wl fd kd sz lk) := by
  refine mt_ofI (cc := cX0_liesBetweenFields) (maxL := 2) (ret := (some .boolean)) (lv := [(0, .ref (aB 0)), (1, .int x)]) (by decide) rfl (Nat.le_of_ble_eq_true rfl) rfl ?_
  intro p e s m args below meth c A C hr hk
  have f_9 := C.hts (.fieldLink RX0 9 "ShoreFields$Begin" "fieldCount" "I") (by decide +kernel)
  have in_0 : ∀ w ∈ u_ws RX0 TX0 8, w ∈ wsX0_liesBetweenFields := by decide +kernel
  refine pt_iload_n (pc' := 1) C dX0_liesBetweenFields_0 rfl 1 rfl ?_
  refine pt_iconst (pc' := 2) C dX0_liesBetweenFields_1 rfl (v := 1) (by decide) ?_
  refine pt_icmp_lt (pc' := 5) (tgt := 17) C dX0_liesBetweenFields_2 (by decide) rfl (fun h_2 => ?_) (fun h_2 => ?_)
  · refine pt_iconst (pc' := 18) C dX0_liesBetweenFields_17 rfl (v := 0) (by decide) ?_
    exact pt_iret C hr hk dX0_liesBetweenFields_18 (rfl) (by simp only [inI, bI, cond_false, cond_true, if_pos h_2]) (rfl)
  · refine pt_iload_n (pc' := 6) C dX0_liesBetweenFields_5 rfl 1 rfl ?_
    refine pt_aload_n (pc' := 7) C dX0_liesBetweenFields_6 rfl 0 rfl ?_
    refine pt_get (pc' := 10) C in_0 dX0_liesBetweenFields_7 rfl 0 0 rfl rfl (by decide) f_9 rfl ?_
    refine pt_icmp_ge (pc' := 13) (tgt := 17) C dX0_liesBetweenFields_10 (by decide) rfl (fun h_10 => ?_) (fun h_10 => ?_)
    · refine pt_iconst (pc' := 18) C dX0_liesBetweenFields_17 rfl (v := 0) (by decide) ?_
      exact pt_iret C hr hk dX0_liesBetweenFields_18 (rfl) (by simp only [inI, bI, cond_false, cond_true, if_neg h_2, if_pos h_10]) (rfl)
    · refine pt_iconst (pc' := 14) C dX0_liesBetweenFields_13 rfl (v := 1) (by decide) ?_
      refine pt_goto (pc' := 18) C dX0_liesBetweenFields_14 (by decide) ?_
      exact pt_iret C hr hk dX0_liesBetweenFields_18 (rfl) (by simp only [inI, bI, cond_false, cond_true, if_neg h_2, if_neg h_10]) (rfl)

set_option maxHeartbeats 4000000 in
set_option maxRecDepth 100000 in
theorem mX0_hasAt (l : Launch) (D : va_G) (cA : ClassId) (aB : Nat → Nat) (n : Nat) (k : Int32) (bs : Nat → Int32) (wl : Nat → Int32) (fd : Nat → Int32) (kd : Nat → Int32) (sz : Nat → Int32) (lk : Nat → Int32) (x : Int32) (y : Int32) (hm : n ≤ 12) : mt_I l yX0_hasAt wsX0_hasAt { frames := 1, cells := 0, slots := 0, locals := 21 } D [(cA, .int)] [.ref (aB 0), .int x, .int y] (wB cA aB n k bs wl fd kd sz lk) (bI (hasA n kd x y)) (wB cA aB n k bs wl fd kd sz lk) := by
  refine mt_ofI (cc := cX0_hasAt) (maxL := 3) (ret := (some .boolean)) (lv := [(0, .ref (aB 0)), (1, .int x), (2, .int y)]) (by decide) rfl (Nat.le_of_ble_eq_true rfl) rfl ?_
  intro p e s m args below meth c A C hr hk
  have f_28 := C.hts (.fieldLink RX0 28 "ShoreFields$Begin" "kindAt" "[I") (by decide +kernel)
  have in_0 : ∀ w ∈ u_ws RX0 TX0 8, w ∈ wsX0_hasAt := by decide +kernel
  refine pt_aload_n (pc' := 1) C dX0_hasAt_0 rfl 0 rfl ?_
  refine pt_iload_n (pc' := 2) C dX0_hasAt_1 rfl 1 rfl ?_
  refine pt_cvI0 (pc' := 5) (w1 := wB cA aB n k bs wl fd kd sz lk) (As := [.int x]) (rest := []) C (mX0_liesBetweenFields l D cA aB n k bs wl fd kd sz lk x ) (cwV 1 C.hts gX0_hasAt_X0_liesBetweenFields rfl rfl rfl (by decide +kernel) ⟨Nat.le_of_ble_eq_true rfl, Nat.le_of_ble_eq_true rfl⟩) dX0_hasAt_2 rfl 0 rfl rfl rfl rfl rfl (Nat.le_of_ble_eq_true rfl) ⟨Nat.le_of_ble_eq_true rfl, Nat.le_of_ble_eq_true rfl⟩ ?_
  refine pt_if_eq (pc' := 8) (tgt := 22) C dX0_hasAt_5 (by decide) rfl (fun h_5 => ?_) (fun h_5 => ?_)
  · refine pt_iconst (pc' := 23) C dX0_hasAt_22 rfl (v := 0) (by decide) ?_
    exact pt_iret C hr hk dX0_hasAt_23 (rfl) (by simp only [hasA, bI_f h_5, bI, cond_false, cond_true, Bool.and_true, Bool.true_and, Bool.and_false, Bool.false_and]) (rfl)
  · refine pt_aload_n (pc' := 9) C dX0_hasAt_8 rfl 0 rfl ?_
    refine pt_get (pc' := 12) C in_0 dX0_hasAt_9 rfl 0 5 rfl rfl (by decide) f_28 rfl ?_
    refine pt_iload_n (pc' := 13) C dX0_hasAt_12 rfl 1 rfl ?_
    refine pt_iald (pc' := 14) C dX0_hasAt_13 rfl 4 rfl rfl x.toNatClampNeg ((inI_in hm (bI_t h_5)).1) (by have := (inI_in hm (bI_t h_5)).2.2; omega) (by decide) ?_
    refine pt_iload_n (pc' := 15) C dX0_hasAt_14 rfl 2 rfl ?_
    refine pt_icmp_ne (pc' := 18) (tgt := 22) C dX0_hasAt_15 (by decide) rfl (fun h_15 => ?_) (fun h_15 => ?_)
    · refine pt_iconst (pc' := 23) C dX0_hasAt_22 rfl (v := 0) (by decide) ?_
      exact pt_iret C hr hk dX0_hasAt_23 (rfl) (by simp only [hasA, bI_t h_5, if_neg h_15, bI, cond_false, cond_true, Bool.and_true, Bool.true_and, Bool.and_false, Bool.false_and]) (rfl)
    · refine pt_iconst (pc' := 19) C dX0_hasAt_18 rfl (v := 1) (by decide) ?_
      refine pt_goto (pc' := 23) C dX0_hasAt_19 (by decide) ?_
      exact pt_iret C hr hk dX0_hasAt_23 (rfl) (by simp only [hasA, bI_t h_5, if_pos h_15, bI, cond_false, cond_true, Bool.and_true, Bool.true_and, Bool.and_false, Bool.false_and]) (rfl)

set_option maxHeartbeats 4000000 in
set_option maxRecDepth 100000 in
theorem mX0_hasGroynes (l : Launch) (D : va_G) (cA : ClassId) (aB : Nat → Nat) (n : Nat) (k : Int32) (bs : Nat → Int32) (wl : Nat → Int32) (fd : Nat → Int32) (kd : Nat → Int32) (sz : Nat → Int32) (lk : Nat → Int32) (x : Int32) (hn : 2 ≤ n) (hm : n ≤ 12) : mt_I l yX0_hasGroynes wsX0_hasGroynes { frames := 0, cells := 0, slots := 0, locals := 0 } D [(cA, .int)] [.ref (aB 0), .int x] (wB cA aB n k bs wl fd kd sz lk) (bI (hasG n kd x)) (wB cA aB n k bs wl fd kd sz lk) := by
  refine mt_ofI (cc := cX0_hasGroynes) (maxL := 4) (ret := (some .boolean)) (lv := [(0, .ref (aB 0)), (1, .int x)]) (by decide) rfl (Nat.le_of_ble_eq_true rfl) rfl ?_
  intro p e s m args below meth c A C hr hk
  have f_9 := C.hts (.fieldLink RX0 9 "ShoreFields$Begin" "fieldCount" "I") (by decide +kernel)
  have in_0 : ∀ w ∈ u_ws RX0 TX0 8, w ∈ wsX0_hasGroynes := by decide +kernel
  have f_28 := C.hts (.fieldLink RX0 28 "ShoreFields$Begin" "kindAt" "[I") (by decide +kernel)
  refine pt_iload_n (pc' := 1) C dX0_hasGroynes_0 rfl 1 rfl ?_
  refine pt_istore_n (pc' := 2) (lv' := [(2, .int x), (0, .ref (aB 0)), (1, .int x)]) C dX0_hasGroynes_1 rfl rfl (by decide) rfl ?_
  refine pt_iconst (pc' := 3) C dX0_hasGroynes_2 rfl (v := 1) (by decide) ?_
  refine pt_istore_n (pc' := 4) (lv' := [(3, .int 1), (2, .int x), (0, .ref (aB 0)), (1, .int x)]) C dX0_hasGroynes_3 rfl rfl (by decide) rfl ?_
  refine pt_cv (ws' := wB cA aB n k bs wl fd kd sz lk) (lv' := [(3, .int (nI (1 + 0))), (2, .int (itf (hgS kd) 1 0 x)), (0, .ref (aB 0)), (1, .int x)]) (rfl) [0, 1, 2, 3] (rfl) rfl ?_
  refine pt_for (wsf := fun j => wB cA aB n k bs wl fd kd sz lk) (lvf := fun j => [(3, .int (nI (1 + j))), (2, .int (itf (hgS kd) 1 j x)), (0, .ref (aB 0)), (1, .int x)]) (n - 1) ?_ (fun j hj_4 ih_4 => ?_)
  rotate_left
  · refine pt_iload_n (pc' := 5) C dX0_hasGroynes_4 rfl 0 rfl ?_
    refine pt_aload_n (pc' := 6) C dX0_hasGroynes_5 rfl 2 rfl ?_
    refine pt_get (pc' := 9) C in_0 dX0_hasGroynes_6 rfl 0 0 rfl rfl (by decide) f_9 rfl ?_
    refine pt_icmp_ge (pc' := 12) (tgt := 36) C dX0_hasGroynes_9 (by decide) rfl (fun h_9 => absurd h_9 (nI_ge (show 1 + j < n by omega) (by omega))) (fun h_9 => ?_)
    refine pt_aload_n (pc' := 13) C dX0_hasGroynes_12 rfl 2 rfl ?_
    refine pt_get (pc' := 16) C in_0 dX0_hasGroynes_13 rfl 0 5 rfl rfl (by decide) f_28 rfl ?_
    refine pt_iload_n (pc' := 17) C dX0_hasGroynes_16 rfl 0 rfl ?_
    refine pt_iald (pc' := 18) C dX0_hasGroynes_17 rfl 4 rfl rfl (1 + j) (rfl) (by omega) (by decide) ?_
    refine pt_iconst (pc' := 19) C dX0_hasGroynes_18 rfl (v := 1) (by decide) ?_
    refine pt_jn (q := 30) (k := 0) (n := 0) (wB cA aB n k bs wl fd kd sz lk) [(2, .int (if (kd (1 + j)) = 1 then (itf (hgS kd) 1 j x) &&& ((1 <<< ((nI (1 + j)) &&& 31)) ^^^ (-1)) else itf (hgS kd) 1 j x)), (3, .int (nI (1 + j))), (0, .ref (aB 0)), (1, .int x)] [] (fun K => ?_) ?_
    · refine pt_icmp_ne (pc' := 22) (tgt := 30) C dX0_hasGroynes_19 (by decide) rfl (fun h_19 => ?_) (fun h_19 => ?_)
      · exact pt_cv (lv' := [(2, .int (itf (hgS kd) 1 j x)), (3, .int (nI (1 + j))), (0, .ref (aB 0)), (1, .int x)]) rfl [1, 0, 2, 3] rfl rfl (by simpa only [if_neg h_19] using K)
      · refine pt_iload_n (pc' := 23) C dX0_hasGroynes_22 rfl 1 rfl ?_
        refine pt_iconst (pc' := 24) C dX0_hasGroynes_23 rfl (v := 1) (by decide) ?_
        refine pt_iload_n (pc' := 25) C dX0_hasGroynes_24 rfl 0 rfl ?_
        refine pt_ishl (pc' := 26) C dX0_hasGroynes_25 rfl ?_
        refine pt_iconst (pc' := 27) C dX0_hasGroynes_26 rfl (v := -1) (by decide) ?_
        refine pt_ixor (pc' := 28) C dX0_hasGroynes_27 rfl ?_
        refine pt_iand (pc' := 29) C dX0_hasGroynes_28 rfl ?_
        refine pt_istore_n (pc' := 30) (lv' := [(2, .int ((itf (hgS kd) 1 j x) &&& ((1 <<< ((nI (1 + j)) &&& 31)) ^^^ (-1)))), (3, .int (nI (1 + j))), (0, .ref (aB 0)), (1, .int x)]) C dX0_hasGroynes_29 rfl rfl (by decide) rfl ?_
        exact pt_cv (lv' := [(2, .int ((itf (hgS kd) 1 j x) &&& ((1 <<< ((nI (1 + j)) &&& 31)) ^^^ (-1)))), (3, .int (nI (1 + j))), (0, .ref (aB 0)), (1, .int x)]) rfl [0, 1, 2, 3] rfl rfl (by simpa only [if_pos h_19] using K)
    refine pt_iinc (pc' := 33) (v := nI (1 + (j + 1))) (lv' := [(3, .int (nI (1 + (j + 1)))), (2, .int (if (kd (1 + j)) = 1 then (itf (hgS kd) 1 j x) &&& ((1 <<< ((nI (1 + j)) &&& 31)) ^^^ (-1)) else itf (hgS kd) 1 j x)), (0, .ref (aB 0)), (1, .int x)]) C dX0_hasGroynes_30 rfl 1 rfl (nI_1 _) (by decide) rfl ?_
    refine pt_goto (pc' := 4) C dX0_hasGroynes_33 (by decide) ?_
    exact pt_cv (rfl) [0, 1, 2, 3] (rfl) rfl ih_4
  refine pt_iload_n (pc' := 5) C dX0_hasGroynes_4 rfl 0 rfl ?_
  refine pt_aload_n (pc' := 6) C dX0_hasGroynes_5 rfl 2 rfl ?_
  refine pt_get (pc' := 9) C in_0 dX0_hasGroynes_6 rfl 0 0 rfl rfl (by decide) f_9 rfl ?_
  refine pt_icmp_ge (pc' := 12) (tgt := 36) C dX0_hasGroynes_9 (by decide) rfl (fun h_9 => ?_) (fun h_9 => absurd (nI_le (show n ≤ 1 + (n - 1) by omega) (by omega)) h_9)
  refine pt_iload_n (pc' := 37) C dX0_hasGroynes_36 rfl 1 rfl ?_
  refine pt_if_ne (pc' := 40) (tgt := 44) C dX0_hasGroynes_37 (by decide) rfl (fun h_37 => ?_) (fun h_37 => ?_)
  · refine pt_iconst (pc' := 45) C dX0_hasGroynes_44 rfl (v := 0) (by decide) ?_
    exact pt_iret C hr hk dX0_hasGroynes_45 (rfl) (by simp only [hasG, bI, cond_false, cond_true, if_neg h_37]) (rfl)
  · refine pt_iconst (pc' := 41) C dX0_hasGroynes_40 rfl (v := 1) (by decide) ?_
    refine pt_goto (pc' := 45) C dX0_hasGroynes_41 (by decide) ?_
    exact pt_iret C hr hk dX0_hasGroynes_45 (rfl) (by simp only [hasG, bI, cond_false, cond_true, if_pos h_37]) (rfl)

set_option maxHeartbeats 4000000 in
set_option maxRecDepth 100000 in
theorem mX0_build (l : Launch) (D : va_G) (cA : ClassId) (aB : Nat → Nat) (n : Nat) (k : Int32) (bs : Nat → Int32) (wl : Nat → Int32) (fd : Nat → Int32) (kd : Nat → Int32) (sz : Nat → Int32) (lk : Nat → Int32) (b : Nat) (x : Int32) (y : Int32) (z : Int32) (hb : b < 13) : mt_V l yX0_build wsX0_build { frames := 0, cells := 0, slots := 0, locals := 0 } D [(cA, .int)] [.ref (aB 0), .int (nI b), .int x, .int y, .int z] (wB cA aB n k bs wl fd kd sz lk) (wB cA aB n k bs wl fd (upd kd b x) (upd sz b y) (upd lk b z)) := by
  refine mt_ofV (cc := cX0_build) (maxL := 5) (ret := none) (lv := [(0, .ref (aB 0)), (1, .int (nI b)), (2, .int x), (3, .int y), (4, .int z)]) (by decide) rfl (Nat.le_of_ble_eq_true rfl) rfl ?_
  intro p e s m args below meth c A C hr hk
  have f_28 := C.hts (.fieldLink RX0 28 "ShoreFields$Begin" "kindAt" "[I") (by decide +kernel)
  have in_0 : ∀ w ∈ u_ws RX0 TX0 8, w ∈ wsX0_build := by decide +kernel
  have f_31 := C.hts (.fieldLink RX0 31 "ShoreFields$Begin" "sizeAt" "[I") (by decide +kernel)
  have f_34 := C.hts (.fieldLink RX0 34 "ShoreFields$Begin" "leakAt" "[I") (by decide +kernel)
  refine pt_aload_n (pc' := 1) C dX0_build_0 rfl 0 rfl ?_
  refine pt_get (pc' := 4) C in_0 dX0_build_1 rfl 0 5 rfl rfl (by decide) f_28 rfl ?_
  refine pt_iload_n (pc' := 5) C dX0_build_4 rfl 1 rfl ?_
  refine pt_iload_n (pc' := 6) C dX0_build_5 rfl 2 rfl ?_
  refine pt_iast (pc' := 7) (ws' := wB cA aB n k bs wl fd (upd kd b x) sz lk) C dX0_build_6 rfl 4 rfl rfl b (rfl) (by omega) (by decide) rfl ?_
  refine pt_aload_n (pc' := 8) C dX0_build_7 rfl 0 rfl ?_
  refine pt_get (pc' := 11) C in_0 dX0_build_8 rfl 0 6 rfl rfl (by decide) f_31 rfl ?_
  refine pt_iload_n (pc' := 12) C dX0_build_11 rfl 1 rfl ?_
  refine pt_iload_n (pc' := 13) C dX0_build_12 rfl 3 rfl ?_
  refine pt_iast (pc' := 14) (ws' := wB cA aB n k bs wl fd (upd kd b x) (upd sz b y) lk) C dX0_build_13 rfl 5 rfl rfl b (rfl) (by omega) (by decide) rfl ?_
  refine pt_aload_n (pc' := 15) C dX0_build_14 rfl 0 rfl ?_
  refine pt_get (pc' := 18) C in_0 dX0_build_15 rfl 0 7 rfl rfl (by decide) f_34 rfl ?_
  refine pt_iload_n (pc' := 19) C dX0_build_18 rfl 1 rfl ?_
  refine pt_iload (pc' := 21) C dX0_build_19 rfl 4 rfl ?_
  refine pt_iast (pc' := 22) (ws' := wB cA aB n k bs wl fd (upd kd b x) (upd sz b y) (upd lk b z)) C dX0_build_21 rfl 6 rfl rfl b (rfl) (by omega) (by decide) rfl ?_
  exact pt_vret C hr hk dX0_build_22 (rfl)

set_option maxHeartbeats 4000000 in
set_option maxRecDepth 100000 in
theorem mX0_leaveAway (l : Launch) (D : va_G) (cA : ClassId) (aB : Nat → Nat) (n : Nat) (k : Int32) (bs : Nat → Int32) (wl : Nat → Int32) (fd : Nat → Int32) (kd : Nat → Int32) (sz : Nat → Int32) (lk : Nat → Int32) (x : Int32) (hn : 2 ≤ n) (hm : n ≤ 12) : mt_V l yX0_leaveAway wsX0_leaveAway { frames := 1, cells := 0, slots := 0, locals := 24 } D [(cA, .int)] [.ref (aB 0), .int x] (wB cA aB n k bs wl fd kd sz lk) (wB cA aB n k bs wl fd ((itf (laS x) 1 (n - 1) (kd, sz, lk)).1) ((itf (laS x) 1 (n - 1) (kd, sz, lk)).2.1) ((itf (laS x) 1 (n - 1) (kd, sz, lk)).2.2)) := by
  refine mt_ofV (cc := cX0_leaveAway) (maxL := 3) (ret := none) (lv := [(0, .ref (aB 0)), (1, .int x)]) (by decide) rfl (Nat.le_of_ble_eq_true rfl) rfl ?_
  intro p e s m args below meth c A C hr hk
  have f_9 := C.hts (.fieldLink RX0 9 "ShoreFields$Begin" "fieldCount" "I") (by decide +kernel)
  have in_0 : ∀ w ∈ u_ws RX0 TX0 8, w ∈ wsX0_leaveAway := by decide +kernel
  refine pt_iconst (pc' := 1) C dX0_leaveAway_0 rfl (v := 1) (by decide) ?_
  refine pt_istore_n (pc' := 2) (lv' := [(2, .int 1), (0, .ref (aB 0)), (1, .int x)]) C dX0_leaveAway_1 rfl rfl (by decide) rfl ?_
  refine pt_cv (ws' := wB cA aB n k bs wl fd ((itf (laS x) 1 0 (kd, sz, lk)).1) ((itf (laS x) 1 0 (kd, sz, lk)).2.1) ((itf (laS x) 1 0 (kd, sz, lk)).2.2)) (lv' := [(2, .int (nI (1 + 0))), (0, .ref (aB 0)), (1, .int x)]) (rfl) [0, 1, 2] (rfl) rfl ?_
  refine pt_for (wsf := fun j => wB cA aB n k bs wl fd ((itf (laS x) 1 j (kd, sz, lk)).1) ((itf (laS x) 1 j (kd, sz, lk)).2.1) ((itf (laS x) 1 j (kd, sz, lk)).2.2)) (lvf := fun j => [(2, .int (nI (1 + j))), (0, .ref (aB 0)), (1, .int x)]) (n - 1) ?_ (fun j hj_2 ih_2 => ?_)
  rotate_left
  · refine pt_iload_n (pc' := 3) C dX0_leaveAway_2 rfl 0 rfl ?_
    refine pt_aload_n (pc' := 4) C dX0_leaveAway_3 rfl 1 rfl ?_
    refine pt_get (pc' := 7) C in_0 dX0_leaveAway_4 rfl 0 0 rfl rfl (by decide) f_9 rfl ?_
    refine pt_icmp_ge (pc' := 10) (tgt := 32) C dX0_leaveAway_7 (by decide) rfl (fun h_7 => absurd h_7 (nI_ge (show 1 + j < n by omega) (by omega))) (fun h_7 => ?_)
    refine pt_iload_n (pc' := 11) C dX0_leaveAway_10 rfl 2 rfl ?_
    refine pt_iconst (pc' := 12) C dX0_leaveAway_11 rfl (v := 1) (by decide) ?_
    refine pt_iload_n (pc' := 13) C dX0_leaveAway_12 rfl 0 rfl ?_
    refine pt_ishl (pc' := 14) C dX0_leaveAway_13 rfl ?_
    refine pt_iand (pc' := 15) C dX0_leaveAway_14 rfl ?_
    refine pt_if_eq (pc' := 18) (tgt := 26) C dX0_leaveAway_15 (by decide) rfl (fun h_15 => ?_) (fun h_15 => ?_)
    · refine pt_iinc (pc' := 29) (v := nI (1 + (j + 1))) (lv' := [(2, .int (nI (1 + (j + 1)))), (0, .ref (aB 0)), (1, .int x)]) C dX0_leaveAway_26 rfl 0 rfl (nI_1 _) (by decide) rfl ?_
      refine pt_goto (pc' := 2) C dX0_leaveAway_29 (by decide) ?_
      exact pt_cv (by simp only [itf_s, laS, if_pos h_15]) [0, 1, 2] (rfl) rfl ih_2
    · refine pt_aload_n (pc' := 19) C dX0_leaveAway_18 rfl 1 rfl ?_
      refine pt_iload_n (pc' := 20) C dX0_leaveAway_19 rfl 0 rfl ?_
      refine pt_iconst (pc' := 21) C dX0_leaveAway_20 rfl (v := 0) (by decide) ?_
      refine pt_iconst (pc' := 22) C dX0_leaveAway_21 rfl (v := 0) (by decide) ?_
      refine pt_iconst (pc' := 23) C dX0_leaveAway_22 rfl (v := 0) (by decide) ?_
      refine pt_cvV0 (pc' := 26) (w1 := wB cA aB n k bs wl fd (upd ((itf (laS x) 1 j (kd, sz, lk)).1) (1 + j) 0) (upd ((itf (laS x) 1 j (kd, sz, lk)).2.1) (1 + j) 0) (upd ((itf (laS x) 1 j (kd, sz, lk)).2.2) (1 + j) 0)) (As := [.int (nI (1 + j)), .int 0, .int 0, .int 0]) (rest := []) C (mX0_build l D cA aB n k bs wl fd ((itf (laS x) 1 j (kd, sz, lk)).1) ((itf (laS x) 1 j (kd, sz, lk)).2.1) ((itf (laS x) 1 j (kd, sz, lk)).2.2) (1 + j) 0 0 0 (by first | assumption | omega)) (cwV 4 C.hts gX0_leaveAway_X0_build rfl rfl rfl (by decide +kernel) ⟨Nat.le_of_ble_eq_true rfl, Nat.le_of_ble_eq_true rfl⟩) dX0_leaveAway_23 rfl 0 rfl rfl rfl rfl rfl (Nat.le_of_ble_eq_true rfl) ⟨Nat.le_of_ble_eq_true rfl, Nat.le_of_ble_eq_true rfl⟩ ?_
      refine pt_iinc (pc' := 29) (v := nI (1 + (j + 1))) (lv' := [(2, .int (nI (1 + (j + 1)))), (0, .ref (aB 0)), (1, .int x)]) C dX0_leaveAway_26 rfl 0 rfl (nI_1 _) (by decide) rfl ?_
      refine pt_goto (pc' := 2) C dX0_leaveAway_29 (by decide) ?_
      exact pt_cv (by simp only [itf_s, laS, if_neg h_15]) [0, 1, 2] (rfl) rfl ih_2
  refine pt_iload_n (pc' := 3) C dX0_leaveAway_2 rfl 0 rfl ?_
  refine pt_aload_n (pc' := 4) C dX0_leaveAway_3 rfl 1 rfl ?_
  refine pt_get (pc' := 7) C in_0 dX0_leaveAway_4 rfl 0 0 rfl rfl (by decide) f_9 rfl ?_
  refine pt_icmp_ge (pc' := 10) (tgt := 32) C dX0_leaveAway_7 (by decide) rfl (fun h_7 => ?_) (fun h_7 => absurd (nI_le (show n ≤ 1 + (n - 1) by omega) (by omega)) h_7)
  exact pt_vret C hr hk dX0_leaveAway_32 (rfl)

set_option maxHeartbeats 4000000 in
set_option maxRecDepth 100000 in
theorem mX0_copyFrom (l : Launch) (D : va_G) (cA : ClassId) (aB : Nat → Nat) (n : Nat) (k : Int32) (bs : Nat → Int32) (wl : Nat → Int32) (fd : Nat → Int32) (kd : Nat → Int32) (sz : Nat → Int32) (lk : Nat → Int32) (aC : Nat → Nat) (n2 : Nat) (k2 : Int32) (bs2 : Nat → Int32) (wl2 : Nat → Int32) (fd2 : Nat → Int32) (kd2 : Nat → Int32) (sz2 : Nat → Int32) (lk2 : Nat → Int32) : mt_V l yX0_copyFrom wsX0_copyFrom { frames := 1, cells := 0, slots := 0, locals := 60 } D [(cA, .int)] [.ref (aB 0), .ref (aC 0)] (wB cA aB n k bs wl fd kd sz lk ++ wB cA aC n2 k2 bs2 wl2 fd2 kd2 sz2 lk2) (wB cA aB n2 k2 bs2 wl2 fd2 kd2 sz2 lk2 ++ wB cA aC n2 k2 bs2 wl2 fd2 kd2 sz2 lk2) := by
  refine mt_ofV (cc := cX0_copyFrom) (maxL := 2) (ret := none) (lv := [(0, .ref (aB 0)), (1, .ref (aC 0))]) (by decide) rfl (Nat.le_of_ble_eq_true rfl) rfl ?_
  intro p e s m args below meth c A C hr hk
  have f_9 := C.hts (.fieldLink RX0 9 "ShoreFields$Begin" "fieldCount" "I") (by decide +kernel)
  have in_0 : ∀ w ∈ u_ws RX0 TX0 8, w ∈ wsX0_copyFrom := by decide +kernel
  have f_15 := C.hts (.fieldLink RX0 15 "ShoreFields$Begin" "shoreNumber" "I") (by decide +kernel)
  have f_18 := C.hts (.fieldLink RX0 18 "ShoreFields$Begin" "sandOf" "[I") (by decide +kernel)
  have m_51 := C.hts (.methodLink RX0 51 arraycopyName) (by decide +kernel)
  have ac_n := C.hts (.native arraycopyName) (by decide +kernel)
  have ac_s := C.hts (.static arraycopyName) (by decide +kernel)
  have ac_i := C.hts (.initialized "java/lang/System") (by decide +kernel)
  have f_22 := C.hts (.fieldLink RX0 22 "ShoreFields$Begin" "wallOf" "[I") (by decide +kernel)
  have f_25 := C.hts (.fieldLink RX0 25 "ShoreFields$Begin" "feedOf" "[I") (by decide +kernel)
  have f_28 := C.hts (.fieldLink RX0 28 "ShoreFields$Begin" "kindAt" "[I") (by decide +kernel)
  have f_31 := C.hts (.fieldLink RX0 31 "ShoreFields$Begin" "sizeAt" "[I") (by decide +kernel)
  have f_34 := C.hts (.fieldLink RX0 34 "ShoreFields$Begin" "leakAt" "[I") (by decide +kernel)
  refine pt_aload_n (pc' := 1) C dX0_copyFrom_0 rfl 0 rfl ?_
  refine pt_aload_n (pc' := 2) C dX0_copyFrom_1 rfl 1 rfl ?_
  refine pt_get (pc' := 5) C in_0 dX0_copyFrom_2 rfl 7 0 rfl rfl (by decide) f_9 rfl ?_
  refine pt_put (pc' := 8) (ty := .int) (ws' := wB cA aB n2 k bs wl fd kd sz lk ++ wB cA aC n2 k2 bs2 wl2 fd2 kd2 sz2 lk2) C in_0 tyX0 tyX0_ok nmX0 dX0_copyFrom_5 rfl 0 0 rfl rfl (by decide) f_9 rfl (by decide +kernel) (rfl) (rfl) (Nat.le_of_ble_eq_true rfl) rfl ?_
  refine pt_aload_n (pc' := 9) C dX0_copyFrom_8 rfl 0 rfl ?_
  refine pt_aload_n (pc' := 10) C dX0_copyFrom_9 rfl 1 rfl ?_
  refine pt_get (pc' := 13) C in_0 dX0_copyFrom_10 rfl 7 1 rfl rfl (by decide) f_15 rfl ?_
  refine pt_put (pc' := 16) (ty := .int) (ws' := wB cA aB n2 k2 bs wl fd kd sz lk ++ wB cA aC n2 k2 bs2 wl2 fd2 kd2 sz2 lk2) C in_0 tyX0 tyX0_ok nmX0 dX0_copyFrom_13 rfl 0 1 rfl rfl (by decide) f_15 rfl (by decide +kernel) (rfl) (rfl) (Nat.le_of_ble_eq_true rfl) rfl ?_
  refine pt_aload_n (pc' := 17) C dX0_copyFrom_16 rfl 1 rfl ?_
  refine pt_get (pc' := 20) C in_0 dX0_copyFrom_17 rfl 7 2 rfl rfl (by decide) f_18 rfl ?_
  refine pt_iconst (pc' := 21) C dX0_copyFrom_20 rfl (v := 0) (by decide) ?_
  refine pt_aload_n (pc' := 22) C dX0_copyFrom_21 rfl 0 rfl ?_
  refine pt_get (pc' := 25) C in_0 dX0_copyFrom_22 rfl 0 2 rfl rfl (by decide) f_18 rfl ?_
  refine pt_iconst (pc' := 26) C dX0_copyFrom_25 rfl (v := 0) (by decide) ?_
  refine pt_bipush (pc' := 28) C dX0_copyFrom_26 rfl (v := 12) (by decide) ?_
  refine pt_copyA (pc' := 31) (ws' := wB cA aB n2 k2 bs2 wl fd kd sz lk ++ wB cA aC n2 k2 bs2 wl2 fd2 kd2 sz2 lk2) C dX0_copyFrom_28 rfl m_51 ac_n ac_s ac_i 8 1 rfl rfl rfl (rfl) (by decide) (by decide) (Nat.le_of_ble_eq_true rfl) (Nat.le_of_ble_eq_true rfl) rfl ?_
  refine pt_aload_n (pc' := 32) C dX0_copyFrom_31 rfl 1 rfl ?_
  refine pt_get (pc' := 35) C in_0 dX0_copyFrom_32 rfl 7 3 rfl rfl (by decide) f_22 rfl ?_
  refine pt_iconst (pc' := 36) C dX0_copyFrom_35 rfl (v := 0) (by decide) ?_
  refine pt_aload_n (pc' := 37) C dX0_copyFrom_36 rfl 0 rfl ?_
  refine pt_get (pc' := 40) C in_0 dX0_copyFrom_37 rfl 0 3 rfl rfl (by decide) f_22 rfl ?_
  refine pt_iconst (pc' := 41) C dX0_copyFrom_40 rfl (v := 0) (by decide) ?_
  refine pt_bipush (pc' := 43) C dX0_copyFrom_41 rfl (v := 12) (by decide) ?_
  refine pt_copyA (pc' := 46) (ws' := wB cA aB n2 k2 bs2 wl2 fd kd sz lk ++ wB cA aC n2 k2 bs2 wl2 fd2 kd2 sz2 lk2) C dX0_copyFrom_43 rfl m_51 ac_n ac_s ac_i 9 2 rfl rfl rfl (rfl) (by decide) (by decide) (Nat.le_of_ble_eq_true rfl) (Nat.le_of_ble_eq_true rfl) rfl ?_
  refine pt_aload_n (pc' := 47) C dX0_copyFrom_46 rfl 1 rfl ?_
  refine pt_get (pc' := 50) C in_0 dX0_copyFrom_47 rfl 7 4 rfl rfl (by decide) f_25 rfl ?_
  refine pt_iconst (pc' := 51) C dX0_copyFrom_50 rfl (v := 0) (by decide) ?_
  refine pt_aload_n (pc' := 52) C dX0_copyFrom_51 rfl 0 rfl ?_
  refine pt_get (pc' := 55) C in_0 dX0_copyFrom_52 rfl 0 4 rfl rfl (by decide) f_25 rfl ?_
  refine pt_iconst (pc' := 56) C dX0_copyFrom_55 rfl (v := 0) (by decide) ?_
  refine pt_iconst (pc' := 57) C dX0_copyFrom_56 rfl (v := 2) (by decide) ?_
  refine pt_copyA (pc' := 60) (ws' := wB cA aB n2 k2 bs2 wl2 fd2 kd sz lk ++ wB cA aC n2 k2 bs2 wl2 fd2 kd2 sz2 lk2) C dX0_copyFrom_57 rfl m_51 ac_n ac_s ac_i 10 3 rfl rfl rfl (rfl) (by decide) (by decide) (Nat.le_of_ble_eq_true rfl) (Nat.le_of_ble_eq_true rfl) rfl ?_
  refine pt_aload_n (pc' := 61) C dX0_copyFrom_60 rfl 1 rfl ?_
  refine pt_get (pc' := 64) C in_0 dX0_copyFrom_61 rfl 7 5 rfl rfl (by decide) f_28 rfl ?_
  refine pt_iconst (pc' := 65) C dX0_copyFrom_64 rfl (v := 0) (by decide) ?_
  refine pt_aload_n (pc' := 66) C dX0_copyFrom_65 rfl 0 rfl ?_
  refine pt_get (pc' := 69) C in_0 dX0_copyFrom_66 rfl 0 5 rfl rfl (by decide) f_28 rfl ?_
  refine pt_iconst (pc' := 70) C dX0_copyFrom_69 rfl (v := 0) (by decide) ?_
  refine pt_bipush (pc' := 72) C dX0_copyFrom_70 rfl (v := 13) (by decide) ?_
  refine pt_copyA (pc' := 75) (ws' := wB cA aB n2 k2 bs2 wl2 fd2 kd2 sz lk ++ wB cA aC n2 k2 bs2 wl2 fd2 kd2 sz2 lk2) C dX0_copyFrom_72 rfl m_51 ac_n ac_s ac_i 11 4 rfl rfl rfl (rfl) (by decide) (by decide) (Nat.le_of_ble_eq_true rfl) (Nat.le_of_ble_eq_true rfl) rfl ?_
  refine pt_aload_n (pc' := 76) C dX0_copyFrom_75 rfl 1 rfl ?_
  refine pt_get (pc' := 79) C in_0 dX0_copyFrom_76 rfl 7 6 rfl rfl (by decide) f_31 rfl ?_
  refine pt_iconst (pc' := 80) C dX0_copyFrom_79 rfl (v := 0) (by decide) ?_
  refine pt_aload_n (pc' := 81) C dX0_copyFrom_80 rfl 0 rfl ?_
  refine pt_get (pc' := 84) C in_0 dX0_copyFrom_81 rfl 0 6 rfl rfl (by decide) f_31 rfl ?_
  refine pt_iconst (pc' := 85) C dX0_copyFrom_84 rfl (v := 0) (by decide) ?_
  refine pt_bipush (pc' := 87) C dX0_copyFrom_85 rfl (v := 13) (by decide) ?_
  refine pt_copyA (pc' := 90) (ws' := wB cA aB n2 k2 bs2 wl2 fd2 kd2 sz2 lk ++ wB cA aC n2 k2 bs2 wl2 fd2 kd2 sz2 lk2) C dX0_copyFrom_87 rfl m_51 ac_n ac_s ac_i 12 5 rfl rfl rfl (rfl) (by decide) (by decide) (Nat.le_of_ble_eq_true rfl) (Nat.le_of_ble_eq_true rfl) rfl ?_
  refine pt_aload_n (pc' := 91) C dX0_copyFrom_90 rfl 1 rfl ?_
  refine pt_get (pc' := 94) C in_0 dX0_copyFrom_91 rfl 7 7 rfl rfl (by decide) f_34 rfl ?_
  refine pt_iconst (pc' := 95) C dX0_copyFrom_94 rfl (v := 0) (by decide) ?_
  refine pt_aload_n (pc' := 96) C dX0_copyFrom_95 rfl 0 rfl ?_
  refine pt_get (pc' := 99) C in_0 dX0_copyFrom_96 rfl 0 7 rfl rfl (by decide) f_34 rfl ?_
  refine pt_iconst (pc' := 100) C dX0_copyFrom_99 rfl (v := 0) (by decide) ?_
  refine pt_bipush (pc' := 102) C dX0_copyFrom_100 rfl (v := 13) (by decide) ?_
  refine pt_copyA (pc' := 105) (ws' := wB cA aB n2 k2 bs2 wl2 fd2 kd2 sz2 lk2 ++ wB cA aC n2 k2 bs2 wl2 fd2 kd2 sz2 lk2) C dX0_copyFrom_102 rfl m_51 ac_n ac_s ac_i 13 6 rfl rfl rfl (rfl) (by decide) (by decide) (Nat.le_of_ble_eq_true rfl) (Nat.le_of_ble_eq_true rfl) rfl ?_
  exact pt_vret C hr hk dX0_copyFrom_105 (rfl)
