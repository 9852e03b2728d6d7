/-! the law's loop -/
theorem sw_20 (x : Int32) : (x.toInt < 0 ∨ 20 < x.toInt) ∨ x = nI 0 ∨ x = nI 1 ∨ x = nI 2 ∨ x = nI 3 ∨ x = nI 4 ∨ x = nI 5 ∨ x = nI 6 ∨ x = nI 7 ∨ x = nI 8 ∨ x = nI 9 ∨ x = nI 10 ∨ x = nI 11 ∨ x = nI 12 ∨ x = nI 13 ∨ x = nI 14 ∨ x = nI 15 ∨ x = nI 16 ∨ x = nI 17 ∨ x = nI 18 ∨ x = nI 19 ∨ x = nI 20 := by
  by_cases h : x.toInt < 0 ∨ 20 < x.toInt
  · exact Or.inl h
  · refine Or.inr ?_
    rcases (show x.toInt = 0 ∨ x.toInt = 1 ∨ x.toInt = 2 ∨ x.toInt = 3 ∨ x.toInt = 4 ∨ x.toInt = 5 ∨ x.toInt = 6 ∨ x.toInt = 7 ∨ x.toInt = 8 ∨ x.toInt = 9 ∨ x.toInt = 10 ∨ x.toInt = 11 ∨ x.toInt = 12 ∨ x.toInt = 13 ∨ x.toInt = 14 ∨ x.toInt = 15 ∨ x.toInt = 16 ∨ x.toInt = 17 ∨ x.toInt = 18 ∨ x.toInt = 19 ∨ x.toInt = 20 by omega) with q | q | q | q | q | q | q | q | q | q | q | q | q | q | q | q | q | q | q | q | q
    · exact Or.inl (sw_of (a := 0) q)
    · exact Or.inr (Or.inl (sw_of (a := 1) q))
    · exact Or.inr (Or.inr (Or.inl (sw_of (a := 2) q)))
    · exact Or.inr (Or.inr (Or.inr (Or.inl (sw_of (a := 3) q))))
    · exact Or.inr (Or.inr (Or.inr (Or.inr (Or.inl (sw_of (a := 4) q)))))
    · exact Or.inr (Or.inr (Or.inr (Or.inr (Or.inr (Or.inl (sw_of (a := 5) q))))))
    · exact Or.inr (Or.inr (Or.inr (Or.inr (Or.inr (Or.inr (Or.inl (sw_of (a := 6) q)))))))
    · exact Or.inr (Or.inr (Or.inr (Or.inr (Or.inr (Or.inr (Or.inr (Or.inl (sw_of (a := 7) q))))))))
    · exact Or.inr (Or.inr (Or.inr (Or.inr (Or.inr (Or.inr (Or.inr (Or.inr (Or.inl (sw_of (a := 8) q)))))))))
    · exact Or.inr (Or.inr (Or.inr (Or.inr (Or.inr (Or.inr (Or.inr (Or.inr (Or.inr (Or.inl (sw_of (a := 9) q))))))))))
    · exact Or.inr (Or.inr (Or.inr (Or.inr (Or.inr (Or.inr (Or.inr (Or.inr (Or.inr (Or.inr (Or.inl (sw_of (a := 10) q)))))))))))
    · exact Or.inr (Or.inr (Or.inr (Or.inr (Or.inr (Or.inr (Or.inr (Or.inr (Or.inr (Or.inr (Or.inr (Or.inl (sw_of (a := 11) q))))))))))))
    · exact Or.inr (Or.inr (Or.inr (Or.inr (Or.inr (Or.inr (Or.inr (Or.inr (Or.inr (Or.inr (Or.inr (Or.inr (Or.inl (sw_of (a := 12) q)))))))))))))
    · exact Or.inr (Or.inr (Or.inr (Or.inr (Or.inr (Or.inr (Or.inr (Or.inr (Or.inr (Or.inr (Or.inr (Or.inr (Or.inr (Or.inl (sw_of (a := 13) q))))))))))))))
    · exact Or.inr (Or.inr (Or.inr (Or.inr (Or.inr (Or.inr (Or.inr (Or.inr (Or.inr (Or.inr (Or.inr (Or.inr (Or.inr (Or.inr (Or.inl (sw_of (a := 14) q)))))))))))))))
    · exact Or.inr (Or.inr (Or.inr (Or.inr (Or.inr (Or.inr (Or.inr (Or.inr (Or.inr (Or.inr (Or.inr (Or.inr (Or.inr (Or.inr (Or.inr (Or.inl (sw_of (a := 15) q))))))))))))))))
    · exact Or.inr (Or.inr (Or.inr (Or.inr (Or.inr (Or.inr (Or.inr (Or.inr (Or.inr (Or.inr (Or.inr (Or.inr (Or.inr (Or.inr (Or.inr (Or.inr (Or.inl (sw_of (a := 16) q)))))))))))))))))
    · exact Or.inr (Or.inr (Or.inr (Or.inr (Or.inr (Or.inr (Or.inr (Or.inr (Or.inr (Or.inr (Or.inr (Or.inr (Or.inr (Or.inr (Or.inr (Or.inr (Or.inr (Or.inl (sw_of (a := 17) q))))))))))))))))))
    · exact Or.inr (Or.inr (Or.inr (Or.inr (Or.inr (Or.inr (Or.inr (Or.inr (Or.inr (Or.inr (Or.inr (Or.inr (Or.inr (Or.inr (Or.inr (Or.inr (Or.inr (Or.inr (Or.inl (sw_of (a := 18) q)))))))))))))))))))
    · exact Or.inr (Or.inr (Or.inr (Or.inr (Or.inr (Or.inr (Or.inr (Or.inr (Or.inr (Or.inr (Or.inr (Or.inr (Or.inr (Or.inr (Or.inr (Or.inr (Or.inr (Or.inr (Or.inr (Or.inl (sw_of (a := 19) q))))))))))))))))))))
    · exact Or.inr (Or.inr (Or.inr (Or.inr (Or.inr (Or.inr (Or.inr (Or.inr (Or.inr (Or.inr (Or.inr (Or.inr (Or.inr (Or.inr (Or.inr (Or.inr (Or.inr (Or.inr (Or.inr (Or.inr ((sw_of (a := 20) q)))))))))))))))))))))
set_option maxHeartbeats 4000000 in
set_option maxRecDepth 100000 in
/-- one call of the script -/
theorem lw_call {p : Program} {l : Launch} {e : Env} {s : State} {m : MethodId} {below : List Frame} {meth : Method} {c : Code} {D : va_G} {cA cL : ClassId} {aX aB aT aN aG aW aD aO aV aM : Nat → Nat} {ou b L : Nat} {xs : Nat → Int32} (C : pt_C p s m #[Value.ref b] c cL_law 7 wsL_law RL D [(cA, .int), (cL, .long)] (fun q : Nat => s.heap.size ≤ q)) (hX : va_X b L xs s s.heap) (hbl : b < s.heap.size) (hL : L ≤ 2560) (hCR : CatchRow) (hl : l.stackTraces = false) (hT : thW s) (hZ : thS (fun q : Nat => s.heap.size ≤ q) s) {j : Nat} (hj : 5 * j + 5 ≤ L) (K : lwK p l e s m #[Value.ref b] below meth c D (fun q : Nat => s.heap.size ≤ q) (lw_Z below #[Value.ref b] s) cA cL aX aB aT aN aG aW aD aO aV aM ou b j (78 + j + 1) (1397 + 6 * j + 6) 951) : ∀ (n : Nat) (k : Int32) (g : Nat) (t : Int32) (td dr wk sv : Nat) (P : Nat → Nat → Int32) (sz lk sd se sc ba pa ch : Nat → Int32) (T : SX) (th : Int32) (M : S7) (fo : Nat → Int64), lwIP n k g t td dr wk sv P sz lk sd se sc ba pa → pt_P p l e room_1 s m #[Value.ref b] below meth c D (fun q : Nat => s.heap.size ≤ q) 7 (lw_Z below #[Value.ref b] s) (78 + j) (1397 + 6 * j) 39 (wLw cA cL aX aB aT aN aG aW aD aO aV aM ou n k g t td dr wk sv P sz lk sd se sc ba pa ch T th M fo) [(4, .int (nI (5 * j))), (3, .ref ou), (2, .ref (aM 0)), (1, .ref (aX 0)), (0, .ref b)] [.int (xs (5 * j) &&& 31)] := by
  intro n k g t td dr wk sv P sz lk sd se sc ba pa ch T th M fo hI
  have hbA : ¬ (fun q : Nat => s.heap.size ≤ q) b := Nat.not_le.mpr hbl
  have hcs : (78 + j) + 1 ≤ room_1.cells ∧ (1397 + 6 * j) + 6 ≤ room_1.slots := by
    show (78 + j) + 1 ≤ 1105 ∧ (1397 + 6 * j) + 6 ≤ 9607
    omega
  generalize xs (5 * j) &&& 31 = v
  rcases sw_20 v with q | rfl | rfl | rfl | rfl | rfl | rfl | rfl | rfl | rfl | rfl | rfl | rfl | rfl | rfl | rfl | rfl | rfl | rfl | rfl | rfl | rfl
  · refine pt_tabOut (tgt := 951) C dL_law_39 q (by decide) ?_
    refine pt_wd (k := 78 + j + 1) (n := 1397 + 6 * j + 6) (by omega) (by omega) ?_
    exact K n k g t td dr wk sv P sz lk sd se sc ba pa ch T th M fo hI
  · refine pt_tabIn (tgt := 136) C dL_law_39 (by decide) (by decide) rfl (by decide) ?_
    exact lc_fields C hX hbl hbA hj hL hcs K n k g t td dr wk sv P sz lk sd se sc ba pa ch T th M fo hI
  · refine pt_tabIn (tgt := 161) C dL_law_39 (by decide) (by decide) rfl (by decide) ?_
    exact lc_sand C hX hbl hbA hj hL hcs K n k g t td dr wk sv P sz lk sd se sc ba pa ch T th M fo hI
  · refine pt_tabIn (tgt := 198) C dL_law_39 (by decide) (by decide) rfl (by decide) ?_
    exact lc_groyne C hX hbl hbA hj hL hcs K n k g t td dr wk sv P sz lk sd se sc ba pa ch T th M fo hI
  · refine pt_tabIn (tgt := 247) C dL_law_39 (by decide) (by decide) rfl (by decide) ?_
    exact lc_mouth C hX hbl hbA hj hL hcs K n k g t td dr wk sv P sz lk sd se sc ba pa ch T th M fo hI
  · refine pt_tabIn (tgt := 284) C dL_law_39 (by decide) (by decide) rfl (by decide) ?_
    exact lc_wall C hX hbl hbA hj hL hcs K n k g t td dr wk sv P sz lk sd se sc ba pa ch T th M fo hI
  · refine pt_tabIn (tgt := 321) C dL_law_39 (by decide) (by decide) rfl (by decide) ?_
    exact lc_feed C hX hbl hbA hj hL hcs K n k g t td dr wk sv P sz lk sd se sc ba pa ch T th M fo hI
  · refine pt_tabIn (tgt := 358) C dL_law_39 (by decide) (by decide) rfl (by decide) ?_
    exact lc_number C hX hbl hbA hj hL hcs K n k g t td dr wk sv P sz lk sd se sc ba pa ch T th M fo hI
  · refine pt_tabIn (tgt := 383) C dL_law_39 (by decide) (by decide) rfl (by decide) ?_
    exact lc_wave C hX hbl hbA hj hL hcs K n k g t td dr wk sv P sz lk sd se sc ba pa ch T th M fo hI
  · refine pt_tabIn (tgt := 420) C dL_law_39 (by decide) (by decide) rfl (by decide) ?_
    exact lc_weeks C hX hbl hbA hj hL hcs K n k g t td dr wk sv P sz lk sd se sc ba pa ch T th M fo hI
  · refine pt_tabIn (tgt := 445) C dL_law_39 (by decide) (by decide) rfl (by decide) ?_
    exact lc_dredge C hX hbl hbA hj hL hcs K n k g t td dr wk sv P sz lk sd se sc ba pa ch T th M fo hI
  · refine pt_tabIn (tgt := 494) C dL_law_39 (by decide) (by decide) rfl (by decide) ?_
    exact lc_line C hX hbl hbA hj hL hcs hCR hl hT hZ K n k g t td dr wk sv P sz lk sd se sc ba pa ch T th M fo hI
  · refine pt_tabIn (tgt := 550) C dL_law_39 (by decide) (by decide) rfl (by decide) ?_
    exact lc_look C hX hbl hbA hj hL hcs K n k g t td dr wk sv P sz lk sd se sc ba pa ch T th M fo hI
  · refine pt_tabIn (tgt := 587) C dL_law_39 (by decide) (by decide) rfl (by decide) ?_
    exact lc_border C hX hbl hbA hj hL hcs K n k g t td dr wk sv P sz lk sd se sc ba pa ch T th M fo hI
  · refine pt_tabIn (tgt := 624) C dL_law_39 (by decide) (by decide) rfl (by decide) ?_
    exact lc_without C hX hbl hbA hj hL hcs K n k g t td dr wk sv P sz lk sd se sc ba pa ch T th M fo hI
  · refine pt_tabIn (tgt := 661) C dL_law_39 (by decide) (by decide) rfl (by decide) ?_
    exact lc_share C hX hbl hbA hj hL hcs hCR hl hT hZ K n k g t td dr wk sv P sz lk sd se sc ba pa ch T th M fo hI
  · refine pt_tabIn (tgt := 741) C dL_law_39 (by decide) (by decide) rfl (by decide) ?_
    exact lc_work C hX hbl hbA hj hL hcs K n k g t td dr wk sv P sz lk sd se sc ba pa ch T th M fo hI
  · refine pt_tabIn (tgt := 802) C dL_law_39 (by decide) (by decide) rfl (by decide) ?_
    exact lc_mark C hX hbl hbA hj hL hcs K n k g t td dr wk sv P sz lk sd se sc ba pa ch T th M fo hI
  · refine pt_tabIn (tgt := 839) C dL_law_39 (by decide) (by decide) rfl (by decide) ?_
    exact lc_works C hX hbl hbA hj hL hcs K n k g t td dr wk sv P sz lk sd se sc ba pa ch T th M fo hI
  · refine pt_tabIn (tgt := 852) C dL_law_39 (by decide) (by decide) rfl (by decide) ?_
    exact lc_survey C hX hbl hbA hj hL hcs K n k g t td dr wk sv P sz lk sd se sc ba pa ch T th M fo hI
  · refine pt_tabIn (tgt := 913) C dL_law_39 (by decide) (by decide) rfl (by decide) ?_
    exact lc_fits C hX hbl hbA hj hL hcs K n k g t td dr wk sv P sz lk sd se sc ba pa ch T th M fo hI
  · refine pt_tabIn (tgt := 926) C dL_law_39 (by decide) (by decide) rfl (by decide) ?_
    exact lc_count C hX hbl hbA hj hL hcs K n k g t td dr wk sv P sz lk sd se sc ba pa ch T th M fo hI
set_option maxHeartbeats 4000000 in
set_option maxRecDepth 100000 in
theorem lw_loop {p : Program} {l : Launch} {e : Env} {s : State} {m : MethodId} {below : List Frame} {meth : Method} {c : Code} {D : va_G} {cA cL : ClassId} {aX aB aT aN aG aW aD aO aV aM : Nat → Nat} {ou b L : Nat} {xs : Nat → Int32} (C : pt_C p s m #[Value.ref b] c cL_law 7 wsL_law RL D [(cA, .int), (cL, .long)] (fun q : Nat => s.heap.size ≤ q)) (hx : p.tables.exec = Jvm.exec) (hr : meth.sig.returnType = ret) (hlocks : meth.locks = false) (hX : va_X b L xs s s.heap) (hbl : b < s.heap.size) (hL : L ≤ 2560) (hCR : CatchRow) (hl : l.stackTraces = false) (hT : thW s) (hZ : thS (fun q : Nat => s.heap.size ≤ q) s) : ∀ d j : Nat, 5 * j ≤ L → L - 5 * j ≤ d → lwK p l e s m #[Value.ref b] below meth c D (fun q : Nat => s.heap.size ≤ q) (lw_Z below #[Value.ref b] s) cA cL aX aB aT aN aG aW aD aO aV aM ou b j (78 + j) (1397 + 6 * j) 23 := by
  have hbA : ¬ (fun q : Nat => s.heap.size ≤ q) b := Nat.not_le.mpr hbl
  have hend : ∀ j : Nat, 5 * j ≤ L → lwK p l e s m #[Value.ref b] below meth c D (fun q : Nat => s.heap.size ≤ q) (lw_Z below #[Value.ref b] s) cA cL aX aB aT aN aG aW aD aO aV aM ou b j (78 + j) (1397 + 6 * j) 957 := by
    intro j hj n k g t td dr wk sv P sz lk sd se sc ba pa ch T th M fo hI
    refine pt_iconst (pc' := 958) C dL_law_957 rfl (v := 1) (by decide) ?_
    intro H locs ls hP hD hS h
    exact va_forget (fun q hq => hS.2.2 q hq) (W.widen (k := 1105) (n := 9607) (by omega) (by omega) (lw_ret hx C.2.1 hr hlocks dL_law_958))
  intro d
  induction d with
  | zero =>
    intro j hj hd n k g t td dr wk sv P sz lk sd se sc ba pa ch T th M fo hI
    refine pt_iload (pc' := 25) C dL_law_23 rfl 0 rfl ?_
    refine pt_aload_n (pc' := 26) C dL_law_25 rfl 4 rfl ?_
    refine pt_slen (pc' := 27) C hX hbl hbA dL_law_26 rfl ?_
    refine pt_iconst (pc' := 28) C dL_law_27 rfl (v := nI 5) (by decide) ?_
    refine pt_isub (pc' := 29) C dL_law_28 rfl ?_
    refine pt_icmp_gt (tgt := 957) (pc' := 32) C dL_law_29 (by decide) rfl (fun _ => hend j hj n k g t td dr wk sv P sz lk sd se sc ba pa ch T th M fo hI) (fun h9 => absurd ?_ h9)
    rw [Int32.lt_iff_toInt_lt, pk_sub_toInt (by omega) (by omega), nI_toInt (by omega)]
    omega
  | succ d ih =>
    intro j hj hd n k g t td dr wk sv P sz lk sd se sc ba pa ch T th M fo hI
    refine pt_iload (pc' := 25) C dL_law_23 rfl 0 rfl ?_
    refine pt_aload_n (pc' := 26) C dL_law_25 rfl 4 rfl ?_
    refine pt_slen (pc' := 27) C hX hbl hbA dL_law_26 rfl ?_
    refine pt_iconst (pc' := 28) C dL_law_27 rfl (v := nI 5) (by decide) ?_
    refine pt_isub (pc' := 29) C dL_law_28 rfl ?_
    refine pt_icmp_gt (tgt := 957) (pc' := 32) C dL_law_29 (by decide) rfl (fun _ => hend j hj n k g t td dr wk sv P sz lk sd se sc ba pa ch T th M fo hI) (fun h9 => ?_)
    have hj5 : 5 * j + 5 ≤ L := by
      rw [Int32.lt_iff_toInt_lt, pk_sub_toInt (by omega) (by omega), nI_toInt (by omega)] at h9
      omega
    refine pt_aload_n (pc' := 33) C dL_law_32 rfl 4 rfl ?_
    refine pt_iload (pc' := 35) C dL_law_33 rfl 0 rfl ?_
    refine pt_sld (pc' := 36) C hX hbl hbA (show 5 * j < L by omega) hL dL_law_35 rfl ?_
    refine pt_bipush (pc' := 38) C dL_law_36 rfl (v := 31) (by decide) ?_
    refine pt_iand (pc' := 39) C dL_law_38 rfl ?_
    refine lw_call C hX hbl hL hCR hl hT hZ hj5 ?_ n k g t td dr wk sv P sz lk sd se sc ba pa ch T th M fo hI
    intro n k g t td dr wk sv P sz lk sd se sc ba pa ch T th M fo hI
    refine pt_iinc (pc' := 954) (lv' := [(4, .int (nI (5 * (j + 1)))), (3, .ref ou), (2, .ref (aM 0)), (1, .ref (aX 0)), (0, .ref b)]) C dL_law_951 rfl 0 rfl (v := nI (5 * (j + 1))) (show nI (5 * j) + nI 5 = nI (5 * (j + 1)) from nI_add (5 * j) 5) (by decide) rfl ?_
    refine pt_goto (pc' := 23) C dL_law_954 (by decide) ?_
    have h2 := ih (j + 1) (by omega) (by omega)
    rw [show 78 + (j + 1) = 78 + j + 1 by omega, show 1397 + 6 * (j + 1) = 1397 + 6 * j + 6 by omega] at h2
    exact h2 n k g t td dr wk sv P sz lk sd se sc ba pa ch T th M fo hI
