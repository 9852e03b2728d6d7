/-! line and share, which may throw -/
set_option maxHeartbeats 4000000 in
set_option maxRecDepth 100000 in
theorem lc_line {p : Program} {l : Launch} {e : Env} {s : State} {m : MethodId} {args : Array Value} {below : List Frame} {meth : Method} {c : Code} {Q : State → Prop} {D : va_G} {A : Nat → Prop} {cA cL : ClassId} {aX aB aT aN aG aW aD aO aV aM : Nat → Nat} {ou b j L cells slots : Nat} {xs : Nat → Int32} (C : pt_C p s m args c cL_law 7 wsL_law RL D [(cA, .int), (cL, .long)] A) (hX : va_X b L xs s s.heap) (hbl : b < s.heap.size) (hbA : ¬ A b) (hj : 5 * j + 5 ≤ L) (hL : L ≤ 2560) (hcs : cells + 1 ≤ room_1.cells ∧ slots + 6 ≤ room_1.slots) (hCR : CatchRow) (hl : l.stackTraces = false) (hT : thW s) (hZ : thS A s) (K : lwK p l e s m args below meth c D A Q cA cL aX aB aT aN aG aW aD aO aV aM ou b j (cells + 1) (slots + 6) 951) : lwK p l e s m args below meth c D A Q cA cL aX aB aT aN aG aW aD aO aV aM ou b j cells slots 494 := by
  intro n k g t td dr wk sv P sz lk sd se sc ba pa ch T th M fo hI
  have hI0 := hI
  obtain ⟨⟨hn, hm, hgt, htd, hdr, hwk, hsv⟩, ⟨hS, hH⟩, ⟨hD, hU, hDw⟩, ⟨hB, hp, hrel⟩, ⟨ho, hoa⟩, hV, hnow, ht01, ht0⟩ := hI
  have hg : g ≤ 120 := Nat.le_trans hgt htd
  have hcs0 : cells ≤ room_1.cells ∧ slots ≤ room_1.slots := ⟨by omega, by omega⟩
  have hSg : ∀ w, w < g → P 7 w = 0 ∨ P 7 w = 1 ∨ P 7 w = 2 := fun w hw => hS w (Nat.lt_of_lt_of_le hw hgt)
  have hHg : ∀ w, w < g → heK (P 6) w := fun w hw => hH w (Nat.lt_of_lt_of_le hw hgt)
  have hrB : ∀ b, 1 ≤ b → b < n → relB (P 1) sz lk (P 1) (leM 0 (P 1) (P 2)) (P 3) b := fun b _ h => rel_0 (by omega) (hrel b (by omega))
  refine pt_aload_n (pc' := 495) C dL_law_494 rfl 3 rfl ?_
  refine pt_arg (pc' := 501) (c0 := 1) C hX hbl hbA hj (by decide) hL (by decide) 4 0 rfl rfl dL_law_495 dL_law_496 dL_law_498 dL_law_499 dL_law_500 rfl ?_
  refine pt_aload_n (pc' := 502) C dL_law_501 rfl 1 rfl ?_
  cases hk : inF n (xs (5 * j + 1))
  · refine pt_csLP (pc' := 505) (k9 := cells + 1) (n9 := slots + 6) (As := [.ref (aX 0), .int (xs (5 * j + 1)), .ref ou]) (rest := []) C.sub0 (mL_line_no hCR l hl D cA aX aB aT aN aG aW aD aO aV g t (P 16) n k (P 0) (P 4) (P 5) (P 1) sz lk ou (xs (5 * j + 1)) hk) (vx_cwSW 3 C.hts gL_law_L_line rfl rfl rfl (by decide +kernel) ⟨Nat.le_of_ble_eq_true rfl, Nat.le_of_ble_eq_true rfl⟩) dL_law_502 rfl rfl rfl (Nat.le_of_ble_eq_true rfl) hcs ⟨rfl, rfl⟩ hT hZ (pm_XB _ _ _ _ _ _ _ _ _ _ _) ?_
    refine pt_istore (pc' := 507) (lv' := [(5, .int 1), (4, .int (nI (5 * j))), (3, .ref ou), (2, .ref (aM 0)), (1, .ref (aX 0)), (0, .ref b)]) C dL_law_505 rfl (by decide) rfl ?_
    refine pt_aload_n (pc' := 508) C dL_law_507 rfl 3 rfl ?_
    refine pt_arg (pc' := 514) (c0 := 1) C hX hbl hbA hj (by decide) hL (by decide) 5 1 rfl rfl dL_law_508 dL_law_509 dL_law_511 dL_law_512 dL_law_513 rfl ?_
    refine pt_cvEP (pc' := 517) (As := [.int (xs (5 * j + 1))]) (rest := []) C.sub0 (mX7_line l D cA aM th n t k td g dr wk sv P M.1 M.2.1 M.2.2.1 M.2.2.2.1 M.2.2.2.2.1 M.2.2.2.2.2.1 M.2.2.2.2.2.2 (xs (5 * j + 1)) (P 1) sz lk hn hm hg hSg hHg hdr hD hU hB hp hrB) (cwV 1 C.hts gL_law_X7_line rfl rfl rfl (by decide +kernel) ⟨Nat.le_of_ble_eq_true rfl, Nat.le_of_ble_eq_true rfl⟩) dL_law_514 rfl rfl rfl rfl rfl rfl (Nat.le_of_ble_eq_true rfl) hcs (pm_M _ _ _ _ _ _ _ _ _ _ _) (fun _ => (pm_M _ _ _ _ _ _ _ _ _ _ _).symm) (fun um => ?_)
    refine pt_istore (pc' := 519) (lv' := [(6, .int (cond (inF n (xs (5 * j + 1))) (ln (rpY n k (P 0) (P 4) (P 5) (P 1) sz lk (P 6) (P 7) dr (P 8) (P 9) (P 10) (P 11) g).1 (xs (5 * j + 1)).toNatClampNeg) 0)), (5, .int 1), (4, .int (nI (5 * j))), (3, .ref ou), (2, .ref (aM 0)), (1, .ref (aX 0)), (0, .ref b)]) C dL_law_517 rfl (by decide) rfl ?_
    refine pt_aload_n (pc' := 520) C dL_law_519 rfl 4 rfl ?_
    refine pt_cvIP (pc' := 523) (As := []) (rest := []) C.sub0 (mX7_thrown l D cA aM (cond (inF n (xs (5 * j + 1))) 0 1) n t k td g dr wk sv P um.1 um.2.1 um.2.2.1 um.2.2.2.1 um.2.2.2.2.1 um.2.2.2.2.2.1 um.2.2.2.2.2.2) (cwV 0 C.hts gL_law_X7_thrown rfl rfl rfl (by decide +kernel) ⟨Nat.le_of_ble_eq_true rfl, Nat.le_of_ble_eq_true rfl⟩) dL_law_520 rfl rfl rfl rfl rfl rfl (Nat.le_of_ble_eq_true rfl) hcs (pm_M _ _ _ _ _ _ _ _ _ _ _) (pm_M _ _ _ _ _ _ _ _ _ _ _).symm ?_
    refine pt_iload (pc' := 525) C dL_law_523 rfl 1 rfl ?_
    refine pt_icmp_eq (tgt := 530) (pc' := 528) C dL_law_525 (by decide) rfl (fun _ => ?_) (fun h9 => absurd (by rw [hk]; rfl) h9)
    refine pt_iload (pc' := 532) C dL_law_530 rfl 1 rfl ?_
    refine pt_if_ne (tgt := 547) (pc' := 535) C dL_law_532 (by decide) rfl (fun _ => ?_) (fun h9 => absurd h9 (by decide))
    refine pt_goto (pc' := 951) C dL_law_547 (by decide) ?_
    refine pt_cv (lv' := [(4, .int (nI (5 * j))), (3, .ref ou), (2, .ref (aM 0)), (1, .ref (aX 0)), (0, .ref b)]) rfl [2, 3, 4, 5, 6] rfl rfl ?_
    exact K n k g t td dr wk sv P sz lk sd se sc ba pa ch T (cond (inF n (xs (5 * j + 1))) 0 1) um fo hI0
  · refine pt_csEP (pc' := 505) (As := [.ref (aX 0), .int (xs (5 * j + 1)), .ref ou]) (rest := []) C (mL_line_ok l D cA cL aX aB aT aN aG aW aD aO aV g t (P 16) n k (P 0) (P 4) (P 5) (P 1) sz lk sd se sc ba pa ch ou fo (xs (5 * j + 1)) hn hm hk) (vx_cwSW 3 C.hts gL_law_L_line rfl rfl rfl (by decide +kernel) ⟨Nat.le_of_ble_eq_true rfl, Nat.le_of_ble_eq_true rfl⟩) dL_law_502 rfl rfl rfl (Nat.le_of_ble_eq_true rfl) hcs0 (pm_XBNU _ _ _ _ _ _ _ _ _ _ _) (fun _ => (pm_XBNU _ _ _ _ _ _ _ _ _ _ _).symm) (fun _ => ?_)
    refine pt_istore (pc' := 507) (lv' := [(5, .int 0), (4, .int (nI (5 * j))), (3, .ref ou), (2, .ref (aM 0)), (1, .ref (aX 0)), (0, .ref b)]) C dL_law_505 rfl (by decide) rfl ?_
    refine pt_aload_n (pc' := 508) C dL_law_507 rfl 3 rfl ?_
    refine pt_arg (pc' := 514) (c0 := 1) C hX hbl hbA hj (by decide) hL (by decide) 5 1 rfl rfl dL_law_508 dL_law_509 dL_law_511 dL_law_512 dL_law_513 rfl ?_
    refine pt_cvEP (pc' := 517) (As := [.int (xs (5 * j + 1))]) (rest := []) C.sub0 (mX7_line l D cA aM th n t k td g dr wk sv P M.1 M.2.1 M.2.2.1 M.2.2.2.1 M.2.2.2.2.1 M.2.2.2.2.2.1 M.2.2.2.2.2.2 (xs (5 * j + 1)) (P 1) sz lk hn hm hg hSg hHg hdr hD hU hB hp hrB) (cwV 1 C.hts gL_law_X7_line rfl rfl rfl (by decide +kernel) ⟨Nat.le_of_ble_eq_true rfl, Nat.le_of_ble_eq_true rfl⟩) dL_law_514 rfl rfl rfl rfl rfl rfl (Nat.le_of_ble_eq_true rfl) hcs0 (pm_M _ _ _ _ _ _ _ _ _ _ _) (fun _ => (pm_M _ _ _ _ _ _ _ _ _ _ _).symm) (fun um => ?_)
    refine pt_istore (pc' := 519) (lv' := [(6, .int (cond (inF n (xs (5 * j + 1))) (ln (rpY n k (P 0) (P 4) (P 5) (P 1) sz lk (P 6) (P 7) dr (P 8) (P 9) (P 10) (P 11) g).1 (xs (5 * j + 1)).toNatClampNeg) 0)), (5, .int 0), (4, .int (nI (5 * j))), (3, .ref ou), (2, .ref (aM 0)), (1, .ref (aX 0)), (0, .ref b)]) C dL_law_517 rfl (by decide) rfl ?_
    refine pt_aload_n (pc' := 520) C dL_law_519 rfl 4 rfl ?_
    refine pt_cvIP (pc' := 523) (As := []) (rest := []) C.sub0 (mX7_thrown l D cA aM (cond (inF n (xs (5 * j + 1))) 0 1) n t k td g dr wk sv P um.1 um.2.1 um.2.2.1 um.2.2.2.1 um.2.2.2.2.1 um.2.2.2.2.2.1 um.2.2.2.2.2.2) (cwV 0 C.hts gL_law_X7_thrown rfl rfl rfl (by decide +kernel) ⟨Nat.le_of_ble_eq_true rfl, Nat.le_of_ble_eq_true rfl⟩) dL_law_520 rfl rfl rfl rfl rfl rfl (Nat.le_of_ble_eq_true rfl) hcs0 (pm_M _ _ _ _ _ _ _ _ _ _ _) (pm_M _ _ _ _ _ _ _ _ _ _ _).symm ?_
    refine pt_iload (pc' := 525) C dL_law_523 rfl 1 rfl ?_
    refine pt_icmp_eq (tgt := 530) (pc' := 528) C dL_law_525 (by decide) rfl (fun _ => ?_) (fun h9 => absurd (by rw [hk]; rfl) h9)
    refine pt_iload (pc' := 532) C dL_law_530 rfl 1 rfl ?_
    refine pt_if_ne (tgt := 547) (pc' := 535) C dL_law_532 (by decide) rfl (fun h9 => absurd rfl h9) (fun _ => ?_)
    refine pt_aload_n (pc' := 536) C dL_law_535 rfl 3 rfl ?_
    refine pt_iconst (pc' := 537) C dL_law_536 rfl (v := 0) (by decide) ?_
    refine pt_laldP (pc' := 538) C dL_law_537 rfl rfl ?_
    refine pt_iload (pc' := 540) C dL_law_538 rfl 0 rfl ?_
    refine pt_i2l (pc' := 541) C dL_law_540 rfl ?_
    refine pt_lcmp (pc' := 542) C dL_law_541 rfl ?_
    refine pt_if_eq (tgt := 547) (pc' := 545) C dL_law_542 (by decide) rfl (fun _ => ?_) (fun h9 => absurd ((lg_cmp_eq _ _).mpr ?_) h9)
    rotate_left
    · rw [pk_uLs, hk, ← hnow]
      try rfl
    refine pt_goto (pc' := 951) C dL_law_547 (by decide) ?_
    refine pt_cv (lv' := [(4, .int (nI (5 * j))), (3, .ref ou), (2, .ref (aM 0)), (1, .ref (aX 0)), (0, .ref b)]) rfl [2, 3, 4, 5, 6] rfl rfl ?_
    refine pt_wd (k := cells + 1) (n := slots + 6) (by omega) (by omega) ?_
    exact K n k g t td dr wk sv P sz lk sd se sc ba pa ch T (cond (inF n (xs (5 * j + 1))) 0 1) um (vp_updL fo 0 (ln sd (xs (5 * j + 1)).toNatClampNeg).toInt64) hI0
set_option maxHeartbeats 4000000 in
set_option maxRecDepth 100000 in
theorem lc_share {p : Program} {l : Launch} {e : Env} {s : State} {m : MethodId} {args : Array Value} {below : List Frame} {meth : Method} {c : Code} {Q : State → Prop} {D : va_G} {A : Nat → Prop} {cA cL : ClassId} {aX aB aT aN aG aW aD aO aV aM : Nat → Nat} {ou b j L cells slots : Nat} {xs : Nat → Int32} (C : pt_C p s m args c cL_law 7 wsL_law RL D [(cA, .int), (cL, .long)] A) (hX : va_X b L xs s s.heap) (hbl : b < s.heap.size) (hbA : ¬ A b) (hj : 5 * j + 5 ≤ L) (hL : L ≤ 2560) (hcs : cells + 1 ≤ room_1.cells ∧ slots + 6 ≤ room_1.slots) (hCR : CatchRow) (hl : l.stackTraces = false) (hT : thW s) (hZ : thS A s) (K : lwK p l e s m args below meth c D A Q cA cL aX aB aT aN aG aW aD aO aV aM ou b j (cells + 1) (slots + 6) 951) : lwK p l e s m args below meth c D A Q cA cL aX aB aT aN aG aW aD aO aV aM ou b j cells slots 661 := by
  intro n k g t td dr wk sv P sz lk sd se sc ba pa ch T th M fo hI
  have hI0 := hI
  obtain ⟨⟨hn, hm, hgt, htd, hdr, hwk, hsv⟩, ⟨hS, hH⟩, ⟨hD, hU, hDw⟩, ⟨hB, hp, hrel⟩, ⟨ho, hoa⟩, hV, hnow, ht01, ht0⟩ := hI
  have hg : g ≤ 120 := Nat.le_trans hgt htd
  have hcs0 : cells ≤ room_1.cells ∧ slots ≤ room_1.slots := ⟨by omega, by omega⟩
  have hSg : ∀ w, w < g → P 7 w = 0 ∨ P 7 w = 1 ∨ P 7 w = 2 := fun w hw => hS w (Nat.lt_of_lt_of_le hw hgt)
  have hHg : ∀ w, w < g → heK (P 6) w := fun w hw => hH w (Nat.lt_of_lt_of_le hw hgt)
  have hrB : ∀ b, 1 ≤ b → b < n → relB (P 1) sz lk (P 1) (leM 0 (P 1) (P 2)) (P 3) b := fun b _ h => rel_0 (by omega) (hrel b (by omega))
  refine pt_aload_n (pc' := 662) C dL_law_661 rfl 3 rfl ?_
  refine pt_arg (pc' := 668) (c0 := 1) C hX hbl hbA hj (by decide) hL (by decide) 4 0 rfl rfl dL_law_662 dL_law_663 dL_law_665 dL_law_666 dL_law_667 rfl ?_
  refine pt_arg (pc' := 674) (c0 := 2) C hX hbl hbA hj (by decide) hL (by decide) 4 0 rfl rfl dL_law_668 dL_law_669 dL_law_671 dL_law_672 dL_law_673 rfl ?_
  refine pt_arg (pc' := 680) (c0 := 3) C hX hbl hbA hj (by decide) hL (by decide) 4 0 rfl rfl dL_law_674 dL_law_675 dL_law_677 dL_law_678 dL_law_679 rfl ?_
  refine pt_aload_n (pc' := 681) C dL_law_680 rfl 1 rfl ?_
  cases hk : okSh n (P 1) (xs (5 * j + 1)) (xs (5 * j + 2)) (xs (5 * j + 3))
  · refine pt_csLP (pc' := 684) (k9 := cells + 1) (n9 := slots + 6) (As := [.ref (aX 0), .int (xs (5 * j + 1)), .int (xs (5 * j + 2)), .int (xs (5 * j + 3)), .ref ou]) (rest := []) C.sub0 (mL_share_no hCR l hl D cA aX aB aT aN aG aW aD aO aV g t (P 16) n k (P 0) (P 4) (P 5) (P 1) sz lk ou (xs (5 * j + 1)) (xs (5 * j + 2)) (xs (5 * j + 3)) hn hm hk) (vx_cwSW 5 C.hts gL_law_L_share rfl rfl rfl (by decide +kernel) ⟨Nat.le_of_ble_eq_true rfl, Nat.le_of_ble_eq_true rfl⟩) dL_law_681 rfl rfl rfl (Nat.le_of_ble_eq_true rfl) hcs ⟨rfl, rfl⟩ hT hZ (pm_XB _ _ _ _ _ _ _ _ _ _ _) ?_
    refine pt_istore (pc' := 686) (lv' := [(5, .int 1), (4, .int (nI (5 * j))), (3, .ref ou), (2, .ref (aM 0)), (1, .ref (aX 0)), (0, .ref b)]) C dL_law_684 rfl (by decide) rfl ?_
    refine pt_aload_n (pc' := 687) C dL_law_686 rfl 3 rfl ?_
    refine pt_arg (pc' := 693) (c0 := 1) C hX hbl hbA hj (by decide) hL (by decide) 5 1 rfl rfl dL_law_687 dL_law_688 dL_law_690 dL_law_691 dL_law_692 rfl ?_
    refine pt_arg (pc' := 699) (c0 := 2) C hX hbl hbA hj (by decide) hL (by decide) 5 1 rfl rfl dL_law_693 dL_law_694 dL_law_696 dL_law_697 dL_law_698 rfl ?_
    refine pt_arg (pc' := 705) (c0 := 3) C hX hbl hbA hj (by decide) hL (by decide) 5 1 rfl rfl dL_law_699 dL_law_700 dL_law_702 dL_law_703 dL_law_704 rfl ?_
    refine pt_cvIP (pc' := 708) (As := [.int (xs (5 * j + 1)), .int (xs (5 * j + 2)), .int (xs (5 * j + 3))]) (rest := []) C.sub0 (mX7_share_no l D cA aM th n t k td g dr wk sv P M.1 M.2.1 M.2.2.1 M.2.2.2.1 M.2.2.2.2.1 M.2.2.2.2.2.1 M.2.2.2.2.2.2 (xs (5 * j + 1)) (xs (5 * j + 2)) (xs (5 * j + 3)) hn hm (by rw [okSh_eq _ _ _ hn hm]; exact hk)) (cwV 3 C.hts gL_law_X7_share rfl rfl rfl (by decide +kernel) ⟨Nat.le_of_ble_eq_true rfl, Nat.le_of_ble_eq_true rfl⟩) dL_law_705 rfl rfl rfl rfl rfl rfl (Nat.le_of_ble_eq_true rfl) hcs (pm_M _ _ _ _ _ _ _ _ _ _ _) (pm_M _ _ _ _ _ _ _ _ _ _ _).symm ?_
    refine pt_istore (pc' := 710) (lv' := [(6, .int 0), (5, .int 1), (4, .int (nI (5 * j))), (3, .ref ou), (2, .ref (aM 0)), (1, .ref (aX 0)), (0, .ref b)]) C dL_law_708 rfl (by decide) rfl ?_
    refine pt_aload_n (pc' := 711) C dL_law_710 rfl 4 rfl ?_
    refine pt_cvIP (pc' := 714) (As := []) (rest := []) C.sub0 (mX7_thrown l D cA aM 1 n t k td g dr wk sv P M.1 M.2.1 M.2.2.1 M.2.2.2.1 M.2.2.2.2.1 M.2.2.2.2.2.1 M.2.2.2.2.2.2) (cwV 0 C.hts gL_law_X7_thrown rfl rfl rfl (by decide +kernel) ⟨Nat.le_of_ble_eq_true rfl, Nat.le_of_ble_eq_true rfl⟩) dL_law_711 rfl rfl rfl rfl rfl rfl (Nat.le_of_ble_eq_true rfl) hcs (pm_M _ _ _ _ _ _ _ _ _ _ _) (pm_M _ _ _ _ _ _ _ _ _ _ _).symm ?_
    refine pt_iload (pc' := 716) C dL_law_714 rfl 1 rfl ?_
    refine pt_icmp_eq (tgt := 721) (pc' := 719) C dL_law_716 (by decide) rfl (fun _ => ?_) (fun h9 => absurd rfl h9)
    refine pt_iload (pc' := 723) C dL_law_721 rfl 1 rfl ?_
    refine pt_if_ne (tgt := 738) (pc' := 726) C dL_law_723 (by decide) rfl (fun _ => ?_) (fun h9 => absurd h9 (by decide))
    refine pt_goto (pc' := 951) C dL_law_738 (by decide) ?_
    refine pt_cv (lv' := [(4, .int (nI (5 * j))), (3, .ref ou), (2, .ref (aM 0)), (1, .ref (aX 0)), (0, .ref b)]) rfl [2, 3, 4, 5, 6] rfl rfl ?_
    exact K n k g t td dr wk sv P sz lk sd se sc ba pa ch T 1 M fo hI0
  · obtain ⟨jb, jq, jf, jo, ⟨e1, e2, e3⟩, ⟨q1, q2, q3, q4, q5⟩, ⟨a1, a2, a3, a4, a5, a6⟩, ⟨m1, m2, m3, m4, m5⟩, hsum⟩ := sh_ok hn hm hk
    refine pt_csEP (pc' := 684) (As := [.ref (aX 0), .int (nI jb), .int (nI jq), .int (nI jf), .ref ou]) (rest := []) C (mL_share_ok l D cA cL aX aB aT aN aG aW aD aO aV g t (P 16) n k (P 0) (P 4) (P 5) (P 1) sz lk T.1 T.2.1 T.2.2.1 T.2.2.2.1 T.2.2.2.2.1 T.2.2.2.2.2.1 T.2.2.2.2.2.2.1 T.2.2.2.2.2.2.2.1 T.2.2.2.2.2.2.2.2.1 T.2.2.2.2.2.2.2.2.2.1 T.2.2.2.2.2.2.2.2.2.2.1 T.2.2.2.2.2.2.2.2.2.2.2.1 T.2.2.2.2.2.2.2.2.2.2.2.2.1 T.2.2.2.2.2.2.2.2.2.2.2.2.2 td (P 6) (P 7) dr (P 8) (P 9) (P 10) (P 11) ou fo jb jq jf jo hn hm hg hSg hdr hD q1 a1 a2 q5 q2 q3 a3 a4 a5 q4 a6) (vx_cwSW 5 C.hts gL_law_L_share rfl rfl rfl (by decide +kernel) ⟨Nat.le_of_ble_eq_true rfl, Nat.le_of_ble_eq_true rfl⟩) dL_law_681 rfl rfl (by rw [e1, e2, e3] <;> rfl) (Nat.le_of_ble_eq_true rfl) hcs0 (pm_XBTGWDU _ _ _ _ _ _ _ _ _ _ _) (fun _ => (pm_XBTGWDU _ _ _ _ _ _ _ _ _ _ _).symm) (fun uc => ?_)
    refine pt_istore (pc' := 686) (lv' := [(5, .int 0), (4, .int (nI (5 * j))), (3, .ref ou), (2, .ref (aM 0)), (1, .ref (aX 0)), (0, .ref b)]) C dL_law_684 rfl (by decide) rfl ?_
    refine pt_aload_n (pc' := 687) C dL_law_686 rfl 3 rfl ?_
    refine pt_arg (pc' := 693) (c0 := 1) C hX hbl hbA hj (by decide) hL (by decide) 5 1 rfl rfl dL_law_687 dL_law_688 dL_law_690 dL_law_691 dL_law_692 rfl ?_
    refine pt_arg (pc' := 699) (c0 := 2) C hX hbl hbA hj (by decide) hL (by decide) 5 1 rfl rfl dL_law_693 dL_law_694 dL_law_696 dL_law_697 dL_law_698 rfl ?_
    refine pt_arg (pc' := 705) (c0 := 3) C hX hbl hbA hj (by decide) hL (by decide) 5 1 rfl rfl dL_law_699 dL_law_700 dL_law_702 dL_law_703 dL_law_704 rfl ?_
    refine pt_cvEP (pc' := 708) (As := [.int (nI jb), .int (nI jq), .int (nI jf)]) (rest := []) C.sub0 (mX7_share l D cA aM th n t k td g dr wk sv P M.1 M.2.1 M.2.2.1 M.2.2.2.1 M.2.2.2.2.1 M.2.2.2.2.2.1 M.2.2.2.2.2.2 jb jq jf sz lk hn hm hg hSg hHg hdr hD hU hB hp hrel q1 a1 m1 q5 q2 q3 m2 m3 m4 m5) (cwV 3 C.hts gL_law_X7_share rfl rfl rfl (by decide +kernel) ⟨Nat.le_of_ble_eq_true rfl, Nat.le_of_ble_eq_true rfl⟩) dL_law_705 rfl rfl rfl rfl rfl (by rw [e1, e2, e3] <;> rfl) (Nat.le_of_ble_eq_true rfl) hcs0 (pm_M _ _ _ _ _ _ _ _ _ _ _) (fun _ => (pm_M _ _ _ _ _ _ _ _ _ _ _).symm) (fun um => ?_)
    refine pt_istore (pc' := 710) (lv' := [(6, .int (itz (smS (fun x => liX n k (P 0) (P 4) (P 5) (P 1) sz lk (P 6) (P 7) dr (P 8) (P 9) (P 10) (P 11) g x jf) jq jb) 8192 0)), (5, .int 0), (4, .int (nI (5 * j))), (3, .ref ou), (2, .ref (aM 0)), (1, .ref (aX 0)), (0, .ref b)]) C dL_law_708 rfl (by decide) rfl ?_
    refine pt_aload_n (pc' := 711) C dL_law_710 rfl 4 rfl ?_
    refine pt_cvIP (pc' := 714) (As := []) (rest := []) C.sub0 (mX7_thrown l D cA aM 0 n t k td g dr wk sv P um.1 um.2.1 um.2.2.1 um.2.2.2.1 um.2.2.2.2.1 um.2.2.2.2.2.1 um.2.2.2.2.2.2) (cwV 0 C.hts gL_law_X7_thrown rfl rfl rfl (by decide +kernel) ⟨Nat.le_of_ble_eq_true rfl, Nat.le_of_ble_eq_true rfl⟩) dL_law_711 rfl rfl rfl rfl rfl rfl (Nat.le_of_ble_eq_true rfl) hcs0 (pm_M _ _ _ _ _ _ _ _ _ _ _) (pm_M _ _ _ _ _ _ _ _ _ _ _).symm ?_
    refine pt_iload (pc' := 716) C dL_law_714 rfl 1 rfl ?_
    refine pt_icmp_eq (tgt := 721) (pc' := 719) C dL_law_716 (by decide) rfl (fun _ => ?_) (fun h9 => absurd rfl h9)
    refine pt_iload (pc' := 723) C dL_law_721 rfl 1 rfl ?_
    refine pt_if_ne (tgt := 738) (pc' := 726) C dL_law_723 (by decide) rfl (fun h9 => absurd rfl h9) (fun _ => ?_)
    refine pt_aload_n (pc' := 727) C dL_law_726 rfl 3 rfl ?_
    refine pt_iconst (pc' := 728) C dL_law_727 rfl (v := 0) (by decide) ?_
    refine pt_laldP (pc' := 729) C dL_law_728 rfl rfl ?_
    refine pt_iload (pc' := 731) C dL_law_729 rfl 0 rfl ?_
    refine pt_i2l (pc' := 732) C dL_law_731 rfl ?_
    refine pt_lcmp (pc' := 733) C dL_law_732 rfl ?_
    refine pt_if_eq (tgt := 738) (pc' := 736) C dL_law_733 (by decide) rfl (fun _ => ?_) (fun h9 => absurd ((lg_cmp_eq _ _).mpr ?_) h9)
    rotate_left
    · rw [pk_uLs, hsum]
    refine pt_goto (pc' := 951) C dL_law_738 (by decide) ?_
    refine pt_cv (lv' := [(4, .int (nI (5 * j))), (3, .ref ou), (2, .ref (aM 0)), (1, .ref (aX 0)), (0, .ref b)]) rfl [2, 3, 4, 5, 6] rfl rfl ?_
    refine pt_wd (k := cells + 1) (n := slots + 6) (by omega) (by omega) ?_
    exact K n k g t td dr wk sv P sz lk sd se sc ba pa ch uc 0 um (vp_updL fo 0 (itz (shS (fun x => liX n k (P 0) (P 4) (P 5) (P 1) sz lk (P 6) (P 7) dr (P 8) (P 9) (P 10) (P 11) g x jf) jo jb) (jo + 1) 0).toInt64) hI0
