/-! the law's cases -/
/-! works change sizes and sand at the begin: bounds -/
theorem ao_bd {x : Int32} {n wk : Nat} {kd ok op oa bs sz : Nat → Int32} (ho : ∀ i, i < wk → 1 ≤ (oa i).toInt ∧ (oa i).toInt ≤ 9999) (hB : ∀ i, i < 12 → 0 ≤ (bs i).toInt ∧ (bs i).toInt ≤ 99999) : ∀ i, i < 12 → 0 ≤ ((aoX x n kd ok op oa wk bs sz).1 i).toInt ∧ ((aoX x n kd ok op oa wk bs sz).1 i).toInt ≤ 99999 := by
  have h : ∀ j, j ≤ wk → ∀ i, i < 12 → 0 ≤ ((itz (aoS x n kd ok op oa) j (bs, sz)).1 i).toInt ∧ ((itz (aoS x n kd ok op oa) j (bs, sz)).1 i).toInt ≤ 99999 := by
    intro j
    induction j with
    | zero => intro _; exact hB
    | succ j ih =>
      intro hj i hi
      have h1 := ih (by omega)
      rw [itz_s]
      generalize itz (aoS x n kd ok op oa) j (bs, sz) = u at h1 ⊢
      unfold aoS
      split
      · exact h1 i hi
      · unfold ao1
        split
        · show 0 ≤ (bbS u.1 (op j).toNatClampNeg (oa j) i).toInt ∧ (bbS u.1 (op j).toNatClampNeg (oa j) i).toInt ≤ 99999
          unfold bbS
          rw [upd_i]
          split
          · rename_i e
            rw [← e]
            have h2 := h1 i hi
            have h3 := ho j (by omega)
            rw [mn_i, i_add (by omega) (by omega)]
            have e9 : (99999 : Int32).toInt = 99999 := by decide
            omega
          · exact h1 i hi
        · cases hasA n kd (op j) 1
          · exact h1 i hi
          · exact h1 i hi
  exact h wk (Nat.le_refl _)
theorem ao_gdP {x k : Int32} {n wk : Nat} {kd ok op oa bs sz lk wl fd le pt : Nat → Int32} (hm : n ≤ 12) (hw : wk ≤ 6) (hrel : ∀ b, b < 13 → relP kd sz lk le pt n b) (ho : ∀ i, i < wk → op i = nI (op i).toNatClampNeg ∧ (op i).toNatClampNeg < 12) (hoa : ∀ i, i < wk → 1 ≤ (oa i).toInt ∧ (oa i).toInt ≤ 9999) (hp : gdP k wl fd kd sz lk) : gdP k wl fd kd (aoX x n kd ok op oa wk bs sz).2 lk := by
  refine ⟨hp.1, hp.2.1, hp.2.2.1, fun b hb => ⟨(hp.2.2.2 b hb).1, fun h2 => ?_⟩⟩
  have e := ((ao_eq (ok := ok) (bs := bs) (x := x) hm hw hrel ho (fun i hi _ => (hoa i hi).1) wk (Nat.le_refl _)).2 b hb).2 (fun z => i12 (z.symm.trans h2))
  show 0 ≤ ((itz (aoS x n kd ok op oa) wk (bs, sz)).2 b).toInt ∧ ((itz (aoS x n kd ok op oa) wk (bs, sz)).2 b).toInt ≤ 100
  rw [e.2]
  exact (hp.2.2.2 b hb).2 h2
set_option maxHeartbeats 4000000 in
set_option maxRecDepth 100000 in
theorem lc_look {p : Program} {l : Launch} {e : Env} {s : State} {m : MethodId} {args : Array Value} {below : List Frame} {meth : Method} {c : Code} {Q : State → Prop} {D : va_G} {A : Nat → Prop} {cA cL : ClassId} {aX aB aT aN aG aW aD aO aV aM : Nat → Nat} {ou b j L cells slots : Nat} {xs : Nat → Int32} (C : pt_C p s m args c cL_law 7 wsL_law RL D [(cA, .int), (cL, .long)] A) (hX : va_X b L xs s s.heap) (hbl : b < s.heap.size) (hbA : ¬ A b) (hj : 5 * j + 5 ≤ L) (hL : L ≤ 2560) (hcs : cells + 1 ≤ room_1.cells ∧ slots + 6 ≤ room_1.slots) (K : lwK p l e s m args below meth c D A Q cA cL aX aB aT aN aG aW aD aO aV aM ou b j (cells + 1) (slots + 6) 951) : lwK p l e s m args below meth c D A Q cA cL aX aB aT aN aG aW aD aO aV aM ou b j cells slots 550 := by
  intro n k g t td dr wk sv P sz lk sd se sc ba pa ch T th M fo hI
  have hI0 := hI
  obtain ⟨⟨hn, hm, hgt, htd, hdr, hwk, hsv⟩, ⟨hS, hH⟩, ⟨hD, hU, hDw⟩, ⟨hB, hp, hrel⟩, ⟨ho, hoa⟩, hV, hnow, ht01, ht0⟩ := hI
  have hg : g ≤ 120 := Nat.le_trans hgt htd
  have hcs0 : cells ≤ room_1.cells ∧ slots ≤ room_1.slots := ⟨by omega, by omega⟩
  have hSg : ∀ w, w < g → P 7 w = 0 ∨ P 7 w = 1 ∨ P 7 w = 2 := fun w hw => hS w (Nat.lt_of_lt_of_le hw hgt)
  have hHg : ∀ w, w < g → heK (P 6) w := fun w hw => hH w (Nat.lt_of_lt_of_le hw hgt)
  have hrB : ∀ b, 1 ≤ b → b < n → relB (P 1) sz lk (P 1) (leM 0 (P 1) (P 2)) (P 3) b := fun b _ h => rel_0 (by omega) (hrel b (by omega))
  refine pt_aload_n (pc' := 551) C dL_law_550 rfl 3 rfl ?_
  refine pt_arg (pc' := 557) (c0 := 1) C hX hbl hbA hj (by decide) hL (by decide) 4 0 rfl rfl dL_law_551 dL_law_552 dL_law_554 dL_law_555 dL_law_556 rfl ?_
  refine pt_arg (pc' := 563) (c0 := 2) C hX hbl hbA hj (by decide) hL (by decide) 4 0 rfl rfl dL_law_557 dL_law_558 dL_law_560 dL_law_561 dL_law_562 rfl ?_
  refine pt_cvIP (pc' := 566) (As := [.int (xs (5 * j + 1)), .int (xs (5 * j + 2))]) (rest := []) C.sub0 (mX6_look l D cA aX aB aT aN aG aW aD aO aV g t (P 16) n k (P 0) (P 4) (P 5) (P 1) sz lk sd se sc ba pa ch (xs (5 * j + 1)) (xs (5 * j + 2)) hn hm) (cwV 2 C.hts gL_law_X6_look rfl rfl rfl (by decide +kernel) ⟨Nat.le_of_ble_eq_true rfl, Nat.le_of_ble_eq_true rfl⟩) dL_law_563 rfl rfl rfl rfl rfl rfl (Nat.le_of_ble_eq_true rfl) hcs0 (pm_XBN _ _ _ _ _ _ _ _ _ _ _) (pm_XBN _ _ _ _ _ _ _ _ _ _ _).symm ?_
  refine pt_aload_n (pc' := 567) C dL_law_566 rfl 2 rfl ?_
  refine pt_arg (pc' := 573) (c0 := 1) C hX hbl hbA hj (by decide) hL (by decide) 4 0 rfl rfl dL_law_567 dL_law_568 dL_law_570 dL_law_571 dL_law_572 rfl ?_
  refine pt_arg (pc' := 579) (c0 := 2) C hX hbl hbA hj (by decide) hL (by decide) 4 0 rfl rfl dL_law_573 dL_law_574 dL_law_576 dL_law_577 dL_law_578 rfl ?_
  refine pt_cvEP (pc' := 582) (As := [.int (xs (5 * j + 1)), .int (xs (5 * j + 2))]) (rest := [_]) C.sub0 (mX7_look l D cA aM th n t k td g dr wk sv P M.1 M.2.1 M.2.2.1 M.2.2.2.1 M.2.2.2.2.1 M.2.2.2.2.2.1 M.2.2.2.2.2.2 (xs (5 * j + 1)) (xs (5 * j + 2)) (P 1) sz lk hn hm hg hSg hHg hdr hD hU hB hp hrB) (cwV 2 C.hts gL_law_X7_look rfl rfl rfl (by decide +kernel) ⟨Nat.le_of_ble_eq_true rfl, Nat.le_of_ble_eq_true rfl⟩) dL_law_579 rfl rfl rfl rfl rfl rfl (Nat.le_of_ble_eq_true rfl) hcs0 (pm_M _ _ _ _ _ _ _ _ _ _ _) (fun _ => (pm_M _ _ _ _ _ _ _ _ _ _ _).symm) (fun um => ?_)
  refine pt_icmp_eq (tgt := 951) (pc' := 585) C dL_law_582 (by decide) rfl (fun _ => ?_) (fun h9 => absurd ?_ h9)
  · refine pt_wd (k := cells + 1) (n := slots + 6) (by omega) (by omega) ?_
    exact K n k g t td dr wk sv P sz lk sd se sc ba pa ch T 0 um fo hI0
  · rw [← hnow]
    try rfl
set_option maxHeartbeats 4000000 in
set_option maxRecDepth 100000 in
theorem lc_border {p : Program} {l : Launch} {e : Env} {s : State} {m : MethodId} {args : Array Value} {below : List Frame} {meth : Method} {c : Code} {Q : State → Prop} {D : va_G} {A : Nat → Prop} {cA cL : ClassId} {aX aB aT aN aG aW aD aO aV aM : Nat → Nat} {ou b j L cells slots : Nat} {xs : Nat → Int32} (C : pt_C p s m args c cL_law 7 wsL_law RL D [(cA, .int), (cL, .long)] A) (hX : va_X b L xs s s.heap) (hbl : b < s.heap.size) (hbA : ¬ A b) (hj : 5 * j + 5 ≤ L) (hL : L ≤ 2560) (hcs : cells + 1 ≤ room_1.cells ∧ slots + 6 ≤ room_1.slots) (K : lwK p l e s m args below meth c D A Q cA cL aX aB aT aN aG aW aD aO aV aM ou b j (cells + 1) (slots + 6) 951) : lwK p l e s m args below meth c D A Q cA cL aX aB aT aN aG aW aD aO aV aM ou b j cells slots 587 := by
  intro n k g t td dr wk sv P sz lk sd se sc ba pa ch T th M fo hI
  have hI0 := hI
  obtain ⟨⟨hn, hm, hgt, htd, hdr, hwk, hsv⟩, ⟨hS, hH⟩, ⟨hD, hU, hDw⟩, ⟨hB, hp, hrel⟩, ⟨ho, hoa⟩, hV, hnow, ht01, ht0⟩ := hI
  have hg : g ≤ 120 := Nat.le_trans hgt htd
  have hcs0 : cells ≤ room_1.cells ∧ slots ≤ room_1.slots := ⟨by omega, by omega⟩
  have hSg : ∀ w, w < g → P 7 w = 0 ∨ P 7 w = 1 ∨ P 7 w = 2 := fun w hw => hS w (Nat.lt_of_lt_of_le hw hgt)
  have hHg : ∀ w, w < g → heK (P 6) w := fun w hw => hH w (Nat.lt_of_lt_of_le hw hgt)
  have hrB : ∀ b, 1 ≤ b → b < n → relB (P 1) sz lk (P 1) (leM 0 (P 1) (P 2)) (P 3) b := fun b _ h => rel_0 (by omega) (hrel b (by omega))
  refine pt_aload_n (pc' := 588) C dL_law_587 rfl 3 rfl ?_
  refine pt_arg (pc' := 594) (c0 := 1) C hX hbl hbA hj (by decide) hL (by decide) 4 0 rfl rfl dL_law_588 dL_law_589 dL_law_591 dL_law_592 dL_law_593 rfl ?_
  refine pt_arg (pc' := 600) (c0 := 2) C hX hbl hbA hj (by decide) hL (by decide) 4 0 rfl rfl dL_law_594 dL_law_595 dL_law_597 dL_law_598 dL_law_599 rfl ?_
  refine pt_cvIP (pc' := 603) (As := [.int (xs (5 * j + 1)), .int (xs (5 * j + 2))]) (rest := []) C.sub0 (mX6_border l D cA aX aB aT aN aG aW aD aO aV g t (P 16) n k (P 0) (P 4) (P 5) (P 1) sz lk sd se sc ba pa ch (xs (5 * j + 1)) (xs (5 * j + 2)) hn hm) (cwV 2 C.hts gL_law_X6_border rfl rfl rfl (by decide +kernel) ⟨Nat.le_of_ble_eq_true rfl, Nat.le_of_ble_eq_true rfl⟩) dL_law_600 rfl rfl rfl rfl rfl rfl (Nat.le_of_ble_eq_true rfl) hcs0 (pm_XBN _ _ _ _ _ _ _ _ _ _ _) (pm_XBN _ _ _ _ _ _ _ _ _ _ _).symm ?_
  refine pt_aload_n (pc' := 604) C dL_law_603 rfl 2 rfl ?_
  refine pt_arg (pc' := 610) (c0 := 1) C hX hbl hbA hj (by decide) hL (by decide) 4 0 rfl rfl dL_law_604 dL_law_605 dL_law_607 dL_law_608 dL_law_609 rfl ?_
  refine pt_arg (pc' := 616) (c0 := 2) C hX hbl hbA hj (by decide) hL (by decide) 4 0 rfl rfl dL_law_610 dL_law_611 dL_law_613 dL_law_614 dL_law_615 rfl ?_
  refine pt_cvEP (pc' := 619) (As := [.int (xs (5 * j + 1)), .int (xs (5 * j + 2))]) (rest := [_]) C.sub0 (mX7_border l D cA aM th n t k td g dr wk sv P M.1 M.2.1 M.2.2.1 M.2.2.2.1 M.2.2.2.2.1 M.2.2.2.2.2.1 M.2.2.2.2.2.2 (xs (5 * j + 1)) (xs (5 * j + 2)) (P 1) sz lk hn hm hg hSg hHg hdr hD hU hB hp hrB) (cwV 2 C.hts gL_law_X7_border rfl rfl rfl (by decide +kernel) ⟨Nat.le_of_ble_eq_true rfl, Nat.le_of_ble_eq_true rfl⟩) dL_law_616 rfl rfl rfl rfl rfl rfl (Nat.le_of_ble_eq_true rfl) hcs0 (pm_M _ _ _ _ _ _ _ _ _ _ _) (fun _ => (pm_M _ _ _ _ _ _ _ _ _ _ _).symm) (fun um => ?_)
  refine pt_icmp_eq (tgt := 951) (pc' := 622) C dL_law_619 (by decide) rfl (fun _ => ?_) (fun h9 => absurd ?_ h9)
  · refine pt_wd (k := cells + 1) (n := slots + 6) (by omega) (by omega) ?_
    exact K n k g t td dr wk sv P sz lk sd se sc ba pa ch T 0 um fo hI0
  · rw [← hnow]
    cases hk : inBd n (xs (5 * j + 1))
    · rfl
    · show bdV (xs (5 * j + 2)) (P 1) sz lk ba pa (xs (5 * j + 1)).toNatClampNeg = bmV (xs (5 * j + 2)) (P 1) (P 2) (P 3) ba pa (xs (5 * j + 1)).toNatClampNeg
      exact (bd_eq (xs (5 * j + 2)) ba pa (hrel _ (by have := (inBd_in hm hk).2; omega))).symm
set_option maxHeartbeats 4000000 in
set_option maxRecDepth 100000 in
theorem lc_count {p : Program} {l : Launch} {e : Env} {s : State} {m : MethodId} {args : Array Value} {below : List Frame} {meth : Method} {c : Code} {Q : State → Prop} {D : va_G} {A : Nat → Prop} {cA cL : ClassId} {aX aB aT aN aG aW aD aO aV aM : Nat → Nat} {ou b j L cells slots : Nat} {xs : Nat → Int32} (C : pt_C p s m args c cL_law 7 wsL_law RL D [(cA, .int), (cL, .long)] A) (hX : va_X b L xs s s.heap) (hbl : b < s.heap.size) (hbA : ¬ A b) (hj : 5 * j + 5 ≤ L) (hL : L ≤ 2560) (hcs : cells + 1 ≤ room_1.cells ∧ slots + 6 ≤ room_1.slots) (K : lwK p l e s m args below meth c D A Q cA cL aX aB aT aN aG aW aD aO aV aM ou b j (cells + 1) (slots + 6) 951) : lwK p l e s m args below meth c D A Q cA cL aX aB aT aN aG aW aD aO aV aM ou b j cells slots 926 := by
  intro n k g t td dr wk sv P sz lk sd se sc ba pa ch T th M fo hI
  have hI0 := hI
  obtain ⟨⟨hn, hm, hgt, htd, hdr, hwk, hsv⟩, ⟨hS, hH⟩, ⟨hD, hU, hDw⟩, ⟨hB, hp, hrel⟩, ⟨ho, hoa⟩, hV, hnow, ht01, ht0⟩ := hI
  have hg : g ≤ 120 := Nat.le_trans hgt htd
  have hcs0 : cells ≤ room_1.cells ∧ slots ≤ room_1.slots := ⟨by omega, by omega⟩
  have hSg : ∀ w, w < g → P 7 w = 0 ∨ P 7 w = 1 ∨ P 7 w = 2 := fun w hw => hS w (Nat.lt_of_lt_of_le hw hgt)
  have hHg : ∀ w, w < g → heK (P 6) w := fun w hw => hH w (Nat.lt_of_lt_of_le hw hgt)
  have hrB : ∀ b, 1 ≤ b → b < n → relB (P 1) sz lk (P 1) (leM 0 (P 1) (P 2)) (P 3) b := fun b _ h => rel_0 (by omega) (hrel b (by omega))
  have hba : ∀ i, n ≤ i → ba i = 0 := by
    intro i h
    have e := rp_ba (n := n) (k := k) (bs := P 0) (wl := P 4) (fd := P 5) (kd := P 1) (sz := sz) (lk := lk) (he := P 6) (si := P 7) (db := P 8) (df := P 10) (dw := P 11) hU h g
    rw [← hnow] at e
    exact e
  refine pt_aload_n (pc' := 927) C dL_law_926 rfl 3 rfl ?_
  refine pt_arg (pc' := 933) (c0 := 1) C hX hbl hbA hj (by decide) hL (by decide) 4 0 rfl rfl dL_law_927 dL_law_928 dL_law_930 dL_law_931 dL_law_932 rfl ?_
  refine pt_cvIP (pc' := 936) (As := [.int (xs (5 * j + 1))]) (rest := []) C.sub0 (mX6_count l D cA aX aB aT aN aG aW aD aO aV g t (P 16) n k (P 0) (P 4) (P 5) (P 1) sz lk sd se sc ba pa ch td (P 6) (P 7) dr (P 8) (P 9) (P 10) (P 11) wk (P 12) (P 13) (P 14) (P 15) sv (P 17) (P 18) (P 19) (P 20) (xs (5 * j + 1)) hn hm) (cwV 1 C.hts gL_law_X6_count rfl rfl rfl (by decide +kernel) ⟨Nat.le_of_ble_eq_true rfl, Nat.le_of_ble_eq_true rfl⟩) dL_law_933 rfl rfl rfl rfl rfl rfl (Nat.le_of_ble_eq_true rfl) hcs0 (pm_XBNWDOV _ _ _ _ _ _ _ _ _ _ _) (pm_XBNWDOV _ _ _ _ _ _ _ _ _ _ _).symm ?_
  refine pt_aload_n (pc' := 937) C dL_law_936 rfl 2 rfl ?_
  refine pt_arg (pc' := 943) (c0 := 1) C hX hbl hbA hj (by decide) hL (by decide) 4 0 rfl rfl dL_law_937 dL_law_938 dL_law_940 dL_law_941 dL_law_942 rfl ?_
  refine pt_cvEP (pc' := 946) (As := [.int (xs (5 * j + 1))]) (rest := [_]) C.sub0 (mX7_count l D cA aM th n t k td g dr wk sv P M.1 M.2.1 M.2.2.1 M.2.2.2.1 M.2.2.2.2.1 M.2.2.2.2.2.1 M.2.2.2.2.2.2 (xs (5 * j + 1)) (P 1) sz lk hn hm hg hSg hHg hdr hD hU hB hp hrB) (cwV 1 C.hts gL_law_X7_count rfl rfl rfl (by decide +kernel) ⟨Nat.le_of_ble_eq_true rfl, Nat.le_of_ble_eq_true rfl⟩) dL_law_943 rfl rfl rfl rfl rfl rfl (Nat.le_of_ble_eq_true rfl) hcs0 (pm_M _ _ _ _ _ _ _ _ _ _ _) (fun _ => (pm_M _ _ _ _ _ _ _ _ _ _ _).symm) (fun um => ?_)
  refine pt_icmp_eq (tgt := 951) (pc' := 949) C dL_law_946 (by decide) rfl (fun _ => ?_) (fun h9 => absurd ?_ h9)
  · refine pt_wd (k := cells + 1) (n := slots + 6) (by omega) (by omega) ?_
    exact K n k g t td dr wk sv P sz lk sd se sc ba pa ch T 0 um fo hI0
  · rw [← hnow]
    have e : itz (sbM ba) 13 (itz (saM sd se) n 0) = itz (siS sd se ba) n 0 := sum_eq hm (fun i _ h => hba i h)
    show ctV (xs (5 * j + 1)) n td g wk sv dr (itz (siS sd se ba) n 0) = ctV (xs (5 * j + 1)) n td g wk sv dr (itz (sbM ba) 13 (itz (saM sd se) n 0))
    rw [e]
set_option maxHeartbeats 4000000 in
set_option maxRecDepth 100000 in
theorem lc_without {p : Program} {l : Launch} {e : Env} {s : State} {m : MethodId} {args : Array Value} {below : List Frame} {meth : Method} {c : Code} {Q : State → Prop} {D : va_G} {A : Nat → Prop} {cA cL : ClassId} {aX aB aT aN aG aW aD aO aV aM : Nat → Nat} {ou b j L cells slots : Nat} {xs : Nat → Int32} (C : pt_C p s m args c cL_law 7 wsL_law RL D [(cA, .int), (cL, .long)] A) (hX : va_X b L xs s s.heap) (hbl : b < s.heap.size) (hbA : ¬ A b) (hj : 5 * j + 5 ≤ L) (hL : L ≤ 2560) (hcs : cells + 1 ≤ room_1.cells ∧ slots + 6 ≤ room_1.slots) (K : lwK p l e s m args below meth c D A Q cA cL aX aB aT aN aG aW aD aO aV aM ou b j (cells + 1) (slots + 6) 951) : lwK p l e s m args below meth c D A Q cA cL aX aB aT aN aG aW aD aO aV aM ou b j cells slots 624 := by
  intro n k g t td dr wk sv P sz lk sd se sc ba pa ch T th M fo hI
  have hI0 := hI
  obtain ⟨⟨hn, hm, hgt, htd, hdr, hwk, hsv⟩, ⟨hS, hH⟩, ⟨hD, hU, hDw⟩, ⟨hB, hp, hrel⟩, ⟨ho, hoa⟩, hV, hnow, ht01, ht0⟩ := hI
  have hg : g ≤ 120 := Nat.le_trans hgt htd
  have hcs0 : cells ≤ room_1.cells ∧ slots ≤ room_1.slots := ⟨by omega, by omega⟩
  have hSg : ∀ w, w < g → P 7 w = 0 ∨ P 7 w = 1 ∨ P 7 w = 2 := fun w hw => hS w (Nat.lt_of_lt_of_le hw hgt)
  have hHg : ∀ w, w < g → heK (P 6) w := fun w hw => hH w (Nat.lt_of_lt_of_le hw hgt)
  have hrB : ∀ b, 1 ≤ b → b < n → relB (P 1) sz lk (P 1) (leM 0 (P 1) (P 2)) (P 3) b := fun b _ h => rel_0 (by omega) (hrel b (by omega))
  refine pt_aload_n (pc' := 625) C dL_law_624 rfl 3 rfl ?_
  refine pt_arg (pc' := 631) (c0 := 1) C hX hbl hbA hj (by decide) hL (by decide) 4 0 rfl rfl dL_law_625 dL_law_626 dL_law_628 dL_law_629 dL_law_630 rfl ?_
  refine pt_arg (pc' := 637) (c0 := 2) C hX hbl hbA hj (by decide) hL (by decide) 4 0 rfl rfl dL_law_631 dL_law_632 dL_law_634 dL_law_635 dL_law_636 rfl ?_
  refine pt_cvEP (pc' := 640) (As := [.int (xs (5 * j + 1)), .int (xs (5 * j + 2))]) (rest := []) C.sub0 (mX6_without l D cA aX aB aT aN aG aW aD aO aV g t (P 16) n k (P 0) (P 4) (P 5) (P 1) sz lk T.1 T.2.1 T.2.2.1 T.2.2.2.1 T.2.2.2.2.1 T.2.2.2.2.2.1 T.2.2.2.2.2.2.1 T.2.2.2.2.2.2.2.1 T.2.2.2.2.2.2.2.2.1 T.2.2.2.2.2.2.2.2.2.1 T.2.2.2.2.2.2.2.2.2.2.1 T.2.2.2.2.2.2.2.2.2.2.2.1 T.2.2.2.2.2.2.2.2.2.2.2.2.1 T.2.2.2.2.2.2.2.2.2.2.2.2.2 td (P 6) (P 7) dr (P 8) (P 9) (P 10) (P 11) (xs (5 * j + 1)) (xs (5 * j + 2)) hn hm hg hSg hdr hD) (cwV 2 C.hts gL_law_X6_without rfl rfl rfl (by decide +kernel) ⟨Nat.le_of_ble_eq_true rfl, Nat.le_of_ble_eq_true rfl⟩) dL_law_637 rfl rfl rfl rfl rfl rfl (Nat.le_of_ble_eq_true rfl) hcs0 (pm_XBTGWD _ _ _ _ _ _ _ _ _ _ _) (fun _ => (pm_XBTGWD _ _ _ _ _ _ _ _ _ _ _).symm) (fun uc => ?_)
  refine pt_aload_n (pc' := 641) C dL_law_640 rfl 2 rfl ?_
  refine pt_arg (pc' := 647) (c0 := 1) C hX hbl hbA hj (by decide) hL (by decide) 4 0 rfl rfl dL_law_641 dL_law_642 dL_law_644 dL_law_645 dL_law_646 rfl ?_
  refine pt_arg (pc' := 653) (c0 := 2) C hX hbl hbA hj (by decide) hL (by decide) 4 0 rfl rfl dL_law_647 dL_law_648 dL_law_650 dL_law_651 dL_law_652 rfl ?_
  refine pt_cvEP (pc' := 656) (As := [.int (xs (5 * j + 1)), .int (xs (5 * j + 2))]) (rest := [_]) C.sub0 (mX7_without l D cA aM th n t k td g dr wk sv P M.1 M.2.1 M.2.2.1 M.2.2.2.1 M.2.2.2.2.1 M.2.2.2.2.2.1 M.2.2.2.2.2.2 (xs (5 * j + 1)) (xs (5 * j + 2)) (laX (xs (5 * j + 1)) n (P 1) sz lk).1 (laX (xs (5 * j + 1)) n (P 1) sz lk).2.1 (laX (xs (5 * j + 1)) n (P 1) sz lk).2.2 hn hm hg hSg hHg hdr hD hU hB (la_gdP hm hp) (fun hg9 b h1b hb => rel_la hm h1b hb (hrel b (by omega)) ((ag_iff hm).mp hg9))) (cwV 2 C.hts gL_law_X7_without rfl rfl rfl (by decide +kernel) ⟨Nat.le_of_ble_eq_true rfl, Nat.le_of_ble_eq_true rfl⟩) dL_law_653 rfl rfl rfl rfl rfl rfl (Nat.le_of_ble_eq_true rfl) hcs0 (pm_M _ _ _ _ _ _ _ _ _ _ _) (fun _ => (pm_M _ _ _ _ _ _ _ _ _ _ _).symm) (fun um => ?_)
  refine pt_icmp_eq (tgt := 951) (pc' := 659) C dL_law_656 (by decide) rfl (fun _ => ?_) (fun h9 => absurd ?_ h9)
  · refine pt_wd (k := cells + 1) (n := slots + 6) (by omega) (by omega) ?_
    exact K n k g t td dr wk sv P sz lk sd se sc ba pa ch uc 0 um fo hI0
  · show _ = _
    rw [hasG_ag (P 1) (xs (5 * j + 1)) hn hm]
    rfl
set_option maxHeartbeats 4000000 in
set_option maxRecDepth 100000 in
theorem lc_fits {p : Program} {l : Launch} {e : Env} {s : State} {m : MethodId} {args : Array Value} {below : List Frame} {meth : Method} {c : Code} {Q : State → Prop} {D : va_G} {A : Nat → Prop} {cA cL : ClassId} {aX aB aT aN aG aW aD aO aV aM : Nat → Nat} {ou b j L cells slots : Nat} {xs : Nat → Int32} (C : pt_C p s m args c cL_law 7 wsL_law RL D [(cA, .int), (cL, .long)] A) (hX : va_X b L xs s s.heap) (hbl : b < s.heap.size) (hbA : ¬ A b) (hj : 5 * j + 5 ≤ L) (hL : L ≤ 2560) (hcs : cells + 1 ≤ room_1.cells ∧ slots + 6 ≤ room_1.slots) (K : lwK p l e s m args below meth c D A Q cA cL aX aB aT aN aG aW aD aO aV aM ou b j (cells + 1) (slots + 6) 951) : lwK p l e s m args below meth c D A Q cA cL aX aB aT aN aG aW aD aO aV aM ou b j cells slots 913 := by
  intro n k g t td dr wk sv P sz lk sd se sc ba pa ch T th M fo hI
  have hI0 := hI
  obtain ⟨⟨hn, hm, hgt, htd, hdr, hwk, hsv⟩, ⟨hS, hH⟩, ⟨hD, hU, hDw⟩, ⟨hB, hp, hrel⟩, ⟨ho, hoa⟩, hV, hnow, ht01, ht0⟩ := hI
  have hg : g ≤ 120 := Nat.le_trans hgt htd
  have hcs0 : cells ≤ room_1.cells ∧ slots ≤ room_1.slots := ⟨by omega, by omega⟩
  have hSg : ∀ w, w < g → P 7 w = 0 ∨ P 7 w = 1 ∨ P 7 w = 2 := fun w hw => hS w (Nat.lt_of_lt_of_le hw hgt)
  have hHg : ∀ w, w < g → heK (P 6) w := fun w hw => hH w (Nat.lt_of_lt_of_le hw hgt)
  have hrB : ∀ b, 1 ≤ b → b < n → relB (P 1) sz lk (P 1) (leM 0 (P 1) (P 2)) (P 3) b := fun b _ h => rel_0 (by omega) (hrel b (by omega))
  refine pt_aload_n (pc' := 914) C dL_law_913 rfl 3 rfl ?_
  refine pt_cvEP (pc' := 917) (As := []) (rest := []) C.sub0 (mX6_fits l D cA aX aB aT aN aG aW aD aO aV g t (P 16) n k (P 0) (P 4) (P 5) (P 1) sz lk T.1 T.2.1 T.2.2.1 T.2.2.2.1 T.2.2.2.2.1 T.2.2.2.2.2.1 T.2.2.2.2.2.2.1 T.2.2.2.2.2.2.2.1 T.2.2.2.2.2.2.2.2.1 T.2.2.2.2.2.2.2.2.2.1 T.2.2.2.2.2.2.2.2.2.2.1 T.2.2.2.2.2.2.2.2.2.2.2.1 T.2.2.2.2.2.2.2.2.2.2.2.2.1 T.2.2.2.2.2.2.2.2.2.2.2.2.2 td (P 6) (P 7) dr (P 8) (P 9) (P 10) (P 11) sv (P 17) (P 18) (P 19) (P 20) hn hm htd hS hdr hD hsv hV) (cwV 0 C.hts gL_law_X6_fits rfl rfl rfl (by decide +kernel) ⟨Nat.le_of_ble_eq_true rfl, Nat.le_of_ble_eq_true rfl⟩) dL_law_914 rfl rfl rfl rfl rfl rfl (Nat.le_of_ble_eq_true rfl) hcs0 (pm_XBTGWDV _ _ _ _ _ _ _ _ _ _ _) (fun _ => (pm_XBTGWDV _ _ _ _ _ _ _ _ _ _ _).symm) (fun uc => ?_)
  refine pt_aload_n (pc' := 918) C dL_law_917 rfl 2 rfl ?_
  refine pt_cvEP (pc' := 921) (As := []) (rest := [_]) C.sub0 (mX7_fits l D cA aM th n t k td g dr wk sv P M.1 M.2.1 M.2.2.1 M.2.2.2.1 M.2.2.2.2.1 M.2.2.2.2.2.1 M.2.2.2.2.2.2 (P 1) sz lk hn hm htd hS hH hdr hD hU hB hsv hV (fun q h1 h2 => ⟨by rw [nI_toInt (by omega)]; omega, hp.2⟩) hrB) (cwV 0 C.hts gL_law_X7_fits rfl rfl rfl (by decide +kernel) ⟨Nat.le_of_ble_eq_true rfl, Nat.le_of_ble_eq_true rfl⟩) dL_law_918 rfl rfl rfl rfl rfl rfl (Nat.le_of_ble_eq_true rfl) hcs0 (pm_M _ _ _ _ _ _ _ _ _ _ _) (fun _ => (pm_M _ _ _ _ _ _ _ _ _ _ _).symm) (fun um => ?_)
  refine pt_icmp_eq (tgt := 951) (pc' := 924) C dL_law_921 (by decide) rfl (fun _ => ?_) (fun h9 => absurd ?_ h9)
  · refine pt_wd (k := cells + 1) (n := slots + 6) (by omega) (by omega) ?_
    exact K n k g t td dr wk sv P sz lk sd se sc ba pa ch uc 0 um fo hI0
  · show _ = _
    refine (ft_eq (fun q h1 h2 => ?_)).symm
    exact allB_c (fun w _ => allB_c (fun i _ => (ok_so _ _ _ _ _ _ i).symm))
set_option maxHeartbeats 4000000 in
set_option maxRecDepth 100000 in
theorem lc_works {p : Program} {l : Launch} {e : Env} {s : State} {m : MethodId} {args : Array Value} {below : List Frame} {meth : Method} {c : Code} {Q : State → Prop} {D : va_G} {A : Nat → Prop} {cA cL : ClassId} {aX aB aT aN aG aW aD aO aV aM : Nat → Nat} {ou b j L cells slots : Nat} {xs : Nat → Int32} (C : pt_C p s m args c cL_law 7 wsL_law RL D [(cA, .int), (cL, .long)] A) (hX : va_X b L xs s s.heap) (hbl : b < s.heap.size) (hbA : ¬ A b) (hj : 5 * j + 5 ≤ L) (hL : L ≤ 2560) (hcs : cells + 1 ≤ room_1.cells ∧ slots + 6 ≤ room_1.slots) (K : lwK p l e s m args below meth c D A Q cA cL aX aB aT aN aG aW aD aO aV aM ou b j (cells + 1) (slots + 6) 951) : lwK p l e s m args below meth c D A Q cA cL aX aB aT aN aG aW aD aO aV aM ou b j cells slots 839 := by
  intro n k g t td dr wk sv P sz lk sd se sc ba pa ch T th M fo hI
  have hI0 := hI
  obtain ⟨⟨hn, hm, hgt, htd, hdr, hwk, hsv⟩, ⟨hS, hH⟩, ⟨hD, hU, hDw⟩, ⟨hB, hp, hrel⟩, ⟨ho, hoa⟩, hV, hnow, ht01, ht0⟩ := hI
  have hg : g ≤ 120 := Nat.le_trans hgt htd
  have hcs0 : cells ≤ room_1.cells ∧ slots ≤ room_1.slots := ⟨by omega, by omega⟩
  have hSg : ∀ w, w < g → P 7 w = 0 ∨ P 7 w = 1 ∨ P 7 w = 2 := fun w hw => hS w (Nat.lt_of_lt_of_le hw hgt)
  have hHg : ∀ w, w < g → heK (P 6) w := fun w hw => hH w (Nat.lt_of_lt_of_le hw hgt)
  have hrB : ∀ b, 1 ≤ b → b < n → relB (P 1) sz lk (P 1) (leM 0 (P 1) (P 2)) (P 3) b := fun b _ h => rel_0 (by omega) (hrel b (by omega))
  refine pt_aload_n (pc' := 840) C dL_law_839 rfl 3 rfl ?_
  refine pt_cvEP (pc' := 843) (As := []) (rest := []) C.sub0 (mX6_works l D cA aX aB aT aN aG aW aD aO aV g t (P 16) n k (P 0) (P 4) (P 5) (P 1) sz lk T.1 T.2.1 T.2.2.1 T.2.2.2.1 T.2.2.2.2.1 T.2.2.2.2.2.1 T.2.2.2.2.2.2.1 T.2.2.2.2.2.2.2.1 T.2.2.2.2.2.2.2.2.1 T.2.2.2.2.2.2.2.2.2.1 T.2.2.2.2.2.2.2.2.2.2.1 T.2.2.2.2.2.2.2.2.2.2.2.1 T.2.2.2.2.2.2.2.2.2.2.2.2.1 T.2.2.2.2.2.2.2.2.2.2.2.2.2 td (P 6) (P 7) dr (P 8) (P 9) (P 10) (P 11) wk (P 12) (P 13) (P 14) (P 15) hn hm htd hS hdr hD hwk (fun i hi _ => ho i hi)) (cwV 0 C.hts gL_law_X6_works rfl rfl rfl (by decide +kernel) ⟨Nat.le_of_ble_eq_true rfl, Nat.le_of_ble_eq_true rfl⟩) dL_law_840 rfl rfl rfl rfl rfl rfl (Nat.le_of_ble_eq_true rfl) hcs0 (pm_XBTGWDO _ _ _ _ _ _ _ _ _ _ _) (fun _ => (pm_XBTGWDO _ _ _ _ _ _ _ _ _ _ _).symm) (fun uc => ?_)
  refine pt_aload_n (pc' := 844) C dL_law_843 rfl 2 rfl ?_
  refine pt_cvEP (pc' := 847) (As := []) (rest := [_]) C.sub0 (mX7_works l D cA aM th n t k td g dr wk sv P M.1 M.2.1 M.2.2.1 M.2.2.2.1 M.2.2.2.2.1 M.2.2.2.2.2.1 M.2.2.2.2.2.2 (fun x => (aoX x n (P 1) (P 12) (P 13) (P 14) wk (P 0) sz).1) (P 1) (fun x => (aoX x n (P 1) (P 12) (P 13) (P 14) wk (P 0) sz).2) lk hn hm htd hS hH hdr hD hU hwk ho (fun q hq => ao_bd hoa hB) (fun q hq => ao_gdP hm hwk hrel ho hoa hp) (fun q hq => (ao_eq hm hwk hrel ho (fun i hi _ => (hoa i hi).1) wk (Nat.le_refl _)).1) (fun q hq b h1 h2 => rel_ao hm hwk hrel ho (fun i hi _ => (hoa i hi).1) (by omega))) (cwV 0 C.hts gL_law_X7_works rfl rfl rfl (by decide +kernel) ⟨Nat.le_of_ble_eq_true rfl, Nat.le_of_ble_eq_true rfl⟩) dL_law_844 rfl rfl rfl rfl rfl rfl (Nat.le_of_ble_eq_true rfl) hcs0 (pm_M _ _ _ _ _ _ _ _ _ _ _) (fun _ => (pm_M _ _ _ _ _ _ _ _ _ _ _).symm) (fun um => ?_)
  refine pt_icmp_eq (tgt := 951) (pc' := 850) C dL_law_847 (by decide) rfl (fun _ => ?_) (fun h9 => absurd ?_ h9)
  · refine pt_wd (k := cells + 1) (n := slots + 6) (by omega) (by omega) ?_
    exact K n k g t td dr wk sv P sz lk sd se sc ba pa ch uc 0 um fo hI0
  · show _ = _
    refine congrArg Prod.fst (wb_eq hwk (2 ^ wk) (pow_64 hwk) (fun q hq => ?_) (-1, 0) rfl (2 ^ wk) (Nat.le_refl _)).1.symm
    exact allB_c (fun w _ => allB_c (fun f _ => (kp_km _ _ f).symm))
