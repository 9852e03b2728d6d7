/-! the law's cases -/
set_option maxHeartbeats 4000000 in
set_option maxRecDepth 100000 in
theorem lc_wave {p : Program} {l : Launch} {e : Env} {s : State} {m : MethodId} {args : Array Value} {below : List Frame} {meth : Method} {c : Code} {Q : State → Prop} {D : va_G} {A : Nat → Prop} {cA cL : ClassId} {aX aB aT aN aG aW aD aO aV aM : Nat → Nat} {ou b j L cells slots : Nat} {xs : Nat → Int32} (C : pt_C p s m args c cL_law 7 wsL_law RL D [(cA, .int), (cL, .long)] A) (hX : va_X b L xs s s.heap) (hbl : b < s.heap.size) (hbA : ¬ A b) (hj : 5 * j + 5 ≤ L) (hL : L ≤ 2560) (hcs : cells + 1 ≤ room_1.cells ∧ slots + 6 ≤ room_1.slots) (K : lwK p l e s m args below meth c D A Q cA cL aX aB aT aN aG aW aD aO aV aM ou b j (cells + 1) (slots + 6) 951) : lwK p l e s m args below meth c D A Q cA cL aX aB aT aN aG aW aD aO aV aM ou b j cells slots 383 := by
  intro n k g t td dr wk sv P sz lk sd se sc ba pa ch T th M fo hI
  have hI0 := hI
  obtain ⟨⟨hn, hm, hgt, htd, hdr, hwk, hsv⟩, ⟨hS, hH⟩, ⟨hD, hU, hDw⟩, ⟨hB, hp, hrel⟩, ⟨ho, hoa⟩, hV, hnow, ht01, ht0⟩ := hI
  have hg : g ≤ 120 := Nat.le_trans hgt htd
  have hcs0 : cells ≤ room_1.cells ∧ slots ≤ room_1.slots := ⟨by omega, by omega⟩
  have hSg : ∀ w, w < g → P 7 w = 0 ∨ P 7 w = 1 ∨ P 7 w = 2 := fun w hw => hS w (Nat.lt_of_lt_of_le hw hgt)
  have hHg : ∀ w, w < g → heK (P 6) w := fun w hw => hH w (Nat.lt_of_lt_of_le hw hgt)
  have hrB : ∀ b, 1 ≤ b → b < n → relB (P 1) sz lk (P 1) (leM 0 (P 1) (P 2)) (P 3) b := fun b _ h => rel_0 (by omega) (hrel b (by omega))
  refine pt_aload_n (pc' := 384) C dL_law_383 rfl 3 rfl ?_
  refine pt_arg (pc' := 390) (c0 := 1) C hX hbl hbA hj (by decide) hL (by decide) 4 0 rfl rfl dL_law_384 dL_law_385 dL_law_387 dL_law_388 dL_law_389 rfl ?_
  refine pt_arg (pc' := 396) (c0 := 2) C hX hbl hbA hj (by decide) hL (by decide) 4 0 rfl rfl dL_law_390 dL_law_391 dL_law_393 dL_law_394 dL_law_395 rfl ?_
  refine pt_cvIP (pc' := 399) (As := [.int (xs (5 * j + 1)), .int (xs (5 * j + 2))]) (rest := []) C.sub0 (mX6_wave l D cA aX aB aT aN aG aW aD aO aV g t (P 16) td (P 6) (P 7) (xs (5 * j + 1)) (xs (5 * j + 2)) htd) (cwV 2 C.hts gL_law_X6_wave rfl rfl rfl (by decide +kernel) ⟨Nat.le_of_ble_eq_true rfl, Nat.le_of_ble_eq_true rfl⟩) dL_law_396 rfl rfl rfl rfl rfl rfl (Nat.le_of_ble_eq_true rfl) hcs0 (pm_XW _ _ _ _ _ _ _ _ _ _ _) (pm_XW _ _ _ _ _ _ _ _ _ _ _).symm ?_
  refine pt_aload_n (pc' := 400) C dL_law_399 rfl 2 rfl ?_
  refine pt_arg (pc' := 406) (c0 := 1) C hX hbl hbA hj (by decide) hL (by decide) 4 0 rfl rfl dL_law_400 dL_law_401 dL_law_403 dL_law_404 dL_law_405 rfl ?_
  refine pt_arg (pc' := 412) (c0 := 2) C hX hbl hbA hj (by decide) hL (by decide) 4 0 rfl rfl dL_law_406 dL_law_407 dL_law_409 dL_law_410 dL_law_411 rfl ?_
  refine pt_cvIP (pc' := 415) (As := [.int (xs (5 * j + 1)), .int (xs (5 * j + 2))]) (rest := [_]) C.sub0 (mX7_wave l D cA aM th n t k td g dr wk sv P M.1 M.2.1 M.2.2.1 M.2.2.2.1 M.2.2.2.2.1 M.2.2.2.2.2.1 M.2.2.2.2.2.2 (xs (5 * j + 1)) (xs (5 * j + 2)) htd) (cwV 2 C.hts gL_law_X7_wave rfl rfl rfl (by decide +kernel) ⟨Nat.le_of_ble_eq_true rfl, Nat.le_of_ble_eq_true rfl⟩) dL_law_412 rfl rfl rfl rfl rfl rfl (Nat.le_of_ble_eq_true rfl) hcs0 (pm_M _ _ _ _ _ _ _ _ _ _ _) (pm_M _ _ _ _ _ _ _ _ _ _ _).symm ?_
  refine pt_icmp_eq (tgt := 951) (pc' := 418) C dL_law_415 (by decide) rfl (fun _ => ?_) (fun h9 => absurd ?_ h9)
  · refine pt_wd (k := cells + 1) (n := slots + 6) (by omega) (by omega) ?_
    refine pt_eq (ws' := wLw cA cL aX aB aT aN aG aW aD aO aV aM ou n k g (cond (okWav td (xs (5 * j + 1)) (xs (5 * j + 2))) (1) t) (cond (okWav td (xs (5 * j + 1)) (xs (5 * j + 2))) (td + 1) td) dr wk sv (cond (okWav td (xs (5 * j + 1)) (xs (5 * j + 2))) ((va_up (va_up P 6 (upd (P 6) td (xs (5 * j + 1)))) 7 (upd (P 7) td (xs (5 * j + 2))))) P) sz lk sd se sc ba pa ch T 0 M fo) (lv' := [(4, .int (nI (5 * j))), (3, .ref ou), (2, .ref (aM 0)), (1, .ref (aX 0)), (0, .ref b)]) (st' := []) (by cases okWav td (xs (5 * j + 1)) (xs (5 * j + 2)) <;> rfl) rfl rfl ?_
    refine K _ _ _ _ _ _ _ _ _ _ _ _ _ _ _ _ _ _ _ _ _ ?_
    cases hk : okWav td (xs (5 * j + 1)) (xs (5 * j + 2))
    · exact hI0
    · exact li_wave hI0 hk
  · rfl
set_option maxHeartbeats 4000000 in
set_option maxRecDepth 100000 in
theorem lc_mark {p : Program} {l : Launch} {e : Env} {s : State} {m : MethodId} {args : Array Value} {below : List Frame} {meth : Method} {c : Code} {Q : State → Prop} {D : va_G} {A : Nat → Prop} {cA cL : ClassId} {aX aB aT aN aG aW aD aO aV aM : Nat → Nat} {ou b j L cells slots : Nat} {xs : Nat → Int32} (C : pt_C p s m args c cL_law 7 wsL_law RL D [(cA, .int), (cL, .long)] A) (hX : va_X b L xs s s.heap) (hbl : b < s.heap.size) (hbA : ¬ A b) (hj : 5 * j + 5 ≤ L) (hL : L ≤ 2560) (hcs : cells + 1 ≤ room_1.cells ∧ slots + 6 ≤ room_1.slots) (K : lwK p l e s m args below meth c D A Q cA cL aX aB aT aN aG aW aD aO aV aM ou b j (cells + 1) (slots + 6) 951) : lwK p l e s m args below meth c D A Q cA cL aX aB aT aN aG aW aD aO aV aM ou b j cells slots 802 := by
  intro n k g t td dr wk sv P sz lk sd se sc ba pa ch T th M fo hI
  have hI0 := hI
  obtain ⟨⟨hn, hm, hgt, htd, hdr, hwk, hsv⟩, ⟨hS, hH⟩, ⟨hD, hU, hDw⟩, ⟨hB, hp, hrel⟩, ⟨ho, hoa⟩, hV, hnow, ht01, ht0⟩ := hI
  have hg : g ≤ 120 := Nat.le_trans hgt htd
  have hcs0 : cells ≤ room_1.cells ∧ slots ≤ room_1.slots := ⟨by omega, by omega⟩
  have hSg : ∀ w, w < g → P 7 w = 0 ∨ P 7 w = 1 ∨ P 7 w = 2 := fun w hw => hS w (Nat.lt_of_lt_of_le hw hgt)
  have hHg : ∀ w, w < g → heK (P 6) w := fun w hw => hH w (Nat.lt_of_lt_of_le hw hgt)
  have hrB : ∀ b, 1 ≤ b → b < n → relB (P 1) sz lk (P 1) (leM 0 (P 1) (P 2)) (P 3) b := fun b _ h => rel_0 (by omega) (hrel b (by omega))
  refine pt_aload_n (pc' := 803) C dL_law_802 rfl 3 rfl ?_
  refine pt_arg (pc' := 809) (c0 := 1) C hX hbl hbA hj (by decide) hL (by decide) 4 0 rfl rfl dL_law_803 dL_law_804 dL_law_806 dL_law_807 dL_law_808 rfl ?_
  refine pt_arg (pc' := 815) (c0 := 2) C hX hbl hbA hj (by decide) hL (by decide) 4 0 rfl rfl dL_law_809 dL_law_810 dL_law_812 dL_law_813 dL_law_814 rfl ?_
  refine pt_cvIP (pc' := 818) (As := [.int (xs (5 * j + 1)), .int (xs (5 * j + 2))]) (rest := []) C.sub0 (mX6_mark l D cA aX aB aT aN aG aW aD aO aV g t (P 16) n k (P 0) (P 4) (P 5) (P 1) sz lk (xs (5 * j + 1)) (xs (5 * j + 2)) hn hm) (cwV 2 C.hts gL_law_X6_mark rfl rfl rfl (by decide +kernel) ⟨Nat.le_of_ble_eq_true rfl, Nat.le_of_ble_eq_true rfl⟩) dL_law_815 rfl rfl rfl rfl rfl rfl (Nat.le_of_ble_eq_true rfl) hcs0 (pm_XB _ _ _ _ _ _ _ _ _ _ _) (pm_XB _ _ _ _ _ _ _ _ _ _ _).symm ?_
  refine pt_aload_n (pc' := 819) C dL_law_818 rfl 2 rfl ?_
  refine pt_arg (pc' := 825) (c0 := 1) C hX hbl hbA hj (by decide) hL (by decide) 4 0 rfl rfl dL_law_819 dL_law_820 dL_law_822 dL_law_823 dL_law_824 rfl ?_
  refine pt_arg (pc' := 831) (c0 := 2) C hX hbl hbA hj (by decide) hL (by decide) 4 0 rfl rfl dL_law_825 dL_law_826 dL_law_828 dL_law_829 dL_law_830 rfl ?_
  refine pt_cvIP (pc' := 834) (As := [.int (xs (5 * j + 1)), .int (xs (5 * j + 2))]) (rest := [_]) C.sub0 (mX7_mark l D cA aM th n t k td g dr wk sv P M.1 M.2.1 M.2.2.1 M.2.2.2.1 M.2.2.2.2.1 M.2.2.2.2.2.1 M.2.2.2.2.2.2 (xs (5 * j + 1)) (xs (5 * j + 2)) hn hm) (cwV 2 C.hts gL_law_X7_mark rfl rfl rfl (by decide +kernel) ⟨Nat.le_of_ble_eq_true rfl, Nat.le_of_ble_eq_true rfl⟩) dL_law_831 rfl rfl rfl rfl rfl rfl (Nat.le_of_ble_eq_true rfl) hcs0 (pm_M _ _ _ _ _ _ _ _ _ _ _) (pm_M _ _ _ _ _ _ _ _ _ _ _).symm ?_
  refine pt_icmp_eq (tgt := 951) (pc' := 837) C dL_law_834 (by decide) rfl (fun _ => ?_) (fun h9 => absurd ?_ h9)
  · refine pt_wd (k := cells + 1) (n := slots + 6) (by omega) (by omega) ?_
    refine pt_eq (ws' := wLw cA cL aX aB aT aN aG aW aD aO aV aM ou n k g (cond (okMar n (xs (5 * j + 1)) (xs (5 * j + 2))) (1) t) td dr wk sv (cond (okMar n (xs (5 * j + 1)) (xs (5 * j + 2))) ((va_up P 16 (upd (P 16) (xs (5 * j + 1)).toNatClampNeg (xs (5 * j + 2))))) P) sz lk sd se sc ba pa ch T 0 M fo) (lv' := [(4, .int (nI (5 * j))), (3, .ref ou), (2, .ref (aM 0)), (1, .ref (aX 0)), (0, .ref b)]) (st' := []) (by cases okMar n (xs (5 * j + 1)) (xs (5 * j + 2)) <;> rfl) rfl rfl ?_
    refine K _ _ _ _ _ _ _ _ _ _ _ _ _ _ _ _ _ _ _ _ _ ?_
    cases hk : okMar n (xs (5 * j + 1)) (xs (5 * j + 2))
    · exact hI0
    · exact li_mark hI0
  · rfl
set_option maxHeartbeats 4000000 in
set_option maxRecDepth 100000 in
theorem lc_survey {p : Program} {l : Launch} {e : Env} {s : State} {m : MethodId} {args : Array Value} {below : List Frame} {meth : Method} {c : Code} {Q : State → Prop} {D : va_G} {A : Nat → Prop} {cA cL : ClassId} {aX aB aT aN aG aW aD aO aV aM : Nat → Nat} {ou b j L cells slots : Nat} {xs : Nat → Int32} (C : pt_C p s m args c cL_law 7 wsL_law RL D [(cA, .int), (cL, .long)] A) (hX : va_X b L xs s s.heap) (hbl : b < s.heap.size) (hbA : ¬ A b) (hj : 5 * j + 5 ≤ L) (hL : L ≤ 2560) (hcs : cells + 1 ≤ room_1.cells ∧ slots + 6 ≤ room_1.slots) (K : lwK p l e s m args below meth c D A Q cA cL aX aB aT aN aG aW aD aO aV aM ou b j (cells + 1) (slots + 6) 951) : lwK p l e s m args below meth c D A Q cA cL aX aB aT aN aG aW aD aO aV aM ou b j cells slots 852 := by
  intro n k g t td dr wk sv P sz lk sd se sc ba pa ch T th M fo hI
  have hI0 := hI
  obtain ⟨⟨hn, hm, hgt, htd, hdr, hwk, hsv⟩, ⟨hS, hH⟩, ⟨hD, hU, hDw⟩, ⟨hB, hp, hrel⟩, ⟨ho, hoa⟩, hV, hnow, ht01, ht0⟩ := hI
  have hg : g ≤ 120 := Nat.le_trans hgt htd
  have hcs0 : cells ≤ room_1.cells ∧ slots ≤ room_1.slots := ⟨by omega, by omega⟩
  have hSg : ∀ w, w < g → P 7 w = 0 ∨ P 7 w = 1 ∨ P 7 w = 2 := fun w hw => hS w (Nat.lt_of_lt_of_le hw hgt)
  have hHg : ∀ w, w < g → heK (P 6) w := fun w hw => hH w (Nat.lt_of_lt_of_le hw hgt)
  have hrB : ∀ b, 1 ≤ b → b < n → relB (P 1) sz lk (P 1) (leM 0 (P 1) (P 2)) (P 3) b := fun b _ h => rel_0 (by omega) (hrel b (by omega))
  refine pt_aload_n (pc' := 853) C dL_law_852 rfl 3 rfl ?_
  refine pt_arg (pc' := 859) (c0 := 1) C hX hbl hbA hj (by decide) hL (by decide) 4 0 rfl rfl dL_law_853 dL_law_854 dL_law_856 dL_law_857 dL_law_858 rfl ?_
  refine pt_arg (pc' := 865) (c0 := 2) C hX hbl hbA hj (by decide) hL (by decide) 4 0 rfl rfl dL_law_859 dL_law_860 dL_law_862 dL_law_863 dL_law_864 rfl ?_
  refine pt_arg (pc' := 871) (c0 := 3) C hX hbl hbA hj (by decide) hL (by decide) 4 0 rfl rfl dL_law_865 dL_law_866 dL_law_868 dL_law_869 dL_law_870 rfl ?_
  refine pt_arg (pc' := 877) (c0 := 4) C hX hbl hbA hj (by decide) hL (by decide) 4 0 rfl rfl dL_law_871 dL_law_872 dL_law_874 dL_law_875 dL_law_876 rfl ?_
  refine pt_cvIP (pc' := 880) (As := [.int (xs (5 * j + 1)), .int (xs (5 * j + 2)), .int (xs (5 * j + 3)), .int (xs (5 * j + 4))]) (rest := []) C.sub0 (mX6_survey l D cA aX aB aT aN aG aW aD aO aV g t (P 16) n k (P 0) (P 4) (P 5) (P 1) sz lk sv (P 17) (P 18) (P 19) (P 20) (xs (5 * j + 1)) (xs (5 * j + 2)) (xs (5 * j + 3)) (xs (5 * j + 4)) hn hm hsv) (cwV 4 C.hts gL_law_X6_survey rfl rfl rfl (by decide +kernel) ⟨Nat.le_of_ble_eq_true rfl, Nat.le_of_ble_eq_true rfl⟩) dL_law_877 rfl rfl rfl rfl rfl rfl (Nat.le_of_ble_eq_true rfl) hcs0 (pm_XBV _ _ _ _ _ _ _ _ _ _ _) (pm_XBV _ _ _ _ _ _ _ _ _ _ _).symm ?_
  refine pt_aload_n (pc' := 881) C dL_law_880 rfl 2 rfl ?_
  refine pt_arg (pc' := 887) (c0 := 1) C hX hbl hbA hj (by decide) hL (by decide) 4 0 rfl rfl dL_law_881 dL_law_882 dL_law_884 dL_law_885 dL_law_886 rfl ?_
  refine pt_arg (pc' := 893) (c0 := 2) C hX hbl hbA hj (by decide) hL (by decide) 4 0 rfl rfl dL_law_887 dL_law_888 dL_law_890 dL_law_891 dL_law_892 rfl ?_
  refine pt_arg (pc' := 899) (c0 := 3) C hX hbl hbA hj (by decide) hL (by decide) 4 0 rfl rfl dL_law_893 dL_law_894 dL_law_896 dL_law_897 dL_law_898 rfl ?_
  refine pt_arg (pc' := 905) (c0 := 4) C hX hbl hbA hj (by decide) hL (by decide) 4 0 rfl rfl dL_law_899 dL_law_900 dL_law_902 dL_law_903 dL_law_904 rfl ?_
  refine pt_cvIP (pc' := 908) (As := [.int (xs (5 * j + 1)), .int (xs (5 * j + 2)), .int (xs (5 * j + 3)), .int (xs (5 * j + 4))]) (rest := [_]) C.sub0 (mX7_survey l D cA aM th n t k td g dr wk sv P M.1 M.2.1 M.2.2.1 M.2.2.2.1 M.2.2.2.2.1 M.2.2.2.2.2.1 M.2.2.2.2.2.2 (xs (5 * j + 1)) (xs (5 * j + 2)) (xs (5 * j + 3)) (xs (5 * j + 4)) hn hm hsv) (cwV 4 C.hts gL_law_X7_survey rfl rfl rfl (by decide +kernel) ⟨Nat.le_of_ble_eq_true rfl, Nat.le_of_ble_eq_true rfl⟩) dL_law_905 rfl rfl rfl rfl rfl rfl (Nat.le_of_ble_eq_true rfl) hcs0 (pm_M _ _ _ _ _ _ _ _ _ _ _) (pm_M _ _ _ _ _ _ _ _ _ _ _).symm ?_
  refine pt_icmp_eq (tgt := 951) (pc' := 911) C dL_law_908 (by decide) rfl (fun _ => ?_) (fun h9 => absurd ?_ h9)
  · refine pt_wd (k := cells + 1) (n := slots + 6) (by omega) (by omega) ?_
    refine pt_eq (ws' := wLw cA cL aX aB aT aN aG aW aD aO aV aM ou n k g (cond (okSur n sv (xs (5 * j + 1)) (xs (5 * j + 2)) (xs (5 * j + 3)) (xs (5 * j + 4))) (1) t) td dr wk (cond (okSur n sv (xs (5 * j + 1)) (xs (5 * j + 2)) (xs (5 * j + 3)) (xs (5 * j + 4))) (sv + 1) sv) (cond (okSur n sv (xs (5 * j + 1)) (xs (5 * j + 2)) (xs (5 * j + 3)) (xs (5 * j + 4))) ((va_up (va_up (va_up (va_up P 17 (upd (P 17) sv (xs (5 * j + 1)))) 18 (upd (P 18) sv (xs (5 * j + 2)))) 19 (upd (P 19) sv (xs (5 * j + 3)))) 20 (upd (P 20) sv (xs (5 * j + 4))))) P) sz lk sd se sc ba pa ch T 0 M fo) (lv' := [(4, .int (nI (5 * j))), (3, .ref ou), (2, .ref (aM 0)), (1, .ref (aX 0)), (0, .ref b)]) (st' := []) (by cases okSur n sv (xs (5 * j + 1)) (xs (5 * j + 2)) (xs (5 * j + 3)) (xs (5 * j + 4)) <;> rfl) rfl rfl ?_
    refine K _ _ _ _ _ _ _ _ _ _ _ _ _ _ _ _ _ _ _ _ _ ?_
    cases hk : okSur n sv (xs (5 * j + 1)) (xs (5 * j + 2)) (xs (5 * j + 3)) (xs (5 * j + 4))
    · exact hI0
    · exact li_survey hI0 hk
  · rfl
set_option maxHeartbeats 4000000 in
set_option maxRecDepth 100000 in
theorem lc_work {p : Program} {l : Launch} {e : Env} {s : State} {m : MethodId} {args : Array Value} {below : List Frame} {meth : Method} {c : Code} {Q : State → Prop} {D : va_G} {A : Nat → Prop} {cA cL : ClassId} {aX aB aT aN aG aW aD aO aV aM : Nat → Nat} {ou b j L cells slots : Nat} {xs : Nat → Int32} (C : pt_C p s m args c cL_law 7 wsL_law RL D [(cA, .int), (cL, .long)] A) (hX : va_X b L xs s s.heap) (hbl : b < s.heap.size) (hbA : ¬ A b) (hj : 5 * j + 5 ≤ L) (hL : L ≤ 2560) (hcs : cells + 1 ≤ room_1.cells ∧ slots + 6 ≤ room_1.slots) (K : lwK p l e s m args below meth c D A Q cA cL aX aB aT aN aG aW aD aO aV aM ou b j (cells + 1) (slots + 6) 951) : lwK p l e s m args below meth c D A Q cA cL aX aB aT aN aG aW aD aO aV aM ou b j cells slots 741 := by
  intro n k g t td dr wk sv P sz lk sd se sc ba pa ch T th M fo hI
  have hI0 := hI
  obtain ⟨⟨hn, hm, hgt, htd, hdr, hwk, hsv⟩, ⟨hS, hH⟩, ⟨hD, hU, hDw⟩, ⟨hB, hp, hrel⟩, ⟨ho, hoa⟩, hV, hnow, ht01, ht0⟩ := hI
  have hg : g ≤ 120 := Nat.le_trans hgt htd
  have hcs0 : cells ≤ room_1.cells ∧ slots ≤ room_1.slots := ⟨by omega, by omega⟩
  have hSg : ∀ w, w < g → P 7 w = 0 ∨ P 7 w = 1 ∨ P 7 w = 2 := fun w hw => hS w (Nat.lt_of_lt_of_le hw hgt)
  have hHg : ∀ w, w < g → heK (P 6) w := fun w hw => hH w (Nat.lt_of_lt_of_le hw hgt)
  have hrB : ∀ b, 1 ≤ b → b < n → relB (P 1) sz lk (P 1) (leM 0 (P 1) (P 2)) (P 3) b := fun b _ h => rel_0 (by omega) (hrel b (by omega))
  refine pt_aload_n (pc' := 742) C dL_law_741 rfl 3 rfl ?_
  refine pt_arg (pc' := 748) (c0 := 1) C hX hbl hbA hj (by decide) hL (by decide) 4 0 rfl rfl dL_law_742 dL_law_743 dL_law_745 dL_law_746 dL_law_747 rfl ?_
  refine pt_arg (pc' := 754) (c0 := 2) C hX hbl hbA hj (by decide) hL (by decide) 4 0 rfl rfl dL_law_748 dL_law_749 dL_law_751 dL_law_752 dL_law_753 rfl ?_
  refine pt_arg (pc' := 760) (c0 := 3) C hX hbl hbA hj (by decide) hL (by decide) 4 0 rfl rfl dL_law_754 dL_law_755 dL_law_757 dL_law_758 dL_law_759 rfl ?_
  refine pt_arg (pc' := 766) (c0 := 4) C hX hbl hbA hj (by decide) hL (by decide) 4 0 rfl rfl dL_law_760 dL_law_761 dL_law_763 dL_law_764 dL_law_765 rfl ?_
  refine pt_cvIP (pc' := 769) (As := [.int (xs (5 * j + 1)), .int (xs (5 * j + 2)), .int (xs (5 * j + 3)), .int (xs (5 * j + 4))]) (rest := []) C.sub0 (mX6_work l D cA aX aB aT aN aG aW aD aO aV g t (P 16) n k (P 0) (P 4) (P 5) (P 1) sz lk wk (P 12) (P 13) (P 14) (P 15) (xs (5 * j + 1)) (xs (5 * j + 2)) (xs (5 * j + 3)) (xs (5 * j + 4)) hn hm hwk) (cwV 4 C.hts gL_law_X6_work rfl rfl rfl (by decide +kernel) ⟨Nat.le_of_ble_eq_true rfl, Nat.le_of_ble_eq_true rfl⟩) dL_law_766 rfl rfl rfl rfl rfl rfl (Nat.le_of_ble_eq_true rfl) hcs0 (pm_XBO _ _ _ _ _ _ _ _ _ _ _) (pm_XBO _ _ _ _ _ _ _ _ _ _ _).symm ?_
  refine pt_aload_n (pc' := 770) C dL_law_769 rfl 2 rfl ?_
  refine pt_arg (pc' := 776) (c0 := 1) C hX hbl hbA hj (by decide) hL (by decide) 4 0 rfl rfl dL_law_770 dL_law_771 dL_law_773 dL_law_774 dL_law_775 rfl ?_
  refine pt_arg (pc' := 782) (c0 := 2) C hX hbl hbA hj (by decide) hL (by decide) 4 0 rfl rfl dL_law_776 dL_law_777 dL_law_779 dL_law_780 dL_law_781 rfl ?_
  refine pt_arg (pc' := 788) (c0 := 3) C hX hbl hbA hj (by decide) hL (by decide) 4 0 rfl rfl dL_law_782 dL_law_783 dL_law_785 dL_law_786 dL_law_787 rfl ?_
  refine pt_arg (pc' := 794) (c0 := 4) C hX hbl hbA hj (by decide) hL (by decide) 4 0 rfl rfl dL_law_788 dL_law_789 dL_law_791 dL_law_792 dL_law_793 rfl ?_
  refine pt_cvIP (pc' := 797) (As := [.int (xs (5 * j + 1)), .int (xs (5 * j + 2)), .int (xs (5 * j + 3)), .int (xs (5 * j + 4))]) (rest := [_]) C.sub0 (mX7_work l D cA aM th n t k td g dr wk sv P M.1 M.2.1 M.2.2.1 M.2.2.2.1 M.2.2.2.2.1 M.2.2.2.2.2.1 M.2.2.2.2.2.2 (xs (5 * j + 1)) (xs (5 * j + 2)) (xs (5 * j + 3)) (xs (5 * j + 4)) hn hm hwk) (cwV 4 C.hts gL_law_X7_work rfl rfl rfl (by decide +kernel) ⟨Nat.le_of_ble_eq_true rfl, Nat.le_of_ble_eq_true rfl⟩) dL_law_794 rfl rfl rfl rfl rfl rfl (Nat.le_of_ble_eq_true rfl) hcs0 (pm_M _ _ _ _ _ _ _ _ _ _ _) (pm_M _ _ _ _ _ _ _ _ _ _ _).symm ?_
  refine pt_icmp_eq (tgt := 951) (pc' := 800) C dL_law_797 (by decide) rfl (fun _ => ?_) (fun h9 => absurd ?_ h9)
  · refine pt_wd (k := cells + 1) (n := slots + 6) (by omega) (by omega) ?_
    refine pt_eq (ws' := wLw cA cL aX aB aT aN aG aW aD aO aV aM ou n k g (cond (okWrk n wk (P 1) (xs (5 * j + 1)) (xs (5 * j + 2)) (xs (5 * j + 3)) (xs (5 * j + 4))) (1) t) td dr (cond (okWrk n wk (P 1) (xs (5 * j + 1)) (xs (5 * j + 2)) (xs (5 * j + 3)) (xs (5 * j + 4))) (wk + 1) wk) sv (cond (okWrk n wk (P 1) (xs (5 * j + 1)) (xs (5 * j + 2)) (xs (5 * j + 3)) (xs (5 * j + 4))) ((va_up (va_up (va_up (va_up P 12 (upd (P 12) wk (xs (5 * j + 1)))) 13 (upd (P 13) wk (xs (5 * j + 2)))) 14 (upd (P 14) wk (xs (5 * j + 3)))) 15 (upd (P 15) wk (xs (5 * j + 4))))) P) sz lk sd se sc ba pa ch T 0 M fo) (lv' := [(4, .int (nI (5 * j))), (3, .ref ou), (2, .ref (aM 0)), (1, .ref (aX 0)), (0, .ref b)]) (st' := []) (by cases okWrk n wk (P 1) (xs (5 * j + 1)) (xs (5 * j + 2)) (xs (5 * j + 3)) (xs (5 * j + 4)) <;> rfl) rfl rfl ?_
    refine K _ _ _ _ _ _ _ _ _ _ _ _ _ _ _ _ _ _ _ _ _ ?_
    cases hk : okWrk n wk (P 1) (xs (5 * j + 1)) (xs (5 * j + 2)) (xs (5 * j + 3)) (xs (5 * j + 4))
    · exact hI0
    · exact li_work hI0 hk
  · rfl
set_option maxHeartbeats 4000000 in
set_option maxRecDepth 100000 in
theorem lc_weeks {p : Program} {l : Launch} {e : Env} {s : State} {m : MethodId} {args : Array Value} {below : List Frame} {meth : Method} {c : Code} {Q : State → Prop} {D : va_G} {A : Nat → Prop} {cA cL : ClassId} {aX aB aT aN aG aW aD aO aV aM : Nat → Nat} {ou b j L cells slots : Nat} {xs : Nat → Int32} (C : pt_C p s m args c cL_law 7 wsL_law RL D [(cA, .int), (cL, .long)] A) (hX : va_X b L xs s s.heap) (hbl : b < s.heap.size) (hbA : ¬ A b) (hj : 5 * j + 5 ≤ L) (hL : L ≤ 2560) (hcs : cells + 1 ≤ room_1.cells ∧ slots + 6 ≤ room_1.slots) (K : lwK p l e s m args below meth c D A Q cA cL aX aB aT aN aG aW aD aO aV aM ou b j (cells + 1) (slots + 6) 951) : lwK p l e s m args below meth c D A Q cA cL aX aB aT aN aG aW aD aO aV aM ou b j cells slots 420 := by
  intro n k g t td dr wk sv P sz lk sd se sc ba pa ch T th M fo hI
  have hI0 := hI
  obtain ⟨⟨hn, hm, hgt, htd, hdr, hwk, hsv⟩, ⟨hS, hH⟩, ⟨hD, hU, hDw⟩, ⟨hB, hp, hrel⟩, ⟨ho, hoa⟩, hV, hnow, ht01, ht0⟩ := hI
  have hg : g ≤ 120 := Nat.le_trans hgt htd
  have hcs0 : cells ≤ room_1.cells ∧ slots ≤ room_1.slots := ⟨by omega, by omega⟩
  have hSg : ∀ w, w < g → P 7 w = 0 ∨ P 7 w = 1 ∨ P 7 w = 2 := fun w hw => hS w (Nat.lt_of_lt_of_le hw hgt)
  have hHg : ∀ w, w < g → heK (P 6) w := fun w hw => hH w (Nat.lt_of_lt_of_le hw hgt)
  have hrB : ∀ b, 1 ≤ b → b < n → relB (P 1) sz lk (P 1) (leM 0 (P 1) (P 2)) (P 3) b := fun b _ h => rel_0 (by omega) (hrel b (by omega))
  refine pt_aload_n (pc' := 421) C dL_law_420 rfl 3 rfl ?_
  refine pt_arg (pc' := 427) (c0 := 1) C hX hbl hbA hj (by decide) hL (by decide) 4 0 rfl rfl dL_law_421 dL_law_422 dL_law_424 dL_law_425 dL_law_426 rfl ?_
  refine pt_cvEP (pc' := 430) (As := [.int (xs (5 * j + 1))]) (rest := []) C.sub0 (mX6_weeks l D cA aX aB aT aN aG aW aD aO aV g t (P 16) n k (P 0) (P 4) (P 5) (P 1) sz lk sd se sc ba pa ch td (P 6) (P 7) (xs (5 * j + 1)) hn hm hgt htd hS) (cwV 1 C.hts gL_law_X6_weeks rfl rfl rfl (by decide +kernel) ⟨Nat.le_of_ble_eq_true rfl, Nat.le_of_ble_eq_true rfl⟩) dL_law_427 rfl rfl rfl rfl rfl rfl (Nat.le_of_ble_eq_true rfl) hcs0 (pm_XBNW _ _ _ _ _ _ _ _ _ _ _) (fun _ => (pm_XBNW _ _ _ _ _ _ _ _ _ _ _).symm) (fun uc => ?_)
  refine pt_aload_n (pc' := 431) C dL_law_430 rfl 2 rfl ?_
  refine pt_arg (pc' := 437) (c0 := 1) C hX hbl hbA hj (by decide) hL (by decide) 4 0 rfl rfl dL_law_431 dL_law_432 dL_law_434 dL_law_435 dL_law_436 rfl ?_
  refine pt_cvIP (pc' := 440) (As := [.int (xs (5 * j + 1))]) (rest := [_]) C.sub0 (mX7_weeks l D cA aM th n t k td g dr wk sv P M.1 M.2.1 M.2.2.1 M.2.2.2.1 M.2.2.2.2.1 M.2.2.2.2.2.1 M.2.2.2.2.2.2 (xs (5 * j + 1)) hgt htd) (cwV 1 C.hts gL_law_X7_weeks rfl rfl rfl (by decide +kernel) ⟨Nat.le_of_ble_eq_true rfl, Nat.le_of_ble_eq_true rfl⟩) dL_law_437 rfl rfl rfl rfl rfl rfl (Nat.le_of_ble_eq_true rfl) hcs0 (pm_M _ _ _ _ _ _ _ _ _ _ _) (pm_M _ _ _ _ _ _ _ _ _ _ _).symm ?_
  refine pt_icmp_eq (tgt := 951) (pc' := 443) C dL_law_440 (by decide) rfl (fun _ => ?_) (fun h9 => absurd ?_ h9)
  · refine pt_wd (k := cells + 1) (n := slots + 6) (by omega) (by omega) ?_
    refine pt_eq (ws' := wLw cA cL aX aB aT aN aG aW aD aO aV aM ou n k (cond (okWks td g (xs (5 * j + 1))) (g + (xs (5 * j + 1)).toNatClampNeg) g) t td dr wk sv P sz lk (cond (okWks td g (xs (5 * j + 1))) ((itf (nwY n k (P 4) (P 5) (P 1) sz lk (P 6) (P 7)) g (xs (5 * j + 1)).toNatClampNeg (sd, se, sc, ba, pa)).1) sd) (cond (okWks td g (xs (5 * j + 1))) ((itf (nwY n k (P 4) (P 5) (P 1) sz lk (P 6) (P 7)) g (xs (5 * j + 1)).toNatClampNeg (sd, se, sc, ba, pa)).2.1) se) (cond (okWks td g (xs (5 * j + 1))) ((itf (nwY n k (P 4) (P 5) (P 1) sz lk (P 6) (P 7)) g (xs (5 * j + 1)).toNatClampNeg (sd, se, sc, ba, pa)).2.2.1) sc) (cond (okWks td g (xs (5 * j + 1))) ((itf (nwY n k (P 4) (P 5) (P 1) sz lk (P 6) (P 7)) g (xs (5 * j + 1)).toNatClampNeg (sd, se, sc, ba, pa)).2.2.2.1) ba) (cond (okWks td g (xs (5 * j + 1))) ((itf (nwY n k (P 4) (P 5) (P 1) sz lk (P 6) (P 7)) g (xs (5 * j + 1)).toNatClampNeg (sd, se, sc, ba, pa)).2.2.2.2) pa) uc T 0 M fo) (lv' := [(4, .int (nI (5 * j))), (3, .ref ou), (2, .ref (aM 0)), (1, .ref (aX 0)), (0, .ref b)]) (st' := []) (by cases okWks td g (xs (5 * j + 1)) <;> rfl) rfl rfl ?_
    refine K _ _ _ _ _ _ _ _ _ _ _ _ _ _ _ _ _ _ _ _ _ ?_
    cases hk : okWks td g (xs (5 * j + 1))
    · exact hI0
    · exact li_weeks hI0 hk
  · rfl
set_option maxHeartbeats 4000000 in
set_option maxRecDepth 100000 in
theorem lc_dredge {p : Program} {l : Launch} {e : Env} {s : State} {m : MethodId} {args : Array Value} {below : List Frame} {meth : Method} {c : Code} {Q : State → Prop} {D : va_G} {A : Nat → Prop} {cA cL : ClassId} {aX aB aT aN aG aW aD aO aV aM : Nat → Nat} {ou b j L cells slots : Nat} {xs : Nat → Int32} (C : pt_C p s m args c cL_law 7 wsL_law RL D [(cA, .int), (cL, .long)] A) (hX : va_X b L xs s s.heap) (hbl : b < s.heap.size) (hbA : ¬ A b) (hj : 5 * j + 5 ≤ L) (hL : L ≤ 2560) (hcs : cells + 1 ≤ room_1.cells ∧ slots + 6 ≤ room_1.slots) (K : lwK p l e s m args below meth c D A Q cA cL aX aB aT aN aG aW aD aO aV aM ou b j (cells + 1) (slots + 6) 951) : lwK p l e s m args below meth c D A Q cA cL aX aB aT aN aG aW aD aO aV aM ou b j cells slots 445 := by
  intro n k g t td dr wk sv P sz lk sd se sc ba pa ch T th M fo hI
  have hI0 := hI
  obtain ⟨⟨hn, hm, hgt, htd, hdr, hwk, hsv⟩, ⟨hS, hH⟩, ⟨hD, hU, hDw⟩, ⟨hB, hp, hrel⟩, ⟨ho, hoa⟩, hV, hnow, ht01, ht0⟩ := hI
  have hg : g ≤ 120 := Nat.le_trans hgt htd
  have hcs0 : cells ≤ room_1.cells ∧ slots ≤ room_1.slots := ⟨by omega, by omega⟩
  have hSg : ∀ w, w < g → P 7 w = 0 ∨ P 7 w = 1 ∨ P 7 w = 2 := fun w hw => hS w (Nat.lt_of_lt_of_le hw hgt)
  have hHg : ∀ w, w < g → heK (P 6) w := fun w hw => hH w (Nat.lt_of_lt_of_le hw hgt)
  have hrB : ∀ b, 1 ≤ b → b < n → relB (P 1) sz lk (P 1) (leM 0 (P 1) (P 2)) (P 3) b := fun b _ h => rel_0 (by omega) (hrel b (by omega))
  have hte : cond (okDre n dr (P 1) (xs (5 * j + 1)) (xs (5 * j + 2)) (xs (5 * j + 3))) 1 t = t := by
    cases hk : okDre n dr (P 1) (xs (5 * j + 1)) (xs (5 * j + 2)) (xs (5 * j + 3))
    · rfl
    · exact (li_dredge hI0 hk).1.symm
  refine pt_aload_n (pc' := 446) C dL_law_445 rfl 3 rfl ?_
  refine pt_arg (pc' := 452) (c0 := 1) C hX hbl hbA hj (by decide) hL (by decide) 4 0 rfl rfl dL_law_446 dL_law_447 dL_law_449 dL_law_450 dL_law_451 rfl ?_
  refine pt_arg (pc' := 458) (c0 := 2) C hX hbl hbA hj (by decide) hL (by decide) 4 0 rfl rfl dL_law_452 dL_law_453 dL_law_455 dL_law_456 dL_law_457 rfl ?_
  refine pt_arg (pc' := 464) (c0 := 3) C hX hbl hbA hj (by decide) hL (by decide) 4 0 rfl rfl dL_law_458 dL_law_459 dL_law_461 dL_law_462 dL_law_463 rfl ?_
  refine pt_cvIP (pc' := 467) (As := [.int (xs (5 * j + 1)), .int (xs (5 * j + 2)), .int (xs (5 * j + 3))]) (rest := []) C.sub0 (mX6_dredge l D cA aX aB aT aN aG aW aD aO aV g t (P 16) n k (P 0) (P 4) (P 5) (P 1) sz lk sd se sc ba pa ch dr (P 8) (P 9) (P 10) (P 11) (xs (5 * j + 1)) (xs (5 * j + 2)) (xs (5 * j + 3)) hn hm hdr) (cwV 3 C.hts gL_law_X6_dredge rfl rfl rfl (by decide +kernel) ⟨Nat.le_of_ble_eq_true rfl, Nat.le_of_ble_eq_true rfl⟩) dL_law_464 rfl rfl rfl rfl rfl rfl (Nat.le_of_ble_eq_true rfl) hcs0 (pm_XBND _ _ _ _ _ _ _ _ _ _ _) (pm_XBND _ _ _ _ _ _ _ _ _ _ _).symm ?_
  refine pt_aload_n (pc' := 468) C dL_law_467 rfl 2 rfl ?_
  refine pt_arg (pc' := 474) (c0 := 1) C hX hbl hbA hj (by decide) hL (by decide) 4 0 rfl rfl dL_law_468 dL_law_469 dL_law_471 dL_law_472 dL_law_473 rfl ?_
  refine pt_arg (pc' := 480) (c0 := 2) C hX hbl hbA hj (by decide) hL (by decide) 4 0 rfl rfl dL_law_474 dL_law_475 dL_law_477 dL_law_478 dL_law_479 rfl ?_
  refine pt_arg (pc' := 486) (c0 := 3) C hX hbl hbA hj (by decide) hL (by decide) 4 0 rfl rfl dL_law_480 dL_law_481 dL_law_483 dL_law_484 dL_law_485 rfl ?_
  refine pt_cvEP (pc' := 489) (As := [.int (xs (5 * j + 1)), .int (xs (5 * j + 2)), .int (xs (5 * j + 3))]) (rest := [_]) C.sub0 (mX7_dredge l D cA aM th n t k td g dr wk sv P M.1 M.2.1 M.2.2.1 M.2.2.2.1 M.2.2.2.2.1 M.2.2.2.2.2.1 M.2.2.2.2.2.2 (xs (5 * j + 1)) (xs (5 * j + 2)) (xs (5 * j + 3)) (P 1) sz lk hn hm hg hSg hHg hdr hD hU hB hp hrB) (cwV 3 C.hts gL_law_X7_dredge rfl rfl rfl (by decide +kernel) ⟨Nat.le_of_ble_eq_true rfl, Nat.le_of_ble_eq_true rfl⟩) dL_law_486 rfl rfl rfl rfl rfl rfl (Nat.le_of_ble_eq_true rfl) hcs0 (pm_M _ _ _ _ _ _ _ _ _ _ _) (fun _ => (pm_M _ _ _ _ _ _ _ _ _ _ _).symm) (fun um => ?_)
  refine pt_icmp_eq (tgt := 951) (pc' := 492) C dL_law_489 (by decide) rfl (fun _ => ?_) (fun h9 => absurd ?_ h9)
  · refine pt_wd (k := cells + 1) (n := slots + 6) (by omega) (by omega) ?_
    refine pt_eq (ws' := wLw cA cL aX aB aT aN aG aW aD aO aV aM ou n k g t td (cond (okDre n dr (P 1) (xs (5 * j + 1)) (xs (5 * j + 2)) (xs (5 * j + 3))) (dr + 1) dr) wk sv (cond (okDre n dr (P 1) (xs (5 * j + 1)) (xs (5 * j + 2)) (xs (5 * j + 3))) ((va_up (va_up (va_up (va_up P 8 (upd (P 8) dr (xs (5 * j + 1)))) 9 (upd (P 9) dr (xs (5 * j + 2)))) 10 (upd (P 10) dr (xs (5 * j + 3)))) 11 (upd (P 11) dr (nI g)))) P) sz lk (cond (okDre n dr (P 1) (xs (5 * j + 1)) (xs (5 * j + 2)) (xs (5 * j + 3))) (bbS sd (xs (5 * j + 3)).toNatClampNeg (mn (xs (5 * j + 2)) (ba (xs (5 * j + 1)).toNatClampNeg))) sd) se sc (cond (okDre n dr (P 1) (xs (5 * j + 1)) (xs (5 * j + 2)) (xs (5 * j + 3))) (bbB ba (xs (5 * j + 1)).toNatClampNeg (mn (xs (5 * j + 2)) (ba (xs (5 * j + 1)).toNatClampNeg))) ba) pa ch T 0 um fo) (lv' := [(4, .int (nI (5 * j))), (3, .ref ou), (2, .ref (aM 0)), (1, .ref (aX 0)), (0, .ref b)]) (st' := []) (by rw [hte]; cases okDre n dr (P 1) (xs (5 * j + 1)) (xs (5 * j + 2)) (xs (5 * j + 3)) <;> rfl) rfl rfl ?_
    refine K _ _ _ _ _ _ _ _ _ _ _ _ _ _ _ _ _ _ _ _ _ ?_
    cases hk : okDre n dr (P 1) (xs (5 * j + 1)) (xs (5 * j + 2)) (xs (5 * j + 3))
    · exact hI0
    · exact (li_dredge hI0 hk).2
  · rw [← hnow]
    cases okDre n dr (P 1) (xs (5 * j + 1)) (xs (5 * j + 2)) (xs (5 * j + 3))
    · rfl
    · show mn (xs (5 * j + 2)) (ba (xs (5 * j + 1)).toNatClampNeg) = _
      rw [mn_ge]
      try rfl
