theorem mY7_week (l : Launch) (D : va_G) (cA : ClassId) (aM : Nat → Nat) (th : Int32) (n : Nat) (it : Int32) (k : Int32) (td : Nat) (gn : Nat) (dr : Nat) (wk : Nat) (sv : Nat) (P : Nat → Nat → Int32) (sd : Nat → Int32) (se : Nat → Int32) (sc : Nat → Int32) (ba : Nat → Int32) (pa : Nat → Int32) (le : Nat → Int32) (mo : Nat → Int32) (w : Nat) (kk : Int32) (kd : Nat → Int32) (sz : Nat → Int32) (lk : Nat → Int32) (hn : 2 ≤ n) (hm : n ≤ 12) (hw : w < 120) (hs : P 7 w = 0 ∨ P 7 w = 1 ∨ P 7 w = 2) (hrel : ∀ b, 1 ≤ b → b < n → relB kd sz lk (P 1) le (P 3) b) (hsd : ∀ i, i < n → 0 ≤ sd i) : mt_V l yX7_week wsX7_week { frames := 4, cells := 0, slots := 0, locals := 102 } D [(cA, .int)] [.ref (aM 0), .int (nI w), .int kk] (wM cA aM th n it k td gn dr wk sv P sd se sc ba pa le mo) (wM cA aM th n it k td gn dr wk sv P ((wkY n kk (P 4) (P 5) kd sz lk (P 6 w) (P 7 w) (sd, se, sc, ba, pa)).1) ((wkY n kk (P 4) (P 5) kd sz lk (P 6 w) (P 7 w) (sd, se, sc, ba, pa)).2.1) ((wkY n kk (P 4) (P 5) kd sz lk (P 6 w) (P 7 w) (sd, se, sc, ba, pa)).2.2.1) ((wkY n kk (P 4) (P 5) kd sz lk (P 6 w) (P 7 w) (sd, se, sc, ba, pa)).2.2.2.1) ((wkY n kk (P 4) (P 5) kd sz lk (P 6 w) (P 7 w) (sd, se, sc, ba, pa)).2.2.2.2) le ((wkM n kk P le w (sd, se, sc, ba, pa, mo)).2.2.2.2.2)) := by
  have e := mX7_week l D cA aM th n it k td gn dr wk sv P sd se sc ba pa le mo w kk hn hm hw hs
  obtain ⟨h1, h2, h3, h4, h5⟩ := wk_eq (k := kk) (w := w) hn hrel hsd se sc ba pa mo
  rw [h1, h2, h3, h4, h5] at e
  exact e

theorem mY7_dredged (l : Launch) (D : va_G) (cA : ClassId) (aM : Nat → Nat) (th : Int32) (n : Nat) (it : Int32) (k : Int32) (td : Nat) (gn : Nat) (dr : Nat) (wk : Nat) (sv : Nat) (P : Nat → Nat → Int32) (sd : Nat → Int32) (se : Nat → Int32) (sc : Nat → Int32) (ba : Nat → Int32) (pa : Nat → Int32) (le : Nat → Int32) (mo : Nat → Int32) (w : Int32) (q : Nat) (hq : q ≤ 20) (hD : ∀ i, i < q → dOk (P 8) (P 10) i) : mt_V l yX7_dredged wsX7_dredged { frames := 1, cells := 0, slots := 0, locals := 22 } D [(cA, .int)] [.ref (aM 0), .int w, .int (nI q)] (wM cA aM th n it k td gn dr wk sv P sd se sc ba pa le mo) (wM cA aM th n it k td gn dr wk sv P ((rdsX w q (P 8) (P 9) (P 10) (P 11) (sd, ba)).1) se sc ((rdsX w q (P 8) (P 9) (P 10) (P 11) (sd, ba)).2) pa le mo) := by
  have e := mX7_dredged l D cA aM th n it k td gn dr wk sv P sd se sc ba pa le mo w q hq hD
  rw [dgs_rds] at e
  exact e

set_option maxHeartbeats 4000000 in
set_option maxRecDepth 100000 in
theorem mY7_runs (l : Launch) (D : va_G) (cA : ClassId) (aM : Nat → Nat) (th : Int32) (n : Nat) (it : Int32) (k : Int32) (td : Nat) (gn : Nat) (dr : Nat) (wk : Nat) (sv : Nat) (P : Nat → Nat → Int32) (sd : Nat → Int32) (se : Nat → Int32) (sc : Nat → Int32) (ba : Nat → Int32) (pa : Nat → Int32) (le : Nat → Int32) (mo : Nat → Int32) (q : Nat) (wo : Int32) (kd : Nat → Int32) (sz : Nat → Int32) (lk : Nat → Int32) (hn : 2 ≤ n) (hm : n ≤ 12) (hq : q ≤ 120) (hS : ∀ w, w < q → P 7 w = 0 ∨ P 7 w = 1 ∨ P 7 w = 2) (hH : ∀ w, w < q → heK (P 6) w) (hr2 : dr ≤ 20) (hD : ∀ i, i < dr → dOk (P 8) (P 10) i) (hU : ∀ i, i < dr → dUk (P 9) i) (hB : ∀ i, i < 12 → 0 ≤ (P 0 i).toInt ∧ (P 0 i).toInt ≤ 99999) (hp : gdP k (P 4) (P 5) kd sz lk) (hrel : ∀ b, 1 ≤ b → b < n → relB kd sz lk (P 1) (leM wo (P 1) (P 2)) (P 3) b) : mt_VE l yX7_runs wsX7_runs { frames := 5, cells := 0, slots := 0, locals := 127 } D [(cA, .int)] [.ref (aM 0), .int (nI q), .int wo] (wM cA aM th n it k td gn dr wk sv P sd se sc ba pa le mo) (fun u : Nat → Int32 => wM cA aM th n it k td gn dr wk sv P ((rpY n k (P 0) (P 4) (P 5) kd sz lk (P 6) (P 7) dr (P 8) (P 9) (P 10) (P 11) q).1) ((rpY n k (P 0) (P 4) (P 5) kd sz lk (P 6) (P 7) dr (P 8) (P 9) (P 10) (P 11) q).2.1) ((rpY n k (P 0) (P 4) (P 5) kd sz lk (P 6) (P 7) dr (P 8) (P 9) (P 10) (P 11) q).2.2.1) ((rpY n k (P 0) (P 4) (P 5) kd sz lk (P 6) (P 7) dr (P 8) (P 9) (P 10) (P 11) q).2.2.2.1) ((rpY n k (P 0) (P 4) (P 5) kd sz lk (P 6) (P 7) dr (P 8) (P 9) (P 10) (P 11) q).2.2.2.2) (leM wo (P 1) (P 2)) u) := by
  refine mt_ofVE (cc := cX7_runs) (maxL := 4) (ret := none) (lv := [(0, .ref (aM 0)), (1, .int (nI q)), (2, .int wo)]) (by decide) rfl (Nat.le_of_ble_eq_true rfl) rfl ?_
  intro p e s m args below meth c A C hr hk
  have f_150 := C.hts (.fieldLink RX7 150 "ShoreFieldsModel" "dredges" "I") (by decide +kernel)
  have in_7 : ∀ w ∈ u_ws RX7 TX7 37, w ∈ wsX7_runs := by decide +kernel
  have f_35 := C.hts (.fieldLink RX7 35 "ShoreFieldsModel" "k0" "I") (by decide +kernel)
  refine pt_aload_n (pc' := 1) C dX7_runs_0 rfl 0 rfl ?_
  refine pt_iload_n (pc' := 2) C dX7_runs_1 rfl 2 rfl ?_
  refine pt_cvV0 (pc' := 5) (w1 := wM cA aM th n it k td gn dr wk sv P (P 0) (fun _ => 0) (fun _ => 0) (fun _ => 0) (fun _ => 0) (leM wo (P 1) (P 2)) mo) (As := [.int wo]) (rest := []) C (mX7_begins l D cA aM th n it k td gn dr wk sv P sd se sc ba pa le mo wo ) (cwV 1 C.hts gX7_runs_X7_begins rfl rfl rfl (by decide +kernel) ⟨Nat.le_of_ble_eq_true rfl, Nat.le_of_ble_eq_true rfl⟩) dX7_runs_2 rfl 0 rfl rfl rfl rfl rfl (Nat.le_of_ble_eq_true rfl) ⟨Nat.le_of_ble_eq_true rfl, Nat.le_of_ble_eq_true rfl⟩ ?_
  refine pt_aload_n (pc' := 6) C dX7_runs_5 rfl 0 rfl ?_
  refine pt_iconst (pc' := 7) C dX7_runs_6 rfl (v := 0) (by decide) ?_
  refine pt_aload_n (pc' := 8) C dX7_runs_7 rfl 0 rfl ?_
  refine pt_get (pc' := 11) C in_7 dX7_runs_8 rfl 0 14 rfl rfl (by decide) f_150 rfl ?_
  refine pt_cvV0 (pc' := 14) (w1 := wM cA aM th n it k td gn dr wk sv P ((rdsX 0 dr (P 8) (P 9) (P 10) (P 11) ((P 0), (fun _ => 0))).1) (fun _ => 0) (fun _ => 0) ((rdsX 0 dr (P 8) (P 9) (P 10) (P 11) ((P 0), (fun _ => 0))).2) (fun _ => 0) (leM wo (P 1) (P 2)) mo) (As := [.int 0, .int (nI dr)]) (rest := []) C (mY7_dredged l D cA aM th n it k td gn dr wk sv P (P 0) (fun _ => 0) (fun _ => 0) (fun _ => 0) (fun _ => 0) (leM wo (P 1) (P 2)) mo 0 dr (hr2) (hD)) (cwV 2 C.hts gX7_runs_X7_dredged rfl rfl rfl (by decide +kernel) ⟨Nat.le_of_ble_eq_true rfl, Nat.le_of_ble_eq_true rfl⟩) dX7_runs_11 rfl 0 rfl rfl rfl rfl rfl (Nat.le_of_ble_eq_true rfl) ⟨Nat.le_of_ble_eq_true rfl, Nat.le_of_ble_eq_true rfl⟩ ?_
  refine pt_iconst (pc' := 15) C dX7_runs_14 rfl (v := 0) (by decide) ?_
  refine pt_istore_n (pc' := 16) (lv' := [(3, .int 0), (0, .ref (aM 0)), (1, .int (nI q)), (2, .int wo)]) C dX7_runs_15 rfl rfl (by decide) rfl ?_
  refine pt_cv (ws' := wM cA aM th n it k td gn dr wk sv P ((rpY n k (P 0) (P 4) (P 5) kd sz lk (P 6) (P 7) dr (P 8) (P 9) (P 10) (P 11) 0).1) ((rpY n k (P 0) (P 4) (P 5) kd sz lk (P 6) (P 7) dr (P 8) (P 9) (P 10) (P 11) 0).2.1) ((rpY n k (P 0) (P 4) (P 5) kd sz lk (P 6) (P 7) dr (P 8) (P 9) (P 10) (P 11) 0).2.2.1) ((rpY n k (P 0) (P 4) (P 5) kd sz lk (P 6) (P 7) dr (P 8) (P 9) (P 10) (P 11) 0).2.2.2.1) ((rpY n k (P 0) (P 4) (P 5) kd sz lk (P 6) (P 7) dr (P 8) (P 9) (P 10) (P 11) 0).2.2.2.2) (leM wo (P 1) (P 2)) mo) (lv' := [(3, .int (nI 0)), (0, .ref (aM 0)), (1, .int (nI q)), (2, .int wo)]) (by rw [rds0 hU hD (fun i hi => (hB i hi).2)]; rfl) [0, 1, 2, 3] (rfl) rfl ?_
  refine pt_forE (wsf := fun j (u : Nat → Int32) => wM cA aM th n it k td gn dr wk sv P ((rpY n k (P 0) (P 4) (P 5) kd sz lk (P 6) (P 7) dr (P 8) (P 9) (P 10) (P 11) j).1) ((rpY n k (P 0) (P 4) (P 5) kd sz lk (P 6) (P 7) dr (P 8) (P 9) (P 10) (P 11) j).2.1) ((rpY n k (P 0) (P 4) (P 5) kd sz lk (P 6) (P 7) dr (P 8) (P 9) (P 10) (P 11) j).2.2.1) ((rpY n k (P 0) (P 4) (P 5) kd sz lk (P 6) (P 7) dr (P 8) (P 9) (P 10) (P 11) j).2.2.2.1) ((rpY n k (P 0) (P 4) (P 5) kd sz lk (P 6) (P 7) dr (P 8) (P 9) (P 10) (P 11) j).2.2.2.2) (leM wo (P 1) (P 2)) u) (lvf := fun j => [(3, .int (nI j)), (0, .ref (aM 0)), (1, .int (nI q)), (2, .int wo)]) (I := fun j => True) q (trivial) (fun hi_16 u_16 => ?_) (fun j hj_16 hi_16 ih_16 u_16 => ?_) mo
  rotate_left
  · refine pt_iload_n (pc' := 17) C dX7_runs_16 rfl 0 rfl ?_
    refine pt_iload_n (pc' := 18) C dX7_runs_17 rfl 2 rfl ?_
    refine pt_icmp_ge (pc' := 21) (tgt := 47) C dX7_runs_18 (by decide) rfl (fun h_18 => absurd h_18 (nI_ge hj_16 (by omega))) (fun h_18 => ?_)
    refine pt_aload_n (pc' := 22) C dX7_runs_21 rfl 1 rfl ?_
    refine pt_iload_n (pc' := 23) C dX7_runs_22 rfl 0 rfl ?_
    refine pt_aload_n (pc' := 24) C dX7_runs_23 rfl 1 rfl ?_
    refine pt_get (pc' := 27) C in_7 dX7_runs_24 rfl 0 9 rfl rfl (by decide) f_35 rfl ?_
    refine pt_cvV0 (pc' := 30) (w1 := wM cA aM th n it k td gn dr wk sv P ((wkY n k (P 4) (P 5) kd sz lk (P 6 j) (P 7 j) (((rpY n k (P 0) (P 4) (P 5) kd sz lk (P 6) (P 7) dr (P 8) (P 9) (P 10) (P 11) j).1), ((rpY n k (P 0) (P 4) (P 5) kd sz lk (P 6) (P 7) dr (P 8) (P 9) (P 10) (P 11) j).2.1), ((rpY n k (P 0) (P 4) (P 5) kd sz lk (P 6) (P 7) dr (P 8) (P 9) (P 10) (P 11) j).2.2.1), ((rpY n k (P 0) (P 4) (P 5) kd sz lk (P 6) (P 7) dr (P 8) (P 9) (P 10) (P 11) j).2.2.2.1), ((rpY n k (P 0) (P 4) (P 5) kd sz lk (P 6) (P 7) dr (P 8) (P 9) (P 10) (P 11) j).2.2.2.2))).1) ((wkY n k (P 4) (P 5) kd sz lk (P 6 j) (P 7 j) (((rpY n k (P 0) (P 4) (P 5) kd sz lk (P 6) (P 7) dr (P 8) (P 9) (P 10) (P 11) j).1), ((rpY n k (P 0) (P 4) (P 5) kd sz lk (P 6) (P 7) dr (P 8) (P 9) (P 10) (P 11) j).2.1), ((rpY n k (P 0) (P 4) (P 5) kd sz lk (P 6) (P 7) dr (P 8) (P 9) (P 10) (P 11) j).2.2.1), ((rpY n k (P 0) (P 4) (P 5) kd sz lk (P 6) (P 7) dr (P 8) (P 9) (P 10) (P 11) j).2.2.2.1), ((rpY n k (P 0) (P 4) (P 5) kd sz lk (P 6) (P 7) dr (P 8) (P 9) (P 10) (P 11) j).2.2.2.2))).2.1) ((wkY n k (P 4) (P 5) kd sz lk (P 6 j) (P 7 j) (((rpY n k (P 0) (P 4) (P 5) kd sz lk (P 6) (P 7) dr (P 8) (P 9) (P 10) (P 11) j).1), ((rpY n k (P 0) (P 4) (P 5) kd sz lk (P 6) (P 7) dr (P 8) (P 9) (P 10) (P 11) j).2.1), ((rpY n k (P 0) (P 4) (P 5) kd sz lk (P 6) (P 7) dr (P 8) (P 9) (P 10) (P 11) j).2.2.1), ((rpY n k (P 0) (P 4) (P 5) kd sz lk (P 6) (P 7) dr (P 8) (P 9) (P 10) (P 11) j).2.2.2.1), ((rpY n k (P 0) (P 4) (P 5) kd sz lk (P 6) (P 7) dr (P 8) (P 9) (P 10) (P 11) j).2.2.2.2))).2.2.1) ((wkY n k (P 4) (P 5) kd sz lk (P 6 j) (P 7 j) (((rpY n k (P 0) (P 4) (P 5) kd sz lk (P 6) (P 7) dr (P 8) (P 9) (P 10) (P 11) j).1), ((rpY n k (P 0) (P 4) (P 5) kd sz lk (P 6) (P 7) dr (P 8) (P 9) (P 10) (P 11) j).2.1), ((rpY n k (P 0) (P 4) (P 5) kd sz lk (P 6) (P 7) dr (P 8) (P 9) (P 10) (P 11) j).2.2.1), ((rpY n k (P 0) (P 4) (P 5) kd sz lk (P 6) (P 7) dr (P 8) (P 9) (P 10) (P 11) j).2.2.2.1), ((rpY n k (P 0) (P 4) (P 5) kd sz lk (P 6) (P 7) dr (P 8) (P 9) (P 10) (P 11) j).2.2.2.2))).2.2.2.1) ((wkY n k (P 4) (P 5) kd sz lk (P 6 j) (P 7 j) (((rpY n k (P 0) (P 4) (P 5) kd sz lk (P 6) (P 7) dr (P 8) (P 9) (P 10) (P 11) j).1), ((rpY n k (P 0) (P 4) (P 5) kd sz lk (P 6) (P 7) dr (P 8) (P 9) (P 10) (P 11) j).2.1), ((rpY n k (P 0) (P 4) (P 5) kd sz lk (P 6) (P 7) dr (P 8) (P 9) (P 10) (P 11) j).2.2.1), ((rpY n k (P 0) (P 4) (P 5) kd sz lk (P 6) (P 7) dr (P 8) (P 9) (P 10) (P 11) j).2.2.2.1), ((rpY n k (P 0) (P 4) (P 5) kd sz lk (P 6) (P 7) dr (P 8) (P 9) (P 10) (P 11) j).2.2.2.2))).2.2.2.2) (leM wo (P 1) (P 2)) ((wkM n k P (leM wo (P 1) (P 2)) j (((rpY n k (P 0) (P 4) (P 5) kd sz lk (P 6) (P 7) dr (P 8) (P 9) (P 10) (P 11) j).1), ((rpY n k (P 0) (P 4) (P 5) kd sz lk (P 6) (P 7) dr (P 8) (P 9) (P 10) (P 11) j).2.1), ((rpY n k (P 0) (P 4) (P 5) kd sz lk (P 6) (P 7) dr (P 8) (P 9) (P 10) (P 11) j).2.2.1), ((rpY n k (P 0) (P 4) (P 5) kd sz lk (P 6) (P 7) dr (P 8) (P 9) (P 10) (P 11) j).2.2.2.1), ((rpY n k (P 0) (P 4) (P 5) kd sz lk (P 6) (P 7) dr (P 8) (P 9) (P 10) (P 11) j).2.2.2.2), u_16)).2.2.2.2.2)) (As := [.int (nI j), .int k]) (rest := []) C (mY7_week l D cA aM th n it k td gn dr wk sv P ((rpY n k (P 0) (P 4) (P 5) kd sz lk (P 6) (P 7) dr (P 8) (P 9) (P 10) (P 11) j).1) ((rpY n k (P 0) (P 4) (P 5) kd sz lk (P 6) (P 7) dr (P 8) (P 9) (P 10) (P 11) j).2.1) ((rpY n k (P 0) (P 4) (P 5) kd sz lk (P 6) (P 7) dr (P 8) (P 9) (P 10) (P 11) j).2.2.1) ((rpY n k (P 0) (P 4) (P 5) kd sz lk (P 6) (P 7) dr (P 8) (P 9) (P 10) (P 11) j).2.2.2.1) ((rpY n k (P 0) (P 4) (P 5) kd sz lk (P 6) (P 7) dr (P 8) (P 9) (P 10) (P 11) j).2.2.2.2) (leM wo (P 1) (P 2)) u_16 j k kd sz lk (hn) (hm) (by omega) (hS j hj_16) (hrel) (fun i hi => nn_le ((rp_b hp hn hm hB hU hD j (by omega) (fun w hw => hH w (by omega))).1 i (by omega)).1)) (cwV 2 C.hts gX7_runs_X7_week rfl rfl rfl (by decide +kernel) ⟨Nat.le_of_ble_eq_true rfl, Nat.le_of_ble_eq_true rfl⟩) dX7_runs_27 rfl 0 rfl rfl rfl rfl rfl (Nat.le_of_ble_eq_true rfl) ⟨Nat.le_of_ble_eq_true rfl, Nat.le_of_ble_eq_true rfl⟩ ?_
    refine pt_aload_n (pc' := 31) C dX7_runs_30 rfl 1 rfl ?_
    refine pt_iload_n (pc' := 32) C dX7_runs_31 rfl 0 rfl ?_
    refine pt_iconst (pc' := 33) C dX7_runs_32 rfl (v := 1) (by decide) ?_
    refine pt_iadd (pc' := 34) C dX7_runs_33 rfl ?_
    refine pt_aload_n (pc' := 35) C dX7_runs_34 rfl 1 rfl ?_
    refine pt_get (pc' := 38) C in_7 dX7_runs_35 rfl 0 14 rfl rfl (by decide) f_150 rfl ?_
    refine pt_cvV0 (pc' := 41) (w1 := wM cA aM th n it k td gn dr wk sv P ((rdsX ((nI j) + 1) dr (P 8) (P 9) (P 10) (P 11) (((wkY n k (P 4) (P 5) kd sz lk (P 6 j) (P 7 j) (((rpY n k (P 0) (P 4) (P 5) kd sz lk (P 6) (P 7) dr (P 8) (P 9) (P 10) (P 11) j).1), ((rpY n k (P 0) (P 4) (P 5) kd sz lk (P 6) (P 7) dr (P 8) (P 9) (P 10) (P 11) j).2.1), ((rpY n k (P 0) (P 4) (P 5) kd sz lk (P 6) (P 7) dr (P 8) (P 9) (P 10) (P 11) j).2.2.1), ((rpY n k (P 0) (P 4) (P 5) kd sz lk (P 6) (P 7) dr (P 8) (P 9) (P 10) (P 11) j).2.2.2.1), ((rpY n k (P 0) (P 4) (P 5) kd sz lk (P 6) (P 7) dr (P 8) (P 9) (P 10) (P 11) j).2.2.2.2))).1), ((wkY n k (P 4) (P 5) kd sz lk (P 6 j) (P 7 j) (((rpY n k (P 0) (P 4) (P 5) kd sz lk (P 6) (P 7) dr (P 8) (P 9) (P 10) (P 11) j).1), ((rpY n k (P 0) (P 4) (P 5) kd sz lk (P 6) (P 7) dr (P 8) (P 9) (P 10) (P 11) j).2.1), ((rpY n k (P 0) (P 4) (P 5) kd sz lk (P 6) (P 7) dr (P 8) (P 9) (P 10) (P 11) j).2.2.1), ((rpY n k (P 0) (P 4) (P 5) kd sz lk (P 6) (P 7) dr (P 8) (P 9) (P 10) (P 11) j).2.2.2.1), ((rpY n k (P 0) (P 4) (P 5) kd sz lk (P 6) (P 7) dr (P 8) (P 9) (P 10) (P 11) j).2.2.2.2))).2.2.2.1))).1) ((wkY n k (P 4) (P 5) kd sz lk (P 6 j) (P 7 j) (((rpY n k (P 0) (P 4) (P 5) kd sz lk (P 6) (P 7) dr (P 8) (P 9) (P 10) (P 11) j).1), ((rpY n k (P 0) (P 4) (P 5) kd sz lk (P 6) (P 7) dr (P 8) (P 9) (P 10) (P 11) j).2.1), ((rpY n k (P 0) (P 4) (P 5) kd sz lk (P 6) (P 7) dr (P 8) (P 9) (P 10) (P 11) j).2.2.1), ((rpY n k (P 0) (P 4) (P 5) kd sz lk (P 6) (P 7) dr (P 8) (P 9) (P 10) (P 11) j).2.2.2.1), ((rpY n k (P 0) (P 4) (P 5) kd sz lk (P 6) (P 7) dr (P 8) (P 9) (P 10) (P 11) j).2.2.2.2))).2.1) ((wkY n k (P 4) (P 5) kd sz lk (P 6 j) (P 7 j) (((rpY n k (P 0) (P 4) (P 5) kd sz lk (P 6) (P 7) dr (P 8) (P 9) (P 10) (P 11) j).1), ((rpY n k (P 0) (P 4) (P 5) kd sz lk (P 6) (P 7) dr (P 8) (P 9) (P 10) (P 11) j).2.1), ((rpY n k (P 0) (P 4) (P 5) kd sz lk (P 6) (P 7) dr (P 8) (P 9) (P 10) (P 11) j).2.2.1), ((rpY n k (P 0) (P 4) (P 5) kd sz lk (P 6) (P 7) dr (P 8) (P 9) (P 10) (P 11) j).2.2.2.1), ((rpY n k (P 0) (P 4) (P 5) kd sz lk (P 6) (P 7) dr (P 8) (P 9) (P 10) (P 11) j).2.2.2.2))).2.2.1) ((rdsX ((nI j) + 1) dr (P 8) (P 9) (P 10) (P 11) (((wkY n k (P 4) (P 5) kd sz lk (P 6 j) (P 7 j) (((rpY n k (P 0) (P 4) (P 5) kd sz lk (P 6) (P 7) dr (P 8) (P 9) (P 10) (P 11) j).1), ((rpY n k (P 0) (P 4) (P 5) kd sz lk (P 6) (P 7) dr (P 8) (P 9) (P 10) (P 11) j).2.1), ((rpY n k (P 0) (P 4) (P 5) kd sz lk (P 6) (P 7) dr (P 8) (P 9) (P 10) (P 11) j).2.2.1), ((rpY n k (P 0) (P 4) (P 5) kd sz lk (P 6) (P 7) dr (P 8) (P 9) (P 10) (P 11) j).2.2.2.1), ((rpY n k (P 0) (P 4) (P 5) kd sz lk (P 6) (P 7) dr (P 8) (P 9) (P 10) (P 11) j).2.2.2.2))).1), ((wkY n k (P 4) (P 5) kd sz lk (P 6 j) (P 7 j) (((rpY n k (P 0) (P 4) (P 5) kd sz lk (P 6) (P 7) dr (P 8) (P 9) (P 10) (P 11) j).1), ((rpY n k (P 0) (P 4) (P 5) kd sz lk (P 6) (P 7) dr (P 8) (P 9) (P 10) (P 11) j).2.1), ((rpY n k (P 0) (P 4) (P 5) kd sz lk (P 6) (P 7) dr (P 8) (P 9) (P 10) (P 11) j).2.2.1), ((rpY n k (P 0) (P 4) (P 5) kd sz lk (P 6) (P 7) dr (P 8) (P 9) (P 10) (P 11) j).2.2.2.1), ((rpY n k (P 0) (P 4) (P 5) kd sz lk (P 6) (P 7) dr (P 8) (P 9) (P 10) (P 11) j).2.2.2.2))).2.2.2.1))).2) ((wkY n k (P 4) (P 5) kd sz lk (P 6 j) (P 7 j) (((rpY n k (P 0) (P 4) (P 5) kd sz lk (P 6) (P 7) dr (P 8) (P 9) (P 10) (P 11) j).1), ((rpY n k (P 0) (P 4) (P 5) kd sz lk (P 6) (P 7) dr (P 8) (P 9) (P 10) (P 11) j).2.1), ((rpY n k (P 0) (P 4) (P 5) kd sz lk (P 6) (P 7) dr (P 8) (P 9) (P 10) (P 11) j).2.2.1), ((rpY n k (P 0) (P 4) (P 5) kd sz lk (P 6) (P 7) dr (P 8) (P 9) (P 10) (P 11) j).2.2.2.1), ((rpY n k (P 0) (P 4) (P 5) kd sz lk (P 6) (P 7) dr (P 8) (P 9) (P 10) (P 11) j).2.2.2.2))).2.2.2.2) (leM wo (P 1) (P 2)) ((wkM n k P (leM wo (P 1) (P 2)) j (((rpY n k (P 0) (P 4) (P 5) kd sz lk (P 6) (P 7) dr (P 8) (P 9) (P 10) (P 11) j).1), ((rpY n k (P 0) (P 4) (P 5) kd sz lk (P 6) (P 7) dr (P 8) (P 9) (P 10) (P 11) j).2.1), ((rpY n k (P 0) (P 4) (P 5) kd sz lk (P 6) (P 7) dr (P 8) (P 9) (P 10) (P 11) j).2.2.1), ((rpY n k (P 0) (P 4) (P 5) kd sz lk (P 6) (P 7) dr (P 8) (P 9) (P 10) (P 11) j).2.2.2.1), ((rpY n k (P 0) (P 4) (P 5) kd sz lk (P 6) (P 7) dr (P 8) (P 9) (P 10) (P 11) j).2.2.2.2), u_16)).2.2.2.2.2)) (As := [.int ((nI j) + 1), .int (nI dr)]) (rest := []) C (mY7_dredged l D cA aM th n it k td gn dr wk sv P ((wkY n k (P 4) (P 5) kd sz lk (P 6 j) (P 7 j) (((rpY n k (P 0) (P 4) (P 5) kd sz lk (P 6) (P 7) dr (P 8) (P 9) (P 10) (P 11) j).1), ((rpY n k (P 0) (P 4) (P 5) kd sz lk (P 6) (P 7) dr (P 8) (P 9) (P 10) (P 11) j).2.1), ((rpY n k (P 0) (P 4) (P 5) kd sz lk (P 6) (P 7) dr (P 8) (P 9) (P 10) (P 11) j).2.2.1), ((rpY n k (P 0) (P 4) (P 5) kd sz lk (P 6) (P 7) dr (P 8) (P 9) (P 10) (P 11) j).2.2.2.1), ((rpY n k (P 0) (P 4) (P 5) kd sz lk (P 6) (P 7) dr (P 8) (P 9) (P 10) (P 11) j).2.2.2.2))).1) ((wkY n k (P 4) (P 5) kd sz lk (P 6 j) (P 7 j) (((rpY n k (P 0) (P 4) (P 5) kd sz lk (P 6) (P 7) dr (P 8) (P 9) (P 10) (P 11) j).1), ((rpY n k (P 0) (P 4) (P 5) kd sz lk (P 6) (P 7) dr (P 8) (P 9) (P 10) (P 11) j).2.1), ((rpY n k (P 0) (P 4) (P 5) kd sz lk (P 6) (P 7) dr (P 8) (P 9) (P 10) (P 11) j).2.2.1), ((rpY n k (P 0) (P 4) (P 5) kd sz lk (P 6) (P 7) dr (P 8) (P 9) (P 10) (P 11) j).2.2.2.1), ((rpY n k (P 0) (P 4) (P 5) kd sz lk (P 6) (P 7) dr (P 8) (P 9) (P 10) (P 11) j).2.2.2.2))).2.1) ((wkY n k (P 4) (P 5) kd sz lk (P 6 j) (P 7 j) (((rpY n k (P 0) (P 4) (P 5) kd sz lk (P 6) (P 7) dr (P 8) (P 9) (P 10) (P 11) j).1), ((rpY n k (P 0) (P 4) (P 5) kd sz lk (P 6) (P 7) dr (P 8) (P 9) (P 10) (P 11) j).2.1), ((rpY n k (P 0) (P 4) (P 5) kd sz lk (P 6) (P 7) dr (P 8) (P 9) (P 10) (P 11) j).2.2.1), ((rpY n k (P 0) (P 4) (P 5) kd sz lk (P 6) (P 7) dr (P 8) (P 9) (P 10) (P 11) j).2.2.2.1), ((rpY n k (P 0) (P 4) (P 5) kd sz lk (P 6) (P 7) dr (P 8) (P 9) (P 10) (P 11) j).2.2.2.2))).2.2.1) ((wkY n k (P 4) (P 5) kd sz lk (P 6 j) (P 7 j) (((rpY n k (P 0) (P 4) (P 5) kd sz lk (P 6) (P 7) dr (P 8) (P 9) (P 10) (P 11) j).1), ((rpY n k (P 0) (P 4) (P 5) kd sz lk (P 6) (P 7) dr (P 8) (P 9) (P 10) (P 11) j).2.1), ((rpY n k (P 0) (P 4) (P 5) kd sz lk (P 6) (P 7) dr (P 8) (P 9) (P 10) (P 11) j).2.2.1), ((rpY n k (P 0) (P 4) (P 5) kd sz lk (P 6) (P 7) dr (P 8) (P 9) (P 10) (P 11) j).2.2.2.1), ((rpY n k (P 0) (P 4) (P 5) kd sz lk (P 6) (P 7) dr (P 8) (P 9) (P 10) (P 11) j).2.2.2.2))).2.2.2.1) ((wkY n k (P 4) (P 5) kd sz lk (P 6 j) (P 7 j) (((rpY n k (P 0) (P 4) (P 5) kd sz lk (P 6) (P 7) dr (P 8) (P 9) (P 10) (P 11) j).1), ((rpY n k (P 0) (P 4) (P 5) kd sz lk (P 6) (P 7) dr (P 8) (P 9) (P 10) (P 11) j).2.1), ((rpY n k (P 0) (P 4) (P 5) kd sz lk (P 6) (P 7) dr (P 8) (P 9) (P 10) (P 11) j).2.2.1), ((rpY n k (P 0) (P 4) (P 5) kd sz lk (P 6) (P 7) dr (P 8) (P 9) (P 10) (P 11) j).2.2.2.1), ((rpY n k (P 0) (P 4) (P 5) kd sz lk (P 6) (P 7) dr (P 8) (P 9) (P 10) (P 11) j).2.2.2.2))).2.2.2.2) (leM wo (P 1) (P 2)) ((wkM n k P (leM wo (P 1) (P 2)) j (((rpY n k (P 0) (P 4) (P 5) kd sz lk (P 6) (P 7) dr (P 8) (P 9) (P 10) (P 11) j).1), ((rpY n k (P 0) (P 4) (P 5) kd sz lk (P 6) (P 7) dr (P 8) (P 9) (P 10) (P 11) j).2.1), ((rpY n k (P 0) (P 4) (P 5) kd sz lk (P 6) (P 7) dr (P 8) (P 9) (P 10) (P 11) j).2.2.1), ((rpY n k (P 0) (P 4) (P 5) kd sz lk (P 6) (P 7) dr (P 8) (P 9) (P 10) (P 11) j).2.2.2.1), ((rpY n k (P 0) (P 4) (P 5) kd sz lk (P 6) (P 7) dr (P 8) (P 9) (P 10) (P 11) j).2.2.2.2), u_16)).2.2.2.2.2) ((nI j) + 1) dr (hr2) (hD)) (cwV 2 C.hts gX7_runs_X7_dredged rfl rfl rfl (by decide +kernel) ⟨Nat.le_of_ble_eq_true rfl, Nat.le_of_ble_eq_true rfl⟩) dX7_runs_38 rfl 0 rfl rfl rfl rfl rfl (Nat.le_of_ble_eq_true rfl) ⟨Nat.le_of_ble_eq_true rfl, Nat.le_of_ble_eq_true rfl⟩ ?_
    refine pt_iinc (pc' := 44) (v := nI (j + 1)) (lv' := [(3, .int (nI (j + 1))), (0, .ref (aM 0)), (1, .int (nI q)), (2, .int wo)]) C dX7_runs_41 rfl 0 rfl (nI_1 _) (by decide) rfl ?_
    refine pt_goto (pc' := 16) C dX7_runs_44 (by decide) ?_
    exact pt_cv (rfl) [0, 1, 2, 3] (rfl) rfl (ih_16 (trivial) ((wkM n k P (leM wo (P 1) (P 2)) j (((rpY n k (P 0) (P 4) (P 5) kd sz lk (P 6) (P 7) dr (P 8) (P 9) (P 10) (P 11) j).1), ((rpY n k (P 0) (P 4) (P 5) kd sz lk (P 6) (P 7) dr (P 8) (P 9) (P 10) (P 11) j).2.1), ((rpY n k (P 0) (P 4) (P 5) kd sz lk (P 6) (P 7) dr (P 8) (P 9) (P 10) (P 11) j).2.2.1), ((rpY n k (P 0) (P 4) (P 5) kd sz lk (P 6) (P 7) dr (P 8) (P 9) (P 10) (P 11) j).2.2.2.1), ((rpY n k (P 0) (P 4) (P 5) kd sz lk (P 6) (P 7) dr (P 8) (P 9) (P 10) (P 11) j).2.2.2.2), u_16)).2.2.2.2.2))
  refine pt_iload_n (pc' := 17) C dX7_runs_16 rfl 0 rfl ?_
  refine pt_iload_n (pc' := 18) C dX7_runs_17 rfl 2 rfl ?_
  refine pt_icmp_ge (pc' := 21) (tgt := 47) C dX7_runs_18 (by decide) rfl (fun h_18 => ?_) (fun h_18 => absurd (nI_le (Nat.le_refl q) (by omega)) h_18)
  exact pt_vretE C hr hk dX7_runs_47 u_16 (rfl)

set_option maxHeartbeats 4000000 in
set_option maxRecDepth 100000 in
theorem mX7_lineWithout (l : Launch) (D : va_G) (cA : ClassId) (aM : Nat → Nat) (th : Int32) (n : Nat) (it : Int32) (k : Int32) (td : Nat) (gn : Nat) (dr : Nat) (wk : Nat) (sv : Nat) (P : Nat → Nat → Int32) (sd : Nat → Int32) (se : Nat → Int32) (sc : Nat → Int32) (ba : Nat → Int32) (pa : Nat → Int32) (le : Nat → Int32) (mo : Nat → Int32) (x : Int32) (f : Nat) (kd : Nat → Int32) (sz : Nat → Int32) (lk : Nat → Int32) (hn : 2 ≤ n) (hm : n ≤ 12) (hg : gn ≤ 120) (hS : ∀ w, w < gn → P 7 w = 0 ∨ P 7 w = 1 ∨ P 7 w = 2) (hH : ∀ w, w < gn → heK (P 6) w) (hr2 : dr ≤ 20) (hD : ∀ i, i < dr → dOk (P 8) (P 10) i) (hU : ∀ i, i < dr → dUk (P 9) i) (hB : ∀ i, i < 12 → 0 ≤ (P 0 i).toInt ∧ (P 0 i).toInt ≤ 99999) (hp : gdP k (P 4) (P 5) kd sz lk) (hrel : ∀ b, 1 ≤ b → b < n → relB kd sz lk (P 1) (leM x (P 1) (P 2)) (P 3) b) (hf : f < 12) : mt_IE l yX7_lineWithout wsX7_lineWithout { frames := 6, cells := 0, slots := 0, locals := 150 } D [(cA, .int)] [.ref (aM 0), .int x, .int (nI f)] (wM cA aM th n it k td gn dr wk sv P sd se sc ba pa le mo) (ln (rpY n k (P 0) (P 4) (P 5) kd sz lk (P 6) (P 7) dr (P 8) (P 9) (P 10) (P 11) gn).1 f) (fun u : S7 => wM cA aM th n it k td gn dr wk sv P u.1 u.2.1 u.2.2.1 u.2.2.2.1 u.2.2.2.2.1 u.2.2.2.2.2.1 u.2.2.2.2.2.2) := by
  refine mt_ofIE (cc := cX7_lineWithout) (maxL := 3) (ret := (some .int)) (lv := [(0, .ref (aM 0)), (1, .int x), (2, .int (nI f))]) (by decide) rfl (Nat.le_of_ble_eq_true rfl) rfl ?_
  intro p e s m args below meth c A C hr hk
  have f_117 := C.hts (.fieldLink RX7 117 "ShoreFieldsModel" "gone" "I") (by decide +kernel)
  have in_7 : ∀ w ∈ u_ws RX7 TX7 37, w ∈ wsX7_lineWithout := by decide +kernel
  have f_56 := C.hts (.fieldLink RX7 56 "ShoreFieldsModel" "sand" "[I") (by decide +kernel)
  refine pt_aload_n (pc' := 1) C dX7_lineWithout_0 rfl 0 rfl ?_
  refine pt_aload_n (pc' := 2) C dX7_lineWithout_1 rfl 0 rfl ?_
  refine pt_get (pc' := 5) C in_7 dX7_lineWithout_2 rfl 0 13 rfl rfl (by decide) f_117 rfl ?_
  refine pt_iload_n (pc' := 6) C dX7_lineWithout_5 rfl 1 rfl ?_
  refine pt_cvVE0 (pc' := 9) (w1 := fun (u_6 : Nat → Int32) => wM cA aM th n it k td gn dr wk sv P ((rpY n k (P 0) (P 4) (P 5) kd sz lk (P 6) (P 7) dr (P 8) (P 9) (P 10) (P 11) gn).1) ((rpY n k (P 0) (P 4) (P 5) kd sz lk (P 6) (P 7) dr (P 8) (P 9) (P 10) (P 11) gn).2.1) ((rpY n k (P 0) (P 4) (P 5) kd sz lk (P 6) (P 7) dr (P 8) (P 9) (P 10) (P 11) gn).2.2.1) ((rpY n k (P 0) (P 4) (P 5) kd sz lk (P 6) (P 7) dr (P 8) (P 9) (P 10) (P 11) gn).2.2.2.1) ((rpY n k (P 0) (P 4) (P 5) kd sz lk (P 6) (P 7) dr (P 8) (P 9) (P 10) (P 11) gn).2.2.2.2) (leM x (P 1) (P 2)) u_6) (As := [.int (nI gn), .int x]) (rest := []) C (mY7_runs l D cA aM th n it k td gn dr wk sv P sd se sc ba pa le mo gn x kd sz lk (hn) (hm) (hg) (hS) (hH) (hr2) (hD) (hU) (hB) (hp) (hrel)) (cwV 2 C.hts gX7_lineWithout_X7_runs rfl rfl rfl (by decide +kernel) ⟨Nat.le_of_ble_eq_true rfl, Nat.le_of_ble_eq_true rfl⟩) dX7_lineWithout_6 rfl 0 rfl rfl rfl rfl rfl (Nat.le_of_ble_eq_true rfl) ⟨Nat.le_of_ble_eq_true rfl, Nat.le_of_ble_eq_true rfl⟩ (fun u_6 => ?_)
  refine pt_aload_n (pc' := 10) C dX7_lineWithout_9 rfl 0 rfl ?_
  refine pt_get (pc' := 13) C in_7 dX7_lineWithout_10 rfl 0 19 rfl rfl (by decide) f_56 rfl ?_
  refine pt_iload_n (pc' := 14) C dX7_lineWithout_13 rfl 2 rfl ?_
  refine pt_iald (pc' := 15) C dX7_lineWithout_14 rfl 13 rfl rfl f (rfl) (by omega) (by decide) ?_
  refine pt_bipush (pc' := 17) C dX7_lineWithout_15 rfl (v := 10) (by decide) ?_
  refine pt_idiv (pc' := 18) C dX7_lineWithout_17 rfl (by decide) ?_
  exact pt_iretE C hr hk dX7_lineWithout_18 (rfl) (rfl) ((rpY n k (P 0) (P 4) (P 5) kd sz lk (P 6) (P 7) dr (P 8) (P 9) (P 10) (P 11) gn).1, (rpY n k (P 0) (P 4) (P 5) kd sz lk (P 6) (P 7) dr (P 8) (P 9) (P 10) (P 11) gn).2.1, (rpY n k (P 0) (P 4) (P 5) kd sz lk (P 6) (P 7) dr (P 8) (P 9) (P 10) (P 11) gn).2.2.1, (rpY n k (P 0) (P 4) (P 5) kd sz lk (P 6) (P 7) dr (P 8) (P 9) (P 10) (P 11) gn).2.2.2.1, (rpY n k (P 0) (P 4) (P 5) kd sz lk (P 6) (P 7) dr (P 8) (P 9) (P 10) (P 11) gn).2.2.2.2, leM x (P 1) (P 2), u_6) (rfl)

set_option maxHeartbeats 4000000 in
set_option maxRecDepth 100000 in
theorem mX7_areGroynes (l : Launch) (D : va_G) (cA : ClassId) (aM : Nat → Nat) (th : Int32) (n : Nat) (it : Int32) (k : Int32) (td : Nat) (gn : Nat) (dr : Nat) (wk : Nat) (sv : Nat) (P : Nat → Nat → Int32) (sd : Nat → Int32) (se : Nat → Int32) (sc : Nat → Int32) (ba : Nat → Int32) (pa : Nat → Int32) (le : Nat → Int32) (mo : Nat → Int32) (x : Int32) (hn : 2 ≤ n) (hm : n ≤ 12) : mt_I l yX7_areGroynes wsX7_areGroynes { frames := 2, cells := 0, slots := 0, locals := 43 } D [(cA, .int)] [.ref (aM 0), .int x] (wM cA aM th n it k td gn dr wk sv P sd se sc ba pa le mo) (bI (allB (agB n (P 1) x) 32)) (wM cA aM th n it k td gn dr wk sv P sd se sc ba pa le mo) := by
  refine mt_ofI (cc := cX7_areGroynes) (maxL := 4) (ret := (some .boolean)) (lv := [(0, .ref (aM 0)), (1, .int x)]) (by decide) rfl (Nat.le_of_ble_eq_true rfl) rfl ?_
  intro p e s m args below meth c A C hr hk
  have f_20 := C.hts (.fieldLink RX7 20 "ShoreFieldsModel" "kind" "[I") (by decide +kernel)
  have in_7 : ∀ w ∈ u_ws RX7 TX7 37, w ∈ wsX7_areGroynes := by decide +kernel
  refine pt_iconst (pc' := 1) C dX7_areGroynes_0 rfl (v := 1) (by decide) ?_
  refine pt_istore_n (pc' := 2) (lv' := [(2, .int 1), (0, .ref (aM 0)), (1, .int x)]) C dX7_areGroynes_1 rfl rfl (by decide) rfl ?_
  refine pt_iconst (pc' := 3) C dX7_areGroynes_2 rfl (v := 0) (by decide) ?_
  refine pt_istore_n (pc' := 4) (lv' := [(3, .int 0), (2, .int 1), (0, .ref (aM 0)), (1, .int x)]) C dX7_areGroynes_3 rfl rfl (by decide) rfl ?_
  refine pt_cv (ws' := wM cA aM th n it k td gn dr wk sv P sd se sc ba pa le mo) (lv' := [(3, .int (nI 0)), (2, .int (bI (allB (agB n (P 1) x) 0))), (0, .ref (aM 0)), (1, .int x)]) (rfl) [0, 1, 2, 3] (rfl) rfl ?_
  refine pt_for (wsf := fun j => wM cA aM th n it k td gn dr wk sv P sd se sc ba pa le mo) (lvf := fun j => [(3, .int (nI j)), (2, .int (bI (allB (agB n (P 1) x) j))), (0, .ref (aM 0)), (1, .int x)]) 32 ?_ (fun j hj_4 ih_4 => ?_)
  rotate_left
  · refine pt_iload_n (pc' := 5) C dX7_areGroynes_4 rfl 0 rfl ?_
    refine pt_bipush (pc' := 7) C dX7_areGroynes_5 rfl (v := 32) (by decide) ?_
    refine pt_icmp_ge (pc' := 10) (tgt := 58) C dX7_areGroynes_7 (by decide) rfl (fun h_7 => absurd h_7 (nI_ge hj_4 (by decide))) (fun h_7 => ?_)
    refine pt_iload_n (pc' := 11) C dX7_areGroynes_10 rfl 1 rfl ?_
    refine pt_if_eq (pc' := 14) (tgt := 50) C dX7_areGroynes_11 (by decide) rfl (fun h_11 => ?_) (fun h_11 => ?_)
    · refine pt_iconst (pc' := 51) C dX7_areGroynes_50 rfl (v := 0) (by decide) ?_
      refine pt_istore_n (pc' := 52) (lv' := [(2, .int 0), (3, .int (nI j)), (0, .ref (aM 0)), (1, .int x)]) C dX7_areGroynes_51 rfl rfl (by decide) rfl ?_
      refine pt_iinc (pc' := 55) (v := nI (j + 1)) (lv' := [(3, .int (nI (j + 1))), (2, .int 0), (0, .ref (aM 0)), (1, .int x)]) C dX7_areGroynes_52 rfl 1 rfl (nI_1 _) (by decide) rfl ?_
      refine pt_goto (pc' := 4) C dX7_areGroynes_55 (by decide) ?_
      exact pt_cv (rfl) [0, 1, 2, 3] (by simp only [allB, agB, bI_f h_11, bI, cond_false, cond_true, Bool.and_true, Bool.true_and, Bool.and_false, Bool.false_and]; rfl) rfl ih_4
    · refine pt_iload_n (pc' := 15) C dX7_areGroynes_14 rfl 3 rfl ?_
      refine pt_iload_n (pc' := 16) C dX7_areGroynes_15 rfl 0 rfl ?_
      refine pt_ishr (pc' := 17) C dX7_areGroynes_16 rfl ?_
      refine pt_iconst (pc' := 18) C dX7_areGroynes_17 rfl (v := 1) (by decide) ?_
      refine pt_iand (pc' := 19) C dX7_areGroynes_18 rfl ?_
      refine pt_if_eq (pc' := 22) (tgt := 46) C dX7_areGroynes_19 (by decide) rfl (fun h_19 => ?_) (fun h_19 => ?_)
      · refine pt_iconst (pc' := 47) C dX7_areGroynes_46 rfl (v := 1) (by decide) ?_
        refine pt_goto (pc' := 51) C dX7_areGroynes_47 (by decide) ?_
        refine pt_istore_n (pc' := 52) (lv' := [(2, .int 1), (3, .int (nI j)), (0, .ref (aM 0)), (1, .int x)]) C dX7_areGroynes_51 rfl rfl (by decide) rfl ?_
        refine pt_iinc (pc' := 55) (v := nI (j + 1)) (lv' := [(3, .int (nI (j + 1))), (2, .int 1), (0, .ref (aM 0)), (1, .int x)]) C dX7_areGroynes_52 rfl 1 rfl (nI_1 _) (by decide) rfl ?_
        refine pt_goto (pc' := 4) C dX7_areGroynes_55 (by decide) ?_
        exact pt_cv (rfl) [0, 1, 2, 3] (by simp only [allB, agB, bI_t h_11, if_pos h_19, bI, cond_false, cond_true, Bool.and_true, Bool.true_and, Bool.and_false, Bool.false_and]; rfl) rfl ih_4
      · refine pt_iload_n (pc' := 23) C dX7_areGroynes_22 rfl 0 rfl ?_
        refine pt_bipush (pc' := 25) C dX7_areGroynes_23 rfl (v := 13) (by decide) ?_
        refine pt_icmp_ge (pc' := 28) (tgt := 50) C dX7_areGroynes_25 (by decide) rfl (fun h_25 => ?_) (fun h_25 => ?_)
        · refine pt_iconst (pc' := 51) C dX7_areGroynes_50 rfl (v := 0) (by decide) ?_
          refine pt_istore_n (pc' := 52) (lv' := [(2, .int 0), (3, .int (nI j)), (0, .ref (aM 0)), (1, .int x)]) C dX7_areGroynes_51 rfl rfl (by decide) rfl ?_
          refine pt_iinc (pc' := 55) (v := nI (j + 1)) (lv' := [(3, .int (nI (j + 1))), (2, .int 0), (0, .ref (aM 0)), (1, .int x)]) C dX7_areGroynes_52 rfl 1 rfl (nI_1 _) (by decide) rfl ?_
          refine pt_goto (pc' := 4) C dX7_areGroynes_55 (by decide) ?_
          exact pt_cv (rfl) [0, 1, 2, 3] (by simp only [allB, agB, bI_t h_11, if_neg h_19, if_pos h_25, bI, cond_false, cond_true, Bool.and_true, Bool.true_and, Bool.and_false, Bool.false_and]; rfl) rfl ih_4
        · refine pt_aload_n (pc' := 29) C dX7_areGroynes_28 rfl 2 rfl ?_
          refine pt_iload_n (pc' := 30) C dX7_areGroynes_29 rfl 0 rfl ?_
          refine pt_cvI0 (pc' := 33) (w1 := wM cA aM th n it k td gn dr wk sv P sd se sc ba pa le mo) (As := [.int (nI j)]) (rest := []) C (mX7_isInner l D cA aM th n it k td gn dr wk sv P sd se sc ba pa le mo (nI j) (hn) (hm)) (cwV 1 C.hts gX7_areGroynes_X7_isInner rfl rfl rfl (by decide +kernel) ⟨Nat.le_of_ble_eq_true rfl, Nat.le_of_ble_eq_true rfl⟩) dX7_areGroynes_30 rfl 0 rfl rfl rfl rfl rfl (Nat.le_of_ble_eq_true rfl) ⟨Nat.le_of_ble_eq_true rfl, Nat.le_of_ble_eq_true rfl⟩ ?_
          refine pt_if_eq (pc' := 36) (tgt := 50) C dX7_areGroynes_33 (by decide) rfl (fun h_33 => ?_) (fun h_33 => ?_)
          · refine pt_iconst (pc' := 51) C dX7_areGroynes_50 rfl (v := 0) (by decide) ?_
            refine pt_istore_n (pc' := 52) (lv' := [(2, .int 0), (3, .int (nI j)), (0, .ref (aM 0)), (1, .int x)]) C dX7_areGroynes_51 rfl rfl (by decide) rfl ?_
            refine pt_iinc (pc' := 55) (v := nI (j + 1)) (lv' := [(3, .int (nI (j + 1))), (2, .int 0), (0, .ref (aM 0)), (1, .int x)]) C dX7_areGroynes_52 rfl 1 rfl (nI_1 _) (by decide) rfl ?_
            refine pt_goto (pc' := 4) C dX7_areGroynes_55 (by decide) ?_
            exact pt_cv (rfl) [0, 1, 2, 3] (by simp only [allB, agB, bI_t h_11, if_neg h_19, if_neg h_25, bI_f h_33, bI, cond_false, cond_true, Bool.and_true, Bool.true_and, Bool.and_false, Bool.false_and]; rfl) rfl ih_4
          · refine pt_aload_n (pc' := 37) C dX7_areGroynes_36 rfl 2 rfl ?_
            refine pt_get (pc' := 40) C in_7 dX7_areGroynes_37 rfl 0 4 rfl rfl (by decide) f_20 rfl ?_
            refine pt_iload_n (pc' := 41) C dX7_areGroynes_40 rfl 0 rfl ?_
            refine pt_iald (pc' := 42) C dX7_areGroynes_41 rfl 2 rfl rfl j (rfl) (lt13 hj_4 h_25) (by decide) ?_
            refine pt_iconst (pc' := 43) C dX7_areGroynes_42 rfl (v := 1) (by decide) ?_
            refine pt_icmp_ne (pc' := 46) (tgt := 50) C dX7_areGroynes_43 (by decide) rfl (fun h_43 => ?_) (fun h_43 => ?_)
            · refine pt_iconst (pc' := 51) C dX7_areGroynes_50 rfl (v := 0) (by decide) ?_
              refine pt_istore_n (pc' := 52) (lv' := [(2, .int 0), (3, .int (nI j)), (0, .ref (aM 0)), (1, .int x)]) C dX7_areGroynes_51 rfl rfl (by decide) rfl ?_
              refine pt_iinc (pc' := 55) (v := nI (j + 1)) (lv' := [(3, .int (nI (j + 1))), (2, .int 0), (0, .ref (aM 0)), (1, .int x)]) C dX7_areGroynes_52 rfl 1 rfl (nI_1 _) (by decide) rfl ?_
              refine pt_goto (pc' := 4) C dX7_areGroynes_55 (by decide) ?_
              exact pt_cv (rfl) [0, 1, 2, 3] (by simp only [allB, agB, bI_t h_11, if_neg h_19, if_neg h_25, bI_t h_33, if_neg h_43, bI, cond_false, cond_true, Bool.and_true, Bool.true_and, Bool.and_false, Bool.false_and]; rfl) rfl ih_4
            · refine pt_iconst (pc' := 47) C dX7_areGroynes_46 rfl (v := 1) (by decide) ?_
              refine pt_goto (pc' := 51) C dX7_areGroynes_47 (by decide) ?_
              refine pt_istore_n (pc' := 52) (lv' := [(2, .int 1), (3, .int (nI j)), (0, .ref (aM 0)), (1, .int x)]) C dX7_areGroynes_51 rfl rfl (by decide) rfl ?_
              refine pt_iinc (pc' := 55) (v := nI (j + 1)) (lv' := [(3, .int (nI (j + 1))), (2, .int 1), (0, .ref (aM 0)), (1, .int x)]) C dX7_areGroynes_52 rfl 1 rfl (nI_1 _) (by decide) rfl ?_
              refine pt_goto (pc' := 4) C dX7_areGroynes_55 (by decide) ?_
              exact pt_cv (rfl) [0, 1, 2, 3] (by simp only [allB, agB, bI_t h_11, if_neg h_19, if_neg h_25, bI_t h_33, if_pos h_43, bI, cond_false, cond_true, Bool.and_true, Bool.true_and, Bool.and_false, Bool.false_and]; rfl) rfl ih_4
  refine pt_iload_n (pc' := 5) C dX7_areGroynes_4 rfl 0 rfl ?_
  refine pt_bipush (pc' := 7) C dX7_areGroynes_5 rfl (v := 32) (by decide) ?_
  refine pt_icmp_ge (pc' := 10) (tgt := 58) C dX7_areGroynes_7 (by decide) rfl (fun h_7 => ?_) (fun h_7 => absurd (nI_le (Nat.le_refl 32) (by decide)) h_7)
  refine pt_iload_n (pc' := 59) C dX7_areGroynes_58 rfl 1 rfl ?_
  exact pt_iret C hr hk dX7_areGroynes_59 (bI_n _) (rfl) (rfl)

set_option maxHeartbeats 4000000 in
set_option maxRecDepth 100000 in
theorem mX7_bits (l : Launch) (D : va_G) (cA : ClassId) (x : Int32) : mt_I l yX7_bits wsX7_bits { frames := 0, cells := 0, slots := 0, locals := 0 } D [(cA, .int)] [.int x] ([]) (itz (btS x) 13 0) ([]) := by
  refine mt_ofI (cc := cX7_bits) (maxL := 3) (ret := (some .int)) (lv := [(0, .int x)]) (by decide) rfl (Nat.le_of_ble_eq_true rfl) rfl ?_
  intro p e s m args below meth c A C hr hk
  refine pt_iconst (pc' := 1) C dX7_bits_0 rfl (v := 0) (by decide) ?_
  refine pt_istore_n (pc' := 2) (lv' := [(1, .int 0), (0, .int x)]) C dX7_bits_1 rfl rfl (by decide) rfl ?_
  refine pt_iconst (pc' := 3) C dX7_bits_2 rfl (v := 0) (by decide) ?_
  refine pt_istore_n (pc' := 4) (lv' := [(2, .int 0), (1, .int 0), (0, .int x)]) C dX7_bits_3 rfl rfl (by decide) rfl ?_
  refine pt_cv (ws' := []) (lv' := [(2, .int (nI 0)), (1, .int (itz (btS x) 0 0)), (0, .int x)]) (rfl) [0, 1, 2] (rfl) rfl ?_
  refine pt_for (wsf := fun j => []) (lvf := fun j => [(2, .int (nI j)), (1, .int (itz (btS x) j 0)), (0, .int x)]) 13 ?_ (fun j hj_4 ih_4 => ?_)
  rotate_left
  · refine pt_iload_n (pc' := 5) C dX7_bits_4 rfl 0 rfl ?_
    refine pt_bipush (pc' := 7) C dX7_bits_5 rfl (v := 13) (by decide) ?_
    refine pt_icmp_ge (pc' := 10) (tgt := 24) C dX7_bits_7 (by decide) rfl (fun h_7 => absurd h_7 (nI_ge hj_4 (by decide))) (fun h_7 => ?_)
    refine pt_iload_n (pc' := 11) C dX7_bits_10 rfl 1 rfl ?_
    refine pt_iload_n (pc' := 12) C dX7_bits_11 rfl 2 rfl ?_
    refine pt_iload_n (pc' := 13) C dX7_bits_12 rfl 0 rfl ?_
    refine pt_ishr (pc' := 14) C dX7_bits_13 rfl ?_
    refine pt_iconst (pc' := 15) C dX7_bits_14 rfl (v := 1) (by decide) ?_
    refine pt_iand (pc' := 16) C dX7_bits_15 rfl ?_
    refine pt_iadd (pc' := 17) C dX7_bits_16 rfl ?_
    refine pt_istore_n (pc' := 18) (lv' := [(1, .int ((itz (btS x) j 0) + ((x >>> ((nI j) &&& 31)) &&& 1))), (2, .int (nI j)), (0, .int x)]) C dX7_bits_17 rfl rfl (by decide) rfl ?_
    refine pt_iinc (pc' := 21) (v := nI (j + 1)) (lv' := [(2, .int (nI (j + 1))), (1, .int ((itz (btS x) j 0) + ((x >>> ((nI j) &&& 31)) &&& 1))), (0, .int x)]) C dX7_bits_18 rfl 1 rfl (nI_1 _) (by decide) rfl ?_
    refine pt_goto (pc' := 4) C dX7_bits_21 (by decide) ?_
    exact pt_cv (rfl) [0, 1, 2] (rfl) rfl ih_4
  refine pt_iload_n (pc' := 5) C dX7_bits_4 rfl 0 rfl ?_
  refine pt_bipush (pc' := 7) C dX7_bits_5 rfl (v := 13) (by decide) ?_
  refine pt_icmp_ge (pc' := 10) (tgt := 24) C dX7_bits_7 (by decide) rfl (fun h_7 => ?_) (fun h_7 => absurd (nI_le (Nat.le_refl 13) (by decide)) h_7)
  refine pt_iload_n (pc' := 25) C dX7_bits_24 rfl 1 rfl ?_
  exact pt_iret C hr hk dX7_bits_25 (rfl) (rfl) (rfl)

set_option maxHeartbeats 4000000 in
set_option maxRecDepth 100000 in
theorem mX7_orders (l : Launch) (D : va_G) (cA : ClassId) (q : Nat) (hq : q < 100) : mt_I l yX7_orders wsX7_orders { frames := 0, cells := 0, slots := 0, locals := 0 } D [(cA, .int)] [.int (nI q)] ([]) (fac q) ([]) := by
  refine mt_ofI (cc := cX7_orders) (maxL := 3) (ret := (some .int)) (lv := [(0, .int (nI q))]) (by decide) rfl (Nat.le_of_ble_eq_true rfl) rfl ?_
  intro p e s m args below meth c A C hr hk
  refine pt_iconst (pc' := 1) C dX7_orders_0 rfl (v := 1) (by decide) ?_
  refine pt_istore_n (pc' := 2) (lv' := [(1, .int 1), (0, .int (nI q))]) C dX7_orders_1 rfl rfl (by decide) rfl ?_
  refine pt_iconst (pc' := 3) C dX7_orders_2 rfl (v := 2) (by decide) ?_
  refine pt_istore_n (pc' := 4) (lv' := [(2, .int 2), (1, .int 1), (0, .int (nI q))]) C dX7_orders_3 rfl rfl (by decide) rfl ?_
  refine pt_cv (ws' := []) (lv' := [(2, .int (nI (2 + 0))), (1, .int (itf faS 2 0 1)), (0, .int (nI q))]) (rfl) [0, 1, 2] (rfl) rfl ?_
  refine pt_for (wsf := fun j => []) (lvf := fun j => [(2, .int (nI (2 + j))), (1, .int (itf faS 2 j 1)), (0, .int (nI q))]) (q - 1) ?_ (fun j hj_4 ih_4 => ?_)
  rotate_left
  · refine pt_iload_n (pc' := 5) C dX7_orders_4 rfl 0 rfl ?_
    refine pt_iload_n (pc' := 6) C dX7_orders_5 rfl 2 rfl ?_
    refine pt_icmp_gt (pc' := 9) (tgt := 19) C dX7_orders_6 (by decide) rfl (fun h_6 => absurd h_6 (nI_nlt (show 2 + j ≤ q by omega) (by omega))) (fun h_6 => ?_)
    refine pt_iload_n (pc' := 10) C dX7_orders_9 rfl 1 rfl ?_
    refine pt_iload_n (pc' := 11) C dX7_orders_10 rfl 0 rfl ?_
    refine pt_imul (pc' := 12) C dX7_orders_11 rfl ?_
    refine pt_istore_n (pc' := 13) (lv' := [(1, .int ((itf faS 2 j 1) * (nI (2 + j)))), (2, .int (nI (2 + j))), (0, .int (nI q))]) C dX7_orders_12 rfl rfl (by decide) rfl ?_
    refine pt_iinc (pc' := 16) (v := nI (2 + (j + 1))) (lv' := [(2, .int (nI (2 + (j + 1)))), (1, .int ((itf faS 2 j 1) * (nI (2 + j)))), (0, .int (nI q))]) C dX7_orders_13 rfl 1 rfl (nI_1 _) (by decide) rfl ?_
    refine pt_goto (pc' := 4) C dX7_orders_16 (by decide) ?_
    exact pt_cv (rfl) [0, 1, 2] (rfl) rfl ih_4
  refine pt_iload_n (pc' := 5) C dX7_orders_4 rfl 0 rfl ?_
  refine pt_iload_n (pc' := 6) C dX7_orders_5 rfl 2 rfl ?_
  refine pt_icmp_gt (pc' := 9) (tgt := 19) C dX7_orders_6 (by decide) rfl (fun h_6 => ?_) (fun h_6 => absurd (nI_lt (show q < 2 + (q - 1) by omega) (by omega)) h_6)
  refine pt_iload_n (pc' := 20) C dX7_orders_19 rfl 1 rfl ?_
  exact pt_iret C hr hk dX7_orders_20 (rfl) (rfl) (rfl)

set_option maxHeartbeats 4000000 in
set_option maxRecDepth 100000 in
theorem mX7_areSo (l : Launch) (D : va_G) (cA : ClassId) (aM : Nat → Nat) (th : Int32) (n : Nat) (it : Int32) (k : Int32) (td : Nat) (gn : Nat) (dr : Nat) (wk : Nat) (sv : Nat) (P : Nat → Nat → Int32) (sd : Nat → Int32) (se : Nat → Int32) (sc : Nat → Int32) (ba : Nat → Int32) (pa : Nat → Int32) (le : Nat → Int32) (mo : Nat → Int32) (w : Int32) (hv : sv ≤ 20) (hV : ∀ i, i < sv → P 17 i = nI (P 17 i).toNatClampNeg ∧ (P 17 i).toNatClampNeg < 12) : mt_I l yX7_areSo wsX7_areSo { frames := 1, cells := 0, slots := 0, locals := 22 } D [(cA, .int)] [.ref (aM 0), .int w] (wM cA aM th n it k td gn dr wk sv P sd se sc ba pa le mo) (bI (allB (soB w (P 17) (P 18) (P 19) (P 20) sd) sv)) (wM cA aM th n it k td gn dr wk sv P sd se sc ba pa le mo) := by
  refine mt_ofI (cc := cX7_areSo) (maxL := 4) (ret := (some .boolean)) (lv := [(0, .ref (aM 0)), (1, .int w)]) (by decide) rfl (Nat.le_of_ble_eq_true rfl) rfl ?_
  intro p e s m args below meth c A C hr hk
  have f_181 := C.hts (.fieldLink RX7 181 "ShoreFieldsModel" "surveys" "I") (by decide +kernel)
  have in_7 : ∀ w ∈ u_ws RX7 TX7 37, w ∈ wsX7_areSo := by decide +kernel
  have f_95 := C.hts (.fieldLink RX7 95 "ShoreFieldsModel" "surveyOn" "[I") (by decide +kernel)
  have f_56 := C.hts (.fieldLink RX7 56 "ShoreFieldsModel" "sand" "[I") (by decide +kernel)
  have f_92 := C.hts (.fieldLink RX7 92 "ShoreFieldsModel" "surveyOf" "[I") (by decide +kernel)
  have f_98 := C.hts (.fieldLink RX7 98 "ShoreFieldsModel" "surveyLow" "[I") (by decide +kernel)
  have f_101 := C.hts (.fieldLink RX7 101 "ShoreFieldsModel" "surveyHigh" "[I") (by decide +kernel)
  refine pt_iconst (pc' := 1) C dX7_areSo_0 rfl (v := 1) (by decide) ?_
  refine pt_istore_n (pc' := 2) (lv' := [(2, .int 1), (0, .ref (aM 0)), (1, .int w)]) C dX7_areSo_1 rfl rfl (by decide) rfl ?_
  refine pt_iconst (pc' := 3) C dX7_areSo_2 rfl (v := 0) (by decide) ?_
  refine pt_istore_n (pc' := 4) (lv' := [(3, .int 0), (2, .int 1), (0, .ref (aM 0)), (1, .int w)]) C dX7_areSo_3 rfl rfl (by decide) rfl ?_
  refine pt_cv (ws' := wM cA aM th n it k td gn dr wk sv P sd se sc ba pa le mo) (lv' := [(3, .int (nI 0)), (2, .int (bI (allB (soB w (P 17) (P 18) (P 19) (P 20) sd) 0))), (0, .ref (aM 0)), (1, .int w)]) (rfl) [0, 1, 2, 3] (rfl) rfl ?_
  refine pt_for (wsf := fun j => wM cA aM th n it k td gn dr wk sv P sd se sc ba pa le mo) (lvf := fun j => [(3, .int (nI j)), (2, .int (bI (allB (soB w (P 17) (P 18) (P 19) (P 20) sd) j))), (0, .ref (aM 0)), (1, .int w)]) sv ?_ (fun j hj_4 ih_4 => ?_)
  rotate_left
  · refine pt_iload_n (pc' := 5) C dX7_areSo_4 rfl 0 rfl ?_
    refine pt_aload_n (pc' := 6) C dX7_areSo_5 rfl 2 rfl ?_
    refine pt_get (pc' := 9) C in_7 dX7_areSo_6 rfl 0 32 rfl rfl (by decide) f_181 rfl ?_
    refine pt_icmp_ge (pc' := 12) (tgt := 70) C dX7_areSo_9 (by decide) rfl (fun h_9 => absurd h_9 (nI_ge hj_4 (by omega))) (fun h_9 => ?_)
    refine pt_iload_n (pc' := 13) C dX7_areSo_12 rfl 1 rfl ?_
    refine pt_if_eq (pc' := 16) (tgt := 62) C dX7_areSo_13 (by decide) rfl (fun h_13 => ?_) (fun h_13 => ?_)
    · refine pt_iconst (pc' := 63) C dX7_areSo_62 rfl (v := 0) (by decide) ?_
      refine pt_istore_n (pc' := 64) (lv' := [(2, .int 0), (3, .int (nI j)), (0, .ref (aM 0)), (1, .int w)]) C dX7_areSo_63 rfl rfl (by decide) rfl ?_
      refine pt_iinc (pc' := 67) (v := nI (j + 1)) (lv' := [(3, .int (nI (j + 1))), (2, .int 0), (0, .ref (aM 0)), (1, .int w)]) C dX7_areSo_64 rfl 1 rfl (nI_1 _) (by decide) rfl ?_
      refine pt_goto (pc' := 4) C dX7_areSo_67 (by decide) ?_
      exact pt_cv (rfl) [0, 1, 2, 3] (by simp only [allB, soB, bI_f h_13, bI, cond_false, cond_true, Bool.and_true, Bool.true_and, Bool.and_false, Bool.false_and]; rfl) rfl ih_4
    · refine pt_aload_n (pc' := 17) C dX7_areSo_16 rfl 2 rfl ?_
      refine pt_get (pc' := 20) C in_7 dX7_areSo_17 rfl 0 34 rfl rfl (by decide) f_95 rfl ?_
      refine pt_iload_n (pc' := 21) C dX7_areSo_20 rfl 0 rfl ?_
      refine pt_iald (pc' := 22) C dX7_areSo_21 rfl 26 rfl rfl j (rfl) (by omega) (by decide) ?_
      refine pt_iload_n (pc' := 23) C dX7_areSo_22 rfl 3 rfl ?_
      refine pt_icmp_ne (pc' := 26) (tgt := 58) C dX7_areSo_23 (by decide) rfl (fun h_23 => ?_) (fun h_23 => ?_)
      · refine pt_iconst (pc' := 59) C dX7_areSo_58 rfl (v := 1) (by decide) ?_
        refine pt_goto (pc' := 63) C dX7_areSo_59 (by decide) ?_
        refine pt_istore_n (pc' := 64) (lv' := [(2, .int 1), (3, .int (nI j)), (0, .ref (aM 0)), (1, .int w)]) C dX7_areSo_63 rfl rfl (by decide) rfl ?_
        refine pt_iinc (pc' := 67) (v := nI (j + 1)) (lv' := [(3, .int (nI (j + 1))), (2, .int 1), (0, .ref (aM 0)), (1, .int w)]) C dX7_areSo_64 rfl 1 rfl (nI_1 _) (by decide) rfl ?_
        refine pt_goto (pc' := 4) C dX7_areSo_67 (by decide) ?_
        exact pt_cv (rfl) [0, 1, 2, 3] (by simp only [allB, soB, bI_t h_13, if_neg h_23, bI, cond_false, cond_true, Bool.and_true, Bool.true_and, Bool.and_false, Bool.false_and]; rfl) rfl ih_4
      · refine pt_aload_n (pc' := 27) C dX7_areSo_26 rfl 2 rfl ?_
        refine pt_get (pc' := 30) C in_7 dX7_areSo_27 rfl 0 19 rfl rfl (by decide) f_56 rfl ?_
        refine pt_aload_n (pc' := 31) C dX7_areSo_30 rfl 2 rfl ?_
        refine pt_get (pc' := 34) C in_7 dX7_areSo_31 rfl 0 33 rfl rfl (by decide) f_92 rfl ?_
        refine pt_iload_n (pc' := 35) C dX7_areSo_34 rfl 0 rfl ?_
        refine pt_iald (pc' := 36) C dX7_areSo_35 rfl 25 rfl rfl j (rfl) (by omega) (by decide) ?_
        refine pt_eq (st' := [.int (nI (P 17 j).toNatClampNeg), .ref (aM 13)]) rfl rfl (by rw [← (hV j hj_4).1]) ?_
        refine pt_iald (pc' := 37) C dX7_areSo_36 rfl 13 rfl rfl ((P 17 j).toNatClampNeg) (rfl) ((hV j hj_4).2) (by decide) ?_
        refine pt_bipush (pc' := 39) C dX7_areSo_37 rfl (v := 10) (by decide) ?_
        refine pt_idiv (pc' := 40) C dX7_areSo_39 rfl (by decide) ?_
        refine pt_aload_n (pc' := 41) C dX7_areSo_40 rfl 2 rfl ?_
        refine pt_get (pc' := 44) C in_7 dX7_areSo_41 rfl 0 35 rfl rfl (by decide) f_98 rfl ?_
        refine pt_iload_n (pc' := 45) C dX7_areSo_44 rfl 0 rfl ?_
        refine pt_iald (pc' := 46) C dX7_areSo_45 rfl 27 rfl rfl j (rfl) (by omega) (by decide) ?_
        refine pt_aload_n (pc' := 47) C dX7_areSo_46 rfl 2 rfl ?_
        refine pt_get (pc' := 50) C in_7 dX7_areSo_47 rfl 0 36 rfl rfl (by decide) f_101 rfl ?_
        refine pt_iload_n (pc' := 51) C dX7_areSo_50 rfl 0 rfl ?_
        refine pt_iald (pc' := 52) C dX7_areSo_51 rfl 28 rfl rfl j (rfl) (by omega) (by decide) ?_
        refine pt_csI0 (pc' := 55) (As := [.int ((sd ((P 17 j).toNatClampNeg)) / 10), .int ((P 19) j), .int ((P 20) j)]) (rest := []) C (mX7_within l D cA ((sd ((P 17 j).toNatClampNeg)) / 10) ((P 19) j) ((P 20) j) ) (va_cwS 3 C.hts gX7_areSo_X7_within rfl rfl rfl (by decide +kernel) ⟨Nat.le_of_ble_eq_true rfl, Nat.le_of_ble_eq_true rfl⟩) dX7_areSo_52 rfl rfl rfl (Nat.le_of_ble_eq_true rfl) ⟨Nat.le_of_ble_eq_true rfl, Nat.le_of_ble_eq_true rfl⟩ ?_
        refine pt_if_eq (pc' := 58) (tgt := 62) C dX7_areSo_55 (by decide) rfl (fun h_55 => ?_) (fun h_55 => ?_)
        · refine pt_iconst (pc' := 63) C dX7_areSo_62 rfl (v := 0) (by decide) ?_
          refine pt_istore_n (pc' := 64) (lv' := [(2, .int 0), (3, .int (nI j)), (0, .ref (aM 0)), (1, .int w)]) C dX7_areSo_63 rfl rfl (by decide) rfl ?_
          refine pt_iinc (pc' := 67) (v := nI (j + 1)) (lv' := [(3, .int (nI (j + 1))), (2, .int 0), (0, .ref (aM 0)), (1, .int w)]) C dX7_areSo_64 rfl 1 rfl (nI_1 _) (by decide) rfl ?_
          refine pt_goto (pc' := 4) C dX7_areSo_67 (by decide) ?_
          exact pt_cv (rfl) [0, 1, 2, 3] (by simp only [allB, soB, bI_t h_13, if_pos h_23, bI_f h_55, bI, cond_false, cond_true, Bool.and_true, Bool.true_and, Bool.and_false, Bool.false_and]; rfl) rfl ih_4
        · refine pt_iconst (pc' := 59) C dX7_areSo_58 rfl (v := 1) (by decide) ?_
          refine pt_goto (pc' := 63) C dX7_areSo_59 (by decide) ?_
          refine pt_istore_n (pc' := 64) (lv' := [(2, .int 1), (3, .int (nI j)), (0, .ref (aM 0)), (1, .int w)]) C dX7_areSo_63 rfl rfl (by decide) rfl ?_
          refine pt_iinc (pc' := 67) (v := nI (j + 1)) (lv' := [(3, .int (nI (j + 1))), (2, .int 1), (0, .ref (aM 0)), (1, .int w)]) C dX7_areSo_64 rfl 1 rfl (nI_1 _) (by decide) rfl ?_
          refine pt_goto (pc' := 4) C dX7_areSo_67 (by decide) ?_
          exact pt_cv (rfl) [0, 1, 2, 3] (by simp only [allB, soB, bI_t h_13, if_pos h_23, bI_t h_55, bI, cond_false, cond_true, Bool.and_true, Bool.true_and, Bool.and_false, Bool.false_and]; rfl) rfl ih_4
  refine pt_iload_n (pc' := 5) C dX7_areSo_4 rfl 0 rfl ?_
  refine pt_aload_n (pc' := 6) C dX7_areSo_5 rfl 2 rfl ?_
  refine pt_get (pc' := 9) C in_7 dX7_areSo_6 rfl 0 32 rfl rfl (by decide) f_181 rfl ?_
  refine pt_icmp_ge (pc' := 12) (tgt := 70) C dX7_areSo_9 (by decide) rfl (fun h_9 => ?_) (fun h_9 => absurd (nI_le (Nat.le_refl sv) (by omega)) h_9)
  refine pt_iload_n (pc' := 71) C dX7_areSo_70 rfl 1 rfl ?_
  exact pt_iret C hr hk dX7_areSo_71 (bI_n _) (rfl) (rfl)

set_option maxHeartbeats 4000000 in
set_option maxRecDepth 100000 in
theorem mX7_allSand (l : Launch) (D : va_G) (cA : ClassId) (aM : Nat → Nat) (th : Int32) (n : Nat) (it : Int32) (k : Int32) (td : Nat) (gn : Nat) (dr : Nat) (wk : Nat) (sv : Nat) (P : Nat → Nat → Int32) (sd : Nat → Int32) (se : Nat → Int32) (sc : Nat → Int32) (ba : Nat → Int32) (pa : Nat → Int32) (le : Nat → Int32) (mo : Nat → Int32) (kd : Nat → Int32) (sz : Nat → Int32) (lk : Nat → Int32) (hn : 2 ≤ n) (hm : n ≤ 12) (hg : gn ≤ 120) (hS : ∀ w, w < gn → P 7 w = 0 ∨ P 7 w = 1 ∨ P 7 w = 2) (hH : ∀ w, w < gn → heK (P 6) w) (hr2 : dr ≤ 20) (hD : ∀ i, i < dr → dOk (P 8) (P 10) i) (hU : ∀ i, i < dr → dUk (P 9) i) (hB : ∀ i, i < 12 → 0 ≤ (P 0 i).toInt ∧ (P 0 i).toInt ≤ 99999) (hp : gdP k (P 4) (P 5) kd sz lk) (hrel : ∀ b, 1 ≤ b → b < n → relB kd sz lk (P 1) (leM 0 (P 1) (P 2)) (P 3) b) : mt_IE l yX7_allSand wsX7_allSand { frames := 6, cells := 0, slots := 0, locals := 150 } D [(cA, .int)] [.ref (aM 0)] (wM cA aM th n it k td gn dr wk sv P sd se sc ba pa le mo) (itz (sbM (rpY n k (P 0) (P 4) (P 5) kd sz lk (P 6) (P 7) dr (P 8) (P 9) (P 10) (P 11) gn).2.2.2.1) 13 (itz (saM (rpY n k (P 0) (P 4) (P 5) kd sz lk (P 6) (P 7) dr (P 8) (P 9) (P 10) (P 11) gn).1 (rpY n k (P 0) (P 4) (P 5) kd sz lk (P 6) (P 7) dr (P 8) (P 9) (P 10) (P 11) gn).2.1) n 0)) (fun u : S7 => wM cA aM th n it k td gn dr wk sv P u.1 u.2.1 u.2.2.1 u.2.2.2.1 u.2.2.2.2.1 u.2.2.2.2.2.1 u.2.2.2.2.2.2) := by
  refine mt_ofIE (cc := cX7_allSand) (maxL := 3) (ret := (some .int)) (lv := [(0, .ref (aM 0))]) (by decide) rfl (Nat.le_of_ble_eq_true rfl) rfl ?_
  intro p e s m args below meth c A C hr hk
  have f_117 := C.hts (.fieldLink RX7 117 "ShoreFieldsModel" "gone" "I") (by decide +kernel)
  have in_7 : ∀ w ∈ u_ws RX7 TX7 37, w ∈ wsX7_allSand := by decide +kernel
  have f_13 := C.hts (.fieldLink RX7 13 "ShoreFieldsModel" "fields" "I") (by decide +kernel)
  have f_56 := C.hts (.fieldLink RX7 56 "ShoreFieldsModel" "sand" "[I") (by decide +kernel)
  have f_59 := C.hts (.fieldLink RX7 59 "ShoreFieldsModel" "sea" "[I") (by decide +kernel)
  have f_65 := C.hts (.fieldLink RX7 65 "ShoreFieldsModel" "bar" "[I") (by decide +kernel)
  refine pt_aload_n (pc' := 1) C dX7_allSand_0 rfl 0 rfl ?_
  refine pt_aload_n (pc' := 2) C dX7_allSand_1 rfl 0 rfl ?_
  refine pt_get (pc' := 5) C in_7 dX7_allSand_2 rfl 0 13 rfl rfl (by decide) f_117 rfl ?_
  refine pt_iconst (pc' := 6) C dX7_allSand_5 rfl (v := 0) (by decide) ?_
  refine pt_cvVE0 (pc' := 9) (w1 := fun (u_6 : Nat → Int32) => wM cA aM th n it k td gn dr wk sv P ((rpY n k (P 0) (P 4) (P 5) kd sz lk (P 6) (P 7) dr (P 8) (P 9) (P 10) (P 11) gn).1) ((rpY n k (P 0) (P 4) (P 5) kd sz lk (P 6) (P 7) dr (P 8) (P 9) (P 10) (P 11) gn).2.1) ((rpY n k (P 0) (P 4) (P 5) kd sz lk (P 6) (P 7) dr (P 8) (P 9) (P 10) (P 11) gn).2.2.1) ((rpY n k (P 0) (P 4) (P 5) kd sz lk (P 6) (P 7) dr (P 8) (P 9) (P 10) (P 11) gn).2.2.2.1) ((rpY n k (P 0) (P 4) (P 5) kd sz lk (P 6) (P 7) dr (P 8) (P 9) (P 10) (P 11) gn).2.2.2.2) (leM 0 (P 1) (P 2)) u_6) (As := [.int (nI gn), .int 0]) (rest := []) C (mY7_runs l D cA aM th n it k td gn dr wk sv P sd se sc ba pa le mo gn 0 kd sz lk (hn) (hm) (hg) (hS) (hH) (hr2) (hD) (hU) (hB) (hp) (hrel)) (cwV 2 C.hts gX7_allSand_X7_runs rfl rfl rfl (by decide +kernel) ⟨Nat.le_of_ble_eq_true rfl, Nat.le_of_ble_eq_true rfl⟩) dX7_allSand_6 rfl 0 rfl rfl rfl rfl rfl (Nat.le_of_ble_eq_true rfl) ⟨Nat.le_of_ble_eq_true rfl, Nat.le_of_ble_eq_true rfl⟩ (fun u_6 => ?_)
  refine pt_iconst (pc' := 10) C dX7_allSand_9 rfl (v := 0) (by decide) ?_
  refine pt_istore_n (pc' := 11) (lv' := [(1, .int 0), (0, .ref (aM 0))]) C dX7_allSand_10 rfl rfl (by decide) rfl ?_
  refine pt_iconst (pc' := 12) C dX7_allSand_11 rfl (v := 0) (by decide) ?_
  refine pt_istore_n (pc' := 13) (lv' := [(2, .int 0), (1, .int 0), (0, .ref (aM 0))]) C dX7_allSand_12 rfl rfl (by decide) rfl ?_
  refine pt_cv (ws' := wM cA aM th n it k td gn dr wk sv P ((rpY n k (P 0) (P 4) (P 5) kd sz lk (P 6) (P 7) dr (P 8) (P 9) (P 10) (P 11) gn).1) ((rpY n k (P 0) (P 4) (P 5) kd sz lk (P 6) (P 7) dr (P 8) (P 9) (P 10) (P 11) gn).2.1) ((rpY n k (P 0) (P 4) (P 5) kd sz lk (P 6) (P 7) dr (P 8) (P 9) (P 10) (P 11) gn).2.2.1) ((rpY n k (P 0) (P 4) (P 5) kd sz lk (P 6) (P 7) dr (P 8) (P 9) (P 10) (P 11) gn).2.2.2.1) ((rpY n k (P 0) (P 4) (P 5) kd sz lk (P 6) (P 7) dr (P 8) (P 9) (P 10) (P 11) gn).2.2.2.2) (leM 0 (P 1) (P 2)) u_6) (lv' := [(2, .int (nI 0)), (1, .int (itz (saM (rpY n k (P 0) (P 4) (P 5) kd sz lk (P 6) (P 7) dr (P 8) (P 9) (P 10) (P 11) gn).1 (rpY n k (P 0) (P 4) (P 5) kd sz lk (P 6) (P 7) dr (P 8) (P 9) (P 10) (P 11) gn).2.1) 0 0)), (0, .ref (aM 0))]) (rfl) [0, 1, 2] (rfl) rfl ?_
  refine pt_for (wsf := fun j => wM cA aM th n it k td gn dr wk sv P ((rpY n k (P 0) (P 4) (P 5) kd sz lk (P 6) (P 7) dr (P 8) (P 9) (P 10) (P 11) gn).1) ((rpY n k (P 0) (P 4) (P 5) kd sz lk (P 6) (P 7) dr (P 8) (P 9) (P 10) (P 11) gn).2.1) ((rpY n k (P 0) (P 4) (P 5) kd sz lk (P 6) (P 7) dr (P 8) (P 9) (P 10) (P 11) gn).2.2.1) ((rpY n k (P 0) (P 4) (P 5) kd sz lk (P 6) (P 7) dr (P 8) (P 9) (P 10) (P 11) gn).2.2.2.1) ((rpY n k (P 0) (P 4) (P 5) kd sz lk (P 6) (P 7) dr (P 8) (P 9) (P 10) (P 11) gn).2.2.2.2) (leM 0 (P 1) (P 2)) u_6) (lvf := fun j => [(2, .int (nI j)), (1, .int (itz (saM (rpY n k (P 0) (P 4) (P 5) kd sz lk (P 6) (P 7) dr (P 8) (P 9) (P 10) (P 11) gn).1 (rpY n k (P 0) (P 4) (P 5) kd sz lk (P 6) (P 7) dr (P 8) (P 9) (P 10) (P 11) gn).2.1) j 0)), (0, .ref (aM 0))]) n ?_ (fun j hj_13 ih_13 => ?_)
  rotate_left
  · refine pt_iload_n (pc' := 14) C dX7_allSand_13 rfl 0 rfl ?_
    refine pt_aload_n (pc' := 15) C dX7_allSand_14 rfl 2 rfl ?_
    refine pt_get (pc' := 18) C in_7 dX7_allSand_15 rfl 0 1 rfl rfl (by decide) f_13 rfl ?_
    refine pt_icmp_ge (pc' := 21) (tgt := 43) C dX7_allSand_18 (by decide) rfl (fun h_18 => absurd h_18 (nI_ge hj_13 (by omega))) (fun h_18 => ?_)
    refine pt_iload_n (pc' := 22) C dX7_allSand_21 rfl 1 rfl ?_
    refine pt_aload_n (pc' := 23) C dX7_allSand_22 rfl 2 rfl ?_
    refine pt_get (pc' := 26) C in_7 dX7_allSand_23 rfl 0 19 rfl rfl (by decide) f_56 rfl ?_
    refine pt_iload_n (pc' := 27) C dX7_allSand_26 rfl 0 rfl ?_
    refine pt_iald (pc' := 28) C dX7_allSand_27 rfl 13 rfl rfl j (rfl) (by omega) (by decide) ?_
    refine pt_aload_n (pc' := 29) C dX7_allSand_28 rfl 2 rfl ?_
    refine pt_get (pc' := 32) C in_7 dX7_allSand_29 rfl 0 20 rfl rfl (by decide) f_59 rfl ?_
    refine pt_iload_n (pc' := 33) C dX7_allSand_32 rfl 0 rfl ?_
    refine pt_iald (pc' := 34) C dX7_allSand_33 rfl 14 rfl rfl j (rfl) (by omega) (by decide) ?_
    refine pt_iadd (pc' := 35) C dX7_allSand_34 rfl ?_
    refine pt_iadd (pc' := 36) C dX7_allSand_35 rfl ?_
    refine pt_istore_n (pc' := 37) (lv' := [(1, .int ((itz (saM (rpY n k (P 0) (P 4) (P 5) kd sz lk (P 6) (P 7) dr (P 8) (P 9) (P 10) (P 11) gn).1 (rpY n k (P 0) (P 4) (P 5) kd sz lk (P 6) (P 7) dr (P 8) (P 9) (P 10) (P 11) gn).2.1) j 0) + ((((rpY n k (P 0) (P 4) (P 5) kd sz lk (P 6) (P 7) dr (P 8) (P 9) (P 10) (P 11) gn).1) j) + (((rpY n k (P 0) (P 4) (P 5) kd sz lk (P 6) (P 7) dr (P 8) (P 9) (P 10) (P 11) gn).2.1) j)))), (2, .int (nI j)), (0, .ref (aM 0))]) C dX7_allSand_36 rfl rfl (by decide) rfl ?_
    refine pt_iinc (pc' := 40) (v := nI (j + 1)) (lv' := [(2, .int (nI (j + 1))), (1, .int ((itz (saM (rpY n k (P 0) (P 4) (P 5) kd sz lk (P 6) (P 7) dr (P 8) (P 9) (P 10) (P 11) gn).1 (rpY n k (P 0) (P 4) (P 5) kd sz lk (P 6) (P 7) dr (P 8) (P 9) (P 10) (P 11) gn).2.1) j 0) + ((((rpY n k (P 0) (P 4) (P 5) kd sz lk (P 6) (P 7) dr (P 8) (P 9) (P 10) (P 11) gn).1) j) + (((rpY n k (P 0) (P 4) (P 5) kd sz lk (P 6) (P 7) dr (P 8) (P 9) (P 10) (P 11) gn).2.1) j)))), (0, .ref (aM 0))]) C dX7_allSand_37 rfl 1 rfl (nI_1 _) (by decide) rfl ?_
    refine pt_goto (pc' := 13) C dX7_allSand_40 (by decide) ?_
    exact pt_cv (rfl) [0, 1, 2] (rfl) rfl ih_13
  refine pt_iload_n (pc' := 14) C dX7_allSand_13 rfl 0 rfl ?_
  refine pt_aload_n (pc' := 15) C dX7_allSand_14 rfl 2 rfl ?_
  refine pt_get (pc' := 18) C in_7 dX7_allSand_15 rfl 0 1 rfl rfl (by decide) f_13 rfl ?_
  refine pt_icmp_ge (pc' := 21) (tgt := 43) C dX7_allSand_18 (by decide) rfl (fun h_18 => ?_) (fun h_18 => absurd (nI_le (Nat.le_refl n) (by omega)) h_18)
  refine pt_iconst (pc' := 44) C dX7_allSand_43 rfl (v := 0) (by decide) ?_
  refine pt_istore_n (pc' := 45) (lv' := [(2, .int 0), (1, .int (itz (saM (rpY n k (P 0) (P 4) (P 5) kd sz lk (P 6) (P 7) dr (P 8) (P 9) (P 10) (P 11) gn).1 (rpY n k (P 0) (P 4) (P 5) kd sz lk (P 6) (P 7) dr (P 8) (P 9) (P 10) (P 11) gn).2.1) n 0)), (0, .ref (aM 0))]) C dX7_allSand_44 rfl rfl (by decide) rfl ?_
  refine pt_cv (ws' := wM cA aM th n it k td gn dr wk sv P ((rpY n k (P 0) (P 4) (P 5) kd sz lk (P 6) (P 7) dr (P 8) (P 9) (P 10) (P 11) gn).1) ((rpY n k (P 0) (P 4) (P 5) kd sz lk (P 6) (P 7) dr (P 8) (P 9) (P 10) (P 11) gn).2.1) ((rpY n k (P 0) (P 4) (P 5) kd sz lk (P 6) (P 7) dr (P 8) (P 9) (P 10) (P 11) gn).2.2.1) ((rpY n k (P 0) (P 4) (P 5) kd sz lk (P 6) (P 7) dr (P 8) (P 9) (P 10) (P 11) gn).2.2.2.1) ((rpY n k (P 0) (P 4) (P 5) kd sz lk (P 6) (P 7) dr (P 8) (P 9) (P 10) (P 11) gn).2.2.2.2) (leM 0 (P 1) (P 2)) u_6) (lv' := [(2, .int (nI 0)), (1, .int (itz (sbM (rpY n k (P 0) (P 4) (P 5) kd sz lk (P 6) (P 7) dr (P 8) (P 9) (P 10) (P 11) gn).2.2.2.1) 0 (itz (saM (rpY n k (P 0) (P 4) (P 5) kd sz lk (P 6) (P 7) dr (P 8) (P 9) (P 10) (P 11) gn).1 (rpY n k (P 0) (P 4) (P 5) kd sz lk (P 6) (P 7) dr (P 8) (P 9) (P 10) (P 11) gn).2.1) n 0))), (0, .ref (aM 0))]) (rfl) [0, 1, 2] (rfl) rfl ?_
  refine pt_for (wsf := fun j => wM cA aM th n it k td gn dr wk sv P ((rpY n k (P 0) (P 4) (P 5) kd sz lk (P 6) (P 7) dr (P 8) (P 9) (P 10) (P 11) gn).1) ((rpY n k (P 0) (P 4) (P 5) kd sz lk (P 6) (P 7) dr (P 8) (P 9) (P 10) (P 11) gn).2.1) ((rpY n k (P 0) (P 4) (P 5) kd sz lk (P 6) (P 7) dr (P 8) (P 9) (P 10) (P 11) gn).2.2.1) ((rpY n k (P 0) (P 4) (P 5) kd sz lk (P 6) (P 7) dr (P 8) (P 9) (P 10) (P 11) gn).2.2.2.1) ((rpY n k (P 0) (P 4) (P 5) kd sz lk (P 6) (P 7) dr (P 8) (P 9) (P 10) (P 11) gn).2.2.2.2) (leM 0 (P 1) (P 2)) u_6) (lvf := fun j => [(2, .int (nI j)), (1, .int (itz (sbM (rpY n k (P 0) (P 4) (P 5) kd sz lk (P 6) (P 7) dr (P 8) (P 9) (P 10) (P 11) gn).2.2.2.1) j (itz (saM (rpY n k (P 0) (P 4) (P 5) kd sz lk (P 6) (P 7) dr (P 8) (P 9) (P 10) (P 11) gn).1 (rpY n k (P 0) (P 4) (P 5) kd sz lk (P 6) (P 7) dr (P 8) (P 9) (P 10) (P 11) gn).2.1) n 0))), (0, .ref (aM 0))]) 13 ?_ (fun j hj_45 ih_45 => ?_)
  rotate_left
  · refine pt_iload_n (pc' := 46) C dX7_allSand_45 rfl 0 rfl ?_
    refine pt_bipush (pc' := 48) C dX7_allSand_46 rfl (v := 13) (by decide) ?_
    refine pt_icmp_ge (pc' := 51) (tgt := 66) C dX7_allSand_48 (by decide) rfl (fun h_48 => absurd h_48 (nI_ge hj_45 (by decide))) (fun h_48 => ?_)
    refine pt_iload_n (pc' := 52) C dX7_allSand_51 rfl 1 rfl ?_
    refine pt_aload_n (pc' := 53) C dX7_allSand_52 rfl 2 rfl ?_
    refine pt_get (pc' := 56) C in_7 dX7_allSand_53 rfl 0 22 rfl rfl (by decide) f_65 rfl ?_
    refine pt_iload_n (pc' := 57) C dX7_allSand_56 rfl 0 rfl ?_
    refine pt_iald (pc' := 58) C dX7_allSand_57 rfl 16 rfl rfl j (rfl) (by omega) (by decide) ?_
    refine pt_iadd (pc' := 59) C dX7_allSand_58 rfl ?_
    refine pt_istore_n (pc' := 60) (lv' := [(1, .int ((itz (sbM (rpY n k (P 0) (P 4) (P 5) kd sz lk (P 6) (P 7) dr (P 8) (P 9) (P 10) (P 11) gn).2.2.2.1) j (itz (saM (rpY n k (P 0) (P 4) (P 5) kd sz lk (P 6) (P 7) dr (P 8) (P 9) (P 10) (P 11) gn).1 (rpY n k (P 0) (P 4) (P 5) kd sz lk (P 6) (P 7) dr (P 8) (P 9) (P 10) (P 11) gn).2.1) n 0)) + (((rpY n k (P 0) (P 4) (P 5) kd sz lk (P 6) (P 7) dr (P 8) (P 9) (P 10) (P 11) gn).2.2.2.1) j))), (2, .int (nI j)), (0, .ref (aM 0))]) C dX7_allSand_59 rfl rfl (by decide) rfl ?_
    refine pt_iinc (pc' := 63) (v := nI (j + 1)) (lv' := [(2, .int (nI (j + 1))), (1, .int ((itz (sbM (rpY n k (P 0) (P 4) (P 5) kd sz lk (P 6) (P 7) dr (P 8) (P 9) (P 10) (P 11) gn).2.2.2.1) j (itz (saM (rpY n k (P 0) (P 4) (P 5) kd sz lk (P 6) (P 7) dr (P 8) (P 9) (P 10) (P 11) gn).1 (rpY n k (P 0) (P 4) (P 5) kd sz lk (P 6) (P 7) dr (P 8) (P 9) (P 10) (P 11) gn).2.1) n 0)) + (((rpY n k (P 0) (P 4) (P 5) kd sz lk (P 6) (P 7) dr (P 8) (P 9) (P 10) (P 11) gn).2.2.2.1) j))), (0, .ref (aM 0))]) C dX7_allSand_60 rfl 1 rfl (nI_1 _) (by decide) rfl ?_
    refine pt_goto (pc' := 45) C dX7_allSand_63 (by decide) ?_
    exact pt_cv (rfl) [0, 1, 2] (rfl) rfl ih_45
  refine pt_iload_n (pc' := 46) C dX7_allSand_45 rfl 0 rfl ?_
  refine pt_bipush (pc' := 48) C dX7_allSand_46 rfl (v := 13) (by decide) ?_
  refine pt_icmp_ge (pc' := 51) (tgt := 66) C dX7_allSand_48 (by decide) rfl (fun h_48 => ?_) (fun h_48 => absurd (nI_le (Nat.le_refl 13) (by decide)) h_48)
  refine pt_iload_n (pc' := 67) C dX7_allSand_66 rfl 1 rfl ?_
  exact pt_iretE C hr hk dX7_allSand_67 (rfl) (rfl) ((rpY n k (P 0) (P 4) (P 5) kd sz lk (P 6) (P 7) dr (P 8) (P 9) (P 10) (P 11) gn).1, (rpY n k (P 0) (P 4) (P 5) kd sz lk (P 6) (P 7) dr (P 8) (P 9) (P 10) (P 11) gn).2.1, (rpY n k (P 0) (P 4) (P 5) kd sz lk (P 6) (P 7) dr (P 8) (P 9) (P 10) (P 11) gn).2.2.1, (rpY n k (P 0) (P 4) (P 5) kd sz lk (P 6) (P 7) dr (P 8) (P 9) (P 10) (P 11) gn).2.2.2.1, (rpY n k (P 0) (P 4) (P 5) kd sz lk (P 6) (P 7) dr (P 8) (P 9) (P 10) (P 11) gn).2.2.2.2, leM 0 (P 1) (P 2), u_6) (rfl)
