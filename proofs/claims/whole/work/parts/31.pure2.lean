/-! a week's passing: the class's equals the model's -/
theorem i32_ac1 (a c u : Int32) : a + c - u = a - u + c := by
  rw [Int32.sub_eq_add_neg, Int32.sub_eq_add_neg, Int32.add_assoc, Int32.add_comm c, Int32.add_assoc]
theorem i32_ac2 (a c v : Int32) : a + c + v = a + v + c := by
  rw [Int32.add_assoc, Int32.add_comm c, Int32.add_assoc]
theorem upd_i (f : Nat → Int32) (k i : Nat) (x : Int32) : upd f k x i = if i = k then x else f i := rfl
theorem step_c {n u d : Nat} {ch mo cc0 : Nat → Int32} (U V : Int32) (hu : u < n) (hd : d < n) (h : ∀ i, i < n → ch i = mo i + cc0 i) :
    ∀ i, i < n → upd (upd ch u (ch u - U)) d (upd ch u (ch u - U) d + V) i = upd (upd mo u (mo u - U)) d (upd mo u (mo u - U) d + V) i + cc0 i := by
  have h1 : ∀ i, i < n → upd ch u (ch u - U) i = upd mo u (mo u - U) i + cc0 i := by
    intro i hi
    rw [upd_i, upd_i]
    by_cases q : i = u
    · rw [if_pos q, if_pos q, q, h u hu, i32_ac1]
    · rw [if_neg q, if_neg q, h i hi]
  intro i hi
  rw [upd_i, upd_i _ d i]
  by_cases q : i = d
  · rw [if_pos q, if_pos q, q, h1 d hd, i32_ac2]
  · rw [if_neg q, if_neg q, h1 i hi]
theorem uF_lt {r : Bool} {b n : Nat} (h : b < n) : uF r b < n := by
  cases r
  · show b - 1 < n
    omega
  · exact h
theorem dF_lt {r : Bool} {b n : Nat} (h : b < n) : dF r b < n := by
  cases r
  · exact h
  · show b - 1 < n
    omega
theorem ps_eq {n : Nat} {k h : Int32} {sd wl kd sz lk kdM le pt : Nat → Int32} (r : Bool) (hrel : ∀ b, 1 ≤ b → b < n → relB kd sz lk kdM le pt b) (hsd : ∀ i, i < n → 0 ≤ sd i) {sc ba pX pM ch mo c0 : Nat → Int32} (hc : ∀ i, i < n → ch i = mo i + c0 i) :
    ∀ j, j ≤ n - 1 →
      (itf (psX r k h sd wl kd sz lk) 1 j (sc, ba, pX, ch)).1 = (itf (psM r h k sd wl kdM le pt) 1 j (sc, ba, pM, mo)).1 ∧
      (itf (psX r k h sd wl kd sz lk) 1 j (sc, ba, pX, ch)).2.1 = (itf (psM r h k sd wl kdM le pt) 1 j (sc, ba, pM, mo)).2.1 ∧
      (∀ i, (itf (psX r k h sd wl kd sz lk) 1 j (sc, ba, pX, ch)).2.2.1 i = if 1 ≤ i ∧ i ≤ j then stM r * unM r h k sd wl le pt i else pX i) ∧
      (∀ i, (itf (psM r h k sd wl kdM le pt) 1 j (sc, ba, pM, mo)).2.2.1 i = if 1 ≤ i ∧ i ≤ j then stM r * unM r h k sd wl le pt i else pM i) ∧
      (∀ i, i < n → (itf (psX r k h sd wl kd sz lk) 1 j (sc, ba, pX, ch)).2.2.2 i = (itf (psM r h k sd wl kdM le pt) 1 j (sc, ba, pM, mo)).2.2.2 i + c0 i) := by
  intro j
  induction j with
  | zero =>
    intro _
    refine ⟨rfl, rfl, fun i => ?_, fun i => ?_, hc⟩
    · rw [if_neg (by omega)]; rfl
    · rw [if_neg (by omega)]; rfl
  | succ j ih =>
    intro hj
    obtain ⟨h1, h2, h3, h4, h5⟩ := ih (by omega)
    rw [itf_s, itf_s]
    generalize itf (psX r k h sd wl kd sz lk) 1 j (sc, ba, pX, ch) = X at h1 h2 h3 h5 ⊢
    generalize itf (psM r h k sd wl kdM le pt) 1 j (sc, ba, pM, mo) = M at h1 h2 h4 h5 ⊢
    have hb : 1 + j < n := by omega
    have R := hrel (1 + j) (by omega) hb
    have hu : 0 ≤ sd (uF r (1 + j)) := hsd _ (uF_lt hb)
    have eU := uni_eq R r k h wl hu
    have eD := drv_eq R k h (d := dF r (1 + j)) hu
    refine ⟨?_, ?_, fun i => ?_, fun i => ?_, fun i hi => ?_⟩
    · show tkSc sd wl X.1 _ _ = goMc sd wl M.1 _ _
      rw [tkSc_go, h1, eD]
    · show upd X.2.1 (1 + j) (X.2.1 (1 + j) + kpt kd sz (1 + j) (uni r k h sd wl kd sz lk (1 + j))) = upd M.2.1 (1 + j) (M.2.1 (1 + j) + kpM kdM pt (1 + j) (unM r h k sd wl le pt (1 + j)))
      rw [h2, eU, kpt_eq R]
    · show upd X.2.2.1 (1 + j) (sgn r (uni r k h sd wl kd sz lk (1 + j))) i = _
      rw [upd_i, eU, sgn_st, h3]
      by_cases q : i = 1 + j
      · rw [if_pos q, if_pos (by omega), q]
      · rw [if_neg q]
        by_cases q2 : 1 ≤ i ∧ i ≤ j
        · rw [if_pos q2, if_pos (by omega)]
        · rw [if_neg q2, if_neg (by omega)]
    · show upd M.2.2.1 (1 + j) (stM r * unM r h k sd wl le pt (1 + j)) i = _
      rw [upd_i, h4]
      by_cases q : i = 1 + j
      · rw [if_pos q, if_pos (by omega), q]
      · rw [if_neg q]
        by_cases q2 : 1 ≤ i ∧ i ≤ j
        · rw [if_pos q2, if_pos (by omega)]
        · rw [if_neg q2, if_neg (by omega)]
    · have e1 : tkCh sd wl X.2.2.2 (uF r (1 + j)) (drv k h sd kd sz lk (uF r (1 + j)) (dF r (1 + j)) (1 + j)) = upd X.2.2.2 (uF r (1 + j)) (X.2.2.2 (uF r (1 + j)) - unM r h k sd wl le pt (1 + j)) := by
        rw [tkCh, ← eU, uni]
      show upd (tkCh sd wl X.2.2.2 (uF r (1 + j)) (drv k h sd kd sz lk (uF r (1 + j)) (dF r (1 + j)) (1 + j))) (dF r (1 + j)) (tkCh sd wl X.2.2.2 (uF r (1 + j)) (drv k h sd kd sz lk (uF r (1 + j)) (dF r (1 + j)) (1 + j)) (dF r (1 + j)) + (uni r k h sd wl kd sz lk (1 + j) - kpt kd sz (1 + j) (uni r k h sd wl kd sz lk (1 + j)))) i = upd (upd M.2.2.2 (uF r (1 + j)) (M.2.2.2 (uF r (1 + j)) - unM r h k sd wl le pt (1 + j))) (dF r (1 + j)) (upd M.2.2.2 (uF r (1 + j)) (M.2.2.2 (uF r (1 + j)) - unM r h k sd wl le pt (1 + j)) (dF r (1 + j)) + (unM r h k sd wl le pt (1 + j) - kpM kdM pt (1 + j) (unM r h k sd wl le pt (1 + j)))) i + c0 i
      rw [e1, eU, kpt_eq R]
      exact step_c _ _ (uF_lt hb) (dF_lt hb) h5 i hi
theorem pa_eq {n : Nat} {k h : Int32} {sd wl fd kd sz lk kdM le pt : Nat → Int32} (r : Bool) (hn : 2 ≤ n) (hrel : ∀ b, 1 ≤ b → b < n → relB kd sz lk kdM le pt b) (hsd : ∀ i, i < n → 0 ≤ sd i) (sc ba mo : Nat → Int32) :
    (paX r n k h sd wl fd kd sz lk (sc, ba, (fun _ => 0), (fun _ => 0))).1 = (paM r n h k sd wl fd kdM le pt (sc, ba, (fun _ => 0), mo)).1 ∧
    (paX r n k h sd wl fd kd sz lk (sc, ba, (fun _ => 0), (fun _ => 0))).2.1 = (paM r n h k sd wl fd kdM le pt (sc, ba, (fun _ => 0), mo)).2.1 ∧
    (paX r n k h sd wl fd kd sz lk (sc, ba, (fun _ => 0), (fun _ => 0))).2.2.1 = (paM r n h k sd wl fd kdM le pt (sc, ba, (fun _ => 0), mo)).2.2.1 ∧
    (∀ i, i < n → (paX r n k h sd wl fd kd sz lk (sc, ba, (fun _ => 0), (fun _ => 0))).2.2.2 i = (paM r n h k sd wl fd kdM le pt (sc, ba, (fun _ => 0), mo)).2.2.2 i) := by
  have hf0 : cond r (n - 1) 0 < n := by cases r <;> simp <;> omega
  have hl0 : cond r 0 (n - 1) < n := by cases r <;> simp <;> omega
  have hc : ∀ i, i < n → upd (fun _ => 0) (cond r (n - 1) 0) ((0 : Int32) + fdU k h fd (cond r 1 0)) i = flN n 0 mo i + (if i = cond r (n - 1) 0 then fdU k h fd (cond r 1 0) else 0) := by
    intro i hi
    rw [upd_i, flN, if_pos hi]
    by_cases q : i = cond r (n - 1) 0
    · rw [if_pos q, if_pos q]
    · rw [if_neg q, if_neg q, Int32.add_zero]
  obtain ⟨h1, h2, h3, h4, h5⟩ := ps_eq (k := k) (h := h) (wl := wl) (sc := sc) (ba := ba) (pX := upd (fun _ => 0) (cond r n 0) (sgn r (fdU k h fd (cond r 1 0)))) (pM := fun _ => 0) (ch := upd (fun _ => 0) (cond r (n - 1) 0) ((0 : Int32) + fdU k h fd (cond r 1 0))) (mo := flN n 0 mo) (c0 := fun i => if i = cond r (n - 1) 0 then fdU k h fd (cond r 1 0) else 0) r hrel hsd hc (n - 1) (Nat.le_refl _)
  show (goX r n k h sd wl (itf (psX r k h sd wl kd sz lk) 1 (n - 1) (sc, ba, upd (fun _ => 0) (cond r n 0) (sgn r (fdU k h fd (cond r 1 0))), upd (fun _ => 0) (cond r (n - 1) 0) ((0 : Int32) + fdU k h fd (cond r 1 0))))).1 = (enM r n h k sd wl fd (itf (psM r h k sd wl kdM le pt) 1 (n - 1) (sc, ba, (fun _ => 0), flN n 0 mo))).1 ∧
    (goX r n k h sd wl (itf (psX r k h sd wl kd sz lk) 1 (n - 1) (sc, ba, upd (fun _ => 0) (cond r n 0) (sgn r (fdU k h fd (cond r 1 0))), upd (fun _ => 0) (cond r (n - 1) 0) ((0 : Int32) + fdU k h fd (cond r 1 0))))).2.1 = (enM r n h k sd wl fd (itf (psM r h k sd wl kdM le pt) 1 (n - 1) (sc, ba, (fun _ => 0), flN n 0 mo))).2.1 ∧
    (goX r n k h sd wl (itf (psX r k h sd wl kd sz lk) 1 (n - 1) (sc, ba, upd (fun _ => 0) (cond r n 0) (sgn r (fdU k h fd (cond r 1 0))), upd (fun _ => 0) (cond r (n - 1) 0) ((0 : Int32) + fdU k h fd (cond r 1 0))))).2.2.1 = (enM r n h k sd wl fd (itf (psM r h k sd wl kdM le pt) 1 (n - 1) (sc, ba, (fun _ => 0), flN n 0 mo))).2.2.1 ∧
    (∀ i, i < n → (goX r n k h sd wl (itf (psX r k h sd wl kd sz lk) 1 (n - 1) (sc, ba, upd (fun _ => 0) (cond r n 0) (sgn r (fdU k h fd (cond r 1 0))), upd (fun _ => 0) (cond r (n - 1) 0) ((0 : Int32) + fdU k h fd (cond r 1 0))))).2.2.2 i = (enM r n h k sd wl fd (itf (psM r h k sd wl kdM le pt) 1 (n - 1) (sc, ba, (fun _ => 0), flN n 0 mo))).2.2.2 i)
  generalize itf (psX r k h sd wl kd sz lk) 1 (n - 1) (sc, ba, upd (fun _ => 0) (cond r n 0) (sgn r (fdU k h fd (cond r 1 0))), upd (fun _ => 0) (cond r (n - 1) 0) ((0 : Int32) + fdU k h fd (cond r 1 0))) = X at h1 h2 h3 h5 ⊢
  generalize itf (psM r h k sd wl kdM le pt) 1 (n - 1) (sc, ba, (fun _ => 0), flN n 0 mo) = M at h1 h2 h4 h5 ⊢
  refine ⟨?_, h2, ?_, fun i hi => ?_⟩
  · show tkSc sd wl X.1 _ _ = goMc sd wl M.1 _ _
    rw [tkSc_go, h1]
  · funext i
    show upd X.2.2.1 (cond r 0 n) (sgn r (tk sd wl (cond r 0 (n - 1)) (k * h))) i = upd (upd M.2.2.1 (cond r n 0) (stM r * (k * h * fd (cond r 1 0) / 100))) (cond r 0 n) (stM r * goM sd wl (cond r 0 (n - 1)) (k * h)) i
    rw [upd_i, upd_i, upd_i, h3, h4, upd_i, sgn_st, tk_go, sgn_st, fdU]
    by_cases q : i = cond r 0 n
    · rw [if_pos q, if_pos q]
    · rw [if_neg q, if_neg q]
      by_cases q2 : 1 ≤ i ∧ i ≤ n - 1
      · rw [if_pos q2, if_pos q2, if_neg]
        cases r
        · show ¬ i = 0
          omega
        · show ¬ i = n
          omega
      · rw [if_neg q2, if_neg q2]
  · show upd X.2.2.2 (cond r 0 (n - 1)) (X.2.2.2 (cond r 0 (n - 1)) - tk sd wl (cond r 0 (n - 1)) (k * h)) i = upd (upd M.2.2.2 (cond r (n - 1) 0) (M.2.2.2 (cond r (n - 1) 0) + k * h * fd (cond r 1 0) / 100)) (cond r 0 (n - 1)) (upd M.2.2.2 (cond r (n - 1) 0) (M.2.2.2 (cond r (n - 1) 0) + k * h * fd (cond r 1 0) / 100) (cond r 0 (n - 1)) - goM sd wl (cond r 0 (n - 1)) (k * h)) i
    have e1 : ∀ i, i < n → X.2.2.2 i = upd M.2.2.2 (cond r (n - 1) 0) (M.2.2.2 (cond r (n - 1) 0) + k * h * fd (cond r 1 0) / 100) i := by
      intro i hi
      rw [h5 i hi, upd_i]
      by_cases q : i = cond r (n - 1) 0
      · rw [if_pos q, if_pos q, q, fdU]
      · rw [if_neg q, if_neg q, Int32.add_zero]
    rw [upd_i, upd_i _ (cond r 0 (n - 1)) i, tk_go]
    by_cases q : i = cond r 0 (n - 1)
    · rw [if_pos q, if_pos q, e1 _ hl0]
    · rw [if_neg q, if_neg q, e1 i hi]
/-- a week of the model is a week of the class -/
theorem wk_eq {n : Nat} {k : Int32} {P : Nat → Nat → Int32} {kd sz lk le : Nat → Int32} {w : Nat} (hn : 2 ≤ n) (hrel : ∀ b, 1 ≤ b → b < n → relB kd sz lk (P 1) le (P 3) b) {sd : Nat → Int32} (hsd : ∀ i, i < n → 0 ≤ sd i) (se sc ba pa mo : Nat → Int32) :
    (wkM n k P le w (sd, se, sc, ba, pa, mo)).1 = (wkY n k (P 4) (P 5) kd sz lk (P 6 w) (P 7 w) (sd, se, sc, ba, pa)).1 ∧
    (wkM n k P le w (sd, se, sc, ba, pa, mo)).2.1 = (wkY n k (P 4) (P 5) kd sz lk (P 6 w) (P 7 w) (sd, se, sc, ba, pa)).2.1 ∧
    (wkM n k P le w (sd, se, sc, ba, pa, mo)).2.2.1 = (wkY n k (P 4) (P 5) kd sz lk (P 6 w) (P 7 w) (sd, se, sc, ba, pa)).2.2.1 ∧
    (wkM n k P le w (sd, se, sc, ba, pa, mo)).2.2.2.1 = (wkY n k (P 4) (P 5) kd sz lk (P 6 w) (P 7 w) (sd, se, sc, ba, pa)).2.2.2.1 ∧
    (wkM n k P le w (sd, se, sc, ba, pa, mo)).2.2.2.2.1 = (wkY n k (P 4) (P 5) kd sz lk (P 6 w) (P 7 w) (sd, se, sc, ba, pa)).2.2.2.2 := by
  have key : ∀ r : Bool, (wk1 r n (P 6 w) k P le (sd, se, sc, ba, pa, mo)).1 = (wy1 r n k (P 4) (P 5) kd sz lk (P 6 w) (sd, se, sc, ba, pa)).1 ∧
      (wk1 r n (P 6 w) k P le (sd, se, sc, ba, pa, mo)).2.1 = (wy1 r n k (P 4) (P 5) kd sz lk (P 6 w) (sd, se, sc, ba, pa)).2.1 ∧
      (wk1 r n (P 6 w) k P le (sd, se, sc, ba, pa, mo)).2.2.1 = (wy1 r n k (P 4) (P 5) kd sz lk (P 6 w) (sd, se, sc, ba, pa)).2.2.1 ∧
      (wk1 r n (P 6 w) k P le (sd, se, sc, ba, pa, mo)).2.2.2.1 = (wy1 r n k (P 4) (P 5) kd sz lk (P 6 w) (sd, se, sc, ba, pa)).2.2.2.1 ∧
      (wk1 r n (P 6 w) k P le (sd, se, sc, ba, pa, mo)).2.2.2.2.1 = (wy1 r n k (P 4) (P 5) kd sz lk (P 6 w) (sd, se, sc, ba, pa)).2.2.2.2 := by
    intro r
    obtain ⟨h1, h2, h3, h4⟩ := pa_eq (k := k) (h := P 6 w) (wl := P 4) (fd := P 5) r hn hrel hsd sc ba mo
    have e := ad_eq (sd := sd) h4
    refine ⟨?_, ?_, h1.symm, h2.symm, h3.symm⟩
    · show mapN n (s2M (P 6 w) (adM n sd _) (P 4) se) (adM n sd _) = s2X (P 6 w) n (adX n sd _) (P 4) se
      rw [s2_eq, e]
    · show mapN n (e2M (P 6 w) (adM n sd _) (P 4) se) se = e2X (P 6 w) n (adX n sd _) (P 4) se
      rw [e2_eq, e]
  unfold wkM wkY
  by_cases q0 : P 7 w = 0
  · rw [if_pos q0, if_pos q0]; exact key false
  · rw [if_neg q0, if_neg q0]
    by_cases q1 : P 7 w = 1
    · rw [if_pos q1, if_pos q1]; exact key true
    · rw [if_neg q1, if_neg q1]
      exact ⟨s2_eq _ _ _ _ _, e2_eq _ _ _ _ _, rfl, rfl, rfl⟩
