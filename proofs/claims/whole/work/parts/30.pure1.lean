/-! numbers: the class's and the model's ways to write the same -/
theorem nlt_iff {a b : Int32} : ¬ a < b ↔ b ≤ a := by rw [Int32.lt_iff_toInt_lt, Int32.le_iff_toInt_le]; omega
theorem nle_iff {a b : Int32} : ¬ a ≤ b ↔ b < a := by rw [Int32.lt_iff_toInt_lt, Int32.le_iff_toInt_le]; omega
theorem i32_anti {a b : Int32} (h1 : a ≤ b) (h2 : b ≤ a) : a = b := by
  rw [Int32.le_iff_toInt_le] at h1 h2
  exact Int32.toInt_inj.mp (by omega)
theorem mn_le (w s : Int32) : mn w s = if w ≤ s then w else s := by
  by_cases h : w ≤ s
  · rw [mn, if_neg (nlt_iff.mpr h), if_pos h]
  · rw [mn, if_pos (nle_iff.mp h), if_neg h]
theorem mn_ge (w s : Int32) : mn w s = if s ≤ w then s else w := by
  by_cases h : s ≤ w
  · rw [if_pos h]
    by_cases h2 : s < w
    · rw [mn, if_pos h2]
    · rw [mn, if_neg h2]; exact i32_anti (nlt_iff.mp h2) h
  · rw [mn, if_neg h, if_neg]
    exact fun q => h (by rw [Int32.lt_iff_toInt_lt] at q; rw [Int32.le_iff_toInt_le]; omega)
theorem mn_cap (x : Int32) : mn x 99999 = capM x := by rw [mn_le, capM]
theorem fre_ab (sd wl : Nat → Int32) (f : Nat) : fre sd wl f = abM sd wl f := by
  rw [fre, abM]
  generalize sd f - 10 * wl f = v
  by_cases h : v ≤ 0
  · rw [if_pos h]
    by_cases h2 : 0 ≤ v
    · rw [if_pos h2]; exact i32_anti h2 h
    · rw [if_neg h2]
  · rw [if_neg h, if_pos]
    have := nle_iff.mp h
    rw [Int32.lt_iff_toInt_lt] at this; rw [Int32.le_iff_toInt_le]; omega
theorem tk_go (sd wl : Nat → Int32) (f : Nat) (w : Int32) : tk sd wl f w = goM sd wl f w := by
  rw [tk, tk0, goM, mn_le, mn_le, fre_ab]
theorem upd_self (f : Nat → Int32) (k : Nat) : upd f k (f k) = f := by
  funext j
  simp only [upd]
  by_cases h : j = k
  · rw [if_pos h, h]
  · rw [if_neg h]
theorem tkSc_go (sd wl sc : Nat → Int32) (f : Nat) (w : Int32) : tkSc sd wl sc f w = goMc sd wl sc f w := by
  rw [tkSc, tk_go, tk0, mn_le, goMc, goM]
  by_cases h : (if w ≤ sd f then w else sd f) ≤ abM sd wl f
  · rw [if_pos h, if_pos h, Int32.sub_self, Int32.add_zero, upd_self]
  · rw [if_neg h, if_neg h]
theorem slp_by (sd : Nat → Int32) (u d : Nat) : slp sd u d = byM sd u d := by
  rw [slp, byM, ln, ln]
  generalize sd u / 10 - sd d / 10 = v
  have e9 : (-9 : Int32).toInt = -9 := by decide
  have f9 : (9 : Int32).toInt = 9 := by decide
  rw [mn_le]
  by_cases h : v ≤ 9
  · rw [if_pos h]
    by_cases h2 : -9 ≤ v
    · rw [if_pos h2]
      by_cases h3 : -9 < v
      · rw [mx, if_pos h3]
      · rw [mx, if_neg h3]; exact i32_anti h2 (nlt_iff.mp h3)
    · rw [if_neg h2, mx, if_neg]
      intro q; apply h2
      rw [Int32.lt_iff_toInt_lt] at q; rw [Int32.le_iff_toInt_le]; omega
  · rw [if_neg h, if_pos, mx, if_pos (by decide)]
    have := nle_iff.mp h
    rw [Int32.lt_iff_toInt_lt] at this; rw [Int32.le_iff_toInt_le]; omega
theorem mx0 (x : Int32) : mx x 0 = if 0 ≤ x then x else 0 := by
  by_cases h : 0 ≤ x
  · rw [mx, if_neg (nlt_iff.mpr h), if_pos h]
  · rw [mx, if_pos (nle_iff.mp h), if_neg h]
/-- a border of the class and the same of the model -/
def relB (kd sz lk kdM le pt : Nat → Int32) (b : Nat) : Prop :=
  (kd b = 1 → le b = sz b ∧ pt b = lk b) ∧ (¬ kd b = 1 → le b = 0) ∧ (kd b = 2 ↔ kdM b = 2) ∧ (kd b = 2 → pt b = sz b)
theorem dr0_eq (k h : Int32) (sd : Nat → Int32) (u d : Nat) : mx (k * h + h * slp sd u d / 3) 0 = dr0M h k sd u d := by
  rw [mx0, slp_by, dr0M, Int32.mul_comm k h]
theorem ln_nn {sd : Nat → Int32} {u : Nat} (h : 0 ≤ sd u) : 0 ≤ sd u / 10 := by
  obtain ⟨j, hj, e⟩ := nI_of (x := sd u) (nlt_iff.mpr h)
  have e10 : (10 : Int32) = nI 10 := rfl
  rw [e, e10, pk_div hj (by decide) (by decide)]
  exact nI_pos' (by omega)
theorem drv_eq {kd sz lk kdM le pt : Nat → Int32} {b : Nat} (hr : relB kd sz lk kdM le pt b) (k h : Int32) {sd : Nat → Int32} {u d : Nat} (hu : 0 ≤ sd u) : drv k h sd kd sz lk u d b = drM h k sd le pt u d b := by
  rw [drv, drM, dr0_eq]
  obtain ⟨h1, h2, -, -⟩ := hr
  by_cases q : kd b = 1
  · obtain ⟨e1, e2⟩ := h1 q
    rw [if_pos q, e1, e2, ln]
  · rw [if_neg q, h2 q, if_pos (ln_nn hu)]
theorem kpt_eq {kd sz lk kdM le pt : Nat → Int32} {b : Nat} (hr : relB kd sz lk kdM le pt b) (x : Int32) : kpt kd sz b x = kpM kdM pt b x := by
  obtain ⟨-, -, h3, h4⟩ := hr
  rw [kpt, kpM]
  by_cases q : kd b = 2
  · rw [if_pos q, if_pos (h3.mp q), h4 q]
  · rw [if_neg q, if_neg (fun z => q (h3.mpr z))]
theorem uni_eq {kd sz lk kdM le pt : Nat → Int32} {b : Nat} (hr : relB kd sz lk kdM le pt b) (r : Bool) (k h : Int32) {sd : Nat → Int32} (wl : Nat → Int32) (hu : 0 ≤ sd (uF r b)) : uni r k h sd wl kd sz lk b = unM r h k sd wl le pt b := by
  rw [uni, unM, tk_go, drv_eq hr k h hu]
theorem sgn_st (r : Bool) (x : Int32) : sgn r x = stM r * x := by
  cases r
  · show x = 1 * x
    rw [Int32.one_mul]
  · show -x = -1 * x
    rw [Int32.neg_mul, Int32.one_mul]
theorem mapN_c {n : Nat} {g g' : Nat → Int32} (f : Nat → Int32) (h : ∀ i, i < n → g i = g' i) : mapN n g f = mapN n g' f := by
  funext i
  simp only [mapN]
  by_cases q : i < n
  · rw [if_pos q, if_pos q, h i q]
  · rw [if_neg q, if_neg q]
theorem mapN_id (n : Nat) (f : Nat → Int32) : mapN n (fun i => f i) f = f := by
  funext i
  simp only [mapN]
  by_cases q : i < n
  · rw [if_pos q]
  · rw [if_neg q]
theorem s2_eq (h : Int32) (n : Nat) (sd wl se : Nat → Int32) : mapN n (s2M h sd wl se) sd = s2X h n sd wl se := by
  rw [s2X]
  by_cases h1 : h < 7
  · rw [if_pos h1]
    by_cases h2 : 2 < h
    · rw [if_pos h2, mapN_c (g' := fun i => sd i) sd (fun i _ => by rw [s2M, if_pos h1, if_pos h2]), mapN_id]
    · rw [if_neg h2, bkSd]
      exact mapN_c sd (fun i _ => by rw [s2M, if_pos h1, if_neg h2, mn_cap])
  · rw [if_neg h1, toSd]
    exact mapN_c sd (fun i _ => by rw [s2M, if_neg h1, mn_ge, fre_ab])
theorem e2_eq (h : Int32) (n : Nat) (sd wl se : Nat → Int32) : mapN n (e2M h sd wl se) se = e2X h n sd wl se := by
  rw [e2X]
  by_cases h1 : h < 7
  · rw [if_pos h1]
    by_cases h2 : 2 < h
    · rw [if_pos h2, mapN_c (g' := fun i => se i) se (fun i _ => by rw [e2M, if_pos h1, if_pos h2]), mapN_id]
    · rw [if_neg h2, bkSe]
      exact mapN_c se (fun i _ => by rw [e2M, if_pos h1, if_neg h2])
  · rw [if_neg h1, toSe]
    exact mapN_c se (fun i _ => by rw [e2M, if_neg h1, mn_ge, fre_ab])
theorem ad_eq {n : Nat} {sd ch mo : Nat → Int32} (h : ∀ i, i < n → ch i = mo i) : adX n sd ch = adM n sd mo := by
  rw [adX, adM]
  exact mapN_c sd (fun i hi => by rw [mn_cap, h i hi])
