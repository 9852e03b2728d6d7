/-! bounds -/
def bnd (x : Int32) (a b : Int) : Prop := a ≤ x.toInt ∧ x.toInt ≤ b
theorem i_add {x y : Int32} (h1 : -2147483648 ≤ x.toInt + y.toInt) (h2 : x.toInt + y.toInt ≤ 2147483647) : (x + y).toInt = x.toInt + y.toInt := by
  rw [Int32.toInt_add]
  exact Int.bmod_eq_of_le (by omega) (by omega)
theorem i_sub {x y : Int32} (h1 : -2147483648 ≤ x.toInt - y.toInt) (h2 : x.toInt - y.toInt ≤ 2147483647) : (x - y).toInt = x.toInt - y.toInt := by
  rw [Int32.toInt_sub]
  exact Int.bmod_eq_of_le (by omega) (by omega)
theorem i_mul {x y : Int32} (h1 : -2147483648 ≤ x.toInt * y.toInt) (h2 : x.toInt * y.toInt ≤ 2147483647) : (x * y).toInt = x.toInt * y.toInt := by
  rw [Int32.toInt_mul]
  exact Int.bmod_eq_of_le (by omega) (by omega)
theorem i_divN {x : Int32} {d : Nat} (hx : 0 ≤ x.toInt) (hd : 0 < d) (hd2 : d < 2 ^ 31) : (x / nI d).toInt = x.toInt / (d : Int) := by
  obtain ⟨j, hj, e⟩ := nI_of (x := x) (by rw [Int32.lt_iff_toInt_lt]; have e0 : (0 : Int32).toInt = 0 := rfl; omega)
  have h3 : j / d < 2 ^ 31 := Nat.lt_of_le_of_lt (Nat.div_le_self j d) hj
  rw [e, pk_div hj hd hd2, nI_toInt h3, nI_toInt hj]
  first | exact Int.natCast_ediv j d | rfl
theorem i_div3 {x : Int32} (h1 : -81 ≤ x.toInt) (h2 : x.toInt ≤ 81) : -27 ≤ (x / 3).toInt ∧ (x / 3).toInt ≤ 27 := by
  rw [Int32.toInt_div]
  have e3 : (3 : Int32).toInt = 3 := by decide
  rw [e3]
  have h3 : (x.toInt.tdiv 3).natAbs = x.toInt.natAbs / 3 := Int.natAbs_tdiv _ _
  have h4 : -27 ≤ x.toInt.tdiv 3 ∧ x.toInt.tdiv 3 ≤ 27 := by omega
  rw [Int.bmod_eq_of_le (by omega) (by omega)]
  exact h4
theorem i_mul9 {h s : Int32} (m : Int) (hm : m ≤ 1000000) (h1 : 0 ≤ h.toInt) (h2 : h.toInt ≤ 9) (h3 : -m ≤ s.toInt) (h4 : s.toInt ≤ m) : (h * s).toInt = h.toInt * s.toInt ∧ -(9 * m) ≤ h.toInt * s.toInt ∧ h.toInt * s.toInt ≤ 9 * m := by
  have key : -(9 * m) ≤ h.toInt * s.toInt ∧ h.toInt * s.toInt ≤ 9 * m := by
    rcases (show h.toInt = 0 ∨ h.toInt = 1 ∨ h.toInt = 2 ∨ h.toInt = 3 ∨ h.toInt = 4 ∨ h.toInt = 5 ∨ h.toInt = 6 ∨ h.toInt = 7 ∨ h.toInt = 8 ∨ h.toInt = 9 by omega) with q | q | q | q | q | q | q | q | q | q <;> rw [q] <;> omega
  exact ⟨i_mul (by omega) (by omega), key⟩
theorem i_mulN {x y : Int32} {b d : Int} (h1 : 0 ≤ x.toInt) (h2 : x.toInt ≤ b) (h3 : 0 ≤ y.toInt) (h4 : y.toInt ≤ d) (hb : b * d ≤ 2147483647) : (x * y).toInt = x.toInt * y.toInt ∧ 0 ≤ x.toInt * y.toInt ∧ x.toInt * y.toInt ≤ b * d := by
  have k1 : 0 ≤ x.toInt * y.toInt := Int.mul_nonneg h1 h3
  have k2 : x.toInt * y.toInt ≤ b * d := Int.mul_le_mul h2 h4 h3 (by omega)
  exact ⟨i_mul (by omega) (by omega), k1, k2⟩
theorem z_i : (0 : Int32).toInt = 0 := rfl
theorem mn_i (x y : Int32) : (mn x y).toInt = min x.toInt y.toInt := by
  rw [mn]
  by_cases h : y < x
  · rw [if_pos h]; rw [Int32.lt_iff_toInt_lt] at h; omega
  · rw [if_neg h]; rw [Int32.lt_iff_toInt_lt] at h; omega
theorem mx_i (x y : Int32) : (mx x y).toInt = max x.toInt y.toInt := by
  rw [mx]
  by_cases h : x < y
  · rw [if_pos h]; rw [Int32.lt_iff_toInt_lt] at h; omega
  · rw [if_neg h]; rw [Int32.lt_iff_toInt_lt] at h; omega
theorem fre_nn (sd wl : Nat → Int32) (f : Nat) : 0 ≤ (fre sd wl f).toInt := by
  rw [fre]
  by_cases h : sd f - 10 * wl f ≤ 0
  · rw [if_pos h]; exact Int.le_refl 0
  · rw [if_neg h]; rw [Int32.le_iff_toInt_le, z_i] at h; omega
theorem fre_le {sd wl : Nat → Int32} {f : Nat} (h1 : 0 ≤ (sd f).toInt) (h2 : (sd f).toInt ≤ 99999) (h3 : 0 ≤ (wl f).toInt) (h4 : (wl f).toInt ≤ 999) : (fre sd wl f).toInt ≤ (sd f).toInt := by
  have e10 : (10 : Int32).toInt = 10 := by decide
  obtain ⟨m1, m2, m3⟩ := i_mulN (x := 10) (y := wl f) (b := 10) (d := 999) (by omega) (by omega) h3 h4 (by decide)
  have e := i_sub (x := sd f) (y := 10 * wl f) (by omega) (by omega)
  rw [fre]
  by_cases h : sd f - 10 * wl f ≤ 0
  · rw [if_pos h, z_i]; exact h1
  · rw [if_neg h]; omega
theorem tk_b {sd wl : Nat → Int32} {f : Nat} {w : Int32} (h1 : 0 ≤ (sd f).toInt) (hw : 0 ≤ w.toInt) : 0 ≤ (tk sd wl f w).toInt ∧ (tk sd wl f w).toInt ≤ (sd f).toInt := by
  have := fre_nn sd wl f
  rw [tk, tk0, mn_i, mn_i]
  omega
theorem slp_b (sd : Nat → Int32) (u d : Nat) : -9 ≤ (slp sd u d).toInt ∧ (slp sd u d).toInt ≤ 9 := by
  have e9 : (-9 : Int32).toInt = -9 := by decide
  have f9 : (9 : Int32).toInt = 9 := by decide
  rw [slp, mx_i, mn_i, e9, f9]
  omega
/-- what a shore's numbers may be -/
def gdP (k : Int32) (wl fd kd sz lk : Nat → Int32) : Prop :=
  (1 ≤ k.toInt ∧ k.toInt ≤ 9) ∧ (∀ i, i < 12 → 0 ≤ (wl i).toInt ∧ (wl i).toInt ≤ 999) ∧ (∀ i, i < 2 → 0 ≤ (fd i).toInt ∧ (fd i).toInt ≤ 200) ∧
  ∀ b, b < 13 → (kd b = 1 → 0 ≤ (lk b).toInt ∧ (lk b).toInt ≤ 100) ∧ (kd b = 2 → 0 ≤ (sz b).toInt ∧ (sz b).toInt ≤ 100)
theorem drv_b {k h : Int32} {sd wl fd kd sz lk : Nat → Int32} (hp : gdP k wl fd kd sz lk) (h1 : 0 ≤ h.toInt) (h2 : h.toInt ≤ 9) (u d : Nat) {b : Nat} (hb : b < 13) : 0 ≤ (drv k h sd kd sz lk u d b).toInt := by
  obtain ⟨⟨k1, k2⟩, -, -, hq⟩ := hp
  obtain ⟨s1, s2⟩ := slp_b sd u d
  obtain ⟨m1, m2, m3⟩ := i_mulN (x := k) (y := h) (b := 9) (d := 9) (by omega) k2 h1 h2 (by decide)
  obtain ⟨n1, n2, n3⟩ := i_mul9 9 (by decide) h1 h2 s1 s2
  obtain ⟨d1, d2⟩ := i_div3 (x := h * slp sd u d) (by omega) (by omega)
  have e := i_add (x := k * h) (y := h * slp sd u d / 3) (by omega) (by omega)
  have D0 : 0 ≤ (mx (k * h + h * slp sd u d / 3) 0).toInt ∧ (mx (k * h + h * slp sd u d / 3) 0).toInt ≤ 108 := by
    rw [mx_i, z_i]; omega
  rw [drv]
  by_cases q : kd b = 1
  · rw [if_pos q]
    by_cases q2 : sz b ≤ ln sd u
    · rw [if_pos q2]; exact D0.1
    · rw [if_neg q2]
      obtain ⟨l1, l2⟩ := (hq b hb).1 q
      obtain ⟨p1, p2, p3⟩ := i_mulN (x := mx (k * h + h * slp sd u d / 3) 0) (y := lk b) (b := 108) (d := 100) D0.1 D0.2 l1 l2 (by decide)
      have e100 : (100 : Int32) = nI 100 := rfl
      rw [e100, i_divN (by omega) (by decide) (by decide)]
      omega
  · rw [if_neg q]; exact D0.1
theorem uni_b {k h : Int32} {sd wl fd kd sz lk : Nat → Int32} {n : Nat} (hp : gdP k wl fd kd sz lk) (h1 : 0 ≤ h.toInt) (h2 : h.toInt ≤ 9) (hs : ∀ i, i < n → 0 ≤ (sd i).toInt ∧ (sd i).toInt ≤ 99999) (hm : n ≤ 12) (r : Bool) {b : Nat} (hb : b < n) :
    0 ≤ (uni r k h sd wl kd sz lk b).toInt ∧ (uni r k h sd wl kd sz lk b).toInt ≤ (sd (uF r b)).toInt :=
  tk_b (hs _ (uF_lt hb)).1 (drv_b hp h1 h2 _ _ (by omega))
theorem kpt_b {k : Int32} {wl fd kd sz lk : Nat → Int32} (hp : gdP k wl fd kd sz lk) {b : Nat} (hb : b < 13) {x : Int32} (h1 : 0 ≤ x.toInt) (h2 : x.toInt ≤ 99999) : 0 ≤ (kpt kd sz b x).toInt ∧ (kpt kd sz b x).toInt ≤ x.toInt := by
  rw [kpt]
  by_cases q : kd b = 2
  · rw [if_pos q]
    obtain ⟨l1, l2⟩ := (hp.2.2.2 b hb).2 q
    obtain ⟨p1, p2, p3⟩ := i_mulN (x := x) (y := sz b) (b := 99999) (d := 100) h1 h2 l1 l2 (by decide)
    have e100 : (100 : Int32) = nI 100 := rfl
    have p4 : x.toInt * (sz b).toInt ≤ x.toInt * 100 := Int.mul_le_mul_of_nonneg_left l2 h1
    rw [e100, i_divN (by omega) (by decide) (by decide)]
    omega
  · rw [if_neg q, z_i]; omega
