/-! the bounds stay through a week -/
def lost (r : Bool) (j i : Nat) : Prop := cond r (decide (1 ≤ i ∧ i ≤ j)) (decide (i < j)) = true
theorem lost_u (r : Bool) (j : Nat) : ¬ lost r j (uF r (1 + j)) := by
  cases r
  · show ¬ decide (1 + j - 1 < j) = true
    rw [decide_eq_true_iff]; omega
  · show ¬ decide (1 ≤ 1 + j ∧ 1 + j ≤ j) = true
    rw [decide_eq_true_iff]; omega
theorem lost_s {r : Bool} {j i : Nat} (h : ¬ lost r (j + 1) i) : ¬ lost r j i ∧ i ≠ uF r (1 + j) := by
  cases r
  · have h' : ¬ decide (i < j + 1) = true := h
    rw [decide_eq_true_iff] at h'
    refine ⟨?_, ?_⟩
    · show ¬ decide (i < j) = true
      rw [decide_eq_true_iff]; omega
    · show i ≠ 1 + j - 1
      omega
  · have h' : ¬ decide (1 ≤ i ∧ i ≤ j + 1) = true := h
    rw [decide_eq_true_iff] at h'
    refine ⟨?_, ?_⟩
    · show ¬ decide (1 ≤ i ∧ i ≤ j) = true
      rw [decide_eq_true_iff]; omega
    · show i ≠ 1 + j
      omega
theorem uF_ne_dF (r : Bool) (j : Nat) : uF r (1 + j) ≠ dF r (1 + j) := by
  cases r
  · show 1 + j - 1 ≠ 1 + j
    omega
  · show 1 + j ≠ 1 + j - 1
    omega
theorem ps_b {n : Nat} {k h : Int32} {sd wl fd kd sz lk : Nat → Int32} (hp : gdP k wl fd kd sz lk) (hm : n ≤ 12) (h1 : 0 ≤ h.toInt) (h2 : h.toInt ≤ 9) (hs : ∀ i, i < n → 0 ≤ (sd i).toInt ∧ (sd i).toInt ≤ 99999) (r : Bool) {sc ba pa ch : Nat → Int32} {B : Int} (hB : 0 ≤ B ∧ B ≤ 20000000)
    (hba : ∀ b, b < 13 → 0 ≤ (ba b).toInt ∧ (ba b).toInt ≤ B) (hch : ∀ i, i < n → 0 ≤ (ch i).toInt ∧ (ch i).toInt ≤ 200) :
    ∀ j, j ≤ n - 1 →
      (∀ b, b < 13 → 0 ≤ ((itf (psX r k h sd wl kd sz lk) 1 j (sc, ba, pa, ch)).2.1 b).toInt ∧ ((itf (psX r k h sd wl kd sz lk) 1 j (sc, ba, pa, ch)).2.1 b).toInt ≤ (if b ≤ j then B + 99999 else B)) ∧
      (∀ i, i < n → (¬ lost r j i → 0 ≤ ((itf (psX r k h sd wl kd sz lk) 1 j (sc, ba, pa, ch)).2.2.2 i).toInt) ∧ -(sd i).toInt ≤ ((itf (psX r k h sd wl kd sz lk) 1 j (sc, ba, pa, ch)).2.2.2 i).toInt ∧ ((itf (psX r k h sd wl kd sz lk) 1 j (sc, ba, pa, ch)).2.2.2 i).toInt ≤ 200 + 100000 * j) := by
  intro j
  induction j with
  | zero =>
    intro _
    refine ⟨fun b hb => ?_, fun i hi => ?_⟩
    · show 0 ≤ (ba b).toInt ∧ (ba b).toInt ≤ _
      have := hba b hb
      by_cases q : b ≤ 0
      · rw [if_pos q]; omega
      · rw [if_neg q]; omega
    · show (_ → 0 ≤ (ch i).toInt) ∧ -(sd i).toInt ≤ (ch i).toInt ∧ (ch i).toInt ≤ _
      have := hch i hi
      have := hs i hi
      exact ⟨fun _ => by omega, by omega, by omega⟩
  | succ j ih =>
    intro hj
    obtain ⟨g1, g2⟩ := ih (by omega)
    rw [itf_s]
    generalize itf (psX r k h sd wl kd sz lk) 1 j (sc, ba, pa, ch) = X at g1 g2 ⊢
    have hb : 1 + j < n := by omega
    obtain ⟨u1, u2⟩ := uni_b hp h1 h2 hs hm r hb
    have hsu := hs _ (uF_lt (r := r) hb)
    obtain ⟨p1, p2⟩ := kpt_b hp (b := 1 + j) (by omega) u1 (by omega)
    generalize hU : uni r k h sd wl kd sz lk (1 + j) = U at u1 u2 p1 p2
    generalize hK : kpt kd sz (1 + j) U = K at p1 p2
    have eX : psX r k h sd wl kd sz lk (1 + j) X = (tkSc sd wl X.1 (uF r (1 + j)) (drv k h sd kd sz lk (uF r (1 + j)) (dF r (1 + j)) (1 + j)), upd X.2.1 (1 + j) (X.2.1 (1 + j) + K), upd X.2.2.1 (1 + j) (sgn r U), upd (upd X.2.2.2 (uF r (1 + j)) (X.2.2.2 (uF r (1 + j)) - U)) (dF r (1 + j)) (upd X.2.2.2 (uF r (1 + j)) (X.2.2.2 (uF r (1 + j)) - U) (dF r (1 + j)) + (U - K))) := by
      rw [← hK, ← hU]; rfl
    rw [eX]
    refine ⟨fun b hb13 => ?_, fun i hi => ?_⟩
    · show 0 ≤ (upd X.2.1 (1 + j) (X.2.1 (1 + j) + K) b).toInt ∧ (upd X.2.1 (1 + j) (X.2.1 (1 + j) + K) b).toInt ≤ _
      rw [upd_i]
      by_cases q : b = 1 + j
      · rw [if_pos q, if_pos (by omega)]
        have := g1 (1 + j) (by omega)
        rw [if_neg (by omega)] at this
        rw [i_add (by omega) (by omega)]
        omega
      · rw [if_neg q]
        have := g1 b hb13
        by_cases q2 : b ≤ j
        · rw [if_pos q2] at this; rw [if_pos (by omega)]; exact this
        · rw [if_neg q2] at this; rw [if_neg (by omega)]; exact this
    · show (_ → 0 ≤ (upd (upd X.2.2.2 (uF r (1 + j)) (X.2.2.2 (uF r (1 + j)) - U)) (dF r (1 + j)) (upd X.2.2.2 (uF r (1 + j)) (X.2.2.2 (uF r (1 + j)) - U) (dF r (1 + j)) + (U - K)) i).toInt) ∧ -(sd i).toInt ≤ (upd (upd X.2.2.2 (uF r (1 + j)) (X.2.2.2 (uF r (1 + j)) - U)) (dF r (1 + j)) (upd X.2.2.2 (uF r (1 + j)) (X.2.2.2 (uF r (1 + j)) - U) (dF r (1 + j)) + (U - K)) i).toInt ∧ (upd (upd X.2.2.2 (uF r (1 + j)) (X.2.2.2 (uF r (1 + j)) - U)) (dF r (1 + j)) (upd X.2.2.2 (uF r (1 + j)) (X.2.2.2 (uF r (1 + j)) - U) (dF r (1 + j)) + (U - K)) i).toInt ≤ _
      have hud := uF_ne_dF r j
      have hn1 : ∀ i, i < n → (X.2.2.2 i).toInt ≤ 200 + 100000 * j ∧ -(sd i).toInt ≤ (X.2.2.2 i).toInt := fun i hi => ⟨(g2 i hi).2.2, (g2 i hi).2.1⟩
      have eV : (U - K).toInt = U.toInt - K.toInt := i_sub (by omega) (by omega)
      have hu0 := (g2 _ (uF_lt (r := r) hb)).1 (lost_u r j)
      have hd1 := hn1 _ (dF_lt (r := r) hb)
      have hsd1 := hs _ (dF_lt (r := r) hb)
      have hu1 := hn1 _ (uF_lt (r := r) hb)
      have hi1 := hn1 i hi
      have hsi := hs i hi
      rw [upd_i]
      by_cases q : i = dF r (1 + j)
      · rw [if_pos q, upd_i, if_neg (fun z => hud z.symm)]
        have e1 : (X.2.2.2 (dF r (1 + j)) + (U - K)).toInt = (X.2.2.2 (dF r (1 + j))).toInt + (U.toInt - K.toInt) := by
          rw [i_add (by omega) (by omega), eV]
        rw [e1]
        subst q
        refine ⟨fun hl => ?_, by omega, by omega⟩
        have := (g2 _ hi).1 (lost_s hl).1
        omega
      · rw [if_neg q, upd_i]
        by_cases q2 : i = uF r (1 + j)
        · rw [if_pos q2]
          have e1 : (X.2.2.2 (uF r (1 + j)) - U).toInt = (X.2.2.2 (uF r (1 + j))).toInt - U.toInt := i_sub (by omega) (by omega)
          rw [e1]
          refine ⟨fun hl => absurd q2 (lost_s hl).2, ?_, by omega⟩
          rw [q2]; omega
        · rw [if_neg q2]
          exact ⟨fun hl => (g2 i hi).1 (lost_s hl).1, by omega, by omega⟩
theorem fdU_b {k h : Int32} {wl fd kd sz lk : Nat → Int32} (hp : gdP k wl fd kd sz lk) (h1 : 0 ≤ h.toInt) (h2 : h.toInt ≤ 9) {i : Nat} (hi : i < 2) : 0 ≤ (fdU k h fd i).toInt ∧ (fdU k h fd i).toInt ≤ 200 := by
  obtain ⟨⟨k1, k2⟩, -, hf, -⟩ := hp
  obtain ⟨f1, f2⟩ := hf i hi
  obtain ⟨m1, m2, m3⟩ := i_mulN (x := k) (y := h) (b := 9) (d := 9) (by omega) k2 h1 h2 (by decide)
  obtain ⟨n1, n2, n3⟩ := i_mulN (x := k * h) (y := fd i) (b := 81) (d := 200) (by omega) (by omega) f1 f2 (by decide)
  have e100 : (100 : Int32) = nI 100 := rfl
  rw [fdU, e100, i_divN (by omega) (by decide) (by decide)]
  omega
/-- behind the passing -/
theorem pa_b {n : Nat} {k h : Int32} {sd wl fd kd sz lk : Nat → Int32} (hp : gdP k wl fd kd sz lk) (hn : 2 ≤ n) (hm : n ≤ 12) (h1 : 0 ≤ h.toInt) (h2 : h.toInt ≤ 9) (hs : ∀ i, i < n → 0 ≤ (sd i).toInt ∧ (sd i).toInt ≤ 99999) (r : Bool) {sc ba : Nat → Int32} {B : Int} (hB : 0 ≤ B ∧ B ≤ 20000000)
    (hba : ∀ b, b < 13 → 0 ≤ (ba b).toInt ∧ (ba b).toInt ≤ B) :
    (∀ b, b < 13 → 0 ≤ ((paX r n k h sd wl fd kd sz lk (sc, ba, (fun _ => 0), (fun _ => 0))).2.1 b).toInt ∧ ((paX r n k h sd wl fd kd sz lk (sc, ba, (fun _ => 0), (fun _ => 0))).2.1 b).toInt ≤ B + 99999) ∧
    (∀ i, i < n → -(sd i).toInt ≤ ((paX r n k h sd wl fd kd sz lk (sc, ba, (fun _ => 0), (fun _ => 0))).2.2.2 i).toInt ∧ ((paX r n k h sd wl fd kd sz lk (sc, ba, (fun _ => 0), (fun _ => 0))).2.2.2 i).toInt ≤ 2000000) := by
  have hl0 : cond r 0 (n - 1) < n := by cases r <;> simp <;> omega
  have hf := fdU_b hp h1 h2 (i := cond r 1 0) (by cases r <;> decide)
  have hch : ∀ i, i < n → 0 ≤ (upd (fun _ => 0) (cond r (n - 1) 0) ((0 : Int32) + fdU k h fd (cond r 1 0)) i).toInt ∧ (upd (fun _ => 0) (cond r (n - 1) 0) ((0 : Int32) + fdU k h fd (cond r 1 0)) i).toInt ≤ 200 := by
    intro i hi
    rw [upd_i, Int32.zero_add]
    by_cases q : i = cond r (n - 1) 0
    · rw [if_pos q]; exact hf
    · rw [if_neg q, z_i]; omega
  obtain ⟨g1, g2⟩ := ps_b hp hm h1 h2 hs r (sc := sc) (pa := upd (fun _ => 0) (cond r n 0) (sgn r (fdU k h fd (cond r 1 0)))) hB hba hch (n - 1) (Nat.le_refl _)
  have hw : 0 ≤ (k * h).toInt := by
    obtain ⟨⟨k1, k2⟩, -⟩ := hp
    obtain ⟨m1, m2, m3⟩ := i_mulN (x := k) (y := h) (b := 9) (d := 9) (by omega) k2 h1 h2 (by decide)
    omega
  obtain ⟨t1, t2⟩ := tk_b (wl := wl) (hs _ hl0).1 hw
  show (∀ b, b < 13 → 0 ≤ ((goX r n k h sd wl (itf (psX r k h sd wl kd sz lk) 1 (n - 1) (sc, ba, upd (fun _ => 0) (cond r n 0) (sgn r (fdU k h fd (cond r 1 0))), upd (fun _ => 0) (cond r (n - 1) 0) ((0 : Int32) + fdU k h fd (cond r 1 0))))).2.1 b).toInt ∧ ((goX r n k h sd wl (itf (psX r k h sd wl kd sz lk) 1 (n - 1) (sc, ba, upd (fun _ => 0) (cond r n 0) (sgn r (fdU k h fd (cond r 1 0))), upd (fun _ => 0) (cond r (n - 1) 0) ((0 : Int32) + fdU k h fd (cond r 1 0))))).2.1 b).toInt ≤ B + 99999) ∧
    (∀ i, i < n → -(sd i).toInt ≤ ((goX r n k h sd wl (itf (psX r k h sd wl kd sz lk) 1 (n - 1) (sc, ba, upd (fun _ => 0) (cond r n 0) (sgn r (fdU k h fd (cond r 1 0))), upd (fun _ => 0) (cond r (n - 1) 0) ((0 : Int32) + fdU k h fd (cond r 1 0))))).2.2.2 i).toInt ∧ ((goX r n k h sd wl (itf (psX r k h sd wl kd sz lk) 1 (n - 1) (sc, ba, upd (fun _ => 0) (cond r n 0) (sgn r (fdU k h fd (cond r 1 0))), upd (fun _ => 0) (cond r (n - 1) 0) ((0 : Int32) + fdU k h fd (cond r 1 0))))).2.2.2 i).toInt ≤ 2000000)
  generalize itf (psX r k h sd wl kd sz lk) 1 (n - 1) (sc, ba, upd (fun _ => 0) (cond r n 0) (sgn r (fdU k h fd (cond r 1 0))), upd (fun _ => 0) (cond r (n - 1) 0) ((0 : Int32) + fdU k h fd (cond r 1 0))) = X at g1 g2 ⊢
  refine ⟨fun b hb => ?_, fun i hi => ?_⟩
  · show 0 ≤ (X.2.1 b).toInt ∧ (X.2.1 b).toInt ≤ _
    have := g1 b hb
    by_cases q : b ≤ n - 1
    · rw [if_pos q] at this; exact this
    · rw [if_neg q] at this; omega
  · show -(sd i).toInt ≤ (upd X.2.2.2 (cond r 0 (n - 1)) (X.2.2.2 (cond r 0 (n - 1)) - tk sd wl (cond r 0 (n - 1)) (k * h)) i).toInt ∧ (upd X.2.2.2 (cond r 0 (n - 1)) (X.2.2.2 (cond r 0 (n - 1)) - tk sd wl (cond r 0 (n - 1)) (k * h)) i).toInt ≤ _
    have hl : ¬ lost r (n - 1) (cond r 0 (n - 1)) := by
      cases r
      · show ¬ decide (n - 1 < n - 1) = true
        rw [decide_eq_true_iff]; omega
      · show ¬ decide (1 ≤ 0 ∧ 0 ≤ n - 1) = true
        rw [decide_eq_true_iff]; omega
    have hL := (g2 _ hl0).1 hl
    have hL2 := (g2 _ hl0).2.2
    have hsl := hs _ hl0
    rw [upd_i]
    by_cases q : i = cond r 0 (n - 1)
    · rw [if_pos q, i_sub (by omega) (by omega), q]; omega
    · rw [if_neg q]
      have := g2 i hi
      omega
/-- the bounds of sand, sea, bars when w weeks have gone -/
def gdS (w : Nat) (t : S5) : Prop :=
  (∀ i, i < 12 → 0 ≤ (t.1 i).toInt ∧ (t.1 i).toInt ≤ 99999) ∧ (∀ i, i < 12 → 0 ≤ (t.2.1 i).toInt ∧ (t.2.1 i).toInt ≤ 27 * w) ∧ ∀ b, b < 13 → 0 ≤ (t.2.2.2.1 b).toInt ∧ (t.2.2.2.1 b).toInt ≤ 100000 * w
theorem mapN_b {n : Nat} {g f : Nat → Int32} {a b : Int} (h1 : ∀ i, i < n → a ≤ (g i).toInt ∧ (g i).toInt ≤ b) (h2 : ∀ i, i < 12 → a ≤ (f i).toInt ∧ (f i).toInt ≤ b) : ∀ i, i < 12 → a ≤ (mapN n g f i).toInt ∧ (mapN n g f i).toInt ≤ b := by
  intro i hi
  rw [mapN]
  by_cases q : i < n
  · rw [if_pos q]; exact h1 i q
  · rw [if_neg q]; exact h2 i hi
theorem q4 {x : Int32} (h1 : 0 ≤ x.toInt) (h2 : x.toInt ≤ 100000) : ((x + 3) / 4).toInt = (x.toInt + 3) / 4 := by
  have e3 : (3 : Int32).toInt = 3 := by decide
  have e4 : (4 : Int32) = nI 4 := rfl
  have e := i_add (x := x) (y := 3) (by omega) (by omega)
  rw [e4, i_divN (by omega) (by decide) (by decide), e, e3]
  rfl
theorem s2_b {h : Int32} {n w : Nat} {sd wl se : Nat → Int32} (hm : n ≤ 12) (hw : w ≤ 1000) (h1 : 0 ≤ h.toInt) (h2 : h.toInt ≤ 9) (hwl : ∀ i, i < 12 → 0 ≤ (wl i).toInt ∧ (wl i).toInt ≤ 999) (hs : ∀ i, i < 12 → 0 ≤ (sd i).toInt ∧ (sd i).toInt ≤ 99999) (he : ∀ i, i < 12 → 0 ≤ (se i).toInt ∧ (se i).toInt ≤ 27 * w) :
    (∀ i, i < 12 → 0 ≤ (s2X h n sd wl se i).toInt ∧ (s2X h n sd wl se i).toInt ≤ 99999) ∧ (∀ i, i < 12 → 0 ≤ (e2X h n sd wl se i).toInt ∧ (e2X h n sd wl se i).toInt ≤ 27 * (w + 1 : Nat)) := by
  have he' : ∀ i, i < 12 → 0 ≤ (se i).toInt ∧ (se i).toInt ≤ 27 * (w + 1 : Nat) := fun i hi => by have := he i hi; omega
  have e9 : (99999 : Int32).toInt = 99999 := by decide
  rw [s2X, e2X]
  by_cases q : h < 7
  · rw [if_pos q, if_pos q]
    by_cases q2 : 2 < h
    · rw [if_pos q2, if_pos q2]; exact ⟨hs, he'⟩
    · rw [if_neg q2, if_neg q2]
      refine ⟨mapN_b (fun i hi => ?_) hs, mapN_b (fun i hi => ?_) he'⟩
      · have a1 := hs i (by omega)
        have a2 := he i (by omega)
        have a3 := q4 a2.1 (by omega)
        rw [mn_i, i_add (by omega) (by omega), a3, e9]
        omega
      · have a2 := he i (by omega)
        have a3 := q4 a2.1 (by omega)
        rw [i_sub (by omega) (by omega), a3]
        omega
  · rw [if_neg q, if_neg q]
    have e3 : (3 : Int32).toInt = 3 := by decide
    obtain ⟨m1, m2, m3⟩ := i_mulN (x := 3) (y := h) (b := 3) (d := 9) (by omega) (by omega) h1 h2 (by decide)
    have kk : ∀ i, i < n → 0 ≤ (mn (3 * h) (fre sd wl i)).toInt ∧ (mn (3 * h) (fre sd wl i)).toInt ≤ 27 ∧ (mn (3 * h) (fre sd wl i)).toInt ≤ (sd i).toInt := by
      intro i hi
      have a1 := hs i (by omega)
      have a2 := hwl i (by omega)
      have a3 := fre_nn sd wl i
      have a4 := fre_le (wl := wl) a1.1 a1.2 a2.1 a2.2
      rw [mn_i]
      omega
    refine ⟨mapN_b (fun i hi => ?_) hs, mapN_b (fun i hi => ?_) he'⟩
    · have a1 := hs i (by omega)
      have a2 := kk i hi
      rw [i_sub (by omega) (by omega)]
      omega
    · have a1 := he i (by omega)
      have a2 := kk i hi
      rw [i_add (by omega) (by omega)]
      omega
theorem wk_b {n w : Nat} {k h x : Int32} {wl fd kd sz lk : Nat → Int32} {t : S5} (hp : gdP k wl fd kd sz lk) (hn : 2 ≤ n) (hm : n ≤ 12) (h1 : 0 ≤ h.toInt) (h2 : h.toInt ≤ 9) (hw : w ≤ 120) (ht : gdS w t) : gdS (w + 1) (wkY n k wl fd kd sz lk h x t) := by
  obtain ⟨g1, g2, g3⟩ := ht
  have key : ∀ r : Bool, gdS (w + 1) (wy1 r n k wl fd kd sz lk h t) := by
    intro r
    obtain ⟨p1, p2⟩ := pa_b hp hn hm h1 h2 (fun i hi => g1 i (by omega)) r (sc := t.2.2.1) (B := 100000 * w) (by omega) g3
    have ha : ∀ i, i < 12 → 0 ≤ (adX n t.1 (paX r n k h t.1 wl fd kd sz lk (t.2.2.1, t.2.2.2.1, (fun _ => 0), (fun _ => 0))).2.2.2 i).toInt ∧ (adX n t.1 (paX r n k h t.1 wl fd kd sz lk (t.2.2.1, t.2.2.2.1, (fun _ => 0), (fun _ => 0))).2.2.2 i).toInt ≤ 99999 := by
      refine mapN_b (fun i hi => ?_) g1
      have a1 := g1 i (by omega)
      have a2 := p2 i hi
      have e9 : (99999 : Int32).toInt = 99999 := by decide
      rw [mn_i, i_add (by omega) (by omega), e9]
      omega
    obtain ⟨q1, q2⟩ := s2_b (n := n) (w := w) hm (by omega) h1 h2 hp.2.1 ha g2
    refine ⟨q1, q2, fun b hb => ?_⟩
    have := p1 b hb
    refine ⟨this.1, ?_⟩
    have h9 : ((wy1 r n k wl fd kd sz lk h t).2.2.2.1 b).toInt ≤ 100000 * w + 99999 := this.2
    omega
  rw [wkY]
  by_cases q0 : x = 0
  · rw [if_pos q0]; exact key false
  · rw [if_neg q0]
    by_cases q1 : x = 1
    · rw [if_pos q1]; exact key true
    · rw [if_neg q1]
      obtain ⟨q1, q2⟩ := s2_b (n := n) (w := w) hm (by omega) h1 h2 hp.2.1 g1 g2
      refine ⟨q1, q2, fun b hb => ?_⟩
      show 0 ≤ (t.2.2.2.1 b).toInt ∧ (t.2.2.2.1 b).toInt ≤ _
      have := g3 b hb
      omega
