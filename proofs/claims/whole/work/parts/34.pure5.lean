/-! dredging, and going through weeks from the begin -/
theorem dg_rd (w : Int32) (db du df dw : Nat → Int32) : dgM w db du df dw = rdX w db du df dw := by
  funext i t
  rw [dgM, rdX]
  by_cases q : dw i = w
  · rw [if_pos q, if_pos q, brM, bbS, bbB, mn_cap, mn_ge]
  · rw [if_neg q, if_neg q]
theorem dgs_rds (w : Int32) (dr : Nat) (P : Nat → Nat → Int32) (t : (Nat → Int32) × (Nat → Int32)) : dgsM w dr P t = rdsX w dr (P 8) (P 9) (P 10) (P 11) t := by
  rw [dgsM, rdsX, dg_rd]
/-- what a told dredging's units are -/
def dUk (du : Nat → Int32) (i : Nat) : Prop := 0 ≤ (du i).toInt ∧ (du i).toInt ≤ 9999
theorem rd1_b {w : Int32} {db du df dw : Nat → Int32} {i : Nat} {t : (Nat → Int32) × (Nat → Int32)} {B : Int} (hB : B ≤ 100000000) (hu : dUk du i)
    (h : (∀ i, i < 12 → 0 ≤ (t.1 i).toInt ∧ (t.1 i).toInt ≤ 99999) ∧ ∀ b, b < 13 → 0 ≤ (t.2 b).toInt ∧ (t.2 b).toInt ≤ B) (hd : dOk db df i) :
    (∀ j, j < 12 → 0 ≤ ((rdX w db du df dw i t).1 j).toInt ∧ ((rdX w db du df dw i t).1 j).toInt ≤ 99999) ∧ ∀ b, b < 13 → 0 ≤ ((rdX w db du df dw i t).2 b).toInt ∧ ((rdX w db du df dw i t).2 b).toInt ≤ B := by
  rw [rdX]
  by_cases q : dw i = w
  · rw [if_pos q]
    obtain ⟨⟨-, hb⟩, -, hf⟩ := hd
    have a1 := h.2 _ hb
    have a2 := h.1 _ hf
    obtain ⟨u1, u2⟩ := hu
    have a3 : 0 ≤ (mn (du i) (t.2 (db i).toNatClampNeg)).toInt ∧ (mn (du i) (t.2 (db i).toNatClampNeg)).toInt ≤ 9999 ∧ (mn (du i) (t.2 (db i).toNatClampNeg)).toInt ≤ (t.2 (db i).toNatClampNeg).toInt := by
      rw [mn_i]; omega
    have e9 : (99999 : Int32).toInt = 99999 := by decide
    refine ⟨fun j hj => ?_, fun b hb => ?_⟩
    · show 0 ≤ (bbS t.1 _ _ j).toInt ∧ (bbS t.1 _ _ j).toInt ≤ 99999
      rw [bbS, upd_i]
      by_cases q2 : j = (df i).toNatClampNeg
      · rw [if_pos q2, mn_i, i_add (by omega) (by omega), e9]; omega
      · rw [if_neg q2]; exact h.1 j hj
    · show 0 ≤ (bbB t.2 _ _ b).toInt ∧ (bbB t.2 _ _ b).toInt ≤ B
      rw [bbB, upd_i]
      by_cases q2 : b = (db i).toNatClampNeg
      · rw [if_pos q2, i_sub (by omega) (by omega)]; omega
      · rw [if_neg q2]; exact h.2 b hb
  · rw [if_neg q]; exact h
theorem rds_b {w : Int32} {dr : Nat} {db du df dw : Nat → Int32} {B : Int} (hB : B ≤ 100000000) (hu : ∀ i, i < dr → dUk du i) (hd : ∀ i, i < dr → dOk db df i) {t : (Nat → Int32) × (Nat → Int32)}
    (h : (∀ i, i < 12 → 0 ≤ (t.1 i).toInt ∧ (t.1 i).toInt ≤ 99999) ∧ ∀ b, b < 13 → 0 ≤ (t.2 b).toInt ∧ (t.2 b).toInt ≤ B) :
    (∀ j, j < 12 → 0 ≤ ((rdsX w dr db du df dw t).1 j).toInt ∧ ((rdsX w dr db du df dw t).1 j).toInt ≤ 99999) ∧ ∀ b, b < 13 → 0 ≤ ((rdsX w dr db du df dw t).2 b).toInt ∧ ((rdsX w dr db du df dw t).2 b).toInt ≤ B := by
  have key : ∀ j, j ≤ dr → (∀ i, i < 12 → 0 ≤ ((itz (rdX w db du df dw) j t).1 i).toInt ∧ ((itz (rdX w db du df dw) j t).1 i).toInt ≤ 99999) ∧ ∀ b, b < 13 → 0 ≤ ((itz (rdX w db du df dw) j t).2 b).toInt ∧ ((itz (rdX w db du df dw) j t).2 b).toInt ≤ B := by
    intro j
    induction j with
    | zero => intro _; exact h
    | succ j ih =>
      intro hj
      rw [itz_s]
      exact rd1_b hB (hu j (by omega)) (ih (by omega)) (hd j (by omega))
  exact key dr (Nat.le_refl _)
theorem rdY_b {x : Int32} {w dr : Nat} {db du df dw : Nat → Int32} (hw : w ≤ 200) (hu : ∀ i, i < dr → dUk du i) (hd : ∀ i, i < dr → dOk db df i) {t : S5} (h : gdS w t) : gdS w (rdY x dr db du df dw t) := by
  obtain ⟨h1, h2, h3⟩ := h
  obtain ⟨k1, k2⟩ := rds_b (w := x) (dw := dw) (t := (t.1, t.2.2.2.1)) (B := 100000 * w) (by omega) hu hd ⟨h1, h3⟩
  exact ⟨k1, h2, k2⟩
/-- what the told weeks are -/
def heK (he : Nat → Int32) (w : Nat) : Prop := 0 ≤ (he w).toInt ∧ (he w).toInt ≤ 9
theorem st_b {n w dr : Nat} {k : Int32} {wl fd kd sz lk he si db du df dw : Nat → Int32} {t : S5} (hp : gdP k wl fd kd sz lk) (hn : 2 ≤ n) (hm : n ≤ 12) (hh : heK he w) (hw : w ≤ 120) (hu : ∀ i, i < dr → dUk du i) (hd : ∀ i, i < dr → dOk db df i) (ht : gdS w t) :
    gdS (w + 1) (stpY n k wl fd kd sz lk he si dr db du df dw w t) := rdY_b (by omega) hu hd (wk_b hp hn hm hh.1 hh.2 hw ht)
theorem zY_b {bs : Nat → Int32} (hb : ∀ i, i < 12 → 0 ≤ (bs i).toInt ∧ (bs i).toInt ≤ 99999) : gdS 0 (zY bs) := ⟨hb, fun _ _ => ⟨Int.le_refl 0, Int.le_refl 0⟩, fun _ _ => ⟨Int.le_refl 0, Int.le_refl 0⟩⟩
theorem rp_b {n dr : Nat} {k : Int32} {bs wl fd kd sz lk he si db du df dw : Nat → Int32} (hp : gdP k wl fd kd sz lk) (hn : 2 ≤ n) (hm : n ≤ 12) (hb : ∀ i, i < 12 → 0 ≤ (bs i).toInt ∧ (bs i).toInt ≤ 99999) (hu : ∀ i, i < dr → dUk du i) (hd : ∀ i, i < dr → dOk db df i) :
    ∀ q, q ≤ 121 → (∀ w, w < q → heK he w) → gdS q (rpY n k bs wl fd kd sz lk he si dr db du df dw q) := by
  intro q
  induction q with
  | zero => intro _ _; exact zY_b hb
  | succ q ih =>
    intro hq hh
    exact st_b hp hn hm (hh q (by omega)) (by omega) hu hd (ih (by omega) (fun w hw => hh w (by omega)))
theorem nn_le {x : Int32} (h : 0 ≤ x.toInt) : 0 ≤ x := by rw [Int32.le_iff_toInt_le, z_i]; exact h
/-- dredging ahead of the first week does nothing -/
theorem rds0 {w : Int32} {dr : Nat} {sd db du df dw : Nat → Int32} (hu : ∀ i, i < dr → dUk du i) (hd : ∀ i, i < dr → dOk db df i) (hs : ∀ i, i < 12 → (sd i).toInt ≤ 99999) : rdsX w dr db du df dw (sd, fun _ => 0) = (sd, fun _ => 0) := by
  have key : ∀ j, j ≤ dr → itz (rdX w db du df dw) j (sd, fun _ => 0) = (sd, fun _ => 0) := by
    intro j
    induction j with
    | zero => intro _; rfl
    | succ j ih =>
      intro hj
      rw [itz_s, ih (by omega), rdX]
      by_cases q : dw j = w
      · rw [if_pos q]
        have e1 : mn (du j) 0 = 0 := by
          rw [mn_ge, if_pos (nn_le (hu j (by omega)).1)]
        have e2 : bbB (fun _ => (0 : Int32)) (db j).toNatClampNeg 0 = fun _ => 0 := by
          funext i
          rw [bbB, upd_i, Int32.sub_zero]
          by_cases q2 : i = (db j).toNatClampNeg
          · rw [if_pos q2]
          · rw [if_neg q2]
        have e3 : bbS sd (df j).toNatClampNeg 0 = sd := by
          rw [bbS, Int32.add_zero, mn_le, if_pos, upd_self]
          rw [Int32.le_iff_toInt_le]
          exact hs _ (hd j (by omega)).2.2
        show (bbS sd (df j).toNatClampNeg (mn (du j) 0), bbB (fun _ => (0 : Int32)) (db j).toNatClampNeg (mn (du j) 0)) = _
        rw [e1, e2, e3]
      · rw [if_neg q]
  exact key dr (Nat.le_refl _)
