theorem g1_t {g : Nat} (hg : g ≤ 120) (h : nI g ≤ 0) : decide (g = 0) = true := by
  rw [decide_eq_true_iff]
  rcases Nat.eq_zero_or_pos g with q | q
  · exact q
  · exact absurd h (nI_nle q (by omega))
theorem g1_f {g : Nat} (hg : g ≤ 120) (h : ¬ nI g ≤ 0) : decide (g = 0) = false := by
  rw [decide_eq_false_iff_not]
  rintro rfl
  exact absurd (by decide) h
theorem de_f {a b : Nat} (hb : b < 2 ^ 31) (ha : a ≤ b) (h : nI a = nI b) : decide (a < b) = false := by
  rw [decide_eq_false_iff_not]
  have := (nI_eq (a := a) (b := b) (by omega) hb).mp h
  omega
theorem de_t {a b : Nat} (hb : b < 2 ^ 31) (ha : a ≤ b) (h : ¬ nI a = nI b) : decide (a < b) = true := by
  rw [decide_eq_true_iff]
  have : a ≠ b := fun q => h (by rw [q])
  omega
theorem dv_eq {td g : Nat} {x : Int32} (h : inR x 0 120 = true) (hg : g ≤ td) (ht : td ≤ 120) : nI g + x ≤ nI td ↔ g + x.toNatClampNeg ≤ td := by
  obtain ⟨hx, hl⟩ := inR_in (b := 120) h (by decide)
  generalize x.toNatClampNeg = q at hx hl
  subst hx
  rw [nI_add, nI_leI (by omega) (by omega)]
theorem dv_t {td g : Nat} {x : Int32} (h : inR x 0 120 = true) (hg : g ≤ td) (ht : td ≤ 120) (hx : nI g + x ≤ nI td) : decide (g + x.toNatClampNeg ≤ td) = true := by
  rw [decide_eq_true_iff]; exact (dv_eq h hg ht).mp hx
theorem dv_f {td g : Nat} {x : Int32} (h : inR x 0 120 = true) (hg : g ≤ td) (ht : td ≤ 120) (hx : ¬ nI g + x ≤ nI td) : decide (g + x.toNatClampNeg ≤ td) = false := by
  rw [decide_eq_false_iff_not]; exact fun q => hx ((dv_eq h hg ht).mpr q)
def sur2 (a b : Int32) : Bool := if a < 0 then false else if 9999 < b then false else if b < a then false else true
theorem sur2_eq (a b : Int32) : (inR a 0 9999 && inR b a 9999) = sur2 a b := by
  have e0 : (0 : Int32).toInt = 0 := rfl
  have e9 : (9999 : Int32).toInt = 9999 := by decide
  by_cases h1 : a < 0
  · simp only [inR, sur2, if_pos h1, Bool.false_and]
  · by_cases h2 : 9999 < b
    · by_cases h3 : b < a
      · simp only [inR, sur2, if_neg h1, if_pos h2, if_pos h3, Bool.and_false]
      · simp only [inR, sur2, if_neg h1, if_pos h2, if_neg h3, Bool.and_false]
    · by_cases h3 : b < a
      · simp only [inR, sur2, if_neg h1, if_neg h2, if_pos h3, Bool.and_false]
      · have h4 : ¬ 9999 < a := by
          rw [Int32.lt_iff_toInt_lt] at h2 h3 ⊢
          omega
        simp only [inR, sur2, if_neg h1, if_neg h2, if_neg h3, if_neg h4, Bool.and_true]
theorem okSur_M (n sv : Nat) (x w a b : Int32) : okSur n sv x w a b = (inF n x && inR w 1 120 && decide (sv < 20) && sur2 a b) := by
  rw [okSur, Bool.and_assoc, sur2_eq]
