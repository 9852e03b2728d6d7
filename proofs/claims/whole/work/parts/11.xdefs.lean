theorem inR_sp {v a b : Int32} (h : inR v a b = true) : ¬ v < a ∧ ¬ b < v := by
  unfold inR at h
  split at h
  · exact absurd h (by decide)
  · split at h
    · exact absurd h (by decide)
    · rename_i h1 h2
      exact ⟨h1, h2⟩
theorem inR_in {x : Int32} {b : Nat} (h : inR x 0 (nI b) = true) (hb : b < 2 ^ 30) : x = nI x.toNatClampNeg ∧ x.toNatClampNeg < b + 1 := by
  obtain ⟨h1, h2⟩ := inR_sp h
  rcases pk_ix x (n := b + 1) (by omega) with q | q | ⟨j, hj, rfl⟩
  · exact absurd q h1
  · refine absurd ?_ h2
    rw [Int32.lt_iff_toInt_lt, nI_toInt (by omega)]
    rw [Int32.le_iff_toInt_le, nI_toInt (by omega)] at q
    omega
  · rw [nI_clamp (by omega)]; exact ⟨rfl, hj⟩
theorem inR_lo {x b : Int32} (h : inR x 2 b = true) : inR x 0 b = true := by
  obtain ⟨h1, h2⟩ := inR_sp h
  rw [inR, if_neg (fun q => h1 ?_), if_neg h2]
  rw [Int32.lt_iff_toInt_lt] at q ⊢
  have e0 : (0 : Int32).toInt = 0 := rfl
  have e2 : (2 : Int32).toInt = 2 := rfl
  omega
