theorem b_1 (i : Nat) : bt 1 i = decide (i = 0) := by
  rcases Nat.lt_or_ge i 32 with h | h
  · exact (by decide +kernel : ∀ i, i < 32 → bt 1 i = decide (i = 0)) i h
  · rw [b_big h, decide_eq_false (by omega)]
theorem and_1 (y : Int32) : y &&& 1 = bI (bt y 0) := by
  apply b_ext
  intro i hi
  rw [b_and, b_1]
  cases h : bt y 0
  · show _ = bt 0 i
    rw [b_0]
    by_cases q : i = 0
    · rw [q, h, Bool.false_and]
    · rw [decide_eq_false q, Bool.and_false]
  · show _ = bt 1 i
    rw [b_1]
    by_cases q : i = 0
    · rw [q, h, Bool.true_and]
    · rw [decide_eq_false q, Bool.and_false]
theorem shr_1 (x : Int32) {b : Nat} (hb : b < 32) : (x >>> (nI b &&& 31)) &&& 1 = bI (bt x b) := by
  rw [and_1, b_sshr b hb x (by decide), if_pos (by omega)]
  rfl
theorem shr_0 {x : Int32} {b : Nat} (hb : b < 32) : (x >>> (nI b &&& 31)) &&& 1 = 0 ↔ bt x b = false := by
  rw [shr_1 x hb]
  cases bt x b <;> decide
theorem shr_11 {x : Int32} {b : Nat} (hb : b < 32) : (x >>> (nI b &&& 31)) &&& 1 = 1 ↔ bt x b = true := by
  rw [shr_1 x hb]
  cases bt x b <;> decide
theorem b_sh1 {b i : Nat} (hb : b < 32) (hi : i < 32) : bt ((1 : Int32) <<< (nI b &&& 31)) i = decide (i = b) := by
  rw [b_shl b hb 1 hi, b_1]
  by_cases q : i = b
  · rw [q, decide_eq_true (Nat.le_refl b), Nat.sub_self, decide_eq_true (show b = b from rfl)]; rfl
  · rw [decide_eq_false q]
    by_cases q2 : b ≤ i
    · rw [decide_eq_true q2, decide_eq_false (by omega)]; rfl
    · rw [decide_eq_false q2]; rfl
theorem and_sh {x : Int32} {b : Nat} (hb : b < 32) : x &&& (1 <<< (nI b &&& 31)) = 0 ↔ bt x b = false := by
  constructor
  · intro h
    have e : bt (x &&& (1 <<< (nI b &&& 31))) b = false := by rw [h, b_0]
    rw [b_and, b_sh1 hb hb, decide_eq_true rfl, Bool.and_true] at e
    exact e
  · intro h
    apply b_ext
    intro i hi
    rw [b_and, b_sh1 hb hi, b_0]
    by_cases q : i = b
    · rw [q, h, Bool.false_and]
    · rw [decide_eq_false q, Bool.and_false]
theorem allB_iff {f : Nat → Bool} : ∀ {n : Nat}, allB f n = true ↔ ∀ i, i < n → f i = true := by
  intro n
  induction n with
  | zero => exact ⟨fun _ i h => absurd h (Nat.not_lt_zero i), fun _ => rfl⟩
  | succ n ih =>
    show (allB f n && f n) = true ↔ _
    rw [Bool.and_eq_true, ih]
    constructor
    · rintro ⟨h1, h2⟩ i hi
      by_cases e : i = n
      · rw [e]; exact h2
      · exact h1 i (by omega)
    · exact fun h => ⟨fun i hi => h i (by omega), h n (by omega)⟩
/-- every bit is a groyne's -/
def groB (n : Nat) (kd : Nat → Int32) (x : Int32) : Prop := ∀ i, i < 32 → bt x i = true → 1 ≤ i ∧ i < n ∧ kd i = 1
theorem hg_bt (kd : Nat → Int32) (x : Int32) : ∀ j, j ≤ 30 → ∀ i, i < 32 → bt (itf (hgS kd) 1 j x) i = (bt x i && !(decide (1 ≤ i) && decide (i ≤ j) && (if kd i = 1 then true else false))) := by
  intro j
  induction j with
  | zero =>
    intro _ i hi
    show bt x i = _
    by_cases q : 1 ≤ i
    · rw [decide_eq_false (show ¬ i ≤ 0 by omega), Bool.and_false, Bool.false_and, Bool.not_false, Bool.and_true]
    · rw [decide_eq_false q, Bool.false_and, Bool.false_and, Bool.not_false, Bool.and_true]
  | succ j ih =>
    intro hj i hi
    rw [itf_s, hgS]
    by_cases q : kd (1 + j) = 1
    · rw [if_pos q, b_and, b_xor, b_sh1 (by omega) hi, b_m1 i hi, ih (by omega) i hi]
      by_cases e : i = 1 + j
      · rw [decide_eq_true e, e, if_pos q, decide_eq_true (show 1 ≤ 1 + j by omega), decide_eq_true (show 1 + j ≤ j + 1 by omega)]
        simp
      · rw [decide_eq_false e]
        by_cases e2 : i ≤ j
        · rw [decide_eq_true e2, decide_eq_true (show i ≤ j + 1 by omega)]; simp
        · rw [decide_eq_false e2, decide_eq_false (show ¬ i ≤ j + 1 by omega)]; simp
    · rw [if_neg q, ih (by omega) i hi]
      by_cases e : i = 1 + j
      · rw [e, if_neg q, Bool.and_false, Bool.and_false]
      · by_cases e2 : i ≤ j
        · rw [decide_eq_true e2, decide_eq_true (show i ≤ j + 1 by omega)]
        · rw [decide_eq_false e2, decide_eq_false (show ¬ i ≤ j + 1 by omega)]
theorem hasG_iff {n : Nat} {kd : Nat → Int32} {x : Int32} (hn : 2 ≤ n) (hm : n ≤ 12) : hasG n kd x = true ↔ groB n kd x := by
  have key : itf (hgS kd) 1 (n - 1) x = 0 ↔ groB n kd x := by
    constructor
    · intro h i hi hb
      have e := hg_bt kd x (n - 1) (by omega) i hi
      rw [h, b_0, hb, Bool.true_and] at e
      have e2 : (decide (1 ≤ i) && decide (i ≤ n - 1) && (if kd i = 1 then true else false)) = true := by
        cases hq : (decide (1 ≤ i) && decide (i ≤ n - 1) && (if kd i = 1 then true else false))
        · rw [hq] at e; exact absurd e (by decide)
        · rfl
      rw [Bool.and_eq_true, Bool.and_eq_true, decide_eq_true_iff, decide_eq_true_iff] at e2
      obtain ⟨⟨a1, a2⟩, a3⟩ := e2
      refine ⟨a1, by omega, ?_⟩
      split at a3
      · assumption
      · exact absurd a3 (by decide)
    · intro h
      apply b_ext
      intro i hi
      rw [hg_bt kd x (n - 1) (by omega) i hi, b_0]
      cases hb : bt x i
      · rfl
      · obtain ⟨a1, a2, a3⟩ := h i hi hb
        rw [decide_eq_true a1, decide_eq_true (show i ≤ n - 1 by omega), if_pos a3]; rfl
  rw [hasG]
  by_cases q : itf (hgS kd) 1 (n - 1) x = 0
  · rw [if_pos q]; exact ⟨fun _ => key.mp q, fun _ => rfl⟩
  · rw [if_neg q]; exact ⟨fun z => absurd z (by decide), fun z => absurd (key.mpr z) q⟩
theorem inI_nI {n b : Nat} (hm : n ≤ 12) (hb : b < 13) : inI n (nI b) = true ↔ 1 ≤ b ∧ b < n := by
  constructor
  · intro h
    have := inI_in hm h
    rw [nI_clamp (by omega)] at this
    exact this.2
  · rintro ⟨h1, h2⟩
    rw [inI, if_neg, if_neg (nI_ge h2 (by omega))]
    exact nI_nlt (a := b) (b := 1) h1 (by omega)
theorem ag_iff {n : Nat} {kd : Nat → Int32} {x : Int32} (hm : n ≤ 12) : allB (agB n kd x) 32 = true ↔ groB n kd x := by
  rw [allB_iff]
  constructor
  · intro h i hi hb
    have e := h i hi
    rw [agB, if_neg (fun z => by rw [shr_0 hi, hb] at z; exact absurd z (by decide))] at e
    by_cases q : 13 ≤ nI i
    · rw [if_pos q] at e; exact absurd e (by decide)
    · rw [if_neg q, Bool.and_eq_true] at e
      have h13 := lt13 hi q
      obtain ⟨a1, a2⟩ := (inI_nI hm h13).mp e.1
      refine ⟨a1, a2, ?_⟩
      have e2 := e.2
      split at e2
      · assumption
      · exact absurd e2 (by decide)
  · intro h i hi
    rw [agB]
    cases hb : bt x i
    · rw [if_pos ((shr_0 hi).mpr hb)]
    · obtain ⟨a1, a2, a3⟩ := h i hi hb
      rw [if_neg (fun z => by rw [shr_0 hi, hb] at z; exact absurd z (by decide)), if_neg (show ¬ (13 : Int32) ≤ nI i from nI_ge (a := i) (b := 13) (by omega) (by decide)), (inI_nI hm (by omega)).mpr ⟨a1, a2⟩, if_pos a3]
      rfl
theorem hasG_ag {n : Nat} (kd : Nat → Int32) (x : Int32) (hn : 2 ≤ n) (hm : n ≤ 12) : hasG n kd x = allB (agB n kd x) 32 := by
  cases h : hasG n kd x
  · cases h2 : allB (agB n kd x) 32
    · rfl
    · rw [(hasG_iff hn hm).mpr ((ag_iff hm).mp h2)] at h; exact absurd h (by decide)
  · rw [(ag_iff hm).mpr ((hasG_iff hn hm).mp h)]
/-! leaving groynes away -/
theorem la_cf (x : Int32) (kd sz lk : Nat → Int32) : ∀ j, j ≤ 30 → ∀ i, (itf (laS x) 1 j (kd, sz, lk)).1 i = (if 1 ≤ i ∧ i ≤ j ∧ bt x i = true then 0 else kd i) ∧ (itf (laS x) 1 j (kd, sz, lk)).2.1 i = (if 1 ≤ i ∧ i ≤ j ∧ bt x i = true then 0 else sz i) ∧ (itf (laS x) 1 j (kd, sz, lk)).2.2 i = (if 1 ≤ i ∧ i ≤ j ∧ bt x i = true then 0 else lk i) := by
  intro j
  induction j with
  | zero =>
    intro _ i
    rw [if_neg (by omega), if_neg (by omega), if_neg (by omega)]
    exact ⟨rfl, rfl, rfl⟩
  | succ j ih =>
    intro hj i
    obtain ⟨h1, h2, h3⟩ := ih (by omega) i
    rw [itf_s, laS]
    by_cases q : x &&& (1 <<< (nI (1 + j) &&& 31)) = 0
    · rw [if_pos q, h1, h2, h3]
      have hb := (and_sh (by omega)).mp q
      by_cases e : i = 1 + j
      · rw [if_neg (by omega), if_neg (by rw [e, hb]; rintro ⟨-, -, z⟩; exact absurd z (by decide)), if_neg (by omega), if_neg (by rw [e, hb]; rintro ⟨-, -, z⟩; exact absurd z (by decide)), if_neg (by omega), if_neg (by rw [e, hb]; rintro ⟨-, -, z⟩; exact absurd z (by decide))]
        exact ⟨rfl, rfl, rfl⟩
      · have ee : (1 ≤ i ∧ i ≤ j ∧ bt x i = true) ↔ (1 ≤ i ∧ i ≤ j + 1 ∧ bt x i = true) := by
          constructor
          · rintro ⟨a, b, c⟩; exact ⟨a, by omega, c⟩
          · rintro ⟨a, b, c⟩; exact ⟨a, by omega, c⟩
        by_cases q2 : 1 ≤ i ∧ i ≤ j ∧ bt x i = true
        · rw [if_pos q2, if_pos (ee.mp q2), if_pos q2, if_pos (ee.mp q2), if_pos q2, if_pos (ee.mp q2)]; exact ⟨rfl, rfl, rfl⟩
        · rw [if_neg q2, if_neg (fun z => q2 (ee.mpr z)), if_neg q2, if_neg (fun z => q2 (ee.mpr z)), if_neg q2, if_neg (fun z => q2 (ee.mpr z))]; exact ⟨rfl, rfl, rfl⟩
    · rw [if_neg q]
      have hb : bt x (1 + j) = true := by
        cases hh : bt x (1 + j)
        · exact absurd ((and_sh (by omega)).mpr hh) q
        · rfl
      show upd _ _ _ i = _ ∧ upd _ _ _ i = _ ∧ upd _ _ _ i = _
      rw [upd_i, upd_i, upd_i, h1, h2, h3]
      by_cases e : i = 1 + j
      · have p1 : 1 ≤ i ∧ i ≤ j + 1 ∧ bt x i = true := ⟨by omega, by omega, by rw [e]; exact hb⟩
        rw [if_pos e, if_pos p1, if_pos e, if_pos p1, if_pos e, if_pos p1]; exact ⟨rfl, rfl, rfl⟩
      · have ee : (1 ≤ i ∧ i ≤ j ∧ bt x i = true) ↔ (1 ≤ i ∧ i ≤ j + 1 ∧ bt x i = true) := by
          constructor
          · rintro ⟨a, b, c⟩; exact ⟨a, by omega, c⟩
          · rintro ⟨a, b, c⟩; exact ⟨a, by omega, c⟩
        rw [if_neg e, if_neg e, if_neg e]
        by_cases q2 : 1 ≤ i ∧ i ≤ j ∧ bt x i = true
        · rw [if_pos q2, if_pos (ee.mp q2), if_pos q2, if_pos (ee.mp q2), if_pos q2, if_pos (ee.mp q2)]; exact ⟨rfl, rfl, rfl⟩
        · rw [if_neg q2, if_neg (fun z => q2 (ee.mpr z)), if_neg q2, if_neg (fun z => q2 (ee.mpr z)), if_neg q2, if_neg (fun z => q2 (ee.mpr z))]; exact ⟨rfl, rfl, rfl⟩
