/-! the borders of class and model -/
/-- what the model keeps of a border, beside what the class keeps: kind, length, part; size, leak -/
def relP (kd sz lk le pt : Nat → Int32) (n b : Nat) : Prop :=
  (kd b = 0 ∨ kd b = 1 ∨ kd b = 2) ∧ (kd b = 1 → le b = sz b ∧ pt b = lk b ∧ 1 ≤ (sz b).toInt) ∧ (kd b = 2 → pt b = sz b) ∧ (¬ (1 ≤ b ∧ b < n) → kd b = 0)
theorem i01 : ¬ (0 : Int32) = 1 := by decide
theorem i02 : ¬ (0 : Int32) = 2 := by decide
theorem i12 : ¬ (1 : Int32) = 2 := by decide
theorem rel_0 {kd sz lk le pt : Nat → Int32} {n b : Nat} (hb : b < 13) (h : relP kd sz lk le pt n b) : relB kd sz lk kd (leM 0 kd le) pt b := by
  obtain ⟨-, h1, h2, -⟩ := h
  have e0 : ((0 : Int32) >>> (nI b &&& 31)) &&& 1 = 0 := (shr_0 (by omega)).mpr (b_0 b)
  refine ⟨fun q => ⟨?_, (h1 q).2.1⟩, fun q => ?_, Iff.rfl, h2⟩
  · rw [leM, if_pos q, if_pos e0]; exact (h1 q).1
  · rw [leM, if_neg q]
theorem rel_la {kd sz lk le pt : Nat → Int32} {n b : Nat} {x : Int32} (hm : n ≤ 12) (h1b : 1 ≤ b) (hb : b < n) (h : relP kd sz lk le pt n b) (hg : groB n kd x) : relB (laX x n kd sz lk).1 (laX x n kd sz lk).2.1 (laX x n kd sz lk).2.2 kd (leM x kd le) pt b := by
  obtain ⟨h0, h1, h2, -⟩ := h
  obtain ⟨e1, e2, e3⟩ := la_cf x kd sz lk (n - 1) (by omega) b
  have f1 : (laX x n kd sz lk).1 b = _ := e1
  have f2 : (laX x n kd sz lk).2.1 b = _ := e2
  have f3 : (laX x n kd sz lk).2.2 b = _ := e3
  unfold relB
  rw [f1, f2, f3]
  cases hb2 : bt x b
  · have hq : ¬ (1 ≤ b ∧ b ≤ n - 1 ∧ false = true) := by rintro ⟨-, -, z⟩; exact absurd z (by decide)
    rw [if_neg hq, if_neg hq, if_neg hq]
    refine ⟨fun q => ⟨?_, (h1 q).2.1⟩, fun q => ?_, Iff.rfl, h2⟩
    · rw [leM, if_pos q, if_pos ((shr_0 (by omega)).mpr hb2)]; exact (h1 q).1
    · rw [leM, if_neg q]
  · have hq : 1 ≤ b ∧ b ≤ n - 1 ∧ true = true := ⟨h1b, by omega, rfl⟩
    rw [if_pos hq, if_pos hq, if_pos hq]
    obtain ⟨-, -, k1⟩ := hg b (by omega) hb2
    refine ⟨fun q => absurd q i01, fun _ => ?_, ⟨fun q => absurd q i02, fun q => ?_⟩, fun q => absurd q i02⟩
    · rw [leM, if_pos k1, if_neg]
      intro z
      rw [shr_0 (by omega), hb2] at z
      exact absurd z (by decide)
    · rw [k1] at q; exact absurd q i12
theorem la_gdP {kd sz lk wl fd : Nat → Int32} {k x : Int32} {n : Nat} (hm : n ≤ 12) (h : gdP k wl fd kd sz lk) : gdP k wl fd (laX x n kd sz lk).1 (laX x n kd sz lk).2.1 (laX x n kd sz lk).2.2 := by
  obtain ⟨a1, a2, a3, a4⟩ := h
  refine ⟨a1, a2, a3, fun b hb => ?_⟩
  obtain ⟨e1, e2, e3⟩ := la_cf x kd sz lk (n - 1) (by omega) b
  have f1 : (laX x n kd sz lk).1 b = _ := e1
  have f2 : (laX x n kd sz lk).2.1 b = _ := e2
  have f3 : (laX x n kd sz lk).2.2 b = _ := e3
  rw [f1, f2, f3]
  by_cases q : 1 ≤ b ∧ b ≤ n - 1 ∧ bt x b = true
  · rw [if_pos q, if_pos q, if_pos q]
    exact ⟨fun z => absurd z i01, fun z => absurd z i02⟩
  · rw [if_neg q, if_neg q, if_neg q]
    exact a4 b hb
/-- the works of the class and of the model -/
theorem ao_eq {kd sz lk le pt bs ok op oa : Nat → Int32} {n wk : Nat} {x : Int32} (hm : n ≤ 12) (hw : wk ≤ 6) (hrel : ∀ b, b < 13 → relP kd sz lk le pt n b) (ho : ∀ i, i < wk → op i = nI (op i).toNatClampNeg ∧ (op i).toNatClampNeg < 12) (hk : ∀ i, i < wk → ¬ ok i = 0 → 1 ≤ (oa i).toInt) :
    ∀ j, j ≤ wk → (itz (mwS x ok op oa) j (bs, leM 0 kd le)).1 = (itz (aoS x n kd ok op oa) j (bs, sz)).1 ∧
      ∀ b, b < 13 → (kd b = 1 → (itz (mwS x ok op oa) j (bs, leM 0 kd le)).2 b = (itz (aoS x n kd ok op oa) j (bs, sz)).2 b ∧ 1 ≤ ((itz (aoS x n kd ok op oa) j (bs, sz)).2 b).toInt) ∧ (¬ kd b = 1 → (itz (mwS x ok op oa) j (bs, leM 0 kd le)).2 b = 0 ∧ (itz (aoS x n kd ok op oa) j (bs, sz)).2 b = sz b) := by
  intro j
  induction j with
  | zero =>
    intro _
    refine ⟨rfl, fun b hb => ⟨fun q => ?_, fun q => ?_⟩⟩
    · obtain ⟨r1, -, -⟩ := rel_0 hb (hrel b hb)
      exact ⟨(r1 q).1, ((hrel b hb).2.1 q).2.2⟩
    · obtain ⟨-, r1, -⟩ := rel_0 hb (hrel b hb)
      exact ⟨r1 q, rfl⟩
  | succ j ih =>
    intro hj
    obtain ⟨h1, h2⟩ := ih (by omega)
    rw [itz_s, itz_s]
    generalize itz (mwS x ok op oa) j (bs, leM 0 kd le) = M at h1 h2 ⊢
    generalize itz (aoS x n kd ok op oa) j (bs, sz) = X at h1 h2 ⊢
    rw [mwS, aoS]
    by_cases q : x &&& (1 <<< (nI j &&& 31)) = 0
    · have hb := (and_sh (by omega)).mp q
      rw [if_pos q, if_neg (fun z => by rw [shr_11 (by omega), hb] at z; exact absurd z (by decide))]
      exact ⟨h1, h2⟩
    · have hb : bt x j = true := by
        cases hh : bt x j
        · exact absurd ((and_sh (by omega)).mpr hh) q
        · rfl
      rw [if_neg q, if_pos ((shr_11 (by omega)).mpr hb), ao1]
      obtain ⟨o1, o2⟩ := ho j (by omega)
      by_cases q0 : ok j = 0
      · rw [if_pos q0, if_pos q0]
        refine ⟨?_, h2⟩
        show brM M.1 _ _ = bbS X.1 _ _
        rw [brM, bbS, mn_cap, h1]
      · rw [if_neg q0, if_neg q0]
        have hp := h2 (op j).toNatClampNeg (by omega)
        have hr := hrel (op j).toNatClampNeg (by omega)
        by_cases k1 : kd (op j).toNatClampNeg = 1
        · have hin : 1 ≤ (op j).toNatClampNeg ∧ (op j).toNatClampNeg < n := by
            by_cases z : 1 ≤ (op j).toNatClampNeg ∧ (op j).toNatClampNeg < n
            · exact z
            · have := hr.2.2.2 z
              rw [this] at k1; exact absurd k1 i01
          have hA : hasA n kd (op j) 1 = true := by
            rw [hasA, if_pos k1, Bool.and_true, o1]
            exact (inI_nI hm (by omega)).mpr hin
          obtain ⟨p1, p2⟩ := hp.1 k1
          have hle : ¬ M.2 (op j).toNatClampNeg ≤ 0 := by
            rw [Int32.le_iff_toInt_le, z_i, p1]; omega
          rw [hA, if_neg hle]
          show M.1 = X.1 ∧ ∀ b, b < 13 → (kd b = 1 → upd M.2 (op j).toNatClampNeg (oa j) b = upd X.2 (op j).toNatClampNeg (oa j) b ∧ 1 ≤ (upd X.2 (op j).toNatClampNeg (oa j) b).toInt) ∧ (¬ kd b = 1 → upd M.2 (op j).toNatClampNeg (oa j) b = 0 ∧ upd X.2 (op j).toNatClampNeg (oa j) b = sz b)
          refine ⟨h1, fun b hb => ?_⟩
          rw [upd_i, upd_i]
          by_cases e : b = (op j).toNatClampNeg
          · rw [if_pos e, if_pos e]
            exact ⟨fun _ => ⟨rfl, hk j (by omega) q0⟩, fun z => absurd (by rw [e]; exact k1) z⟩
          · rw [if_neg e, if_neg e]; exact h2 b hb
        · have hA : hasA n kd (op j) 1 = false := by rw [hasA, if_neg k1, Bool.and_false]
          have hle : M.2 (op j).toNatClampNeg ≤ 0 := by
            rw [(hp.2 k1).1]; exact (by decide : (0 : Int32) ≤ 0)
          rw [hA, if_pos hle]
          exact ⟨h1, h2⟩
theorem rel_ao {kd sz lk le pt bs ok op oa : Nat → Int32} {n wk b : Nat} {x : Int32} (hm : n ≤ 12) (hw : wk ≤ 6) (hrel : ∀ b, b < 13 → relP kd sz lk le pt n b) (ho : ∀ i, i < wk → op i = nI (op i).toNatClampNeg ∧ (op i).toNatClampNeg < 12) (hk : ∀ i, i < wk → ¬ ok i = 0 → 1 ≤ (oa i).toInt) (hb : b < 13) :
    relB kd (aoX x n kd ok op oa wk bs sz).2 lk kd (itz (mwS x ok op oa) wk (bs, leM 0 kd le)).2 pt b := by
  obtain ⟨-, h2⟩ := ao_eq (lk := lk) (pt := pt) (bs := bs) (x := x) hm hw hrel ho hk wk (Nat.le_refl _)
  obtain ⟨-, r1, r2, -⟩ := hrel b hb
  refine ⟨fun q => ⟨((h2 b hb).1 q).1, (r1 q).2.1⟩, fun q => ((h2 b hb).2 q).1, Iff.rfl, fun q => ?_⟩
  have hn1 : ¬ kd b = 1 := by rw [q]; decide
  have e : (aoX x n kd ok op oa wk bs sz).2 b = sz b := ((h2 b hb).2 hn1).2
  rw [e]; exact r2 q
/-! the border's answer -/
theorem bd_eq {kd sz lk le pt : Nat → Int32} {n b : Nat} (y : Int32) (ba pa : Nat → Int32) (h : relP kd sz lk le pt n b) : bmV y kd le pt ba pa b = bdV y kd sz lk ba pa b := by
  obtain ⟨h0, h1, h2, -⟩ := h
  have a10 : ¬ (1 : Int32) = 0 := by decide
  have a13 : ¬ (1 : Int32) = 3 := by decide
  have a20 : ¬ (2 : Int32) = 0 := by decide
  have a21 : ¬ (2 : Int32) = 1 := by decide
  have a23 : ¬ (2 : Int32) = 3 := by decide
  have a30 : ¬ (3 : Int32) = 0 := by decide
  have a31 : ¬ (3 : Int32) = 1 := by decide
  have a32 : ¬ (3 : Int32) = 2 := by decide
  have l11 : ¬ (1 : Int32) < 1 := by decide
  have l21 : ¬ (2 : Int32) < 1 := by decide
  have l22 : ¬ (2 : Int32) < 2 := by decide
  by_cases y0 : y = 0
  · simp only [bmV, bdV, if_pos y0]
  · by_cases y1 : y = 1
    · subst y1
      rcases h0 with q | q | q
      · simp only [bmV, bdV, q, if_neg a10, if_neg a13, if_neg l11, if_neg l21, if_true]
      · simp only [bmV, bdV, q, if_neg a10, if_neg a13, if_neg l11, if_neg l21, if_true]; exact (h1 q).1
      · simp only [bmV, bdV, q, if_neg a10, if_neg a13, if_neg l11, if_neg l21, if_neg a20, if_neg a21, if_true]; exact h2 q
    · by_cases y2 : y = 2
      · subst y2
        rcases h0 with q | q | q
        · simp only [bmV, bdV, q, if_neg a20, if_neg a21, if_neg a23, if_neg l21, if_neg l22, if_true, if_neg i01, if_neg i02]
        · simp only [bmV, bdV, q, if_neg a20, if_neg a21, if_neg a23, if_neg l21, if_neg l22, if_true, if_neg a10, if_neg i12]; exact (h1 q).2.1
        · simp only [bmV, bdV, q, if_neg a20, if_neg a21, if_neg a23, if_neg l21, if_neg l22, if_true]
      · by_cases y3 : y = 3
        · subst y3
          simp only [bmV, bdV, if_neg a30, if_neg a31, if_neg a32, if_true]
        · have e1 : (1 : Int32).toInt = 1 := by decide
          have e2 : (2 : Int32).toInt = 2 := by decide
          have n1 : y.toInt ≠ 1 := fun z => y1 (Int32.toInt_inj.mp (by rw [z, e1]))
          have n2 : y.toInt ≠ 2 := fun z => y2 (Int32.toInt_inj.mp (by rw [z, e2]))
          by_cases q : y < 1
          · simp only [bmV, bdV, if_neg y0, if_neg y1, if_neg y2, if_neg y3, if_pos q]
          · have q2 : 2 < y := by
              rw [Int32.lt_iff_toInt_lt] at q ⊢
              omega
            simp only [bmV, bdV, if_neg y0, if_neg y1, if_neg y2, if_neg y3, if_neg q, if_pos q2]
theorem kp_km (sd mk : Nat → Int32) (f : Nat) : kmB sd mk f = kpB sd mk f := by
  rw [kmB, kpB, ln]
  by_cases q : sd f / 10 < mk f
  · rw [if_pos q, if_neg (nle_iff.mpr q)]
  · rw [if_neg q, if_pos (nlt_iff.mp q)]
theorem ok_so (w : Int32) (vf vw vl vm sd : Nat → Int32) (i : Nat) : soB w vf vw vl vm sd i = okB w vf vw vl vm sd i := by
  rw [soB, okB, ln, inR]
  by_cases q : vw i = w
  · rw [if_pos q, if_pos q]
    by_cases q1 : sd (vf i).toNatClampNeg / 10 < vl i
    · rw [if_pos q1, if_pos q1]
    · rw [if_neg q1, if_neg q1]
      by_cases q2 : vm i < sd (vf i).toNatClampNeg / 10
      · rw [if_pos q2, if_neg (nle_iff.mpr q2)]
      · rw [if_neg q2, if_pos (nlt_iff.mp q2)]
  · rw [if_neg q, if_neg q]
