/-! sums and searches -/
theorem itz_c {S : Type} {f g : Nat → S → S} {s : S} : ∀ {k : Nat}, (∀ i, i < k → ∀ t, f i t = g i t) → itz f k s = itz g k s := by
  intro k
  induction k with
  | zero => intro _; rfl
  | succ k ih =>
    intro h
    rw [itz_s, itz_s, ih (fun i hi => h i (by omega)), h k (by omega)]
theorem itf_c {S : Type} {f g : Nat → S → S} {s : S} {a : Nat} : ∀ {k : Nat}, (∀ i, i < k → ∀ t, f (a + i) t = g (a + i) t) → itf f a k s = itf g a k s := by
  intro k
  induction k with
  | zero => intro _; rfl
  | succ k ih =>
    intro h
    rw [itf_s, itf_s, ih (fun i hi => h i (by omega)), h k (by omega)]
theorem pr_eq (x : Int32) (oc : Nat → Int32) {i : Nat} (hi : i < 32) (a : Int32) : prM x oc i a = prS x oc i a := by
  rw [prM, prS]
  cases hb : bt x i
  · rw [if_pos ((and_sh hi).mpr hb), if_neg, Int32.add_zero]
    intro z
    rw [shr_11 hi, hb] at z
    exact absurd z (by decide)
  · rw [if_pos ((shr_11 hi).mpr hb), if_neg]
    intro z
    rw [and_sh hi, hb] at z
    exact absurd z (by decide)
theorem prs_eq (x : Int32) (oc : Nat → Int32) {wk : Nat} (hw : wk ≤ 6) : itz (prM x oc) wk 0 = itz (prS x oc) wk 0 := itz_c (fun i hi t => pr_eq x oc (by omega) t)
theorem im1 : (-1 : Int32).toInt = -1 := by decide
theorem lm1 : (-1 : Int32) < 0 := by decide
theorem wb_1 {wk j : Nat} {oc : Nat → Int32} {KP KM : Int32 → Bool} (hw : wk ≤ 6) (hk1 : KP (nI j) = KM (nI j)) {t : Int32 × Int32} (h2 : t.1 = -1 ∨ 0 ≤ t.1.toInt) : wmB wk oc KM j t = wkB wk oc KP j t := by
  rw [wmB, wkB, prs_eq _ _ hw, hk1]
  rcases h2 with q | q
  · have n1 : t.1 < 0 := by rw [q]; exact lm1
    rw [if_pos n1, if_pos q]
  · have n1 : ¬ t.1 < 0 := fun z => by rw [Int32.lt_iff_toInt_lt, z_i] at z; omega
    have n2 : ¬ t.1 = -1 := fun z => by rw [z, im1] at q; omega
    rw [if_neg n1, if_neg n2]
theorem wb_2 {wk j : Nat} {oc : Nat → Int32} {KP : Int32 → Bool} (hn : 0 ≤ (nI j).toInt) {t : Int32 × Int32} (h2 : t.1 = -1 ∨ 0 ≤ t.1.toInt) : (wkB wk oc KP j t).1 = -1 ∨ 0 ≤ (wkB wk oc KP j t).1.toInt := by
  rw [wkB]
  generalize itz (prS (nI j) oc) wk 0 = pr
  by_cases q : t.1 = -1
  · rw [if_pos q]
    by_cases q2 : bI (KP (nI j)) = 0
    · rw [if_pos q2]; exact h2
    · rw [if_neg q2]; exact Or.inr hn
  · rw [if_neg q]
    by_cases q3 : t.2 ≤ pr
    · rw [if_pos q3]; exact h2
    · rw [if_neg q3]
      by_cases q2 : bI (KP (nI j)) = 0
      · rw [if_pos q2]; exact h2
      · rw [if_neg q2]; exact Or.inr hn
theorem nI_nn {j : Nat} (h : j < 64) : 0 ≤ (nI j).toInt := by
  rw [nI_toInt (by omega)]; omega
theorem wb_eq {wk : Nat} {oc : Nat → Int32} {KP KM : Int32 → Bool} (hw : wk ≤ 6) (N : Nat) (hN : N ≤ 64) (hk : ∀ q, q < N → KP (nI q) = KM (nI q)) (t0 : Int32 × Int32) (ht : t0.1 = -1) : ∀ j, j ≤ N → itz (wmB wk oc KM) j t0 = itz (wkB wk oc KP) j t0 ∧ ((itz (wkB wk oc KP) j t0).1 = -1 ∨ 0 ≤ (itz (wkB wk oc KP) j t0).1.toInt) := by
  intro j
  induction j with
  | zero => intro _; rw [itz_0, itz_0]; exact ⟨rfl, Or.inl ht⟩
  | succ j ih =>
    intro hj
    have hj2 : j < 64 := Nat.lt_of_lt_of_le hj hN
    obtain ⟨h1, h2⟩ := ih (Nat.le_of_succ_le hj)
    rw [itz_s, itz_s, h1]
    exact ⟨wb_1 hw (hk j hj) h2, wb_2 (nI_nn hj2) h2⟩
theorem ft_eq {KF KM : Int32 → Bool} (hk : ∀ q, 1 ≤ q → q ≤ 9 → KF (nI q) = KM (nI q)) : itf (fmS KM) 1 9 0 = itf (ftS KF) 1 9 0 := by
  refine itf_c (fun i hi t => ?_)
  rw [fmS, ftS, hk (1 + i) (by omega) (by omega)]
  by_cases q : bI (KM (nI (1 + i))) = 0
  · rw [if_pos q, if_pos q, Int32.or_zero]
  · rw [if_neg q, if_neg q]
theorem allB_c {f g : Nat → Bool} : ∀ {n : Nat}, (∀ i, i < n → f i = g i) → allB f n = allB g n := by
  intro n
  induction n with
  | zero => intro _; rfl
  | succ n ih =>
    intro h
    show (allB f n && f n) = (allB g n && g n)
    rw [ih (fun i hi => h i (by omega)), h n (by omega)]
theorem sum_ab (sd se ba : Nat → Int32) : ∀ j, itz (siS sd se ba) j 0 = itz (saM sd se) j 0 + itz (sbM ba) j 0 := by
  intro j
  induction j with
  | zero => rfl
  | succ j ih =>
    rw [itz_s, itz_s, itz_s, siS, saM, sbM, ih]
    generalize itz (saM sd se) j 0 = a
    generalize itz (sbM ba) j 0 = b
    rw [Int32.add_assoc, Int32.add_assoc a, ← Int32.add_assoc b, Int32.add_comm b, Int32.add_assoc (sd j + se j)]
theorem sb_a (ba : Nat → Int32) (a : Int32) : ∀ j, itz (sbM ba) j a = a + itz (sbM ba) j 0 := by
  intro j
  induction j with
  | zero => show a = a + 0; rw [Int32.add_zero]
  | succ j ih => rw [itz_s, itz_s, sbM, sbM, ih, Int32.add_assoc]
theorem sb_0 {ba : Nat → Int32} {n : Nat} (h : ∀ i, i < 13 → n ≤ i → ba i = 0) : ∀ j, n + j ≤ 13 → itz (sbM ba) (n + j) 0 = itz (sbM ba) n 0 := by
  intro j
  induction j with
  | zero => intro _; rfl
  | succ j ih =>
    intro hj
    rw [← Nat.add_assoc, itz_s, sbM, ih (by omega), h (n + j) (by omega) (by omega), Int32.add_zero]
theorem sum_eq {sd se ba : Nat → Int32} {n : Nat} (hm : n ≤ 12) (h : ∀ i, i < 13 → n ≤ i → ba i = 0) : itz (sbM ba) 13 (itz (saM sd se) n 0) = itz (siS sd se ba) n 0 := by
  have e := sb_0 h (13 - n) (by omega)
  rw [show n + (13 - n) = 13 by omega] at e
  rw [sb_a, e, sum_ab]
/-! the shore of now is the begin gone through -/
theorem rds_no {w : Int32} {dr : Nat} {db du df dw : Nat → Int32} (h : ∀ i, i < dr → ¬ dw i = w) (t : (Nat → Int32) × (Nat → Int32)) : rdsX w dr db du df dw t = t := by
  have key : ∀ j, j ≤ dr → itz (rdX w db du df dw) j t = t := by
    intro j
    induction j with
    | zero => intro _; rfl
    | succ j ih =>
      intro hj
      rw [itz_s, ih (by omega), rdX, if_neg (h j (by omega))]
  exact key dr (Nat.le_refl _)
theorem rdY_no {w : Int32} {dr : Nat} {db du df dw : Nat → Int32} (h : ∀ i, i < dr → ¬ dw i = w) (t : S5) : rdY w dr db du df dw t = t := by
  rw [rdY, rds_no h]
theorem rp_c {n dr : Nat} {k : Int32} {bs wl fd kd sz lk he si he' si' db du df dw : Nat → Int32} {q : Nat} (h1 : ∀ w, w < q → he' w = he w) (h2 : ∀ w, w < q → si' w = si w) : rpY n k bs wl fd kd sz lk he' si' dr db du df dw q = rpY n k bs wl fd kd sz lk he si dr db du df dw q := by
  refine itz_c (fun i hi t => ?_)
  rw [stpY, stpY, h1 i hi, h2 i hi]
/-- weeks go by -/
theorem rp_w {n dr : Nat} {k : Int32} {bs wl fd kd sz lk he si db du df dw : Nat → Int32} {g : Nat} (hg : g ≤ 120) (hd : ∀ i, i < dr → dw i = nI (dw i).toNatClampNeg ∧ (dw i).toNatClampNeg ≤ g) :
    ∀ q, g + q ≤ 120 → rpY n k bs wl fd kd sz lk he si dr db du df dw (g + q) = itf (nwY n k wl fd kd sz lk he si) g q (rpY n k bs wl fd kd sz lk he si dr db du df dw g) := by
  intro q
  induction q with
  | zero => intro _; rfl
  | succ q ih =>
    intro hq
    have e : rpY n k bs wl fd kd sz lk he si dr db du df dw (g + (q + 1)) = stpY n k wl fd kd sz lk he si dr db du df dw (g + q) (rpY n k bs wl fd kd sz lk he si dr db du df dw (g + q)) := rfl
    rw [e, ih (by omega), itf_s, stpY, rdY_no, nwY]
    intro i hi z
    obtain ⟨a1, a2⟩ := hd i hi
    rw [a1, nI_1] at z
    have := (nI_eq (by omega) (by omega)).mp z
    omega
theorem rdX_c {w : Int32} {db du df dw db' du' df' dw' : Nat → Int32} {i : Nat} (h : db' i = db i ∧ du' i = du i ∧ df' i = df i ∧ dw' i = dw i) (t : (Nat → Int32) × (Nat → Int32)) : rdX w db' du' df' dw' i t = rdX w db du df dw i t := by
  obtain ⟨h1, h2, h3, h4⟩ := h
  rw [rdX, rdX, h1, h2, h3, h4]
theorem rds_up {w : Int32} {dr : Nat} {db du df dw : Nat → Int32} (a b c d : Int32) (t : (Nat → Int32) × (Nat → Int32)) : rdsX w (dr + 1) (upd db dr a) (upd du dr b) (upd df dr c) (upd dw dr d) t = rdX w (upd db dr a) (upd du dr b) (upd df dr c) (upd dw dr d) dr (rdsX w dr db du df dw t) := by
  rw [rdsX, itz_s]
  congr 1
  refine itz_c (fun i hi s => rdX_c ?_ s)
  rw [upd_i, upd_i, upd_i, upd_i, if_neg (by omega), if_neg (by omega), if_neg (by omega), if_neg (by omega)]
  exact ⟨rfl, rfl, rfl, rfl⟩
theorem rdY_up0 {w : Int32} {dr : Nat} {db du df dw : Nat → Int32} (a b c d : Int32) (hd : ¬ d = w) (t : S5) : rdY w (dr + 1) (upd db dr a) (upd du dr b) (upd df dr c) (upd dw dr d) t = rdY w dr db du df dw t := by
  have e : ∀ u, rdX w (upd db dr a) (upd du dr b) (upd df dr c) (upd dw dr d) dr u = u := by
    intro u
    rw [rdX, if_neg]
    rw [upd_i, if_pos rfl]; exact hd
  rw [rdY, rds_up, e, rdY]
theorem rdY_up1 {w : Int32} {dr : Nat} {db du df dw : Nat → Int32} (a b c : Int32) (t : S5) : rdY w (dr + 1) (upd db dr a) (upd du dr b) (upd df dr c) (upd dw dr w) t =
    (bbS (rdY w dr db du df dw t).1 c.toNatClampNeg (mn b ((rdY w dr db du df dw t).2.2.2.1 a.toNatClampNeg)), (rdY w dr db du df dw t).2.1, (rdY w dr db du df dw t).2.2.1, bbB (rdY w dr db du df dw t).2.2.2.1 a.toNatClampNeg (mn b ((rdY w dr db du df dw t).2.2.2.1 a.toNatClampNeg)), (rdY w dr db du df dw t).2.2.2.2) := by
  have e : ∀ u, rdX w (upd db dr a) (upd du dr b) (upd df dr c) (upd dw dr w) dr u = (bbS u.1 c.toNatClampNeg (mn b (u.2 a.toNatClampNeg)), bbB u.2 a.toNatClampNeg (mn b (u.2 a.toNatClampNeg))) := by
    intro u
    have e1 : upd dw dr w dr = w := by rw [upd_i, if_pos rfl]
    have e2 : upd db dr a dr = a := by rw [upd_i, if_pos rfl]
    have e3 : upd du dr b dr = b := by rw [upd_i, if_pos rfl]
    have e4 : upd df dr c dr = c := by rw [upd_i, if_pos rfl]
    rw [rdX, if_pos e1, e2, e3, e4]
  rw [rdY, rds_up, e]
  rfl
/-- a dredging is told, and done -/
theorem rp_d {n dr : Nat} {k : Int32} {bs wl fd kd sz lk he si db du df dw : Nat → Int32} {g : Nat} (hg : g ≤ 120) (a b c : Int32) (hb : 0 ≤ b.toInt) (hs : (bs c.toNatClampNeg).toInt ≤ 99999) :
    rpY n k bs wl fd kd sz lk he si (dr + 1) (upd db dr a) (upd du dr b) (upd df dr c) (upd dw dr (nI g)) g =
      (bbS (rpY n k bs wl fd kd sz lk he si dr db du df dw g).1 c.toNatClampNeg (mn b ((rpY n k bs wl fd kd sz lk he si dr db du df dw g).2.2.2.1 a.toNatClampNeg)), (rpY n k bs wl fd kd sz lk he si dr db du df dw g).2.1, (rpY n k bs wl fd kd sz lk he si dr db du df dw g).2.2.1, bbB (rpY n k bs wl fd kd sz lk he si dr db du df dw g).2.2.2.1 a.toNatClampNeg (mn b ((rpY n k bs wl fd kd sz lk he si dr db du df dw g).2.2.2.1 a.toNatClampNeg)), (rpY n k bs wl fd kd sz lk he si dr db du df dw g).2.2.2.2) := by
  have key : ∀ q, q < g → rpY n k bs wl fd kd sz lk he si (dr + 1) (upd db dr a) (upd du dr b) (upd df dr c) (upd dw dr (nI g)) q = rpY n k bs wl fd kd sz lk he si dr db du df dw q := by
    intro q hq
    refine itz_c (fun i hi t => ?_)
    rw [stpY, stpY, rdY_up0]
    intro z
    rw [nI_1] at z
    have := (nI_eq (by omega) (by omega)).mp z
    omega
  rcases Nat.eq_zero_or_pos g with q | q
  · subst q
    show zY bs = (bbS bs c.toNatClampNeg (mn b 0), (fun _ => 0), (fun _ => 0), bbB (fun _ => 0) a.toNatClampNeg (mn b 0), (fun _ => 0))
    have e1 : mn b 0 = 0 := by rw [mn_ge, if_pos (nn_le hb)]
    have e2 : bbB (fun _ => (0 : Int32)) a.toNatClampNeg 0 = fun _ => 0 := by
      funext i
      rw [bbB, upd_i, Int32.sub_zero]
      by_cases q2 : i = a.toNatClampNeg
      · rw [if_pos q2]
      · rw [if_neg q2]
    have e3 : bbS bs c.toNatClampNeg 0 = bs := by
      rw [bbS, Int32.add_zero, mn_le, if_pos, upd_self]
      rw [Int32.le_iff_toInt_le]
      exact hs
    rw [e1, e2, e3]
    rfl
  · obtain ⟨m, rfl⟩ : ∃ m, g = m + 1 := ⟨g - 1, by omega⟩
    have e1 : ∀ (dr' : Nat) (db' du' df' dw' : Nat → Int32), rpY n k bs wl fd kd sz lk he si dr' db' du' df' dw' (m + 1) = rdY (nI m + 1) dr' db' du' df' dw' (wkY n k wl fd kd sz lk (he m) (si m) (rpY n k bs wl fd kd sz lk he si dr' db' du' df' dw' m)) := fun _ _ _ _ _ => rfl
    rw [e1, key m (by omega), ← nI_1, rdY_up1, ← e1]
