/-! the law's invariant -/
theorem inR_bd {v a b : Int32} {x y : Int} (h : inR v a b = true) (ha : a.toInt = x) (hb : b.toInt = y) : x ≤ v.toInt ∧ v.toInt ≤ y := by
  obtain ⟨h1, h2⟩ := inR_sp h
  rw [Int32.lt_iff_toInt_lt] at h1 h2
  omega
theorem upd_bd {f : Nat → Int32} {N p : Nat} {v : Int32} {x y : Int} (h : ∀ i, i < N → x ≤ (f i).toInt ∧ (f i).toInt ≤ y) (hv : x ≤ v.toInt ∧ v.toInt ≤ y) : ∀ i, i < N → x ≤ (upd f p v i).toInt ∧ (upd f p v i).toInt ≤ y := by
  intro i hi
  rw [upd_i]
  split
  · exact hv
  · exact h i hi
/-- one more at the end of a list -/
theorem upd_at {f : Nat → Int32} {N : Nat} {v : Int32} {p : Int32 → Prop} (h : ∀ i, i < N → p (f i)) (hv : p v) : ∀ i, i < N + 1 → p (upd f N v i) := by
  intro i hi
  rw [upd_i]
  split
  · exact hv
  · exact h i (by omega)
theorem upd_lo {f : Nat → Int32} {N i : Nat} {v : Int32} (h : i < N) : upd f N v i = f i := by
  rw [upd_i, if_neg (by omega)]
theorem upd_eq (f : Nat → Int32) (N : Nat) (v : Int32) : upd f N v N = v := by rw [upd_i, if_pos rfl]
/-- a new ShoreFields' and a new model's numbers, and those behind any calls: fields, number, weeks gone, told or not, weeks told, dredgings, works, surveys; begin, kinds, the model's lengths and parts, walls, feeds, heights, sides, dredgings, works' places and amounts, surveys' fields; the class's sizes and leaks; the shore of now -/
def lwI (n : Nat) (k : Int32) (g : Nat) (t : Int32) (td dr wk sv : Nat) (bs kd le pt wl fd he si db du df dw op oa vf sz lk sd se sc ba pa : Nat → Int32) : Prop :=
  (2 ≤ n ∧ n ≤ 12 ∧ g ≤ td ∧ td ≤ 120 ∧ dr ≤ 20 ∧ wk ≤ 6 ∧ sv ≤ 20) ∧
  ((∀ w, w < td → si w = 0 ∨ si w = 1 ∨ si w = 2) ∧ (∀ w, w < td → heK he w)) ∧
  ((∀ i, i < dr → dOk db df i) ∧ (∀ i, i < dr → dUk du i) ∧ (∀ i, i < dr → dw i = nI (dw i).toNatClampNeg ∧ (dw i).toNatClampNeg ≤ g)) ∧
  ((∀ i, i < 12 → 0 ≤ (bs i).toInt ∧ (bs i).toInt ≤ 99999) ∧ gdP k wl fd kd sz lk ∧ (∀ b, b < 13 → relP kd sz lk le pt n b)) ∧
  ((∀ i, i < wk → op i = nI (op i).toNatClampNeg ∧ (op i).toNatClampNeg < 12) ∧ (∀ i, i < wk → 1 ≤ (oa i).toInt ∧ (oa i).toInt ≤ 9999)) ∧
  (∀ i, i < sv → vf i = nI (vf i).toNatClampNeg ∧ (vf i).toNatClampNeg < 12) ∧
  (sd, se, sc, ba, pa) = rpY n k bs wl fd kd sz lk he si dr db du df dw g ∧
  (t = 0 ∨ t = 1) ∧ (t = 0 → td = 0 ∧ ∀ b, b < 13 → kd b = 0)
section INV
variable {n g td dr wk sv : Nat} {k t : Int32} {bs kd le pt wl fd he si db du df dw op oa vf sz lk sd se sc ba pa : Nat → Int32}
theorem li_sand {x y : Int32} (h : lwI n k g t td dr wk sv bs kd le pt wl fd he si db du df dw op oa vf sz lk sd se sc ba pa) (hk : okSand g n x y = true) : lwI n k g 1 td dr wk sv (upd bs x.toNatClampNeg y) kd le pt wl fd he si db du df dw op oa vf sz lk (upd bs x.toNatClampNeg y) (fun _ => 0) (fun _ => 0) (fun _ => 0) (fun _ => 0) := by
  unfold okSand at hk
  rw [Bool.and_eq_true, Bool.and_eq_true, decide_eq_true_iff] at hk
  obtain ⟨⟨hg, hx⟩, hy⟩ := hk
  subst hg
  obtain ⟨h1, h2, h3, ⟨hb, hp, hr⟩, h5, h6, h7, h8, h9⟩ := h
  exact ⟨h1, h2, h3, ⟨upd_bd hb (inR_bd hy (by decide) (by decide)), hp, hr⟩, h5, h6, rfl, Or.inr rfl, fun z => absurd z (by decide)⟩
theorem li_wall {x y : Int32} (h : lwI n k g t td dr wk sv bs kd le pt wl fd he si db du df dw op oa vf sz lk sd se sc ba pa) (hk : okWal g n x y = true) : lwI n k g 1 td dr wk sv bs kd le pt (upd wl x.toNatClampNeg y) fd he si db du df dw op oa vf sz lk bs (fun _ => 0) (fun _ => 0) (fun _ => 0) (fun _ => 0) := by
  unfold okWal at hk
  rw [Bool.and_eq_true, Bool.and_eq_true, decide_eq_true_iff] at hk
  obtain ⟨⟨hg, hx⟩, hy⟩ := hk
  subst hg
  obtain ⟨h1, h2, h3, ⟨hb, hp, hr⟩, h5, h6, h7, h8, h9⟩ := h
  exact ⟨h1, h2, h3, ⟨hb, ⟨hp.1, upd_bd hp.2.1 (inR_bd hy (by decide) (by decide)), hp.2.2⟩, hr⟩, h5, h6, rfl, Or.inr rfl, fun z => absurd z (by decide)⟩
theorem li_feed {x y : Int32} (h : lwI n k g t td dr wk sv bs kd le pt wl fd he si db du df dw op oa vf sz lk sd se sc ba pa) (hk : okFee g x y = true) : lwI n k g 1 td dr wk sv bs kd le pt wl (upd fd x.toNatClampNeg y) he si db du df dw op oa vf sz lk bs (fun _ => 0) (fun _ => 0) (fun _ => 0) (fun _ => 0) := by
  unfold okFee at hk
  rw [Bool.and_eq_true, Bool.and_eq_true, decide_eq_true_iff] at hk
  obtain ⟨⟨hg, hx⟩, hy⟩ := hk
  subst hg
  obtain ⟨h1, h2, h3, ⟨hb, hp, hr⟩, h5, h6, h7, h8, h9⟩ := h
  exact ⟨h1, h2, h3, ⟨hb, ⟨hp.1, hp.2.1, upd_bd hp.2.2.1 (inR_bd hy (by decide) (by decide)), hp.2.2.2⟩, hr⟩, h5, h6, rfl, Or.inr rfl, fun z => absurd z (by decide)⟩
theorem li_number {x : Int32} (h : lwI n k g t td dr wk sv bs kd le pt wl fd he si db du df dw op oa vf sz lk sd se sc ba pa) (hk : okNum g x = true) : lwI n x g 1 td dr wk sv bs kd le pt wl fd he si db du df dw op oa vf sz lk bs (fun _ => 0) (fun _ => 0) (fun _ => 0) (fun _ => 0) := by
  unfold okNum at hk
  rw [Bool.and_eq_true, decide_eq_true_iff] at hk
  obtain ⟨hg, hx⟩ := hk
  subst hg
  obtain ⟨h1, h2, h3, ⟨hb, hp, hr⟩, h5, h6, h7, h8, h9⟩ := h
  exact ⟨h1, h2, h3, ⟨hb, ⟨inR_bd hx (by decide) (by decide), hp.2⟩, hr⟩, h5, h6, rfl, Or.inr rfl, fun z => absurd z (by decide)⟩
theorem li_groyne {x y z : Int32} (h : lwI n k g t td dr wk sv bs kd le pt wl fd he si db du df dw op oa vf sz lk sd se sc ba pa) (hk : okGro g n x y z = true) : lwI n k g 1 td dr wk sv bs (upd kd x.toNatClampNeg (if y = 0 then 0 else 1)) (upd le x.toNatClampNeg y) (upd pt x.toNatClampNeg z) wl fd he si db du df dw op oa vf (upd sz x.toNatClampNeg y) (upd lk x.toNatClampNeg z) bs (fun _ => 0) (fun _ => 0) (fun _ => 0) (fun _ => 0) := by
  unfold okGro at hk
  rw [Bool.and_eq_true, Bool.and_eq_true, Bool.and_eq_true, decide_eq_true_iff] at hk
  obtain ⟨⟨⟨hg, hx⟩, hy⟩, hz⟩ := hk
  subst hg
  obtain ⟨h1, h2, h3, ⟨hb, hp, hr⟩, h5, h6, h7, h8, h9⟩ := h
  obtain ⟨-, x1, x2⟩ := inI_in h1.2.1 hx
  have y1 := inR_bd hy (x := 0) (y := 999) (by decide) (by decide)
  have z1 := inR_bd hz (x := 0) (y := 100) (by decide) (by decide)
  refine ⟨h1, h2, h3, ⟨hb, ⟨hp.1, hp.2.1, hp.2.2.1, fun b hb13 => ?_⟩, fun b hb13 => ?_⟩, h5, h6, rfl, Or.inr rfl, fun z => absurd z (by decide)⟩
  · rw [upd_i, upd_i, upd_i]
    by_cases e : b = x.toNatClampNeg
    · rw [if_pos e, if_pos e, if_pos e]
      refine ⟨fun _ => z1, fun q => ?_⟩
      split at q
      · exact absurd q i02
      · exact absurd q i12
    · rw [if_neg e, if_neg e, if_neg e]
      exact hp.2.2.2 b hb13
  · unfold relP
    rw [upd_i, upd_i, upd_i, upd_i, upd_i]
    by_cases e : b = x.toNatClampNeg
    · rw [if_pos e, if_pos e, if_pos e, if_pos e, if_pos e]
      by_cases q : y = 0
      · rw [if_pos q]
        exact ⟨Or.inl rfl, fun w => absurd w i01, fun w => absurd w i02, fun _ => rfl⟩
      · rw [if_neg q]
        refine ⟨Or.inr (Or.inl rfl), fun _ => ⟨rfl, rfl, ?_⟩, fun w => absurd w i12, fun w => absurd (by omega) w⟩
        have q2 : y.toInt ≠ 0 := fun w => q (Int32.toInt_inj.mp w)
        omega
    · rw [if_neg e, if_neg e, if_neg e, if_neg e, if_neg e]
      exact hr b hb13
theorem li_mouth {x y : Int32} (h : lwI n k g t td dr wk sv bs kd le pt wl fd he si db du df dw op oa vf sz lk sd se sc ba pa) (hk : okMou g n x y = true) : lwI n k g 1 td dr wk sv bs (upd kd x.toNatClampNeg 2) (upd le x.toNatClampNeg 0) (upd pt x.toNatClampNeg y) wl fd he si db du df dw op oa vf (upd sz x.toNatClampNeg y) (upd lk x.toNatClampNeg 0) bs (fun _ => 0) (fun _ => 0) (fun _ => 0) (fun _ => 0) := by
  unfold okMou at hk
  rw [Bool.and_eq_true, Bool.and_eq_true, decide_eq_true_iff] at hk
  obtain ⟨⟨hg, hx⟩, hy⟩ := hk
  subst hg
  obtain ⟨h1, h2, h3, ⟨hb, hp, hr⟩, h5, h6, h7, h8, h9⟩ := h
  obtain ⟨-, x1, x2⟩ := inI_in h1.2.1 hx
  have y1 := inR_bd hy (x := 0) (y := 100) (by decide) (by decide)
  refine ⟨h1, h2, h3, ⟨hb, ⟨hp.1, hp.2.1, hp.2.2.1, fun b hb13 => ?_⟩, fun b hb13 => ?_⟩, h5, h6, rfl, Or.inr rfl, fun z => absurd z (by decide)⟩
  · rw [upd_i, upd_i, upd_i]
    by_cases e : b = x.toNatClampNeg
    · rw [if_pos e, if_pos e, if_pos e]
      exact ⟨fun w => absurd w.symm i12, fun _ => y1⟩
    · rw [if_neg e, if_neg e, if_neg e]
      exact hp.2.2.2 b hb13
  · unfold relP
    rw [upd_i, upd_i, upd_i, upd_i, upd_i]
    by_cases e : b = x.toNatClampNeg
    · rw [if_pos e, if_pos e, if_pos e, if_pos e, if_pos e]
      exact ⟨Or.inr (Or.inr rfl), fun w => absurd w.symm i12, fun _ => rfl, fun w => absurd (by omega) w⟩
    · rw [if_neg e, if_neg e, if_neg e, if_neg e, if_neg e]
      exact hr b hb13
theorem li_fields {x : Int32} (h : lwI n k g t td dr wk sv bs kd le pt wl fd he si db du df dw op oa vf sz lk sd se sc ba pa) (hk : okFie t x = true) : lwI x.toNatClampNeg k g t td dr wk sv bs kd le pt wl fd he si db du df dw op oa vf sz lk sd se sc ba pa := by
  unfold okFie at hk
  rw [Bool.and_eq_true] at hk
  obtain ⟨hx, ht⟩ := hk
  have t0 : t = 0 := by
    by_cases e : t = 0
    · exact e
    · rw [if_neg e] at ht
      exact absurd ht (by decide)
  obtain ⟨h1, h2, h3, ⟨hb, hp, hr⟩, h5, h6, h7, h8, h9⟩ := h
  obtain ⟨d0, k0⟩ := h9 t0
  have g0 : g = 0 := by omega
  subst g0
  have x1 := inR_bd hx (x := 2) (y := 12) (by decide) (by decide)
  obtain ⟨e1, e2⟩ := inR_in (b := 12) (inR_lo hx) (by decide)
  have x2 : 2 ≤ x.toNatClampNeg := by
    generalize x.toNatClampNeg = q at e1 e2
    subst e1
    rw [nI_toInt (by omega)] at x1
    omega
  exact ⟨⟨x2, by omega, h1.2.2⟩, h2, h3, ⟨hb, hp, fun b hb13 => ⟨Or.inl (k0 b hb13), fun w => absurd ((k0 b hb13).symm.trans w) i01, fun w => absurd ((k0 b hb13).symm.trans w) i02, fun _ => k0 b hb13⟩⟩, h5, h6, h7, h8, h9⟩
theorem li_wave {x y : Int32} (h : lwI n k g t td dr wk sv bs kd le pt wl fd he si db du df dw op oa vf sz lk sd se sc ba pa) (hk : okWav td x y = true) : lwI n k g 1 (td + 1) dr wk sv bs kd le pt wl fd (upd he td x) (upd si td y) db du df dw op oa vf sz lk sd se sc ba pa := by
  unfold okWav at hk
  rw [Bool.and_eq_true, Bool.and_eq_true, decide_eq_true_iff] at hk
  obtain ⟨⟨hx, hy⟩, hd⟩ := hk
  obtain ⟨h1, h2, h3, ⟨hb, hp, hr⟩, h5, h6, h7, h8, h9⟩ := h
  have x1 := inR_bd hx (x := 0) (y := 9) (by decide) (by decide)
  have hy3 : y = 0 ∨ y = 1 ∨ y = 2 := by
    have y1 := inR_bd hy (x := 0) (y := 2) (by decide) (by decide)
    rcases sw_2 y with q | q
    · omega
    · exact q
  refine ⟨⟨h1.1, h1.2.1, by omega, by omega, h1.2.2.2.2⟩, ⟨upd_at (p := fun z => z = 0 ∨ z = 1 ∨ z = 2) h2.1 hy3, upd_at (p := fun z => 0 ≤ z.toInt ∧ z.toInt ≤ 9) h2.2 x1⟩, h3, ⟨hb, hp, hr⟩, h5, h6, ?_, Or.inr rfl, fun z => absurd z (by decide)⟩
  rw [h7, rp_c (fun w hw => upd_lo (by omega)) (fun w hw => upd_lo (by omega))]
theorem li_mark (h : lwI n k g t td dr wk sv bs kd le pt wl fd he si db du df dw op oa vf sz lk sd se sc ba pa) : lwI n k g 1 td dr wk sv bs kd le pt wl fd he si db du df dw op oa vf sz lk sd se sc ba pa := by
  obtain ⟨h1, h2, h3, ⟨hb, hp, hr⟩, h5, h6, h7, h8, h9⟩ := h
  exact ⟨h1, h2, h3, ⟨hb, hp, hr⟩, h5, h6, h7, Or.inr rfl, fun z => absurd z (by decide)⟩
theorem li_survey {x w y z : Int32} (h : lwI n k g t td dr wk sv bs kd le pt wl fd he si db du df dw op oa vf sz lk sd se sc ba pa) (hk : okSur n sv x w y z = true) : lwI n k g 1 td dr wk (sv + 1) bs kd le pt wl fd he si db du df dw op oa (upd vf sv x) sz lk sd se sc ba pa := by
  unfold okSur at hk
  rw [Bool.and_eq_true, Bool.and_eq_true, Bool.and_eq_true, Bool.and_eq_true, decide_eq_true_iff] at hk
  obtain ⟨⟨⟨⟨hx, -⟩, hv⟩, -⟩, -⟩ := hk
  obtain ⟨h1, h2, h3, ⟨hb, hp, hr⟩, h5, h6, h7, h8, h9⟩ := h
  obtain ⟨e1, e2⟩ := inF_in h1.2.1 hx
  exact ⟨⟨h1.1, h1.2.1, h1.2.2.1, h1.2.2.2.1, h1.2.2.2.2.1, h1.2.2.2.2.2.1, by omega⟩, h2, h3, ⟨hb, hp, hr⟩, h5, upd_at (p := fun z => z = nI z.toNatClampNeg ∧ z.toNatClampNeg < 12) h6 ⟨e1, by omega⟩, h7, Or.inr rfl, fun z => absurd z (by decide)⟩
theorem li_work {x y z w : Int32} (h : lwI n k g t td dr wk sv bs kd le pt wl fd he si db du df dw op oa vf sz lk sd se sc ba pa) (hk : okWrk n wk kd x y z w = true) : lwI n k g 1 td dr (wk + 1) sv bs kd le pt wl fd he si db du df dw (upd op wk y) (upd oa wk z) vf sz lk sd se sc ba pa := by
  unfold okWrk at hk
  rw [Bool.and_eq_true, Bool.and_eq_true, decide_eq_true_iff, Bool.or_eq_true] at hk
  obtain ⟨⟨-, hd⟩, hk⟩ := hk
  obtain ⟨h1, h2, h3, ⟨hb, hp, hr⟩, h5, h6, h7, h8, h9⟩ := h
  have e : (y = nI y.toNatClampNeg ∧ y.toNatClampNeg < 12) ∧ 1 ≤ z.toInt ∧ z.toInt ≤ 9999 := by
    rcases hk with q | q
    · split at q
      · rw [Bool.and_eq_true] at q
        obtain ⟨e1, e2⟩ := inF_in h1.2.1 q.1
        exact ⟨⟨e1, by omega⟩, inR_bd q.2 (by decide) (by decide)⟩
      · exact absurd q (by decide)
    · split at q
      · rw [Bool.and_eq_true] at q
        obtain ⟨⟨e1, e2, e3⟩, -⟩ := hasA_in h1.2.1 q.1
        have e4 := inR_bd q.2 (x := 1) (y := 999) (by decide) (by decide)
        exact ⟨⟨e1, by omega⟩, by omega⟩
      · exact absurd q (by decide)
  exact ⟨⟨h1.1, h1.2.1, h1.2.2.1, h1.2.2.2.1, h1.2.2.2.2.1, by omega, h1.2.2.2.2.2.2⟩, h2, h3, ⟨hb, hp, hr⟩, ⟨upd_at (p := fun z => z = nI z.toNatClampNeg ∧ z.toNatClampNeg < 12) h5.1 e.1, upd_at (p := fun z => 1 ≤ z.toInt ∧ z.toInt ≤ 9999) h5.2 e.2⟩, h6, h7, Or.inr rfl, fun z => absurd z (by decide)⟩
theorem li_weeks {x : Int32} (h : lwI n k g t td dr wk sv bs kd le pt wl fd he si db du df dw op oa vf sz lk sd se sc ba pa) (hk : okWks td g x = true) : lwI n k (g + x.toNatClampNeg) t td dr wk sv bs kd le pt wl fd he si db du df dw op oa vf sz lk ((itf (nwY n k wl fd kd sz lk he si) g x.toNatClampNeg (sd, se, sc, ba, pa)).1) ((itf (nwY n k wl fd kd sz lk he si) g x.toNatClampNeg (sd, se, sc, ba, pa)).2.1) ((itf (nwY n k wl fd kd sz lk he si) g x.toNatClampNeg (sd, se, sc, ba, pa)).2.2.1) ((itf (nwY n k wl fd kd sz lk he si) g x.toNatClampNeg (sd, se, sc, ba, pa)).2.2.2.1) ((itf (nwY n k wl fd kd sz lk he si) g x.toNatClampNeg (sd, se, sc, ba, pa)).2.2.2.2) := by
  unfold okWks at hk
  rw [Bool.and_eq_true, decide_eq_true_iff] at hk
  obtain ⟨-, hd⟩ := hk
  obtain ⟨h1, h2, h3, ⟨hb, hp, hr⟩, h5, h6, h7, h8, h9⟩ := h
  refine ⟨⟨h1.1, h1.2.1, hd, h1.2.2.2⟩, h2, ⟨h3.1, h3.2.1, fun i hi => ⟨(h3.2.2 i hi).1, by have := (h3.2.2 i hi).2; omega⟩⟩, ⟨hb, hp, hr⟩, h5, h6, ?_, h8, h9⟩
  rw [rp_w (by omega) h3.2.2 x.toNatClampNeg (by omega), ← h7]
theorem li_dredge {x y z : Int32} (h : lwI n k g t td dr wk sv bs kd le pt wl fd he si db du df dw op oa vf sz lk sd se sc ba pa) (hk : okDre n dr kd x y z = true) : t = 1 ∧ lwI n k g t td (dr + 1) wk sv bs kd le pt wl fd he si (upd db dr x) (upd du dr y) (upd df dr z) (upd dw dr (nI g)) op oa vf sz lk (bbS sd z.toNatClampNeg (mn y (ba x.toNatClampNeg))) se sc (bbB ba x.toNatClampNeg (mn y (ba x.toNatClampNeg))) pa := by
  unfold okDre at hk
  rw [Bool.and_eq_true, Bool.and_eq_true, Bool.and_eq_true, decide_eq_true_iff] at hk
  obtain ⟨⟨⟨hx, hz⟩, hy⟩, hd⟩ := hk
  obtain ⟨h1, h2, h3, ⟨hb, hp, hr⟩, h5, h6, h7, h8, h9⟩ := h
  obtain ⟨⟨x1, x2, x3⟩, x4⟩ := hasA_in h1.2.1 hx
  obtain ⟨z1, z2⟩ := inF_in h1.2.1 hz
  have y1 := inR_bd hy (x := 1) (y := 9999) (by decide) (by decide)
  have t1 : t = 1 := by
    rcases h8 with q | q
    · exact absurd (((h9 q).2 _ (by omega)).symm.trans x4) i02
    · exact q
  refine ⟨t1, ⟨h1.1, h1.2.1, h1.2.2.1, h1.2.2.2.1, by omega, h1.2.2.2.2.2⟩, h2, ⟨fun i hi => ?_, upd_at (p := fun z => 0 ≤ z.toInt ∧ z.toInt ≤ 9999) h3.2.1 (by omega), upd_at (p := fun z => z = nI z.toNatClampNeg ∧ z.toNatClampNeg ≤ g) h3.2.2 ?_⟩, ⟨hb, hp, hr⟩, h5, h6, ?_, h8, h9⟩
  · unfold dOk
    rw [upd_i, upd_i]
    by_cases e : i = dr
    · rw [if_pos e, if_pos e]
      exact ⟨⟨x1, by omega⟩, z1, by omega⟩
    · rw [if_neg e, if_neg e]
      exact h3.1 i (by omega)
  · rw [nI_clamp (by omega)]
    exact ⟨rfl, Nat.le_refl g⟩
  · rw [rp_d (by omega) x y z (by omega) (hb _ (by omega)).2, ← h7]
end INV
theorem li_new : lwI 6 4 0 0 0 0 0 0 (fun _ => 1000) (fun _ => 0) (fun _ => 0) (fun _ => 0) (fun _ => 0) (fun _ => 100) (fun _ => 0) (fun _ => 0) (fun _ => 0) (fun _ => 0) (fun _ => 0) (fun _ => 0) (fun _ => 0) (fun _ => 0) (fun _ => 0) (fun _ => 0) (fun _ => 0) (fun _ => 1000) (fun _ => 0) (fun _ => 0) (fun _ => 0) (fun _ => 0) := by
  refine ⟨⟨by decide, by decide, Nat.le_refl 0, by decide, by decide, by decide, by decide⟩, ⟨fun w hw => absurd hw (Nat.not_lt_zero w), fun w hw => absurd hw (Nat.not_lt_zero w)⟩, ⟨fun w hw => absurd hw (Nat.not_lt_zero w), fun w hw => absurd hw (Nat.not_lt_zero w), fun w hw => absurd hw (Nat.not_lt_zero w)⟩, ⟨fun _ _ => (by decide : 0 ≤ (1000 : Int32).toInt ∧ (1000 : Int32).toInt ≤ 99999), ⟨by decide, fun _ _ => (by decide : 0 ≤ (0 : Int32).toInt ∧ (0 : Int32).toInt ≤ 999), fun _ _ => (by decide : 0 ≤ (100 : Int32).toInt ∧ (100 : Int32).toInt ≤ 200), fun b _ => ⟨fun w => absurd w i01, fun w => absurd w i02⟩⟩, fun b _ => ⟨Or.inl rfl, fun w => absurd w i01, fun w => absurd w i02, fun _ => rfl⟩⟩, ⟨fun w hw => absurd hw (Nat.not_lt_zero w), fun w hw => absurd hw (Nat.not_lt_zero w)⟩, fun w hw => absurd hw (Nat.not_lt_zero w), rfl, Or.inl rfl, fun _ => ⟨rfl, fun b _ => rfl⟩⟩
