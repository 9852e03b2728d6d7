section FE
variable {p : Program} {l : Launch} {e : Env} {R : Room} {s : State} {m : MethodId} {args : Array Value} {below : List Frame} {meth : Method} {c : Code} {Q : State → Prop}
variable {nL cells slots pc : Nat} {D : va_G} {A : Nat → Prop} {st : List Value}
/-- a loop over a world with open cells, with what holds of the rounds gone -/
theorem pt_forE {S : Type} {wsf : Nat → S → va_W} {lvf : Nat → List (Nat × Value)} {I : Nat → Prop} (N : Nat) (h0 : I 0) (last : I N → ∀ u, pt_P p l e R s m args below meth c D A nL Q cells slots pc (wsf N u) (lvf N) st)
    (step : ∀ j, j < N → I j → (I (j + 1) → ∀ u, pt_P p l e R s m args below meth c D A nL Q cells slots pc (wsf (j + 1) u) (lvf (j + 1)) st) → ∀ u, pt_P p l e R s m args below meth c D A nL Q cells slots pc (wsf j u) (lvf j) st) (u0 : S) : pt_P p l e R s m args below meth c D A nL Q cells slots pc (wsf 0 u0) (lvf 0) st := by
  have h : ∀ k, k ≤ N → I (N - k) → ∀ u, pt_P p l e R s m args below meth c D A nL Q cells slots pc (wsf (N - k) u) (lvf (N - k)) st := by
    intro k
    induction k with
    | zero => intro _ hi; exact last hi
    | succ k ih =>
      intro hk hi
      have h1 := step (N - (k + 1)) (by omega) hi
      rw [show N - (k + 1) + 1 = N - k by omega] at h1
      exact h1 (ih (by omega))
  have h2 := h N (Nat.le_refl N)
  rw [Nat.sub_self] at h2
  exact h2 h0 u0
end FE
theorem sw_of {x : Int32} {a : Nat} (h : x.toInt = a) : x = nI a := by
  have h1 : x = Int32.ofInt x.toInt := (Int32.ofInt_toInt x).symm
  rw [h1, h]
  rfl
theorem sw_2 (x : Int32) : (x.toInt < 0 ∨ 2 < x.toInt) ∨ x = 0 ∨ x = 1 ∨ x = 2 := by
  by_cases h : x.toInt < 0 ∨ 2 < x.toInt
  · exact Or.inl h
  · refine Or.inr ?_
    rcases (show x.toInt = 0 ∨ x.toInt = 1 ∨ x.toInt = 2 by omega) with q | q | q
    · exact Or.inl (sw_of (a := 0) q)
    · exact Or.inr (Or.inl (sw_of (a := 1) q))
    · exact Or.inr (Or.inr (sw_of (a := 2) q))
theorem sw_3 (x : Int32) : (x.toInt < 0 ∨ 3 < x.toInt) ∨ x = 0 ∨ x = 1 ∨ x = 2 ∨ x = 3 := by
  by_cases h : x.toInt < 0 ∨ 3 < x.toInt
  · exact Or.inl h
  · refine Or.inr ?_
    rcases (show x.toInt = 0 ∨ x.toInt = 1 ∨ x.toInt = 2 ∨ x.toInt = 3 by omega) with q | q | q | q
    · exact Or.inl (sw_of (a := 0) q)
    · exact Or.inr (Or.inl (sw_of (a := 1) q))
    · exact Or.inr (Or.inr (Or.inl (sw_of (a := 2) q)))
    · exact Or.inr (Or.inr (Or.inr (sw_of (a := 3) q)))
theorem sw_6 (x : Int32) : (x.toInt < 0 ∨ 6 < x.toInt) ∨ x = 0 ∨ x = 1 ∨ x = 2 ∨ x = 3 ∨ x = 4 ∨ x = 5 ∨ x = 6 := by
  by_cases h : x.toInt < 0 ∨ 6 < x.toInt
  · exact Or.inl h
  · refine Or.inr ?_
    rcases (show x.toInt = 0 ∨ x.toInt = 1 ∨ x.toInt = 2 ∨ x.toInt = 3 ∨ x.toInt = 4 ∨ x.toInt = 5 ∨ x.toInt = 6 by omega) with q | q | q | q | q | q | q
    · exact Or.inl (sw_of (a := 0) q)
    · exact Or.inr (Or.inl (sw_of (a := 1) q))
    · exact Or.inr (Or.inr (Or.inl (sw_of (a := 2) q)))
    · exact Or.inr (Or.inr (Or.inr (Or.inl (sw_of (a := 3) q))))
    · exact Or.inr (Or.inr (Or.inr (Or.inr (Or.inl (sw_of (a := 4) q)))))
    · exact Or.inr (Or.inr (Or.inr (Or.inr (Or.inr (Or.inl (sw_of (a := 5) q))))))
    · exact Or.inr (Or.inr (Or.inr (Or.inr (Or.inr (Or.inr (sw_of (a := 6) q))))))
theorem inBd_in {n : Nat} {x : Int32} (hn : n ≤ 12) (h : inBd n x = true) : x = nI x.toNatClampNeg ∧ x.toNatClampNeg < n + 1 := by
  unfold inBd at h
  split at h
  · exact absurd h (by decide)
  · split at h
    · exact absurd h (by decide)
    · rename_i h1 h2
      rcases pk_ix x (n := n + 1) (by omega) with q | q | ⟨j, hj, rfl⟩
      · exact absurd q h1
      · refine absurd ?_ h2
        rw [Int32.lt_iff_toInt_lt, nI_toInt (by omega)]
        rw [Int32.le_iff_toInt_le, nI_toInt (by omega)] at q
        omega
      · rw [nI_clamp (by omega)]; exact ⟨rfl, hj⟩
/-! a week on sand, sea, scour, bars, passed; the changes come out of it alone -/
abbrev S5 : Type := (Nat → Int32) × (Nat → Int32) × (Nat → Int32) × (Nat → Int32) × (Nat → Int32)
def wy1 (r : Bool) (n : Nat) (k : Int32) (wl fd kd sz lk : Nat → Int32) (h : Int32) (t : S5) : S5 :=
  (s2X h n (adX n t.1 (paX r n k h t.1 wl fd kd sz lk (t.2.2.1, t.2.2.2.1, (fun _ => 0), (fun _ => 0))).2.2.2) wl t.2.1,
   e2X h n (adX n t.1 (paX r n k h t.1 wl fd kd sz lk (t.2.2.1, t.2.2.2.1, (fun _ => 0), (fun _ => 0))).2.2.2) wl t.2.1,
   (paX r n k h t.1 wl fd kd sz lk (t.2.2.1, t.2.2.2.1, (fun _ => 0), (fun _ => 0))).1,
   (paX r n k h t.1 wl fd kd sz lk (t.2.2.1, t.2.2.2.1, (fun _ => 0), (fun _ => 0))).2.1,
   (paX r n k h t.1 wl fd kd sz lk (t.2.2.1, t.2.2.2.1, (fun _ => 0), (fun _ => 0))).2.2.1)
def wy2 (n : Nat) (wl : Nat → Int32) (h : Int32) (t : S5) : S5 := (s2X h n t.1 wl t.2.1, e2X h n t.1 wl t.2.1, t.2.2.1, t.2.2.2.1, (fun _ => 0))
def wkY (n : Nat) (k : Int32) (wl fd kd sz lk : Nat → Int32) (h x : Int32) (t : S5) : S5 :=
  if x = 0 then wy1 false n k wl fd kd sz lk h t else if x = 1 then wy1 true n k wl fd kd sz lk h t else wy2 n wl h t
def chY (n : Nat) (k : Int32) (wl fd kd sz lk : Nat → Int32) (h x : Int32) (t : S6) : Nat → Int32 := (wkX n k wl fd kd sz lk h x t).2.2.2.2.2
theorem wkX_Y (n : Nat) (k : Int32) (wl fd kd sz lk : Nat → Int32) (h x : Int32) (a b c d e f : Nat → Int32) : wkX n k wl fd kd sz lk h x (a, b, c, d, e, f) =
    ((wkY n k wl fd kd sz lk h x (a, b, c, d, e)).1, (wkY n k wl fd kd sz lk h x (a, b, c, d, e)).2.1, (wkY n k wl fd kd sz lk h x (a, b, c, d, e)).2.2.1, (wkY n k wl fd kd sz lk h x (a, b, c, d, e)).2.2.2.1, (wkY n k wl fd kd sz lk h x (a, b, c, d, e)).2.2.2.2, chY n k wl fd kd sz lk h x (a, b, c, d, e, f)) := by
  unfold chY wkX wkY
  split
  · rfl
  · split <;> rfl
/-! going through weeks again -/
def rdsX (w : Int32) (dr : Nat) (db du df dw : Nat → Int32) (t : (Nat → Int32) × (Nat → Int32)) : (Nat → Int32) × (Nat → Int32) := itz (rdX w db du df dw) dr t
def rdY (w : Int32) (dr : Nat) (db du df dw : Nat → Int32) (t : S5) : S5 := ((rdsX w dr db du df dw (t.1, t.2.2.2.1)).1, t.2.1, t.2.2.1, (rdsX w dr db du df dw (t.1, t.2.2.2.1)).2, t.2.2.2.2)
def stpY (n : Nat) (k : Int32) (wl fd kd sz lk he si : Nat → Int32) (dr : Nat) (db du df dw : Nat → Int32) (w : Nat) (t : S5) : S5 := rdY (nI w + 1) dr db du df dw (wkY n k wl fd kd sz lk (he w) (si w) t)
def zY (bs : Nat → Int32) : S5 := (bs, (fun _ => 0), (fun _ => 0), (fun _ => 0), (fun _ => 0))
def rpY (n : Nat) (k : Int32) (bs wl fd kd sz lk he si : Nat → Int32) (dr : Nat) (db du df dw : Nat → Int32) (q : Nat) : S5 := itz (stpY n k wl fd kd sz lk he si dr db du df dw) q (zY bs)
def laX (x : Int32) (n : Nat) (kd sz lk : Nat → Int32) : (Nat → Int32) × (Nat → Int32) × (Nat → Int32) := itf (laS x) 1 (n - 1) (kd, sz, lk)
def kpB (sd mk : Nat → Int32) (f : Nat) : Bool := if mk f ≤ ln sd f then true else false
def aoX (x : Int32) (n : Nat) (kd ok op oa : Nat → Int32) (wk : Nat) (bs sz : Nat → Int32) : (Nat → Int32) × (Nat → Int32) := itz (aoS x n kd ok op oa) wk (bs, sz)
def lkV (y : Int32) (sd se sc : Nat → Int32) (f : Nat) : Int32 := if y = 0 then sd f else if y = 1 then se f else if y = 2 then sc f else -1
def bdV (y : Int32) (kd sz lk ba pa : Nat → Int32) (b : Nat) : Int32 :=
  if y = 0 then kd b else if y = 1 then (if kd b = 0 then -1 else sz b) else if y = 2 then (if kd b = 2 then ba b else (if kd b = 1 then lk b else -1)) else if y = 3 then pa b else -1
def ctV (y : Int32) (n td g wk sv dr : Nat) (al : Int32) : Int32 :=
  if y = 0 then nI n else if y = 1 then nI td else if y = 2 then nI g else if y = 3 then nI wk else if y = 4 then nI sv else if y = 5 then nI dr else if y = 6 then al else -1
theorem sw_ne {y c : Int32} {b : Int} (h : y.toInt < 0 ∨ b < y.toInt) (hc : 0 ≤ c.toInt ∧ c.toInt ≤ b) : ¬ y = c := by
  rintro rfl
  omega
def okWrk (n wk : Nat) (kd : Nat → Int32) (x y z w : Int32) : Bool :=
  inR w 1 999 && decide (wk < 6) && ((if x = 0 then inF n y && inR z 1 9999 else false) || (if x = 1 then hasA n kd y 1 && inR z 1 999 else false))
def okWks (td g : Nat) (x : Int32) : Bool := inR x 0 120 && decide (g + x.toNatClampNeg ≤ td)
