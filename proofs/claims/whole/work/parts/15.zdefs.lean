theorem dw_eq {td g : Nat} {x : Int32} (h : inR x 0 120 = true) (hg : g ≤ td) (ht : td ≤ 120) : x ≤ nI td - nI g ↔ g + x.toNatClampNeg ≤ td := by
  obtain ⟨hx, hl⟩ := inR_in (b := 120) h (by decide)
  generalize x.toNatClampNeg = q at hx hl
  subst hx
  rw [pk_sub hg, nI_leI (by omega) (by omega)]
  omega
theorem dw_t {td g : Nat} {x : Int32} (h : inR x 0 120 = true) (hg : g ≤ td) (ht : td ≤ 120) (hx : x ≤ nI td - nI g) : decide (g + x.toNatClampNeg ≤ td) = true := by
  rw [decide_eq_true_iff]; exact (dw_eq h hg ht).mp hx
theorem dw_f {td g : Nat} {x : Int32} (h : inR x 0 120 = true) (hg : g ≤ td) (ht : td ≤ 120) (hx : ¬ x ≤ nI td - nI g) : decide (g + x.toNatClampNeg ≤ td) = false := by
  rw [decide_eq_false_iff_not]; exact fun q => hx ((dw_eq h hg ht).mpr q)
def nwY (n : Nat) (k : Int32) (wl fd kd sz lk he si : Nat → Int32) (w : Nat) (t : S5) : S5 := wkY n k wl fd kd sz lk (he w) (si w) t
/-- what the class leaves open: the trial, and the shore that goes through again -/
abbrev SX : Type := Nat × Int32 × (Nat → Int32) × (Nat → Int32) × (Nat → Int32) × (Nat → Int32) × (Nat → Int32) × (Nat → Int32) × S6
def faS (i : Nat) (a : Int32) : Int32 := a * nI i
def fac (q : Nat) : Int32 := itf faS 2 (q - 1) 1
def ftS (KF : Int32 → Bool) (i : Nat) (a : Int32) : Int32 := if bI (KF (nI i)) = 0 then a else a ||| (1 <<< ((nI i - 1) &&& 31))
def wkB (wk : Nat) (oc : Nat → Int32) (KP : Int32 → Bool) (i : Nat) (t : Int32 × Int32) : Int32 × Int32 :=
  if t.1 = -1 then (if bI (KP (nI i)) = 0 then t else (nI i, itz (prS (nI i) oc) wk 0))
  else if t.2 ≤ itz (prS (nI i) oc) wk 0 then t else (if bI (KP (nI i)) = 0 then t else (nI i, itz (prS (nI i) oc) wk 0))
theorem sh_pow {wk : Nat} (h : wk ≤ 6) : (1 : Int32) <<< (nI wk &&& 31) = nI (2 ^ wk) := by
  rcases (show wk = 0 ∨ wk = 1 ∨ wk = 2 ∨ wk = 3 ∨ wk = 4 ∨ wk = 5 ∨ wk = 6 by omega) with rfl | rfl | rfl | rfl | rfl | rfl | rfl <;> decide
theorem pow_64 {wk : Nat} (h : wk ≤ 6) : 2 ^ wk ≤ 64 := by
  rcases (show wk = 0 ∨ wk = 1 ∨ wk = 2 ∨ wk = 3 ∨ wk = 4 ∨ wk = 5 ∨ wk = 6 by omega) with rfl | rfl | rfl | rfl | rfl | rfl | rfl <;> decide
def kfX (n : Nat) (bs wl fd kd sz lk : Nat → Int32) (td : Nat) (he si : Nat → Int32) (dr : Nat) (db du df dw : Nat → Int32) (sv : Nat) (vf vw vl vm : Nat → Int32) (x : Int32) : Bool :=
  allB (fun w => allB (okB (nI w + 1) vf vw vl vm (rpY n x bs wl fd kd sz lk he si dr db du df dw (w + 1)).1) sv) td
def kpX (n : Nat) (k : Int32) (bs wl fd kd sz lk mk : Nat → Int32) (td : Nat) (he si : Nat → Int32) (dr : Nat) (db du df dw : Nat → Int32) (wk : Nat) (ok op oa : Nat → Int32) (x : Int32) : Bool :=
  allB (fun w => allB (kpB (rpY n k (aoX x n kd ok op oa wk bs sz).1 wl fd kd (aoX x n kd ok op oa wk bs sz).2 lk he si dr db du df dw (w + 1)).1 mk) n) td
def liX (n : Nat) (k : Int32) (bs wl fd kd sz lk he si : Nat → Int32) (dr : Nat) (db du df dw : Nat → Int32) (g : Nat) (x : Int32) (f : Nat) : Int32 :=
  ln (rpY n k bs wl fd (laX x n kd sz lk).1 (laX x n kd sz lk).2.1 (laX x n kd sz lk).2.2 he si dr db du df dw g).1 f
