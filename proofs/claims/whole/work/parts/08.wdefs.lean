/-! a week of the class; ShoreFields' own cells and tests -/
abbrev S6 : Type := (Nat → Int32) × (Nat → Int32) × (Nat → Int32) × (Nat → Int32) × (Nat → Int32) × (Nat → Int32)
def wx1 (r : Bool) (n : Nat) (k : Int32) (wl fd kd sz lk : Nat → Int32) (h : Int32) (t : S6) : S6 :=
  (s2X h n (adX n t.1 (paX r n k h t.1 wl fd kd sz lk (t.2.2.1, t.2.2.2.1, (fun _ => 0), (fun _ => 0))).2.2.2) wl t.2.1,
   e2X h n (adX n t.1 (paX r n k h t.1 wl fd kd sz lk (t.2.2.1, t.2.2.2.1, (fun _ => 0), (fun _ => 0))).2.2.2) wl t.2.1,
   (paX r n k h t.1 wl fd kd sz lk (t.2.2.1, t.2.2.2.1, (fun _ => 0), (fun _ => 0))).1,
   (paX r n k h t.1 wl fd kd sz lk (t.2.2.1, t.2.2.2.1, (fun _ => 0), (fun _ => 0))).2.1,
   (paX r n k h t.1 wl fd kd sz lk (t.2.2.1, t.2.2.2.1, (fun _ => 0), (fun _ => 0))).2.2.1,
   (paX r n k h t.1 wl fd kd sz lk (t.2.2.1, t.2.2.2.1, (fun _ => 0), (fun _ => 0))).2.2.2)
def wx2 (n : Nat) (wl : Nat → Int32) (h : Int32) (t : S6) : S6 := (s2X h n t.1 wl t.2.1, e2X h n t.1 wl t.2.1, t.2.2.1, t.2.2.2.1, (fun _ => 0), t.2.2.2.2.2)
/-- a week of height h from side x -/
def wkX (n : Nat) (k : Int32) (wl fd kd sz lk : Nat → Int32) (h x : Int32) (t : S6) : S6 :=
  if x = 0 then wx1 false n k wl fd kd sz lk h t else if x = 1 then wx1 true n k wl fd kd sz lk h t else wx2 n wl h t
/-- ShoreFields: weeks gone, told or not, marks -/
abbrev wX (cA : ClassId) (a : Nat → Nat) (aB aT aN aG aW aD aO aV : Nat → Nat) (g : Nat) (t : Int32) (mk : Nat → Int32) : va_W :=
  [(a 0, .inr (6, [.ref (aB 0), .ref (aT 0), .ref (aN 0), .ref (aG 0), .ref (aW 0), .ref (aD 0), .ref (aO 0), .ref (aV 0), .ref (a 1), .int (nI g), .int t])), ar cA (a 1) 12 mk]
theorem g0_f {g : Nat} (hg : g ≤ 120) (h : 0 < nI g) : decide (g = 0) = false := by
  rw [decide_eq_false_iff_not]
  rintro rfl
  exact absurd h (by decide)
theorem g0_t {g : Nat} (hg : g ≤ 120) (h : ¬ 0 < nI g) : decide (g = 0) = true := by
  rw [decide_eq_true_iff]
  rcases Nat.eq_zero_or_pos g with q | q
  · exact q
  · exact absurd (nI_lt (a := 0) (b := g) q (by omega)) h
theorem dl_t {a b : Nat} (hb : b < 2 ^ 31) (ha : a < 2 ^ 31) (h : nI a < nI b) : decide (a < b) = true := by
  rw [decide_eq_true_iff]; exact (nI_ltI ha hb).mp h
theorem dl_f {a b : Nat} (hb : b < 2 ^ 31) (ha : a < 2 ^ 31) (h : ¬ nI a < nI b) : decide (a < b) = false := by
  rw [decide_eq_false_iff_not]; exact fun q => h ((nI_ltI ha hb).mpr q)
/-! which calls are taken -/
def okSand (g n : Nat) (x y : Int32) : Bool := decide (g = 0) && inF n x && inR y 0 99999
def okGro (g n : Nat) (x y z : Int32) : Bool := decide (g = 0) && inI n x && inR y 0 999 && inR z 0 100
def okMou (g n : Nat) (x y : Int32) : Bool := decide (g = 0) && inI n x && inR y 0 100
def okWal (g n : Nat) (x y : Int32) : Bool := decide (g = 0) && inF n x && inR y 0 999
def okFee (g : Nat) (x y : Int32) : Bool := decide (g = 0) && inR x 0 1 && inR y 0 200
def okNum (g : Nat) (x : Int32) : Bool := decide (g = 0) && inR x 1 9
def okFie (t x : Int32) : Bool := inR x 2 12 && (if t = 0 then true else false)
def okWav (td : Nat) (x y : Int32) : Bool := inR x 0 9 && inR y 0 2 && decide (td < 120)
def okMar (n : Nat) (x y : Int32) : Bool := inF n x && inR y 0 9999
def okSur (n sv : Nat) (x w a b : Int32) : Bool := inF n x && inR w 1 120 && decide (sv < 20) && inR a 0 9999 && inR b a 9999
def okDre (n dr : Nat) (kd : Nat → Int32) (b u f : Int32) : Bool := hasA n kd b 2 && inF n f && inR u 1 9999 && decide (dr < 20)
