/-! the cells of the objects, and the numbers that the methods compute -/
abbrev ar (cA : ClassId) (a n : Nat) (f : Nat → Int32) : Nat × va_E := (a, .inl (cA, n, .inl f))
/-- one array alone -/
abbrev w1A (cA : ClassId) (a : Nat → Nat) (N : Nat) (f : Nat → Int32) : va_W := [ar cA (a 0) N f]
/-- Begin: how many fields, the shore's number; sand, walls, feeds, kinds, sizes, leaks -/
abbrev wB (cA : ClassId) (a : Nat → Nat) (n : Nat) (k : Int32) (sd wl fd kd sz lk : Nat → Int32) : va_W :=
  [(a 0, .inr (0, [.int (nI n), .int k, .ref (a 1), .ref (a 2), .ref (a 3), .ref (a 4), .ref (a 5), .ref (a 6)])), ar cA (a 1) 12 sd, ar cA (a 2) 12 wl, ar cA (a 3) 2 fd, ar cA (a 4) 13 kd, ar cA (a 5) 13 sz, ar cA (a 6) 13 lk]
/-- Shore: sand, sea, scour, bars, what passed, changes -/
abbrev wS (cA : ClassId) (a : Nat → Nat) (sd se sc ba pa ch : Nat → Int32) : va_W :=
  [(a 0, .inr (2, [.ref (a 1), .ref (a 2), .ref (a 3), .ref (a 4), .ref (a 5), .ref (a 6)])), ar cA (a 1) 12 sd, ar cA (a 2) 12 se, ar cA (a 3) 12 sc, ar cA (a 4) 13 ba, ar cA (a 5) 13 pa, ar cA (a 6) 12 ch]
/-- Weather: how many weeks; heights, sides -/
abbrev wW (cA : ClassId) (a : Nat → Nat) (td : Nat) (he si : Nat → Int32) : va_W := [(a 0, .inr (4, [.int (nI td), .ref (a 1), .ref (a 2)])), ar cA (a 1) 120 he, ar cA (a 2) 120 si]
/-- Dredgings: how many; borders, units, fields, weeks -/
abbrev wD (cA : ClassId) (a : Nat → Nat) (dr : Nat) (db du df dw : Nat → Int32) : va_W := [(a 0, .inr (1, [.int (nI dr), .ref (a 1), .ref (a 2), .ref (a 3), .ref (a 4)])), ar cA (a 1) 20 db, ar cA (a 2) 20 du, ar cA (a 3) 20 df, ar cA (a 4) 20 dw]
/-- WorkList: how many; kinds, places, amounts, prices -/
abbrev wO (cA : ClassId) (a : Nat → Nat) (wk : Nat) (ok op oa oc : Nat → Int32) : va_W := [(a 0, .inr (5, [.int (nI wk), .ref (a 1), .ref (a 2), .ref (a 3), .ref (a 4)])), ar cA (a 1) 6 ok, ar cA (a 2) 6 op, ar cA (a 3) 6 oa, ar cA (a 4) 6 oc]
/-- SurveyList: how many; fields, weeks, least lines, most lines -/
abbrev wV (cA : ClassId) (a : Nat → Nat) (sv : Nat) (vf vw vl vm : Nat → Int32) : va_W := [(a 0, .inr (3, [.int (nI sv), .ref (a 1), .ref (a 2), .ref (a 3), .ref (a 4)])), ar cA (a 1) 20 vf, ar cA (a 2) 20 vw, ar cA (a 3) 20 vl, ar cA (a 4) 20 vm]
/-- some cells of a list -/
abbrev pkN (ks : List Nat) (w : va_W) : va_W := ks.filterMap (fun i => w[i]?)
abbrev mn (x y : Int32) : Int32 := if y < x then y else x
abbrev mx (x y : Int32) : Int32 := if x < y then y else x
abbrev cpN (k : Nat) (f g : Nat → Int32) : Nat → Int32 := fun j => if j < k then f j else g j
/-- k rounds from a on -/
def itf {S : Type} (f : Nat → S → S) (a : Nat) : Nat → S → S
  | 0, s => s
  | k + 1, s => f (a + k) (itf f a k s)
theorem itf_0 {S : Type} (f : Nat → S → S) (a : Nat) (s : S) : itf f a 0 s = s := rfl
theorem itf_s {S : Type} (f : Nat → S → S) (a k : Nat) (s : S) : itf f a (k + 1) s = f (a + k) (itf f a k s) := rfl
def flN (N : Nat) (v : Int32) (f : Nat → Int32) : Nat → Int32 := fun j => if j < N then v else f j
theorem flN_0 (v : Int32) (f : Nat → Int32) : flN 0 v f = f := by funext j; simp [flN]
theorem flN_s (N : Nat) (v : Int32) (f : Nat → Int32) : upd (flN N v f) N v = flN (N + 1) v f := by
  funext j
  simp only [upd, flN]
  by_cases h : j = N
  · subst h; simp
  · by_cases h2 : j < N
    · rw [if_neg h, if_pos h2, if_pos (by omega)]
    · rw [if_neg h, if_neg h2, if_neg (by omega)]
/-! Begin -/
def bI (b : Bool) : Int32 := cond b 1 0
theorem bI_n (b : Bool) : narrow .boolean (.int (bI b)) = .int (bI b) := by cases b <;> rfl
theorem bI_f {b : Bool} (h : bI b = 0) : b = false := by
  cases b
  · rfl
  · exact absurd h (by decide)
theorem bI_t {b : Bool} (h : ¬ bI b = 0) : b = true := by
  cases b
  · exact absurd rfl h
  · rfl
/-- a field, a border, a border between fields, a number within -/
def inF (n : Nat) (x : Int32) : Bool := if x < 0 then false else if nI n ≤ x then false else true
def inBd (n : Nat) (x : Int32) : Bool := if x < 0 then false else if nI n < x then false else true
def inI (n : Nat) (x : Int32) : Bool := if x < 1 then false else if nI n ≤ x then false else true
def inR (v a b : Int32) : Bool := if v < a then false else if b < v then false else true
/-! Shore -/
def ln (sd : Nat → Int32) (f : Nat) : Int32 := sd f / 10
def slp (sd : Nat → Int32) (u d : Nat) : Int32 := mx (-9) (mn (ln sd u - ln sd d) 9)
def fre (sd wl : Nat → Int32) (f : Nat) : Int32 := if sd f - 10 * wl f ≤ 0 then 0 else sd f - 10 * wl f
/-- what may be taken of the sand; then what goes -/
def tk0 (sd : Nat → Int32) (f : Nat) (w : Int32) : Int32 := mn w (sd f)
def tk (sd wl : Nat → Int32) (f : Nat) (w : Int32) : Int32 := mn (tk0 sd f w) (fre sd wl f)
def tkSc (sd wl sc : Nat → Int32) (f : Nat) (w : Int32) : Nat → Int32 := upd sc f (sc f + (tk0 sd f w - tk sd wl f w))
def tkCh (sd wl ch : Nat → Int32) (f : Nat) (w : Int32) : Nat → Int32 := upd ch f (ch f - tk sd wl f w)
/-- the first n places by g -/
def mapN (n : Nat) (g f : Nat → Int32) : Nat → Int32 := fun i => if i < n then g i else f i
theorem mapN_0 (g f : Nat → Int32) : mapN 0 g f = f := by funext j; simp [mapN]
theorem mapN_at (n : Nat) (g f : Nat → Int32) : mapN n g f n = f n := by simp [mapN]
theorem mapN_s (n : Nat) (g f : Nat → Int32) {x : Int32} (hx : x = g n) : upd (mapN n g f) n x = mapN (n + 1) g f := by
  subst hx
  funext j
  simp only [upd, mapN]
  by_cases h : j = n
  · subst h; simp
  · by_cases h2 : j < n
    · rw [if_neg h, if_pos h2, if_pos (by omega)]
    · rw [if_neg h, if_neg h2, if_neg (by omega)]
theorem nI_m1 {n : Nat} (h : 1 ≤ n) : nI n - 1 = nI (n - 1) := pk_sub (a := n) (b := 1) h
def uF (r : Bool) (b : Nat) : Nat := cond r b (b - 1)
def dF (r : Bool) (b : Nat) : Nat := cond r (b - 1) b
def sgn (r : Bool) (x : Int32) : Int32 := cond r (-x) x
/-- what the waves drive over a border -/
def drv (k h : Int32) (sd kd sz lk : Nat → Int32) (u d b : Nat) : Int32 :=
  if kd b = 1 then (if sz b ≤ ln sd u then mx (k * h + h * slp sd u d / 3) 0 else mx (k * h + h * slp sd u d / 3) 0 * lk b / 100) else mx (k * h + h * slp sd u d / 3) 0
def kpt (kd sz : Nat → Int32) (b : Nat) (x : Int32) : Int32 := if kd b = 2 then x * sz b / 100 else 0
def uni (r : Bool) (k h : Int32) (sd wl kd sz lk : Nat → Int32) (b : Nat) : Int32 := tk sd wl (uF r b) (drv k h sd kd sz lk (uF r b) (dF r b) b)
abbrev S4 : Type := (Nat → Int32) × (Nat → Int32) × (Nat → Int32) × (Nat → Int32)
/-- what a border does to scour, bars, what passed, changes -/
def psX (r : Bool) (k h : Int32) (sd wl kd sz lk : Nat → Int32) (b : Nat) (t : S4) : S4 :=
  (tkSc sd wl t.1 (uF r b) (drv k h sd kd sz lk (uF r b) (dF r b) b),
   upd t.2.1 b (t.2.1 b + kpt kd sz b (uni r k h sd wl kd sz lk b)),
   upd t.2.2.1 b (sgn r (uni r k h sd wl kd sz lk b)),
   upd (tkCh sd wl t.2.2.2 (uF r b) (drv k h sd kd sz lk (uF r b) (dF r b) b)) (dF r b) (tkCh sd wl t.2.2.2 (uF r b) (drv k h sd kd sz lk (uF r b) (dF r b) b) (dF r b) + (uni r k h sd wl kd sz lk b - kpt kd sz b (uni r k h sd wl kd sz lk b))))
/-- what comes in at the end where the waves come from -/
def fdU (k h : Int32) (fd : Nat → Int32) (i : Nat) : Int32 := k * h * fd i / 100
/-- a week's passing on (scour, bars, passed, changes) from side r; the sand stays -/
def ciX (r : Bool) (n : Nat) (k h : Int32) (fd : Nat → Int32) (t : S4) : S4 :=
  (t.1, t.2.1, upd t.2.2.1 (cond r n 0) (sgn r (fdU k h fd (cond r 1 0))), upd t.2.2.2 (cond r (n - 1) 0) (t.2.2.2 (cond r (n - 1) 0) + fdU k h fd (cond r 1 0)))
def goX (r : Bool) (n : Nat) (k h : Int32) (sd wl : Nat → Int32) (t : S4) : S4 :=
  (tkSc sd wl t.1 (cond r 0 (n - 1)) (k * h), t.2.1, upd t.2.2.1 (cond r 0 n) (sgn r (tk sd wl (cond r 0 (n - 1)) (k * h))), tkCh sd wl t.2.2.2 (cond r 0 (n - 1)) (k * h))
def paX (r : Bool) (n : Nat) (k h : Int32) (sd wl fd kd sz lk : Nat → Int32) (t : S4) : S4 := goX r n k h sd wl (itf (psX r k h sd wl kd sz lk) 1 (n - 1) (ciX r n k h fd t))
/-- behind the passing: the changes come to the sand -/
def adX (n : Nat) (sd ch : Nat → Int32) : Nat → Int32 := mapN n (fun i => mn (sd i + ch i) 99999) sd
def toSd (n : Nat) (w : Int32) (sd wl : Nat → Int32) : Nat → Int32 := mapN n (fun i => sd i - mn w (fre sd wl i)) sd
def toSe (n : Nat) (w : Int32) (sd wl se : Nat → Int32) : Nat → Int32 := mapN n (fun i => se i + mn w (fre sd wl i)) se
def bkSe (n : Nat) (se : Nat → Int32) : Nat → Int32 := mapN n (fun i => se i - (se i + 3) / 4) se
def bkSd (n : Nat) (sd se : Nat → Int32) : Nat → Int32 := mapN n (fun i => mn (sd i + (se i + 3) / 4) 99999) sd
/-- k rounds from 0 on -/
def itz {S : Type} (f : Nat → S → S) : Nat → S → S
  | 0, s => s
  | k + 1, s => f k (itz f k s)
theorem itz_0 {S : Type} (f : Nat → S → S) (s : S) : itz f 0 s = s := rfl
theorem itz_s {S : Type} (f : Nat → S → S) (k : Nat) (s : S) : itz f (k + 1) s = f k (itz f k s) := rfl
def allB (f : Nat → Bool) : Nat → Bool
  | 0 => true
  | n + 1 => allB f n && f n
theorem allB_s {f : Nat → Bool} {n : Nat} (h : allB f n = true) (h1 : f n = true) : allB f (n + 1) = true := by
  show (allB f n && f n) = true
  rw [h, h1]; rfl
theorem allB_f {f : Nat → Bool} {j : Nat} : ∀ {n : Nat}, j < n → f j = false → allB f n = false := by
  intro n
  induction n with
  | zero => intro h; exact absurd h (Nat.not_lt_zero j)
  | succ n ih =>
    intro h hf
    show (allB f n && f n) = false
    by_cases e : j = n
    · subst e; rw [hf, Bool.and_false]
    · rw [ih (by omega) hf, Bool.false_and]
theorem inF_in {n : Nat} {x : Int32} (hn : n ≤ 12) (h : inF n x = true) : x = nI x.toNatClampNeg ∧ x.toNatClampNeg < n := by
  unfold inF at h
  split at h
  · exact absurd h (by decide)
  · split at h
    · exact absurd h (by decide)
    · rename_i h1 h2
      rcases pk_ix x (n := n) (by omega) with q | q | ⟨j, hj, rfl⟩
      · exact absurd q h1
      · exact absurd q h2
      · rw [nI_clamp (by omega)]; exact ⟨rfl, hj⟩
theorem inI_in {n : Nat} {x : Int32} (hn : n ≤ 12) (h : inI n x = true) : x = nI x.toNatClampNeg ∧ 1 ≤ x.toNatClampNeg ∧ x.toNatClampNeg < n := by
  unfold inI at h
  split at h
  · exact absurd h (by decide)
  · split at h
    · exact absurd h (by decide)
    · rename_i h1 h2
      rcases pk_ix x (n := n) (by omega) with q | q | ⟨j, hj, rfl⟩
      · refine absurd ?_ h1
        rw [Int32.lt_iff_toInt_lt] at q ⊢
        have e0 : (0 : Int32).toInt = 0 := rfl
        have e1 : (1 : Int32).toInt = 1 := rfl
        omega
      · exact absurd q h2
      · rw [nI_clamp (by omega)]
        refine ⟨rfl, ?_, hj⟩
        rcases Nat.eq_zero_or_pos j with h0 | h0
        · subst h0; exact absurd (by decide) h1
        · exact h0
def hasA (n : Nat) (kd : Nat → Int32) (x y : Int32) : Bool := inI n x && (if kd x.toNatClampNeg = y then true else false)
def hgS (kd : Nat → Int32) (b : Nat) (ms : Int32) : Int32 := if kd b = 1 then ms &&& ((1 <<< (nI b &&& 31)) ^^^ (-1)) else ms
def hasG (n : Nat) (kd : Nat → Int32) (x : Int32) : Bool := if itf (hgS kd) 1 (n - 1) x = 0 then true else false
def laS (g : Int32) (b : Nat) (t : (Nat → Int32) × (Nat → Int32) × (Nat → Int32)) : (Nat → Int32) × (Nat → Int32) × (Nat → Int32) :=
  if g &&& (1 <<< (nI b &&& 31)) = 0 then t else (upd t.1 b 0, upd t.2.1 b 0, upd t.2.2 b 0)
def siS (sd se ba : Nat → Int32) (i : Nat) (a : Int32) : Int32 := a + ((sd i + se i) + ba i)
/-- storm and calm -/
def s2X (h : Int32) (n : Nat) (sd wl se : Nat → Int32) : Nat → Int32 := if h < 7 then (if 2 < h then sd else bkSd n sd se) else toSd n (3 * h) sd wl
def e2X (h : Int32) (n : Nat) (sd wl se : Nat → Int32) : Nat → Int32 := if h < 7 then (if 2 < h then se else bkSe n se) else toSe n (3 * h) sd wl se
/-- sand brought out of a bar -/
def bbS (sd : Nat → Int32) (f : Nat) (x : Int32) : Nat → Int32 := upd sd f (mn (sd f + x) 99999)
def bbB (ba : Nat → Int32) (b : Nat) (x : Int32) : Nat → Int32 := upd ba b (ba b - x)
def rdX (w : Int32) (db du df dw : Nat → Int32) (i : Nat) (t : (Nat → Int32) × (Nat → Int32)) : (Nat → Int32) × (Nat → Int32) :=
  if dw i = w then (bbS t.1 (df i).toNatClampNeg (mn (du i) (t.2 (db i).toNatClampNeg)), bbB t.2 (db i).toNatClampNeg (mn (du i) (t.2 (db i).toNatClampNeg))) else t
/-- what a told dredging is: a border, a field -/
def dOk (db df : Nat → Int32) (i : Nat) : Prop := (db i = nI (db i).toNatClampNeg ∧ (db i).toNatClampNeg < 13) ∧ df i = nI (df i).toNatClampNeg ∧ (df i).toNatClampNeg < 12
def okB (w : Int32) (vf vw vl vm sd : Nat → Int32) (i : Nat) : Bool := if vw i = w then (if ln sd (vf i).toNatClampNeg < vl i then false else if ln sd (vf i).toNatClampNeg ≤ vm i then true else false) else true
def prS (x : Int32) (oc : Nat → Int32) (i : Nat) (a : Int32) : Int32 := if x &&& (1 <<< (nI i &&& 31)) = 0 then a else a + oc i
def ao1 (n : Nat) (kd ok op oa : Nat → Int32) (i : Nat) (t : (Nat → Int32) × (Nat → Int32)) : (Nat → Int32) × (Nat → Int32) :=
  if ok i = 0 then (bbS t.1 (op i).toNatClampNeg (oa i), t.2) else cond (hasA n kd (op i) 1) (t.1, upd t.2 (op i).toNatClampNeg (oa i)) t
def aoS (x : Int32) (n : Nat) (kd ok op oa : Nat → Int32) (i : Nat) (t : (Nat → Int32) × (Nat → Int32)) : (Nat → Int32) × (Nat → Int32) :=
  if x &&& (1 <<< (nI i &&& 31)) = 0 then t else ao1 n kd ok op oa i t
theorem hasA_in {n : Nat} {kd : Nat → Int32} {x y : Int32} (hn : n ≤ 12) (h : hasA n kd x y = true) : (x = nI x.toNatClampNeg ∧ 1 ≤ x.toNatClampNeg ∧ x.toNatClampNeg < n) ∧ kd x.toNatClampNeg = y := by
  unfold hasA at h
  rw [Bool.and_eq_true] at h
  refine ⟨inI_in hn h.1, ?_⟩
  have h2 := h.2
  split at h2
  · assumption
  · exact absurd h2 (by decide)
