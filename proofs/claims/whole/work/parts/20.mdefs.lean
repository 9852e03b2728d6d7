/-! the model: its cells and its numbers -/
/-- thrown, fields, told or not, k0, told, gone, dredges, works, surveys; P: begin 0, kind 1, length 2, part 3, walls 4, feeds 5, height 6, side 7, dredgeOf 8, dredgeUnits 9, dredgeTo 10, dredgeOn 11, workKind 12, workAt 13, workN 14, workPrice 15, marks 16, surveyOf 17, surveyOn 18, surveyLow 19, surveyHigh 20; then sand, sea, scour, bar, passed, lengths, more -/
abbrev wM (cA : ClassId) (a : Nat → Nat) (th : Int32) (n : Nat) (it k : Int32) (td gn dr wk sv : Nat) (P : Nat → Nat → Int32) (sd se sc ba pa le mo : Nat → Int32) : va_W :=
  [(a 0, .inr (7, [.int th, .int (nI n), .int it, .ref (a 1), .ref (a 2), .ref (a 3), .ref (a 4), .ref (a 5), .ref (a 6), .int k, .int (nI td), .ref (a 7), .ref (a 8), .int (nI gn), .int (nI dr), .ref (a 9), .ref (a 10), .ref (a 11), .ref (a 12), .ref (a 13), .ref (a 14), .ref (a 15), .ref (a 16), .ref (a 17), .ref (a 18), .ref (a 19), .int (nI wk), .ref (a 20), .ref (a 21), .ref (a 22), .ref (a 23), .ref (a 24), .int (nI sv), .ref (a 25), .ref (a 26), .ref (a 27), .ref (a 28)])),
   ar cA (a 1) 12 (P 0), ar cA (a 2) 13 (P 1), ar cA (a 3) 13 (P 2), ar cA (a 4) 13 (P 3), ar cA (a 5) 12 (P 4), ar cA (a 6) 2 (P 5), ar cA (a 7) 120 (P 6), ar cA (a 8) 120 (P 7),
   ar cA (a 9) 20 (P 8), ar cA (a 10) 20 (P 9), ar cA (a 11) 20 (P 10), ar cA (a 12) 20 (P 11),
   ar cA (a 13) 12 sd, ar cA (a 14) 12 se, ar cA (a 15) 12 sc, ar cA (a 16) 13 ba, ar cA (a 17) 13 pa, ar cA (a 18) 13 le, ar cA (a 19) 12 mo,
   ar cA (a 20) 6 (P 12), ar cA (a 21) 6 (P 13), ar cA (a 22) 6 (P 14), ar cA (a 23) 6 (P 15), ar cA (a 24) 12 (P 16), ar cA (a 25) 20 (P 17), ar cA (a 26) 20 (P 18), ar cA (a 27) 20 (P 19), ar cA (a 28) 20 (P 20)]
def capM (x : Int32) : Int32 := if x ≤ 99999 then x else 99999
def brM (sd : Nat → Int32) (f : Nat) (x : Int32) : Nat → Int32 := upd sd f (capM (sd f + x))
def abM (sd wl : Nat → Int32) (f : Nat) : Int32 := if 0 ≤ sd f - 10 * wl f then sd f - 10 * wl f else 0
def goM (sd wl : Nat → Int32) (f : Nat) (x : Int32) : Int32 := if (if x ≤ sd f then x else sd f) ≤ abM sd wl f then (if x ≤ sd f then x else sd f) else abM sd wl f
def goMc (sd wl sc : Nat → Int32) (f : Nat) (x : Int32) : Nat → Int32 := if (if x ≤ sd f then x else sd f) ≤ abM sd wl f then sc else upd sc f (sc f + ((if x ≤ sd f then x else sd f) - abM sd wl f))
def byM (sd : Nat → Int32) (u d : Nat) : Int32 := if -9 ≤ sd u / 10 - sd d / 10 then (if sd u / 10 - sd d / 10 ≤ 9 then sd u / 10 - sd d / 10 else 9) else -9
def dr0M (h k : Int32) (sd : Nat → Int32) (u d : Nat) : Int32 := if 0 ≤ h * k + h * byM sd u d / 3 then h * k + h * byM sd u d / 3 else 0
def drM (h k : Int32) (sd le pt : Nat → Int32) (u d b : Nat) : Int32 := if le b ≤ sd u / 10 then dr0M h k sd u d else dr0M h k sd u d * pt b / 100
def stM (r : Bool) : Int32 := cond r (-1) 1
def kpM (kd pt : Nat → Int32) (b : Nat) (x : Int32) : Int32 := if kd b = 2 then x * pt b / 100 else 0
def unM (r : Bool) (h k : Int32) (sd wl le pt : Nat → Int32) (b : Nat) : Int32 := goM sd wl (uF r b) (drM h k sd le pt (uF r b) (dF r b) b)
/-- a border: scour, bar, passed, more -/
def psM (r : Bool) (h k : Int32) (sd wl kd le pt : Nat → Int32) (b : Nat) (t : S4) : S4 :=
  (goMc sd wl t.1 (uF r b) (drM h k sd le pt (uF r b) (dF r b) b),
   upd t.2.1 b (t.2.1 b + kpM kd pt b (unM r h k sd wl le pt b)),
   upd t.2.2.1 b (stM r * unM r h k sd wl le pt b),
   upd (upd t.2.2.2 (uF r b) (t.2.2.2 (uF r b) - unM r h k sd wl le pt b)) (dF r b) (upd t.2.2.2 (uF r b) (t.2.2.2 (uF r b) - unM r h k sd wl le pt b) (dF r b) + (unM r h k sd wl le pt b - kpM kd pt b (unM r h k sd wl le pt b))))
/-- the ends -/
def enM (r : Bool) (n : Nat) (h k : Int32) (sd wl fd : Nat → Int32) (t : S4) : S4 :=
  (goMc sd wl t.1 (cond r 0 (n - 1)) (k * h), t.2.1,
   upd (upd t.2.2.1 (cond r n 0) (stM r * (k * h * fd (cond r 1 0) / 100))) (cond r 0 n) (stM r * goM sd wl (cond r 0 (n - 1)) (k * h)),
   upd (upd t.2.2.2 (cond r (n - 1) 0) (t.2.2.2 (cond r (n - 1) 0) + k * h * fd (cond r 1 0) / 100)) (cond r 0 (n - 1)) (upd t.2.2.2 (cond r (n - 1) 0) (t.2.2.2 (cond r (n - 1) 0) + k * h * fd (cond r 1 0) / 100) (cond r 0 (n - 1)) - goM sd wl (cond r 0 (n - 1)) (k * h)))
def paM (r : Bool) (n : Nat) (h k : Int32) (sd wl fd kd le pt : Nat → Int32) (t : S4) : S4 :=
  enM r n h k sd wl fd (itf (psM r h k sd wl kd le pt) 1 (n - 1) (t.1, t.2.1, t.2.2.1, flN n 0 t.2.2.2))
def adM (n : Nat) (sd mo : Nat → Int32) : Nat → Int32 := mapN n (fun i => capM (sd i + mo i)) sd
/-- storm and calm, a field -/
def s2M (h : Int32) (sd wl se : Nat → Int32) (i : Nat) : Int32 := if h < 7 then (if 2 < h then sd i else capM (sd i + (se i + 3) / 4)) else sd i - (if abM sd wl i ≤ 3 * h then abM sd wl i else 3 * h)
def e2M (h : Int32) (sd wl se : Nat → Int32) (i : Nat) : Int32 := if h < 7 then (if 2 < h then se i else se i - (se i + 3) / 4) else se i + (if abM sd wl i ≤ 3 * h then abM sd wl i else 3 * h)
theorem mapN_k (n : Nat) (g f : Nat → Int32) (h : f n = g n) : mapN n g f = mapN (n + 1) g f := by
  funext j
  simp only [mapN]
  by_cases h2 : j < n
  · rw [if_pos h2, if_pos (by omega)]
  · by_cases h3 : j = n
    · subst h3; rw [if_neg h2, if_pos (by omega), h]
    · rw [if_neg h2, if_neg (by omega)]
/-- a dredging behind a week: sand, bars -/
def dgM (w : Int32) (dO dU dT dN : Nat → Int32) (i : Nat) (t : (Nat → Int32) × (Nat → Int32)) : (Nat → Int32) × (Nat → Int32) :=
  if dN i = w then
    (brM t.1 (dT i).toNatClampNeg (if t.2 (dO i).toNatClampNeg ≤ dU i then t.2 (dO i).toNatClampNeg else dU i), upd t.2 (dO i).toNatClampNeg (t.2 (dO i).toNatClampNeg - (if t.2 (dO i).toNatClampNeg ≤ dU i then t.2 (dO i).toNatClampNeg else dU i)))
  else t
def leM (wo : Int32) (kd le : Nat → Int32) (b : Nat) : Int32 := if kd b = 1 then (if (wo >>> (nI b &&& 31)) &&& 1 = 0 then le b else 0) else 0
theorem nI_p1 {n : Nat} (h : 1 ≤ n) : nI n + (-1) = nI (n - 1) := by
  obtain ⟨m, rfl⟩ : ∃ m, n = m + 1 := ⟨n - 1, by omega⟩
  exact pk_m1 m
theorem nI_lt1 {n : Nat} {x : Int32} (h1 : 1 ≤ n) (h : n ≤ 12) : nI (n - 1) < x ↔ nI n ≤ x := by
  rw [Int32.lt_iff_toInt_lt, Int32.le_iff_toInt_le, nI_toInt (by omega), nI_toInt (by omega)]
  omega
theorem inR_F {n : Nat} {x : Int32} (h1 : 1 ≤ n) (h : n ≤ 12) : inR x 0 (nI n - 1) = inF n x := by
  rw [nI_m1 h1, inR, inF]
  by_cases q : nI n ≤ x
  · rw [if_pos ((nI_lt1 h1 h).mpr q), if_pos q]
  · rw [if_neg (fun z => q ((nI_lt1 h1 h).mp z)), if_neg q]
theorem inR_I {n : Nat} {x : Int32} (h1 : 1 ≤ n) (h : n ≤ 12) : inR x 1 (nI n - 1) = inI n x := by
  rw [nI_m1 h1, inR, inI]
  by_cases q : nI n ≤ x
  · rw [if_pos ((nI_lt1 h1 h).mpr q), if_pos q]
  · rw [if_neg (fun z => q ((nI_lt1 h1 h).mp z)), if_neg q]
/-- a week from a side: sand, sea, scour, bar, passed, more -/
def wk1 (r : Bool) (n : Nat) (h k : Int32) (P : Nat → Nat → Int32) (le : Nat → Int32) (t : S6) : S6 :=
  (mapN n (s2M h (adM n t.1 (paM r n h k t.1 (P 4) (P 5) (P 1) le (P 3) (t.2.2.1, t.2.2.2.1, (fun _ => 0), t.2.2.2.2.2)).2.2.2) (P 4) t.2.1) (adM n t.1 (paM r n h k t.1 (P 4) (P 5) (P 1) le (P 3) (t.2.2.1, t.2.2.2.1, (fun _ => 0), t.2.2.2.2.2)).2.2.2),
   mapN n (e2M h (adM n t.1 (paM r n h k t.1 (P 4) (P 5) (P 1) le (P 3) (t.2.2.1, t.2.2.2.1, (fun _ => 0), t.2.2.2.2.2)).2.2.2) (P 4) t.2.1) t.2.1,
   (paM r n h k t.1 (P 4) (P 5) (P 1) le (P 3) (t.2.2.1, t.2.2.2.1, (fun _ => 0), t.2.2.2.2.2)).1,
   (paM r n h k t.1 (P 4) (P 5) (P 1) le (P 3) (t.2.2.1, t.2.2.2.1, (fun _ => 0), t.2.2.2.2.2)).2.1,
   (paM r n h k t.1 (P 4) (P 5) (P 1) le (P 3) (t.2.2.1, t.2.2.2.1, (fun _ => 0), t.2.2.2.2.2)).2.2.1,
   (paM r n h k t.1 (P 4) (P 5) (P 1) le (P 3) (t.2.2.1, t.2.2.2.1, (fun _ => 0), t.2.2.2.2.2)).2.2.2)
def wk2 (n : Nat) (h : Int32) (P : Nat → Nat → Int32) (t : S6) : S6 :=
  (mapN n (s2M h t.1 (P 4) t.2.1) t.1, mapN n (e2M h t.1 (P 4) t.2.1) t.2.1, t.2.2.1, t.2.2.2.1, (fun _ => 0), t.2.2.2.2.2)
def wkM (n : Nat) (k : Int32) (P : Nat → Nat → Int32) (le : Nat → Int32) (w : Nat) (t : S6) : S6 :=
  if P 7 w = 0 then wk1 false n (P 6 w) k P le t else if P 7 w = 1 then wk1 true n (P 6 w) k P le t else wk2 n (P 6 w) P t
def dgsM (w : Int32) (dr : Nat) (P : Nat → Nat → Int32) (t : (Nat → Int32) × (Nat → Int32)) : (Nat → Int32) × (Nat → Int32) := itz (dgM w (P 8) (P 9) (P 10) (P 11)) dr t
def stpM (n : Nat) (k : Int32) (P : Nat → Nat → Int32) (le : Nat → Int32) (dr : Nat) (w : Nat) (t : S6) : S6 :=
  ((dgsM (nI w + 1) dr P ((wkM n k P le w t).1, (wkM n k P le w t).2.2.2.1)).1, (wkM n k P le w t).2.1, (wkM n k P le w t).2.2.1, (dgsM (nI w + 1) dr P ((wkM n k P le w t).1, (wkM n k P le w t).2.2.2.1)).2, (wkM n k P le w t).2.2.2.2.1, (wkM n k P le w t).2.2.2.2.2)
def beM (P : Nat → Nat → Int32) (dr : Nat) (sd mo : Nat → Int32) : S6 := ((dgsM 0 dr P (sd, fun _ => 0)).1, (fun _ => 0), (fun _ => 0), (dgsM 0 dr P (sd, fun _ => 0)).2, (fun _ => 0), mo)
def rnM (n : Nat) (k : Int32) (P : Nat → Nat → Int32) (le : Nat → Int32) (dr q : Nat) (mo : Nat → Int32) : S6 := itz (stpM n k P le dr) q (beM P dr (P 0) mo)
theorem abM_at (j : Nat) (g f wl : Nat → Int32) : abM (mapN j g f) wl j = abM f wl j := by
  rw [abM, abM, mapN_at]
