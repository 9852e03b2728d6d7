def bmV (y : Int32) (kd le pt ba pa : Nat → Int32) (b : Nat) : Int32 :=
  if y = 0 then kd b else if y = 3 then pa b else if y < 1 then -1 else if 2 < y then -1 else if kd b = 0 then -1 else if y = 1 then (if kd b = 1 then le b else pt b) else (if kd b = 1 then pt b else ba b)
def mwS (x : Int32) (ok op oa : Nat → Int32) (i : Nat) (t : (Nat → Int32) × (Nat → Int32)) : (Nat → Int32) × (Nat → Int32) :=
  if (x >>> (nI i &&& 31)) &&& 1 = 1 then (if ok i = 0 then (brM t.1 (op i).toNatClampNeg (oa i), t.2) else (if t.2 (op i).toNatClampNeg ≤ 0 then t else (t.1, upd t.2 (op i).toNatClampNeg (oa i)))) else t
def kmB (sd mk : Nat → Int32) (f : Nat) : Bool := if sd f / 10 < mk f then false else true
theorem allB_m {f : Nat → Bool} {j : Nat} : ∀ {n : Nat}, j ≤ n → allB f j = false → allB f n = false := by
  intro n
  induction n with
  | zero => intro h hf; rw [show j = 0 by omega] at hf; exact hf
  | succ n ih =>
    intro h hf
    by_cases e : j = n + 1
    · rw [← e]; exact hf
    · show (allB f n && f n) = false
      rw [ih (by omega) hf, Bool.false_and]
def prM (x : Int32) (oc : Nat → Int32) (i : Nat) (a : Int32) : Int32 := a + (if (x >>> (nI i &&& 31)) &&& 1 = 1 then oc i else 0)
def wmB (wk : Nat) (oc : Nat → Int32) (KP : Int32 → Bool) (i : Nat) (t : Int32 × Int32) : Int32 × Int32 :=
  if t.1 < 0 then (if bI (KP (nI i)) = 0 then t else (nI i, itz (prM (nI i) oc) wk 0))
  else if t.2 ≤ itz (prM (nI i) oc) wk 0 then t else (if bI (KP (nI i)) = 0 then t else (nI i, itz (prM (nI i) oc) wk 0))
def kpM2 (n : Nat) (k : Int32) (bs : Int32 → Nat → Int32) (wl fd kd : Nat → Int32) (sz : Int32 → Nat → Int32) (lk mk : Nat → Int32) (td : Nat) (he si : Nat → Int32) (dr : Nat) (db du df dw : Nat → Int32) (x : Int32) : Bool :=
  allB (fun w => allB (kmB (rpY n k (bs x) wl fd kd (sz x) lk he si dr db du df dw (w + 1)).1 mk) n) td
def kfM2 (n : Nat) (bs wl fd kd sz lk : Nat → Int32) (td : Nat) (he si : Nat → Int32) (dr : Nat) (db du df dw : Nat → Int32) (sv : Nat) (vf vw vl vm : Nat → Int32) (x : Int32) : Bool :=
  allB (fun w => allB (soB (nI w + 1) vf vw vl vm (rpY n x bs wl fd kd sz lk he si dr db du df dw (w + 1)).1) sv) td
def fmS (KF : Int32 → Bool) (i : Nat) (a : Int32) : Int32 := a ||| (if bI (KF (nI i)) = 0 then (0 : Int32) else 1 <<< ((nI i - 1) &&& 31))
