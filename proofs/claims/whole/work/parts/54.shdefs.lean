section SH
variable {p : Program} {l : Launch} {e : Env} {R : Room} {s : State} {m : MethodId} {args : Array Value} {below : List Frame} {meth : Method} {c : Code} {Q : State → Prop}
variable {cc : ByteArray} {nL cells slots pc pc' : Nat} {Ts : List Cond} {own : String} {D : va_G} {A : Nat → Prop} {ws : va_W} {lv : List (Nat × Value)} {st rest : List Value} {tys : List (ClassId × FieldType)}
def ush (x y : Int32) : Int32 := (x.toUInt32 >>> (y.toUInt32 &&& Int32.toUInt32 31)).toInt32
theorem pt_iushr (C : pt_C p s m args c cc nL Ts own D tys A) {x y : Int32} (hd : decode cc pc = .ok (.iushr, 1)) (hpc : pc + 1 = pc') (K : pt_P p l e R s m args below meth c D A nL Q cells slots pc' ws lv (.int (ush x y) :: rest)) : pt_P p l e R s m args below meth c D A nL Q cells slots pc ws lv (.int y :: .int x :: rest) := by
  subst hpc; exact fun H locs ls hP hD hS h => lv_iushr C.1 C.2.1 hd rfl (K H locs ls hP hD hS h)
theorem pt_ldcw (C : pt_C p s m args c cc nL Ts own D tys A) {index : Nat} {v : Int32} (hd : decode cc pc = .ok (.ldc_w index, 3)) (hpc : pc + 3 = pc') (hk : (Jvm.Cond.constant own index v).before args s = true) (K : pt_P p l e R s m args below meth c D A nL Q cells slots pc' ws lv (.int v :: st)) : pt_P p l e R s m args below meth c D A nL Q cells slots pc ws lv st := by
  subst hpc; exact fun H locs ls hP hD hS h => lv_ldcw C.1 C.2.1 C.2.2.2.1 hk hd (K H locs ls hP hD hS h)
end SH
def bc1 (x : Int32) : Int32 := x - (ush x 1 &&& 1431655765)
def bc2 (x : Int32) : Int32 := (x &&& 858993459) + (ush x 2 &&& 858993459)
def bc3 (x : Int32) : Int32 := (x + ush x 4) &&& 252645135
def bc4 (x : Int32) : Int32 := x + ush x 8
def bc5 (x : Int32) : Int32 := x + ush x 16
def bc (x : Int32) : Int32 := bc5 (bc4 (bc3 (bc2 (bc1 x)))) &&& 63
/-- how many bits -/
def pcN (j : Nat) : Nat := (j % 2) + (j / 2 % 2) + (j / 4 % 2) + (j / 8 % 2) + (j / 16 % 2) + (j / 32 % 2) + (j / 64 % 2) + (j / 128 % 2) + (j / 256 % 2) + (j / 512 % 2) + (j / 1024 % 2) + (j / 2048 % 2) + (j / 4096 % 2)
theorem pcN_le (j : Nat) : pcN j ≤ 13 := by
  unfold pcN
  omega
def chkB (f : Nat → Bool) : Nat → Nat → Bool
  | _, 0 => true
  | a, k + 1 => f (a + k) && chkB f a k
theorem chkB_sp {f : Nat → Bool} {a : Nat} : ∀ {k : Nat}, chkB f a k = true → ∀ j, a ≤ j → j < a + k → f j = true := by
  intro k
  induction k with
  | zero => intro _ j h1 h2; exact absurd h2 (by omega)
  | succ k ih =>
    intro h j h1 h2
    have h' : (f (a + k) && chkB f a k) = true := h
    rw [Bool.and_eq_true] at h'
    by_cases e : j = a + k
    · rw [e]; exact h'.1
    · exact ih h'.2 j h1 (by omega)
set_option maxRecDepth 100000 in
theorem bc_c0 : chkB (fun j => decide (bc (nI j) = nI (pcN j))) 0 2048 = true := by decide +kernel
set_option maxRecDepth 100000 in
theorem bc_c1 : chkB (fun j => decide (bc (nI j) = nI (pcN j))) 2048 2048 = true := by decide +kernel
theorem bc_pc {j : Nat} (h : j < 4096) : bc (nI j) = nI (pcN j) := by
  by_cases q : j < 2048
  · exact of_decide_eq_true (chkB_sp bc_c0 j (Nat.zero_le _) (by omega))
  · exact of_decide_eq_true (chkB_sp bc_c1 j (by omega) (by omega))
theorem sh_pw {b : Nat} (h : b < 13) : (1 : Int32) <<< (nI b &&& 31) = nI (2 ^ b) := by
  rcases (show b = 0 ∨ b = 1 ∨ b = 2 ∨ b = 3 ∨ b = 4 ∨ b = 5 ∨ b = 6 ∨ b = 7 ∨ b = 8 ∨ b = 9 ∨ b = 10 ∨ b = 11 ∨ b = 12 by omega) with rfl | rfl | rfl | rfl | rfl | rfl | rfl | rfl | rfl | rfl | rfl | rfl | rfl <;> decide
def shS (LI : Int32 → Int32) (o b j : Nat) (a : Int32) : Int32 := if nI j &&& nI o = nI j then a + fac (pcN j) * fac (pcN o - pcN j) * (LI (nI j ||| nI (2 ^ b)) - LI (nI j)) else a
