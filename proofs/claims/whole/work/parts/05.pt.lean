/-! points of a walk: the world, the locals and the stack stand in the proposition itself -/
section PT
variable {p : Program} {l : Launch} {e : Env} {R : Room} {s : State} {m : MethodId} {args : Array Value} {below : List Frame} {meth : Method} {c : Code} {Q : State → Prop}
variable {cc : ByteArray} {nL cells slots pc pc' : Nat} {Ts : List Cond} {own : String} {D : va_G} {cA : ClassId} {A : Nat → Prop} {ws ws' : va_W} {lv lv' : List (Nat × Value)} {st st' rest : List Value} {tys : List (ClassId × FieldType)}
/-- what holds all through a body -/
def pt_C (p : Program) (s : State) (m : MethodId) (args : Array Value) (c : Code) (cc : ByteArray) (nL : Nat) (Ts : List Cond) (own : String) (D : va_G) (tys : List (ClassId × FieldType)) (A : Nat → Prop) : Prop :=
  p.tables.exec = Jvm.exec ∧ c.code = cc ∧ c.maxLocals = nL ∧ s.vm.findClass own = some m.cls ∧ (∀ w ∈ Ts, w.before args s = true) ∧ va_K D vwCl tys s ∧ (∀ q : Nat, s.heap.size ≤ q → A q)
theorem pt_C.hts (C : pt_C p s m args c cc nL Ts own D tys A) : ∀ w ∈ Ts, w.before args s = true := C.2.2.2.2.1
/-- a point -/
def pt_P (p : Program) (l : Launch) (e : Env) (R : Room) (s : State) (m : MethodId) (args : Array Value) (below : List Frame) (meth : Method) (c : Code) (D : va_G) (A : Nat → Prop) (nL : Nat) (Q : State → Prop) (cells slots pc : Nat) (ws : va_W) (lv : List (Nat × Value)) (st : List Value) : Prop :=
  ∀ (H : Heap) (locs : List Loc) (ls : Array Slot), va_P D vwCl ws H → va_D A ws → va_S A s.heap H locs → lv_has ls nL lv → W p l e R s m args below meth c H locs cells slots Q (F0 m pc ls st)
theorem pt_cv (hw : ws = ws') (ks : List Nat) (hl : lv_pick lv ks = lv') (hs : st = st') (K : pt_P p l e R s m args below meth c D A nL Q cells slots pc ws' lv' st') : pt_P p l e R s m args below meth c D A nL Q cells slots pc ws lv st := by
  subst hw; subst hs
  exact fun H locs ls hP hD hS h => K H locs ls hP hD hS (lv_sub h ks hl)
theorem pt_eq (hw : ws = ws') (hl : lv = lv') (hs : st = st') (K : pt_P p l e R s m args below meth c D A nL Q cells slots pc ws' lv' st') : pt_P p l e R s m args below meth c D A nL Q cells slots pc ws lv st := by
  subst hw; subst hs; subst hl
  exact K
theorem pt_wd {k n : Nat} (h1 : cells ≤ k) (h2 : slots ≤ n) (K : pt_P p l e R s m args below meth c D A nL Q k n pc ws lv st) : pt_P p l e R s m args below meth c D A nL Q cells slots pc ws lv st :=
  fun H locs ls hP hD hS h => W.widen h1 h2 (K H locs ls hP hD hS h)
/-- a loop: the point at its head, for the number of rounds gone -/
theorem pt_for {wsf : Nat → va_W} {lvf : Nat → List (Nat × Value)} (N : Nat) (last : pt_P p l e R s m args below meth c D A nL Q cells slots pc (wsf N) (lvf N) st)
    (step : ∀ j, j < N → pt_P p l e R s m args below meth c D A nL Q cells slots pc (wsf (j + 1)) (lvf (j + 1)) st → pt_P p l e R s m args below meth c D A nL Q cells slots pc (wsf j) (lvf j) st) : pt_P p l e R s m args below meth c D A nL Q cells slots pc (wsf 0) (lvf 0) st := by
  have h : ∀ k, k ≤ N → pt_P p l e R s m args below meth c D A nL Q cells slots pc (wsf (N - k)) (lvf (N - k)) st := by
    intro k
    induction k with
    | zero => intro _; exact last
    | succ k ih =>
      intro hk
      have h1 := step (N - (k + 1)) (by omega)
      rw [show N - (k + 1) + 1 = N - k by omega] at h1
      exact h1 (ih (by omega))
  have h2 := h N (Nat.le_refl N)
  rw [Nat.sub_self] at h2
  exact h2
/-- a loop that may leave: what holds of the rounds gone goes along -/
theorem pt_forI {wsf : Nat → va_W} {lvf : Nat → List (Nat × Value)} {I : Nat → Prop} (N : Nat) (h0 : I 0) (last : I N → pt_P p l e R s m args below meth c D A nL Q cells slots pc (wsf N) (lvf N) st)
    (step : ∀ j, j < N → I j → (I (j + 1) → pt_P p l e R s m args below meth c D A nL Q cells slots pc (wsf (j + 1)) (lvf (j + 1)) st) → pt_P p l e R s m args below meth c D A nL Q cells slots pc (wsf j) (lvf j) st) : pt_P p l e R s m args below meth c D A nL Q cells slots pc (wsf 0) (lvf 0) st := by
  have h : ∀ k, k ≤ N → I (N - k) → pt_P p l e R s m args below meth c D A nL Q cells slots pc (wsf (N - k)) (lvf (N - k)) st := by
    intro k
    induction k with
    | zero => intro _ hi; exact last hi
    | succ k ih =>
      intro hk hi
      have h1 := step (N - (k + 1)) (by omega) hi
      rw [show N - (k + 1) + 1 = N - k by omega] at h1
      exact h1 (ih (by omega))
  have h2 := h N (Nat.le_refl N)
  rw [Nat.sub_self] at h2
  exact h2 h0
/-- a place where branches meet -/
theorem pt_jn {k n q : Nat} (ws0 : va_W) (lv0 : List (Nat × Value)) (st0 : List Value) (f : pt_P p l e R s m args below meth c D A nL Q k n q ws0 lv0 st0 → pt_P p l e R s m args below meth c D A nL Q cells slots pc ws lv st) (K : pt_P p l e R s m args below meth c D A nL Q k n q ws0 lv0 st0) : pt_P p l e R s m args below meth c D A nL Q cells slots pc ws lv st := f K
/-- what stands behind an array's end may be read as one likes -/
theorem pt_ext {a N : Nat} {f : Nat → Int32} (g : Nat → Int32) (q0 : Nat) (he : ws[q0]? = some (a, .inl (cA, N, .inl f))) (h : ∀ j, j < N → f j = g j) (hw : ws.set q0 (a, .inl (cA, N, .inl g)) = ws') (K : pt_P p l e R s m args below meth c D A nL Q cells slots pc ws' lv st) : pt_P p l e R s m args below meth c D A nL Q cells slots pc ws lv st := by
  subst hw
  refine fun H locs ls hP hD hS hl => K H locs ls (hP.set hD he ?_ (fun _ _ => rfl)) (hD.set he) hS hl
  show H[a]? = some (vp_cell cA (N, .inl g))
  have h2 : H[a]? = some (vp_cell cA (N, .inl f)) := hP q0 _ he
  have h3 : vp_cell cA (N, .inl f) = vp_cell cA (N, .inl g) := by
    rw [vp_cell_i, vp_cell_i, arrV, arrV]
    have h4 : (fun j : Fin N => Value.int (f j.val)) = (fun j : Fin N => Value.int (g j.val)) := by
      funext j
      rw [h j.val j.isLt]
    rw [h4]
  rw [h2, h3]
section ROWS
theorem pt_iconst (C : pt_C p s m args c cc nL Ts own D tys A) {n : Int} {v : Int32} (hd : decode cc pc = .ok (.iconst n, 1)) (hpc : pc + 1 = pc') (hv : Int32.ofInt n = v) (K : pt_P p l e R s m args below meth c D A nL Q cells slots pc' ws lv (.int v :: st)) : pt_P p l e R s m args below meth c D A nL Q cells slots pc ws lv st := by
  subst hpc; exact fun H locs ls hP hD hS h => lv_iconst C.1 C.2.1 hd hv (K H locs ls hP hD hS h)
theorem pt_bipush (C : pt_C p s m args c cc nL Ts own D tys A) {n : Int} {v : Int32} (hd : decode cc pc = .ok (.bipush n, 2)) (hpc : pc + 2 = pc') (hv : (Int8.ofInt n).toInt32 = v) (K : pt_P p l e R s m args below meth c D A nL Q cells slots pc' ws lv (.int v :: st)) : pt_P p l e R s m args below meth c D A nL Q cells slots pc ws lv st := by
  subst hpc; exact fun H locs ls hP hD hS h => lv_bipush C.1 C.2.1 hd hv (K H locs ls hP hD hS h)
theorem pt_sipush (C : pt_C p s m args c cc nL Ts own D tys A) {n : Int} {v : Int32} (hd : decode cc pc = .ok (.sipush n, 3)) (hpc : pc + 3 = pc') (hv : (Int16.ofInt n).toInt32 = v) (K : pt_P p l e R s m args below meth c D A nL Q cells slots pc' ws lv (.int v :: st)) : pt_P p l e R s m args below meth c D A nL Q cells slots pc ws lv st := by
  subst hpc; exact fun H locs ls hP hD hS h => lv_sipush C.1 C.2.1 hd hv (K H locs ls hP hD hS h)
theorem pt_ldc (C : pt_C p s m args c cc nL Ts own D tys A) {index : Nat} {v : Int32} (hd : decode cc pc = .ok (.ldc index, 2)) (hpc : pc + 2 = pc') (hk : (Jvm.Cond.constant own index v).before args s = true) (K : pt_P p l e R s m args below meth c D A nL Q cells slots pc' ws lv (.int v :: st)) : pt_P p l e R s m args below meth c D A nL Q cells slots pc ws lv st := by
  subst hpc; exact fun H locs ls hP hD hS h => lv_ldc C.1 C.2.1 C.2.2.2.1 hk hd (K H locs ls hP hD hS h)
theorem pt_iload_n (C : pt_C p s m args c cc nL Ts own D tys A) {k : Fin 4} {x : Int32} (hd : decode cc pc = .ok (.iload_n k, 1)) (hpc : pc + 1 = pc') (i : Nat) (hi : lv[i]? = some ((k : Nat), .int x)) (K : pt_P p l e R s m args below meth c D A nL Q cells slots pc' ws lv (.int x :: st)) : pt_P p l e R s m args below meth c D A nL Q cells slots pc ws lv st := by
  subst hpc; exact fun H locs ls hP hD hS h => lv_iload_n C.1 C.2.1 hd rfl (lv_at h i hi) (K H locs ls hP hD hS h)
theorem pt_iload (C : pt_C p s m args c cc nL Ts own D tys A) {k : Nat} {x : Int32} (hd : decode cc pc = .ok (.iload k, 2)) (hpc : pc + 2 = pc') (i : Nat) (hi : lv[i]? = some (k, .int x)) (K : pt_P p l e R s m args below meth c D A nL Q cells slots pc' ws lv (.int x :: st)) : pt_P p l e R s m args below meth c D A nL Q cells slots pc ws lv st := by
  subst hpc; exact fun H locs ls hP hD hS h => lv_iload C.1 C.2.1 hd (lv_at h i hi) (K H locs ls hP hD hS h)
theorem pt_aload_n (C : pt_C p s m args c cc nL Ts own D tys A) {k : Fin 4} {a : Nat} (hd : decode cc pc = .ok (.aload_n k, 1)) (hpc : pc + 1 = pc') (i : Nat) (hi : lv[i]? = some ((k : Nat), .ref a)) (K : pt_P p l e R s m args below meth c D A nL Q cells slots pc' ws lv (.ref a :: st)) : pt_P p l e R s m args below meth c D A nL Q cells slots pc ws lv st := by
  subst hpc; exact fun H locs ls hP hD hS h => lv_aload_n C.1 C.2.1 hd rfl (lv_at h i hi) (K H locs ls hP hD hS h)
theorem pt_aload (C : pt_C p s m args c cc nL Ts own D tys A) {k : Nat} {a : Nat} (hd : decode cc pc = .ok (.aload k, 2)) (hpc : pc + 2 = pc') (i : Nat) (hi : lv[i]? = some (k, .ref a)) (K : pt_P p l e R s m args below meth c D A nL Q cells slots pc' ws lv (.ref a :: st)) : pt_P p l e R s m args below meth c D A nL Q cells slots pc ws lv st := by
  subst hpc; exact fun H locs ls hP hD hS h => lv_aload C.1 C.2.1 hd (lv_at h i hi) (K H locs ls hP hD hS h)
theorem pt_istore_n (C : pt_C p s m args c cc nL Ts own D tys A) {k : Fin 4} {i : Nat} {x : Int32} (hd : decode cc pc = .ok (.istore_n k, 1)) (hpc : pc + 1 = pc') (hi : (k : Nat) = i) (hn : i < nL) (hl : (i, Value.int x) :: lv.filter (fun q => !(q.1 == i) && !(q.1 + 1 == i && q.2.category == 2)) = lv') (K : pt_P p l e R s m args below meth c D A nL Q cells slots pc' ws lv' rest) : pt_P p l e R s m args below meth c D A nL Q cells slots pc ws lv (.int x :: rest) := by
  subst hpc; exact fun H locs ls hP hD hS h => lv_istore_n C.1 C.2.1 hd hi h hn hl (fun ls' h' => K H locs ls' hP hD hS h')
theorem pt_istore (C : pt_C p s m args c cc nL Ts own D tys A) {i : Nat} {x : Int32} (hd : decode cc pc = .ok (.istore i, 2)) (hpc : pc + 2 = pc') (hn : i < nL) (hl : (i, Value.int x) :: lv.filter (fun q => !(q.1 == i) && !(q.1 + 1 == i && q.2.category == 2)) = lv') (K : pt_P p l e R s m args below meth c D A nL Q cells slots pc' ws lv' rest) : pt_P p l e R s m args below meth c D A nL Q cells slots pc ws lv (.int x :: rest) := by
  subst hpc; exact fun H locs ls hP hD hS h => lv_istore C.1 C.2.1 hd h hn hl (fun ls' h' => K H locs ls' hP hD hS h')
theorem pt_iinc (C : pt_C p s m args c cc nL Ts own D tys A) {i : Nat} {n : Int} {x v : Int32} (hd : decode cc pc = .ok (.iinc i n, 3)) (hpc : pc + 3 = pc') (k : Nat) (hk : lv[k]? = some (i, .int x)) (hv : x + Int32.ofInt n = v) (hn : i < nL) (hl : (i, Value.int v) :: lv.filter (fun q => !(q.1 == i) && !(q.1 + 1 == i && q.2.category == 2)) = lv') (K : pt_P p l e R s m args below meth c D A nL Q cells slots pc' ws lv' st) : pt_P p l e R s m args below meth c D A nL Q cells slots pc ws lv st := by
  subst hpc; exact fun H locs ls hP hD hS h => lv_iinc C.1 C.2.1 hd h hk hv hn hl (fun ls' h' => K H locs ls' hP hD hS h')
theorem pt_iadd (C : pt_C p s m args c cc nL Ts own D tys A) {x y : Int32} (hd : decode cc pc = .ok (.iadd, 1)) (hpc : pc + 1 = pc') (K : pt_P p l e R s m args below meth c D A nL Q cells slots pc' ws lv (.int (x + y) :: rest)) : pt_P p l e R s m args below meth c D A nL Q cells slots pc ws lv (.int y :: .int x :: rest) := by
  subst hpc; exact fun H locs ls hP hD hS h => lv_iadd C.1 C.2.1 hd (K H locs ls hP hD hS h)
theorem pt_isub (C : pt_C p s m args c cc nL Ts own D tys A) {x y : Int32} (hd : decode cc pc = .ok (.isub, 1)) (hpc : pc + 1 = pc') (K : pt_P p l e R s m args below meth c D A nL Q cells slots pc' ws lv (.int (x - y) :: rest)) : pt_P p l e R s m args below meth c D A nL Q cells slots pc ws lv (.int y :: .int x :: rest) := by
  subst hpc; exact fun H locs ls hP hD hS h => lv_isub C.1 C.2.1 hd (K H locs ls hP hD hS h)
theorem pt_imul (C : pt_C p s m args c cc nL Ts own D tys A) {x y : Int32} (hd : decode cc pc = .ok (.imul, 1)) (hpc : pc + 1 = pc') (K : pt_P p l e R s m args below meth c D A nL Q cells slots pc' ws lv (.int (x * y) :: rest)) : pt_P p l e R s m args below meth c D A nL Q cells slots pc ws lv (.int y :: .int x :: rest) := by
  subst hpc; exact fun H locs ls hP hD hS h => lv_imul C.1 C.2.1 hd (K H locs ls hP hD hS h)
theorem pt_idiv (C : pt_C p s m args c cc nL Ts own D tys A) {x y : Int32} (hd : decode cc pc = .ok (.idiv, 1)) (hpc : pc + 1 = pc') (hne : ¬ y = 0) (K : pt_P p l e R s m args below meth c D A nL Q cells slots pc' ws lv (.int (x / y) :: rest)) : pt_P p l e R s m args below meth c D A nL Q cells slots pc ws lv (.int y :: .int x :: rest) := by
  subst hpc; exact fun H locs ls hP hD hS h => lv_idiv C.1 C.2.1 hd hne (K H locs ls hP hD hS h)
theorem pt_iand (C : pt_C p s m args c cc nL Ts own D tys A) {x y : Int32} (hd : decode cc pc = .ok (.iand, 1)) (hpc : pc + 1 = pc') (K : pt_P p l e R s m args below meth c D A nL Q cells slots pc' ws lv (.int (x &&& y) :: rest)) : pt_P p l e R s m args below meth c D A nL Q cells slots pc ws lv (.int y :: .int x :: rest) := by
  subst hpc; exact fun H locs ls hP hD hS h => lv_iand C.1 C.2.1 hd (K H locs ls hP hD hS h)
theorem pt_ior (C : pt_C p s m args c cc nL Ts own D tys A) {x y : Int32} (hd : decode cc pc = .ok (.ior, 1)) (hpc : pc + 1 = pc') (K : pt_P p l e R s m args below meth c D A nL Q cells slots pc' ws lv (.int (x ||| y) :: rest)) : pt_P p l e R s m args below meth c D A nL Q cells slots pc ws lv (.int y :: .int x :: rest) := by
  subst hpc; exact fun H locs ls hP hD hS h => lv_ior C.1 C.2.1 hd (K H locs ls hP hD hS h)
theorem pt_ixor (C : pt_C p s m args c cc nL Ts own D tys A) {x y : Int32} (hd : decode cc pc = .ok (.ixor, 1)) (hpc : pc + 1 = pc') (K : pt_P p l e R s m args below meth c D A nL Q cells slots pc' ws lv (.int (x ^^^ y) :: rest)) : pt_P p l e R s m args below meth c D A nL Q cells slots pc ws lv (.int y :: .int x :: rest) := by
  subst hpc; exact fun H locs ls hP hD hS h => lv_ixor C.1 C.2.1 hd (K H locs ls hP hD hS h)
theorem pt_ishl (C : pt_C p s m args c cc nL Ts own D tys A) {x y : Int32} (hd : decode cc pc = .ok (.ishl, 1)) (hpc : pc + 1 = pc') (K : pt_P p l e R s m args below meth c D A nL Q cells slots pc' ws lv (.int (x <<< (y &&& 31)) :: rest)) : pt_P p l e R s m args below meth c D A nL Q cells slots pc ws lv (.int y :: .int x :: rest) := by
  subst hpc; exact fun H locs ls hP hD hS h => lv_ishl C.1 C.2.1 hd (K H locs ls hP hD hS h)
theorem pt_ishr (C : pt_C p s m args c cc nL Ts own D tys A) {x y : Int32} (hd : decode cc pc = .ok (.ishr, 1)) (hpc : pc + 1 = pc') (K : pt_P p l e R s m args below meth c D A nL Q cells slots pc' ws lv (.int (x >>> (y &&& 31)) :: rest)) : pt_P p l e R s m args below meth c D A nL Q cells slots pc ws lv (.int y :: .int x :: rest) := by
  subst hpc; exact fun H locs ls hP hD hS h => lv_ishr C.1 C.2.1 hd (K H locs ls hP hD hS h)
theorem pt_ineg (C : pt_C p s m args c cc nL Ts own D tys A) {x : Int32} (hd : decode cc pc = .ok (.ineg, 1)) (hpc : pc + 1 = pc') (K : pt_P p l e R s m args below meth c D A nL Q cells slots pc' ws lv (.int (-x) :: rest)) : pt_P p l e R s m args below meth c D A nL Q cells slots pc ws lv (.int x :: rest) := by
  subst hpc; exact fun H locs ls hP hD hS h => lv_ineg C.1 C.2.1 hd (K H locs ls hP hD hS h)
theorem pt_dup (C : pt_C p s m args c cc nL Ts own D tys A) {va : Value} (hd : decode cc pc = .ok (.dup, 1)) (hpc : pc + 1 = pc') (hva : va.category = 1) (K : pt_P p l e R s m args below meth c D A nL Q cells slots pc' ws lv (va :: va :: rest)) : pt_P p l e R s m args below meth c D A nL Q cells slots pc ws lv (va :: rest) := by
  subst hpc; exact fun H locs ls hP hD hS h => lv_dup C.1 C.2.1 hd hva (K H locs ls hP hD hS h)
theorem pt_pop (C : pt_C p s m args c cc nL Ts own D tys A) {va : Value} (hd : decode cc pc = .ok (.pop, 1)) (hpc : pc + 1 = pc') (hva : va.category = 1) (K : pt_P p l e R s m args below meth c D A nL Q cells slots pc' ws lv rest) : pt_P p l e R s m args below meth c D A nL Q cells slots pc ws lv (va :: rest) := by
  subst hpc; exact fun H locs ls hP hD hS h => lv_pop C.1 C.2.1 hd hva (K H locs ls hP hD hS h)
theorem pt_dup_x1 (C : pt_C p s m args c cc nL Ts own D tys A) {va vb : Value} (hd : decode cc pc = .ok (.dup_x1, 1)) (hpc : pc + 1 = pc') (hva : va.category = 1) (hvb : vb.category = 1) (K : pt_P p l e R s m args below meth c D A nL Q cells slots pc' ws lv (va :: vb :: va :: rest)) : pt_P p l e R s m args below meth c D A nL Q cells slots pc ws lv (va :: vb :: rest) := by
  subst hpc; exact fun H locs ls hP hD hS h => lv_dup_x1 C.1 C.2.1 hd hva hvb (K H locs ls hP hD hS h)
theorem pt_dup2 (C : pt_C p s m args c cc nL Ts own D tys A) {va vb : Value} (hd : decode cc pc = .ok (.dup2, 1)) (hpc : pc + 1 = pc') (hva : va.category = 1) (hvb : vb.category = 1) (K : pt_P p l e R s m args below meth c D A nL Q cells slots pc' ws lv (va :: vb :: va :: vb :: rest)) : pt_P p l e R s m args below meth c D A nL Q cells slots pc ws lv (va :: vb :: rest) := by
  subst hpc; exact fun H locs ls hP hD hS h => lv_dup2_11 C.1 C.2.1 hd hva hvb (K H locs ls hP hD hS h)
theorem pt_goto (C : pt_C p s m args c cc nL Ts own D tys A) {off : Int} (hd : decode cc pc = .ok (.goto off, 3)) (hpc : (pc : Int) + off = (pc' : Int)) (K : pt_P p l e R s m args below meth c D A nL Q cells slots pc' ws lv st) : pt_P p l e R s m args below meth c D A nL Q cells slots pc ws lv st :=
  fun H locs ls hP hD hS h => lv_goto C.1 C.2.1 hd hpc (K H locs ls hP hD hS h)
theorem pt_if_eq (C : pt_C p s m args c cc nL Ts own D tys A) {x : Int32} {off : Int} {tgt : Nat} (hd : decode cc pc = .ok (.ifCond .eq off, 3)) (ht : (pc : Int) + off = (tgt : Int)) (hpc : pc + 3 = pc') (kt : x = 0 → pt_P p l e R s m args below meth c D A nL Q cells slots tgt ws lv rest) (kf : ¬ x = 0 → pt_P p l e R s m args below meth c D A nL Q cells slots pc' ws lv rest) : pt_P p l e R s m args below meth c D A nL Q cells slots pc ws lv (.int x :: rest) := by
  subst hpc; exact fun H locs ls hP hD hS h => lv_if_eq C.1 C.2.1 hd ht (fun c => kt c H locs ls hP hD hS h) (fun c => kf c H locs ls hP hD hS h)
theorem pt_icmp_eq (C : pt_C p s m args c cc nL Ts own D tys A) {x y : Int32} {off : Int} {tgt : Nat} (hd : decode cc pc = .ok (.if_icmp .eq off, 3)) (ht : (pc : Int) + off = (tgt : Int)) (hpc : pc + 3 = pc') (kt : x = y → pt_P p l e R s m args below meth c D A nL Q cells slots tgt ws lv rest) (kf : ¬ x = y → pt_P p l e R s m args below meth c D A nL Q cells slots pc' ws lv rest) : pt_P p l e R s m args below meth c D A nL Q cells slots pc ws lv (.int y :: .int x :: rest) := by
  subst hpc; exact fun H locs ls hP hD hS h => lv_icmp_eq C.1 C.2.1 hd ht (fun c => kt c H locs ls hP hD hS h) (fun c => kf c H locs ls hP hD hS h)
theorem pt_if_ne (C : pt_C p s m args c cc nL Ts own D tys A) {x : Int32} {off : Int} {tgt : Nat} (hd : decode cc pc = .ok (.ifCond .ne off, 3)) (ht : (pc : Int) + off = (tgt : Int)) (hpc : pc + 3 = pc') (kt : ¬ x = 0 → pt_P p l e R s m args below meth c D A nL Q cells slots tgt ws lv rest) (kf : x = 0 → pt_P p l e R s m args below meth c D A nL Q cells slots pc' ws lv rest) : pt_P p l e R s m args below meth c D A nL Q cells slots pc ws lv (.int x :: rest) := by
  subst hpc; exact fun H locs ls hP hD hS h => lv_if_ne C.1 C.2.1 hd ht (fun c => kt c H locs ls hP hD hS h) (fun c => kf c H locs ls hP hD hS h)
theorem pt_icmp_ne (C : pt_C p s m args c cc nL Ts own D tys A) {x y : Int32} {off : Int} {tgt : Nat} (hd : decode cc pc = .ok (.if_icmp .ne off, 3)) (ht : (pc : Int) + off = (tgt : Int)) (hpc : pc + 3 = pc') (kt : ¬ x = y → pt_P p l e R s m args below meth c D A nL Q cells slots tgt ws lv rest) (kf : x = y → pt_P p l e R s m args below meth c D A nL Q cells slots pc' ws lv rest) : pt_P p l e R s m args below meth c D A nL Q cells slots pc ws lv (.int y :: .int x :: rest) := by
  subst hpc; exact fun H locs ls hP hD hS h => lv_icmp_ne C.1 C.2.1 hd ht (fun c => kt c H locs ls hP hD hS h) (fun c => kf c H locs ls hP hD hS h)
theorem pt_if_lt (C : pt_C p s m args c cc nL Ts own D tys A) {x : Int32} {off : Int} {tgt : Nat} (hd : decode cc pc = .ok (.ifCond .lt off, 3)) (ht : (pc : Int) + off = (tgt : Int)) (hpc : pc + 3 = pc') (kt : x < 0 → pt_P p l e R s m args below meth c D A nL Q cells slots tgt ws lv rest) (kf : ¬ x < 0 → pt_P p l e R s m args below meth c D A nL Q cells slots pc' ws lv rest) : pt_P p l e R s m args below meth c D A nL Q cells slots pc ws lv (.int x :: rest) := by
  subst hpc; exact fun H locs ls hP hD hS h => lv_if_lt C.1 C.2.1 hd ht (fun c => kt c H locs ls hP hD hS h) (fun c => kf c H locs ls hP hD hS h)
theorem pt_icmp_lt (C : pt_C p s m args c cc nL Ts own D tys A) {x y : Int32} {off : Int} {tgt : Nat} (hd : decode cc pc = .ok (.if_icmp .lt off, 3)) (ht : (pc : Int) + off = (tgt : Int)) (hpc : pc + 3 = pc') (kt : x < y → pt_P p l e R s m args below meth c D A nL Q cells slots tgt ws lv rest) (kf : ¬ x < y → pt_P p l e R s m args below meth c D A nL Q cells slots pc' ws lv rest) : pt_P p l e R s m args below meth c D A nL Q cells slots pc ws lv (.int y :: .int x :: rest) := by
  subst hpc; exact fun H locs ls hP hD hS h => lv_icmp_lt C.1 C.2.1 hd ht (fun c => kt c H locs ls hP hD hS h) (fun c => kf c H locs ls hP hD hS h)
theorem pt_if_ge (C : pt_C p s m args c cc nL Ts own D tys A) {x : Int32} {off : Int} {tgt : Nat} (hd : decode cc pc = .ok (.ifCond .ge off, 3)) (ht : (pc : Int) + off = (tgt : Int)) (hpc : pc + 3 = pc') (kt : 0 ≤ x → pt_P p l e R s m args below meth c D A nL Q cells slots tgt ws lv rest) (kf : ¬ 0 ≤ x → pt_P p l e R s m args below meth c D A nL Q cells slots pc' ws lv rest) : pt_P p l e R s m args below meth c D A nL Q cells slots pc ws lv (.int x :: rest) := by
  subst hpc; exact fun H locs ls hP hD hS h => lv_if_ge C.1 C.2.1 hd ht (fun c => kt c H locs ls hP hD hS h) (fun c => kf c H locs ls hP hD hS h)
theorem pt_icmp_ge (C : pt_C p s m args c cc nL Ts own D tys A) {x y : Int32} {off : Int} {tgt : Nat} (hd : decode cc pc = .ok (.if_icmp .ge off, 3)) (ht : (pc : Int) + off = (tgt : Int)) (hpc : pc + 3 = pc') (kt : y ≤ x → pt_P p l e R s m args below meth c D A nL Q cells slots tgt ws lv rest) (kf : ¬ y ≤ x → pt_P p l e R s m args below meth c D A nL Q cells slots pc' ws lv rest) : pt_P p l e R s m args below meth c D A nL Q cells slots pc ws lv (.int y :: .int x :: rest) := by
  subst hpc; exact fun H locs ls hP hD hS h => lv_icmp_ge C.1 C.2.1 hd ht (fun c => kt c H locs ls hP hD hS h) (fun c => kf c H locs ls hP hD hS h)
theorem pt_if_gt (C : pt_C p s m args c cc nL Ts own D tys A) {x : Int32} {off : Int} {tgt : Nat} (hd : decode cc pc = .ok (.ifCond .gt off, 3)) (ht : (pc : Int) + off = (tgt : Int)) (hpc : pc + 3 = pc') (kt : 0 < x → pt_P p l e R s m args below meth c D A nL Q cells slots tgt ws lv rest) (kf : ¬ 0 < x → pt_P p l e R s m args below meth c D A nL Q cells slots pc' ws lv rest) : pt_P p l e R s m args below meth c D A nL Q cells slots pc ws lv (.int x :: rest) := by
  subst hpc; exact fun H locs ls hP hD hS h => lv_if_gt C.1 C.2.1 hd ht (fun c => kt c H locs ls hP hD hS h) (fun c => kf c H locs ls hP hD hS h)
theorem pt_icmp_gt (C : pt_C p s m args c cc nL Ts own D tys A) {x y : Int32} {off : Int} {tgt : Nat} (hd : decode cc pc = .ok (.if_icmp .gt off, 3)) (ht : (pc : Int) + off = (tgt : Int)) (hpc : pc + 3 = pc') (kt : y < x → pt_P p l e R s m args below meth c D A nL Q cells slots tgt ws lv rest) (kf : ¬ y < x → pt_P p l e R s m args below meth c D A nL Q cells slots pc' ws lv rest) : pt_P p l e R s m args below meth c D A nL Q cells slots pc ws lv (.int y :: .int x :: rest) := by
  subst hpc; exact fun H locs ls hP hD hS h => lv_icmp_gt C.1 C.2.1 hd ht (fun c => kt c H locs ls hP hD hS h) (fun c => kf c H locs ls hP hD hS h)
theorem pt_if_le (C : pt_C p s m args c cc nL Ts own D tys A) {x : Int32} {off : Int} {tgt : Nat} (hd : decode cc pc = .ok (.ifCond .le off, 3)) (ht : (pc : Int) + off = (tgt : Int)) (hpc : pc + 3 = pc') (kt : x ≤ 0 → pt_P p l e R s m args below meth c D A nL Q cells slots tgt ws lv rest) (kf : ¬ x ≤ 0 → pt_P p l e R s m args below meth c D A nL Q cells slots pc' ws lv rest) : pt_P p l e R s m args below meth c D A nL Q cells slots pc ws lv (.int x :: rest) := by
  subst hpc; exact fun H locs ls hP hD hS h => lv_if_le C.1 C.2.1 hd ht (fun c => kt c H locs ls hP hD hS h) (fun c => kf c H locs ls hP hD hS h)
theorem pt_icmp_le (C : pt_C p s m args c cc nL Ts own D tys A) {x y : Int32} {off : Int} {tgt : Nat} (hd : decode cc pc = .ok (.if_icmp .le off, 3)) (ht : (pc : Int) + off = (tgt : Int)) (hpc : pc + 3 = pc') (kt : x ≤ y → pt_P p l e R s m args below meth c D A nL Q cells slots tgt ws lv rest) (kf : ¬ x ≤ y → pt_P p l e R s m args below meth c D A nL Q cells slots pc' ws lv rest) : pt_P p l e R s m args below meth c D A nL Q cells slots pc ws lv (.int y :: .int x :: rest) := by
  subst hpc; exact fun H locs ls hP hD hS h => lv_icmp_le C.1 C.2.1 hd ht (fun c => kt c H locs ls hP hD hS h) (fun c => kf c H locs ls hP hD hS h)
theorem pt_tabIn (C : pt_C p s m args c cc nL Ts own D tys A) {dflt lo hi : Int} {offs : Array Int} {len : Nat} {x : Int32} {off : Int} {tgt : Nat} (hd : decode cc pc = .ok (.tableswitch dflt lo hi offs, len)) (h1 : ¬ x.toInt < lo) (h2 : ¬ hi < x.toInt) (ho : offs[(x.toInt - lo).toNat]? = some off) (ht : (pc : Int) + off = (tgt : Int)) (K : pt_P p l e R s m args below meth c D A nL Q cells slots tgt ws lv rest) : pt_P p l e R s m args below meth c D A nL Q cells slots pc ws lv (.int x :: rest) :=
  fun H locs ls hP hD hS h => lv_tableIn C.1 C.2.1 hd h1 h2 ho ht (K H locs ls hP hD hS h)
theorem pt_tabOut (C : pt_C p s m args c cc nL Ts own D tys A) {dflt lo hi : Int} {offs : Array Int} {len : Nat} {x : Int32} {tgt : Nat} (hd : decode cc pc = .ok (.tableswitch dflt lo hi offs, len)) (h1 : x.toInt < lo ∨ hi < x.toInt) (ht : (pc : Int) + dflt = (tgt : Int)) (K : pt_P p l e R s m args below meth c D A nL Q cells slots tgt ws lv rest) : pt_P p l e R s m args below meth c D A nL Q cells slots pc ws lv (.int x :: rest) :=
  fun H locs ls hP hD hS h => lv_tableOut C.1 C.2.1 hd h1 ht (K H locs ls hP hD hS h)
theorem pt_get (C : pt_C p s m args c cc nL Ts own D tys A) {Cn : String} {T : u_T} {N ci index a : Nat} {fs : List Value} {v : Value} (hin : ∀ w ∈ u_ws Cn T N, w ∈ Ts) (hd : decode cc pc = .ok (.getfield index, 3)) (hpc : pc + 3 = pc') (q0 k : Nat) (he : ws[q0]? = some (a, .inr (ci, fs))) (hc : vwCl[ci]? = some (Cn, T, N)) (hk : k < N) (hlink : (Cond.fieldLink own index (T k).1 (T k).2.1 (T k).2.2.1).before args s = true) (hv : fs[k]? = some v) (K : pt_P p l e R s m args below meth c D A nL Q cells slots pc' ws lv (v :: rest)) : pt_P p l e R s m args below meth c D A nL Q cells slots pc ws lv (.ref a :: rest) := by
  subst hpc; exact fun H locs ls hP hD hS h => va_get C.1 C.2.1 C.hts hin C.2.2.2.1 C.2.2.2.2.2.1 hP q0 he hc k hk hlink (fun _ h9 => h9) hv hd (K H locs ls hP hD hS h)
theorem pt_put (C : pt_C p s m args c cc nL Ts own D tys A) {Cn : String} {T : u_T} {N ci index a : Nat} {fs : List Value} {v : Value} {ty : FieldType} (hin : ∀ w ∈ u_ws Cn T N, w ∈ Ts) (ty0 : Nat → FieldType) (hty : ∀ k, k < N → parseFieldDescriptor (T k).2.2.1 = some (ty0 k)) (hnm : ∀ a, a < N → ∀ b, b < N → a ≠ b → (T a).2.1 ≠ (T b).2.1) (hd : decode cc pc = .ok (.putfield index, 3)) (hpc : pc + 3 = pc') (q0 k : Nat) (he : ws[q0]? = some (a, .inr (ci, fs))) (hc : vwCl[ci]? = some (Cn, T, N)) (hk : k < N) (hlink : (Cond.fieldLink own index (T k).1 (T k).2.1 (T k).2.2.1).before args s = true) (hfin : (T k).2.2.2 = false) (htt : parseFieldDescriptor (T k).2.2.1 = some ty) (hn : narrow ty v = v) (hfit : fits ty v = true) (hlen : k < fs.length) (hw : ws.set q0 (a, .inr (ci, fs.set k v)) = ws') (K : pt_P p l e R s m args below meth c D A nL Q cells slots pc' ws' lv rest) : pt_P p l e R s m args below meth c D A nL Q cells slots pc ws lv (v :: .ref a :: rest) := by
  subst hpc; subst hw; exact fun H locs ls hP hD hS h => va_put C.1 C.2.1 C.hts hin ty0 hty hnm C.2.2.2.1 C.2.2.2.2.2.1 hP hD hS q0 he hc k hk hlink (fun _ h9 => h9) hfin htt hn hfit hlen hd (fun H1 locs1 hP hD hS => K H1 locs1 ls hP hD hS h)
theorem pt_putF (C : pt_C p s m args c cc nL Ts own D tys A) {Cn : String} {T : u_T} {N ci index a : Nat} {fs : List Value} {v : Value} {ty : FieldType} (hin2 : meth.name = "<init>") (hin : ∀ w ∈ u_ws Cn T N, w ∈ Ts) (ty0 : Nat → FieldType) (hty : ∀ k, k < N → parseFieldDescriptor (T k).2.2.1 = some (ty0 k)) (hnm : ∀ a, a < N → ∀ b, b < N → a ≠ b → (T a).2.1 ≠ (T b).2.1) (hd : decode cc pc = .ok (.putfield index, 3)) (hpc : pc + 3 = pc') (q0 k : Nat) (he : ws[q0]? = some (a, .inr (ci, fs))) (hc : vwCl[ci]? = some (Cn, T, N)) (hk : k < N) (hlink : (Cond.fieldLink own index (T k).1 (T k).2.1 (T k).2.2.1).before args s = true) (hfin : (T k).2.2.2 = true) (hdecl : (T k).1 = own) (htt : parseFieldDescriptor (T k).2.2.1 = some ty) (hn : narrow ty v = v) (hfit : fits ty v = true) (hlen : k < fs.length) (hw : ws.set q0 (a, .inr (ci, fs.set k v)) = ws') (K : pt_P p l e R s m args below meth c D A nL Q cells slots pc' ws' lv rest) : pt_P p l e R s m args below meth c D A nL Q cells slots pc ws lv (v :: .ref a :: rest) := by
  subst hpc; subst hw; exact fun H locs ls hP hD hS h => va_putF C.1 C.2.1 C.hts hin ty0 hty hnm C.2.2.2.1 C.2.2.2.2.2.1 hP hD hS q0 he hc k hk hlink (fun _ h9 => h9) hfin hin2 hdecl htt hn hfit hlen hd (fun H1 locs1 hP hD hS => K H1 locs1 ls hP hD hS h)
theorem pt_iald (C : pt_C p s m args c cc nL Ts own D tys A) {a n : Nat} {f : Nat → Int32} {i : Int32} (hd : decode cc pc = .ok (.iaload, 1)) (hpc : pc + 1 = pc') (q0 : Nat) (he : ws[q0]? = some (a, .inl (cA, n, .inl f))) (ht : tys[0]? = some (cA, .int)) (k : Nat) (hi : i = nI k) (hk : k < n) (hn : n < 2 ^ 31) (K : pt_P p l e R s m args below meth c D A nL Q cells slots pc' ws lv (.int (f k) :: rest)) : pt_P p l e R s m args below meth c D A nL Q cells slots pc ws lv (.int i :: .ref a :: rest) := by
  subst hpc; subst hi
  have e1 : (nI k).toNatClampNeg = k := nI_clamp (by omega)
  refine fun H locs ls hP hD hS h => va_iald C.1 C.2.1 C.2.2.2.2.2.1 hP q0 0 he ht (vp_in_nI hk hn) hd ?_
  rw [e1]
  exact K H locs ls hP hD hS h
theorem pt_iast (C : pt_C p s m args c cc nL Ts own D tys A) {a n : Nat} {f : Nat → Int32} {i x : Int32} (hd : decode cc pc = .ok (.iastore, 1)) (hpc : pc + 1 = pc') (q0 : Nat) (he : ws[q0]? = some (a, .inl (cA, n, .inl f))) (ht : tys[0]? = some (cA, .int)) (k : Nat) (hi : i = nI k) (hk : k < n) (hn : n < 2 ^ 31) (hw : ws.set q0 (a, .inl (cA, n, .inl (upd f k x))) = ws') (K : pt_P p l e R s m args below meth c D A nL Q cells slots pc' ws' lv rest) : pt_P p l e R s m args below meth c D A nL Q cells slots pc ws lv (.int x :: .int i :: .ref a :: rest) := by
  subst hpc; subst hi; subst hw
  have e1 : (nI k).toNatClampNeg = k := nI_clamp (by omega)
  refine fun H locs ls hP hD hS h => va_iast C.1 C.2.1 C.2.2.2.2.2.1 hP hD hS q0 0 he ht (vp_in_nI hk hn) hd ?_
  rw [e1]
  exact fun H1 locs1 hP hD hS => K H1 locs1 ls hP hD hS h
theorem pt_alen (C : pt_C p s m args c cc nL Ts own D tys A) {a n : Nat} {f : Nat → Int32} (hd : decode cc pc = .ok (.arraylength, 1)) (hpc : pc + 1 = pc') (q0 : Nat) (he : ws[q0]? = some (a, .inl (cA, n, .inl f))) (ht : tys[0]? = some (cA, .int)) (K : pt_P p l e R s m args below meth c D A nL Q cells slots pc' ws lv (.int (nI n) :: rest)) : pt_P p l e R s m args below meth c D A nL Q cells slots pc ws lv (.ref a :: rest) := by
  subst hpc; exact fun H locs ls hP hD hS h => va_alen C.1 C.2.1 C.2.2.2.2.2.1 hP q0 0 he ht rfl hd (K H locs ls hP hD hS h)
theorem pt_mmin (C : pt_C p s m args c cc nL Ts own D tys A) {index : Nat} {x y : Int32} (hd : decode cc pc = .ok (.invokestatic index, 3)) (hpc : pc + 3 = pc') (hlink : (Cond.methodLink own index Lib.Math.min.name).before args s = true) (hstat : (Cond.static Lib.Math.min.name).before args s = true) (hini : (Cond.initialized "java/lang/Math").before args s = true) (hcode : (Cond.code Lib.Math.min.name Lib.Math.min.code 2 (some .int)).before args s = true) (hframes : 1 ≤ R.frames) (hlocals : (rest.map fun v => v.category).sum + 13 ≤ R.locals) (hc : cells ≤ R.cells) (hs : slots ≤ R.slots) (K : pt_P p l e R s m args below meth c D A nL Q cells slots pc' ws lv (.int (if y < x then y else x) :: rest)) : pt_P p l e R s m args below meth c D A nL Q cells slots pc ws lv (.int y :: .int x :: rest) := by
  subst hpc; exact fun H locs ls hP hD hS h => va_mmin C.1 C.2.1 (C.2.2.1.trans h.1.symm) C.2.2.2.1 hlink hstat hini hcode hframes hlocals hc hs hd (K H locs ls hP hD hS h)
theorem pt_mmax (C : pt_C p s m args c cc nL Ts own D tys A) {index : Nat} {x y : Int32} (hd : decode cc pc = .ok (.invokestatic index, 3)) (hpc : pc + 3 = pc') (hlink : (Cond.methodLink own index Lib.Math.max.name).before args s = true) (hstat : (Cond.static Lib.Math.max.name).before args s = true) (hini : (Cond.initialized "java/lang/Math").before args s = true) (hcode : (Cond.code Lib.Math.max.name Lib.Math.max.code 2 (some .int)).before args s = true) (hframes : 1 ≤ R.frames) (hlocals : (rest.map fun v => v.category).sum + 13 ≤ R.locals) (hc : cells ≤ R.cells) (hs : slots ≤ R.slots) (K : pt_P p l e R s m args below meth c D A nL Q cells slots pc' ws lv (.int (if x < y then y else x) :: rest)) : pt_P p l e R s m args below meth c D A nL Q cells slots pc ws lv (.int y :: .int x :: rest) := by
  subst hpc; exact fun H locs ls hP hD hS h => va_mmax C.1 C.2.1 (C.2.2.1.trans h.1.symm) C.2.2.2.1 hlink hstat hini hcode hframes hlocals hc hs hd (K H locs ls hP hD hS h)
theorem pt_copy (C : pt_C p s m args c cc nL Ts own D tys A) {index a a0 n0 n1 : Nat} {f g : Nat → Int32} {nn : Int32} (hd : decode cc pc = .ok (.invokestatic index, 3)) (hpc : pc + 3 = pc') (hlink : (Cond.methodLink own index arraycopyName).before args s = true) (hnat : (Cond.native arraycopyName).before args s = true) (hstat : (Cond.static arraycopyName).before args s = true) (hini : (Cond.initialized "java/lang/System").before args s = true)
    (q0 q1 : Nat) (he0 : ws[q0]? = some (a0, .inl (cA, n0, .inl f))) (he1 : ws[q1]? = some (a, .inl (cA, n1, .inl g))) (ht : tys[0]? = some (cA, .int)) (k : Nat) (hk : nn = nI k) (h4 : k ≤ n0) (h5 : k ≤ n1) (hn : k < 2 ^ 31) (hframes : 1 ≤ R.frames) (hlocals : (rest.map fun v => v.category).sum + (nativeFrameWords "java/lang/System" "arraycopy" 5 + 11) ≤ R.locals)
    (hw : ws.set q1 (a, .inl (cA, n1, .inl (fun j => if j < k then f j else g j))) = ws') (K : pt_P p l e R s m args below meth c D A nL Q cells slots pc' ws' lv rest) : pt_P p l e R s m args below meth c D A nL Q cells slots pc ws lv (.int nn :: .int 0 :: .ref a :: .int 0 :: .ref a0 :: rest) := by
  subst hpc; subst hk; subst hw
  have e1 : (nI k).toNatClampNeg = k := nI_clamp hn
  have e0 : (0 : Int32).toNatClampNeg = 0 := rfl
  have e2 : va_cpy f g (0 : Int32).toNatClampNeg (0 : Int32).toNatClampNeg (nI k).toNatClampNeg = (fun j => if j < k then f j else g j) := by
    rw [e1, e0]
    funext j
    simp [va_cpy]
  refine fun H locs ls hP hD hS h => va_copyi C.1 C.2.1 (C.2.2.1.trans h.1.symm) C.2.2.2.1 hlink hnat hstat hini C.2.2.2.2.2.1 hP hD hS q0 q1 0 0 he0 he1 ht ht rfl (by decide) (by decide) (nI_pos hn) (by rw [e1, e0]; omega) (by rw [e1, e0]; omega) (fun i _ => rfl) hframes hlocals hd ?_
  rw [e2]
  exact fun H1 locs1 hP hD hS => K H1 locs1 ls hP hD hS h
theorem pt_copyA (C : pt_C p s m args c cc nL Ts own D tys A) {index a a0 n0 n1 : Nat} {f g : Nat → Int32} {nn : Int32} (hd : decode cc pc = .ok (.invokestatic index, 3)) (hpc : pc + 3 = pc') (hlink : (Cond.methodLink own index arraycopyName).before args s = true) (hnat : (Cond.native arraycopyName).before args s = true) (hstat : (Cond.static arraycopyName).before args s = true) (hini : (Cond.initialized "java/lang/System").before args s = true)
    (q0 q1 : Nat) (he0 : ws[q0]? = some (a0, .inl (cA, n0, .inl f))) (he1 : ws[q1]? = some (a, .inl (cA, n1, .inl g))) (ht : tys[0]? = some (cA, .int)) (hk : nn = nI n1) (h4 : n1 ≤ n0) (hn : n1 < 2 ^ 31) (hframes : 1 ≤ R.frames) (hlocals : (rest.map fun v => v.category).sum + (nativeFrameWords "java/lang/System" "arraycopy" 5 + 11) ≤ R.locals)
    (hw : ws.set q1 (a, .inl (cA, n1, .inl f)) = ws') (K : pt_P p l e R s m args below meth c D A nL Q cells slots pc' ws' lv rest) : pt_P p l e R s m args below meth c D A nL Q cells slots pc ws lv (.int nn :: .int 0 :: .ref a :: .int 0 :: .ref a0 :: rest) := by
  have hl : q1 < ws.length := (List.getElem?_eq_some_iff.mp he1).1
  refine pt_copy C hd hpc hlink hnat hstat hini q0 q1 he0 he1 ht n1 hk h4 (Nat.le_refl _) hn hframes hlocals rfl ?_
  refine pt_ext f q1 (List.getElem?_set_self hl) (fun j hj => if_pos hj) ?_ K
  rw [List.set_set]
  exact hw
end ROWS
/-! contracts: the answer and the world behind the method, as functions of the world ahead of it -/
def mt_B (D : va_G) (tys : List (ClassId × FieldType)) (A : Nat → Prop) (w1 : va_W) (t : State) : Prop := va_P D vwCl w1 t.heap ∧ va_K D vwCl tys t ∧ va_D A w1
def mt_Pc (D : va_G) (tys : List (ClassId × FieldType)) (sz : Nat) (w0 : va_W) : State → Prop := fun U => U.heap.size = sz ∧ va_P D vwCl w0 U.heap ∧ va_K D vwCl tys U ∧ va_D (fun _ => True) w0
def mt_I (l : Launch) (y : MethodName) (wy : List Cond) (rm : Room) (D : va_G) (tys : List (ClassId × FieldType)) (av : List Value) (w0 : va_W) (r : Int32) (w1 : va_W) : Prop :=
  ∀ sz : Nat, Met l y wy rm (va_Pc av (mt_Pc D tys sz w0)) (va_Qi (fun r' (_ : Unit) => r' = r) (fun _ t => mt_B D tys (va_A w0 sz) w1 t) (va_A w0 sz)) 0 0 (va_A w0 sz)
def mt_V (l : Launch) (y : MethodName) (wy : List Cond) (rm : Room) (D : va_G) (tys : List (ClassId × FieldType)) (av : List Value) (w0 : va_W) (w1 : va_W) : Prop :=
  ∀ sz : Nat, Met l y wy rm (va_Pc av (mt_Pc D tys sz w0)) (va_Qv (fun (_ : Unit) => True) (fun _ t => mt_B D tys (va_A w0 sz) w1 t) (va_A w0 sz)) 0 0 (va_A w0 sz)
theorem mt_blind {av : List Value} {sz : Nat} {w0 : va_W} : FrameBlind (va_Pc av (mt_Pc D tys sz w0)) := fun a U g mk q => ⟨q.1, q.2.1, q.2.2.1, va_K.moved (u := U) (U := U.calling g mk a) (Vm.Alike.refl U.vm) q.2.2.2.1, q.2.2.2.2⟩
theorem mt_pre {H : Heap} {av : List Value} {w0 : va_W} {A0 : Nat → Prop} (hK : va_K D vwCl tys s) (hP : va_P D vwCl w0 H) (hD : va_D A0 w0) : ∀ U : State, U.heap = H → s.WarmedH U.vm → va_Pc av (mt_Pc D tys H.size w0) av.toArray U :=
  fun U hU hW => ⟨rfl, by rw [hU], by rw [hU]; exact hP, va_K.moved hW.alike hK, hD.weaken (fun _ _ _ _ => trivial)⟩
/-- what a body owes -/
def pt_QI (below : List Frame) (args : Array Value) (s : State) (D : va_G) (tys : List (ClassId × FieldType)) (A : Nat → Prop) (r : Int32) (w1 : va_W) : State → Prop := MQ below (va_Qi (fun r' (_ : Unit) => r' = r) (fun _ t => mt_B D tys A w1 t) A) args s 0 0 A
def pt_QV (below : List Frame) (args : Array Value) (s : State) (D : va_G) (tys : List (ClassId × FieldType)) (A : Nat → Prop) (w1 : va_W) : State → Prop := MQ below (va_Qv (fun (_ : Unit) => True) (fun _ t => mt_B D tys A w1 t) A) args s 0 0 A
theorem mt_ofI {y : MethodName} {wy wy' : List Cond} {rm : Room} {av : List Value} {w0 w1 : va_W} {r : Int32} {maxL : Nat} {ret : Option FieldType} (hy : plainName y.cls = true) (hw : wy = Cond.code y cc maxL ret :: wy') (hlen : (lg_sl av).length ≤ maxL) (hlv : lv_args 0 av = lv)
    (body : ∀ (p : Program) (e : Env) (s : State) (m : MethodId) (args : Array Value) (below : List Frame) (meth : Method) (c : Code) (A : Nat → Prop), pt_C p s m args c cc maxL wy y.cls D tys A → meth.sig.returnType = ret → meth.locks = false → pt_P p l e rm s m args below meth c D A maxL (pt_QI below args s D tys A r w1) 0 0 0 w0 lv []) : mt_I l y wy rm D tys av w0 r w1 := by
  intro sz
  refine Met.ofW (cc := cc) (maxL := maxL) (ret := ret) hy hw ?_
  intro p e s m args below meth c s₁ B hml hv
  obtain ⟨rfl, hsz, hP, hK, hD0⟩ := hv
  have hts := atoms_spec (ws := wy) B.pre
  subst hsz
  have hA : ∀ q : Nat, s.heap.size ≤ q → va_A w0 s.heap.size q := fun q h => Or.inr h
  have hl := lv_entry av (n := maxL) hlen
  rw [lg_entry_eq]
  rw [hlv] at hl
  exact body p e s m _ below meth c _ ⟨B.exec, B.bytes, hml, findClass_of_methodNamed B.named, hts, hK, hA⟩ B.returns B.notSynchronized s.heap [] _ hP (hD0.self) va_S.rf hl
theorem mt_ofIF {y : MethodName} {wy wy' : List Cond} {rm : Room} {av : List Value} {w0 w1 : va_W} {r : Int32} {maxL : Nat} {ret : Option FieldType} (hy : plainFor y = true) (hw : wy = Cond.code y cc maxL ret :: wy') (hlen : (lg_sl av).length ≤ maxL) (hlv : lv_args 0 av = lv)
    (body : ∀ (p : Program) (e : Env) (s : State) (m : MethodId) (args : Array Value) (below : List Frame) (meth : Method) (c : Code) (A : Nat → Prop), pt_C p s m args c cc maxL wy y.cls D tys A → meth.sig.returnType = ret → meth.locks = false → pt_P p l e rm s m args below meth c D A maxL (pt_QI below args s D tys A r w1) 0 0 0 w0 lv []) : mt_I l y wy rm D tys av w0 r w1 := by
  intro sz
  refine va_MetF (cc := cc) (maxL := maxL) (ret := ret) hy hw ?_
  intro p e s m args below meth c s₁ B hml hv
  obtain ⟨rfl, hsz, hP, hK, hD0⟩ := hv
  have hts := atoms_spec (ws := wy) B.pre
  subst hsz
  have hA : ∀ q : Nat, s.heap.size ≤ q → va_A w0 s.heap.size q := fun q h => Or.inr h
  have hl := lv_entry av (n := maxL) hlen
  rw [lg_entry_eq]
  rw [hlv] at hl
  exact body p e s m _ below meth c _ ⟨B.exec, B.bytes, hml, findClass_of_methodNamed B.named, hts, hK, hA⟩ B.returns B.notSynchronized s.heap [] _ hP (hD0.self) va_S.rf hl
theorem mt_ofV {y : MethodName} {wy wy' : List Cond} {rm : Room} {av : List Value} {w0 w1 : va_W} {maxL : Nat} {ret : Option FieldType} (hy : plainName y.cls = true) (hw : wy = Cond.code y cc maxL ret :: wy') (hlen : (lg_sl av).length ≤ maxL) (hlv : lv_args 0 av = lv)
    (body : ∀ (p : Program) (e : Env) (s : State) (m : MethodId) (args : Array Value) (below : List Frame) (meth : Method) (c : Code) (A : Nat → Prop), pt_C p s m args c cc maxL wy y.cls D tys A → meth.sig.returnType = ret → meth.locks = false → pt_P p l e rm s m args below meth c D A maxL (pt_QV below args s D tys A w1) 0 0 0 w0 lv []) : mt_V l y wy rm D tys av w0 w1 := by
  intro sz
  refine Met.ofW (cc := cc) (maxL := maxL) (ret := ret) hy hw ?_
  intro p e s m args below meth c s₁ B hml hv
  obtain ⟨rfl, hsz, hP, hK, hD0⟩ := hv
  have hts := atoms_spec (ws := wy) B.pre
  subst hsz
  have hA : ∀ q : Nat, s.heap.size ≤ q → va_A w0 s.heap.size q := fun q h => Or.inr h
  have hl := lv_entry av (n := maxL) hlen
  rw [lg_entry_eq]
  rw [hlv] at hl
  exact body p e s m _ below meth c _ ⟨B.exec, B.bytes, hml, findClass_of_methodNamed B.named, hts, hK, hA⟩ B.returns B.notSynchronized s.heap [] _ hP (hD0.self) va_S.rf hl
theorem mt_ofVF {y : MethodName} {wy wy' : List Cond} {rm : Room} {av : List Value} {w0 w1 : va_W} {maxL : Nat} {ret : Option FieldType} (hy : plainFor y = true) (hw : wy = Cond.code y cc maxL ret :: wy') (hlen : (lg_sl av).length ≤ maxL) (hlv : lv_args 0 av = lv)
    (body : ∀ (p : Program) (e : Env) (s : State) (m : MethodId) (args : Array Value) (below : List Frame) (meth : Method) (c : Code) (A : Nat → Prop), pt_C p s m args c cc maxL wy y.cls D tys A → meth.sig.returnType = ret → meth.locks = false → pt_P p l e rm s m args below meth c D A maxL (pt_QV below args s D tys A w1) 0 0 0 w0 lv []) : mt_V l y wy rm D tys av w0 w1 := by
  intro sz
  refine va_MetF (cc := cc) (maxL := maxL) (ret := ret) hy hw ?_
  intro p e s m args below meth c s₁ B hml hv
  obtain ⟨rfl, hsz, hP, hK, hD0⟩ := hv
  have hts := atoms_spec (ws := wy) B.pre
  subst hsz
  have hA : ∀ q : Nat, s.heap.size ≤ q → va_A w0 s.heap.size q := fun q h => Or.inr h
  have hl := lv_entry av (n := maxL) hlen
  rw [lg_entry_eq]
  rw [hlv] at hl
  exact body p e s m _ below meth c _ ⟨B.exec, B.bytes, hml, findClass_of_methodNamed B.named, hts, hK, hA⟩ B.returns B.notSynchronized s.heap [] _ hP (hD0.self) va_S.rf hl
theorem pt_iret {v r : Int32} {w1 : va_W} {ty : FieldType} (C : pt_C p s m args c cc nL Ts own D tys A) (hr : meth.sig.returnType = some ty) (hlocks : meth.locks = false) (hd : decode cc pc = .ok (.ireturn, 1)) (hn : narrow ty (.int v) = .int v) (hv : v = r) (hw : ws = w1) : pt_P p l e R s m args below meth c D A nL (pt_QI below args s D tys A r w1) 0 0 pc ws lv [.int v] := by
  subst hw
  exact fun H locs ls hP hD hS h => W.zret C.1 C.2.1 hr hn (fun t ht hW => ⟨⟨v, (), rfl, hv, by rw [ht]; exact hP, va_K.moved hW.alike C.2.2.2.2.2.1, hD⟩, hS.F ht⟩) hS.2.2 hd hlocks
theorem pt_vret {w1 : va_W} (C : pt_C p s m args c cc nL Ts own D tys A) (hr : meth.sig.returnType = none) (hlocks : meth.locks = false) (hd : decode cc pc = .ok (.return_, 1)) (hw : ws = w1) : pt_P p l e R s m args below meth c D A nL (pt_QV below args s D tys A w1) 0 0 pc ws lv [] := by
  subst hw
  exact fun H locs ls hP hD hS h => W.vret C.1 C.2.1 hr (fun t ht hW => ⟨⟨(), rfl, trivial, by rw [ht]; exact hP, va_K.moved hW.alike C.2.2.2.2.2.1, hD⟩, hS.F ht⟩) hS.2.2 hd hlocks
/-! contracts that leave some cells open -/
def mt_IE {S : Type} (l : Launch) (y : MethodName) (wy : List Cond) (rm : Room) (D : va_G) (tys : List (ClassId × FieldType)) (av : List Value) (w0 : va_W) (r : Int32) (w1 : S → va_W) : Prop :=
  ∀ sz : Nat, Met l y wy rm (va_Pc av (mt_Pc D tys sz w0)) (va_Qi (fun r' (_ : S) => r' = r) (fun u t => mt_B D tys (va_A w0 sz) (w1 u) t) (va_A w0 sz)) 0 0 (va_A w0 sz)
def pt_QIE {S : Type} (below : List Frame) (args : Array Value) (s : State) (D : va_G) (tys : List (ClassId × FieldType)) (A : Nat → Prop) (r : Int32) (w1 : S → va_W) : State → Prop := MQ below (va_Qi (fun r' (_ : S) => r' = r) (fun u t => mt_B D tys A (w1 u) t) A) args s 0 0 A
theorem mt_ofIE {S : Type} {y : MethodName} {wy wy' : List Cond} {rm : Room} {av : List Value} {w0 : va_W} {w1 : S → va_W} {r : Int32} {maxL : Nat} {ret : Option FieldType} (hy : plainName y.cls = true) (hw : wy = Cond.code y cc maxL ret :: wy') (hlen : (lg_sl av).length ≤ maxL) (hlv : lv_args 0 av = lv)
    (body : ∀ (p : Program) (e : Env) (s : State) (m : MethodId) (args : Array Value) (below : List Frame) (meth : Method) (c : Code) (A : Nat → Prop), pt_C p s m args c cc maxL wy y.cls D tys A → meth.sig.returnType = ret → meth.locks = false → pt_P p l e rm s m args below meth c D A maxL (pt_QIE below args s D tys A r w1) 0 0 0 w0 lv []) : mt_IE l y wy rm D tys av w0 r w1 := by
  intro sz
  refine Met.ofW (cc := cc) (maxL := maxL) (ret := ret) hy hw ?_
  intro p e s m args below meth c s₁ B hml hv
  obtain ⟨rfl, hsz, hP, hK, hD0⟩ := hv
  have hts := atoms_spec (ws := wy) B.pre
  subst hsz
  have hA : ∀ q : Nat, s.heap.size ≤ q → va_A w0 s.heap.size q := fun q h => Or.inr h
  have hl := lv_entry av (n := maxL) hlen
  rw [lg_entry_eq]
  rw [hlv] at hl
  exact body p e s m _ below meth c _ ⟨B.exec, B.bytes, hml, findClass_of_methodNamed B.named, hts, hK, hA⟩ B.returns B.notSynchronized s.heap [] _ hP (hD0.self) va_S.rf hl
theorem pt_iretE {S : Type} {v r : Int32} {w1 : S → va_W} {ty : FieldType} (C : pt_C p s m args c cc nL Ts own D tys A) (hr : meth.sig.returnType = some ty) (hlocks : meth.locks = false) (hd : decode cc pc = .ok (.ireturn, 1)) (hn : narrow ty (.int v) = .int v) (hv : v = r) (u : S) (hw : ws = w1 u) : pt_P p l e R s m args below meth c D A nL (pt_QIE below args s D tys A r w1) 0 0 pc ws lv [.int v] := by
  subst hw
  exact fun H locs ls hP hD hS h => W.zret C.1 C.2.1 hr hn (fun t ht hW => ⟨⟨v, u, rfl, hv, by rw [ht]; exact hP, va_K.moved hW.alike C.2.2.2.2.2.1, hD⟩, hS.F ht⟩) hS.2.2 hd hlocks
/-! calls -/
theorem pt_fm {isC : List Nat} {w0 : va_W} (h : isC.map (fun i => ws[i]?) = w0.map some) : isC.filterMap (fun i => ws[i]?) = w0 := by
  have h1 : isC.filterMap (fun i => ws[i]?) = (isC.map (fun i => ws[i]?)).filterMap id := by rw [List.filterMap_map]; rfl
  rw [h1, h, List.filterMap_map]
  show List.filterMap (fun x => some x) w0 = w0
  exact List.filterMap_some
theorem pt_after {H H1 : Heap} {locs : List Loc} {w0 w1 wr : va_W} (hP : va_P D vwCl ws H) (hD : va_D A ws) (hS : va_S A s.heap H locs) (hA : ∀ q : Nat, s.heap.size ≤ q → A q) (isC isR isF : List Nat) (hC : isC.map (fun i => ws[i]?) = w0.map some) (hR : isR.map (fun i => ws[i]?) = wr.map some) (hn : va_nd isR = true) (hdis : ∀ i ∈ isR, i ∉ isC)
    (hF : isF.map (fun i => (wr ++ w1)[i]?) = ws'.map some) (hnF : va_nd isF = true) (hk : ∀ q : Nat, q < H.size → ¬ va_A w0 H.size q → H1[q]? = H[q]?) (hP1 : va_P D vwCl w1 H1) (hD1 : va_D (va_A w0 H.size) w1) : va_P D vwCl ws' H1 ∧ va_D A ws' := by
  have j := va_join hP hD isC isR hC hR hn hdis hk (va_free hD hS hA isC hC) hP1 hD1
  exact ⟨j.1.sub isF (pt_fm hF), j.2.sub isF hnF hF⟩
theorem pt_free0 {H : Heap} {locs : List Loc} (hD : va_D A ws) (hS : va_S A s.heap H locs) (hA : ∀ q : Nat, s.heap.size ≤ q → A q) : ∀ q, va_A ws H.size q → A q := by
  intro q h
  rcases h with ⟨k, e, h⟩ | h
  · exact hD.2 k (q, e) h
  · exact hA q (Nat.le_trans hS.1 h)
section CALLS
variable {y : MethodName} {wy : List Cond} {rm : Room} {b : Nat} {As : List Value} {r : Int32} {w0 w1 wr : va_W} {Cn : String} {index maxL n ci : Nat} {bytes : ByteArray} {ret : Option FieldType} {fs : List Value} {qc : vw_C}
theorem pt_cvI (C : pt_C p s m args c cc nL Ts own D tys A) (hM : mt_I l y wy rm D tys (.ref b :: As) w0 r w1) (cw : CallW R s args own Cn index y bytes maxL ret wy rm 0 0 n) (hd : decode cc pc = .ok (.invokevirtual index, 3)) (hpc : pc + 3 = pc') (qb : Nat) (he : ws[qb]? = some (b, .inr (ci, fs))) (hc : vwCl[ci]? = some qc) (hq : qc.1 = Cn) (hn : As.length = n) (hst : st = As.reverse ++ .ref b :: rest) (hW : (rest.map fun v => v.category).sum ≤ 8) (hcs : cells ≤ R.cells ∧ slots ≤ R.slots)
    (isC isR isF : List Nat) (hC : isC.map (fun i => ws[i]?) = w0.map some) (hnC : va_nd isC = true) (hR : isR.map (fun i => ws[i]?) = wr.map some) (hnR : va_nd isR = true) (hdis : ∀ i ∈ isR, i ∉ isC) (hF : isF.map (fun i => (wr ++ w1)[i]?) = ws'.map some) (hnF : va_nd isF = true)
    (K : pt_P p l e R s m args below meth c D A nL Q cells slots pc' ws' lv (.int r :: rest)) : pt_P p l e R s m args below meth c D A nL Q cells slots pc ws lv st := by
  subst hpc; subst hst; subst hq
  intro H locs ls hP hD hS h
  have hP0 := hP.sub isC (pt_fm hC)
  have hD0 := hD.sub isC hnC hC
  have hfr := va_free hD hS C.2.2.2.2.2.2 isC hC
  refine va_calli (va_runV (As := As) (rest := rest) (b := b) ⟨C.1, C.2.1, C.2.2.1, C.2.2.2.1, C.hts⟩ (hM H.size) cw ⟨mt_blind, va_recv C.2.2.2.2.2.1 hP hc he, mt_pre C.2.2.2.2.2.1 hP0 hD0⟩ rfl hn h.1 rfl (lv_room hW) hd hcs) hS (fun q _ hq => hfr q hq) hfr (fun r' u t H1 locs1 ht hvm hr hB hz hk hS1 => ?_)
  obtain ⟨hP1, -, hD1⟩ := hB
  rw [ht] at hP1
  obtain ⟨hP2, hD2⟩ := pt_after hP hD hS C.2.2.2.2.2.2 isC isR isF hC hR hnR hdis hF hnF hk hP1 hD1
  rw [hr]
  exact K H1 locs1 ls hP2 hD2 hS1 h
theorem pt_cvIE (C : pt_C p s m args c cc nL Ts own D tys A) {S : Type} {w1 wf : S → va_W} (hM : mt_IE l y wy rm D tys (.ref b :: As) w0 r w1) (cw : CallW R s args own Cn index y bytes maxL ret wy rm 0 0 n) (hd : decode cc pc = .ok (.invokevirtual index, 3)) (hpc : pc + 3 = pc') (qb : Nat) (he : ws[qb]? = some (b, .inr (ci, fs))) (hc : vwCl[ci]? = some qc) (hq : qc.1 = Cn) (hn : As.length = n) (hst : st = As.reverse ++ .ref b :: rest) (hW : (rest.map fun v => v.category).sum ≤ 8) (hcs : cells ≤ R.cells ∧ slots ≤ R.slots)
    (isC isR isF : List Nat) (hC : isC.map (fun i => ws[i]?) = w0.map some) (hnC : va_nd isC = true) (hR : isR.map (fun i => ws[i]?) = wr.map some) (hnR : va_nd isR = true) (hdis : ∀ i ∈ isR, i ∉ isC) (hF : ∀ u, isF.map (fun i => (wr ++ w1 u)[i]?) = (wf u).map some) (hnF : va_nd isF = true)
    (K : ∀ u : S, pt_P p l e R s m args below meth c D A nL Q cells slots pc' (wf u) lv (.int r :: rest)) : pt_P p l e R s m args below meth c D A nL Q cells slots pc ws lv st := by
  subst hpc; subst hst; subst hq
  intro H locs ls hP hD hS h
  have hP0 := hP.sub isC (pt_fm hC)
  have hD0 := hD.sub isC hnC hC
  have hfr := va_free hD hS C.2.2.2.2.2.2 isC hC
  refine va_calli (va_runV (As := As) (rest := rest) (b := b) ⟨C.1, C.2.1, C.2.2.1, C.2.2.2.1, C.hts⟩ (hM H.size) cw ⟨mt_blind, va_recv C.2.2.2.2.2.1 hP hc he, mt_pre C.2.2.2.2.2.1 hP0 hD0⟩ rfl hn h.1 rfl (lv_room hW) hd hcs) hS (fun q _ hq => hfr q hq) hfr (fun r' u t H1 locs1 ht hvm hr hB hz hk hS1 => ?_)
  obtain ⟨hP1, -, hD1⟩ := hB
  rw [ht] at hP1
  obtain ⟨hP2, hD2⟩ := pt_after hP hD hS C.2.2.2.2.2.2 isC isR isF hC hR hnR hdis (hF u) hnF hk hP1 hD1
  rw [hr]
  exact K u H1 locs1 ls hP2 hD2 hS1 h
theorem pt_cvV (C : pt_C p s m args c cc nL Ts own D tys A) (hM : mt_V l y wy rm D tys (.ref b :: As) w0 w1) (cw : CallW R s args own Cn index y bytes maxL ret wy rm 0 0 n) (hd : decode cc pc = .ok (.invokevirtual index, 3)) (hpc : pc + 3 = pc') (qb : Nat) (he : ws[qb]? = some (b, .inr (ci, fs))) (hc : vwCl[ci]? = some qc) (hq : qc.1 = Cn) (hn : As.length = n) (hst : st = As.reverse ++ .ref b :: rest) (hW : (rest.map fun v => v.category).sum ≤ 8) (hcs : cells ≤ R.cells ∧ slots ≤ R.slots)
    (isC isR isF : List Nat) (hC : isC.map (fun i => ws[i]?) = w0.map some) (hnC : va_nd isC = true) (hR : isR.map (fun i => ws[i]?) = wr.map some) (hnR : va_nd isR = true) (hdis : ∀ i ∈ isR, i ∉ isC) (hF : isF.map (fun i => (wr ++ w1)[i]?) = ws'.map some) (hnF : va_nd isF = true)
    (K : pt_P p l e R s m args below meth c D A nL Q cells slots pc' ws' lv rest) : pt_P p l e R s m args below meth c D A nL Q cells slots pc ws lv st := by
  subst hpc; subst hst; subst hq
  intro H locs ls hP hD hS h
  have hP0 := hP.sub isC (pt_fm hC)
  have hD0 := hD.sub isC hnC hC
  have hfr := va_free hD hS C.2.2.2.2.2.2 isC hC
  refine va_callv (va_runV (As := As) (rest := rest) (b := b) ⟨C.1, C.2.1, C.2.2.1, C.2.2.2.1, C.hts⟩ (hM H.size) cw ⟨mt_blind, va_recv C.2.2.2.2.2.1 hP hc he, mt_pre C.2.2.2.2.2.1 hP0 hD0⟩ rfl hn h.1 rfl (lv_room hW) hd hcs) hS (fun q _ hq => hfr q hq) hfr (fun u t H1 locs1 ht hvm hr hB hz hk hS1 => ?_)
  obtain ⟨hP1, -, hD1⟩ := hB
  rw [ht] at hP1
  obtain ⟨hP2, hD2⟩ := pt_after hP hD hS C.2.2.2.2.2.2 isC isR isF hC hR hnR hdis hF hnF hk hP1 hD1
  exact K H1 locs1 ls hP2 hD2 hS1 h
theorem pt_cvI0 (C : pt_C p s m args c cc nL Ts own D tys A) (hM : mt_I l y wy rm D tys (.ref b :: As) ws r w1) (cw : CallW R s args own Cn index y bytes maxL ret wy rm 0 0 n) (hd : decode cc pc = .ok (.invokevirtual index, 3)) (hpc : pc + 3 = pc') (qb : Nat) (he : ws[qb]? = some (b, .inr (ci, fs))) (hc : vwCl[ci]? = some qc) (hq : qc.1 = Cn) (hn : As.length = n) (hst : st = As.reverse ++ .ref b :: rest) (hW : (rest.map fun v => v.category).sum ≤ 8) (hcs : cells ≤ R.cells ∧ slots ≤ R.slots)
    (K : pt_P p l e R s m args below meth c D A nL Q cells slots pc' w1 lv (.int r :: rest)) : pt_P p l e R s m args below meth c D A nL Q cells slots pc ws lv st := by
  subst hpc; subst hst; subst hq
  intro H locs ls hP hD hS h
  have hfr := pt_free0 hD hS C.2.2.2.2.2.2
  refine va_calli (va_runV (As := As) (rest := rest) (b := b) ⟨C.1, C.2.1, C.2.2.1, C.2.2.2.1, C.hts⟩ (hM H.size) cw ⟨mt_blind, va_recv C.2.2.2.2.2.1 hP hc he, mt_pre C.2.2.2.2.2.1 hP hD⟩ rfl hn h.1 rfl (lv_room hW) hd hcs) hS (fun q _ hq => hfr q hq) hfr (fun r' u t H1 locs1 ht hvm hr hB hz hk hS1 => ?_)
  obtain ⟨hP1, -, hD1⟩ := hB
  rw [ht] at hP1
  rw [hr]
  exact K H1 locs1 ls hP1 (hD1.weaken (fun _ _ _ hz => hfr _ hz)) hS1 h
theorem pt_cvIE0 (C : pt_C p s m args c cc nL Ts own D tys A) {S : Type} {w1 : S → va_W} (hM : mt_IE l y wy rm D tys (.ref b :: As) ws r w1) (cw : CallW R s args own Cn index y bytes maxL ret wy rm 0 0 n) (hd : decode cc pc = .ok (.invokevirtual index, 3)) (hpc : pc + 3 = pc') (qb : Nat) (he : ws[qb]? = some (b, .inr (ci, fs))) (hc : vwCl[ci]? = some qc) (hq : qc.1 = Cn) (hn : As.length = n) (hst : st = As.reverse ++ .ref b :: rest) (hW : (rest.map fun v => v.category).sum ≤ 8) (hcs : cells ≤ R.cells ∧ slots ≤ R.slots)
    (K : ∀ u : S, pt_P p l e R s m args below meth c D A nL Q cells slots pc' (w1 u) lv (.int r :: rest)) : pt_P p l e R s m args below meth c D A nL Q cells slots pc ws lv st := by
  subst hpc; subst hst; subst hq
  intro H locs ls hP hD hS h
  have hfr := pt_free0 hD hS C.2.2.2.2.2.2
  refine va_calli (va_runV (As := As) (rest := rest) (b := b) ⟨C.1, C.2.1, C.2.2.1, C.2.2.2.1, C.hts⟩ (hM H.size) cw ⟨mt_blind, va_recv C.2.2.2.2.2.1 hP hc he, mt_pre C.2.2.2.2.2.1 hP hD⟩ rfl hn h.1 rfl (lv_room hW) hd hcs) hS (fun q _ hq => hfr q hq) hfr (fun r' u t H1 locs1 ht hvm hr hB hz hk hS1 => ?_)
  obtain ⟨hP1, -, hD1⟩ := hB
  rw [ht] at hP1
  rw [hr]
  exact K u H1 locs1 ls hP1 (hD1.weaken (fun _ _ _ hz => hfr _ hz)) hS1 h
theorem pt_cvV0 (C : pt_C p s m args c cc nL Ts own D tys A) (hM : mt_V l y wy rm D tys (.ref b :: As) ws w1) (cw : CallW R s args own Cn index y bytes maxL ret wy rm 0 0 n) (hd : decode cc pc = .ok (.invokevirtual index, 3)) (hpc : pc + 3 = pc') (qb : Nat) (he : ws[qb]? = some (b, .inr (ci, fs))) (hc : vwCl[ci]? = some qc) (hq : qc.1 = Cn) (hn : As.length = n) (hst : st = As.reverse ++ .ref b :: rest) (hW : (rest.map fun v => v.category).sum ≤ 8) (hcs : cells ≤ R.cells ∧ slots ≤ R.slots)
    (K : pt_P p l e R s m args below meth c D A nL Q cells slots pc' w1 lv rest) : pt_P p l e R s m args below meth c D A nL Q cells slots pc ws lv st := by
  subst hpc; subst hst; subst hq
  intro H locs ls hP hD hS h
  have hfr := pt_free0 hD hS C.2.2.2.2.2.2
  refine va_callv (va_runV (As := As) (rest := rest) (b := b) ⟨C.1, C.2.1, C.2.2.1, C.2.2.2.1, C.hts⟩ (hM H.size) cw ⟨mt_blind, va_recv C.2.2.2.2.2.1 hP hc he, mt_pre C.2.2.2.2.2.1 hP hD⟩ rfl hn h.1 rfl (lv_room hW) hd hcs) hS (fun q _ hq => hfr q hq) hfr (fun u t H1 locs1 ht hvm hr hB hz hk hS1 => ?_)
  obtain ⟨hP1, -, hD1⟩ := hB
  rw [ht] at hP1
  exact K H1 locs1 ls hP1 (hD1.weaken (fun _ _ _ hz => hfr _ hz)) hS1 h
theorem pt_csV (C : pt_C p s m args c cc nL Ts own D tys A) (hM : mt_V l y wy rm D tys As w0 w1) (cw : CallB R s args own index y bytes maxL ret wy rm 0 0 n ∧ (Cond.static y).before args s = true) (hd : decode cc pc = .ok (.invokestatic index, 3)) (hpc : pc + 3 = pc') (hn : As.length = n) (hst : st = As.reverse ++ rest) (hW : (rest.map fun v => v.category).sum ≤ 8) (hcs : cells ≤ R.cells ∧ slots ≤ R.slots)
    (isC isR isF : List Nat) (hC : isC.map (fun i => ws[i]?) = w0.map some) (hnC : va_nd isC = true) (hR : isR.map (fun i => ws[i]?) = wr.map some) (hnR : va_nd isR = true) (hdis : ∀ i ∈ isR, i ∉ isC) (hF : isF.map (fun i => (wr ++ w1)[i]?) = ws'.map some) (hnF : va_nd isF = true)
    (K : pt_P p l e R s m args below meth c D A nL Q cells slots pc' ws' lv rest) : pt_P p l e R s m args below meth c D A nL Q cells slots pc ws lv st := by
  subst hpc; subst hst
  intro H locs ls hP hD hS h
  have hP0 := hP.sub isC (pt_fm hC)
  have hD0 := hD.sub isC hnC hC
  have hfr := va_free hD hS C.2.2.2.2.2.2 isC hC
  refine va_callv (va_runS (As := As) (rest := rest) ⟨C.1, C.2.1, C.2.2.1, C.2.2.2.1, C.hts⟩ (hM H.size) cw ⟨mt_blind, mt_pre C.2.2.2.2.2.1 hP0 hD0⟩ rfl hn h.1 rfl (lv_room hW) hd hcs) hS (fun q _ hq => hfr q hq) hfr (fun u t H1 locs1 ht hvm hr hB hz hk hS1 => ?_)
  obtain ⟨hP1, -, hD1⟩ := hB
  rw [ht] at hP1
  obtain ⟨hP2, hD2⟩ := pt_after hP hD hS C.2.2.2.2.2.2 isC isR isF hC hR hnR hdis hF hnF hk hP1 hD1
  exact K H1 locs1 ls hP2 hD2 hS1 h
/-- a static method of numbers alone -/
theorem pt_csI0 (C : pt_C p s m args c cc nL Ts own D tys A) (hM : mt_I l y wy rm D tys As [] r []) (cw : CallB R s args own index y bytes maxL ret wy rm 0 0 n ∧ (Cond.static y).before args s = true) (hd : decode cc pc = .ok (.invokestatic index, 3)) (hpc : pc + 3 = pc') (hn : As.length = n) (hst : st = As.reverse ++ rest) (hW : (rest.map fun v => v.category).sum ≤ 8) (hcs : cells ≤ R.cells ∧ slots ≤ R.slots)
    (K : pt_P p l e R s m args below meth c D A nL Q cells slots pc' ws lv (.int r :: rest)) : pt_P p l e R s m args below meth c D A nL Q cells slots pc ws lv st := by
  subst hpc; subst hst
  intro H locs ls hP hD hS h
  have hfr : ∀ q, va_A [] H.size q → A q := by
    rintro q (⟨k, e, h9⟩ | h9)
    · simp at h9
    · exact C.2.2.2.2.2.2 q (Nat.le_trans hS.1 h9)
  refine va_calli (va_runS (As := As) (rest := rest) ⟨C.1, C.2.1, C.2.2.1, C.2.2.2.1, C.hts⟩ (hM H.size) cw ⟨mt_blind, mt_pre C.2.2.2.2.2.1 (fun k q h => by simp at h) (A0 := fun _ => True) ⟨fun i j p q h => by simp at h, fun k q h => by simp at h⟩⟩ rfl hn h.1 rfl (lv_room hW) hd hcs) hS (fun q _ hq => hfr q hq) hfr (fun r' u t H1 locs1 ht hvm hr hB hz hk hS1 => ?_)
  rw [hr]
  refine K H1 locs1 ls (hP.kept (fun k x hx => hk x.1 ((hP k x hx).lt) ?_)) hD hS1 h
  rintro (⟨k9, e9, h9⟩ | h9)
  · simp at h9
  · exact absurd ((hP k x hx).lt) (by omega)
end CALLS
end PT
