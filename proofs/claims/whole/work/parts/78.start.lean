section NL
variable {p : Program} {l : Launch} {e : Env} {R : Room} {s : State} {m : MethodId} {args : Array Value} {below : List Frame} {meth : Method} {c : Code} {Q : State → Prop}
variable {cc : ByteArray} {nL cells slots pc pc' : Nat} {Ts : List Cond} {own : String} {D : va_G} {cA cL : ClassId} {A : Nat → Prop} {ws : va_W} {lv : List (Nat × Value)} {rest : List Value}
theorem pt_newaL (C : pt_C p s m args c cc nL Ts own D [(cA, .int), (cL, .long)] A) {k9 n9 : Nat} {wf : Nat → va_W} (harr : (Cond.arrayClass .long).before args s = true) (hd : decode cc pc = .ok (.newarray .long, 2)) (hpc : pc + 2 = pc') (hcs : cells + 1 ≤ R.cells ∧ slots + 1 ≤ R.slots) (h9 : cells + 1 = k9 ∧ slots + 1 = n9) (hw : ∀ q : Nat, ws ++ [arL cL q (fun _ => 0)] = wf q)
    (K : ∀ q : Nat, pt_P p l e R s m args below meth c D A nL Q k9 n9 pc' (wf q) lv (.ref q :: rest)) : pt_P p l e R s m args below meth c D A nL Q cells slots pc ws lv (.int 1 :: rest) := by
  obtain ⟨rfl, rfl⟩ := h9
  subst hpc
  intro H locs ls hP hD hS h
  refine va_newa (atype := .long) (ty := .long) C.1 C.2.1 harr rfl C.2.2.2.2.2.1 hP hD hS C.2.2.2.2.2.2 (a0 := (1, .inr (.inl (fun _ => 0)))) (fun c9 => by rw [vp_cell_l]; rfl) (by decide) (N' := 1) (by decide) (by decide) hcs.1 hcs.2 hd ?_
  intro q c9 H1 hK1 hP1 hD1 hS1
  have e1 : c9 = cL := by
    have h1 := (hK1.2 2 (c9, .long) rfl).2
    have h2 := (C.2.2.2.2.2.1.2 1 (cL, .long) rfl).2
    exact Option.some.inj ((show s.vm.findClass _ = some c9 from h1).symm.trans (show s.vm.findClass _ = some cL from h2))
  subst e1
  have hk := K q
  rw [← hw q] at hk
  exact hk H1 locs ls hP1 hD1 hS1 h
end NL
theorem thB_in : ∀ w ∈ thL.filter (fun w => !goodWord w), w ∈ lw_tbl := by decide +kernel
theorem th_str {b : Nat} {s : State} (htb : ∀ w ∈ lw_tbl, w.before #[Value.ref b] s = true) {k : Nat} {tx : String} (h1 : Cond.stringRef RX6 k tx ∈ lw_tbl) (h2 : (Cond.exactly (.string RX6 k) "java/lang/String").before #[Value.ref b] s = true) : ∃ a, vk_R RX6 k tx a s := by
  obtain ⟨a, c, cA, kA, q1, -⟩ := Cond.exactly_spec h2
  exact ⟨a, vk_R.of (A := #[Value.ref b]) (htb _ h1) q1⟩
theorem th_start {b : Nat} {s : State} (htb : ∀ w ∈ lw_tbl, w.before #[Value.ref b] s = true) (hgv : (Jvm.Cond.and given_1 narrow_1).before #[Value.ref b] s = true) : thW s ∧ thS (fun q : Nat => s.heap.size ≤ q) s ∧ nxX s := by
  have hfl := flat_of_before _ hgv
  have hA0 : ∀ a : Nat, a < s.heap.size → ¬ (fun q : Nat => s.heap.size ≤ q) a := fun a h => Nat.not_le.mpr h
  refine ⟨⟨th_str htb (by decide +kernel) (hfl _ (by decide +kernel)), th_str htb (by decide +kernel) (hfl _ (by decide +kernel)), th_str htb (by decide +kernel) (hfl _ (by decide +kernel)), fun w hw => va_Nw.of (thL_f w hw).1 (htb w (thB_in w hw))⟩, ⟨?_, ?_⟩, ?_⟩
  · exact vx_Zqof (args := #[Value.ref b]) (htb _ (by decide +kernel)) (htb _ (by decide +kernel)) (hfl _ (by decide +kernel)) hA0
  · exact vx_Zqof (args := #[Value.ref b]) (htb _ (by decide +kernel)) (htb _ (by decide +kernel)) (hfl _ (by decide +kernel)) hA0
  · exact ⟨va_Nw.of rfl (htb _ (by decide +kernel)), va_Nw.of rfl (htb _ (by decide +kernel)), va_Nw.of rfl (htb _ (by decide +kernel)), va_Nw.of rfl (htb _ (by decide +kernel)), va_Nw.of rfl (htb _ (by decide +kernel))⟩
set_option maxHeartbeats 4000000 in
set_option maxRecDepth 100000 in
/-- from the entry, for every script of at most 2560 ints, the law comes to its end with true -/
theorem whole_start {p : Program} {e : Env} {s : State} {m : MethodId} {below : List Frame} {meth : Method} {c : Code} (hCR : CatchRow) (l : Launch) (hl : l.stackTraces = false) {b L : Nat} {xs : Nat → Int32} (hL : L ≤ 2560) (C0 : lw_At p s m meth c b L xs) : W p l e room_1 s m #[Value.ref b] below meth c s.heap [] 0 0 (lw_Z below #[Value.ref b] s) (entryFrame m ([Value.ref b] : List Value).toArray 7) := by
  obtain ⟨hx, hb, hr, hml, hown, htb, hX, hbl, hlocks, hgv⟩ := id C0
  obtain ⟨hT, hZ, hnx⟩ := th_start htb hgv
  have hts : ∀ w ∈ wsL_law, w.before #[Value.ref b] s = true := fun w h => htb w (wsL_law_in w h)
  obtain ⟨c0, i0, hK0⟩ := u_known (C := RX0) (T := TX0) (N := 8) (n := 8) hts inlX0 (hts (.instantiable RX0 8) (List.mem_of_getElem? (i := 14) (by decide +kernel)))
  obtain ⟨c1, i1, hK1⟩ := u_known (C := RX1) (T := TX1) (N := 5) (n := 5) hts inlX1 (hts (.instantiable RX1 5) (List.mem_of_getElem? (i := 28) (by decide +kernel)))
  obtain ⟨c2, i2, hK2⟩ := u_known (C := RX2) (T := TX2) (N := 6) (n := 6) hts inlX2 (hts (.instantiable RX2 6) (List.mem_of_getElem? (i := 19) (by decide +kernel)))
  obtain ⟨c3, i3, hK3⟩ := u_known (C := RX3) (T := TX3) (N := 5) (n := 5) hts inlX3 (hts (.instantiable RX3 5) (List.mem_of_getElem? (i := 36) (by decide +kernel)))
  obtain ⟨c4, i4, hK4⟩ := u_known (C := RX4) (T := TX4) (N := 3) (n := 3) hts inlX4 (hts (.instantiable RX4 3) (List.mem_of_getElem? (i := 24) (by decide +kernel)))
  obtain ⟨c5, i5, hK5⟩ := u_known (C := RX5) (T := TX5) (N := 5) (n := 5) hts inlX5 (hts (.instantiable RX5 5) (List.mem_of_getElem? (i := 32) (by decide +kernel)))
  obtain ⟨c6, i6, hK6⟩ := u_known (C := RX6) (T := TX6) (N := 11) (n := 11) hts inlX6 (hts (.instantiable RX6 11) (List.mem_of_getElem? (i := 1) (by decide +kernel)))
  obtain ⟨c7, i7, hK7⟩ := u_known (C := RX7) (T := TX7) (N := 37) (n := 37) hts inlX7 (hts (.instantiable RX7 37) (List.mem_of_getElem? (i := 4) (by decide +kernel)))
  obtain ⟨cA, kA, pA, fA1, fA2, fA3⟩ := Cond.arrayClass_spec (hts (.arrayClass .int) (List.mem_of_getElem? (i := 39) (by decide +kernel)))
  obtain ⟨cL, kL, pL, fL1, fL2, fL3⟩ := Cond.arrayClass_spec (hts (.arrayClass .long) (List.mem_of_getElem? (i := 6) (by decide +kernel)))
  obtain ⟨D, hKc⟩ : ∃ D : va_G, ∀ (k : Nat) (q : vw_C), vwCl[k]? = some q → u_Kn s q.1 q.2.1 q.2.2 (D.1 k) (D.2 k) := by
    refine ⟨(fun k => match k with | 0 => c0 | 1 => c1 | 2 => c2 | 3 => c3 | 4 => c4 | 5 => c5 | 6 => c6 | _ => c7, fun k => match k with | 0 => i0 | 1 => i1 | 2 => i2 | 3 => i3 | 4 => i4 | 5 => i5 | 6 => i6 | _ => i7), ?_⟩
    intro k q hq
    match k, hq with
    | 0, hq => cases hq; exact hK0
    | 1, hq => cases hq; exact hK1
    | 2, hq => cases hq; exact hK2
    | 3, hq => cases hq; exact hK3
    | 4, hq => cases hq; exact hK4
    | 5, hq => cases hq; exact hK5
    | 6, hq => cases hq; exact hK6
    | 7, hq => cases hq; exact hK7
    | k + 8, hq => simp [vwCl] at hq
  have hK : va_K D vwCl [(cA, .int), (cL, .long)] s := by
    refine ⟨hKc, fun k q hq => ?_⟩
    match k, hq with
    | 0, hq => cases hq; exact ⟨fun n z => ⟨fun k h => (by cases h), kA, fA2, pA, fA3⟩, fA1⟩
    | 1, hq => cases hq; exact ⟨fun n z => ⟨fun k h => (by cases h), kL, fL2, pL, fL3⟩, fL1⟩
    | k + 2, hq => simp at hq
  have C : pt_C p s m #[Value.ref b] c cL_law 7 wsL_law RL D [(cA, .int), (cL, .long)] (fun q : Nat => s.heap.size ≤ q) := ⟨hx, hb, hml, hown, hts, hK, fun _ h => h⟩
  have key : pt_P p l e room_1 s m #[Value.ref b] below meth c D (fun q : Nat => s.heap.size ≤ q) 7 (lw_Z below #[Value.ref b] s) 0 0 0 [] [(0, .ref b)] [] := by
    refine pt_new (pc' := 3) (k9 := 1) (n9 := 11) (fs := [.null, .null, .null, .null, .null, .null, .null, .null, .null, .int 0, .int 0]) (wf := fun q1 => [(q1, .inr (6, [.null, .null, .null, .null, .null, .null, .null, .null, .null, .int 0, .int 0]))]) C inlX6 tyX6 tyX6_ok (hts (.classLink RL 8 RX6) (List.mem_of_getElem? (i := 0) (by decide +kernel))) (hts (.instantiable RX6 11) (List.mem_of_getElem? (i := 1) (by decide +kernel))) (hts (.initialized RX6) (List.mem_of_getElem? (i := 2) (by decide +kernel))) rfl (by decide +kernel) dL_law_0 rfl ⟨Nat.le_of_ble_eq_true rfl, Nat.le_of_ble_eq_true rfl⟩ ⟨rfl, rfl⟩ (fun _ => rfl) (fun q1 => ?_)
    refine pt_dup (pc' := 4) C dL_law_3 rfl rfl ?_
    refine pt_ci (pc' := 7) (k9 := 48) (n9 := 771) (wr := []) (wf := fun (u : AX) => w0X cA (adA q1 [u.1]) u.2.1 u.2.2.1 u.2.2.2.1 u.2.2.2.2.1 u.2.2.2.2.2.1 u.2.2.2.2.2.2.1 u.2.2.2.2.2.2.2.1 u.2.2.2.2.2.2.2.2) (rest := [.ref q1]) C.sub0 nxX_ok hnx (mX6_init l D cA q1) (cwI 0 C.hts gL_law_X6_init rfl rfl rfl (hts (.initialized RX6) (List.mem_of_getElem? (i := 2) (by decide +kernel))) (hts (.methodLink RL 19 yX6_init) (List.mem_of_getElem? (i := 7) (by decide +kernel))) (hts (.instanceMethod yX6_init) (List.mem_of_getElem? (i := 8) (by decide +kernel))) rfl (by decide +kernel) ⟨Nat.le_of_ble_eq_true rfl, Nat.le_of_ble_eq_true rfl⟩) dL_law_4 rfl rfl (Nat.le_of_ble_eq_true rfl) ⟨Nat.le_of_ble_eq_true rfl, Nat.le_of_ble_eq_true rfl⟩ ⟨rfl, rfl⟩ [0] [] [0, 1, 2, 3, 4, 5, 6, 7, 8, 9, 10, 11, 12, 13, 14, 15, 16, 17, 18, 19, 20, 21, 22, 23, 24, 25, 26, 27, 28, 29, 30, 31, 32, 33, 34, 35, 36, 37, 38, 39, 40, 41, 42, 43, 44, 45, 46, 47] rfl (by decide) rfl (by decide) (by decide) (fun _ => rfl) (by decide) (fun u => ?_)
    refine pt_astore_n (pc' := 8) (lv' := [(1, .ref q1), (0, .ref b)]) C dL_law_7 rfl rfl (by decide) rfl ?_
    refine pt_new (pc' := 11) (k9 := 49) (n9 := 808) (fs := [.int 0, .int 0, .int 0, .null, .null, .null, .null, .null, .null, .int 0, .int 0, .null, .null, .int 0, .int 0, .null, .null, .null, .null, .null, .null, .null, .null, .null, .null, .null, .int 0, .null, .null, .null, .null, .null, .int 0, .null, .null, .null, .null]) (wf := fun q2 => w0X cA (adA q1 [u.1]) u.2.1 u.2.2.1 u.2.2.2.1 u.2.2.2.2.1 u.2.2.2.2.2.1 u.2.2.2.2.2.2.1 u.2.2.2.2.2.2.2.1 u.2.2.2.2.2.2.2.2 ++ [(q2, .inr (7, [.int 0, .int 0, .int 0, .null, .null, .null, .null, .null, .null, .int 0, .int 0, .null, .null, .int 0, .int 0, .null, .null, .null, .null, .null, .null, .null, .null, .null, .null, .null, .int 0, .null, .null, .null, .null, .null, .int 0, .null, .null, .null, .null]))]) C inlX7 tyX7 tyX7_ok (hts (.classLink RL 20 RX7) (List.mem_of_getElem? (i := 3) (by decide +kernel))) (hts (.instantiable RX7 37) (List.mem_of_getElem? (i := 4) (by decide +kernel))) (hts (.initialized RX7) (List.mem_of_getElem? (i := 5) (by decide +kernel))) rfl (by decide +kernel) dL_law_8 rfl ⟨Nat.le_of_ble_eq_true rfl, Nat.le_of_ble_eq_true rfl⟩ ⟨rfl, rfl⟩ (fun _ => rfl) (fun q2 => ?_)
    refine pt_dup (pc' := 12) C dL_law_11 rfl rfl ?_
    refine pt_ci (pc' := 15) (k9 := 77) (n9 := 1396) (wr := w0X cA (adA q1 [u.1]) u.2.1 u.2.2.1 u.2.2.2.1 u.2.2.2.2.1 u.2.2.2.2.2.1 u.2.2.2.2.2.2.1 u.2.2.2.2.2.2.2.1 u.2.2.2.2.2.2.2.2) (wf := fun (um : Nat → Nat) => w0X cA (adA q1 [u.1]) u.2.1 u.2.2.1 u.2.2.2.1 u.2.2.2.2.1 u.2.2.2.2.2.1 u.2.2.2.2.2.2.1 u.2.2.2.2.2.2.2.1 u.2.2.2.2.2.2.2.2 ++ wM cA (ad q2 um) 0 6 0 4 0 0 0 0 0 P0 (fun _ => 0) (fun _ => 0) (fun _ => 0) (fun _ => 0) (fun _ => 0) (fun _ => 0) (fun _ => 0)) (rest := [.ref q2]) C.sub0 nx_T trivial (mX7_init l D cA q2) (cwI 0 C.hts gL_law_X7_init rfl rfl rfl (hts (.initialized RX7) (List.mem_of_getElem? (i := 5) (by decide +kernel))) (hts (.methodLink RL 22 yX7_init) (List.mem_of_getElem? (i := 108) (by decide +kernel))) (hts (.instanceMethod yX7_init) (List.mem_of_getElem? (i := 109) (by decide +kernel))) rfl (by decide +kernel) ⟨Nat.le_of_ble_eq_true rfl, Nat.le_of_ble_eq_true rfl⟩) dL_law_12 rfl rfl (Nat.le_of_ble_eq_true rfl) ⟨Nat.le_of_ble_eq_true rfl, Nat.le_of_ble_eq_true rfl⟩ ⟨rfl, rfl⟩ [48] [0, 1, 2, 3, 4, 5, 6, 7, 8, 9, 10, 11, 12, 13, 14, 15, 16, 17, 18, 19, 20, 21, 22, 23, 24, 25, 26, 27, 28, 29, 30, 31, 32, 33, 34, 35, 36, 37, 38, 39, 40, 41, 42, 43, 44, 45, 46, 47] [0, 1, 2, 3, 4, 5, 6, 7, 8, 9, 10, 11, 12, 13, 14, 15, 16, 17, 18, 19, 20, 21, 22, 23, 24, 25, 26, 27, 28, 29, 30, 31, 32, 33, 34, 35, 36, 37, 38, 39, 40, 41, 42, 43, 44, 45, 46, 47, 48, 49, 50, 51, 52, 53, 54, 55, 56, 57, 58, 59, 60, 61, 62, 63, 64, 65, 66, 67, 68, 69, 70, 71, 72, 73, 74, 75, 76] rfl (by decide) rfl (by decide) (by decide) (fun _ => rfl) (by decide) (fun um => ?_)
    refine pt_astore_n (pc' := 16) (lv' := [(2, .ref q2), (1, .ref q1), (0, .ref b)]) C dL_law_15 rfl rfl (by decide) rfl ?_
    refine pt_iconst (pc' := 17) C dL_law_16 rfl (v := 1) (by decide) ?_
    refine pt_newaL (pc' := 19) (k9 := 78) (n9 := 1397) (wf := fun q3 => w0X cA (adA q1 [u.1]) u.2.1 u.2.2.1 u.2.2.2.1 u.2.2.2.2.1 u.2.2.2.2.2.1 u.2.2.2.2.2.2.1 u.2.2.2.2.2.2.2.1 u.2.2.2.2.2.2.2.2 ++ wM cA (ad q2 um) 0 6 0 4 0 0 0 0 0 P0 (fun _ => 0) (fun _ => 0) (fun _ => 0) (fun _ => 0) (fun _ => 0) (fun _ => 0) (fun _ => 0) ++ [arL cL q3 (fun _ => 0)]) C (hts (.arrayClass .long) (List.mem_of_getElem? (i := 6) (by decide +kernel))) dL_law_17 rfl ⟨Nat.le_of_ble_eq_true rfl, Nat.le_of_ble_eq_true rfl⟩ ⟨rfl, rfl⟩ (fun _ => rfl) (fun q3 => ?_)
    refine pt_astore_n (pc' := 20) (lv' := [(3, .ref q3), (2, .ref q2), (1, .ref q1), (0, .ref b)]) C dL_law_19 rfl rfl (by decide) rfl ?_
    refine pt_iconst (pc' := 21) C dL_law_20 rfl (v := nI (5 * 0)) (by decide) ?_
    refine pt_istore (pc' := 23) (lv' := [(4, .int (nI (5 * 0))), (3, .ref q3), (2, .ref q2), (1, .ref q1), (0, .ref b)]) C dL_law_21 rfl (by decide) rfl ?_
    exact lw_loop (aX := adA q1 [u.1]) (aB := u.2.1) (aT := u.2.2.1) (aN := u.2.2.2.1) (aG := u.2.2.2.2.1) (aW := u.2.2.2.2.2.1) (aD := u.2.2.2.2.2.2.1) (aO := u.2.2.2.2.2.2.2.1) (aV := u.2.2.2.2.2.2.2.2) (aM := ad q2 um) (ou := q3) C hx hr hlocks hX hbl hL hCR hl hT hZ L 0 (Nat.zero_le L) (by omega) 6 4 0 0 0 0 0 0 P0 (fun _ => 0) (fun _ => 0) (fun _ => 1000) (fun _ => 0) (fun _ => 0) (fun _ => 0) (fun _ => 0) (fun _ => 0) (6, 4, (fun _ => 1000), (fun _ => 0), (fun _ => 100), (fun _ => 0), (fun _ => 0), (fun _ => 0), ((fun _ => 0), (fun _ => 0), (fun _ => 0), (fun _ => 0), (fun _ => 0), (fun _ => 0))) 0 ((fun _ => 0), (fun _ => 0), (fun _ => 0), (fun _ => 0), (fun _ => 0), (fun _ => 0), (fun _ => 0)) (fun _ => 0) li_new
  rw [lg_entry_eq]
  exact key s.heap [] _ (fun k q h => by simp at h) ⟨fun i j p q h => by simp at h, fun k q h => by simp at h⟩ va_S.rf (lv_entry ([.ref b]) (n := 7) (Nat.le_of_ble_eq_true rfl))
