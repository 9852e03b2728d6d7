set_option maxRecDepth 100000 in
theorem bt_c0 : chkB (fun j => decide (itz (btS (nI j)) 13 0 = nI (pcN j))) 0 2048 = true := by decide +kernel
set_option maxRecDepth 100000 in
theorem bt_c1 : chkB (fun j => decide (itz (btS (nI j)) 13 0 = nI (pcN j))) 2048 2048 = true := by decide +kernel
set_option maxRecDepth 100000 in
theorem bt_c2 : chkB (fun j => decide (itz (btS (nI j)) 13 0 = nI (pcN j))) 4096 2048 = true := by decide +kernel
set_option maxRecDepth 100000 in
theorem bt_c3 : chkB (fun j => decide (itz (btS (nI j)) 13 0 = nI (pcN j))) 6144 2048 = true := by decide +kernel
theorem bt_pc {j : Nat} (h : j < 8192) : itz (btS (nI j)) 13 0 = nI (pcN j) := by
  by_cases q : j < 2048
  · exact of_decide_eq_true (chkB_sp bt_c0 j (Nat.zero_le _) (by omega))
  · by_cases q2 : j < 4096
    · exact of_decide_eq_true (chkB_sp bt_c1 j (by omega) (by omega))
    · by_cases q3 : j < 6144
      · exact of_decide_eq_true (chkB_sp bt_c2 j (by omega) (by omega))
      · exact of_decide_eq_true (chkB_sp bt_c3 j (by omega) (by omega))
def smS (LI : Int32 → Int32) (q b j : Nat) (a : Int32) : Int32 :=
  if nI j &&& (nI q ^^^ (-1)) = 0 then (if (nI j >>> (nI b &&& 31)) &&& 1 = 0 then a + fac (pcN j) * fac (pcN q - 1 - pcN j) * (LI (nI j ||| (1 <<< (nI b &&& 31))) - LI (nI j)) else a) else a
def okShM (n : Nat) (kd : Nat → Int32) (x b y : Int32) : Bool := inF n y && allB (agB n kd x) 32 && (if 4 < itz (btS x) 13 0 then false else true) && inI n b && (if (x >>> (b &&& 31)) &&& 1 = 1 then true else false)
