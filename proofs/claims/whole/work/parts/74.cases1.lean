/-! the law's cases -/
set_option maxHeartbeats 4000000 in
set_option maxRecDepth 100000 in
theorem lc_fields {p : Program} {l : Launch} {e : Env} {s : State} {m : MethodId} {args : Array Value} {below : List Frame} {meth : Method} {c : Code} {Q : State → Prop} {D : va_G} {A : Nat → Prop} {cA cL : ClassId} {aX aB aT aN aG aW aD aO aV aM : Nat → Nat} {ou b j L cells slots : Nat} {xs : Nat → Int32} (C : pt_C p s m args c cL_law 7 wsL_law RL D [(cA, .int), (cL, .long)] A) (hX : va_X b L xs s s.heap) (hbl : b < s.heap.size) (hbA : ¬ A b) (hj : 5 * j + 5 ≤ L) (hL : L ≤ 2560) (hcs : cells + 1 ≤ room_1.cells ∧ slots + 6 ≤ room_1.slots) (K : lwK p l e s m args below meth c D A Q cA cL aX aB aT aN aG aW aD aO aV aM ou b j (cells + 1) (slots + 6) 951) : lwK p l e s m args below meth c D A Q cA cL aX aB aT aN aG aW aD aO aV aM ou b j cells slots 136 := by
  intro n k g t td dr wk sv P sz lk sd se sc ba pa ch T th M fo hI
  have hI0 := hI
  obtain ⟨⟨hn, hm, hgt, htd, hdr, hwk, hsv⟩, ⟨hS, hH⟩, ⟨hD, hU, hDw⟩, ⟨hB, hp, hrel⟩, ⟨ho, hoa⟩, hV, hnow, ht01, ht0⟩ := hI
  have hg : g ≤ 120 := Nat.le_trans hgt htd
  have hcs0 : cells ≤ room_1.cells ∧ slots ≤ room_1.slots := ⟨by omega, by omega⟩
  have hSg : ∀ w, w < g → P 7 w = 0 ∨ P 7 w = 1 ∨ P 7 w = 2 := fun w hw => hS w (Nat.lt_of_lt_of_le hw hgt)
  have hHg : ∀ w, w < g → heK (P 6) w := fun w hw => hH w (Nat.lt_of_lt_of_le hw hgt)
  have hrB : ∀ b, 1 ≤ b → b < n → relB (P 1) sz lk (P 1) (leM 0 (P 1) (P 2)) (P 3) b := fun b _ h => rel_0 (by omega) (hrel b (by omega))
  refine pt_aload_n (pc' := 137) C dL_law_136 rfl 3 rfl ?_
  refine pt_arg (pc' := 143) (c0 := 1) C hX hbl hbA hj (by decide) hL (by decide) 4 0 rfl rfl dL_law_137 dL_law_138 dL_law_140 dL_law_141 dL_law_142 rfl ?_
  refine pt_cvIP (pc' := 146) (As := [.int (xs (5 * j + 1))]) (rest := []) C.sub0 (mX6_fields l D cA aX aB aT aN aG aW aD aO aV g t (P 16) n k (P 0) (P 4) (P 5) (P 1) sz lk (xs (5 * j + 1)) hn hm) (cwV 1 C.hts gL_law_X6_fields rfl rfl rfl (by decide +kernel) ⟨Nat.le_of_ble_eq_true rfl, Nat.le_of_ble_eq_true rfl⟩) dL_law_143 rfl rfl rfl rfl rfl rfl (Nat.le_of_ble_eq_true rfl) hcs0 (pm_XB _ _ _ _ _ _ _ _ _ _ _) (pm_XB _ _ _ _ _ _ _ _ _ _ _).symm ?_
  refine pt_aload_n (pc' := 147) C dL_law_146 rfl 2 rfl ?_
  refine pt_arg (pc' := 153) (c0 := 1) C hX hbl hbA hj (by decide) hL (by decide) 4 0 rfl rfl dL_law_147 dL_law_148 dL_law_150 dL_law_151 dL_law_152 rfl ?_
  refine pt_cvIP (pc' := 156) (As := [.int (xs (5 * j + 1))]) (rest := [_]) C.sub0 (mX7_fields l D cA aM th n t k td g dr wk sv P M.1 M.2.1 M.2.2.1 M.2.2.2.1 M.2.2.2.2.1 M.2.2.2.2.2.1 M.2.2.2.2.2.2 (xs (5 * j + 1)) hn hm) (cwV 1 C.hts gL_law_X7_fields rfl rfl rfl (by decide +kernel) ⟨Nat.le_of_ble_eq_true rfl, Nat.le_of_ble_eq_true rfl⟩) dL_law_153 rfl rfl rfl rfl rfl rfl (Nat.le_of_ble_eq_true rfl) hcs0 (pm_M _ _ _ _ _ _ _ _ _ _ _) (pm_M _ _ _ _ _ _ _ _ _ _ _).symm ?_
  refine pt_icmp_eq (tgt := 951) (pc' := 159) C dL_law_156 (by decide) rfl (fun _ => ?_) (fun h9 => absurd ?_ h9)
  · refine pt_wd (k := cells + 1) (n := slots + 6) (by omega) (by omega) ?_
    refine pt_eq (ws' := wLw cA cL aX aB aT aN aG aW aD aO aV aM ou (cond (okFie t (xs (5 * j + 1))) ((xs (5 * j + 1)).toNatClampNeg) n) k g t td dr wk sv P sz lk sd se sc ba pa ch T 0 M fo) (lv' := [(4, .int (nI (5 * j))), (3, .ref ou), (2, .ref (aM 0)), (1, .ref (aX 0)), (0, .ref b)]) (st' := []) (by cases okFie t (xs (5 * j + 1)) <;> rfl) rfl rfl ?_
    refine K _ _ _ _ _ _ _ _ _ _ _ _ _ _ _ _ _ _ _ _ _ ?_
    cases hk : okFie t (xs (5 * j + 1))
    · exact hI0
    · exact li_fields hI0 hk
  · rfl
set_option maxHeartbeats 4000000 in
set_option maxRecDepth 100000 in
theorem lc_sand {p : Program} {l : Launch} {e : Env} {s : State} {m : MethodId} {args : Array Value} {below : List Frame} {meth : Method} {c : Code} {Q : State → Prop} {D : va_G} {A : Nat → Prop} {cA cL : ClassId} {aX aB aT aN aG aW aD aO aV aM : Nat → Nat} {ou b j L cells slots : Nat} {xs : Nat → Int32} (C : pt_C p s m args c cL_law 7 wsL_law RL D [(cA, .int), (cL, .long)] A) (hX : va_X b L xs s s.heap) (hbl : b < s.heap.size) (hbA : ¬ A b) (hj : 5 * j + 5 ≤ L) (hL : L ≤ 2560) (hcs : cells + 1 ≤ room_1.cells ∧ slots + 6 ≤ room_1.slots) (K : lwK p l e s m args below meth c D A Q cA cL aX aB aT aN aG aW aD aO aV aM ou b j (cells + 1) (slots + 6) 951) : lwK p l e s m args below meth c D A Q cA cL aX aB aT aN aG aW aD aO aV aM ou b j cells slots 161 := by
  intro n k g t td dr wk sv P sz lk sd se sc ba pa ch T th M fo hI
  have hI0 := hI
  obtain ⟨⟨hn, hm, hgt, htd, hdr, hwk, hsv⟩, ⟨hS, hH⟩, ⟨hD, hU, hDw⟩, ⟨hB, hp, hrel⟩, ⟨ho, hoa⟩, hV, hnow, ht01, ht0⟩ := hI
  have hg : g ≤ 120 := Nat.le_trans hgt htd
  have hcs0 : cells ≤ room_1.cells ∧ slots ≤ room_1.slots := ⟨by omega, by omega⟩
  have hSg : ∀ w, w < g → P 7 w = 0 ∨ P 7 w = 1 ∨ P 7 w = 2 := fun w hw => hS w (Nat.lt_of_lt_of_le hw hgt)
  have hHg : ∀ w, w < g → heK (P 6) w := fun w hw => hH w (Nat.lt_of_lt_of_le hw hgt)
  have hrB : ∀ b, 1 ≤ b → b < n → relB (P 1) sz lk (P 1) (leM 0 (P 1) (P 2)) (P 3) b := fun b _ h => rel_0 (by omega) (hrel b (by omega))
  refine pt_aload_n (pc' := 162) C dL_law_161 rfl 3 rfl ?_
  refine pt_arg (pc' := 168) (c0 := 1) C hX hbl hbA hj (by decide) hL (by decide) 4 0 rfl rfl dL_law_162 dL_law_163 dL_law_165 dL_law_166 dL_law_167 rfl ?_
  refine pt_arg (pc' := 174) (c0 := 2) C hX hbl hbA hj (by decide) hL (by decide) 4 0 rfl rfl dL_law_168 dL_law_169 dL_law_171 dL_law_172 dL_law_173 rfl ?_
  refine pt_cvIP (pc' := 177) (As := [.int (xs (5 * j + 1)), .int (xs (5 * j + 2))]) (rest := []) C.sub0 (mX6_sand l D cA aX aB aT aN aG aW aD aO aV g t (P 16) n k (P 0) (P 4) (P 5) (P 1) sz lk sd se sc ba pa ch (xs (5 * j + 1)) (xs (5 * j + 2)) hn hm hg) (cwV 2 C.hts gL_law_X6_sand rfl rfl rfl (by decide +kernel) ⟨Nat.le_of_ble_eq_true rfl, Nat.le_of_ble_eq_true rfl⟩) dL_law_174 rfl rfl rfl rfl rfl rfl (Nat.le_of_ble_eq_true rfl) hcs0 (pm_XBN _ _ _ _ _ _ _ _ _ _ _) (pm_XBN _ _ _ _ _ _ _ _ _ _ _).symm ?_
  refine pt_aload_n (pc' := 178) C dL_law_177 rfl 2 rfl ?_
  refine pt_arg (pc' := 184) (c0 := 1) C hX hbl hbA hj (by decide) hL (by decide) 4 0 rfl rfl dL_law_178 dL_law_179 dL_law_181 dL_law_182 dL_law_183 rfl ?_
  refine pt_arg (pc' := 190) (c0 := 2) C hX hbl hbA hj (by decide) hL (by decide) 4 0 rfl rfl dL_law_184 dL_law_185 dL_law_187 dL_law_188 dL_law_189 rfl ?_
  refine pt_cvIP (pc' := 193) (As := [.int (xs (5 * j + 1)), .int (xs (5 * j + 2))]) (rest := [_]) C.sub0 (mX7_sand l D cA aM th n t k td g dr wk sv P M.1 M.2.1 M.2.2.1 M.2.2.2.1 M.2.2.2.2.1 M.2.2.2.2.2.1 M.2.2.2.2.2.2 (xs (5 * j + 1)) (xs (5 * j + 2)) hn hm hg) (cwV 2 C.hts gL_law_X7_sand rfl rfl rfl (by decide +kernel) ⟨Nat.le_of_ble_eq_true rfl, Nat.le_of_ble_eq_true rfl⟩) dL_law_190 rfl rfl rfl rfl rfl rfl (Nat.le_of_ble_eq_true rfl) hcs0 (pm_M _ _ _ _ _ _ _ _ _ _ _) (pm_M _ _ _ _ _ _ _ _ _ _ _).symm ?_
  refine pt_icmp_eq (tgt := 951) (pc' := 196) C dL_law_193 (by decide) rfl (fun _ => ?_) (fun h9 => absurd ?_ h9)
  · refine pt_wd (k := cells + 1) (n := slots + 6) (by omega) (by omega) ?_
    refine pt_eq (ws' := wLw cA cL aX aB aT aN aG aW aD aO aV aM ou n k g (cond (okSand g n (xs (5 * j + 1)) (xs (5 * j + 2))) (1) t) td dr wk sv (cond (okSand g n (xs (5 * j + 1)) (xs (5 * j + 2))) ((va_up P 0 (upd (P 0) (xs (5 * j + 1)).toNatClampNeg (xs (5 * j + 2))))) P) sz lk (cond (okSand g n (xs (5 * j + 1)) (xs (5 * j + 2))) (upd (P 0) (xs (5 * j + 1)).toNatClampNeg (xs (5 * j + 2))) sd) (cond (okSand g n (xs (5 * j + 1)) (xs (5 * j + 2))) (fun _ => 0) se) (cond (okSand g n (xs (5 * j + 1)) (xs (5 * j + 2))) (fun _ => 0) sc) (cond (okSand g n (xs (5 * j + 1)) (xs (5 * j + 2))) (fun _ => 0) ba) (cond (okSand g n (xs (5 * j + 1)) (xs (5 * j + 2))) (fun _ => 0) pa) ch T 0 M fo) (lv' := [(4, .int (nI (5 * j))), (3, .ref ou), (2, .ref (aM 0)), (1, .ref (aX 0)), (0, .ref b)]) (st' := []) (by cases okSand g n (xs (5 * j + 1)) (xs (5 * j + 2)) <;> rfl) rfl rfl ?_
    refine K _ _ _ _ _ _ _ _ _ _ _ _ _ _ _ _ _ _ _ _ _ ?_
    cases hk : okSand g n (xs (5 * j + 1)) (xs (5 * j + 2))
    · exact hI0
    · exact li_sand hI0 hk
  · rfl
set_option maxHeartbeats 4000000 in
set_option maxRecDepth 100000 in
theorem lc_groyne {p : Program} {l : Launch} {e : Env} {s : State} {m : MethodId} {args : Array Value} {below : List Frame} {meth : Method} {c : Code} {Q : State → Prop} {D : va_G} {A : Nat → Prop} {cA cL : ClassId} {aX aB aT aN aG aW aD aO aV aM : Nat → Nat} {ou b j L cells slots : Nat} {xs : Nat → Int32} (C : pt_C p s m args c cL_law 7 wsL_law RL D [(cA, .int), (cL, .long)] A) (hX : va_X b L xs s s.heap) (hbl : b < s.heap.size) (hbA : ¬ A b) (hj : 5 * j + 5 ≤ L) (hL : L ≤ 2560) (hcs : cells + 1 ≤ room_1.cells ∧ slots + 6 ≤ room_1.slots) (K : lwK p l e s m args below meth c D A Q cA cL aX aB aT aN aG aW aD aO aV aM ou b j (cells + 1) (slots + 6) 951) : lwK p l e s m args below meth c D A Q cA cL aX aB aT aN aG aW aD aO aV aM ou b j cells slots 198 := by
  intro n k g t td dr wk sv P sz lk sd se sc ba pa ch T th M fo hI
  have hI0 := hI
  obtain ⟨⟨hn, hm, hgt, htd, hdr, hwk, hsv⟩, ⟨hS, hH⟩, ⟨hD, hU, hDw⟩, ⟨hB, hp, hrel⟩, ⟨ho, hoa⟩, hV, hnow, ht01, ht0⟩ := hI
  have hg : g ≤ 120 := Nat.le_trans hgt htd
  have hcs0 : cells ≤ room_1.cells ∧ slots ≤ room_1.slots := ⟨by omega, by omega⟩
  have hSg : ∀ w, w < g → P 7 w = 0 ∨ P 7 w = 1 ∨ P 7 w = 2 := fun w hw => hS w (Nat.lt_of_lt_of_le hw hgt)
  have hHg : ∀ w, w < g → heK (P 6) w := fun w hw => hH w (Nat.lt_of_lt_of_le hw hgt)
  have hrB : ∀ b, 1 ≤ b → b < n → relB (P 1) sz lk (P 1) (leM 0 (P 1) (P 2)) (P 3) b := fun b _ h => rel_0 (by omega) (hrel b (by omega))
  refine pt_aload_n (pc' := 199) C dL_law_198 rfl 3 rfl ?_
  refine pt_arg (pc' := 205) (c0 := 1) C hX hbl hbA hj (by decide) hL (by decide) 4 0 rfl rfl dL_law_199 dL_law_200 dL_law_202 dL_law_203 dL_law_204 rfl ?_
  refine pt_arg (pc' := 211) (c0 := 2) C hX hbl hbA hj (by decide) hL (by decide) 4 0 rfl rfl dL_law_205 dL_law_206 dL_law_208 dL_law_209 dL_law_210 rfl ?_
  refine pt_arg (pc' := 217) (c0 := 3) C hX hbl hbA hj (by decide) hL (by decide) 4 0 rfl rfl dL_law_211 dL_law_212 dL_law_214 dL_law_215 dL_law_216 rfl ?_
  refine pt_cvIP (pc' := 220) (As := [.int (xs (5 * j + 1)), .int (xs (5 * j + 2)), .int (xs (5 * j + 3))]) (rest := []) C.sub0 (mX6_groyne l D cA aX aB aT aN aG aW aD aO aV g t (P 16) n k (P 0) (P 4) (P 5) (P 1) sz lk sd se sc ba pa ch (xs (5 * j + 1)) (xs (5 * j + 2)) (xs (5 * j + 3)) hn hm hg) (cwV 3 C.hts gL_law_X6_groyne rfl rfl rfl (by decide +kernel) ⟨Nat.le_of_ble_eq_true rfl, Nat.le_of_ble_eq_true rfl⟩) dL_law_217 rfl rfl rfl rfl rfl rfl (Nat.le_of_ble_eq_true rfl) hcs0 (pm_XBN _ _ _ _ _ _ _ _ _ _ _) (pm_XBN _ _ _ _ _ _ _ _ _ _ _).symm ?_
  refine pt_aload_n (pc' := 221) C dL_law_220 rfl 2 rfl ?_
  refine pt_arg (pc' := 227) (c0 := 1) C hX hbl hbA hj (by decide) hL (by decide) 4 0 rfl rfl dL_law_221 dL_law_222 dL_law_224 dL_law_225 dL_law_226 rfl ?_
  refine pt_arg (pc' := 233) (c0 := 2) C hX hbl hbA hj (by decide) hL (by decide) 4 0 rfl rfl dL_law_227 dL_law_228 dL_law_230 dL_law_231 dL_law_232 rfl ?_
  refine pt_arg (pc' := 239) (c0 := 3) C hX hbl hbA hj (by decide) hL (by decide) 4 0 rfl rfl dL_law_233 dL_law_234 dL_law_236 dL_law_237 dL_law_238 rfl ?_
  refine pt_cvIP (pc' := 242) (As := [.int (xs (5 * j + 1)), .int (xs (5 * j + 2)), .int (xs (5 * j + 3))]) (rest := [_]) C.sub0 (mX7_groyne l D cA aM th n t k td g dr wk sv P M.1 M.2.1 M.2.2.1 M.2.2.2.1 M.2.2.2.2.1 M.2.2.2.2.2.1 M.2.2.2.2.2.2 (xs (5 * j + 1)) (xs (5 * j + 2)) (xs (5 * j + 3)) hn hm hg) (cwV 3 C.hts gL_law_X7_groyne rfl rfl rfl (by decide +kernel) ⟨Nat.le_of_ble_eq_true rfl, Nat.le_of_ble_eq_true rfl⟩) dL_law_239 rfl rfl rfl rfl rfl rfl (Nat.le_of_ble_eq_true rfl) hcs0 (pm_M _ _ _ _ _ _ _ _ _ _ _) (pm_M _ _ _ _ _ _ _ _ _ _ _).symm ?_
  refine pt_icmp_eq (tgt := 951) (pc' := 245) C dL_law_242 (by decide) rfl (fun _ => ?_) (fun h9 => absurd ?_ h9)
  · refine pt_wd (k := cells + 1) (n := slots + 6) (by omega) (by omega) ?_
    refine pt_eq (ws' := wLw cA cL aX aB aT aN aG aW aD aO aV aM ou n k g (cond (okGro g n (xs (5 * j + 1)) (xs (5 * j + 2)) (xs (5 * j + 3))) (1) t) td dr wk sv (cond (okGro g n (xs (5 * j + 1)) (xs (5 * j + 2)) (xs (5 * j + 3))) ((va_up (va_up (va_up P 1 (upd (P 1) (xs (5 * j + 1)).toNatClampNeg (if (xs (5 * j + 2)) = 0 then 0 else 1))) 2 (upd (P 2) (xs (5 * j + 1)).toNatClampNeg (xs (5 * j + 2)))) 3 (upd (P 3) (xs (5 * j + 1)).toNatClampNeg (xs (5 * j + 3))))) P) (cond (okGro g n (xs (5 * j + 1)) (xs (5 * j + 2)) (xs (5 * j + 3))) (upd sz (xs (5 * j + 1)).toNatClampNeg (xs (5 * j + 2))) sz) (cond (okGro g n (xs (5 * j + 1)) (xs (5 * j + 2)) (xs (5 * j + 3))) (upd lk (xs (5 * j + 1)).toNatClampNeg (xs (5 * j + 3))) lk) (cond (okGro g n (xs (5 * j + 1)) (xs (5 * j + 2)) (xs (5 * j + 3))) ((P 0)) sd) (cond (okGro g n (xs (5 * j + 1)) (xs (5 * j + 2)) (xs (5 * j + 3))) (fun _ => 0) se) (cond (okGro g n (xs (5 * j + 1)) (xs (5 * j + 2)) (xs (5 * j + 3))) (fun _ => 0) sc) (cond (okGro g n (xs (5 * j + 1)) (xs (5 * j + 2)) (xs (5 * j + 3))) (fun _ => 0) ba) (cond (okGro g n (xs (5 * j + 1)) (xs (5 * j + 2)) (xs (5 * j + 3))) (fun _ => 0) pa) ch T 0 M fo) (lv' := [(4, .int (nI (5 * j))), (3, .ref ou), (2, .ref (aM 0)), (1, .ref (aX 0)), (0, .ref b)]) (st' := []) (by cases okGro g n (xs (5 * j + 1)) (xs (5 * j + 2)) (xs (5 * j + 3)) <;> rfl) rfl rfl ?_
    refine K _ _ _ _ _ _ _ _ _ _ _ _ _ _ _ _ _ _ _ _ _ ?_
    cases hk : okGro g n (xs (5 * j + 1)) (xs (5 * j + 2)) (xs (5 * j + 3))
    · exact hI0
    · exact li_groyne hI0 hk
  · rfl
set_option maxHeartbeats 4000000 in
set_option maxRecDepth 100000 in
theorem lc_mouth {p : Program} {l : Launch} {e : Env} {s : State} {m : MethodId} {args : Array Value} {below : List Frame} {meth : Method} {c : Code} {Q : State → Prop} {D : va_G} {A : Nat → Prop} {cA cL : ClassId} {aX aB aT aN aG aW aD aO aV aM : Nat → Nat} {ou b j L cells slots : Nat} {xs : Nat → Int32} (C : pt_C p s m args c cL_law 7 wsL_law RL D [(cA, .int), (cL, .long)] A) (hX : va_X b L xs s s.heap) (hbl : b < s.heap.size) (hbA : ¬ A b) (hj : 5 * j + 5 ≤ L) (hL : L ≤ 2560) (hcs : cells + 1 ≤ room_1.cells ∧ slots + 6 ≤ room_1.slots) (K : lwK p l e s m args below meth c D A Q cA cL aX aB aT aN aG aW aD aO aV aM ou b j (cells + 1) (slots + 6) 951) : lwK p l e s m args below meth c D A Q cA cL aX aB aT aN aG aW aD aO aV aM ou b j cells slots 247 := by
  intro n k g t td dr wk sv P sz lk sd se sc ba pa ch T th M fo hI
  have hI0 := hI
  obtain ⟨⟨hn, hm, hgt, htd, hdr, hwk, hsv⟩, ⟨hS, hH⟩, ⟨hD, hU, hDw⟩, ⟨hB, hp, hrel⟩, ⟨ho, hoa⟩, hV, hnow, ht01, ht0⟩ := hI
  have hg : g ≤ 120 := Nat.le_trans hgt htd
  have hcs0 : cells ≤ room_1.cells ∧ slots ≤ room_1.slots := ⟨by omega, by omega⟩
  have hSg : ∀ w, w < g → P 7 w = 0 ∨ P 7 w = 1 ∨ P 7 w = 2 := fun w hw => hS w (Nat.lt_of_lt_of_le hw hgt)
  have hHg : ∀ w, w < g → heK (P 6) w := fun w hw => hH w (Nat.lt_of_lt_of_le hw hgt)
  have hrB : ∀ b, 1 ≤ b → b < n → relB (P 1) sz lk (P 1) (leM 0 (P 1) (P 2)) (P 3) b := fun b _ h => rel_0 (by omega) (hrel b (by omega))
  refine pt_aload_n (pc' := 248) C dL_law_247 rfl 3 rfl ?_
  refine pt_arg (pc' := 254) (c0 := 1) C hX hbl hbA hj (by decide) hL (by decide) 4 0 rfl rfl dL_law_248 dL_law_249 dL_law_251 dL_law_252 dL_law_253 rfl ?_
  refine pt_arg (pc' := 260) (c0 := 2) C hX hbl hbA hj (by decide) hL (by decide) 4 0 rfl rfl dL_law_254 dL_law_255 dL_law_257 dL_law_258 dL_law_259 rfl ?_
  refine pt_cvIP (pc' := 263) (As := [.int (xs (5 * j + 1)), .int (xs (5 * j + 2))]) (rest := []) C.sub0 (mX6_mouth l D cA aX aB aT aN aG aW aD aO aV g t (P 16) n k (P 0) (P 4) (P 5) (P 1) sz lk sd se sc ba pa ch (xs (5 * j + 1)) (xs (5 * j + 2)) hn hm hg) (cwV 2 C.hts gL_law_X6_mouth rfl rfl rfl (by decide +kernel) ⟨Nat.le_of_ble_eq_true rfl, Nat.le_of_ble_eq_true rfl⟩) dL_law_260 rfl rfl rfl rfl rfl rfl (Nat.le_of_ble_eq_true rfl) hcs0 (pm_XBN _ _ _ _ _ _ _ _ _ _ _) (pm_XBN _ _ _ _ _ _ _ _ _ _ _).symm ?_
  refine pt_aload_n (pc' := 264) C dL_law_263 rfl 2 rfl ?_
  refine pt_arg (pc' := 270) (c0 := 1) C hX hbl hbA hj (by decide) hL (by decide) 4 0 rfl rfl dL_law_264 dL_law_265 dL_law_267 dL_law_268 dL_law_269 rfl ?_
  refine pt_arg (pc' := 276) (c0 := 2) C hX hbl hbA hj (by decide) hL (by decide) 4 0 rfl rfl dL_law_270 dL_law_271 dL_law_273 dL_law_274 dL_law_275 rfl ?_
  refine pt_cvIP (pc' := 279) (As := [.int (xs (5 * j + 1)), .int (xs (5 * j + 2))]) (rest := [_]) C.sub0 (mX7_mouth l D cA aM th n t k td g dr wk sv P M.1 M.2.1 M.2.2.1 M.2.2.2.1 M.2.2.2.2.1 M.2.2.2.2.2.1 M.2.2.2.2.2.2 (xs (5 * j + 1)) (xs (5 * j + 2)) hn hm hg) (cwV 2 C.hts gL_law_X7_mouth rfl rfl rfl (by decide +kernel) ⟨Nat.le_of_ble_eq_true rfl, Nat.le_of_ble_eq_true rfl⟩) dL_law_276 rfl rfl rfl rfl rfl rfl (Nat.le_of_ble_eq_true rfl) hcs0 (pm_M _ _ _ _ _ _ _ _ _ _ _) (pm_M _ _ _ _ _ _ _ _ _ _ _).symm ?_
  refine pt_icmp_eq (tgt := 951) (pc' := 282) C dL_law_279 (by decide) rfl (fun _ => ?_) (fun h9 => absurd ?_ h9)
  · refine pt_wd (k := cells + 1) (n := slots + 6) (by omega) (by omega) ?_
    refine pt_eq (ws' := wLw cA cL aX aB aT aN aG aW aD aO aV aM ou n k g (cond (okMou g n (xs (5 * j + 1)) (xs (5 * j + 2))) (1) t) td dr wk sv (cond (okMou g n (xs (5 * j + 1)) (xs (5 * j + 2))) ((va_up (va_up (va_up P 1 (upd (P 1) (xs (5 * j + 1)).toNatClampNeg 2)) 2 (upd (P 2) (xs (5 * j + 1)).toNatClampNeg 0)) 3 (upd (P 3) (xs (5 * j + 1)).toNatClampNeg (xs (5 * j + 2))))) P) (cond (okMou g n (xs (5 * j + 1)) (xs (5 * j + 2))) (upd sz (xs (5 * j + 1)).toNatClampNeg (xs (5 * j + 2))) sz) (cond (okMou g n (xs (5 * j + 1)) (xs (5 * j + 2))) (upd lk (xs (5 * j + 1)).toNatClampNeg 0) lk) (cond (okMou g n (xs (5 * j + 1)) (xs (5 * j + 2))) ((P 0)) sd) (cond (okMou g n (xs (5 * j + 1)) (xs (5 * j + 2))) (fun _ => 0) se) (cond (okMou g n (xs (5 * j + 1)) (xs (5 * j + 2))) (fun _ => 0) sc) (cond (okMou g n (xs (5 * j + 1)) (xs (5 * j + 2))) (fun _ => 0) ba) (cond (okMou g n (xs (5 * j + 1)) (xs (5 * j + 2))) (fun _ => 0) pa) ch T 0 M fo) (lv' := [(4, .int (nI (5 * j))), (3, .ref ou), (2, .ref (aM 0)), (1, .ref (aX 0)), (0, .ref b)]) (st' := []) (by cases okMou g n (xs (5 * j + 1)) (xs (5 * j + 2)) <;> rfl) rfl rfl ?_
    refine K _ _ _ _ _ _ _ _ _ _ _ _ _ _ _ _ _ _ _ _ _ ?_
    cases hk : okMou g n (xs (5 * j + 1)) (xs (5 * j + 2))
    · exact hI0
    · exact li_mouth hI0 hk
  · rfl
set_option maxHeartbeats 4000000 in
set_option maxRecDepth 100000 in
theorem lc_wall {p : Program} {l : Launch} {e : Env} {s : State} {m : MethodId} {args : Array Value} {below : List Frame} {meth : Method} {c : Code} {Q : State → Prop} {D : va_G} {A : Nat → Prop} {cA cL : ClassId} {aX aB aT aN aG aW aD aO aV aM : Nat → Nat} {ou b j L cells slots : Nat} {xs : Nat → Int32} (C : pt_C p s m args c cL_law 7 wsL_law RL D [(cA, .int), (cL, .long)] A) (hX : va_X b L xs s s.heap) (hbl : b < s.heap.size) (hbA : ¬ A b) (hj : 5 * j + 5 ≤ L) (hL : L ≤ 2560) (hcs : cells + 1 ≤ room_1.cells ∧ slots + 6 ≤ room_1.slots) (K : lwK p l e s m args below meth c D A Q cA cL aX aB aT aN aG aW aD aO aV aM ou b j (cells + 1) (slots + 6) 951) : lwK p l e s m args below meth c D A Q cA cL aX aB aT aN aG aW aD aO aV aM ou b j cells slots 284 := by
  intro n k g t td dr wk sv P sz lk sd se sc ba pa ch T th M fo hI
  have hI0 := hI
  obtain ⟨⟨hn, hm, hgt, htd, hdr, hwk, hsv⟩, ⟨hS, hH⟩, ⟨hD, hU, hDw⟩, ⟨hB, hp, hrel⟩, ⟨ho, hoa⟩, hV, hnow, ht01, ht0⟩ := hI
  have hg : g ≤ 120 := Nat.le_trans hgt htd
  have hcs0 : cells ≤ room_1.cells ∧ slots ≤ room_1.slots := ⟨by omega, by omega⟩
  have hSg : ∀ w, w < g → P 7 w = 0 ∨ P 7 w = 1 ∨ P 7 w = 2 := fun w hw => hS w (Nat.lt_of_lt_of_le hw hgt)
  have hHg : ∀ w, w < g → heK (P 6) w := fun w hw => hH w (Nat.lt_of_lt_of_le hw hgt)
  have hrB : ∀ b, 1 ≤ b → b < n → relB (P 1) sz lk (P 1) (leM 0 (P 1) (P 2)) (P 3) b := fun b _ h => rel_0 (by omega) (hrel b (by omega))
  refine pt_aload_n (pc' := 285) C dL_law_284 rfl 3 rfl ?_
  refine pt_arg (pc' := 291) (c0 := 1) C hX hbl hbA hj (by decide) hL (by decide) 4 0 rfl rfl dL_law_285 dL_law_286 dL_law_288 dL_law_289 dL_law_290 rfl ?_
  refine pt_arg (pc' := 297) (c0 := 2) C hX hbl hbA hj (by decide) hL (by decide) 4 0 rfl rfl dL_law_291 dL_law_292 dL_law_294 dL_law_295 dL_law_296 rfl ?_
  refine pt_cvIP (pc' := 300) (As := [.int (xs (5 * j + 1)), .int (xs (5 * j + 2))]) (rest := []) C.sub0 (mX6_wall l D cA aX aB aT aN aG aW aD aO aV g t (P 16) n k (P 0) (P 4) (P 5) (P 1) sz lk sd se sc ba pa ch (xs (5 * j + 1)) (xs (5 * j + 2)) hn hm hg) (cwV 2 C.hts gL_law_X6_wall rfl rfl rfl (by decide +kernel) ⟨Nat.le_of_ble_eq_true rfl, Nat.le_of_ble_eq_true rfl⟩) dL_law_297 rfl rfl rfl rfl rfl rfl (Nat.le_of_ble_eq_true rfl) hcs0 (pm_XBN _ _ _ _ _ _ _ _ _ _ _) (pm_XBN _ _ _ _ _ _ _ _ _ _ _).symm ?_
  refine pt_aload_n (pc' := 301) C dL_law_300 rfl 2 rfl ?_
  refine pt_arg (pc' := 307) (c0 := 1) C hX hbl hbA hj (by decide) hL (by decide) 4 0 rfl rfl dL_law_301 dL_law_302 dL_law_304 dL_law_305 dL_law_306 rfl ?_
  refine pt_arg (pc' := 313) (c0 := 2) C hX hbl hbA hj (by decide) hL (by decide) 4 0 rfl rfl dL_law_307 dL_law_308 dL_law_310 dL_law_311 dL_law_312 rfl ?_
  refine pt_cvIP (pc' := 316) (As := [.int (xs (5 * j + 1)), .int (xs (5 * j + 2))]) (rest := [_]) C.sub0 (mX7_wall l D cA aM th n t k td g dr wk sv P M.1 M.2.1 M.2.2.1 M.2.2.2.1 M.2.2.2.2.1 M.2.2.2.2.2.1 M.2.2.2.2.2.2 (xs (5 * j + 1)) (xs (5 * j + 2)) hn hm hg) (cwV 2 C.hts gL_law_X7_wall rfl rfl rfl (by decide +kernel) ⟨Nat.le_of_ble_eq_true rfl, Nat.le_of_ble_eq_true rfl⟩) dL_law_313 rfl rfl rfl rfl rfl rfl (Nat.le_of_ble_eq_true rfl) hcs0 (pm_M _ _ _ _ _ _ _ _ _ _ _) (pm_M _ _ _ _ _ _ _ _ _ _ _).symm ?_
  refine pt_icmp_eq (tgt := 951) (pc' := 319) C dL_law_316 (by decide) rfl (fun _ => ?_) (fun h9 => absurd ?_ h9)
  · refine pt_wd (k := cells + 1) (n := slots + 6) (by omega) (by omega) ?_
    refine pt_eq (ws' := wLw cA cL aX aB aT aN aG aW aD aO aV aM ou n k g (cond (okWal g n (xs (5 * j + 1)) (xs (5 * j + 2))) (1) t) td dr wk sv (cond (okWal g n (xs (5 * j + 1)) (xs (5 * j + 2))) ((va_up P 4 (upd (P 4) (xs (5 * j + 1)).toNatClampNeg (xs (5 * j + 2))))) P) sz lk (cond (okWal g n (xs (5 * j + 1)) (xs (5 * j + 2))) ((P 0)) sd) (cond (okWal g n (xs (5 * j + 1)) (xs (5 * j + 2))) (fun _ => 0) se) (cond (okWal g n (xs (5 * j + 1)) (xs (5 * j + 2))) (fun _ => 0) sc) (cond (okWal g n (xs (5 * j + 1)) (xs (5 * j + 2))) (fun _ => 0) ba) (cond (okWal g n (xs (5 * j + 1)) (xs (5 * j + 2))) (fun _ => 0) pa) ch T 0 M fo) (lv' := [(4, .int (nI (5 * j))), (3, .ref ou), (2, .ref (aM 0)), (1, .ref (aX 0)), (0, .ref b)]) (st' := []) (by cases okWal g n (xs (5 * j + 1)) (xs (5 * j + 2)) <;> rfl) rfl rfl ?_
    refine K _ _ _ _ _ _ _ _ _ _ _ _ _ _ _ _ _ _ _ _ _ ?_
    cases hk : okWal g n (xs (5 * j + 1)) (xs (5 * j + 2))
    · exact hI0
    · exact li_wall hI0 hk
  · rfl
set_option maxHeartbeats 4000000 in
set_option maxRecDepth 100000 in
theorem lc_feed {p : Program} {l : Launch} {e : Env} {s : State} {m : MethodId} {args : Array Value} {below : List Frame} {meth : Method} {c : Code} {Q : State → Prop} {D : va_G} {A : Nat → Prop} {cA cL : ClassId} {aX aB aT aN aG aW aD aO aV aM : Nat → Nat} {ou b j L cells slots : Nat} {xs : Nat → Int32} (C : pt_C p s m args c cL_law 7 wsL_law RL D [(cA, .int), (cL, .long)] A) (hX : va_X b L xs s s.heap) (hbl : b < s.heap.size) (hbA : ¬ A b) (hj : 5 * j + 5 ≤ L) (hL : L ≤ 2560) (hcs : cells + 1 ≤ room_1.cells ∧ slots + 6 ≤ room_1.slots) (K : lwK p l e s m args below meth c D A Q cA cL aX aB aT aN aG aW aD aO aV aM ou b j (cells + 1) (slots + 6) 951) : lwK p l e s m args below meth c D A Q cA cL aX aB aT aN aG aW aD aO aV aM ou b j cells slots 321 := by
  intro n k g t td dr wk sv P sz lk sd se sc ba pa ch T th M fo hI
  have hI0 := hI
  obtain ⟨⟨hn, hm, hgt, htd, hdr, hwk, hsv⟩, ⟨hS, hH⟩, ⟨hD, hU, hDw⟩, ⟨hB, hp, hrel⟩, ⟨ho, hoa⟩, hV, hnow, ht01, ht0⟩ := hI
  have hg : g ≤ 120 := Nat.le_trans hgt htd
  have hcs0 : cells ≤ room_1.cells ∧ slots ≤ room_1.slots := ⟨by omega, by omega⟩
  have hSg : ∀ w, w < g → P 7 w = 0 ∨ P 7 w = 1 ∨ P 7 w = 2 := fun w hw => hS w (Nat.lt_of_lt_of_le hw hgt)
  have hHg : ∀ w, w < g → heK (P 6) w := fun w hw => hH w (Nat.lt_of_lt_of_le hw hgt)
  have hrB : ∀ b, 1 ≤ b → b < n → relB (P 1) sz lk (P 1) (leM 0 (P 1) (P 2)) (P 3) b := fun b _ h => rel_0 (by omega) (hrel b (by omega))
  refine pt_aload_n (pc' := 322) C dL_law_321 rfl 3 rfl ?_
  refine pt_arg (pc' := 328) (c0 := 1) C hX hbl hbA hj (by decide) hL (by decide) 4 0 rfl rfl dL_law_322 dL_law_323 dL_law_325 dL_law_326 dL_law_327 rfl ?_
  refine pt_arg (pc' := 334) (c0 := 2) C hX hbl hbA hj (by decide) hL (by decide) 4 0 rfl rfl dL_law_328 dL_law_329 dL_law_331 dL_law_332 dL_law_333 rfl ?_
  refine pt_cvIP (pc' := 337) (As := [.int (xs (5 * j + 1)), .int (xs (5 * j + 2))]) (rest := []) C.sub0 (mX6_feed l D cA aX aB aT aN aG aW aD aO aV g t (P 16) n k (P 0) (P 4) (P 5) (P 1) sz lk sd se sc ba pa ch (xs (5 * j + 1)) (xs (5 * j + 2)) hn hm hg) (cwV 2 C.hts gL_law_X6_feed rfl rfl rfl (by decide +kernel) ⟨Nat.le_of_ble_eq_true rfl, Nat.le_of_ble_eq_true rfl⟩) dL_law_334 rfl rfl rfl rfl rfl rfl (Nat.le_of_ble_eq_true rfl) hcs0 (pm_XBN _ _ _ _ _ _ _ _ _ _ _) (pm_XBN _ _ _ _ _ _ _ _ _ _ _).symm ?_
  refine pt_aload_n (pc' := 338) C dL_law_337 rfl 2 rfl ?_
  refine pt_arg (pc' := 344) (c0 := 1) C hX hbl hbA hj (by decide) hL (by decide) 4 0 rfl rfl dL_law_338 dL_law_339 dL_law_341 dL_law_342 dL_law_343 rfl ?_
  refine pt_arg (pc' := 350) (c0 := 2) C hX hbl hbA hj (by decide) hL (by decide) 4 0 rfl rfl dL_law_344 dL_law_345 dL_law_347 dL_law_348 dL_law_349 rfl ?_
  refine pt_cvIP (pc' := 353) (As := [.int (xs (5 * j + 1)), .int (xs (5 * j + 2))]) (rest := [_]) C.sub0 (mX7_feed l D cA aM th n t k td g dr wk sv P M.1 M.2.1 M.2.2.1 M.2.2.2.1 M.2.2.2.2.1 M.2.2.2.2.2.1 M.2.2.2.2.2.2 (xs (5 * j + 1)) (xs (5 * j + 2)) hn hm hg) (cwV 2 C.hts gL_law_X7_feed rfl rfl rfl (by decide +kernel) ⟨Nat.le_of_ble_eq_true rfl, Nat.le_of_ble_eq_true rfl⟩) dL_law_350 rfl rfl rfl rfl rfl rfl (Nat.le_of_ble_eq_true rfl) hcs0 (pm_M _ _ _ _ _ _ _ _ _ _ _) (pm_M _ _ _ _ _ _ _ _ _ _ _).symm ?_
  refine pt_icmp_eq (tgt := 951) (pc' := 356) C dL_law_353 (by decide) rfl (fun _ => ?_) (fun h9 => absurd ?_ h9)
  · refine pt_wd (k := cells + 1) (n := slots + 6) (by omega) (by omega) ?_
    refine pt_eq (ws' := wLw cA cL aX aB aT aN aG aW aD aO aV aM ou n k g (cond (okFee g (xs (5 * j + 1)) (xs (5 * j + 2))) (1) t) td dr wk sv (cond (okFee g (xs (5 * j + 1)) (xs (5 * j + 2))) ((va_up P 5 (upd (P 5) (xs (5 * j + 1)).toNatClampNeg (xs (5 * j + 2))))) P) sz lk (cond (okFee g (xs (5 * j + 1)) (xs (5 * j + 2))) ((P 0)) sd) (cond (okFee g (xs (5 * j + 1)) (xs (5 * j + 2))) (fun _ => 0) se) (cond (okFee g (xs (5 * j + 1)) (xs (5 * j + 2))) (fun _ => 0) sc) (cond (okFee g (xs (5 * j + 1)) (xs (5 * j + 2))) (fun _ => 0) ba) (cond (okFee g (xs (5 * j + 1)) (xs (5 * j + 2))) (fun _ => 0) pa) ch T 0 M fo) (lv' := [(4, .int (nI (5 * j))), (3, .ref ou), (2, .ref (aM 0)), (1, .ref (aX 0)), (0, .ref b)]) (st' := []) (by cases okFee g (xs (5 * j + 1)) (xs (5 * j + 2)) <;> rfl) rfl rfl ?_
    refine K _ _ _ _ _ _ _ _ _ _ _ _ _ _ _ _ _ _ _ _ _ ?_
    cases hk : okFee g (xs (5 * j + 1)) (xs (5 * j + 2))
    · exact hI0
    · exact li_feed hI0 hk
  · rfl
set_option maxHeartbeats 4000000 in
set_option maxRecDepth 100000 in
theorem lc_number {p : Program} {l : Launch} {e : Env} {s : State} {m : MethodId} {args : Array Value} {below : List Frame} {meth : Method} {c : Code} {Q : State → Prop} {D : va_G} {A : Nat → Prop} {cA cL : ClassId} {aX aB aT aN aG aW aD aO aV aM : Nat → Nat} {ou b j L cells slots : Nat} {xs : Nat → Int32} (C : pt_C p s m args c cL_law 7 wsL_law RL D [(cA, .int), (cL, .long)] A) (hX : va_X b L xs s s.heap) (hbl : b < s.heap.size) (hbA : ¬ A b) (hj : 5 * j + 5 ≤ L) (hL : L ≤ 2560) (hcs : cells + 1 ≤ room_1.cells ∧ slots + 6 ≤ room_1.slots) (K : lwK p l e s m args below meth c D A Q cA cL aX aB aT aN aG aW aD aO aV aM ou b j (cells + 1) (slots + 6) 951) : lwK p l e s m args below meth c D A Q cA cL aX aB aT aN aG aW aD aO aV aM ou b j cells slots 358 := by
  intro n k g t td dr wk sv P sz lk sd se sc ba pa ch T th M fo hI
  have hI0 := hI
  obtain ⟨⟨hn, hm, hgt, htd, hdr, hwk, hsv⟩, ⟨hS, hH⟩, ⟨hD, hU, hDw⟩, ⟨hB, hp, hrel⟩, ⟨ho, hoa⟩, hV, hnow, ht01, ht0⟩ := hI
  have hg : g ≤ 120 := Nat.le_trans hgt htd
  have hcs0 : cells ≤ room_1.cells ∧ slots ≤ room_1.slots := ⟨by omega, by omega⟩
  have hSg : ∀ w, w < g → P 7 w = 0 ∨ P 7 w = 1 ∨ P 7 w = 2 := fun w hw => hS w (Nat.lt_of_lt_of_le hw hgt)
  have hHg : ∀ w, w < g → heK (P 6) w := fun w hw => hH w (Nat.lt_of_lt_of_le hw hgt)
  have hrB : ∀ b, 1 ≤ b → b < n → relB (P 1) sz lk (P 1) (leM 0 (P 1) (P 2)) (P 3) b := fun b _ h => rel_0 (by omega) (hrel b (by omega))
  refine pt_aload_n (pc' := 359) C dL_law_358 rfl 3 rfl ?_
  refine pt_arg (pc' := 365) (c0 := 1) C hX hbl hbA hj (by decide) hL (by decide) 4 0 rfl rfl dL_law_359 dL_law_360 dL_law_362 dL_law_363 dL_law_364 rfl ?_
  refine pt_cvIP (pc' := 368) (As := [.int (xs (5 * j + 1))]) (rest := []) C.sub0 (mX6_number l D cA aX aB aT aN aG aW aD aO aV g t (P 16) n k (P 0) (P 4) (P 5) (P 1) sz lk sd se sc ba pa ch (xs (5 * j + 1)) hn hm hg) (cwV 1 C.hts gL_law_X6_number rfl rfl rfl (by decide +kernel) ⟨Nat.le_of_ble_eq_true rfl, Nat.le_of_ble_eq_true rfl⟩) dL_law_365 rfl rfl rfl rfl rfl rfl (Nat.le_of_ble_eq_true rfl) hcs0 (pm_XBN _ _ _ _ _ _ _ _ _ _ _) (pm_XBN _ _ _ _ _ _ _ _ _ _ _).symm ?_
  refine pt_aload_n (pc' := 369) C dL_law_368 rfl 2 rfl ?_
  refine pt_arg (pc' := 375) (c0 := 1) C hX hbl hbA hj (by decide) hL (by decide) 4 0 rfl rfl dL_law_369 dL_law_370 dL_law_372 dL_law_373 dL_law_374 rfl ?_
  refine pt_cvIP (pc' := 378) (As := [.int (xs (5 * j + 1))]) (rest := [_]) C.sub0 (mX7_number l D cA aM th n t k td g dr wk sv P M.1 M.2.1 M.2.2.1 M.2.2.2.1 M.2.2.2.2.1 M.2.2.2.2.2.1 M.2.2.2.2.2.2 (xs (5 * j + 1)) hg) (cwV 1 C.hts gL_law_X7_number rfl rfl rfl (by decide +kernel) ⟨Nat.le_of_ble_eq_true rfl, Nat.le_of_ble_eq_true rfl⟩) dL_law_375 rfl rfl rfl rfl rfl rfl (Nat.le_of_ble_eq_true rfl) hcs0 (pm_M _ _ _ _ _ _ _ _ _ _ _) (pm_M _ _ _ _ _ _ _ _ _ _ _).symm ?_
  refine pt_icmp_eq (tgt := 951) (pc' := 381) C dL_law_378 (by decide) rfl (fun _ => ?_) (fun h9 => absurd ?_ h9)
  · refine pt_wd (k := cells + 1) (n := slots + 6) (by omega) (by omega) ?_
    refine pt_eq (ws' := wLw cA cL aX aB aT aN aG aW aD aO aV aM ou n (cond (okNum g (xs (5 * j + 1))) ((xs (5 * j + 1))) k) g (cond (okNum g (xs (5 * j + 1))) (1) t) td dr wk sv P sz lk (cond (okNum g (xs (5 * j + 1))) ((P 0)) sd) (cond (okNum g (xs (5 * j + 1))) (fun _ => 0) se) (cond (okNum g (xs (5 * j + 1))) (fun _ => 0) sc) (cond (okNum g (xs (5 * j + 1))) (fun _ => 0) ba) (cond (okNum g (xs (5 * j + 1))) (fun _ => 0) pa) ch T 0 M fo) (lv' := [(4, .int (nI (5 * j))), (3, .ref ou), (2, .ref (aM 0)), (1, .ref (aX 0)), (0, .ref b)]) (st' := []) (by cases okNum g (xs (5 * j + 1)) <;> rfl) rfl rfl ?_
    refine K _ _ _ _ _ _ _ _ _ _ _ _ _ _ _ _ _ _ _ _ _ ?_
    cases hk : okNum g (xs (5 * j + 1))
    · exact hI0
    · exact li_number hI0 hk
  · rfl
