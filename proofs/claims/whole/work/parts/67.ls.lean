theorem MI.MN {N : Nat → Nat} {sc : Nat → Int32} {ar : Nat → Nat → Int32} (h : MI N sc ar) : MN sc := ⟨N, h.1⟩
theorem sP_of {cy : Nat → ClassId} {ad : zA} {S : zRs} : ∀ r ad2 w2, zPi S.1 ad (mW cy ad S.2.1 S.2.2) r ad2 w2 → sP cy ad S r ad2 w2 := by
  rintro r ad2 w2 ⟨rfl, rfl, rfl⟩
  exact ⟨rfl, rfl, _, _, rfl, SR.refl _ _⟩
/-- what a call leaves as it was -/
def kpS (sc : Nat → Int32) (ar : Nat → Nat → Int32) (S : zRs) : Prop := (∀ j, 2 ≤ j → j ≤ 7 → S.2.1 j = sc j) ∧ S.2.2 22 = ar 22 ∧ S.2.2 26 = ar 26 ∧ S.2.2 28 = ar 28 ∧ S.2.2 30 = ar 30
theorem kp_tr (v : Int32) (sc : Nat → Int32) (ar : Nat → Nat → Int32) (x : Int32) : kpS sc ar (v, upd sc 1 x, ar) := ⟨fun j h1 h2 => upd_n (by omega), rfl, rfl, rfl, rfl⟩
theorem kp_set (a b : Int32) (sc : Nat → Int32) (ar : Nat → Nat → Int32) : kpS sc ar (s_set a b sc ar) := by
  unfold s_set
  split
  · refine ⟨fun j h1 h2 => ?_, rfl, rfl, rfl, rfl⟩
    show upd (upd (upd sc 9 a) 10 b) 1 0 j = sc j
    rw [upd_n (by omega), upd_n (by omega), upd_n (by omega)]
  · exact kp_tr _ _ _ _
theorem kp_price (a b : Int32) (sc : Nat → Int32) (ar : Nat → Nat → Int32) : kpS sc ar (s_price a b sc ar) := by
  unfold s_price
  split
  · split
    · exact ⟨fun j h1 h2 => upd_n (by omega), putA_n (i := 22) (j := 16) ar (cl a) b (by decide), putA_n (i := 26) (j := 16) ar (cl a) b (by decide), putA_n (i := 28) (j := 16) ar (cl a) b (by decide), putA_n (i := 30) (j := 16) ar (cl a) b (by decide)⟩
    · exact kp_tr _ _ _ _
  · exact kp_tr _ _ _ _
theorem kp_rain (a b : Int32) (sc : Nat → Int32) (ar : Nat → Nat → Int32) : kpS sc ar (s_rain a b sc ar) := by
  unfold s_rain
  split
  · exact kp_tr _ _ _ _
  · exact ⟨fun j h1 h2 => upd_n (by omega), putA_n (i := 22) (j := 17) ar (cl a) b (by decide), putA_n (i := 26) (j := 17) ar (cl a) b (by decide), putA_n (i := 28) (j := 17) ar (cl a) b (by decide), putA_n (i := 30) (j := 17) ar (cl a) b (by decide)⟩
theorem kp_pass (d : Int32) (sc : Nat → Int32) (ar : Nat → Nat → Int32) : kpS sc ar (s_pass d sc ar) := by
  unfold s_pass
  split
  · refine ⟨fun j h1 h2 => ?_, itY_row _ _ (by decide) (by decide) _, itY_row _ _ (by decide) (by decide) _, itY_row _ _ (by decide) (by decide) _, itY_row _ _ (by decide) (by decide) _⟩
    show upd (upd sc 8 (sc 8 + d)) 1 0 j = sc j
    rw [upd_n (by omega), upd_n (by omega)]
  · exact kp_tr _ _ _ _
theorem kp_most (f : Int32) (sc : Nat → Int32) (ar : Nat → Nat → Int32) : kpS sc ar (s_most f sc ar) := by
  unfold s_most
  split
  · split <;> exact kp_tr _ _ _ _
  · exact kp_tr _ _ _ _
theorem mk_most {N : Nat → Nat} {sc : Nat → Int32} {ar : Nat → Nat → Int32} (f : Int32) (hI : MI N sc ar) : mOK (s_most f sc ar) := by
  unfold s_most
  split
  · split <;> exact ⟨N, hI.tr _⟩
  · exact ⟨N, hI.tr _⟩
theorem clP_of2 {s0 : State} {cy : Nat → ClassId} {ad : zA} {sc : Nat → Int32} {ar tau : Nat → Nat → Int32} {js mo : Nat → Int32} {cp cn al : Nat → Nat} {q3 pa : Nat → Nat → Int32} {pn : Nat → Nat} {N : Nat → Nat} {S : zRs} (hI : MI N sc ar) (hJ : XI N ar cp cn al q3 pa pn) (hZ : XZ s0 cp ad) (hS : kpS sc ar S) : ∀ r ad2 w2, zPi S.1 ad (xW cy ad S.2.1 S.2.2 tau js mo cp cn al q3 pa pn) r ad2 w2 → clP cy ad s0 S r ad2 w2 := fun r ad2 w2 h => clP_of (tau := tau) (js := js) hI hJ hZ hS.1 hS.2.1 hS.2.2.1 hS.2.2.2.1 hS.2.2.2.2 r ad2 w2 ⟨_, _, h⟩
theorem clP_of3 {s0 : State} {cy : Nat → ClassId} {ad : zA} {sc : Nat → Int32} {ar tau : Nat → Nat → Int32} {js mo : Nat → Int32} {cp cn al : Nat → Nat} {q3 pa : Nat → Nat → Int32} {pn : Nat → Nat} {N : Nat → Nat} {S : zRs} (hI : MI N sc ar) (hJ : XI N ar cp cn al q3 pa pn) (hZ : XZ s0 cp ad) (hS : kpS sc ar S) : ∀ r ad2 w2, xP cy ad mo cp cn al q3 pa pn S r ad2 w2 → clP cy ad s0 S r ad2 w2 := by
  rintro r ad2 w2 ⟨h1, h2, js2, tau2, h3⟩
  exact clP_of (tau := tau) (js := js) hI hJ hZ hS.1 hS.2.1 hS.2.2.1 hS.2.2.2.1 hS.2.2.2.2 r ad2 w2 ⟨tau2, js2, h1, h2, h3⟩
theorem kp_q (v : Int32) (sc : Nat → Int32) (ar : Nat → Nat → Int32) : kpS sc ar (v, sc, ar) := ⟨fun _ _ _ => rfl, rfl, rfl, rfl, rfl⟩
set_option maxHeartbeats 4000000 in
set_option maxRecDepth 100000 in
theorem lc_0 {X : zX} {l : Launch} {D : va_G} {cy : Nat → ClassId} {s0 : State} {b L i n1 n2 o0 o30 o40 : Nat} {xs : Nat → Int32} {ad : zA} {w : zW} {x5 x6 : Option Value} (hB : zBg X l D cy s0 room_1) (hG : zG s0) (hX : va_X b L xs s0 s0.heap) (hL : L ≤ 3072) (hi : i + 6 ≤ L) (hn : n1 + 4 ≤ 601024 ∧ n2 + 640 ≤ 7293034) (hI : LI s0 cy o0 o30 o40 ad w) (hk : ∀ (ad2 : zA) (w2 : zW) (y5 y6 : Option Value), LI s0 cy o0 o30 o40 ad2 w2 → V X RL cL_law 7 (some .boolean) (n1 + 4) (n2 + 640) ad2 w2 962 [some (.ref b), some (.ref o0), some (.ref o30), some (.ref o40), some (.int (nI i)), y5, y6] []) : V X RL cL_law 7 (some .boolean) n1 n2 ad w 148 [some (.ref b), some (.ref o0), some (.ref o30), some (.ref o40), some (.int (nI i)), x5, x6] [] := by
  obtain ⟨h0, h30, h40, sc, ar, tau, js, mo, cp, cn, al, q3, pa, pn, N, f, hMI, hJ, hZ, rfl⟩ := hI
  have hI0 := hMI.th 0
  refine v_aload_n dL_law_148 rfl ?_
  refine v_arg (k := 1) hB hX hL hi (by decide) (by decide) rfl rfl dL_law_149 dL_law_150 dL_law_152 dL_law_153 dL_law_154 ?_
  refine lc_C (S := s_family (xs (i + 1)) (upd sc 0 0) ar) [.int (xs (i + 1))] hB k_L_19 (pX9_family hI0 hJ hG hZ) rfl h0 h30 h40 rfl (by decide) (by decide) ⟨by decide, by decide⟩ hn (Nat.le_of_ble_eq_true rfl) dL_law_155 (fun ad2 w2 hLM => ?_)
  refine v_aload_n dL_law_158 rfl ?_
  refine v_arg (k := 1) hB hX hL hi (by decide) (by decide) rfl rfl dL_law_159 dL_law_160 dL_law_162 dL_law_163 dL_law_164 ?_
  refine lc_M [.int (xs (i + 1))] hB k_L_23 (zM.mono (cM_family hI0.MN) (sP_of (S := s_family (xs (i + 1)) (upd sc 0 0) ar))) hLM (mk_family _ hI0) rfl rfl (by decide) (by decide) hn (Nat.le_of_ble_eq_true rfl) dL_law_165 (fun w3 hLI => ?_)
  exact v_icmp_eq (tgt := 962) dL_law_168 (by decide) (fun _ => hk ad2 w3 _ _ hLI) (fun h => absurd rfl h)
set_option maxHeartbeats 4000000 in
set_option maxRecDepth 100000 in
theorem lc_1 {X : zX} {l : Launch} {D : va_G} {cy : Nat → ClassId} {s0 : State} {b L i n1 n2 o0 o30 o40 : Nat} {xs : Nat → Int32} {ad : zA} {w : zW} {x5 x6 : Option Value} (hB : zBg X l D cy s0 room_1) (hG : zG s0) (hX : va_X b L xs s0 s0.heap) (hL : L ≤ 3072) (hi : i + 6 ≤ L) (hn : n1 + 4 ≤ 601024 ∧ n2 + 640 ≤ 7293034) (hI : LI s0 cy o0 o30 o40 ad w) (hk : ∀ (ad2 : zA) (w2 : zW) (y5 y6 : Option Value), LI s0 cy o0 o30 o40 ad2 w2 → V X RL cL_law 7 (some .boolean) (n1 + 4) (n2 + 640) ad2 w2 962 [some (.ref b), some (.ref o0), some (.ref o30), some (.ref o40), some (.int (nI i)), y5, y6] []) : V X RL cL_law 7 (some .boolean) n1 n2 ad w 173 [some (.ref b), some (.ref o0), some (.ref o30), some (.ref o40), some (.int (nI i)), x5, x6] [] := by
  obtain ⟨h0, h30, h40, sc, ar, tau, js, mo, cp, cn, al, q3, pa, pn, N, f, hMI, hJ, hZ, rfl⟩ := hI
  have hI0 := hMI.th 0
  refine v_aload_n dL_law_173 rfl ?_
  refine v_arg (k := 1) hB hX hL hi (by decide) (by decide) rfl rfl dL_law_174 dL_law_175 dL_law_177 dL_law_178 dL_law_179 ?_
  refine lc_C (S := s_garden (xs (i + 1)) (upd sc 0 0) ar) [.int (xs (i + 1))] hB k_L_24 (pX9_garden hI0 hJ hG hZ) rfl h0 h30 h40 rfl (by decide) (by decide) ⟨by decide, by decide⟩ hn (Nat.le_of_ble_eq_true rfl) dL_law_180 (fun ad2 w2 hLM => ?_)
  refine v_aload_n dL_law_183 rfl ?_
  refine v_arg (k := 1) hB hX hL hi (by decide) (by decide) rfl rfl dL_law_184 dL_law_185 dL_law_187 dL_law_188 dL_law_189 ?_
  refine lc_M [.int (xs (i + 1))] hB k_L_27 (zM.mono (cM_garden hI0.MN) (sP_of (S := s_garden (xs (i + 1)) (upd sc 0 0) ar))) hLM (mk_garden _ hI0) rfl rfl (by decide) (by decide) hn (Nat.le_of_ble_eq_true rfl) dL_law_190 (fun w3 hLI => ?_)
  exact v_icmp_eq (tgt := 962) dL_law_193 (by decide) (fun _ => hk ad2 w3 _ _ hLI) (fun h => absurd rfl h)
set_option maxHeartbeats 4000000 in
set_option maxRecDepth 100000 in
theorem lc_2 {X : zX} {l : Launch} {D : va_G} {cy : Nat → ClassId} {s0 : State} {b L i n1 n2 o0 o30 o40 : Nat} {xs : Nat → Int32} {ad : zA} {w : zW} {x5 x6 : Option Value} (hB : zBg X l D cy s0 room_1) (hG : zG s0) (hX : va_X b L xs s0 s0.heap) (hL : L ≤ 3072) (hi : i + 6 ≤ L) (hn : n1 + 4 ≤ 601024 ∧ n2 + 640 ≤ 7293034) (hI : LI s0 cy o0 o30 o40 ad w) (hk : ∀ (ad2 : zA) (w2 : zW) (y5 y6 : Option Value), LI s0 cy o0 o30 o40 ad2 w2 → V X RL cL_law 7 (some .boolean) (n1 + 4) (n2 + 640) ad2 w2 962 [some (.ref b), some (.ref o0), some (.ref o30), some (.ref o40), some (.int (nI i)), y5, y6] []) : V X RL cL_law 7 (some .boolean) n1 n2 ad w 198 [some (.ref b), some (.ref o0), some (.ref o30), some (.ref o40), some (.int (nI i)), x5, x6] [] := by
  obtain ⟨h0, h30, h40, sc, ar, tau, js, mo, cp, cn, al, q3, pa, pn, N, f, hMI, hJ, hZ, rfl⟩ := hI
  have hI0 := hMI.th 0
  refine v_aload_n dL_law_198 rfl ?_
  refine v_arg (k := 1) hB hX hL hi (by decide) (by decide) rfl rfl dL_law_199 dL_law_200 dL_law_202 dL_law_203 dL_law_204 ?_
  refine v_arg (k := 2) hB hX hL hi (by decide) (by decide) rfl rfl dL_law_205 dL_law_206 dL_law_208 dL_law_209 dL_law_210 ?_
  refine lc_C (S := s_set (xs (i + 1)) (xs (i + 2)) (upd sc 0 0) ar) [.int (xs (i + 1)), .int (xs (i + 2))] hB k_L_28 (zM.mono (pX9_set hI0 hJ) (clP_of2 (S := s_set (xs (i + 1)) (xs (i + 2)) (upd sc 0 0) ar) hI0 hJ hZ (kp_set _ _ _ _))) rfl h0 h30 h40 rfl (by decide) (by decide) ⟨by decide, by decide⟩ hn (Nat.le_of_ble_eq_true rfl) dL_law_211 (fun ad2 w2 hLM => ?_)
  refine v_aload_n dL_law_214 rfl ?_
  refine v_arg (k := 1) hB hX hL hi (by decide) (by decide) rfl rfl dL_law_215 dL_law_216 dL_law_218 dL_law_219 dL_law_220 ?_
  refine v_arg (k := 2) hB hX hL hi (by decide) (by decide) rfl rfl dL_law_221 dL_law_222 dL_law_224 dL_law_225 dL_law_226 ?_
  refine lc_M [.int (xs (i + 1)), .int (xs (i + 2))] hB k_L_32 (zM.mono (cM_set hI0.MN) (sP_of (S := s_set (xs (i + 1)) (xs (i + 2)) (upd sc 0 0) ar))) hLM (mk_set _ _ hI0) rfl rfl (by decide) (by decide) hn (Nat.le_of_ble_eq_true rfl) dL_law_227 (fun w3 hLI => ?_)
  exact v_icmp_eq (tgt := 962) dL_law_230 (by decide) (fun _ => hk ad2 w3 _ _ hLI) (fun h => absurd rfl h)
set_option maxHeartbeats 4000000 in
set_option maxRecDepth 100000 in
theorem lc_3 {X : zX} {l : Launch} {D : va_G} {cy : Nat → ClassId} {s0 : State} {b L i n1 n2 o0 o30 o40 : Nat} {xs : Nat → Int32} {ad : zA} {w : zW} {x5 x6 : Option Value} (hB : zBg X l D cy s0 room_1) (hG : zG s0) (hX : va_X b L xs s0 s0.heap) (hL : L ≤ 3072) (hi : i + 6 ≤ L) (hn : n1 + 4 ≤ 601024 ∧ n2 + 640 ≤ 7293034) (hI : LI s0 cy o0 o30 o40 ad w) (hk : ∀ (ad2 : zA) (w2 : zW) (y5 y6 : Option Value), LI s0 cy o0 o30 o40 ad2 w2 → V X RL cL_law 7 (some .boolean) (n1 + 4) (n2 + 640) ad2 w2 962 [some (.ref b), some (.ref o0), some (.ref o30), some (.ref o40), some (.int (nI i)), y5, y6] []) : V X RL cL_law 7 (some .boolean) n1 n2 ad w 235 [some (.ref b), some (.ref o0), some (.ref o30), some (.ref o40), some (.int (nI i)), x5, x6] [] := by
  obtain ⟨h0, h30, h40, sc, ar, tau, js, mo, cp, cn, al, q3, pa, pn, N, f, hMI, hJ, hZ, rfl⟩ := hI
  have hI0 := hMI.th 0
  refine v_aload_n dL_law_235 rfl ?_
  refine v_arg (k := 1) hB hX hL hi (by decide) (by decide) rfl rfl dL_law_236 dL_law_237 dL_law_239 dL_law_240 dL_law_241 ?_
  refine v_arg (k := 2) hB hX hL hi (by decide) (by decide) rfl rfl dL_law_242 dL_law_243 dL_law_245 dL_law_246 dL_law_247 ?_
  refine lc_C (S := s_price (xs (i + 1)) (xs (i + 2)) (upd sc 0 0) ar) [.int (xs (i + 1)), .int (xs (i + 2))] hB k_L_33 (zM.mono (pX9_price hI0 hJ) (clP_of2 (S := s_price (xs (i + 1)) (xs (i + 2)) (upd sc 0 0) ar) hI0 hJ hZ (kp_price _ _ _ _))) rfl h0 h30 h40 rfl (by decide) (by decide) ⟨by decide, by decide⟩ hn (Nat.le_of_ble_eq_true rfl) dL_law_248 (fun ad2 w2 hLM => ?_)
  refine v_aload_n dL_law_251 rfl ?_
  refine v_arg (k := 1) hB hX hL hi (by decide) (by decide) rfl rfl dL_law_252 dL_law_253 dL_law_255 dL_law_256 dL_law_257 ?_
  refine v_arg (k := 2) hB hX hL hi (by decide) (by decide) rfl rfl dL_law_258 dL_law_259 dL_law_261 dL_law_262 dL_law_263 ?_
  refine lc_M [.int (xs (i + 1)), .int (xs (i + 2))] hB k_L_36 (zM.mono (cM_price hI0.MN) (sP_of (S := s_price (xs (i + 1)) (xs (i + 2)) (upd sc 0 0) ar))) hLM (mk_price _ _ hI0) rfl rfl (by decide) (by decide) hn (Nat.le_of_ble_eq_true rfl) dL_law_264 (fun w3 hLI => ?_)
  exact v_icmp_eq (tgt := 962) dL_law_267 (by decide) (fun _ => hk ad2 w3 _ _ hLI) (fun h => absurd rfl h)
set_option maxHeartbeats 4000000 in
set_option maxRecDepth 100000 in
theorem lc_4 {X : zX} {l : Launch} {D : va_G} {cy : Nat → ClassId} {s0 : State} {b L i n1 n2 o0 o30 o40 : Nat} {xs : Nat → Int32} {ad : zA} {w : zW} {x5 x6 : Option Value} (hB : zBg X l D cy s0 room_1) (hG : zG s0) (hX : va_X b L xs s0 s0.heap) (hL : L ≤ 3072) (hi : i + 6 ≤ L) (hn : n1 + 4 ≤ 601024 ∧ n2 + 640 ≤ 7293034) (hI : LI s0 cy o0 o30 o40 ad w) (hk : ∀ (ad2 : zA) (w2 : zW) (y5 y6 : Option Value), LI s0 cy o0 o30 o40 ad2 w2 → V X RL cL_law 7 (some .boolean) (n1 + 4) (n2 + 640) ad2 w2 962 [some (.ref b), some (.ref o0), some (.ref o30), some (.ref o40), some (.int (nI i)), y5, y6] []) : V X RL cL_law 7 (some .boolean) n1 n2 ad w 272 [some (.ref b), some (.ref o0), some (.ref o30), some (.ref o40), some (.int (nI i)), x5, x6] [] := by
  obtain ⟨h0, h30, h40, sc, ar, tau, js, mo, cp, cn, al, q3, pa, pn, N, f, hMI, hJ, hZ, rfl⟩ := hI
  have hI0 := hMI.th 0
  by_cases hz : xs (i + 2) = 0
  · refine v_aload_n dL_law_272 rfl ?_
    refine v_arg (k := 1) hB hX hL hi (by decide) (by decide) rfl rfl dL_law_273 dL_law_274 dL_law_276 dL_law_277 dL_law_278 ?_
    refine v_arg (k := 2) hB hX hL hi (by decide) (by decide) rfl rfl dL_law_279 dL_law_280 dL_law_282 dL_law_283 dL_law_284 ?_
    refine v_if_eq (tgt := 292) dL_law_285 (by decide) (fun _ => ?_) (fun h => absurd hz h)
    refine v_iconst_v (v := 0) dL_law_292 (by decide) ?_
    refine lc_C (S := s_rain (xs (i + 1)) 0 (upd sc 0 0) ar) [.int (xs (i + 1)), .int 0] hB k_L_37 (zM.mono (pX9_rain hI0 hJ (by decide)) (clP_of2 (S := s_rain (xs (i + 1)) 0 (upd sc 0 0) ar) hI0 hJ hZ (kp_rain _ _ _ _))) rfl h0 h30 h40 rfl (by decide) (by decide) ⟨by decide, by decide⟩ hn (Nat.le_of_ble_eq_true rfl) dL_law_293 (fun ad2 w2 hLM => ?_)
    refine v_aload_n dL_law_296 rfl ?_
    refine v_arg (k := 1) hB hX hL hi (by decide) (by decide) rfl rfl dL_law_297 dL_law_298 dL_law_300 dL_law_301 dL_law_302 ?_
    refine v_arg (k := 2) hB hX hL hi (by decide) (by decide) rfl rfl dL_law_303 dL_law_304 dL_law_306 dL_law_307 dL_law_308 ?_
    refine v_if_eq (tgt := 316) dL_law_309 (by decide) (fun _ => ?_) (fun h => absurd hz h)
    refine v_iconst_v (v := 0) dL_law_316 (by decide) ?_
    refine lc_M [.int (xs (i + 1)), .int 0] hB k_L_41 (zM.mono (cM_rain hI0.MN (by decide)) (sP_of (S := s_rain (xs (i + 1)) 0 (upd sc 0 0) ar))) hLM (mk_rain _ _ hI0) rfl rfl (by decide) (by decide) hn (Nat.le_of_ble_eq_true rfl) dL_law_317 (fun w3 hLI => ?_)
    exact v_icmp_eq (tgt := 962) dL_law_320 (by decide) (fun _ => hk ad2 w3 _ _ hLI) (fun h => absurd rfl h)
  · refine v_aload_n dL_law_272 rfl ?_
    refine v_arg (k := 1) hB hX hL hi (by decide) (by decide) rfl rfl dL_law_273 dL_law_274 dL_law_276 dL_law_277 dL_law_278 ?_
    refine v_arg (k := 2) hB hX hL hi (by decide) (by decide) rfl rfl dL_law_279 dL_law_280 dL_law_282 dL_law_283 dL_law_284 ?_
    refine v_if_eq (tgt := 292) dL_law_285 (by decide) (fun h => absurd h hz) (fun _ => ?_)
    refine v_iconst_v (v := 1) dL_law_288 (by decide) ?_
    refine v_goto (tgt := 293) dL_law_289 (by decide) ?_
    refine lc_C (S := s_rain (xs (i + 1)) 1 (upd sc 0 0) ar) [.int (xs (i + 1)), .int 1] hB k_L_37 (zM.mono (pX9_rain hI0 hJ (by decide)) (clP_of2 (S := s_rain (xs (i + 1)) 1 (upd sc 0 0) ar) hI0 hJ hZ (kp_rain _ _ _ _))) rfl h0 h30 h40 rfl (by decide) (by decide) ⟨by decide, by decide⟩ hn (Nat.le_of_ble_eq_true rfl) dL_law_293 (fun ad2 w2 hLM => ?_)
    refine v_aload_n dL_law_296 rfl ?_
    refine v_arg (k := 1) hB hX hL hi (by decide) (by decide) rfl rfl dL_law_297 dL_law_298 dL_law_300 dL_law_301 dL_law_302 ?_
    refine v_arg (k := 2) hB hX hL hi (by decide) (by decide) rfl rfl dL_law_303 dL_law_304 dL_law_306 dL_law_307 dL_law_308 ?_
    refine v_if_eq (tgt := 316) dL_law_309 (by decide) (fun h => absurd h hz) (fun _ => ?_)
    refine v_iconst_v (v := 1) dL_law_312 (by decide) ?_
    refine v_goto (tgt := 317) dL_law_313 (by decide) ?_
    refine lc_M [.int (xs (i + 1)), .int 1] hB k_L_41 (zM.mono (cM_rain hI0.MN (by decide)) (sP_of (S := s_rain (xs (i + 1)) 1 (upd sc 0 0) ar))) hLM (mk_rain _ _ hI0) rfl rfl (by decide) (by decide) hn (Nat.le_of_ble_eq_true rfl) dL_law_317 (fun w3 hLI => ?_)
    exact v_icmp_eq (tgt := 962) dL_law_320 (by decide) (fun _ => hk ad2 w3 _ _ hLI) (fun h => absurd rfl h)
set_option maxHeartbeats 4000000 in
set_option maxRecDepth 100000 in
theorem lc_5 {X : zX} {l : Launch} {D : va_G} {cy : Nat → ClassId} {s0 : State} {b L i n1 n2 o0 o30 o40 : Nat} {xs : Nat → Int32} {ad : zA} {w : zW} {x5 x6 : Option Value} (hB : zBg X l D cy s0 room_1) (hG : zG s0) (hX : va_X b L xs s0 s0.heap) (hL : L ≤ 3072) (hi : i + 6 ≤ L) (hn : n1 + 4 ≤ 601024 ∧ n2 + 640 ≤ 7293034) (hI : LI s0 cy o0 o30 o40 ad w) (hk : ∀ (ad2 : zA) (w2 : zW) (y5 y6 : Option Value), LI s0 cy o0 o30 o40 ad2 w2 → V X RL cL_law 7 (some .boolean) (n1 + 4) (n2 + 640) ad2 w2 962 [some (.ref b), some (.ref o0), some (.ref o30), some (.ref o40), some (.int (nI i)), y5, y6] []) : V X RL cL_law 7 (some .boolean) n1 n2 ad w 325 [some (.ref b), some (.ref o0), some (.ref o30), some (.ref o40), some (.int (nI i)), x5, x6] [] := by
  obtain ⟨h0, h30, h40, sc, ar, tau, js, mo, cp, cn, al, q3, pa, pn, N, f, hMI, hJ, hZ, rfl⟩ := hI
  have hI0 := hMI.th 0
  refine v_aload_n dL_law_325 rfl ?_
  refine v_arg (k := 1) hB hX hL hi (by decide) (by decide) rfl rfl dL_law_326 dL_law_327 dL_law_329 dL_law_330 dL_law_331 ?_
  refine v_arg (k := 2) hB hX hL hi (by decide) (by decide) rfl rfl dL_law_332 dL_law_333 dL_law_335 dL_law_336 dL_law_337 ?_
  refine v_arg (k := 3) hB hX hL hi (by decide) (by decide) rfl rfl dL_law_338 dL_law_339 dL_law_341 dL_law_342 dL_law_343 ?_
  refine v_arg (k := 4) hB hX hL hi (by decide) (by decide) rfl rfl dL_law_344 dL_law_345 dL_law_347 dL_law_348 dL_law_349 ?_
  refine v_arg (k := 5) hB hX hL hi (by decide) (by decide) rfl rfl dL_law_350 dL_law_351 dL_law_353 dL_law_354 dL_law_355 ?_
  refine lc_C (S := s_cut (xs (i + 1)) (xs (i + 2)) (xs (i + 3)) (xs (i + 4)) (xs (i + 5)) (upd sc 0 0) ar) [.int (xs (i + 1)), .int (xs (i + 2)), .int (xs (i + 3)), .int (xs (i + 4)), .int (xs (i + 5))] hB k_L_42 (pX9_cut hI0 hJ hG hZ) rfl h0 h30 h40 rfl (by decide) (by decide) ⟨by decide, by decide⟩ hn (Nat.le_of_ble_eq_true rfl) dL_law_356 (fun ad2 w2 hLM => ?_)
  refine v_aload_n dL_law_359 rfl ?_
  refine v_arg (k := 1) hB hX hL hi (by decide) (by decide) rfl rfl dL_law_360 dL_law_361 dL_law_363 dL_law_364 dL_law_365 ?_
  refine v_arg (k := 2) hB hX hL hi (by decide) (by decide) rfl rfl dL_law_366 dL_law_367 dL_law_369 dL_law_370 dL_law_371 ?_
  refine v_arg (k := 3) hB hX hL hi (by decide) (by decide) rfl rfl dL_law_372 dL_law_373 dL_law_375 dL_law_376 dL_law_377 ?_
  refine v_arg (k := 4) hB hX hL hi (by decide) (by decide) rfl rfl dL_law_378 dL_law_379 dL_law_381 dL_law_382 dL_law_383 ?_
  refine v_arg (k := 5) hB hX hL hi (by decide) (by decide) rfl rfl dL_law_384 dL_law_385 dL_law_387 dL_law_388 dL_law_389 ?_
  refine lc_M [.int (xs (i + 1)), .int (xs (i + 2)), .int (xs (i + 3)), .int (xs (i + 4)), .int (xs (i + 5))] hB k_L_46 (zM.mono (cM_cut hI0.MN) (sP_of (S := s_cut (xs (i + 1)) (xs (i + 2)) (xs (i + 3)) (xs (i + 4)) (xs (i + 5)) (upd sc 0 0) ar))) hLM (mk_cut _ _ _ _ _ hI0) rfl rfl (by decide) (by decide) hn (Nat.le_of_ble_eq_true rfl) dL_law_390 (fun w3 hLI => ?_)
  exact v_icmp_eq (tgt := 962) dL_law_393 (by decide) (fun _ => hk ad2 w3 _ _ hLI) (fun h => absurd rfl h)
set_option maxHeartbeats 4000000 in
set_option maxRecDepth 100000 in
theorem lc_6 {X : zX} {l : Launch} {D : va_G} {cy : Nat → ClassId} {s0 : State} {b L i n1 n2 o0 o30 o40 : Nat} {xs : Nat → Int32} {ad : zA} {w : zW} {x5 x6 : Option Value} (hB : zBg X l D cy s0 room_1) (hG : zG s0) (hX : va_X b L xs s0 s0.heap) (hL : L ≤ 3072) (hi : i + 6 ≤ L) (hn : n1 + 4 ≤ 601024 ∧ n2 + 640 ≤ 7293034) (hI : LI s0 cy o0 o30 o40 ad w) (hk : ∀ (ad2 : zA) (w2 : zW) (y5 y6 : Option Value), LI s0 cy o0 o30 o40 ad2 w2 → V X RL cL_law 7 (some .boolean) (n1 + 4) (n2 + 640) ad2 w2 962 [some (.ref b), some (.ref o0), some (.ref o30), some (.ref o40), some (.int (nI i)), y5, y6] []) : V X RL cL_law 7 (some .boolean) n1 n2 ad w 398 [some (.ref b), some (.ref o0), some (.ref o30), some (.ref o40), some (.int (nI i)), x5, x6] [] := by
  obtain ⟨h0, h30, h40, sc, ar, tau, js, mo, cp, cn, al, q3, pa, pn, N, f, hMI, hJ, hZ, rfl⟩ := hI
  have hI0 := hMI.th 0
  refine v_aload_n dL_law_398 rfl ?_
  refine v_arg (k := 1) hB hX hL hi (by decide) (by decide) rfl rfl dL_law_399 dL_law_400 dL_law_402 dL_law_403 dL_law_404 ?_
  refine lc_C (S := s_pass (xs (i + 1)) (upd sc 0 0) ar) [.int (xs (i + 1))] hB k_L_47 (zM.mono (pX9_pass hI0 hJ) (clP_of2 (S := s_pass (xs (i + 1)) (upd sc 0 0) ar) hI0 hJ hZ (kp_pass _ _ _))) rfl h0 h30 h40 rfl (by decide) (by decide) ⟨by decide, by decide⟩ hn (Nat.le_of_ble_eq_true rfl) dL_law_405 (fun ad2 w2 hLM => ?_)
  refine v_aload_n dL_law_408 rfl ?_
  refine v_arg (k := 1) hB hX hL hi (by decide) (by decide) rfl rfl dL_law_409 dL_law_410 dL_law_412 dL_law_413 dL_law_414 ?_
  refine lc_M [.int (xs (i + 1))] hB k_L_50 (zM.mono (cM_pass hI0) (sP_of (S := s_pass (xs (i + 1)) (upd sc 0 0) ar))) hLM (mk_pass _ hI0) rfl rfl (by decide) (by decide) hn (Nat.le_of_ble_eq_true rfl) dL_law_415 (fun w3 hLI => ?_)
  exact v_icmp_eq (tgt := 962) dL_law_418 (by decide) (fun _ => hk ad2 w3 _ _ hLI) (fun h => absurd rfl h)
set_option maxHeartbeats 4000000 in
set_option maxRecDepth 100000 in
theorem lc_7 {X : zX} {l : Launch} {D : va_G} {cy : Nat → ClassId} {s0 : State} {b L i n1 n2 o0 o30 o40 : Nat} {xs : Nat → Int32} {ad : zA} {w : zW} {x5 x6 : Option Value} (hB : zBg X l D cy s0 room_1) (hG : zG s0) (hX : va_X b L xs s0 s0.heap) (hL : L ≤ 3072) (hi : i + 6 ≤ L) (hn : n1 + 4 ≤ 601024 ∧ n2 + 640 ≤ 7293034) (hI : LI s0 cy o0 o30 o40 ad w) (hk : ∀ (ad2 : zA) (w2 : zW) (y5 y6 : Option Value), LI s0 cy o0 o30 o40 ad2 w2 → V X RL cL_law 7 (some .boolean) (n1 + 4) (n2 + 640) ad2 w2 962 [some (.ref b), some (.ref o0), some (.ref o30), some (.ref o40), some (.int (nI i)), y5, y6] []) : V X RL cL_law 7 (some .boolean) n1 n2 ad w 423 [some (.ref b), some (.ref o0), some (.ref o30), some (.ref o40), some (.int (nI i)), x5, x6] [] := by
  obtain ⟨h0, h30, h40, sc, ar, tau, js, mo, cp, cn, al, q3, pa, pn, N, f, hMI, hJ, hZ, rfl⟩ := hI
  have hI0 := hMI.th 0
  refine v_aload_n dL_law_423 rfl ?_
  refine v_arg (k := 1) hB hX hL hi (by decide) (by decide) rfl rfl dL_law_424 dL_law_425 dL_law_427 dL_law_428 dL_law_429 ?_
  refine v_arg (k := 2) hB hX hL hi (by decide) (by decide) rfl rfl dL_law_430 dL_law_431 dL_law_433 dL_law_434 dL_law_435 ?_
  refine lc_C (S := (v_strip (xs (i + 1)) (xs (i + 2)) (upd sc 0 0) ar, upd sc 0 0, ar)) [.int (xs (i + 1)), .int (xs (i + 2))] hB k_L_51 (zM.mono (pX9_strip hI0 hJ) (clP_of2 (S := (v_strip (xs (i + 1)) (xs (i + 2)) (upd sc 0 0) ar, upd sc 0 0, ar)) hI0 hJ hZ (kp_q _ _ _))) rfl h0 h30 h40 rfl (by decide) (by decide) ⟨by decide, by decide⟩ hn (Nat.le_of_ble_eq_true rfl) dL_law_436 (fun ad2 w2 hLM => ?_)
  refine v_aload_n dL_law_439 rfl ?_
  refine v_arg (k := 1) hB hX hL hi (by decide) (by decide) rfl rfl dL_law_440 dL_law_441 dL_law_443 dL_law_444 dL_law_445 ?_
  refine v_arg (k := 2) hB hX hL hi (by decide) (by decide) rfl rfl dL_law_446 dL_law_447 dL_law_449 dL_law_450 dL_law_451 ?_
  refine lc_M [.int (xs (i + 1)), .int (xs (i + 2))] hB k_L_54 (zM.mono (cM_strip hI0) (sP_of (S := (v_strip (xs (i + 1)) (xs (i + 2)) (upd sc 0 0) ar, upd sc 0 0, ar)))) hLM ⟨N, hI0⟩ rfl rfl (by decide) (by decide) hn (Nat.le_of_ble_eq_true rfl) dL_law_452 (fun w3 hLI => ?_)
  exact v_icmp_eq (tgt := 962) dL_law_455 (by decide) (fun _ => hk ad2 w3 _ _ hLI) (fun h => absurd rfl h)
set_option maxHeartbeats 4000000 in
set_option maxRecDepth 100000 in
theorem lc_8 {X : zX} {l : Launch} {D : va_G} {cy : Nat → ClassId} {s0 : State} {b L i n1 n2 o0 o30 o40 : Nat} {xs : Nat → Int32} {ad : zA} {w : zW} {x5 x6 : Option Value} (hB : zBg X l D cy s0 room_1) (hG : zG s0) (hX : va_X b L xs s0 s0.heap) (hL : L ≤ 3072) (hi : i + 6 ≤ L) (hn : n1 + 4 ≤ 601024 ∧ n2 + 640 ≤ 7293034) (hI : LI s0 cy o0 o30 o40 ad w) (hk : ∀ (ad2 : zA) (w2 : zW) (y5 y6 : Option Value), LI s0 cy o0 o30 o40 ad2 w2 → V X RL cL_law 7 (some .boolean) (n1 + 4) (n2 + 640) ad2 w2 962 [some (.ref b), some (.ref o0), some (.ref o30), some (.ref o40), some (.int (nI i)), y5, y6] []) : V X RL cL_law 7 (some .boolean) n1 n2 ad w 460 [some (.ref b), some (.ref o0), some (.ref o30), some (.ref o40), some (.int (nI i)), x5, x6] [] := by
  obtain ⟨h0, h30, h40, sc, ar, tau, js, mo, cp, cn, al, q3, pa, pn, N, f, hMI, hJ, hZ, rfl⟩ := hI
  have hI0 := hMI.th 0
  refine v_aload_n dL_law_460 rfl ?_
  refine v_arg (k := 1) hB hX hL hi (by decide) (by decide) rfl rfl dL_law_461 dL_law_462 dL_law_464 dL_law_465 dL_law_466 ?_
  refine lc_C (S := (v_ready (xs (i + 1)) (upd sc 0 0) ar, upd sc 0 0, ar)) [.int (xs (i + 1))] hB k_L_55 (zM.mono (pX9_ready hI0 hJ) (clP_of2 (S := (v_ready (xs (i + 1)) (upd sc 0 0) ar, upd sc 0 0, ar)) hI0 hJ hZ (kp_q _ _ _))) rfl h0 h30 h40 rfl (by decide) (by decide) ⟨by decide, by decide⟩ hn (Nat.le_of_ble_eq_true rfl) dL_law_467 (fun ad2 w2 hLM => ?_)
  refine v_aload_n dL_law_470 rfl ?_
  refine v_arg (k := 1) hB hX hL hi (by decide) (by decide) rfl rfl dL_law_471 dL_law_472 dL_law_474 dL_law_475 dL_law_476 ?_
  refine lc_M [.int (xs (i + 1))] hB k_L_58 (zM.mono (cM_ready hI0) (sP_of (S := (v_ready (xs (i + 1)) (upd sc 0 0) ar, upd sc 0 0, ar)))) hLM ⟨N, hI0⟩ rfl rfl (by decide) (by decide) hn (Nat.le_of_ble_eq_true rfl) dL_law_477 (fun w3 hLI => ?_)
  exact v_icmp_eq (tgt := 962) dL_law_480 (by decide) (fun _ => hk ad2 w3 _ _ hLI) (fun h => absurd rfl h)
set_option maxHeartbeats 4000000 in
set_option maxRecDepth 100000 in
theorem lc_9 {X : zX} {l : Launch} {D : va_G} {cy : Nat → ClassId} {s0 : State} {b L i n1 n2 o0 o30 o40 : Nat} {xs : Nat → Int32} {ad : zA} {w : zW} {x5 x6 : Option Value} (hB : zBg X l D cy s0 room_1) (hG : zG s0) (hX : va_X b L xs s0 s0.heap) (hL : L ≤ 3072) (hi : i + 6 ≤ L) (hn : n1 + 4 ≤ 601024 ∧ n2 + 640 ≤ 7293034) (hI : LI s0 cy o0 o30 o40 ad w) (hk : ∀ (ad2 : zA) (w2 : zW) (y5 y6 : Option Value), LI s0 cy o0 o30 o40 ad2 w2 → V X RL cL_law 7 (some .boolean) (n1 + 4) (n2 + 640) ad2 w2 962 [some (.ref b), some (.ref o0), some (.ref o30), some (.ref o40), some (.int (nI i)), y5, y6] []) : V X RL cL_law 7 (some .boolean) n1 n2 ad w 485 [some (.ref b), some (.ref o0), some (.ref o30), some (.ref o40), some (.int (nI i)), x5, x6] [] := by
  obtain ⟨h0, h30, h40, sc, ar, tau, js, mo, cp, cn, al, q3, pa, pn, N, f, hMI, hJ, hZ, rfl⟩ := hI
  have hI0 := hMI.th 0
  refine v_aload_n dL_law_485 rfl ?_
  refine v_arg (k := 1) hB hX hL hi (by decide) (by decide) rfl rfl dL_law_486 dL_law_487 dL_law_489 dL_law_490 dL_law_491 ?_
  refine lc_C (S := (v_dryOn (xs (i + 1)) (upd sc 0 0) ar, upd sc 0 0, ar)) [.int (xs (i + 1))] hB k_L_59 (zM.mono (pX9_dryOn hI0 hJ) (clP_of2 (S := (v_dryOn (xs (i + 1)) (upd sc 0 0) ar, upd sc 0 0, ar)) hI0 hJ hZ (kp_q _ _ _))) rfl h0 h30 h40 rfl (by decide) (by decide) ⟨by decide, by decide⟩ hn (Nat.le_of_ble_eq_true rfl) dL_law_492 (fun ad2 w2 hLM => ?_)
  refine v_aload_n dL_law_495 rfl ?_
  refine v_arg (k := 1) hB hX hL hi (by decide) (by decide) rfl rfl dL_law_496 dL_law_497 dL_law_499 dL_law_500 dL_law_501 ?_
  refine lc_M [.int (xs (i + 1))] hB k_L_62 (zM.mono (cM_dryOn hI0) (sP_of (S := (v_dryOn (xs (i + 1)) (upd sc 0 0) ar, upd sc 0 0, ar)))) hLM ⟨N, hI0⟩ rfl rfl (by decide) (by decide) hn (Nat.le_of_ble_eq_true rfl) dL_law_502 (fun w3 hLI => ?_)
  exact v_icmp_eq (tgt := 962) dL_law_505 (by decide) (fun _ => hk ad2 w3 _ _ hLI) (fun h => absurd rfl h)
set_option maxHeartbeats 4000000 in
set_option maxRecDepth 100000 in
theorem lc_10 {X : zX} {l : Launch} {D : va_G} {cy : Nat → ClassId} {s0 : State} {b L i n1 n2 o0 o30 o40 : Nat} {xs : Nat → Int32} {ad : zA} {w : zW} {x5 x6 : Option Value} (hB : zBg X l D cy s0 room_1) (hG : zG s0) (hX : va_X b L xs s0 s0.heap) (hL : L ≤ 3072) (hi : i + 6 ≤ L) (hn : n1 + 4 ≤ 601024 ∧ n2 + 640 ≤ 7293034) (hI : LI s0 cy o0 o30 o40 ad w) (hk : ∀ (ad2 : zA) (w2 : zW) (y5 y6 : Option Value), LI s0 cy o0 o30 o40 ad2 w2 → V X RL cL_law 7 (some .boolean) (n1 + 4) (n2 + 640) ad2 w2 962 [some (.ref b), some (.ref o0), some (.ref o30), some (.ref o40), some (.int (nI i)), y5, y6] []) : V X RL cL_law 7 (some .boolean) n1 n2 ad w 510 [some (.ref b), some (.ref o0), some (.ref o30), some (.ref o40), some (.int (nI i)), x5, x6] [] := by
  obtain ⟨h0, h30, h40, sc, ar, tau, js, mo, cp, cn, al, q3, pa, pn, N, f, hMI, hJ, hZ, rfl⟩ := hI
  have hI0 := hMI.th 0
  refine v_aload_n dL_law_510 rfl ?_
  refine v_arg (k := 1) hB hX hL hi (by decide) (by decide) rfl rfl dL_law_511 dL_law_512 dL_law_514 dL_law_515 dL_law_516 ?_
  refine lc_C (S := s_join (xs (i + 1)) (upd sc 0 0) ar) [.int (xs (i + 1))] hB k_L_63 (pX9_join hI0 hJ hG hZ) rfl h0 h30 h40 rfl (by decide) (by decide) ⟨by decide, by decide⟩ hn (Nat.le_of_ble_eq_true rfl) dL_law_517 (fun ad2 w2 hLM => ?_)
  refine v_aload_n dL_law_520 rfl ?_
  refine v_arg (k := 1) hB hX hL hi (by decide) (by decide) rfl rfl dL_law_521 dL_law_522 dL_law_524 dL_law_525 dL_law_526 ?_
  refine lc_M [.int (xs (i + 1))] hB k_L_66 (cM_join hI0) hLM (mk_join _ hI0) rfl rfl (by decide) (by decide) hn (Nat.le_of_ble_eq_true rfl) dL_law_527 (fun w3 hLI => ?_)
  exact v_icmp_eq (tgt := 962) dL_law_530 (by decide) (fun _ => hk ad2 w3 _ _ hLI) (fun h => absurd rfl h)
set_option maxHeartbeats 4000000 in
set_option maxRecDepth 100000 in
theorem lc_11 {X : zX} {l : Launch} {D : va_G} {cy : Nat → ClassId} {s0 : State} {b L i n1 n2 o0 o30 o40 : Nat} {xs : Nat → Int32} {ad : zA} {w : zW} {x5 x6 : Option Value} (hB : zBg X l D cy s0 room_1) (hG : zG s0) (hX : va_X b L xs s0 s0.heap) (hL : L ≤ 3072) (hi : i + 6 ≤ L) (hn : n1 + 4 ≤ 601024 ∧ n2 + 640 ≤ 7293034) (hI : LI s0 cy o0 o30 o40 ad w) (hk : ∀ (ad2 : zA) (w2 : zW) (y5 y6 : Option Value), LI s0 cy o0 o30 o40 ad2 w2 → V X RL cL_law 7 (some .boolean) (n1 + 4) (n2 + 640) ad2 w2 962 [some (.ref b), some (.ref o0), some (.ref o30), some (.ref o40), some (.int (nI i)), y5, y6] []) : V X RL cL_law 7 (some .boolean) n1 n2 ad w 535 [some (.ref b), some (.ref o0), some (.ref o30), some (.ref o40), some (.int (nI i)), x5, x6] [] := by
  obtain ⟨h0, h30, h40, sc, ar, tau, js, mo, cp, cn, al, q3, pa, pn, N, f, hMI, hJ, hZ, rfl⟩ := hI
  have hI0 := hMI.th 0
  refine v_aload_n dL_law_535 rfl ?_
  refine v_arg (k := 1) hB hX hL hi (by decide) (by decide) rfl rfl dL_law_536 dL_law_537 dL_law_539 dL_law_540 dL_law_541 ?_
  refine lc_C (S := (v_could (xs (i + 1)) (upd sc 0 0) ar, upd sc 0 0, ar)) [.int (xs (i + 1))] hB k_L_67 (zM.mono (pX9_could hI0 hJ) (clP_of3 (tau := tau) (js := js) (S := (v_could (xs (i + 1)) (upd sc 0 0) ar, upd sc 0 0, ar)) hI0 hJ hZ (kp_q _ _ _))) rfl h0 h30 h40 rfl (by decide) (by decide) ⟨by decide, by decide⟩ hn (Nat.le_of_ble_eq_true rfl) dL_law_542 (fun ad2 w2 hLM => ?_)
  refine v_aload_n dL_law_545 rfl ?_
  refine v_arg (k := 1) hB hX hL hi (by decide) (by decide) rfl rfl dL_law_546 dL_law_547 dL_law_549 dL_law_550 dL_law_551 ?_
  refine lc_M [.int (xs (i + 1))] hB k_L_70 (cM_could hI0) hLM ⟨N, hI0⟩ rfl rfl (by decide) (by decide) hn (Nat.le_of_ble_eq_true rfl) dL_law_552 (fun w3 hLI => ?_)
  exact v_icmp_eq (tgt := 962) dL_law_555 (by decide) (fun _ => hk ad2 w3 _ _ hLI) (fun h => absurd rfl h)
set_option maxHeartbeats 4000000 in
set_option maxRecDepth 100000 in
theorem lc_12 {X : zX} {l : Launch} {D : va_G} {cy : Nat → ClassId} {s0 : State} {b L i n1 n2 o0 o30 o40 : Nat} {xs : Nat → Int32} {ad : zA} {w : zW} {x5 x6 : Option Value} (hB : zBg X l D cy s0 room_1) (hG : zG s0) (hX : va_X b L xs s0 s0.heap) (hL : L ≤ 3072) (hi : i + 6 ≤ L) (hn : n1 + 4 ≤ 601024 ∧ n2 + 640 ≤ 7293034) (hI : LI s0 cy o0 o30 o40 ad w) (hk : ∀ (ad2 : zA) (w2 : zW) (y5 y6 : Option Value), LI s0 cy o0 o30 o40 ad2 w2 → V X RL cL_law 7 (some .boolean) (n1 + 4) (n2 + 640) ad2 w2 962 [some (.ref b), some (.ref o0), some (.ref o30), some (.ref o40), some (.int (nI i)), y5, y6] []) : V X RL cL_law 7 (some .boolean) n1 n2 ad w 560 [some (.ref b), some (.ref o0), some (.ref o30), some (.ref o40), some (.int (nI i)), x5, x6] [] := by
  obtain ⟨h0, h30, h40, sc, ar, tau, js, mo, cp, cn, al, q3, pa, pn, N, f, hMI, hJ, hZ, rfl⟩ := hI
  have hI0 := hMI.th 0
  refine v_aload_n dL_law_560 rfl ?_
  refine v_arg (k := 1) hB hX hL hi (by decide) (by decide) rfl rfl dL_law_561 dL_law_562 dL_law_564 dL_law_565 dL_law_566 ?_
  refine lc_C (S := s_most (xs (i + 1)) (upd sc 0 0) ar) [.int (xs (i + 1))] hB k_L_71 (zM.mono (pX9_most hI0 hJ) (clP_of3 (tau := tau) (js := js) (S := s_most (xs (i + 1)) (upd sc 0 0) ar) hI0 hJ hZ (kp_most _ _ _))) rfl h0 h30 h40 rfl (by decide) (by decide) ⟨by decide, by decide⟩ hn (Nat.le_of_ble_eq_true rfl) dL_law_567 (fun ad2 w2 hLM => ?_)
  refine v_aload_n dL_law_570 rfl ?_
  refine v_arg (k := 1) hB hX hL hi (by decide) (by decide) rfl rfl dL_law_571 dL_law_572 dL_law_574 dL_law_575 dL_law_576 ?_
  refine lc_M [.int (xs (i + 1))] hB k_L_74 (cM_most hI0) hLM (mk_most _ hI0) rfl rfl (by decide) (by decide) hn (Nat.le_of_ble_eq_true rfl) dL_law_577 (fun w3 hLI => ?_)
  exact v_icmp_eq (tgt := 962) dL_law_580 (by decide) (fun _ => hk ad2 w3 _ _ hLI) (fun h => absurd rfl h)
set_option maxHeartbeats 4000000 in
set_option maxRecDepth 100000 in
theorem lc_13 {X : zX} {l : Launch} {D : va_G} {cy : Nat → ClassId} {s0 : State} {b L i n1 n2 o0 o30 o40 : Nat} {xs : Nat → Int32} {ad : zA} {w : zW} {x5 x6 : Option Value} (hB : zBg X l D cy s0 room_1) (hG : zG s0) (hX : va_X b L xs s0 s0.heap) (hL : L ≤ 3072) (hi : i + 6 ≤ L) (hn : n1 + 4 ≤ 601024 ∧ n2 + 640 ≤ 7293034) (hI : LI s0 cy o0 o30 o40 ad w) (hk : ∀ (ad2 : zA) (w2 : zW) (y5 y6 : Option Value), LI s0 cy o0 o30 o40 ad2 w2 → V X RL cL_law 7 (some .boolean) (n1 + 4) (n2 + 640) ad2 w2 962 [some (.ref b), some (.ref o0), some (.ref o30), some (.ref o40), some (.int (nI i)), y5, y6] []) : V X RL cL_law 7 (some .boolean) n1 n2 ad w 585 [some (.ref b), some (.ref o0), some (.ref o30), some (.ref o40), some (.int (nI i)), x5, x6] [] := by
  obtain ⟨h0, h30, h40, sc, ar, tau, js, mo, cp, cn, al, q3, pa, pn, N, f, hMI, hJ, hZ, rfl⟩ := hI
  have hI0 := hMI.th 0
  refine v_aload_n dL_law_585 rfl ?_
  refine v_arg (k := 1) hB hX hL hi (by decide) (by decide) rfl rfl dL_law_586 dL_law_587 dL_law_589 dL_law_590 dL_law_591 ?_
  refine v_arg (k := 2) hB hX hL hi (by decide) (by decide) rfl rfl dL_law_592 dL_law_593 dL_law_595 dL_law_596 dL_law_597 ?_
  refine lc_C (S := (v_quill (xs (i + 1)) (xs (i + 2)) (upd sc 0 0) ar, upd sc 0 0, ar)) [.int (xs (i + 1)), .int (xs (i + 2))] hB k_L_75 (zM.mono (pX9_quill hI0 hJ) (clP_of2 (S := (v_quill (xs (i + 1)) (xs (i + 2)) (upd sc 0 0) ar, upd sc 0 0, ar)) hI0 hJ hZ (kp_q _ _ _))) rfl h0 h30 h40 rfl (by decide) (by decide) ⟨by decide, by decide⟩ hn (Nat.le_of_ble_eq_true rfl) dL_law_598 (fun ad2 w2 hLM => ?_)
  refine v_aload_n dL_law_601 rfl ?_
  refine v_arg (k := 1) hB hX hL hi (by decide) (by decide) rfl rfl dL_law_602 dL_law_603 dL_law_605 dL_law_606 dL_law_607 ?_
  refine v_arg (k := 2) hB hX hL hi (by decide) (by decide) rfl rfl dL_law_608 dL_law_609 dL_law_611 dL_law_612 dL_law_613 ?_
  refine lc_M [.int (xs (i + 1)), .int (xs (i + 2))] hB k_L_78 (zM.mono (cM_quill hI0) (sP_of (S := (v_quill (xs (i + 1)) (xs (i + 2)) (upd sc 0 0) ar, upd sc 0 0, ar)))) hLM ⟨N, hI0⟩ rfl rfl (by decide) (by decide) hn (Nat.le_of_ble_eq_true rfl) dL_law_614 (fun w3 hLI => ?_)
  exact v_icmp_eq (tgt := 962) dL_law_617 (by decide) (fun _ => hk ad2 w3 _ _ hLI) (fun h => absurd rfl h)
set_option maxHeartbeats 4000000 in
set_option maxRecDepth 100000 in
theorem lc_15 {X : zX} {l : Launch} {D : va_G} {cy : Nat → ClassId} {s0 : State} {b L i n1 n2 o0 o30 o40 : Nat} {xs : Nat → Int32} {ad : zA} {w : zW} {x5 x6 : Option Value} (hB : zBg X l D cy s0 room_1) (hG : zG s0) (hX : va_X b L xs s0 s0.heap) (hL : L ≤ 3072) (hi : i + 6 ≤ L) (hn : n1 + 4 ≤ 601024 ∧ n2 + 640 ≤ 7293034) (hI : LI s0 cy o0 o30 o40 ad w) (hk : ∀ (ad2 : zA) (w2 : zW) (y5 y6 : Option Value), LI s0 cy o0 o30 o40 ad2 w2 → V X RL cL_law 7 (some .boolean) (n1 + 4) (n2 + 640) ad2 w2 962 [some (.ref b), some (.ref o0), some (.ref o30), some (.ref o40), some (.int (nI i)), y5, y6] []) : V X RL cL_law 7 (some .boolean) n1 n2 ad w 690 [some (.ref b), some (.ref o0), some (.ref o30), some (.ref o40), some (.int (nI i)), x5, x6] [] := by
  obtain ⟨h0, h30, h40, sc, ar, tau, js, mo, cp, cn, al, q3, pa, pn, N, f, hMI, hJ, hZ, rfl⟩ := hI
  have hI0 := hMI.th 0
  refine v_aload_n dL_law_690 rfl ?_
  refine v_arg (k := 1) hB hX hL hi (by decide) (by decide) rfl rfl dL_law_691 dL_law_692 dL_law_694 dL_law_695 dL_law_696 ?_
  refine v_arg (k := 2) hB hX hL hi (by decide) (by decide) rfl rfl dL_law_697 dL_law_698 dL_law_700 dL_law_701 dL_law_702 ?_
  refine lc_C (S := s_bale (xs (i + 1)) (xs (i + 2)) (upd sc 0 0) ar) [.int (xs (i + 1)), .int (xs (i + 2))] hB k_L_89 (pX9_bale hI0 hJ hG hZ) rfl h0 h30 h40 rfl (by decide) (by decide) ⟨by decide, by decide⟩ hn (Nat.le_of_ble_eq_true rfl) dL_law_703 (fun ad2 w2 hLM => ?_)
  refine v_aload_n dL_law_706 rfl ?_
  refine v_arg (k := 1) hB hX hL hi (by decide) (by decide) rfl rfl dL_law_707 dL_law_708 dL_law_710 dL_law_711 dL_law_712 ?_
  refine v_arg (k := 2) hB hX hL hi (by decide) (by decide) rfl rfl dL_law_713 dL_law_714 dL_law_716 dL_law_717 dL_law_718 ?_
  refine lc_M [.int (xs (i + 1)), .int (xs (i + 2))] hB k_L_92 (zM.mono (cM_bale hI0) (sP_of (S := s_bale (xs (i + 1)) (xs (i + 2)) (upd sc 0 0) ar))) hLM (mk_bale _ _ hI0) rfl rfl (by decide) (by decide) hn (Nat.le_of_ble_eq_true rfl) dL_law_719 (fun w3 hLI => ?_)
  exact v_icmp_eq (tgt := 962) dL_law_722 (by decide) (fun _ => hk ad2 w3 _ _ hLI) (fun h => absurd rfl h)
set_option maxHeartbeats 4000000 in
set_option maxRecDepth 100000 in
theorem lc_16 {X : zX} {l : Launch} {D : va_G} {cy : Nat → ClassId} {s0 : State} {b L i n1 n2 o0 o30 o40 : Nat} {xs : Nat → Int32} {ad : zA} {w : zW} {x5 x6 : Option Value} (hB : zBg X l D cy s0 room_1) (hG : zG s0) (hX : va_X b L xs s0 s0.heap) (hL : L ≤ 3072) (hi : i + 6 ≤ L) (hn : n1 + 4 ≤ 601024 ∧ n2 + 640 ≤ 7293034) (hI : LI s0 cy o0 o30 o40 ad w) (hk : ∀ (ad2 : zA) (w2 : zW) (y5 y6 : Option Value), LI s0 cy o0 o30 o40 ad2 w2 → V X RL cL_law 7 (some .boolean) (n1 + 4) (n2 + 640) ad2 w2 962 [some (.ref b), some (.ref o0), some (.ref o30), some (.ref o40), some (.int (nI i)), y5, y6] []) : V X RL cL_law 7 (some .boolean) n1 n2 ad w 727 [some (.ref b), some (.ref o0), some (.ref o30), some (.ref o40), some (.int (nI i)), x5, x6] [] := by
  obtain ⟨h0, h30, h40, sc, ar, tau, js, mo, cp, cn, al, q3, pa, pn, N, f, hMI, hJ, hZ, rfl⟩ := hI
  have hI0 := hMI.th 0
  refine v_aload_n dL_law_727 rfl ?_
  refine v_arg (k := 1) hB hX hL hi (by decide) (by decide) rfl rfl dL_law_728 dL_law_729 dL_law_731 dL_law_732 dL_law_733 ?_
  refine v_arg (k := 2) hB hX hL hi (by decide) (by decide) rfl rfl dL_law_734 dL_law_735 dL_law_737 dL_law_738 dL_law_739 ?_
  refine lc_C (S := (v_baleOf (xs (i + 1)) (xs (i + 2)) (upd sc 0 0) ar, upd sc 0 0, ar)) [.int (xs (i + 1)), .int (xs (i + 2))] hB k_L_93 (zM.mono (pX9_baleOf hI0 hJ) (clP_of2 (S := (v_baleOf (xs (i + 1)) (xs (i + 2)) (upd sc 0 0) ar, upd sc 0 0, ar)) hI0 hJ hZ (kp_q _ _ _))) rfl h0 h30 h40 rfl (by decide) (by decide) ⟨by decide, by decide⟩ hn (Nat.le_of_ble_eq_true rfl) dL_law_740 (fun ad2 w2 hLM => ?_)
  refine v_aload_n dL_law_743 rfl ?_
  refine v_arg (k := 1) hB hX hL hi (by decide) (by decide) rfl rfl dL_law_744 dL_law_745 dL_law_747 dL_law_748 dL_law_749 ?_
  refine v_arg (k := 2) hB hX hL hi (by decide) (by decide) rfl rfl dL_law_750 dL_law_751 dL_law_753 dL_law_754 dL_law_755 ?_
  refine lc_M [.int (xs (i + 1)), .int (xs (i + 2))] hB k_L_96 (zM.mono (cM_baleOf hI0) (sP_of (S := (v_baleOf (xs (i + 1)) (xs (i + 2)) (upd sc 0 0) ar, upd sc 0 0, ar)))) hLM ⟨N, hI0⟩ rfl rfl (by decide) (by decide) hn (Nat.le_of_ble_eq_true rfl) dL_law_756 (fun w3 hLI => ?_)
  exact v_icmp_eq (tgt := 962) dL_law_759 (by decide) (fun _ => hk ad2 w3 _ _ hLI) (fun h => absurd rfl h)
set_option maxHeartbeats 4000000 in
set_option maxRecDepth 100000 in
theorem lc_17 {X : zX} {l : Launch} {D : va_G} {cy : Nat → ClassId} {s0 : State} {b L i n1 n2 o0 o30 o40 : Nat} {xs : Nat → Int32} {ad : zA} {w : zW} {x5 x6 : Option Value} (hB : zBg X l D cy s0 room_1) (hG : zG s0) (hX : va_X b L xs s0 s0.heap) (hL : L ≤ 3072) (hi : i + 6 ≤ L) (hn : n1 + 4 ≤ 601024 ∧ n2 + 640 ≤ 7293034) (hI : LI s0 cy o0 o30 o40 ad w) (hk : ∀ (ad2 : zA) (w2 : zW) (y5 y6 : Option Value), LI s0 cy o0 o30 o40 ad2 w2 → V X RL cL_law 7 (some .boolean) (n1 + 4) (n2 + 640) ad2 w2 962 [some (.ref b), some (.ref o0), some (.ref o30), some (.ref o40), some (.int (nI i)), y5, y6] []) : V X RL cL_law 7 (some .boolean) n1 n2 ad w 764 [some (.ref b), some (.ref o0), some (.ref o30), some (.ref o40), some (.int (nI i)), x5, x6] [] := by
  obtain ⟨h0, h30, h40, sc, ar, tau, js, mo, cp, cn, al, q3, pa, pn, N, f, hMI, hJ, hZ, rfl⟩ := hI
  have hI0 := hMI.th 0
  refine v_aload_n dL_law_764 rfl ?_
  refine v_arg (k := 1) hB hX hL hi (by decide) (by decide) rfl rfl dL_law_765 dL_law_766 dL_law_768 dL_law_769 dL_law_770 ?_
  refine v_arg (k := 2) hB hX hL hi (by decide) (by decide) rfl rfl dL_law_771 dL_law_772 dL_law_774 dL_law_775 dL_law_776 ?_
  refine lc_C (S := (v_about (xs (i + 1)) (xs (i + 2)) (upd sc 0 0) ar, upd sc 0 0, ar)) [.int (xs (i + 1)), .int (xs (i + 2))] hB k_L_97 (zM.mono (pX9_about hI0 hJ) (clP_of2 (S := (v_about (xs (i + 1)) (xs (i + 2)) (upd sc 0 0) ar, upd sc 0 0, ar)) hI0 hJ hZ (kp_q _ _ _))) rfl h0 h30 h40 rfl (by decide) (by decide) ⟨by decide, by decide⟩ hn (Nat.le_of_ble_eq_true rfl) dL_law_777 (fun ad2 w2 hLM => ?_)
  refine v_aload_n dL_law_780 rfl ?_
  refine v_arg (k := 1) hB hX hL hi (by decide) (by decide) rfl rfl dL_law_781 dL_law_782 dL_law_784 dL_law_785 dL_law_786 ?_
  refine v_arg (k := 2) hB hX hL hi (by decide) (by decide) rfl rfl dL_law_787 dL_law_788 dL_law_790 dL_law_791 dL_law_792 ?_
  refine lc_M [.int (xs (i + 1)), .int (xs (i + 2))] hB k_L_100 (zM.mono (cM_about hI0) (sP_of (S := (v_about (xs (i + 1)) (xs (i + 2)) (upd sc 0 0) ar, upd sc 0 0, ar)))) hLM ⟨N, hI0⟩ rfl rfl (by decide) (by decide) hn (Nat.le_of_ble_eq_true rfl) dL_law_793 (fun w3 hLI => ?_)
  exact v_icmp_eq (tgt := 962) dL_law_796 (by decide) (fun _ => hk ad2 w3 _ _ hLI) (fun h => absurd rfl h)
set_option maxHeartbeats 4000000 in
set_option maxRecDepth 100000 in
theorem lc_18 {X : zX} {l : Launch} {D : va_G} {cy : Nat → ClassId} {s0 : State} {b L i n1 n2 o0 o30 o40 : Nat} {xs : Nat → Int32} {ad : zA} {w : zW} {x5 x6 : Option Value} (hB : zBg X l D cy s0 room_1) (hG : zG s0) (hX : va_X b L xs s0 s0.heap) (hL : L ≤ 3072) (hi : i + 6 ≤ L) (hn : n1 + 4 ≤ 601024 ∧ n2 + 640 ≤ 7293034) (hI : LI s0 cy o0 o30 o40 ad w) (hk : ∀ (ad2 : zA) (w2 : zW) (y5 y6 : Option Value), LI s0 cy o0 o30 o40 ad2 w2 → V X RL cL_law 7 (some .boolean) (n1 + 4) (n2 + 640) ad2 w2 962 [some (.ref b), some (.ref o0), some (.ref o30), some (.ref o40), some (.int (nI i)), y5, y6] []) : V X RL cL_law 7 (some .boolean) n1 n2 ad w 801 [some (.ref b), some (.ref o0), some (.ref o30), some (.ref o40), some (.int (nI i)), x5, x6] [] := by
  obtain ⟨h0, h30, h40, sc, ar, tau, js, mo, cp, cn, al, q3, pa, pn, N, f, hMI, hJ, hZ, rfl⟩ := hI
  have hI0 := hMI.th 0
  refine v_aload_n dL_law_801 rfl ?_
  refine v_arg (k := 1) hB hX hL hi (by decide) (by decide) rfl rfl dL_law_802 dL_law_803 dL_law_805 dL_law_806 dL_law_807 ?_
  refine v_arg (k := 2) hB hX hL hi (by decide) (by decide) rfl rfl dL_law_808 dL_law_809 dL_law_811 dL_law_812 dL_law_813 ?_
  refine lc_C (S := (v_chest (xs (i + 1)) (xs (i + 2)) (upd sc 0 0) ar, upd sc 0 0, ar)) [.int (xs (i + 1)), .int (xs (i + 2))] hB k_L_101 (zM.mono (pX9_chest hI0 hJ) (clP_of2 (S := (v_chest (xs (i + 1)) (xs (i + 2)) (upd sc 0 0) ar, upd sc 0 0, ar)) hI0 hJ hZ (kp_q _ _ _))) rfl h0 h30 h40 rfl (by decide) (by decide) ⟨by decide, by decide⟩ hn (Nat.le_of_ble_eq_true rfl) dL_law_814 (fun ad2 w2 hLM => ?_)
  refine v_aload_n dL_law_817 rfl ?_
  refine v_arg (k := 1) hB hX hL hi (by decide) (by decide) rfl rfl dL_law_818 dL_law_819 dL_law_821 dL_law_822 dL_law_823 ?_
  refine v_arg (k := 2) hB hX hL hi (by decide) (by decide) rfl rfl dL_law_824 dL_law_825 dL_law_827 dL_law_828 dL_law_829 ?_
  refine lc_M [.int (xs (i + 1)), .int (xs (i + 2))] hB k_L_104 (zM.mono (cM_chest hI0) (sP_of (S := (v_chest (xs (i + 1)) (xs (i + 2)) (upd sc 0 0) ar, upd sc 0 0, ar)))) hLM ⟨N, hI0⟩ rfl rfl (by decide) (by decide) hn (Nat.le_of_ble_eq_true rfl) dL_law_830 (fun w3 hLI => ?_)
  exact v_icmp_eq (tgt := 962) dL_law_833 (by decide) (fun _ => hk ad2 w3 _ _ hLI) (fun h => absurd rfl h)
set_option maxHeartbeats 4000000 in
set_option maxRecDepth 100000 in
theorem lc_19 {X : zX} {l : Launch} {D : va_G} {cy : Nat → ClassId} {s0 : State} {b L i n1 n2 o0 o30 o40 : Nat} {xs : Nat → Int32} {ad : zA} {w : zW} {x5 x6 : Option Value} (hB : zBg X l D cy s0 room_1) (hG : zG s0) (hX : va_X b L xs s0 s0.heap) (hL : L ≤ 3072) (hi : i + 6 ≤ L) (hn : n1 + 4 ≤ 601024 ∧ n2 + 640 ≤ 7293034) (hI : LI s0 cy o0 o30 o40 ad w) (hk : ∀ (ad2 : zA) (w2 : zW) (y5 y6 : Option Value), LI s0 cy o0 o30 o40 ad2 w2 → V X RL cL_law 7 (some .boolean) (n1 + 4) (n2 + 640) ad2 w2 962 [some (.ref b), some (.ref o0), some (.ref o30), some (.ref o40), some (.int (nI i)), y5, y6] []) : V X RL cL_law 7 (some .boolean) n1 n2 ad w 838 [some (.ref b), some (.ref o0), some (.ref o30), some (.ref o40), some (.int (nI i)), x5, x6] [] := by
  obtain ⟨h0, h30, h40, sc, ar, tau, js, mo, cp, cn, al, q3, pa, pn, N, f, hMI, hJ, hZ, rfl⟩ := hI
  have hI0 := hMI.th 0
  refine v_aload_n dL_law_838 rfl ?_
  refine v_arg (k := 1) hB hX hL hi (by decide) (by decide) rfl rfl dL_law_839 dL_law_840 dL_law_842 dL_law_843 dL_law_844 ?_
  refine v_arg (k := 2) hB hX hL hi (by decide) (by decide) rfl rfl dL_law_845 dL_law_846 dL_law_848 dL_law_849 dL_law_850 ?_
  refine lc_C (S := (v_share (xs (i + 1)) (xs (i + 2)) (upd sc 0 0) ar, upd sc 0 0, ar)) [.int (xs (i + 1)), .int (xs (i + 2))] hB k_L_105 (zM.mono (pX9_share hI0 hJ) (clP_of2 (S := (v_share (xs (i + 1)) (xs (i + 2)) (upd sc 0 0) ar, upd sc 0 0, ar)) hI0 hJ hZ (kp_q _ _ _))) rfl h0 h30 h40 rfl (by decide) (by decide) ⟨by decide, by decide⟩ hn (Nat.le_of_ble_eq_true rfl) dL_law_851 (fun ad2 w2 hLM => ?_)
  refine v_aload_n dL_law_854 rfl ?_
  refine v_arg (k := 1) hB hX hL hi (by decide) (by decide) rfl rfl dL_law_855 dL_law_856 dL_law_858 dL_law_859 dL_law_860 ?_
  refine v_arg (k := 2) hB hX hL hi (by decide) (by decide) rfl rfl dL_law_861 dL_law_862 dL_law_864 dL_law_865 dL_law_866 ?_
  refine lc_M [.int (xs (i + 1)), .int (xs (i + 2))] hB k_L_108 (zM.mono (cM_share hI0) (sP_of (S := (v_share (xs (i + 1)) (xs (i + 2)) (upd sc 0 0) ar, upd sc 0 0, ar)))) hLM ⟨N, hI0⟩ rfl rfl (by decide) (by decide) hn (Nat.le_of_ble_eq_true rfl) dL_law_867 (fun w3 hLI => ?_)
  exact v_icmp_eq (tgt := 962) dL_law_870 (by decide) (fun _ => hk ad2 w3 _ _ hLI) (fun h => absurd rfl h)
set_option maxHeartbeats 4000000 in
set_option maxRecDepth 100000 in
theorem lc_20 {X : zX} {l : Launch} {D : va_G} {cy : Nat → ClassId} {s0 : State} {b L i n1 n2 o0 o30 o40 : Nat} {xs : Nat → Int32} {ad : zA} {w : zW} {x5 x6 : Option Value} (hB : zBg X l D cy s0 room_1) (hG : zG s0) (hX : va_X b L xs s0 s0.heap) (hL : L ≤ 3072) (hi : i + 6 ≤ L) (hn : n1 + 4 ≤ 601024 ∧ n2 + 640 ≤ 7293034) (hI : LI s0 cy o0 o30 o40 ad w) (hk : ∀ (ad2 : zA) (w2 : zW) (y5 y6 : Option Value), LI s0 cy o0 o30 o40 ad2 w2 → V X RL cL_law 7 (some .boolean) (n1 + 4) (n2 + 640) ad2 w2 962 [some (.ref b), some (.ref o0), some (.ref o30), some (.ref o40), some (.int (nI i)), y5, y6] []) : V X RL cL_law 7 (some .boolean) n1 n2 ad w 875 [some (.ref b), some (.ref o0), some (.ref o30), some (.ref o40), some (.int (nI i)), x5, x6] [] := by
  obtain ⟨h0, h30, h40, sc, ar, tau, js, mo, cp, cn, al, q3, pa, pn, N, f, hMI, hJ, hZ, rfl⟩ := hI
  have hI0 := hMI.th 0
  refine v_aload_n dL_law_875 rfl ?_
  refine v_arg (k := 1) hB hX hL hi (by decide) (by decide) rfl rfl dL_law_876 dL_law_877 dL_law_879 dL_law_880 dL_law_881 ?_
  refine v_arg (k := 2) hB hX hL hi (by decide) (by decide) rfl rfl dL_law_882 dL_law_883 dL_law_885 dL_law_886 dL_law_887 ?_
  refine v_arg (k := 3) hB hX hL hi (by decide) (by decide) rfl rfl dL_law_888 dL_law_889 dL_law_891 dL_law_892 dL_law_893 ?_
  refine lc_C (S := (v_traced (xs (i + 1)) (xs (i + 2)) (xs (i + 3)) (upd sc 0 0) ar, upd sc 0 0, ar)) [.int (xs (i + 1)), .int (xs (i + 2)), .int (xs (i + 3))] hB k_L_109 (zM.mono (pX9_traced hI0 hJ) (clP_of2 (S := (v_traced (xs (i + 1)) (xs (i + 2)) (xs (i + 3)) (upd sc 0 0) ar, upd sc 0 0, ar)) hI0 hJ hZ (kp_q _ _ _))) rfl h0 h30 h40 rfl (by decide) (by decide) ⟨by decide, by decide⟩ hn (Nat.le_of_ble_eq_true rfl) dL_law_894 (fun ad2 w2 hLM => ?_)
  refine v_aload_n dL_law_897 rfl ?_
  refine v_arg (k := 1) hB hX hL hi (by decide) (by decide) rfl rfl dL_law_898 dL_law_899 dL_law_901 dL_law_902 dL_law_903 ?_
  refine v_arg (k := 2) hB hX hL hi (by decide) (by decide) rfl rfl dL_law_904 dL_law_905 dL_law_907 dL_law_908 dL_law_909 ?_
  refine v_arg (k := 3) hB hX hL hi (by decide) (by decide) rfl rfl dL_law_910 dL_law_911 dL_law_913 dL_law_914 dL_law_915 ?_
  refine lc_M [.int (xs (i + 1)), .int (xs (i + 2)), .int (xs (i + 3))] hB k_L_113 (zM.mono (cM_traced hI0) (sP_of (S := (v_traced (xs (i + 1)) (xs (i + 2)) (xs (i + 3)) (upd sc 0 0) ar, upd sc 0 0, ar)))) hLM ⟨N, hI0⟩ rfl rfl (by decide) (by decide) hn (Nat.le_of_ble_eq_true rfl) dL_law_916 (fun w3 hLI => ?_)
  exact v_icmp_eq (tgt := 962) dL_law_919 (by decide) (fun _ => hk ad2 w3 _ _ hLI) (fun h => absurd rfl h)
set_option maxHeartbeats 4000000 in
set_option maxRecDepth 100000 in
theorem lc_21 {X : zX} {l : Launch} {D : va_G} {cy : Nat → ClassId} {s0 : State} {b L i n1 n2 o0 o30 o40 : Nat} {xs : Nat → Int32} {ad : zA} {w : zW} {x5 x6 : Option Value} (hB : zBg X l D cy s0 room_1) (hG : zG s0) (hX : va_X b L xs s0 s0.heap) (hL : L ≤ 3072) (hi : i + 6 ≤ L) (hn : n1 + 4 ≤ 601024 ∧ n2 + 640 ≤ 7293034) (hI : LI s0 cy o0 o30 o40 ad w) (hk : ∀ (ad2 : zA) (w2 : zW) (y5 y6 : Option Value), LI s0 cy o0 o30 o40 ad2 w2 → V X RL cL_law 7 (some .boolean) (n1 + 4) (n2 + 640) ad2 w2 962 [some (.ref b), some (.ref o0), some (.ref o30), some (.ref o40), some (.int (nI i)), y5, y6] []) : V X RL cL_law 7 (some .boolean) n1 n2 ad w 924 [some (.ref b), some (.ref o0), some (.ref o30), some (.ref o40), some (.int (nI i)), x5, x6] [] := by
  obtain ⟨h0, h30, h40, sc, ar, tau, js, mo, cp, cn, al, q3, pa, pn, N, f, hMI, hJ, hZ, rfl⟩ := hI
  have hI0 := hMI.th 0
  refine v_aload_n dL_law_924 rfl ?_
  refine v_arg (k := 1) hB hX hL hi (by decide) (by decide) rfl rfl dL_law_925 dL_law_926 dL_law_928 dL_law_929 dL_law_930 ?_
  refine lc_C (S := (v_count (xs (i + 1)) (upd sc 0 0), upd sc 0 0, ar)) [.int (xs (i + 1))] hB k_L_114 (zM.mono (pX9_count hI0 hJ) (clP_of2 (S := (v_count (xs (i + 1)) (upd sc 0 0), upd sc 0 0, ar)) hI0 hJ hZ (kp_q _ _ _))) rfl h0 h30 h40 rfl (by decide) (by decide) ⟨by decide, by decide⟩ hn (Nat.le_of_ble_eq_true rfl) dL_law_931 (fun ad2 w2 hLM => ?_)
  refine v_aload_n dL_law_934 rfl ?_
  refine v_arg (k := 1) hB hX hL hi (by decide) (by decide) rfl rfl dL_law_935 dL_law_936 dL_law_938 dL_law_939 dL_law_940 ?_
  refine lc_M [.int (xs (i + 1))] hB k_L_117 (zM.mono (cM_count hI0) (sP_of (S := (v_count (xs (i + 1)) (upd sc 0 0), upd sc 0 0, ar)))) hLM ⟨N, hI0⟩ rfl rfl (by decide) (by decide) hn (Nat.le_of_ble_eq_true rfl) dL_law_941 (fun w3 hLI => ?_)
  exact v_icmp_eq (tgt := 962) dL_law_944 (by decide) (fun _ => hk ad2 w3 _ _ hLI) (fun h => absurd rfl h)
set_option maxHeartbeats 4000000 in
set_option maxRecDepth 100000 in
theorem lc_22 {X : zX} {l : Launch} {D : va_G} {cy : Nat → ClassId} {s0 : State} {b L i n1 n2 o0 o30 o40 : Nat} {xs : Nat → Int32} {ad : zA} {w : zW} {x5 x6 : Option Value} (hB : zBg X l D cy s0 room_1) (hG : zG s0) (hX : va_X b L xs s0 s0.heap) (hL : L ≤ 3072) (hi : i + 6 ≤ L) (hn : n1 + 4 ≤ 601024 ∧ n2 + 640 ≤ 7293034) (hI : LI s0 cy o0 o30 o40 ad w) (hk : ∀ (ad2 : zA) (w2 : zW) (y5 y6 : Option Value), LI s0 cy o0 o30 o40 ad2 w2 → V X RL cL_law 7 (some .boolean) (n1 + 4) (n2 + 640) ad2 w2 962 [some (.ref b), some (.ref o0), some (.ref o30), some (.ref o40), some (.int (nI i)), y5, y6] []) : V X RL cL_law 7 (some .boolean) n1 n2 ad w 949 [some (.ref b), some (.ref o0), some (.ref o30), some (.ref o40), some (.int (nI i)), x5, x6] [] := by
  obtain ⟨h0, h30, h40, sc, ar, tau, js, mo, cp, cn, al, q3, pa, pn, N, f, hMI, hJ, hZ, rfl⟩ := hI
  have hI0 := hMI.th 0
  refine v_aload_n dL_law_949 rfl ?_
  refine lc_C (S := ((upd sc 0 0) 1, upd sc 0 0, ar)) [] hB k_L_118 (zM.mono (pX9_trouble hI0 hJ) (clP_of2 (S := ((upd sc 0 0) 1, upd sc 0 0, ar)) hI0 hJ hZ (kp_q _ _ _))) rfl h0 h30 h40 rfl (by decide) (by decide) ⟨by decide, by decide⟩ hn (Nat.le_of_ble_eq_true rfl) dL_law_950 (fun ad2 w2 hLM => ?_)
  refine v_aload_n dL_law_953 rfl ?_
  refine lc_M [] hB k_L_121 (zM.mono (cM_trouble hI0) (sP_of (S := ((upd sc 0 0) 1, upd sc 0 0, ar)))) hLM ⟨N, hI0⟩ rfl rfl (by decide) (by decide) hn (Nat.le_of_ble_eq_true rfl) dL_law_954 (fun w3 hLI => ?_)
  exact v_icmp_eq (tgt := 962) dL_law_957 (by decide) (fun _ => hk ad2 w3 _ _ hLI) (fun h => absurd rfl h)
