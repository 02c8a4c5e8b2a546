theorem iL {i L : Nat} (hL : L ≤ 3072) (hi : i ≤ 3072) (h : ¬ nI L - 6 < nI i) : i + 6 ≤ L := by
  rw [Int32.lt_iff_toInt_lt, Int32.toInt_sub, nI_toInt (by omega), nI_toInt (by omega), show (6 : Int32).toInt = 6 from by decide, Int.bmod_eq_of_le (by omega) (by omega)] at h
  omega
section
variable {X : zX} {l : Launch} {D : va_G} {cy : Nat → ClassId} {s0 : State} {b L o0 o30 o40 : Nat} {xs : Nat → Int32}
set_option maxRecDepth 100000 in
theorem lc_all {i n1 n2 : Nat} {ad : zA} {w : zW} {x5 x6 : Option Value} (hl0 : l.stackTraces = false) (hB : zBg X l D cy s0 room_1) (hG : zG s0) (hX : va_X b L xs s0 s0.heap) (hL : L ≤ 3072) (hi : i + 6 ≤ L) (hn : n1 + 4 ≤ 601024 ∧ n2 + 640 ≤ 7293034) (hI : LI s0 cy o0 o30 o40 ad w) (hk : ∀ (ad2 : zA) (w2 : zW) (y5 y6 : Option Value), LI s0 cy o0 o30 o40 ad2 w2 → V X RL cL_law 7 (some .boolean) (n1 + 4) (n2 + 640) ad2 w2 962 [some (.ref b), some (.ref o0), some (.ref o30), some (.ref o40), some (.int (nI i)), y5, y6] []) : V X RL cL_law 7 (some .boolean) n1 n2 ad w 33 [some (.ref b), some (.ref o0), some (.ref o30), some (.ref o40), some (.int (nI i)), x5, x6] [] := by
  refine v_aload_n dL_law_33 rfl ?_
  refine v_iload dL_law_34 rfl ?_
  refine v_sald (j := i) hB hX rfl (by omega) (by omega) dL_law_36 ?_
  refine v_bipush_v (v := 31) dL_law_37 (by decide) ?_
  refine v_iand dL_law_39 ?_
  generalize xs i &&& 31 = z
  rcases sw23 z with hsw | rfl | rfl | rfl | rfl | rfl | rfl | rfl | rfl | rfl | rfl | rfl | rfl | rfl | rfl | rfl | rfl | rfl | rfl | rfl | rfl | rfl | rfl | rfl
  · refine v_tableOut (tgt := 962) dL_law_40 hsw (by decide) ?_
    exact v_widen (by omega) (by omega) (hk ad w _ _ hI)
  · exact v_tableIn (tgt := 148) dL_law_40 (by decide) (by decide) rfl (by decide) (lc_0 hB hG hX hL hi hn hI hk)
  · exact v_tableIn (tgt := 173) dL_law_40 (by decide) (by decide) rfl (by decide) (lc_1 hB hG hX hL hi hn hI hk)
  · exact v_tableIn (tgt := 198) dL_law_40 (by decide) (by decide) rfl (by decide) (lc_2 hB hG hX hL hi hn hI hk)
  · exact v_tableIn (tgt := 235) dL_law_40 (by decide) (by decide) rfl (by decide) (lc_3 hB hG hX hL hi hn hI hk)
  · exact v_tableIn (tgt := 272) dL_law_40 (by decide) (by decide) rfl (by decide) (lc_4 hB hG hX hL hi hn hI hk)
  · exact v_tableIn (tgt := 325) dL_law_40 (by decide) (by decide) rfl (by decide) (lc_5 hB hG hX hL hi hn hI hk)
  · exact v_tableIn (tgt := 398) dL_law_40 (by decide) (by decide) rfl (by decide) (lc_6 hB hG hX hL hi hn hI hk)
  · exact v_tableIn (tgt := 423) dL_law_40 (by decide) (by decide) rfl (by decide) (lc_7 hB hG hX hL hi hn hI hk)
  · exact v_tableIn (tgt := 460) dL_law_40 (by decide) (by decide) rfl (by decide) (lc_8 hB hG hX hL hi hn hI hk)
  · exact v_tableIn (tgt := 485) dL_law_40 (by decide) (by decide) rfl (by decide) (lc_9 hB hG hX hL hi hn hI hk)
  · exact v_tableIn (tgt := 510) dL_law_40 (by decide) (by decide) rfl (by decide) (lc_10 hB hG hX hL hi hn hI hk)
  · exact v_tableIn (tgt := 535) dL_law_40 (by decide) (by decide) rfl (by decide) (lc_11 hB hG hX hL hi hn hI hk)
  · exact v_tableIn (tgt := 560) dL_law_40 (by decide) (by decide) rfl (by decide) (lc_12 hB hG hX hL hi hn hI hk)
  · exact v_tableIn (tgt := 585) dL_law_40 (by decide) (by decide) rfl (by decide) (lc_13 hB hG hX hL hi hn hI hk)
  · exact v_tableIn (tgt := 622) dL_law_40 (by decide) (by decide) rfl (by decide) (lc_14 hl0 hB hX hL hi hn hI hk)
  · exact v_tableIn (tgt := 690) dL_law_40 (by decide) (by decide) rfl (by decide) (lc_15 hB hG hX hL hi hn hI hk)
  · exact v_tableIn (tgt := 727) dL_law_40 (by decide) (by decide) rfl (by decide) (lc_16 hB hG hX hL hi hn hI hk)
  · exact v_tableIn (tgt := 764) dL_law_40 (by decide) (by decide) rfl (by decide) (lc_17 hB hG hX hL hi hn hI hk)
  · exact v_tableIn (tgt := 801) dL_law_40 (by decide) (by decide) rfl (by decide) (lc_18 hB hG hX hL hi hn hI hk)
  · exact v_tableIn (tgt := 838) dL_law_40 (by decide) (by decide) rfl (by decide) (lc_19 hB hG hX hL hi hn hI hk)
  · exact v_tableIn (tgt := 875) dL_law_40 (by decide) (by decide) rfl (by decide) (lc_20 hB hG hX hL hi hn hI hk)
  · exact v_tableIn (tgt := 924) dL_law_40 (by decide) (by decide) rfl (by decide) (lc_21 hB hG hX hL hi hn hI hk)
  · exact v_tableIn (tgt := 949) dL_law_40 (by decide) (by decide) rfl (by decide) (lc_22 hB hG hX hL hi hn hI hk)
/-- the law's own end -/
theorem lc_end {n1 n2 : Nat} {ad : zA} {w : zW} {ls : List (Option Value)} (hB : zBg X l D cy s0 room_1) (hQ : X.2.2.2.2.2.2.2.2.2.2.1 = lw_Z X.2.2.2.2.2.2.2.1 #[Value.ref b] X.2.2.2.2.1) (ha : X.2.2.2.2.2.2.1 = #[Value.ref b]) (hA : ∀ q, X.2.2.2.2.2.2.2.2.2.2.2.1 q → X.2.2.2.2.1.heap.size ≤ q) (hn : n1 ≤ 601024 ∧ n2 ≤ 7293034) : V X RL cL_law 7 (some .boolean) n1 n2 ad w 968 ls [] := by
  refine v_iconst_v (v := 1) dL_law_968 (by decide) ?_
  obtain ⟨p, l, e, R, s, m, args, below, meth, c, Q, A, D, cy, s0⟩ := X
  obtain ⟨rfl, rfl, rfl, rfl, rfl⟩ := hB
  dsimp only at hQ ha hA
  subst hQ
  subst ha
  intro C1 H locs la hR hS hS9 hl
  refine va_forget (fun q hq => hA _ (hS9.2.2 q hq)) ?_
  refine W.widen hn.1 hn.2 ?_
  exact lw_ret C1.1 C1.2.1 C1.2.2.1 C1.2.2.2.2.2.2.1 dL_law_969
set_option maxRecDepth 100000 in
theorem lc_loop (hl0 : l.stackTraces = false) (hB : zBg X l D cy s0 room_1) (hG : zG s0) (hX : va_X b L xs s0 s0.heap) (hL : L ≤ 3072) (hQ : X.2.2.2.2.2.2.2.2.2.2.1 = lw_Z X.2.2.2.2.2.2.2.1 #[Value.ref b] X.2.2.2.2.1) (ha : X.2.2.2.2.2.2.1 = #[Value.ref b]) (hA : ∀ q, X.2.2.2.2.2.2.2.2.2.2.2.1 q → X.2.2.2.2.1.heap.size ≤ q) : ∀ (n i n1 n2 : Nat) (ad : zA) (w : zW) (x5 x6 : Option Value), 3072 < i + 6 * n → i ≤ 3072 → n1 + 4 * n ≤ 601024 → n2 + 640 * n ≤ 7293034 → LI s0 cy o0 o30 o40 ad w → V X RL cL_law 7 (some .boolean) n1 n2 ad w 23 [some (.ref b), some (.ref o0), some (.ref o30), some (.ref o40), some (.int (nI i)), x5, x6] []
  | 0, i, n1, n2, ad, w, x5, x6, h1, h2, h3, h4, hI => by omega
  | n + 1, i, n1, n2, ad, w, x5, x6, h1, h2, h3, h4, hI => by
    refine v_iload dL_law_23 rfl ?_
    refine v_aload_n dL_law_25 rfl ?_
    refine v_slen hB hX dL_law_26 ?_
    refine v_bipush_v (v := 6) dL_law_27 (by decide) ?_
    refine v_isub dL_law_29 ?_
    refine v_icmp_gt (tgt := 968) dL_law_30 (by decide) (fun h => lc_end hB hQ ha hA ⟨by omega, by omega⟩) (fun h => ?_)
    have hi := iL hL h2 h
    have g1 : n1 + 4 ≤ 601024 ∧ n2 + 640 ≤ 7293034 := by
      clear hB hQ ha hA hX hI h
      omega
    refine lc_all hl0 hB hG hX hL hi g1 hI (fun ad2 w2 y5 y6 hI2 => ?_)
    refine v_iinc4 (v := nI 6) dL_law_962 (by decide) (by decide) ?_
    rw [nI_add]
    refine v_goto (tgt := 23) dL_law_965 (by decide) ?_
    exact lc_loop hl0 hB hG hX hL hQ ha hA n (i + 6) (n1 + 4) (n2 + 640) ad2 w2 y5 y6 (by omega) (by omega) (by omega) (by omega) hI2
end
