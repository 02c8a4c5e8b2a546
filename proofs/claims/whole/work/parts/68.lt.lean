theorem mW_n {cy : Nat → ClassId} {ad : zA} {sc : Nat → Int32} {ar : Nat → Nat → Int32} : ∀ k i, ¬ isM k = true → mW cy ad sc ar k i = none := fun k i h => by
  unfold mW
  rw [if_neg (isM_n h).1, if_neg (isM_n h).2]
theorem mW_p {cy : Nat → ClassId} {ad : zA} {sc : Nat → Int32} {ar : Nat → Nat → Int32} {v : Int32} : ∀ r ad2 w2, zPi v ad (mW cy ad sc ar) r ad2 w2 → ∀ k i, ¬ isM k = true → w2 k i = none := fun r ad2 w2 h => by
  obtain ⟨rfl, rfl, rfl⟩ := h
  exact mW_n
theorem lg_cmp_self (a : Int64) : lg_cmp a a = 0 := by
  unfold lg_cmp
  simp
set_option maxHeartbeats 4000000 in
set_option maxRecDepth 100000 in
theorem lc_14 {X : zX} {l : Launch} {D : va_G} {cy : Nat → ClassId} {s0 : State} {b L i n1 n2 o0 o30 o40 : Nat} {xs : Nat → Int32} {ad : zA} {w : zW} {x5 x6 : Option Value} (hl0 : l.stackTraces = false) (hB : zBg X l D cy s0 room_1) (hX : va_X b L xs s0 s0.heap) (hL : L ≤ 3072) (hi : i + 6 ≤ L) (hn : n1 + 4 ≤ 601024 ∧ n2 + 640 ≤ 7293034) (hI : LI s0 cy o0 o30 o40 ad w) (hk : ∀ (ad2 : zA) (w2 : zW) (y5 y6 : Option Value), LI s0 cy o0 o30 o40 ad2 w2 → V X RL cL_law 7 (some .boolean) (n1 + 4) (n2 + 640) ad2 w2 962 [some (.ref b), some (.ref o0), some (.ref o30), some (.ref o40), some (.int (nI i)), y5, y6] []) : V X RL cL_law 7 (some .boolean) n1 n2 ad w 622 [some (.ref b), some (.ref o0), some (.ref o30), some (.ref o40), some (.int (nI i)), x5, x6] [] := by
  obtain ⟨h0, h30, h40, sc, ar, tau, js, mo, cp, cn, al, q3, pa, pn, N, f, hMI, hJ, hZ, rfl⟩ := hI
  subst h0
  subst h30
  subst h40
  refine v_aload_n dL_law_622 rfl ?_
  refine v_arg (k := 1) hB hX hL hi (by decide) (by decide) rfl rfl dL_law_623 dL_law_624 dL_law_626 dL_law_627 dL_law_628 ?_
  refine v_arg (k := 2) hB hX hL hi (by decide) (by decide) rfl rfl dL_law_629 dL_law_630 dL_law_632 dL_law_633 dL_law_634 ?_
  refine v_aload_n dL_law_635 rfl ?_
  refine vg_callSH (As := [.ref (ad 0 0), .int (xs (i + 1)), .int (xs (i + 2)), .ref (ad 40 0)]) (rest := []) hB kh_part kh_part2 (pL_part hl0 hMI hJ) rfl ⟨by decide, by decide⟩ ⟨by show n1 + 1 ≤ 601024; omega, by show n2 + 6 ≤ 7293034; omega⟩ (Nat.le_of_ble_eq_true rfl) dL_law_636 ?_
  rintro r ad2 w2 ⟨rfl, e2, f2, rfl, hf2⟩
  subst e2
  rw [mix_swap]
  refine v_istore5 dL_law_639 (by decide) ?_
  refine v_aload_n dL_law_641 rfl ?_
  refine v_arg (k := 1) hB hX hL hi (by decide) (by decide) rfl rfl dL_law_642 dL_law_643 dL_law_645 dL_law_646 dL_law_647 ?_
  refine v_arg (k := 2) hB hX hL hi (by decide) (by decide) rfl rfl dL_law_648 dL_law_649 dL_law_651 dL_law_652 dL_law_653 ?_
  refine vg_callV (As := [.int (xs (i + 1)), .int (xs (i + 2))]) (rest := []) hB k_L_84 (zM.frame isM _ mW_n (cM_part hMI) mW_p) rfl ⟨by decide, by decide⟩ ⟨by show n1 + 1 + 0 ≤ 601024; omega, by show n2 + 6 + 0 ≤ 7293034; omega⟩ (ci := 11) ((mix_M _ _ 0 rfl).trans rfl) rfl (Nat.le_of_ble_eq_true rfl) dL_law_654 ?_
  rintro r ad3 w3 ⟨adC, wC2, ⟨rfl, e3, rfl⟩, rfl, rfl⟩
  subst e3
  rw [mixA_self]
  refine v_istore6 dL_law_657 (by decide) ?_
  refine v_aload_n dL_law_659 rfl ?_
  refine vg_callV (As := []) (rest := []) hB k_L_85 (zM.frame isM _ mW_n cM_thrown mW_p) rfl ⟨by decide, by decide⟩ ⟨by show n1 + 1 + 0 + 0 ≤ 601024; omega, by show n2 + 6 + 0 + 0 ≤ 7293034; omega⟩ (ci := 11) ((mix_M _ _ 0 rfl).trans rfl) rfl (Nat.le_of_ble_eq_true rfl) dL_law_660 ?_
  rintro r ad4 w4 ⟨adC2, wC4, ⟨rfl, e4, rfl⟩, rfl, rfl⟩
  subst e4
  rw [mixA_self]
  have ew : xW cy adC2 sc ar tau js mo cp cn al q3 pa pn = xW cy adC2 (upd sc 0 (x_part (xs (i + 1)) (xs (i + 2)) sc ar)) ar tau js mo cp cn al q3 pa pn := xW_seen ⟨(upd_n (by decide)).symm, (upd_n (by decide)).symm, (upd_n (by decide)).symm, (upd_n (by decide)).symm⟩ (fun _ _ _ => rfl)
  have K687 : ∀ y5 y6, V X RL cL_law 7 (some .boolean) (n1 + 1 + 0 + 0) (n2 + 6 + 0 + 0) adC2 (mix isM (mW cy adC2 (upd sc 0 (x_part (xs (i + 1)) (xs (i + 2)) sc ar)) ar) (mix isC (xW cy adC2 sc ar tau js mo cp cn al q3 pa pn) (oW cy f2))) 687 [some (.ref b), some (.ref (adC2 0 0)), some (.ref (adC2 30 0)), some (.ref (adC2 40 0)), some (.int (nI i)), y5, y6] [] := by
    intro y5 y6
    refine v_goto (tgt := 962) dL_law_687 (by decide) ?_
    refine v_widen (k1 := n1 + 4) (k2 := n2 + 640) (by omega) (by omega) ?_
    refine hk _ _ _ _ ⟨rfl, rfl, rfl, upd sc 0 (x_part (xs (i + 1)) (xs (i + 2)) sc ar), ar, tau, js, mo, cp, cn, al, q3, pa, pn, N, f2, hMI.th _, hJ, hZ, ?_⟩
    rw [← mix_swap, ← ew]
  refine v_iload dL_law_663 rfl ?_
  refine v_icmp_eq (tgt := 670) dL_law_665 (by decide) (fun _ => ?_) (fun h => absurd pk_us h)
  refine v_iload dL_law_670 rfl ?_
  refine v_if_ne (tgt := 687) dL_law_672 (by decide) (fun h => K687 _ _) (fun h => ?_)
  have h9 := hf2 h
  refine v_aload_n dL_law_675 rfl ?_
  refine v_iconst_v (v := 0) dL_law_676 (by decide) ?_
  refine v_lald (kk := 40) (ii := 0) (N := 1) (f := f2) (by rw [hB.cy]; rfl) (by unfold vp_in; decide) dL_law_677 ?_
  refine v_iload dL_law_678 rfl ?_
  refine v_i2l dL_law_680 ?_
  refine v_lcmp dL_law_681 ?_
  refine v_if_eq (tgt := 687) dL_law_682 (by decide) (fun _ => K687 _ _) (fun h => absurd ?_ h)
  show lg_cmp (f2 0) _ = 0
  rw [h9]
  exact lg_cmp_self _
theorem sw23 (x : Int32) : (x.toInt < 0 ∨ 22 < x.toInt) ∨ x = 0 ∨ x = 1 ∨ x = 2 ∨ x = 3 ∨ x = 4 ∨ x = 5 ∨ x = 6 ∨ x = 7 ∨ x = 8 ∨ x = 9 ∨ x = 10 ∨ x = 11 ∨ x = 12 ∨ x = 13 ∨ x = 14 ∨ x = 15 ∨ x = 16 ∨ x = 17 ∨ x = 18 ∨ x = 19 ∨ x = 20 ∨ x = 21 ∨ x = 22 := by
  by_cases h : x.toInt < 0 ∨ 22 < x.toInt
  · exact Or.inl h
  · right
    have e : ∀ k : Nat, k < 23 → x.toInt = (k : Int) → x = nI k := fun k hk h1 => Int32.toInt_inj.mp (h1.trans (nI_toInt (by omega)).symm)
    obtain ⟨k, hk, hx⟩ : ∃ k : Nat, k < 23 ∧ x.toInt = (k : Int) := ⟨x.toInt.toNat, by omega, by omega⟩
    have hx := e k hk hx
    subst hx
    rcases (by omega : k = 0 ∨ k = 1 ∨ k = 2 ∨ k = 3 ∨ k = 4 ∨ k = 5 ∨ k = 6 ∨ k = 7 ∨ k = 8 ∨ k = 9 ∨ k = 10 ∨ k = 11 ∨ k = 12 ∨ k = 13 ∨ k = 14 ∨ k = 15 ∨ k = 16 ∨ k = 17 ∨ k = 18 ∨ k = 19 ∨ k = 20 ∨ k = 21 ∨ k = 22) with rfl | rfl | rfl | rfl | rfl | rfl | rfl | rfl | rfl | rfl | rfl | rfl | rfl | rfl | rfl | rfl | rfl | rfl | rfl | rfl | rfl | rfl | rfl <;> decide
