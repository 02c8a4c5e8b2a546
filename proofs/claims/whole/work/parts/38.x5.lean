/-- the tastiest place of length L from fr on, of k places, the first of equals -/
def tbR (ln ts : Nat → Nat) (L : Nat) : Nat → Nat → Option Nat
  | 0, _ => none
  | k + 1, fr => match tbR ln ts L k (fr + 1) with
    | none => if ln fr = L then some fr else none
    | some q => if ln fr = L ∧ ts q ≤ ts fr then some fr else some q
def oI (q : Option Nat) : Int32 := match q with
  | none => -1
  | some p => nI p
theorem tbR_in (ln ts : Nat → Nat) (L : Nat) : ∀ k fr p, tbR ln ts L k fr = some p → fr ≤ p ∧ p < fr + k
  | 0, fr, p, h => by cases h
  | k + 1, fr, p, h => by
    unfold tbR at h
    cases hq : tbR ln ts L k (fr + 1) with
    | none =>
      rw [hq] at h; simp only [] at h
      split at h
      · cases h; omega
      · cases h
    | some q =>
      rw [hq] at h; simp only [] at h
      have := tbR_in ln ts L k (fr + 1) q hq
      split at h
      · cases h; omega
      · cases h; omega
theorem btr_btr (b : zBest) (t1 t2 : Nat) (p1 p2 : List Nat) : btr (btr b t1 p1) t2 p2 = if t2 ≤ t1 then btr b t1 p1 else btr b t2 p2 := by
  cases b with
  | none =>
    show (if t1 < t2 then some (t2, p2) else some (t1, p1)) = if t2 ≤ t1 then some (t1, p1) else some (t2, p2)
    by_cases h : t1 < t2
    · rw [if_pos h, if_neg (by omega)]
    · rw [if_neg h, if_pos (by omega)]
  | some q =>
    obtain ⟨u, p⟩ := q
    show btr (if u < t1 then some (t1, p1) else some (u, p)) t2 p2 = if t2 ≤ t1 then (if u < t1 then some (t1, p1) else some (u, p)) else (if u < t2 then some (t2, p2) else some (u, p))
    by_cases h1 : u < t1
    · rw [if_pos h1]
      show (if t1 < t2 then some (t2, p2) else some (t1, p1)) = _
      by_cases h : t1 < t2
      · rw [if_pos h, if_neg (by omega), if_pos (by omega)]
      · rw [if_neg h, if_pos (by omega)]
    · rw [if_neg h1]
      show (if u < t2 then some (t2, p2) else some (u, p)) = _
      by_cases h : t2 ≤ t1
      · rw [if_neg (by omega), if_pos h]
      · rw [if_neg h]
def finB (ln ts : Nat → Nat) (K M fr t : Nat) (pre : List Nat) (b : zBest) : zBest := match tbR ln ts M (K - fr) fr with
  | none => b
  | some p => btr b (t + ts p) (pre ++ [p])
theorem fin_eq (ln ts : Nat → Nat) (K T L t : Nat) (pre : List Nat) (hL : L ≤ T) : ∀ (k fr : Nat) (b : zBest), (List.range' fr k).foldl (fun b i => if T < L + ln i then b else chs ln ts K T 0 (i + 1) (L + ln i) (t + ts i) (pre ++ [i]) b) b = (match tbR ln ts (T - L) k fr with | none => b | some p => btr b (t + ts p) (pre ++ [p]))
  | 0, fr, b => rfl
  | k + 1, fr, b => by
    rw [List.range'_succ, List.foldl_cons, fin_eq ln ts K T L t pre hL k (fr + 1)]
    have e : (if T < L + ln fr then b else chs ln ts K T 0 (fr + 1) (L + ln fr) (t + ts fr) (pre ++ [fr]) b) = if ln fr = T - L then btr b (t + ts fr) (pre ++ [fr]) else b := by
      by_cases h1 : T < L + ln fr
      · rw [if_pos h1, if_neg (by omega)]
      · rw [if_neg h1, chs]
        by_cases h2 : L + ln fr = T
        · rw [if_pos h2, if_pos (by omega)]
        · rw [if_neg h2, if_neg (by omega)]
    rw [e]
    show _ = (match (match tbR ln ts (T - L) k (fr + 1) with
      | none => if ln fr = T - L then some fr else none
      | some q => if ln fr = T - L ∧ ts q ≤ ts fr then some fr else some q) with | none => b | some p => btr b (t + ts p) (pre ++ [p]))
    cases hq : tbR ln ts (T - L) k (fr + 1) with
    | none =>
      simp only []
      by_cases h : ln fr = T - L
      · rw [if_pos h, if_pos h]
      · rw [if_neg h, if_neg h]
    | some q =>
      simp only []
      by_cases h : ln fr = T - L
      · rw [if_pos h, btr_btr]
        by_cases h2 : ts q ≤ ts fr
        · rw [if_pos (by omega), if_pos ⟨h, h2⟩]
        · rw [if_neg (by omega), if_neg (fun z => h2 z.2)]
      · rw [if_neg h, if_neg (fun z => h z.1)]
theorem chs_1 (ln ts : Nat → Nat) (K T L fr t : Nat) (pre : List Nat) (b : zBest) (hL : L ≤ T) : chs ln ts K T 1 fr L t pre b = finB ln ts K (T - L) fr t pre b := by
  rw [chs]; exact fin_eq ln ts K T L t pre hL (K - fr) fr b
theorem tbR_ln (ln ts : Nat → Nat) (L : Nat) : ∀ k fr p, tbR ln ts L k fr = some p → ln p = L
  | 0, fr, p, h => by cases h
  | k + 1, fr, p, h => by
    unfold tbR at h
    cases hq : tbR ln ts L k (fr + 1) with
    | none =>
      rw [hq] at h; simp only [] at h
      split at h
      · rename_i e; cases h; exact e
      · cases h
    | some q =>
      rw [hq] at h; simp only [] at h
      have := tbR_ln ln ts L k (fr + 1) q hq
      split at h
      · rename_i e; cases h; exact e.1
      · cases h; exact this
theorem chs_no (ln ts : Nat → Nat) (K T : Nat) (hl : ∀ p, p < K → 1 ≤ ln p ∧ ln p ≤ 60) : ∀ (r fr L t : Nat) (pre : List Nat) (b : zBest), (T < L + r ∨ L + 60 * r < T) → chs ln ts K T r fr L t pre b = b
  | 0, fr, L, t, pre, b, h => by rw [chs, if_neg (by omega)]
  | r + 1, fr, L, t, pre, b, h => by
    rw [chs]
    have key : ∀ (l : List Nat), (∀ x ∈ l, x < K) → ∀ b : zBest, l.foldl (fun b i => if T < L + ln i then b else chs ln ts K T r (i + 1) (L + ln i) (t + ts i) (pre ++ [i]) b) b = b := by
      intro l
      induction l with
      | nil => intro _ b; rfl
      | cons a l ih =>
        intro hx b
        rw [List.foldl_cons]
        have h1 := hl a (hx a List.mem_cons_self)
        have e : (if T < L + ln a then b else chs ln ts K T r (a + 1) (L + ln a) (t + ts a) (pre ++ [a]) b) = b := by
          split
          · rfl
          · exact chs_no ln ts K T hl r _ _ _ _ _ (by omega)
        rw [e]
        exact ih (fun x hx2 => hx x (List.mem_cons_of_mem _ hx2)) b
    refine key _ ?_ b
    intro x hx
    have := List.mem_range'_1.mp hx
    omega
/-- what the joiner holds -/
def JI (mp ln ts : Nat → Nat) (K : Nat) (js : Nat → Int32) (tau : Nat → Nat → Int32) : Prop := (js 0 = nI K ∧ K ≤ 30) ∧ ∀ p, p < K → tau 1 p = nI (mp p) ∧ tau 2 p = nI (ln p) ∧ tau 3 p = nI (ts p) ∧ (1 ≤ ln p ∧ ln p ≤ 60) ∧ ts p ≤ 9
def TI (ln ts : Nat → Nat) (K : Nat) (f4 : Nat → Int32) : Prop := ∀ r, r ≤ K → ∀ L, L < 61 → f4 (61 * r + L) = oI (tbR ln ts L (K - r) r)
def BX (n : Nat) (js : Nat → Int32) (tau : Nat → Nat → Int32) (b : zBest) : Prop := match b with
  | none => js 1 = -1
  | some (u, pl) => js 1 = nI u ∧ u ≤ 36 ∧ pl.length = n ∧ ∀ i, i < n → tau 6 i = nI (pl.getD i 0)
def JR (k : Nat) (js js' : Nat → Int32) (tau tau' : Nat → Nat → Int32) : Prop := (∀ j, j ≠ 1 → js' j = js j) ∧ (∀ j, j ≠ 5 → j ≠ 6 → tau' j = tau j) ∧ ∀ i, i < k → tau' 5 i = tau 5 i
theorem JR.refl (k : Nat) (js : Nat → Int32) (tau : Nat → Nat → Int32) : JR k js js tau tau := ⟨fun _ _ => rfl, fun _ _ _ => rfl, fun _ _ => rfl⟩
theorem JR.trans {k : Nat} {s1 s2 s3 : Nat → Int32} {a1 a2 a3 : Nat → Nat → Int32} (h : JR k s1 s2 a1 a2) (h2 : JR k s2 s3 a2 a3) : JR k s1 s3 a1 a3 :=
  ⟨fun j p => (h2.1 j p).trans (h.1 j p), fun j p q => (h2.2.1 j p q).trans (h.2.1 j p q), fun i p => (h2.2.2 i p).trans (h.2.2 i p)⟩
theorem JI.keep {mp ln ts : Nat → Nat} {K k : Nat} {js js' : Nat → Int32} {tau tau' : Nat → Nat → Int32} (h : JI mp ln ts K js tau) (h2 : JR k js js' tau tau') : JI mp ln ts K js' tau' := by
  refine ⟨⟨by rw [h2.1 0 (by decide)]; exact h.1.1, h.1.2⟩, fun p hp => ?_⟩
  rw [h2.2.1 1 (by decide) (by decide), h2.2.1 2 (by decide) (by decide), h2.2.1 3 (by decide) (by decide)]
  exact h.2 p hp
theorem JI.up4 {mp ln ts : Nat → Nat} {K : Nat} {js : Nat → Int32} {tau : Nat → Nat → Int32} (h : JI mp ln ts K js tau) (f : Nat → Int32) : JI mp ln ts K js (upA tau 4 f) :=
  ⟨h.1, fun p hp => h.2 p hp⟩
theorem put_up (tau : Nat → Nat → Int32) (a n : Nat) (f : Nat → Int32) (x : Int32) : putA (upA tau a f) a n x = upA tau a (upd f n x) := by
  funext i; unfold putA upA
  by_cases e : i = a
  · simp [e]
  · simp [e]
theorem up_up (tau : Nat → Nat → Int32) (a : Nat) (f g : Nat → Int32) : upA (upA tau a f) a g = upA tau a g := by
  funext i; unfold upA
  by_cases e : i = a
  · simp [e]
  · simp [e]
theorem up_self (tau : Nat → Nat → Int32) (a : Nat) : upA tau a (tau a) = tau := by
  funext i; unfold upA
  by_cases e : i = a
  · simp [e]
  · simp [e]
theorem tb_no (ln ts : Nat → Nat) (L : Nat) {K p : Nat} (hp : p < K) (h : ln p ≠ L ∨ ∃ z, tbR ln ts L (K - (p + 1)) (p + 1) = some z ∧ ¬ ts z ≤ ts p) : tbR ln ts L (K - p) p = tbR ln ts L (K - (p + 1)) (p + 1) := by
  rw [show K - p = (K - (p + 1)) + 1 by omega]
  show (match tbR ln ts L (K - (p + 1)) (p + 1) with | none => if ln p = L then some p else none | some q => if ln p = L ∧ ts q ≤ ts p then some p else some q) = _
  cases hq : tbR ln ts L (K - (p + 1)) (p + 1) with
  | none =>
    rcases h with h | ⟨z, h1, h2⟩
    · exact if_neg h
    · rw [hq] at h1; cases h1
  | some q =>
    refine if_neg ?_
    rcases h with h | ⟨z, h1, h2⟩
    · exact fun y => h y.1
    · rw [hq] at h1; cases h1; exact fun y => h2 y.2
theorem tb_yes (ln ts : Nat → Nat) (L : Nat) {K p : Nat} (hp : p < K) (h : ln p = L) (h2 : ∀ z, tbR ln ts L (K - (p + 1)) (p + 1) = some z → ts z ≤ ts p) : tbR ln ts L (K - p) p = some p := by
  rw [show K - p = (K - (p + 1)) + 1 by omega]
  show (match tbR ln ts L (K - (p + 1)) (p + 1) with | none => if ln p = L then some p else none | some q => if ln p = L ∧ ts q ≤ ts p then some p else some q) = _
  cases hq : tbR ln ts L (K - (p + 1)) (p + 1) with
  | none => exact if_pos h
  | some q => exact if_pos ⟨h, h2 q hq⟩
set_option maxHeartbeats 4000000 in
set_option maxRecDepth 100000 in
theorem pX4_clear {l : Launch} {D : va_G} {cy : Nat → ClassId} {s0 : State} {ad : zA} {sc : Nat → Int32} {ar tau : Nat → Nat → Int32} {js mo : Nat → Int32} {cp cn al : Nat → Nat} {q3 pa : Nat → Nat → Int32} {pn : Nat → Nat}  : zM l D cy s0 yX4_clear cX4_clear 1 none 1 0 0 [.ref (ad 2 0)] ad (xW cy ad sc ar tau js mo cp cn al q3 pa pn) (zPv ad (xW cy ad sc ar tau (upd js 0 0) mo cp cn al q3 pa pn)) := by
  refine zM_of (own := RX4) rfl (by decide) (by simp [Value.category]) (Nat.le_of_ble_eq_true rfl) ?_
  intro X hB
  show V X RX4 cX4_clear 1 none 0 0 ad (xW cy ad sc ar tau js mo cp cn al q3 pa pn) 0 [some (.ref (ad 2 0))] []
  refine v_aload_n dX4_clear_0 rfl ?_
  refine v_iconst_v (v := 0) dX4_clear_1 (by decide) ?_
  refine xp_X4_30 dX4_clear_2 ?_
  exact v_vret hB (by decide) (by decide) dX4_clear_5 ⟨rfl, rfl, rfl⟩

set_option maxHeartbeats 4000000 in
set_option maxRecDepth 100000 in
theorem pX4_hasRoom {l : Launch} {D : va_G} {cy : Nat → ClassId} {s0 : State} {ad : zA} {sc : Nat → Int32} {ar tau : Nat → Nat → Int32} {js mo : Nat → Int32} {cp cn al : Nat → Nat} {q3 pa : Nat → Nat → Int32} {pn : Nat → Nat} {K : Nat} (h0 : js 0 = nI K) (hK : K ≤ 30) : zM l D cy s0 yX4_hasRoom cX4_hasRoom 1 (some .boolean) 1 0 0 [.ref (ad 2 0)] ad (xW cy ad sc ar tau js mo cp cn al q3 pa pn) (zPi (bI (K < 30)) ad (xW cy ad sc ar tau js mo cp cn al q3 pa pn)) := by
  refine zM_of (own := RX4) rfl (by decide) (by simp [Value.category]) (Nat.le_of_ble_eq_true rfl) ?_
  intro X hB
  show V X RX4 cX4_hasRoom 1 (some .boolean) 0 0 ad (xW cy ad sc ar tau js mo cp cn al q3 pa pn) 0 [some (.ref (ad 2 0))] []
  refine v_aload_n dX4_hasRoom_0 rfl ?_
  refine xg_X4_30 dX4_hasRoom_1 ?_
  refine v_bipush_v (v := 30) dX4_hasRoom_4 (by decide) ?_
  refine v_icmp_ge (tgt := 13) dX4_hasRoom_6 (by decide) (fun h6 => ?_) (fun h6 => ?_)
  · rw [h0] at h6; have h6 := (nI_leI (a := 30) (by decide) (by omega)).mp h6
    refine v_iconst_v (v := 0) dX4_hasRoom_13 (by decide) ?_
    exact v_zret hB (by decide) (by decide) dX4_hasRoom_14 rfl ⟨congrArg (fun z => some (Value.int z)) ((bI_f (by omega)).symm), rfl, rfl⟩
  · rw [h0] at h6; have h6 : ¬ 30 ≤ K := fun z => h6 ((nI_leI (a := 30) (by decide) (by omega)).mpr z)
    refine v_iconst_v (v := 1) dX4_hasRoom_9 (by decide) ?_
    refine v_goto (tgt := 14) dX4_hasRoom_10 (by decide) ?_
    exact v_zret hB (by decide) (by decide) dX4_hasRoom_14 rfl ⟨congrArg (fun z => some (Value.int z)) ((bI_t (by omega)).symm), rfl, rfl⟩

set_option maxHeartbeats 4000000 in
set_option maxRecDepth 100000 in
theorem pX4_take {l : Launch} {D : va_G} {cy : Nat → ClassId} {s0 : State} {ad : zA} {sc : Nat → Int32} {ar tau : Nat → Nat → Int32} {js mo : Nat → Int32} {cp cn al : Nat → Nat} {q3 pa : Nat → Nat → Int32} {pn : Nat → Nat} {a b t : Int32} {K : Nat} (h0 : js 0 = nI K) (hK : K < 30) : zM l D cy s0 yX4_take cX4_take 4 none 1 0 0 [.ref (ad 2 0), .int a, .int b, .int t] ad (xW cy ad sc ar tau js mo cp cn al q3 pa pn) (zPv ad (xW cy ad sc ar (putA (putA (putA tau 1 K a) 2 K b) 3 K t) (upd js 0 (nI (K + 1))) mo cp cn al q3 pa pn)) := by
  refine zM_of (own := RX4) rfl (by decide) (by simp [Value.category]) (Nat.le_of_ble_eq_true rfl) ?_
  intro X hB
  show V X RX4 cX4_take 4 none 0 0 ad (xW cy ad sc ar tau js mo cp cn al q3 pa pn) 0 [some (.ref (ad 2 0)), some (.int a), some (.int b), some (.int t)] []
  refine v_aload_n dX4_take_0 rfl ?_
  refine xg_X4_30 dX4_take_1 ?_
  refine v_bipush_v (v := 30) dX4_take_4 (by decide) ?_
  refine v_icmp_ge (tgt := 49) dX4_take_6 (by decide) (fun h6 => ?_) (fun h6 => ?_)
  · exact absurd h6 (by rw [h0]; exact nI_ge (b := 30) hK (by decide))
  · refine v_aload_n dX4_take_9 rfl ?_
    refine xg_X4_9 dX4_take_10 ?_
    refine v_aload_n dX4_take_13 rfl ?_
    refine xg_X4_30 dX4_take_14 ?_
    refine v_iload_n dX4_take_17 rfl ?_
    refine x_st 1 (L := 30) hB.cy (by decide) (by decide) rfl h0 (by omega) (by decide) dX4_take_18 ?_
    refine v_aload_n dX4_take_19 rfl ?_
    refine xg_X4_15 dX4_take_20 ?_
    refine v_aload_n dX4_take_23 rfl ?_
    refine xg_X4_30 dX4_take_24 ?_
    refine v_iload_n dX4_take_27 rfl ?_
    refine x_st 2 (L := 30) hB.cy (by decide) (by decide) rfl h0 (by omega) (by decide) dX4_take_28 ?_
    refine v_aload_n dX4_take_29 rfl ?_
    refine xg_X4_18 dX4_take_30 ?_
    refine v_aload_n dX4_take_33 rfl ?_
    refine xg_X4_30 dX4_take_34 ?_
    refine v_iload_n dX4_take_37 rfl ?_
    refine x_st 3 (L := 30) hB.cy (by decide) (by decide) rfl h0 (by omega) (by decide) dX4_take_38 ?_
    refine v_aload_n dX4_take_39 rfl ?_
    refine v_dup dX4_take_40 rfl ?_
    refine xg_X4_30 dX4_take_41 ?_
    refine v_iconst_v (v := 1) dX4_take_44 (by decide) ?_
    refine v_iadd dX4_take_45 ?_
    refine v_eq (show js 0 + 1 = nI (K + 1) by rw [h0]; exact nI_add K 1) ?_
    refine xp_X4_30 dX4_take_46 ?_
    exact v_vret hB (by decide) (by decide) dX4_take_49 ⟨rfl, rfl, rfl⟩

set_option maxHeartbeats 4000000 in
set_option maxRecDepth 100000 in
theorem pX4_partOfBest {l : Launch} {D : va_G} {cy : Nat → ClassId} {s0 : State} {ad : zA} {sc : Nat → Int32} {ar tau : Nat → Nat → Int32} {js mo : Nat → Int32} {cp cn al : Nat → Nat} {q3 pa : Nat → Nat → Int32} {pn : Nat → Nat} {k p K : Nat} (hk : k < 4) (h6 : tau 6 k = nI p) (hp : p < K) (hK : K ≤ 30) (h0 : js 0 = nI K) : zM l D cy s0 yX4_partOfBest cX4_partOfBest 3 (some .int) 1 0 0 [.ref (ad 2 0), .int (nI k)] ad (xW cy ad sc ar tau js mo cp cn al q3 pa pn) (zPi (tau 1 p) ad (xW cy ad sc ar tau js mo cp cn al q3 pa pn)) := by
  refine zM_of (own := RX4) rfl (by decide) (by simp [Value.category]) (Nat.le_of_ble_eq_true rfl) ?_
  intro X hB
  show V X RX4 cX4_partOfBest 3 (some .int) 0 0 ad (xW cy ad sc ar tau js mo cp cn al q3 pa pn) 0 [some (.ref (ad 2 0)), some (.int (nI k)), none] []
  refine v_iload_n dX4_partOfBest_0 rfl ?_
  refine v_if_lt (tgt := 9) dX4_partOfBest_1 (by decide) (fun q1 => ?_) (fun q1 => ?_)
  · exact absurd q1 (nI_pos (by omega))
  · refine v_iload_n dX4_partOfBest_4 rfl ?_
    refine v_iconst_v (v := 4) dX4_partOfBest_5 (by decide) ?_
    refine v_icmp_lt (tgt := 11) dX4_partOfBest_6 (by decide) (fun q6 => ?_) (fun q6 => ?_)
    · refine v_aload_n dX4_partOfBest_11 rfl ?_
      refine xg_X4_27 dX4_partOfBest_12 ?_
      refine v_iload_n dX4_partOfBest_15 rfl ?_
      refine x_ld 6 (L := 4) hB.cy (by decide) (by decide) rfl rfl (by omega) (by decide) dX4_partOfBest_16 ?_
      refine v_istore_n2 dX4_partOfBest_17 (by decide) ?_
      refine v_iload_n dX4_partOfBest_18 rfl ?_
      refine v_if_lt (tgt := 39) dX4_partOfBest_19 (by decide) (fun q19 => ?_) (fun q19 => ?_)
      · exact absurd q19 (by rw [h6]; exact nI_pos (by omega))
      · refine v_iload_n dX4_partOfBest_22 rfl ?_
        refine v_aload_n dX4_partOfBest_23 rfl ?_
        refine xg_X4_30 dX4_partOfBest_24 ?_
        refine v_icmp_ge (tgt := 39) dX4_partOfBest_27 (by decide) (fun q27 => ?_) (fun q27 => ?_)
        · exact absurd q27 (by rw [h6, h0]; exact nI_ge hp (by omega))
        · refine v_aload_n dX4_partOfBest_30 rfl ?_
          refine xg_X4_9 dX4_partOfBest_31 ?_
          refine v_iload_n dX4_partOfBest_34 rfl ?_
          refine x_ld 1 (L := 30) hB.cy (by decide) (by decide) rfl h6 (by omega) (by decide) dX4_partOfBest_35 ?_
          refine v_goto (tgt := 40) dX4_partOfBest_36 (by decide) ?_
          exact v_iret hB (by decide) (by decide) dX4_partOfBest_40 ⟨rfl, rfl, rfl⟩
    · exact absurd (nI_lt (b := 4) hk (by decide)) q6

def asI (ts : Nat → Nat) (q : Option Nat) (p : Nat) : Int32 := match q with
  | none => 1
  | some z => bI (ts z ≤ ts p)
theorem oI_neg : oI none < 0 := by decide
set_option maxHeartbeats 4000000 in
set_option maxRecDepth 100000 in
theorem pX4_isAsTasty {l : Launch} {D : va_G} {cy : Nat → ClassId} {s0 : State} {ad : zA} {sc : Nat → Int32} {ar tau : Nat → Nat → Int32} {js mo : Nat → Int32} {cp cn al : Nat → Nat} {q3 pa : Nat → Nat → Int32} {pn : Nat → Nat} {mp ln ts : Nat → Nat} {K p : Nat} {q : Option Nat} (hJ : JI mp ln ts K js tau) (hp : p < K) (hq : ∀ z, q = some z → z < K) : zM l D cy s0 yX4_isAsTasty cX4_isAsTasty 3 (some .boolean) 1 0 0 [.ref (ad 2 0), .int (nI p), .int (oI q)] ad (xW cy ad sc ar tau js mo cp cn al q3 pa pn) (zPi (asI ts q p) ad (xW cy ad sc ar tau js mo cp cn al q3 pa pn)) := by
  refine zM_of (own := RX4) rfl (by decide) (by simp [Value.category]) (Nat.le_of_ble_eq_true rfl) ?_
  intro X hB
  show V X RX4 cX4_isAsTasty 3 (some .boolean) 0 0 ad (xW cy ad sc ar tau js mo cp cn al q3 pa pn) 0 [some (.ref (ad 2 0)), some (.int (nI p)), some (.int (oI q))] []
  obtain ⟨⟨j0, jK⟩, jp⟩ := id hJ
  obtain ⟨-, -, tp, -, tp9⟩ := jp p hp
  refine v_iload_n dX4_isAsTasty_0 rfl ?_
  refine v_if_lt (tgt := 27) dX4_isAsTasty_1 (by decide) (fun h1 => ?_) (fun h1 => ?_)
  · obtain rfl : q = none := by
      cases q with
      | none => rfl
      | some z => exact absurd h1 (nI_pos (by have := hq z rfl; omega))
    refine v_iconst_v (v := 1) dX4_isAsTasty_27 (by decide) ?_
    refine v_goto (tgt := 32) dX4_isAsTasty_28 (by decide) ?_
    exact v_zret hB (by decide) (by decide) dX4_isAsTasty_32 rfl ⟨congrArg (fun z => some (Value.int z)) (by first | rfl | exact (bI_t (by omega)).symm | exact (bI_f (by omega)).symm), rfl, rfl⟩
  · obtain ⟨z, rfl⟩ : ∃ z, q = some z := by
      cases q with
      | none => exact absurd oI_neg h1
      | some z => exact ⟨z, rfl⟩
    have hz := hq z rfl
    obtain ⟨-, -, tz, -, tz9⟩ := jp z hz
    refine v_iload_n dX4_isAsTasty_4 rfl ?_
    refine v_aload_n dX4_isAsTasty_5 rfl ?_
    refine xg_X4_30 dX4_isAsTasty_6 ?_
    refine v_icmp_ge (tgt := 27) dX4_isAsTasty_9 (by decide) (fun h9 => ?_) (fun h9 => ?_)
    · exact absurd h9 (by rw [j0]; exact nI_ge hz (by omega))
    · refine v_aload_n dX4_isAsTasty_12 rfl ?_
      refine xg_X4_18 dX4_isAsTasty_13 ?_
      refine v_iload_n dX4_isAsTasty_16 rfl ?_
      refine x_ld 3 (L := 30) hB.cy (by decide) (by decide) rfl rfl (by omega) (by decide) dX4_isAsTasty_17 ?_
      refine v_aload_n dX4_isAsTasty_18 rfl ?_
      refine xg_X4_18 dX4_isAsTasty_19 ?_
      refine v_iload_n dX4_isAsTasty_22 rfl ?_
      refine x_ld 3 (L := 30) hB.cy (by decide) (by decide) rfl rfl (by omega) (by decide) dX4_isAsTasty_23 ?_
      refine v_icmp_lt (tgt := 31) dX4_isAsTasty_24 (by decide) (fun h24 => ?_) (fun h24 => ?_)
      · rw [tp, tz, n_ltI (by omega) (by omega)] at h24
        refine v_iconst_v (v := 0) dX4_isAsTasty_31 (by decide) ?_
        exact v_zret hB (by decide) (by decide) dX4_isAsTasty_32 rfl ⟨congrArg (fun z => some (Value.int z)) (by first | rfl | exact (bI_t (by omega)).symm | exact (bI_f (by omega)).symm), rfl, rfl⟩
      · rw [tp, tz, n_ltI (by omega) (by omega)] at h24
        refine v_iconst_v (v := 1) dX4_isAsTasty_27 (by decide) ?_
        refine v_goto (tgt := 32) dX4_isAsTasty_28 (by decide) ?_
        exact v_zret hB (by decide) (by decide) dX4_isAsTasty_32 rfl ⟨congrArg (fun z => some (Value.int z)) (by first | rfl | exact (bI_t (by omega)).symm | exact (bI_f (by omega)).symm), rfl, rfl⟩

set_option maxHeartbeats 4000000 in
set_option maxRecDepth 100000 in
theorem pX4_fillTastiest {l : Launch} {D : va_G} {cy : Nat → ClassId} {s0 : State} {ad : zA} {sc : Nat → Int32} {ar tau : Nat → Nat → Int32} {js mo : Nat → Int32} {cp cn al : Nat → Nat} {q3 pa : Nat → Nat → Int32} {pn : Nat → Nat} {mp ln ts : Nat → Nat} {K : Nat} (hJ : JI mp ln ts K js tau) : zM l D cy s0 yX4_fillTastiest cX4_fillTastiest 4 none 2 0 0 [.ref (ad 2 0)] ad (xW cy ad sc ar tau js mo cp cn al q3 pa pn) (fun r ad2 w2 => r = none ∧ ad2 = ad ∧ ∃ f4, w2 = xW cy ad sc ar (upA tau 4 (f4)) js mo cp cn al q3 pa pn ∧ TI ln ts K f4) := by
  refine zM_of (own := RX4) rfl (by decide) (by simp [Value.category]) (Nat.le_of_ble_eq_true rfl) ?_
  intro X hB
  show V X RX4 cX4_fillTastiest 4 none 0 0 ad (xW cy ad sc ar tau js mo cp cn al q3 pa pn) 0 [some (.ref (ad 2 0)), none, none, none] []
  obtain ⟨⟨j0, jK⟩, jp⟩ := id hJ
  have loop2 : ∀ (m : Nat) (p : Nat) (f4 : Nat → Int32) (z2 z3 : Option Value), p < m → p ≤ K → (∀ r, p ≤ r → r ≤ K → ∀ L, L < 61 → f4 (61 * r + L) = oI (tbR ln ts L (K - r) r)) → V X RX4 cX4_fillTastiest 4 none 0 0 ad (xW cy ad sc ar (upA tau 4 (f4)) js mo cp cn al q3 pa pn) 36 [some (.ref (ad 2 0)), some (.int (nI p - 1)), z2, z3] [] := by
    intro m
    induction m with
    | zero => intro p f4 z2 z3 h1 h2 h3; omega
    | succ m ih =>
      intro p f4 z2 z3 h1 h2 h3
      refine v_iload_n dX4_fillTastiest_36 rfl ?_
      refine v_if_lt (tgt := 111) dX4_fillTastiest_37 (by decide) (fun h37 => ?_) (fun h37 => ?_)
      · have hp0 : p = 0 := by
          rcases Nat.eq_zero_or_pos p with e | e
          · exact e
          · exact absurd h37 (by rw [show (1 : Int32) = nI 1 by decide, pk_sub (by omega)]; exact nI_pos (by omega))
        subst hp0
        exact v_vret hB (by decide) (by decide) dX4_fillTastiest_111 ⟨rfl, rfl, f4, rfl, fun r hr L hL => h3 r (Nat.zero_le _) hr L hL⟩
      · obtain ⟨p, rfl⟩ : ∃ q, p = q + 1 := by
          rcases Nat.eq_zero_or_pos p with e | e
          · exact absurd (show nI p - 1 < 0 by rw [e]; decide) h37
          · exact ⟨p - 1, by omega⟩
        rw [nI_pred]
        obtain ⟨-, jl, jt, jl2, jt9⟩ := jp p (by omega)
        have htb : ∀ z, tbR ln ts (ln p) (K - (p + 1)) (p + 1) = some z → z < K := fun z hz => by have := tbR_in _ _ _ _ _ _ hz; omega
        refine v_iload_n dX4_fillTastiest_40 rfl ?_
        refine v_bipush_v (v := 61) dX4_fillTastiest_41 (by decide) ?_
        refine v_imul dX4_fillTastiest_43 ?_
        refine v_eq (show nI p * 61 = nI (61 * p) by rw [Nat.mul_comm]; exact pk_mul p 61) ?_
        refine v_istore_n2 dX4_fillTastiest_44 (by decide) ?_
        refine v_aload_n dX4_fillTastiest_45 rfl ?_
        refine xg_X4_21 dX4_fillTastiest_46 ?_
        refine v_iload_n dX4_fillTastiest_49 rfl ?_
        refine v_bipush_v (v := 61) dX4_fillTastiest_50 (by decide) ?_
        refine v_iadd dX4_fillTastiest_52 ?_
        refine v_eq (nI_add (61 * p) 61) ?_
        refine v_aload_n dX4_fillTastiest_53 rfl ?_
        refine xg_X4_21 dX4_fillTastiest_54 ?_
        refine v_iload_n dX4_fillTastiest_57 rfl ?_
        refine v_bipush_v (v := 61) dX4_fillTastiest_58 (by decide) ?_
        have hcy := hB.cy
        refine v_cpy1 (kk := 4) (ii := 4) (N := 1891) (f := f4) (sp := 61 * p + 61) (dp := 61 * p) (n := 61) hB ac_X4_44 (show xW _ _ _ _ _ _ _ _ _ _ _ _ _ 4 4 = _ from rfl) (by omega) (by omega) (by decide) (by decide) (Nat.le_of_ble_eq_true rfl) dX4_fillTastiest_60 ?_
        refine v_w (show _ = xW cy ad sc ar (upA tau 4 (va_cpy f4 f4 (61 * p + 61) (61 * p) 61)) js mo cp cn al q3 pa pn from ?_) ?_
        · have e := xU_tau (a := 4) (cy := cy) (ad := ad) (sc := sc) (ar := ar) (tau := upA tau 4 f4) (js := js) (mo := mo) (cp := cp) (cn := cn) (al := al) (q3 := q3) (pa := pa) (pn := pn) (by decide) (by decide) (va_cpy f4 f4 (61 * p + 61) (61 * p) 61)
          rw [up_up] at e
          exact e
        have hcp : ∀ L, L < 61 → va_cpy f4 f4 (61 * p + 61) (61 * p) 61 (61 * p + L) = oI (tbR ln ts L (K - (p + 1)) (p + 1)) := fun L hL => by
          rw [pk_cpy_in (by omega) (by omega), show 61 * p + 61 + (61 * p + L - 61 * p) = 61 * (p + 1) + L by omega]
          exact h3 (p + 1) (by omega) (by omega) L hL
        have hco : ∀ r, p + 1 ≤ r → r ≤ K → ∀ L, L < 61 → va_cpy f4 f4 (61 * p + 61) (61 * p) 61 (61 * r + L) = oI (tbR ln ts L (K - r) r) := fun r hr hr2 L hL => by
          rw [pk_cpy_out (by omega)]
          exact h3 r (by omega) hr2 L hL
        generalize va_cpy f4 f4 (61 * p + 61) (61 * p) 61 = f5 at hcp hco ⊢
        refine v_aload_n dX4_fillTastiest_63 rfl ?_
        refine xg_X4_15 dX4_fillTastiest_64 ?_
        refine v_iload_n dX4_fillTastiest_67 rfl ?_
        refine x_ld 2 (L := 30) hB.cy (by decide) (by decide) rfl rfl (by omega) (by decide) dX4_fillTastiest_68 ?_
        refine v_eq jl ?_
        refine v_istore_n3 dX4_fillTastiest_69 (by decide) ?_
        refine v_iload_n dX4_fillTastiest_70 rfl ?_
        refine v_if_lt (tgt := 105) dX4_fillTastiest_71 (by decide) (fun h71 => ?_) (fun h71 => ?_)
        · exact absurd h71 (nI_pos (by omega))
        · refine v_iload_n dX4_fillTastiest_74 rfl ?_
          refine v_bipush_v (v := 61) dX4_fillTastiest_75 (by decide) ?_
          refine v_icmp_ge (tgt := 105) dX4_fillTastiest_77 (by decide) (fun h77 => ?_) (fun h77 => ?_)
          · exact absurd h77 (nI_ge (b := 61) (by omega) (by decide))
          · refine v_aload_n dX4_fillTastiest_80 rfl ?_
            refine v_iload_n dX4_fillTastiest_81 rfl ?_
            refine v_aload_n dX4_fillTastiest_82 rfl ?_
            refine xg_X4_21 dX4_fillTastiest_83 ?_
            refine v_iload_n dX4_fillTastiest_86 rfl ?_
            refine v_iload_n dX4_fillTastiest_87 rfl ?_
            refine v_iadd dX4_fillTastiest_88 ?_
            refine v_eq (nI_add (61 * p) (ln p)) ?_
            refine x_ld 4 (L := 1891) hB.cy (by decide) (by decide) rfl rfl (by omega) (by decide) dX4_fillTastiest_89 ?_
            refine v_eq (show upA tau 4 f5 4 (61 * p + ln p) = oI (tbR ln ts (ln p) (K - (p + 1)) (p + 1)) from (hcp (ln p) (by omega))) ?_
            refine v_cVi2 hB k_X4_50 (pX4_isAsTasty (mp := mp) (ln := ln) (ts := ts) (K := K) (hJ.up4 f5) (by omega) htb) (by decide) ⟨by decide, by decide⟩ rfl rfl (Nat.le_of_ble_eq_true rfl) dX4_fillTastiest_90 ?_
            refine v_if_eq (tgt := 105) dX4_fillTastiest_93 (by decide) (fun h93 => ?_) (fun h93 => ?_)
            · have hz3 : ∃ z, tbR ln ts (ln p) (K - (p + 1)) (p + 1) = some z ∧ ¬ ts z ≤ ts p := by
                cases hq : tbR ln ts (ln p) (K - (p + 1)) (p + 1) with
                | none => rw [hq] at h93; exact absurd h93 (show ¬ (1 : Int32) = 0 by decide)
                | some z => rw [hq] at h93; exact ⟨z, rfl, bI_eq.mp h93⟩
              refine v_iinc1 (v := -1) dX4_fillTastiest_105 (by decide) (by decide) ?_
              refine v_goto (tgt := 36) dX4_fillTastiest_108 (by decide) ?_
              rw [show nI p + (-1) = nI p - 1 from (Int32.sub_eq_add_neg _ _).symm]
              refine ih p f5 _ _ (by omega) (by omega) (fun r q1 q2 L hL => ?_)
              by_cases e : r = p
              · subst e
                rw [hcp L hL, tb_no ln ts L (K := K) (p := r) (by omega) ?_]
                by_cases e2 : ln r = L
                · subst e2; exact Or.inr hz3
                · exact Or.inl e2
              · exact hco r (by omega) q2 L hL
              -- DONE
            · have hz3 : ∀ z, tbR ln ts (ln p) (K - (p + 1)) (p + 1) = some z → ts z ≤ ts p := fun z hz => by
                rw [hz] at h93; exact bI_ne.mp h93
              refine v_aload_n dX4_fillTastiest_96 rfl ?_
              refine xg_X4_21 dX4_fillTastiest_97 ?_
              refine v_iload_n dX4_fillTastiest_100 rfl ?_
              refine v_iload_n dX4_fillTastiest_101 rfl ?_
              refine v_iadd dX4_fillTastiest_102 ?_
              refine v_eq (nI_add (61 * p) (ln p)) ?_
              refine v_iload_n dX4_fillTastiest_103 rfl ?_
              refine x_st 4 (L := 1891) hB.cy (by decide) (by decide) rfl rfl (by omega) (by decide) dX4_fillTastiest_104 ?_
              
              refine v_iinc1 (v := -1) dX4_fillTastiest_105 (by decide) (by decide) ?_
              refine v_goto (tgt := 36) dX4_fillTastiest_108 (by decide) ?_
              rw [show nI p + (-1) = nI p - 1 from (Int32.sub_eq_add_neg _ _).symm]
              refine v_w (congrArg (fun z => xW cy ad sc ar z js mo cp cn al q3 pa pn) (put_up tau 4 (61 * p + ln p) f5 (nI p))) ?_
              refine ih p _ _ _ (by omega) (by omega) (fun r q1 q2 L hL => ?_)
              by_cases e : r = p
              · subst e
                by_cases e2 : ln r = L
                · subst e2; rw [pk_us, tb_yes ln ts _ (by omega) rfl hz3]; rfl
                · rw [pk_un (by omega), hcp L hL, tb_no ln ts L (K := K) (p := r) (by omega) (Or.inl e2)]
              · rw [pk_un (by omega)]; exact hco r (by omega) q2 L hL
  have K29 : ∀ f4 : Nat → Int32, (∀ L, L < 61 → f4 (61 * K + L) = -1) → V X RX4 cX4_fillTastiest 4 none 0 0 ad (xW cy ad sc ar (upA tau 4 (f4)) js mo cp cn al q3 pa pn) 29 [some (.ref (ad 2 0)), some (.int (nI 61)), none, none] [] := by
    intro f4 h4
    refine v_aload_n dX4_fillTastiest_29 rfl ?_
    refine xg_X4_30 dX4_fillTastiest_30 ?_
    refine v_iconst_v (v := 1) dX4_fillTastiest_33 (by decide) ?_
    refine v_isub dX4_fillTastiest_34 ?_
    refine v_istore_n1 dX4_fillTastiest_35 (by decide) ?_
    rw [show js 0 - 1 = nI K - 1 by rw [j0]]
    refine loop2 (K + 1) K f4 none none (by omega) (by omega) (fun r q1 q2 L hL => ?_)
    rw [show r = K by omega, h4 L hL, Nat.sub_self]; rfl
  have loop1 : ∀ (m : Nat) (i : Nat) (f4 : Nat → Int32), 61 < i + m → i ≤ 61 → (∀ L, L < i → f4 (61 * K + L) = -1) → V X RX4 cX4_fillTastiest 4 none 0 0 ad (xW cy ad sc ar (upA tau 4 (f4)) js mo cp cn al q3 pa pn) 2 [some (.ref (ad 2 0)), some (.int (nI i)), none, none] [] := by
    intro m
    induction m with
    | zero => intro i f4 h1 h2 h3; omega
    | succ m ih =>
      intro i f4 h1 h2 h3
      refine v_iload_n dX4_fillTastiest_2 rfl ?_
      refine v_bipush_v (v := 61) dX4_fillTastiest_3 (by decide) ?_
      refine v_icmp_ge (tgt := 29) dX4_fillTastiest_5 (by decide) (fun h5 => ?_) (fun h5 => ?_)
      · have h5 := (nI_leI (a := 61) (by decide) (by omega)).mp h5
        have e61 : i = 61 := by omega
        subst e61
        exact K29 f4 (fun L hL => h3 L (by omega))
      · have h5 : ¬ 61 ≤ i := fun z => h5 ((nI_leI (a := 61) (by decide) (by omega)).mpr z)
        refine v_aload_n dX4_fillTastiest_8 rfl ?_
        refine xg_X4_21 dX4_fillTastiest_9 ?_
        refine v_aload_n dX4_fillTastiest_12 rfl ?_
        refine xg_X4_30 dX4_fillTastiest_13 ?_
        refine v_bipush_v (v := 61) dX4_fillTastiest_16 (by decide) ?_
        refine v_imul dX4_fillTastiest_18 ?_
        refine v_eq (show js 0 * 61 = nI (61 * K) by rw [j0, Nat.mul_comm]; exact pk_mul K 61) ?_
        refine v_iload_n dX4_fillTastiest_19 rfl ?_
        refine v_iadd dX4_fillTastiest_20 ?_
        refine v_iconst_v (v := -1) dX4_fillTastiest_21 (by decide) ?_
        refine x_st 4 (L := 1891) hB.cy (by decide) (by decide) rfl (nI_add (61 * K) i) (by omega) (by decide) dX4_fillTastiest_22 ?_
        refine v_w (congrArg (fun z => xW cy ad sc ar z js mo cp cn al q3 pa pn) (show putA (upA tau 4 f4) 4 (61 * K + i) (-1) = upA tau 4 (upd f4 (61 * K + i) (-1)) from put_up _ _ _ _ _)) ?_
        refine v_iinc1 (v := 1) dX4_fillTastiest_23 (by decide) (by decide) ?_
        rw [nI_1 i]
        refine v_goto (tgt := 2) dX4_fillTastiest_26 (by decide) ?_
        refine ih (i + 1) _ (by omega) (by omega) (fun L hL => ?_)
        by_cases e : L = i
        · subst e; exact pk_us
        · rw [pk_un (by omega)]; exact h3 L (by omega)
  refine v_iconst_v (v := 0) dX4_fillTastiest_0 (by decide) ?_
  refine v_istore_n1 dX4_fillTastiest_1 (by decide) ?_
  refine v_w (congrArg (fun z => xW cy ad sc ar z js mo cp cn al q3 pa pn) (up_self tau 4).symm) ?_
  exact loop1 62 0 (tau 4) (by omega) (by omega) (fun L hL => absurd hL (Nat.not_lt_zero _))

