set_option maxHeartbeats 4000000 in
set_option maxRecDepth 100000 in
theorem pJx4a65c_size_8abf5 {l : Launch} {D : va_G} {cy : Nat → ClassId} {s0 : State} {ad : zA} {sc : Nat → Int32} {ar tau : Nat → Nat → Int32} {js mo : Nat → Int32} {cp cn al : Nat → Nat} {q3 pa : Nat → Nat → Int32} {pn : Nat → Nat} {k : Nat} (hk : k < 6) : zM l D cy s0 yJx4a65c_size_8abf5 cJx4a65c_size_8abf5 1 (some .int) 1 0 0 [.ref (ad 6 k)] ad (xW cy ad sc ar tau js mo cp cn al q3 pa pn) (zPi (nI (cn k)) ad (xW cy ad sc ar tau js mo cp cn al q3 pa pn)) := by
  refine zM_of (own := RJx4a65c) rfl (by decide) (by simp [Value.category]) (Nat.le_of_ble_eq_true rfl) ?_
  intro X hB
  show V X RJx4a65c cJx4a65c_size_8abf5 1 (some .int) 0 0 ad (xW cy ad sc ar tau js mo cp cn al q3 pa pn) 0 [some (.ref (ad 6 k))] []
  refine v_aload_n dJx4a65c_size_8abf5_0 rfl ?_
  refine xg_Jx4a65c_48 (by omega) dJx4a65c_size_8abf5_1 ?_
  exact v_iret hB (by decide) (by decide) dJx4a65c_size_8abf5_4 ⟨rfl, rfl, rfl⟩

set_option maxHeartbeats 4000000 in
set_option maxRecDepth 100000 in
theorem pJ3_checkIndex_8e157 {l : Launch} {D : va_G} {cy : Nat → ClassId} {s0 : State} {ad : zA} {w : zW} {i n : Nat} (hi : i < n) (hn : n < 2 ^ 31) : zM l D cy s0 yJ3_checkIndex_8e157 cJ3_checkIndex_8e157 3 (some .int) 1 0 0 [.int (nI i), .int (nI n), .null] ad (w) (zPi (nI i) ad w) := by
  refine zM_of (own := RJ3) rfl (by decide) (by simp [Value.category]) (Nat.le_of_ble_eq_true rfl) ?_
  intro X hB
  show V X RJ3 cJ3_checkIndex_8e157 3 (some .int) 0 0 ad (w) 0 [some (.int (nI i)), some (.int (nI n)), some (.null)] []
  refine v_iload_n dJ3_checkIndex_8e157_0 rfl ?_
  refine v_if_lt (tgt := 9) dJ3_checkIndex_8e157_1 (by decide) (fun h1 => ?_) (fun h1 => ?_)
  · exact absurd h1 (nI_pos (by omega))
  · refine v_iload_n dJ3_checkIndex_8e157_4 rfl ?_
    refine v_iload_n dJ3_checkIndex_8e157_5 rfl ?_
    refine v_icmp_lt (tgt := 16) dJ3_checkIndex_8e157_6 (by decide) (fun h6 => ?_) (fun h6 => ?_)
    · refine v_iload_n dJ3_checkIndex_8e157_16 rfl ?_
      exact v_iret hB (by decide) (by decide) dJ3_checkIndex_8e157_17 ⟨rfl, rfl, rfl⟩
    · exact absurd (nI_lt hi hn) h6

set_option maxHeartbeats 4000000 in
set_option maxRecDepth 100000 in
theorem pJ15_checkIndex_7cf53 {l : Launch} {D : va_G} {cy : Nat → ClassId} {s0 : State} {ad : zA} {w : zW} {i n : Nat} (hi : i < n) (hn : n < 2 ^ 31) : zM l D cy s0 yJ15_checkIndex_7cf53 cJ15_checkIndex_7cf53 2 (some .int) 2 0 0 [.int (nI i), .int (nI n)] ad (w) (zPi (nI i) ad w) := by
  refine zM_of (own := RJ15) rfl (by decide) (by simp [Value.category]) (Nat.le_of_ble_eq_true rfl) ?_
  intro X hB
  show V X RJ15 cJ15_checkIndex_7cf53 2 (some .int) 0 0 ad (w) 0 [some (.int (nI i)), some (.int (nI n))] []
  refine v_iload_n dJ15_checkIndex_7cf53_0 rfl ?_
  refine v_iload_n dJ15_checkIndex_7cf53_1 rfl ?_
  refine v_null dJ15_checkIndex_7cf53_2 ?_
  refine v_cSi3 hB k_J15_105 (pJ3_checkIndex_8e157 hi hn) (by decide) ⟨by decide, by decide⟩ (Nat.le_of_ble_eq_true rfl) dJ15_checkIndex_7cf53_3 ?_
  exact v_iret hB (by decide) (by decide) dJ15_checkIndex_7cf53_6 ⟨rfl, rfl, rfl⟩

theorem xEl_at {ad : zA} {k n j : Nat} (h : j < n) : xEl ad k n j = some (ad k j) := if_pos h
set_option maxHeartbeats 4000000 in
set_option maxRecDepth 100000 in
theorem pJx4a65c_elementData_915e3 {l : Launch} {D : va_G} {cy : Nat → ClassId} {s0 : State} {ad : zA} {sc : Nat → Int32} {ar tau : Nat → Nat → Int32} {js mo : Nat → Int32} {cp cn al : Nat → Nat} {q3 pa : Nat → Nat → Int32} {pn : Nat → Nat} {k i : Nat} (hk : k < 6) (hi : i < cn k) (hc : cn k ≤ cp k) (hp : cp k < 2 ^ 31) : zM l D cy s0 yJx4a65c_elementData_915e3 cJx4a65c_elementData_915e3 2 (some (.object "java/lang/Object")) 1 0 0 [.ref (ad 6 k), .int (nI i)] ad (xW cy ad sc ar tau js mo cp cn al q3 pa pn) (zPr (ad (8 + k) i) ad (xW cy ad sc ar tau js mo cp cn al q3 pa pn)) := by
  refine zM_of (own := RJx4a65c) rfl (by decide) (by simp [Value.category]) (Nat.le_of_ble_eq_true rfl) ?_
  intro X hB
  show V X RJx4a65c cJx4a65c_elementData_915e3 2 (some (.object "java/lang/Object")) 0 0 ad (xW cy ad sc ar tau js mo cp cn al q3 pa pn) 0 [some (.ref (ad 6 k)), some (.int (nI i))] []
  refine v_aload_n dJx4a65c_elementData_915e3_0 rfl ?_
  refine xg_Jx4a65c_9 (by omega) dJx4a65c_elementData_915e3_1 ?_
  refine v_iload_n dJx4a65c_elementData_915e3_4 rfl ?_
  have hcy := hB.cy
  refine v_aald (n := cp k) (f := xEl ad (8 + k) (cn k)) (a := ad (8 + k) i) (by rw [hcy]; exact xW_7 hk (by omega)) (vp_in_nI (by omega) hp) (by rw [nI_clamp (by omega)]; exact xEl_at hi) dJx4a65c_elementData_915e3_5 ?_
  exact v_aret (Or.inl ⟨_, rfl⟩) hB (by decide) (by decide) dJx4a65c_elementData_915e3_6 ⟨rfl, rfl, rfl⟩

set_option maxHeartbeats 4000000 in
set_option maxRecDepth 100000 in
theorem pJx4a65c_get_915e3 {l : Launch} {D : va_G} {cy : Nat → ClassId} {s0 : State} {ad : zA} {sc : Nat → Int32} {ar tau : Nat → Nat → Int32} {js mo : Nat → Int32} {cp cn al : Nat → Nat} {q3 pa : Nat → Nat → Int32} {pn : Nat → Nat} {k i : Nat} (hk : k < 6) (hi : i < cn k) (hc : cn k ≤ cp k) (hp : cp k < 2 ^ 31) : zM l D cy s0 yJx4a65c_get_915e3 cJx4a65c_get_915e3 2 (some (.object "java/lang/Object")) 3 0 0 [.ref (ad 6 k), .int (nI i)] ad (xW cy ad sc ar tau js mo cp cn al q3 pa pn) (zPr (ad (8 + k) i) ad (xW cy ad sc ar tau js mo cp cn al q3 pa pn)) := by
  refine zM_of (own := RJx4a65c) rfl (by decide) (by simp [Value.category]) (Nat.le_of_ble_eq_true rfl) ?_
  intro X hB
  show V X RJx4a65c cJx4a65c_get_915e3 2 (some (.object "java/lang/Object")) 0 0 ad (xW cy ad sc ar tau js mo cp cn al q3 pa pn) 0 [some (.ref (ad 6 k)), some (.int (nI i))] []
  refine v_iload_n dJx4a65c_get_915e3_0 rfl ?_
  refine v_aload_n dJx4a65c_get_915e3_1 rfl ?_
  refine xg_Jx4a65c_48 (by omega) dJx4a65c_get_915e3_2 ?_
  refine v_cSi2 hB k_Jx4a65c_118 (pJ15_checkIndex_7cf53 (by omega) (by omega)) (by decide) ⟨by decide, by decide⟩ (Nat.le_of_ble_eq_true rfl) dJx4a65c_get_915e3_5 ?_
  refine v_pop dJx4a65c_get_915e3_8 rfl ?_
  refine v_aload_n dJx4a65c_get_915e3_9 rfl ?_
  refine v_iload_n dJx4a65c_get_915e3_10 rfl ?_
  refine v_cVr1 hB k_Jx4a65c_123 (pJx4a65c_elementData_915e3 hk hi hc hp) (by decide) ⟨by decide, by decide⟩ (xW_Jx4a65c (by omega)) rfl (Nat.le_of_ble_eq_true rfl) dJx4a65c_get_915e3_11 ?_
  exact v_aret (Or.inl ⟨_, rfl⟩) hB (by decide) (by decide) dJx4a65c_get_915e3_14 ⟨rfl, rfl, rfl⟩

set_option maxHeartbeats 4000000 in
set_option maxRecDepth 100000 in
theorem pX9_isFrom {l : Launch} {D : va_G} {cy : Nat → ClassId} {s0 : State} {ad : zA} {w : zW} {v a b : Int32} : zM l D cy s0 yX9_isFrom cX9_isFrom 3 (some .boolean) 1 0 0 [.int v, .int a, .int b] ad (w) (zPi (bI (a ≤ v ∧ v ≤ b)) ad w) := by
  refine zM_of (own := RX9) rfl (by decide) (by simp [Value.category]) (Nat.le_of_ble_eq_true rfl) ?_
  intro X hB
  show V X RX9 cX9_isFrom 3 (some .boolean) 0 0 ad (w) 0 [some (.int v), some (.int a), some (.int b)] []
  refine v_iload_n dX9_isFrom_0 rfl ?_
  refine v_iload_n dX9_isFrom_1 rfl ?_
  refine v_icmp_lt (tgt := 14) dX9_isFrom_2 (by decide) (fun h2 => ?_) (fun h2 => ?_)
  · refine v_iconst_v (v := 0) dX9_isFrom_14 (by decide) ?_
    exact v_zret hB (by decide) (by decide) dX9_isFrom_15 rfl ⟨congrArg (fun z => some (Value.int z)) (by unfold bI; (try simp only [i_nle, i_nlt] at *); rw [if_neg]; rintro ⟨z1, z2⟩; simp only [Int32.lt_iff_toInt_lt, Int32.le_iff_toInt_le] at *; omega), rfl, rfl⟩
  · refine v_iload_n dX9_isFrom_5 rfl ?_
    refine v_iload_n dX9_isFrom_6 rfl ?_
    refine v_icmp_gt (tgt := 14) dX9_isFrom_7 (by decide) (fun h7 => ?_) (fun h7 => ?_)
    · refine v_iconst_v (v := 0) dX9_isFrom_14 (by decide) ?_
      exact v_zret hB (by decide) (by decide) dX9_isFrom_15 rfl ⟨congrArg (fun z => some (Value.int z)) (by unfold bI; (try simp only [i_nle, i_nlt] at *); rw [if_neg]; rintro ⟨z1, z2⟩; simp only [Int32.lt_iff_toInt_lt, Int32.le_iff_toInt_le] at *; omega), rfl, rfl⟩
    · refine v_iconst_v (v := 1) dX9_isFrom_10 (by decide) ?_
      refine v_goto (tgt := 15) dX9_isFrom_11 (by decide) ?_
      exact v_zret hB (by decide) (by decide) dX9_isFrom_15 rfl ⟨congrArg (fun z => some (Value.int z)) (by unfold bI; (try simp only [i_nle, i_nlt] at *); rw [if_pos]; refine ⟨?_, ?_⟩ <;> assumption), rfl, rfl⟩

set_option maxHeartbeats 4000000 in
set_option maxRecDepth 100000 in
theorem pX9_isGrade {l : Launch} {D : va_G} {cy : Nat → ClassId} {s0 : State} {ad : zA} {w : zW} {v : Int32} : zM l D cy s0 yX9_isGrade cX9_isGrade 1 (some .boolean) 2 0 0 [.int v] ad (w) (zPi (bI (1 ≤ v ∧ v ≤ 4)) ad w) := by
  refine zM_of (own := RX9) rfl (by decide) (by simp [Value.category]) (Nat.le_of_ble_eq_true rfl) ?_
  intro X hB
  show V X RX9 cX9_isGrade 1 (some .boolean) 0 0 ad (w) 0 [some (.int v)] []
  refine v_iload_n dX9_isGrade_0 rfl ?_
  refine v_iconst_v (v := 1) dX9_isGrade_1 (by decide) ?_
  refine v_iconst_v (v := 4) dX9_isGrade_2 (by decide) ?_
  refine v_cSi3 hB k_X9_69 pX9_isFrom (by decide) ⟨by decide, by decide⟩ (Nat.le_of_ble_eq_true rfl) dX9_isGrade_3 ?_
  exact v_zret hB (by decide) (by decide) dX9_isGrade_6 (bI_n _) ⟨rfl, rfl, rfl⟩

set_option maxHeartbeats 4000000 in
set_option maxRecDepth 100000 in
theorem pX9_isFamily {l : Launch} {D : va_G} {cy : Nat → ClassId} {s0 : State} {ad : zA} {sc : Nat → Int32} {ar tau : Nat → Nat → Int32} {js mo : Nat → Int32} {cp cn al : Nat → Nat} {q3 pa : Nat → Nat → Int32} {pn : Nat → Nat} {f : Int32} : zM l D cy s0 yX9_isFamily cX9_isFamily 2 (some .boolean) 2 0 0 [.ref (ad 0 0), .int f] ad (xW cy ad sc ar tau js mo cp cn al q3 pa pn) (zPi (bI (0 ≤ f ∧ f < nI (cn 0))) ad (xW cy ad sc ar tau js mo cp cn al q3 pa pn)) := by
  refine zM_of (own := RX9) rfl (by decide) (by simp [Value.category]) (Nat.le_of_ble_eq_true rfl) ?_
  intro X hB
  show V X RX9 cX9_isFamily 2 (some .boolean) 0 0 ad (xW cy ad sc ar tau js mo cp cn al q3 pa pn) 0 [some (.ref (ad 0 0)), some (.int f)] []
  refine v_iload_n dX9_isFamily_0 rfl ?_
  refine v_if_lt (tgt := 19) dX9_isFamily_1 (by decide) (fun h1 => ?_) (fun h1 => ?_)
  · refine v_iconst_v (v := 0) dX9_isFamily_19 (by decide) ?_
    exact v_zret hB (by decide) (by decide) dX9_isFamily_20 rfl ⟨congrArg (fun z => some (Value.int z)) (by unfold bI; (try simp only [i_nle, i_nlt] at *); rw [if_neg]; rintro ⟨z1, z2⟩; simp only [Int32.lt_iff_toInt_lt, Int32.le_iff_toInt_le] at *; omega), rfl, rfl⟩
  · refine v_iload_n dX9_isFamily_4 rfl ?_
    refine v_aload_n dX9_isFamily_5 rfl ?_
    refine xg_X9_10 dX9_isFamily_6 ?_
    refine v_cVi0 hB k_X9_77 (pJx4a65c_size_8abf5 (by omega)) (by decide) ⟨by decide, by decide⟩ rfl rfl (Nat.le_of_ble_eq_true rfl) dX9_isFamily_9 ?_
    refine v_icmp_ge (tgt := 19) dX9_isFamily_12 (by decide) (fun h12 => ?_) (fun h12 => ?_)
    · refine v_iconst_v (v := 0) dX9_isFamily_19 (by decide) ?_
      exact v_zret hB (by decide) (by decide) dX9_isFamily_20 rfl ⟨congrArg (fun z => some (Value.int z)) (by unfold bI; (try simp only [i_nle, i_nlt] at *); rw [if_neg]; rintro ⟨z1, z2⟩; simp only [Int32.lt_iff_toInt_lt, Int32.le_iff_toInt_le] at *; omega), rfl, rfl⟩
    · refine v_iconst_v (v := 1) dX9_isFamily_15 (by decide) ?_
      refine v_goto (tgt := 20) dX9_isFamily_16 (by decide) ?_
      exact v_zret hB (by decide) (by decide) dX9_isFamily_20 rfl ⟨congrArg (fun z => some (Value.int z)) (by unfold bI; (try simp only [i_nle, i_nlt] at *); rw [if_pos]; refine ⟨?_, ?_⟩ <;> assumption), rfl, rfl⟩

set_option maxHeartbeats 4000000 in
set_option maxRecDepth 100000 in
theorem pX9_isGarden {l : Launch} {D : va_G} {cy : Nat → ClassId} {s0 : State} {ad : zA} {sc : Nat → Int32} {ar tau : Nat → Nat → Int32} {js mo : Nat → Int32} {cp cn al : Nat → Nat} {q3 pa : Nat → Nat → Int32} {pn : Nat → Nat} {f : Int32} : zM l D cy s0 yX9_isGarden cX9_isGarden 2 (some .boolean) 2 0 0 [.ref (ad 0 0), .int f] ad (xW cy ad sc ar tau js mo cp cn al q3 pa pn) (zPi (bI (0 ≤ f ∧ f < nI (cn 1))) ad (xW cy ad sc ar tau js mo cp cn al q3 pa pn)) := by
  refine zM_of (own := RX9) rfl (by decide) (by simp [Value.category]) (Nat.le_of_ble_eq_true rfl) ?_
  intro X hB
  show V X RX9 cX9_isGarden 2 (some .boolean) 0 0 ad (xW cy ad sc ar tau js mo cp cn al q3 pa pn) 0 [some (.ref (ad 0 0)), some (.int f)] []
  refine v_iload_n dX9_isGarden_0 rfl ?_
  refine v_if_lt (tgt := 19) dX9_isGarden_1 (by decide) (fun h1 => ?_) (fun h1 => ?_)
  · refine v_iconst_v (v := 0) dX9_isGarden_19 (by decide) ?_
    exact v_zret hB (by decide) (by decide) dX9_isGarden_20 rfl ⟨congrArg (fun z => some (Value.int z)) (by unfold bI; (try simp only [i_nle, i_nlt] at *); rw [if_neg]; rintro ⟨z1, z2⟩; simp only [Int32.lt_iff_toInt_lt, Int32.le_iff_toInt_le] at *; omega), rfl, rfl⟩
  · refine v_iload_n dX9_isGarden_4 rfl ?_
    refine v_aload_n dX9_isGarden_5 rfl ?_
    refine xg_X9_16 dX9_isGarden_6 ?_
    refine v_cVi0 hB k_X9_77 (pJx4a65c_size_8abf5 (by omega)) (by decide) ⟨by decide, by decide⟩ rfl rfl (Nat.le_of_ble_eq_true rfl) dX9_isGarden_9 ?_
    refine v_icmp_ge (tgt := 19) dX9_isGarden_12 (by decide) (fun h12 => ?_) (fun h12 => ?_)
    · refine v_iconst_v (v := 0) dX9_isGarden_19 (by decide) ?_
      exact v_zret hB (by decide) (by decide) dX9_isGarden_20 rfl ⟨congrArg (fun z => some (Value.int z)) (by unfold bI; (try simp only [i_nle, i_nlt] at *); rw [if_neg]; rintro ⟨z1, z2⟩; simp only [Int32.lt_iff_toInt_lt, Int32.le_iff_toInt_le] at *; omega), rfl, rfl⟩
    · refine v_iconst_v (v := 1) dX9_isGarden_15 (by decide) ?_
      refine v_goto (tgt := 20) dX9_isGarden_16 (by decide) ?_
      exact v_zret hB (by decide) (by decide) dX9_isGarden_20 rfl ⟨congrArg (fun z => some (Value.int z)) (by unfold bI; (try simp only [i_nle, i_nlt] at *); rw [if_pos]; refine ⟨?_, ?_⟩ <;> assumption), rfl, rfl⟩

set_option maxHeartbeats 4000000 in
set_option maxRecDepth 100000 in
theorem pX9_isStrip {l : Launch} {D : va_G} {cy : Nat → ClassId} {s0 : State} {ad : zA} {sc : Nat → Int32} {ar tau : Nat → Nat → Int32} {js mo : Nat → Int32} {cp cn al : Nat → Nat} {q3 pa : Nat → Nat → Int32} {pn : Nat → Nat} {f : Int32} : zM l D cy s0 yX9_isStrip cX9_isStrip 2 (some .boolean) 2 0 0 [.ref (ad 0 0), .int f] ad (xW cy ad sc ar tau js mo cp cn al q3 pa pn) (zPi (bI (0 ≤ f ∧ f < nI (cn 2))) ad (xW cy ad sc ar tau js mo cp cn al q3 pa pn)) := by
  refine zM_of (own := RX9) rfl (by decide) (by simp [Value.category]) (Nat.le_of_ble_eq_true rfl) ?_
  intro X hB
  show V X RX9 cX9_isStrip 2 (some .boolean) 0 0 ad (xW cy ad sc ar tau js mo cp cn al q3 pa pn) 0 [some (.ref (ad 0 0)), some (.int f)] []
  refine v_iload_n dX9_isStrip_0 rfl ?_
  refine v_if_lt (tgt := 19) dX9_isStrip_1 (by decide) (fun h1 => ?_) (fun h1 => ?_)
  · refine v_iconst_v (v := 0) dX9_isStrip_19 (by decide) ?_
    exact v_zret hB (by decide) (by decide) dX9_isStrip_20 rfl ⟨congrArg (fun z => some (Value.int z)) (by unfold bI; (try simp only [i_nle, i_nlt] at *); rw [if_neg]; rintro ⟨z1, z2⟩; simp only [Int32.lt_iff_toInt_lt, Int32.le_iff_toInt_le] at *; omega), rfl, rfl⟩
  · refine v_iload_n dX9_isStrip_4 rfl ?_
    refine v_aload_n dX9_isStrip_5 rfl ?_
    refine xg_X9_19 dX9_isStrip_6 ?_
    refine v_cVi0 hB k_X9_77 (pJx4a65c_size_8abf5 (by omega)) (by decide) ⟨by decide, by decide⟩ rfl rfl (Nat.le_of_ble_eq_true rfl) dX9_isStrip_9 ?_
    refine v_icmp_ge (tgt := 19) dX9_isStrip_12 (by decide) (fun h12 => ?_) (fun h12 => ?_)
    · refine v_iconst_v (v := 0) dX9_isStrip_19 (by decide) ?_
      exact v_zret hB (by decide) (by decide) dX9_isStrip_20 rfl ⟨congrArg (fun z => some (Value.int z)) (by unfold bI; (try simp only [i_nle, i_nlt] at *); rw [if_neg]; rintro ⟨z1, z2⟩; simp only [Int32.lt_iff_toInt_lt, Int32.le_iff_toInt_le] at *; omega), rfl, rfl⟩
    · refine v_iconst_v (v := 1) dX9_isStrip_15 (by decide) ?_
      refine v_goto (tgt := 20) dX9_isStrip_16 (by decide) ?_
      exact v_zret hB (by decide) (by decide) dX9_isStrip_20 rfl ⟨congrArg (fun z => some (Value.int z)) (by unfold bI; (try simp only [i_nle, i_nlt] at *); rw [if_pos]; refine ⟨?_, ?_⟩ <;> assumption), rfl, rfl⟩

set_option maxHeartbeats 4000000 in
set_option maxRecDepth 100000 in
theorem pX9_isQuill {l : Launch} {D : va_G} {cy : Nat → ClassId} {s0 : State} {ad : zA} {sc : Nat → Int32} {ar tau : Nat → Nat → Int32} {js mo : Nat → Int32} {cp cn al : Nat → Nat} {q3 pa : Nat → Nat → Int32} {pn : Nat → Nat} {f : Int32} : zM l D cy s0 yX9_isQuill cX9_isQuill 2 (some .boolean) 2 0 0 [.ref (ad 0 0), .int f] ad (xW cy ad sc ar tau js mo cp cn al q3 pa pn) (zPi (bI (0 ≤ f ∧ f < nI (cn 3))) ad (xW cy ad sc ar tau js mo cp cn al q3 pa pn)) := by
  refine zM_of (own := RX9) rfl (by decide) (by simp [Value.category]) (Nat.le_of_ble_eq_true rfl) ?_
  intro X hB
  show V X RX9 cX9_isQuill 2 (some .boolean) 0 0 ad (xW cy ad sc ar tau js mo cp cn al q3 pa pn) 0 [some (.ref (ad 0 0)), some (.int f)] []
  refine v_iload_n dX9_isQuill_0 rfl ?_
  refine v_if_lt (tgt := 19) dX9_isQuill_1 (by decide) (fun h1 => ?_) (fun h1 => ?_)
  · refine v_iconst_v (v := 0) dX9_isQuill_19 (by decide) ?_
    exact v_zret hB (by decide) (by decide) dX9_isQuill_20 rfl ⟨congrArg (fun z => some (Value.int z)) (by unfold bI; (try simp only [i_nle, i_nlt] at *); rw [if_neg]; rintro ⟨z1, z2⟩; simp only [Int32.lt_iff_toInt_lt, Int32.le_iff_toInt_le] at *; omega), rfl, rfl⟩
  · refine v_iload_n dX9_isQuill_4 rfl ?_
    refine v_aload_n dX9_isQuill_5 rfl ?_
    refine xg_X9_22 dX9_isQuill_6 ?_
    refine v_cVi0 hB k_X9_77 (pJx4a65c_size_8abf5 (by omega)) (by decide) ⟨by decide, by decide⟩ rfl rfl (Nat.le_of_ble_eq_true rfl) dX9_isQuill_9 ?_
    refine v_icmp_ge (tgt := 19) dX9_isQuill_12 (by decide) (fun h12 => ?_) (fun h12 => ?_)
    · refine v_iconst_v (v := 0) dX9_isQuill_19 (by decide) ?_
      exact v_zret hB (by decide) (by decide) dX9_isQuill_20 rfl ⟨congrArg (fun z => some (Value.int z)) (by unfold bI; (try simp only [i_nle, i_nlt] at *); rw [if_neg]; rintro ⟨z1, z2⟩; simp only [Int32.lt_iff_toInt_lt, Int32.le_iff_toInt_le] at *; omega), rfl, rfl⟩
    · refine v_iconst_v (v := 1) dX9_isQuill_15 (by decide) ?_
      refine v_goto (tgt := 20) dX9_isQuill_16 (by decide) ?_
      exact v_zret hB (by decide) (by decide) dX9_isQuill_20 rfl ⟨congrArg (fun z => some (Value.int z)) (by unfold bI; (try simp only [i_nle, i_nlt] at *); rw [if_pos]; refine ⟨?_, ?_⟩ <;> assumption), rfl, rfl⟩

set_option maxHeartbeats 4000000 in
set_option maxRecDepth 100000 in
theorem pX9_isBale {l : Launch} {D : va_G} {cy : Nat → ClassId} {s0 : State} {ad : zA} {sc : Nat → Int32} {ar tau : Nat → Nat → Int32} {js mo : Nat → Int32} {cp cn al : Nat → Nat} {q3 pa : Nat → Nat → Int32} {pn : Nat → Nat} {f : Int32} : zM l D cy s0 yX9_isBale cX9_isBale 2 (some .boolean) 2 0 0 [.ref (ad 0 0), .int f] ad (xW cy ad sc ar tau js mo cp cn al q3 pa pn) (zPi (bI (0 ≤ f ∧ f < nI (cn 4))) ad (xW cy ad sc ar tau js mo cp cn al q3 pa pn)) := by
  refine zM_of (own := RX9) rfl (by decide) (by simp [Value.category]) (Nat.le_of_ble_eq_true rfl) ?_
  intro X hB
  show V X RX9 cX9_isBale 2 (some .boolean) 0 0 ad (xW cy ad sc ar tau js mo cp cn al q3 pa pn) 0 [some (.ref (ad 0 0)), some (.int f)] []
  refine v_iload_n dX9_isBale_0 rfl ?_
  refine v_if_lt (tgt := 19) dX9_isBale_1 (by decide) (fun h1 => ?_) (fun h1 => ?_)
  · refine v_iconst_v (v := 0) dX9_isBale_19 (by decide) ?_
    exact v_zret hB (by decide) (by decide) dX9_isBale_20 rfl ⟨congrArg (fun z => some (Value.int z)) (by unfold bI; (try simp only [i_nle, i_nlt] at *); rw [if_neg]; rintro ⟨z1, z2⟩; simp only [Int32.lt_iff_toInt_lt, Int32.le_iff_toInt_le] at *; omega), rfl, rfl⟩
  · refine v_iload_n dX9_isBale_4 rfl ?_
    refine v_aload_n dX9_isBale_5 rfl ?_
    refine xg_X9_25 dX9_isBale_6 ?_
    refine v_cVi0 hB k_X9_77 (pJx4a65c_size_8abf5 (by omega)) (by decide) ⟨by decide, by decide⟩ rfl rfl (Nat.le_of_ble_eq_true rfl) dX9_isBale_9 ?_
    refine v_icmp_ge (tgt := 19) dX9_isBale_12 (by decide) (fun h12 => ?_) (fun h12 => ?_)
    · refine v_iconst_v (v := 0) dX9_isBale_19 (by decide) ?_
      exact v_zret hB (by decide) (by decide) dX9_isBale_20 rfl ⟨congrArg (fun z => some (Value.int z)) (by unfold bI; (try simp only [i_nle, i_nlt] at *); rw [if_neg]; rintro ⟨z1, z2⟩; simp only [Int32.lt_iff_toInt_lt, Int32.le_iff_toInt_le] at *; omega), rfl, rfl⟩
    · refine v_iconst_v (v := 1) dX9_isBale_15 (by decide) ?_
      refine v_goto (tgt := 20) dX9_isBale_16 (by decide) ?_
      exact v_zret hB (by decide) (by decide) dX9_isBale_20 rfl ⟨congrArg (fun z => some (Value.int z)) (by unfold bI; (try simp only [i_nle, i_nlt] at *); rw [if_pos]; refine ⟨?_, ?_⟩ <;> assumption), rfl, rfl⟩

set_option maxHeartbeats 4000000 in
set_option maxRecDepth 100000 in
theorem pX9_isChest {l : Launch} {D : va_G} {cy : Nat → ClassId} {s0 : State} {ad : zA} {sc : Nat → Int32} {ar tau : Nat → Nat → Int32} {js mo : Nat → Int32} {cp cn al : Nat → Nat} {q3 pa : Nat → Nat → Int32} {pn : Nat → Nat} {f : Int32} : zM l D cy s0 yX9_isChest cX9_isChest 2 (some .boolean) 2 0 0 [.ref (ad 0 0), .int f] ad (xW cy ad sc ar tau js mo cp cn al q3 pa pn) (zPi (bI (0 ≤ f ∧ f < nI (cn 5))) ad (xW cy ad sc ar tau js mo cp cn al q3 pa pn)) := by
  refine zM_of (own := RX9) rfl (by decide) (by simp [Value.category]) (Nat.le_of_ble_eq_true rfl) ?_
  intro X hB
  show V X RX9 cX9_isChest 2 (some .boolean) 0 0 ad (xW cy ad sc ar tau js mo cp cn al q3 pa pn) 0 [some (.ref (ad 0 0)), some (.int f)] []
  refine v_iload_n dX9_isChest_0 rfl ?_
  refine v_if_lt (tgt := 19) dX9_isChest_1 (by decide) (fun h1 => ?_) (fun h1 => ?_)
  · refine v_iconst_v (v := 0) dX9_isChest_19 (by decide) ?_
    exact v_zret hB (by decide) (by decide) dX9_isChest_20 rfl ⟨congrArg (fun z => some (Value.int z)) (by unfold bI; (try simp only [i_nle, i_nlt] at *); rw [if_neg]; rintro ⟨z1, z2⟩; simp only [Int32.lt_iff_toInt_lt, Int32.le_iff_toInt_le] at *; omega), rfl, rfl⟩
  · refine v_iload_n dX9_isChest_4 rfl ?_
    refine v_aload_n dX9_isChest_5 rfl ?_
    refine xg_X9_28 dX9_isChest_6 ?_
    refine v_cVi0 hB k_X9_77 (pJx4a65c_size_8abf5 (by omega)) (by decide) ⟨by decide, by decide⟩ rfl rfl (Nat.le_of_ble_eq_true rfl) dX9_isChest_9 ?_
    refine v_icmp_ge (tgt := 19) dX9_isChest_12 (by decide) (fun h12 => ?_) (fun h12 => ?_)
    · refine v_iconst_v (v := 0) dX9_isChest_19 (by decide) ?_
      exact v_zret hB (by decide) (by decide) dX9_isChest_20 rfl ⟨congrArg (fun z => some (Value.int z)) (by unfold bI; (try simp only [i_nle, i_nlt] at *); rw [if_neg]; rintro ⟨z1, z2⟩; simp only [Int32.lt_iff_toInt_lt, Int32.le_iff_toInt_le] at *; omega), rfl, rfl⟩
    · refine v_iconst_v (v := 1) dX9_isChest_15 (by decide) ?_
      refine v_goto (tgt := 20) dX9_isChest_16 (by decide) ?_
      exact v_zret hB (by decide) (by decide) dX9_isChest_20 rfl ⟨congrArg (fun z => some (Value.int z)) (by unfold bI; (try simp only [i_nle, i_nlt] at *); rw [if_pos]; refine ⟨?_, ?_⟩ <;> assumption), rfl, rfl⟩

set_option maxHeartbeats 4000000 in
set_option maxRecDepth 100000 in
theorem pX9_refuse {l : Launch} {D : va_G} {cy : Nat → ClassId} {s0 : State} {ad : zA} {sc : Nat → Int32} {ar tau : Nat → Nat → Int32} {js mo : Nat → Int32} {cp cn al : Nat → Nat} {q3 pa : Nat → Nat → Int32} {pn : Nat → Nat} {x : Int32} : zM l D cy s0 yX9_refuse cX9_refuse 2 (some .int) 1 0 0 [.ref (ad 0 0), .int x] ad (xW cy ad sc ar tau js mo cp cn al q3 pa pn) (zPi (-1) ad (xW cy ad (upd sc 1 x) ar tau js mo cp cn al q3 pa pn)) := by
  refine zM_of (own := RX9) rfl (by decide) (by simp [Value.category]) (Nat.le_of_ble_eq_true rfl) ?_
  intro X hB
  show V X RX9 cX9_refuse 2 (some .int) 0 0 ad (xW cy ad sc ar tau js mo cp cn al q3 pa pn) 0 [some (.ref (ad 0 0)), some (.int x)] []
  refine v_aload_n dX9_refuse_0 rfl ?_
  refine v_iload_n dX9_refuse_1 rfl ?_
  refine xp_X9_66 dX9_refuse_2 ?_
  refine v_iconst_v (v := -1) dX9_refuse_5 (by decide) ?_
  exact v_iret hB (by decide) (by decide) dX9_refuse_6 ⟨rfl, rfl, rfl⟩

set_option maxHeartbeats 4000000 in
set_option maxRecDepth 100000 in
theorem pX9_accept {l : Launch} {D : va_G} {cy : Nat → ClassId} {s0 : State} {ad : zA} {sc : Nat → Int32} {ar tau : Nat → Nat → Int32} {js mo : Nat → Int32} {cp cn al : Nat → Nat} {q3 pa : Nat → Nat → Int32} {pn : Nat → Nat} {x : Int32} : zM l D cy s0 yX9_accept cX9_accept 2 (some .int) 1 0 0 [.ref (ad 0 0), .int x] ad (xW cy ad sc ar tau js mo cp cn al q3 pa pn) (zPi x ad (xW cy ad (upd sc 1 0) ar tau js mo cp cn al q3 pa pn)) := by
  refine zM_of (own := RX9) rfl (by decide) (by simp [Value.category]) (Nat.le_of_ble_eq_true rfl) ?_
  intro X hB
  show V X RX9 cX9_accept 2 (some .int) 0 0 ad (xW cy ad sc ar tau js mo cp cn al q3 pa pn) 0 [some (.ref (ad 0 0)), some (.int x)] []
  refine v_aload_n dX9_accept_0 rfl ?_
  refine v_iconst_v (v := 0) dX9_accept_1 (by decide) ?_
  refine xp_X9_66 dX9_accept_2 ?_
  refine v_iload_n dX9_accept_5 rfl ?_
  exact v_iret hB (by decide) (by decide) dX9_accept_6 ⟨rfl, rfl, rfl⟩

set_option maxHeartbeats 4000000 in
set_option maxRecDepth 100000 in
theorem pX9_ended {l : Launch} {D : va_G} {cy : Nat → ClassId} {s0 : State} {ad : zA} {sc : Nat → Int32} {ar tau : Nat → Nat → Int32} {js mo : Nat → Int32} {cp cn al : Nat → Nat} {q3 pa : Nat → Nat → Int32} {pn : Nat → Nat} {x : Int32} : zM l D cy s0 yX9_ended cX9_ended 2 (some .boolean) 1 0 0 [.ref (ad 0 0), .int x] ad (xW cy ad sc ar tau js mo cp cn al q3 pa pn) (zPi (bI (x = 0)) ad (xW cy ad (upd sc 1 x) ar tau js mo cp cn al q3 pa pn)) := by
  refine zM_of (own := RX9) rfl (by decide) (by simp [Value.category]) (Nat.le_of_ble_eq_true rfl) ?_
  intro X hB
  show V X RX9 cX9_ended 2 (some .boolean) 0 0 ad (xW cy ad sc ar tau js mo cp cn al q3 pa pn) 0 [some (.ref (ad 0 0)), some (.int x)] []
  refine v_aload_n dX9_ended_0 rfl ?_
  refine v_iload_n dX9_ended_1 rfl ?_
  refine xp_X9_66 dX9_ended_2 ?_
  refine v_iload_n dX9_ended_5 rfl ?_
  refine v_if_ne (tgt := 13) dX9_ended_6 (by decide) (fun h6 => ?_) (fun h6 => ?_)
  · refine v_iconst_v (v := 0) dX9_ended_13 (by decide) ?_
    exact v_zret hB (by decide) (by decide) dX9_ended_14 rfl ⟨congrArg (fun z => some (Value.int z)) ((bI_f h6).symm), rfl, rfl⟩
  · refine v_iconst_v (v := 1) dX9_ended_9 (by decide) ?_
    refine v_goto (tgt := 14) dX9_ended_10 (by decide) ?_
    exact v_zret hB (by decide) (by decide) dX9_ended_14 rfl ⟨congrArg (fun z => some (Value.int z)) ((bI_t h6).symm), rfl, rfl⟩

set_option maxHeartbeats 4000000 in
set_option maxRecDepth 100000 in
theorem pX9_thisYear {l : Launch} {D : va_G} {cy : Nat → ClassId} {s0 : State} {ad : zA} {sc : Nat → Int32} {ar tau : Nat → Nat → Int32} {js mo : Nat → Int32} {cp cn al : Nat → Nat} {q3 pa : Nat → Nat → Int32} {pn : Nat → Nat}  : zM l D cy s0 yX9_thisYear cX9_thisYear 1 (some .int) 1 0 0 [.ref (ad 0 0)] ad (xW cy ad sc ar tau js mo cp cn al q3 pa pn) (zPi (sc 8 / 60) ad (xW cy ad sc ar tau js mo cp cn al q3 pa pn)) := by
  refine zM_of (own := RX9) rfl (by decide) (by simp [Value.category]) (Nat.le_of_ble_eq_true rfl) ?_
  intro X hB
  show V X RX9 cX9_thisYear 1 (some .int) 0 0 ad (xW cy ad sc ar tau js mo cp cn al q3 pa pn) 0 [some (.ref (ad 0 0))] []
  refine v_aload_n dX9_thisYear_0 rfl ?_
  refine xg_X9_63 dX9_thisYear_1 ?_
  refine v_bipush_v (v := 60) dX9_thisYear_4 (by decide) ?_
  refine v_idiv dX9_thisYear_6 (by decide) ?_
  exact v_iret hB (by decide) (by decide) dX9_thisYear_7 ⟨rfl, rfl, rfl⟩

set_option maxHeartbeats 4000000 in
set_option maxRecDepth 100000 in
theorem pX2_beginYear {l : Launch} {D : va_G} {cy : Nat → ClassId} {s0 : State} {ad : zA} {sc : Nat → Int32} {ar tau : Nat → Nat → Int32} {js mo : Nat → Int32} {cp cn al : Nat → Nat} {q3 pa : Nat → Nat → Int32} {pn : Nat → Nat} {i : Nat} (hi : i < al 0) : zM l D cy s0 yX2_beginYear cX2_beginYear 1 none 1 0 0 [.ref (ad 8 i)] ad (xW cy ad sc ar tau js mo cp cn al q3 pa pn) (zPv ad (xW cy ad sc (putA (putA ar 13 i (ar 13 i + (ar 11 i - ar 12 i))) 12 i 0) tau js mo cp cn al q3 pa pn)) := by
  refine zM_of (own := RX2) rfl (by decide) (by simp [Value.category]) (Nat.le_of_ble_eq_true rfl) ?_
  intro X hB
  show V X RX2 cX2_beginYear 1 none 0 0 ad (xW cy ad sc ar tau js mo cp cn al q3 pa pn) 0 [some (.ref (ad 8 i))] []
  refine v_aload_n dX2_beginYear_0 rfl ?_
  refine v_dup dX2_beginYear_1 rfl ?_
  refine xg_X2_13 (by omega) dX2_beginYear_2 ?_
  refine v_aload_n dX2_beginYear_5 rfl ?_
  refine xg_X2_7 (by omega) dX2_beginYear_6 ?_
  refine v_aload_n dX2_beginYear_9 rfl ?_
  refine xg_X2_16 (by omega) dX2_beginYear_10 ?_
  refine v_isub dX2_beginYear_13 ?_
  refine v_iadd dX2_beginYear_14 ?_
  refine xp_X2_13 (by omega) dX2_beginYear_15 ?_
  refine v_aload_n dX2_beginYear_18 rfl ?_
  refine v_iconst_v (v := 0) dX2_beginYear_19 (by decide) ?_
  refine xp_X2_16 (by omega) dX2_beginYear_20 ?_
  exact v_vret hB (by decide) (by decide) dX2_beginYear_23 ⟨rfl, rfl, rfl⟩

set_option maxHeartbeats 4000000 in
set_option maxRecDepth 100000 in
theorem pX2_owesAndGives {l : Launch} {D : va_G} {cy : Nat → ClassId} {s0 : State} {ad : zA} {sc : Nat → Int32} {ar tau : Nat → Nat → Int32} {js mo : Nat → Int32} {cp cn al : Nat → Nat} {q3 pa : Nat → Nat → Int32} {pn : Nat → Nat} {i : Nat} (hi : i < al 0) : zM l D cy s0 yX2_owesAndGives cX2_owesAndGives 1 (some .boolean) 1 0 0 [.ref (ad 8 i)] ad (xW cy ad sc ar tau js mo cp cn al q3 pa pn) (zPi (bDu i ar) ad (xW cy ad sc (bA6 i ar) tau js mo cp cn al q3 pa pn)) := by
  refine zM_of (own := RX2) rfl (by decide) (by simp [Value.category]) (Nat.le_of_ble_eq_true rfl) ?_
  intro X hB
  show V X RX2 cX2_owesAndGives 1 (some .boolean) 0 0 ad (xW cy ad sc ar tau js mo cp cn al q3 pa pn) 0 [some (.ref (ad 8 i))] []
  refine v_aload_n dX2_owesAndGives_0 rfl ?_
  refine xg_X2_13 (by omega) dX2_owesAndGives_1 ?_
  refine v_if_le (tgt := 19) dX2_owesAndGives_4 (by decide) (fun h4 => ?_) (fun h4 => ?_)
  · refine v_aload_n dX2_owesAndGives_19 rfl ?_
    refine xg_X2_16 (by omega) dX2_owesAndGives_20 ?_
    refine v_aload_n dX2_owesAndGives_23 rfl ?_
    refine xg_X2_7 (by omega) dX2_owesAndGives_24 ?_
    refine v_icmp_ge (tgt := 42) dX2_owesAndGives_27 (by decide) (fun h27 => ?_) (fun h27 => ?_)
    · refine v_iconst_v (v := 0) dX2_owesAndGives_42 (by decide) ?_
      exact v_zret hB (by decide) (by decide) dX2_owesAndGives_43 rfl ⟨congrArg (fun z => some (Value.int z)) (by unfold bDu; rw [bI_f (fun z => z.elim (i_nlt.mpr h4) (i_nlt.mpr h27))]), rfl, by unfold bA6; rw [if_neg (i_nlt.mpr h4), if_neg (i_nlt.mpr h27)]⟩
    · refine v_aload_n dX2_owesAndGives_30 rfl ?_
      refine v_dup dX2_owesAndGives_31 rfl ?_
      refine xg_X2_16 (by omega) dX2_owesAndGives_32 ?_
      refine v_iconst_v (v := 1) dX2_owesAndGives_35 (by decide) ?_
      refine v_iadd dX2_owesAndGives_36 ?_
      refine xp_X2_16 (by omega) dX2_owesAndGives_37 ?_
      refine v_iconst_v (v := 1) dX2_owesAndGives_40 (by decide) ?_
      exact v_zret hB (by decide) (by decide) dX2_owesAndGives_41 rfl ⟨congrArg (fun z => some (Value.int z)) (by unfold bDu; rw [bI_t (Or.inr (i_nle.mp h27))]), rfl, by unfold bA6; rw [if_neg (i_nlt.mpr h4), if_pos (i_nle.mp h27)]⟩
  · refine v_aload_n dX2_owesAndGives_7 rfl ?_
    refine v_dup dX2_owesAndGives_8 rfl ?_
    refine xg_X2_13 (by omega) dX2_owesAndGives_9 ?_
    refine v_iconst_v (v := 1) dX2_owesAndGives_12 (by decide) ?_
    refine v_isub dX2_owesAndGives_13 ?_
    refine xp_X2_13 (by omega) dX2_owesAndGives_14 ?_
    refine v_iconst_v (v := 1) dX2_owesAndGives_17 (by decide) ?_
    exact v_zret hB (by decide) (by decide) dX2_owesAndGives_18 rfl ⟨congrArg (fun z => some (Value.int z)) (by unfold bDu; rw [bI_t (Or.inl (i_nle.mp h4))]), rfl, by unfold bA6; rw [if_pos (i_nle.mp h4)]⟩

set_option maxHeartbeats 4000000 in
set_option maxRecDepth 100000 in
theorem pX3_isOpenTo {l : Launch} {D : va_G} {cy : Nat → ClassId} {s0 : State} {ad : zA} {sc : Nat → Int32} {ar tau : Nat → Nat → Int32} {js mo : Nat → Int32} {cp cn al : Nat → Nat} {q3 pa : Nat → Nat → Int32} {pn : Nat → Nat} {i : Nat} {f : Int32} (hi : i < al 1) : zM l D cy s0 yX3_isOpenTo cX3_isOpenTo 2 (some .boolean) 1 0 0 [.ref (ad 9 i), .int f] ad (xW cy ad sc ar tau js mo cp cn al q3 pa pn) (zPi (bI (ar 15 i = -1 ∨ ar 15 i = f)) ad (xW cy ad sc ar tau js mo cp cn al q3 pa pn)) := by
  refine zM_of (own := RX3) rfl (by decide) (by simp [Value.category]) (Nat.le_of_ble_eq_true rfl) ?_
  intro X hB
  show V X RX3 cX3_isOpenTo 2 (some .boolean) 0 0 ad (xW cy ad sc ar tau js mo cp cn al q3 pa pn) 0 [some (.ref (ad 9 i)), some (.int f)] []
  refine v_aload_n dX3_isOpenTo_0 rfl ?_
  refine xg_X3_9 (by omega) dX3_isOpenTo_1 ?_
  refine v_iconst_v (v := -1) dX3_isOpenTo_4 (by decide) ?_
  refine v_icmp_eq (tgt := 16) dX3_isOpenTo_5 (by decide) (fun h5 => ?_) (fun h5 => ?_)
  · refine v_iconst_v (v := 1) dX3_isOpenTo_16 (by decide) ?_
    refine v_goto (tgt := 21) dX3_isOpenTo_17 (by decide) ?_
    exact v_zret hB (by decide) (by decide) dX3_isOpenTo_21 rfl ⟨congrArg (fun z => some (Value.int z)) (by first | (rw [bI_t (Or.inl h5)]; done) | (rw [bI_t (Or.inr h13)]; done) | (rw [bI_f (fun z => z.elim h5 h13)]; done)), rfl, rfl⟩
  · refine v_aload_n dX3_isOpenTo_8 rfl ?_
    refine xg_X3_9 (by omega) dX3_isOpenTo_9 ?_
    refine v_iload_n dX3_isOpenTo_12 rfl ?_
    refine v_icmp_ne (tgt := 20) dX3_isOpenTo_13 (by decide) (fun h13 => ?_) (fun h13 => ?_)
    · refine v_iconst_v (v := 0) dX3_isOpenTo_20 (by decide) ?_
      exact v_zret hB (by decide) (by decide) dX3_isOpenTo_21 rfl ⟨congrArg (fun z => some (Value.int z)) (by first | (rw [bI_t (Or.inl h5)]; done) | (rw [bI_t (Or.inr h13)]; done) | (rw [bI_f (fun z => z.elim h5 h13)]; done)), rfl, rfl⟩
    · refine v_iconst_v (v := 1) dX3_isOpenTo_16 (by decide) ?_
      refine v_goto (tgt := 21) dX3_isOpenTo_17 (by decide) ?_
      exact v_zret hB (by decide) (by decide) dX3_isOpenTo_21 rfl ⟨congrArg (fun z => some (Value.int z)) (by first | (rw [bI_t (Or.inl h5)]; done) | (rw [bI_t (Or.inr h13)]; done) | (rw [bI_f (fun z => z.elim h5 h13)]; done)), rfl, rfl⟩

set_option maxHeartbeats 4000000 in
set_option maxRecDepth 100000 in
theorem pX1_isOpenTo {l : Launch} {D : va_G} {cy : Nat → ClassId} {s0 : State} {ad : zA} {sc : Nat → Int32} {ar tau : Nat → Nat → Int32} {js mo : Nat → Int32} {cp cn al : Nat → Nat} {q3 pa : Nat → Nat → Int32} {pn : Nat → Nat} {i : Nat} {g : Int32} (hi : i < al 5) : zM l D cy s0 yX1_isOpenTo cX1_isOpenTo 2 (some .boolean) 1 0 0 [.ref (ad 13 i), .int g] ad (xW cy ad sc ar tau js mo cp cn al q3 pa pn) (zPi (bI (ar 36 i = g ∧ ar 37 i < 6)) ad (xW cy ad sc ar tau js mo cp cn al q3 pa pn)) := by
  refine zM_of (own := RX1) rfl (by decide) (by simp [Value.category]) (Nat.le_of_ble_eq_true rfl) ?_
  intro X hB
  show V X RX1 cX1_isOpenTo 2 (some .boolean) 0 0 ad (xW cy ad sc ar tau js mo cp cn al q3 pa pn) 0 [some (.ref (ad 13 i)), some (.int g)] []
  refine v_aload_n dX1_isOpenTo_0 rfl ?_
  refine xg_X1_15 (by omega) dX1_isOpenTo_1 ?_
  refine v_iload_n dX1_isOpenTo_4 rfl ?_
  refine v_icmp_ne (tgt := 21) dX1_isOpenTo_5 (by decide) (fun h5 => ?_) (fun h5 => ?_)
  · refine v_iconst_v (v := 0) dX1_isOpenTo_21 (by decide) ?_
    exact v_zret hB (by decide) (by decide) dX1_isOpenTo_22 rfl ⟨congrArg (fun z => some (Value.int z)) ((bI_f (fun z => by first | exact h5 z.1 | exact (i_nlt.mpr h14) z.2)).symm), rfl, rfl⟩
  · refine v_aload_n dX1_isOpenTo_8 rfl ?_
    refine xg_X1_9 (by omega) dX1_isOpenTo_9 ?_
    refine v_bipush_v (v := 6) dX1_isOpenTo_12 (by decide) ?_
    refine v_icmp_ge (tgt := 21) dX1_isOpenTo_14 (by decide) (fun h14 => ?_) (fun h14 => ?_)
    · refine v_iconst_v (v := 0) dX1_isOpenTo_21 (by decide) ?_
      exact v_zret hB (by decide) (by decide) dX1_isOpenTo_22 rfl ⟨congrArg (fun z => some (Value.int z)) ((bI_f (fun z => by first | exact h5 z.1 | exact (i_nlt.mpr h14) z.2)).symm), rfl, rfl⟩
    · refine v_iconst_v (v := 1) dX1_isOpenTo_17 (by decide) ?_
      refine v_goto (tgt := 22) dX1_isOpenTo_18 (by decide) ?_
      exact v_zret hB (by decide) (by decide) dX1_isOpenTo_22 rfl ⟨congrArg (fun z => some (Value.int z)) ((bI_t ⟨h5, i_nle.mp h14⟩).symm), rfl, rfl⟩

set_option maxHeartbeats 4000000 in
set_option maxRecDepth 100000 in
theorem pX6_grade {l : Launch} {D : va_G} {cy : Nat → ClassId} {s0 : State} {ad : zA} {sc : Nat → Int32} {ar tau : Nat → Nat → Int32} {js mo : Nat → Int32} {cp cn al : Nat → Nat} {q3 pa : Nat → Nat → Int32} {pn : Nat → Nat} {i : Nat} (hi : i < al 3) : zM l D cy s0 yX6_grade cX6_grade 1 (some .int) 1 0 0 [.ref (ad 11 i)] ad (xW cy ad sc ar tau js mo cp cn al q3 pa pn) (zPi (grd (q3 2 i) (q3 3 i)) ad (xW cy ad sc ar tau js mo cp cn al q3 pa pn)) := by
  refine zM_of (own := RX6) rfl (by decide) (by simp [Value.category]) (Nat.le_of_ble_eq_true rfl) ?_
  intro X hB
  show V X RX6 cX6_grade 1 (some .int) 0 0 ad (xW cy ad sc ar tau js mo cp cn al q3 pa pn) 0 [some (.ref (ad 11 i))] []
  refine v_aload_n dX6_grade_0 rfl ?_
  refine xg_X6_35 (by omega) dX6_grade_1 ?_
  refine v_iconst_v (v := 2) dX6_grade_4 (by decide) ?_
  refine v_icmp_gt (tgt := 19) dX6_grade_5 (by decide) (fun h5 => ?_) (fun h5 => ?_)
  · refine v_aload_n dX6_grade_19 rfl ?_
    refine xg_X6_35 (by omega) dX6_grade_20 ?_
    refine v_iconst_v (v := 4) dX6_grade_23 (by decide) ?_
    refine v_icmp_gt (tgt := 37) dX6_grade_24 (by decide) (fun h24 => ?_) (fun h24 => ?_)
    · refine v_aload_n dX6_grade_37 rfl ?_
      refine xg_X6_35 (by omega) dX6_grade_38 ?_
      refine v_bipush_v (v := 6) dX6_grade_41 (by decide) ?_
      refine v_icmp_gt (tgt := 50) dX6_grade_43 (by decide) (fun h43 => ?_) (fun h43 => ?_)
      · refine v_iconst_v (v := 4) dX6_grade_50 (by decide) ?_
        exact v_iret hB (by decide) (by decide) dX6_grade_51 ⟨congrArg (fun z => some (Value.int z)) (by
          unfold grd
          first
            | (rw [if_pos ⟨i_nlt.mp h5, i_nlt.mp h14⟩]; done)
            | (rw [if_neg (fun z => (i_nle.mpr h5) z.1), if_pos ⟨i_nlt.mp h24, i_nlt.mp h32⟩]; done)
            | (rw [if_neg (fun z => (i_nle.mpr h14) z.2), if_pos ⟨i_nlt.mp h24, i_nlt.mp h32⟩]; done)
            | (rw [if_neg (fun z => (i_nle.mpr h5) z.1), if_neg (fun z => (i_nle.mpr h24) z.1)]; first | (rw [if_pos (i_nlt.mp h43)]; done) | (rw [if_neg (i_nle.mpr h43)]; done))
            | (rw [if_neg (fun z => (i_nle.mpr h5) z.1), if_neg (fun z => (i_nle.mpr h32) z.2)]; first | (rw [if_pos (i_nlt.mp h43)]; done) | (rw [if_neg (i_nle.mpr h43)]; done))
            | (rw [if_neg (fun z => (i_nle.mpr h14) z.2), if_neg (fun z => (i_nle.mpr h24) z.1)]; first | (rw [if_pos (i_nlt.mp h43)]; done) | (rw [if_neg (i_nle.mpr h43)]; done))
            | (rw [if_neg (fun z => (i_nle.mpr h14) z.2), if_neg (fun z => (i_nle.mpr h32) z.2)]; first | (rw [if_pos (i_nlt.mp h43)]; done) | (rw [if_neg (i_nle.mpr h43)]; done))), rfl, rfl⟩
      · refine v_iconst_v (v := 3) dX6_grade_46 (by decide) ?_
        refine v_goto (tgt := 51) dX6_grade_47 (by decide) ?_
        exact v_iret hB (by decide) (by decide) dX6_grade_51 ⟨congrArg (fun z => some (Value.int z)) (by
          unfold grd
          first
            | (rw [if_pos ⟨i_nlt.mp h5, i_nlt.mp h14⟩]; done)
            | (rw [if_neg (fun z => (i_nle.mpr h5) z.1), if_pos ⟨i_nlt.mp h24, i_nlt.mp h32⟩]; done)
            | (rw [if_neg (fun z => (i_nle.mpr h14) z.2), if_pos ⟨i_nlt.mp h24, i_nlt.mp h32⟩]; done)
            | (rw [if_neg (fun z => (i_nle.mpr h5) z.1), if_neg (fun z => (i_nle.mpr h24) z.1)]; first | (rw [if_pos (i_nlt.mp h43)]; done) | (rw [if_neg (i_nle.mpr h43)]; done))
            | (rw [if_neg (fun z => (i_nle.mpr h5) z.1), if_neg (fun z => (i_nle.mpr h32) z.2)]; first | (rw [if_pos (i_nlt.mp h43)]; done) | (rw [if_neg (i_nle.mpr h43)]; done))
            | (rw [if_neg (fun z => (i_nle.mpr h14) z.2), if_neg (fun z => (i_nle.mpr h24) z.1)]; first | (rw [if_pos (i_nlt.mp h43)]; done) | (rw [if_neg (i_nle.mpr h43)]; done))
            | (rw [if_neg (fun z => (i_nle.mpr h14) z.2), if_neg (fun z => (i_nle.mpr h32) z.2)]; first | (rw [if_pos (i_nlt.mp h43)]; done) | (rw [if_neg (i_nle.mpr h43)]; done))), rfl, rfl⟩
    · refine v_aload_n dX6_grade_27 rfl ?_
      refine xg_X6_15 (by omega) dX6_grade_28 ?_
      refine v_iconst_v (v := 4) dX6_grade_31 (by decide) ?_
      refine v_icmp_lt (tgt := 37) dX6_grade_32 (by decide) (fun h32 => ?_) (fun h32 => ?_)
      · refine v_aload_n dX6_grade_37 rfl ?_
        refine xg_X6_35 (by omega) dX6_grade_38 ?_
        refine v_bipush_v (v := 6) dX6_grade_41 (by decide) ?_
        refine v_icmp_gt (tgt := 50) dX6_grade_43 (by decide) (fun h43 => ?_) (fun h43 => ?_)
        · refine v_iconst_v (v := 4) dX6_grade_50 (by decide) ?_
          exact v_iret hB (by decide) (by decide) dX6_grade_51 ⟨congrArg (fun z => some (Value.int z)) (by
            unfold grd
            first
              | (rw [if_pos ⟨i_nlt.mp h5, i_nlt.mp h14⟩]; done)
              | (rw [if_neg (fun z => (i_nle.mpr h5) z.1), if_pos ⟨i_nlt.mp h24, i_nlt.mp h32⟩]; done)
              | (rw [if_neg (fun z => (i_nle.mpr h14) z.2), if_pos ⟨i_nlt.mp h24, i_nlt.mp h32⟩]; done)
              | (rw [if_neg (fun z => (i_nle.mpr h5) z.1), if_neg (fun z => (i_nle.mpr h24) z.1)]; first | (rw [if_pos (i_nlt.mp h43)]; done) | (rw [if_neg (i_nle.mpr h43)]; done))
              | (rw [if_neg (fun z => (i_nle.mpr h5) z.1), if_neg (fun z => (i_nle.mpr h32) z.2)]; first | (rw [if_pos (i_nlt.mp h43)]; done) | (rw [if_neg (i_nle.mpr h43)]; done))
              | (rw [if_neg (fun z => (i_nle.mpr h14) z.2), if_neg (fun z => (i_nle.mpr h24) z.1)]; first | (rw [if_pos (i_nlt.mp h43)]; done) | (rw [if_neg (i_nle.mpr h43)]; done))
              | (rw [if_neg (fun z => (i_nle.mpr h14) z.2), if_neg (fun z => (i_nle.mpr h32) z.2)]; first | (rw [if_pos (i_nlt.mp h43)]; done) | (rw [if_neg (i_nle.mpr h43)]; done))), rfl, rfl⟩
        · refine v_iconst_v (v := 3) dX6_grade_46 (by decide) ?_
          refine v_goto (tgt := 51) dX6_grade_47 (by decide) ?_
          exact v_iret hB (by decide) (by decide) dX6_grade_51 ⟨congrArg (fun z => some (Value.int z)) (by
            unfold grd
            first
              | (rw [if_pos ⟨i_nlt.mp h5, i_nlt.mp h14⟩]; done)
              | (rw [if_neg (fun z => (i_nle.mpr h5) z.1), if_pos ⟨i_nlt.mp h24, i_nlt.mp h32⟩]; done)
              | (rw [if_neg (fun z => (i_nle.mpr h14) z.2), if_pos ⟨i_nlt.mp h24, i_nlt.mp h32⟩]; done)
              | (rw [if_neg (fun z => (i_nle.mpr h5) z.1), if_neg (fun z => (i_nle.mpr h24) z.1)]; first | (rw [if_pos (i_nlt.mp h43)]; done) | (rw [if_neg (i_nle.mpr h43)]; done))
              | (rw [if_neg (fun z => (i_nle.mpr h5) z.1), if_neg (fun z => (i_nle.mpr h32) z.2)]; first | (rw [if_pos (i_nlt.mp h43)]; done) | (rw [if_neg (i_nle.mpr h43)]; done))
              | (rw [if_neg (fun z => (i_nle.mpr h14) z.2), if_neg (fun z => (i_nle.mpr h24) z.1)]; first | (rw [if_pos (i_nlt.mp h43)]; done) | (rw [if_neg (i_nle.mpr h43)]; done))
              | (rw [if_neg (fun z => (i_nle.mpr h14) z.2), if_neg (fun z => (i_nle.mpr h32) z.2)]; first | (rw [if_pos (i_nlt.mp h43)]; done) | (rw [if_neg (i_nle.mpr h43)]; done))), rfl, rfl⟩
      · refine v_iconst_v (v := 2) dX6_grade_35 (by decide) ?_
        exact v_iret hB (by decide) (by decide) dX6_grade_36 ⟨congrArg (fun z => some (Value.int z)) (by
          unfold grd
          first
            | (rw [if_pos ⟨i_nlt.mp h5, i_nlt.mp h14⟩]; done)
            | (rw [if_neg (fun z => (i_nle.mpr h5) z.1), if_pos ⟨i_nlt.mp h24, i_nlt.mp h32⟩]; done)
            | (rw [if_neg (fun z => (i_nle.mpr h14) z.2), if_pos ⟨i_nlt.mp h24, i_nlt.mp h32⟩]; done)
            | (rw [if_neg (fun z => (i_nle.mpr h5) z.1), if_neg (fun z => (i_nle.mpr h24) z.1)]; first | (rw [if_pos (i_nlt.mp h43)]; done) | (rw [if_neg (i_nle.mpr h43)]; done))
            | (rw [if_neg (fun z => (i_nle.mpr h5) z.1), if_neg (fun z => (i_nle.mpr h32) z.2)]; first | (rw [if_pos (i_nlt.mp h43)]; done) | (rw [if_neg (i_nle.mpr h43)]; done))
            | (rw [if_neg (fun z => (i_nle.mpr h14) z.2), if_neg (fun z => (i_nle.mpr h24) z.1)]; first | (rw [if_pos (i_nlt.mp h43)]; done) | (rw [if_neg (i_nle.mpr h43)]; done))
            | (rw [if_neg (fun z => (i_nle.mpr h14) z.2), if_neg (fun z => (i_nle.mpr h32) z.2)]; first | (rw [if_pos (i_nlt.mp h43)]; done) | (rw [if_neg (i_nle.mpr h43)]; done))), rfl, rfl⟩
  · refine v_aload_n dX6_grade_8 rfl ?_
    refine xg_X6_15 (by omega) dX6_grade_9 ?_
    refine v_bipush_v (v := 7) dX6_grade_12 (by decide) ?_
    refine v_icmp_lt (tgt := 19) dX6_grade_14 (by decide) (fun h14 => ?_) (fun h14 => ?_)
    · refine v_aload_n dX6_grade_19 rfl ?_
      refine xg_X6_35 (by omega) dX6_grade_20 ?_
      refine v_iconst_v (v := 4) dX6_grade_23 (by decide) ?_
      refine v_icmp_gt (tgt := 37) dX6_grade_24 (by decide) (fun h24 => ?_) (fun h24 => ?_)
      · refine v_aload_n dX6_grade_37 rfl ?_
        refine xg_X6_35 (by omega) dX6_grade_38 ?_
        refine v_bipush_v (v := 6) dX6_grade_41 (by decide) ?_
        refine v_icmp_gt (tgt := 50) dX6_grade_43 (by decide) (fun h43 => ?_) (fun h43 => ?_)
        · refine v_iconst_v (v := 4) dX6_grade_50 (by decide) ?_
          exact v_iret hB (by decide) (by decide) dX6_grade_51 ⟨congrArg (fun z => some (Value.int z)) (by
            unfold grd
            first
              | (rw [if_pos ⟨i_nlt.mp h5, i_nlt.mp h14⟩]; done)
              | (rw [if_neg (fun z => (i_nle.mpr h5) z.1), if_pos ⟨i_nlt.mp h24, i_nlt.mp h32⟩]; done)
              | (rw [if_neg (fun z => (i_nle.mpr h14) z.2), if_pos ⟨i_nlt.mp h24, i_nlt.mp h32⟩]; done)
              | (rw [if_neg (fun z => (i_nle.mpr h5) z.1), if_neg (fun z => (i_nle.mpr h24) z.1)]; first | (rw [if_pos (i_nlt.mp h43)]; done) | (rw [if_neg (i_nle.mpr h43)]; done))
              | (rw [if_neg (fun z => (i_nle.mpr h5) z.1), if_neg (fun z => (i_nle.mpr h32) z.2)]; first | (rw [if_pos (i_nlt.mp h43)]; done) | (rw [if_neg (i_nle.mpr h43)]; done))
              | (rw [if_neg (fun z => (i_nle.mpr h14) z.2), if_neg (fun z => (i_nle.mpr h24) z.1)]; first | (rw [if_pos (i_nlt.mp h43)]; done) | (rw [if_neg (i_nle.mpr h43)]; done))
              | (rw [if_neg (fun z => (i_nle.mpr h14) z.2), if_neg (fun z => (i_nle.mpr h32) z.2)]; first | (rw [if_pos (i_nlt.mp h43)]; done) | (rw [if_neg (i_nle.mpr h43)]; done))), rfl, rfl⟩
        · refine v_iconst_v (v := 3) dX6_grade_46 (by decide) ?_
          refine v_goto (tgt := 51) dX6_grade_47 (by decide) ?_
          exact v_iret hB (by decide) (by decide) dX6_grade_51 ⟨congrArg (fun z => some (Value.int z)) (by
            unfold grd
            first
              | (rw [if_pos ⟨i_nlt.mp h5, i_nlt.mp h14⟩]; done)
              | (rw [if_neg (fun z => (i_nle.mpr h5) z.1), if_pos ⟨i_nlt.mp h24, i_nlt.mp h32⟩]; done)
              | (rw [if_neg (fun z => (i_nle.mpr h14) z.2), if_pos ⟨i_nlt.mp h24, i_nlt.mp h32⟩]; done)
              | (rw [if_neg (fun z => (i_nle.mpr h5) z.1), if_neg (fun z => (i_nle.mpr h24) z.1)]; first | (rw [if_pos (i_nlt.mp h43)]; done) | (rw [if_neg (i_nle.mpr h43)]; done))
              | (rw [if_neg (fun z => (i_nle.mpr h5) z.1), if_neg (fun z => (i_nle.mpr h32) z.2)]; first | (rw [if_pos (i_nlt.mp h43)]; done) | (rw [if_neg (i_nle.mpr h43)]; done))
              | (rw [if_neg (fun z => (i_nle.mpr h14) z.2), if_neg (fun z => (i_nle.mpr h24) z.1)]; first | (rw [if_pos (i_nlt.mp h43)]; done) | (rw [if_neg (i_nle.mpr h43)]; done))
              | (rw [if_neg (fun z => (i_nle.mpr h14) z.2), if_neg (fun z => (i_nle.mpr h32) z.2)]; first | (rw [if_pos (i_nlt.mp h43)]; done) | (rw [if_neg (i_nle.mpr h43)]; done))), rfl, rfl⟩
      · refine v_aload_n dX6_grade_27 rfl ?_
        refine xg_X6_15 (by omega) dX6_grade_28 ?_
        refine v_iconst_v (v := 4) dX6_grade_31 (by decide) ?_
        refine v_icmp_lt (tgt := 37) dX6_grade_32 (by decide) (fun h32 => ?_) (fun h32 => ?_)
        · refine v_aload_n dX6_grade_37 rfl ?_
          refine xg_X6_35 (by omega) dX6_grade_38 ?_
          refine v_bipush_v (v := 6) dX6_grade_41 (by decide) ?_
          refine v_icmp_gt (tgt := 50) dX6_grade_43 (by decide) (fun h43 => ?_) (fun h43 => ?_)
          · refine v_iconst_v (v := 4) dX6_grade_50 (by decide) ?_
            exact v_iret hB (by decide) (by decide) dX6_grade_51 ⟨congrArg (fun z => some (Value.int z)) (by
              unfold grd
              first
                | (rw [if_pos ⟨i_nlt.mp h5, i_nlt.mp h14⟩]; done)
                | (rw [if_neg (fun z => (i_nle.mpr h5) z.1), if_pos ⟨i_nlt.mp h24, i_nlt.mp h32⟩]; done)
                | (rw [if_neg (fun z => (i_nle.mpr h14) z.2), if_pos ⟨i_nlt.mp h24, i_nlt.mp h32⟩]; done)
                | (rw [if_neg (fun z => (i_nle.mpr h5) z.1), if_neg (fun z => (i_nle.mpr h24) z.1)]; first | (rw [if_pos (i_nlt.mp h43)]; done) | (rw [if_neg (i_nle.mpr h43)]; done))
                | (rw [if_neg (fun z => (i_nle.mpr h5) z.1), if_neg (fun z => (i_nle.mpr h32) z.2)]; first | (rw [if_pos (i_nlt.mp h43)]; done) | (rw [if_neg (i_nle.mpr h43)]; done))
                | (rw [if_neg (fun z => (i_nle.mpr h14) z.2), if_neg (fun z => (i_nle.mpr h24) z.1)]; first | (rw [if_pos (i_nlt.mp h43)]; done) | (rw [if_neg (i_nle.mpr h43)]; done))
                | (rw [if_neg (fun z => (i_nle.mpr h14) z.2), if_neg (fun z => (i_nle.mpr h32) z.2)]; first | (rw [if_pos (i_nlt.mp h43)]; done) | (rw [if_neg (i_nle.mpr h43)]; done))), rfl, rfl⟩
          · refine v_iconst_v (v := 3) dX6_grade_46 (by decide) ?_
            refine v_goto (tgt := 51) dX6_grade_47 (by decide) ?_
            exact v_iret hB (by decide) (by decide) dX6_grade_51 ⟨congrArg (fun z => some (Value.int z)) (by
              unfold grd
              first
                | (rw [if_pos ⟨i_nlt.mp h5, i_nlt.mp h14⟩]; done)
                | (rw [if_neg (fun z => (i_nle.mpr h5) z.1), if_pos ⟨i_nlt.mp h24, i_nlt.mp h32⟩]; done)
                | (rw [if_neg (fun z => (i_nle.mpr h14) z.2), if_pos ⟨i_nlt.mp h24, i_nlt.mp h32⟩]; done)
                | (rw [if_neg (fun z => (i_nle.mpr h5) z.1), if_neg (fun z => (i_nle.mpr h24) z.1)]; first | (rw [if_pos (i_nlt.mp h43)]; done) | (rw [if_neg (i_nle.mpr h43)]; done))
                | (rw [if_neg (fun z => (i_nle.mpr h5) z.1), if_neg (fun z => (i_nle.mpr h32) z.2)]; first | (rw [if_pos (i_nlt.mp h43)]; done) | (rw [if_neg (i_nle.mpr h43)]; done))
                | (rw [if_neg (fun z => (i_nle.mpr h14) z.2), if_neg (fun z => (i_nle.mpr h24) z.1)]; first | (rw [if_pos (i_nlt.mp h43)]; done) | (rw [if_neg (i_nle.mpr h43)]; done))
                | (rw [if_neg (fun z => (i_nle.mpr h14) z.2), if_neg (fun z => (i_nle.mpr h32) z.2)]; first | (rw [if_pos (i_nlt.mp h43)]; done) | (rw [if_neg (i_nle.mpr h43)]; done))), rfl, rfl⟩
        · refine v_iconst_v (v := 2) dX6_grade_35 (by decide) ?_
          exact v_iret hB (by decide) (by decide) dX6_grade_36 ⟨congrArg (fun z => some (Value.int z)) (by
            unfold grd
            first
              | (rw [if_pos ⟨i_nlt.mp h5, i_nlt.mp h14⟩]; done)
              | (rw [if_neg (fun z => (i_nle.mpr h5) z.1), if_pos ⟨i_nlt.mp h24, i_nlt.mp h32⟩]; done)
              | (rw [if_neg (fun z => (i_nle.mpr h14) z.2), if_pos ⟨i_nlt.mp h24, i_nlt.mp h32⟩]; done)
              | (rw [if_neg (fun z => (i_nle.mpr h5) z.1), if_neg (fun z => (i_nle.mpr h24) z.1)]; first | (rw [if_pos (i_nlt.mp h43)]; done) | (rw [if_neg (i_nle.mpr h43)]; done))
              | (rw [if_neg (fun z => (i_nle.mpr h5) z.1), if_neg (fun z => (i_nle.mpr h32) z.2)]; first | (rw [if_pos (i_nlt.mp h43)]; done) | (rw [if_neg (i_nle.mpr h43)]; done))
              | (rw [if_neg (fun z => (i_nle.mpr h14) z.2), if_neg (fun z => (i_nle.mpr h24) z.1)]; first | (rw [if_pos (i_nlt.mp h43)]; done) | (rw [if_neg (i_nle.mpr h43)]; done))
              | (rw [if_neg (fun z => (i_nle.mpr h14) z.2), if_neg (fun z => (i_nle.mpr h32) z.2)]; first | (rw [if_pos (i_nlt.mp h43)]; done) | (rw [if_neg (i_nle.mpr h43)]; done))), rfl, rfl⟩
    · refine v_iconst_v (v := 1) dX6_grade_17 (by decide) ?_
      exact v_iret hB (by decide) (by decide) dX6_grade_18 ⟨congrArg (fun z => some (Value.int z)) (by
        unfold grd
        first
          | (rw [if_pos ⟨i_nlt.mp h5, i_nlt.mp h14⟩]; done)
          | (rw [if_neg (fun z => (i_nle.mpr h5) z.1), if_pos ⟨i_nlt.mp h24, i_nlt.mp h32⟩]; done)
          | (rw [if_neg (fun z => (i_nle.mpr h14) z.2), if_pos ⟨i_nlt.mp h24, i_nlt.mp h32⟩]; done)
          | (rw [if_neg (fun z => (i_nle.mpr h5) z.1), if_neg (fun z => (i_nle.mpr h24) z.1)]; first | (rw [if_pos (i_nlt.mp h43)]; done) | (rw [if_neg (i_nle.mpr h43)]; done))
          | (rw [if_neg (fun z => (i_nle.mpr h5) z.1), if_neg (fun z => (i_nle.mpr h32) z.2)]; first | (rw [if_pos (i_nlt.mp h43)]; done) | (rw [if_neg (i_nle.mpr h43)]; done))
          | (rw [if_neg (fun z => (i_nle.mpr h14) z.2), if_neg (fun z => (i_nle.mpr h24) z.1)]; first | (rw [if_pos (i_nlt.mp h43)]; done) | (rw [if_neg (i_nle.mpr h43)]; done))
          | (rw [if_neg (fun z => (i_nle.mpr h14) z.2), if_neg (fun z => (i_nle.mpr h32) z.2)]; first | (rw [if_pos (i_nlt.mp h43)]; done) | (rw [if_neg (i_nle.mpr h43)]; done))), rfl, rfl⟩

set_option maxHeartbeats 4000000 in
set_option maxRecDepth 100000 in
theorem pX6_isLoose {l : Launch} {D : va_G} {cy : Nat → ClassId} {s0 : State} {ad : zA} {sc : Nat → Int32} {ar tau : Nat → Nat → Int32} {js mo : Nat → Int32} {cp cn al : Nat → Nat} {q3 pa : Nat → Nat → Int32} {pn : Nat → Nat} {i : Nat} {f g : Int32} (hi : i < al 3) : zM l D cy s0 yX6_isLoose cX6_isLoose 3 (some .boolean) 2 0 0 [.ref (ad 11 i), .int f, .int g] ad (xW cy ad sc ar tau js mo cp cn al q3 pa pn) (zPi (bI (ar 29 i = -2 ∧ ar 25 i = f ∧ grd (q3 2 i) (q3 3 i) = g)) ad (xW cy ad sc ar tau js mo cp cn al q3 pa pn)) := by
  refine zM_of (own := RX6) rfl (by decide) (by simp [Value.category]) (Nat.le_of_ble_eq_true rfl) ?_
  intro X hB
  show V X RX6 cX6_isLoose 3 (some .boolean) 0 0 ad (xW cy ad sc ar tau js mo cp cn al q3 pa pn) 0 [some (.ref (ad 11 i)), some (.int f), some (.int g)] []
  refine v_aload_n dX6_isLoose_0 rfl ?_
  refine xg_X6_9 (by omega) dX6_isLoose_1 ?_
  refine v_bipush_v (v := -2) dX6_isLoose_4 (by decide) ?_
  refine v_icmp_ne (tgt := 29) dX6_isLoose_6 (by decide) (fun h6 => ?_) (fun h6 => ?_)
  · refine v_iconst_v (v := 0) dX6_isLoose_29 (by decide) ?_
    exact v_zret hB (by decide) (by decide) dX6_isLoose_30 rfl ⟨congrArg (fun z => some (Value.int z)) ((bI_f (fun z => by first | exact h6 z.1 | exact h14 z.2.1 | exact h22 z.2.2)).symm), rfl, rfl⟩
  · refine v_aload_n dX6_isLoose_9 rfl ?_
    refine xg_X6_18 (by omega) dX6_isLoose_10 ?_
    refine v_iload_n dX6_isLoose_13 rfl ?_
    refine v_icmp_ne (tgt := 29) dX6_isLoose_14 (by decide) (fun h14 => ?_) (fun h14 => ?_)
    · refine v_iconst_v (v := 0) dX6_isLoose_29 (by decide) ?_
      exact v_zret hB (by decide) (by decide) dX6_isLoose_30 rfl ⟨congrArg (fun z => some (Value.int z)) ((bI_f (fun z => by first | exact h6 z.1 | exact h14 z.2.1 | exact h22 z.2.2)).symm), rfl, rfl⟩
    · refine v_aload_n dX6_isLoose_17 rfl ?_
      refine v_cVi0 hB k_X6_50 (pX6_grade (by omega)) (by decide) ⟨by decide, by decide⟩ (xW_X6 (by omega)) rfl (Nat.le_of_ble_eq_true rfl) dX6_isLoose_18 ?_
      refine v_iload_n dX6_isLoose_21 rfl ?_
      refine v_icmp_ne (tgt := 29) dX6_isLoose_22 (by decide) (fun h22 => ?_) (fun h22 => ?_)
      · refine v_iconst_v (v := 0) dX6_isLoose_29 (by decide) ?_
        exact v_zret hB (by decide) (by decide) dX6_isLoose_30 rfl ⟨congrArg (fun z => some (Value.int z)) ((bI_f (fun z => by first | exact h6 z.1 | exact h14 z.2.1 | exact h22 z.2.2)).symm), rfl, rfl⟩
      · refine v_iconst_v (v := 1) dX6_isLoose_25 (by decide) ?_
        refine v_goto (tgt := 30) dX6_isLoose_26 (by decide) ?_
        exact v_zret hB (by decide) (by decide) dX6_isLoose_30 rfl ⟨congrArg (fun z => some (Value.int z)) ((bI_t ⟨h6, h14, h22⟩).symm), rfl, rfl⟩

set_option maxHeartbeats 4000000 in
set_option maxRecDepth 100000 in
theorem pX6_size {l : Launch} {D : va_G} {cy : Nat → ClassId} {s0 : State} {ad : zA} {sc : Nat → Int32} {ar tau : Nat → Nat → Int32} {js mo : Nat → Int32} {cp cn al : Nat → Nat} {q3 pa : Nat → Nat → Int32} {pn : Nat → Nat} {i : Nat} (hi : i < al 3) : zM l D cy s0 yX6_size cX6_size 1 (some .int) 1 0 0 [.ref (ad 11 i)] ad (xW cy ad sc ar tau js mo cp cn al q3 pa pn) (zPi (q3 1 i) ad (xW cy ad sc ar tau js mo cp cn al q3 pa pn)) := by
  refine zM_of (own := RX6) rfl (by decide) (by simp [Value.category]) (Nat.le_of_ble_eq_true rfl) ?_
  intro X hB
  show V X RX6 cX6_size 1 (some .int) 0 0 ad (xW cy ad sc ar tau js mo cp cn al q3 pa pn) 0 [some (.ref (ad 11 i))] []
  refine v_aload_n dX6_size_0 rfl ?_
  refine xg_X6_32 (by omega) dX6_size_1 ?_
  exact v_iret hB (by decide) (by decide) dX6_size_4 ⟨rfl, rfl, rfl⟩

set_option maxHeartbeats 4000000 in
set_option maxRecDepth 100000 in
theorem pX6_partAt {l : Launch} {D : va_G} {cy : Nat → ClassId} {s0 : State} {ad : zA} {sc : Nat → Int32} {ar tau : Nat → Nat → Int32} {js mo : Nat → Int32} {cp cn al : Nat → Nat} {q3 pa : Nat → Nat → Int32} {pn : Nat → Nat} {i k : Nat} (hi : i < al 3) (hk : k < pn i) (hp : pn i ≤ 4) : zM l D cy s0 yX6_partAt cX6_partAt 2 (some .int) 1 0 0 [.ref (ad 11 i), .int (nI k)] ad (xW cy ad sc ar tau js mo cp cn al q3 pa pn) (zPi (pa i k) ad (xW cy ad sc ar tau js mo cp cn al q3 pa pn)) := by
  refine zM_of (own := RX6) rfl (by decide) (by simp [Value.category]) (Nat.le_of_ble_eq_true rfl) ?_
  intro X hB
  show V X RX6 cX6_partAt 2 (some .int) 0 0 ad (xW cy ad sc ar tau js mo cp cn al q3 pa pn) 0 [some (.ref (ad 11 i)), some (.int (nI k))] []
  refine v_iload_n dX6_partAt_0 rfl ?_
  refine v_if_lt (tgt := 22) dX6_partAt_1 (by decide) (fun h1 => ?_) (fun h1 => ?_)
  · exact absurd h1 (nI_pos (by omega))
  · refine v_iload_n dX6_partAt_4 rfl ?_
    refine v_aload_n dX6_partAt_5 rfl ?_
    refine xg_X6_28 (by omega) dX6_partAt_6 ?_
    refine x_lenq hB.cy (by omega) dX6_partAt_9 ?_
    refine v_icmp_ge (tgt := 22) dX6_partAt_10 (by decide) (fun h10 => ?_) (fun h10 => ?_)
    · exact absurd h10 (nI_ge hk (by omega))
    · refine v_aload_n dX6_partAt_13 rfl ?_
      refine xg_X6_28 (by omega) dX6_partAt_14 ?_
      refine v_iload_n dX6_partAt_17 rfl ?_
      refine x_ldq hB.cy (by omega) rfl (by omega) (by omega) dX6_partAt_18 ?_
      refine v_goto (tgt := 23) dX6_partAt_19 (by decide) ?_
      exact v_iret hB (by decide) (by decide) dX6_partAt_23 ⟨rfl, rfl, rfl⟩

