def bI (c : Prop) [Decidable c] : Int32 := if c then 1 else 0
theorem bI_t {c : Prop} [Decidable c] (h : c) : bI c = 1 := if_pos h
theorem bI_f {c : Prop} [Decidable c] (h : ¬ c) : bI c = 0 := if_neg h
theorem bI_ne {c : Prop} [Decidable c] : ¬ bI c = 0 ↔ c := by
  unfold bI; by_cases h : c
  · rw [if_pos h]; exact ⟨fun _ => h, fun _ => by decide⟩
  · rw [if_neg h]; exact ⟨fun z => absurd rfl z, fun z => absurd z h⟩
theorem bI_eq {c : Prop} [Decidable c] : bI c = 0 ↔ ¬ c := by
  unfold bI; by_cases h : c
  · rw [if_pos h]; exact ⟨fun z => absurd z (by decide), fun z => absurd h z⟩
  · rw [if_neg h]; exact ⟨fun _ => h, fun _ => rfl⟩
theorem bI_n (c : Prop) [Decidable c] : narrow .boolean (.int (bI c)) = .int (bI c) := by
  unfold bI; by_cases h : c
  · rw [if_pos h]; rfl
  · rw [if_neg h]; rfl
theorem i_nle {a b : Int32} : ¬ a ≤ b ↔ b < a := by rw [Int32.le_iff_toInt_le, Int32.lt_iff_toInt_lt]; omega
theorem i_nlt {a b : Int32} : ¬ a < b ↔ b ≤ a := by rw [Int32.le_iff_toInt_le, Int32.lt_iff_toInt_lt]; omega
set_option maxHeartbeats 4000000 in
set_option maxRecDepth 100000 in
theorem cM_in {l : Launch} {D : va_G} {cy : Nat → ClassId} {s0 : State} {ad : zA} {w : zW} {v a b : Int32} : zM l D cy s0 yX10_in cX10_in 3 (some .boolean) 1 0 0 [.int v, .int a, .int b] ad (w) (zPi (bI (a ≤ v ∧ v ≤ b)) ad w) := by
  refine zM_of (own := RX10) rfl (by decide) (by simp [Value.category]) (Nat.le_of_ble_eq_true rfl) ?_
  intro X hB
  show V X RX10 cX10_in 3 (some .boolean) 0 0 ad (w) 0 [some (.int v), some (.int a), some (.int b)] []
  refine v_iload_n dX10_in_0 rfl ?_
  refine v_iload_n dX10_in_1 rfl ?_
  refine v_icmp_lt (tgt := 14) dX10_in_2 (by decide) (fun h2 => ?_) (fun h2 => ?_)
  · refine v_iconst_v (v := 0) dX10_in_14 (by decide) ?_
    exact v_zret hB (by decide) (by decide) dX10_in_15 rfl ⟨congrArg (fun z => some (Value.int z)) (by unfold bI; (try simp only [i_nle, i_nlt] at *); rw [if_neg]; rintro ⟨z1, z2⟩; simp only [Int32.lt_iff_toInt_lt, Int32.le_iff_toInt_le] at *; omega), rfl, rfl⟩
  · refine v_iload_n dX10_in_5 rfl ?_
    refine v_iload_n dX10_in_6 rfl ?_
    refine v_icmp_gt (tgt := 14) dX10_in_7 (by decide) (fun h7 => ?_) (fun h7 => ?_)
    · refine v_iconst_v (v := 0) dX10_in_14 (by decide) ?_
      exact v_zret hB (by decide) (by decide) dX10_in_15 rfl ⟨congrArg (fun z => some (Value.int z)) (by unfold bI; (try simp only [i_nle, i_nlt] at *); rw [if_neg]; rintro ⟨z1, z2⟩; simp only [Int32.lt_iff_toInt_lt, Int32.le_iff_toInt_le] at *; omega), rfl, rfl⟩
    · refine v_iconst_v (v := 1) dX10_in_10 (by decide) ?_
      refine v_goto (tgt := 15) dX10_in_11 (by decide) ?_
      exact v_zret hB (by decide) (by decide) dX10_in_15 rfl ⟨congrArg (fun z => some (Value.int z)) (by unfold bI; (try simp only [i_nle, i_nlt] at *); rw [if_pos]; refine ⟨?_, ?_⟩ <;> assumption), rfl, rfl⟩

set_option maxHeartbeats 4000000 in
set_option maxRecDepth 100000 in
theorem cM_isFamily {l : Launch} {D : va_G} {cy : Nat → ClassId} {s0 : State} {ad : zA} {sc : Nat → Int32} {ar : Nat → Nat → Int32} {f : Int32} : zM l D cy s0 yX10_isFamily cX10_isFamily 2 (some .boolean) 1 0 0 [.ref (ad 30 0), .int f] ad (mW cy ad sc ar) (zPi (bI (0 ≤ f ∧ f < sc 2)) ad (mW cy ad sc ar)) := by
  refine zM_of (own := RX10) rfl (by decide) (by simp [Value.category]) (Nat.le_of_ble_eq_true rfl) ?_
  intro X hB
  show V X RX10 cX10_isFamily 2 (some .boolean) 0 0 ad (mW cy ad sc ar) 0 [some (.ref (ad 30 0)), some (.int f)] []
  refine v_iload_n dX10_isFamily_0 rfl ?_
  refine v_if_lt (tgt := 16) dX10_isFamily_1 (by decide) (fun h1 => ?_) (fun h1 => ?_)
  · refine v_iconst_v (v := 0) dX10_isFamily_16 (by decide) ?_
    exact v_zret hB (by decide) (by decide) dX10_isFamily_17 rfl ⟨congrArg (fun z => some (Value.int z)) (by unfold bI; (try simp only [i_nle, i_nlt] at *); rw [if_neg]; rintro ⟨z1, z2⟩; simp only [Int32.lt_iff_toInt_lt, Int32.le_iff_toInt_le] at *; omega), rfl, rfl⟩
  · refine v_iload_n dX10_isFamily_4 rfl ?_
    refine v_aload_n dX10_isFamily_5 rfl ?_
    refine mg123 dX10_isFamily_6 ?_
    refine v_icmp_ge (tgt := 16) dX10_isFamily_9 (by decide) (fun h9 => ?_) (fun h9 => ?_)
    · refine v_iconst_v (v := 0) dX10_isFamily_16 (by decide) ?_
      exact v_zret hB (by decide) (by decide) dX10_isFamily_17 rfl ⟨congrArg (fun z => some (Value.int z)) (by unfold bI; (try simp only [i_nle, i_nlt] at *); rw [if_neg]; rintro ⟨z1, z2⟩; simp only [Int32.lt_iff_toInt_lt, Int32.le_iff_toInt_le] at *; omega), rfl, rfl⟩
    · refine v_iconst_v (v := 1) dX10_isFamily_12 (by decide) ?_
      refine v_goto (tgt := 17) dX10_isFamily_13 (by decide) ?_
      exact v_zret hB (by decide) (by decide) dX10_isFamily_17 rfl ⟨congrArg (fun z => some (Value.int z)) (by unfold bI; (try simp only [i_nle, i_nlt] at *); rw [if_pos]; refine ⟨?_, ?_⟩ <;> assumption), rfl, rfl⟩

set_option maxHeartbeats 4000000 in
set_option maxRecDepth 100000 in
theorem cM_isGarden {l : Launch} {D : va_G} {cy : Nat → ClassId} {s0 : State} {ad : zA} {sc : Nat → Int32} {ar : Nat → Nat → Int32} {f : Int32} : zM l D cy s0 yX10_isGarden cX10_isGarden 2 (some .boolean) 1 0 0 [.ref (ad 30 0), .int f] ad (mW cy ad sc ar) (zPi (bI (0 ≤ f ∧ f < sc 3)) ad (mW cy ad sc ar)) := by
  refine zM_of (own := RX10) rfl (by decide) (by simp [Value.category]) (Nat.le_of_ble_eq_true rfl) ?_
  intro X hB
  show V X RX10 cX10_isGarden 2 (some .boolean) 0 0 ad (mW cy ad sc ar) 0 [some (.ref (ad 30 0)), some (.int f)] []
  refine v_iload_n dX10_isGarden_0 rfl ?_
  refine v_if_lt (tgt := 16) dX10_isGarden_1 (by decide) (fun h1 => ?_) (fun h1 => ?_)
  · refine v_iconst_v (v := 0) dX10_isGarden_16 (by decide) ?_
    exact v_zret hB (by decide) (by decide) dX10_isGarden_17 rfl ⟨congrArg (fun z => some (Value.int z)) (by unfold bI; (try simp only [i_nle, i_nlt] at *); rw [if_neg]; rintro ⟨z1, z2⟩; simp only [Int32.lt_iff_toInt_lt, Int32.le_iff_toInt_le] at *; omega), rfl, rfl⟩
  · refine v_iload_n dX10_isGarden_4 rfl ?_
    refine v_aload_n dX10_isGarden_5 rfl ?_
    refine mg126 dX10_isGarden_6 ?_
    refine v_icmp_ge (tgt := 16) dX10_isGarden_9 (by decide) (fun h9 => ?_) (fun h9 => ?_)
    · refine v_iconst_v (v := 0) dX10_isGarden_16 (by decide) ?_
      exact v_zret hB (by decide) (by decide) dX10_isGarden_17 rfl ⟨congrArg (fun z => some (Value.int z)) (by unfold bI; (try simp only [i_nle, i_nlt] at *); rw [if_neg]; rintro ⟨z1, z2⟩; simp only [Int32.lt_iff_toInt_lt, Int32.le_iff_toInt_le] at *; omega), rfl, rfl⟩
    · refine v_iconst_v (v := 1) dX10_isGarden_12 (by decide) ?_
      refine v_goto (tgt := 17) dX10_isGarden_13 (by decide) ?_
      exact v_zret hB (by decide) (by decide) dX10_isGarden_17 rfl ⟨congrArg (fun z => some (Value.int z)) (by unfold bI; (try simp only [i_nle, i_nlt] at *); rw [if_pos]; refine ⟨?_, ?_⟩ <;> assumption), rfl, rfl⟩

set_option maxHeartbeats 4000000 in
set_option maxRecDepth 100000 in
theorem cM_isStrip {l : Launch} {D : va_G} {cy : Nat → ClassId} {s0 : State} {ad : zA} {sc : Nat → Int32} {ar : Nat → Nat → Int32} {f : Int32} : zM l D cy s0 yX10_isStrip cX10_isStrip 2 (some .boolean) 1 0 0 [.ref (ad 30 0), .int f] ad (mW cy ad sc ar) (zPi (bI (0 ≤ f ∧ f < sc 4)) ad (mW cy ad sc ar)) := by
  refine zM_of (own := RX10) rfl (by decide) (by simp [Value.category]) (Nat.le_of_ble_eq_true rfl) ?_
  intro X hB
  show V X RX10 cX10_isStrip 2 (some .boolean) 0 0 ad (mW cy ad sc ar) 0 [some (.ref (ad 30 0)), some (.int f)] []
  refine v_iload_n dX10_isStrip_0 rfl ?_
  refine v_if_lt (tgt := 16) dX10_isStrip_1 (by decide) (fun h1 => ?_) (fun h1 => ?_)
  · refine v_iconst_v (v := 0) dX10_isStrip_16 (by decide) ?_
    exact v_zret hB (by decide) (by decide) dX10_isStrip_17 rfl ⟨congrArg (fun z => some (Value.int z)) (by unfold bI; (try simp only [i_nle, i_nlt] at *); rw [if_neg]; rintro ⟨z1, z2⟩; simp only [Int32.lt_iff_toInt_lt, Int32.le_iff_toInt_le] at *; omega), rfl, rfl⟩
  · refine v_iload_n dX10_isStrip_4 rfl ?_
    refine v_aload_n dX10_isStrip_5 rfl ?_
    refine mg129 dX10_isStrip_6 ?_
    refine v_icmp_ge (tgt := 16) dX10_isStrip_9 (by decide) (fun h9 => ?_) (fun h9 => ?_)
    · refine v_iconst_v (v := 0) dX10_isStrip_16 (by decide) ?_
      exact v_zret hB (by decide) (by decide) dX10_isStrip_17 rfl ⟨congrArg (fun z => some (Value.int z)) (by unfold bI; (try simp only [i_nle, i_nlt] at *); rw [if_neg]; rintro ⟨z1, z2⟩; simp only [Int32.lt_iff_toInt_lt, Int32.le_iff_toInt_le] at *; omega), rfl, rfl⟩
    · refine v_iconst_v (v := 1) dX10_isStrip_12 (by decide) ?_
      refine v_goto (tgt := 17) dX10_isStrip_13 (by decide) ?_
      exact v_zret hB (by decide) (by decide) dX10_isStrip_17 rfl ⟨congrArg (fun z => some (Value.int z)) (by unfold bI; (try simp only [i_nle, i_nlt] at *); rw [if_pos]; refine ⟨?_, ?_⟩ <;> assumption), rfl, rfl⟩

set_option maxHeartbeats 4000000 in
set_option maxRecDepth 100000 in
theorem cM_thrown {l : Launch} {D : va_G} {cy : Nat → ClassId} {s0 : State} {ad : zA} {sc : Nat → Int32} {ar : Nat → Nat → Int32}  : zM l D cy s0 yX10_thrown cX10_thrown 1 (some .int) 1 0 0 [.ref (ad 30 0)] ad (mW cy ad sc ar) (zPi (sc 0) ad (mW cy ad sc ar)) := by
  refine zM_of (own := RX10) rfl (by decide) (by simp [Value.category]) (Nat.le_of_ble_eq_true rfl) ?_
  intro X hB
  show V X RX10 cX10_thrown 1 (some .int) 0 0 ad (mW cy ad sc ar) 0 [some (.ref (ad 30 0))] []
  refine v_aload_n dX10_thrown_0 rfl ?_
  refine mg1 dX10_thrown_1 ?_
  exact v_iret hB (by decide) (by decide) dX10_thrown_4 ⟨rfl, rfl, rfl⟩

set_option maxHeartbeats 4000000 in
set_option maxRecDepth 100000 in
theorem cM_refused {l : Launch} {D : va_G} {cy : Nat → ClassId} {s0 : State} {ad : zA} {sc : Nat → Int32} {ar : Nat → Nat → Int32} {x : Int32} : zM l D cy s0 yX10_refused cX10_refused 2 (some .int) 1 0 0 [.ref (ad 30 0), .int x] ad (mW cy ad sc ar) (zPi (-1) ad (mW cy ad (upd sc 1 x) ar)) := by
  refine zM_of (own := RX10) rfl (by decide) (by simp [Value.category]) (Nat.le_of_ble_eq_true rfl) ?_
  intro X hB
  show V X RX10 cX10_refused 2 (some .int) 0 0 ad (mW cy ad sc ar) 0 [some (.ref (ad 30 0)), some (.int x)] []
  refine v_aload_n dX10_refused_0 rfl ?_
  refine v_iload_n dX10_refused_1 rfl ?_
  refine mp7 dX10_refused_2 ?_
  refine v_iconst_v (v := -1) dX10_refused_5 (by decide) ?_
  exact v_iret hB (by decide) (by decide) dX10_refused_6 ⟨rfl, rfl, rfl⟩

set_option maxHeartbeats 4000000 in
set_option maxRecDepth 100000 in
theorem cM_denied {l : Launch} {D : va_G} {cy : Nat → ClassId} {s0 : State} {ad : zA} {sc : Nat → Int32} {ar : Nat → Nat → Int32} {x : Int32} : zM l D cy s0 yX10_denied cX10_denied 2 (some .boolean) 1 0 0 [.ref (ad 30 0), .int x] ad (mW cy ad sc ar) (zPi 0 ad (mW cy ad (upd sc 1 x) ar)) := by
  refine zM_of (own := RX10) rfl (by decide) (by simp [Value.category]) (Nat.le_of_ble_eq_true rfl) ?_
  intro X hB
  show V X RX10 cX10_denied 2 (some .boolean) 0 0 ad (mW cy ad sc ar) 0 [some (.ref (ad 30 0)), some (.int x)] []
  refine v_aload_n dX10_denied_0 rfl ?_
  refine v_iload_n dX10_denied_1 rfl ?_
  refine mp7 dX10_denied_2 ?_
  refine v_iconst_v (v := 0) dX10_denied_5 (by decide) ?_
  exact v_zret hB (by decide) (by decide) dX10_denied_6 rfl ⟨rfl, rfl, rfl⟩

set_option maxHeartbeats 4000000 in
set_option maxRecDepth 100000 in
theorem cM_done {l : Launch} {D : va_G} {cy : Nat → ClassId} {s0 : State} {ad : zA} {sc : Nat → Int32} {ar : Nat → Nat → Int32} {x : Int32} : zM l D cy s0 yX10_done cX10_done 2 (some .int) 1 0 0 [.ref (ad 30 0), .int x] ad (mW cy ad sc ar) (zPi x ad (mW cy ad (upd sc 1 0) ar)) := by
  refine zM_of (own := RX10) rfl (by decide) (by simp [Value.category]) (Nat.le_of_ble_eq_true rfl) ?_
  intro X hB
  show V X RX10 cX10_done 2 (some .int) 0 0 ad (mW cy ad sc ar) 0 [some (.ref (ad 30 0)), some (.int x)] []
  refine v_aload_n dX10_done_0 rfl ?_
  refine v_iconst_v (v := 0) dX10_done_1 (by decide) ?_
  refine mp7 dX10_done_2 ?_
  refine v_iload_n dX10_done_5 rfl ?_
  exact v_iret hB (by decide) (by decide) dX10_done_6 ⟨rfl, rfl, rfl⟩

set_option maxHeartbeats 4000000 in
set_option maxRecDepth 100000 in
theorem cM_granted {l : Launch} {D : va_G} {cy : Nat → ClassId} {s0 : State} {ad : zA} {sc : Nat → Int32} {ar : Nat → Nat → Int32}  : zM l D cy s0 yX10_granted cX10_granted 1 (some .boolean) 1 0 0 [.ref (ad 30 0)] ad (mW cy ad sc ar) (zPi 1 ad (mW cy ad (upd sc 1 0) ar)) := by
  refine zM_of (own := RX10) rfl (by decide) (by simp [Value.category]) (Nat.le_of_ble_eq_true rfl) ?_
  intro X hB
  show V X RX10 cX10_granted 1 (some .boolean) 0 0 ad (mW cy ad sc ar) 0 [some (.ref (ad 30 0))] []
  refine v_aload_n dX10_granted_0 rfl ?_
  refine v_iconst_v (v := 0) dX10_granted_1 (by decide) ?_
  refine mp7 dX10_granted_2 ?_
  refine v_iconst_v (v := 1) dX10_granted_5 (by decide) ?_
  exact v_zret hB (by decide) (by decide) dX10_granted_6 rfl ⟨rfl, rfl, rfl⟩

