/-- the widest and the least tasty of a list of strips -/
def gWd (ar : Nat → Nat → Int32) (pl : List Nat) : Nat → Int32
  | 0 => 0
  | i + 1 => if gWd ar pl i < ar 21 (pl.getD i 0) then ar 21 (pl.getD i 0) else gWd ar pl i
def gTs (ar : Nat → Nat → Int32) (pl : List Nat) : Nat → Int32
  | 0 => 9
  | i + 1 => if ar 22 (pl.getD i 0) < gTs ar pl i then ar 22 (pl.getD i 0) else gTs ar pl i
def grd (wd ts : Int32) : Int32 := if wd ≤ 2 ∧ 7 ≤ ts then 1 else if wd ≤ 4 ∧ 4 ≤ ts then 2 else if wd ≤ 6 then 3 else 4
def grdL (ar : Nat → Nat → Int32) (pl : List Nat) : Int32 := grd (gWd ar pl pl.length) (gTs ar pl pl.length)
def v_could (f : Int32) (sc : Nat → Int32) (ar : Nat → Nat → Int32) : Int32 := if 0 ≤ f ∧ f < sc 2 then (match bestS sc ar f with | none => -2 | some pl => nI pl.length) else -1
/-- the strips of a list come into quill q -/
def jnA (pl : List Nat) (q : Nat) : Nat → (Nat → Nat → Int32) → Nat → Nat → Int32
  | 0, A => A
  | i + 1, A => putA (putA (jnA pl q i A) 30 (4 * q + i) (nI (pl.getD i 0))) 24 (pl.getD i 0) (nI q)
def jnB (f : Int32) (t : Int32) (pl : List Nat) (q : Nat) (ar : Nat → Nat → Int32) : Nat → Nat → Int32 := putA (putA (putA (putA (putA ar 25 q f) 26 q (grdL ar pl)) 27 q t) 28 q (nI pl.length)) 29 q (-2)
def s_join (f : Int32) (sc : Nat → Int32) (ar : Nat → Nat → Int32) : zRs := if 0 ≤ f ∧ f < sc 2 then (match bestS sc ar f with
    | none => (-1, upd sc 1 5, ar)
    | some pl => if sc 5 = 120 then (-1, upd sc 1 3, ar) else (sc 5, upd (upd sc 5 (sc 5 + 1)) 1 0, jnA pl (cl (sc 5)) pl.length (jnB f (sc 8) pl (cl (sc 5)) ar))) else (-1, upd sc 1 1, ar)
def sP (cy : Nat → ClassId) (ad : zA) (S : zRs) : Option Value → zA → zW → Prop := fun r ad2 w2 => r = some (.int S.1) ∧ ad2 = ad ∧ ∃ sc' ar', w2 = mW cy ad sc' ar' ∧ SR S.2.1 sc' S.2.2 ar'
theorem sPost {cy : Nat → ClassId} {ad : zA} {v : Int32} {sc1 sc' : Nat → Int32} {ar1 ar' : Nat → Nat → Int32} {S : zRs} (h : S = (v, sc1, ar1)) (h2 : SR sc1 sc' ar1 ar') : sP cy ad S (some (.int v)) ad (mW cy ad sc' ar') := by
  subst h; exact ⟨rfl, rfl, sc', ar', rfl, h2⟩
theorem SR.grdL {s1 s2 : Nat → Int32} {a1 a2 : Nat → Nat → Int32} (h : SR s1 s2 a1 a2) (pl : List Nat) : grdL a2 pl = grdL a1 pl := by
  have e : ∀ n, gWd a2 pl n = gWd a1 pl n ∧ gTs a2 pl n = gTs a1 pl n := by
    intro n
    induction n with
    | zero => exact ⟨rfl, rfl⟩
    | succ n ih =>
      unfold gWd gTs
      rw [ih.1, ih.2, h.2 21 (by decide) (by decide) (by decide) (by decide), h.2 22 (by decide) (by decide) (by decide) (by decide)]
      exact ⟨rfl, rfl⟩
  show grd _ _ = grd _ _
  rw [(e _).1, (e _).2]
set_option maxHeartbeats 4000000 in
set_option maxRecDepth 100000 in
theorem cM_gradeOf {l : Launch} {D : va_G} {cy : Nat → ClassId} {s0 : State} {ad : zA} {sc : Nat → Int32} {ar : Nat → Nat → Int32} {pl : List Nat} (hlen : pl.length ≤ 4) (hpl : ∀ i, i < pl.length → ar 42 i = nI (pl.getD i 0) ∧ pl.getD i 0 < 200) : zM l D cy s0 yX10_gradeOf cX10_gradeOf 5 (some .int) 2 0 0 [.ref (ad 30 0), .int (nI pl.length)] ad (mW cy ad sc ar) (zPi (grdL ar pl) ad (mW cy ad sc ar)) := by
  refine zM_of (own := RX10) rfl (by decide) (by simp [Value.category]) (Nat.le_of_ble_eq_true rfl) ?_
  intro X hB
  show V X RX10 cX10_gradeOf 5 (some .int) 0 0 ad (mW cy ad sc ar) 0 [some (.ref (ad 30 0)), some (.int (nI pl.length)), none, none, none] []
  have loop : ∀ (m i : Nat), pl.length < i + m → i ≤ pl.length → V X RX10 cX10_gradeOf 5 (some .int) 0 0 ad (mW cy ad sc ar) 8 [some (.ref (ad 30 0)), some (.int (nI pl.length)), some (.int (gWd ar pl i)), some (.int (gTs ar pl i)), some (.int (nI i))] [] := by
    intro m
    induction m with
    | zero => intro i h1 h2; omega
    | succ m ih =>
      intro i h1 h2
      refine v_iload dX10_gradeOf_8 rfl ?_
      refine v_iload_n dX10_gradeOf_10 rfl ?_
      refine v_icmp_ge (tgt := 54) dX10_gradeOf_11 (by decide) (fun h11 => ?_) (fun h11 => ?_)
      · rw [nI_leI (by omega) (by omega)] at h11
        refine v_iload_n dX10_gradeOf_54 rfl ?_
        refine v_iconst_v (v := 2) dX10_gradeOf_55 (by decide) ?_
        refine v_icmp_gt (tgt := 67) dX10_gradeOf_56 (by decide) (fun h56 => ?_) (fun h56 => ?_)
        · refine v_iload_n dX10_gradeOf_67 rfl ?_
          refine v_iconst_v (v := 4) dX10_gradeOf_68 (by decide) ?_
          refine v_icmp_gt (tgt := 79) dX10_gradeOf_69 (by decide) (fun h69 => ?_) (fun h69 => ?_)
          · refine v_iload_n dX10_gradeOf_79 rfl ?_
            refine v_bipush_v (v := 6) dX10_gradeOf_80 (by decide) ?_
            refine v_icmp_gt (tgt := 89) dX10_gradeOf_82 (by decide) (fun h82 => ?_) (fun h82 => ?_)
            · refine v_iconst_v (v := 4) dX10_gradeOf_89 (by decide) ?_
              have e : i = pl.length := by omega
              subst e
              exact v_iret hB (by decide) (by decide) dX10_gradeOf_90 ⟨congrArg (fun z => some (Value.int z)) (by
                unfold grdL grd
                first
                  | (rw [if_pos ⟨i_nlt.mp h56, i_nlt.mp h62⟩]; done)
                  | (rw [if_neg (fun z => (i_nle.mpr h56) z.1), if_pos ⟨i_nlt.mp h69, i_nlt.mp h74⟩]; done)
                  | (rw [if_neg (fun z => (i_nle.mpr h62) z.2), if_pos ⟨i_nlt.mp h69, i_nlt.mp h74⟩]; done)
                  | (rw [if_neg (fun z => (i_nle.mpr h56) z.1), if_neg (fun z => (i_nle.mpr h69) z.1)]; first | (rw [if_pos (i_nlt.mp h82)]; done) | (rw [if_neg (i_nle.mpr h82)]; done))
                  | (rw [if_neg (fun z => (i_nle.mpr h56) z.1), if_neg (fun z => (i_nle.mpr h74) z.2)]; first | (rw [if_pos (i_nlt.mp h82)]; done) | (rw [if_neg (i_nle.mpr h82)]; done))
                  | (rw [if_neg (fun z => (i_nle.mpr h62) z.2), if_neg (fun z => (i_nle.mpr h69) z.1)]; first | (rw [if_pos (i_nlt.mp h82)]; done) | (rw [if_neg (i_nle.mpr h82)]; done))
                  | (rw [if_neg (fun z => (i_nle.mpr h62) z.2), if_neg (fun z => (i_nle.mpr h74) z.2)]; first | (rw [if_pos (i_nlt.mp h82)]; done) | (rw [if_neg (i_nle.mpr h82)]; done))), rfl, rfl⟩
            · refine v_iconst_v (v := 3) dX10_gradeOf_85 (by decide) ?_
              refine v_goto (tgt := 90) dX10_gradeOf_86 (by decide) ?_
              have e : i = pl.length := by omega
              subst e
              exact v_iret hB (by decide) (by decide) dX10_gradeOf_90 ⟨congrArg (fun z => some (Value.int z)) (by
                unfold grdL grd
                first
                  | (rw [if_pos ⟨i_nlt.mp h56, i_nlt.mp h62⟩]; done)
                  | (rw [if_neg (fun z => (i_nle.mpr h56) z.1), if_pos ⟨i_nlt.mp h69, i_nlt.mp h74⟩]; done)
                  | (rw [if_neg (fun z => (i_nle.mpr h62) z.2), if_pos ⟨i_nlt.mp h69, i_nlt.mp h74⟩]; done)
                  | (rw [if_neg (fun z => (i_nle.mpr h56) z.1), if_neg (fun z => (i_nle.mpr h69) z.1)]; first | (rw [if_pos (i_nlt.mp h82)]; done) | (rw [if_neg (i_nle.mpr h82)]; done))
                  | (rw [if_neg (fun z => (i_nle.mpr h56) z.1), if_neg (fun z => (i_nle.mpr h74) z.2)]; first | (rw [if_pos (i_nlt.mp h82)]; done) | (rw [if_neg (i_nle.mpr h82)]; done))
                  | (rw [if_neg (fun z => (i_nle.mpr h62) z.2), if_neg (fun z => (i_nle.mpr h69) z.1)]; first | (rw [if_pos (i_nlt.mp h82)]; done) | (rw [if_neg (i_nle.mpr h82)]; done))
                  | (rw [if_neg (fun z => (i_nle.mpr h62) z.2), if_neg (fun z => (i_nle.mpr h74) z.2)]; first | (rw [if_pos (i_nlt.mp h82)]; done) | (rw [if_neg (i_nle.mpr h82)]; done))), rfl, rfl⟩
          · refine v_iload_n dX10_gradeOf_72 rfl ?_
            refine v_iconst_v (v := 4) dX10_gradeOf_73 (by decide) ?_
            refine v_icmp_lt (tgt := 79) dX10_gradeOf_74 (by decide) (fun h74 => ?_) (fun h74 => ?_)
            · refine v_iload_n dX10_gradeOf_79 rfl ?_
              refine v_bipush_v (v := 6) dX10_gradeOf_80 (by decide) ?_
              refine v_icmp_gt (tgt := 89) dX10_gradeOf_82 (by decide) (fun h82 => ?_) (fun h82 => ?_)
              · refine v_iconst_v (v := 4) dX10_gradeOf_89 (by decide) ?_
                have e : i = pl.length := by omega
                subst e
                exact v_iret hB (by decide) (by decide) dX10_gradeOf_90 ⟨congrArg (fun z => some (Value.int z)) (by
                  unfold grdL grd
                  first
                    | (rw [if_pos ⟨i_nlt.mp h56, i_nlt.mp h62⟩]; done)
                    | (rw [if_neg (fun z => (i_nle.mpr h56) z.1), if_pos ⟨i_nlt.mp h69, i_nlt.mp h74⟩]; done)
                    | (rw [if_neg (fun z => (i_nle.mpr h62) z.2), if_pos ⟨i_nlt.mp h69, i_nlt.mp h74⟩]; done)
                    | (rw [if_neg (fun z => (i_nle.mpr h56) z.1), if_neg (fun z => (i_nle.mpr h69) z.1)]; first | (rw [if_pos (i_nlt.mp h82)]; done) | (rw [if_neg (i_nle.mpr h82)]; done))
                    | (rw [if_neg (fun z => (i_nle.mpr h56) z.1), if_neg (fun z => (i_nle.mpr h74) z.2)]; first | (rw [if_pos (i_nlt.mp h82)]; done) | (rw [if_neg (i_nle.mpr h82)]; done))
                    | (rw [if_neg (fun z => (i_nle.mpr h62) z.2), if_neg (fun z => (i_nle.mpr h69) z.1)]; first | (rw [if_pos (i_nlt.mp h82)]; done) | (rw [if_neg (i_nle.mpr h82)]; done))
                    | (rw [if_neg (fun z => (i_nle.mpr h62) z.2), if_neg (fun z => (i_nle.mpr h74) z.2)]; first | (rw [if_pos (i_nlt.mp h82)]; done) | (rw [if_neg (i_nle.mpr h82)]; done))), rfl, rfl⟩
              · refine v_iconst_v (v := 3) dX10_gradeOf_85 (by decide) ?_
                refine v_goto (tgt := 90) dX10_gradeOf_86 (by decide) ?_
                have e : i = pl.length := by omega
                subst e
                exact v_iret hB (by decide) (by decide) dX10_gradeOf_90 ⟨congrArg (fun z => some (Value.int z)) (by
                  unfold grdL grd
                  first
                    | (rw [if_pos ⟨i_nlt.mp h56, i_nlt.mp h62⟩]; done)
                    | (rw [if_neg (fun z => (i_nle.mpr h56) z.1), if_pos ⟨i_nlt.mp h69, i_nlt.mp h74⟩]; done)
                    | (rw [if_neg (fun z => (i_nle.mpr h62) z.2), if_pos ⟨i_nlt.mp h69, i_nlt.mp h74⟩]; done)
                    | (rw [if_neg (fun z => (i_nle.mpr h56) z.1), if_neg (fun z => (i_nle.mpr h69) z.1)]; first | (rw [if_pos (i_nlt.mp h82)]; done) | (rw [if_neg (i_nle.mpr h82)]; done))
                    | (rw [if_neg (fun z => (i_nle.mpr h56) z.1), if_neg (fun z => (i_nle.mpr h74) z.2)]; first | (rw [if_pos (i_nlt.mp h82)]; done) | (rw [if_neg (i_nle.mpr h82)]; done))
                    | (rw [if_neg (fun z => (i_nle.mpr h62) z.2), if_neg (fun z => (i_nle.mpr h69) z.1)]; first | (rw [if_pos (i_nlt.mp h82)]; done) | (rw [if_neg (i_nle.mpr h82)]; done))
                    | (rw [if_neg (fun z => (i_nle.mpr h62) z.2), if_neg (fun z => (i_nle.mpr h74) z.2)]; first | (rw [if_pos (i_nlt.mp h82)]; done) | (rw [if_neg (i_nle.mpr h82)]; done))), rfl, rfl⟩
            · refine v_iconst_v (v := 2) dX10_gradeOf_77 (by decide) ?_
              have e : i = pl.length := by omega
              subst e
              exact v_iret hB (by decide) (by decide) dX10_gradeOf_78 ⟨congrArg (fun z => some (Value.int z)) (by
                unfold grdL grd
                first
                  | (rw [if_pos ⟨i_nlt.mp h56, i_nlt.mp h62⟩]; done)
                  | (rw [if_neg (fun z => (i_nle.mpr h56) z.1), if_pos ⟨i_nlt.mp h69, i_nlt.mp h74⟩]; done)
                  | (rw [if_neg (fun z => (i_nle.mpr h62) z.2), if_pos ⟨i_nlt.mp h69, i_nlt.mp h74⟩]; done)
                  | (rw [if_neg (fun z => (i_nle.mpr h56) z.1), if_neg (fun z => (i_nle.mpr h69) z.1)]; first | (rw [if_pos (i_nlt.mp h82)]; done) | (rw [if_neg (i_nle.mpr h82)]; done))
                  | (rw [if_neg (fun z => (i_nle.mpr h56) z.1), if_neg (fun z => (i_nle.mpr h74) z.2)]; first | (rw [if_pos (i_nlt.mp h82)]; done) | (rw [if_neg (i_nle.mpr h82)]; done))
                  | (rw [if_neg (fun z => (i_nle.mpr h62) z.2), if_neg (fun z => (i_nle.mpr h69) z.1)]; first | (rw [if_pos (i_nlt.mp h82)]; done) | (rw [if_neg (i_nle.mpr h82)]; done))
                  | (rw [if_neg (fun z => (i_nle.mpr h62) z.2), if_neg (fun z => (i_nle.mpr h74) z.2)]; first | (rw [if_pos (i_nlt.mp h82)]; done) | (rw [if_neg (i_nle.mpr h82)]; done))), rfl, rfl⟩
        · refine v_iload_n dX10_gradeOf_59 rfl ?_
          refine v_bipush_v (v := 7) dX10_gradeOf_60 (by decide) ?_
          refine v_icmp_lt (tgt := 67) dX10_gradeOf_62 (by decide) (fun h62 => ?_) (fun h62 => ?_)
          · refine v_iload_n dX10_gradeOf_67 rfl ?_
            refine v_iconst_v (v := 4) dX10_gradeOf_68 (by decide) ?_
            refine v_icmp_gt (tgt := 79) dX10_gradeOf_69 (by decide) (fun h69 => ?_) (fun h69 => ?_)
            · refine v_iload_n dX10_gradeOf_79 rfl ?_
              refine v_bipush_v (v := 6) dX10_gradeOf_80 (by decide) ?_
              refine v_icmp_gt (tgt := 89) dX10_gradeOf_82 (by decide) (fun h82 => ?_) (fun h82 => ?_)
              · refine v_iconst_v (v := 4) dX10_gradeOf_89 (by decide) ?_
                have e : i = pl.length := by omega
                subst e
                exact v_iret hB (by decide) (by decide) dX10_gradeOf_90 ⟨congrArg (fun z => some (Value.int z)) (by
                  unfold grdL grd
                  first
                    | (rw [if_pos ⟨i_nlt.mp h56, i_nlt.mp h62⟩]; done)
                    | (rw [if_neg (fun z => (i_nle.mpr h56) z.1), if_pos ⟨i_nlt.mp h69, i_nlt.mp h74⟩]; done)
                    | (rw [if_neg (fun z => (i_nle.mpr h62) z.2), if_pos ⟨i_nlt.mp h69, i_nlt.mp h74⟩]; done)
                    | (rw [if_neg (fun z => (i_nle.mpr h56) z.1), if_neg (fun z => (i_nle.mpr h69) z.1)]; first | (rw [if_pos (i_nlt.mp h82)]; done) | (rw [if_neg (i_nle.mpr h82)]; done))
                    | (rw [if_neg (fun z => (i_nle.mpr h56) z.1), if_neg (fun z => (i_nle.mpr h74) z.2)]; first | (rw [if_pos (i_nlt.mp h82)]; done) | (rw [if_neg (i_nle.mpr h82)]; done))
                    | (rw [if_neg (fun z => (i_nle.mpr h62) z.2), if_neg (fun z => (i_nle.mpr h69) z.1)]; first | (rw [if_pos (i_nlt.mp h82)]; done) | (rw [if_neg (i_nle.mpr h82)]; done))
                    | (rw [if_neg (fun z => (i_nle.mpr h62) z.2), if_neg (fun z => (i_nle.mpr h74) z.2)]; first | (rw [if_pos (i_nlt.mp h82)]; done) | (rw [if_neg (i_nle.mpr h82)]; done))), rfl, rfl⟩
              · refine v_iconst_v (v := 3) dX10_gradeOf_85 (by decide) ?_
                refine v_goto (tgt := 90) dX10_gradeOf_86 (by decide) ?_
                have e : i = pl.length := by omega
                subst e
                exact v_iret hB (by decide) (by decide) dX10_gradeOf_90 ⟨congrArg (fun z => some (Value.int z)) (by
                  unfold grdL grd
                  first
                    | (rw [if_pos ⟨i_nlt.mp h56, i_nlt.mp h62⟩]; done)
                    | (rw [if_neg (fun z => (i_nle.mpr h56) z.1), if_pos ⟨i_nlt.mp h69, i_nlt.mp h74⟩]; done)
                    | (rw [if_neg (fun z => (i_nle.mpr h62) z.2), if_pos ⟨i_nlt.mp h69, i_nlt.mp h74⟩]; done)
                    | (rw [if_neg (fun z => (i_nle.mpr h56) z.1), if_neg (fun z => (i_nle.mpr h69) z.1)]; first | (rw [if_pos (i_nlt.mp h82)]; done) | (rw [if_neg (i_nle.mpr h82)]; done))
                    | (rw [if_neg (fun z => (i_nle.mpr h56) z.1), if_neg (fun z => (i_nle.mpr h74) z.2)]; first | (rw [if_pos (i_nlt.mp h82)]; done) | (rw [if_neg (i_nle.mpr h82)]; done))
                    | (rw [if_neg (fun z => (i_nle.mpr h62) z.2), if_neg (fun z => (i_nle.mpr h69) z.1)]; first | (rw [if_pos (i_nlt.mp h82)]; done) | (rw [if_neg (i_nle.mpr h82)]; done))
                    | (rw [if_neg (fun z => (i_nle.mpr h62) z.2), if_neg (fun z => (i_nle.mpr h74) z.2)]; first | (rw [if_pos (i_nlt.mp h82)]; done) | (rw [if_neg (i_nle.mpr h82)]; done))), rfl, rfl⟩
            · refine v_iload_n dX10_gradeOf_72 rfl ?_
              refine v_iconst_v (v := 4) dX10_gradeOf_73 (by decide) ?_
              refine v_icmp_lt (tgt := 79) dX10_gradeOf_74 (by decide) (fun h74 => ?_) (fun h74 => ?_)
              · refine v_iload_n dX10_gradeOf_79 rfl ?_
                refine v_bipush_v (v := 6) dX10_gradeOf_80 (by decide) ?_
                refine v_icmp_gt (tgt := 89) dX10_gradeOf_82 (by decide) (fun h82 => ?_) (fun h82 => ?_)
                · refine v_iconst_v (v := 4) dX10_gradeOf_89 (by decide) ?_
                  have e : i = pl.length := by omega
                  subst e
                  exact v_iret hB (by decide) (by decide) dX10_gradeOf_90 ⟨congrArg (fun z => some (Value.int z)) (by
                    unfold grdL grd
                    first
                      | (rw [if_pos ⟨i_nlt.mp h56, i_nlt.mp h62⟩]; done)
                      | (rw [if_neg (fun z => (i_nle.mpr h56) z.1), if_pos ⟨i_nlt.mp h69, i_nlt.mp h74⟩]; done)
                      | (rw [if_neg (fun z => (i_nle.mpr h62) z.2), if_pos ⟨i_nlt.mp h69, i_nlt.mp h74⟩]; done)
                      | (rw [if_neg (fun z => (i_nle.mpr h56) z.1), if_neg (fun z => (i_nle.mpr h69) z.1)]; first | (rw [if_pos (i_nlt.mp h82)]; done) | (rw [if_neg (i_nle.mpr h82)]; done))
                      | (rw [if_neg (fun z => (i_nle.mpr h56) z.1), if_neg (fun z => (i_nle.mpr h74) z.2)]; first | (rw [if_pos (i_nlt.mp h82)]; done) | (rw [if_neg (i_nle.mpr h82)]; done))
                      | (rw [if_neg (fun z => (i_nle.mpr h62) z.2), if_neg (fun z => (i_nle.mpr h69) z.1)]; first | (rw [if_pos (i_nlt.mp h82)]; done) | (rw [if_neg (i_nle.mpr h82)]; done))
                      | (rw [if_neg (fun z => (i_nle.mpr h62) z.2), if_neg (fun z => (i_nle.mpr h74) z.2)]; first | (rw [if_pos (i_nlt.mp h82)]; done) | (rw [if_neg (i_nle.mpr h82)]; done))), rfl, rfl⟩
                · refine v_iconst_v (v := 3) dX10_gradeOf_85 (by decide) ?_
                  refine v_goto (tgt := 90) dX10_gradeOf_86 (by decide) ?_
                  have e : i = pl.length := by omega
                  subst e
                  exact v_iret hB (by decide) (by decide) dX10_gradeOf_90 ⟨congrArg (fun z => some (Value.int z)) (by
                    unfold grdL grd
                    first
                      | (rw [if_pos ⟨i_nlt.mp h56, i_nlt.mp h62⟩]; done)
                      | (rw [if_neg (fun z => (i_nle.mpr h56) z.1), if_pos ⟨i_nlt.mp h69, i_nlt.mp h74⟩]; done)
                      | (rw [if_neg (fun z => (i_nle.mpr h62) z.2), if_pos ⟨i_nlt.mp h69, i_nlt.mp h74⟩]; done)
                      | (rw [if_neg (fun z => (i_nle.mpr h56) z.1), if_neg (fun z => (i_nle.mpr h69) z.1)]; first | (rw [if_pos (i_nlt.mp h82)]; done) | (rw [if_neg (i_nle.mpr h82)]; done))
                      | (rw [if_neg (fun z => (i_nle.mpr h56) z.1), if_neg (fun z => (i_nle.mpr h74) z.2)]; first | (rw [if_pos (i_nlt.mp h82)]; done) | (rw [if_neg (i_nle.mpr h82)]; done))
                      | (rw [if_neg (fun z => (i_nle.mpr h62) z.2), if_neg (fun z => (i_nle.mpr h69) z.1)]; first | (rw [if_pos (i_nlt.mp h82)]; done) | (rw [if_neg (i_nle.mpr h82)]; done))
                      | (rw [if_neg (fun z => (i_nle.mpr h62) z.2), if_neg (fun z => (i_nle.mpr h74) z.2)]; first | (rw [if_pos (i_nlt.mp h82)]; done) | (rw [if_neg (i_nle.mpr h82)]; done))), rfl, rfl⟩
              · refine v_iconst_v (v := 2) dX10_gradeOf_77 (by decide) ?_
                have e : i = pl.length := by omega
                subst e
                exact v_iret hB (by decide) (by decide) dX10_gradeOf_78 ⟨congrArg (fun z => some (Value.int z)) (by
                  unfold grdL grd
                  first
                    | (rw [if_pos ⟨i_nlt.mp h56, i_nlt.mp h62⟩]; done)
                    | (rw [if_neg (fun z => (i_nle.mpr h56) z.1), if_pos ⟨i_nlt.mp h69, i_nlt.mp h74⟩]; done)
                    | (rw [if_neg (fun z => (i_nle.mpr h62) z.2), if_pos ⟨i_nlt.mp h69, i_nlt.mp h74⟩]; done)
                    | (rw [if_neg (fun z => (i_nle.mpr h56) z.1), if_neg (fun z => (i_nle.mpr h69) z.1)]; first | (rw [if_pos (i_nlt.mp h82)]; done) | (rw [if_neg (i_nle.mpr h82)]; done))
                    | (rw [if_neg (fun z => (i_nle.mpr h56) z.1), if_neg (fun z => (i_nle.mpr h74) z.2)]; first | (rw [if_pos (i_nlt.mp h82)]; done) | (rw [if_neg (i_nle.mpr h82)]; done))
                    | (rw [if_neg (fun z => (i_nle.mpr h62) z.2), if_neg (fun z => (i_nle.mpr h69) z.1)]; first | (rw [if_pos (i_nlt.mp h82)]; done) | (rw [if_neg (i_nle.mpr h82)]; done))
                    | (rw [if_neg (fun z => (i_nle.mpr h62) z.2), if_neg (fun z => (i_nle.mpr h74) z.2)]; first | (rw [if_pos (i_nlt.mp h82)]; done) | (rw [if_neg (i_nle.mpr h82)]; done))), rfl, rfl⟩
          · refine v_iconst_v (v := 1) dX10_gradeOf_65 (by decide) ?_
            have e : i = pl.length := by omega
            subst e
            exact v_iret hB (by decide) (by decide) dX10_gradeOf_66 ⟨congrArg (fun z => some (Value.int z)) (by
              unfold grdL grd
              first
                | (rw [if_pos ⟨i_nlt.mp h56, i_nlt.mp h62⟩]; done)
                | (rw [if_neg (fun z => (i_nle.mpr h56) z.1), if_pos ⟨i_nlt.mp h69, i_nlt.mp h74⟩]; done)
                | (rw [if_neg (fun z => (i_nle.mpr h62) z.2), if_pos ⟨i_nlt.mp h69, i_nlt.mp h74⟩]; done)
                | (rw [if_neg (fun z => (i_nle.mpr h56) z.1), if_neg (fun z => (i_nle.mpr h69) z.1)]; first | (rw [if_pos (i_nlt.mp h82)]; done) | (rw [if_neg (i_nle.mpr h82)]; done))
                | (rw [if_neg (fun z => (i_nle.mpr h56) z.1), if_neg (fun z => (i_nle.mpr h74) z.2)]; first | (rw [if_pos (i_nlt.mp h82)]; done) | (rw [if_neg (i_nle.mpr h82)]; done))
                | (rw [if_neg (fun z => (i_nle.mpr h62) z.2), if_neg (fun z => (i_nle.mpr h69) z.1)]; first | (rw [if_pos (i_nlt.mp h82)]; done) | (rw [if_neg (i_nle.mpr h82)]; done))
                | (rw [if_neg (fun z => (i_nle.mpr h62) z.2), if_neg (fun z => (i_nle.mpr h74) z.2)]; first | (rw [if_pos (i_nlt.mp h82)]; done) | (rw [if_neg (i_nle.mpr h82)]; done))), rfl, rfl⟩
      · rw [nI_leI (by omega) (by omega)] at h11
        obtain ⟨e1, e2⟩ := hpl i (by omega)
        refine v_iload_n dX10_gradeOf_14 rfl ?_
        refine v_aload_n dX10_gradeOf_15 rfl ?_
        refine mg54 dX10_gradeOf_16 ?_
        refine v_aload_n dX10_gradeOf_19 rfl ?_
        refine mg117 dX10_gradeOf_20 ?_
        refine v_iload dX10_gradeOf_23 rfl ?_
        refine m_ldN 42 (L := 4) hB.cy ⟨rfl, rfl, rfl⟩ rfl (by omega) (by decide) dX10_gradeOf_25 ?_
        refine m_ldN 21 (L := 200) hB.cy ⟨rfl, rfl, rfl⟩ e1 (by omega) (by decide) dX10_gradeOf_26 ?_
        refine v_max hB max_X10_183 max_s math_i max_c (by decide) ⟨by decide, by decide⟩ (Nat.le_of_ble_eq_true rfl) dX10_gradeOf_27 ?_
        refine v_istore_n2 dX10_gradeOf_30 (by decide) ?_
        refine v_iload_n dX10_gradeOf_31 rfl ?_
        refine v_aload_n dX10_gradeOf_32 rfl ?_
        refine mg57 dX10_gradeOf_33 ?_
        refine v_aload_n dX10_gradeOf_36 rfl ?_
        refine mg117 dX10_gradeOf_37 ?_
        refine v_iload dX10_gradeOf_40 rfl ?_
        refine m_ldN 42 (L := 4) hB.cy ⟨rfl, rfl, rfl⟩ rfl (by omega) (by decide) dX10_gradeOf_42 ?_
        refine m_ldN 22 (L := 200) hB.cy ⟨rfl, rfl, rfl⟩ e1 (by omega) (by decide) dX10_gradeOf_43 ?_
        refine v_min hB min_X10_189 min_s math_i min_c (by decide) ⟨by decide, by decide⟩ (Nat.le_of_ble_eq_true rfl) dX10_gradeOf_44 ?_
        refine v_istore_n3 dX10_gradeOf_47 (by decide) ?_
        refine v_iinc4 (v := 1) dX10_gradeOf_48 (by decide) (by decide) ?_
        rw [nI_1]
        refine v_goto (tgt := 8) dX10_gradeOf_51 (by decide) ?_
        exact ih (i + 1) (by omega) (by omega)
  refine v_iconst_v (v := 0) dX10_gradeOf_0 (by decide) ?_
  refine v_istore_n2 dX10_gradeOf_1 (by decide) ?_
  refine v_bipush_v (v := 9) dX10_gradeOf_2 (by decide) ?_
  refine v_istore_n3 dX10_gradeOf_4 (by decide) ?_
  refine v_iconst_v (v := 0) dX10_gradeOf_5 (by decide) ?_
  refine v_istore4 dX10_gradeOf_6 (by decide) ?_
  exact loop (pl.length + 1) 0 (by omega) (by omega)
set_option maxHeartbeats 4000000 in
set_option maxRecDepth 100000 in
theorem cM_could {l : Launch} {D : va_G} {cy : Nat → ClassId} {s0 : State} {ad : zA} {N : Nat → Nat} {sc : Nat → Int32} {ar : Nat → Nat → Int32} {f : Int32}  (hI : MI N (upd sc 0 0) ar) : zM l D cy s0 yX10_could cX10_could 2 (some .int) 9 0 0 [.ref (ad 30 0), .int f] ad (mW cy ad sc ar) (sP cy ad (v_could f (upd sc 0 0) ar, upd sc 0 0, ar)) := by
  refine zM_of (own := RX10) rfl (by decide) (by simp [Value.category]) (Nat.le_of_ble_eq_true rfl) ?_
  intro X hB
  show V X RX10 cX10_could 2 (some .int) 0 0 ad (mW cy ad sc ar) 0 [some (.ref (ad 30 0)), some (.int f)] []
  refine v_aload_n dX10_could_0 rfl ?_
  refine v_iconst_v (v := 0) dX10_could_1 (by decide) ?_
  refine mp1 dX10_could_2 ?_
  generalize upd sc 0 0 = sc at hI hB ⊢
  obtain ⟨⟨hN, b2, b3, b4, b5, b6, b7, b8, b9, b10⟩, hS, hQ, hBl, hCh, hZ⟩ := id hI
  refine v_aload_n dX10_could_5 rfl ?_
  refine v_iload_n dX10_could_6 rfl ?_
  refine v_cVi1 hB k_X10_143 cM_isFamily (by decide) ⟨by decide, by decide⟩ rfl rfl (Nat.le_of_ble_eq_true rfl) dX10_could_7 ?_
  refine v_if_ne (tgt := 15) dX10_could_10 (by decide) (fun h10 => ?_) (fun h10 => ?_)
  · rw [bI_ne] at h10
    refine v_aload_n dX10_could_15 rfl ?_
    refine v_iload_n dX10_could_16 rfl ?_
    refine v_cVg1 hB k_X10_192 (cM_finds hI) (by decide) ⟨by decide, by decide⟩ rfl rfl (Nat.le_of_ble_eq_true rfl) dX10_could_17 ?_
    rintro rr ad2 w2 ⟨rfl, rfl, sc2, ar2, rfl, hSR, hbs⟩
    show V X RX10 cX10_could _ (some .int) 0 0 ad2 (mW cy ad2 sc2 ar2) 20 _ []
    cases hbe : bestS sc ar f with
    | none =>
      rw [hbe] at hbs
      refine v_aload_n dX10_could_20 rfl ?_
      refine mg173 dX10_could_21 ?_
      refine v_if_ne (tgt := 32) dX10_could_24 (by decide) (fun h24 => ?_) (fun h24 => ?_)
      · exact absurd hbs h24
      · refine v_bipush_v (v := -2) dX10_could_27 (by decide) ?_
        refine v_goto (tgt := 36) dX10_could_29 (by decide) ?_
        exact v_iret hB (by decide) (by decide) dX10_could_36 (sPost (by unfold v_could; rw [if_pos h10, hbe]) hSR)
    | some pl =>
      rw [hbe] at hbs
      obtain ⟨g1, g2, g3, g4⟩ := hbs
      refine v_aload_n dX10_could_20 rfl ?_
      refine mg173 dX10_could_21 ?_
      refine v_if_ne (tgt := 32) dX10_could_24 (by decide) (fun h24 => ?_) (fun h24 => ?_)
      · refine v_aload_n dX10_could_32 rfl ?_
        refine mg173 dX10_could_33 ?_
        refine v_eq g1 ?_
        exact v_iret hB (by decide) (by decide) dX10_could_36 (sPost (by unfold v_could; rw [if_pos h10, hbe]) hSR)
      · exact absurd h24 (by rw [g1]; exact nI_ne0 (by omega) (by omega))
  · rw [bI_eq] at h10
    refine v_iconst_v (v := -1) dX10_could_13 (by decide) ?_
    exact v_iret hB (by decide) (by decide) dX10_could_14 (sPost (by unfold v_could; rw [if_neg h10]) (SR.refl _ _))

set_option maxHeartbeats 4000000 in
set_option maxRecDepth 100000 in
theorem cM_join {l : Launch} {D : va_G} {cy : Nat → ClassId} {s0 : State} {ad : zA} {N : Nat → Nat} {sc : Nat → Int32} {ar : Nat → Nat → Int32} {f : Int32}  (hI : MI N (upd sc 0 0) ar) : zM l D cy s0 yX10_join cX10_join 3 (some .int) 9 0 0 [.ref (ad 30 0), .int f] ad (mW cy ad sc ar) (sP cy ad (s_join f (upd sc 0 0) ar)) := by
  refine zM_of (own := RX10) rfl (by decide) (by simp [Value.category]) (Nat.le_of_ble_eq_true rfl) ?_
  intro X hB
  show V X RX10 cX10_join 3 (some .int) 0 0 ad (mW cy ad sc ar) 0 [some (.ref (ad 30 0)), some (.int f), none] []
  refine v_aload_n dX10_join_0 rfl ?_
  refine v_iconst_v (v := 0) dX10_join_1 (by decide) ?_
  refine mp1 dX10_join_2 ?_
  generalize upd sc 0 0 = sc at hI hB ⊢
  obtain ⟨⟨hN, b2, b3, b4, b5, b6, b7, b8, b9, b10⟩, hS, hQ, hBl, hCh, hZ⟩ := id hI
  refine v_aload_n dX10_join_5 rfl ?_
  refine v_iload_n dX10_join_6 rfl ?_
  refine v_cVi1 hB k_X10_143 cM_isFamily (by decide) ⟨by decide, by decide⟩ rfl rfl (Nat.le_of_ble_eq_true rfl) dX10_join_7 ?_
  refine v_if_ne (tgt := 19) dX10_join_10 (by decide) (fun h10 => ?_) (fun h10 => ?_)
  · rw [bI_ne] at h10
    refine v_aload_n dX10_join_19 rfl ?_
    refine v_iload_n dX10_join_20 rfl ?_
    refine v_cVg1 hB k_X10_192 (cM_finds hI) (by decide) ⟨by decide, by decide⟩ rfl rfl (Nat.le_of_ble_eq_true rfl) dX10_join_21 ?_
    rintro rr ad2 w2 ⟨rfl, rfl, sc2, ar2, rfl, hSR, hbs⟩
    show V X RX10 cX10_join _ (some .int) 0 0 ad2 (mW cy ad2 sc2 ar2) 24 _ []
    cases hbe : bestS sc ar f with
    | none =>
      rw [hbe] at hbs
      refine v_aload_n dX10_join_24 rfl ?_
      refine mg173 dX10_join_25 ?_
      refine v_if_ne (tgt := 37) dX10_join_28 (by decide) (fun h28 => ?_) (fun h28 => ?_)
      · exact absurd hbs h28
      · refine v_aload_n dX10_join_31 rfl ?_
        refine v_iconst_v (v := 5) dX10_join_32 (by decide) ?_
        refine v_cVi1 hB k_X10_136 cM_refused (by decide) ⟨by decide, by decide⟩ rfl rfl (Nat.le_of_ble_eq_true rfl) dX10_join_33 ?_
        exact v_iret hB (by decide) (by decide) dX10_join_36 (sPost (by unfold s_join; rw [if_pos h10, hbe]) (hSR.upd 1 5))
    | some pl =>
      rw [hbe] at hbs
      obtain ⟨g1, g2, g3, g4⟩ := hbs
      refine v_aload_n dX10_join_24 rfl ?_
      refine mg173 dX10_join_25 ?_
      refine v_if_ne (tgt := 37) dX10_join_28 (by decide) (fun h28 => ?_) (fun h28 => ?_)
      · have e5 : sc2 5 = nI (N 5) := by rw [hSR.1 5 (by decide) (by decide) (by decide)]; exact hN 5 (by decide) (by decide)
        refine v_aload_n dX10_join_37 rfl ?_
        refine mg196 dX10_join_38 ?_
        refine v_bipush_v (v := 120) dX10_join_41 (by decide) ?_
        refine v_icmp_ne (tgt := 52) dX10_join_43 (by decide) (fun h43 => ?_) (fun h43 => ?_)
        · have hne : ¬ nI (N 5) = 120 := by rw [← e5]; exact h43
          have h5lt : N 5 < 120 := by
            have z : ¬ N 5 = 120 := fun z => hne (by rw [z]; rfl)
            omega
          have loopj : ∀ (m i : Nat) (A : Nat → Nat → Int32), pl.length < i + m → i ≤ pl.length → SR sc sc2 (jnA pl (N 5) i (jnB f (sc 8) pl (N 5) ar)) A → A 42 = ar2 42 → V X RX10 cX10_join 3 (some .int) 0 0 ad2 (mW cy ad2 sc2 A) 118 [some (.ref (ad2 30 0)), some (.int f), some (.int (nI i))] [] := by
            intro m
            induction m with
            | zero => intro i A h1 h2; omega
            | succ m ih =>
              intro i A h1 h2 hA h42
              refine v_iload_n dX10_join_118 rfl ?_
              refine v_aload_n dX10_join_119 rfl ?_
              refine mg173 dX10_join_120 ?_
              refine v_icmp_ge (tgt := 166) dX10_join_123 (by decide) (fun h123 => ?_) (fun h123 => ?_)
              · rw [g1, nI_leI (by omega) (by omega)] at h123
                refine v_aload_n dX10_join_166 rfl ?_
                refine v_dup dX10_join_167 rfl ?_
                refine mg196 dX10_join_168 ?_
                refine v_iconst_v (v := 1) dX10_join_171 (by decide) ?_
                refine v_iadd dX10_join_172 ?_
                refine mp196 dX10_join_173 ?_
                refine v_aload_n dX10_join_176 rfl ?_
                refine v_aload_n dX10_join_177 rfl ?_
                refine mg196 dX10_join_178 ?_
                refine v_iconst_v (v := 1) dX10_join_181 (by decide) ?_
                refine v_isub dX10_join_182 ?_
                refine v_eq (show sc2 5 + 1 - 1 = nI (N 5) by rw [i_ps]; exact e5) ?_
                refine v_cVi1 hB k_X10_140 cM_done (by decide) ⟨by decide, by decide⟩ rfl rfl (Nat.le_of_ble_eq_true rfl) dX10_join_183 ?_
                refine v_iret hB (by decide) (by decide) dX10_join_186 (sPost (sc1 := upd (upd sc 5 (sc 5 + 1)) 1 0) (ar1 := jnA pl (N 5) pl.length (jnB f (sc 8) pl (N 5) ar)) ?_ ?_)
                · unfold s_join; rw [if_pos h10, hbe, hN 5 (by decide) (by decide), cl_nI (by omega)]; simp only []; rw [if_neg hne]
                · rw [show i = pl.length by omega] at hA
                  have hs : sc2 5 + 1 = sc 5 + 1 := by rw [e5, hN 5 (by decide) (by decide)]
                  rw [show upd sc2 5 (sc2 5 + 1) = upd sc2 5 (sc 5 + 1) by rw [hs]]
                  exact (hA.upd 5 (sc 5 + 1)).upd 1 0
              · rw [g1, nI_leI (by omega) (by omega)] at h123
                obtain ⟨e1, e2⟩ := g4 i (by omega)
                refine v_aload_n dX10_join_126 rfl ?_
                refine mg81 dX10_join_127 ?_
                refine v_iconst_v (v := 4) dX10_join_130 (by decide) ?_
                refine v_aload_n dX10_join_131 rfl ?_
                refine mg196 dX10_join_132 ?_
                refine v_imul dX10_join_135 ?_
                refine v_iload_n dX10_join_136 rfl ?_
                refine v_iadd dX10_join_137 ?_
                refine v_aload_n dX10_join_138 rfl ?_
                refine mg117 dX10_join_139 ?_
                refine v_iload_n dX10_join_142 rfl ?_
                refine m_ldN 42 (L := 4) hB.cy ⟨rfl, rfl, rfl⟩ rfl (by omega) (by decide) dX10_join_143 ?_
                refine v_eq (show A 42 i = nI (pl.getD i 0) by rw [h42]; exact e1) ?_
                refine m_stN 30 (L := 480) hB.cy ⟨rfl, rfl, rfl⟩ (show (4 : Int32) * sc2 5 + nI i = nI (4 * N 5 + i) from by rw [e5, show (4 : Int32) = nI 4 by decide, pk_mul, nI_add]) (by omega) (by decide) dX10_join_144 ?_
                refine v_aload_n dX10_join_145 rfl ?_
                refine mg63 dX10_join_146 ?_
                refine v_aload_n dX10_join_149 rfl ?_
                refine mg117 dX10_join_150 ?_
                refine v_iload_n dX10_join_153 rfl ?_
                refine m_ldN 42 (L := 4) hB.cy ⟨rfl, rfl, rfl⟩ rfl (by omega) (by decide) dX10_join_154 ?_
                refine v_aload_n dX10_join_155 rfl ?_
                refine mg196 dX10_join_156 ?_
                refine v_eq e5 ?_
                refine m_stN 24 (L := 200) hB.cy ⟨rfl, rfl, rfl⟩ (show putA A 30 (4 * N 5 + i) (nI (pl.getD i 0)) 42 i = nI (pl.getD i 0) by rw [putA_n _ _ _ (by decide), h42]; exact e1) (by omega) (by decide) dX10_join_159 ?_
                refine v_iinc2 (v := 1) dX10_join_160 (by decide) (by decide) ?_
                rw [nI_1]
                refine v_goto (tgt := 118) dX10_join_163 (by decide) ?_
                exact ih (i + 1) _ (by omega) (by omega) ((hA.put _ _ (by decide)).put _ _ (by decide)) (by rw [putA_n _ _ _ (by decide), putA_n _ _ _ (by decide)]; exact h42)
          refine v_aload_n dX10_join_52 rfl ?_
          refine mg66 dX10_join_53 ?_
          refine v_aload_n dX10_join_56 rfl ?_
          refine mg196 dX10_join_57 ?_
          refine v_iload_n dX10_join_60 rfl ?_
          refine m_stN 25 (L := 120) hB.cy ⟨rfl, rfl, rfl⟩ e5 (by omega) (by decide) dX10_join_61 ?_
          refine v_aload_n dX10_join_62 rfl ?_
          refine mg69 dX10_join_63 ?_
          refine v_aload_n dX10_join_66 rfl ?_
          refine mg196 dX10_join_67 ?_
          refine v_aload_n dX10_join_70 rfl ?_
          refine v_aload_n dX10_join_71 rfl ?_
          refine mg173 dX10_join_72 ?_
          refine v_eq g1 ?_
          refine v_cVi1 hB k_X10_199 (cM_gradeOf g3 (fun i hi => ?_)) (by decide) ⟨by decide, by decide⟩ rfl rfl (Nat.le_of_ble_eq_true rfl) dX10_join_75 ?_
          · obtain ⟨e1, e2⟩ := g4 i hi
            exact ⟨by rw [putA_n _ _ _ (by decide)]; exact e1, by omega⟩
          refine m_stN 26 (L := 120) hB.cy ⟨rfl, rfl, rfl⟩ e5 (by omega) (by decide) dX10_join_78 ?_
          refine v_aload_n dX10_join_79 rfl ?_
          refine mg72 dX10_join_80 ?_
          refine v_aload_n dX10_join_83 rfl ?_
          refine mg196 dX10_join_84 ?_
          refine v_aload_n dX10_join_87 rfl ?_
          refine mg154 dX10_join_88 ?_
          refine m_stN 27 (L := 120) hB.cy ⟨rfl, rfl, rfl⟩ e5 (by omega) (by decide) dX10_join_91 ?_
          refine v_aload_n dX10_join_92 rfl ?_
          refine mg75 dX10_join_93 ?_
          refine v_aload_n dX10_join_96 rfl ?_
          refine mg196 dX10_join_97 ?_
          refine v_aload_n dX10_join_100 rfl ?_
          refine mg173 dX10_join_101 ?_
          refine v_eq g1 ?_
          refine m_stN 28 (L := 120) hB.cy ⟨rfl, rfl, rfl⟩ e5 (by omega) (by decide) dX10_join_104 ?_
          refine v_aload_n dX10_join_105 rfl ?_
          refine mg78 dX10_join_106 ?_
          refine v_aload_n dX10_join_109 rfl ?_
          refine mg196 dX10_join_110 ?_
          refine v_bipush_v (v := -2) dX10_join_113 (by decide) ?_
          refine m_stN 29 (L := 120) hB.cy ⟨rfl, rfl, rfl⟩ e5 (by omega) (by decide) dX10_join_115 ?_
          refine v_iconst_v (v := 0) dX10_join_116 (by decide) ?_
          refine v_istore_n2 dX10_join_117 (by decide) ?_
          refine loopj (pl.length + 1) 0 _ (by omega) (by omega) ?_ ?_
          · have eg : grdL (putA ar2 25 (N 5) f) pl = grdL ar pl := by
              have z : SR sc sc2 (putA ar 25 (N 5) f) (putA ar2 25 (N 5) f) := hSR.put _ _ (by decide)
              rw [z.grdL]
              have e : ∀ n, gWd (putA ar 25 (N 5) f) pl n = gWd ar pl n ∧ gTs (putA ar 25 (N 5) f) pl n = gTs ar pl n := by
                intro n
                induction n with
                | zero => exact ⟨rfl, rfl⟩
                | succ n ih =>
                  unfold gWd gTs
                  rw [ih.1, ih.2, putA_n _ _ _ (by decide), putA_n _ _ _ (by decide)]
                  exact ⟨rfl, rfl⟩
              show grd _ _ = grd _ _
              rw [(e _).1, (e _).2]
            have e8 : sc2 8 = sc 8 := hSR.1 8 (by decide) (by decide) (by decide)
            show SR sc sc2 (jnB f (sc 8) pl (N 5) ar) _
            rw [eg, e8]
            exact ((((hSR.put _ _ (by decide)).put _ _ (by decide)).put _ _ (by decide)).put _ _ (by decide)).put _ _ (by decide)
          · rw [putA_n _ _ _ (by decide), putA_n _ _ _ (by decide), putA_n _ _ _ (by decide), putA_n _ _ _ (by decide), putA_n _ _ _ (by decide)]
        · refine v_aload_n dX10_join_46 rfl ?_
          refine v_iconst_v (v := 3) dX10_join_47 (by decide) ?_
          refine v_cVi1 hB k_X10_136 cM_refused (by decide) ⟨by decide, by decide⟩ rfl rfl (Nat.le_of_ble_eq_true rfl) dX10_join_48 ?_
          exact v_iret hB (by decide) (by decide) dX10_join_51 (sPost (by unfold s_join; rw [if_pos h10, hbe]; simp only []; rw [if_pos (by rw [hN 5 (by decide) (by decide), ← e5]; exact h43)]) (hSR.upd 1 3))
      · exact absurd h28 (by rw [g1]; exact nI_ne0 (by omega) (by omega))
  · rw [bI_eq] at h10
    refine v_aload_n dX10_join_13 rfl ?_
    refine v_iconst_v (v := 1) dX10_join_14 (by decide) ?_
    refine v_cVi1 hB k_X10_136 cM_refused (by decide) ⟨by decide, by decide⟩ rfl rfl (Nat.le_of_ble_eq_true rfl) dX10_join_15 ?_
    exact v_iret hB (by decide) (by decide) dX10_join_18 (sPost (by unfold s_join; rw [if_neg h10]) ((SR.refl _ _)))

