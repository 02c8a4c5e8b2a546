def putA_s (ar : Nat → Nat → Int32) (j n : Nat) (x : Int32) : putA ar j n x j n = x := by unfold putA; rw [upA_s]; exact pk_us
theorem putA_n (ar : Nat → Nat → Int32) {i j : Nat} (n : Nat) (x : Int32) (h : i ≠ j) : putA ar j n x i = ar i := by unfold putA; rw [upA_n _ _ h]
theorem putA_m (ar : Nat → Nat → Int32) (j : Nat) {m n : Nat} (x : Int32) (h : m ≠ n) : putA ar j n x j m = ar j m := by unfold putA; rw [upA_s]; exact pk_un h
def gqB (ar : Nat → Nat → Int32) (f g : Int32) (q : Nat) : Bool := looB ar f q && decide (ar 26 q = g)
theorem gqB_t {ar : Nat → Nat → Int32} {f g : Int32} {q : Nat} : gqB ar f g q = true ↔ looB ar f q = true ∧ ar 26 q = g := by unfold gqB; rw [Bool.and_eq_true, decide_eq_true_iff]
/-- the first chest of a grade that isn't full, from c on, of k more -/
def chF (ar : Nat → Nat → Int32) (g : Int32) : Nat → Nat → Nat
  | 0, c => c
  | k + 1, c => if ¬ ar 36 c = g ∨ ar 37 c = 6 then chF ar g k (c + 1) else c
theorem chF_le (ar : Nat → Nat → Int32) (g : Int32) : ∀ k c, c ≤ chF ar g k c ∧ chF ar g k c ≤ c + k
  | 0, c => ⟨Nat.le_refl _, Nat.le_refl _⟩
  | k + 1, c => by
    unfold chF
    split
    · have := chF_le ar g k (c + 1); omega
    · omega
def bA1 (c : Nat) (g : Int32) (sc : Nat → Int32) (ar : Nat → Nat → Int32) : Nat → Nat → Int32 := if nI c = sc 7 then putA (putA (putA ar 36 c g) 37 c 0) 38 c (sc 6) else ar
def bS1 (c : Nat) (sc : Nat → Int32) : Nat → Int32 := if nI c = sc 7 then upd sc 7 (sc 7 + 1) else sc
def bA3 (c b : Nat) (f g t : Int32) (ar : Nat → Nat → Int32) : Nat → Nat → Int32 := putA (putA (putA (putA (putA ar 37 c (ar 37 c + 1)) 31 b f) 32 b g) 33 b t) 34 b (nI c)
def bDu (fN : Nat) (ar : Nat → Nat → Int32) : Int32 := bI (0 < ar 13 fN ∨ ar 12 fN < ar 11 fN)
def bA5 (b fN gN : Nat) (ar : Nat → Nat → Int32) : Nat → Nat → Int32 := putA (putA ar 39 b (bDu fN ar)) 35 b (if bDu fN ar = 0 then ar 16 gN else 0)
def bA6 (fN : Nat) (ar : Nat → Nat → Int32) : Nat → Nat → Int32 := if 0 < ar 13 fN then putA ar 13 fN (ar 13 fN - 1) else if ar 12 fN < ar 11 fN then putA ar 12 fN (ar 12 fN + 1) else ar
def bA7 (b fN : Nat) (ar : Nat → Nat → Int32) : Nat → Nat → Int32 := putA ar 14 fN (ar 14 fN + ar 35 b)
def bnd (p : Nat → Bool) (n : Nat) (x : Int32) (ar : Nat → Nat → Int32) : Nat → Nat → Int32 := fun j q => if j = 29 ∧ q < n ∧ p q = true ∧ ctN p q < 5 then x else ar j q
def bAll (c b fN gN : Nat) (f g : Int32) (sc : Nat → Int32) (ar : Nat → Nat → Int32) : Nat → Nat → Int32 := bA7 b fN (bA6 fN (bA5 b fN gN (bA3 c b f g (sc 8) (bA1 c g sc ar))))
def s_bale (f g : Int32) (sc : Nat → Int32) (ar : Nat → Nat → Int32) : zRs :=
  if (0 ≤ f ∧ f < sc 2) ∧ (1 ≤ g ∧ g ≤ 4) then
    (if ctN (gqB ar f g) (cl (sc 5)) < 5 then (-1, upd sc 1 5, ar)
     else if sc 6 = 60 ∨ chF ar g (cl (sc 7)) 0 = 20 then (-1, upd sc 1 3, ar)
     else (sc 6, upd (upd (bS1 (chF ar g (cl (sc 7)) 0) sc) 6 (sc 6 + 1)) 1 0, bnd (gqB ar f g) (cl (sc 5)) (sc 6) (bAll (chF ar g (cl (sc 7)) 0) (cl (sc 6)) (cl f) (cl g) f g sc ar)))
  else (-1, upd sc 1 1, ar)
theorem bnd_0 (p : Nat → Bool) (x : Int32) (ar : Nat → Nat → Int32) : bnd p 0 x ar = ar := by
  funext j q; unfold bnd; rw [if_neg (fun z => absurd z.2.1 (Nat.not_lt_zero _))]
theorem bnd_n (p : Nat → Bool) (n : Nat) (x : Int32) (ar : Nat → Nat → Int32) {j : Nat} (h : j ≠ 29) : bnd p n x ar j = ar j := by
  funext q; unfold bnd; rw [if_neg (fun z => h z.1)]
theorem bnd_ge (p : Nat → Bool) {n q : Nat} (x : Int32) (ar : Nat → Nat → Int32) (j : Nat) (h : n ≤ q) : bnd p n x ar j q = ar j q := by
  unfold bnd; rw [if_neg (fun z => absurd z.2.1 (Nat.not_lt.mpr h))]
theorem bnd_no (p : Nat → Bool) (n : Nat) (x : Int32) (ar : Nat → Nat → Int32) (h : ¬ (p n = true ∧ ctN p n < 5)) : bnd p (n + 1) x ar = bnd p n x ar := by
  funext j q; unfold bnd
  by_cases hq : q = n
  · subst hq
    rw [if_neg (fun z => h z.2.2), if_neg (fun z => absurd z.2.1 (Nat.lt_irrefl _))]
  · have e : (q < n + 1) = (q < n) := by apply propext; omega
    simp only [e]
theorem bnd_yes (p : Nat → Bool) (n : Nat) (x : Int32) (ar : Nat → Nat → Int32) (h1 : p n = true) (h2 : ctN p n < 5) : putA (bnd p n x ar) 29 n x = bnd p (n + 1) x ar := by
  funext j q
  by_cases hj : j = 29
  · subst hj
    by_cases hq : q = n
    · subst hq
      rw [putA_s]
      unfold bnd
      rw [if_pos ⟨rfl, Nat.lt_succ_self _, h1, h2⟩]
    · rw [putA_m _ _ _ hq]
      unfold bnd
      have e : (q < n + 1) = (q < n) := by apply propext; omega
      simp only [e]
  · rw [putA_n _ _ _ hj, bnd_n _ _ _ _ hj, bnd_n _ _ _ _ hj]
theorem ctN_ge (p : Nat → Bool) : ∀ {m n : Nat}, m ≤ n → ctN p m ≤ ctN p n := by
  intro m n h
  induction n with
  | zero => have : m = 0 := by omega
            subst this; exact Nat.le_refl _
  | succ n ih =>
    by_cases e : m = n + 1
    · subst e; exact Nat.le_refl _
    · have := ih (by omega)
      show ctN p m ≤ ctN p n + (if p n then 1 else 0)
      omega
theorem bnd_end (p : Nat → Bool) {q n : Nat} (x : Int32) (ar : Nat → Nat → Int32) (h : q ≤ n) (h5 : 5 ≤ ctN p q) : bnd p q x ar = bnd p n x ar := by
  funext j i; unfold bnd
  by_cases hi : i < q
  · have e : (i < q) = (i < n) := by apply propext; omega
    simp only [e]
  · rw [if_neg (fun z => hi z.2.1), if_neg (fun z => ?_)]
    have := ctN_ge p (show q ≤ i by omega)
    omega
theorem bAll_25 (c b fN gN : Nat) (f g : Int32) (sc : Nat → Int32) (ar : Nat → Nat → Int32) {j : Nat} (h : j = 25 ∨ j = 26 ∨ j = 29) : bAll c b fN gN f g sc ar j = ar j := by
  have h14 : j ≠ 14 := by omega
  have h12 : j ≠ 12 := by omega
  have h13 : j ≠ 13 := by omega
  have h35 : j ≠ 35 := by omega
  have h39 : j ≠ 39 := by omega
  have h34 : j ≠ 34 := by omega
  have h33 : j ≠ 33 := by omega
  have h32 : j ≠ 32 := by omega
  have h31 : j ≠ 31 := by omega
  have h37 : j ≠ 37 := by omega
  have h36 : j ≠ 36 := by omega
  have h38 : j ≠ 38 := by omega
  unfold bAll bA7
  rw [putA_n _ _ _ h14]
  unfold bA6
  have e5 : ∀ A, bA5 b fN gN A j = A j := fun A => by unfold bA5; rw [putA_n _ _ _ h35, putA_n _ _ _ h39]
  have e3 : ∀ A, bA3 c b f g (sc 8) A j = A j := fun A => by unfold bA3; rw [putA_n _ _ _ h34, putA_n _ _ _ h33, putA_n _ _ _ h32, putA_n _ _ _ h31, putA_n _ _ _ h37]
  have e1 : bA1 c g sc ar j = ar j := by unfold bA1; split; rw [putA_n _ _ _ h38, putA_n _ _ _ h37, putA_n _ _ _ h36]; rfl
  split
  · rw [putA_n _ _ _ h13, e5, e3, e1]
  · split
    · rw [putA_n _ _ _ h12, e5, e3, e1]
    · rw [e5, e3, e1]
theorem bA1_k (c : Nat) (g : Int32) (sc : Nat → Int32) (ar : Nat → Nat → Int32) {j : Nat} (h36 : j ≠ 36) (h37 : j ≠ 37) (h38 : j ≠ 38) : bA1 c g sc ar j = ar j := by
  unfold bA1; split
  · rw [putA_n _ _ _ h38, putA_n _ _ _ h37, putA_n _ _ _ h36]
  · rfl
theorem bA3_k (c b : Nat) (f g t : Int32) (ar : Nat → Nat → Int32) {j : Nat} (h31 : j ≠ 31) (h32 : j ≠ 32) (h33 : j ≠ 33) (h34 : j ≠ 34) (h37 : j ≠ 37) : bA3 c b f g t ar j = ar j := by
  unfold bA3; rw [putA_n _ _ _ h34, putA_n _ _ _ h33, putA_n _ _ _ h32, putA_n _ _ _ h31, putA_n _ _ _ h37]
theorem bA5_k (b fN gN : Nat) (ar : Nat → Nat → Int32) {j : Nat} (h35 : j ≠ 35) (h39 : j ≠ 39) : bA5 b fN gN ar j = ar j := by
  unfold bA5; rw [putA_n _ _ _ h35, putA_n _ _ _ h39]
theorem bA6_k (fN : Nat) (ar : Nat → Nat → Int32) {j : Nat} (h12 : j ≠ 12) (h13 : j ≠ 13) : bA6 fN ar j = ar j := by
  unfold bA6; split
  · rw [putA_n _ _ _ h13]
  · split
    · rw [putA_n _ _ _ h12]
    · rfl
theorem bS1_k (c : Nat) (sc : Nat → Int32) {j : Nat} (h : j ≠ 7) : bS1 c sc j = sc j := by
  unfold bS1; split
  · unfold upd; rw [if_neg h]
  · rfl
set_option maxHeartbeats 4000000 in
set_option maxRecDepth 100000 in
theorem cM_bale {l : Launch} {D : va_G} {cy : Nat → ClassId} {s0 : State} {ad : zA} {N : Nat → Nat} {sc : Nat → Int32} {ar : Nat → Nat → Int32} {f g : Int32}  (hI : MI N (upd sc 0 0) ar) : zM l D cy s0 yX10_bale cX10_bale 8 (some .int) 2 0 0 [.ref (ad 30 0), .int f, .int g] ad (mW cy ad sc ar) (zPi (s_bale f g (upd sc 0 0) ar).1 ad (mW cy ad (s_bale f g (upd sc 0 0) ar).2.1 (s_bale f g (upd sc 0 0) ar).2.2)) := by
  refine zM_of (own := RX10) rfl (by decide) (by simp [Value.category]) (Nat.le_of_ble_eq_true rfl) ?_
  intro X hB
  show V X RX10 cX10_bale 8 (some .int) 0 0 ad (mW cy ad sc ar) 0 [some (.ref (ad 30 0)), some (.int f), some (.int g), none, none, none, none, none] []
  refine v_aload_n dX10_bale_0 rfl ?_
  refine v_iconst_v (v := 0) dX10_bale_1 (by decide) ?_
  refine mp1 dX10_bale_2 ?_
  generalize upd sc 0 0 = sc at hI hB ⊢
  obtain ⟨⟨hN, b2, b3, b4, b5, b6, b7, b8, b9, b10⟩, hS, hQ, hBl, hCh, hZ⟩ := id hI
  refine v_aload_n dX10_bale_5 rfl ?_
  refine v_iload_n dX10_bale_6 rfl ?_
  refine v_cVi1 hB k_X10_143 cM_isFamily (by decide) ⟨by decide, by decide⟩ rfl rfl (Nat.le_of_ble_eq_true rfl) dX10_bale_7 ?_
  refine v_if_eq (tgt := 22) dX10_bale_10 (by decide) (fun h10 => ?_) (fun h10 => ?_)
  · rw [bI_eq] at h10
    refine v_aload_n dX10_bale_22 rfl ?_
    refine v_iconst_v (v := 1) dX10_bale_23 (by decide) ?_
    refine v_cVi1 hB k_X10_136 cM_refused (by decide) ⟨by decide, by decide⟩ rfl rfl (Nat.le_of_ble_eq_true rfl) dX10_bale_24 ?_
    exact v_iret hB (by decide) (by decide) dX10_bale_27 (mPost (by unfold s_bale; first | rw [if_neg (fun z => h10 z.1)] | rw [if_neg (fun z => h19 z.2)]))
  · rw [bI_ne] at h10
    refine v_iload_n dX10_bale_13 rfl ?_
    refine v_iconst_v (v := 1) dX10_bale_14 (by decide) ?_
    refine v_iconst_v (v := 4) dX10_bale_15 (by decide) ?_
    refine v_cSi3 hB k_X10_132 cM_in (by decide) ⟨by decide, by decide⟩ (Nat.le_of_ble_eq_true rfl) dX10_bale_16 ?_
    refine v_if_ne (tgt := 28) dX10_bale_19 (by decide) (fun h19 => ?_) (fun h19 => ?_)
    · rw [bI_ne] at h19
      obtain ⟨fN, hfN, rfl⟩ := i_ix (by rw [hN 2 (by decide) (by decide)] at h10; exact h10) (by omega)
      obtain ⟨gN, hg1, hg2, rfl⟩ := i_rg (lo := 1) (hi := 4) h19 (by decide) (by decide)
      have hct5 := ctN_le (gqB ar (nI fN) (nI gN)) (N 5)
      have hcF := chF_le ar (nI gN) (N 7) 0
      have K77 : V X RX10 cX10_bale 8 (some .int) 0 0 ad (mW cy ad sc ar) 77 [some (.ref (ad 30 0)), some (.int (nI fN)), some (.int (nI gN)), some (.int (nI (ctN (gqB ar (nI fN) (nI gN)) (N 5)))), some (.int (nI (N 5))), none, none, none] [] := by
        refine v_iload_n dX10_bale_77 rfl ?_
        refine v_iconst_v (v := 5) dX10_bale_78 (by decide) ?_
        refine v_icmp_ge (tgt := 88) dX10_bale_79 (by decide) (fun h79 => ?_) (fun h79 => ?_)
        · have h79 : 5 ≤ ctN (gqB ar (nI fN) (nI gN)) (N 5) := (nI_leI (a := 5) (by decide) (by omega)).mp h79
          have K129 : V X RX10 cX10_bale 8 (some .int) 0 0 ad (mW cy ad sc ar) 129 [some (.ref (ad 30 0)), some (.int (nI fN)), some (.int (nI gN)), some (.int (nI (ctN (gqB ar (nI fN) (nI gN)) (N 5)))), some (.int (nI (chF ar (nI gN) (N 7) 0))), none, none, none] [] := by
            refine v_aload_n dX10_bale_129 rfl ?_
            refine mg211 dX10_bale_130 ?_
            refine v_bipush_v (v := 60) dX10_bale_133 (by decide) ?_
            refine v_icmp_eq (tgt := 145) dX10_bale_135 (by decide) (fun h135 => ?_) (fun h135 => ?_)
            · refine v_aload_n dX10_bale_145 rfl ?_
              refine v_iconst_v (v := 3) dX10_bale_146 (by decide) ?_
              refine v_cVi1 hB k_X10_136 cM_refused (by decide) ⟨by decide, by decide⟩ rfl rfl (Nat.le_of_ble_eq_true rfl) dX10_bale_147 ?_
              exact v_iret hB (by decide) (by decide) dX10_bale_150 (mPost (by unfold s_bale; rw [hN 5 (by decide) (by decide), hN 7 (by decide) (by decide), cl_nI (n := N 5) (by omega), cl_nI (n := N 7) (by omega), if_pos ⟨h10, h19⟩, if_neg (show ¬ ctN (gqB ar (nI fN) (nI gN)) (N 5) < 5 by omega)]; first | rw [if_pos (Or.inl h135)] | rw [if_pos (Or.inr h142)]))
            · refine v_iload dX10_bale_138 rfl ?_
              refine v_bipush_v (v := 20) dX10_bale_140 (by decide) ?_
              refine v_icmp_ne (tgt := 151) dX10_bale_142 (by decide) (fun h142 => ?_) (fun h142 => ?_)
              · have h142 : ¬ (chF ar (nI gN) (N 7) 0) = 20 := fun z => h142 (by rw [z]; rfl)
                have hroom : ¬ (nI (N 6) = 60 ∨ (chF ar (nI gN) (N 7) 0) = 20) := fun z => z.elim (fun y => h135 ((hN 6 (by decide) (by decide)).trans y)) h142
                have h660 : N 6 < 60 := by
                  have z : ¬ N 6 = 60 := fun z => hroom (Or.inl (by rw [z]; rfl))
                  omega
                have hspec : s_bale (nI fN) (nI gN) sc ar = (nI (N 6), upd (upd (bS1 (chF ar (nI gN) (N 7) 0) sc) 6 (sc 6 + 1)) 1 0, bnd (gqB ar (nI fN) (nI gN)) (N 5) (nI (N 6)) (bAll (chF ar (nI gN) (N 7) 0) (N 6) fN gN (nI fN) (nI gN) sc ar)) := by
                  unfold s_bale
                  rw [hN 5 (by decide) (by decide), hN 7 (by decide) (by decide), hN 6 (by decide) (by decide), cl_nI (n := N 5) (by omega), cl_nI (n := N 7) (by omega), cl_nI (n := N 6) (by omega), cl_nI (n := fN) (by omega), cl_nI (n := gN) (by omega)]
                  rw [if_pos ⟨h10, h19⟩, if_neg (show ¬ ctN (gqB ar (nI fN) (nI gN)) (N 5) < 5 by omega), if_neg hroom]
                have loop3 : ∀ (m : Nat) (S2 : Nat → Int32) (A7 : Nat → Nat → Int32) (q : Nat), N 5 < q + m → q ≤ N 5 → S2 5 = nI (N 5) → A7 25 = ar 25 → A7 26 = ar 26 → A7 29 = ar 29 → s_bale (nI fN) (nI gN) sc ar = (nI (N 6), upd (S2) 1 0, bnd (gqB ar (nI fN) (nI gN)) (N 5) (nI (N 6)) (A7)) → V X RX10 cX10_bale 8 (some .int) 0 0 ad (mW cy ad S2 (bnd (gqB ar (nI fN) (nI gN)) q (nI (N 6)) A7)) 392 [some (.ref (ad 30 0)), some (.int (nI fN)), some (.int (nI gN)), some (.int (nI (ctN (gqB ar (nI fN) (nI gN)) (N 5)))), some (.int (nI (chF ar (nI gN) (N 7) 0))), some (.int (nI (N 6))), some (.int (nI (5 - ctN (gqB ar (nI fN) (nI gN)) q))), some (.int (nI q))] [] := by
                  intro m
                  induction m with
                  | zero => intro S2 A7 q h1 h2; omega
                  | succ m ih =>
                    intro S2 A7 q h1 h2 e5 a25 a26 a29 hfin
                    refine v_iload dX10_bale_392 rfl ?_
                    refine v_aload_n dX10_bale_394 rfl ?_
                    refine mg196 dX10_bale_395 ?_
                    refine v_icmp_ge (tgt := 448) dX10_bale_398 (by decide) (fun h398 => ?_) (fun h398 => ?_)
                    · rw [e5, nI_leI (by omega) (by omega)] at h398
                      refine v_aload_n dX10_bale_448 rfl ?_
                      refine v_iload dX10_bale_449 rfl ?_
                      refine v_cVi1 hB k_X10_140 cM_done (by decide) ⟨by decide, by decide⟩ rfl rfl (Nat.le_of_ble_eq_true rfl) dX10_bale_451 ?_
                      have eb : bnd (gqB ar (nI fN) (nI gN)) q (nI (N 6)) A7 = bnd (gqB ar (nI fN) (nI gN)) (N 5) (nI (N 6)) A7 := by
                        first | (rw [show q = N 5 by omega]; done) | exact bnd_end _ _ _ (by omega) (by omega)
                      exact v_iret hB (by decide) (by decide) dX10_bale_454 (mPost (by rw [eb]; exact hfin))
                    · rw [e5, nI_leI (by omega) (by omega)] at h398
                      refine v_iload dX10_bale_401 rfl ?_
                      refine v_if_le (tgt := 448) dX10_bale_403 (by decide) (fun h403 => ?_) (fun h403 => ?_)
                      · rw [n_le0 (by omega)] at h403
                        refine v_aload_n dX10_bale_448 rfl ?_
                        refine v_iload dX10_bale_449 rfl ?_
                        refine v_cVi1 hB k_X10_140 cM_done (by decide) ⟨by decide, by decide⟩ rfl rfl (Nat.le_of_ble_eq_true rfl) dX10_bale_451 ?_
                        have eb : bnd (gqB ar (nI fN) (nI gN)) q (nI (N 6)) A7 = bnd (gqB ar (nI fN) (nI gN)) (N 5) (nI (N 6)) A7 := by
                          first | (rw [show q = N 5 by omega]; done) | exact bnd_end _ _ _ (by omega) (by omega)
                        exact v_iret hB (by decide) (by decide) dX10_bale_454 (mPost (by rw [eb]; exact hfin))
                      · rw [n_le0 (by omega)] at h403
                        have el : (looB (bnd (gqB ar (nI fN) (nI gN)) q (nI (N 6)) A7) (nI fN) q = true) = (looB ar (nI fN) q = true) := by
                          unfold looB
                          rw [bnd_ge _ _ _ _ (Nat.le_refl q), bnd_ge _ _ _ _ (Nat.le_refl q), a25, a29]
                        refine v_aload_n dX10_bale_406 rfl ?_
                        refine v_iload dX10_bale_407 rfl ?_
                        refine v_iload_n dX10_bale_409 rfl ?_
                        refine v_cVi2 hB k_X10_205 (cM_isLoose (by omega)) (by decide) ⟨by decide, by decide⟩ rfl rfl (Nat.le_of_ble_eq_true rfl) dX10_bale_410 ?_
                        refine v_if_eq (tgt := 442) dX10_bale_413 (by decide) (fun h413 => ?_) (fun h413 => ?_)
                        · rw [bI_eq, el] at h413
                          refine v_iinc7 (v := 1) dX10_bale_442 (by decide) (by decide) ?_
                          refine v_goto (tgt := 392) dX10_bale_445 (by decide) ?_
                          rw [nI_1]
                          by_cases hgq : gqB ar (nI fN) (nI gN) q = true
                          · have hk : 5 - ctN (gqB ar (nI fN) (nI gN)) q = (5 - ctN (gqB ar (nI fN) (nI gN)) (q + 1)) + 1 := by rw [ctN, if_pos hgq]; omega
                            first | exact absurd (gqB_t.mp hgq).1 h413 | exact absurd (gqB_t.mp hgq).2 h424 | (rw [hk]; rw [hk, pk_m1] ; exact ih S2 A7 (q + 1) (by omega) (by omega) e5 a25 a26 a29 hfin) | (rw [hk, pk_m1]; exact ih S2 A7 (q + 1) (by omega) (by omega) e5 a25 a26 a29 hfin)
                          · have hk : ctN (gqB ar (nI fN) (nI gN)) (q + 1) = ctN (gqB ar (nI fN) (nI gN)) q := by rw [ctN, if_neg hgq]; rfl
                            first | exact absurd (gqB_t.mpr ⟨h413, h424⟩) hgq | (have e := ih S2 A7 (q + 1) (by omega) (by omega) e5 a25 a26 a29 hfin; rw [hk, bnd_no _ _ _ _ (fun z => hgq z.1)] at e; exact e)
                        · rw [bI_ne, el] at h413
                          refine v_aload_n dX10_bale_416 rfl ?_
                          refine mg69 dX10_bale_417 ?_
                          refine v_iload dX10_bale_420 rfl ?_
                          refine m_ldN 26 (L := 120) hB.cy ⟨rfl, rfl, rfl⟩ rfl (by omega) (by decide) dX10_bale_422 ?_
                          refine v_eq (show bnd (gqB ar (nI fN) (nI gN)) q (nI (N 6)) A7 26 q = ar 26 q by rw [bnd_ge _ _ _ _ (Nat.le_refl q), a26]) ?_
                          refine v_iload_n dX10_bale_423 rfl ?_
                          refine v_icmp_eq (tgt := 430) dX10_bale_424 (by decide) (fun h424 => ?_) (fun h424 => ?_)
                          · refine v_aload_n dX10_bale_430 rfl ?_
                            refine mg78 dX10_bale_431 ?_
                            refine v_iload dX10_bale_434 rfl ?_
                            refine v_iload dX10_bale_436 rfl ?_
                            refine m_stN 29 (L := 120) hB.cy ⟨rfl, rfl, rfl⟩ rfl (by omega) (by decide) dX10_bale_438 ?_
                            refine v_w (congrArg (mW cy ad S2) (bnd_yes (gqB ar (nI fN) (nI gN)) q (nI (N 6)) A7 (gqB_t.mpr ⟨h413, h424⟩) (by omega))) ?_
                            refine v_iinc6 (v := -1) dX10_bale_439 (by decide) (by decide) ?_
                            refine v_iinc7 (v := 1) dX10_bale_442 (by decide) (by decide) ?_
                            refine v_goto (tgt := 392) dX10_bale_445 (by decide) ?_
                            rw [nI_1]
                            by_cases hgq : gqB ar (nI fN) (nI gN) q = true
                            · have hk : 5 - ctN (gqB ar (nI fN) (nI gN)) q = (5 - ctN (gqB ar (nI fN) (nI gN)) (q + 1)) + 1 := by rw [ctN, if_pos hgq]; omega
                              first | exact absurd (gqB_t.mp hgq).1 h413 | exact absurd (gqB_t.mp hgq).2 h424 | (rw [hk]; rw [hk, pk_m1] ; exact ih S2 A7 (q + 1) (by omega) (by omega) e5 a25 a26 a29 hfin) | (rw [hk, pk_m1]; exact ih S2 A7 (q + 1) (by omega) (by omega) e5 a25 a26 a29 hfin)
                            · have hk : ctN (gqB ar (nI fN) (nI gN)) (q + 1) = ctN (gqB ar (nI fN) (nI gN)) q := by rw [ctN, if_neg hgq]; rfl
                              first | exact absurd (gqB_t.mpr ⟨h413, h424⟩) hgq | (have e := ih S2 A7 (q + 1) (by omega) (by omega) e5 a25 a26 a29 hfin; rw [hk, bnd_no _ _ _ _ (fun z => hgq z.1)] at e; exact e)
                          · refine v_goto (tgt := 442) dX10_bale_427 (by decide) ?_
                            refine v_iinc7 (v := 1) dX10_bale_442 (by decide) (by decide) ?_
                            refine v_goto (tgt := 392) dX10_bale_445 (by decide) ?_
                            rw [nI_1]
                            by_cases hgq : gqB ar (nI fN) (nI gN) q = true
                            · have hk : 5 - ctN (gqB ar (nI fN) (nI gN)) q = (5 - ctN (gqB ar (nI fN) (nI gN)) (q + 1)) + 1 := by rw [ctN, if_pos hgq]; omega
                              first | exact absurd (gqB_t.mp hgq).1 h413 | exact absurd (gqB_t.mp hgq).2 h424 | (rw [hk]; rw [hk, pk_m1] ; exact ih S2 A7 (q + 1) (by omega) (by omega) e5 a25 a26 a29 hfin) | (rw [hk, pk_m1]; exact ih S2 A7 (q + 1) (by omega) (by omega) e5 a25 a26 a29 hfin)
                            · have hk : ctN (gqB ar (nI fN) (nI gN)) (q + 1) = ctN (gqB ar (nI fN) (nI gN)) q := by rw [ctN, if_neg hgq]; rfl
                              first | exact absurd (gqB_t.mpr ⟨h413, h424⟩) hgq | (have e := ih S2 A7 (q + 1) (by omega) (by omega) e5 a25 a26 a29 hfin; rw [hk, bnd_no _ _ _ _ (fun z => hgq z.1)] at e; exact e)
                have J370 : ∀ (S2 : Nat → Int32) (A6 : Nat → Nat → Int32), S2 5 = nI (N 5) → A6 25 = ar 25 → A6 26 = ar 26 → A6 29 = ar 29 → s_bale (nI fN) (nI gN) sc ar = (nI (N 6), upd (S2) 1 0, bnd (gqB ar (nI fN) (nI gN)) (N 5) (nI (N 6)) (bA7 (N 6) fN A6)) → V X RX10 cX10_bale 8 (some .int) 0 0 ad (mW cy ad S2 A6) 370 [some (.ref (ad 30 0)), some (.int (nI fN)), some (.int (nI gN)), some (.int (nI (ctN (gqB ar (nI fN) (nI gN)) (N 5)))), some (.int (nI (chF ar (nI gN) (N 7) 0))), some (.int (nI (N 6))), none, none] [] := by
                    intro S2 A6 e5 a25 a26 a29 hfin
                    refine v_aload_n dX10_bale_370 rfl ?_
                    refine mg32 dX10_bale_371 ?_
                    refine v_iload_n dX10_bale_374 rfl ?_
                    refine v_dup2 dX10_bale_375 rfl rfl ?_
                    refine m_ldN 14 (L := 8) hB.cy ⟨rfl, rfl, rfl⟩ rfl (by omega) (by decide) dX10_bale_376 ?_
                    refine v_aload_n dX10_bale_377 rfl ?_
                    refine mg96 dX10_bale_378 ?_
                    refine v_iload dX10_bale_381 rfl ?_
                    refine m_ldN 35 (L := 60) hB.cy ⟨rfl, rfl, rfl⟩ rfl (by omega) (by decide) dX10_bale_383 ?_
                    refine v_iadd dX10_bale_384 ?_
                    refine m_stN 14 (L := 8) hB.cy ⟨rfl, rfl, rfl⟩ rfl (by omega) (by decide) dX10_bale_385 ?_
                    refine v_iconst_v (v := 5) dX10_bale_386 (by decide) ?_
                    refine v_istore6 dX10_bale_387 (by decide) ?_
                    refine v_iconst_v (v := 0) dX10_bale_389 (by decide) ?_
                    refine v_istore7 dX10_bale_390 (by decide) ?_
                    have e := loop3 (N 5 + 1) S2 (bA7 (N 6) fN A6) 0 (by omega) (by omega) e5 a25 a26 a29 hfin
                    rw [bnd_0] at e
                    exact e
                have J323 : ∀ (S2 : Nat → Int32) (A5 : Nat → Nat → Int32), S2 5 = nI (N 5) → A5 25 = ar 25 → A5 26 = ar 26 → A5 29 = ar 29 → s_bale (nI fN) (nI gN) sc ar = (nI (N 6), upd (S2) 1 0, bnd (gqB ar (nI fN) (nI gN)) (N 5) (nI (N 6)) (bA7 (N 6) fN (bA6 fN A5))) → V X RX10 cX10_bale 8 (some .int) 0 0 ad (mW cy ad S2 A5) 323 [some (.ref (ad 30 0)), some (.int (nI fN)), some (.int (nI gN)), some (.int (nI (ctN (gqB ar (nI fN) (nI gN)) (N 5)))), some (.int (nI (chF ar (nI gN) (N 7) 0))), some (.int (nI (N 6))), none, none] [] := by
                    intro S2 A5 e5 a25 a26 a29 hfin
                    refine v_aload_n dX10_bale_323 rfl ?_
                    refine mg29 dX10_bale_324 ?_
                    refine v_iload_n dX10_bale_327 rfl ?_
                    refine m_ldN 13 (L := 8) hB.cy ⟨rfl, rfl, rfl⟩ rfl (by omega) (by decide) dX10_bale_328 ?_
                    refine v_if_le (tgt := 345) dX10_bale_329 (by decide) (fun h329 => ?_) (fun h329 => ?_)
                    · refine v_aload_n dX10_bale_345 rfl ?_
                      refine mg26 dX10_bale_346 ?_
                      refine v_iload_n dX10_bale_349 rfl ?_
                      refine m_ldN 12 (L := 8) hB.cy ⟨rfl, rfl, rfl⟩ rfl (by omega) (by decide) dX10_bale_350 ?_
                      refine v_aload_n dX10_bale_351 rfl ?_
                      refine mg22 dX10_bale_352 ?_
                      refine v_iload_n dX10_bale_355 rfl ?_
                      refine m_ldN 11 (L := 8) hB.cy ⟨rfl, rfl, rfl⟩ rfl (by omega) (by decide) dX10_bale_356 ?_
                      refine v_icmp_ge (tgt := 370) dX10_bale_357 (by decide) (fun h357 => ?_) (fun h357 => ?_)
                      · refine J370 S2 _ e5 ?_ ?_ ?_ (hfin.trans ?_)
                        · first | exact a25 | (rw [putA_n _ _ _ (by decide)]; exact a25)
                        · first | exact a26 | (rw [putA_n _ _ _ (by decide)]; exact a26)
                        · first | exact a29 | (rw [putA_n _ _ _ (by decide)]; exact a29)
                        · unfold bA6
                          first | (rw [if_pos (i_nle.mp h329)]; done) | (rw [if_neg (i_nlt.mpr h329), if_pos (i_nle.mp h357)]; done) | (rw [if_neg (i_nlt.mpr h329), if_neg (i_nlt.mpr h357)]; done)
                      · refine v_aload_n dX10_bale_360 rfl ?_
                        refine mg26 dX10_bale_361 ?_
                        refine v_iload_n dX10_bale_364 rfl ?_
                        refine v_dup2 dX10_bale_365 rfl rfl ?_
                        refine m_ldN 12 (L := 8) hB.cy ⟨rfl, rfl, rfl⟩ rfl (by omega) (by decide) dX10_bale_366 ?_
                        refine v_iconst_v (v := 1) dX10_bale_367 (by decide) ?_
                        refine v_iadd dX10_bale_368 ?_
                        refine m_stN 12 (L := 8) hB.cy ⟨rfl, rfl, rfl⟩ rfl (by omega) (by decide) dX10_bale_369 ?_
                        refine J370 S2 _ e5 ?_ ?_ ?_ (hfin.trans ?_)
                        · first | exact a25 | (rw [putA_n _ _ _ (by decide)]; exact a25)
                        · first | exact a26 | (rw [putA_n _ _ _ (by decide)]; exact a26)
                        · first | exact a29 | (rw [putA_n _ _ _ (by decide)]; exact a29)
                        · unfold bA6
                          first | (rw [if_pos (i_nle.mp h329)]; done) | (rw [if_neg (i_nlt.mpr h329), if_pos (i_nle.mp h357)]; done) | (rw [if_neg (i_nlt.mpr h329), if_neg (i_nlt.mpr h357)]; done)
                    · refine v_aload_n dX10_bale_332 rfl ?_
                      refine mg29 dX10_bale_333 ?_
                      refine v_iload_n dX10_bale_336 rfl ?_
                      refine v_dup2 dX10_bale_337 rfl rfl ?_
                      refine m_ldN 13 (L := 8) hB.cy ⟨rfl, rfl, rfl⟩ rfl (by omega) (by decide) dX10_bale_338 ?_
                      refine v_iconst_v (v := 1) dX10_bale_339 (by decide) ?_
                      refine v_isub dX10_bale_340 ?_
                      refine m_stN 13 (L := 8) hB.cy ⟨rfl, rfl, rfl⟩ rfl (by omega) (by decide) dX10_bale_341 ?_
                      refine v_goto (tgt := 370) dX10_bale_342 (by decide) ?_
                      refine J370 S2 _ e5 ?_ ?_ ?_ (hfin.trans ?_)
                      · first | exact a25 | (rw [putA_n _ _ _ (by decide)]; exact a25)
                      · first | exact a26 | (rw [putA_n _ _ _ (by decide)]; exact a26)
                      · first | exact a29 | (rw [putA_n _ _ _ (by decide)]; exact a29)
                      · unfold bA6
                        first | (rw [if_pos (i_nle.mp h329)]; done) | (rw [if_neg (i_nlt.mpr h329), if_pos (i_nle.mp h357)]; done) | (rw [if_neg (i_nlt.mpr h329), if_neg (i_nlt.mpr h357)]; done)
                have J295 : ∀ (S2 : Nat → Int32) (A3 : Nat → Nat → Int32), S2 5 = nI (N 5) → A3 25 = ar 25 → A3 26 = ar 26 → A3 29 = ar 29 → s_bale (nI fN) (nI gN) sc ar = (nI (N 6), upd (S2) 1 0, bnd (gqB ar (nI fN) (nI gN)) (N 5) (nI (N 6)) (bA7 (N 6) fN (bA6 fN (bA5 (N 6) fN gN A3)))) → V X RX10 cX10_bale 8 (some .int) 0 0 ad (mW cy ad S2 A3) 295 [some (.ref (ad 30 0)), some (.int (nI fN)), some (.int (nI gN)), some (.int (nI (ctN (gqB ar (nI fN) (nI gN)) (N 5)))), some (.int (nI (chF ar (nI gN) (N 7) 0))), some (.int (nI (N 6))), none, none] [.int (bDu fN A3), .int (nI (N 6)), .ref (ad 31 39)] := by
                    intro S2 A3 e5 a25 a26 a29 hfin
                    refine m_szN 39 (L := 60) hB.cy ⟨rfl, rfl, rfl⟩ rfl (by omega) (by decide) dX10_bale_295 ?_
                    have enar : vp_nar .boolean (bDu fN A3) = bDu fN A3 := by
                      have z := bI_n (0 < A3 13 fN ∨ A3 12 fN < A3 11 fN)
                      unfold vp_nar bDu; rw [z]
                    rw [enar]
                    refine v_aload_n dX10_bale_296 rfl ?_
                    refine mg96 dX10_bale_297 ?_
                    refine v_iload dX10_bale_300 rfl ?_
                    refine v_aload_n dX10_bale_302 rfl ?_
                    refine mg108 dX10_bale_303 ?_
                    refine v_iload dX10_bale_306 rfl ?_
                    refine m_lzN 39 (L := 60) hB.cy ⟨rfl, rfl, rfl⟩ rfl (by omega) (by decide) dX10_bale_308 ?_
                    refine v_eq (putA_s A3 39 (N 6) (bDu fN A3)) ?_
                    refine v_if_eq (tgt := 316) dX10_bale_309 (by decide) (fun h309 => ?_) (fun h309 => ?_)
                    · refine v_aload_n dX10_bale_316 rfl ?_
                      refine mg38 dX10_bale_317 ?_
                      refine v_iload_n dX10_bale_320 rfl ?_
                      refine m_ldN 16 (L := 5) hB.cy ⟨rfl, rfl, rfl⟩ rfl (by omega) (by decide) dX10_bale_321 ?_
                      first | refine v_eq (show (0 : Int32) = (if bDu fN A3 = 0 then A3 16 gN else 0) by rw [if_neg h309]) ?_ | refine v_eq (show putA A3 39 (N 6) (bDu fN A3) 16 gN = (if bDu fN A3 = 0 then A3 16 gN else 0) by rw [if_pos h309, putA_n _ _ _ (by decide)]) ?_
                      refine m_stN 35 (L := 60) hB.cy ⟨rfl, rfl, rfl⟩ rfl (by omega) (by decide) dX10_bale_322 ?_
                      refine J323 S2 (bA5 (N 6) fN gN A3) e5 ?_ ?_ ?_ hfin
                      · rw [bA5_k _ _ _ _ (by decide) (by decide)]; exact a25
                      · rw [bA5_k _ _ _ _ (by decide) (by decide)]; exact a26
                      · rw [bA5_k _ _ _ _ (by decide) (by decide)]; exact a29
                    · refine v_iconst_v (v := 0) dX10_bale_312 (by decide) ?_
                      refine v_goto (tgt := 322) dX10_bale_313 (by decide) ?_
                      first | refine v_eq (show (0 : Int32) = (if bDu fN A3 = 0 then A3 16 gN else 0) by rw [if_neg h309]) ?_ | refine v_eq (show putA A3 39 (N 6) (bDu fN A3) 16 gN = (if bDu fN A3 = 0 then A3 16 gN else 0) by rw [if_pos h309, putA_n _ _ _ (by decide)]) ?_
                      refine m_stN 35 (L := 60) hB.cy ⟨rfl, rfl, rfl⟩ rfl (by omega) (by decide) dX10_bale_322 ?_
                      refine J323 S2 (bA5 (N 6) fN gN A3) e5 ?_ ?_ ?_ hfin
                      · rw [bA5_k _ _ _ _ (by decide) (by decide)]; exact a25
                      · rw [bA5_k _ _ _ _ (by decide) (by decide)]; exact a26
                      · rw [bA5_k _ _ _ _ (by decide) (by decide)]; exact a29
                have J197 : ∀ (S1 : Nat → Int32) (A1 : Nat → Nat → Int32), S1 = bS1 (chF ar (nI gN) (N 7) 0) sc → A1 = bA1 (chF ar (nI gN) (N 7) 0) (nI gN) sc ar → V X RX10 cX10_bale 8 (some .int) 0 0 ad (mW cy ad S1 A1) 197 [some (.ref (ad 30 0)), some (.int (nI fN)), some (.int (nI gN)), some (.int (nI (ctN (gqB ar (nI fN) (nI gN)) (N 5)))), some (.int (nI (chF ar (nI gN) (N 7) 0))), none, none, none] [] := by
                    intro S1 A1 e1 e2
                    have e6 : S1 6 = nI (N 6) := by rw [e1, bS1_k _ _ (by decide)]; exact hN 6 (by decide) (by decide)
                    have e5 : S1 5 = nI (N 5) := by rw [e1, bS1_k _ _ (by decide)]; exact hN 5 (by decide) (by decide)
                    have e8 : S1 8 = sc 8 := by rw [e1, bS1_k _ _ (by decide)]
                    refine v_aload_n dX10_bale_197 rfl ?_
                    refine mg102 dX10_bale_198 ?_
                    refine v_iload dX10_bale_201 rfl ?_
                    refine v_dup2 dX10_bale_203 rfl rfl ?_
                    refine m_ldN 37 (L := 20) hB.cy ⟨rfl, rfl, rfl⟩ rfl (by omega) (by decide) dX10_bale_204 ?_
                    refine v_iconst_v (v := 1) dX10_bale_205 (by decide) ?_
                    refine v_iadd dX10_bale_206 ?_
                    refine m_stN 37 (L := 20) hB.cy ⟨rfl, rfl, rfl⟩ rfl (by omega) (by decide) dX10_bale_207 ?_
                    refine v_aload_n dX10_bale_208 rfl ?_
                    refine mg211 dX10_bale_209 ?_
                    refine v_eq e6 ?_
                    refine v_istore5 dX10_bale_212 (by decide) ?_
                    refine v_aload_n dX10_bale_214 rfl ?_
                    refine v_dup dX10_bale_215 rfl ?_
                    refine mg211 dX10_bale_216 ?_
                    refine v_iconst_v (v := 1) dX10_bale_219 (by decide) ?_
                    refine v_iadd dX10_bale_220 ?_
                    refine v_eq (show S1 6 + 1 = sc 6 + 1 by rw [e6, hN 6 (by decide) (by decide)]) ?_
                    refine mp211 dX10_bale_221 ?_
                    refine v_aload_n dX10_bale_224 rfl ?_
                    refine mg84 dX10_bale_225 ?_
                    refine v_iload dX10_bale_228 rfl ?_
                    refine v_iload_n dX10_bale_230 rfl ?_
                    refine m_stN 31 (L := 60) hB.cy ⟨rfl, rfl, rfl⟩ rfl (by omega) (by decide) dX10_bale_231 ?_
                    refine v_aload_n dX10_bale_232 rfl ?_
                    refine mg87 dX10_bale_233 ?_
                    refine v_iload dX10_bale_236 rfl ?_
                    refine v_iload_n dX10_bale_238 rfl ?_
                    refine m_stN 32 (L := 60) hB.cy ⟨rfl, rfl, rfl⟩ rfl (by omega) (by decide) dX10_bale_239 ?_
                    refine v_aload_n dX10_bale_240 rfl ?_
                    refine mg90 dX10_bale_241 ?_
                    refine v_iload dX10_bale_244 rfl ?_
                    refine v_aload_n dX10_bale_246 rfl ?_
                    refine mg154 dX10_bale_247 ?_
                    refine v_eq (show upd S1 6 (sc 6 + 1) 8 = sc 8 from e8) ?_
                    refine m_stN 33 (L := 60) hB.cy ⟨rfl, rfl, rfl⟩ rfl (by omega) (by decide) dX10_bale_250 ?_
                    refine v_aload_n dX10_bale_251 rfl ?_
                    refine mg93 dX10_bale_252 ?_
                    refine v_iload dX10_bale_255 rfl ?_
                    refine v_iload dX10_bale_257 rfl ?_
                    refine m_stN 34 (L := 60) hB.cy ⟨rfl, rfl, rfl⟩ rfl (by omega) (by decide) dX10_bale_259 ?_
                    refine v_aload_n dX10_bale_260 rfl ?_
                    refine mg108 dX10_bale_261 ?_
                    refine v_iload dX10_bale_264 rfl ?_
                    refine v_aload_n dX10_bale_266 rfl ?_
                    refine mg29 dX10_bale_267 ?_
                    refine v_iload_n dX10_bale_270 rfl ?_
                    refine m_ldN 13 (L := 8) hB.cy ⟨rfl, rfl, rfl⟩ rfl (by omega) (by decide) dX10_bale_271 ?_
                    refine v_if_gt (tgt := 290) dX10_bale_272 (by decide) (fun h272 => ?_) (fun h272 => ?_)
                    · refine v_iconst_v (v := 1) dX10_bale_290 (by decide) ?_
                      refine v_goto (tgt := 295) dX10_bale_291 (by decide) ?_
                      have eA : ∀ j, j ≠ 36 → j ≠ 37 → j ≠ 38 → j ≠ 31 → j ≠ 32 → j ≠ 33 → j ≠ 34 → bA3 (chF ar (nI gN) (N 7) 0) (N 6) (nI fN) (nI gN) (sc 8) A1 j = ar j := by
                        intro j q1 q2 q3 q4 q5 q6 q7
                        rw [bA3_k _ _ _ _ _ _ q4 q5 q6 q7 q2, e2, bA1_k _ _ _ _ q1 q2 q3]
                      have e := J295 (upd S1 6 (sc 6 + 1)) (bA3 (chF ar (nI gN) (N 7) 0) (N 6) (nI fN) (nI gN) (sc 8) A1) e5 (eA 25 (by decide) (by decide) (by decide) (by decide) (by decide) (by decide) (by decide)) (eA 26 (by decide) (by decide) (by decide) (by decide) (by decide) (by decide) (by decide)) (eA 29 (by decide) (by decide) (by decide) (by decide) (by decide) (by decide) (by decide)) (by rw [e1, e2]; exact hspec)
                      first | exact v_eq (bI_t (Or.inl h272)).symm e | exact v_eq (bI_t (Or.inr (i_nle.mp h287))).symm e | exact v_eq (bI_f (fun z => z.elim h272 (i_nlt.mpr h287))).symm e
                    · refine v_aload_n dX10_bale_275 rfl ?_
                      refine mg26 dX10_bale_276 ?_
                      refine v_iload_n dX10_bale_279 rfl ?_
                      refine m_ldN 12 (L := 8) hB.cy ⟨rfl, rfl, rfl⟩ rfl (by omega) (by decide) dX10_bale_280 ?_
                      refine v_aload_n dX10_bale_281 rfl ?_
                      refine mg22 dX10_bale_282 ?_
                      refine v_iload_n dX10_bale_285 rfl ?_
                      refine m_ldN 11 (L := 8) hB.cy ⟨rfl, rfl, rfl⟩ rfl (by omega) (by decide) dX10_bale_286 ?_
                      refine v_icmp_ge (tgt := 294) dX10_bale_287 (by decide) (fun h287 => ?_) (fun h287 => ?_)
                      · refine v_iconst_v (v := 0) dX10_bale_294 (by decide) ?_
                        have eA : ∀ j, j ≠ 36 → j ≠ 37 → j ≠ 38 → j ≠ 31 → j ≠ 32 → j ≠ 33 → j ≠ 34 → bA3 (chF ar (nI gN) (N 7) 0) (N 6) (nI fN) (nI gN) (sc 8) A1 j = ar j := by
                          intro j q1 q2 q3 q4 q5 q6 q7
                          rw [bA3_k _ _ _ _ _ _ q4 q5 q6 q7 q2, e2, bA1_k _ _ _ _ q1 q2 q3]
                        have e := J295 (upd S1 6 (sc 6 + 1)) (bA3 (chF ar (nI gN) (N 7) 0) (N 6) (nI fN) (nI gN) (sc 8) A1) e5 (eA 25 (by decide) (by decide) (by decide) (by decide) (by decide) (by decide) (by decide)) (eA 26 (by decide) (by decide) (by decide) (by decide) (by decide) (by decide) (by decide)) (eA 29 (by decide) (by decide) (by decide) (by decide) (by decide) (by decide) (by decide)) (by rw [e1, e2]; exact hspec)
                        first | exact v_eq (bI_t (Or.inl h272)).symm e | exact v_eq (bI_t (Or.inr (i_nle.mp h287))).symm e | exact v_eq (bI_f (fun z => z.elim h272 (i_nlt.mpr h287))).symm e
                      · refine v_iconst_v (v := 1) dX10_bale_290 (by decide) ?_
                        refine v_goto (tgt := 295) dX10_bale_291 (by decide) ?_
                        have eA : ∀ j, j ≠ 36 → j ≠ 37 → j ≠ 38 → j ≠ 31 → j ≠ 32 → j ≠ 33 → j ≠ 34 → bA3 (chF ar (nI gN) (N 7) 0) (N 6) (nI fN) (nI gN) (sc 8) A1 j = ar j := by
                          intro j q1 q2 q3 q4 q5 q6 q7
                          rw [bA3_k _ _ _ _ _ _ q4 q5 q6 q7 q2, e2, bA1_k _ _ _ _ q1 q2 q3]
                        have e := J295 (upd S1 6 (sc 6 + 1)) (bA3 (chF ar (nI gN) (N 7) 0) (N 6) (nI fN) (nI gN) (sc 8) A1) e5 (eA 25 (by decide) (by decide) (by decide) (by decide) (by decide) (by decide) (by decide)) (eA 26 (by decide) (by decide) (by decide) (by decide) (by decide) (by decide) (by decide)) (eA 29 (by decide) (by decide) (by decide) (by decide) (by decide) (by decide) (by decide)) (by rw [e1, e2]; exact hspec)
                        first | exact v_eq (bI_t (Or.inl h272)).symm e | exact v_eq (bI_t (Or.inr (i_nle.mp h287))).symm e | exact v_eq (bI_f (fun z => z.elim h272 (i_nlt.mpr h287))).symm e
                refine v_iload dX10_bale_151 rfl ?_
                refine v_aload_n dX10_bale_153 rfl ?_
                refine mg208 dX10_bale_154 ?_
                refine v_icmp_ne (tgt := 197) dX10_bale_157 (by decide) (fun h157 => ?_) (fun h157 => ?_)
                · refine J197 _ _ ?_ ?_
                  · unfold bS1
                    first | (rw [if_pos h157]; done) | (rw [if_neg h157]; done)
                  · unfold bA1
                    first | (rw [if_pos h157]; done) | (rw [if_neg h157]; done)
                · refine v_aload_n dX10_bale_160 rfl ?_
                  refine mg99 dX10_bale_161 ?_
                  refine v_iload dX10_bale_164 rfl ?_
                  refine v_iload_n dX10_bale_166 rfl ?_
                  refine m_stN 36 (L := 20) hB.cy ⟨rfl, rfl, rfl⟩ rfl (by omega) (by decide) dX10_bale_167 ?_
                  refine v_aload_n dX10_bale_168 rfl ?_
                  refine mg102 dX10_bale_169 ?_
                  refine v_iload dX10_bale_172 rfl ?_
                  refine v_iconst_v (v := 0) dX10_bale_174 (by decide) ?_
                  refine m_stN 37 (L := 20) hB.cy ⟨rfl, rfl, rfl⟩ rfl (by omega) (by decide) dX10_bale_175 ?_
                  refine v_aload_n dX10_bale_176 rfl ?_
                  refine mg105 dX10_bale_177 ?_
                  refine v_iload dX10_bale_180 rfl ?_
                  refine v_aload_n dX10_bale_182 rfl ?_
                  refine mg211 dX10_bale_183 ?_
                  refine m_stN 38 (L := 20) hB.cy ⟨rfl, rfl, rfl⟩ rfl (by omega) (by decide) dX10_bale_186 ?_
                  refine v_aload_n dX10_bale_187 rfl ?_
                  refine v_dup dX10_bale_188 rfl ?_
                  refine mg208 dX10_bale_189 ?_
                  refine v_iconst_v (v := 1) dX10_bale_192 (by decide) ?_
                  refine v_iadd dX10_bale_193 ?_
                  refine mp208 dX10_bale_194 ?_
                  refine J197 _ _ ?_ ?_
                  · unfold bS1
                    first | (rw [if_pos h157]; done) | (rw [if_neg h157]; done)
                  · unfold bA1
                    first | (rw [if_pos h157]; done) | (rw [if_neg h157]; done)
              · have h142 : (chF ar (nI gN) (N 7) 0) = 20 := (nI_eq (b := 20) (by omega) (by decide)).mp h142
                refine v_aload_n dX10_bale_145 rfl ?_
                refine v_iconst_v (v := 3) dX10_bale_146 (by decide) ?_
                refine v_cVi1 hB k_X10_136 cM_refused (by decide) ⟨by decide, by decide⟩ rfl rfl (Nat.le_of_ble_eq_true rfl) dX10_bale_147 ?_
                exact v_iret hB (by decide) (by decide) dX10_bale_150 (mPost (by unfold s_bale; rw [hN 5 (by decide) (by decide), hN 7 (by decide) (by decide), cl_nI (n := N 5) (by omega), cl_nI (n := N 7) (by omega), if_pos ⟨h10, h19⟩, if_neg (show ¬ ctN (gqB ar (nI fN) (nI gN)) (N 5) < 5 by omega)]; first | rw [if_pos (Or.inl h135)] | rw [if_pos (Or.inr h142)]))
          have loop2 : ∀ (m : Nat) (c k : Nat), k < m → c + k = N 7 → chF ar (nI gN) k c = chF ar (nI gN) (N 7) 0 → V X RX10 cX10_bale 8 (some .int) 0 0 ad (mW cy ad sc ar) 91 [some (.ref (ad 30 0)), some (.int (nI fN)), some (.int (nI gN)), some (.int (nI (ctN (gqB ar (nI fN) (nI gN)) (N 5)))), some (.int (nI c)), none, none, none] [] := by
            intro m
            induction m with
            | zero => intro c k h1 h2 h3; omega
            | succ m ih =>
              intro c k h1 h2 h3
              refine v_iload dX10_bale_91 rfl ?_
              refine v_aload_n dX10_bale_93 rfl ?_
              refine mg208 dX10_bale_94 ?_
              refine v_icmp_ge (tgt := 129) dX10_bale_97 (by decide) (fun h97 => ?_) (fun h97 => ?_)
              · rw [hN 7 (by decide) (by decide), nI_leI (by omega) (by omega)] at h97
                have e : c = chF ar (nI gN) (N 7) 0 := by
                  rw [← h3]
                  first | (rw [if_neg (fun z => z.elim (fun y => y h108) h120)]; done) | (rw [show k = 0 by omega]; rfl)
                rw [e]; exact K129
              · rw [hN 7 (by decide) (by decide), nI_leI (by omega) (by omega)] at h97
                obtain ⟨k, rfl⟩ : ∃ k2, k = k2 + 1 := ⟨k - 1, by omega⟩
                rw [chF] at h3
                refine v_aload_n dX10_bale_100 rfl ?_
                refine mg99 dX10_bale_101 ?_
                refine v_iload dX10_bale_104 rfl ?_
                refine m_ldN 36 (L := 20) hB.cy ⟨rfl, rfl, rfl⟩ rfl (by omega) (by decide) dX10_bale_106 ?_
                refine v_iload_n dX10_bale_107 rfl ?_
                refine v_icmp_ne (tgt := 123) dX10_bale_108 (by decide) (fun h108 => ?_) (fun h108 => ?_)
                · refine v_iinc4 (v := 1) dX10_bale_123 (by decide) (by decide) ?_
                  rw [nI_1]
                  refine v_goto (tgt := 91) dX10_bale_126 (by decide) ?_
                  refine ih (c + 1) k (by omega) (by omega) ?_
                  rw [← h3]
                  first | rw [if_pos (Or.inl h108)] | rw [if_pos (Or.inr h120)]
                · refine v_aload_n dX10_bale_111 rfl ?_
                  refine mg102 dX10_bale_112 ?_
                  refine v_iload dX10_bale_115 rfl ?_
                  refine m_ldN 37 (L := 20) hB.cy ⟨rfl, rfl, rfl⟩ rfl (by omega) (by decide) dX10_bale_117 ?_
                  refine v_bipush_v (v := 6) dX10_bale_118 (by decide) ?_
                  refine v_icmp_ne (tgt := 129) dX10_bale_120 (by decide) (fun h120 => ?_) (fun h120 => ?_)
                  · have e : c = chF ar (nI gN) (N 7) 0 := by
                      rw [← h3]
                      first | (rw [if_neg (fun z => z.elim (fun y => y h108) h120)]; done) | (rw [show k = 0 by omega]; rfl)
                    rw [e]; exact K129
                  · refine v_iinc4 (v := 1) dX10_bale_123 (by decide) (by decide) ?_
                    rw [nI_1]
                    refine v_goto (tgt := 91) dX10_bale_126 (by decide) ?_
                    refine ih (c + 1) k (by omega) (by omega) ?_
                    rw [← h3]
                    first | rw [if_pos (Or.inl h108)] | rw [if_pos (Or.inr h120)]
          refine v_iconst_v (v := 0) dX10_bale_88 (by decide) ?_
          refine v_istore4 dX10_bale_89 (by decide) ?_
          exact loop2 (N 7 + 1) 0 (N 7) (by omega) (by omega) rfl
        · have h79 : ¬ 5 ≤ ctN (gqB ar (nI fN) (nI gN)) (N 5) := fun z => h79 ((nI_leI (a := 5) (by decide) (by omega)).mpr z)
          refine v_aload_n dX10_bale_82 rfl ?_
          refine v_iconst_v (v := 5) dX10_bale_83 (by decide) ?_
          refine v_cVi1 hB k_X10_136 cM_refused (by decide) ⟨by decide, by decide⟩ rfl rfl (Nat.le_of_ble_eq_true rfl) dX10_bale_84 ?_
          exact v_iret hB (by decide) (by decide) dX10_bale_87 (mPost (by unfold s_bale; rw [hN 5 (by decide) (by decide), cl_nI (n := N 5) (by omega), if_pos ⟨h10, h19⟩, if_pos (show ctN (gqB ar (nI fN) (nI gN)) (N 5) < 5 by omega)]))
      have loop1 : ∀ (m : Nat) (i : Nat), N 5 < i + m → i ≤ N 5 → V X RX10 cX10_bale 8 (some .int) 0 0 ad (mW cy ad sc ar) 33 [some (.ref (ad 30 0)), some (.int (nI fN)), some (.int (nI gN)), some (.int (nI (ctN (gqB ar (nI fN) (nI gN)) i))), some (.int (nI i)), none, none, none] [] := by
        intro m
        induction m with
        | zero => intro i h1 h2; omega
        | succ m ih =>
          intro i h1 h2
          refine v_iload dX10_bale_33 rfl ?_
          refine v_aload_n dX10_bale_35 rfl ?_
          refine mg196 dX10_bale_36 ?_
          refine v_icmp_ge (tgt := 77) dX10_bale_39 (by decide) (fun h39 => ?_) (fun h39 => ?_)
          · rw [hN 5 (by decide) (by decide), nI_leI (by omega) (by omega)] at h39
            rw [show i = N 5 by omega]; exact K77
          · rw [hN 5 (by decide) (by decide), nI_leI (by omega) (by omega)] at h39
            refine v_iload_n dX10_bale_42 rfl ?_
            refine v_aload_n dX10_bale_43 rfl ?_
            refine v_iload dX10_bale_44 rfl ?_
            refine v_iload_n dX10_bale_46 rfl ?_
            refine v_cVi2 hB k_X10_205 (cM_isLoose (by omega)) (by decide) ⟨by decide, by decide⟩ rfl rfl (Nat.le_of_ble_eq_true rfl) dX10_bale_47 ?_
            refine v_if_eq (tgt := 68) dX10_bale_50 (by decide) (fun h50 => ?_) (fun h50 => ?_)
            · rw [bI_eq] at h50
              refine v_iconst_v (v := 0) dX10_bale_68 (by decide) ?_
              refine v_iadd dX10_bale_69 ?_
              have hct := ctN_le (gqB ar (nI fN) (nI gN)) i
              first | refine v_eq (show nI (ctN (gqB ar (nI fN) (nI gN)) i) + 1 = nI (ctN (gqB ar (nI fN) (nI gN)) (i + 1)) from by rw [ctN, if_pos (gqB_t.mpr ⟨h50, h61⟩)]; exact nI_add _ 1) ?_ | refine v_eq (show nI (ctN (gqB ar (nI fN) (nI gN)) i) + 0 = nI (ctN (gqB ar (nI fN) (nI gN)) (i + 1)) from by rw [ctN, if_neg (fun z => h61 (gqB_t.mp z).2)]; exact Int32.add_zero _) ?_ | refine v_eq (show nI (ctN (gqB ar (nI fN) (nI gN)) i) + 0 = nI (ctN (gqB ar (nI fN) (nI gN)) (i + 1)) from by rw [ctN, if_neg (fun z => h50 (gqB_t.mp z).1)]; exact Int32.add_zero _) ?_
              refine v_istore_n3 dX10_bale_70 (by decide) ?_
              refine v_iinc4 (v := 1) dX10_bale_71 (by decide) (by decide) ?_
              rw [nI_1]
              refine v_goto (tgt := 33) dX10_bale_74 (by decide) ?_
              exact ih (i + 1) (by omega) (by omega)
            · rw [bI_ne] at h50
              refine v_aload_n dX10_bale_53 rfl ?_
              refine mg69 dX10_bale_54 ?_
              refine v_iload dX10_bale_57 rfl ?_
              refine m_ldN 26 (L := 120) hB.cy ⟨rfl, rfl, rfl⟩ rfl (by omega) (by decide) dX10_bale_59 ?_
              refine v_iload_n dX10_bale_60 rfl ?_
              refine v_icmp_ne (tgt := 68) dX10_bale_61 (by decide) (fun h61 => ?_) (fun h61 => ?_)
              · refine v_iconst_v (v := 0) dX10_bale_68 (by decide) ?_
                refine v_iadd dX10_bale_69 ?_
                have hct := ctN_le (gqB ar (nI fN) (nI gN)) i
                first | refine v_eq (show nI (ctN (gqB ar (nI fN) (nI gN)) i) + 1 = nI (ctN (gqB ar (nI fN) (nI gN)) (i + 1)) from by rw [ctN, if_pos (gqB_t.mpr ⟨h50, h61⟩)]; exact nI_add _ 1) ?_ | refine v_eq (show nI (ctN (gqB ar (nI fN) (nI gN)) i) + 0 = nI (ctN (gqB ar (nI fN) (nI gN)) (i + 1)) from by rw [ctN, if_neg (fun z => h61 (gqB_t.mp z).2)]; exact Int32.add_zero _) ?_ | refine v_eq (show nI (ctN (gqB ar (nI fN) (nI gN)) i) + 0 = nI (ctN (gqB ar (nI fN) (nI gN)) (i + 1)) from by rw [ctN, if_neg (fun z => h50 (gqB_t.mp z).1)]; exact Int32.add_zero _) ?_
                refine v_istore_n3 dX10_bale_70 (by decide) ?_
                refine v_iinc4 (v := 1) dX10_bale_71 (by decide) (by decide) ?_
                rw [nI_1]
                refine v_goto (tgt := 33) dX10_bale_74 (by decide) ?_
                exact ih (i + 1) (by omega) (by omega)
              · refine v_iconst_v (v := 1) dX10_bale_64 (by decide) ?_
                refine v_goto (tgt := 69) dX10_bale_65 (by decide) ?_
                refine v_iadd dX10_bale_69 ?_
                have hct := ctN_le (gqB ar (nI fN) (nI gN)) i
                first | refine v_eq (show nI (ctN (gqB ar (nI fN) (nI gN)) i) + 1 = nI (ctN (gqB ar (nI fN) (nI gN)) (i + 1)) from by rw [ctN, if_pos (gqB_t.mpr ⟨h50, h61⟩)]; exact nI_add _ 1) ?_ | refine v_eq (show nI (ctN (gqB ar (nI fN) (nI gN)) i) + 0 = nI (ctN (gqB ar (nI fN) (nI gN)) (i + 1)) from by rw [ctN, if_neg (fun z => h61 (gqB_t.mp z).2)]; exact Int32.add_zero _) ?_ | refine v_eq (show nI (ctN (gqB ar (nI fN) (nI gN)) i) + 0 = nI (ctN (gqB ar (nI fN) (nI gN)) (i + 1)) from by rw [ctN, if_neg (fun z => h50 (gqB_t.mp z).1)]; exact Int32.add_zero _) ?_
                refine v_istore_n3 dX10_bale_70 (by decide) ?_
                refine v_iinc4 (v := 1) dX10_bale_71 (by decide) (by decide) ?_
                rw [nI_1]
                refine v_goto (tgt := 33) dX10_bale_74 (by decide) ?_
                exact ih (i + 1) (by omega) (by omega)
      refine v_iconst_v (v := 0) dX10_bale_28 (by decide) ?_
      refine v_istore_n3 dX10_bale_29 (by decide) ?_
      refine v_iconst_v (v := 0) dX10_bale_30 (by decide) ?_
      refine v_istore4 dX10_bale_31 (by decide) ?_
      exact loop1 (N 5 + 1) 0 (by omega) (by omega)
    · rw [bI_eq] at h19
      refine v_aload_n dX10_bale_22 rfl ?_
      refine v_iconst_v (v := 1) dX10_bale_23 (by decide) ?_
      refine v_cVi1 hB k_X10_136 cM_refused (by decide) ⟨by decide, by decide⟩ rfl rfl (Nat.le_of_ble_eq_true rfl) dX10_bale_24 ?_
      exact v_iret hB (by decide) (by decide) dX10_bale_27 (mPost (by unfold s_bale; first | rw [if_neg (fun z => h10 z.1)] | rw [if_neg (fun z => h19 z.2)]))

