theorem xW_ad {cy : Nat → ClassId} {ad ad2 : zA} {sc : Nat → Int32} {ar tau : Nat → Nat → Int32} {js mo : Nat → Int32} {cp cn al : Nat → Nat} {q3 pa : Nat → Nat → Int32} {pn : Nat → Nat} (h : ∀ k i, k < 15 → ad2 k i = ad k i) : xW cy ad2 sc ar tau js mo cp cn al q3 pa pn = xW cy ad sc ar tau js mo cp cn al q3 pa pn := by
  have hx : ∀ k n, k < 15 → xEl ad2 k n = xEl ad k n := fun k n hk => by
    funext j
    unfold xEl
    rw [h k j hk]
  funext a b
  unfold xW
  rw [h 6 0 (by decide), h 6 1 (by decide), h 6 2 (by decide), h 6 3 (by decide), h 6 4 (by decide), h 6 5 (by decide), h 1 0 (by decide), h 2 0 (by decide), h 3 0 (by decide), h 4 0 (by decide), h 4 1 (by decide), h 4 2 (by decide), h 4 3 (by decide), h 4 4 (by decide), h 4 5 (by decide), h 4 6 (by decide), h 4 7 (by decide), h 4 8 (by decide), h 4 9 (by decide), h 4 10 (by decide), h 5 0 (by decide), h 7 b (by decide), h 14 b (by decide)]
  by_cases hb : b < 6
  · rw [hx (8 + b) (cn b) (by omega)]
  · have e : ¬ (b < 6 ∧ 0 < cp b) := fun z => hb z.1
    rw [if_neg e, if_neg e]
theorem mW_ad {cy : Nat → ClassId} {ad ad2 : zA} {sc : Nat → Int32} {ar : Nat → Nat → Int32} (h : ∀ k i, k = 30 ∨ k = 31 → ad2 k i = ad k i) : mW cy ad2 sc ar = mW cy ad sc ar := by
  have e : mfs ad2 sc = mfs ad sc := by
    unfold mfs
    simp only [h 31 _ (Or.inr rfl)]
  funext a b
  unfold mW
  rw [e]
/-- between two calls of the law -/
def LI (s0 : State) (cy : Nat → ClassId) (o0 o30 o40 : Nat) (ad : zA) (w : zW) : Prop := ad 0 0 = o0 ∧ ad 30 0 = o30 ∧ ad 40 0 = o40 ∧ ∃ (sc : Nat → Int32) (ar tau : Nat → Nat → Int32) (js mo : Nat → Int32) (cp cn al : Nat → Nat) (q3 pa : Nat → Nat → Int32) (pn : Nat → Nat) (N : Nat → Nat) (f : Nat → Int64), MI N sc ar ∧ XI N ar cp cn al q3 pa pn ∧ XZ s0 cp ad ∧ w = mix isC (xW cy ad sc ar tau js mo cp cn al q3 pa pn) (mix isM (mW cy ad sc ar) (oW cy f))
/-- behind the class's call, ahead of the reference's -/
def LM (s0 : State) (cy : Nat → ClassId) (o0 o30 o40 : Nat) (sc : Nat → Int32) (ar : Nat → Nat → Int32) (S : zRs) (ad : zA) (w : zW) : Prop := ad 0 0 = o0 ∧ ad 30 0 = o30 ∧ ad 40 0 = o40 ∧ ∃ (tau : Nat → Nat → Int32) (js mo : Nat → Int32) (cp cn al : Nat → Nat) (q3 pa : Nat → Nat → Int32) (pn : Nat → Nat) (f : Nat → Int64), XI (fun j => cl (S.2.1 j)) S.2.2 cp cn al q3 pa pn ∧ XZ s0 cp ad ∧ w = mix isM (mW cy ad sc ar) (mix isC (xW cy ad S.2.1 S.2.2 tau js mo cp cn al q3 pa pn) (oW cy f))
theorem XI_N {N N2 : Nat → Nat} {ar ar2 : Nat → Nat → Int32} {cp cn al : Nat → Nat} {q3 pa : Nat → Nat → Int32} {pn : Nat → Nat} {sc : Nat → Int32} {ar9 : Nat → Nat → Int32} (h : XI N ar cp cn al q3 pa pn) (hI : MI N sc ar9) (hN : ∀ j, 2 ≤ j → j ≤ 7 → N2 j = cl (sc j)) (h22 : ar2 22 = ar 22) (h26 : ar2 26 = ar 26) (h28 : ar2 28 = ar 28) (h30 : ar2 30 = ar 30) : XI N2 ar2 cp cn al q3 pa pn := h.same (fun j h1 h2 => (hN j h1 h2).trans (hI.cl h1 (by omega))) h22 h26 h28 h30
/-- the class's posts in one form -/
theorem clP_of {s0 : State} {cy : Nat → ClassId} {ad : zA} {sc : Nat → Int32} {ar tau : Nat → Nat → Int32} {js mo : Nat → Int32} {cp cn al : Nat → Nat} {q3 pa : Nat → Nat → Int32} {pn : Nat → Nat} {N : Nat → Nat} {S : zRs} (hI : MI N sc ar) (hJ : XI N ar cp cn al q3 pa pn) (hZ : XZ s0 cp ad) (hsc : ∀ j, 2 ≤ j → j ≤ 7 → S.2.1 j = sc j) (h22 : S.2.2 22 = ar 22) (h26 : S.2.2 26 = ar 26) (h28 : S.2.2 28 = ar 28) (h30 : S.2.2 30 = ar 30) : ∀ r ad2 w2, (∃ tau2 js2, zPi S.1 ad (xW cy ad S.2.1 S.2.2 tau2 js2 mo cp cn al q3 pa pn) r ad2 w2) → clP cy ad s0 S r ad2 w2 := by
  rintro r ad2 w2 ⟨tau2, js2, rfl, rfl, rfl⟩
  exact ⟨rfl, rfl, tau2, js2, mo, cp, cn, al, q3, pa, pn, rfl, XI_N hJ hI (fun j h1 h2 => by show cl (S.2.1 j) = cl (sc j); rw [hsc j h1 h2]) h22 h26 h28 h30, hZ⟩
section
variable {X : zX} {own : String} {cc : ByteArray} {nL : Nat} {ret : Option FieldType} {n1 n2 : Nat} {ad : zA} {w : zW} {pc : Nat} {ls : List (Option Value)} {st rest : List Value} {l : Launch} {D : va_G} {cy : Nat → ClassId} {s0 : State}
variable {y : MethodName} {bytes : ByteArray} {maxL : Nat} {ret' : Option FieldType} {d' mc' ms' n idx : Nat} {o0 o30 o40 : Nat} {sc : Nat → Int32} {ar tau : Nat → Nat → Int32} {js mo : Nat → Int32} {cp cn al : Nat → Nat} {q3 pa : Nat → Nat → Int32} {pn : Nat → Nat} {f : Nat → Int64} {S : zRs} {b L i : Nat} {xs : Nat → Int32}
/-- an argument: script[i + k] -/
theorem v_arg {k : Nat} {kz : Int} (hB : zBg X l D cy s0 room_1) (hX : va_X b L xs s0 s0.heap) (hL : L ≤ 3072) (hi : i + 6 ≤ L) (hk : k < 6) (hkz : Int32.ofInt kz = nI k) (h0 : ls[0]? = some (some (.ref b))) (h4 : ls[4]? = some (some (.int (nI i)))) (d0 : decode cc pc = .ok (.aload_n 0, 1)) (d1 : decode cc (pc + 1) = .ok (.iload 4, 2)) (d3 : decode cc (pc + 3) = .ok (.iconst kz, 1)) (d4 : decode cc (pc + 4) = .ok (.iadd, 1)) (d5 : decode cc (pc + 5) = .ok (.iaload, 1)) (kont : V X own cc nL ret n1 n2 ad w (pc + 6) ls (.int (xs (i + k)) :: st)) : V X own cc nL ret n1 n2 ad w pc ls st := by
  refine v_aload_n d0 h0 ?_
  refine v_iload d1 h4 ?_
  refine v_iconst_v d3 hkz ?_
  refine v_iadd d4 ?_
  exact v_sald hB hX (nI_add i k) (by omega) (by omega) d5 kont
/-- the class's call -/
theorem lc_C (As : List Value) (hB : zBg X l D cy s0 room_1) (hk : kV own idx RX9 y bytes maxL ret' n) (hM : zM l D cy s0 y bytes maxL ret' d' mc' ms' (.ref (ad 0 0) :: As) ad (xW cy ad (upd sc 0 0) ar tau js mo cp cn al q3 pa pn) (clP cy ad s0 S)) (hn : As.length = n) (h0 : ad 0 0 = o0) (h30 : ad 30 0 = o30) (h40 : ad 40 0 = o40) (hst0 : st = As.reverse ++ .ref o0 :: rest) (hd : d' ≤ 50) (hml : maxL ≤ 10) (hmc : mc' ≤ 4 ∧ ms' ≤ 640) (hf : n1 + 4 ≤ 601024 ∧ n2 + 640 ≤ 7293034) (hst : (rest.map fun v => v.category).sum ≤ 8) (dd : decode cc pc = .ok (.invokevirtual idx, 3))
    (kont : ∀ ad2 w2, LM s0 cy o0 o30 o40 sc ar S ad2 w2 → V X own cc nL ret (n1 + 4) (n2 + 640) ad2 w2 (pc + 3) ls (.int S.1 :: rest)) : V X own cc nL ret n1 n2 ad (mix isC (xW cy ad sc ar tau js mo cp cn al q3 pa pn) (mix isM (mW cy ad sc ar) (oW cy f))) pc ls st := by
  subst hst0
  subst h0
  have ew : xW cy ad sc ar tau js mo cp cn al q3 pa pn = xW cy ad (upd sc 0 0) ar tau js mo cp cn al q3 pa pn := xW_seen ⟨(upd_n (by decide)).symm, (upd_n (by decide)).symm, (upd_n (by decide)).symm, (upd_n (by decide)).symm⟩ (fun _ _ _ => rfl)
  rw [ew]
  refine vg_callV hB hk (zM.frame isC _ (fun k i h => xA_big (isC_n h)) hM (fun r ad2 w2 h => ?_)) hn ⟨by show d' + 1 ≤ 2048; omega, by show 8 + (maxL + 11) + 40 * d' ≤ 84000; omega⟩ ⟨by show n1 + mc' ≤ 601024; omega, by show n2 + ms' ≤ 7293034; omega⟩ ((mix_C _ _ 0 rfl).trans xW_X9) rfl hst dd ?_
  · obtain ⟨-, -, tau2, js2, mo2, cp2, cn2, al2, q32, pa2, pn2, rfl, -⟩ := h
    exact fun k i h => xA_big (isC_n h)
  · rintro r ad2 w2 ⟨adC, wC2, ⟨rfl, e0, tau2, js2, mo2, cp2, cn2, al2, q32, pa2, pn2, rfl, hXI, hXZ⟩, rfl, rfl⟩
    have aC : ∀ k i, k < 15 → mixA isC adC ad k i = adC k i := fun k i hk => if_pos (decide_eq_true hk)
    have aN : ∀ k i, 14 < k → mixA isC adC ad k i = ad k i := fun k i hk => if_neg (fun z => by
      have := of_decide_eq_true z
      omega)
    refine v_widen (k1 := n1 + 4) (k2 := n2 + 640) (by omega) (by omega) ?_
    refine kont _ _ ⟨(aC 0 0 (by decide)).trans e0, (aN 30 0 (by decide)).trans h30, (aN 40 0 (by decide)).trans h40, tau2, js2, mo2, cp2, cn2, al2, q32, pa2, pn2, f, hXI, fun k hk hz => ?_, ?_⟩
    · rw [aC 7 k (by decide)]
      exact hXZ k hk hz
    · rw [mix_swap, xW_ad aC, mW_ad (ad2 := mixA isC adC ad) (ad := ad) (fun k i hk => aN k i (by omega))]
/-- the reference's call -/
theorem lc_M (As : List Value) (hB : zBg X l D cy s0 room_1) (hk : kV own idx RX10 y bytes maxL ret' n) (hM : zM l D cy s0 y bytes maxL ret' d' 0 0 (.ref (ad 30 0) :: As) ad (mW cy ad sc ar) (sP cy ad S)) (hLM : LM s0 cy o0 o30 o40 sc ar S ad w) (hOK : mOK S) (hn : As.length = n) (hst0 : st = As.reverse ++ .ref o30 :: rest) (hd : d' ≤ 50) (hml : maxL ≤ 10) (hf : n1 ≤ 601024 ∧ n2 ≤ 7293034) (hst : (rest.map fun v => v.category).sum ≤ 8) (dd : decode cc pc = .ok (.invokevirtual idx, 3))
    (kont : ∀ w2, LI s0 cy o0 o30 o40 ad w2 → V X own cc nL ret n1 n2 ad w2 (pc + 3) ls (.int S.1 :: rest)) : V X own cc nL ret n1 n2 ad w pc ls st := by
  obtain ⟨h0, h30, h40, tau2, js2, mo2, cp2, cn2, al2, q32, pa2, pn2, f2, hXI, hXZ, rfl⟩ := hLM
  subst hst0
  subst h30
  refine vg_callV hB hk (zM.frame isM _ (fun k i h => ?_) hM (fun r ad2 w2 h => ?_)) hn ⟨by show d' + 1 ≤ 2048; omega, by show 8 + (maxL + 11) + 40 * d' ≤ 84000; omega⟩ ⟨by show n1 + 0 ≤ 601024; omega, by show n2 + 0 ≤ 7293034; omega⟩ (ci := 11) ((mix_M _ _ 0 rfl).trans rfl) rfl hst dd ?_
  · unfold mW
    rw [if_neg (isM_n h).1, if_neg (isM_n h).2]
  · obtain ⟨-, -, sc', ar', rfl, -⟩ := h
    intro k i h
    unfold mW
    rw [if_neg (isM_n h).1, if_neg (isM_n h).2]
  · rintro r ad2 w2 ⟨adC, wC2, ⟨rfl, rfl, sc', ar', rfl, hSR⟩, rfl, rfl⟩
    rw [mixA_self]
    obtain ⟨N2, hN2⟩ := hOK
    have e1 : xW cy adC S.2.1 S.2.2 tau2 js2 mo2 cp2 cn2 al2 q32 pa2 pn2 = xW cy adC sc' ar' tau2 js2 mo2 cp2 cn2 al2 q32 pa2 pn2 := (xW_seen ⟨hSR.1 8 (by decide) (by decide) (by decide), hSR.1 9 (by decide) (by decide) (by decide), hSR.1 10 (by decide) (by decide) (by decide), hSR.1 1 (by decide) (by decide) (by decide)⟩ (fun j i hs => by unfold seen at hs; rw [hSR.2 j (by omega) (by omega) (by omega) (by omega)])).symm
    refine kont _ ⟨h0, rfl, h40, sc', ar', tau2, js2, mo2, cp2, cn2, al2, q32, pa2, pn2, N2, f2, hN2.keep hSR, hXI.same (fun j h1 h2 => (hN2.cl h1 (by omega)).symm) (hSR.2 22 (by decide) (by decide) (by decide) (by decide)) (hSR.2 26 (by decide) (by decide) (by decide) (by decide)) (hSR.2 28 (by decide) (by decide) (by decide) (by decide)) (hSR.2 30 (by decide) (by decide) (by decide) (by decide)), hXZ, ?_⟩
    rw [mix_swap, e1]
end
