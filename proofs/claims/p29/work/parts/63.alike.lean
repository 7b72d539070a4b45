/-! PURE: what areAlike compares -/
theorem thr_q {t : Nat} (h : t < 4) : ∃ q, q < 4 ∧ nI t = thr (nI q) := by
  rcases q4 h with rfl | rfl | rfl | rfl
  · exact ⟨3, by omega, by decide⟩
  · exact ⟨0, by omega, by decide⟩
  · exact ⟨1, by omega, by decide⟩
  · exact ⟨2, by omega, by decide⟩
theorem tC_sum {cf : F} : sumN (tCf cf) 4 = sumN cf 4 := by
  show 0 + cf 3 + cf 0 + cf 1 + cf 2 = 0 + cf 0 + cf 1 + cf 2 + cf 3
  rw [Int32.zero_add, Int32.zero_add]
  ac_rfl
section AL
variable {σ : Sky}
theorem wall_t (hg : gdS σ) : sumN (wAllF (turn σ)) 4 = sumN (wAllF σ) 4 := by
  have e1 : sumN (wAllF (turn σ)) 4 = sumN (tCf (wAllF σ)) 4 := sumN_eq 4 (fun t ht => by
    show weig (tSt (sSt σ)) (sHt σ) (nI t) = _
    rcases q4 ht with rfl | rfl | rfl | rfl
    · rw [show nI 0 = thr (nI 3) from by decide, weig_t hg.1 ⟨3, by omega, rfl⟩]
      rfl
    · rw [show nI 1 = thr (nI 0) from by decide, weig_t hg.1 ⟨0, by omega, rfl⟩]
      rfl
    · rw [show nI 2 = thr (nI 1) from by decide, weig_t hg.1 ⟨1, by omega, rfl⟩]
      rfl
    · rw [show nI 3 = thr (nI 2) from by decide, weig_t hg.1 ⟨2, by omega, rfl⟩]
      rfl)
  rw [e1, tC_sum]
theorem ab_t (hg : gdS σ) (w : Int32) : aboutAR (turn σ) w = aboutAR σ w := by
  have e0 : allK (sSt (turn σ)) = allK (sSt σ) := allK_t hg.1
  have e4 : sumN (sCf (turn σ)) 4 = sumN (sCf σ) 4 := tC_sum
  have e5 : frsh (sSt (turn σ)) (sFr (turn σ)) = frsh (sSt σ) (sFr σ) := frsh_t hg.1
  have e6 : mxF (sSt (turn σ)) (sHt (turn σ)) 12 = mxF (sSt σ) (sHt σ) 12 := mxF_t hg.1 12
  unfold aboutAR
  rw [e0, e4, e5, e6, wall_t hg]
  rfl
theorem ct_t {κ τ : KSt} (hg : gdS (kjS κ)) (ht : kjS τ = turn (kjS κ)) {i : Nat} (hi : i < 11) : kCnt κ (nI i) = kCnt τ (nI i) := by
  have h1 : ¬ nI i = 11 := fun z => by
    have := (nI_eq (a := i) (b := 11) (by omega) (by omega)).mp z
    omega
  have h2 : ¬ nI i = 12 := fun z => by
    have := (nI_eq (a := i) (b := 12) (by omega) (by omega)).mp z
    omega
  unfold kCnt
  rw [if_neg h1, if_neg h2, if_neg h1, if_neg h2, ht, ab_t hg]
theorem lt_t (hg : gdS σ) {k : Nat} : sSt (turn σ) k = -1 ↔ sSt σ k = -1 := t_m1 hg.1 k
theorem ka_n (hg : gdS σ) {k : Nat} (hk : k < 12) (hl : sSt σ k = -1) (w : Int32) : aboutKR σ (nI k) w = aboutKR (turn σ) (nI k) w := by
  rw [kt_n hk hl, kt_n hk ((lt_t hg).mpr hl)]
theorem ka_0 (hg : gdS σ) {k : Nat} (hk : k < 12) (hl : ¬ sSt σ k = -1) : aboutKR σ (nI k) 0 = -(aboutKR (turn σ) (nI k) 0) := by
  rw [kt_y hk hl, kt_y hk (fun z => hl ((lt_t hg).mp z)), kg0, kg0]
  exact (neg_neg9 _).symm
theorem ka_1 (hg : gdS σ) {k : Nat} (hk : k < 12) (hl : ¬ sSt σ k = -1) : thr (aboutKR σ (nI k) 1) = aboutKR (turn σ) (nI k) 1 := by
  rw [kt_y hk hl, kt_y hk (fun z => hl ((lt_t hg).mp z)), kg1, kg1]
  rfl
theorem ka_w (hg : gdS σ) {k : Nat} (hk : k < 12) (hl : ¬ sSt σ k = -1) {w : Int32} (h0 : ¬ w = 0) (h1 : ¬ w = 1) : aboutKR σ (nI k) w = aboutKR (turn σ) (nI k) w := by
  have hv := okSt_v hg.1 hl
  have e6 : kitesB (sSt (turn σ)) (sHt (turn σ)) (sSt (turn σ) k) (sHt (turn σ) k) 1000000 = kitesB (sSt σ) (sHt σ) (sSt σ k) (sHt σ k) 1000000 := kb_t hg.1 hv _ _
  have e7 : low (sSt (turn σ)) (sHt (turn σ)) (sSt (turn σ) k) (sHt (turn σ) k) = low (sSt σ) (sHt σ) (sSt σ k) (sHt σ k) := low_t hg.1 hv _
  have e8 : hig (sSt (turn σ)) (sHt (turn σ)) (sSt (turn σ) k) (sHt (turn σ) k) = hig (sSt σ) (sHt σ) (sSt σ k) (sHt σ k) := hig_t hg.1 hv _
  rw [kt_y hk hl, kt_y hk (fun z => hl ((lt_t hg).mp z))]
  unfold aboutKG
  rw [if_neg h0, if_neg h1, if_neg h0, if_neg h1, e6, e7, e8]
  rfl
theorem rg_t (hg : gdS σ) {k : Nat} (hl : ¬ sSt σ k = -1) (w : Int32) : aboutRG (turn σ) k w = if w = 0 then thr (aboutRG σ k 0) else aboutRG σ k w := by
  have hv := okSt_v hg.1 hl
  have hb := (behi_v hv).1
  have e1 : risenH (turn σ) k (windN (turn σ)) = risenH σ k (windN σ) := tu_risen hg.1 hv _
  have e2 : behi (sSt (turn σ) k) = thr (behi (sSt σ k)) := thr_behi hv
  have e3 : land (sSt (turn σ)) (sHt (turn σ)) (thr (behi (sSt σ k))) 0 = land (sSt σ) (sHt σ) (behi (sSt σ k)) 0 := land_t hg.1 hb 0
  have e4 : ∀ r, kitesB (sSt (turn σ)) (sHt (turn σ)) (sSt (turn σ) k) (sHt (turn σ) k) r = kitesB (sSt σ) (sHt σ) (sSt σ k) (sHt σ k) r := fun r => kb_t hg.1 hv _ r
  unfold aboutRG
  rw [e1, e2, e3, e4, show sCh (turn σ) = sCh σ from rfl]
  by_cases hc : sCh σ < risenH σ k (windN σ)
  · rw [if_pos hc, if_pos hc, if_pos hc]
    by_cases h0 : w = 0
    · rw [if_pos h0, if_pos h0, if_pos rfl]
    · rw [if_neg h0, if_neg h0, if_neg h0]
  · rw [if_neg hc, if_neg hc, if_neg hc]
    by_cases h0 : w = 0
    · rw [if_pos h0, if_pos h0, if_pos rfl]
      rfl
    · rw [if_neg h0, if_neg h0, if_neg h0]
theorem ra_n (hg : gdS σ) {k : Nat} (hk : k < 12) (hl : sSt σ k = -1) (w : Int32) : aboutRR σ (nI k) w = aboutRR (turn σ) (nI k) w := by
  rw [rr_n hk hl, rr_n hk ((lt_t hg).mpr hl)]
theorem rr_y {k : Nat} (hk : k < 12) (hl : ¬ sSt σ k = -1) (w : Int32) : aboutRR σ (nI k) w = aboutRG σ k w := by
  unfold aboutRR
  rw [if_pos ((isK_n hk).mpr hl), nI_clamp (by omega)]
theorem ra_0 (hg : gdS σ) {k : Nat} (hk : k < 12) (hl : ¬ sSt σ k = -1) : thr (aboutRR σ (nI k) 0) = aboutRR (turn σ) (nI k) 0 := by
  rw [rr_y hk hl, rr_y hk (fun z => hl ((lt_t hg).mp z)), rg_t hg hl, if_pos rfl]
theorem ra_w (hg : gdS σ) {k : Nat} (hk : k < 12) (hl : ¬ sSt σ k = -1) {w : Int32} (h0 : ¬ w = 0) : aboutRR σ (nI k) w = aboutRR (turn σ) (nI k) w := by
  rw [rr_y hk hl, rr_y hk (fun z => hl ((lt_t hg).mp z)), rg_t hg hl, if_neg h0]
theorem sh_t (hg : gdS σ) {k : Nat} (hk : k < 12) : shaR (sSt σ) (sHt σ) (nI k) = shaR (sSt (turn σ)) (sHt (turn σ)) (nI k) := by
  unfold shaR
  by_cases hl : sSt σ k = -1
  · rw [if_neg (fun z => (isK_n hk).mp z hl), if_neg (fun z => (isK_n hk).mp z ((lt_t hg).mpr hl))]
  · have e9 : weig (sSt (turn σ)) (sHt (turn σ)) (sSt (turn σ) k) = weig (sSt σ) (sHt σ) (sSt σ k) := weig_t hg.1 (okSt_v hg.1 hl)
    rw [if_pos ((isK_n hk).mpr hl), if_pos ((isK_n hk).mpr (fun z => hl ((lt_t hg).mp z))), nI_clamp (by omega), e9]
    rfl
theorem rc_t (hg : gdS σ) {k : Nat} (hk : k < 12) : rcR (sSt σ) (sHt σ) (windN σ) (sCh σ) (nI k) = rcR (sSt (turn σ)) (sHt (turn σ)) (windN (turn σ)) (sCh (turn σ)) (nI k) := by
  unfold rcR
  by_cases hl : sSt σ k = -1
  · rw [if_neg (fun z => (isK_n hk).mp z hl), if_neg (fun z => (isK_n hk).mp z ((lt_t hg).mpr hl))]
  · rw [if_pos ((isK_n hk).mpr hl), if_pos ((isK_n hk).mpr (fun z => hl ((lt_t hg).mp z))), nI_clamp (by omega)]
    exact (rcF_t hg.1 (okSt_v hg.1 hl) 99 1 _).symm
theorem su_t (hg : gdS σ) {k : Nat} (hk : k < 12) (g : Int32) : suR σ (nI k) g = suR (turn σ) (nI k) g := by
  unfold suR
  by_cases hl : sSt σ k = -1
  · rw [if_neg (fun z => (isK_n hk).mp z hl), if_neg (fun z => (isK_n hk).mp z ((lt_t hg).mpr hl))]
  · rw [if_pos ((isK_n hk).mpr hl), if_pos ((isK_n hk).mpr (fun z => hl ((lt_t hg).mp z))), nI_clamp (by omega), suF_t 201 0 σ hg.1 (okSt_v hg.1 hl)]
theorem isS_t {t : Nat} (h : t < 4) : isS (thr (nI t)) := isS_of (thr_vs ⟨t, h, rfl⟩)
theorem sa_4 (hg : gdS σ) {t : Nat} (h : t < 4) : aboutSR σ (nI t) 4 = -(aboutSR (turn σ) (thr (nI t)) 4) := by
  have e9 : nums (sSt (turn σ)) (sNu (turn σ)) (thr (nI t)) = -(nums (sSt σ) (sNu σ) (nI t)) := nums_t hg.1 ⟨t, h, rfl⟩
  unfold aboutSR aboutSG
  rw [if_pos (isS_n h), if_pos (isS_t h), if_neg (by decide), if_neg (by decide), if_neg (by decide), if_neg (by decide), if_pos rfl, if_neg (by decide), if_neg (by decide), if_neg (by decide), if_neg (by decide), if_pos rfl, e9, neg_neg9]
theorem sa_w (hg : gdS σ) {t : Nat} (h : t < 4) {w : Int32} (h4 : ¬ w = 4) : aboutSR σ (nI t) w = aboutSR (turn σ) (thr (nI t)) w := by
  have hs : vs4 (nI t) := ⟨t, h, rfl⟩
  have e0 : kitesB (sSt (turn σ)) (sHt (turn σ)) (thr (nI t)) (-1) 1000000 = kitesB (sSt σ) (sHt σ) (nI t) (-1) 1000000 := kb_t hg.1 hs _ _
  have e1 : weig (sSt (turn σ)) (sHt (turn σ)) (thr (nI t)) = weig (sSt σ) (sHt σ) (nI t) := weig_t hg.1 hs
  have e2 : hig (sSt (turn σ)) (sHt (turn σ)) (thr (nI t)) 1000000 = hig (sSt σ) (sHt σ) (nI t) 1000000 := hig_t hg.1 hs _
  have e3 : low (sSt (turn σ)) (sHt (turn σ)) (thr (nI t)) (-1) = low (sSt σ) (sHt σ) (nI t) (-1) := low_t hg.1 hs _
  have e5 : sCf (turn σ) (thr (nI t)).toNatClampNeg = sCf σ (nI t).toNatClampNeg := by
    rw [thr_v h, nI_clamp (by omega), nI_clamp (by omega)]
    exact tCf_q h
  unfold aboutSR aboutSG
  rw [if_pos (isS_n h), if_pos (isS_t h), e0, e1, e2, e3, e5]
  by_cases z0 : w = 0
  · rw [if_pos z0, if_pos z0]
  · by_cases z1 : w = 1
    · rw [if_neg z0, if_pos z1, if_neg z0, if_pos z1]
    · by_cases z2 : w = 2
      · rw [if_neg z0, if_neg z1, if_pos z2, if_neg z0, if_neg z1, if_pos z2]
      · by_cases z3 : w = 3
        · rw [if_neg z0, if_neg z1, if_neg z2, if_pos z3, if_neg z0, if_neg z1, if_neg z2, if_pos z3]
        · rw [if_neg z0, if_neg z1, if_neg z2, if_neg z3, if_neg h4, if_neg z0, if_neg z1, if_neg z2, if_neg z3, if_neg h4]
theorem dr_t (hg : gdS σ) {t : Nat} (h : t < 4) (p : Int32) : drawR (sSt σ) (sHt σ) (nI t) p = drawR (sSt (turn σ)) (sHt (turn σ)) (thr (nI t)) p := (draw_t hg.1 ⟨t, h, rfl⟩ p).symm
theorem gs_t (hg : gdS σ) : gsF (sSt σ) (sHt σ) (sCh σ) 10 = gsF (sSt (turn σ)) (sHt (turn σ)) (sCh (turn σ)) 10 := (gsF_t hg.1 10).symm
end AL
