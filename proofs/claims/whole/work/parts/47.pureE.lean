/-! PURE E: drawing, what a reading would do, readings and beats, winds, the calmest -/
theorem rises_eqH {σ : Sky} {f : F} {j q w : Nat} (hH : ∃ b, b < 92 ∧ sHt σ j = nI b) (hq : q < 4) (hs : sSt σ j = nI q) (hw : w < 10) :
    mRis1 (mdl σ f) j (nI w) = mdl (pHt σ j (risenH σ j (nI w))) f ∧ (mIsC (mdl σ f) j (nI w) ↔ sCh σ < risenH σ j (nI w)) ∧ hR (mdl σ f) j (nI w) ∧ mRises (mdl σ f) j q (nI w) = (if sCh σ < risenH σ j (nI w) then mdl (cutG σ j) f else mdl (pHt σ j (risenH σ j (nI w))) f) := by
  obtain ⟨b, hb, eb⟩ := hH
  have hv : vs4 (nI q) := vs4_nI hq
  have hl : ¬ sSt σ j = -1 := by rw [hs]; exact vs4_1 hv
  have hdm : dmF (sSt σ) j = nI q := by rw [dm_neg hl, hs]
  have et : sHt σ j + nI w + 1 = nI (b + w + 1) := by rw [eb, nI_add, nI_1]
  have hL1 : land (upd (dmF (sSt σ)) j (-10005)) (sHt σ) (nI q) (sHt σ j + nI w + 1) = risenH σ j (nI w) := by
    show _ = land (sSt σ) (sHt σ) (sSt σ j) (sHt σ j + nI w + 1)
    rw [hs, et, rise_land eb (by omega) (by omega) (by omega) (fun z => vs4_N hv z.symm)]
    exact landF_dm hv 12 _
  have e1 : mRis1 (mdl σ f) j (nI w) = mdl (pHt σ j (risenH σ j (nI w))) f := by
    have h1 := mLands_eq (σ := σ) (f := f) (j := j) (t := sHt σ j + nI w + 1) hv hL1
    rw [pSt_id hs] at h1
    show mLands (mdl σ f) j (dmF (sSt σ) j) (sHt σ j + nI w + 1) = _
    rw [hdm]
    exact h1
  have e2 : mIsC (mdl σ f) j (nI w) ↔ sCh σ < risenH σ j (nI w) := by
    show sCh (mRis1 (mdl σ f) j (nI w)).1 < sHt (mRis1 (mdl σ f) j (nI w)).1 j ↔ _
    rw [e1]
    show sCh σ < upd (sHt σ) j (risenH σ j (nI w)) j ↔ _
    rw [pk_us]
  have hb2 := behi_v hv
  have hL2 : land (upd (dmF (sSt σ)) j (-10005)) (upd (sHt σ) j (risenH σ j (nI w))) (behi (nI q)) 0 = land (sSt σ) (sHt σ) (behi (sSt σ j)) 0 := by
    rw [hs]
    show landF (upd (dmF (sSt σ)) j (-10005)) (upd (sHt σ) j (risenH σ j (nI w))) (behi (nI q)) 12 0 = landF (sSt σ) (sHt σ) (behi (nI q)) 12 0
    rw [landF_rm (ht := sHt σ) (fun z => vs4_N hb2.1 z.symm) (fun k hk => pk_un hk) 12 _ (fun i _ z => hb2.2 (by rw [← z.1, hdm])), landF_dm hb2.1]
  have e3 : mRis2 (mdl σ f) j (nI w) = mdl (pHt (pSt σ j (behi (nI q))) j (land (sSt σ) (sHt σ) (behi (sSt σ j)) 0)) f := by
    have h1 := mLands_eq (σ := pHt σ j (risenH σ j (nI w))) (f := f) (j := j) (t := 0) hb2.1 hL2
    show mLands (mRis1 (mdl σ f) j (nI w)) j (behi (dmF (sSt σ) j)) 0 = _
    rw [e1, hdm, h1]
    show mdl (sNu σ, upd (sSt σ) j (behi (nI q)), upd (upd (sHt σ) j (risenH σ j (nI w))) j (land (sSt σ) (sHt σ) (behi (sSt σ j)) 0), sFr σ, sRe σ, sCu σ, sWi σ, sCf σ, sBs σ, sRs σ, sCh σ, sSi σ) f = _
    rw [upd2]
    rfl
  refine ⟨e1, e2, ⟨?_, ?_⟩, ?_⟩
  · show hF (upd (dmF (sSt σ)) j (-10005)) (sHt σ) (dmF (sSt σ) j) (sHt σ j + nI w + 1)
    rw [et]
    exact land_free (by omega)
  · exact free_0
  · unfold mRises
    by_cases hc : sCh σ < risenH σ j (nI w)
    · rw [if_pos (e2.mpr hc), if_pos hc, e3]
      have h7 : sumN (upd (sCf σ) q (sCf σ q + 1)) 4 = sumN (sCf σ) 4 + 1 := sumN_inc 4 hq
      unfold cutG
      rw [raiseC_eq hq hs, hs]
      show _ = ((sNu σ, dmF (upd (sSt σ) j (behi (nI q))), upd (sHt σ) j (land (sSt σ) (sHt σ) (behi (nI q)) 0), f, sRe σ, upd (sCu σ) j (sCu σ j + 1), sWi σ, upd (sCf σ) q (sCf σ q + 1), sBs σ, sRs σ, sCh σ, sSi σ), nI (fmo8 (sBs σ)), sumN (upd (sCf σ) q (sCf σ q + 1)) 4)
      rw [h7]
      rfl
    · rw [if_neg (fun z => hc (e2.mp z)), if_neg hc]
      exact e1
theorem leF_dm {st ht : F} {s p : Int32} (hs : vs4 s) : ∀ n, leF (dmF st) ht s p n = leF st ht s p n
  | 0 => rfl
  | n + 1 => by rw [leF, leF, leF_dm hs n, weF_dm hs]
def wN (st ht : F) (s : Int32) : Nat → Nat
  | 0 => 0
  | n + 1 => wN st ht s n + (if st n = s then (ht n).toNatClampNeg + 1 else 0)
theorem wN_b {st ht : F} {s : Int32} (hH : okHt ht) : ∀ n, wN st ht s n ≤ 92 * n ∧ sumN (weF st ht s) n = nI (wN st ht s n)
  | 0 => ⟨Nat.le_refl _, rfl⟩
  | n + 1 => by
    obtain ⟨h1, h2⟩ := wN_b (st := st) (s := s) hH n
    obtain ⟨q, hq, e9⟩ := hH n
    have hc : (ht n).toNatClampNeg = q := by rw [e9]; exact nI_clamp (by omega)
    rw [wN, sumN, h2]
    unfold weF
    by_cases hs : st n = s
    · rw [if_pos hs, if_pos hs, hc, e9, nI_1, nI_add]
      exact ⟨by omega, rfl⟩
    · rw [if_neg hs, if_neg hs]
      exact ⟨by omega, Int32.add_zero _⟩
theorem wN_mono {st ht : F} {s : Int32} : ∀ n k, k ≤ n → wN st ht s k ≤ wN st ht s n
  | 0, k, h => by
    have : k = 0 := by omega
    subst this; exact Nat.le_refl _
  | n + 1, k, h => by
    by_cases e9 : k = n + 1
    · subst e9; exact Nat.le_refl _
    · have := wN_mono (st := st) (ht := ht) (s := s) n k (by omega)
      rw [wN]; omega
theorem leF_int {st ht : F} {s : Int32} {P : Nat} (hH : okHt ht) (hP : P < 2 ^ 31) : ∀ n, n ≤ 12 → (leF st ht s (nI P) n).toInt = (P : Int) - wN st ht s n
  | 0, _ => by rw [leF, wN, nI_toInt hP]; omega
  | n + 1, h => by
    have ih := leF_int (st := st) (s := s) hH hP n (by omega)
    have hb := (wN_b (st := st) (s := s) hH n).1
    obtain ⟨q, hq, e9⟩ := hH n
    have hc : (ht n).toNatClampNeg = q := by rw [e9]; exact nI_clamp (by omega)
    rw [leF, wN]
    unfold weF
    by_cases hs : st n = s
    · rw [if_pos hs, if_pos hs, hc, e9, nI_1, Int32.toInt_sub, ih, nI_toInt (by omega), Int.bmod_eq_of_le (by omega) (by omega)]
      omega
    · rw [if_neg hs, if_neg hs, Int32.toInt_sub, ih, i0_int, Int.bmod_eq_of_le (by omega) (by omega)]
      omega
theorem drF_no {st ht : F} {s : Int32} {P : Nat} (hH : okHt ht) (hP : P < 2 ^ 31) (h12 : wN st ht s 12 ≤ P) : ∀ n k, k + n = 12 → drF st ht s (nI P) n k (nI (wN st ht s k)) = -10002
  | 0, k, _ => rfl
  | n + 1, k, h => by
    obtain ⟨q, hq, e9⟩ := hH k
    have hc : (ht k).toNatClampNeg = q := by rw [e9]; exact nI_clamp (by omega)
    have hm := wN_mono (st := st) (ht := ht) (s := s) 12 (k + 1) (by omega)
    have hb := (wN_b (st := st) (s := s) hH k).1
    have ih := drF_no hH hP h12 n (k + 1) (by omega)
    rw [wN] at hm ih
    rw [drF]
    by_cases hs : st k = s
    · rw [if_pos hs, hc] at hm ih
      rw [if_pos hs, e9, nI_1, nI_add, if_neg (by rw [nI_ltI hP (by omega)]; omega)]
      exact ih
    · rw [if_neg hs] at hm ih
      rw [if_neg hs]
      exact ih
theorem drF_yes {st ht : F} {s : Int32} {P : Nat} (hH : okHt ht) (hP : P < 2 ^ 31) (h12 : P < wN st ht s 12) : ∀ n k, k + n = 11 → wN st ht s k ≤ P → drF st ht s (nI P) (n + 1) k (nI (wN st ht s k)) = nI (ff (fun i => decide (leF st ht s (nI P) i < 0)) n (k + 1)) - 1 := by
  have hd : ∀ i, i ≤ 12 → (decide (leF st ht s (nI P) i < 0) = true ↔ P < wN st ht s i) := by
    intro i hi
    rw [decide_eq_true_eq, Int32.lt_iff_toInt_lt, leF_int hH hP i hi, i0_int]
    omega
  intro n
  induction n with
  | zero =>
    intro k hk hle
    have e8 : k = 11 := by omega
    subst e8
    obtain ⟨q, hq, e9⟩ := hH 11
    have hc : (ht 11).toNatClampNeg = q := by rw [e9]; exact nI_clamp (by omega)
    have hb := (wN_b (st := st) (s := s) hH 11).1
    rw [show (12 : Nat) = 11 + 1 from rfl, wN] at h12
    rw [drF]
    by_cases hs : st 11 = s
    · rw [if_pos hs, hc] at h12
      rw [if_pos hs, e9, nI_1, nI_add, if_pos (by rw [nI_ltI hP (by omega)]; omega)]
      exact (nI_pred 11).symm
    · rw [if_neg hs] at h12
      omega
  | succ n ih =>
    intro k hk hle
    obtain ⟨q, hq, e9⟩ := hH k
    have hc : (ht k).toNatClampNeg = q := by rw [e9]; exact nI_clamp (by omega)
    have hb := (wN_b (st := st) (s := s) hH k).1
    have hw : wN st ht s (k + 1) = wN st ht s k + (if st k = s then (ht k).toNatClampNeg + 1 else 0) := rfl
    rw [drF, ff]
    by_cases hs : st k = s
    · rw [if_pos hs, hc] at hw
      rw [if_pos hs, e9, nI_1, nI_add]
      by_cases hlt : P < wN st ht s (k + 1)
      · rw [if_pos (by rw [nI_ltI hP (by omega)]; omega), if_pos ((hd (k + 1) (by omega)).mpr hlt)]
        exact (nI_pred k).symm
      · rw [if_neg (by rw [nI_ltI hP (by omega)]; omega), if_neg (fun z => hlt ((hd (k + 1) (by omega)).mp z)), ← hw]
        exact ih (k + 1) (by omega) (by omega)
    · have hw2 : wN st ht s (k + 1) = wN st ht s k := by rw [hw, if_neg hs]; exact Nat.add_zero _
      rw [if_neg hs, if_neg (fun z => by have := (hd (k + 1) (by omega)).mp z; omega), ← hw2]
      exact ih (k + 1) (by omega) (by omega)
theorem inDr_iff {st ht : F} {s p : Int32} (hH : okHt ht) : inDr st ht s p ↔ 0 ≤ p.toInt ∧ p.toInt ≤ (wN st ht s 12 : Int) - 1 := by
  obtain ⟨h1, h2⟩ := wN_b (st := st) (s := s) hH 12
  have h3 : weig st ht s = nI (wN st ht s 12) := h2
  unfold inDr
  rw [h3, Int64.le_iff_toInt_le, Int64.le_iff_toInt_le, Int64.toInt_sub, Int32.toInt_toInt64, Int32.toInt_toInt64, nI_toInt (by omega), show (1 : Int64).toInt = 1 from by decide, show (0 : Int64).toInt = 0 from by decide, Int.bmod_eq_of_le (by omega) (by omega)]
theorem drawn_eq {σ : Sky} {f : F} (hg : gdS σ) {μ : MD} (hm : mAl μ = mdl σ f) (s p : Int32) : drMR μ s p = drawR (sSt σ) (sHt σ) s p ∧ (isS s → inDr (gSt μ) (gHt μ) s p → leF (gSt μ) (gHt μ) s p 12 < 0) := by
  unfold drMR drawR
  simp only [gmSt hm, gmHt hm]
  have hH := hg.2.1
  by_cases hS : isS s
  · have hv := isS_v hS
    have hi : inDr (dmF (sSt σ)) (sHt σ) s p ↔ inDr (sSt σ) (sHt σ) s p := by
      unfold inDr
      rw [weig_dm hv]
    rw [if_pos hS, if_pos hS, leF_dm hv]
    by_cases hd : inDr (sSt σ) (sHt σ) s p
    · have h1 := (inDr_iff hH).mp hd
      obtain ⟨P, hP, eP⟩ := nI_of (x := p) (by rw [Int32.lt_iff_toInt_lt, i0_int]; omega)
      have h2 : P < wN (sSt σ) (sHt σ) s 12 := by
        rw [eP, nI_toInt hP] at h1; omega
      rw [if_pos (hi.mpr hd), if_neg (by rw [Int32.lt_iff_toInt_lt, i0_int]; omega)]
      refine ⟨?_, fun _ _ => ?_⟩
      · rw [eP]
        have h3 := drF_yes (st := sSt σ) (s := s) hH hP h2 11 0 (by omega) (Nat.zero_le _)
        rw [show (0 : Int32) = nI (wN (sSt σ) (sHt σ) s 0) from rfl, h3]
        unfold drN
        have h4 : (fun k => decide (leF (dmF (sSt σ)) (sHt σ) s (nI P) k < 0)) = fun k => decide (leF (sSt σ) (sHt σ) s (nI P) k < 0) := by
          funext k
          rw [leF_dm hv]
        rw [h4]
        have h5 : ff (fun k => decide (leF (sSt σ) (sHt σ) s (nI P) k < 0)) 12 0 = ff (fun k => decide (leF (sSt σ) (sHt σ) s (nI P) k < 0)) 11 (0 + 1) := by
          show (if decide (leF (sSt σ) (sHt σ) s (nI P) 0 < 0) = true then 0 else ff (fun k => decide (leF (sSt σ) (sHt σ) s (nI P) k < 0)) 11 (0 + 1)) = _
          rw [if_neg]
          rw [decide_eq_true_eq]
          show ¬ nI P < 0
          exact nI_pos hP
        rw [h5]
      · rw [eP, Int32.lt_iff_toInt_lt, leF_int hH hP 12 (by omega), i0_int]
        omega
    · rw [if_neg (fun z => hd (hi.mp z))]
      refine ⟨?_, fun _ z => absurd (hi.mp z) hd⟩
      by_cases h0 : p < 0
      · rw [if_pos h0]
      · rw [if_neg h0]
        obtain ⟨P, hP, eP⟩ := nI_of h0
        have h2 : wN (sSt σ) (sHt σ) s 12 ≤ P := by
          rcases Nat.lt_or_ge P (wN (sSt σ) (sHt σ) s 12) with h9 | h9
          · exact absurd ((inDr_iff hH).mpr (by rw [eP, nI_toInt hP]; omega)) hd
          · exact h9
        rw [eP]
        exact (drF_no (st := sSt σ) (s := s) hH hP h2 12 0 (by omega)).symm
  · rw [if_neg hS, if_neg hS]
    exact ⟨rfl, fun z => absurd z hS⟩
/-- what a kite's reading wants -/
theorem kite_at {σ : Sky} (hg : gdS σ) {k : Int32} (hk : isK (sSt σ) k) : ∃ j q, j < 12 ∧ q < 4 ∧ k = nI j ∧ k.toNatClampNeg = j ∧ sSt σ j = nI q := by
  obtain ⟨j, hj, ej⟩ := i32_of (n := 12) hk.1 hk.2.1 (by decide)
  have hcl : k.toNatClampNeg = j := by rw [ej]; exact nI_clamp (by omega)
  have h3 := hk.2.2
  rw [hcl] at h3
  obtain ⟨q, hq, e9⟩ := okSt_v hg.1 h3
  exact ⟨j, q, hj, hq, ej, hcl, e9⟩
theorem wind_at {σ : Sky} (hg : gdS σ) : ∃ w, w < 10 ∧ windN σ = nI w := hg.2.2.2.2.2.1 (fmo8 (sBs σ))
/-- the string's number of a kite, whatever stands there -/
def qK (σ : Sky) (k : Int32) : Nat := (sSt σ k.toNatClampNeg).toNatClampNeg
theorem qK_eq {σ : Sky} {k : Int32} {q : Nat} (hq : q < 4) (h : sSt σ k.toNatClampNeg = nI q) : qK σ k = q := by
  unfold qK
  rw [h]
  exact nI_clamp (by omega)
theorem ie10 : ((1 : Int32) = 0) = False := eq_false (by decide)
theorem ie20 : ((2 : Int32) = 0) = False := eq_false (by decide)
theorem ie21 : ((2 : Int32) = 1) = False := eq_false (by decide)
theorem ie30 : ((3 : Int32) = 0) = False := eq_false (by decide)
theorem ie31 : ((3 : Int32) = 1) = False := eq_false (by decide)
theorem ie32 : ((3 : Int32) = 2) = False := eq_false (by decide)
theorem ifR_eq {σ : Sky} {f : F} (hg : gdS σ) {μ : MD} (hm : mAl μ = mdl σ f) (k w : Int32) : (ifRM μ (qK σ k) (fmo8 (sBs σ)) k w).1 = aboutRR σ k w ∧ mAl (ifRM μ (qK σ k) (fmo8 (sBs σ)) k w).2 = mAl μ ∧ (isKm (gSt μ) k → qK σ k < 4 ∧ gSt μ k.toNatClampNeg = nI (qK σ k) ∧ hR (mAl μ) k.toNatClampNeg (gWi μ (fmo8 (sBs σ)))) := by
  unfold ifRM aboutRR
  simp only [gmSt hm, gmWi hm]
  by_cases hk : isK (sSt σ) k
  · obtain ⟨j, q, hj, hq, ej, hcl, hs⟩ := kite_at hg hk
    obtain ⟨wn, hwn, ewn⟩ := wind_at hg
    have ewn2 : sWi σ (fmo8 (sBs σ)) = nI wn := ewn
    have hqk := qK_eq hq (by rw [hcl]; exact hs)
    obtain ⟨e1, e2, e3, e4⟩ := rises_eq (f := f) hg hq hs hwn
    have hl : ¬ sSt σ j = -1 := by rw [hs]; exact vs4_1 (vs4_nI hq)
    rw [if_pos ((isK_m hg.1 k).mpr hk), if_pos hk, hqk, hcl, hm, ewn2]
    refine ⟨?_, ?_, fun _ => ⟨hq, by rw [dm_neg hl]; exact hs, e3⟩⟩
    · unfold aboutRG
      rw [ewn]
      by_cases hw : 0 ≤ w ∧ w ≤ 3
      · rw [if_pos hw]
        show ifRMG μ j q (fmo8 (sBs σ)) w = _
        unfold ifRMG
        simp only [gmWi hm, gmHt hm]
        rw [hm, ewn2, e4]
        have hw3 : w = 0 ∨ w = 1 ∨ w = 2 ∨ w = 3 := by
          obtain ⟨z, hz, ez⟩ := i32_of (M := 4) (n := 4) hw.1 ((i32_le_lt (c := 3) (d := 4) (by decide)).mp hw.2) (by decide)
          have : z = 0 ∨ z = 1 ∨ z = 2 ∨ z = 3 := by omega
          rcases this with rfl | rfl | rfl | rfl
          · exact Or.inl ez
          · exact Or.inr (Or.inl ez)
          · exact Or.inr (Or.inr (Or.inl ez))
          · exact Or.inr (Or.inr (Or.inr ez))
        by_cases hc : sCh σ < risenH σ j (nI wn)
        · rw [if_pos hc, if_pos hc, if_pos (e2.mpr hc), if_pos (e2.mpr hc)]
          have hb2 := behi_v (vs4_nI hq)
          have hst : sSt (mdl (cutG σ j) f).1 j = behi (sSt σ j) := by
            show dmF (upd (sSt (raiseC σ j)) j (behi (sSt σ j))) j = _
            rw [hs, dm_up hb2.1, pk_us]
          have hht : sHt (mdl (cutG σ j) f).1 j = land (sSt σ) (sHt σ) (behi (sSt σ j)) 0 := pk_us
          rcases hw3 with rfl | rfl | rfl | rfl
          · simp only [eq_self, if_true]
            exact hst
          · simp only [ie10, eq_self, if_true, if_false]
            exact hht
          · simp only [ie20, ie21, eq_self, if_true, if_false]
          · simp only [ie30, ie31, ie32, eq_self, if_true, if_false]
        · rw [if_neg hc, if_neg hc, if_neg (fun z => hc (e2.mp z)), if_neg (fun z => hc (e2.mp z))]
          have hst : sSt (mdl (pHt σ j (risenH σ j (nI wn))) f).1 j = sSt σ j := dm_neg hl
          have hht : sHt (mdl (pHt σ j (risenH σ j (nI wn))) f).1 j = risenH σ j (nI wn) := pk_us
          rcases hw3 with rfl | rfl | rfl | rfl
          · simp only [eq_self, if_true]
            exact hst
          · simp only [ie10, eq_self, if_true, if_false]
            exact hht
          · simp only [ie20, ie21, eq_self, if_true, if_false]
          · simp only [ie30, ie31, ie32, eq_self, if_true, if_false]
            show sumN (psF (dmF (sSt σ)) (upd (sHt σ) j (risenH σ j (nI wn))) (dmF (sSt σ) j) (sHt σ j) (upd (sHt σ) j (risenH σ j (nI wn)) j)) 12 = kitesB (sSt σ) (sHt σ) (sSt σ j) (sHt σ j) (risenH σ j (nI wn))
            rw [pk_us, dm_neg hl]
            refine sumN_eq 12 (fun i _ => ?_)
            unfold psF kbF
            by_cases e9 : i = j
            · subst e9
              rw [pk_us, if_neg (fun z => by have := z.2.2; rw [Int32.lt_iff_toInt_lt] at this; omega), if_neg (fun z => by have := z.2.1; rw [Int32.lt_iff_toInt_lt] at this; omega)]
            · rw [pk_un e9]
              have hv := okSt_v hg.1 hl
              by_cases h9 : sSt σ i = sSt σ j ∧ sHt σ j < sHt σ i ∧ sHt σ i < risenH σ j (nI wn)
              · rw [if_pos h9, if_pos ⟨(dm_eq hv).mpr h9.1, h9.2⟩]
              · rw [if_neg h9, if_neg (fun z => h9 ⟨(dm_eq hv).mp z.1, z.2⟩)]
      · rw [if_neg hw]
        have n0 : ¬ w = 0 := fun z => hw (by rw [z]; decide)
        have n1 : ¬ w = 1 := fun z => hw (by rw [z]; decide)
        have n2 : ¬ w = 2 := fun z => hw (by rw [z]; decide)
        have n3 : ¬ w = 3 := fun z => hw (by rw [z]; decide)
        rw [if_neg n0, if_neg n1, if_neg n2, if_neg n3, if_neg n0, if_neg n1, if_neg n2, if_neg n3]
        split <;> rfl
    · split <;> exact hm
  · rw [if_neg (fun z => hk ((isK_m hg.1 k).mp z)), if_neg hk]
    exact ⟨rfl, rfl, fun z => absurd ((isK_m hg.1 k).mp z) hk⟩
theorem pHt2 {σ : Sky} {j : Nat} {x y : Int32} : pHt (pHt σ j x) j y = pHt σ j y := by
  show (sNu σ, sSt σ, upd (upd (sHt σ) j x) j y, sFr σ, sRe σ, sCu σ, sWi σ, sCf σ, sBs σ, sRs σ, sCh σ, sSi σ) = _
  rw [upd2]
  rfl
theorem pHt_id {σ : Sky} {j : Nat} : pHt σ j (sHt σ j) = σ := by
  show (sNu σ, sSt σ, upd (sHt σ) j (sHt σ j), sFr σ, sRe σ, sCu σ, sWi σ, sCf σ, sBs σ, sRs σ, sCh σ, sSi σ) = σ
  rw [updI rfl]
  rfl
theorem rt_eq {σ : Sky} {f : F} (hg : gdS σ) {j q w b : Nat} (hq : q < 4) (hs : sSt σ j = nI q) (hw : w < 10) (hb : sHt σ j = nI b) : ∀ n r h, b ≤ h → h < 92 → n + r = 100 → rtF j q (nI w) n r (mdl (pHt σ j (nI h)) f) = rcF (sSt σ) (sHt σ) (nI q) (nI w) (sCh σ) n r (nI h) ∧ rtH j q (nI w) n (mdl (pHt σ j (nI h)) f) := by
  obtain ⟨b0, hb0, eb0⟩ := hg.2.1 j
  obtain ⟨c9, hc1, hc2, ec⟩ := hg.2.2.2.2.2.2.1
  intro n
  induction n with
  | zero =>
    intro r h h1 h2 h3
    have h4 := rises_eqH (σ := pHt σ j (nI h)) (f := f) (w := w) ⟨h, h2, pk_us⟩ hq hs hw
    have h5 : r = 100 := by omega
    subst h5
    exact ⟨rfl, h4.2.2.1⟩
  | succ n ih =>
    intro r h h1 h2 h3
    obtain ⟨e1, e2, e3, e4⟩ := rises_eqH (σ := pHt σ j (nI h)) (f := f) (w := w) ⟨h, h2, pk_us⟩ hq hs hw
    have hx : ¬ (-10005 : Int32) = nI q := fun z => nI_neN (by omega) z.symm
    have er : risenH (pHt σ j (nI h)) j (nI w) = land (sSt σ) (sHt σ) (nI q) (nI h + nI w + 1) := by
      show land (sSt σ) (upd (sHt σ) j (nI h)) (sSt σ j) (upd (sHt σ) j (nI h) j + nI w + 1) = _
      rw [pk_us, hs, nI_add, nI_1]
      have h6 := rise_land (st := sSt σ) (ht := upd (sHt σ) j (nI h)) (j := j) (b := h) (c := h + w + 1) pk_us (by omega) (by omega) (by omega) hx
      have h7 : land (upd (sSt σ) j (-10005)) (upd (sHt σ) j (nI h)) (nI q) (nI (h + w + 1)) = land (sSt σ) (sHt σ) (nI q) (nI (h + w + 1)) := by
        refine landF_rm hx (fun k hk => pk_un hk) 12 _ (fun i hi z => ?_)
        have h8 := z.2
        rw [hb, nI_add] at h8
        have := (nI_eq (by omega) (by omega)).mp h8
        omega
      rw [← h6, h7]
    obtain ⟨d, hd, ed, -, -⟩ := land_spec (st := sSt σ) (ht := sHt σ) (s := nI q) (m := h + w + 1) (by omega)
    have ed2 : land (sSt σ) (sHt σ) (nI q) (nI h + nI w + 1) = nI (h + w + 1 + d) := by rw [nI_add, nI_1]; exact ed
    rw [rtF, rcF, rtH]
    rw [er] at e2 e4
    by_cases hc : sCh σ < land (sSt σ) (sHt σ) (nI q) (nI h + nI w + 1)
    · have hc2 : mIsC (mdl (pHt σ j (nI h)) f) j (nI w) := e2.mpr hc
      rw [if_pos hc2, if_pos hc]
      exact ⟨rfl, e3, fun z => absurd hc2 z⟩
    · have hc2 : ¬ mIsC (mdl (pHt σ j (nI h)) f) j (nI w) := fun z => hc (e2.mp z)
      rw [if_neg hc2, if_neg hc]
      have hc3 : ¬ sCh (pHt σ j (nI h)) < land (sSt σ) (sHt σ) (nI q) (nI h + nI w + 1) := hc
      rw [if_neg hc3, pHt2, ed2] at e4
      rw [e4, ed2]
      have h80 : h + w + 1 + d ≤ 80 := by
        rw [ed2, ec, nI_ltI (by omega) (by omega)] at hc
        omega
      have h9 := ih (r + 1) (h + w + 1 + d) (by omega) (by omega) (by omega)
      exact ⟨h9.1, e3, fun _ => h9.2⟩
theorem rdc_eq {σ : Sky} {f : F} (hg : gdS σ) {μ : MD} (hm : mAl μ = mdl σ f) (k : Int32) : (rtM μ (qK σ k) (fmo8 (sBs σ)) k).1 = rcR (sSt σ) (sHt σ) (windN σ) (sCh σ) k ∧ mAl (rtM μ (qK σ k) (fmo8 (sBs σ)) k).2 = mAl μ ∧ (isKm (gSt μ) k → qK σ k < 4 ∧ gSt μ k.toNatClampNeg = nI (qK σ k) ∧ rtH k.toNatClampNeg (qK σ k) (gWi μ (fmo8 (sBs σ))) 99 (mAl μ)) := by
  unfold rtM rcR
  simp only [gmSt hm, gmWi hm]
  by_cases hk : isK (sSt σ) k
  · obtain ⟨j, q, hj, hq, ej, hcl, hs⟩ := kite_at hg hk
    obtain ⟨wn, hwn, ewn⟩ := wind_at hg
    have ewn2 : sWi σ (fmo8 (sBs σ)) = nI wn := ewn
    have hqk := qK_eq hq (by rw [hcl]; exact hs)
    have hl : ¬ sSt σ j = -1 := by rw [hs]; exact vs4_1 (vs4_nI hq)
    obtain ⟨b, hb, eb⟩ := hg.2.1 j
    have h1 := rt_eq (f := f) hg hq hs hwn eb 99 1 b (Nat.le_refl _) hb (by omega)
    rw [← eb, pHt_id] at h1
    rw [if_pos ((isK_m hg.1 k).mpr hk), if_pos hk, hqk, hcl, hm, ewn, ewn2, hs]
    exact ⟨h1.1, hm, fun _ => ⟨hq, by rw [dm_neg hl]; exact hs, h1.2⟩⟩
  · rw [if_neg (fun z => hk ((isK_m hg.1 k).mp z)), if_neg hk]
    exact ⟨rfl, rfl, fun z => absurd ((isK_m hg.1 k).mp z) hk⟩
/-! winds -/
theorem swF_eq {σ : Sky} {f : F} (hg : gdS σ) : ∀ n, n ≤ 10 → swF (mdl σ f) n = gsF (sSt σ) (sHt σ) (sCh σ) n
  | 0, _ => rfl
  | n + 1, h => by
    have h1 : sfM (mdl σ f) (nI n) ↔ sfB (sSt σ) (sHt σ) (sCh σ) (nI n) = true := by
      rw [sfB_iff]
      constructor
      · intro z k hk hl
        obtain ⟨q, hq, e9⟩ := okSt_v hg.1 hl
        have h2 := (rises_eq (f := f) (w := n) hg hq e9 (by omega)).2.1
        exact fun y => z k hk (fun x => hl ((dm_none hg.1).mp x)) (h2.mpr y)
      · intro z k hk hl
        have hl2 : ¬ sSt σ k = -1 := fun x => hl (dm_pos x)
        obtain ⟨q, hq, e9⟩ := okSt_v hg.1 hl2
        have h2 := (rises_eq (f := f) (w := n) hg hq e9 (by omega)).2.1
        exact fun y => z k hk hl2 (h2.mp y)
    rw [swF, gsF, swF_eq hg n (by omega)]
    by_cases h2 : sfB (sSt σ) (sHt σ) (sCh σ) (nI n) = true
    · rw [if_pos h2, if_pos (h1.mpr h2)]
    · rw [if_neg h2, if_neg (fun z => h2 (h1.mp z))]
theorem hSf_ok {σ : Sky} {f : F} (hg : gdS σ) {n : Nat} (hn : n < 10) : hSf (mdl σ f) (nI n) := by
  intro k hk hl
  have hl2 : ¬ sSt σ k = -1 := fun x => hl (dm_pos x)
  obtain ⟨q, hq, e9⟩ := okSt_v hg.1 hl2
  exact ⟨⟨q, hq, by show dmF (sSt σ) k = nI q; rw [dm_neg hl2]; exact e9⟩, (rises_eq (f := f) (w := n) hg hq e9 hn).2.2.1⟩
theorem cl_eq {st ht : F} : ∀ n, n ≤ 3 → clM (dmF st) ht n = clF st ht n ∧ ∃ q, q < 4 ∧ clF st ht n = nI q
  | 0, _ => ⟨rfl, 0, by omega, rfl⟩
  | n + 1, h => by
    obtain ⟨h1, q, hq, h2⟩ := cl_eq (st := st) (ht := ht) n (by omega)
    have hv1 : vs4 (nI (n + 1)) := vs4_nI (by omega)
    have hv2 : vs4 (nI q) := vs4_nI hq
    obtain ⟨d1, hd1, e1⟩ := land_0 (st := st) (ht := ht) (s := nI (n + 1))
    obtain ⟨d2, hd2, e2⟩ := land_0 (st := st) (ht := ht) (s := nI q)
    have f1 : land (dmF st) ht (nI (n + 1)) 0 = nI d1 := by
      show landF (dmF st) ht (nI (n + 1)) 12 0 = nI d1
      rw [landF_dm hv1]; exact e1
    have f2 : land (dmF st) ht (nI q) 0 = nI d2 := by
      show landF (dmF st) ht (nI q) 12 0 = nI d2
      rw [landF_dm hv2]; exact e2
    have hc : (0 < nI d2 - nI d1 ∨ nI d2 - nI d1 = 0 ∧ weig (dmF st) ht (nI (n + 1)) < weig (dmF st) ht (nI q)) ↔ clP st ht (nI (n + 1)) (nI q) := by
      unfold clP
      rw [e1, e2, weig_dm hv1, weig_dm hv2]
      have s1 := pk_sub_toInt (a := d2) (b := d1) (by omega) (by omega)
      have g1 : 0 < nI d2 - nI d1 ↔ nI d1 < nI d2 := by
        rw [Int32.lt_iff_toInt_lt, s1, i0_int, nI_ltI (by omega) (by omega)]; omega
      have g2 : nI d2 - nI d1 = 0 ↔ nI d1 = nI d2 := by
        rw [← Int32.toInt_inj, s1, i0_int, nI_eq (by omega) (by omega)]; omega
      rw [g1, g2]
    rw [clM, clF, h1, h2, f1, f2]
    by_cases h3 : clP st ht (nI (n + 1)) (nI q)
    · rw [if_pos h3, if_pos (hc.mpr h3)]
      exact ⟨rfl, n + 1, by omega, rfl⟩
    · rw [if_neg h3, if_neg (fun z => h3 (hc.mp z))]
      exact ⟨rfl, q, hq, rfl⟩
/-! beats until a kite is down: its own string alone -/
def agS (s : Int32) (σ σ2 : Sky) : Prop := sSt σ = sSt σ2 ∧ (∀ k, sSt σ k = s → sHt σ k = sHt σ2 k ∧ sFr σ k = sFr σ2 k) ∧ sSi σ = sSi σ2
theorem low_some {st ht : F} {s t : Int32} : ∀ n, lowF st ht s t n = (-10005, 1000000) ∨ ∃ p, p < n ∧ st p = s ∧ lowF st ht s t n = (nI p, ht p)
  | 0 => Or.inl rfl
  | n + 1 => by
    rw [lowF]
    split
    · rename_i h
      exact Or.inr ⟨n, by omega, h.1, rfl⟩
    · rcases low_some (st := st) (ht := ht) (s := s) (t := t) n with h | ⟨p, hp, h1, h2⟩
      · exact Or.inl h
      · exact Or.inr ⟨p, by omega, h1, h2⟩
theorem low_ag {st ht ht2 : F} {s t : Int32} (h : ∀ k, st k = s → ht k = ht2 k) : ∀ n, lowF st ht s t n = lowF st ht2 s t n
  | 0 => rfl
  | n + 1 => by
    rw [lowF, lowF, low_ag h n]
    by_cases hs : st n = s
    · rw [h n hs]
    · rw [if_neg (fun z => hs z.1), if_neg (fun z => hs z.1)]
theorem sinkF_ag {s : Int32} : ∀ n fl pa σ σ2, agS s σ σ2 → agS s (sinkF s n fl pa σ) (sinkF s n fl pa σ2)
  | 0, _, _, _, _, h => h
  | n + 1, fl, pa, σ, σ2, h => by
    obtain ⟨h1, h2, h3⟩ := h
    have hlow : low (sSt σ) (sHt σ) s pa = low (sSt σ2) (sHt σ2) s pa := by
      rw [← h1]
      exact congrArg Prod.fst (low_ag (fun k hk => (h2 k hk).1) 12)
    rw [sinkF, sinkF, ← hlow, ← h1]
    by_cases hk : isK (sSt σ) (low (sSt σ) (sHt σ) s pa)
    · rw [if_pos hk, if_pos hk]
      rcases low_some (st := sSt σ) (ht := sHt σ) (s := s) (t := pa) 12 with h9 | ⟨p, hp, hps, h9⟩
      · have h8 : low (sSt σ) (sHt σ) s pa = -10005 := congrArg Prod.fst h9
        rw [h8] at hk
        exact absurd hk.1 (by decide)
      · have h8 : low (sSt σ) (sHt σ) s pa = nI p := congrArg Prod.fst h9
        rw [h8, nI_clamp (by omega)]
        obtain ⟨a1, a2⟩ := h2 p hps
        have hO : agS s (sinkO σ p fl) (sinkO σ2 p fl) := by
          unfold sinkO
          rw [← a2]
          split
          · refine ⟨h1, fun k hk2 => ⟨?_, (h2 k hk2).2⟩, h3⟩
            show upd (sHt σ) p _ k = upd (sHt σ2) p _ k
            rw [a1, h3]
            by_cases e9 : k = p
            · subst e9; rw [pk_us, pk_us]
            · rw [pk_un e9, pk_un e9]; exact (h2 k hk2).1
          · exact ⟨h1, h2, h3⟩
        have hs9 : sSt (sinkO σ p fl) p = s := by
          unfold sinkO
          split <;> exact hps
        rw [(hO.2.1 p hs9).1, a1]
        exact sinkF_ag n _ _ _ _ hO
    · rw [if_neg hk, if_neg hk]
      exact ⟨h1, h2, h3⟩
theorem endN_ag {s : Int32} {σ σ2 : Sky} (h : agS s σ σ2) : ∀ n, agS s (endN σ n) (endN σ2 n)
  | 0 => h
  | n + 1 => by
    obtain ⟨h1, h2, h3⟩ := endN_ag h n
    refine ⟨h1, fun k hk => ⟨(h2 k hk).1, ?_⟩, h3⟩
    show upd (sFr (endN σ n)) n 0 k = upd (sFr (endN σ2 n)) n 0 k
    by_cases e9 : k = n
    · subst e9; rw [pk_us, pk_us]
    · rw [pk_un e9, pk_un e9]; exact (h2 k hk).2
theorem agS_other {s s2 : Int32} {σ σ2 σ3 : Sky} (h : agS s σ σ2) (hq : sinkQ s2 σ2 σ3) (hne : ¬ s = s2) : agS s σ σ3 := by
  obtain ⟨g, rfl, -, -, h4⟩ := hq
  obtain ⟨h1, h2, h3⟩ := h
  refine ⟨h1, fun k hk => ⟨?_, (h2 k hk).2⟩, h3⟩
  show sHt σ k = g k
  rw [h4 k (by rw [← h1, hk]; exact hne)]
  exact (h2 k hk).1
theorem sinkN_ag {q : Nat} (hq : q < 4) {σ σ2 : Sky} {f : F} (hg : gdS σ2) (hf : frA σ2 f) (h : agS (nI q) σ σ2) : ∀ n, n ≤ 4 → (n ≤ q → agS (nI q) σ (sinkN σ2 n)) ∧ (q < n → agS (nI q) (sinkS σ (nI q)) (sinkN σ2 n))
  | 0, _ => ⟨fun _ => h, fun z => absurd z (Nat.not_lt_zero _)⟩
  | n + 1, hn => by
    obtain ⟨h1, h2⟩ := sinkN_ag hq hg hf h n (by omega)
    obtain ⟨-, k2, k3, -⟩ := sinkN_eq hg hf n (by omega)
    have hQ := (sinkS_eq (vs4_nI (n := n) (by omega)) k2.2.1 k3 k2.2.2.2.1 k2.2.2.2.2.2.2.2).2.2
    have hne : ∀ a b, a < 4 → b < 4 → ¬ a = b → ¬ nI a = nI b := fun a b ha hb h9 z => h9 ((nI_eq (by omega) (by omega)).mp z)
    refine ⟨fun hle => agS_other (h1 (by omega)) hQ (hne q n hq (by omega) (by omega)), fun hlt => ?_⟩
    by_cases e9 : q = n
    · subst e9
      exact sinkF_ag 12 0 (-1) _ _ (h1 (Nat.le_refl _))
    · exact agS_other (h2 (by omega)) hQ (hne q n hq (by omega) e9)
theorem agS_Bs {s : Int32} {σ Y : Sky} {v : Int32} (h : agS s σ Y) : agS s σ (uBs Y v) := h
theorem di_eq {j q : Nat} {g : Int32} (hq : q < 4) : ∀ n b σ σ2 f, agS (nI q) σ σ2 → sSt σ j = nI q → gdS σ2 → frA σ2 f → b + n = 201 → suF j g n b σ = (if 200 < diF j g n b (mdl σ2 f) then -10005 else nI (diF j g n b (mdl σ2 f))) ∧ diH j g n (mdl σ2 f)
  | 0, b, σ, σ2, f, _, _, _, _, h => by
    have e9 : b = 201 := by omega
    subst e9
    exact ⟨rfl, trivial⟩
  | n + 1, b, σ, σ2, f, ha, hj, hg, hf, h => by
    have hh : sHt σ j = sHt σ2 j := (ha.2.1 j hj).1
    have hx : sHt (mdl σ2 f).1 j = sHt σ2 j := rfl
    obtain ⟨k1, k2, k3⟩ := beat1_eq hg hf
    have h4 := (sinkN_ag hq hg hf ha 4 (by omega)).2 hq
    have h5 := agS_Bs (v := sBs (endF (sinkN σ2 4)) + 1) (endN_ag h4 12)
    have h6 : sSt (endN (sinkS σ (nI q)) 12) j = nI q := by
      have h7 : sSt (sinkS σ (nI q)) = sSt σ := by
        have h8 : ∀ n fl pa σ, sSt (sinkF (nI q) n fl pa σ) = sSt σ := by
          intro n
          induction n with
          | zero => intro _ _ _; rfl
          | succ n ih =>
            intro fl pa σ
            rw [sinkF]
            split
            · rw [ih]
              unfold sinkO
              split <;> rfl
            · rfl
        exact h8 12 0 (-1) σ
      have h9 : ∀ m Y, sSt (endN Y m) = sSt Y := by
        intro m
        induction m with
        | zero => intro Y; rfl
        | succ m ih => intro Y; exact ih Y
      rw [h9, h7]
      exact hj
    have h7 := di_eq (g := g) hq n (b + 1) (endN (sinkS σ (nI q)) 12) (beat1 σ2) (endf f 12) h5 h6 k2 k3 (by omega)
    rw [suF, diF, diH, hx, hh, k1, hj]
    by_cases hc : g < sHt σ2 j
    · rw [if_neg (i32_lt.mpr hc), if_pos hc]
      exact ⟨h7.1, fun _ => ⟨beatN_ok hg hf 1, h7.2⟩⟩
    · rw [if_pos (i32_le.mp hc), if_neg hc, if_neg (by omega)]
      exact ⟨rfl, fun z => absurd z hc⟩
theorem down_eq {σ : Sky} {f : F} (hg : gdS σ) (hf : frA σ f) {μ : MD} (hm : mAl μ = mdl σ f) (k g : Int32) : (diM μ k g).1 = suR σ k g ∧ mAl (diM μ k g).2 = mAl μ ∧ (isKm (gSt μ) k → diH k.toNatClampNeg g 201 (mAl μ)) := by
  unfold diM suR
  simp only [gmSt hm]
  by_cases hk : isK (sSt σ) k
  · obtain ⟨j, q, hj, hq, ej, hcl, hs⟩ := kite_at hg hk
    have h1 := di_eq (j := j) (g := g) hq 201 0 σ σ f ⟨rfl, fun _ _ => ⟨rfl, rfl⟩, rfl⟩ hs hg hf (by omega)
    rw [if_pos ((isK_m hg.1 k).mpr hk), if_pos hk, hcl, hm]
    refine ⟨?_, ?_, fun _ => h1.2⟩
    · split
      · exact h1.1.symm
      · rfl
    · split <;> exact hm
  · rw [if_neg (fun z => hk ((isK_m hg.1 k).mp z)), if_neg hk]
    exact ⟨rfl, rfl, fun z => absurd ((isK_m hg.1 k).mp z) hk⟩
