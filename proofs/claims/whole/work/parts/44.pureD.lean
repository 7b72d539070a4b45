/-! PURE D: what is told, side by side -/
theorem gmNu {σ : Sky} {f : F} {μ : MD} (hm : mAl μ = mdl σ f) : gNu μ = sNu σ := by
  show sNu (mAl μ).1 = _
  rw [hm]
  rfl
theorem gmSt {σ : Sky} {f : F} {μ : MD} (hm : mAl μ = mdl σ f) : gSt μ = dmF (sSt σ) := by
  show sSt (mAl μ).1 = _
  rw [hm]
  rfl
theorem gmHt {σ : Sky} {f : F} {μ : MD} (hm : mAl μ = mdl σ f) : gHt μ = sHt σ := by
  show sHt (mAl μ).1 = _
  rw [hm]
  rfl
theorem gmFr {σ : Sky} {f : F} {μ : MD} (hm : mAl μ = mdl σ f) : gFr μ = f := by
  show sFr (mAl μ).1 = _
  rw [hm]
  rfl
theorem gmRe {σ : Sky} {f : F} {μ : MD} (hm : mAl μ = mdl σ f) : gRe μ = sRe σ := by
  show sRe (mAl μ).1 = _
  rw [hm]
  rfl
theorem gmCu {σ : Sky} {f : F} {μ : MD} (hm : mAl μ = mdl σ f) : gCu μ = sCu σ := by
  show sCu (mAl μ).1 = _
  rw [hm]
  rfl
theorem gmWi {σ : Sky} {f : F} {μ : MD} (hm : mAl μ = mdl σ f) : gWi μ = sWi σ := by
  show sWi (mAl μ).1 = _
  rw [hm]
  rfl
theorem gmCf {σ : Sky} {f : F} {μ : MD} (hm : mAl μ = mdl σ f) : gCf μ = sCf σ := by
  show sCf (mAl μ).1 = _
  rw [hm]
  rfl
theorem gmBs {σ : Sky} {f : F} {μ : MD} (hm : mAl μ = mdl σ f) : gBs μ = sBs σ := by
  show sBs (mAl μ).1 = _
  rw [hm]
  rfl
theorem gmRs {σ : Sky} {f : F} {μ : MD} (hm : mAl μ = mdl σ f) : gRs μ = sRs σ := by
  show sRs (mAl μ).1 = _
  rw [hm]
  rfl
theorem gmCh {σ : Sky} {f : F} {μ : MD} (hm : mAl μ = mdl σ f) : gCh μ = sCh σ := by
  show sCh (mAl μ).1 = _
  rw [hm]
  rfl
theorem gmSi {σ : Sky} {f : F} {μ : MD} (hm : mAl μ = mdl σ f) : gSi μ = sSi σ := by
  show sSi (mAl μ).1 = _
  rw [hm]
  rfl
theorem gmBe {σ : Sky} {f : F} {μ : MD} (hm : mAl μ = mdl σ f) : gBe μ = nI (fmo8 (sBs σ)) := by
  show (mAl μ).2.1 = _
  rw [hm]
  rfl
theorem gmCt {σ : Sky} {f : F} {μ : MD} (hm : mAl μ = mdl σ f) : gCt μ = sumN (sCf σ) 4 := by
  show (mAl μ).2.2 = _
  rw [hm]
  rfl
theorem weF_dm {st ht : F} {s : Int32} (hs : vs4 s) (k : Nat) : weF (dmF st) ht s k = weF st ht s k := by
  unfold weF
  by_cases h : st k = s
  · rw [if_pos h, if_pos ((dm_eq hs).mpr h)]
  · rw [if_neg h, if_neg (fun z => h ((dm_eq hs).mp z))]
theorem weig_dm {st ht : F} {s : Int32} (hs : vs4 s) : weig (dmF st) ht s = weig st ht s := sumN_eq 12 (fun k _ => weF_dm hs k)
theorem nums_dm {st nu : F} {s : Int32} (hs : vs4 s) : nums (dmF st) nu s = nums st nu s := sumN_eq 12 (fun k _ => by
  unfold nuF
  by_cases h : st k = s
  · rw [if_pos h, if_pos ((dm_eq hs).mpr h)]
  · rw [if_neg h, if_neg (fun z => h ((dm_eq hs).mp z))])
theorem kitO_dm {st ht : F} {s : Int32} (hH : okHt ht) (hs : vs4 s) : kitO (dmF st) s = kitesB st ht s (-1) 1000000 := sumN_eq 12 (fun k _ => by
  have hk := ht_int hH k
  have h1 : (-1 : Int32) < ht k := by rw [Int32.lt_iff_toInt_lt, im1_int]; omega
  have h2 : ht k < 1000000 := by rw [Int32.lt_iff_toInt_lt, iMx_int]; omega
  unfold onF kbF
  by_cases h : st k = s
  · rw [if_pos ((dm_eq hs).mpr h), if_pos ⟨h, h1, h2⟩]
  · rw [if_neg (fun z => h ((dm_eq hs).mp z)), if_neg (fun z => h z.1)])
theorem rank_dm {st ht : F} {s t : Int32} (hH : okHt ht) (hs : vs4 s) : sumN (rkF (dmF st) ht s t) 12 = kitesB st ht s t 1000000 := sumN_eq 12 (fun k _ => by
  have hk := ht_int hH k
  have h2 : ht k < 1000000 := by rw [Int32.lt_iff_toInt_lt, iMx_int]; omega
  unfold rkF kbF
  by_cases h : st k = s ∧ t < ht k
  · rw [if_pos ⟨(dm_eq hs).mpr h.1, h.2⟩, if_pos ⟨h.1, h.2, h2⟩]
  · rw [if_neg (fun z => h ⟨(dm_eq hs).mp z.1, z.2⟩), if_neg (fun z => h ⟨z.1, z.2.1⟩)])
theorem sumN_add {f g : F} : ∀ n, sumN f n + sumN g n = sumN (fun k => f k + g k) n
  | 0 => rfl
  | n + 1 => by
    rw [sumN, sumN, sumN, ← sumN_add n]
    rw [Int32.add_assoc, Int32.add_assoc, ← Int32.add_assoc (f n), Int32.add_comm (f n) (sumN g n), Int32.add_assoc (sumN g n)]
theorem many_eq {st : F} (h : okSt st) : many4 (dmF st) = allK st := by
  show ((0 + kitO (dmF st) (nI 0) + kitO (dmF st) (nI 1)) + kitO (dmF st) (nI 2)) + kitO (dmF st) (nI 3) = allK st
  rw [Int32.zero_add]
  show ((sumN (onF (dmF st) (nI 0)) 12 + sumN (onF (dmF st) (nI 1)) 12) + sumN (onF (dmF st) (nI 2)) 12) + sumN (onF (dmF st) (nI 3)) 12 = sumN (liF st) 12
  rw [sumN_add, sumN_add, sumN_add]
  refine sumN_eq 12 (fun k _ => ?_)
  unfold onF liF dmF
  rcases h k with e9 | ⟨q, hq, e9⟩
  · rw [e9]; decide
  · have h4 : q = 0 ∨ q = 1 ∨ q = 2 ∨ q = 3 := by omega
    rw [e9]
    rcases h4 with rfl | rfl | rfl | rfl <;> decide
theorem wAll_eq {st ht : F} : sumN (wAlF (dmF st) ht) 4 = sumN (fun s => weig st ht (nI s)) 4 := sumN_eq 4 (fun k hk => weig_dm (vs4_nI hk))
theorem frsh_eq {σ : Sky} {f : F} (h1 : okSt (sSt σ)) (h2 : fr01 σ) (hf : frA σ f) : sumN (fOF (dmF (sSt σ)) f) 12 = frsh (sSt σ) (sFr σ) := sumN_eq 12 (fun k _ => by
  unfold fOF frF
  by_cases h : sSt σ k = -1
  · rw [if_pos (dm_pos h), if_neg (fun z => z.1 h)]
  · rw [if_neg (fun z => h ((dm_none h1).mp z)), hf k h]
    rcases h2 k with z | z
    · rw [if_neg (fun y => y.2 z), z]
    · rw [if_pos ⟨h, by rw [z]; decide⟩, z])
theorem gh_eq {st ht : F} (h1 : okSt st) (hH : okHt ht) : ∀ n, (ghO (dmF st) ht n = -10005 ∧ mxF st ht n = 0) ∨ (ghO (dmF st) ht n = mxF st ht n ∧ 0 ≤ (mxF st ht n).toInt)
  | 0 => Or.inl ⟨rfl, rfl⟩
  | n + 1 => by
    have hk := ht_int hH n
    rw [ghO, mxF]
    by_cases h : st n = -1
    · rw [if_neg (fun z => z.1 (dm_pos h)), if_pos h]
      exact gh_eq h1 hH n
    · have hd : ¬ dmF st n = -10005 := fun z => h ((dm_none h1).mp z)
      rw [if_neg h]
      rcases gh_eq h1 hH n with ⟨e1, e2⟩ | ⟨e1, e2⟩
      · rw [if_pos ⟨hd, Or.inl e1⟩, e2]
        by_cases h3 : (0 : Int32) < ht n
        · rw [if_pos h3]; exact Or.inr ⟨rfl, by omega⟩
        · rw [if_neg h3]
          have h4 : ht n = 0 := by
            rw [Int32.lt_iff_toInt_lt, i0_int] at h3
            exact Int32.toInt_inj.mp (by rw [i0_int]; omega)
          rw [h4]
          exact Or.inr ⟨rfl, by decide⟩
      · rw [e1]
        have hne : ¬ mxF st ht n = -10005 := by
          intro z
          rw [z] at e2
          exact absurd e2 (by decide)
        by_cases h3 : mxF st ht n < ht n
        · rw [if_pos ⟨hd, Or.inr h3⟩, if_pos h3]; exact Or.inr ⟨rfl, by omega⟩
        · rw [if_neg (fun z => z.2.elim hne h3), if_neg h3]; exact Or.inr ⟨rfl, e2⟩
theorem cnt_eq {σ : Sky} {f : F} (hg : gdS σ) (hf : frA σ f) {μ : MD} (hm : mAl μ = mdl σ f) {kz kn : Nat} (h1 : mHL μ = nI kz) (h2 : mTL μ = nI kn) (w : Int32) : cntM μ (fmo8 (sBs σ)) w = (if w = 11 then nI kz else if w = 12 then nI kn else aboutAR σ w) := by
  have d11 : ∀ q : Int32, w = q → ¬ q = 11 → ¬ w = 11 := fun q h h9 z => h9 (h.symm.trans z)
  have d12 : ∀ q : Int32, w = q → ¬ q = 12 → ¬ w = 12 := fun q h h9 z => h9 (h.symm.trans z)
  unfold cntM
  simp only [gmNu hm, gmSt hm, gmHt hm, gmFr hm, gmRe hm, gmCu hm, gmWi hm, gmCf hm, gmBs hm, gmRs hm, gmCh hm, gmSi hm, gmBe hm, gmCt hm, h1, h2]
  by_cases c0 : w = 0
  · rw [if_pos c0, if_neg (d11 _ c0 (by decide)), if_neg (d12 _ c0 (by decide)), aboutAR, if_pos c0]
    exact many_eq hg.1
  rw [if_neg c0]
  by_cases c1 : w = 1
  · rw [if_pos c1, if_neg (d11 _ c1 (by decide)), if_neg (d12 _ c1 (by decide)), aboutAR, if_neg c0, if_pos c1]
  rw [if_neg c1]
  by_cases c2 : w = 2
  · rw [if_pos c2, if_neg (d11 _ c2 (by decide)), if_neg (d12 _ c2 (by decide)), aboutAR, if_neg c0, if_neg c1, if_pos c2]
  rw [if_neg c2]
  by_cases c3 : w = 3
  · rw [if_pos c3, if_neg (d11 _ c3 (by decide)), if_neg (d12 _ c3 (by decide)), aboutAR, if_neg c0, if_neg c1, if_neg c2, if_pos c3]
  rw [if_neg c3]
  by_cases c4 : w = 4
  · rw [if_pos c4, if_neg (d11 _ c4 (by decide)), if_neg (d12 _ c4 (by decide)), aboutAR, if_neg c0, if_neg c1, if_neg c2, if_neg c3, if_pos c4]
  rw [if_neg c4]
  by_cases c5 : w = 5
  · rw [if_pos c5, if_neg (d11 _ c5 (by decide)), if_neg (d12 _ c5 (by decide)), aboutAR, if_neg c0, if_neg c1, if_neg c2, if_neg c3, if_neg c4, if_pos c5]
    exact frsh_eq hg.1 hg.2.2.2.1 hf
  rw [if_neg c5]
  by_cases c6 : w = 6
  · rw [if_pos c6, if_neg (d11 _ c6 (by decide)), if_neg (d12 _ c6 (by decide)), aboutAR, if_neg c0, if_neg c1, if_neg c2, if_neg c3, if_neg c4, if_neg c5, if_pos c6]
    show (if ghO (dmF (sSt σ)) (sHt σ) 12 = -10005 then 0 else ghO (dmF (sSt σ)) (sHt σ) 12) = mxF (sSt σ) (sHt σ) 12
    rcases gh_eq hg.1 hg.2.1 12 with ⟨e1, e2⟩ | ⟨e1, e2⟩
    · rw [if_pos e1, e2]
    · rw [e1]
      split
      · rename_i h9
        rw [h9] at e2
        exact absurd e2 (by decide)
      · rfl
  rw [if_neg c6]
  by_cases c7 : w = 7
  · rw [if_pos c7, if_neg (d11 _ c7 (by decide)), if_neg (d12 _ c7 (by decide)), aboutAR, if_neg c0, if_neg c1, if_neg c2, if_neg c3, if_neg c4, if_neg c5, if_neg c6, if_pos c7]
    exact wAll_eq
  rw [if_neg c7]
  by_cases c8 : w = 8
  · rw [if_pos c8, if_neg (d11 _ c8 (by decide)), if_neg (d12 _ c8 (by decide)), aboutAR, if_neg c0, if_neg c1, if_neg c2, if_neg c3, if_neg c4, if_neg c5, if_neg c6, if_neg c7, if_pos c8]
  rw [if_neg c8]
  by_cases c9 : w = 9
  · rw [if_pos c9, if_neg (d11 _ c9 (by decide)), if_neg (d12 _ c9 (by decide)), aboutAR, if_neg c0, if_neg c1, if_neg c2, if_neg c3, if_neg c4, if_neg c5, if_neg c6, if_neg c7, if_neg c8, if_pos c9]
  rw [if_neg c9]
  by_cases ca : w = 10
  · rw [if_pos ca, if_neg (d11 _ ca (by decide)), if_neg (d12 _ ca (by decide)), aboutAR, if_neg c0, if_neg c1, if_neg c2, if_neg c3, if_neg c4, if_neg c5, if_neg c6, if_neg c7, if_neg c8, if_neg c9, if_pos ca]
  rw [if_neg ca]
  by_cases cb : w = 11
  · rw [if_pos cb, if_pos cb]
  rw [if_neg cb, if_neg cb]
  by_cases cd : w = 12
  · rw [if_pos cd, if_pos cd]
  rw [if_neg cd, if_neg cd, aboutAR, if_neg c0, if_neg c1, if_neg c2, if_neg c3, if_neg c4, if_neg c5, if_neg c6, if_neg c7, if_neg c8, if_neg c9, if_neg ca]
theorem kite_eq {σ : Sky} {f : F} (hg : gdS σ) (hf : frA σ f) {μ : MD} (hm : mAl μ = mdl σ f) (k w : Int32) : kiteMR μ k w = aboutKR σ k w := by
  unfold kiteMR aboutKR kiteMG aboutKG
  simp only [gmNu hm, gmSt hm, gmHt hm, gmFr hm, gmRe hm, gmCu hm, gmWi hm, gmCf hm, gmBs hm, gmRs hm, gmCh hm, gmSi hm, gmBe hm, gmCt hm]
  show (if isKm (dmF (sSt σ)) k then _ else _) = _
  by_cases hk : isK (sSt σ) k
  · rw [if_pos ((isK_m hg.1 k).mpr hk), if_pos hk]
    have hl : ¬ sSt σ k.toNatClampNeg = -1 := hk.2.2
    have hv := okSt_v hg.1 hl
    have hdm : dmF (sSt σ) k.toNatClampNeg = sSt σ k.toNatClampNeg := dm_neg hl
    have hH := hg.2.1
    have ht := ht_int hH k.toNatClampNeg
    show (if w = 0 then sNu σ k.toNatClampNeg else if w = 1 then dmF (sSt σ) k.toNatClampNeg else if w = 2 then sHt σ k.toNatClampNeg else if w = 3 then f k.toNatClampNeg else if w = 4 then sRe σ k.toNatClampNeg else if w = 5 then sCu σ k.toNatClampNeg else if w = 6 then sumN (rkF (dmF (sSt σ)) (sHt σ) (dmF (sSt σ) k.toNatClampNeg) (sHt σ k.toNatClampNeg)) 12 else if w = 7 then optI (nxU (dmF (sSt σ)) (sHt σ) (dmF (sSt σ) k.toNatClampNeg) (sHt σ k.toNatClampNeg) 12) else if w = 8 then optI (nxD (dmF (sSt σ)) (sHt σ) (dmF (sSt σ) k.toNatClampNeg) (sHt σ k.toNatClampNeg) 12) else -10002) = _
    have h3 : f k.toNatClampNeg = (if sFr σ k.toNatClampNeg = 0 then 0 else 1) := by
      rw [hf _ hl]
      rcases hg.2.2.2.1 k.toNatClampNeg with z | z
      · rw [if_pos z, z]
      · rw [z, if_neg (by decide)]
    rw [hdm, rank_dm hH hv, nxU_dm hv, nxD_dm hv, ← low_eq hH (by omega) (by omega), ← hig_eq hH (by omega) (by omega), h3]
  · rw [if_neg (fun z => hk ((isK_m hg.1 k).mp z)), if_neg hk]
theorem share_eq {σ : Sky} {f : F} (hg : gdS σ) {μ : MD} (hm : mAl μ = mdl σ f) (k : Int32) : shareM μ k = shaR (sSt σ) (sHt σ) k ∧ (isKm (gSt μ) k → ¬ weig (gSt μ) (gHt μ) (gSt μ k.toNatClampNeg) = 0) := by
  -- weights are small, and one's own is there
  have hb : ∀ (s : Int32) n, ∃ m, m ≤ 92 * n ∧ sumN (weF (sSt σ) (sHt σ) s) n = nI m ∧ ∀ j, j < n → sSt σ j = s → 1 ≤ m := by
    intro s n
    induction n with
    | zero => exact ⟨0, by omega, rfl, fun j h => absurd h (Nat.not_lt_zero _)⟩
    | succ n ih =>
      obtain ⟨m, h1, h2, h3⟩ := ih
      obtain ⟨q, hq, e9⟩ := hg.2.1 n
      by_cases hs : sSt σ n = s
      · refine ⟨m + (q + 1), by omega, ?_, fun j _ _ => by omega⟩
        rw [sumN, h2]
        unfold weF
        rw [if_pos hs, e9, nI_1, nI_add]
      · refine ⟨m, by omega, ?_, fun j hj hjs => ?_⟩
        · rw [sumN, h2]
          unfold weF
          rw [if_neg hs]
          exact Int32.add_zero _
        · by_cases e8 : j = n
          · subst e8; exact absurd hjs hs
          · exact h3 j (by omega) hjs
  unfold shareM shaR
  simp only [gmNu hm, gmSt hm, gmHt hm, gmFr hm, gmRe hm, gmCu hm, gmWi hm, gmCf hm, gmBs hm, gmRs hm, gmCh hm, gmSi hm, gmBe hm, gmCt hm]
  show (if isKm (dmF (sSt σ)) k then 1000 * (sHt σ k.toNatClampNeg + 1) / weig (dmF (sSt σ)) (sHt σ) (dmF (sSt σ) k.toNatClampNeg) else -10001) = _ ∧ (isKm (dmF (sSt σ)) k → ¬ weig (dmF (sSt σ)) (sHt σ) (dmF (sSt σ) k.toNatClampNeg) = 0)
  by_cases hk : isK (sSt σ) k
  · have hl : ¬ sSt σ k.toNatClampNeg = -1 := hk.2.2
    have hv := okSt_v hg.1 hl
    rw [if_pos ((isK_m hg.1 k).mpr hk), if_pos hk, dm_neg hl, weig_dm hv]
    obtain ⟨j, hj, ej⟩ := i32_of (n := 12) hk.1 hk.2.1 (by decide)
    have hcl : k.toNatClampNeg = j := by rw [ej]; exact nI_clamp (by omega)
    obtain ⟨m, h1, h2, h3⟩ := hb (sSt σ k.toNatClampNeg) 12
    have h4 := h3 j hj (by rw [hcl])
    have h5 : weig (sSt σ) (sHt σ) (sSt σ k.toNatClampNeg) = nI m := h2
    rw [h5]
    refine ⟨?_, fun _ => nI_ne0 (by omega) (by omega)⟩
    rw [if_pos (by rw [Int32.lt_iff_toInt_lt, i0_int, nI_toInt (by omega)]; omega), Int32.mul_comm]
  · rw [if_neg (fun z => hk ((isK_m hg.1 k).mp z)), if_neg hk]
    exact ⟨rfl, fun z => absurd ((isK_m hg.1 k).mp z) hk⟩
theorem windO_eq {σ : Sky} {f : F} {μ : MD} (hm : mAl μ = mdl σ f) (k : Int32) : windOM μ k = windAR σ k := by
  unfold windOM windAR
  simp only [gmNu hm, gmSt hm, gmHt hm, gmFr hm, gmRe hm, gmCu hm, gmWi hm, gmCf hm, gmBs hm, gmRs hm, gmCh hm, gmSi hm, gmBe hm, gmCt hm]
/-! the highest -/
theorem hig_first {st ht : F} {s : Int32} (hH : okHt ht) : ∀ n, (higF st ht s 1000000 n = (-10005, -1) ∧ ∀ k, k < n → ¬ st k = s) ∨ ∃ p, p < n ∧ st p = s ∧ higF st ht s 1000000 n = (nI p, ht p) ∧ ∀ k, k < n → st k = s → (ht k).toInt ≤ (ht p).toInt ∧ (k < p → (ht k).toInt < (ht p).toInt)
  | 0 => Or.inl ⟨rfl, fun k h => absurd h (Nat.not_lt_zero _)⟩
  | n + 1 => by
    have hk := ht_int hH n
    have c1 : ht n < 1000000 := by rw [Int32.lt_iff_toInt_lt, iMx_int]; omega
    rcases hig_first (st := st) (s := s) hH n with ⟨e1, e2⟩ | ⟨p, hp, hps, e1, e2⟩
    · rw [higF, e1]
      by_cases hs : st n = s
      · rw [if_pos ⟨hs, c1, by show (-1 : Int32) < ht n; rw [Int32.lt_iff_toInt_lt, im1_int]; omega⟩]
        refine Or.inr ⟨n, by omega, hs, rfl, fun k hk2 hks => ?_⟩
        by_cases e9 : k = n
        · subst e9; exact ⟨Int.le_refl _, fun z => absurd z (Nat.lt_irrefl _)⟩
        · exact absurd hks (e2 k (by omega))
      · rw [if_neg (fun z => hs z.1)]
        refine Or.inl ⟨rfl, fun k hk2 => ?_⟩
        by_cases e9 : k = n
        · subst e9; exact hs
        · exact e2 k (by omega)
    · rw [higF, e1]
      by_cases hs : st n = s ∧ ht p < ht n
      · rw [if_pos ⟨hs.1, c1, hs.2⟩]
        refine Or.inr ⟨n, by omega, hs.1, rfl, fun k hk2 hks => ?_⟩
        have h4 := hs.2
        rw [Int32.lt_iff_toInt_lt] at h4
        by_cases e9 : k = n
        · subst e9; exact ⟨Int.le_refl _, fun z => absurd z (Nat.lt_irrefl _)⟩
        · have := (e2 k (by omega) hks).1
          exact ⟨by omega, fun _ => by omega⟩
      · rw [if_neg (fun z => hs ⟨z.1, z.2.2⟩)]
        refine Or.inr ⟨p, by omega, hps, rfl, fun k hk2 hks => ?_⟩
        by_cases e9 : k = n
        · subst e9
          have h4 : ¬ ht p < ht k := fun z => hs ⟨hks, z⟩
          rw [Int32.lt_iff_toInt_lt] at h4
          exact ⟨by omega, fun z => by omega⟩
        · exact e2 k (by omega) hks
theorem hi_chain {st ht : F} {s : Int32} (hH : okHt ht) : ∀ n (t : Int32) (fo : Option Nat), -1 ≤ t.toInt → t.toInt ≤ 91 → mUp st ht s t ≤ n → (fo = none ∧ t = -1 ∨ ∃ p, fo = some p ∧ p < 12 ∧ st p = s ∧ ht p = t ∧ ∀ k, k < p → st k = s → ¬ (ht k).toInt = (ht p).toInt) → hoG st ht s n fo (nxU st ht s t 12) = hig st ht s 1000000 ∧ hoE st ht s n (nxU st ht s t 12) := by
  intro n
  have fin : ∀ (t : Int32) (fo : Option Nat), -1 ≤ t.toInt → t.toInt ≤ 91 → nxU st ht s t 12 = none → (fo = none ∧ t = -1 ∨ ∃ p, fo = some p ∧ p < 12 ∧ st p = s ∧ ht p = t ∧ ∀ k, k < p → st k = s → ¬ (ht k).toInt = (ht p).toInt) → optI fo = hig st ht s 1000000 := by
    intro t fo h1 h2 hq hfo
    have hn := nxU_none hH h1 h2 12 hq
    show optI fo = (higF st ht s 1000000 12).1
    rcases hig_first (st := st) (s := s) hH 12 with ⟨e1, e2⟩ | ⟨p, hp, hps, e1, e2⟩
    · rcases hfo with ⟨rfl, -⟩ | ⟨p2, rfl, hp2, hs2, -⟩
      · rw [e1]; rfl
      · exact absurd hs2 (e2 p2 hp2)
    · rw [e1]
      have h3 := hn p hp hps
      have hpi := ht_int hH p
      rcases hfo with ⟨rfl, rfl⟩ | ⟨p2, rfl, hp2, hs2, ht2, h5⟩
      · exact absurd (show (-1 : Int32).toInt < (ht p).toInt by rw [im1_int]; omega) h3
      · have h4 := e2 p2 hp2 hs2
        have h6 : (ht p2).toInt = (ht p).toInt := by rw [← ht2] at h3; omega
        have h7 : p2 = p := by
          rcases Nat.lt_trichotomy p2 p with h8 | h8 | h8
          · have := h4.2 h8; omega
          · exact h8
          · exact absurd h6.symm (h5 p h8 hps)
        rw [h7]; rfl
  induction n with
  | zero =>
    intro t fo h1 h2 hm hfo
    have hq : nxU st ht s t 12 = none := by
      cases hq : nxU st ht s t 12 with
      | none => rfl
      | some p =>
        exfalso
        obtain ⟨a1, a2, a3, -⟩ := nxU_some hH h1 h2 12 hq
        have := mUp_pos a1 a2 a3
        omega
    exact ⟨fin t fo h1 h2 hq hfo, hq⟩
  | succ n ih =>
    intro t fo h1 h2 hm hfo
    cases hq : nxU st ht s t 12 with
    | none => exact ⟨fin t fo h1 h2 hq hfo, trivial⟩
    | some p =>
      obtain ⟨a1, a2, a3, a4⟩ := nxU_some hH h1 h2 12 hq
      have hpi := ht_int hH p
      have h5 := mUp_lt (v := ht p) a1 a2 a3 (Int.le_refl _)
      rw [updI rfl] at h5
      exact ih (ht p) (some p) (by omega) (by omega) (by omega) (Or.inr ⟨p, rfl, a1, a2, rfl, fun k hk hks hne => by
        have := a4 k (by omega) hks (by omega)
        have := this.2 hk
        omega⟩)
theorem string_eq {σ : Sky} {f : F} (hg : gdS σ) {μ : MD} (hm : mAl μ = mdl σ f) (s w : Int32) : strMR μ s w = aboutSR σ s w ∧ (isS s → hHi (gSt μ) (gHt μ) s) := by
  unfold strMR aboutSR strMG aboutSG
  simp only [gmNu hm, gmSt hm, gmHt hm, gmFr hm, gmRe hm, gmCu hm, gmWi hm, gmCf hm, gmBs hm, gmRs hm, gmCh hm, gmSi hm, gmBe hm, gmCt hm]
  by_cases hS : isS s
  · have hv := isS_v hS
    have hH := hg.2.1
    have h1 := hi_chain (st := sSt σ) (s := s) hH 12 (-1) none (by decide) (by decide) mUp_12 (Or.inl ⟨rfl, rfl⟩)
    have hx : ∀ n ko, hoE (dmF (sSt σ)) (sHt σ) s n ko ↔ hoE (sSt σ) (sHt σ) s n ko := by
      intro n
      induction n with
      | zero => intro ko; exact Iff.rfl
      | succ n ih =>
        intro ko
        cases ko with
        | none => exact Iff.rfl
        | some k => rw [hoE, hoE, nxU_dm hv]; exact ih _
    have hy : ∀ n fo ko, hoG (dmF (sSt σ)) (sHt σ) s n fo ko = hoG (sSt σ) (sHt σ) s n fo ko := by
      intro n
      induction n with
      | zero => intro fo ko; rfl
      | succ n ih =>
        intro fo ko
        cases ko with
        | none => rfl
        | some k => rw [hoG, hoG, nxU_dm hv]; exact ih _ _
    rw [if_pos hS, if_pos hS]
    refine ⟨?_, fun _ => ?_⟩
    · show (if w = 0 then kitO (dmF (sSt σ)) s else if w = 1 then weig (dmF (sSt σ)) (sHt σ) s else if w = 2 then hoG (dmF (sSt σ)) (sHt σ) s 12 none (nxU (dmF (sSt σ)) (sHt σ) s (-1) 12) else if w = 3 then optI (nxU (dmF (sSt σ)) (sHt σ) s (-1) 12) else if w = 4 then nums (dmF (sSt σ)) (sNu σ) s else if w = 5 then sCf σ s.toNatClampNeg else -10002) = _
      rw [kitO_dm hH hv, weig_dm hv, hy, nxU_dm hv, nums_dm hv, h1.1, ← low_eq hH (by decide) (by decide)]
    · show hoE (dmF (sSt σ)) (sHt σ) s 12 (nxU (dmF (sSt σ)) (sHt σ) s (-1) 12)
      rw [hx, nxU_dm hv]
      exact h1.2
  · rw [if_neg hS, if_neg hS]
    exact ⟨rfl, fun z => absurd z hS⟩
