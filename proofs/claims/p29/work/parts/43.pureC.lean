/-! PURE C: acts on a sky, side by side with the model's row -/
def reL (σ : Sky) (τ : MS) : Prop := gdS σ ∧ ∃ f, frA σ f ∧ τ = mdl σ f
theorem mLands_eq {σ : Sky} {f : F} {j : Nat} {s t L : Int32} (hs : vs4 s) (hL : land (upd (dmF (sSt σ)) j (-10005)) (sHt σ) s t = L) : mLands (mdl σ f) j s t = mdl (pHt (pSt σ j s) j L) f := by
  have e1 : upd (upd (dmF (sSt σ)) j (-10005)) j s = dmF (upd (sSt σ) j s) := by rw [upd2, dm_up hs]
  show ((sNu σ, upd (upd (dmF (sSt σ)) j (-10005)) j s, upd (sHt σ) j (land (upd (dmF (sSt σ)) j (-10005)) (sHt σ) s t), f, sRe σ, sCu σ, sWi σ, sCf σ, sBs σ, sRs σ, sCh σ, sSi σ), nI (fmo8 (sBs σ)), sumN (sCf σ) 4) = mdl (pHt (pSt σ j s) j L) f
  rw [e1, hL]
  rfl
theorem pSt_id {σ : Sky} {j : Nat} {s : Int32} (h : sSt σ j = s) : pSt σ j s = σ := by
  show (sNu σ, upd (sSt σ) j s, sHt σ, sFr σ, sRe σ, sCu σ, sWi σ, sCf σ, sBs σ, sRs σ, sCh σ, sSi σ) = σ
  rw [updI h]
  rfl
theorem frA_up {σ σ2 : Sky} {f : F} {j : Nat} {x : Int32} (hf : frA σ f) (hs : ∀ k, ¬ k = j → sSt σ2 k = sSt σ k) (hF2 : sFr σ2 = upd (sFr σ) j x) : frA σ2 (upd f j x) := by
  intro k hk
  rw [hF2]
  by_cases e9 : k = j
  · subst e9; rw [pk_us, pk_us]
  · rw [pk_un e9, pk_un e9]; exact hf k (by rw [← hs k e9]; exact hk)
theorem fr01_up {f : F} {j : Nat} {x : Int32} (h : ∀ k, f k = 0 ∨ f k = 1) (hx : x = 0 ∨ x = 1) : ∀ k, upd f j x k = 0 ∨ upd f j x k = 1 := by
  intro k
  by_cases e9 : k = j
  · subst e9; rw [pk_us]; exact hx
  · rw [pk_un e9]; exact h k
theorem isN_up {f : F} {j : Nat} {x : Int32} (h : ∀ k, isN (f k)) (hx : isN x) : ∀ k, isN (upd f j x k) := by
  intro k
  by_cases e9 : k = j
  · subst e9; rw [pk_us]; exact hx
  · rw [pk_un e9]; exact h k
theorem isS_v {s : Int32} (h : isS s) : vs4 s := by
  obtain ⟨q, hq, e9⟩ := i32_of (n := 4) h.1 h.2 (by decide)
  exact ⟨q, hq, e9⟩
theorem land_0 {st ht : F} {s : Int32} : ∃ d, d ≤ 12 ∧ land st ht s 0 = nI d := by
  obtain ⟨d, h1, h2, -, -⟩ := land_spec (st := st) (ht := ht) (s := s) (m := 0) (by omega)
  rw [nI_0, Nat.zero_add] at h2
  exact ⟨d, h1, h2⟩
theorem free_0 {st ht : F} {s : Int32} : hF st ht s 0 := by
  have := land_free (st := st) (ht := ht) (s := s) (m := 0) (by omega)
  rw [nI_0] at this
  exact this
/-- which is free -/
theorem free_eq {st : F} (h : okSt st) : freeM (dmF st) = freeK st := by
  unfold freeM freeK
  congr 1
  funext k
  rw [Bool.eq_iff_iff, beq_iff_eq, beq_iff_eq]
  exact dm_none h
theorem freeK_is {st : F} (h : freeK st < 12) : st (freeK st) = -1 := by
  have := (ff_spec (fun j => st j == -1) 12 0).2.2.2 (by have h9 : ff (fun j => st j == -1) 12 0 < 12 := h; omega)
  exact beq_iff_eq.mp this
theorem launch_re {σ : Sky} {τ : MS} (h : reL σ τ) {s n : Int32} (hs : vs4 s) (hn : isN n) {k : Nat} (hk : k < 12) (ha : sSt σ k = -1) : reL (launchG σ s n k) (mFly τ s n k) := by
  obtain ⟨⟨g1, g2, g3, g4, g5, g6, g7, g8⟩, f, hf, rfl⟩ := h
  obtain ⟨d, hd, ed⟩ := land_0 (st := sSt σ) (ht := sHt σ) (s := s)
  have hL : land (upd (dmF (sSt σ)) k (-10005)) (sHt σ) s 0 = nI d := by
    rw [updI (dm_pos ha)]
    show landF (dmF (sSt σ)) (sHt σ) s 12 0 = nI d
    rw [landF_dm hs]
    exact ed
  have hl2 : land (sSt σ) (sHt σ) s 0 = nI d := ed
  refine ⟨?_, upd f k 0, ?_, ?_⟩
  · unfold launchG
    rw [hl2]
    exact ⟨okSt_up g1 hs, okHt_up g2 (by omega), okJ_low g3 hk (by omega), fr01_up g4 (Or.inl rfl), isN_up g5 hn, g6, g7, g8⟩
  · exact frA_up hf (fun i hi => pk_un hi) rfl
  · unfold mFly launchG
    rw [mLands_eq hs hL, hl2]
    rfl
theorem launch_ok {σ : Sky} {τ : MS} (h : reL σ τ) {s : Int32} {k : Nat} : hL τ k s 0 := free_0
theorem isK_m {σ : Sky} (h : okSt (sSt σ)) (k : Int32) : isKm (dmF (sSt σ)) k ↔ isK (sSt σ) k := by
  constructor
  · rintro ⟨h1, h2, h3⟩; exact ⟨h1, h2, fun z => h3 (dm_pos z)⟩
  · rintro ⟨h1, h2, h3⟩; exact ⟨h1, h2, fun z => h3 ((dm_none h).mp z)⟩
theorem remove_re {σ : Sky} {τ : MS} (h : reL σ τ) {j : Nat} : reL (pSt σ j (-1)) (vFr (vSt τ j (-10005)) j 0) := by
  obtain ⟨⟨g1, g2, g3, g4, g5, g6, g7, g8⟩, f, hf, rfl⟩ := h
  refine ⟨⟨okSt_rm g1, g2, ?_, g4, g5, g6, g7, g8⟩, upd f j 0, ?_, ?_⟩
  · refine okJ_sub g3 (fun i k h1 h2 hk h3 h4 => ?_)
    by_cases e9 : k = j
    · subst e9; exact absurd pk_us h3
    · have h5 : ¬ upd (sSt σ) j (-1) k = -1 := h3
      rw [pk_un e9] at h5
      exact ⟨h5, h4⟩
  · intro k hk
    have h5 : ¬ upd (sSt σ) j (-1) k = -1 := hk
    by_cases e9 : k = j
    · subst e9; exact absurd pk_us h5
    · rw [pk_un e9] at h5 ⊢
      exact hf k h5
  · show _ = ((sNu σ, dmF (upd (sSt σ) j (-1)), sHt σ, upd f j 0, sRe σ, sCu σ, sWi σ, sCf σ, sBs σ, sRs σ, sCh σ, sSi σ), nI (fmo8 (sBs σ)), sumN (sCf σ) 4)
    rw [dm_rm]
    rfl
theorem renum_re {σ : Sky} {τ : MS} (h : reL σ τ) {j : Nat} {n : Int32} (hn : isN n) : reL (pFr (pNu σ j n) j 1) (mWrite τ j n) := by
  obtain ⟨⟨g1, g2, g3, g4, g5, g6, g7, g8⟩, f, hf, rfl⟩ := h
  exact ⟨⟨g1, g2, g3, fr01_up g4 (Or.inr rfl), isN_up g5 hn, g6, g7, g8⟩, upd f j 1, frA_up hf (fun _ _ => rfl) rfl, rfl⟩
theorem shift_re {σ : Sky} {τ : MS} (h : reL σ τ) {j : Nat} (hj : j < 12) {s : Int32} (hs : vs4 s) (hl : ¬ sSt σ j = -1) (hne : ¬ sSt σ j = s) : reL (shiftG σ j s) (mLands τ j s (sHt τ.1 j)) ∧ sHt (mLands τ j s (sHt τ.1 j)).1 j = land (sSt σ) (sHt σ) s (sHt σ j) ∧ (∃ q, q < 92 ∧ land (sSt σ) (sHt σ) s (sHt σ j) = nI q) ∧ hL τ j s (sHt τ.1 j) := by
  obtain ⟨⟨g1, g2, g3, g4, g5, g6, g7, g8⟩, f, hf, rfl⟩ := h
  obtain ⟨q, hq, eq9, hJ⟩ := okJ_move g3 g2 hj hl hs hne
  have hne2 : ¬ dmF (sSt σ) j = s := by rw [dm_neg hl]; exact hne
  have hL9 : land (upd (dmF (sSt σ)) j (-10005)) (sHt σ) s (sHt σ j) = nI q := by
    show landF (upd (dmF (sSt σ)) j (-10005)) (sHt σ) s 12 (sHt σ j) = nI q
    rw [landF_rm (ht := sHt σ) (fun z => vs4_N hs z.symm) (fun _ _ => rfl) 12 _ (fun i _ z => hne2 z.1), landF_dm hs]
    exact eq9
  have e5 : mLands (mdl σ f) j s (sHt (mdl σ f).1 j) = mdl (pHt (pSt σ j s) j (nI q)) f := mLands_eq hs hL9
  refine ⟨⟨?_, f, ?_, ?_⟩, ?_, ⟨q, hq, eq9⟩, ?_⟩
  · unfold shiftG
    rw [show land (sSt σ) (sHt σ) s (sHt σ j) = nI q from eq9]
    exact ⟨okSt_up g1 hs, okHt_up g2 hq, hJ, g4, g5, g6, g7, g8⟩
  · intro k hk
    by_cases e9 : k = j
    · subst e9; exact hf k hl
    · have h5 : ¬ upd (sSt σ) j s k = -1 := hk
      rw [pk_un e9] at h5
      exact hf k h5
  · rw [e5]
    unfold shiftG
    rw [show land (sSt σ) (sHt σ) s (sHt σ j) = nI q from eq9]
    rfl
  · rw [e5, eq9]
    exact pk_us
  · obtain ⟨b, hb, eb⟩ := g2 j
    show hF (upd (dmF (sSt σ)) j (-10005)) (sHt σ) s (sHt σ j)
    rw [eb]
    exact land_free (by omega)
/-! rising -/
def cutG (σ : Sky) (j : Nat) : Sky := pHt (pSt (raiseC σ j) j (behi (sSt σ j))) j (land (sSt σ) (sHt σ) (behi (sSt σ j)) 0)
theorem behi_v {s : Int32} (hs : vs4 s) : vs4 (behi s) ∧ ¬ behi s = s := by
  obtain ⟨q, hq, rfl⟩ := hs
  rw [behi_nI hq]
  refine ⟨⟨(q + 1) % 4, by omega, rfl⟩, fun z => ?_⟩
  have := (nI_eq (by omega) (by omega)).mp z
  omega
theorem sumN_up {f : F} {q : Nat} {v : Int32} : ∀ n, ¬ q < n → sumN (upd f q v) n = sumN f n
  | 0, _ => rfl
  | n + 1, h => by rw [sumN, sumN, sumN_up n (by omega), pk_un (by omega)]
theorem sumN_inc {f : F} {q : Nat} : ∀ n, q < n → sumN (upd f q (f q + 1)) n = sumN f n + 1
  | 0, h => absurd h (Nat.not_lt_zero _)
  | n + 1, h => by
    rw [sumN, sumN]
    by_cases e9 : q = n
    · subst e9
      rw [sumN_up q (Nat.lt_irrefl _), pk_us, Int32.add_assoc]
    · rw [sumN_inc n (by omega), pk_un (by omega), Int32.add_assoc, Int32.add_comm 1, ← Int32.add_assoc]
theorem raiseC_eq {σ : Sky} {j q : Nat} (hq : q < 4) (hs : sSt σ j = nI q) : raiseC σ j = pCf (pCu σ j (sCu σ j + 1)) q (sCf σ q + 1) := by
  unfold raiseC ccF
  rw [hs, nI_clamp (by omega), if_pos ⟨nI_pos' (by omega), by rw [Int32.lt_iff_toInt_lt, nI_toInt (by omega)]; show (q : Int) < 4; omega⟩]
  rfl
/-- the landing of a kite that rises: itself off or not -/
theorem rise_land {st ht : F} {j b c : Nat} {s : Int32} (hb : ht j = nI b) (hb2 : b < 2 ^ 20) (hc : b < c) (hc2 : c < 2 ^ 20) {x : Int32} (hx : ¬ x = s) : land (upd st j x) ht s (nI c) = land st ht s (nI c) := by
  refine landF_rm hx (fun _ _ => rfl) 12 _ (fun i hi z => ?_)
  have h1 := z.2
  rw [hb, nI_add] at h1
  have := (nI_eq (by omega) (by omega)).mp h1
  omega
theorem rises_eq {σ : Sky} {f : F} (hg : gdS σ) {j q w : Nat} (hq : q < 4) (hs : sSt σ j = nI q) (hw : w < 10) :
    mRis1 (mdl σ f) j (nI w) = mdl (pHt σ j (risenH σ j (nI w))) f ∧ (mIsC (mdl σ f) j (nI w) ↔ sCh σ < risenH σ j (nI w)) ∧ hR (mdl σ f) j (nI w) ∧ mRises (mdl σ f) j q (nI w) = (if sCh σ < risenH σ j (nI w) then mdl (cutG σ j) f else mdl (pHt σ j (risenH σ j (nI w))) f) := by
  obtain ⟨g1, g2, g3, g4, g5, g6, g7, g8⟩ := hg
  obtain ⟨b, hb, eb⟩ := g2 j
  have hv : vs4 (nI q) := vs4_nI hq
  have hl : ¬ sSt σ j = -1 := by rw [hs]; exact vs4_1 hv
  have hdm : dmF (sSt σ) j = nI q := by rw [dm_neg hl, hs]
  have et : sHt σ j + nI w + 1 = nI (b + w + 1) := by rw [eb, nI_add, nI_1]
  have hL1 : land (upd (dmF (sSt σ)) j (-10005)) (sHt σ) (nI q) (sHt σ j + nI w + 1) = risenH σ j (nI w) := by
    show _ = land (sSt σ) (sHt σ) (sSt σ j) (sHt σ j + nI w + 1)
    rw [hs, et, rise_land eb (by omega) (by omega) (by omega) (fun z => vs4_N hv z.symm)]
    exact landF_dm hv 12 _
  have e1 : mRis1 (mdl σ f) j (nI w) = mdl (pHt σ j (risenH σ j (nI w))) f := by
    have h1 := mLands_eq (σ := σ) (f := f) (j := j) (t := sHt σ j + nI w + 1) hv hL1
    rw [pSt_id hs] at h1
    show mLands (mdl σ f) j (dmF (sSt σ) j) (sHt σ j + nI w + 1) = _
    rw [hdm]
    exact h1
  have e2 : mIsC (mdl σ f) j (nI w) ↔ sCh σ < risenH σ j (nI w) := by
    show sCh (mRis1 (mdl σ f) j (nI w)).1 < sHt (mRis1 (mdl σ f) j (nI w)).1 j ↔ _
    rw [e1]
    show sCh σ < upd (sHt σ) j (risenH σ j (nI w)) j ↔ _
    rw [pk_us]
  have hb2 := behi_v hv
  have hL2 : land (upd (dmF (sSt σ)) j (-10005)) (upd (sHt σ) j (risenH σ j (nI w))) (behi (nI q)) 0 = land (sSt σ) (sHt σ) (behi (sSt σ j)) 0 := by
    rw [hs]
    show landF (upd (dmF (sSt σ)) j (-10005)) (upd (sHt σ) j (risenH σ j (nI w))) (behi (nI q)) 12 0 = landF (sSt σ) (sHt σ) (behi (nI q)) 12 0
    rw [landF_rm (ht := sHt σ) (fun z => vs4_N hb2.1 z.symm) (fun k hk => pk_un hk) 12 _ (fun i _ z => hb2.2 (by rw [← z.1, hdm])), landF_dm hb2.1]
  have e3 : mRis2 (mdl σ f) j (nI w) = mdl (pHt (pSt σ j (behi (nI q))) j (land (sSt σ) (sHt σ) (behi (sSt σ j)) 0)) f := by
    have h1 := mLands_eq (σ := pHt σ j (risenH σ j (nI w))) (f := f) (j := j) (t := 0) hb2.1 hL2
    show mLands (mRis1 (mdl σ f) j (nI w)) j (behi (dmF (sSt σ) j)) 0 = _
    rw [e1, hdm, h1]
    show mdl (sNu σ, upd (sSt σ) j (behi (nI q)), upd (upd (sHt σ) j (risenH σ j (nI w))) j (land (sSt σ) (sHt σ) (behi (sSt σ j)) 0), sFr σ, sRe σ, sCu σ, sWi σ, sCf σ, sBs σ, sRs σ, sCh σ, sSi σ) f = _
    rw [upd2]
    rfl
  refine ⟨e1, e2, ⟨?_, ?_⟩, ?_⟩
  · show hF (upd (dmF (sSt σ)) j (-10005)) (sHt σ) (dmF (sSt σ) j) (sHt σ j + nI w + 1)
    rw [et]
    exact land_free (by omega)
  · exact free_0
  · unfold mRises
    by_cases hc : sCh σ < risenH σ j (nI w)
    · rw [if_pos (e2.mpr hc), if_pos hc, e3]
      have h7 : sumN (upd (sCf σ) q (sCf σ q + 1)) 4 = sumN (sCf σ) 4 + 1 := sumN_inc 4 hq
      unfold cutG
      rw [raiseC_eq hq hs, hs]
      show _ = ((sNu σ, dmF (upd (sSt σ) j (behi (nI q))), upd (sHt σ) j (land (sSt σ) (sHt σ) (behi (nI q)) 0), f, sRe σ, upd (sCu σ) j (sCu σ j + 1), sWi σ, upd (sCf σ) q (sCf σ q + 1), sBs σ, sRs σ, sCh σ, sSi σ), nI (fmo8 (sBs σ)), sumN (upd (sCf σ) q (sCf σ q + 1)) 4)
      rw [h7]
      rfl
    · rw [if_neg (fun z => hc (e2.mp z)), if_neg hc]
      exact e1
theorem risen_b {σ : Sky} (hg : gdS σ) {j w : Nat} (hw : w < 10) : ∃ b d, b < 92 ∧ d ≤ 12 ∧ sHt σ j = nI b ∧ risenH σ j (nI w) = nI (b + w + 1 + d) := by
  obtain ⟨b, hb, eb⟩ := hg.2.1 j
  obtain ⟨d, hd, ed, -, -⟩ := land_spec (st := sSt σ) (ht := sHt σ) (s := sSt σ j) (m := b + w + 1) (by omega)
  refine ⟨b, d, hb, hd, eb, ?_⟩
  show land (sSt σ) (sHt σ) (sSt σ j) (sHt σ j + nI w + 1) = _
  rw [eb, nI_add, nI_1]
  exact ed
theorem raise_re {σ : Sky} {τ : MS} (h : reL σ τ) {j q : Nat} (hj : j < 12) (hq : q < 4) (hs : sSt σ j = nI q) : reL (raiseG σ j) (mRead τ j q (windN σ)) ∧ hR τ j (windN σ) := by
  obtain ⟨hg, f, hf, rfl⟩ := h
  obtain ⟨w, hw, ew⟩ := hg.2.2.2.2.2.1 (fmo8 (sBs σ))
  have ew2 : windN σ = nI w := ew
  have hv : vs4 (nI q) := vs4_nI hq
  obtain ⟨e1, e2, e3, e4⟩ := rises_eq (f := f) hg hq hs hw
  rw [ew2]
  refine ⟨?_, e3⟩
  obtain ⟨b, d, hb, hd, eb, er⟩ := risen_b (j := j) hg hw
  obtain ⟨c9, hc1, hc2, ec⟩ := hg.2.2.2.2.2.2.1
  have hg9 := hg
  obtain ⟨g1, g2, g3, g4, g5, g6, g7, g8⟩ := hg
  have hb2 := behi_v hv
  unfold raiseG mRead
  rw [ew2, e4]
  by_cases hc : sCh σ < risenH σ j (nI w)
  · rw [if_pos hc, if_pos hc, raiseC_eq hq hs]
    obtain ⟨d2, hd2, ed2⟩ := land_0 (st := sSt σ) (ht := sHt σ) (s := behi (sSt σ j))
    have ed3 : land (sSt (pCf (pCu σ j (sCu σ j + 1)) q (sCf σ q + 1))) (sHt (pCf (pCu σ j (sCu σ j + 1)) q (sCf σ q + 1))) (behi (sSt σ j)) 0 = nI d2 := ed2
    rw [ed3]
    unfold cutG
    rw [ed2, raiseC_eq hq hs, hs]
    refine ⟨⟨okSt_up g1 hb2.1, okHt_up g2 (by omega), okJ_low g3 hj (by omega), fr01_up g4 (Or.inr rfl), g5, g6, g7, g8⟩, upd f j 1, ?_, rfl⟩
    intro k hk
    show upd f j 1 k = upd (sFr σ) j 1 k
    by_cases e9 : k = j
    · subst e9; rw [pk_us, pk_us]
    · have h5 : ¬ upd (sSt σ) j (behi (nI q)) k = -1 := hk
      rw [pk_un e9] at h5
      rw [pk_un e9, pk_un e9]
      exact hf k h5
  · rw [if_neg hc, if_neg hc, er]
    have h80 : b + w + 1 + d ≤ 80 := by
      rw [er, ec, Int32.lt_iff_toInt_lt, nI_toInt (by omega), nI_toInt (by omega)] at hc
      omega
    unfold raiseE
    rw [pSt_id rfl]
    refine ⟨⟨g1, okHt_up g2 (by omega), ?_, fr01_up g4 (Or.inr rfl), g5, g6, g7, g8⟩, upd f j 1, ?_, rfl⟩
    · have h9 := okJ_low (x := nI q) g3 hj h80
      rw [updI hs] at h9
      exact h9
    · exact frA_up hf (fun _ _ => rfl) rfl
theorem beat_re {σ : Sky} {τ : MS} (h : reL σ τ) (n : Nat) : reL (beatN σ n) (mBeatN τ n) ∧ hBt τ n ∧ (mBeatN τ n).2.1 = nI (fmo8 (sBs (beatN σ n))) := by
  obtain ⟨hg, f, hf, rfl⟩ := h
  obtain ⟨h1, h2, h3⟩ := beatN_eq hg hf n
  exact ⟨⟨h2, endg f n, h3, h1⟩, beatN_ok hg hf n, by rw [h1]; rfl⟩
theorem wi_up {f : F} (h : ∀ b, ∃ w, w < 10 ∧ f b = nI w) {j w : Nat} (hw : w < 10) : ∀ b, ∃ x, x < 10 ∧ upd f j (nI w) b = nI x := by
  intro b
  by_cases e9 : b = j
  · subst e9; exact ⟨w, hw, pk_us⟩
  · rw [pk_un e9]; exact h b
theorem wind_re {σ : Sky} {τ : MS} (h : reL σ τ) {j w : Nat} (hw : w < 10) : reL (pWi σ j (nI w)) (vWi τ j (nI w)) := by
  obtain ⟨⟨g1, g2, g3, g4, g5, g6, g7, g8⟩, f, hf, rfl⟩ := h
  exact ⟨⟨g1, g2, g3, g4, g5, wi_up g6 hw, g7, g8⟩, f, hf, rfl⟩
theorem cut_re {σ : Sky} {τ : MS} (h : reL σ τ) {c : Nat} (h1 : 5 ≤ c) (h2 : c ≤ 80) : reL (uCh σ (nI c)) (vCh τ (nI c)) := by
  obtain ⟨⟨g1, g2, g3, g4, g5, g6, g7, g8⟩, f, hf, rfl⟩ := h
  exact ⟨⟨g1, g2, g3, g4, g5, g6, ⟨c, h1, h2, rfl⟩, g8⟩, f, hf, rfl⟩
theorem sin_re {σ : Sky} {τ : MS} (h : reL σ τ) {c : Nat} (h2 : c ≤ 9) : reL (uSi σ (nI c)) (vSi τ (nI c)) := by
  obtain ⟨⟨g1, g2, g3, g4, g5, g6, g7, g8⟩, f, hf, rfl⟩ := h
  exact ⟨⟨g1, g2, g3, g4, g5, g6, g7, ⟨c, h2, rfl⟩⟩, f, hf, rfl⟩
