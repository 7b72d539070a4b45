/-! PURE: what every state of a run keeps -/
def dis (st ht : F) : Prop := ∀ j k, j < 12 → k < 12 → ¬ st j = -1 → st j = st k → ht j = ht k → j = k
/-- a kite that is put where no other one is -/
theorem dis_put {st ht : F} (h : dis st ht) {j : Nat} {s t : Int32} (hf : ∀ k, k < 12 → ¬ k = j → st k = s → ¬ ht k = t) : dis (upd st j s) (upd ht j t) := by
  intro a b ha hb h1 h2 h3
  by_cases ea : a = j
  · by_cases eb : b = j
    · rw [ea, eb]
    · subst ea
      rw [pk_us, pk_un eb] at h2 h3
      exact absurd h3.symm (hf b hb eb h2.symm)
  · by_cases eb : b = j
    · subst eb
      rw [pk_un ea, pk_us] at h2 h3
      exact absurd h3 (hf a ha ea h2)
    · rw [pk_un ea] at h1
      rw [pk_un ea, pk_un eb] at h2 h3
      exact h a b ha hb h1 h2 h3
theorem tk_no {st ht : F} {s t : Int32} (h : ¬ tk st ht s t = true) {k : Nat} (hk : k < 12) (hs : st k = s) : ¬ ht k = t := fun z => h (tk_iff.mpr ⟨k, hk, hs, z⟩)
theorem dis_rm {st ht : F} (h : dis st ht) {j : Nat} : dis (upd st j (-1)) ht := by
  intro a b ha hb h1 h2 h3
  by_cases ea : a = j
  · subst ea
    exact absurd pk_us h1
  · by_cases eb : b = j
    · subst eb
      rw [pk_us] at h2
      exact absurd h2 h1
    · rw [pk_un ea] at h1
      rw [pk_un ea, pk_un eb] at h2
      exact h a b ha hb h1 h2 h3
/-! the lowest above, the highest below -/
theorem low_spec {st ht : F} {s t : Int32} (hH : okHt ht) : ∀ n, (lowF st ht s t n = (-10005, 1000000) ∧ ∀ k, k < n → st k = s → ¬ t.toInt < (ht k).toInt) ∨ ∃ p, p < n ∧ st p = s ∧ t.toInt < (ht p).toInt ∧ lowF st ht s t n = (nI p, ht p) ∧ ∀ k, k < n → st k = s → t.toInt < (ht k).toInt → (ht p).toInt ≤ (ht k).toInt
  | 0 => Or.inl ⟨rfl, fun k hk => absurd hk (Nat.not_lt_zero k)⟩
  | n + 1 => by
    have hn := ht_int hH n
    rcases low_spec (st := st) (s := s) (t := t) hH n with ⟨e1, h1⟩ | ⟨p, hp, hps, hpt, e1, h1⟩
    · rw [lowF, e1]
      by_cases hc : st n = s ∧ t < ht n
      · have hc2 := Int32.lt_iff_toInt_lt.mp hc.2
        have hM : ht n < 1000000 := by
          rw [Int32.lt_iff_toInt_lt, iMx_int]
          omega
        refine Or.inr ⟨n, by omega, hc.1, hc2, if_pos ⟨hc.1, hc.2, hM⟩, fun k hk hks hkt => ?_⟩
        by_cases e9 : k = n
        · subst e9
          exact Int.le_refl _
        · exact absurd hkt (h1 k (by omega) hks)
      · refine Or.inl ⟨if_neg (fun z => hc ⟨z.1, z.2.1⟩), fun k hk hks => ?_⟩
        by_cases e9 : k = n
        · subst e9
          exact fun z => hc ⟨hks, Int32.lt_iff_toInt_lt.mpr z⟩
        · exact h1 k (by omega) hks
    · rw [lowF, e1]
      by_cases hc : st n = s ∧ t < ht n ∧ ht n < ht p
      · have hc2 := Int32.lt_iff_toInt_lt.mp hc.2.1
        have hc3 := Int32.lt_iff_toInt_lt.mp hc.2.2
        refine Or.inr ⟨n, by omega, hc.1, hc2, if_pos hc, fun k hk hks hkt => ?_⟩
        by_cases e9 : k = n
        · subst e9
          exact Int.le_refl _
        · have := h1 k (by omega) hks hkt
          omega
      · refine Or.inr ⟨p, by omega, hps, hpt, if_neg hc, fun k hk hks hkt => ?_⟩
        by_cases e9 : k = n
        · subst e9
          have : ¬ (ht k).toInt < (ht p).toInt := fun z => hc ⟨hks, Int32.lt_iff_toInt_lt.mpr hkt, Int32.lt_iff_toInt_lt.mpr z⟩
          omega
        · exact h1 k (by omega) hks hkt
theorem hig_spec {st ht : F} {s t : Int32} (hH : okHt ht) : ∀ n, (higF st ht s t n = (-10005, -1) ∧ ∀ k, k < n → st k = s → ¬ (ht k).toInt < t.toInt) ∨ ∃ p, p < n ∧ st p = s ∧ (ht p).toInt < t.toInt ∧ higF st ht s t n = (nI p, ht p) ∧ ∀ k, k < n → st k = s → (ht k).toInt < t.toInt → (ht k).toInt ≤ (ht p).toInt
  | 0 => Or.inl ⟨rfl, fun k hk => absurd hk (Nat.not_lt_zero k)⟩
  | n + 1 => by
    have hn := ht_int hH n
    rcases hig_spec (st := st) (s := s) (t := t) hH n with ⟨e1, h1⟩ | ⟨p, hp, hps, hpt, e1, h1⟩
    · rw [higF, e1]
      by_cases hc : st n = s ∧ ht n < t
      · have hc2 := Int32.lt_iff_toInt_lt.mp hc.2
        have hM : -1 < ht n := by
          rw [Int32.lt_iff_toInt_lt, im1_int]
          omega
        refine Or.inr ⟨n, by omega, hc.1, hc2, if_pos ⟨hc.1, hc.2, hM⟩, fun k hk hks hkt => ?_⟩
        by_cases e9 : k = n
        · subst e9
          exact Int.le_refl _
        · exact absurd hkt (h1 k (by omega) hks)
      · refine Or.inl ⟨if_neg (fun z => hc ⟨z.1, z.2.1⟩), fun k hk hks => ?_⟩
        by_cases e9 : k = n
        · subst e9
          exact fun z => hc ⟨hks, Int32.lt_iff_toInt_lt.mpr z⟩
        · exact h1 k (by omega) hks
    · rw [higF, e1]
      by_cases hc : st n = s ∧ ht n < t ∧ ht p < ht n
      · have hc2 := Int32.lt_iff_toInt_lt.mp hc.2.1
        have hc3 := Int32.lt_iff_toInt_lt.mp hc.2.2
        refine Or.inr ⟨n, by omega, hc.1, hc2, if_pos hc, fun k hk hks hkt => ?_⟩
        by_cases e9 : k = n
        · subst e9
          exact Int.le_refl _
        · have := h1 k (by omega) hks hkt
          omega
      · refine Or.inr ⟨p, by omega, hps, hpt, if_neg hc, fun k hk hks hkt => ?_⟩
        by_cases e9 : k = n
        · subst e9
          have : ¬ (ht p).toInt < (ht k).toInt := fun z => hc ⟨hks, Int32.lt_iff_toInt_lt.mpr hkt, Int32.lt_iff_toInt_lt.mpr z⟩
          omega
        · exact h1 k (by omega) hks hkt
/-! sinking keeps kites apart -/
theorem max_int {x y : Int32} : (maxI x y).toInt = max x.toInt y.toInt := by
  unfold maxI
  by_cases h : x < y
  · rw [if_pos h]
    rw [Int32.lt_iff_toInt_lt] at h
    omega
  · rw [if_neg h]
    rw [Int32.lt_iff_toInt_lt] at h
    omega
theorem sinkF_dis {s : Int32} (hs : ¬ s = -1) : ∀ n (fl pa : Int32) (σ : Sky), okHt (sHt σ) → (∃ c, c ≤ 9 ∧ sSi σ = nI c) → 0 ≤ fl.toInt → fl.toInt ≤ pa.toInt + 1 → pa.toInt ≤ 91 → (∀ k, k < 12 → sSt σ k = s → pa.toInt < (sHt σ k).toInt ∨ (sHt σ k).toInt < fl.toInt) → dis (sSt σ) (sHt σ) → dis (sSt (sinkF s n fl pa σ)) (sHt (sinkF s n fl pa σ))
  | 0, _, _, _, _, _, _, _, _, _, hd => hd
  | n + 1, fl, pa, σ, hH, hsi, h0, h1, h2, h3, hd => by
    rw [sinkF]
    rcases low_spec (st := sSt σ) (s := s) (t := pa) hH 12 with ⟨e1, -⟩ | ⟨p, hp, hps, hpt, e1, hmin⟩
    · have e2 : low (sSt σ) (sHt σ) s pa = -10005 := congrArg Prod.fst e1
      rw [e2, if_neg (fun z => absurd z.1 (by decide))]
      exact hd
    · have e2 : low (sSt σ) (sHt σ) s pa = nI p := congrArg Prod.fst e1
      have hK : isK (sSt σ) (nI p) := ⟨nI_pos' (by omega), nI_lt (b := 12) hp (by omega), by rw [nI_clamp (by omega), hps]; exact hs⟩
      rw [e2, if_pos hK, nI_clamp (by omega)]
      obtain ⟨c, hc, ec⟩ := hsi
      have hpi := ht_int hH p
      have hsub : (sHt σ p - sSi σ).toInt = (sHt σ p).toInt - c := by
        rw [sub_int (by omega) (by rw [ec, nI_toInt (by omega)]; omega), ec, nI_toInt (by omega)]
      -- the new height
      have key : ∃ v : Int32, sHt (sinkO σ p fl) = upd (sHt σ) p v ∧ fl.toInt ≤ v.toInt ∧ v.toInt ≤ (sHt σ p).toInt ∧ ∃ q, q < 92 ∧ v = nI q := by
        unfold sinkO
        by_cases hf : sFr σ p = 0
        · rw [if_pos hf]
          have hm := max_int (x := fl) (y := sHt σ p - sSi σ)
          refine ⟨maxI fl (sHt σ p - sSi σ), rfl, by omega, by omega, ?_⟩
          obtain ⟨q, hq, e9⟩ := i32_in (x := maxI fl (sHt σ p - sSi σ)) (n := 91) (by omega) (by omega) (by omega)
          exact ⟨q, by omega, e9⟩
        · rw [if_neg hf]
          exact ⟨sHt σ p, (updI rfl).symm, by omega, Int.le_refl _, hH p⟩
      obtain ⟨v, ev, v1, v2, q, hq, eq⟩ := key
      have hH2 : okHt (sHt (sinkO σ p fl)) := by
        rw [ev, eq]
        exact okHt_up hH hq
      have hvp : sHt (sinkO σ p fl) p = v := by rw [ev, pk_us]
      have hv1 : (v + 1).toInt = v.toInt + 1 := by
        rw [add_int (by omega) (by rw [i1_int]; omega), i1_int]
      have hapart : ∀ k, k < 12 → ¬ k = p → sSt σ k = s → (sHt σ p).toInt < (sHt σ k).toInt ∨ (sHt σ k).toInt < fl.toInt := by
        intro k hk hne hks
        rcases h3 k hk hks with z | z
        · have hle := hmin k hk hks z
          have hne2 : ¬ (sHt σ k).toInt = (sHt σ p).toInt := fun y => hne (hd k p hk hp (by rw [hks]; exact hs) (by rw [hks, hps]) (Int32.toInt_inj.mp y))
          exact Or.inl (by omega)
        · exact Or.inr z
      refine sinkF_dis hs n _ _ _ hH2 ?_ ?_ ?_ ?_ ?_ ?_
      · exact ⟨c, hc, by unfold sinkO; split <;> exact ec⟩
      · rw [hvp, hv1]; omega
      · rw [hvp, hv1]; omega
      · omega
      · intro k hk hks
        rw [sinkO_St] at hks
        rw [hvp, hv1, ev]
        by_cases e9 : k = p
        · subst e9
          rw [pk_us]
          exact Or.inr (by omega)
        · rw [pk_un e9]
          rcases hapart k hk e9 hks with z | z
          · exact Or.inl z
          · exact Or.inr (by omega)
      · rw [sinkO_St, ev]
        have h9 := dis_put (s := sSt σ p) (t := v) hd (j := p) (fun k hk hne hks z => by
          rw [hps] at hks
          have hz : (sHt σ k).toInt = v.toInt := by rw [z]
          rcases hapart k hk hne hks with y | y <;> omega)
        rw [updI rfl] at h9
        exact h9
theorem sinkN_dis {σ : Sky} (hg : gdS σ) (hd : dis (sSt σ) (sHt σ)) : ∀ n, n ≤ 4 → dis (sSt (sinkN σ n)) (sHt (sinkN σ n))
  | 0, _ => hd
  | n + 1, h => by
    obtain ⟨-, k2, -, -⟩ := sinkN_eq hg (gdS_fr hg) n (by omega)
    refine sinkF_dis (vs4_1 (vs4_nI (n := n) (by omega))) 12 0 (-1) _ k2.2.1 k2.2.2.2.2.2.2.2 (by decide) (by decide) (by decide) (fun k _ _ => Or.inl ?_) (sinkN_dis hg hd n (by omega))
    have := ht_int k2.2.1 k
    rw [im1_int]
    omega
theorem endN_Ht {σ : Sky} : ∀ n, sHt (endN σ n) = sHt σ
  | 0 => rfl
  | n + 1 => endN_Ht n
theorem endN_all {X : Sky} : ∀ i, sRe (endN X i) = sRe X ∧ sCu (endN X i) = sCu X ∧ sRs (endN X i) = sRs X ∧ sCf (endN X i) = sCf X ∧ sBs (endN X i) = sBs X
  | 0 => ⟨rfl, rfl, rfl, rfl, rfl⟩
  | i + 1 => endN_all i
theorem b1_St {X : Sky} : sSt (beat1 X) = sSt (sinkN X 4) := by
  unfold beat1
  rw [qSt_Bs]
  exact endN_St 12
theorem b1_Ht {X : Sky} : sHt (beat1 X) = sHt (sinkN X 4) := by
  unfold beat1
  rw [qHt_Bs]
  exact endN_Ht 12
theorem b1_all {X : Sky} (hg : gdS X) : sRe (beat1 X) = sRe X ∧ sCu (beat1 X) = sCu X ∧ sRs (beat1 X) = sRs X ∧ sCf (beat1 X) = sCf X ∧ sBs (beat1 X) = sBs X + 1 := by
  obtain ⟨g, e1, -⟩ := sinkN_w hg 4 (Nat.le_refl _)
  have h := endN_all (X := sinkN X 4) 12
  unfold beat1 endF
  generalize endN (sinkN X 4) 12 = Y at h ⊢
  rw [e1] at h
  exact ⟨h.1, h.2.1, h.2.2.1, h.2.2.2.1, by show sBs Y + 1 = _; rw [h.2.2.2.2]; rfl⟩
theorem beatN_dis {σ : Sky} (hg : gdS σ) (hd : dis (sSt σ) (sHt σ)) : ∀ n, dis (sSt (beatN σ n)) (sHt (beatN σ n))
  | 0 => hd
  | n + 1 => by
    have h9 := sinkN_dis (beatN_eq hg (gdS_fr hg) n).2.1 (beatN_dis hg hd n) 4 (Nat.le_refl _)
    rw [beatN, b1_St, b1_Ht]
    exact h9
/-! what is counted -/
def ctr (n : Nat) (σ : Sky) : Prop := (∀ k, ∃ r c, r ≤ n ∧ c ≤ r ∧ sRe σ k = nI r ∧ sCu σ k = nI c) ∧ (∃ (r : Nat) (c : Nat → Nat), r ≤ n ∧ sRs σ = nI r ∧ (∀ q, q < 4 → sCf σ q = nI (c q)) ∧ c 0 + c 1 + c 2 + c 3 ≤ r) ∧ ∃ b, b ≤ 20 * n ∧ sBs σ = nI b
theorem ctr_mono {n m : Nat} (hnm : n ≤ m) {σ : Sky} (h : ctr n σ) : ctr m σ := by
  obtain ⟨h1, ⟨r, c, h2, h3⟩, b, h4, h5⟩ := h
  refine ⟨fun k => ?_, ⟨r, c, by omega, h3⟩, b, by omega, h5⟩
  obtain ⟨r, c, a1, a2⟩ := h1 k
  exact ⟨r, c, by omega, a2⟩
/-- a state that a run of n acts may come to -/
def gd (n : Nat) (σ : Sky) : Prop := gdS σ ∧ dis (sSt σ) (sHt σ) ∧ ctr n σ
theorem reL_of {σ : Sky} (hg : gdS σ) : reL σ (mdl σ (sFr σ)) := ⟨hg, sFr σ, fun _ _ => rfl, rfl⟩
theorem gd_launch {n : Nat} {σ : Sky} (h : gd n σ) {s v : Int32} (hs : vs4 s) (hv : isN v) {k : Nat} (hk : k < 12) (ha : sSt σ k = -1) : gd (n + 1) (launchG σ s v k) := by
  obtain ⟨hg, hd, hc⟩ := h
  refine ⟨(launch_re (reL_of hg) hs hv hk ha).1, ?_, ?_⟩
  · refine dis_put hd (fun j hj _ hjs => tk_no ?_ hj hjs)
    exact free_0
  · obtain ⟨h1, h2⟩ := ctr_mono (Nat.le_succ n) hc
    refine ⟨fun j => ?_, h2⟩
    by_cases e9 : j = k
    · subst e9
      exact ⟨0, 0, Nat.zero_le _, Nat.le_refl _, pk_us, pk_us⟩
    · obtain ⟨r, c, a1, a2, a3, a4⟩ := h1 j
      exact ⟨r, c, a1, a2, (pk_un e9).trans a3, (pk_un e9).trans a4⟩
theorem gd_remove {n : Nat} {σ : Sky} (h : gd n σ) {j : Nat} : gd (n + 1) (pSt σ j (-1)) := ⟨(remove_re (reL_of h.1)).1, dis_rm h.2.1, ctr_mono (Nat.le_succ n) h.2.2⟩
theorem gd_renum {n : Nat} {σ : Sky} (h : gd n σ) {j : Nat} {v : Int32} (hv : isN v) : gd (n + 1) (pFr (pNu σ j v) j 1) := ⟨(renum_re (reL_of h.1) hv).1, h.2.1, ctr_mono (Nat.le_succ n) h.2.2⟩
theorem gd_shift {n : Nat} {σ : Sky} (h : gd n σ) {j : Nat} (hj : j < 12) {s : Int32} (hs : vs4 s) (hl : ¬ sSt σ j = -1) (hne : ¬ sSt σ j = s) : gd (n + 1) (shiftG σ j s) := by
  obtain ⟨hg, hd, hc⟩ := h
  refine ⟨(shift_re (reL_of hg) hj hs hl hne).1.1, ?_, ctr_mono (Nat.le_succ n) hc⟩
  refine dis_put hd (fun k hk _ hks => tk_no ?_ hk hks)
  obtain ⟨b, hb, e9⟩ := hg.2.1 j
  rw [e9]
  exact land_free (by omega)
theorem risen_free {σ : Sky} (hg : gdS σ) {j : Nat} : ¬ tk (sSt σ) (sHt σ) (sSt σ j) (risenH σ j (windN σ)) = true := by
  obtain ⟨b, hb, e1⟩ := hg.2.1 j
  obtain ⟨w, hw, e2⟩ := hg.2.2.2.2.2.1 (fmo8 (sBs σ))
  show ¬ tk (sSt σ) (sHt σ) (sSt σ j) (land (sSt σ) (sHt σ) (sSt σ j) (sHt σ j + windN σ + 1)) = true
  rw [e1, show windN σ = nI w from e2, nI_add, nI_1]
  exact land_free (by omega)
theorem gd_raise {n : Nat} {σ : Sky} (h : gd n σ) {j q : Nat} (hj : j < 12) (hq : q < 4) (hs : sSt σ j = nI q) : gd (n + 1) (raiseG σ j) := by
  obtain ⟨hg, hd, hc⟩ := h
  refine ⟨(raise_re (reL_of hg) hj hq hs).1.1, ?_, ?_⟩
  · unfold raiseG
    split
    · refine dis_put (st := sSt (raiseC σ j)) (ht := sHt (raiseC σ j)) ?_ (fun k hk _ hks => tk_no free_0 hk hks)
      rw [raiseC_St.1, raiseC_St.2]
      exact hd
    · exact dis_put hd (fun k hk _ hks => tk_no (risen_free hg) hk hks)
  · obtain ⟨h1, ⟨r, c, h2, h3, h4, h5⟩, h6⟩ := hc
    obtain ⟨r1, c1, a1, a2, a3, a4⟩ := h1 j
    have hre : ∀ k, ∃ r c, r ≤ n + 1 ∧ c ≤ r ∧ upd (sRe σ) j (sRe σ j + 1) k = nI r ∧ sCu σ k = nI c := by
      intro k
      by_cases e9 : k = j
      · subst e9
        exact ⟨r1 + 1, c1, by omega, by omega, by rw [pk_us, a3, nI_1], a4⟩
      · obtain ⟨r2, c2, b1, b2, b3, b4⟩ := h1 k
        exact ⟨r2, c2, by omega, b2, (pk_un e9).trans b3, b4⟩
    obtain ⟨b, b1, b2⟩ := h6
    unfold raiseG
    split
    · rw [raiseC_eq hq hs]
      refine ⟨fun k => ?_, ⟨r + 1, fun i => if i = q then c i + 1 else c i, by omega, ?_, fun i hi => ?_, ?_⟩, b, by omega, b2⟩
      · show ∃ r c, r ≤ n + 1 ∧ c ≤ r ∧ upd (sRe σ) j (sRe σ j + 1) k = nI r ∧ upd (sCu σ) j (sCu σ j + 1) k = nI c
        by_cases e9 : k = j
        · subst e9
          exact ⟨r1 + 1, c1 + 1, by omega, by omega, by rw [pk_us, a3, nI_1], by rw [pk_us, a4, nI_1]⟩
        · obtain ⟨r2, c2, b1, b2, b3, b4⟩ := h1 k
          exact ⟨r2, c2, by omega, b2, (pk_un e9).trans b3, (pk_un e9).trans b4⟩
      · show sRs σ + 1 = _
        rw [h3, nI_1]
      · show upd (sCf σ) q (sCf σ q + 1) i = nI (if i = q then c i + 1 else c i)
        by_cases e9 : i = q
        · subst e9
          rw [pk_us, if_pos rfl, h4 i hi, nI_1]
        · rw [pk_un e9, if_neg e9, h4 i hi]
      · rcases q4 hq with rfl | rfl | rfl | rfl <;> simp <;> omega
    · exact ⟨hre, ⟨r + 1, c, by omega, by show sRs σ + 1 = _; rw [h3, nI_1], h4, by omega⟩, b, by omega, b2⟩
theorem sinkN_c {σ : Sky} (hg : gdS σ) {n : Nat} (hc : ctr n σ) : ctr n (sinkN σ 4) := by
  obtain ⟨g, e1, -⟩ := sinkN_w hg 4 (Nat.le_refl _)
  rw [e1]
  exact hc
theorem endN_c {n : Nat} {σ : Sky} (hc : ctr n σ) : ∀ m, ctr n (endN σ m)
  | 0 => hc
  | m + 1 => endN_c hc m
theorem beatN_c {σ : Sky} (hg : gdS σ) {n : Nat} (hc : ctr n σ) : ∀ m, (∀ k, ∃ r c, r ≤ n ∧ c ≤ r ∧ sRe (beatN σ m) k = nI r ∧ sCu (beatN σ m) k = nI c) ∧ (∃ (r : Nat) (c : Nat → Nat), r ≤ n ∧ sRs (beatN σ m) = nI r ∧ (∀ q, q < 4 → sCf (beatN σ m) q = nI (c q)) ∧ c 0 + c 1 + c 2 + c 3 ≤ r) ∧ ∃ b, b ≤ 20 * n + m ∧ sBs (beatN σ m) = nI b
  | 0 => hc
  | m + 1 => by
    obtain ⟨h1, h2, b, h3, h4⟩ := beatN_c hg hc m
    obtain ⟨c1, c2, c3, c4, c5⟩ := b1_all (beatN_eq hg (gdS_fr hg) m).2.1
    rw [beatN, c1, c2, c3, c4, c5, h4]
    exact ⟨h1, h2, b + 1, by omega, nI_1 b⟩
theorem gd_beat {n : Nat} {σ : Sky} (h : gd n σ) {m : Nat} (hm : m ≤ 20) : gd (n + 1) (beatN σ m) := by
  obtain ⟨hg, hd, hc⟩ := h
  refine ⟨(beatN_eq hg (gdS_fr hg) m).2.1, beatN_dis hg hd m, ?_⟩
  obtain ⟨h1, ⟨r, c, h2, h3⟩, b, h4, h5⟩ := beatN_c hg hc m
  refine ⟨fun k => ?_, ⟨r, c, by omega, h3⟩, b, by omega, h5⟩
  obtain ⟨r, c, a1, a2⟩ := h1 k
  exact ⟨r, c, by omega, a2⟩
theorem gd_wind {n : Nat} {σ : Sky} (h : gd n σ) {j w : Nat} (hw : w < 10) : gd (n + 1) (pWi σ j (nI w)) := ⟨(wind_re (reL_of h.1) hw).1, h.2.1, ctr_mono (Nat.le_succ n) h.2.2⟩
theorem gd_cut {n : Nat} {σ : Sky} (h : gd n σ) {c : Nat} (h1 : 5 ≤ c) (h2 : c ≤ 80) : gd (n + 1) (uCh σ (nI c)) := ⟨(cut_re (reL_of h.1) h1 h2).1, h.2.1, ctr_mono (Nat.le_succ n) h.2.2⟩
theorem gd_sin {n : Nat} {σ : Sky} (h : gd n σ) {c : Nat} (h2 : c ≤ 9) : gd (n + 1) (uSi σ (nI c)) := ⟨(sin_re (reL_of h.1) h2).1, h.2.1, ctr_mono (Nat.le_succ n) h.2.2⟩
theorem gd_mono {n m : Nat} (h : n ≤ m) {σ : Sky} (hg : gd n σ) : gd m σ := ⟨hg.1, hg.2.1, ctr_mono h hg.2.2⟩
