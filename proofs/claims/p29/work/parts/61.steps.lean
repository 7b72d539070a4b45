/-! PURE: the law's steps, each on both objects -/
theorem up_n (v : Int32) {n : Nat} (h0 : 0 < n) (hn : n < 2 ^ 31) : ∃ j, j < n ∧ upV v (nI n) = nI j := by
  obtain ⟨m, hm, e⟩ := pk_andE v (m := 2147483647) 31 (by decide)
  refine ⟨m % n, Nat.mod_lt _ h0, ?_⟩
  unfold upV
  rw [e, pk_rem hm h0 hn]
theorem isN_up9 {j : Nat} (h : j < 1999) : isN (nI j - 999) := by
  have e : (nI j - 999).toInt = (j : Int) - 999 := by
    rw [sub_int (by rw [nI_toInt (by omega)]; omega) (by rw [i999_int]; omega), nI_toInt (by omega), i999_int]
  refine ⟨?_, ?_⟩
  · rw [Int32.le_iff_toInt_le, e, show (-999 : Int32).toInt = -999 from by decide]
    omega
  · rw [Int32.le_iff_toInt_le, e, i999_int]
    omega
theorem isN_neg {v : Int32} (h : isN v) : isN (-v) := by
  have h1 := Int32.le_iff_toInt_le.mp h.1
  have h2 := Int32.le_iff_toInt_le.mp h.2
  rw [show (-999 : Int32).toInt = -999 from by decide] at h1
  rw [i999_int] at h2
  refine ⟨?_, ?_⟩
  · rw [Int32.le_iff_toInt_le, neg_int (x := v) (by omega), show (-999 : Int32).toInt = -999 from by decide]
    omega
  · rw [Int32.le_iff_toInt_le, neg_int (x := v) (by omega), i999_int]
    omega
theorem nN_E {v : Int32} (h : isN v) : ¬ isErr v := fun z => by
  have h1 := Int32.le_iff_toInt_le.mp z.1
  have h2 := Int32.le_iff_toInt_le.mp h.1
  rw [show (-10001 : Int32).toInt = -10001 from by decide] at h1
  rw [show (-999 : Int32).toInt = -999 from by decide] at h2
  omega
theorem nN_U {v : Int32} (h : isN v) : ¬ v = -10001 := fun z => nN_E h (by rw [z]; decide)
theorem nI_E {k : Nat} (h : k < 2 ^ 31) : ¬ isErr (nI k) := fun z => by
  have h1 := Int32.le_iff_toInt_le.mp z.1
  rw [show (-10001 : Int32).toInt = -10001 from by decide, nI_toInt h] at h1
  omega
theorem len5 {a b c d e : List Int32} (ha : a.length ≤ 1) (hb : b.length ≤ 1) (hc : c.length ≤ 1) (hd : d.length ≤ 1) (he : e.length ≤ 1) : (a ++ (b ++ (c ++ (d ++ e)))).length ≤ 5 := by
  simp only [List.length_append]
  omega
theorem nuL_len (v : Int32) : (nuL v).length ≤ 5 := by
  unfold nuL
  refine len5 (Nat.le_refl 1) ?_ ?_ ?_ (Nat.le_refl 1)
  · split
    · exact Nat.le_refl 1
    · exact Nat.zero_le 1
  · split
    · exact Nat.zero_le 1
    · exact Nat.le_refl 1
  · split
    · exact Nat.zero_le 1
    · exact Nat.le_refl 1
theorem tx1_len {l : List Int32} (h : l.length ≤ 5) (v : Int32) : (l ++ nuL v).length ≤ 10 := by
  have := nuL_len v
  rw [List.length_append]
  omega
theorem tx2_len {l : List Int32} (h : l.length ≤ 5) (v w : Int32) : ((l ++ nuL v) ++ nuL w).length ≤ 15 := by
  have h1 := nuL_len v
  have h2 := nuL_len w
  rw [List.length_append, List.length_append]
  omega
theorem act_x {κ : KSt} {X : Int32 × Sky} {r : Int32} {σ : Sky} (hH : okH κ) (e : X = (r, σ)) : ∃ κ1, kAct κ X = (r, κ1) ∧ okH κ1 ∧ kjn κ1 = kjn κ ∧ kjS κ1 = σ := by
  subst e
  exact ⟨_, rfl, rec_H hH, rec_n, rec_S⟩
theorem ca0 {σ : Sky} {a b : Int32} : carryR σ 0 a b = launchR σ a b := by
  unfold carryR
  rw [if_pos rfl]
theorem ca1 {σ : Sky} {a b : Int32} : carryR σ 1 a b = raiseR σ a := by
  unfold carryR
  rw [if_neg (by decide), if_pos rfl]
theorem ca2 {σ : Sky} {a b : Int32} : carryR σ 2 a b = renumR σ a b := by
  unfold carryR
  rw [if_neg (by decide), if_neg (by decide), if_pos rfl]
theorem ca3 {σ : Sky} {a b : Int32} : carryR σ 3 a b = beatR σ a := by
  unfold carryR
  rw [if_neg (by decide), if_neg (by decide), if_neg (by decide), if_pos rfl]
theorem ca4 {σ : Sky} {a b : Int32} : carryR σ 4 a b = windR σ a b := by
  unfold carryR
  rw [if_neg (by decide), if_neg (by decide), if_neg (by decide), if_neg (by decide), if_pos rfl]
theorem hx2 {σ : Sky} {v a b : Int32} {X : Int32 × Sky} (h1 : ¬ v = 1) (h3 : ¬ v = 3) (e : carryR σ v a b = X) : ∀ b2, (v = 1 ∨ v = 3 ∨ b2 = b) → carryR σ v a b2 = X := fun b2 z => by
  rcases z with z | z | z
  · exact absurd z h1
  · exact absurd z h3
  · rw [z]
    exact e
theorem cn1 {κ : KSt} : kCnt κ 1 = nI (fmo8 (sBs (kjS κ))) := by
  unfold kCnt aboutAR
  rw [if_neg (by decide), if_neg (by decide), if_neg (by decide), if_pos rfl]
theorem cn2 {κ : KSt} : kCnt κ 2 = windN (kjS κ) := by
  unfold kCnt aboutAR
  rw [if_neg (by decide), if_neg (by decide), if_neg (by decide), if_neg (by decide), if_pos rfl]
theorem cn3 {κ : KSt} : kCnt κ 3 = sRs (kjS κ) := by
  unfold kCnt aboutAR
  rw [if_neg (by decide), if_neg (by decide), if_neg (by decide), if_neg (by decide), if_neg (by decide), if_pos rfl]
theorem cn4 {κ : KSt} : kCnt κ 4 = sumN (sCf (kjS κ)) 4 := by
  unfold kCnt aboutAR
  rw [if_neg (by decide), if_neg (by decide), if_neg (by decide), if_neg (by decide), if_neg (by decide), if_neg (by decide), if_pos rfl]
theorem cn5 {κ : KSt} : kCnt κ 5 = frsh (sSt (kjS κ)) (sFr (kjS κ)) := by
  unfold kCnt aboutAR
  rw [if_neg (by decide), if_neg (by decide), if_neg (by decide), if_neg (by decide), if_neg (by decide), if_neg (by decide), if_neg (by decide), if_pos rfl]
theorem cn6 {κ : KSt} : kCnt κ 6 = mxF (sSt (kjS κ)) (sHt (kjS κ)) 12 := by
  unfold kCnt aboutAR
  rw [if_neg (by decide), if_neg (by decide), if_neg (by decide), if_neg (by decide), if_neg (by decide), if_neg (by decide), if_neg (by decide), if_neg (by decide), if_pos rfl]
theorem cn7 {κ : KSt} : kCnt κ 7 = sumN (wAllF (kjS κ)) 4 := by
  unfold kCnt aboutAR
  rw [if_neg (by decide), if_neg (by decide), if_neg (by decide), if_neg (by decide), if_neg (by decide), if_neg (by decide), if_neg (by decide), if_neg (by decide), if_neg (by decide), if_pos rfl]
theorem cn8 {κ : KSt} : kCnt κ 8 = sCh (kjS κ) := by
  unfold kCnt aboutAR
  rw [if_neg (by decide), if_neg (by decide), if_neg (by decide), if_neg (by decide), if_neg (by decide), if_neg (by decide), if_neg (by decide), if_neg (by decide), if_neg (by decide), if_neg (by decide), if_pos rfl]
theorem cn9 {κ : KSt} : kCnt κ 9 = sSi (kjS κ) := by
  unfold kCnt aboutAR
  rw [if_neg (by decide), if_neg (by decide), if_neg (by decide), if_neg (by decide), if_neg (by decide), if_neg (by decide), if_neg (by decide), if_neg (by decide), if_neg (by decide), if_neg (by decide), if_neg (by decide), if_pos rfl]
theorem cn10 {κ : KSt} : kCnt κ 10 = sBs (kjS κ) := by
  unfold kCnt aboutAR
  rw [if_neg (by decide), if_neg (by decide), if_neg (by decide), if_neg (by decide), if_neg (by decide), if_neg (by decide), if_neg (by decide), if_neg (by decide), if_neg (by decide), if_neg (by decide), if_neg (by decide), if_neg (by decide), if_pos rfl]
/-! fly -/
theorem launch_y {σ : Sky} {s v : Int32} (hs : vs4 s) (hv : isN v) (hf : freeK (sSt σ) < 12) : launchR σ s v = (nI (freeK (sSt σ)), launchG σ s v (freeK (sSt σ))) := by
  unfold launchR
  rw [if_pos (isS_of hs), if_pos hv, if_pos hf]
theorem launch_n {σ : Sky} {s v : Int32} (hs : vs4 s) (hv : isN v) (hf : ¬ freeK (sSt σ) < 12) : launchR σ s v = (-10003, σ) := by
  unfold launchR
  rw [if_pos (isS_of hs), if_pos hv, if_neg hf]
theorem la_St {σ : Sky} {s v : Int32} {k : Nat} : sSt (launchG σ s v k) k = s := pk_us
theorem la_Nu {σ : Sky} {s v : Int32} {k : Nat} : sNu (launchG σ s v k) k = v := pk_us
theorem la_Re {σ : Sky} {s v : Int32} {k : Nat} : sRe (launchG σ s v k) k = 0 := pk_us
theorem la_All {σ : Sky} {s v : Int32} {k : Nat} : sSt (launchG σ s v k) = upd (sSt σ) k s := rfl
theorem st_fly {n : Nat} {κ τ : KSt} (h : Iv n κ τ) {q : Nat} (hq : q < 4) {v : Int32} (hv : isN v) (hf : freeK (sSt (kjS κ)) < 12) : ∃ k κ1 τ1, kAct κ (launchR (kjS κ) (nI q) v) = (nI k, κ1) ∧ kPrf (txA τ (([102, 108, 121] ++ nuL (thr (nI q))) ++ nuL (-v))) = (1, τ1) ∧ Iv (n + 1) κ1 τ1 ∧ aboutKR (kjS κ1) (nI k) 0 = v ∧ aboutKR (kjS κ1) (nI k) 1 = nI q ∧ aboutKR (kjS κ1) (nI k) 4 = 0 ∧ kCnt κ1 0 = kCnt κ 0 + 1 ∧ ¬ kCnt κ 0 = 12 := by
  have hg := (iv_gd h).1
  have hs : vs4 (nI q) := ⟨q, hq, rfl⟩
  have ha : sSt (kjS κ) (freeK (sSt (kjS κ))) = -1 := freeK_is hf
  have e1 := launch_y hs hv hf
  have hft : freeK (sSt (turn (kjS κ))) = freeK (sSt (kjS κ)) := freeK_t hg.1
  have e2 : launchR (kjS τ) (thr (nI q)) (-v) = (nI (freeK (sSt (kjS κ))), turn (launchG (kjS κ) (nI q) v (freeK (sSt (kjS κ))))) := by
    rw [iv_t h, launch_y (thr_vs hs) (isN_neg hv) (by rw [hft]; exact hf), hft, tu_launch hg.1 hs]
  have hc := cm_fly τ (q := (q + 1) % 4) (v := -v) (Nat.mod_lt _ (by omega)) (isN_neg hv)
  rw [← thr_v hq] at hc
  obtain ⟨τ1, p1, p2, p3, p4⟩ := prf_y hc (hx2 (by decide) (by decide) (ca0.trans e2)) (nI_E (by omega)) h.2.1
  obtain ⟨κ1, a1, a2, a3, a4⟩ := act_x h.1 e1
  have hal : ¬ sSt (kjS κ1) (freeK (sSt (kjS κ))) = -1 := by
    rw [a4, la_St]
    exact vs4_1 hs
  refine ⟨freeK (sSt (kjS κ)), κ1, τ1, a1, p1, ⟨a2, p2, by rw [a3]; exact h.2.2.1, ?_, ?_, ?_⟩, ?_, ?_, ?_, ?_, ?_⟩
  · rw [p3]
    exact Nat.le_trans (tx2_len (l := [102, 108, 121]) (by decide) _ _) (by decide)
  · rw [a4]
    exact gd_launch (iv_gd h) hs hv hf ha
  · rw [p4, a4]
  · rw [kt_y hf hal, kg0, a4, la_Nu]
  · rw [kt_y hf hal, kg1, a4, la_St]
  · rw [kt_y hf hal, kg4, a4, la_Re]
  · rw [cn0, cn0, a4, la_All]
    exact allK_fly hf ha (vs4_1 hs)
  · exact fun z => allK_12.mp z hf
theorem st_flyN {n : Nat} {κ τ : KSt} (h : Iv n κ τ) {q : Nat} (hq : q < 4) {v : Int32} (hv : isN v) (hf : ¬ freeK (sSt (kjS κ)) < 12) : ∃ κ1 τ1, kAct κ (launchR (kjS κ) (nI q) v) = (-10003, κ1) ∧ kPrf (txA τ (([102, 108, 121] ++ nuL (thr (nI q))) ++ nuL (-v))) = (-10004, τ1) ∧ Iv (n + 1) κ1 τ1 ∧ kCnt κ 0 = 12 ∧ kStp τ1 0 = 0 ∧ kStp τ1 1 = -10003 := by
  have hg := (iv_gd h).1
  have hs : vs4 (nI q) := ⟨q, hq, rfl⟩
  have e1 := launch_n hs hv hf
  have hft : freeK (sSt (turn (kjS κ))) = freeK (sSt (kjS κ)) := freeK_t hg.1
  have e2 : launchR (kjS τ) (thr (nI q)) (-v) = (-10003, turn (kjS κ)) := by
    rw [iv_t h, launch_n (thr_vs hs) (isN_neg hv) (by rw [hft]; exact hf)]
  have hc := cm_fly τ (q := (q + 1) % 4) (v := -v) (Nat.mod_lt _ (by omega)) (isN_neg hv)
  rw [← thr_v hq] at hc
  obtain ⟨τ1, p1, p2, p3, p4, p5, p6⟩ := prf_n hc (hx2 (by decide) (by decide) (ca0.trans e2)) (by decide : isErr (-10003)) h.2.1
  obtain ⟨κ1, a1, a2, a3, a4⟩ := act_x h.1 e1
  refine ⟨κ1, τ1, a1, p1, ⟨a2, p2, by rw [a3]; exact h.2.2.1, ?_, ?_, ?_⟩, ?_, p5, p6⟩
  · rw [p3]
    exact Nat.le_trans (tx2_len (l := [102, 108, 121]) (by decide) _ _) (by decide)
  · rw [a4]
    exact gd_mono (Nat.le_succ n) (iv_gd h)
  · rw [p4, a4]
    exact (iv_t h : kjS τ = turn (kjS κ))
  · exact allK_12.mpr hf
/-! take down -/
theorem rem_y {σ : Sky} {j : Nat} (hj : j < 12) (hl : ¬ sSt σ j = -1) : removeR σ (nI j) = (sNu σ j, pSt σ j (-1)) := by
  unfold removeR
  rw [if_pos ((isK_n hj).mpr hl), nI_clamp (by omega)]
theorem rem_n {σ : Sky} {j : Nat} (hj : j < 12) (hl : sSt σ j = -1) : removeR σ (nI j) = (-10001, σ) := by
  unfold removeR
  rw [if_neg (fun z => (isK_n hj).mp z hl)]
theorem tl_n {κ τ : KSt} {n : Nat} (h : Iv n κ τ) {j : Nat} : sSt (kjS τ) j = -1 ↔ sSt (kjS κ) j = -1 := by
  rw [iv_t h]
  exact t_m1 (iv_gd h).1.1 j
theorem iv_both {n : Nat} {κ τ κ1 τ1 : KSt} (h : Iv n κ τ) (a2 : okH κ1) (a3 : kjn κ1 = kjn κ) (b2 : okH τ1) (b3 : kjn τ1 = kjn τ) (hg : gd (n + 1) (kjS κ1)) (ht : kjS τ1 = turn (kjS κ1)) : Iv (n + 1) κ1 τ1 := ⟨a2, b2, by rw [a3]; exact h.2.2.1, by rw [b3]; exact h.2.2.2.1, hg, ht⟩
theorem iv_same {n : Nat} {κ τ : KSt} (h : Iv n κ τ) : Iv (n + 1) κ τ := ⟨h.1, h.2.1, h.2.2.1, h.2.2.2.1, gd_mono (Nat.le_succ n) (iv_gd h), iv_t h⟩
theorem st_downY {n : Nat} {κ τ : KSt} (h : Iv n κ τ) {j : Nat} (hj : j < 12) (hl : ¬ sSt (kjS κ) j = -1) : ∃ κ1 τ1, kAct κ (removeR (kjS κ) (nI j)) = (sNu (kjS κ) j, κ1) ∧ kAct τ (removeR (kjS τ) (nI j)) = (-(sNu (kjS κ) j), τ1) ∧ Iv (n + 1) κ1 τ1 ∧ kCnt κ1 0 = kCnt κ 0 - 1 := by
  have e2 : removeR (kjS τ) (nI j) = (-(sNu (kjS κ) j), turn (pSt (kjS κ) j (-1))) := by
    rw [rem_y hj (fun z => hl ((tl_n h).mp z)), iv_t h, tu_St, thr_m1]
    rfl
  obtain ⟨κ1, a1, a2, a3, a4⟩ := act_x h.1 (rem_y hj hl)
  obtain ⟨τ1, b1, b2, b3, b4⟩ := act_x h.2.1 e2
  refine ⟨κ1, τ1, a1, b1, iv_both h a2 a3 b2 b3 ?_ (by rw [b4, a4]), ?_⟩
  · rw [a4]
    exact gd_remove (iv_gd h)
  · rw [cn0, cn0, a4]
    exact allK_rm hj hl
theorem st_downN {n : Nat} {κ τ : KSt} (h : Iv n κ τ) {j : Nat} (hj : j < 12) (hl : sSt (kjS κ) j = -1) : ∃ κ1 τ1, kAct κ (removeR (kjS κ) (nI j)) = (-10001, κ1) ∧ kAct τ (removeR (kjS τ) (nI j)) = (-10001, τ1) ∧ Iv (n + 1) κ1 τ1 ∧ kCnt κ1 0 = kCnt κ 0 - 0 := by
  obtain ⟨κ1, a1, a2, a3, a4⟩ := act_x h.1 (rem_n hj hl)
  obtain ⟨τ1, b1, b2, b3, b4⟩ := act_x h.2.1 (rem_n hj ((tl_n h).mpr hl))
  refine ⟨κ1, τ1, a1, b1, iv_both h a2 a3 b2 b3 ?_ (by rw [b4, a4]; exact iv_t h), ?_⟩
  · rw [a4]
    exact gd_mono (Nat.le_succ n) (iv_gd h)
  · rw [cn0, cn0, a4, Int32.sub_zero]
/-! read -/
theorem al_q {σ : Sky} (hg : gdS σ) {j : Nat} (hl : ¬ sSt σ j = -1) : ∃ q, q < 4 ∧ sSt σ j = nI q := okSt_v hg.1 hl
theorem rg_Nu {σ : Sky} {j q : Nat} (hq : q < 4) (hs : sSt σ j = nI q) : sNu (raiseG σ j) = sNu σ := by
  unfold raiseG
  split
  · rw [raiseC_eq hq hs]
    rfl
  · rfl
theorem rg_Rs {σ : Sky} {j q : Nat} (hq : q < 4) (hs : sSt σ j = nI q) : sRs (raiseG σ j) = sRs σ + 1 := by
  unfold raiseG
  split
  · rw [raiseC_eq hq hs]
    rfl
  · rfl
theorem rg_Fr {σ : Sky} {j : Nat} : sFr (raiseG σ j) j = 1 := by
  unfold raiseG
  split
  · exact pk_us
  · exact pk_us
theorem rg_St {σ : Sky} {j q : Nat} (hq : q < 4) (hs : sSt σ j = nI q) : ¬ sSt (raiseG σ j) j = -1 := by
  unfold raiseG
  split
  · show ¬ upd (sSt (raiseC σ j)) j (behi (sSt σ j)) j = -1
    rw [pk_us]
    exact vs4_1 (behi_v ⟨q, hq, hs⟩).1
  · show ¬ upd (sSt σ) j (sSt σ j) j = -1
    rw [pk_us]
    exact vs4_1 ⟨q, hq, hs⟩
theorem rr_1 {σ : Sky} {j : Nat} (hj : j < 12) (hl : ¬ sSt σ j = -1) : aboutRR σ (nI j) 1 = sHt (raiseG σ j) j := by
  unfold aboutRR
  rw [if_pos ((isK_n hj).mpr hl), nI_clamp (by omega)]
  unfold aboutRG raiseG
  by_cases hc : sCh σ < risenH σ j (windN σ)
  · rw [if_pos hc, if_pos hc, if_neg (by decide), if_pos rfl]
    show _ = upd (sHt (raiseC σ j)) j (land (sSt (raiseC σ j)) (sHt (raiseC σ j)) (behi (sSt σ j)) 0) j
    rw [pk_us, raiseC_St.1, raiseC_St.2]
  · rw [if_neg hc, if_neg hc, if_neg (by decide), if_pos rfl]
    exact pk_us.symm
theorem rr_n {σ : Sky} {j : Nat} (hj : j < 12) (hl : sSt σ j = -1) (w : Int32) : aboutRR σ (nI j) w = -10001 := by
  unfold aboutRR
  rw [if_neg (fun z => (isK_n hj).mp z hl)]
theorem rai_y {σ : Sky} {j : Nat} (hj : j < 12) (hl : ¬ sSt σ j = -1) : raiseR σ (nI j) = (sNu (raiseG σ j) j, raiseG σ j) := by
  unfold raiseR
  rw [if_pos ((isK_n hj).mpr hl), nI_clamp (by omega)]
theorem rai_n {σ : Sky} {j : Nat} (hj : j < 12) (hl : sSt σ j = -1) : raiseR σ (nI j) = (-10001, σ) := by
  unfold raiseR
  rw [if_neg (fun z => (isK_n hj).mp z hl)]
theorem st_readY {n : Nat} {κ τ : KSt} (h : Iv n κ τ) {j : Nat} (hj : j < 12) (hl : ¬ sSt (kjS κ) j = -1) : ∃ H κ1 τ1, aboutRR (kjS κ) (nI j) 1 = H ∧ kAct κ (raiseR (kjS κ) (nI j)) = (sNu (kjS κ) j, κ1) ∧ kPrf (txA τ ([114, 101, 97, 100] ++ nuL (nI j))) = (1, τ1) ∧ Iv (n + 1) κ1 τ1 ∧ aboutKR (kjS κ1) (nI j) 2 = H ∧ kCnt κ1 3 = kCnt κ 3 + 1 ∧ aboutKR (kjS κ1) (nI j) 3 = 1 := by
  have hg := (iv_gd h).1
  obtain ⟨q, hq, hs⟩ := al_q hg hl
  have e1 : raiseR (kjS κ) (nI j) = (sNu (kjS κ) j, raiseG (kjS κ) j) := by rw [rai_y hj hl, rg_Nu hq hs]
  have e2 : raiseR (kjS τ) (nI j) = (-(sNu (kjS κ) j), turn (raiseG (kjS κ) j)) := by
    rw [rai_y hj (fun z => hl ((tl_n h).mp z)), iv_t h, tu_raise hg.1 hq hs, show sNu (turn (raiseG (kjS κ) j)) j = -(sNu (raiseG (kjS κ) j) j) from rfl, rg_Nu hq hs]
  obtain ⟨τ1, p1, p2, p3, p4⟩ := prf_y (cm_read τ hj) (fun b2 _ => ca1.trans e2) (nN_E (isN_neg (hg.2.2.2.2.1 j))) h.2.1
  obtain ⟨κ1, a1, a2, a3, a4⟩ := act_x h.1 e1
  have hal : ¬ sSt (kjS κ1) j = -1 := by
    rw [a4]
    exact rg_St hq hs
  refine ⟨_, κ1, τ1, rr_1 hj hl, a1, p1, ⟨a2, p2, by rw [a3]; exact h.2.2.1, ?_, ?_, ?_⟩, ?_, ?_, ?_⟩
  · rw [p3]
    exact Nat.le_trans (tx1_len (l := [114, 101, 97, 100]) (by decide) _) (by decide)
  · rw [a4]
    exact gd_raise (iv_gd h) hj hq hs
  · rw [p4, a4]
  · rw [kt_y hj hal, kg2, a4]
  · rw [cn3, cn3, a4, rg_Rs hq hs]
  · rw [kt_y hj hal, kg3, a4, rg_Fr, if_neg (by decide)]
theorem st_readN {n : Nat} {κ τ : KSt} (h : Iv n κ τ) {j : Nat} (hj : j < 12) (hl : sSt (kjS κ) j = -1) : ∃ κ1 τ1, aboutRR (kjS κ) (nI j) 1 = -10001 ∧ kAct κ (raiseR (kjS κ) (nI j)) = (-10001, κ1) ∧ kPrf (txA τ ([114, 101, 97, 100] ++ nuL (nI j))) = (-10004, τ1) ∧ Iv (n + 1) κ1 τ1 ∧ kStp τ1 1 = -10001 := by
  obtain ⟨τ1, p1, p2, p3, p4, p5, p6⟩ := prf_n (cm_read τ hj) (fun b2 _ => ca1.trans (rai_n hj ((tl_n h).mpr hl))) (by decide : isErr (-10001)) h.2.1
  obtain ⟨κ1, a1, a2, a3, a4⟩ := act_x h.1 (rai_n hj hl)
  refine ⟨κ1, τ1, rr_n hj hl 1, a1, p1, ⟨a2, p2, by rw [a3]; exact h.2.2.1, ?_, ?_, ?_⟩, p6⟩
  · rw [p3]
    exact Nat.le_trans (tx1_len (l := [114, 101, 97, 100]) (by decide) _) (by decide)
  · rw [a4]
    exact gd_mono (Nat.le_succ n) (iv_gd h)
  · rw [p4, a4]
    exact (iv_t h : kjS τ = turn (kjS κ))
/-! write -/
theorem ren_y {σ : Sky} {j : Nat} {v : Int32} (hj : j < 12) (hl : ¬ sSt σ j = -1) (hv : isN v) : renumR σ (nI j) v = (sNu σ j, pFr (pNu σ j v) j 1) := by
  unfold renumR
  rw [if_pos ((isK_n hj).mpr hl), if_pos hv, nI_clamp (by omega)]
theorem ren_n {σ : Sky} {j : Nat} {v : Int32} (hj : j < 12) (hl : sSt σ j = -1) : renumR σ (nI j) v = (-10001, σ) := by
  unfold renumR
  rw [if_neg (fun z => (isK_n hj).mp z hl)]
theorem st_writeY {n : Nat} {κ τ : KSt} (h : Iv n κ τ) {j : Nat} (hj : j < 12) (hl : ¬ sSt (kjS κ) j = -1) {v : Int32} (hv : isN v) : ∃ κ1 τ1, kAct κ (renumR (kjS κ) (nI j) v) = (sNu (kjS κ) j, κ1) ∧ kPrf (txA τ (([119, 114, 105, 116, 101] ++ nuL (nI j)) ++ nuL (-v))) = (1, τ1) ∧ Iv (n + 1) κ1 τ1 ∧ aboutKR (kjS κ1) (nI j) 0 = v := by
  have hg := (iv_gd h).1
  have e2 : renumR (kjS τ) (nI j) (-v) = (-(sNu (kjS κ) j), turn (pFr (pNu (kjS κ) j v) j 1)) := by
    rw [ren_y hj (fun z => hl ((tl_n h).mp z)) (isN_neg hv), iv_t h, show turn (pFr (pNu (kjS κ) j v) j 1) = pFr (turn (pNu (kjS κ) j v)) j 1 from rfl, tu_Nu]
    rfl
  obtain ⟨τ1, p1, p2, p3, p4⟩ := prf_y (cm_write τ hj (isN_neg hv)) (hx2 (by decide) (by decide) (ca2.trans e2)) (nN_E (isN_neg (hg.2.2.2.2.1 j))) h.2.1
  obtain ⟨κ1, a1, a2, a3, a4⟩ := act_x h.1 (ren_y hj hl hv)
  have hal : ¬ sSt (kjS κ1) j = -1 := by
    rw [a4]
    exact hl
  refine ⟨κ1, τ1, a1, p1, ⟨a2, p2, by rw [a3]; exact h.2.2.1, ?_, ?_, ?_⟩, ?_⟩
  · rw [p3]
    exact Nat.le_trans (tx2_len (l := [119, 114, 105, 116, 101]) (by decide) _ _) (by decide)
  · rw [a4]
    exact gd_renum (iv_gd h) hv
  · rw [p4, a4]
  · rw [kt_y hj hal, kg0, a4]
    exact pk_us
theorem st_writeN {n : Nat} {κ τ : KSt} (h : Iv n κ τ) {j : Nat} (hj : j < 12) (hl : sSt (kjS κ) j = -1) {v : Int32} : ∃ κ1, kAct κ (renumR (kjS κ) (nI j) v) = (-10001, κ1) ∧ Iv (n + 1) κ1 τ := by
  obtain ⟨κ1, a1, a2, a3, a4⟩ := act_x h.1 (ren_n (v := v) hj hl)
  refine ⟨κ1, a1, iv_both h a2 a3 h.2.1 rfl ?_ ?_⟩
  · rw [a4]
    exact gd_mono (Nat.le_succ n) (iv_gd h)
  · rw [a4]
    exact iv_t h
/-! move -/
theorem shi_y {σ : Sky} {j : Nat} {s : Int32} (hj : j < 12) (hl : ¬ sSt σ j = -1) (hs : vs4 s) (hne : ¬ sSt σ j = s) : shiftR σ (nI j) s = (land (sSt σ) (sHt σ) s (sHt σ j), shiftG σ j s) := by
  unfold shiftR
  rw [if_pos ⟨(isK_n hj).mpr hl, isS_of hs⟩, nI_clamp (by omega), if_neg hne]
theorem shi_s {σ : Sky} {j : Nat} {s : Int32} (hj : j < 12) (hl : ¬ sSt σ j = -1) (hs : vs4 s) (he : sSt σ j = s) : shiftR σ (nI j) s = (-10005, σ) := by
  unfold shiftR
  rw [if_pos ⟨(isK_n hj).mpr hl, isS_of hs⟩, nI_clamp (by omega), if_pos he]
theorem shi_n {σ : Sky} {j : Nat} {s : Int32} (hj : j < 12) (hl : sSt σ j = -1) : shiftR σ (nI j) s = (-10001, σ) := by
  unfold shiftR
  rw [if_neg (fun z => (isK_n hj).mp z.1 hl)]
theorem st_moveN {n : Nat} {κ τ : KSt} (h : Iv n κ τ) {j : Nat} (hj : j < 12) (hl : sSt (kjS κ) j = -1) {q : Nat} : ∃ κ1 τ1, kAct κ (shiftR (kjS κ) (nI j) (nI q)) = (-10001, κ1) ∧ kAct τ (shiftR (kjS τ) (nI j) (thr (nI q))) = (-10001, τ1) ∧ Iv (n + 1) κ1 τ1 := by
  obtain ⟨κ1, a1, a2, a3, a4⟩ := act_x h.1 (shi_n (s := nI q) hj hl)
  obtain ⟨τ1, b1, b2, b3, b4⟩ := act_x h.2.1 (shi_n (s := thr (nI q)) hj ((tl_n h).mpr hl))
  refine ⟨κ1, τ1, a1, b1, iv_both h a2 a3 b2 b3 ?_ (by rw [b4, a4]; exact iv_t h)⟩
  rw [a4]
  exact gd_mono (Nat.le_succ n) (iv_gd h)
theorem tq_e {n : Nat} {κ τ : KSt} (h : Iv n κ τ) {j q : Nat} (hq : q < 4) : sSt (kjS τ) j = thr (nI q) ↔ sSt (kjS κ) j = nI q := by
  rw [iv_t h]
  exact t_eq (iv_gd h).1.1 ⟨q, hq, rfl⟩ j
theorem st_moveS {n : Nat} {κ τ : KSt} (h : Iv n κ τ) {j : Nat} (hj : j < 12) (hl : ¬ sSt (kjS κ) j = -1) {q : Nat} (hq : q < 4) (he : sSt (kjS κ) j = nI q) : ∃ κ1 τ1, kAct κ (shiftR (kjS κ) (nI j) (nI q)) = (-10005, κ1) ∧ kAct τ (shiftR (kjS τ) (nI j) (thr (nI q))) = (-10005, τ1) ∧ Iv (n + 1) κ1 τ1 := by
  have hs : vs4 (nI q) := ⟨q, hq, rfl⟩
  obtain ⟨κ1, a1, a2, a3, a4⟩ := act_x h.1 (shi_s hj hl hs he)
  obtain ⟨τ1, b1, b2, b3, b4⟩ := act_x h.2.1 (shi_s hj (fun z => hl ((tl_n h).mp z)) (thr_vs hs) ((tq_e h hq).mpr he))
  refine ⟨κ1, τ1, a1, b1, iv_both h a2 a3 b2 b3 ?_ (by rw [b4, a4]; exact iv_t h)⟩
  rw [a4]
  exact gd_mono (Nat.le_succ n) (iv_gd h)
theorem st_moveY {n : Nat} {κ τ : KSt} (h : Iv n κ τ) {j : Nat} (hj : j < 12) (hl : ¬ sSt (kjS κ) j = -1) {q : Nat} (hq : q < 4) (hne : ¬ sSt (kjS κ) j = nI q) : ∃ L κ1 τ1, kAct κ (shiftR (kjS κ) (nI j) (nI q)) = (L, κ1) ∧ kAct τ (shiftR (kjS τ) (nI j) (thr (nI q))) = (L, τ1) ∧ Iv (n + 1) κ1 τ1 ∧ aboutKR (kjS κ1) (nI j) 2 = L ∧ aboutKR (kjS κ1) (nI j) 1 = nI q := by
  have hg := (iv_gd h).1
  have hs : vs4 (nI q) := ⟨q, hq, rfl⟩
  have e2 : shiftR (kjS τ) (nI j) (thr (nI q)) = (land (sSt (kjS κ)) (sHt (kjS κ)) (nI q) (sHt (kjS κ) j), turn (shiftG (kjS κ) j (nI q))) := by
    rw [shi_y hj (fun z => hl ((tl_n h).mp z)) (thr_vs hs) (fun z => hne ((tq_e h hq).mp z)), iv_t h, tu_shift hg.1 hs, show sSt (turn (kjS κ)) = tSt (sSt (kjS κ)) from rfl, show sHt (turn (kjS κ)) = sHt (kjS κ) from rfl, land_t hg.1 hs]
  obtain ⟨κ1, a1, a2, a3, a4⟩ := act_x h.1 (shi_y hj hl hs hne)
  obtain ⟨τ1, b1, b2, b3, b4⟩ := act_x h.2.1 e2
  have hz : sSt (kjS κ1) j = nI q := by
    rw [a4]
    exact pk_us
  have hal : ¬ sSt (kjS κ1) j = -1 := by
    rw [hz]
    exact vs4_1 hs
  refine ⟨_, κ1, τ1, a1, b1, iv_both h a2 a3 b2 b3 ?_ (by rw [b4, a4]), ?_, ?_⟩
  · rw [a4]
    exact gd_shift (iv_gd h) hj hs hl hne
  · rw [kt_y hj hal, kg2, a4]
    exact pk_us
  · rw [kt_y hj hal, kg1, hz]
/-! beat -/
theorem beat1_Bs {σ : Sky} (hg : gdS σ) : sBs (beat1 σ) = sBs σ + 1 := (b1_all hg).2.2.2.2
theorem beatN_fm {σ : Sky} (hg : gdS σ) : ∀ m, fmo8 (sBs (beatN σ m)) = (fmo8 (sBs σ) + m) % 8
  | 0 => (Nat.mod_eq_of_lt (fmo8_lt _)).symm
  | m + 1 => by
    rw [beatN, beat1_Bs (beatN_eq hg (gdS_fr hg) m).2.1, fmo8_1, beatN_fm hg m]
    omega
theorem endN_f0 {σ : Sky} : ∀ n k, k < n → sFr (endN σ n) k = 0
  | n + 1, k, h => by
    show upd (sFr (endN σ n)) n 0 k = 0
    by_cases e9 : k = n
    · subst e9
      exact pk_us
    · rw [pk_un e9]
      exact endN_f0 n k (by omega)
theorem sumN_0 {f : F} : ∀ n, (∀ k, k < n → f k = 0) → sumN f n = 0
  | 0, _ => rfl
  | n + 1, h => by
    rw [sumN, sumN_0 n (fun k hk => h k (by omega)), h n (by omega)]
    decide
theorem b1_f0 {X : Sky} {k : Nat} (hk : k < 12) : sFr (beat1 X) k = 0 := by
  unfold beat1
  rw [qFr_Bs]
  exact endN_f0 12 k hk
theorem beat_f0 {σ : Sky} {m : Nat} (h : 1 ≤ m) : frsh (sSt (beatN σ m)) (sFr (beatN σ m)) = 0 := by
  obtain ⟨m, rfl⟩ : ∃ m', m = m' + 1 := ⟨m - 1, by omega⟩
  refine sumN_0 12 (fun k hk => ?_)
  refine if_neg (fun z => z.2 ?_)
  rw [beatN]
  exact b1_f0 hk
theorem bea_y {σ : Sky} {m : Nat} (h1 : 1 ≤ m) (h2 : m ≤ 20) : beatR σ (nI m) = (nI (fmo8 (sBs (beatN σ m))), beatN σ m) := by
  unfold beatR
  rw [if_pos ⟨(nI_leI (a := 1) (by omega) (by omega)).mpr h1, (nI_leI (b := 100) (by omega) (by omega)).mpr (by omega)⟩, nI_clamp (by omega)]
theorem st_beat {n : Nat} {κ τ : KSt} (h : Iv n κ τ) {m : Nat} (h1 : 1 ≤ m) (h2 : m ≤ 20) : ∃ r κ1 τ1, kAct κ (beatR (kjS κ) (nI m)) = (r, κ1) ∧ kPrf (txA τ ([98, 101, 97, 116] ++ nuL (nI m))) = (1, τ1) ∧ Iv (n + 1) κ1 τ1 ∧ r = (kCnt κ 1 + nI m) - (kCnt κ 1 + nI m) / 8 * 8 ∧ kCnt κ1 5 = 0 := by
  have hg := (iv_gd h).1
  have e2 : beatR (kjS τ) (nI m) = (nI (fmo8 (sBs (beatN (kjS κ) m))), turn (beatN (kjS κ) m)) := by
    rw [bea_y h1 h2, iv_t h, beatN_t hg]
    rfl
  obtain ⟨τ1, p1, p2, p3, p4⟩ := prf_y (cm_beat τ h1 h2) (fun b2 _ => ca3.trans e2) (nI_E (by have := fmo8_lt (sBs (beatN (kjS κ) m)); omega)) h.2.1
  obtain ⟨κ1, a1, a2, a3, a4⟩ := act_x h.1 (bea_y h1 h2)
  refine ⟨_, κ1, τ1, a1, p1, ⟨a2, p2, by rw [a3]; exact h.2.2.1, ?_, ?_, ?_⟩, ?_, ?_⟩
  · rw [p3]
    exact Nat.le_trans (tx1_len (l := [98, 101, 97, 116]) (by decide) _) (by decide)
  · rw [a4]
    exact gd_beat (iv_gd h) h2
  · rw [p4, a4]
  · have h8 := fmo8_lt (sBs (kjS κ))
    rw [cn1, nI_add, show (8 : Int32) = nI 8 from rfl, pk_rem (by omega) (by omega) (by omega), beatN_fm hg]
  · rw [cn5, a4]
    exact beat_f0 h1
/-! wind -/
theorem isB_n {a : Nat} (h : a < 8) : isB (nI a) := ⟨nI_pos' (by omega), nI_lt (b := 8) h (by omega)⟩
theorem w09 {c : Nat} (h : c < 10) : 0 ≤ nI c ∧ nI c ≤ 9 := ⟨nI_pos' (by omega), nI_le (b := 9) (by omega) (by omega)⟩
theorem win_c {σ : Sky} {a c : Nat} (ha : a < 8) (hc : c < 10) (hne : ¬ sWi σ a = nI c) : windR σ (nI a) (nI c) = (sWi σ a, pWi σ a (nI c)) := by
  unfold windR
  rw [if_pos (isB_n ha), if_pos (w09 hc), nI_clamp (by omega), if_neg hne]
theorem win_s {σ : Sky} {a c : Nat} (ha : a < 8) (hc : c < 10) (he : sWi σ a = nI c) : windR σ (nI a) (nI c) = (-10005, σ) := by
  unfold windR
  rw [if_pos (isB_n ha), if_pos (w09 hc), nI_clamp (by omega), if_pos he]
theorem wa_n {σ : Sky} {a : Nat} (ha : a < 8) : windAR σ (nI a) = sWi σ a := by
  unfold windAR
  rw [if_pos (isB_n ha), nI_clamp (by omega)]
theorem st_windS {n : Nat} {κ τ : KSt} (h : Iv n κ τ) {a c : Nat} (ha : a < 8) (hc : c < 10) (he : sWi (kjS κ) a = nI c) : ∃ κ1 τ1, kAct κ (windR (kjS κ) (nI a) (nI c)) = (-10005, κ1) ∧ kPrf (txA τ (([119, 105, 110, 100] ++ nuL (nI a)) ++ nuL (nI c))) = (1, τ1) ∧ Iv (n + 1) κ1 τ1 ∧ windAR (kjS κ1) (nI a) = nI c := by
  have e2 : windR (kjS τ) (nI a) (nI c) = (-10005, turn (kjS κ)) := by
    rw [iv_t h, win_s (σ := turn (kjS κ)) ha hc he]
  obtain ⟨τ1, p1, p2, p3, p4⟩ := prf_y (cm_wind τ ha hc) (hx2 (by decide) (by decide) (ca4.trans e2)) (by decide : ¬ isErr (-10005)) h.2.1
  obtain ⟨κ1, a1, a2, a3, a4⟩ := act_x h.1 (win_s ha hc he)
  refine ⟨κ1, τ1, a1, p1, ⟨a2, p2, by rw [a3]; exact h.2.2.1, ?_, ?_, ?_⟩, ?_⟩
  · rw [p3]
    exact Nat.le_trans (tx2_len (l := [119, 105, 110, 100]) (by decide) _ _) (by decide)
  · rw [a4]
    exact gd_mono (Nat.le_succ n) (iv_gd h)
  · rw [p4, a4]
  · rw [a4, wa_n ha, he]
theorem st_windC {n : Nat} {κ τ : KSt} (h : Iv n κ τ) {a c : Nat} (ha : a < 8) (hc : c < 10) (hne : ¬ sWi (kjS κ) a = nI c) : ∃ p κ1 τ1, p < 10 ∧ kAct κ (windR (kjS κ) (nI a) (nI c)) = (nI p, κ1) ∧ kPrf (txA τ (([119, 105, 110, 100] ++ nuL (nI a)) ++ nuL (nI c))) = (1, τ1) ∧ Iv (n + 1) κ1 τ1 ∧ windAR (kjS κ1) (nI a) = nI c ∧ ¬ nI p = nI c := by
  have hg := (iv_gd h).1
  obtain ⟨p, hp, ep⟩ := hg.2.2.2.2.2.1 a
  have e1 : windR (kjS κ) (nI a) (nI c) = (nI p, pWi (kjS κ) a (nI c)) := by rw [win_c ha hc hne, ep]
  have e2 : windR (kjS τ) (nI a) (nI c) = (nI p, turn (pWi (kjS κ) a (nI c))) := by
    rw [iv_t h, win_c (σ := turn (kjS κ)) ha hc hne, show sWi (turn (kjS κ)) a = sWi (kjS κ) a from rfl, ep]
    rfl
  obtain ⟨τ1, p1, p2, p3, p4⟩ := prf_y (cm_wind τ ha hc) (hx2 (by decide) (by decide) (ca4.trans e2)) (nI_E (by omega)) h.2.1
  obtain ⟨κ1, a1, a2, a3, a4⟩ := act_x h.1 e1
  refine ⟨p, κ1, τ1, hp, a1, p1, ⟨a2, p2, by rw [a3]; exact h.2.2.1, ?_, ?_, ?_⟩, ?_, ?_⟩
  · rw [p3]
    exact Nat.le_trans (tx2_len (l := [119, 105, 110, 100]) (by decide) _ _) (by decide)
  · rw [a4]
    exact gd_wind (iv_gd h) hc
  · rw [p4, a4]
  · rw [a4, wa_n ha]
    exact pk_us
  · rw [← ep]
    exact hne
/-! settings -/
theorem set_c {σ : Sky} {c : Nat} (h1 : 5 ≤ c) (h2 : c ≤ 80) : setR σ 0 (nI c) = if sCh σ = nI c then (-10005, σ) else (sCh σ, uCh σ (nI c)) := by
  unfold setR cutR
  rw [if_pos rfl, if_pos ⟨nI_le (a := 5) h1 (by omega), nI_le (b := 80) h2 (by omega)⟩]
theorem set_s {σ : Sky} {c : Nat} (h2 : c ≤ 9) : setR σ 1 (nI c) = if sSi σ = nI c then (-10005, σ) else (sSi σ, uSi σ (nI c)) := by
  unfold setR sinR
  rw [if_neg (by decide), if_pos rfl, if_pos ⟨nI_pos' (by omega), nI_le (b := 9) h2 (by omega)⟩]
theorem st_set0 {n : Nat} {κ τ : KSt} (h : Iv n κ τ) {c : Nat} (h1 : 5 ≤ c) (h2 : c ≤ 80) : ∃ r κ1 τ1, kAct κ (setR (kjS κ) 0 (nI c)) = (r, κ1) ∧ kAct τ (setR (kjS τ) 0 (nI c)) = (r, τ1) ∧ Iv (n + 1) κ1 τ1 ∧ kCnt κ1 (8 + 0) = nI c := by
  have key : ∃ r σ, setR (kjS κ) 0 (nI c) = (r, σ) ∧ setR (kjS τ) 0 (nI c) = (r, turn σ) ∧ gd (n + 1) σ ∧ sCh σ = nI c := by
    rw [iv_t h, set_c h1 h2, set_c h1 h2]
    by_cases he : sCh (kjS κ) = nI c
    · rw [if_pos he, if_pos (show sCh (turn (kjS κ)) = nI c from he)]
      exact ⟨_, _, rfl, rfl, gd_mono (Nat.le_succ n) (iv_gd h), he⟩
    · rw [if_neg he, if_neg (show ¬ sCh (turn (kjS κ)) = nI c from he)]
      exact ⟨_, _, rfl, rfl, gd_cut (iv_gd h) h1 h2, rfl⟩
  obtain ⟨r, σ, e1, e2, e3, e4⟩ := key
  obtain ⟨κ1, a1, a2, a3, a4⟩ := act_x h.1 e1
  obtain ⟨τ1, b1, b2, b3, b4⟩ := act_x h.2.1 e2
  refine ⟨r, κ1, τ1, a1, b1, iv_both h a2 a3 b2 b3 (by rw [a4]; exact e3) (by rw [b4, a4]), ?_⟩
  rw [show (8 + 0 : Int32) = 8 from by decide, cn8, a4]
  exact e4
theorem st_set1 {n : Nat} {κ τ : KSt} (h : Iv n κ τ) {c : Nat} (h2 : c ≤ 9) : ∃ r κ1 τ1, kAct κ (setR (kjS κ) 1 (nI c)) = (r, κ1) ∧ kAct τ (setR (kjS τ) 1 (nI c)) = (r, τ1) ∧ Iv (n + 1) κ1 τ1 ∧ kCnt κ1 (8 + 1) = nI c := by
  have key : ∃ r σ, setR (kjS κ) 1 (nI c) = (r, σ) ∧ setR (kjS τ) 1 (nI c) = (r, turn σ) ∧ gd (n + 1) σ ∧ sSi σ = nI c := by
    rw [iv_t h, set_s h2, set_s h2]
    by_cases he : sSi (kjS κ) = nI c
    · rw [if_pos he, if_pos (show sSi (turn (kjS κ)) = nI c from he)]
      exact ⟨_, _, rfl, rfl, gd_mono (Nat.le_succ n) (iv_gd h), he⟩
    · rw [if_neg he, if_neg (show ¬ sSi (turn (kjS κ)) = nI c from he)]
      exact ⟨_, _, rfl, rfl, gd_sin (iv_gd h) h2, rfl⟩
  obtain ⟨r, σ, e1, e2, e3, e4⟩ := key
  obtain ⟨κ1, a1, a2, a3, a4⟩ := act_x h.1 e1
  obtain ⟨τ1, b1, b2, b3, b4⟩ := act_x h.2.1 e2
  refine ⟨r, κ1, τ1, a1, b1, iv_both h a2 a3 b2 b3 (by rw [a4]; exact e3) (by rw [b4, a4]), ?_⟩
  rw [show (8 + 1 : Int32) = 9 from by decide, cn9, a4]
  exact e4
