/-! PURE: what isWell looks at -/
section WL
variable {st ht : F}
theorem low_is {s t : Int32} (hH : okHt ht) (hd : dis st ht) (hs : ¬ s = -1) {p : Nat} (hp : p < 12) (hps : st p = s) (hpt : t.toInt < (ht p).toInt) (hm : ∀ k, k < 12 → st k = s → t.toInt < (ht k).toInt → (ht p).toInt ≤ (ht k).toInt) : low st ht s t = nI p := by
  rcases low_spec (st := st) (s := s) (t := t) hH 12 with ⟨-, h1⟩ | ⟨r, hr, hrs, hrt, e1, h1⟩
  · exact absurd hpt (h1 p hp hps)
  · have a1 := h1 p hp hps hpt
    have a2 := hm r hr hrs hrt
    have e2 : ht r = ht p := Int32.toInt_inj.mp (by omega)
    have e3 := hd r p hr hp (by rw [hrs]; exact hs) (by rw [hrs, hps]) e2
    rw [show low st ht s t = nI r from congrArg Prod.fst e1, e3]
theorem hig_is {s t : Int32} (hH : okHt ht) (hd : dis st ht) (hs : ¬ s = -1) {p : Nat} (hp : p < 12) (hps : st p = s) (hpt : (ht p).toInt < t.toInt) (hm : ∀ k, k < 12 → st k = s → (ht k).toInt < t.toInt → (ht k).toInt ≤ (ht p).toInt) : hig st ht s t = nI p := by
  rcases hig_spec (st := st) (s := s) (t := t) hH 12 with ⟨-, h1⟩ | ⟨r, hr, hrs, hrt, e1, h1⟩
  · exact absurd hpt (h1 p hp hps)
  · have a1 := h1 p hp hps hpt
    have a2 := hm r hr hrs hrt
    have e2 : ht r = ht p := Int32.toInt_inj.mp (by omega)
    have e3 := hd r p hr hp (by rw [hrs]; exact hs) (by rw [hrs, hps]) e2
    rw [show hig st ht s t = nI r from congrArg Prod.fst e1, e3]
/-- the kites above lo, and those above the lowest of them -/
theorem kb_step {s lo : Int32} (hH : okHt ht) (hd : dis st ht) (hs : ¬ s = -1) {p : Nat} (hp : p < 12) (hps : st p = s) (hpt : lo.toInt < (ht p).toInt) (hm : ∀ k, k < 12 → st k = s → lo.toInt < (ht k).toInt → (ht p).toInt ≤ (ht k).toInt) : kitesB st ht s lo 1000000 = kitesB st ht s (ht p) 1000000 + 1 := by
  have e9 : ∀ k, k < 12 → kbF st ht s lo 1000000 k = upd (kbF st ht s (ht p) 1000000) p (kbF st ht s (ht p) 1000000 p + 1) k := by
    intro k hk
    have hki := ht_int hH k
    have hkM : ht k < 1000000 := by
      rw [Int32.lt_iff_toInt_lt, iMx_int]
      omega
    have hnp : kbF st ht s (ht p) 1000000 p = 0 := if_neg (fun z => by
      have := Int32.lt_iff_toInt_lt.mp z.2.1
      omega)
    by_cases ek : k = p
    · subst ek
      rw [pk_us, hnp]
      show (if st k = s ∧ lo < ht k ∧ ht k < 1000000 then (1 : Int32) else 0) = 0 + 1
      rw [if_pos ⟨hps, Int32.lt_iff_toInt_lt.mpr hpt, hkM⟩]
      decide
    · rw [pk_un ek]
      refine ite_iff ⟨fun z => ⟨z.1, ?_, z.2.2⟩, fun z => ⟨z.1, ?_, z.2.2⟩⟩ _ _
      · have h1 := hm k hk z.1 (Int32.lt_iff_toInt_lt.mp z.2.1)
        have h2 : ¬ (ht k).toInt = (ht p).toInt := fun y => ek (hd k p hk hp (by rw [z.1]; exact hs) (by rw [z.1, hps]) (Int32.toInt_inj.mp y))
        rw [Int32.lt_iff_toInt_lt]
        omega
      · have h1 := Int32.lt_iff_toInt_lt.mp z.2.1
        rw [Int32.lt_iff_toInt_lt]
        omega
  rw [show kitesB st ht s lo 1000000 = sumN (upd (kbF st ht s (ht p) 1000000) p (kbF st ht s (ht p) 1000000 p + 1)) 12 from sumN_eq 12 e9]
  exact sumN_inc 12 hp
theorem kb_none {s lo : Int32} (h : ∀ k, k < 12 → st k = s → ¬ lo.toInt < (ht k).toInt) : kitesB st ht s lo 1000000 = 0 := sumN_0 12 (fun k hk => if_neg (fun z => h k hk z.1 (Int32.lt_iff_toInt_lt.mp z.2.1)))
theorem mxF_ge {j : Nat} (hl : ¬ st j = -1) : ∀ n, j < n → (ht j).toInt ≤ (mxF st ht n).toInt
  | n + 1, h => by
    rw [mxF]
    by_cases e9 : j = n
    · subst e9
      rw [if_neg hl]
      by_cases hc : mxF st ht j < ht j
      · rw [if_pos hc]
        exact Int.le_refl _
      · rw [if_neg hc]
        rw [Int32.lt_iff_toInt_lt] at hc
        omega
    · have ih := mxF_ge hl n (by omega)
      by_cases hn : st n = -1
      · rw [if_pos hn]
        exact ih
      · rw [if_neg hn]
        by_cases hc : mxF st ht n < ht n
        · rw [if_pos hc]
          rw [Int32.lt_iff_toInt_lt] at hc
          omega
        · rw [if_neg hc]
          exact ih
theorem wN_pos {s : Int32} {j : Nat} (hs : st j = s) : ∀ n, j < n → 1 ≤ wN st ht s n
  | n + 1, h => by
    unfold wN
    by_cases e9 : j = n
    · subst e9
      rw [if_pos hs]
      omega
    · have := wN_pos hs n (by omega)
      omega
theorem weig_pos {s : Int32} (hH : okHt ht) {j : Nat} (hj : j < 12) (hs : st j = s) : 0 < weig st ht s := by
  obtain ⟨h1, h2⟩ := wN_b (st := st) (s := s) hH 12
  have h3 := wN_pos (ht := ht) hs 12 hj
  show 0 < sumN (weF st ht s) 12
  rw [h2]
  exact (nI_ltI (a := 0) (by omega) (by omega)).mpr h3
theorem sha_y {j : Nat} (hH : okHt ht) (hj : j < 12) (hl : ¬ st j = -1) : shaR st ht (nI j) = 1000 * (ht j + 1) / weig st ht (st j) := by
  unfold shaR
  rw [if_pos ((isK_n hj).mpr hl), nI_clamp (by omega), if_pos (weig_pos hH hj rfl), Int32.mul_comm]
theorem weig_ne {s : Int32} (hH : okHt ht) {j : Nat} (hj : j < 12) (hs : st j = s) : ¬ weig st ht s = 0 := fun z => by
  have := weig_pos hH hj hs
  rw [z] at this
  exact absurd this (by decide)
theorem rcF_ge {s w ch : Int32} : ∀ n r t, 2 ≤ r → r + n ≤ 1000 → ¬ rcF st ht s w ch n r t = 1
  | 0, _, _, _, _ => by
    rw [rcF]
    decide
  | n + 1, r, t, h1, h2 => by
    rw [rcF]
    split
    · exact fun z => by
        have := (nI_eq (a := r) (b := 1) (by omega) (by omega)).mp z
        omega
    · exact rcF_ge n (r + 1) _ (by omega) (by omega)
/-! sums over strings -/
theorem sumN_add {f g : F} : ∀ n, sumN (fun k => f k + g k) n = sumN f n + sumN g n
  | 0 => by
    show (0 : Int32) = 0 + 0
    decide
  | n + 1 => by
    rw [sumN, sumN, sumN, sumN_add n]
    ac_rfl
def onF (st u : F) (s : Int32) : F := fun k => if st k = s then u k else 0
def lvF (st u : F) : F := fun k => if st k = -1 then 0 else u k
theorem on_4 {u : F} (h : okSt st) (k : Nat) : onF st u (nI 0) k + onF st u (nI 1) k + onF st u (nI 2) k + onF st u (nI 3) k = lvF st u k := by
  unfold onF lvF
  rcases h k with e | ⟨q, hq, e⟩
  · rw [e, if_neg (by decide), if_neg (by decide), if_neg (by decide), if_neg (by decide), if_pos rfl]
    decide
  · rw [e, if_neg (nI_nm1 (by omega))]
    rcases q4 hq with rfl | rfl | rfl | rfl
    · rw [if_pos rfl, if_neg (by decide), if_neg (by decide), if_neg (by decide), Int32.add_zero, Int32.add_zero, Int32.add_zero]
    · rw [if_neg (by decide), if_pos rfl, if_neg (by decide), if_neg (by decide), Int32.add_zero, Int32.add_zero, Int32.zero_add]
    · rw [if_neg (by decide), if_neg (by decide), if_pos rfl, if_neg (by decide), Int32.add_zero, Int32.add_zero, Int32.zero_add]
    · rw [if_neg (by decide), if_neg (by decide), if_neg (by decide), if_pos rfl, Int32.add_zero, Int32.add_zero, Int32.zero_add]
theorem sum_on {u : F} (h : okSt st) : sumN (fun t => sumN (onF st u (nI t)) 12) 4 = sumN (lvF st u) 12 := by
  show 0 + sumN (onF st u (nI 0)) 12 + sumN (onF st u (nI 1)) 12 + sumN (onF st u (nI 2)) 12 + sumN (onF st u (nI 3)) 12 = _
  rw [Int32.zero_add, ← sumN_add, ← sumN_add, ← sumN_add]
  exact sumN_eq 12 (fun k _ => on_4 h k)
end WL
def strF (σ : Sky) : F := fun t => kitesB (sSt σ) (sHt σ) (nI t) (-1) 1000000
def wlF (σ : Sky) : F := lvF (sSt σ) (fun k => sHt σ k + 1)
theorem str_all {σ : Sky} (hg : gdS σ) : sumN (strF σ) 4 = allK (sSt σ) := by
  have e1 : sumN (strF σ) 4 = sumN (fun t => sumN (onF (sSt σ) (fun _ => 1) (nI t)) 12) 4 := sumN_eq 4 (fun t _ => sumN_eq 12 (fun k _ => by
    have hk := ht_int hg.2.1 k
    refine ite_iff ⟨fun z => z.1, fun z => ⟨z, ?_, ?_⟩⟩ _ _
    · rw [Int32.lt_iff_toInt_lt, im1_int]
      omega
    · rw [Int32.lt_iff_toInt_lt, iMx_int]
      omega))
  rw [e1, sum_on hg.1]
  rfl
theorem w_all {σ : Sky} (hg : gdS σ) : sumN (wAllF σ) 4 = sumN (wlF σ) 12 := sum_on hg.1
theorem c_sum {f : F} {c : Nat → Nat} (h : ∀ q, q < 4 → f q = nI (c q)) : sumN f 4 = nI (c 0 + c 1 + c 2 + c 3) := by
  show 0 + f 0 + f 1 + f 2 + f 3 = _
  rw [h 0 (by omega), h 1 (by omega), h 2 (by omega), h 3 (by omega), Int32.zero_add, nI_add, nI_add, nI_add]
theorem fm_n {b : Nat} (h : b < 2 ^ 31) : fmo8 (nI b) = b % 8 := by
  unfold fmo8
  rw [pk_tn (by omega)]
/-! by calls -/
section WC
variable {n : Nat} {σ : Sky}
theorem w_b (h : gd n σ) (j : Nat) : ∃ b, b < 92 ∧ sHt σ j = nI b := h.1.2.1 j
theorem w_lvl (h : gd n σ) {j : Nat} (hj : j < 12) (hl : ¬ sSt σ j = -1) : ¬ mxF (sSt σ) (sHt σ) 12 < sHt σ j := by
  rw [Int32.lt_iff_toInt_lt]
  have := mxF_ge (ht := sHt σ) hl 12 hj
  omega
/-- who is above: nobody, or p -/
theorem w_up (h : gd n σ) {j q b : Nat} (hj : j < 12) (hq : q < 4) (hs : sSt σ j = nI q) (hb : sHt σ j = nI b) : (low (sSt σ) (sHt σ) (nI q) (nI b) = -10005 ∧ kitesB (sSt σ) (sHt σ) (nI q) (nI b) 1000000 = 0 ∧ hig (sSt σ) (sHt σ) (nI q) 1000000 = nI j) ∨ ∃ p bp, p < 12 ∧ low (sSt σ) (sHt σ) (nI q) (nI b) = nI p ∧ sSt σ p = nI q ∧ sHt σ p = nI bp ∧ nI b < nI bp ∧ hig (sSt σ) (sHt σ) (nI q) (nI bp) = nI j ∧ kitesB (sSt σ) (sHt σ) (nI q) (nI bp) 1000000 = kitesB (sSt σ) (sHt σ) (nI q) (nI b) 1000000 - 1 := by
  obtain ⟨hg, hd, hc⟩ := h
  have hs1 : ¬ nI q = -1 := nI_nm1 (by omega)
  have hji := ht_int hg.2.1 j
  rcases low_spec (st := sSt σ) (s := nI q) (t := nI b) hg.2.1 12 with ⟨e1, h1⟩ | ⟨p, hp, hps, hpt, e1, h1⟩
  · refine Or.inl ⟨congrArg Prod.fst e1, kb_none h1, ?_⟩
    refine hig_is hg.2.1 hd hs1 hj hs (by rw [iMx_int]; omega) (fun k hk hks _ => ?_)
    have := h1 k hk hks
    rw [hb]
    omega
  · obtain ⟨bp, hbp, ebp⟩ := hg.2.1 p
    refine Or.inr ⟨p, bp, hp, congrArg Prod.fst e1, hps, ebp, ?_, ?_, ?_⟩
    · rw [← ebp]
      exact Int32.lt_iff_toInt_lt.mpr hpt
    · rw [← ebp]
      refine hig_is hg.2.1 hd hs1 hj hs (by rw [hb]; exact hpt) (fun k hk hks hkt => ?_)
      rw [hb]
      by_cases z : (nI b).toInt < (sHt σ k).toInt
      · have := h1 k hk hks z
        omega
      · omega
    · rw [kb_step (lo := nI b) hg.2.1 hd hs1 hp hps hpt h1, ebp, Int32.add_sub_cancel]
/-- who is below: nobody, or p -/
theorem w_dn (h : gd n σ) {j q b : Nat} (hj : j < 12) (hq : q < 4) (hs : sSt σ j = nI q) (hb : sHt σ j = nI b) : (hig (sSt σ) (sHt σ) (nI q) (nI b) = -10005 ∧ low (sSt σ) (sHt σ) (nI q) (-1) = nI j ∧ kitesB (sSt σ) (sHt σ) (nI q) (nI b) 1000000 = kitesB (sSt σ) (sHt σ) (nI q) (-1) 1000000 - 1) ∨ ∃ p bp, p < 12 ∧ hig (sSt σ) (sHt σ) (nI q) (nI b) = nI p ∧ sSt σ p = nI q ∧ sHt σ p = nI bp ∧ nI bp < nI b ∧ low (sSt σ) (sHt σ) (nI q) (nI bp) = nI j := by
  obtain ⟨hg, hd, hc⟩ := h
  have hs1 : ¬ nI q = -1 := nI_nm1 (by omega)
  have hji := ht_int hg.2.1 j
  rcases hig_spec (st := sSt σ) (s := nI q) (t := nI b) hg.2.1 12 with ⟨e1, h1⟩ | ⟨p, hp, hps, hpt, e1, h1⟩
  · have hm : ∀ k, k < 12 → sSt σ k = nI q → (-1 : Int32).toInt < (sHt σ k).toInt → (sHt σ j).toInt ≤ (sHt σ k).toInt := fun k hk hks _ => by
      have := h1 k hk hks
      rw [hb]
      omega
    refine Or.inl ⟨congrArg Prod.fst e1, low_is hg.2.1 hd hs1 hj hs (by rw [im1_int]; omega) hm, ?_⟩
    rw [kb_step (lo := -1) hg.2.1 hd hs1 hj hs (by rw [im1_int]; omega) hm, hb, Int32.add_sub_cancel]
  · obtain ⟨bp, hbp, ebp⟩ := hg.2.1 p
    refine Or.inr ⟨p, bp, hp, congrArg Prod.fst e1, hps, ebp, ?_, ?_⟩
    · rw [← ebp]
      exact Int32.lt_iff_toInt_lt.mpr hpt
    · rw [← ebp]
      refine low_is hg.2.1 hd hs1 hj hs (by rw [hb]; exact hpt) (fun k hk hks hkt => ?_)
      rw [hb]
      by_cases z : (sHt σ k).toInt < (nI b).toInt
      · have := h1 k hk hks z
        omega
      · omega
/-- whether it would be cut, and how many readings until then -/
theorem w_cut (σ : Sky) {j : Nat} (hj : j < 12) (hl : ¬ sSt σ j = -1) : (aboutRR σ (nI j) 2 = 1 ∧ rcR (sSt σ) (sHt σ) (windN σ) (sCh σ) (nI j) = 1) ∨ (aboutRR σ (nI j) 2 = 0 ∧ ¬ rcR (sSt σ) (sHt σ) (windN σ) (sCh σ) (nI j) = 1) := by
  unfold aboutRR rcR
  rw [if_pos ((isK_n hj).mpr hl), if_pos ((isK_n hj).mpr hl), nI_clamp (by omega)]
  unfold aboutRG
  by_cases hc : sCh σ < risenH σ j (windN σ)
  · refine Or.inl ⟨?_, ?_⟩
    · rw [if_pos hc, if_neg (by decide), if_neg (by decide), if_pos rfl]
    · rw [rcF, if_pos hc]
      rfl
  · refine Or.inr ⟨?_, ?_⟩
    · rw [if_neg hc, if_neg (by decide), if_neg (by decide), if_pos rfl]
    · rw [rcF, if_neg hc]
      exact rcF_ge 98 2 _ (by omega) (by omega)
theorem w_rc (h : gd n σ) (hn : n ≤ 48) (j : Nat) : ¬ sRe σ j < sCu σ j := by
  obtain ⟨r, c, h1, h2, h3, h4⟩ := h.2.2.1 j
  rw [h3, h4]
  exact nI_nlt h2 (by omega)
/-- no two at one height, as calls tell it -/
theorem w_two (h : gd n σ) {j o q b : Nat} (hj : j < 12) (ho : o < j) (hq : q < 4) (hs : sSt σ j = nI q) (hb : sHt σ j = nI b) (h1 : aboutKR σ (nI o) 1 = nI q) : ¬ aboutKR σ (nI o) 2 = nI b := fun h2 => by
  by_cases hl : sSt σ o = -1
  · rw [kt_n (by omega) hl] at h1
    have := congrArg Int32.toInt h1
    rw [nI_toInt (by omega), show (-10001 : Int32).toInt = -10001 from by decide] at this
    omega
  · rw [kt_y (by omega) hl, kg1] at h1
    rw [kt_y (by omega) hl, kg2] at h2
    have := h.2.1 o j (by omega) hj hl (by rw [h1, hs]) (by rw [h2, hb])
    omega
theorem w_cuts (h : gd n σ) (hn : n ≤ 48) : ¬ sRs σ < sumN (sCf σ) 4 := by
  obtain ⟨r, c, h1, h2, h3, h4⟩ := h.2.2.2.1
  rw [h2, c_sum h3]
  exact nI_nlt h4 (by omega)
theorem w_beat (h : gd n σ) (hn : n ≤ 48) : sBs σ - sBs σ / 8 * 8 = nI (fmo8 (sBs σ)) := by
  obtain ⟨b, h1, h2⟩ := h.2.2.2.2
  rw [h2, show (8 : Int32) = nI 8 from rfl, pk_rem (by omega) (by omega) (by omega), fm_n (by omega)]
theorem w_wind (σ : Sky) : windAR σ (nI (fmo8 (sBs σ))) = windN σ := wa_n (fmo8_lt _)
theorem isS_n {t : Nat} (h : t < 4) : isS (nI t) := isS_of ⟨t, h, rfl⟩
theorem sr_0 {t : Nat} (h : t < 4) : aboutSR σ (nI t) 0 = strF σ t := by
  unfold aboutSR aboutSG
  rw [if_pos (isS_n h), if_pos rfl]
  rfl
theorem sr_1 {t : Nat} (h : t < 4) : aboutSR σ (nI t) 1 = weig (sSt σ) (sHt σ) (nI t) := by
  unfold aboutSR aboutSG
  rw [if_pos (isS_n h), if_neg (by decide), if_pos rfl]
theorem sr_2 {t : Nat} (h : t < 4) : aboutSR σ (nI t) 2 = hig (sSt σ) (sHt σ) (nI t) 1000000 := by
  unfold aboutSR aboutSG
  rw [if_pos (isS_n h), if_neg (by decide), if_neg (by decide), if_pos rfl]
theorem sr_3 {t : Nat} (h : t < 4) : aboutSR σ (nI t) 3 = low (sSt σ) (sHt σ) (nI t) (-1) := by
  unfold aboutSR aboutSG
  rw [if_pos (isS_n h), if_neg (by decide), if_neg (by decide), if_neg (by decide), if_pos rfl]
theorem sr_5 {t : Nat} (h : t < 4) : aboutSR σ (nI t) 5 = sCf σ t := by
  unfold aboutSR aboutSG
  rw [if_pos (isS_n h), if_neg (by decide), if_neg (by decide), if_neg (by decide), if_neg (by decide), if_neg (by decide), if_pos rfl, nI_clamp (by omega)]
/-- the sums of isWell's loop, at a kite that flies, and at one that doesn't -/
theorem ma_y {j : Nat} (hl : ¬ sSt σ j = -1) : sumN (liF (sSt σ)) (j + 1) = sumN (liF (sSt σ)) j + 1 := by
  rw [sumN, show liF (sSt σ) j = 1 from if_neg hl]
theorem ma_n {j : Nat} (hl : sSt σ j = -1) : sumN (liF (sSt σ)) (j + 1) = sumN (liF (sSt σ)) j := by
  rw [sumN, show liF (sSt σ) j = 0 from if_pos hl, Int32.add_zero]
theorem we_y {j : Nat} (hl : ¬ sSt σ j = -1) : sumN (wlF σ) (j + 1) = sumN (wlF σ) j + (sHt σ j + 1) := by
  rw [sumN, show wlF σ j = sHt σ j + 1 from if_neg hl]
theorem we_n {j : Nat} (hl : sSt σ j = -1) : sumN (wlF σ) (j + 1) = sumN (wlF σ) j := by
  rw [sumN, show wlF σ j = 0 from if_pos hl, Int32.add_zero]
theorem fr_y {j : Nat} (hl : ¬ sSt σ j = -1) : sumN (frF (sSt σ) (sFr σ)) (j + 1) = sumN (frF (sSt σ) (sFr σ)) j + (if sFr σ j = 0 then 0 else 1) := by
  rw [sumN]
  congr 1
  show (if ¬ sSt σ j = -1 ∧ ¬ sFr σ j = 0 then (1 : Int32) else 0) = _
  by_cases z : sFr σ j = 0
  · rw [if_pos z, if_neg (fun y => y.2 z)]
  · rw [if_neg z, if_pos ⟨hl, z⟩]
theorem fr_n {j : Nat} (hl : sSt σ j = -1) : sumN (frF (sSt σ) (sFr σ)) (j + 1) = sumN (frF (sSt σ) (sFr σ)) j := by
  rw [sumN, show frF (sSt σ) (sFr σ) j = 0 from if_neg (fun y => y.1 hl), Int32.add_zero]
end WC
/-! as calls tell it -/
section UC
variable {n : Nat} {σ : Sky}
theorem nI_nN {k : Nat} (h : k < 2 ^ 31) : ¬ nI k = -10005 := fun z => by
  have := congrArg Int32.toInt z
  rw [nI_toInt h, show (-10005 : Int32).toInt = -10005 from by decide] at this
  omega
theorem u_al {p q : Nat} (hq : q < 4) (hs : sSt σ p = nI q) : ¬ sSt σ p = -1 := by
  rw [hs]
  exact nI_nm1 (by omega)
theorem u_up (h : gd n σ) {j q b : Nat} (hj : j < 12) (hq : q < 4) (hs : sSt σ j = nI q) (hb : sHt σ j = nI b) : (low (sSt σ) (sHt σ) (nI q) (nI b) = -10005 ∧ aboutKR σ (nI j) 6 = 0 ∧ aboutSR σ (nI q) 2 = nI j) ∨ ∃ p bp, low (sSt σ) (sHt σ) (nI q) (nI b) = nI p ∧ ¬ nI p = -10005 ∧ nI b < nI bp ∧ aboutKR σ (nI p) 8 = nI j ∧ aboutKR σ (nI p) 2 = nI bp ∧ aboutKR σ (nI p) 1 = nI q ∧ aboutKR σ (nI p) 6 = aboutKR σ (nI j) 6 - 1 := by
  have hl := u_al hq hs
  rcases w_up h hj hq hs hb with ⟨e1, e2, e3⟩ | ⟨p, bp, hp, e1, e2, e3, e4, e5, e6⟩
  · exact Or.inl ⟨e1, by rw [kt_y hj hl, kg6, hs, hb, e2], by rw [sr_2 hq, e3]⟩
  · have hpl := u_al hq e2
    exact Or.inr ⟨p, bp, e1, nI_nN (by omega), e4, by rw [kt_y hp hpl, kg8, e2, e3, e5], by rw [kt_y hp hpl, kg2, e3], by rw [kt_y hp hpl, kg1, e2], by rw [kt_y hp hpl, kg6, kt_y hj hl, kg6, hs, hb, e2, e3, e6]⟩
theorem u_dn (h : gd n σ) {j q b : Nat} (hj : j < 12) (hq : q < 4) (hs : sSt σ j = nI q) (hb : sHt σ j = nI b) : (hig (sSt σ) (sHt σ) (nI q) (nI b) = -10005 ∧ aboutSR σ (nI q) 3 = nI j ∧ aboutKR σ (nI j) 6 = aboutSR σ (nI q) 0 - 1) ∨ ∃ p bp, hig (sSt σ) (sHt σ) (nI q) (nI b) = nI p ∧ ¬ nI p = -10005 ∧ aboutKR σ (nI p) 7 = nI j ∧ aboutKR σ (nI p) 2 = nI bp ∧ nI bp < nI b := by
  have hl := u_al hq hs
  rcases w_dn h hj hq hs hb with ⟨e1, e2, e3⟩ | ⟨p, bp, hp, e1, e2, e3, e4, e5⟩
  · exact Or.inl ⟨e1, by rw [sr_3 hq, e2], by rw [kt_y hj hl, kg6, hs, hb, sr_0 hq, e3]; rfl⟩
  · have hpl := u_al hq e2
    exact Or.inr ⟨p, bp, e1, nI_nN (by omega), by rw [kt_y hp hpl, kg7, e2, e3, e5], by rw [kt_y hp hpl, kg2, e3], e4⟩
theorem u_sha (h : gd n σ) {j q b : Nat} (hj : j < 12) (hq : q < 4) (hs : sSt σ j = nI q) (hb : sHt σ j = nI b) : shaR (sSt σ) (sHt σ) (nI j) = 1000 * (nI b + 1) / weig (sSt σ) (sHt σ) (nI q) := by
  rw [sha_y h.1.2.1 hj (u_al hq hs), hs, hb]
end UC
