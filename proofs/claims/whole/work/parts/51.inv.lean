/-! THE TIE between the class and the model, and that every act keeps it -/
def hAt (κ : KSt) (i : Nat) : Sky := kjH κ ((kjx κ + 4 - kjz κ + i) % 4)
def Inv (κ : KSt) (μ : MD) : Prop := reL (kjS κ) (mAl μ) ∧ (okH κ ∧ mHL μ = nI (kjz κ) ∧ ∀ i, i < kjz κ → reL (hAt κ i) (mHi μ i)) ∧ ((∀ j, j < 4 → okFr (kjH κ j)) ∧ okFr (kjN κ)) ∧ (kjh κ = 0 ∧ mIT μ = 0 ∨ kjh κ = 1 ∧ mIT μ = 1 ∧ reL (kjN κ) (mSn μ)) ∧ (kjn κ ≤ 80 ∧ mTL μ = nI (kjn κ) ∧ txE (mTx μ) (kjg κ) (kjn κ)) ∧ kj1 κ = mSA μ ∧ kj2 κ = mSB μ
theorem okFr_of {σ : Sky} (h : fr01 σ) : okFr σ := by
  intro k _
  rcases h k with e | e <;> rw [e] <;> rfl
theorem okFr_re {σ : Sky} {τ : MS} (h : reL σ τ) : okFr σ := okFr_of h.1.2.2.2.1
theorem inv_fr {κ : KSt} {μ : MD} (h : Inv κ μ) : okFr (kjS κ) := okFr_re h.1
theorem inv_rec {κ : KSt} {μ : MD} (h : Inv κ μ) {q : Int32} {σ2 : Sky} {τ2 : MS} (z : SZt) (ha : isAct q) (hr : reL σ2 τ2) : Inv (kRec (kjSB (kZS κ z) σ2 (kjS κ)) q) (xAct (wAl (xKee μ) τ2) (kjz κ)) := by
  obtain ⟨h1, ⟨h2, h3, h4⟩, ⟨h5, h6⟩, h7, h8, h9⟩ := h
  unfold kRec
  rw [if_pos ha]
  have hz := h2.2
  have hx := h2.1
  have hfr : ∀ j, j < 4 → okFr (updS (kjH κ) (kjx κ) (kjS κ) j) := by
    intro j hj
    unfold updS
    split
    · exact okFr_re h1
    · exact h5 j hj
  unfold xAct
  by_cases e4 : kjz κ = 4
  · rw [if_pos e4]
    refine ⟨hr, ⟨⟨Nat.mod_lt _ (by omega), by show min (kjz κ + 1) 4 ≤ 4; omega⟩, ?_, ?_⟩, ⟨hfr, h6⟩, h7, h8, h9⟩
    · show (4 : Int32) = nI (min (kjz κ + 1) 4)
      rw [e4]
      rfl
    · intro i hi
      have hi4 : i < 4 := by have hi' : i < min (kjz κ + 1) 4 := hi; omega
      show reL (updS (kjH κ) (kjx κ) (kjS κ) (((kjx κ + 1) % 4 + 4 - min (kjz κ + 1) 4 + i) % 4)) (if i = 3 then mAl μ else mHi μ (i + 1))
      by_cases e3 : i = 3
      · rw [if_pos e3]
        have e : ((kjx κ + 1) % 4 + 4 - min (kjz κ + 1) 4 + i) % 4 = kjx κ := by omega
        rw [e]
        unfold updS
        rw [if_pos rfl]
        exact h1
      · rw [if_neg e3]
        have e : ¬ ((kjx κ + 1) % 4 + 4 - min (kjz κ + 1) 4 + i) % 4 = kjx κ := by omega
        have e2 : ((kjx κ + 1) % 4 + 4 - min (kjz κ + 1) 4 + i) % 4 = (kjx κ + 4 - kjz κ + (i + 1)) % 4 := by omega
        unfold updS
        rw [if_neg e, e2]
        exact h4 (i + 1) (by omega)
  · rw [if_neg e4]
    refine ⟨hr, ⟨⟨Nat.mod_lt _ (by omega), by show min (kjz κ + 1) 4 ≤ 4; omega⟩, ?_, ?_⟩, ⟨hfr, h6⟩, h7, h8, h9⟩
    · show nI (kjz κ + 1) = nI (min (kjz κ + 1) 4)
      rw [show min (kjz κ + 1) 4 = kjz κ + 1 from by omega]
    · intro i hi
      have hi4 : i < kjz κ + 1 := by have hi' : i < min (kjz κ + 1) 4 := hi; omega
      show reL (updS (kjH κ) (kjx κ) (kjS κ) (((kjx κ + 1) % 4 + 4 - min (kjz κ + 1) 4 + i) % 4)) (if i = kjz κ then mAl μ else mHi μ i)
      by_cases e3 : i = kjz κ
      · rw [if_pos e3]
        have e : ((kjx κ + 1) % 4 + 4 - min (kjz κ + 1) 4 + i) % 4 = kjx κ := by omega
        rw [e]
        unfold updS
        rw [if_pos rfl]
        exact h1
      · rw [if_neg e3]
        have e : ¬ ((kjx κ + 1) % 4 + 4 - min (kjz κ + 1) 4 + i) % 4 = kjx κ := by omega
        have e2 : ((kjx κ + 1) % 4 + 4 - min (kjz κ + 1) 4 + i) % 4 = (kjx κ + 4 - kjz κ + i) % 4 := by omega
        unfold updS
        rw [if_neg e, e2]
        exact h4 i (by omega)
/-- the same answer, and the tie behind it -/
def AQ (κ : KSt) (X : Int32 × Sky) (Y : Int32 × MD) : Prop := X.1 = Y.1 ∧ Inv (kAct κ X).2 Y.2
theorem aq_yes {κ : KSt} {μ : MD} (h : Inv κ μ) {q : Int32} {σ2 : Sky} {τ2 : MS} (ha : isAct q) (hr : reL σ2 τ2) : AQ κ (q, σ2) (q, xAct (wAl (xKee μ) τ2) (kjz κ)) := ⟨rfl, inv_rec h (kjZ κ) ha hr⟩
theorem aq_no {κ : KSt} {μ : MD} (h : Inv κ μ) {q : Int32} (ha : ¬ isAct q) : AQ κ (q, kjS κ) (q, μ) := by
  refine ⟨rfl, ?_⟩
  show Inv (kRec (kjSB κ (kjS κ) (kjS κ)) q) μ
  unfold kRec
  rw [if_neg ha]
  exact h
theorem actI {k : Nat} (h : k < 2 ^ 31) : isAct (nI k) := ⟨nI_nA h, nErr h⟩
theorem actN {x : Int32} (h : isN x) : isAct x := ⟨fun e => by subst e; exact absurd h.1 (by decide), nErrN h⟩
theorem reNu {σ : Sky} {τ : MS} (h : reL σ τ) : sNu τ.1 = sNu σ := by obtain ⟨_, f, _, e⟩ := h; rw [e]; rfl
theorem reHt {σ : Sky} {τ : MS} (h : reL σ τ) : sHt τ.1 = sHt σ := by obtain ⟨_, f, _, e⟩ := h; rw [e]; rfl
theorem reWi {σ : Sky} {τ : MS} (h : reL σ τ) : sWi τ.1 = sWi σ := by obtain ⟨_, f, _, e⟩ := h; rw [e]; rfl
theorem reSt {σ : Sky} {τ : MS} (h : reL σ τ) : sSt τ.1 = dmF (sSt σ) := by obtain ⟨_, f, _, e⟩ := h; rw [e]; rfl
theorem reCh {σ : Sky} {τ : MS} (h : reL σ τ) : sCh τ.1 = sCh σ := by obtain ⟨_, f, _, e⟩ := h; rw [e]; rfl
theorem reSi {σ : Sky} {τ : MS} (h : reL σ τ) : sSi τ.1 = sSi σ := by obtain ⟨_, f, _, e⟩ := h; rw [e]; rfl
theorem reBe {σ : Sky} {τ : MS} (h : reL σ τ) : τ.2.1 = nI (fmo8 (sBs σ)) := by obtain ⟨_, f, _, e⟩ := h; rw [e]; rfl
theorem reK {σ : Sky} {τ : MS} (h : reL σ τ) (k : Int32) : isKm (sSt τ.1) k ↔ isK (sSt σ) k := by rw [reSt h]; exact isK_m h.1.1 k
/-! the acts -/
theorem a_fly {κ : KSt} {μ : MD} (h : Inv κ μ) (s n : Int32) : AQ κ (launchR (kjS κ) s n) (flyM μ (kjz κ) s n) := by
  have hr := h.1
  have ef : freeM (gSt (xKee μ)) = freeK (sSt (kjS κ)) := by
    show freeM (sSt (mAl μ).1) = _
    rw [reSt hr, free_eq hr.1.1]
  unfold launchR flyM flyMR
  rw [ef]
  by_cases h1 : isS s
  · by_cases h2 : isN n
    · by_cases h3 : freeK (sSt (kjS κ)) < 12
      · rw [if_pos h1, if_pos h2, if_pos h3, if_pos h1, if_pos h2, if_pos h3, if_neg (show ¬ nI (freeK (sSt (kjS κ))) = -10003 from fun e => nErr (k := freeK (sSt (kjS κ))) (by omega) (by rw [e]; decide))]
        exact aq_yes h (actI (by omega)) (launch_re hr (isS_v h1) h2 h3 (freeK_is h3))
      · rw [if_pos h1, if_pos h2, if_neg h3, if_pos h1, if_pos h2, if_neg h3, if_pos (show (-10003 : Int32) = -10003 from rfl)]
        exact aq_no h (by decide)
    · rw [if_pos h1, if_neg h2, if_pos h1, if_neg h2]
      exact aq_no h (by decide)
  · rw [if_neg h1, if_neg h1]
    exact aq_no h (by decide)
theorem a_take {κ : KSt} {μ : MD} (h : Inv κ μ) (k : Int32) : AQ κ (removeR (kjS κ) k) (takeM μ (kjz κ) k) := by
  have hr := h.1
  unfold removeR takeM
  by_cases h1 : isK (sSt (kjS κ)) k
  · rw [if_pos h1, if_pos ((reK hr k).mpr h1), show gNu μ = sNu (kjS κ) from reNu hr]
    exact aq_yes h (actN (hr.1.2.2.2.2.1 _)) (remove_re hr)
  · rw [if_neg h1, if_neg (fun y => h1 ((reK hr k).mp y))]
    exact aq_no h (by decide)
theorem p_read {κ : KSt} {μ : MD} (h : Inv κ μ) (k : Int32) : isKm (gSt μ) k → qK (kjS κ) k < 4 ∧ gSt μ k.toNatClampNeg = nI (qK (kjS κ) k) ∧ hR (mAl μ) k.toNatClampNeg (gWi μ (fmo8 (sBs (kjS κ)))) := by
  have hr := h.1
  intro hk
  obtain ⟨j, q, hj, hq, e, hcl, hs⟩ := kite_at hr.1 ((reK hr k).mp hk)
  have hq9 := qK_eq (σ := kjS κ) (k := k) hq (by rw [hcl]; exact hs)
  rw [hq9, hcl, show gSt μ = dmF (sSt (kjS κ)) from reSt hr, show gWi μ = sWi (kjS κ) from reWi hr]
  exact ⟨hq, by rw [dm_neg (by rw [hs]; exact vs4_1 (vs4_nI hq)), hs], (raise_re hr hj hq hs).2⟩
theorem a_read {κ : KSt} {μ : MD} (h : Inv κ μ) (k : Int32) : AQ κ (raiseR (kjS κ) k) (readM μ (kjz κ) (qK (kjS κ) k) (fmo8 (sBs (kjS κ))) k) := by
  have hr := h.1
  unfold raiseR readM
  by_cases h1 : isK (sSt (kjS κ)) k
  · rw [if_pos h1, if_pos ((reK hr k).mpr h1), show gWi μ = sWi (kjS κ) from reWi hr]
    obtain ⟨j, q, hj, hq, e, hcl, hs⟩ := kite_at hr.1 h1
    have hq9 := qK_eq (σ := kjS κ) (k := k) hq (by rw [hcl]; exact hs)
    have hR9 := (raise_re hr hj hq hs).1
    rw [hq9, hcl, show gNu (xRead (xKee μ) j q (sWi (kjS κ) (fmo8 (sBs (kjS κ))))) = sNu (raiseG (kjS κ) j) from reNu hR9]
    exact aq_yes h (actN (hR9.1.2.2.2.2.1 _)) hR9
  · rw [if_neg h1, if_neg (fun y => h1 ((reK hr k).mp y))]
    exact aq_no h (by decide)
theorem a_write {κ : KSt} {μ : MD} (h : Inv κ μ) (k n : Int32) : AQ κ (renumR (kjS κ) k n) (writeM μ (kjz κ) k n) := by
  have hr := h.1
  unfold renumR writeM
  by_cases h1 : isK (sSt (kjS κ)) k
  · by_cases h2 : isN n
    · rw [if_pos h1, if_pos h2, if_pos ((reK hr k).mpr h1), if_pos h2, show gNu μ = sNu (kjS κ) from reNu hr]
      exact aq_yes h (actN (hr.1.2.2.2.2.1 _)) (renum_re hr h2)
    · rw [if_pos h1, if_neg h2, if_pos ((reK hr k).mpr h1), if_neg h2]
      exact aq_no h (by decide)
  · rw [if_neg h1, if_neg (fun y => h1 ((reK hr k).mp y))]
    exact aq_no h (by decide)
theorem p_move {κ : KSt} {μ : MD} (h : Inv κ μ) (j : Nat) (s : Int32) : hL (mAl μ) j s (gHt μ j) := by
  obtain ⟨b, hb, eb⟩ := h.1.1.2.1 j
  rw [show gHt μ j = nI b from by show sHt (mAl μ).1 j = _; rw [reHt h.1]; exact eb]
  exact land_free (by omega)
theorem a_move {κ : KSt} {μ : MD} (h : Inv κ μ) (k s : Int32) : AQ κ (shiftR (kjS κ) k s) (moveM μ (kjz κ) k s) := by
  have hr := h.1
  unfold shiftR moveM
  by_cases h1 : isK (sSt (kjS κ)) k
  · have h1m : isKm (gSt μ) k := (reK hr k).mpr h1
    obtain ⟨j, q, hj, hq, e, hcl, hs⟩ := kite_at hr.1 h1
    subst hcl
    have hl : ¬ sSt (kjS κ) k.toNatClampNeg = -1 := by rw [hs]; exact vs4_1 (vs4_nI hq)
    have e1 : gSt μ k.toNatClampNeg = sSt (kjS κ) k.toNatClampNeg := by
      show sSt (mAl μ).1 _ = _
      rw [reSt hr, dm_neg hl]
    by_cases h2 : isS s
    · have c1 : isK (sSt (kjS κ)) k ∧ isS s := ⟨h1, h2⟩
      have c2 : isKm (gSt μ) k ∧ isS s := ⟨h1m, h2⟩
      by_cases h3 : sSt (kjS κ) k.toNatClampNeg = s
      · have c3 : gSt μ k.toNatClampNeg = s := e1.trans h3
        rw [if_pos c1, if_pos h3, if_pos c2, if_pos c3]
        exact aq_no h (by decide)
      · have c3 : ¬ gSt μ k.toNatClampNeg = s := fun y => h3 (e1.symm.trans y)
        rw [if_pos c1, if_neg h3, if_pos c2, if_neg c3]
        obtain ⟨s1, s2, ⟨d, hd, s3⟩, s4⟩ := shift_re hr hj (isS_v h2) hl h3
        rw [show gHt (xLands (xKee μ) k.toNatClampNeg s (gHt μ k.toNatClampNeg)) k.toNatClampNeg = land (sSt (kjS κ)) (sHt (kjS κ)) s (sHt (kjS κ) k.toNatClampNeg) from s2]
        exact aq_yes h (by rw [s3]; exact actI (by omega)) s1
    · rw [if_neg (fun y => h2 y.2), if_neg (fun y => h2 y.2)]
      exact aq_no h (by decide)
  · rw [if_neg (fun y => h1 y.1), if_neg (fun y => h1 ((reK hr k).mp y.1))]
    exact aq_no h (by decide)
theorem a_beat {κ : KSt} {μ : MD} (h : Inv κ μ) (n : Int32) : AQ κ (beatR (kjS κ) n) (beatM μ (kjz κ) n) ∧ hBt (mAl μ) n.toNatClampNeg := by
  have hr := h.1
  obtain ⟨b1, b2, b3⟩ := beat_re hr n.toNatClampNeg
  refine ⟨?_, b2⟩
  unfold beatR beatM
  by_cases h1 : 1 ≤ n ∧ n ≤ 100
  · rw [if_pos h1, if_pos h1, show gBe (xBeatN (xKee μ) n.toNatClampNeg) = nI (fmo8 (sBs (beatN (kjS κ) n.toNatClampNeg))) from b3]
    exact aq_yes h (actI (by have := fmo8_lt (sBs (beatN (kjS κ) n.toNatClampNeg)); omega)) b1
  · rw [if_neg h1, if_neg h1]
    exact aq_no h (by decide)
theorem wi0_int : (0 : Int32).toInt = 0 := by decide
theorem wi9_int : (9 : Int32).toInt = 9 := by decide
theorem wi5_int : (5 : Int32).toInt = 5 := by decide
theorem wi80_int : (80 : Int32).toInt = 80 := by decide
theorem a_wind {κ : KSt} {μ : MD} (h : Inv κ μ) (b w : Int32) : AQ κ (windR (kjS κ) b w) (windM μ (kjz κ) b w) := by
  have hr := h.1
  unfold windR windM
  rw [show gWi μ = sWi (kjS κ) from reWi hr]
  by_cases h1 : isB b
  · by_cases h2 : 0 ≤ w ∧ w ≤ 9
    · rw [if_pos h1, if_pos h2, if_pos h1, if_pos h2]
      by_cases h3 : sWi (kjS κ) b.toNatClampNeg = w
      · rw [if_pos h3, if_pos h3]
        exact aq_no h (by decide)
      · rw [if_neg h3, if_neg h3]
        obtain ⟨v, hv, ev⟩ := i32_in (x := w) (n := 9) (by have := h2.1; rw [Int32.le_iff_toInt_le, wi0_int] at this; exact this) (by have := h2.2; rw [Int32.le_iff_toInt_le, wi9_int] at this; exact this) (by omega)
        obtain ⟨u, hu, eu⟩ := hr.1.2.2.2.2.2.1 b.toNatClampNeg
        rw [ev]
        exact aq_yes h (by rw [eu]; exact actI (by omega)) (wind_re hr (by omega))
    · rw [if_pos h1, if_neg h2, if_pos h1, if_neg h2]
      exact aq_no h (by decide)
  · rw [if_neg h1, if_neg h1]
    exact aq_no h (by decide)
theorem a_set {κ : KSt} {μ : MD} (h : Inv κ μ) (k v : Int32) : AQ κ (setR (kjS κ) k v) (setM μ (kjz κ) k v) := by
  have hr := h.1
  unfold setR setM cutR sinR
  rw [show gCh μ = sCh (kjS κ) from reCh hr, show gSi μ = sSi (kjS κ) from reSi hr]
  by_cases h0 : k = 0
  · rw [if_pos h0, if_pos h0]
    by_cases h2 : 5 ≤ v ∧ v ≤ 80
    · rw [if_pos h2, if_pos h2]
      by_cases h3 : sCh (kjS κ) = v
      · rw [if_pos h3, if_pos h3]
        exact aq_no h (by decide)
      · rw [if_neg h3, if_neg h3]
        obtain ⟨ha, hb⟩ := h2
        rw [Int32.le_iff_toInt_le, wi5_int] at ha
        rw [Int32.le_iff_toInt_le, wi80_int] at hb
        obtain ⟨c, hc, ev⟩ := i32_in (x := v) (n := 80) (by omega) hb (by omega)
        obtain ⟨u, hu1, hu2, eu⟩ := hr.1.2.2.2.2.2.2.1
        rw [ev, nI_toInt (by omega)] at ha
        rw [ev]
        exact aq_yes h (by rw [eu]; exact actI (by omega)) (cut_re hr (by omega) hc)
    · rw [if_neg h2, if_neg h2]
      exact aq_no h (by decide)
  · rw [if_neg h0, if_neg h0]
    by_cases h1 : k = 1
    · rw [if_pos h1, if_pos h1]
      by_cases h2 : 0 ≤ v ∧ v ≤ 9
      · rw [if_pos h2, if_pos h2]
        by_cases h3 : sSi (kjS κ) = v
        · rw [if_pos h3, if_pos h3]
          exact aq_no h (by decide)
        · rw [if_neg h3, if_neg h3]
          obtain ⟨ha, hb⟩ := h2
          rw [Int32.le_iff_toInt_le, wi0_int] at ha
          rw [Int32.le_iff_toInt_le, wi9_int] at hb
          obtain ⟨c, hc, ev⟩ := i32_in (x := v) (n := 9) (by omega) hb (by omega)
          obtain ⟨u, hu1, eu⟩ := hr.1.2.2.2.2.2.2.2
          rw [ev]
          exact aq_yes h (by rw [eu]; exact actI (by omega)) (sin_re hr hc)
      · rw [if_neg h2, if_neg h2]
        exact aq_no h (by decide)
    · rw [if_neg h1, if_neg h1]
      exact aq_no h (by decide)
/-! the text -/
theorem char_pos {c : Int32} (hc : vp_nar .char c = c) : 0 ≤ c.toInt := by
  rw [← hc]
  show 0 ≤ ((c.toUInt32 % 65536).toInt32).toInt
  have h1 : (c.toUInt32 % 65536).toNat < 65536 := by
    rw [UInt32.toNat_mod]
    exact Nat.mod_lt _ (by decide)
  generalize c.toUInt32 % 65536 = u at h1 ⊢
  show 0 ≤ u.toBitVec.toInt
  rw [BitVec.toInt_eq_toNat_cond]
  have h2 : u.toBitVec.toNat = u.toNat := rfl
  rw [h2]
  split <;> omega
theorem t_type {κ : KSt} {μ : MD} (h : Inv κ μ) {c : Int32} (hc : vp_nar .char c = c) : (kType κ c).1 = (typeM μ (kjn κ) c).1 ∧ Inv (kType κ c).2 (typeM μ (kjn κ) c).2 := by
  have h0 := h
  obtain ⟨h1, h2, h3, h7, ⟨n1, n2, n3⟩, h9⟩ := h
  unfold kType typeM
  by_cases hn : kjn κ < 80
  · rw [if_pos hn, if_neg (by omega)]
    refine ⟨rfl, h1, h2, h3, h7, ⟨by show kjn κ + 1 ≤ 80; omega, rfl, ?_⟩, h9⟩
    intro p hp
    have hp9 : p < kjn κ + 1 := hp
    show upd (kjg κ) (kjn κ) c p = upd (mTx μ) (kjn κ) c p ∧ 0 ≤ (upd (mTx μ) (kjn κ) c p).toInt
    by_cases e : p = kjn κ
    · subst e
      rw [pk_us, pk_us]
      exact ⟨rfl, char_pos hc⟩
    · rw [pk_un e, pk_un e]
      exact n3 p (by omega)
  · rw [if_neg hn, if_pos (by omega)]
    exact ⟨rfl, h0⟩
theorem t_clr {κ : KSt} {μ : MD} (h : Inv κ μ) : (kClr κ).1 = mTL μ ∧ Inv (kClr κ).2 (wTL μ 0) := by
  obtain ⟨h1, h2, h3, h7, ⟨n1, n2, n3⟩, h9⟩ := h
  exact ⟨n2.symm, h1, h2, h3, h7, ⟨by show 0 ≤ 80; omega, rfl, fun p hp => absurd hp (Nat.not_lt_zero _)⟩, h9⟩
theorem t_undo {κ : KSt} {μ : MD} (h : Inv κ μ) : (kUndo κ).1 = (undoM μ (kjz κ)).1 ∧ Inv (kUndo κ).2 (undoM μ (kjz κ)).2 := by
  have h0 := h
  obtain ⟨h1, ⟨⟨x1, x2⟩, h3, h4⟩, ⟨h5, h6⟩, h7, h8, h9⟩ := h
  unfold kUndo undoM
  by_cases hz : kjz κ = 0
  · rw [if_pos hz, if_pos hz]
    exact ⟨rfl, h0⟩
  · rw [if_neg hz, if_neg hz]
    refine ⟨rfl, ?_, ⟨⟨Nat.mod_lt _ (by omega), by show kjz κ - 1 ≤ 4; omega⟩, rfl, ?_⟩, ⟨h5, h6⟩, h7, h8, h9⟩
    · have := h4 (kjz κ - 1) (by omega)
      unfold hAt at this
      rw [show (kjx κ + 4 - kjz κ + (kjz κ - 1)) % 4 = (kjx κ + 3) % 4 from by omega] at this
      exact this
    · intro i hi
      have hi9 : i < kjz κ - 1 := hi
      have := h4 i (by omega)
      unfold hAt at this
      show reL (kjH κ (((kjx κ + 3) % 4 + 4 - (kjz κ - 1) + i) % 4)) (mHi μ i)
      rw [show ((kjx κ + 3) % 4 + 4 - (kjz κ - 1) + i) % 4 = (kjx κ + 4 - kjz κ + i) % 4 from by omega]
      exact this
theorem allK_nI (st : F) : ∀ n, n ≤ 12 → ∃ d, d ≤ n ∧ sumN (liF st) n = nI d
  | 0, _ => ⟨0, Nat.le_refl _, rfl⟩
  | n + 1, h => by
    obtain ⟨d, hd, e⟩ := allK_nI st n (by omega)
    rw [sumN, e]
    unfold liF
    by_cases h1 : st n = -1
    · rw [if_pos h1]
      exact ⟨d, by omega, by rw [Int32.add_zero]⟩
    · rw [if_neg h1]
      exact ⟨d + 1, by omega, nI_add d 1⟩
theorem t_keep {κ : KSt} {μ : MD} (h : Inv κ μ) : (kKeep κ).1 = (keepM μ).1 ∧ Inv (kKeep κ).2 (keepM μ).2 := by
  obtain ⟨h1, h2, ⟨h5, h6⟩, h7, h8, h9⟩ := h
  refine ⟨?_, h1, h2, ⟨h5, okFr_re h1⟩, Or.inr ⟨rfl, rfl, h1⟩, h8, h9⟩
  show allK (sSt (kjS κ)) = many4 (sSt (mAl μ).1)
  rw [reSt h1, many_eq h1.1.1]
theorem t_rest {κ : KSt} {μ : MD} (h : Inv κ μ) : (kRest κ).1 = (restM μ (kjz κ)).1 ∧ Inv (kRest κ).2 (restM μ (kjz κ)).2 := by
  have h0 := h
  obtain ⟨h1, h2, h5, h7, h8, h9⟩ := h
  unfold kRest restM
  rcases h7 with ⟨e1, e2⟩ | ⟨e1, e2, e3⟩
  · rw [if_pos e1, if_pos e2]
    exact ⟨rfl, h0⟩
  · rw [if_neg (by rw [e1]; decide), if_neg (by rw [e2]; decide)]
    obtain ⟨d, hd, ed⟩ := allK_nI (sSt (kjN κ)) 12 (Nat.le_refl _)
    refine ⟨?_, ?_⟩
    · show allK (sSt (kjN κ)) = many4 (sSt (mSn μ).1)
      rw [reSt e3, many_eq e3.1.1]
    · exact inv_rec h0 (kjZ κ) (by show isAct (sumN (liF (sSt (kjN κ))) 12); rw [ed]; exact actI (by omega)) e3
theorem t_stop {κ : KSt} {μ : MD} (h : Inv κ μ) (w : Int32) : kStp κ w = stopM μ w := by
  unfold kStp stopM
  rw [h.2.2.2.2.2.1, h.2.2.2.2.2.2]
/-! what is told -/
theorem t_count {κ : KSt} {μ : MD} (h : Inv κ μ) (w : Int32) : kCnt κ w = cntM μ (fmo8 (sBs (kjS κ))) w := by
  obtain ⟨⟨hg, f, hf, hm⟩, ⟨_, h3, _⟩, _, _, ⟨_, n2, _⟩, _⟩ := h
  exact (cnt_eq hg hf hm h3 n2 w).symm
theorem t_be {κ : KSt} {μ : MD} (h : Inv κ μ) : gBe μ = nI (fmo8 (sBs (kjS κ))) := reBe h.1
theorem t_ifRead {κ : KSt} {μ : MD} (h : Inv κ μ) (k w : Int32) : aboutRR (kjS κ) k w = (ifRM μ (qK (kjS κ) k) (fmo8 (sBs (kjS κ))) k w).1 ∧ Inv κ (ifRM μ (qK (kjS κ) k) (fmo8 (sBs (kjS κ))) k w).2 := by
  obtain ⟨hg, f, hf, hm⟩ := h.1
  refine ⟨(ifR_eq hg hm k w).1.symm, ?_⟩
  unfold ifRM
  split
  · split
    · exact h
    · exact h
  · exact h
theorem t_rdc {κ : KSt} {μ : MD} (h : Inv κ μ) (k : Int32) : rcR (sSt (kjS κ)) (sHt (kjS κ)) (windN (kjS κ)) (sCh (kjS κ)) k = (rtM μ (qK (kjS κ) k) (fmo8 (sBs (kjS κ))) k).1 ∧ Inv κ (rtM μ (qK (kjS κ) k) (fmo8 (sBs (kjS κ))) k).2 ∧ (isKm (gSt μ) k → qK (kjS κ) k < 4 ∧ gSt μ k.toNatClampNeg = nI (qK (kjS κ) k) ∧ rtH k.toNatClampNeg (qK (kjS κ) k) (gWi μ (fmo8 (sBs (kjS κ)))) 99 (mAl μ)) := by
  obtain ⟨hg, f, hf, hm⟩ := h.1
  obtain ⟨e1, e2, e3⟩ := rdc_eq hg hm k
  refine ⟨e1.symm, ?_, e3⟩
  unfold rtM
  split
  · exact h
  · exact h
theorem t_down {κ : KSt} {μ : MD} (h : Inv κ μ) (k g : Int32) : suR (kjS κ) k g = (diM μ k g).1 ∧ Inv κ (diM μ k g).2 ∧ (isKm (gSt μ) k → diH k.toNatClampNeg g 201 (mAl μ)) := by
  obtain ⟨hg, f, hf, hm⟩ := h.1
  obtain ⟨e1, e2, e3⟩ := down_eq hg hf hm k g
  refine ⟨e1.symm, ?_, e3⟩
  unfold diM
  split
  · split
    · exact h
    · exact h
  · exact h
theorem t_safe {κ : KSt} {μ : MD} (h : Inv κ μ) : gsF (sSt (kjS κ)) (sHt (kjS κ)) (sCh (kjS κ)) 10 = swF (mAl μ) 10 ∧ ∀ n, n < 10 → hSf (mAl μ) (nI n) := by
  obtain ⟨hg, f, hf, hm⟩ := h.1
  rw [hm]
  exact ⟨(swF_eq hg 10 (Nat.le_refl _)).symm, fun n hn => hSf_ok hg hn⟩
theorem t_calm {κ : KSt} {μ : MD} (h : Inv κ μ) : clF (sSt (kjS κ)) (sHt (kjS κ)) 3 = clM (gSt μ) (gHt μ) 3 ∧ ∀ s, s < 4 → hF (gSt μ) (gHt μ) (nI s) 0 := by
  obtain ⟨hg, f, hf, hm⟩ := h.1
  rw [gmSt hm, gmHt hm]
  exact ⟨(cl_eq 3 (Nat.le_refl _)).1.symm, fun s _ => free_0⟩
/-! a text carried out -/
def pfPost (E : Ev) (m : Nat) (b : Nat → Nat) (κ : KSt) (q : Int32) (w : va_W) : Prop := q = (kPrf κ).1 ∧ ∃ μ2, w = modW E m b μ2 ∧ Inv (kPrf κ).2 μ2
theorem t_pre {κ : KSt} {μ : MD} (h : Inv κ μ) (nu cm fi se : Int32) : (faF (mTx μ) (kjn κ) (kjn κ + 1) 0 nu cm fi se) = -10005 → ∀ r : R6, pfH (mTx μ) (kjn κ) (kjn κ + 1) (mAl μ) 0 r := by
  intro e r
  obtain ⟨h1, h2, h3, h7, ⟨n1, n2, n3⟩, h9⟩ := h
  obtain ⟨e1, e2, e3⟩ := fa_eq n3 n1 80 (kjn κ + 1) ((kjZ κ).1, (kjZ κ).2.1, (kjZ κ).2.2.1, 0, 0, (kjZ κ).2.2.2.2.2.1, (kjZ κ).2.2.2.2.2.2) nu cm fi se (Nat.zero_le _) (by show kjn κ - 0 < 2 * 80; omega) (by show kjn κ - 0 < kjn κ + 1; omega)
  exact ((e2 (e1.trans e)).2.2 (kjn κ + 1) _ _ r h1 (by show kjn κ - 0 < kjn κ + 1; omega)).1
theorem t_perf {E : Ev} {m : Nat} {b : Nat → Nat} {κ : KSt} {μ : MD} (h : Inv κ μ) (nu cm fi se : Int32) (q : Int32) (w : va_W) (hp : ∃ (r r2 : R6) (p2 : Nat), (¬ (faF (mTx μ) (kjn κ) (kjn κ + 1) 0 nu cm fi se) = -10005 ∧ q = -10100 - (faF (mTx μ) (kjn κ) (kjn κ + 1) 0 nu cm fi se) ∧ w = modR E m b μ p2 r2) ∨ ((faF (mTx μ) (kjn κ) (kjn κ + 1) 0 nu cm fi se) = -10005 ∧ q = (pfE μ (kjz κ) (pfF (mTx μ) (kjn κ) (kjn κ + 1) (mAl μ) 0 r 0)).1 ∧ w = modR E m b (pfE μ (kjz κ) (pfF (mTx μ) (kjn κ) (kjn κ + 1) (mAl μ) 0 r 0)).2 p2 r2)) : pfPost E m b κ q w := by
  have h0 := h
  obtain ⟨h1, h2, h3, h7, ⟨n1, n2, n3⟩, h9⟩ := h
  obtain ⟨r, r2, p2, hp⟩ := hp
  obtain ⟨e1, e2, e3⟩ := fa_eq n3 n1 80 (kjn κ + 1) ((kjZ κ).1, (kjZ κ).2.1, (kjZ κ).2.2.1, 0, 0, (kjZ κ).2.2.2.2.2.1, (kjZ κ).2.2.2.2.2.2) nu cm fi se (Nat.zero_le _) (by show kjn κ - 0 < 2 * 80; omega) (by show kjn κ - 0 < kjn κ + 1; omega)
  have hnc := scF_nc (sg := kjg κ) (n := kjn κ) 80 ((kjZ κ).1, (kjZ κ).2.1, (kjZ κ).2.2.1, 0, 0, (kjZ κ).2.2.2.2.2.1, (kjZ κ).2.2.2.2.2.2) (Nat.zero_le _) (Nat.le_refl _)
  unfold pfPost kPrf
  obtain ⟨S, hS⟩ : ∃ S, S = scS (kjg κ) (kjn κ) (kjZ κ) := ⟨_, rfl⟩
  rw [← hS]
  have e1 : S.1 = faF (mTx μ) (kjn κ) (kjn κ + 1) 0 nu cm fi se := by rw [hS]; exact e1
  have hnc : S.2.2.2.2.1 ≤ 80 := by rw [hS]; exact hnc
  rw [← e1] at hp
  rcases hp with ⟨a1, a2, a3⟩ | ⟨a1, a2, a3⟩
  · have hge : 0 ≤ S.1.toInt := by
      have e3' := e3
      rw [hS] at a1
      have := e3' a1
      rw [hS]
      exact this
    rw [if_neg (by rw [Int32.lt_iff_toInt_lt, wi0_int]; omega)]
    exact ⟨a2, xT μ p2 r2.2.2.1 r2.2.2.2.1 r2.2.2.2.2.1 r2.2.2.2.2.2, a3, h0⟩
  · have hG : pfG (mTx μ) (kjn κ) ((kjZ κ).1, (kjZ κ).2.1, (kjZ κ).2.2.1, 0, 0, (kjZ κ).2.2.2.2.2.1, (kjZ κ).2.2.2.2.2.2) S.2 := by
      have e2' := e2
      rw [hS] at a1 ⊢
      exact e2' a1
    obtain ⟨-, -, hG⟩ := hG
    have hQ := (hG (kjn κ + 1) _ _ r h1 (by show kjn κ - 0 < kjn κ + 1; omega)).2
    rw [if_pos (by rw [a1]; decide)]
    have hQ : pfQ S.2 (pfF (mTx μ) (kjn κ) (kjn κ + 1) (mAl μ) 0 r 0) (kpF S.2.1 S.2.2.1 S.2.2.2.1 S.2.2.2.2.1 0 (kjS κ)) := hQ
    generalize pfF (mTx μ) (kjn κ) (kjn κ + 1) (mAl μ) 0 r 0 = M at hQ a2 a3
    generalize kpF S.2.1 S.2.2.1 S.2.2.2.1 S.2.2.2.2.1 0 (kjS κ) = C at hQ ⊢
    rw [a2, a3]
    unfold kpE pfE
    rcases hQ with ⟨b1, b2, b3⟩ | ⟨b1, b2, b3, b4⟩
    · rw [if_pos b1, if_pos (by rw [b2]; exact err_lt b1)]
      refine ⟨rfl, xT (wSB (wSA (wAl (wAl (xKee μ) M.2.2) (mAl μ)) (nI M.2.1)) M.1) p2 r2.2.2.1 r2.2.2.2.1 r2.2.2.2.2.1 r2.2.2.2.2.2, rfl, ?_⟩
      exact ⟨h1, h2, h3, h7, ⟨n1, n2, n3⟩, by show nI C.2.1 = nI M.2.1; rw [b3], b2.symm⟩
    · have c1 : ¬ isErr C.1 := by rw [b1]; decide
      have c2 : ¬ M.1 < 0 := by rw [b2]; decide
      rw [if_neg c1, if_neg c2, b3]
      refine ⟨rfl, xT (xAct (wAl (xKee μ) M.2.2) (kjz κ)) p2 r2.2.2.1 r2.2.2.2.1 r2.2.2.2.2.1 r2.2.2.2.2.2, rfl, ?_⟩
      exact inv_rec h0 S.2 (actI (by omega)) b4
