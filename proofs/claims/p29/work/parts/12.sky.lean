set_option maxHeartbeats 4000000 in
set_option maxRecDepth 100000 in
theorem c_X3_isString (E : Ev) (W : va_W) (s : Int32) : MI E yX3_isString wsX3_isString (rmD 0) W [.int s] (pB (isS s) W) := by
  refine MI.of (cc := cX3_isString) (nL := 1) (ty := .boolean) (own := RX3) [some (.int s)] (by decide +kernel) rfl rfl (Nat.le_of_ble_eq_true rfl) rfl rfl ?_
  intro x C R0
  refine g_iload_n C dX3_isString_0 rfl rfl ?_
  refine g_if_lt C (tgt := 13) dX3_isString_1 (by decide) (fun hc_1 => ?_) (fun hc_1 => ?_)
  · refine g_iconst C (v := 0) dX3_isString_13 rfl ?_
    refine g_zret C R0 rfl dX3_isString_14 ?_
    exact ⟨Or.inr ⟨fun z => (by first | exact i32_lt.mpr hc_1 z.1 | exact i32_le.mpr hc_1 z.1 | exact i32_lt.mpr hc_1 z.2 | exact i32_le.mpr hc_1 z.2 | exact hc_1 z.1 | exact hc_1 z.2), rfl⟩, rfl⟩
  · refine g_iload_n C dX3_isString_4 rfl rfl ?_
    refine g_iconst C (v := 4) dX3_isString_5 rfl ?_
    refine g_icmp_ge C (tgt := 13) dX3_isString_6 (by decide) (fun hc_6 => ?_) (fun hc_6 => ?_)
    · refine g_iconst C (v := 0) dX3_isString_13 rfl ?_
      refine g_zret C R0 rfl dX3_isString_14 ?_
      exact ⟨Or.inr ⟨fun z => (by first | exact i32_lt.mpr hc_6 z.1 | exact i32_le.mpr hc_6 z.1 | exact i32_lt.mpr hc_6 z.2 | exact i32_le.mpr hc_6 z.2 | exact hc_6 z.1 | exact hc_6 z.2), rfl⟩, rfl⟩
    · refine g_iconst C (v := 1) dX3_isString_9 rfl ?_
      refine g_goto C (tgt := 14) dX3_isString_10 (by decide) ?_
      refine g_zret C R0 rfl dX3_isString_14 ?_
      exact ⟨Or.inl ⟨⟨(by first | exact hc_1 | exact i32_le.mp hc_1 | exact i32_lt.mp hc_1), (by first | exact hc_6 | exact i32_le.mp hc_6 | exact i32_lt.mp hc_6)⟩, rfl⟩, rfl⟩
set_option maxHeartbeats 4000000 in
set_option maxRecDepth 100000 in
theorem c_X3_isBeat (E : Ev) (W : va_W) (s : Int32) : MI E yX3_isBeat wsX3_isBeat (rmD 0) W [.int s] (pB (isB s) W) := by
  refine MI.of (cc := cX3_isBeat) (nL := 1) (ty := .boolean) (own := RX3) [some (.int s)] (by decide +kernel) rfl rfl (Nat.le_of_ble_eq_true rfl) rfl rfl ?_
  intro x C R0
  refine g_iload_n C dX3_isBeat_0 rfl rfl ?_
  refine g_if_lt C (tgt := 14) dX3_isBeat_1 (by decide) (fun hc_1 => ?_) (fun hc_1 => ?_)
  · refine g_iconst C (v := 0) dX3_isBeat_14 rfl ?_
    refine g_zret C R0 rfl dX3_isBeat_15 ?_
    exact ⟨Or.inr ⟨fun z => (by first | exact i32_lt.mpr hc_1 z.1 | exact i32_le.mpr hc_1 z.1 | exact i32_lt.mpr hc_1 z.2 | exact i32_le.mpr hc_1 z.2 | exact hc_1 z.1 | exact hc_1 z.2), rfl⟩, rfl⟩
  · refine g_iload_n C dX3_isBeat_4 rfl rfl ?_
    refine g_bipush C (v := 8) dX3_isBeat_5 rfl ?_
    refine g_icmp_ge C (tgt := 14) dX3_isBeat_7 (by decide) (fun hc_7 => ?_) (fun hc_7 => ?_)
    · refine g_iconst C (v := 0) dX3_isBeat_14 rfl ?_
      refine g_zret C R0 rfl dX3_isBeat_15 ?_
      exact ⟨Or.inr ⟨fun z => (by first | exact i32_lt.mpr hc_7 z.1 | exact i32_le.mpr hc_7 z.1 | exact i32_lt.mpr hc_7 z.2 | exact i32_le.mpr hc_7 z.2 | exact hc_7 z.1 | exact hc_7 z.2), rfl⟩, rfl⟩
    · refine g_iconst C (v := 1) dX3_isBeat_10 rfl ?_
      refine g_goto C (tgt := 15) dX3_isBeat_11 (by decide) ?_
      refine g_zret C R0 rfl dX3_isBeat_15 ?_
      exact ⟨Or.inl ⟨⟨(by first | exact hc_1 | exact i32_le.mp hc_1 | exact i32_lt.mp hc_1), (by first | exact hc_7 | exact i32_le.mp hc_7 | exact i32_lt.mp hc_7)⟩, rfl⟩, rfl⟩
set_option maxHeartbeats 4000000 in
set_option maxRecDepth 100000 in
theorem c_X3_isNumber (E : Ev) (W : va_W) (s : Int32) : MI E yX3_isNumber wsX3_isNumber (rmD 0) W [.int s] (pB (isN s) W) := by
  refine MI.of (cc := cX3_isNumber) (nL := 1) (ty := .boolean) (own := RX3) [some (.int s)] (by decide +kernel) rfl rfl (Nat.le_of_ble_eq_true rfl) rfl rfl ?_
  intro x C R0
  refine g_iload_n C dX3_isNumber_0 rfl rfl ?_
  refine g_sipush C (v := (-999)) dX3_isNumber_1 rfl ?_
  refine g_icmp_lt C (tgt := 18) dX3_isNumber_4 (by decide) (fun hc_4 => ?_) (fun hc_4 => ?_)
  · refine g_iconst C (v := 0) dX3_isNumber_18 rfl ?_
    refine g_zret C R0 rfl dX3_isNumber_19 ?_
    exact ⟨Or.inr ⟨fun z => (by first | exact i32_lt.mpr hc_4 z.1 | exact i32_le.mpr hc_4 z.1 | exact i32_lt.mpr hc_4 z.2 | exact i32_le.mpr hc_4 z.2 | exact hc_4 z.1 | exact hc_4 z.2), rfl⟩, rfl⟩
  · refine g_iload_n C dX3_isNumber_7 rfl rfl ?_
    refine g_sipush C (v := 999) dX3_isNumber_8 rfl ?_
    refine g_icmp_gt C (tgt := 18) dX3_isNumber_11 (by decide) (fun hc_11 => ?_) (fun hc_11 => ?_)
    · refine g_iconst C (v := 0) dX3_isNumber_18 rfl ?_
      refine g_zret C R0 rfl dX3_isNumber_19 ?_
      exact ⟨Or.inr ⟨fun z => (by first | exact i32_lt.mpr hc_11 z.1 | exact i32_le.mpr hc_11 z.1 | exact i32_lt.mpr hc_11 z.2 | exact i32_le.mpr hc_11 z.2 | exact hc_11 z.1 | exact hc_11 z.2), rfl⟩, rfl⟩
    · refine g_iconst C (v := 1) dX3_isNumber_14 rfl ?_
      refine g_goto C (tgt := 19) dX3_isNumber_15 (by decide) ?_
      refine g_zret C R0 rfl dX3_isNumber_19 ?_
      exact ⟨Or.inl ⟨⟨(by first | exact hc_4 | exact i32_le.mp hc_4 | exact i32_lt.mp hc_4), (by first | exact hc_11 | exact i32_le.mp hc_11 | exact i32_lt.mp hc_11)⟩, rfl⟩, rfl⟩
set_option maxHeartbeats 4000000 in
set_option maxRecDepth 100000 in
theorem c_X2_isTaken (E : Ev) (h : Nat) (a : Nat → Nat) (σ : Sky) (s t : Int32) : MI E yX2_isTaken wsX2_isTaken (rmD 0) (skyW E h a σ) [.ref h, .int s, .int t] (pB (tk (sSt σ) (sHt σ) s t = true) (skyW E h a σ)) := by
  have inX2 : ∀ w ∈ u_ws RX2 TX2 12, w ∈ wsX2_isTaken := by decide +kernel
  have f15 : Cond.fieldLink RX2 15 (TX2 1).1 (TX2 1).2.1 (TX2 1).2.2.1 ∈ wsX2_isTaken := by decide +kernel
  have f18 : Cond.fieldLink RX2 18 (TX2 2).1 (TX2 2).2.1 (TX2 2).2.2.1 ∈ wsX2_isTaken := by decide +kernel
  refine MI.of (cc := cX2_isTaken) (nL := 4) (ty := .boolean) (own := RX2) [some (.ref h), some (.int s), some (.int t), none] (by decide +kernel) rfl rfl (Nat.le_of_ble_eq_true rfl) rfl rfl ?_
  intro x C R0
  have lp : ∀ (n i : Nat), 12 - i < n → i ≤ 12 → (∀ k, k < i → ¬ (sSt σ k = s ∧ sHt σ k = t)) → G E x (skyW E h a σ) [some (.ref h), some (.int s), some (.int t), some (.int (nI i))] 2 [] := by
    intro n
    induction n with
    | zero => intro i h1; omega
    | succ n ih =>
      intro i hn hi hv
      refine g_iload_n C dX2_isTaken_2 rfl rfl ?_
      refine g_bipush C (v := 12) dX2_isTaken_3 rfl ?_
      refine g_icmp_ge C (tgt := 36) dX2_isTaken_5 (by decide) (fun hc_5 => ?_) (fun hc_5 => ?_)
      · have hn_5 : (12) ≤ (i) := (nI_leI (a := (12)) (b := (i)) (by omega) (by omega)).mp hc_5
        refine g_iconst C (v := 0) dX2_isTaken_36 rfl ?_
        refine g_zret C R0 rfl dX2_isTaken_37 ?_
        refine ⟨Or.inr ⟨fun z => ?_, rfl⟩, rfl⟩
        obtain ⟨k, hk, h1, h2⟩ := tk_iff.mp z
        exact hv k (by omega) ⟨h1, h2⟩
      · have hn_5 : ¬ (12) ≤ (i) := fun z => hc_5 ((nI_leI (a := (12)) (b := (i)) (by omega) (by omega)).mpr z)
        refine g_aload_n C dX2_isTaken_8 rfl rfl ?_
        refine g_get C inX2 0 rfl rfl 1 (by decide) f15 rfl dX2_isTaken_9 ?_
        refine g_iload_n C dX2_isTaken_12 rfl rfl ?_
        refine g_iald C 2 rfl (i) rfl (by omega) (Nat.le_of_ble_eq_true rfl) dX2_isTaken_13 ?_
        refine g_iload_n C dX2_isTaken_14 rfl rfl ?_
        refine g_icmp_ne C (tgt := 30) dX2_isTaken_15 (by decide) (fun hc_15 => ?_) (fun hc_15 => ?_)
        · refine g_iinc C (v := (nI (i + 1))) dX2_isTaken_30 rfl rfl (nI_add (i) 1) ?_
          refine g_goto C (tgt := 2) dX2_isTaken_33 (by decide) ?_
          exact ih (i + 1) (by omega) (by omega) (lt_s hv (by first | exact fun z => hc_15 z.1 | exact fun z => hc_25 z.2))
        · refine g_aload_n C dX2_isTaken_18 rfl rfl ?_
          refine g_get C inX2 0 rfl rfl 2 (by decide) f18 rfl dX2_isTaken_19 ?_
          refine g_iload_n C dX2_isTaken_22 rfl rfl ?_
          refine g_iald C 3 rfl (i) rfl (by omega) (Nat.le_of_ble_eq_true rfl) dX2_isTaken_23 ?_
          refine g_iload_n C dX2_isTaken_24 rfl rfl ?_
          refine g_icmp_ne C (tgt := 30) dX2_isTaken_25 (by decide) (fun hc_25 => ?_) (fun hc_25 => ?_)
          · refine g_iinc C (v := (nI (i + 1))) dX2_isTaken_30 rfl rfl (nI_add (i) 1) ?_
            refine g_goto C (tgt := 2) dX2_isTaken_33 (by decide) ?_
            exact ih (i + 1) (by omega) (by omega) (lt_s hv (by first | exact fun z => hc_15 z.1 | exact fun z => hc_25 z.2))
          · refine g_iconst C (v := 1) dX2_isTaken_28 rfl ?_
            refine g_zret C R0 rfl dX2_isTaken_29 ?_
            exact ⟨Or.inl ⟨tk_iff.mpr ⟨i, by omega, hc_15, hc_25⟩, rfl⟩, rfl⟩
  refine g_iconst C (v := 0) dX2_isTaken_0 rfl ?_
  refine g_istore_n C dX2_isTaken_1 rfl (Nat.le_of_ble_eq_true rfl) rfl ?_
  exact lp 13 0 (by omega) (by omega) lt_0
set_option maxHeartbeats 4000000 in
set_option maxRecDepth 100000 in
theorem c_X2_landing (E : Ev) (h : Nat) (a : Nat → Nat) (σ : Sky) (s t : Int32) : MI E yX2_landing wsX2_landing (rmD 1) (skyW E h a σ) [.ref h, .int s, .int t] (pE (land (sSt σ) (sHt σ) s t) (skyW E h a σ)) := by
  refine MI.of (cc := cX2_landing) (nL := 5) (ty := .int) (own := RX2) [some (.ref h), some (.int s), some (.int t), none, none] (by decide +kernel) rfl rfl (Nat.le_of_ble_eq_true rfl) rfl rfl ?_
  intro x C R0
  have lp : ∀ (n i : Nat) (f : Int32), 12 - i < n → i ≤ 12 → landF (sSt σ) (sHt σ) s (12 - i) f = land (sSt σ) (sHt σ) s t → G E x (skyW E h a σ) [some (.ref h), some (.int s), some (.int t), some (.int f), some (.int (nI i))] 5 [] := by
    intro n
    induction n with
    | zero => intro i f h1; omega
    | succ n ih =>
      intro i f hn hi hv
      refine g_iload C dX2_landing_5 rfl ?_
      refine g_bipush C (v := 12) dX2_landing_7 rfl ?_
      refine g_icmp_ge C (tgt := 30) dX2_landing_9 (by decide) (fun hc_9 => ?_) (fun hc_9 => ?_)
      · have hn_9 : (12) ≤ (i) := (nI_leI (a := (12)) (b := (i)) (by omega) (by omega)).mp hc_9
        refine g_iload_n C dX2_landing_30 rfl rfl ?_
        refine g_iret C R0 dX2_landing_31 ?_
        refine pE_mk ?_ rfl
        rw [show 12 - i = 0 from by omega] at hv
        exact hv
      · have hn_9 : ¬ (12) ≤ (i) := fun z => hc_9 ((nI_leI (a := (12)) (b := (i)) (by omega) (by omega)).mpr z)
        refine g_aload_n C dX2_landing_12 rfl rfl ?_
        refine g_iload_n C dX2_landing_13 rfl rfl ?_
        refine g_iload_n C dX2_landing_14 rfl rfl ?_
        refine g_calliVF C 0 rfl rfl (c_X2_isTaken E h a σ _ _) cf_X2_isTaken gX2_landing_X2_isTaken rfl (fitD (Nat.le_of_ble_eq_true rfl) (Nat.le_of_ble_eq_true rfl)) rfl rfl (Nat.le_of_ble_eq_true rfl) dX2_landing_15 (fun r1 w1 hp => ?_)
        obtain ⟨⟨hb_15, rfl⟩ | ⟨hb_15, rfl⟩, rfl⟩ := hp
        · refine g_if_eq_f C dX2_landing_18 30 (by decide) (by decide) ?_
          refine g_iinc C (v := (f + 1)) dX2_landing_21 rfl rfl rfl ?_
          refine g_iinc C (v := (nI (i + 1))) dX2_landing_24 rfl rfl (nI_add (i) 1) ?_
          refine g_goto C (tgt := 5) dX2_landing_27 (by decide) ?_
          refine ih (i + 1) _ (by omega) (by omega) ?_
          rw [show 12 - i = (12 - (i + 1)) + 1 from by omega, landF, if_pos hb_15] at hv
          exact hv
        · refine g_if_eq_t C dX2_landing_18 (tgt := 30) (by decide) (by decide) ?_
          refine g_iload_n C dX2_landing_30 rfl rfl ?_
          refine g_iret C R0 dX2_landing_31 ?_
          refine pE_mk ?_ rfl
          rw [show 12 - i = (11 - i) + 1 from by omega, landF, if_neg hb_15] at hv
          exact hv
  refine g_iload_n C dX2_landing_0 rfl rfl ?_
  refine g_istore_n C dX2_landing_1 rfl (Nat.le_of_ble_eq_true rfl) rfl ?_
  refine g_iconst C (v := 0) dX2_landing_2 rfl ?_
  refine g_istore C dX2_landing_3 (Nat.le_of_ble_eq_true rfl) rfl ?_
  exact lp 13 0 _ (by omega) (by omega) rfl
set_option maxHeartbeats 4000000 in
set_option maxRecDepth 100000 in
theorem c_X2_risen (E : Ev) (h : Nat) (a : Nat → Nat) (σ : Sky) (s t w : Int32) : MI E yX2_risen wsX2_risen (rmD 2) (skyW E h a σ) [.ref h, .int s, .int t, .int w] (pE (land (sSt σ) (sHt σ) s (t + w + 1)) (skyW E h a σ)) := by
  refine MI.of (cc := cX2_risen) (nL := 4) (ty := .int) (own := RX2) [some (.ref h), some (.int s), some (.int t), some (.int w)] (by decide +kernel) rfl rfl (Nat.le_of_ble_eq_true rfl) rfl rfl ?_
  intro x C R0
  refine g_aload_n C dX2_risen_0 rfl rfl ?_
  refine g_iload_n C dX2_risen_1 rfl rfl ?_
  refine g_iload_n C dX2_risen_2 rfl rfl ?_
  refine g_iload_n C dX2_risen_3 rfl rfl ?_
  refine g_iadd C dX2_risen_4 ?_
  refine g_iconst C (v := 1) dX2_risen_5 rfl ?_
  refine g_iadd C dX2_risen_6 ?_
  refine g_calliVF C 0 rfl rfl (c_X2_landing E h a σ _ _) cf_X2_landing gX2_risen_X2_landing rfl (fitD (Nat.le_of_ble_eq_true rfl) (Nat.le_of_ble_eq_true rfl)) rfl rfl (Nat.le_of_ble_eq_true rfl) dX2_risen_7 (fun r1 w1 hp => ?_)
  obtain ⟨rfl, rfl⟩ := hp
  refine g_iret C R0 dX2_risen_10 ?_
  exact pE_mk rfl rfl
set_option maxHeartbeats 4000000 in
set_option maxRecDepth 100000 in
theorem c_X2_isKite (E : Ev) (h : Nat) (a : Nat → Nat) (σ : Sky) (k : Int32) : MI E yX2_isKite wsX2_isKite (rmD 0) (skyW E h a σ) [.ref h, .int k] (pB (isK (sSt σ) k) (skyW E h a σ)) := by
  have inX2 : ∀ w ∈ u_ws RX2 TX2 12, w ∈ wsX2_isKite := by decide +kernel
  have f15 : Cond.fieldLink RX2 15 (TX2 1).1 (TX2 1).2.1 (TX2 1).2.2.1 ∈ wsX2_isKite := by decide +kernel
  refine MI.of (cc := cX2_isKite) (nL := 2) (ty := .boolean) (own := RX2) [some (.ref h), some (.int k)] (by decide +kernel) rfl rfl (Nat.le_of_ble_eq_true rfl) rfl rfl ?_
  intro x C R0
  refine g_iload_n C dX2_isKite_0 rfl rfl ?_
  refine g_if_lt C (tgt := 24) dX2_isKite_1 (by decide) (fun hc_1 => ?_) (fun hc_1 => ?_)
  · refine g_iconst C (v := 0) dX2_isKite_24 rfl ?_
    refine g_zret C R0 rfl dX2_isKite_25 ?_
    exact ⟨Or.inr ⟨fun z => (by first | exact i32_lt.mpr hc_1 z.1 | exact i32_le.mpr hc_1 z.1 | exact i32_lt.mpr hc_1 z.2.1 | exact i32_le.mpr hc_1 z.2.1 | exact hc_1 z.1 | exact hc_1 z.2.1), rfl⟩, rfl⟩
  · refine g_iload_n C dX2_isKite_4 rfl rfl ?_
    refine g_bipush C (v := 12) dX2_isKite_5 rfl ?_
    refine g_icmp_ge C (tgt := 24) dX2_isKite_7 (by decide) (fun hc_7 => ?_) (fun hc_7 => ?_)
    · refine g_iconst C (v := 0) dX2_isKite_24 rfl ?_
      refine g_zret C R0 rfl dX2_isKite_25 ?_
      exact ⟨Or.inr ⟨fun z => (by first | exact i32_lt.mpr hc_7 z.1 | exact i32_le.mpr hc_7 z.1 | exact i32_lt.mpr hc_7 z.2.1 | exact i32_le.mpr hc_7 z.2.1 | exact hc_7 z.1 | exact hc_7 z.2.1), rfl⟩, rfl⟩
    · obtain ⟨j, hj, rfl⟩ := i32_of (n := 12) (by first | exact hc_1 | exact i32_le.mp hc_1 | exact i32_lt.mp hc_1) (by first | exact hc_7 | exact i32_le.mp hc_7 | exact i32_lt.mp hc_7) (by decide)
      have hcl : (nI j).toNatClampNeg = j := nI_clamp (by omega)
      refine g_aload_n C dX2_isKite_10 rfl rfl ?_
      refine g_get C inX2 0 rfl rfl 1 (by decide) f15 rfl dX2_isKite_11 ?_
      refine g_iload_n C dX2_isKite_14 rfl rfl ?_
      refine g_iald C 2 rfl (j) rfl (by omega) (Nat.le_of_ble_eq_true rfl) dX2_isKite_15 ?_
      refine g_iconst C (v := (-1)) dX2_isKite_16 rfl ?_
      refine g_icmp_eq C (tgt := 24) dX2_isKite_17 (by decide) (fun hc_17 => ?_) (fun hc_17 => ?_)
      · refine g_iconst C (v := 0) dX2_isKite_24 rfl ?_
        refine g_zret C R0 rfl dX2_isKite_25 ?_
        exact ⟨Or.inr ⟨fun z => z.2.2 (by rw [hcl]; exact hc_17), rfl⟩, rfl⟩
      · refine g_iconst C (v := 1) dX2_isKite_20 rfl ?_
        refine g_goto C (tgt := 25) dX2_isKite_21 (by decide) ?_
        refine g_zret C R0 rfl dX2_isKite_25 ?_
        exact ⟨Or.inl ⟨⟨(by first | exact hc_1 | exact i32_le.mp hc_1 | exact i32_lt.mp hc_1), (by first | exact hc_7 | exact i32_le.mp hc_7 | exact i32_lt.mp hc_7), by rw [hcl]; exact hc_17⟩, rfl⟩, rfl⟩
set_option maxHeartbeats 4000000 in
set_option maxRecDepth 100000 in
theorem c_X2_weightsOn (E : Ev) (h : Nat) (a : Nat → Nat) (σ : Sky) (s : Int32) : MI E yX2_weightsOn wsX2_weightsOn (rmD 0) (skyW E h a σ) [.ref h, .int s] (pE (weig (sSt σ) (sHt σ) s) (skyW E h a σ)) := by
  have inX2 : ∀ w ∈ u_ws RX2 TX2 12, w ∈ wsX2_weightsOn := by decide +kernel
  have f15 : Cond.fieldLink RX2 15 (TX2 1).1 (TX2 1).2.1 (TX2 1).2.2.1 ∈ wsX2_weightsOn := by decide +kernel
  have f18 : Cond.fieldLink RX2 18 (TX2 2).1 (TX2 2).2.1 (TX2 2).2.2.1 ∈ wsX2_weightsOn := by decide +kernel
  refine MI.of (cc := cX2_weightsOn) (nL := 4) (ty := .int) (own := RX2) [some (.ref h), some (.int s), none, none] (by decide +kernel) rfl rfl (Nat.le_of_ble_eq_true rfl) rfl rfl ?_
  intro x C R0
  have lp : ∀ (n i : Nat), 12 - i < n → i ≤ 12 → G E x (skyW E h a σ) [some (.ref h), some (.int s), some (.int (sumN (weF (sSt σ) (sHt σ) s) i)), some (.int (nI i))] 4 [] := by
    intro n
    induction n with
    | zero => intro i h1; omega
    | succ n ih =>
      intro i hn hi
      refine g_iload_n C dX2_weightsOn_4 rfl rfl ?_
      refine g_bipush C (v := 12) dX2_weightsOn_5 rfl ?_
      refine g_icmp_ge C (tgt := 37) dX2_weightsOn_7 (by decide) (fun hc_7 => ?_) (fun hc_7 => ?_)
      · have hn_7 : (12) ≤ (i) := (nI_leI (a := (12)) (b := (i)) (by omega) (by omega)).mp hc_7
        refine g_iload_n C dX2_weightsOn_37 rfl rfl ?_
        refine g_iret C R0 dX2_weightsOn_38 ?_
        refine pE_mk ?_ rfl
        rw [show i = 12 from by omega]
      · have hn_7 : ¬ (12) ≤ (i) := fun z => hc_7 ((nI_leI (a := (12)) (b := (i)) (by omega) (by omega)).mpr z)
        refine g_aload_n C dX2_weightsOn_10 rfl rfl ?_
        refine g_get C inX2 0 rfl rfl 1 (by decide) f15 rfl dX2_weightsOn_11 ?_
        refine g_iload_n C dX2_weightsOn_14 rfl rfl ?_
        refine g_iald C 2 rfl (i) rfl (by omega) (Nat.le_of_ble_eq_true rfl) dX2_weightsOn_15 ?_
        refine g_iload_n C dX2_weightsOn_16 rfl rfl ?_
        refine g_icmp_ne C (tgt := 31) dX2_weightsOn_17 (by decide) (fun hc_17 => ?_) (fun hc_17 => ?_)
        · refine g_iinc C (v := (nI (i + 1))) dX2_weightsOn_31 rfl rfl (nI_add (i) 1) ?_
          refine g_goto C (tgt := 4) dX2_weightsOn_34 (by decide) ?_
          have this := ih (i + 1) (by omega) (by omega)
          rw [show sumN (weF (sSt σ) (sHt σ) s) (i + 1) = (sumN (weF (sSt σ) (sHt σ) s) i) from by simp [sumN, weF, hc_7, hc_17]] at this
          exact this
        · refine g_iload_n C dX2_weightsOn_20 rfl rfl ?_
          refine g_aload_n C dX2_weightsOn_21 rfl rfl ?_
          refine g_get C inX2 0 rfl rfl 2 (by decide) f18 rfl dX2_weightsOn_22 ?_
          refine g_iload_n C dX2_weightsOn_25 rfl rfl ?_
          refine g_iald C 3 rfl (i) rfl (by omega) (Nat.le_of_ble_eq_true rfl) dX2_weightsOn_26 ?_
          refine g_iconst C (v := 1) dX2_weightsOn_27 rfl ?_
          refine g_iadd C dX2_weightsOn_28 ?_
          refine g_iadd C dX2_weightsOn_29 ?_
          refine g_istore_n C dX2_weightsOn_30 rfl (Nat.le_of_ble_eq_true rfl) rfl ?_
          refine g_iinc C (v := (nI (i + 1))) dX2_weightsOn_31 rfl rfl (nI_add (i) 1) ?_
          refine g_goto C (tgt := 4) dX2_weightsOn_34 (by decide) ?_
          have this := ih (i + 1) (by omega) (by omega)
          rw [show sumN (weF (sSt σ) (sHt σ) s) (i + 1) = ((sumN (weF (sSt σ) (sHt σ) s) i) + ((sHt σ (i)) + 1)) from by simp [sumN, weF, hc_7, hc_17]] at this
          exact this
  refine g_iconst C (v := 0) dX2_weightsOn_0 rfl ?_
  refine g_istore_n C dX2_weightsOn_1 rfl (Nat.le_of_ble_eq_true rfl) rfl ?_
  refine g_iconst C (v := 0) dX2_weightsOn_2 rfl ?_
  refine g_istore_n C dX2_weightsOn_3 rfl (Nat.le_of_ble_eq_true rfl) rfl ?_
  exact lp 13 0 (by omega) (by omega)
set_option maxHeartbeats 4000000 in
set_option maxRecDepth 100000 in
theorem c_X2_numbersOn (E : Ev) (h : Nat) (a : Nat → Nat) (σ : Sky) (s : Int32) : MI E yX2_numbersOn wsX2_numbersOn (rmD 0) (skyW E h a σ) [.ref h, .int s] (pE (nums (sSt σ) (sNu σ) s) (skyW E h a σ)) := by
  have inX2 : ∀ w ∈ u_ws RX2 TX2 12, w ∈ wsX2_numbersOn := by decide +kernel
  have f15 : Cond.fieldLink RX2 15 (TX2 1).1 (TX2 1).2.1 (TX2 1).2.2.1 ∈ wsX2_numbersOn := by decide +kernel
  have f9 : Cond.fieldLink RX2 9 (TX2 0).1 (TX2 0).2.1 (TX2 0).2.2.1 ∈ wsX2_numbersOn := by decide +kernel
  refine MI.of (cc := cX2_numbersOn) (nL := 4) (ty := .int) (own := RX2) [some (.ref h), some (.int s), none, none] (by decide +kernel) rfl rfl (Nat.le_of_ble_eq_true rfl) rfl rfl ?_
  intro x C R0
  have lp : ∀ (n i : Nat), 12 - i < n → i ≤ 12 → G E x (skyW E h a σ) [some (.ref h), some (.int s), some (.int (sumN (nuF (sSt σ) (sNu σ) s) i)), some (.int (nI i))] 4 [] := by
    intro n
    induction n with
    | zero => intro i h1; omega
    | succ n ih =>
      intro i hn hi
      refine g_iload_n C dX2_numbersOn_4 rfl rfl ?_
      refine g_bipush C (v := 12) dX2_numbersOn_5 rfl ?_
      refine g_icmp_ge C (tgt := 35) dX2_numbersOn_7 (by decide) (fun hc_7 => ?_) (fun hc_7 => ?_)
      · have hn_7 : (12) ≤ (i) := (nI_leI (a := (12)) (b := (i)) (by omega) (by omega)).mp hc_7
        refine g_iload_n C dX2_numbersOn_35 rfl rfl ?_
        refine g_iret C R0 dX2_numbersOn_36 ?_
        refine pE_mk ?_ rfl
        rw [show i = 12 from by omega]
      · have hn_7 : ¬ (12) ≤ (i) := fun z => hc_7 ((nI_leI (a := (12)) (b := (i)) (by omega) (by omega)).mpr z)
        refine g_aload_n C dX2_numbersOn_10 rfl rfl ?_
        refine g_get C inX2 0 rfl rfl 1 (by decide) f15 rfl dX2_numbersOn_11 ?_
        refine g_iload_n C dX2_numbersOn_14 rfl rfl ?_
        refine g_iald C 2 rfl (i) rfl (by omega) (Nat.le_of_ble_eq_true rfl) dX2_numbersOn_15 ?_
        refine g_iload_n C dX2_numbersOn_16 rfl rfl ?_
        refine g_icmp_ne C (tgt := 29) dX2_numbersOn_17 (by decide) (fun hc_17 => ?_) (fun hc_17 => ?_)
        · refine g_iinc C (v := (nI (i + 1))) dX2_numbersOn_29 rfl rfl (nI_add (i) 1) ?_
          refine g_goto C (tgt := 4) dX2_numbersOn_32 (by decide) ?_
          have this := ih (i + 1) (by omega) (by omega)
          rw [show sumN (nuF (sSt σ) (sNu σ) s) (i + 1) = (sumN (nuF (sSt σ) (sNu σ) s) i) from by simp [sumN, nuF, hc_7, hc_17]] at this
          exact this
        · refine g_iload_n C dX2_numbersOn_20 rfl rfl ?_
          refine g_aload_n C dX2_numbersOn_21 rfl rfl ?_
          refine g_get C inX2 0 rfl rfl 0 (by decide) f9 rfl dX2_numbersOn_22 ?_
          refine g_iload_n C dX2_numbersOn_25 rfl rfl ?_
          refine g_iald C 1 rfl (i) rfl (by omega) (Nat.le_of_ble_eq_true rfl) dX2_numbersOn_26 ?_
          refine g_iadd C dX2_numbersOn_27 ?_
          refine g_istore_n C dX2_numbersOn_28 rfl (Nat.le_of_ble_eq_true rfl) rfl ?_
          refine g_iinc C (v := (nI (i + 1))) dX2_numbersOn_29 rfl rfl (nI_add (i) 1) ?_
          refine g_goto C (tgt := 4) dX2_numbersOn_32 (by decide) ?_
          have this := ih (i + 1) (by omega) (by omega)
          rw [show sumN (nuF (sSt σ) (sNu σ) s) (i + 1) = ((sumN (nuF (sSt σ) (sNu σ) s) i) + (sNu σ (i))) from by simp [sumN, nuF, hc_7, hc_17]] at this
          exact this
  refine g_iconst C (v := 0) dX2_numbersOn_0 rfl ?_
  refine g_istore_n C dX2_numbersOn_1 rfl (Nat.le_of_ble_eq_true rfl) rfl ?_
  refine g_iconst C (v := 0) dX2_numbersOn_2 rfl ?_
  refine g_istore_n C dX2_numbersOn_3 rfl (Nat.le_of_ble_eq_true rfl) rfl ?_
  exact lp 13 0 (by omega) (by omega)
set_option maxHeartbeats 4000000 in
set_option maxRecDepth 100000 in
theorem c_X2_kitesBetween (E : Ev) (h : Nat) (a : Nat → Nat) (σ : Sky) (s l t : Int32) : MI E yX2_kitesBetween wsX2_kitesBetween (rmD 0) (skyW E h a σ) [.ref h, .int s, .int l, .int t] (pE (kitesB (sSt σ) (sHt σ) s l t) (skyW E h a σ)) := by
  have inX2 : ∀ w ∈ u_ws RX2 TX2 12, w ∈ wsX2_kitesBetween := by decide +kernel
  have f15 : Cond.fieldLink RX2 15 (TX2 1).1 (TX2 1).2.1 (TX2 1).2.2.1 ∈ wsX2_kitesBetween := by decide +kernel
  have f18 : Cond.fieldLink RX2 18 (TX2 2).1 (TX2 2).2.1 (TX2 2).2.2.1 ∈ wsX2_kitesBetween := by decide +kernel
  refine MI.of (cc := cX2_kitesBetween) (nL := 6) (ty := .int) (own := RX2) [some (.ref h), some (.int s), some (.int l), some (.int t), none, none] (by decide +kernel) rfl rfl (Nat.le_of_ble_eq_true rfl) rfl rfl ?_
  intro x C R0
  have lp : ∀ (n i : Nat), 12 - i < n → i ≤ 12 → G E x (skyW E h a σ) [some (.ref h), some (.int s), some (.int l), some (.int t), some (.int (sumN (kbF (sSt σ) (sHt σ) s l t) i)), some (.int (nI i))] 6 [] := by
    intro n
    induction n with
    | zero => intro i h1; omega
    | succ n ih =>
      intro i hn hi
      refine g_iload C dX2_kitesBetween_6 rfl ?_
      refine g_bipush C (v := 12) dX2_kitesBetween_8 rfl ?_
      refine g_icmp_ge C (tgt := 55) dX2_kitesBetween_10 (by decide) (fun hc_10 => ?_) (fun hc_10 => ?_)
      · have hn_10 : (12) ≤ (i) := (nI_leI (a := (12)) (b := (i)) (by omega) (by omega)).mp hc_10
        refine g_iload C dX2_kitesBetween_55 rfl ?_
        refine g_iret C R0 dX2_kitesBetween_57 ?_
        refine pE_mk ?_ rfl
        rw [show i = 12 from by omega]
      · have hn_10 : ¬ (12) ≤ (i) := fun z => hc_10 ((nI_leI (a := (12)) (b := (i)) (by omega) (by omega)).mpr z)
        refine g_aload_n C dX2_kitesBetween_13 rfl rfl ?_
        refine g_get C inX2 0 rfl rfl 1 (by decide) f15 rfl dX2_kitesBetween_14 ?_
        refine g_iload C dX2_kitesBetween_17 rfl ?_
        refine g_iald C 2 rfl (i) rfl (by omega) (Nat.le_of_ble_eq_true rfl) dX2_kitesBetween_19 ?_
        refine g_iload_n C dX2_kitesBetween_20 rfl rfl ?_
        refine g_icmp_ne C (tgt := 49) dX2_kitesBetween_21 (by decide) (fun hc_21 => ?_) (fun hc_21 => ?_)
        · refine g_iinc C (v := (nI (i + 1))) dX2_kitesBetween_49 rfl rfl (nI_add (i) 1) ?_
          refine g_goto C (tgt := 6) dX2_kitesBetween_52 (by decide) ?_
          have this := ih (i + 1) (by omega) (by omega)
          rw [show sumN (kbF (sSt σ) (sHt σ) s l t) (i + 1) = (sumN (kbF (sSt σ) (sHt σ) s l t) i) from by rw [sumN, kbF, if_neg (fun z => by first | exact hc_21 z.1 | exact hc_21 z.2.1 | exact hc_21 z.2.2 | exact i32_lt.mpr hc_21 z.1 | exact i32_le.mpr hc_21 z.1 | exact i32_lt.mpr hc_21 z.2.1 | exact i32_le.mpr hc_21 z.2.1 | exact i32_lt.mpr hc_21 z.2.2 | exact i32_le.mpr hc_21 z.2.2)] <;> simp] at this
          exact this
        · refine g_aload_n C dX2_kitesBetween_24 rfl rfl ?_
          refine g_get C inX2 0 rfl rfl 2 (by decide) f18 rfl dX2_kitesBetween_25 ?_
          refine g_iload C dX2_kitesBetween_28 rfl ?_
          refine g_iald C 3 rfl (i) rfl (by omega) (Nat.le_of_ble_eq_true rfl) dX2_kitesBetween_30 ?_
          refine g_iload_n C dX2_kitesBetween_31 rfl rfl ?_
          refine g_icmp_le C (tgt := 49) dX2_kitesBetween_32 (by decide) (fun hc_32 => ?_) (fun hc_32 => ?_)
          · refine g_iinc C (v := (nI (i + 1))) dX2_kitesBetween_49 rfl rfl (nI_add (i) 1) ?_
            refine g_goto C (tgt := 6) dX2_kitesBetween_52 (by decide) ?_
            have this := ih (i + 1) (by omega) (by omega)
            rw [show sumN (kbF (sSt σ) (sHt σ) s l t) (i + 1) = (sumN (kbF (sSt σ) (sHt σ) s l t) i) from by rw [sumN, kbF, if_neg (fun z => by first | exact hc_32 z.1 | exact hc_32 z.2.1 | exact hc_32 z.2.2 | exact i32_lt.mpr hc_32 z.1 | exact i32_le.mpr hc_32 z.1 | exact i32_lt.mpr hc_32 z.2.1 | exact i32_le.mpr hc_32 z.2.1 | exact i32_lt.mpr hc_32 z.2.2 | exact i32_le.mpr hc_32 z.2.2)] <;> simp] at this
            exact this
          · refine g_aload_n C dX2_kitesBetween_35 rfl rfl ?_
            refine g_get C inX2 0 rfl rfl 2 (by decide) f18 rfl dX2_kitesBetween_36 ?_
            refine g_iload C dX2_kitesBetween_39 rfl ?_
            refine g_iald C 3 rfl (i) rfl (by omega) (Nat.le_of_ble_eq_true rfl) dX2_kitesBetween_41 ?_
            refine g_iload_n C dX2_kitesBetween_42 rfl rfl ?_
            refine g_icmp_ge C (tgt := 49) dX2_kitesBetween_43 (by decide) (fun hc_43 => ?_) (fun hc_43 => ?_)
            · refine g_iinc C (v := (nI (i + 1))) dX2_kitesBetween_49 rfl rfl (nI_add (i) 1) ?_
              refine g_goto C (tgt := 6) dX2_kitesBetween_52 (by decide) ?_
              have this := ih (i + 1) (by omega) (by omega)
              rw [show sumN (kbF (sSt σ) (sHt σ) s l t) (i + 1) = (sumN (kbF (sSt σ) (sHt σ) s l t) i) from by rw [sumN, kbF, if_neg (fun z => by first | exact hc_43 z.1 | exact hc_43 z.2.1 | exact hc_43 z.2.2 | exact i32_lt.mpr hc_43 z.1 | exact i32_le.mpr hc_43 z.1 | exact i32_lt.mpr hc_43 z.2.1 | exact i32_le.mpr hc_43 z.2.1 | exact i32_lt.mpr hc_43 z.2.2 | exact i32_le.mpr hc_43 z.2.2)] <;> simp] at this
              exact this
            · refine g_iinc C (v := ((sumN (kbF (sSt σ) (sHt σ) s l t) i) + 1)) dX2_kitesBetween_46 rfl rfl rfl ?_
              refine g_iinc C (v := (nI (i + 1))) dX2_kitesBetween_49 rfl rfl (nI_add (i) 1) ?_
              refine g_goto C (tgt := 6) dX2_kitesBetween_52 (by decide) ?_
              have this := ih (i + 1) (by omega) (by omega)
              rw [show sumN (kbF (sSt σ) (sHt σ) s l t) (i + 1) = ((sumN (kbF (sSt σ) (sHt σ) s l t) i) + 1) from by rw [sumN, kbF, if_pos ⟨(by first | exact hc_21 | exact i32_le.mp hc_21 | exact i32_lt.mp hc_21), (by first | exact hc_32 | exact i32_le.mp hc_32 | exact i32_lt.mp hc_32), (by first | exact hc_43 | exact i32_le.mp hc_43 | exact i32_lt.mp hc_43)⟩] <;> simp] at this
              exact this
  refine g_iconst C (v := 0) dX2_kitesBetween_0 rfl ?_
  refine g_istore C dX2_kitesBetween_1 (Nat.le_of_ble_eq_true rfl) rfl ?_
  refine g_iconst C (v := 0) dX2_kitesBetween_3 rfl ?_
  refine g_istore C dX2_kitesBetween_4 (Nat.le_of_ble_eq_true rfl) rfl ?_
  exact lp 13 0 (by omega) (by omega)
set_option maxHeartbeats 4000000 in
set_option maxRecDepth 100000 in
theorem c_X2_kitesInAll (E : Ev) (h : Nat) (a : Nat → Nat) (σ : Sky) : MI E yX2_kitesInAll wsX2_kitesInAll (rmD 0) (skyW E h a σ) [.ref h] (pE (allK (sSt σ)) (skyW E h a σ)) := by
  have inX2 : ∀ w ∈ u_ws RX2 TX2 12, w ∈ wsX2_kitesInAll := by decide +kernel
  have f15 : Cond.fieldLink RX2 15 (TX2 1).1 (TX2 1).2.1 (TX2 1).2.2.1 ∈ wsX2_kitesInAll := by decide +kernel
  refine MI.of (cc := cX2_kitesInAll) (nL := 3) (ty := .int) (own := RX2) [some (.ref h), none, none] (by decide +kernel) rfl rfl (Nat.le_of_ble_eq_true rfl) rfl rfl ?_
  intro x C R0
  have lp : ∀ (n i : Nat), 12 - i < n → i ≤ 12 → G E x (skyW E h a σ) [some (.ref h), some (.int (sumN (liF (sSt σ)) i)), some (.int (nI i))] 4 [] := by
    intro n
    induction n with
    | zero => intro i h1; omega
    | succ n ih =>
      intro i hn hi
      refine g_iload_n C dX2_kitesInAll_4 rfl rfl ?_
      refine g_bipush C (v := 12) dX2_kitesInAll_5 rfl ?_
      refine g_icmp_ge C (tgt := 29) dX2_kitesInAll_7 (by decide) (fun hc_7 => ?_) (fun hc_7 => ?_)
      · have hn_7 : (12) ≤ (i) := (nI_leI (a := (12)) (b := (i)) (by omega) (by omega)).mp hc_7
        refine g_iload_n C dX2_kitesInAll_29 rfl rfl ?_
        refine g_iret C R0 dX2_kitesInAll_30 ?_
        refine pE_mk ?_ rfl
        rw [show i = 12 from by omega]
      · have hn_7 : ¬ (12) ≤ (i) := fun z => hc_7 ((nI_leI (a := (12)) (b := (i)) (by omega) (by omega)).mpr z)
        refine g_aload_n C dX2_kitesInAll_10 rfl rfl ?_
        refine g_get C inX2 0 rfl rfl 1 (by decide) f15 rfl dX2_kitesInAll_11 ?_
        refine g_iload_n C dX2_kitesInAll_14 rfl rfl ?_
        refine g_iald C 2 rfl (i) rfl (by omega) (Nat.le_of_ble_eq_true rfl) dX2_kitesInAll_15 ?_
        refine g_iconst C (v := (-1)) dX2_kitesInAll_16 rfl ?_
        refine g_icmp_eq C (tgt := 23) dX2_kitesInAll_17 (by decide) (fun hc_17 => ?_) (fun hc_17 => ?_)
        · refine g_iinc C (v := (nI (i + 1))) dX2_kitesInAll_23 rfl rfl (nI_add (i) 1) ?_
          refine g_goto C (tgt := 4) dX2_kitesInAll_26 (by decide) ?_
          have this := ih (i + 1) (by omega) (by omega)
          rw [show sumN (liF (sSt σ)) (i + 1) = (sumN (liF (sSt σ)) i) from by simp [sumN, liF, hc_7, hc_17]] at this
          exact this
        · refine g_iinc C (v := ((sumN (liF (sSt σ)) i) + 1)) dX2_kitesInAll_20 rfl rfl rfl ?_
          refine g_iinc C (v := (nI (i + 1))) dX2_kitesInAll_23 rfl rfl (nI_add (i) 1) ?_
          refine g_goto C (tgt := 4) dX2_kitesInAll_26 (by decide) ?_
          have this := ih (i + 1) (by omega) (by omega)
          rw [show sumN (liF (sSt σ)) (i + 1) = ((sumN (liF (sSt σ)) i) + 1) from by simp [sumN, liF, hc_7, hc_17]] at this
          exact this
  refine g_iconst C (v := 0) dX2_kitesInAll_0 rfl ?_
  refine g_istore_n C dX2_kitesInAll_1 rfl (Nat.le_of_ble_eq_true rfl) rfl ?_
  refine g_iconst C (v := 0) dX2_kitesInAll_2 rfl ?_
  refine g_istore_n C dX2_kitesInAll_3 rfl (Nat.le_of_ble_eq_true rfl) rfl ?_
  exact lp 13 0 (by omega) (by omega)
set_option maxHeartbeats 4000000 in
set_option maxRecDepth 100000 in
theorem c_X2_cutsSoFar (E : Ev) (h : Nat) (a : Nat → Nat) (σ : Sky) : MI E yX2_cutsSoFar wsX2_cutsSoFar (rmD 0) (skyW E h a σ) [.ref h] (pE (sumN (sCf σ) 4) (skyW E h a σ)) := by
  have inX2 : ∀ w ∈ u_ws RX2 TX2 12, w ∈ wsX2_cutsSoFar := by decide +kernel
  have f34 : Cond.fieldLink RX2 34 (TX2 7).1 (TX2 7).2.1 (TX2 7).2.2.1 ∈ wsX2_cutsSoFar := by decide +kernel
  refine MI.of (cc := cX2_cutsSoFar) (nL := 3) (ty := .int) (own := RX2) [some (.ref h), none, none] (by decide +kernel) rfl rfl (Nat.le_of_ble_eq_true rfl) rfl rfl ?_
  intro x C R0
  have lp : ∀ (n i : Nat), 4 - i < n → i ≤ 4 → G E x (skyW E h a σ) [some (.ref h), some (.int (sumN (sCf σ) i)), some (.int (nI i))] 4 [] := by
    intro n
    induction n with
    | zero => intro i h1; omega
    | succ n ih =>
      intro i hn hi
      refine g_iload_n C dX2_cutsSoFar_4 rfl rfl ?_
      refine g_iconst C (v := 4) dX2_cutsSoFar_5 rfl ?_
      refine g_icmp_ge C (tgt := 24) dX2_cutsSoFar_6 (by decide) (fun hc_6 => ?_) (fun hc_6 => ?_)
      · have hn_6 : (4) ≤ (i) := (nI_leI (a := (4)) (b := (i)) (by omega) (by omega)).mp hc_6
        refine g_iload_n C dX2_cutsSoFar_24 rfl rfl ?_
        refine g_iret C R0 dX2_cutsSoFar_25 ?_
        refine pE_mk ?_ rfl
        rw [show i = 4 from by omega]
      · have hn_6 : ¬ (4) ≤ (i) := fun z => hc_6 ((nI_leI (a := (4)) (b := (i)) (by omega) (by omega)).mpr z)
        refine g_iload_n C dX2_cutsSoFar_9 rfl rfl ?_
        refine g_aload_n C dX2_cutsSoFar_10 rfl rfl ?_
        refine g_get C inX2 0 rfl rfl 7 (by decide) f34 rfl dX2_cutsSoFar_11 ?_
        refine g_iload_n C dX2_cutsSoFar_14 rfl rfl ?_
        refine g_iald C 8 rfl (i) rfl (by omega) (Nat.le_of_ble_eq_true rfl) dX2_cutsSoFar_15 ?_
        refine g_iadd C dX2_cutsSoFar_16 ?_
        refine g_istore_n C dX2_cutsSoFar_17 rfl (Nat.le_of_ble_eq_true rfl) rfl ?_
        refine g_iinc C (v := (nI (i + 1))) dX2_cutsSoFar_18 rfl rfl (nI_add (i) 1) ?_
        refine g_goto C (tgt := 4) dX2_cutsSoFar_21 (by decide) ?_
        have this := ih (i + 1) (by omega) (by omega)
        rw [show sumN (sCf σ) (i + 1) = ((sumN (sCf σ) i) + (sCf σ (i))) from by simp [sumN, hc_6]] at this
        exact this
  refine g_iconst C (v := 0) dX2_cutsSoFar_0 rfl ?_
  refine g_istore_n C dX2_cutsSoFar_1 rfl (Nat.le_of_ble_eq_true rfl) rfl ?_
  refine g_iconst C (v := 0) dX2_cutsSoFar_2 rfl ?_
  refine g_istore_n C dX2_cutsSoFar_3 rfl (Nat.le_of_ble_eq_true rfl) rfl ?_
  exact lp 5 0 (by omega) (by omega)
set_option maxHeartbeats 4000000 in
set_option maxRecDepth 100000 in
theorem c_X2_freshKites (E : Ev) (h : Nat) (a : Nat → Nat) (σ : Sky) : MI E yX2_freshKites wsX2_freshKites (rmD 0) (skyW E h a σ) [.ref h] (pE (frsh (sSt σ) (sFr σ)) (skyW E h a σ)) := by
  have inX2 : ∀ w ∈ u_ws RX2 TX2 12, w ∈ wsX2_freshKites := by decide +kernel
  have f15 : Cond.fieldLink RX2 15 (TX2 1).1 (TX2 1).2.1 (TX2 1).2.2.1 ∈ wsX2_freshKites := by decide +kernel
  have f21 : Cond.fieldLink RX2 21 (TX2 3).1 (TX2 3).2.1 (TX2 3).2.2.1 ∈ wsX2_freshKites := by decide +kernel
  refine MI.of (cc := cX2_freshKites) (nL := 3) (ty := .int) (own := RX2) [some (.ref h), none, none] (by decide +kernel) rfl rfl (Nat.le_of_ble_eq_true rfl) rfl rfl ?_
  intro x C R0
  have lp : ∀ (n i : Nat), 12 - i < n → i ≤ 12 → G E x (skyW E h a σ) [some (.ref h), some (.int (sumN (frF (sSt σ) (sFr σ)) i)), some (.int (nI i))] 4 [] := by
    intro n
    induction n with
    | zero => intro i h1; omega
    | succ n ih =>
      intro i hn hi
      refine g_iload_n C dX2_freshKites_4 rfl rfl ?_
      refine g_bipush C (v := 12) dX2_freshKites_5 rfl ?_
      refine g_icmp_ge C (tgt := 38) dX2_freshKites_7 (by decide) (fun hc_7 => ?_) (fun hc_7 => ?_)
      · have hn_7 : (12) ≤ (i) := (nI_leI (a := (12)) (b := (i)) (by omega) (by omega)).mp hc_7
        refine g_iload_n C dX2_freshKites_38 rfl rfl ?_
        refine g_iret C R0 dX2_freshKites_39 ?_
        refine pE_mk ?_ rfl
        rw [show i = 12 from by omega]
      · have hn_7 : ¬ (12) ≤ (i) := fun z => hc_7 ((nI_leI (a := (12)) (b := (i)) (by omega) (by omega)).mpr z)
        refine g_aload_n C dX2_freshKites_10 rfl rfl ?_
        refine g_get C inX2 0 rfl rfl 1 (by decide) f15 rfl dX2_freshKites_11 ?_
        refine g_iload_n C dX2_freshKites_14 rfl rfl ?_
        refine g_iald C 2 rfl (i) rfl (by omega) (Nat.le_of_ble_eq_true rfl) dX2_freshKites_15 ?_
        refine g_iconst C (v := (-1)) dX2_freshKites_16 rfl ?_
        refine g_icmp_eq C (tgt := 32) dX2_freshKites_17 (by decide) (fun hc_17 => ?_) (fun hc_17 => ?_)
        · refine g_iinc C (v := (nI (i + 1))) dX2_freshKites_32 rfl rfl (nI_add (i) 1) ?_
          refine g_goto C (tgt := 4) dX2_freshKites_35 (by decide) ?_
          have this := ih (i + 1) (by omega) (by omega)
          rw [show sumN (frF (sSt σ) (sFr σ)) (i + 1) = (sumN (frF (sSt σ) (sFr σ)) i) from by simp [sumN, frF, hc_7, hc_17]] at this
          exact this
        · refine g_aload_n C dX2_freshKites_20 rfl rfl ?_
          refine g_get C inX2 0 rfl rfl 3 (by decide) f21 rfl dX2_freshKites_21 ?_
          refine g_iload_n C dX2_freshKites_24 rfl rfl ?_
          refine g_zald C 4 rfl (i) rfl (by omega) (Nat.le_of_ble_eq_true rfl) dX2_freshKites_25 ?_
          refine g_if_eq C (tgt := 32) dX2_freshKites_26 (by decide) (fun hc_26 => ?_) (fun hc_26 => ?_)
          · refine g_iinc C (v := (nI (i + 1))) dX2_freshKites_32 rfl rfl (nI_add (i) 1) ?_
            refine g_goto C (tgt := 4) dX2_freshKites_35 (by decide) ?_
            have this := ih (i + 1) (by omega) (by omega)
            rw [show sumN (frF (sSt σ) (sFr σ)) (i + 1) = (sumN (frF (sSt σ) (sFr σ)) i) from by simp [sumN, frF, hc_7, hc_17, hc_26]] at this
            exact this
          · refine g_iinc C (v := ((sumN (frF (sSt σ) (sFr σ)) i) + 1)) dX2_freshKites_29 rfl rfl rfl ?_
            refine g_iinc C (v := (nI (i + 1))) dX2_freshKites_32 rfl rfl (nI_add (i) 1) ?_
            refine g_goto C (tgt := 4) dX2_freshKites_35 (by decide) ?_
            have this := ih (i + 1) (by omega) (by omega)
            rw [show sumN (frF (sSt σ) (sFr σ)) (i + 1) = ((sumN (frF (sSt σ) (sFr σ)) i) + 1) from by simp [sumN, frF, hc_7, hc_17, hc_26]] at this
            exact this
  refine g_iconst C (v := 0) dX2_freshKites_0 rfl ?_
  refine g_istore_n C dX2_freshKites_1 rfl (Nat.le_of_ble_eq_true rfl) rfl ?_
  refine g_iconst C (v := 0) dX2_freshKites_2 rfl ?_
  refine g_istore_n C dX2_freshKites_3 rfl (Nat.le_of_ble_eq_true rfl) rfl ?_
  exact lp 13 0 (by omega) (by omega)
set_option maxHeartbeats 4000000 in
set_option maxRecDepth 100000 in
theorem c_X2_weightsInAll (E : Ev) (h : Nat) (a : Nat → Nat) (σ : Sky) : MI E yX2_weightsInAll wsX2_weightsInAll (rmD 1) (skyW E h a σ) [.ref h] (pE (sumN (wAllF σ) 4) (skyW E h a σ)) := by
  refine MI.of (cc := cX2_weightsInAll) (nL := 3) (ty := .int) (own := RX2) [some (.ref h), none, none] (by decide +kernel) rfl rfl (Nat.le_of_ble_eq_true rfl) rfl rfl ?_
  intro x C R0
  have lp : ∀ (n i : Nat), 4 - i < n → i ≤ 4 → G E x (skyW E h a σ) [some (.ref h), some (.int (sumN (wAllF σ) i)), some (.int (nI i))] 4 [] := by
    intro n
    induction n with
    | zero => intro i h1; omega
    | succ n ih =>
      intro i hn hi
      refine g_iload_n C dX2_weightsInAll_4 rfl rfl ?_
      refine g_iconst C (v := 4) dX2_weightsInAll_5 rfl ?_
      refine g_icmp_ge C (tgt := 23) dX2_weightsInAll_6 (by decide) (fun hc_6 => ?_) (fun hc_6 => ?_)
      · have hn_6 : (4) ≤ (i) := (nI_leI (a := (4)) (b := (i)) (by omega) (by omega)).mp hc_6
        refine g_iload_n C dX2_weightsInAll_23 rfl rfl ?_
        refine g_iret C R0 dX2_weightsInAll_24 ?_
        refine pE_mk ?_ rfl
        rw [show i = 4 from by omega]
      · have hn_6 : ¬ (4) ≤ (i) := fun z => hc_6 ((nI_leI (a := (4)) (b := (i)) (by omega) (by omega)).mpr z)
        refine g_iload_n C dX2_weightsInAll_9 rfl rfl ?_
        refine g_aload_n C dX2_weightsInAll_10 rfl rfl ?_
        refine g_iload_n C dX2_weightsInAll_11 rfl rfl ?_
        refine g_calliVF C 0 rfl rfl (c_X2_weightsOn E h a σ _) cf_X2_weightsOn gX2_weightsInAll_X2_weightsOn rfl (fitD (Nat.le_of_ble_eq_true rfl) (Nat.le_of_ble_eq_true rfl)) rfl rfl (Nat.le_of_ble_eq_true rfl) dX2_weightsInAll_12 (fun r1 w1 hp => ?_)
        obtain ⟨rfl, rfl⟩ := hp
        refine g_iadd C dX2_weightsInAll_15 ?_
        refine g_istore_n C dX2_weightsInAll_16 rfl (Nat.le_of_ble_eq_true rfl) rfl ?_
        refine g_iinc C (v := (nI (i + 1))) dX2_weightsInAll_17 rfl rfl (nI_add (i) 1) ?_
        refine g_goto C (tgt := 4) dX2_weightsInAll_20 (by decide) ?_
        have this := ih (i + 1) (by omega) (by omega)
        rw [show sumN (wAllF σ) (i + 1) = ((sumN (wAllF σ) i) + (weig (sSt σ) (sHt σ) (nI i))) from by simp [sumN, wAllF, hc_6]] at this
        exact this
  refine g_iconst C (v := 0) dX2_weightsInAll_0 rfl ?_
  refine g_istore_n C dX2_weightsInAll_1 rfl (Nat.le_of_ble_eq_true rfl) rfl ?_
  refine g_iconst C (v := 0) dX2_weightsInAll_2 rfl ?_
  refine g_istore_n C dX2_weightsInAll_3 rfl (Nat.le_of_ble_eq_true rfl) rfl ?_
  exact lp 5 0 (by omega) (by omega)
set_option maxHeartbeats 4000000 in
set_option maxRecDepth 100000 in
theorem c_X2_greatestHeight (E : Ev) (h : Nat) (a : Nat → Nat) (σ : Sky) : MI E yX2_greatestHeight wsX2_greatestHeight (rmD 1) (skyW E h a σ) [.ref h] (pE (mxF (sSt σ) (sHt σ) 12) (skyW E h a σ)) := by
  have inX2 : ∀ w ∈ u_ws RX2 TX2 12, w ∈ wsX2_greatestHeight := by decide +kernel
  have f15 : Cond.fieldLink RX2 15 (TX2 1).1 (TX2 1).2.1 (TX2 1).2.2.1 ∈ wsX2_greatestHeight := by decide +kernel
  have f18 : Cond.fieldLink RX2 18 (TX2 2).1 (TX2 2).2.1 (TX2 2).2.2.1 ∈ wsX2_greatestHeight := by decide +kernel
  have m1_max : Cond.methodLink RX2 116 Lib.Math.max.name ∈ wsX2_greatestHeight := by decide +kernel
  have m2_max : Cond.static Lib.Math.max.name ∈ wsX2_greatestHeight := by decide +kernel
  have m3_max : Cond.initialized "java/lang/Math" ∈ wsX2_greatestHeight := by decide +kernel
  have m4_max : Cond.code Lib.Math.max.name Lib.Math.max.code 2 (some .int) ∈ wsX2_greatestHeight := by decide +kernel
  refine MI.of (cc := cX2_greatestHeight) (nL := 3) (ty := .int) (own := RX2) [some (.ref h), none, none] (by decide +kernel) rfl rfl (Nat.le_of_ble_eq_true rfl) rfl rfl ?_
  intro x C R0
  have lp : ∀ (n i : Nat), 12 - i < n → i ≤ 12 → G E x (skyW E h a σ) [some (.ref h), some (.int (mxF (sSt σ) (sHt σ) i)), some (.int (nI i))] 4 [] := by
    intro n
    induction n with
    | zero => intro i h1; omega
    | succ n ih =>
      intro i hn hi
      refine g_iload_n C dX2_greatestHeight_4 rfl rfl ?_
      refine g_bipush C (v := 12) dX2_greatestHeight_5 rfl ?_
      refine g_icmp_ge C (tgt := 37) dX2_greatestHeight_7 (by decide) (fun hc_7 => ?_) (fun hc_7 => ?_)
      · have hn_7 : (12) ≤ (i) := (nI_leI (a := (12)) (b := (i)) (by omega) (by omega)).mp hc_7
        refine g_iload_n C dX2_greatestHeight_37 rfl rfl ?_
        refine g_iret C R0 dX2_greatestHeight_38 ?_
        refine pE_mk ?_ rfl
        rw [show i = 12 from by omega]
      · have hn_7 : ¬ (12) ≤ (i) := fun z => hc_7 ((nI_leI (a := (12)) (b := (i)) (by omega) (by omega)).mpr z)
        refine g_aload_n C dX2_greatestHeight_10 rfl rfl ?_
        refine g_get C inX2 0 rfl rfl 1 (by decide) f15 rfl dX2_greatestHeight_11 ?_
        refine g_iload_n C dX2_greatestHeight_14 rfl rfl ?_
        refine g_iald C 2 rfl (i) rfl (by omega) (Nat.le_of_ble_eq_true rfl) dX2_greatestHeight_15 ?_
        refine g_iconst C (v := (-1)) dX2_greatestHeight_16 rfl ?_
        refine g_icmp_eq C (tgt := 31) dX2_greatestHeight_17 (by decide) (fun hc_17 => ?_) (fun hc_17 => ?_)
        · refine g_iinc C (v := (nI (i + 1))) dX2_greatestHeight_31 rfl rfl (nI_add (i) 1) ?_
          refine g_goto C (tgt := 4) dX2_greatestHeight_34 (by decide) ?_
          have this := ih (i + 1) (by omega) (by omega)
          rw [show mxF (sSt σ) (sHt σ) (i + 1) = (mxF (sSt σ) (sHt σ) i) from by simp [mxF, hc_7, hc_17]] at this
          exact this
        · refine g_iload_n C dX2_greatestHeight_20 rfl rfl ?_
          refine g_aload_n C dX2_greatestHeight_21 rfl rfl ?_
          refine g_get C inX2 0 rfl rfl 2 (by decide) f18 rfl dX2_greatestHeight_22 ?_
          refine g_iload_n C dX2_greatestHeight_25 rfl rfl ?_
          refine g_iald C 3 rfl (i) rfl (by omega) (Nat.le_of_ble_eq_true rfl) dX2_greatestHeight_26 ?_
          refine g_mmax C m1_max m2_max m3_max m4_max ⟨Nat.le_of_ble_eq_true rfl, Nat.le_of_ble_eq_true rfl⟩ dX2_greatestHeight_27 ?_
          refine g_istore_n C dX2_greatestHeight_30 rfl (Nat.le_of_ble_eq_true rfl) rfl ?_
          refine g_iinc C (v := (nI (i + 1))) dX2_greatestHeight_31 rfl rfl (nI_add (i) 1) ?_
          refine g_goto C (tgt := 4) dX2_greatestHeight_34 (by decide) ?_
          have this := ih (i + 1) (by omega) (by omega)
          rw [show mxF (sSt σ) (sHt σ) (i + 1) = (if (mxF (sSt σ) (sHt σ) i) < (sHt σ (i)) then (sHt σ (i)) else (mxF (sSt σ) (sHt σ) i)) from by simp [mxF, hc_7, hc_17]] at this
          exact this
  refine g_iconst C (v := 0) dX2_greatestHeight_0 rfl ?_
  refine g_istore_n C dX2_greatestHeight_1 rfl (Nat.le_of_ble_eq_true rfl) rfl ?_
  refine g_iconst C (v := 0) dX2_greatestHeight_2 rfl ?_
  refine g_istore_n C dX2_greatestHeight_3 rfl (Nat.le_of_ble_eq_true rfl) rfl ?_
  exact lp 13 0 (by omega) (by omega)
set_option maxHeartbeats 4000000 in
set_option maxRecDepth 100000 in
theorem c_X2_lowestAbove (E : Ev) (h : Nat) (a : Nat → Nat) (σ : Sky) (s t : Int32) : MI E yX2_lowestAbove wsX2_lowestAbove (rmD 0) (skyW E h a σ) [.ref h, .int s, .int t] (pE (low (sSt σ) (sHt σ) s t) (skyW E h a σ)) := by
  have inX2 : ∀ w ∈ u_ws RX2 TX2 12, w ∈ wsX2_lowestAbove := by decide +kernel
  have f15 : Cond.fieldLink RX2 15 (TX2 1).1 (TX2 1).2.1 (TX2 1).2.2.1 ∈ wsX2_lowestAbove := by decide +kernel
  have f18 : Cond.fieldLink RX2 18 (TX2 2).1 (TX2 2).2.1 (TX2 2).2.2.1 ∈ wsX2_lowestAbove := by decide +kernel
  have k125 : Cond.constant RX2 125 (1000000) ∈ wsX2_lowestAbove := by decide +kernel
  refine MI.of (cc := cX2_lowestAbove) (nL := 6) (ty := .int) (own := RX2) [some (.ref h), some (.int s), some (.int t), none, none, none] (by decide +kernel) rfl rfl (Nat.le_of_ble_eq_true rfl) rfl rfl ?_
  intro x C R0
  have lp : ∀ (n i : Nat), 12 - i < n → i ≤ 12 → G E x (skyW E h a σ) [some (.ref h), some (.int s), some (.int t), some (.int ((lowF (sSt σ) (sHt σ) s t i).1)), some (.int ((lowF (sSt σ) (sHt σ) s t i).2)), some (.int (nI i))] 11 [] := by
    intro n
    induction n with
    | zero => intro i h1; omega
    | succ n ih =>
      intro i hn hi
      refine g_iload C dX2_lowestAbove_11 rfl ?_
      refine g_bipush C (v := 12) dX2_lowestAbove_13 rfl ?_
      refine g_icmp_ge C (tgt := 70) dX2_lowestAbove_15 (by decide) (fun hc_15 => ?_) (fun hc_15 => ?_)
      · have hn_15 : (12) ≤ (i) := (nI_leI (a := (12)) (b := (i)) (by omega) (by omega)).mp hc_15
        refine g_iload_n C dX2_lowestAbove_70 rfl rfl ?_
        refine g_iret C R0 dX2_lowestAbove_71 ?_
        refine pE_mk ?_ rfl
        rw [show i = 12 from by omega]
      · have hn_15 : ¬ (12) ≤ (i) := fun z => hc_15 ((nI_leI (a := (12)) (b := (i)) (by omega) (by omega)).mpr z)
        refine g_aload_n C dX2_lowestAbove_18 rfl rfl ?_
        refine g_get C inX2 0 rfl rfl 1 (by decide) f15 rfl dX2_lowestAbove_19 ?_
        refine g_iload C dX2_lowestAbove_22 rfl ?_
        refine g_iald C 2 rfl (i) rfl (by omega) (Nat.le_of_ble_eq_true rfl) dX2_lowestAbove_24 ?_
        refine g_iload_n C dX2_lowestAbove_25 rfl rfl ?_
        refine g_icmp_ne C (tgt := 64) dX2_lowestAbove_26 (by decide) (fun hc_26 => ?_) (fun hc_26 => ?_)
        · refine g_iinc C (v := (nI (i + 1))) dX2_lowestAbove_64 rfl rfl (nI_add (i) 1) ?_
          refine g_goto C (tgt := 11) dX2_lowestAbove_67 (by decide) ?_
          have this := ih (i + 1) (by omega) (by omega)
          rw [show (lowF (sSt σ) (sHt σ) s t (i + 1)) = ((lowF (sSt σ) (sHt σ) s t i).1, (lowF (sSt σ) (sHt σ) s t i).2) from by rw [lowF, if_neg (fun z => by first | exact hc_26 z.1 | exact hc_26 z.2.1 | exact hc_26 z.2.2 | exact i32_lt.mpr hc_26 z.1 | exact i32_le.mpr hc_26 z.1 | exact i32_lt.mpr hc_26 z.2.1 | exact i32_le.mpr hc_26 z.2.1 | exact i32_lt.mpr hc_26 z.2.2 | exact i32_le.mpr hc_26 z.2.2)]] at this
          exact this
        · refine g_aload_n C dX2_lowestAbove_29 rfl rfl ?_
          refine g_get C inX2 0 rfl rfl 2 (by decide) f18 rfl dX2_lowestAbove_30 ?_
          refine g_iload C dX2_lowestAbove_33 rfl ?_
          refine g_iald C 3 rfl (i) rfl (by omega) (Nat.le_of_ble_eq_true rfl) dX2_lowestAbove_35 ?_
          refine g_iload_n C dX2_lowestAbove_36 rfl rfl ?_
          refine g_icmp_le C (tgt := 64) dX2_lowestAbove_37 (by decide) (fun hc_37 => ?_) (fun hc_37 => ?_)
          · refine g_iinc C (v := (nI (i + 1))) dX2_lowestAbove_64 rfl rfl (nI_add (i) 1) ?_
            refine g_goto C (tgt := 11) dX2_lowestAbove_67 (by decide) ?_
            have this := ih (i + 1) (by omega) (by omega)
            rw [show (lowF (sSt σ) (sHt σ) s t (i + 1)) = ((lowF (sSt σ) (sHt σ) s t i).1, (lowF (sSt σ) (sHt σ) s t i).2) from by rw [lowF, if_neg (fun z => by first | exact hc_37 z.1 | exact hc_37 z.2.1 | exact hc_37 z.2.2 | exact i32_lt.mpr hc_37 z.1 | exact i32_le.mpr hc_37 z.1 | exact i32_lt.mpr hc_37 z.2.1 | exact i32_le.mpr hc_37 z.2.1 | exact i32_lt.mpr hc_37 z.2.2 | exact i32_le.mpr hc_37 z.2.2)]] at this
            exact this
          · refine g_aload_n C dX2_lowestAbove_40 rfl rfl ?_
            refine g_get C inX2 0 rfl rfl 2 (by decide) f18 rfl dX2_lowestAbove_41 ?_
            refine g_iload C dX2_lowestAbove_44 rfl ?_
            refine g_iald C 3 rfl (i) rfl (by omega) (Nat.le_of_ble_eq_true rfl) dX2_lowestAbove_46 ?_
            refine g_iload C dX2_lowestAbove_47 rfl ?_
            refine g_icmp_ge C (tgt := 64) dX2_lowestAbove_49 (by decide) (fun hc_49 => ?_) (fun hc_49 => ?_)
            · refine g_iinc C (v := (nI (i + 1))) dX2_lowestAbove_64 rfl rfl (nI_add (i) 1) ?_
              refine g_goto C (tgt := 11) dX2_lowestAbove_67 (by decide) ?_
              have this := ih (i + 1) (by omega) (by omega)
              rw [show (lowF (sSt σ) (sHt σ) s t (i + 1)) = ((lowF (sSt σ) (sHt σ) s t i).1, (lowF (sSt σ) (sHt σ) s t i).2) from by rw [lowF, if_neg (fun z => by first | exact hc_49 z.1 | exact hc_49 z.2.1 | exact hc_49 z.2.2 | exact i32_lt.mpr hc_49 z.1 | exact i32_le.mpr hc_49 z.1 | exact i32_lt.mpr hc_49 z.2.1 | exact i32_le.mpr hc_49 z.2.1 | exact i32_lt.mpr hc_49 z.2.2 | exact i32_le.mpr hc_49 z.2.2)]] at this
              exact this
            · refine g_iload C dX2_lowestAbove_52 rfl ?_
              refine g_istore_n C dX2_lowestAbove_54 rfl (Nat.le_of_ble_eq_true rfl) rfl ?_
              refine g_aload_n C dX2_lowestAbove_55 rfl rfl ?_
              refine g_get C inX2 0 rfl rfl 2 (by decide) f18 rfl dX2_lowestAbove_56 ?_
              refine g_iload C dX2_lowestAbove_59 rfl ?_
              refine g_iald C 3 rfl (i) rfl (by omega) (Nat.le_of_ble_eq_true rfl) dX2_lowestAbove_61 ?_
              refine g_istore C dX2_lowestAbove_62 (Nat.le_of_ble_eq_true rfl) rfl ?_
              refine g_iinc C (v := (nI (i + 1))) dX2_lowestAbove_64 rfl rfl (nI_add (i) 1) ?_
              refine g_goto C (tgt := 11) dX2_lowestAbove_67 (by decide) ?_
              have this := ih (i + 1) (by omega) (by omega)
              rw [show (lowF (sSt σ) (sHt σ) s t (i + 1)) = ((nI i), (sHt σ (i))) from by rw [lowF, if_pos ⟨(by first | exact hc_26 | exact i32_le.mp hc_26 | exact i32_lt.mp hc_26), (by first | exact hc_37 | exact i32_le.mp hc_37 | exact i32_lt.mp hc_37), (by first | exact hc_49 | exact i32_le.mp hc_49 | exact i32_lt.mp hc_49)⟩]] at this
              exact this
  refine g_sipush C (v := (-10005)) dX2_lowestAbove_0 rfl ?_
  refine g_istore_n C dX2_lowestAbove_3 rfl (Nat.le_of_ble_eq_true rfl) rfl ?_
  refine g_ldc C k125 dX2_lowestAbove_4 ?_
  refine g_istore C dX2_lowestAbove_6 (Nat.le_of_ble_eq_true rfl) rfl ?_
  refine g_iconst C (v := 0) dX2_lowestAbove_8 rfl ?_
  refine g_istore C dX2_lowestAbove_9 (Nat.le_of_ble_eq_true rfl) rfl ?_
  exact lp 13 0 (by omega) (by omega)
set_option maxHeartbeats 4000000 in
set_option maxRecDepth 100000 in
theorem c_X2_highestBelow (E : Ev) (h : Nat) (a : Nat → Nat) (σ : Sky) (s t : Int32) : MI E yX2_highestBelow wsX2_highestBelow (rmD 0) (skyW E h a σ) [.ref h, .int s, .int t] (pE (hig (sSt σ) (sHt σ) s t) (skyW E h a σ)) := by
  have inX2 : ∀ w ∈ u_ws RX2 TX2 12, w ∈ wsX2_highestBelow := by decide +kernel
  have f15 : Cond.fieldLink RX2 15 (TX2 1).1 (TX2 1).2.1 (TX2 1).2.2.1 ∈ wsX2_highestBelow := by decide +kernel
  have f18 : Cond.fieldLink RX2 18 (TX2 2).1 (TX2 2).2.1 (TX2 2).2.2.1 ∈ wsX2_highestBelow := by decide +kernel
  refine MI.of (cc := cX2_highestBelow) (nL := 6) (ty := .int) (own := RX2) [some (.ref h), some (.int s), some (.int t), none, none, none] (by decide +kernel) rfl rfl (Nat.le_of_ble_eq_true rfl) rfl rfl ?_
  intro x C R0
  have lp : ∀ (n i : Nat), 12 - i < n → i ≤ 12 → G E x (skyW E h a σ) [some (.ref h), some (.int s), some (.int t), some (.int ((higF (sSt σ) (sHt σ) s t i).1)), some (.int ((higF (sSt σ) (sHt σ) s t i).2)), some (.int (nI i))] 10 [] := by
    intro n
    induction n with
    | zero => intro i h1; omega
    | succ n ih =>
      intro i hn hi
      refine g_iload C dX2_highestBelow_10 rfl ?_
      refine g_bipush C (v := 12) dX2_highestBelow_12 rfl ?_
      refine g_icmp_ge C (tgt := 69) dX2_highestBelow_14 (by decide) (fun hc_14 => ?_) (fun hc_14 => ?_)
      · have hn_14 : (12) ≤ (i) := (nI_leI (a := (12)) (b := (i)) (by omega) (by omega)).mp hc_14
        refine g_iload_n C dX2_highestBelow_69 rfl rfl ?_
        refine g_iret C R0 dX2_highestBelow_70 ?_
        refine pE_mk ?_ rfl
        rw [show i = 12 from by omega]
      · have hn_14 : ¬ (12) ≤ (i) := fun z => hc_14 ((nI_leI (a := (12)) (b := (i)) (by omega) (by omega)).mpr z)
        refine g_aload_n C dX2_highestBelow_17 rfl rfl ?_
        refine g_get C inX2 0 rfl rfl 1 (by decide) f15 rfl dX2_highestBelow_18 ?_
        refine g_iload C dX2_highestBelow_21 rfl ?_
        refine g_iald C 2 rfl (i) rfl (by omega) (Nat.le_of_ble_eq_true rfl) dX2_highestBelow_23 ?_
        refine g_iload_n C dX2_highestBelow_24 rfl rfl ?_
        refine g_icmp_ne C (tgt := 63) dX2_highestBelow_25 (by decide) (fun hc_25 => ?_) (fun hc_25 => ?_)
        · refine g_iinc C (v := (nI (i + 1))) dX2_highestBelow_63 rfl rfl (nI_add (i) 1) ?_
          refine g_goto C (tgt := 10) dX2_highestBelow_66 (by decide) ?_
          have this := ih (i + 1) (by omega) (by omega)
          rw [show (higF (sSt σ) (sHt σ) s t (i + 1)) = ((higF (sSt σ) (sHt σ) s t i).1, (higF (sSt σ) (sHt σ) s t i).2) from by rw [higF, if_neg (fun z => by first | exact hc_25 z.1 | exact hc_25 z.2.1 | exact hc_25 z.2.2 | exact i32_lt.mpr hc_25 z.1 | exact i32_le.mpr hc_25 z.1 | exact i32_lt.mpr hc_25 z.2.1 | exact i32_le.mpr hc_25 z.2.1 | exact i32_lt.mpr hc_25 z.2.2 | exact i32_le.mpr hc_25 z.2.2)]] at this
          exact this
        · refine g_aload_n C dX2_highestBelow_28 rfl rfl ?_
          refine g_get C inX2 0 rfl rfl 2 (by decide) f18 rfl dX2_highestBelow_29 ?_
          refine g_iload C dX2_highestBelow_32 rfl ?_
          refine g_iald C 3 rfl (i) rfl (by omega) (Nat.le_of_ble_eq_true rfl) dX2_highestBelow_34 ?_
          refine g_iload_n C dX2_highestBelow_35 rfl rfl ?_
          refine g_icmp_ge C (tgt := 63) dX2_highestBelow_36 (by decide) (fun hc_36 => ?_) (fun hc_36 => ?_)
          · refine g_iinc C (v := (nI (i + 1))) dX2_highestBelow_63 rfl rfl (nI_add (i) 1) ?_
            refine g_goto C (tgt := 10) dX2_highestBelow_66 (by decide) ?_
            have this := ih (i + 1) (by omega) (by omega)
            rw [show (higF (sSt σ) (sHt σ) s t (i + 1)) = ((higF (sSt σ) (sHt σ) s t i).1, (higF (sSt σ) (sHt σ) s t i).2) from by rw [higF, if_neg (fun z => by first | exact hc_36 z.1 | exact hc_36 z.2.1 | exact hc_36 z.2.2 | exact i32_lt.mpr hc_36 z.1 | exact i32_le.mpr hc_36 z.1 | exact i32_lt.mpr hc_36 z.2.1 | exact i32_le.mpr hc_36 z.2.1 | exact i32_lt.mpr hc_36 z.2.2 | exact i32_le.mpr hc_36 z.2.2)]] at this
            exact this
          · refine g_aload_n C dX2_highestBelow_39 rfl rfl ?_
            refine g_get C inX2 0 rfl rfl 2 (by decide) f18 rfl dX2_highestBelow_40 ?_
            refine g_iload C dX2_highestBelow_43 rfl ?_
            refine g_iald C 3 rfl (i) rfl (by omega) (Nat.le_of_ble_eq_true rfl) dX2_highestBelow_45 ?_
            refine g_iload C dX2_highestBelow_46 rfl ?_
            refine g_icmp_le C (tgt := 63) dX2_highestBelow_48 (by decide) (fun hc_48 => ?_) (fun hc_48 => ?_)
            · refine g_iinc C (v := (nI (i + 1))) dX2_highestBelow_63 rfl rfl (nI_add (i) 1) ?_
              refine g_goto C (tgt := 10) dX2_highestBelow_66 (by decide) ?_
              have this := ih (i + 1) (by omega) (by omega)
              rw [show (higF (sSt σ) (sHt σ) s t (i + 1)) = ((higF (sSt σ) (sHt σ) s t i).1, (higF (sSt σ) (sHt σ) s t i).2) from by rw [higF, if_neg (fun z => by first | exact hc_48 z.1 | exact hc_48 z.2.1 | exact hc_48 z.2.2 | exact i32_lt.mpr hc_48 z.1 | exact i32_le.mpr hc_48 z.1 | exact i32_lt.mpr hc_48 z.2.1 | exact i32_le.mpr hc_48 z.2.1 | exact i32_lt.mpr hc_48 z.2.2 | exact i32_le.mpr hc_48 z.2.2)]] at this
              exact this
            · refine g_iload C dX2_highestBelow_51 rfl ?_
              refine g_istore_n C dX2_highestBelow_53 rfl (Nat.le_of_ble_eq_true rfl) rfl ?_
              refine g_aload_n C dX2_highestBelow_54 rfl rfl ?_
              refine g_get C inX2 0 rfl rfl 2 (by decide) f18 rfl dX2_highestBelow_55 ?_
              refine g_iload C dX2_highestBelow_58 rfl ?_
              refine g_iald C 3 rfl (i) rfl (by omega) (Nat.le_of_ble_eq_true rfl) dX2_highestBelow_60 ?_
              refine g_istore C dX2_highestBelow_61 (Nat.le_of_ble_eq_true rfl) rfl ?_
              refine g_iinc C (v := (nI (i + 1))) dX2_highestBelow_63 rfl rfl (nI_add (i) 1) ?_
              refine g_goto C (tgt := 10) dX2_highestBelow_66 (by decide) ?_
              have this := ih (i + 1) (by omega) (by omega)
              rw [show (higF (sSt σ) (sHt σ) s t (i + 1)) = ((nI i), (sHt σ (i))) from by rw [higF, if_pos ⟨(by first | exact hc_25 | exact i32_le.mp hc_25 | exact i32_lt.mp hc_25), (by first | exact hc_36 | exact i32_le.mp hc_36 | exact i32_lt.mp hc_36), (by first | exact hc_48 | exact i32_le.mp hc_48 | exact i32_lt.mp hc_48)⟩]] at this
              exact this
  refine g_sipush C (v := (-10005)) dX2_highestBelow_0 rfl ?_
  refine g_istore_n C dX2_highestBelow_3 rfl (Nat.le_of_ble_eq_true rfl) rfl ?_
  refine g_iconst C (v := (-1)) dX2_highestBelow_4 rfl ?_
  refine g_istore C dX2_highestBelow_5 (Nat.le_of_ble_eq_true rfl) rfl ?_
  refine g_iconst C (v := 0) dX2_highestBelow_7 rfl ?_
  refine g_istore C dX2_highestBelow_8 (Nat.le_of_ble_eq_true rfl) rfl ?_
  exact lp 13 0 (by omega) (by omega)
