set_option maxHeartbeats 4000000 in
set_option maxRecDepth 100000 in
theorem c_X4_in (E : Ev) (W : va_W) (v l t : Int64) : MI E yX4_in wsX4_in (rmD 0) W [.long v, .long l, .long t] (pB (l ≤ v ∧ v ≤ t) W) := by
  refine MI.of (cc := cX4_in) (nL := 6) (ty := .boolean) (own := RX4) [some (.long v), none, some (.long l), none, some (.long t), none] (by decide +kernel) rfl rfl (Nat.le_of_ble_eq_true rfl) rfl rfl ?_
  intro x C R0
  refine g_lload_n C dX4_in_0 rfl rfl ?_
  refine g_lload_n C dX4_in_1 rfl rfl ?_
  refine g_lcmp C dX4_in_2 ?_
  refine g_if_lt C (tgt := 17) dX4_in_3 (by decide) (fun hc_3 => ?_) (fun hc_3 => ?_)
  · refine g_iconst C (v := 0) dX4_in_17 rfl ?_
    refine g_zret C R0 rfl dX4_in_18 ?_
    exact ⟨Or.inr ⟨fun z => i32_le.mpr ((lg_cmp_ge _ _).mpr z.1) hc_3, rfl⟩, rfl⟩
  · refine g_lload_n C dX4_in_6 rfl rfl ?_
    refine g_lload C dX4_in_7 rfl ?_
    refine g_lcmp C dX4_in_9 ?_
    refine g_if_gt C (tgt := 17) dX4_in_10 (by decide) (fun hc_10 => ?_) (fun hc_10 => ?_)
    · refine g_iconst C (v := 0) dX4_in_17 rfl ?_
      refine g_zret C R0 rfl dX4_in_18 ?_
      exact ⟨Or.inr ⟨fun z => i32_le.mpr ((lg_cmp_le _ _).mpr z.2) hc_10, rfl⟩, rfl⟩
    · refine g_iconst C (v := 1) dX4_in_13 rfl ?_
      refine g_goto C (tgt := 18) dX4_in_14 (by decide) ?_
      refine g_zret C R0 rfl dX4_in_18 ?_
      exact ⟨Or.inl ⟨⟨(lg_cmp_ge _ _).mp (i32_le.mp hc_3), (lg_cmp_le _ _).mp (i32_le.mp hc_10)⟩, rfl⟩, rfl⟩
set_option maxHeartbeats 4000000 in
set_option maxRecDepth 100000 in
theorem c_X4_isString (E : Ev) (W : va_W) (s : Int32) : MI E yX4_isString wsX4_isString (rmD 1) W [.int s] (pB (isS s) W) := by
  have k42 : Cond.constantLong RX4 42 (3) ∈ wsX4_isString := by decide +kernel
  refine MI.of (cc := cX4_isString) (nL := 1) (ty := .boolean) (own := RX4) [some (.int s)] (by decide +kernel) rfl rfl (Nat.le_of_ble_eq_true rfl) rfl rfl ?_
  intro x C R0
  refine g_iload_n C dX4_isString_0 rfl rfl ?_
  refine g_i2l C dX4_isString_1 ?_
  refine g_lconst C (v := 0) dX4_isString_2 rfl ?_
  refine g_ldc2 C k42 dX4_isString_3 ?_
  refine g_calliSF C (c_X4_in E _ _ _ _) cf_X4_in gX4_isString_X4_in rfl (fitD (Nat.le_of_ble_eq_true rfl) (Nat.le_of_ble_eq_true rfl)) rfl rfl (Nat.le_of_ble_eq_true rfl) dX4_isString_6 (fun r1 w1 hp => ?_)
  obtain ⟨⟨hb_6, rfl⟩ | ⟨hb_6, rfl⟩, rfl⟩ := hp
  · refine g_zret C R0 rfl dX4_isString_9 ?_
    exact ⟨Or.inl ⟨⟨(i64_lo (s := s) (c := 0) (d := 0) (by decide)).mp hb_6.1, (i32_le_lt (x := s) (c := 3) (d := 4) (by decide)).mp ((i64_hi (s := s) (c := 3) (d := 3) (by decide)).mp hb_6.2)⟩, rfl⟩, rfl⟩
  · refine g_zret C R0 rfl dX4_isString_9 ?_
    exact ⟨Or.inr ⟨fun z => hb_6 ⟨(i64_lo (s := s) (c := 0) (d := 0) (by decide)).mpr z.1, (i64_hi (s := s) (c := 3) (d := 3) (by decide)).mpr ((i32_le_lt (x := s) (c := 3) (d := 4) (by decide)).mpr z.2)⟩, rfl⟩, rfl⟩
set_option maxHeartbeats 4000000 in
set_option maxRecDepth 100000 in
theorem c_X4_isBeat (E : Ev) (W : va_W) (s : Int32) : MI E yX4_isBeat wsX4_isBeat (rmD 1) W [.int s] (pB (isB s) W) := by
  have k121 : Cond.constantLong RX4 121 (7) ∈ wsX4_isBeat := by decide +kernel
  refine MI.of (cc := cX4_isBeat) (nL := 1) (ty := .boolean) (own := RX4) [some (.int s)] (by decide +kernel) rfl rfl (Nat.le_of_ble_eq_true rfl) rfl rfl ?_
  intro x C R0
  refine g_iload_n C dX4_isBeat_0 rfl rfl ?_
  refine g_i2l C dX4_isBeat_1 ?_
  refine g_lconst C (v := 0) dX4_isBeat_2 rfl ?_
  refine g_ldc2 C k121 dX4_isBeat_3 ?_
  refine g_calliSF C (c_X4_in E _ _ _ _) cf_X4_in gX4_isBeat_X4_in rfl (fitD (Nat.le_of_ble_eq_true rfl) (Nat.le_of_ble_eq_true rfl)) rfl rfl (Nat.le_of_ble_eq_true rfl) dX4_isBeat_6 (fun r1 w1 hp => ?_)
  obtain ⟨⟨hb_6, rfl⟩ | ⟨hb_6, rfl⟩, rfl⟩ := hp
  · refine g_zret C R0 rfl dX4_isBeat_9 ?_
    exact ⟨Or.inl ⟨⟨(i64_lo (s := s) (c := 0) (d := 0) (by decide)).mp hb_6.1, (i32_le_lt (x := s) (c := 7) (d := 8) (by decide)).mp ((i64_hi (s := s) (c := 7) (d := 7) (by decide)).mp hb_6.2)⟩, rfl⟩, rfl⟩
  · refine g_zret C R0 rfl dX4_isBeat_9 ?_
    exact ⟨Or.inr ⟨fun z => hb_6 ⟨(i64_lo (s := s) (c := 0) (d := 0) (by decide)).mpr z.1, (i64_hi (s := s) (c := 7) (d := 7) (by decide)).mpr ((i32_le_lt (x := s) (c := 7) (d := 8) (by decide)).mpr z.2)⟩, rfl⟩, rfl⟩
set_option maxHeartbeats 4000000 in
set_option maxRecDepth 100000 in
theorem c_X4_isNumber (E : Ev) (W : va_W) (s : Int32) : MI E yX4_isNumber wsX4_isNumber (rmD 1) W [.int s] (pB (isN s) W) := by
  have k87 : Cond.constantLong RX4 87 (-999) ∈ wsX4_isNumber := by decide +kernel
  have k89 : Cond.constantLong RX4 89 (999) ∈ wsX4_isNumber := by decide +kernel
  refine MI.of (cc := cX4_isNumber) (nL := 1) (ty := .boolean) (own := RX4) [some (.int s)] (by decide +kernel) rfl rfl (Nat.le_of_ble_eq_true rfl) rfl rfl ?_
  intro x C R0
  refine g_iload_n C dX4_isNumber_0 rfl rfl ?_
  refine g_i2l C dX4_isNumber_1 ?_
  refine g_ldc2 C k87 dX4_isNumber_2 ?_
  refine g_ldc2 C k89 dX4_isNumber_5 ?_
  refine g_calliSF C (c_X4_in E _ _ _ _) cf_X4_in gX4_isNumber_X4_in rfl (fitD (Nat.le_of_ble_eq_true rfl) (Nat.le_of_ble_eq_true rfl)) rfl rfl (Nat.le_of_ble_eq_true rfl) dX4_isNumber_8 (fun r1 w1 hp => ?_)
  obtain ⟨⟨hb_8, rfl⟩ | ⟨hb_8, rfl⟩, rfl⟩ := hp
  · refine g_zret C R0 rfl dX4_isNumber_11 ?_
    exact ⟨Or.inl ⟨⟨(i64_lo (s := s) (c := (-999)) (d := (-999)) (by decide)).mp hb_8.1, (i64_hi (s := s) (c := 999) (d := 999) (by decide)).mp hb_8.2⟩, rfl⟩, rfl⟩
  · refine g_zret C R0 rfl dX4_isNumber_11 ?_
    exact ⟨Or.inr ⟨fun z => hb_8 ⟨(i64_lo (s := s) (c := (-999)) (d := (-999)) (by decide)).mpr z.1, (i64_hi (s := s) (c := 999) (d := 999) (by decide)).mpr z.2⟩, rfl⟩, rfl⟩
set_option maxHeartbeats 4000000 in
set_option maxRecDepth 100000 in
theorem c_X4_isKite (E : Ev) (m : Nat) (b : Nat → Nat) (μ : MD) (k : Int32) : MI E yX4_isKite wsX4_isKite (rmD 1) (modW E m b μ) [.ref m, .int k] (pB (isKm (gSt μ) k) (modW E m b μ)) := by
  have k48 : Cond.constantLong RX4 48 (11) ∈ wsX4_isKite := by decide +kernel
  have inX4 : ∀ w ∈ u_ws RX4 TX4 16, w ∈ wsX4_isKite := by decide +kernel
  have f7 : Cond.fieldLink RX4 7 (TX4 0).1 (TX4 0).2.1 (TX4 0).2.2.1 ∈ wsX4_isKite := by decide +kernel
  refine MI.of (cc := cX4_isKite) (nL := 2) (ty := .boolean) (own := RX4) [some (.ref m), some (.int k)] (by decide +kernel) rfl rfl (Nat.le_of_ble_eq_true rfl) rfl rfl ?_
  intro x C R0
  refine g_iload_n C dX4_isKite_0 rfl rfl ?_
  refine g_i2l C dX4_isKite_1 ?_
  refine g_lconst C (v := 0) dX4_isKite_2 rfl ?_
  refine g_ldc2 C k48 dX4_isKite_3 ?_
  refine g_calliSF C (c_X4_in E _ _ _ _) cf_X4_in gX4_isKite_X4_in rfl (fitD (Nat.le_of_ble_eq_true rfl) (Nat.le_of_ble_eq_true rfl)) rfl rfl (Nat.le_of_ble_eq_true rfl) dX4_isKite_6 (fun r1 w1 hp => ?_)
  obtain ⟨⟨hb_6, rfl⟩ | ⟨hb_6, rfl⟩, rfl⟩ := hp
  · have hz1 : 0 ≤ k := (i64_lo (s := k) (c := 0) (d := 0) (by decide)).mp hb_6.1
    have hz2 : k < 12 := (i32_le_lt (x := k) (c := 11) (d := 12) (by decide)).mp ((i64_hi (s := k) (c := 11) (d := 11) (by decide)).mp hb_6.2)
    obtain ⟨j, hj, rfl⟩ := i32_of (n := 12) hz1 hz2 (by decide)
    have hcl : (nI j).toNatClampNeg = j := nI_clamp (by omega)
    refine g_if_eq_f C dX4_isKite_9 31 (by decide) (by decide) ?_
    refine g_aload_n C dX4_isKite_12 rfl rfl ?_
    refine g_get C inX4 0 rfl rfl 0 (by decide) f7 rfl dX4_isKite_13 ?_
    refine g_bipush C (v := 18) dX4_isKite_16 rfl ?_
    refine g_iload_n C dX4_isKite_18 rfl rfl ?_
    refine g_iadd C dX4_isKite_19 ?_
    refine g_ialdE C 1 rfl (18 + j) (v := (gSt μ (j))) (nI_add 18 (j)) (by omega) (Nat.le_of_ble_eq_true rfl) (pk_St (by omega)) dX4_isKite_20 ?_
    refine g_sipush C (v := (-10005)) dX4_isKite_21 rfl ?_
    refine g_icmp_eq C (tgt := 31) dX4_isKite_24 (by decide) (fun hc_24 => ?_) (fun hc_24 => ?_)
    · refine g_iconst C (v := 0) dX4_isKite_31 rfl ?_
      refine g_zret C R0 rfl dX4_isKite_32 ?_
      exact ⟨Or.inr ⟨fun z => z.2.2 (by rw [hcl]; exact hc_24), rfl⟩, rfl⟩
    · refine g_iconst C (v := 1) dX4_isKite_27 rfl ?_
      refine g_goto C (tgt := 32) dX4_isKite_28 (by decide) ?_
      refine g_zret C R0 rfl dX4_isKite_32 ?_
      exact ⟨Or.inl ⟨⟨hz1, hz2, by rw [hcl]; exact hc_24⟩, rfl⟩, rfl⟩
  · refine g_if_eq_t C dX4_isKite_9 (tgt := 31) (by decide) (by decide) ?_
    refine g_iconst C (v := 0) dX4_isKite_31 rfl ?_
    refine g_zret C R0 rfl dX4_isKite_32 ?_
    exact ⟨Or.inr ⟨fun z => hb_6 ⟨(i64_lo (s := k) (c := 0) (d := 0) (by decide)).mpr z.1, (i64_hi (s := k) (c := 11) (d := 11) (by decide)).mpr ((i32_le_lt (x := k) (c := 11) (d := 12) (by decide)).mpr z.2.1)⟩, rfl⟩, rfl⟩
set_option maxHeartbeats 4000000 in
set_option maxRecDepth 100000 in
theorem c_X4_heightOf (E : Ev) (m : Nat) (b : Nat → Nat) (μ : MD) (j : Nat) (hj : j < 12) : MI E yX4_heightOf wsX4_heightOf (rmD 0) (modW E m b μ) [.ref m, .int (nI j)] (pE (gHt μ j) (modW E m b μ)) := by
  have inX4 : ∀ w ∈ u_ws RX4 TX4 16, w ∈ wsX4_heightOf := by decide +kernel
  have f7 : Cond.fieldLink RX4 7 (TX4 0).1 (TX4 0).2.1 (TX4 0).2.2.1 ∈ wsX4_heightOf := by decide +kernel
  refine MI.of (cc := cX4_heightOf) (nL := 2) (ty := .int) (own := RX4) [some (.ref m), some (.int (nI j))] (by decide +kernel) rfl rfl (Nat.le_of_ble_eq_true rfl) rfl rfl ?_
  intro x C R0
  refine g_aload_n C dX4_heightOf_0 rfl rfl ?_
  refine g_get C inX4 0 rfl rfl 0 (by decide) f7 rfl dX4_heightOf_1 ?_
  refine g_bipush C (v := 42) dX4_heightOf_4 rfl ?_
  refine g_iload_n C dX4_heightOf_6 rfl rfl ?_
  refine g_iadd C dX4_heightOf_7 ?_
  refine g_ialdE C 1 rfl (42 + j) (v := (gHt μ (j))) (nI_add 42 (j)) (by omega) (Nat.le_of_ble_eq_true rfl) (pk_Ht (by omega)) dX4_heightOf_8 ?_
  refine g_iret C R0 dX4_heightOf_9 ?_
  exact pE_mk rfl rfl
set_option maxHeartbeats 4000000 in
set_option maxRecDepth 100000 in
theorem c_X4_weightOf (E : Ev) (m : Nat) (b : Nat → Nat) (μ : MD) (j : Nat) (hj : j < 12) : MI E yX4_weightOf wsX4_weightOf (rmD 1) (modW E m b μ) [.ref m, .int (nI j)] (pE (gHt μ j + 1) (modW E m b μ)) := by
  refine MI.of (cc := cX4_weightOf) (nL := 2) (ty := .int) (own := RX4) [some (.ref m), some (.int (nI j))] (by decide +kernel) rfl rfl (Nat.le_of_ble_eq_true rfl) rfl rfl ?_
  intro x C R0
  refine g_aload_n C dX4_weightOf_0 rfl rfl ?_
  refine g_iload_n C dX4_weightOf_1 rfl rfl ?_
  refine g_calliVF C 0 rfl rfl (c_X4_heightOf E m b μ (j) (by omega)) cf_X4_heightOf gX4_weightOf_X4_heightOf rfl (fitD (Nat.le_of_ble_eq_true rfl) (Nat.le_of_ble_eq_true rfl)) rfl rfl (Nat.le_of_ble_eq_true rfl) dX4_weightOf_2 (fun r1 w1 hp => ?_)
  obtain ⟨rfl, rfl⟩ := hp
  refine g_iconst C (v := 1) dX4_weightOf_5 rfl ?_
  refine g_iadd C dX4_weightOf_6 ?_
  refine g_iret C R0 dX4_weightOf_7 ?_
  exact pE_mk rfl rfl
set_option maxHeartbeats 4000000 in
set_option maxRecDepth 100000 in
theorem c_X4_kiteAt (E : Ev) (m : Nat) (b : Nat → Nat) (μ : MD) (s t : Int32) : MI E yX4_kiteAt wsX4_kiteAt (rmD 1) (modW E m b μ) [.ref m, .int s, .int t] (pE (kaR (gSt μ) (gHt μ) s t) (modW E m b μ)) := by
  have inX4 : ∀ w ∈ u_ws RX4 TX4 16, w ∈ wsX4_kiteAt := by decide +kernel
  have f7 : Cond.fieldLink RX4 7 (TX4 0).1 (TX4 0).2.1 (TX4 0).2.2.1 ∈ wsX4_kiteAt := by decide +kernel
  refine MI.of (cc := cX4_kiteAt) (nL := 4) (ty := .int) (own := RX4) [some (.ref m), some (.int s), some (.int t), none] (by decide +kernel) rfl rfl (Nat.le_of_ble_eq_true rfl) rfl rfl ?_
  intro x C R0
  have lp : ∀ (n i : Nat), 12 - i < n → i ≤ 12 → ff (fun k => gSt μ k == s && gHt μ k == t) (12 - i) i = kaN (gSt μ) (gHt μ) s t → G E x (modW E m b μ) [some (.ref m), some (.int s), some (.int t), some (.int (nI i))] 2 [] := by
    intro n
    induction n with
    | zero => intro i h1; omega
    | succ n ih =>
      intro i hn hi hv
      refine g_iload_n C dX4_kiteAt_2 rfl rfl ?_
      refine g_bipush C (v := 12) dX4_kiteAt_3 rfl ?_
      refine g_icmp_ge C (tgt := 38) dX4_kiteAt_5 (by decide) (fun hc_5 => ?_) (fun hc_5 => ?_)
      · have hn_5 : (12) ≤ (i) := (nI_leI (a := (12)) (b := (i)) (by omega) (by omega)).mp hc_5
        refine g_sipush C (v := (-10005)) dX4_kiteAt_38 rfl ?_
        refine g_iret C R0 dX4_kiteAt_41 ?_
        rw [show 12 - i = 0 from by omega, ff] at hv
        refine pE_mk ?_ rfl
        rw [kaR, ← hv, if_neg (by omega)]
      · have hn_5 : ¬ (12) ≤ (i) := fun z => hc_5 ((nI_leI (a := (12)) (b := (i)) (by omega) (by omega)).mpr z)
        refine g_aload_n C dX4_kiteAt_8 rfl rfl ?_
        refine g_get C inX4 0 rfl rfl 0 (by decide) f7 rfl dX4_kiteAt_9 ?_
        refine g_bipush C (v := 18) dX4_kiteAt_12 rfl ?_
        refine g_iload_n C dX4_kiteAt_14 rfl rfl ?_
        refine g_iadd C dX4_kiteAt_15 ?_
        refine g_ialdE C 1 rfl (18 + i) (v := (gSt μ (i))) (nI_add 18 (i)) (by omega) (Nat.le_of_ble_eq_true rfl) (pk_St (by omega)) dX4_kiteAt_16 ?_
        refine g_iload_n C dX4_kiteAt_17 rfl rfl ?_
        refine g_icmp_ne C (tgt := 32) dX4_kiteAt_18 (by decide) (fun hc_18 => ?_) (fun hc_18 => ?_)
        · refine g_iinc C (v := (nI (i + 1))) dX4_kiteAt_32 rfl rfl (nI_add (i) 1) ?_
          refine g_goto C (tgt := 2) dX4_kiteAt_35 (by decide) ?_
          refine ih (i + 1) (by omega) (by omega) ?_
          rw [show 12 - i = (12 - (i + 1)) + 1 from by omega, ff, if_neg (by simp [hc_18])] at hv
          exact hv
        · refine g_aload_n C dX4_kiteAt_21 rfl rfl ?_
          refine g_iload_n C dX4_kiteAt_22 rfl rfl ?_
          refine g_calliVF C 0 rfl rfl (c_X4_heightOf E m b μ (i) (by omega)) cf_X4_heightOf gX4_kiteAt_X4_heightOf rfl (fitD (Nat.le_of_ble_eq_true rfl) (Nat.le_of_ble_eq_true rfl)) rfl rfl (Nat.le_of_ble_eq_true rfl) dX4_kiteAt_23 (fun r1 w1 hp => ?_)
          obtain ⟨rfl, rfl⟩ := hp
          refine g_iload_n C dX4_kiteAt_26 rfl rfl ?_
          refine g_icmp_ne C (tgt := 32) dX4_kiteAt_27 (by decide) (fun hc_27 => ?_) (fun hc_27 => ?_)
          · refine g_iinc C (v := (nI (i + 1))) dX4_kiteAt_32 rfl rfl (nI_add (i) 1) ?_
            refine g_goto C (tgt := 2) dX4_kiteAt_35 (by decide) ?_
            refine ih (i + 1) (by omega) (by omega) ?_
            rw [show 12 - i = (12 - (i + 1)) + 1 from by omega, ff, if_neg (by simp [hc_18, hc_27])] at hv
            exact hv
          · refine g_iload_n C dX4_kiteAt_30 rfl rfl ?_
            refine g_iret C R0 dX4_kiteAt_31 ?_
            rw [show 12 - i = (11 - i) + 1 from by omega, ff, if_pos (by simp [hc_18, hc_27])] at hv
            refine pE_mk ?_ rfl
            rw [kaR, ← hv, if_pos (by omega)]
  refine g_iconst C (v := 0) dX4_kiteAt_0 rfl ?_
  refine g_istore_n C dX4_kiteAt_1 rfl (Nat.le_of_ble_eq_true rfl) rfl ?_
  exact lp 13 0 (by omega) (by omega) rfl
theorem ff_spec (P : Nat → Bool) : ∀ n i, i ≤ ff P n i ∧ ff P n i ≤ i + n ∧ (∀ k, i ≤ k → k < ff P n i → P k = false) ∧ (ff P n i < i + n → P (ff P n i) = true)
  | 0, i => ⟨Nat.le_refl _, Nat.le_refl _, fun k h1 h2 => by rw [ff] at h2; omega, fun h => by rw [ff] at h; omega⟩
  | n + 1, i => by
    rw [ff]
    by_cases h : P i = true
    · rw [if_pos h]
      exact ⟨Nat.le_refl _, by omega, fun k h1 h2 => by omega, fun _ => h⟩
    · rw [if_neg h]
      obtain ⟨h1, h2, h3, h4⟩ := ff_spec P n (i + 1)
      refine ⟨by omega, by omega, fun k a1 a2 => ?_, fun a => h4 (by omega)⟩
      by_cases e : k = i
      · subst e; simpa using h
      · exact h3 k (by omega) a2
theorem kaR_ne {st ht : F} {s t : Int32} : ¬ kaR st ht s t = -10005 ↔ tk st ht s t = true := by
  obtain ⟨-, h2, h3, h4⟩ := ff_spec (fun k => st k == s && ht k == t) 12 0
  rw [tk_iff]
  unfold kaR
  constructor
  · intro h
    by_cases hl : kaN st ht s t < 12
    · have := h4 (by simpa [kaN] using hl)
      simp at this
      exact ⟨kaN st ht s t, hl, this.1, this.2⟩
    · rw [if_neg hl] at h
      exact absurd rfl h
  · rintro ⟨k, hk, e1, e2⟩
    have hl : kaN st ht s t < 12 := by
      refine Nat.lt_of_not_le fun z => ?_
      have := h3 k (by omega) (Nat.lt_of_lt_of_le hk z)
      simp [e1, e2] at this
    rw [if_pos hl]
    exact nI_neN (by omega)
set_option maxHeartbeats 4000000 in
set_option maxRecDepth 100000 in
theorem c_X4_landing (E : Ev) (m : Nat) (b : Nat → Nat) (μ : MD) (s t : Int32) (hf : hF (gSt μ) (gHt μ) s t) : MI E yX4_landing wsX4_landing (rmD 2) (modW E m b μ) [.ref m, .int s, .int t] (pE (land (gSt μ) (gHt μ) s t) (modW E m b μ)) := by
  refine MI.of (cc := cX4_landing) (nL := 4) (ty := .int) (own := RX4) [some (.ref m), some (.int s), some (.int t), none] (by decide +kernel) rfl rfl (Nat.le_of_ble_eq_true rfl) rfl rfl ?_
  intro x C R0
  have lp : ∀ (n i : Nat) (f : Int32), 13 - i < n → i ≤ 12 → landF (gSt μ) (gHt μ) s (12 - i) f = land (gSt μ) (gHt μ) s t → G E x (modW E m b μ) [some (.ref m), some (.int s), some (.int t), some (.int f)] 2 [] := by
    intro n
    induction n with
    | zero => intro i f h1; omega
    | succ n ih =>
      intro i f hn hi hv
      refine g_aload_n C dX4_landing_2 rfl rfl ?_
      refine g_iload_n C dX4_landing_3 rfl rfl ?_
      refine g_iload_n C dX4_landing_4 rfl rfl ?_
      refine g_calliVF C 0 rfl rfl (c_X4_kiteAt E m b μ _ _) cf_X4_kiteAt gX4_landing_X4_kiteAt rfl (fitD (Nat.le_of_ble_eq_true rfl) (Nat.le_of_ble_eq_true rfl)) rfl rfl (Nat.le_of_ble_eq_true rfl) dX4_landing_5 (fun r1 w1 hp => ?_)
      obtain ⟨rfl, rfl⟩ := hp
      refine g_sipush C (v := (-10005)) dX4_landing_8 rfl ?_
      refine g_icmp_eq C (tgt := 20) dX4_landing_11 (by decide) (fun hc_11 => ?_) (fun hc_11 => ?_)
      · refine g_iload_n C dX4_landing_20 rfl rfl ?_
        refine g_iret C R0 dX4_landing_21 ?_
        have ht : ¬ tk (gSt μ) (gHt μ) s f = true := fun z => kaR_ne.mpr z hc_11
        refine pE_mk ?_ rfl
        by_cases hi2 : i = 12
        · rw [show 12 - i = 0 from by omega] at hv
          exact hv
        · rw [show 12 - i = (11 - i) + 1 from by omega, landF, if_neg ht] at hv
          exact hv
      · refine g_iinc C (v := (f + 1)) dX4_landing_14 rfl rfl rfl ?_
        refine g_goto C (tgt := 2) dX4_landing_17 (by decide) ?_
        have ht : tk (gSt μ) (gHt μ) s f = true := kaR_ne.mp hc_11
        have hi2 : i < 12 := by
          refine Nat.lt_of_not_le fun z => ?_
          rw [show 12 - i = 0 from by omega, landF] at hv
          rw [hv] at ht
          exact hf ht
        refine ih (i + 1) _ (by omega) (by omega) ?_
        rw [show 12 - i = (12 - (i + 1)) + 1 from by omega, landF, if_pos ht] at hv
        exact hv
  refine g_iload_n C dX4_landing_0 rfl rfl ?_
  refine g_istore_n C dX4_landing_1 rfl (Nat.le_of_ble_eq_true rfl) rfl ?_
  exact lp 14 0 _ (by omega) (by omega) rfl
set_option maxHeartbeats 4000000 in
set_option maxRecDepth 100000 in
theorem c_X4_lands (E : Ev) (m : Nat) (b : Nat → Nat) (μ : MD) (j : Nat) (hj : j < 12) (s t : Int32) (hf : hL (mAl μ) j s t) : MV E yX4_lands wsX4_lands (rmD 3) (modW E m b μ) [.ref m, .int (nI j), .int s, .int t] (fun w => w = modW E m b (xLands μ j s t)) := by
  have inX4 : ∀ w ∈ u_ws RX4 TX4 16, w ∈ wsX4_lands := by decide +kernel
  have f7 : Cond.fieldLink RX4 7 (TX4 0).1 (TX4 0).2.1 (TX4 0).2.2.1 ∈ wsX4_lands := by decide +kernel
  refine MV.of (cc := cX4_lands) (nL := 5) (own := RX4) [some (.ref m), some (.int (nI j)), some (.int s), some (.int t), none] (by decide +kernel) rfl rfl (Nat.le_of_ble_eq_true rfl) rfl rfl ?_
  intro x C R0
  refine g_aload_n C dX4_lands_0 rfl rfl ?_
  refine g_get C inX4 0 rfl rfl 0 (by decide) f7 rfl dX4_lands_1 ?_
  refine g_bipush C (v := 18) dX4_lands_4 rfl ?_
  refine g_iload_n C dX4_lands_6 rfl rfl ?_
  refine g_iadd C dX4_lands_7 ?_
  refine g_sipush C (v := (-10005)) dX4_lands_8 rfl ?_
  refine g_iast C (ws' := (modW E m b (xSt μ (j) (-10005)))) 1 rfl (18 + j) (nI_add 18 (j)) (by omega) (Nat.le_of_ble_eq_true rfl) dX4_lands_11 (by rw [up_St (by omega)]; rfl) ?_
  refine g_aload_n C dX4_lands_12 rfl rfl ?_
  refine g_iload_n C dX4_lands_13 rfl rfl ?_
  refine g_iload_n C dX4_lands_14 rfl rfl ?_
  refine g_calliVF C 0 rfl rfl (c_X4_landing E m b (xSt μ (j) (-10005)) _ _ hf) cf_X4_landing gX4_lands_X4_landing rfl (fitD (Nat.le_of_ble_eq_true rfl) (Nat.le_of_ble_eq_true rfl)) rfl rfl (Nat.le_of_ble_eq_true rfl) dX4_lands_15 (fun r1 w1 hp => ?_)
  obtain ⟨rfl, rfl⟩ := hp
  refine g_istore C dX4_lands_18 (Nat.le_of_ble_eq_true rfl) rfl ?_
  refine g_aload_n C dX4_lands_20 rfl rfl ?_
  refine g_get C inX4 0 rfl rfl 0 (by decide) f7 rfl dX4_lands_21 ?_
  refine g_bipush C (v := 18) dX4_lands_24 rfl ?_
  refine g_iload_n C dX4_lands_26 rfl rfl ?_
  refine g_iadd C dX4_lands_27 ?_
  refine g_iload_n C dX4_lands_28 rfl rfl ?_
  refine g_iast C (ws' := (modW E m b (xSt (xSt μ (j) (-10005)) (j) s))) 1 rfl (18 + j) (nI_add 18 (j)) (by omega) (Nat.le_of_ble_eq_true rfl) dX4_lands_29 (by rw [up_St (by omega)]; rfl) ?_
  refine g_aload_n C dX4_lands_30 rfl rfl ?_
  refine g_get C inX4 0 rfl rfl 0 (by decide) f7 rfl dX4_lands_31 ?_
  refine g_bipush C (v := 42) dX4_lands_34 rfl ?_
  refine g_iload_n C dX4_lands_36 rfl rfl ?_
  refine g_iadd C dX4_lands_37 ?_
  refine g_iload C dX4_lands_38 rfl ?_
  refine g_iast C (ws' := (modW E m b (xHt (xSt (xSt μ (j) (-10005)) (j) s) (j) (land (gSt (xSt μ (j) (-10005))) (gHt (xSt μ (j) (-10005))) s t)))) 1 rfl (42 + j) (nI_add 42 (j)) (by omega) (Nat.le_of_ble_eq_true rfl) dX4_lands_40 (by rw [up_Ht (by omega)]; rfl) ?_
  refine g_vret C R0 dX4_lands_41 ?_
  exact rfl
set_option maxHeartbeats 4000000 in
set_option maxRecDepth 100000 in
theorem c_X4_nextTo_up (E : Ev) (m : Nat) (b : Nat → Nat) (μ : MD) (s t : Int32) : MI E yX4_nextTo wsX4_nextTo (rmD 1) (modW E m b μ) [.ref m, .int s, .int t, .int 1] (pE (optI (nxU (gSt μ) (gHt μ) s t 12)) (modW E m b μ)) := by
  have inX4 : ∀ w ∈ u_ws RX4 TX4 16, w ∈ wsX4_nextTo := by decide +kernel
  have f7 : Cond.fieldLink RX4 7 (TX4 0).1 (TX4 0).2.1 (TX4 0).2.2.1 ∈ wsX4_nextTo := by decide +kernel
  refine MI.of (cc := cX4_nextTo) (nL := 8) (ty := .int) (own := RX4) [some (.ref m), some (.int s), some (.int t), some (.int 1), none, none, none, none] (by decide +kernel) rfl rfl (Nat.le_of_ble_eq_true rfl) rfl rfl ?_
  intro x C R0
  have lp : ∀ (n i : Nat), 12 - i < n → i ≤ 12 → G E x (modW E m b μ) [some (.ref m), some (.int s), some (.int t), some (.int 1), some (.int (optI (nxU (gSt μ) (gHt μ) s t i))), some (.int (nI i)), none, none] 8 [] := by
    intro n
    induction n with
    | zero => intro i h1; omega
    | succ n ih =>
      intro i hn hi
      rcases hnx : (nxU (gSt μ) (gHt μ) s t i) with _ | p
      · skip
        refine g_iload C dX4_nextTo_8 rfl ?_
        refine g_bipush C (v := 12) dX4_nextTo_10 rfl ?_
        refine g_icmp_ge C (tgt := 120) dX4_nextTo_12 (by decide) (fun hc_12 => ?_) (fun hc_12 => ?_)
        · have hn_12 : (12) ≤ (i) := (nI_leI (a := (12)) (b := (i)) (by omega) (by omega)).mp hc_12
          refine g_iload C dX4_nextTo_120 rfl ?_
          refine g_iret C R0 dX4_nextTo_122 ?_
          refine pE_mk ?_ rfl
          rw [← hnx, show i = 12 from by omega]
        · have hn_12 : ¬ (12) ≤ (i) := fun z => hc_12 ((nI_leI (a := (12)) (b := (i)) (by omega) (by omega)).mpr z)
          refine g_aload_n C dX4_nextTo_15 rfl rfl ?_
          refine g_get C inX4 0 rfl rfl 0 (by decide) f7 rfl dX4_nextTo_16 ?_
          refine g_bipush C (v := 18) dX4_nextTo_19 rfl ?_
          refine g_iload C dX4_nextTo_21 rfl ?_
          refine g_iadd C dX4_nextTo_23 ?_
          refine g_ialdE C 1 rfl (18 + i) (v := (gSt μ (i))) (nI_add 18 (i)) (by omega) (Nat.le_of_ble_eq_true rfl) (pk_St (by omega)) dX4_nextTo_24 ?_
          refine g_iload_n C dX4_nextTo_25 rfl rfl ?_
          refine g_icmp_ne C (tgt := 114) dX4_nextTo_26 (by decide) (fun hc_26 => ?_) (fun hc_26 => ?_)
          · refine g_iinc C (v := (nI (i + 1))) dX4_nextTo_114 rfl rfl (nI_add (i) 1) ?_
            refine g_goto C (tgt := 8) dX4_nextTo_117 (by decide) ?_
            have this := ih (i + 1) (by omega) (by omega)
            rw [show (nxU (gSt μ) (gHt μ) s t (i + 1)) = none from by rw [nxU, if_neg (fun z => hc_26 z.1), hnx]] at this
            exact g_drop 6 (g_drop 7 this)
          · refine g_iload_n C dX4_nextTo_29 rfl rfl ?_
            refine g_if_eq_f C dX4_nextTo_30 44 (by decide) (by decide) ?_
            refine g_aload_n C dX4_nextTo_33 rfl rfl ?_
            refine g_iload C dX4_nextTo_34 rfl ?_
            refine g_calliVF C 0 rfl rfl (c_X4_heightOf E m b μ (i) (by omega)) cf_X4_heightOf gX4_nextTo_X4_heightOf rfl (fitD (Nat.le_of_ble_eq_true rfl) (Nat.le_of_ble_eq_true rfl)) rfl rfl (Nat.le_of_ble_eq_true rfl) dX4_nextTo_36 (fun r1 w1 hp => ?_)
            obtain ⟨rfl, rfl⟩ := hp
            refine g_iload_n C dX4_nextTo_39 rfl rfl ?_
            refine g_isub C dX4_nextTo_40 ?_
            refine g_goto C (tgt := 52) dX4_nextTo_41 (by decide) ?_
            refine g_istore C dX4_nextTo_52 (Nat.le_of_ble_eq_true rfl) rfl ?_
            refine g_iload C dX4_nextTo_54 rfl ?_
            refine g_sipush C (v := (-10005)) dX4_nextTo_56 rfl ?_
            refine g_icmp_ne_f C dX4_nextTo_59 68 (by decide) (by decide) ?_
            refine g_sipush C (v := 999) dX4_nextTo_62 rfl ?_
            refine g_goto C (tgt := 91) dX4_nextTo_65 (by decide) ?_
            refine g_istore C dX4_nextTo_91 (Nat.le_of_ble_eq_true rfl) rfl ?_
            refine g_iload C dX4_nextTo_93 rfl ?_
            refine g_if_le C (tgt := 110) dX4_nextTo_95 (by decide) (fun hc_95 => ?_) (fun hc_95 => ?_)
            · refine g_iload C dX4_nextTo_110 rfl ?_
              refine g_istore C dX4_nextTo_112 (Nat.le_of_ble_eq_true rfl) rfl ?_
              refine g_iinc C (v := (nI (i + 1))) dX4_nextTo_114 rfl rfl (nI_add (i) 1) ?_
              refine g_goto C (tgt := 8) dX4_nextTo_117 (by decide) ?_
              have this := ih (i + 1) (by omega) (by omega)
              rw [show (nxU (gSt μ) (gHt μ) s t (i + 1)) = none from by rw [nxU, if_neg (fun z => i32_nlt hc_95 z.2.1), hnx]] at this
              exact g_drop 6 (g_drop 7 this)
            · refine g_iload C dX4_nextTo_98 rfl ?_
              refine g_iload C dX4_nextTo_100 rfl ?_
              refine g_icmp_ge C (tgt := 110) dX4_nextTo_102 (by decide) (fun hc_102 => ?_) (fun hc_102 => ?_)
              · refine g_iload C dX4_nextTo_110 rfl ?_
                refine g_istore C dX4_nextTo_112 (Nat.le_of_ble_eq_true rfl) rfl ?_
                refine g_iinc C (v := (nI (i + 1))) dX4_nextTo_114 rfl rfl (nI_add (i) 1) ?_
                refine g_goto C (tgt := 8) dX4_nextTo_117 (by decide) ?_
                have this := ih (i + 1) (by omega) (by omega)
                rw [show (nxU (gSt μ) (gHt μ) s t (i + 1)) = none from by rw [nxU, if_neg (fun z => i32_nlt hc_102 (by have := z.2.2; rw [hnx] at this; exact this)), hnx]] at this
                exact g_drop 6 (g_drop 7 this)
              · refine g_iload C dX4_nextTo_105 rfl ?_
                refine g_goto C (tgt := 112) dX4_nextTo_107 (by decide) ?_
                refine g_istore C dX4_nextTo_112 (Nat.le_of_ble_eq_true rfl) rfl ?_
                refine g_iinc C (v := (nI (i + 1))) dX4_nextTo_114 rfl rfl (nI_add (i) 1) ?_
                refine g_goto C (tgt := 8) dX4_nextTo_117 (by decide) ?_
                have this := ih (i + 1) (by omega) (by omega)
                rw [show (nxU (gSt μ) (gHt μ) s t (i + 1)) = (some i) from by rw [nxU, if_pos ⟨hc_26, i32_lt.mp hc_95, by rw [hnx]; exact i32_lt.mp hc_102⟩]] at this
                exact g_drop 6 (g_drop 7 this)
      · have hp := nxU_lt i hnx
        refine g_iload C dX4_nextTo_8 rfl ?_
        refine g_bipush C (v := 12) dX4_nextTo_10 rfl ?_
        refine g_icmp_ge C (tgt := 120) dX4_nextTo_12 (by decide) (fun hc_12 => ?_) (fun hc_12 => ?_)
        · have hn_12 : (12) ≤ (i) := (nI_leI (a := (12)) (b := (i)) (by omega) (by omega)).mp hc_12
          refine g_iload C dX4_nextTo_120 rfl ?_
          refine g_iret C R0 dX4_nextTo_122 ?_
          refine pE_mk ?_ rfl
          rw [← hnx, show i = 12 from by omega]
        · have hn_12 : ¬ (12) ≤ (i) := fun z => hc_12 ((nI_leI (a := (12)) (b := (i)) (by omega) (by omega)).mpr z)
          refine g_aload_n C dX4_nextTo_15 rfl rfl ?_
          refine g_get C inX4 0 rfl rfl 0 (by decide) f7 rfl dX4_nextTo_16 ?_
          refine g_bipush C (v := 18) dX4_nextTo_19 rfl ?_
          refine g_iload C dX4_nextTo_21 rfl ?_
          refine g_iadd C dX4_nextTo_23 ?_
          refine g_ialdE C 1 rfl (18 + i) (v := (gSt μ (i))) (nI_add 18 (i)) (by omega) (Nat.le_of_ble_eq_true rfl) (pk_St (by omega)) dX4_nextTo_24 ?_
          refine g_iload_n C dX4_nextTo_25 rfl rfl ?_
          refine g_icmp_ne C (tgt := 114) dX4_nextTo_26 (by decide) (fun hc_26 => ?_) (fun hc_26 => ?_)
          · refine g_iinc C (v := (nI (i + 1))) dX4_nextTo_114 rfl rfl (nI_add (i) 1) ?_
            refine g_goto C (tgt := 8) dX4_nextTo_117 (by decide) ?_
            have this := ih (i + 1) (by omega) (by omega)
            rw [show (nxU (gSt μ) (gHt μ) s t (i + 1)) = (some p) from by rw [nxU, if_neg (fun z => hc_26 z.1), hnx]] at this
            exact g_drop 6 (g_drop 7 this)
          · refine g_iload_n C dX4_nextTo_29 rfl rfl ?_
            refine g_if_eq_f C dX4_nextTo_30 44 (by decide) (by decide) ?_
            refine g_aload_n C dX4_nextTo_33 rfl rfl ?_
            refine g_iload C dX4_nextTo_34 rfl ?_
            refine g_calliVF C 0 rfl rfl (c_X4_heightOf E m b μ (i) (by omega)) cf_X4_heightOf gX4_nextTo_X4_heightOf rfl (fitD (Nat.le_of_ble_eq_true rfl) (Nat.le_of_ble_eq_true rfl)) rfl rfl (Nat.le_of_ble_eq_true rfl) dX4_nextTo_36 (fun r1 w1 hp => ?_)
            obtain ⟨rfl, rfl⟩ := hp
            refine g_iload_n C dX4_nextTo_39 rfl rfl ?_
            refine g_isub C dX4_nextTo_40 ?_
            refine g_goto C (tgt := 52) dX4_nextTo_41 (by decide) ?_
            refine g_istore C dX4_nextTo_52 (Nat.le_of_ble_eq_true rfl) rfl ?_
            refine g_iload C dX4_nextTo_54 rfl ?_
            refine g_sipush C (v := (-10005)) dX4_nextTo_56 rfl ?_
            refine g_icmp_ne_t C dX4_nextTo_59 (tgt := 68) (by decide) (nI_neN (by omega)) ?_
            refine g_iload_n C dX4_nextTo_68 rfl rfl ?_
            refine g_if_eq_f C dX4_nextTo_69 83 (by decide) (by decide) ?_
            refine g_aload_n C dX4_nextTo_72 rfl rfl ?_
            refine g_iload C dX4_nextTo_73 rfl ?_
            refine g_calliVF C 0 rfl rfl (c_X4_heightOf E m b μ (p) (by omega)) cf_X4_heightOf gX4_nextTo_X4_heightOf rfl (fitD (Nat.le_of_ble_eq_true rfl) (Nat.le_of_ble_eq_true rfl)) rfl rfl (Nat.le_of_ble_eq_true rfl) dX4_nextTo_75 (fun r1 w1 hp => ?_)
            obtain ⟨rfl, rfl⟩ := hp
            refine g_iload_n C dX4_nextTo_78 rfl rfl ?_
            refine g_isub C dX4_nextTo_79 ?_
            refine g_goto C (tgt := 91) dX4_nextTo_80 (by decide) ?_
            refine g_istore C dX4_nextTo_91 (Nat.le_of_ble_eq_true rfl) rfl ?_
            refine g_iload C dX4_nextTo_93 rfl ?_
            refine g_if_le C (tgt := 110) dX4_nextTo_95 (by decide) (fun hc_95 => ?_) (fun hc_95 => ?_)
            · refine g_iload C dX4_nextTo_110 rfl ?_
              refine g_istore C dX4_nextTo_112 (Nat.le_of_ble_eq_true rfl) rfl ?_
              refine g_iinc C (v := (nI (i + 1))) dX4_nextTo_114 rfl rfl (nI_add (i) 1) ?_
              refine g_goto C (tgt := 8) dX4_nextTo_117 (by decide) ?_
              have this := ih (i + 1) (by omega) (by omega)
              rw [show (nxU (gSt μ) (gHt μ) s t (i + 1)) = (some p) from by rw [nxU, if_neg (fun z => i32_nlt hc_95 z.2.1), hnx]] at this
              exact g_drop 6 (g_drop 7 this)
            · refine g_iload C dX4_nextTo_98 rfl ?_
              refine g_iload C dX4_nextTo_100 rfl ?_
              refine g_icmp_ge C (tgt := 110) dX4_nextTo_102 (by decide) (fun hc_102 => ?_) (fun hc_102 => ?_)
              · refine g_iload C dX4_nextTo_110 rfl ?_
                refine g_istore C dX4_nextTo_112 (Nat.le_of_ble_eq_true rfl) rfl ?_
                refine g_iinc C (v := (nI (i + 1))) dX4_nextTo_114 rfl rfl (nI_add (i) 1) ?_
                refine g_goto C (tgt := 8) dX4_nextTo_117 (by decide) ?_
                have this := ih (i + 1) (by omega) (by omega)
                rw [show (nxU (gSt μ) (gHt μ) s t (i + 1)) = (some p) from by rw [nxU, if_neg (fun z => i32_nlt hc_102 (by have := z.2.2; rw [hnx] at this; exact this)), hnx]] at this
                exact g_drop 6 (g_drop 7 this)
              · refine g_iload C dX4_nextTo_105 rfl ?_
                refine g_goto C (tgt := 112) dX4_nextTo_107 (by decide) ?_
                refine g_istore C dX4_nextTo_112 (Nat.le_of_ble_eq_true rfl) rfl ?_
                refine g_iinc C (v := (nI (i + 1))) dX4_nextTo_114 rfl rfl (nI_add (i) 1) ?_
                refine g_goto C (tgt := 8) dX4_nextTo_117 (by decide) ?_
                have this := ih (i + 1) (by omega) (by omega)
                rw [show (nxU (gSt μ) (gHt μ) s t (i + 1)) = (some i) from by rw [nxU, if_pos ⟨hc_26, i32_lt.mp hc_95, by rw [hnx]; exact i32_lt.mp hc_102⟩]] at this
                exact g_drop 6 (g_drop 7 this)
  refine g_sipush C (v := (-10005)) dX4_nextTo_0 rfl ?_
  refine g_istore C dX4_nextTo_3 (Nat.le_of_ble_eq_true rfl) rfl ?_
  refine g_iconst C (v := 0) dX4_nextTo_5 rfl ?_
  refine g_istore C dX4_nextTo_6 (Nat.le_of_ble_eq_true rfl) rfl ?_
  exact lp 13 0 (by omega) (by omega)
set_option maxHeartbeats 4000000 in
set_option maxRecDepth 100000 in
theorem c_X4_nextTo_dn (E : Ev) (m : Nat) (b : Nat → Nat) (μ : MD) (s t : Int32) : MI E yX4_nextTo wsX4_nextTo (rmD 1) (modW E m b μ) [.ref m, .int s, .int t, .int 0] (pE (optI (nxD (gSt μ) (gHt μ) s t 12)) (modW E m b μ)) := by
  have inX4 : ∀ w ∈ u_ws RX4 TX4 16, w ∈ wsX4_nextTo := by decide +kernel
  have f7 : Cond.fieldLink RX4 7 (TX4 0).1 (TX4 0).2.1 (TX4 0).2.2.1 ∈ wsX4_nextTo := by decide +kernel
  refine MI.of (cc := cX4_nextTo) (nL := 8) (ty := .int) (own := RX4) [some (.ref m), some (.int s), some (.int t), some (.int 0), none, none, none, none] (by decide +kernel) rfl rfl (Nat.le_of_ble_eq_true rfl) rfl rfl ?_
  intro x C R0
  have lp : ∀ (n i : Nat), 12 - i < n → i ≤ 12 → G E x (modW E m b μ) [some (.ref m), some (.int s), some (.int t), some (.int 0), some (.int (optI (nxD (gSt μ) (gHt μ) s t i))), some (.int (nI i)), none, none] 8 [] := by
    intro n
    induction n with
    | zero => intro i h1; omega
    | succ n ih =>
      intro i hn hi
      rcases hnx : (nxD (gSt μ) (gHt μ) s t i) with _ | p
      · skip
        refine g_iload C dX4_nextTo_8 rfl ?_
        refine g_bipush C (v := 12) dX4_nextTo_10 rfl ?_
        refine g_icmp_ge C (tgt := 120) dX4_nextTo_12 (by decide) (fun hc_12 => ?_) (fun hc_12 => ?_)
        · have hn_12 : (12) ≤ (i) := (nI_leI (a := (12)) (b := (i)) (by omega) (by omega)).mp hc_12
          refine g_iload C dX4_nextTo_120 rfl ?_
          refine g_iret C R0 dX4_nextTo_122 ?_
          refine pE_mk ?_ rfl
          rw [← hnx, show i = 12 from by omega]
        · have hn_12 : ¬ (12) ≤ (i) := fun z => hc_12 ((nI_leI (a := (12)) (b := (i)) (by omega) (by omega)).mpr z)
          refine g_aload_n C dX4_nextTo_15 rfl rfl ?_
          refine g_get C inX4 0 rfl rfl 0 (by decide) f7 rfl dX4_nextTo_16 ?_
          refine g_bipush C (v := 18) dX4_nextTo_19 rfl ?_
          refine g_iload C dX4_nextTo_21 rfl ?_
          refine g_iadd C dX4_nextTo_23 ?_
          refine g_ialdE C 1 rfl (18 + i) (v := (gSt μ (i))) (nI_add 18 (i)) (by omega) (Nat.le_of_ble_eq_true rfl) (pk_St (by omega)) dX4_nextTo_24 ?_
          refine g_iload_n C dX4_nextTo_25 rfl rfl ?_
          refine g_icmp_ne C (tgt := 114) dX4_nextTo_26 (by decide) (fun hc_26 => ?_) (fun hc_26 => ?_)
          · refine g_iinc C (v := (nI (i + 1))) dX4_nextTo_114 rfl rfl (nI_add (i) 1) ?_
            refine g_goto C (tgt := 8) dX4_nextTo_117 (by decide) ?_
            have this := ih (i + 1) (by omega) (by omega)
            rw [show (nxD (gSt μ) (gHt μ) s t (i + 1)) = none from by rw [nxD, if_neg (fun z => hc_26 z.1), hnx]] at this
            exact g_drop 6 (g_drop 7 this)
          · refine g_iload_n C dX4_nextTo_29 rfl rfl ?_
            refine g_if_eq_t C dX4_nextTo_30 (tgt := 44) (by decide) (by decide) ?_
            refine g_iload_n C dX4_nextTo_44 rfl rfl ?_
            refine g_aload_n C dX4_nextTo_45 rfl rfl ?_
            refine g_iload C dX4_nextTo_46 rfl ?_
            refine g_calliVF C 0 rfl rfl (c_X4_heightOf E m b μ (i) (by omega)) cf_X4_heightOf gX4_nextTo_X4_heightOf rfl (fitD (Nat.le_of_ble_eq_true rfl) (Nat.le_of_ble_eq_true rfl)) rfl rfl (Nat.le_of_ble_eq_true rfl) dX4_nextTo_48 (fun r1 w1 hp => ?_)
            obtain ⟨rfl, rfl⟩ := hp
            refine g_isub C dX4_nextTo_51 ?_
            refine g_istore C dX4_nextTo_52 (Nat.le_of_ble_eq_true rfl) rfl ?_
            refine g_iload C dX4_nextTo_54 rfl ?_
            refine g_sipush C (v := (-10005)) dX4_nextTo_56 rfl ?_
            refine g_icmp_ne_f C dX4_nextTo_59 68 (by decide) (by decide) ?_
            refine g_sipush C (v := 999) dX4_nextTo_62 rfl ?_
            refine g_goto C (tgt := 91) dX4_nextTo_65 (by decide) ?_
            refine g_istore C dX4_nextTo_91 (Nat.le_of_ble_eq_true rfl) rfl ?_
            refine g_iload C dX4_nextTo_93 rfl ?_
            refine g_if_le C (tgt := 110) dX4_nextTo_95 (by decide) (fun hc_95 => ?_) (fun hc_95 => ?_)
            · refine g_iload C dX4_nextTo_110 rfl ?_
              refine g_istore C dX4_nextTo_112 (Nat.le_of_ble_eq_true rfl) rfl ?_
              refine g_iinc C (v := (nI (i + 1))) dX4_nextTo_114 rfl rfl (nI_add (i) 1) ?_
              refine g_goto C (tgt := 8) dX4_nextTo_117 (by decide) ?_
              have this := ih (i + 1) (by omega) (by omega)
              rw [show (nxD (gSt μ) (gHt μ) s t (i + 1)) = none from by rw [nxD, if_neg (fun z => i32_nlt hc_95 z.2.1), hnx]] at this
              exact g_drop 6 (g_drop 7 this)
            · refine g_iload C dX4_nextTo_98 rfl ?_
              refine g_iload C dX4_nextTo_100 rfl ?_
              refine g_icmp_ge C (tgt := 110) dX4_nextTo_102 (by decide) (fun hc_102 => ?_) (fun hc_102 => ?_)
              · refine g_iload C dX4_nextTo_110 rfl ?_
                refine g_istore C dX4_nextTo_112 (Nat.le_of_ble_eq_true rfl) rfl ?_
                refine g_iinc C (v := (nI (i + 1))) dX4_nextTo_114 rfl rfl (nI_add (i) 1) ?_
                refine g_goto C (tgt := 8) dX4_nextTo_117 (by decide) ?_
                have this := ih (i + 1) (by omega) (by omega)
                rw [show (nxD (gSt μ) (gHt μ) s t (i + 1)) = none from by rw [nxD, if_neg (fun z => i32_nlt hc_102 (by have := z.2.2; rw [hnx] at this; exact this)), hnx]] at this
                exact g_drop 6 (g_drop 7 this)
              · refine g_iload C dX4_nextTo_105 rfl ?_
                refine g_goto C (tgt := 112) dX4_nextTo_107 (by decide) ?_
                refine g_istore C dX4_nextTo_112 (Nat.le_of_ble_eq_true rfl) rfl ?_
                refine g_iinc C (v := (nI (i + 1))) dX4_nextTo_114 rfl rfl (nI_add (i) 1) ?_
                refine g_goto C (tgt := 8) dX4_nextTo_117 (by decide) ?_
                have this := ih (i + 1) (by omega) (by omega)
                rw [show (nxD (gSt μ) (gHt μ) s t (i + 1)) = (some i) from by rw [nxD, if_pos ⟨hc_26, i32_lt.mp hc_95, by rw [hnx]; exact i32_lt.mp hc_102⟩]] at this
                exact g_drop 6 (g_drop 7 this)
      · have hp := nxD_lt i hnx
        refine g_iload C dX4_nextTo_8 rfl ?_
        refine g_bipush C (v := 12) dX4_nextTo_10 rfl ?_
        refine g_icmp_ge C (tgt := 120) dX4_nextTo_12 (by decide) (fun hc_12 => ?_) (fun hc_12 => ?_)
        · have hn_12 : (12) ≤ (i) := (nI_leI (a := (12)) (b := (i)) (by omega) (by omega)).mp hc_12
          refine g_iload C dX4_nextTo_120 rfl ?_
          refine g_iret C R0 dX4_nextTo_122 ?_
          refine pE_mk ?_ rfl
          rw [← hnx, show i = 12 from by omega]
        · have hn_12 : ¬ (12) ≤ (i) := fun z => hc_12 ((nI_leI (a := (12)) (b := (i)) (by omega) (by omega)).mpr z)
          refine g_aload_n C dX4_nextTo_15 rfl rfl ?_
          refine g_get C inX4 0 rfl rfl 0 (by decide) f7 rfl dX4_nextTo_16 ?_
          refine g_bipush C (v := 18) dX4_nextTo_19 rfl ?_
          refine g_iload C dX4_nextTo_21 rfl ?_
          refine g_iadd C dX4_nextTo_23 ?_
          refine g_ialdE C 1 rfl (18 + i) (v := (gSt μ (i))) (nI_add 18 (i)) (by omega) (Nat.le_of_ble_eq_true rfl) (pk_St (by omega)) dX4_nextTo_24 ?_
          refine g_iload_n C dX4_nextTo_25 rfl rfl ?_
          refine g_icmp_ne C (tgt := 114) dX4_nextTo_26 (by decide) (fun hc_26 => ?_) (fun hc_26 => ?_)
          · refine g_iinc C (v := (nI (i + 1))) dX4_nextTo_114 rfl rfl (nI_add (i) 1) ?_
            refine g_goto C (tgt := 8) dX4_nextTo_117 (by decide) ?_
            have this := ih (i + 1) (by omega) (by omega)
            rw [show (nxD (gSt μ) (gHt μ) s t (i + 1)) = (some p) from by rw [nxD, if_neg (fun z => hc_26 z.1), hnx]] at this
            exact g_drop 6 (g_drop 7 this)
          · refine g_iload_n C dX4_nextTo_29 rfl rfl ?_
            refine g_if_eq_t C dX4_nextTo_30 (tgt := 44) (by decide) (by decide) ?_
            refine g_iload_n C dX4_nextTo_44 rfl rfl ?_
            refine g_aload_n C dX4_nextTo_45 rfl rfl ?_
            refine g_iload C dX4_nextTo_46 rfl ?_
            refine g_calliVF C 0 rfl rfl (c_X4_heightOf E m b μ (i) (by omega)) cf_X4_heightOf gX4_nextTo_X4_heightOf rfl (fitD (Nat.le_of_ble_eq_true rfl) (Nat.le_of_ble_eq_true rfl)) rfl rfl (Nat.le_of_ble_eq_true rfl) dX4_nextTo_48 (fun r1 w1 hp => ?_)
            obtain ⟨rfl, rfl⟩ := hp
            refine g_isub C dX4_nextTo_51 ?_
            refine g_istore C dX4_nextTo_52 (Nat.le_of_ble_eq_true rfl) rfl ?_
            refine g_iload C dX4_nextTo_54 rfl ?_
            refine g_sipush C (v := (-10005)) dX4_nextTo_56 rfl ?_
            refine g_icmp_ne_t C dX4_nextTo_59 (tgt := 68) (by decide) (nI_neN (by omega)) ?_
            refine g_iload_n C dX4_nextTo_68 rfl rfl ?_
            refine g_if_eq_t C dX4_nextTo_69 (tgt := 83) (by decide) (by decide) ?_
            refine g_iload_n C dX4_nextTo_83 rfl rfl ?_
            refine g_aload_n C dX4_nextTo_84 rfl rfl ?_
            refine g_iload C dX4_nextTo_85 rfl ?_
            refine g_calliVF C 0 rfl rfl (c_X4_heightOf E m b μ (p) (by omega)) cf_X4_heightOf gX4_nextTo_X4_heightOf rfl (fitD (Nat.le_of_ble_eq_true rfl) (Nat.le_of_ble_eq_true rfl)) rfl rfl (Nat.le_of_ble_eq_true rfl) dX4_nextTo_87 (fun r1 w1 hp => ?_)
            obtain ⟨rfl, rfl⟩ := hp
            refine g_isub C dX4_nextTo_90 ?_
            refine g_istore C dX4_nextTo_91 (Nat.le_of_ble_eq_true rfl) rfl ?_
            refine g_iload C dX4_nextTo_93 rfl ?_
            refine g_if_le C (tgt := 110) dX4_nextTo_95 (by decide) (fun hc_95 => ?_) (fun hc_95 => ?_)
            · refine g_iload C dX4_nextTo_110 rfl ?_
              refine g_istore C dX4_nextTo_112 (Nat.le_of_ble_eq_true rfl) rfl ?_
              refine g_iinc C (v := (nI (i + 1))) dX4_nextTo_114 rfl rfl (nI_add (i) 1) ?_
              refine g_goto C (tgt := 8) dX4_nextTo_117 (by decide) ?_
              have this := ih (i + 1) (by omega) (by omega)
              rw [show (nxD (gSt μ) (gHt μ) s t (i + 1)) = (some p) from by rw [nxD, if_neg (fun z => i32_nlt hc_95 z.2.1), hnx]] at this
              exact g_drop 6 (g_drop 7 this)
            · refine g_iload C dX4_nextTo_98 rfl ?_
              refine g_iload C dX4_nextTo_100 rfl ?_
              refine g_icmp_ge C (tgt := 110) dX4_nextTo_102 (by decide) (fun hc_102 => ?_) (fun hc_102 => ?_)
              · refine g_iload C dX4_nextTo_110 rfl ?_
                refine g_istore C dX4_nextTo_112 (Nat.le_of_ble_eq_true rfl) rfl ?_
                refine g_iinc C (v := (nI (i + 1))) dX4_nextTo_114 rfl rfl (nI_add (i) 1) ?_
                refine g_goto C (tgt := 8) dX4_nextTo_117 (by decide) ?_
                have this := ih (i + 1) (by omega) (by omega)
                rw [show (nxD (gSt μ) (gHt μ) s t (i + 1)) = (some p) from by rw [nxD, if_neg (fun z => i32_nlt hc_102 (by have := z.2.2; rw [hnx] at this; exact this)), hnx]] at this
                exact g_drop 6 (g_drop 7 this)
              · refine g_iload C dX4_nextTo_105 rfl ?_
                refine g_goto C (tgt := 112) dX4_nextTo_107 (by decide) ?_
                refine g_istore C dX4_nextTo_112 (Nat.le_of_ble_eq_true rfl) rfl ?_
                refine g_iinc C (v := (nI (i + 1))) dX4_nextTo_114 rfl rfl (nI_add (i) 1) ?_
                refine g_goto C (tgt := 8) dX4_nextTo_117 (by decide) ?_
                have this := ih (i + 1) (by omega) (by omega)
                rw [show (nxD (gSt μ) (gHt μ) s t (i + 1)) = (some i) from by rw [nxD, if_pos ⟨hc_26, i32_lt.mp hc_95, by rw [hnx]; exact i32_lt.mp hc_102⟩]] at this
                exact g_drop 6 (g_drop 7 this)
  refine g_sipush C (v := (-10005)) dX4_nextTo_0 rfl ?_
  refine g_istore C dX4_nextTo_3 (Nat.le_of_ble_eq_true rfl) rfl ?_
  refine g_iconst C (v := 0) dX4_nextTo_5 rfl ?_
  refine g_istore C dX4_nextTo_6 (Nat.le_of_ble_eq_true rfl) rfl ?_
  exact lp 13 0 (by omega) (by omega)
