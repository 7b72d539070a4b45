set_option maxHeartbeats 4000000 in
set_option maxRecDepth 100000 in
theorem c_X2_changeWind (E : Ev) (h : Nat) (a : Nat → Nat) (σ : Sky) (b w : Int32) : MI E yX2_changeWind wsX2_changeWind (rmD 1) (skyW E h a σ) [.ref h, .int b, .int w] (pS E h a (windR σ b w)) := by
  have hi_X3_isBeat : Cond.static yX3_isBeat ∈ wsX2_changeWind := by decide +kernel
  have hn_X3 : Cond.initialized yX3_isBeat.cls ∈ wsX2_changeWind := by decide +kernel
  have inX2 : ∀ w ∈ u_ws RX2 TX2 12, w ∈ wsX2_changeWind := by decide +kernel
  have f31 : Cond.fieldLink RX2 31 (TX2 6).1 (TX2 6).2.1 (TX2 6).2.2.1 ∈ wsX2_changeWind := by decide +kernel
  refine MI.of (cc := cX2_changeWind) (nL := 4) (ty := .int) (own := RX2) [some (.ref h), some (.int b), some (.int w), none] (by decide +kernel) rfl rfl (Nat.le_of_ble_eq_true rfl) rfl rfl ?_
  intro x C R0
  refine g_iload_n C dX2_changeWind_0 rfl rfl ?_
  refine g_calliTF C (c_X3_isBeat E _ _) cf_X3_isBeat ggX2_changeWind_X3_isBeat (List.mem_of_getElem? (i := 6) rfl) hi_X3_isBeat hn_X3 (fitD (Nat.le_of_ble_eq_true rfl) (Nat.le_of_ble_eq_true rfl)) rfl rfl (Nat.le_of_ble_eq_true rfl) dX2_changeWind_1 (fun r1 w1 hp => ?_)
  obtain ⟨⟨hb_1, rfl⟩ | ⟨hb_1, rfl⟩, rfl⟩ := hp
  · obtain ⟨j, hj, rfl⟩ := i32_of (n := 8) hb_1.1 hb_1.2 (by decide)
    have hcl : (nI j).toNatClampNeg = j := nI_clamp (by omega)
    refine g_if_ne_t C dX2_changeWind_4 (tgt := 11) (by decide) (by decide) ?_
    refine g_iload_n C dX2_changeWind_11 rfl rfl ?_
    refine g_if_lt C (tgt := 21) dX2_changeWind_12 (by decide) (fun hc_12 => ?_) (fun hc_12 => ?_)
    · refine g_sipush C (v := (-10002)) dX2_changeWind_21 rfl ?_
      refine g_iret C R0 dX2_changeWind_24 ?_
      refine pS_mk (σ := σ) ?_ rfl
      rw [windR, if_pos hb_1, if_neg (fun z => (by first | exact i32_lt.mpr hc_12 z.1 | exact i32_le.mpr hc_12 z.1 | exact i32_lt.mpr hc_12 z.2 | exact i32_le.mpr hc_12 z.2 | exact hc_12 z.1 | exact hc_12 z.2))] <;> rfl
    · refine g_iload_n C dX2_changeWind_15 rfl rfl ?_
      refine g_bipush C (v := 9) dX2_changeWind_16 rfl ?_
      refine g_icmp_le C (tgt := 25) dX2_changeWind_18 (by decide) (fun hc_18 => ?_) (fun hc_18 => ?_)
      · refine g_aload_n C dX2_changeWind_25 rfl rfl ?_
        refine g_get C inX2 0 rfl rfl 6 (by decide) f31 rfl dX2_changeWind_26 ?_
        refine g_iload_n C dX2_changeWind_29 rfl rfl ?_
        refine g_iald C 7 rfl (j) rfl (by omega) (Nat.le_of_ble_eq_true rfl) dX2_changeWind_30 ?_
        refine g_istore_n C dX2_changeWind_31 rfl (Nat.le_of_ble_eq_true rfl) rfl ?_
        refine g_iload_n C dX2_changeWind_32 rfl rfl ?_
        refine g_iload_n C dX2_changeWind_33 rfl rfl ?_
        refine g_icmp_ne C (tgt := 41) dX2_changeWind_34 (by decide) (fun hc_34 => ?_) (fun hc_34 => ?_)
        · refine g_aload_n C dX2_changeWind_41 rfl rfl ?_
          refine g_get C inX2 0 rfl rfl 6 (by decide) f31 rfl dX2_changeWind_42 ?_
          refine g_iload_n C dX2_changeWind_45 rfl rfl ?_
          refine g_iload_n C dX2_changeWind_46 rfl rfl ?_
          refine g_iast C (ws' := (skyW E h a (pWi σ (j) w))) 7 rfl (j) rfl (by omega) (Nat.le_of_ble_eq_true rfl) dX2_changeWind_47 rfl ?_
          refine g_iload_n C dX2_changeWind_48 rfl rfl ?_
          refine g_iret C R0 dX2_changeWind_49 ?_
          refine pS_mk (σ := (pWi σ (j) w)) ?_ rfl
          rw [windR, if_pos hb_1, if_pos ⟨(by first | exact hc_12 | exact i32_le.mp hc_12 | exact i32_lt.mp hc_12), (by first | exact hc_18 | exact i32_le.mp hc_18 | exact i32_lt.mp hc_18)⟩, hcl, if_neg hc_34] <;> rfl
        · refine g_sipush C (v := (-10005)) dX2_changeWind_37 rfl ?_
          refine g_iret C R0 dX2_changeWind_40 ?_
          refine pS_mk (σ := σ) ?_ rfl
          rw [windR, if_pos hb_1, if_pos ⟨(by first | exact hc_12 | exact i32_le.mp hc_12 | exact i32_lt.mp hc_12), (by first | exact hc_18 | exact i32_le.mp hc_18 | exact i32_lt.mp hc_18)⟩, hcl, if_pos hc_34] <;> rfl
      · refine g_sipush C (v := (-10002)) dX2_changeWind_21 rfl ?_
        refine g_iret C R0 dX2_changeWind_24 ?_
        refine pS_mk (σ := σ) ?_ rfl
        rw [windR, if_pos hb_1, if_neg (fun z => (by first | exact i32_lt.mpr hc_18 z.1 | exact i32_le.mpr hc_18 z.1 | exact i32_lt.mpr hc_18 z.2 | exact i32_le.mpr hc_18 z.2 | exact hc_18 z.1 | exact hc_18 z.2))] <;> rfl
  · refine g_if_ne_f C dX2_changeWind_4 11 (by decide) (by decide) ?_
    refine g_sipush C (v := (-10001)) dX2_changeWind_7 rfl ?_
    refine g_iret C R0 dX2_changeWind_10 ?_
    refine pS_mk (σ := σ) ?_ rfl
    rw [windR, if_neg hb_1] <;> rfl
set_option maxHeartbeats 4000000 in
set_option maxRecDepth 100000 in
theorem c_X2_changeCut (E : Ev) (h : Nat) (a : Nat → Nat) (σ : Sky) (v : Int32) : MI E yX2_changeCut wsX2_changeCut (rmD 0) (skyW E h a σ) [.ref h, .int v] (pS E h a (cutR σ v)) := by
  have inX2 : ∀ w ∈ u_ws RX2 TX2 12, w ∈ wsX2_changeCut := by decide +kernel
  have f44 : Cond.fieldLink RX2 44 (TX2 10).1 (TX2 10).2.1 (TX2 10).2.2.1 ∈ wsX2_changeCut := by decide +kernel
  refine MI.of (cc := cX2_changeCut) (nL := 3) (ty := .int) (own := RX2) [some (.ref h), some (.int v), none] (by decide +kernel) rfl rfl (Nat.le_of_ble_eq_true rfl) rfl rfl ?_
  intro x C R0
  refine g_iload_n C dX2_changeCut_0 rfl rfl ?_
  refine g_iconst C (v := 5) dX2_changeCut_1 rfl ?_
  refine g_icmp_lt C (tgt := 11) dX2_changeCut_2 (by decide) (fun hc_2 => ?_) (fun hc_2 => ?_)
  · refine g_sipush C (v := (-10002)) dX2_changeCut_11 rfl ?_
    refine g_iret C R0 dX2_changeCut_14 ?_
    refine pS_mk (σ := σ) ?_ rfl
    rw [cutR, if_neg (fun z => (by first | exact i32_lt.mpr hc_2 z.1 | exact i32_le.mpr hc_2 z.1 | exact i32_lt.mpr hc_2 z.2 | exact i32_le.mpr hc_2 z.2 | exact hc_2 z.1 | exact hc_2 z.2))]
  · refine g_iload_n C dX2_changeCut_5 rfl rfl ?_
    refine g_bipush C (v := 80) dX2_changeCut_6 rfl ?_
    refine g_icmp_le C (tgt := 15) dX2_changeCut_8 (by decide) (fun hc_8 => ?_) (fun hc_8 => ?_)
    · refine g_aload_n C dX2_changeCut_15 rfl rfl ?_
      refine g_get C inX2 0 rfl rfl 10 (by decide) f44 rfl dX2_changeCut_16 ?_
      refine g_istore_n C dX2_changeCut_19 rfl (Nat.le_of_ble_eq_true rfl) rfl ?_
      refine g_iload_n C dX2_changeCut_20 rfl rfl ?_
      refine g_iload_n C dX2_changeCut_21 rfl rfl ?_
      refine g_icmp_ne C (tgt := 29) dX2_changeCut_22 (by decide) (fun hc_22 => ?_) (fun hc_22 => ?_)
      · refine g_aload_n C dX2_changeCut_29 rfl rfl ?_
        refine g_iload_n C dX2_changeCut_30 rfl rfl ?_
        refine g_put C (ws' := (skyW E h a (uCh σ v))) inX2 (ty := .int) tyX2 tyX2_ok nmX2 0 rfl rfl 10 (by decide) f44 rfl (by decide +kernel) rfl rfl (Nat.le_of_ble_eq_true rfl) dX2_changeCut_31 rfl ?_
        refine g_iload_n C dX2_changeCut_34 rfl rfl ?_
        refine g_iret C R0 dX2_changeCut_35 ?_
        refine pS_mk (σ := (uCh σ v)) ?_ rfl
        rw [cutR, if_pos ⟨(by first | exact hc_2 | exact i32_le.mp hc_2 | exact i32_lt.mp hc_2), (by first | exact hc_8 | exact i32_le.mp hc_8 | exact i32_lt.mp hc_8)⟩, if_neg hc_22]
      · refine g_sipush C (v := (-10005)) dX2_changeCut_25 rfl ?_
        refine g_iret C R0 dX2_changeCut_28 ?_
        refine pS_mk (σ := σ) ?_ rfl
        rw [cutR, if_pos ⟨(by first | exact hc_2 | exact i32_le.mp hc_2 | exact i32_lt.mp hc_2), (by first | exact hc_8 | exact i32_le.mp hc_8 | exact i32_lt.mp hc_8)⟩, if_pos hc_22]
    · refine g_sipush C (v := (-10002)) dX2_changeCut_11 rfl ?_
      refine g_iret C R0 dX2_changeCut_14 ?_
      refine pS_mk (σ := σ) ?_ rfl
      rw [cutR, if_neg (fun z => (by first | exact i32_lt.mpr hc_8 z.1 | exact i32_le.mpr hc_8 z.1 | exact i32_lt.mpr hc_8 z.2 | exact i32_le.mpr hc_8 z.2 | exact hc_8 z.1 | exact hc_8 z.2))]
set_option maxHeartbeats 4000000 in
set_option maxRecDepth 100000 in
theorem c_X2_changeSinking (E : Ev) (h : Nat) (a : Nat → Nat) (σ : Sky) (v : Int32) : MI E yX2_changeSinking wsX2_changeSinking (rmD 0) (skyW E h a σ) [.ref h, .int v] (pS E h a (sinR σ v)) := by
  have inX2 : ∀ w ∈ u_ws RX2 TX2 12, w ∈ wsX2_changeSinking := by decide +kernel
  have f47 : Cond.fieldLink RX2 47 (TX2 11).1 (TX2 11).2.1 (TX2 11).2.2.1 ∈ wsX2_changeSinking := by decide +kernel
  refine MI.of (cc := cX2_changeSinking) (nL := 3) (ty := .int) (own := RX2) [some (.ref h), some (.int v), none] (by decide +kernel) rfl rfl (Nat.le_of_ble_eq_true rfl) rfl rfl ?_
  intro x C R0
  refine g_iload_n C dX2_changeSinking_0 rfl rfl ?_
  refine g_if_lt C (tgt := 10) dX2_changeSinking_1 (by decide) (fun hc_1 => ?_) (fun hc_1 => ?_)
  · refine g_sipush C (v := (-10002)) dX2_changeSinking_10 rfl ?_
    refine g_iret C R0 dX2_changeSinking_13 ?_
    refine pS_mk (σ := σ) ?_ rfl
    rw [sinR, if_neg (fun z => (by first | exact i32_lt.mpr hc_1 z.1 | exact i32_le.mpr hc_1 z.1 | exact i32_lt.mpr hc_1 z.2 | exact i32_le.mpr hc_1 z.2 | exact hc_1 z.1 | exact hc_1 z.2))]
  · refine g_iload_n C dX2_changeSinking_4 rfl rfl ?_
    refine g_bipush C (v := 9) dX2_changeSinking_5 rfl ?_
    refine g_icmp_le C (tgt := 14) dX2_changeSinking_7 (by decide) (fun hc_7 => ?_) (fun hc_7 => ?_)
    · refine g_aload_n C dX2_changeSinking_14 rfl rfl ?_
      refine g_get C inX2 0 rfl rfl 11 (by decide) f47 rfl dX2_changeSinking_15 ?_
      refine g_istore_n C dX2_changeSinking_18 rfl (Nat.le_of_ble_eq_true rfl) rfl ?_
      refine g_iload_n C dX2_changeSinking_19 rfl rfl ?_
      refine g_iload_n C dX2_changeSinking_20 rfl rfl ?_
      refine g_icmp_ne C (tgt := 28) dX2_changeSinking_21 (by decide) (fun hc_21 => ?_) (fun hc_21 => ?_)
      · refine g_aload_n C dX2_changeSinking_28 rfl rfl ?_
        refine g_iload_n C dX2_changeSinking_29 rfl rfl ?_
        refine g_put C (ws' := (skyW E h a (uSi σ v))) inX2 (ty := .int) tyX2 tyX2_ok nmX2 0 rfl rfl 11 (by decide) f47 rfl (by decide +kernel) rfl rfl (Nat.le_of_ble_eq_true rfl) dX2_changeSinking_30 rfl ?_
        refine g_iload_n C dX2_changeSinking_33 rfl rfl ?_
        refine g_iret C R0 dX2_changeSinking_34 ?_
        refine pS_mk (σ := (uSi σ v)) ?_ rfl
        rw [sinR, if_pos ⟨(by first | exact hc_1 | exact i32_le.mp hc_1 | exact i32_lt.mp hc_1), (by first | exact hc_7 | exact i32_le.mp hc_7 | exact i32_lt.mp hc_7)⟩, if_neg hc_21]
      · refine g_sipush C (v := (-10005)) dX2_changeSinking_24 rfl ?_
        refine g_iret C R0 dX2_changeSinking_27 ?_
        refine pS_mk (σ := σ) ?_ rfl
        rw [sinR, if_pos ⟨(by first | exact hc_1 | exact i32_le.mp hc_1 | exact i32_lt.mp hc_1), (by first | exact hc_7 | exact i32_le.mp hc_7 | exact i32_lt.mp hc_7)⟩, if_pos hc_21]
    · refine g_sipush C (v := (-10002)) dX2_changeSinking_10 rfl ?_
      refine g_iret C R0 dX2_changeSinking_13 ?_
      refine pS_mk (σ := σ) ?_ rfl
      rw [sinR, if_neg (fun z => (by first | exact i32_lt.mpr hc_7 z.1 | exact i32_le.mpr hc_7 z.1 | exact i32_lt.mpr hc_7 z.2 | exact i32_le.mpr hc_7 z.2 | exact hc_7 z.1 | exact hc_7 z.2))]
set_option maxHeartbeats 4000000 in
set_option maxRecDepth 100000 in
theorem c_X2_changeSetting (E : Ev) (h : Nat) (a : Nat → Nat) (σ : Sky) (w v : Int32) : MI E yX2_changeSetting wsX2_changeSetting (rmD 1) (skyW E h a σ) [.ref h, .int w, .int v] (pS E h a (setR σ w v)) := by
  refine MI.of (cc := cX2_changeSetting) (nL := 3) (ty := .int) (own := RX2) [some (.ref h), some (.int w), some (.int v)] (by decide +kernel) rfl rfl (Nat.le_of_ble_eq_true rfl) rfl rfl ?_
  intro x C R0
  refine g_iload_n C dX2_changeSetting_0 rfl rfl ?_
  by_cases hc_1_0 : w = 0
  · have he_1 : (w).toInt = 0 := by rw [hc_1_0]; rfl
    refine g_lookup C (off := 27) (tgt := 28) dX2_changeSetting_1 rfl (by rw [he_1]; rfl) (by decide) ?_
    refine g_aload_n C dX2_changeSetting_28 rfl rfl ?_
    refine g_iload_n C dX2_changeSetting_29 rfl rfl ?_
    refine g_calliVF C 0 rfl rfl (c_X2_changeCut E h a σ _) cf_X2_changeCut gX2_changeSetting_X2_changeCut rfl (fitD (Nat.le_of_ble_eq_true rfl) (Nat.le_of_ble_eq_true rfl)) rfl rfl (Nat.le_of_ble_eq_true rfl) dX2_changeSetting_30 (fun r1 w1 hp => ?_)
    obtain ⟨rfl, rfl⟩ := hp
    refine g_iret C R0 dX2_changeSetting_33 ?_
    rw [show setR σ w v = cutR σ v from by rw [setR, if_pos hc_1_0]]
    exact ⟨rfl, rfl⟩
  · skip
    by_cases hc_1_1 : w = 1
    · have he_1 : (w).toInt = 1 := by rw [hc_1_1]; rfl
      refine g_lookup C (off := 33) (tgt := 34) dX2_changeSetting_1 rfl (by rw [he_1]; rfl) (by decide) ?_
      refine g_aload_n C dX2_changeSetting_34 rfl rfl ?_
      refine g_iload_n C dX2_changeSetting_35 rfl rfl ?_
      refine g_calliVF C 0 rfl rfl (c_X2_changeSinking E h a σ _) cf_X2_changeSinking gX2_changeSetting_X2_changeSinking rfl (fitD (Nat.le_of_ble_eq_true rfl) (Nat.le_of_ble_eq_true rfl)) rfl rfl (Nat.le_of_ble_eq_true rfl) dX2_changeSetting_36 (fun r1 w1 hp => ?_)
      obtain ⟨rfl, rfl⟩ := hp
      refine g_iret C R0 dX2_changeSetting_39 ?_
      rw [show setR σ w v = sinR σ v from by rw [setR, if_neg hc_1_0, if_pos hc_1_1]]
      exact ⟨rfl, rfl⟩
    · skip
      refine g_lookup C (off := 39) (tgt := 40) dX2_changeSetting_1 rfl (Eq.trans (lv_osw hc_1_0 (by decide)) (Eq.trans (lv_osw hc_1_1 (by decide)) rfl)) (by decide) ?_
      refine g_sipush C (v := (-10001)) dX2_changeSetting_40 rfl ?_
      refine g_iret C R0 dX2_changeSetting_43 ?_
      refine pS_mk (σ := σ) ?_ rfl
      rw [setR, if_neg hc_1_0, if_neg hc_1_1]
set_option maxHeartbeats 4000000 in
set_option maxRecDepth 100000 in
theorem c_X2_carryOut (E : Ev) (h : Nat) (a : Nat → Nat) (σ : Sky) (v c d : Int32) : MI E yX2_carryOut wsX2_carryOut (rmD 4) (skyW E h a σ) [.ref h, .int v, .int c, .int d] (pS E h a (carryR σ v c d)) := by
  refine MI.of (cc := cX2_carryOut) (nL := 4) (ty := .int) (own := RX2) [some (.ref h), some (.int v), some (.int c), some (.int d)] (by decide +kernel) rfl rfl (Nat.le_of_ble_eq_true rfl) rfl rfl ?_
  intro x C R0
  refine g_iload_n C dX2_carryOut_0 rfl rfl ?_
  by_cases hc_1_0 : v = 0
  · have he_1 : (v).toInt = 0 := by rw [hc_1_0]; rfl
    refine g_tableIn C (tgt := 36) dX2_carryOut_1 (by rw [he_1]; decide) (by rw [he_1]; decide) (by rw [he_1]; rfl) (by decide) ?_
    refine g_aload_n C dX2_carryOut_36 rfl rfl ?_
    refine g_iload_n C dX2_carryOut_37 rfl rfl ?_
    refine g_iload_n C dX2_carryOut_38 rfl rfl ?_
    refine g_calliVF C 0 rfl rfl (c_X2_launch E h a σ _ _) cf_X2_launch gX2_carryOut_X2_launch rfl (fitD (Nat.le_of_ble_eq_true rfl) (Nat.le_of_ble_eq_true rfl)) rfl rfl (Nat.le_of_ble_eq_true rfl) dX2_carryOut_39 (fun r1 w1 hp => ?_)
    obtain ⟨rfl, rfl⟩ := hp
    refine g_iret C R0 dX2_carryOut_42 ?_
    rw [show carryR σ v c d = launchR σ c d from by rw [carryR, if_pos hc_1_0]]
    exact ⟨rfl, rfl⟩
  · skip
    by_cases hc_1_1 : v = 1
    · have he_1 : (v).toInt = 1 := by rw [hc_1_1]; rfl
      refine g_tableIn C (tgt := 43) dX2_carryOut_1 (by rw [he_1]; decide) (by rw [he_1]; decide) (by rw [he_1]; rfl) (by decide) ?_
      refine g_aload_n C dX2_carryOut_43 rfl rfl ?_
      refine g_iload_n C dX2_carryOut_44 rfl rfl ?_
      refine g_calliVF C 0 rfl rfl (c_X2_raise E h a σ _) cf_X2_raise gX2_carryOut_X2_raise rfl (fitD (Nat.le_of_ble_eq_true rfl) (Nat.le_of_ble_eq_true rfl)) rfl rfl (Nat.le_of_ble_eq_true rfl) dX2_carryOut_45 (fun r1 w1 hp => ?_)
      obtain ⟨rfl, rfl⟩ := hp
      refine g_iret C R0 dX2_carryOut_48 ?_
      rw [show carryR σ v c d = raiseR σ c from by rw [carryR, if_neg hc_1_0, if_pos hc_1_1]]
      exact ⟨rfl, rfl⟩
    · skip
      by_cases hc_1_2 : v = 2
      · have he_1 : (v).toInt = 2 := by rw [hc_1_2]; rfl
        refine g_tableIn C (tgt := 49) dX2_carryOut_1 (by rw [he_1]; decide) (by rw [he_1]; decide) (by rw [he_1]; rfl) (by decide) ?_
        refine g_aload_n C dX2_carryOut_49 rfl rfl ?_
        refine g_iload_n C dX2_carryOut_50 rfl rfl ?_
        refine g_iload_n C dX2_carryOut_51 rfl rfl ?_
        refine g_calliVF C 0 rfl rfl (c_X2_renumber E h a σ _ _) cf_X2_renumber gX2_carryOut_X2_renumber rfl (fitD (Nat.le_of_ble_eq_true rfl) (Nat.le_of_ble_eq_true rfl)) rfl rfl (Nat.le_of_ble_eq_true rfl) dX2_carryOut_52 (fun r1 w1 hp => ?_)
        obtain ⟨rfl, rfl⟩ := hp
        refine g_iret C R0 dX2_carryOut_55 ?_
        rw [show carryR σ v c d = renumR σ c d from by rw [carryR, if_neg hc_1_0, if_neg hc_1_1, if_pos hc_1_2]]
        exact ⟨rfl, rfl⟩
      · skip
        by_cases hc_1_3 : v = 3
        · have he_1 : (v).toInt = 3 := by rw [hc_1_3]; rfl
          refine g_tableIn C (tgt := 56) dX2_carryOut_1 (by rw [he_1]; decide) (by rw [he_1]; decide) (by rw [he_1]; rfl) (by decide) ?_
          refine g_aload_n C dX2_carryOut_56 rfl rfl ?_
          refine g_iload_n C dX2_carryOut_57 rfl rfl ?_
          refine g_calliVF C 0 rfl rfl (c_X2_passBeats E h a σ _) cf_X2_passBeats gX2_carryOut_X2_passBeats rfl (fitD (Nat.le_of_ble_eq_true rfl) (Nat.le_of_ble_eq_true rfl)) rfl rfl (Nat.le_of_ble_eq_true rfl) dX2_carryOut_58 (fun r1 w1 hp => ?_)
          obtain ⟨rfl, rfl⟩ := hp
          refine g_iret C R0 dX2_carryOut_61 ?_
          rw [show carryR σ v c d = beatR σ c from by rw [carryR, if_neg hc_1_0, if_neg hc_1_1, if_neg hc_1_2, if_pos hc_1_3]]
          exact ⟨rfl, rfl⟩
        · skip
          by_cases hc_1_4 : v = 4
          · have he_1 : (v).toInt = 4 := by rw [hc_1_4]; rfl
            refine g_tableIn C (tgt := 62) dX2_carryOut_1 (by rw [he_1]; decide) (by rw [he_1]; decide) (by rw [he_1]; rfl) (by decide) ?_
            refine g_aload_n C dX2_carryOut_62 rfl rfl ?_
            refine g_iload_n C dX2_carryOut_63 rfl rfl ?_
            refine g_iload_n C dX2_carryOut_64 rfl rfl ?_
            refine g_calliVF C 0 rfl rfl (c_X2_changeWind E h a σ _ _) cf_X2_changeWind gX2_carryOut_X2_changeWind rfl (fitD (Nat.le_of_ble_eq_true rfl) (Nat.le_of_ble_eq_true rfl)) rfl rfl (Nat.le_of_ble_eq_true rfl) dX2_carryOut_65 (fun r1 w1 hp => ?_)
            obtain ⟨rfl, rfl⟩ := hp
            refine g_iret C R0 dX2_carryOut_68 ?_
            rw [show carryR σ v c d = windR σ c d from by rw [carryR, if_neg hc_1_0, if_neg hc_1_1, if_neg hc_1_2, if_neg hc_1_3, if_pos hc_1_4]]
            exact ⟨rfl, rfl⟩
          · skip
            refine g_tableOut C (tgt := 69) dX2_carryOut_1 (sw_out5 hc_1_0 hc_1_1 hc_1_2 hc_1_3 hc_1_4) (by decide) ?_
            refine g_sipush C (v := (-10002)) dX2_carryOut_69 rfl ?_
            refine g_iret C R0 dX2_carryOut_72 ?_
            refine pS_mk (σ := σ) ?_ rfl
            rw [carryR, if_neg hc_1_0, if_neg hc_1_1, if_neg hc_1_2, if_neg hc_1_3, if_neg hc_1_4]
set_option maxHeartbeats 4000000 in
set_option maxRecDepth 100000 in
theorem c_X2_sinkUntil (E : Ev) (h : Nat) (a : Nat → Nat) (σ : Sky) (k g : Int32) : MI E yX2_sinkUntil wsX2_sinkUntil (rmD 2) (skyW E h a σ) [.ref h, .int k, .int g] (fun r w => r = suR σ k g ∧ ∃ τ, w = skyW E h a τ) := by
  have inX2 : ∀ w ∈ u_ws RX2 TX2 12, w ∈ wsX2_sinkUntil := by decide +kernel
  have f18 : Cond.fieldLink RX2 18 (TX2 2).1 (TX2 2).2.1 (TX2 2).2.2.1 ∈ wsX2_sinkUntil := by decide +kernel
  have f15 : Cond.fieldLink RX2 15 (TX2 1).1 (TX2 1).2.1 (TX2 1).2.2.1 ∈ wsX2_sinkUntil := by decide +kernel
  refine MI.of (cc := cX2_sinkUntil) (nL := 4) (ty := .int) (own := RX2) [some (.ref h), some (.int k), some (.int g), none] (by decide +kernel) rfl rfl (Nat.le_of_ble_eq_true rfl) rfl rfl ?_
  intro x C R0
  refine g_aload_n C dX2_sinkUntil_0 rfl rfl ?_
  refine g_iload_n C dX2_sinkUntil_1 rfl rfl ?_
  refine g_calliVF C 0 rfl rfl (c_X2_isKite E h a σ _) cf_X2_isKite gX2_sinkUntil_X2_isKite rfl (fitD (Nat.le_of_ble_eq_true rfl) (Nat.le_of_ble_eq_true rfl)) rfl rfl (Nat.le_of_ble_eq_true rfl) dX2_sinkUntil_2 (fun r1 w1 hp => ?_)
  obtain ⟨⟨hb_2, rfl⟩ | ⟨hb_2, rfl⟩, rfl⟩ := hp
  · obtain ⟨j, hj, rfl⟩ := i32_of (n := 12) hb_2.1 hb_2.2.1 (by decide)
    have hcl : (nI j).toNatClampNeg = j := nI_clamp (by omega)
    have hkj : ¬ sSt σ j = -1 := by have := hb_2.2.2; rwa [hcl] at this
    refine g_if_ne_t C dX2_sinkUntil_5 (tgt := 12) (by decide) (by decide) ?_
    refine g_iload_n C dX2_sinkUntil_12 rfl rfl ?_
    refine g_if_lt C (tgt := 22) dX2_sinkUntil_13 (by decide) (fun hc_13 => ?_) (fun hc_13 => ?_)
    · refine g_sipush C (v := (-10002)) dX2_sinkUntil_22 rfl ?_
      refine g_iret C R0 dX2_sinkUntil_25 ?_
      exact ⟨by rw [suR, if_pos hb_2, if_neg (fun z => (by first | exact i32_lt.mpr hc_13 z.1 | exact i32_le.mpr hc_13 z.1 | exact i32_lt.mpr hc_13 z.2 | exact i32_le.mpr hc_13 z.2 | exact hc_13 z.1 | exact hc_13 z.2))], _, rfl⟩
    · refine g_iload_n C dX2_sinkUntil_16 rfl rfl ?_
      refine g_bipush C (v := 99) dX2_sinkUntil_17 rfl ?_
      refine g_icmp_le C (tgt := 26) dX2_sinkUntil_19 (by decide) (fun hc_19 => ?_) (fun hc_19 => ?_)
      · refine g_iconst C (v := 0) dX2_sinkUntil_26 rfl ?_
        refine g_istore_n C dX2_sinkUntil_27 rfl (Nat.le_of_ble_eq_true rfl) rfl ?_
        have lp : ∀ (n9 i : Nat) (τ : Sky), 201 - i < n9 → i ≤ 201 → suF j g (201 - i) i τ = suF j g 201 0 σ → G E x (skyW E h a τ) [some (.ref h), some (.int (nI j)), some (.int g), some (.int (nI i))] 28 [] := by
          intro n9
          induction n9 with
          | zero => intro i τ h1; omega
          | succ n9 ih =>
            intro i τ hn hi hv
            refine g_iload_n C dX2_sinkUntil_28 rfl rfl ?_
            refine g_sipush C (v := 200) dX2_sinkUntil_29 rfl ?_
            refine g_icmp_gt C (tgt := 67) dX2_sinkUntil_32 (by decide) (fun hc_32 => ?_) (fun hc_32 => ?_)
            · have hn_32 : (200) < (i) := (nI_ltI (a := (200)) (b := (i)) (by omega) (by omega)).mp hc_32
              refine g_sipush C (v := (-10005)) dX2_sinkUntil_67 rfl ?_
              refine g_iret C R0 dX2_sinkUntil_70 ?_
              refine ⟨?_, _, rfl⟩
              rw [suR, if_pos hb_2, if_pos ⟨(by first | exact hc_13 | exact i32_le.mp hc_13 | exact i32_lt.mp hc_13), (by first | exact hc_19 | exact i32_le.mp hc_19 | exact i32_lt.mp hc_19)⟩, hcl, ← hv, show 201 - i = 0 from by omega, suF]
            · have hn_32 : ¬ (200) < (i) := fun z => hc_32 ((nI_ltI (a := (200)) (b := (i)) (by omega) (by omega)).mpr z)
              refine g_aload_n C dX2_sinkUntil_35 rfl rfl ?_
              refine g_get C inX2 0 rfl rfl 2 (by decide) f18 rfl dX2_sinkUntil_36 ?_
              refine g_iload_n C dX2_sinkUntil_39 rfl rfl ?_
              refine g_iald C 3 rfl (j) rfl (by omega) (Nat.le_of_ble_eq_true rfl) dX2_sinkUntil_40 ?_
              refine g_iload_n C dX2_sinkUntil_41 rfl rfl ?_
              refine g_icmp_gt C (tgt := 47) dX2_sinkUntil_42 (by decide) (fun hc_42 => ?_) (fun hc_42 => ?_)
              · refine g_aload_n C dX2_sinkUntil_47 rfl rfl ?_
                refine g_aload_n C dX2_sinkUntil_48 rfl rfl ?_
                refine g_get C inX2 0 rfl rfl 1 (by decide) f15 rfl dX2_sinkUntil_49 ?_
                refine g_iload_n C dX2_sinkUntil_52 rfl rfl ?_
                refine g_iald C 2 rfl (j) rfl (by omega) (Nat.le_of_ble_eq_true rfl) dX2_sinkUntil_53 ?_
                refine g_callvVF C 0 rfl rfl (c_X2_sinkString E h a τ _) cf_X2_sinkString gX2_sinkUntil_X2_sinkString rfl (fitD (Nat.le_of_ble_eq_true rfl) (Nat.le_of_ble_eq_true rfl)) rfl rfl (Nat.le_of_ble_eq_true rfl) dX2_sinkUntil_54 (fun w1 hp => ?_)
                obtain rfl := hp
                refine g_aload_n C dX2_sinkUntil_57 rfl rfl ?_
                refine g_callvVF C 0 rfl rfl (c_X2_endFreshness E h a (sinkS τ (sSt τ (j)))) cf_X2_endFreshness gX2_sinkUntil_X2_endFreshness rfl (fitD (Nat.le_of_ble_eq_true rfl) (Nat.le_of_ble_eq_true rfl)) rfl rfl (Nat.le_of_ble_eq_true rfl) dX2_sinkUntil_58 (fun w1 hp => ?_)
                obtain rfl := hp
                refine g_iinc C (v := (nI (i + 1))) dX2_sinkUntil_61 rfl rfl (nI_add (i) 1) ?_
                refine g_goto C (tgt := 28) dX2_sinkUntil_64 (by decide) ?_
                refine ih (i + 1) _ (by omega) (by omega) ?_
                rw [show 201 - i = (201 - (i + 1)) + 1 from by omega, suF, if_neg (i32_lt.mpr hc_42)] at hv
                exact hv
              · have hc_42 := hc_42
                refine g_iload_n C dX2_sinkUntil_45 rfl rfl ?_
                refine g_iret C R0 dX2_sinkUntil_46 ?_
                refine ⟨?_, _, rfl⟩
                rw [suR, if_pos hb_2, if_pos ⟨(by first | exact hc_13 | exact i32_le.mp hc_13 | exact i32_lt.mp hc_13), (by first | exact hc_19 | exact i32_le.mp hc_19 | exact i32_lt.mp hc_19)⟩, hcl, ← hv, show 201 - i = (200 - i) + 1 from by omega, suF, if_pos (i32_le.mp hc_42)]
        exact lp 202 0 _ (by omega) (by omega) rfl
      · refine g_sipush C (v := (-10002)) dX2_sinkUntil_22 rfl ?_
        refine g_iret C R0 dX2_sinkUntil_25 ?_
        exact ⟨by rw [suR, if_pos hb_2, if_neg (fun z => (by first | exact i32_lt.mpr hc_19 z.1 | exact i32_le.mpr hc_19 z.1 | exact i32_lt.mpr hc_19 z.2 | exact i32_le.mpr hc_19 z.2 | exact hc_19 z.1 | exact hc_19 z.2))], _, rfl⟩
  · refine g_if_ne_f C dX2_sinkUntil_5 12 (by decide) (by decide) ?_
    refine g_sipush C (v := (-10001)) dX2_sinkUntil_8 rfl ?_
    refine g_iret C R0 dX2_sinkUntil_11 ?_
    exact ⟨by rw [suR, if_neg hb_2], _, rfl⟩
set_option maxHeartbeats 4000000 in
set_option maxRecDepth 100000 in
theorem c_X2_readingsUntilCut (E : Ev) (h : Nat) (a : Nat → Nat) (σ : Sky) (k : Int32) : MI E yX2_readingsUntilCut wsX2_readingsUntilCut (rmD 3) (skyW E h a σ) [.ref h, .int k] (pE (rcR (sSt σ) (sHt σ) (windN σ) (sCh σ) k) (skyW E h a σ)) := by
  have inX2 : ∀ w ∈ u_ws RX2 TX2 12, w ∈ wsX2_readingsUntilCut := by decide +kernel
  have f18 : Cond.fieldLink RX2 18 (TX2 2).1 (TX2 2).2.1 (TX2 2).2.2.1 ∈ wsX2_readingsUntilCut := by decide +kernel
  have f15 : Cond.fieldLink RX2 15 (TX2 1).1 (TX2 1).2.1 (TX2 1).2.2.1 ∈ wsX2_readingsUntilCut := by decide +kernel
  have f44 : Cond.fieldLink RX2 44 (TX2 10).1 (TX2 10).2.1 (TX2 10).2.2.1 ∈ wsX2_readingsUntilCut := by decide +kernel
  refine MI.of (cc := cX2_readingsUntilCut) (nL := 5) (ty := .int) (own := RX2) [some (.ref h), some (.int k), none, none, none] (by decide +kernel) rfl rfl (Nat.le_of_ble_eq_true rfl) rfl rfl ?_
  intro x C R0
  refine g_aload_n C dX2_readingsUntilCut_0 rfl rfl ?_
  refine g_iload_n C dX2_readingsUntilCut_1 rfl rfl ?_
  refine g_calliVF C 0 rfl rfl (c_X2_isKite E h a σ _) cf_X2_isKite gX2_readingsUntilCut_X2_isKite rfl (fitD (Nat.le_of_ble_eq_true rfl) (Nat.le_of_ble_eq_true rfl)) rfl rfl (Nat.le_of_ble_eq_true rfl) dX2_readingsUntilCut_2 (fun r1 w1 hp => ?_)
  obtain ⟨⟨hb_2, rfl⟩ | ⟨hb_2, rfl⟩, rfl⟩ := hp
  · obtain ⟨j, hj, rfl⟩ := i32_of (n := 12) hb_2.1 hb_2.2.1 (by decide)
    have hcl : (nI j).toNatClampNeg = j := nI_clamp (by omega)
    have hkj : ¬ sSt σ j = -1 := by have := hb_2.2.2; rwa [hcl] at this
    refine g_if_ne_t C dX2_readingsUntilCut_5 (tgt := 12) (by decide) (by decide) ?_
    refine g_aload_n C dX2_readingsUntilCut_12 rfl rfl ?_
    refine g_calliVF C 0 rfl rfl (c_X2_windNow E h a σ) cf_X2_windNow gX2_readingsUntilCut_X2_windNow rfl (fitD (Nat.le_of_ble_eq_true rfl) (Nat.le_of_ble_eq_true rfl)) rfl rfl (Nat.le_of_ble_eq_true rfl) dX2_readingsUntilCut_13 (fun r1 w1 hp => ?_)
    obtain ⟨rfl, rfl⟩ := hp
    refine g_istore_n C dX2_readingsUntilCut_16 rfl (Nat.le_of_ble_eq_true rfl) rfl ?_
    refine g_aload_n C dX2_readingsUntilCut_17 rfl rfl ?_
    refine g_get C inX2 0 rfl rfl 2 (by decide) f18 rfl dX2_readingsUntilCut_18 ?_
    refine g_iload_n C dX2_readingsUntilCut_21 rfl rfl ?_
    refine g_iald C 3 rfl (j) rfl (by omega) (Nat.le_of_ble_eq_true rfl) dX2_readingsUntilCut_22 ?_
    refine g_istore_n C dX2_readingsUntilCut_23 rfl (Nat.le_of_ble_eq_true rfl) rfl ?_
    refine g_iconst C (v := 1) dX2_readingsUntilCut_24 rfl ?_
    refine g_istore C dX2_readingsUntilCut_25 (Nat.le_of_ble_eq_true rfl) rfl ?_
    have lp : ∀ (n9 i : Nat) (f : Int32), 100 - i < n9 → i ≤ 100 → rcF (sSt σ) (sHt σ) (sSt σ j) (windN σ) (sCh σ) (100 - i) i f = rcF (sSt σ) (sHt σ) (sSt σ j) (windN σ) (sCh σ) 99 1 (sHt σ j) → G E x (skyW E h a σ) [some (.ref h), some (.int (nI j)), some (.int (windN σ)), some (.int f), some (.int (nI i))] 27 [] := by
      intro n9
      induction n9 with
      | zero => intro i f h1; omega
      | succ n9 ih =>
        intro i f hn hi hv
        refine g_iload C dX2_readingsUntilCut_27 rfl ?_
        refine g_bipush C (v := 100) dX2_readingsUntilCut_29 rfl ?_
        refine g_icmp_ge C (tgt := 64) dX2_readingsUntilCut_31 (by decide) (fun hc_31 => ?_) (fun hc_31 => ?_)
        · have hn_31 : (100) ≤ (i) := (nI_leI (a := (100)) (b := (i)) (by omega) (by omega)).mp hc_31
          refine g_bipush C (v := 100) dX2_readingsUntilCut_64 rfl ?_
          refine g_iret C R0 dX2_readingsUntilCut_66 ?_
          refine pE_mk ?_ rfl
          rw [rcR, if_pos hb_2, hcl, ← hv, show 100 - i = 0 from by omega, rcF]
        · have hn_31 : ¬ (100) ≤ (i) := fun z => hc_31 ((nI_leI (a := (100)) (b := (i)) (by omega) (by omega)).mpr z)
          refine g_aload_n C dX2_readingsUntilCut_34 rfl rfl ?_
          refine g_aload_n C dX2_readingsUntilCut_35 rfl rfl ?_
          refine g_get C inX2 0 rfl rfl 1 (by decide) f15 rfl dX2_readingsUntilCut_36 ?_
          refine g_iload_n C dX2_readingsUntilCut_39 rfl rfl ?_
          refine g_iald C 2 rfl (j) rfl (by omega) (Nat.le_of_ble_eq_true rfl) dX2_readingsUntilCut_40 ?_
          refine g_iload_n C dX2_readingsUntilCut_41 rfl rfl ?_
          refine g_iload_n C dX2_readingsUntilCut_42 rfl rfl ?_
          refine g_calliVF C 0 rfl rfl (c_X2_risen E h a σ _ _ _) cf_X2_risen gX2_readingsUntilCut_X2_risen rfl (fitD (Nat.le_of_ble_eq_true rfl) (Nat.le_of_ble_eq_true rfl)) rfl rfl (Nat.le_of_ble_eq_true rfl) dX2_readingsUntilCut_43 (fun r1 w1 hp => ?_)
          obtain ⟨rfl, rfl⟩ := hp
          refine g_istore_n C dX2_readingsUntilCut_46 rfl (Nat.le_of_ble_eq_true rfl) rfl ?_
          refine g_iload_n C dX2_readingsUntilCut_47 rfl rfl ?_
          refine g_aload_n C dX2_readingsUntilCut_48 rfl rfl ?_
          refine g_get C inX2 0 rfl rfl 10 (by decide) f44 rfl dX2_readingsUntilCut_49 ?_
          refine g_icmp_le C (tgt := 58) dX2_readingsUntilCut_52 (by decide) (fun hc_52 => ?_) (fun hc_52 => ?_)
          · refine g_iinc C (v := (nI (i + 1))) dX2_readingsUntilCut_58 rfl rfl (nI_add (i) 1) ?_
            refine g_goto C (tgt := 27) dX2_readingsUntilCut_61 (by decide) ?_
            refine ih (i + 1) _ (by omega) (by omega) ?_
            rw [show 100 - i = (100 - (i + 1)) + 1 from by omega, rcF, if_neg (i32_le.mpr hc_52)] at hv
            exact hv
          · refine g_iload C dX2_readingsUntilCut_55 rfl ?_
            refine g_iret C R0 dX2_readingsUntilCut_57 ?_
            refine pE_mk ?_ rfl
            rw [rcR, if_pos hb_2, hcl, ← hv, show 100 - i = (99 - i) + 1 from by omega, rcF, if_pos (i32_lt.mp hc_52)]
    exact lp 101 1 _ (by omega) (by omega) rfl
  · refine g_if_ne_f C dX2_readingsUntilCut_5 12 (by decide) (by decide) ?_
    refine g_sipush C (v := (-10001)) dX2_readingsUntilCut_8 rfl ?_
    refine g_iret C R0 dX2_readingsUntilCut_11 ?_
    refine pE_mk ?_ rfl
    rw [rcR, if_neg hb_2]
set_option maxHeartbeats 4000000 in
set_option maxRecDepth 100000 in
theorem c_X2_thousandthsOf (E : Ev) (h : Nat) (a : Nat → Nat) (σ : Sky) (k : Int32) : MI E yX2_thousandthsOf wsX2_thousandthsOf (rmD 1) (skyW E h a σ) [.ref h, .int k] (pE (shaR (sSt σ) (sHt σ) k) (skyW E h a σ)) := by
  have inX2 : ∀ w ∈ u_ws RX2 TX2 12, w ∈ wsX2_thousandthsOf := by decide +kernel
  have f15 : Cond.fieldLink RX2 15 (TX2 1).1 (TX2 1).2.1 (TX2 1).2.2.1 ∈ wsX2_thousandthsOf := by decide +kernel
  have f18 : Cond.fieldLink RX2 18 (TX2 2).1 (TX2 2).2.1 (TX2 2).2.2.1 ∈ wsX2_thousandthsOf := by decide +kernel
  refine MI.of (cc := cX2_thousandthsOf) (nL := 3) (ty := .int) (own := RX2) [some (.ref h), some (.int k), none] (by decide +kernel) rfl rfl (Nat.le_of_ble_eq_true rfl) rfl rfl ?_
  intro x C R0
  refine g_aload_n C dX2_thousandthsOf_0 rfl rfl ?_
  refine g_iload_n C dX2_thousandthsOf_1 rfl rfl ?_
  refine g_calliVF C 0 rfl rfl (c_X2_isKite E h a σ _) cf_X2_isKite gX2_thousandthsOf_X2_isKite rfl (fitD (Nat.le_of_ble_eq_true rfl) (Nat.le_of_ble_eq_true rfl)) rfl rfl (Nat.le_of_ble_eq_true rfl) dX2_thousandthsOf_2 (fun r1 w1 hp => ?_)
  obtain ⟨⟨hb_2, rfl⟩ | ⟨hb_2, rfl⟩, rfl⟩ := hp
  · obtain ⟨j, hj, rfl⟩ := i32_of (n := 12) hb_2.1 hb_2.2.1 (by decide)
    have hcl : (nI j).toNatClampNeg = j := nI_clamp (by omega)
    have hkj : ¬ sSt σ j = -1 := by have := hb_2.2.2; rwa [hcl] at this
    refine g_if_ne_t C dX2_thousandthsOf_5 (tgt := 12) (by decide) (by decide) ?_
    refine g_aload_n C dX2_thousandthsOf_12 rfl rfl ?_
    refine g_aload_n C dX2_thousandthsOf_13 rfl rfl ?_
    refine g_get C inX2 0 rfl rfl 1 (by decide) f15 rfl dX2_thousandthsOf_14 ?_
    refine g_iload_n C dX2_thousandthsOf_17 rfl rfl ?_
    refine g_iald C 2 rfl (j) rfl (by omega) (Nat.le_of_ble_eq_true rfl) dX2_thousandthsOf_18 ?_
    refine g_calliVF C 0 rfl rfl (c_X2_weightsOn E h a σ _) cf_X2_weightsOn gX2_thousandthsOf_X2_weightsOn rfl (fitD (Nat.le_of_ble_eq_true rfl) (Nat.le_of_ble_eq_true rfl)) rfl rfl (Nat.le_of_ble_eq_true rfl) dX2_thousandthsOf_19 (fun r1 w1 hp => ?_)
    obtain ⟨rfl, rfl⟩ := hp
    refine g_istore_n C dX2_thousandthsOf_22 rfl (Nat.le_of_ble_eq_true rfl) rfl ?_
    refine g_iload_n C dX2_thousandthsOf_23 rfl rfl ?_
    refine g_if_le C (tgt := 44) dX2_thousandthsOf_24 (by decide) (fun hc_24 => ?_) (fun hc_24 => ?_)
    · refine g_iconst C (v := 0) dX2_thousandthsOf_44 rfl ?_
      refine g_iret C R0 dX2_thousandthsOf_45 ?_
      refine pE_mk ?_ rfl
      rw [shaR, if_pos hb_2, hcl, if_neg (i32_nlt hc_24)]
    · refine g_aload_n C dX2_thousandthsOf_27 rfl rfl ?_
      refine g_get C inX2 0 rfl rfl 2 (by decide) f18 rfl dX2_thousandthsOf_28 ?_
      refine g_iload_n C dX2_thousandthsOf_31 rfl rfl ?_
      refine g_iald C 3 rfl (j) rfl (by omega) (Nat.le_of_ble_eq_true rfl) dX2_thousandthsOf_32 ?_
      refine g_iconst C (v := 1) dX2_thousandthsOf_33 rfl ?_
      refine g_iadd C dX2_thousandthsOf_34 ?_
      refine g_sipush C (v := 1000) dX2_thousandthsOf_35 rfl ?_
      refine g_imul C dX2_thousandthsOf_38 ?_
      refine g_iload_n C dX2_thousandthsOf_39 rfl rfl ?_
      refine g_idiv C dX2_thousandthsOf_40 (fun z => hc_24 (by rw [z]; decide)) ?_
      refine g_goto C (tgt := 45) dX2_thousandthsOf_41 (by decide) ?_
      refine g_iret C R0 dX2_thousandthsOf_45 ?_
      refine pE_mk ?_ rfl
      rw [shaR, if_pos hb_2, hcl, if_pos (i32_lt.mp hc_24)]
  · refine g_if_ne_f C dX2_thousandthsOf_5 12 (by decide) (by decide) ?_
    refine g_sipush C (v := (-10001)) dX2_thousandthsOf_8 rfl ?_
    refine g_iret C R0 dX2_thousandthsOf_11 ?_
    refine pE_mk ?_ rfl
    rw [shaR, if_neg hb_2]
set_option maxHeartbeats 4000000 in
set_option maxRecDepth 100000 in
theorem c_X2_kiteAtPoint (E : Ev) (h : Nat) (a : Nat → Nat) (σ : Sky) (s p : Int32) : MI E yX2_kiteAtPoint wsX2_kiteAtPoint (rmD 1) (skyW E h a σ) [.ref h, .int s, .int p] (pE (drawR (sSt σ) (sHt σ) s p) (skyW E h a σ)) := by
  have hi_X3_isString : Cond.static yX3_isString ∈ wsX2_kiteAtPoint := by decide +kernel
  have hn_X3 : Cond.initialized yX3_isString.cls ∈ wsX2_kiteAtPoint := by decide +kernel
  have inX2 : ∀ w ∈ u_ws RX2 TX2 12, w ∈ wsX2_kiteAtPoint := by decide +kernel
  have f15 : Cond.fieldLink RX2 15 (TX2 1).1 (TX2 1).2.1 (TX2 1).2.2.1 ∈ wsX2_kiteAtPoint := by decide +kernel
  have f18 : Cond.fieldLink RX2 18 (TX2 2).1 (TX2 2).2.1 (TX2 2).2.2.1 ∈ wsX2_kiteAtPoint := by decide +kernel
  refine MI.of (cc := cX2_kiteAtPoint) (nL := 5) (ty := .int) (own := RX2) [some (.ref h), some (.int s), some (.int p), none, none] (by decide +kernel) rfl rfl (Nat.le_of_ble_eq_true rfl) rfl rfl ?_
  intro x C R0
  refine g_iload_n C dX2_kiteAtPoint_0 rfl rfl ?_
  refine g_calliTF C (c_X3_isString E _ _) cf_X3_isString ggX2_kiteAtPoint_X3_isString (List.mem_of_getElem? (i := 9) rfl) hi_X3_isString hn_X3 (fitD (Nat.le_of_ble_eq_true rfl) (Nat.le_of_ble_eq_true rfl)) rfl rfl (Nat.le_of_ble_eq_true rfl) dX2_kiteAtPoint_1 (fun r1 w1 hp => ?_)
  obtain ⟨⟨hb_1, rfl⟩ | ⟨hb_1, rfl⟩, rfl⟩ := hp
  · refine g_if_ne_t C dX2_kiteAtPoint_4 (tgt := 11) (by decide) (by decide) ?_
    refine g_iload_n C dX2_kiteAtPoint_11 rfl rfl ?_
    refine g_if_ge C (tgt := 19) dX2_kiteAtPoint_12 (by decide) (fun hc_12 => ?_) (fun hc_12 => ?_)
    · refine g_iconst C (v := 0) dX2_kiteAtPoint_19 rfl ?_
      refine g_istore_n C dX2_kiteAtPoint_20 rfl (Nat.le_of_ble_eq_true rfl) rfl ?_
      refine g_iconst C (v := 0) dX2_kiteAtPoint_21 rfl ?_
      refine g_istore C dX2_kiteAtPoint_22 (Nat.le_of_ble_eq_true rfl) rfl ?_
      have lp : ∀ (n9 i : Nat) (f : Int32), 12 - i < n9 → i ≤ 12 → drF (sSt σ) (sHt σ) s p (12 - i) i f = drF (sSt σ) (sHt σ) s p 12 0 0 → G E x (skyW E h a σ) [some (.ref h), some (.int s), some (.int p), some (.int f), some (.int (nI i))] 24 [] := by
        intro n9
        induction n9 with
        | zero => intro i f h1; omega
        | succ n9 ih =>
          intro i f hn hi hv
          refine g_iload C dX2_kiteAtPoint_24 rfl ?_
          refine g_bipush C (v := 12) dX2_kiteAtPoint_26 rfl ?_
          refine g_icmp_ge C (tgt := 68) dX2_kiteAtPoint_28 (by decide) (fun hc_28 => ?_) (fun hc_28 => ?_)
          · have hn_28 : (12) ≤ (i) := (nI_leI (a := (12)) (b := (i)) (by omega) (by omega)).mp hc_28
            refine g_sipush C (v := (-10002)) dX2_kiteAtPoint_68 rfl ?_
            refine g_iret C R0 dX2_kiteAtPoint_71 ?_
            refine pE_mk ?_ rfl
            rw [drawR, if_pos hb_1, if_neg (i32_le.mpr hc_12), ← hv, show 12 - i = 0 from by omega, drF]
          · have hn_28 : ¬ (12) ≤ (i) := fun z => hc_28 ((nI_leI (a := (12)) (b := (i)) (by omega) (by omega)).mpr z)
            refine g_aload_n C dX2_kiteAtPoint_31 rfl rfl ?_
            refine g_get C inX2 0 rfl rfl 1 (by decide) f15 rfl dX2_kiteAtPoint_32 ?_
            refine g_iload C dX2_kiteAtPoint_35 rfl ?_
            refine g_iald C 2 rfl (i) rfl (by omega) (Nat.le_of_ble_eq_true rfl) dX2_kiteAtPoint_37 ?_
            refine g_iload_n C dX2_kiteAtPoint_38 rfl rfl ?_
            refine g_icmp_ne C (tgt := 62) dX2_kiteAtPoint_39 (by decide) (fun hc_39 => ?_) (fun hc_39 => ?_)
            · refine g_iinc C (v := (nI (i + 1))) dX2_kiteAtPoint_62 rfl rfl (nI_add (i) 1) ?_
              refine g_goto C (tgt := 24) dX2_kiteAtPoint_65 (by decide) ?_
              refine ih (i + 1) _ (by omega) (by omega) ?_
              rw [show 12 - i = (12 - (i + 1)) + 1 from by omega, drF, if_neg hc_39] at hv
              exact hv
            · refine g_iload_n C dX2_kiteAtPoint_42 rfl rfl ?_
              refine g_aload_n C dX2_kiteAtPoint_43 rfl rfl ?_
              refine g_get C inX2 0 rfl rfl 2 (by decide) f18 rfl dX2_kiteAtPoint_44 ?_
              refine g_iload C dX2_kiteAtPoint_47 rfl ?_
              refine g_iald C 3 rfl (i) rfl (by omega) (Nat.le_of_ble_eq_true rfl) dX2_kiteAtPoint_49 ?_
              refine g_iconst C (v := 1) dX2_kiteAtPoint_50 rfl ?_
              refine g_iadd C dX2_kiteAtPoint_51 ?_
              refine g_iadd C dX2_kiteAtPoint_52 ?_
              refine g_istore_n C dX2_kiteAtPoint_53 rfl (Nat.le_of_ble_eq_true rfl) rfl ?_
              refine g_iload_n C dX2_kiteAtPoint_54 rfl rfl ?_
              refine g_iload_n C dX2_kiteAtPoint_55 rfl rfl ?_
              refine g_icmp_ge C (tgt := 62) dX2_kiteAtPoint_56 (by decide) (fun hc_56 => ?_) (fun hc_56 => ?_)
              · refine g_iinc C (v := (nI (i + 1))) dX2_kiteAtPoint_62 rfl rfl (nI_add (i) 1) ?_
                refine g_goto C (tgt := 24) dX2_kiteAtPoint_65 (by decide) ?_
                refine ih (i + 1) _ (by omega) (by omega) ?_
                rw [show 12 - i = (12 - (i + 1)) + 1 from by omega, drF, if_pos hc_39, if_neg (i32_nlt hc_56)] at hv
                exact hv
              · refine g_iload C dX2_kiteAtPoint_59 rfl ?_
                refine g_iret C R0 dX2_kiteAtPoint_61 ?_
                refine pE_mk ?_ rfl
                rw [drawR, if_pos hb_1, if_neg (i32_le.mpr hc_12), ← hv, show 12 - i = (11 - i) + 1 from by omega, drF, if_pos hc_39, if_pos (i32_lt.mp hc_56)]
      exact lp 13 0 _ (by omega) (by omega) rfl
    · refine g_sipush C (v := (-10002)) dX2_kiteAtPoint_15 rfl ?_
      refine g_iret C R0 dX2_kiteAtPoint_18 ?_
      refine pE_mk ?_ rfl
      rw [drawR, if_pos hb_1, if_pos (i32_lt.mp hc_12)]
  · refine g_if_ne_f C dX2_kiteAtPoint_4 11 (by decide) (by decide) ?_
    refine g_sipush C (v := (-10001)) dX2_kiteAtPoint_7 rfl ?_
    refine g_iret C R0 dX2_kiteAtPoint_10 ?_
    refine pE_mk ?_ rfl
    rw [drawR, if_neg hb_1]
set_option maxHeartbeats 4000000 in
set_option maxRecDepth 100000 in
theorem c_X2_isSafe (E : Ev) (h : Nat) (a : Nat → Nat) (σ : Sky) (w : Int32) : MI E yX2_isSafe wsX2_isSafe (rmD 3) (skyW E h a σ) [.ref h, .int w] (pB (sfB (sSt σ) (sHt σ) (sCh σ) w = true) (skyW E h a σ)) := by
  have inX2 : ∀ w ∈ u_ws RX2 TX2 12, w ∈ wsX2_isSafe := by decide +kernel
  have f15 : Cond.fieldLink RX2 15 (TX2 1).1 (TX2 1).2.1 (TX2 1).2.2.1 ∈ wsX2_isSafe := by decide +kernel
  have f18 : Cond.fieldLink RX2 18 (TX2 2).1 (TX2 2).2.1 (TX2 2).2.2.1 ∈ wsX2_isSafe := by decide +kernel
  have f44 : Cond.fieldLink RX2 44 (TX2 10).1 (TX2 10).2.1 (TX2 10).2.2.1 ∈ wsX2_isSafe := by decide +kernel
  refine MI.of (cc := cX2_isSafe) (nL := 3) (ty := .boolean) (own := RX2) [some (.ref h), some (.int w), none] (by decide +kernel) rfl rfl (Nat.le_of_ble_eq_true rfl) rfl rfl ?_
  intro x C R0
  have lp : ∀ (n i : Nat), 12 - i < n → i ≤ 12 → (∀ k, k < i → ¬ sSt σ k = -1 → ¬ sCh σ < land (sSt σ) (sHt σ) (sSt σ k) (sHt σ k + w + 1)) → G E x (skyW E h a σ) [some (.ref h), some (.int w), some (.int (nI i))] 2 [] := by
    intro n
    induction n with
    | zero => intro i h1; omega
    | succ n ih =>
      intro i hn hi hv
      refine g_iload_n C dX2_isSafe_2 rfl rfl ?_
      refine g_bipush C (v := 12) dX2_isSafe_3 rfl ?_
      refine g_icmp_ge C (tgt := 50) dX2_isSafe_5 (by decide) (fun hc_5 => ?_) (fun hc_5 => ?_)
      · have hn_5 : (12) ≤ (i) := (nI_leI (a := (12)) (b := (i)) (by omega) (by omega)).mp hc_5
        refine g_iconst C (v := 1) dX2_isSafe_50 rfl ?_
        refine g_zret C R0 rfl dX2_isSafe_51 ?_
        exact ⟨Or.inl ⟨sfB_iff.mpr (fun k hk => hv k (by omega)), rfl⟩, rfl⟩
      · have hn_5 : ¬ (12) ≤ (i) := fun z => hc_5 ((nI_leI (a := (12)) (b := (i)) (by omega) (by omega)).mpr z)
        refine g_aload_n C dX2_isSafe_8 rfl rfl ?_
        refine g_get C inX2 0 rfl rfl 1 (by decide) f15 rfl dX2_isSafe_9 ?_
        refine g_iload_n C dX2_isSafe_12 rfl rfl ?_
        refine g_iald C 2 rfl (i) rfl (by omega) (Nat.le_of_ble_eq_true rfl) dX2_isSafe_13 ?_
        refine g_iconst C (v := (-1)) dX2_isSafe_14 rfl ?_
        refine g_icmp_eq C (tgt := 44) dX2_isSafe_15 (by decide) (fun hc_15 => ?_) (fun hc_15 => ?_)
        · refine g_iinc C (v := (nI (i + 1))) dX2_isSafe_44 rfl rfl (nI_add (i) 1) ?_
          refine g_goto C (tgt := 2) dX2_isSafe_47 (by decide) ?_
          exact ih (i + 1) (by omega) (by omega) (lt_s hv (fun z => absurd hc_15 z))
        · refine g_aload_n C dX2_isSafe_18 rfl rfl ?_
          refine g_aload_n C dX2_isSafe_19 rfl rfl ?_
          refine g_get C inX2 0 rfl rfl 1 (by decide) f15 rfl dX2_isSafe_20 ?_
          refine g_iload_n C dX2_isSafe_23 rfl rfl ?_
          refine g_iald C 2 rfl (i) rfl (by omega) (Nat.le_of_ble_eq_true rfl) dX2_isSafe_24 ?_
          refine g_aload_n C dX2_isSafe_25 rfl rfl ?_
          refine g_get C inX2 0 rfl rfl 2 (by decide) f18 rfl dX2_isSafe_26 ?_
          refine g_iload_n C dX2_isSafe_29 rfl rfl ?_
          refine g_iald C 3 rfl (i) rfl (by omega) (Nat.le_of_ble_eq_true rfl) dX2_isSafe_30 ?_
          refine g_iload_n C dX2_isSafe_31 rfl rfl ?_
          refine g_calliVF C 0 rfl rfl (c_X2_risen E h a σ _ _ _) cf_X2_risen gX2_isSafe_X2_risen rfl (fitD (Nat.le_of_ble_eq_true rfl) (Nat.le_of_ble_eq_true rfl)) rfl rfl (Nat.le_of_ble_eq_true rfl) dX2_isSafe_32 (fun r1 w1 hp => ?_)
          obtain ⟨rfl, rfl⟩ := hp
          refine g_aload_n C dX2_isSafe_35 rfl rfl ?_
          refine g_get C inX2 0 rfl rfl 10 (by decide) f44 rfl dX2_isSafe_36 ?_
          refine g_icmp_le C (tgt := 44) dX2_isSafe_39 (by decide) (fun hc_39 => ?_) (fun hc_39 => ?_)
          · refine g_iinc C (v := (nI (i + 1))) dX2_isSafe_44 rfl rfl (nI_add (i) 1) ?_
            refine g_goto C (tgt := 2) dX2_isSafe_47 (by decide) ?_
            exact ih (i + 1) (by omega) (by omega) (lt_s hv (fun _ => i32_nlt hc_39))
          · refine g_iconst C (v := 0) dX2_isSafe_42 rfl ?_
            refine g_zret C R0 rfl dX2_isSafe_43 ?_
            exact ⟨Or.inr ⟨fun z => sfB_iff.mp z i (by omega) hc_15 (i32_lt.mp hc_39), rfl⟩, rfl⟩
  refine g_iconst C (v := 0) dX2_isSafe_0 rfl ?_
  refine g_istore_n C dX2_isSafe_1 rfl (Nat.le_of_ble_eq_true rfl) rfl ?_
  exact lp 13 0 (by omega) (by omega) lt_0
set_option maxHeartbeats 4000000 in
set_option maxRecDepth 100000 in
theorem c_X2_greatestSafeWind (E : Ev) (h : Nat) (a : Nat → Nat) (σ : Sky) : MI E yX2_greatestSafeWind wsX2_greatestSafeWind (rmD 4) (skyW E h a σ) [.ref h] (pE (gsF (sSt σ) (sHt σ) (sCh σ) 10) (skyW E h a σ)) := by
  refine MI.of (cc := cX2_greatestSafeWind) (nL := 2) (ty := .int) (own := RX2) [some (.ref h), none] (by decide +kernel) rfl rfl (Nat.le_of_ble_eq_true rfl) rfl rfl ?_
  intro x C R0
  have lp : ∀ n : Nat, n ≤ 10 → gsF (sSt σ) (sHt σ) (sCh σ) n = gsF (sSt σ) (sHt σ) (sCh σ) 10 → G E x (skyW E h a σ) [some (.ref h), some (.int (nI n - 1))] 3 [] := by
    intro n
    induction n with
    | zero =>
      intro hn hv
      refine g_iload_n C dX2_greatestSafeWind_3 rfl rfl ?_
      refine g_if_lt_t C dX2_greatestSafeWind_4 (tgt := 23) (by decide) (by decide) ?_
      refine g_sipush C (v := (-10005)) dX2_greatestSafeWind_23 rfl ?_
      refine g_iret C R0 dX2_greatestSafeWind_26 ?_
      exact pE_mk hv rfl
    | succ n ih =>
      intro hn hv
      rw [nI_pred]
      refine g_iload_n C dX2_greatestSafeWind_3 rfl rfl ?_
      refine g_if_lt_f C dX2_greatestSafeWind_4 23 (by decide) (nI_pos (by omega)) ?_
      refine g_aload_n C dX2_greatestSafeWind_7 rfl rfl ?_
      refine g_iload_n C dX2_greatestSafeWind_8 rfl rfl ?_
      refine g_calliVF C 0 rfl rfl (c_X2_isSafe E h a σ _) cf_X2_isSafe gX2_greatestSafeWind_X2_isSafe rfl (fitD (Nat.le_of_ble_eq_true rfl) (Nat.le_of_ble_eq_true rfl)) rfl rfl (Nat.le_of_ble_eq_true rfl) dX2_greatestSafeWind_9 (fun r1 w1 hp => ?_)
      obtain ⟨⟨hb_9, rfl⟩ | ⟨hb_9, rfl⟩, rfl⟩ := hp
      · refine g_if_eq_f C dX2_greatestSafeWind_12 17 (by decide) (by decide) ?_
        refine g_iload_n C dX2_greatestSafeWind_15 rfl rfl ?_
        refine g_iret C R0 dX2_greatestSafeWind_16 ?_
        refine pE_mk ?_ rfl
        rw [← hv, gsF, if_pos hb_9]
      · refine g_if_eq_t C dX2_greatestSafeWind_12 (tgt := 17) (by decide) (by decide) ?_
        refine g_iinc C (v := ((nI n) + (-1))) dX2_greatestSafeWind_17 rfl rfl rfl ?_
        refine g_goto C (tgt := 3) dX2_greatestSafeWind_20 (by decide) ?_
        rw [gsF, if_neg hb_9] at hv
        rw [nI_dec]
        exact ih (by omega) hv
  refine g_bipush C (v := 9) dX2_greatestSafeWind_0 rfl ?_
  refine g_istore_n C dX2_greatestSafeWind_2 rfl (Nat.le_of_ble_eq_true rfl) rfl ?_
  exact lp 10 (by omega) rfl


set_option maxHeartbeats 4000000 in
set_option maxRecDepth 100000 in
theorem c_X2_aboutAll (E : Ev) (h : Nat) (a : Nat → Nat) (σ : Sky) (w : Int32) : MI E yX2_aboutAll wsX2_aboutAll (rmD 3) (skyW E h a σ) [.ref h, .int w] (pE (aboutAR σ w) (skyW E h a σ)) := by
  have inX2 : ∀ w ∈ u_ws RX2 TX2 12, w ∈ wsX2_aboutAll := by decide +kernel
  have f41 : Cond.fieldLink RX2 41 (TX2 9).1 (TX2 9).2.1 (TX2 9).2.2.1 ∈ wsX2_aboutAll := by decide +kernel
  have f44 : Cond.fieldLink RX2 44 (TX2 10).1 (TX2 10).2.1 (TX2 10).2.2.1 ∈ wsX2_aboutAll := by decide +kernel
  have f47 : Cond.fieldLink RX2 47 (TX2 11).1 (TX2 11).2.1 (TX2 11).2.2.1 ∈ wsX2_aboutAll := by decide +kernel
  have f37 : Cond.fieldLink RX2 37 (TX2 8).1 (TX2 8).2.1 (TX2 8).2.2.1 ∈ wsX2_aboutAll := by decide +kernel
  refine MI.of (cc := cX2_aboutAll) (nL := 2) (ty := .int) (own := RX2) [some (.ref h), some (.int w)] (by decide +kernel) rfl rfl (Nat.le_of_ble_eq_true rfl) rfl rfl ?_
  intro x C R0
  refine g_iload_n C dX2_aboutAll_0 rfl rfl ?_
  by_cases hc_1_0 : w = 0
  · have he_1 : (w).toInt = 0 := by rw [hc_1_0]; rfl
    refine g_tableIn C (tgt := 60) dX2_aboutAll_1 (by rw [he_1]; decide) (by rw [he_1]; decide) (by rw [he_1]; rfl) (by decide) ?_
    refine g_aload_n C dX2_aboutAll_60 rfl rfl ?_
    refine g_calliVF C 0 rfl rfl (c_X2_kitesInAll E h a σ) cf_X2_kitesInAll gX2_aboutAll_X2_kitesInAll rfl (fitD (Nat.le_of_ble_eq_true rfl) (Nat.le_of_ble_eq_true rfl)) rfl rfl (Nat.le_of_ble_eq_true rfl) dX2_aboutAll_61 (fun r1 w1 hp => ?_)
    obtain ⟨rfl, rfl⟩ := hp
    refine g_iret C R0 dX2_aboutAll_64 ?_
    refine pE_mk ?_ rfl
    rw [aboutAR, if_pos hc_1_0]
  · skip
    by_cases hc_1_1 : w = 1
    · have he_1 : (w).toInt = 1 := by rw [hc_1_1]; rfl
      refine g_tableIn C (tgt := 65) dX2_aboutAll_1 (by rw [he_1]; decide) (by rw [he_1]; decide) (by rw [he_1]; rfl) (by decide) ?_
      refine g_aload_n C dX2_aboutAll_65 rfl rfl ?_
      refine g_calliVF C 0 rfl rfl (c_X2_beatNow E h a σ) cf_X2_beatNow gX2_aboutAll_X2_beatNow rfl (fitD (Nat.le_of_ble_eq_true rfl) (Nat.le_of_ble_eq_true rfl)) rfl rfl (Nat.le_of_ble_eq_true rfl) dX2_aboutAll_66 (fun r1 w1 hp => ?_)
      obtain ⟨rfl, rfl⟩ := hp
      refine g_iret C R0 dX2_aboutAll_69 ?_
      refine pE_mk ?_ rfl
      rw [aboutAR, if_neg hc_1_0, if_pos hc_1_1]
    · skip
      by_cases hc_1_2 : w = 2
      · have he_1 : (w).toInt = 2 := by rw [hc_1_2]; rfl
        refine g_tableIn C (tgt := 70) dX2_aboutAll_1 (by rw [he_1]; decide) (by rw [he_1]; decide) (by rw [he_1]; rfl) (by decide) ?_
        refine g_aload_n C dX2_aboutAll_70 rfl rfl ?_
        refine g_calliVF C 0 rfl rfl (c_X2_windNow E h a σ) cf_X2_windNow gX2_aboutAll_X2_windNow rfl (fitD (Nat.le_of_ble_eq_true rfl) (Nat.le_of_ble_eq_true rfl)) rfl rfl (Nat.le_of_ble_eq_true rfl) dX2_aboutAll_71 (fun r1 w1 hp => ?_)
        obtain ⟨rfl, rfl⟩ := hp
        refine g_iret C R0 dX2_aboutAll_74 ?_
        refine pE_mk ?_ rfl
        rw [aboutAR, if_neg hc_1_0, if_neg hc_1_1, if_pos hc_1_2]
      · skip
        by_cases hc_1_3 : w = 3
        · have he_1 : (w).toInt = 3 := by rw [hc_1_3]; rfl
          refine g_tableIn C (tgt := 75) dX2_aboutAll_1 (by rw [he_1]; decide) (by rw [he_1]; decide) (by rw [he_1]; rfl) (by decide) ?_
          refine g_aload_n C dX2_aboutAll_75 rfl rfl ?_
          refine g_get C inX2 0 rfl rfl 9 (by decide) f41 rfl dX2_aboutAll_76 ?_
          refine g_iret C R0 dX2_aboutAll_79 ?_
          refine pE_mk ?_ rfl
          rw [aboutAR, if_neg hc_1_0, if_neg hc_1_1, if_neg hc_1_2, if_pos hc_1_3]
        · skip
          by_cases hc_1_4 : w = 4
          · have he_1 : (w).toInt = 4 := by rw [hc_1_4]; rfl
            refine g_tableIn C (tgt := 80) dX2_aboutAll_1 (by rw [he_1]; decide) (by rw [he_1]; decide) (by rw [he_1]; rfl) (by decide) ?_
            refine g_aload_n C dX2_aboutAll_80 rfl rfl ?_
            refine g_calliVF C 0 rfl rfl (c_X2_cutsSoFar E h a σ) cf_X2_cutsSoFar gX2_aboutAll_X2_cutsSoFar rfl (fitD (Nat.le_of_ble_eq_true rfl) (Nat.le_of_ble_eq_true rfl)) rfl rfl (Nat.le_of_ble_eq_true rfl) dX2_aboutAll_81 (fun r1 w1 hp => ?_)
            obtain ⟨rfl, rfl⟩ := hp
            refine g_iret C R0 dX2_aboutAll_84 ?_
            refine pE_mk ?_ rfl
            rw [aboutAR, if_neg hc_1_0, if_neg hc_1_1, if_neg hc_1_2, if_neg hc_1_3, if_pos hc_1_4]
          · skip
            by_cases hc_1_5 : w = 5
            · have he_1 : (w).toInt = 5 := by rw [hc_1_5]; rfl
              refine g_tableIn C (tgt := 85) dX2_aboutAll_1 (by rw [he_1]; decide) (by rw [he_1]; decide) (by rw [he_1]; rfl) (by decide) ?_
              refine g_aload_n C dX2_aboutAll_85 rfl rfl ?_
              refine g_calliVF C 0 rfl rfl (c_X2_freshKites E h a σ) cf_X2_freshKites gX2_aboutAll_X2_freshKites rfl (fitD (Nat.le_of_ble_eq_true rfl) (Nat.le_of_ble_eq_true rfl)) rfl rfl (Nat.le_of_ble_eq_true rfl) dX2_aboutAll_86 (fun r1 w1 hp => ?_)
              obtain ⟨rfl, rfl⟩ := hp
              refine g_iret C R0 dX2_aboutAll_89 ?_
              refine pE_mk ?_ rfl
              rw [aboutAR, if_neg hc_1_0, if_neg hc_1_1, if_neg hc_1_2, if_neg hc_1_3, if_neg hc_1_4, if_pos hc_1_5]
            · skip
              by_cases hc_1_6 : w = 6
              · have he_1 : (w).toInt = 6 := by rw [hc_1_6]; rfl
                refine g_tableIn C (tgt := 90) dX2_aboutAll_1 (by rw [he_1]; decide) (by rw [he_1]; decide) (by rw [he_1]; rfl) (by decide) ?_
                refine g_aload_n C dX2_aboutAll_90 rfl rfl ?_
                refine g_calliVF C 0 rfl rfl (c_X2_greatestHeight E h a σ) cf_X2_greatestHeight gX2_aboutAll_X2_greatestHeight rfl (fitD (Nat.le_of_ble_eq_true rfl) (Nat.le_of_ble_eq_true rfl)) rfl rfl (Nat.le_of_ble_eq_true rfl) dX2_aboutAll_91 (fun r1 w1 hp => ?_)
                obtain ⟨rfl, rfl⟩ := hp
                refine g_iret C R0 dX2_aboutAll_94 ?_
                refine pE_mk ?_ rfl
                rw [aboutAR, if_neg hc_1_0, if_neg hc_1_1, if_neg hc_1_2, if_neg hc_1_3, if_neg hc_1_4, if_neg hc_1_5, if_pos hc_1_6]
              · skip
                by_cases hc_1_7 : w = 7
                · have he_1 : (w).toInt = 7 := by rw [hc_1_7]; rfl
                  refine g_tableIn C (tgt := 95) dX2_aboutAll_1 (by rw [he_1]; decide) (by rw [he_1]; decide) (by rw [he_1]; rfl) (by decide) ?_
                  refine g_aload_n C dX2_aboutAll_95 rfl rfl ?_
                  refine g_calliVF C 0 rfl rfl (c_X2_weightsInAll E h a σ) cf_X2_weightsInAll gX2_aboutAll_X2_weightsInAll rfl (fitD (Nat.le_of_ble_eq_true rfl) (Nat.le_of_ble_eq_true rfl)) rfl rfl (Nat.le_of_ble_eq_true rfl) dX2_aboutAll_96 (fun r1 w1 hp => ?_)
                  obtain ⟨rfl, rfl⟩ := hp
                  refine g_iret C R0 dX2_aboutAll_99 ?_
                  refine pE_mk ?_ rfl
                  rw [aboutAR, if_neg hc_1_0, if_neg hc_1_1, if_neg hc_1_2, if_neg hc_1_3, if_neg hc_1_4, if_neg hc_1_5, if_neg hc_1_6, if_pos hc_1_7]
                · skip
                  by_cases hc_1_8 : w = 8
                  · have he_1 : (w).toInt = 8 := by rw [hc_1_8]; rfl
                    refine g_tableIn C (tgt := 100) dX2_aboutAll_1 (by rw [he_1]; decide) (by rw [he_1]; decide) (by rw [he_1]; rfl) (by decide) ?_
                    refine g_aload_n C dX2_aboutAll_100 rfl rfl ?_
                    refine g_get C inX2 0 rfl rfl 10 (by decide) f44 rfl dX2_aboutAll_101 ?_
                    refine g_iret C R0 dX2_aboutAll_104 ?_
                    refine pE_mk ?_ rfl
                    rw [aboutAR, if_neg hc_1_0, if_neg hc_1_1, if_neg hc_1_2, if_neg hc_1_3, if_neg hc_1_4, if_neg hc_1_5, if_neg hc_1_6, if_neg hc_1_7, if_pos hc_1_8]
                  · skip
                    by_cases hc_1_9 : w = 9
                    · have he_1 : (w).toInt = 9 := by rw [hc_1_9]; rfl
                      refine g_tableIn C (tgt := 105) dX2_aboutAll_1 (by rw [he_1]; decide) (by rw [he_1]; decide) (by rw [he_1]; rfl) (by decide) ?_
                      refine g_aload_n C dX2_aboutAll_105 rfl rfl ?_
                      refine g_get C inX2 0 rfl rfl 11 (by decide) f47 rfl dX2_aboutAll_106 ?_
                      refine g_iret C R0 dX2_aboutAll_109 ?_
                      refine pE_mk ?_ rfl
                      rw [aboutAR, if_neg hc_1_0, if_neg hc_1_1, if_neg hc_1_2, if_neg hc_1_3, if_neg hc_1_4, if_neg hc_1_5, if_neg hc_1_6, if_neg hc_1_7, if_neg hc_1_8, if_pos hc_1_9]
                    · skip
                      by_cases hc_1_10 : w = 10
                      · have he_1 : (w).toInt = 10 := by rw [hc_1_10]; rfl
                        refine g_tableIn C (tgt := 110) dX2_aboutAll_1 (by rw [he_1]; decide) (by rw [he_1]; decide) (by rw [he_1]; rfl) (by decide) ?_
                        refine g_aload_n C dX2_aboutAll_110 rfl rfl ?_
                        refine g_get C inX2 0 rfl rfl 8 (by decide) f37 rfl dX2_aboutAll_111 ?_
                        refine g_iret C R0 dX2_aboutAll_114 ?_
                        refine pE_mk ?_ rfl
                        rw [aboutAR, if_neg hc_1_0, if_neg hc_1_1, if_neg hc_1_2, if_neg hc_1_3, if_neg hc_1_4, if_neg hc_1_5, if_neg hc_1_6, if_neg hc_1_7, if_neg hc_1_8, if_neg hc_1_9, if_pos hc_1_10]
                      · skip
                        refine g_tableOut C (tgt := 115) dX2_aboutAll_1 (sw_out11 hc_1_0 hc_1_1 hc_1_2 hc_1_3 hc_1_4 hc_1_5 hc_1_6 hc_1_7 hc_1_8 hc_1_9 hc_1_10) (by decide) ?_
                        refine g_sipush C (v := (-10002)) dX2_aboutAll_115 rfl ?_
                        refine g_iret C R0 dX2_aboutAll_118 ?_
                        refine pE_mk ?_ rfl
                        rw [aboutAR, if_neg hc_1_0, if_neg hc_1_1, if_neg hc_1_2, if_neg hc_1_3, if_neg hc_1_4, if_neg hc_1_5, if_neg hc_1_6, if_neg hc_1_7, if_neg hc_1_8, if_neg hc_1_9, if_neg hc_1_10]
set_option maxHeartbeats 4000000 in
set_option maxRecDepth 100000 in
theorem c_X2_aboutString (E : Ev) (h : Nat) (a : Nat → Nat) (σ : Sky) (s w : Int32) : MI E yX2_aboutString wsX2_aboutString (rmD 1) (skyW E h a σ) [.ref h, .int s, .int w] (pE (aboutSR σ s w) (skyW E h a σ)) := by
  have hi_X3_isString : Cond.static yX3_isString ∈ wsX2_aboutString := by decide +kernel
  have hn_X3 : Cond.initialized yX3_isString.cls ∈ wsX2_aboutString := by decide +kernel
  have k125 : Cond.constant RX2 125 (1000000) ∈ wsX2_aboutString := by decide +kernel
  have inX2 : ∀ w ∈ u_ws RX2 TX2 12, w ∈ wsX2_aboutString := by decide +kernel
  have f34 : Cond.fieldLink RX2 34 (TX2 7).1 (TX2 7).2.1 (TX2 7).2.2.1 ∈ wsX2_aboutString := by decide +kernel
  refine MI.of (cc := cX2_aboutString) (nL := 3) (ty := .int) (own := RX2) [some (.ref h), some (.int s), some (.int w)] (by decide +kernel) rfl rfl (Nat.le_of_ble_eq_true rfl) rfl rfl ?_
  intro x C R0
  refine g_iload_n C dX2_aboutString_0 rfl rfl ?_
  refine g_calliTF C (c_X3_isString E _ _) cf_X3_isString ggX2_aboutString_X3_isString (List.mem_of_getElem? (i := 9) rfl) hi_X3_isString hn_X3 (fitD (Nat.le_of_ble_eq_true rfl) (Nat.le_of_ble_eq_true rfl)) rfl rfl (Nat.le_of_ble_eq_true rfl) dX2_aboutString_1 (fun r1 w1 hp => ?_)
  obtain ⟨⟨hb_1, rfl⟩ | ⟨hb_1, rfl⟩, rfl⟩ := hp
  · obtain ⟨j, hj, rfl⟩ := i32_of (n := 4) hb_1.1 hb_1.2 (by decide)
    have hcl : (nI j).toNatClampNeg = j := nI_clamp (by omega)
    refine g_if_ne_t C dX2_aboutString_4 (tgt := 11) (by decide) (by decide) ?_
    refine g_iload_n C dX2_aboutString_11 rfl rfl ?_
    by_cases hc_12_0 : w = 0
    · have he_12 : (w).toInt = 0 := by rw [hc_12_0]; rfl
      refine g_tableIn C (tgt := 52) dX2_aboutString_12 (by rw [he_12]; decide) (by rw [he_12]; decide) (by rw [he_12]; rfl) (by decide) ?_
      refine g_aload_n C dX2_aboutString_52 rfl rfl ?_
      refine g_iload_n C dX2_aboutString_53 rfl rfl ?_
      refine g_iconst C (v := (-1)) dX2_aboutString_54 rfl ?_
      refine g_ldc C k125 dX2_aboutString_55 ?_
      refine g_calliVF C 0 rfl rfl (c_X2_kitesBetween E h a σ _ _ _) cf_X2_kitesBetween gX2_aboutString_X2_kitesBetween rfl (fitD (Nat.le_of_ble_eq_true rfl) (Nat.le_of_ble_eq_true rfl)) rfl rfl (Nat.le_of_ble_eq_true rfl) dX2_aboutString_57 (fun r1 w1 hp => ?_)
      obtain ⟨rfl, rfl⟩ := hp
      refine g_iret C R0 dX2_aboutString_60 ?_
      refine pE_mk ?_ rfl
      rw [aboutSR, if_pos hb_1, aboutSG, if_pos hc_12_0]
    · skip
      by_cases hc_12_1 : w = 1
      · have he_12 : (w).toInt = 1 := by rw [hc_12_1]; rfl
        refine g_tableIn C (tgt := 61) dX2_aboutString_12 (by rw [he_12]; decide) (by rw [he_12]; decide) (by rw [he_12]; rfl) (by decide) ?_
        refine g_aload_n C dX2_aboutString_61 rfl rfl ?_
        refine g_iload_n C dX2_aboutString_62 rfl rfl ?_
        refine g_calliVF C 0 rfl rfl (c_X2_weightsOn E h a σ _) cf_X2_weightsOn gX2_aboutString_X2_weightsOn rfl (fitD (Nat.le_of_ble_eq_true rfl) (Nat.le_of_ble_eq_true rfl)) rfl rfl (Nat.le_of_ble_eq_true rfl) dX2_aboutString_63 (fun r1 w1 hp => ?_)
        obtain ⟨rfl, rfl⟩ := hp
        refine g_iret C R0 dX2_aboutString_66 ?_
        refine pE_mk ?_ rfl
        rw [aboutSR, if_pos hb_1, aboutSG, if_neg hc_12_0, if_pos hc_12_1]
      · skip
        by_cases hc_12_2 : w = 2
        · have he_12 : (w).toInt = 2 := by rw [hc_12_2]; rfl
          refine g_tableIn C (tgt := 67) dX2_aboutString_12 (by rw [he_12]; decide) (by rw [he_12]; decide) (by rw [he_12]; rfl) (by decide) ?_
          refine g_aload_n C dX2_aboutString_67 rfl rfl ?_
          refine g_iload_n C dX2_aboutString_68 rfl rfl ?_
          refine g_ldc C k125 dX2_aboutString_69 ?_
          refine g_calliVF C 0 rfl rfl (c_X2_highestBelow E h a σ _ _) cf_X2_highestBelow gX2_aboutString_X2_highestBelow rfl (fitD (Nat.le_of_ble_eq_true rfl) (Nat.le_of_ble_eq_true rfl)) rfl rfl (Nat.le_of_ble_eq_true rfl) dX2_aboutString_71 (fun r1 w1 hp => ?_)
          obtain ⟨rfl, rfl⟩ := hp
          refine g_iret C R0 dX2_aboutString_74 ?_
          refine pE_mk ?_ rfl
          rw [aboutSR, if_pos hb_1, aboutSG, if_neg hc_12_0, if_neg hc_12_1, if_pos hc_12_2]
        · skip
          by_cases hc_12_3 : w = 3
          · have he_12 : (w).toInt = 3 := by rw [hc_12_3]; rfl
            refine g_tableIn C (tgt := 75) dX2_aboutString_12 (by rw [he_12]; decide) (by rw [he_12]; decide) (by rw [he_12]; rfl) (by decide) ?_
            refine g_aload_n C dX2_aboutString_75 rfl rfl ?_
            refine g_iload_n C dX2_aboutString_76 rfl rfl ?_
            refine g_iconst C (v := (-1)) dX2_aboutString_77 rfl ?_
            refine g_calliVF C 0 rfl rfl (c_X2_lowestAbove E h a σ _ _) cf_X2_lowestAbove gX2_aboutString_X2_lowestAbove rfl (fitD (Nat.le_of_ble_eq_true rfl) (Nat.le_of_ble_eq_true rfl)) rfl rfl (Nat.le_of_ble_eq_true rfl) dX2_aboutString_78 (fun r1 w1 hp => ?_)
            obtain ⟨rfl, rfl⟩ := hp
            refine g_iret C R0 dX2_aboutString_81 ?_
            refine pE_mk ?_ rfl
            rw [aboutSR, if_pos hb_1, aboutSG, if_neg hc_12_0, if_neg hc_12_1, if_neg hc_12_2, if_pos hc_12_3]
          · skip
            by_cases hc_12_4 : w = 4
            · have he_12 : (w).toInt = 4 := by rw [hc_12_4]; rfl
              refine g_tableIn C (tgt := 82) dX2_aboutString_12 (by rw [he_12]; decide) (by rw [he_12]; decide) (by rw [he_12]; rfl) (by decide) ?_
              refine g_aload_n C dX2_aboutString_82 rfl rfl ?_
              refine g_iload_n C dX2_aboutString_83 rfl rfl ?_
              refine g_calliVF C 0 rfl rfl (c_X2_numbersOn E h a σ _) cf_X2_numbersOn gX2_aboutString_X2_numbersOn rfl (fitD (Nat.le_of_ble_eq_true rfl) (Nat.le_of_ble_eq_true rfl)) rfl rfl (Nat.le_of_ble_eq_true rfl) dX2_aboutString_84 (fun r1 w1 hp => ?_)
              obtain ⟨rfl, rfl⟩ := hp
              refine g_iret C R0 dX2_aboutString_87 ?_
              refine pE_mk ?_ rfl
              rw [aboutSR, if_pos hb_1, aboutSG, if_neg hc_12_0, if_neg hc_12_1, if_neg hc_12_2, if_neg hc_12_3, if_pos hc_12_4]
            · skip
              by_cases hc_12_5 : w = 5
              · have he_12 : (w).toInt = 5 := by rw [hc_12_5]; rfl
                refine g_tableIn C (tgt := 88) dX2_aboutString_12 (by rw [he_12]; decide) (by rw [he_12]; decide) (by rw [he_12]; rfl) (by decide) ?_
                refine g_aload_n C dX2_aboutString_88 rfl rfl ?_
                refine g_get C inX2 0 rfl rfl 7 (by decide) f34 rfl dX2_aboutString_89 ?_
                refine g_iload_n C dX2_aboutString_92 rfl rfl ?_
                refine g_iald C 8 rfl (j) rfl (by omega) (Nat.le_of_ble_eq_true rfl) dX2_aboutString_93 ?_
                refine g_iret C R0 dX2_aboutString_94 ?_
                refine pE_mk ?_ rfl
                rw [aboutSR, if_pos hb_1, aboutSG, if_neg hc_12_0, if_neg hc_12_1, if_neg hc_12_2, if_neg hc_12_3, if_neg hc_12_4, if_pos hc_12_5, hcl]
              · skip
                refine g_tableOut C (tgt := 95) dX2_aboutString_12 (sw_out6 hc_12_0 hc_12_1 hc_12_2 hc_12_3 hc_12_4 hc_12_5) (by decide) ?_
                refine g_sipush C (v := (-10002)) dX2_aboutString_95 rfl ?_
                refine g_iret C R0 dX2_aboutString_98 ?_
                refine pE_mk ?_ rfl
                rw [aboutSR, if_pos hb_1, aboutSG, if_neg hc_12_0, if_neg hc_12_1, if_neg hc_12_2, if_neg hc_12_3, if_neg hc_12_4, if_neg hc_12_5]
  · refine g_if_ne_f C dX2_aboutString_4 11 (by decide) (by decide) ?_
    refine g_sipush C (v := (-10001)) dX2_aboutString_7 rfl ?_
    refine g_iret C R0 dX2_aboutString_10 ?_
    refine pE_mk ?_ rfl
    rw [aboutSR, if_neg hb_1]
set_option maxHeartbeats 4000000 in
set_option maxRecDepth 100000 in
theorem c_X2_aboutKite (E : Ev) (h : Nat) (a : Nat → Nat) (σ : Sky) (k w : Int32) : MI E yX2_aboutKite wsX2_aboutKite (rmD 1) (skyW E h a σ) [.ref h, .int k, .int w] (pE (aboutKR σ k w) (skyW E h a σ)) := by
  have inX2 : ∀ w ∈ u_ws RX2 TX2 12, w ∈ wsX2_aboutKite := by decide +kernel
  have f9 : Cond.fieldLink RX2 9 (TX2 0).1 (TX2 0).2.1 (TX2 0).2.2.1 ∈ wsX2_aboutKite := by decide +kernel
  have f15 : Cond.fieldLink RX2 15 (TX2 1).1 (TX2 1).2.1 (TX2 1).2.2.1 ∈ wsX2_aboutKite := by decide +kernel
  have f18 : Cond.fieldLink RX2 18 (TX2 2).1 (TX2 2).2.1 (TX2 2).2.2.1 ∈ wsX2_aboutKite := by decide +kernel
  have f21 : Cond.fieldLink RX2 21 (TX2 3).1 (TX2 3).2.1 (TX2 3).2.2.1 ∈ wsX2_aboutKite := by decide +kernel
  have f25 : Cond.fieldLink RX2 25 (TX2 4).1 (TX2 4).2.1 (TX2 4).2.2.1 ∈ wsX2_aboutKite := by decide +kernel
  have f28 : Cond.fieldLink RX2 28 (TX2 5).1 (TX2 5).2.1 (TX2 5).2.2.1 ∈ wsX2_aboutKite := by decide +kernel
  have k125 : Cond.constant RX2 125 (1000000) ∈ wsX2_aboutKite := by decide +kernel
  refine MI.of (cc := cX2_aboutKite) (nL := 3) (ty := .int) (own := RX2) [some (.ref h), some (.int k), some (.int w)] (by decide +kernel) rfl rfl (Nat.le_of_ble_eq_true rfl) rfl rfl ?_
  intro x C R0
  refine g_aload_n C dX2_aboutKite_0 rfl rfl ?_
  refine g_iload_n C dX2_aboutKite_1 rfl rfl ?_
  refine g_calliVF C 0 rfl rfl (c_X2_isKite E h a σ _) cf_X2_isKite gX2_aboutKite_X2_isKite rfl (fitD (Nat.le_of_ble_eq_true rfl) (Nat.le_of_ble_eq_true rfl)) rfl rfl (Nat.le_of_ble_eq_true rfl) dX2_aboutKite_2 (fun r1 w1 hp => ?_)
  obtain ⟨⟨hb_2, rfl⟩ | ⟨hb_2, rfl⟩, rfl⟩ := hp
  · obtain ⟨j, hj, rfl⟩ := i32_of (n := 12) hb_2.1 hb_2.2.1 (by decide)
    have hcl : (nI j).toNatClampNeg = j := nI_clamp (by omega)
    have hkj : ¬ sSt σ j = -1 := by have := hb_2.2.2; rwa [hcl] at this
    refine g_if_ne_t C dX2_aboutKite_5 (tgt := 12) (by decide) (by decide) ?_
    refine g_iload_n C dX2_aboutKite_12 rfl rfl ?_
    by_cases hc_13_0 : w = 0
    · have he_13 : (w).toInt = 0 := by rw [hc_13_0]; rfl
      refine g_tableIn C (tgt := 64) dX2_aboutKite_13 (by rw [he_13]; decide) (by rw [he_13]; decide) (by rw [he_13]; rfl) (by decide) ?_
      refine g_aload_n C dX2_aboutKite_64 rfl rfl ?_
      refine g_get C inX2 0 rfl rfl 0 (by decide) f9 rfl dX2_aboutKite_65 ?_
      refine g_iload_n C dX2_aboutKite_68 rfl rfl ?_
      refine g_iald C 1 rfl (j) rfl (by omega) (Nat.le_of_ble_eq_true rfl) dX2_aboutKite_69 ?_
      refine g_iret C R0 dX2_aboutKite_70 ?_
      refine pE_mk ?_ rfl
      rw [aboutKR, if_pos hb_2, hcl, aboutKG, if_pos hc_13_0]
    · skip
      by_cases hc_13_1 : w = 1
      · have he_13 : (w).toInt = 1 := by rw [hc_13_1]; rfl
        refine g_tableIn C (tgt := 71) dX2_aboutKite_13 (by rw [he_13]; decide) (by rw [he_13]; decide) (by rw [he_13]; rfl) (by decide) ?_
        refine g_aload_n C dX2_aboutKite_71 rfl rfl ?_
        refine g_get C inX2 0 rfl rfl 1 (by decide) f15 rfl dX2_aboutKite_72 ?_
        refine g_iload_n C dX2_aboutKite_75 rfl rfl ?_
        refine g_iald C 2 rfl (j) rfl (by omega) (Nat.le_of_ble_eq_true rfl) dX2_aboutKite_76 ?_
        refine g_iret C R0 dX2_aboutKite_77 ?_
        refine pE_mk ?_ rfl
        rw [aboutKR, if_pos hb_2, hcl, aboutKG, if_neg hc_13_0, if_pos hc_13_1]
      · skip
        by_cases hc_13_2 : w = 2
        · have he_13 : (w).toInt = 2 := by rw [hc_13_2]; rfl
          refine g_tableIn C (tgt := 78) dX2_aboutKite_13 (by rw [he_13]; decide) (by rw [he_13]; decide) (by rw [he_13]; rfl) (by decide) ?_
          refine g_aload_n C dX2_aboutKite_78 rfl rfl ?_
          refine g_get C inX2 0 rfl rfl 2 (by decide) f18 rfl dX2_aboutKite_79 ?_
          refine g_iload_n C dX2_aboutKite_82 rfl rfl ?_
          refine g_iald C 3 rfl (j) rfl (by omega) (Nat.le_of_ble_eq_true rfl) dX2_aboutKite_83 ?_
          refine g_iret C R0 dX2_aboutKite_84 ?_
          refine pE_mk ?_ rfl
          rw [aboutKR, if_pos hb_2, hcl, aboutKG, if_neg hc_13_0, if_neg hc_13_1, if_pos hc_13_2]
        · skip
          by_cases hc_13_3 : w = 3
          · have he_13 : (w).toInt = 3 := by rw [hc_13_3]; rfl
            refine g_tableIn C (tgt := 85) dX2_aboutKite_13 (by rw [he_13]; decide) (by rw [he_13]; decide) (by rw [he_13]; rfl) (by decide) ?_
            refine g_aload_n C dX2_aboutKite_85 rfl rfl ?_
            refine g_get C inX2 0 rfl rfl 3 (by decide) f21 rfl dX2_aboutKite_86 ?_
            refine g_iload_n C dX2_aboutKite_89 rfl rfl ?_
            refine g_zald C 4 rfl (j) rfl (by omega) (Nat.le_of_ble_eq_true rfl) dX2_aboutKite_90 ?_
            refine g_if_eq C (tgt := 98) dX2_aboutKite_91 (by decide) (fun hc_91 => ?_) (fun hc_91 => ?_)
            · refine g_iconst C (v := 0) dX2_aboutKite_98 rfl ?_
              refine g_iret C R0 dX2_aboutKite_99 ?_
              refine pE_mk ?_ rfl
              rw [aboutKR, if_pos hb_2, hcl, aboutKG, if_neg hc_13_0, if_neg hc_13_1, if_neg hc_13_2, if_pos hc_13_3, if_pos hc_91]
            · refine g_iconst C (v := 1) dX2_aboutKite_94 rfl ?_
              refine g_goto C (tgt := 99) dX2_aboutKite_95 (by decide) ?_
              refine g_iret C R0 dX2_aboutKite_99 ?_
              refine pE_mk ?_ rfl
              rw [aboutKR, if_pos hb_2, hcl, aboutKG, if_neg hc_13_0, if_neg hc_13_1, if_neg hc_13_2, if_pos hc_13_3, if_neg hc_91]
          · skip
            by_cases hc_13_4 : w = 4
            · have he_13 : (w).toInt = 4 := by rw [hc_13_4]; rfl
              refine g_tableIn C (tgt := 100) dX2_aboutKite_13 (by rw [he_13]; decide) (by rw [he_13]; decide) (by rw [he_13]; rfl) (by decide) ?_
              refine g_aload_n C dX2_aboutKite_100 rfl rfl ?_
              refine g_get C inX2 0 rfl rfl 4 (by decide) f25 rfl dX2_aboutKite_101 ?_
              refine g_iload_n C dX2_aboutKite_104 rfl rfl ?_
              refine g_iald C 5 rfl (j) rfl (by omega) (Nat.le_of_ble_eq_true rfl) dX2_aboutKite_105 ?_
              refine g_iret C R0 dX2_aboutKite_106 ?_
              refine pE_mk ?_ rfl
              rw [aboutKR, if_pos hb_2, hcl, aboutKG, if_neg hc_13_0, if_neg hc_13_1, if_neg hc_13_2, if_neg hc_13_3, if_pos hc_13_4]
            · skip
              by_cases hc_13_5 : w = 5
              · have he_13 : (w).toInt = 5 := by rw [hc_13_5]; rfl
                refine g_tableIn C (tgt := 107) dX2_aboutKite_13 (by rw [he_13]; decide) (by rw [he_13]; decide) (by rw [he_13]; rfl) (by decide) ?_
                refine g_aload_n C dX2_aboutKite_107 rfl rfl ?_
                refine g_get C inX2 0 rfl rfl 5 (by decide) f28 rfl dX2_aboutKite_108 ?_
                refine g_iload_n C dX2_aboutKite_111 rfl rfl ?_
                refine g_iald C 6 rfl (j) rfl (by omega) (Nat.le_of_ble_eq_true rfl) dX2_aboutKite_112 ?_
                refine g_iret C R0 dX2_aboutKite_113 ?_
                refine pE_mk ?_ rfl
                rw [aboutKR, if_pos hb_2, hcl, aboutKG, if_neg hc_13_0, if_neg hc_13_1, if_neg hc_13_2, if_neg hc_13_3, if_neg hc_13_4, if_pos hc_13_5]
              · skip
                by_cases hc_13_6 : w = 6
                · have he_13 : (w).toInt = 6 := by rw [hc_13_6]; rfl
                  refine g_tableIn C (tgt := 114) dX2_aboutKite_13 (by rw [he_13]; decide) (by rw [he_13]; decide) (by rw [he_13]; rfl) (by decide) ?_
                  refine g_aload_n C dX2_aboutKite_114 rfl rfl ?_
                  refine g_aload_n C dX2_aboutKite_115 rfl rfl ?_
                  refine g_get C inX2 0 rfl rfl 1 (by decide) f15 rfl dX2_aboutKite_116 ?_
                  refine g_iload_n C dX2_aboutKite_119 rfl rfl ?_
                  refine g_iald C 2 rfl (j) rfl (by omega) (Nat.le_of_ble_eq_true rfl) dX2_aboutKite_120 ?_
                  refine g_aload_n C dX2_aboutKite_121 rfl rfl ?_
                  refine g_get C inX2 0 rfl rfl 2 (by decide) f18 rfl dX2_aboutKite_122 ?_
                  refine g_iload_n C dX2_aboutKite_125 rfl rfl ?_
                  refine g_iald C 3 rfl (j) rfl (by omega) (Nat.le_of_ble_eq_true rfl) dX2_aboutKite_126 ?_
                  refine g_ldc C k125 dX2_aboutKite_127 ?_
                  refine g_calliVF C 0 rfl rfl (c_X2_kitesBetween E h a σ _ _ _) cf_X2_kitesBetween gX2_aboutKite_X2_kitesBetween rfl (fitD (Nat.le_of_ble_eq_true rfl) (Nat.le_of_ble_eq_true rfl)) rfl rfl (Nat.le_of_ble_eq_true rfl) dX2_aboutKite_129 (fun r1 w1 hp => ?_)
                  obtain ⟨rfl, rfl⟩ := hp
                  refine g_iret C R0 dX2_aboutKite_132 ?_
                  refine pE_mk ?_ rfl
                  rw [aboutKR, if_pos hb_2, hcl, aboutKG, if_neg hc_13_0, if_neg hc_13_1, if_neg hc_13_2, if_neg hc_13_3, if_neg hc_13_4, if_neg hc_13_5, if_pos hc_13_6]
                · skip
                  by_cases hc_13_7 : w = 7
                  · have he_13 : (w).toInt = 7 := by rw [hc_13_7]; rfl
                    refine g_tableIn C (tgt := 133) dX2_aboutKite_13 (by rw [he_13]; decide) (by rw [he_13]; decide) (by rw [he_13]; rfl) (by decide) ?_
                    refine g_aload_n C dX2_aboutKite_133 rfl rfl ?_
                    refine g_aload_n C dX2_aboutKite_134 rfl rfl ?_
                    refine g_get C inX2 0 rfl rfl 1 (by decide) f15 rfl dX2_aboutKite_135 ?_
                    refine g_iload_n C dX2_aboutKite_138 rfl rfl ?_
                    refine g_iald C 2 rfl (j) rfl (by omega) (Nat.le_of_ble_eq_true rfl) dX2_aboutKite_139 ?_
                    refine g_aload_n C dX2_aboutKite_140 rfl rfl ?_
                    refine g_get C inX2 0 rfl rfl 2 (by decide) f18 rfl dX2_aboutKite_141 ?_
                    refine g_iload_n C dX2_aboutKite_144 rfl rfl ?_
                    refine g_iald C 3 rfl (j) rfl (by omega) (Nat.le_of_ble_eq_true rfl) dX2_aboutKite_145 ?_
                    refine g_calliVF C 0 rfl rfl (c_X2_lowestAbove E h a σ _ _) cf_X2_lowestAbove gX2_aboutKite_X2_lowestAbove rfl (fitD (Nat.le_of_ble_eq_true rfl) (Nat.le_of_ble_eq_true rfl)) rfl rfl (Nat.le_of_ble_eq_true rfl) dX2_aboutKite_146 (fun r1 w1 hp => ?_)
                    obtain ⟨rfl, rfl⟩ := hp
                    refine g_iret C R0 dX2_aboutKite_149 ?_
                    refine pE_mk ?_ rfl
                    rw [aboutKR, if_pos hb_2, hcl, aboutKG, if_neg hc_13_0, if_neg hc_13_1, if_neg hc_13_2, if_neg hc_13_3, if_neg hc_13_4, if_neg hc_13_5, if_neg hc_13_6, if_pos hc_13_7]
                  · skip
                    by_cases hc_13_8 : w = 8
                    · have he_13 : (w).toInt = 8 := by rw [hc_13_8]; rfl
                      refine g_tableIn C (tgt := 150) dX2_aboutKite_13 (by rw [he_13]; decide) (by rw [he_13]; decide) (by rw [he_13]; rfl) (by decide) ?_
                      refine g_aload_n C dX2_aboutKite_150 rfl rfl ?_
                      refine g_aload_n C dX2_aboutKite_151 rfl rfl ?_
                      refine g_get C inX2 0 rfl rfl 1 (by decide) f15 rfl dX2_aboutKite_152 ?_
                      refine g_iload_n C dX2_aboutKite_155 rfl rfl ?_
                      refine g_iald C 2 rfl (j) rfl (by omega) (Nat.le_of_ble_eq_true rfl) dX2_aboutKite_156 ?_
                      refine g_aload_n C dX2_aboutKite_157 rfl rfl ?_
                      refine g_get C inX2 0 rfl rfl 2 (by decide) f18 rfl dX2_aboutKite_158 ?_
                      refine g_iload_n C dX2_aboutKite_161 rfl rfl ?_
                      refine g_iald C 3 rfl (j) rfl (by omega) (Nat.le_of_ble_eq_true rfl) dX2_aboutKite_162 ?_
                      refine g_calliVF C 0 rfl rfl (c_X2_highestBelow E h a σ _ _) cf_X2_highestBelow gX2_aboutKite_X2_highestBelow rfl (fitD (Nat.le_of_ble_eq_true rfl) (Nat.le_of_ble_eq_true rfl)) rfl rfl (Nat.le_of_ble_eq_true rfl) dX2_aboutKite_163 (fun r1 w1 hp => ?_)
                      obtain ⟨rfl, rfl⟩ := hp
                      refine g_iret C R0 dX2_aboutKite_166 ?_
                      refine pE_mk ?_ rfl
                      rw [aboutKR, if_pos hb_2, hcl, aboutKG, if_neg hc_13_0, if_neg hc_13_1, if_neg hc_13_2, if_neg hc_13_3, if_neg hc_13_4, if_neg hc_13_5, if_neg hc_13_6, if_neg hc_13_7, if_pos hc_13_8]
                    · skip
                      refine g_tableOut C (tgt := 167) dX2_aboutKite_13 (sw_out9 hc_13_0 hc_13_1 hc_13_2 hc_13_3 hc_13_4 hc_13_5 hc_13_6 hc_13_7 hc_13_8) (by decide) ?_
                      refine g_sipush C (v := (-10002)) dX2_aboutKite_167 rfl ?_
                      refine g_iret C R0 dX2_aboutKite_170 ?_
                      refine pE_mk ?_ rfl
                      rw [aboutKR, if_pos hb_2, aboutKG, if_neg hc_13_0, if_neg hc_13_1, if_neg hc_13_2, if_neg hc_13_3, if_neg hc_13_4, if_neg hc_13_5, if_neg hc_13_6, if_neg hc_13_7, if_neg hc_13_8]
  · refine g_if_ne_f C dX2_aboutKite_5 12 (by decide) (by decide) ?_
    refine g_sipush C (v := (-10001)) dX2_aboutKite_8 rfl ?_
    refine g_iret C R0 dX2_aboutKite_11 ?_
    refine pE_mk ?_ rfl
    rw [aboutKR, if_neg hb_2]
set_option maxHeartbeats 4000000 in
set_option maxRecDepth 100000 in
theorem c_X2_aboutReading (E : Ev) (h : Nat) (a : Nat → Nat) (σ : Sky) (k w : Int32) : MI E yX2_aboutReading wsX2_aboutReading (rmD 3) (skyW E h a σ) [.ref h, .int k, .int w] (pE (aboutRR σ k w) (skyW E h a σ)) := by
  have inX2 : ∀ w ∈ u_ws RX2 TX2 12, w ∈ wsX2_aboutReading := by decide +kernel
  have f15 : Cond.fieldLink RX2 15 (TX2 1).1 (TX2 1).2.1 (TX2 1).2.2.1 ∈ wsX2_aboutReading := by decide +kernel
  have f18 : Cond.fieldLink RX2 18 (TX2 2).1 (TX2 2).2.1 (TX2 2).2.2.1 ∈ wsX2_aboutReading := by decide +kernel
  have f44 : Cond.fieldLink RX2 44 (TX2 10).1 (TX2 10).2.1 (TX2 10).2.2.1 ∈ wsX2_aboutReading := by decide +kernel
  refine MI.of (cc := cX2_aboutReading) (nL := 6) (ty := .int) (own := RX2) [some (.ref h), some (.int k), some (.int w), none, none, none] (by decide +kernel) rfl rfl (Nat.le_of_ble_eq_true rfl) rfl rfl ?_
  intro x C R0
  refine g_aload_n C dX2_aboutReading_0 rfl rfl ?_
  refine g_iload_n C dX2_aboutReading_1 rfl rfl ?_
  refine g_calliVF C 0 rfl rfl (c_X2_isKite E h a σ _) cf_X2_isKite gX2_aboutReading_X2_isKite rfl (fitD (Nat.le_of_ble_eq_true rfl) (Nat.le_of_ble_eq_true rfl)) rfl rfl (Nat.le_of_ble_eq_true rfl) dX2_aboutReading_2 (fun r1 w1 hp => ?_)
  obtain ⟨⟨hb_2, rfl⟩ | ⟨hb_2, rfl⟩, rfl⟩ := hp
  · obtain ⟨j, hj, rfl⟩ := i32_of (n := 12) hb_2.1 hb_2.2.1 (by decide)
    have hcl : (nI j).toNatClampNeg = j := nI_clamp (by omega)
    have hkj : ¬ sSt σ j = -1 := by have := hb_2.2.2; rwa [hcl] at this
    refine g_if_ne_t C dX2_aboutReading_5 (tgt := 12) (by decide) (by decide) ?_
    refine g_aload_n C dX2_aboutReading_12 rfl rfl ?_
    refine g_get C inX2 0 rfl rfl 1 (by decide) f15 rfl dX2_aboutReading_13 ?_
    refine g_iload_n C dX2_aboutReading_16 rfl rfl ?_
    refine g_iald C 2 rfl (j) rfl (by omega) (Nat.le_of_ble_eq_true rfl) dX2_aboutReading_17 ?_
    refine g_istore_n C dX2_aboutReading_18 rfl (Nat.le_of_ble_eq_true rfl) rfl ?_
    refine g_aload_n C dX2_aboutReading_19 rfl rfl ?_
    refine g_iload_n C dX2_aboutReading_20 rfl rfl ?_
    refine g_aload_n C dX2_aboutReading_21 rfl rfl ?_
    refine g_get C inX2 0 rfl rfl 2 (by decide) f18 rfl dX2_aboutReading_22 ?_
    refine g_iload_n C dX2_aboutReading_25 rfl rfl ?_
    refine g_iald C 3 rfl (j) rfl (by omega) (Nat.le_of_ble_eq_true rfl) dX2_aboutReading_26 ?_
    refine g_aload_n C dX2_aboutReading_27 rfl rfl ?_
    refine g_calliVF C 0 rfl rfl (c_X2_windNow E h a σ) cf_X2_windNow gX2_aboutReading_X2_windNow rfl (fitD (Nat.le_of_ble_eq_true rfl) (Nat.le_of_ble_eq_true rfl)) rfl rfl (Nat.le_of_ble_eq_true rfl) dX2_aboutReading_28 (fun r1 w1 hp => ?_)
    obtain ⟨rfl, rfl⟩ := hp
    refine g_calliVF C 0 rfl rfl (c_X2_risen E h a σ _ _ _) cf_X2_risen gX2_aboutReading_X2_risen rfl (fitD (Nat.le_of_ble_eq_true rfl) (Nat.le_of_ble_eq_true rfl)) rfl rfl (Nat.le_of_ble_eq_true rfl) dX2_aboutReading_31 (fun r1 w1 hp => ?_)
    obtain ⟨rfl, rfl⟩ := hp
    refine g_istore C dX2_aboutReading_34 (Nat.le_of_ble_eq_true rfl) rfl ?_
    refine g_iload C dX2_aboutReading_36 rfl ?_
    refine g_aload_n C dX2_aboutReading_38 rfl rfl ?_
    refine g_get C inX2 0 rfl rfl 10 (by decide) f44 rfl dX2_aboutReading_39 ?_
    refine g_icmp_le C (tgt := 49) dX2_aboutReading_42 (by decide) (fun hc_42 => ?_) (fun hc_42 => ?_)
    · refine g_iconst C (v := 0) dX2_aboutReading_49 rfl ?_
      refine g_istore C dX2_aboutReading_50 (Nat.le_of_ble_eq_true rfl) rfl ?_
      refine g_iload_n C dX2_aboutReading_52 rfl rfl ?_
      by_cases hc_53_0 : w = 0
      · have he_53 : (w).toInt = 0 := by rw [hc_53_0]; rfl
        refine g_tableIn C (tgt := 84) dX2_aboutReading_53 (by rw [he_53]; decide) (by rw [he_53]; decide) (by rw [he_53]; rfl) (by decide) ?_
        refine g_iload C dX2_aboutReading_84 rfl ?_
        refine g_if_eq_t C dX2_aboutReading_86 (tgt := 96) (by decide) (by decide) ?_
        refine g_iload_n C dX2_aboutReading_96 rfl rfl ?_
        refine g_iret C R0 dX2_aboutReading_97 ?_
        refine pE_mk ?_ rfl
        rw [aboutRR, if_pos hb_2, hcl, aboutRG, if_neg (i32_nlt hc_42), if_pos hc_53_0]
      · skip
        by_cases hc_53_1 : w = 1
        · have he_53 : (w).toInt = 1 := by rw [hc_53_1]; rfl
          refine g_tableIn C (tgt := 98) dX2_aboutReading_53 (by rw [he_53]; decide) (by rw [he_53]; decide) (by rw [he_53]; rfl) (by decide) ?_
          refine g_iload C dX2_aboutReading_98 rfl ?_
          refine g_if_eq_t C dX2_aboutReading_100 (tgt := 115) (by decide) (by decide) ?_
          refine g_iload C dX2_aboutReading_115 rfl ?_
          refine g_iret C R0 dX2_aboutReading_117 ?_
          refine pE_mk ?_ rfl
          rw [aboutRR, if_pos hb_2, hcl, aboutRG, if_neg (i32_nlt hc_42), if_neg hc_53_0, if_pos hc_53_1]
        · skip
          by_cases hc_53_2 : w = 2
          · have he_53 : (w).toInt = 2 := by rw [hc_53_2]; rfl
            refine g_tableIn C (tgt := 118) dX2_aboutReading_53 (by rw [he_53]; decide) (by rw [he_53]; decide) (by rw [he_53]; rfl) (by decide) ?_
            refine g_iload C dX2_aboutReading_118 rfl ?_
            refine g_if_eq_t C dX2_aboutReading_120 (tgt := 127) (by decide) (by decide) ?_
            refine g_iconst C (v := 0) dX2_aboutReading_127 rfl ?_
            refine g_iret C R0 dX2_aboutReading_128 ?_
            refine pE_mk ?_ rfl
            rw [aboutRR, if_pos hb_2, hcl, aboutRG, if_neg (i32_nlt hc_42), if_neg hc_53_0, if_neg hc_53_1, if_pos hc_53_2]
          · skip
            by_cases hc_53_3 : w = 3
            · have he_53 : (w).toInt = 3 := by rw [hc_53_3]; rfl
              refine g_tableIn C (tgt := 129) dX2_aboutReading_53 (by rw [he_53]; decide) (by rw [he_53]; decide) (by rw [he_53]; rfl) (by decide) ?_
              refine g_iload C dX2_aboutReading_129 rfl ?_
              refine g_if_eq_t C dX2_aboutReading_131 (tgt := 138) (by decide) (by decide) ?_
              refine g_aload_n C dX2_aboutReading_138 rfl rfl ?_
              refine g_iload_n C dX2_aboutReading_139 rfl rfl ?_
              refine g_aload_n C dX2_aboutReading_140 rfl rfl ?_
              refine g_get C inX2 0 rfl rfl 2 (by decide) f18 rfl dX2_aboutReading_141 ?_
              refine g_iload_n C dX2_aboutReading_144 rfl rfl ?_
              refine g_iald C 3 rfl (j) rfl (by omega) (Nat.le_of_ble_eq_true rfl) dX2_aboutReading_145 ?_
              refine g_iload C dX2_aboutReading_146 rfl ?_
              refine g_calliVF C 0 rfl rfl (c_X2_kitesBetween E h a σ _ _ _) cf_X2_kitesBetween gX2_aboutReading_X2_kitesBetween rfl (fitD (Nat.le_of_ble_eq_true rfl) (Nat.le_of_ble_eq_true rfl)) rfl rfl (Nat.le_of_ble_eq_true rfl) dX2_aboutReading_148 (fun r1 w1 hp => ?_)
              obtain ⟨rfl, rfl⟩ := hp
              refine g_iret C R0 dX2_aboutReading_151 ?_
              refine pE_mk ?_ rfl
              rw [aboutRR, if_pos hb_2, hcl, aboutRG, if_neg (i32_nlt hc_42), if_neg hc_53_0, if_neg hc_53_1, if_neg hc_53_2, if_pos hc_53_3]
            · skip
              refine g_tableOut C (tgt := 152) dX2_aboutReading_53 (sw_out4 hc_53_0 hc_53_1 hc_53_2 hc_53_3) (by decide) ?_
              refine g_sipush C (v := (-10002)) dX2_aboutReading_152 rfl ?_
              refine g_iret C R0 dX2_aboutReading_155 ?_
              refine pE_mk ?_ rfl
              rw [aboutRR, if_pos hb_2, hcl, aboutRG, if_neg (i32_nlt hc_42), if_neg hc_53_0, if_neg hc_53_1, if_neg hc_53_2, if_neg hc_53_3]
    · refine g_iconst C (v := 1) dX2_aboutReading_45 rfl ?_
      refine g_goto C (tgt := 50) dX2_aboutReading_46 (by decide) ?_
      refine g_istore C dX2_aboutReading_50 (Nat.le_of_ble_eq_true rfl) rfl ?_
      refine g_iload_n C dX2_aboutReading_52 rfl rfl ?_
      by_cases hc_53_0 : w = 0
      · have he_53 : (w).toInt = 0 := by rw [hc_53_0]; rfl
        refine g_tableIn C (tgt := 84) dX2_aboutReading_53 (by rw [he_53]; decide) (by rw [he_53]; decide) (by rw [he_53]; rfl) (by decide) ?_
        refine g_iload C dX2_aboutReading_84 rfl ?_
        refine g_if_eq_f C dX2_aboutReading_86 96 (by decide) (by decide) ?_
        refine g_iload_n C dX2_aboutReading_89 rfl rfl ?_
        refine g_calliSF C (c_X2_behind E _ _) cf_X2_behind gX2_aboutReading_X2_behind rfl (fitD (Nat.le_of_ble_eq_true rfl) (Nat.le_of_ble_eq_true rfl)) rfl rfl (Nat.le_of_ble_eq_true rfl) dX2_aboutReading_90 (fun r1 w1 hp => ?_)
        obtain ⟨rfl, rfl⟩ := hp
        refine g_goto C (tgt := 97) dX2_aboutReading_93 (by decide) ?_
        refine g_iret C R0 dX2_aboutReading_97 ?_
        refine pE_mk ?_ rfl
        rw [aboutRR, if_pos hb_2, hcl, aboutRG, if_pos (i32_lt.mp hc_42), if_pos hc_53_0]
      · skip
        by_cases hc_53_1 : w = 1
        · have he_53 : (w).toInt = 1 := by rw [hc_53_1]; rfl
          refine g_tableIn C (tgt := 98) dX2_aboutReading_53 (by rw [he_53]; decide) (by rw [he_53]; decide) (by rw [he_53]; rfl) (by decide) ?_
          refine g_iload C dX2_aboutReading_98 rfl ?_
          refine g_if_eq_f C dX2_aboutReading_100 115 (by decide) (by decide) ?_
          refine g_aload_n C dX2_aboutReading_103 rfl rfl ?_
          refine g_iload_n C dX2_aboutReading_104 rfl rfl ?_
          refine g_calliSF C (c_X2_behind E _ _) cf_X2_behind gX2_aboutReading_X2_behind rfl (fitD (Nat.le_of_ble_eq_true rfl) (Nat.le_of_ble_eq_true rfl)) rfl rfl (Nat.le_of_ble_eq_true rfl) dX2_aboutReading_105 (fun r1 w1 hp => ?_)
          obtain ⟨rfl, rfl⟩ := hp
          refine g_iconst C (v := 0) dX2_aboutReading_108 rfl ?_
          refine g_calliVF C 0 rfl rfl (c_X2_landing E h a σ _ _) cf_X2_landing gX2_aboutReading_X2_landing rfl (fitD (Nat.le_of_ble_eq_true rfl) (Nat.le_of_ble_eq_true rfl)) rfl rfl (Nat.le_of_ble_eq_true rfl) dX2_aboutReading_109 (fun r1 w1 hp => ?_)
          obtain ⟨rfl, rfl⟩ := hp
          refine g_goto C (tgt := 117) dX2_aboutReading_112 (by decide) ?_
          refine g_iret C R0 dX2_aboutReading_117 ?_
          refine pE_mk ?_ rfl
          rw [aboutRR, if_pos hb_2, hcl, aboutRG, if_pos (i32_lt.mp hc_42), if_neg hc_53_0, if_pos hc_53_1]
        · skip
          by_cases hc_53_2 : w = 2
          · have he_53 : (w).toInt = 2 := by rw [hc_53_2]; rfl
            refine g_tableIn C (tgt := 118) dX2_aboutReading_53 (by rw [he_53]; decide) (by rw [he_53]; decide) (by rw [he_53]; rfl) (by decide) ?_
            refine g_iload C dX2_aboutReading_118 rfl ?_
            refine g_if_eq_f C dX2_aboutReading_120 127 (by decide) (by decide) ?_
            refine g_iconst C (v := 1) dX2_aboutReading_123 rfl ?_
            refine g_goto C (tgt := 128) dX2_aboutReading_124 (by decide) ?_
            refine g_iret C R0 dX2_aboutReading_128 ?_
            refine pE_mk ?_ rfl
            rw [aboutRR, if_pos hb_2, hcl, aboutRG, if_pos (i32_lt.mp hc_42), if_neg hc_53_0, if_neg hc_53_1, if_pos hc_53_2]
          · skip
            by_cases hc_53_3 : w = 3
            · have he_53 : (w).toInt = 3 := by rw [hc_53_3]; rfl
              refine g_tableIn C (tgt := 129) dX2_aboutReading_53 (by rw [he_53]; decide) (by rw [he_53]; decide) (by rw [he_53]; rfl) (by decide) ?_
              refine g_iload C dX2_aboutReading_129 rfl ?_
              refine g_if_eq_f C dX2_aboutReading_131 138 (by decide) (by decide) ?_
              refine g_iconst C (v := 0) dX2_aboutReading_134 rfl ?_
              refine g_goto C (tgt := 151) dX2_aboutReading_135 (by decide) ?_
              refine g_iret C R0 dX2_aboutReading_151 ?_
              refine pE_mk ?_ rfl
              rw [aboutRR, if_pos hb_2, hcl, aboutRG, if_pos (i32_lt.mp hc_42), if_neg hc_53_0, if_neg hc_53_1, if_neg hc_53_2, if_pos hc_53_3]
            · skip
              refine g_tableOut C (tgt := 152) dX2_aboutReading_53 (sw_out4 hc_53_0 hc_53_1 hc_53_2 hc_53_3) (by decide) ?_
              refine g_sipush C (v := (-10002)) dX2_aboutReading_152 rfl ?_
              refine g_iret C R0 dX2_aboutReading_155 ?_
              refine pE_mk ?_ rfl
              rw [aboutRR, if_pos hb_2, hcl, aboutRG, if_pos (i32_lt.mp hc_42), if_neg hc_53_0, if_neg hc_53_1, if_neg hc_53_2, if_neg hc_53_3]
  · refine g_if_ne_f C dX2_aboutReading_5 12 (by decide) (by decide) ?_
    refine g_sipush C (v := (-10001)) dX2_aboutReading_8 rfl ?_
    refine g_iret C R0 dX2_aboutReading_11 ?_
    refine pE_mk ?_ rfl
    rw [aboutRR, if_neg hb_2]
