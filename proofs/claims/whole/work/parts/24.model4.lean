theorem flyMR_HL {μ : MD} {s n : Int32} : mHL (flyMR μ s n).2 = mHL μ := by
  unfold flyMR; split <;> rfl
def flyM (μ : MD) (nh : Nat) (s n : Int32) : Int32 × MD := if isS s then (if isN n then (if (flyMR (xKee μ) s n).1 = -10003 then (-10003, (flyMR (xKee μ) s n).2) else ((flyMR (xKee μ) s n).1, xAct (flyMR (xKee μ) s n).2 nh)) else (-10002, μ)) else (-10001, μ)
def takeM (μ : MD) (nh : Nat) (k : Int32) : Int32 × MD := if isKm (gSt μ) k then (gNu μ k.toNatClampNeg, xAct (xFr (xSt (xKee μ) k.toNatClampNeg (-10005)) k.toNatClampNeg 0) nh) else (-10001, μ)
def readM (μ : MD) (nh q e : Nat) (k : Int32) : Int32 × MD := if isKm (gSt μ) k then (gNu (xRead (xKee μ) k.toNatClampNeg q (gWi μ e)) k.toNatClampNeg, xAct (xRead (xKee μ) k.toNatClampNeg q (gWi μ e)) nh) else (-10001, μ)
def writeM (μ : MD) (nh : Nat) (k n : Int32) : Int32 × MD := if isKm (gSt μ) k then (if isN n then (gNu μ k.toNatClampNeg, xAct (xWrite (xKee μ) k.toNatClampNeg n) nh) else (-10002, μ)) else (-10001, μ)
def moveM (μ : MD) (nh : Nat) (k s : Int32) : Int32 × MD := if isKm (gSt μ) k ∧ isS s then (if gSt μ k.toNatClampNeg = s then (-10005, μ) else (gHt (xLands (xKee μ) k.toNatClampNeg s (gHt μ k.toNatClampNeg)) k.toNatClampNeg, xAct (xLands (xKee μ) k.toNatClampNeg s (gHt μ k.toNatClampNeg)) nh)) else (-10001, μ)
def beatM (μ : MD) (nh : Nat) (n : Int32) : Int32 × MD := if 1 ≤ n ∧ n ≤ 100 then (gBe (xBeatN (xKee μ) n.toNatClampNeg), xAct (xBeatN (xKee μ) n.toNatClampNeg) nh) else (-10002, μ)
def windM (μ : MD) (nh : Nat) (b w : Int32) : Int32 × MD := if isB b then (if 0 ≤ w ∧ w ≤ 9 then (if gWi μ b.toNatClampNeg = w then (-10005, μ) else (gWi μ b.toNatClampNeg, xAct (xWi (xKee μ) b.toNatClampNeg w) nh)) else (-10002, μ)) else (-10001, μ)
def setM (μ : MD) (nh : Nat) (k v : Int32) : Int32 × MD := if k = 0 then (if 5 ≤ v ∧ v ≤ 80 then (if gCh μ = v then (-10005, μ) else (gCh μ, xAct (xCh (xKee μ) v) nh)) else (-10002, μ)) else if k = 1 then (if 0 ≤ v ∧ v ≤ 9 then (if gSi μ = v then (-10005, μ) else (gSi μ, xAct (xSi (xKee μ) v) nh)) else (-10002, μ)) else (-10001, μ)
def typeM (μ : MD) (tl : Nat) (c : Int32) : Int32 × MD := if tl = 80 then (-10003, μ) else (nI (tl + 1), wTL (wTx μ (upd (mTx μ) tl c)) (nI (tl + 1)))
def stopM (μ : MD) (w : Int32) : Int32 := if w = 0 then mSA μ else if w = 1 then mSB μ else -10002
def keepM (μ : MD) : Int32 × MD := (many4 (gSt μ), wIT (wSn μ (mAl μ)) 1)
def restM (μ : MD) (nh : Nat) : Int32 × MD := if mIT μ = 0 then (-10005, μ) else (many4 (sSt (mSn μ).1), xAct (wAl (xKee μ) (mSn μ)) nh)
set_option maxHeartbeats 4000000 in
set_option maxRecDepth 100000 in
theorem c_X4_fly (E : Ev) (m : Nat) (b : Nat → Nat) (μ : MD) (nh : Nat) (hnh : nh ≤ 4) (hHL : mHL μ = nI nh) (s n : Int32) (hf : isS s → ∀ k, k < 12 → gSt μ k = -10005 → hL (mAl μ) k s 0) : MI E yX4_fly wsX4_fly (rmD 5) (modW E m b μ) [.ref m, .int s, .int n] (pM E m b (flyM μ nh s n)) := by
  refine MI.of (cc := cX4_fly) (nL := 4) (ty := .int) (own := RX4) [some (.ref m), some (.int s), some (.int n), none] (by decide +kernel) rfl rfl (Nat.le_of_ble_eq_true rfl) rfl rfl ?_
  intro x C R0
  refine g_iload_n C dX4_fly_0 rfl rfl ?_
  refine g_calliSF C (c_X4_isString E _ _) cf_X4_isString gX4_fly_X4_isString rfl (fitD (Nat.le_of_ble_eq_true rfl) (Nat.le_of_ble_eq_true rfl)) rfl rfl (Nat.le_of_ble_eq_true rfl) dX4_fly_1 (fun r1 w1 hp => ?_)
  obtain ⟨⟨hb_1, rfl⟩ | ⟨hb_1, rfl⟩, rfl⟩ := hp
  · refine g_if_ne_t C dX4_fly_4 (tgt := 11) (by decide) (by decide) ?_
    refine g_iload_n C dX4_fly_11 rfl rfl ?_
    refine g_calliSF C (c_X4_isNumber E _ _) cf_X4_isNumber gX4_fly_X4_isNumber rfl (fitD (Nat.le_of_ble_eq_true rfl) (Nat.le_of_ble_eq_true rfl)) rfl rfl (Nat.le_of_ble_eq_true rfl) dX4_fly_12 (fun r1 w1 hp => ?_)
    obtain ⟨⟨hb_12, rfl⟩ | ⟨hb_12, rfl⟩, rfl⟩ := hp
    · refine g_if_ne_t C dX4_fly_15 (tgt := 22) (by decide) (by decide) ?_
      refine g_aload_n C dX4_fly_22 rfl rfl ?_
      refine g_callvVF C 0 rfl rfl (c_X4_remember E m b μ) cf_X4_remember gX4_fly_X4_remember rfl (fitD (Nat.le_of_ble_eq_true rfl) (Nat.le_of_ble_eq_true rfl)) rfl rfl (Nat.le_of_ble_eq_true rfl) dX4_fly_23 (fun w1 hp => ?_)
      obtain rfl := hp
      refine g_aload_n C dX4_fly_26 rfl rfl ?_
      refine g_iload_n C dX4_fly_27 rfl rfl ?_
      refine g_iload_n C dX4_fly_28 rfl rfl ?_
      refine g_calliVF C 0 rfl rfl (c_X4_doFly E m b (xKee μ) _ _ (hf hb_1)) cf_X4_doFly gX4_fly_X4_doFly rfl (fitD (Nat.le_of_ble_eq_true rfl) (Nat.le_of_ble_eq_true rfl)) rfl rfl (Nat.le_of_ble_eq_true rfl) dX4_fly_29 (fun r1 w1 hp => ?_)
      obtain ⟨rfl, rfl⟩ := hp
      refine g_istore_n C dX4_fly_32 rfl (Nat.le_of_ble_eq_true rfl) rfl ?_
      refine g_iload_n C dX4_fly_33 rfl rfl ?_
      refine g_sipush C (v := (-10003)) dX4_fly_34 rfl ?_
      refine g_icmp_ne C (tgt := 46) dX4_fly_37 (by decide) (fun hc_37 => ?_) (fun hc_37 => ?_)
      · refine g_aload_n C dX4_fly_46 rfl rfl ?_
        refine g_iload_n C dX4_fly_47 rfl rfl ?_
        refine g_calliVF C 0 rfl rfl (c_X4_acted E m b (flyMR (xKee μ) s n).2 nh hnh (flyMR_HL.trans hHL) _) cf_X4_acted gX4_fly_X4_acted rfl (fitD (Nat.le_of_ble_eq_true rfl) (Nat.le_of_ble_eq_true rfl)) rfl rfl (Nat.le_of_ble_eq_true rfl) dX4_fly_48 (fun r1 w1 hp => ?_)
        obtain ⟨rfl, rfl⟩ := hp
        refine g_iret C R0 dX4_fly_51 ?_
        refine pM_mk (μ := (xAct (flyMR (xKee μ) s n).2 nh)) ?_ rfl
        rw [flyM, if_pos hb_1, if_pos hb_12, if_neg hc_37] <;> rfl
      · refine g_sipush C (v := (-10003)) dX4_fly_40 rfl ?_
        refine g_goto C (tgt := 51) dX4_fly_43 (by decide) ?_
        refine g_iret C R0 dX4_fly_51 ?_
        refine pM_mk (μ := (flyMR (xKee μ) s n).2) ?_ rfl
        rw [flyM, if_pos hb_1, if_pos hb_12, if_pos hc_37] <;> rfl
    · refine g_if_ne_f C dX4_fly_15 22 (by decide) (by decide) ?_
      refine g_sipush C (v := (-10002)) dX4_fly_18 rfl ?_
      refine g_iret C R0 dX4_fly_21 ?_
      refine pM_mk (μ := μ) ?_ rfl
      rw [flyM, if_pos hb_1, if_neg hb_12] <;> rfl
  · refine g_if_ne_f C dX4_fly_4 11 (by decide) (by decide) ?_
    refine g_sipush C (v := (-10001)) dX4_fly_7 rfl ?_
    refine g_iret C R0 dX4_fly_10 ?_
    refine pM_mk (μ := μ) ?_ rfl
    rw [flyM, if_neg hb_1] <;> rfl
set_option maxHeartbeats 4000000 in
set_option maxRecDepth 100000 in
theorem c_X4_takeDown (E : Ev) (m : Nat) (b : Nat → Nat) (μ : MD) (nh : Nat) (hnh : nh ≤ 4) (hHL : mHL μ = nI nh) (k : Int32) : MI E yX4_takeDown wsX4_takeDown (rmD 2) (modW E m b μ) [.ref m, .int k] (pM E m b (takeM μ nh k)) := by
  have inX4 : ∀ w ∈ u_ws RX4 TX4 16, w ∈ wsX4_takeDown := by decide +kernel
  have f7 : Cond.fieldLink RX4 7 (TX4 0).1 (TX4 0).2.1 (TX4 0).2.2.1 ∈ wsX4_takeDown := by decide +kernel
  refine MI.of (cc := cX4_takeDown) (nL := 2) (ty := .int) (own := RX4) [some (.ref m), some (.int k)] (by decide +kernel) rfl rfl (Nat.le_of_ble_eq_true rfl) rfl rfl ?_
  intro x C R0
  refine g_aload_n C dX4_takeDown_0 rfl rfl ?_
  refine g_iload_n C dX4_takeDown_1 rfl rfl ?_
  refine g_calliVF C 0 rfl rfl (c_X4_isKite E m b μ _) cf_X4_isKite gX4_takeDown_X4_isKite rfl (fitD (Nat.le_of_ble_eq_true rfl) (Nat.le_of_ble_eq_true rfl)) rfl rfl (Nat.le_of_ble_eq_true rfl) dX4_takeDown_2 (fun r1 w1 hp => ?_)
  obtain ⟨⟨hb_2, rfl⟩ | ⟨hb_2, rfl⟩, rfl⟩ := hp
  · obtain ⟨j, hj, rfl⟩ := i32_of (n := 12) hb_2.1 hb_2.2.1 (by decide)
    have hcl : (nI j).toNatClampNeg = j := nI_clamp (by omega)
    have hkj : ¬ gSt μ j = -10005 := by have := hb_2.2.2; rwa [hcl] at this
    refine g_if_ne_t C dX4_takeDown_5 (tgt := 12) (by decide) (by decide) ?_
    refine g_aload_n C dX4_takeDown_12 rfl rfl ?_
    refine g_callvVF C 0 rfl rfl (c_X4_remember E m b μ) cf_X4_remember gX4_takeDown_X4_remember rfl (fitD (Nat.le_of_ble_eq_true rfl) (Nat.le_of_ble_eq_true rfl)) rfl rfl (Nat.le_of_ble_eq_true rfl) dX4_takeDown_13 (fun w1 hp => ?_)
    obtain rfl := hp
    refine g_aload_n C dX4_takeDown_16 rfl rfl ?_
    refine g_get C inX4 0 rfl rfl 0 (by decide) f7 rfl dX4_takeDown_17 ?_
    refine g_bipush C (v := 18) dX4_takeDown_20 rfl ?_
    refine g_iload_n C dX4_takeDown_22 rfl rfl ?_
    refine g_iadd C dX4_takeDown_23 ?_
    refine g_sipush C (v := (-10005)) dX4_takeDown_24 rfl ?_
    refine g_iast C (ws' := (modW E m b (xSt (xKee μ) (j) (-10005)))) 1 rfl (18 + j) (nI_add 18 (j)) (by omega) (Nat.le_of_ble_eq_true rfl) dX4_takeDown_27 (by rw [up_St (by omega)]; rfl) ?_
    refine g_aload_n C dX4_takeDown_28 rfl rfl ?_
    refine g_get C inX4 0 rfl rfl 0 (by decide) f7 rfl dX4_takeDown_29 ?_
    refine g_bipush C (v := 54) dX4_takeDown_32 rfl ?_
    refine g_iload_n C dX4_takeDown_34 rfl rfl ?_
    refine g_iadd C dX4_takeDown_35 ?_
    refine g_iconst C (v := 0) dX4_takeDown_36 rfl ?_
    refine g_iast C (ws' := (modW E m b (xFr (xSt (xKee μ) (j) (-10005)) (j) 0))) 1 rfl (54 + j) (nI_add 54 (j)) (by omega) (Nat.le_of_ble_eq_true rfl) dX4_takeDown_37 (by rw [up_Fr (by omega)]; rfl) ?_
    refine g_aload_n C dX4_takeDown_38 rfl rfl ?_
    refine g_aload_n C dX4_takeDown_39 rfl rfl ?_
    refine g_get C inX4 0 rfl rfl 0 (by decide) f7 rfl dX4_takeDown_40 ?_
    refine g_bipush C (v := 30) dX4_takeDown_43 rfl ?_
    refine g_iload_n C dX4_takeDown_45 rfl rfl ?_
    refine g_iadd C dX4_takeDown_46 ?_
    refine g_ialdE C 1 rfl (30 + j) (v := (gNu (xFr (xSt (xKee μ) (j) (-10005)) (j) 0) (j))) (nI_add 30 (j)) (by omega) (Nat.le_of_ble_eq_true rfl) (pk_Nu (by omega)) dX4_takeDown_47 ?_
    refine g_calliVF C 0 rfl rfl (c_X4_acted E m b (xFr (xSt (xKee μ) (j) (-10005)) (j) 0) nh hnh hHL _) cf_X4_acted gX4_takeDown_X4_acted rfl (fitD (Nat.le_of_ble_eq_true rfl) (Nat.le_of_ble_eq_true rfl)) rfl rfl (Nat.le_of_ble_eq_true rfl) dX4_takeDown_48 (fun r1 w1 hp => ?_)
    obtain ⟨rfl, rfl⟩ := hp
    refine g_iret C R0 dX4_takeDown_51 ?_
    refine pM_mk (μ := (xAct (xFr (xSt (xKee μ) (j) (-10005)) (j) 0) nh)) ?_ rfl
    rw [takeM, if_pos hb_2, hcl] <;> rfl
  · refine g_if_ne_f C dX4_takeDown_5 12 (by decide) (by decide) ?_
    refine g_sipush C (v := (-10001)) dX4_takeDown_8 rfl ?_
    refine g_iret C R0 dX4_takeDown_11 ?_
    refine pM_mk (μ := μ) ?_ rfl
    rw [takeM, if_neg hb_2] <;> rfl
set_option maxHeartbeats 4000000 in
set_option maxRecDepth 100000 in
theorem c_X4_read (E : Ev) (m : Nat) (b : Nat → Nat) (μ : MD) (nh : Nat) (hnh : nh ≤ 4) (hHL : mHL μ = nI nh) (q e : Nat) (he : e < 8) (hbe : gBe μ = nI e) (k : Int32) (hk : isKm (gSt μ) k → q < 4 ∧ gSt μ k.toNatClampNeg = nI q ∧ hR (mAl μ) k.toNatClampNeg (gWi μ e)) : MI E yX4_read wsX4_read (rmD 6) (modW E m b μ) [.ref m, .int k] (pM E m b (readM μ nh q e k)) := by
  refine MI.of (cc := cX4_read) (nL := 2) (ty := .int) (own := RX4) [some (.ref m), some (.int k)] (by decide +kernel) rfl rfl (Nat.le_of_ble_eq_true rfl) rfl rfl ?_
  intro x C R0
  refine g_aload_n C dX4_read_0 rfl rfl ?_
  refine g_iload_n C dX4_read_1 rfl rfl ?_
  refine g_calliVF C 0 rfl rfl (c_X4_isKite E m b μ _) cf_X4_isKite gX4_read_X4_isKite rfl (fitD (Nat.le_of_ble_eq_true rfl) (Nat.le_of_ble_eq_true rfl)) rfl rfl (Nat.le_of_ble_eq_true rfl) dX4_read_2 (fun r1 w1 hp => ?_)
  obtain ⟨⟨hb_2, rfl⟩ | ⟨hb_2, rfl⟩, rfl⟩ := hp
  · obtain ⟨j, hj, rfl⟩ := i32_of (n := 12) hb_2.1 hb_2.2.1 (by decide)
    have hcl : (nI j).toNatClampNeg = j := nI_clamp (by omega)
    have hkj : ¬ gSt μ j = -10005 := by have := hb_2.2.2; rwa [hcl] at this
    obtain ⟨hq, hs, hr⟩ := hk hb_2
    rw [hcl] at hs hr
    refine g_if_ne_t C dX4_read_5 (tgt := 12) (by decide) (by decide) ?_
    refine g_aload_n C dX4_read_12 rfl rfl ?_
    refine g_callvVF C 0 rfl rfl (c_X4_remember E m b μ) cf_X4_remember gX4_read_X4_remember rfl (fitD (Nat.le_of_ble_eq_true rfl) (Nat.le_of_ble_eq_true rfl)) rfl rfl (Nat.le_of_ble_eq_true rfl) dX4_read_13 (fun w1 hp => ?_)
    obtain rfl := hp
    refine g_aload_n C dX4_read_16 rfl rfl ?_
    refine g_aload_n C dX4_read_17 rfl rfl ?_
    refine g_iload_n C dX4_read_18 rfl rfl ?_
    refine g_calliVF C 0 rfl rfl (c_X4_doRead E m b (xKee μ) (j) (by omega) q hq hs e he hbe hr) cf_X4_doRead gX4_read_X4_doRead rfl (fitD (Nat.le_of_ble_eq_true rfl) (Nat.le_of_ble_eq_true rfl)) rfl rfl (Nat.le_of_ble_eq_true rfl) dX4_read_19 (fun r1 w1 hp => ?_)
    obtain ⟨rfl, rfl⟩ := hp
    refine g_calliVF C 0 rfl rfl (c_X4_acted E m b (xRead (xKee μ) j q (gWi μ e)) nh hnh hHL _) cf_X4_acted gX4_read_X4_acted rfl (fitD (Nat.le_of_ble_eq_true rfl) (Nat.le_of_ble_eq_true rfl)) rfl rfl (Nat.le_of_ble_eq_true rfl) dX4_read_22 (fun r1 w1 hp => ?_)
    obtain ⟨rfl, rfl⟩ := hp
    refine g_iret C R0 dX4_read_25 ?_
    refine pM_mk (μ := (xAct (xRead (xKee μ) j q (gWi μ e)) nh)) ?_ rfl
    rw [readM, if_pos hb_2, hcl] <;> rfl
  · refine g_if_ne_f C dX4_read_5 12 (by decide) (by decide) ?_
    refine g_sipush C (v := (-10001)) dX4_read_8 rfl ?_
    refine g_iret C R0 dX4_read_11 ?_
    refine pM_mk (μ := μ) ?_ rfl
    rw [readM, if_neg hb_2] <;> rfl
set_option maxHeartbeats 4000000 in
set_option maxRecDepth 100000 in
theorem c_X4_write (E : Ev) (m : Nat) (b : Nat → Nat) (μ : MD) (nh : Nat) (hnh : nh ≤ 4) (hHL : mHL μ = nI nh) (k n : Int32) : MI E yX4_write wsX4_write (rmD 2) (modW E m b μ) [.ref m, .int k, .int n] (pM E m b (writeM μ nh k n)) := by
  refine MI.of (cc := cX4_write) (nL := 3) (ty := .int) (own := RX4) [some (.ref m), some (.int k), some (.int n)] (by decide +kernel) rfl rfl (Nat.le_of_ble_eq_true rfl) rfl rfl ?_
  intro x C R0
  refine g_aload_n C dX4_write_0 rfl rfl ?_
  refine g_iload_n C dX4_write_1 rfl rfl ?_
  refine g_calliVF C 0 rfl rfl (c_X4_isKite E m b μ _) cf_X4_isKite gX4_write_X4_isKite rfl (fitD (Nat.le_of_ble_eq_true rfl) (Nat.le_of_ble_eq_true rfl)) rfl rfl (Nat.le_of_ble_eq_true rfl) dX4_write_2 (fun r1 w1 hp => ?_)
  obtain ⟨⟨hb_2, rfl⟩ | ⟨hb_2, rfl⟩, rfl⟩ := hp
  · obtain ⟨j, hj, rfl⟩ := i32_of (n := 12) hb_2.1 hb_2.2.1 (by decide)
    have hcl : (nI j).toNatClampNeg = j := nI_clamp (by omega)
    have hkj : ¬ gSt μ j = -10005 := by have := hb_2.2.2; rwa [hcl] at this
    refine g_if_ne_t C dX4_write_5 (tgt := 12) (by decide) (by decide) ?_
    refine g_iload_n C dX4_write_12 rfl rfl ?_
    refine g_calliSF C (c_X4_isNumber E _ _) cf_X4_isNumber gX4_write_X4_isNumber rfl (fitD (Nat.le_of_ble_eq_true rfl) (Nat.le_of_ble_eq_true rfl)) rfl rfl (Nat.le_of_ble_eq_true rfl) dX4_write_13 (fun r1 w1 hp => ?_)
    obtain ⟨⟨hb_13, rfl⟩ | ⟨hb_13, rfl⟩, rfl⟩ := hp
    · refine g_if_ne_t C dX4_write_16 (tgt := 23) (by decide) (by decide) ?_
      refine g_aload_n C dX4_write_23 rfl rfl ?_
      refine g_callvVF C 0 rfl rfl (c_X4_remember E m b μ) cf_X4_remember gX4_write_X4_remember rfl (fitD (Nat.le_of_ble_eq_true rfl) (Nat.le_of_ble_eq_true rfl)) rfl rfl (Nat.le_of_ble_eq_true rfl) dX4_write_24 (fun w1 hp => ?_)
      obtain rfl := hp
      refine g_aload_n C dX4_write_27 rfl rfl ?_
      refine g_aload_n C dX4_write_28 rfl rfl ?_
      refine g_iload_n C dX4_write_29 rfl rfl ?_
      refine g_iload_n C dX4_write_30 rfl rfl ?_
      refine g_calliVF C 0 rfl rfl (c_X4_doWrite E m b (xKee μ) (j) (by omega) _) cf_X4_doWrite gX4_write_X4_doWrite rfl (fitD (Nat.le_of_ble_eq_true rfl) (Nat.le_of_ble_eq_true rfl)) rfl rfl (Nat.le_of_ble_eq_true rfl) dX4_write_31 (fun r1 w1 hp => ?_)
      obtain ⟨rfl, rfl⟩ := hp
      refine g_calliVF C 0 rfl rfl (c_X4_acted E m b (xWrite (xKee μ) j n) nh hnh hHL _) cf_X4_acted gX4_write_X4_acted rfl (fitD (Nat.le_of_ble_eq_true rfl) (Nat.le_of_ble_eq_true rfl)) rfl rfl (Nat.le_of_ble_eq_true rfl) dX4_write_34 (fun r1 w1 hp => ?_)
      obtain ⟨rfl, rfl⟩ := hp
      refine g_iret C R0 dX4_write_37 ?_
      refine pM_mk (μ := (xAct (xWrite (xKee μ) j n) nh)) ?_ rfl
      rw [writeM, if_pos hb_2, if_pos hb_13, hcl] <;> rfl
    · refine g_if_ne_f C dX4_write_16 23 (by decide) (by decide) ?_
      refine g_sipush C (v := (-10002)) dX4_write_19 rfl ?_
      refine g_iret C R0 dX4_write_22 ?_
      refine pM_mk (μ := μ) ?_ rfl
      rw [writeM, if_pos hb_2, if_neg hb_13] <;> rfl
  · refine g_if_ne_f C dX4_write_5 12 (by decide) (by decide) ?_
    refine g_sipush C (v := (-10001)) dX4_write_8 rfl ?_
    refine g_iret C R0 dX4_write_11 ?_
    refine pM_mk (μ := μ) ?_ rfl
    rw [writeM, if_neg hb_2] <;> rfl
set_option maxHeartbeats 4000000 in
set_option maxRecDepth 100000 in
theorem c_X4_move (E : Ev) (m : Nat) (b : Nat → Nat) (μ : MD) (nh : Nat) (hnh : nh ≤ 4) (hHL : mHL μ = nI nh) (k s : Int32) (hm : isKm (gSt μ) k → isS s → hL (mAl μ) k.toNatClampNeg s (gHt μ k.toNatClampNeg)) : MI E yX4_move wsX4_move (rmD 4) (modW E m b μ) [.ref m, .int k, .int s] (pM E m b (moveM μ nh k s)) := by
  have inX4 : ∀ w ∈ u_ws RX4 TX4 16, w ∈ wsX4_move := by decide +kernel
  have f7 : Cond.fieldLink RX4 7 (TX4 0).1 (TX4 0).2.1 (TX4 0).2.2.1 ∈ wsX4_move := by decide +kernel
  refine MI.of (cc := cX4_move) (nL := 3) (ty := .int) (own := RX4) [some (.ref m), some (.int k), some (.int s)] (by decide +kernel) rfl rfl (Nat.le_of_ble_eq_true rfl) rfl rfl ?_
  intro x C R0
  refine g_aload_n C dX4_move_0 rfl rfl ?_
  refine g_iload_n C dX4_move_1 rfl rfl ?_
  refine g_calliVF C 0 rfl rfl (c_X4_isKite E m b μ _) cf_X4_isKite gX4_move_X4_isKite rfl (fitD (Nat.le_of_ble_eq_true rfl) (Nat.le_of_ble_eq_true rfl)) rfl rfl (Nat.le_of_ble_eq_true rfl) dX4_move_2 (fun r1 w1 hp => ?_)
  obtain ⟨⟨hb_2, rfl⟩ | ⟨hb_2, rfl⟩, rfl⟩ := hp
  · obtain ⟨j, hj, rfl⟩ := i32_of (n := 12) hb_2.1 hb_2.2.1 (by decide)
    have hcl : (nI j).toNatClampNeg = j := nI_clamp (by omega)
    have hkj : ¬ gSt μ j = -10005 := by have := hb_2.2.2; rwa [hcl] at this
    refine g_if_eq_f C dX4_move_5 15 (by decide) (by decide) ?_
    refine g_iload_n C dX4_move_8 rfl rfl ?_
    refine g_calliSF C (c_X4_isString E _ _) cf_X4_isString gX4_move_X4_isString rfl (fitD (Nat.le_of_ble_eq_true rfl) (Nat.le_of_ble_eq_true rfl)) rfl rfl (Nat.le_of_ble_eq_true rfl) dX4_move_9 (fun r1 w1 hp => ?_)
    obtain ⟨⟨hb_9, rfl⟩ | ⟨hb_9, rfl⟩, rfl⟩ := hp
    · refine g_if_ne_t C dX4_move_12 (tgt := 19) (by decide) (by decide) ?_
      refine g_aload_n C dX4_move_19 rfl rfl ?_
      refine g_get C inX4 0 rfl rfl 0 (by decide) f7 rfl dX4_move_20 ?_
      refine g_bipush C (v := 18) dX4_move_23 rfl ?_
      refine g_iload_n C dX4_move_25 rfl rfl ?_
      refine g_iadd C dX4_move_26 ?_
      refine g_ialdE C 1 rfl (18 + j) (v := (gSt μ (j))) (nI_add 18 (j)) (by omega) (Nat.le_of_ble_eq_true rfl) (pk_St (by omega)) dX4_move_27 ?_
      refine g_iload_n C dX4_move_28 rfl rfl ?_
      refine g_icmp_ne C (tgt := 36) dX4_move_29 (by decide) (fun hc_29 => ?_) (fun hc_29 => ?_)
      · refine g_aload_n C dX4_move_36 rfl rfl ?_
        refine g_callvVF C 0 rfl rfl (c_X4_remember E m b μ) cf_X4_remember gX4_move_X4_remember rfl (fitD (Nat.le_of_ble_eq_true rfl) (Nat.le_of_ble_eq_true rfl)) rfl rfl (Nat.le_of_ble_eq_true rfl) dX4_move_37 (fun w1 hp => ?_)
        obtain rfl := hp
        refine g_aload_n C dX4_move_40 rfl rfl ?_
        refine g_iload_n C dX4_move_41 rfl rfl ?_
        refine g_iload_n C dX4_move_42 rfl rfl ?_
        refine g_aload_n C dX4_move_43 rfl rfl ?_
        refine g_iload_n C dX4_move_44 rfl rfl ?_
        refine g_calliVF C 0 rfl rfl (c_X4_heightOf E m b (xKee μ) (j) (by omega)) cf_X4_heightOf gX4_move_X4_heightOf rfl (fitD (Nat.le_of_ble_eq_true rfl) (Nat.le_of_ble_eq_true rfl)) rfl rfl (Nat.le_of_ble_eq_true rfl) dX4_move_45 (fun r1 w1 hp => ?_)
        obtain ⟨rfl, rfl⟩ := hp
        refine g_callvVF C 0 rfl rfl (c_X4_lands E m b (xKee μ) (j) (by omega) _ _ (by have := hm hb_2 hb_9; rwa [hcl] at this)) cf_X4_lands gX4_move_X4_lands rfl (fitD (Nat.le_of_ble_eq_true rfl) (Nat.le_of_ble_eq_true rfl)) rfl rfl (Nat.le_of_ble_eq_true rfl) dX4_move_48 (fun w1 hp => ?_)
        obtain rfl := hp
        refine g_aload_n C dX4_move_51 rfl rfl ?_
        refine g_aload_n C dX4_move_52 rfl rfl ?_
        refine g_iload_n C dX4_move_53 rfl rfl ?_
        refine g_calliVF C 0 rfl rfl (c_X4_heightOf E m b (xLands (xKee μ) (j) s (gHt (xKee μ) (j))) (j) (by omega)) cf_X4_heightOf gX4_move_X4_heightOf rfl (fitD (Nat.le_of_ble_eq_true rfl) (Nat.le_of_ble_eq_true rfl)) rfl rfl (Nat.le_of_ble_eq_true rfl) dX4_move_54 (fun r1 w1 hp => ?_)
        obtain ⟨rfl, rfl⟩ := hp
        refine g_calliVF C 0 rfl rfl (c_X4_acted E m b (xLands (xKee μ) (j) s (gHt (xKee μ) (j))) nh hnh hHL _) cf_X4_acted gX4_move_X4_acted rfl (fitD (Nat.le_of_ble_eq_true rfl) (Nat.le_of_ble_eq_true rfl)) rfl rfl (Nat.le_of_ble_eq_true rfl) dX4_move_57 (fun r1 w1 hp => ?_)
        obtain ⟨rfl, rfl⟩ := hp
        refine g_iret C R0 dX4_move_60 ?_
        refine pM_mk (μ := (xAct (xLands (xKee μ) (j) s (gHt (xKee μ) (j))) nh)) ?_ rfl
        rw [moveM, if_pos ⟨hb_2, hb_9⟩, hcl, if_neg hc_29] <;> rfl
      · refine g_sipush C (v := (-10005)) dX4_move_32 rfl ?_
        refine g_iret C R0 dX4_move_35 ?_
        refine pM_mk (μ := μ) ?_ rfl
        rw [moveM, if_pos ⟨hb_2, hb_9⟩, hcl, if_pos hc_29] <;> rfl
    · refine g_if_ne_f C dX4_move_12 19 (by decide) (by decide) ?_
      refine g_sipush C (v := (-10001)) dX4_move_15 rfl ?_
      refine g_iret C R0 dX4_move_18 ?_
      refine pM_mk (μ := μ) ?_ rfl
      rw [moveM, if_neg (fun z => hb_9 z.2)] <;> rfl
  · refine g_if_eq_t C dX4_move_5 (tgt := 15) (by decide) (by decide) ?_
    refine g_sipush C (v := (-10001)) dX4_move_15 rfl ?_
    refine g_iret C R0 dX4_move_18 ?_
    refine pM_mk (μ := μ) ?_ rfl
    rw [moveM, if_neg (fun z => hb_2 z.1)] <;> rfl
set_option maxHeartbeats 4000000 in
set_option maxRecDepth 100000 in
theorem c_X4_beat (E : Ev) (m : Nat) (b : Nat → Nat) (μ : MD) (nh : Nat) (hnh : nh ≤ 4) (hHL : mHL μ = nI nh) (n : Int32) (hb : 1 ≤ n ∧ n ≤ 100 → hBt (mAl μ) n.toNatClampNeg) : MI E yX4_beat wsX4_beat (rmD 4) (modW E m b μ) [.ref m, .int n] (pM E m b (beatM μ nh n)) := by
  have k116 : Cond.constantLong RX4 116 (100) ∈ wsX4_beat := by decide +kernel
  have inX4 : ∀ w ∈ u_ws RX4 TX4 16, w ∈ wsX4_beat := by decide +kernel
  have f7 : Cond.fieldLink RX4 7 (TX4 0).1 (TX4 0).2.1 (TX4 0).2.2.1 ∈ wsX4_beat := by decide +kernel
  refine MI.of (cc := cX4_beat) (nL := 2) (ty := .int) (own := RX4) [some (.ref m), some (.int n)] (by decide +kernel) rfl rfl (Nat.le_of_ble_eq_true rfl) rfl rfl ?_
  intro x C R0
  refine g_iload_n C dX4_beat_0 rfl rfl ?_
  refine g_i2l C dX4_beat_1 ?_
  refine g_lconst C (v := 1) dX4_beat_2 rfl ?_
  refine g_ldc2 C k116 dX4_beat_3 ?_
  refine g_calliSF C (c_X4_in E _ _ _ _) cf_X4_in gX4_beat_X4_in rfl (fitD (Nat.le_of_ble_eq_true rfl) (Nat.le_of_ble_eq_true rfl)) rfl rfl (Nat.le_of_ble_eq_true rfl) dX4_beat_6 (fun r1 w1 hp => ?_)
  obtain ⟨⟨hb_6, rfl⟩ | ⟨hb_6, rfl⟩, rfl⟩ := hp
  · have hz : 1 ≤ n ∧ n ≤ 100 := ⟨(i64_lo (s := n) (c := 1) (d := 1) (by decide)).mp hb_6.1, (i64_hi (s := n) (c := 100) (d := 100) (by decide)).mp hb_6.2⟩
    obtain ⟨t, ht, rfl⟩ := i32_of (n := 101) (k := n) (i32_le0 hz.1) (i32_lt_101 hz.2) (by decide)
    have hcl : (nI t).toNatClampNeg = t := nI_clamp (by omega)
    have hbt := hb hz
    rw [hcl] at hbt
    refine g_if_ne_t C dX4_beat_9 (tgt := 16) (by decide) (by decide) ?_
    refine g_aload_n C dX4_beat_16 rfl rfl ?_
    refine g_callvVF C 0 rfl rfl (c_X4_remember E m b μ) cf_X4_remember gX4_beat_X4_remember rfl (fitD (Nat.le_of_ble_eq_true rfl) (Nat.le_of_ble_eq_true rfl)) rfl rfl (Nat.le_of_ble_eq_true rfl) dX4_beat_17 (fun w1 hp => ?_)
    obtain rfl := hp
    refine g_aload_n C dX4_beat_20 rfl rfl ?_
    refine g_iload_n C dX4_beat_21 rfl rfl ?_
    refine g_callvVF C 0 rfl rfl (c_X4_beats E m b (xKee μ) (t) (by omega) hbt) cf_X4_beats gX4_beat_X4_beats rfl (fitD (Nat.le_of_ble_eq_true rfl) (Nat.le_of_ble_eq_true rfl)) rfl rfl (Nat.le_of_ble_eq_true rfl) dX4_beat_22 (fun w1 hp => ?_)
    obtain rfl := hp
    refine g_aload_n C dX4_beat_25 rfl rfl ?_
    refine g_aload_n C dX4_beat_26 rfl rfl ?_
    refine g_get C inX4 0 rfl rfl 0 (by decide) f7 rfl dX4_beat_27 ?_
    refine g_iconst C (v := 2) dX4_beat_30 rfl ?_
    refine g_ialdE C 1 rfl 2 (v := (gBe (xBeatN (xKee μ) (t)))) rfl (by decide) (Nat.le_of_ble_eq_true rfl) pk_Be dX4_beat_31 ?_
    refine g_calliVF C 0 rfl rfl (c_X4_acted E m b (xBeatN (xKee μ) (t)) nh hnh hHL _) cf_X4_acted gX4_beat_X4_acted rfl (fitD (Nat.le_of_ble_eq_true rfl) (Nat.le_of_ble_eq_true rfl)) rfl rfl (Nat.le_of_ble_eq_true rfl) dX4_beat_32 (fun r1 w1 hp => ?_)
    obtain ⟨rfl, rfl⟩ := hp
    refine g_iret C R0 dX4_beat_35 ?_
    refine pM_mk (μ := (xAct (xBeatN (xKee μ) (t)) nh)) ?_ rfl
    rw [beatM, if_pos hz, hcl] <;> rfl
  · refine g_if_ne_f C dX4_beat_9 16 (by decide) (by decide) ?_
    refine g_sipush C (v := (-10002)) dX4_beat_12 rfl ?_
    refine g_iret C R0 dX4_beat_15 ?_
    refine pM_mk (μ := μ) ?_ rfl
    rw [beatM, if_neg (fun z => hb_6 ⟨(i64_lo (s := n) (c := 1) (d := 1) (by decide)).mpr z.1, (i64_hi (s := n) (c := 100) (d := 100) (by decide)).mpr z.2⟩)] <;> rfl
set_option maxHeartbeats 4000000 in
set_option maxRecDepth 100000 in
theorem c_X4_wind (E : Ev) (m : Nat) (b : Nat → Nat) (μ : MD) (nh : Nat) (hnh : nh ≤ 4) (hHL : mHL μ = nI nh) (k w : Int32) : MI E yX4_wind wsX4_wind (rmD 2) (modW E m b μ) [.ref m, .int k, .int w] (pM E m b (windM μ nh k w)) := by
  have k126 : Cond.constantLong RX4 126 (9) ∈ wsX4_wind := by decide +kernel
  have inX4 : ∀ w ∈ u_ws RX4 TX4 16, w ∈ wsX4_wind := by decide +kernel
  have f7 : Cond.fieldLink RX4 7 (TX4 0).1 (TX4 0).2.1 (TX4 0).2.2.1 ∈ wsX4_wind := by decide +kernel
  refine MI.of (cc := cX4_wind) (nL := 4) (ty := .int) (own := RX4) [some (.ref m), some (.int k), some (.int w), none] (by decide +kernel) rfl rfl (Nat.le_of_ble_eq_true rfl) rfl rfl ?_
  intro x C R0
  refine g_iload_n C dX4_wind_0 rfl rfl ?_
  refine g_calliSF C (c_X4_isBeat E _ _) cf_X4_isBeat gX4_wind_X4_isBeat rfl (fitD (Nat.le_of_ble_eq_true rfl) (Nat.le_of_ble_eq_true rfl)) rfl rfl (Nat.le_of_ble_eq_true rfl) dX4_wind_1 (fun r1 w1 hp => ?_)
  obtain ⟨⟨hb_1, rfl⟩ | ⟨hb_1, rfl⟩, rfl⟩ := hp
  · obtain ⟨j, hj, rfl⟩ := i32_of (n := 8) hb_1.1 hb_1.2 (by decide)
    have hcl : (nI j).toNatClampNeg = j := nI_clamp (by omega)
    refine g_if_ne_t C dX4_wind_4 (tgt := 11) (by decide) (by decide) ?_
    refine g_iload_n C dX4_wind_11 rfl rfl ?_
    refine g_i2l C dX4_wind_12 ?_
    refine g_lconst C (v := 0) dX4_wind_13 rfl ?_
    refine g_ldc2 C k126 dX4_wind_14 ?_
    refine g_calliSF C (c_X4_in E _ _ _ _) cf_X4_in gX4_wind_X4_in rfl (fitD (Nat.le_of_ble_eq_true rfl) (Nat.le_of_ble_eq_true rfl)) rfl rfl (Nat.le_of_ble_eq_true rfl) dX4_wind_17 (fun r1 w1 hp => ?_)
    obtain ⟨⟨hb_17, rfl⟩ | ⟨hb_17, rfl⟩, rfl⟩ := hp
    · refine g_if_ne_t C dX4_wind_20 (tgt := 27) (by decide) (by decide) ?_
      refine g_aload_n C dX4_wind_27 rfl rfl ?_
      refine g_get C inX4 0 rfl rfl 0 (by decide) f7 rfl dX4_wind_28 ?_
      refine g_bipush C (v := 6) dX4_wind_31 rfl ?_
      refine g_iload_n C dX4_wind_33 rfl rfl ?_
      refine g_iadd C dX4_wind_34 ?_
      refine g_ialdE C 1 rfl (6 + j) (v := (gWi μ (j))) (nI_add 6 (j)) (by omega) (Nat.le_of_ble_eq_true rfl) (pk_Wi (by omega)) dX4_wind_35 ?_
      refine g_istore_n C dX4_wind_36 rfl (Nat.le_of_ble_eq_true rfl) rfl ?_
      refine g_iload_n C dX4_wind_37 rfl rfl ?_
      refine g_iload_n C dX4_wind_38 rfl rfl ?_
      refine g_icmp_ne C (tgt := 46) dX4_wind_39 (by decide) (fun hc_39 => ?_) (fun hc_39 => ?_)
      · refine g_aload_n C dX4_wind_46 rfl rfl ?_
        refine g_callvVF C 0 rfl rfl (c_X4_remember E m b μ) cf_X4_remember gX4_wind_X4_remember rfl (fitD (Nat.le_of_ble_eq_true rfl) (Nat.le_of_ble_eq_true rfl)) rfl rfl (Nat.le_of_ble_eq_true rfl) dX4_wind_47 (fun w1 hp => ?_)
        obtain rfl := hp
        refine g_aload_n C dX4_wind_50 rfl rfl ?_
        refine g_get C inX4 0 rfl rfl 0 (by decide) f7 rfl dX4_wind_51 ?_
        refine g_bipush C (v := 6) dX4_wind_54 rfl ?_
        refine g_iload_n C dX4_wind_56 rfl rfl ?_
        refine g_iadd C dX4_wind_57 ?_
        refine g_iload_n C dX4_wind_58 rfl rfl ?_
        refine g_iast C (ws' := (modW E m b (xWi (xKee μ) (j) w))) 1 rfl (6 + j) (nI_add 6 (j)) (by omega) (Nat.le_of_ble_eq_true rfl) dX4_wind_59 (by rw [up_Wi (by omega)]; rfl) ?_
        refine g_aload_n C dX4_wind_60 rfl rfl ?_
        refine g_iload_n C dX4_wind_61 rfl rfl ?_
        refine g_calliVF C 0 rfl rfl (c_X4_acted E m b (xWi (xKee μ) (j) w) nh hnh hHL _) cf_X4_acted gX4_wind_X4_acted rfl (fitD (Nat.le_of_ble_eq_true rfl) (Nat.le_of_ble_eq_true rfl)) rfl rfl (Nat.le_of_ble_eq_true rfl) dX4_wind_62 (fun r1 w1 hp => ?_)
        obtain ⟨rfl, rfl⟩ := hp
        refine g_iret C R0 dX4_wind_65 ?_
        refine pM_mk (μ := (xAct (xWi (xKee μ) (j) w) nh)) ?_ rfl
        rw [windM, if_pos hb_1, if_pos ⟨(i64_lo (s := w) (c := 0) (d := 0) (by decide)).mp hb_17.1, (i64_hi (s := w) (c := 9) (d := 9) (by decide)).mp hb_17.2⟩, hcl, if_neg hc_39] <;> rfl
      · refine g_sipush C (v := (-10005)) dX4_wind_42 rfl ?_
        refine g_iret C R0 dX4_wind_45 ?_
        refine pM_mk (μ := μ) ?_ rfl
        rw [windM, if_pos hb_1, if_pos ⟨(i64_lo (s := w) (c := 0) (d := 0) (by decide)).mp hb_17.1, (i64_hi (s := w) (c := 9) (d := 9) (by decide)).mp hb_17.2⟩, hcl, if_pos hc_39] <;> rfl
    · refine g_if_ne_f C dX4_wind_20 27 (by decide) (by decide) ?_
      refine g_sipush C (v := (-10002)) dX4_wind_23 rfl ?_
      refine g_iret C R0 dX4_wind_26 ?_
      refine pM_mk (μ := μ) ?_ rfl
      rw [windM, if_pos hb_1, if_neg (fun z => hb_17 ⟨(i64_lo (s := w) (c := 0) (d := 0) (by decide)).mpr z.1, (i64_hi (s := w) (c := 9) (d := 9) (by decide)).mpr z.2⟩)] <;> rfl
  · refine g_if_ne_f C dX4_wind_4 11 (by decide) (by decide) ?_
    refine g_sipush C (v := (-10001)) dX4_wind_7 rfl ?_
    refine g_iret C R0 dX4_wind_10 ?_
    refine pM_mk (μ := μ) ?_ rfl
    rw [windM, if_neg hb_1] <;> rfl
set_option maxHeartbeats 4000000 in
set_option maxRecDepth 100000 in
theorem c_X4_set (E : Ev) (m : Nat) (b : Nat → Nat) (μ : MD) (nh : Nat) (hnh : nh ≤ 4) (hHL : mHL μ = nI nh) (k v : Int32) : MI E yX4_set wsX4_set (rmD 2) (modW E m b μ) [.ref m, .int k, .int v] (pM E m b (setM μ nh k v)) := by
  have k128 : Cond.constantLong RX4 128 (5) ∈ wsX4_set := by decide +kernel
  have k130 : Cond.constantLong RX4 130 (80) ∈ wsX4_set := by decide +kernel
  have inX4 : ∀ w ∈ u_ws RX4 TX4 16, w ∈ wsX4_set := by decide +kernel
  have f7 : Cond.fieldLink RX4 7 (TX4 0).1 (TX4 0).2.1 (TX4 0).2.2.1 ∈ wsX4_set := by decide +kernel
  have k126 : Cond.constantLong RX4 126 (9) ∈ wsX4_set := by decide +kernel
  refine MI.of (cc := cX4_set) (nL := 4) (ty := .int) (own := RX4) [some (.ref m), some (.int k), some (.int v), none] (by decide +kernel) rfl rfl (Nat.le_of_ble_eq_true rfl) rfl rfl ?_
  intro x C R0
  refine g_iload_n C dX4_set_0 rfl rfl ?_
  refine g_i2l C dX4_set_1 ?_
  refine g_lconst C (v := 0) dX4_set_2 rfl ?_
  refine g_lconst C (v := 1) dX4_set_3 rfl ?_
  refine g_calliSF C (c_X4_in E _ _ _ _) cf_X4_in gX4_set_X4_in rfl (fitD (Nat.le_of_ble_eq_true rfl) (Nat.le_of_ble_eq_true rfl)) rfl rfl (Nat.le_of_ble_eq_true rfl) dX4_set_4 (fun r1 w1 hp => ?_)
  obtain ⟨⟨hb_4, rfl⟩ | ⟨hb_4, rfl⟩, rfl⟩ := hp
  · have hz0 : 0 ≤ k := (i64_lo (s := k) (c := 0) (d := 0) (by decide)).mp hb_4.1
    have hz1 : k ≤ 1 := (i64_hi (s := k) (c := 1) (d := 1) (by decide)).mp hb_4.2
    have hk2 : k = 0 ∨ k = 1 := by
      rw [Int32.le_iff_toInt_le] at hz0 hz1
      have e0 : (0 : Int32).toInt = 0 := by decide
      have e1 : (1 : Int32).toInt = 1 := by decide
      rw [← Int32.toInt_inj, ← Int32.toInt_inj]
      omega
    rcases hk2 with rfl | rfl
    · refine g_if_ne_t C dX4_set_7 (tgt := 14) (by decide) (by decide) ?_
      refine g_iload_n C dX4_set_14 rfl rfl ?_
      refine g_if_ne_f C dX4_set_15 35 (by decide) (by decide) ?_
      refine g_iload_n C dX4_set_18 rfl rfl ?_
      refine g_i2l C dX4_set_19 ?_
      refine g_ldc2 C k128 dX4_set_20 ?_
      refine g_ldc2 C k130 dX4_set_23 ?_
      refine g_calliSF C (c_X4_in E _ _ _ _) cf_X4_in gX4_set_X4_in rfl (fitD (Nat.le_of_ble_eq_true rfl) (Nat.le_of_ble_eq_true rfl)) rfl rfl (Nat.le_of_ble_eq_true rfl) dX4_set_26 (fun r1 w1 hp => ?_)
      obtain ⟨⟨hb_26, rfl⟩ | ⟨hb_26, rfl⟩, rfl⟩ := hp
      · refine g_if_ne_t C dX4_set_29 (tgt := 51) (by decide) (by decide) ?_
        refine g_aload_n C dX4_set_51 rfl rfl ?_
        refine g_get C inX4 0 rfl rfl 0 (by decide) f7 rfl dX4_set_52 ?_
        refine g_iload_n C dX4_set_55 rfl rfl ?_
        refine g_ialdE C 1 rfl 0 (v := (gCh μ)) rfl (by decide) (Nat.le_of_ble_eq_true rfl) pk_Ch dX4_set_56 ?_
        refine g_istore_n C dX4_set_57 rfl (Nat.le_of_ble_eq_true rfl) rfl ?_
        refine g_iload_n C dX4_set_58 rfl rfl ?_
        refine g_iload_n C dX4_set_59 rfl rfl ?_
        refine g_icmp_ne C (tgt := 67) dX4_set_60 (by decide) (fun hc_60 => ?_) (fun hc_60 => ?_)
        · refine g_aload_n C dX4_set_67 rfl rfl ?_
          refine g_callvVF C 0 rfl rfl (c_X4_remember E m b μ) cf_X4_remember gX4_set_X4_remember rfl (fitD (Nat.le_of_ble_eq_true rfl) (Nat.le_of_ble_eq_true rfl)) rfl rfl (Nat.le_of_ble_eq_true rfl) dX4_set_68 (fun w1 hp => ?_)
          obtain rfl := hp
          refine g_aload_n C dX4_set_71 rfl rfl ?_
          refine g_get C inX4 0 rfl rfl 0 (by decide) f7 rfl dX4_set_72 ?_
          refine g_iload_n C dX4_set_75 rfl rfl ?_
          refine g_iload_n C dX4_set_76 rfl rfl ?_
          refine g_iast C (ws' := (modW E m b (xCh (xKee μ) v))) 1 rfl 0 rfl (by decide) (Nat.le_of_ble_eq_true rfl) dX4_set_77 (by rw [up_Ch]; rfl) ?_
          refine g_aload_n C dX4_set_78 rfl rfl ?_
          refine g_iload_n C dX4_set_79 rfl rfl ?_
          refine g_calliVF C 0 rfl rfl (c_X4_acted E m b (xCh (xKee μ) v) nh hnh hHL _) cf_X4_acted gX4_set_X4_acted rfl (fitD (Nat.le_of_ble_eq_true rfl) (Nat.le_of_ble_eq_true rfl)) rfl rfl (Nat.le_of_ble_eq_true rfl) dX4_set_80 (fun r1 w1 hp => ?_)
          obtain ⟨rfl, rfl⟩ := hp
          refine g_iret C R0 dX4_set_83 ?_
          refine pM_mk (μ := (xAct (xCh (xKee μ) v) nh)) ?_ rfl
          rw [setM, if_pos rfl, if_pos ⟨(i64_lo (s := v) (c := 5) (d := 5) (by decide)).mp hb_26.1, (i64_hi (s := v) (c := 80) (d := 80) (by decide)).mp hb_26.2⟩, if_neg hc_60] <;> rfl
        · refine g_sipush C (v := (-10005)) dX4_set_63 rfl ?_
          refine g_iret C R0 dX4_set_66 ?_
          refine pM_mk (μ := μ) ?_ rfl
          rw [setM, if_pos rfl, if_pos ⟨(i64_lo (s := v) (c := 5) (d := 5) (by decide)).mp hb_26.1, (i64_hi (s := v) (c := 80) (d := 80) (by decide)).mp hb_26.2⟩, if_pos hc_60] <;> rfl
      · refine g_if_ne_f C dX4_set_29 51 (by decide) (by decide) ?_
        refine g_goto C (tgt := 47) dX4_set_32 (by decide) ?_
        refine g_sipush C (v := (-10002)) dX4_set_47 rfl ?_
        refine g_iret C R0 dX4_set_50 ?_
        refine pM_mk (μ := μ) ?_ rfl
        rw [setM, if_pos rfl, if_neg (fun z => hb_26 ⟨(i64_lo (s := v) (c := 5) (d := 5) (by decide)).mpr z.1, (i64_hi (s := v) (c := 80) (d := 80) (by decide)).mpr z.2⟩)] <;> rfl
    · refine g_if_ne_t C dX4_set_7 (tgt := 14) (by decide) (by decide) ?_
      refine g_iload_n C dX4_set_14 rfl rfl ?_
      refine g_if_ne_t C dX4_set_15 (tgt := 35) (by decide) (by decide) ?_
      refine g_iload_n C dX4_set_35 rfl rfl ?_
      refine g_i2l C dX4_set_36 ?_
      refine g_lconst C (v := 0) dX4_set_37 rfl ?_
      refine g_ldc2 C k126 dX4_set_38 ?_
      refine g_calliSF C (c_X4_in E _ _ _ _) cf_X4_in gX4_set_X4_in rfl (fitD (Nat.le_of_ble_eq_true rfl) (Nat.le_of_ble_eq_true rfl)) rfl rfl (Nat.le_of_ble_eq_true rfl) dX4_set_41 (fun r1 w1 hp => ?_)
      obtain ⟨⟨hb_41, rfl⟩ | ⟨hb_41, rfl⟩, rfl⟩ := hp
      · refine g_if_ne_t C dX4_set_44 (tgt := 51) (by decide) (by decide) ?_
        refine g_aload_n C dX4_set_51 rfl rfl ?_
        refine g_get C inX4 0 rfl rfl 0 (by decide) f7 rfl dX4_set_52 ?_
        refine g_iload_n C dX4_set_55 rfl rfl ?_
        refine g_ialdE C 1 rfl 1 (v := (gSi μ)) rfl (by decide) (Nat.le_of_ble_eq_true rfl) pk_Si dX4_set_56 ?_
        refine g_istore_n C dX4_set_57 rfl (Nat.le_of_ble_eq_true rfl) rfl ?_
        refine g_iload_n C dX4_set_58 rfl rfl ?_
        refine g_iload_n C dX4_set_59 rfl rfl ?_
        refine g_icmp_ne C (tgt := 67) dX4_set_60 (by decide) (fun hc_60 => ?_) (fun hc_60 => ?_)
        · refine g_aload_n C dX4_set_67 rfl rfl ?_
          refine g_callvVF C 0 rfl rfl (c_X4_remember E m b μ) cf_X4_remember gX4_set_X4_remember rfl (fitD (Nat.le_of_ble_eq_true rfl) (Nat.le_of_ble_eq_true rfl)) rfl rfl (Nat.le_of_ble_eq_true rfl) dX4_set_68 (fun w1 hp => ?_)
          obtain rfl := hp
          refine g_aload_n C dX4_set_71 rfl rfl ?_
          refine g_get C inX4 0 rfl rfl 0 (by decide) f7 rfl dX4_set_72 ?_
          refine g_iload_n C dX4_set_75 rfl rfl ?_
          refine g_iload_n C dX4_set_76 rfl rfl ?_
          refine g_iast C (ws' := (modW E m b (xSi (xKee μ) v))) 1 rfl 1 rfl (by decide) (Nat.le_of_ble_eq_true rfl) dX4_set_77 (by rw [up_Si]; rfl) ?_
          refine g_aload_n C dX4_set_78 rfl rfl ?_
          refine g_iload_n C dX4_set_79 rfl rfl ?_
          refine g_calliVF C 0 rfl rfl (c_X4_acted E m b (xSi (xKee μ) v) nh hnh hHL _) cf_X4_acted gX4_set_X4_acted rfl (fitD (Nat.le_of_ble_eq_true rfl) (Nat.le_of_ble_eq_true rfl)) rfl rfl (Nat.le_of_ble_eq_true rfl) dX4_set_80 (fun r1 w1 hp => ?_)
          obtain ⟨rfl, rfl⟩ := hp
          refine g_iret C R0 dX4_set_83 ?_
          refine pM_mk (μ := (xAct (xSi (xKee μ) v) nh)) ?_ rfl
          rw [setM, if_neg (by decide), if_pos rfl, if_pos ⟨(i64_lo (s := v) (c := 0) (d := 0) (by decide)).mp hb_41.1, (i64_hi (s := v) (c := 9) (d := 9) (by decide)).mp hb_41.2⟩, if_neg hc_60] <;> rfl
        · refine g_sipush C (v := (-10005)) dX4_set_63 rfl ?_
          refine g_iret C R0 dX4_set_66 ?_
          refine pM_mk (μ := μ) ?_ rfl
          rw [setM, if_neg (by decide), if_pos rfl, if_pos ⟨(i64_lo (s := v) (c := 0) (d := 0) (by decide)).mp hb_41.1, (i64_hi (s := v) (c := 9) (d := 9) (by decide)).mp hb_41.2⟩, if_pos hc_60] <;> rfl
      · refine g_if_ne_f C dX4_set_44 51 (by decide) (by decide) ?_
        refine g_sipush C (v := (-10002)) dX4_set_47 rfl ?_
        refine g_iret C R0 dX4_set_50 ?_
        refine pM_mk (μ := μ) ?_ rfl
        rw [setM, if_neg (by decide), if_pos rfl, if_neg (fun z => hb_41 ⟨(i64_lo (s := v) (c := 0) (d := 0) (by decide)).mpr z.1, (i64_hi (s := v) (c := 9) (d := 9) (by decide)).mpr z.2⟩)] <;> rfl
  · refine g_if_ne_f C dX4_set_7 14 (by decide) (by decide) ?_
    refine g_sipush C (v := (-10001)) dX4_set_10 rfl ?_
    refine g_iret C R0 dX4_set_13 ?_
    refine pM_mk (μ := μ) ?_ rfl
    rw [setM, if_neg (fun z => hb_4 ⟨by rw [z]; decide, by rw [z]; decide⟩), if_neg (fun z => hb_4 ⟨by rw [z]; decide, by rw [z]; decide⟩)]
set_option maxHeartbeats 4000000 in
set_option maxRecDepth 100000 in
theorem c_X4_type (E : Ev) (m : Nat) (b : Nat → Nat) (μ : MD) (tl : Nat) (htl : tl ≤ 80) (hTL : mTL μ = nI tl) (c : Int32) : MI E yX4_type wsX4_type (rmD 0) (modW E m b μ) [.ref m, .int c] (pM E m b (typeM μ tl c)) := by
  have inX4 : ∀ w ∈ u_ws RX4 TX4 16, w ∈ wsX4_type := by decide +kernel
  have f132 : Cond.fieldLink RX4 132 (TX4 10).1 (TX4 10).2.1 (TX4 10).2.2.1 ∈ wsX4_type := by decide +kernel
  have f32 : Cond.fieldLink RX4 32 (TX4 9).1 (TX4 9).2.1 (TX4 9).2.2.1 ∈ wsX4_type := by decide +kernel
  refine MI.of (cc := cX4_type) (nL := 2) (ty := .int) (own := RX4) [some (.ref m), some (.int c)] (by decide +kernel) rfl rfl (Nat.le_of_ble_eq_true rfl) rfl rfl ?_
  intro x C R0
  refine g_aload_n C dX4_type_0 rfl rfl ?_
  refine g_get C inX4 0 rfl rfl 10 (by decide) f132 rfl dX4_type_1 ?_
  refine g_bipush C (v := 80) dX4_type_4 rfl ?_
  refine g_icmp_ne C (tgt := 13) dX4_type_6 (by decide) (fun hc_6 => ?_) (fun hc_6 => ?_)
  · have hne : tl ≠ 80 := fun z => hc_6 (by rw [hTL, z]; rfl)
    refine g_aload_n C dX4_type_13 rfl rfl ?_
    refine g_get C inX4 0 rfl rfl 9 (by decide) f32 rfl dX4_type_14 ?_
    refine g_aload_n C dX4_type_17 rfl rfl ?_
    refine g_get C inX4 0 rfl rfl 10 (by decide) f132 rfl dX4_type_18 ?_
    refine g_iload_n C dX4_type_21 rfl rfl ?_
    refine g_iast C (ws' := (modW E m b (wTx μ (upd (mTx μ) (tl) c)))) 6 rfl (tl) hTL (by omega) (Nat.le_of_ble_eq_true rfl) dX4_type_22 rfl ?_
    refine g_aload_n C dX4_type_23 rfl rfl ?_
    refine g_dup C dX4_type_24 rfl ?_
    refine g_get C inX4 0 rfl rfl 10 (by decide) f132 rfl dX4_type_25 ?_
    refine g_iconst C (v := 1) dX4_type_28 rfl ?_
    refine g_iadd C dX4_type_29 ?_
    rw [show ((mTL (wTx μ (upd (mTx μ) (tl) c))) + 1) = nI (tl + 1) from (show mTL μ + 1 = nI (tl + 1) from by rw [hTL]; exact nI_add tl 1)]
    refine g_put C (ws' := (modW E m b (wTL (wTx μ (upd (mTx μ) (tl) c)) (nI (tl + 1))))) inX4 (ty := .int) tyX4 tyX4_ok nmX4 0 rfl rfl 10 (by decide) f132 rfl (by decide +kernel) rfl rfl (Nat.le_of_ble_eq_true rfl) dX4_type_30 rfl ?_
    refine g_aload_n C dX4_type_33 rfl rfl ?_
    refine g_get C inX4 0 rfl rfl 10 (by decide) f132 rfl dX4_type_34 ?_
    refine g_iret C R0 dX4_type_37 ?_
    refine pM_mk (μ := (wTL (wTx μ (upd (mTx μ) (tl) c)) (nI (tl + 1)))) ?_ rfl
    rw [typeM, if_neg (by omega)] <;> rfl
  · refine g_sipush C (v := (-10003)) dX4_type_9 rfl ?_
    refine g_iret C R0 dX4_type_12 ?_
    refine pM_mk (μ := μ) ?_ rfl
    rw [typeM, if_pos ((nI_eq (a := tl) (b := 80) (by omega) (by omega)).mp (hTL.symm.trans hc_6))]
set_option maxHeartbeats 4000000 in
set_option maxRecDepth 100000 in
theorem c_X4_clearText (E : Ev) (m : Nat) (b : Nat → Nat) (μ : MD) : MI E yX4_clearText wsX4_clearText (rmD 0) (modW E m b μ) [.ref m] (pM E m b (mTL μ, wTL μ 0)) := by
  have inX4 : ∀ w ∈ u_ws RX4 TX4 16, w ∈ wsX4_clearText := by decide +kernel
  have f132 : Cond.fieldLink RX4 132 (TX4 10).1 (TX4 10).2.1 (TX4 10).2.2.1 ∈ wsX4_clearText := by decide +kernel
  refine MI.of (cc := cX4_clearText) (nL := 2) (ty := .int) (own := RX4) [some (.ref m), none] (by decide +kernel) rfl rfl (Nat.le_of_ble_eq_true rfl) rfl rfl ?_
  intro x C R0
  refine g_aload_n C dX4_clearText_0 rfl rfl ?_
  refine g_get C inX4 0 rfl rfl 10 (by decide) f132 rfl dX4_clearText_1 ?_
  refine g_istore_n C dX4_clearText_4 rfl (Nat.le_of_ble_eq_true rfl) rfl ?_
  refine g_aload_n C dX4_clearText_5 rfl rfl ?_
  refine g_iconst C (v := 0) dX4_clearText_6 rfl ?_
  refine g_put C (ws' := (modW E m b (wTL μ 0))) inX4 (ty := .int) tyX4 tyX4_ok nmX4 0 rfl rfl 10 (by decide) f132 rfl (by decide +kernel) rfl rfl (Nat.le_of_ble_eq_true rfl) dX4_clearText_7 rfl ?_
  refine g_iload_n C dX4_clearText_10 rfl rfl ?_
  refine g_iret C R0 dX4_clearText_11 ?_
  exact ⟨rfl, rfl⟩
set_option maxHeartbeats 4000000 in
set_option maxRecDepth 100000 in
theorem c_X4_stopped (E : Ev) (m : Nat) (b : Nat → Nat) (μ : MD) (w : Int32) : MI E yX4_stopped wsX4_stopped (rmD 0) (modW E m b μ) [.ref m, .int w] (pE (stopM μ w) (modW E m b μ)) := by
  have inX4 : ∀ w ∈ u_ws RX4 TX4 16, w ∈ wsX4_stopped := by decide +kernel
  have f29 : Cond.fieldLink RX4 29 (TX4 8).1 (TX4 8).2.1 (TX4 8).2.2.1 ∈ wsX4_stopped := by decide +kernel
  have f25 : Cond.fieldLink RX4 25 (TX4 7).1 (TX4 7).2.1 (TX4 7).2.2.1 ∈ wsX4_stopped := by decide +kernel
  refine MI.of (cc := cX4_stopped) (nL := 2) (ty := .int) (own := RX4) [some (.ref m), some (.int w)] (by decide +kernel) rfl rfl (Nat.le_of_ble_eq_true rfl) rfl rfl ?_
  intro x C R0
  refine g_iload_n C dX4_stopped_0 rfl rfl ?_
  refine g_if_ne C (tgt := 11) dX4_stopped_1 (by decide) (fun hc_1 => ?_) (fun hc_1 => ?_)
  · refine g_iload_n C dX4_stopped_11 rfl rfl ?_
    refine g_iconst C (v := 1) dX4_stopped_12 rfl ?_
    refine g_icmp_ne C (tgt := 23) dX4_stopped_13 (by decide) (fun hc_13 => ?_) (fun hc_13 => ?_)
    · refine g_sipush C (v := (-10002)) dX4_stopped_23 rfl ?_
      refine g_iret C R0 dX4_stopped_26 ?_
      refine pE_mk ?_ rfl
      rw [stopM, if_neg hc_1, if_neg hc_13]
    · refine g_aload_n C dX4_stopped_16 rfl rfl ?_
      refine g_get C inX4 0 rfl rfl 8 (by decide) f29 rfl dX4_stopped_17 ?_
      refine g_goto C (tgt := 26) dX4_stopped_20 (by decide) ?_
      refine g_iret C R0 dX4_stopped_26 ?_
      refine pE_mk ?_ rfl
      rw [stopM, if_neg hc_1, if_pos hc_13]
  · refine g_aload_n C dX4_stopped_4 rfl rfl ?_
    refine g_get C inX4 0 rfl rfl 7 (by decide) f25 rfl dX4_stopped_5 ?_
    refine g_goto C (tgt := 26) dX4_stopped_8 (by decide) ?_
    refine g_iret C R0 dX4_stopped_26 ?_
    refine pE_mk ?_ rfl
    rw [stopM, if_pos hc_1]
set_option maxHeartbeats 4000000 in
set_option maxRecDepth 100000 in
theorem c_X4_keep (E : Ev) (m : Nat) (b : Nat → Nat) (μ : MD) : MI E yX4_keep wsX4_keep (rmD 2) (modW E m b μ) [.ref m] (pM E m b (keepM μ)) := by
  have inX4 : ∀ w ∈ u_ws RX4 TX4 16, w ∈ wsX4_keep := by decide +kernel
  have f7 : Cond.fieldLink RX4 7 (TX4 0).1 (TX4 0).2.1 (TX4 0).2.2.1 ∈ wsX4_keep := by decide +kernel
  have f22 : Cond.fieldLink RX4 22 (TX4 5).1 (TX4 5).2.1 (TX4 5).2.2.1 ∈ wsX4_keep := by decide +kernel
  have f188 : Cond.fieldLink RX4 188 (TX4 6).1 (TX4 6).2.1 (TX4 6).2.2.1 ∈ wsX4_keep := by decide +kernel
  refine MI.of (cc := cX4_keep) (nL := 1) (ty := .int) (own := RX4) [some (.ref m)] (by decide +kernel) rfl rfl (Nat.le_of_ble_eq_true rfl) rfl rfl ?_
  intro x C R0
  refine g_aload_n C dX4_keep_0 rfl rfl ?_
  refine g_get C inX4 0 rfl rfl 0 (by decide) f7 rfl dX4_keep_1 ?_
  refine g_aload_n C dX4_keep_4 rfl rfl ?_
  refine g_get C inX4 0 rfl rfl 5 (by decide) f22 rfl dX4_keep_5 ?_
  refine g_callvSF C (c_X4_copy E _ 1 5 _ _ _ _ rfl rfl (by decide)) cf_X4_copy gX4_keep_X4_copy rfl (fitD (Nat.le_of_ble_eq_true rfl) (Nat.le_of_ble_eq_true rfl)) rfl rfl (Nat.le_of_ble_eq_true rfl) dX4_keep_8 (fun w1 hp => ?_)
  have hp : w1 = (modW E m b (wSn μ (mAl μ))) := hp
  subst hp
  refine g_aload_n C dX4_keep_11 rfl rfl ?_
  refine g_iconst C (v := 1) dX4_keep_12 rfl ?_
  refine g_put C (ws' := (modW E m b (wIT (wSn μ (mAl μ)) 1))) inX4 (ty := .int) tyX4 tyX4_ok nmX4 0 rfl rfl 6 (by decide) f188 rfl (by decide +kernel) rfl rfl (Nat.le_of_ble_eq_true rfl) dX4_keep_13 rfl ?_
  refine g_aload_n C dX4_keep_16 rfl rfl ?_
  refine g_calliVF C 0 rfl rfl (c_X4_many E m b (wIT (wSn μ (mAl μ)) 1)) cf_X4_many gX4_keep_X4_many rfl (fitD (Nat.le_of_ble_eq_true rfl) (Nat.le_of_ble_eq_true rfl)) rfl rfl (Nat.le_of_ble_eq_true rfl) dX4_keep_17 (fun r1 w1 hp => ?_)
  obtain ⟨rfl, rfl⟩ := hp
  refine g_iret C R0 dX4_keep_20 ?_
  exact ⟨rfl, rfl⟩
set_option maxHeartbeats 4000000 in
set_option maxRecDepth 100000 in
theorem c_X4_restore (E : Ev) (m : Nat) (b : Nat → Nat) (μ : MD) (nh : Nat) (hnh : nh ≤ 4) (hHL : mHL μ = nI nh) : MI E yX4_restore wsX4_restore (rmD 2) (modW E m b μ) [.ref m] (pM E m b (restM μ nh)) := by
  have inX4 : ∀ w ∈ u_ws RX4 TX4 16, w ∈ wsX4_restore := by decide +kernel
  have f188 : Cond.fieldLink RX4 188 (TX4 6).1 (TX4 6).2.1 (TX4 6).2.2.1 ∈ wsX4_restore := by decide +kernel
  have f22 : Cond.fieldLink RX4 22 (TX4 5).1 (TX4 5).2.1 (TX4 5).2.2.1 ∈ wsX4_restore := by decide +kernel
  have f7 : Cond.fieldLink RX4 7 (TX4 0).1 (TX4 0).2.1 (TX4 0).2.2.1 ∈ wsX4_restore := by decide +kernel
  refine MI.of (cc := cX4_restore) (nL := 1) (ty := .int) (own := RX4) [some (.ref m)] (by decide +kernel) rfl rfl (Nat.le_of_ble_eq_true rfl) rfl rfl ?_
  intro x C R0
  refine g_aload_n C dX4_restore_0 rfl rfl ?_
  refine g_get C inX4 0 rfl rfl 6 (by decide) f188 rfl dX4_restore_1 ?_
  refine g_if_ne C (tgt := 11) dX4_restore_4 (by decide) (fun hc_4 => ?_) (fun hc_4 => ?_)
  · refine g_aload_n C dX4_restore_11 rfl rfl ?_
    refine g_callvVF C 0 rfl rfl (c_X4_remember E m b μ) cf_X4_remember gX4_restore_X4_remember rfl (fitD (Nat.le_of_ble_eq_true rfl) (Nat.le_of_ble_eq_true rfl)) rfl rfl (Nat.le_of_ble_eq_true rfl) dX4_restore_12 (fun w1 hp => ?_)
    obtain rfl := hp
    refine g_aload_n C dX4_restore_15 rfl rfl ?_
    refine g_get C inX4 0 rfl rfl 5 (by decide) f22 rfl dX4_restore_16 ?_
    refine g_aload_n C dX4_restore_19 rfl rfl ?_
    refine g_get C inX4 0 rfl rfl 0 (by decide) f7 rfl dX4_restore_20 ?_
    refine g_callvSF C (c_X4_copy E _ 5 1 _ _ _ _ rfl rfl (by decide)) cf_X4_copy gX4_restore_X4_copy rfl (fitD (Nat.le_of_ble_eq_true rfl) (Nat.le_of_ble_eq_true rfl)) rfl rfl (Nat.le_of_ble_eq_true rfl) dX4_restore_23 (fun w1 hp => ?_)
    have hp : w1 = (modW E m b (wAl (xKee μ) (mSn (xKee μ)))) := hp
    subst hp
    refine g_aload_n C dX4_restore_26 rfl rfl ?_
    refine g_aload_n C dX4_restore_27 rfl rfl ?_
    refine g_calliVF C 0 rfl rfl (c_X4_many E m b (wAl (xKee μ) (mSn (xKee μ)))) cf_X4_many gX4_restore_X4_many rfl (fitD (Nat.le_of_ble_eq_true rfl) (Nat.le_of_ble_eq_true rfl)) rfl rfl (Nat.le_of_ble_eq_true rfl) dX4_restore_28 (fun r1 w1 hp => ?_)
    obtain ⟨rfl, rfl⟩ := hp
    refine g_calliVF C 0 rfl rfl (c_X4_acted E m b (wAl (xKee μ) (mSn (xKee μ))) nh hnh hHL _) cf_X4_acted gX4_restore_X4_acted rfl (fitD (Nat.le_of_ble_eq_true rfl) (Nat.le_of_ble_eq_true rfl)) rfl rfl (Nat.le_of_ble_eq_true rfl) dX4_restore_31 (fun r1 w1 hp => ?_)
    obtain ⟨rfl, rfl⟩ := hp
    refine g_iret C R0 dX4_restore_34 ?_
    refine pM_mk (μ := (xAct (wAl (xKee μ) (mSn (xKee μ))) nh)) ?_ rfl
    rw [restM, if_neg hc_4] <;> rfl
  · refine g_sipush C (v := (-10005)) dX4_restore_7 rfl ?_
    refine g_iret C R0 dX4_restore_10 ?_
    refine pM_mk (μ := μ) ?_ rfl
    rw [restM, if_pos hc_4] <;> rfl
def windOM (μ : MD) (k : Int32) : Int32 := if isB k then gWi μ k.toNatClampNeg else -10001
set_option maxHeartbeats 4000000 in
set_option maxRecDepth 100000 in
theorem c_X4_windOf (E : Ev) (m : Nat) (b : Nat → Nat) (μ : MD) (k : Int32) : MI E yX4_windOf wsX4_windOf (rmD 2) (modW E m b μ) [.ref m, .int k] (pE (windOM μ k) (modW E m b μ)) := by
  have inX4 : ∀ w ∈ u_ws RX4 TX4 16, w ∈ wsX4_windOf := by decide +kernel
  have f7 : Cond.fieldLink RX4 7 (TX4 0).1 (TX4 0).2.1 (TX4 0).2.2.1 ∈ wsX4_windOf := by decide +kernel
  refine MI.of (cc := cX4_windOf) (nL := 2) (ty := .int) (own := RX4) [some (.ref m), some (.int k)] (by decide +kernel) rfl rfl (Nat.le_of_ble_eq_true rfl) rfl rfl ?_
  intro x C R0
  refine g_iload_n C dX4_windOf_0 rfl rfl ?_
  refine g_calliSF C (c_X4_isBeat E _ _) cf_X4_isBeat gX4_windOf_X4_isBeat rfl (fitD (Nat.le_of_ble_eq_true rfl) (Nat.le_of_ble_eq_true rfl)) rfl rfl (Nat.le_of_ble_eq_true rfl) dX4_windOf_1 (fun r1 w1 hp => ?_)
  obtain ⟨⟨hb_1, rfl⟩ | ⟨hb_1, rfl⟩, rfl⟩ := hp
  · obtain ⟨j, hj, rfl⟩ := i32_of (n := 8) hb_1.1 hb_1.2 (by decide)
    have hcl : (nI j).toNatClampNeg = j := nI_clamp (by omega)
    refine g_if_eq_f C dX4_windOf_4 19 (by decide) (by decide) ?_
    refine g_aload_n C dX4_windOf_7 rfl rfl ?_
    refine g_get C inX4 0 rfl rfl 0 (by decide) f7 rfl dX4_windOf_8 ?_
    refine g_bipush C (v := 6) dX4_windOf_11 rfl ?_
    refine g_iload_n C dX4_windOf_13 rfl rfl ?_
    refine g_iadd C dX4_windOf_14 ?_
    refine g_ialdE C 1 rfl (6 + j) (v := (gWi μ (j))) (nI_add 6 (j)) (by omega) (Nat.le_of_ble_eq_true rfl) (pk_Wi (by omega)) dX4_windOf_15 ?_
    refine g_goto C (tgt := 22) dX4_windOf_16 (by decide) ?_
    refine g_iret C R0 dX4_windOf_22 ?_
    refine pE_mk ?_ rfl
    rw [windOM, if_pos hb_1, hcl]
  · refine g_if_eq_t C dX4_windOf_4 (tgt := 19) (by decide) (by decide) ?_
    refine g_sipush C (v := (-10001)) dX4_windOf_19 rfl ?_
    refine g_iret C R0 dX4_windOf_22 ?_
    refine pE_mk ?_ rfl
    rw [windOM, if_neg hb_1]
def shareM (μ : MD) (k : Int32) : Int32 := if isKm (gSt μ) k then 1000 * (gHt μ k.toNatClampNeg + 1) / weig (gSt μ) (gHt μ) (gSt μ k.toNatClampNeg) else -10001
set_option maxHeartbeats 4000000 in
set_option maxRecDepth 100000 in
theorem c_X4_share (E : Ev) (m : Nat) (b : Nat → Nat) (μ : MD) (k : Int32) (hnz : isKm (gSt μ) k → ¬ weig (gSt μ) (gHt μ) (gSt μ k.toNatClampNeg) = 0) : MI E yX4_share wsX4_share (rmD 3) (modW E m b μ) [.ref m, .int k] (pE (shareM μ k) (modW E m b μ)) := by
  have inX4 : ∀ w ∈ u_ws RX4 TX4 16, w ∈ wsX4_share := by decide +kernel
  have f7 : Cond.fieldLink RX4 7 (TX4 0).1 (TX4 0).2.1 (TX4 0).2.2.1 ∈ wsX4_share := by decide +kernel
  refine MI.of (cc := cX4_share) (nL := 2) (ty := .int) (own := RX4) [some (.ref m), some (.int k)] (by decide +kernel) rfl rfl (Nat.le_of_ble_eq_true rfl) rfl rfl ?_
  intro x C R0
  refine g_aload_n C dX4_share_0 rfl rfl ?_
  refine g_iload_n C dX4_share_1 rfl rfl ?_
  refine g_calliVF C 0 rfl rfl (c_X4_isKite E m b μ _) cf_X4_isKite gX4_share_X4_isKite rfl (fitD (Nat.le_of_ble_eq_true rfl) (Nat.le_of_ble_eq_true rfl)) rfl rfl (Nat.le_of_ble_eq_true rfl) dX4_share_2 (fun r1 w1 hp => ?_)
  obtain ⟨⟨hb_2, rfl⟩ | ⟨hb_2, rfl⟩, rfl⟩ := hp
  · obtain ⟨j, hj, rfl⟩ := i32_of (n := 12) hb_2.1 hb_2.2.1 (by decide)
    have hcl : (nI j).toNatClampNeg = j := nI_clamp (by omega)
    have hkj : ¬ gSt μ j = -10005 := by have := hb_2.2.2; rwa [hcl] at this
    refine g_if_eq_f C dX4_share_5 34 (by decide) (by decide) ?_
    refine g_sipush C (v := 1000) dX4_share_8 rfl ?_
    refine g_aload_n C dX4_share_11 rfl rfl ?_
    refine g_iload_n C dX4_share_12 rfl rfl ?_
    refine g_calliVF C 0 rfl rfl (c_X4_weightOf E m b μ (j) (by omega)) cf_X4_weightOf gX4_share_X4_weightOf rfl (fitD (Nat.le_of_ble_eq_true rfl) (Nat.le_of_ble_eq_true rfl)) rfl rfl (Nat.le_of_ble_eq_true rfl) dX4_share_13 (fun r1 w1 hp => ?_)
    obtain ⟨rfl, rfl⟩ := hp
    refine g_imul C dX4_share_16 ?_
    refine g_aload_n C dX4_share_17 rfl rfl ?_
    refine g_aload_n C dX4_share_18 rfl rfl ?_
    refine g_get C inX4 0 rfl rfl 0 (by decide) f7 rfl dX4_share_19 ?_
    refine g_bipush C (v := 18) dX4_share_22 rfl ?_
    refine g_iload_n C dX4_share_24 rfl rfl ?_
    refine g_iadd C dX4_share_25 ?_
    refine g_ialdE C 1 rfl (18 + j) (v := (gSt μ (j))) (nI_add 18 (j)) (by omega) (Nat.le_of_ble_eq_true rfl) (pk_St (by omega)) dX4_share_26 ?_
    refine g_calliVF C 0 rfl rfl (c_X4_weightsOf E m b μ _) cf_X4_weightsOf gX4_share_X4_weightsOf rfl (fitD (Nat.le_of_ble_eq_true rfl) (Nat.le_of_ble_eq_true rfl)) rfl rfl (Nat.le_of_ble_eq_true rfl) dX4_share_27 (fun r1 w1 hp => ?_)
    obtain ⟨rfl, rfl⟩ := hp
    refine g_idiv C dX4_share_30 (by have := hnz hb_2; rwa [hcl] at this) ?_
    refine g_goto C (tgt := 37) dX4_share_31 (by decide) ?_
    refine g_iret C R0 dX4_share_37 ?_
    refine pE_mk ?_ rfl
    rw [shareM, if_pos hb_2, hcl]
  · refine g_if_eq_t C dX4_share_5 (tgt := 34) (by decide) (by decide) ?_
    refine g_sipush C (v := (-10001)) dX4_share_34 rfl ?_
    refine g_iret C R0 dX4_share_37 ?_
    refine pE_mk ?_ rfl
    rw [shareM, if_neg hb_2]
def clM (st ht : F) : Nat → Int32
  | 0 => 0
  | n + 1 => if 0 < land st ht (clM st ht n) 0 - land st ht (nI (n + 1)) 0 ∨ land st ht (clM st ht n) 0 - land st ht (nI (n + 1)) 0 = 0 ∧ weig st ht (nI (n + 1)) < weig st ht (clM st ht n) then nI (n + 1) else clM st ht n
theorem clM_in (st ht : F) : ∀ n, n ≤ 3 → ∃ s, s < 4 ∧ clM st ht n = nI s
  | 0, _ => ⟨0, by omega, rfl⟩
  | n + 1, h => by
    rw [clM]
    split
    · exact ⟨n + 1, by omega, rfl⟩
    · exact clM_in st ht n (by omega)
set_option maxHeartbeats 4000000 in
set_option maxRecDepth 100000 in
theorem c_X4_calmest (E : Ev) (m : Nat) (b : Nat → Nat) (μ : MD) (hf : ∀ s, s < 4 → hF (gSt μ) (gHt μ) (nI s) 0) : MI E yX4_calmest wsX4_calmest (rmD 3) (modW E m b μ) [.ref m] (pE (clM (gSt μ) (gHt μ) 3) (modW E m b μ)) := by
  refine MI.of (cc := cX4_calmest) (nL := 5) (ty := .int) (own := RX4) [some (.ref m), none, none, none, none] (by decide +kernel) rfl rfl (Nat.le_of_ble_eq_true rfl) rfl rfl ?_
  intro x C R0
  have lp : ∀ (n i : Nat), 3 - i < n → i ≤ 3 → G E x (modW E m b μ) [some (.ref m), some (.int (clM (gSt μ) (gHt μ) i)), some (.int (nI (i + 1))), none, none] 4 [] := by
    intro n
    induction n with
    | zero => intro i h1; omega
    | succ n ih =>
      intro i hn hi
      have hb1 : hF (gSt μ) (gHt μ) (clM (gSt μ) (gHt μ) i) 0 := by
        obtain ⟨s9, h9, e9⟩ := clM_in (gSt μ) (gHt μ) i (by omega)
        rw [e9]; exact hf s9 h9
      refine g_iload_n C dX4_calmest_4 rfl rfl ?_
      refine g_iconst C (v := 4) dX4_calmest_5 rfl ?_
      refine g_icmp_ge C (tgt := 68) dX4_calmest_6 (by decide) (fun hc_6 => ?_) (fun hc_6 => ?_)
      · have hn_6 : (4) ≤ ((i + 1)) := (nI_leI (a := (4)) (b := ((i + 1))) (by omega) (by omega)).mp hc_6
        refine g_iload_n C dX4_calmest_68 rfl rfl ?_
        refine g_iret C R0 dX4_calmest_69 ?_
        refine pE_mk ?_ rfl
        rw [show i = 3 from by omega]
      · have hn_6 : ¬ (4) ≤ ((i + 1)) := fun z => hc_6 ((nI_leI (a := (4)) (b := ((i + 1))) (by omega) (by omega)).mpr z)
        refine g_aload_n C dX4_calmest_9 rfl rfl ?_
        refine g_iload_n C dX4_calmest_10 rfl rfl ?_
        refine g_iconst C (v := 0) dX4_calmest_11 rfl ?_
        refine g_calliVF C 0 rfl rfl (c_X4_landing E m b μ _ _ hb1) cf_X4_landing gX4_calmest_X4_landing rfl (fitD (Nat.le_of_ble_eq_true rfl) (Nat.le_of_ble_eq_true rfl)) rfl rfl (Nat.le_of_ble_eq_true rfl) dX4_calmest_12 (fun r1 w1 hp => ?_)
        obtain ⟨rfl, rfl⟩ := hp
        refine g_aload_n C dX4_calmest_15 rfl rfl ?_
        refine g_iload_n C dX4_calmest_16 rfl rfl ?_
        refine g_iconst C (v := 0) dX4_calmest_17 rfl ?_
        refine g_calliVF C 0 rfl rfl (c_X4_landing E m b μ _ _ (hf (i + 1) (by omega))) cf_X4_landing gX4_calmest_X4_landing rfl (fitD (Nat.le_of_ble_eq_true rfl) (Nat.le_of_ble_eq_true rfl)) rfl rfl (Nat.le_of_ble_eq_true rfl) dX4_calmest_18 (fun r1 w1 hp => ?_)
        obtain ⟨rfl, rfl⟩ := hp
        refine g_isub C dX4_calmest_21 ?_
        refine g_istore_n C dX4_calmest_22 rfl (Nat.le_of_ble_eq_true rfl) rfl ?_
        refine g_iload_n C dX4_calmest_23 rfl rfl ?_
        refine g_if_gt C (tgt := 44) dX4_calmest_24 (by decide) (fun hc_24 => ?_) (fun hc_24 => ?_)
        · refine g_iconst C (v := 1) dX4_calmest_44 rfl ?_
          refine g_goto C (tgt := 49) dX4_calmest_45 (by decide) ?_
          refine g_istore C dX4_calmest_49 (Nat.le_of_ble_eq_true rfl) rfl ?_
          refine g_iload C dX4_calmest_51 rfl ?_
          refine g_if_eq_f C dX4_calmest_53 60 (by decide) (by decide) ?_
          refine g_iload_n C dX4_calmest_56 rfl rfl ?_
          refine g_goto C (tgt := 61) dX4_calmest_57 (by decide) ?_
          refine g_istore_n C dX4_calmest_61 rfl (Nat.le_of_ble_eq_true rfl) rfl ?_
          refine g_iinc C (v := (nI ((i + 1) + 1))) dX4_calmest_62 rfl rfl (nI_add ((i + 1)) 1) ?_
          refine g_goto C (tgt := 4) dX4_calmest_65 (by decide) ?_
          have this := ih (i + 1) (by omega) (by omega)
          rw [show clM (gSt μ) (gHt μ) (i + 1) = (nI (i + 1)) from by rw [clM, if_pos (Or.inl hc_24)]] at this
          exact g_drop 3 (g_drop 4 this)
        · refine g_iload_n C dX4_calmest_27 rfl rfl ?_
          refine g_if_ne C (tgt := 48) dX4_calmest_28 (by decide) (fun hc_28 => ?_) (fun hc_28 => ?_)
          · refine g_iconst C (v := 0) dX4_calmest_48 rfl ?_
            refine g_istore C dX4_calmest_49 (Nat.le_of_ble_eq_true rfl) rfl ?_
            refine g_iload C dX4_calmest_51 rfl ?_
            refine g_if_eq_t C dX4_calmest_53 (tgt := 60) (by decide) (by decide) ?_
            refine g_iload_n C dX4_calmest_60 rfl rfl ?_
            refine g_istore_n C dX4_calmest_61 rfl (Nat.le_of_ble_eq_true rfl) rfl ?_
            refine g_iinc C (v := (nI ((i + 1) + 1))) dX4_calmest_62 rfl rfl (nI_add ((i + 1)) 1) ?_
            refine g_goto C (tgt := 4) dX4_calmest_65 (by decide) ?_
            have this := ih (i + 1) (by omega) (by omega)
            rw [show clM (gSt μ) (gHt μ) (i + 1) = (clM (gSt μ) (gHt μ) i) from by rw [clM, if_neg (fun z => z.elim (fun y => hc_24 y) (fun y => hc_28 y.1))]] at this
            exact g_drop 3 (g_drop 4 this)
          · refine g_aload_n C dX4_calmest_31 rfl rfl ?_
            refine g_iload_n C dX4_calmest_32 rfl rfl ?_
            refine g_calliVF C 0 rfl rfl (c_X4_weightsOf E m b μ _) cf_X4_weightsOf gX4_calmest_X4_weightsOf rfl (fitD (Nat.le_of_ble_eq_true rfl) (Nat.le_of_ble_eq_true rfl)) rfl rfl (Nat.le_of_ble_eq_true rfl) dX4_calmest_33 (fun r1 w1 hp => ?_)
            obtain ⟨rfl, rfl⟩ := hp
            refine g_aload_n C dX4_calmest_36 rfl rfl ?_
            refine g_iload_n C dX4_calmest_37 rfl rfl ?_
            refine g_calliVF C 0 rfl rfl (c_X4_weightsOf E m b μ _) cf_X4_weightsOf gX4_calmest_X4_weightsOf rfl (fitD (Nat.le_of_ble_eq_true rfl) (Nat.le_of_ble_eq_true rfl)) rfl rfl (Nat.le_of_ble_eq_true rfl) dX4_calmest_38 (fun r1 w1 hp => ?_)
            obtain ⟨rfl, rfl⟩ := hp
            refine g_icmp_ge C (tgt := 48) dX4_calmest_41 (by decide) (fun hc_41 => ?_) (fun hc_41 => ?_)
            · refine g_iconst C (v := 0) dX4_calmest_48 rfl ?_
              refine g_istore C dX4_calmest_49 (Nat.le_of_ble_eq_true rfl) rfl ?_
              refine g_iload C dX4_calmest_51 rfl ?_
              refine g_if_eq_t C dX4_calmest_53 (tgt := 60) (by decide) (by decide) ?_
              refine g_iload_n C dX4_calmest_60 rfl rfl ?_
              refine g_istore_n C dX4_calmest_61 rfl (Nat.le_of_ble_eq_true rfl) rfl ?_
              refine g_iinc C (v := (nI ((i + 1) + 1))) dX4_calmest_62 rfl rfl (nI_add ((i + 1)) 1) ?_
              refine g_goto C (tgt := 4) dX4_calmest_65 (by decide) ?_
              have this := ih (i + 1) (by omega) (by omega)
              rw [show clM (gSt μ) (gHt μ) (i + 1) = (clM (gSt μ) (gHt μ) i) from by rw [clM, if_neg (fun z => z.elim (fun y => hc_24 y) (fun y => i32_nlt hc_41 y.2))]] at this
              exact g_drop 3 (g_drop 4 this)
            · refine g_iconst C (v := 1) dX4_calmest_44 rfl ?_
              refine g_goto C (tgt := 49) dX4_calmest_45 (by decide) ?_
              refine g_istore C dX4_calmest_49 (Nat.le_of_ble_eq_true rfl) rfl ?_
              refine g_iload C dX4_calmest_51 rfl ?_
              refine g_if_eq_f C dX4_calmest_53 60 (by decide) (by decide) ?_
              refine g_iload_n C dX4_calmest_56 rfl rfl ?_
              refine g_goto C (tgt := 61) dX4_calmest_57 (by decide) ?_
              refine g_istore_n C dX4_calmest_61 rfl (Nat.le_of_ble_eq_true rfl) rfl ?_
              refine g_iinc C (v := (nI ((i + 1) + 1))) dX4_calmest_62 rfl rfl (nI_add ((i + 1)) 1) ?_
              refine g_goto C (tgt := 4) dX4_calmest_65 (by decide) ?_
              have this := ih (i + 1) (by omega) (by omega)
              rw [show clM (gSt μ) (gHt μ) (i + 1) = (nI (i + 1)) from by rw [clM, if_pos (Or.inr ⟨hc_28, i32_lt.mp hc_41⟩)]] at this
              exact g_drop 3 (g_drop 4 this)
  refine g_iconst C (v := 0) dX4_calmest_0 rfl ?_
  refine g_istore_n C dX4_calmest_1 rfl (Nat.le_of_ble_eq_true rfl) rfl ?_
  refine g_iconst C (v := 1) dX4_calmest_2 rfl ?_
  refine g_istore_n C dX4_calmest_3 rfl (Nat.le_of_ble_eq_true rfl) rfl ?_
  exact lp 4 0 (by omega) (by omega)
