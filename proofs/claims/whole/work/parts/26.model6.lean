/-! texts -/
def xT (μ : MD) (p : Nat) (nu cm fi se : Int32) : MD := (μ.1, μ.2.1, μ.2.2.1, μ.2.2.2.1, μ.2.2.2.2.1, μ.2.2.2.2.2.1, μ.2.2.2.2.2.2.1, μ.2.2.2.2.2.2.2.1, μ.2.2.2.2.2.2.2.2.1, μ.2.2.2.2.2.2.2.2.2.1, μ.2.2.2.2.2.2.2.2.2.2.1, nI p, nu, cm, fi, se)
def modT (E : Ev) (m : Nat) (b : Nat → Nat) (μ : MD) (p : Nat) (nu cm fi se : Int32) : va_W := [(m, .inr (4, [.ref (b 0), .ref (b 1), .ref (b 2), .ref (b 3), .int (mHL μ), .ref (b 4), .int (mIT μ), .int (mSA μ), .int (mSB μ), .ref (b 5), .int (mTL μ), .int (nI p), .int nu, .int cm, .int fi, .int se])), (b 0, .inl (E.2.2 0, 92, .inl (pk (mAl μ)))), (b 1, .inl (E.2.2 0, 92, .inl (pk (mKe μ)))), (b 2, .inl (E.2.2 0, 92, .inl (pk (mTr μ)))), (b 3, .inl (E.2.2 0, 368, .inl (pkH (mHi μ)))), (b 4, .inl (E.2.2 0, 92, .inl (pk (mSn μ)))), (b 5, .inl (E.2.2 0, 80, .inl (mTx μ)))]
theorem modT_W {E : Ev} {m : Nat} {b : Nat → Nat} {μ : MD} {p : Nat} {nu cm fi se : Int32} : modT E m b μ p nu cm fi se = modW E m b (xT μ p nu cm fi se) := rfl
abbrev here (tx : F) (n p : Nat) (lo hi : Int32) : Prop := p < n ∧ lo ≤ tx p ∧ tx p ≤ hi
def pT (b : Bool) (W : va_W) : Int32 → va_W → Prop := fun r w => (b = true ∧ r = 1 ∨ b = false ∧ r = 0) ∧ w = W
theorem pT_mk {b c : Bool} {W Z : va_W} {r : Int32} (h : b = c) (hr : c = true ∧ r = 1 ∨ c = false ∧ r = 0) (h2 : Z = W) : pT b W r Z := ⟨by rw [h]; exact hr, h2⟩
theorem i64_loT {x c : Int32} : c.toInt64 ≤ x.toInt64 ↔ c ≤ x := i64_lo (Int32.toInt_toInt64 _)
theorem i64_hiT {x c : Int32} : x.toInt64 ≤ c.toInt64 ↔ x ≤ c := i64_hi (Int32.toInt_toInt64 _)
/-- letters one behind the other; 0 is none -/
def rlP (tx : F) (n : Nat) : List Int32 → Nat → Bool × Nat
  | [], p => (true, p)
  | c :: cs, p => if c = 0 then rlP tx n cs p else if here tx n p c c then rlP tx n cs (p + 1) else (false, p)
def rnL (tx : F) (n : Nat) (most : Int32) : Nat → Int32 → Nat → Int32 × Nat
  | 0, v, p => (v, p)
  | f + 1, v, p => if 0 < v ∧ here tx n p 48 57 ∧ 10 * v + tx p - 48 ≤ most then rnL tx n most f (10 * v + tx p - 48) (p + 1) else (v, p)
/-- the digits: the sign told -/
def rnD (tx : F) (n : Nat) (below : Bool) (low most : Int32) (p : Nat) (nu : Int32) : Bool × Nat × Int32 :=
  if here tx n p low 57 then (if tx p - 48 ≤ most then (true, (rnL tx n most (n - (p + 1)) (tx p - 48) (p + 1)).2, if below = true then -(rnL tx n most (n - (p + 1)) (tx p - 48) (p + 1)).1 else (rnL tx n most (n - (p + 1)) (tx p - 48) (p + 1)).1) else (false, p, nu)) else (false, p, nu)
def rnR (tx : F) (n : Nat) (least most : Int32) (p : Nat) (nu : Int32) : Bool × Nat × Int32 :=
  if here tx n p 32 32 then (if least < 0 then (if here tx n (p + 1) 45 45 then rnD tx n true 49 most (p + 2) nu else if 0 < least then rnD tx n false 49 most (p + 1) nu else rnD tx n false 48 most (p + 1) nu) else if 0 < least then rnD tx n false 49 most (p + 1) nu else rnD tx n false 48 most (p + 1) nu) else (false, p, nu)
set_option maxHeartbeats 4000000 in
set_option maxRecDepth 100000 in
theorem c_X4_isHere (E : Ev) (m : Nat) (b : Nat → Nat) (μ : MD) (n p : Nat) (hn : n ≤ 80) (hTL : mTL μ = nI n) (hp : p ≤ n) (nu cm fi se : Int32) (c d : Int32) : MI E yX4_isHere wsX4_isHere (rmD 1) (modT E m b μ (p) nu cm fi se) [.ref m, .int c, .int d] (pB (here (mTx μ) n p c d) (modT E m b μ (p) nu cm fi se)) := by
  have inX4 : ∀ w ∈ u_ws RX4 TX4 16, w ∈ wsX4_isHere := by decide +kernel
  have f135 : Cond.fieldLink RX4 135 (TX4 11).1 (TX4 11).2.1 (TX4 11).2.2.1 ∈ wsX4_isHere := by decide +kernel
  have f132 : Cond.fieldLink RX4 132 (TX4 10).1 (TX4 10).2.1 (TX4 10).2.2.1 ∈ wsX4_isHere := by decide +kernel
  have f32 : Cond.fieldLink RX4 32 (TX4 9).1 (TX4 9).2.1 (TX4 9).2.2.1 ∈ wsX4_isHere := by decide +kernel
  refine MI.of (cc := cX4_isHere) (nL := 3) (ty := .boolean) (own := RX4) [some (.ref m), some (.int c), some (.int d)] (by decide +kernel) rfl rfl (Nat.le_of_ble_eq_true rfl) rfl rfl ?_
  intro x C R0
  refine g_aload_n C dX4_isHere_0 rfl rfl ?_
  refine g_get C inX4 0 rfl rfl 11 (by decide) f135 rfl dX4_isHere_1 ?_
  refine g_aload_n C dX4_isHere_4 rfl rfl ?_
  refine g_get C inX4 0 rfl rfl 10 (by decide) f132 rfl dX4_isHere_5 ?_
  refine g_icmp_ge C (tgt := 35) dX4_isHere_8 (by decide) (fun hc_8 => ?_) (fun hc_8 => ?_)
  · have hge : ¬ p < n := by
      have h9 : nI n ≤ nI p := by rw [← hTL]; exact hc_8
      have := (nI_leI (a := n) (b := p) (by omega) (by omega)).mp h9
      omega
    refine g_iconst C (v := 0) dX4_isHere_35 rfl ?_
    refine g_zret C R0 rfl dX4_isHere_36 ?_
    exact ⟨Or.inr ⟨fun z => hge z.1, rfl⟩, rfl⟩
  · have hlt : p < n := by
      refine Nat.lt_of_not_le fun z => hc_8 ?_
      have h9 := (nI_leI (a := n) (b := p) (by omega) (by omega)).mpr z
      rw [← hTL] at h9; exact h9
    refine g_aload_n C dX4_isHere_11 rfl rfl ?_
    refine g_get C inX4 0 rfl rfl 9 (by decide) f32 rfl dX4_isHere_12 ?_
    refine g_aload_n C dX4_isHere_15 rfl rfl ?_
    refine g_get C inX4 0 rfl rfl 11 (by decide) f135 rfl dX4_isHere_16 ?_
    refine g_iald C 6 rfl (p) rfl (by omega) (Nat.le_of_ble_eq_true rfl) dX4_isHere_19 ?_
    refine g_i2l C dX4_isHere_20 ?_
    refine g_iload_n C dX4_isHere_21 rfl rfl ?_
    refine g_i2l C dX4_isHere_22 ?_
    refine g_iload_n C dX4_isHere_23 rfl rfl ?_
    refine g_i2l C dX4_isHere_24 ?_
    refine g_calliSF C (c_X4_in E _ _ _ _) cf_X4_in gX4_isHere_X4_in rfl (fitD (Nat.le_of_ble_eq_true rfl) (Nat.le_of_ble_eq_true rfl)) rfl rfl (Nat.le_of_ble_eq_true rfl) dX4_isHere_25 (fun r1 w1 hp => ?_)
    obtain ⟨⟨hb_25, rfl⟩ | ⟨hb_25, rfl⟩, rfl⟩ := hp
    · refine g_if_eq_f C dX4_isHere_28 35 (by decide) (by decide) ?_
      refine g_iconst C (v := 1) dX4_isHere_31 rfl ?_
      refine g_goto C (tgt := 36) dX4_isHere_32 (by decide) ?_
      refine g_zret C R0 rfl dX4_isHere_36 ?_
      exact ⟨Or.inl ⟨⟨hlt, i64_loT.mp hb_25.1, i64_hiT.mp hb_25.2⟩, rfl⟩, rfl⟩
    · refine g_if_eq_t C dX4_isHere_28 (tgt := 35) (by decide) (by decide) ?_
      refine g_iconst C (v := 0) dX4_isHere_35 rfl ?_
      refine g_zret C R0 rfl dX4_isHere_36 ?_
      exact ⟨Or.inr ⟨fun z => hb_25 ⟨i64_loT.mpr z.2.1, i64_hiT.mpr z.2.2⟩, rfl⟩, rfl⟩
set_option maxHeartbeats 4000000 in
set_option maxRecDepth 100000 in
theorem c_X4_takes (E : Ev) (m : Nat) (b : Nat → Nat) (μ : MD) (n p : Nat) (hn : n ≤ 80) (hTL : mTL μ = nI n) (hp : p ≤ n) (nu cm fi se : Int32) (c : Int32) : MI E yX4_takes wsX4_takes (rmD 2) (modT E m b μ (p) nu cm fi se) [.ref m, .int c] (fun r w => here (mTx μ) n p c c ∧ r = 1 ∧ w = (modT E m b μ (p + 1) nu cm fi se) ∨ ¬ here (mTx μ) n p c c ∧ r = 0 ∧ w = (modT E m b μ (p) nu cm fi se)) := by
  have inX4 : ∀ w ∈ u_ws RX4 TX4 16, w ∈ wsX4_takes := by decide +kernel
  have f135 : Cond.fieldLink RX4 135 (TX4 11).1 (TX4 11).2.1 (TX4 11).2.2.1 ∈ wsX4_takes := by decide +kernel
  refine MI.of (cc := cX4_takes) (nL := 3) (ty := .boolean) (own := RX4) [some (.ref m), some (.int c), none] (by decide +kernel) rfl rfl (Nat.le_of_ble_eq_true rfl) rfl rfl ?_
  intro x C R0
  refine g_aload_n C dX4_takes_0 rfl rfl ?_
  refine g_iload_n C dX4_takes_1 rfl rfl ?_
  refine g_iload_n C dX4_takes_2 rfl rfl ?_
  refine g_calliVF C 0 rfl rfl (c_X4_isHere E m b μ n (p) hn hTL (by omega) nu cm fi se _ _) cf_X4_isHere gX4_takes_X4_isHere rfl (fitD (Nat.le_of_ble_eq_true rfl) (Nat.le_of_ble_eq_true rfl)) rfl rfl (Nat.le_of_ble_eq_true rfl) dX4_takes_3 (fun r1 w1 hp => ?_)
  obtain ⟨⟨hb_3, rfl⟩ | ⟨hb_3, rfl⟩, rfl⟩ := hp
  · refine g_istore_n C dX4_takes_6 rfl (Nat.le_of_ble_eq_true rfl) rfl ?_
    refine g_aload_n C dX4_takes_7 rfl rfl ?_
    refine g_dup C dX4_takes_8 rfl ?_
    refine g_get C inX4 0 rfl rfl 11 (by decide) f135 rfl dX4_takes_9 ?_
    refine g_iload_n C dX4_takes_12 rfl rfl ?_
    refine g_if_eq_f C dX4_takes_13 20 (by decide) (by decide) ?_
    refine g_iconst C (v := 1) dX4_takes_16 rfl ?_
    refine g_goto C (tgt := 21) dX4_takes_17 (by decide) ?_
    refine g_iadd C dX4_takes_21 ?_
    rw [show ((nI (p)) + 1) = nI (p + 1) from nI_add p 1]
    refine g_put C (ws' := (modT E m b μ (p + 1) nu cm fi se)) inX4 (ty := .int) tyX4 tyX4_ok nmX4 0 rfl rfl 11 (by decide) f135 rfl (by decide +kernel) rfl rfl (Nat.le_of_ble_eq_true rfl) dX4_takes_22 rfl ?_
    refine g_iload_n C dX4_takes_25 rfl rfl ?_
    refine g_zret C R0 rfl dX4_takes_26 ?_
    exact Or.inl ⟨hb_3, rfl, rfl⟩
  · refine g_istore_n C dX4_takes_6 rfl (Nat.le_of_ble_eq_true rfl) rfl ?_
    refine g_aload_n C dX4_takes_7 rfl rfl ?_
    refine g_dup C dX4_takes_8 rfl ?_
    refine g_get C inX4 0 rfl rfl 11 (by decide) f135 rfl dX4_takes_9 ?_
    refine g_iload_n C dX4_takes_12 rfl rfl ?_
    refine g_if_eq_t C dX4_takes_13 (tgt := 20) (by decide) (by decide) ?_
    refine g_iconst C (v := 0) dX4_takes_20 rfl ?_
    refine g_iadd C dX4_takes_21 ?_
    rw [show ((nI (p)) + 0) = nI (p + 0) from (show nI p + 0 = nI (p + 0) from by simp)]
    refine g_put C (ws' := (modT E m b μ (p + 0) nu cm fi se)) inX4 (ty := .int) tyX4 tyX4_ok nmX4 0 rfl rfl 11 (by decide) f135 rfl (by decide +kernel) rfl rfl (Nat.le_of_ble_eq_true rfl) dX4_takes_22 rfl ?_
    refine g_iload_n C dX4_takes_25 rfl rfl ?_
    refine g_zret C R0 rfl dX4_takes_26 ?_
    exact Or.inr ⟨hb_3, rfl, rfl⟩
set_option maxHeartbeats 4000000 in
set_option maxRecDepth 100000 in
theorem c_X4_readsLetters_27769 (E : Ev) (m : Nat) (b : Nat → Nat) (μ : MD) (n p : Nat) (hn : n ≤ 80) (hTL : mTL μ = nI n) (hp : p ≤ n) (nu cm fi se : Int32) : MI E yX4_readsLetters wsX4_readsLetters (rmD 3) (modT E m b μ (p) nu cm fi se) [.ref m, .long 27769] (pT (rlP (mTx μ) n [0, 0, 0, 108, 121] p).1 (modT E m b μ ((rlP (mTx μ) n [0, 0, 0, 108, 121] p).2) nu cm fi se)) := by
  have k141 : Cond.constantLong RX4 141 (255) ∈ wsX4_readsLetters := by decide +kernel
  refine MI.of (cc := cX4_readsLetters) (nL := 6) (ty := .boolean) (own := RX4) [some (.ref m), some (.long 27769), none, none, none, none] (by decide +kernel) rfl rfl (Nat.le_of_ble_eq_true rfl) rfl rfl ?_
  intro x C R0
  refine g_iconst C (v := 1) dX4_readsLetters_0 rfl ?_
  refine g_istore_n C dX4_readsLetters_1 rfl (Nat.le_of_ble_eq_true rfl) rfl ?_
  refine g_bipush C (v := 32) dX4_readsLetters_2 rfl ?_
  refine g_istore C dX4_readsLetters_4 (Nat.le_of_ble_eq_true rfl) rfl ?_
  refine g_eq (ws' := (modT E m b μ (p) nu cm fi se)) (lv' := [some (.ref m), some (.long 27769), none, some (.int 1), some (.int 32), none]) (st' := []) rfl rfl rfl ?_
  refine g_iload C dX4_readsLetters_6 rfl ?_
  refine g_if_lt_f C dX4_readsLetters_8 52 (by decide) (by decide) ?_
  refine g_iload_n C dX4_readsLetters_11 rfl rfl ?_
  refine g_if_eq_f C dX4_readsLetters_12 52 (by decide) (by decide) ?_
  refine g_lload_n C dX4_readsLetters_15 rfl rfl ?_
  refine g_iload C dX4_readsLetters_16 rfl ?_
  refine g_lshr C (v := 0) dX4_readsLetters_18 (by decide +kernel) ?_
  refine g_ldc2 C k141 dX4_readsLetters_19 ?_
  refine g_land C dX4_readsLetters_22 ?_
  refine g_l2i C dX4_readsLetters_23 ?_
  rw [show (((0 : Int64) &&& 255).toInt32) = 0 from by decide +kernel]
  refine g_istore C dX4_readsLetters_24 (Nat.le_of_ble_eq_true rfl) rfl ?_
  refine g_iload C dX4_readsLetters_26 rfl ?_
  refine g_if_eq_t C dX4_readsLetters_28 (tgt := 40) (by decide) (by decide) ?_
  refine g_iconst C (v := 1) dX4_readsLetters_40 rfl ?_
  refine g_goto C (tgt := 45) dX4_readsLetters_41 (by decide) ?_
  refine g_istore_n C dX4_readsLetters_45 rfl (Nat.le_of_ble_eq_true rfl) rfl ?_
  refine g_iinc C (v := 24) dX4_readsLetters_46 rfl rfl (by decide +kernel) ?_
  refine g_goto C (tgt := 6) dX4_readsLetters_49 (by decide) ?_
  refine g_eq (ws' := (modT E m b μ (p) nu cm fi se)) (lv' := [some (.ref m), some (.long 27769), none, some (.int 1), some (.int 24), some (.int 0)]) (st' := []) rfl rfl rfl ?_
  refine g_iload C dX4_readsLetters_6 rfl ?_
  refine g_if_lt_f C dX4_readsLetters_8 52 (by decide) (by decide) ?_
  refine g_iload_n C dX4_readsLetters_11 rfl rfl ?_
  refine g_if_eq_f C dX4_readsLetters_12 52 (by decide) (by decide) ?_
  refine g_lload_n C dX4_readsLetters_15 rfl rfl ?_
  refine g_iload C dX4_readsLetters_16 rfl ?_
  refine g_lshr C (v := 0) dX4_readsLetters_18 (by decide +kernel) ?_
  refine g_ldc2 C k141 dX4_readsLetters_19 ?_
  refine g_land C dX4_readsLetters_22 ?_
  refine g_l2i C dX4_readsLetters_23 ?_
  rw [show (((0 : Int64) &&& 255).toInt32) = 0 from by decide +kernel]
  refine g_istore C dX4_readsLetters_24 (Nat.le_of_ble_eq_true rfl) rfl ?_
  refine g_iload C dX4_readsLetters_26 rfl ?_
  refine g_if_eq_t C dX4_readsLetters_28 (tgt := 40) (by decide) (by decide) ?_
  refine g_iconst C (v := 1) dX4_readsLetters_40 rfl ?_
  refine g_goto C (tgt := 45) dX4_readsLetters_41 (by decide) ?_
  refine g_istore_n C dX4_readsLetters_45 rfl (Nat.le_of_ble_eq_true rfl) rfl ?_
  refine g_iinc C (v := 16) dX4_readsLetters_46 rfl rfl (by decide +kernel) ?_
  refine g_goto C (tgt := 6) dX4_readsLetters_49 (by decide) ?_
  refine g_eq (ws' := (modT E m b μ (p) nu cm fi se)) (lv' := [some (.ref m), some (.long 27769), none, some (.int 1), some (.int 16), some (.int 0)]) (st' := []) rfl rfl rfl ?_
  refine g_iload C dX4_readsLetters_6 rfl ?_
  refine g_if_lt_f C dX4_readsLetters_8 52 (by decide) (by decide) ?_
  refine g_iload_n C dX4_readsLetters_11 rfl rfl ?_
  refine g_if_eq_f C dX4_readsLetters_12 52 (by decide) (by decide) ?_
  refine g_lload_n C dX4_readsLetters_15 rfl rfl ?_
  refine g_iload C dX4_readsLetters_16 rfl ?_
  refine g_lshr C (v := 0) dX4_readsLetters_18 (by decide +kernel) ?_
  refine g_ldc2 C k141 dX4_readsLetters_19 ?_
  refine g_land C dX4_readsLetters_22 ?_
  refine g_l2i C dX4_readsLetters_23 ?_
  rw [show (((0 : Int64) &&& 255).toInt32) = 0 from by decide +kernel]
  refine g_istore C dX4_readsLetters_24 (Nat.le_of_ble_eq_true rfl) rfl ?_
  refine g_iload C dX4_readsLetters_26 rfl ?_
  refine g_if_eq_t C dX4_readsLetters_28 (tgt := 40) (by decide) (by decide) ?_
  refine g_iconst C (v := 1) dX4_readsLetters_40 rfl ?_
  refine g_goto C (tgt := 45) dX4_readsLetters_41 (by decide) ?_
  refine g_istore_n C dX4_readsLetters_45 rfl (Nat.le_of_ble_eq_true rfl) rfl ?_
  refine g_iinc C (v := 8) dX4_readsLetters_46 rfl rfl (by decide +kernel) ?_
  refine g_goto C (tgt := 6) dX4_readsLetters_49 (by decide) ?_
  refine g_eq (ws' := (modT E m b μ (p) nu cm fi se)) (lv' := [some (.ref m), some (.long 27769), none, some (.int 1), some (.int 8), some (.int 0)]) (st' := []) rfl rfl rfl ?_
  refine g_iload C dX4_readsLetters_6 rfl ?_
  refine g_if_lt_f C dX4_readsLetters_8 52 (by decide) (by decide) ?_
  refine g_iload_n C dX4_readsLetters_11 rfl rfl ?_
  refine g_if_eq_f C dX4_readsLetters_12 52 (by decide) (by decide) ?_
  refine g_lload_n C dX4_readsLetters_15 rfl rfl ?_
  refine g_iload C dX4_readsLetters_16 rfl ?_
  refine g_lshr C (v := 108) dX4_readsLetters_18 (by decide +kernel) ?_
  refine g_ldc2 C k141 dX4_readsLetters_19 ?_
  refine g_land C dX4_readsLetters_22 ?_
  refine g_l2i C dX4_readsLetters_23 ?_
  rw [show (((108 : Int64) &&& 255).toInt32) = 108 from by decide +kernel]
  refine g_istore C dX4_readsLetters_24 (Nat.le_of_ble_eq_true rfl) rfl ?_
  refine g_iload C dX4_readsLetters_26 rfl ?_
  refine g_if_eq_f C dX4_readsLetters_28 40 (by decide) (by decide) ?_
  refine g_aload_n C dX4_readsLetters_31 rfl rfl ?_
  refine g_iload C dX4_readsLetters_32 rfl ?_
  refine g_calliVF C 0 rfl rfl (c_X4_takes E m b μ n (p) hn hTL (by omega) nu cm fi se _) cf_X4_takes gX4_readsLetters_X4_takes rfl (fitD (Nat.le_of_ble_eq_true rfl) (Nat.le_of_ble_eq_true rfl)) rfl rfl (Nat.le_of_ble_eq_true rfl) dX4_readsLetters_34 (fun r1 w1 hp9 => ?_)
  obtain ⟨hl39, rfl, rfl⟩ | ⟨hl39, rfl, rfl⟩ := hp9
  · have hm39 : p + 1 ≤ n := hl39.1
    refine g_if_eq_f C dX4_readsLetters_37 44 (by decide) (by decide) ?_
    refine g_iconst C (v := 1) dX4_readsLetters_40 rfl ?_
    refine g_goto C (tgt := 45) dX4_readsLetters_41 (by decide) ?_
    refine g_istore_n C dX4_readsLetters_45 rfl (Nat.le_of_ble_eq_true rfl) rfl ?_
    refine g_iinc C (v := 0) dX4_readsLetters_46 rfl rfl (by decide +kernel) ?_
    refine g_goto C (tgt := 6) dX4_readsLetters_49 (by decide) ?_
    refine g_eq (ws' := (modT E m b μ (p + 1) nu cm fi se)) (lv' := [some (.ref m), some (.long 27769), none, some (.int 1), some (.int 0), some (.int 108)]) (st' := []) rfl rfl rfl ?_
    refine g_iload C dX4_readsLetters_6 rfl ?_
    refine g_if_lt_f C dX4_readsLetters_8 52 (by decide) (by decide) ?_
    refine g_iload_n C dX4_readsLetters_11 rfl rfl ?_
    refine g_if_eq_f C dX4_readsLetters_12 52 (by decide) (by decide) ?_
    refine g_lload_n C dX4_readsLetters_15 rfl rfl ?_
    refine g_iload C dX4_readsLetters_16 rfl ?_
    refine g_lshr C (v := 27769) dX4_readsLetters_18 (by decide +kernel) ?_
    refine g_ldc2 C k141 dX4_readsLetters_19 ?_
    refine g_land C dX4_readsLetters_22 ?_
    refine g_l2i C dX4_readsLetters_23 ?_
    rw [show (((27769 : Int64) &&& 255).toInt32) = 121 from by decide +kernel]
    refine g_istore C dX4_readsLetters_24 (Nat.le_of_ble_eq_true rfl) rfl ?_
    refine g_iload C dX4_readsLetters_26 rfl ?_
    refine g_if_eq_f C dX4_readsLetters_28 40 (by decide) (by decide) ?_
    refine g_aload_n C dX4_readsLetters_31 rfl rfl ?_
    refine g_iload C dX4_readsLetters_32 rfl ?_
    refine g_calliVF C 0 rfl rfl (c_X4_takes E m b μ n (p + 1) hn hTL (by omega) nu cm fi se _) cf_X4_takes gX4_readsLetters_X4_takes rfl (fitD (Nat.le_of_ble_eq_true rfl) (Nat.le_of_ble_eq_true rfl)) rfl rfl (Nat.le_of_ble_eq_true rfl) dX4_readsLetters_34 (fun r1 w1 hp9 => ?_)
    obtain ⟨hl49, rfl, rfl⟩ | ⟨hl49, rfl, rfl⟩ := hp9
    · have hm49 : p + 1 + 1 ≤ n := hl49.1
      refine g_if_eq_f C dX4_readsLetters_37 44 (by decide) (by decide) ?_
      refine g_iconst C (v := 1) dX4_readsLetters_40 rfl ?_
      refine g_goto C (tgt := 45) dX4_readsLetters_41 (by decide) ?_
      refine g_istore_n C dX4_readsLetters_45 rfl (Nat.le_of_ble_eq_true rfl) rfl ?_
      refine g_iinc C (v := (-8)) dX4_readsLetters_46 rfl rfl (by decide +kernel) ?_
      refine g_goto C (tgt := 6) dX4_readsLetters_49 (by decide) ?_
      refine g_eq (ws' := (modT E m b μ (p + 1 + 1) nu cm fi se)) (lv' := [some (.ref m), some (.long 27769), none, some (.int 1), some (.int (-8)), some (.int 121)]) (st' := []) rfl rfl rfl ?_
      refine g_iload C dX4_readsLetters_6 rfl ?_
      refine g_if_lt_t C dX4_readsLetters_8 (tgt := 52) (by decide) (by decide) ?_
      refine g_iload_n C dX4_readsLetters_52 rfl rfl ?_
      refine g_zret C R0 rfl dX4_readsLetters_53 ?_
      have he : rlP (mTx μ) n [0, 0, 0, 108, 121] p = (true, p + 1 + 1) := by rw [rlP, if_pos rfl, rlP, if_pos rfl, rlP, if_pos rfl, rlP, if_neg (by decide), if_pos hl39, rlP, if_neg (by decide), if_pos hl49, rlP]
      refine pT_mk (c := true) (by rw [he]) (Or.inl ⟨rfl, rfl⟩) (by rw [he])
    · refine g_if_eq_t C dX4_readsLetters_37 (tgt := 44) (by decide) (by decide) ?_
      refine g_iconst C (v := 0) dX4_readsLetters_44 rfl ?_
      refine g_istore_n C dX4_readsLetters_45 rfl (Nat.le_of_ble_eq_true rfl) rfl ?_
      refine g_iinc C (v := (-8)) dX4_readsLetters_46 rfl rfl (by decide +kernel) ?_
      refine g_goto C (tgt := 6) dX4_readsLetters_49 (by decide) ?_
      refine g_eq (ws' := (modT E m b μ (p + 1) nu cm fi se)) (lv' := [some (.ref m), some (.long 27769), none, some (.int 0), some (.int (-8)), some (.int 121)]) (st' := []) rfl rfl rfl ?_
      refine g_iload C dX4_readsLetters_6 rfl ?_
      refine g_if_lt_t C dX4_readsLetters_8 (tgt := 52) (by decide) (by decide) ?_
      refine g_iload_n C dX4_readsLetters_52 rfl rfl ?_
      refine g_zret C R0 rfl dX4_readsLetters_53 ?_
      have he : rlP (mTx μ) n [0, 0, 0, 108, 121] p = (false, p + 1) := by rw [rlP, if_pos rfl, rlP, if_pos rfl, rlP, if_pos rfl, rlP, if_neg (by decide), if_pos hl39, rlP, if_neg (by decide), if_neg hl49]
      refine pT_mk (c := false) (by rw [he]) (Or.inr ⟨rfl, rfl⟩) (by rw [he])
  · refine g_if_eq_t C dX4_readsLetters_37 (tgt := 44) (by decide) (by decide) ?_
    refine g_iconst C (v := 0) dX4_readsLetters_44 rfl ?_
    refine g_istore_n C dX4_readsLetters_45 rfl (Nat.le_of_ble_eq_true rfl) rfl ?_
    refine g_iinc C (v := 0) dX4_readsLetters_46 rfl rfl (by decide +kernel) ?_
    refine g_goto C (tgt := 6) dX4_readsLetters_49 (by decide) ?_
    refine g_eq (ws' := (modT E m b μ (p) nu cm fi se)) (lv' := [some (.ref m), some (.long 27769), none, some (.int 0), some (.int 0), some (.int 108)]) (st' := []) rfl rfl rfl ?_
    refine g_iload C dX4_readsLetters_6 rfl ?_
    refine g_if_lt_f C dX4_readsLetters_8 52 (by decide) (by decide) ?_
    refine g_iload_n C dX4_readsLetters_11 rfl rfl ?_
    refine g_if_eq_t C dX4_readsLetters_12 (tgt := 52) (by decide) (by decide) ?_
    refine g_iload_n C dX4_readsLetters_52 rfl rfl ?_
    refine g_zret C R0 rfl dX4_readsLetters_53 ?_
    have he : rlP (mTx μ) n [0, 0, 0, 108, 121] p = (false, p) := by rw [rlP, if_pos rfl, rlP, if_pos rfl, rlP, if_pos rfl, rlP, if_neg (by decide), if_neg hl39]
    refine pT_mk (c := false) (by rw [he]) (Or.inr ⟨rfl, rfl⟩) (by rw [he])
set_option maxHeartbeats 4000000 in
set_option maxRecDepth 100000 in
theorem c_X4_readsLetters_6644068 (E : Ev) (m : Nat) (b : Nat → Nat) (μ : MD) (n p : Nat) (hn : n ≤ 80) (hTL : mTL μ = nI n) (hp : p ≤ n) (nu cm fi se : Int32) : MI E yX4_readsLetters wsX4_readsLetters (rmD 3) (modT E m b μ (p) nu cm fi se) [.ref m, .long 6644068] (pT (rlP (mTx μ) n [0, 0, 101, 97, 100] p).1 (modT E m b μ ((rlP (mTx μ) n [0, 0, 101, 97, 100] p).2) nu cm fi se)) := by
  have k141 : Cond.constantLong RX4 141 (255) ∈ wsX4_readsLetters := by decide +kernel
  refine MI.of (cc := cX4_readsLetters) (nL := 6) (ty := .boolean) (own := RX4) [some (.ref m), some (.long 6644068), none, none, none, none] (by decide +kernel) rfl rfl (Nat.le_of_ble_eq_true rfl) rfl rfl ?_
  intro x C R0
  refine g_iconst C (v := 1) dX4_readsLetters_0 rfl ?_
  refine g_istore_n C dX4_readsLetters_1 rfl (Nat.le_of_ble_eq_true rfl) rfl ?_
  refine g_bipush C (v := 32) dX4_readsLetters_2 rfl ?_
  refine g_istore C dX4_readsLetters_4 (Nat.le_of_ble_eq_true rfl) rfl ?_
  refine g_eq (ws' := (modT E m b μ (p) nu cm fi se)) (lv' := [some (.ref m), some (.long 6644068), none, some (.int 1), some (.int 32), none]) (st' := []) rfl rfl rfl ?_
  refine g_iload C dX4_readsLetters_6 rfl ?_
  refine g_if_lt_f C dX4_readsLetters_8 52 (by decide) (by decide) ?_
  refine g_iload_n C dX4_readsLetters_11 rfl rfl ?_
  refine g_if_eq_f C dX4_readsLetters_12 52 (by decide) (by decide) ?_
  refine g_lload_n C dX4_readsLetters_15 rfl rfl ?_
  refine g_iload C dX4_readsLetters_16 rfl ?_
  refine g_lshr C (v := 0) dX4_readsLetters_18 (by decide +kernel) ?_
  refine g_ldc2 C k141 dX4_readsLetters_19 ?_
  refine g_land C dX4_readsLetters_22 ?_
  refine g_l2i C dX4_readsLetters_23 ?_
  rw [show (((0 : Int64) &&& 255).toInt32) = 0 from by decide +kernel]
  refine g_istore C dX4_readsLetters_24 (Nat.le_of_ble_eq_true rfl) rfl ?_
  refine g_iload C dX4_readsLetters_26 rfl ?_
  refine g_if_eq_t C dX4_readsLetters_28 (tgt := 40) (by decide) (by decide) ?_
  refine g_iconst C (v := 1) dX4_readsLetters_40 rfl ?_
  refine g_goto C (tgt := 45) dX4_readsLetters_41 (by decide) ?_
  refine g_istore_n C dX4_readsLetters_45 rfl (Nat.le_of_ble_eq_true rfl) rfl ?_
  refine g_iinc C (v := 24) dX4_readsLetters_46 rfl rfl (by decide +kernel) ?_
  refine g_goto C (tgt := 6) dX4_readsLetters_49 (by decide) ?_
  refine g_eq (ws' := (modT E m b μ (p) nu cm fi se)) (lv' := [some (.ref m), some (.long 6644068), none, some (.int 1), some (.int 24), some (.int 0)]) (st' := []) rfl rfl rfl ?_
  refine g_iload C dX4_readsLetters_6 rfl ?_
  refine g_if_lt_f C dX4_readsLetters_8 52 (by decide) (by decide) ?_
  refine g_iload_n C dX4_readsLetters_11 rfl rfl ?_
  refine g_if_eq_f C dX4_readsLetters_12 52 (by decide) (by decide) ?_
  refine g_lload_n C dX4_readsLetters_15 rfl rfl ?_
  refine g_iload C dX4_readsLetters_16 rfl ?_
  refine g_lshr C (v := 0) dX4_readsLetters_18 (by decide +kernel) ?_
  refine g_ldc2 C k141 dX4_readsLetters_19 ?_
  refine g_land C dX4_readsLetters_22 ?_
  refine g_l2i C dX4_readsLetters_23 ?_
  rw [show (((0 : Int64) &&& 255).toInt32) = 0 from by decide +kernel]
  refine g_istore C dX4_readsLetters_24 (Nat.le_of_ble_eq_true rfl) rfl ?_
  refine g_iload C dX4_readsLetters_26 rfl ?_
  refine g_if_eq_t C dX4_readsLetters_28 (tgt := 40) (by decide) (by decide) ?_
  refine g_iconst C (v := 1) dX4_readsLetters_40 rfl ?_
  refine g_goto C (tgt := 45) dX4_readsLetters_41 (by decide) ?_
  refine g_istore_n C dX4_readsLetters_45 rfl (Nat.le_of_ble_eq_true rfl) rfl ?_
  refine g_iinc C (v := 16) dX4_readsLetters_46 rfl rfl (by decide +kernel) ?_
  refine g_goto C (tgt := 6) dX4_readsLetters_49 (by decide) ?_
  refine g_eq (ws' := (modT E m b μ (p) nu cm fi se)) (lv' := [some (.ref m), some (.long 6644068), none, some (.int 1), some (.int 16), some (.int 0)]) (st' := []) rfl rfl rfl ?_
  refine g_iload C dX4_readsLetters_6 rfl ?_
  refine g_if_lt_f C dX4_readsLetters_8 52 (by decide) (by decide) ?_
  refine g_iload_n C dX4_readsLetters_11 rfl rfl ?_
  refine g_if_eq_f C dX4_readsLetters_12 52 (by decide) (by decide) ?_
  refine g_lload_n C dX4_readsLetters_15 rfl rfl ?_
  refine g_iload C dX4_readsLetters_16 rfl ?_
  refine g_lshr C (v := 101) dX4_readsLetters_18 (by decide +kernel) ?_
  refine g_ldc2 C k141 dX4_readsLetters_19 ?_
  refine g_land C dX4_readsLetters_22 ?_
  refine g_l2i C dX4_readsLetters_23 ?_
  rw [show (((101 : Int64) &&& 255).toInt32) = 101 from by decide +kernel]
  refine g_istore C dX4_readsLetters_24 (Nat.le_of_ble_eq_true rfl) rfl ?_
  refine g_iload C dX4_readsLetters_26 rfl ?_
  refine g_if_eq_f C dX4_readsLetters_28 40 (by decide) (by decide) ?_
  refine g_aload_n C dX4_readsLetters_31 rfl rfl ?_
  refine g_iload C dX4_readsLetters_32 rfl ?_
  refine g_calliVF C 0 rfl rfl (c_X4_takes E m b μ n (p) hn hTL (by omega) nu cm fi se _) cf_X4_takes gX4_readsLetters_X4_takes rfl (fitD (Nat.le_of_ble_eq_true rfl) (Nat.le_of_ble_eq_true rfl)) rfl rfl (Nat.le_of_ble_eq_true rfl) dX4_readsLetters_34 (fun r1 w1 hp9 => ?_)
  obtain ⟨hl29, rfl, rfl⟩ | ⟨hl29, rfl, rfl⟩ := hp9
  · have hm29 : p + 1 ≤ n := hl29.1
    refine g_if_eq_f C dX4_readsLetters_37 44 (by decide) (by decide) ?_
    refine g_iconst C (v := 1) dX4_readsLetters_40 rfl ?_
    refine g_goto C (tgt := 45) dX4_readsLetters_41 (by decide) ?_
    refine g_istore_n C dX4_readsLetters_45 rfl (Nat.le_of_ble_eq_true rfl) rfl ?_
    refine g_iinc C (v := 8) dX4_readsLetters_46 rfl rfl (by decide +kernel) ?_
    refine g_goto C (tgt := 6) dX4_readsLetters_49 (by decide) ?_
    refine g_eq (ws' := (modT E m b μ (p + 1) nu cm fi se)) (lv' := [some (.ref m), some (.long 6644068), none, some (.int 1), some (.int 8), some (.int 101)]) (st' := []) rfl rfl rfl ?_
    refine g_iload C dX4_readsLetters_6 rfl ?_
    refine g_if_lt_f C dX4_readsLetters_8 52 (by decide) (by decide) ?_
    refine g_iload_n C dX4_readsLetters_11 rfl rfl ?_
    refine g_if_eq_f C dX4_readsLetters_12 52 (by decide) (by decide) ?_
    refine g_lload_n C dX4_readsLetters_15 rfl rfl ?_
    refine g_iload C dX4_readsLetters_16 rfl ?_
    refine g_lshr C (v := 25953) dX4_readsLetters_18 (by decide +kernel) ?_
    refine g_ldc2 C k141 dX4_readsLetters_19 ?_
    refine g_land C dX4_readsLetters_22 ?_
    refine g_l2i C dX4_readsLetters_23 ?_
    rw [show (((25953 : Int64) &&& 255).toInt32) = 97 from by decide +kernel]
    refine g_istore C dX4_readsLetters_24 (Nat.le_of_ble_eq_true rfl) rfl ?_
    refine g_iload C dX4_readsLetters_26 rfl ?_
    refine g_if_eq_f C dX4_readsLetters_28 40 (by decide) (by decide) ?_
    refine g_aload_n C dX4_readsLetters_31 rfl rfl ?_
    refine g_iload C dX4_readsLetters_32 rfl ?_
    refine g_calliVF C 0 rfl rfl (c_X4_takes E m b μ n (p + 1) hn hTL (by omega) nu cm fi se _) cf_X4_takes gX4_readsLetters_X4_takes rfl (fitD (Nat.le_of_ble_eq_true rfl) (Nat.le_of_ble_eq_true rfl)) rfl rfl (Nat.le_of_ble_eq_true rfl) dX4_readsLetters_34 (fun r1 w1 hp9 => ?_)
    obtain ⟨hl39, rfl, rfl⟩ | ⟨hl39, rfl, rfl⟩ := hp9
    · have hm39 : p + 1 + 1 ≤ n := hl39.1
      refine g_if_eq_f C dX4_readsLetters_37 44 (by decide) (by decide) ?_
      refine g_iconst C (v := 1) dX4_readsLetters_40 rfl ?_
      refine g_goto C (tgt := 45) dX4_readsLetters_41 (by decide) ?_
      refine g_istore_n C dX4_readsLetters_45 rfl (Nat.le_of_ble_eq_true rfl) rfl ?_
      refine g_iinc C (v := 0) dX4_readsLetters_46 rfl rfl (by decide +kernel) ?_
      refine g_goto C (tgt := 6) dX4_readsLetters_49 (by decide) ?_
      refine g_eq (ws' := (modT E m b μ (p + 1 + 1) nu cm fi se)) (lv' := [some (.ref m), some (.long 6644068), none, some (.int 1), some (.int 0), some (.int 97)]) (st' := []) rfl rfl rfl ?_
      refine g_iload C dX4_readsLetters_6 rfl ?_
      refine g_if_lt_f C dX4_readsLetters_8 52 (by decide) (by decide) ?_
      refine g_iload_n C dX4_readsLetters_11 rfl rfl ?_
      refine g_if_eq_f C dX4_readsLetters_12 52 (by decide) (by decide) ?_
      refine g_lload_n C dX4_readsLetters_15 rfl rfl ?_
      refine g_iload C dX4_readsLetters_16 rfl ?_
      refine g_lshr C (v := 6644068) dX4_readsLetters_18 (by decide +kernel) ?_
      refine g_ldc2 C k141 dX4_readsLetters_19 ?_
      refine g_land C dX4_readsLetters_22 ?_
      refine g_l2i C dX4_readsLetters_23 ?_
      rw [show (((6644068 : Int64) &&& 255).toInt32) = 100 from by decide +kernel]
      refine g_istore C dX4_readsLetters_24 (Nat.le_of_ble_eq_true rfl) rfl ?_
      refine g_iload C dX4_readsLetters_26 rfl ?_
      refine g_if_eq_f C dX4_readsLetters_28 40 (by decide) (by decide) ?_
      refine g_aload_n C dX4_readsLetters_31 rfl rfl ?_
      refine g_iload C dX4_readsLetters_32 rfl ?_
      refine g_calliVF C 0 rfl rfl (c_X4_takes E m b μ n (p + 1 + 1) hn hTL (by omega) nu cm fi se _) cf_X4_takes gX4_readsLetters_X4_takes rfl (fitD (Nat.le_of_ble_eq_true rfl) (Nat.le_of_ble_eq_true rfl)) rfl rfl (Nat.le_of_ble_eq_true rfl) dX4_readsLetters_34 (fun r1 w1 hp9 => ?_)
      obtain ⟨hl49, rfl, rfl⟩ | ⟨hl49, rfl, rfl⟩ := hp9
      · have hm49 : p + 1 + 1 + 1 ≤ n := hl49.1
        refine g_if_eq_f C dX4_readsLetters_37 44 (by decide) (by decide) ?_
        refine g_iconst C (v := 1) dX4_readsLetters_40 rfl ?_
        refine g_goto C (tgt := 45) dX4_readsLetters_41 (by decide) ?_
        refine g_istore_n C dX4_readsLetters_45 rfl (Nat.le_of_ble_eq_true rfl) rfl ?_
        refine g_iinc C (v := (-8)) dX4_readsLetters_46 rfl rfl (by decide +kernel) ?_
        refine g_goto C (tgt := 6) dX4_readsLetters_49 (by decide) ?_
        refine g_eq (ws' := (modT E m b μ (p + 1 + 1 + 1) nu cm fi se)) (lv' := [some (.ref m), some (.long 6644068), none, some (.int 1), some (.int (-8)), some (.int 100)]) (st' := []) rfl rfl rfl ?_
        refine g_iload C dX4_readsLetters_6 rfl ?_
        refine g_if_lt_t C dX4_readsLetters_8 (tgt := 52) (by decide) (by decide) ?_
        refine g_iload_n C dX4_readsLetters_52 rfl rfl ?_
        refine g_zret C R0 rfl dX4_readsLetters_53 ?_
        have he : rlP (mTx μ) n [0, 0, 101, 97, 100] p = (true, p + 1 + 1 + 1) := by rw [rlP, if_pos rfl, rlP, if_pos rfl, rlP, if_neg (by decide), if_pos hl29, rlP, if_neg (by decide), if_pos hl39, rlP, if_neg (by decide), if_pos hl49, rlP]
        refine pT_mk (c := true) (by rw [he]) (Or.inl ⟨rfl, rfl⟩) (by rw [he])
      · refine g_if_eq_t C dX4_readsLetters_37 (tgt := 44) (by decide) (by decide) ?_
        refine g_iconst C (v := 0) dX4_readsLetters_44 rfl ?_
        refine g_istore_n C dX4_readsLetters_45 rfl (Nat.le_of_ble_eq_true rfl) rfl ?_
        refine g_iinc C (v := (-8)) dX4_readsLetters_46 rfl rfl (by decide +kernel) ?_
        refine g_goto C (tgt := 6) dX4_readsLetters_49 (by decide) ?_
        refine g_eq (ws' := (modT E m b μ (p + 1 + 1) nu cm fi se)) (lv' := [some (.ref m), some (.long 6644068), none, some (.int 0), some (.int (-8)), some (.int 100)]) (st' := []) rfl rfl rfl ?_
        refine g_iload C dX4_readsLetters_6 rfl ?_
        refine g_if_lt_t C dX4_readsLetters_8 (tgt := 52) (by decide) (by decide) ?_
        refine g_iload_n C dX4_readsLetters_52 rfl rfl ?_
        refine g_zret C R0 rfl dX4_readsLetters_53 ?_
        have he : rlP (mTx μ) n [0, 0, 101, 97, 100] p = (false, p + 1 + 1) := by rw [rlP, if_pos rfl, rlP, if_pos rfl, rlP, if_neg (by decide), if_pos hl29, rlP, if_neg (by decide), if_pos hl39, rlP, if_neg (by decide), if_neg hl49]
        refine pT_mk (c := false) (by rw [he]) (Or.inr ⟨rfl, rfl⟩) (by rw [he])
    · refine g_if_eq_t C dX4_readsLetters_37 (tgt := 44) (by decide) (by decide) ?_
      refine g_iconst C (v := 0) dX4_readsLetters_44 rfl ?_
      refine g_istore_n C dX4_readsLetters_45 rfl (Nat.le_of_ble_eq_true rfl) rfl ?_
      refine g_iinc C (v := 0) dX4_readsLetters_46 rfl rfl (by decide +kernel) ?_
      refine g_goto C (tgt := 6) dX4_readsLetters_49 (by decide) ?_
      refine g_eq (ws' := (modT E m b μ (p + 1) nu cm fi se)) (lv' := [some (.ref m), some (.long 6644068), none, some (.int 0), some (.int 0), some (.int 97)]) (st' := []) rfl rfl rfl ?_
      refine g_iload C dX4_readsLetters_6 rfl ?_
      refine g_if_lt_f C dX4_readsLetters_8 52 (by decide) (by decide) ?_
      refine g_iload_n C dX4_readsLetters_11 rfl rfl ?_
      refine g_if_eq_t C dX4_readsLetters_12 (tgt := 52) (by decide) (by decide) ?_
      refine g_iload_n C dX4_readsLetters_52 rfl rfl ?_
      refine g_zret C R0 rfl dX4_readsLetters_53 ?_
      have he : rlP (mTx μ) n [0, 0, 101, 97, 100] p = (false, p + 1) := by rw [rlP, if_pos rfl, rlP, if_pos rfl, rlP, if_neg (by decide), if_pos hl29, rlP, if_neg (by decide), if_neg hl39]
      refine pT_mk (c := false) (by rw [he]) (Or.inr ⟨rfl, rfl⟩) (by rw [he])
  · refine g_if_eq_t C dX4_readsLetters_37 (tgt := 44) (by decide) (by decide) ?_
    refine g_iconst C (v := 0) dX4_readsLetters_44 rfl ?_
    refine g_istore_n C dX4_readsLetters_45 rfl (Nat.le_of_ble_eq_true rfl) rfl ?_
    refine g_iinc C (v := 8) dX4_readsLetters_46 rfl rfl (by decide +kernel) ?_
    refine g_goto C (tgt := 6) dX4_readsLetters_49 (by decide) ?_
    refine g_eq (ws' := (modT E m b μ (p) nu cm fi se)) (lv' := [some (.ref m), some (.long 6644068), none, some (.int 0), some (.int 8), some (.int 101)]) (st' := []) rfl rfl rfl ?_
    refine g_iload C dX4_readsLetters_6 rfl ?_
    refine g_if_lt_f C dX4_readsLetters_8 52 (by decide) (by decide) ?_
    refine g_iload_n C dX4_readsLetters_11 rfl rfl ?_
    refine g_if_eq_t C dX4_readsLetters_12 (tgt := 52) (by decide) (by decide) ?_
    refine g_iload_n C dX4_readsLetters_52 rfl rfl ?_
    refine g_zret C R0 rfl dX4_readsLetters_53 ?_
    have he : rlP (mTx μ) n [0, 0, 101, 97, 100] p = (false, p) := by rw [rlP, if_pos rfl, rlP, if_pos rfl, rlP, if_neg (by decide), if_neg hl29]
    refine pT_mk (c := false) (by rw [he]) (Or.inr ⟨rfl, rfl⟩) (by rw [he])
set_option maxHeartbeats 4000000 in
set_option maxRecDepth 100000 in
theorem c_X4_readsLetters_6644084 (E : Ev) (m : Nat) (b : Nat → Nat) (μ : MD) (n p : Nat) (hn : n ≤ 80) (hTL : mTL μ = nI n) (hp : p ≤ n) (nu cm fi se : Int32) : MI E yX4_readsLetters wsX4_readsLetters (rmD 3) (modT E m b μ (p) nu cm fi se) [.ref m, .long 6644084] (pT (rlP (mTx μ) n [0, 0, 101, 97, 116] p).1 (modT E m b μ ((rlP (mTx μ) n [0, 0, 101, 97, 116] p).2) nu cm fi se)) := by
  have k141 : Cond.constantLong RX4 141 (255) ∈ wsX4_readsLetters := by decide +kernel
  refine MI.of (cc := cX4_readsLetters) (nL := 6) (ty := .boolean) (own := RX4) [some (.ref m), some (.long 6644084), none, none, none, none] (by decide +kernel) rfl rfl (Nat.le_of_ble_eq_true rfl) rfl rfl ?_
  intro x C R0
  refine g_iconst C (v := 1) dX4_readsLetters_0 rfl ?_
  refine g_istore_n C dX4_readsLetters_1 rfl (Nat.le_of_ble_eq_true rfl) rfl ?_
  refine g_bipush C (v := 32) dX4_readsLetters_2 rfl ?_
  refine g_istore C dX4_readsLetters_4 (Nat.le_of_ble_eq_true rfl) rfl ?_
  refine g_eq (ws' := (modT E m b μ (p) nu cm fi se)) (lv' := [some (.ref m), some (.long 6644084), none, some (.int 1), some (.int 32), none]) (st' := []) rfl rfl rfl ?_
  refine g_iload C dX4_readsLetters_6 rfl ?_
  refine g_if_lt_f C dX4_readsLetters_8 52 (by decide) (by decide) ?_
  refine g_iload_n C dX4_readsLetters_11 rfl rfl ?_
  refine g_if_eq_f C dX4_readsLetters_12 52 (by decide) (by decide) ?_
  refine g_lload_n C dX4_readsLetters_15 rfl rfl ?_
  refine g_iload C dX4_readsLetters_16 rfl ?_
  refine g_lshr C (v := 0) dX4_readsLetters_18 (by decide +kernel) ?_
  refine g_ldc2 C k141 dX4_readsLetters_19 ?_
  refine g_land C dX4_readsLetters_22 ?_
  refine g_l2i C dX4_readsLetters_23 ?_
  rw [show (((0 : Int64) &&& 255).toInt32) = 0 from by decide +kernel]
  refine g_istore C dX4_readsLetters_24 (Nat.le_of_ble_eq_true rfl) rfl ?_
  refine g_iload C dX4_readsLetters_26 rfl ?_
  refine g_if_eq_t C dX4_readsLetters_28 (tgt := 40) (by decide) (by decide) ?_
  refine g_iconst C (v := 1) dX4_readsLetters_40 rfl ?_
  refine g_goto C (tgt := 45) dX4_readsLetters_41 (by decide) ?_
  refine g_istore_n C dX4_readsLetters_45 rfl (Nat.le_of_ble_eq_true rfl) rfl ?_
  refine g_iinc C (v := 24) dX4_readsLetters_46 rfl rfl (by decide +kernel) ?_
  refine g_goto C (tgt := 6) dX4_readsLetters_49 (by decide) ?_
  refine g_eq (ws' := (modT E m b μ (p) nu cm fi se)) (lv' := [some (.ref m), some (.long 6644084), none, some (.int 1), some (.int 24), some (.int 0)]) (st' := []) rfl rfl rfl ?_
  refine g_iload C dX4_readsLetters_6 rfl ?_
  refine g_if_lt_f C dX4_readsLetters_8 52 (by decide) (by decide) ?_
  refine g_iload_n C dX4_readsLetters_11 rfl rfl ?_
  refine g_if_eq_f C dX4_readsLetters_12 52 (by decide) (by decide) ?_
  refine g_lload_n C dX4_readsLetters_15 rfl rfl ?_
  refine g_iload C dX4_readsLetters_16 rfl ?_
  refine g_lshr C (v := 0) dX4_readsLetters_18 (by decide +kernel) ?_
  refine g_ldc2 C k141 dX4_readsLetters_19 ?_
  refine g_land C dX4_readsLetters_22 ?_
  refine g_l2i C dX4_readsLetters_23 ?_
  rw [show (((0 : Int64) &&& 255).toInt32) = 0 from by decide +kernel]
  refine g_istore C dX4_readsLetters_24 (Nat.le_of_ble_eq_true rfl) rfl ?_
  refine g_iload C dX4_readsLetters_26 rfl ?_
  refine g_if_eq_t C dX4_readsLetters_28 (tgt := 40) (by decide) (by decide) ?_
  refine g_iconst C (v := 1) dX4_readsLetters_40 rfl ?_
  refine g_goto C (tgt := 45) dX4_readsLetters_41 (by decide) ?_
  refine g_istore_n C dX4_readsLetters_45 rfl (Nat.le_of_ble_eq_true rfl) rfl ?_
  refine g_iinc C (v := 16) dX4_readsLetters_46 rfl rfl (by decide +kernel) ?_
  refine g_goto C (tgt := 6) dX4_readsLetters_49 (by decide) ?_
  refine g_eq (ws' := (modT E m b μ (p) nu cm fi se)) (lv' := [some (.ref m), some (.long 6644084), none, some (.int 1), some (.int 16), some (.int 0)]) (st' := []) rfl rfl rfl ?_
  refine g_iload C dX4_readsLetters_6 rfl ?_
  refine g_if_lt_f C dX4_readsLetters_8 52 (by decide) (by decide) ?_
  refine g_iload_n C dX4_readsLetters_11 rfl rfl ?_
  refine g_if_eq_f C dX4_readsLetters_12 52 (by decide) (by decide) ?_
  refine g_lload_n C dX4_readsLetters_15 rfl rfl ?_
  refine g_iload C dX4_readsLetters_16 rfl ?_
  refine g_lshr C (v := 101) dX4_readsLetters_18 (by decide +kernel) ?_
  refine g_ldc2 C k141 dX4_readsLetters_19 ?_
  refine g_land C dX4_readsLetters_22 ?_
  refine g_l2i C dX4_readsLetters_23 ?_
  rw [show (((101 : Int64) &&& 255).toInt32) = 101 from by decide +kernel]
  refine g_istore C dX4_readsLetters_24 (Nat.le_of_ble_eq_true rfl) rfl ?_
  refine g_iload C dX4_readsLetters_26 rfl ?_
  refine g_if_eq_f C dX4_readsLetters_28 40 (by decide) (by decide) ?_
  refine g_aload_n C dX4_readsLetters_31 rfl rfl ?_
  refine g_iload C dX4_readsLetters_32 rfl ?_
  refine g_calliVF C 0 rfl rfl (c_X4_takes E m b μ n (p) hn hTL (by omega) nu cm fi se _) cf_X4_takes gX4_readsLetters_X4_takes rfl (fitD (Nat.le_of_ble_eq_true rfl) (Nat.le_of_ble_eq_true rfl)) rfl rfl (Nat.le_of_ble_eq_true rfl) dX4_readsLetters_34 (fun r1 w1 hp9 => ?_)
  obtain ⟨hl29, rfl, rfl⟩ | ⟨hl29, rfl, rfl⟩ := hp9
  · have hm29 : p + 1 ≤ n := hl29.1
    refine g_if_eq_f C dX4_readsLetters_37 44 (by decide) (by decide) ?_
    refine g_iconst C (v := 1) dX4_readsLetters_40 rfl ?_
    refine g_goto C (tgt := 45) dX4_readsLetters_41 (by decide) ?_
    refine g_istore_n C dX4_readsLetters_45 rfl (Nat.le_of_ble_eq_true rfl) rfl ?_
    refine g_iinc C (v := 8) dX4_readsLetters_46 rfl rfl (by decide +kernel) ?_
    refine g_goto C (tgt := 6) dX4_readsLetters_49 (by decide) ?_
    refine g_eq (ws' := (modT E m b μ (p + 1) nu cm fi se)) (lv' := [some (.ref m), some (.long 6644084), none, some (.int 1), some (.int 8), some (.int 101)]) (st' := []) rfl rfl rfl ?_
    refine g_iload C dX4_readsLetters_6 rfl ?_
    refine g_if_lt_f C dX4_readsLetters_8 52 (by decide) (by decide) ?_
    refine g_iload_n C dX4_readsLetters_11 rfl rfl ?_
    refine g_if_eq_f C dX4_readsLetters_12 52 (by decide) (by decide) ?_
    refine g_lload_n C dX4_readsLetters_15 rfl rfl ?_
    refine g_iload C dX4_readsLetters_16 rfl ?_
    refine g_lshr C (v := 25953) dX4_readsLetters_18 (by decide +kernel) ?_
    refine g_ldc2 C k141 dX4_readsLetters_19 ?_
    refine g_land C dX4_readsLetters_22 ?_
    refine g_l2i C dX4_readsLetters_23 ?_
    rw [show (((25953 : Int64) &&& 255).toInt32) = 97 from by decide +kernel]
    refine g_istore C dX4_readsLetters_24 (Nat.le_of_ble_eq_true rfl) rfl ?_
    refine g_iload C dX4_readsLetters_26 rfl ?_
    refine g_if_eq_f C dX4_readsLetters_28 40 (by decide) (by decide) ?_
    refine g_aload_n C dX4_readsLetters_31 rfl rfl ?_
    refine g_iload C dX4_readsLetters_32 rfl ?_
    refine g_calliVF C 0 rfl rfl (c_X4_takes E m b μ n (p + 1) hn hTL (by omega) nu cm fi se _) cf_X4_takes gX4_readsLetters_X4_takes rfl (fitD (Nat.le_of_ble_eq_true rfl) (Nat.le_of_ble_eq_true rfl)) rfl rfl (Nat.le_of_ble_eq_true rfl) dX4_readsLetters_34 (fun r1 w1 hp9 => ?_)
    obtain ⟨hl39, rfl, rfl⟩ | ⟨hl39, rfl, rfl⟩ := hp9
    · have hm39 : p + 1 + 1 ≤ n := hl39.1
      refine g_if_eq_f C dX4_readsLetters_37 44 (by decide) (by decide) ?_
      refine g_iconst C (v := 1) dX4_readsLetters_40 rfl ?_
      refine g_goto C (tgt := 45) dX4_readsLetters_41 (by decide) ?_
      refine g_istore_n C dX4_readsLetters_45 rfl (Nat.le_of_ble_eq_true rfl) rfl ?_
      refine g_iinc C (v := 0) dX4_readsLetters_46 rfl rfl (by decide +kernel) ?_
      refine g_goto C (tgt := 6) dX4_readsLetters_49 (by decide) ?_
      refine g_eq (ws' := (modT E m b μ (p + 1 + 1) nu cm fi se)) (lv' := [some (.ref m), some (.long 6644084), none, some (.int 1), some (.int 0), some (.int 97)]) (st' := []) rfl rfl rfl ?_
      refine g_iload C dX4_readsLetters_6 rfl ?_
      refine g_if_lt_f C dX4_readsLetters_8 52 (by decide) (by decide) ?_
      refine g_iload_n C dX4_readsLetters_11 rfl rfl ?_
      refine g_if_eq_f C dX4_readsLetters_12 52 (by decide) (by decide) ?_
      refine g_lload_n C dX4_readsLetters_15 rfl rfl ?_
      refine g_iload C dX4_readsLetters_16 rfl ?_
      refine g_lshr C (v := 6644084) dX4_readsLetters_18 (by decide +kernel) ?_
      refine g_ldc2 C k141 dX4_readsLetters_19 ?_
      refine g_land C dX4_readsLetters_22 ?_
      refine g_l2i C dX4_readsLetters_23 ?_
      rw [show (((6644084 : Int64) &&& 255).toInt32) = 116 from by decide +kernel]
      refine g_istore C dX4_readsLetters_24 (Nat.le_of_ble_eq_true rfl) rfl ?_
      refine g_iload C dX4_readsLetters_26 rfl ?_
      refine g_if_eq_f C dX4_readsLetters_28 40 (by decide) (by decide) ?_
      refine g_aload_n C dX4_readsLetters_31 rfl rfl ?_
      refine g_iload C dX4_readsLetters_32 rfl ?_
      refine g_calliVF C 0 rfl rfl (c_X4_takes E m b μ n (p + 1 + 1) hn hTL (by omega) nu cm fi se _) cf_X4_takes gX4_readsLetters_X4_takes rfl (fitD (Nat.le_of_ble_eq_true rfl) (Nat.le_of_ble_eq_true rfl)) rfl rfl (Nat.le_of_ble_eq_true rfl) dX4_readsLetters_34 (fun r1 w1 hp9 => ?_)
      obtain ⟨hl49, rfl, rfl⟩ | ⟨hl49, rfl, rfl⟩ := hp9
      · have hm49 : p + 1 + 1 + 1 ≤ n := hl49.1
        refine g_if_eq_f C dX4_readsLetters_37 44 (by decide) (by decide) ?_
        refine g_iconst C (v := 1) dX4_readsLetters_40 rfl ?_
        refine g_goto C (tgt := 45) dX4_readsLetters_41 (by decide) ?_
        refine g_istore_n C dX4_readsLetters_45 rfl (Nat.le_of_ble_eq_true rfl) rfl ?_
        refine g_iinc C (v := (-8)) dX4_readsLetters_46 rfl rfl (by decide +kernel) ?_
        refine g_goto C (tgt := 6) dX4_readsLetters_49 (by decide) ?_
        refine g_eq (ws' := (modT E m b μ (p + 1 + 1 + 1) nu cm fi se)) (lv' := [some (.ref m), some (.long 6644084), none, some (.int 1), some (.int (-8)), some (.int 116)]) (st' := []) rfl rfl rfl ?_
        refine g_iload C dX4_readsLetters_6 rfl ?_
        refine g_if_lt_t C dX4_readsLetters_8 (tgt := 52) (by decide) (by decide) ?_
        refine g_iload_n C dX4_readsLetters_52 rfl rfl ?_
        refine g_zret C R0 rfl dX4_readsLetters_53 ?_
        have he : rlP (mTx μ) n [0, 0, 101, 97, 116] p = (true, p + 1 + 1 + 1) := by rw [rlP, if_pos rfl, rlP, if_pos rfl, rlP, if_neg (by decide), if_pos hl29, rlP, if_neg (by decide), if_pos hl39, rlP, if_neg (by decide), if_pos hl49, rlP]
        refine pT_mk (c := true) (by rw [he]) (Or.inl ⟨rfl, rfl⟩) (by rw [he])
      · refine g_if_eq_t C dX4_readsLetters_37 (tgt := 44) (by decide) (by decide) ?_
        refine g_iconst C (v := 0) dX4_readsLetters_44 rfl ?_
        refine g_istore_n C dX4_readsLetters_45 rfl (Nat.le_of_ble_eq_true rfl) rfl ?_
        refine g_iinc C (v := (-8)) dX4_readsLetters_46 rfl rfl (by decide +kernel) ?_
        refine g_goto C (tgt := 6) dX4_readsLetters_49 (by decide) ?_
        refine g_eq (ws' := (modT E m b μ (p + 1 + 1) nu cm fi se)) (lv' := [some (.ref m), some (.long 6644084), none, some (.int 0), some (.int (-8)), some (.int 116)]) (st' := []) rfl rfl rfl ?_
        refine g_iload C dX4_readsLetters_6 rfl ?_
        refine g_if_lt_t C dX4_readsLetters_8 (tgt := 52) (by decide) (by decide) ?_
        refine g_iload_n C dX4_readsLetters_52 rfl rfl ?_
        refine g_zret C R0 rfl dX4_readsLetters_53 ?_
        have he : rlP (mTx μ) n [0, 0, 101, 97, 116] p = (false, p + 1 + 1) := by rw [rlP, if_pos rfl, rlP, if_pos rfl, rlP, if_neg (by decide), if_pos hl29, rlP, if_neg (by decide), if_pos hl39, rlP, if_neg (by decide), if_neg hl49]
        refine pT_mk (c := false) (by rw [he]) (Or.inr ⟨rfl, rfl⟩) (by rw [he])
    · refine g_if_eq_t C dX4_readsLetters_37 (tgt := 44) (by decide) (by decide) ?_
      refine g_iconst C (v := 0) dX4_readsLetters_44 rfl ?_
      refine g_istore_n C dX4_readsLetters_45 rfl (Nat.le_of_ble_eq_true rfl) rfl ?_
      refine g_iinc C (v := 0) dX4_readsLetters_46 rfl rfl (by decide +kernel) ?_
      refine g_goto C (tgt := 6) dX4_readsLetters_49 (by decide) ?_
      refine g_eq (ws' := (modT E m b μ (p + 1) nu cm fi se)) (lv' := [some (.ref m), some (.long 6644084), none, some (.int 0), some (.int 0), some (.int 97)]) (st' := []) rfl rfl rfl ?_
      refine g_iload C dX4_readsLetters_6 rfl ?_
      refine g_if_lt_f C dX4_readsLetters_8 52 (by decide) (by decide) ?_
      refine g_iload_n C dX4_readsLetters_11 rfl rfl ?_
      refine g_if_eq_t C dX4_readsLetters_12 (tgt := 52) (by decide) (by decide) ?_
      refine g_iload_n C dX4_readsLetters_52 rfl rfl ?_
      refine g_zret C R0 rfl dX4_readsLetters_53 ?_
      have he : rlP (mTx μ) n [0, 0, 101, 97, 116] p = (false, p + 1) := by rw [rlP, if_pos rfl, rlP, if_pos rfl, rlP, if_neg (by decide), if_pos hl29, rlP, if_neg (by decide), if_neg hl39]
      refine pT_mk (c := false) (by rw [he]) (Or.inr ⟨rfl, rfl⟩) (by rw [he])
  · refine g_if_eq_t C dX4_readsLetters_37 (tgt := 44) (by decide) (by decide) ?_
    refine g_iconst C (v := 0) dX4_readsLetters_44 rfl ?_
    refine g_istore_n C dX4_readsLetters_45 rfl (Nat.le_of_ble_eq_true rfl) rfl ?_
    refine g_iinc C (v := 8) dX4_readsLetters_46 rfl rfl (by decide +kernel) ?_
    refine g_goto C (tgt := 6) dX4_readsLetters_49 (by decide) ?_
    refine g_eq (ws' := (modT E m b μ (p) nu cm fi se)) (lv' := [some (.ref m), some (.long 6644084), none, some (.int 0), some (.int 8), some (.int 101)]) (st' := []) rfl rfl rfl ?_
    refine g_iload C dX4_readsLetters_6 rfl ?_
    refine g_if_lt_f C dX4_readsLetters_8 52 (by decide) (by decide) ?_
    refine g_iload_n C dX4_readsLetters_11 rfl rfl ?_
    refine g_if_eq_t C dX4_readsLetters_12 (tgt := 52) (by decide) (by decide) ?_
    refine g_iload_n C dX4_readsLetters_52 rfl rfl ?_
    refine g_zret C R0 rfl dX4_readsLetters_53 ?_
    have he : rlP (mTx μ) n [0, 0, 101, 97, 116] p = (false, p) := by rw [rlP, if_pos rfl, rlP, if_pos rfl, rlP, if_neg (by decide), if_neg hl29]
    refine pT_mk (c := false) (by rw [he]) (Or.inr ⟨rfl, rfl⟩) (by rw [he])
set_option maxHeartbeats 4000000 in
set_option maxRecDepth 100000 in
theorem c_X4_readsLetters_1919513701 (E : Ev) (m : Nat) (b : Nat → Nat) (μ : MD) (n p : Nat) (hn : n ≤ 80) (hTL : mTL μ = nI n) (hp : p ≤ n) (nu cm fi se : Int32) : MI E yX4_readsLetters wsX4_readsLetters (rmD 3) (modT E m b μ (p) nu cm fi se) [.ref m, .long 1919513701] (pT (rlP (mTx μ) n [0, 114, 105, 116, 101] p).1 (modT E m b μ ((rlP (mTx μ) n [0, 114, 105, 116, 101] p).2) nu cm fi se)) := by
  have k141 : Cond.constantLong RX4 141 (255) ∈ wsX4_readsLetters := by decide +kernel
  refine MI.of (cc := cX4_readsLetters) (nL := 6) (ty := .boolean) (own := RX4) [some (.ref m), some (.long 1919513701), none, none, none, none] (by decide +kernel) rfl rfl (Nat.le_of_ble_eq_true rfl) rfl rfl ?_
  intro x C R0
  refine g_iconst C (v := 1) dX4_readsLetters_0 rfl ?_
  refine g_istore_n C dX4_readsLetters_1 rfl (Nat.le_of_ble_eq_true rfl) rfl ?_
  refine g_bipush C (v := 32) dX4_readsLetters_2 rfl ?_
  refine g_istore C dX4_readsLetters_4 (Nat.le_of_ble_eq_true rfl) rfl ?_
  refine g_eq (ws' := (modT E m b μ (p) nu cm fi se)) (lv' := [some (.ref m), some (.long 1919513701), none, some (.int 1), some (.int 32), none]) (st' := []) rfl rfl rfl ?_
  refine g_iload C dX4_readsLetters_6 rfl ?_
  refine g_if_lt_f C dX4_readsLetters_8 52 (by decide) (by decide) ?_
  refine g_iload_n C dX4_readsLetters_11 rfl rfl ?_
  refine g_if_eq_f C dX4_readsLetters_12 52 (by decide) (by decide) ?_
  refine g_lload_n C dX4_readsLetters_15 rfl rfl ?_
  refine g_iload C dX4_readsLetters_16 rfl ?_
  refine g_lshr C (v := 0) dX4_readsLetters_18 (by decide +kernel) ?_
  refine g_ldc2 C k141 dX4_readsLetters_19 ?_
  refine g_land C dX4_readsLetters_22 ?_
  refine g_l2i C dX4_readsLetters_23 ?_
  rw [show (((0 : Int64) &&& 255).toInt32) = 0 from by decide +kernel]
  refine g_istore C dX4_readsLetters_24 (Nat.le_of_ble_eq_true rfl) rfl ?_
  refine g_iload C dX4_readsLetters_26 rfl ?_
  refine g_if_eq_t C dX4_readsLetters_28 (tgt := 40) (by decide) (by decide) ?_
  refine g_iconst C (v := 1) dX4_readsLetters_40 rfl ?_
  refine g_goto C (tgt := 45) dX4_readsLetters_41 (by decide) ?_
  refine g_istore_n C dX4_readsLetters_45 rfl (Nat.le_of_ble_eq_true rfl) rfl ?_
  refine g_iinc C (v := 24) dX4_readsLetters_46 rfl rfl (by decide +kernel) ?_
  refine g_goto C (tgt := 6) dX4_readsLetters_49 (by decide) ?_
  refine g_eq (ws' := (modT E m b μ (p) nu cm fi se)) (lv' := [some (.ref m), some (.long 1919513701), none, some (.int 1), some (.int 24), some (.int 0)]) (st' := []) rfl rfl rfl ?_
  refine g_iload C dX4_readsLetters_6 rfl ?_
  refine g_if_lt_f C dX4_readsLetters_8 52 (by decide) (by decide) ?_
  refine g_iload_n C dX4_readsLetters_11 rfl rfl ?_
  refine g_if_eq_f C dX4_readsLetters_12 52 (by decide) (by decide) ?_
  refine g_lload_n C dX4_readsLetters_15 rfl rfl ?_
  refine g_iload C dX4_readsLetters_16 rfl ?_
  refine g_lshr C (v := 114) dX4_readsLetters_18 (by decide +kernel) ?_
  refine g_ldc2 C k141 dX4_readsLetters_19 ?_
  refine g_land C dX4_readsLetters_22 ?_
  refine g_l2i C dX4_readsLetters_23 ?_
  rw [show (((114 : Int64) &&& 255).toInt32) = 114 from by decide +kernel]
  refine g_istore C dX4_readsLetters_24 (Nat.le_of_ble_eq_true rfl) rfl ?_
  refine g_iload C dX4_readsLetters_26 rfl ?_
  refine g_if_eq_f C dX4_readsLetters_28 40 (by decide) (by decide) ?_
  refine g_aload_n C dX4_readsLetters_31 rfl rfl ?_
  refine g_iload C dX4_readsLetters_32 rfl ?_
  refine g_calliVF C 0 rfl rfl (c_X4_takes E m b μ n (p) hn hTL (by omega) nu cm fi se _) cf_X4_takes gX4_readsLetters_X4_takes rfl (fitD (Nat.le_of_ble_eq_true rfl) (Nat.le_of_ble_eq_true rfl)) rfl rfl (Nat.le_of_ble_eq_true rfl) dX4_readsLetters_34 (fun r1 w1 hp9 => ?_)
  obtain ⟨hl19, rfl, rfl⟩ | ⟨hl19, rfl, rfl⟩ := hp9
  · have hm19 : p + 1 ≤ n := hl19.1
    refine g_if_eq_f C dX4_readsLetters_37 44 (by decide) (by decide) ?_
    refine g_iconst C (v := 1) dX4_readsLetters_40 rfl ?_
    refine g_goto C (tgt := 45) dX4_readsLetters_41 (by decide) ?_
    refine g_istore_n C dX4_readsLetters_45 rfl (Nat.le_of_ble_eq_true rfl) rfl ?_
    refine g_iinc C (v := 16) dX4_readsLetters_46 rfl rfl (by decide +kernel) ?_
    refine g_goto C (tgt := 6) dX4_readsLetters_49 (by decide) ?_
    refine g_eq (ws' := (modT E m b μ (p + 1) nu cm fi se)) (lv' := [some (.ref m), some (.long 1919513701), none, some (.int 1), some (.int 16), some (.int 114)]) (st' := []) rfl rfl rfl ?_
    refine g_iload C dX4_readsLetters_6 rfl ?_
    refine g_if_lt_f C dX4_readsLetters_8 52 (by decide) (by decide) ?_
    refine g_iload_n C dX4_readsLetters_11 rfl rfl ?_
    refine g_if_eq_f C dX4_readsLetters_12 52 (by decide) (by decide) ?_
    refine g_lload_n C dX4_readsLetters_15 rfl rfl ?_
    refine g_iload C dX4_readsLetters_16 rfl ?_
    refine g_lshr C (v := 29289) dX4_readsLetters_18 (by decide +kernel) ?_
    refine g_ldc2 C k141 dX4_readsLetters_19 ?_
    refine g_land C dX4_readsLetters_22 ?_
    refine g_l2i C dX4_readsLetters_23 ?_
    rw [show (((29289 : Int64) &&& 255).toInt32) = 105 from by decide +kernel]
    refine g_istore C dX4_readsLetters_24 (Nat.le_of_ble_eq_true rfl) rfl ?_
    refine g_iload C dX4_readsLetters_26 rfl ?_
    refine g_if_eq_f C dX4_readsLetters_28 40 (by decide) (by decide) ?_
    refine g_aload_n C dX4_readsLetters_31 rfl rfl ?_
    refine g_iload C dX4_readsLetters_32 rfl ?_
    refine g_calliVF C 0 rfl rfl (c_X4_takes E m b μ n (p + 1) hn hTL (by omega) nu cm fi se _) cf_X4_takes gX4_readsLetters_X4_takes rfl (fitD (Nat.le_of_ble_eq_true rfl) (Nat.le_of_ble_eq_true rfl)) rfl rfl (Nat.le_of_ble_eq_true rfl) dX4_readsLetters_34 (fun r1 w1 hp9 => ?_)
    obtain ⟨hl29, rfl, rfl⟩ | ⟨hl29, rfl, rfl⟩ := hp9
    · have hm29 : p + 1 + 1 ≤ n := hl29.1
      refine g_if_eq_f C dX4_readsLetters_37 44 (by decide) (by decide) ?_
      refine g_iconst C (v := 1) dX4_readsLetters_40 rfl ?_
      refine g_goto C (tgt := 45) dX4_readsLetters_41 (by decide) ?_
      refine g_istore_n C dX4_readsLetters_45 rfl (Nat.le_of_ble_eq_true rfl) rfl ?_
      refine g_iinc C (v := 8) dX4_readsLetters_46 rfl rfl (by decide +kernel) ?_
      refine g_goto C (tgt := 6) dX4_readsLetters_49 (by decide) ?_
      refine g_eq (ws' := (modT E m b μ (p + 1 + 1) nu cm fi se)) (lv' := [some (.ref m), some (.long 1919513701), none, some (.int 1), some (.int 8), some (.int 105)]) (st' := []) rfl rfl rfl ?_
      refine g_iload C dX4_readsLetters_6 rfl ?_
      refine g_if_lt_f C dX4_readsLetters_8 52 (by decide) (by decide) ?_
      refine g_iload_n C dX4_readsLetters_11 rfl rfl ?_
      refine g_if_eq_f C dX4_readsLetters_12 52 (by decide) (by decide) ?_
      refine g_lload_n C dX4_readsLetters_15 rfl rfl ?_
      refine g_iload C dX4_readsLetters_16 rfl ?_
      refine g_lshr C (v := 7498100) dX4_readsLetters_18 (by decide +kernel) ?_
      refine g_ldc2 C k141 dX4_readsLetters_19 ?_
      refine g_land C dX4_readsLetters_22 ?_
      refine g_l2i C dX4_readsLetters_23 ?_
      rw [show (((7498100 : Int64) &&& 255).toInt32) = 116 from by decide +kernel]
      refine g_istore C dX4_readsLetters_24 (Nat.le_of_ble_eq_true rfl) rfl ?_
      refine g_iload C dX4_readsLetters_26 rfl ?_
      refine g_if_eq_f C dX4_readsLetters_28 40 (by decide) (by decide) ?_
      refine g_aload_n C dX4_readsLetters_31 rfl rfl ?_
      refine g_iload C dX4_readsLetters_32 rfl ?_
      refine g_calliVF C 0 rfl rfl (c_X4_takes E m b μ n (p + 1 + 1) hn hTL (by omega) nu cm fi se _) cf_X4_takes gX4_readsLetters_X4_takes rfl (fitD (Nat.le_of_ble_eq_true rfl) (Nat.le_of_ble_eq_true rfl)) rfl rfl (Nat.le_of_ble_eq_true rfl) dX4_readsLetters_34 (fun r1 w1 hp9 => ?_)
      obtain ⟨hl39, rfl, rfl⟩ | ⟨hl39, rfl, rfl⟩ := hp9
      · have hm39 : p + 1 + 1 + 1 ≤ n := hl39.1
        refine g_if_eq_f C dX4_readsLetters_37 44 (by decide) (by decide) ?_
        refine g_iconst C (v := 1) dX4_readsLetters_40 rfl ?_
        refine g_goto C (tgt := 45) dX4_readsLetters_41 (by decide) ?_
        refine g_istore_n C dX4_readsLetters_45 rfl (Nat.le_of_ble_eq_true rfl) rfl ?_
        refine g_iinc C (v := 0) dX4_readsLetters_46 rfl rfl (by decide +kernel) ?_
        refine g_goto C (tgt := 6) dX4_readsLetters_49 (by decide) ?_
        refine g_eq (ws' := (modT E m b μ (p + 1 + 1 + 1) nu cm fi se)) (lv' := [some (.ref m), some (.long 1919513701), none, some (.int 1), some (.int 0), some (.int 116)]) (st' := []) rfl rfl rfl ?_
        refine g_iload C dX4_readsLetters_6 rfl ?_
        refine g_if_lt_f C dX4_readsLetters_8 52 (by decide) (by decide) ?_
        refine g_iload_n C dX4_readsLetters_11 rfl rfl ?_
        refine g_if_eq_f C dX4_readsLetters_12 52 (by decide) (by decide) ?_
        refine g_lload_n C dX4_readsLetters_15 rfl rfl ?_
        refine g_iload C dX4_readsLetters_16 rfl ?_
        refine g_lshr C (v := 1919513701) dX4_readsLetters_18 (by decide +kernel) ?_
        refine g_ldc2 C k141 dX4_readsLetters_19 ?_
        refine g_land C dX4_readsLetters_22 ?_
        refine g_l2i C dX4_readsLetters_23 ?_
        rw [show (((1919513701 : Int64) &&& 255).toInt32) = 101 from by decide +kernel]
        refine g_istore C dX4_readsLetters_24 (Nat.le_of_ble_eq_true rfl) rfl ?_
        refine g_iload C dX4_readsLetters_26 rfl ?_
        refine g_if_eq_f C dX4_readsLetters_28 40 (by decide) (by decide) ?_
        refine g_aload_n C dX4_readsLetters_31 rfl rfl ?_
        refine g_iload C dX4_readsLetters_32 rfl ?_
        refine g_calliVF C 0 rfl rfl (c_X4_takes E m b μ n (p + 1 + 1 + 1) hn hTL (by omega) nu cm fi se _) cf_X4_takes gX4_readsLetters_X4_takes rfl (fitD (Nat.le_of_ble_eq_true rfl) (Nat.le_of_ble_eq_true rfl)) rfl rfl (Nat.le_of_ble_eq_true rfl) dX4_readsLetters_34 (fun r1 w1 hp9 => ?_)
        obtain ⟨hl49, rfl, rfl⟩ | ⟨hl49, rfl, rfl⟩ := hp9
        · have hm49 : p + 1 + 1 + 1 + 1 ≤ n := hl49.1
          refine g_if_eq_f C dX4_readsLetters_37 44 (by decide) (by decide) ?_
          refine g_iconst C (v := 1) dX4_readsLetters_40 rfl ?_
          refine g_goto C (tgt := 45) dX4_readsLetters_41 (by decide) ?_
          refine g_istore_n C dX4_readsLetters_45 rfl (Nat.le_of_ble_eq_true rfl) rfl ?_
          refine g_iinc C (v := (-8)) dX4_readsLetters_46 rfl rfl (by decide +kernel) ?_
          refine g_goto C (tgt := 6) dX4_readsLetters_49 (by decide) ?_
          refine g_eq (ws' := (modT E m b μ (p + 1 + 1 + 1 + 1) nu cm fi se)) (lv' := [some (.ref m), some (.long 1919513701), none, some (.int 1), some (.int (-8)), some (.int 101)]) (st' := []) rfl rfl rfl ?_
          refine g_iload C dX4_readsLetters_6 rfl ?_
          refine g_if_lt_t C dX4_readsLetters_8 (tgt := 52) (by decide) (by decide) ?_
          refine g_iload_n C dX4_readsLetters_52 rfl rfl ?_
          refine g_zret C R0 rfl dX4_readsLetters_53 ?_
          have he : rlP (mTx μ) n [0, 114, 105, 116, 101] p = (true, p + 1 + 1 + 1 + 1) := by rw [rlP, if_pos rfl, rlP, if_neg (by decide), if_pos hl19, rlP, if_neg (by decide), if_pos hl29, rlP, if_neg (by decide), if_pos hl39, rlP, if_neg (by decide), if_pos hl49, rlP]
          refine pT_mk (c := true) (by rw [he]) (Or.inl ⟨rfl, rfl⟩) (by rw [he])
        · refine g_if_eq_t C dX4_readsLetters_37 (tgt := 44) (by decide) (by decide) ?_
          refine g_iconst C (v := 0) dX4_readsLetters_44 rfl ?_
          refine g_istore_n C dX4_readsLetters_45 rfl (Nat.le_of_ble_eq_true rfl) rfl ?_
          refine g_iinc C (v := (-8)) dX4_readsLetters_46 rfl rfl (by decide +kernel) ?_
          refine g_goto C (tgt := 6) dX4_readsLetters_49 (by decide) ?_
          refine g_eq (ws' := (modT E m b μ (p + 1 + 1 + 1) nu cm fi se)) (lv' := [some (.ref m), some (.long 1919513701), none, some (.int 0), some (.int (-8)), some (.int 101)]) (st' := []) rfl rfl rfl ?_
          refine g_iload C dX4_readsLetters_6 rfl ?_
          refine g_if_lt_t C dX4_readsLetters_8 (tgt := 52) (by decide) (by decide) ?_
          refine g_iload_n C dX4_readsLetters_52 rfl rfl ?_
          refine g_zret C R0 rfl dX4_readsLetters_53 ?_
          have he : rlP (mTx μ) n [0, 114, 105, 116, 101] p = (false, p + 1 + 1 + 1) := by rw [rlP, if_pos rfl, rlP, if_neg (by decide), if_pos hl19, rlP, if_neg (by decide), if_pos hl29, rlP, if_neg (by decide), if_pos hl39, rlP, if_neg (by decide), if_neg hl49]
          refine pT_mk (c := false) (by rw [he]) (Or.inr ⟨rfl, rfl⟩) (by rw [he])
      · refine g_if_eq_t C dX4_readsLetters_37 (tgt := 44) (by decide) (by decide) ?_
        refine g_iconst C (v := 0) dX4_readsLetters_44 rfl ?_
        refine g_istore_n C dX4_readsLetters_45 rfl (Nat.le_of_ble_eq_true rfl) rfl ?_
        refine g_iinc C (v := 0) dX4_readsLetters_46 rfl rfl (by decide +kernel) ?_
        refine g_goto C (tgt := 6) dX4_readsLetters_49 (by decide) ?_
        refine g_eq (ws' := (modT E m b μ (p + 1 + 1) nu cm fi se)) (lv' := [some (.ref m), some (.long 1919513701), none, some (.int 0), some (.int 0), some (.int 116)]) (st' := []) rfl rfl rfl ?_
        refine g_iload C dX4_readsLetters_6 rfl ?_
        refine g_if_lt_f C dX4_readsLetters_8 52 (by decide) (by decide) ?_
        refine g_iload_n C dX4_readsLetters_11 rfl rfl ?_
        refine g_if_eq_t C dX4_readsLetters_12 (tgt := 52) (by decide) (by decide) ?_
        refine g_iload_n C dX4_readsLetters_52 rfl rfl ?_
        refine g_zret C R0 rfl dX4_readsLetters_53 ?_
        have he : rlP (mTx μ) n [0, 114, 105, 116, 101] p = (false, p + 1 + 1) := by rw [rlP, if_pos rfl, rlP, if_neg (by decide), if_pos hl19, rlP, if_neg (by decide), if_pos hl29, rlP, if_neg (by decide), if_neg hl39]
        refine pT_mk (c := false) (by rw [he]) (Or.inr ⟨rfl, rfl⟩) (by rw [he])
    · refine g_if_eq_t C dX4_readsLetters_37 (tgt := 44) (by decide) (by decide) ?_
      refine g_iconst C (v := 0) dX4_readsLetters_44 rfl ?_
      refine g_istore_n C dX4_readsLetters_45 rfl (Nat.le_of_ble_eq_true rfl) rfl ?_
      refine g_iinc C (v := 8) dX4_readsLetters_46 rfl rfl (by decide +kernel) ?_
      refine g_goto C (tgt := 6) dX4_readsLetters_49 (by decide) ?_
      refine g_eq (ws' := (modT E m b μ (p + 1) nu cm fi se)) (lv' := [some (.ref m), some (.long 1919513701), none, some (.int 0), some (.int 8), some (.int 105)]) (st' := []) rfl rfl rfl ?_
      refine g_iload C dX4_readsLetters_6 rfl ?_
      refine g_if_lt_f C dX4_readsLetters_8 52 (by decide) (by decide) ?_
      refine g_iload_n C dX4_readsLetters_11 rfl rfl ?_
      refine g_if_eq_t C dX4_readsLetters_12 (tgt := 52) (by decide) (by decide) ?_
      refine g_iload_n C dX4_readsLetters_52 rfl rfl ?_
      refine g_zret C R0 rfl dX4_readsLetters_53 ?_
      have he : rlP (mTx μ) n [0, 114, 105, 116, 101] p = (false, p + 1) := by rw [rlP, if_pos rfl, rlP, if_neg (by decide), if_pos hl19, rlP, if_neg (by decide), if_neg hl29]
      refine pT_mk (c := false) (by rw [he]) (Or.inr ⟨rfl, rfl⟩) (by rw [he])
  · refine g_if_eq_t C dX4_readsLetters_37 (tgt := 44) (by decide) (by decide) ?_
    refine g_iconst C (v := 0) dX4_readsLetters_44 rfl ?_
    refine g_istore_n C dX4_readsLetters_45 rfl (Nat.le_of_ble_eq_true rfl) rfl ?_
    refine g_iinc C (v := 16) dX4_readsLetters_46 rfl rfl (by decide +kernel) ?_
    refine g_goto C (tgt := 6) dX4_readsLetters_49 (by decide) ?_
    refine g_eq (ws' := (modT E m b μ (p) nu cm fi se)) (lv' := [some (.ref m), some (.long 1919513701), none, some (.int 0), some (.int 16), some (.int 114)]) (st' := []) rfl rfl rfl ?_
    refine g_iload C dX4_readsLetters_6 rfl ?_
    refine g_if_lt_f C dX4_readsLetters_8 52 (by decide) (by decide) ?_
    refine g_iload_n C dX4_readsLetters_11 rfl rfl ?_
    refine g_if_eq_t C dX4_readsLetters_12 (tgt := 52) (by decide) (by decide) ?_
    refine g_iload_n C dX4_readsLetters_52 rfl rfl ?_
    refine g_zret C R0 rfl dX4_readsLetters_53 ?_
    have he : rlP (mTx μ) n [0, 114, 105, 116, 101] p = (false, p) := by rw [rlP, if_pos rfl, rlP, if_neg (by decide), if_neg hl19]
    refine pT_mk (c := false) (by rw [he]) (Or.inr ⟨rfl, rfl⟩) (by rw [he])
set_option maxHeartbeats 4000000 in
set_option maxRecDepth 100000 in
theorem c_X4_readsLetters_6909540 (E : Ev) (m : Nat) (b : Nat → Nat) (μ : MD) (n p : Nat) (hn : n ≤ 80) (hTL : mTL μ = nI n) (hp : p ≤ n) (nu cm fi se : Int32) : MI E yX4_readsLetters wsX4_readsLetters (rmD 3) (modT E m b μ (p) nu cm fi se) [.ref m, .long 6909540] (pT (rlP (mTx μ) n [0, 0, 105, 110, 100] p).1 (modT E m b μ ((rlP (mTx μ) n [0, 0, 105, 110, 100] p).2) nu cm fi se)) := by
  have k141 : Cond.constantLong RX4 141 (255) ∈ wsX4_readsLetters := by decide +kernel
  refine MI.of (cc := cX4_readsLetters) (nL := 6) (ty := .boolean) (own := RX4) [some (.ref m), some (.long 6909540), none, none, none, none] (by decide +kernel) rfl rfl (Nat.le_of_ble_eq_true rfl) rfl rfl ?_
  intro x C R0
  refine g_iconst C (v := 1) dX4_readsLetters_0 rfl ?_
  refine g_istore_n C dX4_readsLetters_1 rfl (Nat.le_of_ble_eq_true rfl) rfl ?_
  refine g_bipush C (v := 32) dX4_readsLetters_2 rfl ?_
  refine g_istore C dX4_readsLetters_4 (Nat.le_of_ble_eq_true rfl) rfl ?_
  refine g_eq (ws' := (modT E m b μ (p) nu cm fi se)) (lv' := [some (.ref m), some (.long 6909540), none, some (.int 1), some (.int 32), none]) (st' := []) rfl rfl rfl ?_
  refine g_iload C dX4_readsLetters_6 rfl ?_
  refine g_if_lt_f C dX4_readsLetters_8 52 (by decide) (by decide) ?_
  refine g_iload_n C dX4_readsLetters_11 rfl rfl ?_
  refine g_if_eq_f C dX4_readsLetters_12 52 (by decide) (by decide) ?_
  refine g_lload_n C dX4_readsLetters_15 rfl rfl ?_
  refine g_iload C dX4_readsLetters_16 rfl ?_
  refine g_lshr C (v := 0) dX4_readsLetters_18 (by decide +kernel) ?_
  refine g_ldc2 C k141 dX4_readsLetters_19 ?_
  refine g_land C dX4_readsLetters_22 ?_
  refine g_l2i C dX4_readsLetters_23 ?_
  rw [show (((0 : Int64) &&& 255).toInt32) = 0 from by decide +kernel]
  refine g_istore C dX4_readsLetters_24 (Nat.le_of_ble_eq_true rfl) rfl ?_
  refine g_iload C dX4_readsLetters_26 rfl ?_
  refine g_if_eq_t C dX4_readsLetters_28 (tgt := 40) (by decide) (by decide) ?_
  refine g_iconst C (v := 1) dX4_readsLetters_40 rfl ?_
  refine g_goto C (tgt := 45) dX4_readsLetters_41 (by decide) ?_
  refine g_istore_n C dX4_readsLetters_45 rfl (Nat.le_of_ble_eq_true rfl) rfl ?_
  refine g_iinc C (v := 24) dX4_readsLetters_46 rfl rfl (by decide +kernel) ?_
  refine g_goto C (tgt := 6) dX4_readsLetters_49 (by decide) ?_
  refine g_eq (ws' := (modT E m b μ (p) nu cm fi se)) (lv' := [some (.ref m), some (.long 6909540), none, some (.int 1), some (.int 24), some (.int 0)]) (st' := []) rfl rfl rfl ?_
  refine g_iload C dX4_readsLetters_6 rfl ?_
  refine g_if_lt_f C dX4_readsLetters_8 52 (by decide) (by decide) ?_
  refine g_iload_n C dX4_readsLetters_11 rfl rfl ?_
  refine g_if_eq_f C dX4_readsLetters_12 52 (by decide) (by decide) ?_
  refine g_lload_n C dX4_readsLetters_15 rfl rfl ?_
  refine g_iload C dX4_readsLetters_16 rfl ?_
  refine g_lshr C (v := 0) dX4_readsLetters_18 (by decide +kernel) ?_
  refine g_ldc2 C k141 dX4_readsLetters_19 ?_
  refine g_land C dX4_readsLetters_22 ?_
  refine g_l2i C dX4_readsLetters_23 ?_
  rw [show (((0 : Int64) &&& 255).toInt32) = 0 from by decide +kernel]
  refine g_istore C dX4_readsLetters_24 (Nat.le_of_ble_eq_true rfl) rfl ?_
  refine g_iload C dX4_readsLetters_26 rfl ?_
  refine g_if_eq_t C dX4_readsLetters_28 (tgt := 40) (by decide) (by decide) ?_
  refine g_iconst C (v := 1) dX4_readsLetters_40 rfl ?_
  refine g_goto C (tgt := 45) dX4_readsLetters_41 (by decide) ?_
  refine g_istore_n C dX4_readsLetters_45 rfl (Nat.le_of_ble_eq_true rfl) rfl ?_
  refine g_iinc C (v := 16) dX4_readsLetters_46 rfl rfl (by decide +kernel) ?_
  refine g_goto C (tgt := 6) dX4_readsLetters_49 (by decide) ?_
  refine g_eq (ws' := (modT E m b μ (p) nu cm fi se)) (lv' := [some (.ref m), some (.long 6909540), none, some (.int 1), some (.int 16), some (.int 0)]) (st' := []) rfl rfl rfl ?_
  refine g_iload C dX4_readsLetters_6 rfl ?_
  refine g_if_lt_f C dX4_readsLetters_8 52 (by decide) (by decide) ?_
  refine g_iload_n C dX4_readsLetters_11 rfl rfl ?_
  refine g_if_eq_f C dX4_readsLetters_12 52 (by decide) (by decide) ?_
  refine g_lload_n C dX4_readsLetters_15 rfl rfl ?_
  refine g_iload C dX4_readsLetters_16 rfl ?_
  refine g_lshr C (v := 105) dX4_readsLetters_18 (by decide +kernel) ?_
  refine g_ldc2 C k141 dX4_readsLetters_19 ?_
  refine g_land C dX4_readsLetters_22 ?_
  refine g_l2i C dX4_readsLetters_23 ?_
  rw [show (((105 : Int64) &&& 255).toInt32) = 105 from by decide +kernel]
  refine g_istore C dX4_readsLetters_24 (Nat.le_of_ble_eq_true rfl) rfl ?_
  refine g_iload C dX4_readsLetters_26 rfl ?_
  refine g_if_eq_f C dX4_readsLetters_28 40 (by decide) (by decide) ?_
  refine g_aload_n C dX4_readsLetters_31 rfl rfl ?_
  refine g_iload C dX4_readsLetters_32 rfl ?_
  refine g_calliVF C 0 rfl rfl (c_X4_takes E m b μ n (p) hn hTL (by omega) nu cm fi se _) cf_X4_takes gX4_readsLetters_X4_takes rfl (fitD (Nat.le_of_ble_eq_true rfl) (Nat.le_of_ble_eq_true rfl)) rfl rfl (Nat.le_of_ble_eq_true rfl) dX4_readsLetters_34 (fun r1 w1 hp9 => ?_)
  obtain ⟨hl29, rfl, rfl⟩ | ⟨hl29, rfl, rfl⟩ := hp9
  · have hm29 : p + 1 ≤ n := hl29.1
    refine g_if_eq_f C dX4_readsLetters_37 44 (by decide) (by decide) ?_
    refine g_iconst C (v := 1) dX4_readsLetters_40 rfl ?_
    refine g_goto C (tgt := 45) dX4_readsLetters_41 (by decide) ?_
    refine g_istore_n C dX4_readsLetters_45 rfl (Nat.le_of_ble_eq_true rfl) rfl ?_
    refine g_iinc C (v := 8) dX4_readsLetters_46 rfl rfl (by decide +kernel) ?_
    refine g_goto C (tgt := 6) dX4_readsLetters_49 (by decide) ?_
    refine g_eq (ws' := (modT E m b μ (p + 1) nu cm fi se)) (lv' := [some (.ref m), some (.long 6909540), none, some (.int 1), some (.int 8), some (.int 105)]) (st' := []) rfl rfl rfl ?_
    refine g_iload C dX4_readsLetters_6 rfl ?_
    refine g_if_lt_f C dX4_readsLetters_8 52 (by decide) (by decide) ?_
    refine g_iload_n C dX4_readsLetters_11 rfl rfl ?_
    refine g_if_eq_f C dX4_readsLetters_12 52 (by decide) (by decide) ?_
    refine g_lload_n C dX4_readsLetters_15 rfl rfl ?_
    refine g_iload C dX4_readsLetters_16 rfl ?_
    refine g_lshr C (v := 26990) dX4_readsLetters_18 (by decide +kernel) ?_
    refine g_ldc2 C k141 dX4_readsLetters_19 ?_
    refine g_land C dX4_readsLetters_22 ?_
    refine g_l2i C dX4_readsLetters_23 ?_
    rw [show (((26990 : Int64) &&& 255).toInt32) = 110 from by decide +kernel]
    refine g_istore C dX4_readsLetters_24 (Nat.le_of_ble_eq_true rfl) rfl ?_
    refine g_iload C dX4_readsLetters_26 rfl ?_
    refine g_if_eq_f C dX4_readsLetters_28 40 (by decide) (by decide) ?_
    refine g_aload_n C dX4_readsLetters_31 rfl rfl ?_
    refine g_iload C dX4_readsLetters_32 rfl ?_
    refine g_calliVF C 0 rfl rfl (c_X4_takes E m b μ n (p + 1) hn hTL (by omega) nu cm fi se _) cf_X4_takes gX4_readsLetters_X4_takes rfl (fitD (Nat.le_of_ble_eq_true rfl) (Nat.le_of_ble_eq_true rfl)) rfl rfl (Nat.le_of_ble_eq_true rfl) dX4_readsLetters_34 (fun r1 w1 hp9 => ?_)
    obtain ⟨hl39, rfl, rfl⟩ | ⟨hl39, rfl, rfl⟩ := hp9
    · have hm39 : p + 1 + 1 ≤ n := hl39.1
      refine g_if_eq_f C dX4_readsLetters_37 44 (by decide) (by decide) ?_
      refine g_iconst C (v := 1) dX4_readsLetters_40 rfl ?_
      refine g_goto C (tgt := 45) dX4_readsLetters_41 (by decide) ?_
      refine g_istore_n C dX4_readsLetters_45 rfl (Nat.le_of_ble_eq_true rfl) rfl ?_
      refine g_iinc C (v := 0) dX4_readsLetters_46 rfl rfl (by decide +kernel) ?_
      refine g_goto C (tgt := 6) dX4_readsLetters_49 (by decide) ?_
      refine g_eq (ws' := (modT E m b μ (p + 1 + 1) nu cm fi se)) (lv' := [some (.ref m), some (.long 6909540), none, some (.int 1), some (.int 0), some (.int 110)]) (st' := []) rfl rfl rfl ?_
      refine g_iload C dX4_readsLetters_6 rfl ?_
      refine g_if_lt_f C dX4_readsLetters_8 52 (by decide) (by decide) ?_
      refine g_iload_n C dX4_readsLetters_11 rfl rfl ?_
      refine g_if_eq_f C dX4_readsLetters_12 52 (by decide) (by decide) ?_
      refine g_lload_n C dX4_readsLetters_15 rfl rfl ?_
      refine g_iload C dX4_readsLetters_16 rfl ?_
      refine g_lshr C (v := 6909540) dX4_readsLetters_18 (by decide +kernel) ?_
      refine g_ldc2 C k141 dX4_readsLetters_19 ?_
      refine g_land C dX4_readsLetters_22 ?_
      refine g_l2i C dX4_readsLetters_23 ?_
      rw [show (((6909540 : Int64) &&& 255).toInt32) = 100 from by decide +kernel]
      refine g_istore C dX4_readsLetters_24 (Nat.le_of_ble_eq_true rfl) rfl ?_
      refine g_iload C dX4_readsLetters_26 rfl ?_
      refine g_if_eq_f C dX4_readsLetters_28 40 (by decide) (by decide) ?_
      refine g_aload_n C dX4_readsLetters_31 rfl rfl ?_
      refine g_iload C dX4_readsLetters_32 rfl ?_
      refine g_calliVF C 0 rfl rfl (c_X4_takes E m b μ n (p + 1 + 1) hn hTL (by omega) nu cm fi se _) cf_X4_takes gX4_readsLetters_X4_takes rfl (fitD (Nat.le_of_ble_eq_true rfl) (Nat.le_of_ble_eq_true rfl)) rfl rfl (Nat.le_of_ble_eq_true rfl) dX4_readsLetters_34 (fun r1 w1 hp9 => ?_)
      obtain ⟨hl49, rfl, rfl⟩ | ⟨hl49, rfl, rfl⟩ := hp9
      · have hm49 : p + 1 + 1 + 1 ≤ n := hl49.1
        refine g_if_eq_f C dX4_readsLetters_37 44 (by decide) (by decide) ?_
        refine g_iconst C (v := 1) dX4_readsLetters_40 rfl ?_
        refine g_goto C (tgt := 45) dX4_readsLetters_41 (by decide) ?_
        refine g_istore_n C dX4_readsLetters_45 rfl (Nat.le_of_ble_eq_true rfl) rfl ?_
        refine g_iinc C (v := (-8)) dX4_readsLetters_46 rfl rfl (by decide +kernel) ?_
        refine g_goto C (tgt := 6) dX4_readsLetters_49 (by decide) ?_
        refine g_eq (ws' := (modT E m b μ (p + 1 + 1 + 1) nu cm fi se)) (lv' := [some (.ref m), some (.long 6909540), none, some (.int 1), some (.int (-8)), some (.int 100)]) (st' := []) rfl rfl rfl ?_
        refine g_iload C dX4_readsLetters_6 rfl ?_
        refine g_if_lt_t C dX4_readsLetters_8 (tgt := 52) (by decide) (by decide) ?_
        refine g_iload_n C dX4_readsLetters_52 rfl rfl ?_
        refine g_zret C R0 rfl dX4_readsLetters_53 ?_
        have he : rlP (mTx μ) n [0, 0, 105, 110, 100] p = (true, p + 1 + 1 + 1) := by rw [rlP, if_pos rfl, rlP, if_pos rfl, rlP, if_neg (by decide), if_pos hl29, rlP, if_neg (by decide), if_pos hl39, rlP, if_neg (by decide), if_pos hl49, rlP]
        refine pT_mk (c := true) (by rw [he]) (Or.inl ⟨rfl, rfl⟩) (by rw [he])
      · refine g_if_eq_t C dX4_readsLetters_37 (tgt := 44) (by decide) (by decide) ?_
        refine g_iconst C (v := 0) dX4_readsLetters_44 rfl ?_
        refine g_istore_n C dX4_readsLetters_45 rfl (Nat.le_of_ble_eq_true rfl) rfl ?_
        refine g_iinc C (v := (-8)) dX4_readsLetters_46 rfl rfl (by decide +kernel) ?_
        refine g_goto C (tgt := 6) dX4_readsLetters_49 (by decide) ?_
        refine g_eq (ws' := (modT E m b μ (p + 1 + 1) nu cm fi se)) (lv' := [some (.ref m), some (.long 6909540), none, some (.int 0), some (.int (-8)), some (.int 100)]) (st' := []) rfl rfl rfl ?_
        refine g_iload C dX4_readsLetters_6 rfl ?_
        refine g_if_lt_t C dX4_readsLetters_8 (tgt := 52) (by decide) (by decide) ?_
        refine g_iload_n C dX4_readsLetters_52 rfl rfl ?_
        refine g_zret C R0 rfl dX4_readsLetters_53 ?_
        have he : rlP (mTx μ) n [0, 0, 105, 110, 100] p = (false, p + 1 + 1) := by rw [rlP, if_pos rfl, rlP, if_pos rfl, rlP, if_neg (by decide), if_pos hl29, rlP, if_neg (by decide), if_pos hl39, rlP, if_neg (by decide), if_neg hl49]
        refine pT_mk (c := false) (by rw [he]) (Or.inr ⟨rfl, rfl⟩) (by rw [he])
    · refine g_if_eq_t C dX4_readsLetters_37 (tgt := 44) (by decide) (by decide) ?_
      refine g_iconst C (v := 0) dX4_readsLetters_44 rfl ?_
      refine g_istore_n C dX4_readsLetters_45 rfl (Nat.le_of_ble_eq_true rfl) rfl ?_
      refine g_iinc C (v := 0) dX4_readsLetters_46 rfl rfl (by decide +kernel) ?_
      refine g_goto C (tgt := 6) dX4_readsLetters_49 (by decide) ?_
      refine g_eq (ws' := (modT E m b μ (p + 1) nu cm fi se)) (lv' := [some (.ref m), some (.long 6909540), none, some (.int 0), some (.int 0), some (.int 110)]) (st' := []) rfl rfl rfl ?_
      refine g_iload C dX4_readsLetters_6 rfl ?_
      refine g_if_lt_f C dX4_readsLetters_8 52 (by decide) (by decide) ?_
      refine g_iload_n C dX4_readsLetters_11 rfl rfl ?_
      refine g_if_eq_t C dX4_readsLetters_12 (tgt := 52) (by decide) (by decide) ?_
      refine g_iload_n C dX4_readsLetters_52 rfl rfl ?_
      refine g_zret C R0 rfl dX4_readsLetters_53 ?_
      have he : rlP (mTx μ) n [0, 0, 105, 110, 100] p = (false, p + 1) := by rw [rlP, if_pos rfl, rlP, if_pos rfl, rlP, if_neg (by decide), if_pos hl29, rlP, if_neg (by decide), if_neg hl39]
      refine pT_mk (c := false) (by rw [he]) (Or.inr ⟨rfl, rfl⟩) (by rw [he])
  · refine g_if_eq_t C dX4_readsLetters_37 (tgt := 44) (by decide) (by decide) ?_
    refine g_iconst C (v := 0) dX4_readsLetters_44 rfl ?_
    refine g_istore_n C dX4_readsLetters_45 rfl (Nat.le_of_ble_eq_true rfl) rfl ?_
    refine g_iinc C (v := 8) dX4_readsLetters_46 rfl rfl (by decide +kernel) ?_
    refine g_goto C (tgt := 6) dX4_readsLetters_49 (by decide) ?_
    refine g_eq (ws' := (modT E m b μ (p) nu cm fi se)) (lv' := [some (.ref m), some (.long 6909540), none, some (.int 0), some (.int 8), some (.int 105)]) (st' := []) rfl rfl rfl ?_
    refine g_iload C dX4_readsLetters_6 rfl ?_
    refine g_if_lt_f C dX4_readsLetters_8 52 (by decide) (by decide) ?_
    refine g_iload_n C dX4_readsLetters_11 rfl rfl ?_
    refine g_if_eq_t C dX4_readsLetters_12 (tgt := 52) (by decide) (by decide) ?_
    refine g_iload_n C dX4_readsLetters_52 rfl rfl ?_
    refine g_zret C R0 rfl dX4_readsLetters_53 ?_
    have he : rlP (mTx μ) n [0, 0, 105, 110, 100] p = (false, p) := by rw [rlP, if_pos rfl, rlP, if_pos rfl, rlP, if_neg (by decide), if_neg hl29]
    refine pT_mk (c := false) (by rw [he]) (Or.inr ⟨rfl, rfl⟩) (by rw [he])
