/-- one command of the second pass -/
abbrev rcx (tx : F) (n p : Nat) (r : R6) : R6 := rcX tx n p r.2.2.1 r.2.2.2.1 r.2.2.2.2.1 r.2.2.2.2.2
abbrev coX (τ : MS) (r : R6) : Int32 × MS := coT τ r.2.2.2.1 r.2.2.2.2.1 r.2.2.2.2.2
/-- the second pass: error (or 0), how many commands, state; x: what was read last -/
def pfF (tx : F) (n : Nat) : Nat → MS → Nat → R6 → Nat → Int32 × Nat × MS
  | 0, τ, _, _, k => (0, k, τ)
  | f + 1, τ, p, r, k =>
    if (coX τ (rcx tx n p r)).1 < 0 then ((coX τ (rcx tx n p r)).1, k, (coX τ (rcx tx n p r)).2)
    else if here tx n (rcx tx n p r).2.1 59 59 then pfF tx n f (coX τ (rcx tx n p r)).2 ((rcx tx n p r).2.1 + 1) (rcx tx n p r) (k + 1)
    else (0, k + 1, (coX τ (rcx tx n p r)).2)
def pfH (tx : F) (n : Nat) : Nat → MS → Nat → R6 → Prop
  | 0, _, _, _ => True
  | f + 1, τ, p, r => okC τ (rcx tx n p r).2.2.2.1 (rcx tx n p r).2.2.2.2.1 ∧ (¬ (coX τ (rcx tx n p r)).1 < 0 → here tx n (rcx tx n p r).2.1 59 59 → pfH tx n f (coX τ (rcx tx n p r)).2 ((rcx tx n p r).2.1 + 1) (rcx tx n p r))
def pfE (μ : MD) (nh : Nat) (R : Int32 × Nat × MS) : Int32 × MD := if R.1 < 0 then (-10004, wSB (wSA (wAl (wAl (xKee μ) R.2.2) (mAl μ)) (nI R.2.1)) R.1) else (nI R.2.1, xAct (wAl (xKee μ) R.2.2) nh)
abbrev modR (E : Ev) (m : Nat) (b : Nat → Nat) (μ : MD) (p : Nat) (r : R6) : va_W := modT E m b μ p r.2.2.1 r.2.2.2.1 r.2.2.2.2.1 r.2.2.2.2.2
theorem c_rcU (E : Ev) (m : Nat) (b : Nat → Nat) (u : MD) (tx : F) (hu : mTx u = tx) (n p : Nat) (hn : n ≤ 80) (hTL : mTL u = nI n) (hp : p ≤ n) (r : R6) : MI E yX4_readsCommand wsX4_readsCommand (rmD 5) (modR E m b u p r) [.ref m] (pT (rcx tx n p r).1 (modR E m b u (rcx tx n p r).2.1 (rcx tx n p r))) := by
  subst hu
  exact c_X4_readsCommand E m b u n p hn hTL hp _ _ _ _
theorem c_tkU (E : Ev) (m : Nat) (b : Nat → Nat) (u : MD) (tx : F) (hu : mTx u = tx) (n p : Nat) (hn : n ≤ 80) (hTL : mTL u = nI n) (hp : p ≤ n) (r : R6) (c : Int32) : MI E yX4_takes wsX4_takes (rmD 2) (modR E m b u p r) [.ref m, .int c] (fun q w => here tx n p c c ∧ q = 1 ∧ w = modR E m b u (p + 1) r ∨ ¬ here tx n p c c ∧ q = 0 ∧ w = modR E m b u p r) := by
  subst hu
  exact c_X4_takes E m b u n p hn hTL hp _ _ _ _ c
theorem c_coU (E : Ev) (m : Nat) (b : Nat → Nat) (u : MD) (p : Nat) (r : R6) (ok : okC (mAl u) r.2.2.2.1 r.2.2.2.2.1) : MI E yX4_carriesOut wsX4_carriesOut (rmD 6) (modR E m b u p r) [.ref m] (fun q w => q = (coX (mAl u) r).1 ∧ w = modR E m b (wAl u (coX (mAl u) r).2) p r) :=
  c_X4_carriesOut E m b (xT u p r.2.2.1 r.2.2.2.1 r.2.2.2.2.1 r.2.2.2.2.2) ok
theorem c_acU (E : Ev) (m : Nat) (b : Nat → Nat) (u : MD) (p : Nat) (r : R6) (nh : Nat) (hnh : nh ≤ 4) (hHL : mHL u = nI nh) (v : Int32) : MI E yX4_acted wsX4_acted (rmD 0) (modR E m b u p r) [.ref m, .int v] (fun q w => q = v ∧ w = modR E m b (xAct u nh) p r) := by
  have h9 := c_X4_acted E m b (xT u p r.2.2.1 r.2.2.2.1 r.2.2.2.2.1 r.2.2.2.2.2) nh hnh hHL v
  have e9 : modW E m b (xAct (xT u p r.2.2.1 r.2.2.2.1 r.2.2.2.2.1 r.2.2.2.2.2) nh) = modR E m b (xAct u nh) p r := by
    unfold xAct
    split <;> rfl
  have e8 : (fun (q : Int32) (w : va_W) => q = v ∧ w = modR E m b (xAct u nh) p r) = pM E m b (v, xAct (xT u p r.2.2.1 r.2.2.2.1 r.2.2.2.2.1 r.2.2.2.2.2) nh) := by
    funext q w
    rw [← e9]
    rfl
  rw [e8]
  exact h9
theorem c_reU (E : Ev) (m : Nat) (b : Nat → Nat) (u : MD) (p : Nat) (nu cm fi se : Int32) : MV E yX4_remember wsX4_remember (rmD 1) (modT E m b u p nu cm fi se) [.ref m] (fun w => w = modT E m b (xKee u) p nu cm fi se) :=
  c_X4_remember E m b (xT u p nu cm fi se)
set_option maxHeartbeats 4000000 in
set_option maxRecDepth 100000 in
theorem c_X4_perform (E : Ev) (m : Nat) (b : Nat → Nat) (μ : MD) (n : Nat) (hn : n ≤ 80) (hTL : mTL μ = nI n) (p : Nat) (nu cm fi se : Int32) (nh : Nat) (hnh : nh ≤ 4) (hHL : mHL μ = nI nh) (hf : (faF (mTx μ) n (n + 1) 0 nu cm fi se) = -10005 → ∀ r : R6, pfH (mTx μ) n (n + 1) (mAl μ) 0 r) : MI E yX4_perform wsX4_perform (rmD 7) (modT E m b μ (p) nu cm fi se) [.ref m] (fun q w => ∃ (r r2 : R6) (p2 : Nat), (¬ (faF (mTx μ) n (n + 1) 0 nu cm fi se) = -10005 ∧ q = -10100 - (faF (mTx μ) n (n + 1) 0 nu cm fi se) ∧ w = modR E m b μ p2 r2) ∨ ((faF (mTx μ) n (n + 1) 0 nu cm fi se) = -10005 ∧ q = (pfE μ nh (pfF (mTx μ) n (n + 1) (mAl μ) 0 r 0)).1 ∧ w = modR E m b (pfE μ nh (pfF (mTx μ) n (n + 1) (mAl μ) 0 r 0)).2 p2 r2)) := by
  have inX4 : ∀ w ∈ u_ws RX4 TX4 16, w ∈ wsX4_perform := by decide +kernel
  have f13 : Cond.fieldLink RX4 13 (TX4 1).1 (TX4 1).2.1 (TX4 1).2.2.1 ∈ wsX4_perform := by decide +kernel
  have f7 : Cond.fieldLink RX4 7 (TX4 0).1 (TX4 0).2.1 (TX4 0).2.2.1 ∈ wsX4_perform := by decide +kernel
  have f25 : Cond.fieldLink RX4 25 (TX4 7).1 (TX4 7).2.1 (TX4 7).2.2.1 ∈ wsX4_perform := by decide +kernel
  have f29 : Cond.fieldLink RX4 29 (TX4 8).1 (TX4 8).2.1 (TX4 8).2.2.1 ∈ wsX4_perform := by decide +kernel
  have f135 : Cond.fieldLink RX4 135 (TX4 11).1 (TX4 11).2.1 (TX4 11).2.2.1 ∈ wsX4_perform := by decide +kernel
  refine MI.of (cc := cX4_perform) (nL := 6) (ty := .int) (own := RX4) [some (.ref m), none, none, none, none, none] (by decide +kernel) rfl rfl (Nat.le_of_ble_eq_true rfl) rfl rfl ?_
  intro x C R0
  refine g_aload_n C dX4_perform_0 rfl rfl ?_
  refine g_calliVF C 0 rfl rfl (c_X4_fault E m b μ n p hn hTL nu cm fi se) cf_X4_fault gX4_perform_X4_fault rfl (fitD (Nat.le_of_ble_eq_true rfl) (Nat.le_of_ble_eq_true rfl)) rfl rfl (Nat.le_of_ble_eq_true rfl) dX4_perform_1 (fun r1 w1 hp9 => ?_)
  obtain ⟨rfl, p2, n2, c2, f2, s2, rfl⟩ := hp9
  refine g_istore_n C dX4_perform_4 rfl (Nat.le_of_ble_eq_true rfl) rfl ?_
  refine g_iload_n C dX4_perform_5 rfl rfl ?_
  refine g_sipush C (v := (-10005)) dX4_perform_6 rfl ?_
  refine g_icmp_eq C (tgt := 18) dX4_perform_9 (by decide) (fun hc_9 => ?_) (fun hc_9 => ?_)
  · have hfa : (faF (mTx μ) n (n + 1) 0 nu cm fi se) = -10005 := hc_9
    refine g_aload_n C dX4_perform_18 rfl rfl ?_
    refine g_callvVF C 0 rfl rfl (c_reU E m b μ p2 n2 c2 f2 s2) cf_X4_remember gX4_perform_X4_remember rfl (fitD (Nat.le_of_ble_eq_true rfl) (Nat.le_of_ble_eq_true rfl)) rfl rfl (Nat.le_of_ble_eq_true rfl) dX4_perform_19 (fun w1 hp9 => ?_)
    subst hp9
    refine g_aload_n C dX4_perform_22 rfl rfl ?_
    refine g_iconst C (v := 0) dX4_perform_23 rfl ?_
    refine g_put C (ws' := (modT E m b (xKee μ) (0) n2 c2 f2 s2)) inX4 (ty := .int) tyX4 tyX4_ok nmX4 0 rfl rfl 11 (by decide) f135 rfl (by decide +kernel) rfl rfl (Nat.le_of_ble_eq_true rfl) dX4_perform_24 rfl ?_
    refine g_iconst C (v := 0) dX4_perform_27 rfl ?_
    refine g_istore_n C dX4_perform_28 rfl (Nat.le_of_ble_eq_true rfl) rfl ?_
    refine g_iconst C (v := 1) dX4_perform_29 rfl ?_
    refine g_istore_n C dX4_perform_30 rfl (Nat.le_of_ble_eq_true rfl) rfl ?_
    have lp : ∀ (r0 : R6) (f : Nat) (τ : MS) (p : Nat) (r : R6) (k : Nat) (x4 x5 : Option Value), p ≤ n → n - p < f → k ≤ p → pfH (mTx μ) n f τ p r → pfF (mTx μ) n f τ p r k = pfF (mTx μ) n (n + 1) (mAl μ) 0 r0 0 → G E x (modR E m b (wAl (xKee μ) τ) p r) [some (.ref m), some (.int (faF (mTx μ) n (n + 1) 0 nu cm fi se)), some (.int (nI k)), some (.int 1), x4, x5] 31 [] := by
      intro r0 f
      induction f with
      | zero => intro τ p r k x4 x5 h1 h2; omega
      | succ f ih =>
        intro τ p r k x4 x5 hp hf9 hk hh hv
        refine g_iload_n C dX4_perform_31 rfl rfl ?_
        refine g_if_eq_f C dX4_perform_32 91 (by decide) (by decide) ?_
        refine g_aload_n C dX4_perform_35 rfl rfl ?_
        refine g_calliVF C 0 rfl rfl (c_rcU E m b (wAl (xKee μ) τ) (mTx μ) rfl n p hn hTL hp r) cf_X4_readsCommand gX4_perform_X4_readsCommand rfl (fitD (Nat.le_of_ble_eq_true rfl) (Nat.le_of_ble_eq_true rfl)) rfl rfl (Nat.le_of_ble_eq_true rfl) dX4_perform_36 (fun r1 w1 hp9 => ?_)
        obtain ⟨hb9, rfl⟩ := hp9
        have hle := rcX_le (tx := mTx μ) (n := n) (p := p) (nu := r.2.2.1) (cm := r.2.2.2.1) (fi := r.2.2.2.2.1) (se := r.2.2.2.2.2) hp
        refine g_istore C dX4_perform_39 (Nat.le_of_ble_eq_true rfl) rfl ?_
        refine g_aload_n C dX4_perform_41 rfl rfl ?_
        refine g_calliVF C 0 rfl rfl (c_coU E m b (wAl (xKee μ) τ) _ (rcx (mTx μ) n p r) hh.1) cf_X4_carriesOut gX4_perform_X4_carriesOut rfl (fitD (Nat.le_of_ble_eq_true rfl) (Nat.le_of_ble_eq_true rfl)) rfl rfl (Nat.le_of_ble_eq_true rfl) dX4_perform_42 (fun r3 w1 hp9 => ?_)
        obtain ⟨rfl, rfl⟩ := hp9
        refine g_eq (ws' := (modR E m b (wAl (xKee μ) (coX τ (rcx (mTx μ) n p r)).2) ((rcx (mTx μ) n p r).2.1) (rcx (mTx μ) n p r))) rfl rfl rfl ?_
        refine g_istore C dX4_perform_45 (Nat.le_of_ble_eq_true rfl) rfl ?_
        refine g_iload C dX4_perform_47 rfl ?_
        refine g_if_ge C (tgt := 78) dX4_perform_49 (by decide) (fun hc_49 => ?_) (fun hc_49 => ?_)
        · have hc9 : ¬ (coX τ (rcx (mTx μ) n p r)).1 < 0 := i32_le.mpr hc_49
          refine g_iinc C (v := (nI (k + 1))) dX4_perform_78 rfl rfl (nI_add (k) 1) ?_
          refine g_aload_n C dX4_perform_81 rfl rfl ?_
          refine g_bipush C (v := 59) dX4_perform_82 rfl ?_
          refine g_calliVF C 0 rfl rfl (c_tkU E m b (wAl (xKee μ) (coX τ (rcx (mTx μ) n p r)).2) (mTx μ) rfl n _ hn hTL hle.1 _ _) cf_X4_takes gX4_perform_X4_takes rfl (fitD (Nat.le_of_ble_eq_true rfl) (Nat.le_of_ble_eq_true rfl)) rfl rfl (Nat.le_of_ble_eq_true rfl) dX4_perform_84 (fun r4 w1 hp9 => ?_)
          obtain ⟨hb_84, rfl, rfl⟩ | ⟨hb_84, rfl, rfl⟩ := hp9
          · refine g_istore_n C dX4_perform_87 rfl (Nat.le_of_ble_eq_true rfl) rfl ?_
            refine g_goto C (tgt := 31) dX4_perform_88 (by decide) ?_
            rw [pfF, if_neg hc9, if_pos hb_84] at hv
            exact ih _ _ _ _ _ _ (by have := hb_84.1; omega) (by have := hb_84.1; omega) (by omega) (hh.2 hc9 hb_84) hv
          · refine g_istore_n C dX4_perform_87 rfl (Nat.le_of_ble_eq_true rfl) rfl ?_
            refine g_goto C (tgt := 31) dX4_perform_88 (by decide) ?_
            refine g_iload_n C dX4_perform_31 rfl rfl ?_
            refine g_if_eq_t C dX4_perform_32 (tgt := 91) (by decide) (by decide) ?_
            refine g_aload_n C dX4_perform_91 rfl rfl ?_
            refine g_iload_n C dX4_perform_92 rfl rfl ?_
            refine g_calliVF C 0 rfl rfl (c_acU E m b (wAl (xKee μ) (coX τ (rcx (mTx μ) n p r)).2) _ _ nh hnh hHL _) cf_X4_acted gX4_perform_X4_acted rfl (fitD (Nat.le_of_ble_eq_true rfl) (Nat.le_of_ble_eq_true rfl)) rfl rfl (Nat.le_of_ble_eq_true rfl) dX4_perform_93 (fun r5 w1 hp9 => ?_)
            obtain ⟨rfl, rfl⟩ := hp9
            refine g_iret C R0 dX4_perform_96 ?_
            rw [pfF, if_neg hc9, if_neg hb_84] at hv
            refine ⟨r0, (rcx (mTx μ) n p r), (rcx (mTx μ) n p r).2.1, Or.inr ⟨hfa, ?_, ?_⟩⟩
            · rw [← hv, pfE, if_neg (show ¬ (0 : Int32) < 0 from by decide)]
            · rw [← hv, pfE, if_neg (show ¬ (0 : Int32) < 0 from by decide)] <;> rfl
        · have hc9 : (coX τ (rcx (mTx μ) n p r)).1 < 0 := i32_lt.mp hc_49
          refine g_aload_n C dX4_perform_52 rfl rfl ?_
          refine g_get C inX4 0 rfl rfl 1 (by decide) f13 rfl dX4_perform_53 ?_
          refine g_aload_n C dX4_perform_56 rfl rfl ?_
          refine g_get C inX4 0 rfl rfl 0 (by decide) f7 rfl dX4_perform_57 ?_
          refine g_callvSF C (c_X4_copy E (modR E m b (wAl (xKee μ) (coX τ (rcx (mTx μ) n p r)).2) ((rcx (mTx μ) n p r).2.1) (rcx (mTx μ) n p r)) 2 1 _ _ _ _ rfl rfl (by decide)) cf_X4_copy gX4_perform_X4_copy rfl (fitD (Nat.le_of_ble_eq_true rfl) (Nat.le_of_ble_eq_true rfl)) rfl rfl (Nat.le_of_ble_eq_true rfl) dX4_perform_60 (fun w1 hp9 => ?_)
          have hp9 : w1 = (modR E m b (wAl (wAl (xKee μ) (coX τ (rcx (mTx μ) n p r)).2) (mAl μ)) ((rcx (mTx μ) n p r).2.1) (rcx (mTx μ) n p r)) := hp9
          subst hp9
          refine g_aload_n C dX4_perform_63 rfl rfl ?_
          refine g_iload_n C dX4_perform_64 rfl rfl ?_
          refine g_put C (ws' := (modR E m b (wSA (wAl (wAl (xKee μ) (coX τ (rcx (mTx μ) n p r)).2) (mAl μ)) (nI k)) ((rcx (mTx μ) n p r).2.1) (rcx (mTx μ) n p r))) inX4 (ty := .int) tyX4 tyX4_ok nmX4 0 rfl rfl 7 (by decide) f25 rfl (by decide +kernel) rfl rfl (Nat.le_of_ble_eq_true rfl) dX4_perform_65 rfl ?_
          refine g_aload_n C dX4_perform_68 rfl rfl ?_
          refine g_iload C dX4_perform_69 rfl ?_
          refine g_put C (ws' := (modR E m b (wSB (wSA (wAl (wAl (xKee μ) (coX τ (rcx (mTx μ) n p r)).2) (mAl μ)) (nI k)) ((coX τ (rcx (mTx μ) n p r)).1)) ((rcx (mTx μ) n p r).2.1) (rcx (mTx μ) n p r))) inX4 (ty := .int) tyX4 tyX4_ok nmX4 0 rfl rfl 8 (by decide) f29 rfl (by decide +kernel) rfl rfl (Nat.le_of_ble_eq_true rfl) dX4_perform_71 rfl ?_
          refine g_sipush C (v := (-10004)) dX4_perform_74 rfl ?_
          refine g_iret C R0 dX4_perform_77 ?_
          rw [pfF, if_pos hc9] at hv
          refine ⟨r0, (rcx (mTx μ) n p r), (rcx (mTx μ) n p r).2.1, Or.inr ⟨hfa, ?_, ?_⟩⟩
          · rw [← hv, pfE, if_pos hc9]
          · rw [← hv, pfE, if_pos hc9] <;> rfl
    exact lp (true, 0, n2, c2, f2, s2) (n + 1) (mAl μ) 0 (true, 0, n2, c2, f2, s2) 0 _ _ (by omega) (by omega) (by omega) (hf hfa _) rfl
  · refine g_sipush C (v := (-10100)) dX4_perform_12 rfl ?_
    refine g_iload_n C dX4_perform_15 rfl rfl ?_
    refine g_isub C dX4_perform_16 ?_
    refine g_iret C R0 dX4_perform_17 ?_
    exact ⟨(true, 0, n2, c2, f2, s2), (true, 0, n2, c2, f2, s2), p2, Or.inl ⟨hc_9, rfl, rfl⟩⟩
