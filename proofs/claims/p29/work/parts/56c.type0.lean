set_option maxHeartbeats 800000 in
set_option maxRecDepth 100000 in
theorem c_L_types_fly (E : Ev) (A : Ad) (κ : KSt) (hn : kjn κ ≤ 80) : MI E yL_types wsL_types (rmD 2) (kA E A κ) [.ref A.1, .long 6712441] (pA E A 1 (txA κ [102, 108, 121])) := by
  have k19 : Cond.constantLong RL 19 (255) ∈ wsL_types := by decide +kernel
  refine MI.of (cc := cL_types) (nL := 6) (ty := .boolean) (own := RL) [some (.ref A.1), some (.long 6712441), none, none, none, none] (by decide +kernel) rfl rfl (Nat.le_of_ble_eq_true rfl) rfl rfl ?_
  intro x C R0
  refine g_aload_n C dL_types_0 rfl rfl ?_
  refine g_callK C kA_hd (k0_clearText E A κ hn (r := nI (kjn κ)) (κ' := txA κ []) cl_e) cf_X3_clearText gL_types_X3_clearText rfl (fitD (Nat.le_of_ble_eq_true rfl) (Nat.le_of_ble_eq_true rfl)) rfl rfl (Nat.le_of_ble_eq_true rfl) dL_types_1 (fun q1 w1 hp => ?_)
  obtain ⟨rfl, rfl⟩ := hp
  refine g_if_lt_f C dL_types_4 11 (by decide) (cl_p hn) ?_
  refine g_iconst C (v := 1) dL_types_7 rfl ?_
  refine g_goto C (tgt := 12) dL_types_8 (by decide) ?_
  refine g_istore_n C dL_types_12 rfl (Nat.le_of_ble_eq_true rfl) rfl ?_
  refine g_bipush C (v := 56) dL_types_13 rfl ?_
  refine g_istore C dL_types_15 (Nat.le_of_ble_eq_true rfl) rfl ?_
  show G E x (kA E A (txA κ [])) [some (.ref A.1), some (.long 6712441), none, some (.int 1), some (.int 56), none] 17 []
  refine g_iload C dL_types_17 rfl ?_
  refine g_if_lt_f C dL_types_19 64 (by decide) (by decide) ?_
  refine g_lload_n C dL_types_22 rfl rfl ?_
  refine g_iload C dL_types_23 rfl ?_
  refine g_lshr C (v := 0) dL_types_25 (by decide +kernel) ?_
  refine g_ldc2 C k19 dL_types_26 ?_
  refine g_land C dL_types_29 ?_
  refine g_l2i C dL_types_30 ?_
  rw [show ((0 &&& (255)) : Int64).toInt32 = 0 from by decide +kernel]
  refine g_istore C dL_types_31 (Nat.le_of_ble_eq_true rfl) rfl ?_
  refine g_iload_n C dL_types_33 rfl rfl ?_
  refine g_if_eq_f C dL_types_34 56 (by decide) (by decide) ?_
  refine g_iload C dL_types_37 rfl ?_
  refine g_if_eq_t C dL_types_39 (tgt := 52) (by decide) (by decide) ?_
  refine g_iconst C (v := 1) dL_types_52 rfl ?_
  refine g_goto C (tgt := 57) dL_types_53 (by decide) ?_
  refine g_istore_n C dL_types_57 rfl (Nat.le_of_ble_eq_true rfl) rfl ?_
  refine g_iinc C (v := 48) dL_types_58 rfl rfl (by decide) ?_
  refine g_goto C (tgt := 17) dL_types_61 (by decide) ?_
  show G E x (kA E A (txA κ [])) [some (.ref A.1), some (.long 6712441), none, some (.int 1), some (.int 48), some (.int 0)] 17 []
  refine g_iload C dL_types_17 rfl ?_
  refine g_if_lt_f C dL_types_19 64 (by decide) (by decide) ?_
  refine g_lload_n C dL_types_22 rfl rfl ?_
  refine g_iload C dL_types_23 rfl ?_
  refine g_lshr C (v := 0) dL_types_25 (by decide +kernel) ?_
  refine g_ldc2 C k19 dL_types_26 ?_
  refine g_land C dL_types_29 ?_
  refine g_l2i C dL_types_30 ?_
  rw [show ((0 &&& (255)) : Int64).toInt32 = 0 from by decide +kernel]
  refine g_istore C dL_types_31 (Nat.le_of_ble_eq_true rfl) rfl ?_
  refine g_iload_n C dL_types_33 rfl rfl ?_
  refine g_if_eq_f C dL_types_34 56 (by decide) (by decide) ?_
  refine g_iload C dL_types_37 rfl ?_
  refine g_if_eq_t C dL_types_39 (tgt := 52) (by decide) (by decide) ?_
  refine g_iconst C (v := 1) dL_types_52 rfl ?_
  refine g_goto C (tgt := 57) dL_types_53 (by decide) ?_
  refine g_istore_n C dL_types_57 rfl (Nat.le_of_ble_eq_true rfl) rfl ?_
  refine g_iinc C (v := 40) dL_types_58 rfl rfl (by decide) ?_
  refine g_goto C (tgt := 17) dL_types_61 (by decide) ?_
  show G E x (kA E A (txA κ [])) [some (.ref A.1), some (.long 6712441), none, some (.int 1), some (.int 40), some (.int 0)] 17 []
  refine g_iload C dL_types_17 rfl ?_
  refine g_if_lt_f C dL_types_19 64 (by decide) (by decide) ?_
  refine g_lload_n C dL_types_22 rfl rfl ?_
  refine g_iload C dL_types_23 rfl ?_
  refine g_lshr C (v := 0) dL_types_25 (by decide +kernel) ?_
  refine g_ldc2 C k19 dL_types_26 ?_
  refine g_land C dL_types_29 ?_
  refine g_l2i C dL_types_30 ?_
  rw [show ((0 &&& (255)) : Int64).toInt32 = 0 from by decide +kernel]
  refine g_istore C dL_types_31 (Nat.le_of_ble_eq_true rfl) rfl ?_
  refine g_iload_n C dL_types_33 rfl rfl ?_
  refine g_if_eq_f C dL_types_34 56 (by decide) (by decide) ?_
  refine g_iload C dL_types_37 rfl ?_
  refine g_if_eq_t C dL_types_39 (tgt := 52) (by decide) (by decide) ?_
  refine g_iconst C (v := 1) dL_types_52 rfl ?_
  refine g_goto C (tgt := 57) dL_types_53 (by decide) ?_
  refine g_istore_n C dL_types_57 rfl (Nat.le_of_ble_eq_true rfl) rfl ?_
  refine g_iinc C (v := 32) dL_types_58 rfl rfl (by decide) ?_
  refine g_goto C (tgt := 17) dL_types_61 (by decide) ?_
  show G E x (kA E A (txA κ [])) [some (.ref A.1), some (.long 6712441), none, some (.int 1), some (.int 32), some (.int 0)] 17 []
  refine g_iload C dL_types_17 rfl ?_
  refine g_if_lt_f C dL_types_19 64 (by decide) (by decide) ?_
  refine g_lload_n C dL_types_22 rfl rfl ?_
  refine g_iload C dL_types_23 rfl ?_
  refine g_lshr C (v := 0) dL_types_25 (by decide +kernel) ?_
  refine g_ldc2 C k19 dL_types_26 ?_
  refine g_land C dL_types_29 ?_
  refine g_l2i C dL_types_30 ?_
  rw [show ((0 &&& (255)) : Int64).toInt32 = 0 from by decide +kernel]
  refine g_istore C dL_types_31 (Nat.le_of_ble_eq_true rfl) rfl ?_
  refine g_iload_n C dL_types_33 rfl rfl ?_
  refine g_if_eq_f C dL_types_34 56 (by decide) (by decide) ?_
  refine g_iload C dL_types_37 rfl ?_
  refine g_if_eq_t C dL_types_39 (tgt := 52) (by decide) (by decide) ?_
  refine g_iconst C (v := 1) dL_types_52 rfl ?_
  refine g_goto C (tgt := 57) dL_types_53 (by decide) ?_
  refine g_istore_n C dL_types_57 rfl (Nat.le_of_ble_eq_true rfl) rfl ?_
  refine g_iinc C (v := 24) dL_types_58 rfl rfl (by decide) ?_
  refine g_goto C (tgt := 17) dL_types_61 (by decide) ?_
  show G E x (kA E A (txA κ [])) [some (.ref A.1), some (.long 6712441), none, some (.int 1), some (.int 24), some (.int 0)] 17 []
  refine g_iload C dL_types_17 rfl ?_
  refine g_if_lt_f C dL_types_19 64 (by decide) (by decide) ?_
  refine g_lload_n C dL_types_22 rfl rfl ?_
  refine g_iload C dL_types_23 rfl ?_
  refine g_lshr C (v := 0) dL_types_25 (by decide +kernel) ?_
  refine g_ldc2 C k19 dL_types_26 ?_
  refine g_land C dL_types_29 ?_
  refine g_l2i C dL_types_30 ?_
  rw [show ((0 &&& (255)) : Int64).toInt32 = 0 from by decide +kernel]
  refine g_istore C dL_types_31 (Nat.le_of_ble_eq_true rfl) rfl ?_
  refine g_iload_n C dL_types_33 rfl rfl ?_
  refine g_if_eq_f C dL_types_34 56 (by decide) (by decide) ?_
  refine g_iload C dL_types_37 rfl ?_
  refine g_if_eq_t C dL_types_39 (tgt := 52) (by decide) (by decide) ?_
  refine g_iconst C (v := 1) dL_types_52 rfl ?_
  refine g_goto C (tgt := 57) dL_types_53 (by decide) ?_
  refine g_istore_n C dL_types_57 rfl (Nat.le_of_ble_eq_true rfl) rfl ?_
  refine g_iinc C (v := 16) dL_types_58 rfl rfl (by decide) ?_
  refine g_goto C (tgt := 17) dL_types_61 (by decide) ?_
  show G E x (kA E A (txA κ [])) [some (.ref A.1), some (.long 6712441), none, some (.int 1), some (.int 16), some (.int 0)] 17 []
  refine g_iload C dL_types_17 rfl ?_
  refine g_if_lt_f C dL_types_19 64 (by decide) (by decide) ?_
  refine g_lload_n C dL_types_22 rfl rfl ?_
  refine g_iload C dL_types_23 rfl ?_
  refine g_lshr C (v := 102) dL_types_25 (by decide +kernel) ?_
  refine g_ldc2 C k19 dL_types_26 ?_
  refine g_land C dL_types_29 ?_
  refine g_l2i C dL_types_30 ?_
  rw [show ((102 &&& (255)) : Int64).toInt32 = 102 from by decide +kernel]
  refine g_istore C dL_types_31 (Nat.le_of_ble_eq_true rfl) rfl ?_
  refine g_iload_n C dL_types_33 rfl rfl ?_
  refine g_if_eq_f C dL_types_34 56 (by decide) (by decide) ?_
  refine g_iload C dL_types_37 rfl ?_
  refine g_if_eq_f C dL_types_39 52 (by decide) (by decide) ?_
  refine g_aload_n C dL_types_42 rfl rfl ?_
  refine g_iload C dL_types_43 rfl ?_
  refine g_i2c C dL_types_45 ?_
  rw [show ((102 : Int32).toUInt32 % 65536).toInt32 = 102 from by decide +kernel]
  refine g_callK C kA_hd (k0_type E A (txA κ []) (Nat.le_of_ble_eq_true rfl) 102 (by decide) (r := 1) (κ' := (txA κ [102])) (ty_e (Nat.le_of_ble_eq_true rfl))) cf_X3_type gL_types_X3_type rfl (fitD (Nat.le_of_ble_eq_true rfl) (Nat.le_of_ble_eq_true rfl)) rfl rfl (Nat.le_of_ble_eq_true rfl) dL_types_46 (fun q1 w1 hp => ?_)
  obtain ⟨rfl, rfl⟩ := hp
  refine g_if_le_f C dL_types_49 56 (by decide) (by decide) ?_
  refine g_iconst C (v := 1) dL_types_52 rfl ?_
  refine g_goto C (tgt := 57) dL_types_53 (by decide) ?_
  refine g_istore_n C dL_types_57 rfl (Nat.le_of_ble_eq_true rfl) rfl ?_
  refine g_iinc C (v := 8) dL_types_58 rfl rfl (by decide) ?_
  refine g_goto C (tgt := 17) dL_types_61 (by decide) ?_
  show G E x (kA E A (txA κ [102])) [some (.ref A.1), some (.long 6712441), none, some (.int 1), some (.int 8), some (.int 102)] 17 []
  refine g_iload C dL_types_17 rfl ?_
  refine g_if_lt_f C dL_types_19 64 (by decide) (by decide) ?_
  refine g_lload_n C dL_types_22 rfl rfl ?_
  refine g_iload C dL_types_23 rfl ?_
  refine g_lshr C (v := 26220) dL_types_25 (by decide +kernel) ?_
  refine g_ldc2 C k19 dL_types_26 ?_
  refine g_land C dL_types_29 ?_
  refine g_l2i C dL_types_30 ?_
  rw [show ((26220 &&& (255)) : Int64).toInt32 = 108 from by decide +kernel]
  refine g_istore C dL_types_31 (Nat.le_of_ble_eq_true rfl) rfl ?_
  refine g_iload_n C dL_types_33 rfl rfl ?_
  refine g_if_eq_f C dL_types_34 56 (by decide) (by decide) ?_
  refine g_iload C dL_types_37 rfl ?_
  refine g_if_eq_f C dL_types_39 52 (by decide) (by decide) ?_
  refine g_aload_n C dL_types_42 rfl rfl ?_
  refine g_iload C dL_types_43 rfl ?_
  refine g_i2c C dL_types_45 ?_
  rw [show ((108 : Int32).toUInt32 % 65536).toInt32 = 108 from by decide +kernel]
  refine g_callK C kA_hd (k0_type E A (txA κ [102]) (Nat.le_of_ble_eq_true rfl) 108 (by decide) (r := 2) (κ' := (txA κ [102, 108])) (ty_e (Nat.le_of_ble_eq_true rfl))) cf_X3_type gL_types_X3_type rfl (fitD (Nat.le_of_ble_eq_true rfl) (Nat.le_of_ble_eq_true rfl)) rfl rfl (Nat.le_of_ble_eq_true rfl) dL_types_46 (fun q1 w1 hp => ?_)
  obtain ⟨rfl, rfl⟩ := hp
  refine g_if_le_f C dL_types_49 56 (by decide) (by decide) ?_
  refine g_iconst C (v := 1) dL_types_52 rfl ?_
  refine g_goto C (tgt := 57) dL_types_53 (by decide) ?_
  refine g_istore_n C dL_types_57 rfl (Nat.le_of_ble_eq_true rfl) rfl ?_
  refine g_iinc C (v := 0) dL_types_58 rfl rfl (by decide) ?_
  refine g_goto C (tgt := 17) dL_types_61 (by decide) ?_
  show G E x (kA E A (txA κ [102, 108])) [some (.ref A.1), some (.long 6712441), none, some (.int 1), some (.int 0), some (.int 108)] 17 []
  refine g_iload C dL_types_17 rfl ?_
  refine g_if_lt_f C dL_types_19 64 (by decide) (by decide) ?_
  refine g_lload_n C dL_types_22 rfl rfl ?_
  refine g_iload C dL_types_23 rfl ?_
  refine g_lshr C (v := 6712441) dL_types_25 (by decide +kernel) ?_
  refine g_ldc2 C k19 dL_types_26 ?_
  refine g_land C dL_types_29 ?_
  refine g_l2i C dL_types_30 ?_
  rw [show ((6712441 &&& (255)) : Int64).toInt32 = 121 from by decide +kernel]
  refine g_istore C dL_types_31 (Nat.le_of_ble_eq_true rfl) rfl ?_
  refine g_iload_n C dL_types_33 rfl rfl ?_
  refine g_if_eq_f C dL_types_34 56 (by decide) (by decide) ?_
  refine g_iload C dL_types_37 rfl ?_
  refine g_if_eq_f C dL_types_39 52 (by decide) (by decide) ?_
  refine g_aload_n C dL_types_42 rfl rfl ?_
  refine g_iload C dL_types_43 rfl ?_
  refine g_i2c C dL_types_45 ?_
  rw [show ((121 : Int32).toUInt32 % 65536).toInt32 = 121 from by decide +kernel]
  refine g_callK C kA_hd (k0_type E A (txA κ [102, 108]) (Nat.le_of_ble_eq_true rfl) 121 (by decide) (r := 3) (κ' := (txA κ [102, 108, 121])) (ty_e (Nat.le_of_ble_eq_true rfl))) cf_X3_type gL_types_X3_type rfl (fitD (Nat.le_of_ble_eq_true rfl) (Nat.le_of_ble_eq_true rfl)) rfl rfl (Nat.le_of_ble_eq_true rfl) dL_types_46 (fun q1 w1 hp => ?_)
  obtain ⟨rfl, rfl⟩ := hp
  refine g_if_le_f C dL_types_49 56 (by decide) (by decide) ?_
  refine g_iconst C (v := 1) dL_types_52 rfl ?_
  refine g_goto C (tgt := 57) dL_types_53 (by decide) ?_
  refine g_istore_n C dL_types_57 rfl (Nat.le_of_ble_eq_true rfl) rfl ?_
  refine g_iinc C (v := (-8)) dL_types_58 rfl rfl (by decide) ?_
  refine g_goto C (tgt := 17) dL_types_61 (by decide) ?_
  show G E x (kA E A (txA κ [102, 108, 121])) [some (.ref A.1), some (.long 6712441), none, some (.int 1), some (.int (-8)), some (.int 121)] 17 []
  refine g_iload C dL_types_17 rfl ?_
  refine g_if_lt_t C dL_types_19 (tgt := 64) (by decide) (by decide) ?_
  refine g_iload_n C dL_types_64 rfl rfl ?_
  refine g_zret C R0 rfl dL_types_65 ?_
  exact ⟨rfl, rfl⟩
