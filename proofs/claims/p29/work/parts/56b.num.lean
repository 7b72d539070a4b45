theorem lt10_100 {v : Int32} (h : v < 10) : v < 100 := by
  rw [Int32.lt_iff_toInt_lt] at h ⊢
  rw [show (10 : Int32).toInt = 10 from by decide] at h
  rw [show (100 : Int32).toInt = 100 from by decide]
  omega
set_option maxHeartbeats 800000 in
set_option maxRecDepth 100000 in
theorem c_L_number (E : Ev) (A : Ad) (κ : KSt) (l : List Int32) (hl : l.length ≤ 75) (v : Int32) : MI E yL_number wsL_number (rmD 2) (kA E A (txA κ (l))) [.ref A.1, .int v] (pA E A 1 (txA κ (l ++ nuL v))) := by
  refine MI.of (cc := cL_number) (nL := 4) (ty := .boolean) (own := RL) [some (.ref A.1), some (.int v), none, none] (by decide +kernel) rfl rfl (Nat.le_of_ble_eq_true rfl) rfl rfl ?_
  intro x C R0
  by_cases hs : v < 0
  · by_cases h10 : -v < 10
    · have h100 : -v < 100 := lt10_100 h10
      refine g_aload_n C dL_number_0 rfl rfl ?_
      refine g_bipush C (v := 32) dL_number_1 rfl ?_
      refine g_callK C kA_hd (k0_type E A (txA κ (l)) (show (l).length ≤ 80 from by (try simp only [List.length_append, List.length_cons, List.length_nil]); omega) 32 (by decide) (r := nI ((l).length + 1)) (κ' := txA κ (l ++ [32])) (ty_e (by (try simp only [List.length_append, List.length_cons, List.length_nil]); omega))) cf_X3_type gL_number_X3_type rfl (fitD (Nat.le_of_ble_eq_true rfl) (Nat.le_of_ble_eq_true rfl)) rfl rfl (Nat.le_of_ble_eq_true rfl) dL_number_3 (fun q1 w1 hp => ?_)
      obtain ⟨rfl, rfl⟩ := hp
      refine g_if_le_f C dL_number_6 26 (by decide) (ty_p (by (try simp only [List.length_append, List.length_cons, List.length_nil]); omega)) ?_
      refine g_iload_n C dL_number_9 rfl rfl ?_
      refine g_if_ge_f C dL_number_10 22 (by decide) (i32_lt.mpr hs) ?_
      refine g_aload_n C dL_number_13 rfl rfl ?_
      refine g_bipush C (v := 45) dL_number_14 rfl ?_
      refine g_callK C kA_hd (k0_type E A (txA κ (l ++ [32])) (show (l ++ [32]).length ≤ 80 from by (try simp only [List.length_append, List.length_cons, List.length_nil]); omega) 45 (by decide) (r := nI ((l ++ [32]).length + 1)) (κ' := txA κ (l ++ [32] ++ [45])) (ty_e (by (try simp only [List.length_append, List.length_cons, List.length_nil]); omega))) cf_X3_type gL_number_X3_type rfl (fitD (Nat.le_of_ble_eq_true rfl) (Nat.le_of_ble_eq_true rfl)) rfl rfl (Nat.le_of_ble_eq_true rfl) dL_number_16 (fun q1 w1 hp => ?_)
      obtain ⟨rfl, rfl⟩ := hp
      refine g_if_le_f C dL_number_19 26 (by decide) (ty_p (by (try simp only [List.length_append, List.length_cons, List.length_nil]); omega)) ?_
      refine g_iconst C (v := 1) dL_number_22 rfl ?_
      refine g_goto C (tgt := 27) dL_number_23 (by decide) ?_
      refine g_istore_n C dL_number_27 rfl (Nat.le_of_ble_eq_true rfl) rfl ?_
      refine g_iload_n C dL_number_28 rfl rfl ?_
      refine g_if_ge_f C dL_number_29 37 (by decide) (i32_lt.mpr hs) ?_
      refine g_iload_n C dL_number_32 rfl rfl ?_
      refine g_ineg C dL_number_33 ?_
      refine g_goto C (tgt := 38) dL_number_34 (by decide) ?_
      refine g_istore_n C dL_number_38 rfl (Nat.le_of_ble_eq_true rfl) rfl ?_
      refine g_iload_n C dL_number_39 rfl rfl ?_
      refine g_if_eq_f C dL_number_40 107 (by decide) (by decide) ?_
      refine g_iload_n C dL_number_43 rfl rfl ?_
      refine g_bipush C (v := 100) dL_number_44 rfl ?_
      refine g_icmp_lt_t C dL_number_46 (tgt := 64) (by decide) h100 ?_
      refine g_iload_n C dL_number_64 rfl rfl ?_
      refine g_bipush C (v := 10) dL_number_65 rfl ?_
      refine g_icmp_lt_t C dL_number_67 (tgt := 88) (by decide) h10 ?_
      refine g_aload_n C dL_number_88 rfl rfl ?_
      refine g_bipush C (v := 48) dL_number_89 rfl ?_
      refine g_iload_n C dL_number_91 rfl rfl ?_
      refine g_bipush C (v := 10) dL_number_92 rfl ?_
      refine g_irem C dL_number_94 (by decide) ?_
      refine g_iadd C dL_number_95 ?_
      refine g_i2c C dL_number_96 ?_
      refine g_callK C kA_hd (k0_type E A (txA κ (l ++ [32] ++ [45])) (show (l ++ [32] ++ [45]).length ≤ 80 from by (try simp only [List.length_append, List.length_cons, List.length_nil]); omega) (((48 + ((-v) - (-v) / 10 * 10)).toUInt32 % 65536).toInt32) (char_id _) (r := nI ((l ++ [32] ++ [45]).length + 1)) (κ' := txA κ (l ++ [32] ++ [45] ++ [((48 + ((-v) - (-v) / 10 * 10)).toUInt32 % 65536).toInt32])) (ty_e (by (try simp only [List.length_append, List.length_cons, List.length_nil]); omega))) cf_X3_type gL_number_X3_type rfl (fitD (Nat.le_of_ble_eq_true rfl) (Nat.le_of_ble_eq_true rfl)) rfl rfl (Nat.le_of_ble_eq_true rfl) dL_number_97 (fun q1 w1 hp => ?_)
      obtain ⟨rfl, rfl⟩ := hp
      refine g_if_le_f C dL_number_100 107 (by decide) (ty_p (by (try simp only [List.length_append, List.length_cons, List.length_nil]); omega)) ?_
      refine g_iconst C (v := 1) dL_number_103 rfl ?_
      refine g_goto C (tgt := 108) dL_number_104 (by decide) ?_
      refine g_zret C R0 rfl dL_number_108 ?_
      have ea : absV v = -v := if_pos hs
      refine ⟨rfl, ?_⟩
      rw [nuL, if_pos hs, ea, if_pos h100, if_pos h10]
      simp only [List.append_assoc, List.nil_append, List.cons_append]
      rfl
    · by_cases h100 : -v < 100
      · refine g_aload_n C dL_number_0 rfl rfl ?_
        refine g_bipush C (v := 32) dL_number_1 rfl ?_
        refine g_callK C kA_hd (k0_type E A (txA κ (l)) (show (l).length ≤ 80 from by (try simp only [List.length_append, List.length_cons, List.length_nil]); omega) 32 (by decide) (r := nI ((l).length + 1)) (κ' := txA κ (l ++ [32])) (ty_e (by (try simp only [List.length_append, List.length_cons, List.length_nil]); omega))) cf_X3_type gL_number_X3_type rfl (fitD (Nat.le_of_ble_eq_true rfl) (Nat.le_of_ble_eq_true rfl)) rfl rfl (Nat.le_of_ble_eq_true rfl) dL_number_3 (fun q1 w1 hp => ?_)
        obtain ⟨rfl, rfl⟩ := hp
        refine g_if_le_f C dL_number_6 26 (by decide) (ty_p (by (try simp only [List.length_append, List.length_cons, List.length_nil]); omega)) ?_
        refine g_iload_n C dL_number_9 rfl rfl ?_
        refine g_if_ge_f C dL_number_10 22 (by decide) (i32_lt.mpr hs) ?_
        refine g_aload_n C dL_number_13 rfl rfl ?_
        refine g_bipush C (v := 45) dL_number_14 rfl ?_
        refine g_callK C kA_hd (k0_type E A (txA κ (l ++ [32])) (show (l ++ [32]).length ≤ 80 from by (try simp only [List.length_append, List.length_cons, List.length_nil]); omega) 45 (by decide) (r := nI ((l ++ [32]).length + 1)) (κ' := txA κ (l ++ [32] ++ [45])) (ty_e (by (try simp only [List.length_append, List.length_cons, List.length_nil]); omega))) cf_X3_type gL_number_X3_type rfl (fitD (Nat.le_of_ble_eq_true rfl) (Nat.le_of_ble_eq_true rfl)) rfl rfl (Nat.le_of_ble_eq_true rfl) dL_number_16 (fun q1 w1 hp => ?_)
        obtain ⟨rfl, rfl⟩ := hp
        refine g_if_le_f C dL_number_19 26 (by decide) (ty_p (by (try simp only [List.length_append, List.length_cons, List.length_nil]); omega)) ?_
        refine g_iconst C (v := 1) dL_number_22 rfl ?_
        refine g_goto C (tgt := 27) dL_number_23 (by decide) ?_
        refine g_istore_n C dL_number_27 rfl (Nat.le_of_ble_eq_true rfl) rfl ?_
        refine g_iload_n C dL_number_28 rfl rfl ?_
        refine g_if_ge_f C dL_number_29 37 (by decide) (i32_lt.mpr hs) ?_
        refine g_iload_n C dL_number_32 rfl rfl ?_
        refine g_ineg C dL_number_33 ?_
        refine g_goto C (tgt := 38) dL_number_34 (by decide) ?_
        refine g_istore_n C dL_number_38 rfl (Nat.le_of_ble_eq_true rfl) rfl ?_
        refine g_iload_n C dL_number_39 rfl rfl ?_
        refine g_if_eq_f C dL_number_40 107 (by decide) (by decide) ?_
        refine g_iload_n C dL_number_43 rfl rfl ?_
        refine g_bipush C (v := 100) dL_number_44 rfl ?_
        refine g_icmp_lt_t C dL_number_46 (tgt := 64) (by decide) h100 ?_
        refine g_iload_n C dL_number_64 rfl rfl ?_
        refine g_bipush C (v := 10) dL_number_65 rfl ?_
        refine g_icmp_lt_f C dL_number_67 88 (by decide) h10 ?_
        refine g_aload_n C dL_number_70 rfl rfl ?_
        refine g_bipush C (v := 48) dL_number_71 rfl ?_
        refine g_iload_n C dL_number_73 rfl rfl ?_
        refine g_bipush C (v := 10) dL_number_74 rfl ?_
        refine g_idiv C dL_number_76 (by decide) ?_
        refine g_bipush C (v := 10) dL_number_77 rfl ?_
        refine g_irem C dL_number_79 (by decide) ?_
        refine g_iadd C dL_number_80 ?_
        refine g_i2c C dL_number_81 ?_
        refine g_callK C kA_hd (k0_type E A (txA κ (l ++ [32] ++ [45])) (show (l ++ [32] ++ [45]).length ≤ 80 from by (try simp only [List.length_append, List.length_cons, List.length_nil]); omega) (((48 + (((-v) / 10) - ((-v) / 10) / 10 * 10)).toUInt32 % 65536).toInt32) (char_id _) (r := nI ((l ++ [32] ++ [45]).length + 1)) (κ' := txA κ (l ++ [32] ++ [45] ++ [((48 + (((-v) / 10) - ((-v) / 10) / 10 * 10)).toUInt32 % 65536).toInt32])) (ty_e (by (try simp only [List.length_append, List.length_cons, List.length_nil]); omega))) cf_X3_type gL_number_X3_type rfl (fitD (Nat.le_of_ble_eq_true rfl) (Nat.le_of_ble_eq_true rfl)) rfl rfl (Nat.le_of_ble_eq_true rfl) dL_number_82 (fun q1 w1 hp => ?_)
        obtain ⟨rfl, rfl⟩ := hp
        refine g_if_le_f C dL_number_85 107 (by decide) (ty_p (by (try simp only [List.length_append, List.length_cons, List.length_nil]); omega)) ?_
        refine g_aload_n C dL_number_88 rfl rfl ?_
        refine g_bipush C (v := 48) dL_number_89 rfl ?_
        refine g_iload_n C dL_number_91 rfl rfl ?_
        refine g_bipush C (v := 10) dL_number_92 rfl ?_
        refine g_irem C dL_number_94 (by decide) ?_
        refine g_iadd C dL_number_95 ?_
        refine g_i2c C dL_number_96 ?_
        refine g_callK C kA_hd (k0_type E A (txA κ (l ++ [32] ++ [45] ++ [((48 + (((-v) / 10) - ((-v) / 10) / 10 * 10)).toUInt32 % 65536).toInt32])) (show (l ++ [32] ++ [45] ++ [((48 + (((-v) / 10) - ((-v) / 10) / 10 * 10)).toUInt32 % 65536).toInt32]).length ≤ 80 from by (try simp only [List.length_append, List.length_cons, List.length_nil]); omega) (((48 + ((-v) - (-v) / 10 * 10)).toUInt32 % 65536).toInt32) (char_id _) (r := nI ((l ++ [32] ++ [45] ++ [((48 + (((-v) / 10) - ((-v) / 10) / 10 * 10)).toUInt32 % 65536).toInt32]).length + 1)) (κ' := txA κ (l ++ [32] ++ [45] ++ [((48 + (((-v) / 10) - ((-v) / 10) / 10 * 10)).toUInt32 % 65536).toInt32] ++ [((48 + ((-v) - (-v) / 10 * 10)).toUInt32 % 65536).toInt32])) (ty_e (by (try simp only [List.length_append, List.length_cons, List.length_nil]); omega))) cf_X3_type gL_number_X3_type rfl (fitD (Nat.le_of_ble_eq_true rfl) (Nat.le_of_ble_eq_true rfl)) rfl rfl (Nat.le_of_ble_eq_true rfl) dL_number_97 (fun q1 w1 hp => ?_)
        obtain ⟨rfl, rfl⟩ := hp
        refine g_if_le_f C dL_number_100 107 (by decide) (ty_p (by (try simp only [List.length_append, List.length_cons, List.length_nil]); omega)) ?_
        refine g_iconst C (v := 1) dL_number_103 rfl ?_
        refine g_goto C (tgt := 108) dL_number_104 (by decide) ?_
        refine g_zret C R0 rfl dL_number_108 ?_
        have ea : absV v = -v := if_pos hs
        refine ⟨rfl, ?_⟩
        rw [nuL, if_pos hs, ea, if_pos h100, if_neg h10]
        simp only [List.append_assoc, List.nil_append, List.cons_append]
        rfl
      · refine g_aload_n C dL_number_0 rfl rfl ?_
        refine g_bipush C (v := 32) dL_number_1 rfl ?_
        refine g_callK C kA_hd (k0_type E A (txA κ (l)) (show (l).length ≤ 80 from by (try simp only [List.length_append, List.length_cons, List.length_nil]); omega) 32 (by decide) (r := nI ((l).length + 1)) (κ' := txA κ (l ++ [32])) (ty_e (by (try simp only [List.length_append, List.length_cons, List.length_nil]); omega))) cf_X3_type gL_number_X3_type rfl (fitD (Nat.le_of_ble_eq_true rfl) (Nat.le_of_ble_eq_true rfl)) rfl rfl (Nat.le_of_ble_eq_true rfl) dL_number_3 (fun q1 w1 hp => ?_)
        obtain ⟨rfl, rfl⟩ := hp
        refine g_if_le_f C dL_number_6 26 (by decide) (ty_p (by (try simp only [List.length_append, List.length_cons, List.length_nil]); omega)) ?_
        refine g_iload_n C dL_number_9 rfl rfl ?_
        refine g_if_ge_f C dL_number_10 22 (by decide) (i32_lt.mpr hs) ?_
        refine g_aload_n C dL_number_13 rfl rfl ?_
        refine g_bipush C (v := 45) dL_number_14 rfl ?_
        refine g_callK C kA_hd (k0_type E A (txA κ (l ++ [32])) (show (l ++ [32]).length ≤ 80 from by (try simp only [List.length_append, List.length_cons, List.length_nil]); omega) 45 (by decide) (r := nI ((l ++ [32]).length + 1)) (κ' := txA κ (l ++ [32] ++ [45])) (ty_e (by (try simp only [List.length_append, List.length_cons, List.length_nil]); omega))) cf_X3_type gL_number_X3_type rfl (fitD (Nat.le_of_ble_eq_true rfl) (Nat.le_of_ble_eq_true rfl)) rfl rfl (Nat.le_of_ble_eq_true rfl) dL_number_16 (fun q1 w1 hp => ?_)
        obtain ⟨rfl, rfl⟩ := hp
        refine g_if_le_f C dL_number_19 26 (by decide) (ty_p (by (try simp only [List.length_append, List.length_cons, List.length_nil]); omega)) ?_
        refine g_iconst C (v := 1) dL_number_22 rfl ?_
        refine g_goto C (tgt := 27) dL_number_23 (by decide) ?_
        refine g_istore_n C dL_number_27 rfl (Nat.le_of_ble_eq_true rfl) rfl ?_
        refine g_iload_n C dL_number_28 rfl rfl ?_
        refine g_if_ge_f C dL_number_29 37 (by decide) (i32_lt.mpr hs) ?_
        refine g_iload_n C dL_number_32 rfl rfl ?_
        refine g_ineg C dL_number_33 ?_
        refine g_goto C (tgt := 38) dL_number_34 (by decide) ?_
        refine g_istore_n C dL_number_38 rfl (Nat.le_of_ble_eq_true rfl) rfl ?_
        refine g_iload_n C dL_number_39 rfl rfl ?_
        refine g_if_eq_f C dL_number_40 107 (by decide) (by decide) ?_
        refine g_iload_n C dL_number_43 rfl rfl ?_
        refine g_bipush C (v := 100) dL_number_44 rfl ?_
        refine g_icmp_lt_f C dL_number_46 64 (by decide) h100 ?_
        refine g_aload_n C dL_number_49 rfl rfl ?_
        refine g_bipush C (v := 48) dL_number_50 rfl ?_
        refine g_iload_n C dL_number_52 rfl rfl ?_
        refine g_bipush C (v := 100) dL_number_53 rfl ?_
        refine g_idiv C dL_number_55 (by decide) ?_
        refine g_iadd C dL_number_56 ?_
        refine g_i2c C dL_number_57 ?_
        refine g_callK C kA_hd (k0_type E A (txA κ (l ++ [32] ++ [45])) (show (l ++ [32] ++ [45]).length ≤ 80 from by (try simp only [List.length_append, List.length_cons, List.length_nil]); omega) (((48 + ((-v) / 100)).toUInt32 % 65536).toInt32) (char_id _) (r := nI ((l ++ [32] ++ [45]).length + 1)) (κ' := txA κ (l ++ [32] ++ [45] ++ [((48 + ((-v) / 100)).toUInt32 % 65536).toInt32])) (ty_e (by (try simp only [List.length_append, List.length_cons, List.length_nil]); omega))) cf_X3_type gL_number_X3_type rfl (fitD (Nat.le_of_ble_eq_true rfl) (Nat.le_of_ble_eq_true rfl)) rfl rfl (Nat.le_of_ble_eq_true rfl) dL_number_58 (fun q1 w1 hp => ?_)
        obtain ⟨rfl, rfl⟩ := hp
        refine g_if_le_f C dL_number_61 107 (by decide) (ty_p (by (try simp only [List.length_append, List.length_cons, List.length_nil]); omega)) ?_
        refine g_iload_n C dL_number_64 rfl rfl ?_
        refine g_bipush C (v := 10) dL_number_65 rfl ?_
        refine g_icmp_lt_f C dL_number_67 88 (by decide) h10 ?_
        refine g_aload_n C dL_number_70 rfl rfl ?_
        refine g_bipush C (v := 48) dL_number_71 rfl ?_
        refine g_iload_n C dL_number_73 rfl rfl ?_
        refine g_bipush C (v := 10) dL_number_74 rfl ?_
        refine g_idiv C dL_number_76 (by decide) ?_
        refine g_bipush C (v := 10) dL_number_77 rfl ?_
        refine g_irem C dL_number_79 (by decide) ?_
        refine g_iadd C dL_number_80 ?_
        refine g_i2c C dL_number_81 ?_
        refine g_callK C kA_hd (k0_type E A (txA κ (l ++ [32] ++ [45] ++ [((48 + ((-v) / 100)).toUInt32 % 65536).toInt32])) (show (l ++ [32] ++ [45] ++ [((48 + ((-v) / 100)).toUInt32 % 65536).toInt32]).length ≤ 80 from by (try simp only [List.length_append, List.length_cons, List.length_nil]); omega) (((48 + (((-v) / 10) - ((-v) / 10) / 10 * 10)).toUInt32 % 65536).toInt32) (char_id _) (r := nI ((l ++ [32] ++ [45] ++ [((48 + ((-v) / 100)).toUInt32 % 65536).toInt32]).length + 1)) (κ' := txA κ (l ++ [32] ++ [45] ++ [((48 + ((-v) / 100)).toUInt32 % 65536).toInt32] ++ [((48 + (((-v) / 10) - ((-v) / 10) / 10 * 10)).toUInt32 % 65536).toInt32])) (ty_e (by (try simp only [List.length_append, List.length_cons, List.length_nil]); omega))) cf_X3_type gL_number_X3_type rfl (fitD (Nat.le_of_ble_eq_true rfl) (Nat.le_of_ble_eq_true rfl)) rfl rfl (Nat.le_of_ble_eq_true rfl) dL_number_82 (fun q1 w1 hp => ?_)
        obtain ⟨rfl, rfl⟩ := hp
        refine g_if_le_f C dL_number_85 107 (by decide) (ty_p (by (try simp only [List.length_append, List.length_cons, List.length_nil]); omega)) ?_
        refine g_aload_n C dL_number_88 rfl rfl ?_
        refine g_bipush C (v := 48) dL_number_89 rfl ?_
        refine g_iload_n C dL_number_91 rfl rfl ?_
        refine g_bipush C (v := 10) dL_number_92 rfl ?_
        refine g_irem C dL_number_94 (by decide) ?_
        refine g_iadd C dL_number_95 ?_
        refine g_i2c C dL_number_96 ?_
        refine g_callK C kA_hd (k0_type E A (txA κ (l ++ [32] ++ [45] ++ [((48 + ((-v) / 100)).toUInt32 % 65536).toInt32] ++ [((48 + (((-v) / 10) - ((-v) / 10) / 10 * 10)).toUInt32 % 65536).toInt32])) (show (l ++ [32] ++ [45] ++ [((48 + ((-v) / 100)).toUInt32 % 65536).toInt32] ++ [((48 + (((-v) / 10) - ((-v) / 10) / 10 * 10)).toUInt32 % 65536).toInt32]).length ≤ 80 from by (try simp only [List.length_append, List.length_cons, List.length_nil]); omega) (((48 + ((-v) - (-v) / 10 * 10)).toUInt32 % 65536).toInt32) (char_id _) (r := nI ((l ++ [32] ++ [45] ++ [((48 + ((-v) / 100)).toUInt32 % 65536).toInt32] ++ [((48 + (((-v) / 10) - ((-v) / 10) / 10 * 10)).toUInt32 % 65536).toInt32]).length + 1)) (κ' := txA κ (l ++ [32] ++ [45] ++ [((48 + ((-v) / 100)).toUInt32 % 65536).toInt32] ++ [((48 + (((-v) / 10) - ((-v) / 10) / 10 * 10)).toUInt32 % 65536).toInt32] ++ [((48 + ((-v) - (-v) / 10 * 10)).toUInt32 % 65536).toInt32])) (ty_e (by (try simp only [List.length_append, List.length_cons, List.length_nil]); omega))) cf_X3_type gL_number_X3_type rfl (fitD (Nat.le_of_ble_eq_true rfl) (Nat.le_of_ble_eq_true rfl)) rfl rfl (Nat.le_of_ble_eq_true rfl) dL_number_97 (fun q1 w1 hp => ?_)
        obtain ⟨rfl, rfl⟩ := hp
        refine g_if_le_f C dL_number_100 107 (by decide) (ty_p (by (try simp only [List.length_append, List.length_cons, List.length_nil]); omega)) ?_
        refine g_iconst C (v := 1) dL_number_103 rfl ?_
        refine g_goto C (tgt := 108) dL_number_104 (by decide) ?_
        refine g_zret C R0 rfl dL_number_108 ?_
        have ea : absV v = -v := if_pos hs
        refine ⟨rfl, ?_⟩
        rw [nuL, if_pos hs, ea, if_neg h100, if_neg h10]
        simp only [List.append_assoc, List.nil_append, List.cons_append]
        rfl
  · by_cases h10 : v < 10
    · have h100 : v < 100 := lt10_100 h10
      refine g_aload_n C dL_number_0 rfl rfl ?_
      refine g_bipush C (v := 32) dL_number_1 rfl ?_
      refine g_callK C kA_hd (k0_type E A (txA κ (l)) (show (l).length ≤ 80 from by (try simp only [List.length_append, List.length_cons, List.length_nil]); omega) 32 (by decide) (r := nI ((l).length + 1)) (κ' := txA κ (l ++ [32])) (ty_e (by (try simp only [List.length_append, List.length_cons, List.length_nil]); omega))) cf_X3_type gL_number_X3_type rfl (fitD (Nat.le_of_ble_eq_true rfl) (Nat.le_of_ble_eq_true rfl)) rfl rfl (Nat.le_of_ble_eq_true rfl) dL_number_3 (fun q1 w1 hp => ?_)
      obtain ⟨rfl, rfl⟩ := hp
      refine g_if_le_f C dL_number_6 26 (by decide) (ty_p (by (try simp only [List.length_append, List.length_cons, List.length_nil]); omega)) ?_
      refine g_iload_n C dL_number_9 rfl rfl ?_
      refine g_if_ge_t C dL_number_10 (tgt := 22) (by decide) (i32_le.mp hs) ?_
      refine g_iconst C (v := 1) dL_number_22 rfl ?_
      refine g_goto C (tgt := 27) dL_number_23 (by decide) ?_
      refine g_istore_n C dL_number_27 rfl (Nat.le_of_ble_eq_true rfl) rfl ?_
      refine g_iload_n C dL_number_28 rfl rfl ?_
      refine g_if_ge_t C dL_number_29 (tgt := 37) (by decide) (i32_le.mp hs) ?_
      refine g_iload_n C dL_number_37 rfl rfl ?_
      refine g_istore_n C dL_number_38 rfl (Nat.le_of_ble_eq_true rfl) rfl ?_
      refine g_iload_n C dL_number_39 rfl rfl ?_
      refine g_if_eq_f C dL_number_40 107 (by decide) (by decide) ?_
      refine g_iload_n C dL_number_43 rfl rfl ?_
      refine g_bipush C (v := 100) dL_number_44 rfl ?_
      refine g_icmp_lt_t C dL_number_46 (tgt := 64) (by decide) h100 ?_
      refine g_iload_n C dL_number_64 rfl rfl ?_
      refine g_bipush C (v := 10) dL_number_65 rfl ?_
      refine g_icmp_lt_t C dL_number_67 (tgt := 88) (by decide) h10 ?_
      refine g_aload_n C dL_number_88 rfl rfl ?_
      refine g_bipush C (v := 48) dL_number_89 rfl ?_
      refine g_iload_n C dL_number_91 rfl rfl ?_
      refine g_bipush C (v := 10) dL_number_92 rfl ?_
      refine g_irem C dL_number_94 (by decide) ?_
      refine g_iadd C dL_number_95 ?_
      refine g_i2c C dL_number_96 ?_
      refine g_callK C kA_hd (k0_type E A (txA κ (l ++ [32])) (show (l ++ [32]).length ≤ 80 from by (try simp only [List.length_append, List.length_cons, List.length_nil]); omega) (((48 + (v - v / 10 * 10)).toUInt32 % 65536).toInt32) (char_id _) (r := nI ((l ++ [32]).length + 1)) (κ' := txA κ (l ++ [32] ++ [((48 + (v - v / 10 * 10)).toUInt32 % 65536).toInt32])) (ty_e (by (try simp only [List.length_append, List.length_cons, List.length_nil]); omega))) cf_X3_type gL_number_X3_type rfl (fitD (Nat.le_of_ble_eq_true rfl) (Nat.le_of_ble_eq_true rfl)) rfl rfl (Nat.le_of_ble_eq_true rfl) dL_number_97 (fun q1 w1 hp => ?_)
      obtain ⟨rfl, rfl⟩ := hp
      refine g_if_le_f C dL_number_100 107 (by decide) (ty_p (by (try simp only [List.length_append, List.length_cons, List.length_nil]); omega)) ?_
      refine g_iconst C (v := 1) dL_number_103 rfl ?_
      refine g_goto C (tgt := 108) dL_number_104 (by decide) ?_
      refine g_zret C R0 rfl dL_number_108 ?_
      have ea : absV v = v := if_neg hs
      refine ⟨rfl, ?_⟩
      rw [nuL, if_neg hs, ea, if_pos h100, if_pos h10]
      simp only [List.append_assoc, List.nil_append, List.cons_append]
      rfl
    · by_cases h100 : v < 100
      · refine g_aload_n C dL_number_0 rfl rfl ?_
        refine g_bipush C (v := 32) dL_number_1 rfl ?_
        refine g_callK C kA_hd (k0_type E A (txA κ (l)) (show (l).length ≤ 80 from by (try simp only [List.length_append, List.length_cons, List.length_nil]); omega) 32 (by decide) (r := nI ((l).length + 1)) (κ' := txA κ (l ++ [32])) (ty_e (by (try simp only [List.length_append, List.length_cons, List.length_nil]); omega))) cf_X3_type gL_number_X3_type rfl (fitD (Nat.le_of_ble_eq_true rfl) (Nat.le_of_ble_eq_true rfl)) rfl rfl (Nat.le_of_ble_eq_true rfl) dL_number_3 (fun q1 w1 hp => ?_)
        obtain ⟨rfl, rfl⟩ := hp
        refine g_if_le_f C dL_number_6 26 (by decide) (ty_p (by (try simp only [List.length_append, List.length_cons, List.length_nil]); omega)) ?_
        refine g_iload_n C dL_number_9 rfl rfl ?_
        refine g_if_ge_t C dL_number_10 (tgt := 22) (by decide) (i32_le.mp hs) ?_
        refine g_iconst C (v := 1) dL_number_22 rfl ?_
        refine g_goto C (tgt := 27) dL_number_23 (by decide) ?_
        refine g_istore_n C dL_number_27 rfl (Nat.le_of_ble_eq_true rfl) rfl ?_
        refine g_iload_n C dL_number_28 rfl rfl ?_
        refine g_if_ge_t C dL_number_29 (tgt := 37) (by decide) (i32_le.mp hs) ?_
        refine g_iload_n C dL_number_37 rfl rfl ?_
        refine g_istore_n C dL_number_38 rfl (Nat.le_of_ble_eq_true rfl) rfl ?_
        refine g_iload_n C dL_number_39 rfl rfl ?_
        refine g_if_eq_f C dL_number_40 107 (by decide) (by decide) ?_
        refine g_iload_n C dL_number_43 rfl rfl ?_
        refine g_bipush C (v := 100) dL_number_44 rfl ?_
        refine g_icmp_lt_t C dL_number_46 (tgt := 64) (by decide) h100 ?_
        refine g_iload_n C dL_number_64 rfl rfl ?_
        refine g_bipush C (v := 10) dL_number_65 rfl ?_
        refine g_icmp_lt_f C dL_number_67 88 (by decide) h10 ?_
        refine g_aload_n C dL_number_70 rfl rfl ?_
        refine g_bipush C (v := 48) dL_number_71 rfl ?_
        refine g_iload_n C dL_number_73 rfl rfl ?_
        refine g_bipush C (v := 10) dL_number_74 rfl ?_
        refine g_idiv C dL_number_76 (by decide) ?_
        refine g_bipush C (v := 10) dL_number_77 rfl ?_
        refine g_irem C dL_number_79 (by decide) ?_
        refine g_iadd C dL_number_80 ?_
        refine g_i2c C dL_number_81 ?_
        refine g_callK C kA_hd (k0_type E A (txA κ (l ++ [32])) (show (l ++ [32]).length ≤ 80 from by (try simp only [List.length_append, List.length_cons, List.length_nil]); omega) (((48 + ((v / 10) - (v / 10) / 10 * 10)).toUInt32 % 65536).toInt32) (char_id _) (r := nI ((l ++ [32]).length + 1)) (κ' := txA κ (l ++ [32] ++ [((48 + ((v / 10) - (v / 10) / 10 * 10)).toUInt32 % 65536).toInt32])) (ty_e (by (try simp only [List.length_append, List.length_cons, List.length_nil]); omega))) cf_X3_type gL_number_X3_type rfl (fitD (Nat.le_of_ble_eq_true rfl) (Nat.le_of_ble_eq_true rfl)) rfl rfl (Nat.le_of_ble_eq_true rfl) dL_number_82 (fun q1 w1 hp => ?_)
        obtain ⟨rfl, rfl⟩ := hp
        refine g_if_le_f C dL_number_85 107 (by decide) (ty_p (by (try simp only [List.length_append, List.length_cons, List.length_nil]); omega)) ?_
        refine g_aload_n C dL_number_88 rfl rfl ?_
        refine g_bipush C (v := 48) dL_number_89 rfl ?_
        refine g_iload_n C dL_number_91 rfl rfl ?_
        refine g_bipush C (v := 10) dL_number_92 rfl ?_
        refine g_irem C dL_number_94 (by decide) ?_
        refine g_iadd C dL_number_95 ?_
        refine g_i2c C dL_number_96 ?_
        refine g_callK C kA_hd (k0_type E A (txA κ (l ++ [32] ++ [((48 + ((v / 10) - (v / 10) / 10 * 10)).toUInt32 % 65536).toInt32])) (show (l ++ [32] ++ [((48 + ((v / 10) - (v / 10) / 10 * 10)).toUInt32 % 65536).toInt32]).length ≤ 80 from by (try simp only [List.length_append, List.length_cons, List.length_nil]); omega) (((48 + (v - v / 10 * 10)).toUInt32 % 65536).toInt32) (char_id _) (r := nI ((l ++ [32] ++ [((48 + ((v / 10) - (v / 10) / 10 * 10)).toUInt32 % 65536).toInt32]).length + 1)) (κ' := txA κ (l ++ [32] ++ [((48 + ((v / 10) - (v / 10) / 10 * 10)).toUInt32 % 65536).toInt32] ++ [((48 + (v - v / 10 * 10)).toUInt32 % 65536).toInt32])) (ty_e (by (try simp only [List.length_append, List.length_cons, List.length_nil]); omega))) cf_X3_type gL_number_X3_type rfl (fitD (Nat.le_of_ble_eq_true rfl) (Nat.le_of_ble_eq_true rfl)) rfl rfl (Nat.le_of_ble_eq_true rfl) dL_number_97 (fun q1 w1 hp => ?_)
        obtain ⟨rfl, rfl⟩ := hp
        refine g_if_le_f C dL_number_100 107 (by decide) (ty_p (by (try simp only [List.length_append, List.length_cons, List.length_nil]); omega)) ?_
        refine g_iconst C (v := 1) dL_number_103 rfl ?_
        refine g_goto C (tgt := 108) dL_number_104 (by decide) ?_
        refine g_zret C R0 rfl dL_number_108 ?_
        have ea : absV v = v := if_neg hs
        refine ⟨rfl, ?_⟩
        rw [nuL, if_neg hs, ea, if_pos h100, if_neg h10]
        simp only [List.append_assoc, List.nil_append, List.cons_append]
        rfl
      · refine g_aload_n C dL_number_0 rfl rfl ?_
        refine g_bipush C (v := 32) dL_number_1 rfl ?_
        refine g_callK C kA_hd (k0_type E A (txA κ (l)) (show (l).length ≤ 80 from by (try simp only [List.length_append, List.length_cons, List.length_nil]); omega) 32 (by decide) (r := nI ((l).length + 1)) (κ' := txA κ (l ++ [32])) (ty_e (by (try simp only [List.length_append, List.length_cons, List.length_nil]); omega))) cf_X3_type gL_number_X3_type rfl (fitD (Nat.le_of_ble_eq_true rfl) (Nat.le_of_ble_eq_true rfl)) rfl rfl (Nat.le_of_ble_eq_true rfl) dL_number_3 (fun q1 w1 hp => ?_)
        obtain ⟨rfl, rfl⟩ := hp
        refine g_if_le_f C dL_number_6 26 (by decide) (ty_p (by (try simp only [List.length_append, List.length_cons, List.length_nil]); omega)) ?_
        refine g_iload_n C dL_number_9 rfl rfl ?_
        refine g_if_ge_t C dL_number_10 (tgt := 22) (by decide) (i32_le.mp hs) ?_
        refine g_iconst C (v := 1) dL_number_22 rfl ?_
        refine g_goto C (tgt := 27) dL_number_23 (by decide) ?_
        refine g_istore_n C dL_number_27 rfl (Nat.le_of_ble_eq_true rfl) rfl ?_
        refine g_iload_n C dL_number_28 rfl rfl ?_
        refine g_if_ge_t C dL_number_29 (tgt := 37) (by decide) (i32_le.mp hs) ?_
        refine g_iload_n C dL_number_37 rfl rfl ?_
        refine g_istore_n C dL_number_38 rfl (Nat.le_of_ble_eq_true rfl) rfl ?_
        refine g_iload_n C dL_number_39 rfl rfl ?_
        refine g_if_eq_f C dL_number_40 107 (by decide) (by decide) ?_
        refine g_iload_n C dL_number_43 rfl rfl ?_
        refine g_bipush C (v := 100) dL_number_44 rfl ?_
        refine g_icmp_lt_f C dL_number_46 64 (by decide) h100 ?_
        refine g_aload_n C dL_number_49 rfl rfl ?_
        refine g_bipush C (v := 48) dL_number_50 rfl ?_
        refine g_iload_n C dL_number_52 rfl rfl ?_
        refine g_bipush C (v := 100) dL_number_53 rfl ?_
        refine g_idiv C dL_number_55 (by decide) ?_
        refine g_iadd C dL_number_56 ?_
        refine g_i2c C dL_number_57 ?_
        refine g_callK C kA_hd (k0_type E A (txA κ (l ++ [32])) (show (l ++ [32]).length ≤ 80 from by (try simp only [List.length_append, List.length_cons, List.length_nil]); omega) (((48 + (v / 100)).toUInt32 % 65536).toInt32) (char_id _) (r := nI ((l ++ [32]).length + 1)) (κ' := txA κ (l ++ [32] ++ [((48 + (v / 100)).toUInt32 % 65536).toInt32])) (ty_e (by (try simp only [List.length_append, List.length_cons, List.length_nil]); omega))) cf_X3_type gL_number_X3_type rfl (fitD (Nat.le_of_ble_eq_true rfl) (Nat.le_of_ble_eq_true rfl)) rfl rfl (Nat.le_of_ble_eq_true rfl) dL_number_58 (fun q1 w1 hp => ?_)
        obtain ⟨rfl, rfl⟩ := hp
        refine g_if_le_f C dL_number_61 107 (by decide) (ty_p (by (try simp only [List.length_append, List.length_cons, List.length_nil]); omega)) ?_
        refine g_iload_n C dL_number_64 rfl rfl ?_
        refine g_bipush C (v := 10) dL_number_65 rfl ?_
        refine g_icmp_lt_f C dL_number_67 88 (by decide) h10 ?_
        refine g_aload_n C dL_number_70 rfl rfl ?_
        refine g_bipush C (v := 48) dL_number_71 rfl ?_
        refine g_iload_n C dL_number_73 rfl rfl ?_
        refine g_bipush C (v := 10) dL_number_74 rfl ?_
        refine g_idiv C dL_number_76 (by decide) ?_
        refine g_bipush C (v := 10) dL_number_77 rfl ?_
        refine g_irem C dL_number_79 (by decide) ?_
        refine g_iadd C dL_number_80 ?_
        refine g_i2c C dL_number_81 ?_
        refine g_callK C kA_hd (k0_type E A (txA κ (l ++ [32] ++ [((48 + (v / 100)).toUInt32 % 65536).toInt32])) (show (l ++ [32] ++ [((48 + (v / 100)).toUInt32 % 65536).toInt32]).length ≤ 80 from by (try simp only [List.length_append, List.length_cons, List.length_nil]); omega) (((48 + ((v / 10) - (v / 10) / 10 * 10)).toUInt32 % 65536).toInt32) (char_id _) (r := nI ((l ++ [32] ++ [((48 + (v / 100)).toUInt32 % 65536).toInt32]).length + 1)) (κ' := txA κ (l ++ [32] ++ [((48 + (v / 100)).toUInt32 % 65536).toInt32] ++ [((48 + ((v / 10) - (v / 10) / 10 * 10)).toUInt32 % 65536).toInt32])) (ty_e (by (try simp only [List.length_append, List.length_cons, List.length_nil]); omega))) cf_X3_type gL_number_X3_type rfl (fitD (Nat.le_of_ble_eq_true rfl) (Nat.le_of_ble_eq_true rfl)) rfl rfl (Nat.le_of_ble_eq_true rfl) dL_number_82 (fun q1 w1 hp => ?_)
        obtain ⟨rfl, rfl⟩ := hp
        refine g_if_le_f C dL_number_85 107 (by decide) (ty_p (by (try simp only [List.length_append, List.length_cons, List.length_nil]); omega)) ?_
        refine g_aload_n C dL_number_88 rfl rfl ?_
        refine g_bipush C (v := 48) dL_number_89 rfl ?_
        refine g_iload_n C dL_number_91 rfl rfl ?_
        refine g_bipush C (v := 10) dL_number_92 rfl ?_
        refine g_irem C dL_number_94 (by decide) ?_
        refine g_iadd C dL_number_95 ?_
        refine g_i2c C dL_number_96 ?_
        refine g_callK C kA_hd (k0_type E A (txA κ (l ++ [32] ++ [((48 + (v / 100)).toUInt32 % 65536).toInt32] ++ [((48 + ((v / 10) - (v / 10) / 10 * 10)).toUInt32 % 65536).toInt32])) (show (l ++ [32] ++ [((48 + (v / 100)).toUInt32 % 65536).toInt32] ++ [((48 + ((v / 10) - (v / 10) / 10 * 10)).toUInt32 % 65536).toInt32]).length ≤ 80 from by (try simp only [List.length_append, List.length_cons, List.length_nil]); omega) (((48 + (v - v / 10 * 10)).toUInt32 % 65536).toInt32) (char_id _) (r := nI ((l ++ [32] ++ [((48 + (v / 100)).toUInt32 % 65536).toInt32] ++ [((48 + ((v / 10) - (v / 10) / 10 * 10)).toUInt32 % 65536).toInt32]).length + 1)) (κ' := txA κ (l ++ [32] ++ [((48 + (v / 100)).toUInt32 % 65536).toInt32] ++ [((48 + ((v / 10) - (v / 10) / 10 * 10)).toUInt32 % 65536).toInt32] ++ [((48 + (v - v / 10 * 10)).toUInt32 % 65536).toInt32])) (ty_e (by (try simp only [List.length_append, List.length_cons, List.length_nil]); omega))) cf_X3_type gL_number_X3_type rfl (fitD (Nat.le_of_ble_eq_true rfl) (Nat.le_of_ble_eq_true rfl)) rfl rfl (Nat.le_of_ble_eq_true rfl) dL_number_97 (fun q1 w1 hp => ?_)
        obtain ⟨rfl, rfl⟩ := hp
        refine g_if_le_f C dL_number_100 107 (by decide) (ty_p (by (try simp only [List.length_append, List.length_cons, List.length_nil]); omega)) ?_
        refine g_iconst C (v := 1) dL_number_103 rfl ?_
        refine g_goto C (tgt := 108) dL_number_104 (by decide) ?_
        refine g_zret C R0 rfl dL_number_108 ?_
        have ea : absV v = v := if_neg hs
        refine ⟨rfl, ?_⟩
        rw [nuL, if_neg hs, ea, if_neg h100, if_neg h10]
        simp only [List.append_assoc, List.nil_append, List.cons_append]
        rfl
