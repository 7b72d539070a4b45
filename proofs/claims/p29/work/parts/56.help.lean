theorem cf_L_up : CF yL_up cL_up 2 (some .int) wsL_up 2 := ⟨⟨_, rfl⟩, by decide +kernel, by decide +kernel, by decide +kernel⟩
theorem cf_L_there : CF yL_there cL_there 1 (some .int) wsL_there 1 := ⟨⟨_, rfl⟩, by decide +kernel, by decide +kernel, by decide +kernel⟩
theorem cf_L_cell : CF yL_cell cL_cell 2 (some .int) wsL_cell 2 := ⟨⟨_, rfl⟩, by decide +kernel, by decide +kernel, by decide +kernel⟩
theorem cf_L_number : CF yL_number cL_number 4 (some .boolean) wsL_number 2 := ⟨⟨_, rfl⟩, by decide +kernel, by decide +kernel, by decide +kernel⟩
theorem cf_L_types : CF yL_types cL_types 6 (some .boolean) wsL_types 2 := ⟨⟨_, rfl⟩, by decide +kernel, by decide +kernel, by decide +kernel⟩
theorem cf_L_isStep : CF yL_isStep cL_isStep 13 (some .boolean) wsL_isStep 4 := ⟨⟨_, rfl⟩, by decide +kernel, by decide +kernel, by decide +kernel⟩
theorem cf_L_areAlike : CF yL_areAlike cL_areAlike 9 (some .boolean) wsL_areAlike 3 := ⟨⟨_, rfl⟩, by decide +kernel, by decide +kernel, by decide +kernel⟩
theorem cf_L_isWell : CF yL_isWell cL_isWell 12 (some .boolean) wsL_isWell 1 := ⟨⟨_, rfl⟩, by decide +kernel, by decide +kernel, by decide +kernel⟩
def upV (v n : Int32) : Int32 := (v &&& 2147483647) - (v &&& 2147483647) / n * n
def thr (v : Int32) : Int32 := if v < 0 then v else v + 1 - (v + 1) / 4 * 4
def celV (L : Nat) (xs : Nat → Int32) (k : Int32) : Int32 := if nI L ≤ k then 2142622665 * (k + 1283) else xs k.toNatClampNeg
/-! texts that are typed -/
def apS (sg : F) (n : Nat) : List Int32 → F
  | [] => sg
  | c :: l => apS (upd sg n c) (n + 1) l
def kSG (κ : KSt) (sg : F) (n : Nat) : KSt := (kjS κ, kjB κ, kjT κ, kjN κ, kjH κ, kjx κ, kjz κ, kjh κ, kj1 κ, kj2 κ, sg, n, kjZ κ)
def txA (κ : KSt) (l : List Int32) : KSt := kSG κ (apS (kjg κ) 0 l) l.length
theorem apS_app (l2 : List Int32) : ∀ (l : List Int32) (sg : F) (n : Nat), apS sg n (l ++ l2) = apS (apS sg n l) (n + l.length) l2
  | [], _, _ => rfl
  | c :: l, sg, n => by
    show apS (upd sg n c) (n + 1) (l ++ l2) = apS (apS (upd sg n c) (n + 1) l) (n + (l.length + 1)) l2
    rw [apS_app l2 l, show n + 1 + l.length = n + (l.length + 1) from by omega]
theorem ty_e {κ : KSt} {l : List Int32} {c : Int32} (h : l.length < 80) : kType (txA κ l) c = (nI (l.length + 1), txA κ (l ++ [c])) := by
  unfold kType
  rw [if_pos (show kjn (txA κ l) < 80 from h)]
  unfold txA
  rw [apS_app, List.length_append, Nat.zero_add]
  rfl
theorem ty_p {l : List Int32} (h : l.length < 80) : ¬ nI (l.length + 1) ≤ 0 := by
  rw [Int32.le_iff_toInt_le, nI_toInt (by omega), show (0 : Int32).toInt = 0 from by decide]
  omega
theorem cl_e {κ : KSt} : kClr κ = (nI (kjn κ), txA κ []) := rfl
theorem cl_p {n : Nat} (h : n ≤ 80) : ¬ nI n < 0 := by
  rw [Int32.lt_iff_toInt_lt, nI_toInt (by omega), show (0 : Int32).toInt = 0 from by decide]
  omega
def chW (c : Int32) : Int32 := (c.toUInt32 % 65536).toInt32
def absV (v : Int32) : Int32 := if v < 0 then -v else v
def nuL (v : Int32) : List Int32 := [32] ++ ((if v < 0 then [45] else []) ++ ((if absV v < 100 then [] else [chW (48 + absV v / 100)]) ++ ((if absV v < 10 then [] else [chW (48 + (absV v / 10 - absV v / 10 / 10 * 10))]) ++ [chW (48 + (absV v - absV v / 10 * 10))])))
set_option maxHeartbeats 4000000 in
set_option maxRecDepth 100000 in
theorem c_L_up (E : Ev) (W : va_W) (v n : Int32) (hn : ¬ n = 0) : MI E yL_up wsL_up (rmD 0) W [.int v, .int n] (pE (upV v n) W) := by
  have k8 : Cond.constant RL 8 (2147483647) ∈ wsL_up := by decide +kernel
  refine MI.of (cc := cL_up) (nL := 2) (ty := .int) (own := RL) [some (.int v), some (.int n)] (by decide +kernel) rfl rfl (Nat.le_of_ble_eq_true rfl) rfl rfl ?_
  intro x C R0
  refine g_iload_n C dL_up_0 rfl rfl ?_
  refine g_ldc C k8 dL_up_1 ?_
  refine g_iand C dL_up_3 ?_
  refine g_iload_n C dL_up_4 rfl rfl ?_
  refine g_irem C dL_up_5 hn ?_
  refine g_iret C R0 dL_up_6 ?_
  exact ⟨rfl, rfl⟩
set_option maxHeartbeats 4000000 in
set_option maxRecDepth 100000 in
theorem c_L_there (E : Ev) (W : va_W) (v : Int32) : MI E yL_there wsL_there (rmD 0) W [.int v] (pE (thr v) W) := by
  refine MI.of (cc := cL_there) (nL := 1) (ty := .int) (own := RL) [some (.int v)] (by decide +kernel) rfl rfl (Nat.le_of_ble_eq_true rfl) rfl rfl ?_
  intro x C R0
  refine g_iload_n C dL_there_0 rfl rfl ?_
  refine g_if_ge C (tgt := 8) dL_there_1 (by decide) (fun hc_1 => ?_) (fun hc_1 => ?_)
  · refine g_iload_n C dL_there_8 rfl rfl ?_
    refine g_iconst C (v := 1) dL_there_9 rfl ?_
    refine g_iadd C dL_there_10 ?_
    refine g_iconst C (v := 4) dL_there_11 rfl ?_
    refine g_irem C dL_there_12 (by decide) ?_
    refine g_iret C R0 dL_there_13 ?_
    exact ⟨by rw [thr, if_neg (i32_le.mpr hc_1)]; rfl, rfl⟩
  · refine g_iload_n C dL_there_4 rfl rfl ?_
    refine g_goto C (tgt := 13) dL_there_5 (by decide) ?_
    refine g_iret C R0 dL_there_13 ?_
    exact ⟨by rw [thr, if_pos (i32_lt.mp hc_1)], rfl⟩
theorem lt10_100 {v : Int32} (h : v < 10) : v < 100 := by
  rw [Int32.lt_iff_toInt_lt] at h ⊢
  rw [show (10 : Int32).toInt = 10 from by decide] at h
  rw [show (100 : Int32).toInt = 100 from by decide]
  omega
set_option maxHeartbeats 4000000 in
set_option maxRecDepth 100000 in
theorem c_L_number (E : Ev) (A : Ad) (κ : KSt) (l : List Int32) (hl : l.length ≤ 75) (v : Int32) : MI E yL_number wsL_number (rmD 2) (kA E A (txA κ (l))) [.ref A.1, .int v] (pA E A 1 (txA κ (l ++ nuL v))) := by
  refine MI.of (cc := cL_number) (nL := 4) (ty := .boolean) (own := RL) [some (.ref A.1), some (.int v), none, none] (by decide +kernel) rfl rfl (Nat.le_of_ble_eq_true rfl) rfl rfl ?_
  intro x C R0
  by_cases hs : v < 0
  · by_cases h10 : -v < 10
    · have h100 : -v < 100 := lt10_100 h10
      refine g_aload_n C dL_number_0 rfl rfl ?_
      refine g_bipush C (v := 32) dL_number_1 rfl ?_
      refine g_callK C kA_hd (k0_type E A (txA κ (l)) (show (l).length ≤ 80 from by simp only [List.length_append, List.length_cons, List.length_nil]; omega) 32 (by decide) (r := nI ((l).length + 1)) (κ' := txA κ (l ++ [32])) (ty_e (by simp only [List.length_append, List.length_cons, List.length_nil]; omega))) cf_X3_type gL_number_X3_type rfl (fitD (Nat.le_of_ble_eq_true rfl) (Nat.le_of_ble_eq_true rfl)) rfl rfl (Nat.le_of_ble_eq_true rfl) dL_number_3 (fun q1 w1 hp => ?_)
      obtain ⟨rfl, rfl⟩ := hp
      refine g_if_le_f C dL_number_6 26 (by decide) (ty_p (by simp only [List.length_append, List.length_cons, List.length_nil]; omega)) ?_
      refine g_iload_n C dL_number_9 rfl rfl ?_
      refine g_if_ge_f C dL_number_10 22 (by decide) (i32_lt.mpr hs) ?_
      refine g_aload_n C dL_number_13 rfl rfl ?_
      refine g_bipush C (v := 45) dL_number_14 rfl ?_
      refine g_callK C kA_hd (k0_type E A (txA κ (l ++ [32])) (show (l ++ [32]).length ≤ 80 from by simp only [List.length_append, List.length_cons, List.length_nil]; omega) 45 (by decide) (r := nI ((l ++ [32]).length + 1)) (κ' := txA κ (l ++ [32] ++ [45])) (ty_e (by simp only [List.length_append, List.length_cons, List.length_nil]; omega))) cf_X3_type gL_number_X3_type rfl (fitD (Nat.le_of_ble_eq_true rfl) (Nat.le_of_ble_eq_true rfl)) rfl rfl (Nat.le_of_ble_eq_true rfl) dL_number_16 (fun q1 w1 hp => ?_)
      obtain ⟨rfl, rfl⟩ := hp
      refine g_if_le_f C dL_number_19 26 (by decide) (ty_p (by simp only [List.length_append, List.length_cons, List.length_nil]; omega)) ?_
      refine g_iconst C (v := 1) dL_number_22 rfl ?_
      refine g_goto C (tgt := 27) dL_number_23 (by decide) ?_
      refine g_istore_n C dL_number_27 rfl (Nat.le_of_ble_eq_true rfl) rfl ?_
      refine g_iload_n C dL_number_28 rfl rfl ?_
      refine g_if_ge_f C dL_number_29 37 (by decide) (i32_lt.mpr hs) ?_
      refine g_iload_n C dL_number_32 rfl rfl ?_
      refine g_ineg C dL_number_33 ?_
      refine g_goto C (tgt := 38) dL_number_34 (by decide) ?_
      refine g_istore_n C dL_number_38 rfl (Nat.le_of_ble_eq_true rfl) rfl ?_
      refine g_iload_n C dL_number_39 rfl rfl ?_
      refine g_if_eq_f C dL_number_40 107 (by decide) (by decide) ?_
      refine g_iload_n C dL_number_43 rfl rfl ?_
      refine g_bipush C (v := 100) dL_number_44 rfl ?_
      refine g_icmp_lt_t C dL_number_46 (tgt := 64) (by decide) h100 ?_
      refine g_iload_n C dL_number_64 rfl rfl ?_
      refine g_bipush C (v := 10) dL_number_65 rfl ?_
      refine g_icmp_lt_t C dL_number_67 (tgt := 88) (by decide) h10 ?_
      refine g_aload_n C dL_number_88 rfl rfl ?_
      refine g_bipush C (v := 48) dL_number_89 rfl ?_
      refine g_iload_n C dL_number_91 rfl rfl ?_
      refine g_bipush C (v := 10) dL_number_92 rfl ?_
      refine g_irem C dL_number_94 (by decide) ?_
      refine g_iadd C dL_number_95 ?_
      refine g_i2c C dL_number_96 ?_
      refine g_callK C kA_hd (k0_type E A (txA κ (l ++ [32] ++ [45])) (show (l ++ [32] ++ [45]).length ≤ 80 from by simp only [List.length_append, List.length_cons, List.length_nil]; omega) (((48 + ((-v) - (-v) / 10 * 10)).toUInt32 % 65536).toInt32) (char_id _) (r := nI ((l ++ [32] ++ [45]).length + 1)) (κ' := txA κ (l ++ [32] ++ [45] ++ [((48 + ((-v) - (-v) / 10 * 10)).toUInt32 % 65536).toInt32])) (ty_e (by simp only [List.length_append, List.length_cons, List.length_nil]; omega))) cf_X3_type gL_number_X3_type rfl (fitD (Nat.le_of_ble_eq_true rfl) (Nat.le_of_ble_eq_true rfl)) rfl rfl (Nat.le_of_ble_eq_true rfl) dL_number_97 (fun q1 w1 hp => ?_)
      obtain ⟨rfl, rfl⟩ := hp
      refine g_if_le_f C dL_number_100 107 (by decide) (ty_p (by simp only [List.length_append, List.length_cons, List.length_nil]; omega)) ?_
      refine g_iconst C (v := 1) dL_number_103 rfl ?_
      refine g_goto C (tgt := 108) dL_number_104 (by decide) ?_
      refine g_zret C R0 rfl dL_number_108 ?_
      have ea : absV v = -v := if_pos hs
      refine ⟨rfl, ?_⟩
      rw [nuL, if_pos hs, ea, if_pos h100, if_pos h10]
      simp only [List.append_assoc, List.nil_append, List.cons_append]
      rfl
    · by_cases h100 : -v < 100
      · refine g_aload_n C dL_number_0 rfl rfl ?_
        refine g_bipush C (v := 32) dL_number_1 rfl ?_
        refine g_callK C kA_hd (k0_type E A (txA κ (l)) (show (l).length ≤ 80 from by simp only [List.length_append, List.length_cons, List.length_nil]; omega) 32 (by decide) (r := nI ((l).length + 1)) (κ' := txA κ (l ++ [32])) (ty_e (by simp only [List.length_append, List.length_cons, List.length_nil]; omega))) cf_X3_type gL_number_X3_type rfl (fitD (Nat.le_of_ble_eq_true rfl) (Nat.le_of_ble_eq_true rfl)) rfl rfl (Nat.le_of_ble_eq_true rfl) dL_number_3 (fun q1 w1 hp => ?_)
        obtain ⟨rfl, rfl⟩ := hp
        refine g_if_le_f C dL_number_6 26 (by decide) (ty_p (by simp only [List.length_append, List.length_cons, List.length_nil]; omega)) ?_
        refine g_iload_n C dL_number_9 rfl rfl ?_
        refine g_if_ge_f C dL_number_10 22 (by decide) (i32_lt.mpr hs) ?_
        refine g_aload_n C dL_number_13 rfl rfl ?_
        refine g_bipush C (v := 45) dL_number_14 rfl ?_
        refine g_callK C kA_hd (k0_type E A (txA κ (l ++ [32])) (show (l ++ [32]).length ≤ 80 from by simp only [List.length_append, List.length_cons, List.length_nil]; omega) 45 (by decide) (r := nI ((l ++ [32]).length + 1)) (κ' := txA κ (l ++ [32] ++ [45])) (ty_e (by simp only [List.length_append, List.length_cons, List.length_nil]; omega))) cf_X3_type gL_number_X3_type rfl (fitD (Nat.le_of_ble_eq_true rfl) (Nat.le_of_ble_eq_true rfl)) rfl rfl (Nat.le_of_ble_eq_true rfl) dL_number_16 (fun q1 w1 hp => ?_)
        obtain ⟨rfl, rfl⟩ := hp
        refine g_if_le_f C dL_number_19 26 (by decide) (ty_p (by simp only [List.length_append, List.length_cons, List.length_nil]; omega)) ?_
        refine g_iconst C (v := 1) dL_number_22 rfl ?_
        refine g_goto C (tgt := 27) dL_number_23 (by decide) ?_
        refine g_istore_n C dL_number_27 rfl (Nat.le_of_ble_eq_true rfl) rfl ?_
        refine g_iload_n C dL_number_28 rfl rfl ?_
        refine g_if_ge_f C dL_number_29 37 (by decide) (i32_lt.mpr hs) ?_
        refine g_iload_n C dL_number_32 rfl rfl ?_
        refine g_ineg C dL_number_33 ?_
        refine g_goto C (tgt := 38) dL_number_34 (by decide) ?_
        refine g_istore_n C dL_number_38 rfl (Nat.le_of_ble_eq_true rfl) rfl ?_
        refine g_iload_n C dL_number_39 rfl rfl ?_
        refine g_if_eq_f C dL_number_40 107 (by decide) (by decide) ?_
        refine g_iload_n C dL_number_43 rfl rfl ?_
        refine g_bipush C (v := 100) dL_number_44 rfl ?_
        refine g_icmp_lt_t C dL_number_46 (tgt := 64) (by decide) h100 ?_
        refine g_iload_n C dL_number_64 rfl rfl ?_
        refine g_bipush C (v := 10) dL_number_65 rfl ?_
        refine g_icmp_lt_f C dL_number_67 88 (by decide) h10 ?_
        refine g_aload_n C dL_number_70 rfl rfl ?_
        refine g_bipush C (v := 48) dL_number_71 rfl ?_
        refine g_iload_n C dL_number_73 rfl rfl ?_
        refine g_bipush C (v := 10) dL_number_74 rfl ?_
        refine g_idiv C dL_number_76 (by decide) ?_
        refine g_bipush C (v := 10) dL_number_77 rfl ?_
        refine g_irem C dL_number_79 (by decide) ?_
        refine g_iadd C dL_number_80 ?_
        refine g_i2c C dL_number_81 ?_
        refine g_callK C kA_hd (k0_type E A (txA κ (l ++ [32] ++ [45])) (show (l ++ [32] ++ [45]).length ≤ 80 from by simp only [List.length_append, List.length_cons, List.length_nil]; omega) (((48 + (((-v) / 10) - ((-v) / 10) / 10 * 10)).toUInt32 % 65536).toInt32) (char_id _) (r := nI ((l ++ [32] ++ [45]).length + 1)) (κ' := txA κ (l ++ [32] ++ [45] ++ [((48 + (((-v) / 10) - ((-v) / 10) / 10 * 10)).toUInt32 % 65536).toInt32])) (ty_e (by simp only [List.length_append, List.length_cons, List.length_nil]; omega))) cf_X3_type gL_number_X3_type rfl (fitD (Nat.le_of_ble_eq_true rfl) (Nat.le_of_ble_eq_true rfl)) rfl rfl (Nat.le_of_ble_eq_true rfl) dL_number_82 (fun q1 w1 hp => ?_)
        obtain ⟨rfl, rfl⟩ := hp
        refine g_if_le_f C dL_number_85 107 (by decide) (ty_p (by simp only [List.length_append, List.length_cons, List.length_nil]; omega)) ?_
        refine g_aload_n C dL_number_88 rfl rfl ?_
        refine g_bipush C (v := 48) dL_number_89 rfl ?_
        refine g_iload_n C dL_number_91 rfl rfl ?_
        refine g_bipush C (v := 10) dL_number_92 rfl ?_
        refine g_irem C dL_number_94 (by decide) ?_
        refine g_iadd C dL_number_95 ?_
        refine g_i2c C dL_number_96 ?_
        refine g_callK C kA_hd (k0_type E A (txA κ (l ++ [32] ++ [45] ++ [((48 + (((-v) / 10) - ((-v) / 10) / 10 * 10)).toUInt32 % 65536).toInt32])) (show (l ++ [32] ++ [45] ++ [((48 + (((-v) / 10) - ((-v) / 10) / 10 * 10)).toUInt32 % 65536).toInt32]).length ≤ 80 from by simp only [List.length_append, List.length_cons, List.length_nil]; omega) (((48 + ((-v) - (-v) / 10 * 10)).toUInt32 % 65536).toInt32) (char_id _) (r := nI ((l ++ [32] ++ [45] ++ [((48 + (((-v) / 10) - ((-v) / 10) / 10 * 10)).toUInt32 % 65536).toInt32]).length + 1)) (κ' := txA κ (l ++ [32] ++ [45] ++ [((48 + (((-v) / 10) - ((-v) / 10) / 10 * 10)).toUInt32 % 65536).toInt32] ++ [((48 + ((-v) - (-v) / 10 * 10)).toUInt32 % 65536).toInt32])) (ty_e (by simp only [List.length_append, List.length_cons, List.length_nil]; omega))) cf_X3_type gL_number_X3_type rfl (fitD (Nat.le_of_ble_eq_true rfl) (Nat.le_of_ble_eq_true rfl)) rfl rfl (Nat.le_of_ble_eq_true rfl) dL_number_97 (fun q1 w1 hp => ?_)
        obtain ⟨rfl, rfl⟩ := hp
        refine g_if_le_f C dL_number_100 107 (by decide) (ty_p (by simp only [List.length_append, List.length_cons, List.length_nil]; omega)) ?_
        refine g_iconst C (v := 1) dL_number_103 rfl ?_
        refine g_goto C (tgt := 108) dL_number_104 (by decide) ?_
        refine g_zret C R0 rfl dL_number_108 ?_
        have ea : absV v = -v := if_pos hs
        refine ⟨rfl, ?_⟩
        rw [nuL, if_pos hs, ea, if_pos h100, if_neg h10]
        simp only [List.append_assoc, List.nil_append, List.cons_append]
        rfl
      · refine g_aload_n C dL_number_0 rfl rfl ?_
        refine g_bipush C (v := 32) dL_number_1 rfl ?_
        refine g_callK C kA_hd (k0_type E A (txA κ (l)) (show (l).length ≤ 80 from by simp only [List.length_append, List.length_cons, List.length_nil]; omega) 32 (by decide) (r := nI ((l).length + 1)) (κ' := txA κ (l ++ [32])) (ty_e (by simp only [List.length_append, List.length_cons, List.length_nil]; omega))) cf_X3_type gL_number_X3_type rfl (fitD (Nat.le_of_ble_eq_true rfl) (Nat.le_of_ble_eq_true rfl)) rfl rfl (Nat.le_of_ble_eq_true rfl) dL_number_3 (fun q1 w1 hp => ?_)
        obtain ⟨rfl, rfl⟩ := hp
        refine g_if_le_f C dL_number_6 26 (by decide) (ty_p (by simp only [List.length_append, List.length_cons, List.length_nil]; omega)) ?_
        refine g_iload_n C dL_number_9 rfl rfl ?_
        refine g_if_ge_f C dL_number_10 22 (by decide) (i32_lt.mpr hs) ?_
        refine g_aload_n C dL_number_13 rfl rfl ?_
        refine g_bipush C (v := 45) dL_number_14 rfl ?_
        refine g_callK C kA_hd (k0_type E A (txA κ (l ++ [32])) (show (l ++ [32]).length ≤ 80 from by simp only [List.length_append, List.length_cons, List.length_nil]; omega) 45 (by decide) (r := nI ((l ++ [32]).length + 1)) (κ' := txA κ (l ++ [32] ++ [45])) (ty_e (by simp only [List.length_append, List.length_cons, List.length_nil]; omega))) cf_X3_type gL_number_X3_type rfl (fitD (Nat.le_of_ble_eq_true rfl) (Nat.le_of_ble_eq_true rfl)) rfl rfl (Nat.le_of_ble_eq_true rfl) dL_number_16 (fun q1 w1 hp => ?_)
        obtain ⟨rfl, rfl⟩ := hp
        refine g_if_le_f C dL_number_19 26 (by decide) (ty_p (by simp only [List.length_append, List.length_cons, List.length_nil]; omega)) ?_
        refine g_iconst C (v := 1) dL_number_22 rfl ?_
        refine g_goto C (tgt := 27) dL_number_23 (by decide) ?_
        refine g_istore_n C dL_number_27 rfl (Nat.le_of_ble_eq_true rfl) rfl ?_
        refine g_iload_n C dL_number_28 rfl rfl ?_
        refine g_if_ge_f C dL_number_29 37 (by decide) (i32_lt.mpr hs) ?_
        refine g_iload_n C dL_number_32 rfl rfl ?_
        refine g_ineg C dL_number_33 ?_
        refine g_goto C (tgt := 38) dL_number_34 (by decide) ?_
        refine g_istore_n C dL_number_38 rfl (Nat.le_of_ble_eq_true rfl) rfl ?_
        refine g_iload_n C dL_number_39 rfl rfl ?_
        refine g_if_eq_f C dL_number_40 107 (by decide) (by decide) ?_
        refine g_iload_n C dL_number_43 rfl rfl ?_
        refine g_bipush C (v := 100) dL_number_44 rfl ?_
        refine g_icmp_lt_f C dL_number_46 64 (by decide) h100 ?_
        refine g_aload_n C dL_number_49 rfl rfl ?_
        refine g_bipush C (v := 48) dL_number_50 rfl ?_
        refine g_iload_n C dL_number_52 rfl rfl ?_
        refine g_bipush C (v := 100) dL_number_53 rfl ?_
        refine g_idiv C dL_number_55 (by decide) ?_
        refine g_iadd C dL_number_56 ?_
        refine g_i2c C dL_number_57 ?_
        refine g_callK C kA_hd (k0_type E A (txA κ (l ++ [32] ++ [45])) (show (l ++ [32] ++ [45]).length ≤ 80 from by simp only [List.length_append, List.length_cons, List.length_nil]; omega) (((48 + ((-v) / 100)).toUInt32 % 65536).toInt32) (char_id _) (r := nI ((l ++ [32] ++ [45]).length + 1)) (κ' := txA κ (l ++ [32] ++ [45] ++ [((48 + ((-v) / 100)).toUInt32 % 65536).toInt32])) (ty_e (by simp only [List.length_append, List.length_cons, List.length_nil]; omega))) cf_X3_type gL_number_X3_type rfl (fitD (Nat.le_of_ble_eq_true rfl) (Nat.le_of_ble_eq_true rfl)) rfl rfl (Nat.le_of_ble_eq_true rfl) dL_number_58 (fun q1 w1 hp => ?_)
        obtain ⟨rfl, rfl⟩ := hp
        refine g_if_le_f C dL_number_61 107 (by decide) (ty_p (by simp only [List.length_append, List.length_cons, List.length_nil]; omega)) ?_
        refine g_iload_n C dL_number_64 rfl rfl ?_
        refine g_bipush C (v := 10) dL_number_65 rfl ?_
        refine g_icmp_lt_f C dL_number_67 88 (by decide) h10 ?_
        refine g_aload_n C dL_number_70 rfl rfl ?_
        refine g_bipush C (v := 48) dL_number_71 rfl ?_
        refine g_iload_n C dL_number_73 rfl rfl ?_
        refine g_bipush C (v := 10) dL_number_74 rfl ?_
        refine g_idiv C dL_number_76 (by decide) ?_
        refine g_bipush C (v := 10) dL_number_77 rfl ?_
        refine g_irem C dL_number_79 (by decide) ?_
        refine g_iadd C dL_number_80 ?_
        refine g_i2c C dL_number_81 ?_
        refine g_callK C kA_hd (k0_type E A (txA κ (l ++ [32] ++ [45] ++ [((48 + ((-v) / 100)).toUInt32 % 65536).toInt32])) (show (l ++ [32] ++ [45] ++ [((48 + ((-v) / 100)).toUInt32 % 65536).toInt32]).length ≤ 80 from by simp only [List.length_append, List.length_cons, List.length_nil]; omega) (((48 + (((-v) / 10) - ((-v) / 10) / 10 * 10)).toUInt32 % 65536).toInt32) (char_id _) (r := nI ((l ++ [32] ++ [45] ++ [((48 + ((-v) / 100)).toUInt32 % 65536).toInt32]).length + 1)) (κ' := txA κ (l ++ [32] ++ [45] ++ [((48 + ((-v) / 100)).toUInt32 % 65536).toInt32] ++ [((48 + (((-v) / 10) - ((-v) / 10) / 10 * 10)).toUInt32 % 65536).toInt32])) (ty_e (by simp only [List.length_append, List.length_cons, List.length_nil]; omega))) cf_X3_type gL_number_X3_type rfl (fitD (Nat.le_of_ble_eq_true rfl) (Nat.le_of_ble_eq_true rfl)) rfl rfl (Nat.le_of_ble_eq_true rfl) dL_number_82 (fun q1 w1 hp => ?_)
        obtain ⟨rfl, rfl⟩ := hp
        refine g_if_le_f C dL_number_85 107 (by decide) (ty_p (by simp only [List.length_append, List.length_cons, List.length_nil]; omega)) ?_
        refine g_aload_n C dL_number_88 rfl rfl ?_
        refine g_bipush C (v := 48) dL_number_89 rfl ?_
        refine g_iload_n C dL_number_91 rfl rfl ?_
        refine g_bipush C (v := 10) dL_number_92 rfl ?_
        refine g_irem C dL_number_94 (by decide) ?_
        refine g_iadd C dL_number_95 ?_
        refine g_i2c C dL_number_96 ?_
        refine g_callK C kA_hd (k0_type E A (txA κ (l ++ [32] ++ [45] ++ [((48 + ((-v) / 100)).toUInt32 % 65536).toInt32] ++ [((48 + (((-v) / 10) - ((-v) / 10) / 10 * 10)).toUInt32 % 65536).toInt32])) (show (l ++ [32] ++ [45] ++ [((48 + ((-v) / 100)).toUInt32 % 65536).toInt32] ++ [((48 + (((-v) / 10) - ((-v) / 10) / 10 * 10)).toUInt32 % 65536).toInt32]).length ≤ 80 from by simp only [List.length_append, List.length_cons, List.length_nil]; omega) (((48 + ((-v) - (-v) / 10 * 10)).toUInt32 % 65536).toInt32) (char_id _) (r := nI ((l ++ [32] ++ [45] ++ [((48 + ((-v) / 100)).toUInt32 % 65536).toInt32] ++ [((48 + (((-v) / 10) - ((-v) / 10) / 10 * 10)).toUInt32 % 65536).toInt32]).length + 1)) (κ' := txA κ (l ++ [32] ++ [45] ++ [((48 + ((-v) / 100)).toUInt32 % 65536).toInt32] ++ [((48 + (((-v) / 10) - ((-v) / 10) / 10 * 10)).toUInt32 % 65536).toInt32] ++ [((48 + ((-v) - (-v) / 10 * 10)).toUInt32 % 65536).toInt32])) (ty_e (by simp only [List.length_append, List.length_cons, List.length_nil]; omega))) cf_X3_type gL_number_X3_type rfl (fitD (Nat.le_of_ble_eq_true rfl) (Nat.le_of_ble_eq_true rfl)) rfl rfl (Nat.le_of_ble_eq_true rfl) dL_number_97 (fun q1 w1 hp => ?_)
        obtain ⟨rfl, rfl⟩ := hp
        refine g_if_le_f C dL_number_100 107 (by decide) (ty_p (by simp only [List.length_append, List.length_cons, List.length_nil]; omega)) ?_
        refine g_iconst C (v := 1) dL_number_103 rfl ?_
        refine g_goto C (tgt := 108) dL_number_104 (by decide) ?_
        refine g_zret C R0 rfl dL_number_108 ?_
        have ea : absV v = -v := if_pos hs
        refine ⟨rfl, ?_⟩
        rw [nuL, if_pos hs, ea, if_neg h100, if_neg h10]
        simp only [List.append_assoc, List.nil_append, List.cons_append]
        rfl
  · by_cases h10 : v < 10
    · have h100 : v < 100 := lt10_100 h10
      refine g_aload_n C dL_number_0 rfl rfl ?_
      refine g_bipush C (v := 32) dL_number_1 rfl ?_
      refine g_callK C kA_hd (k0_type E A (txA κ (l)) (show (l).length ≤ 80 from by simp only [List.length_append, List.length_cons, List.length_nil]; omega) 32 (by decide) (r := nI ((l).length + 1)) (κ' := txA κ (l ++ [32])) (ty_e (by simp only [List.length_append, List.length_cons, List.length_nil]; omega))) cf_X3_type gL_number_X3_type rfl (fitD (Nat.le_of_ble_eq_true rfl) (Nat.le_of_ble_eq_true rfl)) rfl rfl (Nat.le_of_ble_eq_true rfl) dL_number_3 (fun q1 w1 hp => ?_)
      obtain ⟨rfl, rfl⟩ := hp
      refine g_if_le_f C dL_number_6 26 (by decide) (ty_p (by simp only [List.length_append, List.length_cons, List.length_nil]; omega)) ?_
      refine g_iload_n C dL_number_9 rfl rfl ?_
      refine g_if_ge_t C dL_number_10 (tgt := 22) (by decide) (i32_le.mp hs) ?_
      refine g_iconst C (v := 1) dL_number_22 rfl ?_
      refine g_goto C (tgt := 27) dL_number_23 (by decide) ?_
      refine g_istore_n C dL_number_27 rfl (Nat.le_of_ble_eq_true rfl) rfl ?_
      refine g_iload_n C dL_number_28 rfl rfl ?_
      refine g_if_ge_t C dL_number_29 (tgt := 37) (by decide) (i32_le.mp hs) ?_
      refine g_iload_n C dL_number_37 rfl rfl ?_
      refine g_istore_n C dL_number_38 rfl (Nat.le_of_ble_eq_true rfl) rfl ?_
      refine g_iload_n C dL_number_39 rfl rfl ?_
      refine g_if_eq_f C dL_number_40 107 (by decide) (by decide) ?_
      refine g_iload_n C dL_number_43 rfl rfl ?_
      refine g_bipush C (v := 100) dL_number_44 rfl ?_
      refine g_icmp_lt_t C dL_number_46 (tgt := 64) (by decide) h100 ?_
      refine g_iload_n C dL_number_64 rfl rfl ?_
      refine g_bipush C (v := 10) dL_number_65 rfl ?_
      refine g_icmp_lt_t C dL_number_67 (tgt := 88) (by decide) h10 ?_
      refine g_aload_n C dL_number_88 rfl rfl ?_
      refine g_bipush C (v := 48) dL_number_89 rfl ?_
      refine g_iload_n C dL_number_91 rfl rfl ?_
      refine g_bipush C (v := 10) dL_number_92 rfl ?_
      refine g_irem C dL_number_94 (by decide) ?_
      refine g_iadd C dL_number_95 ?_
      refine g_i2c C dL_number_96 ?_
      refine g_callK C kA_hd (k0_type E A (txA κ (l ++ [32])) (show (l ++ [32]).length ≤ 80 from by simp only [List.length_append, List.length_cons, List.length_nil]; omega) (((48 + (v - v / 10 * 10)).toUInt32 % 65536).toInt32) (char_id _) (r := nI ((l ++ [32]).length + 1)) (κ' := txA κ (l ++ [32] ++ [((48 + (v - v / 10 * 10)).toUInt32 % 65536).toInt32])) (ty_e (by simp only [List.length_append, List.length_cons, List.length_nil]; omega))) cf_X3_type gL_number_X3_type rfl (fitD (Nat.le_of_ble_eq_true rfl) (Nat.le_of_ble_eq_true rfl)) rfl rfl (Nat.le_of_ble_eq_true rfl) dL_number_97 (fun q1 w1 hp => ?_)
      obtain ⟨rfl, rfl⟩ := hp
      refine g_if_le_f C dL_number_100 107 (by decide) (ty_p (by simp only [List.length_append, List.length_cons, List.length_nil]; omega)) ?_
      refine g_iconst C (v := 1) dL_number_103 rfl ?_
      refine g_goto C (tgt := 108) dL_number_104 (by decide) ?_
      refine g_zret C R0 rfl dL_number_108 ?_
      have ea : absV v = v := if_neg hs
      refine ⟨rfl, ?_⟩
      rw [nuL, if_neg hs, ea, if_pos h100, if_pos h10]
      simp only [List.append_assoc, List.nil_append, List.cons_append]
      rfl
    · by_cases h100 : v < 100
      · refine g_aload_n C dL_number_0 rfl rfl ?_
        refine g_bipush C (v := 32) dL_number_1 rfl ?_
        refine g_callK C kA_hd (k0_type E A (txA κ (l)) (show (l).length ≤ 80 from by simp only [List.length_append, List.length_cons, List.length_nil]; omega) 32 (by decide) (r := nI ((l).length + 1)) (κ' := txA κ (l ++ [32])) (ty_e (by simp only [List.length_append, List.length_cons, List.length_nil]; omega))) cf_X3_type gL_number_X3_type rfl (fitD (Nat.le_of_ble_eq_true rfl) (Nat.le_of_ble_eq_true rfl)) rfl rfl (Nat.le_of_ble_eq_true rfl) dL_number_3 (fun q1 w1 hp => ?_)
        obtain ⟨rfl, rfl⟩ := hp
        refine g_if_le_f C dL_number_6 26 (by decide) (ty_p (by simp only [List.length_append, List.length_cons, List.length_nil]; omega)) ?_
        refine g_iload_n C dL_number_9 rfl rfl ?_
        refine g_if_ge_t C dL_number_10 (tgt := 22) (by decide) (i32_le.mp hs) ?_
        refine g_iconst C (v := 1) dL_number_22 rfl ?_
        refine g_goto C (tgt := 27) dL_number_23 (by decide) ?_
        refine g_istore_n C dL_number_27 rfl (Nat.le_of_ble_eq_true rfl) rfl ?_
        refine g_iload_n C dL_number_28 rfl rfl ?_
        refine g_if_ge_t C dL_number_29 (tgt := 37) (by decide) (i32_le.mp hs) ?_
        refine g_iload_n C dL_number_37 rfl rfl ?_
        refine g_istore_n C dL_number_38 rfl (Nat.le_of_ble_eq_true rfl) rfl ?_
        refine g_iload_n C dL_number_39 rfl rfl ?_
        refine g_if_eq_f C dL_number_40 107 (by decide) (by decide) ?_
        refine g_iload_n C dL_number_43 rfl rfl ?_
        refine g_bipush C (v := 100) dL_number_44 rfl ?_
        refine g_icmp_lt_t C dL_number_46 (tgt := 64) (by decide) h100 ?_
        refine g_iload_n C dL_number_64 rfl rfl ?_
        refine g_bipush C (v := 10) dL_number_65 rfl ?_
        refine g_icmp_lt_f C dL_number_67 88 (by decide) h10 ?_
        refine g_aload_n C dL_number_70 rfl rfl ?_
        refine g_bipush C (v := 48) dL_number_71 rfl ?_
        refine g_iload_n C dL_number_73 rfl rfl ?_
        refine g_bipush C (v := 10) dL_number_74 rfl ?_
        refine g_idiv C dL_number_76 (by decide) ?_
        refine g_bipush C (v := 10) dL_number_77 rfl ?_
        refine g_irem C dL_number_79 (by decide) ?_
        refine g_iadd C dL_number_80 ?_
        refine g_i2c C dL_number_81 ?_
        refine g_callK C kA_hd (k0_type E A (txA κ (l ++ [32])) (show (l ++ [32]).length ≤ 80 from by simp only [List.length_append, List.length_cons, List.length_nil]; omega) (((48 + ((v / 10) - (v / 10) / 10 * 10)).toUInt32 % 65536).toInt32) (char_id _) (r := nI ((l ++ [32]).length + 1)) (κ' := txA κ (l ++ [32] ++ [((48 + ((v / 10) - (v / 10) / 10 * 10)).toUInt32 % 65536).toInt32])) (ty_e (by simp only [List.length_append, List.length_cons, List.length_nil]; omega))) cf_X3_type gL_number_X3_type rfl (fitD (Nat.le_of_ble_eq_true rfl) (Nat.le_of_ble_eq_true rfl)) rfl rfl (Nat.le_of_ble_eq_true rfl) dL_number_82 (fun q1 w1 hp => ?_)
        obtain ⟨rfl, rfl⟩ := hp
        refine g_if_le_f C dL_number_85 107 (by decide) (ty_p (by simp only [List.length_append, List.length_cons, List.length_nil]; omega)) ?_
        refine g_aload_n C dL_number_88 rfl rfl ?_
        refine g_bipush C (v := 48) dL_number_89 rfl ?_
        refine g_iload_n C dL_number_91 rfl rfl ?_
        refine g_bipush C (v := 10) dL_number_92 rfl ?_
        refine g_irem C dL_number_94 (by decide) ?_
        refine g_iadd C dL_number_95 ?_
        refine g_i2c C dL_number_96 ?_
        refine g_callK C kA_hd (k0_type E A (txA κ (l ++ [32] ++ [((48 + ((v / 10) - (v / 10) / 10 * 10)).toUInt32 % 65536).toInt32])) (show (l ++ [32] ++ [((48 + ((v / 10) - (v / 10) / 10 * 10)).toUInt32 % 65536).toInt32]).length ≤ 80 from by simp only [List.length_append, List.length_cons, List.length_nil]; omega) (((48 + (v - v / 10 * 10)).toUInt32 % 65536).toInt32) (char_id _) (r := nI ((l ++ [32] ++ [((48 + ((v / 10) - (v / 10) / 10 * 10)).toUInt32 % 65536).toInt32]).length + 1)) (κ' := txA κ (l ++ [32] ++ [((48 + ((v / 10) - (v / 10) / 10 * 10)).toUInt32 % 65536).toInt32] ++ [((48 + (v - v / 10 * 10)).toUInt32 % 65536).toInt32])) (ty_e (by simp only [List.length_append, List.length_cons, List.length_nil]; omega))) cf_X3_type gL_number_X3_type rfl (fitD (Nat.le_of_ble_eq_true rfl) (Nat.le_of_ble_eq_true rfl)) rfl rfl (Nat.le_of_ble_eq_true rfl) dL_number_97 (fun q1 w1 hp => ?_)
        obtain ⟨rfl, rfl⟩ := hp
        refine g_if_le_f C dL_number_100 107 (by decide) (ty_p (by simp only [List.length_append, List.length_cons, List.length_nil]; omega)) ?_
        refine g_iconst C (v := 1) dL_number_103 rfl ?_
        refine g_goto C (tgt := 108) dL_number_104 (by decide) ?_
        refine g_zret C R0 rfl dL_number_108 ?_
        have ea : absV v = v := if_neg hs
        refine ⟨rfl, ?_⟩
        rw [nuL, if_neg hs, ea, if_pos h100, if_neg h10]
        simp only [List.append_assoc, List.nil_append, List.cons_append]
        rfl
      · refine g_aload_n C dL_number_0 rfl rfl ?_
        refine g_bipush C (v := 32) dL_number_1 rfl ?_
        refine g_callK C kA_hd (k0_type E A (txA κ (l)) (show (l).length ≤ 80 from by simp only [List.length_append, List.length_cons, List.length_nil]; omega) 32 (by decide) (r := nI ((l).length + 1)) (κ' := txA κ (l ++ [32])) (ty_e (by simp only [List.length_append, List.length_cons, List.length_nil]; omega))) cf_X3_type gL_number_X3_type rfl (fitD (Nat.le_of_ble_eq_true rfl) (Nat.le_of_ble_eq_true rfl)) rfl rfl (Nat.le_of_ble_eq_true rfl) dL_number_3 (fun q1 w1 hp => ?_)
        obtain ⟨rfl, rfl⟩ := hp
        refine g_if_le_f C dL_number_6 26 (by decide) (ty_p (by simp only [List.length_append, List.length_cons, List.length_nil]; omega)) ?_
        refine g_iload_n C dL_number_9 rfl rfl ?_
        refine g_if_ge_t C dL_number_10 (tgt := 22) (by decide) (i32_le.mp hs) ?_
        refine g_iconst C (v := 1) dL_number_22 rfl ?_
        refine g_goto C (tgt := 27) dL_number_23 (by decide) ?_
        refine g_istore_n C dL_number_27 rfl (Nat.le_of_ble_eq_true rfl) rfl ?_
        refine g_iload_n C dL_number_28 rfl rfl ?_
        refine g_if_ge_t C dL_number_29 (tgt := 37) (by decide) (i32_le.mp hs) ?_
        refine g_iload_n C dL_number_37 rfl rfl ?_
        refine g_istore_n C dL_number_38 rfl (Nat.le_of_ble_eq_true rfl) rfl ?_
        refine g_iload_n C dL_number_39 rfl rfl ?_
        refine g_if_eq_f C dL_number_40 107 (by decide) (by decide) ?_
        refine g_iload_n C dL_number_43 rfl rfl ?_
        refine g_bipush C (v := 100) dL_number_44 rfl ?_
        refine g_icmp_lt_f C dL_number_46 64 (by decide) h100 ?_
        refine g_aload_n C dL_number_49 rfl rfl ?_
        refine g_bipush C (v := 48) dL_number_50 rfl ?_
        refine g_iload_n C dL_number_52 rfl rfl ?_
        refine g_bipush C (v := 100) dL_number_53 rfl ?_
        refine g_idiv C dL_number_55 (by decide) ?_
        refine g_iadd C dL_number_56 ?_
        refine g_i2c C dL_number_57 ?_
        refine g_callK C kA_hd (k0_type E A (txA κ (l ++ [32])) (show (l ++ [32]).length ≤ 80 from by simp only [List.length_append, List.length_cons, List.length_nil]; omega) (((48 + (v / 100)).toUInt32 % 65536).toInt32) (char_id _) (r := nI ((l ++ [32]).length + 1)) (κ' := txA κ (l ++ [32] ++ [((48 + (v / 100)).toUInt32 % 65536).toInt32])) (ty_e (by simp only [List.length_append, List.length_cons, List.length_nil]; omega))) cf_X3_type gL_number_X3_type rfl (fitD (Nat.le_of_ble_eq_true rfl) (Nat.le_of_ble_eq_true rfl)) rfl rfl (Nat.le_of_ble_eq_true rfl) dL_number_58 (fun q1 w1 hp => ?_)
        obtain ⟨rfl, rfl⟩ := hp
        refine g_if_le_f C dL_number_61 107 (by decide) (ty_p (by simp only [List.length_append, List.length_cons, List.length_nil]; omega)) ?_
        refine g_iload_n C dL_number_64 rfl rfl ?_
        refine g_bipush C (v := 10) dL_number_65 rfl ?_
        refine g_icmp_lt_f C dL_number_67 88 (by decide) h10 ?_
        refine g_aload_n C dL_number_70 rfl rfl ?_
        refine g_bipush C (v := 48) dL_number_71 rfl ?_
        refine g_iload_n C dL_number_73 rfl rfl ?_
        refine g_bipush C (v := 10) dL_number_74 rfl ?_
        refine g_idiv C dL_number_76 (by decide) ?_
        refine g_bipush C (v := 10) dL_number_77 rfl ?_
        refine g_irem C dL_number_79 (by decide) ?_
        refine g_iadd C dL_number_80 ?_
        refine g_i2c C dL_number_81 ?_
        refine g_callK C kA_hd (k0_type E A (txA κ (l ++ [32] ++ [((48 + (v / 100)).toUInt32 % 65536).toInt32])) (show (l ++ [32] ++ [((48 + (v / 100)).toUInt32 % 65536).toInt32]).length ≤ 80 from by simp only [List.length_append, List.length_cons, List.length_nil]; omega) (((48 + ((v / 10) - (v / 10) / 10 * 10)).toUInt32 % 65536).toInt32) (char_id _) (r := nI ((l ++ [32] ++ [((48 + (v / 100)).toUInt32 % 65536).toInt32]).length + 1)) (κ' := txA κ (l ++ [32] ++ [((48 + (v / 100)).toUInt32 % 65536).toInt32] ++ [((48 + ((v / 10) - (v / 10) / 10 * 10)).toUInt32 % 65536).toInt32])) (ty_e (by simp only [List.length_append, List.length_cons, List.length_nil]; omega))) cf_X3_type gL_number_X3_type rfl (fitD (Nat.le_of_ble_eq_true rfl) (Nat.le_of_ble_eq_true rfl)) rfl rfl (Nat.le_of_ble_eq_true rfl) dL_number_82 (fun q1 w1 hp => ?_)
        obtain ⟨rfl, rfl⟩ := hp
        refine g_if_le_f C dL_number_85 107 (by decide) (ty_p (by simp only [List.length_append, List.length_cons, List.length_nil]; omega)) ?_
        refine g_aload_n C dL_number_88 rfl rfl ?_
        refine g_bipush C (v := 48) dL_number_89 rfl ?_
        refine g_iload_n C dL_number_91 rfl rfl ?_
        refine g_bipush C (v := 10) dL_number_92 rfl ?_
        refine g_irem C dL_number_94 (by decide) ?_
        refine g_iadd C dL_number_95 ?_
        refine g_i2c C dL_number_96 ?_
        refine g_callK C kA_hd (k0_type E A (txA κ (l ++ [32] ++ [((48 + (v / 100)).toUInt32 % 65536).toInt32] ++ [((48 + ((v / 10) - (v / 10) / 10 * 10)).toUInt32 % 65536).toInt32])) (show (l ++ [32] ++ [((48 + (v / 100)).toUInt32 % 65536).toInt32] ++ [((48 + ((v / 10) - (v / 10) / 10 * 10)).toUInt32 % 65536).toInt32]).length ≤ 80 from by simp only [List.length_append, List.length_cons, List.length_nil]; omega) (((48 + (v - v / 10 * 10)).toUInt32 % 65536).toInt32) (char_id _) (r := nI ((l ++ [32] ++ [((48 + (v / 100)).toUInt32 % 65536).toInt32] ++ [((48 + ((v / 10) - (v / 10) / 10 * 10)).toUInt32 % 65536).toInt32]).length + 1)) (κ' := txA κ (l ++ [32] ++ [((48 + (v / 100)).toUInt32 % 65536).toInt32] ++ [((48 + ((v / 10) - (v / 10) / 10 * 10)).toUInt32 % 65536).toInt32] ++ [((48 + (v - v / 10 * 10)).toUInt32 % 65536).toInt32])) (ty_e (by simp only [List.length_append, List.length_cons, List.length_nil]; omega))) cf_X3_type gL_number_X3_type rfl (fitD (Nat.le_of_ble_eq_true rfl) (Nat.le_of_ble_eq_true rfl)) rfl rfl (Nat.le_of_ble_eq_true rfl) dL_number_97 (fun q1 w1 hp => ?_)
        obtain ⟨rfl, rfl⟩ := hp
        refine g_if_le_f C dL_number_100 107 (by decide) (ty_p (by simp only [List.length_append, List.length_cons, List.length_nil]; omega)) ?_
        refine g_iconst C (v := 1) dL_number_103 rfl ?_
        refine g_goto C (tgt := 108) dL_number_104 (by decide) ?_
        refine g_zret C R0 rfl dL_number_108 ?_
        have ea : absV v = v := if_neg hs
        refine ⟨rfl, ?_⟩
        rw [nuL, if_neg hs, ea, if_neg h100, if_neg h10]
        simp only [List.append_assoc, List.nil_append, List.cons_append]
        rfl
set_option maxHeartbeats 4000000 in
set_option maxRecDepth 100000 in
theorem c_L_types_fly (E : Ev) (A : Ad) (κ : KSt) (hn : kjn κ ≤ 80) : MI E yL_types wsL_types (rmD 2) (kA E A κ) [.ref A.1, .long 6712441] (pA E A 1 (txA κ [102, 108, 121])) := by
  have k19 : Cond.constantLong RL 19 (255) ∈ wsL_types := by decide +kernel
  refine MI.of (cc := cL_types) (nL := 6) (ty := .boolean) (own := RL) [some (.ref A.1), some (.long 6712441), none, none, none, none] (by decide +kernel) rfl rfl (Nat.le_of_ble_eq_true rfl) rfl rfl ?_
  intro x C R0
  refine g_aload_n C dL_types_0 rfl rfl ?_
  refine g_callK C kA_hd (k0_clearText E A κ hn (r := nI (kjn κ)) (κ' := txA κ []) cl_e) cf_X3_clearText gL_types_X3_clearText rfl (fitD (Nat.le_of_ble_eq_true rfl) (Nat.le_of_ble_eq_true rfl)) rfl rfl (Nat.le_of_ble_eq_true rfl) dL_types_1 (fun q1 w1 hp => ?_)
  obtain ⟨rfl, rfl⟩ := hp
  refine g_if_lt_f C dL_types_4 11 (by decide) (cl_p hn) ?_
  refine g_iconst C (v := 1) dL_types_7 rfl ?_
  refine g_goto C (tgt := 12) dL_types_8 (by decide) ?_
  refine g_istore_n C dL_types_12 rfl (Nat.le_of_ble_eq_true rfl) rfl ?_
  refine g_bipush C (v := 56) dL_types_13 rfl ?_
  refine g_istore C dL_types_15 (Nat.le_of_ble_eq_true rfl) rfl ?_
  refine g_iload C dL_types_17 rfl ?_
  refine g_if_lt_f C dL_types_19 64 (by decide) (by decide) ?_
  refine g_lload_n C dL_types_22 rfl rfl ?_
  refine g_iload C dL_types_23 rfl ?_
  refine g_lshr C (v := 0) dL_types_25 (by decide) ?_
  refine g_ldc2 C k19 dL_types_26 ?_
  refine g_land C dL_types_29 ?_
  refine g_l2i C dL_types_30 ?_
  rw [show ((0 &&& (255)) : Int64).toInt32 = 0 from by decide]
  refine g_istore C dL_types_31 (Nat.le_of_ble_eq_true rfl) rfl ?_
  refine g_iload_n C dL_types_33 rfl rfl ?_
  refine g_if_eq_f C dL_types_34 56 (by decide) (by decide) ?_
  refine g_iload C dL_types_37 rfl ?_
  refine g_if_eq_t C dL_types_39 (tgt := 52) (by decide) (by decide) ?_
  refine g_iconst C (v := 1) dL_types_52 rfl ?_
  refine g_goto C (tgt := 57) dL_types_53 (by decide) ?_
  refine g_istore_n C dL_types_57 rfl (Nat.le_of_ble_eq_true rfl) rfl ?_
  refine g_iinc C (v := 48) dL_types_58 rfl rfl (by decide) ?_
  refine g_goto C (tgt := 17) dL_types_61 (by decide) ?_
  refine g_iload C dL_types_17 rfl ?_
  refine g_if_lt_f C dL_types_19 64 (by decide) (by decide) ?_
  refine g_lload_n C dL_types_22 rfl rfl ?_
  refine g_iload C dL_types_23 rfl ?_
  refine g_lshr C (v := 0) dL_types_25 (by decide) ?_
  refine g_ldc2 C k19 dL_types_26 ?_
  refine g_land C dL_types_29 ?_
  refine g_l2i C dL_types_30 ?_
  rw [show ((0 &&& (255)) : Int64).toInt32 = 0 from by decide]
  refine g_istore C dL_types_31 (Nat.le_of_ble_eq_true rfl) rfl ?_
  refine g_iload_n C dL_types_33 rfl rfl ?_
  refine g_if_eq_f C dL_types_34 56 (by decide) (by decide) ?_
  refine g_iload C dL_types_37 rfl ?_
  refine g_if_eq_t C dL_types_39 (tgt := 52) (by decide) (by decide) ?_
  refine g_iconst C (v := 1) dL_types_52 rfl ?_
  refine g_goto C (tgt := 57) dL_types_53 (by decide) ?_
  refine g_istore_n C dL_types_57 rfl (Nat.le_of_ble_eq_true rfl) rfl ?_
  refine g_iinc C (v := 40) dL_types_58 rfl rfl (by decide) ?_
  refine g_goto C (tgt := 17) dL_types_61 (by decide) ?_
  refine g_iload C dL_types_17 rfl ?_
  refine g_if_lt_f C dL_types_19 64 (by decide) (by decide) ?_
  refine g_lload_n C dL_types_22 rfl rfl ?_
  refine g_iload C dL_types_23 rfl ?_
  refine g_lshr C (v := 0) dL_types_25 (by decide) ?_
  refine g_ldc2 C k19 dL_types_26 ?_
  refine g_land C dL_types_29 ?_
  refine g_l2i C dL_types_30 ?_
  rw [show ((0 &&& (255)) : Int64).toInt32 = 0 from by decide]
  refine g_istore C dL_types_31 (Nat.le_of_ble_eq_true rfl) rfl ?_
  refine g_iload_n C dL_types_33 rfl rfl ?_
  refine g_if_eq_f C dL_types_34 56 (by decide) (by decide) ?_
  refine g_iload C dL_types_37 rfl ?_
  refine g_if_eq_t C dL_types_39 (tgt := 52) (by decide) (by decide) ?_
  refine g_iconst C (v := 1) dL_types_52 rfl ?_
  refine g_goto C (tgt := 57) dL_types_53 (by decide) ?_
  refine g_istore_n C dL_types_57 rfl (Nat.le_of_ble_eq_true rfl) rfl ?_
  refine g_iinc C (v := 32) dL_types_58 rfl rfl (by decide) ?_
  refine g_goto C (tgt := 17) dL_types_61 (by decide) ?_
  refine g_iload C dL_types_17 rfl ?_
  refine g_if_lt_f C dL_types_19 64 (by decide) (by decide) ?_
  refine g_lload_n C dL_types_22 rfl rfl ?_
  refine g_iload C dL_types_23 rfl ?_
  refine g_lshr C (v := 0) dL_types_25 (by decide) ?_
  refine g_ldc2 C k19 dL_types_26 ?_
  refine g_land C dL_types_29 ?_
  refine g_l2i C dL_types_30 ?_
  rw [show ((0 &&& (255)) : Int64).toInt32 = 0 from by decide]
  refine g_istore C dL_types_31 (Nat.le_of_ble_eq_true rfl) rfl ?_
  refine g_iload_n C dL_types_33 rfl rfl ?_
  refine g_if_eq_f C dL_types_34 56 (by decide) (by decide) ?_
  refine g_iload C dL_types_37 rfl ?_
  refine g_if_eq_t C dL_types_39 (tgt := 52) (by decide) (by decide) ?_
  refine g_iconst C (v := 1) dL_types_52 rfl ?_
  refine g_goto C (tgt := 57) dL_types_53 (by decide) ?_
  refine g_istore_n C dL_types_57 rfl (Nat.le_of_ble_eq_true rfl) rfl ?_
  refine g_iinc C (v := 24) dL_types_58 rfl rfl (by decide) ?_
  refine g_goto C (tgt := 17) dL_types_61 (by decide) ?_
  refine g_iload C dL_types_17 rfl ?_
  refine g_if_lt_f C dL_types_19 64 (by decide) (by decide) ?_
  refine g_lload_n C dL_types_22 rfl rfl ?_
  refine g_iload C dL_types_23 rfl ?_
  refine g_lshr C (v := 0) dL_types_25 (by decide) ?_
  refine g_ldc2 C k19 dL_types_26 ?_
  refine g_land C dL_types_29 ?_
  refine g_l2i C dL_types_30 ?_
  rw [show ((0 &&& (255)) : Int64).toInt32 = 0 from by decide]
  refine g_istore C dL_types_31 (Nat.le_of_ble_eq_true rfl) rfl ?_
  refine g_iload_n C dL_types_33 rfl rfl ?_
  refine g_if_eq_f C dL_types_34 56 (by decide) (by decide) ?_
  refine g_iload C dL_types_37 rfl ?_
  refine g_if_eq_t C dL_types_39 (tgt := 52) (by decide) (by decide) ?_
  refine g_iconst C (v := 1) dL_types_52 rfl ?_
  refine g_goto C (tgt := 57) dL_types_53 (by decide) ?_
  refine g_istore_n C dL_types_57 rfl (Nat.le_of_ble_eq_true rfl) rfl ?_
  refine g_iinc C (v := 16) dL_types_58 rfl rfl (by decide) ?_
  refine g_goto C (tgt := 17) dL_types_61 (by decide) ?_
  refine g_iload C dL_types_17 rfl ?_
  refine g_if_lt_f C dL_types_19 64 (by decide) (by decide) ?_
  refine g_lload_n C dL_types_22 rfl rfl ?_
  refine g_iload C dL_types_23 rfl ?_
  refine g_lshr C (v := 102) dL_types_25 (by decide) ?_
  refine g_ldc2 C k19 dL_types_26 ?_
  refine g_land C dL_types_29 ?_
  refine g_l2i C dL_types_30 ?_
  rw [show ((102 &&& (255)) : Int64).toInt32 = 102 from by decide]
  refine g_istore C dL_types_31 (Nat.le_of_ble_eq_true rfl) rfl ?_
  refine g_iload_n C dL_types_33 rfl rfl ?_
  refine g_if_eq_f C dL_types_34 56 (by decide) (by decide) ?_
  refine g_iload C dL_types_37 rfl ?_
  refine g_if_eq_f C dL_types_39 52 (by decide) (by decide) ?_
  refine g_aload_n C dL_types_42 rfl rfl ?_
  refine g_iload C dL_types_43 rfl ?_
  refine g_i2c C dL_types_45 ?_
  rw [show ((102 : Int32).toUInt32 % 65536).toInt32 = 102 from by decide]
  refine g_callK C kA_hd (k0_type E A (txA κ []) (Nat.le_of_ble_eq_true rfl) 102 (by decide) (r := 1) (κ' := (txA κ [102])) (ty_e (Nat.le_of_ble_eq_true rfl))) cf_X3_type gL_types_X3_type rfl (fitD (Nat.le_of_ble_eq_true rfl) (Nat.le_of_ble_eq_true rfl)) rfl rfl (Nat.le_of_ble_eq_true rfl) dL_types_46 (fun q1 w1 hp => ?_)
  obtain ⟨rfl, rfl⟩ := hp
  refine g_if_le_f C dL_types_49 56 (by decide) (by decide) ?_
  refine g_iconst C (v := 1) dL_types_52 rfl ?_
  refine g_goto C (tgt := 57) dL_types_53 (by decide) ?_
  refine g_istore_n C dL_types_57 rfl (Nat.le_of_ble_eq_true rfl) rfl ?_
  refine g_iinc C (v := 8) dL_types_58 rfl rfl (by decide) ?_
  refine g_goto C (tgt := 17) dL_types_61 (by decide) ?_
  refine g_iload C dL_types_17 rfl ?_
  refine g_if_lt_f C dL_types_19 64 (by decide) (by decide) ?_
  refine g_lload_n C dL_types_22 rfl rfl ?_
  refine g_iload C dL_types_23 rfl ?_
  refine g_lshr C (v := 26220) dL_types_25 (by decide) ?_
  refine g_ldc2 C k19 dL_types_26 ?_
  refine g_land C dL_types_29 ?_
  refine g_l2i C dL_types_30 ?_
  rw [show ((26220 &&& (255)) : Int64).toInt32 = 108 from by decide]
  refine g_istore C dL_types_31 (Nat.le_of_ble_eq_true rfl) rfl ?_
  refine g_iload_n C dL_types_33 rfl rfl ?_
  refine g_if_eq_f C dL_types_34 56 (by decide) (by decide) ?_
  refine g_iload C dL_types_37 rfl ?_
  refine g_if_eq_f C dL_types_39 52 (by decide) (by decide) ?_
  refine g_aload_n C dL_types_42 rfl rfl ?_
  refine g_iload C dL_types_43 rfl ?_
  refine g_i2c C dL_types_45 ?_
  rw [show ((108 : Int32).toUInt32 % 65536).toInt32 = 108 from by decide]
  refine g_callK C kA_hd (k0_type E A (txA κ [102]) (Nat.le_of_ble_eq_true rfl) 108 (by decide) (r := 2) (κ' := (txA κ [102, 108])) (ty_e (Nat.le_of_ble_eq_true rfl))) cf_X3_type gL_types_X3_type rfl (fitD (Nat.le_of_ble_eq_true rfl) (Nat.le_of_ble_eq_true rfl)) rfl rfl (Nat.le_of_ble_eq_true rfl) dL_types_46 (fun q1 w1 hp => ?_)
  obtain ⟨rfl, rfl⟩ := hp
  refine g_if_le_f C dL_types_49 56 (by decide) (by decide) ?_
  refine g_iconst C (v := 1) dL_types_52 rfl ?_
  refine g_goto C (tgt := 57) dL_types_53 (by decide) ?_
  refine g_istore_n C dL_types_57 rfl (Nat.le_of_ble_eq_true rfl) rfl ?_
  refine g_iinc C (v := 0) dL_types_58 rfl rfl (by decide) ?_
  refine g_goto C (tgt := 17) dL_types_61 (by decide) ?_
  refine g_iload C dL_types_17 rfl ?_
  refine g_if_lt_f C dL_types_19 64 (by decide) (by decide) ?_
  refine g_lload_n C dL_types_22 rfl rfl ?_
  refine g_iload C dL_types_23 rfl ?_
  refine g_lshr C (v := 6712441) dL_types_25 (by decide) ?_
  refine g_ldc2 C k19 dL_types_26 ?_
  refine g_land C dL_types_29 ?_
  refine g_l2i C dL_types_30 ?_
  rw [show ((6712441 &&& (255)) : Int64).toInt32 = 121 from by decide]
  refine g_istore C dL_types_31 (Nat.le_of_ble_eq_true rfl) rfl ?_
  refine g_iload_n C dL_types_33 rfl rfl ?_
  refine g_if_eq_f C dL_types_34 56 (by decide) (by decide) ?_
  refine g_iload C dL_types_37 rfl ?_
  refine g_if_eq_f C dL_types_39 52 (by decide) (by decide) ?_
  refine g_aload_n C dL_types_42 rfl rfl ?_
  refine g_iload C dL_types_43 rfl ?_
  refine g_i2c C dL_types_45 ?_
  rw [show ((121 : Int32).toUInt32 % 65536).toInt32 = 121 from by decide]
  refine g_callK C kA_hd (k0_type E A (txA κ [102, 108]) (Nat.le_of_ble_eq_true rfl) 121 (by decide) (r := 3) (κ' := (txA κ [102, 108, 121])) (ty_e (Nat.le_of_ble_eq_true rfl))) cf_X3_type gL_types_X3_type rfl (fitD (Nat.le_of_ble_eq_true rfl) (Nat.le_of_ble_eq_true rfl)) rfl rfl (Nat.le_of_ble_eq_true rfl) dL_types_46 (fun q1 w1 hp => ?_)
  obtain ⟨rfl, rfl⟩ := hp
  refine g_if_le_f C dL_types_49 56 (by decide) (by decide) ?_
  refine g_iconst C (v := 1) dL_types_52 rfl ?_
  refine g_goto C (tgt := 57) dL_types_53 (by decide) ?_
  refine g_istore_n C dL_types_57 rfl (Nat.le_of_ble_eq_true rfl) rfl ?_
  refine g_iinc C (v := (-8)) dL_types_58 rfl rfl (by decide) ?_
  refine g_goto C (tgt := 17) dL_types_61 (by decide) ?_
  refine g_iload C dL_types_17 rfl ?_
  refine g_if_lt_t C dL_types_19 (tgt := 64) (by decide) (by decide) ?_
  refine g_iload_n C dL_types_64 rfl rfl ?_
  refine g_zret C R0 rfl dL_types_65 ?_
  exact ⟨rfl, rfl⟩
set_option maxHeartbeats 4000000 in
set_option maxRecDepth 100000 in
theorem c_L_types_read (E : Ev) (A : Ad) (κ : KSt) (hn : kjn κ ≤ 80) : MI E yL_types wsL_types (rmD 2) (kA E A κ) [.ref A.1, .long 1919246692] (pA E A 1 (txA κ [114, 101, 97, 100])) := by
  have k19 : Cond.constantLong RL 19 (255) ∈ wsL_types := by decide +kernel
  refine MI.of (cc := cL_types) (nL := 6) (ty := .boolean) (own := RL) [some (.ref A.1), some (.long 1919246692), none, none, none, none] (by decide +kernel) rfl rfl (Nat.le_of_ble_eq_true rfl) rfl rfl ?_
  intro x C R0
  refine g_aload_n C dL_types_0 rfl rfl ?_
  refine g_callK C kA_hd (k0_clearText E A κ hn (r := nI (kjn κ)) (κ' := txA κ []) cl_e) cf_X3_clearText gL_types_X3_clearText rfl (fitD (Nat.le_of_ble_eq_true rfl) (Nat.le_of_ble_eq_true rfl)) rfl rfl (Nat.le_of_ble_eq_true rfl) dL_types_1 (fun q1 w1 hp => ?_)
  obtain ⟨rfl, rfl⟩ := hp
  refine g_if_lt_f C dL_types_4 11 (by decide) (cl_p hn) ?_
  refine g_iconst C (v := 1) dL_types_7 rfl ?_
  refine g_goto C (tgt := 12) dL_types_8 (by decide) ?_
  refine g_istore_n C dL_types_12 rfl (Nat.le_of_ble_eq_true rfl) rfl ?_
  refine g_bipush C (v := 56) dL_types_13 rfl ?_
  refine g_istore C dL_types_15 (Nat.le_of_ble_eq_true rfl) rfl ?_
  refine g_iload C dL_types_17 rfl ?_
  refine g_if_lt_f C dL_types_19 64 (by decide) (by decide) ?_
  refine g_lload_n C dL_types_22 rfl rfl ?_
  refine g_iload C dL_types_23 rfl ?_
  refine g_lshr C (v := 0) dL_types_25 (by decide) ?_
  refine g_ldc2 C k19 dL_types_26 ?_
  refine g_land C dL_types_29 ?_
  refine g_l2i C dL_types_30 ?_
  rw [show ((0 &&& (255)) : Int64).toInt32 = 0 from by decide]
  refine g_istore C dL_types_31 (Nat.le_of_ble_eq_true rfl) rfl ?_
  refine g_iload_n C dL_types_33 rfl rfl ?_
  refine g_if_eq_f C dL_types_34 56 (by decide) (by decide) ?_
  refine g_iload C dL_types_37 rfl ?_
  refine g_if_eq_t C dL_types_39 (tgt := 52) (by decide) (by decide) ?_
  refine g_iconst C (v := 1) dL_types_52 rfl ?_
  refine g_goto C (tgt := 57) dL_types_53 (by decide) ?_
  refine g_istore_n C dL_types_57 rfl (Nat.le_of_ble_eq_true rfl) rfl ?_
  refine g_iinc C (v := 48) dL_types_58 rfl rfl (by decide) ?_
  refine g_goto C (tgt := 17) dL_types_61 (by decide) ?_
  refine g_iload C dL_types_17 rfl ?_
  refine g_if_lt_f C dL_types_19 64 (by decide) (by decide) ?_
  refine g_lload_n C dL_types_22 rfl rfl ?_
  refine g_iload C dL_types_23 rfl ?_
  refine g_lshr C (v := 0) dL_types_25 (by decide) ?_
  refine g_ldc2 C k19 dL_types_26 ?_
  refine g_land C dL_types_29 ?_
  refine g_l2i C dL_types_30 ?_
  rw [show ((0 &&& (255)) : Int64).toInt32 = 0 from by decide]
  refine g_istore C dL_types_31 (Nat.le_of_ble_eq_true rfl) rfl ?_
  refine g_iload_n C dL_types_33 rfl rfl ?_
  refine g_if_eq_f C dL_types_34 56 (by decide) (by decide) ?_
  refine g_iload C dL_types_37 rfl ?_
  refine g_if_eq_t C dL_types_39 (tgt := 52) (by decide) (by decide) ?_
  refine g_iconst C (v := 1) dL_types_52 rfl ?_
  refine g_goto C (tgt := 57) dL_types_53 (by decide) ?_
  refine g_istore_n C dL_types_57 rfl (Nat.le_of_ble_eq_true rfl) rfl ?_
  refine g_iinc C (v := 40) dL_types_58 rfl rfl (by decide) ?_
  refine g_goto C (tgt := 17) dL_types_61 (by decide) ?_
  refine g_iload C dL_types_17 rfl ?_
  refine g_if_lt_f C dL_types_19 64 (by decide) (by decide) ?_
  refine g_lload_n C dL_types_22 rfl rfl ?_
  refine g_iload C dL_types_23 rfl ?_
  refine g_lshr C (v := 0) dL_types_25 (by decide) ?_
  refine g_ldc2 C k19 dL_types_26 ?_
  refine g_land C dL_types_29 ?_
  refine g_l2i C dL_types_30 ?_
  rw [show ((0 &&& (255)) : Int64).toInt32 = 0 from by decide]
  refine g_istore C dL_types_31 (Nat.le_of_ble_eq_true rfl) rfl ?_
  refine g_iload_n C dL_types_33 rfl rfl ?_
  refine g_if_eq_f C dL_types_34 56 (by decide) (by decide) ?_
  refine g_iload C dL_types_37 rfl ?_
  refine g_if_eq_t C dL_types_39 (tgt := 52) (by decide) (by decide) ?_
  refine g_iconst C (v := 1) dL_types_52 rfl ?_
  refine g_goto C (tgt := 57) dL_types_53 (by decide) ?_
  refine g_istore_n C dL_types_57 rfl (Nat.le_of_ble_eq_true rfl) rfl ?_
  refine g_iinc C (v := 32) dL_types_58 rfl rfl (by decide) ?_
  refine g_goto C (tgt := 17) dL_types_61 (by decide) ?_
  refine g_iload C dL_types_17 rfl ?_
  refine g_if_lt_f C dL_types_19 64 (by decide) (by decide) ?_
  refine g_lload_n C dL_types_22 rfl rfl ?_
  refine g_iload C dL_types_23 rfl ?_
  refine g_lshr C (v := 0) dL_types_25 (by decide) ?_
  refine g_ldc2 C k19 dL_types_26 ?_
  refine g_land C dL_types_29 ?_
  refine g_l2i C dL_types_30 ?_
  rw [show ((0 &&& (255)) : Int64).toInt32 = 0 from by decide]
  refine g_istore C dL_types_31 (Nat.le_of_ble_eq_true rfl) rfl ?_
  refine g_iload_n C dL_types_33 rfl rfl ?_
  refine g_if_eq_f C dL_types_34 56 (by decide) (by decide) ?_
  refine g_iload C dL_types_37 rfl ?_
  refine g_if_eq_t C dL_types_39 (tgt := 52) (by decide) (by decide) ?_
  refine g_iconst C (v := 1) dL_types_52 rfl ?_
  refine g_goto C (tgt := 57) dL_types_53 (by decide) ?_
  refine g_istore_n C dL_types_57 rfl (Nat.le_of_ble_eq_true rfl) rfl ?_
  refine g_iinc C (v := 24) dL_types_58 rfl rfl (by decide) ?_
  refine g_goto C (tgt := 17) dL_types_61 (by decide) ?_
  refine g_iload C dL_types_17 rfl ?_
  refine g_if_lt_f C dL_types_19 64 (by decide) (by decide) ?_
  refine g_lload_n C dL_types_22 rfl rfl ?_
  refine g_iload C dL_types_23 rfl ?_
  refine g_lshr C (v := 114) dL_types_25 (by decide) ?_
  refine g_ldc2 C k19 dL_types_26 ?_
  refine g_land C dL_types_29 ?_
  refine g_l2i C dL_types_30 ?_
  rw [show ((114 &&& (255)) : Int64).toInt32 = 114 from by decide]
  refine g_istore C dL_types_31 (Nat.le_of_ble_eq_true rfl) rfl ?_
  refine g_iload_n C dL_types_33 rfl rfl ?_
  refine g_if_eq_f C dL_types_34 56 (by decide) (by decide) ?_
  refine g_iload C dL_types_37 rfl ?_
  refine g_if_eq_f C dL_types_39 52 (by decide) (by decide) ?_
  refine g_aload_n C dL_types_42 rfl rfl ?_
  refine g_iload C dL_types_43 rfl ?_
  refine g_i2c C dL_types_45 ?_
  rw [show ((114 : Int32).toUInt32 % 65536).toInt32 = 114 from by decide]
  refine g_callK C kA_hd (k0_type E A (txA κ []) (Nat.le_of_ble_eq_true rfl) 114 (by decide) (r := 1) (κ' := (txA κ [114])) (ty_e (Nat.le_of_ble_eq_true rfl))) cf_X3_type gL_types_X3_type rfl (fitD (Nat.le_of_ble_eq_true rfl) (Nat.le_of_ble_eq_true rfl)) rfl rfl (Nat.le_of_ble_eq_true rfl) dL_types_46 (fun q1 w1 hp => ?_)
  obtain ⟨rfl, rfl⟩ := hp
  refine g_if_le_f C dL_types_49 56 (by decide) (by decide) ?_
  refine g_iconst C (v := 1) dL_types_52 rfl ?_
  refine g_goto C (tgt := 57) dL_types_53 (by decide) ?_
  refine g_istore_n C dL_types_57 rfl (Nat.le_of_ble_eq_true rfl) rfl ?_
  refine g_iinc C (v := 16) dL_types_58 rfl rfl (by decide) ?_
  refine g_goto C (tgt := 17) dL_types_61 (by decide) ?_
  refine g_iload C dL_types_17 rfl ?_
  refine g_if_lt_f C dL_types_19 64 (by decide) (by decide) ?_
  refine g_lload_n C dL_types_22 rfl rfl ?_
  refine g_iload C dL_types_23 rfl ?_
  refine g_lshr C (v := 29285) dL_types_25 (by decide) ?_
  refine g_ldc2 C k19 dL_types_26 ?_
  refine g_land C dL_types_29 ?_
  refine g_l2i C dL_types_30 ?_
  rw [show ((29285 &&& (255)) : Int64).toInt32 = 101 from by decide]
  refine g_istore C dL_types_31 (Nat.le_of_ble_eq_true rfl) rfl ?_
  refine g_iload_n C dL_types_33 rfl rfl ?_
  refine g_if_eq_f C dL_types_34 56 (by decide) (by decide) ?_
  refine g_iload C dL_types_37 rfl ?_
  refine g_if_eq_f C dL_types_39 52 (by decide) (by decide) ?_
  refine g_aload_n C dL_types_42 rfl rfl ?_
  refine g_iload C dL_types_43 rfl ?_
  refine g_i2c C dL_types_45 ?_
  rw [show ((101 : Int32).toUInt32 % 65536).toInt32 = 101 from by decide]
  refine g_callK C kA_hd (k0_type E A (txA κ [114]) (Nat.le_of_ble_eq_true rfl) 101 (by decide) (r := 2) (κ' := (txA κ [114, 101])) (ty_e (Nat.le_of_ble_eq_true rfl))) cf_X3_type gL_types_X3_type rfl (fitD (Nat.le_of_ble_eq_true rfl) (Nat.le_of_ble_eq_true rfl)) rfl rfl (Nat.le_of_ble_eq_true rfl) dL_types_46 (fun q1 w1 hp => ?_)
  obtain ⟨rfl, rfl⟩ := hp
  refine g_if_le_f C dL_types_49 56 (by decide) (by decide) ?_
  refine g_iconst C (v := 1) dL_types_52 rfl ?_
  refine g_goto C (tgt := 57) dL_types_53 (by decide) ?_
  refine g_istore_n C dL_types_57 rfl (Nat.le_of_ble_eq_true rfl) rfl ?_
  refine g_iinc C (v := 8) dL_types_58 rfl rfl (by decide) ?_
  refine g_goto C (tgt := 17) dL_types_61 (by decide) ?_
  refine g_iload C dL_types_17 rfl ?_
  refine g_if_lt_f C dL_types_19 64 (by decide) (by decide) ?_
  refine g_lload_n C dL_types_22 rfl rfl ?_
  refine g_iload C dL_types_23 rfl ?_
  refine g_lshr C (v := 7497057) dL_types_25 (by decide) ?_
  refine g_ldc2 C k19 dL_types_26 ?_
  refine g_land C dL_types_29 ?_
  refine g_l2i C dL_types_30 ?_
  rw [show ((7497057 &&& (255)) : Int64).toInt32 = 97 from by decide]
  refine g_istore C dL_types_31 (Nat.le_of_ble_eq_true rfl) rfl ?_
  refine g_iload_n C dL_types_33 rfl rfl ?_
  refine g_if_eq_f C dL_types_34 56 (by decide) (by decide) ?_
  refine g_iload C dL_types_37 rfl ?_
  refine g_if_eq_f C dL_types_39 52 (by decide) (by decide) ?_
  refine g_aload_n C dL_types_42 rfl rfl ?_
  refine g_iload C dL_types_43 rfl ?_
  refine g_i2c C dL_types_45 ?_
  rw [show ((97 : Int32).toUInt32 % 65536).toInt32 = 97 from by decide]
  refine g_callK C kA_hd (k0_type E A (txA κ [114, 101]) (Nat.le_of_ble_eq_true rfl) 97 (by decide) (r := 3) (κ' := (txA κ [114, 101, 97])) (ty_e (Nat.le_of_ble_eq_true rfl))) cf_X3_type gL_types_X3_type rfl (fitD (Nat.le_of_ble_eq_true rfl) (Nat.le_of_ble_eq_true rfl)) rfl rfl (Nat.le_of_ble_eq_true rfl) dL_types_46 (fun q1 w1 hp => ?_)
  obtain ⟨rfl, rfl⟩ := hp
  refine g_if_le_f C dL_types_49 56 (by decide) (by decide) ?_
  refine g_iconst C (v := 1) dL_types_52 rfl ?_
  refine g_goto C (tgt := 57) dL_types_53 (by decide) ?_
  refine g_istore_n C dL_types_57 rfl (Nat.le_of_ble_eq_true rfl) rfl ?_
  refine g_iinc C (v := 0) dL_types_58 rfl rfl (by decide) ?_
  refine g_goto C (tgt := 17) dL_types_61 (by decide) ?_
  refine g_iload C dL_types_17 rfl ?_
  refine g_if_lt_f C dL_types_19 64 (by decide) (by decide) ?_
  refine g_lload_n C dL_types_22 rfl rfl ?_
  refine g_iload C dL_types_23 rfl ?_
  refine g_lshr C (v := 1919246692) dL_types_25 (by decide) ?_
  refine g_ldc2 C k19 dL_types_26 ?_
  refine g_land C dL_types_29 ?_
  refine g_l2i C dL_types_30 ?_
  rw [show ((1919246692 &&& (255)) : Int64).toInt32 = 100 from by decide]
  refine g_istore C dL_types_31 (Nat.le_of_ble_eq_true rfl) rfl ?_
  refine g_iload_n C dL_types_33 rfl rfl ?_
  refine g_if_eq_f C dL_types_34 56 (by decide) (by decide) ?_
  refine g_iload C dL_types_37 rfl ?_
  refine g_if_eq_f C dL_types_39 52 (by decide) (by decide) ?_
  refine g_aload_n C dL_types_42 rfl rfl ?_
  refine g_iload C dL_types_43 rfl ?_
  refine g_i2c C dL_types_45 ?_
  rw [show ((100 : Int32).toUInt32 % 65536).toInt32 = 100 from by decide]
  refine g_callK C kA_hd (k0_type E A (txA κ [114, 101, 97]) (Nat.le_of_ble_eq_true rfl) 100 (by decide) (r := 4) (κ' := (txA κ [114, 101, 97, 100])) (ty_e (Nat.le_of_ble_eq_true rfl))) cf_X3_type gL_types_X3_type rfl (fitD (Nat.le_of_ble_eq_true rfl) (Nat.le_of_ble_eq_true rfl)) rfl rfl (Nat.le_of_ble_eq_true rfl) dL_types_46 (fun q1 w1 hp => ?_)
  obtain ⟨rfl, rfl⟩ := hp
  refine g_if_le_f C dL_types_49 56 (by decide) (by decide) ?_
  refine g_iconst C (v := 1) dL_types_52 rfl ?_
  refine g_goto C (tgt := 57) dL_types_53 (by decide) ?_
  refine g_istore_n C dL_types_57 rfl (Nat.le_of_ble_eq_true rfl) rfl ?_
  refine g_iinc C (v := (-8)) dL_types_58 rfl rfl (by decide) ?_
  refine g_goto C (tgt := 17) dL_types_61 (by decide) ?_
  refine g_iload C dL_types_17 rfl ?_
  refine g_if_lt_t C dL_types_19 (tgt := 64) (by decide) (by decide) ?_
  refine g_iload_n C dL_types_64 rfl rfl ?_
  refine g_zret C R0 rfl dL_types_65 ?_
  exact ⟨rfl, rfl⟩
set_option maxHeartbeats 4000000 in
set_option maxRecDepth 100000 in
theorem c_L_types_write (E : Ev) (A : Ad) (κ : KSt) (hn : kjn κ ≤ 80) : MI E yL_types wsL_types (rmD 2) (kA E A κ) [.ref A.1, .long 513020621925] (pA E A 1 (txA κ [119, 114, 105, 116, 101])) := by
  have k19 : Cond.constantLong RL 19 (255) ∈ wsL_types := by decide +kernel
  refine MI.of (cc := cL_types) (nL := 6) (ty := .boolean) (own := RL) [some (.ref A.1), some (.long 513020621925), none, none, none, none] (by decide +kernel) rfl rfl (Nat.le_of_ble_eq_true rfl) rfl rfl ?_
  intro x C R0
  refine g_aload_n C dL_types_0 rfl rfl ?_
  refine g_callK C kA_hd (k0_clearText E A κ hn (r := nI (kjn κ)) (κ' := txA κ []) cl_e) cf_X3_clearText gL_types_X3_clearText rfl (fitD (Nat.le_of_ble_eq_true rfl) (Nat.le_of_ble_eq_true rfl)) rfl rfl (Nat.le_of_ble_eq_true rfl) dL_types_1 (fun q1 w1 hp => ?_)
  obtain ⟨rfl, rfl⟩ := hp
  refine g_if_lt_f C dL_types_4 11 (by decide) (cl_p hn) ?_
  refine g_iconst C (v := 1) dL_types_7 rfl ?_
  refine g_goto C (tgt := 12) dL_types_8 (by decide) ?_
  refine g_istore_n C dL_types_12 rfl (Nat.le_of_ble_eq_true rfl) rfl ?_
  refine g_bipush C (v := 56) dL_types_13 rfl ?_
  refine g_istore C dL_types_15 (Nat.le_of_ble_eq_true rfl) rfl ?_
  refine g_iload C dL_types_17 rfl ?_
  refine g_if_lt_f C dL_types_19 64 (by decide) (by decide) ?_
  refine g_lload_n C dL_types_22 rfl rfl ?_
  refine g_iload C dL_types_23 rfl ?_
  refine g_lshr C (v := 0) dL_types_25 (by decide) ?_
  refine g_ldc2 C k19 dL_types_26 ?_
  refine g_land C dL_types_29 ?_
  refine g_l2i C dL_types_30 ?_
  rw [show ((0 &&& (255)) : Int64).toInt32 = 0 from by decide]
  refine g_istore C dL_types_31 (Nat.le_of_ble_eq_true rfl) rfl ?_
  refine g_iload_n C dL_types_33 rfl rfl ?_
  refine g_if_eq_f C dL_types_34 56 (by decide) (by decide) ?_
  refine g_iload C dL_types_37 rfl ?_
  refine g_if_eq_t C dL_types_39 (tgt := 52) (by decide) (by decide) ?_
  refine g_iconst C (v := 1) dL_types_52 rfl ?_
  refine g_goto C (tgt := 57) dL_types_53 (by decide) ?_
  refine g_istore_n C dL_types_57 rfl (Nat.le_of_ble_eq_true rfl) rfl ?_
  refine g_iinc C (v := 48) dL_types_58 rfl rfl (by decide) ?_
  refine g_goto C (tgt := 17) dL_types_61 (by decide) ?_
  refine g_iload C dL_types_17 rfl ?_
  refine g_if_lt_f C dL_types_19 64 (by decide) (by decide) ?_
  refine g_lload_n C dL_types_22 rfl rfl ?_
  refine g_iload C dL_types_23 rfl ?_
  refine g_lshr C (v := 0) dL_types_25 (by decide) ?_
  refine g_ldc2 C k19 dL_types_26 ?_
  refine g_land C dL_types_29 ?_
  refine g_l2i C dL_types_30 ?_
  rw [show ((0 &&& (255)) : Int64).toInt32 = 0 from by decide]
  refine g_istore C dL_types_31 (Nat.le_of_ble_eq_true rfl) rfl ?_
  refine g_iload_n C dL_types_33 rfl rfl ?_
  refine g_if_eq_f C dL_types_34 56 (by decide) (by decide) ?_
  refine g_iload C dL_types_37 rfl ?_
  refine g_if_eq_t C dL_types_39 (tgt := 52) (by decide) (by decide) ?_
  refine g_iconst C (v := 1) dL_types_52 rfl ?_
  refine g_goto C (tgt := 57) dL_types_53 (by decide) ?_
  refine g_istore_n C dL_types_57 rfl (Nat.le_of_ble_eq_true rfl) rfl ?_
  refine g_iinc C (v := 40) dL_types_58 rfl rfl (by decide) ?_
  refine g_goto C (tgt := 17) dL_types_61 (by decide) ?_
  refine g_iload C dL_types_17 rfl ?_
  refine g_if_lt_f C dL_types_19 64 (by decide) (by decide) ?_
  refine g_lload_n C dL_types_22 rfl rfl ?_
  refine g_iload C dL_types_23 rfl ?_
  refine g_lshr C (v := 0) dL_types_25 (by decide) ?_
  refine g_ldc2 C k19 dL_types_26 ?_
  refine g_land C dL_types_29 ?_
  refine g_l2i C dL_types_30 ?_
  rw [show ((0 &&& (255)) : Int64).toInt32 = 0 from by decide]
  refine g_istore C dL_types_31 (Nat.le_of_ble_eq_true rfl) rfl ?_
  refine g_iload_n C dL_types_33 rfl rfl ?_
  refine g_if_eq_f C dL_types_34 56 (by decide) (by decide) ?_
  refine g_iload C dL_types_37 rfl ?_
  refine g_if_eq_t C dL_types_39 (tgt := 52) (by decide) (by decide) ?_
  refine g_iconst C (v := 1) dL_types_52 rfl ?_
  refine g_goto C (tgt := 57) dL_types_53 (by decide) ?_
  refine g_istore_n C dL_types_57 rfl (Nat.le_of_ble_eq_true rfl) rfl ?_
  refine g_iinc C (v := 32) dL_types_58 rfl rfl (by decide) ?_
  refine g_goto C (tgt := 17) dL_types_61 (by decide) ?_
  refine g_iload C dL_types_17 rfl ?_
  refine g_if_lt_f C dL_types_19 64 (by decide) (by decide) ?_
  refine g_lload_n C dL_types_22 rfl rfl ?_
  refine g_iload C dL_types_23 rfl ?_
  refine g_lshr C (v := 119) dL_types_25 (by decide) ?_
  refine g_ldc2 C k19 dL_types_26 ?_
  refine g_land C dL_types_29 ?_
  refine g_l2i C dL_types_30 ?_
  rw [show ((119 &&& (255)) : Int64).toInt32 = 119 from by decide]
  refine g_istore C dL_types_31 (Nat.le_of_ble_eq_true rfl) rfl ?_
  refine g_iload_n C dL_types_33 rfl rfl ?_
  refine g_if_eq_f C dL_types_34 56 (by decide) (by decide) ?_
  refine g_iload C dL_types_37 rfl ?_
  refine g_if_eq_f C dL_types_39 52 (by decide) (by decide) ?_
  refine g_aload_n C dL_types_42 rfl rfl ?_
  refine g_iload C dL_types_43 rfl ?_
  refine g_i2c C dL_types_45 ?_
  rw [show ((119 : Int32).toUInt32 % 65536).toInt32 = 119 from by decide]
  refine g_callK C kA_hd (k0_type E A (txA κ []) (Nat.le_of_ble_eq_true rfl) 119 (by decide) (r := 1) (κ' := (txA κ [119])) (ty_e (Nat.le_of_ble_eq_true rfl))) cf_X3_type gL_types_X3_type rfl (fitD (Nat.le_of_ble_eq_true rfl) (Nat.le_of_ble_eq_true rfl)) rfl rfl (Nat.le_of_ble_eq_true rfl) dL_types_46 (fun q1 w1 hp => ?_)
  obtain ⟨rfl, rfl⟩ := hp
  refine g_if_le_f C dL_types_49 56 (by decide) (by decide) ?_
  refine g_iconst C (v := 1) dL_types_52 rfl ?_
  refine g_goto C (tgt := 57) dL_types_53 (by decide) ?_
  refine g_istore_n C dL_types_57 rfl (Nat.le_of_ble_eq_true rfl) rfl ?_
  refine g_iinc C (v := 24) dL_types_58 rfl rfl (by decide) ?_
  refine g_goto C (tgt := 17) dL_types_61 (by decide) ?_
  refine g_iload C dL_types_17 rfl ?_
  refine g_if_lt_f C dL_types_19 64 (by decide) (by decide) ?_
  refine g_lload_n C dL_types_22 rfl rfl ?_
  refine g_iload C dL_types_23 rfl ?_
  refine g_lshr C (v := 30578) dL_types_25 (by decide) ?_
  refine g_ldc2 C k19 dL_types_26 ?_
  refine g_land C dL_types_29 ?_
  refine g_l2i C dL_types_30 ?_
  rw [show ((30578 &&& (255)) : Int64).toInt32 = 114 from by decide]
  refine g_istore C dL_types_31 (Nat.le_of_ble_eq_true rfl) rfl ?_
  refine g_iload_n C dL_types_33 rfl rfl ?_
  refine g_if_eq_f C dL_types_34 56 (by decide) (by decide) ?_
  refine g_iload C dL_types_37 rfl ?_
  refine g_if_eq_f C dL_types_39 52 (by decide) (by decide) ?_
  refine g_aload_n C dL_types_42 rfl rfl ?_
  refine g_iload C dL_types_43 rfl ?_
  refine g_i2c C dL_types_45 ?_
  rw [show ((114 : Int32).toUInt32 % 65536).toInt32 = 114 from by decide]
  refine g_callK C kA_hd (k0_type E A (txA κ [119]) (Nat.le_of_ble_eq_true rfl) 114 (by decide) (r := 2) (κ' := (txA κ [119, 114])) (ty_e (Nat.le_of_ble_eq_true rfl))) cf_X3_type gL_types_X3_type rfl (fitD (Nat.le_of_ble_eq_true rfl) (Nat.le_of_ble_eq_true rfl)) rfl rfl (Nat.le_of_ble_eq_true rfl) dL_types_46 (fun q1 w1 hp => ?_)
  obtain ⟨rfl, rfl⟩ := hp
  refine g_if_le_f C dL_types_49 56 (by decide) (by decide) ?_
  refine g_iconst C (v := 1) dL_types_52 rfl ?_
  refine g_goto C (tgt := 57) dL_types_53 (by decide) ?_
  refine g_istore_n C dL_types_57 rfl (Nat.le_of_ble_eq_true rfl) rfl ?_
  refine g_iinc C (v := 16) dL_types_58 rfl rfl (by decide) ?_
  refine g_goto C (tgt := 17) dL_types_61 (by decide) ?_
  refine g_iload C dL_types_17 rfl ?_
  refine g_if_lt_f C dL_types_19 64 (by decide) (by decide) ?_
  refine g_lload_n C dL_types_22 rfl rfl ?_
  refine g_iload C dL_types_23 rfl ?_
  refine g_lshr C (v := 7828073) dL_types_25 (by decide) ?_
  refine g_ldc2 C k19 dL_types_26 ?_
  refine g_land C dL_types_29 ?_
  refine g_l2i C dL_types_30 ?_
  rw [show ((7828073 &&& (255)) : Int64).toInt32 = 105 from by decide]
  refine g_istore C dL_types_31 (Nat.le_of_ble_eq_true rfl) rfl ?_
  refine g_iload_n C dL_types_33 rfl rfl ?_
  refine g_if_eq_f C dL_types_34 56 (by decide) (by decide) ?_
  refine g_iload C dL_types_37 rfl ?_
  refine g_if_eq_f C dL_types_39 52 (by decide) (by decide) ?_
  refine g_aload_n C dL_types_42 rfl rfl ?_
  refine g_iload C dL_types_43 rfl ?_
  refine g_i2c C dL_types_45 ?_
  rw [show ((105 : Int32).toUInt32 % 65536).toInt32 = 105 from by decide]
  refine g_callK C kA_hd (k0_type E A (txA κ [119, 114]) (Nat.le_of_ble_eq_true rfl) 105 (by decide) (r := 3) (κ' := (txA κ [119, 114, 105])) (ty_e (Nat.le_of_ble_eq_true rfl))) cf_X3_type gL_types_X3_type rfl (fitD (Nat.le_of_ble_eq_true rfl) (Nat.le_of_ble_eq_true rfl)) rfl rfl (Nat.le_of_ble_eq_true rfl) dL_types_46 (fun q1 w1 hp => ?_)
  obtain ⟨rfl, rfl⟩ := hp
  refine g_if_le_f C dL_types_49 56 (by decide) (by decide) ?_
  refine g_iconst C (v := 1) dL_types_52 rfl ?_
  refine g_goto C (tgt := 57) dL_types_53 (by decide) ?_
  refine g_istore_n C dL_types_57 rfl (Nat.le_of_ble_eq_true rfl) rfl ?_
  refine g_iinc C (v := 8) dL_types_58 rfl rfl (by decide) ?_
  refine g_goto C (tgt := 17) dL_types_61 (by decide) ?_
  refine g_iload C dL_types_17 rfl ?_
  refine g_if_lt_f C dL_types_19 64 (by decide) (by decide) ?_
  refine g_lload_n C dL_types_22 rfl rfl ?_
  refine g_iload C dL_types_23 rfl ?_
  refine g_lshr C (v := 2003986804) dL_types_25 (by decide) ?_
  refine g_ldc2 C k19 dL_types_26 ?_
  refine g_land C dL_types_29 ?_
  refine g_l2i C dL_types_30 ?_
  rw [show ((2003986804 &&& (255)) : Int64).toInt32 = 116 from by decide]
  refine g_istore C dL_types_31 (Nat.le_of_ble_eq_true rfl) rfl ?_
  refine g_iload_n C dL_types_33 rfl rfl ?_
  refine g_if_eq_f C dL_types_34 56 (by decide) (by decide) ?_
  refine g_iload C dL_types_37 rfl ?_
  refine g_if_eq_f C dL_types_39 52 (by decide) (by decide) ?_
  refine g_aload_n C dL_types_42 rfl rfl ?_
  refine g_iload C dL_types_43 rfl ?_
  refine g_i2c C dL_types_45 ?_
  rw [show ((116 : Int32).toUInt32 % 65536).toInt32 = 116 from by decide]
  refine g_callK C kA_hd (k0_type E A (txA κ [119, 114, 105]) (Nat.le_of_ble_eq_true rfl) 116 (by decide) (r := 4) (κ' := (txA κ [119, 114, 105, 116])) (ty_e (Nat.le_of_ble_eq_true rfl))) cf_X3_type gL_types_X3_type rfl (fitD (Nat.le_of_ble_eq_true rfl) (Nat.le_of_ble_eq_true rfl)) rfl rfl (Nat.le_of_ble_eq_true rfl) dL_types_46 (fun q1 w1 hp => ?_)
  obtain ⟨rfl, rfl⟩ := hp
  refine g_if_le_f C dL_types_49 56 (by decide) (by decide) ?_
  refine g_iconst C (v := 1) dL_types_52 rfl ?_
  refine g_goto C (tgt := 57) dL_types_53 (by decide) ?_
  refine g_istore_n C dL_types_57 rfl (Nat.le_of_ble_eq_true rfl) rfl ?_
  refine g_iinc C (v := 0) dL_types_58 rfl rfl (by decide) ?_
  refine g_goto C (tgt := 17) dL_types_61 (by decide) ?_
  refine g_iload C dL_types_17 rfl ?_
  refine g_if_lt_f C dL_types_19 64 (by decide) (by decide) ?_
  refine g_lload_n C dL_types_22 rfl rfl ?_
  refine g_iload C dL_types_23 rfl ?_
  refine g_lshr C (v := 513020621925) dL_types_25 (by decide) ?_
  refine g_ldc2 C k19 dL_types_26 ?_
  refine g_land C dL_types_29 ?_
  refine g_l2i C dL_types_30 ?_
  rw [show ((513020621925 &&& (255)) : Int64).toInt32 = 101 from by decide]
  refine g_istore C dL_types_31 (Nat.le_of_ble_eq_true rfl) rfl ?_
  refine g_iload_n C dL_types_33 rfl rfl ?_
  refine g_if_eq_f C dL_types_34 56 (by decide) (by decide) ?_
  refine g_iload C dL_types_37 rfl ?_
  refine g_if_eq_f C dL_types_39 52 (by decide) (by decide) ?_
  refine g_aload_n C dL_types_42 rfl rfl ?_
  refine g_iload C dL_types_43 rfl ?_
  refine g_i2c C dL_types_45 ?_
  rw [show ((101 : Int32).toUInt32 % 65536).toInt32 = 101 from by decide]
  refine g_callK C kA_hd (k0_type E A (txA κ [119, 114, 105, 116]) (Nat.le_of_ble_eq_true rfl) 101 (by decide) (r := 5) (κ' := (txA κ [119, 114, 105, 116, 101])) (ty_e (Nat.le_of_ble_eq_true rfl))) cf_X3_type gL_types_X3_type rfl (fitD (Nat.le_of_ble_eq_true rfl) (Nat.le_of_ble_eq_true rfl)) rfl rfl (Nat.le_of_ble_eq_true rfl) dL_types_46 (fun q1 w1 hp => ?_)
  obtain ⟨rfl, rfl⟩ := hp
  refine g_if_le_f C dL_types_49 56 (by decide) (by decide) ?_
  refine g_iconst C (v := 1) dL_types_52 rfl ?_
  refine g_goto C (tgt := 57) dL_types_53 (by decide) ?_
  refine g_istore_n C dL_types_57 rfl (Nat.le_of_ble_eq_true rfl) rfl ?_
  refine g_iinc C (v := (-8)) dL_types_58 rfl rfl (by decide) ?_
  refine g_goto C (tgt := 17) dL_types_61 (by decide) ?_
  refine g_iload C dL_types_17 rfl ?_
  refine g_if_lt_t C dL_types_19 (tgt := 64) (by decide) (by decide) ?_
  refine g_iload_n C dL_types_64 rfl rfl ?_
  refine g_zret C R0 rfl dL_types_65 ?_
  exact ⟨rfl, rfl⟩
set_option maxHeartbeats 4000000 in
set_option maxRecDepth 100000 in
theorem c_L_types_beat (E : Ev) (A : Ad) (κ : KSt) (hn : kjn κ ≤ 80) : MI E yL_types wsL_types (rmD 2) (kA E A κ) [.ref A.1, .long 1650811252] (pA E A 1 (txA κ [98, 101, 97, 116])) := by
  have k19 : Cond.constantLong RL 19 (255) ∈ wsL_types := by decide +kernel
  refine MI.of (cc := cL_types) (nL := 6) (ty := .boolean) (own := RL) [some (.ref A.1), some (.long 1650811252), none, none, none, none] (by decide +kernel) rfl rfl (Nat.le_of_ble_eq_true rfl) rfl rfl ?_
  intro x C R0
  refine g_aload_n C dL_types_0 rfl rfl ?_
  refine g_callK C kA_hd (k0_clearText E A κ hn (r := nI (kjn κ)) (κ' := txA κ []) cl_e) cf_X3_clearText gL_types_X3_clearText rfl (fitD (Nat.le_of_ble_eq_true rfl) (Nat.le_of_ble_eq_true rfl)) rfl rfl (Nat.le_of_ble_eq_true rfl) dL_types_1 (fun q1 w1 hp => ?_)
  obtain ⟨rfl, rfl⟩ := hp
  refine g_if_lt_f C dL_types_4 11 (by decide) (cl_p hn) ?_
  refine g_iconst C (v := 1) dL_types_7 rfl ?_
  refine g_goto C (tgt := 12) dL_types_8 (by decide) ?_
  refine g_istore_n C dL_types_12 rfl (Nat.le_of_ble_eq_true rfl) rfl ?_
  refine g_bipush C (v := 56) dL_types_13 rfl ?_
  refine g_istore C dL_types_15 (Nat.le_of_ble_eq_true rfl) rfl ?_
  refine g_iload C dL_types_17 rfl ?_
  refine g_if_lt_f C dL_types_19 64 (by decide) (by decide) ?_
  refine g_lload_n C dL_types_22 rfl rfl ?_
  refine g_iload C dL_types_23 rfl ?_
  refine g_lshr C (v := 0) dL_types_25 (by decide) ?_
  refine g_ldc2 C k19 dL_types_26 ?_
  refine g_land C dL_types_29 ?_
  refine g_l2i C dL_types_30 ?_
  rw [show ((0 &&& (255)) : Int64).toInt32 = 0 from by decide]
  refine g_istore C dL_types_31 (Nat.le_of_ble_eq_true rfl) rfl ?_
  refine g_iload_n C dL_types_33 rfl rfl ?_
  refine g_if_eq_f C dL_types_34 56 (by decide) (by decide) ?_
  refine g_iload C dL_types_37 rfl ?_
  refine g_if_eq_t C dL_types_39 (tgt := 52) (by decide) (by decide) ?_
  refine g_iconst C (v := 1) dL_types_52 rfl ?_
  refine g_goto C (tgt := 57) dL_types_53 (by decide) ?_
  refine g_istore_n C dL_types_57 rfl (Nat.le_of_ble_eq_true rfl) rfl ?_
  refine g_iinc C (v := 48) dL_types_58 rfl rfl (by decide) ?_
  refine g_goto C (tgt := 17) dL_types_61 (by decide) ?_
  refine g_iload C dL_types_17 rfl ?_
  refine g_if_lt_f C dL_types_19 64 (by decide) (by decide) ?_
  refine g_lload_n C dL_types_22 rfl rfl ?_
  refine g_iload C dL_types_23 rfl ?_
  refine g_lshr C (v := 0) dL_types_25 (by decide) ?_
  refine g_ldc2 C k19 dL_types_26 ?_
  refine g_land C dL_types_29 ?_
  refine g_l2i C dL_types_30 ?_
  rw [show ((0 &&& (255)) : Int64).toInt32 = 0 from by decide]
  refine g_istore C dL_types_31 (Nat.le_of_ble_eq_true rfl) rfl ?_
  refine g_iload_n C dL_types_33 rfl rfl ?_
  refine g_if_eq_f C dL_types_34 56 (by decide) (by decide) ?_
  refine g_iload C dL_types_37 rfl ?_
  refine g_if_eq_t C dL_types_39 (tgt := 52) (by decide) (by decide) ?_
  refine g_iconst C (v := 1) dL_types_52 rfl ?_
  refine g_goto C (tgt := 57) dL_types_53 (by decide) ?_
  refine g_istore_n C dL_types_57 rfl (Nat.le_of_ble_eq_true rfl) rfl ?_
  refine g_iinc C (v := 40) dL_types_58 rfl rfl (by decide) ?_
  refine g_goto C (tgt := 17) dL_types_61 (by decide) ?_
  refine g_iload C dL_types_17 rfl ?_
  refine g_if_lt_f C dL_types_19 64 (by decide) (by decide) ?_
  refine g_lload_n C dL_types_22 rfl rfl ?_
  refine g_iload C dL_types_23 rfl ?_
  refine g_lshr C (v := 0) dL_types_25 (by decide) ?_
  refine g_ldc2 C k19 dL_types_26 ?_
  refine g_land C dL_types_29 ?_
  refine g_l2i C dL_types_30 ?_
  rw [show ((0 &&& (255)) : Int64).toInt32 = 0 from by decide]
  refine g_istore C dL_types_31 (Nat.le_of_ble_eq_true rfl) rfl ?_
  refine g_iload_n C dL_types_33 rfl rfl ?_
  refine g_if_eq_f C dL_types_34 56 (by decide) (by decide) ?_
  refine g_iload C dL_types_37 rfl ?_
  refine g_if_eq_t C dL_types_39 (tgt := 52) (by decide) (by decide) ?_
  refine g_iconst C (v := 1) dL_types_52 rfl ?_
  refine g_goto C (tgt := 57) dL_types_53 (by decide) ?_
  refine g_istore_n C dL_types_57 rfl (Nat.le_of_ble_eq_true rfl) rfl ?_
  refine g_iinc C (v := 32) dL_types_58 rfl rfl (by decide) ?_
  refine g_goto C (tgt := 17) dL_types_61 (by decide) ?_
  refine g_iload C dL_types_17 rfl ?_
  refine g_if_lt_f C dL_types_19 64 (by decide) (by decide) ?_
  refine g_lload_n C dL_types_22 rfl rfl ?_
  refine g_iload C dL_types_23 rfl ?_
  refine g_lshr C (v := 0) dL_types_25 (by decide) ?_
  refine g_ldc2 C k19 dL_types_26 ?_
  refine g_land C dL_types_29 ?_
  refine g_l2i C dL_types_30 ?_
  rw [show ((0 &&& (255)) : Int64).toInt32 = 0 from by decide]
  refine g_istore C dL_types_31 (Nat.le_of_ble_eq_true rfl) rfl ?_
  refine g_iload_n C dL_types_33 rfl rfl ?_
  refine g_if_eq_f C dL_types_34 56 (by decide) (by decide) ?_
  refine g_iload C dL_types_37 rfl ?_
  refine g_if_eq_t C dL_types_39 (tgt := 52) (by decide) (by decide) ?_
  refine g_iconst C (v := 1) dL_types_52 rfl ?_
  refine g_goto C (tgt := 57) dL_types_53 (by decide) ?_
  refine g_istore_n C dL_types_57 rfl (Nat.le_of_ble_eq_true rfl) rfl ?_
  refine g_iinc C (v := 24) dL_types_58 rfl rfl (by decide) ?_
  refine g_goto C (tgt := 17) dL_types_61 (by decide) ?_
  refine g_iload C dL_types_17 rfl ?_
  refine g_if_lt_f C dL_types_19 64 (by decide) (by decide) ?_
  refine g_lload_n C dL_types_22 rfl rfl ?_
  refine g_iload C dL_types_23 rfl ?_
  refine g_lshr C (v := 98) dL_types_25 (by decide) ?_
  refine g_ldc2 C k19 dL_types_26 ?_
  refine g_land C dL_types_29 ?_
  refine g_l2i C dL_types_30 ?_
  rw [show ((98 &&& (255)) : Int64).toInt32 = 98 from by decide]
  refine g_istore C dL_types_31 (Nat.le_of_ble_eq_true rfl) rfl ?_
  refine g_iload_n C dL_types_33 rfl rfl ?_
  refine g_if_eq_f C dL_types_34 56 (by decide) (by decide) ?_
  refine g_iload C dL_types_37 rfl ?_
  refine g_if_eq_f C dL_types_39 52 (by decide) (by decide) ?_
  refine g_aload_n C dL_types_42 rfl rfl ?_
  refine g_iload C dL_types_43 rfl ?_
  refine g_i2c C dL_types_45 ?_
  rw [show ((98 : Int32).toUInt32 % 65536).toInt32 = 98 from by decide]
  refine g_callK C kA_hd (k0_type E A (txA κ []) (Nat.le_of_ble_eq_true rfl) 98 (by decide) (r := 1) (κ' := (txA κ [98])) (ty_e (Nat.le_of_ble_eq_true rfl))) cf_X3_type gL_types_X3_type rfl (fitD (Nat.le_of_ble_eq_true rfl) (Nat.le_of_ble_eq_true rfl)) rfl rfl (Nat.le_of_ble_eq_true rfl) dL_types_46 (fun q1 w1 hp => ?_)
  obtain ⟨rfl, rfl⟩ := hp
  refine g_if_le_f C dL_types_49 56 (by decide) (by decide) ?_
  refine g_iconst C (v := 1) dL_types_52 rfl ?_
  refine g_goto C (tgt := 57) dL_types_53 (by decide) ?_
  refine g_istore_n C dL_types_57 rfl (Nat.le_of_ble_eq_true rfl) rfl ?_
  refine g_iinc C (v := 16) dL_types_58 rfl rfl (by decide) ?_
  refine g_goto C (tgt := 17) dL_types_61 (by decide) ?_
  refine g_iload C dL_types_17 rfl ?_
  refine g_if_lt_f C dL_types_19 64 (by decide) (by decide) ?_
  refine g_lload_n C dL_types_22 rfl rfl ?_
  refine g_iload C dL_types_23 rfl ?_
  refine g_lshr C (v := 25189) dL_types_25 (by decide) ?_
  refine g_ldc2 C k19 dL_types_26 ?_
  refine g_land C dL_types_29 ?_
  refine g_l2i C dL_types_30 ?_
  rw [show ((25189 &&& (255)) : Int64).toInt32 = 101 from by decide]
  refine g_istore C dL_types_31 (Nat.le_of_ble_eq_true rfl) rfl ?_
  refine g_iload_n C dL_types_33 rfl rfl ?_
  refine g_if_eq_f C dL_types_34 56 (by decide) (by decide) ?_
  refine g_iload C dL_types_37 rfl ?_
  refine g_if_eq_f C dL_types_39 52 (by decide) (by decide) ?_
  refine g_aload_n C dL_types_42 rfl rfl ?_
  refine g_iload C dL_types_43 rfl ?_
  refine g_i2c C dL_types_45 ?_
  rw [show ((101 : Int32).toUInt32 % 65536).toInt32 = 101 from by decide]
  refine g_callK C kA_hd (k0_type E A (txA κ [98]) (Nat.le_of_ble_eq_true rfl) 101 (by decide) (r := 2) (κ' := (txA κ [98, 101])) (ty_e (Nat.le_of_ble_eq_true rfl))) cf_X3_type gL_types_X3_type rfl (fitD (Nat.le_of_ble_eq_true rfl) (Nat.le_of_ble_eq_true rfl)) rfl rfl (Nat.le_of_ble_eq_true rfl) dL_types_46 (fun q1 w1 hp => ?_)
  obtain ⟨rfl, rfl⟩ := hp
  refine g_if_le_f C dL_types_49 56 (by decide) (by decide) ?_
  refine g_iconst C (v := 1) dL_types_52 rfl ?_
  refine g_goto C (tgt := 57) dL_types_53 (by decide) ?_
  refine g_istore_n C dL_types_57 rfl (Nat.le_of_ble_eq_true rfl) rfl ?_
  refine g_iinc C (v := 8) dL_types_58 rfl rfl (by decide) ?_
  refine g_goto C (tgt := 17) dL_types_61 (by decide) ?_
  refine g_iload C dL_types_17 rfl ?_
  refine g_if_lt_f C dL_types_19 64 (by decide) (by decide) ?_
  refine g_lload_n C dL_types_22 rfl rfl ?_
  refine g_iload C dL_types_23 rfl ?_
  refine g_lshr C (v := 6448481) dL_types_25 (by decide) ?_
  refine g_ldc2 C k19 dL_types_26 ?_
  refine g_land C dL_types_29 ?_
  refine g_l2i C dL_types_30 ?_
  rw [show ((6448481 &&& (255)) : Int64).toInt32 = 97 from by decide]
  refine g_istore C dL_types_31 (Nat.le_of_ble_eq_true rfl) rfl ?_
  refine g_iload_n C dL_types_33 rfl rfl ?_
  refine g_if_eq_f C dL_types_34 56 (by decide) (by decide) ?_
  refine g_iload C dL_types_37 rfl ?_
  refine g_if_eq_f C dL_types_39 52 (by decide) (by decide) ?_
  refine g_aload_n C dL_types_42 rfl rfl ?_
  refine g_iload C dL_types_43 rfl ?_
  refine g_i2c C dL_types_45 ?_
  rw [show ((97 : Int32).toUInt32 % 65536).toInt32 = 97 from by decide]
  refine g_callK C kA_hd (k0_type E A (txA κ [98, 101]) (Nat.le_of_ble_eq_true rfl) 97 (by decide) (r := 3) (κ' := (txA κ [98, 101, 97])) (ty_e (Nat.le_of_ble_eq_true rfl))) cf_X3_type gL_types_X3_type rfl (fitD (Nat.le_of_ble_eq_true rfl) (Nat.le_of_ble_eq_true rfl)) rfl rfl (Nat.le_of_ble_eq_true rfl) dL_types_46 (fun q1 w1 hp => ?_)
  obtain ⟨rfl, rfl⟩ := hp
  refine g_if_le_f C dL_types_49 56 (by decide) (by decide) ?_
  refine g_iconst C (v := 1) dL_types_52 rfl ?_
  refine g_goto C (tgt := 57) dL_types_53 (by decide) ?_
  refine g_istore_n C dL_types_57 rfl (Nat.le_of_ble_eq_true rfl) rfl ?_
  refine g_iinc C (v := 0) dL_types_58 rfl rfl (by decide) ?_
  refine g_goto C (tgt := 17) dL_types_61 (by decide) ?_
  refine g_iload C dL_types_17 rfl ?_
  refine g_if_lt_f C dL_types_19 64 (by decide) (by decide) ?_
  refine g_lload_n C dL_types_22 rfl rfl ?_
  refine g_iload C dL_types_23 rfl ?_
  refine g_lshr C (v := 1650811252) dL_types_25 (by decide) ?_
  refine g_ldc2 C k19 dL_types_26 ?_
  refine g_land C dL_types_29 ?_
  refine g_l2i C dL_types_30 ?_
  rw [show ((1650811252 &&& (255)) : Int64).toInt32 = 116 from by decide]
  refine g_istore C dL_types_31 (Nat.le_of_ble_eq_true rfl) rfl ?_
  refine g_iload_n C dL_types_33 rfl rfl ?_
  refine g_if_eq_f C dL_types_34 56 (by decide) (by decide) ?_
  refine g_iload C dL_types_37 rfl ?_
  refine g_if_eq_f C dL_types_39 52 (by decide) (by decide) ?_
  refine g_aload_n C dL_types_42 rfl rfl ?_
  refine g_iload C dL_types_43 rfl ?_
  refine g_i2c C dL_types_45 ?_
  rw [show ((116 : Int32).toUInt32 % 65536).toInt32 = 116 from by decide]
  refine g_callK C kA_hd (k0_type E A (txA κ [98, 101, 97]) (Nat.le_of_ble_eq_true rfl) 116 (by decide) (r := 4) (κ' := (txA κ [98, 101, 97, 116])) (ty_e (Nat.le_of_ble_eq_true rfl))) cf_X3_type gL_types_X3_type rfl (fitD (Nat.le_of_ble_eq_true rfl) (Nat.le_of_ble_eq_true rfl)) rfl rfl (Nat.le_of_ble_eq_true rfl) dL_types_46 (fun q1 w1 hp => ?_)
  obtain ⟨rfl, rfl⟩ := hp
  refine g_if_le_f C dL_types_49 56 (by decide) (by decide) ?_
  refine g_iconst C (v := 1) dL_types_52 rfl ?_
  refine g_goto C (tgt := 57) dL_types_53 (by decide) ?_
  refine g_istore_n C dL_types_57 rfl (Nat.le_of_ble_eq_true rfl) rfl ?_
  refine g_iinc C (v := (-8)) dL_types_58 rfl rfl (by decide) ?_
  refine g_goto C (tgt := 17) dL_types_61 (by decide) ?_
  refine g_iload C dL_types_17 rfl ?_
  refine g_if_lt_t C dL_types_19 (tgt := 64) (by decide) (by decide) ?_
  refine g_iload_n C dL_types_64 rfl rfl ?_
  refine g_zret C R0 rfl dL_types_65 ?_
  exact ⟨rfl, rfl⟩
set_option maxHeartbeats 4000000 in
set_option maxRecDepth 100000 in
theorem c_L_types_wind (E : Ev) (A : Ad) (κ : KSt) (hn : kjn κ ≤ 80) : MI E yL_types wsL_types (rmD 2) (kA E A κ) [.ref A.1, .long 2003398244] (pA E A 1 (txA κ [119, 105, 110, 100])) := by
  have k19 : Cond.constantLong RL 19 (255) ∈ wsL_types := by decide +kernel
  refine MI.of (cc := cL_types) (nL := 6) (ty := .boolean) (own := RL) [some (.ref A.1), some (.long 2003398244), none, none, none, none] (by decide +kernel) rfl rfl (Nat.le_of_ble_eq_true rfl) rfl rfl ?_
  intro x C R0
  refine g_aload_n C dL_types_0 rfl rfl ?_
  refine g_callK C kA_hd (k0_clearText E A κ hn (r := nI (kjn κ)) (κ' := txA κ []) cl_e) cf_X3_clearText gL_types_X3_clearText rfl (fitD (Nat.le_of_ble_eq_true rfl) (Nat.le_of_ble_eq_true rfl)) rfl rfl (Nat.le_of_ble_eq_true rfl) dL_types_1 (fun q1 w1 hp => ?_)
  obtain ⟨rfl, rfl⟩ := hp
  refine g_if_lt_f C dL_types_4 11 (by decide) (cl_p hn) ?_
  refine g_iconst C (v := 1) dL_types_7 rfl ?_
  refine g_goto C (tgt := 12) dL_types_8 (by decide) ?_
  refine g_istore_n C dL_types_12 rfl (Nat.le_of_ble_eq_true rfl) rfl ?_
  refine g_bipush C (v := 56) dL_types_13 rfl ?_
  refine g_istore C dL_types_15 (Nat.le_of_ble_eq_true rfl) rfl ?_
  refine g_iload C dL_types_17 rfl ?_
  refine g_if_lt_f C dL_types_19 64 (by decide) (by decide) ?_
  refine g_lload_n C dL_types_22 rfl rfl ?_
  refine g_iload C dL_types_23 rfl ?_
  refine g_lshr C (v := 0) dL_types_25 (by decide) ?_
  refine g_ldc2 C k19 dL_types_26 ?_
  refine g_land C dL_types_29 ?_
  refine g_l2i C dL_types_30 ?_
  rw [show ((0 &&& (255)) : Int64).toInt32 = 0 from by decide]
  refine g_istore C dL_types_31 (Nat.le_of_ble_eq_true rfl) rfl ?_
  refine g_iload_n C dL_types_33 rfl rfl ?_
  refine g_if_eq_f C dL_types_34 56 (by decide) (by decide) ?_
  refine g_iload C dL_types_37 rfl ?_
  refine g_if_eq_t C dL_types_39 (tgt := 52) (by decide) (by decide) ?_
  refine g_iconst C (v := 1) dL_types_52 rfl ?_
  refine g_goto C (tgt := 57) dL_types_53 (by decide) ?_
  refine g_istore_n C dL_types_57 rfl (Nat.le_of_ble_eq_true rfl) rfl ?_
  refine g_iinc C (v := 48) dL_types_58 rfl rfl (by decide) ?_
  refine g_goto C (tgt := 17) dL_types_61 (by decide) ?_
  refine g_iload C dL_types_17 rfl ?_
  refine g_if_lt_f C dL_types_19 64 (by decide) (by decide) ?_
  refine g_lload_n C dL_types_22 rfl rfl ?_
  refine g_iload C dL_types_23 rfl ?_
  refine g_lshr C (v := 0) dL_types_25 (by decide) ?_
  refine g_ldc2 C k19 dL_types_26 ?_
  refine g_land C dL_types_29 ?_
  refine g_l2i C dL_types_30 ?_
  rw [show ((0 &&& (255)) : Int64).toInt32 = 0 from by decide]
  refine g_istore C dL_types_31 (Nat.le_of_ble_eq_true rfl) rfl ?_
  refine g_iload_n C dL_types_33 rfl rfl ?_
  refine g_if_eq_f C dL_types_34 56 (by decide) (by decide) ?_
  refine g_iload C dL_types_37 rfl ?_
  refine g_if_eq_t C dL_types_39 (tgt := 52) (by decide) (by decide) ?_
  refine g_iconst C (v := 1) dL_types_52 rfl ?_
  refine g_goto C (tgt := 57) dL_types_53 (by decide) ?_
  refine g_istore_n C dL_types_57 rfl (Nat.le_of_ble_eq_true rfl) rfl ?_
  refine g_iinc C (v := 40) dL_types_58 rfl rfl (by decide) ?_
  refine g_goto C (tgt := 17) dL_types_61 (by decide) ?_
  refine g_iload C dL_types_17 rfl ?_
  refine g_if_lt_f C dL_types_19 64 (by decide) (by decide) ?_
  refine g_lload_n C dL_types_22 rfl rfl ?_
  refine g_iload C dL_types_23 rfl ?_
  refine g_lshr C (v := 0) dL_types_25 (by decide) ?_
  refine g_ldc2 C k19 dL_types_26 ?_
  refine g_land C dL_types_29 ?_
  refine g_l2i C dL_types_30 ?_
  rw [show ((0 &&& (255)) : Int64).toInt32 = 0 from by decide]
  refine g_istore C dL_types_31 (Nat.le_of_ble_eq_true rfl) rfl ?_
  refine g_iload_n C dL_types_33 rfl rfl ?_
  refine g_if_eq_f C dL_types_34 56 (by decide) (by decide) ?_
  refine g_iload C dL_types_37 rfl ?_
  refine g_if_eq_t C dL_types_39 (tgt := 52) (by decide) (by decide) ?_
  refine g_iconst C (v := 1) dL_types_52 rfl ?_
  refine g_goto C (tgt := 57) dL_types_53 (by decide) ?_
  refine g_istore_n C dL_types_57 rfl (Nat.le_of_ble_eq_true rfl) rfl ?_
  refine g_iinc C (v := 32) dL_types_58 rfl rfl (by decide) ?_
  refine g_goto C (tgt := 17) dL_types_61 (by decide) ?_
  refine g_iload C dL_types_17 rfl ?_
  refine g_if_lt_f C dL_types_19 64 (by decide) (by decide) ?_
  refine g_lload_n C dL_types_22 rfl rfl ?_
  refine g_iload C dL_types_23 rfl ?_
  refine g_lshr C (v := 0) dL_types_25 (by decide) ?_
  refine g_ldc2 C k19 dL_types_26 ?_
  refine g_land C dL_types_29 ?_
  refine g_l2i C dL_types_30 ?_
  rw [show ((0 &&& (255)) : Int64).toInt32 = 0 from by decide]
  refine g_istore C dL_types_31 (Nat.le_of_ble_eq_true rfl) rfl ?_
  refine g_iload_n C dL_types_33 rfl rfl ?_
  refine g_if_eq_f C dL_types_34 56 (by decide) (by decide) ?_
  refine g_iload C dL_types_37 rfl ?_
  refine g_if_eq_t C dL_types_39 (tgt := 52) (by decide) (by decide) ?_
  refine g_iconst C (v := 1) dL_types_52 rfl ?_
  refine g_goto C (tgt := 57) dL_types_53 (by decide) ?_
  refine g_istore_n C dL_types_57 rfl (Nat.le_of_ble_eq_true rfl) rfl ?_
  refine g_iinc C (v := 24) dL_types_58 rfl rfl (by decide) ?_
  refine g_goto C (tgt := 17) dL_types_61 (by decide) ?_
  refine g_iload C dL_types_17 rfl ?_
  refine g_if_lt_f C dL_types_19 64 (by decide) (by decide) ?_
  refine g_lload_n C dL_types_22 rfl rfl ?_
  refine g_iload C dL_types_23 rfl ?_
  refine g_lshr C (v := 119) dL_types_25 (by decide) ?_
  refine g_ldc2 C k19 dL_types_26 ?_
  refine g_land C dL_types_29 ?_
  refine g_l2i C dL_types_30 ?_
  rw [show ((119 &&& (255)) : Int64).toInt32 = 119 from by decide]
  refine g_istore C dL_types_31 (Nat.le_of_ble_eq_true rfl) rfl ?_
  refine g_iload_n C dL_types_33 rfl rfl ?_
  refine g_if_eq_f C dL_types_34 56 (by decide) (by decide) ?_
  refine g_iload C dL_types_37 rfl ?_
  refine g_if_eq_f C dL_types_39 52 (by decide) (by decide) ?_
  refine g_aload_n C dL_types_42 rfl rfl ?_
  refine g_iload C dL_types_43 rfl ?_
  refine g_i2c C dL_types_45 ?_
  rw [show ((119 : Int32).toUInt32 % 65536).toInt32 = 119 from by decide]
  refine g_callK C kA_hd (k0_type E A (txA κ []) (Nat.le_of_ble_eq_true rfl) 119 (by decide) (r := 1) (κ' := (txA κ [119])) (ty_e (Nat.le_of_ble_eq_true rfl))) cf_X3_type gL_types_X3_type rfl (fitD (Nat.le_of_ble_eq_true rfl) (Nat.le_of_ble_eq_true rfl)) rfl rfl (Nat.le_of_ble_eq_true rfl) dL_types_46 (fun q1 w1 hp => ?_)
  obtain ⟨rfl, rfl⟩ := hp
  refine g_if_le_f C dL_types_49 56 (by decide) (by decide) ?_
  refine g_iconst C (v := 1) dL_types_52 rfl ?_
  refine g_goto C (tgt := 57) dL_types_53 (by decide) ?_
  refine g_istore_n C dL_types_57 rfl (Nat.le_of_ble_eq_true rfl) rfl ?_
  refine g_iinc C (v := 16) dL_types_58 rfl rfl (by decide) ?_
  refine g_goto C (tgt := 17) dL_types_61 (by decide) ?_
  refine g_iload C dL_types_17 rfl ?_
  refine g_if_lt_f C dL_types_19 64 (by decide) (by decide) ?_
  refine g_lload_n C dL_types_22 rfl rfl ?_
  refine g_iload C dL_types_23 rfl ?_
  refine g_lshr C (v := 30569) dL_types_25 (by decide) ?_
  refine g_ldc2 C k19 dL_types_26 ?_
  refine g_land C dL_types_29 ?_
  refine g_l2i C dL_types_30 ?_
  rw [show ((30569 &&& (255)) : Int64).toInt32 = 105 from by decide]
  refine g_istore C dL_types_31 (Nat.le_of_ble_eq_true rfl) rfl ?_
  refine g_iload_n C dL_types_33 rfl rfl ?_
  refine g_if_eq_f C dL_types_34 56 (by decide) (by decide) ?_
  refine g_iload C dL_types_37 rfl ?_
  refine g_if_eq_f C dL_types_39 52 (by decide) (by decide) ?_
  refine g_aload_n C dL_types_42 rfl rfl ?_
  refine g_iload C dL_types_43 rfl ?_
  refine g_i2c C dL_types_45 ?_
  rw [show ((105 : Int32).toUInt32 % 65536).toInt32 = 105 from by decide]
  refine g_callK C kA_hd (k0_type E A (txA κ [119]) (Nat.le_of_ble_eq_true rfl) 105 (by decide) (r := 2) (κ' := (txA κ [119, 105])) (ty_e (Nat.le_of_ble_eq_true rfl))) cf_X3_type gL_types_X3_type rfl (fitD (Nat.le_of_ble_eq_true rfl) (Nat.le_of_ble_eq_true rfl)) rfl rfl (Nat.le_of_ble_eq_true rfl) dL_types_46 (fun q1 w1 hp => ?_)
  obtain ⟨rfl, rfl⟩ := hp
  refine g_if_le_f C dL_types_49 56 (by decide) (by decide) ?_
  refine g_iconst C (v := 1) dL_types_52 rfl ?_
  refine g_goto C (tgt := 57) dL_types_53 (by decide) ?_
  refine g_istore_n C dL_types_57 rfl (Nat.le_of_ble_eq_true rfl) rfl ?_
  refine g_iinc C (v := 8) dL_types_58 rfl rfl (by decide) ?_
  refine g_goto C (tgt := 17) dL_types_61 (by decide) ?_
  refine g_iload C dL_types_17 rfl ?_
  refine g_if_lt_f C dL_types_19 64 (by decide) (by decide) ?_
  refine g_lload_n C dL_types_22 rfl rfl ?_
  refine g_iload C dL_types_23 rfl ?_
  refine g_lshr C (v := 7825774) dL_types_25 (by decide) ?_
  refine g_ldc2 C k19 dL_types_26 ?_
  refine g_land C dL_types_29 ?_
  refine g_l2i C dL_types_30 ?_
  rw [show ((7825774 &&& (255)) : Int64).toInt32 = 110 from by decide]
  refine g_istore C dL_types_31 (Nat.le_of_ble_eq_true rfl) rfl ?_
  refine g_iload_n C dL_types_33 rfl rfl ?_
  refine g_if_eq_f C dL_types_34 56 (by decide) (by decide) ?_
  refine g_iload C dL_types_37 rfl ?_
  refine g_if_eq_f C dL_types_39 52 (by decide) (by decide) ?_
  refine g_aload_n C dL_types_42 rfl rfl ?_
  refine g_iload C dL_types_43 rfl ?_
  refine g_i2c C dL_types_45 ?_
  rw [show ((110 : Int32).toUInt32 % 65536).toInt32 = 110 from by decide]
  refine g_callK C kA_hd (k0_type E A (txA κ [119, 105]) (Nat.le_of_ble_eq_true rfl) 110 (by decide) (r := 3) (κ' := (txA κ [119, 105, 110])) (ty_e (Nat.le_of_ble_eq_true rfl))) cf_X3_type gL_types_X3_type rfl (fitD (Nat.le_of_ble_eq_true rfl) (Nat.le_of_ble_eq_true rfl)) rfl rfl (Nat.le_of_ble_eq_true rfl) dL_types_46 (fun q1 w1 hp => ?_)
  obtain ⟨rfl, rfl⟩ := hp
  refine g_if_le_f C dL_types_49 56 (by decide) (by decide) ?_
  refine g_iconst C (v := 1) dL_types_52 rfl ?_
  refine g_goto C (tgt := 57) dL_types_53 (by decide) ?_
  refine g_istore_n C dL_types_57 rfl (Nat.le_of_ble_eq_true rfl) rfl ?_
  refine g_iinc C (v := 0) dL_types_58 rfl rfl (by decide) ?_
  refine g_goto C (tgt := 17) dL_types_61 (by decide) ?_
  refine g_iload C dL_types_17 rfl ?_
  refine g_if_lt_f C dL_types_19 64 (by decide) (by decide) ?_
  refine g_lload_n C dL_types_22 rfl rfl ?_
  refine g_iload C dL_types_23 rfl ?_
  refine g_lshr C (v := 2003398244) dL_types_25 (by decide) ?_
  refine g_ldc2 C k19 dL_types_26 ?_
  refine g_land C dL_types_29 ?_
  refine g_l2i C dL_types_30 ?_
  rw [show ((2003398244 &&& (255)) : Int64).toInt32 = 100 from by decide]
  refine g_istore C dL_types_31 (Nat.le_of_ble_eq_true rfl) rfl ?_
  refine g_iload_n C dL_types_33 rfl rfl ?_
  refine g_if_eq_f C dL_types_34 56 (by decide) (by decide) ?_
  refine g_iload C dL_types_37 rfl ?_
  refine g_if_eq_f C dL_types_39 52 (by decide) (by decide) ?_
  refine g_aload_n C dL_types_42 rfl rfl ?_
  refine g_iload C dL_types_43 rfl ?_
  refine g_i2c C dL_types_45 ?_
  rw [show ((100 : Int32).toUInt32 % 65536).toInt32 = 100 from by decide]
  refine g_callK C kA_hd (k0_type E A (txA κ [119, 105, 110]) (Nat.le_of_ble_eq_true rfl) 100 (by decide) (r := 4) (κ' := (txA κ [119, 105, 110, 100])) (ty_e (Nat.le_of_ble_eq_true rfl))) cf_X3_type gL_types_X3_type rfl (fitD (Nat.le_of_ble_eq_true rfl) (Nat.le_of_ble_eq_true rfl)) rfl rfl (Nat.le_of_ble_eq_true rfl) dL_types_46 (fun q1 w1 hp => ?_)
  obtain ⟨rfl, rfl⟩ := hp
  refine g_if_le_f C dL_types_49 56 (by decide) (by decide) ?_
  refine g_iconst C (v := 1) dL_types_52 rfl ?_
  refine g_goto C (tgt := 57) dL_types_53 (by decide) ?_
  refine g_istore_n C dL_types_57 rfl (Nat.le_of_ble_eq_true rfl) rfl ?_
  refine g_iinc C (v := (-8)) dL_types_58 rfl rfl (by decide) ?_
  refine g_goto C (tgt := 17) dL_types_61 (by decide) ?_
  refine g_iload C dL_types_17 rfl ?_
  refine g_if_lt_t C dL_types_19 (tgt := 64) (by decide) (by decide) ?_
  refine g_iload_n C dL_types_64 rfl rfl ?_
  refine g_zret C R0 rfl dL_types_65 ?_
  exact ⟨rfl, rfl⟩
