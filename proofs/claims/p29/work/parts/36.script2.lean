set_option maxHeartbeats 4000000 in
set_option maxRecDepth 100000 in
theorem c_X1_wordOf_0 (E : Ev) (W : va_W) : MR E yX1_wordOf wsX1_wordOf (rmD 0) W [.int 0] (fun q w => q = strA E 0 ∧ w = W) := by
  refine MR.of (cc := cX1_wordOf) (nL := 1) (ty := .object "java/lang/String") (own := RX1) [some (.int 0)] (by decide +kernel) rfl rfl (Nat.le_of_ble_eq_true rfl) rfl rfl ?_
  intro x C R0
  refine g_iload_n C dX1_wordOf_0 rfl rfl ?_
  have he_1 : (0 : Int32).toInt = 0 := rfl
  refine g_tableIn C (tgt := 32) dX1_wordOf_1 (by rw [he_1]; decide) (by rw [he_1]; decide) (by rw [he_1]; rfl) (by decide) ?_
  refine g_ldcS C (i := 0) rfl dX1_wordOf_32 ?_
  refine g_aret C R0 (Or.inl ⟨_, rfl⟩) dX1_wordOf_34 ?_
  exact ⟨rfl, rfl⟩
set_option maxHeartbeats 4000000 in
set_option maxRecDepth 100000 in
theorem c_X1_wordOf_1 (E : Ev) (W : va_W) : MR E yX1_wordOf wsX1_wordOf (rmD 0) W [.int 1] (fun q w => q = strA E 1 ∧ w = W) := by
  refine MR.of (cc := cX1_wordOf) (nL := 1) (ty := .object "java/lang/String") (own := RX1) [some (.int 1)] (by decide +kernel) rfl rfl (Nat.le_of_ble_eq_true rfl) rfl rfl ?_
  intro x C R0
  refine g_iload_n C dX1_wordOf_0 rfl rfl ?_
  have he_1 : (1 : Int32).toInt = 1 := rfl
  refine g_tableIn C (tgt := 35) dX1_wordOf_1 (by rw [he_1]; decide) (by rw [he_1]; decide) (by rw [he_1]; rfl) (by decide) ?_
  refine g_ldcS C (i := 1) rfl dX1_wordOf_35 ?_
  refine g_aret C R0 (Or.inl ⟨_, rfl⟩) dX1_wordOf_37 ?_
  exact ⟨rfl, rfl⟩
set_option maxHeartbeats 4000000 in
set_option maxRecDepth 100000 in
theorem c_X1_wordOf_2 (E : Ev) (W : va_W) : MR E yX1_wordOf wsX1_wordOf (rmD 0) W [.int 2] (fun q w => q = strA E 2 ∧ w = W) := by
  refine MR.of (cc := cX1_wordOf) (nL := 1) (ty := .object "java/lang/String") (own := RX1) [some (.int 2)] (by decide +kernel) rfl rfl (Nat.le_of_ble_eq_true rfl) rfl rfl ?_
  intro x C R0
  refine g_iload_n C dX1_wordOf_0 rfl rfl ?_
  have he_1 : (2 : Int32).toInt = 2 := rfl
  refine g_tableIn C (tgt := 38) dX1_wordOf_1 (by rw [he_1]; decide) (by rw [he_1]; decide) (by rw [he_1]; rfl) (by decide) ?_
  refine g_ldcS C (i := 2) rfl dX1_wordOf_38 ?_
  refine g_aret C R0 (Or.inl ⟨_, rfl⟩) dX1_wordOf_40 ?_
  exact ⟨rfl, rfl⟩
set_option maxHeartbeats 4000000 in
set_option maxRecDepth 100000 in
theorem c_X1_wordOf_3 (E : Ev) (W : va_W) : MR E yX1_wordOf wsX1_wordOf (rmD 0) W [.int 3] (fun q w => q = strA E 3 ∧ w = W) := by
  refine MR.of (cc := cX1_wordOf) (nL := 1) (ty := .object "java/lang/String") (own := RX1) [some (.int 3)] (by decide +kernel) rfl rfl (Nat.le_of_ble_eq_true rfl) rfl rfl ?_
  intro x C R0
  refine g_iload_n C dX1_wordOf_0 rfl rfl ?_
  have he_1 : (3 : Int32).toInt = 3 := rfl
  refine g_tableIn C (tgt := 41) dX1_wordOf_1 (by rw [he_1]; decide) (by rw [he_1]; decide) (by rw [he_1]; rfl) (by decide) ?_
  refine g_ldcS C (i := 3) rfl dX1_wordOf_41 ?_
  refine g_aret C R0 (Or.inl ⟨_, rfl⟩) dX1_wordOf_43 ?_
  exact ⟨rfl, rfl⟩
set_option maxHeartbeats 4000000 in
set_option maxRecDepth 100000 in
theorem c_X1_wordOf_4 (E : Ev) (W : va_W) : MR E yX1_wordOf wsX1_wordOf (rmD 0) W [.int 4] (fun q w => q = strA E 4 ∧ w = W) := by
  refine MR.of (cc := cX1_wordOf) (nL := 1) (ty := .object "java/lang/String") (own := RX1) [some (.int 4)] (by decide +kernel) rfl rfl (Nat.le_of_ble_eq_true rfl) rfl rfl ?_
  intro x C R0
  refine g_iload_n C dX1_wordOf_0 rfl rfl ?_
  refine g_tableOut C (tgt := 44) dX1_wordOf_1 (by decide) (by decide) ?_
  refine g_ldcS C (i := 4) rfl dX1_wordOf_44 ?_
  refine g_aret C R0 (Or.inl ⟨_, rfl⟩) dX1_wordOf_46 ?_
  exact ⟨rfl, rfl⟩
theorem c_X1_wordOf (E : Ev) (W : va_W) (i : Nat) (hi : i < 5) : MR E yX1_wordOf wsX1_wordOf (rmD 0) W [.int (nI i)] (fun q w => q = strA E i ∧ w = W) := by
  have h9 : i = 0 ∨ i = 1 ∨ i = 2 ∨ i = 3 ∨ i = 4 := by omega
  rcases h9 with rfl | rfl | rfl | rfl | rfl
  · exact c_X1_wordOf_0 E W
  · exact c_X1_wordOf_1 E W
  · exact c_X1_wordOf_2 E W
  · exact c_X1_wordOf_3 E W
  · exact c_X1_wordOf_4 E W
set_option maxHeartbeats 4000000 in
set_option maxRecDepth 100000 in
theorem c_X1_charactersAlike (E : Ev) (s : Nat) (a : Nat → Nat) (sg : F) (n : Nat) (hn : n ≤ 80) (vs fs ss : F) (nc p : Nat) (vb nu : Int32) (hp : p ≤ n) (i : Nat) (hi : i < 5) : MI E yX1_charactersAlike wsX1_charactersAlike (rmD 4) (scrW E s a sg (n) (vs, fs, ss, nc, p, vb, nu)) [.ref s, .ref (strA E i)] (pE (nI (alk sg n p i)) (scrW E s a sg (n) (vs, fs, ss, nc, p, vb, nu))) := by
  have inX1 : ∀ w ∈ u_ws RX1 TX1 9, w ∈ wsX1_charactersAlike := by decide +kernel
  have f32 : Cond.fieldLink RX1 32 (TX1 6).1 (TX1 6).2.1 (TX1 6).2.2.1 ∈ wsX1_charactersAlike := by decide +kernel
  refine MI.of (cc := cX1_charactersAlike) (nL := 3) (ty := .int) (own := RX1) [some (.ref s), some (.ref (strA E i)), none] (by decide +kernel) rfl rfl (Nat.le_of_ble_eq_true rfl) rfl rfl ?_
  intro x C R0
  have hl5 := lnS_5 i hi
  have lp : ∀ (f j : Nat), j + f = lnS i → p + j ≤ n → alF sg n p i f j = alk sg n p i → G E x (scrW E s a sg (n) (vs, fs, ss, nc, p, vb, nu)) [some (.ref s), some (.ref (strA E i)), some (.int (nI j))] 2 [] := by
    intro f
    induction f with
    | zero =>
      intro j hj hq hv
      refine g_iload_n C dX1_charactersAlike_2 rfl rfl ?_
      refine g_aload_n C dX1_charactersAlike_3 rfl rfl ?_
      refine g_calliVT C hi (c_J0_length_8abf5 E (scrW E s a sg (n) (vs, fs, ss, nc, p, vb, nu)) i hi) cf_J0_length gX1_charactersAlike_J0_length_8abf5 rfl (fitD (Nat.le_of_ble_eq_true rfl) (Nat.le_of_ble_eq_true rfl)) rfl rfl (Nat.le_of_ble_eq_true rfl) dX1_charactersAlike_4 (fun r1 w1 hp => ?_)
      obtain ⟨rfl, rfl⟩ := hp
      refine g_icmp_ge C (tgt := 34) dX1_charactersAlike_7 (by decide) (fun hc_7 => ?_) (fun hc_7 => ?_)
      · have hn_7 : ((lnS i)) ≤ (j) := (nI_leI (a := ((lnS i))) (b := (j)) (by omega) (by omega)).mp hc_7
        refine g_iload_n C dX1_charactersAlike_34 rfl rfl ?_
        refine g_iret C R0 dX1_charactersAlike_35 ?_
        exact pE_mk (by rw [← hv, alF]) rfl
      · have hn_7 : ¬ ((lnS i)) ≤ (j) := fun z => hc_7 ((nI_leI (a := ((lnS i))) (b := (j)) (by omega) (by omega)).mpr z)
        exact absurd hn_7 (by omega)
    | succ f ih =>
      intro j hj hq hv
      refine g_iload_n C dX1_charactersAlike_2 rfl rfl ?_
      refine g_aload_n C dX1_charactersAlike_3 rfl rfl ?_
      refine g_calliVT C hi (c_J0_length_8abf5 E (scrW E s a sg (n) (vs, fs, ss, nc, p, vb, nu)) i hi) cf_J0_length gX1_charactersAlike_J0_length_8abf5 rfl (fitD (Nat.le_of_ble_eq_true rfl) (Nat.le_of_ble_eq_true rfl)) rfl rfl (Nat.le_of_ble_eq_true rfl) dX1_charactersAlike_4 (fun r1 w1 hp => ?_)
      obtain ⟨rfl, rfl⟩ := hp
      refine g_icmp_ge C (tgt := 34) dX1_charactersAlike_7 (by decide) (fun hc_7 => ?_) (fun hc_7 => ?_)
      · have hn_7 : ((lnS i)) ≤ (j) := (nI_leI (a := ((lnS i))) (b := (j)) (by omega) (by omega)).mp hc_7
        exact absurd hn_7 (by omega)
      · have hn_7 : ¬ ((lnS i)) ≤ (j) := fun z => hc_7 ((nI_leI (a := ((lnS i))) (b := (j)) (by omega) (by omega)).mpr z)
        refine g_aload_n C dX1_charactersAlike_10 rfl rfl ?_
        refine g_aload_n C dX1_charactersAlike_11 rfl rfl ?_
        refine g_get C inX1 0 rfl rfl 6 (by decide) f32 rfl dX1_charactersAlike_12 ?_
        refine g_iload_n C dX1_charactersAlike_15 rfl rfl ?_
        refine g_iadd C dX1_charactersAlike_16 ?_
        rw [show ((nI (p)) + (nI j)) = nI (((p) + j)) from nI_add ((p)) (j)]
        refine g_calliVF C 0 rfl rfl (c_X1_signAt E s a sg (n) hn vs fs ss nc p vb nu (((p) + j)) (by omega)) cf_X1_signAt gX1_charactersAlike_X1_signAt rfl (fitD (Nat.le_of_ble_eq_true rfl) (Nat.le_of_ble_eq_true rfl)) rfl rfl (Nat.le_of_ble_eq_true rfl) dX1_charactersAlike_17 (fun r1 w1 hp => ?_)
        obtain ⟨rfl, rfl⟩ := hp
        refine g_aload_n C dX1_charactersAlike_20 rfl rfl ?_
        refine g_iload_n C dX1_charactersAlike_21 rfl rfl ?_
        refine g_calliVT C hi (c_J0_charAt_5068e E (scrW E s a sg (n) (vs, fs, ss, nc, p, vb, nu)) i j hi (by omega)) cf_J0_charAt gX1_charactersAlike_J0_charAt_5068e rfl (fitD (Nat.le_of_ble_eq_true rfl) (Nat.le_of_ble_eq_true rfl)) rfl rfl (Nat.le_of_ble_eq_true rfl) dX1_charactersAlike_22 (fun r1 w1 hp => ?_)
        obtain ⟨rfl, rfl⟩ := hp
        refine g_icmp_ne C (tgt := 34) dX1_charactersAlike_25 (by decide) (fun hc_25 => ?_) (fun hc_25 => ?_)
        · refine g_iload_n C dX1_charactersAlike_34 rfl rfl ?_
          refine g_iret C R0 dX1_charactersAlike_35 ?_
          exact pE_mk (by rw [← hv, alF, if_neg hc_25]) rfl
        · refine g_iinc C (v := (nI (j + 1))) dX1_charactersAlike_28 rfl rfl (nI_add (j) 1) ?_
          refine g_goto C (tgt := 2) dX1_charactersAlike_31 (by decide) ?_
          rw [alF, if_pos hc_25] at hv
          exact ih (j + 1) (by omega) (by have := sgA_lt hc_25 (chS_ne i hi j (by omega)); omega) hv
  refine g_iconst C (v := 0) dX1_charactersAlike_0 rfl ?_
  refine g_istore_n C dX1_charactersAlike_1 rfl (Nat.le_of_ble_eq_true rfl) rfl ?_
  exact lp (lnS i) 0 (by omega) (by omega) rfl
theorem maxN {a b : Nat} (ha : a < 2 ^ 31) (hb : b < 2 ^ 31) : (if nI a < nI b then nI b else nI a) = nI (max a b) := by
  by_cases h : a < b
  · rw [if_pos ((nI_ltI ha hb).mpr h), Nat.max_eq_right (by omega)]
  · rw [if_neg (fun z => h ((nI_ltI ha hb).mp z)), Nat.max_eq_left (by omega)]
set_option maxHeartbeats 4000000 in
set_option maxRecDepth 100000 in
theorem c_X1_scanWord (E : Ev) (s : Nat) (a : Nat → Nat) (sg : F) (n : Nat) (hn : n ≤ 80) (vs fs ss : F) (nc p : Nat) (vb nu : Int32) (hp : p ≤ n) : MI E yX1_scanWord wsX1_scanWord (rmD 5) (scrW E s a sg (n) (vs, fs, ss, nc, p, vb, nu)) [.ref s] (pT (swR sg n p vb).1 (scrW E s a sg (n) (vs, fs, ss, nc, (swR sg n p vb).2.1, (swR sg n p vb).2.2, nu))) := by
  have inX1 : ∀ w ∈ u_ws RX1 TX1 9, w ∈ wsX1_scanWord := by decide +kernel
  have f32 : Cond.fieldLink RX1 32 (TX1 6).1 (TX1 6).2.1 (TX1 6).2.2.1 ∈ wsX1_scanWord := by decide +kernel
  have m1_max : Cond.methodLink RX1 79 Lib.Math.max.name ∈ wsX1_scanWord := by decide +kernel
  have m2_max : Cond.static Lib.Math.max.name ∈ wsX1_scanWord := by decide +kernel
  have m3_max : Cond.initialized "java/lang/Math" ∈ wsX1_scanWord := by decide +kernel
  have m4_max : Cond.code Lib.Math.max.name Lib.Math.max.code 2 (some .int) ∈ wsX1_scanWord := by decide +kernel
  have f35 : Cond.fieldLink RX1 35 (TX1 7).1 (TX1 7).2.1 (TX1 7).2.2.1 ∈ wsX1_scanWord := by decide +kernel
  refine MI.of (cc := cX1_scanWord) (nL := 5) (ty := .boolean) (own := RX1) [some (.ref s), none, none, none, none] (by decide +kernel) rfl rfl (Nat.le_of_ble_eq_true rfl) rfl rfl ?_
  intro x C R0
  have lp : ∀ (f i lo : Nat) (x3 x4 : Option Value), f + i = 5 → p + lo ≤ n → lo ≤ 5 → swQ sg n p vb f i lo = (swR sg n p vb) → G E x (scrW E s a sg (n) (vs, fs, ss, nc, p, vb, nu)) [some (.ref s), some (.int (nI lo)), some (.int (nI i)), x3, x4] 4 [] := by
    intro f
    induction f with
    | zero =>
      intro i lo x3 x4 hf hq hlo hv
      refine g_iload_n C dX1_scanWord_4 rfl rfl ?_
      refine g_iconst C (v := 5) dX1_scanWord_5 rfl ?_
      refine g_icmp_ge C (tgt := 61) dX1_scanWord_6 (by decide) (fun hc_6 => ?_) (fun hc_6 => ?_)
      · have hn_6 : (5) ≤ (i) := (nI_leI (a := (5)) (b := (i)) (by omega) (by omega)).mp hc_6
        refine g_aload_n C dX1_scanWord_61 rfl rfl ?_
        refine g_dup C dX1_scanWord_62 rfl ?_
        refine g_get C inX1 0 rfl rfl 6 (by decide) f32 rfl dX1_scanWord_63 ?_
        refine g_iload_n C dX1_scanWord_66 rfl rfl ?_
        refine g_iadd C dX1_scanWord_67 ?_
        rw [show ((nI (p)) + (nI lo)) = nI (((p) + lo)) from nI_add ((p)) (lo)]
        refine g_put C (ws' := (scrW E s a sg (n) (vs, fs, ss, nc, ((p) + lo), vb, nu))) inX1 (ty := .int) tyX1 tyX1_ok nmX1 0 rfl rfl 6 (by decide) f32 rfl (by decide +kernel) rfl rfl (Nat.le_of_ble_eq_true rfl) dX1_scanWord_68 rfl ?_
        refine g_iconst C (v := 0) dX1_scanWord_71 rfl ?_
        refine g_zret C R0 rfl dX1_scanWord_72 ?_
        rw [swQ] at hv
        exact pT3 (c := false) (by rw [← hv]) (Or.inr ⟨rfl, rfl⟩) (by rw [← hv])
      · have hn_6 : ¬ (5) ≤ (i) := fun z => hc_6 ((nI_leI (a := (5)) (b := (i)) (by omega) (by omega)).mpr z)
        exact absurd hn_6 (by omega)
    | succ f ih =>
      intro i lo x3 x4 hf hq hlo hv
      have hi : i < 5 := by omega
      have hal := alk_le (sg := sg) (n := n) (p := p) hi hp
      have hl5 := lnS_5 i hi
      refine g_iload_n C dX1_scanWord_4 rfl rfl ?_
      refine g_iconst C (v := 5) dX1_scanWord_5 rfl ?_
      refine g_icmp_ge C (tgt := 61) dX1_scanWord_6 (by decide) (fun hc_6 => ?_) (fun hc_6 => ?_)
      · have hn_6 : (5) ≤ (i) := (nI_leI (a := (5)) (b := (i)) (by omega) (by omega)).mp hc_6
        exact absurd hn_6 (by omega)
      · have hn_6 : ¬ (5) ≤ (i) := fun z => hc_6 ((nI_leI (a := (5)) (b := (i)) (by omega) (by omega)).mpr z)
        refine g_iload_n C dX1_scanWord_9 rfl rfl ?_
        refine g_callrSF C (c_X1_wordOf E (scrW E s a sg (n) (vs, fs, ss, nc, p, vb, nu)) i hi) cf_X1_wordOf gX1_scanWord_X1_wordOf rfl (fitD (Nat.le_of_ble_eq_true rfl) (Nat.le_of_ble_eq_true rfl)) rfl rfl (Nat.le_of_ble_eq_true rfl) dX1_scanWord_10 (fun r1 w1 hp => ?_)
        obtain ⟨rfl, rfl⟩ := hp
        refine g_astore_n C dX1_scanWord_13 rfl (Nat.le_of_ble_eq_true rfl) rfl ?_
        refine g_aload_n C dX1_scanWord_14 rfl rfl ?_
        refine g_aload_n C dX1_scanWord_15 rfl rfl ?_
        refine g_calliVF C 0 rfl rfl (c_X1_charactersAlike E s a sg (n) hn vs fs ss nc p vb nu hp i hi) cf_X1_charactersAlike gX1_scanWord_X1_charactersAlike rfl (fitD (Nat.le_of_ble_eq_true rfl) (Nat.le_of_ble_eq_true rfl)) rfl rfl (Nat.le_of_ble_eq_true rfl) dX1_scanWord_16 (fun r1 w1 hp => ?_)
        obtain ⟨rfl, rfl⟩ := hp
        refine g_istore C dX1_scanWord_19 (Nat.le_of_ble_eq_true rfl) rfl ?_
        refine g_iload C dX1_scanWord_21 rfl ?_
        refine g_aload_n C dX1_scanWord_23 rfl rfl ?_
        refine g_calliVT C hi (c_J0_length_8abf5 E (scrW E s a sg (n) (vs, fs, ss, nc, p, vb, nu)) i hi) cf_J0_length gX1_scanWord_J0_length_8abf5 rfl (fitD (Nat.le_of_ble_eq_true rfl) (Nat.le_of_ble_eq_true rfl)) rfl rfl (Nat.le_of_ble_eq_true rfl) dX1_scanWord_24 (fun r1 w1 hp => ?_)
        obtain ⟨rfl, rfl⟩ := hp
        refine g_icmp_ne C (tgt := 48) dX1_scanWord_27 (by decide) (fun hc_27 => ?_) (fun hc_27 => ?_)
        · have hn_27 : ¬ ((alk sg n p i)) = ((lnS i)) := fun z => hc_27 ((nI_eq (a := ((alk sg n p i))) (b := ((lnS i))) (by omega) (by omega)).mpr z)
          refine g_iload_n C dX1_scanWord_48 rfl rfl ?_
          refine g_iload C dX1_scanWord_49 rfl ?_
          refine g_mmax C m1_max m2_max m3_max m4_max ⟨Nat.le_of_ble_eq_true rfl, Nat.le_of_ble_eq_true rfl⟩ dX1_scanWord_51 ?_
          rw [show (if (nI lo) < (nI (alk sg n p i)) then (nI (alk sg n p i)) else (nI lo)) = nI (max lo (alk sg n p i)) from maxN (by omega) (by omega)]
          refine g_istore_n C dX1_scanWord_54 rfl (Nat.le_of_ble_eq_true rfl) rfl ?_
          refine g_iinc C (v := (nI (i + 1))) dX1_scanWord_55 rfl rfl (nI_add (i) 1) ?_
          refine g_goto C (tgt := 4) dX1_scanWord_58 (by decide) ?_
          rw [swQ, if_neg hn_27] at hv
          exact ih (i + 1) _ _ _ (by omega) (by omega) (by omega) hv
        · have hn_27 : ((alk sg n p i)) = ((lnS i)) := (nI_eq (a := ((alk sg n p i))) (b := ((lnS i))) (by omega) (by omega)).mp hc_27
          refine g_aload_n C dX1_scanWord_30 rfl rfl ?_
          refine g_iload_n C dX1_scanWord_31 rfl rfl ?_
          refine g_put C (ws' := (scrW E s a sg (n) (vs, fs, ss, nc, p, (nI i), nu))) inX1 (ty := .int) tyX1 tyX1_ok nmX1 0 rfl rfl 7 (by decide) f35 rfl (by decide +kernel) rfl rfl (Nat.le_of_ble_eq_true rfl) dX1_scanWord_32 rfl ?_
          refine g_aload_n C dX1_scanWord_35 rfl rfl ?_
          refine g_dup C dX1_scanWord_36 rfl ?_
          refine g_get C inX1 0 rfl rfl 6 (by decide) f32 rfl dX1_scanWord_37 ?_
          refine g_iload C dX1_scanWord_40 rfl ?_
          refine g_iadd C dX1_scanWord_42 ?_
          rw [show ((nI (p)) + (nI (alk sg n p i))) = nI (((p) + (alk sg n p i))) from nI_add ((p)) ((alk sg n p i))]
          refine g_put C (ws' := (scrW E s a sg (n) (vs, fs, ss, nc, ((p) + (alk sg n p i)), (nI i), nu))) inX1 (ty := .int) tyX1 tyX1_ok nmX1 0 rfl rfl 6 (by decide) f32 rfl (by decide +kernel) rfl rfl (Nat.le_of_ble_eq_true rfl) dX1_scanWord_43 rfl ?_
          refine g_iconst C (v := 1) dX1_scanWord_46 rfl ?_
          refine g_zret C R0 rfl dX1_scanWord_47 ?_
          rw [swQ, if_pos hn_27] at hv
          exact pT3 (c := true) (by rw [← hv]) (Or.inl ⟨rfl, rfl⟩) (by rw [← hv])
  refine g_iconst C (v := 0) dX1_scanWord_0 rfl ?_
  refine g_istore_n C dX1_scanWord_1 rfl (Nat.le_of_ble_eq_true rfl) rfl ?_
  refine g_iconst C (v := 0) dX1_scanWord_2 rfl ?_
  refine g_istore_n C dX1_scanWord_3 rfl (Nat.le_of_ble_eq_true rfl) rfl ?_
  exact lp 5 0 0 _ _ (by omega) (by omega) (by omega) rfl
