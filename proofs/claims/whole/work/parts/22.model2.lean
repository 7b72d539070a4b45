theorem isKm_nI {st : F} {i : Nat} (h : i < 12) : isKm st (nI i) ↔ ¬ st i = -10005 := by
  have e : (nI i).toNatClampNeg = i := nI_clamp (by omega)
  constructor
  · rintro ⟨-, -, h3⟩; rwa [e] at h3
  · intro h3
    refine ⟨?_, ?_, by rwa [e]⟩
    · exact nI_pos' (by omega)
    · exact nI_lt (b := 12) (by omega) (by omega)
def fOF (st fr : F) : F := fun k => if st k = -10005 then 0 else fr k
def ghO (st ht : F) : Nat → Int32
  | 0 => -10005
  | k + 1 => if ¬ st k = -10005 ∧ (ghO st ht k = -10005 ∨ ghO st ht k < ht k) then ht k else ghO st ht k
def wAlF (st ht : F) : F := fun s => weig st ht (nI s)
set_option maxHeartbeats 4000000 in
set_option maxRecDepth 100000 in
theorem c_X4_kitesOf (E : Ev) (m : Nat) (b : Nat → Nat) (μ : MD) (s : Int32) : MI E yX4_kitesOf wsX4_kitesOf (rmD 0) (modW E m b μ) [.ref m, .int s] (pE (kitO (gSt μ) s) (modW E m b μ)) := by
  have inX4 : ∀ w ∈ u_ws RX4 TX4 16, w ∈ wsX4_kitesOf := by decide +kernel
  have f7 : Cond.fieldLink RX4 7 (TX4 0).1 (TX4 0).2.1 (TX4 0).2.2.1 ∈ wsX4_kitesOf := by decide +kernel
  refine MI.of (cc := cX4_kitesOf) (nL := 4) (ty := .int) (own := RX4) [some (.ref m), some (.int s), none, none] (by decide +kernel) rfl rfl (Nat.le_of_ble_eq_true rfl) rfl rfl ?_
  intro x C R0
  have lp : ∀ (n i : Nat), 12 - i < n → i ≤ 12 → G E x (modW E m b μ) [some (.ref m), some (.int s), some (.int (sumN (onF (gSt μ) s) i)), some (.int (nI i))] 4 [] := by
    intro n
    induction n with
    | zero => intro i h1; omega
    | succ n ih =>
      intro i hn hi
      refine g_iload_n C dX4_kitesOf_4 rfl rfl ?_
      refine g_bipush C (v := 12) dX4_kitesOf_5 rfl ?_
      refine g_icmp_ge C (tgt := 37) dX4_kitesOf_7 (by decide) (fun hc_7 => ?_) (fun hc_7 => ?_)
      · have hn_7 : (12) ≤ (i) := (nI_leI (a := (12)) (b := (i)) (by omega) (by omega)).mp hc_7
        refine g_iload_n C dX4_kitesOf_37 rfl rfl ?_
        refine g_iret C R0 dX4_kitesOf_38 ?_
        refine pE_mk ?_ rfl
        rw [show i = 12 from by omega]
      · have hn_7 : ¬ (12) ≤ (i) := fun z => hc_7 ((nI_leI (a := (12)) (b := (i)) (by omega) (by omega)).mpr z)
        refine g_iload_n C dX4_kitesOf_10 rfl rfl ?_
        refine g_aload_n C dX4_kitesOf_11 rfl rfl ?_
        refine g_get C inX4 0 rfl rfl 0 (by decide) f7 rfl dX4_kitesOf_12 ?_
        refine g_bipush C (v := 18) dX4_kitesOf_15 rfl ?_
        refine g_iload_n C dX4_kitesOf_17 rfl rfl ?_
        refine g_iadd C dX4_kitesOf_18 ?_
        refine g_ialdE C 1 rfl (18 + i) (v := (gSt μ (i))) (nI_add 18 (i)) (by omega) (Nat.le_of_ble_eq_true rfl) (pk_St (by omega)) dX4_kitesOf_19 ?_
        refine g_iload_n C dX4_kitesOf_20 rfl rfl ?_
        refine g_icmp_ne C (tgt := 28) dX4_kitesOf_21 (by decide) (fun hc_21 => ?_) (fun hc_21 => ?_)
        · refine g_iconst C (v := 0) dX4_kitesOf_28 rfl ?_
          refine g_iadd C dX4_kitesOf_29 ?_
          refine g_istore_n C dX4_kitesOf_30 rfl (Nat.le_of_ble_eq_true rfl) rfl ?_
          refine g_iinc C (v := (nI (i + 1))) dX4_kitesOf_31 rfl rfl (nI_add (i) 1) ?_
          refine g_goto C (tgt := 4) dX4_kitesOf_34 (by decide) ?_
          have this := ih (i + 1) (by omega) (by omega)
          rw [show sumN (onF (gSt μ) s) (i + 1) = ((sumN (onF (gSt μ) s) i) + 0) from by rw [sumN, show (onF (gSt μ) s) i = 0 from by unfold onF; exact if_neg hc_21]] at this
          exact this
        · refine g_iconst C (v := 1) dX4_kitesOf_24 rfl ?_
          refine g_goto C (tgt := 29) dX4_kitesOf_25 (by decide) ?_
          refine g_iadd C dX4_kitesOf_29 ?_
          refine g_istore_n C dX4_kitesOf_30 rfl (Nat.le_of_ble_eq_true rfl) rfl ?_
          refine g_iinc C (v := (nI (i + 1))) dX4_kitesOf_31 rfl rfl (nI_add (i) 1) ?_
          refine g_goto C (tgt := 4) dX4_kitesOf_34 (by decide) ?_
          have this := ih (i + 1) (by omega) (by omega)
          rw [show sumN (onF (gSt μ) s) (i + 1) = ((sumN (onF (gSt μ) s) i) + 1) from by rw [sumN, show (onF (gSt μ) s) i = 1 from by unfold onF; exact if_pos hc_21]] at this
          exact this
  refine g_iconst C (v := 0) dX4_kitesOf_0 rfl ?_
  refine g_istore_n C dX4_kitesOf_1 rfl (Nat.le_of_ble_eq_true rfl) rfl ?_
  refine g_iconst C (v := 0) dX4_kitesOf_2 rfl ?_
  refine g_istore_n C dX4_kitesOf_3 rfl (Nat.le_of_ble_eq_true rfl) rfl ?_
  exact lp 13 0 (by omega) (by omega)
set_option maxHeartbeats 4000000 in
set_option maxRecDepth 100000 in
theorem c_X4_weightsOf (E : Ev) (m : Nat) (b : Nat → Nat) (μ : MD) (s : Int32) : MI E yX4_weightsOf wsX4_weightsOf (rmD 2) (modW E m b μ) [.ref m, .int s] (pE (weig (gSt μ) (gHt μ) s) (modW E m b μ)) := by
  have inX4 : ∀ w ∈ u_ws RX4 TX4 16, w ∈ wsX4_weightsOf := by decide +kernel
  have f7 : Cond.fieldLink RX4 7 (TX4 0).1 (TX4 0).2.1 (TX4 0).2.2.1 ∈ wsX4_weightsOf := by decide +kernel
  refine MI.of (cc := cX4_weightsOf) (nL := 4) (ty := .int) (own := RX4) [some (.ref m), some (.int s), none, none] (by decide +kernel) rfl rfl (Nat.le_of_ble_eq_true rfl) rfl rfl ?_
  intro x C R0
  have lp : ∀ (n i : Nat), 12 - i < n → i ≤ 12 → G E x (modW E m b μ) [some (.ref m), some (.int s), some (.int (sumN (weF (gSt μ) (gHt μ) s) i)), some (.int (nI i))] 4 [] := by
    intro n
    induction n with
    | zero => intro i h1; omega
    | succ n ih =>
      intro i hn hi
      refine g_iload_n C dX4_weightsOf_4 rfl rfl ?_
      refine g_bipush C (v := 12) dX4_weightsOf_5 rfl ?_
      refine g_icmp_ge C (tgt := 41) dX4_weightsOf_7 (by decide) (fun hc_7 => ?_) (fun hc_7 => ?_)
      · have hn_7 : (12) ≤ (i) := (nI_leI (a := (12)) (b := (i)) (by omega) (by omega)).mp hc_7
        refine g_iload_n C dX4_weightsOf_41 rfl rfl ?_
        refine g_iret C R0 dX4_weightsOf_42 ?_
        refine pE_mk ?_ rfl
        rw [show i = 12 from by omega]
      · have hn_7 : ¬ (12) ≤ (i) := fun z => hc_7 ((nI_leI (a := (12)) (b := (i)) (by omega) (by omega)).mpr z)
        refine g_iload_n C dX4_weightsOf_10 rfl rfl ?_
        refine g_aload_n C dX4_weightsOf_11 rfl rfl ?_
        refine g_get C inX4 0 rfl rfl 0 (by decide) f7 rfl dX4_weightsOf_12 ?_
        refine g_bipush C (v := 18) dX4_weightsOf_15 rfl ?_
        refine g_iload_n C dX4_weightsOf_17 rfl rfl ?_
        refine g_iadd C dX4_weightsOf_18 ?_
        refine g_ialdE C 1 rfl (18 + i) (v := (gSt μ (i))) (nI_add 18 (i)) (by omega) (Nat.le_of_ble_eq_true rfl) (pk_St (by omega)) dX4_weightsOf_19 ?_
        refine g_iload_n C dX4_weightsOf_20 rfl rfl ?_
        refine g_icmp_ne C (tgt := 32) dX4_weightsOf_21 (by decide) (fun hc_21 => ?_) (fun hc_21 => ?_)
        · refine g_iconst C (v := 0) dX4_weightsOf_32 rfl ?_
          refine g_iadd C dX4_weightsOf_33 ?_
          refine g_istore_n C dX4_weightsOf_34 rfl (Nat.le_of_ble_eq_true rfl) rfl ?_
          refine g_iinc C (v := (nI (i + 1))) dX4_weightsOf_35 rfl rfl (nI_add (i) 1) ?_
          refine g_goto C (tgt := 4) dX4_weightsOf_38 (by decide) ?_
          have this := ih (i + 1) (by omega) (by omega)
          rw [show sumN (weF (gSt μ) (gHt μ) s) (i + 1) = ((sumN (weF (gSt μ) (gHt μ) s) i) + 0) from by rw [sumN, show (weF (gSt μ) (gHt μ) s) i = 0 from by unfold weF; exact if_neg hc_21]] at this
          exact this
        · refine g_aload_n C dX4_weightsOf_24 rfl rfl ?_
          refine g_iload_n C dX4_weightsOf_25 rfl rfl ?_
          refine g_calliVF C 0 rfl rfl (c_X4_weightOf E m b μ (i) (by omega)) cf_X4_weightOf gX4_weightsOf_X4_weightOf rfl (fitD (Nat.le_of_ble_eq_true rfl) (Nat.le_of_ble_eq_true rfl)) rfl rfl (Nat.le_of_ble_eq_true rfl) dX4_weightsOf_26 (fun r1 w1 hp => ?_)
          obtain ⟨rfl, rfl⟩ := hp
          refine g_goto C (tgt := 33) dX4_weightsOf_29 (by decide) ?_
          refine g_iadd C dX4_weightsOf_33 ?_
          refine g_istore_n C dX4_weightsOf_34 rfl (Nat.le_of_ble_eq_true rfl) rfl ?_
          refine g_iinc C (v := (nI (i + 1))) dX4_weightsOf_35 rfl rfl (nI_add (i) 1) ?_
          refine g_goto C (tgt := 4) dX4_weightsOf_38 (by decide) ?_
          have this := ih (i + 1) (by omega) (by omega)
          rw [show sumN (weF (gSt μ) (gHt μ) s) (i + 1) = ((sumN (weF (gSt μ) (gHt μ) s) i) + (gHt μ (i) + 1)) from by rw [sumN, show (weF (gSt μ) (gHt μ) s) i = gHt μ i + 1 from by unfold weF; exact if_pos hc_21]] at this
          exact this
  refine g_iconst C (v := 0) dX4_weightsOf_0 rfl ?_
  refine g_istore_n C dX4_weightsOf_1 rfl (Nat.le_of_ble_eq_true rfl) rfl ?_
  refine g_iconst C (v := 0) dX4_weightsOf_2 rfl ?_
  refine g_istore_n C dX4_weightsOf_3 rfl (Nat.le_of_ble_eq_true rfl) rfl ?_
  exact lp 13 0 (by omega) (by omega)
set_option maxHeartbeats 4000000 in
set_option maxRecDepth 100000 in
theorem c_X4_sumOf (E : Ev) (m : Nat) (b : Nat → Nat) (μ : MD) (s : Int32) : MI E yX4_sumOf wsX4_sumOf (rmD 0) (modW E m b μ) [.ref m, .int s] (pE (nums (gSt μ) (gNu μ) s) (modW E m b μ)) := by
  have inX4 : ∀ w ∈ u_ws RX4 TX4 16, w ∈ wsX4_sumOf := by decide +kernel
  have f7 : Cond.fieldLink RX4 7 (TX4 0).1 (TX4 0).2.1 (TX4 0).2.2.1 ∈ wsX4_sumOf := by decide +kernel
  refine MI.of (cc := cX4_sumOf) (nL := 4) (ty := .int) (own := RX4) [some (.ref m), some (.int s), none, none] (by decide +kernel) rfl rfl (Nat.le_of_ble_eq_true rfl) rfl rfl ?_
  intro x C R0
  have lp : ∀ (n i : Nat), 12 - i < n → i ≤ 12 → G E x (modW E m b μ) [some (.ref m), some (.int s), some (.int (sumN (nuF (gSt μ) (gNu μ) s) i)), some (.int (nI i))] 4 [] := by
    intro n
    induction n with
    | zero => intro i h1; omega
    | succ n ih =>
      intro i hn hi
      refine g_iload_n C dX4_sumOf_4 rfl rfl ?_
      refine g_bipush C (v := 12) dX4_sumOf_5 rfl ?_
      refine g_icmp_ge C (tgt := 45) dX4_sumOf_7 (by decide) (fun hc_7 => ?_) (fun hc_7 => ?_)
      · have hn_7 : (12) ≤ (i) := (nI_leI (a := (12)) (b := (i)) (by omega) (by omega)).mp hc_7
        refine g_iload_n C dX4_sumOf_45 rfl rfl ?_
        refine g_iret C R0 dX4_sumOf_46 ?_
        refine pE_mk ?_ rfl
        rw [show i = 12 from by omega]
      · have hn_7 : ¬ (12) ≤ (i) := fun z => hc_7 ((nI_leI (a := (12)) (b := (i)) (by omega) (by omega)).mpr z)
        refine g_iload_n C dX4_sumOf_10 rfl rfl ?_
        refine g_aload_n C dX4_sumOf_11 rfl rfl ?_
        refine g_get C inX4 0 rfl rfl 0 (by decide) f7 rfl dX4_sumOf_12 ?_
        refine g_bipush C (v := 18) dX4_sumOf_15 rfl ?_
        refine g_iload_n C dX4_sumOf_17 rfl rfl ?_
        refine g_iadd C dX4_sumOf_18 ?_
        refine g_ialdE C 1 rfl (18 + i) (v := (gSt μ (i))) (nI_add 18 (i)) (by omega) (Nat.le_of_ble_eq_true rfl) (pk_St (by omega)) dX4_sumOf_19 ?_
        refine g_iload_n C dX4_sumOf_20 rfl rfl ?_
        refine g_icmp_ne C (tgt := 36) dX4_sumOf_21 (by decide) (fun hc_21 => ?_) (fun hc_21 => ?_)
        · refine g_iconst C (v := 0) dX4_sumOf_36 rfl ?_
          refine g_iadd C dX4_sumOf_37 ?_
          refine g_istore_n C dX4_sumOf_38 rfl (Nat.le_of_ble_eq_true rfl) rfl ?_
          refine g_iinc C (v := (nI (i + 1))) dX4_sumOf_39 rfl rfl (nI_add (i) 1) ?_
          refine g_goto C (tgt := 4) dX4_sumOf_42 (by decide) ?_
          have this := ih (i + 1) (by omega) (by omega)
          rw [show sumN (nuF (gSt μ) (gNu μ) s) (i + 1) = ((sumN (nuF (gSt μ) (gNu μ) s) i) + 0) from by rw [sumN, show (nuF (gSt μ) (gNu μ) s) i = 0 from by unfold nuF; exact if_neg hc_21]] at this
          exact this
        · refine g_aload_n C dX4_sumOf_24 rfl rfl ?_
          refine g_get C inX4 0 rfl rfl 0 (by decide) f7 rfl dX4_sumOf_25 ?_
          refine g_bipush C (v := 30) dX4_sumOf_28 rfl ?_
          refine g_iload_n C dX4_sumOf_30 rfl rfl ?_
          refine g_iadd C dX4_sumOf_31 ?_
          refine g_ialdE C 1 rfl (30 + i) (v := (gNu μ (i))) (nI_add 30 (i)) (by omega) (Nat.le_of_ble_eq_true rfl) (pk_Nu (by omega)) dX4_sumOf_32 ?_
          refine g_goto C (tgt := 37) dX4_sumOf_33 (by decide) ?_
          refine g_iadd C dX4_sumOf_37 ?_
          refine g_istore_n C dX4_sumOf_38 rfl (Nat.le_of_ble_eq_true rfl) rfl ?_
          refine g_iinc C (v := (nI (i + 1))) dX4_sumOf_39 rfl rfl (nI_add (i) 1) ?_
          refine g_goto C (tgt := 4) dX4_sumOf_42 (by decide) ?_
          have this := ih (i + 1) (by omega) (by omega)
          rw [show sumN (nuF (gSt μ) (gNu μ) s) (i + 1) = ((sumN (nuF (gSt μ) (gNu μ) s) i) + (gNu μ (i))) from by rw [sumN, show (nuF (gSt μ) (gNu μ) s) i = gNu μ i from by unfold nuF; exact if_pos hc_21]] at this
          exact this
  refine g_iconst C (v := 0) dX4_sumOf_0 rfl ?_
  refine g_istore_n C dX4_sumOf_1 rfl (Nat.le_of_ble_eq_true rfl) rfl ?_
  refine g_iconst C (v := 0) dX4_sumOf_2 rfl ?_
  refine g_istore_n C dX4_sumOf_3 rfl (Nat.le_of_ble_eq_true rfl) rfl ?_
  exact lp 13 0 (by omega) (by omega)
set_option maxHeartbeats 4000000 in
set_option maxRecDepth 100000 in
theorem c_X4_many (E : Ev) (m : Nat) (b : Nat → Nat) (μ : MD) : MI E yX4_many wsX4_many (rmD 1) (modW E m b μ) [.ref m] (pE (many4 (gSt μ)) (modW E m b μ)) := by
  refine MI.of (cc := cX4_many) (nL := 3) (ty := .int) (own := RX4) [some (.ref m), none, none] (by decide +kernel) rfl rfl (Nat.le_of_ble_eq_true rfl) rfl rfl ?_
  intro x C R0
  have lp : ∀ (n i : Nat), 4 - i < n → i ≤ 4 → G E x (modW E m b μ) [some (.ref m), some (.int (sumN (manF (gSt μ)) i)), some (.int (nI i))] 4 [] := by
    intro n
    induction n with
    | zero => intro i h1; omega
    | succ n ih =>
      intro i hn hi
      refine g_iload_n C dX4_many_4 rfl rfl ?_
      refine g_iconst C (v := 4) dX4_many_5 rfl ?_
      refine g_icmp_ge C (tgt := 23) dX4_many_6 (by decide) (fun hc_6 => ?_) (fun hc_6 => ?_)
      · have hn_6 : (4) ≤ (i) := (nI_leI (a := (4)) (b := (i)) (by omega) (by omega)).mp hc_6
        refine g_iload_n C dX4_many_23 rfl rfl ?_
        refine g_iret C R0 dX4_many_24 ?_
        refine pE_mk ?_ rfl
        rw [show i = 4 from by omega]
      · have hn_6 : ¬ (4) ≤ (i) := fun z => hc_6 ((nI_leI (a := (4)) (b := (i)) (by omega) (by omega)).mpr z)
        refine g_iload_n C dX4_many_9 rfl rfl ?_
        refine g_aload_n C dX4_many_10 rfl rfl ?_
        refine g_iload_n C dX4_many_11 rfl rfl ?_
        refine g_calliVF C 0 rfl rfl (c_X4_kitesOf E m b μ _) cf_X4_kitesOf gX4_many_X4_kitesOf rfl (fitD (Nat.le_of_ble_eq_true rfl) (Nat.le_of_ble_eq_true rfl)) rfl rfl (Nat.le_of_ble_eq_true rfl) dX4_many_12 (fun r1 w1 hp => ?_)
        obtain ⟨rfl, rfl⟩ := hp
        refine g_iadd C dX4_many_15 ?_
        refine g_istore_n C dX4_many_16 rfl (Nat.le_of_ble_eq_true rfl) rfl ?_
        refine g_iinc C (v := (nI (i + 1))) dX4_many_17 rfl rfl (nI_add (i) 1) ?_
        refine g_goto C (tgt := 4) dX4_many_20 (by decide) ?_
        have this := ih (i + 1) (by omega) (by omega)
        rw [show sumN (manF (gSt μ)) (i + 1) = ((sumN (manF (gSt μ)) i) + (kitO (gSt μ) (nI i))) from by rw [sumN, show (manF (gSt μ)) i = kitO (gSt μ) (nI i) from by unfold manF; rfl]] at this
        exact this
  refine g_iconst C (v := 0) dX4_many_0 rfl ?_
  refine g_istore_n C dX4_many_1 rfl (Nat.le_of_ble_eq_true rfl) rfl ?_
  refine g_iconst C (v := 0) dX4_many_2 rfl ?_
  refine g_istore_n C dX4_many_3 rfl (Nat.le_of_ble_eq_true rfl) rfl ?_
  exact lp 5 0 (by omega) (by omega)
set_option maxHeartbeats 4000000 in
set_option maxRecDepth 100000 in
theorem c_X4_allWeights (E : Ev) (m : Nat) (b : Nat → Nat) (μ : MD) : MI E yX4_allWeights wsX4_allWeights (rmD 3) (modW E m b μ) [.ref m] (pE (sumN (wAlF (gSt μ) (gHt μ)) 4) (modW E m b μ)) := by
  refine MI.of (cc := cX4_allWeights) (nL := 3) (ty := .int) (own := RX4) [some (.ref m), none, none] (by decide +kernel) rfl rfl (Nat.le_of_ble_eq_true rfl) rfl rfl ?_
  intro x C R0
  have lp : ∀ (n i : Nat), 4 - i < n → i ≤ 4 → G E x (modW E m b μ) [some (.ref m), some (.int (sumN (wAlF (gSt μ) (gHt μ)) i)), some (.int (nI i))] 4 [] := by
    intro n
    induction n with
    | zero => intro i h1; omega
    | succ n ih =>
      intro i hn hi
      refine g_iload_n C dX4_allWeights_4 rfl rfl ?_
      refine g_iconst C (v := 4) dX4_allWeights_5 rfl ?_
      refine g_icmp_ge C (tgt := 23) dX4_allWeights_6 (by decide) (fun hc_6 => ?_) (fun hc_6 => ?_)
      · have hn_6 : (4) ≤ (i) := (nI_leI (a := (4)) (b := (i)) (by omega) (by omega)).mp hc_6
        refine g_iload_n C dX4_allWeights_23 rfl rfl ?_
        refine g_iret C R0 dX4_allWeights_24 ?_
        refine pE_mk ?_ rfl
        rw [show i = 4 from by omega]
      · have hn_6 : ¬ (4) ≤ (i) := fun z => hc_6 ((nI_leI (a := (4)) (b := (i)) (by omega) (by omega)).mpr z)
        refine g_iload_n C dX4_allWeights_9 rfl rfl ?_
        refine g_aload_n C dX4_allWeights_10 rfl rfl ?_
        refine g_iload_n C dX4_allWeights_11 rfl rfl ?_
        refine g_calliVF C 0 rfl rfl (c_X4_weightsOf E m b μ _) cf_X4_weightsOf gX4_allWeights_X4_weightsOf rfl (fitD (Nat.le_of_ble_eq_true rfl) (Nat.le_of_ble_eq_true rfl)) rfl rfl (Nat.le_of_ble_eq_true rfl) dX4_allWeights_12 (fun r1 w1 hp => ?_)
        obtain ⟨rfl, rfl⟩ := hp
        refine g_iadd C dX4_allWeights_15 ?_
        refine g_istore_n C dX4_allWeights_16 rfl (Nat.le_of_ble_eq_true rfl) rfl ?_
        refine g_iinc C (v := (nI (i + 1))) dX4_allWeights_17 rfl rfl (nI_add (i) 1) ?_
        refine g_goto C (tgt := 4) dX4_allWeights_20 (by decide) ?_
        have this := ih (i + 1) (by omega) (by omega)
        rw [show sumN (wAlF (gSt μ) (gHt μ)) (i + 1) = ((sumN (wAlF (gSt μ) (gHt μ)) i) + (weig (gSt μ) (gHt μ) (nI i))) from by rw [sumN, show (wAlF (gSt μ) (gHt μ)) i = weig (gSt μ) (gHt μ) (nI i) from by unfold wAlF; rfl]] at this
        exact this
  refine g_iconst C (v := 0) dX4_allWeights_0 rfl ?_
  refine g_istore_n C dX4_allWeights_1 rfl (Nat.le_of_ble_eq_true rfl) rfl ?_
  refine g_iconst C (v := 0) dX4_allWeights_2 rfl ?_
  refine g_istore_n C dX4_allWeights_3 rfl (Nat.le_of_ble_eq_true rfl) rfl ?_
  exact lp 5 0 (by omega) (by omega)
set_option maxHeartbeats 4000000 in
set_option maxRecDepth 100000 in
theorem c_X4_rankOf (E : Ev) (m : Nat) (b : Nat → Nat) (μ : MD) (j : Nat) (hj : j < 12) : MI E yX4_rankOf wsX4_rankOf (rmD 1) (modW E m b μ) [.ref m, .int (nI j)] (pE (sumN (rkF (gSt μ) (gHt μ) (gSt μ j) (gHt μ j)) 12) (modW E m b μ)) := by
  have inX4 : ∀ w ∈ u_ws RX4 TX4 16, w ∈ wsX4_rankOf := by decide +kernel
  have f7 : Cond.fieldLink RX4 7 (TX4 0).1 (TX4 0).2.1 (TX4 0).2.2.1 ∈ wsX4_rankOf := by decide +kernel
  refine MI.of (cc := cX4_rankOf) (nL := 4) (ty := .int) (own := RX4) [some (.ref m), some (.int (nI j)), none, none] (by decide +kernel) rfl rfl (Nat.le_of_ble_eq_true rfl) rfl rfl ?_
  intro x C R0
  have lp : ∀ (n i : Nat), 12 - i < n → i ≤ 12 → G E x (modW E m b μ) [some (.ref m), some (.int (nI j)), some (.int (sumN (rkF (gSt μ) (gHt μ) (gSt μ j) (gHt μ j)) i)), some (.int (nI i))] 4 [] := by
    intro n
    induction n with
    | zero => intro i h1; omega
    | succ n ih =>
      intro i hn hi
      refine g_iload_n C dX4_rankOf_4 rfl rfl ?_
      refine g_bipush C (v := 12) dX4_rankOf_5 rfl ?_
      refine g_icmp_ge C (tgt := 58) dX4_rankOf_7 (by decide) (fun hc_7 => ?_) (fun hc_7 => ?_)
      · have hn_7 : (12) ≤ (i) := (nI_leI (a := (12)) (b := (i)) (by omega) (by omega)).mp hc_7
        refine g_iload_n C dX4_rankOf_58 rfl rfl ?_
        refine g_iret C R0 dX4_rankOf_59 ?_
        refine pE_mk ?_ rfl
        rw [show i = 12 from by omega]
      · have hn_7 : ¬ (12) ≤ (i) := fun z => hc_7 ((nI_leI (a := (12)) (b := (i)) (by omega) (by omega)).mpr z)
        refine g_iload_n C dX4_rankOf_10 rfl rfl ?_
        refine g_aload_n C dX4_rankOf_11 rfl rfl ?_
        refine g_get C inX4 0 rfl rfl 0 (by decide) f7 rfl dX4_rankOf_12 ?_
        refine g_bipush C (v := 18) dX4_rankOf_15 rfl ?_
        refine g_iload_n C dX4_rankOf_17 rfl rfl ?_
        refine g_iadd C dX4_rankOf_18 ?_
        refine g_ialdE C 1 rfl (18 + i) (v := (gSt μ (i))) (nI_add 18 (i)) (by omega) (Nat.le_of_ble_eq_true rfl) (pk_St (by omega)) dX4_rankOf_19 ?_
        refine g_aload_n C dX4_rankOf_20 rfl rfl ?_
        refine g_get C inX4 0 rfl rfl 0 (by decide) f7 rfl dX4_rankOf_21 ?_
        refine g_bipush C (v := 18) dX4_rankOf_24 rfl ?_
        refine g_iload_n C dX4_rankOf_26 rfl rfl ?_
        refine g_iadd C dX4_rankOf_27 ?_
        refine g_ialdE C 1 rfl (18 + j) (v := (gSt μ (j))) (nI_add 18 (j)) (by omega) (Nat.le_of_ble_eq_true rfl) (pk_St (by omega)) dX4_rankOf_28 ?_
        refine g_icmp_ne C (tgt := 49) dX4_rankOf_29 (by decide) (fun hc_29 => ?_) (fun hc_29 => ?_)
        · refine g_iconst C (v := 0) dX4_rankOf_49 rfl ?_
          refine g_iadd C dX4_rankOf_50 ?_
          refine g_istore_n C dX4_rankOf_51 rfl (Nat.le_of_ble_eq_true rfl) rfl ?_
          refine g_iinc C (v := (nI (i + 1))) dX4_rankOf_52 rfl rfl (nI_add (i) 1) ?_
          refine g_goto C (tgt := 4) dX4_rankOf_55 (by decide) ?_
          have this := ih (i + 1) (by omega) (by omega)
          rw [show sumN (rkF (gSt μ) (gHt μ) (gSt μ j) (gHt μ j)) (i + 1) = ((sumN (rkF (gSt μ) (gHt μ) (gSt μ j) (gHt μ j)) i) + 0) from by rw [sumN, show (rkF (gSt μ) (gHt μ) (gSt μ j) (gHt μ j)) i = 0 from by unfold rkF; exact if_neg (fun z => hc_29 z.1)]] at this
          exact this
        · refine g_aload_n C dX4_rankOf_32 rfl rfl ?_
          refine g_iload_n C dX4_rankOf_33 rfl rfl ?_
          refine g_calliVF C 0 rfl rfl (c_X4_heightOf E m b μ (i) (by omega)) cf_X4_heightOf gX4_rankOf_X4_heightOf rfl (fitD (Nat.le_of_ble_eq_true rfl) (Nat.le_of_ble_eq_true rfl)) rfl rfl (Nat.le_of_ble_eq_true rfl) dX4_rankOf_34 (fun r1 w1 hp => ?_)
          obtain ⟨rfl, rfl⟩ := hp
          refine g_aload_n C dX4_rankOf_37 rfl rfl ?_
          refine g_iload_n C dX4_rankOf_38 rfl rfl ?_
          refine g_calliVF C 0 rfl rfl (c_X4_heightOf E m b μ (j) (by omega)) cf_X4_heightOf gX4_rankOf_X4_heightOf rfl (fitD (Nat.le_of_ble_eq_true rfl) (Nat.le_of_ble_eq_true rfl)) rfl rfl (Nat.le_of_ble_eq_true rfl) dX4_rankOf_39 (fun r1 w1 hp => ?_)
          obtain ⟨rfl, rfl⟩ := hp
          refine g_icmp_le C (tgt := 49) dX4_rankOf_42 (by decide) (fun hc_42 => ?_) (fun hc_42 => ?_)
          · refine g_iconst C (v := 0) dX4_rankOf_49 rfl ?_
            refine g_iadd C dX4_rankOf_50 ?_
            refine g_istore_n C dX4_rankOf_51 rfl (Nat.le_of_ble_eq_true rfl) rfl ?_
            refine g_iinc C (v := (nI (i + 1))) dX4_rankOf_52 rfl rfl (nI_add (i) 1) ?_
            refine g_goto C (tgt := 4) dX4_rankOf_55 (by decide) ?_
            have this := ih (i + 1) (by omega) (by omega)
            rw [show sumN (rkF (gSt μ) (gHt μ) (gSt μ j) (gHt μ j)) (i + 1) = ((sumN (rkF (gSt μ) (gHt μ) (gSt μ j) (gHt μ j)) i) + 0) from by rw [sumN, show (rkF (gSt μ) (gHt μ) (gSt μ j) (gHt μ j)) i = 0 from by unfold rkF; exact if_neg (fun z => i32_nlt hc_42 z.2)]] at this
            exact this
          · refine g_iconst C (v := 1) dX4_rankOf_45 rfl ?_
            refine g_goto C (tgt := 50) dX4_rankOf_46 (by decide) ?_
            refine g_iadd C dX4_rankOf_50 ?_
            refine g_istore_n C dX4_rankOf_51 rfl (Nat.le_of_ble_eq_true rfl) rfl ?_
            refine g_iinc C (v := (nI (i + 1))) dX4_rankOf_52 rfl rfl (nI_add (i) 1) ?_
            refine g_goto C (tgt := 4) dX4_rankOf_55 (by decide) ?_
            have this := ih (i + 1) (by omega) (by omega)
            rw [show sumN (rkF (gSt μ) (gHt μ) (gSt μ j) (gHt μ j)) (i + 1) = ((sumN (rkF (gSt μ) (gHt μ) (gSt μ j) (gHt μ j)) i) + 1) from by rw [sumN, show (rkF (gSt μ) (gHt μ) (gSt μ j) (gHt μ j)) i = 1 from by unfold rkF; exact if_pos ⟨hc_29, i32_lt.mp hc_42⟩]] at this
            exact this
  refine g_iconst C (v := 0) dX4_rankOf_0 rfl ?_
  refine g_istore_n C dX4_rankOf_1 rfl (Nat.le_of_ble_eq_true rfl) rfl ?_
  refine g_iconst C (v := 0) dX4_rankOf_2 rfl ?_
  refine g_istore_n C dX4_rankOf_3 rfl (Nat.le_of_ble_eq_true rfl) rfl ?_
  exact lp 13 0 (by omega) (by omega)
set_option maxHeartbeats 4000000 in
set_option maxRecDepth 100000 in
theorem c_X4_passed (E : Ev) (m : Nat) (b : Nat → Nat) (μ : MD) (j : Nat) (hj : j < 12) (t : Int32) : MI E yX4_passed wsX4_passed (rmD 1) (modW E m b μ) [.ref m, .int (nI j), .int t] (pE (sumN (psF (gSt μ) (gHt μ) (gSt μ j) t (gHt μ j)) 12) (modW E m b μ)) := by
  have inX4 : ∀ w ∈ u_ws RX4 TX4 16, w ∈ wsX4_passed := by decide +kernel
  have f7 : Cond.fieldLink RX4 7 (TX4 0).1 (TX4 0).2.1 (TX4 0).2.2.1 ∈ wsX4_passed := by decide +kernel
  refine MI.of (cc := cX4_passed) (nL := 5) (ty := .int) (own := RX4) [some (.ref m), some (.int (nI j)), some (.int t), none, none] (by decide +kernel) rfl rfl (Nat.le_of_ble_eq_true rfl) rfl rfl ?_
  intro x C R0
  have lp : ∀ (n i : Nat), 12 - i < n → i ≤ 12 → G E x (modW E m b μ) [some (.ref m), some (.int (nI j)), some (.int t), some (.int (sumN (psF (gSt μ) (gHt μ) (gSt μ j) t (gHt μ j)) i)), some (.int (nI i))] 5 [] := by
    intro n
    induction n with
    | zero => intro i h1; omega
    | succ n ih =>
      intro i hn hi
      refine g_iload C dX4_passed_5 rfl ?_
      refine g_bipush C (v := 12) dX4_passed_7 rfl ?_
      refine g_icmp_ge C (tgt := 72) dX4_passed_9 (by decide) (fun hc_9 => ?_) (fun hc_9 => ?_)
      · have hn_9 : (12) ≤ (i) := (nI_leI (a := (12)) (b := (i)) (by omega) (by omega)).mp hc_9
        refine g_iload_n C dX4_passed_72 rfl rfl ?_
        refine g_iret C R0 dX4_passed_73 ?_
        refine pE_mk ?_ rfl
        rw [show i = 12 from by omega]
      · have hn_9 : ¬ (12) ≤ (i) := fun z => hc_9 ((nI_leI (a := (12)) (b := (i)) (by omega) (by omega)).mpr z)
        refine g_iload_n C dX4_passed_12 rfl rfl ?_
        refine g_aload_n C dX4_passed_13 rfl rfl ?_
        refine g_get C inX4 0 rfl rfl 0 (by decide) f7 rfl dX4_passed_14 ?_
        refine g_bipush C (v := 18) dX4_passed_17 rfl ?_
        refine g_iload C dX4_passed_19 rfl ?_
        refine g_iadd C dX4_passed_21 ?_
        refine g_ialdE C 1 rfl (18 + i) (v := (gSt μ (i))) (nI_add 18 (i)) (by omega) (Nat.le_of_ble_eq_true rfl) (pk_St (by omega)) dX4_passed_22 ?_
        refine g_aload_n C dX4_passed_23 rfl rfl ?_
        refine g_get C inX4 0 rfl rfl 0 (by decide) f7 rfl dX4_passed_24 ?_
        refine g_bipush C (v := 18) dX4_passed_27 rfl ?_
        refine g_iload_n C dX4_passed_29 rfl rfl ?_
        refine g_iadd C dX4_passed_30 ?_
        refine g_ialdE C 1 rfl (18 + j) (v := (gSt μ (j))) (nI_add 18 (j)) (by omega) (Nat.le_of_ble_eq_true rfl) (pk_St (by omega)) dX4_passed_31 ?_
        refine g_icmp_ne C (tgt := 63) dX4_passed_32 (by decide) (fun hc_32 => ?_) (fun hc_32 => ?_)
        · refine g_iconst C (v := 0) dX4_passed_63 rfl ?_
          refine g_iadd C dX4_passed_64 ?_
          refine g_istore_n C dX4_passed_65 rfl (Nat.le_of_ble_eq_true rfl) rfl ?_
          refine g_iinc C (v := (nI (i + 1))) dX4_passed_66 rfl rfl (nI_add (i) 1) ?_
          refine g_goto C (tgt := 5) dX4_passed_69 (by decide) ?_
          have this := ih (i + 1) (by omega) (by omega)
          rw [show sumN (psF (gSt μ) (gHt μ) (gSt μ j) t (gHt μ j)) (i + 1) = ((sumN (psF (gSt μ) (gHt μ) (gSt μ j) t (gHt μ j)) i) + 0) from by rw [sumN, show (psF (gSt μ) (gHt μ) (gSt μ j) t (gHt μ j)) i = 0 from by unfold psF; exact if_neg (fun z => hc_32 z.1)]] at this
          exact this
        · refine g_aload_n C dX4_passed_35 rfl rfl ?_
          refine g_iload C dX4_passed_36 rfl ?_
          refine g_calliVF C 0 rfl rfl (c_X4_heightOf E m b μ (i) (by omega)) cf_X4_heightOf gX4_passed_X4_heightOf rfl (fitD (Nat.le_of_ble_eq_true rfl) (Nat.le_of_ble_eq_true rfl)) rfl rfl (Nat.le_of_ble_eq_true rfl) dX4_passed_38 (fun r1 w1 hp => ?_)
          obtain ⟨rfl, rfl⟩ := hp
          refine g_iload_n C dX4_passed_41 rfl rfl ?_
          refine g_icmp_le C (tgt := 63) dX4_passed_42 (by decide) (fun hc_42 => ?_) (fun hc_42 => ?_)
          · refine g_iconst C (v := 0) dX4_passed_63 rfl ?_
            refine g_iadd C dX4_passed_64 ?_
            refine g_istore_n C dX4_passed_65 rfl (Nat.le_of_ble_eq_true rfl) rfl ?_
            refine g_iinc C (v := (nI (i + 1))) dX4_passed_66 rfl rfl (nI_add (i) 1) ?_
            refine g_goto C (tgt := 5) dX4_passed_69 (by decide) ?_
            have this := ih (i + 1) (by omega) (by omega)
            rw [show sumN (psF (gSt μ) (gHt μ) (gSt μ j) t (gHt μ j)) (i + 1) = ((sumN (psF (gSt μ) (gHt μ) (gSt μ j) t (gHt μ j)) i) + 0) from by rw [sumN, show (psF (gSt μ) (gHt μ) (gSt μ j) t (gHt μ j)) i = 0 from by unfold psF; exact if_neg (fun z => i32_nlt hc_42 z.2.1)]] at this
            exact this
          · refine g_aload_n C dX4_passed_45 rfl rfl ?_
            refine g_iload C dX4_passed_46 rfl ?_
            refine g_calliVF C 0 rfl rfl (c_X4_heightOf E m b μ (i) (by omega)) cf_X4_heightOf gX4_passed_X4_heightOf rfl (fitD (Nat.le_of_ble_eq_true rfl) (Nat.le_of_ble_eq_true rfl)) rfl rfl (Nat.le_of_ble_eq_true rfl) dX4_passed_48 (fun r1 w1 hp => ?_)
            obtain ⟨rfl, rfl⟩ := hp
            refine g_aload_n C dX4_passed_51 rfl rfl ?_
            refine g_iload_n C dX4_passed_52 rfl rfl ?_
            refine g_calliVF C 0 rfl rfl (c_X4_heightOf E m b μ (j) (by omega)) cf_X4_heightOf gX4_passed_X4_heightOf rfl (fitD (Nat.le_of_ble_eq_true rfl) (Nat.le_of_ble_eq_true rfl)) rfl rfl (Nat.le_of_ble_eq_true rfl) dX4_passed_53 (fun r1 w1 hp => ?_)
            obtain ⟨rfl, rfl⟩ := hp
            refine g_icmp_ge C (tgt := 63) dX4_passed_56 (by decide) (fun hc_56 => ?_) (fun hc_56 => ?_)
            · refine g_iconst C (v := 0) dX4_passed_63 rfl ?_
              refine g_iadd C dX4_passed_64 ?_
              refine g_istore_n C dX4_passed_65 rfl (Nat.le_of_ble_eq_true rfl) rfl ?_
              refine g_iinc C (v := (nI (i + 1))) dX4_passed_66 rfl rfl (nI_add (i) 1) ?_
              refine g_goto C (tgt := 5) dX4_passed_69 (by decide) ?_
              have this := ih (i + 1) (by omega) (by omega)
              rw [show sumN (psF (gSt μ) (gHt μ) (gSt μ j) t (gHt μ j)) (i + 1) = ((sumN (psF (gSt μ) (gHt μ) (gSt μ j) t (gHt μ j)) i) + 0) from by rw [sumN, show (psF (gSt μ) (gHt μ) (gSt μ j) t (gHt μ j)) i = 0 from by unfold psF; exact if_neg (fun z => i32_nlt hc_56 z.2.2)]] at this
              exact this
            · refine g_iconst C (v := 1) dX4_passed_59 rfl ?_
              refine g_goto C (tgt := 64) dX4_passed_60 (by decide) ?_
              refine g_iadd C dX4_passed_64 ?_
              refine g_istore_n C dX4_passed_65 rfl (Nat.le_of_ble_eq_true rfl) rfl ?_
              refine g_iinc C (v := (nI (i + 1))) dX4_passed_66 rfl rfl (nI_add (i) 1) ?_
              refine g_goto C (tgt := 5) dX4_passed_69 (by decide) ?_
              have this := ih (i + 1) (by omega) (by omega)
              rw [show sumN (psF (gSt μ) (gHt μ) (gSt μ j) t (gHt μ j)) (i + 1) = ((sumN (psF (gSt μ) (gHt μ) (gSt μ j) t (gHt μ j)) i) + 1) from by rw [sumN, show (psF (gSt μ) (gHt μ) (gSt μ j) t (gHt μ j)) i = 1 from by unfold psF; exact if_pos ⟨hc_32, i32_lt.mp hc_42, i32_lt.mp hc_56⟩]] at this
              exact this
  refine g_iconst C (v := 0) dX4_passed_0 rfl ?_
  refine g_istore_n C dX4_passed_1 rfl (Nat.le_of_ble_eq_true rfl) rfl ?_
  refine g_iconst C (v := 0) dX4_passed_2 rfl ?_
  refine g_istore C dX4_passed_3 (Nat.le_of_ble_eq_true rfl) rfl ?_
  exact lp 13 0 (by omega) (by omega)
set_option maxHeartbeats 4000000 in
set_option maxRecDepth 100000 in
theorem c_X4_freshOnes (E : Ev) (m : Nat) (b : Nat → Nat) (μ : MD) : MI E yX4_freshOnes wsX4_freshOnes (rmD 2) (modW E m b μ) [.ref m] (pE (sumN (fOF (gSt μ) (gFr μ)) 12) (modW E m b μ)) := by
  have inX4 : ∀ w ∈ u_ws RX4 TX4 16, w ∈ wsX4_freshOnes := by decide +kernel
  have f7 : Cond.fieldLink RX4 7 (TX4 0).1 (TX4 0).2.1 (TX4 0).2.2.1 ∈ wsX4_freshOnes := by decide +kernel
  refine MI.of (cc := cX4_freshOnes) (nL := 3) (ty := .int) (own := RX4) [some (.ref m), none, none] (by decide +kernel) rfl rfl (Nat.le_of_ble_eq_true rfl) rfl rfl ?_
  intro x C R0
  have lp : ∀ (n i : Nat), 12 - i < n → i ≤ 12 → G E x (modW E m b μ) [some (.ref m), some (.int (sumN (fOF (gSt μ) (gFr μ)) i)), some (.int (nI i))] 4 [] := by
    intro n
    induction n with
    | zero => intro i h1; omega
    | succ n ih =>
      intro i hn hi
      refine g_iload_n C dX4_freshOnes_4 rfl rfl ?_
      refine g_bipush C (v := 12) dX4_freshOnes_5 rfl ?_
      refine g_icmp_ge C (tgt := 40) dX4_freshOnes_7 (by decide) (fun hc_7 => ?_) (fun hc_7 => ?_)
      · have hn_7 : (12) ≤ (i) := (nI_leI (a := (12)) (b := (i)) (by omega) (by omega)).mp hc_7
        refine g_iload_n C dX4_freshOnes_40 rfl rfl ?_
        refine g_iret C R0 dX4_freshOnes_41 ?_
        refine pE_mk ?_ rfl
        rw [show i = 12 from by omega]
      · have hn_7 : ¬ (12) ≤ (i) := fun z => hc_7 ((nI_leI (a := (12)) (b := (i)) (by omega) (by omega)).mpr z)
        refine g_iload_n C dX4_freshOnes_10 rfl rfl ?_
        refine g_aload_n C dX4_freshOnes_11 rfl rfl ?_
        refine g_iload_n C dX4_freshOnes_12 rfl rfl ?_
        refine g_calliVF C 0 rfl rfl (c_X4_isKite E m b μ _) cf_X4_isKite gX4_freshOnes_X4_isKite rfl (fitD (Nat.le_of_ble_eq_true rfl) (Nat.le_of_ble_eq_true rfl)) rfl rfl (Nat.le_of_ble_eq_true rfl) dX4_freshOnes_13 (fun r1 w1 hp => ?_)
        obtain ⟨⟨hb_13, rfl⟩ | ⟨hb_13, rfl⟩, rfl⟩ := hp
        · refine g_if_eq_f C dX4_freshOnes_16 31 (by decide) (by decide) ?_
          refine g_aload_n C dX4_freshOnes_19 rfl rfl ?_
          refine g_get C inX4 0 rfl rfl 0 (by decide) f7 rfl dX4_freshOnes_20 ?_
          refine g_bipush C (v := 54) dX4_freshOnes_23 rfl ?_
          refine g_iload_n C dX4_freshOnes_25 rfl rfl ?_
          refine g_iadd C dX4_freshOnes_26 ?_
          refine g_ialdE C 1 rfl (54 + i) (v := (gFr μ (i))) (nI_add 54 (i)) (by omega) (Nat.le_of_ble_eq_true rfl) (pk_Fr (by omega)) dX4_freshOnes_27 ?_
          refine g_goto C (tgt := 32) dX4_freshOnes_28 (by decide) ?_
          refine g_iadd C dX4_freshOnes_32 ?_
          refine g_istore_n C dX4_freshOnes_33 rfl (Nat.le_of_ble_eq_true rfl) rfl ?_
          refine g_iinc C (v := (nI (i + 1))) dX4_freshOnes_34 rfl rfl (nI_add (i) 1) ?_
          refine g_goto C (tgt := 4) dX4_freshOnes_37 (by decide) ?_
          have this := ih (i + 1) (by omega) (by omega)
          rw [show sumN (fOF (gSt μ) (gFr μ)) (i + 1) = ((sumN (fOF (gSt μ) (gFr μ)) i) + (gFr μ (i))) from by rw [sumN, show (fOF (gSt μ) (gFr μ)) i = gFr μ i from by unfold fOF; exact if_neg ((isKm_nI (by omega)).mp hb_13)]] at this
          exact this
        · refine g_if_eq_t C dX4_freshOnes_16 (tgt := 31) (by decide) (by decide) ?_
          refine g_iconst C (v := 0) dX4_freshOnes_31 rfl ?_
          refine g_iadd C dX4_freshOnes_32 ?_
          refine g_istore_n C dX4_freshOnes_33 rfl (Nat.le_of_ble_eq_true rfl) rfl ?_
          refine g_iinc C (v := (nI (i + 1))) dX4_freshOnes_34 rfl rfl (nI_add (i) 1) ?_
          refine g_goto C (tgt := 4) dX4_freshOnes_37 (by decide) ?_
          have this := ih (i + 1) (by omega) (by omega)
          rw [show sumN (fOF (gSt μ) (gFr μ)) (i + 1) = ((sumN (fOF (gSt μ) (gFr μ)) i) + 0) from by rw [sumN, show (fOF (gSt μ) (gFr μ)) i = 0 from by unfold fOF; exact if_pos (Classical.byContradiction fun z => hb_13 ((isKm_nI (by omega)).mpr z))]] at this
          exact this
  refine g_iconst C (v := 0) dX4_freshOnes_0 rfl ?_
  refine g_istore_n C dX4_freshOnes_1 rfl (Nat.le_of_ble_eq_true rfl) rfl ?_
  refine g_iconst C (v := 0) dX4_freshOnes_2 rfl ?_
  refine g_istore_n C dX4_freshOnes_3 rfl (Nat.le_of_ble_eq_true rfl) rfl ?_
  exact lp 13 0 (by omega) (by omega)
set_option maxHeartbeats 4000000 in
set_option maxRecDepth 100000 in
theorem c_X4_greatestHeight (E : Ev) (m : Nat) (b : Nat → Nat) (μ : MD) : MI E yX4_greatestHeight wsX4_greatestHeight (rmD 2) (modW E m b μ) [.ref m] (pE (ghO (gSt μ) (gHt μ) 12) (modW E m b μ)) := by
  refine MI.of (cc := cX4_greatestHeight) (nL := 3) (ty := .int) (own := RX4) [some (.ref m), none, none] (by decide +kernel) rfl rfl (Nat.le_of_ble_eq_true rfl) rfl rfl ?_
  intro x C R0
  have lp : ∀ (n i : Nat), 12 - i < n → i ≤ 12 → G E x (modW E m b μ) [some (.ref m), some (.int (ghO (gSt μ) (gHt μ) i)), some (.int (nI i))] 6 [] := by
    intro n
    induction n with
    | zero => intro i h1; omega
    | succ n ih =>
      intro i hn hi
      refine g_iload_n C dX4_greatestHeight_6 rfl rfl ?_
      refine g_bipush C (v := 12) dX4_greatestHeight_7 rfl ?_
      refine g_icmp_ge C (tgt := 52) dX4_greatestHeight_9 (by decide) (fun hc_9 => ?_) (fun hc_9 => ?_)
      · have hn_9 : (12) ≤ (i) := (nI_leI (a := (12)) (b := (i)) (by omega) (by omega)).mp hc_9
        refine g_iload_n C dX4_greatestHeight_52 rfl rfl ?_
        refine g_iret C R0 dX4_greatestHeight_53 ?_
        refine pE_mk ?_ rfl
        rw [show i = 12 from by omega]
      · have hn_9 : ¬ (12) ≤ (i) := fun z => hc_9 ((nI_leI (a := (12)) (b := (i)) (by omega) (by omega)).mpr z)
        refine g_aload_n C dX4_greatestHeight_12 rfl rfl ?_
        refine g_iload_n C dX4_greatestHeight_13 rfl rfl ?_
        refine g_calliVF C 0 rfl rfl (c_X4_isKite E m b μ _) cf_X4_isKite gX4_greatestHeight_X4_isKite rfl (fitD (Nat.le_of_ble_eq_true rfl) (Nat.le_of_ble_eq_true rfl)) rfl rfl (Nat.le_of_ble_eq_true rfl) dX4_greatestHeight_14 (fun r1 w1 hp => ?_)
        obtain ⟨⟨hb_14, rfl⟩ | ⟨hb_14, rfl⟩, rfl⟩ := hp
        · refine g_if_eq_f C dX4_greatestHeight_17 44 (by decide) (by decide) ?_
          refine g_iload_n C dX4_greatestHeight_20 rfl rfl ?_
          refine g_sipush C (v := (-10005)) dX4_greatestHeight_21 rfl ?_
          refine g_icmp_eq C (tgt := 36) dX4_greatestHeight_24 (by decide) (fun hc_24 => ?_) (fun hc_24 => ?_)
          · refine g_aload_n C dX4_greatestHeight_36 rfl rfl ?_
            refine g_iload_n C dX4_greatestHeight_37 rfl rfl ?_
            refine g_calliVF C 0 rfl rfl (c_X4_heightOf E m b μ (i) (by omega)) cf_X4_heightOf gX4_greatestHeight_X4_heightOf rfl (fitD (Nat.le_of_ble_eq_true rfl) (Nat.le_of_ble_eq_true rfl)) rfl rfl (Nat.le_of_ble_eq_true rfl) dX4_greatestHeight_38 (fun r1 w1 hp => ?_)
            obtain ⟨rfl, rfl⟩ := hp
            refine g_goto C (tgt := 45) dX4_greatestHeight_41 (by decide) ?_
            refine g_istore_n C dX4_greatestHeight_45 rfl (Nat.le_of_ble_eq_true rfl) rfl ?_
            refine g_iinc C (v := (nI (i + 1))) dX4_greatestHeight_46 rfl rfl (nI_add (i) 1) ?_
            refine g_goto C (tgt := 6) dX4_greatestHeight_49 (by decide) ?_
            have this := ih (i + 1) (by omega) (by omega)
            rw [show ghO (gSt μ) (gHt μ) (i + 1) = (gHt μ (i)) from by rw [ghO, if_pos ⟨(isKm_nI (by omega)).mp hb_14, Or.inl hc_24⟩]] at this
            exact this
          · refine g_aload_n C dX4_greatestHeight_27 rfl rfl ?_
            refine g_iload_n C dX4_greatestHeight_28 rfl rfl ?_
            refine g_calliVF C 0 rfl rfl (c_X4_heightOf E m b μ (i) (by omega)) cf_X4_heightOf gX4_greatestHeight_X4_heightOf rfl (fitD (Nat.le_of_ble_eq_true rfl) (Nat.le_of_ble_eq_true rfl)) rfl rfl (Nat.le_of_ble_eq_true rfl) dX4_greatestHeight_29 (fun r1 w1 hp => ?_)
            obtain ⟨rfl, rfl⟩ := hp
            refine g_iload_n C dX4_greatestHeight_32 rfl rfl ?_
            refine g_icmp_le C (tgt := 44) dX4_greatestHeight_33 (by decide) (fun hc_33 => ?_) (fun hc_33 => ?_)
            · refine g_iload_n C dX4_greatestHeight_44 rfl rfl ?_
              refine g_istore_n C dX4_greatestHeight_45 rfl (Nat.le_of_ble_eq_true rfl) rfl ?_
              refine g_iinc C (v := (nI (i + 1))) dX4_greatestHeight_46 rfl rfl (nI_add (i) 1) ?_
              refine g_goto C (tgt := 6) dX4_greatestHeight_49 (by decide) ?_
              have this := ih (i + 1) (by omega) (by omega)
              rw [show ghO (gSt μ) (gHt μ) (i + 1) = (ghO (gSt μ) (gHt μ) i) from by rw [ghO, if_neg (fun z => z.2.elim (fun y => hc_24 y) (fun y => i32_nlt hc_33 y))]] at this
              exact this
            · refine g_aload_n C dX4_greatestHeight_36 rfl rfl ?_
              refine g_iload_n C dX4_greatestHeight_37 rfl rfl ?_
              refine g_calliVF C 0 rfl rfl (c_X4_heightOf E m b μ (i) (by omega)) cf_X4_heightOf gX4_greatestHeight_X4_heightOf rfl (fitD (Nat.le_of_ble_eq_true rfl) (Nat.le_of_ble_eq_true rfl)) rfl rfl (Nat.le_of_ble_eq_true rfl) dX4_greatestHeight_38 (fun r1 w1 hp => ?_)
              obtain ⟨rfl, rfl⟩ := hp
              refine g_goto C (tgt := 45) dX4_greatestHeight_41 (by decide) ?_
              refine g_istore_n C dX4_greatestHeight_45 rfl (Nat.le_of_ble_eq_true rfl) rfl ?_
              refine g_iinc C (v := (nI (i + 1))) dX4_greatestHeight_46 rfl rfl (nI_add (i) 1) ?_
              refine g_goto C (tgt := 6) dX4_greatestHeight_49 (by decide) ?_
              have this := ih (i + 1) (by omega) (by omega)
              rw [show ghO (gSt μ) (gHt μ) (i + 1) = (gHt μ (i)) from by rw [ghO, if_pos ⟨(isKm_nI (by omega)).mp hb_14, Or.inr (i32_lt.mp hc_33)⟩]] at this
              exact this
        · refine g_if_eq_t C dX4_greatestHeight_17 (tgt := 44) (by decide) (by decide) ?_
          refine g_iload_n C dX4_greatestHeight_44 rfl rfl ?_
          refine g_istore_n C dX4_greatestHeight_45 rfl (Nat.le_of_ble_eq_true rfl) rfl ?_
          refine g_iinc C (v := (nI (i + 1))) dX4_greatestHeight_46 rfl rfl (nI_add (i) 1) ?_
          refine g_goto C (tgt := 6) dX4_greatestHeight_49 (by decide) ?_
          have this := ih (i + 1) (by omega) (by omega)
          rw [show ghO (gSt μ) (gHt μ) (i + 1) = (ghO (gSt μ) (gHt μ) i) from by rw [ghO, if_neg (fun z => hb_14 ((isKm_nI (by omega)).mpr z.1))]] at this
          exact this
  refine g_sipush C (v := (-10005)) dX4_greatestHeight_0 rfl ?_
  refine g_istore_n C dX4_greatestHeight_3 rfl (Nat.le_of_ble_eq_true rfl) rfl ?_
  refine g_iconst C (v := 0) dX4_greatestHeight_4 rfl ?_
  refine g_istore_n C dX4_greatestHeight_5 rfl (Nat.le_of_ble_eq_true rfl) rfl ?_
  exact lp 13 0 (by omega) (by omega)
set_option maxHeartbeats 4000000 in
set_option maxRecDepth 100000 in
theorem c_X4_windNow (E : Ev) (m : Nat) (b : Nat → Nat) (μ : MD) (e : Nat) (he : e < 8) (hbe : gBe μ = nI e) : MI E yX4_windNow wsX4_windNow (rmD 0) (modW E m b μ) [.ref m] (pE (gWi μ e) (modW E m b μ)) := by
  have inX4 : ∀ w ∈ u_ws RX4 TX4 16, w ∈ wsX4_windNow := by decide +kernel
  have f7 : Cond.fieldLink RX4 7 (TX4 0).1 (TX4 0).2.1 (TX4 0).2.2.1 ∈ wsX4_windNow := by decide +kernel
  refine MI.of (cc := cX4_windNow) (nL := 1) (ty := .int) (own := RX4) [some (.ref m)] (by decide +kernel) rfl rfl (Nat.le_of_ble_eq_true rfl) rfl rfl ?_
  intro x C R0
  refine g_aload_n C dX4_windNow_0 rfl rfl ?_
  refine g_get C inX4 0 rfl rfl 0 (by decide) f7 rfl dX4_windNow_1 ?_
  refine g_bipush C (v := 6) dX4_windNow_4 rfl ?_
  refine g_aload_n C dX4_windNow_6 rfl rfl ?_
  refine g_get C inX4 0 rfl rfl 0 (by decide) f7 rfl dX4_windNow_7 ?_
  refine g_iconst C (v := 2) dX4_windNow_10 rfl ?_
  refine g_ialdE C 1 rfl 2 (v := (gBe μ)) rfl (by decide) (Nat.le_of_ble_eq_true rfl) pk_Be dX4_windNow_11 ?_
  refine g_iadd C dX4_windNow_12 ?_
  refine g_ialdE C 1 rfl (6 + e) (v := (gWi μ (e))) (by rw [hbe]; exact nI_add 6 (e)) (by omega) (Nat.le_of_ble_eq_true rfl) (pk_Wi (by omega)) dX4_windNow_13 ?_
  refine g_iret C R0 dX4_windNow_14 ?_
  exact pE_mk rfl rfl
def flyMR (μ : MD) (s n : Int32) : Int32 × MD := if freeM (gSt μ) < 12 then (nI (freeM (gSt μ)), wAl μ (mFly (mAl μ) s n (freeM (gSt μ)))) else (-10003, μ)
set_option maxHeartbeats 4000000 in
set_option maxRecDepth 100000 in
theorem c_X4_doFly (E : Ev) (m : Nat) (b : Nat → Nat) (μ : MD) (s n : Int32) (hf : ∀ k, k < 12 → gSt μ k = -10005 → hL (mAl μ) k s 0) : MI E yX4_doFly wsX4_doFly (rmD 4) (modW E m b μ) [.ref m, .int s, .int n] (pM E m b (flyMR μ s n)) := by
  have inX4 : ∀ w ∈ u_ws RX4 TX4 16, w ∈ wsX4_doFly := by decide +kernel
  have f7 : Cond.fieldLink RX4 7 (TX4 0).1 (TX4 0).2.1 (TX4 0).2.2.1 ∈ wsX4_doFly := by decide +kernel
  refine MI.of (cc := cX4_doFly) (nL := 4) (ty := .int) (own := RX4) [some (.ref m), some (.int s), some (.int n), none] (by decide +kernel) rfl rfl (Nat.le_of_ble_eq_true rfl) rfl rfl ?_
  intro x C R0
  refine g_iconst C (v := 0) dX4_doFly_0 rfl ?_
  refine g_istore_n C dX4_doFly_1 rfl (Nat.le_of_ble_eq_true rfl) rfl ?_
  have lp : ∀ (n9 i : Nat), 12 - i < n9 → i ≤ 12 → ff (fun j => gSt μ j == -10005) (12 - i) i = freeM (gSt μ) → G E x (modW E m b μ) [some (.ref m), some (.int s), some (.int n), some (.int (nI i))] 2 [] := by
    intro n9
    induction n9 with
    | zero => intro i h1; omega
    | succ n9 ih =>
      intro i hn hi hv
      refine g_iload_n C dX4_doFly_2 rfl rfl ?_
      refine g_bipush C (v := 12) dX4_doFly_3 rfl ?_
      refine g_icmp_ge C (tgt := 78) dX4_doFly_5 (by decide) (fun hc_5 => ?_) (fun hc_5 => ?_)
      · have hn_5 : (12) ≤ (i) := (nI_leI (a := (12)) (b := (i)) (by omega) (by omega)).mp hc_5
        refine g_sipush C (v := (-10003)) dX4_doFly_78 rfl ?_
        refine g_iret C R0 dX4_doFly_81 ?_
        have e12 : i = 12 := by omega
        subst e12
        have hfr : freeM (gSt μ) = 12 := hv.symm
        refine pM_mk (μ := μ) ?_ rfl
        rw [flyMR, if_neg (by omega)]
      · have hn_5 : ¬ (12) ≤ (i) := fun z => hc_5 ((nI_leI (a := (12)) (b := (i)) (by omega) (by omega)).mpr z)
        refine g_aload_n C dX4_doFly_8 rfl rfl ?_
        refine g_get C inX4 0 rfl rfl 0 (by decide) f7 rfl dX4_doFly_9 ?_
        refine g_bipush C (v := 18) dX4_doFly_12 rfl ?_
        refine g_iload_n C dX4_doFly_14 rfl rfl ?_
        refine g_iadd C dX4_doFly_15 ?_
        refine g_ialdE C 1 rfl (18 + i) (v := (gSt μ (i))) (nI_add 18 (i)) (by omega) (Nat.le_of_ble_eq_true rfl) (pk_St (by omega)) dX4_doFly_16 ?_
        refine g_sipush C (v := (-10005)) dX4_doFly_17 rfl ?_
        refine g_icmp_ne C (tgt := 72) dX4_doFly_20 (by decide) (fun hc_20 => ?_) (fun hc_20 => ?_)
        · refine g_iinc C (v := (nI (i + 1))) dX4_doFly_72 rfl rfl (nI_add (i) 1) ?_
          refine g_goto C (tgt := 2) dX4_doFly_75 (by decide) ?_
          refine ih (i + 1) (by omega) (by omega) ?_
          rw [show 12 - i = (12 - (i + 1)) + 1 from by omega, ff, if_neg (by simp [hc_20])] at hv
          exact hv
        · refine g_aload_n C dX4_doFly_23 rfl rfl ?_
          refine g_iload_n C dX4_doFly_24 rfl rfl ?_
          refine g_iload_n C dX4_doFly_25 rfl rfl ?_
          refine g_iconst C (v := 0) dX4_doFly_26 rfl ?_
          refine g_callvVF C 0 rfl rfl (c_X4_lands E m b μ (i) (by omega) _ _ (hf i (by omega) hc_20)) cf_X4_lands gX4_doFly_X4_lands rfl (fitD (Nat.le_of_ble_eq_true rfl) (Nat.le_of_ble_eq_true rfl)) rfl rfl (Nat.le_of_ble_eq_true rfl) dX4_doFly_27 (fun w1 hp => ?_)
          obtain rfl := hp
          refine g_aload_n C dX4_doFly_30 rfl rfl ?_
          refine g_get C inX4 0 rfl rfl 0 (by decide) f7 rfl dX4_doFly_31 ?_
          refine g_bipush C (v := 30) dX4_doFly_34 rfl ?_
          refine g_iload_n C dX4_doFly_36 rfl rfl ?_
          refine g_iadd C dX4_doFly_37 ?_
          refine g_iload_n C dX4_doFly_38 rfl rfl ?_
          refine g_iast C (ws' := (modW E m b (xNu (xLands μ (i) s 0) (i) n))) 1 rfl (30 + i) (nI_add 30 (i)) (by omega) (Nat.le_of_ble_eq_true rfl) dX4_doFly_39 (by rw [up_Nu (by omega)]; rfl) ?_
          refine g_aload_n C dX4_doFly_40 rfl rfl ?_
          refine g_get C inX4 0 rfl rfl 0 (by decide) f7 rfl dX4_doFly_41 ?_
          refine g_bipush C (v := 54) dX4_doFly_44 rfl ?_
          refine g_iload_n C dX4_doFly_46 rfl rfl ?_
          refine g_iadd C dX4_doFly_47 ?_
          refine g_iconst C (v := 0) dX4_doFly_48 rfl ?_
          refine g_iast C (ws' := (modW E m b (xFr (xNu (xLands μ (i) s 0) (i) n) (i) 0))) 1 rfl (54 + i) (nI_add 54 (i)) (by omega) (Nat.le_of_ble_eq_true rfl) dX4_doFly_49 (by rw [up_Fr (by omega)]; rfl) ?_
          refine g_aload_n C dX4_doFly_50 rfl rfl ?_
          refine g_get C inX4 0 rfl rfl 0 (by decide) f7 rfl dX4_doFly_51 ?_
          refine g_bipush C (v := 66) dX4_doFly_54 rfl ?_
          refine g_iload_n C dX4_doFly_56 rfl rfl ?_
          refine g_iadd C dX4_doFly_57 ?_
          refine g_iconst C (v := 0) dX4_doFly_58 rfl ?_
          refine g_iast C (ws' := (modW E m b (xRe (xFr (xNu (xLands μ (i) s 0) (i) n) (i) 0) (i) 0))) 1 rfl (66 + i) (nI_add 66 (i)) (by omega) (Nat.le_of_ble_eq_true rfl) dX4_doFly_59 (by rw [up_Re (by omega)]; rfl) ?_
          refine g_aload_n C dX4_doFly_60 rfl rfl ?_
          refine g_get C inX4 0 rfl rfl 0 (by decide) f7 rfl dX4_doFly_61 ?_
          refine g_bipush C (v := 78) dX4_doFly_64 rfl ?_
          refine g_iload_n C dX4_doFly_66 rfl rfl ?_
          refine g_iadd C dX4_doFly_67 ?_
          refine g_iconst C (v := 0) dX4_doFly_68 rfl ?_
          refine g_iast C (ws' := (modW E m b (xCu (xRe (xFr (xNu (xLands μ (i) s 0) (i) n) (i) 0) (i) 0) (i) 0))) 1 rfl (78 + i) (nI_add 78 (i)) (by omega) (Nat.le_of_ble_eq_true rfl) dX4_doFly_69 (by rw [up_Cu (by omega)]; rfl) ?_
          refine g_iload_n C dX4_doFly_70 rfl rfl ?_
          refine g_iret C R0 dX4_doFly_71 ?_
          have hfr : freeM (gSt μ) = i := by rw [← hv, show 12 - i = (11 - i) + 1 from by omega, ff, if_pos (by simp [hc_20])]
          refine pM_mk (μ := (xCu (xRe (xFr (xNu (xLands μ (i) s 0) (i) n) (i) 0) (i) 0) (i) 0)) ?_ rfl
          rw [flyMR, hfr, if_pos (by omega)] <;> rfl
  exact lp 13 0 (by omega) (by omega) rfl
set_option maxHeartbeats 4000000 in
set_option maxRecDepth 100000 in
theorem c_X4_rises (E : Ev) (m : Nat) (b : Nat → Nat) (μ : MD) (j : Nat) (hj : j < 12) (q : Nat) (hq : q < 4) (hs : gSt μ j = nI q) (w : Int32) (hr : hR (mAl μ) j w) : MI E yX4_rises wsX4_rises (rmD 4) (modW E m b μ) [.ref m, .int (nI j), .int w] (pB (mIsC (mAl μ) j w) (modW E m b (xRises μ j q w))) := by
  have inX4 : ∀ w ∈ u_ws RX4 TX4 16, w ∈ wsX4_rises := by decide +kernel
  have f7 : Cond.fieldLink RX4 7 (TX4 0).1 (TX4 0).2.1 (TX4 0).2.2.1 ∈ wsX4_rises := by decide +kernel
  refine MI.of (cc := cX4_rises) (nL := 4) (ty := .boolean) (own := RX4) [some (.ref m), some (.int (nI j)), some (.int w), none] (by decide +kernel) rfl rfl (Nat.le_of_ble_eq_true rfl) rfl rfl ?_
  intro x C R0
  refine g_aload_n C dX4_rises_0 rfl rfl ?_
  refine g_get C inX4 0 rfl rfl 0 (by decide) f7 rfl dX4_rises_1 ?_
  refine g_bipush C (v := 18) dX4_rises_4 rfl ?_
  refine g_iload_n C dX4_rises_6 rfl rfl ?_
  refine g_iadd C dX4_rises_7 ?_
  refine g_ialdE C 1 rfl (18 + j) (v := (gSt μ (j))) (nI_add 18 (j)) (by omega) (Nat.le_of_ble_eq_true rfl) (pk_St (by omega)) dX4_rises_8 ?_
  refine g_istore_n C dX4_rises_9 rfl (Nat.le_of_ble_eq_true rfl) rfl ?_
  refine g_aload_n C dX4_rises_10 rfl rfl ?_
  refine g_iload_n C dX4_rises_11 rfl rfl ?_
  refine g_iload_n C dX4_rises_12 rfl rfl ?_
  refine g_aload_n C dX4_rises_13 rfl rfl ?_
  refine g_iload_n C dX4_rises_14 rfl rfl ?_
  refine g_calliVF C 0 rfl rfl (c_X4_heightOf E m b μ (j) (by omega)) cf_X4_heightOf gX4_rises_X4_heightOf rfl (fitD (Nat.le_of_ble_eq_true rfl) (Nat.le_of_ble_eq_true rfl)) rfl rfl (Nat.le_of_ble_eq_true rfl) dX4_rises_15 (fun r1 w1 hp => ?_)
  obtain ⟨rfl, rfl⟩ := hp
  refine g_iload_n C dX4_rises_18 rfl rfl ?_
  refine g_iadd C dX4_rises_19 ?_
  refine g_iconst C (v := 1) dX4_rises_20 rfl ?_
  refine g_iadd C dX4_rises_21 ?_
  refine g_callvVF C 0 rfl rfl (c_X4_lands E m b μ (j) (by omega) _ _ hr.1) cf_X4_lands gX4_rises_X4_lands rfl (fitD (Nat.le_of_ble_eq_true rfl) (Nat.le_of_ble_eq_true rfl)) rfl rfl (Nat.le_of_ble_eq_true rfl) dX4_rises_22 (fun w1 hp => ?_)
  obtain rfl := hp
  refine g_aload_n C dX4_rises_25 rfl rfl ?_
  refine g_iload_n C dX4_rises_26 rfl rfl ?_
  refine g_calliVF C 0 rfl rfl (c_X4_heightOf E m b (xLands μ (j) (gSt μ (j)) (((gHt μ (j)) + w) + 1)) (j) (by omega)) cf_X4_heightOf gX4_rises_X4_heightOf rfl (fitD (Nat.le_of_ble_eq_true rfl) (Nat.le_of_ble_eq_true rfl)) rfl rfl (Nat.le_of_ble_eq_true rfl) dX4_rises_27 (fun r1 w1 hp => ?_)
  obtain ⟨rfl, rfl⟩ := hp
  refine g_aload_n C dX4_rises_30 rfl rfl ?_
  refine g_get C inX4 0 rfl rfl 0 (by decide) f7 rfl dX4_rises_31 ?_
  refine g_iconst C (v := 0) dX4_rises_34 rfl ?_
  refine g_ialdE C 1 rfl 0 (v := (gCh (xLands μ (j) (gSt μ (j)) (((gHt μ (j)) + w) + 1)))) rfl (by decide) (Nat.le_of_ble_eq_true rfl) pk_Ch dX4_rises_35 ?_
  refine g_icmp_gt C (tgt := 41) dX4_rises_36 (by decide) (fun hc_36 => ?_) (fun hc_36 => ?_)
  · refine g_aload_n C dX4_rises_41 rfl rfl ?_
    refine g_iload_n C dX4_rises_42 rfl rfl ?_
    refine g_iload_n C dX4_rises_43 rfl rfl ?_
    refine g_iconst C (v := 1) dX4_rises_44 rfl ?_
    refine g_iadd C dX4_rises_45 ?_
    refine g_iconst C (v := 4) dX4_rises_46 rfl ?_
    refine g_irem C dX4_rises_47 (by decide) ?_
    refine g_iconst C (v := 0) dX4_rises_48 rfl ?_
    refine g_callvVF C 0 rfl rfl (c_X4_lands E m b (xLands μ (j) (gSt μ (j)) (((gHt μ (j)) + w) + 1)) (j) (by omega) _ _ hr.2) cf_X4_lands gX4_rises_X4_lands rfl (fitD (Nat.le_of_ble_eq_true rfl) (Nat.le_of_ble_eq_true rfl)) rfl rfl (Nat.le_of_ble_eq_true rfl) dX4_rises_49 (fun w1 hp => ?_)
    obtain rfl := hp
    refine g_aload_n C dX4_rises_52 rfl rfl ?_
    refine g_get C inX4 0 rfl rfl 0 (by decide) f7 rfl dX4_rises_53 ?_
    refine g_bipush C (v := 78) dX4_rises_56 rfl ?_
    refine g_iload_n C dX4_rises_58 rfl rfl ?_
    refine g_iadd C dX4_rises_59 ?_
    refine g_dup2 C dX4_rises_60 rfl rfl ?_
    refine g_ialdE C 1 rfl (78 + j) (v := (gCu (xLands (xLands μ (j) (gSt μ (j)) (((gHt μ (j)) + w) + 1)) (j) (((gSt μ (j)) + 1) - ((gSt μ (j)) + 1) / 4 * 4) 0) (j))) (nI_add 78 (j)) (by omega) (Nat.le_of_ble_eq_true rfl) (pk_Cu (by omega)) dX4_rises_61 ?_
    refine g_iconst C (v := 1) dX4_rises_62 rfl ?_
    refine g_iadd C dX4_rises_63 ?_
    refine g_iast C (ws' := (modW E m b (xCu (xLands (xLands μ (j) (gSt μ (j)) (((gHt μ (j)) + w) + 1)) (j) (((gSt μ (j)) + 1) - ((gSt μ (j)) + 1) / 4 * 4) 0) (j) ((gCu (xLands (xLands μ (j) (gSt μ (j)) (((gHt μ (j)) + w) + 1)) (j) (((gSt μ (j)) + 1) - ((gSt μ (j)) + 1) / 4 * 4) 0) (j)) + 1)))) 1 rfl (78 + j) (nI_add 78 (j)) (by omega) (Nat.le_of_ble_eq_true rfl) dX4_rises_64 (by rw [up_Cu (by omega)]; rfl) ?_
    refine g_aload_n C dX4_rises_65 rfl rfl ?_
    refine g_get C inX4 0 rfl rfl 0 (by decide) f7 rfl dX4_rises_66 ?_
    refine g_iconst C (v := 4) dX4_rises_69 rfl ?_
    refine g_dup2 C dX4_rises_70 rfl rfl ?_
    refine g_ialdE C 1 rfl 4 (v := (gCt (xCu (xLands (xLands μ (j) (gSt μ (j)) (((gHt μ (j)) + w) + 1)) (j) (((gSt μ (j)) + 1) - ((gSt μ (j)) + 1) / 4 * 4) 0) (j) ((gCu (xLands (xLands μ (j) (gSt μ (j)) (((gHt μ (j)) + w) + 1)) (j) (((gSt μ (j)) + 1) - ((gSt μ (j)) + 1) / 4 * 4) 0) (j)) + 1)))) rfl (by decide) (Nat.le_of_ble_eq_true rfl) pk_Ct dX4_rises_71 ?_
    refine g_iconst C (v := 1) dX4_rises_72 rfl ?_
    refine g_iadd C dX4_rises_73 ?_
    refine g_iast C (ws' := (modW E m b (xCt (xCu (xLands (xLands μ (j) (gSt μ (j)) (((gHt μ (j)) + w) + 1)) (j) (((gSt μ (j)) + 1) - ((gSt μ (j)) + 1) / 4 * 4) 0) (j) ((gCu (xLands (xLands μ (j) (gSt μ (j)) (((gHt μ (j)) + w) + 1)) (j) (((gSt μ (j)) + 1) - ((gSt μ (j)) + 1) / 4 * 4) 0) (j)) + 1)) ((gCt (xCu (xLands (xLands μ (j) (gSt μ (j)) (((gHt μ (j)) + w) + 1)) (j) (((gSt μ (j)) + 1) - ((gSt μ (j)) + 1) / 4 * 4) 0) (j) ((gCu (xLands (xLands μ (j) (gSt μ (j)) (((gHt μ (j)) + w) + 1)) (j) (((gSt μ (j)) + 1) - ((gSt μ (j)) + 1) / 4 * 4) 0) (j)) + 1))) + 1)))) 1 rfl 4 rfl (by decide) (Nat.le_of_ble_eq_true rfl) dX4_rises_74 (by rw [up_Ct]; rfl) ?_
    refine g_aload_n C dX4_rises_75 rfl rfl ?_
    refine g_get C inX4 0 rfl rfl 0 (by decide) f7 rfl dX4_rises_76 ?_
    refine g_bipush C (v := 14) dX4_rises_79 rfl ?_
    refine g_iload_n C dX4_rises_81 rfl rfl ?_
    refine g_iadd C dX4_rises_82 ?_
    refine g_dup2 C dX4_rises_83 rfl rfl ?_
    refine g_ialdE C 1 rfl (14 + q) (v := (gCf (xCt (xCu (xLands (xLands μ (j) (gSt μ (j)) (((gHt μ (j)) + w) + 1)) (j) (((gSt μ (j)) + 1) - ((gSt μ (j)) + 1) / 4 * 4) 0) (j) ((gCu (xLands (xLands μ (j) (gSt μ (j)) (((gHt μ (j)) + w) + 1)) (j) (((gSt μ (j)) + 1) - ((gSt μ (j)) + 1) / 4 * 4) 0) (j)) + 1)) ((gCt (xCu (xLands (xLands μ (j) (gSt μ (j)) (((gHt μ (j)) + w) + 1)) (j) (((gSt μ (j)) + 1) - ((gSt μ (j)) + 1) / 4 * 4) 0) (j) ((gCu (xLands (xLands μ (j) (gSt μ (j)) (((gHt μ (j)) + w) + 1)) (j) (((gSt μ (j)) + 1) - ((gSt μ (j)) + 1) / 4 * 4) 0) (j)) + 1))) + 1)) (q))) (by rw [hs]; exact nI_add 14 (q)) (by omega) (Nat.le_of_ble_eq_true rfl) (pk_Cf (by omega)) dX4_rises_84 ?_
    refine g_iconst C (v := 1) dX4_rises_85 rfl ?_
    refine g_iadd C dX4_rises_86 ?_
    refine g_iast C (ws' := (modW E m b (xCf (xCt (xCu (xLands (xLands μ (j) (gSt μ (j)) (((gHt μ (j)) + w) + 1)) (j) (((gSt μ (j)) + 1) - ((gSt μ (j)) + 1) / 4 * 4) 0) (j) ((gCu (xLands (xLands μ (j) (gSt μ (j)) (((gHt μ (j)) + w) + 1)) (j) (((gSt μ (j)) + 1) - ((gSt μ (j)) + 1) / 4 * 4) 0) (j)) + 1)) ((gCt (xCu (xLands (xLands μ (j) (gSt μ (j)) (((gHt μ (j)) + w) + 1)) (j) (((gSt μ (j)) + 1) - ((gSt μ (j)) + 1) / 4 * 4) 0) (j) ((gCu (xLands (xLands μ (j) (gSt μ (j)) (((gHt μ (j)) + w) + 1)) (j) (((gSt μ (j)) + 1) - ((gSt μ (j)) + 1) / 4 * 4) 0) (j)) + 1))) + 1)) (q) ((gCf (xCt (xCu (xLands (xLands μ (j) (gSt μ (j)) (((gHt μ (j)) + w) + 1)) (j) (((gSt μ (j)) + 1) - ((gSt μ (j)) + 1) / 4 * 4) 0) (j) ((gCu (xLands (xLands μ (j) (gSt μ (j)) (((gHt μ (j)) + w) + 1)) (j) (((gSt μ (j)) + 1) - ((gSt μ (j)) + 1) / 4 * 4) 0) (j)) + 1)) ((gCt (xCu (xLands (xLands μ (j) (gSt μ (j)) (((gHt μ (j)) + w) + 1)) (j) (((gSt μ (j)) + 1) - ((gSt μ (j)) + 1) / 4 * 4) 0) (j) ((gCu (xLands (xLands μ (j) (gSt μ (j)) (((gHt μ (j)) + w) + 1)) (j) (((gSt μ (j)) + 1) - ((gSt μ (j)) + 1) / 4 * 4) 0) (j)) + 1))) + 1)) (q)) + 1)))) 1 rfl (14 + q) (by rw [hs]; exact nI_add 14 (q)) (by omega) (Nat.le_of_ble_eq_true rfl) dX4_rises_87 (by rw [up_Cf (by omega)]; rfl) ?_
    refine g_iconst C (v := 1) dX4_rises_88 rfl ?_
    refine g_zret C R0 rfl dX4_rises_89 ?_
    have hC : mIsC (mAl μ) j w := hc_36
    exact ⟨Or.inl ⟨hC, rfl⟩, congrArg (modW E m b) (show (xCf (xCt (xCu (xLands (xLands μ (j) (gSt μ (j)) (((gHt μ (j)) + w) + 1)) (j) (((gSt μ (j)) + 1) - ((gSt μ (j)) + 1) / 4 * 4) 0) (j) ((gCu (xLands (xLands μ (j) (gSt μ (j)) (((gHt μ (j)) + w) + 1)) (j) (((gSt μ (j)) + 1) - ((gSt μ (j)) + 1) / 4 * 4) 0) (j)) + 1)) ((gCt (xCu (xLands (xLands μ (j) (gSt μ (j)) (((gHt μ (j)) + w) + 1)) (j) (((gSt μ (j)) + 1) - ((gSt μ (j)) + 1) / 4 * 4) 0) (j) ((gCu (xLands (xLands μ (j) (gSt μ (j)) (((gHt μ (j)) + w) + 1)) (j) (((gSt μ (j)) + 1) - ((gSt μ (j)) + 1) / 4 * 4) 0) (j)) + 1))) + 1)) (q) ((gCf (xCt (xCu (xLands (xLands μ (j) (gSt μ (j)) (((gHt μ (j)) + w) + 1)) (j) (((gSt μ (j)) + 1) - ((gSt μ (j)) + 1) / 4 * 4) 0) (j) ((gCu (xLands (xLands μ (j) (gSt μ (j)) (((gHt μ (j)) + w) + 1)) (j) (((gSt μ (j)) + 1) - ((gSt μ (j)) + 1) / 4 * 4) 0) (j)) + 1)) ((gCt (xCu (xLands (xLands μ (j) (gSt μ (j)) (((gHt μ (j)) + w) + 1)) (j) (((gSt μ (j)) + 1) - ((gSt μ (j)) + 1) / 4 * 4) 0) (j) ((gCu (xLands (xLands μ (j) (gSt μ (j)) (((gHt μ (j)) + w) + 1)) (j) (((gSt μ (j)) + 1) - ((gSt μ (j)) + 1) / 4 * 4) 0) (j)) + 1))) + 1)) (q)) + 1)) = xRises μ j q w from by rw [xRises, mRises, if_pos hC]; rfl)⟩
  · refine g_iconst C (v := 0) dX4_rises_39 rfl ?_
    refine g_zret C R0 rfl dX4_rises_40 ?_
    have hC : ¬ mIsC (mAl μ) j w := hc_36
    exact ⟨Or.inr ⟨hC, rfl⟩, congrArg (modW E m b) (show (xLands μ (j) (gSt μ (j)) (((gHt μ (j)) + w) + 1)) = xRises μ j q w from by rw [xRises, mRises, if_neg hC]; rfl)⟩
set_option maxHeartbeats 4000000 in
set_option maxRecDepth 100000 in
theorem c_X4_doRead (E : Ev) (m : Nat) (b : Nat → Nat) (μ : MD) (j : Nat) (hj : j < 12) (q : Nat) (hq : q < 4) (hs : gSt μ j = nI q) (e : Nat) (he : e < 8) (hbe : gBe μ = nI e) (hr : hR (mAl μ) j (gWi μ e)) : MI E yX4_doRead wsX4_doRead (rmD 5) (modW E m b μ) [.ref m, .int (nI j)] (pM E m b (gNu (xRead μ j q (gWi μ e)) j, xRead μ j q (gWi μ e))) := by
  have inX4 : ∀ w ∈ u_ws RX4 TX4 16, w ∈ wsX4_doRead := by decide +kernel
  have f7 : Cond.fieldLink RX4 7 (TX4 0).1 (TX4 0).2.1 (TX4 0).2.2.1 ∈ wsX4_doRead := by decide +kernel
  refine MI.of (cc := cX4_doRead) (nL := 3) (ty := .int) (own := RX4) [some (.ref m), some (.int (nI j)), none] (by decide +kernel) rfl rfl (Nat.le_of_ble_eq_true rfl) rfl rfl ?_
  intro x C R0
  refine g_aload_n C dX4_doRead_0 rfl rfl ?_
  refine g_iload_n C dX4_doRead_1 rfl rfl ?_
  refine g_aload_n C dX4_doRead_2 rfl rfl ?_
  refine g_calliVF C 0 rfl rfl (c_X4_windNow E m b μ e he hbe) cf_X4_windNow gX4_doRead_X4_windNow rfl (fitD (Nat.le_of_ble_eq_true rfl) (Nat.le_of_ble_eq_true rfl)) rfl rfl (Nat.le_of_ble_eq_true rfl) dX4_doRead_3 (fun r1 w1 hp => ?_)
  obtain ⟨rfl, rfl⟩ := hp
  refine g_calliVF C 0 rfl rfl (c_X4_rises E m b μ (j) (by omega) q hq hs _ hr) cf_X4_rises gX4_doRead_X4_rises rfl (fitD (Nat.le_of_ble_eq_true rfl) (Nat.le_of_ble_eq_true rfl)) rfl rfl (Nat.le_of_ble_eq_true rfl) dX4_doRead_6 (fun r1 w1 hp => ?_)
  obtain ⟨⟨hb_6, rfl⟩ | ⟨hb_6, rfl⟩, rfl⟩ := hp
  · refine g_istore_n C dX4_doRead_9 rfl (Nat.le_of_ble_eq_true rfl) rfl ?_
    refine g_aload_n C dX4_doRead_10 rfl rfl ?_
    refine g_get C inX4 0 rfl rfl 0 (by decide) f7 rfl dX4_doRead_11 ?_
    refine g_bipush C (v := 54) dX4_doRead_14 rfl ?_
    refine g_iload_n C dX4_doRead_16 rfl rfl ?_
    refine g_iadd C dX4_doRead_17 ?_
    refine g_iconst C (v := 1) dX4_doRead_18 rfl ?_
    refine g_iast C (ws' := (modW E m b (xFr (xRises μ (j) q (gWi μ e)) (j) 1))) 1 rfl (54 + j) (nI_add 54 (j)) (by omega) (Nat.le_of_ble_eq_true rfl) dX4_doRead_19 (by rw [up_Fr (by omega)]; rfl) ?_
    refine g_aload_n C dX4_doRead_20 rfl rfl ?_
    refine g_get C inX4 0 rfl rfl 0 (by decide) f7 rfl dX4_doRead_21 ?_
    refine g_bipush C (v := 66) dX4_doRead_24 rfl ?_
    refine g_iload_n C dX4_doRead_26 rfl rfl ?_
    refine g_iadd C dX4_doRead_27 ?_
    refine g_dup2 C dX4_doRead_28 rfl rfl ?_
    refine g_ialdE C 1 rfl (66 + j) (v := (gRe (xFr (xRises μ (j) q (gWi μ e)) (j) 1) (j))) (nI_add 66 (j)) (by omega) (Nat.le_of_ble_eq_true rfl) (pk_Re (by omega)) dX4_doRead_29 ?_
    refine g_iconst C (v := 1) dX4_doRead_30 rfl ?_
    refine g_iadd C dX4_doRead_31 ?_
    refine g_iast C (ws' := (modW E m b (xRe (xFr (xRises μ (j) q (gWi μ e)) (j) 1) (j) ((gRe (xFr (xRises μ (j) q (gWi μ e)) (j) 1) (j)) + 1)))) 1 rfl (66 + j) (nI_add 66 (j)) (by omega) (Nat.le_of_ble_eq_true rfl) dX4_doRead_32 (by rw [up_Re (by omega)]; rfl) ?_
    refine g_aload_n C dX4_doRead_33 rfl rfl ?_
    refine g_get C inX4 0 rfl rfl 0 (by decide) f7 rfl dX4_doRead_34 ?_
    refine g_iconst C (v := 3) dX4_doRead_37 rfl ?_
    refine g_dup2 C dX4_doRead_38 rfl rfl ?_
    refine g_ialdE C 1 rfl 3 (v := (gRs (xRe (xFr (xRises μ (j) q (gWi μ e)) (j) 1) (j) ((gRe (xFr (xRises μ (j) q (gWi μ e)) (j) 1) (j)) + 1)))) rfl (by decide) (Nat.le_of_ble_eq_true rfl) pk_Rs dX4_doRead_39 ?_
    refine g_iconst C (v := 1) dX4_doRead_40 rfl ?_
    refine g_iadd C dX4_doRead_41 ?_
    refine g_iast C (ws' := (modW E m b (xRs (xRe (xFr (xRises μ (j) q (gWi μ e)) (j) 1) (j) ((gRe (xFr (xRises μ (j) q (gWi μ e)) (j) 1) (j)) + 1)) ((gRs (xRe (xFr (xRises μ (j) q (gWi μ e)) (j) 1) (j) ((gRe (xFr (xRises μ (j) q (gWi μ e)) (j) 1) (j)) + 1))) + 1)))) 1 rfl 3 rfl (by decide) (Nat.le_of_ble_eq_true rfl) dX4_doRead_42 (by rw [up_Rs]; rfl) ?_
    refine g_aload_n C dX4_doRead_43 rfl rfl ?_
    refine g_get C inX4 0 rfl rfl 0 (by decide) f7 rfl dX4_doRead_44 ?_
    refine g_bipush C (v := 30) dX4_doRead_47 rfl ?_
    refine g_iload_n C dX4_doRead_49 rfl rfl ?_
    refine g_iadd C dX4_doRead_50 ?_
    refine g_ialdE C 1 rfl (30 + j) (v := (gNu (xRs (xRe (xFr (xRises μ (j) q (gWi μ e)) (j) 1) (j) ((gRe (xFr (xRises μ (j) q (gWi μ e)) (j) 1) (j)) + 1)) ((gRs (xRe (xFr (xRises μ (j) q (gWi μ e)) (j) 1) (j) ((gRe (xFr (xRises μ (j) q (gWi μ e)) (j) 1) (j)) + 1))) + 1)) (j))) (nI_add 30 (j)) (by omega) (Nat.le_of_ble_eq_true rfl) (pk_Nu (by omega)) dX4_doRead_51 ?_
    refine g_iret C R0 dX4_doRead_52 ?_
    exact ⟨rfl, rfl⟩
  · refine g_istore_n C dX4_doRead_9 rfl (Nat.le_of_ble_eq_true rfl) rfl ?_
    refine g_aload_n C dX4_doRead_10 rfl rfl ?_
    refine g_get C inX4 0 rfl rfl 0 (by decide) f7 rfl dX4_doRead_11 ?_
    refine g_bipush C (v := 54) dX4_doRead_14 rfl ?_
    refine g_iload_n C dX4_doRead_16 rfl rfl ?_
    refine g_iadd C dX4_doRead_17 ?_
    refine g_iconst C (v := 1) dX4_doRead_18 rfl ?_
    refine g_iast C (ws' := (modW E m b (xFr (xRises μ (j) q (gWi μ e)) (j) 1))) 1 rfl (54 + j) (nI_add 54 (j)) (by omega) (Nat.le_of_ble_eq_true rfl) dX4_doRead_19 (by rw [up_Fr (by omega)]; rfl) ?_
    refine g_aload_n C dX4_doRead_20 rfl rfl ?_
    refine g_get C inX4 0 rfl rfl 0 (by decide) f7 rfl dX4_doRead_21 ?_
    refine g_bipush C (v := 66) dX4_doRead_24 rfl ?_
    refine g_iload_n C dX4_doRead_26 rfl rfl ?_
    refine g_iadd C dX4_doRead_27 ?_
    refine g_dup2 C dX4_doRead_28 rfl rfl ?_
    refine g_ialdE C 1 rfl (66 + j) (v := (gRe (xFr (xRises μ (j) q (gWi μ e)) (j) 1) (j))) (nI_add 66 (j)) (by omega) (Nat.le_of_ble_eq_true rfl) (pk_Re (by omega)) dX4_doRead_29 ?_
    refine g_iconst C (v := 1) dX4_doRead_30 rfl ?_
    refine g_iadd C dX4_doRead_31 ?_
    refine g_iast C (ws' := (modW E m b (xRe (xFr (xRises μ (j) q (gWi μ e)) (j) 1) (j) ((gRe (xFr (xRises μ (j) q (gWi μ e)) (j) 1) (j)) + 1)))) 1 rfl (66 + j) (nI_add 66 (j)) (by omega) (Nat.le_of_ble_eq_true rfl) dX4_doRead_32 (by rw [up_Re (by omega)]; rfl) ?_
    refine g_aload_n C dX4_doRead_33 rfl rfl ?_
    refine g_get C inX4 0 rfl rfl 0 (by decide) f7 rfl dX4_doRead_34 ?_
    refine g_iconst C (v := 3) dX4_doRead_37 rfl ?_
    refine g_dup2 C dX4_doRead_38 rfl rfl ?_
    refine g_ialdE C 1 rfl 3 (v := (gRs (xRe (xFr (xRises μ (j) q (gWi μ e)) (j) 1) (j) ((gRe (xFr (xRises μ (j) q (gWi μ e)) (j) 1) (j)) + 1)))) rfl (by decide) (Nat.le_of_ble_eq_true rfl) pk_Rs dX4_doRead_39 ?_
    refine g_iconst C (v := 1) dX4_doRead_40 rfl ?_
    refine g_iadd C dX4_doRead_41 ?_
    refine g_iast C (ws' := (modW E m b (xRs (xRe (xFr (xRises μ (j) q (gWi μ e)) (j) 1) (j) ((gRe (xFr (xRises μ (j) q (gWi μ e)) (j) 1) (j)) + 1)) ((gRs (xRe (xFr (xRises μ (j) q (gWi μ e)) (j) 1) (j) ((gRe (xFr (xRises μ (j) q (gWi μ e)) (j) 1) (j)) + 1))) + 1)))) 1 rfl 3 rfl (by decide) (Nat.le_of_ble_eq_true rfl) dX4_doRead_42 (by rw [up_Rs]; rfl) ?_
    refine g_aload_n C dX4_doRead_43 rfl rfl ?_
    refine g_get C inX4 0 rfl rfl 0 (by decide) f7 rfl dX4_doRead_44 ?_
    refine g_bipush C (v := 30) dX4_doRead_47 rfl ?_
    refine g_iload_n C dX4_doRead_49 rfl rfl ?_
    refine g_iadd C dX4_doRead_50 ?_
    refine g_ialdE C 1 rfl (30 + j) (v := (gNu (xRs (xRe (xFr (xRises μ (j) q (gWi μ e)) (j) 1) (j) ((gRe (xFr (xRises μ (j) q (gWi μ e)) (j) 1) (j)) + 1)) ((gRs (xRe (xFr (xRises μ (j) q (gWi μ e)) (j) 1) (j) ((gRe (xFr (xRises μ (j) q (gWi μ e)) (j) 1) (j)) + 1))) + 1)) (j))) (nI_add 30 (j)) (by omega) (Nat.le_of_ble_eq_true rfl) (pk_Nu (by omega)) dX4_doRead_51 ?_
    refine g_iret C R0 dX4_doRead_52 ?_
    exact ⟨rfl, rfl⟩
set_option maxHeartbeats 4000000 in
set_option maxRecDepth 100000 in
theorem c_X4_doWrite (E : Ev) (m : Nat) (b : Nat → Nat) (μ : MD) (j : Nat) (hj : j < 12) (n : Int32) : MI E yX4_doWrite wsX4_doWrite (rmD 0) (modW E m b μ) [.ref m, .int (nI j), .int n] (pM E m b (gNu μ j, xWrite μ j n)) := by
  have inX4 : ∀ w ∈ u_ws RX4 TX4 16, w ∈ wsX4_doWrite := by decide +kernel
  have f7 : Cond.fieldLink RX4 7 (TX4 0).1 (TX4 0).2.1 (TX4 0).2.2.1 ∈ wsX4_doWrite := by decide +kernel
  refine MI.of (cc := cX4_doWrite) (nL := 4) (ty := .int) (own := RX4) [some (.ref m), some (.int (nI j)), some (.int n), none] (by decide +kernel) rfl rfl (Nat.le_of_ble_eq_true rfl) rfl rfl ?_
  intro x C R0
  refine g_aload_n C dX4_doWrite_0 rfl rfl ?_
  refine g_get C inX4 0 rfl rfl 0 (by decide) f7 rfl dX4_doWrite_1 ?_
  refine g_bipush C (v := 30) dX4_doWrite_4 rfl ?_
  refine g_iload_n C dX4_doWrite_6 rfl rfl ?_
  refine g_iadd C dX4_doWrite_7 ?_
  refine g_ialdE C 1 rfl (30 + j) (v := (gNu μ (j))) (nI_add 30 (j)) (by omega) (Nat.le_of_ble_eq_true rfl) (pk_Nu (by omega)) dX4_doWrite_8 ?_
  refine g_istore_n C dX4_doWrite_9 rfl (Nat.le_of_ble_eq_true rfl) rfl ?_
  refine g_aload_n C dX4_doWrite_10 rfl rfl ?_
  refine g_get C inX4 0 rfl rfl 0 (by decide) f7 rfl dX4_doWrite_11 ?_
  refine g_bipush C (v := 30) dX4_doWrite_14 rfl ?_
  refine g_iload_n C dX4_doWrite_16 rfl rfl ?_
  refine g_iadd C dX4_doWrite_17 ?_
  refine g_iload_n C dX4_doWrite_18 rfl rfl ?_
  refine g_iast C (ws' := (modW E m b (xNu μ (j) n))) 1 rfl (30 + j) (nI_add 30 (j)) (by omega) (Nat.le_of_ble_eq_true rfl) dX4_doWrite_19 (by rw [up_Nu (by omega)]; rfl) ?_
  refine g_aload_n C dX4_doWrite_20 rfl rfl ?_
  refine g_get C inX4 0 rfl rfl 0 (by decide) f7 rfl dX4_doWrite_21 ?_
  refine g_bipush C (v := 54) dX4_doWrite_24 rfl ?_
  refine g_iload_n C dX4_doWrite_26 rfl rfl ?_
  refine g_iadd C dX4_doWrite_27 ?_
  refine g_iconst C (v := 1) dX4_doWrite_28 rfl ?_
  refine g_iast C (ws' := (modW E m b (xFr (xNu μ (j) n) (j) 1))) 1 rfl (54 + j) (nI_add 54 (j)) (by omega) (Nat.le_of_ble_eq_true rfl) dX4_doWrite_29 (by rw [up_Fr (by omega)]; rfl) ?_
  refine g_iload_n C dX4_doWrite_30 rfl rfl ?_
  refine g_iret C R0 dX4_doWrite_31 ?_
  exact ⟨rfl, rfl⟩
set_option maxHeartbeats 4000000 in
set_option maxRecDepth 100000 in
theorem c_X4_sinks (E : Ev) (m : Nat) (b : Nat → Nat) (μ : MD) (s : Int32) (hk : hSk (mAl μ) s) : MV E yX4_sinks wsX4_sinks (rmD 2) (modW E m b μ) [.ref m, .int s] (fun w => w = modW E m b (xSink μ s)) := by
  have inX4 : ∀ w ∈ u_ws RX4 TX4 16, w ∈ wsX4_sinks := by decide +kernel
  have f7 : Cond.fieldLink RX4 7 (TX4 0).1 (TX4 0).2.1 (TX4 0).2.2.1 ∈ wsX4_sinks := by decide +kernel
  refine MV.of (cc := cX4_sinks) (nL := 7) (own := RX4) [some (.ref m), some (.int s), none, none, none, none, none] (by decide +kernel) rfl rfl (Nat.le_of_ble_eq_true rfl) rfl rfl ?_
  intro x C R0
  have lp : ∀ (n : Nat) (u : Int32) (ko : Option Nat) (τ : MS), (∀ p, ko = some p → p < 12) → skE s n u ko τ → skG s n u ko τ = mSink (mAl μ) s → G E x (modW E m b (wAl μ τ)) [some (.ref m), some (.int s), some (.int u), some (.int (optI ko)), none, none, none] 10 [] := by
    intro n
    induction n with
    | zero =>
      intro u ko τ hl hE hv
      have hz : ko = none := hE
      subst hz
      refine g_iload_n C dX4_sinks_10 rfl rfl ?_
      refine g_sipush C (v := (-10005)) dX4_sinks_11 rfl ?_
      refine g_icmp_eq_t C dX4_sinks_14 (tgt := 102) (by decide) (by decide) ?_
      refine g_vret C R0 dX4_sinks_102 ?_
      exact congrArg (fun z => modW E m b (wAl μ z)) hv
    | succ n ih =>
      intro u ko τ hl hE hv
      rcases ko with _ | k
      · skip
        refine g_iload_n C dX4_sinks_10 rfl rfl ?_
        refine g_sipush C (v := (-10005)) dX4_sinks_11 rfl ?_
        refine g_icmp_eq_t C dX4_sinks_14 (tgt := 102) (by decide) (by decide) ?_
        refine g_vret C R0 dX4_sinks_102 ?_
        exact congrArg (fun z => modW E m b (wAl μ z)) hv
      · have hk12 := hl k rfl
        refine g_iload_n C dX4_sinks_10 rfl rfl ?_
        refine g_sipush C (v := (-10005)) dX4_sinks_11 rfl ?_
        refine g_icmp_eq_f C dX4_sinks_14 102 (by decide) (nI_neN (by omega)) ?_
        refine g_aload_n C dX4_sinks_17 rfl rfl ?_
        refine g_iload_n C dX4_sinks_18 rfl rfl ?_
        refine g_calliVF C 0 rfl rfl (c_X4_heightOf E m b (wAl μ τ) (k) (by omega)) cf_X4_heightOf gX4_sinks_X4_heightOf rfl (fitD (Nat.le_of_ble_eq_true rfl) (Nat.le_of_ble_eq_true rfl)) rfl rfl (Nat.le_of_ble_eq_true rfl) dX4_sinks_19 (fun r1 w1 hp => ?_)
        obtain ⟨rfl, rfl⟩ := hp
        refine g_aload_n C dX4_sinks_22 rfl rfl ?_
        refine g_get C inX4 0 rfl rfl 0 (by decide) f7 rfl dX4_sinks_23 ?_
        refine g_iconst C (v := 1) dX4_sinks_26 rfl ?_
        refine g_ialdE C 1 rfl 1 (v := (gSi (wAl μ τ))) rfl (by decide) (Nat.le_of_ble_eq_true rfl) pk_Si dX4_sinks_27 ?_
        refine g_isub C dX4_sinks_28 ?_
        refine g_istore C dX4_sinks_29 (Nat.le_of_ble_eq_true rfl) rfl ?_
        refine g_iload_n C dX4_sinks_31 rfl rfl ?_
        refine g_iconst C (v := 1) dX4_sinks_32 rfl ?_
        refine g_iadd C dX4_sinks_33 ?_
        refine g_istore C dX4_sinks_34 (Nat.le_of_ble_eq_true rfl) rfl ?_
        refine g_aload_n C dX4_sinks_36 rfl rfl ?_
        refine g_iload_n C dX4_sinks_37 rfl rfl ?_
        refine g_calliVF C 0 rfl rfl (c_X4_heightOf E m b (wAl μ τ) (k) (by omega)) cf_X4_heightOf gX4_sinks_X4_heightOf rfl (fitD (Nat.le_of_ble_eq_true rfl) (Nat.le_of_ble_eq_true rfl)) rfl rfl (Nat.le_of_ble_eq_true rfl) dX4_sinks_38 (fun r1 w1 hp => ?_)
        obtain ⟨rfl, rfl⟩ := hp
        refine g_istore C dX4_sinks_41 (Nat.le_of_ble_eq_true rfl) rfl ?_
        refine g_aload_n C dX4_sinks_43 rfl rfl ?_
        refine g_get C inX4 0 rfl rfl 0 (by decide) f7 rfl dX4_sinks_44 ?_
        refine g_bipush C (v := 42) dX4_sinks_47 rfl ?_
        refine g_iload_n C dX4_sinks_49 rfl rfl ?_
        refine g_iadd C dX4_sinks_50 ?_
        refine g_aload_n C dX4_sinks_51 rfl rfl ?_
        refine g_get C inX4 0 rfl rfl 0 (by decide) f7 rfl dX4_sinks_52 ?_
        refine g_bipush C (v := 54) dX4_sinks_55 rfl ?_
        refine g_iload_n C dX4_sinks_57 rfl rfl ?_
        refine g_iadd C dX4_sinks_58 ?_
        refine g_ialdE C 1 rfl (54 + k) (v := (gFr (wAl μ τ) (k))) (nI_add 54 (k)) (by omega) (Nat.le_of_ble_eq_true rfl) (pk_Fr (by omega)) dX4_sinks_59 ?_
        refine g_iconst C (v := 1) dX4_sinks_60 rfl ?_
        refine g_icmp_ne C (tgt := 69) dX4_sinks_61 (by decide) (fun hc_61 => ?_) (fun hc_61 => ?_)
        · refine g_iload C dX4_sinks_69 rfl ?_
          refine g_iload C dX4_sinks_71 rfl ?_
          refine g_icmp_ge C (tgt := 81) dX4_sinks_73 (by decide) (fun hc_73 => ?_) (fun hc_73 => ?_)
          · refine g_iload C dX4_sinks_81 rfl ?_
            refine g_iast C (ws' := (modW E m b (xHt (wAl μ τ) (k) ((gHt (wAl μ τ) (k)) - (gSi (wAl μ τ)))))) 1 rfl (42 + k) (nI_add 42 (k)) (by omega) (Nat.le_of_ble_eq_true rfl) dX4_sinks_83 (by rw [up_Ht (by omega)]; rfl) ?_
            refine g_aload_n C dX4_sinks_84 rfl rfl ?_
            refine g_iload_n C dX4_sinks_85 rfl rfl ?_
            refine g_calliVF C 0 rfl rfl (c_X4_heightOf E m b (xHt (wAl μ τ) (k) ((gHt (wAl μ τ) (k)) - (gSi (wAl μ τ)))) (k) (by omega)) cf_X4_heightOf gX4_sinks_X4_heightOf rfl (fitD (Nat.le_of_ble_eq_true rfl) (Nat.le_of_ble_eq_true rfl)) rfl rfl (Nat.le_of_ble_eq_true rfl) dX4_sinks_86 (fun r1 w1 hp => ?_)
            obtain ⟨rfl, rfl⟩ := hp
            rw [show (gHt (xHt (wAl μ τ) (k) ((gHt (wAl μ τ) (k)) - (gSi (wAl μ τ)))) (k)) = ((gHt (wAl μ τ) (k)) - (gSi (wAl μ τ))) from pk_us]
            refine g_istore_n C dX4_sinks_89 rfl (Nat.le_of_ble_eq_true rfl) rfl ?_
            refine g_aload_n C dX4_sinks_90 rfl rfl ?_
            refine g_iload_n C dX4_sinks_91 rfl rfl ?_
            refine g_iload C dX4_sinks_92 rfl ?_
            refine g_iconst C (v := 1) dX4_sinks_94 rfl ?_
            refine g_calliVF C 0 rfl rfl (c_X4_nextTo_up E m b (xHt (wAl μ τ) (k) ((gHt (wAl μ τ) (k)) - (gSi (wAl μ τ)))) _ _) cf_X4_nextTo gX4_sinks_X4_nextTo rfl (fitD (Nat.le_of_ble_eq_true rfl) (Nat.le_of_ble_eq_true rfl)) rfl rfl (Nat.le_of_ble_eq_true rfl) dX4_sinks_95 (fun r1 w1 hp => ?_)
            obtain ⟨rfl, rfl⟩ := hp
            refine g_istore_n C dX4_sinks_98 rfl (Nat.le_of_ble_eq_true rfl) rfl ?_
            refine g_goto C (tgt := 10) dX4_sinks_99 (by decide) ?_
            have hT : mSkT τ k u = ((gHt (wAl μ τ) (k)) - (gSi (wAl μ τ))) := by rw [mSkT, if_neg (show ¬ sFr τ.1 k = 1 from hc_61), if_neg (show ¬ sHt τ.1 k - sSi τ.1 < u + 1 from i32_nlt hc_73)] <;> rfl
            have this := ih (mSkT τ k u) _ (mSkO τ k u) (fun p hp => nxU_lt 12 hp) hE hv
            rw [mSkO, hT] at this
            exact g_drop 4 (g_drop 5 (g_drop 6 this))
          · refine g_iload C dX4_sinks_76 rfl ?_
            refine g_goto C (tgt := 83) dX4_sinks_78 (by decide) ?_
            refine g_iast C (ws' := (modW E m b (xHt (wAl μ τ) (k) (u + 1)))) 1 rfl (42 + k) (nI_add 42 (k)) (by omega) (Nat.le_of_ble_eq_true rfl) dX4_sinks_83 (by rw [up_Ht (by omega)]; rfl) ?_
            refine g_aload_n C dX4_sinks_84 rfl rfl ?_
            refine g_iload_n C dX4_sinks_85 rfl rfl ?_
            refine g_calliVF C 0 rfl rfl (c_X4_heightOf E m b (xHt (wAl μ τ) (k) (u + 1)) (k) (by omega)) cf_X4_heightOf gX4_sinks_X4_heightOf rfl (fitD (Nat.le_of_ble_eq_true rfl) (Nat.le_of_ble_eq_true rfl)) rfl rfl (Nat.le_of_ble_eq_true rfl) dX4_sinks_86 (fun r1 w1 hp => ?_)
            obtain ⟨rfl, rfl⟩ := hp
            rw [show (gHt (xHt (wAl μ τ) (k) (u + 1)) (k)) = (u + 1) from pk_us]
            refine g_istore_n C dX4_sinks_89 rfl (Nat.le_of_ble_eq_true rfl) rfl ?_
            refine g_aload_n C dX4_sinks_90 rfl rfl ?_
            refine g_iload_n C dX4_sinks_91 rfl rfl ?_
            refine g_iload C dX4_sinks_92 rfl ?_
            refine g_iconst C (v := 1) dX4_sinks_94 rfl ?_
            refine g_calliVF C 0 rfl rfl (c_X4_nextTo_up E m b (xHt (wAl μ τ) (k) (u + 1)) _ _) cf_X4_nextTo gX4_sinks_X4_nextTo rfl (fitD (Nat.le_of_ble_eq_true rfl) (Nat.le_of_ble_eq_true rfl)) rfl rfl (Nat.le_of_ble_eq_true rfl) dX4_sinks_95 (fun r1 w1 hp => ?_)
            obtain ⟨rfl, rfl⟩ := hp
            refine g_istore_n C dX4_sinks_98 rfl (Nat.le_of_ble_eq_true rfl) rfl ?_
            refine g_goto C (tgt := 10) dX4_sinks_99 (by decide) ?_
            have hT : mSkT τ k u = (u + 1) := by rw [mSkT, if_neg (show ¬ sFr τ.1 k = 1 from hc_61), if_pos (show sHt τ.1 k - sSi τ.1 < u + 1 from i32_lt.mp hc_73)] <;> rfl
            have this := ih (mSkT τ k u) _ (mSkO τ k u) (fun p hp => nxU_lt 12 hp) hE hv
            rw [mSkO, hT] at this
            exact g_drop 4 (g_drop 5 (g_drop 6 this))
        · refine g_iload C dX4_sinks_64 rfl ?_
          refine g_goto C (tgt := 83) dX4_sinks_66 (by decide) ?_
          refine g_iast C (ws' := (modW E m b (xHt (wAl μ τ) (k) (gHt (wAl μ τ) (k))))) 1 rfl (42 + k) (nI_add 42 (k)) (by omega) (Nat.le_of_ble_eq_true rfl) dX4_sinks_83 (by rw [up_Ht (by omega)]; rfl) ?_
          refine g_aload_n C dX4_sinks_84 rfl rfl ?_
          refine g_iload_n C dX4_sinks_85 rfl rfl ?_
          refine g_calliVF C 0 rfl rfl (c_X4_heightOf E m b (xHt (wAl μ τ) (k) (gHt (wAl μ τ) (k))) (k) (by omega)) cf_X4_heightOf gX4_sinks_X4_heightOf rfl (fitD (Nat.le_of_ble_eq_true rfl) (Nat.le_of_ble_eq_true rfl)) rfl rfl (Nat.le_of_ble_eq_true rfl) dX4_sinks_86 (fun r1 w1 hp => ?_)
          obtain ⟨rfl, rfl⟩ := hp
          rw [show (gHt (xHt (wAl μ τ) (k) (gHt (wAl μ τ) (k))) (k)) = (gHt (wAl μ τ) (k)) from pk_us]
          refine g_istore_n C dX4_sinks_89 rfl (Nat.le_of_ble_eq_true rfl) rfl ?_
          refine g_aload_n C dX4_sinks_90 rfl rfl ?_
          refine g_iload_n C dX4_sinks_91 rfl rfl ?_
          refine g_iload C dX4_sinks_92 rfl ?_
          refine g_iconst C (v := 1) dX4_sinks_94 rfl ?_
          refine g_calliVF C 0 rfl rfl (c_X4_nextTo_up E m b (xHt (wAl μ τ) (k) (gHt (wAl μ τ) (k))) _ _) cf_X4_nextTo gX4_sinks_X4_nextTo rfl (fitD (Nat.le_of_ble_eq_true rfl) (Nat.le_of_ble_eq_true rfl)) rfl rfl (Nat.le_of_ble_eq_true rfl) dX4_sinks_95 (fun r1 w1 hp => ?_)
          obtain ⟨rfl, rfl⟩ := hp
          refine g_istore_n C dX4_sinks_98 rfl (Nat.le_of_ble_eq_true rfl) rfl ?_
          refine g_goto C (tgt := 10) dX4_sinks_99 (by decide) ?_
          have hT : mSkT τ k u = (gHt (wAl μ τ) (k)) := by rw [mSkT, if_pos (show sFr τ.1 k = 1 from hc_61)] <;> rfl
          have this := ih (mSkT τ k u) _ (mSkO τ k u) (fun p hp => nxU_lt 12 hp) hE hv
          rw [mSkO, hT] at this
          exact g_drop 4 (g_drop 5 (g_drop 6 this))
  refine g_iconst C (v := (-1)) dX4_sinks_0 rfl ?_
  refine g_istore_n C dX4_sinks_1 rfl (Nat.le_of_ble_eq_true rfl) rfl ?_
  refine g_aload_n C dX4_sinks_2 rfl rfl ?_
  refine g_iload_n C dX4_sinks_3 rfl rfl ?_
  refine g_iconst C (v := (-1)) dX4_sinks_4 rfl ?_
  refine g_iconst C (v := 1) dX4_sinks_5 rfl ?_
  refine g_calliVF C 0 rfl rfl (c_X4_nextTo_up E m b μ _ _) cf_X4_nextTo gX4_sinks_X4_nextTo rfl (fitD (Nat.le_of_ble_eq_true rfl) (Nat.le_of_ble_eq_true rfl)) rfl rfl (Nat.le_of_ble_eq_true rfl) dX4_sinks_6 (fun r1 w1 hp => ?_)
  obtain ⟨rfl, rfl⟩ := hp
  refine g_istore_n C dX4_sinks_9 rfl (Nat.le_of_ble_eq_true rfl) rfl ?_
  exact lp 12 _ _ (mAl μ) (fun p hp => nxU_lt 12 hp) hk rfl
