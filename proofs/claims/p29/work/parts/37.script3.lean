set_option maxHeartbeats 4000000 in
set_option maxRecDepth 100000 in
theorem c_X1_isCommand (E : Ev) (s : Nat) (a : Nat → Nat) (sg : F) (n : Nat) (hn : n ≤ 80) (vs fs ss : F) (nc p : Nat) (vb nu : Int32) (hnc : nc ≤ 80) (i : Nat) (hi : i < nc) : MI E yX1_isCommand wsX1_isCommand (rmD 0) (scrW E s a sg (n) (vs, fs, ss, nc, p, vb, nu)) [.ref s, .int (nI i)] (pE 1 (scrW E s a sg (n) (vs, fs, ss, nc, p, vb, nu))) := by
  have inX1 : ∀ w ∈ u_ws RX1 TX1 9, w ∈ wsX1_isCommand := by decide +kernel
  have f29 : Cond.fieldLink RX1 29 (TX1 5).1 (TX1 5).2.1 (TX1 5).2.2.1 ∈ wsX1_isCommand := by decide +kernel
  refine MI.of (cc := cX1_isCommand) (nL := 2) (ty := .boolean) (own := RX1) [some (.ref s), some (.int (nI i))] (by decide +kernel) rfl rfl (Nat.le_of_ble_eq_true rfl) rfl rfl ?_
  intro x C R0
  refine g_iload_n C dX1_isCommand_0 rfl rfl ?_
  refine g_if_lt_f C dX1_isCommand_1 22 (by decide) (fun z => i32_lt.mpr z (nI_nn (by omega))) ?_
  refine g_iload_n C dX1_isCommand_4 rfl rfl ?_
  refine g_aload_n C dX1_isCommand_5 rfl rfl ?_
  refine g_get C inX1 0 rfl rfl 5 (by decide) f29 rfl dX1_isCommand_6 ?_
  refine g_icmp_ge C (tgt := 22) dX1_isCommand_9 (by decide) (fun hc_9 => ?_) (fun hc_9 => ?_)
  · have hn_9 : ((nc)) ≤ (i) := (nI_leI (a := ((nc))) (b := (i)) (by omega) (by omega)).mp hc_9
    exact absurd hn_9 (by omega)
  · have hn_9 : ¬ ((nc)) ≤ (i) := fun z => hc_9 ((nI_leI (a := ((nc))) (b := (i)) (by omega) (by omega)).mpr z)
    refine g_iload_n C dX1_isCommand_12 rfl rfl ?_
    refine g_bipush C (v := 80) dX1_isCommand_13 rfl ?_
    refine g_icmp_ge C (tgt := 22) dX1_isCommand_15 (by decide) (fun hc_15 => ?_) (fun hc_15 => ?_)
    · have hn_15 : (80) ≤ (i) := (nI_leI (a := (80)) (b := (i)) (by omega) (by omega)).mp hc_15
      exact absurd hn_15 (by omega)
    · have hn_15 : ¬ (80) ≤ (i) := fun z => hc_15 ((nI_leI (a := (80)) (b := (i)) (by omega) (by omega)).mpr z)
      refine g_iconst C (v := 1) dX1_isCommand_18 rfl ?_
      refine g_goto C (tgt := 23) dX1_isCommand_19 (by decide) ?_
      refine g_zret C R0 rfl dX1_isCommand_23 ?_
      exact pE_mk rfl rfl
set_option maxHeartbeats 4000000 in
set_option maxRecDepth 100000 in
theorem c_X1_verbOf (E : Ev) (s : Nat) (a : Nat → Nat) (sg : F) (n : Nat) (hn : n ≤ 80) (vs fs ss : F) (nc p : Nat) (vb nu : Int32) (hnc : nc ≤ 80) (i : Nat) (hi : i < nc) : MI E yX1_verbOf wsX1_verbOf (rmD 1) (scrW E s a sg (n) (vs, fs, ss, nc, p, vb, nu)) [.ref s, .int (nI i)] (pE (vs i) (scrW E s a sg (n) (vs, fs, ss, nc, p, vb, nu))) := by
  have inX1 : ∀ w ∈ u_ws RX1 TX1 9, w ∈ wsX1_verbOf := by decide +kernel
  have f19 : Cond.fieldLink RX1 19 (TX1 2).1 (TX1 2).2.1 (TX1 2).2.2.1 ∈ wsX1_verbOf := by decide +kernel
  refine MI.of (cc := cX1_verbOf) (nL := 2) (ty := .int) (own := RX1) [some (.ref s), some (.int (nI i))] (by decide +kernel) rfl rfl (Nat.le_of_ble_eq_true rfl) rfl rfl ?_
  intro x C R0
  refine g_aload_n C dX1_verbOf_0 rfl rfl ?_
  refine g_iload_n C dX1_verbOf_1 rfl rfl ?_
  refine g_calliVF C 0 rfl rfl (c_X1_isCommand E s a sg (n) hn vs fs ss nc p vb nu hnc i hi) cf_X1_isCommand gX1_verbOf_X1_isCommand rfl (fitD (Nat.le_of_ble_eq_true rfl) (Nat.le_of_ble_eq_true rfl)) rfl rfl (Nat.le_of_ble_eq_true rfl) dX1_verbOf_2 (fun r1 w1 hp => ?_)
  obtain ⟨rfl, rfl⟩ := hp
  refine g_if_eq_f C dX1_verbOf_5 17 (by decide) (by decide) ?_
  refine g_aload_n C dX1_verbOf_8 rfl rfl ?_
  refine g_get C inX1 0 rfl rfl 2 (by decide) f19 rfl dX1_verbOf_9 ?_
  refine g_iload_n C dX1_verbOf_12 rfl rfl ?_
  refine g_iald C 2 rfl (i) rfl (by omega) (Nat.le_of_ble_eq_true rfl) dX1_verbOf_13 ?_
  refine g_goto C (tgt := 20) dX1_verbOf_14 (by decide) ?_
  refine g_iret C R0 dX1_verbOf_20 ?_
  exact pE_mk rfl rfl
set_option maxHeartbeats 4000000 in
set_option maxRecDepth 100000 in
theorem c_X1_firstOf (E : Ev) (s : Nat) (a : Nat → Nat) (sg : F) (n : Nat) (hn : n ≤ 80) (vs fs ss : F) (nc p : Nat) (vb nu : Int32) (hnc : nc ≤ 80) (i : Nat) (hi : i < nc) : MI E yX1_firstOf wsX1_firstOf (rmD 1) (scrW E s a sg (n) (vs, fs, ss, nc, p, vb, nu)) [.ref s, .int (nI i)] (pE (fs i) (scrW E s a sg (n) (vs, fs, ss, nc, p, vb, nu))) := by
  have inX1 : ∀ w ∈ u_ws RX1 TX1 9, w ∈ wsX1_firstOf := by decide +kernel
  have f23 : Cond.fieldLink RX1 23 (TX1 3).1 (TX1 3).2.1 (TX1 3).2.2.1 ∈ wsX1_firstOf := by decide +kernel
  refine MI.of (cc := cX1_firstOf) (nL := 2) (ty := .int) (own := RX1) [some (.ref s), some (.int (nI i))] (by decide +kernel) rfl rfl (Nat.le_of_ble_eq_true rfl) rfl rfl ?_
  intro x C R0
  refine g_aload_n C dX1_firstOf_0 rfl rfl ?_
  refine g_iload_n C dX1_firstOf_1 rfl rfl ?_
  refine g_calliVF C 0 rfl rfl (c_X1_isCommand E s a sg (n) hn vs fs ss nc p vb nu hnc i hi) cf_X1_isCommand gX1_firstOf_X1_isCommand rfl (fitD (Nat.le_of_ble_eq_true rfl) (Nat.le_of_ble_eq_true rfl)) rfl rfl (Nat.le_of_ble_eq_true rfl) dX1_firstOf_2 (fun r1 w1 hp => ?_)
  obtain ⟨rfl, rfl⟩ := hp
  refine g_if_eq_f C dX1_firstOf_5 17 (by decide) (by decide) ?_
  refine g_aload_n C dX1_firstOf_8 rfl rfl ?_
  refine g_get C inX1 0 rfl rfl 3 (by decide) f23 rfl dX1_firstOf_9 ?_
  refine g_iload_n C dX1_firstOf_12 rfl rfl ?_
  refine g_iald C 3 rfl (i) rfl (by omega) (Nat.le_of_ble_eq_true rfl) dX1_firstOf_13 ?_
  refine g_goto C (tgt := 20) dX1_firstOf_14 (by decide) ?_
  refine g_iret C R0 dX1_firstOf_20 ?_
  exact pE_mk rfl rfl
set_option maxHeartbeats 4000000 in
set_option maxRecDepth 100000 in
theorem c_X1_secondOf (E : Ev) (s : Nat) (a : Nat → Nat) (sg : F) (n : Nat) (hn : n ≤ 80) (vs fs ss : F) (nc p : Nat) (vb nu : Int32) (hnc : nc ≤ 80) (i : Nat) (hi : i < nc) : MI E yX1_secondOf wsX1_secondOf (rmD 1) (scrW E s a sg (n) (vs, fs, ss, nc, p, vb, nu)) [.ref s, .int (nI i)] (pE (ss i) (scrW E s a sg (n) (vs, fs, ss, nc, p, vb, nu))) := by
  have inX1 : ∀ w ∈ u_ws RX1 TX1 9, w ∈ wsX1_secondOf := by decide +kernel
  have f26 : Cond.fieldLink RX1 26 (TX1 4).1 (TX1 4).2.1 (TX1 4).2.2.1 ∈ wsX1_secondOf := by decide +kernel
  refine MI.of (cc := cX1_secondOf) (nL := 2) (ty := .int) (own := RX1) [some (.ref s), some (.int (nI i))] (by decide +kernel) rfl rfl (Nat.le_of_ble_eq_true rfl) rfl rfl ?_
  intro x C R0
  refine g_aload_n C dX1_secondOf_0 rfl rfl ?_
  refine g_iload_n C dX1_secondOf_1 rfl rfl ?_
  refine g_calliVF C 0 rfl rfl (c_X1_isCommand E s a sg (n) hn vs fs ss nc p vb nu hnc i hi) cf_X1_isCommand gX1_secondOf_X1_isCommand rfl (fitD (Nat.le_of_ble_eq_true rfl) (Nat.le_of_ble_eq_true rfl)) rfl rfl (Nat.le_of_ble_eq_true rfl) dX1_secondOf_2 (fun r1 w1 hp => ?_)
  obtain ⟨rfl, rfl⟩ := hp
  refine g_if_eq_f C dX1_secondOf_5 17 (by decide) (by decide) ?_
  refine g_aload_n C dX1_secondOf_8 rfl rfl ?_
  refine g_get C inX1 0 rfl rfl 4 (by decide) f26 rfl dX1_secondOf_9 ?_
  refine g_iload_n C dX1_secondOf_12 rfl rfl ?_
  refine g_iald C 4 rfl (i) rfl (by omega) (Nat.le_of_ble_eq_true rfl) dX1_secondOf_13 ?_
  refine g_goto C (tgt := 20) dX1_secondOf_14 (by decide) ?_
  refine g_iret C R0 dX1_secondOf_20 ?_
  exact pE_mk rfl rfl
set_option maxHeartbeats 4000000 in
set_option maxRecDepth 100000 in
theorem c_X1_append (E : Ev) (s : Nat) (a : Nat → Nat) (sg : F) (n : Nat) (hn : n ≤ 80) (vs fs ss : F) (nc p : Nat) (vb nu : Int32) (c : Int32) (hc : vp_nar .char c = c) : MI E yX1_append wsX1_append (rmD 0) (scrW E s a sg (n) (vs, fs, ss, nc, p, vb, nu)) [.ref s, .int c] (fun r w => n < 80 ∧ r = nI (n + 1) ∧ w = (scrW E s a (upd sg n c) (n + 1) (vs, fs, ss, nc, p, vb, nu)) ∨ ¬ n < 80 ∧ r = -10003 ∧ w = (scrW E s a sg (n) (vs, fs, ss, nc, p, vb, nu))) := by
  have inX1 : ∀ w ∈ u_ws RX1 TX1 9, w ∈ wsX1_append := by decide +kernel
  have f15 : Cond.fieldLink RX1 15 (TX1 1).1 (TX1 1).2.1 (TX1 1).2.2.1 ∈ wsX1_append := by decide +kernel
  have f9 : Cond.fieldLink RX1 9 (TX1 0).1 (TX1 0).2.1 (TX1 0).2.2.1 ∈ wsX1_append := by decide +kernel
  refine MI.of (cc := cX1_append) (nL := 2) (ty := .int) (own := RX1) [some (.ref s), some (.int c)] (by decide +kernel) rfl rfl (Nat.le_of_ble_eq_true rfl) rfl rfl ?_
  intro x C R0
  refine g_aload_n C dX1_append_0 rfl rfl ?_
  refine g_get C inX1 0 rfl rfl 1 (by decide) f15 rfl dX1_append_1 ?_
  refine g_if_lt_f C dX1_append_4 16 (by decide) (fun z => i32_lt.mpr z (nI_nn (by omega))) ?_
  refine g_aload_n C dX1_append_7 rfl rfl ?_
  refine g_get C inX1 0 rfl rfl 1 (by decide) f15 rfl dX1_append_8 ?_
  refine g_bipush C (v := 80) dX1_append_11 rfl ?_
  refine g_icmp_lt C (tgt := 20) dX1_append_13 (by decide) (fun hc_13 => ?_) (fun hc_13 => ?_)
  · have hn_13 : ((n)) < (80) := (nI_ltI (a := ((n))) (b := (80)) (by omega) (by omega)).mp hc_13
    refine g_aload_n C dX1_append_20 rfl rfl ?_
    refine g_get C inX1 0 rfl rfl 0 (by decide) f9 rfl dX1_append_21 ?_
    refine g_aload_n C dX1_append_24 rfl rfl ?_
    refine g_get C inX1 0 rfl rfl 1 (by decide) f15 rfl dX1_append_25 ?_
    refine g_iload_n C dX1_append_28 rfl rfl ?_
    refine g_cast C (ws' := (scrW E s a (upd sg (n) c) (n) (vs, fs, ss, nc, p, vb, nu))) 1 rfl (n) rfl (by omega) (Nat.le_of_ble_eq_true rfl) dX1_append_29 (by rw [hc] <;> rfl) ?_
    refine g_aload_n C dX1_append_30 rfl rfl ?_
    refine g_dup C dX1_append_31 rfl ?_
    refine g_get C inX1 0 rfl rfl 1 (by decide) f15 rfl dX1_append_32 ?_
    refine g_iconst C (v := 1) dX1_append_35 rfl ?_
    refine g_iadd C dX1_append_36 ?_
    rw [show ((nI (n)) + 1) = nI (((n) + 1)) from nI_add ((n)) (1)]
    refine g_put C (ws' := (scrW E s a (upd sg (n) c) (((n) + 1)) (vs, fs, ss, nc, p, vb, nu))) inX1 (ty := .int) tyX1 tyX1_ok nmX1 0 rfl rfl 1 (by decide) f15 rfl (by decide +kernel) rfl rfl (Nat.le_of_ble_eq_true rfl) dX1_append_37 rfl ?_
    refine g_aload_n C dX1_append_40 rfl rfl ?_
    refine g_get C inX1 0 rfl rfl 1 (by decide) f15 rfl dX1_append_41 ?_
    refine g_iret C R0 dX1_append_44 ?_
    exact Or.inl ⟨by omega, rfl, rfl⟩
  · have hn_13 : ¬ ((n)) < (80) := fun z => hc_13 ((nI_ltI (a := ((n))) (b := (80)) (by omega) (by omega)).mpr z)
    refine g_sipush C (v := (-10003)) dX1_append_16 rfl ?_
    refine g_iret C R0 dX1_append_19 ?_
    exact Or.inr ⟨by omega, rfl, rfl⟩
set_option maxHeartbeats 4000000 in
set_option maxRecDepth 100000 in
theorem c_X1_empty (E : Ev) (s : Nat) (a : Nat → Nat) (sg : F) (n : Nat) (hn : n ≤ 80) (vs fs ss : F) (nc p : Nat) (vb nu : Int32) : MI E yX1_empty wsX1_empty (rmD 0) (scrW E s a sg (n) (vs, fs, ss, nc, p, vb, nu)) [.ref s] (pE (nI n) (scrW E s a sg (0) (vs, fs, ss, nc, p, vb, nu))) := by
  have inX1 : ∀ w ∈ u_ws RX1 TX1 9, w ∈ wsX1_empty := by decide +kernel
  have f15 : Cond.fieldLink RX1 15 (TX1 1).1 (TX1 1).2.1 (TX1 1).2.2.1 ∈ wsX1_empty := by decide +kernel
  refine MI.of (cc := cX1_empty) (nL := 2) (ty := .int) (own := RX1) [some (.ref s), none] (by decide +kernel) rfl rfl (Nat.le_of_ble_eq_true rfl) rfl rfl ?_
  intro x C R0
  refine g_aload_n C dX1_empty_0 rfl rfl ?_
  refine g_get C inX1 0 rfl rfl 1 (by decide) f15 rfl dX1_empty_1 ?_
  refine g_istore_n C dX1_empty_4 rfl (Nat.le_of_ble_eq_true rfl) rfl ?_
  refine g_aload_n C dX1_empty_5 rfl rfl ?_
  refine g_iconst C (v := 0) dX1_empty_6 rfl ?_
  refine g_put C (ws' := (scrW E s a sg (0) (vs, fs, ss, nc, p, vb, nu))) inX1 (ty := .int) tyX1 tyX1_ok nmX1 0 rfl rfl 1 (by decide) f15 rfl (by decide +kernel) rfl rfl (Nat.le_of_ble_eq_true rfl) dX1_empty_7 rfl ?_
  refine g_iload_n C dX1_empty_10 rfl rfl ?_
  refine g_iret C R0 dX1_empty_11 ?_
  exact pE_mk rfl rfl
def scB (sg : F) (n : Nat) (vs fs ss : F) (nc : Nat) (w a : R3) : Bool × SZt :=
  if a.1 = true then
    (if w.2.2 = 1 ∨ w.2.2 = 3 then (true, (upd vs nc w.2.2, upd fs nc a.2.2, upd ss nc 0, nc + 1, a.2.1, w.2.2, a.2.2))
     else if (sf2 sg n w.2.2 a.2.1 a.2.2).1 = true then (true, (upd vs nc w.2.2, upd fs nc a.2.2, upd (upd ss nc 0) nc (sf2 sg n w.2.2 a.2.1 a.2.2).2.2, nc + 1, (sf2 sg n w.2.2 a.2.1 a.2.2).2.1, w.2.2, (sf2 sg n w.2.2 a.2.1 a.2.2).2.2))
     else (false, (upd vs nc w.2.2, upd fs nc a.2.2, upd ss nc 0, nc, (sf2 sg n w.2.2 a.2.1 a.2.2).2.1, w.2.2, (sf2 sg n w.2.2 a.2.1 a.2.2).2.2)))
  else (false, (upd vs nc w.2.2, fs, ss, nc, a.2.1, w.2.2, a.2.2))
def scA (sg : F) (n : Nat) (vs fs ss : F) (nc : Nat) (nu : Int32) (w : R3) : Bool × SZt :=
  if w.1 = true then scB sg n vs fs ss nc w (sf1 sg n w.2.2 w.2.1 nu) else (false, (vs, fs, ss, nc, w.2.1, w.2.2, nu))
abbrev scC (sg : F) (n : Nat) (z : SZt) : Bool × SZt := scA sg n z.1 z.2.1 z.2.2.1 z.2.2.2.1 z.2.2.2.2.2.2 (swR sg n z.2.2.2.2.1 z.2.2.2.2.2.1)
set_option maxHeartbeats 4000000 in
set_option maxRecDepth 100000 in
theorem c_X1_scanCommand (E : Ev) (s : Nat) (a : Nat → Nat) (sg : F) (n : Nat) (hn : n ≤ 80) (vs fs ss : F) (nc p : Nat) (vb nu : Int32) (hp : p ≤ n) (hnc : nc < 80) : MI E yX1_scanCommand wsX1_scanCommand (rmD 6) (scrW E s a sg (n) (vs, fs, ss, nc, p, vb, nu)) [.ref s] (pT (scC sg n (vs, fs, ss, nc, p, vb, nu)).1 (scrW E s a sg n (scC sg n (vs, fs, ss, nc, p, vb, nu)).2)) := by
  have inX1 : ∀ w ∈ u_ws RX1 TX1 9, w ∈ wsX1_scanCommand := by decide +kernel
  have f29 : Cond.fieldLink RX1 29 (TX1 5).1 (TX1 5).2.1 (TX1 5).2.2.1 ∈ wsX1_scanCommand := by decide +kernel
  have f19 : Cond.fieldLink RX1 19 (TX1 2).1 (TX1 2).2.1 (TX1 2).2.2.1 ∈ wsX1_scanCommand := by decide +kernel
  have f35 : Cond.fieldLink RX1 35 (TX1 7).1 (TX1 7).2.1 (TX1 7).2.2.1 ∈ wsX1_scanCommand := by decide +kernel
  have f23 : Cond.fieldLink RX1 23 (TX1 3).1 (TX1 3).2.1 (TX1 3).2.2.1 ∈ wsX1_scanCommand := by decide +kernel
  have f38 : Cond.fieldLink RX1 38 (TX1 8).1 (TX1 8).2.1 (TX1 8).2.2.1 ∈ wsX1_scanCommand := by decide +kernel
  have f26 : Cond.fieldLink RX1 26 (TX1 4).1 (TX1 4).2.1 (TX1 4).2.2.1 ∈ wsX1_scanCommand := by decide +kernel
  refine MI.of (cc := cX1_scanCommand) (nL := 2) (ty := .boolean) (own := RX1) [some (.ref s), none] (by decide +kernel) rfl rfl (Nat.le_of_ble_eq_true rfl) rfl rfl ?_
  intro x C R0
  refine g_aload_n C dX1_scanCommand_0 rfl rfl ?_
  have hle_1 := swR_le (sg := sg) (n := n) (vb := vb) (p := p) (by omega)
  refine g_calliVF C 0 rfl rfl (c_X1_scanWord E s a sg (n) hn vs fs ss nc p vb nu (by omega)) cf_X1_scanWord gX1_scanCommand_X1_scanWord rfl (fitD (Nat.le_of_ble_eq_true rfl) (Nat.le_of_ble_eq_true rfl)) rfl rfl (Nat.le_of_ble_eq_true rfl) dX1_scanCommand_1 (fun r1 w1 hp9 => ?_)
  obtain ⟨⟨hb_1, rfl⟩ | ⟨hb_1, rfl⟩, rfl⟩ := hp9
  · refine g_if_ne_t C dX1_scanCommand_4 (tgt := 9) (by decide) (by decide) ?_
    refine g_aload_n C dX1_scanCommand_9 rfl rfl ?_
    refine g_get C inX1 0 rfl rfl 5 (by decide) f29 rfl dX1_scanCommand_10 ?_
    refine g_istore_n C dX1_scanCommand_13 rfl (Nat.le_of_ble_eq_true rfl) rfl ?_
    refine g_iload_n C dX1_scanCommand_14 rfl rfl ?_
    refine g_if_lt_f C dX1_scanCommand_15 24 (by decide) (fun z => i32_lt.mpr z (nI_nn (j := nc) (by omega))) ?_
    refine g_iload_n C dX1_scanCommand_18 rfl rfl ?_
    refine g_bipush C (v := 80) dX1_scanCommand_19 rfl ?_
    refine g_icmp_lt C (tgt := 26) dX1_scanCommand_21 (by decide) (fun hc_21 => ?_) (fun hc_21 => ?_)
    · have hn_21 : ((nc)) < (80) := (nI_ltI (a := ((nc))) (b := (80)) (by omega) (by omega)).mp hc_21
      refine g_aload_n C dX1_scanCommand_26 rfl rfl ?_
      refine g_get C inX1 0 rfl rfl 2 (by decide) f19 rfl dX1_scanCommand_27 ?_
      refine g_iload_n C dX1_scanCommand_30 rfl rfl ?_
      refine g_aload_n C dX1_scanCommand_31 rfl rfl ?_
      refine g_get C inX1 0 rfl rfl 7 (by decide) f35 rfl dX1_scanCommand_32 ?_
      refine g_iast C (ws' := (scrW E s a sg (n) ((upd vs (nc) ((swR sg n (p) vb).2.2)), fs, ss, nc, (swR sg n (p) vb).2.1, (swR sg n (p) vb).2.2, nu))) 2 rfl (nc) rfl (by omega) (Nat.le_of_ble_eq_true rfl) dX1_scanCommand_35 rfl ?_
      refine g_aload_n C dX1_scanCommand_36 rfl rfl ?_
      have hle_37 := sf1_le (sg := sg) (n := n) (vb := (swR sg n (p) vb).2.2) (nu := nu) (p := (swR sg n (p) vb).2.1) (by omega)
      refine g_calliVF C 0 rfl rfl (c_X1_scanFirst E s a sg (n) hn (upd vs (nc) ((swR sg n (p) vb).2.2)) fs ss nc ((swR sg n (p) vb).2.1) ((swR sg n (p) vb).2.2) nu (by omega)) cf_X1_scanFirst gX1_scanCommand_X1_scanFirst rfl (fitD (Nat.le_of_ble_eq_true rfl) (Nat.le_of_ble_eq_true rfl)) rfl rfl (Nat.le_of_ble_eq_true rfl) dX1_scanCommand_37 (fun r1 w1 hp9 => ?_)
      obtain ⟨⟨hb_37, rfl⟩ | ⟨hb_37, rfl⟩, rfl⟩ := hp9
      · refine g_if_ne_t C dX1_scanCommand_40 (tgt := 45) (by decide) (by decide) ?_
        refine g_aload_n C dX1_scanCommand_45 rfl rfl ?_
        refine g_get C inX1 0 rfl rfl 3 (by decide) f23 rfl dX1_scanCommand_46 ?_
        refine g_iload_n C dX1_scanCommand_49 rfl rfl ?_
        refine g_aload_n C dX1_scanCommand_50 rfl rfl ?_
        refine g_get C inX1 0 rfl rfl 8 (by decide) f38 rfl dX1_scanCommand_51 ?_
        refine g_iast C (ws' := (scrW E s a sg (n) ((upd vs (nc) ((swR sg n (p) vb).2.2)), (upd fs (nc) ((sf1 sg n ((swR sg n (p) vb).2.2) ((swR sg n (p) vb).2.1) nu).2.2)), ss, nc, (sf1 sg n ((swR sg n (p) vb).2.2) ((swR sg n (p) vb).2.1) nu).2.1, (swR sg n (p) vb).2.2, (sf1 sg n ((swR sg n (p) vb).2.2) ((swR sg n (p) vb).2.1) nu).2.2))) 3 rfl (nc) rfl (by omega) (Nat.le_of_ble_eq_true rfl) dX1_scanCommand_54 rfl ?_
        refine g_aload_n C dX1_scanCommand_55 rfl rfl ?_
        refine g_get C inX1 0 rfl rfl 4 (by decide) f26 rfl dX1_scanCommand_56 ?_
        refine g_iload_n C dX1_scanCommand_59 rfl rfl ?_
        refine g_iconst C (v := 0) dX1_scanCommand_60 rfl ?_
        refine g_iast C (ws' := (scrW E s a sg (n) ((upd vs (nc) ((swR sg n (p) vb).2.2)), (upd fs (nc) ((sf1 sg n ((swR sg n (p) vb).2.2) ((swR sg n (p) vb).2.1) nu).2.2)), (upd ss (nc) 0), nc, (sf1 sg n ((swR sg n (p) vb).2.2) ((swR sg n (p) vb).2.1) nu).2.1, (swR sg n (p) vb).2.2, (sf1 sg n ((swR sg n (p) vb).2.2) ((swR sg n (p) vb).2.1) nu).2.2))) 4 rfl (nc) rfl (by omega) (Nat.le_of_ble_eq_true rfl) dX1_scanCommand_61 rfl ?_
        refine g_aload_n C dX1_scanCommand_62 rfl rfl ?_
        refine g_get C inX1 0 rfl rfl 7 (by decide) f35 rfl dX1_scanCommand_63 ?_
        refine g_iconst C (v := 1) dX1_scanCommand_66 rfl ?_
        refine g_icmp_eq C (tgt := 97) dX1_scanCommand_67 (by decide) (fun hc_67 => ?_) (fun hc_67 => ?_)
        · refine g_aload_n C dX1_scanCommand_97 rfl rfl ?_
          refine g_dup C dX1_scanCommand_98 rfl ?_
          refine g_get C inX1 0 rfl rfl 5 (by decide) f29 rfl dX1_scanCommand_99 ?_
          refine g_iconst C (v := 1) dX1_scanCommand_102 rfl ?_
          refine g_iadd C dX1_scanCommand_103 ?_
          rw [show ((nI (nc)) + 1) = nI (((nc) + 1)) from nI_add ((nc)) (1)]
          refine g_put C (ws' := (scrW E s a sg (n) ((upd vs (nc) ((swR sg n (p) vb).2.2)), (upd fs (nc) ((sf1 sg n ((swR sg n (p) vb).2.2) ((swR sg n (p) vb).2.1) nu).2.2)), (upd ss (nc) 0), ((nc) + 1), (sf1 sg n ((swR sg n (p) vb).2.2) ((swR sg n (p) vb).2.1) nu).2.1, (swR sg n (p) vb).2.2, (sf1 sg n ((swR sg n (p) vb).2.2) ((swR sg n (p) vb).2.1) nu).2.2))) inX1 (ty := .int) tyX1 tyX1_ok nmX1 0 rfl rfl 5 (by decide) f29 rfl (by decide +kernel) rfl rfl (Nat.le_of_ble_eq_true rfl) dX1_scanCommand_104 rfl ?_
          refine g_iconst C (v := 1) dX1_scanCommand_107 rfl ?_
          refine g_zret C R0 rfl dX1_scanCommand_108 ?_
          have hx : (scC sg n (vs, fs, ss, nc, p, vb, nu)) = (true, ((upd vs (nc) ((swR sg n (p) vb).2.2)), (upd fs (nc) ((sf1 sg n ((swR sg n (p) vb).2.2) ((swR sg n (p) vb).2.1) nu).2.2)), (upd ss (nc) 0), ((nc) + 1), (sf1 sg n ((swR sg n (p) vb).2.2) ((swR sg n (p) vb).2.1) nu).2.1, (swR sg n (p) vb).2.2, (sf1 sg n ((swR sg n (p) vb).2.2) ((swR sg n (p) vb).2.1) nu).2.2)) := by
            show scA sg n vs fs ss nc nu (swR sg n p vb) = _
            rw [scA, if_pos hb_1, scB, if_pos hb_37, if_pos (Or.inl hc_67)]
          exact pT3 (c := true) (by rw [hx]) (Or.inl ⟨rfl, rfl⟩) (by rw [hx])
        · refine g_aload_n C dX1_scanCommand_70 rfl rfl ?_
          refine g_get C inX1 0 rfl rfl 7 (by decide) f35 rfl dX1_scanCommand_71 ?_
          refine g_iconst C (v := 3) dX1_scanCommand_74 rfl ?_
          refine g_icmp_eq C (tgt := 97) dX1_scanCommand_75 (by decide) (fun hc_75 => ?_) (fun hc_75 => ?_)
          · refine g_aload_n C dX1_scanCommand_97 rfl rfl ?_
            refine g_dup C dX1_scanCommand_98 rfl ?_
            refine g_get C inX1 0 rfl rfl 5 (by decide) f29 rfl dX1_scanCommand_99 ?_
            refine g_iconst C (v := 1) dX1_scanCommand_102 rfl ?_
            refine g_iadd C dX1_scanCommand_103 ?_
            rw [show ((nI (nc)) + 1) = nI (((nc) + 1)) from nI_add ((nc)) (1)]
            refine g_put C (ws' := (scrW E s a sg (n) ((upd vs (nc) ((swR sg n (p) vb).2.2)), (upd fs (nc) ((sf1 sg n ((swR sg n (p) vb).2.2) ((swR sg n (p) vb).2.1) nu).2.2)), (upd ss (nc) 0), ((nc) + 1), (sf1 sg n ((swR sg n (p) vb).2.2) ((swR sg n (p) vb).2.1) nu).2.1, (swR sg n (p) vb).2.2, (sf1 sg n ((swR sg n (p) vb).2.2) ((swR sg n (p) vb).2.1) nu).2.2))) inX1 (ty := .int) tyX1 tyX1_ok nmX1 0 rfl rfl 5 (by decide) f29 rfl (by decide +kernel) rfl rfl (Nat.le_of_ble_eq_true rfl) dX1_scanCommand_104 rfl ?_
            refine g_iconst C (v := 1) dX1_scanCommand_107 rfl ?_
            refine g_zret C R0 rfl dX1_scanCommand_108 ?_
            have hx : (scC sg n (vs, fs, ss, nc, p, vb, nu)) = (true, ((upd vs (nc) ((swR sg n (p) vb).2.2)), (upd fs (nc) ((sf1 sg n ((swR sg n (p) vb).2.2) ((swR sg n (p) vb).2.1) nu).2.2)), (upd ss (nc) 0), ((nc) + 1), (sf1 sg n ((swR sg n (p) vb).2.2) ((swR sg n (p) vb).2.1) nu).2.1, (swR sg n (p) vb).2.2, (sf1 sg n ((swR sg n (p) vb).2.2) ((swR sg n (p) vb).2.1) nu).2.2)) := by
              show scA sg n vs fs ss nc nu (swR sg n p vb) = _
              rw [scA, if_pos hb_1, scB, if_pos hb_37, if_pos (Or.inr hc_75)]
            exact pT3 (c := true) (by rw [hx]) (Or.inl ⟨rfl, rfl⟩) (by rw [hx])
          · refine g_aload_n C dX1_scanCommand_78 rfl rfl ?_
            have hle_79 := sf2_le (sg := sg) (n := n) (vb := (swR sg n (p) vb).2.2) (nu := (sf1 sg n ((swR sg n (p) vb).2.2) ((swR sg n (p) vb).2.1) nu).2.2) (p := (sf1 sg n ((swR sg n (p) vb).2.2) ((swR sg n (p) vb).2.1) nu).2.1) (by omega)
            refine g_calliVF C 0 rfl rfl (c_X1_scanSecond E s a sg (n) hn (upd vs (nc) ((swR sg n (p) vb).2.2)) (upd fs (nc) ((sf1 sg n ((swR sg n (p) vb).2.2) ((swR sg n (p) vb).2.1) nu).2.2)) (upd ss (nc) 0) nc ((sf1 sg n ((swR sg n (p) vb).2.2) ((swR sg n (p) vb).2.1) nu).2.1) ((swR sg n (p) vb).2.2) ((sf1 sg n ((swR sg n (p) vb).2.2) ((swR sg n (p) vb).2.1) nu).2.2) (by omega)) cf_X1_scanSecond gX1_scanCommand_X1_scanSecond rfl (fitD (Nat.le_of_ble_eq_true rfl) (Nat.le_of_ble_eq_true rfl)) rfl rfl (Nat.le_of_ble_eq_true rfl) dX1_scanCommand_79 (fun r1 w1 hp9 => ?_)
            obtain ⟨⟨hb_79, rfl⟩ | ⟨hb_79, rfl⟩, rfl⟩ := hp9
            · refine g_if_ne_t C dX1_scanCommand_82 (tgt := 87) (by decide) (by decide) ?_
              refine g_aload_n C dX1_scanCommand_87 rfl rfl ?_
              refine g_get C inX1 0 rfl rfl 4 (by decide) f26 rfl dX1_scanCommand_88 ?_
              refine g_iload_n C dX1_scanCommand_91 rfl rfl ?_
              refine g_aload_n C dX1_scanCommand_92 rfl rfl ?_
              refine g_get C inX1 0 rfl rfl 8 (by decide) f38 rfl dX1_scanCommand_93 ?_
              refine g_iast C (ws' := (scrW E s a sg (n) ((upd vs (nc) ((swR sg n (p) vb).2.2)), (upd fs (nc) ((sf1 sg n ((swR sg n (p) vb).2.2) ((swR sg n (p) vb).2.1) nu).2.2)), (upd (upd ss (nc) 0) (nc) ((sf2 sg n ((swR sg n (p) vb).2.2) ((sf1 sg n ((swR sg n (p) vb).2.2) ((swR sg n (p) vb).2.1) nu).2.1) ((sf1 sg n ((swR sg n (p) vb).2.2) ((swR sg n (p) vb).2.1) nu).2.2)).2.2)), nc, (sf2 sg n ((swR sg n (p) vb).2.2) ((sf1 sg n ((swR sg n (p) vb).2.2) ((swR sg n (p) vb).2.1) nu).2.1) ((sf1 sg n ((swR sg n (p) vb).2.2) ((swR sg n (p) vb).2.1) nu).2.2)).2.1, (swR sg n (p) vb).2.2, (sf2 sg n ((swR sg n (p) vb).2.2) ((sf1 sg n ((swR sg n (p) vb).2.2) ((swR sg n (p) vb).2.1) nu).2.1) ((sf1 sg n ((swR sg n (p) vb).2.2) ((swR sg n (p) vb).2.1) nu).2.2)).2.2))) 4 rfl (nc) rfl (by omega) (Nat.le_of_ble_eq_true rfl) dX1_scanCommand_96 rfl ?_
              refine g_aload_n C dX1_scanCommand_97 rfl rfl ?_
              refine g_dup C dX1_scanCommand_98 rfl ?_
              refine g_get C inX1 0 rfl rfl 5 (by decide) f29 rfl dX1_scanCommand_99 ?_
              refine g_iconst C (v := 1) dX1_scanCommand_102 rfl ?_
              refine g_iadd C dX1_scanCommand_103 ?_
              rw [show ((nI (nc)) + 1) = nI (((nc) + 1)) from nI_add ((nc)) (1)]
              refine g_put C (ws' := (scrW E s a sg (n) ((upd vs (nc) ((swR sg n (p) vb).2.2)), (upd fs (nc) ((sf1 sg n ((swR sg n (p) vb).2.2) ((swR sg n (p) vb).2.1) nu).2.2)), (upd (upd ss (nc) 0) (nc) ((sf2 sg n ((swR sg n (p) vb).2.2) ((sf1 sg n ((swR sg n (p) vb).2.2) ((swR sg n (p) vb).2.1) nu).2.1) ((sf1 sg n ((swR sg n (p) vb).2.2) ((swR sg n (p) vb).2.1) nu).2.2)).2.2)), ((nc) + 1), (sf2 sg n ((swR sg n (p) vb).2.2) ((sf1 sg n ((swR sg n (p) vb).2.2) ((swR sg n (p) vb).2.1) nu).2.1) ((sf1 sg n ((swR sg n (p) vb).2.2) ((swR sg n (p) vb).2.1) nu).2.2)).2.1, (swR sg n (p) vb).2.2, (sf2 sg n ((swR sg n (p) vb).2.2) ((sf1 sg n ((swR sg n (p) vb).2.2) ((swR sg n (p) vb).2.1) nu).2.1) ((sf1 sg n ((swR sg n (p) vb).2.2) ((swR sg n (p) vb).2.1) nu).2.2)).2.2))) inX1 (ty := .int) tyX1 tyX1_ok nmX1 0 rfl rfl 5 (by decide) f29 rfl (by decide +kernel) rfl rfl (Nat.le_of_ble_eq_true rfl) dX1_scanCommand_104 rfl ?_
              refine g_iconst C (v := 1) dX1_scanCommand_107 rfl ?_
              refine g_zret C R0 rfl dX1_scanCommand_108 ?_
              have hx : (scC sg n (vs, fs, ss, nc, p, vb, nu)) = (true, ((upd vs (nc) ((swR sg n (p) vb).2.2)), (upd fs (nc) ((sf1 sg n ((swR sg n (p) vb).2.2) ((swR sg n (p) vb).2.1) nu).2.2)), (upd (upd ss (nc) 0) (nc) ((sf2 sg n ((swR sg n (p) vb).2.2) ((sf1 sg n ((swR sg n (p) vb).2.2) ((swR sg n (p) vb).2.1) nu).2.1) ((sf1 sg n ((swR sg n (p) vb).2.2) ((swR sg n (p) vb).2.1) nu).2.2)).2.2)), ((nc) + 1), (sf2 sg n ((swR sg n (p) vb).2.2) ((sf1 sg n ((swR sg n (p) vb).2.2) ((swR sg n (p) vb).2.1) nu).2.1) ((sf1 sg n ((swR sg n (p) vb).2.2) ((swR sg n (p) vb).2.1) nu).2.2)).2.1, (swR sg n (p) vb).2.2, (sf2 sg n ((swR sg n (p) vb).2.2) ((sf1 sg n ((swR sg n (p) vb).2.2) ((swR sg n (p) vb).2.1) nu).2.1) ((sf1 sg n ((swR sg n (p) vb).2.2) ((swR sg n (p) vb).2.1) nu).2.2)).2.2)) := by
                show scA sg n vs fs ss nc nu (swR sg n p vb) = _
                rw [scA, if_pos hb_1, scB, if_pos hb_37, if_neg (fun z => z.elim hc_67 hc_75), if_pos hb_79]
              exact pT3 (c := true) (by rw [hx]) (Or.inl ⟨rfl, rfl⟩) (by rw [hx])
            · refine g_if_ne_f C dX1_scanCommand_82 87 (by decide) (by decide) ?_
              refine g_iconst C (v := 0) dX1_scanCommand_85 rfl ?_
              refine g_zret C R0 rfl dX1_scanCommand_86 ?_
              have hx : (scC sg n (vs, fs, ss, nc, p, vb, nu)) = (false, ((upd vs (nc) ((swR sg n (p) vb).2.2)), (upd fs (nc) ((sf1 sg n ((swR sg n (p) vb).2.2) ((swR sg n (p) vb).2.1) nu).2.2)), (upd ss (nc) 0), nc, (sf2 sg n ((swR sg n (p) vb).2.2) ((sf1 sg n ((swR sg n (p) vb).2.2) ((swR sg n (p) vb).2.1) nu).2.1) ((sf1 sg n ((swR sg n (p) vb).2.2) ((swR sg n (p) vb).2.1) nu).2.2)).2.1, (swR sg n (p) vb).2.2, (sf2 sg n ((swR sg n (p) vb).2.2) ((sf1 sg n ((swR sg n (p) vb).2.2) ((swR sg n (p) vb).2.1) nu).2.1) ((sf1 sg n ((swR sg n (p) vb).2.2) ((swR sg n (p) vb).2.1) nu).2.2)).2.2)) := by
                show scA sg n vs fs ss nc nu (swR sg n p vb) = _
                rw [scA, if_pos hb_1, scB, if_pos hb_37, if_neg (fun z => z.elim hc_67 hc_75), if_neg (by rw [hb_79]; decide)]
              exact pT3 (c := false) (by rw [hx]) (Or.inr ⟨rfl, rfl⟩) (by rw [hx])
      · refine g_if_ne_f C dX1_scanCommand_40 45 (by decide) (by decide) ?_
        refine g_iconst C (v := 0) dX1_scanCommand_43 rfl ?_
        refine g_zret C R0 rfl dX1_scanCommand_44 ?_
        have hx : (scC sg n (vs, fs, ss, nc, p, vb, nu)) = (false, ((upd vs (nc) ((swR sg n (p) vb).2.2)), fs, ss, nc, (sf1 sg n ((swR sg n (p) vb).2.2) ((swR sg n (p) vb).2.1) nu).2.1, (swR sg n (p) vb).2.2, (sf1 sg n ((swR sg n (p) vb).2.2) ((swR sg n (p) vb).2.1) nu).2.2)) := by
          show scA sg n vs fs ss nc nu (swR sg n p vb) = _
          rw [scA, if_pos hb_1, scB, if_neg (by rw [hb_37]; decide)]
        exact pT3 (c := false) (by rw [hx]) (Or.inr ⟨rfl, rfl⟩) (by rw [hx])
    · have hn_21 : ¬ ((nc)) < (80) := fun z => hc_21 ((nI_ltI (a := ((nc))) (b := (80)) (by omega) (by omega)).mpr z)
      exact absurd hn_21 (by omega)
  · refine g_if_ne_f C dX1_scanCommand_4 9 (by decide) (by decide) ?_
    refine g_iconst C (v := 0) dX1_scanCommand_7 rfl ?_
    refine g_zret C R0 rfl dX1_scanCommand_8 ?_
    have hx : (scC sg n (vs, fs, ss, nc, p, vb, nu)) = (false, (vs, fs, ss, nc, (swR sg n (p) vb).2.1, (swR sg n (p) vb).2.2, nu)) := by
      show scA sg n vs fs ss nc nu (swR sg n p vb) = _
      rw [scA, if_neg (by rw [hb_1]; decide)]
    exact pT3 (c := false) (by rw [hx]) (Or.inr ⟨rfl, rfl⟩) (by rw [hx])
theorem scC_le {sg : F} {n : Nat} {z : SZt} (h : z.2.2.2.2.1 ≤ n) : (scC sg n z).2.2.2.2.2.1 ≤ n ∧ z.2.2.2.2.1 ≤ (scC sg n z).2.2.2.2.2.1 ∧ ((scC sg n z).1 = true → (scC sg n z).2.2.2.2.1 = z.2.2.2.1 + 1 ∧ z.2.2.2.2.1 < (scC sg n z).2.2.2.2.2.1) := by
  have h1 := swR_le (sg := sg) (vb := z.2.2.2.2.2.1) h
  have h2 := sf1_le (sg := sg) (n := n) (vb := (swR sg n z.2.2.2.2.1 z.2.2.2.2.2.1).2.2) (nu := z.2.2.2.2.2.2) h1.1
  have h3 := sf2_le (sg := sg) (n := n) (vb := (swR sg n z.2.2.2.2.1 z.2.2.2.2.2.1).2.2) (nu := (sf1 sg n (swR sg n z.2.2.2.2.1 z.2.2.2.2.2.1).2.2 (swR sg n z.2.2.2.2.1 z.2.2.2.2.2.1).2.1 z.2.2.2.2.2.2).2.2) h2.1
  have h4 : ∀ l t nu q, (snR sg n l t q nu).1 = true → q < (snR sg n l t q nu).2.1 := by
    intro l t nu q hq
    unfold snR at hq ⊢
    split
    · rename_i k1
      have k2 := sgA_lt k1 (by decide)
      rw [if_pos k1] at hq
      split
      · rename_i k3
        split
        · rename_i k4
          have k5 := sgA_lt k4 (by decide)
          have := snD_le (sg := sg) (n := n) (neg := true) (l := l) (lim := -l) (nu := nu) (p := q + 2) (by omega)
          omega
        · have := snD_le (sg := sg) (n := n) (neg := false) (l := l) (lim := t) (nu := nu) (p := q + 1) (by omega)
          omega
      · have := snD_le (sg := sg) (n := n) (neg := false) (l := l) (lim := t) (nu := nu) (p := q + 1) (by omega)
        omega
    · rename_i k1
      rw [if_neg k1] at hq
      cases hq
  have h5 : (sf1 sg n (swR sg n z.2.2.2.2.1 z.2.2.2.2.2.1).2.2 (swR sg n z.2.2.2.2.1 z.2.2.2.2.2.1).2.1 z.2.2.2.2.2.2).1 = true → (swR sg n z.2.2.2.2.1 z.2.2.2.2.2.1).2.1 < (sf1 sg n (swR sg n z.2.2.2.2.1 z.2.2.2.2.2.1).2.2 (swR sg n z.2.2.2.2.1 z.2.2.2.2.2.1).2.1 z.2.2.2.2.2.2).2.1 := by
    unfold sf1
    repeat' split
    all_goals exact h4 _ _ _ _
  unfold scC scA
  split
  · unfold scB
    split
    · rename_i k1 k2
      have k3 := h5 k2
      split
      · exact ⟨h2.1, by dsimp only; omega, fun _ => ⟨rfl, by dsimp only; omega⟩⟩
      · split
        · exact ⟨h3.1, by dsimp only; omega, fun _ => ⟨rfl, by dsimp only; omega⟩⟩
        · exact ⟨h3.1, by dsimp only; omega, fun z => by cases z⟩
    · exact ⟨h2.1, by dsimp only; omega, fun z => by cases z⟩
  · exact ⟨h1.1, h1.2, fun z => by cases z⟩
def zP (z : SZt) : SZt := (z.1, z.2.1, z.2.2.1, z.2.2.2.1, z.2.2.2.2.1 + 1, z.2.2.2.2.2.1, z.2.2.2.2.2.2)
/-- the answer, and the state behind it -/
def scF (sg : F) (n : Nat) : Nat → SZt → Int32 × SZt
  | 0, z => (nI z.2.2.2.2.1, z)
  | f + 1, z => if (scC sg n z).1 = true then (if sgA sg n (scC sg n z).2.2.2.2.2.1 = -1 then (-10005, (scC sg n z).2) else if sgA sg n (scC sg n z).2.2.2.2.2.1 = 59 then scF sg n f (zP (scC sg n z).2) else (nI (scC sg n z).2.2.2.2.2.1, (scC sg n z).2)) else (nI (scC sg n z).2.2.2.2.2.1, (scC sg n z).2)
abbrev scS (sg : F) (n : Nat) (z : SZt) : Int32 × SZt := scF sg n 80 (z.1, z.2.1, z.2.2.1, 0, 0, z.2.2.2.2.2.1, z.2.2.2.2.2.2)
def pS2 (X : Int32 × SZt) (f : SZt → va_W) : Int32 → va_W → Prop := fun r w => r = X.1 ∧ w = f X.2
theorem pS2_mk {X : Int32 × SZt} {f : SZt → va_W} {r : Int32} {z : SZt} {w : va_W} (e : X = (r, z)) (h : w = f z) : pS2 X f r w := ⟨by rw [e], by rw [e]; exact h⟩
set_option maxHeartbeats 4000000 in
set_option maxRecDepth 100000 in
theorem c_X1_scan (E : Ev) (s : Nat) (a : Nat → Nat) (sg : F) (n : Nat) (hn : n ≤ 80) (vs fs ss : F) (nc p : Nat) (vb nu : Int32) : MI E yX1_scan wsX1_scan (rmD 7) (scrW E s a sg (n) (vs, fs, ss, nc, p, vb, nu)) [.ref s] (pS2 (scS sg n (vs, fs, ss, nc, p, vb, nu)) (fun z => scrW E s a sg n z)) := by
  have inX1 : ∀ w ∈ u_ws RX1 TX1 9, w ∈ wsX1_scan := by decide +kernel
  have f32 : Cond.fieldLink RX1 32 (TX1 6).1 (TX1 6).2.1 (TX1 6).2.2.1 ∈ wsX1_scan := by decide +kernel
  have f29 : Cond.fieldLink RX1 29 (TX1 5).1 (TX1 5).2.1 (TX1 5).2.2.1 ∈ wsX1_scan := by decide +kernel
  refine MI.of (cc := cX1_scan) (nL := 2) (ty := .int) (own := RX1) [some (.ref s), none] (by decide +kernel) rfl rfl (Nat.le_of_ble_eq_true rfl) rfl rfl ?_
  intro x C R0
  have lp : ∀ (f i : Nat) (z : SZt), f + i = 80 → z.2.2.2.2.1 ≤ n → z.2.2.2.1 = i → scF sg n f z = scS sg n (vs, fs, ss, nc, p, vb, nu) → G E x (scrW E s a sg n z) [some (.ref s), some (.int (nI i))] 12 [] := by
    intro f
    induction f with
    | zero =>
      intro i z hf hq hz hv
      refine g_iload_n C dX1_scan_12 rfl rfl ?_
      refine g_bipush C (v := 80) dX1_scan_13 rfl ?_
      refine g_icmp_ge C (tgt := 66) dX1_scan_15 (by decide) (fun hc_15 => ?_) (fun hc_15 => ?_)
      · have hn_15 : (80) ≤ (i) := (nI_leI (a := (80)) (b := (i)) (by omega) (by omega)).mp hc_15
        refine g_aload_n C dX1_scan_66 rfl rfl ?_
        refine g_get C inX1 0 rfl rfl 6 (by decide) f32 rfl dX1_scan_67 ?_
        refine g_iret C R0 dX1_scan_70 ?_
        rw [scF] at hv
        exact pS2_mk hv.symm rfl
      · have hn_15 : ¬ (80) ≤ (i) := fun z => hc_15 ((nI_leI (a := (80)) (b := (i)) (by omega) (by omega)).mpr z)
        exact absurd hn_15 (by omega)
    | succ f ih =>
      intro i z hf hq hz hv
      refine g_iload_n C dX1_scan_12 rfl rfl ?_
      refine g_bipush C (v := 80) dX1_scan_13 rfl ?_
      refine g_icmp_ge C (tgt := 66) dX1_scan_15 (by decide) (fun hc_15 => ?_) (fun hc_15 => ?_)
      · have hn_15 : (80) ≤ (i) := (nI_leI (a := (80)) (b := (i)) (by omega) (by omega)).mp hc_15
        exact absurd hn_15 (by omega)
      · have hn_15 : ¬ (80) ≤ (i) := fun z => hc_15 ((nI_leI (a := (80)) (b := (i)) (by omega) (by omega)).mpr z)
        refine g_aload_n C dX1_scan_18 rfl rfl ?_
        have hle := scC_le (sg := sg) (n := n) (z := z) (by omega)
        refine g_calliVF C 0 rfl rfl (c_X1_scanCommand E s a sg n hn z.1 z.2.1 z.2.2.1 z.2.2.2.1 z.2.2.2.2.1 z.2.2.2.2.2.1 z.2.2.2.2.2.2 (by omega) (by omega)) cf_X1_scanCommand gX1_scan_X1_scanCommand rfl (fitD (Nat.le_of_ble_eq_true rfl) (Nat.le_of_ble_eq_true rfl)) rfl rfl (Nat.le_of_ble_eq_true rfl) dX1_scan_19 (fun r1 w1 hp9 => ?_)
        obtain ⟨⟨hb_19, rfl⟩ | ⟨hb_19, rfl⟩, rfl⟩ := hp9
        · refine g_if_ne_t C dX1_scan_22 (tgt := 30) (by decide) (by decide) ?_
          refine g_aload_n C dX1_scan_30 rfl rfl ?_
          refine g_aload_n C dX1_scan_31 rfl rfl ?_
          refine g_get C inX1 0 rfl rfl 6 (by decide) f32 rfl dX1_scan_32 ?_
          refine g_calliVF C 0 rfl rfl (c_X1_signAt E s a sg (n) hn ((scC sg n z).2.1) ((scC sg n z).2.2.1) ((scC sg n z).2.2.2.1) ((scC sg n z).2.2.2.2.1) ((scC sg n z).2.2.2.2.2.1) ((scC sg n z).2.2.2.2.2.2.1) ((scC sg n z).2.2.2.2.2.2.2) (((scC sg n z).2.2.2.2.2.1)) (by omega)) cf_X1_signAt gX1_scan_X1_signAt rfl (fitD (Nat.le_of_ble_eq_true rfl) (Nat.le_of_ble_eq_true rfl)) rfl rfl (Nat.le_of_ble_eq_true rfl) dX1_scan_35 (fun r1 w1 hp => ?_)
          obtain ⟨rfl, rfl⟩ := hp
          refine g_iconst C (v := (-1)) dX1_scan_38 rfl ?_
          refine g_icmp_ne C (tgt := 46) dX1_scan_39 (by decide) (fun hc_39 => ?_) (fun hc_39 => ?_)
          · refine g_aload_n C dX1_scan_46 rfl rfl ?_
            refine g_bipush C (v := 59) dX1_scan_47 rfl ?_
            refine g_calliVF C 0 rfl rfl (c_X1_skip E s a sg n hn (scC sg n z).2.1 (scC sg n z).2.2.1 (scC sg n z).2.2.2.1 (scC sg n z).2.2.2.2.1 (scC sg n z).2.2.2.2.2.1 (scC sg n z).2.2.2.2.2.2.1 (scC sg n z).2.2.2.2.2.2.2 (by omega) _) cf_X1_skip gX1_scan_X1_skip rfl (fitD (Nat.le_of_ble_eq_true rfl) (Nat.le_of_ble_eq_true rfl)) rfl rfl (Nat.le_of_ble_eq_true rfl) dX1_scan_49 (fun r1 w1 hp9 => ?_)
            obtain ⟨hb_49, rfl, rfl⟩ | ⟨hb_49, rfl, rfl⟩ := hp9
            · refine g_if_ne_t C dX1_scan_52 (tgt := 60) (by decide) (by decide) ?_
              refine g_iinc C (v := (nI (i + 1))) dX1_scan_60 rfl rfl (nI_add (i) 1) ?_
              refine g_goto C (tgt := 12) dX1_scan_63 (by decide) ?_
              rw [scF, if_pos hb_19, if_neg hc_39, if_pos hb_49] at hv
              have k1 := (hle.2.2 hb_19).1
              have k2 := sgA_lt hb_49 (by decide)
              exact ih (i + 1) _ (by omega) (by show _ + 1 ≤ n; omega) (by show (scC sg n z).2.2.2.2.1 = i + 1; omega) hv
            · refine g_if_ne_f C dX1_scan_52 60 (by decide) (by decide) ?_
              refine g_aload_n C dX1_scan_55 rfl rfl ?_
              refine g_get C inX1 0 rfl rfl 6 (by decide) f32 rfl dX1_scan_56 ?_
              refine g_iret C R0 dX1_scan_59 ?_
              rw [scF, if_pos hb_19, if_neg hc_39, if_neg hb_49] at hv
              exact pS2_mk hv.symm rfl
          · refine g_sipush C (v := (-10005)) dX1_scan_42 rfl ?_
            refine g_iret C R0 dX1_scan_45 ?_
            rw [scF, if_pos hb_19, if_pos hc_39] at hv
            exact pS2_mk hv.symm rfl
        · refine g_if_ne_f C dX1_scan_22 30 (by decide) (by decide) ?_
          refine g_aload_n C dX1_scan_25 rfl rfl ?_
          refine g_get C inX1 0 rfl rfl 6 (by decide) f32 rfl dX1_scan_26 ?_
          refine g_iret C R0 dX1_scan_29 ?_
          rw [scF, if_neg (by rw [hb_19]; decide)] at hv
          exact pS2_mk hv.symm rfl
  refine g_aload_n C dX1_scan_0 rfl rfl ?_
  refine g_iconst C (v := 0) dX1_scan_1 rfl ?_
  refine g_put C (ws' := (scrW E s a sg (n) (vs, fs, ss, nc, 0, vb, nu))) inX1 (ty := .int) tyX1 tyX1_ok nmX1 0 rfl rfl 6 (by decide) f32 rfl (by decide +kernel) rfl rfl (Nat.le_of_ble_eq_true rfl) dX1_scan_2 rfl ?_
  refine g_aload_n C dX1_scan_5 rfl rfl ?_
  refine g_iconst C (v := 0) dX1_scan_6 rfl ?_
  refine g_put C (ws' := (scrW E s a sg (n) (vs, fs, ss, 0, 0, vb, nu))) inX1 (ty := .int) tyX1 tyX1_ok nmX1 0 rfl rfl 5 (by decide) f29 rfl (by decide +kernel) rfl rfl (Nat.le_of_ble_eq_true rfl) dX1_scan_7 rfl ?_
  refine g_iconst C (v := 0) dX1_scan_10 rfl ?_
  refine g_istore_n C dX1_scan_11 rfl (Nat.le_of_ble_eq_true rfl) rfl ?_
  exact lp 80 0 (vs, fs, ss, 0, 0, vb, nu) (by omega) (by show 0 ≤ n; omega) rfl rfl
