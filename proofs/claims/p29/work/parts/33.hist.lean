/-! HISTORY: its object and its row of references, then the four skies, each a block of its own -/
theorem pmB2 {α : Type} {f : Nat → List α} {is js ks : List Nat} (h : (is ++ js).Perm ks) : ((is.map f).flatten ++ (js.map f).flatten).Perm (ks.map f).flatten := by
  rw [← List.flatten_append, ← List.map_append]
  exact (h.map f).flatten
def hisBk (E : Ev) (o r : Nat) (h : Nat → Nat) (nx sz : Nat) : va_W := [(o, .inr (0, [.ref r, .int (nI nx), .int (nI sz)])), (r, .inl (E.2.2 3, 4, .inr (.inr (.inr (.inr (fun j => some (h j)))))))]
def hadW (E : Ev) (o r : Nat) (h : Nat → Nat) (a : Nat → Nat → Nat) (H : Nat → Sky) (nx sz m : Nat) (b : Nat → Nat) (τ : Sky) : va_W := hisBk E o r h nx sz ++ (skyW E (h 0) (a 0) (H 0) ++ (skyW E (h 1) (a 1) (H 1) ++ (skyW E (h 2) (a 2) (H 2) ++ (skyW E (h 3) (a 3) (H 3) ++ (skyW E m b τ ++ [])))))
def updS (H : Nat → Sky) (j : Nat) (τ : Sky) : Nat → Sky := fun k => if k = j then τ else H k
def hadF (E : Ev) (o r : Nat) (h : Nat → Nat) (a : Nat → Nat → Nat) (H : Nat → Sky) (nx sz m : Nat) (b : Nat → Nat) (τ : Sky) : Nat → va_W
  | 0 => hisBk E o r h nx sz
  | 1 => skyW E (h 0) (a 0) (H 0)
  | 2 => skyW E (h 1) (a 1) (H 1)
  | 3 => skyW E (h 2) (a 2) (H 2)
  | 4 => skyW E (h 3) (a 3) (H 3)
  | _ => skyW E m b τ
theorem min4 {z : Nat} (h : z ≤ 4) : (if (4 : Int32) < nI z + 1 then (4 : Int32) else nI z + 1) = nI (min (z + 1) 4) := by
  have : z = 0 ∨ z = 1 ∨ z = 2 ∨ z = 3 ∨ z = 4 := by omega
  rcases this with rfl | rfl | rfl | rfl | rfl <;> decide
theorem nI_nn {j : Nat} (h : j < 2 ^ 31) : (0 : Int32) ≤ nI j := by
  rw [Int32.le_iff_toInt_le, nI_toInt h]
  show (0 : Int32).toInt ≤ _
  have : (0 : Int32).toInt = 0 := by decide
  omega
set_option maxHeartbeats 4000000 in
set_option maxRecDepth 100000 in
theorem c_X0_rowAt (E : Ev) (o r : Nat) (h : Nat → Nat) (a : Nat → Nat → Nat) (H : Nat → Sky) (nx sz m : Nat) (b : Nat → Nat) (τ : Sky) (j : Nat) (hj : j < 4) : MR E yX0_rowAt wsX0_rowAt (rmD 0) (hadW E o r h a H (nx) (sz) m b τ) [.ref o, .int (nI j)] (fun q w => q = h j ∧ w = hadW E o r h a H nx sz m b τ) := by
  have inX0 : ∀ w ∈ u_ws RX0 TX0 3, w ∈ wsX0_rowAt := by decide +kernel
  have f11 : Cond.fieldLink RX0 11 (TX0 0).1 (TX0 0).2.1 (TX0 0).2.2.1 ∈ wsX0_rowAt := by decide +kernel
  refine MR.of (cc := cX0_rowAt) (nL := 2) (ty := .object "KiteRegisters$Sky") (own := RX0) [some (.ref o), some (.int (nI j))] (by decide +kernel) rfl rfl (Nat.le_of_ble_eq_true rfl) rfl rfl ?_
  intro x C R0
  refine g_iload_n C dX0_rowAt_0 rfl rfl ?_
  refine g_if_lt_f C dX0_rowAt_1 18 (by decide) (fun z => i32_lt.mpr z (nI_nn (by omega))) ?_
  refine g_iload_n C dX0_rowAt_4 rfl rfl ?_
  refine g_iconst C (v := 4) dX0_rowAt_5 rfl ?_
  refine g_icmp_ge C (tgt := 18) dX0_rowAt_6 (by decide) (fun hc_6 => ?_) (fun hc_6 => ?_)
  · have hn_6 : (4) ≤ (j) := (nI_leI (a := (4)) (b := (j)) (by omega) (by omega)).mp hc_6
    exact absurd hn_6 (by omega)
  · have hn_6 : ¬ (4) ≤ (j) := fun z => hc_6 ((nI_leI (a := (4)) (b := (j)) (by omega) (by omega)).mpr z)
    refine g_aload_n C dX0_rowAt_9 rfl rfl ?_
    refine g_get C inX0 0 rfl rfl 0 (by decide) f11 rfl dX0_rowAt_10 ?_
    refine g_iload_n C dX0_rowAt_13 rfl rfl ?_
    refine g_aald C 1 rfl j rfl hj (Nat.le_of_ble_eq_true rfl) dX0_rowAt_14 ?_
    refine g_goto C (tgt := 19) dX0_rowAt_15 (by decide) ?_
    refine g_aret C R0 (Or.inl ⟨_, rfl⟩) dX0_rowAt_19 ?_
    exact ⟨rfl, rfl⟩
def hAddN (nx : Nat) : Nat := (nx + 1) % 4
def hAddS (sz : Nat) : Nat := min (sz + 1) 4
set_option maxHeartbeats 4000000 in
set_option maxRecDepth 100000 in
theorem c_X0_add (E : Ev) (o r : Nat) (h : Nat → Nat) (a : Nat → Nat → Nat) (H : Nat → Sky) (nx sz m : Nat) (b : Nat → Nat) (τ : Sky) (hnx : nx < 4) (hsz : sz ≤ 4) (ht : okFr τ) : MV E yX0_add wsX0_add (rmD 1) (hadW E o r h a H (nx) (sz) m b τ) [.ref o, .ref m] (fun w => w = hadW E o r h a (updS H nx τ) (hAddN nx) (hAddS sz) m b τ) := by
  have inX0 : ∀ w ∈ u_ws RX0 TX0 3, w ∈ wsX0_add := by decide +kernel
  have f17 : Cond.fieldLink RX0 17 (TX0 1).1 (TX0 1).2.1 (TX0 1).2.2.1 ∈ wsX0_add := by decide +kernel
  have hi_X2_copyFrom : Cond.instanceMethod yX2_copyFrom ∈ wsX0_add := by decide +kernel
  have hs_X2_copyFrom : Cond.selects RX2 yX2_copyFrom yX2_copyFrom ∈ wsX0_add := by decide +kernel
  have hn_X2 : Cond.initialized yX2_copyFrom.cls ∈ wsX0_add := by decide +kernel
  have f21 : Cond.fieldLink RX0 21 (TX0 2).1 (TX0 2).2.1 (TX0 2).2.2.1 ∈ wsX0_add := by decide +kernel
  have m1_min : Cond.methodLink RX0 33 Lib.Math.min.name ∈ wsX0_add := by decide +kernel
  have m2_min : Cond.static Lib.Math.min.name ∈ wsX0_add := by decide +kernel
  have m3_min : Cond.initialized "java/lang/Math" ∈ wsX0_add := by decide +kernel
  have m4_min : Cond.code Lib.Math.min.name Lib.Math.min.code 2 (some .int) ∈ wsX0_add := by decide +kernel
  refine MV.of (cc := cX0_add) (nL := 3) (own := RX0) [some (.ref o), some (.ref m), none] (by decide +kernel) rfl rfl (Nat.le_of_ble_eq_true rfl) rfl rfl ?_
  intro x C R0
  have h9 : nx = 0 ∨ nx = 1 ∨ nx = 2 ∨ nx = 3 := by omega
  rcases h9 with rfl | rfl | rfl | rfl
  · refine g_aload_n C dX0_add_0 rfl rfl ?_
    refine g_aload_n C dX0_add_1 rfl rfl ?_
    refine g_get C inX0 0 rfl rfl 1 (by decide) f17 rfl dX0_add_2 ?_
    refine g_callrVF C 0 rfl rfl (c_X0_rowAt E o r h a H (0) (sz) m b τ 0 (by omega)) cf_X0_rowAt gX0_add_X0_rowAt rfl (fitD (Nat.le_of_ble_eq_true rfl) (Nat.le_of_ble_eq_true rfl)) rfl rfl (Nat.le_of_ble_eq_true rfl) dX0_add_5 (fun r1 w1 hp => ?_)
    obtain ⟨rfl, rfl⟩ := hp
    refine g_astore_n C dX0_add_8 rfl (Nat.le_of_ble_eq_true rfl) rfl ?_
    refine g_aload_n C dX0_add_9 rfl rfl ?_
    refine g_ifnonnull C (tgt := 14) dX0_add_10 (by decide) ?_
    refine g_aload_n C dX0_add_14 rfl rfl ?_
    refine g_aload_n C dX0_add_15 rfl rfl ?_
    have hM := MV.to (c_X2_copyFrom E (h 0) (a 0) (H 0) m b τ ht) (List.flatten (List.map (hadF E o r h a H (0) (sz) m b τ) [0, 2, 3, 4])) (hadW E o r h a H (0) (sz) m b τ) (hadW E o r h a (updS H 0 τ) (0) (sz) m b τ) (pmB2 (f := (hadF E o r h a H (0) (sz) m b τ)) (is := [1, 5]) (ks := [0, 1, 2, 3, 4, 5]) (by decide)) (pmB2 (f := (hadF E o r h a (updS H 0 τ) (0) (sz) m b τ)) (is := [1, 5]) (js := [0, 2, 3, 4]) (ks := [0, 1, 2, 3, 4, 5]) (by decide))
    refine g_callvNF C 2 rfl rfl hM cf_X2_copyFrom ggX0_add_X2_copyFrom (List.mem_of_getElem? (i := 12) rfl) hi_X2_copyFrom hs_X2_copyFrom hn_X2 (fitD (Nat.le_of_ble_eq_true rfl) (Nat.le_of_ble_eq_true rfl)) rfl rfl (Nat.le_of_ble_eq_true rfl) dX0_add_16 (fun w1 hp => ?_)
    subst hp
    refine g_aload_n C dX0_add_19 rfl rfl ?_
    refine g_aload_n C dX0_add_20 rfl rfl ?_
    refine g_get C inX0 0 rfl rfl 1 (by decide) f17 rfl dX0_add_21 ?_
    refine g_iconst C (v := 1) dX0_add_24 rfl ?_
    refine g_iadd C dX0_add_25 ?_
    refine g_iconst C (v := 4) dX0_add_26 rfl ?_
    refine g_irem C dX0_add_27 (by decide) ?_
    rw [show (((nI (0)) + 1) - ((nI (0)) + 1) / 4 * 4) = nI (1) from by decide]
    refine g_put C (ws' := (hadW E o r h a (updS H 0 τ) (1) (sz) m b τ)) inX0 (ty := .int) tyX0 tyX0_ok nmX0 0 rfl rfl 1 (by decide) f17 rfl (by decide +kernel) rfl rfl (Nat.le_of_ble_eq_true rfl) dX0_add_28 rfl ?_
    refine g_aload_n C dX0_add_31 rfl rfl ?_
    refine g_aload_n C dX0_add_32 rfl rfl ?_
    refine g_get C inX0 0 rfl rfl 2 (by decide) f21 rfl dX0_add_33 ?_
    refine g_iconst C (v := 1) dX0_add_36 rfl ?_
    refine g_iadd C dX0_add_37 ?_
    refine g_iconst C (v := 4) dX0_add_38 rfl ?_
    refine g_mmin C m1_min m2_min m3_min m4_min ⟨Nat.le_of_ble_eq_true rfl, Nat.le_of_ble_eq_true rfl⟩ dX0_add_39 ?_
    rw [show (if 4 < ((nI (sz)) + 1) then 4 else ((nI (sz)) + 1)) = nI (min (sz + 1) 4) from min4 hsz]
    refine g_put C (ws' := (hadW E o r h a (updS H 0 τ) (1) (min (sz + 1) 4) m b τ)) inX0 (ty := .int) tyX0 tyX0_ok nmX0 0 rfl rfl 2 (by decide) f21 rfl (by decide +kernel) rfl rfl (Nat.le_of_ble_eq_true rfl) dX0_add_42 rfl ?_
    refine g_vret C R0 dX0_add_45 ?_
    exact rfl
  · refine g_aload_n C dX0_add_0 rfl rfl ?_
    refine g_aload_n C dX0_add_1 rfl rfl ?_
    refine g_get C inX0 0 rfl rfl 1 (by decide) f17 rfl dX0_add_2 ?_
    refine g_callrVF C 0 rfl rfl (c_X0_rowAt E o r h a H (1) (sz) m b τ 1 (by omega)) cf_X0_rowAt gX0_add_X0_rowAt rfl (fitD (Nat.le_of_ble_eq_true rfl) (Nat.le_of_ble_eq_true rfl)) rfl rfl (Nat.le_of_ble_eq_true rfl) dX0_add_5 (fun r1 w1 hp => ?_)
    obtain ⟨rfl, rfl⟩ := hp
    refine g_astore_n C dX0_add_8 rfl (Nat.le_of_ble_eq_true rfl) rfl ?_
    refine g_aload_n C dX0_add_9 rfl rfl ?_
    refine g_ifnonnull C (tgt := 14) dX0_add_10 (by decide) ?_
    refine g_aload_n C dX0_add_14 rfl rfl ?_
    refine g_aload_n C dX0_add_15 rfl rfl ?_
    have hM := MV.to (c_X2_copyFrom E (h 1) (a 1) (H 1) m b τ ht) (List.flatten (List.map (hadF E o r h a H (1) (sz) m b τ) [0, 1, 3, 4])) (hadW E o r h a H (1) (sz) m b τ) (hadW E o r h a (updS H 1 τ) (1) (sz) m b τ) (pmB2 (f := (hadF E o r h a H (1) (sz) m b τ)) (is := [2, 5]) (ks := [0, 1, 2, 3, 4, 5]) (by decide)) (pmB2 (f := (hadF E o r h a (updS H 1 τ) (1) (sz) m b τ)) (is := [2, 5]) (js := [0, 1, 3, 4]) (ks := [0, 1, 2, 3, 4, 5]) (by decide))
    refine g_callvNF C 11 rfl rfl hM cf_X2_copyFrom ggX0_add_X2_copyFrom (List.mem_of_getElem? (i := 12) rfl) hi_X2_copyFrom hs_X2_copyFrom hn_X2 (fitD (Nat.le_of_ble_eq_true rfl) (Nat.le_of_ble_eq_true rfl)) rfl rfl (Nat.le_of_ble_eq_true rfl) dX0_add_16 (fun w1 hp => ?_)
    subst hp
    refine g_aload_n C dX0_add_19 rfl rfl ?_
    refine g_aload_n C dX0_add_20 rfl rfl ?_
    refine g_get C inX0 0 rfl rfl 1 (by decide) f17 rfl dX0_add_21 ?_
    refine g_iconst C (v := 1) dX0_add_24 rfl ?_
    refine g_iadd C dX0_add_25 ?_
    refine g_iconst C (v := 4) dX0_add_26 rfl ?_
    refine g_irem C dX0_add_27 (by decide) ?_
    rw [show (((nI (1)) + 1) - ((nI (1)) + 1) / 4 * 4) = nI (2) from by decide]
    refine g_put C (ws' := (hadW E o r h a (updS H 1 τ) (2) (sz) m b τ)) inX0 (ty := .int) tyX0 tyX0_ok nmX0 0 rfl rfl 1 (by decide) f17 rfl (by decide +kernel) rfl rfl (Nat.le_of_ble_eq_true rfl) dX0_add_28 rfl ?_
    refine g_aload_n C dX0_add_31 rfl rfl ?_
    refine g_aload_n C dX0_add_32 rfl rfl ?_
    refine g_get C inX0 0 rfl rfl 2 (by decide) f21 rfl dX0_add_33 ?_
    refine g_iconst C (v := 1) dX0_add_36 rfl ?_
    refine g_iadd C dX0_add_37 ?_
    refine g_iconst C (v := 4) dX0_add_38 rfl ?_
    refine g_mmin C m1_min m2_min m3_min m4_min ⟨Nat.le_of_ble_eq_true rfl, Nat.le_of_ble_eq_true rfl⟩ dX0_add_39 ?_
    rw [show (if 4 < ((nI (sz)) + 1) then 4 else ((nI (sz)) + 1)) = nI (min (sz + 1) 4) from min4 hsz]
    refine g_put C (ws' := (hadW E o r h a (updS H 1 τ) (2) (min (sz + 1) 4) m b τ)) inX0 (ty := .int) tyX0 tyX0_ok nmX0 0 rfl rfl 2 (by decide) f21 rfl (by decide +kernel) rfl rfl (Nat.le_of_ble_eq_true rfl) dX0_add_42 rfl ?_
    refine g_vret C R0 dX0_add_45 ?_
    exact rfl
  · refine g_aload_n C dX0_add_0 rfl rfl ?_
    refine g_aload_n C dX0_add_1 rfl rfl ?_
    refine g_get C inX0 0 rfl rfl 1 (by decide) f17 rfl dX0_add_2 ?_
    refine g_callrVF C 0 rfl rfl (c_X0_rowAt E o r h a H (2) (sz) m b τ 2 (by omega)) cf_X0_rowAt gX0_add_X0_rowAt rfl (fitD (Nat.le_of_ble_eq_true rfl) (Nat.le_of_ble_eq_true rfl)) rfl rfl (Nat.le_of_ble_eq_true rfl) dX0_add_5 (fun r1 w1 hp => ?_)
    obtain ⟨rfl, rfl⟩ := hp
    refine g_astore_n C dX0_add_8 rfl (Nat.le_of_ble_eq_true rfl) rfl ?_
    refine g_aload_n C dX0_add_9 rfl rfl ?_
    refine g_ifnonnull C (tgt := 14) dX0_add_10 (by decide) ?_
    refine g_aload_n C dX0_add_14 rfl rfl ?_
    refine g_aload_n C dX0_add_15 rfl rfl ?_
    have hM := MV.to (c_X2_copyFrom E (h 2) (a 2) (H 2) m b τ ht) (List.flatten (List.map (hadF E o r h a H (2) (sz) m b τ) [0, 1, 2, 4])) (hadW E o r h a H (2) (sz) m b τ) (hadW E o r h a (updS H 2 τ) (2) (sz) m b τ) (pmB2 (f := (hadF E o r h a H (2) (sz) m b τ)) (is := [3, 5]) (ks := [0, 1, 2, 3, 4, 5]) (by decide)) (pmB2 (f := (hadF E o r h a (updS H 2 τ) (2) (sz) m b τ)) (is := [3, 5]) (js := [0, 1, 2, 4]) (ks := [0, 1, 2, 3, 4, 5]) (by decide))
    refine g_callvNF C 20 rfl rfl hM cf_X2_copyFrom ggX0_add_X2_copyFrom (List.mem_of_getElem? (i := 12) rfl) hi_X2_copyFrom hs_X2_copyFrom hn_X2 (fitD (Nat.le_of_ble_eq_true rfl) (Nat.le_of_ble_eq_true rfl)) rfl rfl (Nat.le_of_ble_eq_true rfl) dX0_add_16 (fun w1 hp => ?_)
    subst hp
    refine g_aload_n C dX0_add_19 rfl rfl ?_
    refine g_aload_n C dX0_add_20 rfl rfl ?_
    refine g_get C inX0 0 rfl rfl 1 (by decide) f17 rfl dX0_add_21 ?_
    refine g_iconst C (v := 1) dX0_add_24 rfl ?_
    refine g_iadd C dX0_add_25 ?_
    refine g_iconst C (v := 4) dX0_add_26 rfl ?_
    refine g_irem C dX0_add_27 (by decide) ?_
    rw [show (((nI (2)) + 1) - ((nI (2)) + 1) / 4 * 4) = nI (3) from by decide]
    refine g_put C (ws' := (hadW E o r h a (updS H 2 τ) (3) (sz) m b τ)) inX0 (ty := .int) tyX0 tyX0_ok nmX0 0 rfl rfl 1 (by decide) f17 rfl (by decide +kernel) rfl rfl (Nat.le_of_ble_eq_true rfl) dX0_add_28 rfl ?_
    refine g_aload_n C dX0_add_31 rfl rfl ?_
    refine g_aload_n C dX0_add_32 rfl rfl ?_
    refine g_get C inX0 0 rfl rfl 2 (by decide) f21 rfl dX0_add_33 ?_
    refine g_iconst C (v := 1) dX0_add_36 rfl ?_
    refine g_iadd C dX0_add_37 ?_
    refine g_iconst C (v := 4) dX0_add_38 rfl ?_
    refine g_mmin C m1_min m2_min m3_min m4_min ⟨Nat.le_of_ble_eq_true rfl, Nat.le_of_ble_eq_true rfl⟩ dX0_add_39 ?_
    rw [show (if 4 < ((nI (sz)) + 1) then 4 else ((nI (sz)) + 1)) = nI (min (sz + 1) 4) from min4 hsz]
    refine g_put C (ws' := (hadW E o r h a (updS H 2 τ) (3) (min (sz + 1) 4) m b τ)) inX0 (ty := .int) tyX0 tyX0_ok nmX0 0 rfl rfl 2 (by decide) f21 rfl (by decide +kernel) rfl rfl (Nat.le_of_ble_eq_true rfl) dX0_add_42 rfl ?_
    refine g_vret C R0 dX0_add_45 ?_
    exact rfl
  · refine g_aload_n C dX0_add_0 rfl rfl ?_
    refine g_aload_n C dX0_add_1 rfl rfl ?_
    refine g_get C inX0 0 rfl rfl 1 (by decide) f17 rfl dX0_add_2 ?_
    refine g_callrVF C 0 rfl rfl (c_X0_rowAt E o r h a H (3) (sz) m b τ 3 (by omega)) cf_X0_rowAt gX0_add_X0_rowAt rfl (fitD (Nat.le_of_ble_eq_true rfl) (Nat.le_of_ble_eq_true rfl)) rfl rfl (Nat.le_of_ble_eq_true rfl) dX0_add_5 (fun r1 w1 hp => ?_)
    obtain ⟨rfl, rfl⟩ := hp
    refine g_astore_n C dX0_add_8 rfl (Nat.le_of_ble_eq_true rfl) rfl ?_
    refine g_aload_n C dX0_add_9 rfl rfl ?_
    refine g_ifnonnull C (tgt := 14) dX0_add_10 (by decide) ?_
    refine g_aload_n C dX0_add_14 rfl rfl ?_
    refine g_aload_n C dX0_add_15 rfl rfl ?_
    have hM := MV.to (c_X2_copyFrom E (h 3) (a 3) (H 3) m b τ ht) (List.flatten (List.map (hadF E o r h a H (3) (sz) m b τ) [0, 1, 2, 3])) (hadW E o r h a H (3) (sz) m b τ) (hadW E o r h a (updS H 3 τ) (3) (sz) m b τ) (pmB2 (f := (hadF E o r h a H (3) (sz) m b τ)) (is := [4, 5]) (ks := [0, 1, 2, 3, 4, 5]) (by decide)) (pmB2 (f := (hadF E o r h a (updS H 3 τ) (3) (sz) m b τ)) (is := [4, 5]) (js := [0, 1, 2, 3]) (ks := [0, 1, 2, 3, 4, 5]) (by decide))
    refine g_callvNF C 29 rfl rfl hM cf_X2_copyFrom ggX0_add_X2_copyFrom (List.mem_of_getElem? (i := 12) rfl) hi_X2_copyFrom hs_X2_copyFrom hn_X2 (fitD (Nat.le_of_ble_eq_true rfl) (Nat.le_of_ble_eq_true rfl)) rfl rfl (Nat.le_of_ble_eq_true rfl) dX0_add_16 (fun w1 hp => ?_)
    subst hp
    refine g_aload_n C dX0_add_19 rfl rfl ?_
    refine g_aload_n C dX0_add_20 rfl rfl ?_
    refine g_get C inX0 0 rfl rfl 1 (by decide) f17 rfl dX0_add_21 ?_
    refine g_iconst C (v := 1) dX0_add_24 rfl ?_
    refine g_iadd C dX0_add_25 ?_
    refine g_iconst C (v := 4) dX0_add_26 rfl ?_
    refine g_irem C dX0_add_27 (by decide) ?_
    rw [show (((nI (3)) + 1) - ((nI (3)) + 1) / 4 * 4) = nI (0) from by decide]
    refine g_put C (ws' := (hadW E o r h a (updS H 3 τ) (0) (sz) m b τ)) inX0 (ty := .int) tyX0 tyX0_ok nmX0 0 rfl rfl 1 (by decide) f17 rfl (by decide +kernel) rfl rfl (Nat.le_of_ble_eq_true rfl) dX0_add_28 rfl ?_
    refine g_aload_n C dX0_add_31 rfl rfl ?_
    refine g_aload_n C dX0_add_32 rfl rfl ?_
    refine g_get C inX0 0 rfl rfl 2 (by decide) f21 rfl dX0_add_33 ?_
    refine g_iconst C (v := 1) dX0_add_36 rfl ?_
    refine g_iadd C dX0_add_37 ?_
    refine g_iconst C (v := 4) dX0_add_38 rfl ?_
    refine g_mmin C m1_min m2_min m3_min m4_min ⟨Nat.le_of_ble_eq_true rfl, Nat.le_of_ble_eq_true rfl⟩ dX0_add_39 ?_
    rw [show (if 4 < ((nI (sz)) + 1) then 4 else ((nI (sz)) + 1)) = nI (min (sz + 1) 4) from min4 hsz]
    refine g_put C (ws' := (hadW E o r h a (updS H 3 τ) (0) (min (sz + 1) 4) m b τ)) inX0 (ty := .int) tyX0 tyX0_ok nmX0 0 rfl rfl 2 (by decide) f21 rfl (by decide +kernel) rfl rfl (Nat.le_of_ble_eq_true rfl) dX0_add_42 rfl ?_
    refine g_vret C R0 dX0_add_45 ?_
    exact rfl
