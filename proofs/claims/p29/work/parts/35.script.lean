/-! SCRIPT: its cells, what its methods answer. R3: ok, place, verb or number -/
abbrev SZt : Type := F × F × F × Nat × Nat × Int32 × Int32
def scrW (E : Ev) (s : Nat) (a : Nat → Nat) (sg : F) (n : Nat) (z : SZt) : va_W := [(s, .inr (1, [.ref (a 0), .int (nI n), .ref (a 1), .ref (a 2), .ref (a 3), .int (nI z.2.2.2.1), .int (nI z.2.2.2.2.1), .int z.2.2.2.2.2.1, .int z.2.2.2.2.2.2])), (a 0, .inl (E.2.2 2, 80, .inl sg)), (a 1, .inl (E.2.2 0, 80, .inl z.1)), (a 2, .inl (E.2.2 0, 80, .inl z.2.1)), (a 3, .inl (E.2.2 0, 80, .inl z.2.2.1))]
def sgA (sg : F) (n p : Nat) : Int32 := if p < n then sg p else -1
def dgA (sg : F) (n p : Nat) : Int32 := if 48 ≤ sgA sg n p ∧ sgA sg n p ≤ 57 then sgA sg n p - 48 else -1
def snL (sg : F) (n : Nat) (lim : Int32) : Nat → Int32 → Nat → Int32 × Nat
  | 0, v, p => (v, p)
  | f + 1, v, p => if ¬ v = 0 ∧ ¬ dgA sg n p = -1 ∧ v * 10 + dgA sg n p ≤ lim then snL sg n lim f (v * 10 + dgA sg n p) (p + 1) else (v, p)
def snD (sg : F) (n : Nat) (neg : Bool) (l lim : Int32) (p : Nat) (nu : Int32) : R3 :=
  if ¬ dgA sg n p = -1 ∧ ¬ dgA sg n p < l ∧ ¬ lim < dgA sg n p ∧ ¬ (neg = true ∧ dgA sg n p = 0) then (true, (snL sg n lim 80 (dgA sg n p) (p + 1)).2, if neg = true then -(snL sg n lim 80 (dgA sg n p) (p + 1)).1 else (snL sg n lim 80 (dgA sg n p) (p + 1)).1) else (false, p, nu)
def snR (sg : F) (n : Nat) (l t : Int32) (p : Nat) (nu : Int32) : R3 :=
  if sgA sg n p = 32 then (if l < 0 then (if sgA sg n (p + 1) = 45 then snD sg n true l (-l) (p + 2) nu else snD sg n false l t (p + 1) nu) else snD sg n false l t (p + 1) nu) else (false, p, nu)
def alF (sg : F) (n p i : Nat) : Nat → Nat → Nat
  | 0, j => j
  | f + 1, j => if sgA sg n (p + j) = chS i j then alF sg n p i f (j + 1) else j
abbrev alk (sg : F) (n p i : Nat) : Nat := alF sg n p i (lnS i) 0
def swQ (sg : F) (n p : Nat) (vb : Int32) : Nat → Nat → Nat → R3
  | 0, _, lo => (false, p + lo, vb)
  | f + 1, i, lo => if alk sg n p i = lnS i then (true, p + alk sg n p i, nI i) else swQ sg n p vb f (i + 1) (max lo (alk sg n p i))
def swR (sg : F) (n p : Nat) (vb : Int32) : R3 := swQ sg n p vb 5 0 0
def sf1 (sg : F) (n : Nat) (vb : Int32) (p : Nat) (nu : Int32) : R3 := if vb = 0 then snR sg n 0 3 p nu else if vb = 3 then snR sg n 1 20 p nu else if vb = 4 then snR sg n 0 7 p nu else snR sg n 0 11 p nu
def sf2 (sg : F) (n : Nat) (vb : Int32) (p : Nat) (nu : Int32) : R3 := if vb = 4 then snR sg n 0 9 p nu else snR sg n (-999) 999 p nu
theorem sgA_lt {sg : F} {n p : Nat} {c : Int32} (h : sgA sg n p = c) (hc : ¬ c = -1) : p < n := by
  unfold sgA at h
  split at h
  · assumption
  · exact absurd h.symm hc
theorem dgA_lt {sg : F} {n p : Nat} (h : ¬ dgA sg n p = -1) : p < n := by
  unfold dgA at h
  split at h
  · rename_i h1
    exact sgA_lt rfl (fun z => by rw [z] at h1; exact absurd h1.1 (by decide))
  · exact absurd rfl h
theorem snL_le {sg : F} {n : Nat} {lim : Int32} : ∀ f v p, p ≤ n → (snL sg n lim f v p).2 ≤ n ∧ p ≤ (snL sg n lim f v p).2
  | 0, v, p, h => ⟨h, Nat.le_refl _⟩
  | f + 1, v, p, h => by
    rw [snL]
    split
    · rename_i h1
      have h2 := dgA_lt h1.2.1
      have := snL_le (sg := sg) (n := n) (lim := lim) f (v * 10 + dgA sg n p) (p + 1) (by omega)
      exact ⟨this.1, by omega⟩
    · exact ⟨h, Nat.le_refl _⟩
theorem snD_le {sg : F} {n : Nat} {neg : Bool} {l lim nu : Int32} {p : Nat} (h : p ≤ n) : (snD sg n neg l lim p nu).2.1 ≤ n ∧ p ≤ (snD sg n neg l lim p nu).2.1 := by
  unfold snD
  split
  · rename_i h1
    have h2 := dgA_lt h1.1
    have := snL_le (sg := sg) (n := n) (lim := lim) 80 (dgA sg n p) (p + 1) (by omega)
    exact ⟨this.1, by have := this.2; dsimp only; omega⟩
  · exact ⟨h, Nat.le_refl _⟩
theorem snR_le {sg : F} {n : Nat} {l t nu : Int32} {p : Nat} (h : p ≤ n) : (snR sg n l t p nu).2.1 ≤ n ∧ p ≤ (snR sg n l t p nu).2.1 := by
  unfold snR
  split
  · rename_i h1
    have h2 := sgA_lt h1 (by decide)
    split
    · split
      · rename_i h3
        have h4 := sgA_lt h3 (by decide)
        have := snD_le (sg := sg) (n := n) (neg := true) (l := l) (lim := -l) (nu := nu) (p := p + 2) (by omega)
        exact ⟨this.1, by omega⟩
      · have := snD_le (sg := sg) (n := n) (neg := false) (l := l) (lim := t) (nu := nu) (p := p + 1) (by omega)
        exact ⟨this.1, by omega⟩
    · have := snD_le (sg := sg) (n := n) (neg := false) (l := l) (lim := t) (nu := nu) (p := p + 1) (by omega)
      exact ⟨this.1, by omega⟩
  · exact ⟨h, Nat.le_refl _⟩
theorem chS_ne : ∀ i, i < 5 → ∀ k, k < lnS i → ¬ chS i k = -1 := by decide
theorem lnS_5 : ∀ i, i < 5 → lnS i ≤ 5 := by decide
theorem alF_le {sg : F} {n p i : Nat} (hi : i < 5) : ∀ f j, j + f = lnS i → p + j ≤ n → p + alF sg n p i f j ≤ n ∧ alF sg n p i f j ≤ lnS i
  | 0, j, h, h2 => ⟨h2, by rw [alF]; omega⟩
  | f + 1, j, h, h2 => by
    rw [alF]
    split
    · rename_i h1
      have h3 := sgA_lt h1 (chS_ne i hi j (by omega))
      exact alF_le hi f (j + 1) (by omega) (by omega)
    · exact ⟨h2, by omega⟩
theorem alk_le {sg : F} {n p i : Nat} (hi : i < 5) (h : p ≤ n) : p + alk sg n p i ≤ n ∧ alk sg n p i ≤ lnS i := alF_le hi (lnS i) 0 (by omega) (by omega)
theorem swQ_le {sg : F} {n p : Nat} {vb : Int32} (hp : p ≤ n) : ∀ f i lo, f + i = 5 → p + lo ≤ n → (swQ sg n p vb f i lo).2.1 ≤ n ∧ p ≤ (swQ sg n p vb f i lo).2.1
  | 0, i, lo, h, h2 => ⟨h2, by rw [swQ]; dsimp only; omega⟩
  | f + 1, i, lo, h, h2 => by
    rw [swQ]
    have h3 := alk_le (sg := sg) (n := n) (p := p) (i := i) (by omega) hp
    split
    · exact ⟨h3.1, by dsimp only; omega⟩
    · exact swQ_le hp f (i + 1) _ (by omega) (by omega)
theorem swR_le {sg : F} {n p : Nat} {vb : Int32} (hp : p ≤ n) : (swR sg n p vb).2.1 ≤ n ∧ p ≤ (swR sg n p vb).2.1 := swQ_le hp 5 0 0 (by omega) (by omega)
theorem sf1_le {sg : F} {n : Nat} {vb nu : Int32} {p : Nat} (h : p ≤ n) : (sf1 sg n vb p nu).2.1 ≤ n ∧ p ≤ (sf1 sg n vb p nu).2.1 := by
  unfold sf1
  repeat' split
  all_goals exact snR_le h
theorem sf2_le {sg : F} {n : Nat} {vb nu : Int32} {p : Nat} (h : p ≤ n) : (sf2 sg n vb p nu).2.1 ≤ n ∧ p ≤ (sf2 sg n vb p nu).2.1 := by
  unfold sf2
  split <;> exact snR_le h
set_option maxHeartbeats 4000000 in
set_option maxRecDepth 100000 in
theorem c_X1_signAt (E : Ev) (s : Nat) (a : Nat → Nat) (sg : F) (n : Nat) (hn : n ≤ 80) (vs fs ss : F) (nc p : Nat) (vb nu : Int32) (i : Nat) (hi9 : i < 2 ^ 30) : MI E yX1_signAt wsX1_signAt (rmD 0) (scrW E s a sg (n) (vs, fs, ss, nc, p, vb, nu)) [.ref s, .int (nI i)] (pE (sgA sg n i) (scrW E s a sg (n) (vs, fs, ss, nc, p, vb, nu))) := by
  have inX1 : ∀ w ∈ u_ws RX1 TX1 9, w ∈ wsX1_signAt := by decide +kernel
  have f15 : Cond.fieldLink RX1 15 (TX1 1).1 (TX1 1).2.1 (TX1 1).2.2.1 ∈ wsX1_signAt := by decide +kernel
  have f9 : Cond.fieldLink RX1 9 (TX1 0).1 (TX1 0).2.1 (TX1 0).2.2.1 ∈ wsX1_signAt := by decide +kernel
  refine MI.of (cc := cX1_signAt) (nL := 2) (ty := .int) (own := RX1) [some (.ref s), some (.int (nI i))] (by decide +kernel) rfl rfl (Nat.le_of_ble_eq_true rfl) rfl rfl ?_
  intro x C R0
  refine g_iload_n C dX1_signAt_0 rfl rfl ?_
  refine g_if_lt_f C dX1_signAt_1 27 (by decide) (fun z => i32_lt.mpr z (nI_nn (by omega))) ?_
  refine g_iload_n C dX1_signAt_4 rfl rfl ?_
  refine g_aload_n C dX1_signAt_5 rfl rfl ?_
  refine g_get C inX1 0 rfl rfl 1 (by decide) f15 rfl dX1_signAt_6 ?_
  refine g_icmp_ge C (tgt := 27) dX1_signAt_9 (by decide) (fun hc_9 => ?_) (fun hc_9 => ?_)
  · have hn_9 : ((n)) ≤ (i) := (nI_leI (a := ((n))) (b := (i)) (by omega) (by omega)).mp hc_9
    refine g_iconst C (v := (-1)) dX1_signAt_27 rfl ?_
    refine g_iret C R0 dX1_signAt_28 ?_
    exact pE_mk (by rw [sgA, if_neg (by omega)]) rfl
  · have hn_9 : ¬ ((n)) ≤ (i) := fun z => hc_9 ((nI_leI (a := ((n))) (b := (i)) (by omega) (by omega)).mpr z)
    refine g_iload_n C dX1_signAt_12 rfl rfl ?_
    refine g_bipush C (v := 80) dX1_signAt_13 rfl ?_
    refine g_icmp_ge C (tgt := 27) dX1_signAt_15 (by decide) (fun hc_15 => ?_) (fun hc_15 => ?_)
    · have hn_15 : (80) ≤ (i) := (nI_leI (a := (80)) (b := (i)) (by omega) (by omega)).mp hc_15
      refine g_iconst C (v := (-1)) dX1_signAt_27 rfl ?_
      refine g_iret C R0 dX1_signAt_28 ?_
      exact pE_mk (by rw [sgA, if_neg (by omega)]) rfl
    · have hn_15 : ¬ (80) ≤ (i) := fun z => hc_15 ((nI_leI (a := (80)) (b := (i)) (by omega) (by omega)).mpr z)
      refine g_aload_n C dX1_signAt_18 rfl rfl ?_
      refine g_get C inX1 0 rfl rfl 0 (by decide) f9 rfl dX1_signAt_19 ?_
      refine g_iload_n C dX1_signAt_22 rfl rfl ?_
      refine g_cald C 1 rfl (i) rfl (by omega) (Nat.le_of_ble_eq_true rfl) dX1_signAt_23 ?_
      refine g_goto C (tgt := 28) dX1_signAt_24 (by decide) ?_
      refine g_iret C R0 dX1_signAt_28 ?_
      exact pE_mk (by rw [sgA, if_pos (by omega)]) rfl
set_option maxHeartbeats 4000000 in
set_option maxRecDepth 100000 in
theorem c_X1_skip (E : Ev) (s : Nat) (a : Nat → Nat) (sg : F) (n : Nat) (hn : n ≤ 80) (vs fs ss : F) (nc p : Nat) (vb nu : Int32) (hp : p ≤ n) (c : Int32) : MI E yX1_skip wsX1_skip (rmD 1) (scrW E s a sg (n) (vs, fs, ss, nc, p, vb, nu)) [.ref s, .int c] (fun r w => sgA sg n p = c ∧ r = 1 ∧ w = (scrW E s a sg (n) (vs, fs, ss, nc, p + 1, vb, nu)) ∨ ¬ (sgA sg n p = c) ∧ r = 0 ∧ w = (scrW E s a sg (n) (vs, fs, ss, nc, p, vb, nu))) := by
  have inX1 : ∀ w ∈ u_ws RX1 TX1 9, w ∈ wsX1_skip := by decide +kernel
  have f32 : Cond.fieldLink RX1 32 (TX1 6).1 (TX1 6).2.1 (TX1 6).2.2.1 ∈ wsX1_skip := by decide +kernel
  refine MI.of (cc := cX1_skip) (nL := 2) (ty := .boolean) (own := RX1) [some (.ref s), some (.int c)] (by decide +kernel) rfl rfl (Nat.le_of_ble_eq_true rfl) rfl rfl ?_
  intro x C R0
  refine g_aload_n C dX1_skip_0 rfl rfl ?_
  refine g_aload_n C dX1_skip_1 rfl rfl ?_
  refine g_get C inX1 0 rfl rfl 6 (by decide) f32 rfl dX1_skip_2 ?_
  refine g_calliVF C 0 rfl rfl (c_X1_signAt E s a sg (n) hn vs fs ss nc p vb nu ((p)) (by omega)) cf_X1_signAt gX1_skip_X1_signAt rfl (fitD (Nat.le_of_ble_eq_true rfl) (Nat.le_of_ble_eq_true rfl)) rfl rfl (Nat.le_of_ble_eq_true rfl) dX1_skip_5 (fun r1 w1 hp => ?_)
  obtain ⟨rfl, rfl⟩ := hp
  refine g_iload_n C dX1_skip_8 rfl rfl ?_
  refine g_icmp_eq C (tgt := 14) dX1_skip_9 (by decide) (fun hc_9 => ?_) (fun hc_9 => ?_)
  · refine g_aload_n C dX1_skip_14 rfl rfl ?_
    refine g_dup C dX1_skip_15 rfl ?_
    refine g_get C inX1 0 rfl rfl 6 (by decide) f32 rfl dX1_skip_16 ?_
    refine g_iconst C (v := 1) dX1_skip_19 rfl ?_
    refine g_iadd C dX1_skip_20 ?_
    rw [show ((nI (p)) + 1) = nI (((p) + 1)) from nI_add ((p)) (1)]
    refine g_put C (ws' := (scrW E s a sg (n) (vs, fs, ss, nc, ((p) + 1), vb, nu))) inX1 (ty := .int) tyX1 tyX1_ok nmX1 0 rfl rfl 6 (by decide) f32 rfl (by decide +kernel) rfl rfl (Nat.le_of_ble_eq_true rfl) dX1_skip_21 rfl ?_
    refine g_iconst C (v := 1) dX1_skip_24 rfl ?_
    refine g_zret C R0 rfl dX1_skip_25 ?_
    exact Or.inl ⟨hc_9, rfl, rfl⟩
  · refine g_iconst C (v := 0) dX1_skip_12 rfl ?_
    refine g_zret C R0 rfl dX1_skip_13 ?_
    exact Or.inr ⟨hc_9, rfl, rfl⟩
set_option maxHeartbeats 4000000 in
set_option maxRecDepth 100000 in
theorem c_X1_digitAt (E : Ev) (s : Nat) (a : Nat → Nat) (sg : F) (n : Nat) (hn : n ≤ 80) (vs fs ss : F) (nc p : Nat) (vb nu : Int32) (i : Nat) (hi9 : i < 2 ^ 30) : MI E yX1_digitAt wsX1_digitAt (rmD 1) (scrW E s a sg (n) (vs, fs, ss, nc, p, vb, nu)) [.ref s, .int (nI i)] (pE (dgA sg n i) (scrW E s a sg (n) (vs, fs, ss, nc, p, vb, nu))) := by
  refine MI.of (cc := cX1_digitAt) (nL := 3) (ty := .int) (own := RX1) [some (.ref s), some (.int (nI i)), none] (by decide +kernel) rfl rfl (Nat.le_of_ble_eq_true rfl) rfl rfl ?_
  intro x C R0
  refine g_aload_n C dX1_digitAt_0 rfl rfl ?_
  refine g_iload_n C dX1_digitAt_1 rfl rfl ?_
  refine g_calliVF C 0 rfl rfl (c_X1_signAt E s a sg (n) hn vs fs ss nc p vb nu (i) (by omega)) cf_X1_signAt gX1_digitAt_X1_signAt rfl (fitD (Nat.le_of_ble_eq_true rfl) (Nat.le_of_ble_eq_true rfl)) rfl rfl (Nat.le_of_ble_eq_true rfl) dX1_digitAt_2 (fun r1 w1 hp => ?_)
  obtain ⟨rfl, rfl⟩ := hp
  refine g_istore_n C dX1_digitAt_5 rfl (Nat.le_of_ble_eq_true rfl) rfl ?_
  refine g_iload_n C dX1_digitAt_6 rfl rfl ?_
  refine g_bipush C (v := 48) dX1_digitAt_7 rfl ?_
  refine g_icmp_lt C (tgt := 25) dX1_digitAt_9 (by decide) (fun hc_9 => ?_) (fun hc_9 => ?_)
  · refine g_iconst C (v := (-1)) dX1_digitAt_25 rfl ?_
    refine g_iret C R0 dX1_digitAt_26 ?_
    exact pE_mk (by rw [dgA, if_neg (fun z => i32_le.mpr z.1 hc_9)]) rfl
  · refine g_iload_n C dX1_digitAt_12 rfl rfl ?_
    refine g_bipush C (v := 57) dX1_digitAt_13 rfl ?_
    refine g_icmp_gt C (tgt := 25) dX1_digitAt_15 (by decide) (fun hc_15 => ?_) (fun hc_15 => ?_)
    · refine g_iconst C (v := (-1)) dX1_digitAt_25 rfl ?_
      refine g_iret C R0 dX1_digitAt_26 ?_
      exact pE_mk (by rw [dgA, if_neg (fun z => i32_le.mpr z.2 hc_15)]) rfl
    · refine g_iload_n C dX1_digitAt_18 rfl rfl ?_
      refine g_bipush C (v := 48) dX1_digitAt_19 rfl ?_
      refine g_isub C dX1_digitAt_21 ?_
      refine g_goto C (tgt := 26) dX1_digitAt_22 (by decide) ?_
      refine g_iret C R0 dX1_digitAt_26 ?_
      exact pE_mk (by rw [dgA, if_pos ⟨i32_le.mp hc_9, i32_le.mp hc_15⟩]) rfl
theorem pT3 {b c : Bool} {W Z : va_W} {r : Int32} (h : b = c) (hr : c = true ∧ r = 1 ∨ c = false ∧ r = 0) (h2 : Z = W) : pT b W r Z := ⟨by rw [h]; exact hr, h2⟩
set_option maxHeartbeats 4000000 in
set_option maxRecDepth 100000 in
theorem c_X1_scanNumber (E : Ev) (s : Nat) (a : Nat → Nat) (sg : F) (n : Nat) (hn : n ≤ 80) (vs fs ss : F) (nc p : Nat) (vb nu : Int32) (hp : p ≤ n) (l t : Int32) : MI E yX1_scanNumber wsX1_scanNumber (rmD 2) (scrW E s a sg (n) (vs, fs, ss, nc, p, vb, nu)) [.ref s, .int l, .int t] (pT (snR sg n l t p nu).1 (scrW E s a sg (n) (vs, fs, ss, nc, (snR sg n l t p nu).2.1, vb, (snR sg n l t p nu).2.2))) := by
  have inX1 : ∀ w ∈ u_ws RX1 TX1 9, w ∈ wsX1_scanNumber := by decide +kernel
  have f38 : Cond.fieldLink RX1 38 (TX1 8).1 (TX1 8).2.1 (TX1 8).2.2.1 ∈ wsX1_scanNumber := by decide +kernel
  have f32 : Cond.fieldLink RX1 32 (TX1 6).1 (TX1 6).2.1 (TX1 6).2.2.1 ∈ wsX1_scanNumber := by decide +kernel
  refine MI.of (cc := cX1_scanNumber) (nL := 8) (ty := .boolean) (own := RX1) [some (.ref s), some (.int l), some (.int t), none, none, none, none, none] (by decide +kernel) rfl rfl (Nat.le_of_ble_eq_true rfl) rfl rfl ?_
  intro x C R0
  have lp0 : ∀ (lim : Int32) (f : Nat) (v : Int32) (q i : Nat) (x7 : Option Value), i + f = 80 → q ≤ n → snR sg n l t p nu = (true, (snL sg n lim f v q).2, (snL sg n lim f v q).1) → G E x (scrW E s a sg (n) (vs, fs, ss, nc, q, vb, nu)) [some (.ref s), some (.int l), some (.int t), some (.int 0), some (.int lim), some (.int v), some (.int (nI i)), x7] 95 [] := by
    intro lim f
    induction f with
    | zero =>
      intro v q i x7 hi hq hfin
      refine g_iload C dX1_scanNumber_95 rfl ?_
      refine g_bipush C (v := 80) dX1_scanNumber_97 rfl ?_
      refine g_icmp_ge C (tgt := 165) dX1_scanNumber_99 (by decide) (fun hc_99 => ?_) (fun hc_99 => ?_)
      · have hn_99 : (80) ≤ (i) := (nI_leI (a := (80)) (b := (i)) (by omega) (by omega)).mp hc_99
        refine g_aload_n C dX1_scanNumber_165 rfl rfl ?_
        refine g_iload_n C dX1_scanNumber_166 rfl rfl ?_
        refine g_if_eq_t C dX1_scanNumber_167 (tgt := 176) (by decide) (by decide) ?_
        refine g_iload C dX1_scanNumber_176 rfl ?_
        refine g_put C (ws' := (scrW E s a sg (n) (vs, fs, ss, nc, q, vb, v))) inX1 (ty := .int) tyX1 tyX1_ok nmX1 0 rfl rfl 8 (by decide) f38 rfl (by decide +kernel) rfl rfl (Nat.le_of_ble_eq_true rfl) dX1_scanNumber_178 rfl ?_
        refine g_iconst C (v := 1) dX1_scanNumber_181 rfl ?_
        refine g_zret C R0 rfl dX1_scanNumber_182 ?_
        have hx : snL sg n lim 0 v q = (v, q) := rfl
        rw [hx] at hfin
        exact pT3 (c := true) (by rw [hfin]) (Or.inl ⟨rfl, rfl⟩) (by rw [hfin])
      · have hn_99 : ¬ (80) ≤ (i) := fun z => hc_99 ((nI_leI (a := (80)) (b := (i)) (by omega) (by omega)).mpr z)
        exact absurd hn_99 (by omega)
    | succ f ih =>
      intro v q i x7 hi hq hfin
      refine g_iload C dX1_scanNumber_95 rfl ?_
      refine g_bipush C (v := 80) dX1_scanNumber_97 rfl ?_
      refine g_icmp_ge C (tgt := 165) dX1_scanNumber_99 (by decide) (fun hc_99 => ?_) (fun hc_99 => ?_)
      · have hn_99 : (80) ≤ (i) := (nI_leI (a := (80)) (b := (i)) (by omega) (by omega)).mp hc_99
        exact absurd hn_99 (by omega)
      · have hn_99 : ¬ (80) ≤ (i) := fun z => hc_99 ((nI_leI (a := (80)) (b := (i)) (by omega) (by omega)).mpr z)
        refine g_iload C dX1_scanNumber_102 rfl ?_
        refine g_if_eq C (tgt := 165) dX1_scanNumber_104 (by decide) (fun hc_104 => ?_) (fun hc_104 => ?_)
        · refine g_aload_n C dX1_scanNumber_165 rfl rfl ?_
          refine g_iload_n C dX1_scanNumber_166 rfl rfl ?_
          refine g_if_eq_t C dX1_scanNumber_167 (tgt := 176) (by decide) (by decide) ?_
          refine g_iload C dX1_scanNumber_176 rfl ?_
          refine g_put C (ws' := (scrW E s a sg (n) (vs, fs, ss, nc, q, vb, v))) inX1 (ty := .int) tyX1 tyX1_ok nmX1 0 rfl rfl 8 (by decide) f38 rfl (by decide +kernel) rfl rfl (Nat.le_of_ble_eq_true rfl) dX1_scanNumber_178 rfl ?_
          refine g_iconst C (v := 1) dX1_scanNumber_181 rfl ?_
          refine g_zret C R0 rfl dX1_scanNumber_182 ?_
          have hx : snL sg n lim (f + 1) v q = (v, q) := by rw [snL, if_neg (fun z => z.1 hc_104)]
          rw [hx] at hfin
          exact pT3 (c := true) (by rw [hfin]) (Or.inl ⟨rfl, rfl⟩) (by rw [hfin])
        · refine g_aload_n C dX1_scanNumber_107 rfl rfl ?_
          refine g_aload_n C dX1_scanNumber_108 rfl rfl ?_
          refine g_get C inX1 0 rfl rfl 6 (by decide) f32 rfl dX1_scanNumber_109 ?_
          refine g_calliVF C 0 rfl rfl (c_X1_digitAt E s a sg (n) hn vs fs ss nc q vb nu ((q)) (by omega)) cf_X1_digitAt gX1_scanNumber_X1_digitAt rfl (fitD (Nat.le_of_ble_eq_true rfl) (Nat.le_of_ble_eq_true rfl)) rfl rfl (Nat.le_of_ble_eq_true rfl) dX1_scanNumber_112 (fun r1 w1 hp => ?_)
          obtain ⟨rfl, rfl⟩ := hp
          refine g_istore C dX1_scanNumber_115 (Nat.le_of_ble_eq_true rfl) rfl ?_
          refine g_iload C dX1_scanNumber_117 rfl ?_
          refine g_iconst C (v := (-1)) dX1_scanNumber_119 rfl ?_
          refine g_icmp_eq C (tgt := 165) dX1_scanNumber_120 (by decide) (fun hc_120 => ?_) (fun hc_120 => ?_)
          · refine g_aload_n C dX1_scanNumber_165 rfl rfl ?_
            refine g_iload_n C dX1_scanNumber_166 rfl rfl ?_
            refine g_if_eq_t C dX1_scanNumber_167 (tgt := 176) (by decide) (by decide) ?_
            refine g_iload C dX1_scanNumber_176 rfl ?_
            refine g_put C (ws' := (scrW E s a sg (n) (vs, fs, ss, nc, q, vb, v))) inX1 (ty := .int) tyX1 tyX1_ok nmX1 0 rfl rfl 8 (by decide) f38 rfl (by decide +kernel) rfl rfl (Nat.le_of_ble_eq_true rfl) dX1_scanNumber_178 rfl ?_
            refine g_iconst C (v := 1) dX1_scanNumber_181 rfl ?_
            refine g_zret C R0 rfl dX1_scanNumber_182 ?_
            have hx : snL sg n lim (f + 1) v q = (v, q) := by rw [snL, if_neg (fun z => z.2.1 hc_120)]
            rw [hx] at hfin
            exact pT3 (c := true) (by rw [hfin]) (Or.inl ⟨rfl, rfl⟩) (by rw [hfin])
          · refine g_iload C dX1_scanNumber_123 rfl ?_
            refine g_bipush C (v := 10) dX1_scanNumber_125 rfl ?_
            refine g_imul C dX1_scanNumber_127 ?_
            refine g_iload C dX1_scanNumber_128 rfl ?_
            refine g_iadd C dX1_scanNumber_130 ?_
            refine g_iload C dX1_scanNumber_131 rfl ?_
            refine g_icmp_le C (tgt := 139) dX1_scanNumber_133 (by decide) (fun hc_133 => ?_) (fun hc_133 => ?_)
            · refine g_iload C dX1_scanNumber_139 rfl ?_
              refine g_bipush C (v := 10) dX1_scanNumber_141 rfl ?_
              refine g_imul C dX1_scanNumber_143 ?_
              refine g_iload C dX1_scanNumber_144 rfl ?_
              refine g_iadd C dX1_scanNumber_146 ?_
              refine g_istore C dX1_scanNumber_147 (Nat.le_of_ble_eq_true rfl) rfl ?_
              refine g_aload_n C dX1_scanNumber_149 rfl rfl ?_
              refine g_dup C dX1_scanNumber_150 rfl ?_
              refine g_get C inX1 0 rfl rfl 6 (by decide) f32 rfl dX1_scanNumber_151 ?_
              refine g_iconst C (v := 1) dX1_scanNumber_154 rfl ?_
              refine g_iadd C dX1_scanNumber_155 ?_
              rw [show ((nI (q)) + 1) = nI (((q) + 1)) from nI_add ((q)) (1)]
              refine g_put C (ws' := (scrW E s a sg (n) (vs, fs, ss, nc, ((q) + 1), vb, nu))) inX1 (ty := .int) tyX1 tyX1_ok nmX1 0 rfl rfl 6 (by decide) f32 rfl (by decide +kernel) rfl rfl (Nat.le_of_ble_eq_true rfl) dX1_scanNumber_156 rfl ?_
              refine g_iinc C (v := (nI (i + 1))) dX1_scanNumber_159 rfl rfl (nI_add (i) 1) ?_
              refine g_goto C (tgt := 95) dX1_scanNumber_162 (by decide) ?_
              refine ih _ (q + 1) (i + 1) _ (by omega) (by have := dgA_lt hc_120; omega) ?_
              rw [snL, if_pos ⟨hc_104, hc_120, hc_133⟩] at hfin
              exact hfin
            · refine g_goto C (tgt := 165) dX1_scanNumber_136 (by decide) ?_
              refine g_aload_n C dX1_scanNumber_165 rfl rfl ?_
              refine g_iload_n C dX1_scanNumber_166 rfl rfl ?_
              refine g_if_eq_t C dX1_scanNumber_167 (tgt := 176) (by decide) (by decide) ?_
              refine g_iload C dX1_scanNumber_176 rfl ?_
              refine g_put C (ws' := (scrW E s a sg (n) (vs, fs, ss, nc, q, vb, v))) inX1 (ty := .int) tyX1 tyX1_ok nmX1 0 rfl rfl 8 (by decide) f38 rfl (by decide +kernel) rfl rfl (Nat.le_of_ble_eq_true rfl) dX1_scanNumber_178 rfl ?_
              refine g_iconst C (v := 1) dX1_scanNumber_181 rfl ?_
              refine g_zret C R0 rfl dX1_scanNumber_182 ?_
              have hx : snL sg n lim (f + 1) v q = (v, q) := by rw [snL, if_neg (fun z => hc_133 z.2.2)]
              rw [hx] at hfin
              exact pT3 (c := true) (by rw [hfin]) (Or.inl ⟨rfl, rfl⟩) (by rw [hfin])
  have lp1 : ∀ (lim : Int32) (f : Nat) (v : Int32) (q i : Nat) (x7 : Option Value), i + f = 80 → q ≤ n → snR sg n l t p nu = (true, (snL sg n lim f v q).2, -(snL sg n lim f v q).1) → G E x (scrW E s a sg (n) (vs, fs, ss, nc, q, vb, nu)) [some (.ref s), some (.int l), some (.int t), some (.int 1), some (.int lim), some (.int v), some (.int (nI i)), x7] 95 [] := by
    intro lim f
    induction f with
    | zero =>
      intro v q i x7 hi hq hfin
      refine g_iload C dX1_scanNumber_95 rfl ?_
      refine g_bipush C (v := 80) dX1_scanNumber_97 rfl ?_
      refine g_icmp_ge C (tgt := 165) dX1_scanNumber_99 (by decide) (fun hc_99 => ?_) (fun hc_99 => ?_)
      · have hn_99 : (80) ≤ (i) := (nI_leI (a := (80)) (b := (i)) (by omega) (by omega)).mp hc_99
        refine g_aload_n C dX1_scanNumber_165 rfl rfl ?_
        refine g_iload_n C dX1_scanNumber_166 rfl rfl ?_
        refine g_if_eq_f C dX1_scanNumber_167 176 (by decide) (by decide) ?_
        refine g_iload C dX1_scanNumber_170 rfl ?_
        refine g_ineg C dX1_scanNumber_172 ?_
        refine g_goto C (tgt := 178) dX1_scanNumber_173 (by decide) ?_
        refine g_put C (ws' := (scrW E s a sg (n) (vs, fs, ss, nc, q, vb, (-v)))) inX1 (ty := .int) tyX1 tyX1_ok nmX1 0 rfl rfl 8 (by decide) f38 rfl (by decide +kernel) rfl rfl (Nat.le_of_ble_eq_true rfl) dX1_scanNumber_178 rfl ?_
        refine g_iconst C (v := 1) dX1_scanNumber_181 rfl ?_
        refine g_zret C R0 rfl dX1_scanNumber_182 ?_
        have hx : snL sg n lim 0 v q = (v, q) := rfl
        rw [hx] at hfin
        exact pT3 (c := true) (by rw [hfin]) (Or.inl ⟨rfl, rfl⟩) (by rw [hfin])
      · have hn_99 : ¬ (80) ≤ (i) := fun z => hc_99 ((nI_leI (a := (80)) (b := (i)) (by omega) (by omega)).mpr z)
        exact absurd hn_99 (by omega)
    | succ f ih =>
      intro v q i x7 hi hq hfin
      refine g_iload C dX1_scanNumber_95 rfl ?_
      refine g_bipush C (v := 80) dX1_scanNumber_97 rfl ?_
      refine g_icmp_ge C (tgt := 165) dX1_scanNumber_99 (by decide) (fun hc_99 => ?_) (fun hc_99 => ?_)
      · have hn_99 : (80) ≤ (i) := (nI_leI (a := (80)) (b := (i)) (by omega) (by omega)).mp hc_99
        exact absurd hn_99 (by omega)
      · have hn_99 : ¬ (80) ≤ (i) := fun z => hc_99 ((nI_leI (a := (80)) (b := (i)) (by omega) (by omega)).mpr z)
        refine g_iload C dX1_scanNumber_102 rfl ?_
        refine g_if_eq C (tgt := 165) dX1_scanNumber_104 (by decide) (fun hc_104 => ?_) (fun hc_104 => ?_)
        · refine g_aload_n C dX1_scanNumber_165 rfl rfl ?_
          refine g_iload_n C dX1_scanNumber_166 rfl rfl ?_
          refine g_if_eq_f C dX1_scanNumber_167 176 (by decide) (by decide) ?_
          refine g_iload C dX1_scanNumber_170 rfl ?_
          refine g_ineg C dX1_scanNumber_172 ?_
          refine g_goto C (tgt := 178) dX1_scanNumber_173 (by decide) ?_
          refine g_put C (ws' := (scrW E s a sg (n) (vs, fs, ss, nc, q, vb, (-v)))) inX1 (ty := .int) tyX1 tyX1_ok nmX1 0 rfl rfl 8 (by decide) f38 rfl (by decide +kernel) rfl rfl (Nat.le_of_ble_eq_true rfl) dX1_scanNumber_178 rfl ?_
          refine g_iconst C (v := 1) dX1_scanNumber_181 rfl ?_
          refine g_zret C R0 rfl dX1_scanNumber_182 ?_
          have hx : snL sg n lim (f + 1) v q = (v, q) := by rw [snL, if_neg (fun z => z.1 hc_104)]
          rw [hx] at hfin
          exact pT3 (c := true) (by rw [hfin]) (Or.inl ⟨rfl, rfl⟩) (by rw [hfin])
        · refine g_aload_n C dX1_scanNumber_107 rfl rfl ?_
          refine g_aload_n C dX1_scanNumber_108 rfl rfl ?_
          refine g_get C inX1 0 rfl rfl 6 (by decide) f32 rfl dX1_scanNumber_109 ?_
          refine g_calliVF C 0 rfl rfl (c_X1_digitAt E s a sg (n) hn vs fs ss nc q vb nu ((q)) (by omega)) cf_X1_digitAt gX1_scanNumber_X1_digitAt rfl (fitD (Nat.le_of_ble_eq_true rfl) (Nat.le_of_ble_eq_true rfl)) rfl rfl (Nat.le_of_ble_eq_true rfl) dX1_scanNumber_112 (fun r1 w1 hp => ?_)
          obtain ⟨rfl, rfl⟩ := hp
          refine g_istore C dX1_scanNumber_115 (Nat.le_of_ble_eq_true rfl) rfl ?_
          refine g_iload C dX1_scanNumber_117 rfl ?_
          refine g_iconst C (v := (-1)) dX1_scanNumber_119 rfl ?_
          refine g_icmp_eq C (tgt := 165) dX1_scanNumber_120 (by decide) (fun hc_120 => ?_) (fun hc_120 => ?_)
          · refine g_aload_n C dX1_scanNumber_165 rfl rfl ?_
            refine g_iload_n C dX1_scanNumber_166 rfl rfl ?_
            refine g_if_eq_f C dX1_scanNumber_167 176 (by decide) (by decide) ?_
            refine g_iload C dX1_scanNumber_170 rfl ?_
            refine g_ineg C dX1_scanNumber_172 ?_
            refine g_goto C (tgt := 178) dX1_scanNumber_173 (by decide) ?_
            refine g_put C (ws' := (scrW E s a sg (n) (vs, fs, ss, nc, q, vb, (-v)))) inX1 (ty := .int) tyX1 tyX1_ok nmX1 0 rfl rfl 8 (by decide) f38 rfl (by decide +kernel) rfl rfl (Nat.le_of_ble_eq_true rfl) dX1_scanNumber_178 rfl ?_
            refine g_iconst C (v := 1) dX1_scanNumber_181 rfl ?_
            refine g_zret C R0 rfl dX1_scanNumber_182 ?_
            have hx : snL sg n lim (f + 1) v q = (v, q) := by rw [snL, if_neg (fun z => z.2.1 hc_120)]
            rw [hx] at hfin
            exact pT3 (c := true) (by rw [hfin]) (Or.inl ⟨rfl, rfl⟩) (by rw [hfin])
          · refine g_iload C dX1_scanNumber_123 rfl ?_
            refine g_bipush C (v := 10) dX1_scanNumber_125 rfl ?_
            refine g_imul C dX1_scanNumber_127 ?_
            refine g_iload C dX1_scanNumber_128 rfl ?_
            refine g_iadd C dX1_scanNumber_130 ?_
            refine g_iload C dX1_scanNumber_131 rfl ?_
            refine g_icmp_le C (tgt := 139) dX1_scanNumber_133 (by decide) (fun hc_133 => ?_) (fun hc_133 => ?_)
            · refine g_iload C dX1_scanNumber_139 rfl ?_
              refine g_bipush C (v := 10) dX1_scanNumber_141 rfl ?_
              refine g_imul C dX1_scanNumber_143 ?_
              refine g_iload C dX1_scanNumber_144 rfl ?_
              refine g_iadd C dX1_scanNumber_146 ?_
              refine g_istore C dX1_scanNumber_147 (Nat.le_of_ble_eq_true rfl) rfl ?_
              refine g_aload_n C dX1_scanNumber_149 rfl rfl ?_
              refine g_dup C dX1_scanNumber_150 rfl ?_
              refine g_get C inX1 0 rfl rfl 6 (by decide) f32 rfl dX1_scanNumber_151 ?_
              refine g_iconst C (v := 1) dX1_scanNumber_154 rfl ?_
              refine g_iadd C dX1_scanNumber_155 ?_
              rw [show ((nI (q)) + 1) = nI (((q) + 1)) from nI_add ((q)) (1)]
              refine g_put C (ws' := (scrW E s a sg (n) (vs, fs, ss, nc, ((q) + 1), vb, nu))) inX1 (ty := .int) tyX1 tyX1_ok nmX1 0 rfl rfl 6 (by decide) f32 rfl (by decide +kernel) rfl rfl (Nat.le_of_ble_eq_true rfl) dX1_scanNumber_156 rfl ?_
              refine g_iinc C (v := (nI (i + 1))) dX1_scanNumber_159 rfl rfl (nI_add (i) 1) ?_
              refine g_goto C (tgt := 95) dX1_scanNumber_162 (by decide) ?_
              refine ih _ (q + 1) (i + 1) _ (by omega) (by have := dgA_lt hc_120; omega) ?_
              rw [snL, if_pos ⟨hc_104, hc_120, hc_133⟩] at hfin
              exact hfin
            · refine g_goto C (tgt := 165) dX1_scanNumber_136 (by decide) ?_
              refine g_aload_n C dX1_scanNumber_165 rfl rfl ?_
              refine g_iload_n C dX1_scanNumber_166 rfl rfl ?_
              refine g_if_eq_f C dX1_scanNumber_167 176 (by decide) (by decide) ?_
              refine g_iload C dX1_scanNumber_170 rfl ?_
              refine g_ineg C dX1_scanNumber_172 ?_
              refine g_goto C (tgt := 178) dX1_scanNumber_173 (by decide) ?_
              refine g_put C (ws' := (scrW E s a sg (n) (vs, fs, ss, nc, q, vb, (-v)))) inX1 (ty := .int) tyX1 tyX1_ok nmX1 0 rfl rfl 8 (by decide) f38 rfl (by decide +kernel) rfl rfl (Nat.le_of_ble_eq_true rfl) dX1_scanNumber_178 rfl ?_
              refine g_iconst C (v := 1) dX1_scanNumber_181 rfl ?_
              refine g_zret C R0 rfl dX1_scanNumber_182 ?_
              have hx : snL sg n lim (f + 1) v q = (v, q) := by rw [snL, if_neg (fun z => hc_133 z.2.2)]
              rw [hx] at hfin
              exact pT3 (c := true) (by rw [hfin]) (Or.inl ⟨rfl, rfl⟩) (by rw [hfin])
  refine g_aload_n C dX1_scanNumber_0 rfl rfl ?_
  refine g_bipush C (v := 32) dX1_scanNumber_1 rfl ?_
  refine g_calliVF C 0 rfl rfl (c_X1_skip E s a sg (n) hn vs fs ss nc p vb nu (by omega) _) cf_X1_skip gX1_scanNumber_X1_skip rfl (fitD (Nat.le_of_ble_eq_true rfl) (Nat.le_of_ble_eq_true rfl)) rfl rfl (Nat.le_of_ble_eq_true rfl) dX1_scanNumber_3 (fun r1 w1 hp9 => ?_)
  obtain ⟨hb_3, rfl, rfl⟩ | ⟨hb_3, rfl, rfl⟩ := hp9
  · have hq_3 := sgA_lt hb_3 (by decide)
    refine g_if_ne_t C dX1_scanNumber_6 (tgt := 11) (by decide) (by decide) ?_
    refine g_iload_n C dX1_scanNumber_11 rfl rfl ?_
    refine g_if_ge C (tgt := 28) dX1_scanNumber_12 (by decide) (fun hc_12 => ?_) (fun hc_12 => ?_)
    · refine g_iconst C (v := 0) dX1_scanNumber_28 rfl ?_
      refine g_istore_n C dX1_scanNumber_29 rfl (Nat.le_of_ble_eq_true rfl) rfl ?_
      refine g_iload_n C dX1_scanNumber_30 rfl rfl ?_
      refine g_if_eq_t C dX1_scanNumber_31 (tgt := 39) (by decide) (by decide) ?_
      refine g_iload_n C dX1_scanNumber_39 rfl rfl ?_
      refine g_istore C dX1_scanNumber_40 (Nat.le_of_ble_eq_true rfl) rfl ?_
      refine g_aload_n C dX1_scanNumber_42 rfl rfl ?_
      refine g_aload_n C dX1_scanNumber_43 rfl rfl ?_
      refine g_get C inX1 0 rfl rfl 6 (by decide) f32 rfl dX1_scanNumber_44 ?_
      refine g_calliVF C 0 rfl rfl (c_X1_digitAt E s a sg (n) hn vs fs ss nc (p + 1) vb nu ((p + 1)) (by omega)) cf_X1_digitAt gX1_scanNumber_X1_digitAt rfl (fitD (Nat.le_of_ble_eq_true rfl) (Nat.le_of_ble_eq_true rfl)) rfl rfl (Nat.le_of_ble_eq_true rfl) dX1_scanNumber_47 (fun r1 w1 hp => ?_)
      obtain ⟨rfl, rfl⟩ := hp
      refine g_istore C dX1_scanNumber_50 (Nat.le_of_ble_eq_true rfl) rfl ?_
      refine g_iload C dX1_scanNumber_52 rfl ?_
      refine g_iconst C (v := (-1)) dX1_scanNumber_54 rfl ?_
      refine g_icmp_eq C (tgt := 80) dX1_scanNumber_55 (by decide) (fun hc_55 => ?_) (fun hc_55 => ?_)
      · refine g_iconst C (v := 0) dX1_scanNumber_80 rfl ?_
        refine g_zret C R0 rfl dX1_scanNumber_81 ?_
        have hx : (snR sg n l t p nu) = (false, p + 1, nu) := by rw [snR, if_pos hb_3, if_neg (i32_le.mpr hc_12), snD, if_neg (fun z => z.1 hc_55)]
        exact pT3 (c := false) (by rw [hx]) (Or.inr ⟨rfl, rfl⟩) (by rw [hx])
      · refine g_iload C dX1_scanNumber_58 rfl ?_
        refine g_iload_n C dX1_scanNumber_60 rfl rfl ?_
        refine g_icmp_lt C (tgt := 80) dX1_scanNumber_61 (by decide) (fun hc_61 => ?_) (fun hc_61 => ?_)
        · refine g_iconst C (v := 0) dX1_scanNumber_80 rfl ?_
          refine g_zret C R0 rfl dX1_scanNumber_81 ?_
          have hx : (snR sg n l t p nu) = (false, p + 1, nu) := by rw [snR, if_pos hb_3, if_neg (i32_le.mpr hc_12), snD, if_neg (fun z => z.2.1 hc_61)]
          exact pT3 (c := false) (by rw [hx]) (Or.inr ⟨rfl, rfl⟩) (by rw [hx])
        · refine g_iload C dX1_scanNumber_64 rfl ?_
          refine g_iload C dX1_scanNumber_66 rfl ?_
          refine g_icmp_gt C (tgt := 80) dX1_scanNumber_68 (by decide) (fun hc_68 => ?_) (fun hc_68 => ?_)
          · refine g_iconst C (v := 0) dX1_scanNumber_80 rfl ?_
            refine g_zret C R0 rfl dX1_scanNumber_81 ?_
            have hx : (snR sg n l t p nu) = (false, p + 1, nu) := by rw [snR, if_pos hb_3, if_neg (i32_le.mpr hc_12), snD, if_neg (fun z => z.2.2.1 hc_68)]
            exact pT3 (c := false) (by rw [hx]) (Or.inr ⟨rfl, rfl⟩) (by rw [hx])
          · refine g_iload_n C dX1_scanNumber_71 rfl rfl ?_
            refine g_if_eq_t C dX1_scanNumber_72 (tgt := 82) (by decide) (by decide) ?_
            refine g_aload_n C dX1_scanNumber_82 rfl rfl ?_
            refine g_dup C dX1_scanNumber_83 rfl ?_
            refine g_get C inX1 0 rfl rfl 6 (by decide) f32 rfl dX1_scanNumber_84 ?_
            refine g_iconst C (v := 1) dX1_scanNumber_87 rfl ?_
            refine g_iadd C dX1_scanNumber_88 ?_
            rw [show ((nI (p + 1)) + 1) = nI (((p + 1) + 1)) from nI_add ((p + 1)) (1)]
            refine g_put C (ws' := (scrW E s a sg (n) (vs, fs, ss, nc, ((p + 1) + 1), vb, nu))) inX1 (ty := .int) tyX1 tyX1_ok nmX1 0 rfl rfl 6 (by decide) f32 rfl (by decide +kernel) rfl rfl (Nat.le_of_ble_eq_true rfl) dX1_scanNumber_89 rfl ?_
            refine g_iconst C (v := 0) dX1_scanNumber_92 rfl ?_
            refine g_istore C dX1_scanNumber_93 (Nat.le_of_ble_eq_true rfl) rfl ?_
            refine lp0 _ 80 _ _ 0 _ (by omega) (by have := dgA_lt hc_55; omega) ?_
            rw [snR, if_pos hb_3, if_neg (i32_le.mpr hc_12), snD, if_pos ⟨hc_55, hc_61, hc_68, (fun z => absurd z.1 (by decide))⟩] <;> rfl
    · refine g_aload_n C dX1_scanNumber_15 rfl rfl ?_
      refine g_bipush C (v := 45) dX1_scanNumber_16 rfl ?_
      refine g_calliVF C 0 rfl rfl (c_X1_skip E s a sg (n) hn vs fs ss nc (p + 1) vb nu (by omega) _) cf_X1_skip gX1_scanNumber_X1_skip rfl (fitD (Nat.le_of_ble_eq_true rfl) (Nat.le_of_ble_eq_true rfl)) rfl rfl (Nat.le_of_ble_eq_true rfl) dX1_scanNumber_18 (fun r1 w1 hp9 => ?_)
      obtain ⟨hb_18, rfl, rfl⟩ | ⟨hb_18, rfl, rfl⟩ := hp9
      · have hq_18 := sgA_lt hb_18 (by decide)
        refine g_if_eq_f C dX1_scanNumber_21 28 (by decide) (by decide) ?_
        refine g_iconst C (v := 1) dX1_scanNumber_24 rfl ?_
        refine g_goto C (tgt := 29) dX1_scanNumber_25 (by decide) ?_
        refine g_istore_n C dX1_scanNumber_29 rfl (Nat.le_of_ble_eq_true rfl) rfl ?_
        refine g_iload_n C dX1_scanNumber_30 rfl rfl ?_
        refine g_if_eq_f C dX1_scanNumber_31 39 (by decide) (by decide) ?_
        refine g_iload_n C dX1_scanNumber_34 rfl rfl ?_
        refine g_ineg C dX1_scanNumber_35 ?_
        refine g_goto C (tgt := 40) dX1_scanNumber_36 (by decide) ?_
        refine g_istore C dX1_scanNumber_40 (Nat.le_of_ble_eq_true rfl) rfl ?_
        refine g_aload_n C dX1_scanNumber_42 rfl rfl ?_
        refine g_aload_n C dX1_scanNumber_43 rfl rfl ?_
        refine g_get C inX1 0 rfl rfl 6 (by decide) f32 rfl dX1_scanNumber_44 ?_
        refine g_calliVF C 0 rfl rfl (c_X1_digitAt E s a sg (n) hn vs fs ss nc (p + 1 + 1) vb nu ((p + 1 + 1)) (by omega)) cf_X1_digitAt gX1_scanNumber_X1_digitAt rfl (fitD (Nat.le_of_ble_eq_true rfl) (Nat.le_of_ble_eq_true rfl)) rfl rfl (Nat.le_of_ble_eq_true rfl) dX1_scanNumber_47 (fun r1 w1 hp => ?_)
        obtain ⟨rfl, rfl⟩ := hp
        refine g_istore C dX1_scanNumber_50 (Nat.le_of_ble_eq_true rfl) rfl ?_
        refine g_iload C dX1_scanNumber_52 rfl ?_
        refine g_iconst C (v := (-1)) dX1_scanNumber_54 rfl ?_
        refine g_icmp_eq C (tgt := 80) dX1_scanNumber_55 (by decide) (fun hc_55 => ?_) (fun hc_55 => ?_)
        · refine g_iconst C (v := 0) dX1_scanNumber_80 rfl ?_
          refine g_zret C R0 rfl dX1_scanNumber_81 ?_
          have hx : (snR sg n l t p nu) = (false, p + 1 + 1, nu) := by rw [snR, if_pos hb_3, if_pos (i32_lt.mp hc_12), if_pos hb_18, snD, if_neg (fun z => z.1 hc_55)]
          exact pT3 (c := false) (by rw [hx]) (Or.inr ⟨rfl, rfl⟩) (by rw [hx])
        · refine g_iload C dX1_scanNumber_58 rfl ?_
          refine g_iload_n C dX1_scanNumber_60 rfl rfl ?_
          refine g_icmp_lt C (tgt := 80) dX1_scanNumber_61 (by decide) (fun hc_61 => ?_) (fun hc_61 => ?_)
          · refine g_iconst C (v := 0) dX1_scanNumber_80 rfl ?_
            refine g_zret C R0 rfl dX1_scanNumber_81 ?_
            have hx : (snR sg n l t p nu) = (false, p + 1 + 1, nu) := by rw [snR, if_pos hb_3, if_pos (i32_lt.mp hc_12), if_pos hb_18, snD, if_neg (fun z => z.2.1 hc_61)]
            exact pT3 (c := false) (by rw [hx]) (Or.inr ⟨rfl, rfl⟩) (by rw [hx])
          · refine g_iload C dX1_scanNumber_64 rfl ?_
            refine g_iload C dX1_scanNumber_66 rfl ?_
            refine g_icmp_gt C (tgt := 80) dX1_scanNumber_68 (by decide) (fun hc_68 => ?_) (fun hc_68 => ?_)
            · refine g_iconst C (v := 0) dX1_scanNumber_80 rfl ?_
              refine g_zret C R0 rfl dX1_scanNumber_81 ?_
              have hx : (snR sg n l t p nu) = (false, p + 1 + 1, nu) := by rw [snR, if_pos hb_3, if_pos (i32_lt.mp hc_12), if_pos hb_18, snD, if_neg (fun z => z.2.2.1 hc_68)]
              exact pT3 (c := false) (by rw [hx]) (Or.inr ⟨rfl, rfl⟩) (by rw [hx])
            · refine g_iload_n C dX1_scanNumber_71 rfl rfl ?_
              refine g_if_eq_f C dX1_scanNumber_72 82 (by decide) (by decide) ?_
              refine g_iload C dX1_scanNumber_75 rfl ?_
              refine g_if_ne C (tgt := 82) dX1_scanNumber_77 (by decide) (fun hc_77 => ?_) (fun hc_77 => ?_)
              · refine g_aload_n C dX1_scanNumber_82 rfl rfl ?_
                refine g_dup C dX1_scanNumber_83 rfl ?_
                refine g_get C inX1 0 rfl rfl 6 (by decide) f32 rfl dX1_scanNumber_84 ?_
                refine g_iconst C (v := 1) dX1_scanNumber_87 rfl ?_
                refine g_iadd C dX1_scanNumber_88 ?_
                rw [show ((nI (p + 1 + 1)) + 1) = nI (((p + 1 + 1) + 1)) from nI_add ((p + 1 + 1)) (1)]
                refine g_put C (ws' := (scrW E s a sg (n) (vs, fs, ss, nc, ((p + 1 + 1) + 1), vb, nu))) inX1 (ty := .int) tyX1 tyX1_ok nmX1 0 rfl rfl 6 (by decide) f32 rfl (by decide +kernel) rfl rfl (Nat.le_of_ble_eq_true rfl) dX1_scanNumber_89 rfl ?_
                refine g_iconst C (v := 0) dX1_scanNumber_92 rfl ?_
                refine g_istore C dX1_scanNumber_93 (Nat.le_of_ble_eq_true rfl) rfl ?_
                refine lp1 _ 80 _ _ 0 _ (by omega) (by have := dgA_lt hc_55; omega) ?_
                rw [snR, if_pos hb_3, if_pos (i32_lt.mp hc_12), if_pos hb_18, snD, if_pos ⟨hc_55, hc_61, hc_68, (fun z => hc_77 z.2)⟩] <;> rfl
              · refine g_iconst C (v := 0) dX1_scanNumber_80 rfl ?_
                refine g_zret C R0 rfl dX1_scanNumber_81 ?_
                have hx : (snR sg n l t p nu) = (false, p + 1 + 1, nu) := by rw [snR, if_pos hb_3, if_pos (i32_lt.mp hc_12), if_pos hb_18, snD, if_neg (fun z => z.2.2.2 ⟨rfl, hc_77⟩)]
                exact pT3 (c := false) (by rw [hx]) (Or.inr ⟨rfl, rfl⟩) (by rw [hx])
      · refine g_if_eq_t C dX1_scanNumber_21 (tgt := 28) (by decide) (by decide) ?_
        refine g_iconst C (v := 0) dX1_scanNumber_28 rfl ?_
        refine g_istore_n C dX1_scanNumber_29 rfl (Nat.le_of_ble_eq_true rfl) rfl ?_
        refine g_iload_n C dX1_scanNumber_30 rfl rfl ?_
        refine g_if_eq_t C dX1_scanNumber_31 (tgt := 39) (by decide) (by decide) ?_
        refine g_iload_n C dX1_scanNumber_39 rfl rfl ?_
        refine g_istore C dX1_scanNumber_40 (Nat.le_of_ble_eq_true rfl) rfl ?_
        refine g_aload_n C dX1_scanNumber_42 rfl rfl ?_
        refine g_aload_n C dX1_scanNumber_43 rfl rfl ?_
        refine g_get C inX1 0 rfl rfl 6 (by decide) f32 rfl dX1_scanNumber_44 ?_
        refine g_calliVF C 0 rfl rfl (c_X1_digitAt E s a sg (n) hn vs fs ss nc (p + 1) vb nu ((p + 1)) (by omega)) cf_X1_digitAt gX1_scanNumber_X1_digitAt rfl (fitD (Nat.le_of_ble_eq_true rfl) (Nat.le_of_ble_eq_true rfl)) rfl rfl (Nat.le_of_ble_eq_true rfl) dX1_scanNumber_47 (fun r1 w1 hp => ?_)
        obtain ⟨rfl, rfl⟩ := hp
        refine g_istore C dX1_scanNumber_50 (Nat.le_of_ble_eq_true rfl) rfl ?_
        refine g_iload C dX1_scanNumber_52 rfl ?_
        refine g_iconst C (v := (-1)) dX1_scanNumber_54 rfl ?_
        refine g_icmp_eq C (tgt := 80) dX1_scanNumber_55 (by decide) (fun hc_55 => ?_) (fun hc_55 => ?_)
        · refine g_iconst C (v := 0) dX1_scanNumber_80 rfl ?_
          refine g_zret C R0 rfl dX1_scanNumber_81 ?_
          have hx : (snR sg n l t p nu) = (false, p + 1, nu) := by rw [snR, if_pos hb_3, if_pos (i32_lt.mp hc_12), if_neg hb_18, snD, if_neg (fun z => z.1 hc_55)]
          exact pT3 (c := false) (by rw [hx]) (Or.inr ⟨rfl, rfl⟩) (by rw [hx])
        · refine g_iload C dX1_scanNumber_58 rfl ?_
          refine g_iload_n C dX1_scanNumber_60 rfl rfl ?_
          refine g_icmp_lt C (tgt := 80) dX1_scanNumber_61 (by decide) (fun hc_61 => ?_) (fun hc_61 => ?_)
          · refine g_iconst C (v := 0) dX1_scanNumber_80 rfl ?_
            refine g_zret C R0 rfl dX1_scanNumber_81 ?_
            have hx : (snR sg n l t p nu) = (false, p + 1, nu) := by rw [snR, if_pos hb_3, if_pos (i32_lt.mp hc_12), if_neg hb_18, snD, if_neg (fun z => z.2.1 hc_61)]
            exact pT3 (c := false) (by rw [hx]) (Or.inr ⟨rfl, rfl⟩) (by rw [hx])
          · refine g_iload C dX1_scanNumber_64 rfl ?_
            refine g_iload C dX1_scanNumber_66 rfl ?_
            refine g_icmp_gt C (tgt := 80) dX1_scanNumber_68 (by decide) (fun hc_68 => ?_) (fun hc_68 => ?_)
            · refine g_iconst C (v := 0) dX1_scanNumber_80 rfl ?_
              refine g_zret C R0 rfl dX1_scanNumber_81 ?_
              have hx : (snR sg n l t p nu) = (false, p + 1, nu) := by rw [snR, if_pos hb_3, if_pos (i32_lt.mp hc_12), if_neg hb_18, snD, if_neg (fun z => z.2.2.1 hc_68)]
              exact pT3 (c := false) (by rw [hx]) (Or.inr ⟨rfl, rfl⟩) (by rw [hx])
            · refine g_iload_n C dX1_scanNumber_71 rfl rfl ?_
              refine g_if_eq_t C dX1_scanNumber_72 (tgt := 82) (by decide) (by decide) ?_
              refine g_aload_n C dX1_scanNumber_82 rfl rfl ?_
              refine g_dup C dX1_scanNumber_83 rfl ?_
              refine g_get C inX1 0 rfl rfl 6 (by decide) f32 rfl dX1_scanNumber_84 ?_
              refine g_iconst C (v := 1) dX1_scanNumber_87 rfl ?_
              refine g_iadd C dX1_scanNumber_88 ?_
              rw [show ((nI (p + 1)) + 1) = nI (((p + 1) + 1)) from nI_add ((p + 1)) (1)]
              refine g_put C (ws' := (scrW E s a sg (n) (vs, fs, ss, nc, ((p + 1) + 1), vb, nu))) inX1 (ty := .int) tyX1 tyX1_ok nmX1 0 rfl rfl 6 (by decide) f32 rfl (by decide +kernel) rfl rfl (Nat.le_of_ble_eq_true rfl) dX1_scanNumber_89 rfl ?_
              refine g_iconst C (v := 0) dX1_scanNumber_92 rfl ?_
              refine g_istore C dX1_scanNumber_93 (Nat.le_of_ble_eq_true rfl) rfl ?_
              refine lp0 _ 80 _ _ 0 _ (by omega) (by have := dgA_lt hc_55; omega) ?_
              rw [snR, if_pos hb_3, if_pos (i32_lt.mp hc_12), if_neg hb_18, snD, if_pos ⟨hc_55, hc_61, hc_68, (fun z => absurd z.1 (by decide))⟩] <;> rfl
  · refine g_if_ne_f C dX1_scanNumber_6 11 (by decide) (by decide) ?_
    refine g_iconst C (v := 0) dX1_scanNumber_9 rfl ?_
    refine g_zret C R0 rfl dX1_scanNumber_10 ?_
    have hx : (snR sg n l t p nu) = (false, p, nu) := by rw [snR, if_neg hb_3]
    exact pT3 (c := false) (by rw [hx]) (Or.inr ⟨rfl, rfl⟩) (by rw [hx])
set_option maxHeartbeats 4000000 in
set_option maxRecDepth 100000 in
theorem c_X1_scanFirst (E : Ev) (s : Nat) (a : Nat → Nat) (sg : F) (n : Nat) (hn : n ≤ 80) (vs fs ss : F) (nc p : Nat) (vb nu : Int32) (hp : p ≤ n) : MI E yX1_scanFirst wsX1_scanFirst (rmD 3) (scrW E s a sg (n) (vs, fs, ss, nc, p, vb, nu)) [.ref s] (pT (sf1 sg n vb p nu).1 (scrW E s a sg (n) (vs, fs, ss, nc, (sf1 sg n vb p nu).2.1, vb, (sf1 sg n vb p nu).2.2))) := by
  have inX1 : ∀ w ∈ u_ws RX1 TX1 9, w ∈ wsX1_scanFirst := by decide +kernel
  have f35 : Cond.fieldLink RX1 35 (TX1 7).1 (TX1 7).2.1 (TX1 7).2.2.1 ∈ wsX1_scanFirst := by decide +kernel
  refine MI.of (cc := cX1_scanFirst) (nL := 1) (ty := .boolean) (own := RX1) [some (.ref s)] (by decide +kernel) rfl rfl (Nat.le_of_ble_eq_true rfl) rfl rfl ?_
  intro x C R0
  refine g_aload_n C dX1_scanFirst_0 rfl rfl ?_
  refine g_get C inX1 0 rfl rfl 7 (by decide) f35 rfl dX1_scanFirst_1 ?_
  by_cases hc_4_0 : vb = 0
  · have he_4 : (vb).toInt = 0 := by rw [hc_4_0]; rfl
    refine g_tableIn C (tgt := 40) dX1_scanFirst_4 (by rw [he_4]; decide) (by rw [he_4]; decide) (by rw [he_4]; rfl) (by decide) ?_
    refine g_aload_n C dX1_scanFirst_40 rfl rfl ?_
    refine g_iconst C (v := 0) dX1_scanFirst_41 rfl ?_
    refine g_iconst C (v := 3) dX1_scanFirst_42 rfl ?_
    have hle_43 := snR_le (sg := sg) (n := n) (l := 0) (t := 3) (nu := nu) (p := p) (by omega)
    refine g_calliVF C 0 rfl rfl (c_X1_scanNumber E s a sg (n) hn vs fs ss nc p vb nu (by omega) _ _) cf_X1_scanNumber gX1_scanFirst_X1_scanNumber rfl (fitD (Nat.le_of_ble_eq_true rfl) (Nat.le_of_ble_eq_true rfl)) rfl rfl (Nat.le_of_ble_eq_true rfl) dX1_scanFirst_43 (fun r1 w1 hp9 => ?_)
    obtain ⟨⟨hb_43, rfl⟩ | ⟨hb_43, rfl⟩, rfl⟩ := hp9
    · refine g_zret C R0 rfl dX1_scanFirst_46 ?_
      have hx : (sf1 sg n vb p nu) = (snR sg n 0 3 (p) nu) := by rw [sf1, if_pos hc_4_0]
      exact pT3 (c := true) (by rw [hx]; exact hb_43) (Or.inl ⟨rfl, rfl⟩) (by rw [hx])
    · refine g_zret C R0 rfl dX1_scanFirst_46 ?_
      have hx : (sf1 sg n vb p nu) = (snR sg n 0 3 (p) nu) := by rw [sf1, if_pos hc_4_0]
      exact pT3 (c := false) (by rw [hx]; exact hb_43) (Or.inr ⟨rfl, rfl⟩) (by rw [hx])
  · skip
    by_cases hc_4_1 : vb = 1
    · have he_4 : (vb).toInt = 1 := by rw [hc_4_1]; rfl
      refine g_tableIn C (tgt := 63) dX1_scanFirst_4 (by rw [he_4]; decide) (by rw [he_4]; decide) (by rw [he_4]; rfl) (by decide) ?_
      refine g_aload_n C dX1_scanFirst_63 rfl rfl ?_
      refine g_iconst C (v := 0) dX1_scanFirst_64 rfl ?_
      refine g_bipush C (v := 11) dX1_scanFirst_65 rfl ?_
      have hle_67 := snR_le (sg := sg) (n := n) (l := 0) (t := 11) (nu := nu) (p := p) (by omega)
      refine g_calliVF C 0 rfl rfl (c_X1_scanNumber E s a sg (n) hn vs fs ss nc p vb nu (by omega) _ _) cf_X1_scanNumber gX1_scanFirst_X1_scanNumber rfl (fitD (Nat.le_of_ble_eq_true rfl) (Nat.le_of_ble_eq_true rfl)) rfl rfl (Nat.le_of_ble_eq_true rfl) dX1_scanFirst_67 (fun r1 w1 hp9 => ?_)
      obtain ⟨⟨hb_67, rfl⟩ | ⟨hb_67, rfl⟩, rfl⟩ := hp9
      · refine g_zret C R0 rfl dX1_scanFirst_70 ?_
        have hx : (sf1 sg n vb p nu) = (snR sg n 0 11 (p) nu) := by rw [sf1, if_neg (by rw [hc_4_1]; decide), if_neg (by rw [hc_4_1]; decide), if_neg (by rw [hc_4_1]; decide)]
        exact pT3 (c := true) (by rw [hx]; exact hb_67) (Or.inl ⟨rfl, rfl⟩) (by rw [hx])
      · refine g_zret C R0 rfl dX1_scanFirst_70 ?_
        have hx : (sf1 sg n vb p nu) = (snR sg n 0 11 (p) nu) := by rw [sf1, if_neg (by rw [hc_4_1]; decide), if_neg (by rw [hc_4_1]; decide), if_neg (by rw [hc_4_1]; decide)]
        exact pT3 (c := false) (by rw [hx]; exact hb_67) (Or.inr ⟨rfl, rfl⟩) (by rw [hx])
    · skip
      by_cases hc_4_2 : vb = 2
      · have he_4 : (vb).toInt = 2 := by rw [hc_4_2]; rfl
        refine g_tableIn C (tgt := 63) dX1_scanFirst_4 (by rw [he_4]; decide) (by rw [he_4]; decide) (by rw [he_4]; rfl) (by decide) ?_
        refine g_aload_n C dX1_scanFirst_63 rfl rfl ?_
        refine g_iconst C (v := 0) dX1_scanFirst_64 rfl ?_
        refine g_bipush C (v := 11) dX1_scanFirst_65 rfl ?_
        have hle_67 := snR_le (sg := sg) (n := n) (l := 0) (t := 11) (nu := nu) (p := p) (by omega)
        refine g_calliVF C 0 rfl rfl (c_X1_scanNumber E s a sg (n) hn vs fs ss nc p vb nu (by omega) _ _) cf_X1_scanNumber gX1_scanFirst_X1_scanNumber rfl (fitD (Nat.le_of_ble_eq_true rfl) (Nat.le_of_ble_eq_true rfl)) rfl rfl (Nat.le_of_ble_eq_true rfl) dX1_scanFirst_67 (fun r1 w1 hp9 => ?_)
        obtain ⟨⟨hb_67, rfl⟩ | ⟨hb_67, rfl⟩, rfl⟩ := hp9
        · refine g_zret C R0 rfl dX1_scanFirst_70 ?_
          have hx : (sf1 sg n vb p nu) = (snR sg n 0 11 (p) nu) := by rw [sf1, if_neg (by rw [hc_4_2]; decide), if_neg (by rw [hc_4_2]; decide), if_neg (by rw [hc_4_2]; decide)]
          exact pT3 (c := true) (by rw [hx]; exact hb_67) (Or.inl ⟨rfl, rfl⟩) (by rw [hx])
        · refine g_zret C R0 rfl dX1_scanFirst_70 ?_
          have hx : (sf1 sg n vb p nu) = (snR sg n 0 11 (p) nu) := by rw [sf1, if_neg (by rw [hc_4_2]; decide), if_neg (by rw [hc_4_2]; decide), if_neg (by rw [hc_4_2]; decide)]
          exact pT3 (c := false) (by rw [hx]; exact hb_67) (Or.inr ⟨rfl, rfl⟩) (by rw [hx])
      · skip
        by_cases hc_4_3 : vb = 3
        · have he_4 : (vb).toInt = 3 := by rw [hc_4_3]; rfl
          refine g_tableIn C (tgt := 47) dX1_scanFirst_4 (by rw [he_4]; decide) (by rw [he_4]; decide) (by rw [he_4]; rfl) (by decide) ?_
          refine g_aload_n C dX1_scanFirst_47 rfl rfl ?_
          refine g_iconst C (v := 1) dX1_scanFirst_48 rfl ?_
          refine g_bipush C (v := 20) dX1_scanFirst_49 rfl ?_
          have hle_51 := snR_le (sg := sg) (n := n) (l := 1) (t := 20) (nu := nu) (p := p) (by omega)
          refine g_calliVF C 0 rfl rfl (c_X1_scanNumber E s a sg (n) hn vs fs ss nc p vb nu (by omega) _ _) cf_X1_scanNumber gX1_scanFirst_X1_scanNumber rfl (fitD (Nat.le_of_ble_eq_true rfl) (Nat.le_of_ble_eq_true rfl)) rfl rfl (Nat.le_of_ble_eq_true rfl) dX1_scanFirst_51 (fun r1 w1 hp9 => ?_)
          obtain ⟨⟨hb_51, rfl⟩ | ⟨hb_51, rfl⟩, rfl⟩ := hp9
          · refine g_zret C R0 rfl dX1_scanFirst_54 ?_
            have hx : (sf1 sg n vb p nu) = (snR sg n 1 20 (p) nu) := by rw [sf1, if_neg (by rw [hc_4_3]; decide), if_pos hc_4_3]
            exact pT3 (c := true) (by rw [hx]; exact hb_51) (Or.inl ⟨rfl, rfl⟩) (by rw [hx])
          · refine g_zret C R0 rfl dX1_scanFirst_54 ?_
            have hx : (sf1 sg n vb p nu) = (snR sg n 1 20 (p) nu) := by rw [sf1, if_neg (by rw [hc_4_3]; decide), if_pos hc_4_3]
            exact pT3 (c := false) (by rw [hx]; exact hb_51) (Or.inr ⟨rfl, rfl⟩) (by rw [hx])
        · skip
          by_cases hc_4_4 : vb = 4
          · have he_4 : (vb).toInt = 4 := by rw [hc_4_4]; rfl
            refine g_tableIn C (tgt := 55) dX1_scanFirst_4 (by rw [he_4]; decide) (by rw [he_4]; decide) (by rw [he_4]; rfl) (by decide) ?_
            refine g_aload_n C dX1_scanFirst_55 rfl rfl ?_
            refine g_iconst C (v := 0) dX1_scanFirst_56 rfl ?_
            refine g_bipush C (v := 7) dX1_scanFirst_57 rfl ?_
            have hle_59 := snR_le (sg := sg) (n := n) (l := 0) (t := 7) (nu := nu) (p := p) (by omega)
            refine g_calliVF C 0 rfl rfl (c_X1_scanNumber E s a sg (n) hn vs fs ss nc p vb nu (by omega) _ _) cf_X1_scanNumber gX1_scanFirst_X1_scanNumber rfl (fitD (Nat.le_of_ble_eq_true rfl) (Nat.le_of_ble_eq_true rfl)) rfl rfl (Nat.le_of_ble_eq_true rfl) dX1_scanFirst_59 (fun r1 w1 hp9 => ?_)
            obtain ⟨⟨hb_59, rfl⟩ | ⟨hb_59, rfl⟩, rfl⟩ := hp9
            · refine g_zret C R0 rfl dX1_scanFirst_62 ?_
              have hx : (sf1 sg n vb p nu) = (snR sg n 0 7 (p) nu) := by rw [sf1, if_neg (by rw [hc_4_4]; decide), if_neg (by rw [hc_4_4]; decide), if_pos hc_4_4]
              exact pT3 (c := true) (by rw [hx]; exact hb_59) (Or.inl ⟨rfl, rfl⟩) (by rw [hx])
            · refine g_zret C R0 rfl dX1_scanFirst_62 ?_
              have hx : (sf1 sg n vb p nu) = (snR sg n 0 7 (p) nu) := by rw [sf1, if_neg (by rw [hc_4_4]; decide), if_neg (by rw [hc_4_4]; decide), if_pos hc_4_4]
              exact pT3 (c := false) (by rw [hx]; exact hb_59) (Or.inr ⟨rfl, rfl⟩) (by rw [hx])
          · skip
            refine g_tableOut C (tgt := 63) dX1_scanFirst_4 (sw_out5 hc_4_0 hc_4_1 hc_4_2 hc_4_3 hc_4_4) (by decide) ?_
            refine g_aload_n C dX1_scanFirst_63 rfl rfl ?_
            refine g_iconst C (v := 0) dX1_scanFirst_64 rfl ?_
            refine g_bipush C (v := 11) dX1_scanFirst_65 rfl ?_
            have hle_67 := snR_le (sg := sg) (n := n) (l := 0) (t := 11) (nu := nu) (p := p) (by omega)
            refine g_calliVF C 0 rfl rfl (c_X1_scanNumber E s a sg (n) hn vs fs ss nc p vb nu (by omega) _ _) cf_X1_scanNumber gX1_scanFirst_X1_scanNumber rfl (fitD (Nat.le_of_ble_eq_true rfl) (Nat.le_of_ble_eq_true rfl)) rfl rfl (Nat.le_of_ble_eq_true rfl) dX1_scanFirst_67 (fun r1 w1 hp9 => ?_)
            obtain ⟨⟨hb_67, rfl⟩ | ⟨hb_67, rfl⟩, rfl⟩ := hp9
            · refine g_zret C R0 rfl dX1_scanFirst_70 ?_
              have hx : (sf1 sg n vb p nu) = (snR sg n 0 11 (p) nu) := by rw [sf1, if_neg hc_4_0, if_neg hc_4_3, if_neg hc_4_4]
              exact pT3 (c := true) (by rw [hx]; exact hb_67) (Or.inl ⟨rfl, rfl⟩) (by rw [hx])
            · refine g_zret C R0 rfl dX1_scanFirst_70 ?_
              have hx : (sf1 sg n vb p nu) = (snR sg n 0 11 (p) nu) := by rw [sf1, if_neg hc_4_0, if_neg hc_4_3, if_neg hc_4_4]
              exact pT3 (c := false) (by rw [hx]; exact hb_67) (Or.inr ⟨rfl, rfl⟩) (by rw [hx])
set_option maxHeartbeats 4000000 in
set_option maxRecDepth 100000 in
theorem c_X1_scanSecond (E : Ev) (s : Nat) (a : Nat → Nat) (sg : F) (n : Nat) (hn : n ≤ 80) (vs fs ss : F) (nc p : Nat) (vb nu : Int32) (hp : p ≤ n) : MI E yX1_scanSecond wsX1_scanSecond (rmD 3) (scrW E s a sg (n) (vs, fs, ss, nc, p, vb, nu)) [.ref s] (pT (sf2 sg n vb p nu).1 (scrW E s a sg (n) (vs, fs, ss, nc, (sf2 sg n vb p nu).2.1, vb, (sf2 sg n vb p nu).2.2))) := by
  have inX1 : ∀ w ∈ u_ws RX1 TX1 9, w ∈ wsX1_scanSecond := by decide +kernel
  have f35 : Cond.fieldLink RX1 35 (TX1 7).1 (TX1 7).2.1 (TX1 7).2.2.1 ∈ wsX1_scanSecond := by decide +kernel
  refine MI.of (cc := cX1_scanSecond) (nL := 1) (ty := .boolean) (own := RX1) [some (.ref s)] (by decide +kernel) rfl rfl (Nat.le_of_ble_eq_true rfl) rfl rfl ?_
  intro x C R0
  refine g_aload_n C dX1_scanSecond_0 rfl rfl ?_
  refine g_get C inX1 0 rfl rfl 7 (by decide) f35 rfl dX1_scanSecond_1 ?_
  refine g_iconst C (v := 4) dX1_scanSecond_4 rfl ?_
  refine g_icmp_ne C (tgt := 18) dX1_scanSecond_5 (by decide) (fun hc_5 => ?_) (fun hc_5 => ?_)
  · refine g_aload_n C dX1_scanSecond_18 rfl rfl ?_
    refine g_sipush C (v := (-999)) dX1_scanSecond_19 rfl ?_
    refine g_sipush C (v := 999) dX1_scanSecond_22 rfl ?_
    have hle_25 := snR_le (sg := sg) (n := n) (l := (-999)) (t := 999) (nu := nu) (p := p) (by omega)
    refine g_calliVF C 0 rfl rfl (c_X1_scanNumber E s a sg (n) hn vs fs ss nc p vb nu (by omega) _ _) cf_X1_scanNumber gX1_scanSecond_X1_scanNumber rfl (fitD (Nat.le_of_ble_eq_true rfl) (Nat.le_of_ble_eq_true rfl)) rfl rfl (Nat.le_of_ble_eq_true rfl) dX1_scanSecond_25 (fun r1 w1 hp9 => ?_)
    obtain ⟨⟨hb_25, rfl⟩ | ⟨hb_25, rfl⟩, rfl⟩ := hp9
    · refine g_zret C R0 rfl dX1_scanSecond_28 ?_
      have hx : (sf2 sg n vb p nu) = (snR sg n (-999) 999 (p) nu) := by rw [sf2, if_neg hc_5]
      exact pT3 (c := true) (by rw [hx]; exact hb_25) (Or.inl ⟨rfl, rfl⟩) (by rw [hx])
    · refine g_zret C R0 rfl dX1_scanSecond_28 ?_
      have hx : (sf2 sg n vb p nu) = (snR sg n (-999) 999 (p) nu) := by rw [sf2, if_neg hc_5]
      exact pT3 (c := false) (by rw [hx]; exact hb_25) (Or.inr ⟨rfl, rfl⟩) (by rw [hx])
  · refine g_aload_n C dX1_scanSecond_8 rfl rfl ?_
    refine g_iconst C (v := 0) dX1_scanSecond_9 rfl ?_
    refine g_bipush C (v := 9) dX1_scanSecond_10 rfl ?_
    have hle_12 := snR_le (sg := sg) (n := n) (l := 0) (t := 9) (nu := nu) (p := p) (by omega)
    refine g_calliVF C 0 rfl rfl (c_X1_scanNumber E s a sg (n) hn vs fs ss nc p vb nu (by omega) _ _) cf_X1_scanNumber gX1_scanSecond_X1_scanNumber rfl (fitD (Nat.le_of_ble_eq_true rfl) (Nat.le_of_ble_eq_true rfl)) rfl rfl (Nat.le_of_ble_eq_true rfl) dX1_scanSecond_12 (fun r1 w1 hp9 => ?_)
    obtain ⟨⟨hb_12, rfl⟩ | ⟨hb_12, rfl⟩, rfl⟩ := hp9
    · refine g_goto C (tgt := 28) dX1_scanSecond_15 (by decide) ?_
      refine g_zret C R0 rfl dX1_scanSecond_28 ?_
      have hx : (sf2 sg n vb p nu) = (snR sg n 0 9 (p) nu) := by rw [sf2, if_pos hc_5]
      exact pT3 (c := true) (by rw [hx]; exact hb_12) (Or.inl ⟨rfl, rfl⟩) (by rw [hx])
    · refine g_goto C (tgt := 28) dX1_scanSecond_15 (by decide) ?_
      refine g_zret C R0 rfl dX1_scanSecond_28 ?_
      have hx : (sf2 sg n vb p nu) = (snR sg n 0 9 (p) nu) := by rw [sf2, if_pos hc_5]
      exact pT3 (c := false) (by rw [hx]; exact hb_12) (Or.inr ⟨rfl, rfl⟩) (by rw [hx])
