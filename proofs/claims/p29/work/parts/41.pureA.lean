/-! PURE A: counting, the dead's marks, landings -/
def cnB (P : Nat → Bool) : Nat → Nat
  | 0 => 0
  | n + 1 => cnB P n + (if P n = true then 1 else 0)
theorem cnB_le {P : Nat → Bool} : ∀ n, cnB P n ≤ n
  | 0 => Nat.le_refl _
  | n + 1 => by
    have := cnB_le (P := P) n
    rw [cnB]
    split <;> omega
theorem cnB_mono {P Q : Nat → Bool} : ∀ n, (∀ k, k < n → P k = true → Q k = true) → cnB P n ≤ cnB Q n
  | 0, _ => Nat.le_refl _
  | n + 1, h => by
    have h1 := cnB_mono (P := P) (Q := Q) n (fun k hk => h k (by omega))
    rw [cnB, cnB]
    by_cases hp : P n = true
    · rw [if_pos hp, if_pos (h n (by omega) hp)]; omega
    · rw [if_neg hp]; split <;> omega
theorem cnB_lt {P Q : Nat → Bool} : ∀ n, (∀ k, k < n → P k = true → Q k = true) → ∀ j, j < n → ¬ P j = true → Q j = true → cnB P n + 1 ≤ cnB Q n
  | 0, _, j, hj, _, _ => absurd hj (Nat.not_lt_zero _)
  | n + 1, h, j, hj, h1, h2 => by
    rw [cnB, cnB]
    by_cases e9 : j = n
    · subst e9
      have h3 := cnB_mono (P := P) (Q := Q) j (fun k hk => h k (by omega))
      rw [if_neg h1, if_pos h2]; omega
    · have h3 := cnB_lt (P := P) (Q := Q) n (fun k hk => h k (by omega)) j (by omega) h1 h2
      by_cases hp : P n = true
      · rw [if_pos hp, if_pos (h n (by omega) hp)]; omega
      · rw [if_neg hp]; split <;> omega
theorem cnB_full {P : Nat → Bool} {n j : Nat} (hj : j < n) (h : ¬ P j = true) : cnB P n + 1 ≤ n := by
  have h1 := cnB_lt (P := P) (Q := fun _ => true) n (fun _ _ _ => rfl) j hj h rfl
  have h2 := cnB_le (P := fun _ => true) n
  omega
theorem cnB_eq {P Q : Nat → Bool} (n : Nat) (h : ∀ k, k < n → (P k = true ↔ Q k = true)) : cnB P n = cnB Q n :=
  Nat.le_antisymm (cnB_mono n (fun k hk => (h k hk).mp)) (cnB_mono n (fun k hk => (h k hk).mpr))
theorem sumN_eq {f g : F} : ∀ n, (∀ k, k < n → f k = g k) → sumN f n = sumN g n
  | 0, _ => rfl
  | n + 1, h => by rw [sumN, sumN, sumN_eq n (fun k hk => h k (by omega)), h n (by omega)]
/-! marks -/
def dmF (st : F) : F := fun k => if st k = -1 then -10005 else st k
def okSt (st : F) : Prop := ∀ k, st k = -1 ∨ ∃ q, q < 4 ∧ st k = nI q
def vs4 (s : Int32) : Prop := ∃ q, q < 4 ∧ s = nI q
theorem nI_nm1 {q : Nat} (h : q < 2 ^ 31) : ¬ nI q = -1 := by
  intro z
  have := congrArg Int32.toInt z
  rw [nI_toInt h] at this
  have e9 : (-1 : Int32).toInt = -1 := by decide
  omega
theorem vs4_1 {s : Int32} (hs : vs4 s) : ¬ s = -1 := by
  obtain ⟨q, hq, rfl⟩ := hs
  exact nI_nm1 (by omega)
theorem vs4_N {s : Int32} (hs : vs4 s) : ¬ s = -10005 := by
  obtain ⟨q, hq, rfl⟩ := hs
  exact nI_neN (by omega)
theorem okSt_v {st : F} (h : okSt st) {k : Nat} (hk : ¬ st k = -1) : vs4 (st k) := (h k).resolve_left hk
theorem dm_eq {st : F} {s : Int32} {k : Nat} (hs : vs4 s) : dmF st k = s ↔ st k = s := by
  unfold dmF
  by_cases h : st k = -1
  · rw [if_pos h, h]
    exact ⟨fun z => absurd z.symm (vs4_N hs), fun z => absurd z.symm (vs4_1 hs)⟩
  · rw [if_neg h]
theorem dm_none {st : F} {k : Nat} (h : okSt st) : dmF st k = -10005 ↔ st k = -1 := by
  unfold dmF
  by_cases h1 : st k = -1
  · rw [if_pos h1]; exact ⟨fun _ => h1, fun _ => rfl⟩
  · rw [if_neg h1]
    exact ⟨fun z => absurd z (vs4_N (okSt_v h h1)), fun z => absurd z h1⟩
theorem dm_pos {st : F} {k : Nat} (h : st k = -1) : dmF st k = -10005 := if_pos h
theorem dm_neg {st : F} {k : Nat} (h : ¬ st k = -1) : dmF st k = st k := if_neg h
theorem dm_up {st : F} {j : Nat} {s : Int32} (hs : vs4 s) : dmF (upd st j s) = upd (dmF st) j s := by
  funext k
  unfold dmF upd
  by_cases h : k = j
  · simp only [if_pos h]; exact if_neg (vs4_1 hs)
  · simp only [if_neg h]
theorem dm_rm {st : F} {j : Nat} : dmF (upd st j (-1)) = upd (dmF st) j (-10005) := by
  funext k
  unfold dmF upd
  by_cases h : k = j
  · simp only [if_pos h]; exact if_pos trivial
  · simp only [if_neg h]
theorem upd2 {f : F} {j : Nat} {x y : Int32} : upd (upd f j x) j y = upd f j y := by
  funext k
  unfold upd
  by_cases h : k = j
  · simp only [if_pos h]
  · simp only [if_neg h]
theorem updI {f : F} {j : Nat} {x : Int32} (h : f j = x) : upd f j x = f := by
  funext k
  unfold upd
  by_cases e9 : k = j
  · rw [if_pos e9, e9, h]
  · rw [if_neg e9]
/-! landings -/
theorem tk_dm {st ht : F} {s h : Int32} (hs : vs4 s) : tk (dmF st) ht s h = tk st ht s h := by
  rw [Bool.eq_iff_iff, tk_iff, tk_iff]
  constructor
  · rintro ⟨k, hk, h1, h2⟩; exact ⟨k, hk, (dm_eq hs).mp h1, h2⟩
  · rintro ⟨k, hk, h1, h2⟩; exact ⟨k, hk, (dm_eq hs).mpr h1, h2⟩
theorem landF_dm {st ht : F} {s : Int32} (hs : vs4 s) : ∀ n t, landF (dmF st) ht s n t = landF st ht s n t
  | 0, _ => rfl
  | n + 1, t => by rw [landF, landF, tk_dm hs, landF_dm hs n]
/-- a kite that is taken off, where it isn't in the way -/
theorem tk_rm {st ht ht2 : F} {s h x : Int32} {j : Nat} (hx : ¬ x = s) (hh : ∀ k, ¬ k = j → ht2 k = ht k) (hj : ¬ (st j = s ∧ ht j = h)) : tk (upd st j x) ht2 s h = tk st ht s h := by
  rw [Bool.eq_iff_iff, tk_iff, tk_iff]
  constructor
  · rintro ⟨k, hk, h1, h2⟩
    by_cases e9 : k = j
    · subst e9; rw [pk_us] at h1; exact absurd h1 hx
    · rw [pk_un e9] at h1; exact ⟨k, hk, h1, by rw [← hh k e9]; exact h2⟩
  · rintro ⟨k, hk, h1, h2⟩
    by_cases e9 : k = j
    · subst e9; exact absurd ⟨h1, h2⟩ hj
    · exact ⟨k, hk, by rw [pk_un e9]; exact h1, by rw [hh k e9]; exact h2⟩
theorem landF_rm {st ht ht2 : F} {s x : Int32} {j : Nat} (hx : ¬ x = s) (hh : ∀ k, ¬ k = j → ht2 k = ht k) : ∀ n t, (∀ i, i < n → ¬ (st j = s ∧ ht j = t + nI i)) → landF (upd st j x) ht2 s n t = landF st ht s n t
  | 0, _, _ => rfl
  | n + 1, t, h => by
    have h0 : ¬ (st j = s ∧ ht j = t) := by
      have := h 0 (by omega)
      rwa [show t + nI 0 = t from by rw [nI_0, Int32.add_zero]] at this
    rw [landF, landF, tk_rm hx hh h0, landF_rm hx hh n (t + 1) (fun i hi => by
      have := h (i + 1) (by omega)
      rwa [show t + nI (i + 1) = t + 1 + nI i from by rw [nI_succ, Int32.add_assoc, Int32.add_comm 1 (nI i)]] at this)]
theorem landF_spec {st ht : F} {s : Int32} : ∀ n m, ∃ d, d ≤ n ∧ landF st ht s n (nI m) = nI (m + d) ∧ (∀ i, i < d → tk st ht s (nI (m + i)) = true) ∧ (d < n → ¬ tk st ht s (nI (m + d)) = true)
  | 0, m => ⟨0, Nat.le_refl _, rfl, fun i h => absurd h (Nat.not_lt_zero _), fun h => absurd h (Nat.lt_irrefl _)⟩
  | n + 1, m => by
    by_cases h : tk st ht s (nI m) = true
    · obtain ⟨d, h1, h2, h3, h4⟩ := landF_spec (st := st) (ht := ht) (s := s) n (m + 1)
      refine ⟨d + 1, by omega, ?_, fun i hi => ?_, fun hd => ?_⟩
      · rw [landF, if_pos h, nI_1, h2, show m + 1 + d = m + (d + 1) from by omega]
      · cases i with
        | zero => exact h
        | succ i =>
          have := h3 i (by omega)
          rwa [show m + 1 + i = m + (i + 1) from by omega] at this
      · have := h4 (by omega)
        rwa [show m + 1 + d = m + (d + 1) from by omega] at this
    · exact ⟨0, Nat.zero_le _, by rw [landF, if_neg h]; rfl, fun i h => absurd h (Nat.not_lt_zero _), fun _ => h⟩
theorem pigeon {st ht : F} {s : Int32} {m : Nat} (hm : m < 2 ^ 30) (h : ∀ i, i ≤ 12 → tk st ht s (nI (m + i)) = true) : False := by
  have key : ∀ q, q ≤ 13 → q + cnB (fun k => decide (st k = s) && decide (nI (m + q) ≤ ht k)) 12 ≤ 12 := by
    intro q
    induction q with
    | zero => intro _; have := cnB_le (P := fun k => decide (st k = s) && decide (nI (m + 0) ≤ ht k)) 12; omega
    | succ q ih =>
      intro hq
      have h1 := ih (by omega)
      obtain ⟨k, hk, a1, a2⟩ := tk_iff.mp (h q (by omega))
      have h2 := cnB_lt (P := fun k => decide (st k = s) && decide (nI (m + (q + 1)) ≤ ht k)) (Q := fun k => decide (st k = s) && decide (nI (m + q) ≤ ht k)) 12 (fun k _ hp => by
        simp only [Bool.and_eq_true, decide_eq_true_eq] at hp ⊢
        refine ⟨hp.1, ?_⟩
        have := hp.2
        rw [Int32.le_iff_toInt_le, nI_toInt (by omega)] at this ⊢
        omega) k hk (by
        simp only [Bool.and_eq_true, decide_eq_true_eq]
        intro z
        have := z.2
        rw [a2, Int32.le_iff_toInt_le, nI_toInt (by omega), nI_toInt (by omega)] at this
        omega) (by
        simp only [Bool.and_eq_true, decide_eq_true_eq]
        refine ⟨a1, ?_⟩
        rw [a2, Int32.le_iff_toInt_le]
        omega)
      omega
  have := key 13 (Nat.le_refl _)
  omega
/-- a landing ends within twelve, at a free height -/
theorem land_spec {st ht : F} {s : Int32} {m : Nat} (hm : m < 2 ^ 30) : ∃ d, d ≤ 12 ∧ land st ht s (nI m) = nI (m + d) ∧ (∀ i, i < d → tk st ht s (nI (m + i)) = true) ∧ ¬ tk st ht s (nI (m + d)) = true := by
  obtain ⟨d, h1, h2, h3, h4⟩ := landF_spec (st := st) (ht := ht) (s := s) 12 m
  refine ⟨d, h1, h2, h3, ?_⟩
  by_cases hd : d < 12
  · exact h4 hd
  · have e9 : d = 12 := by omega
    subst e9
    intro z
    exact pigeon hm (fun i hi => by
      rcases Nat.lt_or_ge i 12 with h | h
      · exact h3 i h
      · have e8 : i = 12 := by omega
        subst e8; exact z)
theorem land_free {st ht : F} {s : Int32} {m : Nat} (hm : m < 2 ^ 30) : hF st ht s (nI m) := by
  obtain ⟨d, -, h2, -, h4⟩ := land_spec (st := st) (ht := ht) (s := s) hm
  show ¬ tk st ht s (land st ht s (nI m)) = true
  rw [h2]
  exact h4
/-! heights: below 92, and few of them high -/
def okHt (ht : F) : Prop := ∀ k, ∃ h, h < 92 ∧ ht k = nI h
def hcN (st ht : F) (j : Nat) : Nat := cnB (fun k => !decide (st k = -1) && decide (nI (80 + j) ≤ ht k)) 12
def okJ (st ht : F) : Prop := ∀ j, j ≤ 12 → hcN st ht j + j ≤ 12
theorem okJ_sub {st ht st2 ht2 : F} (h : okJ st ht) (hs : ∀ j k, 1 ≤ j → j ≤ 12 → k < 12 → ¬ st2 k = -1 → nI (80 + j) ≤ ht2 k → ¬ st k = -1 ∧ nI (80 + j) ≤ ht k) : okJ st2 ht2 := by
  intro j hj
  by_cases e9 : j = 0
  · subst e9
    have := cnB_le (P := fun k => !decide (st2 k = -1) && decide (nI (80 + 0) ≤ ht2 k)) 12
    exact this
  · refine Nat.le_trans (Nat.add_le_add_right (cnB_mono 12 (fun k hk hp => ?_)) j) (h j hj)
    simp only [Bool.and_eq_true, Bool.not_eq_true', decide_eq_false_iff_not, decide_eq_true_eq] at hp ⊢
    exact hs j k (by omega) hj hk hp.1 hp.2
theorem okJ_low {st ht : F} (h : okJ st ht) {j q : Nat} (hj : j < 12) {x : Int32} (hq : q ≤ 80) : okJ (upd st j x) (upd ht j (nI q)) := by
  refine okJ_sub h (fun i k h1 h2 hk h3 h4 => ?_)
  by_cases e9 : k = j
  · subst e9
    rw [pk_us, nI_leI (by omega) (by omega)] at h4
    omega
  · rw [pk_un e9] at h3 h4
    exact ⟨h3, h4⟩
theorem okHt_up {ht : F} (h : okHt ht) {j q : Nat} (hq : q < 92) : okHt (upd ht j (nI q)) := by
  intro k
  by_cases e9 : k = j
  · subst e9; exact ⟨q, hq, pk_us⟩
  · rw [pk_un e9]; exact h k
theorem okSt_up {st : F} (h : okSt st) {j : Nat} {s : Int32} (hs : vs4 s) : okSt (upd st j s) := by
  intro k
  by_cases e9 : k = j
  · subst e9; rw [pk_us]; exact Or.inr hs
  · rw [pk_un e9]; exact h k
theorem okSt_rm {st : F} (h : okSt st) {j : Nat} : okSt (upd st j (-1)) := by
  intro k
  by_cases e9 : k = j
  · subst e9; rw [pk_us]; exact Or.inl rfl
  · rw [pk_un e9]; exact h k
/-- a kite that moves: its new height, and few are high -/
theorem okJ_move {st ht : F} (h : okJ st ht) (hH : okHt ht) {j : Nat} (hj : j < 12) (hl : ¬ st j = -1) {s : Int32} (hs : vs4 s) (hne : ¬ st j = s) : ∃ q, q < 92 ∧ land st ht s (ht j) = nI q ∧ okJ (upd st j s) (upd ht j (nI q)) := by
  obtain ⟨b, hb, eb⟩ := hH j
  obtain ⟨d, hd, e1, h3, h4⟩ := land_spec (st := st) (ht := ht) (s := s) (m := b) (by omega)
  rw [eb]
  -- others at or above a level
  have key : ∀ i m, m ≤ i → b ≤ 80 + m → 80 + i ≤ b + d → i ≤ 24 → cnB (fun k => (!decide (st k = -1) && decide (nI (80 + i) ≤ ht k)) && !decide (k = j)) 12 + (i - m) ≤ cnB (fun k => (!decide (st k = -1) && decide (nI (80 + m) ≤ ht k)) && !decide (k = j)) 12 := by
    intro i
    induction i with
    | zero => intro m h1 h2 h5 h6; have : m = 0 := by omega
              subst this; exact Nat.le_refl _
    | succ i ih =>
      intro m h1 h2 h5 h6
      by_cases e9 : m = i + 1
      · subst e9; omega
      · have h7 := ih m (by omega) h2 (by omega) (by omega)
        obtain ⟨k, hk, a1, a2⟩ := tk_iff.mp (h3 (80 + i - b) (by omega))
        rw [show b + (80 + i - b) = 80 + i from by omega] at a2
        have hkj : ¬ k = j := fun z => hne (by rw [← z]; exact a1)
        have h8 := cnB_lt (P := fun k => (!decide (st k = -1) && decide (nI (80 + (i + 1)) ≤ ht k)) && !decide (k = j)) (Q := fun k => (!decide (st k = -1) && decide (nI (80 + i) ≤ ht k)) && !decide (k = j)) 12 (fun k _ hp => by
          simp only [Bool.and_eq_true, Bool.not_eq_true', decide_eq_false_iff_not, decide_eq_true_eq] at hp ⊢
          refine ⟨⟨hp.1.1, ?_⟩, hp.2⟩
          have := hp.1.2
          rw [Int32.le_iff_toInt_le, nI_toInt (by omega)] at this ⊢
          omega) k hk (by
          simp only [Bool.and_eq_true, Bool.not_eq_true', decide_eq_false_iff_not, decide_eq_true_eq]
          intro z
          have := z.1.2
          rw [a2, nI_leI (by omega) (by omega)] at this
          omega) (by
          simp only [Bool.and_eq_true, Bool.not_eq_true', decide_eq_false_iff_not, decide_eq_true_eq]
          refine ⟨⟨by rw [a1]; exact vs4_1 hs, ?_⟩, hkj⟩
          rw [a2, nI_leI (by omega) (by omega)]
          omega)
        omega
  -- at a level i at or below the new height, there is room
  have main : ∀ i, i ≤ 24 → 80 + i ≤ b + d → cnB (fun k => (!decide (st k = -1) && decide (nI (80 + i) ≤ ht k)) && !decide (k = j)) 12 + 1 + i ≤ 12 := by
    intro i hi hle
    by_cases hb8 : 80 ≤ b
    · by_cases hbi : 80 + i ≤ b
      · have h1 := h (b - 80) (by omega)
        have h2 := cnB_lt (P := fun k => (!decide (st k = -1) && decide (nI (80 + (b - 80)) ≤ ht k)) && !decide (k = j)) (Q := fun k => !decide (st k = -1) && decide (nI (80 + (b - 80)) ≤ ht k)) 12 (fun k _ hp => by
          simp only [Bool.and_eq_true] at hp ⊢; exact hp.1) j hj (by simp) (by
          simp only [Bool.and_eq_true, Bool.not_eq_true', decide_eq_false_iff_not, decide_eq_true_eq]
          exact ⟨hl, by rw [eb, nI_leI (by omega) (by omega)]; omega⟩)
        have h1' := h i (by omega)
        have h2' := cnB_lt (P := fun k => (!decide (st k = -1) && decide (nI (80 + i) ≤ ht k)) && !decide (k = j)) (Q := fun k => !decide (st k = -1) && decide (nI (80 + i) ≤ ht k)) 12 (fun k _ hp => by
          simp only [Bool.and_eq_true] at hp ⊢; exact hp.1) j hj (by simp) (by
          simp only [Bool.and_eq_true, Bool.not_eq_true', decide_eq_false_iff_not, decide_eq_true_eq]
          exact ⟨hl, by rw [eb, nI_leI (by omega) (by omega)]; omega⟩)
        unfold hcN at h1'
        omega
      · have h1 := h (b - 80) (by omega)
        have h2 := cnB_lt (P := fun k => (!decide (st k = -1) && decide (nI (80 + (b - 80)) ≤ ht k)) && !decide (k = j)) (Q := fun k => !decide (st k = -1) && decide (nI (80 + (b - 80)) ≤ ht k)) 12 (fun k _ hp => by
          simp only [Bool.and_eq_true] at hp ⊢; exact hp.1) j hj (by simp) (by
          simp only [Bool.and_eq_true, Bool.not_eq_true', decide_eq_false_iff_not, decide_eq_true_eq]
          exact ⟨hl, by rw [eb, nI_leI (by omega) (by omega)]; omega⟩)
        have h3 := key i (b - 80) (by omega) (by omega) hle hi
        unfold hcN at h1
        omega
    · have h2 := cnB_full (P := fun k => (!decide (st k = -1) && decide (nI (80 + 0) ≤ ht k)) && !decide (k = j)) (n := 12) hj (by simp)
      have h3 := key i 0 (by omega) (by omega) hle hi
      omega
  have hq : b + d < 92 := by
    rcases Nat.lt_or_ge (b + d) 92 with h9 | h9
    · exact h9
    · have := main 12 (by omega) (by omega)
      omega
  refine ⟨b + d, hq, e1, ?_⟩
  intro i hi
  by_cases hle : 80 + i ≤ b + d
  · have h1 := main i (by omega) hle
    have h2 : hcN (upd st j s) (upd ht j (nI (b + d))) i ≤ cnB (fun k => (!decide (st k = -1) && decide (nI (80 + i) ≤ ht k)) && !decide (k = j)) 12 + 1 := by
      have h5 : ∀ n, cnB (fun k => !decide (upd st j s k = -1) && decide (nI (80 + i) ≤ upd ht j (nI (b + d)) k)) n ≤ cnB (fun k => (!decide (st k = -1) && decide (nI (80 + i) ≤ ht k)) && !decide (k = j)) n + (if j < n then 1 else 0) := by
        intro n
        induction n with
        | zero => exact Nat.zero_le _
        | succ n ih =>
          rw [cnB, cnB]
          by_cases e9 : n = j
          · subst e9
            rw [if_neg (by omega)] at ih
            rw [if_pos (show n < n + 1 by omega)]
            split <;> split <;> omega
          · have e8 : (!decide (upd st j s n = -1) && decide (nI (80 + i) ≤ upd ht j (nI (b + d)) n)) = ((!decide (st n = -1) && decide (nI (80 + i) ≤ ht n)) && !decide (n = j)) := by
              rw [pk_un e9, pk_un e9]; simp [e9]
            rw [e8]
            by_cases hjn : j < n
            · rw [if_pos hjn] at ih; rw [if_pos (show j < n + 1 by omega)]; omega
            · rw [if_neg hjn] at ih; rw [if_neg (show ¬ j < n + 1 by omega)]; omega
      have h6 := h5 12
      rw [if_pos hj] at h6
      exact h6
    omega
  · refine Nat.le_trans (Nat.add_le_add_right (cnB_mono 12 (fun k hk hp => ?_)) i) (h i hi)
    simp only [Bool.and_eq_true, Bool.not_eq_true', decide_eq_false_iff_not, decide_eq_true_eq] at hp ⊢
    by_cases e9 : k = j
    · subst e9
      rw [pk_us, pk_us, nI_leI (by omega) (by omega)] at hp
      omega
    · rw [pk_un e9, pk_un e9] at hp
      exact hp
