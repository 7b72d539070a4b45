/-! PURE: the two objects' states, and what every act makes of them -/
def Iv (n : Nat) (κ τ : KSt) : Prop := okH κ ∧ okH τ ∧ kjn κ ≤ 80 ∧ kjn τ ≤ 80 ∧ gd n (kjS κ) ∧ kjS τ = turn (kjS κ)
theorem iv_f1 {n : Nat} {κ τ : KSt} (h : Iv n κ τ) : okFr (kjS κ) := okFr_of h.2.2.2.2.1.1.2.2.2.1
theorem iv_f2 {n : Nat} {κ τ : KSt} (h : Iv n κ τ) : okFr (kjS τ) := by
  rw [h.2.2.2.2.2]
  exact iv_f1 h
theorem iv_gd {n : Nat} {κ τ : KSt} (h : Iv n κ τ) : gd n (kjS κ) := h.2.2.2.2.1
theorem iv_t {n : Nat} {κ τ : KSt} (h : Iv n κ τ) : kjS τ = turn (kjS κ) := h.2.2.2.2.2
theorem rec_S {κ : KSt} {q : Int32} : kjS (kRec κ q) = kjS κ := by
  unfold kRec
  split <;> rfl
theorem rec_n {κ : KSt} {q : Int32} : kjn (kRec κ q) = kjn κ := by
  unfold kRec
  split <;> rfl
theorem rec_H {κ : KSt} {q : Int32} (h : okH κ) : okH (kRec κ q) := by
  unfold kRec
  split
  · exact ⟨Nat.mod_lt _ (by omega), Nat.min_le_right _ _⟩
  · exact h
theorem act_S {κ : KSt} {X : Int32 × Sky} : kjS (kAct κ X).2 = X.2 := rec_S
theorem act_n {κ : KSt} {X : Int32 × Sky} : kjn (kAct κ X).2 = kjn κ := rec_n
theorem act_H {κ : KSt} {X : Int32 × Sky} (h : okH κ) : okH (kAct κ X).2 := rec_H h
theorem act_e {κ : KSt} {X : Int32 × Sky} {r : Int32} (h : X.1 = r) : kAct κ X = (r, (kAct κ X).2) := by
  rw [← h]
  rfl
/-- a command that is carried out -/
theorem prf_y {κ : KSt} {v a b : Int32} (hc : isCm κ v a b) {X : Int32 × Sky} (hX : ∀ b2, (v = 1 ∨ v = 3 ∨ b2 = b) → carryR (kjS κ) v a b2 = X) (hn : ¬ isErr X.1) (hH : okH κ) : ∃ κ', kPrf κ = (1, κ') ∧ okH κ' ∧ kjn κ' = kjn κ ∧ kjS κ' = X.2 := by
  obtain ⟨z, h1, h2, h3, h4, h5⟩ := hc
  have hx := hX _ h5
  refine ⟨kRec (kjSB (kZS κ z) X.2 (kjS κ)) 1, ?_, rec_H hH, rec_n, rec_S⟩
  unfold kPrf
  rw [h1, if_pos (show (-10005 : Int32) < 0 from by decide)]
  show kpE κ z (kpF z.1 z.2.1 z.2.2.1 z.2.2.2.1 0 (kjS κ)) = _
  rw [h2, kpF, h3, h4, hx, if_neg hn]
  show kpE κ z (0, 1, X.2) = _
  unfold kpE
  rw [if_neg (fun z => absurd z (by decide : ¬ isErr 0)), h2]
  rfl
/-- a command that is stopped -/
theorem prf_n {κ : KSt} {v a b : Int32} (hc : isCm κ v a b) {X : Int32 × Sky} (hX : ∀ b2, (v = 1 ∨ v = 3 ∨ b2 = b) → carryR (kjS κ) v a b2 = X) (hn : isErr X.1) (hH : okH κ) : ∃ κ', kPrf κ = (-10004, κ') ∧ okH κ' ∧ kjn κ' = kjn κ ∧ kjS κ' = kjS κ ∧ kStp κ' 0 = 0 ∧ kStp κ' 1 = X.1 := by
  obtain ⟨z, h1, h2, h3, h4, h5⟩ := hc
  have hx := hX _ h5
  refine ⟨(kjS κ, kjS κ, kjT κ, kjN κ, kjH κ, kjx κ, kjz κ, kjh κ, nI 0, X.1, kjg κ, kjn κ, z), ?_, hH, rfl, rfl, rfl, rfl⟩
  unfold kPrf
  rw [h1, if_pos (show (-10005 : Int32) < 0 from by decide)]
  show kpE κ z (kpF z.1 z.2.1 z.2.2.1 z.2.2.2.1 0 (kjS κ)) = _
  rw [h2, kpF, h3, h4, hx, if_pos hn]
  unfold kpE
  rw [if_pos hn]
/-! who flies -/
theorem ff_sp9 {P : Nat → Bool} : ∀ n i, (ff P n i < i + n ∧ P (ff P n i) = true ∧ ∀ k, i ≤ k → k < ff P n i → ¬ P k = true) ∨ (ff P n i = i + n ∧ ∀ k, i ≤ k → k < i + n → ¬ P k = true)
  | 0, i => Or.inr ⟨rfl, fun k h1 h2 => by omega⟩
  | n + 1, i => by
    rw [ff]
    by_cases h : P i = true
    · rw [if_pos h]
      exact Or.inl ⟨by omega, h, fun k h1 h2 => by omega⟩
    · rw [if_neg h]
      rcases ff_sp9 (P := P) n (i + 1) with ⟨h1, h2, h3⟩ | ⟨h1, h2⟩
      · refine Or.inl ⟨by omega, h2, fun k k1 k2 => ?_⟩
        by_cases e9 : k = i
        · rw [e9]; exact h
        · exact h3 k (by omega) k2
      · refine Or.inr ⟨by omega, fun k k1 k2 => ?_⟩
        by_cases e9 : k = i
        · rw [e9]; exact h
        · exact h2 k (by omega) (by omega)
theorem freeK_c (st : F) : (freeK st < 12 ∧ st (freeK st) = -1) ∨ (¬ freeK st < 12 ∧ ∀ k, k < 12 → ¬ st k = -1) := by
  rcases ff_sp9 (P := fun j => st j == -1) 12 0 with ⟨h1, h2, -⟩ | ⟨h1, h2⟩
  · exact Or.inl ⟨by unfold freeK; omega, beq_iff_eq.mp h2⟩
  · exact Or.inr ⟨by unfold freeK; omega, fun k hk z => h2 k (by omega) (by omega) (beq_iff_eq.mpr z)⟩
/-- a count that is given as a sum -/
theorem sum_cnt {f : F} {P : Nat → Bool} (h : ∀ k, f k = if P k = true then 1 else 0) : ∀ n, sumN f n = nI (cnB P n)
  | 0 => rfl
  | n + 1 => by
    rw [sumN, sum_cnt h n, h n, cnB]
    split
    · rw [nI_1]
    · rw [show (0 : Int32) = nI 0 from rfl, nI_add]
theorem allK_n (st : F) : allK st = nI (cnB (fun k => !decide (st k = -1)) 12) := sum_cnt (fun k => by
  show (if st k = -1 then (0 : Int32) else 1) = _
  by_cases z : st k = -1
  · rw [if_pos z, if_neg (by simp [z])]
  · rw [if_neg z, if_pos (by simp [z])]) 12
theorem allK_12 {st : F} : allK st = 12 ↔ ¬ freeK st < 12 := by
  rw [allK_n, show (12 : Int32) = nI 12 from rfl, nI_eq (by have := cnB_le (P := fun k => !decide (st k = -1)) 12; omega) (by omega)]
  rcases freeK_c st with ⟨h1, h2⟩ | ⟨h1, h2⟩
  · refine ⟨fun e => ?_, fun e => absurd h1 e⟩
    have := cnB_full (P := fun k => !decide (st k = -1)) (n := 12) h1 (by simp [h2])
    omega
  · refine ⟨fun _ => h1, fun _ => ?_⟩
    have h3 := cnB_eq (P := fun k => !decide (st k = -1)) (Q := fun _ => true) 12 (fun k hk => by simp [h2 k hk])
    rw [h3]
    rfl
theorem allK_fly {st : F} {j : Nat} {s : Int32} (hj : j < 12) (ha : st j = -1) (hs : ¬ s = -1) : allK (upd st j s) = allK st + 1 := by
  have e9 : liF (upd st j s) = upd (liF st) j (liF st j + 1) := by
    funext k
    show (if (if k = j then s else st k) = -1 then (0 : Int32) else 1) = if k = j then (if st j = -1 then 0 else 1) + 1 else if st k = -1 then 0 else 1
    by_cases e : k = j
    · rw [if_pos e, if_pos e, if_neg hs, if_pos ha]
      decide
    · rw [if_neg e, if_neg e]
  show sumN (liF (upd st j s)) 12 = _
  rw [e9]
  exact sumN_inc 12 hj
theorem allK_rm {st : F} {j : Nat} (hj : j < 12) (ha : ¬ st j = -1) : allK (upd st j (-1)) = allK st - 1 := by
  have h := allK_fly (st := upd st j (-1)) (j := j) (s := st j) hj pk_us ha
  rw [upd2, updI rfl] at h
  rw [h, Int32.add_sub_cancel]
theorem allK_mv {st : F} {j : Nat} {s : Int32} (ha : ¬ st j = -1) (hs : ¬ s = -1) : allK (upd st j s) = allK st := sumN_eq 12 (fun k _ => by
  show (if (if k = j then s else st k) = -1 then (0 : Int32) else 1) = if st k = -1 then 0 else 1
  by_cases e : k = j
  · rw [if_pos e, if_neg hs, e, if_neg ha]
  · rw [if_neg e])
/-! what is told of a kite -/
theorem isK_n {st : F} {j : Nat} (hj : j < 12) : isK st (nI j) ↔ ¬ st j = -1 := by
  have e9 : (nI j).toNatClampNeg = j := nI_clamp (by omega)
  refine ⟨fun z => by have := z.2.2; rw [e9] at this; exact this, fun z => ⟨nI_pos' (by omega), nI_lt (b := 12) hj (by omega), by rw [e9]; exact z⟩⟩
theorem kt_y {σ : Sky} {j : Nat} (hj : j < 12) (h : ¬ sSt σ j = -1) (w : Int32) : aboutKR σ (nI j) w = aboutKG σ j w := by
  unfold aboutKR
  rw [if_pos ((isK_n hj).mpr h), nI_clamp (by omega)]
theorem kt_n {σ : Sky} {j : Nat} (hj : j < 12) (h : sSt σ j = -1) (w : Int32) : aboutKR σ (nI j) w = -10001 := by
  unfold aboutKR
  rw [if_neg (fun z => (isK_n hj).mp z h)]
theorem kg0 {σ : Sky} {j : Nat} : aboutKG σ j 0 = sNu σ j := rfl
theorem kg1 {σ : Sky} {j : Nat} : aboutKG σ j 1 = sSt σ j := by
  unfold aboutKG
  rw [if_neg (by decide), if_pos rfl]
theorem kg2 {σ : Sky} {j : Nat} : aboutKG σ j 2 = sHt σ j := by
  unfold aboutKG
  rw [if_neg (by decide), if_neg (by decide), if_pos rfl]
theorem kg3 {σ : Sky} {j : Nat} : aboutKG σ j 3 = if sFr σ j = 0 then 0 else 1 := by
  unfold aboutKG
  rw [if_neg (by decide), if_neg (by decide), if_neg (by decide), if_pos rfl]
theorem kg4 {σ : Sky} {j : Nat} : aboutKG σ j 4 = sRe σ j := by
  unfold aboutKG
  rw [if_neg (by decide), if_neg (by decide), if_neg (by decide), if_neg (by decide), if_pos rfl]
theorem kg5 {σ : Sky} {j : Nat} : aboutKG σ j 5 = sCu σ j := by
  unfold aboutKG
  rw [if_neg (by decide), if_neg (by decide), if_neg (by decide), if_neg (by decide), if_neg (by decide), if_pos rfl]
theorem kg6 {σ : Sky} {j : Nat} : aboutKG σ j 6 = kitesB (sSt σ) (sHt σ) (sSt σ j) (sHt σ j) 1000000 := by
  unfold aboutKG
  rw [if_neg (by decide), if_neg (by decide), if_neg (by decide), if_neg (by decide), if_neg (by decide), if_neg (by decide), if_pos rfl]
theorem kg7 {σ : Sky} {j : Nat} : aboutKG σ j 7 = low (sSt σ) (sHt σ) (sSt σ j) (sHt σ j) := by
  unfold aboutKG
  rw [if_neg (by decide), if_neg (by decide), if_neg (by decide), if_neg (by decide), if_neg (by decide), if_neg (by decide), if_neg (by decide), if_pos rfl]
theorem kg8 {σ : Sky} {j : Nat} : aboutKG σ j 8 = hig (sSt σ) (sHt σ) (sSt σ j) (sHt σ j) := by
  unfold aboutKG
  rw [if_neg (by decide), if_neg (by decide), if_neg (by decide), if_neg (by decide), if_neg (by decide), if_neg (by decide), if_neg (by decide), if_neg (by decide), if_pos rfl]
theorem cn0 {κ : KSt} : kCnt κ 0 = allK (sSt (kjS κ)) := rfl
