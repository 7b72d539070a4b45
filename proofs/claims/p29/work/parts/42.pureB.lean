/-! PURE B: who is above and below; sinking; beats -/
theorem ht_int {ht : F} (h : okHt ht) (k : Nat) : 0 ≤ (ht k).toInt ∧ (ht k).toInt ≤ 91 := by
  obtain ⟨q, hq, e9⟩ := h k
  rw [e9, nI_toInt (by omega)]
  omega
theorem sub_int {x y : Int32} (hx : -1000 ≤ x.toInt ∧ x.toInt ≤ 1000000) (hy : -1000 ≤ y.toInt ∧ y.toInt ≤ 1000000) : (x - y).toInt = x.toInt - y.toInt := by
  rw [Int32.toInt_sub]
  exact Int.bmod_eq_of_le (by omega) (by omega)
theorem add_int {x y : Int32} (hx : -1000 ≤ x.toInt ∧ x.toInt ≤ 1000000) (hy : -1000 ≤ y.toInt ∧ y.toInt ≤ 1000000) : (x + y).toInt = x.toInt + y.toInt := by
  rw [Int32.toInt_add]
  exact Int.bmod_eq_of_le (by omega) (by omega)
theorem i0_int : (0 : Int32).toInt = 0 := by decide
theorem i1_int : (1 : Int32).toInt = 1 := by decide
theorem im1_int : (-1 : Int32).toInt = -1 := by decide
theorem i999_int : (999 : Int32).toInt = 999 := by decide
theorem iMx_int : (1000000 : Int32).toInt = 1000000 := by decide
theorem nx_low {st ht : F} {s t : Int32} (hH : okHt ht) (h1 : -1 ≤ t.toInt) (h2 : t.toInt ≤ 91) : ∀ n, (nxU st ht s t n = none ∧ lowF st ht s t n = (-10005, 1000000)) ∨ ∃ p, nxU st ht s t n = some p ∧ lowF st ht s t n = (nI p, ht p)
  | 0 => Or.inl ⟨rfl, rfl⟩
  | n + 1 => by
    have hk := ht_int hH n
    have es := sub_int (x := ht n) (y := t) (by omega) (by omega)
    have c1 : 0 < ht n - t ↔ t < ht n := by
      rw [Int32.lt_iff_toInt_lt, Int32.lt_iff_toInt_lt, es, i0_int]; omega
    rcases nx_low (st := st) (s := s) hH h1 h2 n with ⟨e1, e2⟩ | ⟨p, e1, e2⟩
    · rw [nxU, lowF, e1, e2]
      have c2 : ht n - t < bsU ht t none := by
        show ht n - t < 999
        rw [Int32.lt_iff_toInt_lt, es, i999_int]; omega
      have c3 : ht n < 1000000 := by
        rw [Int32.lt_iff_toInt_lt, iMx_int]; omega
      by_cases hc : st n = s ∧ t < ht n
      · rw [if_pos ⟨hc.1, c1.mpr hc.2, c2⟩, if_pos ⟨hc.1, hc.2, c3⟩]
        exact Or.inr ⟨n, rfl, rfl⟩
      · rw [if_neg (fun z => hc ⟨z.1, c1.mp z.2.1⟩), if_neg (fun z => hc ⟨z.1, z.2.1⟩)]
        exact Or.inl ⟨rfl, rfl⟩
    · rw [nxU, lowF, e1, e2]
      have hp := ht_int hH p
      have ep := sub_int (x := ht p) (y := t) (by omega) (by omega)
      have c2 : ht n - t < bsU ht t (some p) ↔ ht n < ht p := by
        show ht n - t < ht p - t ↔ _
        rw [Int32.lt_iff_toInt_lt, Int32.lt_iff_toInt_lt, es, ep]; omega
      by_cases hc : st n = s ∧ t < ht n ∧ ht n < ht p
      · rw [if_pos ⟨hc.1, c1.mpr hc.2.1, c2.mpr hc.2.2⟩, if_pos ⟨hc.1, hc.2.1, hc.2.2⟩]
        exact Or.inr ⟨n, rfl, rfl⟩
      · rw [if_neg (fun z => hc ⟨z.1, c1.mp z.2.1, c2.mp z.2.2⟩), if_neg (fun z => hc ⟨z.1, z.2.1, z.2.2⟩)]
        exact Or.inr ⟨p, rfl, rfl⟩
theorem low_eq {st ht : F} {s t : Int32} (hH : okHt ht) (h1 : -1 ≤ t.toInt) (h2 : t.toInt ≤ 91) : low st ht s t = optI (nxU st ht s t 12) := by
  rcases nx_low (st := st) (s := s) hH h1 h2 12 with ⟨e1, e2⟩ | ⟨p, e1, e2⟩
  · show (lowF st ht s t 12).1 = _
    rw [e1, e2]; rfl
  · show (lowF st ht s t 12).1 = _
    rw [e1, e2]; rfl
theorem nx_hig {st ht : F} {s t : Int32} (hH : okHt ht) (h1 : -1 ≤ t.toInt) (h2 : t.toInt ≤ 91) : ∀ n, (nxD st ht s t n = none ∧ higF st ht s t n = (-10005, -1)) ∨ ∃ p, nxD st ht s t n = some p ∧ higF st ht s t n = (nI p, ht p)
  | 0 => Or.inl ⟨rfl, rfl⟩
  | n + 1 => by
    have hk := ht_int hH n
    have es := sub_int (x := t) (y := ht n) (by omega) (by omega)
    have c1 : 0 < t - ht n ↔ ht n < t := by
      rw [Int32.lt_iff_toInt_lt, Int32.lt_iff_toInt_lt, es, i0_int]; omega
    rcases nx_hig (st := st) (s := s) hH h1 h2 n with ⟨e1, e2⟩ | ⟨p, e1, e2⟩
    · rw [nxD, higF, e1, e2]
      have c2 : t - ht n < bsD ht t none := by
        show t - ht n < 999
        rw [Int32.lt_iff_toInt_lt, es, i999_int]; omega
      have c3 : (-1 : Int32) < ht n := by
        rw [Int32.lt_iff_toInt_lt, im1_int]; omega
      by_cases hc : st n = s ∧ ht n < t
      · rw [if_pos ⟨hc.1, c1.mpr hc.2, c2⟩, if_pos ⟨hc.1, hc.2, c3⟩]
        exact Or.inr ⟨n, rfl, rfl⟩
      · rw [if_neg (fun z => hc ⟨z.1, c1.mp z.2.1⟩), if_neg (fun z => hc ⟨z.1, z.2.1⟩)]
        exact Or.inl ⟨rfl, rfl⟩
    · rw [nxD, higF, e1, e2]
      have hp := ht_int hH p
      have ep := sub_int (x := t) (y := ht p) (by omega) (by omega)
      have c2 : t - ht n < bsD ht t (some p) ↔ ht p < ht n := by
        show t - ht n < t - ht p ↔ _
        rw [Int32.lt_iff_toInt_lt, Int32.lt_iff_toInt_lt, es, ep]; omega
      by_cases hc : st n = s ∧ ht n < t ∧ ht p < ht n
      · rw [if_pos ⟨hc.1, c1.mpr hc.2.1, c2.mpr hc.2.2⟩, if_pos ⟨hc.1, hc.2.1, hc.2.2⟩]
        exact Or.inr ⟨n, rfl, rfl⟩
      · rw [if_neg (fun z => hc ⟨z.1, c1.mp z.2.1, c2.mp z.2.2⟩), if_neg (fun z => hc ⟨z.1, z.2.1, z.2.2⟩)]
        exact Or.inr ⟨p, rfl, rfl⟩
theorem hig_eq {st ht : F} {s t : Int32} (hH : okHt ht) (h1 : -1 ≤ t.toInt) (h2 : t.toInt ≤ 91) : hig st ht s t = optI (nxD st ht s t 12) := by
  rcases nx_hig (st := st) (s := s) hH h1 h2 12 with ⟨e1, e2⟩ | ⟨p, e1, e2⟩
  · show (higF st ht s t 12).1 = _
    rw [e1, e2]; rfl
  · show (higF st ht s t 12).1 = _
    rw [e1, e2]; rfl
theorem nxU_dm {st ht : F} {s t : Int32} (hs : vs4 s) : ∀ n, nxU (dmF st) ht s t n = nxU st ht s t n
  | 0 => rfl
  | n + 1 => by
    rw [nxU, nxU, nxU_dm hs n]
    by_cases hc : st n = s ∧ 0 < ht n - t ∧ ht n - t < bsU ht t (nxU st ht s t n)
    · rw [if_pos hc, if_pos ⟨(dm_eq hs).mpr hc.1, hc.2⟩]
    · rw [if_neg hc, if_neg (fun z => hc ⟨(dm_eq hs).mp z.1, z.2⟩)]
theorem nxD_dm {st ht : F} {s t : Int32} (hs : vs4 s) : ∀ n, nxD (dmF st) ht s t n = nxD st ht s t n
  | 0 => rfl
  | n + 1 => by
    rw [nxD, nxD, nxD_dm hs n]
    by_cases hc : st n = s ∧ 0 < t - ht n ∧ t - ht n < bsD ht t (nxD st ht s t n)
    · rw [if_pos hc, if_pos ⟨(dm_eq hs).mpr hc.1, hc.2⟩]
    · rw [if_neg hc, if_neg (fun z => hc ⟨(dm_eq hs).mp z.1, z.2⟩)]
/-- the next above: it is one, the first of the lowest -/
theorem nxU_some {st ht : F} {s t : Int32} (hH : okHt ht) (h1 : -1 ≤ t.toInt) (h2 : t.toInt ≤ 91) {p : Nat} : ∀ n, nxU st ht s t n = some p → p < n ∧ st p = s ∧ t.toInt < (ht p).toInt ∧ ∀ k, k < n → st k = s → t.toInt < (ht k).toInt → (ht p).toInt ≤ (ht k).toInt ∧ (k < p → (ht p).toInt < (ht k).toInt)
  | 0, h => by cases h
  | n + 1, h => by
    have hk := ht_int hH n
    have es := sub_int (x := ht n) (y := t) (by omega) (by omega)
    have c1 : 0 < ht n - t ↔ t.toInt < (ht n).toInt := by
      rw [Int32.lt_iff_toInt_lt, es, i0_int]; omega
    rw [nxU] at h
    split at h
    · rename_i hc
      have e7 : p = n := (Option.some.inj h).symm
      rw [e7]
      refine ⟨by omega, hc.1, c1.mp hc.2.1, fun k hk2 hs hlt => ?_⟩
      by_cases e9 : k = n
      · subst e9; exact ⟨Int.le_refl _, fun z => absurd z (Nat.lt_irrefl _)⟩
      · cases hq : nxU st ht s t n with
        | none =>
          exfalso
          rcases nx_low (st := st) (s := s) hH h1 h2 n with ⟨-, e2⟩ | ⟨q, e1, -⟩
          · have h7 : ∀ m, lowF st ht s t m = (-10005, 1000000) → ∀ k, k < m → ¬ (st k = s ∧ t.toInt < (ht k).toInt) := by
              intro m
              induction m with
              | zero => intro _ k h; omega
              | succ m ih =>
                intro hm k hk3
                rcases nx_low (st := st) (s := s) hH h1 h2 m with ⟨-, e4⟩ | ⟨q, -, e4⟩
                · rw [lowF, e4] at hm
                  by_cases e5 : k = m
                  · subst e5
                    intro z
                    rw [if_pos ⟨z.1, Int32.lt_iff_toInt_lt.mpr z.2, by show ht k < 1000000; rw [Int32.lt_iff_toInt_lt, iMx_int]; have := ht_int hH k; omega⟩] at hm
                    have h8 := congrArg (fun z : Int32 × Int32 => z.2.toInt) hm
                    have := ht_int hH k
                    dsimp only at h8
                    rw [iMx_int] at h8
                    omega
                  · exact ih e4 k (by omega)
                · have h8 := congrArg (fun z : Int32 × Int32 => z.2.toInt) hm
                  have hq := ht_int hH q
                  have hm2 := ht_int hH m
                  rw [lowF, e4] at h8
                  dsimp only at h8
                  rw [iMx_int] at h8
                  split at h8 <;> (dsimp only at h8; omega)
            exact h7 n e2 k (by omega) ⟨hs, hlt⟩
          · rw [hq] at e1; cases e1
        | some q =>
          obtain ⟨a1, a2, a3, a4⟩ := nxU_some hH h1 h2 n hq
          have h6 := a4 k (by omega) hs hlt
          have h7 := hc.2.2
          rw [hq] at h7
          have hq2 := ht_int hH q
          have eq2 := sub_int (x := ht q) (y := t) (by omega) (by omega)
          have h8 : (ht n).toInt < (ht q).toInt := by
            have : ht n - t < ht q - t := h7
            rw [Int32.lt_iff_toInt_lt, es, eq2] at this
            omega
          exact ⟨by omega, fun _ => by omega⟩
    · rename_i hc
      obtain ⟨a1, a2, a3, a4⟩ := nxU_some hH h1 h2 n h
      refine ⟨by omega, a2, a3, fun k hk2 hs hlt => ?_⟩
      by_cases e9 : k = n
      · subst e9
        have hp2 := ht_int hH p
        have ep2 := sub_int (x := ht p) (y := t) (by omega) (by omega)
        have h8 : ¬ (ht k).toInt < (ht p).toInt := by
          intro z
          refine hc ⟨hs, c1.mpr hlt, ?_⟩
          rw [h]
          show ht k - t < ht p - t
          rw [Int32.lt_iff_toInt_lt, es, ep2]
          omega
        exact ⟨by omega, fun z => by omega⟩
      · exact a4 k (by omega) hs hlt
theorem nxU_none {st ht : F} {s t : Int32} (hH : okHt ht) (h1 : -1 ≤ t.toInt) (h2 : t.toInt ≤ 91) : ∀ n, nxU st ht s t n = none → ∀ k, k < n → st k = s → ¬ t.toInt < (ht k).toInt
  | 0, _, k, hk, _ => absurd hk (Nat.not_lt_zero _)
  | n + 1, h, k, hk, hs => by
    rw [nxU] at h
    split at h
    · cases h
    · rename_i hc
      have hkk := ht_int hH n
      have es := sub_int (x := ht n) (y := t) (by omega) (by omega)
      by_cases e9 : k = n
      · subst e9
        intro z
        refine hc ⟨hs, ?_, ?_⟩
        · rw [Int32.lt_iff_toInt_lt, es, i0_int]; omega
        · rw [h]
          show ht k - t < 999
          rw [Int32.lt_iff_toInt_lt, es, i999_int]; omega
      · exact nxU_none hH h1 h2 n h k (by omega) hs
/-! the model's row of a sky -/
def mdl (σ : Sky) (f : F) : MS := ((sNu σ, dmF (sSt σ), sHt σ, f, sRe σ, sCu σ, sWi σ, sCf σ, sBs σ, sRs σ, sCh σ, sSi σ), nI (fmo8 (sBs σ)), sumN (sCf σ) 4)
def frA (σ : Sky) (f : F) : Prop := ∀ k, ¬ sSt σ k = -1 → f k = sFr σ k
def fr01 (σ : Sky) : Prop := ∀ k, sFr σ k = 0 ∨ sFr σ k = 1
def gdS (σ : Sky) : Prop := okSt (sSt σ) ∧ okHt (sHt σ) ∧ okJ (sSt σ) (sHt σ) ∧ fr01 σ ∧ (∀ k, isN (sNu σ k)) ∧ (∀ b, ∃ w, w < 10 ∧ sWi σ b = nI w) ∧ (∃ c, 5 ≤ c ∧ c ≤ 80 ∧ sCh σ = nI c) ∧ ∃ c, c ≤ 9 ∧ sSi σ = nI c
def wHtF (σ : Sky) (g : F) : Sky := (sNu σ, sSt σ, g, sFr σ, sRe σ, sCu σ, sWi σ, sCf σ, sBs σ, sRs σ, sCh σ, sSi σ)
def mUp (st ht : F) (s t : Int32) : Nat := cnB (fun k => decide (st k = s) && decide (t.toInt < (ht k).toInt)) 12
theorem mUp_lt {st ht : F} {s t v : Int32} {p : Nat} (hp : p < 12) (h1 : st p = s) (h2 : t.toInt < (ht p).toInt) (hv : v.toInt ≤ (ht p).toInt) : mUp st (upd ht p v) s (ht p) + 1 ≤ mUp st ht s t := by
  refine cnB_lt 12 (fun k _ hk => ?_) p hp ?_ ?_
  · simp only [Bool.and_eq_true, decide_eq_true_eq] at hk ⊢
    by_cases e9 : k = p
    · subst e9; exact ⟨hk.1, h2⟩
    · rw [pk_un e9] at hk; exact ⟨hk.1, by omega⟩
  · simp only [Bool.and_eq_true, decide_eq_true_eq]
    intro z
    have := z.2
    rw [pk_us] at this
    omega
  · simp only [Bool.and_eq_true, decide_eq_true_eq]
    exact ⟨h1, h2⟩
theorem mUp_pos {st ht : F} {s t : Int32} {p : Nat} (hp : p < 12) (h1 : st p = s) (h2 : t.toInt < (ht p).toInt) : 1 ≤ mUp st ht s t := by
  have := mUp_lt (v := ht p) hp h1 h2 (Int.le_refl _)
  omega
/-- sinking, side by side -/
def sinkQ (s : Int32) (σ σ2 : Sky) : Prop := ∃ g : F, σ2 = wHtF σ g ∧ okHt g ∧ (∀ k, (g k).toInt ≤ (sHt σ k).toInt) ∧ ∀ k, ¬ sSt σ k = s → g k = sHt σ k
theorem sink_eq {s : Int32} (hs : vs4 s) : ∀ n (u t : Int32) (σ : Sky) (f : F), okHt (sHt σ) → frA σ f → fr01 σ → (∃ c, c ≤ 9 ∧ sSi σ = nI c) → -1 ≤ u.toInt → u.toInt ≤ t.toInt → t.toInt ≤ 91 → mUp (sSt σ) (sHt σ) s t ≤ n →
    skG s n u (nxU (dmF (sSt σ)) (sHt σ) s t 12) (mdl σ f) = mdl (sinkF s n (u + 1) t σ) f ∧ skE s n u (nxU (dmF (sSt σ)) (sHt σ) s t 12) (mdl σ f) ∧ sinkQ s σ (sinkF s n (u + 1) t σ) := by
  intro n
  induction n with
  | zero =>
    intro u t σ f hH hf h01 hsi hu hut ht hm
    refine ⟨rfl, ?_, ⟨sHt σ, rfl, hH, fun k => Int.le_refl _, fun _ _ => rfl⟩⟩
    show nxU (dmF (sSt σ)) (sHt σ) s t 12 = none
    rw [nxU_dm hs]
    cases hq : nxU (sSt σ) (sHt σ) s t 12 with
    | none => rfl
    | some p =>
      exfalso
      obtain ⟨a1, a2, a3, -⟩ := nxU_some hH (by omega) ht 12 hq
      have := mUp_pos a1 a2 a3
      omega
  | succ n ih =>
    intro u t σ f hH hf h01 hsi hu hut ht hm
    have hl := low_eq (st := sSt σ) (s := s) hH (t := t) (by omega) ht
    rw [nxU_dm hs]
    cases hq : nxU (sSt σ) (sHt σ) s t 12 with
    | none =>
      rw [hq] at hl
      have e1 : sinkF s (n + 1) (u + 1) t σ = σ := by
        rw [sinkF, hl, if_neg (fun z => absurd z.1 (by decide))]
      rw [e1]
      exact ⟨rfl, trivial, ⟨sHt σ, rfl, hH, fun k => Int.le_refl _, fun _ _ => rfl⟩⟩
    | some p =>
      rw [hq] at hl
      obtain ⟨a1, a2, a3, -⟩ := nxU_some hH (by omega) ht 12 hq
      have hl2 : low (sSt σ) (sHt σ) s t = nI p := hl
      have ha : ¬ sSt σ p = -1 := by rw [a2]; exact vs4_1 hs
      have hcl : (nI p).toNatClampNeg = p := nI_clamp (by omega)
      obtain ⟨c9, hc9, ec⟩ := hsi
      have hp2 := ht_int hH p
      -- the new height
      obtain ⟨v, hv⟩ : ∃ v, v = mSkT (mdl σ f) p u := ⟨_, rfl⟩
      have eu := add_int (x := u) (y := 1) (by omega) (by rw [i1_int]; omega)
      rw [i1_int] at eu
      have es : (sHt σ p - sSi σ).toInt = (sHt σ p).toInt - c9 := by
        have h9 := sub_int (x := sHt σ p) (y := sSi σ) (by omega) (by rw [ec, nI_toInt (by omega)]; omega)
        rw [h9, ec, nI_toInt (by omega)]
      have hvv : (sFr σ p = 1 → v = sHt σ p) ∧ (sFr σ p = 0 → v = maxI (u + 1) (sHt σ p - sSi σ)) := by
        have hfp := hf p ha
        refine ⟨fun z => ?_, fun z => ?_⟩
        · rw [hv]
          show (if f p = 1 then sHt σ p else if sHt σ p - sSi σ < u + 1 then u + 1 else sHt σ p - sSi σ) = sHt σ p
          rw [if_pos (by rw [hfp, z])]
        · rw [hv]
          show (if f p = 1 then sHt σ p else if sHt σ p - sSi σ < u + 1 then u + 1 else sHt σ p - sSi σ) = _
          rw [if_neg (by rw [hfp, z]; decide)]
          show (if sHt σ p - sSi σ < u + 1 then u + 1 else sHt σ p - sSi σ) = maxI (u + 1) (sHt σ p - sSi σ)
          unfold maxI
          by_cases h7 : sHt σ p - sSi σ < u + 1
          · rw [if_pos h7, if_neg (by rw [Int32.lt_iff_toInt_lt] at h7 ⊢; omega)]
          · rw [if_neg h7]
            by_cases h8 : u + 1 < sHt σ p - sSi σ
            · rw [if_pos h8]
            · rw [if_neg h8]
              rw [Int32.lt_iff_toInt_lt] at h7 h8
              exact Int32.toInt_inj.mp (by omega)
      have hvi : 0 ≤ v.toInt ∧ v.toInt ≤ (sHt σ p).toInt := by
        rcases h01 p with z | z
        · rw [hvv.2 z]
          unfold maxI
          split
          · rename_i h7
            rw [Int32.lt_iff_toInt_lt] at h7
            omega
          · rename_i h7
            rw [Int32.lt_iff_toInt_lt] at h7
            omega
        · rw [hvv.1 z]; omega
      have e2 : sinkO σ p (u + 1) = pHt σ p v := by
        unfold sinkO
        rcases h01 p with z | z
        · rw [if_pos z, hvv.2 z]
        · rw [if_neg (by rw [z]; decide), hvv.1 z]
          show σ = (sNu σ, sSt σ, upd (sHt σ) p (sHt σ p), _)
          rw [updI rfl]
          rfl
      have e3 : sinkF s (n + 1) (u + 1) t σ = sinkF s n (v + 1) (sHt σ p) (pHt σ p v) := by
        have hisk : isK (sSt σ) (nI p) := ⟨nI_pos' (by omega), by rw [Int32.lt_iff_toInt_lt, nI_toInt (by omega)]; show (p : Int) < 12; omega, by rw [hcl]; exact ha⟩
        rw [sinkF, hl2, if_pos hisk, hcl, e2]
        rw [show sHt (pHt σ p v) p = v from pk_us]
      have hvn : ∃ q, q < 92 ∧ v = nI q := by
        refine ⟨v.toInt.toNat, by omega, Int32.toInt_inj.mp ?_⟩
        rw [nI_toInt (by omega)]
        omega
      obtain ⟨q, hq9, eq9⟩ := hvn
      have hH2 : okHt (sHt (pHt σ p v)) := by
        show okHt (upd (sHt σ) p v)
        rw [eq9]
        exact okHt_up hH hq9
      have hm2 : mUp (sSt (pHt σ p v)) (sHt (pHt σ p v)) s (sHt σ p) ≤ n := by
        have := mUp_lt (v := v) a1 a2 a3 hvi.2
        show mUp (sSt σ) (upd (sHt σ) p v) s (sHt σ p) ≤ n
        omega
      obtain ⟨r1, r2, g, r3, r4, r5, r6⟩ := ih v (sHt σ p) (pHt σ p v) f hH2 hf h01 ⟨c9, hc9, ec⟩ (by omega) hvi.2 (by omega) hm2
      have e5 : mSkO (mdl σ f) p u = mdl (pHt σ p v) f := by rw [hv]; rfl
      rw [e3]
      refine ⟨?_, ?_, g, r3, r4, fun k => ?_, fun k hk => ?_⟩
      · rw [← r1, skG, ← hv, e5]
        rfl
      · rw [skE, ← hv, e5]
        exact r2
      · have h7 := r5 k
        by_cases e9 : k = p
        · subst e9
          rw [show sHt (pHt σ k v) k = v from pk_us] at h7
          omega
        · rw [show sHt (pHt σ p v) k = sHt σ k from pk_un e9] at h7
          exact h7
      · have e9 : ¬ k = p := fun z => hk (by rw [z]; exact a2)
        rw [r6 k hk]
        exact pk_un e9
theorem mUp_12 {st ht : F} {s t : Int32} : mUp st ht s t ≤ 12 := cnB_le 12
theorem sinkS_eq {s : Int32} (hs : vs4 s) {σ : Sky} {f : F} (hH : okHt (sHt σ)) (hf : frA σ f) (h01 : fr01 σ) (hsi : ∃ c, c ≤ 9 ∧ sSi σ = nI c) : mSink (mdl σ f) s = mdl (sinkS σ s) f ∧ hSk (mdl σ f) s ∧ sinkQ s σ (sinkS σ s) := by
  have h := sink_eq hs 12 (-1) (-1) σ f hH hf h01 hsi (by decide) (by decide) (by decide) mUp_12
  exact h
theorem sinkQ_gd {s : Int32} {σ σ2 : Sky} (h : sinkQ s σ σ2) (hg : gdS σ) : gdS σ2 := by
  obtain ⟨g, rfl, h1, h2, -⟩ := h
  obtain ⟨g1, g2, g3, g4, g5, g6, g7, g8⟩ := hg
  refine ⟨g1, h1, okJ_sub g3 (fun j k _ hj _ ha hle => ⟨ha, ?_⟩), g4, g5, g6, g7, g8⟩
  have h3 := h2 k
  have hle2 : nI (80 + j) ≤ g k := hle
  rw [Int32.le_iff_toInt_le] at hle2 ⊢
  omega
theorem sinkQ_fr {s : Int32} {σ σ2 : Sky} {f : F} (h : sinkQ s σ σ2) (hf : frA σ f) : frA σ2 f := by
  obtain ⟨g, rfl, -⟩ := h
  exact hf
theorem sinkQ_Bs {s : Int32} {σ σ2 : Sky} (h : sinkQ s σ σ2) : sBs σ2 = sBs σ := by
  obtain ⟨g, rfl, -⟩ := h
  rfl
theorem vs4_nI {n : Nat} (h : n < 4) : vs4 (nI n) := ⟨n, h, rfl⟩
theorem sinkN_eq {σ : Sky} {f : F} (hg : gdS σ) (hf : frA σ f) : ∀ n, n ≤ 4 → mSkN (mdl σ f) n = mdl (sinkN σ n) f ∧ gdS (sinkN σ n) ∧ frA (sinkN σ n) f ∧ sBs (sinkN σ n) = sBs σ
  | 0, _ => ⟨rfl, hg, hf, rfl⟩
  | n + 1, h => by
    obtain ⟨h1, h2, h3, h4⟩ := sinkN_eq hg hf n (by omega)
    have h5 := sinkS_eq (vs4_nI (n := n) (by omega)) h2.2.1 h3 h2.2.2.2.1 h2.2.2.2.2.2.2.2
    refine ⟨?_, sinkQ_gd h5.2.2 h2, sinkQ_fr h5.2.2 h3, ?_⟩
    · rw [mSkN, h1]; exact h5.1
    · show sBs (sinkS (sinkN σ n) (nI n)) = _
      rw [sinkQ_Bs h5.2.2, h4]
theorem sinkN_ok {σ : Sky} {f : F} (hg : gdS σ) (hf : frA σ f) {n : Nat} (hn : n < 4) : hSk (mSkN (mdl σ f) n) (nI n) := by
  obtain ⟨h1, h2, h3, -⟩ := sinkN_eq hg hf n (by omega)
  rw [h1]
  exact (sinkS_eq (vs4_nI hn) h2.2.1 h3 h2.2.2.2.1 h2.2.2.2.2.2.2.2).2.1
def endf (f : F) : Nat → F
  | 0 => f
  | n + 1 => upd (endf f n) n 0
theorem endN_eq {σ : Sky} {f : F} (hg : gdS σ) (hf : frA σ f) : ∀ n, mEnd (mdl σ f) n = mdl (endN σ n) (endf f n) ∧ gdS (endN σ n) ∧ frA (endN σ n) (endf f n) ∧ sBs (endN σ n) = sBs σ ∧ sHt (endN σ n) = sHt σ ∧ sSt (endN σ n) = sSt σ
  | 0 => ⟨rfl, hg, hf, rfl, rfl, rfl⟩
  | n + 1 => by
    obtain ⟨h1, h2, h3, h4, h5, h6⟩ := endN_eq hg hf n
    refine ⟨by rw [mEnd, h1]; rfl, ?_, ?_, h4, h5, h6⟩
    · obtain ⟨g1, g2, g3, g4, g5, g6, g7, g8⟩ := h2
      refine ⟨g1, g2, g3, fun k => ?_, g5, g6, g7, g8⟩
      show upd (sFr (endN σ n)) n 0 k = 0 ∨ upd (sFr (endN σ n)) n 0 k = 1
      by_cases e9 : k = n
      · subst e9; exact Or.inl pk_us
      · rw [pk_un e9]; exact g4 k
    · intro k hk
      show upd (endf f n) n 0 k = upd (sFr (endN σ n)) n 0 k
      by_cases e9 : k = n
      · subst e9; rw [pk_us, pk_us]
      · rw [pk_un e9, pk_un e9]; exact h3 k hk
theorem fmo8_1 (b : Int32) : fmo8 (b + 1) = (fmo8 b + 1) % 8 := by
  unfold fmo8
  have h1 : (b + 1).toBitVec.toNat = (b.toBitVec.toNat + 1) % 2 ^ 32 := by
    show (b.toBitVec + (1 : Int32).toBitVec).toNat = _
    rw [BitVec.toNat_add]
    rfl
  rw [h1]
  omega
theorem fmo8_lt (b : Int32) : fmo8 b < 8 := by unfold fmo8; omega
theorem be_next (b : Int32) : nI (fmo8 b) + 1 - (nI (fmo8 b) + 1) / 8 * 8 = nI (fmo8 (b + 1)) := by
  have h := fmo8_lt b
  rw [nI_1, show (8 : Int32) = nI 8 from rfl, pk_rem (by omega) (by omega) (by omega), fmo8_1]
theorem mdl_beat {Y : Sky} {f2 : F} : vBs (vBe (mdl Y f2) ((mdl Y f2).2.1 + 1 - ((mdl Y f2).2.1 + 1) / 8 * 8)) (sBs (mdl Y f2).1 + 1) = mdl (uBs Y (sBs Y + 1)) f2 := by
  have h9 : (mdl Y f2).2.1 + 1 - ((mdl Y f2).2.1 + 1) / 8 * 8 = nI (fmo8 (sBs Y + 1)) := be_next (sBs Y)
  rw [h9]
  rfl
theorem gd_Bs {Y : Sky} {v : Int32} (h : gdS Y) : gdS (uBs Y v) := h
theorem fr_Bs {Y : Sky} {v : Int32} {f : F} (h : frA Y f) : frA (uBs Y v) f := h
theorem beat1_eq {σ : Sky} {f : F} (hg : gdS σ) (hf : frA σ f) : mBeat1 (mdl σ f) = mdl (beat1 σ) (endf f 12) ∧ gdS (beat1 σ) ∧ frA (beat1 σ) (endf f 12) := by
  obtain ⟨h1, h2, h3, h4⟩ := sinkN_eq hg hf 4 (by omega)
  obtain ⟨r1, r2, r3, r4, r5, r6⟩ := endN_eq h2 h3 12
  refine ⟨?_, ?_, ?_⟩
  · rw [mBeat1, h1, r1]
    exact mdl_beat
  · rw [beat1]
    exact gd_Bs r2
  · rw [beat1]
    exact fr_Bs r3
def endg (f : F) : Nat → F
  | 0 => f
  | n + 1 => endf (endg f n) 12
theorem beatN_eq {σ : Sky} {f : F} (hg : gdS σ) (hf : frA σ f) : ∀ n, mBeatN (mdl σ f) n = mdl (beatN σ n) (endg f n) ∧ gdS (beatN σ n) ∧ frA (beatN σ n) (endg f n)
  | 0 => ⟨rfl, hg, hf⟩
  | n + 1 => by
    obtain ⟨h1, h2, h3⟩ := beatN_eq hg hf n
    have h4 := beat1_eq h2 h3
    exact ⟨by rw [mBeatN, h1]; exact h4.1, h4.2.1, h4.2.2⟩
theorem beatN_ok {σ : Sky} {f : F} (hg : gdS σ) (hf : frA σ f) (n : Nat) : hBt (mdl σ f) n := by
  intro i hi s hs
  obtain ⟨h1, h2, h3⟩ := beatN_eq hg hf i
  rw [h1]
  exact sinkN_ok h2 h3 hs
