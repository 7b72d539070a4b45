/-! PURE H: the whole text, its fault and its carrying out -/
def pfQ (z2 : SZt) (M : Int32 × Nat × MS) (C : Int32 × Nat × Sky) : Prop := (isErr C.1 ∧ M.1 = C.1 ∧ M.2.1 = C.2.1) ∨ (C.1 = 0 ∧ M.1 = 0 ∧ M.2.1 = z2.2.2.2.1 ∧ reL C.2.2 M.2.2)
def pfG (tx : F) (n : Nat) (z z2 : SZt) : Prop := z.2.2.2.1 ≤ z2.2.2.2.1 ∧ (∀ i, i < z.2.2.2.1 → z2.1 i = z.1 i ∧ z2.2.1 i = z.2.1 i ∧ z2.2.2.1 i = z.2.2.1 i) ∧ ∀ (h : Nat) (σ : Sky) (τ : MS) (r : R6), reL σ τ → n - z.2.2.2.2.1 < h → pfH tx n h τ z.2.2.2.2.1 r ∧ pfQ z2 (pfF tx n h τ z.2.2.2.2.1 r z.2.2.2.1) (kpF z2.1 z2.2.1 z2.2.2.1 (z2.2.2.2.1 - z.2.2.2.1) z.2.2.2.1 σ)
theorem err_lt {q : Int32} (h : isErr q) : q < 0 := by
  have h1 := h.1
  rw [Int32.le_iff_toInt_le, show (-10001 : Int32).toInt = -10001 from by decide] at h1
  rw [Int32.lt_iff_toInt_lt, show (0 : Int32).toInt = 0 from by decide]
  omega
theorem nI_nA {k : Nat} (h : k < 2 ^ 31) : ¬ nI k = -10005 := by
  intro e
  have := congrArg Int32.toInt e
  rw [nI_toInt h, show (-10005 : Int32).toInt = -10005 from by decide] at this
  omega
theorem fa_eq {tx sg : F} {n : Nat} (hx : txE tx sg n) (hn : n ≤ 80) : ∀ (f g : Nat) (z : SZt) (nu cm fi se : Int32), z.2.2.2.2.1 ≤ n → n - z.2.2.2.2.1 < 2 * f → n - z.2.2.2.2.1 < g → (scF sg n f z).1 = faF tx n g z.2.2.2.2.1 nu cm fi se ∧ ((scF sg n f z).1 = -10005 → pfG tx n z (scF sg n f z).2) ∧ (¬ (scF sg n f z).1 = -10005 → 0 ≤ ((scF sg n f z).1).toInt) := by
  intro f
  induction f with
  | zero => intro g z nu cm fi se h1 h2; omega
  | succ f ih =>
    intro g z nu cm fi se h1 h2 h3
    obtain ⟨g, rfl⟩ : ∃ g', g = g' + 1 := ⟨g - 1, by omega⟩
    have hle := scC_le (sg := sg) (n := n) (z := z) h1
    have hA : ∀ nu cm fi se, cmX z (rcX tx n z.2.2.2.2.1 nu cm fi se) (scC sg n z) := fun nu cm fi se => cmd_eq hx hn
    rw [scF, faF]
    generalize scC sg n z = C at hle hA ⊢
    obtain ⟨a1, a2, a3⟩ := hA nu cm fi se
    by_cases hc : C.1 = true
    · have hm := a1.trans hc
      obtain ⟨l1, l2, l3⟩ := hle
      obtain ⟨l4, l5⟩ := l3 hc
      have hpos : 0 < n := by omega
      rw [if_pos hc, if_pos hm, a2]
      -- what one command does, for any reading before it
      have step : ∀ (σ : Sky) (τ : MS) (r : R6) (z2 : SZt), reL σ τ → (∀ i, i < z.2.2.2.1 + 1 → z2.1 i = C.2.1 i ∧ z2.2.1 i = C.2.2.1 i ∧ z2.2.2.1 i = C.2.2.2.1 i) → (rcx tx n z.2.2.2.2.1 r).2.1 = C.2.2.2.2.2.1 ∧ coQ σ τ (carryR σ (z2.1 z.2.2.2.1) (z2.2.1 z.2.2.2.1) (z2.2.2.1 z.2.2.2.1)) (coX τ (rcx tx n z.2.2.2.2.1 r)) ∧ okC τ (rcx tx n z.2.2.2.2.1 r).2.2.2.1 (rcx tx n z.2.2.2.2.1 r).2.2.2.2.1 := by
        intro σ τ r z2 hre hk
        obtain ⟨b1, b2, b3⟩ := hA r.2.2.1 r.2.2.2.1 r.2.2.2.2.1 r.2.2.2.2.2
        obtain ⟨b4, x, b5, b6, b7, b8, b9⟩ := b3 (b1.trans hc)
        obtain ⟨k1, k2, k3⟩ := hk z.2.2.2.1 (by omega)
        refine ⟨b2, ?_⟩
        rw [k1, k2, k3, b6, b7, b8, pk_us, pk_us, pk_us]
        exact co_eq hre b5 b9
      have keep : (∀ i, i < z.2.2.2.1 → C.2.1 i = z.1 i ∧ C.2.2.1 i = z.2.1 i ∧ C.2.2.2.1 i = z.2.2.1 i) := by
        obtain ⟨b4, x, b5, b6, b7, b8, b9⟩ := a3 hm
        intro i hi
        have hne : ¬ i = z.2.2.2.1 := by omega
        rw [b6, b7, b8, pk_un hne, pk_un hne, pk_un hne]
        exact ⟨rfl, rfl, rfl⟩
      by_cases hE : sgA sg n C.2.2.2.2.2.1 = -1
      · have hq : C.2.2.2.2.2.1 = n := by
          rcases Nat.lt_or_ge C.2.2.2.2.2.1 n with hlt | hge
          · unfold sgA at hE
            rw [if_pos hlt, (hx _ hlt).1] at hE
            have := (hx _ hlt).2
            rw [hE] at this
            exact absurd this (by decide)
          · omega
        have hh : ∀ q, q = n → ¬ here tx n q 59 59 := fun q e y => by have := y.1; omega
        rw [if_pos hE, if_neg (hh _ hq), if_pos hq]
        refine ⟨rfl, fun _ => ?_, fun y => absurd rfl y⟩
        refine ⟨by dsimp only; omega, keep, ?_⟩
        intro h σ τ r hre hh9
        obtain ⟨h, rfl⟩ : ∃ h', h = h' + 1 := ⟨h - 1, by omega⟩
        obtain ⟨s1, s2, s3⟩ := step σ τ r C.2 hre (fun i _ => ⟨rfl, rfl, rfl⟩)
        have e1 : C.2.2.2.2.1 - z.2.2.2.1 = 0 + 1 := by omega
        have hnh : ¬ here tx n (rcx tx n z.2.2.2.2.1 r).2.1 59 59 := hh _ (s1.trans hq)
        refine ⟨⟨s3, fun _ y => absurd y hnh⟩, ?_⟩
        dsimp only
        rw [e1, kpF, pfF, kpF]
        rcases s2 with ⟨t1, t2⟩ | ⟨t1, t2, t3⟩
        · rw [if_pos t1, if_pos (by rw [t2]; exact err_lt t1)]
          exact Or.inl ⟨t1, t2, rfl⟩
        · rw [if_neg t1, if_neg (by rw [t2]; decide), if_neg hnh]
          exact Or.inr ⟨rfl, rfl, l4.symm, t3⟩
      · rw [if_neg hE]
        by_cases hS : sgA sg n C.2.2.2.2.2.1 = 59
        · have hh := (here_eq hx (by decide : ¬ (59 : Int32) = -1)).mpr hS
          have hlt := hh.1
          rw [if_pos hS, if_pos hh]
          obtain ⟨i1, i2, i3⟩ := ih g (zP C.2) (rcX tx n z.2.2.2.2.1 nu cm fi se).2.2.1 (rcX tx n z.2.2.2.2.1 nu cm fi se).2.2.2.1 (rcX tx n z.2.2.2.2.1 nu cm fi se).2.2.2.2.1 (rcX tx n z.2.2.2.2.1 nu cm fi se).2.2.2.2.2 (by show C.2.2.2.2.2.1 + 1 ≤ n; omega) (by show n - (C.2.2.2.2.2.1 + 1) < 2 * f; omega) (by show n - (C.2.2.2.2.2.1 + 1) < g; omega)
          refine ⟨i1, fun y => ?_, i3⟩
          obtain ⟨j1, j2, j3⟩ := i2 y
          generalize (scF sg n f (zP C.2)).2 = z2 at j1 j2 j3 ⊢
          have j1' : C.2.2.2.2.1 ≤ z2.2.2.2.1 := j1
          have j2' : ∀ i, i < C.2.2.2.2.1 → z2.1 i = C.2.1 i ∧ z2.2.1 i = C.2.2.1 i ∧ z2.2.2.1 i = C.2.2.2.1 i := j2
          rw [l4] at j1' j2'
          refine ⟨by omega, fun i hi => ?_, ?_⟩
          · obtain ⟨m1, m2, m3⟩ := j2' i (by omega)
            obtain ⟨k1, k2, k3⟩ := keep i hi
            exact ⟨m1.trans k1, m2.trans k2, m3.trans k3⟩
          · intro h σ τ r hre hh9
            obtain ⟨h, rfl⟩ : ∃ h', h = h' + 1 := ⟨h - 1, by omega⟩
            obtain ⟨s1, s2, s3⟩ := step σ τ r z2 hre j2'
            have hhr : here tx n (rcx tx n z.2.2.2.2.1 r).2.1 59 59 := by rw [s1]; exact hh
            have e1 : z2.2.2.2.1 - z.2.2.2.1 = (z2.2.2.2.1 - (z.2.2.2.1 + 1)) + 1 := by omega
            rw [e1, kpF, pfF, pfH]
            rcases s2 with ⟨t1, t2⟩ | ⟨t1, t2, t3⟩
            · have hl : (coX τ (rcx tx n z.2.2.2.2.1 r)).1 < 0 := by rw [t2]; exact err_lt t1
              rw [if_pos t1, if_pos hl]
              exact ⟨⟨s3, fun y => absurd hl y⟩, Or.inl ⟨t1, t2, rfl⟩⟩
            · have hl : ¬ (coX τ (rcx tx n z.2.2.2.2.1 r)).1 < 0 := by rw [t2]; decide
              rw [if_neg t1, if_neg hl, if_pos hhr]
              have e3 : (zP C.2).2.2.2.2.1 = (rcx tx n z.2.2.2.2.1 r).2.1 + 1 := by rw [s1]; rfl
              have e4 : (zP C.2).2.2.2.1 = z.2.2.2.1 + 1 := l4
              obtain ⟨u1, u2⟩ := j3 h _ _ (rcx tx n z.2.2.2.2.1 r) t3 (by show n - (C.2.2.2.2.2.1 + 1) < h; omega)
              rw [e3] at u1 u2
              rw [e4] at u2
              exact ⟨⟨s3, fun _ _ => u1⟩, u2⟩
        · have hnh : ¬ here tx n C.2.2.2.2.2.1 59 59 := fun y => hS ((here_eq hx (by decide : ¬ (59 : Int32) = -1)).mp y)
          have hq : ¬ C.2.2.2.2.2.1 = n := fun e => hE (by unfold sgA; rw [if_neg (by omega)])
          rw [if_neg hS, if_neg hnh, if_neg hq]
          exact ⟨rfl, fun y => absurd y (nI_nA (by omega)), fun _ => by dsimp only; rw [nI_toInt (by omega)]; omega⟩
    · have hm : ¬ (rcX tx n z.2.2.2.2.1 nu cm fi se).1 = true := fun y => hc (a1.symm.trans y)
      rw [if_neg hc, if_neg hm, a2]
      exact ⟨rfl, fun y => absurd y (nI_nA (by omega)), fun _ => by dsimp only; rw [nI_toInt (by omega)]; omega⟩
