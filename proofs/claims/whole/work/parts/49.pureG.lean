/-! PURE G: commands, faults, what a text carries out -/
def cmQ (lo hi lo2 hi2 : Int) (one : Prop) (cm : Int32) (z : SZt) (M : R6) (C : Bool × SZt) : Prop :=
  M.1 = C.1 ∧ M.2.1 = C.2.2.2.2.2.1 ∧ (M.1 = true → M.2.2.2.1 = cm ∧ lo ≤ M.2.2.2.2.1.toInt ∧ M.2.2.2.2.1.toInt ≤ hi ∧ C.2.1 = upd z.1 z.2.2.2.1 cm ∧ C.2.2.1 = upd z.2.1 z.2.2.2.1 M.2.2.2.2.1 ∧ C.2.2.2.2.1 = z.2.2.2.1 + 1 ∧ ∃ x, C.2.2.2.1 = upd z.2.2.1 z.2.2.2.1 x ∧ (one ∨ x = M.2.2.2.2.2 ∧ lo2 ≤ x.toInt ∧ x.toInt ≤ hi2))
theorem bnot {b : Bool} (h : ¬ b = true) : b = false := by cases b <;> simp_all
theorem cmd_one {tx sg : F} {n p : Nat} {cm l t nu nu2 se : Int32} {lo hi lo2 hi2 : Int} {z : SZt} (h1 : rs1 tx n cm p nu = rnR tx n l t p nu) (h2 : sf1 sg n cm p nu2 = snR sg n l t p nu2) (hcm : cm = 1 ∨ cm = 3) (E1 : R3e lo hi (rnR tx n l t p nu) (snR sg n l t p nu2)) : cmQ lo hi lo2 hi2 True cm z (rsR tx n cm p nu se) (scB sg n z.1 z.2.1 z.2.2.1 z.2.2.2.1 (true, p, cm) (sf1 sg n cm p nu2)) := by
  unfold rsR rsB scB
  rw [h1, h2]
  obtain ⟨e1, e2, e3⟩ := E1
  rw [if_neg (fun y => hcm.elim y.2.1 y.2.2)]
  by_cases hb : (snR sg n l t p nu2).1 = true
  · rw [if_pos hb, if_pos hcm]
    exact ⟨e1.trans hb, e2, fun y => ⟨rfl, (e3 y).2.1, (e3 y).2.2, rfl, congrArg (upd z.2.1 z.2.2.2.1) (e3 y).1.symm, rfl, 0, rfl, Or.inl trivial⟩⟩
  · rw [if_neg hb]
    exact ⟨e1.trans (bnot hb), e2, fun y => absurd (e1.symm.trans y) hb⟩
theorem cmd_two {tx sg : F} {n p : Nat} {cm l t l2 t2 nu nu2 se : Int32} {lo hi lo2 hi2 : Int} {z : SZt} (h1 : rs1 tx n cm p nu = rnR tx n l t p nu) (h2 : sf1 sg n cm p nu2 = snR sg n l t p nu2) (h3 : ∀ p nu, rs2 tx n cm p nu = rnR tx n l2 t2 p nu) (h4 : ∀ p nu, sf2 sg n cm p nu = snR sg n l2 t2 p nu) (hcm : ¬ cm = 1 ∧ ¬ cm = 3) (E1 : R3e lo hi (rnR tx n l t p nu) (snR sg n l t p nu2)) (E2 : ∀ p nu nu2, R3e lo2 hi2 (rnR tx n l2 t2 p nu) (snR sg n l2 t2 p nu2)) : cmQ lo hi lo2 hi2 False cm z (rsR tx n cm p nu se) (scB sg n z.1 z.2.1 z.2.2.1 z.2.2.2.1 (true, p, cm) (sf1 sg n cm p nu2)) := by
  unfold rsR rsB scB
  rw [h1, h2]
  simp only [h3, h4]
  obtain ⟨e1, e2, e3⟩ := E1
  by_cases hb : (snR sg n l t p nu2).1 = true
  · have ha : (rnR tx n l t p nu).1 = true := e1.trans hb
    rw [if_pos ⟨ha, hcm.1, hcm.2⟩, if_pos hb, if_neg (fun y => y.elim hcm.1 hcm.2)]
    obtain ⟨g1, g2, g3⟩ := E2 (rnR tx n l t p nu).2.1 (rnR tx n l t p nu).2.2 (snR sg n l t p nu2).2.2
    rw [e2] at g1 g2 g3 ⊢
    have e5 := (e3 ha).1
    rw [e5] at g1 g2 g3 ⊢
    by_cases hc : (snR sg n l2 t2 (snR sg n l t p nu2).2.1 (snR sg n l t p nu2).2.2).1 = true
    · rw [if_pos hc]
      have h9 := e3 ha
      rw [e5] at h9
      exact ⟨g1.trans hc, g2, fun y => ⟨rfl, h9.2.1, h9.2.2, rfl, rfl, rfl, _, upd2, Or.inr ⟨(g3 y).1.symm, by rw [← (g3 y).1]; exact (g3 y).2.1, by rw [← (g3 y).1]; exact (g3 y).2.2⟩⟩⟩
    · rw [if_neg hc]
      exact ⟨g1.trans (bnot hc), g2, fun y => absurd (g1.symm.trans y) hc⟩
  · have ha : ¬ (rnR tx n l t p nu).1 = true := fun y => hb (e1.symm.trans y)
    rw [if_neg (fun y => ha y.1), if_neg hb]
    exact ⟨e1.trans (bnot hb), e2, fun y => absurd y ha⟩
theorem rs1_0 {tx : F} {n p : Nat} {nu : Int32} : rs1 tx n 0 p nu = rnR tx n 0 3 p nu := by rw [rs1, if_pos rfl]
theorem sf1_0 {sg : F} {n p : Nat} {nu : Int32} : sf1 sg n 0 p nu = snR sg n 0 3 p nu := by rw [sf1, if_pos rfl]
theorem rs2_0 {tx : F} {n p : Nat} {nu : Int32} : rs2 tx n 0 p nu = rnR tx n (-999) 999 p nu := by rw [rs2, if_neg (by decide : ¬ (0 : Int32) = 4)]
theorem sf2_0 {sg : F} {n p : Nat} {nu : Int32} : sf2 sg n 0 p nu = snR sg n (-999) 999 p nu := by rw [sf2, if_neg (by decide : ¬ (0 : Int32) = 4)]
theorem rs1_1 {tx : F} {n p : Nat} {nu : Int32} : rs1 tx n 1 p nu = rnR tx n 0 11 p nu := by rw [rs1, if_neg (by decide : ¬ (1 : Int32) = 0), if_neg (by decide : ¬ (1 : Int32) = 3), if_neg (by decide : ¬ (1 : Int32) = 4)]
theorem sf1_1 {sg : F} {n p : Nat} {nu : Int32} : sf1 sg n 1 p nu = snR sg n 0 11 p nu := by rw [sf1, if_neg (by decide : ¬ (1 : Int32) = 0), if_neg (by decide : ¬ (1 : Int32) = 3), if_neg (by decide : ¬ (1 : Int32) = 4)]
theorem rs1_2 {tx : F} {n p : Nat} {nu : Int32} : rs1 tx n 2 p nu = rnR tx n 0 11 p nu := by rw [rs1, if_neg (by decide : ¬ (2 : Int32) = 0), if_neg (by decide : ¬ (2 : Int32) = 3), if_neg (by decide : ¬ (2 : Int32) = 4)]
theorem sf1_2 {sg : F} {n p : Nat} {nu : Int32} : sf1 sg n 2 p nu = snR sg n 0 11 p nu := by rw [sf1, if_neg (by decide : ¬ (2 : Int32) = 0), if_neg (by decide : ¬ (2 : Int32) = 3), if_neg (by decide : ¬ (2 : Int32) = 4)]
theorem rs2_2 {tx : F} {n p : Nat} {nu : Int32} : rs2 tx n 2 p nu = rnR tx n (-999) 999 p nu := by rw [rs2, if_neg (by decide : ¬ (2 : Int32) = 4)]
theorem sf2_2 {sg : F} {n p : Nat} {nu : Int32} : sf2 sg n 2 p nu = snR sg n (-999) 999 p nu := by rw [sf2, if_neg (by decide : ¬ (2 : Int32) = 4)]
theorem rs1_3 {tx : F} {n p : Nat} {nu : Int32} : rs1 tx n 3 p nu = rnR tx n 1 20 p nu := by rw [rs1, if_neg (by decide : ¬ (3 : Int32) = 0), if_pos rfl]
theorem sf1_3 {sg : F} {n p : Nat} {nu : Int32} : sf1 sg n 3 p nu = snR sg n 1 20 p nu := by rw [sf1, if_neg (by decide : ¬ (3 : Int32) = 0), if_pos rfl]
theorem rs1_4 {tx : F} {n p : Nat} {nu : Int32} : rs1 tx n 4 p nu = rnR tx n 0 7 p nu := by rw [rs1, if_neg (by decide : ¬ (4 : Int32) = 0), if_neg (by decide : ¬ (4 : Int32) = 3), if_pos rfl]
theorem sf1_4 {sg : F} {n p : Nat} {nu : Int32} : sf1 sg n 4 p nu = snR sg n 0 7 p nu := by rw [sf1, if_neg (by decide : ¬ (4 : Int32) = 0), if_neg (by decide : ¬ (4 : Int32) = 3), if_pos rfl]
theorem rs2_4 {tx : F} {n p : Nat} {nu : Int32} : rs2 tx n 4 p nu = rnR tx n 0 9 p nu := by rw [rs2, if_pos rfl]
theorem sf2_4 {sg : F} {n p : Nat} {nu : Int32} : sf2 sg n 4 p nu = snR sg n 0 9 p nu := by rw [sf2, if_pos rfl]
/-- a command in its ranges -/
def cmR (cm fi se : Int32) : Prop := cm = 0 ∧ 0 ≤ fi.toInt ∧ fi.toInt ≤ 3 ∧ -999 ≤ se.toInt ∧ se.toInt ≤ 999 ∨ cm = 1 ∧ 0 ≤ fi.toInt ∧ fi.toInt ≤ 11 ∨ cm = 2 ∧ 0 ≤ fi.toInt ∧ fi.toInt ≤ 11 ∧ -999 ≤ se.toInt ∧ se.toInt ≤ 999 ∨ cm = 3 ∧ 1 ≤ fi.toInt ∧ fi.toInt ≤ 20 ∨ cm = 4 ∧ 0 ≤ fi.toInt ∧ fi.toInt ≤ 7 ∧ 0 ≤ se.toInt ∧ se.toInt ≤ 9
/-- what one command is, in the text and in the class's rows -/
def cmX (z : SZt) (M : R6) (C : Bool × SZt) : Prop :=
  M.1 = C.1 ∧ M.2.1 = C.2.2.2.2.2.1 ∧ (M.1 = true → C.2.2.2.2.1 = z.2.2.2.1 + 1 ∧ ∃ x, cmR M.2.2.2.1 M.2.2.2.2.1 x ∧ C.2.1 = upd z.1 z.2.2.2.1 M.2.2.2.1 ∧ C.2.2.1 = upd z.2.1 z.2.2.2.1 M.2.2.2.2.1 ∧ C.2.2.2.1 = upd z.2.2.1 z.2.2.2.1 x ∧ (M.2.2.2.1 = 1 ∨ M.2.2.2.1 = 3 ∨ x = M.2.2.2.2.2))
theorem mw_cm {tx : F} {n p : Nat} : (mwR tx n p).2.2 = 0 ∨ (mwR tx n p).2.2 = 1 ∨ (mwR tx n p).2.2 = 2 ∨ (mwR tx n p).2.2 = 3 ∨ (mwR tx n p).2.2 = 4 := by
  unfold mwR
  by_cases c1 : here tx n p 102 102
  · rw [if_pos c1]; exact Or.inl rfl
  rw [if_neg c1]
  by_cases c2 : here tx n p 114 114
  · rw [if_pos c2]; exact Or.inr (Or.inl rfl)
  rw [if_neg c2]
  by_cases c3 : here tx n p 98 98
  · rw [if_pos c3]; exact Or.inr (Or.inr (Or.inr (Or.inl rfl)))
  rw [if_neg c3]
  by_cases c4 : here tx n p 119 119
  · rw [if_pos c4]
    by_cases c5 : here tx n (p + 1) 114 114
    · rw [if_pos c5]; exact Or.inr (Or.inr (Or.inl rfl))
    · rw [if_neg c5]; exact Or.inr (Or.inr (Or.inr (Or.inr rfl)))
  rw [if_neg c4]
  exact Or.inl rfl
theorem rcX_mw {tx : F} {n p : Nat} {nu cm fi se : Int32} : ((mwR tx n p).1 = true → rcX tx n p nu cm fi se = rsR tx n (mwR tx n p).2.2 (mwR tx n p).2.1 nu se) ∧ (¬ (mwR tx n p).1 = true → (rcX tx n p nu cm fi se).1 = false ∧ (rcX tx n p nu cm fi se).2.1 = (mwR tx n p).2.1) := by
  unfold mwR rcX
  have key : ∀ (c : Int32) (l : Bool × Nat), (l.1 = true → rcB tx n c nu fi se l = rsR tx n c l.2 nu se) ∧ (¬ l.1 = true → (rcB tx n c nu fi se l).1 = false ∧ (rcB tx n c nu fi se l).2.1 = l.2) := by
    intro c l
    unfold rcB
    exact ⟨fun h => if_pos h, fun h => by rw [if_neg h]; exact ⟨rfl, rfl⟩⟩
  by_cases c1 : here tx n p 102 102
  · rw [if_pos c1, if_pos c1]; exact key _ _
  rw [if_neg c1, if_neg c1]
  by_cases c2 : here tx n p 114 114
  · rw [if_pos c2, if_pos c2]; exact key _ _
  rw [if_neg c2, if_neg c2]
  by_cases c3 : here tx n p 98 98
  · rw [if_pos c3, if_pos c3]; exact key _ _
  rw [if_neg c3, if_neg c3]
  by_cases c4 : here tx n p 119 119
  · rw [if_pos c4, if_pos c4]
    by_cases c5 : here tx n (p + 1) 114 114
    · rw [if_pos c5, if_pos c5]; exact key _ _
    · rw [if_neg c5, if_neg c5]; exact key _ _
  rw [if_neg c4, if_neg c4]
  exact ⟨fun h => (by cases h), fun _ => ⟨rfl, rfl⟩⟩
theorem cmd_eq {tx sg : F} {n : Nat} {z : SZt} {nu cm fi se : Int32} (hx : txE tx sg n) (hn : n ≤ 80) : cmX z (rcX tx n z.2.2.2.2.1 nu cm fi se) (scC sg n z) := by
  obtain ⟨w1, w2, w3⟩ := word_eq (p := z.2.2.2.2.1) (vb := z.2.2.2.2.2.1) hx
  obtain ⟨m1, m2⟩ := rcX_mw (tx := tx) (n := n) (p := z.2.2.2.2.1) (nu := nu) (cm := cm) (fi := fi) (se := se)
  unfold scC scA
  by_cases hw : (swR sg n z.2.2.2.2.1 z.2.2.2.2.2.1).1 = true
  · have hm := w1.trans hw
    rw [if_pos hw, m1 hm, ← w2, ← w3 hm]
    have hsw : swR sg n z.2.2.2.2.1 z.2.2.2.2.2.1 = (true, (mwR tx n z.2.2.2.2.1).2.1, (mwR tx n z.2.2.2.2.1).2.2) := by
      rw [w2, w3 hm, ← hw]
    rw [hsw]
    generalize (mwR tx n z.2.2.2.2.1).2.1 = q
    have hcm := mw_cm (tx := tx) (n := n) (p := z.2.2.2.2.1)
    generalize (mwR tx n z.2.2.2.2.1).2.2 = c at hcm ⊢
    have fin1 : ∀ lo hi, (c = 1 ∨ c = 3) → (∀ f x : Int32, lo ≤ f.toInt → f.toInt ≤ hi → cmR c f x) → cmQ lo hi 0 0 True c z (rsR tx n c q nu se) (scB sg n z.1 z.2.1 z.2.2.1 z.2.2.2.1 (true, q, c) (sf1 sg n c q z.2.2.2.2.2.2)) → cmX z (rsR tx n c q nu se) (scB sg n z.1 z.2.1 z.2.2.1 z.2.2.2.1 (true, q, c) (sf1 sg n c q z.2.2.2.2.2.2)) := by
      rintro lo hi hc hr ⟨a1, a2, a3⟩
      refine ⟨a1, a2, fun y => ?_⟩
      obtain ⟨b1, b2, b3, b4, b5, b6, x, b7, -⟩ := a3 y
      rw [b1]
      exact ⟨b6, x, hr _ x b2 b3, b4, b5, b7, hc.elim Or.inl (fun h => Or.inr (Or.inl h))⟩
    have fin2 : ∀ lo hi lo2 hi2, (∀ f x : Int32, lo ≤ f.toInt → f.toInt ≤ hi → lo2 ≤ x.toInt → x.toInt ≤ hi2 → cmR c f x) → cmQ lo hi lo2 hi2 False c z (rsR tx n c q nu se) (scB sg n z.1 z.2.1 z.2.2.1 z.2.2.2.1 (true, q, c) (sf1 sg n c q z.2.2.2.2.2.2)) → cmX z (rsR tx n c q nu se) (scB sg n z.1 z.2.1 z.2.2.1 z.2.2.2.1 (true, q, c) (sf1 sg n c q z.2.2.2.2.2.2)) := by
      rintro lo hi lo2 hi2 hr ⟨a1, a2, a3⟩
      refine ⟨a1, a2, fun y => ?_⟩
      obtain ⟨b1, b2, b3, b4, b5, b6, x, b7, b8⟩ := a3 y
      obtain ⟨b9, c1, c2⟩ := b8.resolve_left (fun h => h)
      rw [b1]
      exact ⟨b6, x, hr _ x b2 b3 c1 c2, b4, b5, b7, Or.inr (Or.inr b9)⟩
    rcases hcm with rfl | rfl | rfl | rfl | rfl
    · exact fin2 0 3 (-999) 999 (fun f x a b d e => Or.inl ⟨rfl, a, b, d, e⟩) (cmd_two rs1_0 sf1_0 (fun _ _ => rs2_0) (fun _ _ => sf2_0) ⟨by decide, by decide⟩ (rnR_eq hx hn (by decide) (Or.inl rfl)) (fun _ _ _ => rnR_eqN hx hn))
    · exact fin1 0 11 (Or.inl rfl) (fun f x a b => Or.inr (Or.inl ⟨rfl, a, b⟩)) (cmd_one rs1_1 sf1_1 (Or.inl rfl) (rnR_eq hx hn (by decide) (Or.inl rfl)))
    · exact fin2 0 11 (-999) 999 (fun f x a b d e => Or.inr (Or.inr (Or.inl ⟨rfl, a, b, d, e⟩))) (cmd_two rs1_2 sf1_2 (fun _ _ => rs2_2) (fun _ _ => sf2_2) ⟨by decide, by decide⟩ (rnR_eq hx hn (by decide) (Or.inl rfl)) (fun _ _ _ => rnR_eqN hx hn))
    · exact fin1 1 20 (Or.inr rfl) (fun f x a b => Or.inr (Or.inr (Or.inr (Or.inl ⟨rfl, a, b⟩)))) (cmd_one rs1_3 sf1_3 (Or.inr rfl) (rnR_eq hx hn (by decide) (Or.inr rfl)))
    · exact fin2 0 7 0 9 (fun f x a b d e => Or.inr (Or.inr (Or.inr (Or.inr ⟨rfl, a, b, d, e⟩)))) (cmd_two rs1_4 sf1_4 (fun _ _ => rs2_4) (fun _ _ => sf2_4) ⟨by decide, by decide⟩ (rnR_eq hx hn (by decide) (Or.inl rfl)) (fun _ _ _ => rnR_eq hx hn (by decide) (Or.inl rfl)))
  · have hm : ¬ (mwR tx n z.2.2.2.2.1).1 = true := fun y => hw (w1.symm.trans y)
    obtain ⟨a1, a2⟩ := m2 hm
    rw [if_neg hw]
    exact ⟨a1, a2.trans w2, fun y => by rw [a1] at y; cases y⟩
/-! one command carried out -/
theorem i32_in {x : Int32} {n : Nat} (h0 : 0 ≤ x.toInt) (h1 : x.toInt ≤ n) (hn : n < 2 ^ 31) : ∃ j, j ≤ n ∧ x = nI j := ⟨x.toInt.toNat, by omega, i32_eq (by rw [nI_toInt (by omega)]; omega)⟩
theorem nErr {k : Nat} (h : k < 2 ^ 31) : ¬ isErr (nI k) := by
  intro z
  have := z.1
  rw [Int32.le_iff_toInt_le, nI_toInt h, show (-10001 : Int32).toInt = -10001 from by decide] at this
  omega
theorem nErrN {x : Int32} (h : isN x) : ¬ isErr x := by
  intro z
  have h1 := z.1
  have h2 := h.1
  rw [Int32.le_iff_toInt_le] at h1 h2
  rw [show (-10001 : Int32).toInt = -10001 from by decide] at h1
  rw [show (-999 : Int32).toInt = -999 from by decide] at h2
  omega
theorem isN_of {x : Int32} (h1 : -999 ≤ x.toInt) (h2 : x.toInt ≤ 999) : isN x := ⟨Int32.le_iff_toInt_le.mpr (by rw [show (-999 : Int32).toInt = -999 from by decide]; exact h1), Int32.le_iff_toInt_le.mpr (by rw [i999_int]; exact h2)⟩
theorem freeK_le {st : F} : freeK st ≤ 12 := by
  have := (ff_spec (fun j => st j == -1) 12 0).2.1
  have h9 : freeK st = ff (fun j => st j == -1) 12 0 := rfl
  omega
theorem isS_nI {q : Nat} (h : q < 4) : isS (nI q) := ⟨nI_pos' (by omega), by rw [Int32.lt_iff_toInt_lt, nI_toInt (by omega)]; show (q : Int) < 4; omega⟩
def coQ (σ : Sky) (τ : MS) (X : Int32 × Sky) (Y : Int32 × MS) : Prop := (isErr X.1 ∧ Y.1 = X.1) ∨ (¬ isErr X.1 ∧ Y.1 = 0 ∧ reL X.2 Y.2)
theorem co_eq {σ : Sky} {τ : MS} (h : reL σ τ) {cm fi x se : Int32} (hr : cmR cm fi x) (hs : cm = 1 ∨ cm = 3 ∨ x = se) : coQ σ τ (carryR σ cm fi x) (coT τ cm fi se) ∧ okC τ cm fi := by
  have hre := h
  obtain ⟨hg, f, hf, hτ⟩ := h
  have hst : sSt τ.1 = dmF (sSt σ) := by rw [hτ]; rfl
  unfold carryR coT okC
  rcases hr with ⟨rfl, h1, h2, h3, h4⟩ | ⟨rfl, h1, h2⟩ | ⟨rfl, h1, h2, h3, h4⟩ | ⟨rfl, h1, h2⟩ | ⟨rfl, h1, h2, h3, h4⟩
  · have hse := (hs.resolve_left (by decide)).resolve_left (by decide)
    subst hse
    obtain ⟨q, hq, rfl⟩ := i32_in (n := 3) h1 h2 (by omega)
    have hv : vs4 (nI q) := vs4_nI (by omega)
    have hN := isN_of h3 h4
    rw [if_pos rfl, if_pos rfl]
    refine ⟨?_, fun _ k hk ha => launch_ok hre, fun z => absurd z (by decide), fun z => absurd z (by decide), fun z => absurd rfl z⟩
    unfold launchR
    rw [if_pos (isS_nI (by omega)), if_pos hN, hst, free_eq hg.1]
    by_cases hk : freeK (sSt σ) < 12
    · rw [if_pos hk, if_pos hk]
      exact Or.inr ⟨nErr (by omega), rfl, launch_re hre hv hN hk (freeK_is hk)⟩
    · rw [if_neg hk, if_neg hk]
      exact Or.inl ⟨(by decide : isErr (-10003)), rfl⟩
  · rw [if_neg (by decide : ¬ (1 : Int32) = 0), if_pos rfl, if_neg (by decide : ¬ (1 : Int32) = 0), if_pos rfl]
    obtain ⟨j, hj, rfl⟩ := i32_in (n := 11) h1 h2 (by omega)
    have hcl : (nI j).toNatClampNeg = j := nI_clamp (by omega)
    have hkk : isKm (sSt τ.1) (nI j) ↔ isK (sSt σ) (nI j) := by rw [hst]; exact isK_m hg.1 _
    unfold raiseR
    by_cases hk : isK (sSt σ) (nI j)
    · obtain ⟨j2, q, hj2, hq, ej, hcl2, hsq⟩ := kite_at hg hk
      have e9 : j2 = j := hcl2.symm.trans hcl
      subst e9
      have hl : ¬ sSt σ j2 = -1 := by rw [hsq]; exact vs4_1 (vs4_nI hq)
      have hqo : qOf τ j2 = q := by
        show (sSt τ.1 j2).toNatClampNeg = q
        rw [hst, dm_neg hl, hsq]
        exact nI_clamp (by omega)
      have heo : eOf τ = fmo8 (sBs σ) := by
        show τ.2.1.toNatClampNeg = _
        rw [hτ]
        exact nI_clamp (by have := fmo8_lt (sBs σ); omega)
      have hwo : sWi τ.1 (eOf τ) = windN σ := by rw [heo, hτ]; rfl
      have hR9 := raise_re hre (j := j2) (by omega) hq hsq
      refine ⟨?_, fun z => absurd z (by decide), fun _ _ => ?_, fun z => absurd z (by decide), fun _ z => absurd rfl z⟩
      · rw [if_pos (hkk.mpr hk), if_pos hk, hcl, hqo, hwo]
        exact Or.inr ⟨nErrN (hR9.1.1.2.2.2.2.1 j2), rfl, hR9.1⟩
      · rw [hcl]
        refine ⟨by rw [hqo]; exact hq, by rw [hqo, hst, dm_neg hl]; exact hsq, by rw [heo]; exact fmo8_lt _, by rw [heo, hτ]; rfl, ?_⟩
        rw [hwo]
        exact hR9.2
    · refine ⟨?_, fun z => absurd z (by decide), fun _ z => absurd (hkk.mp z) hk, fun z => absurd z (by decide), fun _ z => absurd rfl z⟩
      rw [if_neg (fun z => hk (hkk.mp z)), if_neg hk]
      exact Or.inl ⟨(by decide : isErr (-10001)), rfl⟩
  · have hse := (hs.resolve_left (by decide)).resolve_left (by decide)
    subst hse
    rw [if_neg (by decide : ¬ (2 : Int32) = 0), if_neg (by decide : ¬ (2 : Int32) = 1), if_pos rfl, if_neg (by decide : ¬ (2 : Int32) = 0), if_neg (by decide : ¬ (2 : Int32) = 1), if_pos rfl]
    have hN := isN_of h3 h4
    refine ⟨?_, fun z => absurd z (by decide), fun z => absurd z (by decide), fun z => absurd z (by decide), fun _ _ z => absurd rfl z⟩
    have hkk : isKm (sSt τ.1) fi ↔ isK (sSt σ) fi := by rw [hst]; exact isK_m hg.1 _
    unfold renumR
    by_cases hk : isK (sSt σ) fi
    · rw [if_pos hk, if_pos hN, if_pos (hkk.mpr hk)]
      exact Or.inr ⟨nErrN (hg.2.2.2.2.1 _), rfl, renum_re hre hN⟩
    · rw [if_neg hk, if_neg (fun z => hk (hkk.mp z))]
      exact Or.inl ⟨(by decide : isErr (-10001)), rfl⟩
  · rw [if_neg (by decide : ¬ (3 : Int32) = 0), if_neg (by decide : ¬ (3 : Int32) = 1), if_neg (by decide : ¬ (3 : Int32) = 2), if_pos rfl, if_neg (by decide : ¬ (3 : Int32) = 0), if_neg (by decide : ¬ (3 : Int32) = 1), if_neg (by decide : ¬ (3 : Int32) = 2), if_pos rfl]
    obtain ⟨t, ht, rfl⟩ := i32_in (n := 20) (by omega) h2 (by omega)
    have hcl : (nI t).toNatClampNeg = t := nI_clamp (by omega)
    rw [nI_toInt (by omega)] at h1
    have hb9 := beat_re hre t
    refine ⟨?_, fun z => absurd z (by decide), fun z => absurd z (by decide), fun _ => ⟨t, by omega, rfl, hb9.2.1⟩, fun _ _ _ z => absurd rfl z⟩
    unfold beatR
    rw [hcl, if_pos ⟨by rw [Int32.le_iff_toInt_le, nI_toInt (by omega), i1_int]; omega, by rw [Int32.le_iff_toInt_le, nI_toInt (by omega), show (100 : Int32).toInt = 100 from by decide]; omega⟩]
    exact Or.inr ⟨nErr (by have := fmo8_lt (sBs (beatN σ t)); omega), rfl, hb9.1⟩
  · have hse := (hs.resolve_left (by decide)).resolve_left (by decide)
    subst hse
    rw [if_neg (by decide : ¬ (4 : Int32) = 0), if_neg (by decide : ¬ (4 : Int32) = 1), if_neg (by decide : ¬ (4 : Int32) = 2), if_neg (by decide : ¬ (4 : Int32) = 3), if_pos rfl, if_neg (by decide : ¬ (4 : Int32) = 0), if_neg (by decide : ¬ (4 : Int32) = 1), if_neg (by decide : ¬ (4 : Int32) = 2), if_neg (by decide : ¬ (4 : Int32) = 3)]
    obtain ⟨j, hj, rfl⟩ := i32_in (n := 7) h1 h2 (by omega)
    obtain ⟨w, hw, rfl⟩ := i32_in (n := 9) h3 h4 (by omega)
    have hcl : (nI j).toNatClampNeg = j := nI_clamp (by omega)
    refine ⟨?_, fun z => absurd z (by decide), fun z => absurd z (by decide), fun z => absurd z (by decide), fun _ _ _ _ => ⟨j, by omega, rfl⟩⟩
    unfold windR
    have hW9 := wind_re hre (j := j) (w := w) (by omega)
    rw [hcl, if_pos ⟨nI_pos' (by omega), by rw [Int32.lt_iff_toInt_lt, nI_toInt (by omega)]; show (j : Int) < 8; omega⟩, if_pos ⟨nI_pos' (by omega), by rw [Int32.le_iff_toInt_le, nI_toInt (by omega)]; show (w : Int) ≤ 9; omega⟩]
    by_cases he : sWi σ j = nI w
    · rw [if_pos he]
      refine Or.inr ⟨(by decide : ¬ isErr (-10005)), rfl, ?_⟩
      have h7 : pWi σ j (nI w) = σ := by
        show (sNu σ, sSt σ, sHt σ, sFr σ, sRe σ, sCu σ, upd (sWi σ) j (nI w), sCf σ, sBs σ, sRs σ, sCh σ, sSi σ) = σ
        rw [updI he]
        rfl
      rw [h7] at hW9
      exact hW9
    · rw [if_neg he]
      refine Or.inr ⟨?_, rfl, hW9⟩
      obtain ⟨w2, hw2, ew2⟩ := hg.2.2.2.2.2.1 j
      rw [ew2]
      exact nErr (by omega)
