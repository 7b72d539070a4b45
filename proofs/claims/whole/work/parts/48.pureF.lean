/-! PURE F: numbers and words of a text, side by side -/
def txE (tx sg : F) (n : Nat) : Prop := ∀ p, p < n → sg p = tx p ∧ 0 ≤ (tx p).toInt
theorem i32_eq {x y : Int32} (h : x.toInt = y.toInt) : x = y := Int32.toInt_inj.mp h
theorem here_eq {tx sg : F} {n p : Nat} {c : Int32} (hx : txE tx sg n) (hc : ¬ c = -1) : here tx n p c c ↔ sgA sg n p = c := by
  unfold sgA
  constructor
  · rintro ⟨h1, h2, h3⟩
    rw [if_pos h1, (hx p h1).1]
    rw [Int32.le_iff_toInt_le] at h2 h3
    exact i32_eq (by omega)
  · intro h
    split at h
    · rename_i h1
      rw [(hx p h1).1] at h
      exact ⟨h1, by rw [h]; exact Int32.le_refl _, by rw [h]; exact Int32.le_refl _⟩
    · exact absurd h.symm hc
theorem i48_int : (48 : Int32).toInt = 48 := by decide
theorem i57_int : (57 : Int32).toInt = 57 := by decide
theorem dg_yes {tx sg : F} {n p : Nat} (hx : txE tx sg n) (h : here tx n p 48 57) : dgA sg n p = tx p - 48 ∧ (dgA sg n p).toInt = (tx p).toInt - 48 ∧ 48 ≤ (tx p).toInt ∧ (tx p).toInt ≤ 57 := by
  obtain ⟨h1, h2, h3⟩ := h
  have h4 : sgA sg n p = tx p := by unfold sgA; rw [if_pos h1, (hx p h1).1]
  have h5 : dgA sg n p = tx p - 48 := by unfold dgA; rw [h4, if_pos ⟨h2, h3⟩]
  rw [Int32.le_iff_toInt_le, i48_int] at h2
  rw [Int32.le_iff_toInt_le, i57_int] at h3
  refine ⟨h5, ?_, h2, h3⟩
  rw [h5, sub_int (by omega) (by rw [i48_int]; omega), i48_int]
theorem dg_no {tx sg : F} {n p : Nat} (hx : txE tx sg n) (h : ¬ here tx n p 48 57) : dgA sg n p = -1 := by
  unfold dgA
  refine if_neg (fun z => h ?_)
  by_cases h1 : p < n
  · have h4 : sgA sg n p = tx p := by unfold sgA; rw [if_pos h1, (hx p h1).1]
    rw [h4] at z
    exact ⟨h1, z.1, z.2⟩
  · have h4 : sgA sg n p = -1 := by unfold sgA; rw [if_neg h1]
    rw [h4] at z
    exact absurd z.1 (by decide)
theorem mul10 {v : Int32} (h : 0 ≤ v.toInt ∧ v.toInt ≤ 999) : (v * 10).toInt = v.toInt * 10 := by
  rw [Int32.toInt_mul, show (10 : Int32).toInt = 10 from by decide]
  exact Int.bmod_eq_of_le (by omega) (by omega)
theorem rnL_eq {tx sg : F} {n : Nat} {most : Int32} (hx : txE tx sg n) (hm : most.toInt ≤ 999) : ∀ f f2 v p, n - p ≤ f → n - p ≤ f2 → 0 ≤ v.toInt → v.toInt ≤ 999 → rnL tx n most f v p = snL sg n most f2 v p ∧ v.toInt ≤ (snL sg n most f2 v p).1.toInt ∧ (v.toInt ≤ most.toInt → (snL sg n most f2 v p).1.toInt ≤ most.toInt) := by
  intro f
  have out : ∀ f2 v p, ¬ here tx n p 48 57 → snL sg n most f2 v p = (v, p) := by
    intro f2 v p h
    cases f2 with
    | zero => rfl
    | succ f2 => rw [snL, if_neg (fun z => z.2.1 (dg_no hx h))]
  induction f with
  | zero =>
    intro f2 v p h1 h2 h3 h4
    have hn : ¬ here tx n p 48 57 := fun z => by have := z.1; omega
    rw [out f2 v p hn]
    exact ⟨rfl, Int.le_refl _, fun h => h⟩
  | succ f ih =>
    intro f2 v p h1 h2 h3 h4
    by_cases hn : here tx n p 48 57
    · cases f2 with
      | zero => have := hn.1; omega
      | succ f2 =>
        obtain ⟨d1, d2, d3, d4⟩ := dg_yes hx hn
        have e1 : 10 * v + tx p - 48 = v * 10 + dgA sg n p := by
          rw [d1, Int32.mul_comm, Int32.sub_eq_add_neg, Int32.sub_eq_add_neg, Int32.add_assoc]
        have e2 : (v * 10 + dgA sg n p).toInt = v.toInt * 10 + ((tx p).toInt - 48) := by
          have h9 := mul10 ⟨h3, h4⟩
          rw [add_int (by omega) (by omega), h9, d2]
        have hv : 0 < v ↔ ¬ v = 0 := by
          rw [Int32.lt_iff_toInt_lt, i0_int]
          constructor
          · intro z y; rw [y, i0_int] at z; omega
          · intro z
            rcases Int.lt_or_eq_of_le h3 with h9 | h9
            · exact h9
            · exact absurd (i32_eq (by rw [i0_int]; exact h9.symm)) z
        have hd : ¬ dgA sg n p = -1 := fun z => by rw [z, im1_int] at d2; omega
        rw [rnL, snL, e1]
        by_cases hc : ¬ v = 0 ∧ v * 10 + dgA sg n p ≤ most
        · rw [if_pos ⟨hv.mpr hc.1, hn, hc.2⟩, if_pos ⟨hc.1, hd, hc.2⟩]
          have h9 := hc.2
          rw [Int32.le_iff_toInt_le, e2] at h9
          have h8 := hn.1
          obtain ⟨r1, r2, r3⟩ := ih f2 (v * 10 + dgA sg n p) (p + 1) (by omega) (by omega) (by omega) (by omega)
          exact ⟨r1, by omega, fun _ => r3 (by omega)⟩
        · rw [if_neg (fun z => hc ⟨hv.mp z.1, z.2.2⟩), if_neg (fun z => hc ⟨z.1, z.2.2⟩)]
          exact ⟨rfl, Int.le_refl _, fun h => h⟩
    · rw [out f2 v p hn, rnL, if_neg (fun z => hn z.2.1)]
      exact ⟨rfl, Int.le_refl _, fun h => h⟩
theorem neg_int {x : Int32} (h : 0 ≤ x.toInt ∧ x.toInt ≤ 999) : (-x).toInt = -x.toInt := by
  rw [Int32.toInt_neg]
  exact Int.bmod_eq_of_le (by omega) (by omega)
/-- the same answer, the same place, and where it is one the same number, in its range -/
def R3e (lo hi : Int) (a b : R3) : Prop := a.1 = b.1 ∧ a.2.1 = b.2.1 ∧ (a.1 = true → a.2.2 = b.2.2 ∧ lo ≤ a.2.2.toInt ∧ a.2.2.toInt ≤ hi)
theorem R3e_f {lo hi : Int} {p : Nat} {x y : Int32} : R3e lo hi (false, p, x) (false, p, y) := ⟨rfl, rfl, fun z => by cases z⟩
theorem rnD_eq {tx sg : F} {n p : Nat} {neg : Bool} {low l most nu nu2 : Int32} (hx : txE tx sg n) (hn : n ≤ 80) (hm : most.toInt ≤ 999) (hl : low.toInt = 48 ∧ neg = false ∧ l.toInt ≤ 0 ∨ low.toInt = 49 ∧ (neg = true ∧ l.toInt ≤ 0 ∨ neg = false ∧ l.toInt = 1)) : R3e (if neg = true then -999 else if l.toInt = 1 then 1 else 0) (if neg = true then 0 else most.toInt) (rnD tx n neg low most p nu) (snD sg n neg l most p nu2) := by
  unfold rnD snD
  by_cases hh : here tx n p 48 57
  · obtain ⟨d1, d2, d3, d4⟩ := dg_yes hx hh
    have hd : ¬ dgA sg n p = -1 := fun z => by rw [z, im1_int] at d2; omega
    have h0 : dgA sg n p = 0 ↔ (tx p).toInt = 48 := by
      constructor
      · intro z; rw [z, i0_int] at d2; omega
      · intro z; exact i32_eq (by rw [d2, i0_int]; omega)
    have hc : (here tx n p low 57 ∧ tx p - 48 ≤ most) ↔ (¬ dgA sg n p = -1 ∧ ¬ dgA sg n p < l ∧ ¬ most < dgA sg n p ∧ ¬ (neg = true ∧ dgA sg n p = 0)) := by
      have hlow : here tx n p low 57 ↔ low.toInt ≤ (tx p).toInt := by
        constructor
        · intro z; exact Int32.le_iff_toInt_le.mp z.2.1
        · intro z; exact ⟨hh.1, Int32.le_iff_toInt_le.mpr z, hh.2.2⟩
      rw [hlow, h0, ← d1, Int32.lt_iff_toInt_lt, Int32.lt_iff_toInt_lt, Int32.le_iff_toInt_le, d2]
      rcases hl with ⟨a1, a2, a3⟩ | ⟨a1, ⟨a2, a3⟩ | ⟨a2, a3⟩⟩
      · rw [a2]
        constructor
        · intro z; exact ⟨hd, by omega, by omega, fun y => by cases y.1⟩
        · intro z; exact ⟨by omega, by omega⟩
      · rw [a2]
        constructor
        · intro z; exact ⟨hd, by omega, by omega, fun y => by omega⟩
        · intro z
          have := z.2.2.2
          have h9 : ¬ (tx p).toInt = 48 := fun y => this ⟨rfl, y⟩
          exact ⟨by omega, by omega⟩
      · rw [a2]
        constructor
        · intro z; exact ⟨hd, by omega, by omega, fun y => by cases y.1⟩
        · intro z; exact ⟨by omega, by omega⟩
    by_cases hq : here tx n p low 57 ∧ tx p - 48 ≤ most
    · rw [if_pos hq.1, if_pos hq.2, if_pos (hc.mp hq)]
      have h7 := hq.2
      rw [← d1, Int32.le_iff_toInt_le] at h7
      obtain ⟨r1, r2, r3⟩ := rnL_eq (most := most) hx hm (n - (p + 1)) 80 (tx p - 48) (p + 1) (Nat.le_refl _) (by omega) (by rw [← d1]; omega) (by rw [← d1]; omega)
      rw [← d1] at r1 r2 r3 ⊢
      rw [r1]
      have h8 := r3 h7
      refine ⟨rfl, rfl, fun _ => ⟨rfl, ?_⟩⟩
      rcases hl with ⟨a1, a2, a3⟩ | ⟨a1, ⟨a2, a3⟩ | ⟨a2, a3⟩⟩
      · subst a2
        show (if l.toInt = 1 then 1 else 0) ≤ (snL sg n most 80 (dgA sg n p) (p + 1)).1.toInt ∧ (snL sg n most 80 (dgA sg n p) (p + 1)).1.toInt ≤ most.toInt
        rw [if_neg (by omega)]
        exact ⟨by omega, h8⟩
      · subst a2
        show -999 ≤ (-(snL sg n most 80 (dgA sg n p) (p + 1)).1).toInt ∧ (-(snL sg n most 80 (dgA sg n p) (p + 1)).1).toInt ≤ 0
        rw [neg_int ⟨by omega, by omega⟩]
        omega
      · subst a2
        show (if l.toInt = 1 then 1 else 0) ≤ (snL sg n most 80 (dgA sg n p) (p + 1)).1.toInt ∧ (snL sg n most 80 (dgA sg n p) (p + 1)).1.toInt ≤ most.toInt
        rw [if_pos a3]
        have h9 : 49 ≤ (tx p).toInt := by
          have := Int32.le_iff_toInt_le.mp hq.1.2.1
          omega
        exact ⟨by omega, h8⟩
    · rw [if_neg (fun z => hq (hc.mpr z))]
      by_cases h9 : here tx n p low 57
      · rw [if_pos h9, if_neg (fun z => hq ⟨h9, z⟩)]; exact R3e_f
      · rw [if_neg h9]; exact R3e_f
  · have hd := dg_no hx hh
    have h9 : ¬ here tx n p low 57 := fun z => hh ⟨z.1, by
      have := Int32.le_iff_toInt_le.mp z.2.1
      rw [Int32.le_iff_toInt_le, i48_int]
      rcases hl with ⟨a1, -⟩ | ⟨a1, -⟩ <;> omega, z.2.2⟩
    have hz : ¬ (¬ dgA sg n p = -1 ∧ ¬ dgA sg n p < l ∧ ¬ most < dgA sg n p ∧ ¬ (neg = true ∧ dgA sg n p = 0)) := fun z => z.1 hd
    rw [if_neg h9, if_neg hz]
    exact R3e_f
theorem R3e_w {lo hi lo2 hi2 : Int} {a b : R3} (h : R3e lo hi a b) (h1 : lo2 ≤ lo) (h2 : hi ≤ hi2) : R3e lo2 hi2 a b := ⟨h.1, h.2.1, fun z => ⟨(h.2.2 z).1, by have := (h.2.2 z).2; omega⟩⟩
/-- a number from 0 or 1 on -/
theorem rnR_eq {tx sg : F} {n p : Nat} {l t nu nu2 : Int32} (hx : txE tx sg n) (hn : n ≤ 80) (hm : t.toInt ≤ 999) (hl : l.toInt = 0 ∨ l.toInt = 1) : R3e l.toInt t.toInt (rnR tx n l t p nu) (snR sg n l t p nu2) := by
  unfold rnR snR
  have h32 := here_eq (p := p) (c := 32) hx (by decide)
  have hl0 : ¬ l < 0 := by rw [Int32.lt_iff_toInt_lt, i0_int]; omega
  by_cases h : sgA sg n p = 32
  · rw [if_pos (h32.mpr h), if_pos h, if_neg hl0, if_neg hl0]
    rcases hl with a1 | a1
    · rw [if_neg (by rw [Int32.lt_iff_toInt_lt, i0_int]; omega)]
      have h9 := rnD_eq (p := p + 1) (neg := false) (low := 48) (l := l) (most := t) (nu := nu) (nu2 := nu2) hx hn hm (Or.inl ⟨by decide, rfl, by omega⟩)
      exact R3e_w h9 (by rw [if_neg Bool.false_ne_true, if_neg (by omega)]; omega) (by rw [if_neg Bool.false_ne_true]; exact Int.le_refl _)
    · rw [if_pos (by rw [Int32.lt_iff_toInt_lt, i0_int]; omega)]
      have h9 := rnD_eq (p := p + 1) (neg := false) (low := 49) (l := l) (most := t) (nu := nu) (nu2 := nu2) hx hn hm (Or.inr ⟨by decide, Or.inr ⟨rfl, a1⟩⟩)
      exact R3e_w h9 (by rw [if_neg Bool.false_ne_true, if_pos a1]; omega) (by rw [if_neg Bool.false_ne_true]; exact Int.le_refl _)
  · rw [if_neg (fun z => h (h32.mp z)), if_neg h]
    exact R3e_f
theorem rnR_eqN {tx sg : F} {n p : Nat} {nu nu2 : Int32} (hx : txE tx sg n) (hn : n ≤ 80) : R3e (-999) 999 (rnR tx n (-999) 999 p nu) (snR sg n (-999) 999 p nu2) := by
  unfold rnR snR
  have h32 := here_eq (p := p) (c := 32) hx (by decide)
  have h45 := here_eq (p := p + 1) (c := 45) hx (by decide)
  by_cases h : sgA sg n p = 32
  · have hm9 : (-999 : Int32) < 0 := by decide
    have hn9 : ¬ (0 : Int32) < -999 := by decide
    rw [if_pos (h32.mpr h), if_pos h, if_pos hm9, if_pos hm9, show -(-999 : Int32) = 999 from by decide]
    by_cases h2 : sgA sg n (p + 1) = 45
    · rw [if_pos (h45.mpr h2), if_pos h2]
      have h9 := rnD_eq (p := p + 2) (neg := true) (low := 49) (l := -999) (most := 999) (nu := nu) (nu2 := nu2) hx hn (by decide) (Or.inr ⟨by decide, Or.inl ⟨rfl, by decide⟩⟩)
      exact R3e_w h9 (by rw [if_pos rfl]; omega) (by rw [if_pos rfl]; omega)
    · rw [if_neg (fun z => h2 (h45.mp z)), if_neg h2, if_neg hn9]
      have h9 := rnD_eq (p := p + 1) (neg := false) (low := 48) (l := -999) (most := 999) (nu := nu) (nu2 := nu2) hx hn (by decide) (Or.inl ⟨by decide, rfl, by decide⟩)
      exact R3e_w h9 (by rw [if_neg Bool.false_ne_true, if_neg (by decide)]; omega) (by rw [if_neg Bool.false_ne_true, i999_int]; exact Int.le_refl _)
  · rw [if_neg (fun z => h (h32.mp z)), if_neg h]
    exact R3e_f
/-! words -/
theorem rl_1 {tx sg : F} {n : Nat} {c : Int32} {cs : List Int32} {p : Nat} (hx : txE tx sg n) (hc : ¬ c = -1) (h0 : ¬ c = 0) : rlP tx n (c :: cs) p = if sgA sg n p = c then rlP tx n cs (p + 1) else (false, p) := by
  rw [rlP, if_neg h0]
  by_cases h : sgA sg n p = c
  · rw [if_pos h, if_pos ((here_eq hx hc).mpr h)]
  · rw [if_neg h, if_neg (fun z => h ((here_eq hx hc).mp z))]
theorem rl_0 {tx : F} {n : Nat} {cs : List Int32} {p : Nat} : rlP tx n (0 :: cs) p = rlP tx n cs p := by rw [rlP, if_pos rfl]
theorem al_0 {sg : F} {n p : Nat} : alk sg n p 0 = if sgA sg n p = 102 then (if sgA sg n (p + 1) = 108 then (if sgA sg n (p + 2) = 121 then 3 else 2) else 1) else 0 := rfl
theorem al_1 {sg : F} {n p : Nat} : alk sg n p 1 = if sgA sg n p = 114 then (if sgA sg n (p + 1) = 101 then (if sgA sg n (p + 2) = 97 then (if sgA sg n (p + 3) = 100 then 4 else 3) else 2) else 1) else 0 := rfl
theorem al_2 {sg : F} {n p : Nat} : alk sg n p 2 = if sgA sg n p = 119 then (if sgA sg n (p + 1) = 114 then (if sgA sg n (p + 2) = 105 then (if sgA sg n (p + 3) = 116 then (if sgA sg n (p + 4) = 101 then 5 else 4) else 3) else 2) else 1) else 0 := rfl
theorem al_3 {sg : F} {n p : Nat} : alk sg n p 3 = if sgA sg n p = 98 then (if sgA sg n (p + 1) = 101 then (if sgA sg n (p + 2) = 97 then (if sgA sg n (p + 3) = 116 then 4 else 3) else 2) else 1) else 0 := rfl
theorem al_4 {sg : F} {n p : Nat} : alk sg n p 4 = if sgA sg n p = 119 then (if sgA sg n (p + 1) = 105 then (if sgA sg n (p + 2) = 110 then (if sgA sg n (p + 3) = 100 then 4 else 3) else 2) else 1) else 0 := rfl
/-- the model's word: ok, place, command -/
def mwR (tx : F) (n p : Nat) : Bool × Nat × Int32 :=
  if here tx n p 102 102 then ((rlP tx n [0, 0, 0, 108, 121] (p + 1)).1, (rlP tx n [0, 0, 0, 108, 121] (p + 1)).2, 0) else
  if here tx n p 114 114 then ((rlP tx n [0, 0, 101, 97, 100] (p + 1)).1, (rlP tx n [0, 0, 101, 97, 100] (p + 1)).2, 1) else
  if here tx n p 98 98 then ((rlP tx n [0, 0, 101, 97, 116] (p + 1)).1, (rlP tx n [0, 0, 101, 97, 116] (p + 1)).2, 3) else
  if here tx n p 119 119 then (if here tx n (p + 1) 114 114 then ((rlP tx n [0, 114, 105, 116, 101] (p + 1)).1, (rlP tx n [0, 114, 105, 116, 101] (p + 1)).2, 2) else ((rlP tx n [0, 0, 105, 110, 100] (p + 1)).1, (rlP tx n [0, 0, 105, 110, 100] (p + 1)).2, 4)) else
  (false, p, 0)
theorem swQ_5 {sg : F} {n p : Nat} {vb : Int32} : swR sg n p vb = if alk sg n p 0 = 3 then (true, p + alk sg n p 0, nI 0) else if alk sg n p 1 = 4 then (true, p + alk sg n p 1, nI 1) else if alk sg n p 2 = 5 then (true, p + alk sg n p 2, nI 2) else if alk sg n p 3 = 4 then (true, p + alk sg n p 3, nI 3) else if alk sg n p 4 = 4 then (true, p + alk sg n p 4, nI 4) else (false, p + max (max (max (max (max 0 (alk sg n p 0)) (alk sg n p 1)) (alk sg n p 2)) (alk sg n p 3)) (alk sg n p 4), vb) := rfl
theorem word_eq {tx sg : F} {n p : Nat} {vb : Int32} (hx : txE tx sg n) : (mwR tx n p).1 = (swR sg n p vb).1 ∧ (mwR tx n p).2.1 = (swR sg n p vb).2.1 ∧ ((mwR tx n p).1 = true → (mwR tx n p).2.2 = (swR sg n p vb).2.2) := by
  rw [swQ_5, al_0, al_1, al_2, al_3, al_4]
  unfold mwR
  have q102 := here_eq (p := p) (c := 102) hx (by decide)
  have q114 := here_eq (p := p) (c := 114) hx (by decide)
  have q98 := here_eq (p := p) (c := 98) hx (by decide)
  have q119 := here_eq (p := p) (c := 119) hx (by decide)
  have r114 := here_eq (p := p + 1) (c := 114) hx (by decide)
  have l1 : rlP tx n [0, 0, 0, 108, 121] (p + 1) = if sgA sg n (p + 1) = 108 then (if sgA sg n (p + 2) = 121 then (true, p + 3) else (false, p + 2)) else (false, p + 1) := by
    rw [rl_0, rl_0, rl_0, rl_1 hx (by decide) (by decide), rl_1 hx (by decide) (by decide)]; rfl
  have l2 : rlP tx n [0, 0, 101, 97, 100] (p + 1) = if sgA sg n (p + 1) = 101 then (if sgA sg n (p + 2) = 97 then (if sgA sg n (p + 3) = 100 then (true, p + 4) else (false, p + 3)) else (false, p + 2)) else (false, p + 1) := by
    rw [rl_0, rl_0, rl_1 hx (by decide) (by decide), rl_1 hx (by decide) (by decide), rl_1 hx (by decide) (by decide)]; rfl
  have l3 : rlP tx n [0, 0, 101, 97, 116] (p + 1) = if sgA sg n (p + 1) = 101 then (if sgA sg n (p + 2) = 97 then (if sgA sg n (p + 3) = 116 then (true, p + 4) else (false, p + 3)) else (false, p + 2)) else (false, p + 1) := by
    rw [rl_0, rl_0, rl_1 hx (by decide) (by decide), rl_1 hx (by decide) (by decide), rl_1 hx (by decide) (by decide)]; rfl
  have l4 : rlP tx n [0, 114, 105, 116, 101] (p + 1) = if sgA sg n (p + 1) = 114 then (if sgA sg n (p + 2) = 105 then (if sgA sg n (p + 3) = 116 then (if sgA sg n (p + 4) = 101 then (true, p + 5) else (false, p + 4)) else (false, p + 3)) else (false, p + 2)) else (false, p + 1) := by
    rw [rl_0, rl_1 hx (by decide) (by decide), rl_1 hx (by decide) (by decide), rl_1 hx (by decide) (by decide), rl_1 hx (by decide) (by decide)]; rfl
  have l5 : rlP tx n [0, 0, 105, 110, 100] (p + 1) = if sgA sg n (p + 1) = 105 then (if sgA sg n (p + 2) = 110 then (if sgA sg n (p + 3) = 100 then (true, p + 4) else (false, p + 3)) else (false, p + 2)) else (false, p + 1) := by
    rw [rl_0, rl_0, rl_1 hx (by decide) (by decide), rl_1 hx (by decide) (by decide), rl_1 hx (by decide) (by decide)]; rfl
  have ne : ∀ a b : Int32, sgA sg n p = a → ¬ a = b → ¬ sgA sg n p = b := fun a b h h9 z => h9 (h.symm.trans z)
  by_cases c1 : sgA sg n p = 102
  · rw [if_pos (q102.mpr c1), if_pos c1, if_neg (ne _ 114 c1 (by decide)), if_neg (ne _ 119 c1 (by decide)), if_neg (ne _ 98 c1 (by decide)), if_neg (ne _ 119 c1 (by decide)), l1]
    by_cases d1 : sgA sg n (p + 1) = 108
    · by_cases d2 : sgA sg n (p + 2) = 121
      · simp only [if_pos d1, if_pos d2]; exact ⟨rfl, rfl, fun _ => rfl⟩
      · simp only [if_pos d1, if_neg d2]; exact ⟨rfl, rfl, fun z => by cases z⟩
    · simp only [if_neg d1]; exact ⟨rfl, rfl, fun z => by cases z⟩
  rw [if_neg (fun z => c1 (q102.mp z)), if_neg c1]
  by_cases c2 : sgA sg n p = 114
  · rw [if_pos (q114.mpr c2), if_pos c2, if_neg (ne _ 119 c2 (by decide)), if_neg (ne _ 98 c2 (by decide)), if_neg (ne _ 119 c2 (by decide)), l2]
    by_cases d1 : sgA sg n (p + 1) = 101
    · by_cases d2 : sgA sg n (p + 2) = 97
      · by_cases d3 : sgA sg n (p + 3) = 100
        · simp only [if_pos d1, if_pos d2, if_pos d3]; exact ⟨rfl, rfl, fun _ => rfl⟩
        · simp only [if_pos d1, if_pos d2, if_neg d3]; exact ⟨rfl, rfl, fun z => by cases z⟩
      · simp only [if_pos d1, if_neg d2]; exact ⟨rfl, rfl, fun z => by cases z⟩
    · simp only [if_neg d1]; exact ⟨rfl, rfl, fun z => by cases z⟩
  rw [if_neg (fun z => c2 (q114.mp z)), if_neg c2]
  by_cases c3 : sgA sg n p = 98
  · rw [if_pos (q98.mpr c3), if_neg (ne _ 119 c3 (by decide)), if_pos c3, if_neg (ne _ 119 c3 (by decide)), l3]
    by_cases d1 : sgA sg n (p + 1) = 101
    · by_cases d2 : sgA sg n (p + 2) = 97
      · by_cases d3 : sgA sg n (p + 3) = 116
        · simp only [if_pos d1, if_pos d2, if_pos d3]; exact ⟨rfl, rfl, fun _ => rfl⟩
        · simp only [if_pos d1, if_pos d2, if_neg d3]; exact ⟨rfl, rfl, fun z => by cases z⟩
      · simp only [if_pos d1, if_neg d2]; exact ⟨rfl, rfl, fun z => by cases z⟩
    · simp only [if_neg d1]; exact ⟨rfl, rfl, fun z => by cases z⟩
  rw [if_neg (fun z => c3 (q98.mp z)), if_neg c3]
  by_cases c4 : sgA sg n p = 119
  · rw [if_pos (q119.mpr c4), if_pos c4, if_pos c4]
    by_cases d1 : sgA sg n (p + 1) = 114
    · have d9 : ¬ sgA sg n (p + 1) = 105 := fun z => by rw [d1] at z; exact absurd z (by decide)
      rw [if_pos (r114.mpr d1), if_pos d1, if_neg d9, l4, if_pos d1]
      by_cases d2 : sgA sg n (p + 2) = 105
      · by_cases d3 : sgA sg n (p + 3) = 116
        · by_cases d4 : sgA sg n (p + 4) = 101
          · simp only [if_pos d2, if_pos d3, if_pos d4]; exact ⟨rfl, rfl, fun _ => rfl⟩
          · simp only [if_pos d2, if_pos d3, if_neg d4]; exact ⟨rfl, rfl, fun z => by cases z⟩
        · simp only [if_pos d2, if_neg d3]; exact ⟨rfl, rfl, fun z => by cases z⟩
      · simp only [if_neg d2]; exact ⟨rfl, rfl, fun z => by cases z⟩
    · rw [if_neg (fun z => d1 (r114.mp z)), if_neg d1, l5]
      by_cases d2 : sgA sg n (p + 1) = 105
      · by_cases d3 : sgA sg n (p + 2) = 110
        · by_cases d4 : sgA sg n (p + 3) = 100
          · simp only [if_pos d2, if_pos d3, if_pos d4]; exact ⟨rfl, rfl, fun _ => rfl⟩
          · simp only [if_pos d2, if_pos d3, if_neg d4]; exact ⟨rfl, rfl, fun z => by cases z⟩
        · simp only [if_pos d2, if_neg d3]; exact ⟨rfl, rfl, fun z => by cases z⟩
      · simp only [if_neg d2]; exact ⟨rfl, rfl, fun z => by cases z⟩
  rw [if_neg (fun z => c4 (q119.mp z)), if_neg c4, if_neg c4]
  exact ⟨rfl, rfl, fun z => by cases z⟩
