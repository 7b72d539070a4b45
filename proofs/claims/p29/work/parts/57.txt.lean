/-! PURE: texts that are typed, and what perform makes of them -/
theorem apS_lo : ∀ (l : List Int32) (sg : F) (n p : Nat), p < n → apS sg n l p = sg p
  | [], _, _, _, _ => rfl
  | c :: l, sg, n, p, h => by
    show apS (upd sg n c) (n + 1) l p = sg p
    rw [apS_lo l _ _ _ (by omega), pk_un (by omega)]
theorem apS_at : ∀ (l : List Int32) (sg : F) (n j : Nat), j < l.length → apS sg n l (n + j) = l.getD j (-1)
  | [], _, _, j, h => absurd h (Nat.not_lt_zero j)
  | c :: l, sg, n, 0, _ => by
    show apS (upd sg n c) (n + 1) l n = c
    rw [apS_lo l _ _ _ (by omega), pk_us]
  | c :: l, sg, n, j + 1, h => by
    show apS (upd sg n c) (n + 1) l (n + (j + 1)) = l.getD j (-1)
    rw [show n + (j + 1) = n + 1 + j from by omega]
    exact apS_at l _ _ j (Nat.lt_of_succ_lt_succ h)
theorem sgA_tx {κ : KSt} {l : List Int32} (p : Nat) : sgA (kjg (txA κ l)) (kjn (txA κ l)) p = l.getD p (-1) := by
  show (if p < l.length then apS (kjg κ) 0 l p else -1) = l.getD p (-1)
  by_cases h : p < l.length
  · rw [if_pos h]
    have := apS_at l (kjg κ) 0 p h
    rw [Nat.zero_add] at this
    exact this
  · rw [if_neg h, List.getD_eq_getElem?_getD, List.getElem?_eq_none (Nat.not_lt.mp h)]
    rfl
/-- a number's digits -/
def dgs (m : Nat) : List Int32 := if m < 10 then [nI (48 + m)] else if m < 100 then [nI (48 + m / 10), nI (48 + m % 10)] else [nI (48 + m / 100), nI (48 + m / 10 % 10), nI (48 + m % 10)]
theorem chW_n {q : Nat} (h : q < 1000) : chW (48 + nI q) = nI (48 + q) := by
  show ((48 + nI q).toUInt32 % 65536).toInt32 = _
  rw [show (48 : Int32) = nI 48 from rfl, nI_add, pk_char, pk_tn (by omega), Nat.mod_eq_of_lt (by omega)]
theorem dgs_abs {v : Int32} {m : Nat} (hm : m ≤ 999) (ha : absV v = nI m) : (if absV v < 100 then [] else [chW (48 + absV v / 100)]) ++ ((if absV v < 10 then [] else [chW (48 + (absV v / 10 - absV v / 10 / 10 * 10))]) ++ [chW (48 + (absV v - absV v / 10 * 10))]) = dgs m := by
  rw [ha, show (100 : Int32) = nI 100 from rfl, show (10 : Int32) = nI 10 from rfl, pk_div (by omega) (by omega) (by omega), pk_div (a := m) (d := 10) (by omega) (by omega) (by omega), pk_rem (a := m / 10) (by omega) (by omega) (by omega), pk_mul, pk_sub (by omega), show m - m / 10 * 10 = m % 10 from by omega, chW_n (by omega), chW_n (by omega), chW_n (by omega)]
  unfold dgs
  by_cases h1 : m < 10
  · rw [if_pos ((nI_ltI (by omega) (by omega)).mpr (show m < 100 by omega)), if_pos ((nI_ltI (by omega) (by omega)).mpr h1), if_pos h1, Nat.mod_eq_of_lt h1]
    rfl
  · rw [if_neg (fun z => h1 ((nI_ltI (by omega) (by omega)).mp z)), if_neg h1]
    by_cases h2 : m < 100
    · rw [if_pos ((nI_ltI (by omega) (by omega)).mpr h2), if_pos h2, Nat.mod_eq_of_lt (show m / 10 < 10 by omega)]
      rfl
    · rw [if_neg (fun z => h2 ((nI_ltI (by omega) (by omega)).mp z)), if_neg h2]
      rfl
theorem nuL_pos {m : Nat} (h : m ≤ 999) : nuL (nI m) = 32 :: dgs m := by
  have ha : absV (nI m) = nI m := if_neg (nI_pos (by omega))
  unfold nuL
  rw [if_neg (nI_pos (by omega)), dgs_abs h ha]
  rfl
theorem neg_int {x : Int32} (h : -1000 ≤ x.toInt ∧ x.toInt ≤ 1000) : (-x).toInt = -x.toInt := by
  rw [Int32.toInt_neg]
  exact Int.bmod_eq_of_le (by omega) (by omega)
theorem neg_neg9 (x : Int32) : - -x = x := by simp
theorem nuL_neg {m : Nat} (h1 : 1 ≤ m) (h : m ≤ 999) : nuL (-(nI m)) = 32 :: 45 :: dgs m := by
  have hl : -(nI m) < 0 := by
    rw [Int32.lt_iff_toInt_lt, neg_int (by rw [nI_toInt (by omega)]; omega), nI_toInt (by omega), i0_int]
    omega
  have ha : absV (-(nI m)) = nI m := by
    unfold absV
    rw [if_pos hl, neg_neg9]
  unfold nuL
  rw [if_pos hl, dgs_abs h ha]
  rfl
/-! scanning -/
section SC
variable {sg : F} {n : Nat}
theorem dgA_dig {p d : Nat} (hd : d ≤ 9) (h : sgA sg n p = nI (48 + d)) : dgA sg n p = nI d := by
  unfold dgA
  rw [h, show (48 : Int32) = nI 48 from rfl, show (57 : Int32) = nI 57 from rfl, if_pos ⟨(nI_leI (by omega) (by omega)).mpr (by omega), (nI_leI (by omega) (by omega)).mpr (by omega)⟩, pk_sub (by omega), show 48 + d - 48 = d from by omega]
/-- what is behind a number: a blank, or the end -/
def endC (sg : F) (n p : Nat) : Prop := sgA sg n p = 32 ∨ sgA sg n p = -1
theorem dgA_end {p : Nat} (h : endC sg n p) : dgA sg n p = -1 := by
  unfold dgA
  refine if_neg ?_
  rcases h with h | h <;> rw [h] <;> decide
theorem nI_m1 {d : Nat} (h : d < 2 ^ 30) : ¬ nI d = -1 := nI_nm1 (by omega)
theorem snL_end {lim : Int32} {f : Nat} {v : Int32} {p : Nat} (h : endC sg n p) : snL sg n lim (f + 1) v p = (v, p) := by
  rw [snL, if_neg (fun z => z.2.1 (dgA_end h))]
theorem snL_0 {lim : Int32} {f : Nat} {p : Nat} : snL sg n lim (f + 1) 0 p = (0, p) := by
  rw [snL, if_neg (fun z => z.1 rfl)]
theorem snL_st {f v d L p : Nat} (h : dgA sg n p = nI d) (hv : 0 < v) (hv2 : v < 1000) (hd : d ≤ 9) (hL : L < 1000) (hle : v * 10 + d ≤ L) : snL sg n (nI L) (f + 1) (nI v) p = snL sg n (nI L) f (nI (v * 10 + d)) (p + 1) := by
  rw [snL, h, show (10 : Int32) = nI 10 from rfl, pk_mul, nI_add, if_pos ⟨nI_ne0 hv (by omega), nI_m1 (by omega), (nI_leI (by omega) (by omega)).mpr hle⟩]
/-- the digits of m, from p on, and what is behind them -/
def hasD (sg : F) (n p m : Nat) : Prop := (∀ j, j < (dgs m).length → sgA sg n (p + j) = (dgs m).getD j (-1)) ∧ endC sg n (p + (dgs m).length)
theorem snL_num {p m L : Nat} (h : hasD sg n p m) (hm : m ≤ L) (hL : L < 1000) : ∃ d, d ≤ 9 ∧ d ≤ m ∧ (0 < m → 0 < d) ∧ (m = 0 → d = 0) ∧ dgA sg n p = nI d ∧ snL sg n (nI L) 80 (nI d) (p + 1) = (nI m, p + (dgs m).length) := by
  obtain ⟨h1, h2⟩ := h
  by_cases c1 : m < 10
  · have e9 : dgs m = [nI (48 + m)] := if_pos c1
    rw [e9] at h1 h2 ⊢
    have a0 := dgA_dig (d := m) (by omega) (h1 0 (Nat.le_of_ble_eq_true rfl))
    exact ⟨m, by omega, by omega, fun z => z, fun z => z, a0, snL_end h2⟩
  · by_cases c2 : m < 100
    · have e9 : dgs m = [nI (48 + m / 10), nI (48 + m % 10)] := by rw [dgs, if_neg c1, if_pos c2]
      rw [e9] at h1 h2 ⊢
      have a0 := dgA_dig (d := m / 10) (by omega) (h1 0 (Nat.le_of_ble_eq_true rfl))
      have a1 := dgA_dig (d := m % 10) (by omega) (h1 1 (Nat.le_of_ble_eq_true rfl))
      refine ⟨m / 10, by omega, by omega, fun z => by omega, fun z => by omega, a0, ?_⟩
      rw [snL_st a1 (by omega) (by omega) (by omega) hL (by omega), show m / 10 * 10 + m % 10 = m from by omega]
      exact snL_end h2
    · have e9 : dgs m = [nI (48 + m / 100), nI (48 + m / 10 % 10), nI (48 + m % 10)] := by rw [dgs, if_neg c1, if_neg c2]
      rw [e9] at h1 h2 ⊢
      have a0 := dgA_dig (d := m / 100) (by omega) (h1 0 (Nat.le_of_ble_eq_true rfl))
      have a1 := dgA_dig (d := m / 10 % 10) (by omega) (h1 1 (Nat.le_of_ble_eq_true rfl))
      have a2 := dgA_dig (d := m % 10) (by omega) (h1 2 (Nat.le_of_ble_eq_true rfl))
      refine ⟨m / 100, by omega, by omega, fun z => by omega, fun z => by omega, a0, ?_⟩
      rw [snL_st a1 (by omega) (by omega) (by omega) hL (by omega), snL_st (p := p + 1 + 1) a2 (by omega) (by omega) (by omega) hL (by omega), show (m / 100 * 10 + m / 10 % 10) * 10 + m % 10 = m from by omega]
      exact snL_end h2
theorem snD_pos {p m l L : Nat} {nu : Int32} (h : hasD sg n p m) (hl : l ≤ 1) (hlm : l ≤ m) (hm : m ≤ L) (hL : L < 1000) : snD sg n false (nI l) (nI L) p nu = (true, p + (dgs m).length, nI m) := by
  obtain ⟨d, d1, d2, d3, d4, a0, a1⟩ := snL_num h hm hL
  unfold snD
  rw [a0, a1, if_pos ⟨nI_m1 (by omega), nI_nlt (by omega) (by omega), nI_nlt (by omega) (by omega), fun z => absurd z.1 (by decide)⟩]
  rfl
theorem snD_sg {p m : Nat} {nu : Int32} (h : hasD sg n p m) (hm : m ≤ 999) : snD sg n false (-999) 999 p nu = (true, p + (dgs m).length, nI m) := by
  obtain ⟨d, d1, d2, d3, d4, a0, a1⟩ := snL_num (L := 999) h hm (by omega)
  unfold snD
  have hk : ¬ nI d < -999 := by
    rw [Int32.lt_iff_toInt_lt, nI_toInt (by omega), show (-999 : Int32).toInt = -999 from by decide]
    omega
  have hz : ¬ nI 999 < nI d := nI_nlt (by omega) (by omega)
  have a2 : snL sg n 999 80 (nI d) (p + 1) = (nI m, p + (dgs m).length) := a1
  rw [a0, a2, if_pos ⟨nI_m1 (by omega), hk, hz, fun z => absurd z.1 (by decide)⟩] <;> rfl
theorem snD_ng {p m : Nat} {nu : Int32} (h : hasD sg n p m) (h1 : 1 ≤ m) (hm : m ≤ 999) : snD sg n true (-999) (- -999) p nu = (true, p + (dgs m).length, -(nI m)) := by
  obtain ⟨d, d1, d2, d3, d4, a0, a1⟩ := snL_num (L := 999) h hm (by omega)
  unfold snD
  have hk : ¬ nI d < -999 := by
    rw [Int32.lt_iff_toInt_lt, nI_toInt (by omega), show (-999 : Int32).toInt = -999 from by decide]
    omega
  rw [show (- -999 : Int32) = nI 999 from by decide, a0, a1, if_pos ⟨nI_m1 (by omega), hk, nI_nlt (by omega) (by omega), fun z => nI_ne0 (d3 (by omega)) (by omega) z.2⟩] <;> rfl
/-- a blank and a number that may not be below 0 -/
theorem snR_pos {p m l L : Nat} {nu : Int32} (hb : sgA sg n p = 32) (h : hasD sg n (p + 1) m) (hl : l ≤ 1) (hlm : l ≤ m) (hm : m ≤ L) (hL : L < 1000) : snR sg n (nI l) (nI L) p nu = (true, p + 1 + (dgs m).length, nI m) := by
  unfold snR
  rw [if_pos hb, if_neg (nI_pos (by omega))]
  exact snD_pos h hl hlm hm hL
theorem dg0_45 {p m : Nat} (h : hasD sg n p m) (hm : m ≤ 999) : ¬ sgA sg n p = 45 := by
  have h0 : 0 < (dgs m).length := by
    unfold dgs
    split
    · exact Nat.le_of_ble_eq_true rfl
    · split <;> exact Nat.le_of_ble_eq_true rfl
  have h1 := h.1 0 h0
  rw [Nat.add_zero] at h1
  rw [h1]
  have key : ∃ d, d ≤ 9 ∧ (dgs m).getD 0 (-1) = nI (48 + d) := by
    unfold dgs
    split
    · exact ⟨m, by omega, rfl⟩
    · split
      · exact ⟨m / 10, by omega, rfl⟩
      · exact ⟨m / 100, by omega, rfl⟩
  obtain ⟨d, hd, e9⟩ := key
  rw [e9, show (45 : Int32) = nI 45 from rfl, nI_eq (by omega) (by omega)]
  omega
theorem snR_sg {p m : Nat} {nu : Int32} (hb : sgA sg n p = 32) (h : hasD sg n (p + 1) m) (hm : m ≤ 999) : snR sg n (-999) 999 p nu = (true, p + 1 + (dgs m).length, nI m) := by
  unfold snR
  rw [if_pos hb, if_pos (by decide), if_neg (dg0_45 h hm)]
  exact snD_sg h hm
theorem snR_ng {p m : Nat} {nu : Int32} (hb : sgA sg n p = 32) (hs : sgA sg n (p + 1) = 45) (h : hasD sg n (p + 2) m) (h1 : 1 ≤ m) (hm : m ≤ 999) : snR sg n (-999) 999 p nu = (true, p + 2 + (dgs m).length, -(nI m)) := by
  unfold snR
  rw [if_pos hb, if_pos (by decide), if_pos hs]
  exact snD_ng h h1 hm
end SC
/-! a text's words -/
theorem gA1 {a b : List Int32} : ∀ {j : Nat}, j < a.length → (a ++ b).getD j (-1) = a.getD j (-1) := by
  intro j h
  rw [List.getD_eq_getElem?_getD, List.getD_eq_getElem?_getD, List.getElem?_append_left h]
theorem gA2 {a b : List Int32} (j : Nat) : (a ++ b).getD (a.length + j) (-1) = b.getD j (-1) := by
  rw [List.getD_eq_getElem?_getD, List.getD_eq_getElem?_getD, List.getElem?_append_right (by omega), show a.length + j - a.length = j from by omega]
theorem gA3 {a : List Int32} : a.getD a.length (-1) = -1 := by
  rw [List.getD_eq_getElem?_getD, List.getElem?_eq_none (Nat.le_refl _)]
  rfl
/-- the signs l stand from p on, a blank or the end behind them -/
def hasN (sg : F) (n p : Nat) (l : List Int32) : Prop := (∀ j, j < l.length → sgA sg n (p + j) = l.getD j (-1)) ∧ endC sg n (p + l.length)
section WD
variable {sg : F} {n : Nat}
theorem hN0 {w a : List Int32} (h : ∀ p, sgA sg n p = (w ++ a).getD p (-1)) : hasN sg n w.length a ∧ sgA sg n (w.length + a.length) = -1 := by
  have e9 : sgA sg n (w.length + a.length) = -1 := by rw [h, gA2, gA3]
  exact ⟨⟨fun j hj => by rw [h, gA2], Or.inr e9⟩, e9⟩
theorem hN1 {w a b : List Int32} (h : ∀ p, sgA sg n p = ((w ++ a) ++ b).getD p (-1)) (hb : b.getD 0 (-1) = 32) : hasN sg n w.length a := by
  refine ⟨fun j hj => ?_, Or.inl ?_⟩
  · rw [h, gA1 (by rw [List.length_append]; omega), gA2]
  · rw [h]
    have := gA2 (a := w ++ a) (b := b) 0
    rw [Nat.add_zero, List.length_append] at this
    rw [this, hb]
theorem nuL_hd (v : Int32) : (nuL v).getD 0 (-1) = 32 := rfl
theorem hasD_of {p m : Nat} {r : List Int32} (h : hasN sg n p (r ++ dgs m)) : hasD sg n (p + r.length) m := by
  obtain ⟨h1, h2⟩ := h
  refine ⟨fun j hj => ?_, ?_⟩
  · rw [Nat.add_assoc, h1 (r.length + j) (by rw [List.length_append]; omega), gA2]
  · rw [List.length_append, ← Nat.add_assoc] at h2
    exact h2
theorem num_pos {p m l L : Nat} {nu : Int32} (h : hasN sg n p (nuL (nI m))) (hl : l ≤ 1) (hlm : l ≤ m) (hm : m ≤ L) (hL : L < 1000) : snR sg n (nI l) (nI L) p nu = (true, p + (nuL (nI m)).length, nI m) := by
  have h0 := h.1 0 (by rw [nuL_pos (by omega)]; exact Nat.succ_pos _)
  rw [nuL_hd, Nat.add_zero] at h0
  rw [nuL_pos (show m ≤ 999 by omega)] at h ⊢
  rw [snR_pos (m := m) h0 (hasD_of (r := [32]) h) hl hlm hm hL, List.length_cons, show p + 1 + (dgs m).length = p + ((dgs m).length + 1) from by omega]
theorem isN_c {v : Int32} (h : isN v) : (∃ m, m ≤ 999 ∧ v = nI m) ∨ ∃ m, 1 ≤ m ∧ m ≤ 999 ∧ v = -(nI m) := by
  have h1 := Int32.le_iff_toInt_le.mp h.1
  have h2 := Int32.le_iff_toInt_le.mp h.2
  rw [show (-999 : Int32).toInt = -999 from by decide] at h1
  rw [i999_int] at h2
  by_cases h3 : 0 ≤ v.toInt
  · obtain ⟨m, hm, e9⟩ := i32_in (x := v) (n := 999) h3 (by omega) (by omega)
    exact Or.inl ⟨m, hm, e9⟩
  · refine Or.inr ⟨(-v.toInt).toNat, by omega, by omega, ?_⟩
    apply Int32.toInt_inj.mp
    rw [neg_int (by rw [nI_toInt (by omega)]; omega), nI_toInt (by omega)]
    omega
theorem num_sg {p : Nat} {v nu : Int32} (hv : isN v) (h : hasN sg n p (nuL v)) : snR sg n (-999) 999 p nu = (true, p + (nuL v).length, v) := by
  have h0 := h.1 0 (by
    rcases isN_c hv with ⟨m, hm, rfl⟩ | ⟨m, h1, hm, rfl⟩
    · rw [nuL_pos hm]; exact Nat.succ_pos _
    · rw [nuL_neg h1 hm]; exact Nat.succ_pos _)
  rw [nuL_hd, Nat.add_zero] at h0
  rcases isN_c hv with ⟨m, hm, rfl⟩ | ⟨m, h1, hm, rfl⟩
  · rw [nuL_pos hm] at h ⊢
    rw [snR_sg (m := m) h0 (hasD_of (r := [32]) h) hm, List.length_cons, show p + 1 + (dgs m).length = p + ((dgs m).length + 1) from by omega]
  · rw [nuL_neg h1 hm] at h ⊢
    have h45 := h.1 1 (by rw [List.length_cons, List.length_cons]; omega)
    rw [snR_ng (m := m) h0 h45 (hasD_of (r := [32, 45]) h) h1 hm, List.length_cons, List.length_cons, show p + 2 + (dgs m).length = p + ((dgs m).length + 1 + 1) from by omega]
/-! words -/
theorem al_y {p i f j : Nat} (h : sgA sg n (p + j) = chS i j) : alF sg n p i (f + 1) j = alF sg n p i f (j + 1) := by rw [alF, if_pos h]
theorem al_n {p i f j : Nat} (h : ¬ sgA sg n (p + j) = chS i j) : alF sg n p i (f + 1) j = j := by rw [alF, if_neg h]
theorem sw_y {p i f lo k : Nat} {vb : Int32} (h : alk sg n p i = k) (hk : k = lnS i) : swQ sg n p vb (f + 1) i lo = (true, p + k, nI i) := by
  subst hk
  rw [swQ, if_pos h, h]
theorem sw_n {p i f lo k : Nat} {vb : Int32} (h : alk sg n p i = k) (hk : ¬ k = lnS i) : swQ sg n p vb (f + 1) i lo = swQ sg n p vb f (i + 1) (max lo k) := by
  rw [swQ, if_neg (by rw [h]; exact hk), h]
theorem wd_fly {vb : Int32} (h0 : sgA sg n 0 = 102) (h1 : sgA sg n 1 = 108) (h2 : sgA sg n 2 = 121) : swR sg n 0 vb = (true, 3, 0) := by
  have a0 : alk sg n 0 0 = 3 := (al_y (f := 2) (j := 0) h0).trans ((al_y (f := 1) (j := 1) h1).trans ((al_y (f := 0) (j := 2) h2).trans rfl))
  exact sw_y (f := 4) a0 rfl
theorem wd_read {vb : Int32} (h0 : sgA sg n 0 = 114) (h1 : sgA sg n 1 = 101) (h2 : sgA sg n 2 = 97) (h3 : sgA sg n 3 = 100) : swR sg n 0 vb = (true, 4, 1) := by
  have a0 : alk sg n 0 0 = 0 := al_n (f := 2) (j := 0) (by rw [Nat.add_zero, h0]; decide)
  have a1 : alk sg n 0 1 = 4 := (al_y (f := 3) (j := 0) h0).trans ((al_y (f := 2) (j := 1) h1).trans ((al_y (f := 1) (j := 2) h2).trans ((al_y (f := 0) (j := 3) h3).trans rfl)))
  exact (sw_n (f := 4) a0 (by decide)).trans (sw_y (f := 3) a1 rfl)
theorem wd_write {vb : Int32} (h0 : sgA sg n 0 = 119) (h1 : sgA sg n 1 = 114) (h2 : sgA sg n 2 = 105) (h3 : sgA sg n 3 = 116) (h4 : sgA sg n 4 = 101) : swR sg n 0 vb = (true, 5, 2) := by
  have a0 : alk sg n 0 0 = 0 := al_n (f := 2) (j := 0) (by rw [Nat.add_zero, h0]; decide)
  have a1 : alk sg n 0 1 = 0 := al_n (f := 3) (j := 0) (by rw [Nat.add_zero, h0]; decide)
  have a2 : alk sg n 0 2 = 5 := (al_y (f := 4) (j := 0) h0).trans ((al_y (f := 3) (j := 1) h1).trans ((al_y (f := 2) (j := 2) h2).trans ((al_y (f := 1) (j := 3) h3).trans ((al_y (f := 0) (j := 4) h4).trans rfl))))
  exact (sw_n (f := 4) a0 (by decide)).trans ((sw_n (f := 3) a1 (by decide)).trans (sw_y (f := 2) a2 rfl))
theorem wd_beat {vb : Int32} (h0 : sgA sg n 0 = 98) (h1 : sgA sg n 1 = 101) (h2 : sgA sg n 2 = 97) (h3 : sgA sg n 3 = 116) : swR sg n 0 vb = (true, 4, 3) := by
  have a0 : alk sg n 0 0 = 0 := al_n (f := 2) (j := 0) (by rw [Nat.add_zero, h0]; decide)
  have a1 : alk sg n 0 1 = 0 := al_n (f := 3) (j := 0) (by rw [Nat.add_zero, h0]; decide)
  have a2 : alk sg n 0 2 = 0 := al_n (f := 4) (j := 0) (by rw [Nat.add_zero, h0]; decide)
  have a3 : alk sg n 0 3 = 4 := (al_y (f := 3) (j := 0) h0).trans ((al_y (f := 2) (j := 1) h1).trans ((al_y (f := 1) (j := 2) h2).trans ((al_y (f := 0) (j := 3) h3).trans rfl)))
  exact (sw_n (f := 4) a0 (by decide)).trans ((sw_n (f := 3) a1 (by decide)).trans ((sw_n (f := 2) a2 (by decide)).trans (sw_y (f := 1) a3 rfl)))
theorem wd_wind {vb : Int32} (h0 : sgA sg n 0 = 119) (h1 : sgA sg n 1 = 105) (h2 : sgA sg n 2 = 110) (h3 : sgA sg n 3 = 100) : swR sg n 0 vb = (true, 4, 4) := by
  have a0 : alk sg n 0 0 = 0 := al_n (f := 2) (j := 0) (by rw [Nat.add_zero, h0]; decide)
  have a1 : alk sg n 0 1 = 0 := al_n (f := 3) (j := 0) (by rw [Nat.add_zero, h0]; decide)
  have a2 : alk sg n 0 2 = 1 := (al_y (f := 4) (j := 0) h0).trans (al_n (f := 3) (j := 1) (by rw [h1]; decide))
  have a3 : alk sg n 0 3 = 0 := al_n (f := 3) (j := 0) (by rw [Nat.add_zero, h0]; decide)
  have a4 : alk sg n 0 4 = 4 := (al_y (f := 3) (j := 0) h0).trans ((al_y (f := 2) (j := 1) h1).trans ((al_y (f := 1) (j := 2) h2).trans ((al_y (f := 0) (j := 3) h3).trans rfl)))
  exact (sw_n (f := 4) a0 (by decide)).trans ((sw_n (f := 3) a1 (by decide)).trans ((sw_n (f := 2) a2 (by decide)).trans ((sw_n (f := 1) a3 (by decide)).trans (sw_y (f := 0) a4 rfl))))
/-! one command -/
theorem sc_two {p1 p2 p3 : Nat} {v a b : Int32} (hw : ∀ vb, swR sg n 0 vb = (true, p1, v)) (hv : ¬ (v = 1 ∨ v = 3)) (h1 : ∀ nu, sf1 sg n v p1 nu = (true, p2, a)) (h2 : ∀ nu, sf2 sg n v p2 nu = (true, p3, b)) (he : sgA sg n p3 = -1) (z : SZt) : scS sg n z = (-10005, (upd z.1 0 v, upd z.2.1 0 a, upd (upd z.2.2.1 0 0) 0 b, 1, p3, v, b)) := by
  have hC : scC sg n (z.1, z.2.1, z.2.2.1, 0, 0, z.2.2.2.2.2.1, z.2.2.2.2.2.2) = (true, (upd z.1 0 v, upd z.2.1 0 a, upd (upd z.2.2.1 0 0) 0 b, 1, p3, v, b)) := by
    show scA sg n z.1 z.2.1 z.2.2.1 0 z.2.2.2.2.2.2 (swR sg n 0 z.2.2.2.2.2.1) = _
    rw [hw, scA, if_pos rfl]
    show scB sg n z.1 z.2.1 z.2.2.1 0 (true, p1, v) (sf1 sg n v p1 z.2.2.2.2.2.2) = _
    rw [h1, scB, if_pos rfl]
    show (if v = 1 ∨ v = 3 then _ else if (sf2 sg n v p2 a).1 = true then _ else _) = _
    rw [if_neg hv, h2, if_pos rfl]
  show scF sg n (79 + 1) _ = _
  rw [scF, hC, if_pos rfl]
  exact if_pos he
theorem sc_one {p1 p2 : Nat} {v a : Int32} (hw : ∀ vb, swR sg n 0 vb = (true, p1, v)) (hv : v = 1 ∨ v = 3) (h1 : ∀ nu, sf1 sg n v p1 nu = (true, p2, a)) (he : sgA sg n p2 = -1) (z : SZt) : scS sg n z = (-10005, (upd z.1 0 v, upd z.2.1 0 a, upd z.2.2.1 0 0, 1, p2, v, a)) := by
  have hC : scC sg n (z.1, z.2.1, z.2.2.1, 0, 0, z.2.2.2.2.2.1, z.2.2.2.2.2.2) = (true, (upd z.1 0 v, upd z.2.1 0 a, upd z.2.2.1 0 0, 1, p2, v, a)) := by
    show scA sg n z.1 z.2.1 z.2.2.1 0 z.2.2.2.2.2.2 (swR sg n 0 z.2.2.2.2.2.1) = _
    rw [hw, scA, if_pos rfl]
    show scB sg n z.1 z.2.1 z.2.2.1 0 (true, p1, v) (sf1 sg n v p1 z.2.2.2.2.2.2) = _
    rw [h1, scB, if_pos rfl]
    exact if_pos hv
  show scF sg n (79 + 1) _ = _
  rw [scF, hC, if_pos rfl]
  exact if_pos he
end WD
theorem sf1_0 {sg : F} {n p : Nat} {nu : Int32} : sf1 sg n 0 p nu = snR sg n 0 3 p nu := by
  unfold sf1
  rw [if_pos rfl]
theorem sf1_1 {sg : F} {n p : Nat} {nu : Int32} : sf1 sg n 1 p nu = snR sg n 0 11 p nu := by
  unfold sf1
  rw [if_neg (by decide), if_neg (by decide), if_neg (by decide)]
theorem sf1_2 {sg : F} {n p : Nat} {nu : Int32} : sf1 sg n 2 p nu = snR sg n 0 11 p nu := by
  unfold sf1
  rw [if_neg (by decide), if_neg (by decide), if_neg (by decide)]
theorem sf1_3 {sg : F} {n p : Nat} {nu : Int32} : sf1 sg n 3 p nu = snR sg n 1 20 p nu := by
  unfold sf1
  rw [if_neg (by decide), if_pos rfl]
theorem sf1_4 {sg : F} {n p : Nat} {nu : Int32} : sf1 sg n 4 p nu = snR sg n 0 7 p nu := by
  unfold sf1
  rw [if_neg (by decide), if_neg (by decide), if_pos rfl]
theorem sf2_0 {sg : F} {n p : Nat} {nu : Int32} : sf2 sg n 0 p nu = snR sg n (-999) 999 p nu := by
  unfold sf2
  rw [if_neg (by decide)]
theorem sf2_2 {sg : F} {n p : Nat} {nu : Int32} : sf2 sg n 2 p nu = snR sg n (-999) 999 p nu := by
  unfold sf2
  rw [if_neg (by decide)]
theorem sf2_4 {sg : F} {n p : Nat} {nu : Int32} : sf2 sg n 4 p nu = snR sg n 0 9 p nu := by
  unfold sf2
  rw [if_pos rfl]
/-- the text is one command: verb and numbers -/
def isCm (κ : KSt) (v a b : Int32) : Prop := ∃ z : SZt, scS (kjg κ) (kjn κ) (kjZ κ) = (-10005, z) ∧ z.2.2.2.1 = 1 ∧ z.1 0 = v ∧ z.2.1 0 = a ∧ (v = 1 ∨ v = 3 ∨ z.2.2.1 0 = b)
theorem isCm2 {κ : KSt} {v a b : Int32} {f1 f2 f3 : F} {p : Nat} {x1 x2 : Int32} (h : scS (kjg κ) (kjn κ) (kjZ κ) = (-10005, (upd f1 0 v, upd f2 0 a, upd f3 0 b, 1, p, x1, x2))) : isCm κ v a b := ⟨_, h, rfl, by show upd f1 0 v 0 = v; exact pk_us, by show upd f2 0 a 0 = a; exact pk_us, Or.inr (Or.inr (by show upd f3 0 b 0 = b; exact pk_us))⟩
theorem isCm1 {κ : KSt} {v a b : Int32} {f1 f2 f3 : F} {p : Nat} {x1 x2 : Int32} (hv : v = 1 ∨ v = 3) (h : scS (kjg κ) (kjn κ) (kjZ κ) = (-10005, (upd f1 0 v, upd f2 0 a, f3, 1, p, x1, x2))) : isCm κ v a b := ⟨_, h, rfl, by show upd f1 0 v 0 = v; exact pk_us, by show upd f2 0 a 0 = a; exact pk_us, hv.elim Or.inl (fun z => Or.inr (Or.inl z))⟩
theorem cm_fly (κ : KSt) {q : Nat} {v : Int32} (hq : q < 4) (hv : isN v) : isCm (txA κ (([102, 108, 121] ++ nuL (nI q)) ++ nuL v)) 0 (nI q) v := by
  have h := sgA_tx (κ := κ) (l := ([102, 108, 121] ++ nuL (nI q)) ++ nuL v)
  have h1 := hN1 h (nuL_hd v)
  obtain ⟨h2, h3⟩ := hN0 h
  rw [List.length_append] at h2 h3
  exact isCm2 (sc_two (fun vb => wd_fly (h 0) (h 1) (h 2)) (by decide) (fun nu => (sf1_0).trans (num_pos (l := 0) (L := 3) h1 (by omega) (by omega) (by omega) (by omega))) (fun nu => (sf2_0).trans (num_sg hv h2)) h3 _)
theorem cm_write (κ : KSt) {k : Nat} {v : Int32} (hk : k < 12) (hv : isN v) : isCm (txA κ (([119, 114, 105, 116, 101] ++ nuL (nI k)) ++ nuL v)) 2 (nI k) v := by
  have h := sgA_tx (κ := κ) (l := ([119, 114, 105, 116, 101] ++ nuL (nI k)) ++ nuL v)
  have h1 := hN1 h (nuL_hd v)
  obtain ⟨h2, h3⟩ := hN0 h
  rw [List.length_append] at h2 h3
  exact isCm2 (sc_two (fun vb => wd_write (h 0) (h 1) (h 2) (h 3) (h 4)) (by decide) (fun nu => (sf1_2).trans (num_pos (l := 0) (L := 11) h1 (by omega) (by omega) (by omega) (by omega))) (fun nu => (sf2_2).trans (num_sg hv h2)) h3 _)
theorem cm_wind (κ : KSt) {k w : Nat} (hk : k < 8) (hw : w < 10) : isCm (txA κ (([119, 105, 110, 100] ++ nuL (nI k)) ++ nuL (nI w))) 4 (nI k) (nI w) := by
  have h := sgA_tx (κ := κ) (l := ([119, 105, 110, 100] ++ nuL (nI k)) ++ nuL (nI w))
  have h1 := hN1 h (nuL_hd (nI w))
  obtain ⟨h2, h3⟩ := hN0 h
  rw [List.length_append] at h2 h3
  exact isCm2 (sc_two (fun vb => wd_wind (h 0) (h 1) (h 2) (h 3)) (by decide) (fun nu => (sf1_4).trans (num_pos (l := 0) (L := 7) h1 (by omega) (by omega) (by omega) (by omega))) (fun nu => (sf2_4).trans (num_pos (l := 0) (L := 9) h2 (by omega) (by omega) (by omega) (by omega))) h3 _)
theorem cm_read (κ : KSt) {k : Nat} (hk : k < 12) : isCm (txA κ ([114, 101, 97, 100] ++ nuL (nI k))) 1 (nI k) 0 := by
  have h := sgA_tx (κ := κ) (l := [114, 101, 97, 100] ++ nuL (nI k))
  obtain ⟨h2, h3⟩ := hN0 h
  exact isCm1 (Or.inl rfl) (sc_one (fun vb => wd_read (h 0) (h 1) (h 2) (h 3)) (by decide) (fun nu => (sf1_1).trans (num_pos (l := 0) (L := 11) h2 (by omega) (by omega) (by omega) (by omega))) h3 _)
theorem cm_beat (κ : KSt) {k : Nat} (h1 : 1 ≤ k) (hk : k ≤ 20) : isCm (txA κ ([98, 101, 97, 116] ++ nuL (nI k))) 3 (nI k) 0 := by
  have h := sgA_tx (κ := κ) (l := [98, 101, 97, 116] ++ nuL (nI k))
  obtain ⟨h2, h3⟩ := hN0 h
  exact isCm1 (Or.inr rfl) (sc_one (fun vb => wd_beat (h 0) (h 1) (h 2) (h 3)) (by decide) (fun nu => (sf1_3).trans (num_pos (l := 1) (L := 20) h2 (by omega) (by omega) (by omega) (by omega))) h3 _)
