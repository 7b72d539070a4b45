/-! THE MODEL: its one row of numbers read as a sky, the beat and the cuts; its other cells -/
abbrev MS : Type := Sky × Int32 × Int32
def pk (τ : MS) : F := fun i => if i = 0 then sCh τ.1 else if i = 1 then sSi τ.1 else if i = 2 then τ.2.1 else if i = 3 then sRs τ.1 else if i = 4 then τ.2.2 else if i = 5 then sBs τ.1 else if i < 14 then sWi τ.1 (i - 6) else if i < 18 then sCf τ.1 (i - 14) else if i < 30 then sSt τ.1 (i - 18) else if i < 42 then sNu τ.1 (i - 30) else if i < 54 then sHt τ.1 (i - 42) else if i < 66 then sFr τ.1 (i - 54) else if i < 78 then sRe τ.1 (i - 66) else if i < 90 then sCu τ.1 (i - 78) else 0
def pkH (hi : Nat → MS) : F := fun i => pk (hi (i / 92)) (i % 92)
def vWi (τ : MS) (j : Nat) (v : Int32) : MS := (pWi τ.1 j v, τ.2)
def vCf (τ : MS) (j : Nat) (v : Int32) : MS := (pCf τ.1 j v, τ.2)
def vSt (τ : MS) (j : Nat) (v : Int32) : MS := (pSt τ.1 j v, τ.2)
def vNu (τ : MS) (j : Nat) (v : Int32) : MS := (pNu τ.1 j v, τ.2)
def vHt (τ : MS) (j : Nat) (v : Int32) : MS := (pHt τ.1 j v, τ.2)
def vFr (τ : MS) (j : Nat) (v : Int32) : MS := (pFr τ.1 j v, τ.2)
def vRe (τ : MS) (j : Nat) (v : Int32) : MS := (pRe τ.1 j v, τ.2)
def vCu (τ : MS) (j : Nat) (v : Int32) : MS := (pCu τ.1 j v, τ.2)
def vCh (τ : MS) (v : Int32) : MS := (uCh τ.1 v, τ.2)
def vSi (τ : MS) (v : Int32) : MS := (uSi τ.1 v, τ.2)
def vRs (τ : MS) (v : Int32) : MS := (uRs τ.1 v, τ.2)
def vBs (τ : MS) (v : Int32) : MS := (uBs τ.1 v, τ.2)
def vBe (τ : MS) (v : Int32) : MS := (τ.1, v, τ.2.2)
def vCt (τ : MS) (v : Int32) : MS := (τ.1, τ.2.1, v)
theorem pk_Wi {τ : MS} {j : Nat} (h : j < 8) : pk τ (6 + j) = sWi τ.1 j := by
  unfold pk
  simp only [show ¬ 6 + j = 0 from by omega, show ¬ 6 + j = 1 from by omega, show ¬ 6 + j = 2 from by omega, show ¬ 6 + j = 3 from by omega, show ¬ 6 + j = 4 from by omega, show ¬ 6 + j = 5 from by omega, if_false, show 6 + j < 14 from by omega, if_true, show 6 + j - 6 = j from by omega]
theorem pk_Cf {τ : MS} {j : Nat} (h : j < 4) : pk τ (14 + j) = sCf τ.1 j := by
  unfold pk
  simp only [show ¬ 14 + j = 0 from by omega, show ¬ 14 + j = 1 from by omega, show ¬ 14 + j = 2 from by omega, show ¬ 14 + j = 3 from by omega, show ¬ 14 + j = 4 from by omega, show ¬ 14 + j = 5 from by omega, if_false, show ¬ 14 + j < 14 from by omega, show 14 + j < 18 from by omega, if_true, show 14 + j - 14 = j from by omega]
theorem pk_St {τ : MS} {j : Nat} (h : j < 12) : pk τ (18 + j) = sSt τ.1 j := by
  unfold pk
  simp only [show ¬ 18 + j = 0 from by omega, show ¬ 18 + j = 1 from by omega, show ¬ 18 + j = 2 from by omega, show ¬ 18 + j = 3 from by omega, show ¬ 18 + j = 4 from by omega, show ¬ 18 + j = 5 from by omega, if_false, show ¬ 18 + j < 14 from by omega, show ¬ 18 + j < 18 from by omega, show 18 + j < 30 from by omega, if_true, show 18 + j - 18 = j from by omega]
theorem pk_Nu {τ : MS} {j : Nat} (h : j < 12) : pk τ (30 + j) = sNu τ.1 j := by
  unfold pk
  simp only [show ¬ 30 + j = 0 from by omega, show ¬ 30 + j = 1 from by omega, show ¬ 30 + j = 2 from by omega, show ¬ 30 + j = 3 from by omega, show ¬ 30 + j = 4 from by omega, show ¬ 30 + j = 5 from by omega, if_false, show ¬ 30 + j < 14 from by omega, show ¬ 30 + j < 18 from by omega, show ¬ 30 + j < 30 from by omega, show 30 + j < 42 from by omega, if_true, show 30 + j - 30 = j from by omega]
theorem pk_Ht {τ : MS} {j : Nat} (h : j < 12) : pk τ (42 + j) = sHt τ.1 j := by
  unfold pk
  simp only [show ¬ 42 + j = 0 from by omega, show ¬ 42 + j = 1 from by omega, show ¬ 42 + j = 2 from by omega, show ¬ 42 + j = 3 from by omega, show ¬ 42 + j = 4 from by omega, show ¬ 42 + j = 5 from by omega, if_false, show ¬ 42 + j < 14 from by omega, show ¬ 42 + j < 18 from by omega, show ¬ 42 + j < 30 from by omega, show ¬ 42 + j < 42 from by omega, show 42 + j < 54 from by omega, if_true, show 42 + j - 42 = j from by omega]
theorem pk_Fr {τ : MS} {j : Nat} (h : j < 12) : pk τ (54 + j) = sFr τ.1 j := by
  unfold pk
  simp only [show ¬ 54 + j = 0 from by omega, show ¬ 54 + j = 1 from by omega, show ¬ 54 + j = 2 from by omega, show ¬ 54 + j = 3 from by omega, show ¬ 54 + j = 4 from by omega, show ¬ 54 + j = 5 from by omega, if_false, show ¬ 54 + j < 14 from by omega, show ¬ 54 + j < 18 from by omega, show ¬ 54 + j < 30 from by omega, show ¬ 54 + j < 42 from by omega, show ¬ 54 + j < 54 from by omega, show 54 + j < 66 from by omega, if_true, show 54 + j - 54 = j from by omega]
theorem pk_Re {τ : MS} {j : Nat} (h : j < 12) : pk τ (66 + j) = sRe τ.1 j := by
  unfold pk
  simp only [show ¬ 66 + j = 0 from by omega, show ¬ 66 + j = 1 from by omega, show ¬ 66 + j = 2 from by omega, show ¬ 66 + j = 3 from by omega, show ¬ 66 + j = 4 from by omega, show ¬ 66 + j = 5 from by omega, if_false, show ¬ 66 + j < 14 from by omega, show ¬ 66 + j < 18 from by omega, show ¬ 66 + j < 30 from by omega, show ¬ 66 + j < 42 from by omega, show ¬ 66 + j < 54 from by omega, show ¬ 66 + j < 66 from by omega, show 66 + j < 78 from by omega, if_true, show 66 + j - 66 = j from by omega]
theorem pk_Cu {τ : MS} {j : Nat} (h : j < 12) : pk τ (78 + j) = sCu τ.1 j := by
  unfold pk
  simp only [show ¬ 78 + j = 0 from by omega, show ¬ 78 + j = 1 from by omega, show ¬ 78 + j = 2 from by omega, show ¬ 78 + j = 3 from by omega, show ¬ 78 + j = 4 from by omega, show ¬ 78 + j = 5 from by omega, if_false, show ¬ 78 + j < 14 from by omega, show ¬ 78 + j < 18 from by omega, show ¬ 78 + j < 30 from by omega, show ¬ 78 + j < 42 from by omega, show ¬ 78 + j < 54 from by omega, show ¬ 78 + j < 66 from by omega, show ¬ 78 + j < 78 from by omega, show 78 + j < 90 from by omega, if_true, show 78 + j - 78 = j from by omega]
theorem pk_Ch {τ : MS} : pk τ 0 = sCh τ.1 := rfl
theorem pk_Si {τ : MS} : pk τ 1 = sSi τ.1 := rfl
theorem pk_Rs {τ : MS} : pk τ 3 = sRs τ.1 := rfl
theorem pk_Bs {τ : MS} : pk τ 5 = sBs τ.1 := rfl
theorem pk_Be {τ : MS} : pk τ 2 = τ.2.1 := rfl
theorem pk_Ct {τ : MS} : pk τ 4 = τ.2.2 := rfl
theorem seg_up {f : F} {c j i : Nat} {v : Int32} (h : ¬ i = c + j) (hc : c ≤ i) : upd f j v (i - c) = f (i - c) := pk_un (by omega)
theorem up_Wi {τ : MS} {j : Nat} {v : Int32} (h : j < 8) : upd (pk τ) (6 + j) v = pk (vWi τ j v) := by
  funext i
  by_cases e : i = 6 + j
  · subst e
    rw [pk_us, pk_Wi h]
    exact pk_us.symm
  rw [pk_un e]
  by_cases hlo : 6 ≤ i ∧ i < 14
  · obtain ⟨t, rfl⟩ : ∃ t, i = 6 + t := ⟨i - 6, by omega⟩
    rw [pk_Wi (show t < 8 by omega), pk_Wi (show t < 8 by omega)]
    exact (pk_un (show t ≠ j by omega)).symm
  unfold pk
  by_cases hk0 : i = 0
  · rw [if_pos hk0, if_pos hk0]; rfl
  rw [if_neg hk0, if_neg hk0]
  by_cases hk1 : i = 1
  · rw [if_pos hk1, if_pos hk1]; rfl
  rw [if_neg hk1, if_neg hk1]
  by_cases hk2 : i = 2
  · rw [if_pos hk2, if_pos hk2]; rfl
  rw [if_neg hk2, if_neg hk2]
  by_cases hk3 : i = 3
  · rw [if_pos hk3, if_pos hk3]; rfl
  rw [if_neg hk3, if_neg hk3]
  by_cases hk4 : i = 4
  · rw [if_pos hk4, if_pos hk4]; rfl
  rw [if_neg hk4, if_neg hk4]
  by_cases hk5 : i = 5
  · rw [if_pos hk5, if_pos hk5]; rfl
  rw [if_neg hk5, if_neg hk5]
  by_cases hz : i < 14
  · exact absurd ⟨by omega, hz⟩ hlo
  rw [if_neg hz, if_neg hz]
  try rfl
theorem up_Cf {τ : MS} {j : Nat} {v : Int32} (h : j < 4) : upd (pk τ) (14 + j) v = pk (vCf τ j v) := by
  funext i
  by_cases e : i = 14 + j
  · subst e
    rw [pk_us, pk_Cf h]
    exact pk_us.symm
  rw [pk_un e]
  by_cases hlo : 14 ≤ i ∧ i < 18
  · obtain ⟨t, rfl⟩ : ∃ t, i = 14 + t := ⟨i - 14, by omega⟩
    rw [pk_Cf (show t < 4 by omega), pk_Cf (show t < 4 by omega)]
    exact (pk_un (show t ≠ j by omega)).symm
  unfold pk
  by_cases hk0 : i = 0
  · rw [if_pos hk0, if_pos hk0]; rfl
  rw [if_neg hk0, if_neg hk0]
  by_cases hk1 : i = 1
  · rw [if_pos hk1, if_pos hk1]; rfl
  rw [if_neg hk1, if_neg hk1]
  by_cases hk2 : i = 2
  · rw [if_pos hk2, if_pos hk2]; rfl
  rw [if_neg hk2, if_neg hk2]
  by_cases hk3 : i = 3
  · rw [if_pos hk3, if_pos hk3]; rfl
  rw [if_neg hk3, if_neg hk3]
  by_cases hk4 : i = 4
  · rw [if_pos hk4, if_pos hk4]; rfl
  rw [if_neg hk4, if_neg hk4]
  by_cases hk5 : i = 5
  · rw [if_pos hk5, if_pos hk5]; rfl
  rw [if_neg hk5, if_neg hk5]
  by_cases hk6 : i < 14
  · rw [if_pos hk6, if_pos hk6]; rfl
  rw [if_neg hk6, if_neg hk6]
  by_cases hz : i < 18
  · exact absurd ⟨by omega, hz⟩ hlo
  rw [if_neg hz, if_neg hz]
  try rfl
theorem up_St {τ : MS} {j : Nat} {v : Int32} (h : j < 12) : upd (pk τ) (18 + j) v = pk (vSt τ j v) := by
  funext i
  by_cases e : i = 18 + j
  · subst e
    rw [pk_us, pk_St h]
    exact pk_us.symm
  rw [pk_un e]
  by_cases hlo : 18 ≤ i ∧ i < 30
  · obtain ⟨t, rfl⟩ : ∃ t, i = 18 + t := ⟨i - 18, by omega⟩
    rw [pk_St (show t < 12 by omega), pk_St (show t < 12 by omega)]
    exact (pk_un (show t ≠ j by omega)).symm
  unfold pk
  by_cases hk0 : i = 0
  · rw [if_pos hk0, if_pos hk0]; rfl
  rw [if_neg hk0, if_neg hk0]
  by_cases hk1 : i = 1
  · rw [if_pos hk1, if_pos hk1]; rfl
  rw [if_neg hk1, if_neg hk1]
  by_cases hk2 : i = 2
  · rw [if_pos hk2, if_pos hk2]; rfl
  rw [if_neg hk2, if_neg hk2]
  by_cases hk3 : i = 3
  · rw [if_pos hk3, if_pos hk3]; rfl
  rw [if_neg hk3, if_neg hk3]
  by_cases hk4 : i = 4
  · rw [if_pos hk4, if_pos hk4]; rfl
  rw [if_neg hk4, if_neg hk4]
  by_cases hk5 : i = 5
  · rw [if_pos hk5, if_pos hk5]; rfl
  rw [if_neg hk5, if_neg hk5]
  by_cases hk6 : i < 14
  · rw [if_pos hk6, if_pos hk6]; rfl
  rw [if_neg hk6, if_neg hk6]
  by_cases hk7 : i < 18
  · rw [if_pos hk7, if_pos hk7]; rfl
  rw [if_neg hk7, if_neg hk7]
  by_cases hz : i < 30
  · exact absurd ⟨by omega, hz⟩ hlo
  rw [if_neg hz, if_neg hz]
  try rfl
theorem up_Nu {τ : MS} {j : Nat} {v : Int32} (h : j < 12) : upd (pk τ) (30 + j) v = pk (vNu τ j v) := by
  funext i
  by_cases e : i = 30 + j
  · subst e
    rw [pk_us, pk_Nu h]
    exact pk_us.symm
  rw [pk_un e]
  by_cases hlo : 30 ≤ i ∧ i < 42
  · obtain ⟨t, rfl⟩ : ∃ t, i = 30 + t := ⟨i - 30, by omega⟩
    rw [pk_Nu (show t < 12 by omega), pk_Nu (show t < 12 by omega)]
    exact (pk_un (show t ≠ j by omega)).symm
  unfold pk
  by_cases hk0 : i = 0
  · rw [if_pos hk0, if_pos hk0]; rfl
  rw [if_neg hk0, if_neg hk0]
  by_cases hk1 : i = 1
  · rw [if_pos hk1, if_pos hk1]; rfl
  rw [if_neg hk1, if_neg hk1]
  by_cases hk2 : i = 2
  · rw [if_pos hk2, if_pos hk2]; rfl
  rw [if_neg hk2, if_neg hk2]
  by_cases hk3 : i = 3
  · rw [if_pos hk3, if_pos hk3]; rfl
  rw [if_neg hk3, if_neg hk3]
  by_cases hk4 : i = 4
  · rw [if_pos hk4, if_pos hk4]; rfl
  rw [if_neg hk4, if_neg hk4]
  by_cases hk5 : i = 5
  · rw [if_pos hk5, if_pos hk5]; rfl
  rw [if_neg hk5, if_neg hk5]
  by_cases hk6 : i < 14
  · rw [if_pos hk6, if_pos hk6]; rfl
  rw [if_neg hk6, if_neg hk6]
  by_cases hk7 : i < 18
  · rw [if_pos hk7, if_pos hk7]; rfl
  rw [if_neg hk7, if_neg hk7]
  by_cases hk8 : i < 30
  · rw [if_pos hk8, if_pos hk8]; rfl
  rw [if_neg hk8, if_neg hk8]
  by_cases hz : i < 42
  · exact absurd ⟨by omega, hz⟩ hlo
  rw [if_neg hz, if_neg hz]
  try rfl
theorem up_Ht {τ : MS} {j : Nat} {v : Int32} (h : j < 12) : upd (pk τ) (42 + j) v = pk (vHt τ j v) := by
  funext i
  by_cases e : i = 42 + j
  · subst e
    rw [pk_us, pk_Ht h]
    exact pk_us.symm
  rw [pk_un e]
  by_cases hlo : 42 ≤ i ∧ i < 54
  · obtain ⟨t, rfl⟩ : ∃ t, i = 42 + t := ⟨i - 42, by omega⟩
    rw [pk_Ht (show t < 12 by omega), pk_Ht (show t < 12 by omega)]
    exact (pk_un (show t ≠ j by omega)).symm
  unfold pk
  by_cases hk0 : i = 0
  · rw [if_pos hk0, if_pos hk0]; rfl
  rw [if_neg hk0, if_neg hk0]
  by_cases hk1 : i = 1
  · rw [if_pos hk1, if_pos hk1]; rfl
  rw [if_neg hk1, if_neg hk1]
  by_cases hk2 : i = 2
  · rw [if_pos hk2, if_pos hk2]; rfl
  rw [if_neg hk2, if_neg hk2]
  by_cases hk3 : i = 3
  · rw [if_pos hk3, if_pos hk3]; rfl
  rw [if_neg hk3, if_neg hk3]
  by_cases hk4 : i = 4
  · rw [if_pos hk4, if_pos hk4]; rfl
  rw [if_neg hk4, if_neg hk4]
  by_cases hk5 : i = 5
  · rw [if_pos hk5, if_pos hk5]; rfl
  rw [if_neg hk5, if_neg hk5]
  by_cases hk6 : i < 14
  · rw [if_pos hk6, if_pos hk6]; rfl
  rw [if_neg hk6, if_neg hk6]
  by_cases hk7 : i < 18
  · rw [if_pos hk7, if_pos hk7]; rfl
  rw [if_neg hk7, if_neg hk7]
  by_cases hk8 : i < 30
  · rw [if_pos hk8, if_pos hk8]; rfl
  rw [if_neg hk8, if_neg hk8]
  by_cases hk9 : i < 42
  · rw [if_pos hk9, if_pos hk9]; rfl
  rw [if_neg hk9, if_neg hk9]
  by_cases hz : i < 54
  · exact absurd ⟨by omega, hz⟩ hlo
  rw [if_neg hz, if_neg hz]
  try rfl
theorem up_Fr {τ : MS} {j : Nat} {v : Int32} (h : j < 12) : upd (pk τ) (54 + j) v = pk (vFr τ j v) := by
  funext i
  by_cases e : i = 54 + j
  · subst e
    rw [pk_us, pk_Fr h]
    exact pk_us.symm
  rw [pk_un e]
  by_cases hlo : 54 ≤ i ∧ i < 66
  · obtain ⟨t, rfl⟩ : ∃ t, i = 54 + t := ⟨i - 54, by omega⟩
    rw [pk_Fr (show t < 12 by omega), pk_Fr (show t < 12 by omega)]
    exact (pk_un (show t ≠ j by omega)).symm
  unfold pk
  by_cases hk0 : i = 0
  · rw [if_pos hk0, if_pos hk0]; rfl
  rw [if_neg hk0, if_neg hk0]
  by_cases hk1 : i = 1
  · rw [if_pos hk1, if_pos hk1]; rfl
  rw [if_neg hk1, if_neg hk1]
  by_cases hk2 : i = 2
  · rw [if_pos hk2, if_pos hk2]; rfl
  rw [if_neg hk2, if_neg hk2]
  by_cases hk3 : i = 3
  · rw [if_pos hk3, if_pos hk3]; rfl
  rw [if_neg hk3, if_neg hk3]
  by_cases hk4 : i = 4
  · rw [if_pos hk4, if_pos hk4]; rfl
  rw [if_neg hk4, if_neg hk4]
  by_cases hk5 : i = 5
  · rw [if_pos hk5, if_pos hk5]; rfl
  rw [if_neg hk5, if_neg hk5]
  by_cases hk6 : i < 14
  · rw [if_pos hk6, if_pos hk6]; rfl
  rw [if_neg hk6, if_neg hk6]
  by_cases hk7 : i < 18
  · rw [if_pos hk7, if_pos hk7]; rfl
  rw [if_neg hk7, if_neg hk7]
  by_cases hk8 : i < 30
  · rw [if_pos hk8, if_pos hk8]; rfl
  rw [if_neg hk8, if_neg hk8]
  by_cases hk9 : i < 42
  · rw [if_pos hk9, if_pos hk9]; rfl
  rw [if_neg hk9, if_neg hk9]
  by_cases hk10 : i < 54
  · rw [if_pos hk10, if_pos hk10]; rfl
  rw [if_neg hk10, if_neg hk10]
  by_cases hz : i < 66
  · exact absurd ⟨by omega, hz⟩ hlo
  rw [if_neg hz, if_neg hz]
  try rfl
theorem up_Re {τ : MS} {j : Nat} {v : Int32} (h : j < 12) : upd (pk τ) (66 + j) v = pk (vRe τ j v) := by
  funext i
  by_cases e : i = 66 + j
  · subst e
    rw [pk_us, pk_Re h]
    exact pk_us.symm
  rw [pk_un e]
  by_cases hlo : 66 ≤ i ∧ i < 78
  · obtain ⟨t, rfl⟩ : ∃ t, i = 66 + t := ⟨i - 66, by omega⟩
    rw [pk_Re (show t < 12 by omega), pk_Re (show t < 12 by omega)]
    exact (pk_un (show t ≠ j by omega)).symm
  unfold pk
  by_cases hk0 : i = 0
  · rw [if_pos hk0, if_pos hk0]; rfl
  rw [if_neg hk0, if_neg hk0]
  by_cases hk1 : i = 1
  · rw [if_pos hk1, if_pos hk1]; rfl
  rw [if_neg hk1, if_neg hk1]
  by_cases hk2 : i = 2
  · rw [if_pos hk2, if_pos hk2]; rfl
  rw [if_neg hk2, if_neg hk2]
  by_cases hk3 : i = 3
  · rw [if_pos hk3, if_pos hk3]; rfl
  rw [if_neg hk3, if_neg hk3]
  by_cases hk4 : i = 4
  · rw [if_pos hk4, if_pos hk4]; rfl
  rw [if_neg hk4, if_neg hk4]
  by_cases hk5 : i = 5
  · rw [if_pos hk5, if_pos hk5]; rfl
  rw [if_neg hk5, if_neg hk5]
  by_cases hk6 : i < 14
  · rw [if_pos hk6, if_pos hk6]; rfl
  rw [if_neg hk6, if_neg hk6]
  by_cases hk7 : i < 18
  · rw [if_pos hk7, if_pos hk7]; rfl
  rw [if_neg hk7, if_neg hk7]
  by_cases hk8 : i < 30
  · rw [if_pos hk8, if_pos hk8]; rfl
  rw [if_neg hk8, if_neg hk8]
  by_cases hk9 : i < 42
  · rw [if_pos hk9, if_pos hk9]; rfl
  rw [if_neg hk9, if_neg hk9]
  by_cases hk10 : i < 54
  · rw [if_pos hk10, if_pos hk10]; rfl
  rw [if_neg hk10, if_neg hk10]
  by_cases hk11 : i < 66
  · rw [if_pos hk11, if_pos hk11]; rfl
  rw [if_neg hk11, if_neg hk11]
  by_cases hz : i < 78
  · exact absurd ⟨by omega, hz⟩ hlo
  rw [if_neg hz, if_neg hz]
  try rfl
theorem up_Cu {τ : MS} {j : Nat} {v : Int32} (h : j < 12) : upd (pk τ) (78 + j) v = pk (vCu τ j v) := by
  funext i
  by_cases e : i = 78 + j
  · subst e
    rw [pk_us, pk_Cu h]
    exact pk_us.symm
  rw [pk_un e]
  by_cases hlo : 78 ≤ i ∧ i < 90
  · obtain ⟨t, rfl⟩ : ∃ t, i = 78 + t := ⟨i - 78, by omega⟩
    rw [pk_Cu (show t < 12 by omega), pk_Cu (show t < 12 by omega)]
    exact (pk_un (show t ≠ j by omega)).symm
  unfold pk
  by_cases hk0 : i = 0
  · rw [if_pos hk0, if_pos hk0]; rfl
  rw [if_neg hk0, if_neg hk0]
  by_cases hk1 : i = 1
  · rw [if_pos hk1, if_pos hk1]; rfl
  rw [if_neg hk1, if_neg hk1]
  by_cases hk2 : i = 2
  · rw [if_pos hk2, if_pos hk2]; rfl
  rw [if_neg hk2, if_neg hk2]
  by_cases hk3 : i = 3
  · rw [if_pos hk3, if_pos hk3]; rfl
  rw [if_neg hk3, if_neg hk3]
  by_cases hk4 : i = 4
  · rw [if_pos hk4, if_pos hk4]; rfl
  rw [if_neg hk4, if_neg hk4]
  by_cases hk5 : i = 5
  · rw [if_pos hk5, if_pos hk5]; rfl
  rw [if_neg hk5, if_neg hk5]
  by_cases hk6 : i < 14
  · rw [if_pos hk6, if_pos hk6]; rfl
  rw [if_neg hk6, if_neg hk6]
  by_cases hk7 : i < 18
  · rw [if_pos hk7, if_pos hk7]; rfl
  rw [if_neg hk7, if_neg hk7]
  by_cases hk8 : i < 30
  · rw [if_pos hk8, if_pos hk8]; rfl
  rw [if_neg hk8, if_neg hk8]
  by_cases hk9 : i < 42
  · rw [if_pos hk9, if_pos hk9]; rfl
  rw [if_neg hk9, if_neg hk9]
  by_cases hk10 : i < 54
  · rw [if_pos hk10, if_pos hk10]; rfl
  rw [if_neg hk10, if_neg hk10]
  by_cases hk11 : i < 66
  · rw [if_pos hk11, if_pos hk11]; rfl
  rw [if_neg hk11, if_neg hk11]
  by_cases hk12 : i < 78
  · rw [if_pos hk12, if_pos hk12]; rfl
  rw [if_neg hk12, if_neg hk12]
  by_cases hz : i < 90
  · exact absurd ⟨by omega, hz⟩ hlo
  rw [if_neg hz, if_neg hz]
  try rfl
theorem up_Ch {τ : MS} {v : Int32} : upd (pk τ) 0 v = pk (vCh τ v) := by
  funext i
  by_cases e : i = 0
  · subst e
    rw [pk_us]; rfl
  rw [pk_un e]
  unfold pk
  by_cases hz : i = 0
  · exact absurd hz e
  rw [if_neg hz, if_neg hz]
  try rfl
theorem up_Si {τ : MS} {v : Int32} : upd (pk τ) 1 v = pk (vSi τ v) := by
  funext i
  by_cases e : i = 1
  · subst e
    rw [pk_us]; rfl
  rw [pk_un e]
  unfold pk
  by_cases hk0 : i = 0
  · rw [if_pos hk0, if_pos hk0]; rfl
  rw [if_neg hk0, if_neg hk0]
  by_cases hz : i = 1
  · exact absurd hz e
  rw [if_neg hz, if_neg hz]
  try rfl
theorem up_Rs {τ : MS} {v : Int32} : upd (pk τ) 3 v = pk (vRs τ v) := by
  funext i
  by_cases e : i = 3
  · subst e
    rw [pk_us]; rfl
  rw [pk_un e]
  unfold pk
  by_cases hk0 : i = 0
  · rw [if_pos hk0, if_pos hk0]; rfl
  rw [if_neg hk0, if_neg hk0]
  by_cases hk1 : i = 1
  · rw [if_pos hk1, if_pos hk1]; rfl
  rw [if_neg hk1, if_neg hk1]
  by_cases hk2 : i = 2
  · rw [if_pos hk2, if_pos hk2]; rfl
  rw [if_neg hk2, if_neg hk2]
  by_cases hz : i = 3
  · exact absurd hz e
  rw [if_neg hz, if_neg hz]
  try rfl
theorem up_Bs {τ : MS} {v : Int32} : upd (pk τ) 5 v = pk (vBs τ v) := by
  funext i
  by_cases e : i = 5
  · subst e
    rw [pk_us]; rfl
  rw [pk_un e]
  unfold pk
  by_cases hk0 : i = 0
  · rw [if_pos hk0, if_pos hk0]; rfl
  rw [if_neg hk0, if_neg hk0]
  by_cases hk1 : i = 1
  · rw [if_pos hk1, if_pos hk1]; rfl
  rw [if_neg hk1, if_neg hk1]
  by_cases hk2 : i = 2
  · rw [if_pos hk2, if_pos hk2]; rfl
  rw [if_neg hk2, if_neg hk2]
  by_cases hk3 : i = 3
  · rw [if_pos hk3, if_pos hk3]; rfl
  rw [if_neg hk3, if_neg hk3]
  by_cases hk4 : i = 4
  · rw [if_pos hk4, if_pos hk4]; rfl
  rw [if_neg hk4, if_neg hk4]
  by_cases hz : i = 5
  · exact absurd hz e
  rw [if_neg hz, if_neg hz]
  try rfl
theorem up_Be {τ : MS} {v : Int32} : upd (pk τ) 2 v = pk (vBe τ v) := by
  funext i
  by_cases e : i = 2
  · subst e
    rw [pk_us]; rfl
  rw [pk_un e]
  unfold pk
  by_cases hk0 : i = 0
  · rw [if_pos hk0, if_pos hk0]; rfl
  rw [if_neg hk0, if_neg hk0]
  by_cases hk1 : i = 1
  · rw [if_pos hk1, if_pos hk1]; rfl
  rw [if_neg hk1, if_neg hk1]
  by_cases hz : i = 2
  · exact absurd hz e
  rw [if_neg hz, if_neg hz]
  try rfl
theorem up_Ct {τ : MS} {v : Int32} : upd (pk τ) 4 v = pk (vCt τ v) := by
  funext i
  by_cases e : i = 4
  · subst e
    rw [pk_us]; rfl
  rw [pk_un e]
  unfold pk
  by_cases hk0 : i = 0
  · rw [if_pos hk0, if_pos hk0]; rfl
  rw [if_neg hk0, if_neg hk0]
  by_cases hk1 : i = 1
  · rw [if_pos hk1, if_pos hk1]; rfl
  rw [if_neg hk1, if_neg hk1]
  by_cases hk2 : i = 2
  · rw [if_pos hk2, if_pos hk2]; rfl
  rw [if_neg hk2, if_neg hk2]
  by_cases hk3 : i = 3
  · rw [if_pos hk3, if_pos hk3]; rfl
  rw [if_neg hk3, if_neg hk3]
  by_cases hz : i = 4
  · exact absurd hz e
  rw [if_neg hz, if_neg hz]
  try rfl
abbrev MD : Type := MS × MS × MS × (Nat → MS) × Int32 × MS × Int32 × Int32 × Int32 × F × Int32 × Int32 × Int32 × Int32 × Int32 × Int32
def mAl (μ : MD) : MS := μ.1
def mKe (μ : MD) : MS := μ.2.1
def mTr (μ : MD) : MS := μ.2.2.1
def mHi (μ : MD) : (Nat → MS) := μ.2.2.2.1
def mHL (μ : MD) : Int32 := μ.2.2.2.2.1
def mSn (μ : MD) : MS := μ.2.2.2.2.2.1
def mIT (μ : MD) : Int32 := μ.2.2.2.2.2.2.1
def mSA (μ : MD) : Int32 := μ.2.2.2.2.2.2.2.1
def mSB (μ : MD) : Int32 := μ.2.2.2.2.2.2.2.2.1
def mTx (μ : MD) : F := μ.2.2.2.2.2.2.2.2.2.1
def mTL (μ : MD) : Int32 := μ.2.2.2.2.2.2.2.2.2.2.1
def mSp (μ : MD) : Int32 := μ.2.2.2.2.2.2.2.2.2.2.2.1
def mNm (μ : MD) : Int32 := μ.2.2.2.2.2.2.2.2.2.2.2.2.1
def mCm (μ : MD) : Int32 := μ.2.2.2.2.2.2.2.2.2.2.2.2.2.1
def mFi (μ : MD) : Int32 := μ.2.2.2.2.2.2.2.2.2.2.2.2.2.2.1
def mSe (μ : MD) : Int32 := μ.2.2.2.2.2.2.2.2.2.2.2.2.2.2.2
def wAl (μ : MD) (v : MS) : MD := (v, μ.2)
def wKe (μ : MD) (v : MS) : MD := (μ.1, v, μ.2.2)
def wTr (μ : MD) (v : MS) : MD := (μ.1, μ.2.1, v, μ.2.2.2)
def wHi (μ : MD) (v : (Nat → MS)) : MD := (μ.1, μ.2.1, μ.2.2.1, v, μ.2.2.2.2)
def wHL (μ : MD) (v : Int32) : MD := (μ.1, μ.2.1, μ.2.2.1, μ.2.2.2.1, v, μ.2.2.2.2.2)
def wSn (μ : MD) (v : MS) : MD := (μ.1, μ.2.1, μ.2.2.1, μ.2.2.2.1, μ.2.2.2.2.1, v, μ.2.2.2.2.2.2)
def wIT (μ : MD) (v : Int32) : MD := (μ.1, μ.2.1, μ.2.2.1, μ.2.2.2.1, μ.2.2.2.2.1, μ.2.2.2.2.2.1, v, μ.2.2.2.2.2.2.2)
def wSA (μ : MD) (v : Int32) : MD := (μ.1, μ.2.1, μ.2.2.1, μ.2.2.2.1, μ.2.2.2.2.1, μ.2.2.2.2.2.1, μ.2.2.2.2.2.2.1, v, μ.2.2.2.2.2.2.2.2)
def wSB (μ : MD) (v : Int32) : MD := (μ.1, μ.2.1, μ.2.2.1, μ.2.2.2.1, μ.2.2.2.2.1, μ.2.2.2.2.2.1, μ.2.2.2.2.2.2.1, μ.2.2.2.2.2.2.2.1, v, μ.2.2.2.2.2.2.2.2.2)
def wTx (μ : MD) (v : F) : MD := (μ.1, μ.2.1, μ.2.2.1, μ.2.2.2.1, μ.2.2.2.2.1, μ.2.2.2.2.2.1, μ.2.2.2.2.2.2.1, μ.2.2.2.2.2.2.2.1, μ.2.2.2.2.2.2.2.2.1, v, μ.2.2.2.2.2.2.2.2.2.2)
def wTL (μ : MD) (v : Int32) : MD := (μ.1, μ.2.1, μ.2.2.1, μ.2.2.2.1, μ.2.2.2.2.1, μ.2.2.2.2.2.1, μ.2.2.2.2.2.2.1, μ.2.2.2.2.2.2.2.1, μ.2.2.2.2.2.2.2.2.1, μ.2.2.2.2.2.2.2.2.2.1, v, μ.2.2.2.2.2.2.2.2.2.2.2)
def wSp (μ : MD) (v : Int32) : MD := (μ.1, μ.2.1, μ.2.2.1, μ.2.2.2.1, μ.2.2.2.2.1, μ.2.2.2.2.2.1, μ.2.2.2.2.2.2.1, μ.2.2.2.2.2.2.2.1, μ.2.2.2.2.2.2.2.2.1, μ.2.2.2.2.2.2.2.2.2.1, μ.2.2.2.2.2.2.2.2.2.2.1, v, μ.2.2.2.2.2.2.2.2.2.2.2.2)
def wNm (μ : MD) (v : Int32) : MD := (μ.1, μ.2.1, μ.2.2.1, μ.2.2.2.1, μ.2.2.2.2.1, μ.2.2.2.2.2.1, μ.2.2.2.2.2.2.1, μ.2.2.2.2.2.2.2.1, μ.2.2.2.2.2.2.2.2.1, μ.2.2.2.2.2.2.2.2.2.1, μ.2.2.2.2.2.2.2.2.2.2.1, μ.2.2.2.2.2.2.2.2.2.2.2.1, v, μ.2.2.2.2.2.2.2.2.2.2.2.2.2)
def wCm (μ : MD) (v : Int32) : MD := (μ.1, μ.2.1, μ.2.2.1, μ.2.2.2.1, μ.2.2.2.2.1, μ.2.2.2.2.2.1, μ.2.2.2.2.2.2.1, μ.2.2.2.2.2.2.2.1, μ.2.2.2.2.2.2.2.2.1, μ.2.2.2.2.2.2.2.2.2.1, μ.2.2.2.2.2.2.2.2.2.2.1, μ.2.2.2.2.2.2.2.2.2.2.2.1, μ.2.2.2.2.2.2.2.2.2.2.2.2.1, v, μ.2.2.2.2.2.2.2.2.2.2.2.2.2.2)
def wFi (μ : MD) (v : Int32) : MD := (μ.1, μ.2.1, μ.2.2.1, μ.2.2.2.1, μ.2.2.2.2.1, μ.2.2.2.2.2.1, μ.2.2.2.2.2.2.1, μ.2.2.2.2.2.2.2.1, μ.2.2.2.2.2.2.2.2.1, μ.2.2.2.2.2.2.2.2.2.1, μ.2.2.2.2.2.2.2.2.2.2.1, μ.2.2.2.2.2.2.2.2.2.2.2.1, μ.2.2.2.2.2.2.2.2.2.2.2.2.1, μ.2.2.2.2.2.2.2.2.2.2.2.2.2.1, v, μ.2.2.2.2.2.2.2.2.2.2.2.2.2.2.2)
def wSe (μ : MD) (v : Int32) : MD := (μ.1, μ.2.1, μ.2.2.1, μ.2.2.2.1, μ.2.2.2.2.1, μ.2.2.2.2.2.1, μ.2.2.2.2.2.2.1, μ.2.2.2.2.2.2.2.1, μ.2.2.2.2.2.2.2.2.1, μ.2.2.2.2.2.2.2.2.2.1, μ.2.2.2.2.2.2.2.2.2.2.1, μ.2.2.2.2.2.2.2.2.2.2.2.1, μ.2.2.2.2.2.2.2.2.2.2.2.2.1, μ.2.2.2.2.2.2.2.2.2.2.2.2.2.1, μ.2.2.2.2.2.2.2.2.2.2.2.2.2.2.1, v)
theorem rAl_Al (μ : MD) (v : MS) : mAl (wAl μ v) = v := rfl
theorem rKe_Al (μ : MD) (v : MS) : mKe (wAl μ v) = mKe μ := rfl
theorem rTr_Al (μ : MD) (v : MS) : mTr (wAl μ v) = mTr μ := rfl
theorem rHi_Al (μ : MD) (v : MS) : mHi (wAl μ v) = mHi μ := rfl
theorem rHL_Al (μ : MD) (v : MS) : mHL (wAl μ v) = mHL μ := rfl
theorem rSn_Al (μ : MD) (v : MS) : mSn (wAl μ v) = mSn μ := rfl
theorem rIT_Al (μ : MD) (v : MS) : mIT (wAl μ v) = mIT μ := rfl
theorem rSA_Al (μ : MD) (v : MS) : mSA (wAl μ v) = mSA μ := rfl
theorem rSB_Al (μ : MD) (v : MS) : mSB (wAl μ v) = mSB μ := rfl
theorem rTx_Al (μ : MD) (v : MS) : mTx (wAl μ v) = mTx μ := rfl
theorem rTL_Al (μ : MD) (v : MS) : mTL (wAl μ v) = mTL μ := rfl
theorem rSp_Al (μ : MD) (v : MS) : mSp (wAl μ v) = mSp μ := rfl
theorem rNm_Al (μ : MD) (v : MS) : mNm (wAl μ v) = mNm μ := rfl
theorem rCm_Al (μ : MD) (v : MS) : mCm (wAl μ v) = mCm μ := rfl
theorem rFi_Al (μ : MD) (v : MS) : mFi (wAl μ v) = mFi μ := rfl
theorem rSe_Al (μ : MD) (v : MS) : mSe (wAl μ v) = mSe μ := rfl
theorem rAl_Ke (μ : MD) (v : MS) : mAl (wKe μ v) = mAl μ := rfl
theorem rKe_Ke (μ : MD) (v : MS) : mKe (wKe μ v) = v := rfl
theorem rTr_Ke (μ : MD) (v : MS) : mTr (wKe μ v) = mTr μ := rfl
theorem rHi_Ke (μ : MD) (v : MS) : mHi (wKe μ v) = mHi μ := rfl
theorem rHL_Ke (μ : MD) (v : MS) : mHL (wKe μ v) = mHL μ := rfl
theorem rSn_Ke (μ : MD) (v : MS) : mSn (wKe μ v) = mSn μ := rfl
theorem rIT_Ke (μ : MD) (v : MS) : mIT (wKe μ v) = mIT μ := rfl
theorem rSA_Ke (μ : MD) (v : MS) : mSA (wKe μ v) = mSA μ := rfl
theorem rSB_Ke (μ : MD) (v : MS) : mSB (wKe μ v) = mSB μ := rfl
theorem rTx_Ke (μ : MD) (v : MS) : mTx (wKe μ v) = mTx μ := rfl
theorem rTL_Ke (μ : MD) (v : MS) : mTL (wKe μ v) = mTL μ := rfl
theorem rSp_Ke (μ : MD) (v : MS) : mSp (wKe μ v) = mSp μ := rfl
theorem rNm_Ke (μ : MD) (v : MS) : mNm (wKe μ v) = mNm μ := rfl
theorem rCm_Ke (μ : MD) (v : MS) : mCm (wKe μ v) = mCm μ := rfl
theorem rFi_Ke (μ : MD) (v : MS) : mFi (wKe μ v) = mFi μ := rfl
theorem rSe_Ke (μ : MD) (v : MS) : mSe (wKe μ v) = mSe μ := rfl
theorem rAl_Tr (μ : MD) (v : MS) : mAl (wTr μ v) = mAl μ := rfl
theorem rKe_Tr (μ : MD) (v : MS) : mKe (wTr μ v) = mKe μ := rfl
theorem rTr_Tr (μ : MD) (v : MS) : mTr (wTr μ v) = v := rfl
theorem rHi_Tr (μ : MD) (v : MS) : mHi (wTr μ v) = mHi μ := rfl
theorem rHL_Tr (μ : MD) (v : MS) : mHL (wTr μ v) = mHL μ := rfl
theorem rSn_Tr (μ : MD) (v : MS) : mSn (wTr μ v) = mSn μ := rfl
theorem rIT_Tr (μ : MD) (v : MS) : mIT (wTr μ v) = mIT μ := rfl
theorem rSA_Tr (μ : MD) (v : MS) : mSA (wTr μ v) = mSA μ := rfl
theorem rSB_Tr (μ : MD) (v : MS) : mSB (wTr μ v) = mSB μ := rfl
theorem rTx_Tr (μ : MD) (v : MS) : mTx (wTr μ v) = mTx μ := rfl
theorem rTL_Tr (μ : MD) (v : MS) : mTL (wTr μ v) = mTL μ := rfl
theorem rSp_Tr (μ : MD) (v : MS) : mSp (wTr μ v) = mSp μ := rfl
theorem rNm_Tr (μ : MD) (v : MS) : mNm (wTr μ v) = mNm μ := rfl
theorem rCm_Tr (μ : MD) (v : MS) : mCm (wTr μ v) = mCm μ := rfl
theorem rFi_Tr (μ : MD) (v : MS) : mFi (wTr μ v) = mFi μ := rfl
theorem rSe_Tr (μ : MD) (v : MS) : mSe (wTr μ v) = mSe μ := rfl
theorem rAl_Hi (μ : MD) (v : (Nat → MS)) : mAl (wHi μ v) = mAl μ := rfl
theorem rKe_Hi (μ : MD) (v : (Nat → MS)) : mKe (wHi μ v) = mKe μ := rfl
theorem rTr_Hi (μ : MD) (v : (Nat → MS)) : mTr (wHi μ v) = mTr μ := rfl
theorem rHi_Hi (μ : MD) (v : (Nat → MS)) : mHi (wHi μ v) = v := rfl
theorem rHL_Hi (μ : MD) (v : (Nat → MS)) : mHL (wHi μ v) = mHL μ := rfl
theorem rSn_Hi (μ : MD) (v : (Nat → MS)) : mSn (wHi μ v) = mSn μ := rfl
theorem rIT_Hi (μ : MD) (v : (Nat → MS)) : mIT (wHi μ v) = mIT μ := rfl
theorem rSA_Hi (μ : MD) (v : (Nat → MS)) : mSA (wHi μ v) = mSA μ := rfl
theorem rSB_Hi (μ : MD) (v : (Nat → MS)) : mSB (wHi μ v) = mSB μ := rfl
theorem rTx_Hi (μ : MD) (v : (Nat → MS)) : mTx (wHi μ v) = mTx μ := rfl
theorem rTL_Hi (μ : MD) (v : (Nat → MS)) : mTL (wHi μ v) = mTL μ := rfl
theorem rSp_Hi (μ : MD) (v : (Nat → MS)) : mSp (wHi μ v) = mSp μ := rfl
theorem rNm_Hi (μ : MD) (v : (Nat → MS)) : mNm (wHi μ v) = mNm μ := rfl
theorem rCm_Hi (μ : MD) (v : (Nat → MS)) : mCm (wHi μ v) = mCm μ := rfl
theorem rFi_Hi (μ : MD) (v : (Nat → MS)) : mFi (wHi μ v) = mFi μ := rfl
theorem rSe_Hi (μ : MD) (v : (Nat → MS)) : mSe (wHi μ v) = mSe μ := rfl
theorem rAl_HL (μ : MD) (v : Int32) : mAl (wHL μ v) = mAl μ := rfl
theorem rKe_HL (μ : MD) (v : Int32) : mKe (wHL μ v) = mKe μ := rfl
theorem rTr_HL (μ : MD) (v : Int32) : mTr (wHL μ v) = mTr μ := rfl
theorem rHi_HL (μ : MD) (v : Int32) : mHi (wHL μ v) = mHi μ := rfl
theorem rHL_HL (μ : MD) (v : Int32) : mHL (wHL μ v) = v := rfl
theorem rSn_HL (μ : MD) (v : Int32) : mSn (wHL μ v) = mSn μ := rfl
theorem rIT_HL (μ : MD) (v : Int32) : mIT (wHL μ v) = mIT μ := rfl
theorem rSA_HL (μ : MD) (v : Int32) : mSA (wHL μ v) = mSA μ := rfl
theorem rSB_HL (μ : MD) (v : Int32) : mSB (wHL μ v) = mSB μ := rfl
theorem rTx_HL (μ : MD) (v : Int32) : mTx (wHL μ v) = mTx μ := rfl
theorem rTL_HL (μ : MD) (v : Int32) : mTL (wHL μ v) = mTL μ := rfl
theorem rSp_HL (μ : MD) (v : Int32) : mSp (wHL μ v) = mSp μ := rfl
theorem rNm_HL (μ : MD) (v : Int32) : mNm (wHL μ v) = mNm μ := rfl
theorem rCm_HL (μ : MD) (v : Int32) : mCm (wHL μ v) = mCm μ := rfl
theorem rFi_HL (μ : MD) (v : Int32) : mFi (wHL μ v) = mFi μ := rfl
theorem rSe_HL (μ : MD) (v : Int32) : mSe (wHL μ v) = mSe μ := rfl
theorem rAl_Sn (μ : MD) (v : MS) : mAl (wSn μ v) = mAl μ := rfl
theorem rKe_Sn (μ : MD) (v : MS) : mKe (wSn μ v) = mKe μ := rfl
theorem rTr_Sn (μ : MD) (v : MS) : mTr (wSn μ v) = mTr μ := rfl
theorem rHi_Sn (μ : MD) (v : MS) : mHi (wSn μ v) = mHi μ := rfl
theorem rHL_Sn (μ : MD) (v : MS) : mHL (wSn μ v) = mHL μ := rfl
theorem rSn_Sn (μ : MD) (v : MS) : mSn (wSn μ v) = v := rfl
theorem rIT_Sn (μ : MD) (v : MS) : mIT (wSn μ v) = mIT μ := rfl
theorem rSA_Sn (μ : MD) (v : MS) : mSA (wSn μ v) = mSA μ := rfl
theorem rSB_Sn (μ : MD) (v : MS) : mSB (wSn μ v) = mSB μ := rfl
theorem rTx_Sn (μ : MD) (v : MS) : mTx (wSn μ v) = mTx μ := rfl
theorem rTL_Sn (μ : MD) (v : MS) : mTL (wSn μ v) = mTL μ := rfl
theorem rSp_Sn (μ : MD) (v : MS) : mSp (wSn μ v) = mSp μ := rfl
theorem rNm_Sn (μ : MD) (v : MS) : mNm (wSn μ v) = mNm μ := rfl
theorem rCm_Sn (μ : MD) (v : MS) : mCm (wSn μ v) = mCm μ := rfl
theorem rFi_Sn (μ : MD) (v : MS) : mFi (wSn μ v) = mFi μ := rfl
theorem rSe_Sn (μ : MD) (v : MS) : mSe (wSn μ v) = mSe μ := rfl
theorem rAl_IT (μ : MD) (v : Int32) : mAl (wIT μ v) = mAl μ := rfl
theorem rKe_IT (μ : MD) (v : Int32) : mKe (wIT μ v) = mKe μ := rfl
theorem rTr_IT (μ : MD) (v : Int32) : mTr (wIT μ v) = mTr μ := rfl
theorem rHi_IT (μ : MD) (v : Int32) : mHi (wIT μ v) = mHi μ := rfl
theorem rHL_IT (μ : MD) (v : Int32) : mHL (wIT μ v) = mHL μ := rfl
theorem rSn_IT (μ : MD) (v : Int32) : mSn (wIT μ v) = mSn μ := rfl
theorem rIT_IT (μ : MD) (v : Int32) : mIT (wIT μ v) = v := rfl
theorem rSA_IT (μ : MD) (v : Int32) : mSA (wIT μ v) = mSA μ := rfl
theorem rSB_IT (μ : MD) (v : Int32) : mSB (wIT μ v) = mSB μ := rfl
theorem rTx_IT (μ : MD) (v : Int32) : mTx (wIT μ v) = mTx μ := rfl
theorem rTL_IT (μ : MD) (v : Int32) : mTL (wIT μ v) = mTL μ := rfl
theorem rSp_IT (μ : MD) (v : Int32) : mSp (wIT μ v) = mSp μ := rfl
theorem rNm_IT (μ : MD) (v : Int32) : mNm (wIT μ v) = mNm μ := rfl
theorem rCm_IT (μ : MD) (v : Int32) : mCm (wIT μ v) = mCm μ := rfl
theorem rFi_IT (μ : MD) (v : Int32) : mFi (wIT μ v) = mFi μ := rfl
theorem rSe_IT (μ : MD) (v : Int32) : mSe (wIT μ v) = mSe μ := rfl
theorem rAl_SA (μ : MD) (v : Int32) : mAl (wSA μ v) = mAl μ := rfl
theorem rKe_SA (μ : MD) (v : Int32) : mKe (wSA μ v) = mKe μ := rfl
theorem rTr_SA (μ : MD) (v : Int32) : mTr (wSA μ v) = mTr μ := rfl
theorem rHi_SA (μ : MD) (v : Int32) : mHi (wSA μ v) = mHi μ := rfl
theorem rHL_SA (μ : MD) (v : Int32) : mHL (wSA μ v) = mHL μ := rfl
theorem rSn_SA (μ : MD) (v : Int32) : mSn (wSA μ v) = mSn μ := rfl
theorem rIT_SA (μ : MD) (v : Int32) : mIT (wSA μ v) = mIT μ := rfl
theorem rSA_SA (μ : MD) (v : Int32) : mSA (wSA μ v) = v := rfl
theorem rSB_SA (μ : MD) (v : Int32) : mSB (wSA μ v) = mSB μ := rfl
theorem rTx_SA (μ : MD) (v : Int32) : mTx (wSA μ v) = mTx μ := rfl
theorem rTL_SA (μ : MD) (v : Int32) : mTL (wSA μ v) = mTL μ := rfl
theorem rSp_SA (μ : MD) (v : Int32) : mSp (wSA μ v) = mSp μ := rfl
theorem rNm_SA (μ : MD) (v : Int32) : mNm (wSA μ v) = mNm μ := rfl
theorem rCm_SA (μ : MD) (v : Int32) : mCm (wSA μ v) = mCm μ := rfl
theorem rFi_SA (μ : MD) (v : Int32) : mFi (wSA μ v) = mFi μ := rfl
theorem rSe_SA (μ : MD) (v : Int32) : mSe (wSA μ v) = mSe μ := rfl
theorem rAl_SB (μ : MD) (v : Int32) : mAl (wSB μ v) = mAl μ := rfl
theorem rKe_SB (μ : MD) (v : Int32) : mKe (wSB μ v) = mKe μ := rfl
theorem rTr_SB (μ : MD) (v : Int32) : mTr (wSB μ v) = mTr μ := rfl
theorem rHi_SB (μ : MD) (v : Int32) : mHi (wSB μ v) = mHi μ := rfl
theorem rHL_SB (μ : MD) (v : Int32) : mHL (wSB μ v) = mHL μ := rfl
theorem rSn_SB (μ : MD) (v : Int32) : mSn (wSB μ v) = mSn μ := rfl
theorem rIT_SB (μ : MD) (v : Int32) : mIT (wSB μ v) = mIT μ := rfl
theorem rSA_SB (μ : MD) (v : Int32) : mSA (wSB μ v) = mSA μ := rfl
theorem rSB_SB (μ : MD) (v : Int32) : mSB (wSB μ v) = v := rfl
theorem rTx_SB (μ : MD) (v : Int32) : mTx (wSB μ v) = mTx μ := rfl
theorem rTL_SB (μ : MD) (v : Int32) : mTL (wSB μ v) = mTL μ := rfl
theorem rSp_SB (μ : MD) (v : Int32) : mSp (wSB μ v) = mSp μ := rfl
theorem rNm_SB (μ : MD) (v : Int32) : mNm (wSB μ v) = mNm μ := rfl
theorem rCm_SB (μ : MD) (v : Int32) : mCm (wSB μ v) = mCm μ := rfl
theorem rFi_SB (μ : MD) (v : Int32) : mFi (wSB μ v) = mFi μ := rfl
theorem rSe_SB (μ : MD) (v : Int32) : mSe (wSB μ v) = mSe μ := rfl
theorem rAl_Tx (μ : MD) (v : F) : mAl (wTx μ v) = mAl μ := rfl
theorem rKe_Tx (μ : MD) (v : F) : mKe (wTx μ v) = mKe μ := rfl
theorem rTr_Tx (μ : MD) (v : F) : mTr (wTx μ v) = mTr μ := rfl
theorem rHi_Tx (μ : MD) (v : F) : mHi (wTx μ v) = mHi μ := rfl
theorem rHL_Tx (μ : MD) (v : F) : mHL (wTx μ v) = mHL μ := rfl
theorem rSn_Tx (μ : MD) (v : F) : mSn (wTx μ v) = mSn μ := rfl
theorem rIT_Tx (μ : MD) (v : F) : mIT (wTx μ v) = mIT μ := rfl
theorem rSA_Tx (μ : MD) (v : F) : mSA (wTx μ v) = mSA μ := rfl
theorem rSB_Tx (μ : MD) (v : F) : mSB (wTx μ v) = mSB μ := rfl
theorem rTx_Tx (μ : MD) (v : F) : mTx (wTx μ v) = v := rfl
theorem rTL_Tx (μ : MD) (v : F) : mTL (wTx μ v) = mTL μ := rfl
theorem rSp_Tx (μ : MD) (v : F) : mSp (wTx μ v) = mSp μ := rfl
theorem rNm_Tx (μ : MD) (v : F) : mNm (wTx μ v) = mNm μ := rfl
theorem rCm_Tx (μ : MD) (v : F) : mCm (wTx μ v) = mCm μ := rfl
theorem rFi_Tx (μ : MD) (v : F) : mFi (wTx μ v) = mFi μ := rfl
theorem rSe_Tx (μ : MD) (v : F) : mSe (wTx μ v) = mSe μ := rfl
theorem rAl_TL (μ : MD) (v : Int32) : mAl (wTL μ v) = mAl μ := rfl
theorem rKe_TL (μ : MD) (v : Int32) : mKe (wTL μ v) = mKe μ := rfl
theorem rTr_TL (μ : MD) (v : Int32) : mTr (wTL μ v) = mTr μ := rfl
theorem rHi_TL (μ : MD) (v : Int32) : mHi (wTL μ v) = mHi μ := rfl
theorem rHL_TL (μ : MD) (v : Int32) : mHL (wTL μ v) = mHL μ := rfl
theorem rSn_TL (μ : MD) (v : Int32) : mSn (wTL μ v) = mSn μ := rfl
theorem rIT_TL (μ : MD) (v : Int32) : mIT (wTL μ v) = mIT μ := rfl
theorem rSA_TL (μ : MD) (v : Int32) : mSA (wTL μ v) = mSA μ := rfl
theorem rSB_TL (μ : MD) (v : Int32) : mSB (wTL μ v) = mSB μ := rfl
theorem rTx_TL (μ : MD) (v : Int32) : mTx (wTL μ v) = mTx μ := rfl
theorem rTL_TL (μ : MD) (v : Int32) : mTL (wTL μ v) = v := rfl
theorem rSp_TL (μ : MD) (v : Int32) : mSp (wTL μ v) = mSp μ := rfl
theorem rNm_TL (μ : MD) (v : Int32) : mNm (wTL μ v) = mNm μ := rfl
theorem rCm_TL (μ : MD) (v : Int32) : mCm (wTL μ v) = mCm μ := rfl
theorem rFi_TL (μ : MD) (v : Int32) : mFi (wTL μ v) = mFi μ := rfl
theorem rSe_TL (μ : MD) (v : Int32) : mSe (wTL μ v) = mSe μ := rfl
theorem rAl_Sp (μ : MD) (v : Int32) : mAl (wSp μ v) = mAl μ := rfl
theorem rKe_Sp (μ : MD) (v : Int32) : mKe (wSp μ v) = mKe μ := rfl
theorem rTr_Sp (μ : MD) (v : Int32) : mTr (wSp μ v) = mTr μ := rfl
theorem rHi_Sp (μ : MD) (v : Int32) : mHi (wSp μ v) = mHi μ := rfl
theorem rHL_Sp (μ : MD) (v : Int32) : mHL (wSp μ v) = mHL μ := rfl
theorem rSn_Sp (μ : MD) (v : Int32) : mSn (wSp μ v) = mSn μ := rfl
theorem rIT_Sp (μ : MD) (v : Int32) : mIT (wSp μ v) = mIT μ := rfl
theorem rSA_Sp (μ : MD) (v : Int32) : mSA (wSp μ v) = mSA μ := rfl
theorem rSB_Sp (μ : MD) (v : Int32) : mSB (wSp μ v) = mSB μ := rfl
theorem rTx_Sp (μ : MD) (v : Int32) : mTx (wSp μ v) = mTx μ := rfl
theorem rTL_Sp (μ : MD) (v : Int32) : mTL (wSp μ v) = mTL μ := rfl
theorem rSp_Sp (μ : MD) (v : Int32) : mSp (wSp μ v) = v := rfl
theorem rNm_Sp (μ : MD) (v : Int32) : mNm (wSp μ v) = mNm μ := rfl
theorem rCm_Sp (μ : MD) (v : Int32) : mCm (wSp μ v) = mCm μ := rfl
theorem rFi_Sp (μ : MD) (v : Int32) : mFi (wSp μ v) = mFi μ := rfl
theorem rSe_Sp (μ : MD) (v : Int32) : mSe (wSp μ v) = mSe μ := rfl
theorem rAl_Nm (μ : MD) (v : Int32) : mAl (wNm μ v) = mAl μ := rfl
theorem rKe_Nm (μ : MD) (v : Int32) : mKe (wNm μ v) = mKe μ := rfl
theorem rTr_Nm (μ : MD) (v : Int32) : mTr (wNm μ v) = mTr μ := rfl
theorem rHi_Nm (μ : MD) (v : Int32) : mHi (wNm μ v) = mHi μ := rfl
theorem rHL_Nm (μ : MD) (v : Int32) : mHL (wNm μ v) = mHL μ := rfl
theorem rSn_Nm (μ : MD) (v : Int32) : mSn (wNm μ v) = mSn μ := rfl
theorem rIT_Nm (μ : MD) (v : Int32) : mIT (wNm μ v) = mIT μ := rfl
theorem rSA_Nm (μ : MD) (v : Int32) : mSA (wNm μ v) = mSA μ := rfl
theorem rSB_Nm (μ : MD) (v : Int32) : mSB (wNm μ v) = mSB μ := rfl
theorem rTx_Nm (μ : MD) (v : Int32) : mTx (wNm μ v) = mTx μ := rfl
theorem rTL_Nm (μ : MD) (v : Int32) : mTL (wNm μ v) = mTL μ := rfl
theorem rSp_Nm (μ : MD) (v : Int32) : mSp (wNm μ v) = mSp μ := rfl
theorem rNm_Nm (μ : MD) (v : Int32) : mNm (wNm μ v) = v := rfl
theorem rCm_Nm (μ : MD) (v : Int32) : mCm (wNm μ v) = mCm μ := rfl
theorem rFi_Nm (μ : MD) (v : Int32) : mFi (wNm μ v) = mFi μ := rfl
theorem rSe_Nm (μ : MD) (v : Int32) : mSe (wNm μ v) = mSe μ := rfl
theorem rAl_Cm (μ : MD) (v : Int32) : mAl (wCm μ v) = mAl μ := rfl
theorem rKe_Cm (μ : MD) (v : Int32) : mKe (wCm μ v) = mKe μ := rfl
theorem rTr_Cm (μ : MD) (v : Int32) : mTr (wCm μ v) = mTr μ := rfl
theorem rHi_Cm (μ : MD) (v : Int32) : mHi (wCm μ v) = mHi μ := rfl
theorem rHL_Cm (μ : MD) (v : Int32) : mHL (wCm μ v) = mHL μ := rfl
theorem rSn_Cm (μ : MD) (v : Int32) : mSn (wCm μ v) = mSn μ := rfl
theorem rIT_Cm (μ : MD) (v : Int32) : mIT (wCm μ v) = mIT μ := rfl
theorem rSA_Cm (μ : MD) (v : Int32) : mSA (wCm μ v) = mSA μ := rfl
theorem rSB_Cm (μ : MD) (v : Int32) : mSB (wCm μ v) = mSB μ := rfl
theorem rTx_Cm (μ : MD) (v : Int32) : mTx (wCm μ v) = mTx μ := rfl
theorem rTL_Cm (μ : MD) (v : Int32) : mTL (wCm μ v) = mTL μ := rfl
theorem rSp_Cm (μ : MD) (v : Int32) : mSp (wCm μ v) = mSp μ := rfl
theorem rNm_Cm (μ : MD) (v : Int32) : mNm (wCm μ v) = mNm μ := rfl
theorem rCm_Cm (μ : MD) (v : Int32) : mCm (wCm μ v) = v := rfl
theorem rFi_Cm (μ : MD) (v : Int32) : mFi (wCm μ v) = mFi μ := rfl
theorem rSe_Cm (μ : MD) (v : Int32) : mSe (wCm μ v) = mSe μ := rfl
theorem rAl_Fi (μ : MD) (v : Int32) : mAl (wFi μ v) = mAl μ := rfl
theorem rKe_Fi (μ : MD) (v : Int32) : mKe (wFi μ v) = mKe μ := rfl
theorem rTr_Fi (μ : MD) (v : Int32) : mTr (wFi μ v) = mTr μ := rfl
theorem rHi_Fi (μ : MD) (v : Int32) : mHi (wFi μ v) = mHi μ := rfl
theorem rHL_Fi (μ : MD) (v : Int32) : mHL (wFi μ v) = mHL μ := rfl
theorem rSn_Fi (μ : MD) (v : Int32) : mSn (wFi μ v) = mSn μ := rfl
theorem rIT_Fi (μ : MD) (v : Int32) : mIT (wFi μ v) = mIT μ := rfl
theorem rSA_Fi (μ : MD) (v : Int32) : mSA (wFi μ v) = mSA μ := rfl
theorem rSB_Fi (μ : MD) (v : Int32) : mSB (wFi μ v) = mSB μ := rfl
theorem rTx_Fi (μ : MD) (v : Int32) : mTx (wFi μ v) = mTx μ := rfl
theorem rTL_Fi (μ : MD) (v : Int32) : mTL (wFi μ v) = mTL μ := rfl
theorem rSp_Fi (μ : MD) (v : Int32) : mSp (wFi μ v) = mSp μ := rfl
theorem rNm_Fi (μ : MD) (v : Int32) : mNm (wFi μ v) = mNm μ := rfl
theorem rCm_Fi (μ : MD) (v : Int32) : mCm (wFi μ v) = mCm μ := rfl
theorem rFi_Fi (μ : MD) (v : Int32) : mFi (wFi μ v) = v := rfl
theorem rSe_Fi (μ : MD) (v : Int32) : mSe (wFi μ v) = mSe μ := rfl
theorem rAl_Se (μ : MD) (v : Int32) : mAl (wSe μ v) = mAl μ := rfl
theorem rKe_Se (μ : MD) (v : Int32) : mKe (wSe μ v) = mKe μ := rfl
theorem rTr_Se (μ : MD) (v : Int32) : mTr (wSe μ v) = mTr μ := rfl
theorem rHi_Se (μ : MD) (v : Int32) : mHi (wSe μ v) = mHi μ := rfl
theorem rHL_Se (μ : MD) (v : Int32) : mHL (wSe μ v) = mHL μ := rfl
theorem rSn_Se (μ : MD) (v : Int32) : mSn (wSe μ v) = mSn μ := rfl
theorem rIT_Se (μ : MD) (v : Int32) : mIT (wSe μ v) = mIT μ := rfl
theorem rSA_Se (μ : MD) (v : Int32) : mSA (wSe μ v) = mSA μ := rfl
theorem rSB_Se (μ : MD) (v : Int32) : mSB (wSe μ v) = mSB μ := rfl
theorem rTx_Se (μ : MD) (v : Int32) : mTx (wSe μ v) = mTx μ := rfl
theorem rTL_Se (μ : MD) (v : Int32) : mTL (wSe μ v) = mTL μ := rfl
theorem rSp_Se (μ : MD) (v : Int32) : mSp (wSe μ v) = mSp μ := rfl
theorem rNm_Se (μ : MD) (v : Int32) : mNm (wSe μ v) = mNm μ := rfl
theorem rCm_Se (μ : MD) (v : Int32) : mCm (wSe μ v) = mCm μ := rfl
theorem rFi_Se (μ : MD) (v : Int32) : mFi (wSe μ v) = mFi μ := rfl
theorem rSe_Se (μ : MD) (v : Int32) : mSe (wSe μ v) = v := rfl
def modW (E : Ev) (m : Nat) (b : Nat → Nat) (μ : MD) : va_W := [(m, .inr (4, [.ref (b 0), .ref (b 1), .ref (b 2), .ref (b 3), .int (mHL μ), .ref (b 4), .int (mIT μ), .int (mSA μ), .int (mSB μ), .ref (b 5), .int (mTL μ), .int (mSp μ), .int (mNm μ), .int (mCm μ), .int (mFi μ), .int (mSe μ)])), (b 0, .inl (E.2.2 0, 92, .inl (pk (mAl μ)))), (b 1, .inl (E.2.2 0, 92, .inl (pk (mKe μ)))), (b 2, .inl (E.2.2 0, 92, .inl (pk (mTr μ)))), (b 3, .inl (E.2.2 0, 368, .inl (pkH (mHi μ)))), (b 4, .inl (E.2.2 0, 92, .inl (pk (mSn μ)))), (b 5, .inl (E.2.2 0, 80, .inl (mTx μ)))]
def xWi (μ : MD) (j : Nat) (v : Int32) : MD := wAl μ (vWi (mAl μ) j v)
abbrev gWi (μ : MD) : F := sWi (mAl μ).1
def xCf (μ : MD) (j : Nat) (v : Int32) : MD := wAl μ (vCf (mAl μ) j v)
abbrev gCf (μ : MD) : F := sCf (mAl μ).1
def xSt (μ : MD) (j : Nat) (v : Int32) : MD := wAl μ (vSt (mAl μ) j v)
abbrev gSt (μ : MD) : F := sSt (mAl μ).1
def xNu (μ : MD) (j : Nat) (v : Int32) : MD := wAl μ (vNu (mAl μ) j v)
abbrev gNu (μ : MD) : F := sNu (mAl μ).1
def xHt (μ : MD) (j : Nat) (v : Int32) : MD := wAl μ (vHt (mAl μ) j v)
abbrev gHt (μ : MD) : F := sHt (mAl μ).1
def xFr (μ : MD) (j : Nat) (v : Int32) : MD := wAl μ (vFr (mAl μ) j v)
abbrev gFr (μ : MD) : F := sFr (mAl μ).1
def xRe (μ : MD) (j : Nat) (v : Int32) : MD := wAl μ (vRe (mAl μ) j v)
abbrev gRe (μ : MD) : F := sRe (mAl μ).1
def xCu (μ : MD) (j : Nat) (v : Int32) : MD := wAl μ (vCu (mAl μ) j v)
abbrev gCu (μ : MD) : F := sCu (mAl μ).1
def xCh (μ : MD) (v : Int32) : MD := wAl μ (vCh (mAl μ) v)
abbrev gCh (μ : MD) : Int32 := sCh (mAl μ).1
def xSi (μ : MD) (v : Int32) : MD := wAl μ (vSi (mAl μ) v)
abbrev gSi (μ : MD) : Int32 := sSi (mAl μ).1
def xRs (μ : MD) (v : Int32) : MD := wAl μ (vRs (mAl μ) v)
abbrev gRs (μ : MD) : Int32 := sRs (mAl μ).1
def xBs (μ : MD) (v : Int32) : MD := wAl μ (vBs (mAl μ) v)
abbrev gBs (μ : MD) : Int32 := sBs (mAl μ).1
def xBe (μ : MD) (v : Int32) : MD := wAl μ (vBe (mAl μ) v)
def xCt (μ : MD) (v : Int32) : MD := wAl μ (vCt (mAl μ) v)
abbrev gBe (μ : MD) : Int32 := (mAl μ).2.1
abbrev gCt (μ : MD) : Int32 := (mAl μ).2.2
/-! what its methods answer -/
abbrev isKm (st : F) (k : Int32) : Prop := 0 ≤ k ∧ k < 12 ∧ ¬ st k.toNatClampNeg = -10005
def kaN (st ht : F) (s h : Int32) : Nat := ff (fun k => st k == s && ht k == h) 12 0
def kaR (st ht : F) (s h : Int32) : Int32 := if kaN st ht s h < 12 then nI (kaN st ht s h) else -10005
def optI : Option Nat → Int32
  | none => -10005
  | some k => nI k
def bsU (ht : F) (t : Int32) : Option Nat → Int32
  | none => 999
  | some p => ht p - t
def bsD (ht : F) (t : Int32) : Option Nat → Int32
  | none => 999
  | some p => t - ht p
def nxU (st ht : F) (s t : Int32) : Nat → Option Nat
  | 0 => none
  | k + 1 => if st k = s ∧ 0 < ht k - t ∧ ht k - t < bsU ht t (nxU st ht s t k) then some k else nxU st ht s t k
def nxD (st ht : F) (s t : Int32) : Nat → Option Nat
  | 0 => none
  | k + 1 => if st k = s ∧ 0 < t - ht k ∧ t - ht k < bsD ht t (nxD st ht s t k) then some k else nxD st ht s t k
theorem nxU_lt {st ht : F} {s t : Int32} {p : Nat} : ∀ n, nxU st ht s t n = some p → p < n
  | 0, h => by cases h
  | n + 1, h => by
    rw [nxU] at h
    split at h
    · cases h; omega
    · have := nxU_lt n h; omega
theorem nxD_lt {st ht : F} {s t : Int32} {p : Nat} : ∀ n, nxD st ht s t n = some p → p < n
  | 0, h => by cases h
  | n + 1, h => by
    rw [nxD] at h
    split at h
    · cases h; omega
    · have := nxD_lt n h; omega
theorem nI_neN {p : Nat} (h : p < 2 ^ 31) : ¬ nI p = -10005 := by
  intro z
  have := congrArg Int32.toInt z
  rw [nI_toInt h] at this
  have e : (-10005 : Int32).toInt = -10005 := by decide
  omega
def onF (st : F) (s : Int32) : F := fun k => if st k = s then 1 else 0
abbrev kitO (st : F) (s : Int32) : Int32 := sumN (onF st s) 12
def manF (st : F) : F := fun s => kitO st (nI s)
abbrev many4 (st : F) : Int32 := sumN (manF st) 4
def rkF (st ht : F) (s h : Int32) : F := fun k => if st k = s ∧ h < ht k then 1 else 0
def psF (st ht : F) (s lo hi : Int32) : F := fun k => if st k = s ∧ lo < ht k ∧ ht k < hi then 1 else 0
def mLands (τ : MS) (j : Nat) (s t : Int32) : MS := vHt (vSt (vSt τ j (-10005)) j s) j (land (sSt (vSt τ j (-10005)).1) (sHt τ.1) s t)
def xLands (μ : MD) (j : Nat) (s t : Int32) : MD := wAl μ (mLands (mAl μ) j s t)
/-- a landing that ends within twelve -/
abbrev hF (st ht : F) (s t : Int32) : Prop := ¬ tk st ht s (land st ht s t) = true
abbrev hL (τ : MS) (j : Nat) (s t : Int32) : Prop := hF (sSt (vSt τ j (-10005)).1) (sHt τ.1) s t
def mFly (τ : MS) (s n : Int32) (k : Nat) : MS := vCu (vRe (vFr (vNu (mLands τ k s 0) k n) k 0) k 0) k 0
def freeM (st : F) : Nat := ff (fun j => st j == -10005) 12 0
def mCut (τ : MS) (j q : Nat) : MS := vCf (vCt (vCu τ j (sCu τ.1 j + 1)) ((vCu τ j (sCu τ.1 j + 1)).2.2 + 1)) q (sCf τ.1 q + 1)
abbrev mRis1 (τ : MS) (j : Nat) (w : Int32) : MS := mLands τ j (sSt τ.1 j) (sHt τ.1 j + w + 1)
abbrev mRis2 (τ : MS) (j : Nat) (w : Int32) : MS := mLands (mRis1 τ j w) j (behi (sSt τ.1 j)) 0
abbrev mIsC (τ : MS) (j : Nat) (w : Int32) : Prop := sCh (mRis1 τ j w).1 < sHt (mRis1 τ j w).1 j
def mRises (τ : MS) (j q : Nat) (w : Int32) : MS := if mIsC τ j w then mCut (mRis2 τ j w) j q else mRis1 τ j w
def xRises (μ : MD) (j q : Nat) (w : Int32) : MD := wAl μ (mRises (mAl μ) j q w)
abbrev hR (τ : MS) (j : Nat) (w : Int32) : Prop := hL τ j (sSt τ.1 j) (sHt τ.1 j + w + 1) ∧ hL (mRis1 τ j w) j (behi (sSt τ.1 j)) 0
def mReadE (τ : MS) (j : Nat) : MS := vRs (vRe (vFr τ j 1) j (sRe τ.1 j + 1)) (sRs τ.1 + 1)
def mRead (τ : MS) (j q : Nat) (w : Int32) : MS := mReadE (mRises τ j q w) j
def xRead (μ : MD) (j q : Nat) (w : Int32) : MD := wAl μ (mRead (mAl μ) j q w)
def mWrite (τ : MS) (j : Nat) (n : Int32) : MS := vFr (vNu τ j n) j 1
def xWrite (μ : MD) (j : Nat) (n : Int32) : MD := wAl μ (mWrite (mAl μ) j n)
/-- one kite sinks -/
def mSkT (τ : MS) (k : Nat) (u : Int32) : Int32 := if sFr τ.1 k = 1 then sHt τ.1 k else if sHt τ.1 k - sSi τ.1 < u + 1 then u + 1 else sHt τ.1 k - sSi τ.1
def mSkO (τ : MS) (k : Nat) (u : Int32) : MS := vHt τ k (mSkT τ k u)
def skG (s : Int32) : Nat → Int32 → Option Nat → MS → MS
  | 0, _, _, τ => τ
  | _ + 1, _, none, τ => τ
  | n + 1, u, some k, τ => skG s n (mSkT τ k u) (nxU (sSt τ.1) (sHt (mSkO τ k u).1) s (sHt τ.1 k) 12) (mSkO τ k u)
def skE (s : Int32) : Nat → Int32 → Option Nat → MS → Prop
  | 0, _, ko, _ => ko = none
  | _ + 1, _, none, _ => True
  | n + 1, u, some k, τ => skE s n (mSkT τ k u) (nxU (sSt τ.1) (sHt (mSkO τ k u).1) s (sHt τ.1 k) 12) (mSkO τ k u)
abbrev mSink (τ : MS) (s : Int32) : MS := skG s 12 (-1) (nxU (sSt τ.1) (sHt τ.1) s (-1) 12) τ
abbrev hSk (τ : MS) (s : Int32) : Prop := skE s 12 (-1) (nxU (sSt τ.1) (sHt τ.1) s (-1) 12) τ
def mSkN (τ : MS) : Nat → MS
  | 0 => τ
  | n + 1 => mSink (mSkN τ n) (nI n)
def mEnd (τ : MS) : Nat → MS
  | 0 => τ
  | n + 1 => vFr (mEnd τ n) n 0
def mBeat1 (τ : MS) : MS := vBs (vBe (mEnd (mSkN τ 4) 12) ((mEnd (mSkN τ 4) 12).2.1 + 1 - ((mEnd (mSkN τ 4) 12).2.1 + 1) / 8 * 8)) (sBs (mEnd (mSkN τ 4) 12).1 + 1)
def mBeatN (τ : MS) : Nat → MS
  | 0 => τ
  | n + 1 => mBeat1 (mBeatN τ n)
abbrev hBt (τ : MS) (n : Nat) : Prop := ∀ i, i < n → ∀ s, s < 4 → hSk (mSkN (mBeatN τ i) s) (nI s)
def xSink (μ : MD) (s : Int32) : MD := wAl μ (mSink (mAl μ) s)
def xSkN (μ : MD) (n : Nat) : MD := wAl μ (mSkN (mAl μ) n)
def xEnd (μ : MD) (n : Nat) : MD := wAl μ (mEnd (mAl μ) n)
def xBeatN (μ : MD) (n : Nat) : MD := wAl μ (mBeatN (mAl μ) n)
def xAct (μ : MD) (n : Nat) : MD := if n = 4 then wHL (wHi μ (fun i => if i = 3 then mKe μ else mHi μ (i + 1))) 4 else wHL (wHi μ (fun i => if i = n then mKe μ else mHi μ i)) (nI (n + 1))
def xKee (μ : MD) : MD := wKe μ (mAl μ)
def pM (E : Ev) (m : Nat) (b : Nat → Nat) (X : Int32 × MD) : Int32 → va_W → Prop := fun r w => r = X.1 ∧ w = modW E m b X.2
theorem pM_mk {E : Ev} {m : Nat} {b : Nat → Nat} {X : Int32 × MD} {r : Int32} {μ : MD} {W : va_W} (e : X = (r, μ)) (h2 : W = modW E m b μ) : pM E m b X r W := ⟨by rw [e], by rw [e]; exact h2⟩
theorem i64_lo {s : Int32} {c : Int64} {d : Int32} (h : c.toInt = d.toInt) : c ≤ s.toInt64 ↔ d ≤ s := by
  rw [Int64.le_iff_toInt_le, Int32.le_iff_toInt_le, Int32.toInt_toInt64, h]
theorem i64_hi {s : Int32} {c : Int64} {d : Int32} (h : c.toInt = d.toInt) : s.toInt64 ≤ c ↔ s ≤ d := by
  rw [Int64.le_iff_toInt_le, Int32.le_iff_toInt_le, Int32.toInt_toInt64, h]
theorem i32_le_lt {x c d : Int32} (h : c.toInt + 1 = d.toInt) : x ≤ c ↔ x < d := by
  rw [Int32.le_iff_toInt_le, Int32.lt_iff_toInt_lt]; omega
theorem g_ialdE {E : Ev} {x : Cx} {cc : ByteArray} {own : String} {Ts : List Cond} {rm : Room} {ws : va_W} {lv : List (Option Value)} {pc : Nat} {st : List Value} (C : Ok E x cc own Ts rm) (q0 : Nat) {a n : Nat} {f : Nat → Int32} (ha : ws[q0]? = some (a, .inl (E.2.2 0, n, .inl f))) (j : Nat) {i v : Int32} (hi : i = nI j) (hj : j < n) (hn : n < 2 ^ 31) (hv : f j = v) (d : decode cc pc = .ok (.iaload, 1)) (k : G E x ws lv (pc + 1) (.int v :: st)) : G E x ws lv pc (.int i :: .ref a :: st) := by
  subst hv
  exact g_iald C q0 ha j hi hj hn d k
