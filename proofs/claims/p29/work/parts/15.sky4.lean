/-! worlds that hold the same below their arrays' lengths -/
def cEq (e e' : va_E) : Prop := e = e' ∨ ∃ (cA : ClassId) (n : Nat) (f g : Nat → Int32), e = .inl (cA, n, .inl f) ∧ e' = .inl (cA, n, .inl g) ∧ ∀ j, j < n → f j = g j
theorem cEq_at {D : va_G} {cl : List vw_C} {a : Nat} {e e' : va_E} {H : Heap} (h : cEq e e') (ha : va_at D cl (a, e) H) : va_at D cl (a, e') H := by
  rcases h with h | ⟨cA, n, f, g, rfl, rfl, h⟩
  · rw [← h]; exact ha
  · show H[a]? = some (vp_cell cA (n, .inl g))
    have ha2 : H[a]? = some (vp_cell cA (n, .inl f)) := ha
    rw [ha2, vp_cell_i, vp_cell_i]
    unfold arrV
    congr 3
    funext j
    show Value.int (f j.val) = Value.int (g j.val)
    rw [h j.val j.isLt]
def wEq : va_W → va_W → Prop
  | [], [] => True
  | (a, e) :: l, (a', e') :: l' => a = a' ∧ cEq e e' ∧ wEq l l'
  | _, _ => False
theorem wEq_rfl : ∀ (l : va_W), wEq l l
  | [] => trivial
  | (_, _) :: l => ⟨rfl, Or.inl rfl, wEq_rfl l⟩
theorem wEq_app : ∀ {l l' r r' : va_W}, wEq l l' → wEq r r' → wEq (l ++ r) (l' ++ r')
  | [], [], _, _, _, h => h
  | (_, _) :: _, (_, _) :: _, _, _, ⟨h1, h2, h3⟩, h => ⟨h1, h2, wEq_app h3 h⟩
theorem wEq_get : ∀ {l l' : va_W}, wEq l l' → ∀ (k : Nat) (q' : Nat × va_E), l'[k]? = some q' → ∃ e, l[k]? = some (q'.1, e) ∧ cEq e q'.2
  | [], [], _, k, q', h => by simp at h
  | (a, e) :: l, (a', e') :: l', ⟨h1, h2, h3⟩, 0, q', h => by
    rw [List.getElem?_cons_zero] at h
    cases h
    exact ⟨e, by rw [List.getElem?_cons_zero, h1], h2⟩
  | (a, e) :: l, (a', e') :: l', ⟨h1, h2, h3⟩, k + 1, q', h => by
    rw [List.getElem?_cons_succ] at h
    rw [List.getElem?_cons_succ]
    exact wEq_get h3 k q' h
theorem wEq_P {D : va_G} {cl : List vw_C} {l l' : va_W} {H : Heap} (h : wEq l l') (hP : va_P D cl l H) : va_P D cl l' H := by
  intro k q hk
  obtain ⟨e, h1, h2⟩ := wEq_get h k q hk
  exact cEq_at h2 (hP k _ h1)
theorem wEq_D {A : Nat → Prop} {l l' : va_W} (h : wEq l l') (hD : va_D A l) : va_D A l' := by
  refine ⟨fun i j p q hi hj e => ?_, fun k q hk => ?_⟩
  · obtain ⟨e1, h1, -⟩ := wEq_get h i p hi
    obtain ⟨e2, h2, -⟩ := wEq_get h j q hj
    exact hD.1 i j _ _ h1 h2 e
  · obtain ⟨e1, h1, -⟩ := wEq_get h k q hk
    exact hD.2 k (q.1, e1) h1
theorem g_wext {E : Ev} {x : Cx} {ws ws' : va_W} {lv : List (Option Value)} {pc : Nat} {st : List Value} (h : wEq ws ws') (k : G E x ws' lv pc st) : G E x ws lv pc st := by
  obtain ⟨p, e, R, s, m, args, below, meth, c, A, nL, Q⟩ := x
  intro H locs ls hP hD hS hl hnL
  exact k H locs ls (wEq_P h hP) (wEq_D h hD) hS hl hnL
def skyQ (σ τ : Sky) : Prop := (∀ k, k < 12 → sNu σ k = sNu τ k) ∧ (∀ k, k < 12 → sSt σ k = sSt τ k) ∧ (∀ k, k < 12 → sHt σ k = sHt τ k) ∧ (∀ k, k < 12 → sFr σ k = sFr τ k) ∧ (∀ k, k < 12 → sRe σ k = sRe τ k) ∧ (∀ k, k < 12 → sCu σ k = sCu τ k) ∧ (∀ k, k < 8 → sWi σ k = sWi τ k) ∧ (∀ k, k < 4 → sCf σ k = sCf τ k) ∧ sBs σ = sBs τ ∧ sRs σ = sRs τ ∧ sCh σ = sCh τ ∧ sSi σ = sSi τ
theorem skyQ_w {E : Ev} {h : Nat} {a : Nat → Nat} {σ τ : Sky} (q : skyQ σ τ) : wEq (skyW E h a σ) (skyW E h a τ) := by
  obtain ⟨q0, q1, q2, q3, q4, q5, q6, q7, q8, q9, q10, q11⟩ := q
  refine ⟨rfl, Or.inl ?_, rfl, Or.inr ⟨_, _, _, _, rfl, rfl, q0⟩, rfl, Or.inr ⟨_, _, _, _, rfl, rfl, q1⟩, rfl, Or.inr ⟨_, _, _, _, rfl, rfl, q2⟩, rfl, Or.inr ⟨_, _, _, _, rfl, rfl, q3⟩, rfl, Or.inr ⟨_, _, _, _, rfl, rfl, q4⟩, rfl, Or.inr ⟨_, _, _, _, rfl, rfl, q5⟩, rfl, Or.inr ⟨_, _, _, _, rfl, rfl, q6⟩, rfl, Or.inr ⟨_, _, _, _, rfl, rfl, q7⟩, trivial⟩
  rw [q8, q9, q10, q11]
def cpK (σ τ : Sky) : Nat → Sky
  | 0 => σ
  | n + 1 => pCu (pRe (pFr (pHt (pSt (pNu (cpK σ τ n) n (sNu τ n)) n (sSt τ n)) n (sHt τ n)) n (vp_nar .boolean (sFr τ n))) n (sRe τ n)) n (sCu τ n)
def cpW (σ τ : Sky) : Nat → Sky
  | 0 => cpK σ τ 12
  | n + 1 => pWi (cpW σ τ n) n (sWi τ n)
def cpC (σ τ : Sky) : Nat → Sky
  | 0 => cpW σ τ 8
  | n + 1 => pCf (cpC σ τ n) n (sCf τ n)
def cpE (σ τ : Sky) : Sky := uSi (uCh (uRs (uBs (cpC σ τ 4) (sBs τ)) (sRs τ)) (sCh τ)) (sSi τ)
def okFr (τ : Sky) : Prop := ∀ k, k < 12 → vp_nar .boolean (sFr τ k) = sFr τ k
theorem upd_lt {f g : Nat → Int32} {n : Nat} (h : ∀ k, k < n → f k = g k) {v : Int32} (hv : v = g n) : ∀ k, k < n + 1 → upd f n v k = g k := by
  intro k hk
  by_cases e : k = n
  · subst e; rw [hv]; exact pk_us
  · rw [pk_un e]; exact h k (by omega)
theorem cpK_q {σ τ : Sky} (hf : okFr τ) : ∀ n, n ≤ 12 → (∀ k, k < n → sNu (cpK σ τ n) k = sNu τ k) ∧ (∀ k, k < n → sSt (cpK σ τ n) k = sSt τ k) ∧ (∀ k, k < n → sHt (cpK σ τ n) k = sHt τ k) ∧ (∀ k, k < n → sFr (cpK σ τ n) k = sFr τ k) ∧ (∀ k, k < n → sRe (cpK σ τ n) k = sRe τ k) ∧ (∀ k, k < n → sCu (cpK σ τ n) k = sCu τ k) := by
  intro n
  induction n with
  | zero => intro _; exact ⟨lt_0, lt_0, lt_0, lt_0, lt_0, lt_0⟩
  | succ n ih =>
    intro hn
    obtain ⟨h0, h1, h2, h3, h4, h5⟩ := ih (by omega)
    exact ⟨upd_lt h0 rfl, upd_lt h1 rfl, upd_lt h2 rfl, upd_lt h3 (hf n (by omega)), upd_lt h4 rfl, upd_lt h5 rfl⟩
theorem cpW_s {σ τ : Sky} : ∀ n, sNu (cpW σ τ n) = sNu (cpK σ τ 12) ∧ sSt (cpW σ τ n) = sSt (cpK σ τ 12) ∧ sHt (cpW σ τ n) = sHt (cpK σ τ 12) ∧ sFr (cpW σ τ n) = sFr (cpK σ τ 12) ∧ sRe (cpW σ τ n) = sRe (cpK σ τ 12) ∧ sCu (cpW σ τ n) = sCu (cpK σ τ 12) ∧ ∀ k, k < n → sWi (cpW σ τ n) k = sWi τ k := by
  intro n
  induction n with
  | zero => exact ⟨rfl, rfl, rfl, rfl, rfl, rfl, lt_0⟩
  | succ n ih =>
    obtain ⟨h0, h1, h2, h3, h4, h5, h6⟩ := ih
    exact ⟨h0, h1, h2, h3, h4, h5, upd_lt h6 rfl⟩
theorem cpC_s {σ τ : Sky} : ∀ n, sNu (cpC σ τ n) = sNu (cpW σ τ 8) ∧ sSt (cpC σ τ n) = sSt (cpW σ τ 8) ∧ sHt (cpC σ τ n) = sHt (cpW σ τ 8) ∧ sFr (cpC σ τ n) = sFr (cpW σ τ 8) ∧ sRe (cpC σ τ n) = sRe (cpW σ τ 8) ∧ sCu (cpC σ τ n) = sCu (cpW σ τ 8) ∧ sWi (cpC σ τ n) = sWi (cpW σ τ 8) ∧ ∀ k, k < n → sCf (cpC σ τ n) k = sCf τ k := by
  intro n
  induction n with
  | zero => exact ⟨rfl, rfl, rfl, rfl, rfl, rfl, rfl, lt_0⟩
  | succ n ih =>
    obtain ⟨h0, h1, h2, h3, h4, h5, h6, h7⟩ := ih
    exact ⟨h0, h1, h2, h3, h4, h5, h6, upd_lt h7 rfl⟩
theorem cpE_q {σ τ : Sky} (hf : okFr τ) : skyQ (cpE σ τ) τ := by
  obtain ⟨a0, a1, a2, a3, a4, a5⟩ := cpK_q (σ := σ) hf 12 (by omega)
  obtain ⟨d0, d1, d2, d3, d4, d5, d6⟩ := cpW_s (σ := σ) (τ := τ) 8
  obtain ⟨g0, g1, g2, g3, g4, g5, g6, g7⟩ := cpC_s (σ := σ) (τ := τ) 4
  refine ⟨fun k hk => ?_, fun k hk => ?_, fun k hk => ?_, fun k hk => ?_, fun k hk => ?_, fun k hk => ?_, fun k hk => ?_, fun k hk => ?_, rfl, rfl, rfl, rfl⟩
  · exact (congrFun (g0.trans d0) k).trans (a0 k hk)
  · exact (congrFun (g1.trans d1) k).trans (a1 k hk)
  · exact (congrFun (g2.trans d2) k).trans (a2 k hk)
  · exact (congrFun (g3.trans d3) k).trans (a3 k hk)
  · exact (congrFun (g4.trans d4) k).trans (a4 k hk)
  · exact (congrFun (g5.trans d5) k).trans (a5 k hk)
  · exact (congrFun g6 k).trans (d6 k hk)
  · exact g7 k hk
set_option maxHeartbeats 4000000 in
set_option maxRecDepth 100000 in
theorem c_X2_copyFrom (E : Ev) (h : Nat) (a : Nat → Nat) (σ : Sky) (m : Nat) (b : Nat → Nat) (τ : Sky) (hf : okFr τ) : MV E yX2_copyFrom wsX2_copyFrom (rmD 0) (skyW E h a σ ++ skyW E m b τ) [.ref h, .ref m] (fun w => w = skyW E h a τ ++ skyW E m b τ) := by
  have inX2 : ∀ w ∈ u_ws RX2 TX2 12, w ∈ wsX2_copyFrom := by decide +kernel
  have f37 : Cond.fieldLink RX2 37 (TX2 8).1 (TX2 8).2.1 (TX2 8).2.2.1 ∈ wsX2_copyFrom := by decide +kernel
  have f41 : Cond.fieldLink RX2 41 (TX2 9).1 (TX2 9).2.1 (TX2 9).2.2.1 ∈ wsX2_copyFrom := by decide +kernel
  have f44 : Cond.fieldLink RX2 44 (TX2 10).1 (TX2 10).2.1 (TX2 10).2.2.1 ∈ wsX2_copyFrom := by decide +kernel
  have f47 : Cond.fieldLink RX2 47 (TX2 11).1 (TX2 11).2.1 (TX2 11).2.2.1 ∈ wsX2_copyFrom := by decide +kernel
  have f34 : Cond.fieldLink RX2 34 (TX2 7).1 (TX2 7).2.1 (TX2 7).2.2.1 ∈ wsX2_copyFrom := by decide +kernel
  have f31 : Cond.fieldLink RX2 31 (TX2 6).1 (TX2 6).2.1 (TX2 6).2.2.1 ∈ wsX2_copyFrom := by decide +kernel
  have f9 : Cond.fieldLink RX2 9 (TX2 0).1 (TX2 0).2.1 (TX2 0).2.2.1 ∈ wsX2_copyFrom := by decide +kernel
  have f15 : Cond.fieldLink RX2 15 (TX2 1).1 (TX2 1).2.1 (TX2 1).2.2.1 ∈ wsX2_copyFrom := by decide +kernel
  have f18 : Cond.fieldLink RX2 18 (TX2 2).1 (TX2 2).2.1 (TX2 2).2.2.1 ∈ wsX2_copyFrom := by decide +kernel
  have f21 : Cond.fieldLink RX2 21 (TX2 3).1 (TX2 3).2.1 (TX2 3).2.2.1 ∈ wsX2_copyFrom := by decide +kernel
  have f25 : Cond.fieldLink RX2 25 (TX2 4).1 (TX2 4).2.1 (TX2 4).2.2.1 ∈ wsX2_copyFrom := by decide +kernel
  have f28 : Cond.fieldLink RX2 28 (TX2 5).1 (TX2 5).2.1 (TX2 5).2.2.1 ∈ wsX2_copyFrom := by decide +kernel
  refine MV.of (cc := cX2_copyFrom) (nL := 3) (own := RX2) [some (.ref h), some (.ref m), none] (by decide +kernel) rfl rfl (Nat.le_of_ble_eq_true rfl) rfl rfl ?_
  intro x C R0
  have lp2 : ∀ (n i : Nat), 4 - i < n → i ≤ 4 → G E x (skyW E h a (cpC σ τ i) ++ skyW E m b τ) [some (.ref h), some (.ref m), some (.int (nI i))] 119 [] := by
    intro n
    induction n with
    | zero => intro i h1; omega
    | succ n ih =>
      intro i hn hi
      refine g_iload_n C dX2_copyFrom_119 rfl rfl ?_
      refine g_iconst C (v := 4) dX2_copyFrom_120 rfl ?_
      refine g_icmp_ge C (tgt := 142) dX2_copyFrom_121 (by decide) (fun hc_121 => ?_) (fun hc_121 => ?_)
      · have hn_121 : (4) ≤ (i) := (nI_leI (a := (4)) (b := (i)) (by omega) (by omega)).mp hc_121
        have e12 : i = 4 := by omega
        subst e12
        refine g_aload_n C dX2_copyFrom_142 rfl rfl ?_
        refine g_aload_n C dX2_copyFrom_143 rfl rfl ?_
        refine g_get C inX2 9 rfl rfl 8 (by decide) f37 rfl dX2_copyFrom_144 ?_
        refine g_put C (ws' := (skyW E h a (uBs (cpC σ τ 4) (sBs τ)) ++ skyW E m b τ)) inX2 (ty := .int) tyX2 tyX2_ok nmX2 0 rfl rfl 8 (by decide) f37 rfl (by decide +kernel) rfl rfl (Nat.le_of_ble_eq_true rfl) dX2_copyFrom_147 rfl ?_
        refine g_aload_n C dX2_copyFrom_150 rfl rfl ?_
        refine g_aload_n C dX2_copyFrom_151 rfl rfl ?_
        refine g_get C inX2 9 rfl rfl 9 (by decide) f41 rfl dX2_copyFrom_152 ?_
        refine g_put C (ws' := (skyW E h a (uRs (uBs (cpC σ τ 4) (sBs τ)) (sRs τ)) ++ skyW E m b τ)) inX2 (ty := .int) tyX2 tyX2_ok nmX2 0 rfl rfl 9 (by decide) f41 rfl (by decide +kernel) rfl rfl (Nat.le_of_ble_eq_true rfl) dX2_copyFrom_155 rfl ?_
        refine g_aload_n C dX2_copyFrom_158 rfl rfl ?_
        refine g_aload_n C dX2_copyFrom_159 rfl rfl ?_
        refine g_get C inX2 9 rfl rfl 10 (by decide) f44 rfl dX2_copyFrom_160 ?_
        refine g_put C (ws' := (skyW E h a (uCh (uRs (uBs (cpC σ τ 4) (sBs τ)) (sRs τ)) (sCh τ)) ++ skyW E m b τ)) inX2 (ty := .int) tyX2 tyX2_ok nmX2 0 rfl rfl 10 (by decide) f44 rfl (by decide +kernel) rfl rfl (Nat.le_of_ble_eq_true rfl) dX2_copyFrom_163 rfl ?_
        refine g_aload_n C dX2_copyFrom_166 rfl rfl ?_
        refine g_aload_n C dX2_copyFrom_167 rfl rfl ?_
        refine g_get C inX2 9 rfl rfl 11 (by decide) f47 rfl dX2_copyFrom_168 ?_
        refine g_put C (ws' := (skyW E h a (uSi (uCh (uRs (uBs (cpC σ τ 4) (sBs τ)) (sRs τ)) (sCh τ)) (sSi τ)) ++ skyW E m b τ)) inX2 (ty := .int) tyX2 tyX2_ok nmX2 0 rfl rfl 11 (by decide) f47 rfl (by decide +kernel) rfl rfl (Nat.le_of_ble_eq_true rfl) dX2_copyFrom_171 rfl ?_
        refine g_wext (wEq_app (skyQ_w (show skyQ (uSi (uCh (uRs (uBs (cpC σ τ 4) (sBs τ)) (sRs τ)) (sCh τ)) (sSi τ)) τ from cpE_q hf)) (wEq_rfl _)) ?_
        refine g_vret C R0 dX2_copyFrom_174 ?_
        exact rfl
      · have hn_121 : ¬ (4) ≤ (i) := fun z => hc_121 ((nI_leI (a := (4)) (b := (i)) (by omega) (by omega)).mpr z)
        refine g_aload_n C dX2_copyFrom_124 rfl rfl ?_
        refine g_get C inX2 0 rfl rfl 7 (by decide) f34 rfl dX2_copyFrom_125 ?_
        refine g_iload_n C dX2_copyFrom_128 rfl rfl ?_
        refine g_aload_n C dX2_copyFrom_129 rfl rfl ?_
        refine g_get C inX2 9 rfl rfl 7 (by decide) f34 rfl dX2_copyFrom_130 ?_
        refine g_iload_n C dX2_copyFrom_133 rfl rfl ?_
        refine g_iald C 17 rfl (i) rfl (by omega) (Nat.le_of_ble_eq_true rfl) dX2_copyFrom_134 ?_
        refine g_iast C (ws' := (skyW E h a (pCf (cpC σ τ i) (i) (sCf τ (i))) ++ skyW E m b τ)) 8 rfl (i) rfl (by omega) (Nat.le_of_ble_eq_true rfl) dX2_copyFrom_135 rfl ?_
        refine g_iinc C (v := (nI (i + 1))) dX2_copyFrom_136 rfl rfl (nI_add (i) 1) ?_
        refine g_goto C (tgt := 119) dX2_copyFrom_139 (by decide) ?_
        exact ih (i + 1) (by omega) (by omega)
  have lp1 : ∀ (n i : Nat), 8 - i < n → i ≤ 8 → G E x (skyW E h a (cpW σ τ i) ++ skyW E m b τ) [some (.ref h), some (.ref m), some (.int (nI i))] 93 [] := by
    intro n
    induction n with
    | zero => intro i h1; omega
    | succ n ih =>
      intro i hn hi
      refine g_iload_n C dX2_copyFrom_93 rfl rfl ?_
      refine g_bipush C (v := 8) dX2_copyFrom_94 rfl ?_
      refine g_icmp_ge C (tgt := 117) dX2_copyFrom_96 (by decide) (fun hc_96 => ?_) (fun hc_96 => ?_)
      · have hn_96 : (8) ≤ (i) := (nI_leI (a := (8)) (b := (i)) (by omega) (by omega)).mp hc_96
        refine g_iconst C (v := 0) dX2_copyFrom_117 rfl ?_
        refine g_istore_n C dX2_copyFrom_118 rfl (Nat.le_of_ble_eq_true rfl) rfl ?_
        have e12 : i = 8 := by omega
        subst e12
        exact lp2 5 0 (by omega) (by omega)
      · have hn_96 : ¬ (8) ≤ (i) := fun z => hc_96 ((nI_leI (a := (8)) (b := (i)) (by omega) (by omega)).mpr z)
        refine g_aload_n C dX2_copyFrom_99 rfl rfl ?_
        refine g_get C inX2 0 rfl rfl 6 (by decide) f31 rfl dX2_copyFrom_100 ?_
        refine g_iload_n C dX2_copyFrom_103 rfl rfl ?_
        refine g_aload_n C dX2_copyFrom_104 rfl rfl ?_
        refine g_get C inX2 9 rfl rfl 6 (by decide) f31 rfl dX2_copyFrom_105 ?_
        refine g_iload_n C dX2_copyFrom_108 rfl rfl ?_
        refine g_iald C 16 rfl (i) rfl (by omega) (Nat.le_of_ble_eq_true rfl) dX2_copyFrom_109 ?_
        refine g_iast C (ws' := (skyW E h a (pWi (cpW σ τ i) (i) (sWi τ (i))) ++ skyW E m b τ)) 7 rfl (i) rfl (by omega) (Nat.le_of_ble_eq_true rfl) dX2_copyFrom_110 rfl ?_
        refine g_iinc C (v := (nI (i + 1))) dX2_copyFrom_111 rfl rfl (nI_add (i) 1) ?_
        refine g_goto C (tgt := 93) dX2_copyFrom_114 (by decide) ?_
        exact ih (i + 1) (by omega) (by omega)
  have lp0 : ∀ (n i : Nat), 12 - i < n → i ≤ 12 → G E x (skyW E h a (cpK σ τ i) ++ skyW E m b τ) [some (.ref h), some (.ref m), some (.int (nI i))] 7 [] := by
    intro n
    induction n with
    | zero => intro i h1; omega
    | succ n ih =>
      intro i hn hi
      refine g_iload_n C dX2_copyFrom_7 rfl rfl ?_
      refine g_bipush C (v := 12) dX2_copyFrom_8 rfl ?_
      refine g_icmp_ge C (tgt := 91) dX2_copyFrom_10 (by decide) (fun hc_10 => ?_) (fun hc_10 => ?_)
      · have hn_10 : (12) ≤ (i) := (nI_leI (a := (12)) (b := (i)) (by omega) (by omega)).mp hc_10
        refine g_iconst C (v := 0) dX2_copyFrom_91 rfl ?_
        refine g_istore_n C dX2_copyFrom_92 rfl (Nat.le_of_ble_eq_true rfl) rfl ?_
        have e12 : i = 12 := by omega
        subst e12
        exact lp1 9 0 (by omega) (by omega)
      · have hn_10 : ¬ (12) ≤ (i) := fun z => hc_10 ((nI_leI (a := (12)) (b := (i)) (by omega) (by omega)).mpr z)
        refine g_aload_n C dX2_copyFrom_13 rfl rfl ?_
        refine g_get C inX2 0 rfl rfl 0 (by decide) f9 rfl dX2_copyFrom_14 ?_
        refine g_iload_n C dX2_copyFrom_17 rfl rfl ?_
        refine g_aload_n C dX2_copyFrom_18 rfl rfl ?_
        refine g_get C inX2 9 rfl rfl 0 (by decide) f9 rfl dX2_copyFrom_19 ?_
        refine g_iload_n C dX2_copyFrom_22 rfl rfl ?_
        refine g_iald C 10 rfl (i) rfl (by omega) (Nat.le_of_ble_eq_true rfl) dX2_copyFrom_23 ?_
        refine g_iast C (ws' := (skyW E h a (pNu (cpK σ τ i) (i) (sNu τ (i))) ++ skyW E m b τ)) 1 rfl (i) rfl (by omega) (Nat.le_of_ble_eq_true rfl) dX2_copyFrom_24 rfl ?_
        refine g_aload_n C dX2_copyFrom_25 rfl rfl ?_
        refine g_get C inX2 0 rfl rfl 1 (by decide) f15 rfl dX2_copyFrom_26 ?_
        refine g_iload_n C dX2_copyFrom_29 rfl rfl ?_
        refine g_aload_n C dX2_copyFrom_30 rfl rfl ?_
        refine g_get C inX2 9 rfl rfl 1 (by decide) f15 rfl dX2_copyFrom_31 ?_
        refine g_iload_n C dX2_copyFrom_34 rfl rfl ?_
        refine g_iald C 11 rfl (i) rfl (by omega) (Nat.le_of_ble_eq_true rfl) dX2_copyFrom_35 ?_
        refine g_iast C (ws' := (skyW E h a (pSt (pNu (cpK σ τ i) (i) (sNu τ (i))) (i) (sSt τ (i))) ++ skyW E m b τ)) 2 rfl (i) rfl (by omega) (Nat.le_of_ble_eq_true rfl) dX2_copyFrom_36 rfl ?_
        refine g_aload_n C dX2_copyFrom_37 rfl rfl ?_
        refine g_get C inX2 0 rfl rfl 2 (by decide) f18 rfl dX2_copyFrom_38 ?_
        refine g_iload_n C dX2_copyFrom_41 rfl rfl ?_
        refine g_aload_n C dX2_copyFrom_42 rfl rfl ?_
        refine g_get C inX2 9 rfl rfl 2 (by decide) f18 rfl dX2_copyFrom_43 ?_
        refine g_iload_n C dX2_copyFrom_46 rfl rfl ?_
        refine g_iald C 12 rfl (i) rfl (by omega) (Nat.le_of_ble_eq_true rfl) dX2_copyFrom_47 ?_
        refine g_iast C (ws' := (skyW E h a (pHt (pSt (pNu (cpK σ τ i) (i) (sNu τ (i))) (i) (sSt τ (i))) (i) (sHt τ (i))) ++ skyW E m b τ)) 3 rfl (i) rfl (by omega) (Nat.le_of_ble_eq_true rfl) dX2_copyFrom_48 rfl ?_
        refine g_aload_n C dX2_copyFrom_49 rfl rfl ?_
        refine g_get C inX2 0 rfl rfl 3 (by decide) f21 rfl dX2_copyFrom_50 ?_
        refine g_iload_n C dX2_copyFrom_53 rfl rfl ?_
        refine g_aload_n C dX2_copyFrom_54 rfl rfl ?_
        refine g_get C inX2 9 rfl rfl 3 (by decide) f21 rfl dX2_copyFrom_55 ?_
        refine g_iload_n C dX2_copyFrom_58 rfl rfl ?_
        refine g_zald C 13 rfl (i) rfl (by omega) (Nat.le_of_ble_eq_true rfl) dX2_copyFrom_59 ?_
        refine g_zast C (ws' := (skyW E h a (pFr (pHt (pSt (pNu (cpK σ τ i) (i) (sNu τ (i))) (i) (sSt τ (i))) (i) (sHt τ (i))) (i) (vp_nar .boolean (sFr τ (i)))) ++ skyW E m b τ)) 4 rfl (i) rfl (by omega) (Nat.le_of_ble_eq_true rfl) dX2_copyFrom_60 rfl ?_
        refine g_aload_n C dX2_copyFrom_61 rfl rfl ?_
        refine g_get C inX2 0 rfl rfl 4 (by decide) f25 rfl dX2_copyFrom_62 ?_
        refine g_iload_n C dX2_copyFrom_65 rfl rfl ?_
        refine g_aload_n C dX2_copyFrom_66 rfl rfl ?_
        refine g_get C inX2 9 rfl rfl 4 (by decide) f25 rfl dX2_copyFrom_67 ?_
        refine g_iload_n C dX2_copyFrom_70 rfl rfl ?_
        refine g_iald C 14 rfl (i) rfl (by omega) (Nat.le_of_ble_eq_true rfl) dX2_copyFrom_71 ?_
        refine g_iast C (ws' := (skyW E h a (pRe (pFr (pHt (pSt (pNu (cpK σ τ i) (i) (sNu τ (i))) (i) (sSt τ (i))) (i) (sHt τ (i))) (i) (vp_nar .boolean (sFr τ (i)))) (i) (sRe τ (i))) ++ skyW E m b τ)) 5 rfl (i) rfl (by omega) (Nat.le_of_ble_eq_true rfl) dX2_copyFrom_72 rfl ?_
        refine g_aload_n C dX2_copyFrom_73 rfl rfl ?_
        refine g_get C inX2 0 rfl rfl 5 (by decide) f28 rfl dX2_copyFrom_74 ?_
        refine g_iload_n C dX2_copyFrom_77 rfl rfl ?_
        refine g_aload_n C dX2_copyFrom_78 rfl rfl ?_
        refine g_get C inX2 9 rfl rfl 5 (by decide) f28 rfl dX2_copyFrom_79 ?_
        refine g_iload_n C dX2_copyFrom_82 rfl rfl ?_
        refine g_iald C 15 rfl (i) rfl (by omega) (Nat.le_of_ble_eq_true rfl) dX2_copyFrom_83 ?_
        refine g_iast C (ws' := (skyW E h a (pCu (pRe (pFr (pHt (pSt (pNu (cpK σ τ i) (i) (sNu τ (i))) (i) (sSt τ (i))) (i) (sHt τ (i))) (i) (vp_nar .boolean (sFr τ (i)))) (i) (sRe τ (i))) (i) (sCu τ (i))) ++ skyW E m b τ)) 6 rfl (i) rfl (by omega) (Nat.le_of_ble_eq_true rfl) dX2_copyFrom_84 rfl ?_
        refine g_iinc C (v := (nI (i + 1))) dX2_copyFrom_85 rfl rfl (nI_add (i) 1) ?_
        refine g_goto C (tgt := 7) dX2_copyFrom_88 (by decide) ?_
        exact ih (i + 1) (by omega) (by omega)
  refine g_aload_n C dX2_copyFrom_0 rfl rfl ?_
  refine g_ifnonnull C (tgt := 5) dX2_copyFrom_1 (by decide) ?_
  refine g_iconst C (v := 0) dX2_copyFrom_5 rfl ?_
  refine g_istore_n C dX2_copyFrom_6 rfl (Nat.le_of_ble_eq_true rfl) rfl ?_
  exact lp0 13 0 (by omega) (by omega)
