theorem i32_nltx {x y : Int32} (h : x < y) : ¬ y ≤ x := i32_lt.mpr h
theorem rnL_le {tx : F} {n : Nat} {most : Int32} : ∀ f v p, p + f ≤ n → (rnL tx n most f v p).2 ≤ n ∧ p ≤ (rnL tx n most f v p).2
  | 0, v, p, h => ⟨by rw [rnL]; exact h, by rw [rnL]; exact Nat.le_refl _⟩
  | f + 1, v, p, h => by
    rw [rnL]
    split
    · have := rnL_le (tx := tx) (n := n) (most := most) f (10 * v + tx p - 48) (p + 1) (by omega)
      exact ⟨this.1, by omega⟩
    · exact ⟨by omega, Nat.le_refl _⟩
theorem rnD_le {tx : F} {n : Nat} {bl : Bool} {low most nu : Int32} {p : Nat} (h : p ≤ n) : (rnD tx n bl low most p nu).2.1 ≤ n ∧ p ≤ (rnD tx n bl low most p nu).2.1 := by
  unfold rnD
  split
  · rename_i h1
    split
    · have := rnL_le (tx := tx) (n := n) (most := most) (n - (p + 1)) (tx p - 48) (p + 1) (by have := h1.1; omega)
      exact ⟨this.1, by have := this.2; dsimp only; omega⟩
    · exact ⟨h, Nat.le_refl _⟩
  · exact ⟨h, Nat.le_refl _⟩
theorem rnR_le {tx : F} {n : Nat} {least most nu : Int32} {p : Nat} (h : p ≤ n) : (rnR tx n least most p nu).2.1 ≤ n ∧ p ≤ (rnR tx n least most p nu).2.1 := by
  unfold rnR
  split
  · rename_i h1
    have h1' := h1.1
    split
    · split
      · rename_i h2
        have := rnD_le (tx := tx) (n := n) (bl := true) (low := 49) (most := most) (nu := nu) (p := p + 2) (by have := h2.1; omega)
        exact ⟨this.1, by have := this.2; omega⟩
      · split
        · have := rnD_le (tx := tx) (n := n) (bl := false) (low := 49) (most := most) (nu := nu) (p := p + 1) (by omega)
          exact ⟨this.1, by have := this.2; omega⟩
        · have := rnD_le (tx := tx) (n := n) (bl := false) (low := 48) (most := most) (nu := nu) (p := p + 1) (by omega)
          exact ⟨this.1, by have := this.2; omega⟩
    · split
      · have := rnD_le (tx := tx) (n := n) (bl := false) (low := 49) (most := most) (nu := nu) (p := p + 1) (by omega)
        exact ⟨this.1, by have := this.2; omega⟩
      · have := rnD_le (tx := tx) (n := n) (bl := false) (low := 48) (most := most) (nu := nu) (p := p + 1) (by omega)
        exact ⟨this.1, by have := this.2; omega⟩
  · exact ⟨h, Nat.le_refl _⟩
theorem rlP_le {tx : F} {n : Nat} : ∀ cs p, p ≤ n → (rlP tx n cs p).2 ≤ n ∧ p ≤ (rlP tx n cs p).2
  | [], p, h => ⟨h, Nat.le_refl _⟩
  | c :: cs, p, h => by
    rw [rlP]
    split
    · exact rlP_le cs p h
    · split
      · rename_i h1
        have := rlP_le (tx := tx) (n := n) cs (p + 1) (by have := h1.1; omega)
        exact ⟨this.1, by omega⟩
      · exact ⟨h, Nat.le_refl _⟩
set_option maxHeartbeats 4000000 in
set_option maxRecDepth 100000 in
theorem c_X4_readsNumber (E : Ev) (m : Nat) (b : Nat → Nat) (μ : MD) (n p : Nat) (hn : n ≤ 80) (hTL : mTL μ = nI n) (hp : p ≤ n) (nu cm fi se : Int32) (l t : Int32) : MI E yX4_readsNumber wsX4_readsNumber (rmD 3) (modT E m b μ (p) nu cm fi se) [.ref m, .int l, .int t] (pT (rnR (mTx μ) n l t p nu).1 (modT E m b μ (rnR (mTx μ) n l t p nu).2.1 (rnR (mTx μ) n l t p nu).2.2 cm fi se)) := by
  have inX4 : ∀ w ∈ u_ws RX4 TX4 16, w ∈ wsX4_readsNumber := by decide +kernel
  have f146 : Cond.fieldLink RX4 146 (TX4 12).1 (TX4 12).2.1 (TX4 12).2.2.1 ∈ wsX4_readsNumber := by decide +kernel
  have f32 : Cond.fieldLink RX4 32 (TX4 9).1 (TX4 9).2.1 (TX4 9).2.2.1 ∈ wsX4_readsNumber := by decide +kernel
  have f135 : Cond.fieldLink RX4 135 (TX4 11).1 (TX4 11).2.1 (TX4 11).2.2.1 ∈ wsX4_readsNumber := by decide +kernel
  refine MI.of (cc := cX4_readsNumber) (nL := 4) (ty := .boolean) (own := RX4) [some (.ref m), some (.int l), some (.int t), none] (by decide +kernel) rfl rfl (Nat.le_of_ble_eq_true rfl) rfl rfl ?_
  intro x C R0
  have lp0 : ∀ (f : Nat) (v : Int32) (q : Nat), q + f = n → rnR (mTx μ) n l t p nu = (true, (rnL (mTx μ) n t f v q).2, (rnL (mTx μ) n t f v q).1) → G E x (modT E m b μ (q) v cm fi se) [some (.ref m), some (.int l), some (.int t), some (.int 0)] 98 [] := by
    intro f
    induction f with
    | zero =>
      intro v q hq hfin
      refine g_aload_n C dX4_readsNumber_98 rfl rfl ?_
      refine g_get C inX4 0 rfl rfl 12 (by decide) f146 rfl dX4_readsNumber_99 ?_
      refine g_if_le C (tgt := 177) dX4_readsNumber_102 (by decide) (fun hc_102 => ?_) (fun hc_102 => ?_)
      · refine g_aload_n C dX4_readsNumber_177 rfl rfl ?_
        refine g_iload_n C dX4_readsNumber_178 rfl rfl ?_
        refine g_if_eq_t C dX4_readsNumber_179 (tgt := 190) (by decide) (by decide) ?_
        refine g_aload_n C dX4_readsNumber_190 rfl rfl ?_
        refine g_get C inX4 0 rfl rfl 12 (by decide) f146 rfl dX4_readsNumber_191 ?_
        refine g_put C (ws' := (modT E m b μ (q) v cm fi se)) inX4 (ty := .int) tyX4 tyX4_ok nmX4 0 rfl rfl 12 (by decide) f146 rfl (by decide +kernel) rfl rfl (Nat.le_of_ble_eq_true rfl) dX4_readsNumber_194 rfl ?_
        refine g_iconst C (v := 1) dX4_readsNumber_197 rfl ?_
        refine g_zret C R0 rfl dX4_readsNumber_198 ?_
        have hx : rnL (mTx μ) n t 0 v q = (v, q) := rfl
        rw [hx] at hfin
        exact pT_mk (c := true) (by rw [hfin]) (Or.inl ⟨rfl, rfl⟩) (by rw [hfin])
      · refine g_aload_n C dX4_readsNumber_105 rfl rfl ?_
        refine g_bipush C (v := 48) dX4_readsNumber_106 rfl ?_
        refine g_bipush C (v := 57) dX4_readsNumber_108 rfl ?_
        refine g_calliVF C 0 rfl rfl (c_X4_isHere E m b μ n (q) hn hTL (by omega) v cm fi se _ _) cf_X4_isHere gX4_readsNumber_X4_isHere rfl (fitD (Nat.le_of_ble_eq_true rfl) (Nat.le_of_ble_eq_true rfl)) rfl rfl (Nat.le_of_ble_eq_true rfl) dX4_readsNumber_110 (fun r1 w1 hp => ?_)
        obtain ⟨⟨hb_110, rfl⟩ | ⟨hb_110, rfl⟩, rfl⟩ := hp
        · have hlt_110 : q < n := hb_110.1
          refine g_if_eq_f C dX4_readsNumber_113 177 (by decide) (by decide) ?_
          refine g_bipush C (v := 10) dX4_readsNumber_116 rfl ?_
          refine g_aload_n C dX4_readsNumber_118 rfl rfl ?_
          refine g_get C inX4 0 rfl rfl 12 (by decide) f146 rfl dX4_readsNumber_119 ?_
          refine g_imul C dX4_readsNumber_122 ?_
          refine g_aload_n C dX4_readsNumber_123 rfl rfl ?_
          refine g_get C inX4 0 rfl rfl 9 (by decide) f32 rfl dX4_readsNumber_124 ?_
          refine g_aload_n C dX4_readsNumber_127 rfl rfl ?_
          refine g_get C inX4 0 rfl rfl 11 (by decide) f135 rfl dX4_readsNumber_128 ?_
          refine g_iald C 6 rfl ((q)) rfl (by omega) (Nat.le_of_ble_eq_true rfl) dX4_readsNumber_131 ?_
          refine g_iadd C dX4_readsNumber_132 ?_
          refine g_bipush C (v := 48) dX4_readsNumber_133 rfl ?_
          refine g_isub C dX4_readsNumber_135 ?_
          refine g_iload_n C dX4_readsNumber_136 rfl rfl ?_
          refine g_icmp_gt C (tgt := 177) dX4_readsNumber_137 (by decide) (fun hc_137 => ?_) (fun hc_137 => ?_)
          · refine g_aload_n C dX4_readsNumber_177 rfl rfl ?_
            refine g_iload_n C dX4_readsNumber_178 rfl rfl ?_
            refine g_if_eq_t C dX4_readsNumber_179 (tgt := 190) (by decide) (by decide) ?_
            refine g_aload_n C dX4_readsNumber_190 rfl rfl ?_
            refine g_get C inX4 0 rfl rfl 12 (by decide) f146 rfl dX4_readsNumber_191 ?_
            refine g_put C (ws' := (modT E m b μ (q) v cm fi se)) inX4 (ty := .int) tyX4 tyX4_ok nmX4 0 rfl rfl 12 (by decide) f146 rfl (by decide +kernel) rfl rfl (Nat.le_of_ble_eq_true rfl) dX4_readsNumber_194 rfl ?_
            refine g_iconst C (v := 1) dX4_readsNumber_197 rfl ?_
            refine g_zret C R0 rfl dX4_readsNumber_198 ?_
            have hx : rnL (mTx μ) n t 0 v q = (v, q) := rfl
            rw [hx] at hfin
            exact pT_mk (c := true) (by rw [hfin]) (Or.inl ⟨rfl, rfl⟩) (by rw [hfin])
          · refine g_aload_n C dX4_readsNumber_140 rfl rfl ?_
            refine g_bipush C (v := 10) dX4_readsNumber_141 rfl ?_
            refine g_aload_n C dX4_readsNumber_143 rfl rfl ?_
            refine g_get C inX4 0 rfl rfl 12 (by decide) f146 rfl dX4_readsNumber_144 ?_
            refine g_imul C dX4_readsNumber_147 ?_
            refine g_aload_n C dX4_readsNumber_148 rfl rfl ?_
            refine g_get C inX4 0 rfl rfl 9 (by decide) f32 rfl dX4_readsNumber_149 ?_
            refine g_aload_n C dX4_readsNumber_152 rfl rfl ?_
            refine g_get C inX4 0 rfl rfl 11 (by decide) f135 rfl dX4_readsNumber_153 ?_
            refine g_iald C 6 rfl ((q)) rfl (by omega) (Nat.le_of_ble_eq_true rfl) dX4_readsNumber_156 ?_
            refine g_iadd C dX4_readsNumber_157 ?_
            refine g_bipush C (v := 48) dX4_readsNumber_158 rfl ?_
            refine g_isub C dX4_readsNumber_160 ?_
            refine g_put C (ws' := (modT E m b μ (q) (((10 * v) + (mTx μ ((q)))) - 48) cm fi se)) inX4 (ty := .int) tyX4 tyX4_ok nmX4 0 rfl rfl 12 (by decide) f146 rfl (by decide +kernel) rfl rfl (Nat.le_of_ble_eq_true rfl) dX4_readsNumber_161 rfl ?_
            refine g_aload_n C dX4_readsNumber_164 rfl rfl ?_
            refine g_dup C dX4_readsNumber_165 rfl ?_
            refine g_get C inX4 0 rfl rfl 11 (by decide) f135 rfl dX4_readsNumber_166 ?_
            refine g_iconst C (v := 1) dX4_readsNumber_169 rfl ?_
            refine g_iadd C dX4_readsNumber_170 ?_
            rw [show ((nI (q)) + 1) = nI (((q) + 1)) from nI_add ((q)) (1)]
            refine g_put C (ws' := (modT E m b μ (((q) + 1)) (((10 * v) + (mTx μ ((q)))) - 48) cm fi se)) inX4 (ty := .int) tyX4 tyX4_ok nmX4 0 rfl rfl 11 (by decide) f135 rfl (by decide +kernel) rfl rfl (Nat.le_of_ble_eq_true rfl) dX4_readsNumber_171 rfl ?_
            refine g_goto C (tgt := 98) dX4_readsNumber_174 (by decide) ?_
            exact absurd hlt_110 (by omega)
        · refine g_if_eq_t C dX4_readsNumber_113 (tgt := 177) (by decide) (by decide) ?_
          refine g_aload_n C dX4_readsNumber_177 rfl rfl ?_
          refine g_iload_n C dX4_readsNumber_178 rfl rfl ?_
          refine g_if_eq_t C dX4_readsNumber_179 (tgt := 190) (by decide) (by decide) ?_
          refine g_aload_n C dX4_readsNumber_190 rfl rfl ?_
          refine g_get C inX4 0 rfl rfl 12 (by decide) f146 rfl dX4_readsNumber_191 ?_
          refine g_put C (ws' := (modT E m b μ (q) v cm fi se)) inX4 (ty := .int) tyX4 tyX4_ok nmX4 0 rfl rfl 12 (by decide) f146 rfl (by decide +kernel) rfl rfl (Nat.le_of_ble_eq_true rfl) dX4_readsNumber_194 rfl ?_
          refine g_iconst C (v := 1) dX4_readsNumber_197 rfl ?_
          refine g_zret C R0 rfl dX4_readsNumber_198 ?_
          have hx : rnL (mTx μ) n t 0 v q = (v, q) := rfl
          rw [hx] at hfin
          exact pT_mk (c := true) (by rw [hfin]) (Or.inl ⟨rfl, rfl⟩) (by rw [hfin])
    | succ f ih =>
      intro v q hq hfin
      refine g_aload_n C dX4_readsNumber_98 rfl rfl ?_
      refine g_get C inX4 0 rfl rfl 12 (by decide) f146 rfl dX4_readsNumber_99 ?_
      refine g_if_le C (tgt := 177) dX4_readsNumber_102 (by decide) (fun hc_102 => ?_) (fun hc_102 => ?_)
      · refine g_aload_n C dX4_readsNumber_177 rfl rfl ?_
        refine g_iload_n C dX4_readsNumber_178 rfl rfl ?_
        refine g_if_eq_t C dX4_readsNumber_179 (tgt := 190) (by decide) (by decide) ?_
        refine g_aload_n C dX4_readsNumber_190 rfl rfl ?_
        refine g_get C inX4 0 rfl rfl 12 (by decide) f146 rfl dX4_readsNumber_191 ?_
        refine g_put C (ws' := (modT E m b μ (q) v cm fi se)) inX4 (ty := .int) tyX4 tyX4_ok nmX4 0 rfl rfl 12 (by decide) f146 rfl (by decide +kernel) rfl rfl (Nat.le_of_ble_eq_true rfl) dX4_readsNumber_194 rfl ?_
        refine g_iconst C (v := 1) dX4_readsNumber_197 rfl ?_
        refine g_zret C R0 rfl dX4_readsNumber_198 ?_
        have hx : rnL (mTx μ) n t (f + 1) v q = (v, q) := by rw [rnL, if_neg (fun z => i32_nlt hc_102 z.1)]
        rw [hx] at hfin
        exact pT_mk (c := true) (by rw [hfin]) (Or.inl ⟨rfl, rfl⟩) (by rw [hfin])
      · refine g_aload_n C dX4_readsNumber_105 rfl rfl ?_
        refine g_bipush C (v := 48) dX4_readsNumber_106 rfl ?_
        refine g_bipush C (v := 57) dX4_readsNumber_108 rfl ?_
        refine g_calliVF C 0 rfl rfl (c_X4_isHere E m b μ n (q) hn hTL (by omega) v cm fi se _ _) cf_X4_isHere gX4_readsNumber_X4_isHere rfl (fitD (Nat.le_of_ble_eq_true rfl) (Nat.le_of_ble_eq_true rfl)) rfl rfl (Nat.le_of_ble_eq_true rfl) dX4_readsNumber_110 (fun r1 w1 hp => ?_)
        obtain ⟨⟨hb_110, rfl⟩ | ⟨hb_110, rfl⟩, rfl⟩ := hp
        · have hlt_110 : q < n := hb_110.1
          refine g_if_eq_f C dX4_readsNumber_113 177 (by decide) (by decide) ?_
          refine g_bipush C (v := 10) dX4_readsNumber_116 rfl ?_
          refine g_aload_n C dX4_readsNumber_118 rfl rfl ?_
          refine g_get C inX4 0 rfl rfl 12 (by decide) f146 rfl dX4_readsNumber_119 ?_
          refine g_imul C dX4_readsNumber_122 ?_
          refine g_aload_n C dX4_readsNumber_123 rfl rfl ?_
          refine g_get C inX4 0 rfl rfl 9 (by decide) f32 rfl dX4_readsNumber_124 ?_
          refine g_aload_n C dX4_readsNumber_127 rfl rfl ?_
          refine g_get C inX4 0 rfl rfl 11 (by decide) f135 rfl dX4_readsNumber_128 ?_
          refine g_iald C 6 rfl ((q)) rfl (by omega) (Nat.le_of_ble_eq_true rfl) dX4_readsNumber_131 ?_
          refine g_iadd C dX4_readsNumber_132 ?_
          refine g_bipush C (v := 48) dX4_readsNumber_133 rfl ?_
          refine g_isub C dX4_readsNumber_135 ?_
          refine g_iload_n C dX4_readsNumber_136 rfl rfl ?_
          refine g_icmp_gt C (tgt := 177) dX4_readsNumber_137 (by decide) (fun hc_137 => ?_) (fun hc_137 => ?_)
          · refine g_aload_n C dX4_readsNumber_177 rfl rfl ?_
            refine g_iload_n C dX4_readsNumber_178 rfl rfl ?_
            refine g_if_eq_t C dX4_readsNumber_179 (tgt := 190) (by decide) (by decide) ?_
            refine g_aload_n C dX4_readsNumber_190 rfl rfl ?_
            refine g_get C inX4 0 rfl rfl 12 (by decide) f146 rfl dX4_readsNumber_191 ?_
            refine g_put C (ws' := (modT E m b μ (q) v cm fi se)) inX4 (ty := .int) tyX4 tyX4_ok nmX4 0 rfl rfl 12 (by decide) f146 rfl (by decide +kernel) rfl rfl (Nat.le_of_ble_eq_true rfl) dX4_readsNumber_194 rfl ?_
            refine g_iconst C (v := 1) dX4_readsNumber_197 rfl ?_
            refine g_zret C R0 rfl dX4_readsNumber_198 ?_
            have hx : rnL (mTx μ) n t (f + 1) v q = (v, q) := by rw [rnL, if_neg (fun z => i32_nltx hc_137 z.2.2)]
            rw [hx] at hfin
            exact pT_mk (c := true) (by rw [hfin]) (Or.inl ⟨rfl, rfl⟩) (by rw [hfin])
          · refine g_aload_n C dX4_readsNumber_140 rfl rfl ?_
            refine g_bipush C (v := 10) dX4_readsNumber_141 rfl ?_
            refine g_aload_n C dX4_readsNumber_143 rfl rfl ?_
            refine g_get C inX4 0 rfl rfl 12 (by decide) f146 rfl dX4_readsNumber_144 ?_
            refine g_imul C dX4_readsNumber_147 ?_
            refine g_aload_n C dX4_readsNumber_148 rfl rfl ?_
            refine g_get C inX4 0 rfl rfl 9 (by decide) f32 rfl dX4_readsNumber_149 ?_
            refine g_aload_n C dX4_readsNumber_152 rfl rfl ?_
            refine g_get C inX4 0 rfl rfl 11 (by decide) f135 rfl dX4_readsNumber_153 ?_
            refine g_iald C 6 rfl ((q)) rfl (by omega) (Nat.le_of_ble_eq_true rfl) dX4_readsNumber_156 ?_
            refine g_iadd C dX4_readsNumber_157 ?_
            refine g_bipush C (v := 48) dX4_readsNumber_158 rfl ?_
            refine g_isub C dX4_readsNumber_160 ?_
            refine g_put C (ws' := (modT E m b μ (q) (((10 * v) + (mTx μ ((q)))) - 48) cm fi se)) inX4 (ty := .int) tyX4 tyX4_ok nmX4 0 rfl rfl 12 (by decide) f146 rfl (by decide +kernel) rfl rfl (Nat.le_of_ble_eq_true rfl) dX4_readsNumber_161 rfl ?_
            refine g_aload_n C dX4_readsNumber_164 rfl rfl ?_
            refine g_dup C dX4_readsNumber_165 rfl ?_
            refine g_get C inX4 0 rfl rfl 11 (by decide) f135 rfl dX4_readsNumber_166 ?_
            refine g_iconst C (v := 1) dX4_readsNumber_169 rfl ?_
            refine g_iadd C dX4_readsNumber_170 ?_
            rw [show ((nI (q)) + 1) = nI (((q) + 1)) from nI_add ((q)) (1)]
            refine g_put C (ws' := (modT E m b μ (((q) + 1)) (((10 * v) + (mTx μ ((q)))) - 48) cm fi se)) inX4 (ty := .int) tyX4 tyX4_ok nmX4 0 rfl rfl 11 (by decide) f135 rfl (by decide +kernel) rfl rfl (Nat.le_of_ble_eq_true rfl) dX4_readsNumber_171 rfl ?_
            refine g_goto C (tgt := 98) dX4_readsNumber_174 (by decide) ?_
            refine ih _ (q + 1) (by omega) ?_
            rw [rnL, if_pos ⟨i32_lt.mp hc_102, hb_110, i32_le.mp hc_137⟩] at hfin
            exact hfin
        · refine g_if_eq_t C dX4_readsNumber_113 (tgt := 177) (by decide) (by decide) ?_
          refine g_aload_n C dX4_readsNumber_177 rfl rfl ?_
          refine g_iload_n C dX4_readsNumber_178 rfl rfl ?_
          refine g_if_eq_t C dX4_readsNumber_179 (tgt := 190) (by decide) (by decide) ?_
          refine g_aload_n C dX4_readsNumber_190 rfl rfl ?_
          refine g_get C inX4 0 rfl rfl 12 (by decide) f146 rfl dX4_readsNumber_191 ?_
          refine g_put C (ws' := (modT E m b μ (q) v cm fi se)) inX4 (ty := .int) tyX4 tyX4_ok nmX4 0 rfl rfl 12 (by decide) f146 rfl (by decide +kernel) rfl rfl (Nat.le_of_ble_eq_true rfl) dX4_readsNumber_194 rfl ?_
          refine g_iconst C (v := 1) dX4_readsNumber_197 rfl ?_
          refine g_zret C R0 rfl dX4_readsNumber_198 ?_
          have hx : rnL (mTx μ) n t (f + 1) v q = (v, q) := by rw [rnL, if_neg (fun z => hb_110 z.2.1)]
          rw [hx] at hfin
          exact pT_mk (c := true) (by rw [hfin]) (Or.inl ⟨rfl, rfl⟩) (by rw [hfin])
  have lp1 : ∀ (f : Nat) (v : Int32) (q : Nat), q + f = n → rnR (mTx μ) n l t p nu = (true, (rnL (mTx μ) n t f v q).2, -(rnL (mTx μ) n t f v q).1) → G E x (modT E m b μ (q) v cm fi se) [some (.ref m), some (.int l), some (.int t), some (.int 1)] 98 [] := by
    intro f
    induction f with
    | zero =>
      intro v q hq hfin
      refine g_aload_n C dX4_readsNumber_98 rfl rfl ?_
      refine g_get C inX4 0 rfl rfl 12 (by decide) f146 rfl dX4_readsNumber_99 ?_
      refine g_if_le C (tgt := 177) dX4_readsNumber_102 (by decide) (fun hc_102 => ?_) (fun hc_102 => ?_)
      · refine g_aload_n C dX4_readsNumber_177 rfl rfl ?_
        refine g_iload_n C dX4_readsNumber_178 rfl rfl ?_
        refine g_if_eq_f C dX4_readsNumber_179 190 (by decide) (by decide) ?_
        refine g_aload_n C dX4_readsNumber_182 rfl rfl ?_
        refine g_get C inX4 0 rfl rfl 12 (by decide) f146 rfl dX4_readsNumber_183 ?_
        refine g_ineg C dX4_readsNumber_186 ?_
        refine g_goto C (tgt := 194) dX4_readsNumber_187 (by decide) ?_
        refine g_put C (ws' := (modT E m b μ (q) (-v) cm fi se)) inX4 (ty := .int) tyX4 tyX4_ok nmX4 0 rfl rfl 12 (by decide) f146 rfl (by decide +kernel) rfl rfl (Nat.le_of_ble_eq_true rfl) dX4_readsNumber_194 rfl ?_
        refine g_iconst C (v := 1) dX4_readsNumber_197 rfl ?_
        refine g_zret C R0 rfl dX4_readsNumber_198 ?_
        have hx : rnL (mTx μ) n t 0 v q = (v, q) := rfl
        rw [hx] at hfin
        exact pT_mk (c := true) (by rw [hfin]) (Or.inl ⟨rfl, rfl⟩) (by rw [hfin])
      · refine g_aload_n C dX4_readsNumber_105 rfl rfl ?_
        refine g_bipush C (v := 48) dX4_readsNumber_106 rfl ?_
        refine g_bipush C (v := 57) dX4_readsNumber_108 rfl ?_
        refine g_calliVF C 0 rfl rfl (c_X4_isHere E m b μ n (q) hn hTL (by omega) v cm fi se _ _) cf_X4_isHere gX4_readsNumber_X4_isHere rfl (fitD (Nat.le_of_ble_eq_true rfl) (Nat.le_of_ble_eq_true rfl)) rfl rfl (Nat.le_of_ble_eq_true rfl) dX4_readsNumber_110 (fun r1 w1 hp => ?_)
        obtain ⟨⟨hb_110, rfl⟩ | ⟨hb_110, rfl⟩, rfl⟩ := hp
        · have hlt_110 : q < n := hb_110.1
          refine g_if_eq_f C dX4_readsNumber_113 177 (by decide) (by decide) ?_
          refine g_bipush C (v := 10) dX4_readsNumber_116 rfl ?_
          refine g_aload_n C dX4_readsNumber_118 rfl rfl ?_
          refine g_get C inX4 0 rfl rfl 12 (by decide) f146 rfl dX4_readsNumber_119 ?_
          refine g_imul C dX4_readsNumber_122 ?_
          refine g_aload_n C dX4_readsNumber_123 rfl rfl ?_
          refine g_get C inX4 0 rfl rfl 9 (by decide) f32 rfl dX4_readsNumber_124 ?_
          refine g_aload_n C dX4_readsNumber_127 rfl rfl ?_
          refine g_get C inX4 0 rfl rfl 11 (by decide) f135 rfl dX4_readsNumber_128 ?_
          refine g_iald C 6 rfl ((q)) rfl (by omega) (Nat.le_of_ble_eq_true rfl) dX4_readsNumber_131 ?_
          refine g_iadd C dX4_readsNumber_132 ?_
          refine g_bipush C (v := 48) dX4_readsNumber_133 rfl ?_
          refine g_isub C dX4_readsNumber_135 ?_
          refine g_iload_n C dX4_readsNumber_136 rfl rfl ?_
          refine g_icmp_gt C (tgt := 177) dX4_readsNumber_137 (by decide) (fun hc_137 => ?_) (fun hc_137 => ?_)
          · refine g_aload_n C dX4_readsNumber_177 rfl rfl ?_
            refine g_iload_n C dX4_readsNumber_178 rfl rfl ?_
            refine g_if_eq_f C dX4_readsNumber_179 190 (by decide) (by decide) ?_
            refine g_aload_n C dX4_readsNumber_182 rfl rfl ?_
            refine g_get C inX4 0 rfl rfl 12 (by decide) f146 rfl dX4_readsNumber_183 ?_
            refine g_ineg C dX4_readsNumber_186 ?_
            refine g_goto C (tgt := 194) dX4_readsNumber_187 (by decide) ?_
            refine g_put C (ws' := (modT E m b μ (q) (-v) cm fi se)) inX4 (ty := .int) tyX4 tyX4_ok nmX4 0 rfl rfl 12 (by decide) f146 rfl (by decide +kernel) rfl rfl (Nat.le_of_ble_eq_true rfl) dX4_readsNumber_194 rfl ?_
            refine g_iconst C (v := 1) dX4_readsNumber_197 rfl ?_
            refine g_zret C R0 rfl dX4_readsNumber_198 ?_
            have hx : rnL (mTx μ) n t 0 v q = (v, q) := rfl
            rw [hx] at hfin
            exact pT_mk (c := true) (by rw [hfin]) (Or.inl ⟨rfl, rfl⟩) (by rw [hfin])
          · refine g_aload_n C dX4_readsNumber_140 rfl rfl ?_
            refine g_bipush C (v := 10) dX4_readsNumber_141 rfl ?_
            refine g_aload_n C dX4_readsNumber_143 rfl rfl ?_
            refine g_get C inX4 0 rfl rfl 12 (by decide) f146 rfl dX4_readsNumber_144 ?_
            refine g_imul C dX4_readsNumber_147 ?_
            refine g_aload_n C dX4_readsNumber_148 rfl rfl ?_
            refine g_get C inX4 0 rfl rfl 9 (by decide) f32 rfl dX4_readsNumber_149 ?_
            refine g_aload_n C dX4_readsNumber_152 rfl rfl ?_
            refine g_get C inX4 0 rfl rfl 11 (by decide) f135 rfl dX4_readsNumber_153 ?_
            refine g_iald C 6 rfl ((q)) rfl (by omega) (Nat.le_of_ble_eq_true rfl) dX4_readsNumber_156 ?_
            refine g_iadd C dX4_readsNumber_157 ?_
            refine g_bipush C (v := 48) dX4_readsNumber_158 rfl ?_
            refine g_isub C dX4_readsNumber_160 ?_
            refine g_put C (ws' := (modT E m b μ (q) (((10 * v) + (mTx μ ((q)))) - 48) cm fi se)) inX4 (ty := .int) tyX4 tyX4_ok nmX4 0 rfl rfl 12 (by decide) f146 rfl (by decide +kernel) rfl rfl (Nat.le_of_ble_eq_true rfl) dX4_readsNumber_161 rfl ?_
            refine g_aload_n C dX4_readsNumber_164 rfl rfl ?_
            refine g_dup C dX4_readsNumber_165 rfl ?_
            refine g_get C inX4 0 rfl rfl 11 (by decide) f135 rfl dX4_readsNumber_166 ?_
            refine g_iconst C (v := 1) dX4_readsNumber_169 rfl ?_
            refine g_iadd C dX4_readsNumber_170 ?_
            rw [show ((nI (q)) + 1) = nI (((q) + 1)) from nI_add ((q)) (1)]
            refine g_put C (ws' := (modT E m b μ (((q) + 1)) (((10 * v) + (mTx μ ((q)))) - 48) cm fi se)) inX4 (ty := .int) tyX4 tyX4_ok nmX4 0 rfl rfl 11 (by decide) f135 rfl (by decide +kernel) rfl rfl (Nat.le_of_ble_eq_true rfl) dX4_readsNumber_171 rfl ?_
            refine g_goto C (tgt := 98) dX4_readsNumber_174 (by decide) ?_
            exact absurd hlt_110 (by omega)
        · refine g_if_eq_t C dX4_readsNumber_113 (tgt := 177) (by decide) (by decide) ?_
          refine g_aload_n C dX4_readsNumber_177 rfl rfl ?_
          refine g_iload_n C dX4_readsNumber_178 rfl rfl ?_
          refine g_if_eq_f C dX4_readsNumber_179 190 (by decide) (by decide) ?_
          refine g_aload_n C dX4_readsNumber_182 rfl rfl ?_
          refine g_get C inX4 0 rfl rfl 12 (by decide) f146 rfl dX4_readsNumber_183 ?_
          refine g_ineg C dX4_readsNumber_186 ?_
          refine g_goto C (tgt := 194) dX4_readsNumber_187 (by decide) ?_
          refine g_put C (ws' := (modT E m b μ (q) (-v) cm fi se)) inX4 (ty := .int) tyX4 tyX4_ok nmX4 0 rfl rfl 12 (by decide) f146 rfl (by decide +kernel) rfl rfl (Nat.le_of_ble_eq_true rfl) dX4_readsNumber_194 rfl ?_
          refine g_iconst C (v := 1) dX4_readsNumber_197 rfl ?_
          refine g_zret C R0 rfl dX4_readsNumber_198 ?_
          have hx : rnL (mTx μ) n t 0 v q = (v, q) := rfl
          rw [hx] at hfin
          exact pT_mk (c := true) (by rw [hfin]) (Or.inl ⟨rfl, rfl⟩) (by rw [hfin])
    | succ f ih =>
      intro v q hq hfin
      refine g_aload_n C dX4_readsNumber_98 rfl rfl ?_
      refine g_get C inX4 0 rfl rfl 12 (by decide) f146 rfl dX4_readsNumber_99 ?_
      refine g_if_le C (tgt := 177) dX4_readsNumber_102 (by decide) (fun hc_102 => ?_) (fun hc_102 => ?_)
      · refine g_aload_n C dX4_readsNumber_177 rfl rfl ?_
        refine g_iload_n C dX4_readsNumber_178 rfl rfl ?_
        refine g_if_eq_f C dX4_readsNumber_179 190 (by decide) (by decide) ?_
        refine g_aload_n C dX4_readsNumber_182 rfl rfl ?_
        refine g_get C inX4 0 rfl rfl 12 (by decide) f146 rfl dX4_readsNumber_183 ?_
        refine g_ineg C dX4_readsNumber_186 ?_
        refine g_goto C (tgt := 194) dX4_readsNumber_187 (by decide) ?_
        refine g_put C (ws' := (modT E m b μ (q) (-v) cm fi se)) inX4 (ty := .int) tyX4 tyX4_ok nmX4 0 rfl rfl 12 (by decide) f146 rfl (by decide +kernel) rfl rfl (Nat.le_of_ble_eq_true rfl) dX4_readsNumber_194 rfl ?_
        refine g_iconst C (v := 1) dX4_readsNumber_197 rfl ?_
        refine g_zret C R0 rfl dX4_readsNumber_198 ?_
        have hx : rnL (mTx μ) n t (f + 1) v q = (v, q) := by rw [rnL, if_neg (fun z => i32_nlt hc_102 z.1)]
        rw [hx] at hfin
        exact pT_mk (c := true) (by rw [hfin]) (Or.inl ⟨rfl, rfl⟩) (by rw [hfin])
      · refine g_aload_n C dX4_readsNumber_105 rfl rfl ?_
        refine g_bipush C (v := 48) dX4_readsNumber_106 rfl ?_
        refine g_bipush C (v := 57) dX4_readsNumber_108 rfl ?_
        refine g_calliVF C 0 rfl rfl (c_X4_isHere E m b μ n (q) hn hTL (by omega) v cm fi se _ _) cf_X4_isHere gX4_readsNumber_X4_isHere rfl (fitD (Nat.le_of_ble_eq_true rfl) (Nat.le_of_ble_eq_true rfl)) rfl rfl (Nat.le_of_ble_eq_true rfl) dX4_readsNumber_110 (fun r1 w1 hp => ?_)
        obtain ⟨⟨hb_110, rfl⟩ | ⟨hb_110, rfl⟩, rfl⟩ := hp
        · have hlt_110 : q < n := hb_110.1
          refine g_if_eq_f C dX4_readsNumber_113 177 (by decide) (by decide) ?_
          refine g_bipush C (v := 10) dX4_readsNumber_116 rfl ?_
          refine g_aload_n C dX4_readsNumber_118 rfl rfl ?_
          refine g_get C inX4 0 rfl rfl 12 (by decide) f146 rfl dX4_readsNumber_119 ?_
          refine g_imul C dX4_readsNumber_122 ?_
          refine g_aload_n C dX4_readsNumber_123 rfl rfl ?_
          refine g_get C inX4 0 rfl rfl 9 (by decide) f32 rfl dX4_readsNumber_124 ?_
          refine g_aload_n C dX4_readsNumber_127 rfl rfl ?_
          refine g_get C inX4 0 rfl rfl 11 (by decide) f135 rfl dX4_readsNumber_128 ?_
          refine g_iald C 6 rfl ((q)) rfl (by omega) (Nat.le_of_ble_eq_true rfl) dX4_readsNumber_131 ?_
          refine g_iadd C dX4_readsNumber_132 ?_
          refine g_bipush C (v := 48) dX4_readsNumber_133 rfl ?_
          refine g_isub C dX4_readsNumber_135 ?_
          refine g_iload_n C dX4_readsNumber_136 rfl rfl ?_
          refine g_icmp_gt C (tgt := 177) dX4_readsNumber_137 (by decide) (fun hc_137 => ?_) (fun hc_137 => ?_)
          · refine g_aload_n C dX4_readsNumber_177 rfl rfl ?_
            refine g_iload_n C dX4_readsNumber_178 rfl rfl ?_
            refine g_if_eq_f C dX4_readsNumber_179 190 (by decide) (by decide) ?_
            refine g_aload_n C dX4_readsNumber_182 rfl rfl ?_
            refine g_get C inX4 0 rfl rfl 12 (by decide) f146 rfl dX4_readsNumber_183 ?_
            refine g_ineg C dX4_readsNumber_186 ?_
            refine g_goto C (tgt := 194) dX4_readsNumber_187 (by decide) ?_
            refine g_put C (ws' := (modT E m b μ (q) (-v) cm fi se)) inX4 (ty := .int) tyX4 tyX4_ok nmX4 0 rfl rfl 12 (by decide) f146 rfl (by decide +kernel) rfl rfl (Nat.le_of_ble_eq_true rfl) dX4_readsNumber_194 rfl ?_
            refine g_iconst C (v := 1) dX4_readsNumber_197 rfl ?_
            refine g_zret C R0 rfl dX4_readsNumber_198 ?_
            have hx : rnL (mTx μ) n t (f + 1) v q = (v, q) := by rw [rnL, if_neg (fun z => i32_nltx hc_137 z.2.2)]
            rw [hx] at hfin
            exact pT_mk (c := true) (by rw [hfin]) (Or.inl ⟨rfl, rfl⟩) (by rw [hfin])
          · refine g_aload_n C dX4_readsNumber_140 rfl rfl ?_
            refine g_bipush C (v := 10) dX4_readsNumber_141 rfl ?_
            refine g_aload_n C dX4_readsNumber_143 rfl rfl ?_
            refine g_get C inX4 0 rfl rfl 12 (by decide) f146 rfl dX4_readsNumber_144 ?_
            refine g_imul C dX4_readsNumber_147 ?_
            refine g_aload_n C dX4_readsNumber_148 rfl rfl ?_
            refine g_get C inX4 0 rfl rfl 9 (by decide) f32 rfl dX4_readsNumber_149 ?_
            refine g_aload_n C dX4_readsNumber_152 rfl rfl ?_
            refine g_get C inX4 0 rfl rfl 11 (by decide) f135 rfl dX4_readsNumber_153 ?_
            refine g_iald C 6 rfl ((q)) rfl (by omega) (Nat.le_of_ble_eq_true rfl) dX4_readsNumber_156 ?_
            refine g_iadd C dX4_readsNumber_157 ?_
            refine g_bipush C (v := 48) dX4_readsNumber_158 rfl ?_
            refine g_isub C dX4_readsNumber_160 ?_
            refine g_put C (ws' := (modT E m b μ (q) (((10 * v) + (mTx μ ((q)))) - 48) cm fi se)) inX4 (ty := .int) tyX4 tyX4_ok nmX4 0 rfl rfl 12 (by decide) f146 rfl (by decide +kernel) rfl rfl (Nat.le_of_ble_eq_true rfl) dX4_readsNumber_161 rfl ?_
            refine g_aload_n C dX4_readsNumber_164 rfl rfl ?_
            refine g_dup C dX4_readsNumber_165 rfl ?_
            refine g_get C inX4 0 rfl rfl 11 (by decide) f135 rfl dX4_readsNumber_166 ?_
            refine g_iconst C (v := 1) dX4_readsNumber_169 rfl ?_
            refine g_iadd C dX4_readsNumber_170 ?_
            rw [show ((nI (q)) + 1) = nI (((q) + 1)) from nI_add ((q)) (1)]
            refine g_put C (ws' := (modT E m b μ (((q) + 1)) (((10 * v) + (mTx μ ((q)))) - 48) cm fi se)) inX4 (ty := .int) tyX4 tyX4_ok nmX4 0 rfl rfl 11 (by decide) f135 rfl (by decide +kernel) rfl rfl (Nat.le_of_ble_eq_true rfl) dX4_readsNumber_171 rfl ?_
            refine g_goto C (tgt := 98) dX4_readsNumber_174 (by decide) ?_
            refine ih _ (q + 1) (by omega) ?_
            rw [rnL, if_pos ⟨i32_lt.mp hc_102, hb_110, i32_le.mp hc_137⟩] at hfin
            exact hfin
        · refine g_if_eq_t C dX4_readsNumber_113 (tgt := 177) (by decide) (by decide) ?_
          refine g_aload_n C dX4_readsNumber_177 rfl rfl ?_
          refine g_iload_n C dX4_readsNumber_178 rfl rfl ?_
          refine g_if_eq_f C dX4_readsNumber_179 190 (by decide) (by decide) ?_
          refine g_aload_n C dX4_readsNumber_182 rfl rfl ?_
          refine g_get C inX4 0 rfl rfl 12 (by decide) f146 rfl dX4_readsNumber_183 ?_
          refine g_ineg C dX4_readsNumber_186 ?_
          refine g_goto C (tgt := 194) dX4_readsNumber_187 (by decide) ?_
          refine g_put C (ws' := (modT E m b μ (q) (-v) cm fi se)) inX4 (ty := .int) tyX4 tyX4_ok nmX4 0 rfl rfl 12 (by decide) f146 rfl (by decide +kernel) rfl rfl (Nat.le_of_ble_eq_true rfl) dX4_readsNumber_194 rfl ?_
          refine g_iconst C (v := 1) dX4_readsNumber_197 rfl ?_
          refine g_zret C R0 rfl dX4_readsNumber_198 ?_
          have hx : rnL (mTx μ) n t (f + 1) v q = (v, q) := by rw [rnL, if_neg (fun z => hb_110 z.2.1)]
          rw [hx] at hfin
          exact pT_mk (c := true) (by rw [hfin]) (Or.inl ⟨rfl, rfl⟩) (by rw [hfin])
  refine g_aload_n C dX4_readsNumber_0 rfl rfl ?_
  refine g_bipush C (v := 32) dX4_readsNumber_1 rfl ?_
  refine g_calliVF C 0 rfl rfl (c_X4_takes E m b μ n (p) hn hTL (by omega) nu cm fi se _) cf_X4_takes gX4_readsNumber_X4_takes rfl (fitD (Nat.le_of_ble_eq_true rfl) (Nat.le_of_ble_eq_true rfl)) rfl rfl (Nat.le_of_ble_eq_true rfl) dX4_readsNumber_3 (fun r1 w1 hp9 => ?_)
  obtain ⟨hb_3, rfl, rfl⟩ | ⟨hb_3, rfl, rfl⟩ := hp9
  · have hq_3 : p + 1 ≤ n := hb_3.1
    refine g_if_ne_t C dX4_readsNumber_6 (tgt := 11) (by decide) (by decide) ?_
    refine g_iload_n C dX4_readsNumber_11 rfl rfl ?_
    refine g_if_ge C (tgt := 28) dX4_readsNumber_12 (by decide) (fun hc_12 => ?_) (fun hc_12 => ?_)
    · refine g_iconst C (v := 0) dX4_readsNumber_28 rfl ?_
      refine g_istore_n C dX4_readsNumber_29 rfl (Nat.le_of_ble_eq_true rfl) rfl ?_
      refine g_aload_n C dX4_readsNumber_30 rfl rfl ?_
      refine g_iload_n C dX4_readsNumber_31 rfl rfl ?_
      refine g_if_ne_f C dX4_readsNumber_32 39 (by decide) (by decide) ?_
      refine g_iload_n C dX4_readsNumber_35 rfl rfl ?_
      refine g_if_le C (tgt := 44) dX4_readsNumber_36 (by decide) (fun hc_36 => ?_) (fun hc_36 => ?_)
      · refine g_bipush C (v := 48) dX4_readsNumber_44 rfl ?_
        refine g_bipush C (v := 57) dX4_readsNumber_46 rfl ?_
        refine g_calliVF C 0 rfl rfl (c_X4_isHere E m b μ n (p + 1) hn hTL (by omega) nu cm fi se _ _) cf_X4_isHere gX4_readsNumber_X4_isHere rfl (fitD (Nat.le_of_ble_eq_true rfl) (Nat.le_of_ble_eq_true rfl)) rfl rfl (Nat.le_of_ble_eq_true rfl) dX4_readsNumber_48 (fun r1 w1 hp => ?_)
        obtain ⟨⟨hb_48, rfl⟩ | ⟨hb_48, rfl⟩, rfl⟩ := hp
        · have hlt_48 : p + 1 < n := hb_48.1
          refine g_if_eq_f C dX4_readsNumber_51 70 (by decide) (by decide) ?_
          refine g_aload_n C dX4_readsNumber_54 rfl rfl ?_
          refine g_get C inX4 0 rfl rfl 9 (by decide) f32 rfl dX4_readsNumber_55 ?_
          refine g_aload_n C dX4_readsNumber_58 rfl rfl ?_
          refine g_get C inX4 0 rfl rfl 11 (by decide) f135 rfl dX4_readsNumber_59 ?_
          refine g_iald C 6 rfl ((p + 1)) rfl (by omega) (Nat.le_of_ble_eq_true rfl) dX4_readsNumber_62 ?_
          refine g_bipush C (v := 48) dX4_readsNumber_63 rfl ?_
          refine g_isub C dX4_readsNumber_65 ?_
          refine g_iload_n C dX4_readsNumber_66 rfl rfl ?_
          refine g_icmp_le C (tgt := 72) dX4_readsNumber_67 (by decide) (fun hc_67 => ?_) (fun hc_67 => ?_)
          · refine g_aload_n C dX4_readsNumber_72 rfl rfl ?_
            refine g_aload_n C dX4_readsNumber_73 rfl rfl ?_
            refine g_get C inX4 0 rfl rfl 9 (by decide) f32 rfl dX4_readsNumber_74 ?_
            refine g_aload_n C dX4_readsNumber_77 rfl rfl ?_
            refine g_get C inX4 0 rfl rfl 11 (by decide) f135 rfl dX4_readsNumber_78 ?_
            refine g_iald C 6 rfl ((p + 1)) rfl (by omega) (Nat.le_of_ble_eq_true rfl) dX4_readsNumber_81 ?_
            refine g_bipush C (v := 48) dX4_readsNumber_82 rfl ?_
            refine g_isub C dX4_readsNumber_84 ?_
            refine g_put C (ws' := (modT E m b μ (p + 1) ((mTx μ ((p + 1))) - 48) cm fi se)) inX4 (ty := .int) tyX4 tyX4_ok nmX4 0 rfl rfl 12 (by decide) f146 rfl (by decide +kernel) rfl rfl (Nat.le_of_ble_eq_true rfl) dX4_readsNumber_85 rfl ?_
            refine g_aload_n C dX4_readsNumber_88 rfl rfl ?_
            refine g_dup C dX4_readsNumber_89 rfl ?_
            refine g_get C inX4 0 rfl rfl 11 (by decide) f135 rfl dX4_readsNumber_90 ?_
            refine g_iconst C (v := 1) dX4_readsNumber_93 rfl ?_
            refine g_iadd C dX4_readsNumber_94 ?_
            rw [show ((nI (p + 1)) + 1) = nI (((p + 1) + 1)) from nI_add ((p + 1)) (1)]
            refine g_put C (ws' := (modT E m b μ (((p + 1) + 1)) ((mTx μ ((p + 1))) - 48) cm fi se)) inX4 (ty := .int) tyX4 tyX4_ok nmX4 0 rfl rfl 11 (by decide) f135 rfl (by decide +kernel) rfl rfl (Nat.le_of_ble_eq_true rfl) dX4_readsNumber_95 rfl ?_
            refine lp0 _ _ _ (by omega : ((p + 1) + 1) + (n - (p + 1 + 1)) = n) ?_
            rw [rnR, if_pos hb_3, if_neg (i32_nlt hc_12), if_neg (i32_nlt hc_36), rnD, if_pos hb_48, if_pos hc_67] <;> rfl
          · refine g_iconst C (v := 0) dX4_readsNumber_70 rfl ?_
            refine g_zret C R0 rfl dX4_readsNumber_71 ?_
            have hx : rnR (mTx μ) n l t p nu = (false, p + 1, nu) := by rw [rnR, if_pos hb_3, if_neg (i32_nlt hc_12), if_neg (i32_nlt hc_36), rnD, if_pos hb_48, if_neg hc_67]
            exact pT_mk (c := false) (by rw [hx]) (Or.inr ⟨rfl, rfl⟩) (by rw [hx])
        · refine g_if_eq_t C dX4_readsNumber_51 (tgt := 70) (by decide) (by decide) ?_
          refine g_iconst C (v := 0) dX4_readsNumber_70 rfl ?_
          refine g_zret C R0 rfl dX4_readsNumber_71 ?_
          have hx : rnR (mTx μ) n l t p nu = (false, p + 1, nu) := by rw [rnR, if_pos hb_3, if_neg (i32_nlt hc_12), if_neg (i32_nlt hc_36), rnD, if_neg hb_48]
          exact pT_mk (c := false) (by rw [hx]) (Or.inr ⟨rfl, rfl⟩) (by rw [hx])
      · refine g_bipush C (v := 49) dX4_readsNumber_39 rfl ?_
        refine g_goto C (tgt := 46) dX4_readsNumber_41 (by decide) ?_
        refine g_bipush C (v := 57) dX4_readsNumber_46 rfl ?_
        refine g_calliVF C 0 rfl rfl (c_X4_isHere E m b μ n (p + 1) hn hTL (by omega) nu cm fi se _ _) cf_X4_isHere gX4_readsNumber_X4_isHere rfl (fitD (Nat.le_of_ble_eq_true rfl) (Nat.le_of_ble_eq_true rfl)) rfl rfl (Nat.le_of_ble_eq_true rfl) dX4_readsNumber_48 (fun r1 w1 hp => ?_)
        obtain ⟨⟨hb_48, rfl⟩ | ⟨hb_48, rfl⟩, rfl⟩ := hp
        · have hlt_48 : p + 1 < n := hb_48.1
          refine g_if_eq_f C dX4_readsNumber_51 70 (by decide) (by decide) ?_
          refine g_aload_n C dX4_readsNumber_54 rfl rfl ?_
          refine g_get C inX4 0 rfl rfl 9 (by decide) f32 rfl dX4_readsNumber_55 ?_
          refine g_aload_n C dX4_readsNumber_58 rfl rfl ?_
          refine g_get C inX4 0 rfl rfl 11 (by decide) f135 rfl dX4_readsNumber_59 ?_
          refine g_iald C 6 rfl ((p + 1)) rfl (by omega) (Nat.le_of_ble_eq_true rfl) dX4_readsNumber_62 ?_
          refine g_bipush C (v := 48) dX4_readsNumber_63 rfl ?_
          refine g_isub C dX4_readsNumber_65 ?_
          refine g_iload_n C dX4_readsNumber_66 rfl rfl ?_
          refine g_icmp_le C (tgt := 72) dX4_readsNumber_67 (by decide) (fun hc_67 => ?_) (fun hc_67 => ?_)
          · refine g_aload_n C dX4_readsNumber_72 rfl rfl ?_
            refine g_aload_n C dX4_readsNumber_73 rfl rfl ?_
            refine g_get C inX4 0 rfl rfl 9 (by decide) f32 rfl dX4_readsNumber_74 ?_
            refine g_aload_n C dX4_readsNumber_77 rfl rfl ?_
            refine g_get C inX4 0 rfl rfl 11 (by decide) f135 rfl dX4_readsNumber_78 ?_
            refine g_iald C 6 rfl ((p + 1)) rfl (by omega) (Nat.le_of_ble_eq_true rfl) dX4_readsNumber_81 ?_
            refine g_bipush C (v := 48) dX4_readsNumber_82 rfl ?_
            refine g_isub C dX4_readsNumber_84 ?_
            refine g_put C (ws' := (modT E m b μ (p + 1) ((mTx μ ((p + 1))) - 48) cm fi se)) inX4 (ty := .int) tyX4 tyX4_ok nmX4 0 rfl rfl 12 (by decide) f146 rfl (by decide +kernel) rfl rfl (Nat.le_of_ble_eq_true rfl) dX4_readsNumber_85 rfl ?_
            refine g_aload_n C dX4_readsNumber_88 rfl rfl ?_
            refine g_dup C dX4_readsNumber_89 rfl ?_
            refine g_get C inX4 0 rfl rfl 11 (by decide) f135 rfl dX4_readsNumber_90 ?_
            refine g_iconst C (v := 1) dX4_readsNumber_93 rfl ?_
            refine g_iadd C dX4_readsNumber_94 ?_
            rw [show ((nI (p + 1)) + 1) = nI (((p + 1) + 1)) from nI_add ((p + 1)) (1)]
            refine g_put C (ws' := (modT E m b μ (((p + 1) + 1)) ((mTx μ ((p + 1))) - 48) cm fi se)) inX4 (ty := .int) tyX4 tyX4_ok nmX4 0 rfl rfl 11 (by decide) f135 rfl (by decide +kernel) rfl rfl (Nat.le_of_ble_eq_true rfl) dX4_readsNumber_95 rfl ?_
            refine lp0 _ _ _ (by omega : ((p + 1) + 1) + (n - (p + 1 + 1)) = n) ?_
            rw [rnR, if_pos hb_3, if_neg (i32_nlt hc_12), if_pos (i32_lt.mp hc_36), rnD, if_pos hb_48, if_pos hc_67] <;> rfl
          · refine g_iconst C (v := 0) dX4_readsNumber_70 rfl ?_
            refine g_zret C R0 rfl dX4_readsNumber_71 ?_
            have hx : rnR (mTx μ) n l t p nu = (false, p + 1, nu) := by rw [rnR, if_pos hb_3, if_neg (i32_nlt hc_12), if_pos (i32_lt.mp hc_36), rnD, if_pos hb_48, if_neg hc_67]
            exact pT_mk (c := false) (by rw [hx]) (Or.inr ⟨rfl, rfl⟩) (by rw [hx])
        · refine g_if_eq_t C dX4_readsNumber_51 (tgt := 70) (by decide) (by decide) ?_
          refine g_iconst C (v := 0) dX4_readsNumber_70 rfl ?_
          refine g_zret C R0 rfl dX4_readsNumber_71 ?_
          have hx : rnR (mTx μ) n l t p nu = (false, p + 1, nu) := by rw [rnR, if_pos hb_3, if_neg (i32_nlt hc_12), if_pos (i32_lt.mp hc_36), rnD, if_neg hb_48]
          exact pT_mk (c := false) (by rw [hx]) (Or.inr ⟨rfl, rfl⟩) (by rw [hx])
    · refine g_aload_n C dX4_readsNumber_15 rfl rfl ?_
      refine g_bipush C (v := 45) dX4_readsNumber_16 rfl ?_
      refine g_calliVF C 0 rfl rfl (c_X4_takes E m b μ n (p + 1) hn hTL (by omega) nu cm fi se _) cf_X4_takes gX4_readsNumber_X4_takes rfl (fitD (Nat.le_of_ble_eq_true rfl) (Nat.le_of_ble_eq_true rfl)) rfl rfl (Nat.le_of_ble_eq_true rfl) dX4_readsNumber_18 (fun r1 w1 hp9 => ?_)
      obtain ⟨hb_18, rfl, rfl⟩ | ⟨hb_18, rfl, rfl⟩ := hp9
      · have hq_18 : p + 1 + 1 ≤ n := hb_18.1
        refine g_if_eq_f C dX4_readsNumber_21 28 (by decide) (by decide) ?_
        refine g_iconst C (v := 1) dX4_readsNumber_24 rfl ?_
        refine g_goto C (tgt := 29) dX4_readsNumber_25 (by decide) ?_
        refine g_istore_n C dX4_readsNumber_29 rfl (Nat.le_of_ble_eq_true rfl) rfl ?_
        refine g_aload_n C dX4_readsNumber_30 rfl rfl ?_
        refine g_iload_n C dX4_readsNumber_31 rfl rfl ?_
        refine g_if_ne_t C dX4_readsNumber_32 (tgt := 39) (by decide) (by decide) ?_
        refine g_bipush C (v := 49) dX4_readsNumber_39 rfl ?_
        refine g_goto C (tgt := 46) dX4_readsNumber_41 (by decide) ?_
        refine g_bipush C (v := 57) dX4_readsNumber_46 rfl ?_
        refine g_calliVF C 0 rfl rfl (c_X4_isHere E m b μ n (p + 1 + 1) hn hTL (by omega) nu cm fi se _ _) cf_X4_isHere gX4_readsNumber_X4_isHere rfl (fitD (Nat.le_of_ble_eq_true rfl) (Nat.le_of_ble_eq_true rfl)) rfl rfl (Nat.le_of_ble_eq_true rfl) dX4_readsNumber_48 (fun r1 w1 hp => ?_)
        obtain ⟨⟨hb_48, rfl⟩ | ⟨hb_48, rfl⟩, rfl⟩ := hp
        · have hlt_48 : p + 1 + 1 < n := hb_48.1
          refine g_if_eq_f C dX4_readsNumber_51 70 (by decide) (by decide) ?_
          refine g_aload_n C dX4_readsNumber_54 rfl rfl ?_
          refine g_get C inX4 0 rfl rfl 9 (by decide) f32 rfl dX4_readsNumber_55 ?_
          refine g_aload_n C dX4_readsNumber_58 rfl rfl ?_
          refine g_get C inX4 0 rfl rfl 11 (by decide) f135 rfl dX4_readsNumber_59 ?_
          refine g_iald C 6 rfl ((p + 1 + 1)) rfl (by omega) (Nat.le_of_ble_eq_true rfl) dX4_readsNumber_62 ?_
          refine g_bipush C (v := 48) dX4_readsNumber_63 rfl ?_
          refine g_isub C dX4_readsNumber_65 ?_
          refine g_iload_n C dX4_readsNumber_66 rfl rfl ?_
          refine g_icmp_le C (tgt := 72) dX4_readsNumber_67 (by decide) (fun hc_67 => ?_) (fun hc_67 => ?_)
          · refine g_aload_n C dX4_readsNumber_72 rfl rfl ?_
            refine g_aload_n C dX4_readsNumber_73 rfl rfl ?_
            refine g_get C inX4 0 rfl rfl 9 (by decide) f32 rfl dX4_readsNumber_74 ?_
            refine g_aload_n C dX4_readsNumber_77 rfl rfl ?_
            refine g_get C inX4 0 rfl rfl 11 (by decide) f135 rfl dX4_readsNumber_78 ?_
            refine g_iald C 6 rfl ((p + 1 + 1)) rfl (by omega) (Nat.le_of_ble_eq_true rfl) dX4_readsNumber_81 ?_
            refine g_bipush C (v := 48) dX4_readsNumber_82 rfl ?_
            refine g_isub C dX4_readsNumber_84 ?_
            refine g_put C (ws' := (modT E m b μ (p + 1 + 1) ((mTx μ ((p + 1 + 1))) - 48) cm fi se)) inX4 (ty := .int) tyX4 tyX4_ok nmX4 0 rfl rfl 12 (by decide) f146 rfl (by decide +kernel) rfl rfl (Nat.le_of_ble_eq_true rfl) dX4_readsNumber_85 rfl ?_
            refine g_aload_n C dX4_readsNumber_88 rfl rfl ?_
            refine g_dup C dX4_readsNumber_89 rfl ?_
            refine g_get C inX4 0 rfl rfl 11 (by decide) f135 rfl dX4_readsNumber_90 ?_
            refine g_iconst C (v := 1) dX4_readsNumber_93 rfl ?_
            refine g_iadd C dX4_readsNumber_94 ?_
            rw [show ((nI (p + 1 + 1)) + 1) = nI (((p + 1 + 1) + 1)) from nI_add ((p + 1 + 1)) (1)]
            refine g_put C (ws' := (modT E m b μ (((p + 1 + 1) + 1)) ((mTx μ ((p + 1 + 1))) - 48) cm fi se)) inX4 (ty := .int) tyX4 tyX4_ok nmX4 0 rfl rfl 11 (by decide) f135 rfl (by decide +kernel) rfl rfl (Nat.le_of_ble_eq_true rfl) dX4_readsNumber_95 rfl ?_
            refine lp1 _ _ _ (by omega : ((p + 1 + 1) + 1) + (n - (p + 1 + 1 + 1)) = n) ?_
            rw [rnR, if_pos hb_3, if_pos (i32_lt.mp hc_12), if_pos hb_18, rnD, if_pos hb_48, if_pos hc_67] <;> rfl
          · refine g_iconst C (v := 0) dX4_readsNumber_70 rfl ?_
            refine g_zret C R0 rfl dX4_readsNumber_71 ?_
            have hx : rnR (mTx μ) n l t p nu = (false, p + 1 + 1, nu) := by rw [rnR, if_pos hb_3, if_pos (i32_lt.mp hc_12), if_pos hb_18, rnD, if_pos hb_48, if_neg hc_67]
            exact pT_mk (c := false) (by rw [hx]) (Or.inr ⟨rfl, rfl⟩) (by rw [hx])
        · refine g_if_eq_t C dX4_readsNumber_51 (tgt := 70) (by decide) (by decide) ?_
          refine g_iconst C (v := 0) dX4_readsNumber_70 rfl ?_
          refine g_zret C R0 rfl dX4_readsNumber_71 ?_
          have hx : rnR (mTx μ) n l t p nu = (false, p + 1 + 1, nu) := by rw [rnR, if_pos hb_3, if_pos (i32_lt.mp hc_12), if_pos hb_18, rnD, if_neg hb_48]
          exact pT_mk (c := false) (by rw [hx]) (Or.inr ⟨rfl, rfl⟩) (by rw [hx])
      · refine g_if_eq_t C dX4_readsNumber_21 (tgt := 28) (by decide) (by decide) ?_
        refine g_iconst C (v := 0) dX4_readsNumber_28 rfl ?_
        refine g_istore_n C dX4_readsNumber_29 rfl (Nat.le_of_ble_eq_true rfl) rfl ?_
        refine g_aload_n C dX4_readsNumber_30 rfl rfl ?_
        refine g_iload_n C dX4_readsNumber_31 rfl rfl ?_
        refine g_if_ne_f C dX4_readsNumber_32 39 (by decide) (by decide) ?_
        refine g_iload_n C dX4_readsNumber_35 rfl rfl ?_
        refine g_if_le C (tgt := 44) dX4_readsNumber_36 (by decide) (fun hc_36 => ?_) (fun hc_36 => ?_)
        · refine g_bipush C (v := 48) dX4_readsNumber_44 rfl ?_
          refine g_bipush C (v := 57) dX4_readsNumber_46 rfl ?_
          refine g_calliVF C 0 rfl rfl (c_X4_isHere E m b μ n (p + 1) hn hTL (by omega) nu cm fi se _ _) cf_X4_isHere gX4_readsNumber_X4_isHere rfl (fitD (Nat.le_of_ble_eq_true rfl) (Nat.le_of_ble_eq_true rfl)) rfl rfl (Nat.le_of_ble_eq_true rfl) dX4_readsNumber_48 (fun r1 w1 hp => ?_)
          obtain ⟨⟨hb_48, rfl⟩ | ⟨hb_48, rfl⟩, rfl⟩ := hp
          · have hlt_48 : p + 1 < n := hb_48.1
            refine g_if_eq_f C dX4_readsNumber_51 70 (by decide) (by decide) ?_
            refine g_aload_n C dX4_readsNumber_54 rfl rfl ?_
            refine g_get C inX4 0 rfl rfl 9 (by decide) f32 rfl dX4_readsNumber_55 ?_
            refine g_aload_n C dX4_readsNumber_58 rfl rfl ?_
            refine g_get C inX4 0 rfl rfl 11 (by decide) f135 rfl dX4_readsNumber_59 ?_
            refine g_iald C 6 rfl ((p + 1)) rfl (by omega) (Nat.le_of_ble_eq_true rfl) dX4_readsNumber_62 ?_
            refine g_bipush C (v := 48) dX4_readsNumber_63 rfl ?_
            refine g_isub C dX4_readsNumber_65 ?_
            refine g_iload_n C dX4_readsNumber_66 rfl rfl ?_
            refine g_icmp_le C (tgt := 72) dX4_readsNumber_67 (by decide) (fun hc_67 => ?_) (fun hc_67 => ?_)
            · refine g_aload_n C dX4_readsNumber_72 rfl rfl ?_
              refine g_aload_n C dX4_readsNumber_73 rfl rfl ?_
              refine g_get C inX4 0 rfl rfl 9 (by decide) f32 rfl dX4_readsNumber_74 ?_
              refine g_aload_n C dX4_readsNumber_77 rfl rfl ?_
              refine g_get C inX4 0 rfl rfl 11 (by decide) f135 rfl dX4_readsNumber_78 ?_
              refine g_iald C 6 rfl ((p + 1)) rfl (by omega) (Nat.le_of_ble_eq_true rfl) dX4_readsNumber_81 ?_
              refine g_bipush C (v := 48) dX4_readsNumber_82 rfl ?_
              refine g_isub C dX4_readsNumber_84 ?_
              refine g_put C (ws' := (modT E m b μ (p + 1) ((mTx μ ((p + 1))) - 48) cm fi se)) inX4 (ty := .int) tyX4 tyX4_ok nmX4 0 rfl rfl 12 (by decide) f146 rfl (by decide +kernel) rfl rfl (Nat.le_of_ble_eq_true rfl) dX4_readsNumber_85 rfl ?_
              refine g_aload_n C dX4_readsNumber_88 rfl rfl ?_
              refine g_dup C dX4_readsNumber_89 rfl ?_
              refine g_get C inX4 0 rfl rfl 11 (by decide) f135 rfl dX4_readsNumber_90 ?_
              refine g_iconst C (v := 1) dX4_readsNumber_93 rfl ?_
              refine g_iadd C dX4_readsNumber_94 ?_
              rw [show ((nI (p + 1)) + 1) = nI (((p + 1) + 1)) from nI_add ((p + 1)) (1)]
              refine g_put C (ws' := (modT E m b μ (((p + 1) + 1)) ((mTx μ ((p + 1))) - 48) cm fi se)) inX4 (ty := .int) tyX4 tyX4_ok nmX4 0 rfl rfl 11 (by decide) f135 rfl (by decide +kernel) rfl rfl (Nat.le_of_ble_eq_true rfl) dX4_readsNumber_95 rfl ?_
              refine lp0 _ _ _ (by omega : ((p + 1) + 1) + (n - (p + 1 + 1)) = n) ?_
              rw [rnR, if_pos hb_3, if_pos (i32_lt.mp hc_12), if_neg hb_18, if_neg (i32_nlt hc_36), rnD, if_pos hb_48, if_pos hc_67] <;> rfl
            · refine g_iconst C (v := 0) dX4_readsNumber_70 rfl ?_
              refine g_zret C R0 rfl dX4_readsNumber_71 ?_
              have hx : rnR (mTx μ) n l t p nu = (false, p + 1, nu) := by rw [rnR, if_pos hb_3, if_pos (i32_lt.mp hc_12), if_neg hb_18, if_neg (i32_nlt hc_36), rnD, if_pos hb_48, if_neg hc_67]
              exact pT_mk (c := false) (by rw [hx]) (Or.inr ⟨rfl, rfl⟩) (by rw [hx])
          · refine g_if_eq_t C dX4_readsNumber_51 (tgt := 70) (by decide) (by decide) ?_
            refine g_iconst C (v := 0) dX4_readsNumber_70 rfl ?_
            refine g_zret C R0 rfl dX4_readsNumber_71 ?_
            have hx : rnR (mTx μ) n l t p nu = (false, p + 1, nu) := by rw [rnR, if_pos hb_3, if_pos (i32_lt.mp hc_12), if_neg hb_18, if_neg (i32_nlt hc_36), rnD, if_neg hb_48]
            exact pT_mk (c := false) (by rw [hx]) (Or.inr ⟨rfl, rfl⟩) (by rw [hx])
        · refine g_bipush C (v := 49) dX4_readsNumber_39 rfl ?_
          refine g_goto C (tgt := 46) dX4_readsNumber_41 (by decide) ?_
          refine g_bipush C (v := 57) dX4_readsNumber_46 rfl ?_
          refine g_calliVF C 0 rfl rfl (c_X4_isHere E m b μ n (p + 1) hn hTL (by omega) nu cm fi se _ _) cf_X4_isHere gX4_readsNumber_X4_isHere rfl (fitD (Nat.le_of_ble_eq_true rfl) (Nat.le_of_ble_eq_true rfl)) rfl rfl (Nat.le_of_ble_eq_true rfl) dX4_readsNumber_48 (fun r1 w1 hp => ?_)
          obtain ⟨⟨hb_48, rfl⟩ | ⟨hb_48, rfl⟩, rfl⟩ := hp
          · have hlt_48 : p + 1 < n := hb_48.1
            refine g_if_eq_f C dX4_readsNumber_51 70 (by decide) (by decide) ?_
            refine g_aload_n C dX4_readsNumber_54 rfl rfl ?_
            refine g_get C inX4 0 rfl rfl 9 (by decide) f32 rfl dX4_readsNumber_55 ?_
            refine g_aload_n C dX4_readsNumber_58 rfl rfl ?_
            refine g_get C inX4 0 rfl rfl 11 (by decide) f135 rfl dX4_readsNumber_59 ?_
            refine g_iald C 6 rfl ((p + 1)) rfl (by omega) (Nat.le_of_ble_eq_true rfl) dX4_readsNumber_62 ?_
            refine g_bipush C (v := 48) dX4_readsNumber_63 rfl ?_
            refine g_isub C dX4_readsNumber_65 ?_
            refine g_iload_n C dX4_readsNumber_66 rfl rfl ?_
            refine g_icmp_le C (tgt := 72) dX4_readsNumber_67 (by decide) (fun hc_67 => ?_) (fun hc_67 => ?_)
            · refine g_aload_n C dX4_readsNumber_72 rfl rfl ?_
              refine g_aload_n C dX4_readsNumber_73 rfl rfl ?_
              refine g_get C inX4 0 rfl rfl 9 (by decide) f32 rfl dX4_readsNumber_74 ?_
              refine g_aload_n C dX4_readsNumber_77 rfl rfl ?_
              refine g_get C inX4 0 rfl rfl 11 (by decide) f135 rfl dX4_readsNumber_78 ?_
              refine g_iald C 6 rfl ((p + 1)) rfl (by omega) (Nat.le_of_ble_eq_true rfl) dX4_readsNumber_81 ?_
              refine g_bipush C (v := 48) dX4_readsNumber_82 rfl ?_
              refine g_isub C dX4_readsNumber_84 ?_
              refine g_put C (ws' := (modT E m b μ (p + 1) ((mTx μ ((p + 1))) - 48) cm fi se)) inX4 (ty := .int) tyX4 tyX4_ok nmX4 0 rfl rfl 12 (by decide) f146 rfl (by decide +kernel) rfl rfl (Nat.le_of_ble_eq_true rfl) dX4_readsNumber_85 rfl ?_
              refine g_aload_n C dX4_readsNumber_88 rfl rfl ?_
              refine g_dup C dX4_readsNumber_89 rfl ?_
              refine g_get C inX4 0 rfl rfl 11 (by decide) f135 rfl dX4_readsNumber_90 ?_
              refine g_iconst C (v := 1) dX4_readsNumber_93 rfl ?_
              refine g_iadd C dX4_readsNumber_94 ?_
              rw [show ((nI (p + 1)) + 1) = nI (((p + 1) + 1)) from nI_add ((p + 1)) (1)]
              refine g_put C (ws' := (modT E m b μ (((p + 1) + 1)) ((mTx μ ((p + 1))) - 48) cm fi se)) inX4 (ty := .int) tyX4 tyX4_ok nmX4 0 rfl rfl 11 (by decide) f135 rfl (by decide +kernel) rfl rfl (Nat.le_of_ble_eq_true rfl) dX4_readsNumber_95 rfl ?_
              refine lp0 _ _ _ (by omega : ((p + 1) + 1) + (n - (p + 1 + 1)) = n) ?_
              rw [rnR, if_pos hb_3, if_pos (i32_lt.mp hc_12), if_neg hb_18, if_pos (i32_lt.mp hc_36), rnD, if_pos hb_48, if_pos hc_67] <;> rfl
            · refine g_iconst C (v := 0) dX4_readsNumber_70 rfl ?_
              refine g_zret C R0 rfl dX4_readsNumber_71 ?_
              have hx : rnR (mTx μ) n l t p nu = (false, p + 1, nu) := by rw [rnR, if_pos hb_3, if_pos (i32_lt.mp hc_12), if_neg hb_18, if_pos (i32_lt.mp hc_36), rnD, if_pos hb_48, if_neg hc_67]
              exact pT_mk (c := false) (by rw [hx]) (Or.inr ⟨rfl, rfl⟩) (by rw [hx])
          · refine g_if_eq_t C dX4_readsNumber_51 (tgt := 70) (by decide) (by decide) ?_
            refine g_iconst C (v := 0) dX4_readsNumber_70 rfl ?_
            refine g_zret C R0 rfl dX4_readsNumber_71 ?_
            have hx : rnR (mTx μ) n l t p nu = (false, p + 1, nu) := by rw [rnR, if_pos hb_3, if_pos (i32_lt.mp hc_12), if_neg hb_18, if_pos (i32_lt.mp hc_36), rnD, if_neg hb_48]
            exact pT_mk (c := false) (by rw [hx]) (Or.inr ⟨rfl, rfl⟩) (by rw [hx])
  · refine g_if_ne_f C dX4_readsNumber_6 11 (by decide) (by decide) ?_
    refine g_iconst C (v := 0) dX4_readsNumber_9 rfl ?_
    refine g_zret C R0 rfl dX4_readsNumber_10 ?_
    have hx : rnR (mTx μ) n l t p nu = (false, p, nu) := by rw [rnR, if_neg hb_3]
    exact pT_mk (c := false) (by rw [hx]) (Or.inr ⟨rfl, rfl⟩) (by rw [hx])
