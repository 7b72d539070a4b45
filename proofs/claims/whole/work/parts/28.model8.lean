abbrev R3 : Type := Bool × Nat × Int32
abbrev R6 : Type := Bool × Nat × Int32 × Int32 × Int32 × Int32
def rs1 (tx : F) (n : Nat) (cm : Int32) (p : Nat) (nu : Int32) : R3 := if cm = 0 then rnR tx n 0 3 p nu else if cm = 3 then rnR tx n 1 20 p nu else if cm = 4 then rnR tx n 0 7 p nu else rnR tx n 0 11 p nu
def rs2 (tx : F) (n : Nat) (cm : Int32) (p : Nat) (nu : Int32) : R3 := if cm = 4 then rnR tx n 0 9 p nu else rnR tx n (-999) 999 p nu
/-- ok, place, number, (command,) first, second -/
def rsB (tx : F) (n : Nat) (cm se : Int32) (a : R3) : R6 := if a.1 = true ∧ ¬ cm = 1 ∧ ¬ cm = 3 then ((rs2 tx n cm a.2.1 a.2.2).1, (rs2 tx n cm a.2.1 a.2.2).2.1, (rs2 tx n cm a.2.1 a.2.2).2.2, cm, a.2.2, (rs2 tx n cm a.2.1 a.2.2).2.2) else (a.1, a.2.1, a.2.2, cm, a.2.2, se)
def rsR (tx : F) (n : Nat) (cm : Int32) (p : Nat) (nu se : Int32) : R6 := rsB tx n cm se (rs1 tx n cm p nu)
def rcB (tx : F) (n : Nat) (cm nu fi se : Int32) (l : Bool × Nat) : R6 := if l.1 = true then rsR tx n cm l.2 nu se else (false, l.2, nu, cm, fi, se)
def rcX (tx : F) (n p : Nat) (nu cm fi se : Int32) : R6 :=
  if here tx n p 102 102 then rcB tx n 0 nu fi se (rlP tx n [0, 0, 0, 108, 121] (p + 1)) else
  if here tx n p 114 114 then rcB tx n 1 nu fi se (rlP tx n [0, 0, 101, 97, 100] (p + 1)) else
  if here tx n p 98 98 then rcB tx n 3 nu fi se (rlP tx n [0, 0, 101, 97, 116] (p + 1)) else
  if here tx n p 119 119 then (if here tx n (p + 1) 114 114 then rcB tx n 2 nu fi se (rlP tx n [0, 114, 105, 116, 101] (p + 1)) else rcB tx n 4 nu fi se (rlP tx n [0, 0, 105, 110, 100] (p + 1))) else
  (false, p, nu, cm, fi, se)
theorem rs1_le {tx : F} {n p : Nat} {cm nu : Int32} (h : p ≤ n) : (rs1 tx n cm p nu).2.1 ≤ n ∧ p ≤ (rs1 tx n cm p nu).2.1 := by
  unfold rs1
  repeat' split
  all_goals exact rnR_le h
theorem rs2_le {tx : F} {n p : Nat} {cm nu : Int32} (h : p ≤ n) : (rs2 tx n cm p nu).2.1 ≤ n ∧ p ≤ (rs2 tx n cm p nu).2.1 := by
  unfold rs2
  split <;> exact rnR_le h
theorem rsR_le {tx : F} {n p : Nat} {cm nu se : Int32} (h : p ≤ n) : (rsR tx n cm p nu se).2.1 ≤ n ∧ p ≤ (rsR tx n cm p nu se).2.1 := by
  have h1 := rs1_le (tx := tx) (cm := cm) (nu := nu) h
  unfold rsR rsB
  split
  · have h2 := rs2_le (tx := tx) (cm := cm) (nu := (rs1 tx n cm p nu).2.2) h1.1
    exact ⟨h2.1, Nat.le_trans h1.2 h2.2⟩
  · exact h1
theorem rcB_le {tx : F} {n p : Nat} {cm nu fi se : Int32} {l : Bool × Nat} (h : l.2 ≤ n ∧ p ≤ l.2) : (rcB tx n cm nu fi se l).2.1 ≤ n ∧ p ≤ (rcB tx n cm nu fi se l).2.1 := by
  unfold rcB
  split
  · have h1 := rsR_le (tx := tx) (cm := cm) (nu := nu) (se := se) h.1
    exact ⟨h1.1, Nat.le_trans h.2 h1.2⟩
  · exact h
theorem rcX_le {tx : F} {n p : Nat} {nu cm fi se : Int32} (h : p ≤ n) : (rcX tx n p nu cm fi se).2.1 ≤ n ∧ p ≤ (rcX tx n p nu cm fi se).2.1 := by
  have h0 : ∀ (c d : Int32) (cs : List Int32), here tx n p c d → (rlP tx n cs (p + 1)).2 ≤ n ∧ p ≤ (rlP tx n cs (p + 1)).2 := fun c d cs hh => by
    have := rlP_le (tx := tx) (n := n) cs (p + 1) (by have := hh.1; omega)
    exact ⟨this.1, by omega⟩
  unfold rcX
  split
  · rename_i hh; exact rcB_le (h0 _ _ _ hh)
  · split
    · rename_i hh; exact rcB_le (h0 _ _ _ hh)
    · split
      · rename_i hh; exact rcB_le (h0 _ _ _ hh)
      · split
        · rename_i hh
          split
          · exact rcB_le (h0 _ _ _ hh)
          · exact rcB_le (h0 _ _ _ hh)
        · exact ⟨h, Nat.le_refl _⟩
set_option maxHeartbeats 4000000 in
set_option maxRecDepth 100000 in
theorem c_X4_readsNumbers (E : Ev) (m : Nat) (b : Nat → Nat) (μ : MD) (n p : Nat) (hn : n ≤ 80) (hTL : mTL μ = nI n) (hp : p ≤ n) (nu cm fi se : Int32) : MI E yX4_readsNumbers wsX4_readsNumbers (rmD 4) (modT E m b μ (p) nu cm fi se) [.ref m] (pT (rsR (mTx μ) n cm p nu se).1 (modT E m b μ (rsR (mTx μ) n cm p nu se).2.1 (rsR (mTx μ) n cm p nu se).2.2.1 (rsR (mTx μ) n cm p nu se).2.2.2.1 (rsR (mTx μ) n cm p nu se).2.2.2.2.1 (rsR (mTx μ) n cm p nu se).2.2.2.2.2)) := by
  have inX4 : ∀ w ∈ u_ws RX4 TX4 16, w ∈ wsX4_readsNumbers := by decide +kernel
  have f149 : Cond.fieldLink RX4 149 (TX4 13).1 (TX4 13).2.1 (TX4 13).2.2.1 ∈ wsX4_readsNumbers := by decide +kernel
  have f146 : Cond.fieldLink RX4 146 (TX4 12).1 (TX4 12).2.1 (TX4 12).2.2.1 ∈ wsX4_readsNumbers := by decide +kernel
  have f155 : Cond.fieldLink RX4 155 (TX4 14).1 (TX4 14).2.1 (TX4 14).2.2.1 ∈ wsX4_readsNumbers := by decide +kernel
  have f158 : Cond.fieldLink RX4 158 (TX4 15).1 (TX4 15).2.1 (TX4 15).2.2.1 ∈ wsX4_readsNumbers := by decide +kernel
  refine MI.of (cc := cX4_readsNumbers) (nL := 2) (ty := .boolean) (own := RX4) [some (.ref m), none] (by decide +kernel) rfl rfl (Nat.le_of_ble_eq_true rfl) rfl rfl ?_
  intro x C R0
  refine g_aload_n C dX4_readsNumbers_0 rfl rfl ?_
  refine g_get C inX4 0 rfl rfl 13 (by decide) f149 rfl dX4_readsNumbers_1 ?_
  refine g_if_ne C (tgt := 16) dX4_readsNumbers_4 (by decide) (fun hc_4 => ?_) (fun hc_4 => ?_)
  · refine g_aload_n C dX4_readsNumbers_16 rfl rfl ?_
    refine g_get C inX4 0 rfl rfl 13 (by decide) f149 rfl dX4_readsNumbers_17 ?_
    refine g_iconst C (v := 3) dX4_readsNumbers_20 rfl ?_
    refine g_icmp_ne C (tgt := 34) dX4_readsNumbers_21 (by decide) (fun hc_21 => ?_) (fun hc_21 => ?_)
    · refine g_aload_n C dX4_readsNumbers_34 rfl rfl ?_
      refine g_iconst C (v := 0) dX4_readsNumbers_35 rfl ?_
      refine g_aload_n C dX4_readsNumbers_36 rfl rfl ?_
      refine g_get C inX4 0 rfl rfl 13 (by decide) f149 rfl dX4_readsNumbers_37 ?_
      refine g_iconst C (v := 4) dX4_readsNumbers_40 rfl ?_
      refine g_icmp_ne C (tgt := 49) dX4_readsNumbers_41 (by decide) (fun hc_41 => ?_) (fun hc_41 => ?_)
      · refine g_bipush C (v := 11) dX4_readsNumbers_49 rfl ?_
        have hle_51 := rnR_le (tx := (mTx μ)) (n := n) (least := 0) (most := 11) (nu := nu) (p := p) (by omega)
        refine g_calliVF C 0 rfl rfl (c_X4_readsNumber E m b μ n (p) hn hTL (by omega) nu cm fi se _ _) cf_X4_readsNumber gX4_readsNumbers_X4_readsNumber rfl (fitD (Nat.le_of_ble_eq_true rfl) (Nat.le_of_ble_eq_true rfl)) rfl rfl (Nat.le_of_ble_eq_true rfl) dX4_readsNumbers_51 (fun r1 w1 hp9 => ?_)
        obtain ⟨⟨hb_51, rfl⟩ | ⟨hb_51, rfl⟩, rfl⟩ := hp9
        · refine g_istore_n C dX4_readsNumbers_54 rfl (Nat.le_of_ble_eq_true rfl) rfl ?_
          refine g_aload_n C dX4_readsNumbers_55 rfl rfl ?_
          refine g_aload_n C dX4_readsNumbers_56 rfl rfl ?_
          refine g_get C inX4 0 rfl rfl 12 (by decide) f146 rfl dX4_readsNumbers_57 ?_
          refine g_put C (ws' := (modT E m b μ ((rnR (mTx μ) n 0 11 (p) nu).2.1) ((rnR (mTx μ) n 0 11 (p) nu).2.2) cm ((rnR (mTx μ) n 0 11 (p) nu).2.2) se)) inX4 (ty := .int) tyX4 tyX4_ok nmX4 0 rfl rfl 14 (by decide) f155 rfl (by decide +kernel) rfl rfl (Nat.le_of_ble_eq_true rfl) dX4_readsNumbers_60 rfl ?_
          refine g_iload_n C dX4_readsNumbers_63 rfl rfl ?_
          refine g_if_eq_f C dX4_readsNumbers_64 83 (by decide) (by decide) ?_
          refine g_aload_n C dX4_readsNumbers_67 rfl rfl ?_
          refine g_get C inX4 0 rfl rfl 13 (by decide) f149 rfl dX4_readsNumbers_68 ?_
          refine g_iconst C (v := 1) dX4_readsNumbers_71 rfl ?_
          refine g_icmp_eq C (tgt := 83) dX4_readsNumbers_72 (by decide) (fun hc_72 => ?_) (fun hc_72 => ?_)
          · refine g_iload_n C dX4_readsNumbers_83 rfl rfl ?_
            refine g_zret C R0 rfl dX4_readsNumbers_84 ?_
            have ha : rs1 (mTx μ) n cm p nu = (rnR (mTx μ) n 0 11 (p) nu) := by rw [rs1, if_neg hc_4, if_neg hc_21, if_neg hc_41]
            have hx : (rsR (mTx μ) n cm p nu se) = (true, (rnR (mTx μ) n 0 11 (p) nu).2.1, (rnR (mTx μ) n 0 11 (p) nu).2.2, cm, (rnR (mTx μ) n 0 11 (p) nu).2.2, se) := by rw [rsR, ha, rsB, if_neg (fun z => z.2.1 hc_72), hb_51]
            exact pT_mk (c := true) (by rw [hx]) (Or.inl ⟨rfl, rfl⟩) (by rw [hx])
          · refine g_aload_n C dX4_readsNumbers_75 rfl rfl ?_
            refine g_get C inX4 0 rfl rfl 13 (by decide) f149 rfl dX4_readsNumbers_76 ?_
            refine g_iconst C (v := 3) dX4_readsNumbers_79 rfl ?_
            refine g_icmp_ne C (tgt := 85) dX4_readsNumbers_80 (by decide) (fun hc_80 => ?_) (fun hc_80 => ?_)
            · refine g_aload_n C dX4_readsNumbers_85 rfl rfl ?_
              refine g_get C inX4 0 rfl rfl 13 (by decide) f149 rfl dX4_readsNumbers_86 ?_
              refine g_iconst C (v := 4) dX4_readsNumbers_89 rfl ?_
              refine g_icmp_ne C (tgt := 103) dX4_readsNumbers_90 (by decide) (fun hc_90 => ?_) (fun hc_90 => ?_)
              · refine g_aload_n C dX4_readsNumbers_103 rfl rfl ?_
                refine g_sipush C (v := (-999)) dX4_readsNumbers_104 rfl ?_
                refine g_sipush C (v := 999) dX4_readsNumbers_107 rfl ?_
                have hle_110 := rnR_le (tx := (mTx μ)) (n := n) (least := (-999)) (most := 999) (nu := (rnR (mTx μ) n 0 11 (p) nu).2.2) (p := (rnR (mTx μ) n 0 11 (p) nu).2.1) (by omega)
                refine g_calliVF C 0 rfl rfl (c_X4_readsNumber E m b μ n ((rnR (mTx μ) n 0 11 (p) nu).2.1) hn hTL (by omega) ((rnR (mTx μ) n 0 11 (p) nu).2.2) cm ((rnR (mTx μ) n 0 11 (p) nu).2.2) se _ _) cf_X4_readsNumber gX4_readsNumbers_X4_readsNumber rfl (fitD (Nat.le_of_ble_eq_true rfl) (Nat.le_of_ble_eq_true rfl)) rfl rfl (Nat.le_of_ble_eq_true rfl) dX4_readsNumbers_110 (fun r1 w1 hp9 => ?_)
                obtain ⟨⟨hb_110, rfl⟩ | ⟨hb_110, rfl⟩, rfl⟩ := hp9
                · refine g_istore_n C dX4_readsNumbers_113 rfl (Nat.le_of_ble_eq_true rfl) rfl ?_
                  refine g_aload_n C dX4_readsNumbers_114 rfl rfl ?_
                  refine g_aload_n C dX4_readsNumbers_115 rfl rfl ?_
                  refine g_get C inX4 0 rfl rfl 12 (by decide) f146 rfl dX4_readsNumbers_116 ?_
                  refine g_put C (ws' := (modT E m b μ ((rnR (mTx μ) n (-999) 999 ((rnR (mTx μ) n 0 11 (p) nu).2.1) ((rnR (mTx μ) n 0 11 (p) nu).2.2)).2.1) ((rnR (mTx μ) n (-999) 999 ((rnR (mTx μ) n 0 11 (p) nu).2.1) ((rnR (mTx μ) n 0 11 (p) nu).2.2)).2.2) cm ((rnR (mTx μ) n 0 11 (p) nu).2.2) ((rnR (mTx μ) n (-999) 999 ((rnR (mTx μ) n 0 11 (p) nu).2.1) ((rnR (mTx μ) n 0 11 (p) nu).2.2)).2.2))) inX4 (ty := .int) tyX4 tyX4_ok nmX4 0 rfl rfl 15 (by decide) f158 rfl (by decide +kernel) rfl rfl (Nat.le_of_ble_eq_true rfl) dX4_readsNumbers_119 rfl ?_
                  refine g_iload_n C dX4_readsNumbers_122 rfl rfl ?_
                  refine g_zret C R0 rfl dX4_readsNumbers_123 ?_
                  have ha : rs1 (mTx μ) n cm p nu = (rnR (mTx μ) n 0 11 (p) nu) := by rw [rs1, if_neg hc_4, if_neg hc_21, if_neg hc_41]
                  have hb2 : rs2 (mTx μ) n cm (rnR (mTx μ) n 0 11 (p) nu).2.1 (rnR (mTx μ) n 0 11 (p) nu).2.2 = (rnR (mTx μ) n (-999) 999 ((rnR (mTx μ) n 0 11 (p) nu).2.1) ((rnR (mTx μ) n 0 11 (p) nu).2.2)) := by rw [rs2, if_neg hc_90]
                  have hx : (rsR (mTx μ) n cm p nu se) = (true, (rnR (mTx μ) n (-999) 999 ((rnR (mTx μ) n 0 11 (p) nu).2.1) ((rnR (mTx μ) n 0 11 (p) nu).2.2)).2.1, (rnR (mTx μ) n (-999) 999 ((rnR (mTx μ) n 0 11 (p) nu).2.1) ((rnR (mTx μ) n 0 11 (p) nu).2.2)).2.2, cm, (rnR (mTx μ) n 0 11 (p) nu).2.2, (rnR (mTx μ) n (-999) 999 ((rnR (mTx μ) n 0 11 (p) nu).2.1) ((rnR (mTx μ) n 0 11 (p) nu).2.2)).2.2) := by rw [rsR, ha, rsB, if_pos ⟨hb_51, hc_72, hc_80⟩, hb2, hb_110]
                  exact pT_mk (c := true) (by rw [hx]) (Or.inl ⟨rfl, rfl⟩) (by rw [hx])
                · refine g_istore_n C dX4_readsNumbers_113 rfl (Nat.le_of_ble_eq_true rfl) rfl ?_
                  refine g_aload_n C dX4_readsNumbers_114 rfl rfl ?_
                  refine g_aload_n C dX4_readsNumbers_115 rfl rfl ?_
                  refine g_get C inX4 0 rfl rfl 12 (by decide) f146 rfl dX4_readsNumbers_116 ?_
                  refine g_put C (ws' := (modT E m b μ ((rnR (mTx μ) n (-999) 999 ((rnR (mTx μ) n 0 11 (p) nu).2.1) ((rnR (mTx μ) n 0 11 (p) nu).2.2)).2.1) ((rnR (mTx μ) n (-999) 999 ((rnR (mTx μ) n 0 11 (p) nu).2.1) ((rnR (mTx μ) n 0 11 (p) nu).2.2)).2.2) cm ((rnR (mTx μ) n 0 11 (p) nu).2.2) ((rnR (mTx μ) n (-999) 999 ((rnR (mTx μ) n 0 11 (p) nu).2.1) ((rnR (mTx μ) n 0 11 (p) nu).2.2)).2.2))) inX4 (ty := .int) tyX4 tyX4_ok nmX4 0 rfl rfl 15 (by decide) f158 rfl (by decide +kernel) rfl rfl (Nat.le_of_ble_eq_true rfl) dX4_readsNumbers_119 rfl ?_
                  refine g_iload_n C dX4_readsNumbers_122 rfl rfl ?_
                  refine g_zret C R0 rfl dX4_readsNumbers_123 ?_
                  have ha : rs1 (mTx μ) n cm p nu = (rnR (mTx μ) n 0 11 (p) nu) := by rw [rs1, if_neg hc_4, if_neg hc_21, if_neg hc_41]
                  have hb2 : rs2 (mTx μ) n cm (rnR (mTx μ) n 0 11 (p) nu).2.1 (rnR (mTx μ) n 0 11 (p) nu).2.2 = (rnR (mTx μ) n (-999) 999 ((rnR (mTx μ) n 0 11 (p) nu).2.1) ((rnR (mTx μ) n 0 11 (p) nu).2.2)) := by rw [rs2, if_neg hc_90]
                  have hx : (rsR (mTx μ) n cm p nu se) = (false, (rnR (mTx μ) n (-999) 999 ((rnR (mTx μ) n 0 11 (p) nu).2.1) ((rnR (mTx μ) n 0 11 (p) nu).2.2)).2.1, (rnR (mTx μ) n (-999) 999 ((rnR (mTx μ) n 0 11 (p) nu).2.1) ((rnR (mTx μ) n 0 11 (p) nu).2.2)).2.2, cm, (rnR (mTx μ) n 0 11 (p) nu).2.2, (rnR (mTx μ) n (-999) 999 ((rnR (mTx μ) n 0 11 (p) nu).2.1) ((rnR (mTx μ) n 0 11 (p) nu).2.2)).2.2) := by rw [rsR, ha, rsB, if_pos ⟨hb_51, hc_72, hc_80⟩, hb2, hb_110]
                  exact pT_mk (c := false) (by rw [hx]) (Or.inr ⟨rfl, rfl⟩) (by rw [hx])
              · refine g_aload_n C dX4_readsNumbers_93 rfl rfl ?_
                refine g_iconst C (v := 0) dX4_readsNumbers_94 rfl ?_
                refine g_bipush C (v := 9) dX4_readsNumbers_95 rfl ?_
                have hle_97 := rnR_le (tx := (mTx μ)) (n := n) (least := 0) (most := 9) (nu := (rnR (mTx μ) n 0 11 (p) nu).2.2) (p := (rnR (mTx μ) n 0 11 (p) nu).2.1) (by omega)
                refine g_calliVF C 0 rfl rfl (c_X4_readsNumber E m b μ n ((rnR (mTx μ) n 0 11 (p) nu).2.1) hn hTL (by omega) ((rnR (mTx μ) n 0 11 (p) nu).2.2) cm ((rnR (mTx μ) n 0 11 (p) nu).2.2) se _ _) cf_X4_readsNumber gX4_readsNumbers_X4_readsNumber rfl (fitD (Nat.le_of_ble_eq_true rfl) (Nat.le_of_ble_eq_true rfl)) rfl rfl (Nat.le_of_ble_eq_true rfl) dX4_readsNumbers_97 (fun r1 w1 hp9 => ?_)
                obtain ⟨⟨hb_97, rfl⟩ | ⟨hb_97, rfl⟩, rfl⟩ := hp9
                · refine g_goto C (tgt := 113) dX4_readsNumbers_100 (by decide) ?_
                  refine g_istore_n C dX4_readsNumbers_113 rfl (Nat.le_of_ble_eq_true rfl) rfl ?_
                  refine g_aload_n C dX4_readsNumbers_114 rfl rfl ?_
                  refine g_aload_n C dX4_readsNumbers_115 rfl rfl ?_
                  refine g_get C inX4 0 rfl rfl 12 (by decide) f146 rfl dX4_readsNumbers_116 ?_
                  refine g_put C (ws' := (modT E m b μ ((rnR (mTx μ) n 0 9 ((rnR (mTx μ) n 0 11 (p) nu).2.1) ((rnR (mTx μ) n 0 11 (p) nu).2.2)).2.1) ((rnR (mTx μ) n 0 9 ((rnR (mTx μ) n 0 11 (p) nu).2.1) ((rnR (mTx μ) n 0 11 (p) nu).2.2)).2.2) cm ((rnR (mTx μ) n 0 11 (p) nu).2.2) ((rnR (mTx μ) n 0 9 ((rnR (mTx μ) n 0 11 (p) nu).2.1) ((rnR (mTx μ) n 0 11 (p) nu).2.2)).2.2))) inX4 (ty := .int) tyX4 tyX4_ok nmX4 0 rfl rfl 15 (by decide) f158 rfl (by decide +kernel) rfl rfl (Nat.le_of_ble_eq_true rfl) dX4_readsNumbers_119 rfl ?_
                  refine g_iload_n C dX4_readsNumbers_122 rfl rfl ?_
                  refine g_zret C R0 rfl dX4_readsNumbers_123 ?_
                  have ha : rs1 (mTx μ) n cm p nu = (rnR (mTx μ) n 0 11 (p) nu) := by rw [rs1, if_neg hc_4, if_neg hc_21, if_neg hc_41]
                  have hb2 : rs2 (mTx μ) n cm (rnR (mTx μ) n 0 11 (p) nu).2.1 (rnR (mTx μ) n 0 11 (p) nu).2.2 = (rnR (mTx μ) n 0 9 ((rnR (mTx μ) n 0 11 (p) nu).2.1) ((rnR (mTx μ) n 0 11 (p) nu).2.2)) := by rw [rs2, if_pos hc_90]
                  have hx : (rsR (mTx μ) n cm p nu se) = (true, (rnR (mTx μ) n 0 9 ((rnR (mTx μ) n 0 11 (p) nu).2.1) ((rnR (mTx μ) n 0 11 (p) nu).2.2)).2.1, (rnR (mTx μ) n 0 9 ((rnR (mTx μ) n 0 11 (p) nu).2.1) ((rnR (mTx μ) n 0 11 (p) nu).2.2)).2.2, cm, (rnR (mTx μ) n 0 11 (p) nu).2.2, (rnR (mTx μ) n 0 9 ((rnR (mTx μ) n 0 11 (p) nu).2.1) ((rnR (mTx μ) n 0 11 (p) nu).2.2)).2.2) := by rw [rsR, ha, rsB, if_pos ⟨hb_51, hc_72, hc_80⟩, hb2, hb_97]
                  exact pT_mk (c := true) (by rw [hx]) (Or.inl ⟨rfl, rfl⟩) (by rw [hx])
                · refine g_goto C (tgt := 113) dX4_readsNumbers_100 (by decide) ?_
                  refine g_istore_n C dX4_readsNumbers_113 rfl (Nat.le_of_ble_eq_true rfl) rfl ?_
                  refine g_aload_n C dX4_readsNumbers_114 rfl rfl ?_
                  refine g_aload_n C dX4_readsNumbers_115 rfl rfl ?_
                  refine g_get C inX4 0 rfl rfl 12 (by decide) f146 rfl dX4_readsNumbers_116 ?_
                  refine g_put C (ws' := (modT E m b μ ((rnR (mTx μ) n 0 9 ((rnR (mTx μ) n 0 11 (p) nu).2.1) ((rnR (mTx μ) n 0 11 (p) nu).2.2)).2.1) ((rnR (mTx μ) n 0 9 ((rnR (mTx μ) n 0 11 (p) nu).2.1) ((rnR (mTx μ) n 0 11 (p) nu).2.2)).2.2) cm ((rnR (mTx μ) n 0 11 (p) nu).2.2) ((rnR (mTx μ) n 0 9 ((rnR (mTx μ) n 0 11 (p) nu).2.1) ((rnR (mTx μ) n 0 11 (p) nu).2.2)).2.2))) inX4 (ty := .int) tyX4 tyX4_ok nmX4 0 rfl rfl 15 (by decide) f158 rfl (by decide +kernel) rfl rfl (Nat.le_of_ble_eq_true rfl) dX4_readsNumbers_119 rfl ?_
                  refine g_iload_n C dX4_readsNumbers_122 rfl rfl ?_
                  refine g_zret C R0 rfl dX4_readsNumbers_123 ?_
                  have ha : rs1 (mTx μ) n cm p nu = (rnR (mTx μ) n 0 11 (p) nu) := by rw [rs1, if_neg hc_4, if_neg hc_21, if_neg hc_41]
                  have hb2 : rs2 (mTx μ) n cm (rnR (mTx μ) n 0 11 (p) nu).2.1 (rnR (mTx μ) n 0 11 (p) nu).2.2 = (rnR (mTx μ) n 0 9 ((rnR (mTx μ) n 0 11 (p) nu).2.1) ((rnR (mTx μ) n 0 11 (p) nu).2.2)) := by rw [rs2, if_pos hc_90]
                  have hx : (rsR (mTx μ) n cm p nu se) = (false, (rnR (mTx μ) n 0 9 ((rnR (mTx μ) n 0 11 (p) nu).2.1) ((rnR (mTx μ) n 0 11 (p) nu).2.2)).2.1, (rnR (mTx μ) n 0 9 ((rnR (mTx μ) n 0 11 (p) nu).2.1) ((rnR (mTx μ) n 0 11 (p) nu).2.2)).2.2, cm, (rnR (mTx μ) n 0 11 (p) nu).2.2, (rnR (mTx μ) n 0 9 ((rnR (mTx μ) n 0 11 (p) nu).2.1) ((rnR (mTx μ) n 0 11 (p) nu).2.2)).2.2) := by rw [rsR, ha, rsB, if_pos ⟨hb_51, hc_72, hc_80⟩, hb2, hb_97]
                  exact pT_mk (c := false) (by rw [hx]) (Or.inr ⟨rfl, rfl⟩) (by rw [hx])
            · refine g_iload_n C dX4_readsNumbers_83 rfl rfl ?_
              refine g_zret C R0 rfl dX4_readsNumbers_84 ?_
              have ha : rs1 (mTx μ) n cm p nu = (rnR (mTx μ) n 0 11 (p) nu) := by rw [rs1, if_neg hc_4, if_neg hc_21, if_neg hc_41]
              have hx : (rsR (mTx μ) n cm p nu se) = (true, (rnR (mTx μ) n 0 11 (p) nu).2.1, (rnR (mTx μ) n 0 11 (p) nu).2.2, cm, (rnR (mTx μ) n 0 11 (p) nu).2.2, se) := by rw [rsR, ha, rsB, if_neg (fun z => z.2.2 hc_80), hb_51]
              exact pT_mk (c := true) (by rw [hx]) (Or.inl ⟨rfl, rfl⟩) (by rw [hx])
        · refine g_istore_n C dX4_readsNumbers_54 rfl (Nat.le_of_ble_eq_true rfl) rfl ?_
          refine g_aload_n C dX4_readsNumbers_55 rfl rfl ?_
          refine g_aload_n C dX4_readsNumbers_56 rfl rfl ?_
          refine g_get C inX4 0 rfl rfl 12 (by decide) f146 rfl dX4_readsNumbers_57 ?_
          refine g_put C (ws' := (modT E m b μ ((rnR (mTx μ) n 0 11 (p) nu).2.1) ((rnR (mTx μ) n 0 11 (p) nu).2.2) cm ((rnR (mTx μ) n 0 11 (p) nu).2.2) se)) inX4 (ty := .int) tyX4 tyX4_ok nmX4 0 rfl rfl 14 (by decide) f155 rfl (by decide +kernel) rfl rfl (Nat.le_of_ble_eq_true rfl) dX4_readsNumbers_60 rfl ?_
          refine g_iload_n C dX4_readsNumbers_63 rfl rfl ?_
          refine g_if_eq_t C dX4_readsNumbers_64 (tgt := 83) (by decide) (by decide) ?_
          refine g_iload_n C dX4_readsNumbers_83 rfl rfl ?_
          refine g_zret C R0 rfl dX4_readsNumbers_84 ?_
          have ha : rs1 (mTx μ) n cm p nu = (rnR (mTx μ) n 0 11 (p) nu) := by rw [rs1, if_neg hc_4, if_neg hc_21, if_neg hc_41]
          have hx : (rsR (mTx μ) n cm p nu se) = (false, (rnR (mTx μ) n 0 11 (p) nu).2.1, (rnR (mTx μ) n 0 11 (p) nu).2.2, cm, (rnR (mTx μ) n 0 11 (p) nu).2.2, se) := by rw [rsR, ha, rsB, if_neg (fun z => absurd z.1 (by rw [hb_51]; decide)), hb_51]
          exact pT_mk (c := false) (by rw [hx]) (Or.inr ⟨rfl, rfl⟩) (by rw [hx])
      · refine g_bipush C (v := 7) dX4_readsNumbers_44 rfl ?_
        refine g_goto C (tgt := 51) dX4_readsNumbers_46 (by decide) ?_
        have hle_51 := rnR_le (tx := (mTx μ)) (n := n) (least := 0) (most := 7) (nu := nu) (p := p) (by omega)
        refine g_calliVF C 0 rfl rfl (c_X4_readsNumber E m b μ n (p) hn hTL (by omega) nu cm fi se _ _) cf_X4_readsNumber gX4_readsNumbers_X4_readsNumber rfl (fitD (Nat.le_of_ble_eq_true rfl) (Nat.le_of_ble_eq_true rfl)) rfl rfl (Nat.le_of_ble_eq_true rfl) dX4_readsNumbers_51 (fun r1 w1 hp9 => ?_)
        obtain ⟨⟨hb_51, rfl⟩ | ⟨hb_51, rfl⟩, rfl⟩ := hp9
        · refine g_istore_n C dX4_readsNumbers_54 rfl (Nat.le_of_ble_eq_true rfl) rfl ?_
          refine g_aload_n C dX4_readsNumbers_55 rfl rfl ?_
          refine g_aload_n C dX4_readsNumbers_56 rfl rfl ?_
          refine g_get C inX4 0 rfl rfl 12 (by decide) f146 rfl dX4_readsNumbers_57 ?_
          refine g_put C (ws' := (modT E m b μ ((rnR (mTx μ) n 0 7 (p) nu).2.1) ((rnR (mTx μ) n 0 7 (p) nu).2.2) cm ((rnR (mTx μ) n 0 7 (p) nu).2.2) se)) inX4 (ty := .int) tyX4 tyX4_ok nmX4 0 rfl rfl 14 (by decide) f155 rfl (by decide +kernel) rfl rfl (Nat.le_of_ble_eq_true rfl) dX4_readsNumbers_60 rfl ?_
          refine g_iload_n C dX4_readsNumbers_63 rfl rfl ?_
          refine g_if_eq_f C dX4_readsNumbers_64 83 (by decide) (by decide) ?_
          refine g_aload_n C dX4_readsNumbers_67 rfl rfl ?_
          refine g_get C inX4 0 rfl rfl 13 (by decide) f149 rfl dX4_readsNumbers_68 ?_
          refine g_iconst C (v := 1) dX4_readsNumbers_71 rfl ?_
          refine g_icmp_eq C (tgt := 83) dX4_readsNumbers_72 (by decide) (fun hc_72 => ?_) (fun hc_72 => ?_)
          · refine g_iload_n C dX4_readsNumbers_83 rfl rfl ?_
            refine g_zret C R0 rfl dX4_readsNumbers_84 ?_
            have ha : rs1 (mTx μ) n cm p nu = (rnR (mTx μ) n 0 7 (p) nu) := by rw [rs1, if_neg hc_4, if_neg hc_21, if_pos hc_41]
            have hx : (rsR (mTx μ) n cm p nu se) = (true, (rnR (mTx μ) n 0 7 (p) nu).2.1, (rnR (mTx μ) n 0 7 (p) nu).2.2, cm, (rnR (mTx μ) n 0 7 (p) nu).2.2, se) := by rw [rsR, ha, rsB, if_neg (fun z => z.2.1 hc_72), hb_51]
            exact pT_mk (c := true) (by rw [hx]) (Or.inl ⟨rfl, rfl⟩) (by rw [hx])
          · refine g_aload_n C dX4_readsNumbers_75 rfl rfl ?_
            refine g_get C inX4 0 rfl rfl 13 (by decide) f149 rfl dX4_readsNumbers_76 ?_
            refine g_iconst C (v := 3) dX4_readsNumbers_79 rfl ?_
            refine g_icmp_ne C (tgt := 85) dX4_readsNumbers_80 (by decide) (fun hc_80 => ?_) (fun hc_80 => ?_)
            · refine g_aload_n C dX4_readsNumbers_85 rfl rfl ?_
              refine g_get C inX4 0 rfl rfl 13 (by decide) f149 rfl dX4_readsNumbers_86 ?_
              refine g_iconst C (v := 4) dX4_readsNumbers_89 rfl ?_
              refine g_icmp_ne C (tgt := 103) dX4_readsNumbers_90 (by decide) (fun hc_90 => ?_) (fun hc_90 => ?_)
              · refine g_aload_n C dX4_readsNumbers_103 rfl rfl ?_
                refine g_sipush C (v := (-999)) dX4_readsNumbers_104 rfl ?_
                refine g_sipush C (v := 999) dX4_readsNumbers_107 rfl ?_
                have hle_110 := rnR_le (tx := (mTx μ)) (n := n) (least := (-999)) (most := 999) (nu := (rnR (mTx μ) n 0 7 (p) nu).2.2) (p := (rnR (mTx μ) n 0 7 (p) nu).2.1) (by omega)
                refine g_calliVF C 0 rfl rfl (c_X4_readsNumber E m b μ n ((rnR (mTx μ) n 0 7 (p) nu).2.1) hn hTL (by omega) ((rnR (mTx μ) n 0 7 (p) nu).2.2) cm ((rnR (mTx μ) n 0 7 (p) nu).2.2) se _ _) cf_X4_readsNumber gX4_readsNumbers_X4_readsNumber rfl (fitD (Nat.le_of_ble_eq_true rfl) (Nat.le_of_ble_eq_true rfl)) rfl rfl (Nat.le_of_ble_eq_true rfl) dX4_readsNumbers_110 (fun r1 w1 hp9 => ?_)
                obtain ⟨⟨hb_110, rfl⟩ | ⟨hb_110, rfl⟩, rfl⟩ := hp9
                · refine g_istore_n C dX4_readsNumbers_113 rfl (Nat.le_of_ble_eq_true rfl) rfl ?_
                  refine g_aload_n C dX4_readsNumbers_114 rfl rfl ?_
                  refine g_aload_n C dX4_readsNumbers_115 rfl rfl ?_
                  refine g_get C inX4 0 rfl rfl 12 (by decide) f146 rfl dX4_readsNumbers_116 ?_
                  refine g_put C (ws' := (modT E m b μ ((rnR (mTx μ) n (-999) 999 ((rnR (mTx μ) n 0 7 (p) nu).2.1) ((rnR (mTx μ) n 0 7 (p) nu).2.2)).2.1) ((rnR (mTx μ) n (-999) 999 ((rnR (mTx μ) n 0 7 (p) nu).2.1) ((rnR (mTx μ) n 0 7 (p) nu).2.2)).2.2) cm ((rnR (mTx μ) n 0 7 (p) nu).2.2) ((rnR (mTx μ) n (-999) 999 ((rnR (mTx μ) n 0 7 (p) nu).2.1) ((rnR (mTx μ) n 0 7 (p) nu).2.2)).2.2))) inX4 (ty := .int) tyX4 tyX4_ok nmX4 0 rfl rfl 15 (by decide) f158 rfl (by decide +kernel) rfl rfl (Nat.le_of_ble_eq_true rfl) dX4_readsNumbers_119 rfl ?_
                  refine g_iload_n C dX4_readsNumbers_122 rfl rfl ?_
                  refine g_zret C R0 rfl dX4_readsNumbers_123 ?_
                  have ha : rs1 (mTx μ) n cm p nu = (rnR (mTx μ) n 0 7 (p) nu) := by rw [rs1, if_neg hc_4, if_neg hc_21, if_pos hc_41]
                  have hb2 : rs2 (mTx μ) n cm (rnR (mTx μ) n 0 7 (p) nu).2.1 (rnR (mTx μ) n 0 7 (p) nu).2.2 = (rnR (mTx μ) n (-999) 999 ((rnR (mTx μ) n 0 7 (p) nu).2.1) ((rnR (mTx μ) n 0 7 (p) nu).2.2)) := by rw [rs2, if_neg hc_90]
                  have hx : (rsR (mTx μ) n cm p nu se) = (true, (rnR (mTx μ) n (-999) 999 ((rnR (mTx μ) n 0 7 (p) nu).2.1) ((rnR (mTx μ) n 0 7 (p) nu).2.2)).2.1, (rnR (mTx μ) n (-999) 999 ((rnR (mTx μ) n 0 7 (p) nu).2.1) ((rnR (mTx μ) n 0 7 (p) nu).2.2)).2.2, cm, (rnR (mTx μ) n 0 7 (p) nu).2.2, (rnR (mTx μ) n (-999) 999 ((rnR (mTx μ) n 0 7 (p) nu).2.1) ((rnR (mTx μ) n 0 7 (p) nu).2.2)).2.2) := by rw [rsR, ha, rsB, if_pos ⟨hb_51, hc_72, hc_80⟩, hb2, hb_110]
                  exact pT_mk (c := true) (by rw [hx]) (Or.inl ⟨rfl, rfl⟩) (by rw [hx])
                · refine g_istore_n C dX4_readsNumbers_113 rfl (Nat.le_of_ble_eq_true rfl) rfl ?_
                  refine g_aload_n C dX4_readsNumbers_114 rfl rfl ?_
                  refine g_aload_n C dX4_readsNumbers_115 rfl rfl ?_
                  refine g_get C inX4 0 rfl rfl 12 (by decide) f146 rfl dX4_readsNumbers_116 ?_
                  refine g_put C (ws' := (modT E m b μ ((rnR (mTx μ) n (-999) 999 ((rnR (mTx μ) n 0 7 (p) nu).2.1) ((rnR (mTx μ) n 0 7 (p) nu).2.2)).2.1) ((rnR (mTx μ) n (-999) 999 ((rnR (mTx μ) n 0 7 (p) nu).2.1) ((rnR (mTx μ) n 0 7 (p) nu).2.2)).2.2) cm ((rnR (mTx μ) n 0 7 (p) nu).2.2) ((rnR (mTx μ) n (-999) 999 ((rnR (mTx μ) n 0 7 (p) nu).2.1) ((rnR (mTx μ) n 0 7 (p) nu).2.2)).2.2))) inX4 (ty := .int) tyX4 tyX4_ok nmX4 0 rfl rfl 15 (by decide) f158 rfl (by decide +kernel) rfl rfl (Nat.le_of_ble_eq_true rfl) dX4_readsNumbers_119 rfl ?_
                  refine g_iload_n C dX4_readsNumbers_122 rfl rfl ?_
                  refine g_zret C R0 rfl dX4_readsNumbers_123 ?_
                  have ha : rs1 (mTx μ) n cm p nu = (rnR (mTx μ) n 0 7 (p) nu) := by rw [rs1, if_neg hc_4, if_neg hc_21, if_pos hc_41]
                  have hb2 : rs2 (mTx μ) n cm (rnR (mTx μ) n 0 7 (p) nu).2.1 (rnR (mTx μ) n 0 7 (p) nu).2.2 = (rnR (mTx μ) n (-999) 999 ((rnR (mTx μ) n 0 7 (p) nu).2.1) ((rnR (mTx μ) n 0 7 (p) nu).2.2)) := by rw [rs2, if_neg hc_90]
                  have hx : (rsR (mTx μ) n cm p nu se) = (false, (rnR (mTx μ) n (-999) 999 ((rnR (mTx μ) n 0 7 (p) nu).2.1) ((rnR (mTx μ) n 0 7 (p) nu).2.2)).2.1, (rnR (mTx μ) n (-999) 999 ((rnR (mTx μ) n 0 7 (p) nu).2.1) ((rnR (mTx μ) n 0 7 (p) nu).2.2)).2.2, cm, (rnR (mTx μ) n 0 7 (p) nu).2.2, (rnR (mTx μ) n (-999) 999 ((rnR (mTx μ) n 0 7 (p) nu).2.1) ((rnR (mTx μ) n 0 7 (p) nu).2.2)).2.2) := by rw [rsR, ha, rsB, if_pos ⟨hb_51, hc_72, hc_80⟩, hb2, hb_110]
                  exact pT_mk (c := false) (by rw [hx]) (Or.inr ⟨rfl, rfl⟩) (by rw [hx])
              · refine g_aload_n C dX4_readsNumbers_93 rfl rfl ?_
                refine g_iconst C (v := 0) dX4_readsNumbers_94 rfl ?_
                refine g_bipush C (v := 9) dX4_readsNumbers_95 rfl ?_
                have hle_97 := rnR_le (tx := (mTx μ)) (n := n) (least := 0) (most := 9) (nu := (rnR (mTx μ) n 0 7 (p) nu).2.2) (p := (rnR (mTx μ) n 0 7 (p) nu).2.1) (by omega)
                refine g_calliVF C 0 rfl rfl (c_X4_readsNumber E m b μ n ((rnR (mTx μ) n 0 7 (p) nu).2.1) hn hTL (by omega) ((rnR (mTx μ) n 0 7 (p) nu).2.2) cm ((rnR (mTx μ) n 0 7 (p) nu).2.2) se _ _) cf_X4_readsNumber gX4_readsNumbers_X4_readsNumber rfl (fitD (Nat.le_of_ble_eq_true rfl) (Nat.le_of_ble_eq_true rfl)) rfl rfl (Nat.le_of_ble_eq_true rfl) dX4_readsNumbers_97 (fun r1 w1 hp9 => ?_)
                obtain ⟨⟨hb_97, rfl⟩ | ⟨hb_97, rfl⟩, rfl⟩ := hp9
                · refine g_goto C (tgt := 113) dX4_readsNumbers_100 (by decide) ?_
                  refine g_istore_n C dX4_readsNumbers_113 rfl (Nat.le_of_ble_eq_true rfl) rfl ?_
                  refine g_aload_n C dX4_readsNumbers_114 rfl rfl ?_
                  refine g_aload_n C dX4_readsNumbers_115 rfl rfl ?_
                  refine g_get C inX4 0 rfl rfl 12 (by decide) f146 rfl dX4_readsNumbers_116 ?_
                  refine g_put C (ws' := (modT E m b μ ((rnR (mTx μ) n 0 9 ((rnR (mTx μ) n 0 7 (p) nu).2.1) ((rnR (mTx μ) n 0 7 (p) nu).2.2)).2.1) ((rnR (mTx μ) n 0 9 ((rnR (mTx μ) n 0 7 (p) nu).2.1) ((rnR (mTx μ) n 0 7 (p) nu).2.2)).2.2) cm ((rnR (mTx μ) n 0 7 (p) nu).2.2) ((rnR (mTx μ) n 0 9 ((rnR (mTx μ) n 0 7 (p) nu).2.1) ((rnR (mTx μ) n 0 7 (p) nu).2.2)).2.2))) inX4 (ty := .int) tyX4 tyX4_ok nmX4 0 rfl rfl 15 (by decide) f158 rfl (by decide +kernel) rfl rfl (Nat.le_of_ble_eq_true rfl) dX4_readsNumbers_119 rfl ?_
                  refine g_iload_n C dX4_readsNumbers_122 rfl rfl ?_
                  refine g_zret C R0 rfl dX4_readsNumbers_123 ?_
                  have ha : rs1 (mTx μ) n cm p nu = (rnR (mTx μ) n 0 7 (p) nu) := by rw [rs1, if_neg hc_4, if_neg hc_21, if_pos hc_41]
                  have hb2 : rs2 (mTx μ) n cm (rnR (mTx μ) n 0 7 (p) nu).2.1 (rnR (mTx μ) n 0 7 (p) nu).2.2 = (rnR (mTx μ) n 0 9 ((rnR (mTx μ) n 0 7 (p) nu).2.1) ((rnR (mTx μ) n 0 7 (p) nu).2.2)) := by rw [rs2, if_pos hc_90]
                  have hx : (rsR (mTx μ) n cm p nu se) = (true, (rnR (mTx μ) n 0 9 ((rnR (mTx μ) n 0 7 (p) nu).2.1) ((rnR (mTx μ) n 0 7 (p) nu).2.2)).2.1, (rnR (mTx μ) n 0 9 ((rnR (mTx μ) n 0 7 (p) nu).2.1) ((rnR (mTx μ) n 0 7 (p) nu).2.2)).2.2, cm, (rnR (mTx μ) n 0 7 (p) nu).2.2, (rnR (mTx μ) n 0 9 ((rnR (mTx μ) n 0 7 (p) nu).2.1) ((rnR (mTx μ) n 0 7 (p) nu).2.2)).2.2) := by rw [rsR, ha, rsB, if_pos ⟨hb_51, hc_72, hc_80⟩, hb2, hb_97]
                  exact pT_mk (c := true) (by rw [hx]) (Or.inl ⟨rfl, rfl⟩) (by rw [hx])
                · refine g_goto C (tgt := 113) dX4_readsNumbers_100 (by decide) ?_
                  refine g_istore_n C dX4_readsNumbers_113 rfl (Nat.le_of_ble_eq_true rfl) rfl ?_
                  refine g_aload_n C dX4_readsNumbers_114 rfl rfl ?_
                  refine g_aload_n C dX4_readsNumbers_115 rfl rfl ?_
                  refine g_get C inX4 0 rfl rfl 12 (by decide) f146 rfl dX4_readsNumbers_116 ?_
                  refine g_put C (ws' := (modT E m b μ ((rnR (mTx μ) n 0 9 ((rnR (mTx μ) n 0 7 (p) nu).2.1) ((rnR (mTx μ) n 0 7 (p) nu).2.2)).2.1) ((rnR (mTx μ) n 0 9 ((rnR (mTx μ) n 0 7 (p) nu).2.1) ((rnR (mTx μ) n 0 7 (p) nu).2.2)).2.2) cm ((rnR (mTx μ) n 0 7 (p) nu).2.2) ((rnR (mTx μ) n 0 9 ((rnR (mTx μ) n 0 7 (p) nu).2.1) ((rnR (mTx μ) n 0 7 (p) nu).2.2)).2.2))) inX4 (ty := .int) tyX4 tyX4_ok nmX4 0 rfl rfl 15 (by decide) f158 rfl (by decide +kernel) rfl rfl (Nat.le_of_ble_eq_true rfl) dX4_readsNumbers_119 rfl ?_
                  refine g_iload_n C dX4_readsNumbers_122 rfl rfl ?_
                  refine g_zret C R0 rfl dX4_readsNumbers_123 ?_
                  have ha : rs1 (mTx μ) n cm p nu = (rnR (mTx μ) n 0 7 (p) nu) := by rw [rs1, if_neg hc_4, if_neg hc_21, if_pos hc_41]
                  have hb2 : rs2 (mTx μ) n cm (rnR (mTx μ) n 0 7 (p) nu).2.1 (rnR (mTx μ) n 0 7 (p) nu).2.2 = (rnR (mTx μ) n 0 9 ((rnR (mTx μ) n 0 7 (p) nu).2.1) ((rnR (mTx μ) n 0 7 (p) nu).2.2)) := by rw [rs2, if_pos hc_90]
                  have hx : (rsR (mTx μ) n cm p nu se) = (false, (rnR (mTx μ) n 0 9 ((rnR (mTx μ) n 0 7 (p) nu).2.1) ((rnR (mTx μ) n 0 7 (p) nu).2.2)).2.1, (rnR (mTx μ) n 0 9 ((rnR (mTx μ) n 0 7 (p) nu).2.1) ((rnR (mTx μ) n 0 7 (p) nu).2.2)).2.2, cm, (rnR (mTx μ) n 0 7 (p) nu).2.2, (rnR (mTx μ) n 0 9 ((rnR (mTx μ) n 0 7 (p) nu).2.1) ((rnR (mTx μ) n 0 7 (p) nu).2.2)).2.2) := by rw [rsR, ha, rsB, if_pos ⟨hb_51, hc_72, hc_80⟩, hb2, hb_97]
                  exact pT_mk (c := false) (by rw [hx]) (Or.inr ⟨rfl, rfl⟩) (by rw [hx])
            · refine g_iload_n C dX4_readsNumbers_83 rfl rfl ?_
              refine g_zret C R0 rfl dX4_readsNumbers_84 ?_
              have ha : rs1 (mTx μ) n cm p nu = (rnR (mTx μ) n 0 7 (p) nu) := by rw [rs1, if_neg hc_4, if_neg hc_21, if_pos hc_41]
              have hx : (rsR (mTx μ) n cm p nu se) = (true, (rnR (mTx μ) n 0 7 (p) nu).2.1, (rnR (mTx μ) n 0 7 (p) nu).2.2, cm, (rnR (mTx μ) n 0 7 (p) nu).2.2, se) := by rw [rsR, ha, rsB, if_neg (fun z => z.2.2 hc_80), hb_51]
              exact pT_mk (c := true) (by rw [hx]) (Or.inl ⟨rfl, rfl⟩) (by rw [hx])
        · refine g_istore_n C dX4_readsNumbers_54 rfl (Nat.le_of_ble_eq_true rfl) rfl ?_
          refine g_aload_n C dX4_readsNumbers_55 rfl rfl ?_
          refine g_aload_n C dX4_readsNumbers_56 rfl rfl ?_
          refine g_get C inX4 0 rfl rfl 12 (by decide) f146 rfl dX4_readsNumbers_57 ?_
          refine g_put C (ws' := (modT E m b μ ((rnR (mTx μ) n 0 7 (p) nu).2.1) ((rnR (mTx μ) n 0 7 (p) nu).2.2) cm ((rnR (mTx μ) n 0 7 (p) nu).2.2) se)) inX4 (ty := .int) tyX4 tyX4_ok nmX4 0 rfl rfl 14 (by decide) f155 rfl (by decide +kernel) rfl rfl (Nat.le_of_ble_eq_true rfl) dX4_readsNumbers_60 rfl ?_
          refine g_iload_n C dX4_readsNumbers_63 rfl rfl ?_
          refine g_if_eq_t C dX4_readsNumbers_64 (tgt := 83) (by decide) (by decide) ?_
          refine g_iload_n C dX4_readsNumbers_83 rfl rfl ?_
          refine g_zret C R0 rfl dX4_readsNumbers_84 ?_
          have ha : rs1 (mTx μ) n cm p nu = (rnR (mTx μ) n 0 7 (p) nu) := by rw [rs1, if_neg hc_4, if_neg hc_21, if_pos hc_41]
          have hx : (rsR (mTx μ) n cm p nu se) = (false, (rnR (mTx μ) n 0 7 (p) nu).2.1, (rnR (mTx μ) n 0 7 (p) nu).2.2, cm, (rnR (mTx μ) n 0 7 (p) nu).2.2, se) := by rw [rsR, ha, rsB, if_neg (fun z => absurd z.1 (by rw [hb_51]; decide)), hb_51]
          exact pT_mk (c := false) (by rw [hx]) (Or.inr ⟨rfl, rfl⟩) (by rw [hx])
    · refine g_aload_n C dX4_readsNumbers_24 rfl rfl ?_
      refine g_iconst C (v := 1) dX4_readsNumbers_25 rfl ?_
      refine g_bipush C (v := 20) dX4_readsNumbers_26 rfl ?_
      have hle_28 := rnR_le (tx := (mTx μ)) (n := n) (least := 1) (most := 20) (nu := nu) (p := p) (by omega)
      refine g_calliVF C 0 rfl rfl (c_X4_readsNumber E m b μ n (p) hn hTL (by omega) nu cm fi se _ _) cf_X4_readsNumber gX4_readsNumbers_X4_readsNumber rfl (fitD (Nat.le_of_ble_eq_true rfl) (Nat.le_of_ble_eq_true rfl)) rfl rfl (Nat.le_of_ble_eq_true rfl) dX4_readsNumbers_28 (fun r1 w1 hp9 => ?_)
      obtain ⟨⟨hb_28, rfl⟩ | ⟨hb_28, rfl⟩, rfl⟩ := hp9
      · refine g_goto C (tgt := 54) dX4_readsNumbers_31 (by decide) ?_
        refine g_istore_n C dX4_readsNumbers_54 rfl (Nat.le_of_ble_eq_true rfl) rfl ?_
        refine g_aload_n C dX4_readsNumbers_55 rfl rfl ?_
        refine g_aload_n C dX4_readsNumbers_56 rfl rfl ?_
        refine g_get C inX4 0 rfl rfl 12 (by decide) f146 rfl dX4_readsNumbers_57 ?_
        refine g_put C (ws' := (modT E m b μ ((rnR (mTx μ) n 1 20 (p) nu).2.1) ((rnR (mTx μ) n 1 20 (p) nu).2.2) cm ((rnR (mTx μ) n 1 20 (p) nu).2.2) se)) inX4 (ty := .int) tyX4 tyX4_ok nmX4 0 rfl rfl 14 (by decide) f155 rfl (by decide +kernel) rfl rfl (Nat.le_of_ble_eq_true rfl) dX4_readsNumbers_60 rfl ?_
        refine g_iload_n C dX4_readsNumbers_63 rfl rfl ?_
        refine g_if_eq_f C dX4_readsNumbers_64 83 (by decide) (by decide) ?_
        refine g_aload_n C dX4_readsNumbers_67 rfl rfl ?_
        refine g_get C inX4 0 rfl rfl 13 (by decide) f149 rfl dX4_readsNumbers_68 ?_
        refine g_iconst C (v := 1) dX4_readsNumbers_71 rfl ?_
        refine g_icmp_eq C (tgt := 83) dX4_readsNumbers_72 (by decide) (fun hc_72 => ?_) (fun hc_72 => ?_)
        · refine g_iload_n C dX4_readsNumbers_83 rfl rfl ?_
          refine g_zret C R0 rfl dX4_readsNumbers_84 ?_
          have ha : rs1 (mTx μ) n cm p nu = (rnR (mTx μ) n 1 20 (p) nu) := by rw [rs1, if_neg hc_4, if_pos hc_21]
          have hx : (rsR (mTx μ) n cm p nu se) = (true, (rnR (mTx μ) n 1 20 (p) nu).2.1, (rnR (mTx μ) n 1 20 (p) nu).2.2, cm, (rnR (mTx μ) n 1 20 (p) nu).2.2, se) := by rw [rsR, ha, rsB, if_neg (fun z => z.2.1 hc_72), hb_28]
          exact pT_mk (c := true) (by rw [hx]) (Or.inl ⟨rfl, rfl⟩) (by rw [hx])
        · refine g_aload_n C dX4_readsNumbers_75 rfl rfl ?_
          refine g_get C inX4 0 rfl rfl 13 (by decide) f149 rfl dX4_readsNumbers_76 ?_
          refine g_iconst C (v := 3) dX4_readsNumbers_79 rfl ?_
          refine g_icmp_ne C (tgt := 85) dX4_readsNumbers_80 (by decide) (fun hc_80 => ?_) (fun hc_80 => ?_)
          · refine g_aload_n C dX4_readsNumbers_85 rfl rfl ?_
            refine g_get C inX4 0 rfl rfl 13 (by decide) f149 rfl dX4_readsNumbers_86 ?_
            refine g_iconst C (v := 4) dX4_readsNumbers_89 rfl ?_
            refine g_icmp_ne C (tgt := 103) dX4_readsNumbers_90 (by decide) (fun hc_90 => ?_) (fun hc_90 => ?_)
            · refine g_aload_n C dX4_readsNumbers_103 rfl rfl ?_
              refine g_sipush C (v := (-999)) dX4_readsNumbers_104 rfl ?_
              refine g_sipush C (v := 999) dX4_readsNumbers_107 rfl ?_
              have hle_110 := rnR_le (tx := (mTx μ)) (n := n) (least := (-999)) (most := 999) (nu := (rnR (mTx μ) n 1 20 (p) nu).2.2) (p := (rnR (mTx μ) n 1 20 (p) nu).2.1) (by omega)
              refine g_calliVF C 0 rfl rfl (c_X4_readsNumber E m b μ n ((rnR (mTx μ) n 1 20 (p) nu).2.1) hn hTL (by omega) ((rnR (mTx μ) n 1 20 (p) nu).2.2) cm ((rnR (mTx μ) n 1 20 (p) nu).2.2) se _ _) cf_X4_readsNumber gX4_readsNumbers_X4_readsNumber rfl (fitD (Nat.le_of_ble_eq_true rfl) (Nat.le_of_ble_eq_true rfl)) rfl rfl (Nat.le_of_ble_eq_true rfl) dX4_readsNumbers_110 (fun r1 w1 hp9 => ?_)
              obtain ⟨⟨hb_110, rfl⟩ | ⟨hb_110, rfl⟩, rfl⟩ := hp9
              · refine g_istore_n C dX4_readsNumbers_113 rfl (Nat.le_of_ble_eq_true rfl) rfl ?_
                refine g_aload_n C dX4_readsNumbers_114 rfl rfl ?_
                refine g_aload_n C dX4_readsNumbers_115 rfl rfl ?_
                refine g_get C inX4 0 rfl rfl 12 (by decide) f146 rfl dX4_readsNumbers_116 ?_
                refine g_put C (ws' := (modT E m b μ ((rnR (mTx μ) n (-999) 999 ((rnR (mTx μ) n 1 20 (p) nu).2.1) ((rnR (mTx μ) n 1 20 (p) nu).2.2)).2.1) ((rnR (mTx μ) n (-999) 999 ((rnR (mTx μ) n 1 20 (p) nu).2.1) ((rnR (mTx μ) n 1 20 (p) nu).2.2)).2.2) cm ((rnR (mTx μ) n 1 20 (p) nu).2.2) ((rnR (mTx μ) n (-999) 999 ((rnR (mTx μ) n 1 20 (p) nu).2.1) ((rnR (mTx μ) n 1 20 (p) nu).2.2)).2.2))) inX4 (ty := .int) tyX4 tyX4_ok nmX4 0 rfl rfl 15 (by decide) f158 rfl (by decide +kernel) rfl rfl (Nat.le_of_ble_eq_true rfl) dX4_readsNumbers_119 rfl ?_
                refine g_iload_n C dX4_readsNumbers_122 rfl rfl ?_
                refine g_zret C R0 rfl dX4_readsNumbers_123 ?_
                have ha : rs1 (mTx μ) n cm p nu = (rnR (mTx μ) n 1 20 (p) nu) := by rw [rs1, if_neg hc_4, if_pos hc_21]
                have hb2 : rs2 (mTx μ) n cm (rnR (mTx μ) n 1 20 (p) nu).2.1 (rnR (mTx μ) n 1 20 (p) nu).2.2 = (rnR (mTx μ) n (-999) 999 ((rnR (mTx μ) n 1 20 (p) nu).2.1) ((rnR (mTx μ) n 1 20 (p) nu).2.2)) := by rw [rs2, if_neg hc_90]
                have hx : (rsR (mTx μ) n cm p nu se) = (true, (rnR (mTx μ) n (-999) 999 ((rnR (mTx μ) n 1 20 (p) nu).2.1) ((rnR (mTx μ) n 1 20 (p) nu).2.2)).2.1, (rnR (mTx μ) n (-999) 999 ((rnR (mTx μ) n 1 20 (p) nu).2.1) ((rnR (mTx μ) n 1 20 (p) nu).2.2)).2.2, cm, (rnR (mTx μ) n 1 20 (p) nu).2.2, (rnR (mTx μ) n (-999) 999 ((rnR (mTx μ) n 1 20 (p) nu).2.1) ((rnR (mTx μ) n 1 20 (p) nu).2.2)).2.2) := by rw [rsR, ha, rsB, if_pos ⟨hb_28, hc_72, hc_80⟩, hb2, hb_110]
                exact pT_mk (c := true) (by rw [hx]) (Or.inl ⟨rfl, rfl⟩) (by rw [hx])
              · refine g_istore_n C dX4_readsNumbers_113 rfl (Nat.le_of_ble_eq_true rfl) rfl ?_
                refine g_aload_n C dX4_readsNumbers_114 rfl rfl ?_
                refine g_aload_n C dX4_readsNumbers_115 rfl rfl ?_
                refine g_get C inX4 0 rfl rfl 12 (by decide) f146 rfl dX4_readsNumbers_116 ?_
                refine g_put C (ws' := (modT E m b μ ((rnR (mTx μ) n (-999) 999 ((rnR (mTx μ) n 1 20 (p) nu).2.1) ((rnR (mTx μ) n 1 20 (p) nu).2.2)).2.1) ((rnR (mTx μ) n (-999) 999 ((rnR (mTx μ) n 1 20 (p) nu).2.1) ((rnR (mTx μ) n 1 20 (p) nu).2.2)).2.2) cm ((rnR (mTx μ) n 1 20 (p) nu).2.2) ((rnR (mTx μ) n (-999) 999 ((rnR (mTx μ) n 1 20 (p) nu).2.1) ((rnR (mTx μ) n 1 20 (p) nu).2.2)).2.2))) inX4 (ty := .int) tyX4 tyX4_ok nmX4 0 rfl rfl 15 (by decide) f158 rfl (by decide +kernel) rfl rfl (Nat.le_of_ble_eq_true rfl) dX4_readsNumbers_119 rfl ?_
                refine g_iload_n C dX4_readsNumbers_122 rfl rfl ?_
                refine g_zret C R0 rfl dX4_readsNumbers_123 ?_
                have ha : rs1 (mTx μ) n cm p nu = (rnR (mTx μ) n 1 20 (p) nu) := by rw [rs1, if_neg hc_4, if_pos hc_21]
                have hb2 : rs2 (mTx μ) n cm (rnR (mTx μ) n 1 20 (p) nu).2.1 (rnR (mTx μ) n 1 20 (p) nu).2.2 = (rnR (mTx μ) n (-999) 999 ((rnR (mTx μ) n 1 20 (p) nu).2.1) ((rnR (mTx μ) n 1 20 (p) nu).2.2)) := by rw [rs2, if_neg hc_90]
                have hx : (rsR (mTx μ) n cm p nu se) = (false, (rnR (mTx μ) n (-999) 999 ((rnR (mTx μ) n 1 20 (p) nu).2.1) ((rnR (mTx μ) n 1 20 (p) nu).2.2)).2.1, (rnR (mTx μ) n (-999) 999 ((rnR (mTx μ) n 1 20 (p) nu).2.1) ((rnR (mTx μ) n 1 20 (p) nu).2.2)).2.2, cm, (rnR (mTx μ) n 1 20 (p) nu).2.2, (rnR (mTx μ) n (-999) 999 ((rnR (mTx μ) n 1 20 (p) nu).2.1) ((rnR (mTx μ) n 1 20 (p) nu).2.2)).2.2) := by rw [rsR, ha, rsB, if_pos ⟨hb_28, hc_72, hc_80⟩, hb2, hb_110]
                exact pT_mk (c := false) (by rw [hx]) (Or.inr ⟨rfl, rfl⟩) (by rw [hx])
            · refine g_aload_n C dX4_readsNumbers_93 rfl rfl ?_
              refine g_iconst C (v := 0) dX4_readsNumbers_94 rfl ?_
              refine g_bipush C (v := 9) dX4_readsNumbers_95 rfl ?_
              have hle_97 := rnR_le (tx := (mTx μ)) (n := n) (least := 0) (most := 9) (nu := (rnR (mTx μ) n 1 20 (p) nu).2.2) (p := (rnR (mTx μ) n 1 20 (p) nu).2.1) (by omega)
              refine g_calliVF C 0 rfl rfl (c_X4_readsNumber E m b μ n ((rnR (mTx μ) n 1 20 (p) nu).2.1) hn hTL (by omega) ((rnR (mTx μ) n 1 20 (p) nu).2.2) cm ((rnR (mTx μ) n 1 20 (p) nu).2.2) se _ _) cf_X4_readsNumber gX4_readsNumbers_X4_readsNumber rfl (fitD (Nat.le_of_ble_eq_true rfl) (Nat.le_of_ble_eq_true rfl)) rfl rfl (Nat.le_of_ble_eq_true rfl) dX4_readsNumbers_97 (fun r1 w1 hp9 => ?_)
              obtain ⟨⟨hb_97, rfl⟩ | ⟨hb_97, rfl⟩, rfl⟩ := hp9
              · refine g_goto C (tgt := 113) dX4_readsNumbers_100 (by decide) ?_
                refine g_istore_n C dX4_readsNumbers_113 rfl (Nat.le_of_ble_eq_true rfl) rfl ?_
                refine g_aload_n C dX4_readsNumbers_114 rfl rfl ?_
                refine g_aload_n C dX4_readsNumbers_115 rfl rfl ?_
                refine g_get C inX4 0 rfl rfl 12 (by decide) f146 rfl dX4_readsNumbers_116 ?_
                refine g_put C (ws' := (modT E m b μ ((rnR (mTx μ) n 0 9 ((rnR (mTx μ) n 1 20 (p) nu).2.1) ((rnR (mTx μ) n 1 20 (p) nu).2.2)).2.1) ((rnR (mTx μ) n 0 9 ((rnR (mTx μ) n 1 20 (p) nu).2.1) ((rnR (mTx μ) n 1 20 (p) nu).2.2)).2.2) cm ((rnR (mTx μ) n 1 20 (p) nu).2.2) ((rnR (mTx μ) n 0 9 ((rnR (mTx μ) n 1 20 (p) nu).2.1) ((rnR (mTx μ) n 1 20 (p) nu).2.2)).2.2))) inX4 (ty := .int) tyX4 tyX4_ok nmX4 0 rfl rfl 15 (by decide) f158 rfl (by decide +kernel) rfl rfl (Nat.le_of_ble_eq_true rfl) dX4_readsNumbers_119 rfl ?_
                refine g_iload_n C dX4_readsNumbers_122 rfl rfl ?_
                refine g_zret C R0 rfl dX4_readsNumbers_123 ?_
                have ha : rs1 (mTx μ) n cm p nu = (rnR (mTx μ) n 1 20 (p) nu) := by rw [rs1, if_neg hc_4, if_pos hc_21]
                have hb2 : rs2 (mTx μ) n cm (rnR (mTx μ) n 1 20 (p) nu).2.1 (rnR (mTx μ) n 1 20 (p) nu).2.2 = (rnR (mTx μ) n 0 9 ((rnR (mTx μ) n 1 20 (p) nu).2.1) ((rnR (mTx μ) n 1 20 (p) nu).2.2)) := by rw [rs2, if_pos hc_90]
                have hx : (rsR (mTx μ) n cm p nu se) = (true, (rnR (mTx μ) n 0 9 ((rnR (mTx μ) n 1 20 (p) nu).2.1) ((rnR (mTx μ) n 1 20 (p) nu).2.2)).2.1, (rnR (mTx μ) n 0 9 ((rnR (mTx μ) n 1 20 (p) nu).2.1) ((rnR (mTx μ) n 1 20 (p) nu).2.2)).2.2, cm, (rnR (mTx μ) n 1 20 (p) nu).2.2, (rnR (mTx μ) n 0 9 ((rnR (mTx μ) n 1 20 (p) nu).2.1) ((rnR (mTx μ) n 1 20 (p) nu).2.2)).2.2) := by rw [rsR, ha, rsB, if_pos ⟨hb_28, hc_72, hc_80⟩, hb2, hb_97]
                exact pT_mk (c := true) (by rw [hx]) (Or.inl ⟨rfl, rfl⟩) (by rw [hx])
              · refine g_goto C (tgt := 113) dX4_readsNumbers_100 (by decide) ?_
                refine g_istore_n C dX4_readsNumbers_113 rfl (Nat.le_of_ble_eq_true rfl) rfl ?_
                refine g_aload_n C dX4_readsNumbers_114 rfl rfl ?_
                refine g_aload_n C dX4_readsNumbers_115 rfl rfl ?_
                refine g_get C inX4 0 rfl rfl 12 (by decide) f146 rfl dX4_readsNumbers_116 ?_
                refine g_put C (ws' := (modT E m b μ ((rnR (mTx μ) n 0 9 ((rnR (mTx μ) n 1 20 (p) nu).2.1) ((rnR (mTx μ) n 1 20 (p) nu).2.2)).2.1) ((rnR (mTx μ) n 0 9 ((rnR (mTx μ) n 1 20 (p) nu).2.1) ((rnR (mTx μ) n 1 20 (p) nu).2.2)).2.2) cm ((rnR (mTx μ) n 1 20 (p) nu).2.2) ((rnR (mTx μ) n 0 9 ((rnR (mTx μ) n 1 20 (p) nu).2.1) ((rnR (mTx μ) n 1 20 (p) nu).2.2)).2.2))) inX4 (ty := .int) tyX4 tyX4_ok nmX4 0 rfl rfl 15 (by decide) f158 rfl (by decide +kernel) rfl rfl (Nat.le_of_ble_eq_true rfl) dX4_readsNumbers_119 rfl ?_
                refine g_iload_n C dX4_readsNumbers_122 rfl rfl ?_
                refine g_zret C R0 rfl dX4_readsNumbers_123 ?_
                have ha : rs1 (mTx μ) n cm p nu = (rnR (mTx μ) n 1 20 (p) nu) := by rw [rs1, if_neg hc_4, if_pos hc_21]
                have hb2 : rs2 (mTx μ) n cm (rnR (mTx μ) n 1 20 (p) nu).2.1 (rnR (mTx μ) n 1 20 (p) nu).2.2 = (rnR (mTx μ) n 0 9 ((rnR (mTx μ) n 1 20 (p) nu).2.1) ((rnR (mTx μ) n 1 20 (p) nu).2.2)) := by rw [rs2, if_pos hc_90]
                have hx : (rsR (mTx μ) n cm p nu se) = (false, (rnR (mTx μ) n 0 9 ((rnR (mTx μ) n 1 20 (p) nu).2.1) ((rnR (mTx μ) n 1 20 (p) nu).2.2)).2.1, (rnR (mTx μ) n 0 9 ((rnR (mTx μ) n 1 20 (p) nu).2.1) ((rnR (mTx μ) n 1 20 (p) nu).2.2)).2.2, cm, (rnR (mTx μ) n 1 20 (p) nu).2.2, (rnR (mTx μ) n 0 9 ((rnR (mTx μ) n 1 20 (p) nu).2.1) ((rnR (mTx μ) n 1 20 (p) nu).2.2)).2.2) := by rw [rsR, ha, rsB, if_pos ⟨hb_28, hc_72, hc_80⟩, hb2, hb_97]
                exact pT_mk (c := false) (by rw [hx]) (Or.inr ⟨rfl, rfl⟩) (by rw [hx])
          · refine g_iload_n C dX4_readsNumbers_83 rfl rfl ?_
            refine g_zret C R0 rfl dX4_readsNumbers_84 ?_
            have ha : rs1 (mTx μ) n cm p nu = (rnR (mTx μ) n 1 20 (p) nu) := by rw [rs1, if_neg hc_4, if_pos hc_21]
            have hx : (rsR (mTx μ) n cm p nu se) = (true, (rnR (mTx μ) n 1 20 (p) nu).2.1, (rnR (mTx μ) n 1 20 (p) nu).2.2, cm, (rnR (mTx μ) n 1 20 (p) nu).2.2, se) := by rw [rsR, ha, rsB, if_neg (fun z => z.2.2 hc_80), hb_28]
            exact pT_mk (c := true) (by rw [hx]) (Or.inl ⟨rfl, rfl⟩) (by rw [hx])
      · refine g_goto C (tgt := 54) dX4_readsNumbers_31 (by decide) ?_
        refine g_istore_n C dX4_readsNumbers_54 rfl (Nat.le_of_ble_eq_true rfl) rfl ?_
        refine g_aload_n C dX4_readsNumbers_55 rfl rfl ?_
        refine g_aload_n C dX4_readsNumbers_56 rfl rfl ?_
        refine g_get C inX4 0 rfl rfl 12 (by decide) f146 rfl dX4_readsNumbers_57 ?_
        refine g_put C (ws' := (modT E m b μ ((rnR (mTx μ) n 1 20 (p) nu).2.1) ((rnR (mTx μ) n 1 20 (p) nu).2.2) cm ((rnR (mTx μ) n 1 20 (p) nu).2.2) se)) inX4 (ty := .int) tyX4 tyX4_ok nmX4 0 rfl rfl 14 (by decide) f155 rfl (by decide +kernel) rfl rfl (Nat.le_of_ble_eq_true rfl) dX4_readsNumbers_60 rfl ?_
        refine g_iload_n C dX4_readsNumbers_63 rfl rfl ?_
        refine g_if_eq_t C dX4_readsNumbers_64 (tgt := 83) (by decide) (by decide) ?_
        refine g_iload_n C dX4_readsNumbers_83 rfl rfl ?_
        refine g_zret C R0 rfl dX4_readsNumbers_84 ?_
        have ha : rs1 (mTx μ) n cm p nu = (rnR (mTx μ) n 1 20 (p) nu) := by rw [rs1, if_neg hc_4, if_pos hc_21]
        have hx : (rsR (mTx μ) n cm p nu se) = (false, (rnR (mTx μ) n 1 20 (p) nu).2.1, (rnR (mTx μ) n 1 20 (p) nu).2.2, cm, (rnR (mTx μ) n 1 20 (p) nu).2.2, se) := by rw [rsR, ha, rsB, if_neg (fun z => absurd z.1 (by rw [hb_28]; decide)), hb_28]
        exact pT_mk (c := false) (by rw [hx]) (Or.inr ⟨rfl, rfl⟩) (by rw [hx])
  · refine g_aload_n C dX4_readsNumbers_7 rfl rfl ?_
    refine g_iconst C (v := 0) dX4_readsNumbers_8 rfl ?_
    refine g_iconst C (v := 3) dX4_readsNumbers_9 rfl ?_
    have hle_10 := rnR_le (tx := (mTx μ)) (n := n) (least := 0) (most := 3) (nu := nu) (p := p) (by omega)
    refine g_calliVF C 0 rfl rfl (c_X4_readsNumber E m b μ n (p) hn hTL (by omega) nu cm fi se _ _) cf_X4_readsNumber gX4_readsNumbers_X4_readsNumber rfl (fitD (Nat.le_of_ble_eq_true rfl) (Nat.le_of_ble_eq_true rfl)) rfl rfl (Nat.le_of_ble_eq_true rfl) dX4_readsNumbers_10 (fun r1 w1 hp9 => ?_)
    obtain ⟨⟨hb_10, rfl⟩ | ⟨hb_10, rfl⟩, rfl⟩ := hp9
    · refine g_goto C (tgt := 54) dX4_readsNumbers_13 (by decide) ?_
      refine g_istore_n C dX4_readsNumbers_54 rfl (Nat.le_of_ble_eq_true rfl) rfl ?_
      refine g_aload_n C dX4_readsNumbers_55 rfl rfl ?_
      refine g_aload_n C dX4_readsNumbers_56 rfl rfl ?_
      refine g_get C inX4 0 rfl rfl 12 (by decide) f146 rfl dX4_readsNumbers_57 ?_
      refine g_put C (ws' := (modT E m b μ ((rnR (mTx μ) n 0 3 (p) nu).2.1) ((rnR (mTx μ) n 0 3 (p) nu).2.2) cm ((rnR (mTx μ) n 0 3 (p) nu).2.2) se)) inX4 (ty := .int) tyX4 tyX4_ok nmX4 0 rfl rfl 14 (by decide) f155 rfl (by decide +kernel) rfl rfl (Nat.le_of_ble_eq_true rfl) dX4_readsNumbers_60 rfl ?_
      refine g_iload_n C dX4_readsNumbers_63 rfl rfl ?_
      refine g_if_eq_f C dX4_readsNumbers_64 83 (by decide) (by decide) ?_
      refine g_aload_n C dX4_readsNumbers_67 rfl rfl ?_
      refine g_get C inX4 0 rfl rfl 13 (by decide) f149 rfl dX4_readsNumbers_68 ?_
      refine g_iconst C (v := 1) dX4_readsNumbers_71 rfl ?_
      refine g_icmp_eq C (tgt := 83) dX4_readsNumbers_72 (by decide) (fun hc_72 => ?_) (fun hc_72 => ?_)
      · refine g_iload_n C dX4_readsNumbers_83 rfl rfl ?_
        refine g_zret C R0 rfl dX4_readsNumbers_84 ?_
        have ha : rs1 (mTx μ) n cm p nu = (rnR (mTx μ) n 0 3 (p) nu) := by rw [rs1, if_pos hc_4]
        have hx : (rsR (mTx μ) n cm p nu se) = (true, (rnR (mTx μ) n 0 3 (p) nu).2.1, (rnR (mTx μ) n 0 3 (p) nu).2.2, cm, (rnR (mTx μ) n 0 3 (p) nu).2.2, se) := by rw [rsR, ha, rsB, if_neg (fun z => z.2.1 hc_72), hb_10]
        exact pT_mk (c := true) (by rw [hx]) (Or.inl ⟨rfl, rfl⟩) (by rw [hx])
      · refine g_aload_n C dX4_readsNumbers_75 rfl rfl ?_
        refine g_get C inX4 0 rfl rfl 13 (by decide) f149 rfl dX4_readsNumbers_76 ?_
        refine g_iconst C (v := 3) dX4_readsNumbers_79 rfl ?_
        refine g_icmp_ne C (tgt := 85) dX4_readsNumbers_80 (by decide) (fun hc_80 => ?_) (fun hc_80 => ?_)
        · refine g_aload_n C dX4_readsNumbers_85 rfl rfl ?_
          refine g_get C inX4 0 rfl rfl 13 (by decide) f149 rfl dX4_readsNumbers_86 ?_
          refine g_iconst C (v := 4) dX4_readsNumbers_89 rfl ?_
          refine g_icmp_ne C (tgt := 103) dX4_readsNumbers_90 (by decide) (fun hc_90 => ?_) (fun hc_90 => ?_)
          · refine g_aload_n C dX4_readsNumbers_103 rfl rfl ?_
            refine g_sipush C (v := (-999)) dX4_readsNumbers_104 rfl ?_
            refine g_sipush C (v := 999) dX4_readsNumbers_107 rfl ?_
            have hle_110 := rnR_le (tx := (mTx μ)) (n := n) (least := (-999)) (most := 999) (nu := (rnR (mTx μ) n 0 3 (p) nu).2.2) (p := (rnR (mTx μ) n 0 3 (p) nu).2.1) (by omega)
            refine g_calliVF C 0 rfl rfl (c_X4_readsNumber E m b μ n ((rnR (mTx μ) n 0 3 (p) nu).2.1) hn hTL (by omega) ((rnR (mTx μ) n 0 3 (p) nu).2.2) cm ((rnR (mTx μ) n 0 3 (p) nu).2.2) se _ _) cf_X4_readsNumber gX4_readsNumbers_X4_readsNumber rfl (fitD (Nat.le_of_ble_eq_true rfl) (Nat.le_of_ble_eq_true rfl)) rfl rfl (Nat.le_of_ble_eq_true rfl) dX4_readsNumbers_110 (fun r1 w1 hp9 => ?_)
            obtain ⟨⟨hb_110, rfl⟩ | ⟨hb_110, rfl⟩, rfl⟩ := hp9
            · refine g_istore_n C dX4_readsNumbers_113 rfl (Nat.le_of_ble_eq_true rfl) rfl ?_
              refine g_aload_n C dX4_readsNumbers_114 rfl rfl ?_
              refine g_aload_n C dX4_readsNumbers_115 rfl rfl ?_
              refine g_get C inX4 0 rfl rfl 12 (by decide) f146 rfl dX4_readsNumbers_116 ?_
              refine g_put C (ws' := (modT E m b μ ((rnR (mTx μ) n (-999) 999 ((rnR (mTx μ) n 0 3 (p) nu).2.1) ((rnR (mTx μ) n 0 3 (p) nu).2.2)).2.1) ((rnR (mTx μ) n (-999) 999 ((rnR (mTx μ) n 0 3 (p) nu).2.1) ((rnR (mTx μ) n 0 3 (p) nu).2.2)).2.2) cm ((rnR (mTx μ) n 0 3 (p) nu).2.2) ((rnR (mTx μ) n (-999) 999 ((rnR (mTx μ) n 0 3 (p) nu).2.1) ((rnR (mTx μ) n 0 3 (p) nu).2.2)).2.2))) inX4 (ty := .int) tyX4 tyX4_ok nmX4 0 rfl rfl 15 (by decide) f158 rfl (by decide +kernel) rfl rfl (Nat.le_of_ble_eq_true rfl) dX4_readsNumbers_119 rfl ?_
              refine g_iload_n C dX4_readsNumbers_122 rfl rfl ?_
              refine g_zret C R0 rfl dX4_readsNumbers_123 ?_
              have ha : rs1 (mTx μ) n cm p nu = (rnR (mTx μ) n 0 3 (p) nu) := by rw [rs1, if_pos hc_4]
              have hb2 : rs2 (mTx μ) n cm (rnR (mTx μ) n 0 3 (p) nu).2.1 (rnR (mTx μ) n 0 3 (p) nu).2.2 = (rnR (mTx μ) n (-999) 999 ((rnR (mTx μ) n 0 3 (p) nu).2.1) ((rnR (mTx μ) n 0 3 (p) nu).2.2)) := by rw [rs2, if_neg hc_90]
              have hx : (rsR (mTx μ) n cm p nu se) = (true, (rnR (mTx μ) n (-999) 999 ((rnR (mTx μ) n 0 3 (p) nu).2.1) ((rnR (mTx μ) n 0 3 (p) nu).2.2)).2.1, (rnR (mTx μ) n (-999) 999 ((rnR (mTx μ) n 0 3 (p) nu).2.1) ((rnR (mTx μ) n 0 3 (p) nu).2.2)).2.2, cm, (rnR (mTx μ) n 0 3 (p) nu).2.2, (rnR (mTx μ) n (-999) 999 ((rnR (mTx μ) n 0 3 (p) nu).2.1) ((rnR (mTx μ) n 0 3 (p) nu).2.2)).2.2) := by rw [rsR, ha, rsB, if_pos ⟨hb_10, hc_72, hc_80⟩, hb2, hb_110]
              exact pT_mk (c := true) (by rw [hx]) (Or.inl ⟨rfl, rfl⟩) (by rw [hx])
            · refine g_istore_n C dX4_readsNumbers_113 rfl (Nat.le_of_ble_eq_true rfl) rfl ?_
              refine g_aload_n C dX4_readsNumbers_114 rfl rfl ?_
              refine g_aload_n C dX4_readsNumbers_115 rfl rfl ?_
              refine g_get C inX4 0 rfl rfl 12 (by decide) f146 rfl dX4_readsNumbers_116 ?_
              refine g_put C (ws' := (modT E m b μ ((rnR (mTx μ) n (-999) 999 ((rnR (mTx μ) n 0 3 (p) nu).2.1) ((rnR (mTx μ) n 0 3 (p) nu).2.2)).2.1) ((rnR (mTx μ) n (-999) 999 ((rnR (mTx μ) n 0 3 (p) nu).2.1) ((rnR (mTx μ) n 0 3 (p) nu).2.2)).2.2) cm ((rnR (mTx μ) n 0 3 (p) nu).2.2) ((rnR (mTx μ) n (-999) 999 ((rnR (mTx μ) n 0 3 (p) nu).2.1) ((rnR (mTx μ) n 0 3 (p) nu).2.2)).2.2))) inX4 (ty := .int) tyX4 tyX4_ok nmX4 0 rfl rfl 15 (by decide) f158 rfl (by decide +kernel) rfl rfl (Nat.le_of_ble_eq_true rfl) dX4_readsNumbers_119 rfl ?_
              refine g_iload_n C dX4_readsNumbers_122 rfl rfl ?_
              refine g_zret C R0 rfl dX4_readsNumbers_123 ?_
              have ha : rs1 (mTx μ) n cm p nu = (rnR (mTx μ) n 0 3 (p) nu) := by rw [rs1, if_pos hc_4]
              have hb2 : rs2 (mTx μ) n cm (rnR (mTx μ) n 0 3 (p) nu).2.1 (rnR (mTx μ) n 0 3 (p) nu).2.2 = (rnR (mTx μ) n (-999) 999 ((rnR (mTx μ) n 0 3 (p) nu).2.1) ((rnR (mTx μ) n 0 3 (p) nu).2.2)) := by rw [rs2, if_neg hc_90]
              have hx : (rsR (mTx μ) n cm p nu se) = (false, (rnR (mTx μ) n (-999) 999 ((rnR (mTx μ) n 0 3 (p) nu).2.1) ((rnR (mTx μ) n 0 3 (p) nu).2.2)).2.1, (rnR (mTx μ) n (-999) 999 ((rnR (mTx μ) n 0 3 (p) nu).2.1) ((rnR (mTx μ) n 0 3 (p) nu).2.2)).2.2, cm, (rnR (mTx μ) n 0 3 (p) nu).2.2, (rnR (mTx μ) n (-999) 999 ((rnR (mTx μ) n 0 3 (p) nu).2.1) ((rnR (mTx μ) n 0 3 (p) nu).2.2)).2.2) := by rw [rsR, ha, rsB, if_pos ⟨hb_10, hc_72, hc_80⟩, hb2, hb_110]
              exact pT_mk (c := false) (by rw [hx]) (Or.inr ⟨rfl, rfl⟩) (by rw [hx])
          · refine g_aload_n C dX4_readsNumbers_93 rfl rfl ?_
            refine g_iconst C (v := 0) dX4_readsNumbers_94 rfl ?_
            refine g_bipush C (v := 9) dX4_readsNumbers_95 rfl ?_
            have hle_97 := rnR_le (tx := (mTx μ)) (n := n) (least := 0) (most := 9) (nu := (rnR (mTx μ) n 0 3 (p) nu).2.2) (p := (rnR (mTx μ) n 0 3 (p) nu).2.1) (by omega)
            refine g_calliVF C 0 rfl rfl (c_X4_readsNumber E m b μ n ((rnR (mTx μ) n 0 3 (p) nu).2.1) hn hTL (by omega) ((rnR (mTx μ) n 0 3 (p) nu).2.2) cm ((rnR (mTx μ) n 0 3 (p) nu).2.2) se _ _) cf_X4_readsNumber gX4_readsNumbers_X4_readsNumber rfl (fitD (Nat.le_of_ble_eq_true rfl) (Nat.le_of_ble_eq_true rfl)) rfl rfl (Nat.le_of_ble_eq_true rfl) dX4_readsNumbers_97 (fun r1 w1 hp9 => ?_)
            obtain ⟨⟨hb_97, rfl⟩ | ⟨hb_97, rfl⟩, rfl⟩ := hp9
            · refine g_goto C (tgt := 113) dX4_readsNumbers_100 (by decide) ?_
              refine g_istore_n C dX4_readsNumbers_113 rfl (Nat.le_of_ble_eq_true rfl) rfl ?_
              refine g_aload_n C dX4_readsNumbers_114 rfl rfl ?_
              refine g_aload_n C dX4_readsNumbers_115 rfl rfl ?_
              refine g_get C inX4 0 rfl rfl 12 (by decide) f146 rfl dX4_readsNumbers_116 ?_
              refine g_put C (ws' := (modT E m b μ ((rnR (mTx μ) n 0 9 ((rnR (mTx μ) n 0 3 (p) nu).2.1) ((rnR (mTx μ) n 0 3 (p) nu).2.2)).2.1) ((rnR (mTx μ) n 0 9 ((rnR (mTx μ) n 0 3 (p) nu).2.1) ((rnR (mTx μ) n 0 3 (p) nu).2.2)).2.2) cm ((rnR (mTx μ) n 0 3 (p) nu).2.2) ((rnR (mTx μ) n 0 9 ((rnR (mTx μ) n 0 3 (p) nu).2.1) ((rnR (mTx μ) n 0 3 (p) nu).2.2)).2.2))) inX4 (ty := .int) tyX4 tyX4_ok nmX4 0 rfl rfl 15 (by decide) f158 rfl (by decide +kernel) rfl rfl (Nat.le_of_ble_eq_true rfl) dX4_readsNumbers_119 rfl ?_
              refine g_iload_n C dX4_readsNumbers_122 rfl rfl ?_
              refine g_zret C R0 rfl dX4_readsNumbers_123 ?_
              have ha : rs1 (mTx μ) n cm p nu = (rnR (mTx μ) n 0 3 (p) nu) := by rw [rs1, if_pos hc_4]
              have hb2 : rs2 (mTx μ) n cm (rnR (mTx μ) n 0 3 (p) nu).2.1 (rnR (mTx μ) n 0 3 (p) nu).2.2 = (rnR (mTx μ) n 0 9 ((rnR (mTx μ) n 0 3 (p) nu).2.1) ((rnR (mTx μ) n 0 3 (p) nu).2.2)) := by rw [rs2, if_pos hc_90]
              have hx : (rsR (mTx μ) n cm p nu se) = (true, (rnR (mTx μ) n 0 9 ((rnR (mTx μ) n 0 3 (p) nu).2.1) ((rnR (mTx μ) n 0 3 (p) nu).2.2)).2.1, (rnR (mTx μ) n 0 9 ((rnR (mTx μ) n 0 3 (p) nu).2.1) ((rnR (mTx μ) n 0 3 (p) nu).2.2)).2.2, cm, (rnR (mTx μ) n 0 3 (p) nu).2.2, (rnR (mTx μ) n 0 9 ((rnR (mTx μ) n 0 3 (p) nu).2.1) ((rnR (mTx μ) n 0 3 (p) nu).2.2)).2.2) := by rw [rsR, ha, rsB, if_pos ⟨hb_10, hc_72, hc_80⟩, hb2, hb_97]
              exact pT_mk (c := true) (by rw [hx]) (Or.inl ⟨rfl, rfl⟩) (by rw [hx])
            · refine g_goto C (tgt := 113) dX4_readsNumbers_100 (by decide) ?_
              refine g_istore_n C dX4_readsNumbers_113 rfl (Nat.le_of_ble_eq_true rfl) rfl ?_
              refine g_aload_n C dX4_readsNumbers_114 rfl rfl ?_
              refine g_aload_n C dX4_readsNumbers_115 rfl rfl ?_
              refine g_get C inX4 0 rfl rfl 12 (by decide) f146 rfl dX4_readsNumbers_116 ?_
              refine g_put C (ws' := (modT E m b μ ((rnR (mTx μ) n 0 9 ((rnR (mTx μ) n 0 3 (p) nu).2.1) ((rnR (mTx μ) n 0 3 (p) nu).2.2)).2.1) ((rnR (mTx μ) n 0 9 ((rnR (mTx μ) n 0 3 (p) nu).2.1) ((rnR (mTx μ) n 0 3 (p) nu).2.2)).2.2) cm ((rnR (mTx μ) n 0 3 (p) nu).2.2) ((rnR (mTx μ) n 0 9 ((rnR (mTx μ) n 0 3 (p) nu).2.1) ((rnR (mTx μ) n 0 3 (p) nu).2.2)).2.2))) inX4 (ty := .int) tyX4 tyX4_ok nmX4 0 rfl rfl 15 (by decide) f158 rfl (by decide +kernel) rfl rfl (Nat.le_of_ble_eq_true rfl) dX4_readsNumbers_119 rfl ?_
              refine g_iload_n C dX4_readsNumbers_122 rfl rfl ?_
              refine g_zret C R0 rfl dX4_readsNumbers_123 ?_
              have ha : rs1 (mTx μ) n cm p nu = (rnR (mTx μ) n 0 3 (p) nu) := by rw [rs1, if_pos hc_4]
              have hb2 : rs2 (mTx μ) n cm (rnR (mTx μ) n 0 3 (p) nu).2.1 (rnR (mTx μ) n 0 3 (p) nu).2.2 = (rnR (mTx μ) n 0 9 ((rnR (mTx μ) n 0 3 (p) nu).2.1) ((rnR (mTx μ) n 0 3 (p) nu).2.2)) := by rw [rs2, if_pos hc_90]
              have hx : (rsR (mTx μ) n cm p nu se) = (false, (rnR (mTx μ) n 0 9 ((rnR (mTx μ) n 0 3 (p) nu).2.1) ((rnR (mTx μ) n 0 3 (p) nu).2.2)).2.1, (rnR (mTx μ) n 0 9 ((rnR (mTx μ) n 0 3 (p) nu).2.1) ((rnR (mTx μ) n 0 3 (p) nu).2.2)).2.2, cm, (rnR (mTx μ) n 0 3 (p) nu).2.2, (rnR (mTx μ) n 0 9 ((rnR (mTx μ) n 0 3 (p) nu).2.1) ((rnR (mTx μ) n 0 3 (p) nu).2.2)).2.2) := by rw [rsR, ha, rsB, if_pos ⟨hb_10, hc_72, hc_80⟩, hb2, hb_97]
              exact pT_mk (c := false) (by rw [hx]) (Or.inr ⟨rfl, rfl⟩) (by rw [hx])
        · refine g_iload_n C dX4_readsNumbers_83 rfl rfl ?_
          refine g_zret C R0 rfl dX4_readsNumbers_84 ?_
          have ha : rs1 (mTx μ) n cm p nu = (rnR (mTx μ) n 0 3 (p) nu) := by rw [rs1, if_pos hc_4]
          have hx : (rsR (mTx μ) n cm p nu se) = (true, (rnR (mTx μ) n 0 3 (p) nu).2.1, (rnR (mTx μ) n 0 3 (p) nu).2.2, cm, (rnR (mTx μ) n 0 3 (p) nu).2.2, se) := by rw [rsR, ha, rsB, if_neg (fun z => z.2.2 hc_80), hb_10]
          exact pT_mk (c := true) (by rw [hx]) (Or.inl ⟨rfl, rfl⟩) (by rw [hx])
    · refine g_goto C (tgt := 54) dX4_readsNumbers_13 (by decide) ?_
      refine g_istore_n C dX4_readsNumbers_54 rfl (Nat.le_of_ble_eq_true rfl) rfl ?_
      refine g_aload_n C dX4_readsNumbers_55 rfl rfl ?_
      refine g_aload_n C dX4_readsNumbers_56 rfl rfl ?_
      refine g_get C inX4 0 rfl rfl 12 (by decide) f146 rfl dX4_readsNumbers_57 ?_
      refine g_put C (ws' := (modT E m b μ ((rnR (mTx μ) n 0 3 (p) nu).2.1) ((rnR (mTx μ) n 0 3 (p) nu).2.2) cm ((rnR (mTx μ) n 0 3 (p) nu).2.2) se)) inX4 (ty := .int) tyX4 tyX4_ok nmX4 0 rfl rfl 14 (by decide) f155 rfl (by decide +kernel) rfl rfl (Nat.le_of_ble_eq_true rfl) dX4_readsNumbers_60 rfl ?_
      refine g_iload_n C dX4_readsNumbers_63 rfl rfl ?_
      refine g_if_eq_t C dX4_readsNumbers_64 (tgt := 83) (by decide) (by decide) ?_
      refine g_iload_n C dX4_readsNumbers_83 rfl rfl ?_
      refine g_zret C R0 rfl dX4_readsNumbers_84 ?_
      have ha : rs1 (mTx μ) n cm p nu = (rnR (mTx μ) n 0 3 (p) nu) := by rw [rs1, if_pos hc_4]
      have hx : (rsR (mTx μ) n cm p nu se) = (false, (rnR (mTx μ) n 0 3 (p) nu).2.1, (rnR (mTx μ) n 0 3 (p) nu).2.2, cm, (rnR (mTx μ) n 0 3 (p) nu).2.2, se) := by rw [rsR, ha, rsB, if_neg (fun z => absurd z.1 (by rw [hb_10]; decide)), hb_10]
      exact pT_mk (c := false) (by rw [hx]) (Or.inr ⟨rfl, rfl⟩) (by rw [hx])
set_option maxHeartbeats 4000000 in
set_option maxRecDepth 100000 in
theorem c_X4_readsCommand (E : Ev) (m : Nat) (b : Nat → Nat) (μ : MD) (n p : Nat) (hn : n ≤ 80) (hTL : mTL μ = nI n) (hp : p ≤ n) (nu cm fi se : Int32) : MI E yX4_readsCommand wsX4_readsCommand (rmD 5) (modT E m b μ (p) nu cm fi se) [.ref m] (pT (rcX (mTx μ) n p nu cm fi se).1 (modT E m b μ (rcX (mTx μ) n p nu cm fi se).2.1 (rcX (mTx μ) n p nu cm fi se).2.2.1 (rcX (mTx μ) n p nu cm fi se).2.2.2.1 (rcX (mTx μ) n p nu cm fi se).2.2.2.2.1 (rcX (mTx μ) n p nu cm fi se).2.2.2.2.2)) := by
  have inX4 : ∀ w ∈ u_ws RX4 TX4 16, w ∈ wsX4_readsCommand := by decide +kernel
  have f149 : Cond.fieldLink RX4 149 (TX4 13).1 (TX4 13).2.1 (TX4 13).2.2.1 ∈ wsX4_readsCommand := by decide +kernel
  have k161 : Cond.constantLong RX4 161 (27769) ∈ wsX4_readsCommand := by decide +kernel
  have k171 : Cond.constantLong RX4 171 (6644068) ∈ wsX4_readsCommand := by decide +kernel
  have k173 : Cond.constantLong RX4 173 (6644084) ∈ wsX4_readsCommand := by decide +kernel
  have k175 : Cond.constantLong RX4 175 (1919513701) ∈ wsX4_readsCommand := by decide +kernel
  have k177 : Cond.constantLong RX4 177 (6909540) ∈ wsX4_readsCommand := by decide +kernel
  refine MI.of (cc := cX4_readsCommand) (nL := 1) (ty := .boolean) (own := RX4) [some (.ref m)] (by decide +kernel) rfl rfl (Nat.le_of_ble_eq_true rfl) rfl rfl ?_
  intro x C R0
  refine g_aload_n C dX4_readsCommand_0 rfl rfl ?_
  refine g_bipush C (v := 102) dX4_readsCommand_1 rfl ?_
  refine g_calliVF C 0 rfl rfl (c_X4_takes E m b μ n (p) hn hTL (by omega) nu cm fi se _) cf_X4_takes gX4_readsCommand_X4_takes rfl (fitD (Nat.le_of_ble_eq_true rfl) (Nat.le_of_ble_eq_true rfl)) rfl rfl (Nat.le_of_ble_eq_true rfl) dX4_readsCommand_3 (fun r1 w1 hp9 => ?_)
  obtain ⟨hb_3, rfl, rfl⟩ | ⟨hb_3, rfl, rfl⟩ := hp9
  · have hq_3 : p + 1 ≤ n := hb_3.1
    refine g_if_eq_f C dX4_readsCommand_6 37 (by decide) (by decide) ?_
    refine g_aload_n C dX4_readsCommand_9 rfl rfl ?_
    refine g_iconst C (v := 0) dX4_readsCommand_10 rfl ?_
    refine g_put C (ws' := (modT E m b μ (p + 1) nu 0 fi se)) inX4 (ty := .int) tyX4 tyX4_ok nmX4 0 rfl rfl 13 (by decide) f149 rfl (by decide +kernel) rfl rfl (Nat.le_of_ble_eq_true rfl) dX4_readsCommand_11 rfl ?_
    refine g_aload_n C dX4_readsCommand_14 rfl rfl ?_
    refine g_ldc2 C k161 dX4_readsCommand_15 ?_
    have hle_18 := rlP_le (tx := (mTx μ)) (n := n) [0, 0, 0, 108, 121] (p + 1) (by omega)
    refine g_calliVF C 0 rfl rfl (c_X4_readsLetters_27769 E m b μ n (p + 1) hn hTL (by omega) nu 0 fi se) cf_X4_readsLetters gX4_readsCommand_X4_readsLetters rfl (fitD (Nat.le_of_ble_eq_true rfl) (Nat.le_of_ble_eq_true rfl)) rfl rfl (Nat.le_of_ble_eq_true rfl) dX4_readsCommand_18 (fun r1 w1 hp9 => ?_)
    obtain ⟨⟨hb_18, rfl⟩ | ⟨hb_18, rfl⟩, rfl⟩ := hp9
    · refine g_if_eq_f C dX4_readsCommand_21 35 (by decide) (by decide) ?_
      refine g_aload_n C dX4_readsCommand_24 rfl rfl ?_
      refine g_calliVF C 0 rfl rfl (c_X4_readsNumbers E m b μ n ((rlP (mTx μ) n [0, 0, 0, 108, 121] (p + 1)).2) hn hTL (by omega) nu 0 fi se) cf_X4_readsNumbers gX4_readsCommand_X4_readsNumbers rfl (fitD (Nat.le_of_ble_eq_true rfl) (Nat.le_of_ble_eq_true rfl)) rfl rfl (Nat.le_of_ble_eq_true rfl) dX4_readsCommand_25 (fun r1 w1 hp9 => ?_)
      obtain ⟨⟨hb_25, rfl⟩ | ⟨hb_25, rfl⟩, rfl⟩ := hp9
      · refine g_if_eq_f C dX4_readsCommand_28 35 (by decide) (by decide) ?_
        refine g_iconst C (v := 1) dX4_readsCommand_31 rfl ?_
        refine g_goto C (tgt := 36) dX4_readsCommand_32 (by decide) ?_
        refine g_zret C R0 rfl dX4_readsCommand_36 ?_
        have hx : (rcX (mTx μ) n p nu cm fi se) = (rsR (mTx μ) n 0 ((rlP (mTx μ) n [0, 0, 0, 108, 121] (p + 1)).2) nu se) := by rw [rcX, if_pos hb_3, rcB, if_pos hb_18]
        exact pT_mk (c := true) (by rw [hx]; exact hb_25) (Or.inl ⟨rfl, rfl⟩) (by rw [hx])
      · refine g_if_eq_t C dX4_readsCommand_28 (tgt := 35) (by decide) (by decide) ?_
        refine g_iconst C (v := 0) dX4_readsCommand_35 rfl ?_
        refine g_zret C R0 rfl dX4_readsCommand_36 ?_
        have hx : (rcX (mTx μ) n p nu cm fi se) = (rsR (mTx μ) n 0 ((rlP (mTx μ) n [0, 0, 0, 108, 121] (p + 1)).2) nu se) := by rw [rcX, if_pos hb_3, rcB, if_pos hb_18]
        exact pT_mk (c := false) (by rw [hx]; exact hb_25) (Or.inr ⟨rfl, rfl⟩) (by rw [hx])
    · refine g_if_eq_t C dX4_readsCommand_21 (tgt := 35) (by decide) (by decide) ?_
      refine g_iconst C (v := 0) dX4_readsCommand_35 rfl ?_
      refine g_zret C R0 rfl dX4_readsCommand_36 ?_
      have hx : (rcX (mTx μ) n p nu cm fi se) = (false, (rlP (mTx μ) n [0, 0, 0, 108, 121] (p + 1)).2, nu, 0, fi, se) := by rw [rcX, if_pos hb_3, rcB, if_neg (by rw [hb_18]; decide)]
      exact pT_mk (c := false) (by rw [hx]) (Or.inr ⟨rfl, rfl⟩) (by rw [hx])
  · refine g_if_eq_t C dX4_readsCommand_6 (tgt := 37) (by decide) (by decide) ?_
    refine g_aload_n C dX4_readsCommand_37 rfl rfl ?_
    refine g_bipush C (v := 114) dX4_readsCommand_38 rfl ?_
    refine g_calliVF C 0 rfl rfl (c_X4_takes E m b μ n (p) hn hTL (by omega) nu cm fi se _) cf_X4_takes gX4_readsCommand_X4_takes rfl (fitD (Nat.le_of_ble_eq_true rfl) (Nat.le_of_ble_eq_true rfl)) rfl rfl (Nat.le_of_ble_eq_true rfl) dX4_readsCommand_40 (fun r1 w1 hp9 => ?_)
    obtain ⟨hb_40, rfl, rfl⟩ | ⟨hb_40, rfl, rfl⟩ := hp9
    · have hq_40 : p + 1 ≤ n := hb_40.1
      refine g_if_eq_f C dX4_readsCommand_43 74 (by decide) (by decide) ?_
      refine g_aload_n C dX4_readsCommand_46 rfl rfl ?_
      refine g_iconst C (v := 1) dX4_readsCommand_47 rfl ?_
      refine g_put C (ws' := (modT E m b μ (p + 1) nu 1 fi se)) inX4 (ty := .int) tyX4 tyX4_ok nmX4 0 rfl rfl 13 (by decide) f149 rfl (by decide +kernel) rfl rfl (Nat.le_of_ble_eq_true rfl) dX4_readsCommand_48 rfl ?_
      refine g_aload_n C dX4_readsCommand_51 rfl rfl ?_
      refine g_ldc2 C k171 dX4_readsCommand_52 ?_
      have hle_55 := rlP_le (tx := (mTx μ)) (n := n) [0, 0, 101, 97, 100] (p + 1) (by omega)
      refine g_calliVF C 0 rfl rfl (c_X4_readsLetters_6644068 E m b μ n (p + 1) hn hTL (by omega) nu 1 fi se) cf_X4_readsLetters gX4_readsCommand_X4_readsLetters rfl (fitD (Nat.le_of_ble_eq_true rfl) (Nat.le_of_ble_eq_true rfl)) rfl rfl (Nat.le_of_ble_eq_true rfl) dX4_readsCommand_55 (fun r1 w1 hp9 => ?_)
      obtain ⟨⟨hb_55, rfl⟩ | ⟨hb_55, rfl⟩, rfl⟩ := hp9
      · refine g_if_eq_f C dX4_readsCommand_58 72 (by decide) (by decide) ?_
        refine g_aload_n C dX4_readsCommand_61 rfl rfl ?_
        refine g_calliVF C 0 rfl rfl (c_X4_readsNumbers E m b μ n ((rlP (mTx μ) n [0, 0, 101, 97, 100] (p + 1)).2) hn hTL (by omega) nu 1 fi se) cf_X4_readsNumbers gX4_readsCommand_X4_readsNumbers rfl (fitD (Nat.le_of_ble_eq_true rfl) (Nat.le_of_ble_eq_true rfl)) rfl rfl (Nat.le_of_ble_eq_true rfl) dX4_readsCommand_62 (fun r1 w1 hp9 => ?_)
        obtain ⟨⟨hb_62, rfl⟩ | ⟨hb_62, rfl⟩, rfl⟩ := hp9
        · refine g_if_eq_f C dX4_readsCommand_65 72 (by decide) (by decide) ?_
          refine g_iconst C (v := 1) dX4_readsCommand_68 rfl ?_
          refine g_goto C (tgt := 73) dX4_readsCommand_69 (by decide) ?_
          refine g_zret C R0 rfl dX4_readsCommand_73 ?_
          have hx : (rcX (mTx μ) n p nu cm fi se) = (rsR (mTx μ) n 1 ((rlP (mTx μ) n [0, 0, 101, 97, 100] (p + 1)).2) nu se) := by rw [rcX, if_neg hb_3, if_pos hb_40, rcB, if_pos hb_55]
          exact pT_mk (c := true) (by rw [hx]; exact hb_62) (Or.inl ⟨rfl, rfl⟩) (by rw [hx])
        · refine g_if_eq_t C dX4_readsCommand_65 (tgt := 72) (by decide) (by decide) ?_
          refine g_iconst C (v := 0) dX4_readsCommand_72 rfl ?_
          refine g_zret C R0 rfl dX4_readsCommand_73 ?_
          have hx : (rcX (mTx μ) n p nu cm fi se) = (rsR (mTx μ) n 1 ((rlP (mTx μ) n [0, 0, 101, 97, 100] (p + 1)).2) nu se) := by rw [rcX, if_neg hb_3, if_pos hb_40, rcB, if_pos hb_55]
          exact pT_mk (c := false) (by rw [hx]; exact hb_62) (Or.inr ⟨rfl, rfl⟩) (by rw [hx])
      · refine g_if_eq_t C dX4_readsCommand_58 (tgt := 72) (by decide) (by decide) ?_
        refine g_iconst C (v := 0) dX4_readsCommand_72 rfl ?_
        refine g_zret C R0 rfl dX4_readsCommand_73 ?_
        have hx : (rcX (mTx μ) n p nu cm fi se) = (false, (rlP (mTx μ) n [0, 0, 101, 97, 100] (p + 1)).2, nu, 1, fi, se) := by rw [rcX, if_neg hb_3, if_pos hb_40, rcB, if_neg (by rw [hb_55]; decide)]
        exact pT_mk (c := false) (by rw [hx]) (Or.inr ⟨rfl, rfl⟩) (by rw [hx])
    · refine g_if_eq_t C dX4_readsCommand_43 (tgt := 74) (by decide) (by decide) ?_
      refine g_aload_n C dX4_readsCommand_74 rfl rfl ?_
      refine g_bipush C (v := 98) dX4_readsCommand_75 rfl ?_
      refine g_calliVF C 0 rfl rfl (c_X4_takes E m b μ n (p) hn hTL (by omega) nu cm fi se _) cf_X4_takes gX4_readsCommand_X4_takes rfl (fitD (Nat.le_of_ble_eq_true rfl) (Nat.le_of_ble_eq_true rfl)) rfl rfl (Nat.le_of_ble_eq_true rfl) dX4_readsCommand_77 (fun r1 w1 hp9 => ?_)
      obtain ⟨hb_77, rfl, rfl⟩ | ⟨hb_77, rfl, rfl⟩ := hp9
      · have hq_77 : p + 1 ≤ n := hb_77.1
        refine g_if_eq_f C dX4_readsCommand_80 111 (by decide) (by decide) ?_
        refine g_aload_n C dX4_readsCommand_83 rfl rfl ?_
        refine g_iconst C (v := 3) dX4_readsCommand_84 rfl ?_
        refine g_put C (ws' := (modT E m b μ (p + 1) nu 3 fi se)) inX4 (ty := .int) tyX4 tyX4_ok nmX4 0 rfl rfl 13 (by decide) f149 rfl (by decide +kernel) rfl rfl (Nat.le_of_ble_eq_true rfl) dX4_readsCommand_85 rfl ?_
        refine g_aload_n C dX4_readsCommand_88 rfl rfl ?_
        refine g_ldc2 C k173 dX4_readsCommand_89 ?_
        have hle_92 := rlP_le (tx := (mTx μ)) (n := n) [0, 0, 101, 97, 116] (p + 1) (by omega)
        refine g_calliVF C 0 rfl rfl (c_X4_readsLetters_6644084 E m b μ n (p + 1) hn hTL (by omega) nu 3 fi se) cf_X4_readsLetters gX4_readsCommand_X4_readsLetters rfl (fitD (Nat.le_of_ble_eq_true rfl) (Nat.le_of_ble_eq_true rfl)) rfl rfl (Nat.le_of_ble_eq_true rfl) dX4_readsCommand_92 (fun r1 w1 hp9 => ?_)
        obtain ⟨⟨hb_92, rfl⟩ | ⟨hb_92, rfl⟩, rfl⟩ := hp9
        · refine g_if_eq_f C dX4_readsCommand_95 109 (by decide) (by decide) ?_
          refine g_aload_n C dX4_readsCommand_98 rfl rfl ?_
          refine g_calliVF C 0 rfl rfl (c_X4_readsNumbers E m b μ n ((rlP (mTx μ) n [0, 0, 101, 97, 116] (p + 1)).2) hn hTL (by omega) nu 3 fi se) cf_X4_readsNumbers gX4_readsCommand_X4_readsNumbers rfl (fitD (Nat.le_of_ble_eq_true rfl) (Nat.le_of_ble_eq_true rfl)) rfl rfl (Nat.le_of_ble_eq_true rfl) dX4_readsCommand_99 (fun r1 w1 hp9 => ?_)
          obtain ⟨⟨hb_99, rfl⟩ | ⟨hb_99, rfl⟩, rfl⟩ := hp9
          · refine g_if_eq_f C dX4_readsCommand_102 109 (by decide) (by decide) ?_
            refine g_iconst C (v := 1) dX4_readsCommand_105 rfl ?_
            refine g_goto C (tgt := 110) dX4_readsCommand_106 (by decide) ?_
            refine g_zret C R0 rfl dX4_readsCommand_110 ?_
            have hx : (rcX (mTx μ) n p nu cm fi se) = (rsR (mTx μ) n 3 ((rlP (mTx μ) n [0, 0, 101, 97, 116] (p + 1)).2) nu se) := by rw [rcX, if_neg hb_3, if_neg hb_40, if_pos hb_77, rcB, if_pos hb_92]
            exact pT_mk (c := true) (by rw [hx]; exact hb_99) (Or.inl ⟨rfl, rfl⟩) (by rw [hx])
          · refine g_if_eq_t C dX4_readsCommand_102 (tgt := 109) (by decide) (by decide) ?_
            refine g_iconst C (v := 0) dX4_readsCommand_109 rfl ?_
            refine g_zret C R0 rfl dX4_readsCommand_110 ?_
            have hx : (rcX (mTx μ) n p nu cm fi se) = (rsR (mTx μ) n 3 ((rlP (mTx μ) n [0, 0, 101, 97, 116] (p + 1)).2) nu se) := by rw [rcX, if_neg hb_3, if_neg hb_40, if_pos hb_77, rcB, if_pos hb_92]
            exact pT_mk (c := false) (by rw [hx]; exact hb_99) (Or.inr ⟨rfl, rfl⟩) (by rw [hx])
        · refine g_if_eq_t C dX4_readsCommand_95 (tgt := 109) (by decide) (by decide) ?_
          refine g_iconst C (v := 0) dX4_readsCommand_109 rfl ?_
          refine g_zret C R0 rfl dX4_readsCommand_110 ?_
          have hx : (rcX (mTx μ) n p nu cm fi se) = (false, (rlP (mTx μ) n [0, 0, 101, 97, 116] (p + 1)).2, nu, 3, fi, se) := by rw [rcX, if_neg hb_3, if_neg hb_40, if_pos hb_77, rcB, if_neg (by rw [hb_92]; decide)]
          exact pT_mk (c := false) (by rw [hx]) (Or.inr ⟨rfl, rfl⟩) (by rw [hx])
      · refine g_if_eq_t C dX4_readsCommand_80 (tgt := 111) (by decide) (by decide) ?_
        refine g_aload_n C dX4_readsCommand_111 rfl rfl ?_
        refine g_bipush C (v := 119) dX4_readsCommand_112 rfl ?_
        refine g_calliVF C 0 rfl rfl (c_X4_takes E m b μ n (p) hn hTL (by omega) nu cm fi se _) cf_X4_takes gX4_readsCommand_X4_takes rfl (fitD (Nat.le_of_ble_eq_true rfl) (Nat.le_of_ble_eq_true rfl)) rfl rfl (Nat.le_of_ble_eq_true rfl) dX4_readsCommand_114 (fun r1 w1 hp9 => ?_)
        obtain ⟨hb_114, rfl, rfl⟩ | ⟨hb_114, rfl, rfl⟩ := hp9
        · have hq_114 : p + 1 ≤ n := hb_114.1
          refine g_if_ne_t C dX4_readsCommand_117 (tgt := 122) (by decide) (by decide) ?_
          refine g_aload_n C dX4_readsCommand_122 rfl rfl ?_
          refine g_aload_n C dX4_readsCommand_123 rfl rfl ?_
          refine g_bipush C (v := 114) dX4_readsCommand_124 rfl ?_
          refine g_bipush C (v := 114) dX4_readsCommand_126 rfl ?_
          refine g_calliVF C 0 rfl rfl (c_X4_isHere E m b μ n (p + 1) hn hTL (by omega) nu cm fi se _ _) cf_X4_isHere gX4_readsCommand_X4_isHere rfl (fitD (Nat.le_of_ble_eq_true rfl) (Nat.le_of_ble_eq_true rfl)) rfl rfl (Nat.le_of_ble_eq_true rfl) dX4_readsCommand_128 (fun r1 w1 hp => ?_)
          obtain ⟨⟨hb_128, rfl⟩ | ⟨hb_128, rfl⟩, rfl⟩ := hp
          · refine g_if_eq_f C dX4_readsCommand_131 138 (by decide) (by decide) ?_
            refine g_iconst C (v := 2) dX4_readsCommand_134 rfl ?_
            refine g_goto C (tgt := 139) dX4_readsCommand_135 (by decide) ?_
            refine g_put C (ws' := (modT E m b μ (p + 1) nu 2 fi se)) inX4 (ty := .int) tyX4 tyX4_ok nmX4 0 rfl rfl 13 (by decide) f149 rfl (by decide +kernel) rfl rfl (Nat.le_of_ble_eq_true rfl) dX4_readsCommand_139 rfl ?_
            refine g_aload_n C dX4_readsCommand_142 rfl rfl ?_
            refine g_aload_n C dX4_readsCommand_143 rfl rfl ?_
            refine g_get C inX4 0 rfl rfl 13 (by decide) f149 rfl dX4_readsCommand_144 ?_
            refine g_iconst C (v := 2) dX4_readsCommand_147 rfl ?_
            refine g_icmp_ne_f C dX4_readsCommand_148 157 (by decide) (by decide) ?_
            refine g_ldc2 C k175 dX4_readsCommand_151 ?_
            refine g_goto C (tgt := 160) dX4_readsCommand_154 (by decide) ?_
            have hle_160 := rlP_le (tx := (mTx μ)) (n := n) [0, 114, 105, 116, 101] (p + 1) (by omega)
            refine g_calliVF C 0 rfl rfl (c_X4_readsLetters_1919513701 E m b μ n (p + 1) hn hTL (by omega) nu 2 fi se) cf_X4_readsLetters gX4_readsCommand_X4_readsLetters rfl (fitD (Nat.le_of_ble_eq_true rfl) (Nat.le_of_ble_eq_true rfl)) rfl rfl (Nat.le_of_ble_eq_true rfl) dX4_readsCommand_160 (fun r1 w1 hp9 => ?_)
            obtain ⟨⟨hb_160, rfl⟩ | ⟨hb_160, rfl⟩, rfl⟩ := hp9
            · refine g_if_eq_f C dX4_readsCommand_163 177 (by decide) (by decide) ?_
              refine g_aload_n C dX4_readsCommand_166 rfl rfl ?_
              refine g_calliVF C 0 rfl rfl (c_X4_readsNumbers E m b μ n ((rlP (mTx μ) n [0, 114, 105, 116, 101] (p + 1)).2) hn hTL (by omega) nu 2 fi se) cf_X4_readsNumbers gX4_readsCommand_X4_readsNumbers rfl (fitD (Nat.le_of_ble_eq_true rfl) (Nat.le_of_ble_eq_true rfl)) rfl rfl (Nat.le_of_ble_eq_true rfl) dX4_readsCommand_167 (fun r1 w1 hp9 => ?_)
              obtain ⟨⟨hb_167, rfl⟩ | ⟨hb_167, rfl⟩, rfl⟩ := hp9
              · refine g_if_eq_f C dX4_readsCommand_170 177 (by decide) (by decide) ?_
                refine g_iconst C (v := 1) dX4_readsCommand_173 rfl ?_
                refine g_goto C (tgt := 178) dX4_readsCommand_174 (by decide) ?_
                refine g_zret C R0 rfl dX4_readsCommand_178 ?_
                have hx : (rcX (mTx μ) n p nu cm fi se) = (rsR (mTx μ) n 2 ((rlP (mTx μ) n [0, 114, 105, 116, 101] (p + 1)).2) nu se) := by rw [rcX, if_neg hb_3, if_neg hb_40, if_neg hb_77, if_pos hb_114, if_pos hb_128, rcB, if_pos hb_160]
                exact pT_mk (c := true) (by rw [hx]; exact hb_167) (Or.inl ⟨rfl, rfl⟩) (by rw [hx])
              · refine g_if_eq_t C dX4_readsCommand_170 (tgt := 177) (by decide) (by decide) ?_
                refine g_iconst C (v := 0) dX4_readsCommand_177 rfl ?_
                refine g_zret C R0 rfl dX4_readsCommand_178 ?_
                have hx : (rcX (mTx μ) n p nu cm fi se) = (rsR (mTx μ) n 2 ((rlP (mTx μ) n [0, 114, 105, 116, 101] (p + 1)).2) nu se) := by rw [rcX, if_neg hb_3, if_neg hb_40, if_neg hb_77, if_pos hb_114, if_pos hb_128, rcB, if_pos hb_160]
                exact pT_mk (c := false) (by rw [hx]; exact hb_167) (Or.inr ⟨rfl, rfl⟩) (by rw [hx])
            · refine g_if_eq_t C dX4_readsCommand_163 (tgt := 177) (by decide) (by decide) ?_
              refine g_iconst C (v := 0) dX4_readsCommand_177 rfl ?_
              refine g_zret C R0 rfl dX4_readsCommand_178 ?_
              have hx : (rcX (mTx μ) n p nu cm fi se) = (false, (rlP (mTx μ) n [0, 114, 105, 116, 101] (p + 1)).2, nu, 2, fi, se) := by rw [rcX, if_neg hb_3, if_neg hb_40, if_neg hb_77, if_pos hb_114, if_pos hb_128, rcB, if_neg (by rw [hb_160]; decide)]
              exact pT_mk (c := false) (by rw [hx]) (Or.inr ⟨rfl, rfl⟩) (by rw [hx])
          · refine g_if_eq_t C dX4_readsCommand_131 (tgt := 138) (by decide) (by decide) ?_
            refine g_iconst C (v := 4) dX4_readsCommand_138 rfl ?_
            refine g_put C (ws' := (modT E m b μ (p + 1) nu 4 fi se)) inX4 (ty := .int) tyX4 tyX4_ok nmX4 0 rfl rfl 13 (by decide) f149 rfl (by decide +kernel) rfl rfl (Nat.le_of_ble_eq_true rfl) dX4_readsCommand_139 rfl ?_
            refine g_aload_n C dX4_readsCommand_142 rfl rfl ?_
            refine g_aload_n C dX4_readsCommand_143 rfl rfl ?_
            refine g_get C inX4 0 rfl rfl 13 (by decide) f149 rfl dX4_readsCommand_144 ?_
            refine g_iconst C (v := 2) dX4_readsCommand_147 rfl ?_
            refine g_icmp_ne_t C dX4_readsCommand_148 (tgt := 157) (by decide) (by decide) ?_
            refine g_ldc2 C k177 dX4_readsCommand_157 ?_
            have hle_160 := rlP_le (tx := (mTx μ)) (n := n) [0, 0, 105, 110, 100] (p + 1) (by omega)
            refine g_calliVF C 0 rfl rfl (c_X4_readsLetters_6909540 E m b μ n (p + 1) hn hTL (by omega) nu 4 fi se) cf_X4_readsLetters gX4_readsCommand_X4_readsLetters rfl (fitD (Nat.le_of_ble_eq_true rfl) (Nat.le_of_ble_eq_true rfl)) rfl rfl (Nat.le_of_ble_eq_true rfl) dX4_readsCommand_160 (fun r1 w1 hp9 => ?_)
            obtain ⟨⟨hb_160, rfl⟩ | ⟨hb_160, rfl⟩, rfl⟩ := hp9
            · refine g_if_eq_f C dX4_readsCommand_163 177 (by decide) (by decide) ?_
              refine g_aload_n C dX4_readsCommand_166 rfl rfl ?_
              refine g_calliVF C 0 rfl rfl (c_X4_readsNumbers E m b μ n ((rlP (mTx μ) n [0, 0, 105, 110, 100] (p + 1)).2) hn hTL (by omega) nu 4 fi se) cf_X4_readsNumbers gX4_readsCommand_X4_readsNumbers rfl (fitD (Nat.le_of_ble_eq_true rfl) (Nat.le_of_ble_eq_true rfl)) rfl rfl (Nat.le_of_ble_eq_true rfl) dX4_readsCommand_167 (fun r1 w1 hp9 => ?_)
              obtain ⟨⟨hb_167, rfl⟩ | ⟨hb_167, rfl⟩, rfl⟩ := hp9
              · refine g_if_eq_f C dX4_readsCommand_170 177 (by decide) (by decide) ?_
                refine g_iconst C (v := 1) dX4_readsCommand_173 rfl ?_
                refine g_goto C (tgt := 178) dX4_readsCommand_174 (by decide) ?_
                refine g_zret C R0 rfl dX4_readsCommand_178 ?_
                have hx : (rcX (mTx μ) n p nu cm fi se) = (rsR (mTx μ) n 4 ((rlP (mTx μ) n [0, 0, 105, 110, 100] (p + 1)).2) nu se) := by rw [rcX, if_neg hb_3, if_neg hb_40, if_neg hb_77, if_pos hb_114, if_neg hb_128, rcB, if_pos hb_160]
                exact pT_mk (c := true) (by rw [hx]; exact hb_167) (Or.inl ⟨rfl, rfl⟩) (by rw [hx])
              · refine g_if_eq_t C dX4_readsCommand_170 (tgt := 177) (by decide) (by decide) ?_
                refine g_iconst C (v := 0) dX4_readsCommand_177 rfl ?_
                refine g_zret C R0 rfl dX4_readsCommand_178 ?_
                have hx : (rcX (mTx μ) n p nu cm fi se) = (rsR (mTx μ) n 4 ((rlP (mTx μ) n [0, 0, 105, 110, 100] (p + 1)).2) nu se) := by rw [rcX, if_neg hb_3, if_neg hb_40, if_neg hb_77, if_pos hb_114, if_neg hb_128, rcB, if_pos hb_160]
                exact pT_mk (c := false) (by rw [hx]; exact hb_167) (Or.inr ⟨rfl, rfl⟩) (by rw [hx])
            · refine g_if_eq_t C dX4_readsCommand_163 (tgt := 177) (by decide) (by decide) ?_
              refine g_iconst C (v := 0) dX4_readsCommand_177 rfl ?_
              refine g_zret C R0 rfl dX4_readsCommand_178 ?_
              have hx : (rcX (mTx μ) n p nu cm fi se) = (false, (rlP (mTx μ) n [0, 0, 105, 110, 100] (p + 1)).2, nu, 4, fi, se) := by rw [rcX, if_neg hb_3, if_neg hb_40, if_neg hb_77, if_pos hb_114, if_neg hb_128, rcB, if_neg (by rw [hb_160]; decide)]
              exact pT_mk (c := false) (by rw [hx]) (Or.inr ⟨rfl, rfl⟩) (by rw [hx])
        · refine g_if_ne_f C dX4_readsCommand_117 122 (by decide) (by decide) ?_
          refine g_iconst C (v := 0) dX4_readsCommand_120 rfl ?_
          refine g_zret C R0 rfl dX4_readsCommand_121 ?_
          have hx : (rcX (mTx μ) n p nu cm fi se) = (false, p, nu, cm, fi, se) := by rw [rcX, if_neg hb_3, if_neg hb_40, if_neg hb_77, if_neg hb_114]
          exact pT_mk (c := false) (by rw [hx]) (Or.inr ⟨rfl, rfl⟩) (by rw [hx])
def faF (tx : F) (n : Nat) : Nat → Nat → Int32 → Int32 → Int32 → Int32 → Int32
  | 0, _, _, _, _, _ => 0
  | f + 1, p, nu, cm, fi, se => if (rcX tx n p nu cm fi se).1 = true then (if here tx n (rcX tx n p nu cm fi se).2.1 59 59 then faF tx n f ((rcX tx n p nu cm fi se).2.1 + 1) (rcX tx n p nu cm fi se).2.2.1 (rcX tx n p nu cm fi se).2.2.2.1 (rcX tx n p nu cm fi se).2.2.2.2.1 (rcX tx n p nu cm fi se).2.2.2.2.2 else if (rcX tx n p nu cm fi se).2.1 = n then -10005 else nI (rcX tx n p nu cm fi se).2.1) else nI (rcX tx n p nu cm fi se).2.1
set_option maxHeartbeats 4000000 in
set_option maxRecDepth 100000 in
theorem c_X4_fault (E : Ev) (m : Nat) (b : Nat → Nat) (μ : MD) (n p : Nat) (hn : n ≤ 80) (hTL : mTL μ = nI n) (nu cm fi se : Int32) : MI E yX4_fault wsX4_fault (rmD 6) (modT E m b μ (p) nu cm fi se) [.ref m] (fun r w => r = (faF (mTx μ) n (n + 1) 0 nu cm fi se) ∧ ∃ (p2 : Nat) (n2 c2 f2 s2 : Int32), w = modT E m b μ p2 n2 c2 f2 s2) := by
  have inX4 : ∀ w ∈ u_ws RX4 TX4 16, w ∈ wsX4_fault := by decide +kernel
  have f135 : Cond.fieldLink RX4 135 (TX4 11).1 (TX4 11).2.1 (TX4 11).2.2.1 ∈ wsX4_fault := by decide +kernel
  have f132 : Cond.fieldLink RX4 132 (TX4 10).1 (TX4 10).2.1 (TX4 10).2.2.1 ∈ wsX4_fault := by decide +kernel
  refine MI.of (cc := cX4_fault) (nL := 2) (ty := .int) (own := RX4) [some (.ref m), none] (by decide +kernel) rfl rfl (Nat.le_of_ble_eq_true rfl) rfl rfl ?_
  intro x C R0
  have lp : ∀ (f q : Nat) (u c d e : Int32), q ≤ n → n - q < f → faF (mTx μ) n f q u c d e = (faF (mTx μ) n (n + 1) 0 nu cm fi se) → G E x (modT E m b μ (q) u c d e) [some (.ref m), some (.int 1)] 7 [] := by
    intro f
    induction f with
    | zero => intro q u c d e h1 h2; omega
    | succ f ih =>
      intro q u c d e hq hf hv
      refine g_iload_n C dX4_fault_7 rfl rfl ?_
      refine g_if_eq_f C dX4_fault_8 33 (by decide) (by decide) ?_
      refine g_aload_n C dX4_fault_11 rfl rfl ?_
      have hle_12 := rcX_le (tx := (mTx μ)) (n := n) (p := q) (nu := u) (cm := c) (fi := d) (se := e) (by omega)
      refine g_calliVF C 0 rfl rfl (c_X4_readsCommand E m b μ n (q) hn hTL (by omega) u c d e) cf_X4_readsCommand gX4_fault_X4_readsCommand rfl (fitD (Nat.le_of_ble_eq_true rfl) (Nat.le_of_ble_eq_true rfl)) rfl rfl (Nat.le_of_ble_eq_true rfl) dX4_fault_12 (fun r1 w1 hp9 => ?_)
      obtain ⟨⟨hb_12, rfl⟩ | ⟨hb_12, rfl⟩, rfl⟩ := hp9
      · refine g_if_ne_t C dX4_fault_15 (tgt := 23) (by decide) (by decide) ?_
        refine g_aload_n C dX4_fault_23 rfl rfl ?_
        refine g_bipush C (v := 59) dX4_fault_24 rfl ?_
        refine g_calliVF C 0 rfl rfl (c_X4_takes E m b μ n ((rcX (mTx μ) n (q) u c d e).2.1) hn hTL (by omega) ((rcX (mTx μ) n (q) u c d e).2.2.1) ((rcX (mTx μ) n (q) u c d e).2.2.2.1) ((rcX (mTx μ) n (q) u c d e).2.2.2.2.1) ((rcX (mTx μ) n (q) u c d e).2.2.2.2.2) _) cf_X4_takes gX4_fault_X4_takes rfl (fitD (Nat.le_of_ble_eq_true rfl) (Nat.le_of_ble_eq_true rfl)) rfl rfl (Nat.le_of_ble_eq_true rfl) dX4_fault_26 (fun r1 w1 hp9 => ?_)
        obtain ⟨hb_26, rfl, rfl⟩ | ⟨hb_26, rfl, rfl⟩ := hp9
        · have hq_26 : (rcX (mTx μ) n (q) u c d e).2.1 + 1 ≤ n := hb_26.1
          refine g_istore_n C dX4_fault_29 rfl (Nat.le_of_ble_eq_true rfl) rfl ?_
          refine g_goto C (tgt := 7) dX4_fault_30 (by decide) ?_
          rw [faF, if_pos hb_12, if_pos hb_26] at hv
          exact ih _ _ _ _ _ (by omega) (by omega) hv
        · refine g_istore_n C dX4_fault_29 rfl (Nat.le_of_ble_eq_true rfl) rfl ?_
          refine g_goto C (tgt := 7) dX4_fault_30 (by decide) ?_
          refine g_iload_n C dX4_fault_7 rfl rfl ?_
          refine g_if_eq_t C dX4_fault_8 (tgt := 33) (by decide) (by decide) ?_
          refine g_aload_n C dX4_fault_33 rfl rfl ?_
          refine g_get C inX4 0 rfl rfl 11 (by decide) f135 rfl dX4_fault_34 ?_
          refine g_aload_n C dX4_fault_37 rfl rfl ?_
          refine g_get C inX4 0 rfl rfl 10 (by decide) f132 rfl dX4_fault_38 ?_
          refine g_icmp_ne C (tgt := 50) dX4_fault_41 (by decide) (fun hc_41 => ?_) (fun hc_41 => ?_)
          · have hpe : ¬ (rcX (mTx μ) n (q) u c d e).2.1 = n := fun z => hc_41 (show nI (rcX (mTx μ) n (q) u c d e).2.1 = mTL μ from by rw [z, hTL])
            refine g_aload_n C dX4_fault_50 rfl rfl ?_
            refine g_get C inX4 0 rfl rfl 11 (by decide) f135 rfl dX4_fault_51 ?_
            refine g_iret C R0 dX4_fault_54 ?_
            rw [faF, if_pos hb_12, if_neg hb_26, if_neg hpe] at hv
            exact ⟨hv, _, _, _, _, _, rfl⟩
          · have hpe : (rcX (mTx μ) n (q) u c d e).2.1 = n := (nI_eq (by omega) (by omega)).mp ((show nI (rcX (mTx μ) n (q) u c d e).2.1 = mTL μ from hc_41).trans hTL)
            refine g_sipush C (v := (-10005)) dX4_fault_44 rfl ?_
            refine g_goto C (tgt := 54) dX4_fault_47 (by decide) ?_
            refine g_iret C R0 dX4_fault_54 ?_
            rw [faF, if_pos hb_12, if_neg hb_26, if_pos hpe] at hv
            exact ⟨hv, _, _, _, _, _, rfl⟩
      · refine g_if_ne_f C dX4_fault_15 23 (by decide) (by decide) ?_
        refine g_aload_n C dX4_fault_18 rfl rfl ?_
        refine g_get C inX4 0 rfl rfl 11 (by decide) f135 rfl dX4_fault_19 ?_
        refine g_iret C R0 dX4_fault_22 ?_
        rw [faF, if_neg (by rw [hb_12]; decide)] at hv
        exact ⟨hv, _, _, _, _, _, rfl⟩
  refine g_aload_n C dX4_fault_0 rfl rfl ?_
  refine g_iconst C (v := 0) dX4_fault_1 rfl ?_
  refine g_put C (ws' := (modT E m b μ (0) nu cm fi se)) inX4 (ty := .int) tyX4 tyX4_ok nmX4 0 rfl rfl 11 (by decide) f135 rfl (by decide +kernel) rfl rfl (Nat.le_of_ble_eq_true rfl) dX4_fault_2 rfl ?_
  refine g_iconst C (v := 1) dX4_fault_5 rfl ?_
  refine g_istore_n C dX4_fault_6 rfl (Nat.le_of_ble_eq_true rfl) rfl ?_
  exact lp (n + 1) 0 _ _ _ _ (by omega) (by omega) rfl
