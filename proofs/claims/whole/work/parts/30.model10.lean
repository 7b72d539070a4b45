abbrev qOf (τ : MS) (j : Nat) : Nat := (sSt τ.1 j).toNatClampNeg
abbrev eOf (τ : MS) : Nat := τ.2.1.toNatClampNeg
def coT (τ : MS) (cm fi se : Int32) : Int32 × MS :=
  if cm = 0 then (if freeM (sSt τ.1) < 12 then (0, mFly τ fi se (freeM (sSt τ.1))) else (-10003, τ))
  else if cm = 1 then (if isKm (sSt τ.1) fi then (0, mRead τ fi.toNatClampNeg (qOf τ fi.toNatClampNeg) (sWi τ.1 (eOf τ))) else (-10001, τ))
  else if cm = 2 then (if isKm (sSt τ.1) fi then (0, mWrite τ fi.toNatClampNeg se) else (-10001, τ))
  else if cm = 3 then (0, mBeatN τ fi.toNatClampNeg)
  else (0, vWi τ fi.toNatClampNeg se)
/-- what a reading of kite j wants of the state -/
def okR (τ : MS) (j : Nat) : Prop := qOf τ j < 4 ∧ sSt τ.1 j = nI (qOf τ j) ∧ eOf τ < 8 ∧ τ.2.1 = nI (eOf τ) ∧ hR τ j (sWi τ.1 (eOf τ))
def okC (τ : MS) (cm fi : Int32) : Prop := (cm = 0 → ∀ k, k < 12 → sSt τ.1 k = -10005 → hL τ k fi 0) ∧ (cm = 1 → isKm (sSt τ.1) fi → okR τ fi.toNatClampNeg) ∧ (cm = 3 → ∃ t, t ≤ 100 ∧ fi = nI t ∧ hBt τ t) ∧ (¬ cm = 0 → ¬ cm = 1 → ¬ cm = 2 → ¬ cm = 3 → ∃ t, t < 8 ∧ fi = nI t)
theorem behi_nI {q : Nat} (h : q < 4) : behi (nI q) = nI ((q + 1) % 4) := by
  unfold behi
  rw [nI_1, show (4 : Int32) = nI 4 from rfl, pk_rem (by omega) (by omega) (by omega)]
theorem mRises_St2 {τ : MS} {j q : Nat} {w : Int32} : sSt (mRises τ j q w).1 j = sSt τ.1 j ∨ sSt (mRises τ j q w).1 j = behi (sSt τ.1 j) := by
  unfold mRises
  split
  · exact Or.inr pk_us
  · exact Or.inl pk_us
theorem isKm_read {τ : MS} {j q : Nat} {w : Int32} (hj : j < 12) (hq : q < 4) (hs : sSt τ.1 j = nI q) : isKm (sSt (mRead τ j q w).1) (nI j) := by
  refine (isKm_nI hj).mpr ?_
  have e : sSt (mRead τ j q w).1 j = sSt (mRises τ j q w).1 j := rfl
  rw [e]
  rcases mRises_St2 (τ := τ) (j := j) (q := q) (w := w) with h | h
  · rw [h, hs]; exact nI_neN (by omega)
  · rw [h, hs, behi_nI hq]; exact nI_neN (by omega)
theorem flyMR_Al {μ : MD} {s n : Int32} : (flyMR μ s n).2 = wAl μ (mAl (flyMR μ s n).2) := by
  unfold flyMR; split <;> rfl
theorem nI_ne3 {p : Nat} (h : p < 2 ^ 31) : ¬ nI p = -10003 := by
  intro z
  have := congrArg Int32.toInt z
  rw [nI_toInt h] at this
  have e : (-10003 : Int32).toInt = -10003 := by decide
  omega
set_option maxHeartbeats 4000000 in
set_option maxRecDepth 100000 in
theorem c_X4_carriesOut (E : Ev) (m : Nat) (b : Nat → Nat) (μ : MD) (ok : okC (mAl μ) (mCm μ) (mFi μ)) : MI E yX4_carriesOut wsX4_carriesOut (rmD 6) (modW E m b μ) [.ref m] (pM E m b ((coT (mAl μ) (mCm μ) (mFi μ) (mSe μ)).1, wAl μ (coT (mAl μ) (mCm μ) (mFi μ) (mSe μ)).2)) := by
  have inX4 : ∀ w ∈ u_ws RX4 TX4 16, w ∈ wsX4_carriesOut := by decide +kernel
  have f149 : Cond.fieldLink RX4 149 (TX4 13).1 (TX4 13).2.1 (TX4 13).2.2.1 ∈ wsX4_carriesOut := by decide +kernel
  have f155 : Cond.fieldLink RX4 155 (TX4 14).1 (TX4 14).2.1 (TX4 14).2.2.1 ∈ wsX4_carriesOut := by decide +kernel
  have f158 : Cond.fieldLink RX4 158 (TX4 15).1 (TX4 15).2.1 (TX4 15).2.2.1 ∈ wsX4_carriesOut := by decide +kernel
  have f7 : Cond.fieldLink RX4 7 (TX4 0).1 (TX4 0).2.1 (TX4 0).2.2.1 ∈ wsX4_carriesOut := by decide +kernel
  refine MI.of (cc := cX4_carriesOut) (nL := 2) (ty := .int) (own := RX4) [some (.ref m), none] (by decide +kernel) rfl rfl (Nat.le_of_ble_eq_true rfl) rfl rfl ?_
  intro x C R0
  obtain ⟨ok0, ok1, ok3, ok4⟩ := ok
  refine g_iconst C (v := 0) dX4_carriesOut_0 rfl ?_
  refine g_istore_n C dX4_carriesOut_1 rfl (Nat.le_of_ble_eq_true rfl) rfl ?_
  refine g_aload_n C dX4_carriesOut_2 rfl rfl ?_
  refine g_get C inX4 0 rfl rfl 13 (by decide) f149 rfl dX4_carriesOut_3 ?_
  by_cases hc_6_0 : (mCm μ) = 0
  · have he_6 : ((mCm μ)).toInt = 0 := by rw [hc_6_0]; rfl
    refine g_tableIn C (tgt := 36) dX4_carriesOut_6 (by rw [he_6]; decide) (by rw [he_6]; decide) (by rw [he_6]; rfl) (by decide) ?_
    refine g_aload_n C dX4_carriesOut_36 rfl rfl ?_
    refine g_aload_n C dX4_carriesOut_37 rfl rfl ?_
    refine g_get C inX4 0 rfl rfl 14 (by decide) f155 rfl dX4_carriesOut_38 ?_
    refine g_aload_n C dX4_carriesOut_41 rfl rfl ?_
    refine g_get C inX4 0 rfl rfl 15 (by decide) f158 rfl dX4_carriesOut_42 ?_
    refine g_calliVF C 0 rfl rfl (c_X4_doFly E m b μ (mFi μ) (mSe μ) (ok0 hc_6_0)) cf_X4_doFly gX4_carriesOut_X4_doFly rfl (fitD (Nat.le_of_ble_eq_true rfl) (Nat.le_of_ble_eq_true rfl)) rfl rfl (Nat.le_of_ble_eq_true rfl) dX4_carriesOut_45 (fun r1 w1 hp => ?_)
    obtain ⟨rfl, rfl⟩ := hp
    refine g_istore_n C dX4_carriesOut_48 rfl (Nat.le_of_ble_eq_true rfl) rfl ?_
    refine g_iload_n C dX4_carriesOut_49 rfl rfl ?_
    refine g_sipush C (v := (-10003)) dX4_carriesOut_50 rfl ?_
    refine g_icmp_ne C (tgt := 62) dX4_carriesOut_53 (by decide) (fun hc_53 => ?_) (fun hc_53 => ?_)
    · refine g_iconst C (v := 0) dX4_carriesOut_62 rfl ?_
      refine g_iret C R0 dX4_carriesOut_63 ?_
      have hz : coT (mAl μ) (mCm μ) (mFi μ) (mSe μ) = (0, mAl (flyMR μ (mFi μ) (mSe μ)).2) := by
        rw [coT, if_pos hc_6_0]
        have hx := hc_53
        unfold flyMR at hx ⊢
        split at hx
        · rename_i hy; rw [if_pos hy, if_pos hy] <;> rfl
        · rename_i hy; rw [if_neg hy, if_neg hy]; exact absurd rfl hx
      rw [hz]
      exact ⟨rfl, congrArg (modW E m b) flyMR_Al⟩
    · refine g_sipush C (v := (-10003)) dX4_carriesOut_56 rfl ?_
      refine g_goto C (tgt := 63) dX4_carriesOut_59 (by decide) ?_
      refine g_iret C R0 dX4_carriesOut_63 ?_
      have hz : coT (mAl μ) (mCm μ) (mFi μ) (mSe μ) = ((-10003), mAl (flyMR μ (mFi μ) (mSe μ)).2) := by
        rw [coT, if_pos hc_6_0]
        have hx := hc_53
        unfold flyMR at hx ⊢
        split at hx
        · rename_i hy; rw [if_pos hy, if_pos hy]; exact absurd hx (nI_ne3 (by omega))
        · rename_i hy; rw [if_neg hy, if_neg hy] <;> rfl
      rw [hz]
      exact ⟨rfl, congrArg (modW E m b) flyMR_Al⟩
  · skip
    by_cases hc_6_1 : (mCm μ) = 1
    · have he_6 : ((mCm μ)).toInt = 1 := by rw [hc_6_1]; rfl
      refine g_tableIn C (tgt := 64) dX4_carriesOut_6 (by rw [he_6]; decide) (by rw [he_6]; decide) (by rw [he_6]; rfl) (by decide) ?_
      refine g_aload_n C dX4_carriesOut_64 rfl rfl ?_
      refine g_aload_n C dX4_carriesOut_65 rfl rfl ?_
      refine g_get C inX4 0 rfl rfl 14 (by decide) f155 rfl dX4_carriesOut_66 ?_
      refine g_calliVF C 0 rfl rfl (c_X4_isKite E m b μ _) cf_X4_isKite gX4_carriesOut_X4_isKite rfl (fitD (Nat.le_of_ble_eq_true rfl) (Nat.le_of_ble_eq_true rfl)) rfl rfl (Nat.le_of_ble_eq_true rfl) dX4_carriesOut_69 (fun r1 w1 hp => ?_)
      obtain ⟨⟨hb_69, rfl⟩ | ⟨hb_69, rfl⟩, rfl⟩ := hp
      · obtain ⟨j, hj, ej⟩ := i32_of (n := 12) hb_69.1 hb_69.2.1 (by decide)
        have hcl : (nI j).toNatClampNeg = j := nI_clamp (by omega)
        have okr := ok1 hc_6_1 hb_69
        rw [ej, hcl] at okr
        obtain ⟨hq, hs, he, hbe, hr⟩ := okr
        refine g_if_eq_f C dX4_carriesOut_72 86 (by decide) (by decide) ?_
        refine g_aload_n C dX4_carriesOut_75 rfl rfl ?_
        refine g_aload_n C dX4_carriesOut_76 rfl rfl ?_
        refine g_get C inX4 0 rfl rfl 14 (by decide) f155 rfl dX4_carriesOut_77 ?_
        rw [show (mFi μ) = nI j from ej]
        refine g_calliVF C 0 rfl rfl (c_X4_doRead E m b μ j hj (qOf (mAl μ) j) hq hs (eOf (mAl μ)) he hbe hr) cf_X4_doRead gX4_carriesOut_X4_doRead rfl (fitD (Nat.le_of_ble_eq_true rfl) (Nat.le_of_ble_eq_true rfl)) rfl rfl (Nat.le_of_ble_eq_true rfl) dX4_carriesOut_80 (fun r1 w1 hp => ?_)
        obtain ⟨rfl, rfl⟩ := hp
        refine g_goto C (tgt := 89) dX4_carriesOut_83 (by decide) ?_
        refine g_istore_n C dX4_carriesOut_89 rfl (Nat.le_of_ble_eq_true rfl) rfl ?_
        refine g_aload_n C dX4_carriesOut_90 rfl rfl ?_
        refine g_aload_n C dX4_carriesOut_91 rfl rfl ?_
        refine g_get C inX4 0 rfl rfl 14 (by decide) f155 rfl dX4_carriesOut_92 ?_
        rw [show (mFi (xRead μ j (qOf (mAl μ) j) (gWi μ (eOf (mAl μ))))) = nI j from ej]
        refine g_calliVF C 0 rfl rfl (c_X4_isKite E m b (xRead μ j (qOf (mAl μ) j) (gWi μ (eOf (mAl μ)))) _) cf_X4_isKite gX4_carriesOut_X4_isKite rfl (fitD (Nat.le_of_ble_eq_true rfl) (Nat.le_of_ble_eq_true rfl)) rfl rfl (Nat.le_of_ble_eq_true rfl) dX4_carriesOut_95 (fun r1 w1 hp => ?_)
        obtain ⟨⟨hb_95, rfl⟩ | ⟨hb_95, rfl⟩, rfl⟩ := hp
        · refine g_if_eq_f C dX4_carriesOut_98 105 (by decide) (by decide) ?_
          refine g_iconst C (v := 0) dX4_carriesOut_101 rfl ?_
          refine g_goto C (tgt := 108) dX4_carriesOut_102 (by decide) ?_
          refine g_iret C R0 dX4_carriesOut_108 ?_
          refine pM_mk (X := ((coT (mAl μ) (mCm μ) (mFi μ) (mSe μ)).1, wAl μ (coT (mAl μ) (mCm μ) (mFi μ) (mSe μ)).2)) (μ := (xRead μ j (qOf (mAl μ) j) (gWi μ (eOf (mAl μ))))) ?_ rfl
          rw [coT, if_neg hc_6_0, if_pos hc_6_1, if_pos hb_69, ej, hcl] <;> rfl
        · exact absurd (isKm_read hj hq hs) hb_95
      · refine g_if_eq_t C dX4_carriesOut_72 (tgt := 86) (by decide) (by decide) ?_
        refine g_sipush C (v := (-10001)) dX4_carriesOut_86 rfl ?_
        refine g_istore_n C dX4_carriesOut_89 rfl (Nat.le_of_ble_eq_true rfl) rfl ?_
        refine g_aload_n C dX4_carriesOut_90 rfl rfl ?_
        refine g_aload_n C dX4_carriesOut_91 rfl rfl ?_
        refine g_get C inX4 0 rfl rfl 14 (by decide) f155 rfl dX4_carriesOut_92 ?_
        refine g_calliVF C 0 rfl rfl (c_X4_isKite E m b μ _) cf_X4_isKite gX4_carriesOut_X4_isKite rfl (fitD (Nat.le_of_ble_eq_true rfl) (Nat.le_of_ble_eq_true rfl)) rfl rfl (Nat.le_of_ble_eq_true rfl) dX4_carriesOut_95 (fun r1 w1 hp => ?_)
        obtain ⟨⟨hb_95, rfl⟩ | ⟨hb_95, rfl⟩, rfl⟩ := hp
        · exact absurd hb_95 hb_69
        · refine g_if_eq_t C dX4_carriesOut_98 (tgt := 105) (by decide) (by decide) ?_
          refine g_sipush C (v := (-10001)) dX4_carriesOut_105 rfl ?_
          refine g_iret C R0 dX4_carriesOut_108 ?_
          refine pM_mk (X := ((coT (mAl μ) (mCm μ) (mFi μ) (mSe μ)).1, wAl μ (coT (mAl μ) (mCm μ) (mFi μ) (mSe μ)).2)) (μ := μ) ?_ rfl
          rw [coT, if_neg hc_6_0, if_pos hc_6_1, if_neg hb_69] <;> rfl
    · skip
      by_cases hc_6_2 : (mCm μ) = 2
      · have he_6 : ((mCm μ)).toInt = 2 := by rw [hc_6_2]; rfl
        refine g_tableIn C (tgt := 109) dX4_carriesOut_6 (by rw [he_6]; decide) (by rw [he_6]; decide) (by rw [he_6]; rfl) (by decide) ?_
        refine g_aload_n C dX4_carriesOut_109 rfl rfl ?_
        refine g_aload_n C dX4_carriesOut_110 rfl rfl ?_
        refine g_get C inX4 0 rfl rfl 14 (by decide) f155 rfl dX4_carriesOut_111 ?_
        refine g_calliVF C 0 rfl rfl (c_X4_isKite E m b μ _) cf_X4_isKite gX4_carriesOut_X4_isKite rfl (fitD (Nat.le_of_ble_eq_true rfl) (Nat.le_of_ble_eq_true rfl)) rfl rfl (Nat.le_of_ble_eq_true rfl) dX4_carriesOut_114 (fun r1 w1 hp => ?_)
        obtain ⟨⟨hb_114, rfl⟩ | ⟨hb_114, rfl⟩, rfl⟩ := hp
        · obtain ⟨j, hj, ej⟩ := i32_of (n := 12) hb_114.1 hb_114.2.1 (by decide)
          have hcl : (nI j).toNatClampNeg = j := nI_clamp (by omega)
          refine g_if_eq_f C dX4_carriesOut_117 135 (by decide) (by decide) ?_
          refine g_aload_n C dX4_carriesOut_120 rfl rfl ?_
          refine g_aload_n C dX4_carriesOut_121 rfl rfl ?_
          refine g_get C inX4 0 rfl rfl 14 (by decide) f155 rfl dX4_carriesOut_122 ?_
          refine g_aload_n C dX4_carriesOut_125 rfl rfl ?_
          refine g_get C inX4 0 rfl rfl 15 (by decide) f158 rfl dX4_carriesOut_126 ?_
          rw [show (mFi μ) = nI j from ej]
          refine g_calliVF C 0 rfl rfl (c_X4_doWrite E m b μ j hj _) cf_X4_doWrite gX4_carriesOut_X4_doWrite rfl (fitD (Nat.le_of_ble_eq_true rfl) (Nat.le_of_ble_eq_true rfl)) rfl rfl (Nat.le_of_ble_eq_true rfl) dX4_carriesOut_129 (fun r1 w1 hp => ?_)
          obtain ⟨rfl, rfl⟩ := hp
          refine g_goto C (tgt := 138) dX4_carriesOut_132 (by decide) ?_
          refine g_istore_n C dX4_carriesOut_138 rfl (Nat.le_of_ble_eq_true rfl) rfl ?_
          refine g_aload_n C dX4_carriesOut_139 rfl rfl ?_
          refine g_aload_n C dX4_carriesOut_140 rfl rfl ?_
          refine g_get C inX4 0 rfl rfl 14 (by decide) f155 rfl dX4_carriesOut_141 ?_
          rw [show (mFi (xWrite μ j (mSe μ))) = nI j from ej]
          refine g_calliVF C 0 rfl rfl (c_X4_isKite E m b (xWrite μ j (mSe μ)) _) cf_X4_isKite gX4_carriesOut_X4_isKite rfl (fitD (Nat.le_of_ble_eq_true rfl) (Nat.le_of_ble_eq_true rfl)) rfl rfl (Nat.le_of_ble_eq_true rfl) dX4_carriesOut_144 (fun r1 w1 hp => ?_)
          obtain ⟨⟨hb_144, rfl⟩ | ⟨hb_144, rfl⟩, rfl⟩ := hp
          · refine g_if_eq_f C dX4_carriesOut_147 154 (by decide) (by decide) ?_
            refine g_iconst C (v := 0) dX4_carriesOut_150 rfl ?_
            refine g_goto C (tgt := 157) dX4_carriesOut_151 (by decide) ?_
            refine g_iret C R0 dX4_carriesOut_157 ?_
            refine pM_mk (X := ((coT (mAl μ) (mCm μ) (mFi μ) (mSe μ)).1, wAl μ (coT (mAl μ) (mCm μ) (mFi μ) (mSe μ)).2)) (μ := (xWrite μ j (mSe μ))) ?_ rfl
            rw [coT, if_neg hc_6_0, if_neg hc_6_1, if_pos hc_6_2, if_pos hb_114, ej, hcl] <;> rfl
          · exact absurd (show isKm (gSt μ) (nI j) from by rw [← ej]; exact hb_114) hb_144
        · refine g_if_eq_t C dX4_carriesOut_117 (tgt := 135) (by decide) (by decide) ?_
          refine g_sipush C (v := (-10001)) dX4_carriesOut_135 rfl ?_
          refine g_istore_n C dX4_carriesOut_138 rfl (Nat.le_of_ble_eq_true rfl) rfl ?_
          refine g_aload_n C dX4_carriesOut_139 rfl rfl ?_
          refine g_aload_n C dX4_carriesOut_140 rfl rfl ?_
          refine g_get C inX4 0 rfl rfl 14 (by decide) f155 rfl dX4_carriesOut_141 ?_
          refine g_calliVF C 0 rfl rfl (c_X4_isKite E m b μ _) cf_X4_isKite gX4_carriesOut_X4_isKite rfl (fitD (Nat.le_of_ble_eq_true rfl) (Nat.le_of_ble_eq_true rfl)) rfl rfl (Nat.le_of_ble_eq_true rfl) dX4_carriesOut_144 (fun r1 w1 hp => ?_)
          obtain ⟨⟨hb_144, rfl⟩ | ⟨hb_144, rfl⟩, rfl⟩ := hp
          · exact absurd hb_144 hb_114
          · refine g_if_eq_t C dX4_carriesOut_147 (tgt := 154) (by decide) (by decide) ?_
            refine g_sipush C (v := (-10001)) dX4_carriesOut_154 rfl ?_
            refine g_iret C R0 dX4_carriesOut_157 ?_
            refine pM_mk (X := ((coT (mAl μ) (mCm μ) (mFi μ) (mSe μ)).1, wAl μ (coT (mAl μ) (mCm μ) (mFi μ) (mSe μ)).2)) (μ := μ) ?_ rfl
            rw [coT, if_neg hc_6_0, if_neg hc_6_1, if_pos hc_6_2, if_neg hb_114] <;> rfl
      · skip
        by_cases hc_6_3 : (mCm μ) = 3
        · have he_6 : ((mCm μ)).toInt = 3 := by rw [hc_6_3]; rfl
          refine g_tableIn C (tgt := 158) dX4_carriesOut_6 (by rw [he_6]; decide) (by rw [he_6]; decide) (by rw [he_6]; rfl) (by decide) ?_
          obtain ⟨t, ht, et, hbt⟩ := ok3 hc_6_3
          refine g_aload_n C dX4_carriesOut_158 rfl rfl ?_
          refine g_aload_n C dX4_carriesOut_159 rfl rfl ?_
          refine g_get C inX4 0 rfl rfl 14 (by decide) f155 rfl dX4_carriesOut_160 ?_
          rw [show (mFi μ) = nI t from et]
          refine g_callvVF C 0 rfl rfl (c_X4_beats E m b μ t ht hbt) cf_X4_beats gX4_carriesOut_X4_beats rfl (fitD (Nat.le_of_ble_eq_true rfl) (Nat.le_of_ble_eq_true rfl)) rfl rfl (Nat.le_of_ble_eq_true rfl) dX4_carriesOut_163 (fun w1 hp => ?_)
          obtain rfl := hp
          refine g_iconst C (v := 0) dX4_carriesOut_166 rfl ?_
          refine g_iret C R0 dX4_carriesOut_167 ?_
          refine pM_mk (μ := (xBeatN μ t)) ?_ rfl
          rw [coT, if_neg hc_6_0, if_neg hc_6_1, if_neg hc_6_2, if_pos hc_6_3, et, nI_clamp (by omega)] <;> rfl
        · skip
          refine g_tableOut C (tgt := 168) dX4_carriesOut_6 (sw_out4 hc_6_0 hc_6_1 hc_6_2 hc_6_3) (by decide) ?_
          obtain ⟨t, ht, et⟩ := ok4 hc_6_0 hc_6_1 hc_6_2 hc_6_3
          refine g_aload_n C dX4_carriesOut_168 rfl rfl ?_
          refine g_get C inX4 0 rfl rfl 0 (by decide) f7 rfl dX4_carriesOut_169 ?_
          refine g_bipush C (v := 6) dX4_carriesOut_172 rfl ?_
          refine g_aload_n C dX4_carriesOut_174 rfl rfl ?_
          refine g_get C inX4 0 rfl rfl 14 (by decide) f155 rfl dX4_carriesOut_175 ?_
          refine g_iadd C dX4_carriesOut_178 ?_
          refine g_aload_n C dX4_carriesOut_179 rfl rfl ?_
          refine g_get C inX4 0 rfl rfl 15 (by decide) f158 rfl dX4_carriesOut_180 ?_
          refine g_iast C (ws' := (modW E m b (xWi μ (t) (mSe μ)))) 1 rfl (6 + t) (by rw [et]; exact nI_add 6 (t)) (by omega) (Nat.le_of_ble_eq_true rfl) dX4_carriesOut_183 (by rw [up_Wi (by omega)]; rfl) ?_
          refine g_iconst C (v := 0) dX4_carriesOut_184 rfl ?_
          refine g_iret C R0 dX4_carriesOut_185 ?_
          refine pM_mk (μ := (xWi μ (t) (mSe μ))) ?_ rfl
          rw [coT, if_neg hc_6_0, if_neg hc_6_1, if_neg hc_6_2, if_neg hc_6_3, et, nI_clamp (by omega)] <;> rfl
