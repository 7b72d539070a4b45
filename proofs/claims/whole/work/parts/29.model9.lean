def undoM (μ : MD) (nh : Nat) : Int32 × MD := if nh = 0 then (-10005, μ) else (nI (nh - 1), wAl (wHL μ (nI (nh - 1))) (mHi μ (nh - 1)))
theorem un_ext {hi : Nat → MS} {n : Nat} : ∀ k, k < 92 → pkH hi (92 * n + k) = pk (hi n) k := by
  intro k hk
  unfold pkH
  rw [show (92 * n + k) / 92 = n from by omega, show (92 * n + k) % 92 = k from by omega]
def unF (f : F) (g : F) (n i : Nat) : F := fun k => if k < i then g (92 * n + k) else f k
theorem un_up {f g : F} {n i : Nat} : upd (unF f g n i) i (g (92 * n + i)) = unF f g n (i + 1) := by
  funext k
  by_cases e : k = i
  · subst e; rw [pk_us]; unfold unF; rw [if_pos (by omega)]
  · rw [pk_un e]; unfold unF
    by_cases h : k < i
    · rw [if_pos h, if_pos (by omega)]
    · rw [if_neg h, if_neg (by omega)]
theorem un_0 {f g : F} {n : Nat} : unF f g n 0 = f := by
  funext k; unfold unF; rw [if_neg (by omega)]
set_option maxHeartbeats 4000000 in
set_option maxRecDepth 100000 in
theorem c_X4_undo (E : Ev) (m : Nat) (b : Nat → Nat) (μ : MD) (nh : Nat) (hnh : nh ≤ 4) (hHL : mHL μ = nI nh) : MI E yX4_undo wsX4_undo (rmD 0) (modW E m b μ) [.ref m] (pM E m b (undoM μ nh)) := by
  have inX4 : ∀ w ∈ u_ws RX4 TX4 16, w ∈ wsX4_undo := by decide +kernel
  have f39 : Cond.fieldLink RX4 39 (TX4 4).1 (TX4 4).2.1 (TX4 4).2.2.1 ∈ wsX4_undo := by decide +kernel
  have f7 : Cond.fieldLink RX4 7 (TX4 0).1 (TX4 0).2.1 (TX4 0).2.2.1 ∈ wsX4_undo := by decide +kernel
  have f19 : Cond.fieldLink RX4 19 (TX4 3).1 (TX4 3).2.1 (TX4 3).2.2.1 ∈ wsX4_undo := by decide +kernel
  refine MI.of (cc := cX4_undo) (nL := 2) (ty := .int) (own := RX4) [some (.ref m), none] (by decide +kernel) rfl rfl (Nat.le_of_ble_eq_true rfl) rfl rfl ?_
  intro x C R0
  rcases nh with _ | g
  · skip
    refine g_aload_n C dX4_undo_0 rfl rfl ?_
    refine g_get C inX4 0 rfl rfl 4 (by decide) f39 rfl dX4_undo_1 ?_
    refine g_if_ne_f C dX4_undo_4 11 (by decide) hHL ?_
    refine g_sipush C (v := (-10005)) dX4_undo_7 rfl ?_
    refine g_iret C R0 dX4_undo_10 ?_
    refine pM_mk (μ := μ) ?_ rfl
    rw [undoM, if_pos rfl]
  · have hne : ¬ mHL μ = 0 := by rw [hHL]; exact nI_ne0 (by omega) (by omega)
    have lp : ∀ (n i : Nat), 92 - i < n → i ≤ 92 → G E x ((modW E m b (wHL μ (nI g))).set 1 (b 0, .inl (E.2.2 0, 92, .inl (unF (pk (mAl μ)) (pkH (mHi μ)) g i)))) [some (.ref m), some (.int (nI i))] 23 [] := by
      intro n
      induction n with
      | zero => intro i h1; omega
      | succ n ih =>
        intro i hn hi
        refine g_iload_n C dX4_undo_23 rfl rfl ?_
        refine g_bipush C (v := 92) dX4_undo_24 rfl ?_
        refine g_icmp_ge C (tgt := 55) dX4_undo_26 (by decide) (fun hc_26 => ?_) (fun hc_26 => ?_)
        · have hn_26 : (92) ≤ (i) := (nI_leI (a := (92)) (b := (i)) (by omega) (by omega)).mp hc_26
          have e92 : i = 92 := by omega
          subst e92
          refine g_wext (wEq_set (Or.inr ⟨_, _, _, pk (mHi μ g), rfl, rfl, fun k hk => by unfold unF; rw [if_pos hk]; exact un_ext k hk⟩)) ?_
          refine g_eq (ws' := modW E m b (wAl (wHL μ (nI g)) (mHi μ g))) rfl rfl rfl ?_
          refine g_aload_n C dX4_undo_55 rfl rfl ?_
          refine g_get C inX4 0 rfl rfl 4 (by decide) f39 rfl dX4_undo_56 ?_
          refine g_iret C R0 dX4_undo_59 ?_
          refine pM_mk (μ := (wAl (wHL μ (nI g)) (mHi μ g))) ?_ rfl
          rw [undoM, if_neg (by omega)] <;> rfl
        · have hn_26 : ¬ (92) ≤ (i) := fun z => hc_26 ((nI_leI (a := (92)) (b := (i)) (by omega) (by omega)).mpr z)
          refine g_aload_n C dX4_undo_29 rfl rfl ?_
          refine g_get C inX4 0 rfl rfl 0 (by decide) f7 rfl dX4_undo_30 ?_
          refine g_iload_n C dX4_undo_33 rfl rfl ?_
          refine g_aload_n C dX4_undo_34 rfl rfl ?_
          refine g_get C inX4 0 rfl rfl 3 (by decide) f19 rfl dX4_undo_35 ?_
          refine g_bipush C (v := 92) dX4_undo_38 rfl ?_
          refine g_aload_n C dX4_undo_40 rfl rfl ?_
          refine g_get C inX4 0 rfl rfl 4 (by decide) f39 rfl dX4_undo_41 ?_
          refine g_imul C dX4_undo_44 ?_
          refine g_iload_n C dX4_undo_45 rfl rfl ?_
          refine g_iadd C dX4_undo_46 ?_
          refine g_iald C 4 rfl (92 * g + i) (by exact (by rw [show (92 : Int32) = nI 92 from rfl, pk_mul, nI_add] : (92 : Int32) * nI g + nI i = nI (92 * g + i))) (by omega) (Nat.le_of_ble_eq_true rfl) dX4_undo_47 ?_
          refine g_iast C (ws' := ((modW E m b (wHL μ (nI g))).set 1 (b 0, .inl (E.2.2 0, 92, .inl (unF (pk (mAl μ)) (pkH (mHi μ)) g (i + 1)))))) 1 rfl (i) rfl (by omega) (Nat.le_of_ble_eq_true rfl) dX4_undo_48 (by rw [List.set_set]; exact set_cf un_up) ?_
          refine g_iinc C (v := (nI (i + 1))) dX4_undo_49 rfl rfl (nI_add (i) 1) ?_
          refine g_goto C (tgt := 23) dX4_undo_52 (by decide) ?_
          exact ih (i + 1) (by omega) (by omega)
    refine g_aload_n C dX4_undo_0 rfl rfl ?_
    refine g_get C inX4 0 rfl rfl 4 (by decide) f39 rfl dX4_undo_1 ?_
    refine g_if_ne_t C dX4_undo_4 (tgt := 11) (by decide) hne ?_
    refine g_aload_n C dX4_undo_11 rfl rfl ?_
    refine g_dup C dX4_undo_12 rfl ?_
    refine g_get C inX4 0 rfl rfl 4 (by decide) f39 rfl dX4_undo_13 ?_
    refine g_iconst C (v := 1) dX4_undo_16 rfl ?_
    refine g_isub C dX4_undo_17 ?_
    rw [show ((mHL μ) - 1) = nI g from by rw [hHL]; exact nI_pred g]
    refine g_put C (ws' := (modW E m b (wHL μ (nI g)))) inX4 (ty := .int) tyX4 tyX4_ok nmX4 0 rfl rfl 4 (by decide) f39 rfl (by decide +kernel) rfl rfl (Nat.le_of_ble_eq_true rfl) dX4_undo_18 rfl ?_
    refine g_iconst C (v := 0) dX4_undo_21 rfl ?_
    refine g_istore_n C dX4_undo_22 rfl (Nat.le_of_ble_eq_true rfl) rfl ?_
    refine g_eq (ws' := ((modW E m b (wHL μ (nI g))).set 1 (b 0, .inl (E.2.2 0, 92, .inl (unF (pk (mAl μ)) (pkH (mHi μ)) g 0))))) (by rw [un_0] <;> rfl) rfl rfl ?_
    exact lp 93 0 (by omega) (by omega)
def cntM (μ : MD) (e : Nat) (w : Int32) : Int32 := if w = 0 then many4 (gSt μ) else if w = 1 then gBe μ else if w = 2 then gWi μ e else if w = 3 then gRs μ else if w = 4 then gCt μ else if w = 5 then sumN (fOF (gSt μ) (gFr μ)) 12 else if w = 6 then (if ghO (gSt μ) (gHt μ) 12 = -10005 then 0 else ghO (gSt μ) (gHt μ) 12) else if w = 7 then sumN (wAlF (gSt μ) (gHt μ)) 4 else if w = 8 then gCh μ else if w = 9 then gSi μ else if w = 10 then gBs μ else if w = 11 then mHL μ else if w = 12 then mTL μ else -10002
set_option maxHeartbeats 4000000 in
set_option maxRecDepth 100000 in
theorem c_X4_count (E : Ev) (m : Nat) (b : Nat → Nat) (μ : MD) (e : Nat) (he : e < 8) (hbe : gBe μ = nI e) (w : Int32) : MI E yX4_count wsX4_count (rmD 4) (modW E m b μ) [.ref m, .int w] (pE (cntM μ e w) (modW E m b μ)) := by
  have inX4 : ∀ w ∈ u_ws RX4 TX4 16, w ∈ wsX4_count := by decide +kernel
  have f7 : Cond.fieldLink RX4 7 (TX4 0).1 (TX4 0).2.1 (TX4 0).2.2.1 ∈ wsX4_count := by decide +kernel
  have f39 : Cond.fieldLink RX4 39 (TX4 4).1 (TX4 4).2.1 (TX4 4).2.2.1 ∈ wsX4_count := by decide +kernel
  have f132 : Cond.fieldLink RX4 132 (TX4 10).1 (TX4 10).2.1 (TX4 10).2.2.1 ∈ wsX4_count := by decide +kernel
  refine MI.of (cc := cX4_count) (nL := 3) (ty := .int) (own := RX4) [some (.ref m), some (.int w), none] (by decide +kernel) rfl rfl (Nat.le_of_ble_eq_true rfl) rfl rfl ?_
  intro x C R0
  refine g_iload_n C dX4_count_0 rfl rfl ?_
  by_cases hc_1_0 : w = 0
  · have he_1 : (w).toInt = 0 := by rw [hc_1_0]; rfl
    refine g_tableIn C (tgt := 68) dX4_count_1 (by rw [he_1]; decide) (by rw [he_1]; decide) (by rw [he_1]; rfl) (by decide) ?_
    refine g_aload_n C dX4_count_68 rfl rfl ?_
    refine g_calliVF C 0 rfl rfl (c_X4_many E m b μ) cf_X4_many gX4_count_X4_many rfl (fitD (Nat.le_of_ble_eq_true rfl) (Nat.le_of_ble_eq_true rfl)) rfl rfl (Nat.le_of_ble_eq_true rfl) dX4_count_69 (fun r1 w1 hp => ?_)
    obtain ⟨rfl, rfl⟩ := hp
    refine g_iret C R0 dX4_count_72 ?_
    refine pE_mk ?_ rfl
    rw [cntM, if_pos hc_1_0]
  · skip
    by_cases hc_1_1 : w = 1
    · have he_1 : (w).toInt = 1 := by rw [hc_1_1]; rfl
      refine g_tableIn C (tgt := 73) dX4_count_1 (by rw [he_1]; decide) (by rw [he_1]; decide) (by rw [he_1]; rfl) (by decide) ?_
      refine g_aload_n C dX4_count_73 rfl rfl ?_
      refine g_get C inX4 0 rfl rfl 0 (by decide) f7 rfl dX4_count_74 ?_
      refine g_iconst C (v := 2) dX4_count_77 rfl ?_
      refine g_ialdE C 1 rfl 2 (v := (gBe μ)) rfl (by decide) (Nat.le_of_ble_eq_true rfl) pk_Be dX4_count_78 ?_
      refine g_iret C R0 dX4_count_79 ?_
      refine pE_mk ?_ rfl
      rw [cntM, if_neg hc_1_0, if_pos hc_1_1]
    · skip
      by_cases hc_1_2 : w = 2
      · have he_1 : (w).toInt = 2 := by rw [hc_1_2]; rfl
        refine g_tableIn C (tgt := 80) dX4_count_1 (by rw [he_1]; decide) (by rw [he_1]; decide) (by rw [he_1]; rfl) (by decide) ?_
        refine g_aload_n C dX4_count_80 rfl rfl ?_
        refine g_calliVF C 0 rfl rfl (c_X4_windNow E m b μ e he hbe) cf_X4_windNow gX4_count_X4_windNow rfl (fitD (Nat.le_of_ble_eq_true rfl) (Nat.le_of_ble_eq_true rfl)) rfl rfl (Nat.le_of_ble_eq_true rfl) dX4_count_81 (fun r1 w1 hp => ?_)
        obtain ⟨rfl, rfl⟩ := hp
        refine g_iret C R0 dX4_count_84 ?_
        refine pE_mk ?_ rfl
        rw [cntM, if_neg hc_1_0, if_neg hc_1_1, if_pos hc_1_2]
      · skip
        by_cases hc_1_3 : w = 3
        · have he_1 : (w).toInt = 3 := by rw [hc_1_3]; rfl
          refine g_tableIn C (tgt := 85) dX4_count_1 (by rw [he_1]; decide) (by rw [he_1]; decide) (by rw [he_1]; rfl) (by decide) ?_
          refine g_aload_n C dX4_count_85 rfl rfl ?_
          refine g_get C inX4 0 rfl rfl 0 (by decide) f7 rfl dX4_count_86 ?_
          refine g_iconst C (v := 3) dX4_count_89 rfl ?_
          refine g_iload_n C dX4_count_90 rfl rfl ?_
          refine g_iadd C dX4_count_91 ?_
          refine g_iconst C (v := 3) dX4_count_92 rfl ?_
          refine g_isub C dX4_count_93 ?_
          rw [show ((3 + w) - 3) = 3 from by rw [hc_1_3]; rfl]
          refine g_ialdE C 1 rfl 3 (v := (gRs μ)) rfl (by decide) (Nat.le_of_ble_eq_true rfl) pk_Rs dX4_count_94 ?_
          refine g_iret C R0 dX4_count_95 ?_
          refine pE_mk ?_ rfl
          rw [cntM, if_neg hc_1_0, if_neg hc_1_1, if_neg hc_1_2, if_pos hc_1_3]
        · skip
          by_cases hc_1_4 : w = 4
          · have he_1 : (w).toInt = 4 := by rw [hc_1_4]; rfl
            refine g_tableIn C (tgt := 85) dX4_count_1 (by rw [he_1]; decide) (by rw [he_1]; decide) (by rw [he_1]; rfl) (by decide) ?_
            refine g_aload_n C dX4_count_85 rfl rfl ?_
            refine g_get C inX4 0 rfl rfl 0 (by decide) f7 rfl dX4_count_86 ?_
            refine g_iconst C (v := 3) dX4_count_89 rfl ?_
            refine g_iload_n C dX4_count_90 rfl rfl ?_
            refine g_iadd C dX4_count_91 ?_
            refine g_iconst C (v := 3) dX4_count_92 rfl ?_
            refine g_isub C dX4_count_93 ?_
            rw [show ((3 + w) - 3) = 4 from by rw [hc_1_4]; rfl]
            refine g_ialdE C 1 rfl 4 (v := (gCt μ)) rfl (by decide) (Nat.le_of_ble_eq_true rfl) pk_Ct dX4_count_94 ?_
            refine g_iret C R0 dX4_count_95 ?_
            refine pE_mk ?_ rfl
            rw [cntM, if_neg hc_1_0, if_neg hc_1_1, if_neg hc_1_2, if_neg hc_1_3, if_pos hc_1_4]
          · skip
            by_cases hc_1_5 : w = 5
            · have he_1 : (w).toInt = 5 := by rw [hc_1_5]; rfl
              refine g_tableIn C (tgt := 96) dX4_count_1 (by rw [he_1]; decide) (by rw [he_1]; decide) (by rw [he_1]; rfl) (by decide) ?_
              refine g_aload_n C dX4_count_96 rfl rfl ?_
              refine g_calliVF C 0 rfl rfl (c_X4_freshOnes E m b μ) cf_X4_freshOnes gX4_count_X4_freshOnes rfl (fitD (Nat.le_of_ble_eq_true rfl) (Nat.le_of_ble_eq_true rfl)) rfl rfl (Nat.le_of_ble_eq_true rfl) dX4_count_97 (fun r1 w1 hp => ?_)
              obtain ⟨rfl, rfl⟩ := hp
              refine g_iret C R0 dX4_count_100 ?_
              refine pE_mk ?_ rfl
              rw [cntM, if_neg hc_1_0, if_neg hc_1_1, if_neg hc_1_2, if_neg hc_1_3, if_neg hc_1_4, if_pos hc_1_5]
            · skip
              by_cases hc_1_6 : w = 6
              · have he_1 : (w).toInt = 6 := by rw [hc_1_6]; rfl
                refine g_tableIn C (tgt := 101) dX4_count_1 (by rw [he_1]; decide) (by rw [he_1]; decide) (by rw [he_1]; rfl) (by decide) ?_
                refine g_aload_n C dX4_count_101 rfl rfl ?_
                refine g_calliVF C 0 rfl rfl (c_X4_greatestHeight E m b μ) cf_X4_greatestHeight gX4_count_X4_greatestHeight rfl (fitD (Nat.le_of_ble_eq_true rfl) (Nat.le_of_ble_eq_true rfl)) rfl rfl (Nat.le_of_ble_eq_true rfl) dX4_count_102 (fun r1 w1 hp => ?_)
                obtain ⟨rfl, rfl⟩ := hp
                refine g_istore_n C dX4_count_105 rfl (Nat.le_of_ble_eq_true rfl) rfl ?_
                refine g_iload_n C dX4_count_106 rfl rfl ?_
                refine g_sipush C (v := (-10005)) dX4_count_107 rfl ?_
                refine g_icmp_ne C (tgt := 117) dX4_count_110 (by decide) (fun hc_110 => ?_) (fun hc_110 => ?_)
                · refine g_iload_n C dX4_count_117 rfl rfl ?_
                  refine g_iret C R0 dX4_count_118 ?_
                  refine pE_mk ?_ rfl
                  rw [cntM, if_neg hc_1_0, if_neg hc_1_1, if_neg hc_1_2, if_neg hc_1_3, if_neg hc_1_4, if_neg hc_1_5, if_pos hc_1_6, if_neg hc_110]
                · refine g_iconst C (v := 0) dX4_count_113 rfl ?_
                  refine g_goto C (tgt := 118) dX4_count_114 (by decide) ?_
                  refine g_iret C R0 dX4_count_118 ?_
                  refine pE_mk ?_ rfl
                  rw [cntM, if_neg hc_1_0, if_neg hc_1_1, if_neg hc_1_2, if_neg hc_1_3, if_neg hc_1_4, if_neg hc_1_5, if_pos hc_1_6, if_pos hc_110]
              · skip
                by_cases hc_1_7 : w = 7
                · have he_1 : (w).toInt = 7 := by rw [hc_1_7]; rfl
                  refine g_tableIn C (tgt := 119) dX4_count_1 (by rw [he_1]; decide) (by rw [he_1]; decide) (by rw [he_1]; rfl) (by decide) ?_
                  refine g_aload_n C dX4_count_119 rfl rfl ?_
                  refine g_calliVF C 0 rfl rfl (c_X4_allWeights E m b μ) cf_X4_allWeights gX4_count_X4_allWeights rfl (fitD (Nat.le_of_ble_eq_true rfl) (Nat.le_of_ble_eq_true rfl)) rfl rfl (Nat.le_of_ble_eq_true rfl) dX4_count_120 (fun r1 w1 hp => ?_)
                  obtain ⟨rfl, rfl⟩ := hp
                  refine g_iret C R0 dX4_count_123 ?_
                  refine pE_mk ?_ rfl
                  rw [cntM, if_neg hc_1_0, if_neg hc_1_1, if_neg hc_1_2, if_neg hc_1_3, if_neg hc_1_4, if_neg hc_1_5, if_neg hc_1_6, if_pos hc_1_7]
                · skip
                  by_cases hc_1_8 : w = 8
                  · have he_1 : (w).toInt = 8 := by rw [hc_1_8]; rfl
                    refine g_tableIn C (tgt := 124) dX4_count_1 (by rw [he_1]; decide) (by rw [he_1]; decide) (by rw [he_1]; rfl) (by decide) ?_
                    refine g_aload_n C dX4_count_124 rfl rfl ?_
                    refine g_get C inX4 0 rfl rfl 0 (by decide) f7 rfl dX4_count_125 ?_
                    refine g_iload_n C dX4_count_128 rfl rfl ?_
                    refine g_bipush C (v := 8) dX4_count_129 rfl ?_
                    refine g_isub C dX4_count_131 ?_
                    rw [show (w - 8) = 0 from by rw [hc_1_8]; rfl]
                    refine g_ialdE C 1 rfl 0 (v := (gCh μ)) rfl (by decide) (Nat.le_of_ble_eq_true rfl) pk_Ch dX4_count_132 ?_
                    refine g_iret C R0 dX4_count_133 ?_
                    refine pE_mk ?_ rfl
                    rw [cntM, if_neg hc_1_0, if_neg hc_1_1, if_neg hc_1_2, if_neg hc_1_3, if_neg hc_1_4, if_neg hc_1_5, if_neg hc_1_6, if_neg hc_1_7, if_pos hc_1_8]
                  · skip
                    by_cases hc_1_9 : w = 9
                    · have he_1 : (w).toInt = 9 := by rw [hc_1_9]; rfl
                      refine g_tableIn C (tgt := 124) dX4_count_1 (by rw [he_1]; decide) (by rw [he_1]; decide) (by rw [he_1]; rfl) (by decide) ?_
                      refine g_aload_n C dX4_count_124 rfl rfl ?_
                      refine g_get C inX4 0 rfl rfl 0 (by decide) f7 rfl dX4_count_125 ?_
                      refine g_iload_n C dX4_count_128 rfl rfl ?_
                      refine g_bipush C (v := 8) dX4_count_129 rfl ?_
                      refine g_isub C dX4_count_131 ?_
                      rw [show (w - 8) = 1 from by rw [hc_1_9]; rfl]
                      refine g_ialdE C 1 rfl 1 (v := (gSi μ)) rfl (by decide) (Nat.le_of_ble_eq_true rfl) pk_Si dX4_count_132 ?_
                      refine g_iret C R0 dX4_count_133 ?_
                      refine pE_mk ?_ rfl
                      rw [cntM, if_neg hc_1_0, if_neg hc_1_1, if_neg hc_1_2, if_neg hc_1_3, if_neg hc_1_4, if_neg hc_1_5, if_neg hc_1_6, if_neg hc_1_7, if_neg hc_1_8, if_pos hc_1_9]
                    · skip
                      by_cases hc_1_10 : w = 10
                      · have he_1 : (w).toInt = 10 := by rw [hc_1_10]; rfl
                        refine g_tableIn C (tgt := 134) dX4_count_1 (by rw [he_1]; decide) (by rw [he_1]; decide) (by rw [he_1]; rfl) (by decide) ?_
                        refine g_aload_n C dX4_count_134 rfl rfl ?_
                        refine g_get C inX4 0 rfl rfl 0 (by decide) f7 rfl dX4_count_135 ?_
                        refine g_iconst C (v := 5) dX4_count_138 rfl ?_
                        refine g_ialdE C 1 rfl 5 (v := (gBs μ)) rfl (by decide) (Nat.le_of_ble_eq_true rfl) pk_Bs dX4_count_139 ?_
                        refine g_iret C R0 dX4_count_140 ?_
                        refine pE_mk ?_ rfl
                        rw [cntM, if_neg hc_1_0, if_neg hc_1_1, if_neg hc_1_2, if_neg hc_1_3, if_neg hc_1_4, if_neg hc_1_5, if_neg hc_1_6, if_neg hc_1_7, if_neg hc_1_8, if_neg hc_1_9, if_pos hc_1_10]
                      · skip
                        by_cases hc_1_11 : w = 11
                        · have he_1 : (w).toInt = 11 := by rw [hc_1_11]; rfl
                          refine g_tableIn C (tgt := 141) dX4_count_1 (by rw [he_1]; decide) (by rw [he_1]; decide) (by rw [he_1]; rfl) (by decide) ?_
                          refine g_aload_n C dX4_count_141 rfl rfl ?_
                          refine g_get C inX4 0 rfl rfl 4 (by decide) f39 rfl dX4_count_142 ?_
                          refine g_iret C R0 dX4_count_145 ?_
                          refine pE_mk ?_ rfl
                          rw [cntM, if_neg hc_1_0, if_neg hc_1_1, if_neg hc_1_2, if_neg hc_1_3, if_neg hc_1_4, if_neg hc_1_5, if_neg hc_1_6, if_neg hc_1_7, if_neg hc_1_8, if_neg hc_1_9, if_neg hc_1_10, if_pos hc_1_11]
                        · skip
                          by_cases hc_1_12 : w = 12
                          · have he_1 : (w).toInt = 12 := by rw [hc_1_12]; rfl
                            refine g_tableIn C (tgt := 146) dX4_count_1 (by rw [he_1]; decide) (by rw [he_1]; decide) (by rw [he_1]; rfl) (by decide) ?_
                            refine g_aload_n C dX4_count_146 rfl rfl ?_
                            refine g_get C inX4 0 rfl rfl 10 (by decide) f132 rfl dX4_count_147 ?_
                            refine g_iret C R0 dX4_count_150 ?_
                            refine pE_mk ?_ rfl
                            rw [cntM, if_neg hc_1_0, if_neg hc_1_1, if_neg hc_1_2, if_neg hc_1_3, if_neg hc_1_4, if_neg hc_1_5, if_neg hc_1_6, if_neg hc_1_7, if_neg hc_1_8, if_neg hc_1_9, if_neg hc_1_10, if_neg hc_1_11, if_pos hc_1_12]
                          · skip
                            refine g_tableOut C (tgt := 151) dX4_count_1 (sw_out13 hc_1_0 hc_1_1 hc_1_2 hc_1_3 hc_1_4 hc_1_5 hc_1_6 hc_1_7 hc_1_8 hc_1_9 hc_1_10 hc_1_11 hc_1_12) (by decide) ?_
                            refine g_sipush C (v := (-10002)) dX4_count_151 rfl ?_
                            refine g_iret C R0 dX4_count_154 ?_
                            refine pE_mk ?_ rfl
                            rw [cntM, if_neg hc_1_0, if_neg hc_1_1, if_neg hc_1_2, if_neg hc_1_3, if_neg hc_1_4, if_neg hc_1_5, if_neg hc_1_6, if_neg hc_1_7, if_neg hc_1_8, if_neg hc_1_9, if_neg hc_1_10, if_neg hc_1_11, if_neg hc_1_12]
