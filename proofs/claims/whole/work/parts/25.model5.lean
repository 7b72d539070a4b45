def hoG (st ht : F) (s : Int32) : Nat → Option Nat → Option Nat → Int32
  | 0, fo, _ => optI fo
  | _ + 1, fo, none => optI fo
  | n + 1, _, some k => hoG st ht s n (some k) (nxU st ht s (ht k) 12)
def hoE (st ht : F) (s : Int32) : Nat → Option Nat → Prop
  | 0, ko => ko = none
  | _ + 1, none => True
  | n + 1, some k => hoE st ht s n (nxU st ht s (ht k) 12)
abbrev hiM (st ht : F) (s : Int32) : Int32 := hoG st ht s 12 none (nxU st ht s (-1) 12)
abbrev hHi (st ht : F) (s : Int32) : Prop := hoE st ht s 12 (nxU st ht s (-1) 12)
set_option maxHeartbeats 4000000 in
set_option maxRecDepth 100000 in
theorem c_X4_highestOf (E : Ev) (m : Nat) (b : Nat → Nat) (μ : MD) (s : Int32) (hh : hHi (gSt μ) (gHt μ) s) : MI E yX4_highestOf wsX4_highestOf (rmD 2) (modW E m b μ) [.ref m, .int s] (pE (hiM (gSt μ) (gHt μ) s) (modW E m b μ)) := by
  refine MI.of (cc := cX4_highestOf) (nL := 4) (ty := .int) (own := RX4) [some (.ref m), some (.int s), none, none] (by decide +kernel) rfl rfl (Nat.le_of_ble_eq_true rfl) rfl rfl ?_
  intro x C R0
  have lp : ∀ (n : Nat) (fo ko : Option Nat), (∀ p, ko = some p → p < 12) → hoE (gSt μ) (gHt μ) s n ko → hoG (gSt μ) (gHt μ) s n fo ko = hiM (gSt μ) (gHt μ) s → G E x (modW E m b μ) [some (.ref m), some (.int s), some (.int (optI fo)), some (.int (optI ko))] 12 [] := by
    intro n
    induction n with
    | zero =>
      intro fo ko hl hE hv
      have hz : ko = none := hE
      subst hz
      refine g_iload_n C dX4_highestOf_12 rfl rfl ?_
      refine g_sipush C (v := (-10005)) dX4_highestOf_13 rfl ?_
      refine g_icmp_eq_t C dX4_highestOf_16 (tgt := 36) (by decide) (by decide) ?_
      refine g_iload_n C dX4_highestOf_36 rfl rfl ?_
      refine g_iret C R0 dX4_highestOf_37 ?_
      exact pE_mk hv rfl
    | succ n ih =>
      intro fo ko hl hE hv
      rcases ko with _ | k
      · skip
        refine g_iload_n C dX4_highestOf_12 rfl rfl ?_
        refine g_sipush C (v := (-10005)) dX4_highestOf_13 rfl ?_
        refine g_icmp_eq_t C dX4_highestOf_16 (tgt := 36) (by decide) (by decide) ?_
        refine g_iload_n C dX4_highestOf_36 rfl rfl ?_
        refine g_iret C R0 dX4_highestOf_37 ?_
        exact pE_mk hv rfl
      · have hk12 := hl k rfl
        refine g_iload_n C dX4_highestOf_12 rfl rfl ?_
        refine g_sipush C (v := (-10005)) dX4_highestOf_13 rfl ?_
        refine g_icmp_eq_f C dX4_highestOf_16 36 (by decide) (nI_neN (by omega)) ?_
        refine g_iload_n C dX4_highestOf_19 rfl rfl ?_
        refine g_istore_n C dX4_highestOf_20 rfl (Nat.le_of_ble_eq_true rfl) rfl ?_
        refine g_aload_n C dX4_highestOf_21 rfl rfl ?_
        refine g_iload_n C dX4_highestOf_22 rfl rfl ?_
        refine g_aload_n C dX4_highestOf_23 rfl rfl ?_
        refine g_iload_n C dX4_highestOf_24 rfl rfl ?_
        refine g_calliVF C 0 rfl rfl (c_X4_heightOf E m b μ (k) (by omega)) cf_X4_heightOf gX4_highestOf_X4_heightOf rfl (fitD (Nat.le_of_ble_eq_true rfl) (Nat.le_of_ble_eq_true rfl)) rfl rfl (Nat.le_of_ble_eq_true rfl) dX4_highestOf_25 (fun r1 w1 hp => ?_)
        obtain ⟨rfl, rfl⟩ := hp
        refine g_iconst C (v := 1) dX4_highestOf_28 rfl ?_
        refine g_calliVF C 0 rfl rfl (c_X4_nextTo_up E m b μ _ _) cf_X4_nextTo gX4_highestOf_X4_nextTo rfl (fitD (Nat.le_of_ble_eq_true rfl) (Nat.le_of_ble_eq_true rfl)) rfl rfl (Nat.le_of_ble_eq_true rfl) dX4_highestOf_29 (fun r1 w1 hp => ?_)
        obtain ⟨rfl, rfl⟩ := hp
        refine g_istore_n C dX4_highestOf_32 rfl (Nat.le_of_ble_eq_true rfl) rfl ?_
        refine g_goto C (tgt := 12) dX4_highestOf_33 (by decide) ?_
        exact ih (some k) _ (fun p hp => nxU_lt 12 hp) hE hv
  refine g_sipush C (v := (-10005)) dX4_highestOf_0 rfl ?_
  refine g_istore_n C dX4_highestOf_3 rfl (Nat.le_of_ble_eq_true rfl) rfl ?_
  refine g_aload_n C dX4_highestOf_4 rfl rfl ?_
  refine g_iload_n C dX4_highestOf_5 rfl rfl ?_
  refine g_iconst C (v := (-1)) dX4_highestOf_6 rfl ?_
  refine g_iconst C (v := 1) dX4_highestOf_7 rfl ?_
  refine g_calliVF C 0 rfl rfl (c_X4_nextTo_up E m b μ _ _) cf_X4_nextTo gX4_highestOf_X4_nextTo rfl (fitD (Nat.le_of_ble_eq_true rfl) (Nat.le_of_ble_eq_true rfl)) rfl rfl (Nat.le_of_ble_eq_true rfl) dX4_highestOf_8 (fun r1 w1 hp => ?_)
  obtain ⟨rfl, rfl⟩ := hp
  refine g_istore_n C dX4_highestOf_11 rfl (Nat.le_of_ble_eq_true rfl) rfl ?_
  exact lp 12 none _ (fun p hp => nxU_lt 12 hp) hh rfl
def kiteMG (μ : MD) (j : Nat) (w : Int32) : Int32 := if w = 0 then gNu μ j else if w = 1 then gSt μ j else if w = 2 then gHt μ j else if w = 3 then gFr μ j else if w = 4 then gRe μ j else if w = 5 then gCu μ j else if w = 6 then sumN (rkF (gSt μ) (gHt μ) (gSt μ j) (gHt μ j)) 12 else if w = 7 then optI (nxU (gSt μ) (gHt μ) (gSt μ j) (gHt μ j) 12) else if w = 8 then optI (nxD (gSt μ) (gHt μ) (gSt μ j) (gHt μ j) 12) else -10002
def kiteMR (μ : MD) (k w : Int32) : Int32 := if isKm (gSt μ) k then kiteMG μ k.toNatClampNeg w else -10001
set_option maxHeartbeats 4000000 in
set_option maxRecDepth 100000 in
theorem c_X4_kite (E : Ev) (m : Nat) (b : Nat → Nat) (μ : MD) (k w : Int32) : MI E yX4_kite wsX4_kite (rmD 2) (modW E m b μ) [.ref m, .int k, .int w] (pE (kiteMR μ k w) (modW E m b μ)) := by
  have inX4 : ∀ w ∈ u_ws RX4 TX4 16, w ∈ wsX4_kite := by decide +kernel
  have f7 : Cond.fieldLink RX4 7 (TX4 0).1 (TX4 0).2.1 (TX4 0).2.2.1 ∈ wsX4_kite := by decide +kernel
  refine MI.of (cc := cX4_kite) (nL := 3) (ty := .int) (own := RX4) [some (.ref m), some (.int k), some (.int w)] (by decide +kernel) rfl rfl (Nat.le_of_ble_eq_true rfl) rfl rfl ?_
  intro x C R0
  refine g_aload_n C dX4_kite_0 rfl rfl ?_
  refine g_iload_n C dX4_kite_1 rfl rfl ?_
  refine g_calliVF C 0 rfl rfl (c_X4_isKite E m b μ _) cf_X4_isKite gX4_kite_X4_isKite rfl (fitD (Nat.le_of_ble_eq_true rfl) (Nat.le_of_ble_eq_true rfl)) rfl rfl (Nat.le_of_ble_eq_true rfl) dX4_kite_2 (fun r1 w1 hp => ?_)
  obtain ⟨⟨hb_2, rfl⟩ | ⟨hb_2, rfl⟩, rfl⟩ := hp
  · obtain ⟨j, hj, rfl⟩ := i32_of (n := 12) hb_2.1 hb_2.2.1 (by decide)
    have hcl : (nI j).toNatClampNeg = j := nI_clamp (by omega)
    have hkj : ¬ gSt μ j = -10005 := by have := hb_2.2.2; rwa [hcl] at this
    refine g_if_ne_t C dX4_kite_5 (tgt := 12) (by decide) (by decide) ?_
    refine g_iload_n C dX4_kite_12 rfl rfl ?_
    by_cases hc_13_0 : w = 0
    · have he_13 : (w).toInt = 0 := by rw [hc_13_0]; rfl
      refine g_tableIn C (tgt := 64) dX4_kite_13 (by rw [he_13]; decide) (by rw [he_13]; decide) (by rw [he_13]; rfl) (by decide) ?_
      refine g_aload_n C dX4_kite_64 rfl rfl ?_
      refine g_get C inX4 0 rfl rfl 0 (by decide) f7 rfl dX4_kite_65 ?_
      refine g_bipush C (v := 30) dX4_kite_68 rfl ?_
      refine g_iload_n C dX4_kite_70 rfl rfl ?_
      refine g_iadd C dX4_kite_71 ?_
      refine g_ialdE C 1 rfl (30 + j) (v := (gNu μ (j))) (nI_add 30 (j)) (by omega) (Nat.le_of_ble_eq_true rfl) (pk_Nu (by omega)) dX4_kite_72 ?_
      refine g_iret C R0 dX4_kite_73 ?_
      refine pE_mk ?_ rfl
      rw [kiteMR, if_pos hb_2, hcl, kiteMG, if_pos hc_13_0]
    · skip
      by_cases hc_13_1 : w = 1
      · have he_13 : (w).toInt = 1 := by rw [hc_13_1]; rfl
        refine g_tableIn C (tgt := 74) dX4_kite_13 (by rw [he_13]; decide) (by rw [he_13]; decide) (by rw [he_13]; rfl) (by decide) ?_
        refine g_aload_n C dX4_kite_74 rfl rfl ?_
        refine g_get C inX4 0 rfl rfl 0 (by decide) f7 rfl dX4_kite_75 ?_
        refine g_bipush C (v := 18) dX4_kite_78 rfl ?_
        refine g_iload_n C dX4_kite_80 rfl rfl ?_
        refine g_iadd C dX4_kite_81 ?_
        refine g_ialdE C 1 rfl (18 + j) (v := (gSt μ (j))) (nI_add 18 (j)) (by omega) (Nat.le_of_ble_eq_true rfl) (pk_St (by omega)) dX4_kite_82 ?_
        refine g_iret C R0 dX4_kite_83 ?_
        refine pE_mk ?_ rfl
        rw [kiteMR, if_pos hb_2, hcl, kiteMG, if_neg hc_13_0, if_pos hc_13_1]
      · skip
        by_cases hc_13_2 : w = 2
        · have he_13 : (w).toInt = 2 := by rw [hc_13_2]; rfl
          refine g_tableIn C (tgt := 84) dX4_kite_13 (by rw [he_13]; decide) (by rw [he_13]; decide) (by rw [he_13]; rfl) (by decide) ?_
          refine g_aload_n C dX4_kite_84 rfl rfl ?_
          refine g_iload_n C dX4_kite_85 rfl rfl ?_
          refine g_calliVF C 0 rfl rfl (c_X4_heightOf E m b μ (j) (by omega)) cf_X4_heightOf gX4_kite_X4_heightOf rfl (fitD (Nat.le_of_ble_eq_true rfl) (Nat.le_of_ble_eq_true rfl)) rfl rfl (Nat.le_of_ble_eq_true rfl) dX4_kite_86 (fun r1 w1 hp => ?_)
          obtain ⟨rfl, rfl⟩ := hp
          refine g_iret C R0 dX4_kite_89 ?_
          refine pE_mk ?_ rfl
          rw [kiteMR, if_pos hb_2, hcl, kiteMG, if_neg hc_13_0, if_neg hc_13_1, if_pos hc_13_2]
        · skip
          by_cases hc_13_3 : w = 3
          · have he_13 : (w).toInt = 3 := by rw [hc_13_3]; rfl
            refine g_tableIn C (tgt := 90) dX4_kite_13 (by rw [he_13]; decide) (by rw [he_13]; decide) (by rw [he_13]; rfl) (by decide) ?_
            refine g_aload_n C dX4_kite_90 rfl rfl ?_
            refine g_get C inX4 0 rfl rfl 0 (by decide) f7 rfl dX4_kite_91 ?_
            refine g_bipush C (v := 54) dX4_kite_94 rfl ?_
            refine g_iload_n C dX4_kite_96 rfl rfl ?_
            refine g_iadd C dX4_kite_97 ?_
            refine g_ialdE C 1 rfl (54 + j) (v := (gFr μ (j))) (nI_add 54 (j)) (by omega) (Nat.le_of_ble_eq_true rfl) (pk_Fr (by omega)) dX4_kite_98 ?_
            refine g_iret C R0 dX4_kite_99 ?_
            refine pE_mk ?_ rfl
            rw [kiteMR, if_pos hb_2, hcl, kiteMG, if_neg hc_13_0, if_neg hc_13_1, if_neg hc_13_2, if_pos hc_13_3]
          · skip
            by_cases hc_13_4 : w = 4
            · have he_13 : (w).toInt = 4 := by rw [hc_13_4]; rfl
              refine g_tableIn C (tgt := 100) dX4_kite_13 (by rw [he_13]; decide) (by rw [he_13]; decide) (by rw [he_13]; rfl) (by decide) ?_
              refine g_aload_n C dX4_kite_100 rfl rfl ?_
              refine g_get C inX4 0 rfl rfl 0 (by decide) f7 rfl dX4_kite_101 ?_
              refine g_bipush C (v := 66) dX4_kite_104 rfl ?_
              refine g_iload_n C dX4_kite_106 rfl rfl ?_
              refine g_iadd C dX4_kite_107 ?_
              refine g_ialdE C 1 rfl (66 + j) (v := (gRe μ (j))) (nI_add 66 (j)) (by omega) (Nat.le_of_ble_eq_true rfl) (pk_Re (by omega)) dX4_kite_108 ?_
              refine g_iret C R0 dX4_kite_109 ?_
              refine pE_mk ?_ rfl
              rw [kiteMR, if_pos hb_2, hcl, kiteMG, if_neg hc_13_0, if_neg hc_13_1, if_neg hc_13_2, if_neg hc_13_3, if_pos hc_13_4]
            · skip
              by_cases hc_13_5 : w = 5
              · have he_13 : (w).toInt = 5 := by rw [hc_13_5]; rfl
                refine g_tableIn C (tgt := 110) dX4_kite_13 (by rw [he_13]; decide) (by rw [he_13]; decide) (by rw [he_13]; rfl) (by decide) ?_
                refine g_aload_n C dX4_kite_110 rfl rfl ?_
                refine g_get C inX4 0 rfl rfl 0 (by decide) f7 rfl dX4_kite_111 ?_
                refine g_bipush C (v := 78) dX4_kite_114 rfl ?_
                refine g_iload_n C dX4_kite_116 rfl rfl ?_
                refine g_iadd C dX4_kite_117 ?_
                refine g_ialdE C 1 rfl (78 + j) (v := (gCu μ (j))) (nI_add 78 (j)) (by omega) (Nat.le_of_ble_eq_true rfl) (pk_Cu (by omega)) dX4_kite_118 ?_
                refine g_iret C R0 dX4_kite_119 ?_
                refine pE_mk ?_ rfl
                rw [kiteMR, if_pos hb_2, hcl, kiteMG, if_neg hc_13_0, if_neg hc_13_1, if_neg hc_13_2, if_neg hc_13_3, if_neg hc_13_4, if_pos hc_13_5]
              · skip
                by_cases hc_13_6 : w = 6
                · have he_13 : (w).toInt = 6 := by rw [hc_13_6]; rfl
                  refine g_tableIn C (tgt := 120) dX4_kite_13 (by rw [he_13]; decide) (by rw [he_13]; decide) (by rw [he_13]; rfl) (by decide) ?_
                  refine g_aload_n C dX4_kite_120 rfl rfl ?_
                  refine g_iload_n C dX4_kite_121 rfl rfl ?_
                  refine g_calliVF C 0 rfl rfl (c_X4_rankOf E m b μ (j) (by omega)) cf_X4_rankOf gX4_kite_X4_rankOf rfl (fitD (Nat.le_of_ble_eq_true rfl) (Nat.le_of_ble_eq_true rfl)) rfl rfl (Nat.le_of_ble_eq_true rfl) dX4_kite_122 (fun r1 w1 hp => ?_)
                  obtain ⟨rfl, rfl⟩ := hp
                  refine g_iret C R0 dX4_kite_125 ?_
                  refine pE_mk ?_ rfl
                  rw [kiteMR, if_pos hb_2, hcl, kiteMG, if_neg hc_13_0, if_neg hc_13_1, if_neg hc_13_2, if_neg hc_13_3, if_neg hc_13_4, if_neg hc_13_5, if_pos hc_13_6]
                · skip
                  by_cases hc_13_7 : w = 7
                  · have he_13 : (w).toInt = 7 := by rw [hc_13_7]; rfl
                    refine g_tableIn C (tgt := 126) dX4_kite_13 (by rw [he_13]; decide) (by rw [he_13]; decide) (by rw [he_13]; rfl) (by decide) ?_
                    refine g_aload_n C dX4_kite_126 rfl rfl ?_
                    refine g_aload_n C dX4_kite_127 rfl rfl ?_
                    refine g_get C inX4 0 rfl rfl 0 (by decide) f7 rfl dX4_kite_128 ?_
                    refine g_bipush C (v := 18) dX4_kite_131 rfl ?_
                    refine g_iload_n C dX4_kite_133 rfl rfl ?_
                    refine g_iadd C dX4_kite_134 ?_
                    refine g_ialdE C 1 rfl (18 + j) (v := (gSt μ (j))) (nI_add 18 (j)) (by omega) (Nat.le_of_ble_eq_true rfl) (pk_St (by omega)) dX4_kite_135 ?_
                    refine g_aload_n C dX4_kite_136 rfl rfl ?_
                    refine g_iload_n C dX4_kite_137 rfl rfl ?_
                    refine g_calliVF C 0 rfl rfl (c_X4_heightOf E m b μ (j) (by omega)) cf_X4_heightOf gX4_kite_X4_heightOf rfl (fitD (Nat.le_of_ble_eq_true rfl) (Nat.le_of_ble_eq_true rfl)) rfl rfl (Nat.le_of_ble_eq_true rfl) dX4_kite_138 (fun r1 w1 hp => ?_)
                    obtain ⟨rfl, rfl⟩ := hp
                    refine g_iload_n C dX4_kite_141 rfl rfl ?_
                    refine g_bipush C (v := 7) dX4_kite_142 rfl ?_
                    refine g_icmp_ne_f C dX4_kite_144 151 (by decide) hc_13_7 ?_
                    refine g_iconst C (v := 1) dX4_kite_147 rfl ?_
                    refine g_goto C (tgt := 152) dX4_kite_148 (by decide) ?_
                    refine g_calliVF C 0 rfl rfl (c_X4_nextTo_up E m b μ _ _) cf_X4_nextTo gX4_kite_X4_nextTo rfl (fitD (Nat.le_of_ble_eq_true rfl) (Nat.le_of_ble_eq_true rfl)) rfl rfl (Nat.le_of_ble_eq_true rfl) dX4_kite_152 (fun r1 w1 hp => ?_)
                    obtain ⟨rfl, rfl⟩ := hp
                    refine g_iret C R0 dX4_kite_155 ?_
                    refine pE_mk ?_ rfl
                    rw [kiteMR, if_pos hb_2, hcl, kiteMG, if_neg hc_13_0, if_neg hc_13_1, if_neg hc_13_2, if_neg hc_13_3, if_neg hc_13_4, if_neg hc_13_5, if_neg hc_13_6, if_pos hc_13_7]
                  · skip
                    by_cases hc_13_8 : w = 8
                    · have he_13 : (w).toInt = 8 := by rw [hc_13_8]; rfl
                      refine g_tableIn C (tgt := 126) dX4_kite_13 (by rw [he_13]; decide) (by rw [he_13]; decide) (by rw [he_13]; rfl) (by decide) ?_
                      refine g_aload_n C dX4_kite_126 rfl rfl ?_
                      refine g_aload_n C dX4_kite_127 rfl rfl ?_
                      refine g_get C inX4 0 rfl rfl 0 (by decide) f7 rfl dX4_kite_128 ?_
                      refine g_bipush C (v := 18) dX4_kite_131 rfl ?_
                      refine g_iload_n C dX4_kite_133 rfl rfl ?_
                      refine g_iadd C dX4_kite_134 ?_
                      refine g_ialdE C 1 rfl (18 + j) (v := (gSt μ (j))) (nI_add 18 (j)) (by omega) (Nat.le_of_ble_eq_true rfl) (pk_St (by omega)) dX4_kite_135 ?_
                      refine g_aload_n C dX4_kite_136 rfl rfl ?_
                      refine g_iload_n C dX4_kite_137 rfl rfl ?_
                      refine g_calliVF C 0 rfl rfl (c_X4_heightOf E m b μ (j) (by omega)) cf_X4_heightOf gX4_kite_X4_heightOf rfl (fitD (Nat.le_of_ble_eq_true rfl) (Nat.le_of_ble_eq_true rfl)) rfl rfl (Nat.le_of_ble_eq_true rfl) dX4_kite_138 (fun r1 w1 hp => ?_)
                      obtain ⟨rfl, rfl⟩ := hp
                      refine g_iload_n C dX4_kite_141 rfl rfl ?_
                      refine g_bipush C (v := 7) dX4_kite_142 rfl ?_
                      refine g_icmp_ne_t C dX4_kite_144 (tgt := 151) (by decide) hc_13_7 ?_
                      refine g_iconst C (v := 0) dX4_kite_151 rfl ?_
                      refine g_calliVF C 0 rfl rfl (c_X4_nextTo_dn E m b μ _ _) cf_X4_nextTo gX4_kite_X4_nextTo rfl (fitD (Nat.le_of_ble_eq_true rfl) (Nat.le_of_ble_eq_true rfl)) rfl rfl (Nat.le_of_ble_eq_true rfl) dX4_kite_152 (fun r1 w1 hp => ?_)
                      obtain ⟨rfl, rfl⟩ := hp
                      refine g_iret C R0 dX4_kite_155 ?_
                      refine pE_mk ?_ rfl
                      rw [kiteMR, if_pos hb_2, hcl, kiteMG, if_neg hc_13_0, if_neg hc_13_1, if_neg hc_13_2, if_neg hc_13_3, if_neg hc_13_4, if_neg hc_13_5, if_neg hc_13_6, if_neg hc_13_7, if_pos hc_13_8]
                    · skip
                      refine g_tableOut C (tgt := 156) dX4_kite_13 (sw_out9 hc_13_0 hc_13_1 hc_13_2 hc_13_3 hc_13_4 hc_13_5 hc_13_6 hc_13_7 hc_13_8) (by decide) ?_
                      refine g_sipush C (v := (-10002)) dX4_kite_156 rfl ?_
                      refine g_iret C R0 dX4_kite_159 ?_
                      refine pE_mk ?_ rfl
                      rw [kiteMR, if_pos hb_2, hcl, kiteMG, if_neg hc_13_0, if_neg hc_13_1, if_neg hc_13_2, if_neg hc_13_3, if_neg hc_13_4, if_neg hc_13_5, if_neg hc_13_6, if_neg hc_13_7, if_neg hc_13_8]
  · refine g_if_ne_f C dX4_kite_5 12 (by decide) (by decide) ?_
    refine g_sipush C (v := (-10001)) dX4_kite_8 rfl ?_
    refine g_iret C R0 dX4_kite_11 ?_
    refine pE_mk ?_ rfl
    rw [kiteMR, if_neg hb_2]
def strMG (μ : MD) (s w : Int32) : Int32 := if w = 0 then kitO (gSt μ) s else if w = 1 then weig (gSt μ) (gHt μ) s else if w = 2 then hiM (gSt μ) (gHt μ) s else if w = 3 then optI (nxU (gSt μ) (gHt μ) s (-1) 12) else if w = 4 then nums (gSt μ) (gNu μ) s else if w = 5 then gCf μ s.toNatClampNeg else -10002
def strMR (μ : MD) (s w : Int32) : Int32 := if isS s then strMG μ s w else -10001
set_option maxHeartbeats 4000000 in
set_option maxRecDepth 100000 in
theorem c_X4_string (E : Ev) (m : Nat) (b : Nat → Nat) (μ : MD) (s w : Int32) (hh : isS s → hHi (gSt μ) (gHt μ) s) : MI E yX4_string wsX4_string (rmD 3) (modW E m b μ) [.ref m, .int s, .int w] (pE (strMR μ s w) (modW E m b μ)) := by
  have inX4 : ∀ w ∈ u_ws RX4 TX4 16, w ∈ wsX4_string := by decide +kernel
  have f7 : Cond.fieldLink RX4 7 (TX4 0).1 (TX4 0).2.1 (TX4 0).2.2.1 ∈ wsX4_string := by decide +kernel
  refine MI.of (cc := cX4_string) (nL := 3) (ty := .int) (own := RX4) [some (.ref m), some (.int s), some (.int w)] (by decide +kernel) rfl rfl (Nat.le_of_ble_eq_true rfl) rfl rfl ?_
  intro x C R0
  refine g_iload_n C dX4_string_0 rfl rfl ?_
  refine g_calliSF C (c_X4_isString E _ _) cf_X4_isString gX4_string_X4_isString rfl (fitD (Nat.le_of_ble_eq_true rfl) (Nat.le_of_ble_eq_true rfl)) rfl rfl (Nat.le_of_ble_eq_true rfl) dX4_string_1 (fun r1 w1 hp => ?_)
  obtain ⟨⟨hb_1, rfl⟩ | ⟨hb_1, rfl⟩, rfl⟩ := hp
  · obtain ⟨j, hj, rfl⟩ := i32_of (n := 4) hb_1.1 hb_1.2 (by decide)
    have hcl : (nI j).toNatClampNeg = j := nI_clamp (by omega)
    refine g_if_ne_t C dX4_string_4 (tgt := 11) (by decide) (by decide) ?_
    refine g_iload_n C dX4_string_11 rfl rfl ?_
    by_cases hc_12_0 : w = 0
    · have he_12 : (w).toInt = 0 := by rw [hc_12_0]; rfl
      refine g_tableIn C (tgt := 52) dX4_string_12 (by rw [he_12]; decide) (by rw [he_12]; decide) (by rw [he_12]; rfl) (by decide) ?_
      refine g_aload_n C dX4_string_52 rfl rfl ?_
      refine g_iload_n C dX4_string_53 rfl rfl ?_
      refine g_calliVF C 0 rfl rfl (c_X4_kitesOf E m b μ _) cf_X4_kitesOf gX4_string_X4_kitesOf rfl (fitD (Nat.le_of_ble_eq_true rfl) (Nat.le_of_ble_eq_true rfl)) rfl rfl (Nat.le_of_ble_eq_true rfl) dX4_string_54 (fun r1 w1 hp => ?_)
      obtain ⟨rfl, rfl⟩ := hp
      refine g_iret C R0 dX4_string_57 ?_
      refine pE_mk ?_ rfl
      rw [strMR, if_pos hb_1, strMG, if_pos hc_12_0]
    · skip
      by_cases hc_12_1 : w = 1
      · have he_12 : (w).toInt = 1 := by rw [hc_12_1]; rfl
        refine g_tableIn C (tgt := 58) dX4_string_12 (by rw [he_12]; decide) (by rw [he_12]; decide) (by rw [he_12]; rfl) (by decide) ?_
        refine g_aload_n C dX4_string_58 rfl rfl ?_
        refine g_iload_n C dX4_string_59 rfl rfl ?_
        refine g_calliVF C 0 rfl rfl (c_X4_weightsOf E m b μ _) cf_X4_weightsOf gX4_string_X4_weightsOf rfl (fitD (Nat.le_of_ble_eq_true rfl) (Nat.le_of_ble_eq_true rfl)) rfl rfl (Nat.le_of_ble_eq_true rfl) dX4_string_60 (fun r1 w1 hp => ?_)
        obtain ⟨rfl, rfl⟩ := hp
        refine g_iret C R0 dX4_string_63 ?_
        refine pE_mk ?_ rfl
        rw [strMR, if_pos hb_1, strMG, if_neg hc_12_0, if_pos hc_12_1]
      · skip
        by_cases hc_12_2 : w = 2
        · have he_12 : (w).toInt = 2 := by rw [hc_12_2]; rfl
          refine g_tableIn C (tgt := 64) dX4_string_12 (by rw [he_12]; decide) (by rw [he_12]; decide) (by rw [he_12]; rfl) (by decide) ?_
          refine g_aload_n C dX4_string_64 rfl rfl ?_
          refine g_iload_n C dX4_string_65 rfl rfl ?_
          refine g_calliVF C 0 rfl rfl (c_X4_highestOf E m b μ _ (hh hb_1)) cf_X4_highestOf gX4_string_X4_highestOf rfl (fitD (Nat.le_of_ble_eq_true rfl) (Nat.le_of_ble_eq_true rfl)) rfl rfl (Nat.le_of_ble_eq_true rfl) dX4_string_66 (fun r1 w1 hp => ?_)
          obtain ⟨rfl, rfl⟩ := hp
          refine g_iret C R0 dX4_string_69 ?_
          refine pE_mk ?_ rfl
          rw [strMR, if_pos hb_1, strMG, if_neg hc_12_0, if_neg hc_12_1, if_pos hc_12_2]
        · skip
          by_cases hc_12_3 : w = 3
          · have he_12 : (w).toInt = 3 := by rw [hc_12_3]; rfl
            refine g_tableIn C (tgt := 70) dX4_string_12 (by rw [he_12]; decide) (by rw [he_12]; decide) (by rw [he_12]; rfl) (by decide) ?_
            refine g_aload_n C dX4_string_70 rfl rfl ?_
            refine g_iload_n C dX4_string_71 rfl rfl ?_
            refine g_iconst C (v := (-1)) dX4_string_72 rfl ?_
            refine g_iconst C (v := 1) dX4_string_73 rfl ?_
            refine g_calliVF C 0 rfl rfl (c_X4_nextTo_up E m b μ _ _) cf_X4_nextTo gX4_string_X4_nextTo rfl (fitD (Nat.le_of_ble_eq_true rfl) (Nat.le_of_ble_eq_true rfl)) rfl rfl (Nat.le_of_ble_eq_true rfl) dX4_string_74 (fun r1 w1 hp => ?_)
            obtain ⟨rfl, rfl⟩ := hp
            refine g_iret C R0 dX4_string_77 ?_
            refine pE_mk ?_ rfl
            rw [strMR, if_pos hb_1, strMG, if_neg hc_12_0, if_neg hc_12_1, if_neg hc_12_2, if_pos hc_12_3]
          · skip
            by_cases hc_12_4 : w = 4
            · have he_12 : (w).toInt = 4 := by rw [hc_12_4]; rfl
              refine g_tableIn C (tgt := 78) dX4_string_12 (by rw [he_12]; decide) (by rw [he_12]; decide) (by rw [he_12]; rfl) (by decide) ?_
              refine g_aload_n C dX4_string_78 rfl rfl ?_
              refine g_iload_n C dX4_string_79 rfl rfl ?_
              refine g_calliVF C 0 rfl rfl (c_X4_sumOf E m b μ _) cf_X4_sumOf gX4_string_X4_sumOf rfl (fitD (Nat.le_of_ble_eq_true rfl) (Nat.le_of_ble_eq_true rfl)) rfl rfl (Nat.le_of_ble_eq_true rfl) dX4_string_80 (fun r1 w1 hp => ?_)
              obtain ⟨rfl, rfl⟩ := hp
              refine g_iret C R0 dX4_string_83 ?_
              refine pE_mk ?_ rfl
              rw [strMR, if_pos hb_1, strMG, if_neg hc_12_0, if_neg hc_12_1, if_neg hc_12_2, if_neg hc_12_3, if_pos hc_12_4]
            · skip
              by_cases hc_12_5 : w = 5
              · have he_12 : (w).toInt = 5 := by rw [hc_12_5]; rfl
                refine g_tableIn C (tgt := 84) dX4_string_12 (by rw [he_12]; decide) (by rw [he_12]; decide) (by rw [he_12]; rfl) (by decide) ?_
                refine g_aload_n C dX4_string_84 rfl rfl ?_
                refine g_get C inX4 0 rfl rfl 0 (by decide) f7 rfl dX4_string_85 ?_
                refine g_bipush C (v := 14) dX4_string_88 rfl ?_
                refine g_iload_n C dX4_string_90 rfl rfl ?_
                refine g_iadd C dX4_string_91 ?_
                refine g_ialdE C 1 rfl (14 + j) (v := (gCf μ (j))) (nI_add 14 (j)) (by omega) (Nat.le_of_ble_eq_true rfl) (pk_Cf (by omega)) dX4_string_92 ?_
                refine g_iret C R0 dX4_string_93 ?_
                refine pE_mk ?_ rfl
                rw [strMR, if_pos hb_1, strMG, if_neg hc_12_0, if_neg hc_12_1, if_neg hc_12_2, if_neg hc_12_3, if_neg hc_12_4, if_pos hc_12_5, hcl]
              · skip
                refine g_tableOut C (tgt := 94) dX4_string_12 (sw_out6 hc_12_0 hc_12_1 hc_12_2 hc_12_3 hc_12_4 hc_12_5) (by decide) ?_
                refine g_sipush C (v := (-10002)) dX4_string_94 rfl ?_
                refine g_iret C R0 dX4_string_97 ?_
                refine pE_mk ?_ rfl
                rw [strMR, if_pos hb_1, strMG, if_neg hc_12_0, if_neg hc_12_1, if_neg hc_12_2, if_neg hc_12_3, if_neg hc_12_4, if_neg hc_12_5]
  · refine g_if_ne_f C dX4_string_4 11 (by decide) (by decide) ?_
    refine g_sipush C (v := (-10001)) dX4_string_7 rfl ?_
    refine g_iret C R0 dX4_string_10 ?_
    refine pE_mk ?_ rfl
    rw [strMR, if_neg hb_1]
def leF (st ht : F) (s p : Int32) : Nat → Int32
  | 0 => p
  | n + 1 => leF st ht s p n - weF st ht s n
def drN (st ht : F) (s p : Int32) : Nat := ff (fun k => decide (leF st ht s p k < 0)) 12 0
abbrev inDr (st ht : F) (s p : Int32) : Prop := (0 : Int64) ≤ p.toInt64 ∧ p.toInt64 ≤ (weig st ht s).toInt64 - 1
def drMR (μ : MD) (s p : Int32) : Int32 := if isS s then (if inDr (gSt μ) (gHt μ) s p then nI (drN (gSt μ) (gHt μ) s p) - 1 else -10002) else -10001
set_option maxHeartbeats 4000000 in
set_option maxRecDepth 100000 in
theorem c_X4_drawn (E : Ev) (m : Nat) (b : Nat → Nat) (μ : MD) (s p : Int32) (hd : isS s → inDr (gSt μ) (gHt μ) s p → leF (gSt μ) (gHt μ) s p 12 < 0) : MI E yX4_drawn wsX4_drawn (rmD 3) (modW E m b μ) [.ref m, .int s, .int p] (pE (drMR μ s p) (modW E m b μ)) := by
  have inX4 : ∀ w ∈ u_ws RX4 TX4 16, w ∈ wsX4_drawn := by decide +kernel
  have f7 : Cond.fieldLink RX4 7 (TX4 0).1 (TX4 0).2.1 (TX4 0).2.2.1 ∈ wsX4_drawn := by decide +kernel
  refine MI.of (cc := cX4_drawn) (nL := 5) (ty := .int) (own := RX4) [some (.ref m), some (.int s), some (.int p), none, none] (by decide +kernel) rfl rfl (Nat.le_of_ble_eq_true rfl) rfl rfl ?_
  intro x C R0
  refine g_iload_n C dX4_drawn_0 rfl rfl ?_
  refine g_calliSF C (c_X4_isString E _ _) cf_X4_isString gX4_drawn_X4_isString rfl (fitD (Nat.le_of_ble_eq_true rfl) (Nat.le_of_ble_eq_true rfl)) rfl rfl (Nat.le_of_ble_eq_true rfl) dX4_drawn_1 (fun r1 w1 hp => ?_)
  obtain ⟨⟨hb_1, rfl⟩ | ⟨hb_1, rfl⟩, rfl⟩ := hp
  · refine g_if_ne_t C dX4_drawn_4 (tgt := 11) (by decide) (by decide) ?_
    refine g_iload_n C dX4_drawn_11 rfl rfl ?_
    refine g_i2l C dX4_drawn_12 ?_
    refine g_lconst C (v := 0) dX4_drawn_13 rfl ?_
    refine g_aload_n C dX4_drawn_14 rfl rfl ?_
    refine g_iload_n C dX4_drawn_15 rfl rfl ?_
    refine g_calliVF C 0 rfl rfl (c_X4_weightsOf E m b μ _) cf_X4_weightsOf gX4_drawn_X4_weightsOf rfl (fitD (Nat.le_of_ble_eq_true rfl) (Nat.le_of_ble_eq_true rfl)) rfl rfl (Nat.le_of_ble_eq_true rfl) dX4_drawn_16 (fun r1 w1 hp => ?_)
    obtain ⟨rfl, rfl⟩ := hp
    refine g_i2l C dX4_drawn_19 ?_
    refine g_lconst C (v := 1) dX4_drawn_20 rfl ?_
    refine g_lsub C dX4_drawn_21 ?_
    refine g_calliSF C (c_X4_in E _ _ _ _) cf_X4_in gX4_drawn_X4_in rfl (fitD (Nat.le_of_ble_eq_true rfl) (Nat.le_of_ble_eq_true rfl)) rfl rfl (Nat.le_of_ble_eq_true rfl) dX4_drawn_22 (fun r1 w1 hp => ?_)
    obtain ⟨⟨hb_22, rfl⟩ | ⟨hb_22, rfl⟩, rfl⟩ := hp
    · refine g_if_ne_t C dX4_drawn_25 (tgt := 32) (by decide) (by decide) ?_
      refine g_iload_n C dX4_drawn_32 rfl rfl ?_
      refine g_istore_n C dX4_drawn_33 rfl (Nat.le_of_ble_eq_true rfl) rfl ?_
      refine g_iconst C (v := (-1)) dX4_drawn_34 rfl ?_
      refine g_istore C dX4_drawn_35 (Nat.le_of_ble_eq_true rfl) rfl ?_
      have lp : ∀ (n9 i : Nat), 12 - i < n9 → i ≤ 12 → ff (fun k => decide (leF (gSt μ) (gHt μ) s p k < 0)) (12 - i) i = drN (gSt μ) (gHt μ) s p → G E x (modW E m b μ) [some (.ref m), some (.int s), some (.int p), some (.int (leF (gSt μ) (gHt μ) s p i)), some (.int (nI i - 1))] 37 [] := by
        intro n9
        induction n9 with
        | zero => intro i h1; omega
        | succ n9 ih =>
          intro i hn hi hv
          refine g_iload_n C dX4_drawn_37 rfl rfl ?_
          refine g_if_lt C (tgt := 74) dX4_drawn_38 (by decide) (fun hc_38 => ?_) (fun hc_38 => ?_)
          · refine g_iload C dX4_drawn_74 rfl ?_
            refine g_iret C R0 dX4_drawn_76 ?_
            refine pE_mk ?_ rfl
            rw [drMR, if_pos hb_1, if_pos hb_22]
            by_cases e12 : i = 12
            · rw [show 12 - i = 0 from by omega, ff] at hv; rw [← hv]
            · rw [show 12 - i = (11 - i) + 1 from by omega, ff, if_pos (by simp [hc_38])] at hv; rw [← hv]
          · have hi2 : i < 12 := by
              refine Nat.lt_of_not_le fun y => ?_
              have e12 : i = 12 := by omega
              subst e12
              exact hc_38 (hd hb_1 hb_22)
            refine g_iinc C (v := ((nI i - 1) + 1)) dX4_drawn_41 rfl rfl rfl ?_
            rw [show nI i - 1 + 1 = nI i from by rw [Int32.sub_add_cancel]]
            refine g_iload_n C dX4_drawn_44 rfl rfl ?_
            refine g_aload_n C dX4_drawn_45 rfl rfl ?_
            refine g_get C inX4 0 rfl rfl 0 (by decide) f7 rfl dX4_drawn_46 ?_
            refine g_bipush C (v := 18) dX4_drawn_49 rfl ?_
            refine g_iload C dX4_drawn_51 rfl ?_
            refine g_iadd C dX4_drawn_53 ?_
            refine g_ialdE C 1 rfl (18 + i) (v := (gSt μ (i))) (nI_add 18 (i)) (by omega) (Nat.le_of_ble_eq_true rfl) (pk_St (by omega)) dX4_drawn_54 ?_
            refine g_iload_n C dX4_drawn_55 rfl rfl ?_
            refine g_icmp_ne C (tgt := 68) dX4_drawn_56 (by decide) (fun hc_56 => ?_) (fun hc_56 => ?_)
            · refine g_iconst C (v := 0) dX4_drawn_68 rfl ?_
              refine g_isub C dX4_drawn_69 ?_
              refine g_istore_n C dX4_drawn_70 rfl (Nat.le_of_ble_eq_true rfl) rfl ?_
              refine g_goto C (tgt := 37) dX4_drawn_71 (by decide) ?_
              have this := ih (i + 1) (by omega) (by omega) (by rw [show 12 - i = (12 - (i + 1)) + 1 from by omega, ff, if_neg (by simp [hc_38])] at hv; exact hv)
              rw [show leF (gSt μ) (gHt μ) s p (i + 1) = ((leF (gSt μ) (gHt μ) s p i) - 0) from by rw [leF, weF]; rw [if_neg hc_56], nI_pred] at this
              exact this
            · refine g_aload_n C dX4_drawn_59 rfl rfl ?_
              refine g_iload C dX4_drawn_60 rfl ?_
              refine g_calliVF C 0 rfl rfl (c_X4_weightOf E m b μ (i) (by omega)) cf_X4_weightOf gX4_drawn_X4_weightOf rfl (fitD (Nat.le_of_ble_eq_true rfl) (Nat.le_of_ble_eq_true rfl)) rfl rfl (Nat.le_of_ble_eq_true rfl) dX4_drawn_62 (fun r1 w1 hp => ?_)
              obtain ⟨rfl, rfl⟩ := hp
              refine g_goto C (tgt := 69) dX4_drawn_65 (by decide) ?_
              refine g_isub C dX4_drawn_69 ?_
              refine g_istore_n C dX4_drawn_70 rfl (Nat.le_of_ble_eq_true rfl) rfl ?_
              refine g_goto C (tgt := 37) dX4_drawn_71 (by decide) ?_
              have this := ih (i + 1) (by omega) (by omega) (by rw [show 12 - i = (12 - (i + 1)) + 1 from by omega, ff, if_neg (by simp [hc_38])] at hv; exact hv)
              rw [show leF (gSt μ) (gHt μ) s p (i + 1) = ((leF (gSt μ) (gHt μ) s p i) - (gHt μ (i) + 1)) from by rw [leF, weF]; rw [if_pos hc_56], nI_pred] at this
              exact this
      exact lp 13 0 (by omega) (by omega) rfl
    · refine g_if_ne_f C dX4_drawn_25 32 (by decide) (by decide) ?_
      refine g_sipush C (v := (-10002)) dX4_drawn_28 rfl ?_
      refine g_iret C R0 dX4_drawn_31 ?_
      refine pE_mk ?_ rfl
      rw [drMR, if_pos hb_1, if_neg hb_22]
  · refine g_if_ne_f C dX4_drawn_4 11 (by decide) (by decide) ?_
    refine g_sipush C (v := (-10001)) dX4_drawn_7 rfl ?_
    refine g_iret C R0 dX4_drawn_10 ?_
    refine pE_mk ?_ rfl
    rw [drMR, if_neg hb_1]
def ifRMG (μ : MD) (j q e : Nat) (w : Int32) : Int32 :=
  if w = 0 then sSt (mRises (mAl μ) j q (gWi μ e)).1 j else if w = 1 then sHt (mRises (mAl μ) j q (gWi μ e)).1 j else if w = 2 then (if mIsC (mAl μ) j (gWi μ e) then 1 else 0) else (if mIsC (mAl μ) j (gWi μ e) then 0 else sumN (psF (sSt (mRises (mAl μ) j q (gWi μ e)).1) (sHt (mRises (mAl μ) j q (gWi μ e)).1) (sSt (mRises (mAl μ) j q (gWi μ e)).1 j) (gHt μ j) (sHt (mRises (mAl μ) j q (gWi μ e)).1 j)) 12)
def ifRM (μ : MD) (q e : Nat) (k w : Int32) : Int32 × MD := if isKm (gSt μ) k then (if 0 ≤ w ∧ w ≤ 3 then (ifRMG μ k.toNatClampNeg q e w, wTr μ (mAl μ)) else (-10002, μ)) else (-10001, μ)
set_option maxHeartbeats 4000000 in
set_option maxRecDepth 100000 in
theorem c_X4_ifRead (E : Ev) (m : Nat) (b : Nat → Nat) (μ : MD) (q e : Nat) (he : e < 8) (hbe : gBe μ = nI e) (k w : Int32) (hk : isKm (gSt μ) k → q < 4 ∧ gSt μ k.toNatClampNeg = nI q ∧ hR (mAl μ) k.toNatClampNeg (gWi μ e)) : MI E yX4_ifRead wsX4_ifRead (rmD 5) (modW E m b μ) [.ref m, .int k, .int w] (pM E m b (ifRM μ q e k w)) := by
  have k42 : Cond.constantLong RX4 42 (3) ∈ wsX4_ifRead := by decide +kernel
  have inX4 : ∀ w ∈ u_ws RX4 TX4 16, w ∈ wsX4_ifRead := by decide +kernel
  have f7 : Cond.fieldLink RX4 7 (TX4 0).1 (TX4 0).2.1 (TX4 0).2.2.1 ∈ wsX4_ifRead := by decide +kernel
  have f16 : Cond.fieldLink RX4 16 (TX4 2).1 (TX4 2).2.1 (TX4 2).2.2.1 ∈ wsX4_ifRead := by decide +kernel
  refine MI.of (cc := cX4_ifRead) (nL := 6) (ty := .int) (own := RX4) [some (.ref m), some (.int k), some (.int w), none, none, none] (by decide +kernel) rfl rfl (Nat.le_of_ble_eq_true rfl) rfl rfl ?_
  intro x C R0
  refine g_aload_n C dX4_ifRead_0 rfl rfl ?_
  refine g_iload_n C dX4_ifRead_1 rfl rfl ?_
  refine g_calliVF C 0 rfl rfl (c_X4_isKite E m b μ _) cf_X4_isKite gX4_ifRead_X4_isKite rfl (fitD (Nat.le_of_ble_eq_true rfl) (Nat.le_of_ble_eq_true rfl)) rfl rfl (Nat.le_of_ble_eq_true rfl) dX4_ifRead_2 (fun r1 w1 hp => ?_)
  obtain ⟨⟨hb_2, rfl⟩ | ⟨hb_2, rfl⟩, rfl⟩ := hp
  · obtain ⟨j, hj, rfl⟩ := i32_of (n := 12) hb_2.1 hb_2.2.1 (by decide)
    have hcl : (nI j).toNatClampNeg = j := nI_clamp (by omega)
    have hkj : ¬ gSt μ j = -10005 := by have := hb_2.2.2; rwa [hcl] at this
    obtain ⟨hq, hs, hr⟩ := hk hb_2
    rw [hcl] at hs hr
    refine g_if_ne_t C dX4_ifRead_5 (tgt := 12) (by decide) (by decide) ?_
    refine g_iload_n C dX4_ifRead_12 rfl rfl ?_
    refine g_i2l C dX4_ifRead_13 ?_
    refine g_lconst C (v := 0) dX4_ifRead_14 rfl ?_
    refine g_ldc2 C k42 dX4_ifRead_15 ?_
    refine g_calliSF C (c_X4_in E _ _ _ _) cf_X4_in gX4_ifRead_X4_in rfl (fitD (Nat.le_of_ble_eq_true rfl) (Nat.le_of_ble_eq_true rfl)) rfl rfl (Nat.le_of_ble_eq_true rfl) dX4_ifRead_18 (fun r1 w1 hp => ?_)
    obtain ⟨⟨hb_18, rfl⟩ | ⟨hb_18, rfl⟩, rfl⟩ := hp
    · refine g_if_ne_t C dX4_ifRead_21 (tgt := 28) (by decide) (by decide) ?_
      refine g_aload_n C dX4_ifRead_28 rfl rfl ?_
      refine g_get C inX4 0 rfl rfl 0 (by decide) f7 rfl dX4_ifRead_29 ?_
      refine g_aload_n C dX4_ifRead_32 rfl rfl ?_
      refine g_get C inX4 0 rfl rfl 2 (by decide) f16 rfl dX4_ifRead_33 ?_
      refine g_callvSF C (c_X4_copy E _ 1 3 _ _ _ _ rfl rfl (by decide)) cf_X4_copy gX4_ifRead_X4_copy rfl (fitD (Nat.le_of_ble_eq_true rfl) (Nat.le_of_ble_eq_true rfl)) rfl rfl (Nat.le_of_ble_eq_true rfl) dX4_ifRead_36 (fun w1 hp => ?_)
      have hp : w1 = (modW E m b (wTr μ (mAl μ))) := hp
      subst hp
      refine g_aload_n C dX4_ifRead_39 rfl rfl ?_
      refine g_iload_n C dX4_ifRead_40 rfl rfl ?_
      refine g_calliVF C 0 rfl rfl (c_X4_heightOf E m b (wTr μ (mAl μ)) (j) (by omega)) cf_X4_heightOf gX4_ifRead_X4_heightOf rfl (fitD (Nat.le_of_ble_eq_true rfl) (Nat.le_of_ble_eq_true rfl)) rfl rfl (Nat.le_of_ble_eq_true rfl) dX4_ifRead_41 (fun r1 w1 hp => ?_)
      obtain ⟨rfl, rfl⟩ := hp
      refine g_istore_n C dX4_ifRead_44 rfl (Nat.le_of_ble_eq_true rfl) rfl ?_
      refine g_aload_n C dX4_ifRead_45 rfl rfl ?_
      refine g_iload_n C dX4_ifRead_46 rfl rfl ?_
      refine g_aload_n C dX4_ifRead_47 rfl rfl ?_
      refine g_calliVF C 0 rfl rfl (c_X4_windNow E m b (wTr μ (mAl μ)) e he hbe) cf_X4_windNow gX4_ifRead_X4_windNow rfl (fitD (Nat.le_of_ble_eq_true rfl) (Nat.le_of_ble_eq_true rfl)) rfl rfl (Nat.le_of_ble_eq_true rfl) dX4_ifRead_48 (fun r1 w1 hp => ?_)
      obtain ⟨rfl, rfl⟩ := hp
      refine g_calliVF C 0 rfl rfl (c_X4_rises E m b (wTr μ (mAl μ)) (j) (by omega) q hq hs _ hr) cf_X4_rises gX4_ifRead_X4_rises rfl (fitD (Nat.le_of_ble_eq_true rfl) (Nat.le_of_ble_eq_true rfl)) rfl rfl (Nat.le_of_ble_eq_true rfl) dX4_ifRead_51 (fun r1 w1 hp => ?_)
      obtain ⟨⟨hb_51, rfl⟩ | ⟨hb_51, rfl⟩, rfl⟩ := hp
      · refine g_istore C dX4_ifRead_54 (Nat.le_of_ble_eq_true rfl) rfl ?_
        refine g_iload_n C dX4_ifRead_56 rfl rfl ?_
        refine g_if_ne C (tgt := 72) dX4_ifRead_57 (by decide) (fun hc_57 => ?_) (fun hc_57 => ?_)
        · refine g_iload_n C dX4_ifRead_72 rfl rfl ?_
          refine g_iconst C (v := 1) dX4_ifRead_73 rfl ?_
          refine g_icmp_ne C (tgt := 85) dX4_ifRead_74 (by decide) (fun hc_74 => ?_) (fun hc_74 => ?_)
          · refine g_iload_n C dX4_ifRead_85 rfl rfl ?_
            refine g_iconst C (v := 2) dX4_ifRead_86 rfl ?_
            refine g_icmp_ne C (tgt := 103) dX4_ifRead_87 (by decide) (fun hc_87 => ?_) (fun hc_87 => ?_)
            · refine g_iload C dX4_ifRead_103 rfl ?_
              refine g_if_eq_f C dX4_ifRead_105 112 (by decide) (by decide) ?_
              refine g_iconst C (v := 0) dX4_ifRead_108 rfl ?_
              refine g_goto C (tgt := 118) dX4_ifRead_109 (by decide) ?_
              refine g_istore C dX4_ifRead_118 (Nat.le_of_ble_eq_true rfl) rfl ?_
              refine g_aload_n C dX4_ifRead_120 rfl rfl ?_
              refine g_get C inX4 0 rfl rfl 2 (by decide) f16 rfl dX4_ifRead_121 ?_
              refine g_aload_n C dX4_ifRead_124 rfl rfl ?_
              refine g_get C inX4 0 rfl rfl 0 (by decide) f7 rfl dX4_ifRead_125 ?_
              refine g_callvSF C (c_X4_copy E _ 3 1 _ _ _ _ rfl rfl (by decide)) cf_X4_copy gX4_ifRead_X4_copy rfl (fitD (Nat.le_of_ble_eq_true rfl) (Nat.le_of_ble_eq_true rfl)) rfl rfl (Nat.le_of_ble_eq_true rfl) dX4_ifRead_128 (fun w1 hp => ?_)
              have hp : w1 = (modW E m b (wAl (xRises (wTr μ (mAl μ)) (j) q (gWi (wTr μ (mAl μ)) e)) (mTr (xRises (wTr μ (mAl μ)) (j) q (gWi (wTr μ (mAl μ)) e))))) := hp
              subst hp
              refine g_iload C dX4_ifRead_131 rfl ?_
              refine g_iret C R0 dX4_ifRead_133 ?_
              refine pM_mk (μ := wTr μ (mAl μ)) ?_ rfl
              rw [ifRM, if_pos hb_2, if_pos ⟨(i64_lo (s := w) (c := 0) (d := 0) (by decide)).mp hb_18.1, (i64_hi (s := w) (c := 3) (d := 3) (by decide)).mp hb_18.2⟩, hcl, ifRMG, if_neg hc_57, if_neg hc_74, if_neg hc_87, if_pos (show mIsC (mAl μ) j (gWi μ e) from hb_51)] <;> rfl
            · refine g_iload C dX4_ifRead_90 rfl ?_
              refine g_if_eq_f C dX4_ifRead_92 99 (by decide) (by decide) ?_
              refine g_iconst C (v := 1) dX4_ifRead_95 rfl ?_
              refine g_goto C (tgt := 118) dX4_ifRead_96 (by decide) ?_
              refine g_istore C dX4_ifRead_118 (Nat.le_of_ble_eq_true rfl) rfl ?_
              refine g_aload_n C dX4_ifRead_120 rfl rfl ?_
              refine g_get C inX4 0 rfl rfl 2 (by decide) f16 rfl dX4_ifRead_121 ?_
              refine g_aload_n C dX4_ifRead_124 rfl rfl ?_
              refine g_get C inX4 0 rfl rfl 0 (by decide) f7 rfl dX4_ifRead_125 ?_
              refine g_callvSF C (c_X4_copy E _ 3 1 _ _ _ _ rfl rfl (by decide)) cf_X4_copy gX4_ifRead_X4_copy rfl (fitD (Nat.le_of_ble_eq_true rfl) (Nat.le_of_ble_eq_true rfl)) rfl rfl (Nat.le_of_ble_eq_true rfl) dX4_ifRead_128 (fun w1 hp => ?_)
              have hp : w1 = (modW E m b (wAl (xRises (wTr μ (mAl μ)) (j) q (gWi (wTr μ (mAl μ)) e)) (mTr (xRises (wTr μ (mAl μ)) (j) q (gWi (wTr μ (mAl μ)) e))))) := hp
              subst hp
              refine g_iload C dX4_ifRead_131 rfl ?_
              refine g_iret C R0 dX4_ifRead_133 ?_
              refine pM_mk (μ := wTr μ (mAl μ)) ?_ rfl
              rw [ifRM, if_pos hb_2, if_pos ⟨(i64_lo (s := w) (c := 0) (d := 0) (by decide)).mp hb_18.1, (i64_hi (s := w) (c := 3) (d := 3) (by decide)).mp hb_18.2⟩, hcl, ifRMG, if_neg hc_57, if_neg hc_74, if_pos hc_87, if_pos (show mIsC (mAl μ) j (gWi μ e) from hb_51)] <;> rfl
          · refine g_aload_n C dX4_ifRead_77 rfl rfl ?_
            refine g_iload_n C dX4_ifRead_78 rfl rfl ?_
            refine g_calliVF C 0 rfl rfl (c_X4_heightOf E m b (xRises (wTr μ (mAl μ)) (j) q (gWi (wTr μ (mAl μ)) e)) (j) (by omega)) cf_X4_heightOf gX4_ifRead_X4_heightOf rfl (fitD (Nat.le_of_ble_eq_true rfl) (Nat.le_of_ble_eq_true rfl)) rfl rfl (Nat.le_of_ble_eq_true rfl) dX4_ifRead_79 (fun r1 w1 hp => ?_)
            obtain ⟨rfl, rfl⟩ := hp
            refine g_goto C (tgt := 118) dX4_ifRead_82 (by decide) ?_
            refine g_istore C dX4_ifRead_118 (Nat.le_of_ble_eq_true rfl) rfl ?_
            refine g_aload_n C dX4_ifRead_120 rfl rfl ?_
            refine g_get C inX4 0 rfl rfl 2 (by decide) f16 rfl dX4_ifRead_121 ?_
            refine g_aload_n C dX4_ifRead_124 rfl rfl ?_
            refine g_get C inX4 0 rfl rfl 0 (by decide) f7 rfl dX4_ifRead_125 ?_
            refine g_callvSF C (c_X4_copy E _ 3 1 _ _ _ _ rfl rfl (by decide)) cf_X4_copy gX4_ifRead_X4_copy rfl (fitD (Nat.le_of_ble_eq_true rfl) (Nat.le_of_ble_eq_true rfl)) rfl rfl (Nat.le_of_ble_eq_true rfl) dX4_ifRead_128 (fun w1 hp => ?_)
            have hp : w1 = (modW E m b (wAl (xRises (wTr μ (mAl μ)) (j) q (gWi (wTr μ (mAl μ)) e)) (mTr (xRises (wTr μ (mAl μ)) (j) q (gWi (wTr μ (mAl μ)) e))))) := hp
            subst hp
            refine g_iload C dX4_ifRead_131 rfl ?_
            refine g_iret C R0 dX4_ifRead_133 ?_
            refine pM_mk (μ := wTr μ (mAl μ)) ?_ rfl
            rw [ifRM, if_pos hb_2, if_pos ⟨(i64_lo (s := w) (c := 0) (d := 0) (by decide)).mp hb_18.1, (i64_hi (s := w) (c := 3) (d := 3) (by decide)).mp hb_18.2⟩, hcl, ifRMG, if_neg hc_57, if_pos hc_74] <;> rfl
        · refine g_aload_n C dX4_ifRead_60 rfl rfl ?_
          refine g_get C inX4 0 rfl rfl 0 (by decide) f7 rfl dX4_ifRead_61 ?_
          refine g_bipush C (v := 18) dX4_ifRead_64 rfl ?_
          refine g_iload_n C dX4_ifRead_66 rfl rfl ?_
          refine g_iadd C dX4_ifRead_67 ?_
          refine g_ialdE C 1 rfl (18 + j) (v := (gSt (xRises (wTr μ (mAl μ)) (j) q (gWi (wTr μ (mAl μ)) e)) (j))) (nI_add 18 (j)) (by omega) (Nat.le_of_ble_eq_true rfl) (pk_St (by omega)) dX4_ifRead_68 ?_
          refine g_goto C (tgt := 118) dX4_ifRead_69 (by decide) ?_
          refine g_istore C dX4_ifRead_118 (Nat.le_of_ble_eq_true rfl) rfl ?_
          refine g_aload_n C dX4_ifRead_120 rfl rfl ?_
          refine g_get C inX4 0 rfl rfl 2 (by decide) f16 rfl dX4_ifRead_121 ?_
          refine g_aload_n C dX4_ifRead_124 rfl rfl ?_
          refine g_get C inX4 0 rfl rfl 0 (by decide) f7 rfl dX4_ifRead_125 ?_
          refine g_callvSF C (c_X4_copy E _ 3 1 _ _ _ _ rfl rfl (by decide)) cf_X4_copy gX4_ifRead_X4_copy rfl (fitD (Nat.le_of_ble_eq_true rfl) (Nat.le_of_ble_eq_true rfl)) rfl rfl (Nat.le_of_ble_eq_true rfl) dX4_ifRead_128 (fun w1 hp => ?_)
          have hp : w1 = (modW E m b (wAl (xRises (wTr μ (mAl μ)) (j) q (gWi (wTr μ (mAl μ)) e)) (mTr (xRises (wTr μ (mAl μ)) (j) q (gWi (wTr μ (mAl μ)) e))))) := hp
          subst hp
          refine g_iload C dX4_ifRead_131 rfl ?_
          refine g_iret C R0 dX4_ifRead_133 ?_
          refine pM_mk (μ := wTr μ (mAl μ)) ?_ rfl
          rw [ifRM, if_pos hb_2, if_pos ⟨(i64_lo (s := w) (c := 0) (d := 0) (by decide)).mp hb_18.1, (i64_hi (s := w) (c := 3) (d := 3) (by decide)).mp hb_18.2⟩, hcl, ifRMG, if_pos hc_57] <;> rfl
      · refine g_istore C dX4_ifRead_54 (Nat.le_of_ble_eq_true rfl) rfl ?_
        refine g_iload_n C dX4_ifRead_56 rfl rfl ?_
        refine g_if_ne C (tgt := 72) dX4_ifRead_57 (by decide) (fun hc_57 => ?_) (fun hc_57 => ?_)
        · refine g_iload_n C dX4_ifRead_72 rfl rfl ?_
          refine g_iconst C (v := 1) dX4_ifRead_73 rfl ?_
          refine g_icmp_ne C (tgt := 85) dX4_ifRead_74 (by decide) (fun hc_74 => ?_) (fun hc_74 => ?_)
          · refine g_iload_n C dX4_ifRead_85 rfl rfl ?_
            refine g_iconst C (v := 2) dX4_ifRead_86 rfl ?_
            refine g_icmp_ne C (tgt := 103) dX4_ifRead_87 (by decide) (fun hc_87 => ?_) (fun hc_87 => ?_)
            · refine g_iload C dX4_ifRead_103 rfl ?_
              refine g_if_eq_t C dX4_ifRead_105 (tgt := 112) (by decide) (by decide) ?_
              refine g_aload_n C dX4_ifRead_112 rfl rfl ?_
              refine g_iload_n C dX4_ifRead_113 rfl rfl ?_
              refine g_iload_n C dX4_ifRead_114 rfl rfl ?_
              refine g_calliVF C 0 rfl rfl (c_X4_passed E m b (xRises (wTr μ (mAl μ)) (j) q (gWi (wTr μ (mAl μ)) e)) (j) (by omega) _) cf_X4_passed gX4_ifRead_X4_passed rfl (fitD (Nat.le_of_ble_eq_true rfl) (Nat.le_of_ble_eq_true rfl)) rfl rfl (Nat.le_of_ble_eq_true rfl) dX4_ifRead_115 (fun r1 w1 hp => ?_)
              obtain ⟨rfl, rfl⟩ := hp
              refine g_istore C dX4_ifRead_118 (Nat.le_of_ble_eq_true rfl) rfl ?_
              refine g_aload_n C dX4_ifRead_120 rfl rfl ?_
              refine g_get C inX4 0 rfl rfl 2 (by decide) f16 rfl dX4_ifRead_121 ?_
              refine g_aload_n C dX4_ifRead_124 rfl rfl ?_
              refine g_get C inX4 0 rfl rfl 0 (by decide) f7 rfl dX4_ifRead_125 ?_
              refine g_callvSF C (c_X4_copy E _ 3 1 _ _ _ _ rfl rfl (by decide)) cf_X4_copy gX4_ifRead_X4_copy rfl (fitD (Nat.le_of_ble_eq_true rfl) (Nat.le_of_ble_eq_true rfl)) rfl rfl (Nat.le_of_ble_eq_true rfl) dX4_ifRead_128 (fun w1 hp => ?_)
              have hp : w1 = (modW E m b (wAl (xRises (wTr μ (mAl μ)) (j) q (gWi (wTr μ (mAl μ)) e)) (mTr (xRises (wTr μ (mAl μ)) (j) q (gWi (wTr μ (mAl μ)) e))))) := hp
              subst hp
              refine g_iload C dX4_ifRead_131 rfl ?_
              refine g_iret C R0 dX4_ifRead_133 ?_
              refine pM_mk (μ := wTr μ (mAl μ)) ?_ rfl
              rw [ifRM, if_pos hb_2, if_pos ⟨(i64_lo (s := w) (c := 0) (d := 0) (by decide)).mp hb_18.1, (i64_hi (s := w) (c := 3) (d := 3) (by decide)).mp hb_18.2⟩, hcl, ifRMG, if_neg hc_57, if_neg hc_74, if_neg hc_87, if_neg (show ¬ mIsC (mAl μ) j (gWi μ e) from hb_51)] <;> rfl
            · refine g_iload C dX4_ifRead_90 rfl ?_
              refine g_if_eq_t C dX4_ifRead_92 (tgt := 99) (by decide) (by decide) ?_
              refine g_iconst C (v := 0) dX4_ifRead_99 rfl ?_
              refine g_goto C (tgt := 118) dX4_ifRead_100 (by decide) ?_
              refine g_istore C dX4_ifRead_118 (Nat.le_of_ble_eq_true rfl) rfl ?_
              refine g_aload_n C dX4_ifRead_120 rfl rfl ?_
              refine g_get C inX4 0 rfl rfl 2 (by decide) f16 rfl dX4_ifRead_121 ?_
              refine g_aload_n C dX4_ifRead_124 rfl rfl ?_
              refine g_get C inX4 0 rfl rfl 0 (by decide) f7 rfl dX4_ifRead_125 ?_
              refine g_callvSF C (c_X4_copy E _ 3 1 _ _ _ _ rfl rfl (by decide)) cf_X4_copy gX4_ifRead_X4_copy rfl (fitD (Nat.le_of_ble_eq_true rfl) (Nat.le_of_ble_eq_true rfl)) rfl rfl (Nat.le_of_ble_eq_true rfl) dX4_ifRead_128 (fun w1 hp => ?_)
              have hp : w1 = (modW E m b (wAl (xRises (wTr μ (mAl μ)) (j) q (gWi (wTr μ (mAl μ)) e)) (mTr (xRises (wTr μ (mAl μ)) (j) q (gWi (wTr μ (mAl μ)) e))))) := hp
              subst hp
              refine g_iload C dX4_ifRead_131 rfl ?_
              refine g_iret C R0 dX4_ifRead_133 ?_
              refine pM_mk (μ := wTr μ (mAl μ)) ?_ rfl
              rw [ifRM, if_pos hb_2, if_pos ⟨(i64_lo (s := w) (c := 0) (d := 0) (by decide)).mp hb_18.1, (i64_hi (s := w) (c := 3) (d := 3) (by decide)).mp hb_18.2⟩, hcl, ifRMG, if_neg hc_57, if_neg hc_74, if_pos hc_87, if_neg (show ¬ mIsC (mAl μ) j (gWi μ e) from hb_51)] <;> rfl
          · refine g_aload_n C dX4_ifRead_77 rfl rfl ?_
            refine g_iload_n C dX4_ifRead_78 rfl rfl ?_
            refine g_calliVF C 0 rfl rfl (c_X4_heightOf E m b (xRises (wTr μ (mAl μ)) (j) q (gWi (wTr μ (mAl μ)) e)) (j) (by omega)) cf_X4_heightOf gX4_ifRead_X4_heightOf rfl (fitD (Nat.le_of_ble_eq_true rfl) (Nat.le_of_ble_eq_true rfl)) rfl rfl (Nat.le_of_ble_eq_true rfl) dX4_ifRead_79 (fun r1 w1 hp => ?_)
            obtain ⟨rfl, rfl⟩ := hp
            refine g_goto C (tgt := 118) dX4_ifRead_82 (by decide) ?_
            refine g_istore C dX4_ifRead_118 (Nat.le_of_ble_eq_true rfl) rfl ?_
            refine g_aload_n C dX4_ifRead_120 rfl rfl ?_
            refine g_get C inX4 0 rfl rfl 2 (by decide) f16 rfl dX4_ifRead_121 ?_
            refine g_aload_n C dX4_ifRead_124 rfl rfl ?_
            refine g_get C inX4 0 rfl rfl 0 (by decide) f7 rfl dX4_ifRead_125 ?_
            refine g_callvSF C (c_X4_copy E _ 3 1 _ _ _ _ rfl rfl (by decide)) cf_X4_copy gX4_ifRead_X4_copy rfl (fitD (Nat.le_of_ble_eq_true rfl) (Nat.le_of_ble_eq_true rfl)) rfl rfl (Nat.le_of_ble_eq_true rfl) dX4_ifRead_128 (fun w1 hp => ?_)
            have hp : w1 = (modW E m b (wAl (xRises (wTr μ (mAl μ)) (j) q (gWi (wTr μ (mAl μ)) e)) (mTr (xRises (wTr μ (mAl μ)) (j) q (gWi (wTr μ (mAl μ)) e))))) := hp
            subst hp
            refine g_iload C dX4_ifRead_131 rfl ?_
            refine g_iret C R0 dX4_ifRead_133 ?_
            refine pM_mk (μ := wTr μ (mAl μ)) ?_ rfl
            rw [ifRM, if_pos hb_2, if_pos ⟨(i64_lo (s := w) (c := 0) (d := 0) (by decide)).mp hb_18.1, (i64_hi (s := w) (c := 3) (d := 3) (by decide)).mp hb_18.2⟩, hcl, ifRMG, if_neg hc_57, if_pos hc_74] <;> rfl
        · refine g_aload_n C dX4_ifRead_60 rfl rfl ?_
          refine g_get C inX4 0 rfl rfl 0 (by decide) f7 rfl dX4_ifRead_61 ?_
          refine g_bipush C (v := 18) dX4_ifRead_64 rfl ?_
          refine g_iload_n C dX4_ifRead_66 rfl rfl ?_
          refine g_iadd C dX4_ifRead_67 ?_
          refine g_ialdE C 1 rfl (18 + j) (v := (gSt (xRises (wTr μ (mAl μ)) (j) q (gWi (wTr μ (mAl μ)) e)) (j))) (nI_add 18 (j)) (by omega) (Nat.le_of_ble_eq_true rfl) (pk_St (by omega)) dX4_ifRead_68 ?_
          refine g_goto C (tgt := 118) dX4_ifRead_69 (by decide) ?_
          refine g_istore C dX4_ifRead_118 (Nat.le_of_ble_eq_true rfl) rfl ?_
          refine g_aload_n C dX4_ifRead_120 rfl rfl ?_
          refine g_get C inX4 0 rfl rfl 2 (by decide) f16 rfl dX4_ifRead_121 ?_
          refine g_aload_n C dX4_ifRead_124 rfl rfl ?_
          refine g_get C inX4 0 rfl rfl 0 (by decide) f7 rfl dX4_ifRead_125 ?_
          refine g_callvSF C (c_X4_copy E _ 3 1 _ _ _ _ rfl rfl (by decide)) cf_X4_copy gX4_ifRead_X4_copy rfl (fitD (Nat.le_of_ble_eq_true rfl) (Nat.le_of_ble_eq_true rfl)) rfl rfl (Nat.le_of_ble_eq_true rfl) dX4_ifRead_128 (fun w1 hp => ?_)
          have hp : w1 = (modW E m b (wAl (xRises (wTr μ (mAl μ)) (j) q (gWi (wTr μ (mAl μ)) e)) (mTr (xRises (wTr μ (mAl μ)) (j) q (gWi (wTr μ (mAl μ)) e))))) := hp
          subst hp
          refine g_iload C dX4_ifRead_131 rfl ?_
          refine g_iret C R0 dX4_ifRead_133 ?_
          refine pM_mk (μ := wTr μ (mAl μ)) ?_ rfl
          rw [ifRM, if_pos hb_2, if_pos ⟨(i64_lo (s := w) (c := 0) (d := 0) (by decide)).mp hb_18.1, (i64_hi (s := w) (c := 3) (d := 3) (by decide)).mp hb_18.2⟩, hcl, ifRMG, if_pos hc_57] <;> rfl
    · refine g_if_ne_f C dX4_ifRead_21 28 (by decide) (by decide) ?_
      refine g_sipush C (v := (-10002)) dX4_ifRead_24 rfl ?_
      refine g_iret C R0 dX4_ifRead_27 ?_
      refine pM_mk (μ := μ) ?_ rfl
      rw [ifRM, if_pos hb_2, if_neg (fun z => hb_18 ⟨(i64_lo (s := w) (c := 0) (d := 0) (by decide)).mpr z.1, (i64_hi (s := w) (c := 3) (d := 3) (by decide)).mpr z.2⟩)]
  · refine g_if_ne_f C dX4_ifRead_5 12 (by decide) (by decide) ?_
    refine g_sipush C (v := (-10001)) dX4_ifRead_8 rfl ?_
    refine g_iret C R0 dX4_ifRead_11 ?_
    refine pM_mk (μ := μ) ?_ rfl
    rw [ifRM, if_neg hb_2]
def rtF (j q : Nat) (w : Int32) : Nat → Nat → MS → Int32
  | 0, n, _ => nI n
  | f + 1, n, τ => if mIsC τ j w then nI n else rtF j q w f (n + 1) (mRises τ j q w)
def rtH (j q : Nat) (w : Int32) : Nat → MS → Prop
  | 0, τ => hR τ j w
  | f + 1, τ => hR τ j w ∧ (¬ mIsC τ j w → rtH j q w f (mRises τ j q w))
def rtM (μ : MD) (q e : Nat) (k : Int32) : Int32 × MD := if isKm (gSt μ) k then (rtF k.toNatClampNeg q (gWi μ e) 99 1 (mAl μ), wTr μ (mAl μ)) else (-10001, μ)
theorem rtH_h {j q : Nat} {w : Int32} {n : Nat} {τ : MS} (h : rtH j q w n τ) : hR τ j w := by
  cases n with
  | zero => exact h
  | succ n => exact h.1
theorem mRises_Be {τ : MS} {j q : Nat} {w : Int32} : (mRises τ j q w).2.1 = τ.2.1 := by
  unfold mRises; split <;> rfl
theorem mRises_Wi {τ : MS} {j q : Nat} {w : Int32} : sWi (mRises τ j q w).1 = sWi τ.1 := by
  unfold mRises; split <;> rfl
theorem mRises_St {τ : MS} {j q : Nat} {w : Int32} (h : ¬ mIsC τ j w) : sSt (mRises τ j q w).1 j = sSt τ.1 j := by
  unfold mRises; rw [if_neg h]; exact pk_us
set_option maxHeartbeats 4000000 in
set_option maxRecDepth 100000 in
theorem c_X4_readsToCut (E : Ev) (m : Nat) (b : Nat → Nat) (μ : MD) (q e : Nat) (he : e < 8) (hbe : gBe μ = nI e) (k : Int32) (hk : isKm (gSt μ) k → q < 4 ∧ gSt μ k.toNatClampNeg = nI q ∧ rtH k.toNatClampNeg q (gWi μ e) 99 (mAl μ)) : MI E yX4_readsToCut wsX4_readsToCut (rmD 5) (modW E m b μ) [.ref m, .int k] (pM E m b (rtM μ q e k)) := by
  have inX4 : ∀ w ∈ u_ws RX4 TX4 16, w ∈ wsX4_readsToCut := by decide +kernel
  have f7 : Cond.fieldLink RX4 7 (TX4 0).1 (TX4 0).2.1 (TX4 0).2.2.1 ∈ wsX4_readsToCut := by decide +kernel
  have f16 : Cond.fieldLink RX4 16 (TX4 2).1 (TX4 2).2.1 (TX4 2).2.2.1 ∈ wsX4_readsToCut := by decide +kernel
  refine MI.of (cc := cX4_readsToCut) (nL := 3) (ty := .int) (own := RX4) [some (.ref m), some (.int k), none] (by decide +kernel) rfl rfl (Nat.le_of_ble_eq_true rfl) rfl rfl ?_
  intro x C R0
  refine g_aload_n C dX4_readsToCut_0 rfl rfl ?_
  refine g_iload_n C dX4_readsToCut_1 rfl rfl ?_
  refine g_calliVF C 0 rfl rfl (c_X4_isKite E m b μ _) cf_X4_isKite gX4_readsToCut_X4_isKite rfl (fitD (Nat.le_of_ble_eq_true rfl) (Nat.le_of_ble_eq_true rfl)) rfl rfl (Nat.le_of_ble_eq_true rfl) dX4_readsToCut_2 (fun r1 w1 hp => ?_)
  obtain ⟨⟨hb_2, rfl⟩ | ⟨hb_2, rfl⟩, rfl⟩ := hp
  · obtain ⟨j, hj, rfl⟩ := i32_of (n := 12) hb_2.1 hb_2.2.1 (by decide)
    have hcl : (nI j).toNatClampNeg = j := nI_clamp (by omega)
    have hkj : ¬ gSt μ j = -10005 := by have := hb_2.2.2; rwa [hcl] at this
    obtain ⟨hq, hs, hr⟩ := hk hb_2
    rw [hcl] at hs hr
    refine g_if_ne_t C dX4_readsToCut_5 (tgt := 12) (by decide) (by decide) ?_
    refine g_aload_n C dX4_readsToCut_12 rfl rfl ?_
    refine g_get C inX4 0 rfl rfl 0 (by decide) f7 rfl dX4_readsToCut_13 ?_
    refine g_aload_n C dX4_readsToCut_16 rfl rfl ?_
    refine g_get C inX4 0 rfl rfl 2 (by decide) f16 rfl dX4_readsToCut_17 ?_
    refine g_callvSF C (c_X4_copy E _ 1 3 _ _ _ _ rfl rfl (by decide)) cf_X4_copy gX4_readsToCut_X4_copy rfl (fitD (Nat.le_of_ble_eq_true rfl) (Nat.le_of_ble_eq_true rfl)) rfl rfl (Nat.le_of_ble_eq_true rfl) dX4_readsToCut_20 (fun w1 hp => ?_)
    have hp : w1 = (modW E m b (wTr μ (mAl μ))) := hp
    subst hp
    refine g_iconst C (v := 1) dX4_readsToCut_23 rfl ?_
    refine g_istore_n C dX4_readsToCut_24 rfl (Nat.le_of_ble_eq_true rfl) rfl ?_
    have lp : ∀ (n9 i : Nat) (τ : MS), 101 - i < n9 → i ≤ 100 → τ.2.1 = nI e → sWi τ.1 = gWi μ → sSt τ.1 j = nI q → rtH j q (gWi μ e) (100 - i) τ → rtF j q (gWi μ e) (100 - i) i τ = rtF j q (gWi μ e) 99 1 (mAl μ) → G E x (modW E m b (wAl (wTr μ (mAl μ)) τ)) [some (.ref m), some (.int (nI j)), some (.int (nI i))] 25 [] := by
      intro n9
      induction n9 with
      | zero => intro i τ h1; omega
      | succ n9 ih =>
        intro i τ hn hi hbT hwT hsT hH hv
        refine g_aload_n C dX4_readsToCut_25 rfl rfl ?_
        refine g_iload_n C dX4_readsToCut_26 rfl rfl ?_
        refine g_aload_n C dX4_readsToCut_27 rfl rfl ?_
        refine g_calliVF C 0 rfl rfl (c_X4_windNow E m b (wAl (wTr μ (mAl μ)) τ) e he hbT) cf_X4_windNow gX4_readsToCut_X4_windNow rfl (fitD (Nat.le_of_ble_eq_true rfl) (Nat.le_of_ble_eq_true rfl)) rfl rfl (Nat.le_of_ble_eq_true rfl) dX4_readsToCut_28 (fun r1 w1 hp => ?_)
        obtain ⟨rfl, rfl⟩ := hp
        rw [show gWi (wAl (wTr μ (mAl μ)) τ) e = gWi μ e from congrFun hwT e]
        refine g_calliVF C 0 rfl rfl (c_X4_rises E m b (wAl (wTr μ (mAl μ)) τ) (j) (by omega) q hq hsT _ (rtH_h hH)) cf_X4_rises gX4_readsToCut_X4_rises rfl (fitD (Nat.le_of_ble_eq_true rfl) (Nat.le_of_ble_eq_true rfl)) rfl rfl (Nat.le_of_ble_eq_true rfl) dX4_readsToCut_31 (fun r1 w1 hp => ?_)
        obtain ⟨⟨hb_31, rfl⟩ | ⟨hb_31, rfl⟩, rfl⟩ := hp
        · refine g_if_ne_t C dX4_readsToCut_34 (tgt := 49) (by decide) (by decide) ?_
          refine g_aload_n C dX4_readsToCut_49 rfl rfl ?_
          refine g_get C inX4 0 rfl rfl 2 (by decide) f16 rfl dX4_readsToCut_50 ?_
          refine g_aload_n C dX4_readsToCut_53 rfl rfl ?_
          refine g_get C inX4 0 rfl rfl 0 (by decide) f7 rfl dX4_readsToCut_54 ?_
          refine g_callvSF C (c_X4_copy E _ 3 1 _ _ _ _ rfl rfl (by decide)) cf_X4_copy gX4_readsToCut_X4_copy rfl (fitD (Nat.le_of_ble_eq_true rfl) (Nat.le_of_ble_eq_true rfl)) rfl rfl (Nat.le_of_ble_eq_true rfl) dX4_readsToCut_57 (fun w1 hp => ?_)
          have hp : w1 = (modW E m b (wAl (xRises (wAl (wTr μ (mAl μ)) τ) (j) q (gWi μ e)) (mTr (xRises (wAl (wTr μ (mAl μ)) τ) (j) q (gWi μ e))))) := hp
          subst hp
          refine g_iload_n C dX4_readsToCut_60 rfl rfl ?_
          refine g_iret C R0 dX4_readsToCut_61 ?_
          refine pM_mk (μ := wTr μ (mAl μ)) ?_ rfl
          rw [rtM, if_pos hb_2, hcl, ← hv]
          rcases Nat.eq_or_lt_of_le hi with e100 | e100
          · rw [show 100 - i = 0 from by omega, rtF]
          · rw [show 100 - i = (99 - i) + 1 from by omega, rtF, if_pos (show mIsC τ j (gWi μ e) from hb_31)]
        · refine g_if_ne_f C dX4_readsToCut_34 49 (by decide) (by decide) ?_
          refine g_iload_n C dX4_readsToCut_37 rfl rfl ?_
          refine g_bipush C (v := 100) dX4_readsToCut_38 rfl ?_
          refine g_icmp_ge C (tgt := 49) dX4_readsToCut_40 (by decide) (fun hc_40 => ?_) (fun hc_40 => ?_)
          · have hn_40 : (100) ≤ (i) := (nI_leI (a := (100)) (b := (i)) (by omega) (by omega)).mp hc_40
            refine g_aload_n C dX4_readsToCut_49 rfl rfl ?_
            refine g_get C inX4 0 rfl rfl 2 (by decide) f16 rfl dX4_readsToCut_50 ?_
            refine g_aload_n C dX4_readsToCut_53 rfl rfl ?_
            refine g_get C inX4 0 rfl rfl 0 (by decide) f7 rfl dX4_readsToCut_54 ?_
            refine g_callvSF C (c_X4_copy E _ 3 1 _ _ _ _ rfl rfl (by decide)) cf_X4_copy gX4_readsToCut_X4_copy rfl (fitD (Nat.le_of_ble_eq_true rfl) (Nat.le_of_ble_eq_true rfl)) rfl rfl (Nat.le_of_ble_eq_true rfl) dX4_readsToCut_57 (fun w1 hp => ?_)
            have hp : w1 = (modW E m b (wAl (xRises (wAl (wTr μ (mAl μ)) τ) (j) q (gWi μ e)) (mTr (xRises (wAl (wTr μ (mAl μ)) τ) (j) q (gWi μ e))))) := hp
            subst hp
            refine g_iload_n C dX4_readsToCut_60 rfl rfl ?_
            refine g_iret C R0 dX4_readsToCut_61 ?_
            refine pM_mk (μ := wTr μ (mAl μ)) ?_ rfl
            rw [rtM, if_pos hb_2, hcl, ← hv]
            rw [show 100 - i = 0 from by omega, rtF]
          · have hn_40 : ¬ (100) ≤ (i) := fun z => hc_40 ((nI_leI (a := (100)) (b := (i)) (by omega) (by omega)).mpr z)
            refine g_iinc C (v := (nI (i + 1))) dX4_readsToCut_43 rfl rfl (nI_add (i) 1) ?_
            refine g_goto C (tgt := 25) dX4_readsToCut_46 (by decide) ?_
            have hi2 : i < 100 := by omega
            rw [show 100 - i = (100 - (i + 1)) + 1 from by omega, rtF, if_neg (show ¬ mIsC τ j (gWi μ e) from hb_31)] at hv
            rw [show 100 - i = (100 - (i + 1)) + 1 from by omega] at hH
            exact ih (i + 1) (mRises τ j q (gWi μ e)) (by omega) (by omega) (mRises_Be.trans hbT) (mRises_Wi.trans hwT) ((mRises_St hb_31).trans hsT) (hH.2 hb_31) hv
    exact lp 101 1 (mAl μ) (by omega) (by omega) hbe rfl hs hr rfl
  · refine g_if_ne_f C dX4_readsToCut_5 12 (by decide) (by decide) ?_
    refine g_sipush C (v := (-10001)) dX4_readsToCut_8 rfl ?_
    refine g_iret C R0 dX4_readsToCut_11 ?_
    refine pM_mk (μ := μ) ?_ rfl
    rw [rtM, if_neg hb_2]
def diF (j : Nat) (g : Int32) : Nat → Nat → MS → Nat
  | 0, n, _ => n
  | f + 1, n, τ => if g < sHt τ.1 j then diF j g f (n + 1) (mBeat1 τ) else n
def diH (j : Nat) (g : Int32) : Nat → MS → Prop
  | 0, _ => True
  | f + 1, τ => g < sHt τ.1 j → hBt τ 1 ∧ diH j g f (mBeat1 τ)
theorem diF_le {j : Nat} {g : Int32} : ∀ f n τ, diF j g f n τ ≤ n + f
  | 0, n, τ => Nat.le_refl _
  | f + 1, n, τ => by
    rw [diF]; split
    · have := diF_le (j := j) (g := g) f (n + 1) (mBeat1 τ); omega
    · omega
def diM (μ : MD) (k g : Int32) : Int32 × MD := if isKm (gSt μ) k then (if 0 ≤ g ∧ g ≤ 99 then (if 200 < diF k.toNatClampNeg g 201 0 (mAl μ) then -10005 else nI (diF k.toNatClampNeg g 201 0 (mAl μ)), wTr μ (mAl μ)) else (-10002, μ)) else (-10001, μ)
set_option maxHeartbeats 4000000 in
set_option maxRecDepth 100000 in
theorem c_X4_downIn (E : Ev) (m : Nat) (b : Nat → Nat) (μ : MD) (k g : Int32) (hk : isKm (gSt μ) k → diH k.toNatClampNeg g 201 (mAl μ)) : MI E yX4_downIn wsX4_downIn (rmD 4) (modW E m b μ) [.ref m, .int k, .int g] (pM E m b (diM μ k g)) := by
  have k209 : Cond.constantLong RX4 209 (99) ∈ wsX4_downIn := by decide +kernel
  have inX4 : ∀ w ∈ u_ws RX4 TX4 16, w ∈ wsX4_downIn := by decide +kernel
  have f7 : Cond.fieldLink RX4 7 (TX4 0).1 (TX4 0).2.1 (TX4 0).2.2.1 ∈ wsX4_downIn := by decide +kernel
  have f16 : Cond.fieldLink RX4 16 (TX4 2).1 (TX4 2).2.1 (TX4 2).2.2.1 ∈ wsX4_downIn := by decide +kernel
  refine MI.of (cc := cX4_downIn) (nL := 4) (ty := .int) (own := RX4) [some (.ref m), some (.int k), some (.int g), none] (by decide +kernel) rfl rfl (Nat.le_of_ble_eq_true rfl) rfl rfl ?_
  intro x C R0
  refine g_aload_n C dX4_downIn_0 rfl rfl ?_
  refine g_iload_n C dX4_downIn_1 rfl rfl ?_
  refine g_calliVF C 0 rfl rfl (c_X4_isKite E m b μ _) cf_X4_isKite gX4_downIn_X4_isKite rfl (fitD (Nat.le_of_ble_eq_true rfl) (Nat.le_of_ble_eq_true rfl)) rfl rfl (Nat.le_of_ble_eq_true rfl) dX4_downIn_2 (fun r1 w1 hp => ?_)
  obtain ⟨⟨hb_2, rfl⟩ | ⟨hb_2, rfl⟩, rfl⟩ := hp
  · obtain ⟨j, hj, rfl⟩ := i32_of (n := 12) hb_2.1 hb_2.2.1 (by decide)
    have hcl : (nI j).toNatClampNeg = j := nI_clamp (by omega)
    have hkj : ¬ gSt μ j = -10005 := by have := hb_2.2.2; rwa [hcl] at this
    have hr := hk hb_2
    rw [hcl] at hr
    refine g_if_ne_t C dX4_downIn_5 (tgt := 12) (by decide) (by decide) ?_
    refine g_iload_n C dX4_downIn_12 rfl rfl ?_
    refine g_i2l C dX4_downIn_13 ?_
    refine g_lconst C (v := 0) dX4_downIn_14 rfl ?_
    refine g_ldc2 C k209 dX4_downIn_15 ?_
    refine g_calliSF C (c_X4_in E _ _ _ _) cf_X4_in gX4_downIn_X4_in rfl (fitD (Nat.le_of_ble_eq_true rfl) (Nat.le_of_ble_eq_true rfl)) rfl rfl (Nat.le_of_ble_eq_true rfl) dX4_downIn_18 (fun r1 w1 hp => ?_)
    obtain ⟨⟨hb_18, rfl⟩ | ⟨hb_18, rfl⟩, rfl⟩ := hp
    · refine g_if_ne_t C dX4_downIn_21 (tgt := 28) (by decide) (by decide) ?_
      refine g_aload_n C dX4_downIn_28 rfl rfl ?_
      refine g_get C inX4 0 rfl rfl 0 (by decide) f7 rfl dX4_downIn_29 ?_
      refine g_aload_n C dX4_downIn_32 rfl rfl ?_
      refine g_get C inX4 0 rfl rfl 2 (by decide) f16 rfl dX4_downIn_33 ?_
      refine g_callvSF C (c_X4_copy E _ 1 3 _ _ _ _ rfl rfl (by decide)) cf_X4_copy gX4_downIn_X4_copy rfl (fitD (Nat.le_of_ble_eq_true rfl) (Nat.le_of_ble_eq_true rfl)) rfl rfl (Nat.le_of_ble_eq_true rfl) dX4_downIn_36 (fun w1 hp => ?_)
      have hp : w1 = (modW E m b (wTr μ (mAl μ))) := hp
      subst hp
      refine g_iconst C (v := 0) dX4_downIn_39 rfl ?_
      refine g_istore_n C dX4_downIn_40 rfl (Nat.le_of_ble_eq_true rfl) rfl ?_
      have lp : ∀ (n9 i : Nat) (τ : MS), 202 - i < n9 → i ≤ 201 → diH j g (201 - i) τ → diF j g (201 - i) i τ = diF j g 201 0 (mAl μ) → G E x (modW E m b (wAl (wTr μ (mAl μ)) τ)) [some (.ref m), some (.int (nI j)), some (.int g), some (.int (nI i))] 41 [] := by
        intro n9
        induction n9 with
        | zero => intro i τ h1; omega
        | succ n9 ih =>
          intro i τ hn hi hH hv
          refine g_aload_n C dX4_downIn_41 rfl rfl ?_
          refine g_iload_n C dX4_downIn_42 rfl rfl ?_
          refine g_calliVF C 0 rfl rfl (c_X4_heightOf E m b (wAl (wTr μ (mAl μ)) τ) (j) (by omega)) cf_X4_heightOf gX4_downIn_X4_heightOf rfl (fitD (Nat.le_of_ble_eq_true rfl) (Nat.le_of_ble_eq_true rfl)) rfl rfl (Nat.le_of_ble_eq_true rfl) dX4_downIn_43 (fun r1 w1 hp => ?_)
          obtain ⟨rfl, rfl⟩ := hp
          refine g_iload_n C dX4_downIn_46 rfl rfl ?_
          refine g_icmp_le C (tgt := 68) dX4_downIn_47 (by decide) (fun hc_47 => ?_) (fun hc_47 => ?_)
          · refine g_aload_n C dX4_downIn_68 rfl rfl ?_
            refine g_get C inX4 0 rfl rfl 2 (by decide) f16 rfl dX4_downIn_69 ?_
            refine g_aload_n C dX4_downIn_72 rfl rfl ?_
            refine g_get C inX4 0 rfl rfl 0 (by decide) f7 rfl dX4_downIn_73 ?_
            refine g_callvSF C (c_X4_copy E _ 3 1 _ _ _ _ rfl rfl (by decide)) cf_X4_copy gX4_downIn_X4_copy rfl (fitD (Nat.le_of_ble_eq_true rfl) (Nat.le_of_ble_eq_true rfl)) rfl rfl (Nat.le_of_ble_eq_true rfl) dX4_downIn_76 (fun w1 hp => ?_)
            have hp : w1 = (modW E m b (wAl (wAl (wTr μ (mAl μ)) τ) (mTr (wAl (wTr μ (mAl μ)) τ)))) := hp
            subst hp
            refine g_iload_n C dX4_downIn_79 rfl rfl ?_
            refine g_sipush C (v := 200) dX4_downIn_80 rfl ?_
            refine g_icmp_le C (tgt := 92) dX4_downIn_83 (by decide) (fun hc_83 => ?_) (fun hc_83 => ?_)
            · have hn_83 : (i) ≤ (200) := (nI_leI (a := (i)) (b := (200)) (by omega) (by omega)).mp hc_83
              refine g_iload_n C dX4_downIn_92 rfl rfl ?_
              refine g_iret C R0 dX4_downIn_93 ?_
              have hd : diF j g 201 0 (mAl μ) = i := by
                rw [← hv]
                rcases Nat.eq_or_lt_of_le hi with e | e
                · rw [show 201 - i = 0 from by omega, diF]
                · rw [show 201 - i = (200 - i) + 1 from by omega, diF, if_neg (show ¬ g < sHt τ.1 j from i32_nlt hc_47)]
              refine pM_mk (μ := wTr μ (mAl μ)) ?_ rfl
              rw [diM, if_pos hb_2, if_pos ⟨(i64_lo (s := g) (c := 0) (d := 0) (by decide)).mp hb_18.1, (i64_hi (s := g) (c := 99) (d := 99) (by decide)).mp hb_18.2⟩, hcl, hd, if_neg (by omega)]
            · have hn_83 : ¬ (i) ≤ (200) := fun z => hc_83 ((nI_leI (a := (i)) (b := (200)) (by omega) (by omega)).mpr z)
              refine g_sipush C (v := (-10005)) dX4_downIn_86 rfl ?_
              refine g_goto C (tgt := 93) dX4_downIn_89 (by decide) ?_
              refine g_iret C R0 dX4_downIn_93 ?_
              have hd : diF j g 201 0 (mAl μ) = i := by
                rw [← hv]
                rcases Nat.eq_or_lt_of_le hi with e | e
                · rw [show 201 - i = 0 from by omega, diF]
                · rw [show 201 - i = (200 - i) + 1 from by omega, diF, if_neg (show ¬ g < sHt τ.1 j from i32_nlt hc_47)]
              refine pM_mk (μ := wTr μ (mAl μ)) ?_ rfl
              rw [diM, if_pos hb_2, if_pos ⟨(i64_lo (s := g) (c := 0) (d := 0) (by decide)).mp hb_18.1, (i64_hi (s := g) (c := 99) (d := 99) (by decide)).mp hb_18.2⟩, hcl, hd, if_pos (by omega)]
          · refine g_iload_n C dX4_downIn_50 rfl rfl ?_
            refine g_sipush C (v := 200) dX4_downIn_51 rfl ?_
            refine g_icmp_gt C (tgt := 68) dX4_downIn_54 (by decide) (fun hc_54 => ?_) (fun hc_54 => ?_)
            · have hn_54 : (200) < (i) := (nI_ltI (a := (200)) (b := (i)) (by omega) (by omega)).mp hc_54
              refine g_aload_n C dX4_downIn_68 rfl rfl ?_
              refine g_get C inX4 0 rfl rfl 2 (by decide) f16 rfl dX4_downIn_69 ?_
              refine g_aload_n C dX4_downIn_72 rfl rfl ?_
              refine g_get C inX4 0 rfl rfl 0 (by decide) f7 rfl dX4_downIn_73 ?_
              refine g_callvSF C (c_X4_copy E _ 3 1 _ _ _ _ rfl rfl (by decide)) cf_X4_copy gX4_downIn_X4_copy rfl (fitD (Nat.le_of_ble_eq_true rfl) (Nat.le_of_ble_eq_true rfl)) rfl rfl (Nat.le_of_ble_eq_true rfl) dX4_downIn_76 (fun w1 hp => ?_)
              have hp : w1 = (modW E m b (wAl (wAl (wTr μ (mAl μ)) τ) (mTr (wAl (wTr μ (mAl μ)) τ)))) := hp
              subst hp
              refine g_iload_n C dX4_downIn_79 rfl rfl ?_
              refine g_sipush C (v := 200) dX4_downIn_80 rfl ?_
              refine g_icmp_le C (tgt := 92) dX4_downIn_83 (by decide) (fun hc_83 => ?_) (fun hc_83 => ?_)
              · have hn_83 : (i) ≤ (200) := (nI_leI (a := (i)) (b := (200)) (by omega) (by omega)).mp hc_83
                refine g_iload_n C dX4_downIn_92 rfl rfl ?_
                refine g_iret C R0 dX4_downIn_93 ?_
                have hd : diF j g 201 0 (mAl μ) = i := by
                  rw [← hv, show 201 - i = 0 from by omega, diF]
                refine pM_mk (μ := wTr μ (mAl μ)) ?_ rfl
                rw [diM, if_pos hb_2, if_pos ⟨(i64_lo (s := g) (c := 0) (d := 0) (by decide)).mp hb_18.1, (i64_hi (s := g) (c := 99) (d := 99) (by decide)).mp hb_18.2⟩, hcl, hd, if_neg (by omega)]
              · have hn_83 : ¬ (i) ≤ (200) := fun z => hc_83 ((nI_leI (a := (i)) (b := (200)) (by omega) (by omega)).mpr z)
                refine g_sipush C (v := (-10005)) dX4_downIn_86 rfl ?_
                refine g_goto C (tgt := 93) dX4_downIn_89 (by decide) ?_
                refine g_iret C R0 dX4_downIn_93 ?_
                have hd : diF j g 201 0 (mAl μ) = i := by
                  rw [← hv, show 201 - i = 0 from by omega, diF]
                refine pM_mk (μ := wTr μ (mAl μ)) ?_ rfl
                rw [diM, if_pos hb_2, if_pos ⟨(i64_lo (s := g) (c := 0) (d := 0) (by decide)).mp hb_18.1, (i64_hi (s := g) (c := 99) (d := 99) (by decide)).mp hb_18.2⟩, hcl, hd, if_pos (by omega)]
            · have hn_54 : ¬ (200) < (i) := fun z => hc_54 ((nI_ltI (a := (200)) (b := (i)) (by omega) (by omega)).mpr z)
              refine g_aload_n C dX4_downIn_57 rfl rfl ?_
              refine g_iconst C (v := 1) dX4_downIn_58 rfl ?_
              refine g_callvVF C 0 rfl rfl (c_X4_beats E m b (wAl (wTr μ (mAl μ)) τ) (1) (by omega) (by rw [show 201 - i = (201 - (i + 1)) + 1 from by omega] at hH; exact (hH (i32_lt.mp hc_47)).1)) cf_X4_beats gX4_downIn_X4_beats rfl (fitD (Nat.le_of_ble_eq_true rfl) (Nat.le_of_ble_eq_true rfl)) rfl rfl (Nat.le_of_ble_eq_true rfl) dX4_downIn_59 (fun w1 hp => ?_)
              obtain rfl := hp
              refine g_iinc C (v := (nI (i + 1))) dX4_downIn_62 rfl rfl (nI_add (i) 1) ?_
              refine g_goto C (tgt := 41) dX4_downIn_65 (by decide) ?_
              have hgt : g < sHt τ.1 j := i32_lt.mp hc_47
              rw [show 201 - i = (201 - (i + 1)) + 1 from by omega, diF, if_pos hgt] at hv
              rw [show 201 - i = (201 - (i + 1)) + 1 from by omega] at hH
              exact ih (i + 1) (mBeat1 τ) (by omega) (by omega) (hH hgt).2 hv
      exact lp 203 0 (mAl μ) (by omega) (by omega) hr rfl
    · refine g_if_ne_f C dX4_downIn_21 28 (by decide) (by decide) ?_
      refine g_sipush C (v := (-10002)) dX4_downIn_24 rfl ?_
      refine g_iret C R0 dX4_downIn_27 ?_
      refine pM_mk (μ := μ) ?_ rfl
      rw [diM, if_pos hb_2, if_neg (fun z => hb_18 ⟨(i64_lo (s := g) (c := 0) (d := 0) (by decide)).mpr z.1, (i64_hi (s := g) (c := 99) (d := 99) (by decide)).mpr z.2⟩)]
  · refine g_if_ne_f C dX4_downIn_5 12 (by decide) (by decide) ?_
    refine g_sipush C (v := (-10001)) dX4_downIn_8 rfl ?_
    refine g_iret C R0 dX4_downIn_11 ?_
    refine pM_mk (μ := μ) ?_ rfl
    rw [diM, if_neg hb_2]
def sfM (τ : MS) (w : Int32) : Prop := ∀ k, k < 12 → ¬ sSt τ.1 k = -10005 → ¬ mIsC τ k w
def hSf (τ : MS) (w : Int32) : Prop := ∀ k, k < 12 → ¬ sSt τ.1 k = -10005 → (∃ q, q < 4 ∧ sSt τ.1 k = nI q) ∧ hR τ k w
set_option maxHeartbeats 4000000 in
set_option maxRecDepth 100000 in
theorem c_X4_isSafe (E : Ev) (m : Nat) (b : Nat → Nat) (μ : MD) (w : Int32) (hs : hSf (mAl μ) w) : MI E yX4_isSafe wsX4_isSafe (rmD 5) (modW E m b μ) [.ref m, .int w] (fun r w9 => (sfM (mAl μ) w ∧ r = 1 ∨ ¬ sfM (mAl μ) w ∧ r = 0) ∧ ∃ t, w9 = modW E m b (wTr μ t)) := by
  have inX4 : ∀ w ∈ u_ws RX4 TX4 16, w ∈ wsX4_isSafe := by decide +kernel
  have f7 : Cond.fieldLink RX4 7 (TX4 0).1 (TX4 0).2.1 (TX4 0).2.2.1 ∈ wsX4_isSafe := by decide +kernel
  have f16 : Cond.fieldLink RX4 16 (TX4 2).1 (TX4 2).2.1 (TX4 2).2.2.1 ∈ wsX4_isSafe := by decide +kernel
  refine MI.of (cc := cX4_isSafe) (nL := 4) (ty := .boolean) (own := RX4) [some (.ref m), some (.int w), none, none] (by decide +kernel) rfl rfl (Nat.le_of_ble_eq_true rfl) rfl rfl ?_
  intro x C R0
  have lp0 : ∀ (i : Nat) (t : MS), i ≤ 12 → ¬ sfM (mAl μ) w → G E x (modW E m b (wTr μ t)) [some (.ref m), some (.int w), some (.int 0), some (.int (nI i))] 4 [] := by
    intro i t hi hv
    refine g_iload_n C dX4_isSafe_4 rfl rfl ?_
    refine g_bipush C (v := 12) dX4_isSafe_5 rfl ?_
    refine g_icmp_ge C (tgt := 65) dX4_isSafe_7 (by decide) (fun hc_7 => ?_) (fun hc_7 => ?_)
    · have hn_7 : (12) ≤ (i) := (nI_leI (a := (12)) (b := (i)) (by omega) (by omega)).mp hc_7
      refine g_iload_n C dX4_isSafe_65 rfl rfl ?_
      refine g_zret C R0 rfl dX4_isSafe_66 ?_
      exact ⟨Or.inr ⟨hv, rfl⟩, _, rfl⟩
    · have hn_7 : ¬ (12) ≤ (i) := fun z => hc_7 ((nI_leI (a := (12)) (b := (i)) (by omega) (by omega)).mpr z)
      refine g_iload_n C dX4_isSafe_10 rfl rfl ?_
      refine g_if_eq_t C dX4_isSafe_11 (tgt := 65) (by decide) (by decide) ?_
      refine g_iload_n C dX4_isSafe_65 rfl rfl ?_
      refine g_zret C R0 rfl dX4_isSafe_66 ?_
      exact ⟨Or.inr ⟨hv, rfl⟩, _, rfl⟩
  have lp : ∀ (n i : Nat) (t : MS), 12 - i < n → i ≤ 12 → (∀ k, k < i → ¬ gSt μ k = -10005 → ¬ mIsC (mAl μ) k w) → G E x (modW E m b (wTr μ t)) [some (.ref m), some (.int w), some (.int 1), some (.int (nI i))] 4 [] := by
    intro n
    induction n with
    | zero => intro i t h1; omega
    | succ n ih =>
      intro i t hn hi hv
      refine g_iload_n C dX4_isSafe_4 rfl rfl ?_
      refine g_bipush C (v := 12) dX4_isSafe_5 rfl ?_
      refine g_icmp_ge C (tgt := 65) dX4_isSafe_7 (by decide) (fun hc_7 => ?_) (fun hc_7 => ?_)
      · have hn_7 : (12) ≤ (i) := (nI_leI (a := (12)) (b := (i)) (by omega) (by omega)).mp hc_7
        refine g_iload_n C dX4_isSafe_65 rfl rfl ?_
        refine g_zret C R0 rfl dX4_isSafe_66 ?_
        exact ⟨Or.inl ⟨fun k hk => hv k (by omega), rfl⟩, _, rfl⟩
      · have hn_7 : ¬ (12) ≤ (i) := fun z => hc_7 ((nI_leI (a := (12)) (b := (i)) (by omega) (by omega)).mpr z)
        refine g_iload_n C dX4_isSafe_10 rfl rfl ?_
        refine g_if_eq_f C dX4_isSafe_11 65 (by decide) (by decide) ?_
        refine g_aload_n C dX4_isSafe_14 rfl rfl ?_
        refine g_iload_n C dX4_isSafe_15 rfl rfl ?_
        refine g_calliVF C 0 rfl rfl (c_X4_isKite E m b (wTr μ t) _) cf_X4_isKite gX4_isSafe_X4_isKite rfl (fitD (Nat.le_of_ble_eq_true rfl) (Nat.le_of_ble_eq_true rfl)) rfl rfl (Nat.le_of_ble_eq_true rfl) dX4_isSafe_16 (fun r1 w1 hp => ?_)
        obtain ⟨⟨hb_16, rfl⟩ | ⟨hb_16, rfl⟩, rfl⟩ := hp
        · have hlk : ¬ gSt μ i = -10005 := (isKm_nI (by omega)).mp hb_16
          obtain ⟨⟨q, hq, hsq⟩, hr⟩ := hs i (by omega) hlk
          refine g_if_eq_f C dX4_isSafe_19 59 (by decide) (by decide) ?_
          refine g_aload_n C dX4_isSafe_22 rfl rfl ?_
          refine g_get C inX4 0 rfl rfl 0 (by decide) f7 rfl dX4_isSafe_23 ?_
          refine g_aload_n C dX4_isSafe_26 rfl rfl ?_
          refine g_get C inX4 0 rfl rfl 2 (by decide) f16 rfl dX4_isSafe_27 ?_
          refine g_callvSF C (c_X4_copy E _ 1 3 _ _ _ _ rfl rfl (by decide)) cf_X4_copy gX4_isSafe_X4_copy rfl (fitD (Nat.le_of_ble_eq_true rfl) (Nat.le_of_ble_eq_true rfl)) rfl rfl (Nat.le_of_ble_eq_true rfl) dX4_isSafe_30 (fun w1 hp => ?_)
          have hp : w1 = (modW E m b (wTr (wTr μ t) (mAl (wTr μ t)))) := hp
          subst hp
          refine g_aload_n C dX4_isSafe_33 rfl rfl ?_
          refine g_iload_n C dX4_isSafe_34 rfl rfl ?_
          refine g_iload_n C dX4_isSafe_35 rfl rfl ?_
          refine g_calliVF C 0 rfl rfl (c_X4_rises E m b (wTr (wTr μ t) (mAl (wTr μ t))) (i) (by omega) q hq hsq _ hr) cf_X4_rises gX4_isSafe_X4_rises rfl (fitD (Nat.le_of_ble_eq_true rfl) (Nat.le_of_ble_eq_true rfl)) rfl rfl (Nat.le_of_ble_eq_true rfl) dX4_isSafe_36 (fun r1 w1 hp => ?_)
          obtain ⟨⟨hb_36, rfl⟩ | ⟨hb_36, rfl⟩, rfl⟩ := hp
          · refine g_if_ne_t C dX4_isSafe_39 (tgt := 46) (by decide) (by decide) ?_
            refine g_iconst C (v := 0) dX4_isSafe_46 rfl ?_
            refine g_istore_n C dX4_isSafe_47 rfl (Nat.le_of_ble_eq_true rfl) rfl ?_
            refine g_aload_n C dX4_isSafe_48 rfl rfl ?_
            refine g_get C inX4 0 rfl rfl 2 (by decide) f16 rfl dX4_isSafe_49 ?_
            refine g_aload_n C dX4_isSafe_52 rfl rfl ?_
            refine g_get C inX4 0 rfl rfl 0 (by decide) f7 rfl dX4_isSafe_53 ?_
            refine g_callvSF C (c_X4_copy E _ 3 1 _ _ _ _ rfl rfl (by decide)) cf_X4_copy gX4_isSafe_X4_copy rfl (fitD (Nat.le_of_ble_eq_true rfl) (Nat.le_of_ble_eq_true rfl)) rfl rfl (Nat.le_of_ble_eq_true rfl) dX4_isSafe_56 (fun w1 hp => ?_)
            have hp : w1 = (modW E m b (wAl (xRises (wTr (wTr μ t) (mAl (wTr μ t))) (i) q w) (mTr (xRises (wTr (wTr μ t) (mAl (wTr μ t))) (i) q w)))) := hp
            subst hp
            refine g_iinc C (v := (nI (i + 1))) dX4_isSafe_59 rfl rfl (nI_add (i) 1) ?_
            refine g_goto C (tgt := 4) dX4_isSafe_62 (by decide) ?_
            exact lp0 (i + 1) (mAl μ) (by omega) (fun y => y i (by omega) hlk hb_36)
          · refine g_if_ne_f C dX4_isSafe_39 46 (by decide) (by decide) ?_
            refine g_iconst C (v := 1) dX4_isSafe_42 rfl ?_
            refine g_goto C (tgt := 47) dX4_isSafe_43 (by decide) ?_
            refine g_istore_n C dX4_isSafe_47 rfl (Nat.le_of_ble_eq_true rfl) rfl ?_
            refine g_aload_n C dX4_isSafe_48 rfl rfl ?_
            refine g_get C inX4 0 rfl rfl 2 (by decide) f16 rfl dX4_isSafe_49 ?_
            refine g_aload_n C dX4_isSafe_52 rfl rfl ?_
            refine g_get C inX4 0 rfl rfl 0 (by decide) f7 rfl dX4_isSafe_53 ?_
            refine g_callvSF C (c_X4_copy E _ 3 1 _ _ _ _ rfl rfl (by decide)) cf_X4_copy gX4_isSafe_X4_copy rfl (fitD (Nat.le_of_ble_eq_true rfl) (Nat.le_of_ble_eq_true rfl)) rfl rfl (Nat.le_of_ble_eq_true rfl) dX4_isSafe_56 (fun w1 hp => ?_)
            have hp : w1 = (modW E m b (wAl (xRises (wTr (wTr μ t) (mAl (wTr μ t))) (i) q w) (mTr (xRises (wTr (wTr μ t) (mAl (wTr μ t))) (i) q w)))) := hp
            subst hp
            refine g_iinc C (v := (nI (i + 1))) dX4_isSafe_59 rfl rfl (nI_add (i) 1) ?_
            refine g_goto C (tgt := 4) dX4_isSafe_62 (by decide) ?_
            exact ih (i + 1) (mAl μ) (by omega) (by omega) (lt_s hv (fun _ => hb_36))
        · refine g_if_eq_t C dX4_isSafe_19 (tgt := 59) (by decide) (by decide) ?_
          refine g_iinc C (v := (nI (i + 1))) dX4_isSafe_59 rfl rfl (nI_add (i) 1) ?_
          refine g_goto C (tgt := 4) dX4_isSafe_62 (by decide) ?_
          exact ih (i + 1) t (by omega) (by omega) (lt_s hv (fun y => absurd y (fun y2 => hb_16 ((isKm_nI (by omega)).mpr y2))))
  refine g_iconst C (v := 1) dX4_isSafe_0 rfl ?_
  refine g_istore_n C dX4_isSafe_1 rfl (Nat.le_of_ble_eq_true rfl) rfl ?_
  refine g_iconst C (v := 0) dX4_isSafe_2 rfl ?_
  refine g_istore_n C dX4_isSafe_3 rfl (Nat.le_of_ble_eq_true rfl) rfl ?_
  refine g_eq (ws' := modW E m b (wTr μ (mTr μ))) rfl rfl rfl ?_
  exact lp 13 0 (mTr μ) (by omega) (by omega) lt_0
noncomputable def swF (τ : MS) : Nat → Int32
  | 0 => -10005
  | n + 1 => @ite _ (sfM τ (nI n)) (Classical.propDecidable _) (nI n) (swF τ n)
set_option maxHeartbeats 4000000 in
set_option maxRecDepth 100000 in
theorem c_X4_safeWind (E : Ev) (m : Nat) (b : Nat → Nat) (μ : MD) (hs : ∀ n, n < 10 → hSf (mAl μ) (nI n)) : MI E yX4_safeWind wsX4_safeWind (rmD 6) (modW E m b μ) [.ref m] (fun r w9 => r = swF (mAl μ) 10 ∧ ∃ t, w9 = modW E m b (wTr μ t)) := by
  refine MI.of (cc := cX4_safeWind) (nL := 2) (ty := .int) (own := RX4) [some (.ref m), none] (by decide +kernel) rfl rfl (Nat.le_of_ble_eq_true rfl) rfl rfl ?_
  intro x C R0
  have lp : ∀ (n : Nat) (t : MS), n ≤ 10 → swF (mAl μ) n = swF (mAl μ) 10 → G E x (modW E m b (wTr μ t)) [some (.ref m), some (.int (nI n - 1))] 3 [] := by
    intro n
    induction n with
    | zero =>
      intro t hn hv
      refine g_iload_n C dX4_safeWind_3 rfl rfl ?_
      refine g_if_lt_t C dX4_safeWind_4 (tgt := 21) (by decide) (by decide) ?_
      refine g_iload_n C dX4_safeWind_21 rfl rfl ?_
      refine g_if_ge_f C dX4_safeWind_22 31 (by decide) (by decide) ?_
      refine g_sipush C (v := (-10005)) dX4_safeWind_25 rfl ?_
      refine g_goto C (tgt := 32) dX4_safeWind_28 (by decide) ?_
      refine g_iret C R0 dX4_safeWind_32 ?_
      exact ⟨hv, _, rfl⟩
    | succ n ih =>
      intro t hn hv
      rw [nI_pred]
      refine g_iload_n C dX4_safeWind_3 rfl rfl ?_
      refine g_if_lt_f C dX4_safeWind_4 21 (by decide) (nI_pos (by omega)) ?_
      refine g_aload_n C dX4_safeWind_7 rfl rfl ?_
      refine g_iload_n C dX4_safeWind_8 rfl rfl ?_
      refine g_calliVF C 0 rfl rfl (c_X4_isSafe E m b (wTr μ t) _ (hs n (by omega))) cf_X4_isSafe gX4_safeWind_X4_isSafe rfl (fitD (Nat.le_of_ble_eq_true rfl) (Nat.le_of_ble_eq_true rfl)) rfl rfl (Nat.le_of_ble_eq_true rfl) dX4_safeWind_9 (fun r1 w1 hp => ?_)
      obtain ⟨⟨hb_9, rfl⟩ | ⟨hb_9, rfl⟩, t2, rfl⟩ := hp
      · refine g_if_ne_t C dX4_safeWind_12 (tgt := 21) (by decide) (by decide) ?_
        refine g_iload_n C dX4_safeWind_21 rfl rfl ?_
        refine g_if_ge_t C dX4_safeWind_22 (tgt := 31) (by decide) (nI_pos' (by omega)) ?_
        refine g_iload_n C dX4_safeWind_31 rfl rfl ?_
        refine g_iret C R0 dX4_safeWind_32 ?_
        rw [swF, if_pos (show sfM (mAl μ) (nI n) from hb_9)] at hv
        exact ⟨hv, _, rfl⟩
      · refine g_if_ne_f C dX4_safeWind_12 21 (by decide) (by decide) ?_
        refine g_iinc C (v := ((nI n) + (-1))) dX4_safeWind_15 rfl rfl rfl ?_
        refine g_goto C (tgt := 3) dX4_safeWind_18 (by decide) ?_
        rw [swF, if_neg (show ¬ sfM (mAl μ) (nI n) from hb_9)] at hv
        rw [nI_dec]
        exact ih t2 (by omega) hv
  refine g_bipush C (v := 9) dX4_safeWind_0 rfl ?_
  refine g_istore_n C dX4_safeWind_2 rfl (Nat.le_of_ble_eq_true rfl) rfl ?_
  refine g_eq (ws' := modW E m b (wTr μ (mTr μ))) rfl rfl rfl ?_
  exact lp 10 (mTr μ) (by omega) rfl
