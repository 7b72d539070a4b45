/-! THE LAW'S LOOP -/
theorem sub3_le {i L : Nat} (hi : i ≤ L) (hL : L ≤ 1536) (h : ¬ nI L - 3 < nI i) : i + 3 ≤ L := by
  have e : (nI L - 3).toInt = (L : Int) - 3 := by
    rw [Int32.toInt_sub, nI_toInt (by omega), show (3 : Int32).toInt = 3 from by decide]
    exact Int.bmod_eq_of_le (by omega) (by omega)
  rw [Int32.lt_iff_toInt_lt, e, nI_toInt (by omega)] at h
  omega
set_option maxHeartbeats 1000000 in
set_option maxRecDepth 100000 in
theorem law_loop {E : Ev} {x : Cx} {kc ks : Nat} {b9 L : Nat} {xs : Nat → Int32} {q1 q2 : Nat} {h : Nat → Nat} {a : Nat → Nat → Nat} {o r s : Nat} {sa b : Nat → Nat} (C : Ok E x cL_law RL wsL_law room_1) (X9 : scrX x b9 L xs) (R9 : RetL E x) (hc : kc ≤ 600000) (hs : ks ≤ 7302250) (hL : L ≤ 1536) : ∀ (f i : Nat) (κ : KSt) (μ : MD), i ≤ L → L < i + f → Inv κ μ → GN E x kc ks (kW E q1 h a o r s sa κ ++ modW E q2 b μ) [some (.ref b9), some (.ref q1), some (.ref q2), some (.int (nI i))] 18 [] := by
  intro f
  induction f with
  | zero => intro i κ μ h1 h2; omega
  | succ f ih =>
    intro i κ μ h1 h2 hI
    refine n_iload_n C dL_law_18 rfl rfl ?_
    refine n_aload_n C dL_law_19 rfl rfl ?_
    refine n_slen C X9 dL_law_20 ?_
    refine n_iconst C (v := 3) dL_law_21 rfl ?_
    refine n_isub C dL_law_22 ?_
    refine n_icmp_gt C (tgt := 788) dL_law_23 (by decide) (fun _ => ?_) (fun hc9 => ?_)
    · refine n_iconst C (v := 1) dL_law_788 rfl ?_
      exact R9 _ _ _ _ _ hc hs dL_law_789
    · have h3 := sub3_le h1 hL hc9
      have i0 : vp_in (nI i) L := vp_in_nI (by omega) (by omega)
      have i1 : vp_in (nI i + 1) L := by
        rw [show nI i + 1 = nI (i + 1) from nI_add i 1]
        exact vp_in_nI (by omega) (by omega)
      have i2 : vp_in (nI i + 2) L := by
        rw [show nI i + 2 = nI (i + 2) from nI_add i 2]
        exact vp_in_nI (by omega) (by omega)
      have k : ∀ κ2 μ2, Inv κ2 μ2 → GN E x kc ks (kW E q1 h a o r s sa κ2 ++ modW E q2 b μ2) [some (.ref b9), some (.ref q1), some (.ref q2), some (.int (nI i))] 782 [] := by
        intro κ2 μ2 hI2
        refine n_iinc C (v := nI (i + 3)) dL_law_782 rfl rfl (nI_add i 3) ?_
        refine n_goto C (tgt := 18) dL_law_785 (by decide) ?_
        exact ih (i + 3) κ2 μ2 h3 (by omega) hI2
      refine n_aload_n C dL_law_26 rfl rfl ?_
      refine n_iload_n C dL_law_27 rfl rfl ?_
      refine n_sld C X9 i0 dL_law_28 ?_
      refine n_bipush C (v := 31) dL_law_29 rfl ?_
      refine n_iand C dL_law_31 ?_
      generalize xs (nI i).toNatClampNeg &&& 31 = v
      by_cases hr : v.toInt < 0 ∨ 25 < v.toInt
      · refine n_tableOut C (tgt := 782) dL_law_32 hr (by decide) ?_
        exact k _ _ hI
      · obtain ⟨t, ht, rfl⟩ := i32_in (x := v) (n := 25) (by omega) (by omega) (by omega)
        have h9 : t = 0 ∨ t = 1 ∨ t = 2 ∨ t = 3 ∨ t = 4 ∨ t = 5 ∨ t = 6 ∨ t = 7 ∨ t = 8 ∨ t = 9 ∨ t = 10 ∨ t = 11 ∨ t = 12 ∨ t = 13 ∨ t = 14 ∨ t = 15 ∨ t = 16 ∨ t = 17 ∨ t = 18 ∨ t = 19 ∨ t = 20 ∨ t = 21 ∨ t = 22 ∨ t = 23 ∨ t = 24 ∨ t = 25 := by omega
        rcases h9 with rfl | rfl | rfl | rfl | rfl | rfl | rfl | rfl | rfl | rfl | rfl | rfl | rfl | rfl | rfl | rfl | rfl | rfl | rfl | rfl | rfl | rfl | rfl | rfl | rfl | rfl
        · exact n_tableIn C (tgt := 152) dL_law_32 (by decide) (by decide) rfl (by decide) (law_c0 C X9 hc hs i1 i2 rfl rfl hI k)
        · exact n_tableIn C (tgt := 185) dL_law_32 (by decide) (by decide) rfl (by decide) (law_c1 C X9 hc hs i1 i2 rfl rfl hI k)
        · exact n_tableIn C (tgt := 208) dL_law_32 (by decide) (by decide) rfl (by decide) (law_c2 C X9 hc hs i1 i2 rfl rfl hI k)
        · exact n_tableIn C (tgt := 231) dL_law_32 (by decide) (by decide) rfl (by decide) (law_c3 C X9 hc hs i1 i2 rfl rfl hI k)
        · exact n_tableIn C (tgt := 264) dL_law_32 (by decide) (by decide) rfl (by decide) (law_c4 C X9 hc hs i1 i2 rfl rfl hI k)
        · exact n_tableIn C (tgt := 297) dL_law_32 (by decide) (by decide) rfl (by decide) (law_c5 C X9 hc hs i1 i2 rfl rfl hI k)
        · exact n_tableIn C (tgt := 320) dL_law_32 (by decide) (by decide) rfl (by decide) (law_c6 C X9 hc hs i1 i2 rfl rfl hI k)
        · exact n_tableIn C (tgt := 353) dL_law_32 (by decide) (by decide) rfl (by decide) (law_c7 C X9 hc hs i1 i2 rfl rfl hI k)
        · exact n_tableIn C (tgt := 386) dL_law_32 (by decide) (by decide) rfl (by decide) (law_c8 C X9 hc hs i1 i2 rfl rfl hI k)
        · exact n_tableIn C (tgt := 411) dL_law_32 (by decide) (by decide) rfl (by decide) (law_c9 C X9 hc hs i1 i2 rfl rfl hI k)
        · exact n_tableIn C (tgt := 424) dL_law_32 (by decide) (by decide) rfl (by decide) (law_c10 C X9 hc hs i1 i2 rfl rfl hI k)
        · exact n_tableIn C (tgt := 437) dL_law_32 (by decide) (by decide) rfl (by decide) (law_c11 C X9 hc hs i1 i2 rfl rfl hI k)
        · exact n_tableIn C (tgt := 460) dL_law_32 (by decide) (by decide) rfl (by decide) (law_c12 C X9 hc hs i1 i2 rfl rfl hI k)
        · exact n_tableIn C (tgt := 473) dL_law_32 (by decide) (by decide) rfl (by decide) (law_c13 C X9 hc hs i1 i2 rfl rfl hI k)
        · exact n_tableIn C (tgt := 486) dL_law_32 (by decide) (by decide) rfl (by decide) (law_c14 C X9 hc hs i1 i2 rfl rfl hI k)
        · exact n_tableIn C (tgt := 499) dL_law_32 (by decide) (by decide) rfl (by decide) (law_c15 C X9 hc hs i1 i2 rfl rfl hI k)
        · exact n_tableIn C (tgt := 532) dL_law_32 (by decide) (by decide) rfl (by decide) (law_c16 C X9 hc hs i1 i2 rfl rfl hI k)
        · exact n_tableIn C (tgt := 565) dL_law_32 (by decide) (by decide) rfl (by decide) (law_c17 C X9 hc hs i1 i2 rfl rfl hI k)
        · exact n_tableIn C (tgt := 598) dL_law_32 (by decide) (by decide) rfl (by decide) (law_c18 C X9 hc hs i1 i2 rfl rfl hI k)
        · exact n_tableIn C (tgt := 621) dL_law_32 (by decide) (by decide) rfl (by decide) (law_c19 C X9 hc hs i1 i2 rfl rfl hI k)
        · exact n_tableIn C (tgt := 644) dL_law_32 (by decide) (by decide) rfl (by decide) (law_c20 C X9 hc hs i1 i2 rfl rfl hI k)
        · exact n_tableIn C (tgt := 677) dL_law_32 (by decide) (by decide) rfl (by decide) (law_c21 C X9 hc hs i1 i2 rfl rfl hI k)
        · exact n_tableIn C (tgt := 700) dL_law_32 (by decide) (by decide) rfl (by decide) (law_c22 C X9 hc hs i1 i2 rfl rfl hI k)
        · exact n_tableIn C (tgt := 733) dL_law_32 (by decide) (by decide) rfl (by decide) (law_c23 C X9 hc hs i1 i2 rfl rfl hI k)
        · exact n_tableIn C (tgt := 746) dL_law_32 (by decide) (by decide) rfl (by decide) (law_c24 C X9 hc hs i1 i2 rfl rfl hI k)
        · exact n_tableIn C (tgt := 759) dL_law_32 (by decide) (by decide) rfl (by decide) (law_c25 C X9 hc hs i1 i2 rfl rfl hI k)
