def kpF (vs fs ss : F) : Nat → Nat → Sky → Int32 × Nat × Sky
  | 0, i, σ => (0, i, σ)
  | f + 1, i, σ => if isErr (carryR σ (vs i) (fs i) (ss i)).1 then ((carryR σ (vs i) (fs i) (ss i)).1, i, (carryR σ (vs i) (fs i) (ss i)).2) else kpF vs fs ss f (i + 1) (carryR σ (vs i) (fs i) (ss i)).2
def kZS (κ : KSt) (z : SZt) : KSt := (kjS κ, kjB κ, kjT κ, kjN κ, kjH κ, kjx κ, kjz κ, kjh κ, kj1 κ, kj2 κ, kjg κ, kjn κ, z)
def kpE (κ : KSt) (z : SZt) (R : Int32 × Nat × Sky) : Int32 × KSt :=
  if isErr R.1 then (-10004, (kjS κ, kjS κ, kjT κ, kjN κ, kjH κ, kjx κ, kjz κ, kjh κ, nI R.2.1, R.1, kjg κ, kjn κ, z))
  else (nI z.2.2.2.1, kRec (kjSB (kZS κ z) R.2.2 (kjS κ)) (nI z.2.2.2.1))
def kPrf (κ : KSt) : Int32 × KSt :=
  if (scS (kjg κ) (kjn κ) (kjZ κ)).1 < 0 then kpE κ (scS (kjg κ) (kjn κ) (kjZ κ)).2 (kpF (scS (kjg κ) (kjn κ) (kjZ κ)).2.1 (scS (kjg κ) (kjn κ) (kjZ κ)).2.2.1 (scS (kjg κ) (kjn κ) (kjZ κ)).2.2.2.1 (scS (kjg κ) (kjn κ) (kjZ κ)).2.2.2.2.1 0 (kjS κ))
  else (-10100 - (scS (kjg κ) (kjn κ) (kjZ κ)).1, kZS κ (scS (kjg κ) (kjn κ) (kjZ κ)).2)
theorem scF_nc {sg : F} {n : Nat} : ∀ f z, z.2.2.2.2.1 ≤ n → z.2.2.2.1 + f ≤ 80 → (scF sg n f z).2.2.2.2.1 ≤ 80
  | 0, z, h, h2 => by rw [scF]; dsimp only; omega
  | f + 1, z, h, h2 => by
    have hle := scC_le (sg := sg) (n := n) (z := z) h
    have e9 : (scC sg n z).2.2.2.2.1 ≤ 80 := by
      by_cases k1 : (scC sg n z).1 = true
      · have := (hle.2.2 k1).1
        omega
      · unfold scC scA at k1 ⊢
        split
        · rename_i k2
          rw [if_pos k2] at k1
          unfold scB at k1 ⊢
          split
          · rename_i k3
            rw [if_pos k3] at k1
            split
            · rename_i k4; rw [if_pos k4] at k1; exact absurd rfl k1
            · rename_i k4; rw [if_neg k4] at k1
              split
              · rename_i k5; rw [if_pos k5] at k1; exact absurd rfl k1
              · dsimp only; omega
          · dsimp only; omega
        · dsimp only; omega
    rw [scF]
    split
    · rename_i k1
      have k2 := (hle.2.2 k1).1
      split
      · exact e9
      · split
        · rename_i k3
          have k4 := sgA_lt k3 (by decide)
          exact scF_nc f (zP (scC sg n z).2) (by show _ + 1 ≤ n; omega) (by show (scC sg n z).2.2.2.2.1 + f ≤ 80; omega)
        · exact e9
    · exact e9
set_option maxHeartbeats 4000000 in
set_option maxRecDepth 100000 in
theorem c_X3_perform (E : Ev) (x : Nat) (h : Nat → Nat) (a : Nat → Nat → Nat) (o r s : Nat) (sa : Nat → Nat) (κ : KSt) (hk : okH κ) (hf : okFr (kjS κ)) (hn : kjn κ ≤ 80) : MI E yX3_perform wsX3_perform (rmD 8) (kW E x h a o r s sa κ) [.ref x] (pK E x h a o r s sa (kPrf κ)) := by
  have inX3 : ∀ w ∈ u_ws RX3 TX3 9, w ∈ wsX3_perform := by decide +kernel
  have f39 : Cond.fieldLink RX3 39 (TX3 6).1 (TX3 6).2.1 (TX3 6).2.2.1 ∈ wsX3_perform := by decide +kernel
  have inX1 : ∀ w ∈ u_ws RX1 TX1 9, w ∈ wsX3_perform := by decide +kernel
  have f10 : Cond.fieldLink RX3 10 (TX3 0).1 (TX3 0).2.1 (TX3 0).2.2.1 ∈ wsX3_perform := by decide +kernel
  have hi_X1_verbOf : Cond.instanceMethod yX1_verbOf ∈ wsX3_perform := by decide +kernel
  have hs_X1_verbOf : Cond.selects RX1 yX1_verbOf yX1_verbOf ∈ wsX3_perform := by decide +kernel
  have hn_X1 : Cond.initialized yX1_scan.cls ∈ wsX3_perform := by decide +kernel
  have hi_X1_firstOf : Cond.instanceMethod yX1_firstOf ∈ wsX3_perform := by decide +kernel
  have hs_X1_firstOf : Cond.selects RX1 yX1_firstOf yX1_firstOf ∈ wsX3_perform := by decide +kernel
  have hi_X1_secondOf : Cond.instanceMethod yX1_secondOf ∈ wsX3_perform := by decide +kernel
  have hs_X1_secondOf : Cond.selects RX1 yX1_secondOf yX1_secondOf ∈ wsX3_perform := by decide +kernel
  have hi_X2_carryOut : Cond.instanceMethod yX2_carryOut ∈ wsX3_perform := by decide +kernel
  have hs_X2_carryOut : Cond.selects RX2 yX2_carryOut yX2_carryOut ∈ wsX3_perform := by decide +kernel
  have hn_X2 : Cond.initialized yX2_copyFrom.cls ∈ wsX3_perform := by decide +kernel
  have f16 : Cond.fieldLink RX3 16 (TX3 1).1 (TX3 1).2.1 (TX3 1).2.2.1 ∈ wsX3_perform := by decide +kernel
  have hi_X2_copyFrom : Cond.instanceMethod yX2_copyFrom ∈ wsX3_perform := by decide +kernel
  have hs_X2_copyFrom : Cond.selects RX2 yX2_copyFrom yX2_copyFrom ∈ wsX3_perform := by decide +kernel
  have f43 : Cond.fieldLink RX3 43 (TX3 7).1 (TX3 7).2.1 (TX3 7).2.2.1 ∈ wsX3_perform := by decide +kernel
  have f47 : Cond.fieldLink RX3 47 (TX3 8).1 (TX3 8).2.1 (TX3 8).2.2.1 ∈ wsX3_perform := by decide +kernel
  have hi_X1_scan : Cond.instanceMethod yX1_scan ∈ wsX3_perform := by decide +kernel
  have hs_X1_scan : Cond.selects RX1 yX1_scan yX1_scan ∈ wsX3_perform := by decide +kernel
  refine MI.of (cc := cX3_perform) (nL := 4) (ty := .int) (own := RX3) [some (.ref x), none, none, none] (by decide +kernel) rfl rfl (Nat.le_of_ble_eq_true rfl) rfl rfl ?_
  intro x1 C R0
  obtain ⟨S, hS⟩ : ∃ S, S = (scS (kjg κ) (kjn κ) (kjZ κ)) := ⟨_, rfl⟩
  have hsc : MI E yX1_scan wsX1_scan (rmD 7) (scrW E s sa (kjg κ) (kjn κ) (kjZ κ)) [.ref s] (fun q w => q = S.1 ∧ w = scrW E s sa (kjg κ) (kjn κ) S.2) := by
    rw [hS]
    exact c_X1_scan E s sa (kjg κ) (kjn κ) hn (kjZ κ).1 (kjZ κ).2.1 (kjZ κ).2.2.1 (kjZ κ).2.2.2.1 (kjZ κ).2.2.2.2.1 (kjZ κ).2.2.2.2.2.1 (kjZ κ).2.2.2.2.2.2
  have hnc : S.2.2.2.2.1 ≤ 80 := by rw [hS]; exact scF_nc 80 _ (by show 0 ≤ _; omega) (by show 0 + 80 ≤ 80; omega)
  refine g_aload_n C dX3_perform_0 rfl rfl ?_
  refine g_get C inX3 0 rfl rfl 6 (by decide) f39 rfl dX3_perform_1 ?_
  have hM := MI.to (P := fun q => q = S.1) (u := scrW E s sa (kjg κ) (kjn κ) S.2) hsc (List.flatten (List.map (kF E x h a o r s sa κ) [0, 1, 2, 3, 4, 5, 6, 7, 8, 9])) (kW E x h a o r s sa κ) (kW E x h a o r s sa ((kjS κ), (kjB κ), (kjT κ), (kjN κ), (kjH κ), (kjx κ), (kjz κ), (kjh κ), (kj1 κ), (kj2 κ), (kjg κ), (kjn κ), S.2)) (pmB2 (f := (kF E x h a o r s sa κ)) (is := [10]) (ks := [0, 1, 2, 3, 4, 5, 6, 7, 8, 9, 10]) (by decide)) (pmB2 (f := (kF E x h a o r s sa ((kjS κ), (kjB κ), (kjT κ), (kjN κ), (kjH κ), (kjx κ), (kjz κ), (kjh κ), (kj1 κ), (kj2 κ), (kjg κ), (kjn κ), S.2))) (is := [10]) (js := [0, 1, 2, 3, 4, 5, 6, 7, 8, 9]) (ks := [0, 1, 2, 3, 4, 5, 6, 7, 8, 9, 10]) (by decide))
  refine g_calliNF C 75 rfl rfl hM cf_X1_scan ggX3_perform_X1_scan (List.mem_of_getElem? (i := 15) rfl) hi_X1_scan hs_X1_scan hn_X1 (fitD (Nat.le_of_ble_eq_true rfl) (Nat.le_of_ble_eq_true rfl)) rfl rfl (Nat.le_of_ble_eq_true rfl) dX3_perform_4 (fun q1 w1 hp => ?_)
  obtain ⟨rfl, rfl⟩ := hp
  refine g_istore_n C dX3_perform_7 rfl (Nat.le_of_ble_eq_true rfl) rfl ?_
  refine g_iload_n C dX3_perform_8 rfl rfl ?_
  refine g_if_lt C (tgt := 18) dX3_perform_9 (by decide) (fun hc_9 => ?_) (fun hc_9 => ?_)
  · have hz9 := hc_9
    refine g_aload_n C dX3_perform_18 rfl rfl ?_
    refine g_get C inX3 0 rfl rfl 1 (by decide) f16 rfl dX3_perform_19 ?_
    refine g_aload_n C dX3_perform_22 rfl rfl ?_
    refine g_get C inX3 0 rfl rfl 0 (by decide) f10 rfl dX3_perform_23 ?_
    have hM := MV.to (c_X2_copyFrom E (h 1) (a 1) (kjB κ) (h 0) (a 0) (kjS κ) hf) (List.flatten (List.map (kF E x h a o r s sa ((kjS κ), (kjB κ), (kjT κ), (kjN κ), (kjH κ), (kjx κ), (kjz κ), (kjh κ), (kj1 κ), (kj2 κ), (kjg κ), (kjn κ), S.2)) [0, 3, 4, 5, 6, 7, 8, 9, 10])) (kW E x h a o r s sa ((kjS κ), (kjB κ), (kjT κ), (kjN κ), (kjH κ), (kjx κ), (kjz κ), (kjh κ), (kj1 κ), (kj2 κ), (kjg κ), (kjn κ), S.2)) (kW E x h a o r s sa ((kjS κ), (kjS κ), (kjT κ), (kjN κ), (kjH κ), (kjx κ), (kjz κ), (kjh κ), (kj1 κ), (kj2 κ), (kjg κ), (kjn κ), S.2)) (pmB2 (f := (kF E x h a o r s sa ((kjS κ), (kjB κ), (kjT κ), (kjN κ), (kjH κ), (kjx κ), (kjz κ), (kjh κ), (kj1 κ), (kj2 κ), (kjg κ), (kjn κ), S.2))) (is := [2, 1]) (ks := [0, 1, 2, 3, 4, 5, 6, 7, 8, 9, 10]) (by decide)) (pmB2 (f := (kF E x h a o r s sa ((kjS κ), (kjS κ), (kjT κ), (kjN κ), (kjH κ), (kjx κ), (kjz κ), (kjh κ), (kj1 κ), (kj2 κ), (kjg κ), (kjn κ), S.2))) (is := [2, 1]) (js := [0, 3, 4, 5, 6, 7, 8, 9, 10]) (ks := [0, 1, 2, 3, 4, 5, 6, 7, 8, 9, 10]) (by decide))
    refine g_callvNF C 10 rfl rfl hM cf_X2_copyFrom ggX3_perform_X2_copyFrom (List.mem_of_getElem? (i := 7) rfl) hi_X2_copyFrom hs_X2_copyFrom hn_X2 (fitD (Nat.le_of_ble_eq_true rfl) (Nat.le_of_ble_eq_true rfl)) rfl rfl (Nat.le_of_ble_eq_true rfl) dX3_perform_26 (fun w1 hp => ?_)
    subst hp
    refine g_iconst C (v := 0) dX3_perform_29 rfl ?_
    refine g_istore_n C dX3_perform_30 rfl (Nat.le_of_ble_eq_true rfl) rfl ?_
    skip
    have lp : ∀ (f i : Nat) (t : Sky) (x3 : Option Value), i + f = S.2.2.2.2.1 → kpF S.2.1 S.2.2.1 S.2.2.2.1 f i t = kpF S.2.1 S.2.2.1 S.2.2.2.1 S.2.2.2.2.1 0 (kjS κ) → G E x1 (kW E x h a o r s sa (t, (kjS κ), (kjT κ), (kjN κ), (kjH κ), (kjx κ), (kjz κ), (kjh κ), (kj1 κ), (kj2 κ), (kjg κ), (kjn κ), S.2)) [some (.ref x), some (.int S.1), some (.int (nI i)), x3] 31 [] := by
      intro f
      induction f with
      | zero =>
        intro i t x3 hi hv
        refine g_iload_n C dX3_perform_31 rfl rfl ?_
        refine g_aload_n C dX3_perform_32 rfl rfl ?_
        refine g_get C inX3 0 rfl rfl 6 (by decide) f39 rfl dX3_perform_33 ?_
        refine g_getN C inX1 75 rfl rfl 5 (by decide) (List.mem_of_getElem? (i := 37) rfl) rfl dX3_perform_36 ?_
        refine g_icmp_ge C (tgt := 112) dX3_perform_39 (by decide) (fun hc_39 => ?_) (fun hc_39 => ?_)
        · have hn_39 : (S.2.2.2.2.1) ≤ (i) := (nI_leI (a := (S.2.2.2.2.1)) (b := (i)) (by omega) (by omega)).mp hc_39
          refine g_aload_n C dX3_perform_112 rfl rfl ?_
          refine g_aload_n C dX3_perform_113 rfl rfl ?_
          refine g_get C inX3 0 rfl rfl 6 (by decide) f39 rfl dX3_perform_114 ?_
          refine g_getN C inX1 75 rfl rfl 5 (by decide) (List.mem_of_getElem? (i := 37) rfl) rfl dX3_perform_117 ?_
          refine g_calliVF C 0 rfl rfl (c_X3_recorded E x h a o r s sa (t, (kjS κ), (kjT κ), (kjN κ), (kjH κ), (kjx κ), (kjz κ), (kjh κ), (kj1 κ), (kj2 κ), (kjg κ), (kjn κ), S.2) hk hf (nI S.2.2.2.2.1)) cf_X3_recorded gX3_perform_X3_recorded rfl (fitD (Nat.le_of_ble_eq_true rfl) (Nat.le_of_ble_eq_true rfl)) rfl rfl (Nat.le_of_ble_eq_true rfl) dX3_perform_120 (fun q1 w1 hp => ?_)
          obtain ⟨rfl, rfl⟩ := hp
          refine g_iret C R0 dX3_perform_123 ?_
          rw [kpF] at hv
          exact pK_mk (by rw [kPrf, ← hS, if_pos hz9, ← hv, kpE, if_neg (show ¬ isErr 0 from by decide)] <;> rfl) rfl
        · have hn_39 : ¬ (S.2.2.2.2.1) ≤ (i) := fun z => hc_39 ((nI_leI (a := (S.2.2.2.2.1)) (b := (i)) (by omega) (by omega)).mpr z)
          exact absurd hn_39 (by omega)
      | succ f ih =>
        intro i t x3 hi hv
        refine g_iload_n C dX3_perform_31 rfl rfl ?_
        refine g_aload_n C dX3_perform_32 rfl rfl ?_
        refine g_get C inX3 0 rfl rfl 6 (by decide) f39 rfl dX3_perform_33 ?_
        refine g_getN C inX1 75 rfl rfl 5 (by decide) (List.mem_of_getElem? (i := 37) rfl) rfl dX3_perform_36 ?_
        refine g_icmp_ge C (tgt := 112) dX3_perform_39 (by decide) (fun hc_39 => ?_) (fun hc_39 => ?_)
        · have hn_39 : (S.2.2.2.2.1) ≤ (i) := (nI_leI (a := (S.2.2.2.2.1)) (b := (i)) (by omega) (by omega)).mp hc_39
          exact absurd hn_39 (by omega)
        · have hn_39 : ¬ (S.2.2.2.2.1) ≤ (i) := fun z => hc_39 ((nI_leI (a := (S.2.2.2.2.1)) (b := (i)) (by omega) (by omega)).mpr z)
          have hlt : i < S.2.2.2.2.1 := by omega
          refine g_aload_n C dX3_perform_42 rfl rfl ?_
          refine g_get C inX3 0 rfl rfl 0 (by decide) f10 rfl dX3_perform_43 ?_
          refine g_aload_n C dX3_perform_46 rfl rfl ?_
          refine g_get C inX3 0 rfl rfl 6 (by decide) f39 rfl dX3_perform_47 ?_
          refine g_iload_n C dX3_perform_50 rfl rfl ?_
          have hM := MI.to (P := fun q => q = S.2.1 i) (u := scrW E s sa (kjg κ) (kjn κ) S.2) (c_X1_verbOf E s sa (kjg κ) (kjn κ) hn S.2.1 S.2.2.1 S.2.2.2.1 S.2.2.2.2.1 S.2.2.2.2.2.1 S.2.2.2.2.2.2.1 S.2.2.2.2.2.2.2 hnc i hlt) (List.flatten (List.map (kF E x h a o r s sa (t, (kjS κ), (kjT κ), (kjN κ), (kjH κ), (kjx κ), (kjz κ), (kjh κ), (kj1 κ), (kj2 κ), (kjg κ), (kjn κ), S.2)) [0, 1, 2, 3, 4, 5, 6, 7, 8, 9])) (kW E x h a o r s sa (t, (kjS κ), (kjT κ), (kjN κ), (kjH κ), (kjx κ), (kjz κ), (kjh κ), (kj1 κ), (kj2 κ), (kjg κ), (kjn κ), S.2)) (kW E x h a o r s sa (t, (kjS κ), (kjT κ), (kjN κ), (kjH κ), (kjx κ), (kjz κ), (kjh κ), (kj1 κ), (kj2 κ), (kjg κ), (kjn κ), S.2)) (pmB2 (f := (kF E x h a o r s sa (t, (kjS κ), (kjT κ), (kjN κ), (kjH κ), (kjx κ), (kjz κ), (kjh κ), (kj1 κ), (kj2 κ), (kjg κ), (kjn κ), S.2))) (is := [10]) (ks := [0, 1, 2, 3, 4, 5, 6, 7, 8, 9, 10]) (by decide)) (pmB2 (f := (kF E x h a o r s sa (t, (kjS κ), (kjT κ), (kjN κ), (kjH κ), (kjx κ), (kjz κ), (kjh κ), (kj1 κ), (kj2 κ), (kjg κ), (kjn κ), S.2))) (is := [10]) (js := [0, 1, 2, 3, 4, 5, 6, 7, 8, 9]) (ks := [0, 1, 2, 3, 4, 5, 6, 7, 8, 9, 10]) (by decide))
          refine g_calliNF C 75 rfl rfl hM cf_X1_verbOf ggX3_perform_X1_verbOf (List.mem_of_getElem? (i := 16) rfl) hi_X1_verbOf hs_X1_verbOf hn_X1 (fitD (Nat.le_of_ble_eq_true rfl) (Nat.le_of_ble_eq_true rfl)) rfl rfl (Nat.le_of_ble_eq_true rfl) dX3_perform_51 (fun q1 w1 hp => ?_)
          obtain ⟨rfl, rfl⟩ := hp
          refine g_aload_n C dX3_perform_54 rfl rfl ?_
          refine g_get C inX3 0 rfl rfl 6 (by decide) f39 rfl dX3_perform_55 ?_
          refine g_iload_n C dX3_perform_58 rfl rfl ?_
          have hM := MI.to (P := fun q => q = S.2.2.1 i) (u := scrW E s sa (kjg κ) (kjn κ) S.2) (c_X1_firstOf E s sa (kjg κ) (kjn κ) hn S.2.1 S.2.2.1 S.2.2.2.1 S.2.2.2.2.1 S.2.2.2.2.2.1 S.2.2.2.2.2.2.1 S.2.2.2.2.2.2.2 hnc i hlt) (List.flatten (List.map (kF E x h a o r s sa (t, (kjS κ), (kjT κ), (kjN κ), (kjH κ), (kjx κ), (kjz κ), (kjh κ), (kj1 κ), (kj2 κ), (kjg κ), (kjn κ), S.2)) [0, 1, 2, 3, 4, 5, 6, 7, 8, 9])) (kW E x h a o r s sa (t, (kjS κ), (kjT κ), (kjN κ), (kjH κ), (kjx κ), (kjz κ), (kjh κ), (kj1 κ), (kj2 κ), (kjg κ), (kjn κ), S.2)) (kW E x h a o r s sa (t, (kjS κ), (kjT κ), (kjN κ), (kjH κ), (kjx κ), (kjz κ), (kjh κ), (kj1 κ), (kj2 κ), (kjg κ), (kjn κ), S.2)) (pmB2 (f := (kF E x h a o r s sa (t, (kjS κ), (kjT κ), (kjN κ), (kjH κ), (kjx κ), (kjz κ), (kjh κ), (kj1 κ), (kj2 κ), (kjg κ), (kjn κ), S.2))) (is := [10]) (ks := [0, 1, 2, 3, 4, 5, 6, 7, 8, 9, 10]) (by decide)) (pmB2 (f := (kF E x h a o r s sa (t, (kjS κ), (kjT κ), (kjN κ), (kjH κ), (kjx κ), (kjz κ), (kjh κ), (kj1 κ), (kj2 κ), (kjg κ), (kjn κ), S.2))) (is := [10]) (js := [0, 1, 2, 3, 4, 5, 6, 7, 8, 9]) (ks := [0, 1, 2, 3, 4, 5, 6, 7, 8, 9, 10]) (by decide))
          refine g_calliNF C 75 rfl rfl hM cf_X1_firstOf ggX3_perform_X1_firstOf (List.mem_of_getElem? (i := 17) rfl) hi_X1_firstOf hs_X1_firstOf hn_X1 (fitD (Nat.le_of_ble_eq_true rfl) (Nat.le_of_ble_eq_true rfl)) rfl rfl (Nat.le_of_ble_eq_true rfl) dX3_perform_59 (fun q1 w1 hp => ?_)
          obtain ⟨rfl, rfl⟩ := hp
          refine g_aload_n C dX3_perform_62 rfl rfl ?_
          refine g_get C inX3 0 rfl rfl 6 (by decide) f39 rfl dX3_perform_63 ?_
          refine g_iload_n C dX3_perform_66 rfl rfl ?_
          have hM := MI.to (P := fun q => q = S.2.2.2.1 i) (u := scrW E s sa (kjg κ) (kjn κ) S.2) (c_X1_secondOf E s sa (kjg κ) (kjn κ) hn S.2.1 S.2.2.1 S.2.2.2.1 S.2.2.2.2.1 S.2.2.2.2.2.1 S.2.2.2.2.2.2.1 S.2.2.2.2.2.2.2 hnc i hlt) (List.flatten (List.map (kF E x h a o r s sa (t, (kjS κ), (kjT κ), (kjN κ), (kjH κ), (kjx κ), (kjz κ), (kjh κ), (kj1 κ), (kj2 κ), (kjg κ), (kjn κ), S.2)) [0, 1, 2, 3, 4, 5, 6, 7, 8, 9])) (kW E x h a o r s sa (t, (kjS κ), (kjT κ), (kjN κ), (kjH κ), (kjx κ), (kjz κ), (kjh κ), (kj1 κ), (kj2 κ), (kjg κ), (kjn κ), S.2)) (kW E x h a o r s sa (t, (kjS κ), (kjT κ), (kjN κ), (kjH κ), (kjx κ), (kjz κ), (kjh κ), (kj1 κ), (kj2 κ), (kjg κ), (kjn κ), S.2)) (pmB2 (f := (kF E x h a o r s sa (t, (kjS κ), (kjT κ), (kjN κ), (kjH κ), (kjx κ), (kjz κ), (kjh κ), (kj1 κ), (kj2 κ), (kjg κ), (kjn κ), S.2))) (is := [10]) (ks := [0, 1, 2, 3, 4, 5, 6, 7, 8, 9, 10]) (by decide)) (pmB2 (f := (kF E x h a o r s sa (t, (kjS κ), (kjT κ), (kjN κ), (kjH κ), (kjx κ), (kjz κ), (kjh κ), (kj1 κ), (kj2 κ), (kjg κ), (kjn κ), S.2))) (is := [10]) (js := [0, 1, 2, 3, 4, 5, 6, 7, 8, 9]) (ks := [0, 1, 2, 3, 4, 5, 6, 7, 8, 9, 10]) (by decide))
          refine g_calliNF C 75 rfl rfl hM cf_X1_secondOf ggX3_perform_X1_secondOf (List.mem_of_getElem? (i := 18) rfl) hi_X1_secondOf hs_X1_secondOf hn_X1 (fitD (Nat.le_of_ble_eq_true rfl) (Nat.le_of_ble_eq_true rfl)) rfl rfl (Nat.le_of_ble_eq_true rfl) dX3_perform_67 (fun q1 w1 hp => ?_)
          obtain ⟨rfl, rfl⟩ := hp
          have hM := MI.to (P := (fun q => q = (carryR t (S.2.1 i) (S.2.2.1 i) (S.2.2.2.1 i)).1)) (u := (skyW E (h 0) (a 0) (carryR t (S.2.1 i) (S.2.2.1 i) (S.2.2.2.1 i)).2)) (c_X2_carryOut E (h 0) (a 0) t (S.2.1 i) (S.2.2.1 i) (S.2.2.2.1 i)) (List.flatten (List.map (kF E x h a o r s sa (t, (kjS κ), (kjT κ), (kjN κ), (kjH κ), (kjx κ), (kjz κ), (kjh κ), (kj1 κ), (kj2 κ), (kjg κ), (kjn κ), S.2)) [0, 2, 3, 4, 5, 6, 7, 8, 9, 10])) (kW E x h a o r s sa (t, (kjS κ), (kjT κ), (kjN κ), (kjH κ), (kjx κ), (kjz κ), (kjh κ), (kj1 κ), (kj2 κ), (kjg κ), (kjn κ), S.2)) (kW E x h a o r s sa ((carryR t (S.2.1 i) (S.2.2.1 i) (S.2.2.2.1 i)).2, (kjS κ), (kjT κ), (kjN κ), (kjH κ), (kjx κ), (kjz κ), (kjh κ), (kj1 κ), (kj2 κ), (kjg κ), (kjn κ), S.2)) (pmB2 (f := (kF E x h a o r s sa (t, (kjS κ), (kjT κ), (kjN κ), (kjH κ), (kjx κ), (kjz κ), (kjh κ), (kj1 κ), (kj2 κ), (kjg κ), (kjn κ), S.2))) (is := [1]) (ks := [0, 1, 2, 3, 4, 5, 6, 7, 8, 9, 10]) (by decide)) (pmB2 (f := (kF E x h a o r s sa ((carryR t (S.2.1 i) (S.2.2.1 i) (S.2.2.2.1 i)).2, (kjS κ), (kjT κ), (kjN κ), (kjH κ), (kjx κ), (kjz κ), (kjh κ), (kj1 κ), (kj2 κ), (kjg κ), (kjn κ), S.2))) (is := [1]) (js := [0, 2, 3, 4, 5, 6, 7, 8, 9, 10]) (ks := [0, 1, 2, 3, 4, 5, 6, 7, 8, 9, 10]) (by decide))
          refine g_calliNF C 1 rfl rfl hM cf_X2_carryOut ggX3_perform_X2_carryOut (List.mem_of_getElem? (i := 19) rfl) hi_X2_carryOut hs_X2_carryOut hn_X2 (fitD (Nat.le_of_ble_eq_true rfl) (Nat.le_of_ble_eq_true rfl)) rfl rfl (Nat.le_of_ble_eq_true rfl) dX3_perform_70 (fun q1 w1 hp => ?_)
          obtain ⟨rfl, rfl⟩ := hp
          refine g_istore_n C dX3_perform_73 rfl (Nat.le_of_ble_eq_true rfl) rfl ?_
          refine g_iload_n C dX3_perform_74 rfl rfl ?_
          refine g_calliSF C (c_X3_isError E (kW E x h a o r s sa ((carryR t (S.2.1 i) (S.2.2.1 i) (S.2.2.2.1 i)).2, (kjS κ), (kjT κ), (kjN κ), (kjH κ), (kjx κ), (kjz κ), (kjh κ), (kj1 κ), (kj2 κ), (kjg κ), (kjn κ), S.2)) _) cf_X3_isError gX3_perform_X3_isError rfl (fitD (Nat.le_of_ble_eq_true rfl) (Nat.le_of_ble_eq_true rfl)) rfl rfl (Nat.le_of_ble_eq_true rfl) dX3_perform_75 (fun r1 w1 hp => ?_)
          obtain ⟨⟨hb_75, rfl⟩ | ⟨hb_75, rfl⟩, rfl⟩ := hp
          · refine g_if_eq_f C dX3_perform_78 106 (by decide) (by decide) ?_
            refine g_aload_n C dX3_perform_81 rfl rfl ?_
            refine g_get C inX3 0 rfl rfl 0 (by decide) f10 rfl dX3_perform_82 ?_
            refine g_aload_n C dX3_perform_85 rfl rfl ?_
            refine g_get C inX3 0 rfl rfl 1 (by decide) f16 rfl dX3_perform_86 ?_
            have hM := MV.to (c_X2_copyFrom E (h 0) (a 0) (carryR t (S.2.1 i) (S.2.2.1 i) (S.2.2.2.1 i)).2 (h 1) (a 1) (kjS κ) hf) (List.flatten (List.map (kF E x h a o r s sa ((carryR t (S.2.1 i) (S.2.2.1 i) (S.2.2.2.1 i)).2, (kjS κ), (kjT κ), (kjN κ), (kjH κ), (kjx κ), (kjz κ), (kjh κ), (kj1 κ), (kj2 κ), (kjg κ), (kjn κ), S.2)) [0, 3, 4, 5, 6, 7, 8, 9, 10])) (kW E x h a o r s sa ((carryR t (S.2.1 i) (S.2.2.1 i) (S.2.2.2.1 i)).2, (kjS κ), (kjT κ), (kjN κ), (kjH κ), (kjx κ), (kjz κ), (kjh κ), (kj1 κ), (kj2 κ), (kjg κ), (kjn κ), S.2)) (kW E x h a o r s sa ((kjS κ), (kjS κ), (kjT κ), (kjN κ), (kjH κ), (kjx κ), (kjz κ), (kjh κ), (kj1 κ), (kj2 κ), (kjg κ), (kjn κ), S.2)) (pmB2 (f := (kF E x h a o r s sa ((carryR t (S.2.1 i) (S.2.2.1 i) (S.2.2.2.1 i)).2, (kjS κ), (kjT κ), (kjN κ), (kjH κ), (kjx κ), (kjz κ), (kjh κ), (kj1 κ), (kj2 κ), (kjg κ), (kjn κ), S.2))) (is := [1, 2]) (ks := [0, 1, 2, 3, 4, 5, 6, 7, 8, 9, 10]) (by decide)) (pmB2 (f := (kF E x h a o r s sa ((kjS κ), (kjS κ), (kjT κ), (kjN κ), (kjH κ), (kjx κ), (kjz κ), (kjh κ), (kj1 κ), (kj2 κ), (kjg κ), (kjn κ), S.2))) (is := [1, 2]) (js := [0, 3, 4, 5, 6, 7, 8, 9, 10]) (ks := [0, 1, 2, 3, 4, 5, 6, 7, 8, 9, 10]) (by decide))
            refine g_callvNF C 1 rfl rfl hM cf_X2_copyFrom ggX3_perform_X2_copyFrom (List.mem_of_getElem? (i := 7) rfl) hi_X2_copyFrom hs_X2_copyFrom hn_X2 (fitD (Nat.le_of_ble_eq_true rfl) (Nat.le_of_ble_eq_true rfl)) rfl rfl (Nat.le_of_ble_eq_true rfl) dX3_perform_89 (fun w1 hp => ?_)
            subst hp
            refine g_aload_n C dX3_perform_92 rfl rfl ?_
            refine g_iload_n C dX3_perform_93 rfl rfl ?_
            refine g_put C (ws' := (kW E x h a o r s sa ((kjS κ), (kjS κ), (kjT κ), (kjN κ), (kjH κ), (kjx κ), (kjz κ), (kjh κ), (nI i), (kj2 κ), (kjg κ), (kjn κ), S.2))) inX3 (ty := .int) tyX3 tyX3_ok nmX3 0 rfl rfl 7 (by decide) f43 rfl (by decide +kernel) rfl rfl (Nat.le_of_ble_eq_true rfl) dX3_perform_94 rfl ?_
            refine g_aload_n C dX3_perform_97 rfl rfl ?_
            refine g_iload_n C dX3_perform_98 rfl rfl ?_
            refine g_put C (ws' := (kW E x h a o r s sa ((kjS κ), (kjS κ), (kjT κ), (kjN κ), (kjH κ), (kjx κ), (kjz κ), (kjh κ), (nI i), ((carryR t (S.2.1 i) (S.2.2.1 i) (S.2.2.2.1 i)).1), (kjg κ), (kjn κ), S.2))) inX3 (ty := .int) tyX3 tyX3_ok nmX3 0 rfl rfl 8 (by decide) f47 rfl (by decide +kernel) rfl rfl (Nat.le_of_ble_eq_true rfl) dX3_perform_99 rfl ?_
            refine g_sipush C (v := (-10004)) dX3_perform_102 rfl ?_
            refine g_iret C R0 dX3_perform_105 ?_
            rw [kpF, if_pos hb_75] at hv
            exact pK_mk (by rw [kPrf, ← hS, if_pos hz9, ← hv, kpE, if_pos hb_75] <;> rfl) rfl
          · refine g_if_eq_t C dX3_perform_78 (tgt := 106) (by decide) (by decide) ?_
            refine g_iinc C (v := (nI (i + 1))) dX3_perform_106 rfl rfl (nI_add (i) 1) ?_
            refine g_goto C (tgt := 31) dX3_perform_109 (by decide) ?_
            rw [kpF, if_neg hb_75] at hv
            exact ih (i + 1) _ _ (by omega) hv
    exact lp S.2.2.2.2.1 0 (kjS κ) _ (by omega) rfl
  · refine g_sipush C (v := (-10100)) dX3_perform_12 rfl ?_
    refine g_iload_n C dX3_perform_15 rfl rfl ?_
    refine g_isub C dX3_perform_16 ?_
    refine g_iret C R0 dX3_perform_17 ?_
    exact pK_mk (by rw [kPrf, ← hS, if_neg hc_9] <;> rfl) rfl
