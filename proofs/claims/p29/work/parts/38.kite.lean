/-! THE CLASS: its cells, and what its methods answer -/
abbrev KSt : Type := Sky × Sky × Sky × Sky × (Nat → Sky) × Nat × Nat × Int32 × Int32 × Int32 × F × Nat × SZt
abbrev kjS (κ : KSt) : Sky := κ.1
abbrev kjB (κ : KSt) : Sky := κ.2.1
abbrev kjT (κ : KSt) : Sky := κ.2.2.1
abbrev kjN (κ : KSt) : Sky := κ.2.2.2.1
abbrev kjH (κ : KSt) : (Nat → Sky) := κ.2.2.2.2.1
abbrev kjx (κ : KSt) : Nat := κ.2.2.2.2.2.1
abbrev kjz (κ : KSt) : Nat := κ.2.2.2.2.2.2.1
abbrev kjh (κ : KSt) : Int32 := κ.2.2.2.2.2.2.2.1
abbrev kj1 (κ : KSt) : Int32 := κ.2.2.2.2.2.2.2.2.1
abbrev kj2 (κ : KSt) : Int32 := κ.2.2.2.2.2.2.2.2.2.1
abbrev kjg (κ : KSt) : F := κ.2.2.2.2.2.2.2.2.2.2.1
abbrev kjn (κ : KSt) : Nat := κ.2.2.2.2.2.2.2.2.2.2.2.1
abbrev kjZ (κ : KSt) : SZt := κ.2.2.2.2.2.2.2.2.2.2.2.2
def kOb (x : Nat) (h : Nat → Nat) (o s : Nat) (hs s1 s2 : Int32) : va_W := [(x, .inr (3, [.ref (h 0), .ref (h 1), .ref (h 2), .ref (h 3), .int hs, .ref o, .ref s, .int s1, .int s2]))]
def kW (E : Ev) (x : Nat) (h : Nat → Nat) (a : Nat → Nat → Nat) (o r s : Nat) (sa : Nat → Nat) (κ : KSt) : va_W := kOb x h o s (kjh κ) (kj1 κ) (kj2 κ) ++ (skyW E (h 0) (a 0) (kjS κ) ++ (skyW E (h 1) (a 1) (kjB κ) ++ (skyW E (h 2) (a 2) (kjT κ) ++ (skyW E (h 3) (a 3) (kjN κ) ++ (hisBk E o r (fun j => h (4 + j)) (kjx κ) (kjz κ) ++ (skyW E (h 4) (a 4) (kjH κ 0) ++ (skyW E (h 5) (a 5) (kjH κ 1) ++ (skyW E (h 6) (a 6) (kjH κ 2) ++ (skyW E (h 7) (a 7) (kjH κ 3) ++ (scrW E s sa (kjg κ) (kjn κ) (kjZ κ) ++ []))))))))))
def kF (E : Ev) (x : Nat) (h : Nat → Nat) (a : Nat → Nat → Nat) (o r s : Nat) (sa : Nat → Nat) (κ : KSt) : Nat → va_W
  | 0 => kOb x h o s (kjh κ) (kj1 κ) (kj2 κ)
  | 1 => skyW E (h 0) (a 0) (kjS κ)
  | 2 => skyW E (h 1) (a 1) (kjB κ)
  | 3 => skyW E (h 2) (a 2) (kjT κ)
  | 4 => skyW E (h 3) (a 3) (kjN κ)
  | 5 => hisBk E o r (fun j => h (4 + j)) (kjx κ) (kjz κ)
  | 6 => skyW E (h 4) (a 4) (kjH κ 0)
  | 7 => skyW E (h 5) (a 5) (kjH κ 1)
  | 8 => skyW E (h 6) (a 6) (kjH κ 2)
  | 9 => skyW E (h 7) (a 7) (kjH κ 3)
  | _ => scrW E s sa (kjg κ) (kjn κ) (kjZ κ)
def pK (E : Ev) (x : Nat) (h : Nat → Nat) (a : Nat → Nat → Nat) (o r s : Nat) (sa : Nat → Nat) (X : Int32 × KSt) : Int32 → va_W → Prop := fun q w => q = X.1 ∧ w = kW E x h a o r s sa X.2
theorem pK_mk {E : Ev} {x : Nat} {h : Nat → Nat} {a : Nat → Nat → Nat} {o r s : Nat} {sa : Nat → Nat} {X : Int32 × KSt} {q : Int32} {κ : KSt} {w : va_W} (e : X = (q, κ)) (h2 : w = kW E x h a o r s sa κ) : pK E x h a o r s sa X q w := ⟨by rw [e], by rw [e]; exact h2⟩
abbrev isErr (q : Int32) : Prop := q ≤ -10001 ∧ ¬ q = -10005
abbrev isAct (q : Int32) : Prop := ¬ q = -10005 ∧ ¬ isErr q
/-- recorded(q): before comes into the history -/
def kRec (κ : KSt) (q : Int32) : KSt := if isAct q then (kjS κ, kjB κ, kjT κ, kjN κ, updS (kjH κ) (kjx κ) (kjB κ), hAddN (kjx κ), hAddS (kjz κ), kjh κ, kj1 κ, kj2 κ, kjg κ, kjn κ, kjZ κ) else κ
def kjSB (κ : KSt) (σ β : Sky) : KSt := (σ, β, kjT κ, kjN κ, kjH κ, kjx κ, kjz κ, kjh κ, kj1 κ, kj2 κ, kjg κ, kjn κ, kjZ κ)
/-- an act on the sky -/
def kAct (κ : KSt) (X : Int32 × Sky) : Int32 × KSt := (X.1, kRec (kjSB κ X.2 (kjS κ)) X.1)
def okH (κ : KSt) : Prop := kjx κ < 4 ∧ kjz κ ≤ 4
theorem cf_X0_addB : CF yX0_add cX0_add 3 none wsX0_add 1 := cf_X0_add
set_option maxHeartbeats 4000000 in
set_option maxRecDepth 100000 in
theorem c_X3_isError (E : Ev) (W : va_W) (q : Int32) : MI E yX3_isError wsX3_isError (rmD 0) W [.int q] (pB (isErr q) W) := by
  refine MI.of (cc := cX3_isError) (nL := 1) (ty := .boolean) (own := RX3) [some (.int q)] (by decide +kernel) rfl rfl (Nat.le_of_ble_eq_true rfl) rfl rfl ?_
  intro x1 C R0
  refine g_iload_n C dX3_isError_0 rfl rfl ?_
  refine g_sipush C (v := (-10001)) dX3_isError_1 rfl ?_
  refine g_icmp_gt C (tgt := 18) dX3_isError_4 (by decide) (fun hc_4 => ?_) (fun hc_4 => ?_)
  · refine g_iconst C (v := 0) dX3_isError_18 rfl ?_
    refine g_zret C R0 rfl dX3_isError_19 ?_
    exact ⟨Or.inr ⟨fun z => i32_le.mpr z.1 hc_4, rfl⟩, rfl⟩
  · refine g_iload_n C dX3_isError_7 rfl rfl ?_
    refine g_sipush C (v := (-10005)) dX3_isError_8 rfl ?_
    refine g_icmp_eq C (tgt := 18) dX3_isError_11 (by decide) (fun hc_11 => ?_) (fun hc_11 => ?_)
    · refine g_iconst C (v := 0) dX3_isError_18 rfl ?_
      refine g_zret C R0 rfl dX3_isError_19 ?_
      exact ⟨Or.inr ⟨fun z => z.2 hc_11, rfl⟩, rfl⟩
    · refine g_iconst C (v := 1) dX3_isError_14 rfl ?_
      refine g_goto C (tgt := 19) dX3_isError_15 (by decide) ?_
      refine g_zret C R0 rfl dX3_isError_19 ?_
      exact ⟨Or.inl ⟨⟨i32_le.mp hc_4, hc_11⟩, rfl⟩, rfl⟩
set_option maxHeartbeats 4000000 in
set_option maxRecDepth 100000 in
theorem c_X3_recorded (E : Ev) (x : Nat) (h : Nat → Nat) (a : Nat → Nat → Nat) (o r s : Nat) (sa : Nat → Nat) (κ : KSt) (hk : okH κ) (hf : okFr (kjB κ)) (q : Int32) : MI E yX3_recorded wsX3_recorded (rmD 2) (kW E x h a o r s sa κ) [.ref x, .int q] (pK E x h a o r s sa (q, kRec κ q)) := by
  have inX3 : ∀ w ∈ u_ws RX3 TX3 9, w ∈ wsX3_recorded := by decide +kernel
  have f32 : Cond.fieldLink RX3 32 (TX3 5).1 (TX3 5).2.1 (TX3 5).2.2.1 ∈ wsX3_recorded := by decide +kernel
  have f16 : Cond.fieldLink RX3 16 (TX3 1).1 (TX3 1).2.1 (TX3 1).2.2.1 ∈ wsX3_recorded := by decide +kernel
  have hi_X0_add : Cond.instanceMethod yX0_add ∈ wsX3_recorded := by decide +kernel
  have hs_X0_add : Cond.selects RX0 yX0_add yX0_add ∈ wsX3_recorded := by decide +kernel
  have hn_X0 : Cond.initialized yX0_add.cls ∈ wsX3_recorded := by decide +kernel
  refine MI.of (cc := cX3_recorded) (nL := 2) (ty := .int) (own := RX3) [some (.ref x), some (.int q)] (by decide +kernel) rfl rfl (Nat.le_of_ble_eq_true rfl) rfl rfl ?_
  intro x1 C R0
  refine g_iload_n C dX3_recorded_0 rfl rfl ?_
  refine g_sipush C (v := (-10005)) dX3_recorded_1 rfl ?_
  refine g_icmp_eq C (tgt := 25) dX3_recorded_4 (by decide) (fun hc_4 => ?_) (fun hc_4 => ?_)
  · refine g_iload_n C dX3_recorded_25 rfl rfl ?_
    refine g_iret C R0 dX3_recorded_26 ?_
    refine pK_mk (by rw [kRec, if_neg (fun z => z.1 hc_4)]) ?_
    exact rfl
  · refine g_iload_n C dX3_recorded_7 rfl rfl ?_
    refine g_calliSF C (c_X3_isError E (kW E x h a o r s sa κ) _) cf_X3_isError gX3_recorded_X3_isError rfl (fitD (Nat.le_of_ble_eq_true rfl) (Nat.le_of_ble_eq_true rfl)) rfl rfl (Nat.le_of_ble_eq_true rfl) dX3_recorded_8 (fun r1 w1 hp => ?_)
    obtain ⟨⟨hb_8, rfl⟩ | ⟨hb_8, rfl⟩, rfl⟩ := hp
    · refine g_if_ne_t C dX3_recorded_11 (tgt := 25) (by decide) (by decide) ?_
      refine g_iload_n C dX3_recorded_25 rfl rfl ?_
      refine g_iret C R0 dX3_recorded_26 ?_
      refine pK_mk (by rw [kRec, if_neg (fun z => z.2 hb_8)]) ?_
      exact rfl
    · refine g_if_ne_f C dX3_recorded_11 25 (by decide) (by decide) ?_
      refine g_aload_n C dX3_recorded_14 rfl rfl ?_
      refine g_get C inX3 0 rfl rfl 5 (by decide) f32 rfl dX3_recorded_15 ?_
      refine g_aload_n C dX3_recorded_18 rfl rfl ?_
      refine g_get C inX3 0 rfl rfl 1 (by decide) f16 rfl dX3_recorded_19 ?_
      have hM := MV.to (c_X0_add E o r (fun j => h (4 + j)) (fun j => a (4 + j)) (kjH κ) (kjx κ) (kjz κ) (h 1) (a 1) (kjB κ) hk.1 hk.2 hf) (List.flatten (List.map (kF E x h a o r s sa κ) [0, 1, 3, 4, 10])) (kW E x h a o r s sa κ) (kW E x h a o r s sa ((kjS κ), (kjB κ), (kjT κ), (kjN κ), (updS (kjH κ) (kjx κ) (kjB κ)), (hAddN (kjx κ)), (hAddS (kjz κ)), (kjh κ), (kj1 κ), (kj2 κ), (kjg κ), (kjn κ), (kjZ κ))) (pmB2 (f := (kF E x h a o r s sa κ)) (is := [5, 6, 7, 8, 9, 2]) (ks := [0, 1, 2, 3, 4, 5, 6, 7, 8, 9, 10]) (by decide)) (pmB2 (f := (kF E x h a o r s sa ((kjS κ), (kjB κ), (kjT κ), (kjN κ), (updS (kjH κ) (kjx κ) (kjB κ)), (hAddN (kjx κ)), (hAddS (kjz κ)), (kjh κ), (kj1 κ), (kj2 κ), (kjg κ), (kjn κ), (kjZ κ)))) (is := [5, 6, 7, 8, 9, 2]) (js := [0, 1, 3, 4, 10]) (ks := [0, 1, 2, 3, 4, 5, 6, 7, 8, 9, 10]) (by decide))
      refine g_callvNF C 37 rfl rfl hM cf_X0_add ggX3_recorded_X0_add (List.mem_of_getElem? (i := 11) rfl) hi_X0_add hs_X0_add hn_X0 (fitD (Nat.le_of_ble_eq_true rfl) (Nat.le_of_ble_eq_true rfl)) rfl rfl (Nat.le_of_ble_eq_true rfl) dX3_recorded_22 (fun w1 hp => ?_)
      subst hp
      refine g_iload_n C dX3_recorded_25 rfl rfl ?_
      refine g_iret C R0 dX3_recorded_26 ?_
      refine pK_mk (by rw [kRec, if_pos ⟨hc_4, hb_8⟩]) ?_
      exact rfl
set_option maxHeartbeats 4000000 in
set_option maxRecDepth 100000 in
theorem c_X3_fly (E : Ev) (x : Nat) (h : Nat → Nat) (a : Nat → Nat → Nat) (o r s : Nat) (sa : Nat → Nat) (κ : KSt) (hk : okH κ) (hf : okFr (kjS κ)) (s9 n : Int32) : MI E yX3_fly wsX3_fly (rmD 3) (kW E x h a o r s sa κ) [.ref x, .int s9, .int n] (pK E x h a o r s sa (kAct κ (launchR (kjS κ) s9 n))) := by
  have inX3 : ∀ w ∈ u_ws RX3 TX3 9, w ∈ wsX3_fly := by decide +kernel
  have f16 : Cond.fieldLink RX3 16 (TX3 1).1 (TX3 1).2.1 (TX3 1).2.2.1 ∈ wsX3_fly := by decide +kernel
  have f10 : Cond.fieldLink RX3 10 (TX3 0).1 (TX3 0).2.1 (TX3 0).2.2.1 ∈ wsX3_fly := by decide +kernel
  have hi_X2_copyFrom : Cond.instanceMethod yX2_copyFrom ∈ wsX3_fly := by decide +kernel
  have hs_X2_copyFrom : Cond.selects RX2 yX2_copyFrom yX2_copyFrom ∈ wsX3_fly := by decide +kernel
  have hn_X2 : Cond.initialized yX2_launch.cls ∈ wsX3_fly := by decide +kernel
  have hi_X2_launch : Cond.instanceMethod yX2_launch ∈ wsX3_fly := by decide +kernel
  have hs_X2_launch : Cond.selects RX2 yX2_launch yX2_launch ∈ wsX3_fly := by decide +kernel
  refine MI.of (cc := cX3_fly) (nL := 3) (ty := .int) (own := RX3) [some (.ref x), some (.int s9), some (.int n)] (by decide +kernel) rfl rfl (Nat.le_of_ble_eq_true rfl) rfl rfl ?_
  intro x1 C R0
  refine g_aload_n C dX3_fly_0 rfl rfl ?_
  refine g_get C inX3 0 rfl rfl 1 (by decide) f16 rfl dX3_fly_1 ?_
  refine g_aload_n C dX3_fly_4 rfl rfl ?_
  refine g_get C inX3 0 rfl rfl 0 (by decide) f10 rfl dX3_fly_5 ?_
  have hM := MV.to (c_X2_copyFrom E (h 1) (a 1) (kjB κ) (h 0) (a 0) (kjS κ) hf) (List.flatten (List.map (kF E x h a o r s sa κ) [0, 3, 4, 5, 6, 7, 8, 9, 10])) (kW E x h a o r s sa κ) (kW E x h a o r s sa ((kjS κ), (kjS κ), (kjT κ), (kjN κ), (kjH κ), (kjx κ), (kjz κ), (kjh κ), (kj1 κ), (kj2 κ), (kjg κ), (kjn κ), (kjZ κ))) (pmB2 (f := (kF E x h a o r s sa κ)) (is := [2, 1]) (ks := [0, 1, 2, 3, 4, 5, 6, 7, 8, 9, 10]) (by decide)) (pmB2 (f := (kF E x h a o r s sa ((kjS κ), (kjS κ), (kjT κ), (kjN κ), (kjH κ), (kjx κ), (kjz κ), (kjh κ), (kj1 κ), (kj2 κ), (kjg κ), (kjn κ), (kjZ κ)))) (is := [2, 1]) (js := [0, 3, 4, 5, 6, 7, 8, 9, 10]) (ks := [0, 1, 2, 3, 4, 5, 6, 7, 8, 9, 10]) (by decide))
  refine g_callvNF C 10 rfl rfl hM cf_X2_copyFrom ggX3_fly_X2_copyFrom (List.mem_of_getElem? (i := 7) rfl) hi_X2_copyFrom hs_X2_copyFrom hn_X2 (fitD (Nat.le_of_ble_eq_true rfl) (Nat.le_of_ble_eq_true rfl)) rfl rfl (Nat.le_of_ble_eq_true rfl) dX3_fly_8 (fun w1 hp => ?_)
  subst hp
  refine g_aload_n C dX3_fly_11 rfl rfl ?_
  refine g_aload_n C dX3_fly_12 rfl rfl ?_
  refine g_get C inX3 0 rfl rfl 0 (by decide) f10 rfl dX3_fly_13 ?_
  refine g_iload_n C dX3_fly_16 rfl rfl ?_
  refine g_iload_n C dX3_fly_17 rfl rfl ?_
  have hM := MI.to (P := (fun q => q = (launchR (kjS κ) s9 n).1)) (u := (skyW E (h 0) (a 0) (launchR (kjS κ) s9 n).2)) (c_X2_launch E (h 0) (a 0) (kjS κ) s9 n) (List.flatten (List.map (kF E x h a o r s sa ((kjS κ), (kjS κ), (kjT κ), (kjN κ), (kjH κ), (kjx κ), (kjz κ), (kjh κ), (kj1 κ), (kj2 κ), (kjg κ), (kjn κ), (kjZ κ))) [0, 2, 3, 4, 5, 6, 7, 8, 9, 10])) (kW E x h a o r s sa ((kjS κ), (kjS κ), (kjT κ), (kjN κ), (kjH κ), (kjx κ), (kjz κ), (kjh κ), (kj1 κ), (kj2 κ), (kjg κ), (kjn κ), (kjZ κ))) (kW E x h a o r s sa ((launchR (kjS κ) s9 n).2, (kjS κ), (kjT κ), (kjN κ), (kjH κ), (kjx κ), (kjz κ), (kjh κ), (kj1 κ), (kj2 κ), (kjg κ), (kjn κ), (kjZ κ))) (pmB2 (f := (kF E x h a o r s sa ((kjS κ), (kjS κ), (kjT κ), (kjN κ), (kjH κ), (kjx κ), (kjz κ), (kjh κ), (kj1 κ), (kj2 κ), (kjg κ), (kjn κ), (kjZ κ)))) (is := [1]) (ks := [0, 1, 2, 3, 4, 5, 6, 7, 8, 9, 10]) (by decide)) (pmB2 (f := (kF E x h a o r s sa ((launchR (kjS κ) s9 n).2, (kjS κ), (kjT κ), (kjN κ), (kjH κ), (kjx κ), (kjz κ), (kjh κ), (kj1 κ), (kj2 κ), (kjg κ), (kjn κ), (kjZ κ)))) (is := [1]) (js := [0, 2, 3, 4, 5, 6, 7, 8, 9, 10]) (ks := [0, 1, 2, 3, 4, 5, 6, 7, 8, 9, 10]) (by decide))
  refine g_calliNF C 1 rfl rfl hM cf_X2_launch ggX3_fly_X2_launch (List.mem_of_getElem? (i := 8) rfl) hi_X2_launch hs_X2_launch hn_X2 (fitD (Nat.le_of_ble_eq_true rfl) (Nat.le_of_ble_eq_true rfl)) rfl rfl (Nat.le_of_ble_eq_true rfl) dX3_fly_18 (fun q1 w1 hp => ?_)
  obtain ⟨rfl, rfl⟩ := hp
  refine g_calliVF C 0 rfl rfl (c_X3_recorded E x h a o r s sa ((launchR (kjS κ) s9 n).2, (kjS κ), (kjT κ), (kjN κ), (kjH κ), (kjx κ), (kjz κ), (kjh κ), (kj1 κ), (kj2 κ), (kjg κ), (kjn κ), (kjZ κ)) hk hf ((launchR (kjS κ) s9 n).1)) cf_X3_recorded gX3_fly_X3_recorded rfl (fitD (Nat.le_of_ble_eq_true rfl) (Nat.le_of_ble_eq_true rfl)) rfl rfl (Nat.le_of_ble_eq_true rfl) dX3_fly_21 (fun q1 w1 hp => ?_)
  obtain ⟨rfl, rfl⟩ := hp
  refine g_iret C R0 dX3_fly_24 ?_
  exact pK_mk rfl rfl
set_option maxHeartbeats 4000000 in
set_option maxRecDepth 100000 in
theorem c_X3_takeDown (E : Ev) (x : Nat) (h : Nat → Nat) (a : Nat → Nat → Nat) (o r s : Nat) (sa : Nat → Nat) (κ : KSt) (hk : okH κ) (hf : okFr (kjS κ)) (k : Int32) : MI E yX3_takeDown wsX3_takeDown (rmD 3) (kW E x h a o r s sa κ) [.ref x, .int k] (pK E x h a o r s sa (kAct κ (removeR (kjS κ) k))) := by
  have inX3 : ∀ w ∈ u_ws RX3 TX3 9, w ∈ wsX3_takeDown := by decide +kernel
  have f16 : Cond.fieldLink RX3 16 (TX3 1).1 (TX3 1).2.1 (TX3 1).2.2.1 ∈ wsX3_takeDown := by decide +kernel
  have f10 : Cond.fieldLink RX3 10 (TX3 0).1 (TX3 0).2.1 (TX3 0).2.2.1 ∈ wsX3_takeDown := by decide +kernel
  have hi_X2_copyFrom : Cond.instanceMethod yX2_copyFrom ∈ wsX3_takeDown := by decide +kernel
  have hs_X2_copyFrom : Cond.selects RX2 yX2_copyFrom yX2_copyFrom ∈ wsX3_takeDown := by decide +kernel
  have hn_X2 : Cond.initialized yX2_remove.cls ∈ wsX3_takeDown := by decide +kernel
  have hi_X2_remove : Cond.instanceMethod yX2_remove ∈ wsX3_takeDown := by decide +kernel
  have hs_X2_remove : Cond.selects RX2 yX2_remove yX2_remove ∈ wsX3_takeDown := by decide +kernel
  refine MI.of (cc := cX3_takeDown) (nL := 2) (ty := .int) (own := RX3) [some (.ref x), some (.int k)] (by decide +kernel) rfl rfl (Nat.le_of_ble_eq_true rfl) rfl rfl ?_
  intro x1 C R0
  refine g_aload_n C dX3_takeDown_0 rfl rfl ?_
  refine g_get C inX3 0 rfl rfl 1 (by decide) f16 rfl dX3_takeDown_1 ?_
  refine g_aload_n C dX3_takeDown_4 rfl rfl ?_
  refine g_get C inX3 0 rfl rfl 0 (by decide) f10 rfl dX3_takeDown_5 ?_
  have hM := MV.to (c_X2_copyFrom E (h 1) (a 1) (kjB κ) (h 0) (a 0) (kjS κ) hf) (List.flatten (List.map (kF E x h a o r s sa κ) [0, 3, 4, 5, 6, 7, 8, 9, 10])) (kW E x h a o r s sa κ) (kW E x h a o r s sa ((kjS κ), (kjS κ), (kjT κ), (kjN κ), (kjH κ), (kjx κ), (kjz κ), (kjh κ), (kj1 κ), (kj2 κ), (kjg κ), (kjn κ), (kjZ κ))) (pmB2 (f := (kF E x h a o r s sa κ)) (is := [2, 1]) (ks := [0, 1, 2, 3, 4, 5, 6, 7, 8, 9, 10]) (by decide)) (pmB2 (f := (kF E x h a o r s sa ((kjS κ), (kjS κ), (kjT κ), (kjN κ), (kjH κ), (kjx κ), (kjz κ), (kjh κ), (kj1 κ), (kj2 κ), (kjg κ), (kjn κ), (kjZ κ)))) (is := [2, 1]) (js := [0, 3, 4, 5, 6, 7, 8, 9, 10]) (ks := [0, 1, 2, 3, 4, 5, 6, 7, 8, 9, 10]) (by decide))
  refine g_callvNF C 10 rfl rfl hM cf_X2_copyFrom ggX3_takeDown_X2_copyFrom (List.mem_of_getElem? (i := 7) rfl) hi_X2_copyFrom hs_X2_copyFrom hn_X2 (fitD (Nat.le_of_ble_eq_true rfl) (Nat.le_of_ble_eq_true rfl)) rfl rfl (Nat.le_of_ble_eq_true rfl) dX3_takeDown_8 (fun w1 hp => ?_)
  subst hp
  refine g_aload_n C dX3_takeDown_11 rfl rfl ?_
  refine g_aload_n C dX3_takeDown_12 rfl rfl ?_
  refine g_get C inX3 0 rfl rfl 0 (by decide) f10 rfl dX3_takeDown_13 ?_
  refine g_iload_n C dX3_takeDown_16 rfl rfl ?_
  have hM := MI.to (P := (fun q => q = (removeR (kjS κ) k).1)) (u := (skyW E (h 0) (a 0) (removeR (kjS κ) k).2)) (c_X2_remove E (h 0) (a 0) (kjS κ) k) (List.flatten (List.map (kF E x h a o r s sa ((kjS κ), (kjS κ), (kjT κ), (kjN κ), (kjH κ), (kjx κ), (kjz κ), (kjh κ), (kj1 κ), (kj2 κ), (kjg κ), (kjn κ), (kjZ κ))) [0, 2, 3, 4, 5, 6, 7, 8, 9, 10])) (kW E x h a o r s sa ((kjS κ), (kjS κ), (kjT κ), (kjN κ), (kjH κ), (kjx κ), (kjz κ), (kjh κ), (kj1 κ), (kj2 κ), (kjg κ), (kjn κ), (kjZ κ))) (kW E x h a o r s sa ((removeR (kjS κ) k).2, (kjS κ), (kjT κ), (kjN κ), (kjH κ), (kjx κ), (kjz κ), (kjh κ), (kj1 κ), (kj2 κ), (kjg κ), (kjn κ), (kjZ κ))) (pmB2 (f := (kF E x h a o r s sa ((kjS κ), (kjS κ), (kjT κ), (kjN κ), (kjH κ), (kjx κ), (kjz κ), (kjh κ), (kj1 κ), (kj2 κ), (kjg κ), (kjn κ), (kjZ κ)))) (is := [1]) (ks := [0, 1, 2, 3, 4, 5, 6, 7, 8, 9, 10]) (by decide)) (pmB2 (f := (kF E x h a o r s sa ((removeR (kjS κ) k).2, (kjS κ), (kjT κ), (kjN κ), (kjH κ), (kjx κ), (kjz κ), (kjh κ), (kj1 κ), (kj2 κ), (kjg κ), (kjn κ), (kjZ κ)))) (is := [1]) (js := [0, 2, 3, 4, 5, 6, 7, 8, 9, 10]) (ks := [0, 1, 2, 3, 4, 5, 6, 7, 8, 9, 10]) (by decide))
  refine g_calliNF C 1 rfl rfl hM cf_X2_remove ggX3_takeDown_X2_remove (List.mem_of_getElem? (i := 20) rfl) hi_X2_remove hs_X2_remove hn_X2 (fitD (Nat.le_of_ble_eq_true rfl) (Nat.le_of_ble_eq_true rfl)) rfl rfl (Nat.le_of_ble_eq_true rfl) dX3_takeDown_17 (fun q1 w1 hp => ?_)
  obtain ⟨rfl, rfl⟩ := hp
  refine g_calliVF C 0 rfl rfl (c_X3_recorded E x h a o r s sa ((removeR (kjS κ) k).2, (kjS κ), (kjT κ), (kjN κ), (kjH κ), (kjx κ), (kjz κ), (kjh κ), (kj1 κ), (kj2 κ), (kjg κ), (kjn κ), (kjZ κ)) hk hf ((removeR (kjS κ) k).1)) cf_X3_recorded gX3_takeDown_X3_recorded rfl (fitD (Nat.le_of_ble_eq_true rfl) (Nat.le_of_ble_eq_true rfl)) rfl rfl (Nat.le_of_ble_eq_true rfl) dX3_takeDown_20 (fun q1 w1 hp => ?_)
  obtain ⟨rfl, rfl⟩ := hp
  refine g_iret C R0 dX3_takeDown_23 ?_
  exact pK_mk rfl rfl
set_option maxHeartbeats 4000000 in
set_option maxRecDepth 100000 in
theorem c_X3_read (E : Ev) (x : Nat) (h : Nat → Nat) (a : Nat → Nat → Nat) (o r s : Nat) (sa : Nat → Nat) (κ : KSt) (hk : okH κ) (hf : okFr (kjS κ)) (k : Int32) : MI E yX3_read wsX3_read (rmD 4) (kW E x h a o r s sa κ) [.ref x, .int k] (pK E x h a o r s sa (kAct κ (raiseR (kjS κ) k))) := by
  have inX3 : ∀ w ∈ u_ws RX3 TX3 9, w ∈ wsX3_read := by decide +kernel
  have f16 : Cond.fieldLink RX3 16 (TX3 1).1 (TX3 1).2.1 (TX3 1).2.2.1 ∈ wsX3_read := by decide +kernel
  have f10 : Cond.fieldLink RX3 10 (TX3 0).1 (TX3 0).2.1 (TX3 0).2.2.1 ∈ wsX3_read := by decide +kernel
  have hi_X2_copyFrom : Cond.instanceMethod yX2_copyFrom ∈ wsX3_read := by decide +kernel
  have hs_X2_copyFrom : Cond.selects RX2 yX2_copyFrom yX2_copyFrom ∈ wsX3_read := by decide +kernel
  have hn_X2 : Cond.initialized yX2_raise.cls ∈ wsX3_read := by decide +kernel
  have hi_X2_raise : Cond.instanceMethod yX2_raise ∈ wsX3_read := by decide +kernel
  have hs_X2_raise : Cond.selects RX2 yX2_raise yX2_raise ∈ wsX3_read := by decide +kernel
  refine MI.of (cc := cX3_read) (nL := 2) (ty := .int) (own := RX3) [some (.ref x), some (.int k)] (by decide +kernel) rfl rfl (Nat.le_of_ble_eq_true rfl) rfl rfl ?_
  intro x1 C R0
  refine g_aload_n C dX3_read_0 rfl rfl ?_
  refine g_get C inX3 0 rfl rfl 1 (by decide) f16 rfl dX3_read_1 ?_
  refine g_aload_n C dX3_read_4 rfl rfl ?_
  refine g_get C inX3 0 rfl rfl 0 (by decide) f10 rfl dX3_read_5 ?_
  have hM := MV.to (c_X2_copyFrom E (h 1) (a 1) (kjB κ) (h 0) (a 0) (kjS κ) hf) (List.flatten (List.map (kF E x h a o r s sa κ) [0, 3, 4, 5, 6, 7, 8, 9, 10])) (kW E x h a o r s sa κ) (kW E x h a o r s sa ((kjS κ), (kjS κ), (kjT κ), (kjN κ), (kjH κ), (kjx κ), (kjz κ), (kjh κ), (kj1 κ), (kj2 κ), (kjg κ), (kjn κ), (kjZ κ))) (pmB2 (f := (kF E x h a o r s sa κ)) (is := [2, 1]) (ks := [0, 1, 2, 3, 4, 5, 6, 7, 8, 9, 10]) (by decide)) (pmB2 (f := (kF E x h a o r s sa ((kjS κ), (kjS κ), (kjT κ), (kjN κ), (kjH κ), (kjx κ), (kjz κ), (kjh κ), (kj1 κ), (kj2 κ), (kjg κ), (kjn κ), (kjZ κ)))) (is := [2, 1]) (js := [0, 3, 4, 5, 6, 7, 8, 9, 10]) (ks := [0, 1, 2, 3, 4, 5, 6, 7, 8, 9, 10]) (by decide))
  refine g_callvNF C 10 rfl rfl hM cf_X2_copyFrom ggX3_read_X2_copyFrom (List.mem_of_getElem? (i := 7) rfl) hi_X2_copyFrom hs_X2_copyFrom hn_X2 (fitD (Nat.le_of_ble_eq_true rfl) (Nat.le_of_ble_eq_true rfl)) rfl rfl (Nat.le_of_ble_eq_true rfl) dX3_read_8 (fun w1 hp => ?_)
  subst hp
  refine g_aload_n C dX3_read_11 rfl rfl ?_
  refine g_aload_n C dX3_read_12 rfl rfl ?_
  refine g_get C inX3 0 rfl rfl 0 (by decide) f10 rfl dX3_read_13 ?_
  refine g_iload_n C dX3_read_16 rfl rfl ?_
  have hM := MI.to (P := (fun q => q = (raiseR (kjS κ) k).1)) (u := (skyW E (h 0) (a 0) (raiseR (kjS κ) k).2)) (c_X2_raise E (h 0) (a 0) (kjS κ) k) (List.flatten (List.map (kF E x h a o r s sa ((kjS κ), (kjS κ), (kjT κ), (kjN κ), (kjH κ), (kjx κ), (kjz κ), (kjh κ), (kj1 κ), (kj2 κ), (kjg κ), (kjn κ), (kjZ κ))) [0, 2, 3, 4, 5, 6, 7, 8, 9, 10])) (kW E x h a o r s sa ((kjS κ), (kjS κ), (kjT κ), (kjN κ), (kjH κ), (kjx κ), (kjz κ), (kjh κ), (kj1 κ), (kj2 κ), (kjg κ), (kjn κ), (kjZ κ))) (kW E x h a o r s sa ((raiseR (kjS κ) k).2, (kjS κ), (kjT κ), (kjN κ), (kjH κ), (kjx κ), (kjz κ), (kjh κ), (kj1 κ), (kj2 κ), (kjg κ), (kjn κ), (kjZ κ))) (pmB2 (f := (kF E x h a o r s sa ((kjS κ), (kjS κ), (kjT κ), (kjN κ), (kjH κ), (kjx κ), (kjz κ), (kjh κ), (kj1 κ), (kj2 κ), (kjg κ), (kjn κ), (kjZ κ)))) (is := [1]) (ks := [0, 1, 2, 3, 4, 5, 6, 7, 8, 9, 10]) (by decide)) (pmB2 (f := (kF E x h a o r s sa ((raiseR (kjS κ) k).2, (kjS κ), (kjT κ), (kjN κ), (kjH κ), (kjx κ), (kjz κ), (kjh κ), (kj1 κ), (kj2 κ), (kjg κ), (kjn κ), (kjZ κ)))) (is := [1]) (js := [0, 2, 3, 4, 5, 6, 7, 8, 9, 10]) (ks := [0, 1, 2, 3, 4, 5, 6, 7, 8, 9, 10]) (by decide))
  refine g_calliNF C 1 rfl rfl hM cf_X2_raise ggX3_read_X2_raise (List.mem_of_getElem? (i := 22) rfl) hi_X2_raise hs_X2_raise hn_X2 (fitD (Nat.le_of_ble_eq_true rfl) (Nat.le_of_ble_eq_true rfl)) rfl rfl (Nat.le_of_ble_eq_true rfl) dX3_read_17 (fun q1 w1 hp => ?_)
  obtain ⟨rfl, rfl⟩ := hp
  refine g_calliVF C 0 rfl rfl (c_X3_recorded E x h a o r s sa ((raiseR (kjS κ) k).2, (kjS κ), (kjT κ), (kjN κ), (kjH κ), (kjx κ), (kjz κ), (kjh κ), (kj1 κ), (kj2 κ), (kjg κ), (kjn κ), (kjZ κ)) hk hf ((raiseR (kjS κ) k).1)) cf_X3_recorded gX3_read_X3_recorded rfl (fitD (Nat.le_of_ble_eq_true rfl) (Nat.le_of_ble_eq_true rfl)) rfl rfl (Nat.le_of_ble_eq_true rfl) dX3_read_20 (fun q1 w1 hp => ?_)
  obtain ⟨rfl, rfl⟩ := hp
  refine g_iret C R0 dX3_read_23 ?_
  exact pK_mk rfl rfl
set_option maxHeartbeats 4000000 in
set_option maxRecDepth 100000 in
theorem c_X3_write (E : Ev) (x : Nat) (h : Nat → Nat) (a : Nat → Nat → Nat) (o r s : Nat) (sa : Nat → Nat) (κ : KSt) (hk : okH κ) (hf : okFr (kjS κ)) (k n : Int32) : MI E yX3_write wsX3_write (rmD 3) (kW E x h a o r s sa κ) [.ref x, .int k, .int n] (pK E x h a o r s sa (kAct κ (renumR (kjS κ) k n))) := by
  have inX3 : ∀ w ∈ u_ws RX3 TX3 9, w ∈ wsX3_write := by decide +kernel
  have f16 : Cond.fieldLink RX3 16 (TX3 1).1 (TX3 1).2.1 (TX3 1).2.2.1 ∈ wsX3_write := by decide +kernel
  have f10 : Cond.fieldLink RX3 10 (TX3 0).1 (TX3 0).2.1 (TX3 0).2.2.1 ∈ wsX3_write := by decide +kernel
  have hi_X2_copyFrom : Cond.instanceMethod yX2_copyFrom ∈ wsX3_write := by decide +kernel
  have hs_X2_copyFrom : Cond.selects RX2 yX2_copyFrom yX2_copyFrom ∈ wsX3_write := by decide +kernel
  have hn_X2 : Cond.initialized yX2_renumber.cls ∈ wsX3_write := by decide +kernel
  have hi_X2_renumber : Cond.instanceMethod yX2_renumber ∈ wsX3_write := by decide +kernel
  have hs_X2_renumber : Cond.selects RX2 yX2_renumber yX2_renumber ∈ wsX3_write := by decide +kernel
  refine MI.of (cc := cX3_write) (nL := 3) (ty := .int) (own := RX3) [some (.ref x), some (.int k), some (.int n)] (by decide +kernel) rfl rfl (Nat.le_of_ble_eq_true rfl) rfl rfl ?_
  intro x1 C R0
  refine g_aload_n C dX3_write_0 rfl rfl ?_
  refine g_get C inX3 0 rfl rfl 1 (by decide) f16 rfl dX3_write_1 ?_
  refine g_aload_n C dX3_write_4 rfl rfl ?_
  refine g_get C inX3 0 rfl rfl 0 (by decide) f10 rfl dX3_write_5 ?_
  have hM := MV.to (c_X2_copyFrom E (h 1) (a 1) (kjB κ) (h 0) (a 0) (kjS κ) hf) (List.flatten (List.map (kF E x h a o r s sa κ) [0, 3, 4, 5, 6, 7, 8, 9, 10])) (kW E x h a o r s sa κ) (kW E x h a o r s sa ((kjS κ), (kjS κ), (kjT κ), (kjN κ), (kjH κ), (kjx κ), (kjz κ), (kjh κ), (kj1 κ), (kj2 κ), (kjg κ), (kjn κ), (kjZ κ))) (pmB2 (f := (kF E x h a o r s sa κ)) (is := [2, 1]) (ks := [0, 1, 2, 3, 4, 5, 6, 7, 8, 9, 10]) (by decide)) (pmB2 (f := (kF E x h a o r s sa ((kjS κ), (kjS κ), (kjT κ), (kjN κ), (kjH κ), (kjx κ), (kjz κ), (kjh κ), (kj1 κ), (kj2 κ), (kjg κ), (kjn κ), (kjZ κ)))) (is := [2, 1]) (js := [0, 3, 4, 5, 6, 7, 8, 9, 10]) (ks := [0, 1, 2, 3, 4, 5, 6, 7, 8, 9, 10]) (by decide))
  refine g_callvNF C 10 rfl rfl hM cf_X2_copyFrom ggX3_write_X2_copyFrom (List.mem_of_getElem? (i := 7) rfl) hi_X2_copyFrom hs_X2_copyFrom hn_X2 (fitD (Nat.le_of_ble_eq_true rfl) (Nat.le_of_ble_eq_true rfl)) rfl rfl (Nat.le_of_ble_eq_true rfl) dX3_write_8 (fun w1 hp => ?_)
  subst hp
  refine g_aload_n C dX3_write_11 rfl rfl ?_
  refine g_aload_n C dX3_write_12 rfl rfl ?_
  refine g_get C inX3 0 rfl rfl 0 (by decide) f10 rfl dX3_write_13 ?_
  refine g_iload_n C dX3_write_16 rfl rfl ?_
  refine g_iload_n C dX3_write_17 rfl rfl ?_
  have hM := MI.to (P := (fun q => q = (renumR (kjS κ) k n).1)) (u := (skyW E (h 0) (a 0) (renumR (kjS κ) k n).2)) (c_X2_renumber E (h 0) (a 0) (kjS κ) k n) (List.flatten (List.map (kF E x h a o r s sa ((kjS κ), (kjS κ), (kjT κ), (kjN κ), (kjH κ), (kjx κ), (kjz κ), (kjh κ), (kj1 κ), (kj2 κ), (kjg κ), (kjn κ), (kjZ κ))) [0, 2, 3, 4, 5, 6, 7, 8, 9, 10])) (kW E x h a o r s sa ((kjS κ), (kjS κ), (kjT κ), (kjN κ), (kjH κ), (kjx κ), (kjz κ), (kjh κ), (kj1 κ), (kj2 κ), (kjg κ), (kjn κ), (kjZ κ))) (kW E x h a o r s sa ((renumR (kjS κ) k n).2, (kjS κ), (kjT κ), (kjN κ), (kjH κ), (kjx κ), (kjz κ), (kjh κ), (kj1 κ), (kj2 κ), (kjg κ), (kjn κ), (kjZ κ))) (pmB2 (f := (kF E x h a o r s sa ((kjS κ), (kjS κ), (kjT κ), (kjN κ), (kjH κ), (kjx κ), (kjz κ), (kjh κ), (kj1 κ), (kj2 κ), (kjg κ), (kjn κ), (kjZ κ)))) (is := [1]) (ks := [0, 1, 2, 3, 4, 5, 6, 7, 8, 9, 10]) (by decide)) (pmB2 (f := (kF E x h a o r s sa ((renumR (kjS κ) k n).2, (kjS κ), (kjT κ), (kjN κ), (kjH κ), (kjx κ), (kjz κ), (kjh κ), (kj1 κ), (kj2 κ), (kjg κ), (kjn κ), (kjZ κ)))) (is := [1]) (js := [0, 2, 3, 4, 5, 6, 7, 8, 9, 10]) (ks := [0, 1, 2, 3, 4, 5, 6, 7, 8, 9, 10]) (by decide))
  refine g_calliNF C 1 rfl rfl hM cf_X2_renumber ggX3_write_X2_renumber (List.mem_of_getElem? (i := 23) rfl) hi_X2_renumber hs_X2_renumber hn_X2 (fitD (Nat.le_of_ble_eq_true rfl) (Nat.le_of_ble_eq_true rfl)) rfl rfl (Nat.le_of_ble_eq_true rfl) dX3_write_18 (fun q1 w1 hp => ?_)
  obtain ⟨rfl, rfl⟩ := hp
  refine g_calliVF C 0 rfl rfl (c_X3_recorded E x h a o r s sa ((renumR (kjS κ) k n).2, (kjS κ), (kjT κ), (kjN κ), (kjH κ), (kjx κ), (kjz κ), (kjh κ), (kj1 κ), (kj2 κ), (kjg κ), (kjn κ), (kjZ κ)) hk hf ((renumR (kjS κ) k n).1)) cf_X3_recorded gX3_write_X3_recorded rfl (fitD (Nat.le_of_ble_eq_true rfl) (Nat.le_of_ble_eq_true rfl)) rfl rfl (Nat.le_of_ble_eq_true rfl) dX3_write_21 (fun q1 w1 hp => ?_)
  obtain ⟨rfl, rfl⟩ := hp
  refine g_iret C R0 dX3_write_24 ?_
  exact pK_mk rfl rfl
set_option maxHeartbeats 4000000 in
set_option maxRecDepth 100000 in
theorem c_X3_move (E : Ev) (x : Nat) (h : Nat → Nat) (a : Nat → Nat → Nat) (o r s : Nat) (sa : Nat → Nat) (κ : KSt) (hk : okH κ) (hf : okFr (kjS κ)) (k s9 : Int32) : MI E yX3_move wsX3_move (rmD 3) (kW E x h a o r s sa κ) [.ref x, .int k, .int s9] (pK E x h a o r s sa (kAct κ (shiftR (kjS κ) k s9))) := by
  have inX3 : ∀ w ∈ u_ws RX3 TX3 9, w ∈ wsX3_move := by decide +kernel
  have f16 : Cond.fieldLink RX3 16 (TX3 1).1 (TX3 1).2.1 (TX3 1).2.2.1 ∈ wsX3_move := by decide +kernel
  have f10 : Cond.fieldLink RX3 10 (TX3 0).1 (TX3 0).2.1 (TX3 0).2.2.1 ∈ wsX3_move := by decide +kernel
  have hi_X2_copyFrom : Cond.instanceMethod yX2_copyFrom ∈ wsX3_move := by decide +kernel
  have hs_X2_copyFrom : Cond.selects RX2 yX2_copyFrom yX2_copyFrom ∈ wsX3_move := by decide +kernel
  have hn_X2 : Cond.initialized yX2_shift.cls ∈ wsX3_move := by decide +kernel
  have hi_X2_shift : Cond.instanceMethod yX2_shift ∈ wsX3_move := by decide +kernel
  have hs_X2_shift : Cond.selects RX2 yX2_shift yX2_shift ∈ wsX3_move := by decide +kernel
  refine MI.of (cc := cX3_move) (nL := 3) (ty := .int) (own := RX3) [some (.ref x), some (.int k), some (.int s9)] (by decide +kernel) rfl rfl (Nat.le_of_ble_eq_true rfl) rfl rfl ?_
  intro x1 C R0
  refine g_aload_n C dX3_move_0 rfl rfl ?_
  refine g_get C inX3 0 rfl rfl 1 (by decide) f16 rfl dX3_move_1 ?_
  refine g_aload_n C dX3_move_4 rfl rfl ?_
  refine g_get C inX3 0 rfl rfl 0 (by decide) f10 rfl dX3_move_5 ?_
  have hM := MV.to (c_X2_copyFrom E (h 1) (a 1) (kjB κ) (h 0) (a 0) (kjS κ) hf) (List.flatten (List.map (kF E x h a o r s sa κ) [0, 3, 4, 5, 6, 7, 8, 9, 10])) (kW E x h a o r s sa κ) (kW E x h a o r s sa ((kjS κ), (kjS κ), (kjT κ), (kjN κ), (kjH κ), (kjx κ), (kjz κ), (kjh κ), (kj1 κ), (kj2 κ), (kjg κ), (kjn κ), (kjZ κ))) (pmB2 (f := (kF E x h a o r s sa κ)) (is := [2, 1]) (ks := [0, 1, 2, 3, 4, 5, 6, 7, 8, 9, 10]) (by decide)) (pmB2 (f := (kF E x h a o r s sa ((kjS κ), (kjS κ), (kjT κ), (kjN κ), (kjH κ), (kjx κ), (kjz κ), (kjh κ), (kj1 κ), (kj2 κ), (kjg κ), (kjn κ), (kjZ κ)))) (is := [2, 1]) (js := [0, 3, 4, 5, 6, 7, 8, 9, 10]) (ks := [0, 1, 2, 3, 4, 5, 6, 7, 8, 9, 10]) (by decide))
  refine g_callvNF C 10 rfl rfl hM cf_X2_copyFrom ggX3_move_X2_copyFrom (List.mem_of_getElem? (i := 7) rfl) hi_X2_copyFrom hs_X2_copyFrom hn_X2 (fitD (Nat.le_of_ble_eq_true rfl) (Nat.le_of_ble_eq_true rfl)) rfl rfl (Nat.le_of_ble_eq_true rfl) dX3_move_8 (fun w1 hp => ?_)
  subst hp
  refine g_aload_n C dX3_move_11 rfl rfl ?_
  refine g_aload_n C dX3_move_12 rfl rfl ?_
  refine g_get C inX3 0 rfl rfl 0 (by decide) f10 rfl dX3_move_13 ?_
  refine g_iload_n C dX3_move_16 rfl rfl ?_
  refine g_iload_n C dX3_move_17 rfl rfl ?_
  have hM := MI.to (P := (fun q => q = (shiftR (kjS κ) k s9).1)) (u := (skyW E (h 0) (a 0) (shiftR (kjS κ) k s9).2)) (c_X2_shift E (h 0) (a 0) (kjS κ) k s9) (List.flatten (List.map (kF E x h a o r s sa ((kjS κ), (kjS κ), (kjT κ), (kjN κ), (kjH κ), (kjx κ), (kjz κ), (kjh κ), (kj1 κ), (kj2 κ), (kjg κ), (kjn κ), (kjZ κ))) [0, 2, 3, 4, 5, 6, 7, 8, 9, 10])) (kW E x h a o r s sa ((kjS κ), (kjS κ), (kjT κ), (kjN κ), (kjH κ), (kjx κ), (kjz κ), (kjh κ), (kj1 κ), (kj2 κ), (kjg κ), (kjn κ), (kjZ κ))) (kW E x h a o r s sa ((shiftR (kjS κ) k s9).2, (kjS κ), (kjT κ), (kjN κ), (kjH κ), (kjx κ), (kjz κ), (kjh κ), (kj1 κ), (kj2 κ), (kjg κ), (kjn κ), (kjZ κ))) (pmB2 (f := (kF E x h a o r s sa ((kjS κ), (kjS κ), (kjT κ), (kjN κ), (kjH κ), (kjx κ), (kjz κ), (kjh κ), (kj1 κ), (kj2 κ), (kjg κ), (kjn κ), (kjZ κ)))) (is := [1]) (ks := [0, 1, 2, 3, 4, 5, 6, 7, 8, 9, 10]) (by decide)) (pmB2 (f := (kF E x h a o r s sa ((shiftR (kjS κ) k s9).2, (kjS κ), (kjT κ), (kjN κ), (kjH κ), (kjx κ), (kjz κ), (kjh κ), (kj1 κ), (kj2 κ), (kjg κ), (kjn κ), (kjZ κ)))) (is := [1]) (js := [0, 2, 3, 4, 5, 6, 7, 8, 9, 10]) (ks := [0, 1, 2, 3, 4, 5, 6, 7, 8, 9, 10]) (by decide))
  refine g_calliNF C 1 rfl rfl hM cf_X2_shift ggX3_move_X2_shift (List.mem_of_getElem? (i := 24) rfl) hi_X2_shift hs_X2_shift hn_X2 (fitD (Nat.le_of_ble_eq_true rfl) (Nat.le_of_ble_eq_true rfl)) rfl rfl (Nat.le_of_ble_eq_true rfl) dX3_move_18 (fun q1 w1 hp => ?_)
  obtain ⟨rfl, rfl⟩ := hp
  refine g_calliVF C 0 rfl rfl (c_X3_recorded E x h a o r s sa ((shiftR (kjS κ) k s9).2, (kjS κ), (kjT κ), (kjN κ), (kjH κ), (kjx κ), (kjz κ), (kjh κ), (kj1 κ), (kj2 κ), (kjg κ), (kjn κ), (kjZ κ)) hk hf ((shiftR (kjS κ) k s9).1)) cf_X3_recorded gX3_move_X3_recorded rfl (fitD (Nat.le_of_ble_eq_true rfl) (Nat.le_of_ble_eq_true rfl)) rfl rfl (Nat.le_of_ble_eq_true rfl) dX3_move_21 (fun q1 w1 hp => ?_)
  obtain ⟨rfl, rfl⟩ := hp
  refine g_iret C R0 dX3_move_24 ?_
  exact pK_mk rfl rfl
set_option maxHeartbeats 4000000 in
set_option maxRecDepth 100000 in
theorem c_X3_beat (E : Ev) (x : Nat) (h : Nat → Nat) (a : Nat → Nat → Nat) (o r s : Nat) (sa : Nat → Nat) (κ : KSt) (hk : okH κ) (hf : okFr (kjS κ)) (n : Int32) : MI E yX3_beat wsX3_beat (rmD 3) (kW E x h a o r s sa κ) [.ref x, .int n] (pK E x h a o r s sa (kAct κ (beatR (kjS κ) n))) := by
  have inX3 : ∀ w ∈ u_ws RX3 TX3 9, w ∈ wsX3_beat := by decide +kernel
  have f16 : Cond.fieldLink RX3 16 (TX3 1).1 (TX3 1).2.1 (TX3 1).2.2.1 ∈ wsX3_beat := by decide +kernel
  have f10 : Cond.fieldLink RX3 10 (TX3 0).1 (TX3 0).2.1 (TX3 0).2.2.1 ∈ wsX3_beat := by decide +kernel
  have hi_X2_copyFrom : Cond.instanceMethod yX2_copyFrom ∈ wsX3_beat := by decide +kernel
  have hs_X2_copyFrom : Cond.selects RX2 yX2_copyFrom yX2_copyFrom ∈ wsX3_beat := by decide +kernel
  have hn_X2 : Cond.initialized yX2_passBeats.cls ∈ wsX3_beat := by decide +kernel
  have hi_X2_passBeats : Cond.instanceMethod yX2_passBeats ∈ wsX3_beat := by decide +kernel
  have hs_X2_passBeats : Cond.selects RX2 yX2_passBeats yX2_passBeats ∈ wsX3_beat := by decide +kernel
  refine MI.of (cc := cX3_beat) (nL := 2) (ty := .int) (own := RX3) [some (.ref x), some (.int n)] (by decide +kernel) rfl rfl (Nat.le_of_ble_eq_true rfl) rfl rfl ?_
  intro x1 C R0
  refine g_aload_n C dX3_beat_0 rfl rfl ?_
  refine g_get C inX3 0 rfl rfl 1 (by decide) f16 rfl dX3_beat_1 ?_
  refine g_aload_n C dX3_beat_4 rfl rfl ?_
  refine g_get C inX3 0 rfl rfl 0 (by decide) f10 rfl dX3_beat_5 ?_
  have hM := MV.to (c_X2_copyFrom E (h 1) (a 1) (kjB κ) (h 0) (a 0) (kjS κ) hf) (List.flatten (List.map (kF E x h a o r s sa κ) [0, 3, 4, 5, 6, 7, 8, 9, 10])) (kW E x h a o r s sa κ) (kW E x h a o r s sa ((kjS κ), (kjS κ), (kjT κ), (kjN κ), (kjH κ), (kjx κ), (kjz κ), (kjh κ), (kj1 κ), (kj2 κ), (kjg κ), (kjn κ), (kjZ κ))) (pmB2 (f := (kF E x h a o r s sa κ)) (is := [2, 1]) (ks := [0, 1, 2, 3, 4, 5, 6, 7, 8, 9, 10]) (by decide)) (pmB2 (f := (kF E x h a o r s sa ((kjS κ), (kjS κ), (kjT κ), (kjN κ), (kjH κ), (kjx κ), (kjz κ), (kjh κ), (kj1 κ), (kj2 κ), (kjg κ), (kjn κ), (kjZ κ)))) (is := [2, 1]) (js := [0, 3, 4, 5, 6, 7, 8, 9, 10]) (ks := [0, 1, 2, 3, 4, 5, 6, 7, 8, 9, 10]) (by decide))
  refine g_callvNF C 10 rfl rfl hM cf_X2_copyFrom ggX3_beat_X2_copyFrom (List.mem_of_getElem? (i := 7) rfl) hi_X2_copyFrom hs_X2_copyFrom hn_X2 (fitD (Nat.le_of_ble_eq_true rfl) (Nat.le_of_ble_eq_true rfl)) rfl rfl (Nat.le_of_ble_eq_true rfl) dX3_beat_8 (fun w1 hp => ?_)
  subst hp
  refine g_aload_n C dX3_beat_11 rfl rfl ?_
  refine g_aload_n C dX3_beat_12 rfl rfl ?_
  refine g_get C inX3 0 rfl rfl 0 (by decide) f10 rfl dX3_beat_13 ?_
  refine g_iload_n C dX3_beat_16 rfl rfl ?_
  have hM := MI.to (P := (fun q => q = (beatR (kjS κ) n).1)) (u := (skyW E (h 0) (a 0) (beatR (kjS κ) n).2)) (c_X2_passBeats E (h 0) (a 0) (kjS κ) n) (List.flatten (List.map (kF E x h a o r s sa ((kjS κ), (kjS κ), (kjT κ), (kjN κ), (kjH κ), (kjx κ), (kjz κ), (kjh κ), (kj1 κ), (kj2 κ), (kjg κ), (kjn κ), (kjZ κ))) [0, 2, 3, 4, 5, 6, 7, 8, 9, 10])) (kW E x h a o r s sa ((kjS κ), (kjS κ), (kjT κ), (kjN κ), (kjH κ), (kjx κ), (kjz κ), (kjh κ), (kj1 κ), (kj2 κ), (kjg κ), (kjn κ), (kjZ κ))) (kW E x h a o r s sa ((beatR (kjS κ) n).2, (kjS κ), (kjT κ), (kjN κ), (kjH κ), (kjx κ), (kjz κ), (kjh κ), (kj1 κ), (kj2 κ), (kjg κ), (kjn κ), (kjZ κ))) (pmB2 (f := (kF E x h a o r s sa ((kjS κ), (kjS κ), (kjT κ), (kjN κ), (kjH κ), (kjx κ), (kjz κ), (kjh κ), (kj1 κ), (kj2 κ), (kjg κ), (kjn κ), (kjZ κ)))) (is := [1]) (ks := [0, 1, 2, 3, 4, 5, 6, 7, 8, 9, 10]) (by decide)) (pmB2 (f := (kF E x h a o r s sa ((beatR (kjS κ) n).2, (kjS κ), (kjT κ), (kjN κ), (kjH κ), (kjx κ), (kjz κ), (kjh κ), (kj1 κ), (kj2 κ), (kjg κ), (kjn κ), (kjZ κ)))) (is := [1]) (js := [0, 2, 3, 4, 5, 6, 7, 8, 9, 10]) (ks := [0, 1, 2, 3, 4, 5, 6, 7, 8, 9, 10]) (by decide))
  refine g_calliNF C 1 rfl rfl hM cf_X2_passBeats ggX3_beat_X2_passBeats (List.mem_of_getElem? (i := 25) rfl) hi_X2_passBeats hs_X2_passBeats hn_X2 (fitD (Nat.le_of_ble_eq_true rfl) (Nat.le_of_ble_eq_true rfl)) rfl rfl (Nat.le_of_ble_eq_true rfl) dX3_beat_17 (fun q1 w1 hp => ?_)
  obtain ⟨rfl, rfl⟩ := hp
  refine g_calliVF C 0 rfl rfl (c_X3_recorded E x h a o r s sa ((beatR (kjS κ) n).2, (kjS κ), (kjT κ), (kjN κ), (kjH κ), (kjx κ), (kjz κ), (kjh κ), (kj1 κ), (kj2 κ), (kjg κ), (kjn κ), (kjZ κ)) hk hf ((beatR (kjS κ) n).1)) cf_X3_recorded gX3_beat_X3_recorded rfl (fitD (Nat.le_of_ble_eq_true rfl) (Nat.le_of_ble_eq_true rfl)) rfl rfl (Nat.le_of_ble_eq_true rfl) dX3_beat_20 (fun q1 w1 hp => ?_)
  obtain ⟨rfl, rfl⟩ := hp
  refine g_iret C R0 dX3_beat_23 ?_
  exact pK_mk rfl rfl
set_option maxHeartbeats 4000000 in
set_option maxRecDepth 100000 in
theorem c_X3_wind (E : Ev) (x : Nat) (h : Nat → Nat) (a : Nat → Nat → Nat) (o r s : Nat) (sa : Nat → Nat) (κ : KSt) (hk : okH κ) (hf : okFr (kjS κ)) (k w : Int32) : MI E yX3_wind wsX3_wind (rmD 3) (kW E x h a o r s sa κ) [.ref x, .int k, .int w] (pK E x h a o r s sa (kAct κ (windR (kjS κ) k w))) := by
  have inX3 : ∀ w ∈ u_ws RX3 TX3 9, w ∈ wsX3_wind := by decide +kernel
  have f16 : Cond.fieldLink RX3 16 (TX3 1).1 (TX3 1).2.1 (TX3 1).2.2.1 ∈ wsX3_wind := by decide +kernel
  have f10 : Cond.fieldLink RX3 10 (TX3 0).1 (TX3 0).2.1 (TX3 0).2.2.1 ∈ wsX3_wind := by decide +kernel
  have hi_X2_copyFrom : Cond.instanceMethod yX2_copyFrom ∈ wsX3_wind := by decide +kernel
  have hs_X2_copyFrom : Cond.selects RX2 yX2_copyFrom yX2_copyFrom ∈ wsX3_wind := by decide +kernel
  have hn_X2 : Cond.initialized yX2_changeWind.cls ∈ wsX3_wind := by decide +kernel
  have hi_X2_changeWind : Cond.instanceMethod yX2_changeWind ∈ wsX3_wind := by decide +kernel
  have hs_X2_changeWind : Cond.selects RX2 yX2_changeWind yX2_changeWind ∈ wsX3_wind := by decide +kernel
  refine MI.of (cc := cX3_wind) (nL := 3) (ty := .int) (own := RX3) [some (.ref x), some (.int k), some (.int w)] (by decide +kernel) rfl rfl (Nat.le_of_ble_eq_true rfl) rfl rfl ?_
  intro x1 C R0
  refine g_aload_n C dX3_wind_0 rfl rfl ?_
  refine g_get C inX3 0 rfl rfl 1 (by decide) f16 rfl dX3_wind_1 ?_
  refine g_aload_n C dX3_wind_4 rfl rfl ?_
  refine g_get C inX3 0 rfl rfl 0 (by decide) f10 rfl dX3_wind_5 ?_
  have hM := MV.to (c_X2_copyFrom E (h 1) (a 1) (kjB κ) (h 0) (a 0) (kjS κ) hf) (List.flatten (List.map (kF E x h a o r s sa κ) [0, 3, 4, 5, 6, 7, 8, 9, 10])) (kW E x h a o r s sa κ) (kW E x h a o r s sa ((kjS κ), (kjS κ), (kjT κ), (kjN κ), (kjH κ), (kjx κ), (kjz κ), (kjh κ), (kj1 κ), (kj2 κ), (kjg κ), (kjn κ), (kjZ κ))) (pmB2 (f := (kF E x h a o r s sa κ)) (is := [2, 1]) (ks := [0, 1, 2, 3, 4, 5, 6, 7, 8, 9, 10]) (by decide)) (pmB2 (f := (kF E x h a o r s sa ((kjS κ), (kjS κ), (kjT κ), (kjN κ), (kjH κ), (kjx κ), (kjz κ), (kjh κ), (kj1 κ), (kj2 κ), (kjg κ), (kjn κ), (kjZ κ)))) (is := [2, 1]) (js := [0, 3, 4, 5, 6, 7, 8, 9, 10]) (ks := [0, 1, 2, 3, 4, 5, 6, 7, 8, 9, 10]) (by decide))
  refine g_callvNF C 10 rfl rfl hM cf_X2_copyFrom ggX3_wind_X2_copyFrom (List.mem_of_getElem? (i := 7) rfl) hi_X2_copyFrom hs_X2_copyFrom hn_X2 (fitD (Nat.le_of_ble_eq_true rfl) (Nat.le_of_ble_eq_true rfl)) rfl rfl (Nat.le_of_ble_eq_true rfl) dX3_wind_8 (fun w1 hp => ?_)
  subst hp
  refine g_aload_n C dX3_wind_11 rfl rfl ?_
  refine g_aload_n C dX3_wind_12 rfl rfl ?_
  refine g_get C inX3 0 rfl rfl 0 (by decide) f10 rfl dX3_wind_13 ?_
  refine g_iload_n C dX3_wind_16 rfl rfl ?_
  refine g_iload_n C dX3_wind_17 rfl rfl ?_
  have hM := MI.to (P := (fun q => q = (windR (kjS κ) k w).1)) (u := (skyW E (h 0) (a 0) (windR (kjS κ) k w).2)) (c_X2_changeWind E (h 0) (a 0) (kjS κ) k w) (List.flatten (List.map (kF E x h a o r s sa ((kjS κ), (kjS κ), (kjT κ), (kjN κ), (kjH κ), (kjx κ), (kjz κ), (kjh κ), (kj1 κ), (kj2 κ), (kjg κ), (kjn κ), (kjZ κ))) [0, 2, 3, 4, 5, 6, 7, 8, 9, 10])) (kW E x h a o r s sa ((kjS κ), (kjS κ), (kjT κ), (kjN κ), (kjH κ), (kjx κ), (kjz κ), (kjh κ), (kj1 κ), (kj2 κ), (kjg κ), (kjn κ), (kjZ κ))) (kW E x h a o r s sa ((windR (kjS κ) k w).2, (kjS κ), (kjT κ), (kjN κ), (kjH κ), (kjx κ), (kjz κ), (kjh κ), (kj1 κ), (kj2 κ), (kjg κ), (kjn κ), (kjZ κ))) (pmB2 (f := (kF E x h a o r s sa ((kjS κ), (kjS κ), (kjT κ), (kjN κ), (kjH κ), (kjx κ), (kjz κ), (kjh κ), (kj1 κ), (kj2 κ), (kjg κ), (kjn κ), (kjZ κ)))) (is := [1]) (ks := [0, 1, 2, 3, 4, 5, 6, 7, 8, 9, 10]) (by decide)) (pmB2 (f := (kF E x h a o r s sa ((windR (kjS κ) k w).2, (kjS κ), (kjT κ), (kjN κ), (kjH κ), (kjx κ), (kjz κ), (kjh κ), (kj1 κ), (kj2 κ), (kjg κ), (kjn κ), (kjZ κ)))) (is := [1]) (js := [0, 2, 3, 4, 5, 6, 7, 8, 9, 10]) (ks := [0, 1, 2, 3, 4, 5, 6, 7, 8, 9, 10]) (by decide))
  refine g_calliNF C 1 rfl rfl hM cf_X2_changeWind ggX3_wind_X2_changeWind (List.mem_of_getElem? (i := 26) rfl) hi_X2_changeWind hs_X2_changeWind hn_X2 (fitD (Nat.le_of_ble_eq_true rfl) (Nat.le_of_ble_eq_true rfl)) rfl rfl (Nat.le_of_ble_eq_true rfl) dX3_wind_18 (fun q1 w1 hp => ?_)
  obtain ⟨rfl, rfl⟩ := hp
  refine g_calliVF C 0 rfl rfl (c_X3_recorded E x h a o r s sa ((windR (kjS κ) k w).2, (kjS κ), (kjT κ), (kjN κ), (kjH κ), (kjx κ), (kjz κ), (kjh κ), (kj1 κ), (kj2 κ), (kjg κ), (kjn κ), (kjZ κ)) hk hf ((windR (kjS κ) k w).1)) cf_X3_recorded gX3_wind_X3_recorded rfl (fitD (Nat.le_of_ble_eq_true rfl) (Nat.le_of_ble_eq_true rfl)) rfl rfl (Nat.le_of_ble_eq_true rfl) dX3_wind_21 (fun q1 w1 hp => ?_)
  obtain ⟨rfl, rfl⟩ := hp
  refine g_iret C R0 dX3_wind_24 ?_
  exact pK_mk rfl rfl
set_option maxHeartbeats 4000000 in
set_option maxRecDepth 100000 in
theorem c_X3_set (E : Ev) (x : Nat) (h : Nat → Nat) (a : Nat → Nat → Nat) (o r s : Nat) (sa : Nat → Nat) (κ : KSt) (hk : okH κ) (hf : okFr (kjS κ)) (w v : Int32) : MI E yX3_set wsX3_set (rmD 3) (kW E x h a o r s sa κ) [.ref x, .int w, .int v] (pK E x h a o r s sa (kAct κ (setR (kjS κ) w v))) := by
  have inX3 : ∀ w ∈ u_ws RX3 TX3 9, w ∈ wsX3_set := by decide +kernel
  have f16 : Cond.fieldLink RX3 16 (TX3 1).1 (TX3 1).2.1 (TX3 1).2.2.1 ∈ wsX3_set := by decide +kernel
  have f10 : Cond.fieldLink RX3 10 (TX3 0).1 (TX3 0).2.1 (TX3 0).2.2.1 ∈ wsX3_set := by decide +kernel
  have hi_X2_copyFrom : Cond.instanceMethod yX2_copyFrom ∈ wsX3_set := by decide +kernel
  have hs_X2_copyFrom : Cond.selects RX2 yX2_copyFrom yX2_copyFrom ∈ wsX3_set := by decide +kernel
  have hn_X2 : Cond.initialized yX2_changeSetting.cls ∈ wsX3_set := by decide +kernel
  have hi_X2_changeSetting : Cond.instanceMethod yX2_changeSetting ∈ wsX3_set := by decide +kernel
  have hs_X2_changeSetting : Cond.selects RX2 yX2_changeSetting yX2_changeSetting ∈ wsX3_set := by decide +kernel
  refine MI.of (cc := cX3_set) (nL := 3) (ty := .int) (own := RX3) [some (.ref x), some (.int w), some (.int v)] (by decide +kernel) rfl rfl (Nat.le_of_ble_eq_true rfl) rfl rfl ?_
  intro x1 C R0
  refine g_aload_n C dX3_set_0 rfl rfl ?_
  refine g_get C inX3 0 rfl rfl 1 (by decide) f16 rfl dX3_set_1 ?_
  refine g_aload_n C dX3_set_4 rfl rfl ?_
  refine g_get C inX3 0 rfl rfl 0 (by decide) f10 rfl dX3_set_5 ?_
  have hM := MV.to (c_X2_copyFrom E (h 1) (a 1) (kjB κ) (h 0) (a 0) (kjS κ) hf) (List.flatten (List.map (kF E x h a o r s sa κ) [0, 3, 4, 5, 6, 7, 8, 9, 10])) (kW E x h a o r s sa κ) (kW E x h a o r s sa ((kjS κ), (kjS κ), (kjT κ), (kjN κ), (kjH κ), (kjx κ), (kjz κ), (kjh κ), (kj1 κ), (kj2 κ), (kjg κ), (kjn κ), (kjZ κ))) (pmB2 (f := (kF E x h a o r s sa κ)) (is := [2, 1]) (ks := [0, 1, 2, 3, 4, 5, 6, 7, 8, 9, 10]) (by decide)) (pmB2 (f := (kF E x h a o r s sa ((kjS κ), (kjS κ), (kjT κ), (kjN κ), (kjH κ), (kjx κ), (kjz κ), (kjh κ), (kj1 κ), (kj2 κ), (kjg κ), (kjn κ), (kjZ κ)))) (is := [2, 1]) (js := [0, 3, 4, 5, 6, 7, 8, 9, 10]) (ks := [0, 1, 2, 3, 4, 5, 6, 7, 8, 9, 10]) (by decide))
  refine g_callvNF C 10 rfl rfl hM cf_X2_copyFrom ggX3_set_X2_copyFrom (List.mem_of_getElem? (i := 7) rfl) hi_X2_copyFrom hs_X2_copyFrom hn_X2 (fitD (Nat.le_of_ble_eq_true rfl) (Nat.le_of_ble_eq_true rfl)) rfl rfl (Nat.le_of_ble_eq_true rfl) dX3_set_8 (fun w1 hp => ?_)
  subst hp
  refine g_aload_n C dX3_set_11 rfl rfl ?_
  refine g_aload_n C dX3_set_12 rfl rfl ?_
  refine g_get C inX3 0 rfl rfl 0 (by decide) f10 rfl dX3_set_13 ?_
  refine g_iload_n C dX3_set_16 rfl rfl ?_
  refine g_iload_n C dX3_set_17 rfl rfl ?_
  have hM := MI.to (P := (fun q => q = (setR (kjS κ) w v).1)) (u := (skyW E (h 0) (a 0) (setR (kjS κ) w v).2)) (c_X2_changeSetting E (h 0) (a 0) (kjS κ) w v) (List.flatten (List.map (kF E x h a o r s sa ((kjS κ), (kjS κ), (kjT κ), (kjN κ), (kjH κ), (kjx κ), (kjz κ), (kjh κ), (kj1 κ), (kj2 κ), (kjg κ), (kjn κ), (kjZ κ))) [0, 2, 3, 4, 5, 6, 7, 8, 9, 10])) (kW E x h a o r s sa ((kjS κ), (kjS κ), (kjT κ), (kjN κ), (kjH κ), (kjx κ), (kjz κ), (kjh κ), (kj1 κ), (kj2 κ), (kjg κ), (kjn κ), (kjZ κ))) (kW E x h a o r s sa ((setR (kjS κ) w v).2, (kjS κ), (kjT κ), (kjN κ), (kjH κ), (kjx κ), (kjz κ), (kjh κ), (kj1 κ), (kj2 κ), (kjg κ), (kjn κ), (kjZ κ))) (pmB2 (f := (kF E x h a o r s sa ((kjS κ), (kjS κ), (kjT κ), (kjN κ), (kjH κ), (kjx κ), (kjz κ), (kjh κ), (kj1 κ), (kj2 κ), (kjg κ), (kjn κ), (kjZ κ)))) (is := [1]) (ks := [0, 1, 2, 3, 4, 5, 6, 7, 8, 9, 10]) (by decide)) (pmB2 (f := (kF E x h a o r s sa ((setR (kjS κ) w v).2, (kjS κ), (kjT κ), (kjN κ), (kjH κ), (kjx κ), (kjz κ), (kjh κ), (kj1 κ), (kj2 κ), (kjg κ), (kjn κ), (kjZ κ)))) (is := [1]) (js := [0, 2, 3, 4, 5, 6, 7, 8, 9, 10]) (ks := [0, 1, 2, 3, 4, 5, 6, 7, 8, 9, 10]) (by decide))
  refine g_calliNF C 1 rfl rfl hM cf_X2_changeSetting ggX3_set_X2_changeSetting (List.mem_of_getElem? (i := 28) rfl) hi_X2_changeSetting hs_X2_changeSetting hn_X2 (fitD (Nat.le_of_ble_eq_true rfl) (Nat.le_of_ble_eq_true rfl)) rfl rfl (Nat.le_of_ble_eq_true rfl) dX3_set_18 (fun q1 w1 hp => ?_)
  obtain ⟨rfl, rfl⟩ := hp
  refine g_calliVF C 0 rfl rfl (c_X3_recorded E x h a o r s sa ((setR (kjS κ) w v).2, (kjS κ), (kjT κ), (kjN κ), (kjH κ), (kjx κ), (kjz κ), (kjh κ), (kj1 κ), (kj2 κ), (kjg κ), (kjn κ), (kjZ κ)) hk hf ((setR (kjS κ) w v).1)) cf_X3_recorded gX3_set_X3_recorded rfl (fitD (Nat.le_of_ble_eq_true rfl) (Nat.le_of_ble_eq_true rfl)) rfl rfl (Nat.le_of_ble_eq_true rfl) dX3_set_21 (fun q1 w1 hp => ?_)
  obtain ⟨rfl, rfl⟩ := hp
  refine g_iret C R0 dX3_set_24 ?_
  exact pK_mk rfl rfl
