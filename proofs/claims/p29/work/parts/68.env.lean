/-! THE LAW'S START -/
def dgF (c0 c1 c2 c3 : Nat) (k0 k1 k2 k3 : Nat → Nat) : va_G := (fun c => match c with
  | 0 => c0
  | 1 => c1
  | 2 => c2
  | _ => c3, fun c => match c with
  | 0 => k0
  | 1 => k1
  | 2 => k2
  | _ => k3)
def tmS (i : Nat) : Term := Term.string RX1 ((ldcS.getD i (0, "")).1)
set_option maxRecDepth 100000 in
theorem nest_in : ∀ w ∈ nestW, w ∈ lw_tbl := mem_al (by decide +kernel)
abbrev gvL : List Cond := flatC (Jvm.Cond.and given_1 narrow_1)
set_option maxRecDepth 100000 in
theorem gs_ex : ∀ i, i < 5 → Cond.exactly (tmS i) "java/lang/String" ∈ gvL := by decide +kernel
set_option maxRecDepth 100000 in
theorem gs_co : ∀ i, i < 5 → Cond.eq (.field (tmS i) "java/lang/String" "coder" "B") (.int 0) ∈ gvL := by decide +kernel
set_option maxRecDepth 100000 in
theorem gs_ar : ∀ i, i < 5 → Cond.arrayOf (.field (tmS i) "java/lang/String" "value" "[B") .byte ∈ gvL := by decide +kernel
set_option maxRecDepth 100000 in
theorem gs_le : ∀ i, i < 5 → Cond.eq (.length (.field (tmS i) "java/lang/String" "value" "[B")) (.int (Int32.ofNat (lenS.getD i 0))) ∈ gvL := by decide +kernel
set_option maxRecDepth 100000 in
theorem gs_el : ∀ i, i < 5 → ∀ j, j < lenS.getD i 0 → Cond.eq (.elem (.field (tmS i) "java/lang/String" "value" "[B") (.int (Int32.ofNat j))) (.int ((bytS.getD i []).getD j 0)) ∈ gvL := by decide +kernel
set_option maxRecDepth 100000 in
theorem gs_ne : ∀ i, i < 5 → ∀ j, j < 5 → i ≠ j → Cond.not (Cond.eq (tmS i) (tmS j)) ∈ gvL ∨ Cond.not (Cond.eq (tmS j) (tmS i)) ∈ gvL := by decide +kernel
set_option maxRecDepth 100000 in
theorem gs_cs : Cond.eq (.static "java/lang/String" "COMPACT_STRINGS" "Z") (.int 1) ∈ gvL := by decide +kernel
set_option maxRecDepth 100000 in
theorem gs_fo : Cond.isRef (.static "jdk/internal/util/Preconditions" "SIOOBE_FORMATTER" "Ljava/util/function/BiFunction;") ∈ gvL := by decide +kernel
set_option maxRecDepth 100000 in
theorem tb_cs : Cond.laysStatic "java/lang/String" "COMPACT_STRINGS" "Z" ∈ lw_tbl := by decide +kernel
set_option maxRecDepth 100000 in
theorem tb_fo : Cond.laysStatic "jdk/internal/util/Preconditions" "SIOOBE_FORMATTER" "Ljava/util/function/BiFunction;" ∈ lw_tbl := by decide +kernel
set_option maxRecDepth 100000 in
theorem tb_is : Cond.initialized "java/lang/String" ∈ lw_tbl := by decide +kernel
set_option maxRecDepth 100000 in
theorem tb_ip : Cond.initialized "jdk/internal/util/Preconditions" ∈ lw_tbl := by decide +kernel
set_option maxRecDepth 100000 in
theorem tb_aI : Cond.arrayClass .int ∈ lw_tbl := by decide +kernel
set_option maxRecDepth 100000 in
theorem tb_aZ : Cond.arrayClass .boolean ∈ lw_tbl := by decide +kernel
set_option maxRecDepth 100000 in
theorem tb_aC : Cond.arrayClass .char ∈ lw_tbl := by decide +kernel
set_option maxRecDepth 100000 in
theorem tb_aS : Cond.arrayOver (.object "KiteRegisters$Sky") ∈ lw_tbl := by decide +kernel
set_option maxRecDepth 100000 in
theorem tb_sr : ∀ i, i < 5 → Cond.stringRef RX1 ((ldcS.getD i (0, "")).1) ((ldcS.getD i (0, "")).2) ∈ lw_tbl := by decide +kernel
set_option maxRecDepth 100000 in
theorem lw_in0 : ∀ w ∈ u_ws RX0 TX0 3, w ∈ wsL_law := by decide +kernel
set_option maxRecDepth 100000 in
theorem lw_in1 : ∀ w ∈ u_ws RX1 TX1 9, w ∈ wsL_law := by decide +kernel
set_option maxRecDepth 100000 in
theorem lw_in2 : ∀ w ∈ u_ws RX2 TX2 12, w ∈ wsL_law := by decide +kernel
set_option maxRecDepth 100000 in
theorem lw_in3 : ∀ w ∈ u_ws RX3 TX3 9, w ∈ wsL_law := by decide +kernel
set_option maxRecDepth 100000 in
theorem tb_i0 : Cond.instantiable RX0 3 ∈ lw_tbl := by decide +kernel
set_option maxRecDepth 100000 in
theorem tb_i1 : Cond.instantiable RX1 9 ∈ lw_tbl := by decide +kernel
set_option maxRecDepth 100000 in
theorem tb_i2 : Cond.instantiable RX2 12 ∈ lw_tbl := by decide +kernel
set_option maxRecDepth 100000 in
theorem tb_i3 : Cond.instantiable RX3 9 ∈ lw_tbl := by decide +kernel
/-- the machine at the law's entry: all that is kept beside the heap -/
theorem law_env (l : Launch) {s : State} {b : Nat} (hts : ∀ w ∈ lw_tbl, w.before #[Value.ref b] s = true) (hgv : (Jvm.Cond.and given_1 narrow_1).before #[Value.ref b] s = true) : ∃ (D : va_G) (e3 : Nat → Nat), KK (l, D, e3) s ∧ SS (l, D, e3) (fun q => s.heap.size ≤ q) s s.heap ∧ va_AO "KiteRegisters$Sky" s := by
  have hwl : ∀ w ∈ wsL_law, w.before #[Value.ref b] s = true := fun w hw => hts w (wsL_law_in w hw)
  have hgl : ∀ w ∈ gvL, w.before #[Value.ref b] s = true := flat_of_before _ hgv
  have hA : ∀ a : Nat, a < s.heap.size → ¬ (fun q : Nat => s.heap.size ≤ q) a := fun a h z => absurd h (Nat.not_lt.mpr z)
  obtain ⟨c0, k0, u0⟩ := u_known hwl lw_in0 (hts _ tb_i0)
  obtain ⟨c1, k1, u1⟩ := u_known hwl lw_in1 (hts _ tb_i1)
  obtain ⟨c2, k2, u2⟩ := u_known hwl lw_in2 (hts _ tb_i2)
  obtain ⟨c3, k3, u3⟩ := u_known hwl lw_in3 (hts _ tb_i3)
  obtain ⟨cI, nI9, aI⟩ := arr_prim (hts _ tb_aI)
  obtain ⟨cZ, nZ9, aZ⟩ := arr_prim (hts _ tb_aZ)
  obtain ⟨cC, nC9, aC⟩ := arr_prim (hts _ tb_aC)
  have hAO : va_AO "KiteRegisters$Sky" s := va_AO.of (hts _ tb_aS)
  obtain ⟨cS, nS9, aS⟩ := arr_sky hAO
  obtain ⟨adK, adV, hS9, hev⟩ := vk_Sof (args := #[Value.ref b]) (s := s) (N := 5) (tm := tmS) (len := lenS) (byt := bytS) (A := fun q => s.heap.size ≤ q) (by decide) (fun i hi => hgl _ (gs_ex i hi)) (fun i hi => hgl _ (gs_co i hi)) (fun i hi => hgl _ (gs_ar i hi)) (fun i hi => hgl _ (gs_le i hi)) (fun i hi j hj => hgl _ (gs_el i hi j hj)) (fun i j hi hj hne => (gs_ne i hi j hj hne).elim (fun z => Or.inl (hgl _ z)) (fun z => Or.inr (hgl _ z))) hA
  refine ⟨dgF c0 c1 c2 c3 k0 k1 k2 k3, e3F cI cZ cC cS adK adV, ⟨⟨?_, ?_⟩, ?_, ?_⟩, ⟨?_, ?_, ?_⟩, hAO⟩
  · intro c q hq
    match c with
    | 0 => cases hq; exact u0
    | 1 => cases hq; exact u1
    | 2 => cases hq; exact u2
    | 3 => cases hq; exact u3
    | n + 4 => cases hq
  · intro k q hq
    match k with
    | 0 => cases hq; exact ⟨aI, nI9⟩
    | 1 => cases hq; exact ⟨aZ, nZ9⟩
    | 2 => cases hq; exact ⟨aC, nC9⟩
    | 3 => cases hq; exact ⟨aS, nS9⟩
    | n + 4 => cases hq
  · exact fun w hw => va_Nw.of (isNest_tab (nestW_ok w hw)) (hts w (nest_in w hw))
  · intro i q hq
    match i with
    | 0 => cases hq; exact vk_R.of (hts _ (tb_sr 0 (by decide))) (hev 0 (by decide))
    | 1 => cases hq; exact vk_R.of (hts _ (tb_sr 1 (by decide))) (hev 1 (by decide))
    | 2 => cases hq; exact vk_R.of (hts _ (tb_sr 2 (by decide))) (hev 2 (by decide))
    | 3 => cases hq; exact vk_R.of (hts _ (tb_sr 3 (by decide))) (hev 3 (by decide))
    | 4 => cases hq; exact vk_R.of (hts _ (tb_sr 4 (by decide))) (hev 4 (by decide))
    | n + 5 => cases hq
  · refine vkS_cg hS9 (fun i hi => ?_) (fun i hi => ?_)
    · match i, hi with
      | 0, _ => rfl
      | 1, _ => rfl
      | 2, _ => rfl
      | 3, _ => rfl
      | 4, _ => rfl
    · match i, hi with
      | 0, _ => rfl
      | 1, _ => rfl
      | 2, _ => rfl
      | 3, _ => rfl
      | 4, _ => rfl
  · exact va_Zof (hts _ tb_cs) (hts _ tb_is) (va_eqi (hgl _ gs_cs)) hA
  · exact va_Zqof (hts _ tb_fo) (hts _ tb_ip) (hgl _ gs_fo) hA
