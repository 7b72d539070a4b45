theorem cf_L_up : CF yL_up cL_up 2 (some .int) wsL_up 2 := ⟨⟨_, rfl⟩, by decide +kernel, by decide +kernel, by decide +kernel⟩
theorem cf_L_there : CF yL_there cL_there 1 (some .int) wsL_there 1 := ⟨⟨_, rfl⟩, by decide +kernel, by decide +kernel, by decide +kernel⟩
theorem cf_L_cell : CF yL_cell cL_cell 2 (some .int) wsL_cell 2 := ⟨⟨_, rfl⟩, by decide +kernel, by decide +kernel, by decide +kernel⟩
theorem cf_L_number : CF yL_number cL_number 4 (some .boolean) wsL_number 2 := ⟨⟨_, rfl⟩, by decide +kernel, by decide +kernel, by decide +kernel⟩
theorem cf_L_types : CF yL_types cL_types 6 (some .boolean) wsL_types 2 := ⟨⟨_, rfl⟩, by decide +kernel, by decide +kernel, by decide +kernel⟩
theorem cf_L_isStep : CF yL_isStep cL_isStep 13 (some .boolean) wsL_isStep 4 := ⟨⟨_, rfl⟩, by decide +kernel, by decide +kernel, by decide +kernel⟩
theorem cf_L_areAlike : CF yL_areAlike cL_areAlike 9 (some .boolean) wsL_areAlike 3 := ⟨⟨_, rfl⟩, by decide +kernel, by decide +kernel, by decide +kernel⟩
theorem cf_L_isWell : CF yL_isWell cL_isWell 12 (some .boolean) wsL_isWell 1 := ⟨⟨_, rfl⟩, by decide +kernel, by decide +kernel, by decide +kernel⟩
def upV (v n : Int32) : Int32 := (v &&& 2147483647) - (v &&& 2147483647) / n * n
def thr (v : Int32) : Int32 := if v < 0 then v else v + 1 - (v + 1) / 4 * 4
def celV (L : Nat) (xs : Nat → Int32) (k : Int32) : Int32 := if nI L ≤ k then 2142622665 * (k + 1283) else xs k.toNatClampNeg
/-! texts that are typed -/
def apS (sg : F) (n : Nat) : List Int32 → F
  | [] => sg
  | c :: l => apS (upd sg n c) (n + 1) l
def kSG (κ : KSt) (sg : F) (n : Nat) : KSt := (kjS κ, kjB κ, kjT κ, kjN κ, kjH κ, kjx κ, kjz κ, kjh κ, kj1 κ, kj2 κ, sg, n, kjZ κ)
def txA (κ : KSt) (l : List Int32) : KSt := kSG κ (apS (kjg κ) 0 l) l.length
theorem apS_app (l2 : List Int32) : ∀ (l : List Int32) (sg : F) (n : Nat), apS sg n (l ++ l2) = apS (apS sg n l) (n + l.length) l2
  | [], _, _ => rfl
  | c :: l, sg, n => by
    show apS (upd sg n c) (n + 1) (l ++ l2) = apS (apS (upd sg n c) (n + 1) l) (n + (l.length + 1)) l2
    rw [apS_app l2 l, show n + 1 + l.length = n + (l.length + 1) from by omega]
theorem ty_e {κ : KSt} {l : List Int32} {c : Int32} (h : l.length < 80) : kType (txA κ l) c = (nI (l.length + 1), txA κ (l ++ [c])) := by
  unfold kType
  rw [if_pos (show kjn (txA κ l) < 80 from h)]
  unfold txA
  rw [apS_app, List.length_append, Nat.zero_add]
  rfl
theorem ty_p {l : List Int32} (h : l.length < 80) : ¬ nI (l.length + 1) ≤ 0 := by
  rw [Int32.le_iff_toInt_le, nI_toInt (by omega), show (0 : Int32).toInt = 0 from by decide]
  omega
theorem cl_e {κ : KSt} : kClr κ = (nI (kjn κ), txA κ []) := rfl
theorem cl_p {n : Nat} (h : n ≤ 80) : ¬ nI n < 0 := by
  rw [Int32.lt_iff_toInt_lt, nI_toInt (by omega), show (0 : Int32).toInt = 0 from by decide]
  omega
def chW (c : Int32) : Int32 := (c.toUInt32 % 65536).toInt32
def absV (v : Int32) : Int32 := if v < 0 then -v else v
def nuL (v : Int32) : List Int32 := [32] ++ ((if v < 0 then [45] else []) ++ ((if absV v < 100 then [] else [chW (48 + absV v / 100)]) ++ ((if absV v < 10 then [] else [chW (48 + (absV v / 10 - absV v / 10 / 10 * 10))]) ++ [chW (48 + (absV v - absV v / 10 * 10))])))
set_option maxHeartbeats 800000 in
set_option maxRecDepth 100000 in
theorem c_L_up (E : Ev) (W : va_W) (v n : Int32) (hn : ¬ n = 0) : MI E yL_up wsL_up (rmD 0) W [.int v, .int n] (pE (upV v n) W) := by
  have k8 : Cond.constant RL 8 (2147483647) ∈ wsL_up := by decide +kernel
  refine MI.of (cc := cL_up) (nL := 2) (ty := .int) (own := RL) [some (.int v), some (.int n)] (by decide +kernel) rfl rfl (Nat.le_of_ble_eq_true rfl) rfl rfl ?_
  intro x C R0
  refine g_iload_n C dL_up_0 rfl rfl ?_
  refine g_ldc C k8 dL_up_1 ?_
  refine g_iand C dL_up_3 ?_
  refine g_iload_n C dL_up_4 rfl rfl ?_
  refine g_irem C dL_up_5 hn ?_
  refine g_iret C R0 dL_up_6 ?_
  exact ⟨rfl, rfl⟩
set_option maxHeartbeats 800000 in
set_option maxRecDepth 100000 in
theorem c_L_there (E : Ev) (W : va_W) (v : Int32) : MI E yL_there wsL_there (rmD 0) W [.int v] (pE (thr v) W) := by
  refine MI.of (cc := cL_there) (nL := 1) (ty := .int) (own := RL) [some (.int v)] (by decide +kernel) rfl rfl (Nat.le_of_ble_eq_true rfl) rfl rfl ?_
  intro x C R0
  refine g_iload_n C dL_there_0 rfl rfl ?_
  refine g_if_ge C (tgt := 8) dL_there_1 (by decide) (fun hc_1 => ?_) (fun hc_1 => ?_)
  · refine g_iload_n C dL_there_8 rfl rfl ?_
    refine g_iconst C (v := 1) dL_there_9 rfl ?_
    refine g_iadd C dL_there_10 ?_
    refine g_iconst C (v := 4) dL_there_11 rfl ?_
    refine g_irem C dL_there_12 (by decide) ?_
    refine g_iret C R0 dL_there_13 ?_
    exact ⟨by rw [thr, if_neg (i32_le.mpr hc_1)], rfl⟩
  · refine g_iload_n C dL_there_4 rfl rfl ?_
    refine g_goto C (tgt := 13) dL_there_5 (by decide) ?_
    refine g_iret C R0 dL_there_13 ?_
    exact ⟨by rw [thr, if_pos (i32_lt.mp hc_1)], rfl⟩
