/-! STRING CONSTANTS: G rows, and what String.length and String.charAt answer -/
section GT
variable {E : Ev} {x : Cx} {cc : ByteArray} {own : String} {Ts : List Cond} {rm : Room} {ws : va_W} {lv : List (Option Value)} {pc : Nat} {st : List Value}
abbrev strA (E : Ev) (i : Nat) : Nat := E.2.2 (10 + i)
abbrev strV (E : Ev) (i : Nat) : Nat := E.2.2 (20 + i)
def chS (i k : Nat) : Int32 := (bytS.getD i []).getD k 0
abbrev lnS (i : Nat) : Nat := lenS.getD i 0
theorem g_ldcS (C : Ok E x cc RX1 Ts rm) {index i : Nat} {tx : String} (hi : ldcS[i]? = some (index, tx)) (d : decode cc pc = .ok (.ldc index, 2)) (k : G E x ws lv (pc + 2) (.ref (strA E i) :: st)) : G E x ws lv pc st := by
  obtain ⟨p, e, R, s, m, args, below, meth, c, A, nL, Q⟩ := x
  obtain ⟨hx, hb, hml, hown, hts, hK, hE, hA, hlk, hR⟩ := C
  subst hR
  intro H locs ls hP hD hS hl hnL
  exact va_ldcS hx hb hown (hK.2.2 i (index, tx) hi) d (k H locs ls hP hD hS hl hnL)
theorem g_compact (C : Ok E x cc own Ts rm) {index : Nat} (hw : Cond.fieldLink own index "java/lang/String" "COMPACT_STRINGS" "Z" ∈ Ts) (d : decode cc pc = .ok (.getstatic index, 3)) (k : G E x ws lv (pc + 3) (.int 1 :: st)) : G E x ws lv pc st := by
  obtain ⟨p, e, R, s, m, args, below, meth, c, A, nL, Q⟩ := x
  obtain ⟨hx, hb, hml, hown, hts, hK, hE, hA, hlk, hR⟩ := C
  subst hR
  intro H locs ls hP hD hS hl hnL
  exact va_gets hx hb hE.2.1 hS hown (hts _ hw) (fun _ h => h) d (k H locs ls hP hD hS hl hnL)
theorem g_fmtr (C : Ok E x cc own Ts rm) {index : Nat} (hw : Cond.fieldLink own index "jdk/internal/util/Preconditions" "SIOOBE_FORMATTER" "Ljava/util/function/BiFunction;" ∈ Ts) (d : decode cc pc = .ok (.getstatic index, 3)) (kn : G E x ws lv (pc + 3) (.null :: st)) (kr : ∀ t : Nat, G E x ws lv (pc + 3) (.ref t :: st)) : G E x ws lv pc st := by
  obtain ⟨p, e, R, s, m, args, below, meth, c, A, nL, Q⟩ := x
  obtain ⟨hx, hb, hml, hown, hts, hK, hE, hA, hlk, hR⟩ := C
  subst hR
  intro H locs ls hP hD hS hl hnL
  rcases hE.2.2 with h9 | ⟨t, h9⟩
  · exact va_gets hx hb h9 hS hown (hts _ hw) (fun _ h => h) d (kn H locs ls hP hD hS hl hnL)
  · exact va_gets hx hb h9 hS hown (hts _ hw) (fun _ h => h) d (kr t H locs ls hP hD hS hl hnL)
theorem g_coderS (C : Ok E x cc own Ts rm) {index i : Nat} (hi : i < 5) (hw : Cond.fieldLink own index "java/lang/String" "coder" "B" ∈ Ts) (d : decode cc pc = .ok (.getfield index, 3)) (k : G E x ws lv (pc + 3) (.int 0 :: st)) : G E x ws lv pc (.ref (strA E i) :: st) := by
  obtain ⟨p, e, R, s, m, args, below, meth, c, A, nL, Q⟩ := x
  obtain ⟨hx, hb, hml, hown, hts, hK, hE, hA, hlk, hR⟩ := C
  subst hR
  intro H locs ls hP hD hS hl hnL
  exact vk_getf hx hb (hE.1.1 i hi).2.1 hS hown (hts _ hw) (fun _ h => h) d (k H locs ls hP hD hS hl hnL)
theorem g_valueS (C : Ok E x cc own Ts rm) {index i : Nat} (hi : i < 5) (hw : Cond.fieldLink own index "java/lang/String" "value" "[B" ∈ Ts) (d : decode cc pc = .ok (.getfield index, 3)) (k : G E x ws lv (pc + 3) (.ref (strV E i) :: st)) : G E x ws lv pc (.ref (strA E i) :: st) := by
  obtain ⟨p, e, R, s, m, args, below, meth, c, A, nL, Q⟩ := x
  obtain ⟨hx, hb, hml, hown, hts, hK, hE, hA, hlk, hR⟩ := C
  subst hR
  intro H locs ls hP hD hS hl hnL
  exact vk_getf hx hb (hE.1.1 i hi).2.2.1 hS hown (hts _ hw) (fun _ h => h) d (k H locs ls hP hD hS hl hnL)
theorem g_alenS (C : Ok E x cc own Ts rm) {i : Nat} (hi : i < 5) (d : decode cc pc = .ok (.arraylength, 1)) (k : G E x ws lv (pc + 1) (.int (nI (lnS i)) :: st)) : G E x ws lv pc (.ref (strV E i) :: st) := by
  obtain ⟨p, e, R, s, m, args, below, meth, c, A, nL, Q⟩ := x
  obtain ⟨hx, hb, hml, hown, hts, hK, hE, hA, hlk, hR⟩ := C
  subst hR
  intro H locs ls hP hD hS hl hnL
  exact va_tlen hx hb (hE.1.1 i hi).2.2.2 hS rfl d (k H locs ls hP hD hS hl hnL)
theorem g_baldS (C : Ok E x cc own Ts rm) {i j : Nat} (hi : i < 5) (hj : j < lnS i) (h31 : lnS i < 2 ^ 31) (d : decode cc pc = .ok (.baload, 1)) (k : G E x ws lv (pc + 1) (.int (chS i j) :: st)) : G E x ws lv pc (.int (nI j) :: .ref (strV E i) :: st) := by
  obtain ⟨p, e, R, s, m, args, below, meth, c, A, nL, Q⟩ := x
  obtain ⟨hx, hb, hml, hown, hts, hK, hE, hA, hlk, hR⟩ := C
  subst hR
  intro H locs ls hP hD hS hl hnL
  refine va_tb hx hb (hE.1.1 i hi).2.2.2 hS (vp_in_nI hj h31) (v := .int (chS i j)) ?_ d (k H locs ls hP hD hS hl hnL)
  rw [nI_clamp (by omega)]
  rfl
theorem g_ishr (C : Ok E x cc own Ts rm) {x1 y1 : Int32} (d : decode cc pc = .ok (.ishr, 1)) (k : G E x ws lv (pc + 1) (.int (x1 >>> (y1 &&& 31)) :: st)) : G E x ws lv pc (.int y1 :: .int x1 :: st) := by
  obtain ⟨p, e, R, s, m, args, below, meth, c, A, nL, Q⟩ := x
  obtain ⟨hx, hb, hml, hown, hts, hK, hE, hA, hlk, hR⟩ := C
  subst hR
  intro H locs ls hP hD hS hl hnL
  exact lv_ishr hx hb d (k H locs ls hP hD hS hl hnL)
/-- a call on a string constant -/
theorem g_calliVT (C : Ok E x cc own Ts rm) {y : MethodName} {by1 : ByteArray} {nL1 n index i : Nat} {ty : FieldType} {Ty : List Cond} {rm1 : Room} {As st0 : List Value} {post : Int32 → va_W → Prop} (hi : i < 5) (M : MI E y Ty rm1 ws (.ref (strA E i) :: As) post) (cf : CF y by1 nL1 (some ty) Ty n) (g : GoodIn Ts (wsV own index "java/lang/String" y Ty)) (hcl : y.cls = "java/lang/String") (hF : Fit rm1 rm nL1) (hn : As.length = n) (hst : st0 = As.reverse ++ (.ref (strA E i) :: st)) (hcat : (st.map fun v => v.category).sum ≤ 8) (d : decode cc pc = .ok (.invokevirtual index, 3)) (k : ∀ (r : Int32) (w1 : va_W), post r w1 → G E x w1 lv (pc + 3) (.int r :: st)) : G E x ws lv pc st0 := by
  obtain ⟨p, e, R, s, m, args, below, meth, c, A, nL, Q⟩ := x
  obtain ⟨hx, hb, hml, hown, hts, hK, hE, hA, hlk, hR⟩ := C
  subst hR
  intro H locs ls hP hD hS hl hnL
  obtain ⟨⟨Ty', hw⟩, hd⟩ := cf
  subst hst
  have hFr := g_freeF hD hS hA
  refine va_calli (mc := 0) (ms := 0) (va_runV (As := As) (rest := st) ⟨hx, hb, hml, hown, hts⟩ (M H.size) (cwV n hts g hw hF.1.1 hF.1.2 ⟨hcl, hd⟩ hF.2) ⟨mPc_blind, vk_recv hE.1 hi hS, g_preF hK hE hP hD hS hFr⟩ rfl hn hl.1 rfl (lv_room hcat) d ⟨Nat.zero_le _, Nat.zero_le _⟩) hS (fun q _ h => hFr q h) hFr (fun r u t H1 l1 ht hvm hp hB hz hk hS1 => ?_)
  have hB2 := hB
  obtain ⟨hP1, hD1⟩ := hB2
  rw [ht] at hP1
  exact k r u hp H1 l1 ls hP1 (hD1.weaken (fun _ q _ h => hFr q.1 h)) hS1 hl hnL
end GT
theorem MV.ofJ {E : Ev} {y : MethodName} {cc : ByteArray} {nL : Nat} {Ty Ty' : List Cond} {rm : Room} {w0 : va_W} {av : List Value} {post : va_W → Prop} {own : String} (lv0 : List (Option Value)) (hy : plainFor y = true) (ho : own = y.cls) (hT : Ty = Cond.code y cc nL none :: Ty') (hn : (lg_sl av).length ≤ nL) (hlv : lv_args 0 av = ld 0 lv0) (hll : lv0.length = nL)
    (body : ∀ x : Cx, Ok E x cc own Ty rm → RetV E x post → G E x w0 lv0 0 []) : MV E y Ty rm w0 av post := by
  intro sz
  refine va_MetF (cc := cc) (maxL := nL) (ret := none) hy hT ?_
  intro p e s m args below meth c s₁ B hml hv
  obtain ⟨rfl, hsz, hP, hK, hE, hD0⟩ := hv
  subst hsz
  subst ho
  have hD := hD0.self (sz := s.heap.size)
  have hl := lv_entry av (n := nL) hn
  rw [lg_entry_eq]
  generalize (lg_sl av ++ List.replicate (nL - (lg_sl av).length) Slot.unset).toArray = ls at hl ⊢
  rw [hlv] at hl
  exact body (p, e, (headSpec Ty rm).room, s, m, av.toArray, below, meth, c, va_A w0 s.heap.size, nL, _) ⟨B.exec, B.bytes, hml, findClass_of_methodNamed B.named, atoms_spec (ws := Ty) B.pre, hK, hE, va_A_self, B.notSynchronized, rfl⟩ ⟨rfl, B.returns⟩ s.heap [] ls hP hD va_S.rf hl hll
theorem lnS_31 : ∀ i, i < 5 → lnS i < 2 ^ 31 := by decide
theorem lnS_sh : ∀ i, i < 5 → nI (lnS i) >>> ((0 : Int32) &&& 31) = nI (lnS i) := by decide
theorem chS_c : ∀ i, i < 5 → ∀ k, k < lnS i → ((chS i k &&& 255).toUInt32 % 65536).toInt32 = chS i k := by decide
theorem chS_u : ∀ i, i < 5 → ∀ k, k < lnS i → (chS i k).toUInt32.toUInt16.toUInt32.toInt32 = chS i k := by decide
theorem chS_n : ∀ i, i < 5 → ∀ k, k < lnS i → narrow .char (.int (chS i k)) = .int (chS i k) := by
  intro i hi k hk
  exact congrArg Value.int (chS_u i hi k hk)
set_option maxHeartbeats 4000000 in
set_option maxRecDepth 100000 in
theorem c_J0_coder_7d493 (E : Ev) (W : va_W) (i : Nat) (hi : i < 5) : MI E yJ0_coder_7d493 wsJ0_coder_7d493 (rmD 0) W [.ref (strA E i)] (pE 0 W) := by
  refine MI.ofJ (cc := cJ0_coder_7d493) (nL := 1) (ty := .byte) (own := RJ0) [some (.ref (strA E i))] (by decide +kernel) rfl rfl (Nat.le_of_ble_eq_true rfl) rfl rfl ?_
  intro x C R0
  refine g_compact C (index := 38) (by decide +kernel) dJ0_coder_7d493_0 ?_
  refine g_if_eq_f C dJ0_coder_7d493_3 13 (by decide) (by decide) ?_
  refine g_aload_n C dJ0_coder_7d493_6 rfl rfl ?_
  refine g_coderS C hi (index := 15) (by decide +kernel) dJ0_coder_7d493_7 ?_
  refine g_goto C (tgt := 14) dJ0_coder_7d493_10 (by decide) ?_
  refine g_zret C R0 rfl dJ0_coder_7d493_14 ?_
  exact ⟨rfl, rfl⟩
set_option maxHeartbeats 4000000 in
set_option maxRecDepth 100000 in
theorem c_J0_isLatin1_aae02 (E : Ev) (W : va_W) (i : Nat) (hi : i < 5) : MI E yJ0_isLatin1_aae02 wsJ0_isLatin1_aae02 (rmD 0) W [.ref (strA E i)] (pE 1 W) := by
  refine MI.ofJ (cc := cJ0_isLatin1_aae02) (nL := 1) (ty := .boolean) (own := RJ0) [some (.ref (strA E i))] (by decide +kernel) rfl rfl (Nat.le_of_ble_eq_true rfl) rfl rfl ?_
  intro x C R0
  refine g_compact C (index := 38) (by decide +kernel) dJ0_isLatin1_aae02_0 ?_
  refine g_if_eq_f C dJ0_isLatin1_aae02_3 17 (by decide) (by decide) ?_
  refine g_aload_n C dJ0_isLatin1_aae02_6 rfl rfl ?_
  refine g_coderS C hi (index := 15) (by decide +kernel) dJ0_isLatin1_aae02_7 ?_
  refine g_if_ne_f C dJ0_isLatin1_aae02_10 17 (by decide) (by decide) ?_
  refine g_iconst C (v := 1) dJ0_isLatin1_aae02_13 rfl ?_
  refine g_goto C (tgt := 18) dJ0_isLatin1_aae02_14 (by decide) ?_
  refine g_zret C R0 rfl dJ0_isLatin1_aae02_18 ?_
  exact ⟨rfl, rfl⟩
theorem cf_J0_coder : CF yJ0_coder_7d493 cJ0_coder_7d493 1 (some .byte) wsJ0_coder_7d493 0 := ⟨⟨_, rfl⟩, by decide +kernel, by decide +kernel, by decide +kernel⟩
theorem cf_J0_isLatin1 : CF yJ0_isLatin1_aae02 cJ0_isLatin1_aae02 1 (some .boolean) wsJ0_isLatin1_aae02 0 := ⟨⟨_, rfl⟩, by decide +kernel, by decide +kernel, by decide +kernel⟩
theorem cf_J3_checkIndex : CF yJ3_checkIndex_8e157 cJ3_checkIndex_8e157 3 (some .int) wsJ3_checkIndex_8e157 3 := ⟨⟨_, rfl⟩, by decide +kernel, by decide +kernel, by decide +kernel⟩
theorem cf_J0_checkIndex : CF yJ0_checkIndex_df160 cJ0_checkIndex_df160 2 none wsJ0_checkIndex_df160 2 := ⟨⟨_, rfl⟩, by decide +kernel, by decide +kernel, by decide +kernel⟩
theorem cf_J1_charAt : CF yJ1_charAt_3b067 cJ1_charAt_3b067 2 (some .char) wsJ1_charAt_3b067 2 := ⟨⟨_, rfl⟩, by decide +kernel, by decide +kernel, by decide +kernel⟩
theorem cf_J0_length : CF yJ0_length_8abf5 cJ0_length_8abf5 1 (some .int) wsJ0_length_8abf5 0 := ⟨⟨_, rfl⟩, by decide +kernel, by decide +kernel, by decide +kernel⟩
theorem cf_J0_charAt : CF yJ0_charAt_5068e cJ0_charAt_5068e 2 (some .char) wsJ0_charAt_5068e 1 := ⟨⟨_, rfl⟩, by decide +kernel, by decide +kernel, by decide +kernel⟩
set_option maxHeartbeats 4000000 in
set_option maxRecDepth 100000 in
theorem c_J0_length_8abf5 (E : Ev) (W : va_W) (i : Nat) (hi : i < 5) : MI E yJ0_length_8abf5 wsJ0_length_8abf5 (rmD 1) W [.ref (strA E i)] (pE (nI (lnS i)) W) := by
  refine MI.ofJ (cc := cJ0_length_8abf5) (nL := 1) (ty := .int) (own := RJ0) [some (.ref (strA E i))] (by decide +kernel) rfl rfl (Nat.le_of_ble_eq_true rfl) rfl rfl ?_
  intro x C R0
  refine g_aload_n C dJ0_length_8abf5_0 rfl rfl ?_
  refine g_valueS C hi (index := 9) (by decide +kernel) dJ0_length_8abf5_1 ?_
  refine g_alenS C hi dJ0_length_8abf5_4 ?_
  refine g_aload_n C dJ0_length_8abf5_5 rfl rfl ?_
  refine g_calliVT C hi (c_J0_coder_7d493 E W i hi) cf_J0_coder gJ0_length_8abf5_J0_coder_7d493 rfl (fitD (Nat.le_of_ble_eq_true rfl) (Nat.le_of_ble_eq_true rfl)) rfl rfl (Nat.le_of_ble_eq_true rfl) dJ0_length_8abf5_6 (fun r1 w1 hp => ?_)
  obtain ⟨rfl, rfl⟩ := hp
  refine g_ishr C dJ0_length_8abf5_9 ?_
  rw [lnS_sh i hi]
  refine g_iret C R0 dJ0_length_8abf5_10 ?_
  exact ⟨rfl, rfl⟩
set_option maxHeartbeats 4000000 in
set_option maxRecDepth 100000 in
theorem c_J3_checkIndex_8e157_n (E : Ev) (W : va_W) (j n : Nat) (hj : j < n) (hn : n < 2 ^ 31) : MI E yJ3_checkIndex_8e157 wsJ3_checkIndex_8e157 (rmD 0) W [.int (nI j), .int (nI n), .null] (pE (nI j) W) := by
  refine MI.ofJ (cc := cJ3_checkIndex_8e157) (nL := 3) (ty := .int) (own := RJ3) [some (.int (nI j)), some (.int (nI n)), some (.null)] (by decide +kernel) rfl rfl (Nat.le_of_ble_eq_true rfl) rfl rfl ?_
  intro x C R0
  refine g_iload_n C dJ3_checkIndex_8e157_0 rfl rfl ?_
  refine g_if_lt_f C dJ3_checkIndex_8e157_1 9 (by decide) (fun z => i32_lt.mpr z (nI_nn (by omega))) ?_
  refine g_iload_n C dJ3_checkIndex_8e157_4 rfl rfl ?_
  refine g_iload_n C dJ3_checkIndex_8e157_5 rfl rfl ?_
  refine g_icmp_lt_t C dJ3_checkIndex_8e157_6 (tgt := 16) (by decide) ((nI_ltI (a := j) (b := n) (by omega) (by omega)).mpr hj) ?_
  refine g_iload_n C dJ3_checkIndex_8e157_16 rfl rfl ?_
  refine g_iret C R0 dJ3_checkIndex_8e157_17 ?_
  exact ⟨rfl, rfl⟩
set_option maxHeartbeats 4000000 in
set_option maxRecDepth 100000 in
theorem c_J3_checkIndex_8e157_r (E : Ev) (W : va_W) (j n : Nat) (hj : j < n) (hn : n < 2 ^ 31) (t : Nat) : MI E yJ3_checkIndex_8e157 wsJ3_checkIndex_8e157 (rmD 0) W [.int (nI j), .int (nI n), .ref t] (pE (nI j) W) := by
  refine MI.ofJ (cc := cJ3_checkIndex_8e157) (nL := 3) (ty := .int) (own := RJ3) [some (.int (nI j)), some (.int (nI n)), some (.ref t)] (by decide +kernel) rfl rfl (Nat.le_of_ble_eq_true rfl) rfl rfl ?_
  intro x C R0
  refine g_iload_n C dJ3_checkIndex_8e157_0 rfl rfl ?_
  refine g_if_lt_f C dJ3_checkIndex_8e157_1 9 (by decide) (fun z => i32_lt.mpr z (nI_nn (by omega))) ?_
  refine g_iload_n C dJ3_checkIndex_8e157_4 rfl rfl ?_
  refine g_iload_n C dJ3_checkIndex_8e157_5 rfl rfl ?_
  refine g_icmp_lt_t C dJ3_checkIndex_8e157_6 (tgt := 16) (by decide) ((nI_ltI (a := j) (b := n) (by omega) (by omega)).mpr hj) ?_
  refine g_iload_n C dJ3_checkIndex_8e157_16 rfl rfl ?_
  refine g_iret C R0 dJ3_checkIndex_8e157_17 ?_
  exact ⟨rfl, rfl⟩
set_option maxHeartbeats 4000000 in
set_option maxRecDepth 100000 in
theorem c_J0_checkIndex_df160 (E : Ev) (W : va_W) (j n : Nat) (hj : j < n) (hn : n < 2 ^ 31) : MV E yJ0_checkIndex_df160 wsJ0_checkIndex_df160 (rmD 1) W [.int (nI j), .int (nI n)] (fun w => w = W) := by
  refine MV.ofJ (cc := cJ0_checkIndex_df160) (nL := 2) (own := RJ0) [some (.int (nI j)), some (.int (nI n))] (by decide +kernel) rfl rfl (Nat.le_of_ble_eq_true rfl) rfl rfl ?_
  intro x C R0
  refine g_iload_n C dJ0_checkIndex_df160_0 rfl rfl ?_
  refine g_iload_n C dJ0_checkIndex_df160_1 rfl rfl ?_
  refine g_fmtr C (index := 1053) (by decide +kernel) dJ0_checkIndex_df160_2 ?_ (fun t => ?_)
  · refine g_calliOF C (c_J3_checkIndex_8e157_n E W j n hj hn) cf_J3_checkIndex gJ0_checkIndex_df160_J3_checkIndex_8e157 trivial (fitD (Nat.le_of_ble_eq_true rfl) (Nat.le_of_ble_eq_true rfl)) rfl rfl (Nat.le_of_ble_eq_true rfl) dJ0_checkIndex_df160_5 (fun r1 w1 hp => ?_)
    obtain ⟨rfl, rfl⟩ := hp
    refine g_pop C dJ0_checkIndex_df160_8 rfl ?_
    refine g_vret C R0 dJ0_checkIndex_df160_9 ?_
    exact rfl
  · refine g_calliOF C (c_J3_checkIndex_8e157_r E W j n hj hn t) cf_J3_checkIndex gJ0_checkIndex_df160_J3_checkIndex_8e157 trivial (fitD (Nat.le_of_ble_eq_true rfl) (Nat.le_of_ble_eq_true rfl)) rfl rfl (Nat.le_of_ble_eq_true rfl) dJ0_checkIndex_df160_5 (fun r1 w1 hp => ?_)
    obtain ⟨rfl, rfl⟩ := hp
    refine g_pop C dJ0_checkIndex_df160_8 rfl ?_
    refine g_vret C R0 dJ0_checkIndex_df160_9 ?_
    exact rfl
set_option maxHeartbeats 4000000 in
set_option maxRecDepth 100000 in
theorem c_J1_charAt_3b067 (E : Ev) (W : va_W) (i j : Nat) (hi : i < 5) (hj : j < lnS i) : MI E yJ1_charAt_3b067 wsJ1_charAt_3b067 (rmD 2) W [.ref (strV E i), .int (nI j)] (pE (chS i j) W) := by
  have h31 := lnS_31 i hi
  refine MI.ofJ (cc := cJ1_charAt_3b067) (nL := 2) (ty := .char) (own := RJ1) [some (.ref (strV E i)), some (.int (nI j))] (by decide +kernel) rfl rfl (Nat.le_of_ble_eq_true rfl) rfl rfl ?_
  intro x C R0
  refine g_iload_n C dJ1_charAt_3b067_0 rfl rfl ?_
  refine g_aload_n C dJ1_charAt_3b067_1 rfl rfl ?_
  refine g_alenS C hi dJ1_charAt_3b067_2 ?_
  refine g_callvOF C (c_J0_checkIndex_df160 E W j (lnS i) hj h31) cf_J0_checkIndex gJ1_charAt_3b067_J0_checkIndex_df160 trivial (fitD (Nat.le_of_ble_eq_true rfl) (Nat.le_of_ble_eq_true rfl)) rfl rfl (Nat.le_of_ble_eq_true rfl) dJ1_charAt_3b067_3 (fun w1 hp => ?_)
  subst hp
  refine g_aload_n C dJ1_charAt_3b067_6 rfl rfl ?_
  refine g_iload_n C dJ1_charAt_3b067_7 rfl rfl ?_
  refine g_baldS C hi hj h31 dJ1_charAt_3b067_8 ?_
  refine g_sipush C (v := 255) dJ1_charAt_3b067_9 rfl ?_
  refine g_iand C dJ1_charAt_3b067_12 ?_
  refine g_i2c C dJ1_charAt_3b067_13 ?_
  rw [chS_c i hi j hj]
  refine g_zret C R0 (chS_n i hi j hj) dJ1_charAt_3b067_14 ?_
  exact ⟨rfl, rfl⟩
set_option maxHeartbeats 4000000 in
set_option maxRecDepth 100000 in
theorem c_J0_charAt_5068e (E : Ev) (W : va_W) (i j : Nat) (hi : i < 5) (hj : j < lnS i) : MI E yJ0_charAt_5068e wsJ0_charAt_5068e (rmD 3) W [.ref (strA E i), .int (nI j)] (pE (chS i j) W) := by
  refine MI.ofJ (cc := cJ0_charAt_5068e) (nL := 2) (ty := .char) (own := RJ0) [some (.ref (strA E i)), some (.int (nI j))] (by decide +kernel) rfl rfl (Nat.le_of_ble_eq_true rfl) rfl rfl ?_
  intro x C R0
  refine g_aload_n C dJ0_charAt_5068e_0 rfl rfl ?_
  refine g_calliVT C hi (c_J0_isLatin1_aae02 E W i hi) cf_J0_isLatin1 gJ0_charAt_5068e_J0_isLatin1_aae02 rfl (fitD (Nat.le_of_ble_eq_true rfl) (Nat.le_of_ble_eq_true rfl)) rfl rfl (Nat.le_of_ble_eq_true rfl) dJ0_charAt_5068e_1 (fun r1 w1 hp => ?_)
  obtain ⟨rfl, rfl⟩ := hp
  refine g_if_eq_f C dJ0_charAt_5068e_4 16 (by decide) (by decide) ?_
  refine g_aload_n C dJ0_charAt_5068e_7 rfl rfl ?_
  refine g_valueS C hi (index := 9) (by decide +kernel) dJ0_charAt_5068e_8 ?_
  refine g_iload_n C dJ0_charAt_5068e_11 rfl rfl ?_
  refine g_calliOF C (c_J1_charAt_3b067 E _ i j hi hj) cf_J1_charAt gJ0_charAt_5068e_J1_charAt_3b067 trivial (fitD (Nat.le_of_ble_eq_true rfl) (Nat.le_of_ble_eq_true rfl)) rfl rfl (Nat.le_of_ble_eq_true rfl) dJ0_charAt_5068e_12 (fun r1 w1 hp => ?_)
  obtain ⟨rfl, rfl⟩ := hp
  refine g_zret C R0 (chS_n i hi j hj) dJ0_charAt_5068e_15 ?_
  exact ⟨rfl, rfl⟩
