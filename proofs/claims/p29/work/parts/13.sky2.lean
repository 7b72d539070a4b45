theorem g_drop {E : Ev} {x : Cx} {ws : va_W} {lv : List (Option Value)} {pc : Nat} {st : List Value} (i : Nat) (k : G E x ws (lv.set i none) pc st) : G E x ws lv pc st := by
  obtain ⟨p, e, R, s, m, args, below, meth, c, A, nL, Q⟩ := x
  intro H locs ls hP hD hS hl hnL
  refine k H locs ls hP hD hS ⟨hl.1, hl.2.1, fun q hq => hl.2.2 q ?_⟩ (by rw [List.length_set]; exact hnL)
  obtain ⟨j, h1, h2⟩ := ld_out _ 0 q hq
  rw [List.getElem?_set] at h2
  have h3 : lv[j]? = some (some q.2) := by
    by_cases hij : i = j
    · rw [if_pos hij] at h2
      split at h2 <;> cases h2
    · rw [if_neg hij] at h2
      exact h2
  have h4 := ld_in lv 0 j _ h3
  rw [← h1] at h4
  exact h4
theorem nI_dec (n : Nat) : nI n + (-1) = nI n - 1 := by
  rw [Int32.sub_eq_add_neg]
theorem MI.ofJ {E : Ev} {y : MethodName} {cc : ByteArray} {nL : Nat} {ty : FieldType} {Ty Ty' : List Cond} {rm : Room} {w0 : va_W} {av : List Value} {post : Int32 → va_W → Prop} {own : String} (lv0 : List (Option Value)) (hy : plainFor y = true) (ho : own = y.cls) (hT : Ty = Cond.code y cc nL (some ty) :: Ty') (hn : (lg_sl av).length ≤ nL) (hlv : lv_args 0 av = ld 0 lv0) (hll : lv0.length = nL)
    (body : ∀ x : Cx, Ok E x cc own Ty rm → RetI E x ty post → G E x w0 lv0 0 []) : MI E y Ty rm w0 av post := by
  intro sz
  refine va_MetF (cc := cc) (maxL := nL) (ret := some ty) hy hT ?_
  intro p e s m args below meth c s₁ B hml hv
  obtain ⟨rfl, hsz, hP, hK, hE, hD0⟩ := hv
  subst hsz
  subst ho
  have hD := hD0.self (sz := s.heap.size)
  have hl := lv_entry av (n := nL) hn
  rw [lg_entry_eq]
  generalize (lg_sl av ++ List.replicate (nL - (lg_sl av).length) Slot.unset).toArray = ls at hl ⊢
  rw [hlv] at hl
  exact body (p, e, (headSpec Ty rm).room, s, m, av.toArray, below, meth, c, va_A w0 s.heap.size, nL, _) ⟨B.exec, B.bytes, hml, findClass_of_methodNamed B.named, atoms_spec (ws := Ty) B.pre, hK, hE, va_A_self, B.notSynchronized, rfl⟩ ⟨rfl, B.returns⟩ s.heap [] ls hP hD va_S.rf hl hll
theorem i32_nlt {x y : Int32} (h : x ≤ y) : ¬ y < x := i32_le.mpr h
theorem i32_lt_101 {x : Int32} (h : x ≤ 100) : x < 101 := by
  rw [Int32.le_iff_toInt_le] at h; rw [Int32.lt_iff_toInt_lt]
  have e1 : (100 : Int32).toInt = 100 := by decide
  have e2 : (101 : Int32).toInt = 101 := by decide
  omega
theorem i32_le0 {x : Int32} (h : 1 ≤ x) : 0 ≤ x := by
  rw [Int32.le_iff_toInt_le] at h ⊢
  have e1 : (1 : Int32).toInt = 1 := by decide
  have e2 : (0 : Int32).toInt = 0 := by decide
  omega
theorem fmod_pos {b : Int32} (h : 0 ≤ b) : b - b / 8 * 8 = nI (fmo8 b) := by
  obtain ⟨n, hn, rfl⟩ := nI_of (i32_le.mpr h)
  rw [show (8 : Int32) = nI 8 from rfl, pk_rem hn (by omega) (by omega)]
  unfold fmo8
  rw [pk_tn (by omega)]
theorem fmod_neg {b : Int32} (h : b < 0) : ∃ r : Int32, b - b / 8 * 8 = r ∧ (r = 0 → nI (fmo8 b) = 0) ∧ (¬ r = 0 → r + 8 = nI (fmo8 b)) := by
  refine ⟨_, rfl, ?_⟩
  have hb := Int32.toInt_lt b
  have hb2 := Int32.le_toInt b
  rw [Int32.lt_iff_toInt_lt, Int32.toInt_zero] at h
  have h8 : (8 : Int32).toInt = 8 := by decide
  have hd : (b / 8).toInt = -((-b.toInt) / 8) := by
    rw [Int32.toInt_div, h8]
    have e : b.toInt.tdiv 8 = -((-b.toInt) / 8) := by
      rw [show b.toInt = -(-b.toInt) from by omega, Int.neg_tdiv, Int.tdiv_eq_ediv_of_nonneg (by omega)]
      simp
    rw [e, Int.bmod_eq_of_le] <;> omega
  have hm : (b / 8 * 8).toInt = -((-b.toInt) / 8) * 8 := by
    rw [Int32.toInt_mul, hd, h8, Int.bmod_eq_of_le] <;> omega
  have hs : (b - b / 8 * 8).toInt = b.toInt + (-b.toInt) / 8 * 8 := by
    rw [Int32.toInt_sub, hm, Int.bmod_eq_of_le] <;> omega
  have hn : (b.toBitVec.toNat : Int) = b.toInt + 2 ^ 32 := by
    have := BitVec.toInt_eq_toNat_cond b.toBitVec
    have e : b.toBitVec.toInt = b.toInt := rfl
    rw [e] at this
    split at this <;> omega
  have hf : ((fmo8 b : Nat) : Int) = (b.toInt + 2 ^ 32) % 8 := by
    unfold fmo8; omega
  have hl : fmo8 b < 8 := Nat.mod_lt _ (by decide)
  constructor
  · intro z
    rw [← Int32.toInt_inj, hs, Int32.toInt_zero] at z
    have : fmo8 b = 0 := by omega
    rw [this]; rfl
  · intro z
    rw [← Int32.toInt_inj, hs, Int32.toInt_zero] at z
    rw [← Int32.toInt_inj, nI_toInt (by omega), Int32.toInt_add, hs, h8, Int.bmod_eq_of_le] <;> omega
theorem xor8 {b : Int32} : 0 ≤ b ^^^ 8 ↔ 0 ≤ b := by
  rw [← i32_le, ← i32_le, Int32.lt_iff_toInt_lt, Int32.lt_iff_toInt_lt, Int32.toInt_zero]
  have e : ∀ y : Int32, y.toInt < 0 ↔ y.toBitVec.msb = true := by
    intro y
    have := BitVec.msb_eq_toInt (x := y.toBitVec)
    rw [this]
    simp
  rw [e, e, Int32.toBitVec_xor, BitVec.msb_xor, show (8 : Int32).toBitVec.msb = false from by decide]
  simp
set_option maxRecDepth 100000 in
theorem c_J9_floorMod_7cf53 (E : Ev) (W : va_W) (b : Int32) : MI E yJ9_floorMod_7cf53 wsJ9_floorMod_7cf53 (rmD 0) W [.int b, .int 8] (pE (nI (fmo8 b)) W) := by
  refine MI.ofJ (cc := cJ9_floorMod_7cf53) (nL := 3) (ty := .int) (own := RJ9) [some (.int b), some (.int 8), none] (by decide +kernel) rfl rfl (Nat.le_of_ble_eq_true rfl) rfl rfl ?_
  intro x C R0
  refine g_iload_n C dJ9_floorMod_7cf53_0 rfl rfl ?_
  refine g_iload_n C dJ9_floorMod_7cf53_1 rfl rfl ?_
  refine g_irem C dJ9_floorMod_7cf53_2 (by decide) ?_
  refine g_istore_n C dJ9_floorMod_7cf53_3 rfl (Nat.le_of_ble_eq_true rfl) rfl ?_
  refine g_iload_n C dJ9_floorMod_7cf53_4 rfl rfl ?_
  refine g_iload_n C dJ9_floorMod_7cf53_5 rfl rfl ?_
  refine g_ixor C dJ9_floorMod_7cf53_6 ?_
  refine g_if_ge C (tgt := 18) dJ9_floorMod_7cf53_7 (by decide) (fun hc_7 => ?_) (fun hc_7 => ?_)
  · refine g_iload_n C dJ9_floorMod_7cf53_18 rfl rfl ?_
    refine g_iret C R0 dJ9_floorMod_7cf53_19 ?_
    exact pE_mk (fmod_pos (xor8.mp hc_7)) rfl
  · have hb : b < 0 := i32_lt.mp (fun z => hc_7 (xor8.mpr z))
    obtain ⟨r, er, h1, h2⟩ := fmod_neg hb
    refine g_iload_n C dJ9_floorMod_7cf53_10 rfl rfl ?_
    refine g_if_eq C (tgt := 18) dJ9_floorMod_7cf53_11 (by decide) (fun hc_11 => ?_) (fun hc_11 => ?_)
    · refine g_iload_n C dJ9_floorMod_7cf53_18 rfl rfl ?_
      refine g_iret C R0 dJ9_floorMod_7cf53_19 ?_
      exact pE_mk (by rw [er] at hc_11 ⊢; rw [h1 hc_11, hc_11]) rfl
    · refine g_iload_n C dJ9_floorMod_7cf53_14 rfl rfl ?_
      refine g_iload_n C dJ9_floorMod_7cf53_15 rfl rfl ?_
      refine g_iadd C dJ9_floorMod_7cf53_16 ?_
      refine g_iret C R0 dJ9_floorMod_7cf53_17 ?_
      exact pE_mk (by rw [er] at hc_11 ⊢; exact h2 hc_11) rfl
set_option maxHeartbeats 4000000 in
set_option maxRecDepth 100000 in
theorem c_X2_beatNow (E : Ev) (h : Nat) (a : Nat → Nat) (σ : Sky) : MI E yX2_beatNow wsX2_beatNow (rmD 1) (skyW E h a σ) [.ref h] (pE (nI (fmo8 (sBs σ))) (skyW E h a σ)) := by
  have inX2 : ∀ w ∈ u_ws RX2 TX2 12, w ∈ wsX2_beatNow := by decide +kernel
  have f37 : Cond.fieldLink RX2 37 (TX2 8).1 (TX2 8).2.1 (TX2 8).2.2.1 ∈ wsX2_beatNow := by decide +kernel
  refine MI.of (cc := cX2_beatNow) (nL := 1) (ty := .int) (own := RX2) [some (.ref h)] (by decide +kernel) rfl rfl (Nat.le_of_ble_eq_true rfl) rfl rfl ?_
  intro x C R0
  refine g_aload_n C dX2_beatNow_0 rfl rfl ?_
  refine g_get C inX2 0 rfl rfl 8 (by decide) f37 rfl dX2_beatNow_1 ?_
  refine g_bipush C (v := 8) dX2_beatNow_4 rfl ?_
  refine g_calliOF C (c_J9_floorMod_7cf53 E _ _) cf_J9_floorMod_7cf53 gX2_beatNow_J9_floorMod_7cf53 trivial (fitD (Nat.le_of_ble_eq_true rfl) (Nat.le_of_ble_eq_true rfl)) rfl rfl (Nat.le_of_ble_eq_true rfl) dX2_beatNow_6 (fun r1 w1 hp => ?_)
  obtain ⟨rfl, rfl⟩ := hp
  refine g_iret C R0 dX2_beatNow_9 ?_
  exact pE_mk rfl rfl
set_option maxHeartbeats 4000000 in
set_option maxRecDepth 100000 in
theorem c_X2_windAt (E : Ev) (h : Nat) (a : Nat → Nat) (σ : Sky) (b : Int32) : MI E yX2_windAt wsX2_windAt (rmD 1) (skyW E h a σ) [.ref h, .int b] (pE (windAR σ b) (skyW E h a σ)) := by
  have hi_X3_isBeat : Cond.static yX3_isBeat ∈ wsX2_windAt := by decide +kernel
  have hn_X3 : Cond.initialized yX3_isBeat.cls ∈ wsX2_windAt := by decide +kernel
  have inX2 : ∀ w ∈ u_ws RX2 TX2 12, w ∈ wsX2_windAt := by decide +kernel
  have f31 : Cond.fieldLink RX2 31 (TX2 6).1 (TX2 6).2.1 (TX2 6).2.2.1 ∈ wsX2_windAt := by decide +kernel
  refine MI.of (cc := cX2_windAt) (nL := 2) (ty := .int) (own := RX2) [some (.ref h), some (.int b)] (by decide +kernel) rfl rfl (Nat.le_of_ble_eq_true rfl) rfl rfl ?_
  intro x C R0
  refine g_iload_n C dX2_windAt_0 rfl rfl ?_
  refine g_calliTF C (c_X3_isBeat E _ _) cf_X3_isBeat ggX2_windAt_X3_isBeat (List.mem_of_getElem? (i := 6) rfl) hi_X3_isBeat hn_X3 (fitD (Nat.le_of_ble_eq_true rfl) (Nat.le_of_ble_eq_true rfl)) rfl rfl (Nat.le_of_ble_eq_true rfl) dX2_windAt_1 (fun r1 w1 hp => ?_)
  obtain ⟨⟨hb_1, rfl⟩ | ⟨hb_1, rfl⟩, rfl⟩ := hp
  · obtain ⟨j, hj, rfl⟩ := i32_of (n := 8) hb_1.1 hb_1.2 (by decide)
    have hcl : (nI j).toNatClampNeg = j := nI_clamp (by omega)
    refine g_if_eq_f C dX2_windAt_4 16 (by decide) (by decide) ?_
    refine g_aload_n C dX2_windAt_7 rfl rfl ?_
    refine g_get C inX2 0 rfl rfl 6 (by decide) f31 rfl dX2_windAt_8 ?_
    refine g_iload_n C dX2_windAt_11 rfl rfl ?_
    refine g_iald C 7 rfl (j) rfl (by omega) (Nat.le_of_ble_eq_true rfl) dX2_windAt_12 ?_
    refine g_goto C (tgt := 19) dX2_windAt_13 (by decide) ?_
    refine g_iret C R0 dX2_windAt_19 ?_
    exact pE_mk (by rw [windAR, if_pos hb_1, hcl]) rfl
  · refine g_if_eq_t C dX2_windAt_4 (tgt := 16) (by decide) (by decide) ?_
    refine g_sipush C (v := (-10001)) dX2_windAt_16 rfl ?_
    refine g_iret C R0 dX2_windAt_19 ?_
    exact pE_mk (by rw [windAR, if_neg hb_1]) rfl
set_option maxHeartbeats 4000000 in
set_option maxRecDepth 100000 in
theorem c_X2_windNow (E : Ev) (h : Nat) (a : Nat → Nat) (σ : Sky) : MI E yX2_windNow wsX2_windNow (rmD 2) (skyW E h a σ) [.ref h] (pE (windN σ) (skyW E h a σ)) := by
  refine MI.of (cc := cX2_windNow) (nL := 1) (ty := .int) (own := RX2) [some (.ref h)] (by decide +kernel) rfl rfl (Nat.le_of_ble_eq_true rfl) rfl rfl ?_
  intro x C R0
  have hf8 : fmo8 (sBs σ) < 8 := Nat.mod_lt _ (by decide)
  refine g_aload_n C dX2_windNow_0 rfl rfl ?_
  refine g_aload_n C dX2_windNow_1 rfl rfl ?_
  refine g_calliVF C 0 rfl rfl (c_X2_beatNow E h a σ) cf_X2_beatNow gX2_windNow_X2_beatNow rfl (fitD (Nat.le_of_ble_eq_true rfl) (Nat.le_of_ble_eq_true rfl)) rfl rfl (Nat.le_of_ble_eq_true rfl) dX2_windNow_2 (fun r1 w1 hp => ?_)
  obtain ⟨rfl, rfl⟩ := hp
  refine g_calliVF C 0 rfl rfl (c_X2_windAt E h a σ _) cf_X2_windAt gX2_windNow_X2_windAt rfl (fitD (Nat.le_of_ble_eq_true rfl) (Nat.le_of_ble_eq_true rfl)) rfl rfl (Nat.le_of_ble_eq_true rfl) dX2_windNow_5 (fun r1 w1 hp => ?_)
  obtain ⟨rfl, rfl⟩ := hp
  refine g_iret C R0 dX2_windNow_8 ?_
  exact pE_mk (by rw [windAR, if_pos ⟨(nI_leI (a := 0) (by omega) (by omega)).mpr (by omega), (nI_ltI (b := 8) (by omega) (by omega)).mpr hf8⟩, nI_clamp (by omega)]) rfl
set_option maxHeartbeats 4000000 in
set_option maxRecDepth 100000 in
theorem c_X2_behind (E : Ev) (W : va_W) (s : Int32) : MI E yX2_behind wsX2_behind (rmD 0) W [.int s] (pE (behi s) W) := by
  refine MI.of (cc := cX2_behind) (nL := 1) (ty := .int) (own := RX2) [some (.int s)] (by decide +kernel) rfl rfl (Nat.le_of_ble_eq_true rfl) rfl rfl ?_
  intro x C R0
  refine g_iload_n C dX2_behind_0 rfl rfl ?_
  refine g_iconst C (v := 1) dX2_behind_1 rfl ?_
  refine g_iadd C dX2_behind_2 ?_
  refine g_iconst C (v := 4) dX2_behind_3 rfl ?_
  refine g_irem C dX2_behind_4 (by decide) ?_
  refine g_iret C R0 dX2_behind_5 ?_
  exact pE_mk rfl rfl
set_option maxHeartbeats 4000000 in
set_option maxRecDepth 100000 in
theorem c_X2_countCutFrom (E : Ev) (h : Nat) (a : Nat → Nat) (σ : Sky) (s : Int32) : MV E yX2_countCutFrom wsX2_countCutFrom (rmD 1) (skyW E h a σ) [.ref h, .int s] (fun w => w = skyW E h a (ccF σ s)) := by
  have hi_X3_isString : Cond.static yX3_isString ∈ wsX2_countCutFrom := by decide +kernel
  have hn_X3 : Cond.initialized yX3_isString.cls ∈ wsX2_countCutFrom := by decide +kernel
  have inX2 : ∀ w ∈ u_ws RX2 TX2 12, w ∈ wsX2_countCutFrom := by decide +kernel
  have f34 : Cond.fieldLink RX2 34 (TX2 7).1 (TX2 7).2.1 (TX2 7).2.2.1 ∈ wsX2_countCutFrom := by decide +kernel
  refine MV.of (cc := cX2_countCutFrom) (nL := 2) (own := RX2) [some (.ref h), some (.int s)] (by decide +kernel) rfl rfl (Nat.le_of_ble_eq_true rfl) rfl rfl ?_
  intro x C R0
  refine g_iload_n C dX2_countCutFrom_0 rfl rfl ?_
  refine g_calliTF C (c_X3_isString E _ _) cf_X3_isString ggX2_countCutFrom_X3_isString (List.mem_of_getElem? (i := 9) rfl) hi_X3_isString hn_X3 (fitD (Nat.le_of_ble_eq_true rfl) (Nat.le_of_ble_eq_true rfl)) rfl rfl (Nat.le_of_ble_eq_true rfl) dX2_countCutFrom_1 (fun r1 w1 hp => ?_)
  obtain ⟨⟨hb_1, rfl⟩ | ⟨hb_1, rfl⟩, rfl⟩ := hp
  · obtain ⟨j, hj, rfl⟩ := i32_of (n := 4) hb_1.1 hb_1.2 (by decide)
    have hcl : (nI j).toNatClampNeg = j := nI_clamp (by omega)
    refine g_if_eq_f C dX2_countCutFrom_4 17 (by decide) (by decide) ?_
    refine g_aload_n C dX2_countCutFrom_7 rfl rfl ?_
    refine g_get C inX2 0 rfl rfl 7 (by decide) f34 rfl dX2_countCutFrom_8 ?_
    refine g_iload_n C dX2_countCutFrom_11 rfl rfl ?_
    refine g_dup2 C dX2_countCutFrom_12 rfl rfl ?_
    refine g_iald C 8 rfl (j) rfl (by omega) (Nat.le_of_ble_eq_true rfl) dX2_countCutFrom_13 ?_
    refine g_iconst C (v := 1) dX2_countCutFrom_14 rfl ?_
    refine g_iadd C dX2_countCutFrom_15 ?_
    refine g_iast C (ws' := (skyW E h a (pCf σ (j) ((sCf σ (j)) + 1)))) 8 rfl (j) rfl (by omega) (Nat.le_of_ble_eq_true rfl) dX2_countCutFrom_16 rfl ?_
    refine g_vret C R0 dX2_countCutFrom_17 ?_
    exact congrArg (skyW E h a) (show (pCf σ (j) ((sCf σ (j)) + 1)) = ccF σ (nI j) from by rw [ccF, if_pos hb_1, hcl])
  · refine g_if_eq_t C dX2_countCutFrom_4 (tgt := 17) (by decide) (by decide) ?_
    refine g_vret C R0 dX2_countCutFrom_17 ?_
    exact congrArg (skyW E h a) (show σ = ccF σ s from by rw [ccF, if_neg hb_1])
set_option maxHeartbeats 4000000 in
set_option maxRecDepth 100000 in
theorem c_X2_remove (E : Ev) (h : Nat) (a : Nat → Nat) (σ : Sky) (k : Int32) : MI E yX2_remove wsX2_remove (rmD 1) (skyW E h a σ) [.ref h, .int k] (pS E h a (removeR σ k)) := by
  have inX2 : ∀ w ∈ u_ws RX2 TX2 12, w ∈ wsX2_remove := by decide +kernel
  have f15 : Cond.fieldLink RX2 15 (TX2 1).1 (TX2 1).2.1 (TX2 1).2.2.1 ∈ wsX2_remove := by decide +kernel
  have f9 : Cond.fieldLink RX2 9 (TX2 0).1 (TX2 0).2.1 (TX2 0).2.2.1 ∈ wsX2_remove := by decide +kernel
  refine MI.of (cc := cX2_remove) (nL := 2) (ty := .int) (own := RX2) [some (.ref h), some (.int k)] (by decide +kernel) rfl rfl (Nat.le_of_ble_eq_true rfl) rfl rfl ?_
  intro x C R0
  refine g_aload_n C dX2_remove_0 rfl rfl ?_
  refine g_iload_n C dX2_remove_1 rfl rfl ?_
  refine g_calliVF C 0 rfl rfl (c_X2_isKite E h a σ _) cf_X2_isKite gX2_remove_X2_isKite rfl (fitD (Nat.le_of_ble_eq_true rfl) (Nat.le_of_ble_eq_true rfl)) rfl rfl (Nat.le_of_ble_eq_true rfl) dX2_remove_2 (fun r1 w1 hp => ?_)
  obtain ⟨⟨hb_2, rfl⟩ | ⟨hb_2, rfl⟩, rfl⟩ := hp
  · obtain ⟨j, hj, rfl⟩ := i32_of (n := 12) hb_2.1 hb_2.2.1 (by decide)
    have hcl : (nI j).toNatClampNeg = j := nI_clamp (by omega)
    have hkj : ¬ sSt σ j = -1 := by have := hb_2.2.2; rwa [hcl] at this
    refine g_if_ne_t C dX2_remove_5 (tgt := 12) (by decide) (by decide) ?_
    refine g_aload_n C dX2_remove_12 rfl rfl ?_
    refine g_get C inX2 0 rfl rfl 1 (by decide) f15 rfl dX2_remove_13 ?_
    refine g_iload_n C dX2_remove_16 rfl rfl ?_
    refine g_iconst C (v := (-1)) dX2_remove_17 rfl ?_
    refine g_iast C (ws' := (skyW E h a (pSt σ (j) (-1)))) 2 rfl (j) rfl (by omega) (Nat.le_of_ble_eq_true rfl) dX2_remove_18 rfl ?_
    refine g_aload_n C dX2_remove_19 rfl rfl ?_
    refine g_get C inX2 0 rfl rfl 0 (by decide) f9 rfl dX2_remove_20 ?_
    refine g_iload_n C dX2_remove_23 rfl rfl ?_
    refine g_iald C 1 rfl (j) rfl (by omega) (Nat.le_of_ble_eq_true rfl) dX2_remove_24 ?_
    refine g_iret C R0 dX2_remove_25 ?_
    refine pS_mk (σ := (pSt σ (j) (-1))) ?_ rfl
    rw [removeR, if_pos hb_2, hcl] <;> rfl
  · refine g_if_ne_f C dX2_remove_5 12 (by decide) (by decide) ?_
    refine g_sipush C (v := (-10001)) dX2_remove_8 rfl ?_
    refine g_iret C R0 dX2_remove_11 ?_
    refine pS_mk (σ := σ) ?_ rfl
    rw [removeR, if_neg hb_2] <;> rfl
set_option maxHeartbeats 4000000 in
set_option maxRecDepth 100000 in
theorem c_X2_raise (E : Ev) (h : Nat) (a : Nat → Nat) (σ : Sky) (k : Int32) : MI E yX2_raise wsX2_raise (rmD 3) (skyW E h a σ) [.ref h, .int k] (pS E h a (raiseR σ k)) := by
  have inX2 : ∀ w ∈ u_ws RX2 TX2 12, w ∈ wsX2_raise := by decide +kernel
  have f15 : Cond.fieldLink RX2 15 (TX2 1).1 (TX2 1).2.1 (TX2 1).2.2.1 ∈ wsX2_raise := by decide +kernel
  have f18 : Cond.fieldLink RX2 18 (TX2 2).1 (TX2 2).2.1 (TX2 2).2.2.1 ∈ wsX2_raise := by decide +kernel
  have f44 : Cond.fieldLink RX2 44 (TX2 10).1 (TX2 10).2.1 (TX2 10).2.2.1 ∈ wsX2_raise := by decide +kernel
  have f21 : Cond.fieldLink RX2 21 (TX2 3).1 (TX2 3).2.1 (TX2 3).2.2.1 ∈ wsX2_raise := by decide +kernel
  have f25 : Cond.fieldLink RX2 25 (TX2 4).1 (TX2 4).2.1 (TX2 4).2.2.1 ∈ wsX2_raise := by decide +kernel
  have f41 : Cond.fieldLink RX2 41 (TX2 9).1 (TX2 9).2.1 (TX2 9).2.2.1 ∈ wsX2_raise := by decide +kernel
  have f9 : Cond.fieldLink RX2 9 (TX2 0).1 (TX2 0).2.1 (TX2 0).2.2.1 ∈ wsX2_raise := by decide +kernel
  have f28 : Cond.fieldLink RX2 28 (TX2 5).1 (TX2 5).2.1 (TX2 5).2.2.1 ∈ wsX2_raise := by decide +kernel
  refine MI.of (cc := cX2_raise) (nL := 4) (ty := .int) (own := RX2) [some (.ref h), some (.int k), none, none] (by decide +kernel) rfl rfl (Nat.le_of_ble_eq_true rfl) rfl rfl ?_
  intro x C R0
  refine g_aload_n C dX2_raise_0 rfl rfl ?_
  refine g_iload_n C dX2_raise_1 rfl rfl ?_
  refine g_calliVF C 0 rfl rfl (c_X2_isKite E h a σ _) cf_X2_isKite gX2_raise_X2_isKite rfl (fitD (Nat.le_of_ble_eq_true rfl) (Nat.le_of_ble_eq_true rfl)) rfl rfl (Nat.le_of_ble_eq_true rfl) dX2_raise_2 (fun r1 w1 hp => ?_)
  obtain ⟨⟨hb_2, rfl⟩ | ⟨hb_2, rfl⟩, rfl⟩ := hp
  · obtain ⟨j, hj, rfl⟩ := i32_of (n := 12) hb_2.1 hb_2.2.1 (by decide)
    have hcl : (nI j).toNatClampNeg = j := nI_clamp (by omega)
    have hkj : ¬ sSt σ j = -1 := by have := hb_2.2.2; rwa [hcl] at this
    refine g_if_ne_t C dX2_raise_5 (tgt := 12) (by decide) (by decide) ?_
    refine g_aload_n C dX2_raise_12 rfl rfl ?_
    refine g_get C inX2 0 rfl rfl 1 (by decide) f15 rfl dX2_raise_13 ?_
    refine g_iload_n C dX2_raise_16 rfl rfl ?_
    refine g_iald C 2 rfl (j) rfl (by omega) (Nat.le_of_ble_eq_true rfl) dX2_raise_17 ?_
    refine g_istore_n C dX2_raise_18 rfl (Nat.le_of_ble_eq_true rfl) rfl ?_
    refine g_aload_n C dX2_raise_19 rfl rfl ?_
    refine g_iload_n C dX2_raise_20 rfl rfl ?_
    refine g_aload_n C dX2_raise_21 rfl rfl ?_
    refine g_get C inX2 0 rfl rfl 2 (by decide) f18 rfl dX2_raise_22 ?_
    refine g_iload_n C dX2_raise_25 rfl rfl ?_
    refine g_iald C 3 rfl (j) rfl (by omega) (Nat.le_of_ble_eq_true rfl) dX2_raise_26 ?_
    refine g_aload_n C dX2_raise_27 rfl rfl ?_
    refine g_calliVF C 0 rfl rfl (c_X2_windNow E h a σ) cf_X2_windNow gX2_raise_X2_windNow rfl (fitD (Nat.le_of_ble_eq_true rfl) (Nat.le_of_ble_eq_true rfl)) rfl rfl (Nat.le_of_ble_eq_true rfl) dX2_raise_28 (fun r1 w1 hp => ?_)
    obtain ⟨rfl, rfl⟩ := hp
    refine g_calliVF C 0 rfl rfl (c_X2_risen E h a σ _ _ _) cf_X2_risen gX2_raise_X2_risen rfl (fitD (Nat.le_of_ble_eq_true rfl) (Nat.le_of_ble_eq_true rfl)) rfl rfl (Nat.le_of_ble_eq_true rfl) dX2_raise_31 (fun r1 w1 hp => ?_)
    obtain ⟨rfl, rfl⟩ := hp
    refine g_istore_n C dX2_raise_34 rfl (Nat.le_of_ble_eq_true rfl) rfl ?_
    refine g_iload_n C dX2_raise_35 rfl rfl ?_
    refine g_aload_n C dX2_raise_36 rfl rfl ?_
    refine g_get C inX2 0 rfl rfl 10 (by decide) f44 rfl dX2_raise_37 ?_
    refine g_icmp_le C (tgt := 70) dX2_raise_40 (by decide) (fun hc_40 => ?_) (fun hc_40 => ?_)
    · refine g_aload_n C dX2_raise_70 rfl rfl ?_
      refine g_get C inX2 0 rfl rfl 1 (by decide) f15 rfl dX2_raise_71 ?_
      refine g_iload_n C dX2_raise_74 rfl rfl ?_
      refine g_iload_n C dX2_raise_75 rfl rfl ?_
      refine g_iast C (ws' := (skyW E h a (pSt σ (j) (sSt σ (j))))) 2 rfl (j) rfl (by omega) (Nat.le_of_ble_eq_true rfl) dX2_raise_76 rfl ?_
      refine g_aload_n C dX2_raise_77 rfl rfl ?_
      refine g_get C inX2 0 rfl rfl 2 (by decide) f18 rfl dX2_raise_78 ?_
      refine g_iload_n C dX2_raise_81 rfl rfl ?_
      refine g_iload_n C dX2_raise_82 rfl rfl ?_
      refine g_iast C (ws' := (skyW E h a (pHt (pSt σ (j) (sSt σ (j))) (j) (land (sSt σ) (sHt σ) (sSt σ (j)) ((sHt σ (j)) + (windN σ) + 1))))) 3 rfl (j) rfl (by omega) (Nat.le_of_ble_eq_true rfl) dX2_raise_83 rfl ?_
      refine g_aload_n C dX2_raise_84 rfl rfl ?_
      refine g_get C inX2 0 rfl rfl 3 (by decide) f21 rfl dX2_raise_85 ?_
      refine g_iload_n C dX2_raise_88 rfl rfl ?_
      refine g_iconst C (v := 1) dX2_raise_89 rfl ?_
      refine g_zast C (ws' := (skyW E h a (pFr (pHt (pSt σ (j) (sSt σ (j))) (j) (land (sSt σ) (sHt σ) (sSt σ (j)) ((sHt σ (j)) + (windN σ) + 1))) (j) 1))) 4 rfl (j) rfl (by omega) (Nat.le_of_ble_eq_true rfl) dX2_raise_90 rfl ?_
      refine g_aload_n C dX2_raise_91 rfl rfl ?_
      refine g_get C inX2 0 rfl rfl 4 (by decide) f25 rfl dX2_raise_92 ?_
      refine g_iload_n C dX2_raise_95 rfl rfl ?_
      refine g_dup2 C dX2_raise_96 rfl rfl ?_
      refine g_iald C 5 rfl (j) rfl (by omega) (Nat.le_of_ble_eq_true rfl) dX2_raise_97 ?_
      refine g_iconst C (v := 1) dX2_raise_98 rfl ?_
      refine g_iadd C dX2_raise_99 ?_
      refine g_iast C (ws' := (skyW E h a (pRe (pFr (pHt (pSt σ (j) (sSt σ (j))) (j) (land (sSt σ) (sHt σ) (sSt σ (j)) ((sHt σ (j)) + (windN σ) + 1))) (j) 1) (j) ((sRe (pFr (pHt (pSt σ (j) (sSt σ (j))) (j) (land (sSt σ) (sHt σ) (sSt σ (j)) ((sHt σ (j)) + (windN σ) + 1))) (j) 1) (j)) + 1)))) 5 rfl (j) rfl (by omega) (Nat.le_of_ble_eq_true rfl) dX2_raise_100 rfl ?_
      refine g_aload_n C dX2_raise_101 rfl rfl ?_
      refine g_dup C dX2_raise_102 rfl ?_
      refine g_get C inX2 0 rfl rfl 9 (by decide) f41 rfl dX2_raise_103 ?_
      refine g_iconst C (v := 1) dX2_raise_106 rfl ?_
      refine g_iadd C dX2_raise_107 ?_
      refine g_put C (ws' := (skyW E h a (uRs (pRe (pFr (pHt (pSt σ (j) (sSt σ (j))) (j) (land (sSt σ) (sHt σ) (sSt σ (j)) ((sHt σ (j)) + (windN σ) + 1))) (j) 1) (j) ((sRe (pFr (pHt (pSt σ (j) (sSt σ (j))) (j) (land (sSt σ) (sHt σ) (sSt σ (j)) ((sHt σ (j)) + (windN σ) + 1))) (j) 1) (j)) + 1)) ((sRs (pRe (pFr (pHt (pSt σ (j) (sSt σ (j))) (j) (land (sSt σ) (sHt σ) (sSt σ (j)) ((sHt σ (j)) + (windN σ) + 1))) (j) 1) (j) ((sRe (pFr (pHt (pSt σ (j) (sSt σ (j))) (j) (land (sSt σ) (sHt σ) (sSt σ (j)) ((sHt σ (j)) + (windN σ) + 1))) (j) 1) (j)) + 1))) + 1)))) inX2 (ty := .int) tyX2 tyX2_ok nmX2 0 rfl rfl 9 (by decide) f41 rfl (by decide +kernel) rfl rfl (Nat.le_of_ble_eq_true rfl) dX2_raise_108 rfl ?_
      refine g_aload_n C dX2_raise_111 rfl rfl ?_
      refine g_get C inX2 0 rfl rfl 0 (by decide) f9 rfl dX2_raise_112 ?_
      refine g_iload_n C dX2_raise_115 rfl rfl ?_
      refine g_iald C 1 rfl (j) rfl (by omega) (Nat.le_of_ble_eq_true rfl) dX2_raise_116 ?_
      refine g_iret C R0 dX2_raise_117 ?_
      refine pS_mk (σ := (uRs (pRe (pFr (pHt (pSt σ (j) (sSt σ (j))) (j) (land (sSt σ) (sHt σ) (sSt σ (j)) ((sHt σ (j)) + (windN σ) + 1))) (j) 1) (j) ((sRe (pFr (pHt (pSt σ (j) (sSt σ (j))) (j) (land (sSt σ) (sHt σ) (sSt σ (j)) ((sHt σ (j)) + (windN σ) + 1))) (j) 1) (j)) + 1)) ((sRs (pRe (pFr (pHt (pSt σ (j) (sSt σ (j))) (j) (land (sSt σ) (sHt σ) (sSt σ (j)) ((sHt σ (j)) + (windN σ) + 1))) (j) 1) (j) ((sRe (pFr (pHt (pSt σ (j) (sSt σ (j))) (j) (land (sSt σ) (sHt σ) (sSt σ (j)) ((sHt σ (j)) + (windN σ) + 1))) (j) 1) (j)) + 1))) + 1))) ?_ rfl
      rw [raiseR, if_pos hb_2, hcl, raiseG, if_neg (i32_nlt hc_40)] <;> rfl
    · refine g_aload_n C dX2_raise_43 rfl rfl ?_
      refine g_get C inX2 0 rfl rfl 5 (by decide) f28 rfl dX2_raise_44 ?_
      refine g_iload_n C dX2_raise_47 rfl rfl ?_
      refine g_dup2 C dX2_raise_48 rfl rfl ?_
      refine g_iald C 6 rfl (j) rfl (by omega) (Nat.le_of_ble_eq_true rfl) dX2_raise_49 ?_
      refine g_iconst C (v := 1) dX2_raise_50 rfl ?_
      refine g_iadd C dX2_raise_51 ?_
      refine g_iast C (ws' := (skyW E h a (pCu σ (j) ((sCu σ (j)) + 1)))) 6 rfl (j) rfl (by omega) (Nat.le_of_ble_eq_true rfl) dX2_raise_52 rfl ?_
      refine g_aload_n C dX2_raise_53 rfl rfl ?_
      refine g_iload_n C dX2_raise_54 rfl rfl ?_
      refine g_callvVF C 0 rfl rfl (c_X2_countCutFrom E h a (pCu σ (j) ((sCu σ (j)) + 1)) _) cf_X2_countCutFrom gX2_raise_X2_countCutFrom rfl (fitD (Nat.le_of_ble_eq_true rfl) (Nat.le_of_ble_eq_true rfl)) rfl rfl (Nat.le_of_ble_eq_true rfl) dX2_raise_55 (fun w1 hp => ?_)
      obtain rfl := hp
      refine g_iload_n C dX2_raise_58 rfl rfl ?_
      refine g_calliSF C (c_X2_behind E _ _) cf_X2_behind gX2_raise_X2_behind rfl (fitD (Nat.le_of_ble_eq_true rfl) (Nat.le_of_ble_eq_true rfl)) rfl rfl (Nat.le_of_ble_eq_true rfl) dX2_raise_59 (fun r1 w1 hp => ?_)
      obtain ⟨rfl, rfl⟩ := hp
      refine g_istore_n C dX2_raise_62 rfl (Nat.le_of_ble_eq_true rfl) rfl ?_
      refine g_aload_n C dX2_raise_63 rfl rfl ?_
      refine g_iload_n C dX2_raise_64 rfl rfl ?_
      refine g_iconst C (v := 0) dX2_raise_65 rfl ?_
      refine g_calliVF C 0 rfl rfl (c_X2_landing E h a (ccF (pCu σ (j) ((sCu σ (j)) + 1)) (sSt σ (j))) _ _) cf_X2_landing gX2_raise_X2_landing rfl (fitD (Nat.le_of_ble_eq_true rfl) (Nat.le_of_ble_eq_true rfl)) rfl rfl (Nat.le_of_ble_eq_true rfl) dX2_raise_66 (fun r1 w1 hp => ?_)
      obtain ⟨rfl, rfl⟩ := hp
      refine g_istore_n C dX2_raise_69 rfl (Nat.le_of_ble_eq_true rfl) rfl ?_
      refine g_aload_n C dX2_raise_70 rfl rfl ?_
      refine g_get C inX2 0 rfl rfl 1 (by decide) f15 rfl dX2_raise_71 ?_
      refine g_iload_n C dX2_raise_74 rfl rfl ?_
      refine g_iload_n C dX2_raise_75 rfl rfl ?_
      refine g_iast C (ws' := (skyW E h a (pSt (ccF (pCu σ (j) ((sCu σ (j)) + 1)) (sSt σ (j))) (j) (behi (sSt σ (j)))))) 2 rfl (j) rfl (by omega) (Nat.le_of_ble_eq_true rfl) dX2_raise_76 rfl ?_
      refine g_aload_n C dX2_raise_77 rfl rfl ?_
      refine g_get C inX2 0 rfl rfl 2 (by decide) f18 rfl dX2_raise_78 ?_
      refine g_iload_n C dX2_raise_81 rfl rfl ?_
      refine g_iload_n C dX2_raise_82 rfl rfl ?_
      refine g_iast C (ws' := (skyW E h a (pHt (pSt (ccF (pCu σ (j) ((sCu σ (j)) + 1)) (sSt σ (j))) (j) (behi (sSt σ (j)))) (j) (land (sSt (ccF (pCu σ (j) ((sCu σ (j)) + 1)) (sSt σ (j)))) (sHt (ccF (pCu σ (j) ((sCu σ (j)) + 1)) (sSt σ (j)))) (behi (sSt σ (j))) 0)))) 3 rfl (j) rfl (by omega) (Nat.le_of_ble_eq_true rfl) dX2_raise_83 rfl ?_
      refine g_aload_n C dX2_raise_84 rfl rfl ?_
      refine g_get C inX2 0 rfl rfl 3 (by decide) f21 rfl dX2_raise_85 ?_
      refine g_iload_n C dX2_raise_88 rfl rfl ?_
      refine g_iconst C (v := 1) dX2_raise_89 rfl ?_
      refine g_zast C (ws' := (skyW E h a (pFr (pHt (pSt (ccF (pCu σ (j) ((sCu σ (j)) + 1)) (sSt σ (j))) (j) (behi (sSt σ (j)))) (j) (land (sSt (ccF (pCu σ (j) ((sCu σ (j)) + 1)) (sSt σ (j)))) (sHt (ccF (pCu σ (j) ((sCu σ (j)) + 1)) (sSt σ (j)))) (behi (sSt σ (j))) 0)) (j) 1))) 4 rfl (j) rfl (by omega) (Nat.le_of_ble_eq_true rfl) dX2_raise_90 rfl ?_
      refine g_aload_n C dX2_raise_91 rfl rfl ?_
      refine g_get C inX2 0 rfl rfl 4 (by decide) f25 rfl dX2_raise_92 ?_
      refine g_iload_n C dX2_raise_95 rfl rfl ?_
      refine g_dup2 C dX2_raise_96 rfl rfl ?_
      refine g_iald C 5 rfl (j) rfl (by omega) (Nat.le_of_ble_eq_true rfl) dX2_raise_97 ?_
      refine g_iconst C (v := 1) dX2_raise_98 rfl ?_
      refine g_iadd C dX2_raise_99 ?_
      refine g_iast C (ws' := (skyW E h a (pRe (pFr (pHt (pSt (ccF (pCu σ (j) ((sCu σ (j)) + 1)) (sSt σ (j))) (j) (behi (sSt σ (j)))) (j) (land (sSt (ccF (pCu σ (j) ((sCu σ (j)) + 1)) (sSt σ (j)))) (sHt (ccF (pCu σ (j) ((sCu σ (j)) + 1)) (sSt σ (j)))) (behi (sSt σ (j))) 0)) (j) 1) (j) ((sRe (pFr (pHt (pSt (ccF (pCu σ (j) ((sCu σ (j)) + 1)) (sSt σ (j))) (j) (behi (sSt σ (j)))) (j) (land (sSt (ccF (pCu σ (j) ((sCu σ (j)) + 1)) (sSt σ (j)))) (sHt (ccF (pCu σ (j) ((sCu σ (j)) + 1)) (sSt σ (j)))) (behi (sSt σ (j))) 0)) (j) 1) (j)) + 1)))) 5 rfl (j) rfl (by omega) (Nat.le_of_ble_eq_true rfl) dX2_raise_100 rfl ?_
      refine g_aload_n C dX2_raise_101 rfl rfl ?_
      refine g_dup C dX2_raise_102 rfl ?_
      refine g_get C inX2 0 rfl rfl 9 (by decide) f41 rfl dX2_raise_103 ?_
      refine g_iconst C (v := 1) dX2_raise_106 rfl ?_
      refine g_iadd C dX2_raise_107 ?_
      refine g_put C (ws' := (skyW E h a (uRs (pRe (pFr (pHt (pSt (ccF (pCu σ (j) ((sCu σ (j)) + 1)) (sSt σ (j))) (j) (behi (sSt σ (j)))) (j) (land (sSt (ccF (pCu σ (j) ((sCu σ (j)) + 1)) (sSt σ (j)))) (sHt (ccF (pCu σ (j) ((sCu σ (j)) + 1)) (sSt σ (j)))) (behi (sSt σ (j))) 0)) (j) 1) (j) ((sRe (pFr (pHt (pSt (ccF (pCu σ (j) ((sCu σ (j)) + 1)) (sSt σ (j))) (j) (behi (sSt σ (j)))) (j) (land (sSt (ccF (pCu σ (j) ((sCu σ (j)) + 1)) (sSt σ (j)))) (sHt (ccF (pCu σ (j) ((sCu σ (j)) + 1)) (sSt σ (j)))) (behi (sSt σ (j))) 0)) (j) 1) (j)) + 1)) ((sRs (pRe (pFr (pHt (pSt (ccF (pCu σ (j) ((sCu σ (j)) + 1)) (sSt σ (j))) (j) (behi (sSt σ (j)))) (j) (land (sSt (ccF (pCu σ (j) ((sCu σ (j)) + 1)) (sSt σ (j)))) (sHt (ccF (pCu σ (j) ((sCu σ (j)) + 1)) (sSt σ (j)))) (behi (sSt σ (j))) 0)) (j) 1) (j) ((sRe (pFr (pHt (pSt (ccF (pCu σ (j) ((sCu σ (j)) + 1)) (sSt σ (j))) (j) (behi (sSt σ (j)))) (j) (land (sSt (ccF (pCu σ (j) ((sCu σ (j)) + 1)) (sSt σ (j)))) (sHt (ccF (pCu σ (j) ((sCu σ (j)) + 1)) (sSt σ (j)))) (behi (sSt σ (j))) 0)) (j) 1) (j)) + 1))) + 1)))) inX2 (ty := .int) tyX2 tyX2_ok nmX2 0 rfl rfl 9 (by decide) f41 rfl (by decide +kernel) rfl rfl (Nat.le_of_ble_eq_true rfl) dX2_raise_108 rfl ?_
      refine g_aload_n C dX2_raise_111 rfl rfl ?_
      refine g_get C inX2 0 rfl rfl 0 (by decide) f9 rfl dX2_raise_112 ?_
      refine g_iload_n C dX2_raise_115 rfl rfl ?_
      refine g_iald C 1 rfl (j) rfl (by omega) (Nat.le_of_ble_eq_true rfl) dX2_raise_116 ?_
      refine g_iret C R0 dX2_raise_117 ?_
      refine pS_mk (σ := (uRs (pRe (pFr (pHt (pSt (ccF (pCu σ (j) ((sCu σ (j)) + 1)) (sSt σ (j))) (j) (behi (sSt σ (j)))) (j) (land (sSt (ccF (pCu σ (j) ((sCu σ (j)) + 1)) (sSt σ (j)))) (sHt (ccF (pCu σ (j) ((sCu σ (j)) + 1)) (sSt σ (j)))) (behi (sSt σ (j))) 0)) (j) 1) (j) ((sRe (pFr (pHt (pSt (ccF (pCu σ (j) ((sCu σ (j)) + 1)) (sSt σ (j))) (j) (behi (sSt σ (j)))) (j) (land (sSt (ccF (pCu σ (j) ((sCu σ (j)) + 1)) (sSt σ (j)))) (sHt (ccF (pCu σ (j) ((sCu σ (j)) + 1)) (sSt σ (j)))) (behi (sSt σ (j))) 0)) (j) 1) (j)) + 1)) ((sRs (pRe (pFr (pHt (pSt (ccF (pCu σ (j) ((sCu σ (j)) + 1)) (sSt σ (j))) (j) (behi (sSt σ (j)))) (j) (land (sSt (ccF (pCu σ (j) ((sCu σ (j)) + 1)) (sSt σ (j)))) (sHt (ccF (pCu σ (j) ((sCu σ (j)) + 1)) (sSt σ (j)))) (behi (sSt σ (j))) 0)) (j) 1) (j) ((sRe (pFr (pHt (pSt (ccF (pCu σ (j) ((sCu σ (j)) + 1)) (sSt σ (j))) (j) (behi (sSt σ (j)))) (j) (land (sSt (ccF (pCu σ (j) ((sCu σ (j)) + 1)) (sSt σ (j)))) (sHt (ccF (pCu σ (j) ((sCu σ (j)) + 1)) (sSt σ (j)))) (behi (sSt σ (j))) 0)) (j) 1) (j)) + 1))) + 1))) ?_ rfl
      rw [raiseR, if_pos hb_2, hcl, raiseG, if_pos (i32_lt.mp hc_40)] <;> rfl
  · refine g_if_ne_f C dX2_raise_5 12 (by decide) (by decide) ?_
    refine g_sipush C (v := (-10001)) dX2_raise_8 rfl ?_
    refine g_iret C R0 dX2_raise_11 ?_
    refine pS_mk (σ := σ) ?_ rfl
    rw [raiseR, if_neg hb_2] <;> rfl
set_option maxHeartbeats 4000000 in
set_option maxRecDepth 100000 in
theorem c_X2_renumber (E : Ev) (h : Nat) (a : Nat → Nat) (σ : Sky) (k n : Int32) : MI E yX2_renumber wsX2_renumber (rmD 1) (skyW E h a σ) [.ref h, .int k, .int n] (pS E h a (renumR σ k n)) := by
  have hi_X3_isNumber : Cond.static yX3_isNumber ∈ wsX2_renumber := by decide +kernel
  have hn_X3 : Cond.initialized yX3_isNumber.cls ∈ wsX2_renumber := by decide +kernel
  have inX2 : ∀ w ∈ u_ws RX2 TX2 12, w ∈ wsX2_renumber := by decide +kernel
  have f9 : Cond.fieldLink RX2 9 (TX2 0).1 (TX2 0).2.1 (TX2 0).2.2.1 ∈ wsX2_renumber := by decide +kernel
  have f21 : Cond.fieldLink RX2 21 (TX2 3).1 (TX2 3).2.1 (TX2 3).2.2.1 ∈ wsX2_renumber := by decide +kernel
  refine MI.of (cc := cX2_renumber) (nL := 4) (ty := .int) (own := RX2) [some (.ref h), some (.int k), some (.int n), none] (by decide +kernel) rfl rfl (Nat.le_of_ble_eq_true rfl) rfl rfl ?_
  intro x C R0
  refine g_aload_n C dX2_renumber_0 rfl rfl ?_
  refine g_iload_n C dX2_renumber_1 rfl rfl ?_
  refine g_calliVF C 0 rfl rfl (c_X2_isKite E h a σ _) cf_X2_isKite gX2_renumber_X2_isKite rfl (fitD (Nat.le_of_ble_eq_true rfl) (Nat.le_of_ble_eq_true rfl)) rfl rfl (Nat.le_of_ble_eq_true rfl) dX2_renumber_2 (fun r1 w1 hp => ?_)
  obtain ⟨⟨hb_2, rfl⟩ | ⟨hb_2, rfl⟩, rfl⟩ := hp
  · obtain ⟨j, hj, rfl⟩ := i32_of (n := 12) hb_2.1 hb_2.2.1 (by decide)
    have hcl : (nI j).toNatClampNeg = j := nI_clamp (by omega)
    have hkj : ¬ sSt σ j = -1 := by have := hb_2.2.2; rwa [hcl] at this
    refine g_if_ne_t C dX2_renumber_5 (tgt := 12) (by decide) (by decide) ?_
    refine g_iload_n C dX2_renumber_12 rfl rfl ?_
    refine g_calliTF C (c_X3_isNumber E _ _) cf_X3_isNumber ggX2_renumber_X3_isNumber (List.mem_of_getElem? (i := 10) rfl) hi_X3_isNumber hn_X3 (fitD (Nat.le_of_ble_eq_true rfl) (Nat.le_of_ble_eq_true rfl)) rfl rfl (Nat.le_of_ble_eq_true rfl) dX2_renumber_13 (fun r1 w1 hp => ?_)
    obtain ⟨⟨hb_13, rfl⟩ | ⟨hb_13, rfl⟩, rfl⟩ := hp
    · refine g_if_ne_t C dX2_renumber_16 (tgt := 23) (by decide) (by decide) ?_
      refine g_aload_n C dX2_renumber_23 rfl rfl ?_
      refine g_get C inX2 0 rfl rfl 0 (by decide) f9 rfl dX2_renumber_24 ?_
      refine g_iload_n C dX2_renumber_27 rfl rfl ?_
      refine g_iald C 1 rfl (j) rfl (by omega) (Nat.le_of_ble_eq_true rfl) dX2_renumber_28 ?_
      refine g_istore_n C dX2_renumber_29 rfl (Nat.le_of_ble_eq_true rfl) rfl ?_
      refine g_aload_n C dX2_renumber_30 rfl rfl ?_
      refine g_get C inX2 0 rfl rfl 0 (by decide) f9 rfl dX2_renumber_31 ?_
      refine g_iload_n C dX2_renumber_34 rfl rfl ?_
      refine g_iload_n C dX2_renumber_35 rfl rfl ?_
      refine g_iast C (ws' := (skyW E h a (pNu σ (j) n))) 1 rfl (j) rfl (by omega) (Nat.le_of_ble_eq_true rfl) dX2_renumber_36 rfl ?_
      refine g_aload_n C dX2_renumber_37 rfl rfl ?_
      refine g_get C inX2 0 rfl rfl 3 (by decide) f21 rfl dX2_renumber_38 ?_
      refine g_iload_n C dX2_renumber_41 rfl rfl ?_
      refine g_iconst C (v := 1) dX2_renumber_42 rfl ?_
      refine g_zast C (ws' := (skyW E h a (pFr (pNu σ (j) n) (j) 1))) 4 rfl (j) rfl (by omega) (Nat.le_of_ble_eq_true rfl) dX2_renumber_43 rfl ?_
      refine g_iload_n C dX2_renumber_44 rfl rfl ?_
      refine g_iret C R0 dX2_renumber_45 ?_
      refine pS_mk (σ := (pFr (pNu σ (j) n) (j) 1)) ?_ rfl
      rw [renumR, if_pos hb_2, if_pos hb_13, hcl] <;> rfl
    · refine g_if_ne_f C dX2_renumber_16 23 (by decide) (by decide) ?_
      refine g_sipush C (v := (-10002)) dX2_renumber_19 rfl ?_
      refine g_iret C R0 dX2_renumber_22 ?_
      refine pS_mk (σ := σ) ?_ rfl
      rw [renumR, if_pos hb_2, if_neg hb_13] <;> rfl
  · refine g_if_ne_f C dX2_renumber_5 12 (by decide) (by decide) ?_
    refine g_sipush C (v := (-10001)) dX2_renumber_8 rfl ?_
    refine g_iret C R0 dX2_renumber_11 ?_
    refine pS_mk (σ := σ) ?_ rfl
    rw [renumR, if_neg hb_2] <;> rfl
set_option maxHeartbeats 4000000 in
set_option maxRecDepth 100000 in
theorem c_X2_shift (E : Ev) (h : Nat) (a : Nat → Nat) (σ : Sky) (k s : Int32) : MI E yX2_shift wsX2_shift (rmD 2) (skyW E h a σ) [.ref h, .int k, .int s] (pS E h a (shiftR σ k s)) := by
  have hi_X3_isString : Cond.static yX3_isString ∈ wsX2_shift := by decide +kernel
  have hn_X3 : Cond.initialized yX3_isString.cls ∈ wsX2_shift := by decide +kernel
  have inX2 : ∀ w ∈ u_ws RX2 TX2 12, w ∈ wsX2_shift := by decide +kernel
  have f15 : Cond.fieldLink RX2 15 (TX2 1).1 (TX2 1).2.1 (TX2 1).2.2.1 ∈ wsX2_shift := by decide +kernel
  have f18 : Cond.fieldLink RX2 18 (TX2 2).1 (TX2 2).2.1 (TX2 2).2.2.1 ∈ wsX2_shift := by decide +kernel
  refine MI.of (cc := cX2_shift) (nL := 3) (ty := .int) (own := RX2) [some (.ref h), some (.int k), some (.int s)] (by decide +kernel) rfl rfl (Nat.le_of_ble_eq_true rfl) rfl rfl ?_
  intro x C R0
  refine g_aload_n C dX2_shift_0 rfl rfl ?_
  refine g_iload_n C dX2_shift_1 rfl rfl ?_
  refine g_calliVF C 0 rfl rfl (c_X2_isKite E h a σ _) cf_X2_isKite gX2_shift_X2_isKite rfl (fitD (Nat.le_of_ble_eq_true rfl) (Nat.le_of_ble_eq_true rfl)) rfl rfl (Nat.le_of_ble_eq_true rfl) dX2_shift_2 (fun r1 w1 hp => ?_)
  obtain ⟨⟨hb_2, rfl⟩ | ⟨hb_2, rfl⟩, rfl⟩ := hp
  · obtain ⟨j, hj, rfl⟩ := i32_of (n := 12) hb_2.1 hb_2.2.1 (by decide)
    have hcl : (nI j).toNatClampNeg = j := nI_clamp (by omega)
    have hkj : ¬ sSt σ j = -1 := by have := hb_2.2.2; rwa [hcl] at this
    refine g_if_eq_f C dX2_shift_5 15 (by decide) (by decide) ?_
    refine g_iload_n C dX2_shift_8 rfl rfl ?_
    refine g_calliTF C (c_X3_isString E _ _) cf_X3_isString ggX2_shift_X3_isString (List.mem_of_getElem? (i := 9) rfl) hi_X3_isString hn_X3 (fitD (Nat.le_of_ble_eq_true rfl) (Nat.le_of_ble_eq_true rfl)) rfl rfl (Nat.le_of_ble_eq_true rfl) dX2_shift_9 (fun r1 w1 hp => ?_)
    obtain ⟨⟨hb_9, rfl⟩ | ⟨hb_9, rfl⟩, rfl⟩ := hp
    · refine g_if_ne_t C dX2_shift_12 (tgt := 19) (by decide) (by decide) ?_
      refine g_aload_n C dX2_shift_19 rfl rfl ?_
      refine g_get C inX2 0 rfl rfl 1 (by decide) f15 rfl dX2_shift_20 ?_
      refine g_iload_n C dX2_shift_23 rfl rfl ?_
      refine g_iald C 2 rfl (j) rfl (by omega) (Nat.le_of_ble_eq_true rfl) dX2_shift_24 ?_
      refine g_iload_n C dX2_shift_25 rfl rfl ?_
      refine g_icmp_ne C (tgt := 33) dX2_shift_26 (by decide) (fun hc_26 => ?_) (fun hc_26 => ?_)
      · refine g_aload_n C dX2_shift_33 rfl rfl ?_
        refine g_get C inX2 0 rfl rfl 2 (by decide) f18 rfl dX2_shift_34 ?_
        refine g_iload_n C dX2_shift_37 rfl rfl ?_
        refine g_aload_n C dX2_shift_38 rfl rfl ?_
        refine g_iload_n C dX2_shift_39 rfl rfl ?_
        refine g_aload_n C dX2_shift_40 rfl rfl ?_
        refine g_get C inX2 0 rfl rfl 2 (by decide) f18 rfl dX2_shift_41 ?_
        refine g_iload_n C dX2_shift_44 rfl rfl ?_
        refine g_iald C 3 rfl (j) rfl (by omega) (Nat.le_of_ble_eq_true rfl) dX2_shift_45 ?_
        refine g_calliVF C 0 rfl rfl (c_X2_landing E h a σ _ _) cf_X2_landing gX2_shift_X2_landing rfl (fitD (Nat.le_of_ble_eq_true rfl) (Nat.le_of_ble_eq_true rfl)) rfl rfl (Nat.le_of_ble_eq_true rfl) dX2_shift_46 (fun r1 w1 hp => ?_)
        obtain ⟨rfl, rfl⟩ := hp
        refine g_iast C (ws' := (skyW E h a (pHt σ (j) (land (sSt σ) (sHt σ) s (sHt σ (j)))))) 3 rfl (j) rfl (by omega) (Nat.le_of_ble_eq_true rfl) dX2_shift_49 rfl ?_
        refine g_aload_n C dX2_shift_50 rfl rfl ?_
        refine g_get C inX2 0 rfl rfl 1 (by decide) f15 rfl dX2_shift_51 ?_
        refine g_iload_n C dX2_shift_54 rfl rfl ?_
        refine g_iload_n C dX2_shift_55 rfl rfl ?_
        refine g_iast C (ws' := (skyW E h a (pSt (pHt σ (j) (land (sSt σ) (sHt σ) s (sHt σ (j)))) (j) s))) 2 rfl (j) rfl (by omega) (Nat.le_of_ble_eq_true rfl) dX2_shift_56 rfl ?_
        refine g_aload_n C dX2_shift_57 rfl rfl ?_
        refine g_get C inX2 0 rfl rfl 2 (by decide) f18 rfl dX2_shift_58 ?_
        refine g_iload_n C dX2_shift_61 rfl rfl ?_
        refine g_iald C 3 rfl (j) rfl (by omega) (Nat.le_of_ble_eq_true rfl) dX2_shift_62 ?_
        refine g_iret C R0 dX2_shift_63 ?_
        refine pS_mk (σ := (pSt (pHt σ (j) (land (sSt σ) (sHt σ) s (sHt σ (j)))) (j) s)) ?_ rfl
        rw [shiftR, if_pos ⟨hb_2, hb_9⟩, hcl, if_neg hc_26, show (sHt (pSt (pHt σ (j) (land (sSt σ) (sHt σ) s (sHt σ (j)))) (j) s) (j)) = land (sSt σ) (sHt σ) s (sHt σ j) from pk_us] <;> rfl
      · refine g_sipush C (v := (-10005)) dX2_shift_29 rfl ?_
        refine g_iret C R0 dX2_shift_32 ?_
        refine pS_mk (σ := σ) ?_ rfl
        rw [shiftR, if_pos ⟨hb_2, hb_9⟩, hcl, if_pos hc_26]
    · refine g_if_ne_f C dX2_shift_12 19 (by decide) (by decide) ?_
      refine g_sipush C (v := (-10001)) dX2_shift_15 rfl ?_
      refine g_iret C R0 dX2_shift_18 ?_
      refine pS_mk (σ := σ) ?_ rfl
      rw [shiftR, if_neg (fun z => hb_9 z.2)]
  · refine g_if_eq_t C dX2_shift_5 (tgt := 15) (by decide) (by decide) ?_
    refine g_sipush C (v := (-10001)) dX2_shift_15 rfl ?_
    refine g_iret C R0 dX2_shift_18 ?_
    refine pS_mk (σ := σ) ?_ rfl
    rw [shiftR, if_neg (fun z => hb_2 z.1)]
set_option maxHeartbeats 4000000 in
set_option maxRecDepth 100000 in
theorem c_X2_launch (E : Ev) (h : Nat) (a : Nat → Nat) (σ : Sky) (s n : Int32) : MI E yX2_launch wsX2_launch (rmD 2) (skyW E h a σ) [.ref h, .int s, .int n] (pS E h a (launchR σ s n)) := by
  have hi_X3_isString : Cond.static yX3_isString ∈ wsX2_launch := by decide +kernel
  have hn_X3 : Cond.initialized yX3_isNumber.cls ∈ wsX2_launch := by decide +kernel
  have hi_X3_isNumber : Cond.static yX3_isNumber ∈ wsX2_launch := by decide +kernel
  have inX2 : ∀ w ∈ u_ws RX2 TX2 12, w ∈ wsX2_launch := by decide +kernel
  have f15 : Cond.fieldLink RX2 15 (TX2 1).1 (TX2 1).2.1 (TX2 1).2.2.1 ∈ wsX2_launch := by decide +kernel
  have f18 : Cond.fieldLink RX2 18 (TX2 2).1 (TX2 2).2.1 (TX2 2).2.2.1 ∈ wsX2_launch := by decide +kernel
  have f9 : Cond.fieldLink RX2 9 (TX2 0).1 (TX2 0).2.1 (TX2 0).2.2.1 ∈ wsX2_launch := by decide +kernel
  have f21 : Cond.fieldLink RX2 21 (TX2 3).1 (TX2 3).2.1 (TX2 3).2.2.1 ∈ wsX2_launch := by decide +kernel
  have f25 : Cond.fieldLink RX2 25 (TX2 4).1 (TX2 4).2.1 (TX2 4).2.2.1 ∈ wsX2_launch := by decide +kernel
  have f28 : Cond.fieldLink RX2 28 (TX2 5).1 (TX2 5).2.1 (TX2 5).2.2.1 ∈ wsX2_launch := by decide +kernel
  refine MI.of (cc := cX2_launch) (nL := 4) (ty := .int) (own := RX2) [some (.ref h), some (.int s), some (.int n), none] (by decide +kernel) rfl rfl (Nat.le_of_ble_eq_true rfl) rfl rfl ?_
  intro x C R0
  refine g_iload_n C dX2_launch_0 rfl rfl ?_
  refine g_calliTF C (c_X3_isString E _ _) cf_X3_isString ggX2_launch_X3_isString (List.mem_of_getElem? (i := 9) rfl) hi_X3_isString hn_X3 (fitD (Nat.le_of_ble_eq_true rfl) (Nat.le_of_ble_eq_true rfl)) rfl rfl (Nat.le_of_ble_eq_true rfl) dX2_launch_1 (fun r1 w1 hp => ?_)
  obtain ⟨⟨hb_1, rfl⟩ | ⟨hb_1, rfl⟩, rfl⟩ := hp
  · refine g_if_ne_t C dX2_launch_4 (tgt := 11) (by decide) (by decide) ?_
    refine g_iload_n C dX2_launch_11 rfl rfl ?_
    refine g_calliTF C (c_X3_isNumber E _ _) cf_X3_isNumber ggX2_launch_X3_isNumber (List.mem_of_getElem? (i := 10) rfl) hi_X3_isNumber hn_X3 (fitD (Nat.le_of_ble_eq_true rfl) (Nat.le_of_ble_eq_true rfl)) rfl rfl (Nat.le_of_ble_eq_true rfl) dX2_launch_12 (fun r1 w1 hp => ?_)
    obtain ⟨⟨hb_12, rfl⟩ | ⟨hb_12, rfl⟩, rfl⟩ := hp
    · refine g_if_ne_t C dX2_launch_15 (tgt := 22) (by decide) (by decide) ?_
      refine g_iconst C (v := 0) dX2_launch_22 rfl ?_
      refine g_istore_n C dX2_launch_23 rfl (Nat.le_of_ble_eq_true rfl) rfl ?_
      have lp : ∀ (n9 i : Nat), 12 - i < n9 → i ≤ 12 → ff (fun j => sSt σ j == -1) (12 - i) i = freeK (sSt σ) → G E x (skyW E h a σ) [some (.ref h), some (.int s), some (.int n), some (.int (nI i))] 24 [] := by
        intro n9
        induction n9 with
        | zero => intro i h1; omega
        | succ n9 ih =>
          intro i hn hi hv
          refine g_iload_n C dX2_launch_24 rfl rfl ?_
          refine g_bipush C (v := 12) dX2_launch_25 rfl ?_
          refine g_icmp_ge C (tgt := 95) dX2_launch_27 (by decide) (fun hc_27 => ?_) (fun hc_27 => ?_)
          · have hn_27 : (12) ≤ (i) := (nI_leI (a := (12)) (b := (i)) (by omega) (by omega)).mp hc_27
            refine g_sipush C (v := (-10003)) dX2_launch_95 rfl ?_
            refine g_iret C R0 dX2_launch_98 ?_
            have e12 : i = 12 := by omega
            subst e12
            have hf : freeK (sSt σ) = 12 := hv.symm
            refine pS_mk (σ := σ) ?_ rfl
            rw [launchR, if_pos hb_1, if_pos hb_12, if_neg (by omega)]
          · have hn_27 : ¬ (12) ≤ (i) := fun z => hc_27 ((nI_leI (a := (12)) (b := (i)) (by omega) (by omega)).mpr z)
            refine g_aload_n C dX2_launch_30 rfl rfl ?_
            refine g_get C inX2 0 rfl rfl 1 (by decide) f15 rfl dX2_launch_31 ?_
            refine g_iload_n C dX2_launch_34 rfl rfl ?_
            refine g_iald C 2 rfl (i) rfl (by omega) (Nat.le_of_ble_eq_true rfl) dX2_launch_35 ?_
            refine g_iconst C (v := (-1)) dX2_launch_36 rfl ?_
            refine g_icmp_ne C (tgt := 89) dX2_launch_37 (by decide) (fun hc_37 => ?_) (fun hc_37 => ?_)
            · refine g_iinc C (v := (nI (i + 1))) dX2_launch_89 rfl rfl (nI_add (i) 1) ?_
              refine g_goto C (tgt := 24) dX2_launch_92 (by decide) ?_
              refine ih (i + 1) (by omega) (by omega) ?_
              rw [show 12 - i = (12 - (i + 1)) + 1 from by omega, ff, if_neg (by simp [hc_37])] at hv
              exact hv
            · refine g_aload_n C dX2_launch_40 rfl rfl ?_
              refine g_get C inX2 0 rfl rfl 2 (by decide) f18 rfl dX2_launch_41 ?_
              refine g_iload_n C dX2_launch_44 rfl rfl ?_
              refine g_aload_n C dX2_launch_45 rfl rfl ?_
              refine g_iload_n C dX2_launch_46 rfl rfl ?_
              refine g_iconst C (v := 0) dX2_launch_47 rfl ?_
              refine g_calliVF C 0 rfl rfl (c_X2_landing E h a σ _ _) cf_X2_landing gX2_launch_X2_landing rfl (fitD (Nat.le_of_ble_eq_true rfl) (Nat.le_of_ble_eq_true rfl)) rfl rfl (Nat.le_of_ble_eq_true rfl) dX2_launch_48 (fun r1 w1 hp => ?_)
              obtain ⟨rfl, rfl⟩ := hp
              refine g_iast C (ws' := (skyW E h a (pHt σ (i) (land (sSt σ) (sHt σ) s 0)))) 3 rfl (i) rfl (by omega) (Nat.le_of_ble_eq_true rfl) dX2_launch_51 rfl ?_
              refine g_aload_n C dX2_launch_52 rfl rfl ?_
              refine g_get C inX2 0 rfl rfl 1 (by decide) f15 rfl dX2_launch_53 ?_
              refine g_iload_n C dX2_launch_56 rfl rfl ?_
              refine g_iload_n C dX2_launch_57 rfl rfl ?_
              refine g_iast C (ws' := (skyW E h a (pSt (pHt σ (i) (land (sSt σ) (sHt σ) s 0)) (i) s))) 2 rfl (i) rfl (by omega) (Nat.le_of_ble_eq_true rfl) dX2_launch_58 rfl ?_
              refine g_aload_n C dX2_launch_59 rfl rfl ?_
              refine g_get C inX2 0 rfl rfl 0 (by decide) f9 rfl dX2_launch_60 ?_
              refine g_iload_n C dX2_launch_63 rfl rfl ?_
              refine g_iload_n C dX2_launch_64 rfl rfl ?_
              refine g_iast C (ws' := (skyW E h a (pNu (pSt (pHt σ (i) (land (sSt σ) (sHt σ) s 0)) (i) s) (i) n))) 1 rfl (i) rfl (by omega) (Nat.le_of_ble_eq_true rfl) dX2_launch_65 rfl ?_
              refine g_aload_n C dX2_launch_66 rfl rfl ?_
              refine g_get C inX2 0 rfl rfl 3 (by decide) f21 rfl dX2_launch_67 ?_
              refine g_iload_n C dX2_launch_70 rfl rfl ?_
              refine g_iconst C (v := 0) dX2_launch_71 rfl ?_
              refine g_zast C (ws' := (skyW E h a (pFr (pNu (pSt (pHt σ (i) (land (sSt σ) (sHt σ) s 0)) (i) s) (i) n) (i) 0))) 4 rfl (i) rfl (by omega) (Nat.le_of_ble_eq_true rfl) dX2_launch_72 rfl ?_
              refine g_aload_n C dX2_launch_73 rfl rfl ?_
              refine g_get C inX2 0 rfl rfl 4 (by decide) f25 rfl dX2_launch_74 ?_
              refine g_iload_n C dX2_launch_77 rfl rfl ?_
              refine g_iconst C (v := 0) dX2_launch_78 rfl ?_
              refine g_iast C (ws' := (skyW E h a (pRe (pFr (pNu (pSt (pHt σ (i) (land (sSt σ) (sHt σ) s 0)) (i) s) (i) n) (i) 0) (i) 0))) 5 rfl (i) rfl (by omega) (Nat.le_of_ble_eq_true rfl) dX2_launch_79 rfl ?_
              refine g_aload_n C dX2_launch_80 rfl rfl ?_
              refine g_get C inX2 0 rfl rfl 5 (by decide) f28 rfl dX2_launch_81 ?_
              refine g_iload_n C dX2_launch_84 rfl rfl ?_
              refine g_iconst C (v := 0) dX2_launch_85 rfl ?_
              refine g_iast C (ws' := (skyW E h a (pCu (pRe (pFr (pNu (pSt (pHt σ (i) (land (sSt σ) (sHt σ) s 0)) (i) s) (i) n) (i) 0) (i) 0) (i) 0))) 6 rfl (i) rfl (by omega) (Nat.le_of_ble_eq_true rfl) dX2_launch_86 rfl ?_
              refine g_iload_n C dX2_launch_87 rfl rfl ?_
              refine g_iret C R0 dX2_launch_88 ?_
              have hf : freeK (sSt σ) = i := by rw [← hv, show 12 - i = (11 - i) + 1 from by omega, ff, if_pos (by simp [hc_37])]
              refine pS_mk (σ := (pCu (pRe (pFr (pNu (pSt (pHt σ (i) (land (sSt σ) (sHt σ) s 0)) (i) s) (i) n) (i) 0) (i) 0) (i) 0)) ?_ rfl
              rw [launchR, if_pos hb_1, if_pos hb_12, hf, if_pos (by omega)] <;> rfl
      exact lp 13 0 (by omega) (by omega) rfl
    · refine g_if_ne_f C dX2_launch_15 22 (by decide) (by decide) ?_
      refine g_sipush C (v := (-10002)) dX2_launch_18 rfl ?_
      refine g_iret C R0 dX2_launch_21 ?_
      refine pS_mk (σ := σ) ?_ rfl
      rw [launchR, if_pos hb_1, if_neg hb_12]
  · refine g_if_ne_f C dX2_launch_4 11 (by decide) (by decide) ?_
    refine g_sipush C (v := (-10001)) dX2_launch_7 rfl ?_
    refine g_iret C R0 dX2_launch_10 ?_
    refine pS_mk (σ := σ) ?_ rfl
    rw [launchR, if_neg hb_1]
set_option maxHeartbeats 4000000 in
set_option maxRecDepth 100000 in
theorem c_X2_endFreshness (E : Ev) (h : Nat) (a : Nat → Nat) (σ : Sky) : MV E yX2_endFreshness wsX2_endFreshness (rmD 0) (skyW E h a σ) [.ref h] (fun w => w = skyW E h a (endF σ)) := by
  have inX2 : ∀ w ∈ u_ws RX2 TX2 12, w ∈ wsX2_endFreshness := by decide +kernel
  have f21 : Cond.fieldLink RX2 21 (TX2 3).1 (TX2 3).2.1 (TX2 3).2.2.1 ∈ wsX2_endFreshness := by decide +kernel
  refine MV.of (cc := cX2_endFreshness) (nL := 2) (own := RX2) [some (.ref h), none] (by decide +kernel) rfl rfl (Nat.le_of_ble_eq_true rfl) rfl rfl ?_
  intro x C R0
  have lp : ∀ (n i : Nat), 12 - i < n → i ≤ 12 → G E x (skyW E h a (endN σ i)) [some (.ref h), some (.int (nI i))] 2 [] := by
    intro n
    induction n with
    | zero => intro i h1; omega
    | succ n ih =>
      intro i hn hi
      refine g_iload_n C dX2_endFreshness_2 rfl rfl ?_
      refine g_bipush C (v := 12) dX2_endFreshness_3 rfl ?_
      refine g_icmp_ge C (tgt := 21) dX2_endFreshness_5 (by decide) (fun hc_5 => ?_) (fun hc_5 => ?_)
      · have hn_5 : (12) ≤ (i) := (nI_leI (a := (12)) (b := (i)) (by omega) (by omega)).mp hc_5
        refine g_vret C R0 dX2_endFreshness_21 ?_
        have e12 : i = 12 := by omega
        subst e12
        exact rfl
      · have hn_5 : ¬ (12) ≤ (i) := fun z => hc_5 ((nI_leI (a := (12)) (b := (i)) (by omega) (by omega)).mpr z)
        refine g_aload_n C dX2_endFreshness_8 rfl rfl ?_
        refine g_get C inX2 0 rfl rfl 3 (by decide) f21 rfl dX2_endFreshness_9 ?_
        refine g_iload_n C dX2_endFreshness_12 rfl rfl ?_
        refine g_iconst C (v := 0) dX2_endFreshness_13 rfl ?_
        refine g_zast C (ws' := (skyW E h a (pFr (endN σ i) (i) 0))) 4 rfl (i) rfl (by omega) (Nat.le_of_ble_eq_true rfl) dX2_endFreshness_14 rfl ?_
        refine g_iinc C (v := (nI (i + 1))) dX2_endFreshness_15 rfl rfl (nI_add (i) 1) ?_
        refine g_goto C (tgt := 2) dX2_endFreshness_18 (by decide) ?_
        exact ih (i + 1) (by omega) (by omega)
  refine g_iconst C (v := 0) dX2_endFreshness_0 rfl ?_
  refine g_istore_n C dX2_endFreshness_1 rfl (Nat.le_of_ble_eq_true rfl) rfl ?_
  exact lp 13 0 (by omega) (by omega)
set_option maxHeartbeats 4000000 in
set_option maxRecDepth 100000 in
theorem c_X2_sinkString (E : Ev) (h : Nat) (a : Nat → Nat) (σ : Sky) (s : Int32) : MV E yX2_sinkString wsX2_sinkString (rmD 1) (skyW E h a σ) [.ref h, .int s] (fun w => w = skyW E h a (sinkS σ s)) := by
  have inX2 : ∀ w ∈ u_ws RX2 TX2 12, w ∈ wsX2_sinkString := by decide +kernel
  have f18 : Cond.fieldLink RX2 18 (TX2 2).1 (TX2 2).2.1 (TX2 2).2.2.1 ∈ wsX2_sinkString := by decide +kernel
  have f21 : Cond.fieldLink RX2 21 (TX2 3).1 (TX2 3).2.1 (TX2 3).2.2.1 ∈ wsX2_sinkString := by decide +kernel
  have f47 : Cond.fieldLink RX2 47 (TX2 11).1 (TX2 11).2.1 (TX2 11).2.2.1 ∈ wsX2_sinkString := by decide +kernel
  have m1_max : Cond.methodLink RX2 116 Lib.Math.max.name ∈ wsX2_sinkString := by decide +kernel
  have m2_max : Cond.static Lib.Math.max.name ∈ wsX2_sinkString := by decide +kernel
  have m3_max : Cond.initialized "java/lang/Math" ∈ wsX2_sinkString := by decide +kernel
  have m4_max : Cond.code Lib.Math.max.name Lib.Math.max.code 2 (some .int) ∈ wsX2_sinkString := by decide +kernel
  refine MV.of (cc := cX2_sinkString) (nL := 6) (own := RX2) [some (.ref h), some (.int s), none, none, none, none] (by decide +kernel) rfl rfl (Nat.le_of_ble_eq_true rfl) rfl rfl ?_
  intro x C R0
  have lp : ∀ (n i : Nat) (fl : Int32) (pa : Int32) (τ : Sky), 12 - i < n → i ≤ 12 → sinkF s (12 - i) fl pa τ = sinkS σ s → G E x (skyW E h a τ) [some (.ref h), some (.int s), some (.int fl), some (.int pa), some (.int (nI i)), none] 7 [] := by
    intro n
    induction n with
    | zero => intro i fl pa τ h1; omega
    | succ n ih =>
      intro i fl pa τ hn hi hv
      refine g_iload C dX2_sinkString_7 rfl ?_
      refine g_bipush C (v := 12) dX2_sinkString_9 rfl ?_
      refine g_icmp_ge C (tgt := 83) dX2_sinkString_11 (by decide) (fun hc_11 => ?_) (fun hc_11 => ?_)
      · have hn_11 : (12) ≤ (i) := (nI_leI (a := (12)) (b := (i)) (by omega) (by omega)).mp hc_11
        refine g_vret C R0 dX2_sinkString_83 ?_
        rw [show 12 - i = 0 from by omega] at hv
        exact congrArg (skyW E h a) hv
      · have hn_11 : ¬ (12) ≤ (i) := fun z => hc_11 ((nI_leI (a := (12)) (b := (i)) (by omega) (by omega)).mpr z)
        refine g_aload_n C dX2_sinkString_14 rfl rfl ?_
        refine g_iload_n C dX2_sinkString_15 rfl rfl ?_
        refine g_iload_n C dX2_sinkString_16 rfl rfl ?_
        refine g_calliVF C 0 rfl rfl (c_X2_lowestAbove E h a τ _ _) cf_X2_lowestAbove gX2_sinkString_X2_lowestAbove rfl (fitD (Nat.le_of_ble_eq_true rfl) (Nat.le_of_ble_eq_true rfl)) rfl rfl (Nat.le_of_ble_eq_true rfl) dX2_sinkString_17 (fun r1 w1 hp => ?_)
        obtain ⟨rfl, rfl⟩ := hp
        refine g_istore C dX2_sinkString_20 (Nat.le_of_ble_eq_true rfl) rfl ?_
        refine g_aload_n C dX2_sinkString_22 rfl rfl ?_
        refine g_iload C dX2_sinkString_23 rfl ?_
        refine g_calliVF C 0 rfl rfl (c_X2_isKite E h a τ _) cf_X2_isKite gX2_sinkString_X2_isKite rfl (fitD (Nat.le_of_ble_eq_true rfl) (Nat.le_of_ble_eq_true rfl)) rfl rfl (Nat.le_of_ble_eq_true rfl) dX2_sinkString_25 (fun r1 w1 hp => ?_)
        obtain ⟨⟨hb_25, rfl⟩ | ⟨hb_25, rfl⟩, rfl⟩ := hp
        · obtain ⟨j, hj, ej⟩ := i32_of (n := 12) hb_25.1 hb_25.2.1 (by decide)
          have hcl : (nI j).toNatClampNeg = j := nI_clamp (by omega)
          refine g_if_ne_t C dX2_sinkString_28 (tgt := 32) (by decide) (by decide) ?_
          refine g_aload_n C dX2_sinkString_32 rfl rfl ?_
          refine g_get C inX2 0 rfl rfl 2 (by decide) f18 rfl dX2_sinkString_33 ?_
          refine g_iload C dX2_sinkString_36 rfl ?_
          refine g_iald C 3 rfl (j) ej (by omega) (Nat.le_of_ble_eq_true rfl) dX2_sinkString_38 ?_
          refine g_istore_n C dX2_sinkString_39 rfl (Nat.le_of_ble_eq_true rfl) rfl ?_
          refine g_aload_n C dX2_sinkString_40 rfl rfl ?_
          refine g_get C inX2 0 rfl rfl 3 (by decide) f21 rfl dX2_sinkString_41 ?_
          refine g_iload C dX2_sinkString_44 rfl ?_
          refine g_zald C 4 rfl (j) ej (by omega) (Nat.le_of_ble_eq_true rfl) dX2_sinkString_46 ?_
          refine g_if_ne C (tgt := 67) dX2_sinkString_47 (by decide) (fun hc_47 => ?_) (fun hc_47 => ?_)
          · refine g_aload_n C dX2_sinkString_67 rfl rfl ?_
            refine g_get C inX2 0 rfl rfl 2 (by decide) f18 rfl dX2_sinkString_68 ?_
            refine g_iload C dX2_sinkString_71 rfl ?_
            refine g_iald C 3 rfl (j) ej (by omega) (Nat.le_of_ble_eq_true rfl) dX2_sinkString_73 ?_
            refine g_iconst C (v := 1) dX2_sinkString_74 rfl ?_
            refine g_iadd C dX2_sinkString_75 ?_
            refine g_istore_n C dX2_sinkString_76 rfl (Nat.le_of_ble_eq_true rfl) rfl ?_
            refine g_iinc C (v := (nI (i + 1))) dX2_sinkString_77 rfl rfl (nI_add (i) 1) ?_
            refine g_goto C (tgt := 7) dX2_sinkString_80 (by decide) ?_
            refine g_drop 5 (ih (i + 1) _ _ _ (by omega) (by omega) ?_)
            rw [show 12 - i = (12 - (i + 1)) + 1 from by omega, sinkF, if_pos hb_25, ej, hcl, sinkO, if_neg hc_47] at hv
            exact hv
          · refine g_aload_n C dX2_sinkString_50 rfl rfl ?_
            refine g_get C inX2 0 rfl rfl 2 (by decide) f18 rfl dX2_sinkString_51 ?_
            refine g_iload C dX2_sinkString_54 rfl ?_
            refine g_iload_n C dX2_sinkString_56 rfl rfl ?_
            refine g_iload_n C dX2_sinkString_57 rfl rfl ?_
            refine g_aload_n C dX2_sinkString_58 rfl rfl ?_
            refine g_get C inX2 0 rfl rfl 11 (by decide) f47 rfl dX2_sinkString_59 ?_
            refine g_isub C dX2_sinkString_62 ?_
            refine g_mmax C m1_max m2_max m3_max m4_max ⟨Nat.le_of_ble_eq_true rfl, Nat.le_of_ble_eq_true rfl⟩ dX2_sinkString_63 ?_
            refine g_iast C (ws' := (skyW E h a (pHt τ (j) (if fl < ((sHt τ (j)) - (sSi τ)) then ((sHt τ (j)) - (sSi τ)) else fl)))) 3 rfl (j) ej (by omega) (Nat.le_of_ble_eq_true rfl) dX2_sinkString_66 rfl ?_
            refine g_aload_n C dX2_sinkString_67 rfl rfl ?_
            refine g_get C inX2 0 rfl rfl 2 (by decide) f18 rfl dX2_sinkString_68 ?_
            refine g_iload C dX2_sinkString_71 rfl ?_
            refine g_iald C 3 rfl (j) ej (by omega) (Nat.le_of_ble_eq_true rfl) dX2_sinkString_73 ?_
            refine g_iconst C (v := 1) dX2_sinkString_74 rfl ?_
            refine g_iadd C dX2_sinkString_75 ?_
            refine g_istore_n C dX2_sinkString_76 rfl (Nat.le_of_ble_eq_true rfl) rfl ?_
            refine g_iinc C (v := (nI (i + 1))) dX2_sinkString_77 rfl rfl (nI_add (i) 1) ?_
            refine g_goto C (tgt := 7) dX2_sinkString_80 (by decide) ?_
            refine g_drop 5 (ih (i + 1) _ _ _ (by omega) (by omega) ?_)
            rw [show 12 - i = (12 - (i + 1)) + 1 from by omega, sinkF, if_pos hb_25, ej, hcl, sinkO, if_pos hc_47] at hv
            exact hv
        · refine g_if_ne_f C dX2_sinkString_28 32 (by decide) (by decide) ?_
          refine g_vret C R0 dX2_sinkString_31 ?_
          rw [show 12 - i = (11 - i) + 1 from by omega, sinkF, if_neg hb_25] at hv
          exact congrArg (skyW E h a) hv
  refine g_iconst C (v := 0) dX2_sinkString_0 rfl ?_
  refine g_istore_n C dX2_sinkString_1 rfl (Nat.le_of_ble_eq_true rfl) rfl ?_
  refine g_iconst C (v := (-1)) dX2_sinkString_2 rfl ?_
  refine g_istore_n C dX2_sinkString_3 rfl (Nat.le_of_ble_eq_true rfl) rfl ?_
  refine g_iconst C (v := 0) dX2_sinkString_4 rfl ?_
  refine g_istore C dX2_sinkString_5 (Nat.le_of_ble_eq_true rfl) rfl ?_
  exact lp 13 0 _ _ _ (by omega) (by omega) rfl
set_option maxHeartbeats 4000000 in
set_option maxRecDepth 100000 in
theorem c_X2_passBeats (E : Ev) (h : Nat) (a : Nat → Nat) (σ : Sky) (n : Int32) : MI E yX2_passBeats wsX2_passBeats (rmD 2) (skyW E h a σ) [.ref h, .int n] (pS E h a (beatR σ n)) := by
  have inX2 : ∀ w ∈ u_ws RX2 TX2 12, w ∈ wsX2_passBeats := by decide +kernel
  have f37 : Cond.fieldLink RX2 37 (TX2 8).1 (TX2 8).2.1 (TX2 8).2.2.1 ∈ wsX2_passBeats := by decide +kernel
  refine MI.of (cc := cX2_passBeats) (nL := 4) (ty := .int) (own := RX2) [some (.ref h), some (.int n), none, none] (by decide +kernel) rfl rfl (Nat.le_of_ble_eq_true rfl) rfl rfl ?_
  intro x C R0
  refine g_iload_n C dX2_passBeats_0 rfl rfl ?_
  refine g_iconst C (v := 1) dX2_passBeats_1 rfl ?_
  refine g_icmp_lt C (tgt := 11) dX2_passBeats_2 (by decide) (fun hc_2 => ?_) (fun hc_2 => ?_)
  · refine g_sipush C (v := (-10002)) dX2_passBeats_11 rfl ?_
    refine g_iret C R0 dX2_passBeats_14 ?_
    refine pS_mk (σ := σ) ?_ rfl
    rw [beatR, if_neg (fun z => (by first | exact i32_lt.mpr hc_2 z.1 | exact i32_le.mpr hc_2 z.1 | exact i32_lt.mpr hc_2 z.2 | exact i32_le.mpr hc_2 z.2 | exact hc_2 z.1 | exact hc_2 z.2))]
  · refine g_iload_n C dX2_passBeats_5 rfl rfl ?_
    refine g_bipush C (v := 100) dX2_passBeats_6 rfl ?_
    refine g_icmp_le C (tgt := 15) dX2_passBeats_8 (by decide) (fun hc_8 => ?_) (fun hc_8 => ?_)
    · refine g_iconst C (v := 0) dX2_passBeats_15 rfl ?_
      refine g_istore_n C dX2_passBeats_16 rfl (Nat.le_of_ble_eq_true rfl) rfl ?_
      obtain ⟨b, hb, rfl⟩ := i32_of (n := 101) (k := n) (i32_le0 (by first | exact hc_2 | exact i32_le.mp hc_2 | exact i32_lt.mp hc_2)) (i32_lt_101 (by first | exact hc_8 | exact i32_le.mp hc_8 | exact i32_lt.mp hc_8)) (by decide)
      have hb1 : 1 ≤ b := by have := (nI_leI (a := 1) (b := b) (by omega) (by omega)).mp (by first | exact hc_2 | exact i32_le.mp hc_2 | exact i32_lt.mp hc_2); exact this
      have hcl : (nI b).toNatClampNeg = b := nI_clamp (by omega)
      have lp : ∀ (n9 i : Nat), b - i < n9 → i ≤ b → G E x (skyW E h a (beatN σ i)) [some (.ref h), some (.int (nI b)), some (.int (nI i)), none] 17 [] := by
        intro n9
        induction n9 with
        | zero => intro i h1; omega
        | succ n9 ih =>
          intro i hn hi
          refine g_iload_n C dX2_passBeats_17 rfl rfl ?_
          refine g_iload_n C dX2_passBeats_18 rfl rfl ?_
          refine g_icmp_ge C (tgt := 60) dX2_passBeats_19 (by decide) (fun hc_19 => ?_) (fun hc_19 => ?_)
          · have hn_19 : (b) ≤ (i) := (nI_leI (a := (b)) (b := (i)) (by omega) (by omega)).mp hc_19
            refine g_aload_n C dX2_passBeats_60 rfl rfl ?_
            refine g_calliVF C 0 rfl rfl (c_X2_beatNow E h a (beatN σ i)) cf_X2_beatNow gX2_passBeats_X2_beatNow rfl (fitD (Nat.le_of_ble_eq_true rfl) (Nat.le_of_ble_eq_true rfl)) rfl rfl (Nat.le_of_ble_eq_true rfl) dX2_passBeats_61 (fun r1 w1 hp => ?_)
            obtain ⟨rfl, rfl⟩ := hp
            refine g_iret C R0 dX2_passBeats_64 ?_
            have eb : i = b := by omega
            subst eb
            refine pS_mk (σ := beatN σ i) ?_ rfl
            rw [beatR, if_pos ⟨(by first | exact hc_2 | exact i32_le.mp hc_2 | exact i32_lt.mp hc_2), (by first | exact hc_8 | exact i32_le.mp hc_8 | exact i32_lt.mp hc_8)⟩, hcl]
          · have hn_19 : ¬ (b) ≤ (i) := fun z => hc_19 ((nI_leI (a := (b)) (b := (i)) (by omega) (by omega)).mpr z)
            refine g_iconst C (v := 0) dX2_passBeats_22 rfl ?_
            refine g_istore_n C dX2_passBeats_23 rfl (Nat.le_of_ble_eq_true rfl) rfl ?_
            have lp2 : ∀ (m9 u : Nat), 4 - u < m9 → u ≤ 4 → G E x (skyW E h a (sinkN (beatN σ i) u)) [some (.ref h), some (.int (nI b)), some (.int (nI i)), some (.int (nI u))] 24 [] := by
              intro m9
              induction m9 with
              | zero => intro u h1; omega
              | succ m9 ih2 =>
                intro u hm hu
                refine g_iload_n C dX2_passBeats_24 rfl rfl ?_
                refine g_iconst C (v := 4) dX2_passBeats_25 rfl ?_
                refine g_icmp_ge C (tgt := 40) dX2_passBeats_26 (by decide) (fun hc_26 => ?_) (fun hc_26 => ?_)
                · have hn_26 : (4) ≤ (u) := (nI_leI (a := (4)) (b := (u)) (by omega) (by omega)).mp hc_26
                  have e4 : u = 4 := by omega
                  subst e4
                  refine g_aload_n C dX2_passBeats_40 rfl rfl ?_
                  refine g_callvVF C 0 rfl rfl (c_X2_endFreshness E h a (sinkN (beatN σ i) 4)) cf_X2_endFreshness gX2_passBeats_X2_endFreshness rfl (fitD (Nat.le_of_ble_eq_true rfl) (Nat.le_of_ble_eq_true rfl)) rfl rfl (Nat.le_of_ble_eq_true rfl) dX2_passBeats_41 (fun w1 hp => ?_)
                  obtain rfl := hp
                  obtain ⟨τ, hτ⟩ : ∃ z9, z9 = (endF (sinkN (beatN σ i) 4)) := ⟨_, rfl⟩
                  rw [← hτ]
                  refine g_aload_n C dX2_passBeats_44 rfl rfl ?_
                  refine g_dup C dX2_passBeats_45 rfl ?_
                  refine g_get C inX2 0 rfl rfl 8 (by decide) f37 rfl dX2_passBeats_46 ?_
                  refine g_iconst C (v := 1) dX2_passBeats_49 rfl ?_
                  refine g_iadd C dX2_passBeats_50 ?_
                  refine g_put C (ws' := (skyW E h a (uBs τ ((sBs τ) + 1)))) inX2 (ty := .int) tyX2 tyX2_ok nmX2 0 rfl rfl 8 (by decide) f37 rfl (by decide +kernel) rfl rfl (Nat.le_of_ble_eq_true rfl) dX2_passBeats_51 rfl ?_
                  refine g_iinc C (v := (nI (i + 1))) dX2_passBeats_54 rfl rfl (nI_add (i) 1) ?_
                  refine g_goto C (tgt := 17) dX2_passBeats_57 (by decide) ?_
                  rw [show uBs τ (sBs τ + 1) = beatN σ (i + 1) from by rw [hτ, beatN, beat1]]
                  exact g_drop 3 (ih (i + 1) (by omega) (by omega))
                · have hn_26 : ¬ (4) ≤ (u) := fun z => hc_26 ((nI_leI (a := (4)) (b := (u)) (by omega) (by omega)).mpr z)
                  refine g_aload_n C dX2_passBeats_29 rfl rfl ?_
                  refine g_iload_n C dX2_passBeats_30 rfl rfl ?_
                  refine g_callvVF C 0 rfl rfl (c_X2_sinkString E h a (sinkN (beatN σ i) u) _) cf_X2_sinkString gX2_passBeats_X2_sinkString rfl (fitD (Nat.le_of_ble_eq_true rfl) (Nat.le_of_ble_eq_true rfl)) rfl rfl (Nat.le_of_ble_eq_true rfl) dX2_passBeats_31 (fun w1 hp => ?_)
                  obtain rfl := hp
                  refine g_iinc C (v := (nI (u + 1))) dX2_passBeats_34 rfl rfl (nI_add (u) 1) ?_
                  refine g_goto C (tgt := 24) dX2_passBeats_37 (by decide) ?_
                  exact ih2 (u + 1) (by omega) (by omega)
            exact lp2 5 0 (by omega) (by omega)
      exact lp (b + 1) 0 (by omega) (by omega)
    · refine g_sipush C (v := (-10002)) dX2_passBeats_11 rfl ?_
      refine g_iret C R0 dX2_passBeats_14 ?_
      refine pS_mk (σ := σ) ?_ rfl
      rw [beatR, if_neg (fun z => (by first | exact i32_lt.mpr hc_8 z.1 | exact i32_le.mpr hc_8 z.1 | exact i32_lt.mpr hc_8 z.2 | exact i32_le.mpr hc_8 z.2 | exact hc_8 z.1 | exact hc_8 z.2))]
