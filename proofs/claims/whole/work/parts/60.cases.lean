/-! THE LAW'S CASES: both are called alike, and answer alike -/
theorem n_sldY {E : Ev} {x : Cx} {cc : ByteArray} {own : String} {Ts : List Cond} {rm : Room} {ws : va_W} {lv : List (Option Value)} {pc : Nat} {st : List Value} {kc ks : Nat} (C : Ok E x cc own Ts rm) {b L : Nat} {xs : Nat → Int32} (X9 : scrX x b L xs) {i y : Int32} (hin : vp_in i L) (hy : xs i.toNatClampNeg = y) (d : decode cc pc = .ok (.iaload, 1)) (k : GN E x kc ks ws lv (pc + 1) (.int y :: st)) : GN E x kc ks ws lv pc (.int i :: .ref b :: st) := by
  subst hy
  exact n_sld C X9 hin d k
theorem nI_bv (x : Int32) : nI x.toBitVec.toNat = x := by
  apply Int32.toBitVec_inj.mp
  show BitVec.ofNat 32 x.toBitVec.toNat = x.toBitVec
  simp
theorem modT_at {E : Ev} {m : Nat} {b : Nat → Nat} {μ : MD} : modT E m b μ (mSp μ).toBitVec.toNat (mNm μ) (mCm μ) (mFi μ) (mSe μ) = modW E m b μ := by
  rw [modT_W]
  have e : xT μ (mSp μ).toBitVec.toNat (mNm μ) (mCm μ) (mFi μ) (mSe μ) = μ := by
    unfold xT
    rw [nI_bv]
    rfl
  rw [e]
set_option maxHeartbeats 1000000 in
set_option maxRecDepth 100000 in
theorem law_c0 {E : Ev} {x : Cx} {kc ks : Nat} {b9 L : Nat} {xs : Nat → Int32} {q1 q2 : Nat} {h : Nat → Nat} {a : Nat → Nat → Nat} {o r s : Nat} {sa b : Nat → Nat} (C : Ok E x cL_law RL wsL_law room_1) (X9 : scrX x b9 L xs) (hc : kc ≤ 600000) (hs : ks ≤ 7302250) {i : Nat} {y1 y2 : Int32} (i1 : vp_in (nI i + 1) L) (i2 : vp_in (nI i + 2) L) (hy1 : xs (nI i + 1).toNatClampNeg = y1) (hy2 : xs (nI i + 2).toNatClampNeg = y2) {κ : KSt} {μ : MD} (hI : Inv κ μ) (k : ∀ κ2 μ2, Inv κ2 μ2 → GN E x kc ks (kW E q1 h a o r s sa κ2 ++ modW E q2 b μ2) [some (.ref b9), some (.ref q1), some (.ref q2), some (.int (nI i))] 782 []) : GN E x kc ks (kW E q1 h a o r s sa κ ++ modW E q2 b μ) [some (.ref b9), some (.ref q1), some (.ref q2), some (.int (nI i))] 152 [] := by
  have hk : okH κ := hI.2.1.1
  have hz : kjz κ ≤ 4 := hI.2.1.1.2
  have hHL : mHL μ = nI (kjz κ) := hI.2.1.2.1
  have hf : okFr (kjS κ) := inv_fr hI
  have hH := hI.2.2.1.1
  have hN := hI.2.2.1.2
  have hn := hI.2.2.2.2.1.1
  have hTL := hI.2.2.2.2.1.2.1
  obtain ⟨eq9, inv9⟩ := a_fly hI y1 y2
  refine n_aload_n C dL_law_152 rfl rfl ?_
  refine n_aload_n C dL_law_153 rfl rfl ?_
  refine n_iload_n C dL_law_154 rfl rfl ?_
  refine n_iconst C (v := 1) dL_law_155 rfl ?_
  refine n_iadd C dL_law_156 ?_
  refine n_sldY C X9 i1 hy1 dL_law_157 ?_
  refine n_aload_n C dL_law_158 rfl rfl ?_
  refine n_iload_n C dL_law_159 rfl rfl ?_
  refine n_iconst C (v := 2) dL_law_160 rfl ?_
  refine n_iadd C dL_law_161 ?_
  refine n_sldY C X9 i2 hy2 dL_law_162 ?_
  refine n_calliR C (modW E q2 b μ) kW_hd rfl (c_X3_fly E q1 h a o r s sa κ hk hf y1 y2) (List.Perm.refl _) (fun w => w ++ modW E q2 b μ) (fun w => List.Perm.refl _) cf_X3_fly gL_law_X3_fly rfl ⟨⟨rfl, rfl⟩, Nat.le_of_ble_eq_true rfl, Nat.le_of_ble_eq_true rfl⟩ ⟨hc, hs⟩ rfl rfl (Nat.le_of_ble_eq_true rfl) dL_law_163 (fun r1 w1 hp => ?_)
  obtain ⟨rfl, rfl⟩ := hp
  refine n_aload_n C dL_law_166 rfl rfl ?_
  refine n_aload_n C dL_law_167 rfl rfl ?_
  refine n_iload_n C dL_law_168 rfl rfl ?_
  refine n_iconst C (v := 1) dL_law_169 rfl ?_
  refine n_iadd C dL_law_170 ?_
  refine n_sldY C X9 i1 hy1 dL_law_171 ?_
  refine n_aload_n C dL_law_172 rfl rfl ?_
  refine n_iload_n C dL_law_173 rfl rfl ?_
  refine n_iconst C (v := 2) dL_law_174 rfl ?_
  refine n_iadd C dL_law_175 ?_
  refine n_sldY C X9 i2 hy2 dL_law_176 ?_
  refine n_calliR C (kW E q1 h a o r s sa (kAct κ (launchR (kjS κ) y1 y2)).2) modW_hd rfl (c_X4_fly E q2 b μ (kjz κ) hz hHL y1 y2 (fun _ _ _ _ => launch_ok hI.1)) List.perm_append_comm (fun w => kW E q1 h a o r s sa (kAct κ (launchR (kjS κ) y1 y2)).2 ++ w) (fun w => List.perm_append_comm) cf_X4_fly gL_law_X4_fly rfl ⟨⟨rfl, rfl⟩, Nat.le_of_ble_eq_true rfl, Nat.le_of_ble_eq_true rfl⟩ ⟨hc, hs⟩ rfl rfl (Nat.le_of_ble_eq_true rfl) dL_law_177 (fun r2 w2 hp => ?_)
  obtain ⟨rfl, rfl⟩ := hp
  refine n_icmp_eq_t C (tgt := 782) dL_law_180 (by decide) (eq9) ?_
  exact k _ _ (inv9)
set_option maxHeartbeats 1000000 in
set_option maxRecDepth 100000 in
theorem law_c1 {E : Ev} {x : Cx} {kc ks : Nat} {b9 L : Nat} {xs : Nat → Int32} {q1 q2 : Nat} {h : Nat → Nat} {a : Nat → Nat → Nat} {o r s : Nat} {sa b : Nat → Nat} (C : Ok E x cL_law RL wsL_law room_1) (X9 : scrX x b9 L xs) (hc : kc ≤ 600000) (hs : ks ≤ 7302250) {i : Nat} {y1 y2 : Int32} (i1 : vp_in (nI i + 1) L) (i2 : vp_in (nI i + 2) L) (hy1 : xs (nI i + 1).toNatClampNeg = y1) (hy2 : xs (nI i + 2).toNatClampNeg = y2) {κ : KSt} {μ : MD} (hI : Inv κ μ) (k : ∀ κ2 μ2, Inv κ2 μ2 → GN E x kc ks (kW E q1 h a o r s sa κ2 ++ modW E q2 b μ2) [some (.ref b9), some (.ref q1), some (.ref q2), some (.int (nI i))] 782 []) : GN E x kc ks (kW E q1 h a o r s sa κ ++ modW E q2 b μ) [some (.ref b9), some (.ref q1), some (.ref q2), some (.int (nI i))] 185 [] := by
  have hk : okH κ := hI.2.1.1
  have hz : kjz κ ≤ 4 := hI.2.1.1.2
  have hHL : mHL μ = nI (kjz κ) := hI.2.1.2.1
  have hf : okFr (kjS κ) := inv_fr hI
  have hH := hI.2.2.1.1
  have hN := hI.2.2.1.2
  have hn := hI.2.2.2.2.1.1
  have hTL := hI.2.2.2.2.1.2.1
  obtain ⟨eq9, inv9⟩ := a_take hI y1
  refine n_aload_n C dL_law_185 rfl rfl ?_
  refine n_aload_n C dL_law_186 rfl rfl ?_
  refine n_iload_n C dL_law_187 rfl rfl ?_
  refine n_iconst C (v := 1) dL_law_188 rfl ?_
  refine n_iadd C dL_law_189 ?_
  refine n_sldY C X9 i1 hy1 dL_law_190 ?_
  refine n_calliR C (modW E q2 b μ) kW_hd rfl (c_X3_takeDown E q1 h a o r s sa κ hk hf y1) (List.Perm.refl _) (fun w => w ++ modW E q2 b μ) (fun w => List.Perm.refl _) cf_X3_takeDown gL_law_X3_takeDown rfl ⟨⟨rfl, rfl⟩, Nat.le_of_ble_eq_true rfl, Nat.le_of_ble_eq_true rfl⟩ ⟨hc, hs⟩ rfl rfl (Nat.le_of_ble_eq_true rfl) dL_law_191 (fun r1 w1 hp => ?_)
  obtain ⟨rfl, rfl⟩ := hp
  refine n_aload_n C dL_law_194 rfl rfl ?_
  refine n_aload_n C dL_law_195 rfl rfl ?_
  refine n_iload_n C dL_law_196 rfl rfl ?_
  refine n_iconst C (v := 1) dL_law_197 rfl ?_
  refine n_iadd C dL_law_198 ?_
  refine n_sldY C X9 i1 hy1 dL_law_199 ?_
  refine n_calliR C (kW E q1 h a o r s sa (kAct κ (removeR (kjS κ) y1)).2) modW_hd rfl (c_X4_takeDown E q2 b μ (kjz κ) hz hHL y1 ) List.perm_append_comm (fun w => kW E q1 h a o r s sa (kAct κ (removeR (kjS κ) y1)).2 ++ w) (fun w => List.perm_append_comm) cf_X4_takeDown gL_law_X4_takeDown rfl ⟨⟨rfl, rfl⟩, Nat.le_of_ble_eq_true rfl, Nat.le_of_ble_eq_true rfl⟩ ⟨hc, hs⟩ rfl rfl (Nat.le_of_ble_eq_true rfl) dL_law_200 (fun r2 w2 hp => ?_)
  obtain ⟨rfl, rfl⟩ := hp
  refine n_icmp_eq_t C (tgt := 782) dL_law_203 (by decide) (eq9) ?_
  exact k _ _ (inv9)
set_option maxHeartbeats 1000000 in
set_option maxRecDepth 100000 in
theorem law_c2 {E : Ev} {x : Cx} {kc ks : Nat} {b9 L : Nat} {xs : Nat → Int32} {q1 q2 : Nat} {h : Nat → Nat} {a : Nat → Nat → Nat} {o r s : Nat} {sa b : Nat → Nat} (C : Ok E x cL_law RL wsL_law room_1) (X9 : scrX x b9 L xs) (hc : kc ≤ 600000) (hs : ks ≤ 7302250) {i : Nat} {y1 y2 : Int32} (i1 : vp_in (nI i + 1) L) (i2 : vp_in (nI i + 2) L) (hy1 : xs (nI i + 1).toNatClampNeg = y1) (hy2 : xs (nI i + 2).toNatClampNeg = y2) {κ : KSt} {μ : MD} (hI : Inv κ μ) (k : ∀ κ2 μ2, Inv κ2 μ2 → GN E x kc ks (kW E q1 h a o r s sa κ2 ++ modW E q2 b μ2) [some (.ref b9), some (.ref q1), some (.ref q2), some (.int (nI i))] 782 []) : GN E x kc ks (kW E q1 h a o r s sa κ ++ modW E q2 b μ) [some (.ref b9), some (.ref q1), some (.ref q2), some (.int (nI i))] 208 [] := by
  have hk : okH κ := hI.2.1.1
  have hz : kjz κ ≤ 4 := hI.2.1.1.2
  have hHL : mHL μ = nI (kjz κ) := hI.2.1.2.1
  have hf : okFr (kjS κ) := inv_fr hI
  have hH := hI.2.2.1.1
  have hN := hI.2.2.1.2
  have hn := hI.2.2.2.2.1.1
  have hTL := hI.2.2.2.2.1.2.1
  obtain ⟨eq9, inv9⟩ := a_read hI y1
  refine n_aload_n C dL_law_208 rfl rfl ?_
  refine n_aload_n C dL_law_209 rfl rfl ?_
  refine n_iload_n C dL_law_210 rfl rfl ?_
  refine n_iconst C (v := 1) dL_law_211 rfl ?_
  refine n_iadd C dL_law_212 ?_
  refine n_sldY C X9 i1 hy1 dL_law_213 ?_
  refine n_calliR C (modW E q2 b μ) kW_hd rfl (c_X3_read E q1 h a o r s sa κ hk hf y1) (List.Perm.refl _) (fun w => w ++ modW E q2 b μ) (fun w => List.Perm.refl _) cf_X3_read gL_law_X3_read rfl ⟨⟨rfl, rfl⟩, Nat.le_of_ble_eq_true rfl, Nat.le_of_ble_eq_true rfl⟩ ⟨hc, hs⟩ rfl rfl (Nat.le_of_ble_eq_true rfl) dL_law_214 (fun r1 w1 hp => ?_)
  obtain ⟨rfl, rfl⟩ := hp
  refine n_aload_n C dL_law_217 rfl rfl ?_
  refine n_aload_n C dL_law_218 rfl rfl ?_
  refine n_iload_n C dL_law_219 rfl rfl ?_
  refine n_iconst C (v := 1) dL_law_220 rfl ?_
  refine n_iadd C dL_law_221 ?_
  refine n_sldY C X9 i1 hy1 dL_law_222 ?_
  refine n_calliR C (kW E q1 h a o r s sa (kAct κ (raiseR (kjS κ) y1)).2) modW_hd rfl (c_X4_read E q2 b μ (kjz κ) hz hHL (qK (kjS κ) y1) (fmo8 (sBs (kjS κ))) (fmo8_lt _) (t_be hI) y1 (p_read hI y1)) List.perm_append_comm (fun w => kW E q1 h a o r s sa (kAct κ (raiseR (kjS κ) y1)).2 ++ w) (fun w => List.perm_append_comm) cf_X4_read gL_law_X4_read rfl ⟨⟨rfl, rfl⟩, Nat.le_of_ble_eq_true rfl, Nat.le_of_ble_eq_true rfl⟩ ⟨hc, hs⟩ rfl rfl (Nat.le_of_ble_eq_true rfl) dL_law_223 (fun r2 w2 hp => ?_)
  obtain ⟨rfl, rfl⟩ := hp
  refine n_icmp_eq_t C (tgt := 782) dL_law_226 (by decide) (eq9) ?_
  exact k _ _ (inv9)
set_option maxHeartbeats 1000000 in
set_option maxRecDepth 100000 in
theorem law_c3 {E : Ev} {x : Cx} {kc ks : Nat} {b9 L : Nat} {xs : Nat → Int32} {q1 q2 : Nat} {h : Nat → Nat} {a : Nat → Nat → Nat} {o r s : Nat} {sa b : Nat → Nat} (C : Ok E x cL_law RL wsL_law room_1) (X9 : scrX x b9 L xs) (hc : kc ≤ 600000) (hs : ks ≤ 7302250) {i : Nat} {y1 y2 : Int32} (i1 : vp_in (nI i + 1) L) (i2 : vp_in (nI i + 2) L) (hy1 : xs (nI i + 1).toNatClampNeg = y1) (hy2 : xs (nI i + 2).toNatClampNeg = y2) {κ : KSt} {μ : MD} (hI : Inv κ μ) (k : ∀ κ2 μ2, Inv κ2 μ2 → GN E x kc ks (kW E q1 h a o r s sa κ2 ++ modW E q2 b μ2) [some (.ref b9), some (.ref q1), some (.ref q2), some (.int (nI i))] 782 []) : GN E x kc ks (kW E q1 h a o r s sa κ ++ modW E q2 b μ) [some (.ref b9), some (.ref q1), some (.ref q2), some (.int (nI i))] 231 [] := by
  have hk : okH κ := hI.2.1.1
  have hz : kjz κ ≤ 4 := hI.2.1.1.2
  have hHL : mHL μ = nI (kjz κ) := hI.2.1.2.1
  have hf : okFr (kjS κ) := inv_fr hI
  have hH := hI.2.2.1.1
  have hN := hI.2.2.1.2
  have hn := hI.2.2.2.2.1.1
  have hTL := hI.2.2.2.2.1.2.1
  obtain ⟨eq9, inv9⟩ := a_write hI y1 y2
  refine n_aload_n C dL_law_231 rfl rfl ?_
  refine n_aload_n C dL_law_232 rfl rfl ?_
  refine n_iload_n C dL_law_233 rfl rfl ?_
  refine n_iconst C (v := 1) dL_law_234 rfl ?_
  refine n_iadd C dL_law_235 ?_
  refine n_sldY C X9 i1 hy1 dL_law_236 ?_
  refine n_aload_n C dL_law_237 rfl rfl ?_
  refine n_iload_n C dL_law_238 rfl rfl ?_
  refine n_iconst C (v := 2) dL_law_239 rfl ?_
  refine n_iadd C dL_law_240 ?_
  refine n_sldY C X9 i2 hy2 dL_law_241 ?_
  refine n_calliR C (modW E q2 b μ) kW_hd rfl (c_X3_write E q1 h a o r s sa κ hk hf y1 y2) (List.Perm.refl _) (fun w => w ++ modW E q2 b μ) (fun w => List.Perm.refl _) cf_X3_write gL_law_X3_write rfl ⟨⟨rfl, rfl⟩, Nat.le_of_ble_eq_true rfl, Nat.le_of_ble_eq_true rfl⟩ ⟨hc, hs⟩ rfl rfl (Nat.le_of_ble_eq_true rfl) dL_law_242 (fun r1 w1 hp => ?_)
  obtain ⟨rfl, rfl⟩ := hp
  refine n_aload_n C dL_law_245 rfl rfl ?_
  refine n_aload_n C dL_law_246 rfl rfl ?_
  refine n_iload_n C dL_law_247 rfl rfl ?_
  refine n_iconst C (v := 1) dL_law_248 rfl ?_
  refine n_iadd C dL_law_249 ?_
  refine n_sldY C X9 i1 hy1 dL_law_250 ?_
  refine n_aload_n C dL_law_251 rfl rfl ?_
  refine n_iload_n C dL_law_252 rfl rfl ?_
  refine n_iconst C (v := 2) dL_law_253 rfl ?_
  refine n_iadd C dL_law_254 ?_
  refine n_sldY C X9 i2 hy2 dL_law_255 ?_
  refine n_calliR C (kW E q1 h a o r s sa (kAct κ (renumR (kjS κ) y1 y2)).2) modW_hd rfl (c_X4_write E q2 b μ (kjz κ) hz hHL y1 y2 ) List.perm_append_comm (fun w => kW E q1 h a o r s sa (kAct κ (renumR (kjS κ) y1 y2)).2 ++ w) (fun w => List.perm_append_comm) cf_X4_write gL_law_X4_write rfl ⟨⟨rfl, rfl⟩, Nat.le_of_ble_eq_true rfl, Nat.le_of_ble_eq_true rfl⟩ ⟨hc, hs⟩ rfl rfl (Nat.le_of_ble_eq_true rfl) dL_law_256 (fun r2 w2 hp => ?_)
  obtain ⟨rfl, rfl⟩ := hp
  refine n_icmp_eq_t C (tgt := 782) dL_law_259 (by decide) (eq9) ?_
  exact k _ _ (inv9)
set_option maxHeartbeats 1000000 in
set_option maxRecDepth 100000 in
theorem law_c4 {E : Ev} {x : Cx} {kc ks : Nat} {b9 L : Nat} {xs : Nat → Int32} {q1 q2 : Nat} {h : Nat → Nat} {a : Nat → Nat → Nat} {o r s : Nat} {sa b : Nat → Nat} (C : Ok E x cL_law RL wsL_law room_1) (X9 : scrX x b9 L xs) (hc : kc ≤ 600000) (hs : ks ≤ 7302250) {i : Nat} {y1 y2 : Int32} (i1 : vp_in (nI i + 1) L) (i2 : vp_in (nI i + 2) L) (hy1 : xs (nI i + 1).toNatClampNeg = y1) (hy2 : xs (nI i + 2).toNatClampNeg = y2) {κ : KSt} {μ : MD} (hI : Inv κ μ) (k : ∀ κ2 μ2, Inv κ2 μ2 → GN E x kc ks (kW E q1 h a o r s sa κ2 ++ modW E q2 b μ2) [some (.ref b9), some (.ref q1), some (.ref q2), some (.int (nI i))] 782 []) : GN E x kc ks (kW E q1 h a o r s sa κ ++ modW E q2 b μ) [some (.ref b9), some (.ref q1), some (.ref q2), some (.int (nI i))] 264 [] := by
  have hk : okH κ := hI.2.1.1
  have hz : kjz κ ≤ 4 := hI.2.1.1.2
  have hHL : mHL μ = nI (kjz κ) := hI.2.1.2.1
  have hf : okFr (kjS κ) := inv_fr hI
  have hH := hI.2.2.1.1
  have hN := hI.2.2.1.2
  have hn := hI.2.2.2.2.1.1
  have hTL := hI.2.2.2.2.1.2.1
  obtain ⟨eq9, inv9⟩ := a_move hI y1 y2
  refine n_aload_n C dL_law_264 rfl rfl ?_
  refine n_aload_n C dL_law_265 rfl rfl ?_
  refine n_iload_n C dL_law_266 rfl rfl ?_
  refine n_iconst C (v := 1) dL_law_267 rfl ?_
  refine n_iadd C dL_law_268 ?_
  refine n_sldY C X9 i1 hy1 dL_law_269 ?_
  refine n_aload_n C dL_law_270 rfl rfl ?_
  refine n_iload_n C dL_law_271 rfl rfl ?_
  refine n_iconst C (v := 2) dL_law_272 rfl ?_
  refine n_iadd C dL_law_273 ?_
  refine n_sldY C X9 i2 hy2 dL_law_274 ?_
  refine n_calliR C (modW E q2 b μ) kW_hd rfl (c_X3_move E q1 h a o r s sa κ hk hf y1 y2) (List.Perm.refl _) (fun w => w ++ modW E q2 b μ) (fun w => List.Perm.refl _) cf_X3_move gL_law_X3_move rfl ⟨⟨rfl, rfl⟩, Nat.le_of_ble_eq_true rfl, Nat.le_of_ble_eq_true rfl⟩ ⟨hc, hs⟩ rfl rfl (Nat.le_of_ble_eq_true rfl) dL_law_275 (fun r1 w1 hp => ?_)
  obtain ⟨rfl, rfl⟩ := hp
  refine n_aload_n C dL_law_278 rfl rfl ?_
  refine n_aload_n C dL_law_279 rfl rfl ?_
  refine n_iload_n C dL_law_280 rfl rfl ?_
  refine n_iconst C (v := 1) dL_law_281 rfl ?_
  refine n_iadd C dL_law_282 ?_
  refine n_sldY C X9 i1 hy1 dL_law_283 ?_
  refine n_aload_n C dL_law_284 rfl rfl ?_
  refine n_iload_n C dL_law_285 rfl rfl ?_
  refine n_iconst C (v := 2) dL_law_286 rfl ?_
  refine n_iadd C dL_law_287 ?_
  refine n_sldY C X9 i2 hy2 dL_law_288 ?_
  refine n_calliR C (kW E q1 h a o r s sa (kAct κ (shiftR (kjS κ) y1 y2)).2) modW_hd rfl (c_X4_move E q2 b μ (kjz κ) hz hHL y1 y2 (fun _ _ => p_move hI _ _)) List.perm_append_comm (fun w => kW E q1 h a o r s sa (kAct κ (shiftR (kjS κ) y1 y2)).2 ++ w) (fun w => List.perm_append_comm) cf_X4_move gL_law_X4_move rfl ⟨⟨rfl, rfl⟩, Nat.le_of_ble_eq_true rfl, Nat.le_of_ble_eq_true rfl⟩ ⟨hc, hs⟩ rfl rfl (Nat.le_of_ble_eq_true rfl) dL_law_289 (fun r2 w2 hp => ?_)
  obtain ⟨rfl, rfl⟩ := hp
  refine n_icmp_eq_t C (tgt := 782) dL_law_292 (by decide) (eq9) ?_
  exact k _ _ (inv9)
set_option maxHeartbeats 1000000 in
set_option maxRecDepth 100000 in
theorem law_c5 {E : Ev} {x : Cx} {kc ks : Nat} {b9 L : Nat} {xs : Nat → Int32} {q1 q2 : Nat} {h : Nat → Nat} {a : Nat → Nat → Nat} {o r s : Nat} {sa b : Nat → Nat} (C : Ok E x cL_law RL wsL_law room_1) (X9 : scrX x b9 L xs) (hc : kc ≤ 600000) (hs : ks ≤ 7302250) {i : Nat} {y1 y2 : Int32} (i1 : vp_in (nI i + 1) L) (i2 : vp_in (nI i + 2) L) (hy1 : xs (nI i + 1).toNatClampNeg = y1) (hy2 : xs (nI i + 2).toNatClampNeg = y2) {κ : KSt} {μ : MD} (hI : Inv κ μ) (k : ∀ κ2 μ2, Inv κ2 μ2 → GN E x kc ks (kW E q1 h a o r s sa κ2 ++ modW E q2 b μ2) [some (.ref b9), some (.ref q1), some (.ref q2), some (.int (nI i))] 782 []) : GN E x kc ks (kW E q1 h a o r s sa κ ++ modW E q2 b μ) [some (.ref b9), some (.ref q1), some (.ref q2), some (.int (nI i))] 297 [] := by
  have hk : okH κ := hI.2.1.1
  have hz : kjz κ ≤ 4 := hI.2.1.1.2
  have hHL : mHL μ = nI (kjz κ) := hI.2.1.2.1
  have hf : okFr (kjS κ) := inv_fr hI
  have hH := hI.2.2.1.1
  have hN := hI.2.2.1.2
  have hn := hI.2.2.2.2.1.1
  have hTL := hI.2.2.2.2.1.2.1
  obtain ⟨eq9, inv9⟩ := (a_beat hI y1).1
  refine n_aload_n C dL_law_297 rfl rfl ?_
  refine n_aload_n C dL_law_298 rfl rfl ?_
  refine n_iload_n C dL_law_299 rfl rfl ?_
  refine n_iconst C (v := 1) dL_law_300 rfl ?_
  refine n_iadd C dL_law_301 ?_
  refine n_sldY C X9 i1 hy1 dL_law_302 ?_
  refine n_calliR C (modW E q2 b μ) kW_hd rfl (c_X3_beat E q1 h a o r s sa κ hk hf y1) (List.Perm.refl _) (fun w => w ++ modW E q2 b μ) (fun w => List.Perm.refl _) cf_X3_beat gL_law_X3_beat rfl ⟨⟨rfl, rfl⟩, Nat.le_of_ble_eq_true rfl, Nat.le_of_ble_eq_true rfl⟩ ⟨hc, hs⟩ rfl rfl (Nat.le_of_ble_eq_true rfl) dL_law_303 (fun r1 w1 hp => ?_)
  obtain ⟨rfl, rfl⟩ := hp
  refine n_aload_n C dL_law_306 rfl rfl ?_
  refine n_aload_n C dL_law_307 rfl rfl ?_
  refine n_iload_n C dL_law_308 rfl rfl ?_
  refine n_iconst C (v := 1) dL_law_309 rfl ?_
  refine n_iadd C dL_law_310 ?_
  refine n_sldY C X9 i1 hy1 dL_law_311 ?_
  refine n_calliR C (kW E q1 h a o r s sa (kAct κ (beatR (kjS κ) y1)).2) modW_hd rfl (c_X4_beat E q2 b μ (kjz κ) hz hHL y1 (fun _ => (a_beat hI y1).2)) List.perm_append_comm (fun w => kW E q1 h a o r s sa (kAct κ (beatR (kjS κ) y1)).2 ++ w) (fun w => List.perm_append_comm) cf_X4_beat gL_law_X4_beat rfl ⟨⟨rfl, rfl⟩, Nat.le_of_ble_eq_true rfl, Nat.le_of_ble_eq_true rfl⟩ ⟨hc, hs⟩ rfl rfl (Nat.le_of_ble_eq_true rfl) dL_law_312 (fun r2 w2 hp => ?_)
  obtain ⟨rfl, rfl⟩ := hp
  refine n_icmp_eq_t C (tgt := 782) dL_law_315 (by decide) (eq9) ?_
  exact k _ _ (inv9)
set_option maxHeartbeats 1000000 in
set_option maxRecDepth 100000 in
theorem law_c6 {E : Ev} {x : Cx} {kc ks : Nat} {b9 L : Nat} {xs : Nat → Int32} {q1 q2 : Nat} {h : Nat → Nat} {a : Nat → Nat → Nat} {o r s : Nat} {sa b : Nat → Nat} (C : Ok E x cL_law RL wsL_law room_1) (X9 : scrX x b9 L xs) (hc : kc ≤ 600000) (hs : ks ≤ 7302250) {i : Nat} {y1 y2 : Int32} (i1 : vp_in (nI i + 1) L) (i2 : vp_in (nI i + 2) L) (hy1 : xs (nI i + 1).toNatClampNeg = y1) (hy2 : xs (nI i + 2).toNatClampNeg = y2) {κ : KSt} {μ : MD} (hI : Inv κ μ) (k : ∀ κ2 μ2, Inv κ2 μ2 → GN E x kc ks (kW E q1 h a o r s sa κ2 ++ modW E q2 b μ2) [some (.ref b9), some (.ref q1), some (.ref q2), some (.int (nI i))] 782 []) : GN E x kc ks (kW E q1 h a o r s sa κ ++ modW E q2 b μ) [some (.ref b9), some (.ref q1), some (.ref q2), some (.int (nI i))] 320 [] := by
  have hk : okH κ := hI.2.1.1
  have hz : kjz κ ≤ 4 := hI.2.1.1.2
  have hHL : mHL μ = nI (kjz κ) := hI.2.1.2.1
  have hf : okFr (kjS κ) := inv_fr hI
  have hH := hI.2.2.1.1
  have hN := hI.2.2.1.2
  have hn := hI.2.2.2.2.1.1
  have hTL := hI.2.2.2.2.1.2.1
  obtain ⟨eq9, inv9⟩ := a_wind hI y1 y2
  refine n_aload_n C dL_law_320 rfl rfl ?_
  refine n_aload_n C dL_law_321 rfl rfl ?_
  refine n_iload_n C dL_law_322 rfl rfl ?_
  refine n_iconst C (v := 1) dL_law_323 rfl ?_
  refine n_iadd C dL_law_324 ?_
  refine n_sldY C X9 i1 hy1 dL_law_325 ?_
  refine n_aload_n C dL_law_326 rfl rfl ?_
  refine n_iload_n C dL_law_327 rfl rfl ?_
  refine n_iconst C (v := 2) dL_law_328 rfl ?_
  refine n_iadd C dL_law_329 ?_
  refine n_sldY C X9 i2 hy2 dL_law_330 ?_
  refine n_calliR C (modW E q2 b μ) kW_hd rfl (c_X3_wind E q1 h a o r s sa κ hk hf y1 y2) (List.Perm.refl _) (fun w => w ++ modW E q2 b μ) (fun w => List.Perm.refl _) cf_X3_wind gL_law_X3_wind rfl ⟨⟨rfl, rfl⟩, Nat.le_of_ble_eq_true rfl, Nat.le_of_ble_eq_true rfl⟩ ⟨hc, hs⟩ rfl rfl (Nat.le_of_ble_eq_true rfl) dL_law_331 (fun r1 w1 hp => ?_)
  obtain ⟨rfl, rfl⟩ := hp
  refine n_aload_n C dL_law_334 rfl rfl ?_
  refine n_aload_n C dL_law_335 rfl rfl ?_
  refine n_iload_n C dL_law_336 rfl rfl ?_
  refine n_iconst C (v := 1) dL_law_337 rfl ?_
  refine n_iadd C dL_law_338 ?_
  refine n_sldY C X9 i1 hy1 dL_law_339 ?_
  refine n_aload_n C dL_law_340 rfl rfl ?_
  refine n_iload_n C dL_law_341 rfl rfl ?_
  refine n_iconst C (v := 2) dL_law_342 rfl ?_
  refine n_iadd C dL_law_343 ?_
  refine n_sldY C X9 i2 hy2 dL_law_344 ?_
  refine n_calliR C (kW E q1 h a o r s sa (kAct κ (windR (kjS κ) y1 y2)).2) modW_hd rfl (c_X4_wind E q2 b μ (kjz κ) hz hHL y1 y2 ) List.perm_append_comm (fun w => kW E q1 h a o r s sa (kAct κ (windR (kjS κ) y1 y2)).2 ++ w) (fun w => List.perm_append_comm) cf_X4_wind gL_law_X4_wind rfl ⟨⟨rfl, rfl⟩, Nat.le_of_ble_eq_true rfl, Nat.le_of_ble_eq_true rfl⟩ ⟨hc, hs⟩ rfl rfl (Nat.le_of_ble_eq_true rfl) dL_law_345 (fun r2 w2 hp => ?_)
  obtain ⟨rfl, rfl⟩ := hp
  refine n_icmp_eq_t C (tgt := 782) dL_law_348 (by decide) (eq9) ?_
  exact k _ _ (inv9)
set_option maxHeartbeats 1000000 in
set_option maxRecDepth 100000 in
theorem law_c7 {E : Ev} {x : Cx} {kc ks : Nat} {b9 L : Nat} {xs : Nat → Int32} {q1 q2 : Nat} {h : Nat → Nat} {a : Nat → Nat → Nat} {o r s : Nat} {sa b : Nat → Nat} (C : Ok E x cL_law RL wsL_law room_1) (X9 : scrX x b9 L xs) (hc : kc ≤ 600000) (hs : ks ≤ 7302250) {i : Nat} {y1 y2 : Int32} (i1 : vp_in (nI i + 1) L) (i2 : vp_in (nI i + 2) L) (hy1 : xs (nI i + 1).toNatClampNeg = y1) (hy2 : xs (nI i + 2).toNatClampNeg = y2) {κ : KSt} {μ : MD} (hI : Inv κ μ) (k : ∀ κ2 μ2, Inv κ2 μ2 → GN E x kc ks (kW E q1 h a o r s sa κ2 ++ modW E q2 b μ2) [some (.ref b9), some (.ref q1), some (.ref q2), some (.int (nI i))] 782 []) : GN E x kc ks (kW E q1 h a o r s sa κ ++ modW E q2 b μ) [some (.ref b9), some (.ref q1), some (.ref q2), some (.int (nI i))] 353 [] := by
  have hk : okH κ := hI.2.1.1
  have hz : kjz κ ≤ 4 := hI.2.1.1.2
  have hHL : mHL μ = nI (kjz κ) := hI.2.1.2.1
  have hf : okFr (kjS κ) := inv_fr hI
  have hH := hI.2.2.1.1
  have hN := hI.2.2.1.2
  have hn := hI.2.2.2.2.1.1
  have hTL := hI.2.2.2.2.1.2.1
  obtain ⟨eq9, inv9⟩ := a_set hI y1 y2
  refine n_aload_n C dL_law_353 rfl rfl ?_
  refine n_aload_n C dL_law_354 rfl rfl ?_
  refine n_iload_n C dL_law_355 rfl rfl ?_
  refine n_iconst C (v := 1) dL_law_356 rfl ?_
  refine n_iadd C dL_law_357 ?_
  refine n_sldY C X9 i1 hy1 dL_law_358 ?_
  refine n_aload_n C dL_law_359 rfl rfl ?_
  refine n_iload_n C dL_law_360 rfl rfl ?_
  refine n_iconst C (v := 2) dL_law_361 rfl ?_
  refine n_iadd C dL_law_362 ?_
  refine n_sldY C X9 i2 hy2 dL_law_363 ?_
  refine n_calliR C (modW E q2 b μ) kW_hd rfl (c_X3_set E q1 h a o r s sa κ hk hf y1 y2) (List.Perm.refl _) (fun w => w ++ modW E q2 b μ) (fun w => List.Perm.refl _) cf_X3_set gL_law_X3_set rfl ⟨⟨rfl, rfl⟩, Nat.le_of_ble_eq_true rfl, Nat.le_of_ble_eq_true rfl⟩ ⟨hc, hs⟩ rfl rfl (Nat.le_of_ble_eq_true rfl) dL_law_364 (fun r1 w1 hp => ?_)
  obtain ⟨rfl, rfl⟩ := hp
  refine n_aload_n C dL_law_367 rfl rfl ?_
  refine n_aload_n C dL_law_368 rfl rfl ?_
  refine n_iload_n C dL_law_369 rfl rfl ?_
  refine n_iconst C (v := 1) dL_law_370 rfl ?_
  refine n_iadd C dL_law_371 ?_
  refine n_sldY C X9 i1 hy1 dL_law_372 ?_
  refine n_aload_n C dL_law_373 rfl rfl ?_
  refine n_iload_n C dL_law_374 rfl rfl ?_
  refine n_iconst C (v := 2) dL_law_375 rfl ?_
  refine n_iadd C dL_law_376 ?_
  refine n_sldY C X9 i2 hy2 dL_law_377 ?_
  refine n_calliR C (kW E q1 h a o r s sa (kAct κ (setR (kjS κ) y1 y2)).2) modW_hd rfl (c_X4_set E q2 b μ (kjz κ) hz hHL y1 y2 ) List.perm_append_comm (fun w => kW E q1 h a o r s sa (kAct κ (setR (kjS κ) y1 y2)).2 ++ w) (fun w => List.perm_append_comm) cf_X4_set gL_law_X4_set rfl ⟨⟨rfl, rfl⟩, Nat.le_of_ble_eq_true rfl, Nat.le_of_ble_eq_true rfl⟩ ⟨hc, hs⟩ rfl rfl (Nat.le_of_ble_eq_true rfl) dL_law_378 (fun r2 w2 hp => ?_)
  obtain ⟨rfl, rfl⟩ := hp
  refine n_icmp_eq_t C (tgt := 782) dL_law_381 (by decide) (eq9) ?_
  exact k _ _ (inv9)
set_option maxHeartbeats 1000000 in
set_option maxRecDepth 100000 in
theorem law_c8 {E : Ev} {x : Cx} {kc ks : Nat} {b9 L : Nat} {xs : Nat → Int32} {q1 q2 : Nat} {h : Nat → Nat} {a : Nat → Nat → Nat} {o r s : Nat} {sa b : Nat → Nat} (C : Ok E x cL_law RL wsL_law room_1) (X9 : scrX x b9 L xs) (hc : kc ≤ 600000) (hs : ks ≤ 7302250) {i : Nat} {y1 y2 : Int32} (i1 : vp_in (nI i + 1) L) (i2 : vp_in (nI i + 2) L) (hy1 : xs (nI i + 1).toNatClampNeg = y1) (hy2 : xs (nI i + 2).toNatClampNeg = y2) {κ : KSt} {μ : MD} (hI : Inv κ μ) (k : ∀ κ2 μ2, Inv κ2 μ2 → GN E x kc ks (kW E q1 h a o r s sa κ2 ++ modW E q2 b μ2) [some (.ref b9), some (.ref q1), some (.ref q2), some (.int (nI i))] 782 []) : GN E x kc ks (kW E q1 h a o r s sa κ ++ modW E q2 b μ) [some (.ref b9), some (.ref q1), some (.ref q2), some (.int (nI i))] 386 [] := by
  have hk : okH κ := hI.2.1.1
  have hz : kjz κ ≤ 4 := hI.2.1.1.2
  have hHL : mHL μ = nI (kjz κ) := hI.2.1.2.1
  have hf : okFr (kjS κ) := inv_fr hI
  have hH := hI.2.2.1.1
  have hN := hI.2.2.1.2
  have hn := hI.2.2.2.2.1.1
  have hTL := hI.2.2.2.2.1.2.1
  obtain ⟨eq9, inv9⟩ := t_type hI (char_id y1)
  refine n_aload_n C dL_law_386 rfl rfl ?_
  refine n_aload_n C dL_law_387 rfl rfl ?_
  refine n_iload_n C dL_law_388 rfl rfl ?_
  refine n_iconst C (v := 1) dL_law_389 rfl ?_
  refine n_iadd C dL_law_390 ?_
  refine n_sldY C X9 i1 hy1 dL_law_391 ?_
  refine n_i2c C dL_law_392 ?_
  refine n_calliR C (modW E q2 b μ) kW_hd rfl (c_X3_type E q1 h a o r s sa κ hn _ (char_id y1)) (List.Perm.refl _) (fun w => w ++ modW E q2 b μ) (fun w => List.Perm.refl _) cf_X3_type gL_law_X3_type rfl ⟨⟨rfl, rfl⟩, Nat.le_of_ble_eq_true rfl, Nat.le_of_ble_eq_true rfl⟩ ⟨hc, hs⟩ rfl rfl (Nat.le_of_ble_eq_true rfl) dL_law_393 (fun r1 w1 hp => ?_)
  obtain ⟨rfl, rfl⟩ := hp
  refine n_aload_n C dL_law_396 rfl rfl ?_
  refine n_aload_n C dL_law_397 rfl rfl ?_
  refine n_iload_n C dL_law_398 rfl rfl ?_
  refine n_iconst C (v := 1) dL_law_399 rfl ?_
  refine n_iadd C dL_law_400 ?_
  refine n_sldY C X9 i1 hy1 dL_law_401 ?_
  refine n_i2c C dL_law_402 ?_
  refine n_calliR C (kW E q1 h a o r s sa (kType κ (y1.toUInt32 % 65536).toInt32).2) modW_hd rfl (c_X4_type E q2 b μ (kjn κ) hn hTL _) List.perm_append_comm (fun w => kW E q1 h a o r s sa (kType κ (y1.toUInt32 % 65536).toInt32).2 ++ w) (fun w => List.perm_append_comm) cf_X4_type gL_law_X4_type rfl ⟨⟨rfl, rfl⟩, Nat.le_of_ble_eq_true rfl, Nat.le_of_ble_eq_true rfl⟩ ⟨hc, hs⟩ rfl rfl (Nat.le_of_ble_eq_true rfl) dL_law_403 (fun r2 w2 hp => ?_)
  obtain ⟨rfl, rfl⟩ := hp
  refine n_icmp_eq_t C (tgt := 782) dL_law_406 (by decide) (eq9) ?_
  exact k _ _ (inv9)
set_option maxHeartbeats 1000000 in
set_option maxRecDepth 100000 in
theorem law_c9 {E : Ev} {x : Cx} {kc ks : Nat} {b9 L : Nat} {xs : Nat → Int32} {q1 q2 : Nat} {h : Nat → Nat} {a : Nat → Nat → Nat} {o r s : Nat} {sa b : Nat → Nat} (C : Ok E x cL_law RL wsL_law room_1) (X9 : scrX x b9 L xs) (hc : kc ≤ 600000) (hs : ks ≤ 7302250) {i : Nat} {y1 y2 : Int32} (i1 : vp_in (nI i + 1) L) (i2 : vp_in (nI i + 2) L) (hy1 : xs (nI i + 1).toNatClampNeg = y1) (hy2 : xs (nI i + 2).toNatClampNeg = y2) {κ : KSt} {μ : MD} (hI : Inv κ μ) (k : ∀ κ2 μ2, Inv κ2 μ2 → GN E x kc ks (kW E q1 h a o r s sa κ2 ++ modW E q2 b μ2) [some (.ref b9), some (.ref q1), some (.ref q2), some (.int (nI i))] 782 []) : GN E x kc ks (kW E q1 h a o r s sa κ ++ modW E q2 b μ) [some (.ref b9), some (.ref q1), some (.ref q2), some (.int (nI i))] 411 [] := by
  have hk : okH κ := hI.2.1.1
  have hz : kjz κ ≤ 4 := hI.2.1.1.2
  have hHL : mHL μ = nI (kjz κ) := hI.2.1.2.1
  have hf : okFr (kjS κ) := inv_fr hI
  have hH := hI.2.2.1.1
  have hN := hI.2.2.1.2
  have hn := hI.2.2.2.2.1.1
  have hTL := hI.2.2.2.2.1.2.1
  obtain ⟨eq9, inv9⟩ := t_clr hI
  refine n_aload_n C dL_law_411 rfl rfl ?_
  refine n_calliR C (modW E q2 b μ) kW_hd rfl (c_X3_clearText E q1 h a o r s sa κ hn) (List.Perm.refl _) (fun w => w ++ modW E q2 b μ) (fun w => List.Perm.refl _) cf_X3_clearText gL_law_X3_clearText rfl ⟨⟨rfl, rfl⟩, Nat.le_of_ble_eq_true rfl, Nat.le_of_ble_eq_true rfl⟩ ⟨hc, hs⟩ rfl rfl (Nat.le_of_ble_eq_true rfl) dL_law_412 (fun r1 w1 hp => ?_)
  obtain ⟨rfl, rfl⟩ := hp
  refine n_aload_n C dL_law_415 rfl rfl ?_
  refine n_calliR C (kW E q1 h a o r s sa (kClr κ).2) modW_hd rfl (c_X4_clearText E q2 b μ ) List.perm_append_comm (fun w => kW E q1 h a o r s sa (kClr κ).2 ++ w) (fun w => List.perm_append_comm) cf_X4_clearText gL_law_X4_clearText rfl ⟨⟨rfl, rfl⟩, Nat.le_of_ble_eq_true rfl, Nat.le_of_ble_eq_true rfl⟩ ⟨hc, hs⟩ rfl rfl (Nat.le_of_ble_eq_true rfl) dL_law_416 (fun r2 w2 hp => ?_)
  obtain ⟨rfl, rfl⟩ := hp
  refine n_icmp_eq_t C (tgt := 782) dL_law_419 (by decide) (eq9) ?_
  exact k _ _ (inv9)
set_option maxHeartbeats 1000000 in
set_option maxRecDepth 100000 in
theorem law_c10 {E : Ev} {x : Cx} {kc ks : Nat} {b9 L : Nat} {xs : Nat → Int32} {q1 q2 : Nat} {h : Nat → Nat} {a : Nat → Nat → Nat} {o r s : Nat} {sa b : Nat → Nat} (C : Ok E x cL_law RL wsL_law room_1) (X9 : scrX x b9 L xs) (hc : kc ≤ 600000) (hs : ks ≤ 7302250) {i : Nat} {y1 y2 : Int32} (i1 : vp_in (nI i + 1) L) (i2 : vp_in (nI i + 2) L) (hy1 : xs (nI i + 1).toNatClampNeg = y1) (hy2 : xs (nI i + 2).toNatClampNeg = y2) {κ : KSt} {μ : MD} (hI : Inv κ μ) (k : ∀ κ2 μ2, Inv κ2 μ2 → GN E x kc ks (kW E q1 h a o r s sa κ2 ++ modW E q2 b μ2) [some (.ref b9), some (.ref q1), some (.ref q2), some (.int (nI i))] 782 []) : GN E x kc ks (kW E q1 h a o r s sa κ ++ modW E q2 b μ) [some (.ref b9), some (.ref q1), some (.ref q2), some (.int (nI i))] 424 [] := by
  have hk : okH κ := hI.2.1.1
  have hz : kjz κ ≤ 4 := hI.2.1.1.2
  have hHL : mHL μ = nI (kjz κ) := hI.2.1.2.1
  have hf : okFr (kjS κ) := inv_fr hI
  have hH := hI.2.2.1.1
  have hN := hI.2.2.1.2
  have hn := hI.2.2.2.2.1.1
  have hTL := hI.2.2.2.2.1.2.1
  refine n_aload_n C dL_law_424 rfl rfl ?_
  refine n_calliR C (modW E q2 b μ) kW_hd rfl (c_X3_perform E q1 h a o r s sa κ hk hf hn) (List.Perm.refl _) (fun w => w ++ modW E q2 b μ) (fun w => List.Perm.refl _) cf_X3_perform gL_law_X3_perform rfl ⟨⟨rfl, rfl⟩, Nat.le_of_ble_eq_true rfl, Nat.le_of_ble_eq_true rfl⟩ ⟨hc, hs⟩ rfl rfl (Nat.le_of_ble_eq_true rfl) dL_law_425 (fun r1 w1 hp => ?_)
  obtain ⟨rfl, rfl⟩ := hp
  refine n_aload_n C dL_law_428 rfl rfl ?_
  have M9 := c_X4_perform E q2 b μ (kjn κ) hn hTL (mSp μ).toBitVec.toNat (mNm μ) (mCm μ) (mFi μ) (mSe μ) (kjz κ) hz hHL (t_pre hI _ _ _ _)
  rw [modT_at] at M9
  refine n_calliR C (kW E q1 h a o r s sa (kPrf κ).2) modW_hd rfl (M9) List.perm_append_comm (fun w => kW E q1 h a o r s sa (kPrf κ).2 ++ w) (fun w => List.perm_append_comm) cf_X4_perform gL_law_X4_perform rfl ⟨⟨rfl, rfl⟩, Nat.le_of_ble_eq_true rfl, Nat.le_of_ble_eq_true rfl⟩ ⟨hc, hs⟩ rfl rfl (Nat.le_of_ble_eq_true rfl) dL_law_429 (fun r2 w2 hp => ?_)
  obtain ⟨hq, μ2, rfl, inv9⟩ := t_perf hI _ _ _ _ _ _ hp
  refine n_icmp_eq_t C (tgt := 782) dL_law_432 (by decide) (hq.symm) ?_
  exact k _ _ (inv9)
set_option maxHeartbeats 1000000 in
set_option maxRecDepth 100000 in
theorem law_c11 {E : Ev} {x : Cx} {kc ks : Nat} {b9 L : Nat} {xs : Nat → Int32} {q1 q2 : Nat} {h : Nat → Nat} {a : Nat → Nat → Nat} {o r s : Nat} {sa b : Nat → Nat} (C : Ok E x cL_law RL wsL_law room_1) (X9 : scrX x b9 L xs) (hc : kc ≤ 600000) (hs : ks ≤ 7302250) {i : Nat} {y1 y2 : Int32} (i1 : vp_in (nI i + 1) L) (i2 : vp_in (nI i + 2) L) (hy1 : xs (nI i + 1).toNatClampNeg = y1) (hy2 : xs (nI i + 2).toNatClampNeg = y2) {κ : KSt} {μ : MD} (hI : Inv κ μ) (k : ∀ κ2 μ2, Inv κ2 μ2 → GN E x kc ks (kW E q1 h a o r s sa κ2 ++ modW E q2 b μ2) [some (.ref b9), some (.ref q1), some (.ref q2), some (.int (nI i))] 782 []) : GN E x kc ks (kW E q1 h a o r s sa κ ++ modW E q2 b μ) [some (.ref b9), some (.ref q1), some (.ref q2), some (.int (nI i))] 437 [] := by
  have hk : okH κ := hI.2.1.1
  have hz : kjz κ ≤ 4 := hI.2.1.1.2
  have hHL : mHL μ = nI (kjz κ) := hI.2.1.2.1
  have hf : okFr (kjS κ) := inv_fr hI
  have hH := hI.2.2.1.1
  have hN := hI.2.2.1.2
  have hn := hI.2.2.2.2.1.1
  have hTL := hI.2.2.2.2.1.2.1
  refine n_aload_n C dL_law_437 rfl rfl ?_
  refine n_aload_n C dL_law_438 rfl rfl ?_
  refine n_iload_n C dL_law_439 rfl rfl ?_
  refine n_iconst C (v := 1) dL_law_440 rfl ?_
  refine n_iadd C dL_law_441 ?_
  refine n_sldY C X9 i1 hy1 dL_law_442 ?_
  refine n_calliR C (modW E q2 b μ) kW_hd rfl (c_X3_stopped E q1 h a o r s sa κ y1) (List.Perm.refl _) (fun w => w ++ modW E q2 b μ) (fun w => List.Perm.refl _) cf_X3_stopped gL_law_X3_stopped rfl ⟨⟨rfl, rfl⟩, Nat.le_of_ble_eq_true rfl, Nat.le_of_ble_eq_true rfl⟩ ⟨hc, hs⟩ rfl rfl (Nat.le_of_ble_eq_true rfl) dL_law_443 (fun r1 w1 hp => ?_)
  obtain ⟨rfl, rfl⟩ := hp
  refine n_aload_n C dL_law_446 rfl rfl ?_
  refine n_aload_n C dL_law_447 rfl rfl ?_
  refine n_iload_n C dL_law_448 rfl rfl ?_
  refine n_iconst C (v := 1) dL_law_449 rfl ?_
  refine n_iadd C dL_law_450 ?_
  refine n_sldY C X9 i1 hy1 dL_law_451 ?_
  refine n_calliR C (kW E q1 h a o r s sa κ) modW_hd rfl (c_X4_stopped E q2 b μ y1) List.perm_append_comm (fun w => kW E q1 h a o r s sa κ ++ w) (fun w => List.perm_append_comm) cf_X4_stopped gL_law_X4_stopped rfl ⟨⟨rfl, rfl⟩, Nat.le_of_ble_eq_true rfl, Nat.le_of_ble_eq_true rfl⟩ ⟨hc, hs⟩ rfl rfl (Nat.le_of_ble_eq_true rfl) dL_law_452 (fun r2 w2 hp => ?_)
  obtain ⟨rfl, rfl⟩ := hp
  refine n_icmp_eq_t C (tgt := 782) dL_law_455 (by decide) (t_stop hI y1) ?_
  exact k _ _ (hI)
set_option maxHeartbeats 1000000 in
set_option maxRecDepth 100000 in
theorem law_c12 {E : Ev} {x : Cx} {kc ks : Nat} {b9 L : Nat} {xs : Nat → Int32} {q1 q2 : Nat} {h : Nat → Nat} {a : Nat → Nat → Nat} {o r s : Nat} {sa b : Nat → Nat} (C : Ok E x cL_law RL wsL_law room_1) (X9 : scrX x b9 L xs) (hc : kc ≤ 600000) (hs : ks ≤ 7302250) {i : Nat} {y1 y2 : Int32} (i1 : vp_in (nI i + 1) L) (i2 : vp_in (nI i + 2) L) (hy1 : xs (nI i + 1).toNatClampNeg = y1) (hy2 : xs (nI i + 2).toNatClampNeg = y2) {κ : KSt} {μ : MD} (hI : Inv κ μ) (k : ∀ κ2 μ2, Inv κ2 μ2 → GN E x kc ks (kW E q1 h a o r s sa κ2 ++ modW E q2 b μ2) [some (.ref b9), some (.ref q1), some (.ref q2), some (.int (nI i))] 782 []) : GN E x kc ks (kW E q1 h a o r s sa κ ++ modW E q2 b μ) [some (.ref b9), some (.ref q1), some (.ref q2), some (.int (nI i))] 460 [] := by
  have hk : okH κ := hI.2.1.1
  have hz : kjz κ ≤ 4 := hI.2.1.1.2
  have hHL : mHL μ = nI (kjz κ) := hI.2.1.2.1
  have hf : okFr (kjS κ) := inv_fr hI
  have hH := hI.2.2.1.1
  have hN := hI.2.2.1.2
  have hn := hI.2.2.2.2.1.1
  have hTL := hI.2.2.2.2.1.2.1
  obtain ⟨eq9, inv9⟩ := t_undo hI
  refine n_aload_n C dL_law_460 rfl rfl ?_
  refine n_calliR C (modW E q2 b μ) kW_hd rfl (c_X3_undo E q1 h a o r s sa κ hk hH) (List.Perm.refl _) (fun w => w ++ modW E q2 b μ) (fun w => List.Perm.refl _) cf_X3_undo gL_law_X3_undo rfl ⟨⟨rfl, rfl⟩, Nat.le_of_ble_eq_true rfl, Nat.le_of_ble_eq_true rfl⟩ ⟨hc, hs⟩ rfl rfl (Nat.le_of_ble_eq_true rfl) dL_law_461 (fun r1 w1 hp => ?_)
  obtain ⟨rfl, rfl⟩ := hp
  refine n_aload_n C dL_law_464 rfl rfl ?_
  refine n_calliR C (kW E q1 h a o r s sa (kUndo κ).2) modW_hd rfl (c_X4_undo E q2 b μ (kjz κ) hz hHL) List.perm_append_comm (fun w => kW E q1 h a o r s sa (kUndo κ).2 ++ w) (fun w => List.perm_append_comm) cf_X4_undo gL_law_X4_undo rfl ⟨⟨rfl, rfl⟩, Nat.le_of_ble_eq_true rfl, Nat.le_of_ble_eq_true rfl⟩ ⟨hc, hs⟩ rfl rfl (Nat.le_of_ble_eq_true rfl) dL_law_465 (fun r2 w2 hp => ?_)
  obtain ⟨rfl, rfl⟩ := hp
  refine n_icmp_eq_t C (tgt := 782) dL_law_468 (by decide) (eq9) ?_
  exact k _ _ (inv9)
set_option maxHeartbeats 1000000 in
set_option maxRecDepth 100000 in
theorem law_c13 {E : Ev} {x : Cx} {kc ks : Nat} {b9 L : Nat} {xs : Nat → Int32} {q1 q2 : Nat} {h : Nat → Nat} {a : Nat → Nat → Nat} {o r s : Nat} {sa b : Nat → Nat} (C : Ok E x cL_law RL wsL_law room_1) (X9 : scrX x b9 L xs) (hc : kc ≤ 600000) (hs : ks ≤ 7302250) {i : Nat} {y1 y2 : Int32} (i1 : vp_in (nI i + 1) L) (i2 : vp_in (nI i + 2) L) (hy1 : xs (nI i + 1).toNatClampNeg = y1) (hy2 : xs (nI i + 2).toNatClampNeg = y2) {κ : KSt} {μ : MD} (hI : Inv κ μ) (k : ∀ κ2 μ2, Inv κ2 μ2 → GN E x kc ks (kW E q1 h a o r s sa κ2 ++ modW E q2 b μ2) [some (.ref b9), some (.ref q1), some (.ref q2), some (.int (nI i))] 782 []) : GN E x kc ks (kW E q1 h a o r s sa κ ++ modW E q2 b μ) [some (.ref b9), some (.ref q1), some (.ref q2), some (.int (nI i))] 473 [] := by
  have hk : okH κ := hI.2.1.1
  have hz : kjz κ ≤ 4 := hI.2.1.1.2
  have hHL : mHL μ = nI (kjz κ) := hI.2.1.2.1
  have hf : okFr (kjS κ) := inv_fr hI
  have hH := hI.2.2.1.1
  have hN := hI.2.2.1.2
  have hn := hI.2.2.2.2.1.1
  have hTL := hI.2.2.2.2.1.2.1
  obtain ⟨eq9, inv9⟩ := t_keep hI
  refine n_aload_n C dL_law_473 rfl rfl ?_
  refine n_calliR C (modW E q2 b μ) kW_hd rfl (c_X3_keep E q1 h a o r s sa κ hf) (List.Perm.refl _) (fun w => w ++ modW E q2 b μ) (fun w => List.Perm.refl _) cf_X3_keep gL_law_X3_keep rfl ⟨⟨rfl, rfl⟩, Nat.le_of_ble_eq_true rfl, Nat.le_of_ble_eq_true rfl⟩ ⟨hc, hs⟩ rfl rfl (Nat.le_of_ble_eq_true rfl) dL_law_474 (fun r1 w1 hp => ?_)
  obtain ⟨rfl, rfl⟩ := hp
  refine n_aload_n C dL_law_477 rfl rfl ?_
  refine n_calliR C (kW E q1 h a o r s sa (kKeep κ).2) modW_hd rfl (c_X4_keep E q2 b μ ) List.perm_append_comm (fun w => kW E q1 h a o r s sa (kKeep κ).2 ++ w) (fun w => List.perm_append_comm) cf_X4_keep gL_law_X4_keep rfl ⟨⟨rfl, rfl⟩, Nat.le_of_ble_eq_true rfl, Nat.le_of_ble_eq_true rfl⟩ ⟨hc, hs⟩ rfl rfl (Nat.le_of_ble_eq_true rfl) dL_law_478 (fun r2 w2 hp => ?_)
  obtain ⟨rfl, rfl⟩ := hp
  refine n_icmp_eq_t C (tgt := 782) dL_law_481 (by decide) (eq9) ?_
  exact k _ _ (inv9)
set_option maxHeartbeats 1000000 in
set_option maxRecDepth 100000 in
theorem law_c14 {E : Ev} {x : Cx} {kc ks : Nat} {b9 L : Nat} {xs : Nat → Int32} {q1 q2 : Nat} {h : Nat → Nat} {a : Nat → Nat → Nat} {o r s : Nat} {sa b : Nat → Nat} (C : Ok E x cL_law RL wsL_law room_1) (X9 : scrX x b9 L xs) (hc : kc ≤ 600000) (hs : ks ≤ 7302250) {i : Nat} {y1 y2 : Int32} (i1 : vp_in (nI i + 1) L) (i2 : vp_in (nI i + 2) L) (hy1 : xs (nI i + 1).toNatClampNeg = y1) (hy2 : xs (nI i + 2).toNatClampNeg = y2) {κ : KSt} {μ : MD} (hI : Inv κ μ) (k : ∀ κ2 μ2, Inv κ2 μ2 → GN E x kc ks (kW E q1 h a o r s sa κ2 ++ modW E q2 b μ2) [some (.ref b9), some (.ref q1), some (.ref q2), some (.int (nI i))] 782 []) : GN E x kc ks (kW E q1 h a o r s sa κ ++ modW E q2 b μ) [some (.ref b9), some (.ref q1), some (.ref q2), some (.int (nI i))] 486 [] := by
  have hk : okH κ := hI.2.1.1
  have hz : kjz κ ≤ 4 := hI.2.1.1.2
  have hHL : mHL μ = nI (kjz κ) := hI.2.1.2.1
  have hf : okFr (kjS κ) := inv_fr hI
  have hH := hI.2.2.1.1
  have hN := hI.2.2.1.2
  have hn := hI.2.2.2.2.1.1
  have hTL := hI.2.2.2.2.1.2.1
  obtain ⟨eq9, inv9⟩ := t_rest hI
  refine n_aload_n C dL_law_486 rfl rfl ?_
  refine n_calliR C (modW E q2 b μ) kW_hd rfl (c_X3_restore E q1 h a o r s sa κ hk hf hN) (List.Perm.refl _) (fun w => w ++ modW E q2 b μ) (fun w => List.Perm.refl _) cf_X3_restore gL_law_X3_restore rfl ⟨⟨rfl, rfl⟩, Nat.le_of_ble_eq_true rfl, Nat.le_of_ble_eq_true rfl⟩ ⟨hc, hs⟩ rfl rfl (Nat.le_of_ble_eq_true rfl) dL_law_487 (fun r1 w1 hp => ?_)
  obtain ⟨rfl, rfl⟩ := hp
  refine n_aload_n C dL_law_490 rfl rfl ?_
  refine n_calliR C (kW E q1 h a o r s sa (kRest κ).2) modW_hd rfl (c_X4_restore E q2 b μ (kjz κ) hz hHL) List.perm_append_comm (fun w => kW E q1 h a o r s sa (kRest κ).2 ++ w) (fun w => List.perm_append_comm) cf_X4_restore gL_law_X4_restore rfl ⟨⟨rfl, rfl⟩, Nat.le_of_ble_eq_true rfl, Nat.le_of_ble_eq_true rfl⟩ ⟨hc, hs⟩ rfl rfl (Nat.le_of_ble_eq_true rfl) dL_law_491 (fun r2 w2 hp => ?_)
  obtain ⟨rfl, rfl⟩ := hp
  refine n_icmp_eq_t C (tgt := 782) dL_law_494 (by decide) (eq9) ?_
  exact k _ _ (inv9)
set_option maxHeartbeats 1000000 in
set_option maxRecDepth 100000 in
theorem law_c15 {E : Ev} {x : Cx} {kc ks : Nat} {b9 L : Nat} {xs : Nat → Int32} {q1 q2 : Nat} {h : Nat → Nat} {a : Nat → Nat → Nat} {o r s : Nat} {sa b : Nat → Nat} (C : Ok E x cL_law RL wsL_law room_1) (X9 : scrX x b9 L xs) (hc : kc ≤ 600000) (hs : ks ≤ 7302250) {i : Nat} {y1 y2 : Int32} (i1 : vp_in (nI i + 1) L) (i2 : vp_in (nI i + 2) L) (hy1 : xs (nI i + 1).toNatClampNeg = y1) (hy2 : xs (nI i + 2).toNatClampNeg = y2) {κ : KSt} {μ : MD} (hI : Inv κ μ) (k : ∀ κ2 μ2, Inv κ2 μ2 → GN E x kc ks (kW E q1 h a o r s sa κ2 ++ modW E q2 b μ2) [some (.ref b9), some (.ref q1), some (.ref q2), some (.int (nI i))] 782 []) : GN E x kc ks (kW E q1 h a o r s sa κ ++ modW E q2 b μ) [some (.ref b9), some (.ref q1), some (.ref q2), some (.int (nI i))] 499 [] := by
  have hk : okH κ := hI.2.1.1
  have hz : kjz κ ≤ 4 := hI.2.1.1.2
  have hHL : mHL μ = nI (kjz κ) := hI.2.1.2.1
  have hf : okFr (kjS κ) := inv_fr hI
  have hH := hI.2.2.1.1
  have hN := hI.2.2.1.2
  have hn := hI.2.2.2.2.1.1
  have hTL := hI.2.2.2.2.1.2.1
  obtain ⟨hg, fA, hfA, hm⟩ := hI.1
  refine n_aload_n C dL_law_499 rfl rfl ?_
  refine n_aload_n C dL_law_500 rfl rfl ?_
  refine n_iload_n C dL_law_501 rfl rfl ?_
  refine n_iconst C (v := 1) dL_law_502 rfl ?_
  refine n_iadd C dL_law_503 ?_
  refine n_sldY C X9 i1 hy1 dL_law_504 ?_
  refine n_aload_n C dL_law_505 rfl rfl ?_
  refine n_iload_n C dL_law_506 rfl rfl ?_
  refine n_iconst C (v := 2) dL_law_507 rfl ?_
  refine n_iadd C dL_law_508 ?_
  refine n_sldY C X9 i2 hy2 dL_law_509 ?_
  refine n_calliR C (modW E q2 b μ) kW_hd rfl (c_X3_kite E q1 h a o r s sa κ y1 y2) (List.Perm.refl _) (fun w => w ++ modW E q2 b μ) (fun w => List.Perm.refl _) cf_X3_kite gL_law_X3_kite rfl ⟨⟨rfl, rfl⟩, Nat.le_of_ble_eq_true rfl, Nat.le_of_ble_eq_true rfl⟩ ⟨hc, hs⟩ rfl rfl (Nat.le_of_ble_eq_true rfl) dL_law_510 (fun r1 w1 hp => ?_)
  obtain ⟨rfl, rfl⟩ := hp
  refine n_aload_n C dL_law_513 rfl rfl ?_
  refine n_aload_n C dL_law_514 rfl rfl ?_
  refine n_iload_n C dL_law_515 rfl rfl ?_
  refine n_iconst C (v := 1) dL_law_516 rfl ?_
  refine n_iadd C dL_law_517 ?_
  refine n_sldY C X9 i1 hy1 dL_law_518 ?_
  refine n_aload_n C dL_law_519 rfl rfl ?_
  refine n_iload_n C dL_law_520 rfl rfl ?_
  refine n_iconst C (v := 2) dL_law_521 rfl ?_
  refine n_iadd C dL_law_522 ?_
  refine n_sldY C X9 i2 hy2 dL_law_523 ?_
  refine n_calliR C (kW E q1 h a o r s sa κ) modW_hd rfl (c_X4_kite E q2 b μ y1 y2) List.perm_append_comm (fun w => kW E q1 h a o r s sa κ ++ w) (fun w => List.perm_append_comm) cf_X4_kite gL_law_X4_kite rfl ⟨⟨rfl, rfl⟩, Nat.le_of_ble_eq_true rfl, Nat.le_of_ble_eq_true rfl⟩ ⟨hc, hs⟩ rfl rfl (Nat.le_of_ble_eq_true rfl) dL_law_524 (fun r2 w2 hp => ?_)
  obtain ⟨rfl, rfl⟩ := hp
  refine n_icmp_eq_t C (tgt := 782) dL_law_527 (by decide) ((kite_eq hg hfA hm y1 y2).symm) ?_
  exact k _ _ (hI)
set_option maxHeartbeats 1000000 in
set_option maxRecDepth 100000 in
theorem law_c16 {E : Ev} {x : Cx} {kc ks : Nat} {b9 L : Nat} {xs : Nat → Int32} {q1 q2 : Nat} {h : Nat → Nat} {a : Nat → Nat → Nat} {o r s : Nat} {sa b : Nat → Nat} (C : Ok E x cL_law RL wsL_law room_1) (X9 : scrX x b9 L xs) (hc : kc ≤ 600000) (hs : ks ≤ 7302250) {i : Nat} {y1 y2 : Int32} (i1 : vp_in (nI i + 1) L) (i2 : vp_in (nI i + 2) L) (hy1 : xs (nI i + 1).toNatClampNeg = y1) (hy2 : xs (nI i + 2).toNatClampNeg = y2) {κ : KSt} {μ : MD} (hI : Inv κ μ) (k : ∀ κ2 μ2, Inv κ2 μ2 → GN E x kc ks (kW E q1 h a o r s sa κ2 ++ modW E q2 b μ2) [some (.ref b9), some (.ref q1), some (.ref q2), some (.int (nI i))] 782 []) : GN E x kc ks (kW E q1 h a o r s sa κ ++ modW E q2 b μ) [some (.ref b9), some (.ref q1), some (.ref q2), some (.int (nI i))] 532 [] := by
  have hk : okH κ := hI.2.1.1
  have hz : kjz κ ≤ 4 := hI.2.1.1.2
  have hHL : mHL μ = nI (kjz κ) := hI.2.1.2.1
  have hf : okFr (kjS κ) := inv_fr hI
  have hH := hI.2.2.1.1
  have hN := hI.2.2.1.2
  have hn := hI.2.2.2.2.1.1
  have hTL := hI.2.2.2.2.1.2.1
  obtain ⟨hg, fA, hfA, hm⟩ := hI.1
  refine n_aload_n C dL_law_532 rfl rfl ?_
  refine n_aload_n C dL_law_533 rfl rfl ?_
  refine n_iload_n C dL_law_534 rfl rfl ?_
  refine n_iconst C (v := 1) dL_law_535 rfl ?_
  refine n_iadd C dL_law_536 ?_
  refine n_sldY C X9 i1 hy1 dL_law_537 ?_
  refine n_aload_n C dL_law_538 rfl rfl ?_
  refine n_iload_n C dL_law_539 rfl rfl ?_
  refine n_iconst C (v := 2) dL_law_540 rfl ?_
  refine n_iadd C dL_law_541 ?_
  refine n_sldY C X9 i2 hy2 dL_law_542 ?_
  refine n_calliR C (modW E q2 b μ) kW_hd rfl (c_X3_string E q1 h a o r s sa κ y1 y2) (List.Perm.refl _) (fun w => w ++ modW E q2 b μ) (fun w => List.Perm.refl _) cf_X3_string gL_law_X3_string rfl ⟨⟨rfl, rfl⟩, Nat.le_of_ble_eq_true rfl, Nat.le_of_ble_eq_true rfl⟩ ⟨hc, hs⟩ rfl rfl (Nat.le_of_ble_eq_true rfl) dL_law_543 (fun r1 w1 hp => ?_)
  obtain ⟨rfl, rfl⟩ := hp
  refine n_aload_n C dL_law_546 rfl rfl ?_
  refine n_aload_n C dL_law_547 rfl rfl ?_
  refine n_iload_n C dL_law_548 rfl rfl ?_
  refine n_iconst C (v := 1) dL_law_549 rfl ?_
  refine n_iadd C dL_law_550 ?_
  refine n_sldY C X9 i1 hy1 dL_law_551 ?_
  refine n_aload_n C dL_law_552 rfl rfl ?_
  refine n_iload_n C dL_law_553 rfl rfl ?_
  refine n_iconst C (v := 2) dL_law_554 rfl ?_
  refine n_iadd C dL_law_555 ?_
  refine n_sldY C X9 i2 hy2 dL_law_556 ?_
  refine n_calliR C (kW E q1 h a o r s sa κ) modW_hd rfl (c_X4_string E q2 b μ y1 y2 (string_eq hg hm y1 y2).2) List.perm_append_comm (fun w => kW E q1 h a o r s sa κ ++ w) (fun w => List.perm_append_comm) cf_X4_string gL_law_X4_string rfl ⟨⟨rfl, rfl⟩, Nat.le_of_ble_eq_true rfl, Nat.le_of_ble_eq_true rfl⟩ ⟨hc, hs⟩ rfl rfl (Nat.le_of_ble_eq_true rfl) dL_law_557 (fun r2 w2 hp => ?_)
  obtain ⟨rfl, rfl⟩ := hp
  refine n_icmp_eq_t C (tgt := 782) dL_law_560 (by decide) ((string_eq hg hm y1 y2).1.symm) ?_
  exact k _ _ (hI)
set_option maxHeartbeats 1000000 in
set_option maxRecDepth 100000 in
theorem law_c17 {E : Ev} {x : Cx} {kc ks : Nat} {b9 L : Nat} {xs : Nat → Int32} {q1 q2 : Nat} {h : Nat → Nat} {a : Nat → Nat → Nat} {o r s : Nat} {sa b : Nat → Nat} (C : Ok E x cL_law RL wsL_law room_1) (X9 : scrX x b9 L xs) (hc : kc ≤ 600000) (hs : ks ≤ 7302250) {i : Nat} {y1 y2 : Int32} (i1 : vp_in (nI i + 1) L) (i2 : vp_in (nI i + 2) L) (hy1 : xs (nI i + 1).toNatClampNeg = y1) (hy2 : xs (nI i + 2).toNatClampNeg = y2) {κ : KSt} {μ : MD} (hI : Inv κ μ) (k : ∀ κ2 μ2, Inv κ2 μ2 → GN E x kc ks (kW E q1 h a o r s sa κ2 ++ modW E q2 b μ2) [some (.ref b9), some (.ref q1), some (.ref q2), some (.int (nI i))] 782 []) : GN E x kc ks (kW E q1 h a o r s sa κ ++ modW E q2 b μ) [some (.ref b9), some (.ref q1), some (.ref q2), some (.int (nI i))] 565 [] := by
  have hk : okH κ := hI.2.1.1
  have hz : kjz κ ≤ 4 := hI.2.1.1.2
  have hHL : mHL μ = nI (kjz κ) := hI.2.1.2.1
  have hf : okFr (kjS κ) := inv_fr hI
  have hH := hI.2.2.1.1
  have hN := hI.2.2.1.2
  have hn := hI.2.2.2.2.1.1
  have hTL := hI.2.2.2.2.1.2.1
  obtain ⟨hg, fA, hfA, hm⟩ := hI.1
  refine n_aload_n C dL_law_565 rfl rfl ?_
  refine n_aload_n C dL_law_566 rfl rfl ?_
  refine n_iload_n C dL_law_567 rfl rfl ?_
  refine n_iconst C (v := 1) dL_law_568 rfl ?_
  refine n_iadd C dL_law_569 ?_
  refine n_sldY C X9 i1 hy1 dL_law_570 ?_
  refine n_aload_n C dL_law_571 rfl rfl ?_
  refine n_iload_n C dL_law_572 rfl rfl ?_
  refine n_iconst C (v := 2) dL_law_573 rfl ?_
  refine n_iadd C dL_law_574 ?_
  refine n_sldY C X9 i2 hy2 dL_law_575 ?_
  refine n_calliR C (modW E q2 b μ) kW_hd rfl (c_X3_drawn E q1 h a o r s sa κ y1 y2) (List.Perm.refl _) (fun w => w ++ modW E q2 b μ) (fun w => List.Perm.refl _) cf_X3_drawn gL_law_X3_drawn rfl ⟨⟨rfl, rfl⟩, Nat.le_of_ble_eq_true rfl, Nat.le_of_ble_eq_true rfl⟩ ⟨hc, hs⟩ rfl rfl (Nat.le_of_ble_eq_true rfl) dL_law_576 (fun r1 w1 hp => ?_)
  obtain ⟨rfl, rfl⟩ := hp
  refine n_aload_n C dL_law_579 rfl rfl ?_
  refine n_aload_n C dL_law_580 rfl rfl ?_
  refine n_iload_n C dL_law_581 rfl rfl ?_
  refine n_iconst C (v := 1) dL_law_582 rfl ?_
  refine n_iadd C dL_law_583 ?_
  refine n_sldY C X9 i1 hy1 dL_law_584 ?_
  refine n_aload_n C dL_law_585 rfl rfl ?_
  refine n_iload_n C dL_law_586 rfl rfl ?_
  refine n_iconst C (v := 2) dL_law_587 rfl ?_
  refine n_iadd C dL_law_588 ?_
  refine n_sldY C X9 i2 hy2 dL_law_589 ?_
  refine n_calliR C (kW E q1 h a o r s sa κ) modW_hd rfl (c_X4_drawn E q2 b μ y1 y2 (drawn_eq hg hm y1 y2).2) List.perm_append_comm (fun w => kW E q1 h a o r s sa κ ++ w) (fun w => List.perm_append_comm) cf_X4_drawn gL_law_X4_drawn rfl ⟨⟨rfl, rfl⟩, Nat.le_of_ble_eq_true rfl, Nat.le_of_ble_eq_true rfl⟩ ⟨hc, hs⟩ rfl rfl (Nat.le_of_ble_eq_true rfl) dL_law_590 (fun r2 w2 hp => ?_)
  obtain ⟨rfl, rfl⟩ := hp
  refine n_icmp_eq_t C (tgt := 782) dL_law_593 (by decide) ((drawn_eq hg hm y1 y2).1.symm) ?_
  exact k _ _ (hI)
set_option maxHeartbeats 1000000 in
set_option maxRecDepth 100000 in
theorem law_c18 {E : Ev} {x : Cx} {kc ks : Nat} {b9 L : Nat} {xs : Nat → Int32} {q1 q2 : Nat} {h : Nat → Nat} {a : Nat → Nat → Nat} {o r s : Nat} {sa b : Nat → Nat} (C : Ok E x cL_law RL wsL_law room_1) (X9 : scrX x b9 L xs) (hc : kc ≤ 600000) (hs : ks ≤ 7302250) {i : Nat} {y1 y2 : Int32} (i1 : vp_in (nI i + 1) L) (i2 : vp_in (nI i + 2) L) (hy1 : xs (nI i + 1).toNatClampNeg = y1) (hy2 : xs (nI i + 2).toNatClampNeg = y2) {κ : KSt} {μ : MD} (hI : Inv κ μ) (k : ∀ κ2 μ2, Inv κ2 μ2 → GN E x kc ks (kW E q1 h a o r s sa κ2 ++ modW E q2 b μ2) [some (.ref b9), some (.ref q1), some (.ref q2), some (.int (nI i))] 782 []) : GN E x kc ks (kW E q1 h a o r s sa κ ++ modW E q2 b μ) [some (.ref b9), some (.ref q1), some (.ref q2), some (.int (nI i))] 598 [] := by
  have hk : okH κ := hI.2.1.1
  have hz : kjz κ ≤ 4 := hI.2.1.1.2
  have hHL : mHL μ = nI (kjz κ) := hI.2.1.2.1
  have hf : okFr (kjS κ) := inv_fr hI
  have hH := hI.2.2.1.1
  have hN := hI.2.2.1.2
  have hn := hI.2.2.2.2.1.1
  have hTL := hI.2.2.2.2.1.2.1
  obtain ⟨hg, fA, hfA, hm⟩ := hI.1
  refine n_aload_n C dL_law_598 rfl rfl ?_
  refine n_aload_n C dL_law_599 rfl rfl ?_
  refine n_iload_n C dL_law_600 rfl rfl ?_
  refine n_iconst C (v := 1) dL_law_601 rfl ?_
  refine n_iadd C dL_law_602 ?_
  refine n_sldY C X9 i1 hy1 dL_law_603 ?_
  refine n_calliR C (modW E q2 b μ) kW_hd rfl (c_X3_share E q1 h a o r s sa κ y1) (List.Perm.refl _) (fun w => w ++ modW E q2 b μ) (fun w => List.Perm.refl _) cf_X3_share gL_law_X3_share rfl ⟨⟨rfl, rfl⟩, Nat.le_of_ble_eq_true rfl, Nat.le_of_ble_eq_true rfl⟩ ⟨hc, hs⟩ rfl rfl (Nat.le_of_ble_eq_true rfl) dL_law_604 (fun r1 w1 hp => ?_)
  obtain ⟨rfl, rfl⟩ := hp
  refine n_aload_n C dL_law_607 rfl rfl ?_
  refine n_aload_n C dL_law_608 rfl rfl ?_
  refine n_iload_n C dL_law_609 rfl rfl ?_
  refine n_iconst C (v := 1) dL_law_610 rfl ?_
  refine n_iadd C dL_law_611 ?_
  refine n_sldY C X9 i1 hy1 dL_law_612 ?_
  refine n_calliR C (kW E q1 h a o r s sa κ) modW_hd rfl (c_X4_share E q2 b μ y1 (share_eq hg hm y1).2) List.perm_append_comm (fun w => kW E q1 h a o r s sa κ ++ w) (fun w => List.perm_append_comm) cf_X4_share gL_law_X4_share rfl ⟨⟨rfl, rfl⟩, Nat.le_of_ble_eq_true rfl, Nat.le_of_ble_eq_true rfl⟩ ⟨hc, hs⟩ rfl rfl (Nat.le_of_ble_eq_true rfl) dL_law_613 (fun r2 w2 hp => ?_)
  obtain ⟨rfl, rfl⟩ := hp
  refine n_icmp_eq_t C (tgt := 782) dL_law_616 (by decide) ((share_eq hg hm y1).1.symm) ?_
  exact k _ _ (hI)
set_option maxHeartbeats 1000000 in
set_option maxRecDepth 100000 in
theorem law_c19 {E : Ev} {x : Cx} {kc ks : Nat} {b9 L : Nat} {xs : Nat → Int32} {q1 q2 : Nat} {h : Nat → Nat} {a : Nat → Nat → Nat} {o r s : Nat} {sa b : Nat → Nat} (C : Ok E x cL_law RL wsL_law room_1) (X9 : scrX x b9 L xs) (hc : kc ≤ 600000) (hs : ks ≤ 7302250) {i : Nat} {y1 y2 : Int32} (i1 : vp_in (nI i + 1) L) (i2 : vp_in (nI i + 2) L) (hy1 : xs (nI i + 1).toNatClampNeg = y1) (hy2 : xs (nI i + 2).toNatClampNeg = y2) {κ : KSt} {μ : MD} (hI : Inv κ μ) (k : ∀ κ2 μ2, Inv κ2 μ2 → GN E x kc ks (kW E q1 h a o r s sa κ2 ++ modW E q2 b μ2) [some (.ref b9), some (.ref q1), some (.ref q2), some (.int (nI i))] 782 []) : GN E x kc ks (kW E q1 h a o r s sa κ ++ modW E q2 b μ) [some (.ref b9), some (.ref q1), some (.ref q2), some (.int (nI i))] 621 [] := by
  have hk : okH κ := hI.2.1.1
  have hz : kjz κ ≤ 4 := hI.2.1.1.2
  have hHL : mHL μ = nI (kjz κ) := hI.2.1.2.1
  have hf : okFr (kjS κ) := inv_fr hI
  have hH := hI.2.2.1.1
  have hN := hI.2.2.1.2
  have hn := hI.2.2.2.2.1.1
  have hTL := hI.2.2.2.2.1.2.1
  obtain ⟨hg, fA, hfA, hm⟩ := hI.1
  refine n_aload_n C dL_law_621 rfl rfl ?_
  refine n_aload_n C dL_law_622 rfl rfl ?_
  refine n_iload_n C dL_law_623 rfl rfl ?_
  refine n_iconst C (v := 1) dL_law_624 rfl ?_
  refine n_iadd C dL_law_625 ?_
  refine n_sldY C X9 i1 hy1 dL_law_626 ?_
  refine n_calliR C (modW E q2 b μ) kW_hd rfl (c_X3_windOf E q1 h a o r s sa κ y1) (List.Perm.refl _) (fun w => w ++ modW E q2 b μ) (fun w => List.Perm.refl _) cf_X3_windOf gL_law_X3_windOf rfl ⟨⟨rfl, rfl⟩, Nat.le_of_ble_eq_true rfl, Nat.le_of_ble_eq_true rfl⟩ ⟨hc, hs⟩ rfl rfl (Nat.le_of_ble_eq_true rfl) dL_law_627 (fun r1 w1 hp => ?_)
  obtain ⟨rfl, rfl⟩ := hp
  refine n_aload_n C dL_law_630 rfl rfl ?_
  refine n_aload_n C dL_law_631 rfl rfl ?_
  refine n_iload_n C dL_law_632 rfl rfl ?_
  refine n_iconst C (v := 1) dL_law_633 rfl ?_
  refine n_iadd C dL_law_634 ?_
  refine n_sldY C X9 i1 hy1 dL_law_635 ?_
  refine n_calliR C (kW E q1 h a o r s sa κ) modW_hd rfl (c_X4_windOf E q2 b μ y1) List.perm_append_comm (fun w => kW E q1 h a o r s sa κ ++ w) (fun w => List.perm_append_comm) cf_X4_windOf gL_law_X4_windOf rfl ⟨⟨rfl, rfl⟩, Nat.le_of_ble_eq_true rfl, Nat.le_of_ble_eq_true rfl⟩ ⟨hc, hs⟩ rfl rfl (Nat.le_of_ble_eq_true rfl) dL_law_636 (fun r2 w2 hp => ?_)
  obtain ⟨rfl, rfl⟩ := hp
  refine n_icmp_eq_t C (tgt := 782) dL_law_639 (by decide) ((windO_eq hm y1).symm) ?_
  exact k _ _ (hI)
set_option maxHeartbeats 1000000 in
set_option maxRecDepth 100000 in
theorem law_c20 {E : Ev} {x : Cx} {kc ks : Nat} {b9 L : Nat} {xs : Nat → Int32} {q1 q2 : Nat} {h : Nat → Nat} {a : Nat → Nat → Nat} {o r s : Nat} {sa b : Nat → Nat} (C : Ok E x cL_law RL wsL_law room_1) (X9 : scrX x b9 L xs) (hc : kc ≤ 600000) (hs : ks ≤ 7302250) {i : Nat} {y1 y2 : Int32} (i1 : vp_in (nI i + 1) L) (i2 : vp_in (nI i + 2) L) (hy1 : xs (nI i + 1).toNatClampNeg = y1) (hy2 : xs (nI i + 2).toNatClampNeg = y2) {κ : KSt} {μ : MD} (hI : Inv κ μ) (k : ∀ κ2 μ2, Inv κ2 μ2 → GN E x kc ks (kW E q1 h a o r s sa κ2 ++ modW E q2 b μ2) [some (.ref b9), some (.ref q1), some (.ref q2), some (.int (nI i))] 782 []) : GN E x kc ks (kW E q1 h a o r s sa κ ++ modW E q2 b μ) [some (.ref b9), some (.ref q1), some (.ref q2), some (.int (nI i))] 644 [] := by
  have hk : okH κ := hI.2.1.1
  have hz : kjz κ ≤ 4 := hI.2.1.1.2
  have hHL : mHL μ = nI (kjz κ) := hI.2.1.2.1
  have hf : okFr (kjS κ) := inv_fr hI
  have hH := hI.2.2.1.1
  have hN := hI.2.2.1.2
  have hn := hI.2.2.2.2.1.1
  have hTL := hI.2.2.2.2.1.2.1
  obtain ⟨eq9, inv9⟩ := t_ifRead hI y1 y2
  refine n_aload_n C dL_law_644 rfl rfl ?_
  refine n_aload_n C dL_law_645 rfl rfl ?_
  refine n_iload_n C dL_law_646 rfl rfl ?_
  refine n_iconst C (v := 1) dL_law_647 rfl ?_
  refine n_iadd C dL_law_648 ?_
  refine n_sldY C X9 i1 hy1 dL_law_649 ?_
  refine n_aload_n C dL_law_650 rfl rfl ?_
  refine n_iload_n C dL_law_651 rfl rfl ?_
  refine n_iconst C (v := 2) dL_law_652 rfl ?_
  refine n_iadd C dL_law_653 ?_
  refine n_sldY C X9 i2 hy2 dL_law_654 ?_
  refine n_calliR C (modW E q2 b μ) kW_hd rfl (c_X3_ifRead E q1 h a o r s sa κ y1 y2) (List.Perm.refl _) (fun w => w ++ modW E q2 b μ) (fun w => List.Perm.refl _) cf_X3_ifRead gL_law_X3_ifRead rfl ⟨⟨rfl, rfl⟩, Nat.le_of_ble_eq_true rfl, Nat.le_of_ble_eq_true rfl⟩ ⟨hc, hs⟩ rfl rfl (Nat.le_of_ble_eq_true rfl) dL_law_655 (fun r1 w1 hp => ?_)
  obtain ⟨rfl, rfl⟩ := hp
  refine n_aload_n C dL_law_658 rfl rfl ?_
  refine n_aload_n C dL_law_659 rfl rfl ?_
  refine n_iload_n C dL_law_660 rfl rfl ?_
  refine n_iconst C (v := 1) dL_law_661 rfl ?_
  refine n_iadd C dL_law_662 ?_
  refine n_sldY C X9 i1 hy1 dL_law_663 ?_
  refine n_aload_n C dL_law_664 rfl rfl ?_
  refine n_iload_n C dL_law_665 rfl rfl ?_
  refine n_iconst C (v := 2) dL_law_666 rfl ?_
  refine n_iadd C dL_law_667 ?_
  refine n_sldY C X9 i2 hy2 dL_law_668 ?_
  refine n_calliR C (kW E q1 h a o r s sa κ) modW_hd rfl (c_X4_ifRead E q2 b μ (qK (kjS κ) y1) (fmo8 (sBs (kjS κ))) (fmo8_lt _) (t_be hI) y1 y2 (p_read hI y1)) List.perm_append_comm (fun w => kW E q1 h a o r s sa κ ++ w) (fun w => List.perm_append_comm) cf_X4_ifRead gL_law_X4_ifRead rfl ⟨⟨rfl, rfl⟩, Nat.le_of_ble_eq_true rfl, Nat.le_of_ble_eq_true rfl⟩ ⟨hc, hs⟩ rfl rfl (Nat.le_of_ble_eq_true rfl) dL_law_669 (fun r2 w2 hp => ?_)
  obtain ⟨rfl, rfl⟩ := hp
  refine n_icmp_eq_t C (tgt := 782) dL_law_672 (by decide) (eq9) ?_
  exact k _ _ (inv9)
set_option maxHeartbeats 1000000 in
set_option maxRecDepth 100000 in
theorem law_c21 {E : Ev} {x : Cx} {kc ks : Nat} {b9 L : Nat} {xs : Nat → Int32} {q1 q2 : Nat} {h : Nat → Nat} {a : Nat → Nat → Nat} {o r s : Nat} {sa b : Nat → Nat} (C : Ok E x cL_law RL wsL_law room_1) (X9 : scrX x b9 L xs) (hc : kc ≤ 600000) (hs : ks ≤ 7302250) {i : Nat} {y1 y2 : Int32} (i1 : vp_in (nI i + 1) L) (i2 : vp_in (nI i + 2) L) (hy1 : xs (nI i + 1).toNatClampNeg = y1) (hy2 : xs (nI i + 2).toNatClampNeg = y2) {κ : KSt} {μ : MD} (hI : Inv κ μ) (k : ∀ κ2 μ2, Inv κ2 μ2 → GN E x kc ks (kW E q1 h a o r s sa κ2 ++ modW E q2 b μ2) [some (.ref b9), some (.ref q1), some (.ref q2), some (.int (nI i))] 782 []) : GN E x kc ks (kW E q1 h a o r s sa κ ++ modW E q2 b μ) [some (.ref b9), some (.ref q1), some (.ref q2), some (.int (nI i))] 677 [] := by
  have hk : okH κ := hI.2.1.1
  have hz : kjz κ ≤ 4 := hI.2.1.1.2
  have hHL : mHL μ = nI (kjz κ) := hI.2.1.2.1
  have hf : okFr (kjS κ) := inv_fr hI
  have hH := hI.2.2.1.1
  have hN := hI.2.2.1.2
  have hn := hI.2.2.2.2.1.1
  have hTL := hI.2.2.2.2.1.2.1
  refine n_aload_n C dL_law_677 rfl rfl ?_
  refine n_aload_n C dL_law_678 rfl rfl ?_
  refine n_iload_n C dL_law_679 rfl rfl ?_
  refine n_iconst C (v := 1) dL_law_680 rfl ?_
  refine n_iadd C dL_law_681 ?_
  refine n_sldY C X9 i1 hy1 dL_law_682 ?_
  refine n_calliR C (modW E q2 b μ) kW_hd rfl (c_X3_readsToCut E q1 h a o r s sa κ y1) (List.Perm.refl _) (fun w => w ++ modW E q2 b μ) (fun w => List.Perm.refl _) cf_X3_readsToCut gL_law_X3_readsToCut rfl ⟨⟨rfl, rfl⟩, Nat.le_of_ble_eq_true rfl, Nat.le_of_ble_eq_true rfl⟩ ⟨hc, hs⟩ rfl rfl (Nat.le_of_ble_eq_true rfl) dL_law_683 (fun r1 w1 hp => ?_)
  obtain ⟨rfl, rfl⟩ := hp
  refine n_aload_n C dL_law_686 rfl rfl ?_
  refine n_aload_n C dL_law_687 rfl rfl ?_
  refine n_iload_n C dL_law_688 rfl rfl ?_
  refine n_iconst C (v := 1) dL_law_689 rfl ?_
  refine n_iadd C dL_law_690 ?_
  refine n_sldY C X9 i1 hy1 dL_law_691 ?_
  refine n_calliR C (kW E q1 h a o r s sa κ) modW_hd rfl (c_X4_readsToCut E q2 b μ (qK (kjS κ) y1) (fmo8 (sBs (kjS κ))) (fmo8_lt _) (t_be hI) y1 (t_rdc hI y1).2.2) List.perm_append_comm (fun w => kW E q1 h a o r s sa κ ++ w) (fun w => List.perm_append_comm) cf_X4_readsToCut gL_law_X4_readsToCut rfl ⟨⟨rfl, rfl⟩, Nat.le_of_ble_eq_true rfl, Nat.le_of_ble_eq_true rfl⟩ ⟨hc, hs⟩ rfl rfl (Nat.le_of_ble_eq_true rfl) dL_law_692 (fun r2 w2 hp => ?_)
  obtain ⟨rfl, rfl⟩ := hp
  refine n_icmp_eq_t C (tgt := 782) dL_law_695 (by decide) ((t_rdc hI y1).1) ?_
  exact k _ _ ((t_rdc hI y1).2.1)
set_option maxHeartbeats 1000000 in
set_option maxRecDepth 100000 in
theorem law_c22 {E : Ev} {x : Cx} {kc ks : Nat} {b9 L : Nat} {xs : Nat → Int32} {q1 q2 : Nat} {h : Nat → Nat} {a : Nat → Nat → Nat} {o r s : Nat} {sa b : Nat → Nat} (C : Ok E x cL_law RL wsL_law room_1) (X9 : scrX x b9 L xs) (hc : kc ≤ 600000) (hs : ks ≤ 7302250) {i : Nat} {y1 y2 : Int32} (i1 : vp_in (nI i + 1) L) (i2 : vp_in (nI i + 2) L) (hy1 : xs (nI i + 1).toNatClampNeg = y1) (hy2 : xs (nI i + 2).toNatClampNeg = y2) {κ : KSt} {μ : MD} (hI : Inv κ μ) (k : ∀ κ2 μ2, Inv κ2 μ2 → GN E x kc ks (kW E q1 h a o r s sa κ2 ++ modW E q2 b μ2) [some (.ref b9), some (.ref q1), some (.ref q2), some (.int (nI i))] 782 []) : GN E x kc ks (kW E q1 h a o r s sa κ ++ modW E q2 b μ) [some (.ref b9), some (.ref q1), some (.ref q2), some (.int (nI i))] 700 [] := by
  have hk : okH κ := hI.2.1.1
  have hz : kjz κ ≤ 4 := hI.2.1.1.2
  have hHL : mHL μ = nI (kjz κ) := hI.2.1.2.1
  have hf : okFr (kjS κ) := inv_fr hI
  have hH := hI.2.2.1.1
  have hN := hI.2.2.1.2
  have hn := hI.2.2.2.2.1.1
  have hTL := hI.2.2.2.2.1.2.1
  refine n_aload_n C dL_law_700 rfl rfl ?_
  refine n_aload_n C dL_law_701 rfl rfl ?_
  refine n_iload_n C dL_law_702 rfl rfl ?_
  refine n_iconst C (v := 1) dL_law_703 rfl ?_
  refine n_iadd C dL_law_704 ?_
  refine n_sldY C X9 i1 hy1 dL_law_705 ?_
  refine n_aload_n C dL_law_706 rfl rfl ?_
  refine n_iload_n C dL_law_707 rfl rfl ?_
  refine n_iconst C (v := 2) dL_law_708 rfl ?_
  refine n_iadd C dL_law_709 ?_
  refine n_sldY C X9 i2 hy2 dL_law_710 ?_
  refine n_calliR C (modW E q2 b μ) kW_hd rfl (c_X3_downIn E q1 h a o r s sa κ hf y1 y2) (List.Perm.refl _) (fun w => w ++ modW E q2 b μ) (fun w => List.Perm.refl _) cf_X3_downIn gL_law_X3_downIn rfl ⟨⟨rfl, rfl⟩, Nat.le_of_ble_eq_true rfl, Nat.le_of_ble_eq_true rfl⟩ ⟨hc, hs⟩ rfl rfl (Nat.le_of_ble_eq_true rfl) dL_law_711 (fun r1 w1 hp => ?_)
  obtain ⟨rfl, t, rfl⟩ := hp
  refine n_aload_n C dL_law_714 rfl rfl ?_
  refine n_aload_n C dL_law_715 rfl rfl ?_
  refine n_iload_n C dL_law_716 rfl rfl ?_
  refine n_iconst C (v := 1) dL_law_717 rfl ?_
  refine n_iadd C dL_law_718 ?_
  refine n_sldY C X9 i1 hy1 dL_law_719 ?_
  refine n_aload_n C dL_law_720 rfl rfl ?_
  refine n_iload_n C dL_law_721 rfl rfl ?_
  refine n_iconst C (v := 2) dL_law_722 rfl ?_
  refine n_iadd C dL_law_723 ?_
  refine n_sldY C X9 i2 hy2 dL_law_724 ?_
  refine n_calliR C (kW E q1 h a o r s sa (kDown κ t)) modW_hd rfl (c_X4_downIn E q2 b μ y1 y2 (t_down hI y1 y2).2.2) List.perm_append_comm (fun w => kW E q1 h a o r s sa (kDown κ t) ++ w) (fun w => List.perm_append_comm) cf_X4_downIn gL_law_X4_downIn rfl ⟨⟨rfl, rfl⟩, Nat.le_of_ble_eq_true rfl, Nat.le_of_ble_eq_true rfl⟩ ⟨hc, hs⟩ rfl rfl (Nat.le_of_ble_eq_true rfl) dL_law_725 (fun r2 w2 hp => ?_)
  obtain ⟨rfl, rfl⟩ := hp
  refine n_icmp_eq_t C (tgt := 782) dL_law_728 (by decide) ((t_down hI y1 y2).1) ?_
  exact k _ _ ((t_down hI y1 y2).2.1)
set_option maxHeartbeats 1000000 in
set_option maxRecDepth 100000 in
theorem law_c23 {E : Ev} {x : Cx} {kc ks : Nat} {b9 L : Nat} {xs : Nat → Int32} {q1 q2 : Nat} {h : Nat → Nat} {a : Nat → Nat → Nat} {o r s : Nat} {sa b : Nat → Nat} (C : Ok E x cL_law RL wsL_law room_1) (X9 : scrX x b9 L xs) (hc : kc ≤ 600000) (hs : ks ≤ 7302250) {i : Nat} {y1 y2 : Int32} (i1 : vp_in (nI i + 1) L) (i2 : vp_in (nI i + 2) L) (hy1 : xs (nI i + 1).toNatClampNeg = y1) (hy2 : xs (nI i + 2).toNatClampNeg = y2) {κ : KSt} {μ : MD} (hI : Inv κ μ) (k : ∀ κ2 μ2, Inv κ2 μ2 → GN E x kc ks (kW E q1 h a o r s sa κ2 ++ modW E q2 b μ2) [some (.ref b9), some (.ref q1), some (.ref q2), some (.int (nI i))] 782 []) : GN E x kc ks (kW E q1 h a o r s sa κ ++ modW E q2 b μ) [some (.ref b9), some (.ref q1), some (.ref q2), some (.int (nI i))] 733 [] := by
  have hk : okH κ := hI.2.1.1
  have hz : kjz κ ≤ 4 := hI.2.1.1.2
  have hHL : mHL μ = nI (kjz κ) := hI.2.1.2.1
  have hf : okFr (kjS κ) := inv_fr hI
  have hH := hI.2.2.1.1
  have hN := hI.2.2.1.2
  have hn := hI.2.2.2.2.1.1
  have hTL := hI.2.2.2.2.1.2.1
  refine n_aload_n C dL_law_733 rfl rfl ?_
  refine n_calliR C (modW E q2 b μ) kW_hd rfl (c_X3_safeWind E q1 h a o r s sa κ) (List.Perm.refl _) (fun w => w ++ modW E q2 b μ) (fun w => List.Perm.refl _) cf_X3_safeWind gL_law_X3_safeWind rfl ⟨⟨rfl, rfl⟩, Nat.le_of_ble_eq_true rfl, Nat.le_of_ble_eq_true rfl⟩ ⟨hc, hs⟩ rfl rfl (Nat.le_of_ble_eq_true rfl) dL_law_734 (fun r1 w1 hp => ?_)
  obtain ⟨rfl, rfl⟩ := hp
  refine n_aload_n C dL_law_737 rfl rfl ?_
  refine n_calliR C (kW E q1 h a o r s sa κ) modW_hd rfl (c_X4_safeWind E q2 b μ (t_safe hI).2) List.perm_append_comm (fun w => kW E q1 h a o r s sa κ ++ w) (fun w => List.perm_append_comm) cf_X4_safeWind gL_law_X4_safeWind rfl ⟨⟨rfl, rfl⟩, Nat.le_of_ble_eq_true rfl, Nat.le_of_ble_eq_true rfl⟩ ⟨hc, hs⟩ rfl rfl (Nat.le_of_ble_eq_true rfl) dL_law_738 (fun r2 w2 hp => ?_)
  obtain ⟨rfl, t, rfl⟩ := hp
  refine n_icmp_eq_t C (tgt := 782) dL_law_741 (by decide) ((t_safe hI).1) ?_
  exact k _ _ (hI)
set_option maxHeartbeats 1000000 in
set_option maxRecDepth 100000 in
theorem law_c24 {E : Ev} {x : Cx} {kc ks : Nat} {b9 L : Nat} {xs : Nat → Int32} {q1 q2 : Nat} {h : Nat → Nat} {a : Nat → Nat → Nat} {o r s : Nat} {sa b : Nat → Nat} (C : Ok E x cL_law RL wsL_law room_1) (X9 : scrX x b9 L xs) (hc : kc ≤ 600000) (hs : ks ≤ 7302250) {i : Nat} {y1 y2 : Int32} (i1 : vp_in (nI i + 1) L) (i2 : vp_in (nI i + 2) L) (hy1 : xs (nI i + 1).toNatClampNeg = y1) (hy2 : xs (nI i + 2).toNatClampNeg = y2) {κ : KSt} {μ : MD} (hI : Inv κ μ) (k : ∀ κ2 μ2, Inv κ2 μ2 → GN E x kc ks (kW E q1 h a o r s sa κ2 ++ modW E q2 b μ2) [some (.ref b9), some (.ref q1), some (.ref q2), some (.int (nI i))] 782 []) : GN E x kc ks (kW E q1 h a o r s sa κ ++ modW E q2 b μ) [some (.ref b9), some (.ref q1), some (.ref q2), some (.int (nI i))] 746 [] := by
  have hk : okH κ := hI.2.1.1
  have hz : kjz κ ≤ 4 := hI.2.1.1.2
  have hHL : mHL μ = nI (kjz κ) := hI.2.1.2.1
  have hf : okFr (kjS κ) := inv_fr hI
  have hH := hI.2.2.1.1
  have hN := hI.2.2.1.2
  have hn := hI.2.2.2.2.1.1
  have hTL := hI.2.2.2.2.1.2.1
  obtain ⟨e9, s9⟩ := t_calm hI
  have MC := c_X3_calmest E q1 h a o r s sa κ
  have MM := c_X4_calmest E q2 b μ s9
  generalize clF (sSt (kjS κ)) (sHt (kjS κ)) 3 = v1 at MC e9
  generalize clM (gSt μ) (gHt μ) 3 = v2 at MM e9
  refine n_aload_n C dL_law_746 rfl rfl ?_
  refine n_calliR C (modW E q2 b μ) kW_hd rfl (MC) (List.Perm.refl _) (fun w => w ++ modW E q2 b μ) (fun w => List.Perm.refl _) cf_X3_calmest gL_law_X3_calmest rfl ⟨⟨rfl, rfl⟩, Nat.le_of_ble_eq_true rfl, Nat.le_of_ble_eq_true rfl⟩ ⟨hc, hs⟩ rfl rfl (Nat.le_of_ble_eq_true rfl) dL_law_747 (fun r1 w1 hp => ?_)
  obtain ⟨rfl, rfl⟩ := hp
  refine n_aload_n C dL_law_750 rfl rfl ?_
  refine n_calliR C (kW E q1 h a o r s sa κ) modW_hd rfl (MM) List.perm_append_comm (fun w => kW E q1 h a o r s sa κ ++ w) (fun w => List.perm_append_comm) cf_X4_calmest gL_law_X4_calmest rfl ⟨⟨rfl, rfl⟩, Nat.le_of_ble_eq_true rfl, Nat.le_of_ble_eq_true rfl⟩ ⟨hc, hs⟩ rfl rfl (Nat.le_of_ble_eq_true rfl) dL_law_751 (fun r2 w2 hp => ?_)
  obtain ⟨rfl, rfl⟩ := hp
  refine n_icmp_eq_t C (tgt := 782) dL_law_754 (by decide) (e9) ?_
  exact k _ _ (hI)
set_option maxHeartbeats 1000000 in
set_option maxRecDepth 100000 in
theorem law_c25 {E : Ev} {x : Cx} {kc ks : Nat} {b9 L : Nat} {xs : Nat → Int32} {q1 q2 : Nat} {h : Nat → Nat} {a : Nat → Nat → Nat} {o r s : Nat} {sa b : Nat → Nat} (C : Ok E x cL_law RL wsL_law room_1) (X9 : scrX x b9 L xs) (hc : kc ≤ 600000) (hs : ks ≤ 7302250) {i : Nat} {y1 y2 : Int32} (i1 : vp_in (nI i + 1) L) (i2 : vp_in (nI i + 2) L) (hy1 : xs (nI i + 1).toNatClampNeg = y1) (hy2 : xs (nI i + 2).toNatClampNeg = y2) {κ : KSt} {μ : MD} (hI : Inv κ μ) (k : ∀ κ2 μ2, Inv κ2 μ2 → GN E x kc ks (kW E q1 h a o r s sa κ2 ++ modW E q2 b μ2) [some (.ref b9), some (.ref q1), some (.ref q2), some (.int (nI i))] 782 []) : GN E x kc ks (kW E q1 h a o r s sa κ ++ modW E q2 b μ) [some (.ref b9), some (.ref q1), some (.ref q2), some (.int (nI i))] 759 [] := by
  have hk : okH κ := hI.2.1.1
  have hz : kjz κ ≤ 4 := hI.2.1.1.2
  have hHL : mHL μ = nI (kjz κ) := hI.2.1.2.1
  have hf : okFr (kjS κ) := inv_fr hI
  have hH := hI.2.2.1.1
  have hN := hI.2.2.1.2
  have hn := hI.2.2.2.2.1.1
  have hTL := hI.2.2.2.2.1.2.1
  refine n_aload_n C dL_law_759 rfl rfl ?_
  refine n_aload_n C dL_law_760 rfl rfl ?_
  refine n_iload_n C dL_law_761 rfl rfl ?_
  refine n_iconst C (v := 1) dL_law_762 rfl ?_
  refine n_iadd C dL_law_763 ?_
  refine n_sldY C X9 i1 hy1 dL_law_764 ?_
  refine n_calliR C (modW E q2 b μ) kW_hd rfl (c_X3_count E q1 h a o r s sa κ y1) (List.Perm.refl _) (fun w => w ++ modW E q2 b μ) (fun w => List.Perm.refl _) cf_X3_count gL_law_X3_count rfl ⟨⟨rfl, rfl⟩, Nat.le_of_ble_eq_true rfl, Nat.le_of_ble_eq_true rfl⟩ ⟨hc, hs⟩ rfl rfl (Nat.le_of_ble_eq_true rfl) dL_law_765 (fun r1 w1 hp => ?_)
  obtain ⟨rfl, rfl⟩ := hp
  refine n_aload_n C dL_law_768 rfl rfl ?_
  refine n_aload_n C dL_law_769 rfl rfl ?_
  refine n_iload_n C dL_law_770 rfl rfl ?_
  refine n_iconst C (v := 1) dL_law_771 rfl ?_
  refine n_iadd C dL_law_772 ?_
  refine n_sldY C X9 i1 hy1 dL_law_773 ?_
  refine n_calliR C (kW E q1 h a o r s sa κ) modW_hd rfl (c_X4_count E q2 b μ (fmo8 (sBs (kjS κ))) (fmo8_lt _) (t_be hI) y1) List.perm_append_comm (fun w => kW E q1 h a o r s sa κ ++ w) (fun w => List.perm_append_comm) cf_X4_count gL_law_X4_count rfl ⟨⟨rfl, rfl⟩, Nat.le_of_ble_eq_true rfl, Nat.le_of_ble_eq_true rfl⟩ ⟨hc, hs⟩ rfl rfl (Nat.le_of_ble_eq_true rfl) dL_law_774 (fun r2 w2 hp => ?_)
  obtain ⟨rfl, rfl⟩ := hp
  refine n_icmp_eq_t C (tgt := 782) dL_law_777 (by decide) (t_count hI y1) ?_
  exact k _ _ (hI)
