/-! THE LAW'S METHODS, WALKED -/
theorem up_E (E : Ev) (W : va_W) (v n : Int32) (hn : ¬ n = 0) {r : Int32} (e : upV v n = r) : MI E yL_up wsL_up (rmD 0) W [.int v, .int n] (pE r W) := by
  subst e
  exact c_L_up E W v n hn
theorem th_E (E : Ev) (W : va_W) (v : Int32) {r : Int32} (e : thr v = r) : MI E yL_there wsL_there (rmD 0) W [.int v] (pE r W) := by
  subst e
  exact c_L_there E W v
theorem tx1_80 {κ : KSt} {l : List Int32} (h : l.length ≤ 5) (v : Int32) : kjn (txA κ (l ++ nuL v)) ≤ 80 := Nat.le_trans (tx1_len h v) (by decide)
theorem tx2_80 {κ : KSt} {l : List Int32} (h : l.length ≤ 5) (v w : Int32) : kjn (txA κ ((l ++ nuL v) ++ nuL w)) ≤ 80 := Nat.le_trans (tx2_len h v w) (by decide)
def pI (E : Ev) (A B : Ad) (n : Nat) : Int32 → va_W → Prop := fun r w => r = 1 ∧ ∃ κ τ, Iv n κ τ ∧ w = w2 E A B κ τ
set_option maxHeartbeats 4000000 in
set_option maxRecDepth 100000 in
theorem is_fly {E : Ev} {x : Cx} {had th : Int32} {A B : Ad} {n : Nat} {κ τ : KSt} {x1 y z : Int32} {j : Nat} (hI : Iv n κ τ) (hj : j < 12) (C : Ok E x cL_isStep RL wsL_isStep (rmD 9)) (R0 : RetI E x .boolean (pI E A B (n + 1))) : G E x (w2 E A B κ τ) [some (.ref A.1), some (.ref B.1), some (.int x1), some (.int y), some (.int z), some (.int (nI j)), some (.int had), some (.int th), some (.int (kCnt κ 0)), none, none, none, none] 112 [] := by
  have k37 : Cond.constantLong RL 37 (6712441) ∈ wsL_isStep := by decide +kernel
  obtain ⟨q, hq, eq9⟩ := up_n y (n := 4) (by omega) (by omega)
  obtain ⟨v9, hv9, ev9⟩ := up_n (y >>> (3 &&& 31)) (n := 1999) (by omega) (by omega)
  have hv := isN_up9 hv9
  by_cases hf : freeK (sSt (kjS κ)) < 12
  · obtain ⟨k, κ1, τ1, a1, p1, hI', b0, b1, b4, b5, b6⟩ := st_fly hI hq hv hf
    refine g_iload_n C dL_isStep_112 rfl rfl ?_
    refine g_iconst C (v := 4) dL_isStep_113 rfl ?_
    refine g_calliOF C (up_E E _ y 4 (by decide) (r := (nI q)) eq9) cf_L_up gL_isStep_L_up trivial (fitD (Nat.le_of_ble_eq_true rfl) (Nat.le_of_ble_eq_true rfl)) rfl rfl (Nat.le_of_ble_eq_true rfl) dL_isStep_114 (fun q1 w1 hp => ?_)
    obtain ⟨rfl, rfl⟩ := hp
    refine g_istore C dL_isStep_117 (Nat.le_of_ble_eq_true rfl) rfl ?_
    refine g_iload_n C dL_isStep_119 rfl rfl ?_
    refine g_iconst C (v := 3) dL_isStep_120 rfl ?_
    refine g_ishr C dL_isStep_121 ?_
    refine g_sipush C (v := 1999) dL_isStep_122 rfl ?_
    refine g_calliOF C (up_E E _ (y >>> (3 &&& 31)) 1999 (by decide) (r := (nI v9)) ev9) cf_L_up gL_isStep_L_up trivial (fitD (Nat.le_of_ble_eq_true rfl) (Nat.le_of_ble_eq_true rfl)) rfl rfl (Nat.le_of_ble_eq_true rfl) dL_isStep_125 (fun q1 w1 hp => ?_)
    obtain ⟨rfl, rfl⟩ := hp
    refine g_sipush C (v := 999) dL_isStep_128 rfl ?_
    refine g_isub C dL_isStep_131 ?_
    refine g_istore C dL_isStep_132 (Nat.le_of_ble_eq_true rfl) rfl ?_
    refine g_aload_n C dL_isStep_134 rfl rfl ?_
    refine g_iload C dL_isStep_135 rfl ?_
    refine g_iload C dL_isStep_137 rfl ?_
    refine g_callK C w2_1 (k1_fly E A B κ τ hI.1 (iv_f1 hI) (nI q) ((nI v9) - 999) (r := (nI k)) (κ' := κ1) a1) cf_X3_fly gL_isStep_X3_fly rfl (fitD (Nat.le_of_ble_eq_true rfl) (Nat.le_of_ble_eq_true rfl)) rfl rfl (Nat.le_of_ble_eq_true rfl) dL_isStep_139 (fun q1 w1 hp => ?_)
    obtain ⟨rfl, rfl⟩ := hp
    refine g_istore C dL_isStep_142 (Nat.le_of_ble_eq_true rfl) rfl ?_
    show G E x (w2 E A B κ1 τ) [some (.ref A.1), some (.ref B.1), some (.int x1), some (.int y), some (.int z), some (.int (nI j)), some (.int had), some (.int th), some (.int (kCnt κ 0)), some (.int (nI q)), some (.int ((nI v9) - 999)), some (.int (nI k)), none] 144 []
    refine g_aload_n C dL_isStep_144 rfl rfl ?_
    refine g_ldc2 C k37 dL_isStep_145 ?_
    refine g_calliOF C (MI.f2 (κ := κ1) (c_L_types_fly E B τ hI.2.2.2.1)) cf_L_types gL_isStep_L_types trivial (fitD (Nat.le_of_ble_eq_true rfl) (Nat.le_of_ble_eq_true rfl)) rfl rfl (Nat.le_of_ble_eq_true rfl) dL_isStep_148 (fun q1 w1 hp => ?_)
    obtain ⟨rfl, rfl⟩ := hp
    refine g_if_eq_f C dL_isStep_151 180 (by decide) (by decide) ?_
    refine g_aload_n C dL_isStep_154 rfl rfl ?_
    refine g_iload C dL_isStep_155 rfl ?_
    refine g_calliOF C (th_E E _ (nI q) rfl) cf_L_there gL_isStep_L_there trivial (fitD (Nat.le_of_ble_eq_true rfl) (Nat.le_of_ble_eq_true rfl)) rfl rfl (Nat.le_of_ble_eq_true rfl) dL_isStep_157 (fun q1 w1 hp => ?_)
    obtain ⟨rfl, rfl⟩ := hp
    refine g_calliOF C (MI.f2 (κ := κ1) (c_L_number E B τ [102, 108, 121] (by decide) (thr (nI q)))) cf_L_number gL_isStep_L_number trivial (fitD (Nat.le_of_ble_eq_true rfl) (Nat.le_of_ble_eq_true rfl)) rfl rfl (Nat.le_of_ble_eq_true rfl) dL_isStep_160 (fun q1 w1 hp => ?_)
    obtain ⟨rfl, rfl⟩ := hp
    refine g_if_eq_f C dL_isStep_163 180 (by decide) (by decide) ?_
    refine g_aload_n C dL_isStep_166 rfl rfl ?_
    refine g_iload C dL_isStep_167 rfl ?_
    refine g_ineg C dL_isStep_169 ?_
    refine g_calliOF C (MI.f2 (κ := κ1) (c_L_number E B τ ([102, 108, 121] ++ nuL (thr (nI q))) (Nat.le_trans (tx1_len (by decide) _) (by decide)) (-((nI v9) - 999)))) cf_L_number gL_isStep_L_number trivial (fitD (Nat.le_of_ble_eq_true rfl) (Nat.le_of_ble_eq_true rfl)) rfl rfl (Nat.le_of_ble_eq_true rfl) dL_isStep_170 (fun q1 w1 hp => ?_)
    obtain ⟨rfl, rfl⟩ := hp
    refine g_if_eq_f C dL_isStep_173 180 (by decide) (by decide) ?_
    refine g_iconst C (v := 1) dL_isStep_176 rfl ?_
    refine g_goto C (tgt := 181) dL_isStep_177 (by decide) ?_
    refine g_istore C dL_isStep_181 (Nat.le_of_ble_eq_true rfl) rfl ?_
    refine g_iload C dL_isStep_183 rfl ?_
    refine g_bipush C (v := 12) dL_isStep_185 rfl ?_
    refine g_icmp_ne_t C dL_isStep_187 (tgt := 237) (by decide) b6 ?_
    refine g_iload C dL_isStep_237 rfl ?_
    refine g_if_eq_f C dL_isStep_239 300 (by decide) (by decide) ?_
    refine g_aload_n C dL_isStep_242 rfl rfl ?_
    refine g_callK C w2_2 (k2_perform E A B κ1 (txA τ (([102, 108, 121] ++ nuL (thr (nI q))) ++ nuL (-((nI v9) - 999)))) hI.2.1 (iv_f2 hI : okFr (kjS τ)) (tx2_80 (by decide) _ _ )  (r := 1) (τ' := τ1) p1) cf_X3_perform gL_isStep_X3_perform rfl (fitD (Nat.le_of_ble_eq_true rfl) (Nat.le_of_ble_eq_true rfl)) rfl rfl (Nat.le_of_ble_eq_true rfl) dL_isStep_243 (fun q1 w1 hp => ?_)
    obtain ⟨rfl, rfl⟩ := hp
    refine g_iconst C (v := 1) dL_isStep_246 rfl ?_
    refine g_icmp_ne_f C dL_isStep_247 300 (by decide) (by decide) ?_
    refine g_aload_n C dL_isStep_250 rfl rfl ?_
    refine g_iload C dL_isStep_251 rfl ?_
    refine g_iconst C (v := 0) dL_isStep_253 rfl ?_
    refine g_callK C w2_1 (k1_kite E A B κ1 τ1  (nI k) 0 (r := ((nI v9) - 999)) b0) cf_X3_kite gL_isStep_X3_kite rfl (fitD (Nat.le_of_ble_eq_true rfl) (Nat.le_of_ble_eq_true rfl)) rfl rfl (Nat.le_of_ble_eq_true rfl) dL_isStep_254 (fun q1 w1 hp => ?_)
    obtain ⟨rfl, rfl⟩ := hp
    refine g_iload C dL_isStep_257 rfl ?_
    refine g_icmp_ne_f C dL_isStep_259 300 (by decide) rfl ?_
    refine g_aload_n C dL_isStep_262 rfl rfl ?_
    refine g_iload C dL_isStep_263 rfl ?_
    refine g_iconst C (v := 1) dL_isStep_265 rfl ?_
    refine g_callK C w2_1 (k1_kite E A B κ1 τ1  (nI k) 1 (r := (nI q)) b1) cf_X3_kite gL_isStep_X3_kite rfl (fitD (Nat.le_of_ble_eq_true rfl) (Nat.le_of_ble_eq_true rfl)) rfl rfl (Nat.le_of_ble_eq_true rfl) dL_isStep_266 (fun q1 w1 hp => ?_)
    obtain ⟨rfl, rfl⟩ := hp
    refine g_iload C dL_isStep_269 rfl ?_
    refine g_icmp_ne_f C dL_isStep_271 300 (by decide) rfl ?_
    refine g_aload_n C dL_isStep_274 rfl rfl ?_
    refine g_iload C dL_isStep_275 rfl ?_
    refine g_iconst C (v := 4) dL_isStep_277 rfl ?_
    refine g_callK C w2_1 (k1_kite E A B κ1 τ1  (nI k) 4 (r := 0) b4) cf_X3_kite gL_isStep_X3_kite rfl (fitD (Nat.le_of_ble_eq_true rfl) (Nat.le_of_ble_eq_true rfl)) rfl rfl (Nat.le_of_ble_eq_true rfl) dL_isStep_278 (fun q1 w1 hp => ?_)
    obtain ⟨rfl, rfl⟩ := hp
    refine g_if_ne_f C dL_isStep_281 300 (by decide) (by decide) ?_
    refine g_aload_n C dL_isStep_284 rfl rfl ?_
    refine g_iconst C (v := 0) dL_isStep_285 rfl ?_
    refine g_callK C w2_1 (k1_count E A B κ1 τ1  0 (r := ((kCnt κ 0) + 1)) b5) cf_X3_count gL_isStep_X3_count rfl (fitD (Nat.le_of_ble_eq_true rfl) (Nat.le_of_ble_eq_true rfl)) rfl rfl (Nat.le_of_ble_eq_true rfl) dL_isStep_286 (fun q1 w1 hp => ?_)
    obtain ⟨rfl, rfl⟩ := hp
    refine g_iload C dL_isStep_289 rfl ?_
    refine g_iconst C (v := 1) dL_isStep_291 rfl ?_
    refine g_iadd C dL_isStep_292 ?_
    refine g_icmp_ne_f C dL_isStep_293 300 (by decide) rfl ?_
    refine g_iconst C (v := 1) dL_isStep_296 rfl ?_
    refine g_goto C (tgt := 301) dL_isStep_297 (by decide) ?_
    refine g_zret C R0 rfl dL_isStep_301 ?_
    exact ⟨rfl, κ1, τ1, hI', rfl⟩
  · obtain ⟨κ1, τ1, a1, p1, hI', b1, b2, b3⟩ := st_flyN hI hq hv hf
    refine g_iload_n C dL_isStep_112 rfl rfl ?_
    refine g_iconst C (v := 4) dL_isStep_113 rfl ?_
    refine g_calliOF C (up_E E _ y 4 (by decide) (r := (nI q)) eq9) cf_L_up gL_isStep_L_up trivial (fitD (Nat.le_of_ble_eq_true rfl) (Nat.le_of_ble_eq_true rfl)) rfl rfl (Nat.le_of_ble_eq_true rfl) dL_isStep_114 (fun q1 w1 hp => ?_)
    obtain ⟨rfl, rfl⟩ := hp
    refine g_istore C dL_isStep_117 (Nat.le_of_ble_eq_true rfl) rfl ?_
    refine g_iload_n C dL_isStep_119 rfl rfl ?_
    refine g_iconst C (v := 3) dL_isStep_120 rfl ?_
    refine g_ishr C dL_isStep_121 ?_
    refine g_sipush C (v := 1999) dL_isStep_122 rfl ?_
    refine g_calliOF C (up_E E _ (y >>> (3 &&& 31)) 1999 (by decide) (r := (nI v9)) ev9) cf_L_up gL_isStep_L_up trivial (fitD (Nat.le_of_ble_eq_true rfl) (Nat.le_of_ble_eq_true rfl)) rfl rfl (Nat.le_of_ble_eq_true rfl) dL_isStep_125 (fun q1 w1 hp => ?_)
    obtain ⟨rfl, rfl⟩ := hp
    refine g_sipush C (v := 999) dL_isStep_128 rfl ?_
    refine g_isub C dL_isStep_131 ?_
    refine g_istore C dL_isStep_132 (Nat.le_of_ble_eq_true rfl) rfl ?_
    refine g_aload_n C dL_isStep_134 rfl rfl ?_
    refine g_iload C dL_isStep_135 rfl ?_
    refine g_iload C dL_isStep_137 rfl ?_
    refine g_callK C w2_1 (k1_fly E A B κ τ hI.1 (iv_f1 hI) (nI q) ((nI v9) - 999) (r := (-10003)) (κ' := κ1) a1) cf_X3_fly gL_isStep_X3_fly rfl (fitD (Nat.le_of_ble_eq_true rfl) (Nat.le_of_ble_eq_true rfl)) rfl rfl (Nat.le_of_ble_eq_true rfl) dL_isStep_139 (fun q1 w1 hp => ?_)
    obtain ⟨rfl, rfl⟩ := hp
    refine g_istore C dL_isStep_142 (Nat.le_of_ble_eq_true rfl) rfl ?_
    show G E x (w2 E A B κ1 τ) [some (.ref A.1), some (.ref B.1), some (.int x1), some (.int y), some (.int z), some (.int (nI j)), some (.int had), some (.int th), some (.int (kCnt κ 0)), some (.int (nI q)), some (.int ((nI v9) - 999)), some (.int (-10003)), none] 144 []
    refine g_aload_n C dL_isStep_144 rfl rfl ?_
    refine g_ldc2 C k37 dL_isStep_145 ?_
    refine g_calliOF C (MI.f2 (κ := κ1) (c_L_types_fly E B τ hI.2.2.2.1)) cf_L_types gL_isStep_L_types trivial (fitD (Nat.le_of_ble_eq_true rfl) (Nat.le_of_ble_eq_true rfl)) rfl rfl (Nat.le_of_ble_eq_true rfl) dL_isStep_148 (fun q1 w1 hp => ?_)
    obtain ⟨rfl, rfl⟩ := hp
    refine g_if_eq_f C dL_isStep_151 180 (by decide) (by decide) ?_
    refine g_aload_n C dL_isStep_154 rfl rfl ?_
    refine g_iload C dL_isStep_155 rfl ?_
    refine g_calliOF C (th_E E _ (nI q) rfl) cf_L_there gL_isStep_L_there trivial (fitD (Nat.le_of_ble_eq_true rfl) (Nat.le_of_ble_eq_true rfl)) rfl rfl (Nat.le_of_ble_eq_true rfl) dL_isStep_157 (fun q1 w1 hp => ?_)
    obtain ⟨rfl, rfl⟩ := hp
    refine g_calliOF C (MI.f2 (κ := κ1) (c_L_number E B τ [102, 108, 121] (by decide) (thr (nI q)))) cf_L_number gL_isStep_L_number trivial (fitD (Nat.le_of_ble_eq_true rfl) (Nat.le_of_ble_eq_true rfl)) rfl rfl (Nat.le_of_ble_eq_true rfl) dL_isStep_160 (fun q1 w1 hp => ?_)
    obtain ⟨rfl, rfl⟩ := hp
    refine g_if_eq_f C dL_isStep_163 180 (by decide) (by decide) ?_
    refine g_aload_n C dL_isStep_166 rfl rfl ?_
    refine g_iload C dL_isStep_167 rfl ?_
    refine g_ineg C dL_isStep_169 ?_
    refine g_calliOF C (MI.f2 (κ := κ1) (c_L_number E B τ ([102, 108, 121] ++ nuL (thr (nI q))) (Nat.le_trans (tx1_len (by decide) _) (by decide)) (-((nI v9) - 999)))) cf_L_number gL_isStep_L_number trivial (fitD (Nat.le_of_ble_eq_true rfl) (Nat.le_of_ble_eq_true rfl)) rfl rfl (Nat.le_of_ble_eq_true rfl) dL_isStep_170 (fun q1 w1 hp => ?_)
    obtain ⟨rfl, rfl⟩ := hp
    refine g_if_eq_f C dL_isStep_173 180 (by decide) (by decide) ?_
    refine g_iconst C (v := 1) dL_isStep_176 rfl ?_
    refine g_goto C (tgt := 181) dL_isStep_177 (by decide) ?_
    refine g_istore C dL_isStep_181 (Nat.le_of_ble_eq_true rfl) rfl ?_
    refine g_iload C dL_isStep_183 rfl ?_
    refine g_bipush C (v := 12) dL_isStep_185 rfl ?_
    refine g_icmp_ne_f C dL_isStep_187 237 (by decide) b1 ?_
    refine g_iload C dL_isStep_190 rfl ?_
    refine g_if_eq_f C dL_isStep_192 235 (by decide) (by decide) ?_
    refine g_iload C dL_isStep_195 rfl ?_
    refine g_sipush C (v := (-10003)) dL_isStep_197 rfl ?_
    refine g_icmp_ne_f C dL_isStep_200 235 (by decide) (by decide) ?_
    refine g_aload_n C dL_isStep_203 rfl rfl ?_
    refine g_callK C w2_2 (k2_perform E A B κ1 (txA τ (([102, 108, 121] ++ nuL (thr (nI q))) ++ nuL (-((nI v9) - 999)))) hI.2.1 (iv_f2 hI : okFr (kjS τ)) (tx2_80 (by decide) _ _ )  (r := (-10004)) (τ' := τ1) p1) cf_X3_perform gL_isStep_X3_perform rfl (fitD (Nat.le_of_ble_eq_true rfl) (Nat.le_of_ble_eq_true rfl)) rfl rfl (Nat.le_of_ble_eq_true rfl) dL_isStep_204 (fun q1 w1 hp => ?_)
    obtain ⟨rfl, rfl⟩ := hp
    refine g_sipush C (v := (-10004)) dL_isStep_207 rfl ?_
    refine g_icmp_ne_f C dL_isStep_210 235 (by decide) (by decide) ?_
    refine g_aload_n C dL_isStep_213 rfl rfl ?_
    refine g_iconst C (v := 0) dL_isStep_214 rfl ?_
    refine g_callK C w2_2 (k2_stopped E A B κ1 τ1  0 (r := 0) b2) cf_X3_stopped gL_isStep_X3_stopped rfl (fitD (Nat.le_of_ble_eq_true rfl) (Nat.le_of_ble_eq_true rfl)) rfl rfl (Nat.le_of_ble_eq_true rfl) dL_isStep_215 (fun q1 w1 hp => ?_)
    obtain ⟨rfl, rfl⟩ := hp
    refine g_if_ne_f C dL_isStep_218 235 (by decide) (by decide) ?_
    refine g_aload_n C dL_isStep_221 rfl rfl ?_
    refine g_iconst C (v := 1) dL_isStep_222 rfl ?_
    refine g_callK C w2_2 (k2_stopped E A B κ1 τ1  1 (r := (-10003)) b3) cf_X3_stopped gL_isStep_X3_stopped rfl (fitD (Nat.le_of_ble_eq_true rfl) (Nat.le_of_ble_eq_true rfl)) rfl rfl (Nat.le_of_ble_eq_true rfl) dL_isStep_223 (fun q1 w1 hp => ?_)
    obtain ⟨rfl, rfl⟩ := hp
    refine g_iload C dL_isStep_226 rfl ?_
    refine g_icmp_ne_f C dL_isStep_228 235 (by decide) (by decide) ?_
    refine g_iconst C (v := 1) dL_isStep_231 rfl ?_
    refine g_goto C (tgt := 236) dL_isStep_232 (by decide) ?_
    refine g_zret C R0 rfl dL_isStep_236 ?_
    exact ⟨rfl, κ1, τ1, hI', rfl⟩
set_option maxHeartbeats 4000000 in
set_option maxRecDepth 100000 in
theorem is_downY {E : Ev} {x : Cx} {A B : Ad} {n : Nat} {κ τ : KSt} {x1 y z : Int32} {j : Nat} (hI : Iv n κ τ) (hj : j < 12) (hl : ¬ sSt (kjS κ) j = -1) (C : Ok E x cL_isStep RL wsL_isStep (rmD 9)) (R0 : RetI E x .boolean (pI E A B (n + 1))) : G E x (w2 E A B κ τ) [some (.ref A.1), some (.ref B.1), some (.int x1), some (.int y), some (.int z), some (.int (nI j)), some (.int (sNu (kjS κ) j)), some (.int 1), some (.int (kCnt κ 0)), none, none, none, none] 302 [] := by
  obtain ⟨w9, hw9, ew9⟩ := up_n y (n := 3) (by omega) (by omega)
  rcases Nat.eq_zero_or_pos w9 with h9 | h9
  · have hz : nI w9 ≤ 0 := by rw [h9]; decide
    obtain ⟨κ1, τ1, a1, b1, hI', c1⟩ := st_downY hI hj hl
    refine g_iload_n C dL_isStep_302 rfl rfl ?_
    refine g_iconst C (v := 3) dL_isStep_303 rfl ?_
    refine g_calliOF C (up_E E _ y 3 (by decide) (r := (nI w9)) ew9) cf_L_up gL_isStep_L_up trivial (fitD (Nat.le_of_ble_eq_true rfl) (Nat.le_of_ble_eq_true rfl)) rfl rfl (Nat.le_of_ble_eq_true rfl) dL_isStep_304 (fun q1 w1 hp => ?_)
    obtain ⟨rfl, rfl⟩ := hp
    refine g_if_le_t C dL_isStep_307 (tgt := 312) (by decide) hz ?_
    refine g_aload_n C dL_isStep_312 rfl rfl ?_
    refine g_iload C dL_isStep_313 rfl ?_
    refine g_callK C w2_1 (k1_takeDown E A B κ τ hI.1 (iv_f1 hI) (nI j) (r := (sNu (kjS κ) j)) (κ' := κ1) a1) cf_X3_takeDown gL_isStep_X3_takeDown rfl (fitD (Nat.le_of_ble_eq_true rfl) (Nat.le_of_ble_eq_true rfl)) rfl rfl (Nat.le_of_ble_eq_true rfl) dL_isStep_315 (fun q1 w1 hp => ?_)
    obtain ⟨rfl, rfl⟩ := hp
    refine g_istore C dL_isStep_318 (Nat.le_of_ble_eq_true rfl) rfl ?_
    refine g_iload C dL_isStep_320 rfl ?_
    refine g_iload C dL_isStep_322 rfl ?_
    refine g_if_eq_f C dL_isStep_324 332 (by decide) (by decide) ?_
    refine g_iload C dL_isStep_327 rfl ?_
    refine g_goto C (tgt := 335) dL_isStep_329 (by decide) ?_
    refine g_icmp_ne_f C dL_isStep_335 385 (by decide) rfl ?_
    refine g_aload_n C dL_isStep_338 rfl rfl ?_
    refine g_iload C dL_isStep_339 rfl ?_
    refine g_callK C w2_2 (k2_takeDown E A B κ1 τ hI.2.1 (iv_f2 hI) (nI j) (r := (-(sNu (kjS κ) j))) (τ' := τ1) b1) cf_X3_takeDown gL_isStep_X3_takeDown rfl (fitD (Nat.le_of_ble_eq_true rfl) (Nat.le_of_ble_eq_true rfl)) rfl rfl (Nat.le_of_ble_eq_true rfl) dL_isStep_341 (fun q1 w1 hp => ?_)
    obtain ⟨rfl, rfl⟩ := hp
    refine g_iload C dL_isStep_344 rfl ?_
    refine g_if_eq_f C dL_isStep_346 355 (by decide) (by decide) ?_
    refine g_iload C dL_isStep_349 rfl ?_
    refine g_ineg C dL_isStep_351 ?_
    refine g_goto C (tgt := 357) dL_isStep_352 (by decide) ?_
    refine g_icmp_ne_f C dL_isStep_357 385 (by decide) rfl ?_
    refine g_aload_n C dL_isStep_360 rfl rfl ?_
    refine g_iconst C (v := 0) dL_isStep_361 rfl ?_
    refine g_callK C w2_1 (k1_count E A B κ1 τ1  0 (r := ((kCnt κ 0) - 1)) c1) cf_X3_count gL_isStep_X3_count rfl (fitD (Nat.le_of_ble_eq_true rfl) (Nat.le_of_ble_eq_true rfl)) rfl rfl (Nat.le_of_ble_eq_true rfl) dL_isStep_362 (fun q1 w1 hp => ?_)
    obtain ⟨rfl, rfl⟩ := hp
    refine g_iload C dL_isStep_365 rfl ?_
    refine g_iload C dL_isStep_367 rfl ?_
    refine g_if_eq_f C dL_isStep_369 376 (by decide) (by decide) ?_
    refine g_iconst C (v := 1) dL_isStep_372 rfl ?_
    refine g_goto C (tgt := 377) dL_isStep_373 (by decide) ?_
    refine g_isub C dL_isStep_377 ?_
    refine g_icmp_ne_f C dL_isStep_378 385 (by decide) rfl ?_
    refine g_iconst C (v := 1) dL_isStep_381 rfl ?_
    refine g_goto C (tgt := 386) dL_isStep_382 (by decide) ?_
    refine g_zret C R0 rfl dL_isStep_386 ?_
    exact ⟨rfl, κ1, τ1, hI', rfl⟩
  · have hz : ¬ nI w9 ≤ 0 := fun z => by
      have := (nI_leI (b := 0) (by omega) (by omega)).mp z
      omega
    refine g_iload_n C dL_isStep_302 rfl rfl ?_
    refine g_iconst C (v := 3) dL_isStep_303 rfl ?_
    refine g_calliOF C (up_E E _ y 3 (by decide) (r := (nI w9)) ew9) cf_L_up gL_isStep_L_up trivial (fitD (Nat.le_of_ble_eq_true rfl) (Nat.le_of_ble_eq_true rfl)) rfl rfl (Nat.le_of_ble_eq_true rfl) dL_isStep_304 (fun q1 w1 hp => ?_)
    obtain ⟨rfl, rfl⟩ := hp
    refine g_if_le_f C dL_isStep_307 312 (by decide) hz ?_
    refine g_iconst C (v := 1) dL_isStep_310 rfl ?_
    refine g_zret C R0 rfl dL_isStep_311 ?_
    exact ⟨rfl, κ, τ, iv_same hI, rfl⟩
set_option maxHeartbeats 4000000 in
set_option maxRecDepth 100000 in
theorem is_downN {E : Ev} {x : Cx} {A B : Ad} {n : Nat} {κ τ : KSt} {x1 y z : Int32} {j : Nat} (hI : Iv n κ τ) (hj : j < 12) (hl : sSt (kjS κ) j = -1) (C : Ok E x cL_isStep RL wsL_isStep (rmD 9)) (R0 : RetI E x .boolean (pI E A B (n + 1))) : G E x (w2 E A B κ τ) [some (.ref A.1), some (.ref B.1), some (.int x1), some (.int y), some (.int z), some (.int (nI j)), some (.int (-10001)), some (.int 0), some (.int (kCnt κ 0)), none, none, none, none] 302 [] := by
  obtain ⟨w9, hw9, ew9⟩ := up_n y (n := 3) (by omega) (by omega)
  rcases Nat.eq_zero_or_pos w9 with h9 | h9
  · have hz : nI w9 ≤ 0 := by rw [h9]; decide
    obtain ⟨κ1, τ1, a1, b1, hI', c1⟩ := st_downN hI hj hl
    refine g_iload_n C dL_isStep_302 rfl rfl ?_
    refine g_iconst C (v := 3) dL_isStep_303 rfl ?_
    refine g_calliOF C (up_E E _ y 3 (by decide) (r := (nI w9)) ew9) cf_L_up gL_isStep_L_up trivial (fitD (Nat.le_of_ble_eq_true rfl) (Nat.le_of_ble_eq_true rfl)) rfl rfl (Nat.le_of_ble_eq_true rfl) dL_isStep_304 (fun q1 w1 hp => ?_)
    obtain ⟨rfl, rfl⟩ := hp
    refine g_if_le_t C dL_isStep_307 (tgt := 312) (by decide) hz ?_
    refine g_aload_n C dL_isStep_312 rfl rfl ?_
    refine g_iload C dL_isStep_313 rfl ?_
    refine g_callK C w2_1 (k1_takeDown E A B κ τ hI.1 (iv_f1 hI) (nI j) (r := (-10001)) (κ' := κ1) a1) cf_X3_takeDown gL_isStep_X3_takeDown rfl (fitD (Nat.le_of_ble_eq_true rfl) (Nat.le_of_ble_eq_true rfl)) rfl rfl (Nat.le_of_ble_eq_true rfl) dL_isStep_315 (fun q1 w1 hp => ?_)
    obtain ⟨rfl, rfl⟩ := hp
    refine g_istore C dL_isStep_318 (Nat.le_of_ble_eq_true rfl) rfl ?_
    refine g_iload C dL_isStep_320 rfl ?_
    refine g_iload C dL_isStep_322 rfl ?_
    refine g_if_eq_t C dL_isStep_324 (tgt := 332) (by decide) (by decide) ?_
    refine g_sipush C (v := (-10001)) dL_isStep_332 rfl ?_
    refine g_icmp_ne_f C dL_isStep_335 385 (by decide) (by decide) ?_
    refine g_aload_n C dL_isStep_338 rfl rfl ?_
    refine g_iload C dL_isStep_339 rfl ?_
    refine g_callK C w2_2 (k2_takeDown E A B κ1 τ hI.2.1 (iv_f2 hI) (nI j) (r := (-10001)) (τ' := τ1) b1) cf_X3_takeDown gL_isStep_X3_takeDown rfl (fitD (Nat.le_of_ble_eq_true rfl) (Nat.le_of_ble_eq_true rfl)) rfl rfl (Nat.le_of_ble_eq_true rfl) dL_isStep_341 (fun q1 w1 hp => ?_)
    obtain ⟨rfl, rfl⟩ := hp
    refine g_iload C dL_isStep_344 rfl ?_
    refine g_if_eq_t C dL_isStep_346 (tgt := 355) (by decide) (by decide) ?_
    refine g_iload C dL_isStep_355 rfl ?_
    refine g_icmp_ne_f C dL_isStep_357 385 (by decide) (by decide) ?_
    refine g_aload_n C dL_isStep_360 rfl rfl ?_
    refine g_iconst C (v := 0) dL_isStep_361 rfl ?_
    refine g_callK C w2_1 (k1_count E A B κ1 τ1  0 (r := ((kCnt κ 0) - 0)) c1) cf_X3_count gL_isStep_X3_count rfl (fitD (Nat.le_of_ble_eq_true rfl) (Nat.le_of_ble_eq_true rfl)) rfl rfl (Nat.le_of_ble_eq_true rfl) dL_isStep_362 (fun q1 w1 hp => ?_)
    obtain ⟨rfl, rfl⟩ := hp
    refine g_iload C dL_isStep_365 rfl ?_
    refine g_iload C dL_isStep_367 rfl ?_
    refine g_if_eq_t C dL_isStep_369 (tgt := 376) (by decide) (by decide) ?_
    refine g_iconst C (v := 0) dL_isStep_376 rfl ?_
    refine g_isub C dL_isStep_377 ?_
    refine g_icmp_ne_f C dL_isStep_378 385 (by decide) rfl ?_
    refine g_iconst C (v := 1) dL_isStep_381 rfl ?_
    refine g_goto C (tgt := 386) dL_isStep_382 (by decide) ?_
    refine g_zret C R0 rfl dL_isStep_386 ?_
    exact ⟨rfl, κ1, τ1, hI', rfl⟩
  · have hz : ¬ nI w9 ≤ 0 := fun z => by
      have := (nI_leI (b := 0) (by omega) (by omega)).mp z
      omega
    refine g_iload_n C dL_isStep_302 rfl rfl ?_
    refine g_iconst C (v := 3) dL_isStep_303 rfl ?_
    refine g_calliOF C (up_E E _ y 3 (by decide) (r := (nI w9)) ew9) cf_L_up gL_isStep_L_up trivial (fitD (Nat.le_of_ble_eq_true rfl) (Nat.le_of_ble_eq_true rfl)) rfl rfl (Nat.le_of_ble_eq_true rfl) dL_isStep_304 (fun q1 w1 hp => ?_)
    obtain ⟨rfl, rfl⟩ := hp
    refine g_if_le_f C dL_isStep_307 312 (by decide) hz ?_
    refine g_iconst C (v := 1) dL_isStep_310 rfl ?_
    refine g_zret C R0 rfl dL_isStep_311 ?_
    exact ⟨rfl, κ, τ, iv_same hI, rfl⟩
set_option maxHeartbeats 4000000 in
set_option maxRecDepth 100000 in
theorem is_readY {E : Ev} {x : Cx} {A B : Ad} {n : Nat} {κ τ : KSt} {x1 y z : Int32} {j : Nat} (hI : Iv n κ τ) (hj : j < 12) (hl : ¬ sSt (kjS κ) j = -1) (C : Ok E x cL_isStep RL wsL_isStep (rmD 9)) (R0 : RetI E x .boolean (pI E A B (n + 1))) : G E x (w2 E A B κ τ) [some (.ref A.1), some (.ref B.1), some (.int x1), some (.int y), some (.int z), some (.int (nI j)), some (.int (sNu (kjS κ) j)), some (.int 1), some (.int (kCnt κ 0)), none, none, none, none] 387 [] := by
  have k65 : Cond.constantLong RL 65 (1919246692) ∈ wsL_isStep := by decide +kernel
  obtain ⟨H, κ1, τ1, a0, a1, p1, hI', b1, b2, b3⟩ := st_readY hI hj hl
  refine g_aload_n C dL_isStep_387 rfl rfl ?_
  refine g_iload C dL_isStep_388 rfl ?_
  refine g_iconst C (v := 1) dL_isStep_390 rfl ?_
  refine g_callK C w2_1 (k1_ifRead E A B κ τ  (nI j) 1 (r := H) a0) cf_X3_ifRead gL_isStep_X3_ifRead rfl (fitD (Nat.le_of_ble_eq_true rfl) (Nat.le_of_ble_eq_true rfl)) rfl rfl (Nat.le_of_ble_eq_true rfl) dL_isStep_391 (fun q1 w1 hp => ?_)
  obtain ⟨h9, rfl⟩ := hp
  rw [h9]
  clear h9
  refine g_istore C dL_isStep_394 (Nat.le_of_ble_eq_true rfl) rfl ?_
  refine g_aload_n C dL_isStep_396 rfl rfl ?_
  refine g_iconst C (v := 3) dL_isStep_397 rfl ?_
  refine g_callK C w2_1 (k1_count E A B κ τ  3 (r := (kCnt κ 3)) rfl) cf_X3_count gL_isStep_X3_count rfl (fitD (Nat.le_of_ble_eq_true rfl) (Nat.le_of_ble_eq_true rfl)) rfl rfl (Nat.le_of_ble_eq_true rfl) dL_isStep_398 (fun q1 w1 hp => ?_)
  obtain ⟨rfl, rfl⟩ := hp
  refine g_istore C dL_isStep_401 (Nat.le_of_ble_eq_true rfl) rfl ?_
  refine g_aload_n C dL_isStep_403 rfl rfl ?_
  refine g_iload C dL_isStep_404 rfl ?_
  refine g_callK C w2_1 (k1_read E A B κ τ hI.1 (iv_f1 hI) (nI j) (r := (sNu (kjS κ) j)) (κ' := κ1) a1) cf_X3_read gL_isStep_X3_read rfl (fitD (Nat.le_of_ble_eq_true rfl) (Nat.le_of_ble_eq_true rfl)) rfl rfl (Nat.le_of_ble_eq_true rfl) dL_isStep_406 (fun q1 w1 hp => ?_)
  obtain ⟨rfl, rfl⟩ := hp
  refine g_istore C dL_isStep_409 (Nat.le_of_ble_eq_true rfl) rfl ?_
  show G E x (w2 E A B κ1 τ) [some (.ref A.1), some (.ref B.1), some (.int x1), some (.int y), some (.int z), some (.int (nI j)), some (.int (sNu (kjS κ) j)), some (.int 1), some (.int (kCnt κ 0)), some (.int H), some (.int (kCnt κ 3)), some (.int (sNu (kjS κ) j)), none] 411 []
  refine g_aload_n C dL_isStep_411 rfl rfl ?_
  refine g_ldc2 C k65 dL_isStep_412 ?_
  refine g_calliOF C (MI.f2 (κ := κ1) (c_L_types_read E B τ hI.2.2.2.1)) cf_L_types gL_isStep_L_types trivial (fitD (Nat.le_of_ble_eq_true rfl) (Nat.le_of_ble_eq_true rfl)) rfl rfl (Nat.le_of_ble_eq_true rfl) dL_isStep_415 (fun q1 w1 hp => ?_)
  obtain ⟨rfl, rfl⟩ := hp
  refine g_if_eq_f C dL_isStep_418 434 (by decide) (by decide) ?_
  refine g_aload_n C dL_isStep_421 rfl rfl ?_
  refine g_iload C dL_isStep_422 rfl ?_
  refine g_calliOF C (MI.f2 (κ := κ1) (c_L_number E B τ [114, 101, 97, 100] (by decide) (nI j))) cf_L_number gL_isStep_L_number trivial (fitD (Nat.le_of_ble_eq_true rfl) (Nat.le_of_ble_eq_true rfl)) rfl rfl (Nat.le_of_ble_eq_true rfl) dL_isStep_424 (fun q1 w1 hp => ?_)
  obtain ⟨rfl, rfl⟩ := hp
  refine g_if_eq_f C dL_isStep_427 434 (by decide) (by decide) ?_
  refine g_iconst C (v := 1) dL_isStep_430 rfl ?_
  refine g_goto C (tgt := 435) dL_isStep_431 (by decide) ?_
  refine g_istore C dL_isStep_435 (Nat.le_of_ble_eq_true rfl) rfl ?_
  refine g_iload C dL_isStep_437 rfl ?_
  refine g_if_ne_t C dL_isStep_439 (tgt := 488) (by decide) (by decide) ?_
  refine g_iload C dL_isStep_488 rfl ?_
  refine g_if_eq_f C dL_isStep_490 547 (by decide) (by decide) ?_
  refine g_aload_n C dL_isStep_493 rfl rfl ?_
  refine g_callK C w2_2 (k2_perform E A B κ1 (txA τ ([114, 101, 97, 100] ++ nuL (nI j))) hI.2.1 (iv_f2 hI : okFr (kjS τ)) (tx1_80 (by decide) _ )  (r := 1) (τ' := τ1) p1) cf_X3_perform gL_isStep_X3_perform rfl (fitD (Nat.le_of_ble_eq_true rfl) (Nat.le_of_ble_eq_true rfl)) rfl rfl (Nat.le_of_ble_eq_true rfl) dL_isStep_494 (fun q1 w1 hp => ?_)
  obtain ⟨rfl, rfl⟩ := hp
  refine g_iconst C (v := 1) dL_isStep_497 rfl ?_
  refine g_icmp_ne_f C dL_isStep_498 547 (by decide) (by decide) ?_
  refine g_iload C dL_isStep_501 rfl ?_
  refine g_iload C dL_isStep_503 rfl ?_
  refine g_icmp_ne_f C dL_isStep_505 547 (by decide) rfl ?_
  refine g_aload_n C dL_isStep_508 rfl rfl ?_
  refine g_iload C dL_isStep_509 rfl ?_
  refine g_iconst C (v := 2) dL_isStep_511 rfl ?_
  refine g_callK C w2_1 (k1_kite E A B κ1 τ1  (nI j) 2 (r := H) b1) cf_X3_kite gL_isStep_X3_kite rfl (fitD (Nat.le_of_ble_eq_true rfl) (Nat.le_of_ble_eq_true rfl)) rfl rfl (Nat.le_of_ble_eq_true rfl) dL_isStep_512 (fun q1 w1 hp => ?_)
  obtain ⟨h9, rfl⟩ := hp
  rw [h9]
  clear h9
  refine g_iload C dL_isStep_515 rfl ?_
  refine g_icmp_ne_f C dL_isStep_517 547 (by decide) rfl ?_
  refine g_aload_n C dL_isStep_520 rfl rfl ?_
  refine g_iconst C (v := 3) dL_isStep_521 rfl ?_
  refine g_callK C w2_1 (k1_count E A B κ1 τ1  3 (r := ((kCnt κ 3) + 1)) b2) cf_X3_count gL_isStep_X3_count rfl (fitD (Nat.le_of_ble_eq_true rfl) (Nat.le_of_ble_eq_true rfl)) rfl rfl (Nat.le_of_ble_eq_true rfl) dL_isStep_522 (fun q1 w1 hp => ?_)
  obtain ⟨rfl, rfl⟩ := hp
  refine g_iload C dL_isStep_525 rfl ?_
  refine g_iconst C (v := 1) dL_isStep_527 rfl ?_
  refine g_iadd C dL_isStep_528 ?_
  refine g_icmp_ne_f C dL_isStep_529 547 (by decide) rfl ?_
  refine g_aload_n C dL_isStep_532 rfl rfl ?_
  refine g_iload C dL_isStep_533 rfl ?_
  refine g_iconst C (v := 3) dL_isStep_535 rfl ?_
  refine g_callK C w2_1 (k1_kite E A B κ1 τ1  (nI j) 3 (r := 1) b3) cf_X3_kite gL_isStep_X3_kite rfl (fitD (Nat.le_of_ble_eq_true rfl) (Nat.le_of_ble_eq_true rfl)) rfl rfl (Nat.le_of_ble_eq_true rfl) dL_isStep_536 (fun q1 w1 hp => ?_)
  obtain ⟨rfl, rfl⟩ := hp
  refine g_iconst C (v := 1) dL_isStep_539 rfl ?_
  refine g_icmp_ne_f C dL_isStep_540 547 (by decide) (by decide) ?_
  refine g_iconst C (v := 1) dL_isStep_543 rfl ?_
  refine g_goto C (tgt := 548) dL_isStep_544 (by decide) ?_
  refine g_zret C R0 rfl dL_isStep_548 ?_
  exact ⟨rfl, κ1, τ1, hI', rfl⟩
set_option maxHeartbeats 4000000 in
set_option maxRecDepth 100000 in
theorem is_readN {E : Ev} {x : Cx} {A B : Ad} {n : Nat} {κ τ : KSt} {x1 y z : Int32} {j : Nat} (hI : Iv n κ τ) (hj : j < 12) (hl : sSt (kjS κ) j = -1) (C : Ok E x cL_isStep RL wsL_isStep (rmD 9)) (R0 : RetI E x .boolean (pI E A B (n + 1))) : G E x (w2 E A B κ τ) [some (.ref A.1), some (.ref B.1), some (.int x1), some (.int y), some (.int z), some (.int (nI j)), some (.int (-10001)), some (.int 0), some (.int (kCnt κ 0)), none, none, none, none] 387 [] := by
  have k65 : Cond.constantLong RL 65 (1919246692) ∈ wsL_isStep := by decide +kernel
  obtain ⟨κ1, τ1, a0, a1, p1, hI', b1⟩ := st_readN hI hj hl
  refine g_aload_n C dL_isStep_387 rfl rfl ?_
  refine g_iload C dL_isStep_388 rfl ?_
  refine g_iconst C (v := 1) dL_isStep_390 rfl ?_
  refine g_callK C w2_1 (k1_ifRead E A B κ τ  (nI j) 1 (r := (-10001)) a0) cf_X3_ifRead gL_isStep_X3_ifRead rfl (fitD (Nat.le_of_ble_eq_true rfl) (Nat.le_of_ble_eq_true rfl)) rfl rfl (Nat.le_of_ble_eq_true rfl) dL_isStep_391 (fun q1 w1 hp => ?_)
  obtain ⟨rfl, rfl⟩ := hp
  refine g_istore C dL_isStep_394 (Nat.le_of_ble_eq_true rfl) rfl ?_
  refine g_aload_n C dL_isStep_396 rfl rfl ?_
  refine g_iconst C (v := 3) dL_isStep_397 rfl ?_
  refine g_callK C w2_1 (k1_count E A B κ τ  3 (r := (kCnt κ 3)) rfl) cf_X3_count gL_isStep_X3_count rfl (fitD (Nat.le_of_ble_eq_true rfl) (Nat.le_of_ble_eq_true rfl)) rfl rfl (Nat.le_of_ble_eq_true rfl) dL_isStep_398 (fun q1 w1 hp => ?_)
  obtain ⟨rfl, rfl⟩ := hp
  refine g_istore C dL_isStep_401 (Nat.le_of_ble_eq_true rfl) rfl ?_
  refine g_aload_n C dL_isStep_403 rfl rfl ?_
  refine g_iload C dL_isStep_404 rfl ?_
  refine g_callK C w2_1 (k1_read E A B κ τ hI.1 (iv_f1 hI) (nI j) (r := (-10001)) (κ' := κ1) a1) cf_X3_read gL_isStep_X3_read rfl (fitD (Nat.le_of_ble_eq_true rfl) (Nat.le_of_ble_eq_true rfl)) rfl rfl (Nat.le_of_ble_eq_true rfl) dL_isStep_406 (fun q1 w1 hp => ?_)
  obtain ⟨rfl, rfl⟩ := hp
  refine g_istore C dL_isStep_409 (Nat.le_of_ble_eq_true rfl) rfl ?_
  show G E x (w2 E A B κ1 τ) [some (.ref A.1), some (.ref B.1), some (.int x1), some (.int y), some (.int z), some (.int (nI j)), some (.int (-10001)), some (.int 0), some (.int (kCnt κ 0)), some (.int (-10001)), some (.int (kCnt κ 3)), some (.int (-10001)), none] 411 []
  refine g_aload_n C dL_isStep_411 rfl rfl ?_
  refine g_ldc2 C k65 dL_isStep_412 ?_
  refine g_calliOF C (MI.f2 (κ := κ1) (c_L_types_read E B τ hI.2.2.2.1)) cf_L_types gL_isStep_L_types trivial (fitD (Nat.le_of_ble_eq_true rfl) (Nat.le_of_ble_eq_true rfl)) rfl rfl (Nat.le_of_ble_eq_true rfl) dL_isStep_415 (fun q1 w1 hp => ?_)
  obtain ⟨rfl, rfl⟩ := hp
  refine g_if_eq_f C dL_isStep_418 434 (by decide) (by decide) ?_
  refine g_aload_n C dL_isStep_421 rfl rfl ?_
  refine g_iload C dL_isStep_422 rfl ?_
  refine g_calliOF C (MI.f2 (κ := κ1) (c_L_number E B τ [114, 101, 97, 100] (by decide) (nI j))) cf_L_number gL_isStep_L_number trivial (fitD (Nat.le_of_ble_eq_true rfl) (Nat.le_of_ble_eq_true rfl)) rfl rfl (Nat.le_of_ble_eq_true rfl) dL_isStep_424 (fun q1 w1 hp => ?_)
  obtain ⟨rfl, rfl⟩ := hp
  refine g_if_eq_f C dL_isStep_427 434 (by decide) (by decide) ?_
  refine g_iconst C (v := 1) dL_isStep_430 rfl ?_
  refine g_goto C (tgt := 435) dL_isStep_431 (by decide) ?_
  refine g_istore C dL_isStep_435 (Nat.le_of_ble_eq_true rfl) rfl ?_
  refine g_iload C dL_isStep_437 rfl ?_
  refine g_if_ne_f C dL_isStep_439 488 (by decide) (by decide) ?_
  refine g_iload C dL_isStep_442 rfl ?_
  refine g_if_eq_f C dL_isStep_444 486 (by decide) (by decide) ?_
  refine g_iload C dL_isStep_447 rfl ?_
  refine g_sipush C (v := (-10001)) dL_isStep_449 rfl ?_
  refine g_icmp_ne_f C dL_isStep_452 486 (by decide) (by decide) ?_
  refine g_iload C dL_isStep_455 rfl ?_
  refine g_iload C dL_isStep_457 rfl ?_
  refine g_icmp_ne_f C dL_isStep_459 486 (by decide) (by decide) ?_
  refine g_aload_n C dL_isStep_462 rfl rfl ?_
  refine g_callK C w2_2 (k2_perform E A B κ1 (txA τ ([114, 101, 97, 100] ++ nuL (nI j))) hI.2.1 (iv_f2 hI : okFr (kjS τ)) (tx1_80 (by decide) _ )  (r := (-10004)) (τ' := τ1) p1) cf_X3_perform gL_isStep_X3_perform rfl (fitD (Nat.le_of_ble_eq_true rfl) (Nat.le_of_ble_eq_true rfl)) rfl rfl (Nat.le_of_ble_eq_true rfl) dL_isStep_463 (fun q1 w1 hp => ?_)
  obtain ⟨rfl, rfl⟩ := hp
  refine g_sipush C (v := (-10004)) dL_isStep_466 rfl ?_
  refine g_icmp_ne_f C dL_isStep_469 486 (by decide) (by decide) ?_
  refine g_aload_n C dL_isStep_472 rfl rfl ?_
  refine g_iconst C (v := 1) dL_isStep_473 rfl ?_
  refine g_callK C w2_2 (k2_stopped E A B κ1 τ1  1 (r := (-10001)) b1) cf_X3_stopped gL_isStep_X3_stopped rfl (fitD (Nat.le_of_ble_eq_true rfl) (Nat.le_of_ble_eq_true rfl)) rfl rfl (Nat.le_of_ble_eq_true rfl) dL_isStep_474 (fun q1 w1 hp => ?_)
  obtain ⟨rfl, rfl⟩ := hp
  refine g_iload C dL_isStep_477 rfl ?_
  refine g_icmp_ne_f C dL_isStep_479 486 (by decide) (by decide) ?_
  refine g_iconst C (v := 1) dL_isStep_482 rfl ?_
  refine g_goto C (tgt := 487) dL_isStep_483 (by decide) ?_
  refine g_zret C R0 rfl dL_isStep_487 ?_
  exact ⟨rfl, κ1, τ1, hI', rfl⟩
set_option maxHeartbeats 4000000 in
set_option maxRecDepth 100000 in
theorem is_writeY {E : Ev} {x : Cx} {A B : Ad} {n : Nat} {κ τ : KSt} {x1 y z : Int32} {j : Nat} (hI : Iv n κ τ) (hj : j < 12) (hl : ¬ sSt (kjS κ) j = -1) (C : Ok E x cL_isStep RL wsL_isStep (rmD 9)) (R0 : RetI E x .boolean (pI E A B (n + 1))) : G E x (w2 E A B κ τ) [some (.ref A.1), some (.ref B.1), some (.int x1), some (.int y), some (.int z), some (.int (nI j)), some (.int (sNu (kjS κ) j)), some (.int 1), some (.int (kCnt κ 0)), none, none, none, none] 549 [] := by
  have k70 : Cond.constantLong RL 70 (513020621925) ∈ wsL_isStep := by decide +kernel
  obtain ⟨v9, hv9, ev9⟩ := up_n y (n := 1999) (by omega) (by omega)
  have hv := isN_up9 hv9
  obtain ⟨κ1, τ1, a1, p1, hI', b0⟩ := st_writeY hI hj hl hv
  refine g_iload_n C dL_isStep_549 rfl rfl ?_
  refine g_sipush C (v := 1999) dL_isStep_550 rfl ?_
  refine g_calliOF C (up_E E _ y 1999 (by decide) (r := (nI v9)) ev9) cf_L_up gL_isStep_L_up trivial (fitD (Nat.le_of_ble_eq_true rfl) (Nat.le_of_ble_eq_true rfl)) rfl rfl (Nat.le_of_ble_eq_true rfl) dL_isStep_553 (fun q1 w1 hp => ?_)
  obtain ⟨rfl, rfl⟩ := hp
  refine g_sipush C (v := 999) dL_isStep_556 rfl ?_
  refine g_isub C dL_isStep_559 ?_
  refine g_istore C dL_isStep_560 (Nat.le_of_ble_eq_true rfl) rfl ?_
  refine g_aload_n C dL_isStep_562 rfl rfl ?_
  refine g_iload C dL_isStep_563 rfl ?_
  refine g_iload C dL_isStep_565 rfl ?_
  refine g_callK C w2_1 (k1_write E A B κ τ hI.1 (iv_f1 hI) (nI j) ((nI v9) - 999) (r := (sNu (kjS κ) j)) (κ' := κ1) a1) cf_X3_write gL_isStep_X3_write rfl (fitD (Nat.le_of_ble_eq_true rfl) (Nat.le_of_ble_eq_true rfl)) rfl rfl (Nat.le_of_ble_eq_true rfl) dL_isStep_567 (fun q1 w1 hp => ?_)
  obtain ⟨rfl, rfl⟩ := hp
  refine g_istore C dL_isStep_570 (Nat.le_of_ble_eq_true rfl) rfl ?_
  refine g_iload C dL_isStep_572 rfl ?_
  refine g_if_ne_t C dL_isStep_574 (tgt := 591) (by decide) (by decide) ?_
  refine g_iload C dL_isStep_591 rfl ?_
  refine g_iload C dL_isStep_593 rfl ?_
  refine g_icmp_ne_f C dL_isStep_595 651 (by decide) rfl ?_
  refine g_aload_n C dL_isStep_598 rfl rfl ?_
  refine g_ldc2 C k70 dL_isStep_599 ?_
  refine g_calliOF C (MI.f2 (κ := κ1) (c_L_types_write E B τ hI.2.2.2.1)) cf_L_types gL_isStep_L_types trivial (fitD (Nat.le_of_ble_eq_true rfl) (Nat.le_of_ble_eq_true rfl)) rfl rfl (Nat.le_of_ble_eq_true rfl) dL_isStep_602 (fun q1 w1 hp => ?_)
  obtain ⟨rfl, rfl⟩ := hp
  refine g_if_eq_f C dL_isStep_605 651 (by decide) (by decide) ?_
  refine g_aload_n C dL_isStep_608 rfl rfl ?_
  refine g_iload C dL_isStep_609 rfl ?_
  refine g_calliOF C (MI.f2 (κ := κ1) (c_L_number E B τ [119, 114, 105, 116, 101] (by decide) (nI j))) cf_L_number gL_isStep_L_number trivial (fitD (Nat.le_of_ble_eq_true rfl) (Nat.le_of_ble_eq_true rfl)) rfl rfl (Nat.le_of_ble_eq_true rfl) dL_isStep_611 (fun q1 w1 hp => ?_)
  obtain ⟨rfl, rfl⟩ := hp
  refine g_if_eq_f C dL_isStep_614 651 (by decide) (by decide) ?_
  refine g_aload_n C dL_isStep_617 rfl rfl ?_
  refine g_iload C dL_isStep_618 rfl ?_
  refine g_ineg C dL_isStep_620 ?_
  refine g_calliOF C (MI.f2 (κ := κ1) (c_L_number E B τ ([119, 114, 105, 116, 101] ++ nuL (nI j)) (Nat.le_trans (tx1_len (by decide) _) (by decide)) (-((nI v9) - 999)))) cf_L_number gL_isStep_L_number trivial (fitD (Nat.le_of_ble_eq_true rfl) (Nat.le_of_ble_eq_true rfl)) rfl rfl (Nat.le_of_ble_eq_true rfl) dL_isStep_621 (fun q1 w1 hp => ?_)
  obtain ⟨rfl, rfl⟩ := hp
  refine g_if_eq_f C dL_isStep_624 651 (by decide) (by decide) ?_
  refine g_aload_n C dL_isStep_627 rfl rfl ?_
  refine g_callK C w2_2 (k2_perform E A B κ1 (txA τ (([119, 114, 105, 116, 101] ++ nuL (nI j)) ++ nuL (-((nI v9) - 999)))) hI.2.1 (iv_f2 hI : okFr (kjS τ)) (tx2_80 (by decide) _ _ )  (r := 1) (τ' := τ1) p1) cf_X3_perform gL_isStep_X3_perform rfl (fitD (Nat.le_of_ble_eq_true rfl) (Nat.le_of_ble_eq_true rfl)) rfl rfl (Nat.le_of_ble_eq_true rfl) dL_isStep_628 (fun q1 w1 hp => ?_)
  obtain ⟨rfl, rfl⟩ := hp
  refine g_iconst C (v := 1) dL_isStep_631 rfl ?_
  refine g_icmp_ne_f C dL_isStep_632 651 (by decide) (by decide) ?_
  refine g_aload_n C dL_isStep_635 rfl rfl ?_
  refine g_iload C dL_isStep_636 rfl ?_
  refine g_iconst C (v := 0) dL_isStep_638 rfl ?_
  refine g_callK C w2_1 (k1_kite E A B κ1 τ1  (nI j) 0 (r := ((nI v9) - 999)) b0) cf_X3_kite gL_isStep_X3_kite rfl (fitD (Nat.le_of_ble_eq_true rfl) (Nat.le_of_ble_eq_true rfl)) rfl rfl (Nat.le_of_ble_eq_true rfl) dL_isStep_639 (fun q1 w1 hp => ?_)
  obtain ⟨rfl, rfl⟩ := hp
  refine g_iload C dL_isStep_642 rfl ?_
  refine g_icmp_ne_f C dL_isStep_644 651 (by decide) rfl ?_
  refine g_iconst C (v := 1) dL_isStep_647 rfl ?_
  refine g_goto C (tgt := 652) dL_isStep_648 (by decide) ?_
  refine g_zret C R0 rfl dL_isStep_652 ?_
  exact ⟨rfl, κ1, τ1, hI', rfl⟩
set_option maxHeartbeats 4000000 in
set_option maxRecDepth 100000 in
theorem is_writeN {E : Ev} {x : Cx} {A B : Ad} {n : Nat} {κ τ : KSt} {x1 y z : Int32} {j : Nat} (hI : Iv n κ τ) (hj : j < 12) (hl : sSt (kjS κ) j = -1) (C : Ok E x cL_isStep RL wsL_isStep (rmD 9)) (R0 : RetI E x .boolean (pI E A B (n + 1))) : G E x (w2 E A B κ τ) [some (.ref A.1), some (.ref B.1), some (.int x1), some (.int y), some (.int z), some (.int (nI j)), some (.int (-10001)), some (.int 0), some (.int (kCnt κ 0)), none, none, none, none] 549 [] := by
  obtain ⟨v9, hv9, ev9⟩ := up_n y (n := 1999) (by omega) (by omega)
  obtain ⟨κ1, a1, hI'⟩ := st_writeN hI hj hl (v := nI v9 - 999)
  refine g_iload_n C dL_isStep_549 rfl rfl ?_
  refine g_sipush C (v := 1999) dL_isStep_550 rfl ?_
  refine g_calliOF C (up_E E _ y 1999 (by decide) (r := (nI v9)) ev9) cf_L_up gL_isStep_L_up trivial (fitD (Nat.le_of_ble_eq_true rfl) (Nat.le_of_ble_eq_true rfl)) rfl rfl (Nat.le_of_ble_eq_true rfl) dL_isStep_553 (fun q1 w1 hp => ?_)
  obtain ⟨rfl, rfl⟩ := hp
  refine g_sipush C (v := 999) dL_isStep_556 rfl ?_
  refine g_isub C dL_isStep_559 ?_
  refine g_istore C dL_isStep_560 (Nat.le_of_ble_eq_true rfl) rfl ?_
  refine g_aload_n C dL_isStep_562 rfl rfl ?_
  refine g_iload C dL_isStep_563 rfl ?_
  refine g_iload C dL_isStep_565 rfl ?_
  refine g_callK C w2_1 (k1_write E A B κ τ hI.1 (iv_f1 hI) (nI j) ((nI v9) - 999) (r := (-10001)) (κ' := κ1) a1) cf_X3_write gL_isStep_X3_write rfl (fitD (Nat.le_of_ble_eq_true rfl) (Nat.le_of_ble_eq_true rfl)) rfl rfl (Nat.le_of_ble_eq_true rfl) dL_isStep_567 (fun q1 w1 hp => ?_)
  obtain ⟨rfl, rfl⟩ := hp
  refine g_istore C dL_isStep_570 (Nat.le_of_ble_eq_true rfl) rfl ?_
  refine g_iload C dL_isStep_572 rfl ?_
  refine g_if_ne_f C dL_isStep_574 591 (by decide) (by decide) ?_
  refine g_iload C dL_isStep_577 rfl ?_
  refine g_sipush C (v := (-10001)) dL_isStep_579 rfl ?_
  refine g_icmp_ne_f C dL_isStep_582 589 (by decide) (by decide) ?_
  refine g_iconst C (v := 1) dL_isStep_585 rfl ?_
  refine g_goto C (tgt := 590) dL_isStep_586 (by decide) ?_
  refine g_zret C R0 rfl dL_isStep_590 ?_
  exact ⟨rfl, κ1, τ, hI', rfl⟩
set_option maxHeartbeats 4000000 in
set_option maxRecDepth 100000 in
theorem is_moveN {E : Ev} {x : Cx} {A B : Ad} {n : Nat} {κ τ : KSt} {x1 y z : Int32} {j : Nat} (hI : Iv n κ τ) (hj : j < 12) (hl : sSt (kjS κ) j = -1) (C : Ok E x cL_isStep RL wsL_isStep (rmD 9)) (R0 : RetI E x .boolean (pI E A B (n + 1))) : G E x (w2 E A B κ τ) [some (.ref A.1), some (.ref B.1), some (.int x1), some (.int y), some (.int z), some (.int (nI j)), some (.int (-10001)), some (.int 0), some (.int (kCnt κ 0)), none, none, none, none] 653 [] := by
  obtain ⟨q, hq, eq9⟩ := up_n y (n := 4) (by omega) (by omega)
  obtain ⟨κ1, τ1, a1, b1, hI'⟩ := st_moveN hI hj hl (q := q)
  refine g_iload_n C dL_isStep_653 rfl rfl ?_
  refine g_iconst C (v := 4) dL_isStep_654 rfl ?_
  refine g_calliOF C (up_E E _ y 4 (by decide) (r := (nI q)) eq9) cf_L_up gL_isStep_L_up trivial (fitD (Nat.le_of_ble_eq_true rfl) (Nat.le_of_ble_eq_true rfl)) rfl rfl (Nat.le_of_ble_eq_true rfl) dL_isStep_655 (fun q1 w1 hp => ?_)
  obtain ⟨rfl, rfl⟩ := hp
  refine g_istore C dL_isStep_658 (Nat.le_of_ble_eq_true rfl) rfl ?_
  refine g_aload_n C dL_isStep_660 rfl rfl ?_
  refine g_iload C dL_isStep_661 rfl ?_
  refine g_iconst C (v := 1) dL_isStep_663 rfl ?_
  refine g_callK C w2_1 (k1_kite E A B κ τ  (nI j) 1 (r := (-10001)) (kt_n hj hl 1)) cf_X3_kite gL_isStep_X3_kite rfl (fitD (Nat.le_of_ble_eq_true rfl) (Nat.le_of_ble_eq_true rfl)) rfl rfl (Nat.le_of_ble_eq_true rfl) dL_isStep_664 (fun q1 w1 hp => ?_)
  obtain ⟨rfl, rfl⟩ := hp
  refine g_istore C dL_isStep_667 (Nat.le_of_ble_eq_true rfl) rfl ?_
  refine g_aload_n C dL_isStep_669 rfl rfl ?_
  refine g_iload C dL_isStep_670 rfl ?_
  refine g_iload C dL_isStep_672 rfl ?_
  refine g_callK C w2_1 (k1_move E A B κ τ hI.1 (iv_f1 hI) (nI j) (nI q) (r := (-10001)) (κ' := κ1) a1) cf_X3_move gL_isStep_X3_move rfl (fitD (Nat.le_of_ble_eq_true rfl) (Nat.le_of_ble_eq_true rfl)) rfl rfl (Nat.le_of_ble_eq_true rfl) dL_isStep_674 (fun q1 w1 hp => ?_)
  obtain ⟨rfl, rfl⟩ := hp
  refine g_istore C dL_isStep_677 (Nat.le_of_ble_eq_true rfl) rfl ?_
  show G E x (w2 E A B κ1 τ) [some (.ref A.1), some (.ref B.1), some (.int x1), some (.int y), some (.int z), some (.int (nI j)), some (.int (-10001)), some (.int 0), some (.int (kCnt κ 0)), some (.int (nI q)), some (.int (-10001)), some (.int (-10001)), none] 679 []
  refine g_iload C dL_isStep_679 rfl ?_
  refine g_aload_n C dL_isStep_681 rfl rfl ?_
  refine g_iload C dL_isStep_682 rfl ?_
  refine g_iload C dL_isStep_684 rfl ?_
  refine g_calliOF C (th_E E _ (nI q) rfl) cf_L_there gL_isStep_L_there trivial (fitD (Nat.le_of_ble_eq_true rfl) (Nat.le_of_ble_eq_true rfl)) rfl rfl (Nat.le_of_ble_eq_true rfl) dL_isStep_686 (fun q1 w1 hp => ?_)
  obtain ⟨rfl, rfl⟩ := hp
  refine g_callK C w2_2 (k2_move E A B κ1 τ hI.2.1 (iv_f2 hI) (nI j) (thr (nI q)) (r := (-10001)) (τ' := τ1) b1) cf_X3_move gL_isStep_X3_move rfl (fitD (Nat.le_of_ble_eq_true rfl) (Nat.le_of_ble_eq_true rfl)) rfl rfl (Nat.le_of_ble_eq_true rfl) dL_isStep_689 (fun q1 w1 hp => ?_)
  obtain ⟨rfl, rfl⟩ := hp
  refine g_icmp_ne_f C dL_isStep_692 757 (by decide) (by decide) ?_
  refine g_iload C dL_isStep_695 rfl ?_
  refine g_if_ne_f C dL_isStep_697 711 (by decide) (by decide) ?_
  refine g_iload C dL_isStep_700 rfl ?_
  refine g_sipush C (v := (-10001)) dL_isStep_702 rfl ?_
  refine g_icmp_ne_f C dL_isStep_705 757 (by decide) (by decide) ?_
  refine g_goto C (tgt := 753) dL_isStep_708 (by decide) ?_
  refine g_iconst C (v := 1) dL_isStep_753 rfl ?_
  refine g_goto C (tgt := 758) dL_isStep_754 (by decide) ?_
  refine g_zret C R0 rfl dL_isStep_758 ?_
  exact ⟨rfl, κ1, τ1, hI', rfl⟩
set_option maxHeartbeats 4000000 in
set_option maxRecDepth 100000 in
theorem is_moveY {E : Ev} {x : Cx} {A B : Ad} {n : Nat} {κ τ : KSt} {x1 y z : Int32} {j : Nat} (hI : Iv n κ τ) (hj : j < 12) (hl : ¬ sSt (kjS κ) j = -1) (C : Ok E x cL_isStep RL wsL_isStep (rmD 9)) (R0 : RetI E x .boolean (pI E A B (n + 1))) : G E x (w2 E A B κ τ) [some (.ref A.1), some (.ref B.1), some (.int x1), some (.int y), some (.int z), some (.int (nI j)), some (.int (sNu (kjS κ) j)), some (.int 1), some (.int (kCnt κ 0)), none, none, none, none] 653 [] := by
  obtain ⟨q, hq, eq9⟩ := up_n y (n := 4) (by omega) (by omega)
  by_cases hs : sSt (kjS κ) j = nI q
  · obtain ⟨κ1, τ1, a1, b1, hI'⟩ := st_moveS hI hj hl hq hs
    refine g_iload_n C dL_isStep_653 rfl rfl ?_
    refine g_iconst C (v := 4) dL_isStep_654 rfl ?_
    refine g_calliOF C (up_E E _ y 4 (by decide) (r := (nI q)) eq9) cf_L_up gL_isStep_L_up trivial (fitD (Nat.le_of_ble_eq_true rfl) (Nat.le_of_ble_eq_true rfl)) rfl rfl (Nat.le_of_ble_eq_true rfl) dL_isStep_655 (fun q1 w1 hp => ?_)
    obtain ⟨rfl, rfl⟩ := hp
    refine g_istore C dL_isStep_658 (Nat.le_of_ble_eq_true rfl) rfl ?_
    refine g_aload_n C dL_isStep_660 rfl rfl ?_
    refine g_iload C dL_isStep_661 rfl ?_
    refine g_iconst C (v := 1) dL_isStep_663 rfl ?_
    refine g_callK C w2_1 (k1_kite E A B κ τ  (nI j) 1 (r := (sSt (kjS κ) j)) ((kt_y hj hl 1).trans kg1)) cf_X3_kite gL_isStep_X3_kite rfl (fitD (Nat.le_of_ble_eq_true rfl) (Nat.le_of_ble_eq_true rfl)) rfl rfl (Nat.le_of_ble_eq_true rfl) dL_isStep_664 (fun q1 w1 hp => ?_)
    obtain ⟨rfl, rfl⟩ := hp
    refine g_istore C dL_isStep_667 (Nat.le_of_ble_eq_true rfl) rfl ?_
    refine g_aload_n C dL_isStep_669 rfl rfl ?_
    refine g_iload C dL_isStep_670 rfl ?_
    refine g_iload C dL_isStep_672 rfl ?_
    refine g_callK C w2_1 (k1_move E A B κ τ hI.1 (iv_f1 hI) (nI j) (nI q) (r := (-10005)) (κ' := κ1) a1) cf_X3_move gL_isStep_X3_move rfl (fitD (Nat.le_of_ble_eq_true rfl) (Nat.le_of_ble_eq_true rfl)) rfl rfl (Nat.le_of_ble_eq_true rfl) dL_isStep_674 (fun q1 w1 hp => ?_)
    obtain ⟨rfl, rfl⟩ := hp
    refine g_istore C dL_isStep_677 (Nat.le_of_ble_eq_true rfl) rfl ?_
    show G E x (w2 E A B κ1 τ) [some (.ref A.1), some (.ref B.1), some (.int x1), some (.int y), some (.int z), some (.int (nI j)), some (.int (sNu (kjS κ) j)), some (.int 1), some (.int (kCnt κ 0)), some (.int (nI q)), some (.int (sSt (kjS κ) j)), some (.int (-10005)), none] 679 []
    refine g_iload C dL_isStep_679 rfl ?_
    refine g_aload_n C dL_isStep_681 rfl rfl ?_
    refine g_iload C dL_isStep_682 rfl ?_
    refine g_iload C dL_isStep_684 rfl ?_
    refine g_calliOF C (th_E E _ (nI q) rfl) cf_L_there gL_isStep_L_there trivial (fitD (Nat.le_of_ble_eq_true rfl) (Nat.le_of_ble_eq_true rfl)) rfl rfl (Nat.le_of_ble_eq_true rfl) dL_isStep_686 (fun q1 w1 hp => ?_)
    obtain ⟨rfl, rfl⟩ := hp
    refine g_callK C w2_2 (k2_move E A B κ1 τ hI.2.1 (iv_f2 hI) (nI j) (thr (nI q)) (r := (-10005)) (τ' := τ1) b1) cf_X3_move gL_isStep_X3_move rfl (fitD (Nat.le_of_ble_eq_true rfl) (Nat.le_of_ble_eq_true rfl)) rfl rfl (Nat.le_of_ble_eq_true rfl) dL_isStep_689 (fun q1 w1 hp => ?_)
    obtain ⟨rfl, rfl⟩ := hp
    refine g_icmp_ne_f C dL_isStep_692 757 (by decide) (by decide) ?_
    refine g_iload C dL_isStep_695 rfl ?_
    refine g_if_ne_t C dL_isStep_697 (tgt := 711) (by decide) (by decide) ?_
    refine g_iload C dL_isStep_711 rfl ?_
    refine g_iload C dL_isStep_713 rfl ?_
    refine g_icmp_ne_f C dL_isStep_715 729 (by decide) hs ?_
    refine g_iload C dL_isStep_718 rfl ?_
    refine g_sipush C (v := (-10005)) dL_isStep_720 rfl ?_
    refine g_icmp_ne_f C dL_isStep_723 757 (by decide) (by decide) ?_
    refine g_goto C (tgt := 753) dL_isStep_726 (by decide) ?_
    refine g_iconst C (v := 1) dL_isStep_753 rfl ?_
    refine g_goto C (tgt := 758) dL_isStep_754 (by decide) ?_
    refine g_zret C R0 rfl dL_isStep_758 ?_
    exact ⟨rfl, κ1, τ1, hI', rfl⟩
  · obtain ⟨M9, κ1, τ1, a1, b1, hI', d1, d2⟩ := st_moveY hI hj hl hq hs
    refine g_iload_n C dL_isStep_653 rfl rfl ?_
    refine g_iconst C (v := 4) dL_isStep_654 rfl ?_
    refine g_calliOF C (up_E E _ y 4 (by decide) (r := (nI q)) eq9) cf_L_up gL_isStep_L_up trivial (fitD (Nat.le_of_ble_eq_true rfl) (Nat.le_of_ble_eq_true rfl)) rfl rfl (Nat.le_of_ble_eq_true rfl) dL_isStep_655 (fun q1 w1 hp => ?_)
    obtain ⟨rfl, rfl⟩ := hp
    refine g_istore C dL_isStep_658 (Nat.le_of_ble_eq_true rfl) rfl ?_
    refine g_aload_n C dL_isStep_660 rfl rfl ?_
    refine g_iload C dL_isStep_661 rfl ?_
    refine g_iconst C (v := 1) dL_isStep_663 rfl ?_
    refine g_callK C w2_1 (k1_kite E A B κ τ  (nI j) 1 (r := (sSt (kjS κ) j)) ((kt_y hj hl 1).trans kg1)) cf_X3_kite gL_isStep_X3_kite rfl (fitD (Nat.le_of_ble_eq_true rfl) (Nat.le_of_ble_eq_true rfl)) rfl rfl (Nat.le_of_ble_eq_true rfl) dL_isStep_664 (fun q1 w1 hp => ?_)
    obtain ⟨rfl, rfl⟩ := hp
    refine g_istore C dL_isStep_667 (Nat.le_of_ble_eq_true rfl) rfl ?_
    refine g_aload_n C dL_isStep_669 rfl rfl ?_
    refine g_iload C dL_isStep_670 rfl ?_
    refine g_iload C dL_isStep_672 rfl ?_
    refine g_callK C w2_1 (k1_move E A B κ τ hI.1 (iv_f1 hI) (nI j) (nI q) (r := M9) (κ' := κ1) a1) cf_X3_move gL_isStep_X3_move rfl (fitD (Nat.le_of_ble_eq_true rfl) (Nat.le_of_ble_eq_true rfl)) rfl rfl (Nat.le_of_ble_eq_true rfl) dL_isStep_674 (fun q1 w1 hp => ?_)
    obtain ⟨h9, rfl⟩ := hp
    rw [h9]
    clear h9
    refine g_istore C dL_isStep_677 (Nat.le_of_ble_eq_true rfl) rfl ?_
    show G E x (w2 E A B κ1 τ) [some (.ref A.1), some (.ref B.1), some (.int x1), some (.int y), some (.int z), some (.int (nI j)), some (.int (sNu (kjS κ) j)), some (.int 1), some (.int (kCnt κ 0)), some (.int (nI q)), some (.int (sSt (kjS κ) j)), some (.int M9), none] 679 []
    refine g_iload C dL_isStep_679 rfl ?_
    refine g_aload_n C dL_isStep_681 rfl rfl ?_
    refine g_iload C dL_isStep_682 rfl ?_
    refine g_iload C dL_isStep_684 rfl ?_
    refine g_calliOF C (th_E E _ (nI q) rfl) cf_L_there gL_isStep_L_there trivial (fitD (Nat.le_of_ble_eq_true rfl) (Nat.le_of_ble_eq_true rfl)) rfl rfl (Nat.le_of_ble_eq_true rfl) dL_isStep_686 (fun q1 w1 hp => ?_)
    obtain ⟨rfl, rfl⟩ := hp
    refine g_callK C w2_2 (k2_move E A B κ1 τ hI.2.1 (iv_f2 hI) (nI j) (thr (nI q)) (r := M9) (τ' := τ1) b1) cf_X3_move gL_isStep_X3_move rfl (fitD (Nat.le_of_ble_eq_true rfl) (Nat.le_of_ble_eq_true rfl)) rfl rfl (Nat.le_of_ble_eq_true rfl) dL_isStep_689 (fun q1 w1 hp => ?_)
    obtain ⟨h9, rfl⟩ := hp
    rw [h9]
    clear h9
    refine g_icmp_ne_f C dL_isStep_692 757 (by decide) rfl ?_
    refine g_iload C dL_isStep_695 rfl ?_
    refine g_if_ne_t C dL_isStep_697 (tgt := 711) (by decide) (by decide) ?_
    refine g_iload C dL_isStep_711 rfl ?_
    refine g_iload C dL_isStep_713 rfl ?_
    refine g_icmp_ne_t C dL_isStep_715 (tgt := 729) (by decide) hs ?_
    refine g_iload C dL_isStep_729 rfl ?_
    refine g_aload_n C dL_isStep_731 rfl rfl ?_
    refine g_iload C dL_isStep_732 rfl ?_
    refine g_iconst C (v := 2) dL_isStep_734 rfl ?_
    refine g_callK C w2_1 (k1_kite E A B κ1 τ1  (nI j) 2 (r := M9) d1) cf_X3_kite gL_isStep_X3_kite rfl (fitD (Nat.le_of_ble_eq_true rfl) (Nat.le_of_ble_eq_true rfl)) rfl rfl (Nat.le_of_ble_eq_true rfl) dL_isStep_735 (fun q1 w1 hp => ?_)
    obtain ⟨h9, rfl⟩ := hp
    rw [h9]
    clear h9
    refine g_icmp_ne_f C dL_isStep_738 757 (by decide) rfl ?_
    refine g_aload_n C dL_isStep_741 rfl rfl ?_
    refine g_iload C dL_isStep_742 rfl ?_
    refine g_iconst C (v := 1) dL_isStep_744 rfl ?_
    refine g_callK C w2_1 (k1_kite E A B κ1 τ1  (nI j) 1 (r := (nI q)) d2) cf_X3_kite gL_isStep_X3_kite rfl (fitD (Nat.le_of_ble_eq_true rfl) (Nat.le_of_ble_eq_true rfl)) rfl rfl (Nat.le_of_ble_eq_true rfl) dL_isStep_745 (fun q1 w1 hp => ?_)
    obtain ⟨rfl, rfl⟩ := hp
    refine g_iload C dL_isStep_748 rfl ?_
    refine g_icmp_ne_f C dL_isStep_750 757 (by decide) rfl ?_
    refine g_iconst C (v := 1) dL_isStep_753 rfl ?_
    refine g_goto C (tgt := 758) dL_isStep_754 (by decide) ?_
    refine g_zret C R0 rfl dL_isStep_758 ?_
    exact ⟨rfl, κ1, τ1, hI', rfl⟩
set_option maxHeartbeats 4000000 in
set_option maxRecDepth 100000 in
theorem is_beat {E : Ev} {x : Cx} {had th : Int32} {A B : Ad} {n : Nat} {κ τ : KSt} {x1 y z : Int32} {j : Nat} (hI : Iv n κ τ) (hj : j < 12) (C : Ok E x cL_isStep RL wsL_isStep (rmD 9)) (R0 : RetI E x .boolean (pI E A B (n + 1))) : G E x (w2 E A B κ τ) [some (.ref A.1), some (.ref B.1), some (.int x1), some (.int y), some (.int z), some (.int (nI j)), some (.int had), some (.int th), some (.int (kCnt κ 0)), none, none, none, none] 759 [] := by
  have k78 : Cond.constantLong RL 78 (1650811252) ∈ wsL_isStep := by decide +kernel
  obtain ⟨c9, hc9, ec9⟩ := up_n z (n := 4) (by omega) (by omega)
  rcases Nat.eq_zero_or_pos c9 with h9 | h9
  · have hz : nI c9 = 0 := by rw [h9]; rfl
    obtain ⟨m9, hm9, em9⟩ := up_n y (n := 20) (by omega) (by omega)
    obtain ⟨r9, κ1, τ1, a1, p1, hI', b1, b2⟩ := st_beat hI (m := 1 + m9) (by omega) (by omega)
    refine g_iconst C (v := 1) dL_isStep_759 rfl ?_
    refine g_iload_n C dL_isStep_760 rfl rfl ?_
    refine g_iload C dL_isStep_761 rfl ?_
    refine g_iconst C (v := 4) dL_isStep_763 rfl ?_
    refine g_calliOF C (up_E E _ z 4 (by decide) (r := (nI c9)) ec9) cf_L_up gL_isStep_L_up trivial (fitD (Nat.le_of_ble_eq_true rfl) (Nat.le_of_ble_eq_true rfl)) rfl rfl (Nat.le_of_ble_eq_true rfl) dL_isStep_764 (fun q1 w1 hp => ?_)
    obtain ⟨rfl, rfl⟩ := hp
    refine g_if_ne_f C dL_isStep_767 775 (by decide) hz ?_
    refine g_bipush C (v := 20) dL_isStep_770 rfl ?_
    refine g_goto C (tgt := 776) dL_isStep_772 (by decide) ?_
    refine g_calliOF C (up_E E _ y 20 (by decide) (r := (nI m9)) em9) cf_L_up gL_isStep_L_up trivial (fitD (Nat.le_of_ble_eq_true rfl) (Nat.le_of_ble_eq_true rfl)) rfl rfl (Nat.le_of_ble_eq_true rfl) dL_isStep_776 (fun q1 w1 hp => ?_)
    obtain ⟨rfl, rfl⟩ := hp
    refine g_iadd C dL_isStep_779 ?_
    rw [show (1 + nI m9 : Int32) = nI (1 + m9) from nI_add 1 m9]
    refine g_istore C dL_isStep_780 (Nat.le_of_ble_eq_true rfl) rfl ?_
    refine g_aload_n C dL_isStep_782 rfl rfl ?_
    refine g_iconst C (v := 1) dL_isStep_783 rfl ?_
    refine g_callK C w2_1 (k1_count E A B κ τ  1 (r := (kCnt κ 1)) rfl) cf_X3_count gL_isStep_X3_count rfl (fitD (Nat.le_of_ble_eq_true rfl) (Nat.le_of_ble_eq_true rfl)) rfl rfl (Nat.le_of_ble_eq_true rfl) dL_isStep_784 (fun q1 w1 hp => ?_)
    obtain ⟨rfl, rfl⟩ := hp
    refine g_istore C dL_isStep_787 (Nat.le_of_ble_eq_true rfl) rfl ?_
    refine g_aload_n C dL_isStep_789 rfl rfl ?_
    refine g_iload C dL_isStep_790 rfl ?_
    refine g_callK C w2_1 (k1_beat E A B κ τ hI.1 (iv_f1 hI) (nI (1 + m9)) (r := r9) (κ' := κ1) a1) cf_X3_beat gL_isStep_X3_beat rfl (fitD (Nat.le_of_ble_eq_true rfl) (Nat.le_of_ble_eq_true rfl)) rfl rfl (Nat.le_of_ble_eq_true rfl) dL_isStep_792 (fun q1 w1 hp => ?_)
    obtain ⟨h9, rfl⟩ := hp
    rw [h9]
    clear h9
    refine g_iload C dL_isStep_795 rfl ?_
    refine g_iload C dL_isStep_797 rfl ?_
    refine g_iadd C dL_isStep_799 ?_
    refine g_bipush C (v := 8) dL_isStep_800 rfl ?_
    refine g_irem C dL_isStep_802 (by decide) ?_
    refine g_icmp_ne_f C dL_isStep_803 845 (by decide) b1 ?_
    refine g_aload_n C dL_isStep_806 rfl rfl ?_
    refine g_ldc2 C k78 dL_isStep_807 ?_
    refine g_calliOF C (MI.f2 (κ := κ1) (c_L_types_beat E B τ hI.2.2.2.1)) cf_L_types gL_isStep_L_types trivial (fitD (Nat.le_of_ble_eq_true rfl) (Nat.le_of_ble_eq_true rfl)) rfl rfl (Nat.le_of_ble_eq_true rfl) dL_isStep_810 (fun q1 w1 hp => ?_)
    obtain ⟨rfl, rfl⟩ := hp
    refine g_if_eq_f C dL_isStep_813 845 (by decide) (by decide) ?_
    refine g_aload_n C dL_isStep_816 rfl rfl ?_
    refine g_iload C dL_isStep_817 rfl ?_
    refine g_calliOF C (MI.f2 (κ := κ1) (c_L_number E B τ [98, 101, 97, 116] (by decide) (nI (1 + m9)))) cf_L_number gL_isStep_L_number trivial (fitD (Nat.le_of_ble_eq_true rfl) (Nat.le_of_ble_eq_true rfl)) rfl rfl (Nat.le_of_ble_eq_true rfl) dL_isStep_819 (fun q1 w1 hp => ?_)
    obtain ⟨rfl, rfl⟩ := hp
    refine g_if_eq_f C dL_isStep_822 845 (by decide) (by decide) ?_
    refine g_aload_n C dL_isStep_825 rfl rfl ?_
    refine g_callK C w2_2 (k2_perform E A B κ1 (txA τ ([98, 101, 97, 116] ++ nuL (nI (1 + m9)))) hI.2.1 (iv_f2 hI : okFr (kjS τ)) (tx1_80 (by decide) _ )  (r := 1) (τ' := τ1) p1) cf_X3_perform gL_isStep_X3_perform rfl (fitD (Nat.le_of_ble_eq_true rfl) (Nat.le_of_ble_eq_true rfl)) rfl rfl (Nat.le_of_ble_eq_true rfl) dL_isStep_826 (fun q1 w1 hp => ?_)
    obtain ⟨rfl, rfl⟩ := hp
    refine g_iconst C (v := 1) dL_isStep_829 rfl ?_
    refine g_icmp_ne_f C dL_isStep_830 845 (by decide) (by decide) ?_
    refine g_aload_n C dL_isStep_833 rfl rfl ?_
    refine g_iconst C (v := 5) dL_isStep_834 rfl ?_
    refine g_callK C w2_1 (k1_count E A B κ1 τ1  5 (r := 0) b2) cf_X3_count gL_isStep_X3_count rfl (fitD (Nat.le_of_ble_eq_true rfl) (Nat.le_of_ble_eq_true rfl)) rfl rfl (Nat.le_of_ble_eq_true rfl) dL_isStep_835 (fun q1 w1 hp => ?_)
    obtain ⟨rfl, rfl⟩ := hp
    refine g_if_ne_f C dL_isStep_838 845 (by decide) (by decide) ?_
    refine g_iconst C (v := 1) dL_isStep_841 rfl ?_
    refine g_goto C (tgt := 846) dL_isStep_842 (by decide) ?_
    refine g_zret C R0 rfl dL_isStep_846 ?_
    exact ⟨rfl, κ1, τ1, hI', rfl⟩
  · have hz : ¬ nI c9 = 0 := nI_ne0 h9 (by omega)
    obtain ⟨m9, hm9, em9⟩ := up_n y (n := 3) (by omega) (by omega)
    obtain ⟨r9, κ1, τ1, a1, p1, hI', b1, b2⟩ := st_beat hI (m := 1 + m9) (by omega) (by omega)
    refine g_iconst C (v := 1) dL_isStep_759 rfl ?_
    refine g_iload_n C dL_isStep_760 rfl rfl ?_
    refine g_iload C dL_isStep_761 rfl ?_
    refine g_iconst C (v := 4) dL_isStep_763 rfl ?_
    refine g_calliOF C (up_E E _ z 4 (by decide) (r := (nI c9)) ec9) cf_L_up gL_isStep_L_up trivial (fitD (Nat.le_of_ble_eq_true rfl) (Nat.le_of_ble_eq_true rfl)) rfl rfl (Nat.le_of_ble_eq_true rfl) dL_isStep_764 (fun q1 w1 hp => ?_)
    obtain ⟨rfl, rfl⟩ := hp
    refine g_if_ne_t C dL_isStep_767 (tgt := 775) (by decide) hz ?_
    refine g_iconst C (v := 3) dL_isStep_775 rfl ?_
    refine g_calliOF C (up_E E _ y 3 (by decide) (r := (nI m9)) em9) cf_L_up gL_isStep_L_up trivial (fitD (Nat.le_of_ble_eq_true rfl) (Nat.le_of_ble_eq_true rfl)) rfl rfl (Nat.le_of_ble_eq_true rfl) dL_isStep_776 (fun q1 w1 hp => ?_)
    obtain ⟨rfl, rfl⟩ := hp
    refine g_iadd C dL_isStep_779 ?_
    rw [show (1 + nI m9 : Int32) = nI (1 + m9) from nI_add 1 m9]
    refine g_istore C dL_isStep_780 (Nat.le_of_ble_eq_true rfl) rfl ?_
    refine g_aload_n C dL_isStep_782 rfl rfl ?_
    refine g_iconst C (v := 1) dL_isStep_783 rfl ?_
    refine g_callK C w2_1 (k1_count E A B κ τ  1 (r := (kCnt κ 1)) rfl) cf_X3_count gL_isStep_X3_count rfl (fitD (Nat.le_of_ble_eq_true rfl) (Nat.le_of_ble_eq_true rfl)) rfl rfl (Nat.le_of_ble_eq_true rfl) dL_isStep_784 (fun q1 w1 hp => ?_)
    obtain ⟨rfl, rfl⟩ := hp
    refine g_istore C dL_isStep_787 (Nat.le_of_ble_eq_true rfl) rfl ?_
    refine g_aload_n C dL_isStep_789 rfl rfl ?_
    refine g_iload C dL_isStep_790 rfl ?_
    refine g_callK C w2_1 (k1_beat E A B κ τ hI.1 (iv_f1 hI) (nI (1 + m9)) (r := r9) (κ' := κ1) a1) cf_X3_beat gL_isStep_X3_beat rfl (fitD (Nat.le_of_ble_eq_true rfl) (Nat.le_of_ble_eq_true rfl)) rfl rfl (Nat.le_of_ble_eq_true rfl) dL_isStep_792 (fun q1 w1 hp => ?_)
    obtain ⟨h9, rfl⟩ := hp
    rw [h9]
    clear h9
    refine g_iload C dL_isStep_795 rfl ?_
    refine g_iload C dL_isStep_797 rfl ?_
    refine g_iadd C dL_isStep_799 ?_
    refine g_bipush C (v := 8) dL_isStep_800 rfl ?_
    refine g_irem C dL_isStep_802 (by decide) ?_
    refine g_icmp_ne_f C dL_isStep_803 845 (by decide) b1 ?_
    refine g_aload_n C dL_isStep_806 rfl rfl ?_
    refine g_ldc2 C k78 dL_isStep_807 ?_
    refine g_calliOF C (MI.f2 (κ := κ1) (c_L_types_beat E B τ hI.2.2.2.1)) cf_L_types gL_isStep_L_types trivial (fitD (Nat.le_of_ble_eq_true rfl) (Nat.le_of_ble_eq_true rfl)) rfl rfl (Nat.le_of_ble_eq_true rfl) dL_isStep_810 (fun q1 w1 hp => ?_)
    obtain ⟨rfl, rfl⟩ := hp
    refine g_if_eq_f C dL_isStep_813 845 (by decide) (by decide) ?_
    refine g_aload_n C dL_isStep_816 rfl rfl ?_
    refine g_iload C dL_isStep_817 rfl ?_
    refine g_calliOF C (MI.f2 (κ := κ1) (c_L_number E B τ [98, 101, 97, 116] (by decide) (nI (1 + m9)))) cf_L_number gL_isStep_L_number trivial (fitD (Nat.le_of_ble_eq_true rfl) (Nat.le_of_ble_eq_true rfl)) rfl rfl (Nat.le_of_ble_eq_true rfl) dL_isStep_819 (fun q1 w1 hp => ?_)
    obtain ⟨rfl, rfl⟩ := hp
    refine g_if_eq_f C dL_isStep_822 845 (by decide) (by decide) ?_
    refine g_aload_n C dL_isStep_825 rfl rfl ?_
    refine g_callK C w2_2 (k2_perform E A B κ1 (txA τ ([98, 101, 97, 116] ++ nuL (nI (1 + m9)))) hI.2.1 (iv_f2 hI : okFr (kjS τ)) (tx1_80 (by decide) _ )  (r := 1) (τ' := τ1) p1) cf_X3_perform gL_isStep_X3_perform rfl (fitD (Nat.le_of_ble_eq_true rfl) (Nat.le_of_ble_eq_true rfl)) rfl rfl (Nat.le_of_ble_eq_true rfl) dL_isStep_826 (fun q1 w1 hp => ?_)
    obtain ⟨rfl, rfl⟩ := hp
    refine g_iconst C (v := 1) dL_isStep_829 rfl ?_
    refine g_icmp_ne_f C dL_isStep_830 845 (by decide) (by decide) ?_
    refine g_aload_n C dL_isStep_833 rfl rfl ?_
    refine g_iconst C (v := 5) dL_isStep_834 rfl ?_
    refine g_callK C w2_1 (k1_count E A B κ1 τ1  5 (r := 0) b2) cf_X3_count gL_isStep_X3_count rfl (fitD (Nat.le_of_ble_eq_true rfl) (Nat.le_of_ble_eq_true rfl)) rfl rfl (Nat.le_of_ble_eq_true rfl) dL_isStep_835 (fun q1 w1 hp => ?_)
    obtain ⟨rfl, rfl⟩ := hp
    refine g_if_ne_f C dL_isStep_838 845 (by decide) (by decide) ?_
    refine g_iconst C (v := 1) dL_isStep_841 rfl ?_
    refine g_goto C (tgt := 846) dL_isStep_842 (by decide) ?_
    refine g_zret C R0 rfl dL_isStep_846 ?_
    exact ⟨rfl, κ1, τ1, hI', rfl⟩
set_option maxHeartbeats 4000000 in
set_option maxRecDepth 100000 in
theorem is_wind {E : Ev} {x : Cx} {had th : Int32} {A B : Ad} {n : Nat} {κ τ : KSt} {x1 y z : Int32} {j : Nat} (hI : Iv n κ τ) (hj : j < 12) (C : Ok E x cL_isStep RL wsL_isStep (rmD 9)) (R0 : RetI E x .boolean (pI E A B (n + 1))) : G E x (w2 E A B κ τ) [some (.ref A.1), some (.ref B.1), some (.int x1), some (.int y), some (.int z), some (.int (nI j)), some (.int had), some (.int th), some (.int (kCnt κ 0)), none, none, none, none] 847 [] := by
  have k83 : Cond.constantLong RL 83 (2003398244) ∈ wsL_isStep := by decide +kernel
  obtain ⟨a9, ha9, ea9⟩ := up_n z (n := 8) (by omega) (by omega)
  obtain ⟨c9, hc9, ec9⟩ := up_n y (n := 10) (by omega) (by omega)
  by_cases hs : sWi (kjS κ) a9 = nI c9
  · obtain ⟨κ1, τ1, a1, p1, hI', b1⟩ := st_windS hI ha9 hc9 hs
    refine g_iload C dL_isStep_847 rfl ?_
    refine g_bipush C (v := 8) dL_isStep_849 rfl ?_
    refine g_calliOF C (up_E E _ z 8 (by decide) (r := (nI a9)) ea9) cf_L_up gL_isStep_L_up trivial (fitD (Nat.le_of_ble_eq_true rfl) (Nat.le_of_ble_eq_true rfl)) rfl rfl (Nat.le_of_ble_eq_true rfl) dL_isStep_851 (fun q1 w1 hp => ?_)
    obtain ⟨rfl, rfl⟩ := hp
    refine g_istore C dL_isStep_854 (Nat.le_of_ble_eq_true rfl) rfl ?_
    refine g_iload_n C dL_isStep_856 rfl rfl ?_
    refine g_bipush C (v := 10) dL_isStep_857 rfl ?_
    refine g_calliOF C (up_E E _ y 10 (by decide) (r := (nI c9)) ec9) cf_L_up gL_isStep_L_up trivial (fitD (Nat.le_of_ble_eq_true rfl) (Nat.le_of_ble_eq_true rfl)) rfl rfl (Nat.le_of_ble_eq_true rfl) dL_isStep_859 (fun q1 w1 hp => ?_)
    obtain ⟨rfl, rfl⟩ := hp
    refine g_istore C dL_isStep_862 (Nat.le_of_ble_eq_true rfl) rfl ?_
    refine g_aload_n C dL_isStep_864 rfl rfl ?_
    refine g_iload C dL_isStep_865 rfl ?_
    refine g_iload C dL_isStep_867 rfl ?_
    refine g_callK C w2_1 (k1_wind E A B κ τ hI.1 (iv_f1 hI) (nI a9) (nI c9) (r := (-10005)) (κ' := κ1) a1) cf_X3_wind gL_isStep_X3_wind rfl (fitD (Nat.le_of_ble_eq_true rfl) (Nat.le_of_ble_eq_true rfl)) rfl rfl (Nat.le_of_ble_eq_true rfl) dL_isStep_869 (fun q1 w1 hp => ?_)
    obtain ⟨rfl, rfl⟩ := hp
    refine g_istore C dL_isStep_872 (Nat.le_of_ble_eq_true rfl) rfl ?_
    show G E x (w2 E A B κ1 τ) [some (.ref A.1), some (.ref B.1), some (.int x1), some (.int y), some (.int z), some (.int (nI j)), some (.int had), some (.int th), some (.int (kCnt κ 0)), some (.int (nI a9)), some (.int (nI c9)), some (.int (-10005)), none] 874 []
    refine g_aload_n C dL_isStep_874 rfl rfl ?_
    refine g_ldc2 C k83 dL_isStep_875 ?_
    refine g_calliOF C (MI.f2 (κ := κ1) (c_L_types_wind E B τ hI.2.2.2.1)) cf_L_types gL_isStep_L_types trivial (fitD (Nat.le_of_ble_eq_true rfl) (Nat.le_of_ble_eq_true rfl)) rfl rfl (Nat.le_of_ble_eq_true rfl) dL_isStep_878 (fun q1 w1 hp => ?_)
    obtain ⟨rfl, rfl⟩ := hp
    refine g_if_eq_f C dL_isStep_881 952 (by decide) (by decide) ?_
    refine g_aload_n C dL_isStep_884 rfl rfl ?_
    refine g_iload C dL_isStep_885 rfl ?_
    refine g_calliOF C (MI.f2 (κ := κ1) (c_L_number E B τ [119, 105, 110, 100] (by decide) (nI a9))) cf_L_number gL_isStep_L_number trivial (fitD (Nat.le_of_ble_eq_true rfl) (Nat.le_of_ble_eq_true rfl)) rfl rfl (Nat.le_of_ble_eq_true rfl) dL_isStep_887 (fun q1 w1 hp => ?_)
    obtain ⟨rfl, rfl⟩ := hp
    refine g_if_eq_f C dL_isStep_890 952 (by decide) (by decide) ?_
    refine g_aload_n C dL_isStep_893 rfl rfl ?_
    refine g_iload C dL_isStep_894 rfl ?_
    refine g_calliOF C (MI.f2 (κ := κ1) (c_L_number E B τ ([119, 105, 110, 100] ++ nuL (nI a9)) (Nat.le_trans (tx1_len (by decide) _) (by decide)) (nI c9))) cf_L_number gL_isStep_L_number trivial (fitD (Nat.le_of_ble_eq_true rfl) (Nat.le_of_ble_eq_true rfl)) rfl rfl (Nat.le_of_ble_eq_true rfl) dL_isStep_896 (fun q1 w1 hp => ?_)
    obtain ⟨rfl, rfl⟩ := hp
    refine g_if_eq_f C dL_isStep_899 952 (by decide) (by decide) ?_
    refine g_aload_n C dL_isStep_902 rfl rfl ?_
    refine g_callK C w2_2 (k2_perform E A B κ1 (txA τ (([119, 105, 110, 100] ++ nuL (nI a9)) ++ nuL (nI c9))) hI.2.1 (iv_f2 hI : okFr (kjS τ)) (tx2_80 (by decide) _ _ )  (r := 1) (τ' := τ1) p1) cf_X3_perform gL_isStep_X3_perform rfl (fitD (Nat.le_of_ble_eq_true rfl) (Nat.le_of_ble_eq_true rfl)) rfl rfl (Nat.le_of_ble_eq_true rfl) dL_isStep_903 (fun q1 w1 hp => ?_)
    obtain ⟨rfl, rfl⟩ := hp
    refine g_iconst C (v := 1) dL_isStep_906 rfl ?_
    refine g_icmp_ne_f C dL_isStep_907 952 (by decide) (by decide) ?_
    refine g_aload_n C dL_isStep_910 rfl rfl ?_
    refine g_iload C dL_isStep_911 rfl ?_
    refine g_callK C w2_1 (k1_windOf E A B κ1 τ1  (nI a9) (r := (nI c9)) b1) cf_X3_windOf gL_isStep_X3_windOf rfl (fitD (Nat.le_of_ble_eq_true rfl) (Nat.le_of_ble_eq_true rfl)) rfl rfl (Nat.le_of_ble_eq_true rfl) dL_isStep_913 (fun q1 w1 hp => ?_)
    obtain ⟨rfl, rfl⟩ := hp
    refine g_iload C dL_isStep_916 rfl ?_
    refine g_icmp_ne_f C dL_isStep_918 952 (by decide) rfl ?_
    refine g_iload C dL_isStep_921 rfl ?_
    refine g_sipush C (v := (-10005)) dL_isStep_923 rfl ?_
    refine g_icmp_eq_t C dL_isStep_926 (tgt := 948) (by decide) (by decide) ?_
    refine g_iconst C (v := 1) dL_isStep_948 rfl ?_
    refine g_goto C (tgt := 953) dL_isStep_949 (by decide) ?_
    refine g_zret C R0 rfl dL_isStep_953 ?_
    exact ⟨rfl, κ1, τ1, hI', rfl⟩
  · obtain ⟨p9, κ1, τ1, hp9, a1, p1, hI', b1, b2⟩ := st_windC hI ha9 hc9 hs
    refine g_iload C dL_isStep_847 rfl ?_
    refine g_bipush C (v := 8) dL_isStep_849 rfl ?_
    refine g_calliOF C (up_E E _ z 8 (by decide) (r := (nI a9)) ea9) cf_L_up gL_isStep_L_up trivial (fitD (Nat.le_of_ble_eq_true rfl) (Nat.le_of_ble_eq_true rfl)) rfl rfl (Nat.le_of_ble_eq_true rfl) dL_isStep_851 (fun q1 w1 hp => ?_)
    obtain ⟨rfl, rfl⟩ := hp
    refine g_istore C dL_isStep_854 (Nat.le_of_ble_eq_true rfl) rfl ?_
    refine g_iload_n C dL_isStep_856 rfl rfl ?_
    refine g_bipush C (v := 10) dL_isStep_857 rfl ?_
    refine g_calliOF C (up_E E _ y 10 (by decide) (r := (nI c9)) ec9) cf_L_up gL_isStep_L_up trivial (fitD (Nat.le_of_ble_eq_true rfl) (Nat.le_of_ble_eq_true rfl)) rfl rfl (Nat.le_of_ble_eq_true rfl) dL_isStep_859 (fun q1 w1 hp => ?_)
    obtain ⟨rfl, rfl⟩ := hp
    refine g_istore C dL_isStep_862 (Nat.le_of_ble_eq_true rfl) rfl ?_
    refine g_aload_n C dL_isStep_864 rfl rfl ?_
    refine g_iload C dL_isStep_865 rfl ?_
    refine g_iload C dL_isStep_867 rfl ?_
    refine g_callK C w2_1 (k1_wind E A B κ τ hI.1 (iv_f1 hI) (nI a9) (nI c9) (r := (nI p9)) (κ' := κ1) a1) cf_X3_wind gL_isStep_X3_wind rfl (fitD (Nat.le_of_ble_eq_true rfl) (Nat.le_of_ble_eq_true rfl)) rfl rfl (Nat.le_of_ble_eq_true rfl) dL_isStep_869 (fun q1 w1 hp => ?_)
    obtain ⟨rfl, rfl⟩ := hp
    refine g_istore C dL_isStep_872 (Nat.le_of_ble_eq_true rfl) rfl ?_
    show G E x (w2 E A B κ1 τ) [some (.ref A.1), some (.ref B.1), some (.int x1), some (.int y), some (.int z), some (.int (nI j)), some (.int had), some (.int th), some (.int (kCnt κ 0)), some (.int (nI a9)), some (.int (nI c9)), some (.int (nI p9)), none] 874 []
    refine g_aload_n C dL_isStep_874 rfl rfl ?_
    refine g_ldc2 C k83 dL_isStep_875 ?_
    refine g_calliOF C (MI.f2 (κ := κ1) (c_L_types_wind E B τ hI.2.2.2.1)) cf_L_types gL_isStep_L_types trivial (fitD (Nat.le_of_ble_eq_true rfl) (Nat.le_of_ble_eq_true rfl)) rfl rfl (Nat.le_of_ble_eq_true rfl) dL_isStep_878 (fun q1 w1 hp => ?_)
    obtain ⟨rfl, rfl⟩ := hp
    refine g_if_eq_f C dL_isStep_881 952 (by decide) (by decide) ?_
    refine g_aload_n C dL_isStep_884 rfl rfl ?_
    refine g_iload C dL_isStep_885 rfl ?_
    refine g_calliOF C (MI.f2 (κ := κ1) (c_L_number E B τ [119, 105, 110, 100] (by decide) (nI a9))) cf_L_number gL_isStep_L_number trivial (fitD (Nat.le_of_ble_eq_true rfl) (Nat.le_of_ble_eq_true rfl)) rfl rfl (Nat.le_of_ble_eq_true rfl) dL_isStep_887 (fun q1 w1 hp => ?_)
    obtain ⟨rfl, rfl⟩ := hp
    refine g_if_eq_f C dL_isStep_890 952 (by decide) (by decide) ?_
    refine g_aload_n C dL_isStep_893 rfl rfl ?_
    refine g_iload C dL_isStep_894 rfl ?_
    refine g_calliOF C (MI.f2 (κ := κ1) (c_L_number E B τ ([119, 105, 110, 100] ++ nuL (nI a9)) (Nat.le_trans (tx1_len (by decide) _) (by decide)) (nI c9))) cf_L_number gL_isStep_L_number trivial (fitD (Nat.le_of_ble_eq_true rfl) (Nat.le_of_ble_eq_true rfl)) rfl rfl (Nat.le_of_ble_eq_true rfl) dL_isStep_896 (fun q1 w1 hp => ?_)
    obtain ⟨rfl, rfl⟩ := hp
    refine g_if_eq_f C dL_isStep_899 952 (by decide) (by decide) ?_
    refine g_aload_n C dL_isStep_902 rfl rfl ?_
    refine g_callK C w2_2 (k2_perform E A B κ1 (txA τ (([119, 105, 110, 100] ++ nuL (nI a9)) ++ nuL (nI c9))) hI.2.1 (iv_f2 hI : okFr (kjS τ)) (tx2_80 (by decide) _ _ )  (r := 1) (τ' := τ1) p1) cf_X3_perform gL_isStep_X3_perform rfl (fitD (Nat.le_of_ble_eq_true rfl) (Nat.le_of_ble_eq_true rfl)) rfl rfl (Nat.le_of_ble_eq_true rfl) dL_isStep_903 (fun q1 w1 hp => ?_)
    obtain ⟨rfl, rfl⟩ := hp
    refine g_iconst C (v := 1) dL_isStep_906 rfl ?_
    refine g_icmp_ne_f C dL_isStep_907 952 (by decide) (by decide) ?_
    refine g_aload_n C dL_isStep_910 rfl rfl ?_
    refine g_iload C dL_isStep_911 rfl ?_
    refine g_callK C w2_1 (k1_windOf E A B κ1 τ1  (nI a9) (r := (nI c9)) b1) cf_X3_windOf gL_isStep_X3_windOf rfl (fitD (Nat.le_of_ble_eq_true rfl) (Nat.le_of_ble_eq_true rfl)) rfl rfl (Nat.le_of_ble_eq_true rfl) dL_isStep_913 (fun q1 w1 hp => ?_)
    obtain ⟨rfl, rfl⟩ := hp
    refine g_iload C dL_isStep_916 rfl ?_
    refine g_icmp_ne_f C dL_isStep_918 952 (by decide) rfl ?_
    refine g_iload C dL_isStep_921 rfl ?_
    refine g_sipush C (v := (-10005)) dL_isStep_923 rfl ?_
    refine g_icmp_eq_f C dL_isStep_926 948 (by decide) (nI_nN (by omega)) ?_
    refine g_iload C dL_isStep_929 rfl ?_
    refine g_if_lt_f C dL_isStep_931 952 (by decide) (nI_pos (by omega)) ?_
    refine g_iload C dL_isStep_934 rfl ?_
    refine g_bipush C (v := 10) dL_isStep_936 rfl ?_
    refine g_icmp_ge_f C dL_isStep_938 952 (by decide) (nI_ge (b := 10) hp9 (by omega)) ?_
    refine g_iload C dL_isStep_941 rfl ?_
    refine g_iload C dL_isStep_943 rfl ?_
    refine g_icmp_eq_f C dL_isStep_945 952 (by decide) b2 ?_
    refine g_iconst C (v := 1) dL_isStep_948 rfl ?_
    refine g_goto C (tgt := 953) dL_isStep_949 (by decide) ?_
    refine g_zret C R0 rfl dL_isStep_953 ?_
    exact ⟨rfl, κ1, τ1, hI', rfl⟩
set_option maxHeartbeats 4000000 in
set_option maxRecDepth 100000 in
theorem is_set {E : Ev} {x : Cx} {had th : Int32} {A B : Ad} {n : Nat} {κ τ : KSt} {x1 y z : Int32} {j : Nat} (hI : Iv n κ τ) (hj : j < 12) (C : Ok E x cL_isStep RL wsL_isStep (rmD 9)) (R0 : RetI E x .boolean (pI E A B (n + 1))) : G E x (w2 E A B κ τ) [some (.ref A.1), some (.ref B.1), some (.int x1), some (.int y), some (.int z), some (.int (nI j)), some (.int had), some (.int th), some (.int (kCnt κ 0)), none, none, none, none] 954 [] := by
  obtain ⟨w9, hw9, ew9⟩ := up_n z (n := 2) (by omega) (by omega)
  have h9 : w9 = 0 ∨ w9 = 1 := by omega
  rcases h9 with rfl | rfl
  · obtain ⟨c9, hc9, ec9⟩ := up_n y (n := 40) (by omega) (by omega)
    obtain ⟨r9, κ1, τ1, a1, b1, hI', b2⟩ := st_set0 hI (c := 5 + c9) (by omega) (by omega)
    refine g_iload C dL_isStep_954 rfl ?_
    refine g_iconst C (v := 2) dL_isStep_956 rfl ?_
    refine g_calliOF C (up_E E _ z 2 (by decide) (r := 0) ew9) cf_L_up gL_isStep_L_up trivial (fitD (Nat.le_of_ble_eq_true rfl) (Nat.le_of_ble_eq_true rfl)) rfl rfl (Nat.le_of_ble_eq_true rfl) dL_isStep_957 (fun q1 w1 hp => ?_)
    obtain ⟨rfl, rfl⟩ := hp
    refine g_istore C dL_isStep_960 (Nat.le_of_ble_eq_true rfl) rfl ?_
    refine g_iload C dL_isStep_962 rfl ?_
    refine g_if_ne_f C dL_isStep_964 978 (by decide) (by decide) ?_
    refine g_iconst C (v := 5) dL_isStep_967 rfl ?_
    refine g_iload_n C dL_isStep_968 rfl rfl ?_
    refine g_bipush C (v := 40) dL_isStep_969 rfl ?_
    refine g_calliOF C (up_E E _ y 40 (by decide) (r := (nI c9)) ec9) cf_L_up gL_isStep_L_up trivial (fitD (Nat.le_of_ble_eq_true rfl) (Nat.le_of_ble_eq_true rfl)) rfl rfl (Nat.le_of_ble_eq_true rfl) dL_isStep_971 (fun q1 w1 hp => ?_)
    obtain ⟨rfl, rfl⟩ := hp
    refine g_iadd C dL_isStep_974 ?_
    rw [show (5 + nI c9 : Int32) = nI (5 + c9) from nI_add 5 c9]
    refine g_goto C (tgt := 984) dL_isStep_975 (by decide) ?_
    refine g_istore C dL_isStep_984 (Nat.le_of_ble_eq_true rfl) rfl ?_
    refine g_aload_n C dL_isStep_986 rfl rfl ?_
    refine g_iload C dL_isStep_987 rfl ?_
    refine g_iload C dL_isStep_989 rfl ?_
    refine g_callK C w2_1 (k1_set E A B κ τ hI.1 (iv_f1 hI) 0 (nI (5 + c9)) (r := r9) (κ' := κ1) a1) cf_X3_set gL_isStep_X3_set rfl (fitD (Nat.le_of_ble_eq_true rfl) (Nat.le_of_ble_eq_true rfl)) rfl rfl (Nat.le_of_ble_eq_true rfl) dL_isStep_991 (fun q1 w1 hp => ?_)
    obtain ⟨h9, rfl⟩ := hp
    rw [h9]
    clear h9
    refine g_aload_n C dL_isStep_994 rfl rfl ?_
    refine g_iload C dL_isStep_995 rfl ?_
    refine g_iload C dL_isStep_997 rfl ?_
    refine g_callK C w2_2 (k2_set E A B κ1 τ hI.2.1 (iv_f2 hI) 0 (nI (5 + c9)) (r := r9) (τ' := τ1) b1) cf_X3_set gL_isStep_X3_set rfl (fitD (Nat.le_of_ble_eq_true rfl) (Nat.le_of_ble_eq_true rfl)) rfl rfl (Nat.le_of_ble_eq_true rfl) dL_isStep_999 (fun q1 w1 hp => ?_)
    obtain ⟨h9, rfl⟩ := hp
    rw [h9]
    clear h9
    refine g_icmp_ne_f C dL_isStep_1002 1023 (by decide) rfl ?_
    refine g_aload_n C dL_isStep_1005 rfl rfl ?_
    refine g_bipush C (v := 8) dL_isStep_1006 rfl ?_
    refine g_iload C dL_isStep_1008 rfl ?_
    refine g_iadd C dL_isStep_1010 ?_
    refine g_callK C w2_1 (k1_count E A B κ1 τ1  (8 + 0) (r := (nI (5 + c9))) b2) cf_X3_count gL_isStep_X3_count rfl (fitD (Nat.le_of_ble_eq_true rfl) (Nat.le_of_ble_eq_true rfl)) rfl rfl (Nat.le_of_ble_eq_true rfl) dL_isStep_1011 (fun q1 w1 hp => ?_)
    obtain ⟨rfl, rfl⟩ := hp
    refine g_iload C dL_isStep_1014 rfl ?_
    refine g_icmp_ne_f C dL_isStep_1016 1023 (by decide) rfl ?_
    refine g_iconst C (v := 1) dL_isStep_1019 rfl ?_
    refine g_goto C (tgt := 1024) dL_isStep_1020 (by decide) ?_
    refine g_zret C R0 rfl dL_isStep_1024 ?_
    exact ⟨rfl, κ1, τ1, hI', rfl⟩
  · obtain ⟨c9, hc9, ec9⟩ := up_n y (n := 10) (by omega) (by omega)
    obtain ⟨r9, κ1, τ1, a1, b1, hI', b2⟩ := st_set1 hI (c := c9) (by omega)
    refine g_iload C dL_isStep_954 rfl ?_
    refine g_iconst C (v := 2) dL_isStep_956 rfl ?_
    refine g_calliOF C (up_E E _ z 2 (by decide) (r := 1) ew9) cf_L_up gL_isStep_L_up trivial (fitD (Nat.le_of_ble_eq_true rfl) (Nat.le_of_ble_eq_true rfl)) rfl rfl (Nat.le_of_ble_eq_true rfl) dL_isStep_957 (fun q1 w1 hp => ?_)
    obtain ⟨rfl, rfl⟩ := hp
    refine g_istore C dL_isStep_960 (Nat.le_of_ble_eq_true rfl) rfl ?_
    refine g_iload C dL_isStep_962 rfl ?_
    refine g_if_ne_t C dL_isStep_964 (tgt := 978) (by decide) (by decide) ?_
    refine g_iload_n C dL_isStep_978 rfl rfl ?_
    refine g_bipush C (v := 10) dL_isStep_979 rfl ?_
    refine g_calliOF C (up_E E _ y 10 (by decide) (r := (nI c9)) ec9) cf_L_up gL_isStep_L_up trivial (fitD (Nat.le_of_ble_eq_true rfl) (Nat.le_of_ble_eq_true rfl)) rfl rfl (Nat.le_of_ble_eq_true rfl) dL_isStep_981 (fun q1 w1 hp => ?_)
    obtain ⟨rfl, rfl⟩ := hp
    refine g_istore C dL_isStep_984 (Nat.le_of_ble_eq_true rfl) rfl ?_
    refine g_aload_n C dL_isStep_986 rfl rfl ?_
    refine g_iload C dL_isStep_987 rfl ?_
    refine g_iload C dL_isStep_989 rfl ?_
    refine g_callK C w2_1 (k1_set E A B κ τ hI.1 (iv_f1 hI) 1 (nI c9) (r := r9) (κ' := κ1) a1) cf_X3_set gL_isStep_X3_set rfl (fitD (Nat.le_of_ble_eq_true rfl) (Nat.le_of_ble_eq_true rfl)) rfl rfl (Nat.le_of_ble_eq_true rfl) dL_isStep_991 (fun q1 w1 hp => ?_)
    obtain ⟨h9, rfl⟩ := hp
    rw [h9]
    clear h9
    refine g_aload_n C dL_isStep_994 rfl rfl ?_
    refine g_iload C dL_isStep_995 rfl ?_
    refine g_iload C dL_isStep_997 rfl ?_
    refine g_callK C w2_2 (k2_set E A B κ1 τ hI.2.1 (iv_f2 hI) 1 (nI c9) (r := r9) (τ' := τ1) b1) cf_X3_set gL_isStep_X3_set rfl (fitD (Nat.le_of_ble_eq_true rfl) (Nat.le_of_ble_eq_true rfl)) rfl rfl (Nat.le_of_ble_eq_true rfl) dL_isStep_999 (fun q1 w1 hp => ?_)
    obtain ⟨h9, rfl⟩ := hp
    rw [h9]
    clear h9
    refine g_icmp_ne_f C dL_isStep_1002 1023 (by decide) rfl ?_
    refine g_aload_n C dL_isStep_1005 rfl rfl ?_
    refine g_bipush C (v := 8) dL_isStep_1006 rfl ?_
    refine g_iload C dL_isStep_1008 rfl ?_
    refine g_iadd C dL_isStep_1010 ?_
    refine g_callK C w2_1 (k1_count E A B κ1 τ1  (8 + 1) (r := (nI c9)) b2) cf_X3_count gL_isStep_X3_count rfl (fitD (Nat.le_of_ble_eq_true rfl) (Nat.le_of_ble_eq_true rfl)) rfl rfl (Nat.le_of_ble_eq_true rfl) dL_isStep_1011 (fun q1 w1 hp => ?_)
    obtain ⟨rfl, rfl⟩ := hp
    refine g_iload C dL_isStep_1014 rfl ?_
    refine g_icmp_ne_f C dL_isStep_1016 1023 (by decide) rfl ?_
    refine g_iconst C (v := 1) dL_isStep_1019 rfl ?_
    refine g_goto C (tgt := 1024) dL_isStep_1020 (by decide) ?_
    refine g_zret C R0 rfl dL_isStep_1024 ?_
    exact ⟨rfl, κ1, τ1, hI', rfl⟩
set_option maxHeartbeats 4000000 in
set_option maxRecDepth 100000 in
theorem is_all {E : Ev} {x : Cx} {A B : Ad} {n : Nat} {κ τ : KSt} {x1 y : Int32} (hI : Iv n κ τ) (C : Ok E x cL_isStep RL wsL_isStep (rmD 9)) (R0 : RetI E x .boolean (pI E A B (n + 1))) : G E x (w2 E A B κ τ) [some (.ref A.1), some (.ref B.1), some (.int x1), some (.int y), none, none, none, none, none, none, none, none, none] 0 [] := by
  obtain ⟨j, hj, ej⟩ := up_n (x1 >>> (4 &&& 31)) (n := 12) (by omega) (by omega)
  obtain ⟨c9, hc9, ec9⟩ := up_n x1 (n := 13) (by omega) (by omega)
  have hg := (iv_gd hI).1
  by_cases hl : sSt (kjS κ) j = -1
  · skip
    refine g_iload_n C dL_isStep_0 rfl rfl ?_
    refine g_iconst C (v := 4) dL_isStep_1 rfl ?_
    refine g_ishr C dL_isStep_2 ?_
    refine g_istore C dL_isStep_3 (Nat.le_of_ble_eq_true rfl) rfl ?_
    refine g_iload C dL_isStep_5 rfl ?_
    refine g_bipush C (v := 12) dL_isStep_7 rfl ?_
    refine g_calliOF C (up_E E _ (x1 >>> (4 &&& 31)) 12 (by decide) (r := (nI j)) ej) cf_L_up gL_isStep_L_up trivial (fitD (Nat.le_of_ble_eq_true rfl) (Nat.le_of_ble_eq_true rfl)) rfl rfl (Nat.le_of_ble_eq_true rfl) dL_isStep_9 (fun q1 w1 hp => ?_)
    obtain ⟨rfl, rfl⟩ := hp
    refine g_istore C dL_isStep_12 (Nat.le_of_ble_eq_true rfl) rfl ?_
    refine g_aload_n C dL_isStep_14 rfl rfl ?_
    refine g_iload C dL_isStep_15 rfl ?_
    refine g_iconst C (v := 0) dL_isStep_17 rfl ?_
    refine g_callK C w2_1 (k1_kite E A B κ τ  (nI j) 0 (r := (-10001)) (kt_n hj hl 0)) cf_X3_kite gL_isStep_X3_kite rfl (fitD (Nat.le_of_ble_eq_true rfl) (Nat.le_of_ble_eq_true rfl)) rfl rfl (Nat.le_of_ble_eq_true rfl) dL_isStep_18 (fun q1 w1 hp => ?_)
    obtain ⟨rfl, rfl⟩ := hp
    refine g_istore C dL_isStep_21 (Nat.le_of_ble_eq_true rfl) rfl ?_
    show G E x (w2 E A B κ τ) [some (.ref A.1), some (.ref B.1), some (.int x1), some (.int y), some (.int (x1 >>> (4 &&& 31))), some (.int (nI j)), some (.int (-10001)), none, none, none, none, none, none] 23 []
    refine g_iload C dL_isStep_23 rfl ?_
    refine g_sipush C (v := (-10001)) dL_isStep_25 rfl ?_
    refine g_icmp_eq_t C dL_isStep_28 (tgt := 35) (by decide) (by decide) ?_
    refine g_iconst C (v := 0) dL_isStep_35 rfl ?_
    refine g_istore C dL_isStep_36 (Nat.le_of_ble_eq_true rfl) rfl ?_
    refine g_aload_n C dL_isStep_38 rfl rfl ?_
    refine g_iconst C (v := 0) dL_isStep_39 rfl ?_
    refine g_callK C w2_1 (k1_count E A B κ τ  0 (r := (kCnt κ 0)) rfl) cf_X3_count gL_isStep_X3_count rfl (fitD (Nat.le_of_ble_eq_true rfl) (Nat.le_of_ble_eq_true rfl)) rfl rfl (Nat.le_of_ble_eq_true rfl) dL_isStep_40 (fun q1 w1 hp => ?_)
    obtain ⟨rfl, rfl⟩ := hp
    refine g_istore C dL_isStep_43 (Nat.le_of_ble_eq_true rfl) rfl ?_
    refine g_iload_n C dL_isStep_45 rfl rfl ?_
    refine g_bipush C (v := 13) dL_isStep_46 rfl ?_
    refine g_calliOF C (up_E E _ x1 13 (by decide) (r := (nI c9)) ec9) cf_L_up gL_isStep_L_up trivial (fitD (Nat.le_of_ble_eq_true rfl) (Nat.le_of_ble_eq_true rfl)) rfl rfl (Nat.le_of_ble_eq_true rfl) dL_isStep_48 (fun q1 w1 hp => ?_)
    obtain ⟨rfl, rfl⟩ := hp
    have h9 : c9 = 0 ∨ c9 = 1 ∨ c9 = 2 ∨ c9 = 3 ∨ c9 = 4 ∨ c9 = 5 ∨ c9 = 6 ∨ c9 = 7 ∨ c9 = 8 ∨ c9 = 9 ∨ c9 = 10 ∨ c9 = 11 ∨ c9 = 12 := by omega
    rcases h9 with rfl | rfl | rfl | rfl | rfl | rfl | rfl | rfl | rfl | rfl | rfl | rfl | rfl
    · exact g_tableIn C (tgt := 112) dL_isStep_51 (by decide) (by decide) rfl (by decide) (is_fly hI hj C R0)
    · exact g_tableIn C (tgt := 112) dL_isStep_51 (by decide) (by decide) rfl (by decide) (is_fly hI hj C R0)
    · exact g_tableIn C (tgt := 112) dL_isStep_51 (by decide) (by decide) rfl (by decide) (is_fly hI hj C R0)
    · exact g_tableIn C (tgt := 302) dL_isStep_51 (by decide) (by decide) rfl (by decide) (is_downN hI hj hl C R0)
    · exact g_tableIn C (tgt := 387) dL_isStep_51 (by decide) (by decide) rfl (by decide) (is_readN hI hj hl C R0)
    · exact g_tableIn C (tgt := 387) dL_isStep_51 (by decide) (by decide) rfl (by decide) (is_readN hI hj hl C R0)
    · exact g_tableIn C (tgt := 387) dL_isStep_51 (by decide) (by decide) rfl (by decide) (is_readN hI hj hl C R0)
    · exact g_tableIn C (tgt := 387) dL_isStep_51 (by decide) (by decide) rfl (by decide) (is_readN hI hj hl C R0)
    · exact g_tableIn C (tgt := 549) dL_isStep_51 (by decide) (by decide) rfl (by decide) (is_writeN hI hj hl C R0)
    · exact g_tableIn C (tgt := 653) dL_isStep_51 (by decide) (by decide) rfl (by decide) (is_moveN hI hj hl C R0)
    · exact g_tableIn C (tgt := 759) dL_isStep_51 (by decide) (by decide) rfl (by decide) (is_beat hI hj C R0)
    · exact g_tableIn C (tgt := 847) dL_isStep_51 (by decide) (by decide) rfl (by decide) (is_wind hI hj C R0)
    · exact g_tableOut C (tgt := 954) dL_isStep_51 (by decide) (by decide) (is_set hI hj C R0)
  · skip
    refine g_iload_n C dL_isStep_0 rfl rfl ?_
    refine g_iconst C (v := 4) dL_isStep_1 rfl ?_
    refine g_ishr C dL_isStep_2 ?_
    refine g_istore C dL_isStep_3 (Nat.le_of_ble_eq_true rfl) rfl ?_
    refine g_iload C dL_isStep_5 rfl ?_
    refine g_bipush C (v := 12) dL_isStep_7 rfl ?_
    refine g_calliOF C (up_E E _ (x1 >>> (4 &&& 31)) 12 (by decide) (r := (nI j)) ej) cf_L_up gL_isStep_L_up trivial (fitD (Nat.le_of_ble_eq_true rfl) (Nat.le_of_ble_eq_true rfl)) rfl rfl (Nat.le_of_ble_eq_true rfl) dL_isStep_9 (fun q1 w1 hp => ?_)
    obtain ⟨rfl, rfl⟩ := hp
    refine g_istore C dL_isStep_12 (Nat.le_of_ble_eq_true rfl) rfl ?_
    refine g_aload_n C dL_isStep_14 rfl rfl ?_
    refine g_iload C dL_isStep_15 rfl ?_
    refine g_iconst C (v := 0) dL_isStep_17 rfl ?_
    refine g_callK C w2_1 (k1_kite E A B κ τ  (nI j) 0 (r := (sNu (kjS κ) j)) ((kt_y hj hl 0).trans kg0)) cf_X3_kite gL_isStep_X3_kite rfl (fitD (Nat.le_of_ble_eq_true rfl) (Nat.le_of_ble_eq_true rfl)) rfl rfl (Nat.le_of_ble_eq_true rfl) dL_isStep_18 (fun q1 w1 hp => ?_)
    obtain ⟨rfl, rfl⟩ := hp
    refine g_istore C dL_isStep_21 (Nat.le_of_ble_eq_true rfl) rfl ?_
    show G E x (w2 E A B κ τ) [some (.ref A.1), some (.ref B.1), some (.int x1), some (.int y), some (.int (x1 >>> (4 &&& 31))), some (.int (nI j)), some (.int (sNu (kjS κ) j)), none, none, none, none, none, none] 23 []
    refine g_iload C dL_isStep_23 rfl ?_
    refine g_sipush C (v := (-10001)) dL_isStep_25 rfl ?_
    refine g_icmp_eq_f C dL_isStep_28 35 (by decide) (nN_U (hg.2.2.2.2.1 j)) ?_
    refine g_iconst C (v := 1) dL_isStep_31 rfl ?_
    refine g_goto C (tgt := 36) dL_isStep_32 (by decide) ?_
    refine g_istore C dL_isStep_36 (Nat.le_of_ble_eq_true rfl) rfl ?_
    refine g_aload_n C dL_isStep_38 rfl rfl ?_
    refine g_iconst C (v := 0) dL_isStep_39 rfl ?_
    refine g_callK C w2_1 (k1_count E A B κ τ  0 (r := (kCnt κ 0)) rfl) cf_X3_count gL_isStep_X3_count rfl (fitD (Nat.le_of_ble_eq_true rfl) (Nat.le_of_ble_eq_true rfl)) rfl rfl (Nat.le_of_ble_eq_true rfl) dL_isStep_40 (fun q1 w1 hp => ?_)
    obtain ⟨rfl, rfl⟩ := hp
    refine g_istore C dL_isStep_43 (Nat.le_of_ble_eq_true rfl) rfl ?_
    refine g_iload_n C dL_isStep_45 rfl rfl ?_
    refine g_bipush C (v := 13) dL_isStep_46 rfl ?_
    refine g_calliOF C (up_E E _ x1 13 (by decide) (r := (nI c9)) ec9) cf_L_up gL_isStep_L_up trivial (fitD (Nat.le_of_ble_eq_true rfl) (Nat.le_of_ble_eq_true rfl)) rfl rfl (Nat.le_of_ble_eq_true rfl) dL_isStep_48 (fun q1 w1 hp => ?_)
    obtain ⟨rfl, rfl⟩ := hp
    have h9 : c9 = 0 ∨ c9 = 1 ∨ c9 = 2 ∨ c9 = 3 ∨ c9 = 4 ∨ c9 = 5 ∨ c9 = 6 ∨ c9 = 7 ∨ c9 = 8 ∨ c9 = 9 ∨ c9 = 10 ∨ c9 = 11 ∨ c9 = 12 := by omega
    rcases h9 with rfl | rfl | rfl | rfl | rfl | rfl | rfl | rfl | rfl | rfl | rfl | rfl | rfl
    · exact g_tableIn C (tgt := 112) dL_isStep_51 (by decide) (by decide) rfl (by decide) (is_fly hI hj C R0)
    · exact g_tableIn C (tgt := 112) dL_isStep_51 (by decide) (by decide) rfl (by decide) (is_fly hI hj C R0)
    · exact g_tableIn C (tgt := 112) dL_isStep_51 (by decide) (by decide) rfl (by decide) (is_fly hI hj C R0)
    · exact g_tableIn C (tgt := 302) dL_isStep_51 (by decide) (by decide) rfl (by decide) (is_downY hI hj hl C R0)
    · exact g_tableIn C (tgt := 387) dL_isStep_51 (by decide) (by decide) rfl (by decide) (is_readY hI hj hl C R0)
    · exact g_tableIn C (tgt := 387) dL_isStep_51 (by decide) (by decide) rfl (by decide) (is_readY hI hj hl C R0)
    · exact g_tableIn C (tgt := 387) dL_isStep_51 (by decide) (by decide) rfl (by decide) (is_readY hI hj hl C R0)
    · exact g_tableIn C (tgt := 387) dL_isStep_51 (by decide) (by decide) rfl (by decide) (is_readY hI hj hl C R0)
    · exact g_tableIn C (tgt := 549) dL_isStep_51 (by decide) (by decide) rfl (by decide) (is_writeY hI hj hl C R0)
    · exact g_tableIn C (tgt := 653) dL_isStep_51 (by decide) (by decide) rfl (by decide) (is_moveY hI hj hl C R0)
    · exact g_tableIn C (tgt := 759) dL_isStep_51 (by decide) (by decide) rfl (by decide) (is_beat hI hj C R0)
    · exact g_tableIn C (tgt := 847) dL_isStep_51 (by decide) (by decide) rfl (by decide) (is_wind hI hj C R0)
    · exact g_tableOut C (tgt := 954) dL_isStep_51 (by decide) (by decide) (is_set hI hj C R0)
theorem c_L_isStep (E : Ev) (A B : Ad) {n : Nat} {κ τ : KSt} (hI : Iv n κ τ) (x1 y : Int32) : MI E yL_isStep wsL_isStep (rmD 9) (w2 E A B κ τ) [.ref A.1, .ref B.1, .int x1, .int y] (pI E A B (n + 1)) := by
  refine MI.of (cc := cL_isStep) (nL := 13) (ty := .boolean) (own := RL) [some (.ref A.1), some (.ref B.1), some (.int x1), some (.int y), none, none, none, none, none, none, none, none, none] (by decide +kernel) rfl rfl (Nat.le_of_ble_eq_true rfl) rfl rfl ?_
  intro x C R0
  exact is_all hI C R0
