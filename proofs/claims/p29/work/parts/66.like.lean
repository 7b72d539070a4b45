/-- both objects tell the same, seen from each set -/
def Al (κ τ : KSt) : Prop := gdS (kjS κ) ∧ kjS τ = turn (kjS κ) ∧ okFr (kjS κ) ∧ okFr (kjS τ)
def pX (E : Ev) (A B : Ad) : Int32 → va_W → Prop := fun r w => r = 1 ∧ ∃ κ τ, w = w2 E A B κ τ
section QA9
variable {κ τ : KSt}
theorem q_dn (t u : Sky) (h : Al κ τ) : Al (kDown κ t) (kDown τ u) := h
theorem q_safe (h : Al κ τ) : gsF (sSt (kjS κ)) (sHt (kjS κ)) (sCh (kjS κ)) 10 = gsF (sSt (kjS τ)) (sHt (kjS τ)) (sCh (kjS τ)) 10 := by
  rw [h.2.1]
  exact gs_t h.1
theorem q_cnt (h : Al κ τ) {i : Nat} (hi : i < 11) : kCnt κ (nI i) = kCnt τ (nI i) := ct_t h.1 h.2.1 hi
theorem q_kn (h : Al κ τ) {k : Nat} (hk : k < 12) (hl : sSt (kjS κ) k = -1) (w : Int32) : aboutKR (kjS κ) (nI k) w = aboutKR (kjS τ) (nI k) w := by
  rw [h.2.1]
  exact ka_n h.1 hk hl w
theorem q_k0 (h : Al κ τ) {k : Nat} (hk : k < 12) (hl : ¬ sSt (kjS κ) k = -1) : aboutKR (kjS κ) (nI k) 0 = -(aboutKR (kjS τ) (nI k) 0) := by
  rw [h.2.1]
  exact ka_0 h.1 hk hl
theorem q_k1 (h : Al κ τ) {k : Nat} (hk : k < 12) (hl : ¬ sSt (kjS κ) k = -1) : thr (aboutKR (kjS κ) (nI k) 1) = aboutKR (kjS τ) (nI k) 1 := by
  rw [h.2.1]
  exact ka_1 h.1 hk hl
theorem q_kw (h : Al κ τ) {k : Nat} (hk : k < 12) (hl : ¬ sSt (kjS κ) k = -1) {w : Int32} (h0 : ¬ w = 0) (h1 : ¬ w = 1) : aboutKR (kjS κ) (nI k) w = aboutKR (kjS τ) (nI k) w := by
  rw [h.2.1]
  exact ka_w h.1 hk hl h0 h1
theorem q_rn (h : Al κ τ) {k : Nat} (hk : k < 12) (hl : sSt (kjS κ) k = -1) (w : Int32) : aboutRR (kjS κ) (nI k) w = aboutRR (kjS τ) (nI k) w := by
  rw [h.2.1]
  exact ra_n h.1 hk hl w
theorem q_r0 (h : Al κ τ) {k : Nat} (hk : k < 12) (hl : ¬ sSt (kjS κ) k = -1) : thr (aboutRR (kjS κ) (nI k) 0) = aboutRR (kjS τ) (nI k) 0 := by
  rw [h.2.1]
  exact ra_0 h.1 hk hl
theorem q_rw (h : Al κ τ) {k : Nat} (hk : k < 12) (hl : ¬ sSt (kjS κ) k = -1) {w : Int32} (h0 : ¬ w = 0) : aboutRR (kjS κ) (nI k) w = aboutRR (kjS τ) (nI k) w := by
  rw [h.2.1]
  exact ra_w h.1 hk hl h0
theorem q_sh (h : Al κ τ) {k : Nat} (hk : k < 12) : shaR (sSt (kjS κ)) (sHt (kjS κ)) (nI k) = shaR (sSt (kjS τ)) (sHt (kjS τ)) (nI k) := by
  rw [h.2.1]
  exact sh_t h.1 hk
theorem q_rc (h : Al κ τ) {k : Nat} (hk : k < 12) : rcR (sSt (kjS κ)) (sHt (kjS κ)) (windN (kjS κ)) (sCh (kjS κ)) (nI k) = rcR (sSt (kjS τ)) (sHt (kjS τ)) (windN (kjS τ)) (sCh (kjS τ)) (nI k) := by
  rw [h.2.1]
  exact rc_t h.1 hk
theorem q_su (h : Al κ τ) {k : Nat} (hk : k < 12) (g : Int32) : suR (kjS κ) (nI k) g = suR (kjS τ) (nI k) g := by
  rw [h.2.1]
  exact su_t h.1 hk g
theorem q_s4 (h : Al κ τ) {t : Nat} (ht : t < 4) : aboutSR (kjS κ) (nI t) 4 = -(aboutSR (kjS τ) (thr (nI t)) 4) := by
  rw [h.2.1]
  exact sa_4 h.1 ht
theorem q_sw (h : Al κ τ) {t : Nat} (ht : t < 4) {w : Int32} (h4 : ¬ w = 4) : aboutSR (kjS κ) (nI t) w = aboutSR (kjS τ) (thr (nI t)) w := by
  rw [h.2.1]
  exact sa_w h.1 ht h4
theorem q_dr (h : Al κ τ) {t : Nat} (ht : t < 4) (p : Int32) : drawR (sSt (kjS κ)) (sHt (kjS κ)) (nI t) p = drawR (sSt (kjS τ)) (sHt (kjS τ)) (thr (nI t)) p := by
  rw [h.2.1]
  exact dr_t h.1 ht p
end QA9
set_option maxHeartbeats 4000000 in
set_option maxRecDepth 100000 in
theorem al_si {E : Ev} {x : Cx} {A B : Ad} {κ τ : KSt} {x1 : Int32} (h : Al κ τ) {t : Nat} (ht : t < 4) (K : G E x (w2 E A B κ τ) [some (.ref A.1), some (.ref B.1), some (.int x1), some (.int 1), some (.int (nI t)), none, none, none, none] 428 []) (C : Ok E x cL_areAlike RL wsL_areAlike (rmD 9)) (R0 : RetI E x .boolean (pX E A B)) : G E x (w2 E A B κ τ) [some (.ref A.1), some (.ref B.1), some (.int x1), some (.int 1), some (.int (nI t)), none, none, none, none] 350 [] := by
  have lp : ∀ (m w : Nat), 6 - w < m → w ≤ 6 → G E x (w2 E A B κ τ) [some (.ref A.1), some (.ref B.1), some (.int x1), some (.int 1), some (.int (nI t)), some (.int (nI w)), none, none, none] 353 [] := by
    intro m
    induction m with
    | zero => intro w h1; omega
    | succ m ih =>
      intro w h1 h2
      refine g_iload C dL_areAlike_353 rfl ?_
      refine g_bipush C (v := 6) dL_areAlike_355 rfl ?_
      refine g_icmp_ge C (tgt := 428) dL_areAlike_357 (by decide) (fun hc_357 => ?_) (fun hc_357 => ?_)
      · have hn_357 : (6) ≤ (w) := (nI_leI (a := (6)) (b := (w)) (by omega) (by omega)).mp hc_357
        exact g_drop 5 K
      · have hn_357 : ¬ (6) ≤ (w) := fun z => hc_357 ((nI_leI (a := (6)) (b := (w)) (by omega) (by omega)).mpr z)
        refine g_iload_n C dL_areAlike_360 rfl rfl ?_
        refine g_if_eq_f C dL_areAlike_361 420 (by decide) (by decide) ?_
        refine g_iload C dL_areAlike_364 rfl ?_
        refine g_iconst C (v := 4) dL_areAlike_366 rfl ?_
        refine g_icmp_ne C (tgt := 394) dL_areAlike_367 (by decide) (fun hc_367 => ?_) (fun hc_367 => ?_)
        · have hn_367 : ¬ (w) = (4) := fun z => hc_367 ((nI_eq (a := (w)) (b := (4)) (by omega) (by omega)).mpr z)
          refine g_aload_n C dL_areAlike_394 rfl rfl ?_
          refine g_iload C dL_areAlike_395 rfl ?_
          refine g_iload C dL_areAlike_397 rfl ?_
          refine g_callK C w2_1 (k1_string E A B κ τ  (nI t) (nI w) (r := (aboutSR (kjS κ) (nI t) (nI w))) rfl) cf_X3_string gL_areAlike_X3_string rfl (fitD (Nat.le_of_ble_eq_true rfl) (Nat.le_of_ble_eq_true rfl)) rfl rfl (Nat.le_of_ble_eq_true rfl) dL_areAlike_399 (fun q1 w1 hp => ?_)
          obtain ⟨rfl, rfl⟩ := hp
          refine g_aload_n C dL_areAlike_402 rfl rfl ?_
          refine g_iload C dL_areAlike_403 rfl ?_
          refine g_calliOF C (th_E E _ (nI t) rfl) cf_L_there gL_areAlike_L_there trivial (fitD (Nat.le_of_ble_eq_true rfl) (Nat.le_of_ble_eq_true rfl)) rfl rfl (Nat.le_of_ble_eq_true rfl) dL_areAlike_405 (fun q1 w1 hp => ?_)
          obtain ⟨rfl, rfl⟩ := hp
          refine g_iload C dL_areAlike_408 rfl ?_
          refine g_callK C w2_2 (k2_string E A B κ τ  (thr (nI t)) (nI w) (r := (aboutSR (kjS τ) (thr (nI t)) (nI w))) rfl) cf_X3_string gL_areAlike_X3_string rfl (fitD (Nat.le_of_ble_eq_true rfl) (Nat.le_of_ble_eq_true rfl)) rfl rfl (Nat.le_of_ble_eq_true rfl) dL_areAlike_410 (fun q1 w1 hp => ?_)
          obtain ⟨rfl, rfl⟩ := hp
          refine g_icmp_ne_f C dL_areAlike_413 420 (by decide) (q_sw h ht hc_367) ?_
          refine g_iconst C (v := 1) dL_areAlike_416 rfl ?_
          refine g_goto C (tgt := 421) dL_areAlike_417 (by decide) ?_
          refine g_istore_n C dL_areAlike_421 rfl (Nat.le_of_ble_eq_true rfl) rfl ?_
          refine g_iinc C (v := (nI (w + 1))) dL_areAlike_422 rfl rfl (nI_add (w) 1) ?_
          refine g_goto C (tgt := 353) dL_areAlike_425 (by decide) ?_
          exact ih (w + 1) (by omega) (by omega)
        · have hn_367 : (w) = (4) := (nI_eq (a := (w)) (b := (4)) (by omega) (by omega)).mp hc_367
          refine g_aload_n C dL_areAlike_370 rfl rfl ?_
          refine g_iload C dL_areAlike_371 rfl ?_
          refine g_iconst C (v := 4) dL_areAlike_373 rfl ?_
          refine g_callK C w2_1 (k1_string E A B κ τ  (nI t) 4 (r := (aboutSR (kjS κ) (nI t) 4)) rfl) cf_X3_string gL_areAlike_X3_string rfl (fitD (Nat.le_of_ble_eq_true rfl) (Nat.le_of_ble_eq_true rfl)) rfl rfl (Nat.le_of_ble_eq_true rfl) dL_areAlike_374 (fun q1 w1 hp => ?_)
          obtain ⟨rfl, rfl⟩ := hp
          refine g_aload_n C dL_areAlike_377 rfl rfl ?_
          refine g_iload C dL_areAlike_378 rfl ?_
          refine g_calliOF C (th_E E _ (nI t) rfl) cf_L_there gL_areAlike_L_there trivial (fitD (Nat.le_of_ble_eq_true rfl) (Nat.le_of_ble_eq_true rfl)) rfl rfl (Nat.le_of_ble_eq_true rfl) dL_areAlike_380 (fun q1 w1 hp => ?_)
          obtain ⟨rfl, rfl⟩ := hp
          refine g_iconst C (v := 4) dL_areAlike_383 rfl ?_
          refine g_callK C w2_2 (k2_string E A B κ τ  (thr (nI t)) 4 (r := (aboutSR (kjS τ) (thr (nI t)) 4)) rfl) cf_X3_string gL_areAlike_X3_string rfl (fitD (Nat.le_of_ble_eq_true rfl) (Nat.le_of_ble_eq_true rfl)) rfl rfl (Nat.le_of_ble_eq_true rfl) dL_areAlike_384 (fun q1 w1 hp => ?_)
          obtain ⟨rfl, rfl⟩ := hp
          refine g_ineg C dL_areAlike_387 ?_
          refine g_icmp_ne_f C dL_areAlike_388 420 (by decide) (q_s4 h ht) ?_
          refine g_goto C (tgt := 416) dL_areAlike_391 (by decide) ?_
          refine g_iconst C (v := 1) dL_areAlike_416 rfl ?_
          refine g_goto C (tgt := 421) dL_areAlike_417 (by decide) ?_
          refine g_istore_n C dL_areAlike_421 rfl (Nat.le_of_ble_eq_true rfl) rfl ?_
          refine g_iinc C (v := (nI (w + 1))) dL_areAlike_422 rfl rfl (nI_add (w) 1) ?_
          refine g_goto C (tgt := 353) dL_areAlike_425 (by decide) ?_
          exact ih (w + 1) (by omega) (by omega)
  refine g_iconst C (v := 0) dL_areAlike_350 rfl ?_
  refine g_istore C dL_areAlike_351 (Nat.le_of_ble_eq_true rfl) rfl ?_
  exact lp 7 0 (by omega) (by omega)
set_option maxHeartbeats 4000000 in
set_option maxRecDepth 100000 in
theorem al_s {E : Ev} {x : Cx} {A B : Ad} {κ τ : KSt} {x1 : Int32} (h : Al κ τ) (C : Ok E x cL_areAlike RL wsL_areAlike (rmD 9)) (R0 : RetI E x .boolean (pX E A B)) : G E x (w2 E A B κ τ) [some (.ref A.1), some (.ref B.1), some (.int x1), some (.int 1), none, none, none, none, none] 341 [] := by
  have lp : ∀ (m t : Nat), 4 - t < m → t ≤ 4 → G E x (w2 E A B κ τ) [some (.ref A.1), some (.ref B.1), some (.int x1), some (.int 1), some (.int (nI t)), none, none, none, none] 344 [] := by
    intro m
    induction m with
    | zero => intro t h1; omega
    | succ m ih =>
      intro t h1 h2
      refine g_iload C dL_areAlike_344 rfl ?_
      refine g_iconst C (v := 4) dL_areAlike_346 rfl ?_
      refine g_icmp_ge C (tgt := 478) dL_areAlike_347 (by decide) (fun hc_347 => ?_) (fun hc_347 => ?_)
      · have hn_347 : (4) ≤ (t) := (nI_leI (a := (4)) (b := (t)) (by omega) (by omega)).mp hc_347
        refine g_iload_n C dL_areAlike_478 rfl rfl ?_
        refine g_zret C R0 rfl dL_areAlike_479 ?_
        exact ⟨rfl, κ, τ, rfl⟩
      · have hn_347 : ¬ (4) ≤ (t) := fun z => hc_347 ((nI_leI (a := (4)) (b := (t)) (by omega) (by omega)).mpr z)
        refine al_si h (by omega) ?_ C R0
        refine g_iload_n C dL_areAlike_428 rfl rfl ?_
        refine g_if_eq_f C dL_areAlike_429 470 (by decide) (by decide) ?_
        refine g_aload_n C dL_areAlike_432 rfl rfl ?_
        refine g_iload C dL_areAlike_433 rfl ?_
        refine g_iload_n C dL_areAlike_435 rfl rfl ?_
        refine g_iconst C (v := 3) dL_areAlike_436 rfl ?_
        refine g_ishr C dL_areAlike_437 ?_
        refine g_bipush C (v := 40) dL_areAlike_438 rfl ?_
        refine g_calliOF C (up_E E _ (x1 >>> (3 &&& 31)) 40 (by decide) (r := (upV (x1 >>> (3 &&& 31)) 40)) rfl) cf_L_up gL_areAlike_L_up trivial (fitD (Nat.le_of_ble_eq_true rfl) (Nat.le_of_ble_eq_true rfl)) rfl rfl (Nat.le_of_ble_eq_true rfl) dL_areAlike_440 (fun q1 w1 hp => ?_)
        obtain ⟨rfl, rfl⟩ := hp
        refine g_callK C w2_1 (k1_drawn E A B κ τ  (nI t) (upV (x1 >>> (3 &&& 31)) 40) (r := (drawR (sSt (kjS κ)) (sHt (kjS κ)) (nI t) (upV (x1 >>> (3 &&& 31)) 40))) rfl) cf_X3_drawn gL_areAlike_X3_drawn rfl (fitD (Nat.le_of_ble_eq_true rfl) (Nat.le_of_ble_eq_true rfl)) rfl rfl (Nat.le_of_ble_eq_true rfl) dL_areAlike_443 (fun q1 w1 hp => ?_)
        obtain ⟨rfl, rfl⟩ := hp
        refine g_aload_n C dL_areAlike_446 rfl rfl ?_
        refine g_iload C dL_areAlike_447 rfl ?_
        refine g_calliOF C (th_E E _ (nI t) rfl) cf_L_there gL_areAlike_L_there trivial (fitD (Nat.le_of_ble_eq_true rfl) (Nat.le_of_ble_eq_true rfl)) rfl rfl (Nat.le_of_ble_eq_true rfl) dL_areAlike_449 (fun q1 w1 hp => ?_)
        obtain ⟨rfl, rfl⟩ := hp
        refine g_iload_n C dL_areAlike_452 rfl rfl ?_
        refine g_iconst C (v := 3) dL_areAlike_453 rfl ?_
        refine g_ishr C dL_areAlike_454 ?_
        refine g_bipush C (v := 40) dL_areAlike_455 rfl ?_
        refine g_calliOF C (up_E E _ (x1 >>> (3 &&& 31)) 40 (by decide) (r := (upV (x1 >>> (3 &&& 31)) 40)) rfl) cf_L_up gL_areAlike_L_up trivial (fitD (Nat.le_of_ble_eq_true rfl) (Nat.le_of_ble_eq_true rfl)) rfl rfl (Nat.le_of_ble_eq_true rfl) dL_areAlike_457 (fun q1 w1 hp => ?_)
        obtain ⟨rfl, rfl⟩ := hp
        refine g_callK C w2_2 (k2_drawn E A B κ τ  (thr (nI t)) (upV (x1 >>> (3 &&& 31)) 40) (r := (drawR (sSt (kjS τ)) (sHt (kjS τ)) (thr (nI t)) (upV (x1 >>> (3 &&& 31)) 40))) rfl) cf_X3_drawn gL_areAlike_X3_drawn rfl (fitD (Nat.le_of_ble_eq_true rfl) (Nat.le_of_ble_eq_true rfl)) rfl rfl (Nat.le_of_ble_eq_true rfl) dL_areAlike_460 (fun q1 w1 hp => ?_)
        obtain ⟨rfl, rfl⟩ := hp
        refine g_icmp_ne_f C dL_areAlike_463 470 (by decide) (q_dr h (by omega) _) ?_
        refine g_iconst C (v := 1) dL_areAlike_466 rfl ?_
        refine g_goto C (tgt := 471) dL_areAlike_467 (by decide) ?_
        refine g_istore_n C dL_areAlike_471 rfl (Nat.le_of_ble_eq_true rfl) rfl ?_
        refine g_iinc C (v := (nI (t + 1))) dL_areAlike_472 rfl rfl (nI_add (t) 1) ?_
        refine g_goto C (tgt := 344) dL_areAlike_475 (by decide) ?_
        exact ih (t + 1) (by omega) (by omega)
  refine g_iconst C (v := 0) dL_areAlike_341 rfl ?_
  refine g_istore C dL_areAlike_342 (Nat.le_of_ble_eq_true rfl) rfl ?_
  exact lp 5 0 (by omega) (by omega)
set_option maxHeartbeats 4000000 in
set_option maxRecDepth 100000 in
theorem al_rY {E : Ev} {x : Cx} {A B : Ad} {κ τ : KSt} {x1 : Int32} (h : Al κ τ) {k : Nat} (hk : k < 12) (hl : ¬ sSt (kjS κ) k = -1) (K : G E x (w2 E A B κ τ) [some (.ref A.1), some (.ref B.1), some (.int x1), some (.int 1), some (.int (nI k)), none, none, none, none] 268 []) (C : Ok E x cL_areAlike RL wsL_areAlike (rmD 9)) (R0 : RetI E x .boolean (pX E A B)) : G E x (w2 E A B κ τ) [some (.ref A.1), some (.ref B.1), some (.int x1), some (.int 1), some (.int (nI k)), some (.int 1), none, none, none] 191 [] := by
  have lp : ∀ (m w : Nat), 4 - w < m → w ≤ 4 → G E x (w2 E A B κ τ) [some (.ref A.1), some (.ref B.1), some (.int x1), some (.int 1), some (.int (nI k)), some (.int 1), some (.int (nI w)), none, none] 194 [] := by
    intro m
    induction m with
    | zero => intro w h1; omega
    | succ m ih =>
      intro w h1 h2
      refine g_iload C dL_areAlike_194 rfl ?_
      refine g_iconst C (v := 4) dL_areAlike_196 rfl ?_
      refine g_icmp_ge C (tgt := 268) dL_areAlike_197 (by decide) (fun hc_197 => ?_) (fun hc_197 => ?_)
      · have hn_197 : (4) ≤ (w) := (nI_leI (a := (4)) (b := (w)) (by omega) (by omega)).mp hc_197
        exact g_drop 5 (g_drop 6 K)
      · have hn_197 : ¬ (4) ≤ (w) := fun z => hc_197 ((nI_leI (a := (4)) (b := (w)) (by omega) (by omega)).mpr z)
        refine g_iload_n C dL_areAlike_200 rfl rfl ?_
        refine g_if_eq_f C dL_areAlike_201 260 (by decide) (by decide) ?_
        refine g_iload C dL_areAlike_204 rfl ?_
        refine g_if_ne C (tgt := 237) dL_areAlike_206 (by decide) (fun hc_206 => ?_) (fun hc_206 => ?_)
        · have hn_206 : ¬ (w) = (0) := fun z => hc_206 ((nI_eq (a := (w)) (b := (0)) (by omega) (by omega)).mpr z)
          refine g_aload_n C dL_areAlike_237 rfl rfl ?_
          refine g_iload C dL_areAlike_238 rfl ?_
          refine g_iload C dL_areAlike_240 rfl ?_
          refine g_callK C w2_1 (k1_ifRead E A B κ τ  (nI k) (nI w) (r := (aboutRR (kjS κ) (nI k) (nI w))) rfl) cf_X3_ifRead gL_areAlike_X3_ifRead rfl (fitD (Nat.le_of_ble_eq_true rfl) (Nat.le_of_ble_eq_true rfl)) rfl rfl (Nat.le_of_ble_eq_true rfl) dL_areAlike_242 (fun q1 w1 hp => ?_)
          obtain ⟨rfl, rfl⟩ := hp
          refine g_aload_n C dL_areAlike_245 rfl rfl ?_
          refine g_iload C dL_areAlike_246 rfl ?_
          refine g_iload C dL_areAlike_248 rfl ?_
          refine g_callK C w2_2 (k2_ifRead E A B κ τ  (nI k) (nI w) (r := (aboutRR (kjS τ) (nI k) (nI w))) rfl) cf_X3_ifRead gL_areAlike_X3_ifRead rfl (fitD (Nat.le_of_ble_eq_true rfl) (Nat.le_of_ble_eq_true rfl)) rfl rfl (Nat.le_of_ble_eq_true rfl) dL_areAlike_250 (fun q1 w1 hp => ?_)
          obtain ⟨rfl, rfl⟩ := hp
          refine g_icmp_ne_f C dL_areAlike_253 260 (by decide) (q_rw h hk hl hc_206) ?_
          refine g_iconst C (v := 1) dL_areAlike_256 rfl ?_
          refine g_goto C (tgt := 261) dL_areAlike_257 (by decide) ?_
          refine g_istore_n C dL_areAlike_261 rfl (Nat.le_of_ble_eq_true rfl) rfl ?_
          refine g_iinc C (v := (nI (w + 1))) dL_areAlike_262 rfl rfl (nI_add (w) 1) ?_
          refine g_goto C (tgt := 194) dL_areAlike_265 (by decide) ?_
          exact ih (w + 1) (by omega) (by omega)
        · have hn_206 : (w) = (0) := (nI_eq (a := (w)) (b := (0)) (by omega) (by omega)).mp hc_206
          refine g_iload C dL_areAlike_209 rfl ?_
          refine g_if_eq_f C dL_areAlike_211 237 (by decide) (by decide) ?_
          refine g_aload_n C dL_areAlike_214 rfl rfl ?_
          refine g_iload C dL_areAlike_215 rfl ?_
          refine g_iconst C (v := 0) dL_areAlike_217 rfl ?_
          refine g_callK C w2_1 (k1_ifRead E A B κ τ  (nI k) 0 (r := (aboutRR (kjS κ) (nI k) 0)) rfl) cf_X3_ifRead gL_areAlike_X3_ifRead rfl (fitD (Nat.le_of_ble_eq_true rfl) (Nat.le_of_ble_eq_true rfl)) rfl rfl (Nat.le_of_ble_eq_true rfl) dL_areAlike_218 (fun q1 w1 hp => ?_)
          obtain ⟨rfl, rfl⟩ := hp
          refine g_calliOF C (th_E E _ (aboutRR (kjS κ) (nI k) 0) rfl) cf_L_there gL_areAlike_L_there trivial (fitD (Nat.le_of_ble_eq_true rfl) (Nat.le_of_ble_eq_true rfl)) rfl rfl (Nat.le_of_ble_eq_true rfl) dL_areAlike_221 (fun q1 w1 hp => ?_)
          obtain ⟨rfl, rfl⟩ := hp
          refine g_aload_n C dL_areAlike_224 rfl rfl ?_
          refine g_iload C dL_areAlike_225 rfl ?_
          refine g_iconst C (v := 0) dL_areAlike_227 rfl ?_
          refine g_callK C w2_2 (k2_ifRead E A B κ τ  (nI k) 0 (r := (aboutRR (kjS τ) (nI k) 0)) rfl) cf_X3_ifRead gL_areAlike_X3_ifRead rfl (fitD (Nat.le_of_ble_eq_true rfl) (Nat.le_of_ble_eq_true rfl)) rfl rfl (Nat.le_of_ble_eq_true rfl) dL_areAlike_228 (fun q1 w1 hp => ?_)
          obtain ⟨rfl, rfl⟩ := hp
          refine g_icmp_ne_f C dL_areAlike_231 260 (by decide) (q_r0 h hk hl) ?_
          refine g_goto C (tgt := 256) dL_areAlike_234 (by decide) ?_
          refine g_iconst C (v := 1) dL_areAlike_256 rfl ?_
          refine g_goto C (tgt := 261) dL_areAlike_257 (by decide) ?_
          refine g_istore_n C dL_areAlike_261 rfl (Nat.le_of_ble_eq_true rfl) rfl ?_
          refine g_iinc C (v := (nI (w + 1))) dL_areAlike_262 rfl rfl (nI_add (w) 1) ?_
          refine g_goto C (tgt := 194) dL_areAlike_265 (by decide) ?_
          exact ih (w + 1) (by omega) (by omega)
  refine g_iconst C (v := 0) dL_areAlike_191 rfl ?_
  refine g_istore C dL_areAlike_192 (Nat.le_of_ble_eq_true rfl) rfl ?_
  exact lp 5 0 (by omega) (by omega)
set_option maxHeartbeats 4000000 in
set_option maxRecDepth 100000 in
theorem al_kY {E : Ev} {x : Cx} {A B : Ad} {κ τ : KSt} {x1 : Int32} (h : Al κ τ) {k : Nat} (hk : k < 12) (hl : ¬ sSt (kjS κ) k = -1) (K : G E x (w2 E A B κ τ) [some (.ref A.1), some (.ref B.1), some (.int x1), some (.int 1), some (.int (nI k)), none, none, none, none] 268 []) (C : Ok E x cL_areAlike RL wsL_areAlike (rmD 9)) (R0 : RetI E x .boolean (pX E A B)) : G E x (w2 E A B κ τ) [some (.ref A.1), some (.ref B.1), some (.int x1), some (.int 1), some (.int (nI k)), some (.int 1), none, none, none] 88 [] := by
  have lp : ∀ (m w : Nat), 9 - w < m → w ≤ 9 → G E x (w2 E A B κ τ) [some (.ref A.1), some (.ref B.1), some (.int x1), some (.int 1), some (.int (nI k)), some (.int 1), some (.int (nI w)), none, none] 91 [] := by
    intro m
    induction m with
    | zero => intro w h1; omega
    | succ m ih =>
      intro w h1 h2
      refine g_iload C dL_areAlike_91 rfl ?_
      refine g_bipush C (v := 9) dL_areAlike_93 rfl ?_
      refine g_icmp_ge C (tgt := 191) dL_areAlike_95 (by decide) (fun hc_95 => ?_) (fun hc_95 => ?_)
      · have hn_95 : (9) ≤ (w) := (nI_leI (a := (9)) (b := (w)) (by omega) (by omega)).mp hc_95
        exact g_drop 6 (al_rY h hk hl K C R0)
      · have hn_95 : ¬ (9) ≤ (w) := fun z => hc_95 ((nI_leI (a := (9)) (b := (w)) (by omega) (by omega)).mpr z)
        refine g_aload_n C dL_areAlike_98 rfl rfl ?_
        refine g_iload C dL_areAlike_99 rfl ?_
        refine g_iload C dL_areAlike_101 rfl ?_
        refine g_callK C w2_1 (k1_kite E A B κ τ  (nI k) (nI w) (r := (aboutKR (kjS κ) (nI k) (nI w))) rfl) cf_X3_kite gL_areAlike_X3_kite rfl (fitD (Nat.le_of_ble_eq_true rfl) (Nat.le_of_ble_eq_true rfl)) rfl rfl (Nat.le_of_ble_eq_true rfl) dL_areAlike_103 (fun q1 w1 hp => ?_)
        obtain ⟨rfl, rfl⟩ := hp
        refine g_istore C dL_areAlike_106 (Nat.le_of_ble_eq_true rfl) rfl ?_
        refine g_aload_n C dL_areAlike_108 rfl rfl ?_
        refine g_iload C dL_areAlike_109 rfl ?_
        refine g_iload C dL_areAlike_111 rfl ?_
        refine g_callK C w2_2 (k2_kite E A B κ τ  (nI k) (nI w) (r := (aboutKR (kjS τ) (nI k) (nI w))) rfl) cf_X3_kite gL_areAlike_X3_kite rfl (fitD (Nat.le_of_ble_eq_true rfl) (Nat.le_of_ble_eq_true rfl)) rfl rfl (Nat.le_of_ble_eq_true rfl) dL_areAlike_113 (fun q1 w1 hp => ?_)
        obtain ⟨rfl, rfl⟩ := hp
        refine g_istore C dL_areAlike_116 (Nat.le_of_ble_eq_true rfl) rfl ?_
        refine g_iload_n C dL_areAlike_118 rfl rfl ?_
        refine g_if_eq_f C dL_areAlike_119 183 (by decide) (by decide) ?_
        refine g_iload C dL_areAlike_122 rfl ?_
        refine g_if_ne_t C dL_areAlike_124 (tgt := 137) (by decide) (by decide) ?_
        refine g_iload C dL_areAlike_137 rfl ?_
        refine g_if_ne C (tgt := 153) dL_areAlike_139 (by decide) (fun hc_139 => ?_) (fun hc_139 => ?_)
        · have hn_139 : ¬ (w) = (0) := fun z => hc_139 ((nI_eq (a := (w)) (b := (0)) (by omega) (by omega)).mpr z)
          refine g_iload C dL_areAlike_153 rfl ?_
          refine g_iconst C (v := 1) dL_areAlike_155 rfl ?_
          refine g_icmp_ne C (tgt := 172) dL_areAlike_156 (by decide) (fun hc_156 => ?_) (fun hc_156 => ?_)
          · have hn_156 : ¬ (w) = (1) := fun z => hc_156 ((nI_eq (a := (w)) (b := (1)) (by omega) (by omega)).mpr z)
            refine g_iload C dL_areAlike_172 rfl ?_
            refine g_iload C dL_areAlike_174 rfl ?_
            refine g_icmp_ne_f C dL_areAlike_176 183 (by decide) (q_kw h hk hl hc_139 hc_156) ?_
            refine g_iconst C (v := 1) dL_areAlike_179 rfl ?_
            refine g_goto C (tgt := 184) dL_areAlike_180 (by decide) ?_
            refine g_istore_n C dL_areAlike_184 rfl (Nat.le_of_ble_eq_true rfl) rfl ?_
            show G E x (w2 E A B κ τ) [some (.ref A.1), some (.ref B.1), some (.int x1), some (.int 1), some (.int (nI k)), some (.int 1), some (.int (nI w)), some (.int (aboutKR (kjS κ) (nI k) (nI w))), some (.int (aboutKR (kjS τ) (nI k) (nI w)))] 185 []
            refine g_iinc C (v := (nI (w + 1))) dL_areAlike_185 rfl rfl (nI_add (w) 1) ?_
            refine g_goto C (tgt := 91) dL_areAlike_188 (by decide) ?_
            exact g_drop 7 (g_drop 8 (ih (w + 1) (by omega) (by omega)))
          · have hn_156 : (w) = (1) := (nI_eq (a := (w)) (b := (1)) (by omega) (by omega)).mp hc_156
            refine g_iload C dL_areAlike_159 rfl ?_
            refine g_calliOF C (th_E E _ (aboutKR (kjS κ) (nI k) (nI w)) rfl) cf_L_there gL_areAlike_L_there trivial (fitD (Nat.le_of_ble_eq_true rfl) (Nat.le_of_ble_eq_true rfl)) rfl rfl (Nat.le_of_ble_eq_true rfl) dL_areAlike_161 (fun q1 w1 hp => ?_)
            obtain ⟨rfl, rfl⟩ := hp
            refine g_iload C dL_areAlike_164 rfl ?_
            refine g_icmp_ne_f C dL_areAlike_166 183 (by decide) (by have := hc_156; rw [this]; exact q_k1 h hk hl) ?_
            refine g_goto C (tgt := 179) dL_areAlike_169 (by decide) ?_
            refine g_iconst C (v := 1) dL_areAlike_179 rfl ?_
            refine g_goto C (tgt := 184) dL_areAlike_180 (by decide) ?_
            refine g_istore_n C dL_areAlike_184 rfl (Nat.le_of_ble_eq_true rfl) rfl ?_
            refine g_iinc C (v := (nI (w + 1))) dL_areAlike_185 rfl rfl (nI_add (w) 1) ?_
            refine g_goto C (tgt := 91) dL_areAlike_188 (by decide) ?_
            exact g_drop 7 (g_drop 8 (ih (w + 1) (by omega) (by omega)))
        · have hn_139 : (w) = (0) := (nI_eq (a := (w)) (b := (0)) (by omega) (by omega)).mp hc_139
          refine g_iload C dL_areAlike_142 rfl ?_
          refine g_iload C dL_areAlike_144 rfl ?_
          refine g_ineg C dL_areAlike_146 ?_
          refine g_icmp_ne_f C dL_areAlike_147 183 (by decide) (by have := hc_139; rw [this]; exact q_k0 h hk hl) ?_
          refine g_goto C (tgt := 179) dL_areAlike_150 (by decide) ?_
          refine g_iconst C (v := 1) dL_areAlike_179 rfl ?_
          refine g_goto C (tgt := 184) dL_areAlike_180 (by decide) ?_
          refine g_istore_n C dL_areAlike_184 rfl (Nat.le_of_ble_eq_true rfl) rfl ?_
          refine g_iinc C (v := (nI (w + 1))) dL_areAlike_185 rfl rfl (nI_add (w) 1) ?_
          refine g_goto C (tgt := 91) dL_areAlike_188 (by decide) ?_
          exact g_drop 7 (g_drop 8 (ih (w + 1) (by omega) (by omega)))
  refine g_iconst C (v := 0) dL_areAlike_88 rfl ?_
  refine g_istore C dL_areAlike_89 (Nat.le_of_ble_eq_true rfl) rfl ?_
  exact lp 10 0 (by omega) (by omega)
set_option maxHeartbeats 4000000 in
set_option maxRecDepth 100000 in
theorem al_rN {E : Ev} {x : Cx} {A B : Ad} {κ τ : KSt} {x1 : Int32} (h : Al κ τ) {k : Nat} (hk : k < 12) (hl : sSt (kjS κ) k = -1) (K : G E x (w2 E A B κ τ) [some (.ref A.1), some (.ref B.1), some (.int x1), some (.int 1), some (.int (nI k)), none, none, none, none] 268 []) (C : Ok E x cL_areAlike RL wsL_areAlike (rmD 9)) (R0 : RetI E x .boolean (pX E A B)) : G E x (w2 E A B κ τ) [some (.ref A.1), some (.ref B.1), some (.int x1), some (.int 1), some (.int (nI k)), some (.int 0), none, none, none] 191 [] := by
  have lp : ∀ (m w : Nat), 4 - w < m → w ≤ 4 → G E x (w2 E A B κ τ) [some (.ref A.1), some (.ref B.1), some (.int x1), some (.int 1), some (.int (nI k)), some (.int 0), some (.int (nI w)), none, none] 194 [] := by
    intro m
    induction m with
    | zero => intro w h1; omega
    | succ m ih =>
      intro w h1 h2
      refine g_iload C dL_areAlike_194 rfl ?_
      refine g_iconst C (v := 4) dL_areAlike_196 rfl ?_
      refine g_icmp_ge C (tgt := 268) dL_areAlike_197 (by decide) (fun hc_197 => ?_) (fun hc_197 => ?_)
      · have hn_197 : (4) ≤ (w) := (nI_leI (a := (4)) (b := (w)) (by omega) (by omega)).mp hc_197
        exact g_drop 5 (g_drop 6 K)
      · have hn_197 : ¬ (4) ≤ (w) := fun z => hc_197 ((nI_leI (a := (4)) (b := (w)) (by omega) (by omega)).mpr z)
        refine g_iload_n C dL_areAlike_200 rfl rfl ?_
        refine g_if_eq_f C dL_areAlike_201 260 (by decide) (by decide) ?_
        refine g_iload C dL_areAlike_204 rfl ?_
        refine g_if_ne C (tgt := 237) dL_areAlike_206 (by decide) (fun hc_206 => ?_) (fun hc_206 => ?_)
        · have hn_206 : ¬ (w) = (0) := fun z => hc_206 ((nI_eq (a := (w)) (b := (0)) (by omega) (by omega)).mpr z)
          refine g_aload_n C dL_areAlike_237 rfl rfl ?_
          refine g_iload C dL_areAlike_238 rfl ?_
          refine g_iload C dL_areAlike_240 rfl ?_
          refine g_callK C w2_1 (k1_ifRead E A B κ τ  (nI k) (nI w) (r := (aboutRR (kjS κ) (nI k) (nI w))) rfl) cf_X3_ifRead gL_areAlike_X3_ifRead rfl (fitD (Nat.le_of_ble_eq_true rfl) (Nat.le_of_ble_eq_true rfl)) rfl rfl (Nat.le_of_ble_eq_true rfl) dL_areAlike_242 (fun q1 w1 hp => ?_)
          obtain ⟨rfl, rfl⟩ := hp
          refine g_aload_n C dL_areAlike_245 rfl rfl ?_
          refine g_iload C dL_areAlike_246 rfl ?_
          refine g_iload C dL_areAlike_248 rfl ?_
          refine g_callK C w2_2 (k2_ifRead E A B κ τ  (nI k) (nI w) (r := (aboutRR (kjS τ) (nI k) (nI w))) rfl) cf_X3_ifRead gL_areAlike_X3_ifRead rfl (fitD (Nat.le_of_ble_eq_true rfl) (Nat.le_of_ble_eq_true rfl)) rfl rfl (Nat.le_of_ble_eq_true rfl) dL_areAlike_250 (fun q1 w1 hp => ?_)
          obtain ⟨rfl, rfl⟩ := hp
          refine g_icmp_ne_f C dL_areAlike_253 260 (by decide) (q_rn h hk hl _) ?_
          refine g_iconst C (v := 1) dL_areAlike_256 rfl ?_
          refine g_goto C (tgt := 261) dL_areAlike_257 (by decide) ?_
          refine g_istore_n C dL_areAlike_261 rfl (Nat.le_of_ble_eq_true rfl) rfl ?_
          refine g_iinc C (v := (nI (w + 1))) dL_areAlike_262 rfl rfl (nI_add (w) 1) ?_
          refine g_goto C (tgt := 194) dL_areAlike_265 (by decide) ?_
          exact ih (w + 1) (by omega) (by omega)
        · have hn_206 : (w) = (0) := (nI_eq (a := (w)) (b := (0)) (by omega) (by omega)).mp hc_206
          refine g_iload C dL_areAlike_209 rfl ?_
          refine g_if_eq_t C dL_areAlike_211 (tgt := 237) (by decide) (by decide) ?_
          refine g_aload_n C dL_areAlike_237 rfl rfl ?_
          refine g_iload C dL_areAlike_238 rfl ?_
          refine g_iload C dL_areAlike_240 rfl ?_
          refine g_callK C w2_1 (k1_ifRead E A B κ τ  (nI k) (nI w) (r := (aboutRR (kjS κ) (nI k) (nI w))) rfl) cf_X3_ifRead gL_areAlike_X3_ifRead rfl (fitD (Nat.le_of_ble_eq_true rfl) (Nat.le_of_ble_eq_true rfl)) rfl rfl (Nat.le_of_ble_eq_true rfl) dL_areAlike_242 (fun q1 w1 hp => ?_)
          obtain ⟨rfl, rfl⟩ := hp
          refine g_aload_n C dL_areAlike_245 rfl rfl ?_
          refine g_iload C dL_areAlike_246 rfl ?_
          refine g_iload C dL_areAlike_248 rfl ?_
          refine g_callK C w2_2 (k2_ifRead E A B κ τ  (nI k) (nI w) (r := (aboutRR (kjS τ) (nI k) (nI w))) rfl) cf_X3_ifRead gL_areAlike_X3_ifRead rfl (fitD (Nat.le_of_ble_eq_true rfl) (Nat.le_of_ble_eq_true rfl)) rfl rfl (Nat.le_of_ble_eq_true rfl) dL_areAlike_250 (fun q1 w1 hp => ?_)
          obtain ⟨rfl, rfl⟩ := hp
          refine g_icmp_ne_f C dL_areAlike_253 260 (by decide) (q_rn h hk hl _) ?_
          refine g_iconst C (v := 1) dL_areAlike_256 rfl ?_
          refine g_goto C (tgt := 261) dL_areAlike_257 (by decide) ?_
          refine g_istore_n C dL_areAlike_261 rfl (Nat.le_of_ble_eq_true rfl) rfl ?_
          refine g_iinc C (v := (nI (w + 1))) dL_areAlike_262 rfl rfl (nI_add (w) 1) ?_
          refine g_goto C (tgt := 194) dL_areAlike_265 (by decide) ?_
          exact ih (w + 1) (by omega) (by omega)
  refine g_iconst C (v := 0) dL_areAlike_191 rfl ?_
  refine g_istore C dL_areAlike_192 (Nat.le_of_ble_eq_true rfl) rfl ?_
  exact lp 5 0 (by omega) (by omega)
set_option maxHeartbeats 4000000 in
set_option maxRecDepth 100000 in
theorem al_kN {E : Ev} {x : Cx} {A B : Ad} {κ τ : KSt} {x1 : Int32} (h : Al κ τ) {k : Nat} (hk : k < 12) (hl : sSt (kjS κ) k = -1) (K : G E x (w2 E A B κ τ) [some (.ref A.1), some (.ref B.1), some (.int x1), some (.int 1), some (.int (nI k)), none, none, none, none] 268 []) (C : Ok E x cL_areAlike RL wsL_areAlike (rmD 9)) (R0 : RetI E x .boolean (pX E A B)) : G E x (w2 E A B κ τ) [some (.ref A.1), some (.ref B.1), some (.int x1), some (.int 1), some (.int (nI k)), some (.int 0), none, none, none] 88 [] := by
  have lp : ∀ (m w : Nat), 9 - w < m → w ≤ 9 → G E x (w2 E A B κ τ) [some (.ref A.1), some (.ref B.1), some (.int x1), some (.int 1), some (.int (nI k)), some (.int 0), some (.int (nI w)), none, none] 91 [] := by
    intro m
    induction m with
    | zero => intro w h1; omega
    | succ m ih =>
      intro w h1 h2
      refine g_iload C dL_areAlike_91 rfl ?_
      refine g_bipush C (v := 9) dL_areAlike_93 rfl ?_
      refine g_icmp_ge C (tgt := 191) dL_areAlike_95 (by decide) (fun hc_95 => ?_) (fun hc_95 => ?_)
      · have hn_95 : (9) ≤ (w) := (nI_leI (a := (9)) (b := (w)) (by omega) (by omega)).mp hc_95
        exact g_drop 6 (al_rN h hk hl K C R0)
      · have hn_95 : ¬ (9) ≤ (w) := fun z => hc_95 ((nI_leI (a := (9)) (b := (w)) (by omega) (by omega)).mpr z)
        refine g_aload_n C dL_areAlike_98 rfl rfl ?_
        refine g_iload C dL_areAlike_99 rfl ?_
        refine g_iload C dL_areAlike_101 rfl ?_
        refine g_callK C w2_1 (k1_kite E A B κ τ  (nI k) (nI w) (r := (aboutKR (kjS κ) (nI k) (nI w))) rfl) cf_X3_kite gL_areAlike_X3_kite rfl (fitD (Nat.le_of_ble_eq_true rfl) (Nat.le_of_ble_eq_true rfl)) rfl rfl (Nat.le_of_ble_eq_true rfl) dL_areAlike_103 (fun q1 w1 hp => ?_)
        obtain ⟨rfl, rfl⟩ := hp
        refine g_istore C dL_areAlike_106 (Nat.le_of_ble_eq_true rfl) rfl ?_
        refine g_aload_n C dL_areAlike_108 rfl rfl ?_
        refine g_iload C dL_areAlike_109 rfl ?_
        refine g_iload C dL_areAlike_111 rfl ?_
        refine g_callK C w2_2 (k2_kite E A B κ τ  (nI k) (nI w) (r := (aboutKR (kjS τ) (nI k) (nI w))) rfl) cf_X3_kite gL_areAlike_X3_kite rfl (fitD (Nat.le_of_ble_eq_true rfl) (Nat.le_of_ble_eq_true rfl)) rfl rfl (Nat.le_of_ble_eq_true rfl) dL_areAlike_113 (fun q1 w1 hp => ?_)
        obtain ⟨rfl, rfl⟩ := hp
        refine g_istore C dL_areAlike_116 (Nat.le_of_ble_eq_true rfl) rfl ?_
        refine g_iload_n C dL_areAlike_118 rfl rfl ?_
        refine g_if_eq_f C dL_areAlike_119 183 (by decide) (by decide) ?_
        refine g_iload C dL_areAlike_122 rfl ?_
        refine g_if_ne_f C dL_areAlike_124 137 (by decide) (by decide) ?_
        refine g_iload C dL_areAlike_127 rfl ?_
        refine g_iload C dL_areAlike_129 rfl ?_
        refine g_icmp_ne_f C dL_areAlike_131 183 (by decide) (q_kn h hk hl _) ?_
        refine g_goto C (tgt := 179) dL_areAlike_134 (by decide) ?_
        refine g_iconst C (v := 1) dL_areAlike_179 rfl ?_
        refine g_goto C (tgt := 184) dL_areAlike_180 (by decide) ?_
        refine g_istore_n C dL_areAlike_184 rfl (Nat.le_of_ble_eq_true rfl) rfl ?_
        show G E x (w2 E A B κ τ) [some (.ref A.1), some (.ref B.1), some (.int x1), some (.int 1), some (.int (nI k)), some (.int 0), some (.int (nI w)), some (.int (aboutKR (kjS κ) (nI k) (nI w))), some (.int (aboutKR (kjS τ) (nI k) (nI w)))] 185 []
        refine g_iinc C (v := (nI (w + 1))) dL_areAlike_185 rfl rfl (nI_add (w) 1) ?_
        refine g_goto C (tgt := 91) dL_areAlike_188 (by decide) ?_
        exact g_drop 7 (g_drop 8 (ih (w + 1) (by omega) (by omega)))
  refine g_iconst C (v := 0) dL_areAlike_88 rfl ?_
  refine g_istore C dL_areAlike_89 (Nat.le_of_ble_eq_true rfl) rfl ?_
  exact lp 10 0 (by omega) (by omega)
set_option maxHeartbeats 4000000 in
set_option maxRecDepth 100000 in
theorem al_k {E : Ev} {x : Cx} {A B : Ad} {κ τ : KSt} {x1 : Int32} (h : Al κ τ) (C : Ok E x cL_areAlike RL wsL_areAlike (rmD 9)) (R0 : RetI E x .boolean (pX E A B)) : G E x (w2 E A B κ τ) [some (.ref A.1), some (.ref B.1), some (.int x1), some (.int 1), none, none, none, none, none] 58 [] := by
  have lp : ∀ (m k : Nat) (κ τ : KSt) (h : Al κ τ), 12 - k < m → k ≤ 12 → G E x (w2 E A B κ τ) [some (.ref A.1), some (.ref B.1), some (.int x1), some (.int 1), some (.int (nI k)), none, none, none, none] 61 [] := by
    intro m
    induction m with
    | zero => intro k κ τ h h1; omega
    | succ m ih =>
      intro k κ τ h h1 h2
      refine g_iload C dL_areAlike_61 rfl ?_
      refine g_bipush C (v := 12) dL_areAlike_63 rfl ?_
      refine g_icmp_ge C (tgt := 341) dL_areAlike_65 (by decide) (fun hc_65 => ?_) (fun hc_65 => ?_)
      · have hn_65 : (12) ≤ (k) := (nI_leI (a := (12)) (b := (k)) (by omega) (by omega)).mp hc_65
        exact g_drop 4 (al_s h C R0)
      · have hn_65 : ¬ (12) ≤ (k) := fun z => hc_65 ((nI_leI (a := (12)) (b := (k)) (by omega) (by omega)).mpr z)
        have K : G E x (w2 E A B κ τ) [some (.ref A.1), some (.ref B.1), some (.int x1), some (.int 1), some (.int (nI k)), none, none, none, none] 268 [] := by
          refine g_iload_n C dL_areAlike_268 rfl rfl ?_
          refine g_if_eq_f C dL_areAlike_269 333 (by decide) (by decide) ?_
          refine g_aload_n C dL_areAlike_272 rfl rfl ?_
          refine g_iload C dL_areAlike_273 rfl ?_
          refine g_callK C w2_1 (k1_share E A B κ τ  (nI k) (r := (shaR (sSt (kjS κ)) (sHt (kjS κ)) (nI k))) rfl) cf_X3_share gL_areAlike_X3_share rfl (fitD (Nat.le_of_ble_eq_true rfl) (Nat.le_of_ble_eq_true rfl)) rfl rfl (Nat.le_of_ble_eq_true rfl) dL_areAlike_275 (fun q1 w1 hp => ?_)
          obtain ⟨rfl, rfl⟩ := hp
          refine g_aload_n C dL_areAlike_278 rfl rfl ?_
          refine g_iload C dL_areAlike_279 rfl ?_
          refine g_callK C w2_2 (k2_share E A B κ τ  (nI k) (r := (shaR (sSt (kjS τ)) (sHt (kjS τ)) (nI k))) rfl) cf_X3_share gL_areAlike_X3_share rfl (fitD (Nat.le_of_ble_eq_true rfl) (Nat.le_of_ble_eq_true rfl)) rfl rfl (Nat.le_of_ble_eq_true rfl) dL_areAlike_281 (fun q1 w1 hp => ?_)
          obtain ⟨rfl, rfl⟩ := hp
          refine g_icmp_ne_f C dL_areAlike_284 333 (by decide) (q_sh h (by omega)) ?_
          refine g_aload_n C dL_areAlike_287 rfl rfl ?_
          refine g_iload C dL_areAlike_288 rfl ?_
          refine g_callK C w2_1 (k1_readsToCut E A B κ τ  (nI k) (r := (rcR (sSt (kjS κ)) (sHt (kjS κ)) (windN (kjS κ)) (sCh (kjS κ)) (nI k))) rfl) cf_X3_readsToCut gL_areAlike_X3_readsToCut rfl (fitD (Nat.le_of_ble_eq_true rfl) (Nat.le_of_ble_eq_true rfl)) rfl rfl (Nat.le_of_ble_eq_true rfl) dL_areAlike_290 (fun q1 w1 hp => ?_)
          obtain ⟨rfl, rfl⟩ := hp
          refine g_aload_n C dL_areAlike_293 rfl rfl ?_
          refine g_iload C dL_areAlike_294 rfl ?_
          refine g_callK C w2_2 (k2_readsToCut E A B κ τ  (nI k) (r := (rcR (sSt (kjS τ)) (sHt (kjS τ)) (windN (kjS τ)) (sCh (kjS τ)) (nI k))) rfl) cf_X3_readsToCut gL_areAlike_X3_readsToCut rfl (fitD (Nat.le_of_ble_eq_true rfl) (Nat.le_of_ble_eq_true rfl)) rfl rfl (Nat.le_of_ble_eq_true rfl) dL_areAlike_296 (fun q1 w1 hp => ?_)
          obtain ⟨rfl, rfl⟩ := hp
          refine g_icmp_ne_f C dL_areAlike_299 333 (by decide) (q_rc h (by omega)) ?_
          refine g_aload_n C dL_areAlike_302 rfl rfl ?_
          refine g_iload C dL_areAlike_303 rfl ?_
          refine g_iload_n C dL_areAlike_305 rfl rfl ?_
          refine g_bipush C (v := 9) dL_areAlike_306 rfl ?_
          refine g_calliOF C (up_E E _ x1 9 (by decide) (r := (upV x1 9)) rfl) cf_L_up gL_areAlike_L_up trivial (fitD (Nat.le_of_ble_eq_true rfl) (Nat.le_of_ble_eq_true rfl)) rfl rfl (Nat.le_of_ble_eq_true rfl) dL_areAlike_308 (fun q1 w1 hp => ?_)
          obtain ⟨rfl, rfl⟩ := hp
          refine g_callK C w2_1 (k1_downIn E A B κ τ h.2.2.1 (nI k) (upV x1 9) rfl) cf_X3_downIn gL_areAlike_X3_downIn rfl (fitD (Nat.le_of_ble_eq_true rfl) (Nat.le_of_ble_eq_true rfl)) rfl rfl (Nat.le_of_ble_eq_true rfl) dL_areAlike_311 (fun q1 w1 hp => ?_)
          obtain ⟨w9, ⟨rfl, t311, rfl⟩, rfl⟩ := hp
          show G E x (w2 E A B (kDown κ t311) τ) _ _ _
          refine g_aload_n C dL_areAlike_314 rfl rfl ?_
          refine g_iload C dL_areAlike_315 rfl ?_
          refine g_iload_n C dL_areAlike_317 rfl rfl ?_
          refine g_bipush C (v := 9) dL_areAlike_318 rfl ?_
          refine g_calliOF C (up_E E _ x1 9 (by decide) (r := (upV x1 9)) rfl) cf_L_up gL_areAlike_L_up trivial (fitD (Nat.le_of_ble_eq_true rfl) (Nat.le_of_ble_eq_true rfl)) rfl rfl (Nat.le_of_ble_eq_true rfl) dL_areAlike_320 (fun q1 w1 hp => ?_)
          obtain ⟨rfl, rfl⟩ := hp
          refine g_callK C w2_2 (k2_downIn E A B (kDown κ t311) τ h.2.2.2 (nI k) (upV x1 9) rfl) cf_X3_downIn gL_areAlike_X3_downIn rfl (fitD (Nat.le_of_ble_eq_true rfl) (Nat.le_of_ble_eq_true rfl)) rfl rfl (Nat.le_of_ble_eq_true rfl) dL_areAlike_323 (fun q1 w1 hp => ?_)
          obtain ⟨w9, ⟨rfl, t323, rfl⟩, rfl⟩ := hp
          show G E x (w2 E A B (kDown κ t311) (kDown τ t323)) _ _ _
          refine g_icmp_ne_f C dL_areAlike_326 333 (by decide) (q_su h (by omega) _) ?_
          refine g_iconst C (v := 1) dL_areAlike_329 rfl ?_
          refine g_goto C (tgt := 334) dL_areAlike_330 (by decide) ?_
          refine g_istore_n C dL_areAlike_334 rfl (Nat.le_of_ble_eq_true rfl) rfl ?_
          refine g_iinc C (v := (nI (k + 1))) dL_areAlike_335 rfl rfl (nI_add (k) 1) ?_
          refine g_goto C (tgt := 61) dL_areAlike_338 (by decide) ?_
          exact ih (k + 1) _ _ (q_dn t311 t323 h) (by omega) (by omega)
        by_cases hl : sSt (kjS κ) k = -1
        · refine g_aload_n C dL_areAlike_68 rfl rfl ?_
          refine g_iload C dL_areAlike_69 rfl ?_
          refine g_iconst C (v := 0) dL_areAlike_71 rfl ?_
          refine g_callK C w2_1 (k1_kite E A B κ τ  (nI k) 0 (r := (-10001)) (kt_n (by omega) hl 0)) cf_X3_kite gL_areAlike_X3_kite rfl (fitD (Nat.le_of_ble_eq_true rfl) (Nat.le_of_ble_eq_true rfl)) rfl rfl (Nat.le_of_ble_eq_true rfl) dL_areAlike_72 (fun q1 w1 hp => ?_)
          obtain ⟨rfl, rfl⟩ := hp
          refine g_sipush C (v := (-10001)) dL_areAlike_75 rfl ?_
          refine g_icmp_eq_t C dL_areAlike_78 (tgt := 85) (by decide) (by decide) ?_
          refine g_iconst C (v := 0) dL_areAlike_85 rfl ?_
          refine g_istore C dL_areAlike_86 (Nat.le_of_ble_eq_true rfl) rfl ?_
          exact al_kN h (by omega) hl K C R0
        · refine g_aload_n C dL_areAlike_68 rfl rfl ?_
          refine g_iload C dL_areAlike_69 rfl ?_
          refine g_iconst C (v := 0) dL_areAlike_71 rfl ?_
          refine g_callK C w2_1 (k1_kite E A B κ τ  (nI k) 0 (r := (sNu (kjS κ) k)) ((kt_y (by omega) hl 0).trans kg0)) cf_X3_kite gL_areAlike_X3_kite rfl (fitD (Nat.le_of_ble_eq_true rfl) (Nat.le_of_ble_eq_true rfl)) rfl rfl (Nat.le_of_ble_eq_true rfl) dL_areAlike_72 (fun q1 w1 hp => ?_)
          obtain ⟨rfl, rfl⟩ := hp
          refine g_sipush C (v := (-10001)) dL_areAlike_75 rfl ?_
          refine g_icmp_eq_f C dL_areAlike_78 85 (by decide) (nN_U (h.1.2.2.2.2.1 k)) ?_
          refine g_iconst C (v := 1) dL_areAlike_81 rfl ?_
          refine g_goto C (tgt := 86) dL_areAlike_82 (by decide) ?_
          refine g_istore C dL_areAlike_86 (Nat.le_of_ble_eq_true rfl) rfl ?_
          show G E x (w2 E A B κ τ) [some (.ref A.1), some (.ref B.1), some (.int x1), some (.int 1), some (.int (nI k)), some (.int 1), none, none, none] 88 []
          exact al_kY h (by omega) hl K C R0
  refine g_iconst C (v := 0) dL_areAlike_58 rfl ?_
  refine g_istore C dL_areAlike_59 (Nat.le_of_ble_eq_true rfl) rfl ?_
  exact lp 13 0 κ τ h (by omega) (by omega)
set_option maxHeartbeats 4000000 in
set_option maxRecDepth 100000 in
theorem al_all {E : Ev} {x : Cx} {A B : Ad} {κ τ : KSt} {x1 : Int32} (h : Al κ τ) (C : Ok E x cL_areAlike RL wsL_areAlike (rmD 9)) (R0 : RetI E x .boolean (pX E A B)) : G E x (w2 E A B κ τ) [some (.ref A.1), some (.ref B.1), some (.int x1), none, none, none, none, none, none] 0 [] := by
  have lp : ∀ (m i : Nat), 11 - i < m → i ≤ 11 → G E x (w2 E A B κ τ) [some (.ref A.1), some (.ref B.1), some (.int x1), some (.int 1), some (.int (nI i)), none, none, none, none] 20 [] := by
    intro m
    induction m with
    | zero => intro i h1; omega
    | succ m ih =>
      intro i h1 h2
      refine g_iload C dL_areAlike_20 rfl ?_
      refine g_bipush C (v := 11) dL_areAlike_22 rfl ?_
      refine g_icmp_ge C (tgt := 58) dL_areAlike_24 (by decide) (fun hc_24 => ?_) (fun hc_24 => ?_)
      · have hn_24 : (11) ≤ (i) := (nI_leI (a := (11)) (b := (i)) (by omega) (by omega)).mp hc_24
        exact g_drop 4 (al_k h C R0)
      · have hn_24 : ¬ (11) ≤ (i) := fun z => hc_24 ((nI_leI (a := (11)) (b := (i)) (by omega) (by omega)).mpr z)
        refine g_iload_n C dL_areAlike_27 rfl rfl ?_
        refine g_if_eq_f C dL_areAlike_28 50 (by decide) (by decide) ?_
        refine g_aload_n C dL_areAlike_31 rfl rfl ?_
        refine g_iload C dL_areAlike_32 rfl ?_
        refine g_callK C w2_1 (k1_count E A B κ τ  (nI i) (r := (kCnt κ (nI i))) rfl) cf_X3_count gL_areAlike_X3_count rfl (fitD (Nat.le_of_ble_eq_true rfl) (Nat.le_of_ble_eq_true rfl)) rfl rfl (Nat.le_of_ble_eq_true rfl) dL_areAlike_34 (fun q1 w1 hp => ?_)
        obtain ⟨rfl, rfl⟩ := hp
        refine g_aload_n C dL_areAlike_37 rfl rfl ?_
        refine g_iload C dL_areAlike_38 rfl ?_
        refine g_callK C w2_2 (k2_count E A B κ τ  (nI i) (r := (kCnt τ (nI i))) rfl) cf_X3_count gL_areAlike_X3_count rfl (fitD (Nat.le_of_ble_eq_true rfl) (Nat.le_of_ble_eq_true rfl)) rfl rfl (Nat.le_of_ble_eq_true rfl) dL_areAlike_40 (fun q1 w1 hp => ?_)
        obtain ⟨rfl, rfl⟩ := hp
        refine g_icmp_ne_f C dL_areAlike_43 50 (by decide) (q_cnt h (by omega)) ?_
        refine g_iconst C (v := 1) dL_areAlike_46 rfl ?_
        refine g_goto C (tgt := 51) dL_areAlike_47 (by decide) ?_
        refine g_istore_n C dL_areAlike_51 rfl (Nat.le_of_ble_eq_true rfl) rfl ?_
        refine g_iinc C (v := (nI (i + 1))) dL_areAlike_52 rfl rfl (nI_add (i) 1) ?_
        refine g_goto C (tgt := 20) dL_areAlike_55 (by decide) ?_
        exact ih (i + 1) (by omega) (by omega)
  refine g_aload_n C dL_areAlike_0 rfl rfl ?_
  refine g_callK C w2_1 (k1_safeWind E A B κ τ   (r := (gsF (sSt (kjS κ)) (sHt (kjS κ)) (sCh (kjS κ)) 10)) rfl) cf_X3_safeWind gL_areAlike_X3_safeWind rfl (fitD (Nat.le_of_ble_eq_true rfl) (Nat.le_of_ble_eq_true rfl)) rfl rfl (Nat.le_of_ble_eq_true rfl) dL_areAlike_1 (fun q1 w1 hp => ?_)
  obtain ⟨rfl, rfl⟩ := hp
  refine g_aload_n C dL_areAlike_4 rfl rfl ?_
  refine g_callK C w2_2 (k2_safeWind E A B κ τ   (r := (gsF (sSt (kjS τ)) (sHt (kjS τ)) (sCh (kjS τ)) 10)) rfl) cf_X3_safeWind gL_areAlike_X3_safeWind rfl (fitD (Nat.le_of_ble_eq_true rfl) (Nat.le_of_ble_eq_true rfl)) rfl rfl (Nat.le_of_ble_eq_true rfl) dL_areAlike_5 (fun q1 w1 hp => ?_)
  obtain ⟨rfl, rfl⟩ := hp
  refine g_icmp_ne_f C dL_areAlike_8 15 (by decide) (q_safe h) ?_
  refine g_iconst C (v := 1) dL_areAlike_11 rfl ?_
  refine g_goto C (tgt := 16) dL_areAlike_12 (by decide) ?_
  refine g_istore_n C dL_areAlike_16 rfl (Nat.le_of_ble_eq_true rfl) rfl ?_
  refine g_iconst C (v := 0) dL_areAlike_17 rfl ?_
  refine g_istore C dL_areAlike_18 (Nat.le_of_ble_eq_true rfl) rfl ?_
  exact lp 12 0 (by omega) (by omega)
theorem c_L_areAlike (E : Ev) (A B : Ad) {κ τ : KSt} (h : Al κ τ) (x1 : Int32) : MI E yL_areAlike wsL_areAlike (rmD 9) (w2 E A B κ τ) [.ref A.1, .ref B.1, .int x1] (pX E A B) := by
  refine MI.of (cc := cL_areAlike) (nL := 9) (ty := .boolean) (own := RL) [some (.ref A.1), some (.ref B.1), some (.int x1), none, none, none, none, none, none] (by decide +kernel) rfl rfl (Nat.le_of_ble_eq_true rfl) rfl rfl ?_
  intro x C R0
  exact al_all h C R0
