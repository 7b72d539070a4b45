set_option maxHeartbeats 4000000 in
set_option maxRecDepth 100000 in
theorem wl_end {E : Ev} {x : Cx} {A : Ad} {n : Nat} {κ : KSt} (hG : gd n (kjS κ)) (hn : n ≤ 48) (C : Ok E x cL_isWell RL wsL_isWell (rmD 9)) (R0 : RetI E x .boolean (pA E A 1 κ)) : G E x (kA E A κ) [some (.ref A.1), some (.int (sumN (liF (sSt (kjS κ))) 12)), some (.int (sumN (wlF (kjS κ)) 12)), some (.int (sumN (frF (sSt (kjS κ)) (sFr (kjS κ))) 12)), some (.int 0), some (.int 1), some (.int (nI 12)), none, none, none, none, none] 415 [] := by
  have lp : ∀ (m t : Nat), 4 - t < m → t ≤ 4 → G E x (kA E A κ) [some (.ref A.1), some (.int (sumN (liF (sSt (kjS κ))) 12)), some (.int (sumN (wlF (kjS κ)) 12)), some (.int (sumN (frF (sSt (kjS κ)) (sFr (kjS κ))) 12)), some (.int (sumN (sCf (kjS κ)) t)), some (.int 1), some (.int (sumN (strF (kjS κ)) t)), some (.int (sumN (wAllF (kjS κ)) t)), some (.int (nI t)), none, none, none] 424 [] := by
    intro m
    induction m with
    | zero => intro t h1; omega
    | succ m ih =>
      intro t h1 h2
      refine g_iload C dL_isWell_424 rfl ?_
      refine g_iconst C (v := 4) dL_isWell_426 rfl ?_
      refine g_icmp_ge C (tgt := 472) dL_isWell_427 (by decide) (fun hc_427 => ?_) (fun hc_427 => ?_)
      · have hn_427 : (4) ≤ (t) := (nI_leI (a := (4)) (b := (t)) (by omega) (by omega)).mp hc_427
        obtain rfl : t = 4 := by omega
        refine g_iload C dL_isWell_472 rfl ?_
        refine g_if_eq_f C dL_isWell_474 578 (by decide) (by decide) ?_
        refine g_iload_n C dL_isWell_477 rfl rfl ?_
        refine g_aload_n C dL_isWell_478 rfl rfl ?_
        refine g_iconst C (v := 0) dL_isWell_479 rfl ?_
        refine g_callK C kA_hd (k0_count E A κ  0 (r := (sumN (liF (sSt (kjS κ))) 12)) cn0) cf_X3_count gL_isWell_X3_count rfl (fitD (Nat.le_of_ble_eq_true rfl) (Nat.le_of_ble_eq_true rfl)) rfl rfl (Nat.le_of_ble_eq_true rfl) dL_isWell_480 (fun q1 w1 hp => ?_)
        obtain ⟨rfl, rfl⟩ := hp
        refine g_icmp_ne_f C dL_isWell_483 578 (by decide) rfl ?_
        refine g_iload C dL_isWell_486 rfl ?_
        refine g_iload_n C dL_isWell_488 rfl rfl ?_
        refine g_icmp_ne_f C dL_isWell_489 578 (by decide) (str_all hG.1) ?_
        refine g_iload C dL_isWell_492 rfl ?_
        refine g_iload_n C dL_isWell_494 rfl rfl ?_
        refine g_icmp_ne_f C dL_isWell_495 578 (by decide) (w_all hG.1) ?_
        refine g_iload_n C dL_isWell_498 rfl rfl ?_
        refine g_aload_n C dL_isWell_499 rfl rfl ?_
        refine g_bipush C (v := 7) dL_isWell_500 rfl ?_
        refine g_callK C kA_hd (k0_count E A κ  7 (r := (sumN (wAllF (kjS κ)) 4)) cn7) cf_X3_count gL_isWell_X3_count rfl (fitD (Nat.le_of_ble_eq_true rfl) (Nat.le_of_ble_eq_true rfl)) rfl rfl (Nat.le_of_ble_eq_true rfl) dL_isWell_502 (fun q1 w1 hp => ?_)
        obtain ⟨rfl, rfl⟩ := hp
        refine g_icmp_ne_f C dL_isWell_505 578 (by decide) (w_all hG.1).symm ?_
        refine g_iload_n C dL_isWell_508 rfl rfl ?_
        refine g_aload_n C dL_isWell_509 rfl rfl ?_
        refine g_iconst C (v := 5) dL_isWell_510 rfl ?_
        refine g_callK C kA_hd (k0_count E A κ  5 (r := (sumN (frF (sSt (kjS κ)) (sFr (kjS κ))) 12)) cn5) cf_X3_count gL_isWell_X3_count rfl (fitD (Nat.le_of_ble_eq_true rfl) (Nat.le_of_ble_eq_true rfl)) rfl rfl (Nat.le_of_ble_eq_true rfl) dL_isWell_511 (fun q1 w1 hp => ?_)
        obtain ⟨rfl, rfl⟩ := hp
        refine g_icmp_ne_f C dL_isWell_514 578 (by decide) rfl ?_
        refine g_iload C dL_isWell_517 rfl ?_
        refine g_aload_n C dL_isWell_519 rfl rfl ?_
        refine g_iconst C (v := 4) dL_isWell_520 rfl ?_
        refine g_callK C kA_hd (k0_count E A κ  4 (r := (sumN (sCf (kjS κ)) 4)) cn4) cf_X3_count gL_isWell_X3_count rfl (fitD (Nat.le_of_ble_eq_true rfl) (Nat.le_of_ble_eq_true rfl)) rfl rfl (Nat.le_of_ble_eq_true rfl) dL_isWell_521 (fun q1 w1 hp => ?_)
        obtain ⟨rfl, rfl⟩ := hp
        refine g_icmp_ne_f C dL_isWell_524 578 (by decide) rfl ?_
        refine g_aload_n C dL_isWell_527 rfl rfl ?_
        refine g_iconst C (v := 4) dL_isWell_528 rfl ?_
        refine g_callK C kA_hd (k0_count E A κ  4 (r := (sumN (sCf (kjS κ)) 4)) cn4) cf_X3_count gL_isWell_X3_count rfl (fitD (Nat.le_of_ble_eq_true rfl) (Nat.le_of_ble_eq_true rfl)) rfl rfl (Nat.le_of_ble_eq_true rfl) dL_isWell_529 (fun q1 w1 hp => ?_)
        obtain ⟨rfl, rfl⟩ := hp
        refine g_aload_n C dL_isWell_532 rfl rfl ?_
        refine g_iconst C (v := 3) dL_isWell_533 rfl ?_
        refine g_callK C kA_hd (k0_count E A κ  3 (r := (sRs (kjS κ))) cn3) cf_X3_count gL_isWell_X3_count rfl (fitD (Nat.le_of_ble_eq_true rfl) (Nat.le_of_ble_eq_true rfl)) rfl rfl (Nat.le_of_ble_eq_true rfl) dL_isWell_534 (fun q1 w1 hp => ?_)
        obtain ⟨rfl, rfl⟩ := hp
        refine g_icmp_gt_f C dL_isWell_537 578 (by decide) (w_cuts hG hn) ?_
        refine g_aload_n C dL_isWell_540 rfl rfl ?_
        refine g_bipush C (v := 10) dL_isWell_541 rfl ?_
        refine g_callK C kA_hd (k0_count E A κ  10 (r := (sBs (kjS κ))) cn10) cf_X3_count gL_isWell_X3_count rfl (fitD (Nat.le_of_ble_eq_true rfl) (Nat.le_of_ble_eq_true rfl)) rfl rfl (Nat.le_of_ble_eq_true rfl) dL_isWell_543 (fun q1 w1 hp => ?_)
        obtain ⟨rfl, rfl⟩ := hp
        refine g_bipush C (v := 8) dL_isWell_546 rfl ?_
        refine g_irem C dL_isWell_548 (by decide) ?_
        refine g_aload_n C dL_isWell_549 rfl rfl ?_
        refine g_iconst C (v := 1) dL_isWell_550 rfl ?_
        refine g_callK C kA_hd (k0_count E A κ  1 (r := (nI (fmo8 (sBs (kjS κ))))) cn1) cf_X3_count gL_isWell_X3_count rfl (fitD (Nat.le_of_ble_eq_true rfl) (Nat.le_of_ble_eq_true rfl)) rfl rfl (Nat.le_of_ble_eq_true rfl) dL_isWell_551 (fun q1 w1 hp => ?_)
        obtain ⟨rfl, rfl⟩ := hp
        refine g_icmp_ne_f C dL_isWell_554 578 (by decide) (w_beat hG hn) ?_
        refine g_aload_n C dL_isWell_557 rfl rfl ?_
        refine g_aload_n C dL_isWell_558 rfl rfl ?_
        refine g_iconst C (v := 1) dL_isWell_559 rfl ?_
        refine g_callK C kA_hd (k0_count E A κ  1 (r := (nI (fmo8 (sBs (kjS κ))))) cn1) cf_X3_count gL_isWell_X3_count rfl (fitD (Nat.le_of_ble_eq_true rfl) (Nat.le_of_ble_eq_true rfl)) rfl rfl (Nat.le_of_ble_eq_true rfl) dL_isWell_560 (fun q1 w1 hp => ?_)
        obtain ⟨rfl, rfl⟩ := hp
        refine g_callK C kA_hd (k0_windOf E A κ  (nI (fmo8 (sBs (kjS κ)))) (r := (windN (kjS κ))) (w_wind (kjS κ))) cf_X3_windOf gL_isWell_X3_windOf rfl (fitD (Nat.le_of_ble_eq_true rfl) (Nat.le_of_ble_eq_true rfl)) rfl rfl (Nat.le_of_ble_eq_true rfl) dL_isWell_563 (fun q1 w1 hp => ?_)
        obtain ⟨rfl, rfl⟩ := hp
        refine g_aload_n C dL_isWell_566 rfl rfl ?_
        refine g_iconst C (v := 2) dL_isWell_567 rfl ?_
        refine g_callK C kA_hd (k0_count E A κ  2 (r := (windN (kjS κ))) cn2) cf_X3_count gL_isWell_X3_count rfl (fitD (Nat.le_of_ble_eq_true rfl) (Nat.le_of_ble_eq_true rfl)) rfl rfl (Nat.le_of_ble_eq_true rfl) dL_isWell_568 (fun q1 w1 hp => ?_)
        obtain ⟨rfl, rfl⟩ := hp
        refine g_icmp_ne_f C dL_isWell_571 578 (by decide) rfl ?_
        refine g_iconst C (v := 1) dL_isWell_574 rfl ?_
        refine g_goto C (tgt := 579) dL_isWell_575 (by decide) ?_
        refine g_zret C R0 rfl dL_isWell_579 ?_
        exact ⟨rfl, rfl⟩
      · have hn_427 : ¬ (4) ≤ (t) := fun z => hc_427 ((nI_leI (a := (4)) (b := (t)) (by omega) (by omega)).mpr z)
        refine g_iload C dL_isWell_430 rfl ?_
        refine g_aload_n C dL_isWell_432 rfl rfl ?_
        refine g_iload C dL_isWell_433 rfl ?_
        refine g_iconst C (v := 0) dL_isWell_435 rfl ?_
        refine g_callK C kA_hd (k0_string E A κ  (nI t) 0 (r := (strF (kjS κ) t)) (sr_0 (t := t) (by omega))) cf_X3_string gL_isWell_X3_string rfl (fitD (Nat.le_of_ble_eq_true rfl) (Nat.le_of_ble_eq_true rfl)) rfl rfl (Nat.le_of_ble_eq_true rfl) dL_isWell_436 (fun q1 w1 hp => ?_)
        obtain ⟨rfl, rfl⟩ := hp
        refine g_iadd C dL_isWell_439 ?_
        refine g_istore C dL_isWell_440 (Nat.le_of_ble_eq_true rfl) rfl ?_
        refine g_iload C dL_isWell_442 rfl ?_
        refine g_aload_n C dL_isWell_444 rfl rfl ?_
        refine g_iload C dL_isWell_445 rfl ?_
        refine g_iconst C (v := 1) dL_isWell_447 rfl ?_
        refine g_callK C kA_hd (k0_string E A κ  (nI t) 1 (r := (wAllF (kjS κ) t)) (sr_1 (t := t) (by omega))) cf_X3_string gL_isWell_X3_string rfl (fitD (Nat.le_of_ble_eq_true rfl) (Nat.le_of_ble_eq_true rfl)) rfl rfl (Nat.le_of_ble_eq_true rfl) dL_isWell_448 (fun q1 w1 hp => ?_)
        obtain ⟨rfl, rfl⟩ := hp
        refine g_iadd C dL_isWell_451 ?_
        refine g_istore C dL_isWell_452 (Nat.le_of_ble_eq_true rfl) rfl ?_
        refine g_iload C dL_isWell_454 rfl ?_
        refine g_aload_n C dL_isWell_456 rfl rfl ?_
        refine g_iload C dL_isWell_457 rfl ?_
        refine g_iconst C (v := 5) dL_isWell_459 rfl ?_
        refine g_callK C kA_hd (k0_string E A κ  (nI t) 5 (r := (sCf (kjS κ) t)) (sr_5 (t := t) (by omega))) cf_X3_string gL_isWell_X3_string rfl (fitD (Nat.le_of_ble_eq_true rfl) (Nat.le_of_ble_eq_true rfl)) rfl rfl (Nat.le_of_ble_eq_true rfl) dL_isWell_460 (fun q1 w1 hp => ?_)
        obtain ⟨rfl, rfl⟩ := hp
        refine g_iadd C dL_isWell_463 ?_
        refine g_istore C dL_isWell_464 (Nat.le_of_ble_eq_true rfl) rfl ?_
        show G E x (kA E A κ) [some (.ref A.1), some (.int (sumN (liF (sSt (kjS κ))) 12)), some (.int (sumN (wlF (kjS κ)) 12)), some (.int (sumN (frF (sSt (kjS κ)) (sFr (kjS κ))) 12)), some (.int ((sumN (sCf (kjS κ)) t) + (sCf (kjS κ) t))), some (.int 1), some (.int ((sumN (strF (kjS κ)) t) + (strF (kjS κ) t))), some (.int ((sumN (wAllF (kjS κ)) t) + (wAllF (kjS κ) t))), some (.int (nI t)), none, none, none] 466 []
        refine g_iinc C (v := (nI (t + 1))) dL_isWell_466 rfl rfl (nI_add (t) 1) ?_
        refine g_goto C (tgt := 424) dL_isWell_469 (by decide) ?_
        exact ih (t + 1) (by omega) (by omega)
  refine g_iconst C (v := 0) dL_isWell_415 rfl ?_
  refine g_istore C dL_isWell_416 (Nat.le_of_ble_eq_true rfl) rfl ?_
  refine g_iconst C (v := 0) dL_isWell_418 rfl ?_
  refine g_istore C dL_isWell_419 (Nat.le_of_ble_eq_true rfl) rfl ?_
  refine g_iconst C (v := 0) dL_isWell_421 rfl ?_
  refine g_istore C dL_isWell_422 (Nat.le_of_ble_eq_true rfl) rfl ?_
  show G E x (kA E A κ) [some (.ref A.1), some (.int (sumN (liF (sSt (kjS κ))) 12)), some (.int (sumN (wlF (kjS κ)) 12)), some (.int (sumN (frF (sSt (kjS κ)) (sFr (kjS κ))) 12)), some (.int 0), some (.int 1), some (.int 0), some (.int 0), some (.int 0), none, none, none] 424 []
  exact lp 5 0 (by omega) (by omega)
set_option maxHeartbeats 4000000 in
set_option maxRecDepth 100000 in
theorem wl_in {E : Ev} {x : Cx} {A : Ad} {n : Nat} {κ : KSt} (hG : gd n (kjS κ)) (hn : n ≤ 48) {i q b : Nat} (hi : i < 12) (hq : q < 4) (hs : sSt (kjS κ) i = nI q) (hb : sHt (kjS κ) i = nI b) {M1 M2 M3 : Int32} {a9 b9 : Int32} (K : G E x (kA E A κ) [some (.ref A.1), some (.int M1), some (.int M2), some (.int M3), some (.int 0), some (.int 1), some (.int (nI i)), none, none, none, none, none] 409 []) (C : Ok E x cL_isWell RL wsL_isWell (rmD 9)) (R0 : RetI E x .boolean (pA E A 1 κ)) : G E x (kA E A κ) [some (.ref A.1), some (.int M1), some (.int M2), some (.int M3), some (.int 0), some (.int 1), some (.int (nI i)), some (.int (nI q)), some (.int (nI b)), some (.int a9), some (.int b9), none] 357 [] := by
  have lp : ∀ (m o : Nat), i - o < m → o ≤ i → G E x (kA E A κ) [some (.ref A.1), some (.int M1), some (.int M2), some (.int M3), some (.int 0), some (.int 1), some (.int (nI i)), some (.int (nI q)), some (.int (nI b)), some (.int a9), some (.int b9), some (.int (nI o))] 360 [] := by
    intro m
    induction m with
    | zero => intro o h1; omega
    | succ m ih =>
      intro o h1 h2
      refine g_iload C dL_isWell_360 rfl ?_
      refine g_iload C dL_isWell_362 rfl ?_
      refine g_icmp_ge C (tgt := 409) dL_isWell_364 (by decide) (fun hc_364 => ?_) (fun hc_364 => ?_)
      · have hn_364 : (i) ≤ (o) := (nI_leI (a := (i)) (b := (o)) (by omega) (by omega)).mp hc_364
        exact g_drop 7 (g_drop 8 (g_drop 9 (g_drop 10 (g_drop 11 K))))
      · have hn_364 : ¬ (i) ≤ (o) := fun z => hc_364 ((nI_leI (a := (i)) (b := (o)) (by omega) (by omega)).mpr z)
        refine g_iload C dL_isWell_367 rfl ?_
        refine g_if_eq_f C dL_isWell_369 400 (by decide) (by decide) ?_
        refine g_aload_n C dL_isWell_372 rfl rfl ?_
        refine g_iload C dL_isWell_373 rfl ?_
        refine g_iconst C (v := 1) dL_isWell_375 rfl ?_
        refine g_callK C kA_hd (k0_kite E A κ  (nI o) 1 (r := (aboutKR (kjS κ) (nI o) 1)) rfl) cf_X3_kite gL_isWell_X3_kite rfl (fitD (Nat.le_of_ble_eq_true rfl) (Nat.le_of_ble_eq_true rfl)) rfl rfl (Nat.le_of_ble_eq_true rfl) dL_isWell_376 (fun q1 w1 hp => ?_)
        obtain ⟨rfl, rfl⟩ := hp
        refine g_iload C dL_isWell_379 rfl ?_
        refine g_icmp_ne C (tgt := 396) dL_isWell_381 (by decide) (fun hc_381 => ?_) (fun hc_381 => ?_)
        · refine g_iconst C (v := 1) dL_isWell_396 rfl ?_
          refine g_goto C (tgt := 401) dL_isWell_397 (by decide) ?_
          refine g_istore C dL_isWell_401 (Nat.le_of_ble_eq_true rfl) rfl ?_
          refine g_iinc C (v := (nI (o + 1))) dL_isWell_403 rfl rfl (nI_add (o) 1) ?_
          refine g_goto C (tgt := 360) dL_isWell_406 (by decide) ?_
          exact ih (o + 1) (by omega) (by omega)
        · refine g_aload_n C dL_isWell_384 rfl rfl ?_
          refine g_iload C dL_isWell_385 rfl ?_
          refine g_iconst C (v := 2) dL_isWell_387 rfl ?_
          refine g_callK C kA_hd (k0_kite E A κ  (nI o) 2 (r := (aboutKR (kjS κ) (nI o) 2)) rfl) cf_X3_kite gL_isWell_X3_kite rfl (fitD (Nat.le_of_ble_eq_true rfl) (Nat.le_of_ble_eq_true rfl)) rfl rfl (Nat.le_of_ble_eq_true rfl) dL_isWell_388 (fun q1 w1 hp => ?_)
          obtain ⟨rfl, rfl⟩ := hp
          refine g_iload C dL_isWell_391 rfl ?_
          refine g_icmp_eq_f C dL_isWell_393 400 (by decide) (w_two hG hi (by omega) hq hs hb hc_381) ?_
          refine g_iconst C (v := 1) dL_isWell_396 rfl ?_
          refine g_goto C (tgt := 401) dL_isWell_397 (by decide) ?_
          refine g_istore C dL_isWell_401 (Nat.le_of_ble_eq_true rfl) rfl ?_
          refine g_iinc C (v := (nI (o + 1))) dL_isWell_403 rfl rfl (nI_add (o) 1) ?_
          refine g_goto C (tgt := 360) dL_isWell_406 (by decide) ?_
          exact ih (o + 1) (by omega) (by omega)
  refine g_iconst C (v := 0) dL_isWell_357 rfl ?_
  refine g_istore C dL_isWell_358 (Nat.le_of_ble_eq_true rfl) rfl ?_
  exact lp (i + 1) 0 (by omega) (by omega)
set_option maxHeartbeats 4000000 in
set_option maxRecDepth 100000 in
theorem wl_c {E : Ev} {x : Cx} {A : Ad} {n : Nat} {κ : KSt} (hG : gd n (kjS κ)) (hn : n ≤ 48) {i q b : Nat} (hi : i < 12) (hq : q < 4) (hs : sSt (kjS κ) i = nI q) (hb : sHt (kjS κ) i = nI b) {M1 M2 M3 : Int32} {a9 b9 : Int32} (K : G E x (kA E A κ) [some (.ref A.1), some (.int M1), some (.int M2), some (.int M3), some (.int 0), some (.int 1), some (.int (nI i)), none, none, none, none, none] 409 []) (C : Ok E x cL_isWell RL wsL_isWell (rmD 9)) (R0 : RetI E x .boolean (pA E A 1 κ)) : G E x (kA E A κ) [some (.ref A.1), some (.int M1), some (.int M2), some (.int M3), some (.int 0), some (.int 1), some (.int (nI i)), some (.int (nI q)), some (.int (nI b)), some (.int a9), some (.int b9), none] 274 [] := by
  have hl := u_al hq hs
  have hW : ¬ weig (sSt (kjS κ)) (sHt (kjS κ)) (nI q) = 0 := weig_ne hG.1.2.1 hi hs
  rcases w_cut (kjS κ) hi hl with ⟨e1, e2⟩ | ⟨e1, e2⟩
  · skip
    refine g_aload_n C dL_isWell_274 rfl rfl ?_
    refine g_iload C dL_isWell_275 rfl ?_
    refine g_callK C kA_hd (k0_share E A κ  (nI i) (r := (1000 * ((nI b) + 1) / (weig (sSt (kjS κ)) (sHt (kjS κ)) (nI q)))) (u_sha hG hi hq hs hb)) cf_X3_share gL_isWell_X3_share rfl (fitD (Nat.le_of_ble_eq_true rfl) (Nat.le_of_ble_eq_true rfl)) rfl rfl (Nat.le_of_ble_eq_true rfl) dL_isWell_277 (fun q1 w1 hp => ?_)
    obtain ⟨rfl, rfl⟩ := hp
    refine g_sipush C (v := 1000) dL_isWell_280 rfl ?_
    refine g_iload C dL_isWell_283 rfl ?_
    refine g_iconst C (v := 1) dL_isWell_285 rfl ?_
    refine g_iadd C dL_isWell_286 ?_
    refine g_imul C dL_isWell_287 ?_
    refine g_aload_n C dL_isWell_288 rfl rfl ?_
    refine g_iload C dL_isWell_289 rfl ?_
    refine g_iconst C (v := 1) dL_isWell_291 rfl ?_
    refine g_callK C kA_hd (k0_string E A κ  (nI q) 1 (r := (weig (sSt (kjS κ)) (sHt (kjS κ)) (nI q))) (sr_1 hq)) cf_X3_string gL_isWell_X3_string rfl (fitD (Nat.le_of_ble_eq_true rfl) (Nat.le_of_ble_eq_true rfl)) rfl rfl (Nat.le_of_ble_eq_true rfl) dL_isWell_292 (fun q1 w1 hp => ?_)
    obtain ⟨rfl, rfl⟩ := hp
    refine g_idiv C dL_isWell_295 hW ?_
    refine g_icmp_ne_f C dL_isWell_296 354 (by decide) rfl ?_
    refine g_aload_n C dL_isWell_299 rfl rfl ?_
    refine g_iload C dL_isWell_300 rfl ?_
    refine g_iconst C (v := 2) dL_isWell_302 rfl ?_
    refine g_callK C kA_hd (k0_ifRead E A κ  (nI i) 2 (r := 1) e1) cf_X3_ifRead gL_isWell_X3_ifRead rfl (fitD (Nat.le_of_ble_eq_true rfl) (Nat.le_of_ble_eq_true rfl)) rfl rfl (Nat.le_of_ble_eq_true rfl) dL_isWell_303 (fun q1 w1 hp => ?_)
    obtain ⟨rfl, rfl⟩ := hp
    refine g_iconst C (v := 1) dL_isWell_306 rfl ?_
    refine g_icmp_ne_f C dL_isWell_307 314 (by decide) (by decide) ?_
    refine g_iconst C (v := 1) dL_isWell_310 rfl ?_
    refine g_goto C (tgt := 315) dL_isWell_311 (by decide) ?_
    refine g_aload_n C dL_isWell_315 rfl rfl ?_
    refine g_iload C dL_isWell_316 rfl ?_
    refine g_callK C kA_hd (k0_readsToCut E A κ  (nI i) (r := 1) e2) cf_X3_readsToCut gL_isWell_X3_readsToCut rfl (fitD (Nat.le_of_ble_eq_true rfl) (Nat.le_of_ble_eq_true rfl)) rfl rfl (Nat.le_of_ble_eq_true rfl) dL_isWell_318 (fun q1 w1 hp => ?_)
    obtain ⟨rfl, rfl⟩ := hp
    refine g_iconst C (v := 1) dL_isWell_321 rfl ?_
    refine g_icmp_ne_f C dL_isWell_322 329 (by decide) (by decide) ?_
    refine g_iconst C (v := 1) dL_isWell_325 rfl ?_
    refine g_goto C (tgt := 330) dL_isWell_326 (by decide) ?_
    refine g_icmp_ne_f C dL_isWell_330 354 (by decide) (by decide) ?_
    refine g_aload_n C dL_isWell_333 rfl rfl ?_
    refine g_iload C dL_isWell_334 rfl ?_
    refine g_iconst C (v := 5) dL_isWell_336 rfl ?_
    refine g_callK C kA_hd (k0_kite E A κ  (nI i) 5 (r := (sCu (kjS κ) i)) ((kt_y hi hl 5).trans kg5)) cf_X3_kite gL_isWell_X3_kite rfl (fitD (Nat.le_of_ble_eq_true rfl) (Nat.le_of_ble_eq_true rfl)) rfl rfl (Nat.le_of_ble_eq_true rfl) dL_isWell_337 (fun q1 w1 hp => ?_)
    obtain ⟨rfl, rfl⟩ := hp
    refine g_aload_n C dL_isWell_340 rfl rfl ?_
    refine g_iload C dL_isWell_341 rfl ?_
    refine g_iconst C (v := 4) dL_isWell_343 rfl ?_
    refine g_callK C kA_hd (k0_kite E A κ  (nI i) 4 (r := (sRe (kjS κ) i)) ((kt_y hi hl 4).trans kg4)) cf_X3_kite gL_isWell_X3_kite rfl (fitD (Nat.le_of_ble_eq_true rfl) (Nat.le_of_ble_eq_true rfl)) rfl rfl (Nat.le_of_ble_eq_true rfl) dL_isWell_344 (fun q1 w1 hp => ?_)
    obtain ⟨rfl, rfl⟩ := hp
    refine g_icmp_gt_f C dL_isWell_347 354 (by decide) (w_rc hG hn i) ?_
    refine g_iconst C (v := 1) dL_isWell_350 rfl ?_
    refine g_goto C (tgt := 355) dL_isWell_351 (by decide) ?_
    refine g_istore C dL_isWell_355 (Nat.le_of_ble_eq_true rfl) rfl ?_
    exact wl_in hG hn hi hq hs hb K C R0
  · skip
    refine g_aload_n C dL_isWell_274 rfl rfl ?_
    refine g_iload C dL_isWell_275 rfl ?_
    refine g_callK C kA_hd (k0_share E A κ  (nI i) (r := (1000 * ((nI b) + 1) / (weig (sSt (kjS κ)) (sHt (kjS κ)) (nI q)))) (u_sha hG hi hq hs hb)) cf_X3_share gL_isWell_X3_share rfl (fitD (Nat.le_of_ble_eq_true rfl) (Nat.le_of_ble_eq_true rfl)) rfl rfl (Nat.le_of_ble_eq_true rfl) dL_isWell_277 (fun q1 w1 hp => ?_)
    obtain ⟨rfl, rfl⟩ := hp
    refine g_sipush C (v := 1000) dL_isWell_280 rfl ?_
    refine g_iload C dL_isWell_283 rfl ?_
    refine g_iconst C (v := 1) dL_isWell_285 rfl ?_
    refine g_iadd C dL_isWell_286 ?_
    refine g_imul C dL_isWell_287 ?_
    refine g_aload_n C dL_isWell_288 rfl rfl ?_
    refine g_iload C dL_isWell_289 rfl ?_
    refine g_iconst C (v := 1) dL_isWell_291 rfl ?_
    refine g_callK C kA_hd (k0_string E A κ  (nI q) 1 (r := (weig (sSt (kjS κ)) (sHt (kjS κ)) (nI q))) (sr_1 hq)) cf_X3_string gL_isWell_X3_string rfl (fitD (Nat.le_of_ble_eq_true rfl) (Nat.le_of_ble_eq_true rfl)) rfl rfl (Nat.le_of_ble_eq_true rfl) dL_isWell_292 (fun q1 w1 hp => ?_)
    obtain ⟨rfl, rfl⟩ := hp
    refine g_idiv C dL_isWell_295 hW ?_
    refine g_icmp_ne_f C dL_isWell_296 354 (by decide) rfl ?_
    refine g_aload_n C dL_isWell_299 rfl rfl ?_
    refine g_iload C dL_isWell_300 rfl ?_
    refine g_iconst C (v := 2) dL_isWell_302 rfl ?_
    refine g_callK C kA_hd (k0_ifRead E A κ  (nI i) 2 (r := 0) e1) cf_X3_ifRead gL_isWell_X3_ifRead rfl (fitD (Nat.le_of_ble_eq_true rfl) (Nat.le_of_ble_eq_true rfl)) rfl rfl (Nat.le_of_ble_eq_true rfl) dL_isWell_303 (fun q1 w1 hp => ?_)
    obtain ⟨rfl, rfl⟩ := hp
    refine g_iconst C (v := 1) dL_isWell_306 rfl ?_
    refine g_icmp_ne_t C dL_isWell_307 (tgt := 314) (by decide) (by decide) ?_
    refine g_iconst C (v := 0) dL_isWell_314 rfl ?_
    refine g_aload_n C dL_isWell_315 rfl rfl ?_
    refine g_iload C dL_isWell_316 rfl ?_
    refine g_callK C kA_hd (k0_readsToCut E A κ  (nI i) (r := (rcR (sSt (kjS κ)) (sHt (kjS κ)) (windN (kjS κ)) (sCh (kjS κ)) (nI i))) rfl) cf_X3_readsToCut gL_isWell_X3_readsToCut rfl (fitD (Nat.le_of_ble_eq_true rfl) (Nat.le_of_ble_eq_true rfl)) rfl rfl (Nat.le_of_ble_eq_true rfl) dL_isWell_318 (fun q1 w1 hp => ?_)
    obtain ⟨rfl, rfl⟩ := hp
    refine g_iconst C (v := 1) dL_isWell_321 rfl ?_
    refine g_icmp_ne_t C dL_isWell_322 (tgt := 329) (by decide) e2 ?_
    refine g_iconst C (v := 0) dL_isWell_329 rfl ?_
    refine g_icmp_ne_f C dL_isWell_330 354 (by decide) (by decide) ?_
    refine g_aload_n C dL_isWell_333 rfl rfl ?_
    refine g_iload C dL_isWell_334 rfl ?_
    refine g_iconst C (v := 5) dL_isWell_336 rfl ?_
    refine g_callK C kA_hd (k0_kite E A κ  (nI i) 5 (r := (sCu (kjS κ) i)) ((kt_y hi hl 5).trans kg5)) cf_X3_kite gL_isWell_X3_kite rfl (fitD (Nat.le_of_ble_eq_true rfl) (Nat.le_of_ble_eq_true rfl)) rfl rfl (Nat.le_of_ble_eq_true rfl) dL_isWell_337 (fun q1 w1 hp => ?_)
    obtain ⟨rfl, rfl⟩ := hp
    refine g_aload_n C dL_isWell_340 rfl rfl ?_
    refine g_iload C dL_isWell_341 rfl ?_
    refine g_iconst C (v := 4) dL_isWell_343 rfl ?_
    refine g_callK C kA_hd (k0_kite E A κ  (nI i) 4 (r := (sRe (kjS κ) i)) ((kt_y hi hl 4).trans kg4)) cf_X3_kite gL_isWell_X3_kite rfl (fitD (Nat.le_of_ble_eq_true rfl) (Nat.le_of_ble_eq_true rfl)) rfl rfl (Nat.le_of_ble_eq_true rfl) dL_isWell_344 (fun q1 w1 hp => ?_)
    obtain ⟨rfl, rfl⟩ := hp
    refine g_icmp_gt_f C dL_isWell_347 354 (by decide) (w_rc hG hn i) ?_
    refine g_iconst C (v := 1) dL_isWell_350 rfl ?_
    refine g_goto C (tgt := 355) dL_isWell_351 (by decide) ?_
    refine g_istore C dL_isWell_355 (Nat.le_of_ble_eq_true rfl) rfl ?_
    exact wl_in hG hn hi hq hs hb K C R0
set_option maxHeartbeats 4000000 in
set_option maxRecDepth 100000 in
theorem wl_b {E : Ev} {x : Cx} {A : Ad} {n : Nat} {κ : KSt} (hG : gd n (kjS κ)) (hn : n ≤ 48) {i q b : Nat} (hi : i < 12) (hq : q < 4) (hs : sSt (kjS κ) i = nI q) (hb : sHt (kjS κ) i = nI b) {M1 M2 M3 : Int32} {a9 : Int32} (K : G E x (kA E A κ) [some (.ref A.1), some (.int M1), some (.int M2), some (.int M3), some (.int 0), some (.int 1), some (.int (nI i)), none, none, none, none, none] 409 []) (C : Ok E x cL_isWell RL wsL_isWell (rmD 9)) (R0 : RetI E x .boolean (pA E A 1 κ)) : G E x (kA E A κ) [some (.ref A.1), some (.int M1), some (.int M2), some (.int M3), some (.int 0), some (.int 1), some (.int (nI i)), some (.int (nI q)), some (.int (nI b)), some (.int a9), some (.int (hig (sSt (kjS κ)) (sHt (kjS κ)) (nI q) (nI b))), none] 206 [] := by
  rcases u_dn hG hi hq hs hb with ⟨e1, e2, e3⟩ | ⟨p, bp, e1, e2, e3, e4, e5⟩
  · rw [e1]
    refine g_iload C dL_isWell_206 rfl ?_
    refine g_sipush C (v := (-10005)) dL_isWell_208 rfl ?_
    refine g_icmp_ne_f C dL_isWell_211 249 (by decide) (by decide) ?_
    refine g_aload_n C dL_isWell_214 rfl rfl ?_
    refine g_iload C dL_isWell_215 rfl ?_
    refine g_iconst C (v := 3) dL_isWell_217 rfl ?_
    refine g_callK C kA_hd (k0_string E A κ  (nI q) 3 (r := (nI i)) e2) cf_X3_string gL_isWell_X3_string rfl (fitD (Nat.le_of_ble_eq_true rfl) (Nat.le_of_ble_eq_true rfl)) rfl rfl (Nat.le_of_ble_eq_true rfl) dL_isWell_218 (fun q1 w1 hp => ?_)
    obtain ⟨rfl, rfl⟩ := hp
    refine g_iload C dL_isWell_221 rfl ?_
    refine g_icmp_ne_f C dL_isWell_223 354 (by decide) rfl ?_
    refine g_aload_n C dL_isWell_226 rfl rfl ?_
    refine g_iload C dL_isWell_227 rfl ?_
    refine g_bipush C (v := 6) dL_isWell_229 rfl ?_
    refine g_callK C kA_hd (k0_kite E A κ  (nI i) 6 (r := ((aboutSR (kjS κ) (nI q) 0) - 1)) e3) cf_X3_kite gL_isWell_X3_kite rfl (fitD (Nat.le_of_ble_eq_true rfl) (Nat.le_of_ble_eq_true rfl)) rfl rfl (Nat.le_of_ble_eq_true rfl) dL_isWell_231 (fun q1 w1 hp => ?_)
    obtain ⟨rfl, rfl⟩ := hp
    refine g_aload_n C dL_isWell_234 rfl rfl ?_
    refine g_iload C dL_isWell_235 rfl ?_
    refine g_iconst C (v := 0) dL_isWell_237 rfl ?_
    refine g_callK C kA_hd (k0_string E A κ  (nI q) 0 (r := (aboutSR (kjS κ) (nI q) 0)) rfl) cf_X3_string gL_isWell_X3_string rfl (fitD (Nat.le_of_ble_eq_true rfl) (Nat.le_of_ble_eq_true rfl)) rfl rfl (Nat.le_of_ble_eq_true rfl) dL_isWell_238 (fun q1 w1 hp => ?_)
    obtain ⟨rfl, rfl⟩ := hp
    refine g_iconst C (v := 1) dL_isWell_241 rfl ?_
    refine g_isub C dL_isWell_242 ?_
    refine g_icmp_ne_f C dL_isWell_243 354 (by decide) rfl ?_
    refine g_goto C (tgt := 274) dL_isWell_246 (by decide) ?_
    exact wl_c hG hn hi hq hs hb K C R0
  · rw [e1]
    refine g_iload C dL_isWell_206 rfl ?_
    refine g_sipush C (v := (-10005)) dL_isWell_208 rfl ?_
    refine g_icmp_ne_t C dL_isWell_211 (tgt := 249) (by decide) e2 ?_
    refine g_aload_n C dL_isWell_249 rfl rfl ?_
    refine g_iload C dL_isWell_250 rfl ?_
    refine g_bipush C (v := 7) dL_isWell_252 rfl ?_
    refine g_callK C kA_hd (k0_kite E A κ  (nI p) 7 (r := (nI i)) e3) cf_X3_kite gL_isWell_X3_kite rfl (fitD (Nat.le_of_ble_eq_true rfl) (Nat.le_of_ble_eq_true rfl)) rfl rfl (Nat.le_of_ble_eq_true rfl) dL_isWell_254 (fun q1 w1 hp => ?_)
    obtain ⟨rfl, rfl⟩ := hp
    refine g_iload C dL_isWell_257 rfl ?_
    refine g_icmp_ne_f C dL_isWell_259 354 (by decide) rfl ?_
    refine g_aload_n C dL_isWell_262 rfl rfl ?_
    refine g_iload C dL_isWell_263 rfl ?_
    refine g_iconst C (v := 2) dL_isWell_265 rfl ?_
    refine g_callK C kA_hd (k0_kite E A κ  (nI p) 2 (r := (nI bp)) e4) cf_X3_kite gL_isWell_X3_kite rfl (fitD (Nat.le_of_ble_eq_true rfl) (Nat.le_of_ble_eq_true rfl)) rfl rfl (Nat.le_of_ble_eq_true rfl) dL_isWell_266 (fun q1 w1 hp => ?_)
    obtain ⟨rfl, rfl⟩ := hp
    refine g_iload C dL_isWell_269 rfl ?_
    refine g_icmp_ge_f C dL_isWell_271 354 (by decide) (i32_lt.mpr e5) ?_
    exact wl_c hG hn hi hq hs hb K C R0
set_option maxHeartbeats 4000000 in
set_option maxRecDepth 100000 in
theorem wl_a {E : Ev} {x : Cx} {A : Ad} {n : Nat} {κ : KSt} (hG : gd n (kjS κ)) (hn : n ≤ 48) {i : Nat} (hi : i < 12) (hl : ¬ sSt (kjS κ) i = -1) (K : G E x (kA E A κ) [some (.ref A.1), some (.int (sumN (liF (sSt (kjS κ))) (i + 1))), some (.int (sumN (wlF (kjS κ)) (i + 1))), some (.int (sumN (frF (sSt (kjS κ)) (sFr (kjS κ))) (i + 1))), some (.int 0), some (.int 1), some (.int (nI i)), none, none, none, none, none] 409 []) (C : Ok E x cL_isWell RL wsL_isWell (rmD 9)) (R0 : RetI E x .boolean (pA E A 1 κ)) : G E x (kA E A κ) [some (.ref A.1), some (.int (sumN (liF (sSt (kjS κ))) i)), some (.int (sumN (wlF (kjS κ)) i)), some (.int (sumN (frF (sSt (kjS κ)) (sFr (kjS κ))) i)), some (.int 0), some (.int 1), some (.int (nI i)), none, none, none, none, none] 40 [] := by
  obtain ⟨q, hq, hs⟩ := al_q hG.1 hl
  obtain ⟨b, hb9, hb⟩ := hG.1.2.1 i
  rw [ma_y hl, we_y hl, fr_y hl, hb] at K
  have hlv := w_lvl hG hi hl
  rw [hb] at hlv
  rcases u_up hG hi hq hs hb with ⟨e1, e2, e3⟩ | ⟨p, bp, e1, e2, e3, e4, e5, e6, e7⟩
  · have e9 : aboutKR (kjS κ) (nI i) 7 = -10005 := by rw [kt_y hi hl, kg7, hs, hb, e1]
    refine g_aload_n C dL_isWell_40 rfl rfl ?_
    refine g_iload C dL_isWell_41 rfl ?_
    refine g_iconst C (v := 1) dL_isWell_43 rfl ?_
    refine g_callK C kA_hd (k0_kite E A κ  (nI i) 1 (r := (nI q)) (((kt_y hi hl 1).trans kg1).trans hs)) cf_X3_kite gL_isWell_X3_kite rfl (fitD (Nat.le_of_ble_eq_true rfl) (Nat.le_of_ble_eq_true rfl)) rfl rfl (Nat.le_of_ble_eq_true rfl) dL_isWell_44 (fun q1 w1 hp => ?_)
    obtain ⟨rfl, rfl⟩ := hp
    refine g_istore C dL_isWell_47 (Nat.le_of_ble_eq_true rfl) rfl ?_
    refine g_aload_n C dL_isWell_49 rfl rfl ?_
    refine g_iload C dL_isWell_50 rfl ?_
    refine g_iconst C (v := 2) dL_isWell_52 rfl ?_
    refine g_callK C kA_hd (k0_kite E A κ  (nI i) 2 (r := (nI b)) (((kt_y hi hl 2).trans kg2).trans hb)) cf_X3_kite gL_isWell_X3_kite rfl (fitD (Nat.le_of_ble_eq_true rfl) (Nat.le_of_ble_eq_true rfl)) rfl rfl (Nat.le_of_ble_eq_true rfl) dL_isWell_53 (fun q1 w1 hp => ?_)
    obtain ⟨rfl, rfl⟩ := hp
    refine g_istore C dL_isWell_56 (Nat.le_of_ble_eq_true rfl) rfl ?_
    refine g_aload_n C dL_isWell_58 rfl rfl ?_
    refine g_iload C dL_isWell_59 rfl ?_
    refine g_bipush C (v := 7) dL_isWell_61 rfl ?_
    refine g_callK C kA_hd (k0_kite E A κ  (nI i) 7 (r := (-10005)) e9) cf_X3_kite gL_isWell_X3_kite rfl (fitD (Nat.le_of_ble_eq_true rfl) (Nat.le_of_ble_eq_true rfl)) rfl rfl (Nat.le_of_ble_eq_true rfl) dL_isWell_63 (fun q1 w1 hp => ?_)
    obtain ⟨rfl, rfl⟩ := hp
    refine g_istore C dL_isWell_66 (Nat.le_of_ble_eq_true rfl) rfl ?_
    show G E x (kA E A κ) [some (.ref A.1), some (.int (sumN (liF (sSt (kjS κ))) i)), some (.int (sumN (wlF (kjS κ)) i)), some (.int (sumN (frF (sSt (kjS κ)) (sFr (kjS κ))) i)), some (.int 0), some (.int 1), some (.int (nI i)), some (.int (nI q)), some (.int (nI b)), some (.int (-10005)), none, none] 68 []
    refine g_aload_n C dL_isWell_68 rfl rfl ?_
    refine g_iload C dL_isWell_69 rfl ?_
    refine g_bipush C (v := 8) dL_isWell_71 rfl ?_
    refine g_callK C kA_hd (k0_kite E A κ  (nI i) 8 (r := (hig (sSt (kjS κ)) (sHt (kjS κ)) (nI q) (nI b))) (by rw [kt_y hi hl, kg8, hs, hb])) cf_X3_kite gL_isWell_X3_kite rfl (fitD (Nat.le_of_ble_eq_true rfl) (Nat.le_of_ble_eq_true rfl)) rfl rfl (Nat.le_of_ble_eq_true rfl) dL_isWell_73 (fun q1 w1 hp => ?_)
    obtain ⟨rfl, rfl⟩ := hp
    refine g_istore C dL_isWell_76 (Nat.le_of_ble_eq_true rfl) rfl ?_
    refine g_iinc C (v := ((sumN (liF (sSt (kjS κ))) i) + 1)) dL_isWell_78 rfl rfl rfl ?_
    refine g_iload_n C dL_isWell_81 rfl rfl ?_
    refine g_iload C dL_isWell_82 rfl ?_
    refine g_iconst C (v := 1) dL_isWell_84 rfl ?_
    refine g_iadd C dL_isWell_85 ?_
    refine g_iadd C dL_isWell_86 ?_
    refine g_istore_n C dL_isWell_87 rfl (Nat.le_of_ble_eq_true rfl) rfl ?_
    refine g_iload_n C dL_isWell_88 rfl rfl ?_
    refine g_aload_n C dL_isWell_89 rfl rfl ?_
    refine g_iload C dL_isWell_90 rfl ?_
    refine g_iconst C (v := 3) dL_isWell_92 rfl ?_
    refine g_callK C kA_hd (k0_kite E A κ  (nI i) 3 (r := (if sFr (kjS κ) i = 0 then 0 else 1)) ((kt_y hi hl 3).trans kg3)) cf_X3_kite gL_isWell_X3_kite rfl (fitD (Nat.le_of_ble_eq_true rfl) (Nat.le_of_ble_eq_true rfl)) rfl rfl (Nat.le_of_ble_eq_true rfl) dL_isWell_93 (fun q1 w1 hp => ?_)
    obtain ⟨rfl, rfl⟩ := hp
    refine g_iadd C dL_isWell_96 ?_
    refine g_istore_n C dL_isWell_97 rfl (Nat.le_of_ble_eq_true rfl) rfl ?_
    show G E x (kA E A κ) [some (.ref A.1), some (.int ((sumN (liF (sSt (kjS κ))) i) + 1)), some (.int ((sumN (wlF (kjS κ)) i) + ((nI b) + 1))), some (.int ((sumN (frF (sSt (kjS κ)) (sFr (kjS κ))) i) + (if sFr (kjS κ) i = 0 then 0 else 1))), some (.int 0), some (.int 1), some (.int (nI i)), some (.int (nI q)), some (.int (nI b)), some (.int (-10005)), some (.int (hig (sSt (kjS κ)) (sHt (kjS κ)) (nI q) (nI b))), none] 98 []
    refine g_iload C dL_isWell_98 rfl ?_
    refine g_if_lt_f C dL_isWell_100 354 (by decide) (nI_pos (by omega)) ?_
    refine g_iload C dL_isWell_103 rfl ?_
    refine g_aload_n C dL_isWell_105 rfl rfl ?_
    refine g_bipush C (v := 6) dL_isWell_106 rfl ?_
    refine g_callK C kA_hd (k0_count E A κ  6 (r := (mxF (sSt (kjS κ)) (sHt (kjS κ)) 12)) cn6) cf_X3_count gL_isWell_X3_count rfl (fitD (Nat.le_of_ble_eq_true rfl) (Nat.le_of_ble_eq_true rfl)) rfl rfl (Nat.le_of_ble_eq_true rfl) dL_isWell_108 (fun q1 w1 hp => ?_)
    obtain ⟨rfl, rfl⟩ := hp
    refine g_icmp_gt_f C dL_isWell_111 354 (by decide) hlv ?_
    refine g_iload C dL_isWell_114 rfl ?_
    refine g_sipush C (v := (-10005)) dL_isWell_116 rfl ?_
    refine g_icmp_ne_f C dL_isWell_119 148 (by decide) (by decide) ?_
    refine g_aload_n C dL_isWell_122 rfl rfl ?_
    refine g_iload C dL_isWell_123 rfl ?_
    refine g_bipush C (v := 6) dL_isWell_125 rfl ?_
    refine g_callK C kA_hd (k0_kite E A κ  (nI i) 6 (r := 0) e2) cf_X3_kite gL_isWell_X3_kite rfl (fitD (Nat.le_of_ble_eq_true rfl) (Nat.le_of_ble_eq_true rfl)) rfl rfl (Nat.le_of_ble_eq_true rfl) dL_isWell_127 (fun q1 w1 hp => ?_)
    obtain ⟨rfl, rfl⟩ := hp
    refine g_if_ne_f C dL_isWell_130 354 (by decide) (by decide) ?_
    refine g_aload_n C dL_isWell_133 rfl rfl ?_
    refine g_iload C dL_isWell_134 rfl ?_
    refine g_iconst C (v := 2) dL_isWell_136 rfl ?_
    refine g_callK C kA_hd (k0_string E A κ  (nI q) 2 (r := (nI i)) e3) cf_X3_string gL_isWell_X3_string rfl (fitD (Nat.le_of_ble_eq_true rfl) (Nat.le_of_ble_eq_true rfl)) rfl rfl (Nat.le_of_ble_eq_true rfl) dL_isWell_137 (fun q1 w1 hp => ?_)
    obtain ⟨rfl, rfl⟩ := hp
    refine g_iload C dL_isWell_140 rfl ?_
    refine g_icmp_ne_f C dL_isWell_142 354 (by decide) rfl ?_
    refine g_goto C (tgt := 206) dL_isWell_145 (by decide) ?_
    exact wl_b hG hn hi hq hs hb K C R0
  · have e9 : aboutKR (kjS κ) (nI i) 7 = nI p := by rw [kt_y hi hl, kg7, hs, hb, e1]
    refine g_aload_n C dL_isWell_40 rfl rfl ?_
    refine g_iload C dL_isWell_41 rfl ?_
    refine g_iconst C (v := 1) dL_isWell_43 rfl ?_
    refine g_callK C kA_hd (k0_kite E A κ  (nI i) 1 (r := (nI q)) (((kt_y hi hl 1).trans kg1).trans hs)) cf_X3_kite gL_isWell_X3_kite rfl (fitD (Nat.le_of_ble_eq_true rfl) (Nat.le_of_ble_eq_true rfl)) rfl rfl (Nat.le_of_ble_eq_true rfl) dL_isWell_44 (fun q1 w1 hp => ?_)
    obtain ⟨rfl, rfl⟩ := hp
    refine g_istore C dL_isWell_47 (Nat.le_of_ble_eq_true rfl) rfl ?_
    refine g_aload_n C dL_isWell_49 rfl rfl ?_
    refine g_iload C dL_isWell_50 rfl ?_
    refine g_iconst C (v := 2) dL_isWell_52 rfl ?_
    refine g_callK C kA_hd (k0_kite E A κ  (nI i) 2 (r := (nI b)) (((kt_y hi hl 2).trans kg2).trans hb)) cf_X3_kite gL_isWell_X3_kite rfl (fitD (Nat.le_of_ble_eq_true rfl) (Nat.le_of_ble_eq_true rfl)) rfl rfl (Nat.le_of_ble_eq_true rfl) dL_isWell_53 (fun q1 w1 hp => ?_)
    obtain ⟨rfl, rfl⟩ := hp
    refine g_istore C dL_isWell_56 (Nat.le_of_ble_eq_true rfl) rfl ?_
    refine g_aload_n C dL_isWell_58 rfl rfl ?_
    refine g_iload C dL_isWell_59 rfl ?_
    refine g_bipush C (v := 7) dL_isWell_61 rfl ?_
    refine g_callK C kA_hd (k0_kite E A κ  (nI i) 7 (r := (nI p)) e9) cf_X3_kite gL_isWell_X3_kite rfl (fitD (Nat.le_of_ble_eq_true rfl) (Nat.le_of_ble_eq_true rfl)) rfl rfl (Nat.le_of_ble_eq_true rfl) dL_isWell_63 (fun q1 w1 hp => ?_)
    obtain ⟨rfl, rfl⟩ := hp
    refine g_istore C dL_isWell_66 (Nat.le_of_ble_eq_true rfl) rfl ?_
    show G E x (kA E A κ) [some (.ref A.1), some (.int (sumN (liF (sSt (kjS κ))) i)), some (.int (sumN (wlF (kjS κ)) i)), some (.int (sumN (frF (sSt (kjS κ)) (sFr (kjS κ))) i)), some (.int 0), some (.int 1), some (.int (nI i)), some (.int (nI q)), some (.int (nI b)), some (.int (nI p)), none, none] 68 []
    refine g_aload_n C dL_isWell_68 rfl rfl ?_
    refine g_iload C dL_isWell_69 rfl ?_
    refine g_bipush C (v := 8) dL_isWell_71 rfl ?_
    refine g_callK C kA_hd (k0_kite E A κ  (nI i) 8 (r := (hig (sSt (kjS κ)) (sHt (kjS κ)) (nI q) (nI b))) (by rw [kt_y hi hl, kg8, hs, hb])) cf_X3_kite gL_isWell_X3_kite rfl (fitD (Nat.le_of_ble_eq_true rfl) (Nat.le_of_ble_eq_true rfl)) rfl rfl (Nat.le_of_ble_eq_true rfl) dL_isWell_73 (fun q1 w1 hp => ?_)
    obtain ⟨rfl, rfl⟩ := hp
    refine g_istore C dL_isWell_76 (Nat.le_of_ble_eq_true rfl) rfl ?_
    refine g_iinc C (v := ((sumN (liF (sSt (kjS κ))) i) + 1)) dL_isWell_78 rfl rfl rfl ?_
    refine g_iload_n C dL_isWell_81 rfl rfl ?_
    refine g_iload C dL_isWell_82 rfl ?_
    refine g_iconst C (v := 1) dL_isWell_84 rfl ?_
    refine g_iadd C dL_isWell_85 ?_
    refine g_iadd C dL_isWell_86 ?_
    refine g_istore_n C dL_isWell_87 rfl (Nat.le_of_ble_eq_true rfl) rfl ?_
    refine g_iload_n C dL_isWell_88 rfl rfl ?_
    refine g_aload_n C dL_isWell_89 rfl rfl ?_
    refine g_iload C dL_isWell_90 rfl ?_
    refine g_iconst C (v := 3) dL_isWell_92 rfl ?_
    refine g_callK C kA_hd (k0_kite E A κ  (nI i) 3 (r := (if sFr (kjS κ) i = 0 then 0 else 1)) ((kt_y hi hl 3).trans kg3)) cf_X3_kite gL_isWell_X3_kite rfl (fitD (Nat.le_of_ble_eq_true rfl) (Nat.le_of_ble_eq_true rfl)) rfl rfl (Nat.le_of_ble_eq_true rfl) dL_isWell_93 (fun q1 w1 hp => ?_)
    obtain ⟨rfl, rfl⟩ := hp
    refine g_iadd C dL_isWell_96 ?_
    refine g_istore_n C dL_isWell_97 rfl (Nat.le_of_ble_eq_true rfl) rfl ?_
    show G E x (kA E A κ) [some (.ref A.1), some (.int ((sumN (liF (sSt (kjS κ))) i) + 1)), some (.int ((sumN (wlF (kjS κ)) i) + ((nI b) + 1))), some (.int ((sumN (frF (sSt (kjS κ)) (sFr (kjS κ))) i) + (if sFr (kjS κ) i = 0 then 0 else 1))), some (.int 0), some (.int 1), some (.int (nI i)), some (.int (nI q)), some (.int (nI b)), some (.int (nI p)), some (.int (hig (sSt (kjS κ)) (sHt (kjS κ)) (nI q) (nI b))), none] 98 []
    refine g_iload C dL_isWell_98 rfl ?_
    refine g_if_lt_f C dL_isWell_100 354 (by decide) (nI_pos (by omega)) ?_
    refine g_iload C dL_isWell_103 rfl ?_
    refine g_aload_n C dL_isWell_105 rfl rfl ?_
    refine g_bipush C (v := 6) dL_isWell_106 rfl ?_
    refine g_callK C kA_hd (k0_count E A κ  6 (r := (mxF (sSt (kjS κ)) (sHt (kjS κ)) 12)) cn6) cf_X3_count gL_isWell_X3_count rfl (fitD (Nat.le_of_ble_eq_true rfl) (Nat.le_of_ble_eq_true rfl)) rfl rfl (Nat.le_of_ble_eq_true rfl) dL_isWell_108 (fun q1 w1 hp => ?_)
    obtain ⟨rfl, rfl⟩ := hp
    refine g_icmp_gt_f C dL_isWell_111 354 (by decide) hlv ?_
    refine g_iload C dL_isWell_114 rfl ?_
    refine g_sipush C (v := (-10005)) dL_isWell_116 rfl ?_
    refine g_icmp_ne_t C dL_isWell_119 (tgt := 148) (by decide) e2 ?_
    refine g_aload_n C dL_isWell_148 rfl rfl ?_
    refine g_iload C dL_isWell_149 rfl ?_
    refine g_bipush C (v := 8) dL_isWell_151 rfl ?_
    refine g_callK C kA_hd (k0_kite E A κ  (nI p) 8 (r := (nI i)) e4) cf_X3_kite gL_isWell_X3_kite rfl (fitD (Nat.le_of_ble_eq_true rfl) (Nat.le_of_ble_eq_true rfl)) rfl rfl (Nat.le_of_ble_eq_true rfl) dL_isWell_153 (fun q1 w1 hp => ?_)
    obtain ⟨rfl, rfl⟩ := hp
    refine g_iload C dL_isWell_156 rfl ?_
    refine g_icmp_ne_f C dL_isWell_158 354 (by decide) rfl ?_
    refine g_aload_n C dL_isWell_161 rfl rfl ?_
    refine g_iload C dL_isWell_162 rfl ?_
    refine g_iconst C (v := 2) dL_isWell_164 rfl ?_
    refine g_callK C kA_hd (k0_kite E A κ  (nI p) 2 (r := (nI bp)) e5) cf_X3_kite gL_isWell_X3_kite rfl (fitD (Nat.le_of_ble_eq_true rfl) (Nat.le_of_ble_eq_true rfl)) rfl rfl (Nat.le_of_ble_eq_true rfl) dL_isWell_165 (fun q1 w1 hp => ?_)
    obtain ⟨rfl, rfl⟩ := hp
    refine g_iload C dL_isWell_168 rfl ?_
    refine g_icmp_le_f C dL_isWell_170 354 (by decide) (i32_lt.mpr e3) ?_
    refine g_aload_n C dL_isWell_173 rfl rfl ?_
    refine g_iload C dL_isWell_174 rfl ?_
    refine g_iconst C (v := 1) dL_isWell_176 rfl ?_
    refine g_callK C kA_hd (k0_kite E A κ  (nI p) 1 (r := (nI q)) e6) cf_X3_kite gL_isWell_X3_kite rfl (fitD (Nat.le_of_ble_eq_true rfl) (Nat.le_of_ble_eq_true rfl)) rfl rfl (Nat.le_of_ble_eq_true rfl) dL_isWell_177 (fun q1 w1 hp => ?_)
    obtain ⟨rfl, rfl⟩ := hp
    refine g_iload C dL_isWell_180 rfl ?_
    refine g_icmp_ne_f C dL_isWell_182 354 (by decide) rfl ?_
    refine g_aload_n C dL_isWell_185 rfl rfl ?_
    refine g_iload C dL_isWell_186 rfl ?_
    refine g_bipush C (v := 6) dL_isWell_188 rfl ?_
    refine g_callK C kA_hd (k0_kite E A κ  (nI p) 6 (r := ((aboutKR (kjS κ) (nI i) 6) - 1)) e7) cf_X3_kite gL_isWell_X3_kite rfl (fitD (Nat.le_of_ble_eq_true rfl) (Nat.le_of_ble_eq_true rfl)) rfl rfl (Nat.le_of_ble_eq_true rfl) dL_isWell_190 (fun q1 w1 hp => ?_)
    obtain ⟨rfl, rfl⟩ := hp
    refine g_aload_n C dL_isWell_193 rfl rfl ?_
    refine g_iload C dL_isWell_194 rfl ?_
    refine g_bipush C (v := 6) dL_isWell_196 rfl ?_
    refine g_callK C kA_hd (k0_kite E A κ  (nI i) 6 (r := (aboutKR (kjS κ) (nI i) 6)) rfl) cf_X3_kite gL_isWell_X3_kite rfl (fitD (Nat.le_of_ble_eq_true rfl) (Nat.le_of_ble_eq_true rfl)) rfl rfl (Nat.le_of_ble_eq_true rfl) dL_isWell_198 (fun q1 w1 hp => ?_)
    obtain ⟨rfl, rfl⟩ := hp
    refine g_iconst C (v := 1) dL_isWell_201 rfl ?_
    refine g_isub C dL_isWell_202 ?_
    refine g_icmp_ne_f C dL_isWell_203 354 (by decide) rfl ?_
    exact wl_b hG hn hi hq hs hb K C R0
set_option maxHeartbeats 4000000 in
set_option maxRecDepth 100000 in
theorem wl_all {E : Ev} {x : Cx} {A : Ad} {n : Nat} {κ : KSt} (hG : gd n (kjS κ)) (hn : n ≤ 48) (C : Ok E x cL_isWell RL wsL_isWell (rmD 9)) (R0 : RetI E x .boolean (pA E A 1 κ)) : G E x (kA E A κ) [some (.ref A.1), none, none, none, none, none, none, none, none, none, none, none] 0 [] := by
  have lp : ∀ (m i : Nat), 12 - i < m → i ≤ 12 → G E x (kA E A κ) [some (.ref A.1), some (.int (sumN (liF (sSt (kjS κ))) i)), some (.int (sumN (wlF (kjS κ)) i)), some (.int (sumN (frF (sSt (kjS κ)) (sFr (kjS κ))) i)), some (.int 0), some (.int 1), some (.int (nI i)), none, none, none, none, none] 15 [] := by
    intro m
    induction m with
    | zero => intro i h1; omega
    | succ m ih =>
      intro i h1 h2
      refine g_iload C dL_isWell_15 rfl ?_
      refine g_bipush C (v := 12) dL_isWell_17 rfl ?_
      refine g_icmp_ge C (tgt := 415) dL_isWell_19 (by decide) (fun hc_19 => ?_) (fun hc_19 => ?_)
      · have hn_19 : (12) ≤ (i) := (nI_leI (a := (12)) (b := (i)) (by omega) (by omega)).mp hc_19
        obtain rfl : i = 12 := by omega
        exact wl_end hG hn C R0
      · have hn_19 : ¬ (12) ≤ (i) := fun z => hc_19 ((nI_leI (a := (12)) (b := (i)) (by omega) (by omega)).mpr z)
        refine g_iload C dL_isWell_22 rfl ?_
        refine g_if_eq_f C dL_isWell_24 415 (by decide) (by decide) ?_
        by_cases hl : sSt (kjS κ) i = -1
        · have this := ih (i + 1) (by omega) (by omega)
          rw [ma_n hl, we_n hl, fr_n hl] at this
          refine g_aload_n C dL_isWell_27 rfl rfl ?_
          refine g_iload C dL_isWell_28 rfl ?_
          refine g_iconst C (v := 0) dL_isWell_30 rfl ?_
          refine g_callK C kA_hd (k0_kite E A κ  (nI i) 0 (r := (-10001)) (kt_n (by omega) hl 0)) cf_X3_kite gL_isWell_X3_kite rfl (fitD (Nat.le_of_ble_eq_true rfl) (Nat.le_of_ble_eq_true rfl)) rfl rfl (Nat.le_of_ble_eq_true rfl) dL_isWell_31 (fun q1 w1 hp => ?_)
          obtain ⟨rfl, rfl⟩ := hp
          refine g_sipush C (v := (-10001)) dL_isWell_34 rfl ?_
          refine g_icmp_eq_t C dL_isWell_37 (tgt := 409) (by decide) (by decide) ?_
          refine g_iinc C (v := (nI (i + 1))) dL_isWell_409 rfl rfl (nI_add (i) 1) ?_
          refine g_goto C (tgt := 15) dL_isWell_412 (by decide) ?_
          exact this
        · have K : G E x (kA E A κ) [some (.ref A.1), some (.int (sumN (liF (sSt (kjS κ))) (i + 1))), some (.int (sumN (wlF (kjS κ)) (i + 1))), some (.int (sumN (frF (sSt (kjS κ)) (sFr (kjS κ))) (i + 1))), some (.int 0), some (.int 1), some (.int (nI i)), none, none, none, none, none] 409 [] := by
            refine g_iinc C (v := (nI (i + 1))) dL_isWell_409 rfl rfl (nI_add (i) 1) ?_
            refine g_goto C (tgt := 15) dL_isWell_412 (by decide) ?_
            exact ih (i + 1) (by omega) (by omega)
          refine g_aload_n C dL_isWell_27 rfl rfl ?_
          refine g_iload C dL_isWell_28 rfl ?_
          refine g_iconst C (v := 0) dL_isWell_30 rfl ?_
          refine g_callK C kA_hd (k0_kite E A κ  (nI i) 0 (r := (sNu (kjS κ) i)) ((kt_y (by omega) hl 0).trans kg0)) cf_X3_kite gL_isWell_X3_kite rfl (fitD (Nat.le_of_ble_eq_true rfl) (Nat.le_of_ble_eq_true rfl)) rfl rfl (Nat.le_of_ble_eq_true rfl) dL_isWell_31 (fun q1 w1 hp => ?_)
          obtain ⟨rfl, rfl⟩ := hp
          refine g_sipush C (v := (-10001)) dL_isWell_34 rfl ?_
          refine g_icmp_eq_f C dL_isWell_37 409 (by decide) (nN_U (hG.1.2.2.2.2.1 i)) ?_
          exact wl_a hG hn (by omega) hl K C R0
  refine g_iconst C (v := 0) dL_isWell_0 rfl ?_
  refine g_istore_n C dL_isWell_1 rfl (Nat.le_of_ble_eq_true rfl) rfl ?_
  refine g_iconst C (v := 0) dL_isWell_2 rfl ?_
  refine g_istore_n C dL_isWell_3 rfl (Nat.le_of_ble_eq_true rfl) rfl ?_
  refine g_iconst C (v := 0) dL_isWell_4 rfl ?_
  refine g_istore_n C dL_isWell_5 rfl (Nat.le_of_ble_eq_true rfl) rfl ?_
  show G E x (kA E A κ) [some (.ref A.1), some (.int 0), some (.int 0), some (.int 0), none, none, none, none, none, none, none, none] 6 []
  refine g_iconst C (v := 0) dL_isWell_6 rfl ?_
  refine g_istore C dL_isWell_7 (Nat.le_of_ble_eq_true rfl) rfl ?_
  refine g_iconst C (v := 1) dL_isWell_9 rfl ?_
  refine g_istore C dL_isWell_10 (Nat.le_of_ble_eq_true rfl) rfl ?_
  refine g_iconst C (v := 0) dL_isWell_12 rfl ?_
  refine g_istore C dL_isWell_13 (Nat.le_of_ble_eq_true rfl) rfl ?_
  show G E x (kA E A κ) [some (.ref A.1), some (.int 0), some (.int 0), some (.int 0), some (.int 0), some (.int 1), some (.int 0), none, none, none, none, none] 15 []
  exact lp 13 0 (by omega) (by omega)
theorem c_L_isWell (E : Ev) (A : Ad) {n : Nat} {κ : KSt} (hG : gd n (kjS κ)) (hn : n ≤ 48) : MI E yL_isWell wsL_isWell (rmD 9) (kA E A κ) [.ref A.1] (pA E A 1 κ) := by
  refine MI.of (cc := cL_isWell) (nL := 12) (ty := .boolean) (own := RL) [some (.ref A.1), none, none, none, none, none, none, none, none, none, none, none] (by decide +kernel) rfl rfl (Nat.le_of_ble_eq_true rfl) rfl rfl ?_
  intro x C R0
  exact wl_all hG hn C R0
