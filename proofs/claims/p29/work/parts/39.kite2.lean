theorem g_pm {E : Ev} {x : Cx} {ws ws' : va_W} {lv : List (Option Value)} {pc : Nat} {st : List Value} (h : ws.Perm ws') (k : G E x ws' lv pc st) : G E x ws lv pc st := by
  obtain ⟨p, e, R, s, m, args, below, meth, c, A, nL, Q⟩ := x
  intro H locs ls hP hD hS hl hnL
  exact k H locs ls (P_perm h hP) (D_perm h hD) hS hl hnL
set_option maxHeartbeats 4000000 in
set_option maxRecDepth 100000 in
theorem c_X3_kite (E : Ev) (x : Nat) (h : Nat → Nat) (a : Nat → Nat → Nat) (o r s : Nat) (sa : Nat → Nat) (κ : KSt) (k w : Int32) : MI E yX3_kite wsX3_kite (rmD 2) (kW E x h a o r s sa κ) [.ref x, .int k, .int w] (pE (aboutKR (kjS κ) k w) (kW E x h a o r s sa κ)) := by
  have inX3 : ∀ w ∈ u_ws RX3 TX3 9, w ∈ wsX3_kite := by decide +kernel
  have f10 : Cond.fieldLink RX3 10 (TX3 0).1 (TX3 0).2.1 (TX3 0).2.2.1 ∈ wsX3_kite := by decide +kernel
  have hi_X2_aboutKite : Cond.instanceMethod yX2_aboutKite ∈ wsX3_kite := by decide +kernel
  have hs_X2_aboutKite : Cond.selects RX2 yX2_aboutKite yX2_aboutKite ∈ wsX3_kite := by decide +kernel
  have hn_X2 : Cond.initialized yX2_aboutKite.cls ∈ wsX3_kite := by decide +kernel
  refine MI.of (cc := cX3_kite) (nL := 3) (ty := .int) (own := RX3) [some (.ref x), some (.int k), some (.int w)] (by decide +kernel) rfl rfl (Nat.le_of_ble_eq_true rfl) rfl rfl ?_
  intro x1 C R0
  refine g_aload_n C dX3_kite_0 rfl rfl ?_
  refine g_get C inX3 0 rfl rfl 0 (by decide) f10 rfl dX3_kite_1 ?_
  refine g_iload_n C dX3_kite_4 rfl rfl ?_
  refine g_iload_n C dX3_kite_5 rfl rfl ?_
  have hM := MI.to (P := (fun q => q = (aboutKR (kjS κ) k w))) (u := (skyW E (h 0) (a 0) (kjS κ))) (c_X2_aboutKite E (h 0) (a 0) (kjS κ) k w) (List.flatten (List.map (kF E x h a o r s sa κ) [0, 2, 3, 4, 5, 6, 7, 8, 9, 10])) (kW E x h a o r s sa κ) (kW E x h a o r s sa κ) (pmB2 (f := (kF E x h a o r s sa κ)) (is := [1]) (ks := [0, 1, 2, 3, 4, 5, 6, 7, 8, 9, 10]) (by decide)) (pmB2 (f := (kF E x h a o r s sa κ)) (is := [1]) (js := [0, 2, 3, 4, 5, 6, 7, 8, 9, 10]) (ks := [0, 1, 2, 3, 4, 5, 6, 7, 8, 9, 10]) (by decide))
  refine g_calliNF C 1 rfl rfl hM cf_X2_aboutKite ggX3_kite_X2_aboutKite (List.mem_of_getElem? (i := 4) rfl) hi_X2_aboutKite hs_X2_aboutKite hn_X2 (fitD (Nat.le_of_ble_eq_true rfl) (Nat.le_of_ble_eq_true rfl)) rfl rfl (Nat.le_of_ble_eq_true rfl) dX3_kite_6 (fun q1 w1 hp => ?_)
  obtain ⟨rfl, rfl⟩ := hp
  refine g_iret C R0 dX3_kite_9 ?_
  exact pE_mk rfl rfl
set_option maxHeartbeats 4000000 in
set_option maxRecDepth 100000 in
theorem c_X3_string (E : Ev) (x : Nat) (h : Nat → Nat) (a : Nat → Nat → Nat) (o r s : Nat) (sa : Nat → Nat) (κ : KSt) (k w : Int32) : MI E yX3_string wsX3_string (rmD 2) (kW E x h a o r s sa κ) [.ref x, .int k, .int w] (pE (aboutSR (kjS κ) k w) (kW E x h a o r s sa κ)) := by
  have inX3 : ∀ w ∈ u_ws RX3 TX3 9, w ∈ wsX3_string := by decide +kernel
  have f10 : Cond.fieldLink RX3 10 (TX3 0).1 (TX3 0).2.1 (TX3 0).2.2.1 ∈ wsX3_string := by decide +kernel
  have hi_X2_aboutString : Cond.instanceMethod yX2_aboutString ∈ wsX3_string := by decide +kernel
  have hs_X2_aboutString : Cond.selects RX2 yX2_aboutString yX2_aboutString ∈ wsX3_string := by decide +kernel
  have hn_X2 : Cond.initialized yX2_aboutString.cls ∈ wsX3_string := by decide +kernel
  refine MI.of (cc := cX3_string) (nL := 3) (ty := .int) (own := RX3) [some (.ref x), some (.int k), some (.int w)] (by decide +kernel) rfl rfl (Nat.le_of_ble_eq_true rfl) rfl rfl ?_
  intro x1 C R0
  refine g_aload_n C dX3_string_0 rfl rfl ?_
  refine g_get C inX3 0 rfl rfl 0 (by decide) f10 rfl dX3_string_1 ?_
  refine g_iload_n C dX3_string_4 rfl rfl ?_
  refine g_iload_n C dX3_string_5 rfl rfl ?_
  have hM := MI.to (P := (fun q => q = (aboutSR (kjS κ) k w))) (u := (skyW E (h 0) (a 0) (kjS κ))) (c_X2_aboutString E (h 0) (a 0) (kjS κ) k w) (List.flatten (List.map (kF E x h a o r s sa κ) [0, 2, 3, 4, 5, 6, 7, 8, 9, 10])) (kW E x h a o r s sa κ) (kW E x h a o r s sa κ) (pmB2 (f := (kF E x h a o r s sa κ)) (is := [1]) (ks := [0, 1, 2, 3, 4, 5, 6, 7, 8, 9, 10]) (by decide)) (pmB2 (f := (kF E x h a o r s sa κ)) (is := [1]) (js := [0, 2, 3, 4, 5, 6, 7, 8, 9, 10]) (ks := [0, 1, 2, 3, 4, 5, 6, 7, 8, 9, 10]) (by decide))
  refine g_calliNF C 1 rfl rfl hM cf_X2_aboutString ggX3_string_X2_aboutString (List.mem_of_getElem? (i := 33) rfl) hi_X2_aboutString hs_X2_aboutString hn_X2 (fitD (Nat.le_of_ble_eq_true rfl) (Nat.le_of_ble_eq_true rfl)) rfl rfl (Nat.le_of_ble_eq_true rfl) dX3_string_6 (fun q1 w1 hp => ?_)
  obtain ⟨rfl, rfl⟩ := hp
  refine g_iret C R0 dX3_string_9 ?_
  exact pE_mk rfl rfl
set_option maxHeartbeats 4000000 in
set_option maxRecDepth 100000 in
theorem c_X3_drawn (E : Ev) (x : Nat) (h : Nat → Nat) (a : Nat → Nat → Nat) (o r s : Nat) (sa : Nat → Nat) (κ : KSt) (k w : Int32) : MI E yX3_drawn wsX3_drawn (rmD 2) (kW E x h a o r s sa κ) [.ref x, .int k, .int w] (pE (drawR (sSt (kjS κ)) (sHt (kjS κ)) k w) (kW E x h a o r s sa κ)) := by
  have inX3 : ∀ w ∈ u_ws RX3 TX3 9, w ∈ wsX3_drawn := by decide +kernel
  have f10 : Cond.fieldLink RX3 10 (TX3 0).1 (TX3 0).2.1 (TX3 0).2.2.1 ∈ wsX3_drawn := by decide +kernel
  have hi_X2_kiteAtPoint : Cond.instanceMethod yX2_kiteAtPoint ∈ wsX3_drawn := by decide +kernel
  have hs_X2_kiteAtPoint : Cond.selects RX2 yX2_kiteAtPoint yX2_kiteAtPoint ∈ wsX3_drawn := by decide +kernel
  have hn_X2 : Cond.initialized yX2_kiteAtPoint.cls ∈ wsX3_drawn := by decide +kernel
  refine MI.of (cc := cX3_drawn) (nL := 3) (ty := .int) (own := RX3) [some (.ref x), some (.int k), some (.int w)] (by decide +kernel) rfl rfl (Nat.le_of_ble_eq_true rfl) rfl rfl ?_
  intro x1 C R0
  refine g_aload_n C dX3_drawn_0 rfl rfl ?_
  refine g_get C inX3 0 rfl rfl 0 (by decide) f10 rfl dX3_drawn_1 ?_
  refine g_iload_n C dX3_drawn_4 rfl rfl ?_
  refine g_iload_n C dX3_drawn_5 rfl rfl ?_
  have hM := MI.to (P := (fun q => q = (drawR (sSt (kjS κ)) (sHt (kjS κ)) k w))) (u := (skyW E (h 0) (a 0) (kjS κ))) (c_X2_kiteAtPoint E (h 0) (a 0) (kjS κ) k w) (List.flatten (List.map (kF E x h a o r s sa κ) [0, 2, 3, 4, 5, 6, 7, 8, 9, 10])) (kW E x h a o r s sa κ) (kW E x h a o r s sa κ) (pmB2 (f := (kF E x h a o r s sa κ)) (is := [1]) (ks := [0, 1, 2, 3, 4, 5, 6, 7, 8, 9, 10]) (by decide)) (pmB2 (f := (kF E x h a o r s sa κ)) (is := [1]) (js := [0, 2, 3, 4, 5, 6, 7, 8, 9, 10]) (ks := [0, 1, 2, 3, 4, 5, 6, 7, 8, 9, 10]) (by decide))
  refine g_calliNF C 1 rfl rfl hM cf_X2_kiteAtPoint ggX3_drawn_X2_kiteAtPoint (List.mem_of_getElem? (i := 34) rfl) hi_X2_kiteAtPoint hs_X2_kiteAtPoint hn_X2 (fitD (Nat.le_of_ble_eq_true rfl) (Nat.le_of_ble_eq_true rfl)) rfl rfl (Nat.le_of_ble_eq_true rfl) dX3_drawn_6 (fun q1 w1 hp => ?_)
  obtain ⟨rfl, rfl⟩ := hp
  refine g_iret C R0 dX3_drawn_9 ?_
  exact pE_mk rfl rfl
set_option maxHeartbeats 4000000 in
set_option maxRecDepth 100000 in
theorem c_X3_share (E : Ev) (x : Nat) (h : Nat → Nat) (a : Nat → Nat → Nat) (o r s : Nat) (sa : Nat → Nat) (κ : KSt) (k : Int32) : MI E yX3_share wsX3_share (rmD 2) (kW E x h a o r s sa κ) [.ref x, .int k] (pE (shaR (sSt (kjS κ)) (sHt (kjS κ)) k) (kW E x h a o r s sa κ)) := by
  have inX3 : ∀ w ∈ u_ws RX3 TX3 9, w ∈ wsX3_share := by decide +kernel
  have f10 : Cond.fieldLink RX3 10 (TX3 0).1 (TX3 0).2.1 (TX3 0).2.2.1 ∈ wsX3_share := by decide +kernel
  have hi_X2_thousandthsOf : Cond.instanceMethod yX2_thousandthsOf ∈ wsX3_share := by decide +kernel
  have hs_X2_thousandthsOf : Cond.selects RX2 yX2_thousandthsOf yX2_thousandthsOf ∈ wsX3_share := by decide +kernel
  have hn_X2 : Cond.initialized yX2_thousandthsOf.cls ∈ wsX3_share := by decide +kernel
  refine MI.of (cc := cX3_share) (nL := 2) (ty := .int) (own := RX3) [some (.ref x), some (.int k)] (by decide +kernel) rfl rfl (Nat.le_of_ble_eq_true rfl) rfl rfl ?_
  intro x1 C R0
  refine g_aload_n C dX3_share_0 rfl rfl ?_
  refine g_get C inX3 0 rfl rfl 0 (by decide) f10 rfl dX3_share_1 ?_
  refine g_iload_n C dX3_share_4 rfl rfl ?_
  have hM := MI.to (P := (fun q => q = (shaR (sSt (kjS κ)) (sHt (kjS κ)) k))) (u := (skyW E (h 0) (a 0) (kjS κ))) (c_X2_thousandthsOf E (h 0) (a 0) (kjS κ) k) (List.flatten (List.map (kF E x h a o r s sa κ) [0, 2, 3, 4, 5, 6, 7, 8, 9, 10])) (kW E x h a o r s sa κ) (kW E x h a o r s sa κ) (pmB2 (f := (kF E x h a o r s sa κ)) (is := [1]) (ks := [0, 1, 2, 3, 4, 5, 6, 7, 8, 9, 10]) (by decide)) (pmB2 (f := (kF E x h a o r s sa κ)) (is := [1]) (js := [0, 2, 3, 4, 5, 6, 7, 8, 9, 10]) (ks := [0, 1, 2, 3, 4, 5, 6, 7, 8, 9, 10]) (by decide))
  refine g_calliNF C 1 rfl rfl hM cf_X2_thousandthsOf ggX3_share_X2_thousandthsOf (List.mem_of_getElem? (i := 30) rfl) hi_X2_thousandthsOf hs_X2_thousandthsOf hn_X2 (fitD (Nat.le_of_ble_eq_true rfl) (Nat.le_of_ble_eq_true rfl)) rfl rfl (Nat.le_of_ble_eq_true rfl) dX3_share_5 (fun q1 w1 hp => ?_)
  obtain ⟨rfl, rfl⟩ := hp
  refine g_iret C R0 dX3_share_8 ?_
  exact pE_mk rfl rfl
set_option maxHeartbeats 4000000 in
set_option maxRecDepth 100000 in
theorem c_X3_windOf (E : Ev) (x : Nat) (h : Nat → Nat) (a : Nat → Nat → Nat) (o r s : Nat) (sa : Nat → Nat) (κ : KSt) (k : Int32) : MI E yX3_windOf wsX3_windOf (rmD 2) (kW E x h a o r s sa κ) [.ref x, .int k] (pE (windAR (kjS κ) k) (kW E x h a o r s sa κ)) := by
  have inX3 : ∀ w ∈ u_ws RX3 TX3 9, w ∈ wsX3_windOf := by decide +kernel
  have f10 : Cond.fieldLink RX3 10 (TX3 0).1 (TX3 0).2.1 (TX3 0).2.2.1 ∈ wsX3_windOf := by decide +kernel
  have hi_X2_windAt : Cond.instanceMethod yX2_windAt ∈ wsX3_windOf := by decide +kernel
  have hs_X2_windAt : Cond.selects RX2 yX2_windAt yX2_windAt ∈ wsX3_windOf := by decide +kernel
  have hn_X2 : Cond.initialized yX2_windAt.cls ∈ wsX3_windOf := by decide +kernel
  refine MI.of (cc := cX3_windOf) (nL := 2) (ty := .int) (own := RX3) [some (.ref x), some (.int k)] (by decide +kernel) rfl rfl (Nat.le_of_ble_eq_true rfl) rfl rfl ?_
  intro x1 C R0
  refine g_aload_n C dX3_windOf_0 rfl rfl ?_
  refine g_get C inX3 0 rfl rfl 0 (by decide) f10 rfl dX3_windOf_1 ?_
  refine g_iload_n C dX3_windOf_4 rfl rfl ?_
  have hM := MI.to (P := (fun q => q = (windAR (kjS κ) k))) (u := (skyW E (h 0) (a 0) (kjS κ))) (c_X2_windAt E (h 0) (a 0) (kjS κ) k) (List.flatten (List.map (kF E x h a o r s sa κ) [0, 2, 3, 4, 5, 6, 7, 8, 9, 10])) (kW E x h a o r s sa κ) (kW E x h a o r s sa κ) (pmB2 (f := (kF E x h a o r s sa κ)) (is := [1]) (ks := [0, 1, 2, 3, 4, 5, 6, 7, 8, 9, 10]) (by decide)) (pmB2 (f := (kF E x h a o r s sa κ)) (is := [1]) (js := [0, 2, 3, 4, 5, 6, 7, 8, 9, 10]) (ks := [0, 1, 2, 3, 4, 5, 6, 7, 8, 9, 10]) (by decide))
  refine g_calliNF C 1 rfl rfl hM cf_X2_windAt ggX3_windOf_X2_windAt (List.mem_of_getElem? (i := 27) rfl) hi_X2_windAt hs_X2_windAt hn_X2 (fitD (Nat.le_of_ble_eq_true rfl) (Nat.le_of_ble_eq_true rfl)) rfl rfl (Nat.le_of_ble_eq_true rfl) dX3_windOf_5 (fun q1 w1 hp => ?_)
  obtain ⟨rfl, rfl⟩ := hp
  refine g_iret C R0 dX3_windOf_8 ?_
  exact pE_mk rfl rfl
set_option maxHeartbeats 4000000 in
set_option maxRecDepth 100000 in
theorem c_X3_ifRead (E : Ev) (x : Nat) (h : Nat → Nat) (a : Nat → Nat → Nat) (o r s : Nat) (sa : Nat → Nat) (κ : KSt) (k w : Int32) : MI E yX3_ifRead wsX3_ifRead (rmD 4) (kW E x h a o r s sa κ) [.ref x, .int k, .int w] (pE (aboutRR (kjS κ) k w) (kW E x h a o r s sa κ)) := by
  have inX3 : ∀ w ∈ u_ws RX3 TX3 9, w ∈ wsX3_ifRead := by decide +kernel
  have f10 : Cond.fieldLink RX3 10 (TX3 0).1 (TX3 0).2.1 (TX3 0).2.2.1 ∈ wsX3_ifRead := by decide +kernel
  have hi_X2_aboutReading : Cond.instanceMethod yX2_aboutReading ∈ wsX3_ifRead := by decide +kernel
  have hs_X2_aboutReading : Cond.selects RX2 yX2_aboutReading yX2_aboutReading ∈ wsX3_ifRead := by decide +kernel
  have hn_X2 : Cond.initialized yX2_aboutReading.cls ∈ wsX3_ifRead := by decide +kernel
  refine MI.of (cc := cX3_ifRead) (nL := 3) (ty := .int) (own := RX3) [some (.ref x), some (.int k), some (.int w)] (by decide +kernel) rfl rfl (Nat.le_of_ble_eq_true rfl) rfl rfl ?_
  intro x1 C R0
  refine g_aload_n C dX3_ifRead_0 rfl rfl ?_
  refine g_get C inX3 0 rfl rfl 0 (by decide) f10 rfl dX3_ifRead_1 ?_
  refine g_iload_n C dX3_ifRead_4 rfl rfl ?_
  refine g_iload_n C dX3_ifRead_5 rfl rfl ?_
  have hM := MI.to (P := (fun q => q = (aboutRR (kjS κ) k w))) (u := (skyW E (h 0) (a 0) (kjS κ))) (c_X2_aboutReading E (h 0) (a 0) (kjS κ) k w) (List.flatten (List.map (kF E x h a o r s sa κ) [0, 2, 3, 4, 5, 6, 7, 8, 9, 10])) (kW E x h a o r s sa κ) (kW E x h a o r s sa κ) (pmB2 (f := (kF E x h a o r s sa κ)) (is := [1]) (ks := [0, 1, 2, 3, 4, 5, 6, 7, 8, 9, 10]) (by decide)) (pmB2 (f := (kF E x h a o r s sa κ)) (is := [1]) (js := [0, 2, 3, 4, 5, 6, 7, 8, 9, 10]) (ks := [0, 1, 2, 3, 4, 5, 6, 7, 8, 9, 10]) (by decide))
  refine g_calliNF C 1 rfl rfl hM cf_X2_aboutReading ggX3_ifRead_X2_aboutReading (List.mem_of_getElem? (i := 21) rfl) hi_X2_aboutReading hs_X2_aboutReading hn_X2 (fitD (Nat.le_of_ble_eq_true rfl) (Nat.le_of_ble_eq_true rfl)) rfl rfl (Nat.le_of_ble_eq_true rfl) dX3_ifRead_6 (fun q1 w1 hp => ?_)
  obtain ⟨rfl, rfl⟩ := hp
  refine g_iret C R0 dX3_ifRead_9 ?_
  exact pE_mk rfl rfl
set_option maxHeartbeats 4000000 in
set_option maxRecDepth 100000 in
theorem c_X3_readsToCut (E : Ev) (x : Nat) (h : Nat → Nat) (a : Nat → Nat → Nat) (o r s : Nat) (sa : Nat → Nat) (κ : KSt) (k : Int32) : MI E yX3_readsToCut wsX3_readsToCut (rmD 4) (kW E x h a o r s sa κ) [.ref x, .int k] (pE (rcR (sSt (kjS κ)) (sHt (kjS κ)) (windN (kjS κ)) (sCh (kjS κ)) k) (kW E x h a o r s sa κ)) := by
  have inX3 : ∀ w ∈ u_ws RX3 TX3 9, w ∈ wsX3_readsToCut := by decide +kernel
  have f10 : Cond.fieldLink RX3 10 (TX3 0).1 (TX3 0).2.1 (TX3 0).2.2.1 ∈ wsX3_readsToCut := by decide +kernel
  have hi_X2_readingsUntilCut : Cond.instanceMethod yX2_readingsUntilCut ∈ wsX3_readsToCut := by decide +kernel
  have hs_X2_readingsUntilCut : Cond.selects RX2 yX2_readingsUntilCut yX2_readingsUntilCut ∈ wsX3_readsToCut := by decide +kernel
  have hn_X2 : Cond.initialized yX2_readingsUntilCut.cls ∈ wsX3_readsToCut := by decide +kernel
  refine MI.of (cc := cX3_readsToCut) (nL := 2) (ty := .int) (own := RX3) [some (.ref x), some (.int k)] (by decide +kernel) rfl rfl (Nat.le_of_ble_eq_true rfl) rfl rfl ?_
  intro x1 C R0
  refine g_aload_n C dX3_readsToCut_0 rfl rfl ?_
  refine g_get C inX3 0 rfl rfl 0 (by decide) f10 rfl dX3_readsToCut_1 ?_
  refine g_iload_n C dX3_readsToCut_4 rfl rfl ?_
  have hM := MI.to (P := (fun q => q = (rcR (sSt (kjS κ)) (sHt (kjS κ)) (windN (kjS κ)) (sCh (kjS κ)) k))) (u := (skyW E (h 0) (a 0) (kjS κ))) (c_X2_readingsUntilCut E (h 0) (a 0) (kjS κ) k) (List.flatten (List.map (kF E x h a o r s sa κ) [0, 2, 3, 4, 5, 6, 7, 8, 9, 10])) (kW E x h a o r s sa κ) (kW E x h a o r s sa κ) (pmB2 (f := (kF E x h a o r s sa κ)) (is := [1]) (ks := [0, 1, 2, 3, 4, 5, 6, 7, 8, 9, 10]) (by decide)) (pmB2 (f := (kF E x h a o r s sa κ)) (is := [1]) (js := [0, 2, 3, 4, 5, 6, 7, 8, 9, 10]) (ks := [0, 1, 2, 3, 4, 5, 6, 7, 8, 9, 10]) (by decide))
  refine g_calliNF C 1 rfl rfl hM cf_X2_readingsUntilCut ggX3_readsToCut_X2_readingsUntilCut (List.mem_of_getElem? (i := 31) rfl) hi_X2_readingsUntilCut hs_X2_readingsUntilCut hn_X2 (fitD (Nat.le_of_ble_eq_true rfl) (Nat.le_of_ble_eq_true rfl)) rfl rfl (Nat.le_of_ble_eq_true rfl) dX3_readsToCut_5 (fun q1 w1 hp => ?_)
  obtain ⟨rfl, rfl⟩ := hp
  refine g_iret C R0 dX3_readsToCut_8 ?_
  exact pE_mk rfl rfl
set_option maxHeartbeats 4000000 in
set_option maxRecDepth 100000 in
theorem c_X3_safeWind (E : Ev) (x : Nat) (h : Nat → Nat) (a : Nat → Nat → Nat) (o r s : Nat) (sa : Nat → Nat) (κ : KSt) : MI E yX3_safeWind wsX3_safeWind (rmD 5) (kW E x h a o r s sa κ) [.ref x] (pE (gsF (sSt (kjS κ)) (sHt (kjS κ)) (sCh (kjS κ)) 10) (kW E x h a o r s sa κ)) := by
  have inX3 : ∀ w ∈ u_ws RX3 TX3 9, w ∈ wsX3_safeWind := by decide +kernel
  have f10 : Cond.fieldLink RX3 10 (TX3 0).1 (TX3 0).2.1 (TX3 0).2.2.1 ∈ wsX3_safeWind := by decide +kernel
  have hi_X2_greatestSafeWind : Cond.instanceMethod yX2_greatestSafeWind ∈ wsX3_safeWind := by decide +kernel
  have hs_X2_greatestSafeWind : Cond.selects RX2 yX2_greatestSafeWind yX2_greatestSafeWind ∈ wsX3_safeWind := by decide +kernel
  have hn_X2 : Cond.initialized yX2_greatestSafeWind.cls ∈ wsX3_safeWind := by decide +kernel
  refine MI.of (cc := cX3_safeWind) (nL := 1) (ty := .int) (own := RX3) [some (.ref x)] (by decide +kernel) rfl rfl (Nat.le_of_ble_eq_true rfl) rfl rfl ?_
  intro x1 C R0
  refine g_aload_n C dX3_safeWind_0 rfl rfl ?_
  refine g_get C inX3 0 rfl rfl 0 (by decide) f10 rfl dX3_safeWind_1 ?_
  have hM := MI.to (P := (fun q => q = (gsF (sSt (kjS κ)) (sHt (kjS κ)) (sCh (kjS κ)) 10))) (u := (skyW E (h 0) (a 0) (kjS κ))) (c_X2_greatestSafeWind E (h 0) (a 0) (kjS κ) ) (List.flatten (List.map (kF E x h a o r s sa κ) [0, 2, 3, 4, 5, 6, 7, 8, 9, 10])) (kW E x h a o r s sa κ) (kW E x h a o r s sa κ) (pmB2 (f := (kF E x h a o r s sa κ)) (is := [1]) (ks := [0, 1, 2, 3, 4, 5, 6, 7, 8, 9, 10]) (by decide)) (pmB2 (f := (kF E x h a o r s sa κ)) (is := [1]) (js := [0, 2, 3, 4, 5, 6, 7, 8, 9, 10]) (ks := [0, 1, 2, 3, 4, 5, 6, 7, 8, 9, 10]) (by decide))
  refine g_calliNF C 1 rfl rfl hM cf_X2_greatestSafeWind ggX3_safeWind_X2_greatestSafeWind (List.mem_of_getElem? (i := 29) rfl) hi_X2_greatestSafeWind hs_X2_greatestSafeWind hn_X2 (fitD (Nat.le_of_ble_eq_true rfl) (Nat.le_of_ble_eq_true rfl)) rfl rfl (Nat.le_of_ble_eq_true rfl) dX3_safeWind_4 (fun q1 w1 hp => ?_)
  obtain ⟨rfl, rfl⟩ := hp
  refine g_iret C R0 dX3_safeWind_7 ?_
  exact pE_mk rfl rfl
def kCnt (κ : KSt) (w : Int32) : Int32 := if w = 11 then nI (kjz κ) else if w = 12 then nI (kjn κ) else aboutAR (kjS κ) w
set_option maxHeartbeats 4000000 in
set_option maxRecDepth 100000 in
theorem c_X3_count (E : Ev) (x : Nat) (h : Nat → Nat) (a : Nat → Nat → Nat) (o r s : Nat) (sa : Nat → Nat) (κ : KSt) (w : Int32) : MI E yX3_count wsX3_count (rmD 4) (kW E x h a o r s sa κ) [.ref x, .int w] (pE (kCnt κ w) (kW E x h a o r s sa κ)) := by
  have inX3 : ∀ w ∈ u_ws RX3 TX3 9, w ∈ wsX3_count := by decide +kernel
  have f32 : Cond.fieldLink RX3 32 (TX3 5).1 (TX3 5).2.1 (TX3 5).2.2.1 ∈ wsX3_count := by decide +kernel
  have inX0 : ∀ w ∈ u_ws RX0 TX0 3, w ∈ wsX3_count := by decide +kernel
  have f39 : Cond.fieldLink RX3 39 (TX3 6).1 (TX3 6).2.1 (TX3 6).2.2.1 ∈ wsX3_count := by decide +kernel
  have inX1 : ∀ w ∈ u_ws RX1 TX1 9, w ∈ wsX3_count := by decide +kernel
  have f10 : Cond.fieldLink RX3 10 (TX3 0).1 (TX3 0).2.1 (TX3 0).2.2.1 ∈ wsX3_count := by decide +kernel
  have hi_X2_aboutAll : Cond.instanceMethod yX2_aboutAll ∈ wsX3_count := by decide +kernel
  have hs_X2_aboutAll : Cond.selects RX2 yX2_aboutAll yX2_aboutAll ∈ wsX3_count := by decide +kernel
  have hn_X2 : Cond.initialized yX2_aboutAll.cls ∈ wsX3_count := by decide +kernel
  refine MI.of (cc := cX3_count) (nL := 2) (ty := .int) (own := RX3) [some (.ref x), some (.int w)] (by decide +kernel) rfl rfl (Nat.le_of_ble_eq_true rfl) rfl rfl ?_
  intro x1 C R0
  refine g_iload_n C dX3_count_0 rfl rfl ?_
  by_cases hc_1_11 : w = 11
  · have he_1 : (w).toInt = 11 := by rw [hc_1_11]; rfl
    refine g_lookup C (off := 27) (tgt := 28) dX3_count_1 rfl (by rw [he_1]; rfl) (by decide) ?_
    refine g_aload_n C dX3_count_28 rfl rfl ?_
    refine g_get C inX3 0 rfl rfl 5 (by decide) f32 rfl dX3_count_29 ?_
    refine g_getN C inX0 37 rfl rfl 2 (by decide) (List.mem_of_getElem? (i := 35) rfl) rfl dX3_count_32 ?_
    refine g_iret C R0 dX3_count_35 ?_
    exact pE_mk (by rw [kCnt, if_pos hc_1_11]) rfl
  · skip
    by_cases hc_1_12 : w = 12
    · have he_1 : (w).toInt = 12 := by rw [hc_1_12]; rfl
      refine g_lookup C (off := 35) (tgt := 36) dX3_count_1 rfl (by rw [he_1]; rfl) (by decide) ?_
      refine g_aload_n C dX3_count_36 rfl rfl ?_
      refine g_get C inX3 0 rfl rfl 6 (by decide) f39 rfl dX3_count_37 ?_
      refine g_getN C inX1 75 rfl rfl 1 (by decide) (List.mem_of_getElem? (i := 36) rfl) rfl dX3_count_40 ?_
      refine g_iret C R0 dX3_count_43 ?_
      exact pE_mk (by rw [kCnt, if_neg (by rw [hc_1_12]; decide), if_pos hc_1_12]) rfl
    · skip
      refine g_lookup C (off := 43) (tgt := 44) dX3_count_1 rfl (Eq.trans (lv_osw hc_1_11 (by decide)) (Eq.trans (lv_osw hc_1_12 (by decide)) rfl)) (by decide) ?_
      refine g_aload_n C dX3_count_44 rfl rfl ?_
      refine g_get C inX3 0 rfl rfl 0 (by decide) f10 rfl dX3_count_45 ?_
      refine g_iload_n C dX3_count_48 rfl rfl ?_
      have hM := MI.to (P := (fun q => q = (aboutAR (kjS κ) w))) (u := (skyW E (h 0) (a 0) (kjS κ))) (c_X2_aboutAll E (h 0) (a 0) (kjS κ) w) (List.flatten (List.map (kF E x h a o r s sa κ) [0, 2, 3, 4, 5, 6, 7, 8, 9, 10])) (kW E x h a o r s sa κ) (kW E x h a o r s sa κ) (pmB2 (f := (kF E x h a o r s sa κ)) (is := [1]) (ks := [0, 1, 2, 3, 4, 5, 6, 7, 8, 9, 10]) (by decide)) (pmB2 (f := (kF E x h a o r s sa κ)) (is := [1]) (js := [0, 2, 3, 4, 5, 6, 7, 8, 9, 10]) (ks := [0, 1, 2, 3, 4, 5, 6, 7, 8, 9, 10]) (by decide))
      refine g_calliNF C 1 rfl rfl hM cf_X2_aboutAll ggX3_count_X2_aboutAll (List.mem_of_getElem? (i := 5) rfl) hi_X2_aboutAll hs_X2_aboutAll hn_X2 (fitD (Nat.le_of_ble_eq_true rfl) (Nat.le_of_ble_eq_true rfl)) rfl rfl (Nat.le_of_ble_eq_true rfl) dX3_count_49 (fun q1 w1 hp => ?_)
      obtain ⟨rfl, rfl⟩ := hp
      refine g_iret C R0 dX3_count_52 ?_
      exact pE_mk (by rw [kCnt, if_neg hc_1_11, if_neg hc_1_12]) rfl
def kStp (κ : KSt) (w : Int32) : Int32 := if w = 0 then kj1 κ else if w = 1 then kj2 κ else -10002
set_option maxHeartbeats 4000000 in
set_option maxRecDepth 100000 in
theorem c_X3_stopped (E : Ev) (x : Nat) (h : Nat → Nat) (a : Nat → Nat → Nat) (o r s : Nat) (sa : Nat → Nat) (κ : KSt) (w : Int32) : MI E yX3_stopped wsX3_stopped (rmD 0) (kW E x h a o r s sa κ) [.ref x, .int w] (pE (kStp κ w) (kW E x h a o r s sa κ)) := by
  have inX3 : ∀ w ∈ u_ws RX3 TX3 9, w ∈ wsX3_stopped := by decide +kernel
  have f43 : Cond.fieldLink RX3 43 (TX3 7).1 (TX3 7).2.1 (TX3 7).2.2.1 ∈ wsX3_stopped := by decide +kernel
  have f47 : Cond.fieldLink RX3 47 (TX3 8).1 (TX3 8).2.1 (TX3 8).2.2.1 ∈ wsX3_stopped := by decide +kernel
  refine MI.of (cc := cX3_stopped) (nL := 2) (ty := .int) (own := RX3) [some (.ref x), some (.int w)] (by decide +kernel) rfl rfl (Nat.le_of_ble_eq_true rfl) rfl rfl ?_
  intro x1 C R0
  refine g_iload_n C dX3_stopped_0 rfl rfl ?_
  by_cases hc_1_0 : w = 0
  · have he_1 : (w).toInt = 0 := by rw [hc_1_0]; rfl
    refine g_lookup C (off := 27) (tgt := 28) dX3_stopped_1 rfl (by rw [he_1]; rfl) (by decide) ?_
    refine g_aload_n C dX3_stopped_28 rfl rfl ?_
    refine g_get C inX3 0 rfl rfl 7 (by decide) f43 rfl dX3_stopped_29 ?_
    refine g_iret C R0 dX3_stopped_32 ?_
    exact pE_mk (by rw [kStp, if_pos hc_1_0]) rfl
  · skip
    by_cases hc_1_1 : w = 1
    · have he_1 : (w).toInt = 1 := by rw [hc_1_1]; rfl
      refine g_lookup C (off := 32) (tgt := 33) dX3_stopped_1 rfl (by rw [he_1]; rfl) (by decide) ?_
      refine g_aload_n C dX3_stopped_33 rfl rfl ?_
      refine g_get C inX3 0 rfl rfl 8 (by decide) f47 rfl dX3_stopped_34 ?_
      refine g_iret C R0 dX3_stopped_37 ?_
      exact pE_mk (by rw [kStp, if_neg (by rw [hc_1_1]; decide), if_pos hc_1_1]) rfl
    · skip
      refine g_lookup C (off := 37) (tgt := 38) dX3_stopped_1 rfl (Eq.trans (lv_osw hc_1_0 (by decide)) (Eq.trans (lv_osw hc_1_1 (by decide)) rfl)) (by decide) ?_
      refine g_sipush C (v := (-10002)) dX3_stopped_38 rfl ?_
      refine g_iret C R0 dX3_stopped_41 ?_
      exact pE_mk (by rw [kStp, if_neg hc_1_0, if_neg hc_1_1]) rfl
def kKeep (κ : KSt) : Int32 × KSt := (allK (sSt (kjS κ)), (kjS κ, kjB κ, kjT κ, kjS κ, kjH κ, kjx κ, kjz κ, 1, kj1 κ, kj2 κ, kjg κ, kjn κ, kjZ κ))
def kRest (κ : KSt) : Int32 × KSt := if kjh κ = 0 then (-10005, κ) else (allK (sSt (kjN κ)), kRec (kjSB κ (kjN κ) (kjS κ)) (allK (sSt (kjN κ))))
def kDown (κ : KSt) (τ : Sky) : KSt := (kjS κ, kjB κ, τ, kjN κ, kjH κ, kjx κ, kjz κ, kjh κ, kj1 κ, kj2 κ, kjg κ, kjn κ, kjZ κ)


set_option maxHeartbeats 4000000 in
set_option maxRecDepth 100000 in
theorem c_X3_downIn (E : Ev) (x : Nat) (h : Nat → Nat) (a : Nat → Nat → Nat) (o r s : Nat) (sa : Nat → Nat) (κ : KSt) (hf : okFr (kjS κ)) (k g : Int32) : MI E yX3_downIn wsX3_downIn (rmD 3) (kW E x h a o r s sa κ) [.ref x, .int k, .int g] (fun q w => q = suR (kjS κ) k g ∧ ∃ t, w = kW E x h a o r s sa (kDown κ t)) := by
  have inX3 : ∀ w ∈ u_ws RX3 TX3 9, w ∈ wsX3_downIn := by decide +kernel
  have f19 : Cond.fieldLink RX3 19 (TX3 2).1 (TX3 2).2.1 (TX3 2).2.2.1 ∈ wsX3_downIn := by decide +kernel
  have f10 : Cond.fieldLink RX3 10 (TX3 0).1 (TX3 0).2.1 (TX3 0).2.2.1 ∈ wsX3_downIn := by decide +kernel
  have hi_X2_copyFrom : Cond.instanceMethod yX2_copyFrom ∈ wsX3_downIn := by decide +kernel
  have hs_X2_copyFrom : Cond.selects RX2 yX2_copyFrom yX2_copyFrom ∈ wsX3_downIn := by decide +kernel
  have hn_X2 : Cond.initialized yX2_sinkUntil.cls ∈ wsX3_downIn := by decide +kernel
  have hi_X2_sinkUntil : Cond.instanceMethod yX2_sinkUntil ∈ wsX3_downIn := by decide +kernel
  have hs_X2_sinkUntil : Cond.selects RX2 yX2_sinkUntil yX2_sinkUntil ∈ wsX3_downIn := by decide +kernel
  refine MI.of (cc := cX3_downIn) (nL := 3) (ty := .int) (own := RX3) [some (.ref x), some (.int k), some (.int g)] (by decide +kernel) rfl rfl (Nat.le_of_ble_eq_true rfl) rfl rfl ?_
  intro x1 C R0
  refine g_aload_n C dX3_downIn_0 rfl rfl ?_
  refine g_get C inX3 0 rfl rfl 2 (by decide) f19 rfl dX3_downIn_1 ?_
  refine g_aload_n C dX3_downIn_4 rfl rfl ?_
  refine g_get C inX3 0 rfl rfl 0 (by decide) f10 rfl dX3_downIn_5 ?_
  have hM := MV.to (c_X2_copyFrom E (h 2) (a 2) (kjT κ) (h 0) (a 0) (kjS κ) hf) (List.flatten (List.map (kF E x h a o r s sa κ) [0, 2, 4, 5, 6, 7, 8, 9, 10])) (kW E x h a o r s sa κ) (kW E x h a o r s sa ((kjS κ), (kjB κ), (kjS κ), (kjN κ), (kjH κ), (kjx κ), (kjz κ), (kjh κ), (kj1 κ), (kj2 κ), (kjg κ), (kjn κ), (kjZ κ))) (pmB2 (f := (kF E x h a o r s sa κ)) (is := [3, 1]) (ks := [0, 1, 2, 3, 4, 5, 6, 7, 8, 9, 10]) (by decide)) (pmB2 (f := (kF E x h a o r s sa ((kjS κ), (kjB κ), (kjS κ), (kjN κ), (kjH κ), (kjx κ), (kjz κ), (kjh κ), (kj1 κ), (kj2 κ), (kjg κ), (kjn κ), (kjZ κ)))) (is := [3, 1]) (js := [0, 2, 4, 5, 6, 7, 8, 9, 10]) (ks := [0, 1, 2, 3, 4, 5, 6, 7, 8, 9, 10]) (by decide))
  refine g_callvNF C 19 rfl rfl hM cf_X2_copyFrom ggX3_downIn_X2_copyFrom (List.mem_of_getElem? (i := 7) rfl) hi_X2_copyFrom hs_X2_copyFrom hn_X2 (fitD (Nat.le_of_ble_eq_true rfl) (Nat.le_of_ble_eq_true rfl)) rfl rfl (Nat.le_of_ble_eq_true rfl) dX3_downIn_8 (fun w1 hp => ?_)
  subst hp
  refine g_aload_n C dX3_downIn_11 rfl rfl ?_
  refine g_get C inX3 0 rfl rfl 2 (by decide) f19 rfl dX3_downIn_12 ?_
  refine g_iload_n C dX3_downIn_15 rfl rfl ?_
  refine g_iload_n C dX3_downIn_16 rfl rfl ?_
  have hM := MI.fr (c_X2_sinkUntil E (h 2) (a 2) (kjS κ) k g) (List.flatten (List.map (kF E x h a o r s sa ((kjS κ), (kjB κ), (kjS κ), (kjN κ), (kjH κ), (kjx κ), (kjz κ), (kjh κ), (kj1 κ), (kj2 κ), (kjg κ), (kjn κ), (kjZ κ))) [0, 1, 2, 4, 5, 6, 7, 8, 9, 10])) (kW E x h a o r s sa ((kjS κ), (kjB κ), (kjS κ), (kjN κ), (kjH κ), (kjx κ), (kjz κ), (kjh κ), (kj1 κ), (kj2 κ), (kjg κ), (kjn κ), (kjZ κ))) (pmB2 (f := (kF E x h a o r s sa ((kjS κ), (kjB κ), (kjS κ), (kjN κ), (kjH κ), (kjx κ), (kjz κ), (kjh κ), (kj1 κ), (kj2 κ), (kjg κ), (kjn κ), (kjZ κ)))) (is := [3]) (ks := [0, 1, 2, 3, 4, 5, 6, 7, 8, 9, 10]) (by decide)) (fun w1 => w1 ++ (List.flatten (List.map (kF E x h a o r s sa ((kjS κ), (kjB κ), (kjS κ), (kjN κ), (kjH κ), (kjx κ), (kjz κ), (kjh κ), (kj1 κ), (kj2 κ), (kjg κ), (kjn κ), (kjZ κ))) [0, 1, 2, 4, 5, 6, 7, 8, 9, 10]))) (fun w1 => List.Perm.refl _)
  refine g_calliNF C 19 rfl rfl hM cf_X2_sinkUntil ggX3_downIn_X2_sinkUntil (List.mem_of_getElem? (i := 32) rfl) hi_X2_sinkUntil hs_X2_sinkUntil hn_X2 (fitD (Nat.le_of_ble_eq_true rfl) (Nat.le_of_ble_eq_true rfl)) rfl rfl (Nat.le_of_ble_eq_true rfl) dX3_downIn_17 (fun q1 w1 hp => ?_)
  obtain ⟨w2, ⟨rfl, t, rfl⟩, rfl⟩ := hp
  refine g_pm (ws' := (kW E x h a o r s sa ((kjS κ), (kjB κ), t, (kjN κ), (kjH κ), (kjx κ), (kjz κ), (kjh κ), (kj1 κ), (kj2 κ), (kjg κ), (kjn κ), (kjZ κ)))) (pmB2 (f := (kF E x h a o r s sa ((kjS κ), (kjB κ), t, (kjN κ), (kjH κ), (kjx κ), (kjz κ), (kjh κ), (kj1 κ), (kj2 κ), (kjg κ), (kjn κ), (kjZ κ)))) (is := [3]) (js := [0, 1, 2, 4, 5, 6, 7, 8, 9, 10]) (ks := [0, 1, 2, 3, 4, 5, 6, 7, 8, 9, 10]) (by decide)) ?_
  refine g_iret C R0 dX3_downIn_20 ?_
  exact ⟨rfl, t, rfl⟩
def kType (κ : KSt) (c : Int32) : Int32 × KSt := if kjn κ < 80 then (nI (kjn κ + 1), (kjS κ, kjB κ, kjT κ, kjN κ, kjH κ, kjx κ, kjz κ, kjh κ, kj1 κ, kj2 κ, upd (kjg κ) (kjn κ) c, kjn κ + 1, kjZ κ)) else (-10003, κ)
def kClr (κ : KSt) : Int32 × KSt := (nI (kjn κ), (kjS κ, kjB κ, kjT κ, kjN κ, kjH κ, kjx κ, kjz κ, kjh κ, kj1 κ, kj2 κ, kjg κ, 0, kjZ κ))
def kUndo (κ : KSt) : Int32 × KSt := if kjz κ = 0 then (-10005, κ) else (nI (kjz κ - 1), (kjH κ ((kjx κ + 3) % 4), kjB κ, kjT κ, kjN κ, kjH κ, (kjx κ + 3) % 4, kjz κ - 1, kjh κ, kj1 κ, kj2 κ, kjg κ, kjn κ, kjZ κ))
set_option maxHeartbeats 4000000 in
set_option maxRecDepth 100000 in
theorem c_X3_type (E : Ev) (x : Nat) (h : Nat → Nat) (a : Nat → Nat → Nat) (o r s : Nat) (sa : Nat → Nat) (κ : KSt) (hn : kjn κ ≤ 80) (c : Int32) (hc : vp_nar .char c = c) : MI E yX3_type wsX3_type (rmD 1) (kW E x h a o r s sa κ) [.ref x, .int c] (pK E x h a o r s sa (kType κ c)) := by
  have inX3 : ∀ w ∈ u_ws RX3 TX3 9, w ∈ wsX3_type := by decide +kernel
  have f39 : Cond.fieldLink RX3 39 (TX3 6).1 (TX3 6).2.1 (TX3 6).2.2.1 ∈ wsX3_type := by decide +kernel
  have hi_X1_append : Cond.instanceMethod yX1_append ∈ wsX3_type := by decide +kernel
  have hs_X1_append : Cond.selects RX1 yX1_append yX1_append ∈ wsX3_type := by decide +kernel
  have hn_X1 : Cond.initialized yX1_append.cls ∈ wsX3_type := by decide +kernel
  refine MI.of (cc := cX3_type) (nL := 2) (ty := .int) (own := RX3) [some (.ref x), some (.int c)] (by decide +kernel) rfl rfl (Nat.le_of_ble_eq_true rfl) rfl rfl ?_
  intro x1 C R0
  refine g_aload_n C dX3_type_0 rfl rfl ?_
  refine g_get C inX3 0 rfl rfl 6 (by decide) f39 rfl dX3_type_1 ?_
  refine g_iload_n C dX3_type_4 rfl rfl ?_
  have hM := MI.fr (c_X1_append E s sa (kjg κ) (kjn κ) hn (kjZ κ).1 (kjZ κ).2.1 (kjZ κ).2.2.1 (kjZ κ).2.2.2.1 (kjZ κ).2.2.2.2.1 (kjZ κ).2.2.2.2.2.1 (kjZ κ).2.2.2.2.2.2 c hc) (List.flatten (List.map (kF E x h a o r s sa κ) [0, 1, 2, 3, 4, 5, 6, 7, 8, 9])) (kW E x h a o r s sa κ) (pmB2 (f := (kF E x h a o r s sa κ)) (is := [10]) (ks := [0, 1, 2, 3, 4, 5, 6, 7, 8, 9, 10]) (by decide)) (fun w1 => w1 ++ (List.flatten (List.map (kF E x h a o r s sa κ) [0, 1, 2, 3, 4, 5, 6, 7, 8, 9]))) (fun w1 => List.Perm.refl _)
  refine g_calliNF C 75 rfl rfl hM cf_X1_append ggX3_type_X1_append (List.mem_of_getElem? (i := 14) rfl) hi_X1_append hs_X1_append hn_X1 (fitD (Nat.le_of_ble_eq_true rfl) (Nat.le_of_ble_eq_true rfl)) rfl rfl (Nat.le_of_ble_eq_true rfl) dX3_type_5 (fun q1 w1 hp => ?_)
  obtain ⟨w2, ⟨hl, rfl, rfl⟩ | ⟨hl, rfl, rfl⟩, rfl⟩ := hp
  · refine g_pm (ws' := (kW E x h a o r s sa ((kjS κ), (kjB κ), (kjT κ), (kjN κ), (kjH κ), (kjx κ), (kjz κ), (kjh κ), (kj1 κ), (kj2 κ), (upd (kjg κ) (kjn κ) c), (kjn κ + 1), (kjZ κ)))) (pmB2 (f := (kF E x h a o r s sa ((kjS κ), (kjB κ), (kjT κ), (kjN κ), (kjH κ), (kjx κ), (kjz κ), (kjh κ), (kj1 κ), (kj2 κ), (upd (kjg κ) (kjn κ) c), (kjn κ + 1), (kjZ κ)))) (is := [10]) (js := [0, 1, 2, 3, 4, 5, 6, 7, 8, 9]) (ks := [0, 1, 2, 3, 4, 5, 6, 7, 8, 9, 10]) (by decide)) ?_
    refine g_iret C R0 dX3_type_8 ?_
    exact pK_mk (by rw [kType, if_pos hl]) rfl
  · refine g_pm (ws' := (kW E x h a o r s sa κ)) (pmB2 (f := (kF E x h a o r s sa κ)) (is := [10]) (js := [0, 1, 2, 3, 4, 5, 6, 7, 8, 9]) (ks := [0, 1, 2, 3, 4, 5, 6, 7, 8, 9, 10]) (by decide)) ?_
    refine g_iret C R0 dX3_type_8 ?_
    exact pK_mk (by rw [kType, if_neg hl]) rfl
set_option maxHeartbeats 4000000 in
set_option maxRecDepth 100000 in
theorem c_X3_clearText (E : Ev) (x : Nat) (h : Nat → Nat) (a : Nat → Nat → Nat) (o r s : Nat) (sa : Nat → Nat) (κ : KSt) (hn : kjn κ ≤ 80) : MI E yX3_clearText wsX3_clearText (rmD 1) (kW E x h a o r s sa κ) [.ref x] (pK E x h a o r s sa (kClr κ)) := by
  have inX3 : ∀ w ∈ u_ws RX3 TX3 9, w ∈ wsX3_clearText := by decide +kernel
  have f39 : Cond.fieldLink RX3 39 (TX3 6).1 (TX3 6).2.1 (TX3 6).2.2.1 ∈ wsX3_clearText := by decide +kernel
  have hi_X1_empty : Cond.instanceMethod yX1_empty ∈ wsX3_clearText := by decide +kernel
  have hs_X1_empty : Cond.selects RX1 yX1_empty yX1_empty ∈ wsX3_clearText := by decide +kernel
  have hn_X1 : Cond.initialized yX1_empty.cls ∈ wsX3_clearText := by decide +kernel
  refine MI.of (cc := cX3_clearText) (nL := 1) (ty := .int) (own := RX3) [some (.ref x)] (by decide +kernel) rfl rfl (Nat.le_of_ble_eq_true rfl) rfl rfl ?_
  intro x1 C R0
  refine g_aload_n C dX3_clearText_0 rfl rfl ?_
  refine g_get C inX3 0 rfl rfl 6 (by decide) f39 rfl dX3_clearText_1 ?_
  have hM := MI.to (P := fun q => q = nI (kjn κ)) (u := scrW E s sa (kjg κ) 0 (kjZ κ)) (c_X1_empty E s sa (kjg κ) (kjn κ) hn (kjZ κ).1 (kjZ κ).2.1 (kjZ κ).2.2.1 (kjZ κ).2.2.2.1 (kjZ κ).2.2.2.2.1 (kjZ κ).2.2.2.2.2.1 (kjZ κ).2.2.2.2.2.2) (List.flatten (List.map (kF E x h a o r s sa κ) [0, 1, 2, 3, 4, 5, 6, 7, 8, 9])) (kW E x h a o r s sa κ) (kW E x h a o r s sa ((kjS κ), (kjB κ), (kjT κ), (kjN κ), (kjH κ), (kjx κ), (kjz κ), (kjh κ), (kj1 κ), (kj2 κ), (kjg κ), 0, (kjZ κ))) (pmB2 (f := (kF E x h a o r s sa κ)) (is := [10]) (ks := [0, 1, 2, 3, 4, 5, 6, 7, 8, 9, 10]) (by decide)) (pmB2 (f := (kF E x h a o r s sa ((kjS κ), (kjB κ), (kjT κ), (kjN κ), (kjH κ), (kjx κ), (kjz κ), (kjh κ), (kj1 κ), (kj2 κ), (kjg κ), 0, (kjZ κ)))) (is := [10]) (js := [0, 1, 2, 3, 4, 5, 6, 7, 8, 9]) (ks := [0, 1, 2, 3, 4, 5, 6, 7, 8, 9, 10]) (by decide))
  refine g_calliNF C 75 rfl rfl hM cf_X1_empty ggX3_clearText_X1_empty (List.mem_of_getElem? (i := 13) rfl) hi_X1_empty hs_X1_empty hn_X1 (fitD (Nat.le_of_ble_eq_true rfl) (Nat.le_of_ble_eq_true rfl)) rfl rfl (Nat.le_of_ble_eq_true rfl) dX3_clearText_4 (fun q1 w1 hp => ?_)
  obtain ⟨rfl, rfl⟩ := hp
  refine g_iret C R0 dX3_clearText_7 ?_
  exact pK_mk rfl rfl

