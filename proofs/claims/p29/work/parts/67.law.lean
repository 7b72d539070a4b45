/-! THE LAW: its loop -/
section N4
variable {E : Ev} {x : Cx} {cc : ByteArray} {own : String} {Ts : List Cond} {rm : Room} {ws : va_W} {lv : List (Option Value)} {pc : Nat} {st : List Value} {kc ks : Nat}
theorem n_ishr (C : Ok E x cc own Ts rm) {x1 y1 : Int32} (d : decode cc pc = .ok (.ishr, 1)) (k : GN E x kc ks ws lv (pc + 1) (.int (x1 >>> (y1 &&& 31)) :: st)) : GN E x kc ks ws lv pc (.int y1 :: .int x1 :: st) := by
  obtain ⟨p, e, R, s, m, args, below, meth, c, A, nL, Q⟩ := x
  obtain ⟨hx, hb, hml, hown, hts, hK, hE, hA, hlk, hR⟩ := C
  subst hR
  intro H locs ls hP hD hS hl hnL
  exact lv_ishr hx hb d (k H locs ls hP hD hS hl hnL)
theorem n_irem (C : Ok E x cc own Ts rm) {x1 y1 : Int32} (d : decode cc pc = .ok (.irem, 1)) (hne : ¬ y1 = 0) (k : GN E x kc ks ws lv (pc + 1) (.int (x1 - x1 / y1 * y1) :: st)) : GN E x kc ks ws lv pc (.int y1 :: .int x1 :: st) := by
  obtain ⟨p, e, R, s, m, args, below, meth, c, A, nL, Q⟩ := x
  obtain ⟨hx, hb, hml, hown, hts, hK, hE, hA, hlk, hR⟩ := C
  subst hR
  intro H locs ls hP hD hS hl hnL
  exact lv_irem hx hb d hne (k H locs ls hP hD hS hl hnL)
theorem n_if_eq (C : Ok E x cc own Ts rm) {x1 : Int32} {off : Int} {tgt : Nat} (d : decode cc pc = .ok (.ifCond .eq off, 3)) (ht : (pc : Int) + off = (tgt : Int)) (kt : x1 = 0 → GN E x kc ks ws lv tgt st) (kf : ¬ x1 = 0 → GN E x kc ks ws lv (pc + 3) st) : GN E x kc ks ws lv pc (.int x1 :: st) := by
  obtain ⟨p, e, R, s, m, args, below, meth, c, A, nL, Q⟩ := x
  obtain ⟨hx, hb, hml, hown, hts, hK, hE, hA, hlk, hR⟩ := C
  subst hR
  intro H locs ls hP hD hS hl hnL
  exact lv_if_eq hx hb d ht (fun h => kt h H locs ls hP hD hS hl hnL) (fun h => kf h H locs ls hP hD hS hl hnL)
theorem n_if_eq_f (C : Ok E x cc own Ts rm) {x1 : Int32} {off : Int} (d : decode cc pc = .ok (.ifCond .eq off, 3)) (tgt : Nat) (ht : (pc : Int) + off = (tgt : Int)) (h : ¬ x1 = 0) (k : GN E x kc ks ws lv (pc + 3) st) : GN E x kc ks ws lv pc (.int x1 :: st) := n_if_eq C d ht (fun z => absurd z h) (fun _ => k)
theorem n_if_gt (C : Ok E x cc own Ts rm) {x1 : Int32} {off : Int} {tgt : Nat} (d : decode cc pc = .ok (.ifCond .gt off, 3)) (ht : (pc : Int) + off = (tgt : Int)) (kt : 0 < x1 → GN E x kc ks ws lv tgt st) (kf : ¬ 0 < x1 → GN E x kc ks ws lv (pc + 3) st) : GN E x kc ks ws lv pc (.int x1 :: st) := by
  obtain ⟨p, e, R, s, m, args, below, meth, c, A, nL, Q⟩ := x
  obtain ⟨hx, hb, hml, hown, hts, hK, hE, hA, hlk, hR⟩ := C
  subst hR
  intro H locs ls hP hD hS hl hnL
  exact lv_if_gt hx hb d ht (fun h => kt h H locs ls hP hD hS hl hnL) (fun h => kf h H locs ls hP hD hS hl hnL)
end N4
set_option maxHeartbeats 1000000 in
set_option maxRecDepth 100000 in
theorem c_L_cell (E : Ev) (b L : Nat) (xs : Nat → Int32) (hL : L ≤ 260) {k : Nat} (hk : k < 1000) : MX E yL_cell wsL_cell (rmD 0) b L xs [.ref b, .int (nI k)] (fun r w => r = celV L xs (nI k) ∧ w = []) := by
  have k7 : Cond.constant RL 7 (2142622665) ∈ wsL_cell := by decide +kernel
  refine MX.of (cc := cL_cell) (nL := 2) (ty := .int) (own := RL) [some (.ref b), some (.int (nI k))] (by decide +kernel) rfl rfl (Nat.le_of_ble_eq_true rfl) rfl rfl ?_
  intro x C R0 X9
  refine g_iload_n C dL_cell_0 rfl rfl ?_
  refine g_aload_n C dL_cell_1 rfl rfl ?_
  refine g_slen C X9 dL_cell_2 ?_
  refine g_icmp_ge C (tgt := 12) dL_cell_3 (by decide) (fun hc => ?_) (fun hc => ?_)
  · refine g_ldc C k7 dL_cell_12 ?_
    refine g_iload_n C dL_cell_14 rfl rfl ?_
    refine g_sipush C (v := 1283) dL_cell_15 rfl ?_
    refine g_iadd C dL_cell_18 ?_
    refine g_imul C dL_cell_19 ?_
    refine g_iret C R0 dL_cell_20 ?_
    exact ⟨(if_pos hc).symm, rfl⟩
  · have hlt : k < L := by
      rcases Nat.lt_or_ge k L with z | z
      · exact z
      · exact absurd ((nI_leI (by omega) (by omega)).mpr z) hc
    refine g_aload_n C dL_cell_6 rfl rfl ?_
    refine g_iload_n C dL_cell_7 rfl rfl ?_
    refine g_sld C X9 (vp_in_nI hlt (by omega)) dL_cell_8 ?_
    refine g_goto C (tgt := 20) dL_cell_9 (by decide) ?_
    refine g_iret C R0 dL_cell_20 ?_
    exact ⟨(if_neg hc).symm, rfl⟩
theorem p_nil (w : va_W) : (w ++ []).Perm w := by
  rw [List.append_nil]
set_option maxHeartbeats 1000000 in
set_option maxRecDepth 100000 in
theorem law_loop {E : Ev} {x : Cx} {kc ks : Nat} {b9 L : Nat} {xs : Nat → Int32} {A B : Ad} (C : Ok E x cL_law RL wsL_law room_1) (X9 : scrX x b9 L xs) (R9 : RetL E x) (hc : kc ≤ 600000) (hs : ks ≤ 7302250) (hL : L ≤ 260) : ∀ (f i : Nat) (κ τ : KSt), i ≤ 48 → 48 < i + f → Iv i κ τ → GN E x kc ks (w2 E A B κ τ) [some (.ref b9), some (.ref A.1), some (.ref B.1), some (.int 1), some (.int (nI i))] 21 [] := by
  intro f
  induction f with
  | zero => intro i κ τ h1 h2; omega
  | succ f ih =>
    intro i κ τ h1 h2 hI
    refine n_iload C dL_law_21 rfl ?_
    refine n_bipush C (v := nI 48) dL_law_23 rfl ?_
    refine n_icmp_ge C (tgt := 82) dL_law_25 (by decide) (fun h9 => ?_) (fun h9 => ?_)
    · refine n_iload_n C dL_law_82 rfl rfl ?_
      refine n_if_eq_f C dL_law_83 111 (by decide) (by decide) ?_
      refine n_aload_n C dL_law_86 rfl rfl ?_
      refine n_callS C (kA E B τ) (c_L_isWell E A (iv_gd hI) h1) (List.Perm.refl _) (fun w => w ++ kA E B τ) (fun _ => List.Perm.refl _) cf_L_isWell gL_law_L_isWell ⟨⟨rfl, rfl⟩, Nat.le_of_ble_eq_true rfl, Nat.le_of_ble_eq_true rfl⟩ ⟨hc, hs⟩ rfl rfl (Nat.le_of_ble_eq_true rfl) dL_law_87 (fun q1 w1 hp => ?_)
      obtain ⟨rfl, rfl⟩ := hp
      show GN E x kc ks (w2 E A B κ τ) _ _ _
      refine n_if_eq_f C dL_law_90 111 (by decide) (by decide) ?_
      refine n_aload_n C dL_law_93 rfl rfl ?_
      refine n_aload_n C dL_law_94 rfl rfl ?_
      refine n_aload_n C dL_law_95 rfl rfl ?_
      refine n_bipush C (v := nI 48) dL_law_96 rfl ?_
      refine n_callX C X9 (c_L_cell E b9 L xs hL (k := 48) (by omega)) cf_L_cell gL_law_L_cell ⟨⟨rfl, rfl⟩, Nat.le_of_ble_eq_true rfl, Nat.le_of_ble_eq_true rfl⟩ ⟨hc, hs⟩ rfl rfl (Nat.le_of_ble_eq_true rfl) dL_law_98 ?_
      refine n_callS C [] (c_L_areAlike E A B (κ := κ) (τ := τ) ⟨(iv_gd hI).1, iv_t hI, iv_f1 hI, iv_f2 hI⟩ _) (p_nil _) (fun w => w) (fun w => p_nil w) cf_L_areAlike gL_law_L_areAlike ⟨⟨rfl, rfl⟩, Nat.le_of_ble_eq_true rfl, Nat.le_of_ble_eq_true rfl⟩ ⟨hc, hs⟩ rfl rfl (Nat.le_of_ble_eq_true rfl) dL_law_101 (fun q1 w1 hp => ?_)
      obtain ⟨rfl, κ2, τ2, rfl⟩ := hp
      refine n_if_eq_f C dL_law_104 111 (by decide) (by decide) ?_
      refine n_iconst C (v := 1) dL_law_107 rfl ?_
      refine n_goto C (tgt := 112) dL_law_108 (by decide) ?_
      exact R9 _ _ _ _ _ hc hs dL_law_112
    · have hlt : i < 48 := by
        rcases Nat.lt_or_ge i 48 with z | z
        · exact z
        · exact absurd ((nI_leI (by omega) (by omega)).mpr z) h9
      refine n_iload_n C dL_law_28 rfl rfl ?_
      refine n_if_eq_f C dL_law_29 82 (by decide) (by decide) ?_
      refine n_aload_n C dL_law_32 rfl rfl ?_
      refine n_aload_n C dL_law_33 rfl rfl ?_
      refine n_aload_n C dL_law_34 rfl rfl ?_
      refine n_iload C dL_law_35 rfl ?_
      refine n_callX C X9 (c_L_cell E b9 L xs hL (k := i) (by omega)) cf_L_cell gL_law_L_cell ⟨⟨rfl, rfl⟩, Nat.le_of_ble_eq_true rfl, Nat.le_of_ble_eq_true rfl⟩ ⟨hc, hs⟩ rfl rfl (Nat.le_of_ble_eq_true rfl) dL_law_37 ?_
      refine n_aload_n C dL_law_40 rfl rfl ?_
      refine n_iload C dL_law_41 rfl ?_
      refine n_iconst C (v := 1) dL_law_43 rfl ?_
      refine n_iadd C dL_law_44 ?_
      rw [show nI i + 1 = nI (i + 1) from nI_1 i]
      refine n_callX C X9 (c_L_cell E b9 L xs hL (k := i + 1) (by omega)) cf_L_cell gL_law_L_cell ⟨⟨rfl, rfl⟩, Nat.le_of_ble_eq_true rfl, Nat.le_of_ble_eq_true rfl⟩ ⟨hc, hs⟩ rfl rfl (Nat.le_of_ble_eq_true rfl) dL_law_45 ?_
      refine n_iconst C (v := 2) dL_law_48 rfl ?_
      refine n_ishr C dL_law_49 ?_
      refine n_callS C [] (c_L_isStep E A B hI _ _) (p_nil _) (fun w => w) (fun w => p_nil w) cf_L_isStep gL_law_L_isStep ⟨⟨rfl, rfl⟩, Nat.le_of_ble_eq_true rfl, Nat.le_of_ble_eq_true rfl⟩ ⟨hc, hs⟩ rfl rfl (Nat.le_of_ble_eq_true rfl) dL_law_50 (fun q1 w1 hp => ?_)
      obtain ⟨rfl, κ2, τ2, hI2, rfl⟩ := hp
      have T : GN E x kc ks (w2 E A B κ2 τ2) [some (.ref b9), some (.ref A.1), some (.ref B.1), some (.int 1), some (.int (nI i))] 70 [] := by
        refine n_iconst C (v := 1) dL_law_70 rfl ?_
        refine n_goto C (tgt := 75) dL_law_71 (by decide) ?_
        refine n_istore_n C dL_law_75 rfl (Nat.le_of_ble_eq_true rfl) rfl ?_
        refine n_iinc C (v := nI (i + 1)) dL_law_76 rfl rfl (nI_add i 1) ?_
        refine n_goto C (tgt := 21) dL_law_79 (by decide) ?_
        exact ih (i + 1) κ2 τ2 hlt (by omega) hI2
      refine n_if_eq_f C dL_law_53 74 (by decide) (by decide) ?_
      refine n_iload C dL_law_56 rfl ?_
      refine n_iconst C (v := 3) dL_law_58 rfl ?_
      refine n_irem C dL_law_59 (by decide) ?_
      refine n_if_gt C (tgt := 70) dL_law_60 (by decide) (fun _ => T) (fun _ => ?_)
      refine n_aload_n C dL_law_63 rfl rfl ?_
      refine n_callS C (kA E B τ2) (c_L_isWell E A (iv_gd hI2) hlt) (List.Perm.refl _) (fun w => w ++ kA E B τ2) (fun _ => List.Perm.refl _) cf_L_isWell gL_law_L_isWell ⟨⟨rfl, rfl⟩, Nat.le_of_ble_eq_true rfl, Nat.le_of_ble_eq_true rfl⟩ ⟨hc, hs⟩ rfl rfl (Nat.le_of_ble_eq_true rfl) dL_law_64 (fun q1 w1 hp => ?_)
      obtain ⟨rfl, rfl⟩ := hp
      show GN E x kc ks (w2 E A B κ2 τ2) _ _ _
      refine n_if_eq_f C dL_law_67 74 (by decide) (by decide) ?_
      exact T
/-! the start: below twelve kites, all are nowhere -/
def sky9 : Sky := (fun _ => 0, fun _ => -1, fun _ => 0, fun _ => 0, fun _ => 0, fun _ => 0, fun _ => 2, fun _ => 0, 0, 0, 30, 1)
def ks9 : KSt := (sky9, sky0, sky0, sky0, fun _ => sky0, 0, 0, 0, -10005, -10005, fun _ => 0, 0, (fun _ => 0, fun _ => 0, fun _ => 0, 0, 0, 0, 0))
theorem st9 : ∀ k, k < 12 → stN 12 k = -1 := by decide +kernel
theorem wi9 : ∀ k, k < 8 → wiN 8 k = 2 := by decide +kernel
theorem sky9_q : skyQ sky0 sky9 := ⟨fun _ _ => rfl, st9, fun _ _ => rfl, fun _ _ => rfl, fun _ _ => rfl, fun _ _ => rfl, wi9, fun _ _ => rfl, rfl, rfl, rfl, rfl⟩
theorem ks9_w {E : Ev} {x : Nat} {h : Nat → Nat} {a : Nat → Nat → Nat} {o r s : Nat} {sa : Nat → Nat} : wEq (kW E x h a o r s sa ks0) (kW E x h a o r s sa ks9) := wEq_app (wEq_rfl _) (wEq_app (skyQ_w sky9_q) (wEq_rfl _))
theorem sky9_gd : gdS sky9 := by
  refine ⟨fun k => Or.inl rfl, fun k => ⟨0, by omega, rfl⟩, ?_, fun k => Or.inl rfl, fun k => (by decide : isN 0), fun b => ⟨2, by omega, rfl⟩, ⟨30, by omega, by omega, rfl⟩, ⟨1, by omega, rfl⟩⟩
  show ∀ j, j ≤ 12 → hcN (fun _ => -1) (fun _ => 0) j + j ≤ 12
  decide +kernel
theorem sky9_t : sky9 = turn sky9 := by
  have e1 : tNu (fun _ => 0) = fun _ => 0 := by
    funext k
    show -(0 : Int32) = 0
    decide
  have e2 : tSt (fun _ => -1) = fun _ => -1 := by
    funext k
    exact thr_m1
  have e3 : tCf (fun _ => 0) = fun _ => 0 := by
    funext k
    show (if k = 0 then (0 : Int32) else if k < 4 then 0 else 0) = 0
    split
    · rfl
    · split <;> rfl
  show sky9 = (tNu (fun _ => 0), tSt (fun _ => -1), fun _ => 0, fun _ => 0, fun _ => 0, fun _ => 0, fun _ => 2, tCf (fun _ => 0), 0, 0, 30, 1)
  rw [e1, e2, e3]
  rfl
theorem iv0 : Iv 0 ks9 ks9 := by
  have hh : okH ks9 := ⟨by show 0 < 4; omega, by show 0 ≤ 4; omega⟩
  refine ⟨hh, hh, by show 0 ≤ 80; omega, by show 0 ≤ 80; omega, ⟨sky9_gd, fun j k _ _ h1 _ _ => absurd rfl h1, fun k => ⟨0, 0, Nat.le_refl _, Nat.le_refl _, rfl, rfl⟩, ⟨0, fun _ => 0, Nat.le_refl _, rfl, fun _ _ => rfl, Nat.le_refl _⟩, 0, Nat.le_refl _, rfl⟩, sky9_t⟩
