/-! CONSTRUCTORS -/
def adr (l : List Nat) : Nat → Nat := fun i => l.getD i 0
def adf (l : List (Nat → Nat)) : Nat → Nat → Nat := fun i => l.getD i (fun _ => 0)
def stN : Nat → F
  | 0 => fun _ => 0
  | n + 1 => upd (stN n) n (-1)
def wiN : Nat → F
  | 0 => fun _ => 0
  | n + 1 => upd (wiN n) n 2
def sky0 : Sky := (fun _ => 0, stN 12, fun _ => 0, fun _ => 0, fun _ => 0, fun _ => 0, wiN 8, fun _ => 0, 0, 0, 30, 1)
theorem va_at_q {D : va_G} {cl : List vw_C} {a n : Nat} {cA : ClassId} {f g : Nat → Option Nat} {H : Heap} (h : ∀ j, j < n → f j = g j) (ha : va_at D cl (a, .inl (cA, n, .inr (.inr (.inr (.inr f))))) H) : va_at D cl (a, .inl (cA, n, .inr (.inr (.inr (.inr g))))) H := by
  show H[a]? = some (vp_cell cA (n, .inr (.inr (.inr (.inr g)))))
  have ha2 : H[a]? = some (vp_cell cA (n, .inr (.inr (.inr (.inr f))))) := ha
  rw [ha2, vp_cell_q, vp_cell_q]
  unfold arrV
  congr 3
  funext j
  show va_rf (f j.val) = va_rf (g j.val)
  rw [h j.val j.isLt]
theorem n_extq {E : Ev} {x : Cx} {lv : List (Option Value)} {pc : Nat} {st : List Value} {kc ks : Nat} {c0 : Nat × va_E} {a n : Nat} {cA : ClassId} {f g : Nat → Option Nat} {R : va_W} (h : ∀ j, j < n → f j = g j) (k : GN E x kc ks (c0 :: (a, .inl (cA, n, .inr (.inr (.inr (.inr g))))) :: R) lv pc st) : GN E x kc ks (c0 :: (a, .inl (cA, n, .inr (.inr (.inr (.inr f))))) :: R) lv pc st := by
  obtain ⟨p, e, R9, s, m, args, below, meth, c, A, nL, Q⟩ := x
  intro H locs ls hP hD hS hl hnL
  refine k H locs ls (fun i q hi => ?_) ?_ hS hl hnL
  · rcases i with _ | _ | i
    · exact hP 0 q hi
    · rw [List.getElem?_cons_succ, List.getElem?_cons_zero] at hi
      cases hi
      exact va_at_q h (hP 1 _ rfl)
    · exact hP (i + 2) q hi
  · have h1 := D_nd hD
    refine D_of h1 (fun q hq => ?_)
    rcases List.mem_cons.mp hq with rfl | hq
    · exact D_in hD _ List.mem_cons_self
    · rcases List.mem_cons.mp hq with rfl | hq
      · exact D_in hD (a, .inl (cA, n, .inr (.inr (.inr (.inr f))))) (List.mem_cons_of_mem _ List.mem_cons_self)
      · exact D_in hD q (List.mem_cons_of_mem _ (List.mem_cons_of_mem _ hq))
theorem dvX0 : ∀ j, j < 3 → defaultValue (tyX0 j) = vp_V [.null, .int 0, .int 0] j := by
  intro j hj
  have h9 : j = 0 ∨ j = 1 ∨ j = 2 := by omega
  rcases h9 with rfl | rfl | rfl <;> rfl
theorem dvX1 : ∀ j, j < 9 → defaultValue (tyX1 j) = vp_V [.null, .int 0, .null, .null, .null, .int 0, .int 0, .int 0, .int 0] j := by
  intro j hj
  have h9 : j = 0 ∨ j = 1 ∨ j = 2 ∨ j = 3 ∨ j = 4 ∨ j = 5 ∨ j = 6 ∨ j = 7 ∨ j = 8 := by omega
  rcases h9 with rfl | rfl | rfl | rfl | rfl | rfl | rfl | rfl | rfl <;> rfl
theorem dvX2 : ∀ j, j < 12 → defaultValue (tyX2 j) = vp_V [.null, .null, .null, .null, .null, .null, .null, .null, .int 0, .int 0, .int 0, .int 0] j := by
  intro j hj
  have h9 : j = 0 ∨ j = 1 ∨ j = 2 ∨ j = 3 ∨ j = 4 ∨ j = 5 ∨ j = 6 ∨ j = 7 ∨ j = 8 ∨ j = 9 ∨ j = 10 ∨ j = 11 := by omega
  rcases h9 with rfl | rfl | rfl | rfl | rfl | rfl | rfl | rfl | rfl | rfl | rfl | rfl <;> rfl
theorem dvX3 : ∀ j, j < 9 → defaultValue (tyX3 j) = vp_V [.null, .null, .null, .null, .int 0, .null, .null, .int 0, .int 0] j := by
  intro j hj
  have h9 : j = 0 ∨ j = 1 ∨ j = 2 ∨ j = 3 ∨ j = 4 ∨ j = 5 ∨ j = 6 ∨ j = 7 ∨ j = 8 := by omega
  rcases h9 with rfl | rfl | rfl | rfl | rfl | rfl | rfl | rfl | rfl <;> rfl
set_option maxHeartbeats 4000000 in
set_option maxRecDepth 100000 in
theorem c_X2_init (E : Ev) (h : Nat) : NV E yX2_init wsX2_init 1 8 84 [(h, .inr (2, [.null, .null, .null, .null, .null, .null, .null, .null, .int 0, .int 0, .int 0, .int 0]))] [.ref h] (fun w => ∃ a, w = skyW E h a sky0) := by
  have inX2 : ∀ w ∈ u_ws RX2 TX2 12, w ∈ wsX2_init := by decide +kernel
  have f9 : Cond.fieldLink RX2 9 (TX2 0).1 (TX2 0).2.1 (TX2 0).2.2.1 ∈ wsX2_init := by decide +kernel
  have f15 : Cond.fieldLink RX2 15 (TX2 1).1 (TX2 1).2.1 (TX2 1).2.2.1 ∈ wsX2_init := by decide +kernel
  have f18 : Cond.fieldLink RX2 18 (TX2 2).1 (TX2 2).2.1 (TX2 2).2.2.1 ∈ wsX2_init := by decide +kernel
  have f21 : Cond.fieldLink RX2 21 (TX2 3).1 (TX2 3).2.1 (TX2 3).2.2.1 ∈ wsX2_init := by decide +kernel
  have f25 : Cond.fieldLink RX2 25 (TX2 4).1 (TX2 4).2.1 (TX2 4).2.2.1 ∈ wsX2_init := by decide +kernel
  have f28 : Cond.fieldLink RX2 28 (TX2 5).1 (TX2 5).2.1 (TX2 5).2.2.1 ∈ wsX2_init := by decide +kernel
  have f31 : Cond.fieldLink RX2 31 (TX2 6).1 (TX2 6).2.1 (TX2 6).2.2.1 ∈ wsX2_init := by decide +kernel
  have f34 : Cond.fieldLink RX2 34 (TX2 7).1 (TX2 7).2.1 (TX2 7).2.2.1 ∈ wsX2_init := by decide +kernel
  have f37 : Cond.fieldLink RX2 37 (TX2 8).1 (TX2 8).2.1 (TX2 8).2.2.1 ∈ wsX2_init := by decide +kernel
  have f41 : Cond.fieldLink RX2 41 (TX2 9).1 (TX2 9).2.1 (TX2 9).2.2.1 ∈ wsX2_init := by decide +kernel
  have f44 : Cond.fieldLink RX2 44 (TX2 10).1 (TX2 10).2.1 (TX2 10).2.2.1 ∈ wsX2_init := by decide +kernel
  have f47 : Cond.fieldLink RX2 47 (TX2 11).1 (TX2 11).2.1 (TX2 11).2.2.1 ∈ wsX2_init := by decide +kernel
  refine NV.of (cc := cX2_init) (nL := 2) (own := RX2) [some (.ref h), none] (by decide +kernel) rfl rfl rfl (Nat.le_of_ble_eq_true rfl) rfl rfl ?_
  intro x C N9 R0
  refine n_aload_n C dX2_init_0 rfl rfl ?_
  refine n_objInit C (by decide +kernel : Cond.methodLink RX2 3 Lib.objectInit ∈ wsX2_init) (by decide +kernel) (by decide +kernel) ⟨Nat.le_of_ble_eq_true rfl, Nat.le_of_ble_eq_true rfl⟩ dX2_init_1 ?_
  refine n_aload_n C dX2_init_4 rfl rfl ?_
  refine n_bipush C (v := 12) dX2_init_5 rfl ?_
  refine n_newa C (atype := .int) 0 (ty := .int) rfl rfl (by decide +kernel) (N' := 12) (by decide) rfl (Nat.le_of_ble_eq_true rfl) (Nat.le_of_ble_eq_true rfl) (Nat.le_of_ble_eq_true rfl) rfl dX2_init_7 (fun q19 => ?_)
  refine n_eq (ws' := [(h, .inr (2, [.null, .null, .null, .null, .null, .null, .null, .null, .int 0, .int 0, .int 0, .int 0])), (q19, .inl (E.2.2 0, 12, .inl (fun _ => 0)))]) (kc' := 1) (ks' := 12) rfl rfl rfl rfl rfl ?_
  refine n_putF C N9 (ws' := [(h, .inr (2, [.ref q19, .null, .null, .null, .null, .null, .null, .null, .int 0, .int 0, .int 0, .int 0])), (q19, .inl (E.2.2 0, 12, .inl (fun _ => 0)))]) inX2 (ty := .array .int) tyX2 tyX2_ok nmX2 0 rfl rfl 0 (by decide) f9 rfl rfl (by decide +kernel) rfl rfl (Nat.le_of_ble_eq_true rfl) dX2_init_9 rfl ?_
  refine n_aload_n C dX2_init_12 rfl rfl ?_
  refine n_bipush C (v := 12) dX2_init_13 rfl ?_
  refine n_newa C (atype := .int) 0 (ty := .int) rfl rfl (by decide +kernel) (N' := 12) (by decide) rfl (Nat.le_of_ble_eq_true rfl) (Nat.le_of_ble_eq_true rfl) (Nat.le_of_ble_eq_true rfl) rfl dX2_init_15 (fun q29 => ?_)
  refine n_eq (ws' := [(h, .inr (2, [.ref q19, .null, .null, .null, .null, .null, .null, .null, .int 0, .int 0, .int 0, .int 0])), (q19, .inl (E.2.2 0, 12, .inl (fun _ => 0))), (q29, .inl (E.2.2 0, 12, .inl (fun _ => 0)))]) (kc' := 2) (ks' := 24) rfl rfl rfl rfl rfl ?_
  refine n_putF C N9 (ws' := [(h, .inr (2, [.ref q19, .ref q29, .null, .null, .null, .null, .null, .null, .int 0, .int 0, .int 0, .int 0])), (q19, .inl (E.2.2 0, 12, .inl (fun _ => 0))), (q29, .inl (E.2.2 0, 12, .inl (fun _ => 0)))]) inX2 (ty := .array .int) tyX2 tyX2_ok nmX2 0 rfl rfl 1 (by decide) f15 rfl rfl (by decide +kernel) rfl rfl (Nat.le_of_ble_eq_true rfl) dX2_init_17 rfl ?_
  refine n_aload_n C dX2_init_20 rfl rfl ?_
  refine n_bipush C (v := 12) dX2_init_21 rfl ?_
  refine n_newa C (atype := .int) 0 (ty := .int) rfl rfl (by decide +kernel) (N' := 12) (by decide) rfl (Nat.le_of_ble_eq_true rfl) (Nat.le_of_ble_eq_true rfl) (Nat.le_of_ble_eq_true rfl) rfl dX2_init_23 (fun q39 => ?_)
  refine n_eq (ws' := [(h, .inr (2, [.ref q19, .ref q29, .null, .null, .null, .null, .null, .null, .int 0, .int 0, .int 0, .int 0])), (q19, .inl (E.2.2 0, 12, .inl (fun _ => 0))), (q29, .inl (E.2.2 0, 12, .inl (fun _ => 0))), (q39, .inl (E.2.2 0, 12, .inl (fun _ => 0)))]) (kc' := 3) (ks' := 36) rfl rfl rfl rfl rfl ?_
  refine n_putF C N9 (ws' := [(h, .inr (2, [.ref q19, .ref q29, .ref q39, .null, .null, .null, .null, .null, .int 0, .int 0, .int 0, .int 0])), (q19, .inl (E.2.2 0, 12, .inl (fun _ => 0))), (q29, .inl (E.2.2 0, 12, .inl (fun _ => 0))), (q39, .inl (E.2.2 0, 12, .inl (fun _ => 0)))]) inX2 (ty := .array .int) tyX2 tyX2_ok nmX2 0 rfl rfl 2 (by decide) f18 rfl rfl (by decide +kernel) rfl rfl (Nat.le_of_ble_eq_true rfl) dX2_init_25 rfl ?_
  refine n_aload_n C dX2_init_28 rfl rfl ?_
  refine n_bipush C (v := 12) dX2_init_29 rfl ?_
  refine n_newa C (atype := .boolean) 1 (ty := .boolean) rfl rfl (by decide +kernel) (N' := 12) (by decide) rfl (Nat.le_of_ble_eq_true rfl) (Nat.le_of_ble_eq_true rfl) (Nat.le_of_ble_eq_true rfl) rfl dX2_init_31 (fun q49 => ?_)
  refine n_eq (ws' := [(h, .inr (2, [.ref q19, .ref q29, .ref q39, .null, .null, .null, .null, .null, .int 0, .int 0, .int 0, .int 0])), (q19, .inl (E.2.2 0, 12, .inl (fun _ => 0))), (q29, .inl (E.2.2 0, 12, .inl (fun _ => 0))), (q39, .inl (E.2.2 0, 12, .inl (fun _ => 0))), (q49, .inl (E.2.2 1, 12, .inl (fun _ => 0)))]) (kc' := 4) (ks' := 48) rfl rfl rfl rfl rfl ?_
  refine n_putF C N9 (ws' := [(h, .inr (2, [.ref q19, .ref q29, .ref q39, .ref q49, .null, .null, .null, .null, .int 0, .int 0, .int 0, .int 0])), (q19, .inl (E.2.2 0, 12, .inl (fun _ => 0))), (q29, .inl (E.2.2 0, 12, .inl (fun _ => 0))), (q39, .inl (E.2.2 0, 12, .inl (fun _ => 0))), (q49, .inl (E.2.2 1, 12, .inl (fun _ => 0)))]) inX2 (ty := .array .boolean) tyX2 tyX2_ok nmX2 0 rfl rfl 3 (by decide) f21 rfl rfl (by decide +kernel) rfl rfl (Nat.le_of_ble_eq_true rfl) dX2_init_33 rfl ?_
  refine n_aload_n C dX2_init_36 rfl rfl ?_
  refine n_bipush C (v := 12) dX2_init_37 rfl ?_
  refine n_newa C (atype := .int) 0 (ty := .int) rfl rfl (by decide +kernel) (N' := 12) (by decide) rfl (Nat.le_of_ble_eq_true rfl) (Nat.le_of_ble_eq_true rfl) (Nat.le_of_ble_eq_true rfl) rfl dX2_init_39 (fun q59 => ?_)
  refine n_eq (ws' := [(h, .inr (2, [.ref q19, .ref q29, .ref q39, .ref q49, .null, .null, .null, .null, .int 0, .int 0, .int 0, .int 0])), (q19, .inl (E.2.2 0, 12, .inl (fun _ => 0))), (q29, .inl (E.2.2 0, 12, .inl (fun _ => 0))), (q39, .inl (E.2.2 0, 12, .inl (fun _ => 0))), (q49, .inl (E.2.2 1, 12, .inl (fun _ => 0))), (q59, .inl (E.2.2 0, 12, .inl (fun _ => 0)))]) (kc' := 5) (ks' := 60) rfl rfl rfl rfl rfl ?_
  refine n_putF C N9 (ws' := [(h, .inr (2, [.ref q19, .ref q29, .ref q39, .ref q49, .ref q59, .null, .null, .null, .int 0, .int 0, .int 0, .int 0])), (q19, .inl (E.2.2 0, 12, .inl (fun _ => 0))), (q29, .inl (E.2.2 0, 12, .inl (fun _ => 0))), (q39, .inl (E.2.2 0, 12, .inl (fun _ => 0))), (q49, .inl (E.2.2 1, 12, .inl (fun _ => 0))), (q59, .inl (E.2.2 0, 12, .inl (fun _ => 0)))]) inX2 (ty := .array .int) tyX2 tyX2_ok nmX2 0 rfl rfl 4 (by decide) f25 rfl rfl (by decide +kernel) rfl rfl (Nat.le_of_ble_eq_true rfl) dX2_init_41 rfl ?_
  refine n_aload_n C dX2_init_44 rfl rfl ?_
  refine n_bipush C (v := 12) dX2_init_45 rfl ?_
  refine n_newa C (atype := .int) 0 (ty := .int) rfl rfl (by decide +kernel) (N' := 12) (by decide) rfl (Nat.le_of_ble_eq_true rfl) (Nat.le_of_ble_eq_true rfl) (Nat.le_of_ble_eq_true rfl) rfl dX2_init_47 (fun q69 => ?_)
  refine n_eq (ws' := [(h, .inr (2, [.ref q19, .ref q29, .ref q39, .ref q49, .ref q59, .null, .null, .null, .int 0, .int 0, .int 0, .int 0])), (q19, .inl (E.2.2 0, 12, .inl (fun _ => 0))), (q29, .inl (E.2.2 0, 12, .inl (fun _ => 0))), (q39, .inl (E.2.2 0, 12, .inl (fun _ => 0))), (q49, .inl (E.2.2 1, 12, .inl (fun _ => 0))), (q59, .inl (E.2.2 0, 12, .inl (fun _ => 0))), (q69, .inl (E.2.2 0, 12, .inl (fun _ => 0)))]) (kc' := 6) (ks' := 72) rfl rfl rfl rfl rfl ?_
  refine n_putF C N9 (ws' := [(h, .inr (2, [.ref q19, .ref q29, .ref q39, .ref q49, .ref q59, .ref q69, .null, .null, .int 0, .int 0, .int 0, .int 0])), (q19, .inl (E.2.2 0, 12, .inl (fun _ => 0))), (q29, .inl (E.2.2 0, 12, .inl (fun _ => 0))), (q39, .inl (E.2.2 0, 12, .inl (fun _ => 0))), (q49, .inl (E.2.2 1, 12, .inl (fun _ => 0))), (q59, .inl (E.2.2 0, 12, .inl (fun _ => 0))), (q69, .inl (E.2.2 0, 12, .inl (fun _ => 0)))]) inX2 (ty := .array .int) tyX2 tyX2_ok nmX2 0 rfl rfl 5 (by decide) f28 rfl rfl (by decide +kernel) rfl rfl (Nat.le_of_ble_eq_true rfl) dX2_init_49 rfl ?_
  refine n_aload_n C dX2_init_52 rfl rfl ?_
  refine n_bipush C (v := 8) dX2_init_53 rfl ?_
  refine n_newa C (atype := .int) 0 (ty := .int) rfl rfl (by decide +kernel) (N' := 8) (by decide) rfl (Nat.le_of_ble_eq_true rfl) (Nat.le_of_ble_eq_true rfl) (Nat.le_of_ble_eq_true rfl) rfl dX2_init_55 (fun q79 => ?_)
  refine n_eq (ws' := [(h, .inr (2, [.ref q19, .ref q29, .ref q39, .ref q49, .ref q59, .ref q69, .null, .null, .int 0, .int 0, .int 0, .int 0])), (q19, .inl (E.2.2 0, 12, .inl (fun _ => 0))), (q29, .inl (E.2.2 0, 12, .inl (fun _ => 0))), (q39, .inl (E.2.2 0, 12, .inl (fun _ => 0))), (q49, .inl (E.2.2 1, 12, .inl (fun _ => 0))), (q59, .inl (E.2.2 0, 12, .inl (fun _ => 0))), (q69, .inl (E.2.2 0, 12, .inl (fun _ => 0))), (q79, .inl (E.2.2 0, 8, .inl (fun _ => 0)))]) (kc' := 7) (ks' := 80) rfl rfl rfl rfl rfl ?_
  refine n_putF C N9 (ws' := [(h, .inr (2, [.ref q19, .ref q29, .ref q39, .ref q49, .ref q59, .ref q69, .ref q79, .null, .int 0, .int 0, .int 0, .int 0])), (q19, .inl (E.2.2 0, 12, .inl (fun _ => 0))), (q29, .inl (E.2.2 0, 12, .inl (fun _ => 0))), (q39, .inl (E.2.2 0, 12, .inl (fun _ => 0))), (q49, .inl (E.2.2 1, 12, .inl (fun _ => 0))), (q59, .inl (E.2.2 0, 12, .inl (fun _ => 0))), (q69, .inl (E.2.2 0, 12, .inl (fun _ => 0))), (q79, .inl (E.2.2 0, 8, .inl (fun _ => 0)))]) inX2 (ty := .array .int) tyX2 tyX2_ok nmX2 0 rfl rfl 6 (by decide) f31 rfl rfl (by decide +kernel) rfl rfl (Nat.le_of_ble_eq_true rfl) dX2_init_57 rfl ?_
  refine n_aload_n C dX2_init_60 rfl rfl ?_
  refine n_iconst C (v := 4) dX2_init_61 rfl ?_
  refine n_newa C (atype := .int) 0 (ty := .int) rfl rfl (by decide +kernel) (N' := 4) (by decide) rfl (Nat.le_of_ble_eq_true rfl) (Nat.le_of_ble_eq_true rfl) (Nat.le_of_ble_eq_true rfl) rfl dX2_init_62 (fun q89 => ?_)
  refine n_eq (ws' := [(h, .inr (2, [.ref q19, .ref q29, .ref q39, .ref q49, .ref q59, .ref q69, .ref q79, .null, .int 0, .int 0, .int 0, .int 0])), (q19, .inl (E.2.2 0, 12, .inl (fun _ => 0))), (q29, .inl (E.2.2 0, 12, .inl (fun _ => 0))), (q39, .inl (E.2.2 0, 12, .inl (fun _ => 0))), (q49, .inl (E.2.2 1, 12, .inl (fun _ => 0))), (q59, .inl (E.2.2 0, 12, .inl (fun _ => 0))), (q69, .inl (E.2.2 0, 12, .inl (fun _ => 0))), (q79, .inl (E.2.2 0, 8, .inl (fun _ => 0))), (q89, .inl (E.2.2 0, 4, .inl (fun _ => 0)))]) (kc' := 8) (ks' := 84) rfl rfl rfl rfl rfl ?_
  refine n_putF C N9 (ws' := [(h, .inr (2, [.ref q19, .ref q29, .ref q39, .ref q49, .ref q59, .ref q69, .ref q79, .ref q89, .int 0, .int 0, .int 0, .int 0])), (q19, .inl (E.2.2 0, 12, .inl (fun _ => 0))), (q29, .inl (E.2.2 0, 12, .inl (fun _ => 0))), (q39, .inl (E.2.2 0, 12, .inl (fun _ => 0))), (q49, .inl (E.2.2 1, 12, .inl (fun _ => 0))), (q59, .inl (E.2.2 0, 12, .inl (fun _ => 0))), (q69, .inl (E.2.2 0, 12, .inl (fun _ => 0))), (q79, .inl (E.2.2 0, 8, .inl (fun _ => 0))), (q89, .inl (E.2.2 0, 4, .inl (fun _ => 0)))]) inX2 (ty := .array .int) tyX2 tyX2_ok nmX2 0 rfl rfl 7 (by decide) f34 rfl rfl (by decide +kernel) rfl rfl (Nat.le_of_ble_eq_true rfl) dX2_init_64 rfl ?_
  refine n_aload_n C dX2_init_67 rfl rfl ?_
  refine n_iconst C (v := 0) dX2_init_68 rfl ?_
  refine n_put C (ws' := [(h, .inr (2, [.ref q19, .ref q29, .ref q39, .ref q49, .ref q59, .ref q69, .ref q79, .ref q89, .int 0, .int 0, .int 0, .int 0])), (q19, .inl (E.2.2 0, 12, .inl (fun _ => 0))), (q29, .inl (E.2.2 0, 12, .inl (fun _ => 0))), (q39, .inl (E.2.2 0, 12, .inl (fun _ => 0))), (q49, .inl (E.2.2 1, 12, .inl (fun _ => 0))), (q59, .inl (E.2.2 0, 12, .inl (fun _ => 0))), (q69, .inl (E.2.2 0, 12, .inl (fun _ => 0))), (q79, .inl (E.2.2 0, 8, .inl (fun _ => 0))), (q89, .inl (E.2.2 0, 4, .inl (fun _ => 0)))]) inX2 (ty := .int) tyX2 tyX2_ok nmX2 0 rfl rfl 8 (by decide) f37 rfl (by decide +kernel) rfl rfl (Nat.le_of_ble_eq_true rfl) dX2_init_69 rfl ?_
  refine n_aload_n C dX2_init_72 rfl rfl ?_
  refine n_iconst C (v := 0) dX2_init_73 rfl ?_
  refine n_put C (ws' := [(h, .inr (2, [.ref q19, .ref q29, .ref q39, .ref q49, .ref q59, .ref q69, .ref q79, .ref q89, .int 0, .int 0, .int 0, .int 0])), (q19, .inl (E.2.2 0, 12, .inl (fun _ => 0))), (q29, .inl (E.2.2 0, 12, .inl (fun _ => 0))), (q39, .inl (E.2.2 0, 12, .inl (fun _ => 0))), (q49, .inl (E.2.2 1, 12, .inl (fun _ => 0))), (q59, .inl (E.2.2 0, 12, .inl (fun _ => 0))), (q69, .inl (E.2.2 0, 12, .inl (fun _ => 0))), (q79, .inl (E.2.2 0, 8, .inl (fun _ => 0))), (q89, .inl (E.2.2 0, 4, .inl (fun _ => 0)))]) inX2 (ty := .int) tyX2 tyX2_ok nmX2 0 rfl rfl 9 (by decide) f41 rfl (by decide +kernel) rfl rfl (Nat.le_of_ble_eq_true rfl) dX2_init_74 rfl ?_
  refine n_aload_n C dX2_init_77 rfl rfl ?_
  refine n_bipush C (v := 30) dX2_init_78 rfl ?_
  refine n_put C (ws' := [(h, .inr (2, [.ref q19, .ref q29, .ref q39, .ref q49, .ref q59, .ref q69, .ref q79, .ref q89, .int 0, .int 0, .int 30, .int 0])), (q19, .inl (E.2.2 0, 12, .inl (fun _ => 0))), (q29, .inl (E.2.2 0, 12, .inl (fun _ => 0))), (q39, .inl (E.2.2 0, 12, .inl (fun _ => 0))), (q49, .inl (E.2.2 1, 12, .inl (fun _ => 0))), (q59, .inl (E.2.2 0, 12, .inl (fun _ => 0))), (q69, .inl (E.2.2 0, 12, .inl (fun _ => 0))), (q79, .inl (E.2.2 0, 8, .inl (fun _ => 0))), (q89, .inl (E.2.2 0, 4, .inl (fun _ => 0)))]) inX2 (ty := .int) tyX2 tyX2_ok nmX2 0 rfl rfl 10 (by decide) f44 rfl (by decide +kernel) rfl rfl (Nat.le_of_ble_eq_true rfl) dX2_init_80 rfl ?_
  refine n_aload_n C dX2_init_83 rfl rfl ?_
  refine n_iconst C (v := 1) dX2_init_84 rfl ?_
  refine n_put C (ws' := [(h, .inr (2, [.ref q19, .ref q29, .ref q39, .ref q49, .ref q59, .ref q69, .ref q79, .ref q89, .int 0, .int 0, .int 30, .int 1])), (q19, .inl (E.2.2 0, 12, .inl (fun _ => 0))), (q29, .inl (E.2.2 0, 12, .inl (fun _ => 0))), (q39, .inl (E.2.2 0, 12, .inl (fun _ => 0))), (q49, .inl (E.2.2 1, 12, .inl (fun _ => 0))), (q59, .inl (E.2.2 0, 12, .inl (fun _ => 0))), (q69, .inl (E.2.2 0, 12, .inl (fun _ => 0))), (q79, .inl (E.2.2 0, 8, .inl (fun _ => 0))), (q89, .inl (E.2.2 0, 4, .inl (fun _ => 0)))]) inX2 (ty := .int) tyX2 tyX2_ok nmX2 0 rfl rfl 11 (by decide) f47 rfl (by decide +kernel) rfl rfl (Nat.le_of_ble_eq_true rfl) dX2_init_85 rfl ?_
  refine n_iconst C (v := 0) dX2_init_88 rfl ?_
  refine n_istore_n C dX2_init_89 rfl (Nat.le_of_ble_eq_true rfl) rfl ?_
  have lp2 : ∀ (n i : Nat), 8 - i < n → i ≤ 8 → GN E x 8 84 [(h, .inr (2, [.ref q19, .ref q29, .ref q39, .ref q49, .ref q59, .ref q69, .ref q79, .ref q89, .int 0, .int 0, .int 30, .int 1])), (q19, .inl (E.2.2 0, 12, .inl (fun _ => 0))), (q29, .inl (E.2.2 0, 12, .inl (stN 12))), (q39, .inl (E.2.2 0, 12, .inl (fun _ => 0))), (q49, .inl (E.2.2 1, 12, .inl (fun _ => 0))), (q59, .inl (E.2.2 0, 12, .inl (fun _ => 0))), (q69, .inl (E.2.2 0, 12, .inl (fun _ => 0))), (q79, .inl (E.2.2 0, 8, .inl (wiN i))), (q89, .inl (E.2.2 0, 4, .inl (fun _ => 0)))] [some (.ref h), some (.int (nI i))] 111 [] := by
    intro n
    induction n with
    | zero => intro i h1; omega
    | succ n ih =>
      intro i hn hi
      refine n_iload_n C dX2_init_111 rfl rfl ?_
      refine n_bipush C (v := 8) dX2_init_112 rfl ?_
      refine n_icmp_ge C (tgt := 130) dX2_init_114 (by decide) (fun hc_114 => ?_) (fun hc_114 => ?_)
      · have hn_114 : (8) ≤ (i) := (nI_leI (a := (8)) (b := (i)) (by omega) (by omega)).mp hc_114
        have e8 : i = 8 := by omega
        subst e8
        refine n_vret C R0 dX2_init_130 ?_
        exact ⟨adr [q19, q29, q39, q49, q59, q69, q79, q89], rfl⟩
      · have hn_114 : ¬ (8) ≤ (i) := fun z => hc_114 ((nI_leI (a := (8)) (b := (i)) (by omega) (by omega)).mpr z)
        refine n_aload_n C dX2_init_117 rfl rfl ?_
        refine n_get C inX2 0 rfl rfl 6 (by decide) f31 rfl dX2_init_118 ?_
        refine n_iload_n C dX2_init_121 rfl rfl ?_
        refine n_iconst C (v := 2) dX2_init_122 rfl ?_
        refine n_iast C (ws' := [(h, .inr (2, [.ref q19, .ref q29, .ref q39, .ref q49, .ref q59, .ref q69, .ref q79, .ref q89, .int 0, .int 0, .int 30, .int 1])), (q19, .inl (E.2.2 0, 12, .inl (fun _ => 0))), (q29, .inl (E.2.2 0, 12, .inl (stN 12))), (q39, .inl (E.2.2 0, 12, .inl (fun _ => 0))), (q49, .inl (E.2.2 1, 12, .inl (fun _ => 0))), (q59, .inl (E.2.2 0, 12, .inl (fun _ => 0))), (q69, .inl (E.2.2 0, 12, .inl (fun _ => 0))), (q79, .inl (E.2.2 0, 8, .inl (upd (wiN i) (i) 2))), (q89, .inl (E.2.2 0, 4, .inl (fun _ => 0)))]) 7 rfl (i) rfl (by omega) (Nat.le_of_ble_eq_true rfl) dX2_init_123 rfl ?_
        refine n_iinc C (v := (nI (i + 1))) dX2_init_124 rfl rfl (nI_add (i) 1) ?_
        refine n_goto C (tgt := 111) dX2_init_127 (by decide) ?_
        exact ih (i + 1) (by omega) (by omega)
  have lp1 : ∀ (n i : Nat), 12 - i < n → i ≤ 12 → GN E x 8 84 [(h, .inr (2, [.ref q19, .ref q29, .ref q39, .ref q49, .ref q59, .ref q69, .ref q79, .ref q89, .int 0, .int 0, .int 30, .int 1])), (q19, .inl (E.2.2 0, 12, .inl (fun _ => 0))), (q29, .inl (E.2.2 0, 12, .inl (stN i))), (q39, .inl (E.2.2 0, 12, .inl (fun _ => 0))), (q49, .inl (E.2.2 1, 12, .inl (fun _ => 0))), (q59, .inl (E.2.2 0, 12, .inl (fun _ => 0))), (q69, .inl (E.2.2 0, 12, .inl (fun _ => 0))), (q79, .inl (E.2.2 0, 8, .inl (fun _ => 0))), (q89, .inl (E.2.2 0, 4, .inl (fun _ => 0)))] [some (.ref h), some (.int (nI i))] 90 [] := by
    intro n
    induction n with
    | zero => intro i h1; omega
    | succ n ih =>
      intro i hn hi
      refine n_iload_n C dX2_init_90 rfl rfl ?_
      refine n_bipush C (v := 12) dX2_init_91 rfl ?_
      refine n_icmp_ge C (tgt := 109) dX2_init_93 (by decide) (fun hc_93 => ?_) (fun hc_93 => ?_)
      · have hn_93 : (12) ≤ (i) := (nI_leI (a := (12)) (b := (i)) (by omega) (by omega)).mp hc_93
        have e12 : i = 12 := by omega
        subst e12
        refine n_iconst C (v := 0) dX2_init_109 rfl ?_
        refine n_istore_n C dX2_init_110 rfl (Nat.le_of_ble_eq_true rfl) rfl ?_
        exact lp2 9 0 (by omega) (by omega)
      · have hn_93 : ¬ (12) ≤ (i) := fun z => hc_93 ((nI_leI (a := (12)) (b := (i)) (by omega) (by omega)).mpr z)
        refine n_aload_n C dX2_init_96 rfl rfl ?_
        refine n_get C inX2 0 rfl rfl 1 (by decide) f15 rfl dX2_init_97 ?_
        refine n_iload_n C dX2_init_100 rfl rfl ?_
        refine n_iconst C (v := (-1)) dX2_init_101 rfl ?_
        refine n_iast C (ws' := [(h, .inr (2, [.ref q19, .ref q29, .ref q39, .ref q49, .ref q59, .ref q69, .ref q79, .ref q89, .int 0, .int 0, .int 30, .int 1])), (q19, .inl (E.2.2 0, 12, .inl (fun _ => 0))), (q29, .inl (E.2.2 0, 12, .inl (upd (stN i) (i) (-1)))), (q39, .inl (E.2.2 0, 12, .inl (fun _ => 0))), (q49, .inl (E.2.2 1, 12, .inl (fun _ => 0))), (q59, .inl (E.2.2 0, 12, .inl (fun _ => 0))), (q69, .inl (E.2.2 0, 12, .inl (fun _ => 0))), (q79, .inl (E.2.2 0, 8, .inl (fun _ => 0))), (q89, .inl (E.2.2 0, 4, .inl (fun _ => 0)))]) 2 rfl (i) rfl (by omega) (Nat.le_of_ble_eq_true rfl) dX2_init_102 rfl ?_
        refine n_iinc C (v := (nI (i + 1))) dX2_init_103 rfl rfl (nI_add (i) 1) ?_
        refine n_goto C (tgt := 90) dX2_init_106 (by decide) ?_
        exact ih (i + 1) (by omega) (by omega)
  exact lp1 13 0 (by omega) (by omega)
set_option maxHeartbeats 4000000 in
set_option maxRecDepth 100000 in
theorem c_X1_init (E : Ev) (h : Nat) : NV E yX1_init wsX1_init 1 4 320 [(h, .inr (1, [.null, .int 0, .null, .null, .null, .int 0, .int 0, .int 0, .int 0]))] [.ref h] (fun w => ∃ a, w = scrW E h a (fun _ => 0) 0 (fun _ => 0, fun _ => 0, fun _ => 0, 0, 0, 0, 0)) := by
  have inX1 : ∀ w ∈ u_ws RX1 TX1 9, w ∈ wsX1_init := by decide +kernel
  have f9 : Cond.fieldLink RX1 9 (TX1 0).1 (TX1 0).2.1 (TX1 0).2.2.1 ∈ wsX1_init := by decide +kernel
  have f15 : Cond.fieldLink RX1 15 (TX1 1).1 (TX1 1).2.1 (TX1 1).2.2.1 ∈ wsX1_init := by decide +kernel
  have f19 : Cond.fieldLink RX1 19 (TX1 2).1 (TX1 2).2.1 (TX1 2).2.2.1 ∈ wsX1_init := by decide +kernel
  have f23 : Cond.fieldLink RX1 23 (TX1 3).1 (TX1 3).2.1 (TX1 3).2.2.1 ∈ wsX1_init := by decide +kernel
  have f26 : Cond.fieldLink RX1 26 (TX1 4).1 (TX1 4).2.1 (TX1 4).2.2.1 ∈ wsX1_init := by decide +kernel
  have f29 : Cond.fieldLink RX1 29 (TX1 5).1 (TX1 5).2.1 (TX1 5).2.2.1 ∈ wsX1_init := by decide +kernel
  have f32 : Cond.fieldLink RX1 32 (TX1 6).1 (TX1 6).2.1 (TX1 6).2.2.1 ∈ wsX1_init := by decide +kernel
  have f35 : Cond.fieldLink RX1 35 (TX1 7).1 (TX1 7).2.1 (TX1 7).2.2.1 ∈ wsX1_init := by decide +kernel
  have f38 : Cond.fieldLink RX1 38 (TX1 8).1 (TX1 8).2.1 (TX1 8).2.2.1 ∈ wsX1_init := by decide +kernel
  refine NV.of (cc := cX1_init) (nL := 1) (own := RX1) [some (.ref h)] (by decide +kernel) rfl rfl rfl (Nat.le_of_ble_eq_true rfl) rfl rfl ?_
  intro x C N9 R0
  refine n_aload_n C dX1_init_0 rfl rfl ?_
  refine n_objInit C (by decide +kernel : Cond.methodLink RX1 3 Lib.objectInit ∈ wsX1_init) (by decide +kernel) (by decide +kernel) ⟨Nat.le_of_ble_eq_true rfl, Nat.le_of_ble_eq_true rfl⟩ dX1_init_1 ?_
  refine n_aload_n C dX1_init_4 rfl rfl ?_
  refine n_bipush C (v := 80) dX1_init_5 rfl ?_
  refine n_newa C (atype := .char) 2 (ty := .char) rfl rfl (by decide +kernel) (N' := 80) (by decide) rfl (Nat.le_of_ble_eq_true rfl) (Nat.le_of_ble_eq_true rfl) (Nat.le_of_ble_eq_true rfl) rfl dX1_init_7 (fun q19 => ?_)
  refine n_eq (ws' := [(h, .inr (1, [.null, .int 0, .null, .null, .null, .int 0, .int 0, .int 0, .int 0])), (q19, .inl (E.2.2 2, 80, .inl (fun _ => 0)))]) (kc' := 1) (ks' := 80) rfl rfl rfl rfl rfl ?_
  refine n_putF C N9 (ws' := [(h, .inr (1, [.ref q19, .int 0, .null, .null, .null, .int 0, .int 0, .int 0, .int 0])), (q19, .inl (E.2.2 2, 80, .inl (fun _ => 0)))]) inX1 (ty := .array .char) tyX1 tyX1_ok nmX1 0 rfl rfl 0 (by decide) f9 rfl rfl (by decide +kernel) rfl rfl (Nat.le_of_ble_eq_true rfl) dX1_init_9 rfl ?_
  refine n_aload_n C dX1_init_12 rfl rfl ?_
  refine n_iconst C (v := 0) dX1_init_13 rfl ?_
  refine n_put C (ws' := [(h, .inr (1, [.ref q19, .int 0, .null, .null, .null, .int 0, .int 0, .int 0, .int 0])), (q19, .inl (E.2.2 2, 80, .inl (fun _ => 0)))]) inX1 (ty := .int) tyX1 tyX1_ok nmX1 0 rfl rfl 1 (by decide) f15 rfl (by decide +kernel) rfl rfl (Nat.le_of_ble_eq_true rfl) dX1_init_14 rfl ?_
  refine n_aload_n C dX1_init_17 rfl rfl ?_
  refine n_bipush C (v := 80) dX1_init_18 rfl ?_
  refine n_newa C (atype := .int) 0 (ty := .int) rfl rfl (by decide +kernel) (N' := 80) (by decide) rfl (Nat.le_of_ble_eq_true rfl) (Nat.le_of_ble_eq_true rfl) (Nat.le_of_ble_eq_true rfl) rfl dX1_init_20 (fun q29 => ?_)
  refine n_eq (ws' := [(h, .inr (1, [.ref q19, .int 0, .null, .null, .null, .int 0, .int 0, .int 0, .int 0])), (q19, .inl (E.2.2 2, 80, .inl (fun _ => 0))), (q29, .inl (E.2.2 0, 80, .inl (fun _ => 0)))]) (kc' := 2) (ks' := 160) rfl rfl rfl rfl rfl ?_
  refine n_putF C N9 (ws' := [(h, .inr (1, [.ref q19, .int 0, .ref q29, .null, .null, .int 0, .int 0, .int 0, .int 0])), (q19, .inl (E.2.2 2, 80, .inl (fun _ => 0))), (q29, .inl (E.2.2 0, 80, .inl (fun _ => 0)))]) inX1 (ty := .array .int) tyX1 tyX1_ok nmX1 0 rfl rfl 2 (by decide) f19 rfl rfl (by decide +kernel) rfl rfl (Nat.le_of_ble_eq_true rfl) dX1_init_22 rfl ?_
  refine n_aload_n C dX1_init_25 rfl rfl ?_
  refine n_bipush C (v := 80) dX1_init_26 rfl ?_
  refine n_newa C (atype := .int) 0 (ty := .int) rfl rfl (by decide +kernel) (N' := 80) (by decide) rfl (Nat.le_of_ble_eq_true rfl) (Nat.le_of_ble_eq_true rfl) (Nat.le_of_ble_eq_true rfl) rfl dX1_init_28 (fun q39 => ?_)
  refine n_eq (ws' := [(h, .inr (1, [.ref q19, .int 0, .ref q29, .null, .null, .int 0, .int 0, .int 0, .int 0])), (q19, .inl (E.2.2 2, 80, .inl (fun _ => 0))), (q29, .inl (E.2.2 0, 80, .inl (fun _ => 0))), (q39, .inl (E.2.2 0, 80, .inl (fun _ => 0)))]) (kc' := 3) (ks' := 240) rfl rfl rfl rfl rfl ?_
  refine n_putF C N9 (ws' := [(h, .inr (1, [.ref q19, .int 0, .ref q29, .ref q39, .null, .int 0, .int 0, .int 0, .int 0])), (q19, .inl (E.2.2 2, 80, .inl (fun _ => 0))), (q29, .inl (E.2.2 0, 80, .inl (fun _ => 0))), (q39, .inl (E.2.2 0, 80, .inl (fun _ => 0)))]) inX1 (ty := .array .int) tyX1 tyX1_ok nmX1 0 rfl rfl 3 (by decide) f23 rfl rfl (by decide +kernel) rfl rfl (Nat.le_of_ble_eq_true rfl) dX1_init_30 rfl ?_
  refine n_aload_n C dX1_init_33 rfl rfl ?_
  refine n_bipush C (v := 80) dX1_init_34 rfl ?_
  refine n_newa C (atype := .int) 0 (ty := .int) rfl rfl (by decide +kernel) (N' := 80) (by decide) rfl (Nat.le_of_ble_eq_true rfl) (Nat.le_of_ble_eq_true rfl) (Nat.le_of_ble_eq_true rfl) rfl dX1_init_36 (fun q49 => ?_)
  refine n_eq (ws' := [(h, .inr (1, [.ref q19, .int 0, .ref q29, .ref q39, .null, .int 0, .int 0, .int 0, .int 0])), (q19, .inl (E.2.2 2, 80, .inl (fun _ => 0))), (q29, .inl (E.2.2 0, 80, .inl (fun _ => 0))), (q39, .inl (E.2.2 0, 80, .inl (fun _ => 0))), (q49, .inl (E.2.2 0, 80, .inl (fun _ => 0)))]) (kc' := 4) (ks' := 320) rfl rfl rfl rfl rfl ?_
  refine n_putF C N9 (ws' := [(h, .inr (1, [.ref q19, .int 0, .ref q29, .ref q39, .ref q49, .int 0, .int 0, .int 0, .int 0])), (q19, .inl (E.2.2 2, 80, .inl (fun _ => 0))), (q29, .inl (E.2.2 0, 80, .inl (fun _ => 0))), (q39, .inl (E.2.2 0, 80, .inl (fun _ => 0))), (q49, .inl (E.2.2 0, 80, .inl (fun _ => 0)))]) inX1 (ty := .array .int) tyX1 tyX1_ok nmX1 0 rfl rfl 4 (by decide) f26 rfl rfl (by decide +kernel) rfl rfl (Nat.le_of_ble_eq_true rfl) dX1_init_38 rfl ?_
  refine n_aload_n C dX1_init_41 rfl rfl ?_
  refine n_iconst C (v := 0) dX1_init_42 rfl ?_
  refine n_put C (ws' := [(h, .inr (1, [.ref q19, .int 0, .ref q29, .ref q39, .ref q49, .int 0, .int 0, .int 0, .int 0])), (q19, .inl (E.2.2 2, 80, .inl (fun _ => 0))), (q29, .inl (E.2.2 0, 80, .inl (fun _ => 0))), (q39, .inl (E.2.2 0, 80, .inl (fun _ => 0))), (q49, .inl (E.2.2 0, 80, .inl (fun _ => 0)))]) inX1 (ty := .int) tyX1 tyX1_ok nmX1 0 rfl rfl 5 (by decide) f29 rfl (by decide +kernel) rfl rfl (Nat.le_of_ble_eq_true rfl) dX1_init_43 rfl ?_
  refine n_aload_n C dX1_init_46 rfl rfl ?_
  refine n_iconst C (v := 0) dX1_init_47 rfl ?_
  refine n_put C (ws' := [(h, .inr (1, [.ref q19, .int 0, .ref q29, .ref q39, .ref q49, .int 0, .int 0, .int 0, .int 0])), (q19, .inl (E.2.2 2, 80, .inl (fun _ => 0))), (q29, .inl (E.2.2 0, 80, .inl (fun _ => 0))), (q39, .inl (E.2.2 0, 80, .inl (fun _ => 0))), (q49, .inl (E.2.2 0, 80, .inl (fun _ => 0)))]) inX1 (ty := .int) tyX1 tyX1_ok nmX1 0 rfl rfl 6 (by decide) f32 rfl (by decide +kernel) rfl rfl (Nat.le_of_ble_eq_true rfl) dX1_init_48 rfl ?_
  refine n_aload_n C dX1_init_51 rfl rfl ?_
  refine n_iconst C (v := 0) dX1_init_52 rfl ?_
  refine n_put C (ws' := [(h, .inr (1, [.ref q19, .int 0, .ref q29, .ref q39, .ref q49, .int 0, .int 0, .int 0, .int 0])), (q19, .inl (E.2.2 2, 80, .inl (fun _ => 0))), (q29, .inl (E.2.2 0, 80, .inl (fun _ => 0))), (q39, .inl (E.2.2 0, 80, .inl (fun _ => 0))), (q49, .inl (E.2.2 0, 80, .inl (fun _ => 0)))]) inX1 (ty := .int) tyX1 tyX1_ok nmX1 0 rfl rfl 7 (by decide) f35 rfl (by decide +kernel) rfl rfl (Nat.le_of_ble_eq_true rfl) dX1_init_53 rfl ?_
  refine n_aload_n C dX1_init_56 rfl rfl ?_
  refine n_iconst C (v := 0) dX1_init_57 rfl ?_
  refine n_put C (ws' := [(h, .inr (1, [.ref q19, .int 0, .ref q29, .ref q39, .ref q49, .int 0, .int 0, .int 0, .int 0])), (q19, .inl (E.2.2 2, 80, .inl (fun _ => 0))), (q29, .inl (E.2.2 0, 80, .inl (fun _ => 0))), (q39, .inl (E.2.2 0, 80, .inl (fun _ => 0))), (q49, .inl (E.2.2 0, 80, .inl (fun _ => 0)))]) inX1 (ty := .int) tyX1 tyX1_ok nmX1 0 rfl rfl 8 (by decide) f38 rfl (by decide +kernel) rfl rfl (Nat.le_of_ble_eq_true rfl) dX1_init_58 rfl ?_
  refine n_vret C R0 dX1_init_61 ?_
  exact ⟨adr [q19, q29, q39, q49], rfl⟩
set_option maxHeartbeats 4000000 in
set_option maxRecDepth 100000 in
theorem c_X0_init (E : Ev) (h : Nat) : NV E yX0_init wsX0_init 2 37 388 [(h, .inr (0, [.null, .int 0, .int 0]))] [.ref h] (fun w => ∃ (r : Nat) (hh : Nat → Nat) (aa : Nat → Nat → Nat), w = hisBk E h r hh 0 0 ++ (skyW E (hh 0) (aa 0) sky0 ++ (skyW E (hh 1) (aa 1) sky0 ++ (skyW E (hh 2) (aa 2) sky0 ++ (skyW E (hh 3) (aa 3) sky0 ++ []))))) := by
  have inX0 : ∀ w ∈ u_ws RX0 TX0 3, w ∈ wsX0_init := by decide +kernel
  have f11 : Cond.fieldLink RX0 11 (TX0 0).1 (TX0 0).2.1 (TX0 0).2.2.1 ∈ wsX0_init := by decide +kernel
  have f17 : Cond.fieldLink RX0 17 (TX0 1).1 (TX0 1).2.1 (TX0 1).2.2.1 ∈ wsX0_init := by decide +kernel
  have f21 : Cond.fieldLink RX0 21 (TX0 2).1 (TX0 2).2.1 (TX0 2).2.2.1 ∈ wsX0_init := by decide +kernel
  have inX2 : ∀ w ∈ u_ws RX2 TX2 12, w ∈ wsX0_init := by decide +kernel
  refine NV.of (cc := cX0_init) (nL := 2) (own := RX0) [some (.ref h), none] (by decide +kernel) rfl rfl rfl (Nat.le_of_ble_eq_true rfl) rfl rfl ?_
  intro x C N9 R0
  refine n_aload_n C dX0_init_0 rfl rfl ?_
  refine n_objInit C (by decide +kernel : Cond.methodLink RX0 3 Lib.objectInit ∈ wsX0_init) (by decide +kernel) (by decide +kernel) ⟨Nat.le_of_ble_eq_true rfl, Nat.le_of_ble_eq_true rfl⟩ dX0_init_1 ?_
  refine n_aload_n C dX0_init_4 rfl rfl ?_
  refine n_iconst C (v := 4) dX0_init_5 rfl ?_
  refine n_newq C N9 (by decide +kernel : Cond.classLink RX0 9 "KiteRegisters$Sky" ∈ wsX0_init) (N' := 4) (by decide) rfl (Nat.le_of_ble_eq_true rfl) (Nat.le_of_ble_eq_true rfl) (Nat.le_of_ble_eq_true rfl) dX0_init_6 (fun q19 => ?_)
  refine n_eq (ws' := [(h, .inr (0, [.null, .int 0, .int 0])), (q19, .inl (E.2.2 3, 4, .inr (.inr (.inr (.inr (fun _ => none))))))]) (kc' := 1) (ks' := 4) rfl rfl rfl rfl rfl ?_
  refine n_putF C N9 (ws' := [(h, .inr (0, [.ref q19, .int 0, .int 0])), (q19, .inl (E.2.2 3, 4, .inr (.inr (.inr (.inr (fun _ => none))))))]) inX0 (ty := .array (.object "KiteRegisters$Sky")) tyX0 tyX0_ok nmX0 0 rfl rfl 0 (by decide) f11 rfl rfl (by decide +kernel) rfl rfl (Nat.le_of_ble_eq_true rfl) dX0_init_9 rfl ?_
  refine n_aload_n C dX0_init_12 rfl rfl ?_
  refine n_iconst C (v := 0) dX0_init_13 rfl ?_
  refine n_put C (ws' := [(h, .inr (0, [.ref q19, .int 0, .int 0])), (q19, .inl (E.2.2 3, 4, .inr (.inr (.inr (.inr (fun _ => none))))))]) inX0 (ty := .int) tyX0 tyX0_ok nmX0 0 rfl rfl 1 (by decide) f17 rfl (by decide +kernel) rfl rfl (Nat.le_of_ble_eq_true rfl) dX0_init_14 rfl ?_
  refine n_aload_n C dX0_init_17 rfl rfl ?_
  refine n_iconst C (v := 0) dX0_init_18 rfl ?_
  refine n_put C (ws' := [(h, .inr (0, [.ref q19, .int 0, .int 0])), (q19, .inl (E.2.2 3, 4, .inr (.inr (.inr (.inr (fun _ => none))))))]) inX0 (ty := .int) tyX0 tyX0_ok nmX0 0 rfl rfl 2 (by decide) f21 rfl (by decide +kernel) rfl rfl (Nat.le_of_ble_eq_true rfl) dX0_init_19 rfl ?_
  refine n_iconst C (v := 0) dX0_init_22 rfl ?_
  refine n_istore_n C dX0_init_23 rfl (Nat.le_of_ble_eq_true rfl) rfl ?_
  refine n_eq (ws' := [(h, .inr (0, [.ref q19, .int 0, .int 0])), (q19, .inl (E.2.2 3, 4, .inr (.inr (.inr (.inr (fun _ => none))))))]) (lv' := [some (.ref h), some (.int 0)]) (kc' := 1) (ks' := 4) rfl rfl rfl rfl rfl ?_
  refine n_iload_n C dX0_init_24 rfl rfl ?_
  refine n_iconst C (v := 4) dX0_init_25 rfl ?_
  refine n_icmp_ge_f C dX0_init_26 48 (by decide) (by decide) ?_
  refine n_aload_n C dX0_init_29 rfl rfl ?_
  refine n_get C inX0 0 rfl rfl 0 (by decide) f11 rfl dX0_init_30 ?_
  refine n_iload_n C dX0_init_33 rfl rfl ?_
  refine n_new C inX2 tyX2 tyX2_ok (by decide +kernel : Cond.classLink RX0 9 RX2 ∈ wsX0_init) (by decide +kernel : Cond.instantiable RX2 12 ∈ wsX0_init) (by decide +kernel) (ci := 2) rfl [.null, .null, .null, .null, .null, .null, .null, .null, .int 0, .int 0, .int 0, .int 0] dvX2 (Nat.le_of_ble_eq_true rfl) (Nat.le_of_ble_eq_true rfl) dX0_init_34 (fun q29 => ?_)
  refine n_eq (ws' := [(h, .inr (0, [.ref q19, .int 0, .int 0])), (q19, .inl (E.2.2 3, 4, .inr (.inr (.inr (.inr (fun _ => none))))))] ++ [(q29, .inr (2, [.null, .null, .null, .null, .null, .null, .null, .null, .int 0, .int 0, .int 0, .int 0]))]) (kc' := 2) (ks' := 16) rfl rfl rfl rfl rfl ?_
  refine n_dup C dX0_init_37 rfl ?_
  refine n_init C N9 (c_X2_init E q29) rfl ⟨by decide +kernel, by decide +kernel, by decide +kernel⟩ ggX0_init_X2_init (by decide +kernel) (by decide +kernel) rfl (List.mem_of_getElem? (i := 2) rfl) ⟨Nat.le_of_ble_eq_true rfl, Nat.le_of_ble_eq_true rfl⟩ ⟨Nat.le_of_ble_eq_true rfl, Nat.le_of_ble_eq_true rfl⟩ rfl (Nat.le_of_ble_eq_true rfl) dX0_init_38 (fun w1 hp => ?_)
  obtain ⟨a09, rfl⟩ := hp
  refine n_eq (ws' := (([(h, .inr (0, [.ref q19, .int 0, .int 0])), (q19, .inl (E.2.2 3, 4, .inr (.inr (.inr (.inr (fun _ => none))))))] : va_W) ++ (skyW E q29 a09 sky0 ++ ([])))) (kc' := 10) (ks' := 100) rfl rfl rfl rfl rfl ?_
  refine n_aast C (ws' := (([(h, .inr (0, [.ref q19, .int 0, .int 0])), (q19, .inl (E.2.2 3, 4, .inr (.inr (.inr (.inr (va_up (fun _ => none) 0 (some q29)))))))] : va_W) ++ (skyW E q29 a09 sky0 ++ ([])))) 1 2 rfl rfl (ci := 2) rfl rfl 0 rfl (by decide) (Nat.le_of_ble_eq_true rfl) dX0_init_41 rfl ?_
  refine n_iinc C (v := 1) dX0_init_42 rfl rfl rfl ?_
  refine n_goto C (tgt := 24) dX0_init_45 (by decide) ?_
  refine n_eq (ws' := (([(h, .inr (0, [.ref q19, .int 0, .int 0])), (q19, .inl (E.2.2 3, 4, .inr (.inr (.inr (.inr (va_up (fun _ => none) 0 (some q29)))))))] : va_W) ++ (skyW E q29 a09 sky0 ++ ([])))) (lv' := [some (.ref h), some (.int 1)]) (kc' := 10) (ks' := 100) rfl rfl rfl rfl rfl ?_
  refine n_iload_n C dX0_init_24 rfl rfl ?_
  refine n_iconst C (v := 4) dX0_init_25 rfl ?_
  refine n_icmp_ge_f C dX0_init_26 48 (by decide) (by decide) ?_
  refine n_aload_n C dX0_init_29 rfl rfl ?_
  refine n_get C inX0 0 rfl rfl 0 (by decide) f11 rfl dX0_init_30 ?_
  refine n_iload_n C dX0_init_33 rfl rfl ?_
  refine n_new C inX2 tyX2 tyX2_ok (by decide +kernel : Cond.classLink RX0 9 RX2 ∈ wsX0_init) (by decide +kernel : Cond.instantiable RX2 12 ∈ wsX0_init) (by decide +kernel) (ci := 2) rfl [.null, .null, .null, .null, .null, .null, .null, .null, .int 0, .int 0, .int 0, .int 0] dvX2 (Nat.le_of_ble_eq_true rfl) (Nat.le_of_ble_eq_true rfl) dX0_init_34 (fun q39 => ?_)
  refine n_eq (ws' := (([(h, .inr (0, [.ref q19, .int 0, .int 0])), (q19, .inl (E.2.2 3, 4, .inr (.inr (.inr (.inr (va_up (fun _ => none) 0 (some q29)))))))] : va_W) ++ (skyW E q29 a09 sky0 ++ ([]))) ++ [(q39, .inr (2, [.null, .null, .null, .null, .null, .null, .null, .null, .int 0, .int 0, .int 0, .int 0]))]) (kc' := 11) (ks' := 112) rfl rfl rfl rfl rfl ?_
  refine n_dup C dX0_init_37 rfl ?_
  refine n_init C N9 (c_X2_init E q39) rfl ⟨by decide +kernel, by decide +kernel, by decide +kernel⟩ ggX0_init_X2_init (by decide +kernel) (by decide +kernel) rfl (List.mem_of_getElem? (i := 2) rfl) ⟨Nat.le_of_ble_eq_true rfl, Nat.le_of_ble_eq_true rfl⟩ ⟨Nat.le_of_ble_eq_true rfl, Nat.le_of_ble_eq_true rfl⟩ rfl (Nat.le_of_ble_eq_true rfl) dX0_init_38 (fun w1 hp => ?_)
  obtain ⟨a19, rfl⟩ := hp
  refine n_eq (ws' := (([(h, .inr (0, [.ref q19, .int 0, .int 0])), (q19, .inl (E.2.2 3, 4, .inr (.inr (.inr (.inr (va_up (fun _ => none) 0 (some q29)))))))] : va_W) ++ (skyW E q29 a09 sky0 ++ (skyW E q39 a19 sky0 ++ ([]))))) (kc' := 19) (ks' := 196) rfl rfl rfl rfl rfl ?_
  refine n_aast C (ws' := (([(h, .inr (0, [.ref q19, .int 0, .int 0])), (q19, .inl (E.2.2 3, 4, .inr (.inr (.inr (.inr (va_up (va_up (fun _ => none) 0 (some q29)) 1 (some q39)))))))] : va_W) ++ (skyW E q29 a09 sky0 ++ (skyW E q39 a19 sky0 ++ ([]))))) 1 11 rfl rfl (ci := 2) rfl rfl 1 rfl (by decide) (Nat.le_of_ble_eq_true rfl) dX0_init_41 rfl ?_
  refine n_iinc C (v := 2) dX0_init_42 rfl rfl rfl ?_
  refine n_goto C (tgt := 24) dX0_init_45 (by decide) ?_
  refine n_eq (ws' := (([(h, .inr (0, [.ref q19, .int 0, .int 0])), (q19, .inl (E.2.2 3, 4, .inr (.inr (.inr (.inr (va_up (va_up (fun _ => none) 0 (some q29)) 1 (some q39)))))))] : va_W) ++ (skyW E q29 a09 sky0 ++ (skyW E q39 a19 sky0 ++ ([]))))) (lv' := [some (.ref h), some (.int 2)]) (kc' := 19) (ks' := 196) rfl rfl rfl rfl rfl ?_
  refine n_iload_n C dX0_init_24 rfl rfl ?_
  refine n_iconst C (v := 4) dX0_init_25 rfl ?_
  refine n_icmp_ge_f C dX0_init_26 48 (by decide) (by decide) ?_
  refine n_aload_n C dX0_init_29 rfl rfl ?_
  refine n_get C inX0 0 rfl rfl 0 (by decide) f11 rfl dX0_init_30 ?_
  refine n_iload_n C dX0_init_33 rfl rfl ?_
  refine n_new C inX2 tyX2 tyX2_ok (by decide +kernel : Cond.classLink RX0 9 RX2 ∈ wsX0_init) (by decide +kernel : Cond.instantiable RX2 12 ∈ wsX0_init) (by decide +kernel) (ci := 2) rfl [.null, .null, .null, .null, .null, .null, .null, .null, .int 0, .int 0, .int 0, .int 0] dvX2 (Nat.le_of_ble_eq_true rfl) (Nat.le_of_ble_eq_true rfl) dX0_init_34 (fun q49 => ?_)
  refine n_eq (ws' := (([(h, .inr (0, [.ref q19, .int 0, .int 0])), (q19, .inl (E.2.2 3, 4, .inr (.inr (.inr (.inr (va_up (va_up (fun _ => none) 0 (some q29)) 1 (some q39)))))))] : va_W) ++ (skyW E q29 a09 sky0 ++ (skyW E q39 a19 sky0 ++ ([])))) ++ [(q49, .inr (2, [.null, .null, .null, .null, .null, .null, .null, .null, .int 0, .int 0, .int 0, .int 0]))]) (kc' := 20) (ks' := 208) rfl rfl rfl rfl rfl ?_
  refine n_dup C dX0_init_37 rfl ?_
  refine n_init C N9 (c_X2_init E q49) rfl ⟨by decide +kernel, by decide +kernel, by decide +kernel⟩ ggX0_init_X2_init (by decide +kernel) (by decide +kernel) rfl (List.mem_of_getElem? (i := 2) rfl) ⟨Nat.le_of_ble_eq_true rfl, Nat.le_of_ble_eq_true rfl⟩ ⟨Nat.le_of_ble_eq_true rfl, Nat.le_of_ble_eq_true rfl⟩ rfl (Nat.le_of_ble_eq_true rfl) dX0_init_38 (fun w1 hp => ?_)
  obtain ⟨a29, rfl⟩ := hp
  refine n_eq (ws' := (([(h, .inr (0, [.ref q19, .int 0, .int 0])), (q19, .inl (E.2.2 3, 4, .inr (.inr (.inr (.inr (va_up (va_up (fun _ => none) 0 (some q29)) 1 (some q39)))))))] : va_W) ++ (skyW E q29 a09 sky0 ++ (skyW E q39 a19 sky0 ++ (skyW E q49 a29 sky0 ++ ([])))))) (kc' := 28) (ks' := 292) rfl rfl rfl rfl rfl ?_
  refine n_aast C (ws' := (([(h, .inr (0, [.ref q19, .int 0, .int 0])), (q19, .inl (E.2.2 3, 4, .inr (.inr (.inr (.inr (va_up (va_up (va_up (fun _ => none) 0 (some q29)) 1 (some q39)) 2 (some q49)))))))] : va_W) ++ (skyW E q29 a09 sky0 ++ (skyW E q39 a19 sky0 ++ (skyW E q49 a29 sky0 ++ ([])))))) 1 20 rfl rfl (ci := 2) rfl rfl 2 rfl (by decide) (Nat.le_of_ble_eq_true rfl) dX0_init_41 rfl ?_
  refine n_iinc C (v := 3) dX0_init_42 rfl rfl rfl ?_
  refine n_goto C (tgt := 24) dX0_init_45 (by decide) ?_
  refine n_eq (ws' := (([(h, .inr (0, [.ref q19, .int 0, .int 0])), (q19, .inl (E.2.2 3, 4, .inr (.inr (.inr (.inr (va_up (va_up (va_up (fun _ => none) 0 (some q29)) 1 (some q39)) 2 (some q49)))))))] : va_W) ++ (skyW E q29 a09 sky0 ++ (skyW E q39 a19 sky0 ++ (skyW E q49 a29 sky0 ++ ([])))))) (lv' := [some (.ref h), some (.int 3)]) (kc' := 28) (ks' := 292) rfl rfl rfl rfl rfl ?_
  refine n_iload_n C dX0_init_24 rfl rfl ?_
  refine n_iconst C (v := 4) dX0_init_25 rfl ?_
  refine n_icmp_ge_f C dX0_init_26 48 (by decide) (by decide) ?_
  refine n_aload_n C dX0_init_29 rfl rfl ?_
  refine n_get C inX0 0 rfl rfl 0 (by decide) f11 rfl dX0_init_30 ?_
  refine n_iload_n C dX0_init_33 rfl rfl ?_
  refine n_new C inX2 tyX2 tyX2_ok (by decide +kernel : Cond.classLink RX0 9 RX2 ∈ wsX0_init) (by decide +kernel : Cond.instantiable RX2 12 ∈ wsX0_init) (by decide +kernel) (ci := 2) rfl [.null, .null, .null, .null, .null, .null, .null, .null, .int 0, .int 0, .int 0, .int 0] dvX2 (Nat.le_of_ble_eq_true rfl) (Nat.le_of_ble_eq_true rfl) dX0_init_34 (fun q59 => ?_)
  refine n_eq (ws' := (([(h, .inr (0, [.ref q19, .int 0, .int 0])), (q19, .inl (E.2.2 3, 4, .inr (.inr (.inr (.inr (va_up (va_up (va_up (fun _ => none) 0 (some q29)) 1 (some q39)) 2 (some q49)))))))] : va_W) ++ (skyW E q29 a09 sky0 ++ (skyW E q39 a19 sky0 ++ (skyW E q49 a29 sky0 ++ ([]))))) ++ [(q59, .inr (2, [.null, .null, .null, .null, .null, .null, .null, .null, .int 0, .int 0, .int 0, .int 0]))]) (kc' := 29) (ks' := 304) rfl rfl rfl rfl rfl ?_
  refine n_dup C dX0_init_37 rfl ?_
  refine n_init C N9 (c_X2_init E q59) rfl ⟨by decide +kernel, by decide +kernel, by decide +kernel⟩ ggX0_init_X2_init (by decide +kernel) (by decide +kernel) rfl (List.mem_of_getElem? (i := 2) rfl) ⟨Nat.le_of_ble_eq_true rfl, Nat.le_of_ble_eq_true rfl⟩ ⟨Nat.le_of_ble_eq_true rfl, Nat.le_of_ble_eq_true rfl⟩ rfl (Nat.le_of_ble_eq_true rfl) dX0_init_38 (fun w1 hp => ?_)
  obtain ⟨a39, rfl⟩ := hp
  refine n_eq (ws' := (([(h, .inr (0, [.ref q19, .int 0, .int 0])), (q19, .inl (E.2.2 3, 4, .inr (.inr (.inr (.inr (va_up (va_up (va_up (fun _ => none) 0 (some q29)) 1 (some q39)) 2 (some q49)))))))] : va_W) ++ (skyW E q29 a09 sky0 ++ (skyW E q39 a19 sky0 ++ (skyW E q49 a29 sky0 ++ (skyW E q59 a39 sky0 ++ ([]))))))) (kc' := 37) (ks' := 388) rfl rfl rfl rfl rfl ?_
  refine n_aast C (ws' := (([(h, .inr (0, [.ref q19, .int 0, .int 0])), (q19, .inl (E.2.2 3, 4, .inr (.inr (.inr (.inr (va_up (va_up (va_up (va_up (fun _ => none) 0 (some q29)) 1 (some q39)) 2 (some q49)) 3 (some q59)))))))] : va_W) ++ (skyW E q29 a09 sky0 ++ (skyW E q39 a19 sky0 ++ (skyW E q49 a29 sky0 ++ (skyW E q59 a39 sky0 ++ ([]))))))) 1 29 rfl rfl (ci := 2) rfl rfl 3 rfl (by decide) (Nat.le_of_ble_eq_true rfl) dX0_init_41 rfl ?_
  refine n_iinc C (v := 4) dX0_init_42 rfl rfl rfl ?_
  refine n_goto C (tgt := 24) dX0_init_45 (by decide) ?_
  refine n_eq (ws' := (([(h, .inr (0, [.ref q19, .int 0, .int 0])), (q19, .inl (E.2.2 3, 4, .inr (.inr (.inr (.inr (va_up (va_up (va_up (va_up (fun _ => none) 0 (some q29)) 1 (some q39)) 2 (some q49)) 3 (some q59)))))))] : va_W) ++ (skyW E q29 a09 sky0 ++ (skyW E q39 a19 sky0 ++ (skyW E q49 a29 sky0 ++ (skyW E q59 a39 sky0 ++ ([]))))))) (lv' := [some (.ref h), some (.int 4)]) (kc' := 37) (ks' := 388) rfl rfl rfl rfl rfl ?_
  refine n_iload_n C dX0_init_24 rfl rfl ?_
  refine n_iconst C (v := 4) dX0_init_25 rfl ?_
  refine n_icmp_ge_t C dX0_init_26 (tgt := 48) (by decide) (by decide) ?_
  refine n_extq (g := fun j => some (adr [q29, q39, q49, q59] j)) (fun j hj => ?_) (n_vret C R0 dX0_init_48 ⟨q19, adr [q29, q39, q49, q59], adf [a09, a19, a29, a39], rfl⟩)
  have h9 : j = 0 ∨ j = 1 ∨ j = 2 ∨ j = 3 := by omega
  rcases h9 with rfl | rfl | rfl | rfl <;> rfl
def ks0 : KSt := (sky0, sky0, sky0, sky0, fun _ => sky0, 0, 0, 0, -10005, -10005, fun _ => 0, 0, (fun _ => 0, fun _ => 0, fun _ => 0, 0, 0, 0, 0))
def hAd (q1 q2 q3 q4 : Nat) (hh : Nat → Nat) : Nat → Nat
  | 0 => q1
  | 1 => q2
  | 2 => q3
  | 3 => q4
  | n + 4 => hh n
def aAd (a0 a1 a2 a3 : Nat → Nat) (aa : Nat → Nat → Nat) : Nat → Nat → Nat
  | 0 => a0
  | 1 => a1
  | 2 => a2
  | 3 => a3
  | n + 4 => aa n
theorem hAd_4 {q1 q2 q3 q4 : Nat} {hh : Nat → Nat} : (fun j => hAd q1 q2 q3 q4 hh (4 + j)) = hh := by
  funext j
  rw [Nat.add_comm]
  rfl
theorem kiw_eq {E : Ev} {x q1 q2 q3 q4 o r s : Nat} {hh a0 a1 a2 a3 sa : Nat → Nat} {aa : Nat → Nat → Nat} : [((x, .inr (3, [.ref q1, .ref q2, .ref q3, .ref q4, .int 0, .ref o, .ref s, .int (-10005), .int (-10005)])) : Nat × va_E)] ++ (skyW E q1 a0 sky0 ++ (skyW E q2 a1 sky0 ++ (skyW E q3 a2 sky0 ++ (skyW E q4 a3 sky0 ++ (hisBk E o r hh 0 0 ++ (skyW E (hh 0) (aa 0) sky0 ++ (skyW E (hh 1) (aa 1) sky0 ++ (skyW E (hh 2) (aa 2) sky0 ++ (skyW E (hh 3) (aa 3) sky0 ++ (scrW E s sa (fun _ => 0) 0 (fun _ => 0, fun _ => 0, fun _ => 0, 0, 0, 0, 0) ++ [])))))))))) = kW E x (hAd q1 q2 q3 q4 hh) (aAd a0 a1 a2 a3 aa) o r s sa ks0 := by
  unfold kW
  rw [hAd_4]
  rfl
set_option maxHeartbeats 4000000 in
set_option maxRecDepth 100000 in
theorem c_X3_init (E : Ev) (h : Nat) : NV E yX3_init wsX3_init 3 79 1104 [(h, .inr (3, [.null, .null, .null, .null, .int 0, .null, .null, .int 0, .int 0]))] [.ref h] (fun w => ∃ (hh : Nat → Nat) (aa : Nat → Nat → Nat) (o r s : Nat) (sa : Nat → Nat), w = kW E h hh aa o r s sa ks0) := by
  have inX2 : ∀ w ∈ u_ws RX2 TX2 12, w ∈ wsX3_init := by decide +kernel
  have inX3 : ∀ w ∈ u_ws RX3 TX3 9, w ∈ wsX3_init := by decide +kernel
  have f10 : Cond.fieldLink RX3 10 (TX3 0).1 (TX3 0).2.1 (TX3 0).2.2.1 ∈ wsX3_init := by decide +kernel
  have f16 : Cond.fieldLink RX3 16 (TX3 1).1 (TX3 1).2.1 (TX3 1).2.2.1 ∈ wsX3_init := by decide +kernel
  have f19 : Cond.fieldLink RX3 19 (TX3 2).1 (TX3 2).2.1 (TX3 2).2.2.1 ∈ wsX3_init := by decide +kernel
  have f22 : Cond.fieldLink RX3 22 (TX3 3).1 (TX3 3).2.1 (TX3 3).2.2.1 ∈ wsX3_init := by decide +kernel
  have f25 : Cond.fieldLink RX3 25 (TX3 4).1 (TX3 4).2.1 (TX3 4).2.2.1 ∈ wsX3_init := by decide +kernel
  have inX0 : ∀ w ∈ u_ws RX0 TX0 3, w ∈ wsX3_init := by decide +kernel
  have f32 : Cond.fieldLink RX3 32 (TX3 5).1 (TX3 5).2.1 (TX3 5).2.2.1 ∈ wsX3_init := by decide +kernel
  have inX1 : ∀ w ∈ u_ws RX1 TX1 9, w ∈ wsX3_init := by decide +kernel
  have f39 : Cond.fieldLink RX3 39 (TX3 6).1 (TX3 6).2.1 (TX3 6).2.2.1 ∈ wsX3_init := by decide +kernel
  have f43 : Cond.fieldLink RX3 43 (TX3 7).1 (TX3 7).2.1 (TX3 7).2.2.1 ∈ wsX3_init := by decide +kernel
  have f47 : Cond.fieldLink RX3 47 (TX3 8).1 (TX3 8).2.1 (TX3 8).2.2.1 ∈ wsX3_init := by decide +kernel
  refine NV.of (cc := cX3_init) (nL := 1) (own := RX3) [some (.ref h)] (by decide +kernel) rfl rfl rfl (Nat.le_of_ble_eq_true rfl) rfl rfl ?_
  intro x C N9 R0
  refine n_aload_n C dX3_init_0 rfl rfl ?_
  refine n_objInit C (by decide +kernel : Cond.methodLink RX3 1 Lib.objectInit ∈ wsX3_init) (by decide +kernel) (by decide +kernel) ⟨Nat.le_of_ble_eq_true rfl, Nat.le_of_ble_eq_true rfl⟩ dX3_init_1 ?_
  refine n_aload_n C dX3_init_4 rfl rfl ?_
  refine n_new C inX2 tyX2 tyX2_ok (by decide +kernel : Cond.classLink RX3 7 RX2 ∈ wsX3_init) (by decide +kernel : Cond.instantiable RX2 12 ∈ wsX3_init) (by decide +kernel) (ci := 2) rfl [.null, .null, .null, .null, .null, .null, .null, .null, .int 0, .int 0, .int 0, .int 0] dvX2 (Nat.le_of_ble_eq_true rfl) (Nat.le_of_ble_eq_true rfl) dX3_init_5 (fun q19 => ?_)
  refine n_eq (ws' := [(h, .inr (3, [.null, .null, .null, .null, .int 0, .null, .null, .int 0, .int 0]))] ++ [(q19, .inr (2, [.null, .null, .null, .null, .null, .null, .null, .null, .int 0, .int 0, .int 0, .int 0]))]) (kc' := 1) (ks' := 12) rfl rfl rfl rfl rfl ?_
  refine n_dup C dX3_init_8 rfl ?_
  refine n_init C N9 (c_X2_init E q19) rfl ⟨by decide +kernel, by decide +kernel, by decide +kernel⟩ ggX3_init_X2_init (by decide +kernel) (by decide +kernel) rfl (List.mem_of_getElem? (i := 0) rfl) ⟨Nat.le_of_ble_eq_true rfl, Nat.le_of_ble_eq_true rfl⟩ ⟨Nat.le_of_ble_eq_true rfl, Nat.le_of_ble_eq_true rfl⟩ rfl (Nat.le_of_ble_eq_true rfl) dX3_init_9 (fun w1 hp => ?_)
  obtain ⟨a09, rfl⟩ := hp
  refine n_eq (ws' := (([(h, .inr (3, [.null, .null, .null, .null, .int 0, .null, .null, .int 0, .int 0]))] : va_W) ++ (skyW E q19 a09 sky0 ++ ([])))) (kc' := 9) (ks' := 96) rfl rfl rfl rfl rfl ?_
  refine n_putF C N9 (ws' := (([(h, .inr (3, [.ref q19, .null, .null, .null, .int 0, .null, .null, .int 0, .int 0]))] : va_W) ++ (skyW E q19 a09 sky0 ++ ([])))) inX3 (ty := .object "KiteRegisters$Sky") tyX3 tyX3_ok nmX3 0 rfl rfl 0 (by decide) f10 rfl rfl (by decide +kernel) rfl rfl (Nat.le_of_ble_eq_true rfl) dX3_init_12 rfl ?_
  refine n_aload_n C dX3_init_15 rfl rfl ?_
  refine n_new C inX2 tyX2 tyX2_ok (by decide +kernel : Cond.classLink RX3 7 RX2 ∈ wsX3_init) (by decide +kernel : Cond.instantiable RX2 12 ∈ wsX3_init) (by decide +kernel) (ci := 2) rfl [.null, .null, .null, .null, .null, .null, .null, .null, .int 0, .int 0, .int 0, .int 0] dvX2 (Nat.le_of_ble_eq_true rfl) (Nat.le_of_ble_eq_true rfl) dX3_init_16 (fun q29 => ?_)
  refine n_eq (ws' := (([(h, .inr (3, [.ref q19, .null, .null, .null, .int 0, .null, .null, .int 0, .int 0]))] : va_W) ++ (skyW E q19 a09 sky0 ++ ([]))) ++ [(q29, .inr (2, [.null, .null, .null, .null, .null, .null, .null, .null, .int 0, .int 0, .int 0, .int 0]))]) (kc' := 10) (ks' := 108) rfl rfl rfl rfl rfl ?_
  refine n_dup C dX3_init_19 rfl ?_
  refine n_init C N9 (c_X2_init E q29) rfl ⟨by decide +kernel, by decide +kernel, by decide +kernel⟩ ggX3_init_X2_init (by decide +kernel) (by decide +kernel) rfl (List.mem_of_getElem? (i := 0) rfl) ⟨Nat.le_of_ble_eq_true rfl, Nat.le_of_ble_eq_true rfl⟩ ⟨Nat.le_of_ble_eq_true rfl, Nat.le_of_ble_eq_true rfl⟩ rfl (Nat.le_of_ble_eq_true rfl) dX3_init_20 (fun w1 hp => ?_)
  obtain ⟨a19, rfl⟩ := hp
  refine n_eq (ws' := (([(h, .inr (3, [.ref q19, .null, .null, .null, .int 0, .null, .null, .int 0, .int 0]))] : va_W) ++ (skyW E q19 a09 sky0 ++ (skyW E q29 a19 sky0 ++ ([]))))) (kc' := 18) (ks' := 192) rfl rfl rfl rfl rfl ?_
  refine n_putF C N9 (ws' := (([(h, .inr (3, [.ref q19, .ref q29, .null, .null, .int 0, .null, .null, .int 0, .int 0]))] : va_W) ++ (skyW E q19 a09 sky0 ++ (skyW E q29 a19 sky0 ++ ([]))))) inX3 (ty := .object "KiteRegisters$Sky") tyX3 tyX3_ok nmX3 0 rfl rfl 1 (by decide) f16 rfl rfl (by decide +kernel) rfl rfl (Nat.le_of_ble_eq_true rfl) dX3_init_23 rfl ?_
  refine n_aload_n C dX3_init_26 rfl rfl ?_
  refine n_new C inX2 tyX2 tyX2_ok (by decide +kernel : Cond.classLink RX3 7 RX2 ∈ wsX3_init) (by decide +kernel : Cond.instantiable RX2 12 ∈ wsX3_init) (by decide +kernel) (ci := 2) rfl [.null, .null, .null, .null, .null, .null, .null, .null, .int 0, .int 0, .int 0, .int 0] dvX2 (Nat.le_of_ble_eq_true rfl) (Nat.le_of_ble_eq_true rfl) dX3_init_27 (fun q39 => ?_)
  refine n_eq (ws' := (([(h, .inr (3, [.ref q19, .ref q29, .null, .null, .int 0, .null, .null, .int 0, .int 0]))] : va_W) ++ (skyW E q19 a09 sky0 ++ (skyW E q29 a19 sky0 ++ ([])))) ++ [(q39, .inr (2, [.null, .null, .null, .null, .null, .null, .null, .null, .int 0, .int 0, .int 0, .int 0]))]) (kc' := 19) (ks' := 204) rfl rfl rfl rfl rfl ?_
  refine n_dup C dX3_init_30 rfl ?_
  refine n_init C N9 (c_X2_init E q39) rfl ⟨by decide +kernel, by decide +kernel, by decide +kernel⟩ ggX3_init_X2_init (by decide +kernel) (by decide +kernel) rfl (List.mem_of_getElem? (i := 0) rfl) ⟨Nat.le_of_ble_eq_true rfl, Nat.le_of_ble_eq_true rfl⟩ ⟨Nat.le_of_ble_eq_true rfl, Nat.le_of_ble_eq_true rfl⟩ rfl (Nat.le_of_ble_eq_true rfl) dX3_init_31 (fun w1 hp => ?_)
  obtain ⟨a29, rfl⟩ := hp
  refine n_eq (ws' := (([(h, .inr (3, [.ref q19, .ref q29, .null, .null, .int 0, .null, .null, .int 0, .int 0]))] : va_W) ++ (skyW E q19 a09 sky0 ++ (skyW E q29 a19 sky0 ++ (skyW E q39 a29 sky0 ++ ([])))))) (kc' := 27) (ks' := 288) rfl rfl rfl rfl rfl ?_
  refine n_putF C N9 (ws' := (([(h, .inr (3, [.ref q19, .ref q29, .ref q39, .null, .int 0, .null, .null, .int 0, .int 0]))] : va_W) ++ (skyW E q19 a09 sky0 ++ (skyW E q29 a19 sky0 ++ (skyW E q39 a29 sky0 ++ ([])))))) inX3 (ty := .object "KiteRegisters$Sky") tyX3 tyX3_ok nmX3 0 rfl rfl 2 (by decide) f19 rfl rfl (by decide +kernel) rfl rfl (Nat.le_of_ble_eq_true rfl) dX3_init_34 rfl ?_
  refine n_aload_n C dX3_init_37 rfl rfl ?_
  refine n_new C inX2 tyX2 tyX2_ok (by decide +kernel : Cond.classLink RX3 7 RX2 ∈ wsX3_init) (by decide +kernel : Cond.instantiable RX2 12 ∈ wsX3_init) (by decide +kernel) (ci := 2) rfl [.null, .null, .null, .null, .null, .null, .null, .null, .int 0, .int 0, .int 0, .int 0] dvX2 (Nat.le_of_ble_eq_true rfl) (Nat.le_of_ble_eq_true rfl) dX3_init_38 (fun q49 => ?_)
  refine n_eq (ws' := (([(h, .inr (3, [.ref q19, .ref q29, .ref q39, .null, .int 0, .null, .null, .int 0, .int 0]))] : va_W) ++ (skyW E q19 a09 sky0 ++ (skyW E q29 a19 sky0 ++ (skyW E q39 a29 sky0 ++ ([]))))) ++ [(q49, .inr (2, [.null, .null, .null, .null, .null, .null, .null, .null, .int 0, .int 0, .int 0, .int 0]))]) (kc' := 28) (ks' := 300) rfl rfl rfl rfl rfl ?_
  refine n_dup C dX3_init_41 rfl ?_
  refine n_init C N9 (c_X2_init E q49) rfl ⟨by decide +kernel, by decide +kernel, by decide +kernel⟩ ggX3_init_X2_init (by decide +kernel) (by decide +kernel) rfl (List.mem_of_getElem? (i := 0) rfl) ⟨Nat.le_of_ble_eq_true rfl, Nat.le_of_ble_eq_true rfl⟩ ⟨Nat.le_of_ble_eq_true rfl, Nat.le_of_ble_eq_true rfl⟩ rfl (Nat.le_of_ble_eq_true rfl) dX3_init_42 (fun w1 hp => ?_)
  obtain ⟨a39, rfl⟩ := hp
  refine n_eq (ws' := (([(h, .inr (3, [.ref q19, .ref q29, .ref q39, .null, .int 0, .null, .null, .int 0, .int 0]))] : va_W) ++ (skyW E q19 a09 sky0 ++ (skyW E q29 a19 sky0 ++ (skyW E q39 a29 sky0 ++ (skyW E q49 a39 sky0 ++ ([]))))))) (kc' := 36) (ks' := 384) rfl rfl rfl rfl rfl ?_
  refine n_putF C N9 (ws' := (([(h, .inr (3, [.ref q19, .ref q29, .ref q39, .ref q49, .int 0, .null, .null, .int 0, .int 0]))] : va_W) ++ (skyW E q19 a09 sky0 ++ (skyW E q29 a19 sky0 ++ (skyW E q39 a29 sky0 ++ (skyW E q49 a39 sky0 ++ ([]))))))) inX3 (ty := .object "KiteRegisters$Sky") tyX3 tyX3_ok nmX3 0 rfl rfl 3 (by decide) f22 rfl rfl (by decide +kernel) rfl rfl (Nat.le_of_ble_eq_true rfl) dX3_init_45 rfl ?_
  refine n_aload_n C dX3_init_48 rfl rfl ?_
  refine n_iconst C (v := 0) dX3_init_49 rfl ?_
  refine n_put C (ws' := (([(h, .inr (3, [.ref q19, .ref q29, .ref q39, .ref q49, .int 0, .null, .null, .int 0, .int 0]))] : va_W) ++ (skyW E q19 a09 sky0 ++ (skyW E q29 a19 sky0 ++ (skyW E q39 a29 sky0 ++ (skyW E q49 a39 sky0 ++ ([]))))))) inX3 (ty := .boolean) tyX3 tyX3_ok nmX3 0 rfl rfl 4 (by decide) f25 rfl (by decide +kernel) rfl rfl (Nat.le_of_ble_eq_true rfl) dX3_init_50 rfl ?_
  refine n_aload_n C dX3_init_53 rfl rfl ?_
  refine n_new C inX0 tyX0 tyX0_ok (by decide +kernel : Cond.classLink RX3 29 RX0 ∈ wsX3_init) (by decide +kernel : Cond.instantiable RX0 3 ∈ wsX3_init) (by decide +kernel) (ci := 0) rfl [.null, .int 0, .int 0] dvX0 (Nat.le_of_ble_eq_true rfl) (Nat.le_of_ble_eq_true rfl) dX3_init_54 (fun q59 => ?_)
  refine n_eq (ws' := (([(h, .inr (3, [.ref q19, .ref q29, .ref q39, .ref q49, .int 0, .null, .null, .int 0, .int 0]))] : va_W) ++ (skyW E q19 a09 sky0 ++ (skyW E q29 a19 sky0 ++ (skyW E q39 a29 sky0 ++ (skyW E q49 a39 sky0 ++ ([])))))) ++ [(q59, .inr (0, [.null, .int 0, .int 0]))]) (kc' := 37) (ks' := 387) rfl rfl rfl rfl rfl ?_
  refine n_dup C dX3_init_57 rfl ?_
  refine n_init C N9 (c_X0_init E q59) rfl ⟨by decide +kernel, by decide +kernel, by decide +kernel⟩ ggX3_init_X0_init (by decide +kernel) (by decide +kernel) rfl (List.mem_of_getElem? (i := 1) rfl) ⟨Nat.le_of_ble_eq_true rfl, Nat.le_of_ble_eq_true rfl⟩ ⟨Nat.le_of_ble_eq_true rfl, Nat.le_of_ble_eq_true rfl⟩ rfl (Nat.le_of_ble_eq_true rfl) dX3_init_58 (fun w1 hp => ?_)
  obtain ⟨r9, hh, aa, rfl⟩ := hp
  refine n_eq (ws' := (([(h, .inr (3, [.ref q19, .ref q29, .ref q39, .ref q49, .int 0, .null, .null, .int 0, .int 0]))] : va_W) ++ (skyW E q19 a09 sky0 ++ (skyW E q29 a19 sky0 ++ (skyW E q39 a29 sky0 ++ (skyW E q49 a39 sky0 ++ (hisBk E q59 r9 hh 0 0 ++ (skyW E (hh 0) (aa 0) sky0 ++ (skyW E (hh 1) (aa 1) sky0 ++ (skyW E (hh 2) (aa 2) sky0 ++ (skyW E (hh 3) (aa 3) sky0 ++ ([])))))))))))) (kc' := 74) (ks' := 775) rfl rfl rfl rfl rfl ?_
  refine n_putF C N9 (ws' := (([(h, .inr (3, [.ref q19, .ref q29, .ref q39, .ref q49, .int 0, .ref q59, .null, .int 0, .int 0]))] : va_W) ++ (skyW E q19 a09 sky0 ++ (skyW E q29 a19 sky0 ++ (skyW E q39 a29 sky0 ++ (skyW E q49 a39 sky0 ++ (hisBk E q59 r9 hh 0 0 ++ (skyW E (hh 0) (aa 0) sky0 ++ (skyW E (hh 1) (aa 1) sky0 ++ (skyW E (hh 2) (aa 2) sky0 ++ (skyW E (hh 3) (aa 3) sky0 ++ ([])))))))))))) inX3 (ty := .object "KiteRegisters$History") tyX3 tyX3_ok nmX3 0 rfl rfl 5 (by decide) f32 rfl rfl (by decide +kernel) rfl rfl (Nat.le_of_ble_eq_true rfl) dX3_init_61 rfl ?_
  refine n_aload_n C dX3_init_64 rfl rfl ?_
  refine n_new C inX1 tyX1 tyX1_ok (by decide +kernel : Cond.classLink RX3 36 RX1 ∈ wsX3_init) (by decide +kernel : Cond.instantiable RX1 9 ∈ wsX3_init) (by decide +kernel) (ci := 1) rfl [.null, .int 0, .null, .null, .null, .int 0, .int 0, .int 0, .int 0] dvX1 (Nat.le_of_ble_eq_true rfl) (Nat.le_of_ble_eq_true rfl) dX3_init_65 (fun q69 => ?_)
  refine n_eq (ws' := (([(h, .inr (3, [.ref q19, .ref q29, .ref q39, .ref q49, .int 0, .ref q59, .null, .int 0, .int 0]))] : va_W) ++ (skyW E q19 a09 sky0 ++ (skyW E q29 a19 sky0 ++ (skyW E q39 a29 sky0 ++ (skyW E q49 a39 sky0 ++ (hisBk E q59 r9 hh 0 0 ++ (skyW E (hh 0) (aa 0) sky0 ++ (skyW E (hh 1) (aa 1) sky0 ++ (skyW E (hh 2) (aa 2) sky0 ++ (skyW E (hh 3) (aa 3) sky0 ++ ([]))))))))))) ++ [(q69, .inr (1, [.null, .int 0, .null, .null, .null, .int 0, .int 0, .int 0, .int 0]))]) (kc' := 75) (ks' := 784) rfl rfl rfl rfl rfl ?_
  refine n_dup C dX3_init_68 rfl ?_
  refine n_init C N9 (c_X1_init E q69) rfl ⟨by decide +kernel, by decide +kernel, by decide +kernel⟩ ggX3_init_X1_init (by decide +kernel) (by decide +kernel) rfl (List.mem_of_getElem? (i := 3) rfl) ⟨Nat.le_of_ble_eq_true rfl, Nat.le_of_ble_eq_true rfl⟩ ⟨Nat.le_of_ble_eq_true rfl, Nat.le_of_ble_eq_true rfl⟩ rfl (Nat.le_of_ble_eq_true rfl) dX3_init_69 (fun w1 hp => ?_)
  obtain ⟨sa, rfl⟩ := hp
  refine n_eq (ws' := (([(h, .inr (3, [.ref q19, .ref q29, .ref q39, .ref q49, .int 0, .ref q59, .null, .int 0, .int 0]))] : va_W) ++ (skyW E q19 a09 sky0 ++ (skyW E q29 a19 sky0 ++ (skyW E q39 a29 sky0 ++ (skyW E q49 a39 sky0 ++ (hisBk E q59 r9 hh 0 0 ++ (skyW E (hh 0) (aa 0) sky0 ++ (skyW E (hh 1) (aa 1) sky0 ++ (skyW E (hh 2) (aa 2) sky0 ++ (skyW E (hh 3) (aa 3) sky0 ++ (scrW E q69 sa (fun _ => 0) 0 (fun _ => 0, fun _ => 0, fun _ => 0, 0, 0, 0, 0) ++ ([]))))))))))))) (kc' := 79) (ks' := 1104) rfl rfl rfl rfl rfl ?_
  refine n_putF C N9 (ws' := (([(h, .inr (3, [.ref q19, .ref q29, .ref q39, .ref q49, .int 0, .ref q59, .ref q69, .int 0, .int 0]))] : va_W) ++ (skyW E q19 a09 sky0 ++ (skyW E q29 a19 sky0 ++ (skyW E q39 a29 sky0 ++ (skyW E q49 a39 sky0 ++ (hisBk E q59 r9 hh 0 0 ++ (skyW E (hh 0) (aa 0) sky0 ++ (skyW E (hh 1) (aa 1) sky0 ++ (skyW E (hh 2) (aa 2) sky0 ++ (skyW E (hh 3) (aa 3) sky0 ++ (scrW E q69 sa (fun _ => 0) 0 (fun _ => 0, fun _ => 0, fun _ => 0, 0, 0, 0, 0) ++ ([]))))))))))))) inX3 (ty := .object "KiteRegisters$Script") tyX3 tyX3_ok nmX3 0 rfl rfl 6 (by decide) f39 rfl rfl (by decide +kernel) rfl rfl (Nat.le_of_ble_eq_true rfl) dX3_init_72 rfl ?_
  refine n_aload_n C dX3_init_75 rfl rfl ?_
  refine n_sipush C (v := (-10005)) dX3_init_76 rfl ?_
  refine n_put C (ws' := (([(h, .inr (3, [.ref q19, .ref q29, .ref q39, .ref q49, .int 0, .ref q59, .ref q69, .int (-10005), .int 0]))] : va_W) ++ (skyW E q19 a09 sky0 ++ (skyW E q29 a19 sky0 ++ (skyW E q39 a29 sky0 ++ (skyW E q49 a39 sky0 ++ (hisBk E q59 r9 hh 0 0 ++ (skyW E (hh 0) (aa 0) sky0 ++ (skyW E (hh 1) (aa 1) sky0 ++ (skyW E (hh 2) (aa 2) sky0 ++ (skyW E (hh 3) (aa 3) sky0 ++ (scrW E q69 sa (fun _ => 0) 0 (fun _ => 0, fun _ => 0, fun _ => 0, 0, 0, 0, 0) ++ ([]))))))))))))) inX3 (ty := .int) tyX3 tyX3_ok nmX3 0 rfl rfl 7 (by decide) f43 rfl (by decide +kernel) rfl rfl (Nat.le_of_ble_eq_true rfl) dX3_init_79 rfl ?_
  refine n_aload_n C dX3_init_82 rfl rfl ?_
  refine n_sipush C (v := (-10005)) dX3_init_83 rfl ?_
  refine n_put C (ws' := (([(h, .inr (3, [.ref q19, .ref q29, .ref q39, .ref q49, .int 0, .ref q59, .ref q69, .int (-10005), .int (-10005)]))] : va_W) ++ (skyW E q19 a09 sky0 ++ (skyW E q29 a19 sky0 ++ (skyW E q39 a29 sky0 ++ (skyW E q49 a39 sky0 ++ (hisBk E q59 r9 hh 0 0 ++ (skyW E (hh 0) (aa 0) sky0 ++ (skyW E (hh 1) (aa 1) sky0 ++ (skyW E (hh 2) (aa 2) sky0 ++ (skyW E (hh 3) (aa 3) sky0 ++ (scrW E q69 sa (fun _ => 0) 0 (fun _ => 0, fun _ => 0, fun _ => 0, 0, 0, 0, 0) ++ ([]))))))))))))) inX3 (ty := .int) tyX3 tyX3_ok nmX3 0 rfl rfl 8 (by decide) f47 rfl (by decide +kernel) rfl rfl (Nat.le_of_ble_eq_true rfl) dX3_init_86 rfl ?_
  refine n_vret C R0 dX3_init_89 ?_
  exact ⟨hAd q19 q29 q39 q49 hh, aAd a09 a19 a29 a39 aa, q59, r9, q69, sa, kiw_eq⟩
