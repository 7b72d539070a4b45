section GR
variable {E : Ev} {x : Cx} {cc : ByteArray} {own : String} {Ts : List Cond} {rm : Room} {ws : va_W} {lv : List (Option Value)} {pc : Nat} {st : List Value}
theorem g_calliO (C : Ok E x cc own Ts rm) {y : MethodName} {by1 : ByteArray} {nL1 n index : Nat} {ty : FieldType} {Ty : List Cond} {rm1 : Room} {w0 : va_W} {As st0 : List Value} {post : Int32 → va_W → Prop} (M : MI E y Ty rm1 w0 As post) (cf : CF y by1 nL1 (some ty) Ty n) (g : GoodIn Ts (va_wsS own index y Ty)) (hcl : True) (hF : Fit rm1 rm nL1) (hn : As.length = n) (hst : st0 = As.reverse ++ st) (hcat : (st.map fun v => v.category).sum ≤ 8) (d : decode cc pc = .ok (.invokestatic index, 3)) (isC isR : List Nat) {wr : va_W} (hndC : va_nd isC = true) (hC : isC.map (fun i => ws[i]?) = w0.map some) (hR2 : isR.map (fun i => ws[i]?) = wr.map some) (hnd : va_nd isR = true) (hdis : ∀ i ∈ isR, i ∉ isC) (k : ∀ (r : Int32) (w1 : va_W), post r w1 → G E x (wr ++ w1) lv (pc + 3) (.int r :: st)) : G E x ws lv pc st0 := by
  obtain ⟨p, e, R, s, m, args, below, meth, c, A, nL, Q⟩ := x
  obtain ⟨hx, hb, hml, hown, hts, hK, hE, hA, hlk, hR⟩ := C
  subst hR
  intro H locs ls hP hD hS hl hnL
  obtain ⟨⟨Ty', hw⟩, hd⟩ := cf
  subst hst
  have hFr := va_free (wc := w0) hD hS hA isC hC
  refine va_calli (mc := 0) (ms := 0) (va_runS (As := As) (rest := st) ⟨hx, hb, hml, hown, hts⟩ (M H.size) (va_cwS n hts g hw hF.1.1 hF.1.2 hd hF.2) ⟨mPc_blind, g_pre hK hE hP hD hS hA hndC hC⟩ rfl hn hl.1 rfl (lv_room hcat) d ⟨Nat.zero_le _, Nat.zero_le _⟩) hS (fun q _ h => hFr q h) hFr (fun r u t H1 l1 ht hvm hp hB hz hk hS1 => ?_)
  have hB2 := hB
  obtain ⟨hP1, hD1⟩ := hB2
  rw [ht] at hP1
  obtain ⟨hP2, hD2⟩ := va_join hP hD isC isR hC hR2 hnd hdis hk hFr hP1 hD1
  exact k r u hp H1 l1 ls hP2 hD2 hS1 hl hnL
theorem g_calliOF (C : Ok E x cc own Ts rm) {y : MethodName} {by1 : ByteArray} {nL1 n index : Nat} {ty : FieldType} {Ty : List Cond} {rm1 : Room} {As st0 : List Value} {post : Int32 → va_W → Prop} (M : MI E y Ty rm1 ws As post) (cf : CF y by1 nL1 (some ty) Ty n) (g : GoodIn Ts (va_wsS own index y Ty)) (hcl : True) (hF : Fit rm1 rm nL1) (hn : As.length = n) (hst : st0 = As.reverse ++ st) (hcat : (st.map fun v => v.category).sum ≤ 8) (d : decode cc pc = .ok (.invokestatic index, 3)) (k : ∀ (r : Int32) (w1 : va_W), post r w1 → G E x w1 lv (pc + 3) (.int r :: st)) : G E x ws lv pc st0 := by
  obtain ⟨p, e, R, s, m, args, below, meth, c, A, nL, Q⟩ := x
  obtain ⟨hx, hb, hml, hown, hts, hK, hE, hA, hlk, hR⟩ := C
  subst hR
  intro H locs ls hP hD hS hl hnL
  obtain ⟨⟨Ty', hw⟩, hd⟩ := cf
  subst hst
  have hFr := g_freeF hD hS hA
  refine va_calli (mc := 0) (ms := 0) (va_runS (As := As) (rest := st) ⟨hx, hb, hml, hown, hts⟩ (M H.size) (va_cwS n hts g hw hF.1.1 hF.1.2 hd hF.2) ⟨mPc_blind, g_preF hK hE hP hD hS hFr⟩ rfl hn hl.1 rfl (lv_room hcat) d ⟨Nat.zero_le _, Nat.zero_le _⟩) hS (fun q _ h => hFr q h) hFr (fun r u t H1 l1 ht hvm hp hB hz hk hS1 => ?_)
  have hB2 := hB
  obtain ⟨hP1, hD1⟩ := hB2
  rw [ht] at hP1
  exact k r u hp H1 l1 ls hP1 (hD1.weaken (fun _ q _ h => hFr q.1 h)) hS1 hl hnL
theorem g_callvO (C : Ok E x cc own Ts rm) {y : MethodName} {by1 : ByteArray} {nL1 n index : Nat} {Ty : List Cond} {rm1 : Room} {w0 : va_W} {As st0 : List Value} {post : va_W → Prop} (M : MV E y Ty rm1 w0 As post) (cf : CF y by1 nL1 none Ty n) (g : GoodIn Ts (va_wsS own index y Ty)) (hcl : True) (hF : Fit rm1 rm nL1) (hn : As.length = n) (hst : st0 = As.reverse ++ st) (hcat : (st.map fun v => v.category).sum ≤ 8) (d : decode cc pc = .ok (.invokestatic index, 3)) (isC isR : List Nat) {wr : va_W} (hndC : va_nd isC = true) (hC : isC.map (fun i => ws[i]?) = w0.map some) (hR2 : isR.map (fun i => ws[i]?) = wr.map some) (hnd : va_nd isR = true) (hdis : ∀ i ∈ isR, i ∉ isC) (k : ∀ (w1 : va_W), post w1 → G E x (wr ++ w1) lv (pc + 3) st) : G E x ws lv pc st0 := by
  obtain ⟨p, e, R, s, m, args, below, meth, c, A, nL, Q⟩ := x
  obtain ⟨hx, hb, hml, hown, hts, hK, hE, hA, hlk, hR⟩ := C
  subst hR
  intro H locs ls hP hD hS hl hnL
  obtain ⟨⟨Ty', hw⟩, hd⟩ := cf
  subst hst
  have hFr := va_free (wc := w0) hD hS hA isC hC
  refine va_callv (mc := 0) (ms := 0) (va_runS (As := As) (rest := st) ⟨hx, hb, hml, hown, hts⟩ (M H.size) (va_cwS n hts g hw hF.1.1 hF.1.2 hd hF.2) ⟨mPc_blind, g_pre hK hE hP hD hS hA hndC hC⟩ rfl hn hl.1 rfl (lv_room hcat) d ⟨Nat.zero_le _, Nat.zero_le _⟩) hS (fun q _ h => hFr q h) hFr (fun u t H1 l1 ht hvm hp hB hz hk hS1 => ?_)
  have hB2 := hB
  obtain ⟨hP1, hD1⟩ := hB2
  rw [ht] at hP1
  obtain ⟨hP2, hD2⟩ := va_join hP hD isC isR hC hR2 hnd hdis hk hFr hP1 hD1
  exact k u hp H1 l1 ls hP2 hD2 hS1 hl hnL
theorem g_callvOF (C : Ok E x cc own Ts rm) {y : MethodName} {by1 : ByteArray} {nL1 n index : Nat} {Ty : List Cond} {rm1 : Room} {As st0 : List Value} {post : va_W → Prop} (M : MV E y Ty rm1 ws As post) (cf : CF y by1 nL1 none Ty n) (g : GoodIn Ts (va_wsS own index y Ty)) (hcl : True) (hF : Fit rm1 rm nL1) (hn : As.length = n) (hst : st0 = As.reverse ++ st) (hcat : (st.map fun v => v.category).sum ≤ 8) (d : decode cc pc = .ok (.invokestatic index, 3)) (k : ∀ (w1 : va_W), post w1 → G E x w1 lv (pc + 3) st) : G E x ws lv pc st0 := by
  obtain ⟨p, e, R, s, m, args, below, meth, c, A, nL, Q⟩ := x
  obtain ⟨hx, hb, hml, hown, hts, hK, hE, hA, hlk, hR⟩ := C
  subst hR
  intro H locs ls hP hD hS hl hnL
  obtain ⟨⟨Ty', hw⟩, hd⟩ := cf
  subst hst
  have hFr := g_freeF hD hS hA
  refine va_callv (mc := 0) (ms := 0) (va_runS (As := As) (rest := st) ⟨hx, hb, hml, hown, hts⟩ (M H.size) (va_cwS n hts g hw hF.1.1 hF.1.2 hd hF.2) ⟨mPc_blind, g_preF hK hE hP hD hS hFr⟩ rfl hn hl.1 rfl (lv_room hcat) d ⟨Nat.zero_le _, Nat.zero_le _⟩) hS (fun q _ h => hFr q h) hFr (fun u t H1 l1 ht hvm hp hB hz hk hS1 => ?_)
  have hB2 := hB
  obtain ⟨hP1, hD1⟩ := hB2
  rw [ht] at hP1
  exact k u hp H1 l1 ls hP1 (hD1.weaken (fun _ q _ h => hFr q.1 h)) hS1 hl hnL
theorem g_callrO (C : Ok E x cc own Ts rm) {y : MethodName} {by1 : ByteArray} {nL1 n index : Nat} {ty : FieldType} {Ty : List Cond} {rm1 : Room} {w0 : va_W} {As st0 : List Value} {post : Nat → va_W → Prop} (M : MR E y Ty rm1 w0 As post) (cf : CF y by1 nL1 (some ty) Ty n) (g : GoodIn Ts (va_wsS own index y Ty)) (hcl : True) (hF : Fit rm1 rm nL1) (hn : As.length = n) (hst : st0 = As.reverse ++ st) (hcat : (st.map fun v => v.category).sum ≤ 8) (d : decode cc pc = .ok (.invokestatic index, 3)) (isC isR : List Nat) {wr : va_W} (hndC : va_nd isC = true) (hC : isC.map (fun i => ws[i]?) = w0.map some) (hR2 : isR.map (fun i => ws[i]?) = wr.map some) (hnd : va_nd isR = true) (hdis : ∀ i ∈ isR, i ∉ isC) (k : ∀ (r : Nat) (w1 : va_W), post r w1 → G E x (wr ++ w1) lv (pc + 3) (.ref r :: st)) : G E x ws lv pc st0 := by
  obtain ⟨p, e, R, s, m, args, below, meth, c, A, nL, Q⟩ := x
  obtain ⟨hx, hb, hml, hown, hts, hK, hE, hA, hlk, hR⟩ := C
  subst hR
  intro H locs ls hP hD hS hl hnL
  obtain ⟨⟨Ty', hw⟩, hd⟩ := cf
  subst hst
  have hFr := va_free (wc := w0) hD hS hA isC hC
  refine va_callr (mc := 0) (ms := 0) (va_runS (As := As) (rest := st) ⟨hx, hb, hml, hown, hts⟩ (M H.size) (va_cwS n hts g hw hF.1.1 hF.1.2 hd hF.2) ⟨mPc_blind, g_pre hK hE hP hD hS hA hndC hC⟩ rfl hn hl.1 rfl (lv_room hcat) d ⟨Nat.zero_le _, Nat.zero_le _⟩) hS (fun q _ h => hFr q h) hFr (fun u r t H1 l1 ht hvm hp hB hz hk hS1 => ?_)
  have hB2 := hB.2
  obtain ⟨hP1, hD1⟩ := hB2
  rw [ht] at hP1
  obtain ⟨hP2, hD2⟩ := va_join hP hD isC isR hC hR2 hnd hdis hk hFr hP1 hD1
  exact k r u hB.1 H1 l1 ls hP2 hD2 hS1 hl hnL
theorem g_callrOF (C : Ok E x cc own Ts rm) {y : MethodName} {by1 : ByteArray} {nL1 n index : Nat} {ty : FieldType} {Ty : List Cond} {rm1 : Room} {As st0 : List Value} {post : Nat → va_W → Prop} (M : MR E y Ty rm1 ws As post) (cf : CF y by1 nL1 (some ty) Ty n) (g : GoodIn Ts (va_wsS own index y Ty)) (hcl : True) (hF : Fit rm1 rm nL1) (hn : As.length = n) (hst : st0 = As.reverse ++ st) (hcat : (st.map fun v => v.category).sum ≤ 8) (d : decode cc pc = .ok (.invokestatic index, 3)) (k : ∀ (r : Nat) (w1 : va_W), post r w1 → G E x w1 lv (pc + 3) (.ref r :: st)) : G E x ws lv pc st0 := by
  obtain ⟨p, e, R, s, m, args, below, meth, c, A, nL, Q⟩ := x
  obtain ⟨hx, hb, hml, hown, hts, hK, hE, hA, hlk, hR⟩ := C
  subst hR
  intro H locs ls hP hD hS hl hnL
  obtain ⟨⟨Ty', hw⟩, hd⟩ := cf
  subst hst
  have hFr := g_freeF hD hS hA
  refine va_callr (mc := 0) (ms := 0) (va_runS (As := As) (rest := st) ⟨hx, hb, hml, hown, hts⟩ (M H.size) (va_cwS n hts g hw hF.1.1 hF.1.2 hd hF.2) ⟨mPc_blind, g_preF hK hE hP hD hS hFr⟩ rfl hn hl.1 rfl (lv_room hcat) d ⟨Nat.zero_le _, Nat.zero_le _⟩) hS (fun q _ h => hFr q h) hFr (fun u r t H1 l1 ht hvm hp hB hz hk hS1 => ?_)
  have hB2 := hB.2
  obtain ⟨hP1, hD1⟩ := hB2
  rw [ht] at hP1
  exact k r u hB.1 H1 l1 ls hP1 (hD1.weaken (fun _ q _ h => hFr q.1 h)) hS1 hl hnL
theorem g_ixor (C : Ok E x cc own Ts rm) {x1 y1 : Int32} (d : decode cc pc = .ok (.ixor, 1)) (k : G E x ws lv (pc + 1) (.int (x1 ^^^ y1) :: st)) : G E x ws lv pc (.int y1 :: .int x1 :: st) := by
  obtain ⟨p, e, R, s, m, args, below, meth, c, A, nL, Q⟩ := x
  obtain ⟨hx, hb, hml, hown, hts, hK, hE, hA, hlk, hR⟩ := C
  subst hR
  intro H locs ls hP hD hS hl hnL
  exact lv_ixor hx hb d (k H locs ls hP hD hS hl hnL)
end GR
