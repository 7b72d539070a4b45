/-! TWO OBJECTS OF THE CLASS; what the law's helpers need -/
section G2
variable {E : Ev} {x : Cx} {cc : ByteArray} {own : String} {Ts : List Cond} {rm : Room} {ws : va_W} {lv : List (Option Value)} {pc : Nat} {st : List Value}
theorem g_sld (C : Ok E x cc own Ts rm) {b L : Nat} {xs : Nat → Int32} (X9 : scrX x b L xs) {i : Int32} (hin : vp_in i L) (d : decode cc pc = .ok (.iaload, 1)) (k : G E x ws lv (pc + 1) (.int (xs i.toNatClampNeg) :: st)) : G E x ws lv pc (.int i :: .ref b :: st) := by
  obtain ⟨p, e, R, s, m, args, below, meth, c, A, nL, Q⟩ := x
  obtain ⟨hx, hb, hml, hown, hts, hK, hE, hA, hlk, hR⟩ := C
  obtain ⟨h1, h2, h3⟩ := X9
  intro H locs ls hP hD hS hl hnL
  exact va_sld hx hb h1 h2 h3 hS hin d (k H locs ls hP hD hS hl hnL)
theorem g_slen (C : Ok E x cc own Ts rm) {b L : Nat} {xs : Nat → Int32} (X9 : scrX x b L xs) (d : decode cc pc = .ok (.arraylength, 1)) (k : G E x ws lv (pc + 1) (.int (nI L) :: st)) : G E x ws lv pc (.ref b :: st) := by
  obtain ⟨p, e, R, s, m, args, below, meth, c, A, nL, Q⟩ := x
  obtain ⟨hx, hb, hml, hown, hts, hK, hE, hA, hlk, hR⟩ := C
  obtain ⟨h1, h2, h3⟩ := X9
  intro H locs ls hP hD hS hl hnL
  exact va_slen hx hb h1 h2 h3 hS d (k H locs ls hP hD hS hl hnL)
/-- a public method of the class, on one of the objects -/
theorem g_callK (C : Ok E x cc own Ts rm) {y : MethodName} {by1 : ByteArray} {nL1 n index : Nat} {ty : FieldType} {Ty : List Cond} {rm1 : Room} {As st0 : List Value} {post : Int32 → va_W → Prop} {b : Nat} (hmem : ∃ fs, (b, Sum.inr (3, fs)) ∈ ws) (M : MI E y Ty rm1 ws (.ref b :: As) post) (cf : CF y by1 nL1 (some ty) Ty n) (g : GoodIn Ts (wsV own index RX3 y Ty)) (hcl : y.cls = RX3) (hF : Fit rm1 rm nL1) (hn : As.length = n) (hst : st0 = As.reverse ++ (.ref b :: st)) (hcat : (st.map fun v => v.category).sum ≤ 8) (d : decode cc pc = .ok (.invokevirtual index, 3)) (k : ∀ (r : Int32) (w1 : va_W), post r w1 → G E x w1 lv (pc + 3) (.int r :: st)) : G E x ws lv pc st0 := by
  obtain ⟨fs, hm⟩ := hmem
  obtain ⟨qr, he⟩ := List.getElem?_of_mem hm
  exact g_calliVF C qr he rfl M cf g hcl hF hn hst hcat d k
end G2
section N2
variable {E : Ev} {x : Cx} {cc : ByteArray} {own : String} {Ts : List Cond} {rm : Room} {ws : va_W} {lv : List (Option Value)} {pc : Nat} {st : List Value} {kc ks : Nat}
/-- a static method, in a frame -/
theorem n_callS (C : Ok E x cc own Ts rm) {y : MethodName} {by1 : ByteArray} {nL1 n index : Nat} {ty : FieldType} {Ty : List Cond} {rm1 : Room} {As st0 : List Value} {post : Int32 → va_W → Prop} {w0 : va_W} (R : va_W) (M : MI E y Ty rm1 w0 As post) (hperm : (w0 ++ R).Perm ws) (f : va_W → va_W) (hf : ∀ w1, (w1 ++ R).Perm (f w1)) (cf : CF y by1 nL1 (some ty) Ty n) (g : GoodIn Ts (va_wsS own index y Ty)) (hF : Fit rm1 rm nL1) (hcs : kc ≤ rm.cells ∧ ks ≤ rm.slots) (hn : As.length = n) (hst : st0 = As.reverse ++ st) (hcat : (st.map fun v => v.category).sum ≤ 8) (d : decode cc pc = .ok (.invokestatic index, 3)) (k : ∀ (r : Int32) (w1 : va_W), post r w1 → GN E x kc ks (f w1) lv (pc + 3) (.int r :: st)) : GN E x kc ks ws lv pc st0 := by
  have M' := M.fr R ws hperm f hf
  obtain ⟨p, e, R9, s, m, args, below, meth, c, A, nL, Q⟩ := x
  obtain ⟨hx, hb, hml, hown, hts, hK, hE, hA, hlk, hR⟩ := C
  subst hR
  intro H locs ls hP hD hS hl hnL
  obtain ⟨⟨Ty', hw⟩, hd⟩ := cf
  subst hst
  have hFr := g_freeF hD hS hA
  refine va_calli (mc := 0) (ms := 0) (va_runS (As := As) (rest := st) ⟨hx, hb, hml, hown, hts⟩ (M' H.size) (va_cwS n hts g hw hF.1.1 hF.1.2 hd hF.2) ⟨mPc_blind, g_preF hK hE hP hD hS hFr⟩ rfl hn hl.1 rfl (lv_room hcat) d hcs) hS (fun q _ h => hFr q h) hFr (fun r u t H1 l1 ht hvm hp hB hz hk hS1 => ?_)
  have hB2 := hB
  obtain ⟨hP1, hD1⟩ := hB2
  rw [ht] at hP1
  obtain ⟨w1, hp1, rfl⟩ := hp
  exact k r w1 hp1 H1 l1 ls hP1 (hD1.weaken (fun _ q _ h => hFr q.1 h)) hS1 hl hnL
end N2
/-! a static method that reads the script -/
def mX (E : Ev) (b L : Nat) (xs : Nat → Int32) (sz : Nat) (av : List Value) : Array Value → State → Prop := fun a U => mPc E [] sz av a U ∧ va_X b L xs U U.heap ∧ b < U.heap.size
def MX (E : Ev) (y : MethodName) (Ty : List Cond) (rm : Room) (b L : Nat) (xs : Nat → Int32) (av : List Value) (post : Int32 → va_W → Prop) : Prop := ∀ sz : Nat, Met E.1 y Ty rm (mX E b L xs sz av) (va_Qi post (mB E (va_A [] sz)) (va_A [] sz)) 0 0 (va_A [] sz)
theorem mX_blind {E : Ev} {b L : Nat} {xs : Nat → Int32} {sz : Nat} {av : List Value} : FrameBlind (mX E b L xs sz av) := by
  intro a U g mk h
  exact ⟨mPc_blind a U g mk h.1, h.2.1.moved (u := U) (Vm.Alike.refl U.vm), h.2.2⟩
theorem MX.of {E : Ev} {y : MethodName} {cc : ByteArray} {nL : Nat} {ty : FieldType} {Ty Ty' : List Cond} {rm : Room} {b L : Nat} {xs : Nat → Int32} {av : List Value} {post : Int32 → va_W → Prop} {own : String} (lv0 : List (Option Value)) (hy : plainName y.cls = true) (ho : own = y.cls) (hT : Ty = Cond.code y cc nL (some ty) :: Ty') (hn : (lg_sl av).length ≤ nL) (hlv : lv_args 0 av = ld 0 lv0) (hll : lv0.length = nL)
    (body : ∀ x : Cx, Ok E x cc own Ty rm → RetI E x ty post → scrX x b L xs → G E x [] lv0 0 []) : MX E y Ty rm b L xs av post := by
  intro sz
  refine Met.ofW (cc := cc) (maxL := nL) (ret := some ty) hy hT ?_
  intro p e s m args below meth c s₁ B hml hv
  obtain ⟨⟨rfl, hsz, hP, hK, hE, hD0⟩, hX, hbl⟩ := hv
  subst hsz
  subst ho
  have hD := hD0.self (sz := s.heap.size)
  have hl := lv_entry av (n := nL) hn
  rw [lg_entry_eq]
  generalize (lg_sl av ++ List.replicate (nL - (lg_sl av).length) Slot.unset).toArray = ls at hl ⊢
  rw [hlv] at hl
  have hbA : ¬ va_A [] s.heap.size b := by
    rintro (⟨k, e9, hk⟩ | h9)
    · exact absurd hk (by simp)
    · omega
  exact body (p, e, (headSpec Ty rm).room, s, m, av.toArray, below, meth, c, va_A [] s.heap.size, nL, _) ⟨B.exec, B.bytes, hml, findClass_of_methodNamed B.named, atoms_spec (ws := Ty) B.pre, hK, hE, va_A_self, B.notSynchronized, rfl⟩ ⟨rfl, B.returns⟩ ⟨hX, hbl, hbA⟩ s.heap [] ls hP hD va_S.rf hl hll
section N3
variable {E : Ev} {x : Cx} {cc : ByteArray} {own : String} {Ts : List Cond} {rm : Room} {ws : va_W} {lv : List (Option Value)} {pc : Nat} {st : List Value} {kc ks : Nat}
theorem n_callX (C : Ok E x cc own Ts rm) {b L : Nat} {xs : Nat → Int32} (X9 : scrX x b L xs) {y : MethodName} {by1 : ByteArray} {nL1 n index : Nat} {ty : FieldType} {Ty : List Cond} {rm1 : Room} {As st0 : List Value} {V : Int32} (M : MX E y Ty rm1 b L xs As (fun r w => r = V ∧ w = [])) (cf : CF y by1 nL1 (some ty) Ty n) (g : GoodIn Ts (va_wsS own index y Ty)) (hF : Fit rm1 rm nL1) (hcs : kc ≤ rm.cells ∧ ks ≤ rm.slots) (hn : As.length = n) (hst : st0 = As.reverse ++ st) (hcat : (st.map fun v => v.category).sum ≤ 8) (d : decode cc pc = .ok (.invokestatic index, 3)) (k : GN E x kc ks ws lv (pc + 3) (.int V :: st)) : GN E x kc ks ws lv pc st0 := by
  obtain ⟨p, e, R9, s, m, args, below, meth, c, A, nL, Q⟩ := x
  obtain ⟨hx, hb, hml, hown, hts, hK, hE, hA, hlk, hR⟩ := C
  obtain ⟨h1, h2, h3⟩ := X9
  subst hR
  intro H locs ls hP hD hS hl hnL
  obtain ⟨⟨Ty', hw⟩, hd⟩ := cf
  subst hst
  have hperm : (([] : va_W) ++ ws).Perm ws := List.Perm.refl _
  have hFr : ∀ q, va_A ([] : va_W) H.size q → A q := fun q hq => g_freeF hD hS hA q (A_sub (fr_in hperm) hq)
  have hpre : ∀ U : State, U.heap = H → s.WarmedH U.vm → mX E b L xs H.size As As.toArray U := fun U hU hW => ⟨fr_pre hperm (g_preF hK hE hP hD hS (g_freeF hD hS hA) U hU hW), by rw [hU]; exact (h1.kept (hS.2.1 b h2 h3)).moved hW.alike, by rw [hU]; exact Nat.lt_of_lt_of_le h2 hS.1⟩
  refine va_calli (mc := 0) (ms := 0) (va_runS (As := As) (rest := st) ⟨hx, hb, hml, hown, hts⟩ (M H.size) (va_cwS n hts g hw hF.1.1 hF.1.2 hd hF.2) ⟨mX_blind, hpre⟩ rfl hn hl.1 rfl (lv_room hcat) d hcs) hS (fun q _ h => hFr q h) hFr (fun r u t H1 l1 ht hvm hp hB hz hk hS1 => ?_)
  obtain ⟨rfl, rfl⟩ := hp
  have hPR : va_P E.2.1 vwCl ws H1 := by
    intro i9 q hi9
    refine (hP i9 q hi9).kept (hk q.1 (hP i9 q hi9).lt ?_)
    rintro (⟨k8, e8, hi8⟩ | z)
    · exact absurd hi8 (by simp)
    · have := (hP i9 q hi9).lt
      omega
  exact k H1 l1 ls hPR hD hS1 hl hnL
end N3
/-! the two objects' cells -/
abbrev Ad : Type := Nat × (Nat → Nat) × (Nat → Nat → Nat) × Nat × Nat × Nat × (Nat → Nat)
def kA (E : Ev) (A : Ad) (κ : KSt) : va_W := kW E A.1 A.2.1 A.2.2.1 A.2.2.2.1 A.2.2.2.2.1 A.2.2.2.2.2.1 A.2.2.2.2.2.2 κ
def w2 (E : Ev) (A B : Ad) (κ τ : KSt) : va_W := kA E A κ ++ kA E B τ
theorem kA_hd {E : Ev} {A : Ad} {κ : KSt} : ∃ fs, (A.1, Sum.inr (3, fs)) ∈ kA E A κ := kW_hd
theorem w2_1 {E : Ev} {A B : Ad} {κ τ : KSt} : ∃ fs, (A.1, Sum.inr (3, fs)) ∈ w2 E A B κ τ := kA_hd.elim fun fs h => ⟨fs, List.mem_append.mpr (Or.inl h)⟩
theorem w2_2 {E : Ev} {A B : Ad} {κ τ : KSt} : ∃ fs, (B.1, Sum.inr (3, fs)) ∈ w2 E A B κ τ := kA_hd.elim fun fs h => ⟨fs, List.mem_append.mpr (Or.inr h)⟩
/-- a contract's end: an answer, one object's new state -/
def pA (E : Ev) (A : Ad) (r : Int32) (κ : KSt) : Int32 → va_W → Prop := fun q w => q = r ∧ w = kA E A κ
def pL (E : Ev) (A B : Ad) (r : Int32) (κ τ : KSt) : Int32 → va_W → Prop := fun q w => q = r ∧ w = w2 E A B κ τ
theorem MI.o0 {E : Ev} {A : Ad} {y : MethodName} {Ty : List Cond} {rm : Room} {κ κ' : KSt} {av : List Value} {X : Int32 × KSt} {r : Int32} (M : MI E y Ty rm (kA E A κ) av (pK E A.1 A.2.1 A.2.2.1 A.2.2.2.1 A.2.2.2.2.1 A.2.2.2.2.2.1 A.2.2.2.2.2.2 X)) (e : X = (r, κ')) : MI E y Ty rm (kA E A κ) av (pA E A r κ') := by
  subst e
  exact M
theorem MI.t0 {E : Ev} {A : Ad} {y : MethodName} {Ty : List Cond} {rm : Room} {κ : KSt} {av : List Value} {X r : Int32} (M : MI E y Ty rm (kA E A κ) av (pE X (kA E A κ))) (e : X = r) : MI E y Ty rm (kA E A κ) av (pA E A r κ) := by
  subst e
  exact M
theorem MI.f1 {E : Ev} {A B : Ad} {y : MethodName} {Ty : List Cond} {rm : Room} {κ κ' τ : KSt} {av : List Value} {r : Int32} (M : MI E y Ty rm (kA E A κ) av (pA E A r κ')) : MI E y Ty rm (w2 E A B κ τ) av (pL E A B r κ' τ) := MI.to (P := fun q => q = r) M (kA E B τ) _ _ (List.Perm.refl _) (List.Perm.refl _)
theorem MI.f2 {E : Ev} {A B : Ad} {y : MethodName} {Ty : List Cond} {rm : Room} {κ τ τ' : KSt} {av : List Value} {r : Int32} (M : MI E y Ty rm (kA E B τ) av (pA E B r τ')) : MI E y Ty rm (w2 E A B κ τ) av (pL E A B r κ τ') := MI.to (P := fun q => q = r) M (kA E A κ) _ _ List.perm_append_comm List.perm_append_comm
