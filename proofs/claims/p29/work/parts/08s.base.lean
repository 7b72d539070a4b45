/-! THE G LAYER: goals that say only world, locals, place and stack -/
def ld : Nat → List (Option Value) → List (Nat × Value)
  | _, [] => []
  | i, none :: l => ld (i + 1) l
  | i, some v :: l => (i, v) :: ld (i + 1) l
theorem ld_in : ∀ (lv : List (Option Value)) (j i : Nat) (v : Value), lv[i]? = some (some v) → (j + i, v) ∈ ld j lv := by
  intro lv
  induction lv with
  | nil => intro j i v h; simp at h
  | cons a l ih =>
    intro j i v h
    cases i with
    | zero =>
      rw [List.getElem?_cons_zero] at h
      cases h
      exact List.mem_cons_self
    | succ i =>
      rw [List.getElem?_cons_succ] at h
      have h1 := ih (j + 1) i v h
      have e : j + 1 + i = j + (i + 1) := by omega
      rw [e] at h1
      cases a with
      | none => exact h1
      | some w => exact List.mem_cons_of_mem _ h1
theorem ld_out : ∀ (lv : List (Option Value)) (j : Nat) (q : Nat × Value), q ∈ ld j lv → ∃ i, q.1 = j + i ∧ lv[i]? = some (some q.2) := by
  intro lv
  induction lv with
  | nil => intro j q h; cases h
  | cons a l ih =>
    intro j q h
    cases a with
    | none =>
      obtain ⟨i, h1, h2⟩ := ih (j + 1) q h
      exact ⟨i + 1, by omega, by rw [List.getElem?_cons_succ]; exact h2⟩
    | some w =>
      rcases List.mem_cons.mp h with h | h
      · subst h
        exact ⟨0, rfl, rfl⟩
      · obtain ⟨i, h1, h2⟩ := ih (j + 1) q h
        exact ⟨i + 1, by omega, by rw [List.getElem?_cons_succ]; exact h2⟩
theorem ld_at {ls : Array Slot} {nL : Nat} {lv : List (Option Value)} {i : Nat} {v : Value} (h : lv_has ls nL (ld 0 lv)) (hi : lv[i]? = some (some v)) : ls[i]? = some (.val v) := by
  have h1 := h.2.2 _ (ld_in lv 0 i v hi)
  rw [Nat.zero_add] at h1
  exact h1
def okst (lv : List (Option Value)) : Nat → Bool
  | 0 => true
  | k + 1 => match lv[k]? with
    | some (some v) => v.category != 2
    | _ => true
theorem ld_put {ls : Array Slot} {nL i : Nat} {v : Value} {lv : List (Option Value)} (h : lv_has ls nL ((i, v) :: (ld 0 lv).filter (fun q => !(q.1 == i) && !(q.1 + 1 == i && q.2.category == 2)))) (ho : okst lv i = true) : lv_has ls nL (ld 0 (lv.set i (some v))) := by
  refine ⟨h.1, h.2.1, fun q hq => h.2.2 q ?_⟩
  obtain ⟨k, hk1, hk2⟩ := ld_out _ 0 q hq
  rw [Nat.zero_add] at hk1
  obtain ⟨q1, q2⟩ := q
  dsimp only at hk1 hk2
  subst hk1
  rw [List.getElem?_set] at hk2
  by_cases hki : i = q1
  · subst hki
    rw [if_pos rfl] at hk2
    split at hk2
    · cases hk2
      exact List.mem_cons_self
    · cases hk2
  · rw [if_neg hki] at hk2
    refine List.mem_cons_of_mem _ (List.mem_filter.mpr ⟨?_, ?_⟩)
    · have := ld_in lv 0 q1 q2 hk2
      rw [Nat.zero_add] at this
      exact this
    · have e1 : (q1 == i) = false := by simp; omega
      dsimp only
      rw [e1]
      by_cases e2 : q1 + 1 = i
      · subst e2
        simp only [okst, hk2] at ho
        simp at ho
        simp [ho]
      · simp [e2]

/-! what a state has beside its heap: classes, links of nest mates, constants -/
def nestW : List Cond := [.methodLinkNest RX3 9 yX2_init "KiteRegisters", .methodLinkNest RX3 31 yX0_init "KiteRegisters", .methodLinkNest RX0 24 yX2_init "KiteRegisters", .methodLinkNest RX3 38 yX1_init "KiteRegisters", .methodLinkNest RX3 121 yX2_aboutKite "KiteRegisters", .methodLinkNest RX3 157 yX2_aboutAll "KiteRegisters", .methodLinkNest RX2 89 yX3_isBeat "KiteRegisters", .methodLinkNest RX3 50 yX2_copyFrom "KiteRegisters", .methodLinkNest RX3 54 yX2_launch "KiteRegisters", .methodLinkNest RX2 50 yX3_isString "KiteRegisters", .methodLinkNest RX2 54 yX3_isNumber "KiteRegisters", .methodLinkNest RX3 160 yX0_add "KiteRegisters", .methodLinkNest RX0 29 yX2_copyFrom "KiteRegisters", .methodLinkNest RX3 87 yX1_empty "KiteRegisters", .methodLinkNest RX3 83 yX1_append "KiteRegisters", .methodLinkNest RX3 91 yX1_scan "KiteRegisters", .methodLinkNest RX3 97 yX1_verbOf "KiteRegisters", .methodLinkNest RX3 100 yX1_firstOf "KiteRegisters", .methodLinkNest RX3 103 yX1_secondOf "KiteRegisters", .methodLinkNest RX3 106 yX2_carryOut "KiteRegisters", .methodLinkNest RX3 62 yX2_remove "KiteRegisters", .methodLinkNest RX3 136 yX2_aboutReading "KiteRegisters", .methodLinkNest RX3 65 yX2_raise "KiteRegisters", .methodLinkNest RX3 68 yX2_renumber "KiteRegisters", .methodLinkNest RX3 71 yX2_shift "KiteRegisters", .methodLinkNest RX3 74 yX2_passBeats "KiteRegisters", .methodLinkNest RX3 77 yX2_changeWind "KiteRegisters", .methodLinkNest RX3 133 yX2_windAt "KiteRegisters", .methodLinkNest RX3 80 yX2_changeSetting "KiteRegisters", .methodLinkNest RX3 145 yX2_greatestSafeWind "KiteRegisters", .methodLinkNest RX3 130 yX2_thousandthsOf "KiteRegisters", .methodLinkNest RX3 139 yX2_readingsUntilCut "KiteRegisters", .methodLinkNest RX3 142 yX2_sinkUntil "KiteRegisters", .methodLinkNest RX3 124 yX2_aboutString "KiteRegisters", .methodLinkNest RX3 127 yX2_kiteAtPoint "KiteRegisters", .fieldLinkNest RX3 151 "KiteRegisters$History" "size" "I" "KiteRegisters", .fieldLinkNest RX3 154 "KiteRegisters$Script" "length" "I" "KiteRegisters", .fieldLinkNest RX3 94 "KiteRegisters$Script" "commands" "I" "KiteRegisters"]
def isNest : Cond → Bool
  | .methodLinkNest _ _ _ _ => true
  | .fieldLinkNest _ _ _ _ _ _ => true
  | _ => false
theorem nestW_ok : ∀ w ∈ nestW, isNest w = true := by decide +kernel
theorem isNest_tab {w : Cond} (h : isNest w = true) : w.onTables = true := by
  cases w <;> first | rfl | exact absurd h (by simp [isNest])
theorem isNest_warm {w : Cond} (h : isNest w = true) {s U : State} (hW : s.WarmedH U.vm) (hZ : va_Nw w s) : va_Nw w U := by
  cases w <;> first | exact va_Nw.warmM hW hZ | exact va_Nw.warmF hW hZ | exact absurd h (by simp [isNest])
def lenS : List Nat := [3, 4, 5, 4, 4]
def bytS : List (List Int32) := [[102, 108, 121], [114, 101, 97, 100], [119, 114, 105, 116, 101], [98, 101, 97, 116], [119, 105, 110, 100]]
abbrev Ev : Type := Launch × va_G × (Nat → Nat)
def tyl (E : Ev) : List (ClassId × FieldType) := [(E.2.2 0, .int), (E.2.2 1, .boolean), (E.2.2 2, .char), (E.2.2 3, .object "KiteRegisters$Sky")]
def ldcS : List (Nat × String) := [(89, "fly"), (91, "read"), (93, "write"), (95, "beat"), (97, "wind")]
def KK (E : Ev) (U : State) : Prop := va_K E.2.1 vwCl (tyl E) U ∧ (∀ w ∈ nestW, va_Nw w U) ∧ ∀ (i : Nat) (q : Nat × String), ldcS[i]? = some q → vk_R RX1 q.1 q.2 (E.2.2 (10 + i)) U
def SS (E : Ev) (A : Nat → Prop) (U : State) (H : Heap) : Prop := vk_S 5 lenS bytS (fun i => E.2.2 (10 + i)) (fun i => E.2.2 (20 + i)) A U H ∧ va_Z "java/lang/String" "COMPACT_STRINGS" "Z" (.int 1) A U H ∧ va_Zq "jdk/internal/util/Preconditions" "SIOOBE_FORMATTER" "Ljava/util/function/BiFunction;" A U H
theorem KK.same {E : Ev} {u U : State} (hv : u.vm = U.vm) (h : KK E u) : KK E U := by
  refine ⟨va_K.moved (by rw [hv]; exact Vm.Alike.refl _) h.1, fun w hw => va_Nw.same (isNest_tab (nestW_ok w hw)) hv (h.2.1 w hw), fun i q hq => vk_R.same hv.symm (h.2.2 i q hq)⟩
theorem KK.warm {E : Ev} {s U : State} (hW : s.WarmedH U.vm) (h : KK E s) : KK E U := by
  refine ⟨va_K.moved hW.alike h.1, fun w hw => isNest_warm (nestW_ok w hw) hW (h.2.1 w hw), fun i q hq => vk_R.warm hW (h.2.2 i q hq)⟩
theorem SS.moved {E : Ev} {A : Nat → Prop} {u U : State} {H : Heap} (hvm : u.vm.Alike U.vm) (h : SS E A u H) : SS E A U H := ⟨h.1.moved hvm, h.2.1.moved hvm, h.2.2.moved hvm⟩
theorem SS.kept {E : Ev} {A : Nat → Prop} {U : State} {H H1 : Heap} (h : SS E A U H) (hq : ∀ a : Nat, a < H.size → ¬ A a → H1[a]? = H[a]?) : SS E A U H1 := ⟨h.1.kept hq, h.2.1.kept hq, h.2.2.kept hq⟩
theorem SS.narrow {E : Ev} {A B : Nat → Prop} {U : State} {H : Heap} (h : SS E A U H) (hAB : ∀ q, B q → A q) : SS E B U H := ⟨h.1.narrow hAB, h.2.1.narrow hAB, h.2.2.narrow hAB⟩
/-! contexts and goals -/
abbrev Cx : Type := Program × Env × Room × State × MethodId × Array Value × List Frame × Method × Code × (Nat → Prop) × Nat × (State → Prop)
def G (E : Ev) (x : Cx) (ws : va_W) (lv : List (Option Value)) (pc : Nat) (st : List Value) : Prop :=
  match x with
  | (p, e, R, s, m, args, below, meth, c, A, nL, Q) => ∀ (H : Heap) (locs : List Loc) (ls : Array Slot), va_P E.2.1 vwCl ws H → va_D A ws → va_S A s.heap H locs → lv_has ls nL (ld 0 lv) → lv.length = nL → W p E.1 e R s m args below meth c H locs 0 0 Q (F0 m pc ls st)
def Ok (E : Ev) (x : Cx) (cc : ByteArray) (own : String) (Ts : List Cond) (rm : Room) : Prop :=
  match x with
  | (p, _, R, s, m, args, _, meth, c, A, nL, _) => p.tables.exec = Jvm.exec ∧ c.code = cc ∧ c.maxLocals = nL ∧ s.vm.findClass own = some m.cls ∧ (∀ w ∈ Ts, w.before args s = true) ∧ KK E s ∧ SS E A s s.heap ∧ (∀ q, s.heap.size ≤ q → A q) ∧ meth.locks = false ∧ R = rm
/-! contracts -/
def mPc (E : Ev) (w0 : va_W) (sz : Nat) (av : List Value) : Array Value → State → Prop := va_Pc av (fun U => U.heap.size = sz ∧ va_P E.2.1 vwCl w0 U.heap ∧ KK E U ∧ SS E (va_A w0 sz) U U.heap ∧ va_D (fun _ => True) w0)
def mB (E : Ev) (A : Nat → Prop) (u : va_W) (t : State) : Prop := va_P E.2.1 vwCl u t.heap ∧ va_D A u
def MI (E : Ev) (y : MethodName) (Ty : List Cond) (rm : Room) (w0 : va_W) (av : List Value) (post : Int32 → va_W → Prop) : Prop := ∀ sz : Nat, Met E.1 y Ty rm (mPc E w0 sz av) (va_Qi post (mB E (va_A w0 sz)) (va_A w0 sz)) 0 0 (va_A w0 sz)
def MV (E : Ev) (y : MethodName) (Ty : List Cond) (rm : Room) (w0 : va_W) (av : List Value) (post : va_W → Prop) : Prop := ∀ sz : Nat, Met E.1 y Ty rm (mPc E w0 sz av) (va_Qv post (mB E (va_A w0 sz)) (va_A w0 sz)) 0 0 (va_A w0 sz)
def MR (E : Ev) (y : MethodName) (Ty : List Cond) (rm : Room) (w0 : va_W) (av : List Value) (post : Nat → va_W → Prop) : Prop := ∀ sz : Nat, Met E.1 y Ty rm (mPc E w0 sz av) (va_Qr (fun _ => True) (fun (u : va_W) a t => post a u ∧ mB E (va_A w0 sz) u t) (va_A w0 sz)) 0 0 (va_A w0 sz)
def RetI (E : Ev) (x : Cx) (ty : FieldType) (post : Int32 → va_W → Prop) : Prop :=
  match x with
  | (_, _, _, s, _, args, below, meth, _, A, _, Q) => Q = MQ below (va_Qi post (mB E A) A) args s 0 0 A ∧ meth.sig.returnType = some ty
def RetV (E : Ev) (x : Cx) (post : va_W → Prop) : Prop :=
  match x with
  | (_, _, _, s, _, args, below, meth, _, A, _, Q) => Q = MQ below (va_Qv post (mB E A) A) args s 0 0 A ∧ meth.sig.returnType = none
def RetR (E : Ev) (x : Cx) (ty : FieldType) (post : Nat → va_W → Prop) : Prop :=
  match x with
  | (_, _, _, s, _, args, below, meth, _, A, _, Q) => Q = MQ below (va_Qr (fun _ => True) (fun (u : va_W) a t => post a u ∧ mB E A u t) A) args s 0 0 A ∧ meth.sig.returnType = some ty
theorem mPc_blind {E : Ev} {w0 : va_W} {sz : Nat} {av : List Value} : FrameBlind (mPc E w0 sz av) := by
  intro a U g mk h
  obtain ⟨h1, h2, h3, h4, h5, h6⟩ := h
  exact ⟨h1, h2, h3, KK.same (u := U) rfl h4, SS.moved (Vm.Alike.refl U.vm) h5, h6⟩
theorem va_A_self {ws : va_W} {sz : Nat} : ∀ q, sz ≤ q → va_A ws sz q := fun _ h => Or.inr h

theorem MI.of {E : Ev} {y : MethodName} {cc : ByteArray} {nL : Nat} {ty : FieldType} {Ty Ty' : List Cond} {rm : Room} {w0 : va_W} {av : List Value} {post : Int32 → va_W → Prop} {own : String} (lv0 : List (Option Value)) (hy : plainName y.cls = true) (ho : own = y.cls) (hT : Ty = Cond.code y cc nL (some ty) :: Ty') (hn : (lg_sl av).length ≤ nL) (hlv : lv_args 0 av = ld 0 lv0) (hll : lv0.length = nL)
    (body : ∀ x : Cx, Ok E x cc own Ty rm → RetI E x ty post → G E x w0 lv0 0 []) : MI E y Ty rm w0 av post := by
  intro sz
  refine Met.ofW (cc := cc) (maxL := nL) (ret := some ty) hy hT ?_
  intro p e s m args below meth c s₁ B hml hv
  obtain ⟨rfl, hsz, hP, hK, hE, hD0⟩ := hv
  subst hsz
  subst ho
  have hD := hD0.self (sz := s.heap.size)
  have hl := lv_entry av (n := nL) hn
  rw [lg_entry_eq]
  generalize (lg_sl av ++ List.replicate (nL - (lg_sl av).length) Slot.unset).toArray = ls at hl ⊢
  rw [hlv] at hl
  exact body (p, e, (headSpec Ty rm).room, s, m, av.toArray, below, meth, c, va_A w0 s.heap.size, nL, _) ⟨B.exec, B.bytes, hml, findClass_of_methodNamed B.named, atoms_spec (ws := Ty) B.pre, hK, hE, va_A_self, B.notSynchronized, rfl⟩ ⟨rfl, B.returns⟩ s.heap [] ls hP hD va_S.rf hl hll
theorem MV.of {E : Ev} {y : MethodName} {cc : ByteArray} {nL : Nat} {Ty Ty' : List Cond} {rm : Room} {w0 : va_W} {av : List Value} {post : va_W → Prop} {own : String} (lv0 : List (Option Value)) (hy : plainName y.cls = true) (ho : own = y.cls) (hT : Ty = Cond.code y cc nL (none) :: Ty') (hn : (lg_sl av).length ≤ nL) (hlv : lv_args 0 av = ld 0 lv0) (hll : lv0.length = nL)
    (body : ∀ x : Cx, Ok E x cc own Ty rm → RetV E x post → G E x w0 lv0 0 []) : MV E y Ty rm w0 av post := by
  intro sz
  refine Met.ofW (cc := cc) (maxL := nL) (ret := none) hy hT ?_
  intro p e s m args below meth c s₁ B hml hv
  obtain ⟨rfl, hsz, hP, hK, hE, hD0⟩ := hv
  subst hsz
  subst ho
  have hD := hD0.self (sz := s.heap.size)
  have hl := lv_entry av (n := nL) hn
  rw [lg_entry_eq]
  generalize (lg_sl av ++ List.replicate (nL - (lg_sl av).length) Slot.unset).toArray = ls at hl ⊢
  rw [hlv] at hl
  exact body (p, e, (headSpec Ty rm).room, s, m, av.toArray, below, meth, c, va_A w0 s.heap.size, nL, _) ⟨B.exec, B.bytes, hml, findClass_of_methodNamed B.named, atoms_spec (ws := Ty) B.pre, hK, hE, va_A_self, B.notSynchronized, rfl⟩ ⟨rfl, B.returns⟩ s.heap [] ls hP hD va_S.rf hl hll
theorem MR.of {E : Ev} {y : MethodName} {cc : ByteArray} {nL : Nat} {ty : FieldType} {Ty Ty' : List Cond} {rm : Room} {w0 : va_W} {av : List Value} {post : Nat → va_W → Prop} {own : String} (lv0 : List (Option Value)) (hy : plainName y.cls = true) (ho : own = y.cls) (hT : Ty = Cond.code y cc nL (some ty) :: Ty') (hn : (lg_sl av).length ≤ nL) (hlv : lv_args 0 av = ld 0 lv0) (hll : lv0.length = nL)
    (body : ∀ x : Cx, Ok E x cc own Ty rm → RetR E x ty post → G E x w0 lv0 0 []) : MR E y Ty rm w0 av post := by
  intro sz
  refine Met.ofW (cc := cc) (maxL := nL) (ret := some ty) hy hT ?_
  intro p e s m args below meth c s₁ B hml hv
  obtain ⟨rfl, hsz, hP, hK, hE, hD0⟩ := hv
  subst hsz
  subst ho
  have hD := hD0.self (sz := s.heap.size)
  have hl := lv_entry av (n := nL) hn
  rw [lg_entry_eq]
  generalize (lg_sl av ++ List.replicate (nL - (lg_sl av).length) Slot.unset).toArray = ls at hl ⊢
  rw [hlv] at hl
  exact body (p, e, (headSpec Ty rm).room, s, m, av.toArray, below, meth, c, va_A w0 s.heap.size, nL, _) ⟨B.exec, B.bytes, hml, findClass_of_methodNamed B.named, atoms_spec (ws := Ty) B.pre, hK, hE, va_A_self, B.notSynchronized, rfl⟩ ⟨rfl, B.returns⟩ s.heap [] ls hP hD va_S.rf hl hll
section GR
variable {E : Ev} {x : Cx} {cc : ByteArray} {own : String} {Ts : List Cond} {rm : Room} {ws : va_W} {lv : List (Option Value)} {pc : Nat} {st : List Value}
theorem g_iconst (C : Ok E x cc own Ts rm) {n : Int} {v : Int32} (d : decode cc pc = .ok (.iconst n, 1)) (hv : Int32.ofInt n = v) (k : G E x ws lv (pc + 1) (.int v :: st)) : G E x ws lv pc st := by
  obtain ⟨p, e, R, s, m, args, below, meth, c, A, nL, Q⟩ := x
  obtain ⟨hx, hb, hml, hown, hts, hK, hE, hA, hlk, hR⟩ := C
  subst hR
  intro H locs ls hP hD hS hl hnL
  exact lv_iconst hx hb d hv (k H locs ls hP hD hS hl hnL)
theorem g_bipush (C : Ok E x cc own Ts rm) {n : Int} {v : Int32} (d : decode cc pc = .ok (.bipush n, 2)) (hv : (Int8.ofInt n).toInt32 = v) (k : G E x ws lv (pc + 2) (.int v :: st)) : G E x ws lv pc st := by
  obtain ⟨p, e, R, s, m, args, below, meth, c, A, nL, Q⟩ := x
  obtain ⟨hx, hb, hml, hown, hts, hK, hE, hA, hlk, hR⟩ := C
  subst hR
  intro H locs ls hP hD hS hl hnL
  exact lv_bipush hx hb d hv (k H locs ls hP hD hS hl hnL)
theorem g_sipush (C : Ok E x cc own Ts rm) {n : Int} {v : Int32} (d : decode cc pc = .ok (.sipush n, 3)) (hv : (Int16.ofInt n).toInt32 = v) (k : G E x ws lv (pc + 3) (.int v :: st)) : G E x ws lv pc st := by
  obtain ⟨p, e, R, s, m, args, below, meth, c, A, nL, Q⟩ := x
  obtain ⟨hx, hb, hml, hown, hts, hK, hE, hA, hlk, hR⟩ := C
  subst hR
  intro H locs ls hP hD hS hl hnL
  exact lv_sipush hx hb d hv (k H locs ls hP hD hS hl hnL)
theorem g_lconst (C : Ok E x cc own Ts rm) {n : Fin 2} {v : Int64} (d : decode cc pc = .ok (.lconst n, 1)) (hv : Int64.ofNat (n : Nat) = v) (k : G E x ws lv (pc + 1) (.long v :: st)) : G E x ws lv pc st := by
  obtain ⟨p, e, R, s, m, args, below, meth, c, A, nL, Q⟩ := x
  obtain ⟨hx, hb, hml, hown, hts, hK, hE, hA, hlk, hR⟩ := C
  subst hR
  intro H locs ls hP hD hS hl hnL
  exact lv_lconst hx hb d hv (k H locs ls hP hD hS hl hnL)
theorem g_ldc (C : Ok E x cc own Ts rm) {index : Nat} {v : Int32} (hw : Cond.constant own index v ∈ Ts) (d : decode cc pc = .ok (.ldc index, 2)) (k : G E x ws lv (pc + 2) (.int v :: st)) : G E x ws lv pc st := by
  obtain ⟨p, e, R, s, m, args, below, meth, c, A, nL, Q⟩ := x
  obtain ⟨hx, hb, hml, hown, hts, hK, hE, hA, hlk, hR⟩ := C
  subst hR
  intro H locs ls hP hD hS hl hnL
  exact lv_ldc hx hb hown (hts _ hw) d (k H locs ls hP hD hS hl hnL)
theorem g_ldc2 (C : Ok E x cc own Ts rm) {index : Nat} {v : Int64} (hw : Cond.constantLong own index v ∈ Ts) (d : decode cc pc = .ok (.ldc2_w index, 3)) (k : G E x ws lv (pc + 3) (.long v :: st)) : G E x ws lv pc st := by
  obtain ⟨p, e, R, s, m, args, below, meth, c, A, nL, Q⟩ := x
  obtain ⟨hx, hb, hml, hown, hts, hK, hE, hA, hlk, hR⟩ := C
  subst hR
  intro H locs ls hP hD hS hl hnL
  exact lv_ldc2 hx hb hown (hts _ hw) d (k H locs ls hP hD hS hl hnL)
theorem g_iload_n (C : Ok E x cc own Ts rm) {k0 : Fin 4} {i : Nat} {v : Int32} (d : decode cc pc = .ok (.iload_n k0, 1)) (hi : (k0 : Nat) = i) (hv : lv[i]? = some (some (.int v))) (k : G E x ws lv (pc + 1) (.int v :: st)) : G E x ws lv pc st := by
  obtain ⟨p, e, R, s, m, args, below, meth, c, A, nL, Q⟩ := x
  obtain ⟨hx, hb, hml, hown, hts, hK, hE, hA, hlk, hR⟩ := C
  subst hR
  intro H locs ls hP hD hS hl hnL
  exact lv_iload_n hx hb d hi (ld_at hl hv) (k H locs ls hP hD hS hl hnL)
theorem g_iload (C : Ok E x cc own Ts rm) {i : Nat} {v : Int32} (d : decode cc pc = .ok (.iload i, 2)) (hv : lv[i]? = some (some (.int v))) (k : G E x ws lv (pc + 2) (.int v :: st)) : G E x ws lv pc st := by
  obtain ⟨p, e, R, s, m, args, below, meth, c, A, nL, Q⟩ := x
  obtain ⟨hx, hb, hml, hown, hts, hK, hE, hA, hlk, hR⟩ := C
  subst hR
  intro H locs ls hP hD hS hl hnL
  exact lv_iload hx hb d (ld_at hl hv) (k H locs ls hP hD hS hl hnL)
theorem g_lload_n (C : Ok E x cc own Ts rm) {k0 : Fin 4} {i : Nat} {v : Int64} (d : decode cc pc = .ok (.lload_n k0, 1)) (hi : (k0 : Nat) = i) (hv : lv[i]? = some (some (.long v))) (k : G E x ws lv (pc + 1) (.long v :: st)) : G E x ws lv pc st := by
  obtain ⟨p, e, R, s, m, args, below, meth, c, A, nL, Q⟩ := x
  obtain ⟨hx, hb, hml, hown, hts, hK, hE, hA, hlk, hR⟩ := C
  subst hR
  intro H locs ls hP hD hS hl hnL
  exact lv_lload_n hx hb d hi (ld_at hl hv) (k H locs ls hP hD hS hl hnL)
theorem g_lload (C : Ok E x cc own Ts rm) {i : Nat} {v : Int64} (d : decode cc pc = .ok (.lload i, 2)) (hv : lv[i]? = some (some (.long v))) (k : G E x ws lv (pc + 2) (.long v :: st)) : G E x ws lv pc st := by
  obtain ⟨p, e, R, s, m, args, below, meth, c, A, nL, Q⟩ := x
  obtain ⟨hx, hb, hml, hown, hts, hK, hE, hA, hlk, hR⟩ := C
  subst hR
  intro H locs ls hP hD hS hl hnL
  exact lv_lload hx hb d (ld_at hl hv) (k H locs ls hP hD hS hl hnL)
theorem g_aload_n (C : Ok E x cc own Ts rm) {k0 : Fin 4} {i : Nat} {v : Nat} (d : decode cc pc = .ok (.aload_n k0, 1)) (hi : (k0 : Nat) = i) (hv : lv[i]? = some (some (.ref v))) (k : G E x ws lv (pc + 1) (.ref v :: st)) : G E x ws lv pc st := by
  obtain ⟨p, e, R, s, m, args, below, meth, c, A, nL, Q⟩ := x
  obtain ⟨hx, hb, hml, hown, hts, hK, hE, hA, hlk, hR⟩ := C
  subst hR
  intro H locs ls hP hD hS hl hnL
  exact lv_aload_n hx hb d hi (ld_at hl hv) (k H locs ls hP hD hS hl hnL)
theorem g_aload (C : Ok E x cc own Ts rm) {i : Nat} {v : Nat} (d : decode cc pc = .ok (.aload i, 2)) (hv : lv[i]? = some (some (.ref v))) (k : G E x ws lv (pc + 2) (.ref v :: st)) : G E x ws lv pc st := by
  obtain ⟨p, e, R, s, m, args, below, meth, c, A, nL, Q⟩ := x
  obtain ⟨hx, hb, hml, hown, hts, hK, hE, hA, hlk, hR⟩ := C
  subst hR
  intro H locs ls hP hD hS hl hnL
  exact lv_aload hx hb d (ld_at hl hv) (k H locs ls hP hD hS hl hnL)
theorem g_istore_n (C : Ok E x cc own Ts rm) {k0 : Fin 4} {i : Nat} {v : Int32} (d : decode cc pc = .ok (.istore_n k0, 1)) (hi : (k0 : Nat) = i) (hn : i < lv.length) (ho : okst lv i = true) (k : G E x ws (lv.set i (some (.int v))) (pc + 1) st) : G E x ws lv pc (.int v :: st) := by
  obtain ⟨p, e, R, s, m, args, below, meth, c, A, nL, Q⟩ := x
  obtain ⟨hx, hb, hml, hown, hts, hK, hE, hA, hlk, hR⟩ := C
  subst hR
  intro H locs ls hP hD hS hl hnL
  exact lv_istore_n hx hb d hi hl (hnL ▸ hn) rfl (fun ls' hl' => k H locs ls' hP hD hS (ld_put hl' ho) (by rw [List.length_set]; exact hnL))
theorem g_istore (C : Ok E x cc own Ts rm) {i : Nat} {v : Int32} (d : decode cc pc = .ok (.istore i, 2)) (hn : i < lv.length) (ho : okst lv i = true) (k : G E x ws (lv.set i (some (.int v))) (pc + 2) st) : G E x ws lv pc (.int v :: st) := by
  obtain ⟨p, e, R, s, m, args, below, meth, c, A, nL, Q⟩ := x
  obtain ⟨hx, hb, hml, hown, hts, hK, hE, hA, hlk, hR⟩ := C
  subst hR
  intro H locs ls hP hD hS hl hnL
  exact lv_istore hx hb d hl (hnL ▸ hn) rfl (fun ls' hl' => k H locs ls' hP hD hS (ld_put hl' ho) (by rw [List.length_set]; exact hnL))
theorem g_astore_n (C : Ok E x cc own Ts rm) {k0 : Fin 4} {i : Nat} {v : Nat} (d : decode cc pc = .ok (.astore_n k0, 1)) (hi : (k0 : Nat) = i) (hn : i < lv.length) (ho : okst lv i = true) (k : G E x ws (lv.set i (some (.ref v))) (pc + 1) st) : G E x ws lv pc (.ref v :: st) := by
  obtain ⟨p, e, R, s, m, args, below, meth, c, A, nL, Q⟩ := x
  obtain ⟨hx, hb, hml, hown, hts, hK, hE, hA, hlk, hR⟩ := C
  subst hR
  intro H locs ls hP hD hS hl hnL
  exact lv_astore_n hx hb d hi hl (hnL ▸ hn) rfl (fun ls' hl' => k H locs ls' hP hD hS (ld_put hl' ho) (by rw [List.length_set]; exact hnL))
theorem g_astore (C : Ok E x cc own Ts rm) {i : Nat} {v : Nat} (d : decode cc pc = .ok (.astore i, 2)) (hn : i < lv.length) (ho : okst lv i = true) (k : G E x ws (lv.set i (some (.ref v))) (pc + 2) st) : G E x ws lv pc (.ref v :: st) := by
  obtain ⟨p, e, R, s, m, args, below, meth, c, A, nL, Q⟩ := x
  obtain ⟨hx, hb, hml, hown, hts, hK, hE, hA, hlk, hR⟩ := C
  subst hR
  intro H locs ls hP hD hS hl hnL
  exact lv_astore hx hb d hl (hnL ▸ hn) rfl (fun ls' hl' => k H locs ls' hP hD hS (ld_put hl' ho) (by rw [List.length_set]; exact hnL))
theorem lv_iincS {p : Program} {l : Launch} {e : Env} {R : Room} {s : State} {m : MethodId} {args : Array Value} {below : List Frame} {meth : Method} {c : Code} {H : Heap} {locs : List Loc} {Q : State → Prop} {cc : ByteArray} {pc : Nat} {ls : Array Slot} {rest : List Value} (hx : p.tables.exec = Jvm.exec) (hb : c.code = cc) {i nL : Nat} {n : Int} {y : Int32} {lv : List (Option Value)} (d : decode cc pc = .ok (.iinc i n, 3)) (h : lv_has ls nL (ld 0 lv)) (hv : lv[i]? = some (some (.int y))) (hn : i < nL) (ho : okst lv i = true)
    (k : ∀ ls' : Array Slot, lv_has ls' nL (ld 0 (lv.set i (some (.int (y + Int32.ofInt n))))) → W p l e R s m args below meth c H locs 0 0 Q (F0 m (pc + 3) ls' rest)) : W p l e R s m args below meth c H locs 0 0 Q (F0 m pc ls rest) := by
  have hm := ld_in lv 0 i _ hv
  rw [Nat.zero_add] at hm
  obtain ⟨j, hj⟩ := List.getElem?_of_mem hm
  exact lv_iinc hx hb d h hj rfl hn rfl (fun ls' hl' => k ls' (ld_put hl' ho))
theorem g_iinc (C : Ok E x cc own Ts rm) {i : Nat} {n : Int} {y v : Int32} (d : decode cc pc = .ok (.iinc i n, 3)) (hv : lv[i]? = some (some (.int y))) (ho : okst lv i = true) (he : y + Int32.ofInt n = v) (k : G E x ws (lv.set i (some (.int v))) (pc + 3) st) : G E x ws lv pc st := by
  obtain ⟨p, e, R, s, m, args, below, meth, c, A, nL, Q⟩ := x
  obtain ⟨hx, hb, hml, hown, hts, hK, hE, hA, hlk, hR⟩ := C
  subst hR
  intro H locs ls hP hD hS hl hnL
  subst he
  exact lv_iincS hx hb d hl hv (hnL ▸ (List.getElem?_eq_some_iff.mp hv).1) ho (fun ls' hl' => k H locs ls' hP hD hS hl' (by rw [List.length_set]; exact hnL))
theorem g_iadd (C : Ok E x cc own Ts rm) {x1 y1 : Int32} (d : decode cc pc = .ok (.iadd, 1)) (k : G E x ws lv (pc + 1) (.int (x1 + y1) :: st)) : G E x ws lv pc (.int y1 :: .int x1 :: st) := by
  obtain ⟨p, e, R, s, m, args, below, meth, c, A, nL, Q⟩ := x
  obtain ⟨hx, hb, hml, hown, hts, hK, hE, hA, hlk, hR⟩ := C
  subst hR
  intro H locs ls hP hD hS hl hnL
  exact lv_iadd hx hb d (k H locs ls hP hD hS hl hnL)
theorem g_isub (C : Ok E x cc own Ts rm) {x1 y1 : Int32} (d : decode cc pc = .ok (.isub, 1)) (k : G E x ws lv (pc + 1) (.int (x1 - y1) :: st)) : G E x ws lv pc (.int y1 :: .int x1 :: st) := by
  obtain ⟨p, e, R, s, m, args, below, meth, c, A, nL, Q⟩ := x
  obtain ⟨hx, hb, hml, hown, hts, hK, hE, hA, hlk, hR⟩ := C
  subst hR
  intro H locs ls hP hD hS hl hnL
  exact lv_isub hx hb d (k H locs ls hP hD hS hl hnL)
theorem g_imul (C : Ok E x cc own Ts rm) {x1 y1 : Int32} (d : decode cc pc = .ok (.imul, 1)) (k : G E x ws lv (pc + 1) (.int (x1 * y1) :: st)) : G E x ws lv pc (.int y1 :: .int x1 :: st) := by
  obtain ⟨p, e, R, s, m, args, below, meth, c, A, nL, Q⟩ := x
  obtain ⟨hx, hb, hml, hown, hts, hK, hE, hA, hlk, hR⟩ := C
  subst hR
  intro H locs ls hP hD hS hl hnL
  exact lv_imul hx hb d (k H locs ls hP hD hS hl hnL)
theorem g_iand (C : Ok E x cc own Ts rm) {x1 y1 : Int32} (d : decode cc pc = .ok (.iand, 1)) (k : G E x ws lv (pc + 1) (.int (x1 &&& y1) :: st)) : G E x ws lv pc (.int y1 :: .int x1 :: st) := by
  obtain ⟨p, e, R, s, m, args, below, meth, c, A, nL, Q⟩ := x
  obtain ⟨hx, hb, hml, hown, hts, hK, hE, hA, hlk, hR⟩ := C
  subst hR
  intro H locs ls hP hD hS hl hnL
  exact lv_iand hx hb d (k H locs ls hP hD hS hl hnL)
theorem g_idiv (C : Ok E x cc own Ts rm) {x1 y1 : Int32} (d : decode cc pc = .ok (.idiv, 1)) (hne : ¬ y1 = 0) (k : G E x ws lv (pc + 1) (.int (x1 / y1) :: st)) : G E x ws lv pc (.int y1 :: .int x1 :: st) := by
  obtain ⟨p, e, R, s, m, args, below, meth, c, A, nL, Q⟩ := x
  obtain ⟨hx, hb, hml, hown, hts, hK, hE, hA, hlk, hR⟩ := C
  subst hR
  intro H locs ls hP hD hS hl hnL
  exact lv_idiv hx hb d hne (k H locs ls hP hD hS hl hnL)
theorem g_irem (C : Ok E x cc own Ts rm) {x1 y1 : Int32} (d : decode cc pc = .ok (.irem, 1)) (hne : ¬ y1 = 0) (k : G E x ws lv (pc + 1) (.int (x1 - x1 / y1 * y1) :: st)) : G E x ws lv pc (.int y1 :: .int x1 :: st) := by
  obtain ⟨p, e, R, s, m, args, below, meth, c, A, nL, Q⟩ := x
  obtain ⟨hx, hb, hml, hown, hts, hK, hE, hA, hlk, hR⟩ := C
  subst hR
  intro H locs ls hP hD hS hl hnL
  exact lv_irem hx hb d hne (k H locs ls hP hD hS hl hnL)
theorem g_ineg (C : Ok E x cc own Ts rm) {x1 : Int32} (d : decode cc pc = .ok (.ineg, 1)) (k : G E x ws lv (pc + 1) (.int (-x1) :: st)) : G E x ws lv pc (.int x1 :: st) := by
  obtain ⟨p, e, R, s, m, args, below, meth, c, A, nL, Q⟩ := x
  obtain ⟨hx, hb, hml, hown, hts, hK, hE, hA, hlk, hR⟩ := C
  subst hR
  intro H locs ls hP hD hS hl hnL
  exact lv_ineg hx hb d (k H locs ls hP hD hS hl hnL)
theorem g_lsub (C : Ok E x cc own Ts rm) {x1 y1 : Int64} (d : decode cc pc = .ok (.lsub, 1)) (k : G E x ws lv (pc + 1) (.long (x1 - y1) :: st)) : G E x ws lv pc (.long y1 :: .long x1 :: st) := by
  obtain ⟨p, e, R, s, m, args, below, meth, c, A, nL, Q⟩ := x
  obtain ⟨hx, hb, hml, hown, hts, hK, hE, hA, hlk, hR⟩ := C
  subst hR
  intro H locs ls hP hD hS hl hnL
  exact lv_lsub hx hb d (k H locs ls hP hD hS hl hnL)
theorem g_land (C : Ok E x cc own Ts rm) {x1 y1 : Int64} (d : decode cc pc = .ok (.land, 1)) (k : G E x ws lv (pc + 1) (.long (x1 &&& y1) :: st)) : G E x ws lv pc (.long y1 :: .long x1 :: st) := by
  obtain ⟨p, e, R, s, m, args, below, meth, c, A, nL, Q⟩ := x
  obtain ⟨hx, hb, hml, hown, hts, hK, hE, hA, hlk, hR⟩ := C
  subst hR
  intro H locs ls hP hD hS hl hnL
  exact lv_land hx hb d (k H locs ls hP hD hS hl hnL)
theorem g_lshr (C : Ok E x cc own Ts rm) {x1 v : Int64} {y1 : Int32} (d : decode cc pc = .ok (.lshr, 1)) (hv : x1 >>> (y1.toInt64 &&& 63) = v) (k : G E x ws lv (pc + 1) (.long v :: st)) : G E x ws lv pc (.int y1 :: .long x1 :: st) := by
  obtain ⟨p, e, R, s, m, args, below, meth, c, A, nL, Q⟩ := x
  obtain ⟨hx, hb, hml, hown, hts, hK, hE, hA, hlk, hR⟩ := C
  subst hR
  intro H locs ls hP hD hS hl hnL
  exact lv_lshr hx hb d hv (k H locs ls hP hD hS hl hnL)
theorem g_i2l (C : Ok E x cc own Ts rm) {x1 : Int32} (d : decode cc pc = .ok (.i2l, 1)) (k : G E x ws lv (pc + 1) (.long x1.toInt64 :: st)) : G E x ws lv pc (.int x1 :: st) := by
  obtain ⟨p, e, R, s, m, args, below, meth, c, A, nL, Q⟩ := x
  obtain ⟨hx, hb, hml, hown, hts, hK, hE, hA, hlk, hR⟩ := C
  subst hR
  intro H locs ls hP hD hS hl hnL
  exact lv_i2l hx hb d rfl (k H locs ls hP hD hS hl hnL)
theorem g_l2i (C : Ok E x cc own Ts rm) {x1 : Int64} (d : decode cc pc = .ok (.l2i, 1)) (k : G E x ws lv (pc + 1) (.int x1.toInt32 :: st)) : G E x ws lv pc (.long x1 :: st) := by
  obtain ⟨p, e, R, s, m, args, below, meth, c, A, nL, Q⟩ := x
  obtain ⟨hx, hb, hml, hown, hts, hK, hE, hA, hlk, hR⟩ := C
  subst hR
  intro H locs ls hP hD hS hl hnL
  exact lv_l2i hx hb d rfl (k H locs ls hP hD hS hl hnL)
theorem g_i2c (C : Ok E x cc own Ts rm) {x1 : Int32} (d : decode cc pc = .ok (.i2c, 1)) (k : G E x ws lv (pc + 1) (.int (x1.toUInt32 % 65536).toInt32 :: st)) : G E x ws lv pc (.int x1 :: st) := by
  obtain ⟨p, e, R, s, m, args, below, meth, c, A, nL, Q⟩ := x
  obtain ⟨hx, hb, hml, hown, hts, hK, hE, hA, hlk, hR⟩ := C
  subst hR
  intro H locs ls hP hD hS hl hnL
  exact lv_i2c hx hb d rfl (k H locs ls hP hD hS hl hnL)
theorem g_lcmp (C : Ok E x cc own Ts rm) {x1 y1 : Int64} (d : decode cc pc = .ok (.lcmp, 1)) (k : G E x ws lv (pc + 1) (.int (lg_cmp x1 y1) :: st)) : G E x ws lv pc (.long y1 :: .long x1 :: st) := by
  obtain ⟨p, e, R, s, m, args, below, meth, c, A, nL, Q⟩ := x
  obtain ⟨hx, hb, hml, hown, hts, hK, hE, hA, hlk, hR⟩ := C
  subst hR
  intro H locs ls hP hD hS hl hnL
  exact W.lcmp hx hb d (k H locs ls hP hD hS hl hnL)
theorem g_dup (C : Ok E x cc own Ts rm) {v : Value} (d : decode cc pc = .ok (.dup, 1)) (hc : v.category = 1) (k : G E x ws lv (pc + 1) (v :: v :: st)) : G E x ws lv pc (v :: st) := by
  obtain ⟨p, e, R, s, m, args, below, meth, c, A, nL, Q⟩ := x
  obtain ⟨hx, hb, hml, hown, hts, hK, hE, hA, hlk, hR⟩ := C
  subst hR
  intro H locs ls hP hD hS hl hnL
  exact lv_dup hx hb d hc (k H locs ls hP hD hS hl hnL)
theorem g_dup2 (C : Ok E x cc own Ts rm) {v w : Value} (d : decode cc pc = .ok (.dup2, 1)) (hc : v.category = 1) (hc2 : w.category = 1) (k : G E x ws lv (pc + 1) (v :: w :: v :: w :: st)) : G E x ws lv pc (v :: w :: st) := by
  obtain ⟨p, e, R, s, m, args, below, meth, c, A, nL, Q⟩ := x
  obtain ⟨hx, hb, hml, hown, hts, hK, hE, hA, hlk, hR⟩ := C
  subst hR
  intro H locs ls hP hD hS hl hnL
  exact lv_dup2_11 hx hb d hc hc2 (k H locs ls hP hD hS hl hnL)
theorem g_pop (C : Ok E x cc own Ts rm) {v : Value} (d : decode cc pc = .ok (.pop, 1)) (hc : v.category = 1) (k : G E x ws lv (pc + 1) st) : G E x ws lv pc (v :: st) := by
  obtain ⟨p, e, R, s, m, args, below, meth, c, A, nL, Q⟩ := x
  obtain ⟨hx, hb, hml, hown, hts, hK, hE, hA, hlk, hR⟩ := C
  subst hR
  intro H locs ls hP hD hS hl hnL
  exact lv_pop hx hb d hc (k H locs ls hP hD hS hl hnL)
theorem g_goto (C : Ok E x cc own Ts rm) {off : Int} {tgt : Nat} (d : decode cc pc = .ok (.goto off, 3)) (ht : (pc : Int) + off = (tgt : Int)) (k : G E x ws lv tgt st) : G E x ws lv pc st := by
  obtain ⟨p, e, R, s, m, args, below, meth, c, A, nL, Q⟩ := x
  obtain ⟨hx, hb, hml, hown, hts, hK, hE, hA, hlk, hR⟩ := C
  subst hR
  intro H locs ls hP hD hS hl hnL
  exact lv_goto hx hb d ht (k H locs ls hP hD hS hl hnL)
theorem g_ifnonnull (C : Ok E x cc own Ts rm) {a : Nat} {off : Int} {tgt : Nat} (d : decode cc pc = .ok (.ifnonnull off, 3)) (ht : (pc : Int) + off = (tgt : Int)) (k : G E x ws lv tgt st) : G E x ws lv pc (.ref a :: st) := by
  obtain ⟨p, e, R, s, m, args, below, meth, c, A, nL, Q⟩ := x
  obtain ⟨hx, hb, hml, hown, hts, hK, hE, hA, hlk, hR⟩ := C
  subst hR
  intro H locs ls hP hD hS hl hnL
  exact lv_ifnonnull hx hb d ht (k H locs ls hP hD hS hl hnL)
theorem g_ifnull (C : Ok E x cc own Ts rm) {a : Nat} {off : Int} (d : decode cc pc = .ok (.ifnull off, 3)) (k : G E x ws lv (pc + 3) st) : G E x ws lv pc (.ref a :: st) := by
  obtain ⟨p, e, R, s, m, args, below, meth, c, A, nL, Q⟩ := x
  obtain ⟨hx, hb, hml, hown, hts, hK, hE, hA, hlk, hR⟩ := C
  subst hR
  intro H locs ls hP hD hS hl hnL
  exact lv_ifnull hx hb d (k H locs ls hP hD hS hl hnL)
theorem g_if_eq (C : Ok E x cc own Ts rm) {x1 : Int32} {off : Int} {tgt : Nat} (d : decode cc pc = .ok (.ifCond .eq off, 3)) (ht : (pc : Int) + off = (tgt : Int)) (kt : x1 = 0 → G E x ws lv tgt st) (kf : ¬ x1 = 0 → G E x ws lv (pc + 3) st) : G E x ws lv pc (.int x1 :: st) := by
  obtain ⟨p, e, R, s, m, args, below, meth, c, A, nL, Q⟩ := x
  obtain ⟨hx, hb, hml, hown, hts, hK, hE, hA, hlk, hR⟩ := C
  subst hR
  intro H locs ls hP hD hS hl hnL
  exact lv_if_eq hx hb d ht (fun h => kt h H locs ls hP hD hS hl hnL) (fun h => kf h H locs ls hP hD hS hl hnL)
theorem g_icmp_eq (C : Ok E x cc own Ts rm) {x1 y1 : Int32} {off : Int} {tgt : Nat} (d : decode cc pc = .ok (.if_icmp .eq off, 3)) (ht : (pc : Int) + off = (tgt : Int)) (kt : x1 = y1 → G E x ws lv tgt st) (kf : ¬ x1 = y1 → G E x ws lv (pc + 3) st) : G E x ws lv pc (.int y1 :: .int x1 :: st) := by
  obtain ⟨p, e, R, s, m, args, below, meth, c, A, nL, Q⟩ := x
  obtain ⟨hx, hb, hml, hown, hts, hK, hE, hA, hlk, hR⟩ := C
  subst hR
  intro H locs ls hP hD hS hl hnL
  exact lv_icmp_eq hx hb d ht (fun h => kt h H locs ls hP hD hS hl hnL) (fun h => kf h H locs ls hP hD hS hl hnL)
theorem g_if_ne (C : Ok E x cc own Ts rm) {x1 : Int32} {off : Int} {tgt : Nat} (d : decode cc pc = .ok (.ifCond .ne off, 3)) (ht : (pc : Int) + off = (tgt : Int)) (kt : ¬ x1 = 0 → G E x ws lv tgt st) (kf : x1 = 0 → G E x ws lv (pc + 3) st) : G E x ws lv pc (.int x1 :: st) := by
  obtain ⟨p, e, R, s, m, args, below, meth, c, A, nL, Q⟩ := x
  obtain ⟨hx, hb, hml, hown, hts, hK, hE, hA, hlk, hR⟩ := C
  subst hR
  intro H locs ls hP hD hS hl hnL
  exact lv_if_ne hx hb d ht (fun h => kt h H locs ls hP hD hS hl hnL) (fun h => kf h H locs ls hP hD hS hl hnL)
theorem g_icmp_ne (C : Ok E x cc own Ts rm) {x1 y1 : Int32} {off : Int} {tgt : Nat} (d : decode cc pc = .ok (.if_icmp .ne off, 3)) (ht : (pc : Int) + off = (tgt : Int)) (kt : ¬ x1 = y1 → G E x ws lv tgt st) (kf : x1 = y1 → G E x ws lv (pc + 3) st) : G E x ws lv pc (.int y1 :: .int x1 :: st) := by
  obtain ⟨p, e, R, s, m, args, below, meth, c, A, nL, Q⟩ := x
  obtain ⟨hx, hb, hml, hown, hts, hK, hE, hA, hlk, hR⟩ := C
  subst hR
  intro H locs ls hP hD hS hl hnL
  exact lv_icmp_ne hx hb d ht (fun h => kt h H locs ls hP hD hS hl hnL) (fun h => kf h H locs ls hP hD hS hl hnL)
theorem g_if_lt (C : Ok E x cc own Ts rm) {x1 : Int32} {off : Int} {tgt : Nat} (d : decode cc pc = .ok (.ifCond .lt off, 3)) (ht : (pc : Int) + off = (tgt : Int)) (kt : x1 < 0 → G E x ws lv tgt st) (kf : ¬ x1 < 0 → G E x ws lv (pc + 3) st) : G E x ws lv pc (.int x1 :: st) := by
  obtain ⟨p, e, R, s, m, args, below, meth, c, A, nL, Q⟩ := x
  obtain ⟨hx, hb, hml, hown, hts, hK, hE, hA, hlk, hR⟩ := C
  subst hR
  intro H locs ls hP hD hS hl hnL
  exact lv_if_lt hx hb d ht (fun h => kt h H locs ls hP hD hS hl hnL) (fun h => kf h H locs ls hP hD hS hl hnL)
theorem g_icmp_lt (C : Ok E x cc own Ts rm) {x1 y1 : Int32} {off : Int} {tgt : Nat} (d : decode cc pc = .ok (.if_icmp .lt off, 3)) (ht : (pc : Int) + off = (tgt : Int)) (kt : x1 < y1 → G E x ws lv tgt st) (kf : ¬ x1 < y1 → G E x ws lv (pc + 3) st) : G E x ws lv pc (.int y1 :: .int x1 :: st) := by
  obtain ⟨p, e, R, s, m, args, below, meth, c, A, nL, Q⟩ := x
  obtain ⟨hx, hb, hml, hown, hts, hK, hE, hA, hlk, hR⟩ := C
  subst hR
  intro H locs ls hP hD hS hl hnL
  exact lv_icmp_lt hx hb d ht (fun h => kt h H locs ls hP hD hS hl hnL) (fun h => kf h H locs ls hP hD hS hl hnL)
theorem g_if_ge (C : Ok E x cc own Ts rm) {x1 : Int32} {off : Int} {tgt : Nat} (d : decode cc pc = .ok (.ifCond .ge off, 3)) (ht : (pc : Int) + off = (tgt : Int)) (kt : 0 ≤ x1 → G E x ws lv tgt st) (kf : ¬ 0 ≤ x1 → G E x ws lv (pc + 3) st) : G E x ws lv pc (.int x1 :: st) := by
  obtain ⟨p, e, R, s, m, args, below, meth, c, A, nL, Q⟩ := x
  obtain ⟨hx, hb, hml, hown, hts, hK, hE, hA, hlk, hR⟩ := C
  subst hR
  intro H locs ls hP hD hS hl hnL
  exact lv_if_ge hx hb d ht (fun h => kt h H locs ls hP hD hS hl hnL) (fun h => kf h H locs ls hP hD hS hl hnL)
theorem g_icmp_ge (C : Ok E x cc own Ts rm) {x1 y1 : Int32} {off : Int} {tgt : Nat} (d : decode cc pc = .ok (.if_icmp .ge off, 3)) (ht : (pc : Int) + off = (tgt : Int)) (kt : y1 ≤ x1 → G E x ws lv tgt st) (kf : ¬ y1 ≤ x1 → G E x ws lv (pc + 3) st) : G E x ws lv pc (.int y1 :: .int x1 :: st) := by
  obtain ⟨p, e, R, s, m, args, below, meth, c, A, nL, Q⟩ := x
  obtain ⟨hx, hb, hml, hown, hts, hK, hE, hA, hlk, hR⟩ := C
  subst hR
  intro H locs ls hP hD hS hl hnL
  exact lv_icmp_ge hx hb d ht (fun h => kt h H locs ls hP hD hS hl hnL) (fun h => kf h H locs ls hP hD hS hl hnL)
theorem g_if_gt (C : Ok E x cc own Ts rm) {x1 : Int32} {off : Int} {tgt : Nat} (d : decode cc pc = .ok (.ifCond .gt off, 3)) (ht : (pc : Int) + off = (tgt : Int)) (kt : 0 < x1 → G E x ws lv tgt st) (kf : ¬ 0 < x1 → G E x ws lv (pc + 3) st) : G E x ws lv pc (.int x1 :: st) := by
  obtain ⟨p, e, R, s, m, args, below, meth, c, A, nL, Q⟩ := x
  obtain ⟨hx, hb, hml, hown, hts, hK, hE, hA, hlk, hR⟩ := C
  subst hR
  intro H locs ls hP hD hS hl hnL
  exact lv_if_gt hx hb d ht (fun h => kt h H locs ls hP hD hS hl hnL) (fun h => kf h H locs ls hP hD hS hl hnL)
theorem g_icmp_gt (C : Ok E x cc own Ts rm) {x1 y1 : Int32} {off : Int} {tgt : Nat} (d : decode cc pc = .ok (.if_icmp .gt off, 3)) (ht : (pc : Int) + off = (tgt : Int)) (kt : y1 < x1 → G E x ws lv tgt st) (kf : ¬ y1 < x1 → G E x ws lv (pc + 3) st) : G E x ws lv pc (.int y1 :: .int x1 :: st) := by
  obtain ⟨p, e, R, s, m, args, below, meth, c, A, nL, Q⟩ := x
  obtain ⟨hx, hb, hml, hown, hts, hK, hE, hA, hlk, hR⟩ := C
  subst hR
  intro H locs ls hP hD hS hl hnL
  exact lv_icmp_gt hx hb d ht (fun h => kt h H locs ls hP hD hS hl hnL) (fun h => kf h H locs ls hP hD hS hl hnL)
theorem g_if_le (C : Ok E x cc own Ts rm) {x1 : Int32} {off : Int} {tgt : Nat} (d : decode cc pc = .ok (.ifCond .le off, 3)) (ht : (pc : Int) + off = (tgt : Int)) (kt : x1 ≤ 0 → G E x ws lv tgt st) (kf : ¬ x1 ≤ 0 → G E x ws lv (pc + 3) st) : G E x ws lv pc (.int x1 :: st) := by
  obtain ⟨p, e, R, s, m, args, below, meth, c, A, nL, Q⟩ := x
  obtain ⟨hx, hb, hml, hown, hts, hK, hE, hA, hlk, hR⟩ := C
  subst hR
  intro H locs ls hP hD hS hl hnL
  exact lv_if_le hx hb d ht (fun h => kt h H locs ls hP hD hS hl hnL) (fun h => kf h H locs ls hP hD hS hl hnL)
theorem g_icmp_le (C : Ok E x cc own Ts rm) {x1 y1 : Int32} {off : Int} {tgt : Nat} (d : decode cc pc = .ok (.if_icmp .le off, 3)) (ht : (pc : Int) + off = (tgt : Int)) (kt : x1 ≤ y1 → G E x ws lv tgt st) (kf : ¬ x1 ≤ y1 → G E x ws lv (pc + 3) st) : G E x ws lv pc (.int y1 :: .int x1 :: st) := by
  obtain ⟨p, e, R, s, m, args, below, meth, c, A, nL, Q⟩ := x
  obtain ⟨hx, hb, hml, hown, hts, hK, hE, hA, hlk, hR⟩ := C
  subst hR
  intro H locs ls hP hD hS hl hnL
  exact lv_icmp_le hx hb d ht (fun h => kt h H locs ls hP hD hS hl hnL) (fun h => kf h H locs ls hP hD hS hl hnL)
theorem g_if_eq_t (C : Ok E x cc own Ts rm) {x1 : Int32} {off : Int} {tgt : Nat} (d : decode cc pc = .ok (.ifCond .eq off, 3)) (ht : (pc : Int) + off = (tgt : Int)) (h : x1 = 0) (k : G E x ws lv tgt st) : G E x ws lv pc (.int x1 :: st) := g_if_eq C d ht (fun _ => k) (fun z => absurd h z)
theorem g_if_eq_f (C : Ok E x cc own Ts rm) {x1 : Int32} {off : Int} (d : decode cc pc = .ok (.ifCond .eq off, 3)) (tgt : Nat) (ht : (pc : Int) + off = (tgt : Int)) (h : ¬ x1 = 0) (k : G E x ws lv (pc + 3) st) : G E x ws lv pc (.int x1 :: st) := g_if_eq C d ht (fun z => absurd z h) (fun _ => k)
theorem g_icmp_eq_t (C : Ok E x cc own Ts rm) {x1 y1 : Int32} {off : Int} {tgt : Nat} (d : decode cc pc = .ok (.if_icmp .eq off, 3)) (ht : (pc : Int) + off = (tgt : Int)) (h : x1 = y1) (k : G E x ws lv tgt st) : G E x ws lv pc (.int y1 :: .int x1 :: st) := g_icmp_eq C d ht (fun _ => k) (fun z => absurd h z)
theorem g_icmp_eq_f (C : Ok E x cc own Ts rm) {x1 y1 : Int32} {off : Int} (d : decode cc pc = .ok (.if_icmp .eq off, 3)) (tgt : Nat) (ht : (pc : Int) + off = (tgt : Int)) (h : ¬ x1 = y1) (k : G E x ws lv (pc + 3) st) : G E x ws lv pc (.int y1 :: .int x1 :: st) := g_icmp_eq C d ht (fun z => absurd z h) (fun _ => k)
theorem g_if_ne_t (C : Ok E x cc own Ts rm) {x1 : Int32} {off : Int} {tgt : Nat} (d : decode cc pc = .ok (.ifCond .ne off, 3)) (ht : (pc : Int) + off = (tgt : Int)) (h : ¬ x1 = 0) (k : G E x ws lv tgt st) : G E x ws lv pc (.int x1 :: st) := g_if_ne C d ht (fun _ => k) (fun z => absurd z h)
theorem g_if_ne_f (C : Ok E x cc own Ts rm) {x1 : Int32} {off : Int} (d : decode cc pc = .ok (.ifCond .ne off, 3)) (tgt : Nat) (ht : (pc : Int) + off = (tgt : Int)) (h : x1 = 0) (k : G E x ws lv (pc + 3) st) : G E x ws lv pc (.int x1 :: st) := g_if_ne C d ht (fun z => absurd h z) (fun _ => k)
theorem g_icmp_ne_t (C : Ok E x cc own Ts rm) {x1 y1 : Int32} {off : Int} {tgt : Nat} (d : decode cc pc = .ok (.if_icmp .ne off, 3)) (ht : (pc : Int) + off = (tgt : Int)) (h : ¬ x1 = y1) (k : G E x ws lv tgt st) : G E x ws lv pc (.int y1 :: .int x1 :: st) := g_icmp_ne C d ht (fun _ => k) (fun z => absurd z h)
theorem g_icmp_ne_f (C : Ok E x cc own Ts rm) {x1 y1 : Int32} {off : Int} (d : decode cc pc = .ok (.if_icmp .ne off, 3)) (tgt : Nat) (ht : (pc : Int) + off = (tgt : Int)) (h : x1 = y1) (k : G E x ws lv (pc + 3) st) : G E x ws lv pc (.int y1 :: .int x1 :: st) := g_icmp_ne C d ht (fun z => absurd h z) (fun _ => k)
theorem g_if_lt_t (C : Ok E x cc own Ts rm) {x1 : Int32} {off : Int} {tgt : Nat} (d : decode cc pc = .ok (.ifCond .lt off, 3)) (ht : (pc : Int) + off = (tgt : Int)) (h : x1 < 0) (k : G E x ws lv tgt st) : G E x ws lv pc (.int x1 :: st) := g_if_lt C d ht (fun _ => k) (fun z => absurd h z)
theorem g_if_lt_f (C : Ok E x cc own Ts rm) {x1 : Int32} {off : Int} (d : decode cc pc = .ok (.ifCond .lt off, 3)) (tgt : Nat) (ht : (pc : Int) + off = (tgt : Int)) (h : ¬ x1 < 0) (k : G E x ws lv (pc + 3) st) : G E x ws lv pc (.int x1 :: st) := g_if_lt C d ht (fun z => absurd z h) (fun _ => k)
theorem g_icmp_lt_t (C : Ok E x cc own Ts rm) {x1 y1 : Int32} {off : Int} {tgt : Nat} (d : decode cc pc = .ok (.if_icmp .lt off, 3)) (ht : (pc : Int) + off = (tgt : Int)) (h : x1 < y1) (k : G E x ws lv tgt st) : G E x ws lv pc (.int y1 :: .int x1 :: st) := g_icmp_lt C d ht (fun _ => k) (fun z => absurd h z)
theorem g_icmp_lt_f (C : Ok E x cc own Ts rm) {x1 y1 : Int32} {off : Int} (d : decode cc pc = .ok (.if_icmp .lt off, 3)) (tgt : Nat) (ht : (pc : Int) + off = (tgt : Int)) (h : ¬ x1 < y1) (k : G E x ws lv (pc + 3) st) : G E x ws lv pc (.int y1 :: .int x1 :: st) := g_icmp_lt C d ht (fun z => absurd z h) (fun _ => k)
theorem g_if_ge_t (C : Ok E x cc own Ts rm) {x1 : Int32} {off : Int} {tgt : Nat} (d : decode cc pc = .ok (.ifCond .ge off, 3)) (ht : (pc : Int) + off = (tgt : Int)) (h : 0 ≤ x1) (k : G E x ws lv tgt st) : G E x ws lv pc (.int x1 :: st) := g_if_ge C d ht (fun _ => k) (fun z => absurd h z)
theorem g_if_ge_f (C : Ok E x cc own Ts rm) {x1 : Int32} {off : Int} (d : decode cc pc = .ok (.ifCond .ge off, 3)) (tgt : Nat) (ht : (pc : Int) + off = (tgt : Int)) (h : ¬ 0 ≤ x1) (k : G E x ws lv (pc + 3) st) : G E x ws lv pc (.int x1 :: st) := g_if_ge C d ht (fun z => absurd z h) (fun _ => k)
theorem g_icmp_ge_t (C : Ok E x cc own Ts rm) {x1 y1 : Int32} {off : Int} {tgt : Nat} (d : decode cc pc = .ok (.if_icmp .ge off, 3)) (ht : (pc : Int) + off = (tgt : Int)) (h : y1 ≤ x1) (k : G E x ws lv tgt st) : G E x ws lv pc (.int y1 :: .int x1 :: st) := g_icmp_ge C d ht (fun _ => k) (fun z => absurd h z)
theorem g_icmp_ge_f (C : Ok E x cc own Ts rm) {x1 y1 : Int32} {off : Int} (d : decode cc pc = .ok (.if_icmp .ge off, 3)) (tgt : Nat) (ht : (pc : Int) + off = (tgt : Int)) (h : ¬ y1 ≤ x1) (k : G E x ws lv (pc + 3) st) : G E x ws lv pc (.int y1 :: .int x1 :: st) := g_icmp_ge C d ht (fun z => absurd z h) (fun _ => k)
theorem g_if_gt_t (C : Ok E x cc own Ts rm) {x1 : Int32} {off : Int} {tgt : Nat} (d : decode cc pc = .ok (.ifCond .gt off, 3)) (ht : (pc : Int) + off = (tgt : Int)) (h : 0 < x1) (k : G E x ws lv tgt st) : G E x ws lv pc (.int x1 :: st) := g_if_gt C d ht (fun _ => k) (fun z => absurd h z)
theorem g_if_gt_f (C : Ok E x cc own Ts rm) {x1 : Int32} {off : Int} (d : decode cc pc = .ok (.ifCond .gt off, 3)) (tgt : Nat) (ht : (pc : Int) + off = (tgt : Int)) (h : ¬ 0 < x1) (k : G E x ws lv (pc + 3) st) : G E x ws lv pc (.int x1 :: st) := g_if_gt C d ht (fun z => absurd z h) (fun _ => k)
theorem g_icmp_gt_t (C : Ok E x cc own Ts rm) {x1 y1 : Int32} {off : Int} {tgt : Nat} (d : decode cc pc = .ok (.if_icmp .gt off, 3)) (ht : (pc : Int) + off = (tgt : Int)) (h : y1 < x1) (k : G E x ws lv tgt st) : G E x ws lv pc (.int y1 :: .int x1 :: st) := g_icmp_gt C d ht (fun _ => k) (fun z => absurd h z)
theorem g_icmp_gt_f (C : Ok E x cc own Ts rm) {x1 y1 : Int32} {off : Int} (d : decode cc pc = .ok (.if_icmp .gt off, 3)) (tgt : Nat) (ht : (pc : Int) + off = (tgt : Int)) (h : ¬ y1 < x1) (k : G E x ws lv (pc + 3) st) : G E x ws lv pc (.int y1 :: .int x1 :: st) := g_icmp_gt C d ht (fun z => absurd z h) (fun _ => k)
theorem g_if_le_t (C : Ok E x cc own Ts rm) {x1 : Int32} {off : Int} {tgt : Nat} (d : decode cc pc = .ok (.ifCond .le off, 3)) (ht : (pc : Int) + off = (tgt : Int)) (h : x1 ≤ 0) (k : G E x ws lv tgt st) : G E x ws lv pc (.int x1 :: st) := g_if_le C d ht (fun _ => k) (fun z => absurd h z)
theorem g_if_le_f (C : Ok E x cc own Ts rm) {x1 : Int32} {off : Int} (d : decode cc pc = .ok (.ifCond .le off, 3)) (tgt : Nat) (ht : (pc : Int) + off = (tgt : Int)) (h : ¬ x1 ≤ 0) (k : G E x ws lv (pc + 3) st) : G E x ws lv pc (.int x1 :: st) := g_if_le C d ht (fun z => absurd z h) (fun _ => k)
theorem g_icmp_le_t (C : Ok E x cc own Ts rm) {x1 y1 : Int32} {off : Int} {tgt : Nat} (d : decode cc pc = .ok (.if_icmp .le off, 3)) (ht : (pc : Int) + off = (tgt : Int)) (h : x1 ≤ y1) (k : G E x ws lv tgt st) : G E x ws lv pc (.int y1 :: .int x1 :: st) := g_icmp_le C d ht (fun _ => k) (fun z => absurd h z)
theorem g_icmp_le_f (C : Ok E x cc own Ts rm) {x1 y1 : Int32} {off : Int} (d : decode cc pc = .ok (.if_icmp .le off, 3)) (tgt : Nat) (ht : (pc : Int) + off = (tgt : Int)) (h : ¬ x1 ≤ y1) (k : G E x ws lv (pc + 3) st) : G E x ws lv pc (.int y1 :: .int x1 :: st) := g_icmp_le C d ht (fun z => absurd z h) (fun _ => k)
theorem g_lookup (C : Ok E x cc own Ts rm) {dflt : Int} {ps : Array (Int × Int)} {len : Nat} {x1 : Int32} {off : Int} {tgt : Nat} (d : decode cc pc = .ok (.lookupswitch dflt ps, len)) (hp : (ps.toList.zip (ps.toList.drop 1)).all (fun (a, next) => a.1 < next.1) = true) (ho : Op.lookupswitch.offset ps.toList dflt x1.toInt = off) (ht : (pc : Int) + off = (tgt : Int)) (k : G E x ws lv tgt st) : G E x ws lv pc (.int x1 :: st) := by
  obtain ⟨p, e, R, s, m, args, below, meth, c, A, nL, Q⟩ := x
  obtain ⟨hx, hb, hml, hown, hts, hK, hE, hA, hlk, hR⟩ := C
  subst hR
  intro H locs ls hP hD hS hl hnL
  exact lv_lookup hx hb d hp ho ht (k H locs ls hP hD hS hl hnL)
theorem g_tableOut (C : Ok E x cc own Ts rm) {dflt lo hi : Int} {offs : Array Int} {len : Nat} {x1 : Int32} {tgt : Nat} (d : decode cc pc = .ok (.tableswitch dflt lo hi offs, len)) (h : x1.toInt < lo ∨ hi < x1.toInt) (ht : (pc : Int) + dflt = (tgt : Int)) (k : G E x ws lv tgt st) : G E x ws lv pc (.int x1 :: st) := by
  obtain ⟨p, e, R, s, m, args, below, meth, c, A, nL, Q⟩ := x
  obtain ⟨hx, hb, hml, hown, hts, hK, hE, hA, hlk, hR⟩ := C
  subst hR
  intro H locs ls hP hD hS hl hnL
  exact lv_tableOut hx hb d h ht (k H locs ls hP hD hS hl hnL)
theorem g_tableIn (C : Ok E x cc own Ts rm) {dflt lo hi : Int} {offs : Array Int} {len : Nat} {x1 : Int32} {off : Int} {tgt : Nat} (d : decode cc pc = .ok (.tableswitch dflt lo hi offs, len)) (h1 : ¬ x1.toInt < lo) (h2 : ¬ hi < x1.toInt) (ho : offs[(x1.toInt - lo).toNat]? = some off) (ht : (pc : Int) + off = (tgt : Int)) (k : G E x ws lv tgt st) : G E x ws lv pc (.int x1 :: st) := by
  obtain ⟨p, e, R, s, m, args, below, meth, c, A, nL, Q⟩ := x
  obtain ⟨hx, hb, hml, hown, hts, hK, hE, hA, hlk, hR⟩ := C
  subst hR
  intro H locs ls hP hD hS hl hnL
  exact lv_tableIn hx hb d h1 h2 ho ht (k H locs ls hP hD hS hl hnL)
theorem g_get (C : Ok E x cc own Ts rm) {Cn : String} {T : u_T} {N ci index a : Nat} (hin : ∀ w ∈ u_ws Cn T N, w ∈ Ts) (q0 : Nat) {fs : List Value} (he : ws[q0]? = some (a, .inr (ci, fs))) (hc : vwCl[ci]? = some (Cn, T, N)) (k0 : Nat) (hk : k0 < N) (hw : Cond.fieldLink own index (T k0).1 (T k0).2.1 (T k0).2.2.1 ∈ Ts) {v : Value} (hv : fs[k0]? = some v) (d : decode cc pc = .ok (.getfield index, 3)) (k : G E x ws lv (pc + 3) (v :: st)) : G E x ws lv pc (.ref a :: st) := by
  obtain ⟨p, e, R, s, m, args, below, meth, c, A, nL, Q⟩ := x
  obtain ⟨hx, hb, hml, hown, hts, hK, hE, hA, hlk, hR⟩ := C
  subst hR
  intro H locs ls hP hD hS hl hnL
  exact va_get hx hb hts hin hown hK.1 hP q0 he hc k0 hk (hts _ hw) (fun x h => h) hv d (k H locs ls hP hD hS hl hnL)
theorem g_getN (C : Ok E x cc own Ts rm) {Cn host : String} {T : u_T} {N ci index a : Nat} (hin : ∀ w ∈ u_ws Cn T N, w ∈ Ts) (q0 : Nat) {fs : List Value} (he : ws[q0]? = some (a, .inr (ci, fs))) (hc : vwCl[ci]? = some (Cn, T, N)) (k0 : Nat) (hk : k0 < N) (hw : Cond.fieldLinkNest own index (T k0).1 (T k0).2.1 (T k0).2.2.1 host ∈ nestW) {v : Value} (hv : fs[k0]? = some v) (d : decode cc pc = .ok (.getfield index, 3)) (k : G E x ws lv (pc + 3) (v :: st)) : G E x ws lv pc (.ref a :: st) := by
  obtain ⟨p, e, R, s, m, args, below, meth, c, A, nL, Q⟩ := x
  obtain ⟨hx, hb, hml, hown, hts, hK, hE, hA, hlk, hR⟩ := C
  subst hR
  intro H locs ls hP hD hS hl hnL
  exact va_getN hx hb hts hin hown hK.1 hP q0 he hc k0 hk (va_Nw.use (isNest_tab (nestW_ok _ hw)) (hK.2.1 _ hw)) (fun x h => h) hv d (k H locs ls hP hD hS hl hnL)
theorem g_put (C : Ok E x cc own Ts rm) {Cn : String} {T : u_T} {N ci index a : Nat} (hin : ∀ w ∈ u_ws Cn T N, w ∈ Ts) (ty0 : Nat → FieldType) (hty : ∀ k, k < N → parseFieldDescriptor (T k).2.2.1 = some (ty0 k)) (hnm : ∀ a, a < N → ∀ b, b < N → a ≠ b → (T a).2.1 ≠ (T b).2.1) (q0 : Nat) {fs : List Value} {ws' : va_W} (he : ws[q0]? = some (a, .inr (ci, fs))) (hc : vwCl[ci]? = some (Cn, T, N)) (k0 : Nat) (hk : k0 < N) (hw : Cond.fieldLink own index (T k0).1 (T k0).2.1 (T k0).2.2.1 ∈ Ts) (hfin : (T k0).2.2.2 = false) {ty : FieldType} {v : Value} (hd : parseFieldDescriptor (T k0).2.2.1 = some ty) (hn : narrow ty v = v) (hfit : fits ty v = true) (hlen : k0 < fs.length) (d : decode cc pc = .ok (.putfield index, 3)) (hws : ws.set q0 (a, .inr (ci, fs.set k0 v)) = ws') (k : G E x ws' lv (pc + 3) st) : G E x ws lv pc (v :: .ref a :: st) := by
  obtain ⟨p, e, R, s, m, args, below, meth, c, A, nL, Q⟩ := x
  obtain ⟨hx, hb, hml, hown, hts, hK, hE, hA, hlk, hR⟩ := C
  subst hR
  intro H locs ls hP hD hS hl hnL
  subst hws
  exact va_put hx hb hts hin ty0 hty hnm hown hK.1 hP hD hS q0 he hc k0 hk (hts _ hw) (fun x h => h) hfin hd hn hfit hlen d (fun H1 l1 h1 h2 h3 => k H1 l1 ls h1 h2 h3 hl hnL)
theorem g_iald (C : Ok E x cc own Ts rm) (q0 : Nat) {a n : Nat} {f : Nat → Int32} (ha : ws[q0]? = some (a, .inl (E.2.2 0, n, .inl f))) (j : Nat) {i : Int32} (hi : i = nI j) (hj : j < n) (hn : n < 2 ^ 31) (d : decode cc pc = .ok (.iaload, 1)) (k : G E x ws lv (pc + 1) (.int (f j) :: st)) : G E x ws lv pc (.int i :: .ref a :: st) := by
  obtain ⟨p, e, R, s, m, args, below, meth, c, A, nL, Q⟩ := x
  obtain ⟨hx, hb, hml, hown, hts, hK, hE, hA, hlk, hR⟩ := C
  subst hR
  intro H locs ls hP hD hS hl hnL
  subst hi
  have e : (nI j).toNatClampNeg = j := nI_clamp (by omega)
  refine va_iald hx hb hK.1 hP q0 0 ha rfl (vp_in_nI hj hn) d ?_
  rw [e]
  exact k H locs ls hP hD hS hl hnL
theorem g_zald (C : Ok E x cc own Ts rm) (q0 : Nat) {a n : Nat} {f : Nat → Int32} (ha : ws[q0]? = some (a, .inl (E.2.2 1, n, .inl f))) (j : Nat) {i : Int32} (hi : i = nI j) (hj : j < n) (hn : n < 2 ^ 31) (d : decode cc pc = .ok (.baload, 1)) (k : G E x ws lv (pc + 1) (.int (f j) :: st)) : G E x ws lv pc (.int i :: .ref a :: st) := by
  obtain ⟨p, e, R, s, m, args, below, meth, c, A, nL, Q⟩ := x
  obtain ⟨hx, hb, hml, hown, hts, hK, hE, hA, hlk, hR⟩ := C
  subst hR
  intro H locs ls hP hD hS hl hnL
  subst hi
  have e : (nI j).toNatClampNeg = j := nI_clamp (by omega)
  refine va_zald hx hb hK.1 hP q0 1 ha rfl (vp_in_nI hj hn) d ?_
  rw [e]
  exact k H locs ls hP hD hS hl hnL
theorem g_cald (C : Ok E x cc own Ts rm) (q0 : Nat) {a n : Nat} {f : Nat → Int32} (ha : ws[q0]? = some (a, .inl (E.2.2 2, n, .inl f))) (j : Nat) {i : Int32} (hi : i = nI j) (hj : j < n) (hn : n < 2 ^ 31) (d : decode cc pc = .ok (.caload, 1)) (k : G E x ws lv (pc + 1) (.int (f j) :: st)) : G E x ws lv pc (.int i :: .ref a :: st) := by
  obtain ⟨p, e, R, s, m, args, below, meth, c, A, nL, Q⟩ := x
  obtain ⟨hx, hb, hml, hown, hts, hK, hE, hA, hlk, hR⟩ := C
  subst hR
  intro H locs ls hP hD hS hl hnL
  subst hi
  have e : (nI j).toNatClampNeg = j := nI_clamp (by omega)
  refine va_cald hx hb hK.1 hP q0 2 ha rfl (vp_in_nI hj hn) d ?_
  rw [e]
  exact k H locs ls hP hD hS hl hnL
theorem g_iast (C : Ok E x cc own Ts rm) (q0 : Nat) {a n : Nat} {f : Nat → Int32} {ws' : va_W} (ha : ws[q0]? = some (a, .inl (E.2.2 0, n, .inl f))) (j : Nat) {i v : Int32} (hi : i = nI j) (hj : j < n) (hn : n < 2 ^ 31) (d : decode cc pc = .ok (.iastore, 1)) (hws : ws.set q0 (a, .inl (E.2.2 0, n, .inl (upd f j v))) = ws') (k : G E x ws' lv (pc + 1) st) : G E x ws lv pc (.int v :: .int i :: .ref a :: st) := by
  obtain ⟨p, e, R, s, m, args, below, meth, c, A, nL, Q⟩ := x
  obtain ⟨hx, hb, hml, hown, hts, hK, hE, hA, hlk, hR⟩ := C
  subst hR
  intro H locs ls hP hD hS hl hnL
  subst hi
  subst hws
  have e : (nI j).toNatClampNeg = j := nI_clamp (by omega)
  refine va_iast hx hb hK.1 hP hD hS q0 0 ha rfl (vp_in_nI hj hn) d ?_
  rw [e]
  exact fun H1 l1 h1 h2 h3 => k H1 l1 ls h1 h2 h3 hl hnL
theorem g_zast (C : Ok E x cc own Ts rm) (q0 : Nat) {a n : Nat} {f : Nat → Int32} {ws' : va_W} (ha : ws[q0]? = some (a, .inl (E.2.2 1, n, .inl f))) (j : Nat) {i v : Int32} (hi : i = nI j) (hj : j < n) (hn : n < 2 ^ 31) (d : decode cc pc = .ok (.bastore, 1)) (hws : ws.set q0 (a, .inl (E.2.2 1, n, .inl (upd f j (vp_nar .boolean v)))) = ws') (k : G E x ws' lv (pc + 1) st) : G E x ws lv pc (.int v :: .int i :: .ref a :: st) := by
  obtain ⟨p, e, R, s, m, args, below, meth, c, A, nL, Q⟩ := x
  obtain ⟨hx, hb, hml, hown, hts, hK, hE, hA, hlk, hR⟩ := C
  subst hR
  intro H locs ls hP hD hS hl hnL
  subst hi
  subst hws
  have e : (nI j).toNatClampNeg = j := nI_clamp (by omega)
  refine va_zast hx hb hK.1 hP hD hS q0 1 ha rfl (vp_in_nI hj hn) d ?_
  rw [e]
  exact fun H1 l1 h1 h2 h3 => k H1 l1 ls h1 h2 h3 hl hnL
theorem g_cast (C : Ok E x cc own Ts rm) (q0 : Nat) {a n : Nat} {f : Nat → Int32} {ws' : va_W} (ha : ws[q0]? = some (a, .inl (E.2.2 2, n, .inl f))) (j : Nat) {i v : Int32} (hi : i = nI j) (hj : j < n) (hn : n < 2 ^ 31) (d : decode cc pc = .ok (.castore, 1)) (hws : ws.set q0 (a, .inl (E.2.2 2, n, .inl (upd f j (vp_nar .char v)))) = ws') (k : G E x ws' lv (pc + 1) st) : G E x ws lv pc (.int v :: .int i :: .ref a :: st) := by
  obtain ⟨p, e, R, s, m, args, below, meth, c, A, nL, Q⟩ := x
  obtain ⟨hx, hb, hml, hown, hts, hK, hE, hA, hlk, hR⟩ := C
  subst hR
  intro H locs ls hP hD hS hl hnL
  subst hi
  subst hws
  have e : (nI j).toNatClampNeg = j := nI_clamp (by omega)
  refine va_cast hx hb hK.1 hP hD hS q0 2 ha rfl (vp_in_nI hj hn) d ?_
  rw [e]
  exact fun H1 l1 h1 h2 h3 => k H1 l1 ls h1 h2 h3 hl hnL
theorem g_aald (C : Ok E x cc own Ts rm) (q0 : Nat) {a n : Nat} {f : Nat → Option Nat} (ha : ws[q0]? = some (a, .inl (E.2.2 3, n, .inr (.inr (.inr (.inr f)))))) (j : Nat) {i : Int32} (hi : i = nI j) (hj : j < n) (hn : n < 2 ^ 31) (d : decode cc pc = .ok (.aaload, 1)) (k : G E x ws lv (pc + 1) (va_rf (f j) :: st)) : G E x ws lv pc (.int i :: .ref a :: st) := by
  obtain ⟨p, e, R, s, m, args, below, meth, c, A, nL, Q⟩ := x
  obtain ⟨hx, hb, hml, hown, hts, hK, hE, hA, hlk, hR⟩ := C
  subst hR
  intro H locs ls hP hD hS hl hnL
  subst hi
  have e : (nI j).toNatClampNeg = j := nI_clamp (by omega)
  refine va_aldq hx hb hK.1 hP q0 3 ha (C := "KiteRegisters$Sky") rfl (vp_in_nI hj hn) d ?_
  rw [e]
  exact k H locs ls hP hD hS hl hnL
theorem g_iret (C : Ok E x cc own Ts rm) {post : Int32 → va_W → Prop} (R0 : RetI E x .int post) {v : Int32} (d : decode cc pc = .ok (.ireturn, 1)) (h : post v ws) : G E x ws lv pc [.int v] := by
  obtain ⟨p, e, R, s, m, args, below, meth, c, A, nL, Q⟩ := x
  obtain ⟨hx, hb, hml, hown, hts, hK, hE, hA, hlk, hR⟩ := C
  subst hR
  intro H locs ls hP hD hS hl hnL
  obtain ⟨rfl, hr⟩ := R0
  exact W.iret (v := v) hx hb hr (fun t ht hW => ⟨⟨v, ws, rfl, h, by rw [ht]; exact hP, hD⟩, hS.F ht⟩) hS.2.2 d hlk
theorem g_zret (C : Ok E x cc own Ts rm) {post : Int32 → va_W → Prop} {ty : FieldType} (R0 : RetI E x ty post) {v : Int32} (hn : narrow ty (.int v) = .int v) (d : decode cc pc = .ok (.ireturn, 1)) (h : post v ws) : G E x ws lv pc [.int v] := by
  obtain ⟨p, e, R, s, m, args, below, meth, c, A, nL, Q⟩ := x
  obtain ⟨hx, hb, hml, hown, hts, hK, hE, hA, hlk, hR⟩ := C
  subst hR
  intro H locs ls hP hD hS hl hnL
  obtain ⟨rfl, hr⟩ := R0
  exact W.zret (v := v) hx hb hr hn (fun t ht hW => ⟨⟨v, ws, rfl, h, by rw [ht]; exact hP, hD⟩, hS.F ht⟩) hS.2.2 d hlk
theorem g_vret (C : Ok E x cc own Ts rm) {post : va_W → Prop} (R0 : RetV E x post) (d : decode cc pc = .ok (.return_, 1)) (h : post ws) : G E x ws lv pc [] := by
  obtain ⟨p, e, R, s, m, args, below, meth, c, A, nL, Q⟩ := x
  obtain ⟨hx, hb, hml, hown, hts, hK, hE, hA, hlk, hR⟩ := C
  subst hR
  intro H locs ls hP hD hS hl hnL
  obtain ⟨rfl, hr⟩ := R0
  exact W.vret hx hb hr (fun t ht hW => ⟨⟨ws, rfl, h, by rw [ht]; exact hP, hD⟩, hS.F ht⟩) hS.2.2 d hlk
theorem g_aret (C : Ok E x cc own Ts rm) {post : Nat → va_W → Prop} {ty : FieldType} (R0 : RetR E x ty post) (hrt : (∃ n, ty = .object n) ∨ ∃ t, ty = .array t) {a : Nat} (d : decode cc pc = .ok (.areturn, 1)) (h : post a ws) : G E x ws lv pc [.ref a] := by
  obtain ⟨p, e, R, s, m, args, below, meth, c, A, nL, Q⟩ := x
  obtain ⟨hx, hb, hml, hown, hts, hK, hE, hA, hlk, hR⟩ := C
  subst hR
  intro H locs ls hP hD hS hl hnL
  obtain ⟨rfl, hr⟩ := R0
  exact W.aret (v := .ref a) hx hb hr hrt (Or.inr ⟨a, rfl⟩) (fun t ht hW => ⟨⟨ws, a, rfl, trivial, ⟨h, by rw [ht]; exact hP, hD⟩⟩, hS.F ht⟩) hS.2.2 d hlk
/-- what a call needs of a callee: its code word first, its kind of name, its room -/
def CF (y : MethodName) (by1 : ByteArray) (nL1 : Nat) (ret : Option FieldType) (Ty : List Cond) (n : Nat) : Prop := (∃ Ty', Ty = Cond.code y by1 nL1 ret :: Ty') ∧ y.cls ≠ "java/lang/invoke/MethodHandle" ∧ y.cls ≠ "java/lang/invoke/VarHandle" ∧ (parseMethodDescriptor y.desc).map (fun d => d.parameters.length) = some n
def Fit (rm1 rm : Room) (nL1 : Nat) : Prop := (rm1.cells = 0 ∧ rm1.slots = 0) ∧ rm1.frames + 1 ≤ rm.frames ∧ 8 + (nL1 + 11) + rm1.locals ≤ rm.locals
theorem pl_sub {ws w0 : va_W} {isC : List Nat} (hC : isC.map (fun i => ws[i]?) = w0.map some) : isC.filterMap (fun i => ws[i]?) = w0 := by
  have e : (isC.map (fun i => ws[i]?)).filterMap id = w0 := by rw [hC, List.filterMap_map]; simp
  rw [← e, List.filterMap_map]
  rfl
theorem g_pre {E : Ev} {A : Nat → Prop} {s : State} {ws w0 : va_W} {H : Heap} {locs : List Loc} {isC : List Nat} {av : List Value} (hK : KK E s) (hE : SS E A s s.heap) (hP : va_P E.2.1 vwCl ws H) (hD : va_D A ws) (hS : va_S A s.heap H locs) (hA : ∀ q, s.heap.size ≤ q → A q) (hndC : va_nd isC = true) (hC : isC.map (fun i => ws[i]?) = w0.map some) : ∀ U : State, U.heap = H → s.WarmedH U.vm → mPc E w0 H.size av av.toArray U := by
  intro U hU hW
  have hF := va_free (wc := w0) hD hS hA isC hC
  refine ⟨rfl, by rw [hU], by rw [hU]; exact hP.sub isC (pl_sub hC), hK.warm hW, ?_, (hD.sub isC hndC hC).weaken (fun _ _ _ _ => trivial)⟩
  rw [hU]
  exact ((hE.kept (fun q h1 h2 => hS.2.1 q h1 h2)).narrow hF).moved hW.alike
theorem g_preF {E : Ev} {A : Nat → Prop} {s : State} {ws : va_W} {H : Heap} {locs : List Loc} {av : List Value} (hK : KK E s) (hE : SS E A s s.heap) (hP : va_P E.2.1 vwCl ws H) (hD : va_D A ws) (hS : va_S A s.heap H locs) (hF : ∀ q, va_A ws H.size q → A q) : ∀ U : State, U.heap = H → s.WarmedH U.vm → mPc E ws H.size av av.toArray U := by
  intro U hU hW
  refine ⟨rfl, by rw [hU], by rw [hU]; exact hP, hK.warm hW, ?_, hD.weaken (fun _ _ _ _ => trivial)⟩
  rw [hU]
  exact ((hE.kept (fun q h1 h2 => hS.2.1 q h1 h2)).narrow hF).moved hW.alike
theorem g_freeF {A : Nat → Prop} {s : State} {ws : va_W} {H : Heap} {locs : List Loc} (hD : va_D A ws) (hS : va_S A s.heap H locs) (hA : ∀ q, s.heap.size ≤ q → A q) : ∀ q, va_A ws H.size q → A q := by
  intro q h
  rcases h with ⟨k, e, h⟩ | h
  · exact hD.2 k (q, e) h
  · exact hA q (Nat.le_trans hS.1 h)
theorem g_calliV (C : Ok E x cc own Ts rm) {y : MethodName} {by1 : ByteArray} {nL1 n index : Nat} {ty : FieldType} {Ty : List Cond} {rm1 : Room} {w0 : va_W} {As st0 : List Value} {post : Int32 → va_W → Prop} {Cn : String} {T : u_T} {N ci b : Nat} {fs : List Value} (qr : Nat) (he : ws[qr]? = some (b, .inr (ci, fs))) (hcn : vwCl[ci]? = some (Cn, T, N)) (M : MI E y Ty rm1 w0 (.ref b :: As) post) (cf : CF y by1 nL1 (some ty) Ty n) (g : GoodIn Ts (wsV own index Cn y Ty)) (hcl : y.cls = Cn) (hF : Fit rm1 rm nL1) (hn : As.length = n) (hst : st0 = As.reverse ++ (.ref b :: st)) (hcat : (st.map fun v => v.category).sum ≤ 8) (d : decode cc pc = .ok (.invokevirtual index, 3)) (isC isR : List Nat) {wr : va_W} (hndC : va_nd isC = true) (hC : isC.map (fun i => ws[i]?) = w0.map some) (hR2 : isR.map (fun i => ws[i]?) = wr.map some) (hnd : va_nd isR = true) (hdis : ∀ i ∈ isR, i ∉ isC) (k : ∀ (r : Int32) (w1 : va_W), post r w1 → G E x (wr ++ w1) lv (pc + 3) (.int r :: st)) : G E x ws lv pc st0 := by
  obtain ⟨p, e, R, s, m, args, below, meth, c, A, nL, Q⟩ := x
  obtain ⟨hx, hb, hml, hown, hts, hK, hE, hA, hlk, hR⟩ := C
  subst hR
  intro H locs ls hP hD hS hl hnL
  obtain ⟨⟨Ty', hw⟩, hd⟩ := cf
  subst hst
  have hFr := va_free (wc := w0) hD hS hA isC hC
  refine va_calli (mc := 0) (ms := 0) (va_runV (As := As) (rest := st) ⟨hx, hb, hml, hown, hts⟩ (M H.size) (cwV n hts g hw hF.1.1 hF.1.2 ⟨hcl, hd⟩ hF.2) ⟨mPc_blind, va_recv hK.1 hP hcn he, g_pre hK hE hP hD hS hA hndC hC⟩ rfl hn hl.1 rfl (lv_room hcat) d ⟨Nat.zero_le _, Nat.zero_le _⟩) hS (fun q _ h => hFr q h) hFr (fun r u t H1 l1 ht hvm hp hB hz hk hS1 => ?_)
  have hB2 := hB
  obtain ⟨hP1, hD1⟩ := hB2
  rw [ht] at hP1
  obtain ⟨hP2, hD2⟩ := va_join hP hD isC isR hC hR2 hnd hdis hk hFr hP1 hD1
  exact k r u hp H1 l1 ls hP2 hD2 hS1 hl hnL
theorem g_calliVF (C : Ok E x cc own Ts rm) {y : MethodName} {by1 : ByteArray} {nL1 n index : Nat} {ty : FieldType} {Ty : List Cond} {rm1 : Room} {As st0 : List Value} {post : Int32 → va_W → Prop} {Cn : String} {T : u_T} {N ci b : Nat} {fs : List Value} (qr : Nat) (he : ws[qr]? = some (b, .inr (ci, fs))) (hcn : vwCl[ci]? = some (Cn, T, N)) (M : MI E y Ty rm1 ws (.ref b :: As) post) (cf : CF y by1 nL1 (some ty) Ty n) (g : GoodIn Ts (wsV own index Cn y Ty)) (hcl : y.cls = Cn) (hF : Fit rm1 rm nL1) (hn : As.length = n) (hst : st0 = As.reverse ++ (.ref b :: st)) (hcat : (st.map fun v => v.category).sum ≤ 8) (d : decode cc pc = .ok (.invokevirtual index, 3)) (k : ∀ (r : Int32) (w1 : va_W), post r w1 → G E x w1 lv (pc + 3) (.int r :: st)) : G E x ws lv pc st0 := by
  obtain ⟨p, e, R, s, m, args, below, meth, c, A, nL, Q⟩ := x
  obtain ⟨hx, hb, hml, hown, hts, hK, hE, hA, hlk, hR⟩ := C
  subst hR
  intro H locs ls hP hD hS hl hnL
  obtain ⟨⟨Ty', hw⟩, hd⟩ := cf
  subst hst
  have hFr := g_freeF hD hS hA
  refine va_calli (mc := 0) (ms := 0) (va_runV (As := As) (rest := st) ⟨hx, hb, hml, hown, hts⟩ (M H.size) (cwV n hts g hw hF.1.1 hF.1.2 ⟨hcl, hd⟩ hF.2) ⟨mPc_blind, va_recv hK.1 hP hcn he, g_preF hK hE hP hD hS hFr⟩ rfl hn hl.1 rfl (lv_room hcat) d ⟨Nat.zero_le _, Nat.zero_le _⟩) hS (fun q _ h => hFr q h) hFr (fun r u t H1 l1 ht hvm hp hB hz hk hS1 => ?_)
  have hB2 := hB
  obtain ⟨hP1, hD1⟩ := hB2
  rw [ht] at hP1
  exact k r u hp H1 l1 ls hP1 (hD1.weaken (fun _ q _ h => hFr q.1 h)) hS1 hl hnL
theorem g_calliS (C : Ok E x cc own Ts rm) {y : MethodName} {by1 : ByteArray} {nL1 n index : Nat} {ty : FieldType} {Ty : List Cond} {rm1 : Room} {w0 : va_W} {As st0 : List Value} {post : Int32 → va_W → Prop} (M : MI E y Ty rm1 w0 As post) (cf : CF y by1 nL1 (some ty) Ty n) (g : GoodIn Ts (wsS own index y Ty)) (hcl : y.cls = own) (hF : Fit rm1 rm nL1) (hn : As.length = n) (hst : st0 = As.reverse ++ st) (hcat : (st.map fun v => v.category).sum ≤ 8) (d : decode cc pc = .ok (.invokestatic index, 3)) (isC isR : List Nat) {wr : va_W} (hndC : va_nd isC = true) (hC : isC.map (fun i => ws[i]?) = w0.map some) (hR2 : isR.map (fun i => ws[i]?) = wr.map some) (hnd : va_nd isR = true) (hdis : ∀ i ∈ isR, i ∉ isC) (k : ∀ (r : Int32) (w1 : va_W), post r w1 → G E x (wr ++ w1) lv (pc + 3) (.int r :: st)) : G E x ws lv pc st0 := by
  obtain ⟨p, e, R, s, m, args, below, meth, c, A, nL, Q⟩ := x
  obtain ⟨hx, hb, hml, hown, hts, hK, hE, hA, hlk, hR⟩ := C
  subst hR
  intro H locs ls hP hD hS hl hnL
  obtain ⟨⟨Ty', hw⟩, hd⟩ := cf
  subst hst
  have hFr := va_free (wc := w0) hD hS hA isC hC
  refine va_calli (mc := 0) (ms := 0) (va_runS (As := As) (rest := st) ⟨hx, hb, hml, hown, hts⟩ (M H.size) (cwS n hts g hw hF.1.1 hF.1.2 ⟨hcl, hd⟩ hF.2) ⟨mPc_blind, g_pre hK hE hP hD hS hA hndC hC⟩ rfl hn hl.1 rfl (lv_room hcat) d ⟨Nat.zero_le _, Nat.zero_le _⟩) hS (fun q _ h => hFr q h) hFr (fun r u t H1 l1 ht hvm hp hB hz hk hS1 => ?_)
  have hB2 := hB
  obtain ⟨hP1, hD1⟩ := hB2
  rw [ht] at hP1
  obtain ⟨hP2, hD2⟩ := va_join hP hD isC isR hC hR2 hnd hdis hk hFr hP1 hD1
  exact k r u hp H1 l1 ls hP2 hD2 hS1 hl hnL
theorem g_calliSF (C : Ok E x cc own Ts rm) {y : MethodName} {by1 : ByteArray} {nL1 n index : Nat} {ty : FieldType} {Ty : List Cond} {rm1 : Room} {As st0 : List Value} {post : Int32 → va_W → Prop} (M : MI E y Ty rm1 ws As post) (cf : CF y by1 nL1 (some ty) Ty n) (g : GoodIn Ts (wsS own index y Ty)) (hcl : y.cls = own) (hF : Fit rm1 rm nL1) (hn : As.length = n) (hst : st0 = As.reverse ++ st) (hcat : (st.map fun v => v.category).sum ≤ 8) (d : decode cc pc = .ok (.invokestatic index, 3)) (k : ∀ (r : Int32) (w1 : va_W), post r w1 → G E x w1 lv (pc + 3) (.int r :: st)) : G E x ws lv pc st0 := by
  obtain ⟨p, e, R, s, m, args, below, meth, c, A, nL, Q⟩ := x
  obtain ⟨hx, hb, hml, hown, hts, hK, hE, hA, hlk, hR⟩ := C
  subst hR
  intro H locs ls hP hD hS hl hnL
  obtain ⟨⟨Ty', hw⟩, hd⟩ := cf
  subst hst
  have hFr := g_freeF hD hS hA
  refine va_calli (mc := 0) (ms := 0) (va_runS (As := As) (rest := st) ⟨hx, hb, hml, hown, hts⟩ (M H.size) (cwS n hts g hw hF.1.1 hF.1.2 ⟨hcl, hd⟩ hF.2) ⟨mPc_blind, g_preF hK hE hP hD hS hFr⟩ rfl hn hl.1 rfl (lv_room hcat) d ⟨Nat.zero_le _, Nat.zero_le _⟩) hS (fun q _ h => hFr q h) hFr (fun r u t H1 l1 ht hvm hp hB hz hk hS1 => ?_)
  have hB2 := hB
  obtain ⟨hP1, hD1⟩ := hB2
  rw [ht] at hP1
  exact k r u hp H1 l1 ls hP1 (hD1.weaken (fun _ q _ h => hFr q.1 h)) hS1 hl hnL
theorem g_calliN (C : Ok E x cc own Ts rm) {y : MethodName} {by1 : ByteArray} {nL1 n index : Nat} {ty : FieldType} {Ty : List Cond} {rm1 : Room} {w0 : va_W} {As st0 : List Value} {post : Int32 → va_W → Prop} {host : String} {Cn : String} {T : u_T} {N ci b : Nat} {fs : List Value} (qr : Nat) (he : ws[qr]? = some (b, .inr (ci, fs))) (hcn : vwCl[ci]? = some (Cn, T, N)) (M : MI E y Ty rm1 w0 (.ref b :: As) post) (cf : CF y by1 nL1 (some ty) Ty n) (g : GoodIn Ts Ty) (hlk9 : Cond.methodLinkNest own index y host ∈ nestW) (hin : Cond.instanceMethod y ∈ Ts) (hse : Cond.selects Cn y y ∈ Ts) (hini : Cond.initialized y.cls ∈ Ts) (hF : Fit rm1 rm nL1) (hn : As.length = n) (hst : st0 = As.reverse ++ (.ref b :: st)) (hcat : (st.map fun v => v.category).sum ≤ 8) (d : decode cc pc = .ok (.invokevirtual index, 3)) (isC isR : List Nat) {wr : va_W} (hndC : va_nd isC = true) (hC : isC.map (fun i => ws[i]?) = w0.map some) (hR2 : isR.map (fun i => ws[i]?) = wr.map some) (hnd : va_nd isR = true) (hdis : ∀ i ∈ isR, i ∉ isC) (k : ∀ (r : Int32) (w1 : va_W), post r w1 → G E x (wr ++ w1) lv (pc + 3) (.int r :: st)) : G E x ws lv pc st0 := by
  obtain ⟨p, e, R, s, m, args, below, meth, c, A, nL, Q⟩ := x
  obtain ⟨hx, hb, hml, hown, hts, hK, hE, hA, hlk, hR⟩ := C
  subst hR
  intro H locs ls hP hD hS hl hnL
  obtain ⟨⟨Ty', hw⟩, hd⟩ := cf
  subst hst
  have hFr := va_free (wc := w0) hD hS hA isC hC
  refine va_calli (mc := 0) (ms := 0) (va_runVN (As := As) (rest := st) ⟨hx, hb, hml, hown, hts⟩ (M H.size) (⟨va_cnB n hts g hw hF.1.1 hF.1.2 (hK.2.1 _ hlk9) (hts _ hini) hd hF.2, hts _ hin, hts _ hse⟩) ⟨mPc_blind, va_recv hK.1 hP hcn he, g_pre hK hE hP hD hS hA hndC hC⟩ rfl hn hl.1 rfl (lv_room hcat) d ⟨Nat.zero_le _, Nat.zero_le _⟩) hS (fun q _ h => hFr q h) hFr (fun r u t H1 l1 ht hvm hp hB hz hk hS1 => ?_)
  have hB2 := hB
  obtain ⟨hP1, hD1⟩ := hB2
  rw [ht] at hP1
  obtain ⟨hP2, hD2⟩ := va_join hP hD isC isR hC hR2 hnd hdis hk hFr hP1 hD1
  exact k r u hp H1 l1 ls hP2 hD2 hS1 hl hnL
theorem g_calliNF (C : Ok E x cc own Ts rm) {y : MethodName} {by1 : ByteArray} {nL1 n index : Nat} {ty : FieldType} {Ty : List Cond} {rm1 : Room} {As st0 : List Value} {post : Int32 → va_W → Prop} {host : String} {Cn : String} {T : u_T} {N ci b : Nat} {fs : List Value} (qr : Nat) (he : ws[qr]? = some (b, .inr (ci, fs))) (hcn : vwCl[ci]? = some (Cn, T, N)) (M : MI E y Ty rm1 ws (.ref b :: As) post) (cf : CF y by1 nL1 (some ty) Ty n) (g : GoodIn Ts Ty) (hlk9 : Cond.methodLinkNest own index y host ∈ nestW) (hin : Cond.instanceMethod y ∈ Ts) (hse : Cond.selects Cn y y ∈ Ts) (hini : Cond.initialized y.cls ∈ Ts) (hF : Fit rm1 rm nL1) (hn : As.length = n) (hst : st0 = As.reverse ++ (.ref b :: st)) (hcat : (st.map fun v => v.category).sum ≤ 8) (d : decode cc pc = .ok (.invokevirtual index, 3)) (k : ∀ (r : Int32) (w1 : va_W), post r w1 → G E x w1 lv (pc + 3) (.int r :: st)) : G E x ws lv pc st0 := by
  obtain ⟨p, e, R, s, m, args, below, meth, c, A, nL, Q⟩ := x
  obtain ⟨hx, hb, hml, hown, hts, hK, hE, hA, hlk, hR⟩ := C
  subst hR
  intro H locs ls hP hD hS hl hnL
  obtain ⟨⟨Ty', hw⟩, hd⟩ := cf
  subst hst
  have hFr := g_freeF hD hS hA
  refine va_calli (mc := 0) (ms := 0) (va_runVN (As := As) (rest := st) ⟨hx, hb, hml, hown, hts⟩ (M H.size) (⟨va_cnB n hts g hw hF.1.1 hF.1.2 (hK.2.1 _ hlk9) (hts _ hini) hd hF.2, hts _ hin, hts _ hse⟩) ⟨mPc_blind, va_recv hK.1 hP hcn he, g_preF hK hE hP hD hS hFr⟩ rfl hn hl.1 rfl (lv_room hcat) d ⟨Nat.zero_le _, Nat.zero_le _⟩) hS (fun q _ h => hFr q h) hFr (fun r u t H1 l1 ht hvm hp hB hz hk hS1 => ?_)
  have hB2 := hB
  obtain ⟨hP1, hD1⟩ := hB2
  rw [ht] at hP1
  exact k r u hp H1 l1 ls hP1 (hD1.weaken (fun _ q _ h => hFr q.1 h)) hS1 hl hnL
theorem g_calliT (C : Ok E x cc own Ts rm) {y : MethodName} {by1 : ByteArray} {nL1 n index : Nat} {ty : FieldType} {Ty : List Cond} {rm1 : Room} {w0 : va_W} {As st0 : List Value} {post : Int32 → va_W → Prop} {host : String} (M : MI E y Ty rm1 w0 As post) (cf : CF y by1 nL1 (some ty) Ty n) (g : GoodIn Ts Ty) (hlk9 : Cond.methodLinkNest own index y host ∈ nestW) (hin : Cond.static y ∈ Ts) (hini : Cond.initialized y.cls ∈ Ts) (hF : Fit rm1 rm nL1) (hn : As.length = n) (hst : st0 = As.reverse ++ st) (hcat : (st.map fun v => v.category).sum ≤ 8) (d : decode cc pc = .ok (.invokestatic index, 3)) (isC isR : List Nat) {wr : va_W} (hndC : va_nd isC = true) (hC : isC.map (fun i => ws[i]?) = w0.map some) (hR2 : isR.map (fun i => ws[i]?) = wr.map some) (hnd : va_nd isR = true) (hdis : ∀ i ∈ isR, i ∉ isC) (k : ∀ (r : Int32) (w1 : va_W), post r w1 → G E x (wr ++ w1) lv (pc + 3) (.int r :: st)) : G E x ws lv pc st0 := by
  obtain ⟨p, e, R, s, m, args, below, meth, c, A, nL, Q⟩ := x
  obtain ⟨hx, hb, hml, hown, hts, hK, hE, hA, hlk, hR⟩ := C
  subst hR
  intro H locs ls hP hD hS hl hnL
  obtain ⟨⟨Ty', hw⟩, hd⟩ := cf
  subst hst
  have hFr := va_free (wc := w0) hD hS hA isC hC
  refine va_calli (mc := 0) (ms := 0) (va_runSN (As := As) (rest := st) ⟨hx, hb, hml, hown, hts⟩ (M H.size) (⟨va_cnB n hts g hw hF.1.1 hF.1.2 (hK.2.1 _ hlk9) (hts _ hini) hd hF.2, hts _ hin, trivial⟩) ⟨mPc_blind, g_pre hK hE hP hD hS hA hndC hC⟩ rfl hn hl.1 rfl (lv_room hcat) d ⟨Nat.zero_le _, Nat.zero_le _⟩) hS (fun q _ h => hFr q h) hFr (fun r u t H1 l1 ht hvm hp hB hz hk hS1 => ?_)
  have hB2 := hB
  obtain ⟨hP1, hD1⟩ := hB2
  rw [ht] at hP1
  obtain ⟨hP2, hD2⟩ := va_join hP hD isC isR hC hR2 hnd hdis hk hFr hP1 hD1
  exact k r u hp H1 l1 ls hP2 hD2 hS1 hl hnL
theorem g_calliTF (C : Ok E x cc own Ts rm) {y : MethodName} {by1 : ByteArray} {nL1 n index : Nat} {ty : FieldType} {Ty : List Cond} {rm1 : Room} {As st0 : List Value} {post : Int32 → va_W → Prop} {host : String} (M : MI E y Ty rm1 ws As post) (cf : CF y by1 nL1 (some ty) Ty n) (g : GoodIn Ts Ty) (hlk9 : Cond.methodLinkNest own index y host ∈ nestW) (hin : Cond.static y ∈ Ts) (hini : Cond.initialized y.cls ∈ Ts) (hF : Fit rm1 rm nL1) (hn : As.length = n) (hst : st0 = As.reverse ++ st) (hcat : (st.map fun v => v.category).sum ≤ 8) (d : decode cc pc = .ok (.invokestatic index, 3)) (k : ∀ (r : Int32) (w1 : va_W), post r w1 → G E x w1 lv (pc + 3) (.int r :: st)) : G E x ws lv pc st0 := by
  obtain ⟨p, e, R, s, m, args, below, meth, c, A, nL, Q⟩ := x
  obtain ⟨hx, hb, hml, hown, hts, hK, hE, hA, hlk, hR⟩ := C
  subst hR
  intro H locs ls hP hD hS hl hnL
  obtain ⟨⟨Ty', hw⟩, hd⟩ := cf
  subst hst
  have hFr := g_freeF hD hS hA
  refine va_calli (mc := 0) (ms := 0) (va_runSN (As := As) (rest := st) ⟨hx, hb, hml, hown, hts⟩ (M H.size) (⟨va_cnB n hts g hw hF.1.1 hF.1.2 (hK.2.1 _ hlk9) (hts _ hini) hd hF.2, hts _ hin, trivial⟩) ⟨mPc_blind, g_preF hK hE hP hD hS hFr⟩ rfl hn hl.1 rfl (lv_room hcat) d ⟨Nat.zero_le _, Nat.zero_le _⟩) hS (fun q _ h => hFr q h) hFr (fun r u t H1 l1 ht hvm hp hB hz hk hS1 => ?_)
  have hB2 := hB
  obtain ⟨hP1, hD1⟩ := hB2
  rw [ht] at hP1
  exact k r u hp H1 l1 ls hP1 (hD1.weaken (fun _ q _ h => hFr q.1 h)) hS1 hl hnL
theorem g_callvV (C : Ok E x cc own Ts rm) {y : MethodName} {by1 : ByteArray} {nL1 n index : Nat} {Ty : List Cond} {rm1 : Room} {w0 : va_W} {As st0 : List Value} {post : va_W → Prop} {Cn : String} {T : u_T} {N ci b : Nat} {fs : List Value} (qr : Nat) (he : ws[qr]? = some (b, .inr (ci, fs))) (hcn : vwCl[ci]? = some (Cn, T, N)) (M : MV E y Ty rm1 w0 (.ref b :: As) post) (cf : CF y by1 nL1 none Ty n) (g : GoodIn Ts (wsV own index Cn y Ty)) (hcl : y.cls = Cn) (hF : Fit rm1 rm nL1) (hn : As.length = n) (hst : st0 = As.reverse ++ (.ref b :: st)) (hcat : (st.map fun v => v.category).sum ≤ 8) (d : decode cc pc = .ok (.invokevirtual index, 3)) (isC isR : List Nat) {wr : va_W} (hndC : va_nd isC = true) (hC : isC.map (fun i => ws[i]?) = w0.map some) (hR2 : isR.map (fun i => ws[i]?) = wr.map some) (hnd : va_nd isR = true) (hdis : ∀ i ∈ isR, i ∉ isC) (k : ∀ (w1 : va_W), post w1 → G E x (wr ++ w1) lv (pc + 3) st) : G E x ws lv pc st0 := by
  obtain ⟨p, e, R, s, m, args, below, meth, c, A, nL, Q⟩ := x
  obtain ⟨hx, hb, hml, hown, hts, hK, hE, hA, hlk, hR⟩ := C
  subst hR
  intro H locs ls hP hD hS hl hnL
  obtain ⟨⟨Ty', hw⟩, hd⟩ := cf
  subst hst
  have hFr := va_free (wc := w0) hD hS hA isC hC
  refine va_callv (mc := 0) (ms := 0) (va_runV (As := As) (rest := st) ⟨hx, hb, hml, hown, hts⟩ (M H.size) (cwV n hts g hw hF.1.1 hF.1.2 ⟨hcl, hd⟩ hF.2) ⟨mPc_blind, va_recv hK.1 hP hcn he, g_pre hK hE hP hD hS hA hndC hC⟩ rfl hn hl.1 rfl (lv_room hcat) d ⟨Nat.zero_le _, Nat.zero_le _⟩) hS (fun q _ h => hFr q h) hFr (fun u t H1 l1 ht hvm hp hB hz hk hS1 => ?_)
  have hB2 := hB
  obtain ⟨hP1, hD1⟩ := hB2
  rw [ht] at hP1
  obtain ⟨hP2, hD2⟩ := va_join hP hD isC isR hC hR2 hnd hdis hk hFr hP1 hD1
  exact k u hp H1 l1 ls hP2 hD2 hS1 hl hnL
theorem g_callvVF (C : Ok E x cc own Ts rm) {y : MethodName} {by1 : ByteArray} {nL1 n index : Nat} {Ty : List Cond} {rm1 : Room} {As st0 : List Value} {post : va_W → Prop} {Cn : String} {T : u_T} {N ci b : Nat} {fs : List Value} (qr : Nat) (he : ws[qr]? = some (b, .inr (ci, fs))) (hcn : vwCl[ci]? = some (Cn, T, N)) (M : MV E y Ty rm1 ws (.ref b :: As) post) (cf : CF y by1 nL1 none Ty n) (g : GoodIn Ts (wsV own index Cn y Ty)) (hcl : y.cls = Cn) (hF : Fit rm1 rm nL1) (hn : As.length = n) (hst : st0 = As.reverse ++ (.ref b :: st)) (hcat : (st.map fun v => v.category).sum ≤ 8) (d : decode cc pc = .ok (.invokevirtual index, 3)) (k : ∀ (w1 : va_W), post w1 → G E x w1 lv (pc + 3) st) : G E x ws lv pc st0 := by
  obtain ⟨p, e, R, s, m, args, below, meth, c, A, nL, Q⟩ := x
  obtain ⟨hx, hb, hml, hown, hts, hK, hE, hA, hlk, hR⟩ := C
  subst hR
  intro H locs ls hP hD hS hl hnL
  obtain ⟨⟨Ty', hw⟩, hd⟩ := cf
  subst hst
  have hFr := g_freeF hD hS hA
  refine va_callv (mc := 0) (ms := 0) (va_runV (As := As) (rest := st) ⟨hx, hb, hml, hown, hts⟩ (M H.size) (cwV n hts g hw hF.1.1 hF.1.2 ⟨hcl, hd⟩ hF.2) ⟨mPc_blind, va_recv hK.1 hP hcn he, g_preF hK hE hP hD hS hFr⟩ rfl hn hl.1 rfl (lv_room hcat) d ⟨Nat.zero_le _, Nat.zero_le _⟩) hS (fun q _ h => hFr q h) hFr (fun u t H1 l1 ht hvm hp hB hz hk hS1 => ?_)
  have hB2 := hB
  obtain ⟨hP1, hD1⟩ := hB2
  rw [ht] at hP1
  exact k u hp H1 l1 ls hP1 (hD1.weaken (fun _ q _ h => hFr q.1 h)) hS1 hl hnL
theorem g_callvS (C : Ok E x cc own Ts rm) {y : MethodName} {by1 : ByteArray} {nL1 n index : Nat} {Ty : List Cond} {rm1 : Room} {w0 : va_W} {As st0 : List Value} {post : va_W → Prop} (M : MV E y Ty rm1 w0 As post) (cf : CF y by1 nL1 none Ty n) (g : GoodIn Ts (wsS own index y Ty)) (hcl : y.cls = own) (hF : Fit rm1 rm nL1) (hn : As.length = n) (hst : st0 = As.reverse ++ st) (hcat : (st.map fun v => v.category).sum ≤ 8) (d : decode cc pc = .ok (.invokestatic index, 3)) (isC isR : List Nat) {wr : va_W} (hndC : va_nd isC = true) (hC : isC.map (fun i => ws[i]?) = w0.map some) (hR2 : isR.map (fun i => ws[i]?) = wr.map some) (hnd : va_nd isR = true) (hdis : ∀ i ∈ isR, i ∉ isC) (k : ∀ (w1 : va_W), post w1 → G E x (wr ++ w1) lv (pc + 3) st) : G E x ws lv pc st0 := by
  obtain ⟨p, e, R, s, m, args, below, meth, c, A, nL, Q⟩ := x
  obtain ⟨hx, hb, hml, hown, hts, hK, hE, hA, hlk, hR⟩ := C
  subst hR
  intro H locs ls hP hD hS hl hnL
  obtain ⟨⟨Ty', hw⟩, hd⟩ := cf
  subst hst
  have hFr := va_free (wc := w0) hD hS hA isC hC
  refine va_callv (mc := 0) (ms := 0) (va_runS (As := As) (rest := st) ⟨hx, hb, hml, hown, hts⟩ (M H.size) (cwS n hts g hw hF.1.1 hF.1.2 ⟨hcl, hd⟩ hF.2) ⟨mPc_blind, g_pre hK hE hP hD hS hA hndC hC⟩ rfl hn hl.1 rfl (lv_room hcat) d ⟨Nat.zero_le _, Nat.zero_le _⟩) hS (fun q _ h => hFr q h) hFr (fun u t H1 l1 ht hvm hp hB hz hk hS1 => ?_)
  have hB2 := hB
  obtain ⟨hP1, hD1⟩ := hB2
  rw [ht] at hP1
  obtain ⟨hP2, hD2⟩ := va_join hP hD isC isR hC hR2 hnd hdis hk hFr hP1 hD1
  exact k u hp H1 l1 ls hP2 hD2 hS1 hl hnL
theorem g_callvSF (C : Ok E x cc own Ts rm) {y : MethodName} {by1 : ByteArray} {nL1 n index : Nat} {Ty : List Cond} {rm1 : Room} {As st0 : List Value} {post : va_W → Prop} (M : MV E y Ty rm1 ws As post) (cf : CF y by1 nL1 none Ty n) (g : GoodIn Ts (wsS own index y Ty)) (hcl : y.cls = own) (hF : Fit rm1 rm nL1) (hn : As.length = n) (hst : st0 = As.reverse ++ st) (hcat : (st.map fun v => v.category).sum ≤ 8) (d : decode cc pc = .ok (.invokestatic index, 3)) (k : ∀ (w1 : va_W), post w1 → G E x w1 lv (pc + 3) st) : G E x ws lv pc st0 := by
  obtain ⟨p, e, R, s, m, args, below, meth, c, A, nL, Q⟩ := x
  obtain ⟨hx, hb, hml, hown, hts, hK, hE, hA, hlk, hR⟩ := C
  subst hR
  intro H locs ls hP hD hS hl hnL
  obtain ⟨⟨Ty', hw⟩, hd⟩ := cf
  subst hst
  have hFr := g_freeF hD hS hA
  refine va_callv (mc := 0) (ms := 0) (va_runS (As := As) (rest := st) ⟨hx, hb, hml, hown, hts⟩ (M H.size) (cwS n hts g hw hF.1.1 hF.1.2 ⟨hcl, hd⟩ hF.2) ⟨mPc_blind, g_preF hK hE hP hD hS hFr⟩ rfl hn hl.1 rfl (lv_room hcat) d ⟨Nat.zero_le _, Nat.zero_le _⟩) hS (fun q _ h => hFr q h) hFr (fun u t H1 l1 ht hvm hp hB hz hk hS1 => ?_)
  have hB2 := hB
  obtain ⟨hP1, hD1⟩ := hB2
  rw [ht] at hP1
  exact k u hp H1 l1 ls hP1 (hD1.weaken (fun _ q _ h => hFr q.1 h)) hS1 hl hnL
theorem g_callvN (C : Ok E x cc own Ts rm) {y : MethodName} {by1 : ByteArray} {nL1 n index : Nat} {Ty : List Cond} {rm1 : Room} {w0 : va_W} {As st0 : List Value} {post : va_W → Prop} {host : String} {Cn : String} {T : u_T} {N ci b : Nat} {fs : List Value} (qr : Nat) (he : ws[qr]? = some (b, .inr (ci, fs))) (hcn : vwCl[ci]? = some (Cn, T, N)) (M : MV E y Ty rm1 w0 (.ref b :: As) post) (cf : CF y by1 nL1 none Ty n) (g : GoodIn Ts Ty) (hlk9 : Cond.methodLinkNest own index y host ∈ nestW) (hin : Cond.instanceMethod y ∈ Ts) (hse : Cond.selects Cn y y ∈ Ts) (hini : Cond.initialized y.cls ∈ Ts) (hF : Fit rm1 rm nL1) (hn : As.length = n) (hst : st0 = As.reverse ++ (.ref b :: st)) (hcat : (st.map fun v => v.category).sum ≤ 8) (d : decode cc pc = .ok (.invokevirtual index, 3)) (isC isR : List Nat) {wr : va_W} (hndC : va_nd isC = true) (hC : isC.map (fun i => ws[i]?) = w0.map some) (hR2 : isR.map (fun i => ws[i]?) = wr.map some) (hnd : va_nd isR = true) (hdis : ∀ i ∈ isR, i ∉ isC) (k : ∀ (w1 : va_W), post w1 → G E x (wr ++ w1) lv (pc + 3) st) : G E x ws lv pc st0 := by
  obtain ⟨p, e, R, s, m, args, below, meth, c, A, nL, Q⟩ := x
  obtain ⟨hx, hb, hml, hown, hts, hK, hE, hA, hlk, hR⟩ := C
  subst hR
  intro H locs ls hP hD hS hl hnL
  obtain ⟨⟨Ty', hw⟩, hd⟩ := cf
  subst hst
  have hFr := va_free (wc := w0) hD hS hA isC hC
  refine va_callv (mc := 0) (ms := 0) (va_runVN (As := As) (rest := st) ⟨hx, hb, hml, hown, hts⟩ (M H.size) (⟨va_cnB n hts g hw hF.1.1 hF.1.2 (hK.2.1 _ hlk9) (hts _ hini) hd hF.2, hts _ hin, hts _ hse⟩) ⟨mPc_blind, va_recv hK.1 hP hcn he, g_pre hK hE hP hD hS hA hndC hC⟩ rfl hn hl.1 rfl (lv_room hcat) d ⟨Nat.zero_le _, Nat.zero_le _⟩) hS (fun q _ h => hFr q h) hFr (fun u t H1 l1 ht hvm hp hB hz hk hS1 => ?_)
  have hB2 := hB
  obtain ⟨hP1, hD1⟩ := hB2
  rw [ht] at hP1
  obtain ⟨hP2, hD2⟩ := va_join hP hD isC isR hC hR2 hnd hdis hk hFr hP1 hD1
  exact k u hp H1 l1 ls hP2 hD2 hS1 hl hnL
theorem g_callvNF (C : Ok E x cc own Ts rm) {y : MethodName} {by1 : ByteArray} {nL1 n index : Nat} {Ty : List Cond} {rm1 : Room} {As st0 : List Value} {post : va_W → Prop} {host : String} {Cn : String} {T : u_T} {N ci b : Nat} {fs : List Value} (qr : Nat) (he : ws[qr]? = some (b, .inr (ci, fs))) (hcn : vwCl[ci]? = some (Cn, T, N)) (M : MV E y Ty rm1 ws (.ref b :: As) post) (cf : CF y by1 nL1 none Ty n) (g : GoodIn Ts Ty) (hlk9 : Cond.methodLinkNest own index y host ∈ nestW) (hin : Cond.instanceMethod y ∈ Ts) (hse : Cond.selects Cn y y ∈ Ts) (hini : Cond.initialized y.cls ∈ Ts) (hF : Fit rm1 rm nL1) (hn : As.length = n) (hst : st0 = As.reverse ++ (.ref b :: st)) (hcat : (st.map fun v => v.category).sum ≤ 8) (d : decode cc pc = .ok (.invokevirtual index, 3)) (k : ∀ (w1 : va_W), post w1 → G E x w1 lv (pc + 3) st) : G E x ws lv pc st0 := by
  obtain ⟨p, e, R, s, m, args, below, meth, c, A, nL, Q⟩ := x
  obtain ⟨hx, hb, hml, hown, hts, hK, hE, hA, hlk, hR⟩ := C
  subst hR
  intro H locs ls hP hD hS hl hnL
  obtain ⟨⟨Ty', hw⟩, hd⟩ := cf
  subst hst
  have hFr := g_freeF hD hS hA
  refine va_callv (mc := 0) (ms := 0) (va_runVN (As := As) (rest := st) ⟨hx, hb, hml, hown, hts⟩ (M H.size) (⟨va_cnB n hts g hw hF.1.1 hF.1.2 (hK.2.1 _ hlk9) (hts _ hini) hd hF.2, hts _ hin, hts _ hse⟩) ⟨mPc_blind, va_recv hK.1 hP hcn he, g_preF hK hE hP hD hS hFr⟩ rfl hn hl.1 rfl (lv_room hcat) d ⟨Nat.zero_le _, Nat.zero_le _⟩) hS (fun q _ h => hFr q h) hFr (fun u t H1 l1 ht hvm hp hB hz hk hS1 => ?_)
  have hB2 := hB
  obtain ⟨hP1, hD1⟩ := hB2
  rw [ht] at hP1
  exact k u hp H1 l1 ls hP1 (hD1.weaken (fun _ q _ h => hFr q.1 h)) hS1 hl hnL
theorem g_callvT (C : Ok E x cc own Ts rm) {y : MethodName} {by1 : ByteArray} {nL1 n index : Nat} {Ty : List Cond} {rm1 : Room} {w0 : va_W} {As st0 : List Value} {post : va_W → Prop} {host : String} (M : MV E y Ty rm1 w0 As post) (cf : CF y by1 nL1 none Ty n) (g : GoodIn Ts Ty) (hlk9 : Cond.methodLinkNest own index y host ∈ nestW) (hin : Cond.static y ∈ Ts) (hini : Cond.initialized y.cls ∈ Ts) (hF : Fit rm1 rm nL1) (hn : As.length = n) (hst : st0 = As.reverse ++ st) (hcat : (st.map fun v => v.category).sum ≤ 8) (d : decode cc pc = .ok (.invokestatic index, 3)) (isC isR : List Nat) {wr : va_W} (hndC : va_nd isC = true) (hC : isC.map (fun i => ws[i]?) = w0.map some) (hR2 : isR.map (fun i => ws[i]?) = wr.map some) (hnd : va_nd isR = true) (hdis : ∀ i ∈ isR, i ∉ isC) (k : ∀ (w1 : va_W), post w1 → G E x (wr ++ w1) lv (pc + 3) st) : G E x ws lv pc st0 := by
  obtain ⟨p, e, R, s, m, args, below, meth, c, A, nL, Q⟩ := x
  obtain ⟨hx, hb, hml, hown, hts, hK, hE, hA, hlk, hR⟩ := C
  subst hR
  intro H locs ls hP hD hS hl hnL
  obtain ⟨⟨Ty', hw⟩, hd⟩ := cf
  subst hst
  have hFr := va_free (wc := w0) hD hS hA isC hC
  refine va_callv (mc := 0) (ms := 0) (va_runSN (As := As) (rest := st) ⟨hx, hb, hml, hown, hts⟩ (M H.size) (⟨va_cnB n hts g hw hF.1.1 hF.1.2 (hK.2.1 _ hlk9) (hts _ hini) hd hF.2, hts _ hin, trivial⟩) ⟨mPc_blind, g_pre hK hE hP hD hS hA hndC hC⟩ rfl hn hl.1 rfl (lv_room hcat) d ⟨Nat.zero_le _, Nat.zero_le _⟩) hS (fun q _ h => hFr q h) hFr (fun u t H1 l1 ht hvm hp hB hz hk hS1 => ?_)
  have hB2 := hB
  obtain ⟨hP1, hD1⟩ := hB2
  rw [ht] at hP1
  obtain ⟨hP2, hD2⟩ := va_join hP hD isC isR hC hR2 hnd hdis hk hFr hP1 hD1
  exact k u hp H1 l1 ls hP2 hD2 hS1 hl hnL
theorem g_callvTF (C : Ok E x cc own Ts rm) {y : MethodName} {by1 : ByteArray} {nL1 n index : Nat} {Ty : List Cond} {rm1 : Room} {As st0 : List Value} {post : va_W → Prop} {host : String} (M : MV E y Ty rm1 ws As post) (cf : CF y by1 nL1 none Ty n) (g : GoodIn Ts Ty) (hlk9 : Cond.methodLinkNest own index y host ∈ nestW) (hin : Cond.static y ∈ Ts) (hini : Cond.initialized y.cls ∈ Ts) (hF : Fit rm1 rm nL1) (hn : As.length = n) (hst : st0 = As.reverse ++ st) (hcat : (st.map fun v => v.category).sum ≤ 8) (d : decode cc pc = .ok (.invokestatic index, 3)) (k : ∀ (w1 : va_W), post w1 → G E x w1 lv (pc + 3) st) : G E x ws lv pc st0 := by
  obtain ⟨p, e, R, s, m, args, below, meth, c, A, nL, Q⟩ := x
  obtain ⟨hx, hb, hml, hown, hts, hK, hE, hA, hlk, hR⟩ := C
  subst hR
  intro H locs ls hP hD hS hl hnL
  obtain ⟨⟨Ty', hw⟩, hd⟩ := cf
  subst hst
  have hFr := g_freeF hD hS hA
  refine va_callv (mc := 0) (ms := 0) (va_runSN (As := As) (rest := st) ⟨hx, hb, hml, hown, hts⟩ (M H.size) (⟨va_cnB n hts g hw hF.1.1 hF.1.2 (hK.2.1 _ hlk9) (hts _ hini) hd hF.2, hts _ hin, trivial⟩) ⟨mPc_blind, g_preF hK hE hP hD hS hFr⟩ rfl hn hl.1 rfl (lv_room hcat) d ⟨Nat.zero_le _, Nat.zero_le _⟩) hS (fun q _ h => hFr q h) hFr (fun u t H1 l1 ht hvm hp hB hz hk hS1 => ?_)
  have hB2 := hB
  obtain ⟨hP1, hD1⟩ := hB2
  rw [ht] at hP1
  exact k u hp H1 l1 ls hP1 (hD1.weaken (fun _ q _ h => hFr q.1 h)) hS1 hl hnL
theorem g_callrV (C : Ok E x cc own Ts rm) {y : MethodName} {by1 : ByteArray} {nL1 n index : Nat} {ty : FieldType} {Ty : List Cond} {rm1 : Room} {w0 : va_W} {As st0 : List Value} {post : Nat → va_W → Prop} {Cn : String} {T : u_T} {N ci b : Nat} {fs : List Value} (qr : Nat) (he : ws[qr]? = some (b, .inr (ci, fs))) (hcn : vwCl[ci]? = some (Cn, T, N)) (M : MR E y Ty rm1 w0 (.ref b :: As) post) (cf : CF y by1 nL1 (some ty) Ty n) (g : GoodIn Ts (wsV own index Cn y Ty)) (hcl : y.cls = Cn) (hF : Fit rm1 rm nL1) (hn : As.length = n) (hst : st0 = As.reverse ++ (.ref b :: st)) (hcat : (st.map fun v => v.category).sum ≤ 8) (d : decode cc pc = .ok (.invokevirtual index, 3)) (isC isR : List Nat) {wr : va_W} (hndC : va_nd isC = true) (hC : isC.map (fun i => ws[i]?) = w0.map some) (hR2 : isR.map (fun i => ws[i]?) = wr.map some) (hnd : va_nd isR = true) (hdis : ∀ i ∈ isR, i ∉ isC) (k : ∀ (r : Nat) (w1 : va_W), post r w1 → G E x (wr ++ w1) lv (pc + 3) (.ref r :: st)) : G E x ws lv pc st0 := by
  obtain ⟨p, e, R, s, m, args, below, meth, c, A, nL, Q⟩ := x
  obtain ⟨hx, hb, hml, hown, hts, hK, hE, hA, hlk, hR⟩ := C
  subst hR
  intro H locs ls hP hD hS hl hnL
  obtain ⟨⟨Ty', hw⟩, hd⟩ := cf
  subst hst
  have hFr := va_free (wc := w0) hD hS hA isC hC
  refine va_callr (mc := 0) (ms := 0) (va_runV (As := As) (rest := st) ⟨hx, hb, hml, hown, hts⟩ (M H.size) (cwV n hts g hw hF.1.1 hF.1.2 ⟨hcl, hd⟩ hF.2) ⟨mPc_blind, va_recv hK.1 hP hcn he, g_pre hK hE hP hD hS hA hndC hC⟩ rfl hn hl.1 rfl (lv_room hcat) d ⟨Nat.zero_le _, Nat.zero_le _⟩) hS (fun q _ h => hFr q h) hFr (fun u r t H1 l1 ht hvm hp hB hz hk hS1 => ?_)
  have hB2 := hB.2
  obtain ⟨hP1, hD1⟩ := hB2
  rw [ht] at hP1
  obtain ⟨hP2, hD2⟩ := va_join hP hD isC isR hC hR2 hnd hdis hk hFr hP1 hD1
  exact k r u hB.1 H1 l1 ls hP2 hD2 hS1 hl hnL
theorem g_callrVF (C : Ok E x cc own Ts rm) {y : MethodName} {by1 : ByteArray} {nL1 n index : Nat} {ty : FieldType} {Ty : List Cond} {rm1 : Room} {As st0 : List Value} {post : Nat → va_W → Prop} {Cn : String} {T : u_T} {N ci b : Nat} {fs : List Value} (qr : Nat) (he : ws[qr]? = some (b, .inr (ci, fs))) (hcn : vwCl[ci]? = some (Cn, T, N)) (M : MR E y Ty rm1 ws (.ref b :: As) post) (cf : CF y by1 nL1 (some ty) Ty n) (g : GoodIn Ts (wsV own index Cn y Ty)) (hcl : y.cls = Cn) (hF : Fit rm1 rm nL1) (hn : As.length = n) (hst : st0 = As.reverse ++ (.ref b :: st)) (hcat : (st.map fun v => v.category).sum ≤ 8) (d : decode cc pc = .ok (.invokevirtual index, 3)) (k : ∀ (r : Nat) (w1 : va_W), post r w1 → G E x w1 lv (pc + 3) (.ref r :: st)) : G E x ws lv pc st0 := by
  obtain ⟨p, e, R, s, m, args, below, meth, c, A, nL, Q⟩ := x
  obtain ⟨hx, hb, hml, hown, hts, hK, hE, hA, hlk, hR⟩ := C
  subst hR
  intro H locs ls hP hD hS hl hnL
  obtain ⟨⟨Ty', hw⟩, hd⟩ := cf
  subst hst
  have hFr := g_freeF hD hS hA
  refine va_callr (mc := 0) (ms := 0) (va_runV (As := As) (rest := st) ⟨hx, hb, hml, hown, hts⟩ (M H.size) (cwV n hts g hw hF.1.1 hF.1.2 ⟨hcl, hd⟩ hF.2) ⟨mPc_blind, va_recv hK.1 hP hcn he, g_preF hK hE hP hD hS hFr⟩ rfl hn hl.1 rfl (lv_room hcat) d ⟨Nat.zero_le _, Nat.zero_le _⟩) hS (fun q _ h => hFr q h) hFr (fun u r t H1 l1 ht hvm hp hB hz hk hS1 => ?_)
  have hB2 := hB.2
  obtain ⟨hP1, hD1⟩ := hB2
  rw [ht] at hP1
  exact k r u hB.1 H1 l1 ls hP1 (hD1.weaken (fun _ q _ h => hFr q.1 h)) hS1 hl hnL
theorem g_callrS (C : Ok E x cc own Ts rm) {y : MethodName} {by1 : ByteArray} {nL1 n index : Nat} {ty : FieldType} {Ty : List Cond} {rm1 : Room} {w0 : va_W} {As st0 : List Value} {post : Nat → va_W → Prop} (M : MR E y Ty rm1 w0 As post) (cf : CF y by1 nL1 (some ty) Ty n) (g : GoodIn Ts (wsS own index y Ty)) (hcl : y.cls = own) (hF : Fit rm1 rm nL1) (hn : As.length = n) (hst : st0 = As.reverse ++ st) (hcat : (st.map fun v => v.category).sum ≤ 8) (d : decode cc pc = .ok (.invokestatic index, 3)) (isC isR : List Nat) {wr : va_W} (hndC : va_nd isC = true) (hC : isC.map (fun i => ws[i]?) = w0.map some) (hR2 : isR.map (fun i => ws[i]?) = wr.map some) (hnd : va_nd isR = true) (hdis : ∀ i ∈ isR, i ∉ isC) (k : ∀ (r : Nat) (w1 : va_W), post r w1 → G E x (wr ++ w1) lv (pc + 3) (.ref r :: st)) : G E x ws lv pc st0 := by
  obtain ⟨p, e, R, s, m, args, below, meth, c, A, nL, Q⟩ := x
  obtain ⟨hx, hb, hml, hown, hts, hK, hE, hA, hlk, hR⟩ := C
  subst hR
  intro H locs ls hP hD hS hl hnL
  obtain ⟨⟨Ty', hw⟩, hd⟩ := cf
  subst hst
  have hFr := va_free (wc := w0) hD hS hA isC hC
  refine va_callr (mc := 0) (ms := 0) (va_runS (As := As) (rest := st) ⟨hx, hb, hml, hown, hts⟩ (M H.size) (cwS n hts g hw hF.1.1 hF.1.2 ⟨hcl, hd⟩ hF.2) ⟨mPc_blind, g_pre hK hE hP hD hS hA hndC hC⟩ rfl hn hl.1 rfl (lv_room hcat) d ⟨Nat.zero_le _, Nat.zero_le _⟩) hS (fun q _ h => hFr q h) hFr (fun u r t H1 l1 ht hvm hp hB hz hk hS1 => ?_)
  have hB2 := hB.2
  obtain ⟨hP1, hD1⟩ := hB2
  rw [ht] at hP1
  obtain ⟨hP2, hD2⟩ := va_join hP hD isC isR hC hR2 hnd hdis hk hFr hP1 hD1
  exact k r u hB.1 H1 l1 ls hP2 hD2 hS1 hl hnL
theorem g_callrSF (C : Ok E x cc own Ts rm) {y : MethodName} {by1 : ByteArray} {nL1 n index : Nat} {ty : FieldType} {Ty : List Cond} {rm1 : Room} {As st0 : List Value} {post : Nat → va_W → Prop} (M : MR E y Ty rm1 ws As post) (cf : CF y by1 nL1 (some ty) Ty n) (g : GoodIn Ts (wsS own index y Ty)) (hcl : y.cls = own) (hF : Fit rm1 rm nL1) (hn : As.length = n) (hst : st0 = As.reverse ++ st) (hcat : (st.map fun v => v.category).sum ≤ 8) (d : decode cc pc = .ok (.invokestatic index, 3)) (k : ∀ (r : Nat) (w1 : va_W), post r w1 → G E x w1 lv (pc + 3) (.ref r :: st)) : G E x ws lv pc st0 := by
  obtain ⟨p, e, R, s, m, args, below, meth, c, A, nL, Q⟩ := x
  obtain ⟨hx, hb, hml, hown, hts, hK, hE, hA, hlk, hR⟩ := C
  subst hR
  intro H locs ls hP hD hS hl hnL
  obtain ⟨⟨Ty', hw⟩, hd⟩ := cf
  subst hst
  have hFr := g_freeF hD hS hA
  refine va_callr (mc := 0) (ms := 0) (va_runS (As := As) (rest := st) ⟨hx, hb, hml, hown, hts⟩ (M H.size) (cwS n hts g hw hF.1.1 hF.1.2 ⟨hcl, hd⟩ hF.2) ⟨mPc_blind, g_preF hK hE hP hD hS hFr⟩ rfl hn hl.1 rfl (lv_room hcat) d ⟨Nat.zero_le _, Nat.zero_le _⟩) hS (fun q _ h => hFr q h) hFr (fun u r t H1 l1 ht hvm hp hB hz hk hS1 => ?_)
  have hB2 := hB.2
  obtain ⟨hP1, hD1⟩ := hB2
  rw [ht] at hP1
  exact k r u hB.1 H1 l1 ls hP1 (hD1.weaken (fun _ q _ h => hFr q.1 h)) hS1 hl hnL
theorem g_callrN (C : Ok E x cc own Ts rm) {y : MethodName} {by1 : ByteArray} {nL1 n index : Nat} {ty : FieldType} {Ty : List Cond} {rm1 : Room} {w0 : va_W} {As st0 : List Value} {post : Nat → va_W → Prop} {host : String} {Cn : String} {T : u_T} {N ci b : Nat} {fs : List Value} (qr : Nat) (he : ws[qr]? = some (b, .inr (ci, fs))) (hcn : vwCl[ci]? = some (Cn, T, N)) (M : MR E y Ty rm1 w0 (.ref b :: As) post) (cf : CF y by1 nL1 (some ty) Ty n) (g : GoodIn Ts Ty) (hlk9 : Cond.methodLinkNest own index y host ∈ nestW) (hin : Cond.instanceMethod y ∈ Ts) (hse : Cond.selects Cn y y ∈ Ts) (hini : Cond.initialized y.cls ∈ Ts) (hF : Fit rm1 rm nL1) (hn : As.length = n) (hst : st0 = As.reverse ++ (.ref b :: st)) (hcat : (st.map fun v => v.category).sum ≤ 8) (d : decode cc pc = .ok (.invokevirtual index, 3)) (isC isR : List Nat) {wr : va_W} (hndC : va_nd isC = true) (hC : isC.map (fun i => ws[i]?) = w0.map some) (hR2 : isR.map (fun i => ws[i]?) = wr.map some) (hnd : va_nd isR = true) (hdis : ∀ i ∈ isR, i ∉ isC) (k : ∀ (r : Nat) (w1 : va_W), post r w1 → G E x (wr ++ w1) lv (pc + 3) (.ref r :: st)) : G E x ws lv pc st0 := by
  obtain ⟨p, e, R, s, m, args, below, meth, c, A, nL, Q⟩ := x
  obtain ⟨hx, hb, hml, hown, hts, hK, hE, hA, hlk, hR⟩ := C
  subst hR
  intro H locs ls hP hD hS hl hnL
  obtain ⟨⟨Ty', hw⟩, hd⟩ := cf
  subst hst
  have hFr := va_free (wc := w0) hD hS hA isC hC
  refine va_callr (mc := 0) (ms := 0) (va_runVN (As := As) (rest := st) ⟨hx, hb, hml, hown, hts⟩ (M H.size) (⟨va_cnB n hts g hw hF.1.1 hF.1.2 (hK.2.1 _ hlk9) (hts _ hini) hd hF.2, hts _ hin, hts _ hse⟩) ⟨mPc_blind, va_recv hK.1 hP hcn he, g_pre hK hE hP hD hS hA hndC hC⟩ rfl hn hl.1 rfl (lv_room hcat) d ⟨Nat.zero_le _, Nat.zero_le _⟩) hS (fun q _ h => hFr q h) hFr (fun u r t H1 l1 ht hvm hp hB hz hk hS1 => ?_)
  have hB2 := hB.2
  obtain ⟨hP1, hD1⟩ := hB2
  rw [ht] at hP1
  obtain ⟨hP2, hD2⟩ := va_join hP hD isC isR hC hR2 hnd hdis hk hFr hP1 hD1
  exact k r u hB.1 H1 l1 ls hP2 hD2 hS1 hl hnL
theorem g_callrNF (C : Ok E x cc own Ts rm) {y : MethodName} {by1 : ByteArray} {nL1 n index : Nat} {ty : FieldType} {Ty : List Cond} {rm1 : Room} {As st0 : List Value} {post : Nat → va_W → Prop} {host : String} {Cn : String} {T : u_T} {N ci b : Nat} {fs : List Value} (qr : Nat) (he : ws[qr]? = some (b, .inr (ci, fs))) (hcn : vwCl[ci]? = some (Cn, T, N)) (M : MR E y Ty rm1 ws (.ref b :: As) post) (cf : CF y by1 nL1 (some ty) Ty n) (g : GoodIn Ts Ty) (hlk9 : Cond.methodLinkNest own index y host ∈ nestW) (hin : Cond.instanceMethod y ∈ Ts) (hse : Cond.selects Cn y y ∈ Ts) (hini : Cond.initialized y.cls ∈ Ts) (hF : Fit rm1 rm nL1) (hn : As.length = n) (hst : st0 = As.reverse ++ (.ref b :: st)) (hcat : (st.map fun v => v.category).sum ≤ 8) (d : decode cc pc = .ok (.invokevirtual index, 3)) (k : ∀ (r : Nat) (w1 : va_W), post r w1 → G E x w1 lv (pc + 3) (.ref r :: st)) : G E x ws lv pc st0 := by
  obtain ⟨p, e, R, s, m, args, below, meth, c, A, nL, Q⟩ := x
  obtain ⟨hx, hb, hml, hown, hts, hK, hE, hA, hlk, hR⟩ := C
  subst hR
  intro H locs ls hP hD hS hl hnL
  obtain ⟨⟨Ty', hw⟩, hd⟩ := cf
  subst hst
  have hFr := g_freeF hD hS hA
  refine va_callr (mc := 0) (ms := 0) (va_runVN (As := As) (rest := st) ⟨hx, hb, hml, hown, hts⟩ (M H.size) (⟨va_cnB n hts g hw hF.1.1 hF.1.2 (hK.2.1 _ hlk9) (hts _ hini) hd hF.2, hts _ hin, hts _ hse⟩) ⟨mPc_blind, va_recv hK.1 hP hcn he, g_preF hK hE hP hD hS hFr⟩ rfl hn hl.1 rfl (lv_room hcat) d ⟨Nat.zero_le _, Nat.zero_le _⟩) hS (fun q _ h => hFr q h) hFr (fun u r t H1 l1 ht hvm hp hB hz hk hS1 => ?_)
  have hB2 := hB.2
  obtain ⟨hP1, hD1⟩ := hB2
  rw [ht] at hP1
  exact k r u hB.1 H1 l1 ls hP1 (hD1.weaken (fun _ q _ h => hFr q.1 h)) hS1 hl hnL
theorem g_callrT (C : Ok E x cc own Ts rm) {y : MethodName} {by1 : ByteArray} {nL1 n index : Nat} {ty : FieldType} {Ty : List Cond} {rm1 : Room} {w0 : va_W} {As st0 : List Value} {post : Nat → va_W → Prop} {host : String} (M : MR E y Ty rm1 w0 As post) (cf : CF y by1 nL1 (some ty) Ty n) (g : GoodIn Ts Ty) (hlk9 : Cond.methodLinkNest own index y host ∈ nestW) (hin : Cond.static y ∈ Ts) (hini : Cond.initialized y.cls ∈ Ts) (hF : Fit rm1 rm nL1) (hn : As.length = n) (hst : st0 = As.reverse ++ st) (hcat : (st.map fun v => v.category).sum ≤ 8) (d : decode cc pc = .ok (.invokestatic index, 3)) (isC isR : List Nat) {wr : va_W} (hndC : va_nd isC = true) (hC : isC.map (fun i => ws[i]?) = w0.map some) (hR2 : isR.map (fun i => ws[i]?) = wr.map some) (hnd : va_nd isR = true) (hdis : ∀ i ∈ isR, i ∉ isC) (k : ∀ (r : Nat) (w1 : va_W), post r w1 → G E x (wr ++ w1) lv (pc + 3) (.ref r :: st)) : G E x ws lv pc st0 := by
  obtain ⟨p, e, R, s, m, args, below, meth, c, A, nL, Q⟩ := x
  obtain ⟨hx, hb, hml, hown, hts, hK, hE, hA, hlk, hR⟩ := C
  subst hR
  intro H locs ls hP hD hS hl hnL
  obtain ⟨⟨Ty', hw⟩, hd⟩ := cf
  subst hst
  have hFr := va_free (wc := w0) hD hS hA isC hC
  refine va_callr (mc := 0) (ms := 0) (va_runSN (As := As) (rest := st) ⟨hx, hb, hml, hown, hts⟩ (M H.size) (⟨va_cnB n hts g hw hF.1.1 hF.1.2 (hK.2.1 _ hlk9) (hts _ hini) hd hF.2, hts _ hin, trivial⟩) ⟨mPc_blind, g_pre hK hE hP hD hS hA hndC hC⟩ rfl hn hl.1 rfl (lv_room hcat) d ⟨Nat.zero_le _, Nat.zero_le _⟩) hS (fun q _ h => hFr q h) hFr (fun u r t H1 l1 ht hvm hp hB hz hk hS1 => ?_)
  have hB2 := hB.2
  obtain ⟨hP1, hD1⟩ := hB2
  rw [ht] at hP1
  obtain ⟨hP2, hD2⟩ := va_join hP hD isC isR hC hR2 hnd hdis hk hFr hP1 hD1
  exact k r u hB.1 H1 l1 ls hP2 hD2 hS1 hl hnL
theorem g_callrTF (C : Ok E x cc own Ts rm) {y : MethodName} {by1 : ByteArray} {nL1 n index : Nat} {ty : FieldType} {Ty : List Cond} {rm1 : Room} {As st0 : List Value} {post : Nat → va_W → Prop} {host : String} (M : MR E y Ty rm1 ws As post) (cf : CF y by1 nL1 (some ty) Ty n) (g : GoodIn Ts Ty) (hlk9 : Cond.methodLinkNest own index y host ∈ nestW) (hin : Cond.static y ∈ Ts) (hini : Cond.initialized y.cls ∈ Ts) (hF : Fit rm1 rm nL1) (hn : As.length = n) (hst : st0 = As.reverse ++ st) (hcat : (st.map fun v => v.category).sum ≤ 8) (d : decode cc pc = .ok (.invokestatic index, 3)) (k : ∀ (r : Nat) (w1 : va_W), post r w1 → G E x w1 lv (pc + 3) (.ref r :: st)) : G E x ws lv pc st0 := by
  obtain ⟨p, e, R, s, m, args, below, meth, c, A, nL, Q⟩ := x
  obtain ⟨hx, hb, hml, hown, hts, hK, hE, hA, hlk, hR⟩ := C
  subst hR
  intro H locs ls hP hD hS hl hnL
  obtain ⟨⟨Ty', hw⟩, hd⟩ := cf
  subst hst
  have hFr := g_freeF hD hS hA
  refine va_callr (mc := 0) (ms := 0) (va_runSN (As := As) (rest := st) ⟨hx, hb, hml, hown, hts⟩ (M H.size) (⟨va_cnB n hts g hw hF.1.1 hF.1.2 (hK.2.1 _ hlk9) (hts _ hini) hd hF.2, hts _ hin, trivial⟩) ⟨mPc_blind, g_preF hK hE hP hD hS hFr⟩ rfl hn hl.1 rfl (lv_room hcat) d ⟨Nat.zero_le _, Nat.zero_le _⟩) hS (fun q _ h => hFr q h) hFr (fun u r t H1 l1 ht hvm hp hB hz hk hS1 => ?_)
  have hB2 := hB.2
  obtain ⟨hP1, hD1⟩ := hB2
  rw [ht] at hP1
  exact k r u hB.1 H1 l1 ls hP1 (hD1.weaken (fun _ q _ h => hFr q.1 h)) hS1 hl hnL
theorem g_mmax (C : Ok E x cc own Ts rm) {index : Nat} {x1 y1 : Int32} (hw : Cond.methodLink own index Lib.Math.max.name ∈ Ts) (hw2 : Cond.static Lib.Math.max.name ∈ Ts) (hw3 : Cond.initialized "java/lang/Math" ∈ Ts) (hw4 : Cond.code Lib.Math.max.name Lib.Math.max.code 2 (some .int) ∈ Ts) (hr : 1 ≤ rm.frames ∧ (st.map fun v => v.category).sum + 13 ≤ rm.locals) (d : decode cc pc = .ok (.invokestatic index, 3)) (k : G E x ws lv (pc + 3) (.int (if x1 < y1 then y1 else x1) :: st)) : G E x ws lv pc (.int y1 :: .int x1 :: st) := by
  obtain ⟨p, e, R, s, m, args, below, meth, c, A, nL, Q⟩ := x
  obtain ⟨hx, hb, hml, hown, hts, hK, hE, hA, hlk, hR⟩ := C
  subst hR
  intro H locs ls hP hD hS hl hnL
  exact va_mmax hx hb (hml.trans hl.1.symm) hown (hts _ hw) (hts _ hw2) (hts _ hw3) (hts _ hw4) hr.1 hr.2 (Nat.zero_le _) (Nat.zero_le _) d (k H locs ls hP hD hS hl hnL)
theorem g_mmin (C : Ok E x cc own Ts rm) {index : Nat} {x1 y1 : Int32} (hw : Cond.methodLink own index Lib.Math.min.name ∈ Ts) (hw2 : Cond.static Lib.Math.min.name ∈ Ts) (hw3 : Cond.initialized "java/lang/Math" ∈ Ts) (hw4 : Cond.code Lib.Math.min.name Lib.Math.min.code 2 (some .int) ∈ Ts) (hr : 1 ≤ rm.frames ∧ (st.map fun v => v.category).sum + 13 ≤ rm.locals) (d : decode cc pc = .ok (.invokestatic index, 3)) (k : G E x ws lv (pc + 3) (.int (if y1 < x1 then y1 else x1) :: st)) : G E x ws lv pc (.int y1 :: .int x1 :: st) := by
  obtain ⟨p, e, R, s, m, args, below, meth, c, A, nL, Q⟩ := x
  obtain ⟨hx, hb, hml, hown, hts, hK, hE, hA, hlk, hR⟩ := C
  subst hR
  intro H locs ls hP hD hS hl hnL
  exact va_mmin hx hb (hml.trans hl.1.symm) hown (hts _ hw) (hts _ hw2) (hts _ hw3) (hts _ hw4) hr.1 hr.2 (Nat.zero_le _) (Nat.zero_le _) d (k H locs ls hP hD hS hl hnL)
theorem g_perm (is : List Nat) {ws' : va_W} (hnd : va_nd is = true) (h : is.map (fun i => ws[i]?) = ws'.map some) (k : G E x ws' lv pc st) : G E x ws lv pc st := by
  obtain ⟨p, e, R, s, m, args, below, meth, c, A, nL, Q⟩ := x
  intro H locs ls hP hD hS hl hnL
  exact k H locs ls (hP.sub is (pl_sub h)) (hD.sub is hnd h) hS hl hnL
theorem g_eq {ws' : va_W} {lv' : List (Option Value)} {st' : List Value} (h1 : ws = ws') (h2 : lv = lv') (h3 : st = st') (k : G E x ws' lv' pc st') : G E x ws lv pc st := by
  subst h1; subst h2; subst h3; exact k
end GR
