/-! THE GN LAYER: as G, with the cells and slots that were made -/
def GN (E : Ev) (x : Cx) (kc ks : Nat) (ws : va_W) (lv : List (Option Value)) (pc : Nat) (st : List Value) : Prop :=
  match x with
  | (p, e, R, s, m, args, below, meth, c, A, nL, Q) => ∀ (H : Heap) (locs : List Loc) (ls : Array Slot), va_P E.2.1 vwCl ws H → va_D A ws → va_S A s.heap H locs → lv_has ls nL (ld 0 lv) → lv.length = nL → W p E.1 e R s m args below meth c H locs kc ks Q (F0 m pc ls st)
def skyN : String := "KiteRegisters$Sky"
def OkN (x : Cx) : Prop :=
  match x with
  | (_, _, _, s, _, _, _, meth, _, _, _, _) => va_AO "KiteRegisters$Sky" s ∧ meth.name = "<init>"
def mPn (E : Ev) (w0 : va_W) (sz : Nat) (av : List Value) : Array Value → State → Prop := fun a U => mPc E w0 sz av a U ∧ va_AO "KiteRegisters$Sky" U
def rmN (n kc ks : Nat) : Room := { frames := n, cells := kc, slots := ks, locals := 32 * n }
def NV (E : Ev) (y : MethodName) (Ty : List Cond) (n kc ks : Nat) (w0 : va_W) (av : List Value) (post : va_W → Prop) : Prop := ∀ sz : Nat, Met E.1 y Ty (rmN n kc ks) (mPn E w0 sz av) (va_Qv post (mB E (va_A w0 sz)) (va_A w0 sz)) kc ks (va_A w0 sz)
def RetN (E : Ev) (x : Cx) (kc ks : Nat) (post : va_W → Prop) : Prop :=
  match x with
  | (_, _, _, s, _, args, below, meth, _, A, _, Q) => Q = MQ below (va_Qv post (mB E A) A) args s kc ks A ∧ meth.sig.returnType = none
theorem mPn_blind {E : Ev} {w0 : va_W} {sz : Nat} {av : List Value} : FrameBlind (mPn E w0 sz av) := by
  intro a U g mk h
  exact ⟨mPc_blind a U g mk h.1, h.2.moved (u := U) (Vm.Alike.refl U.vm)⟩
theorem NV.of {E : Ev} {y : MethodName} {cc : ByteArray} {nL n kc ks : Nat} {Ty Ty' : List Cond} {w0 : va_W} {av : List Value} {post : va_W → Prop} {own : String} (lv0 : List (Option Value)) (hy : plainName y.cls = true) (ho : own = y.cls) (hT : Ty = Cond.code y cc nL none :: Ty') (hi : y.name = "<init>") (hn : (lg_sl av).length ≤ nL) (hlv : lv_args 0 av = ld 0 lv0) (hll : lv0.length = nL)
    (body : ∀ x : Cx, Ok E x cc own Ty (rmN n kc ks) → OkN x → RetN E x kc ks post → GN E x 0 0 w0 lv0 0 []) : NV E y Ty n kc ks w0 av post := by
  intro sz
  refine Met.ofW (cc := cc) (maxL := nL) (ret := none) hy hT ?_
  intro p e s m args below meth c s₁ B hml hv
  obtain ⟨⟨rfl, hsz, hP, hK, hE, hD0⟩, hAO⟩ := hv
  subst hsz
  subst ho
  have hD := hD0.self (sz := s.heap.size)
  have hl := lv_entry av (n := nL) hn
  rw [lg_entry_eq]
  generalize (lg_sl av ++ List.replicate (nL - (lg_sl av).length) Slot.unset).toArray = ls at hl ⊢
  rw [hlv] at hl
  have hnm : meth.name = "<init>" := (name_of_methodNamed B.named B.method).1.trans hi
  exact body (p, e, (headSpec Ty (rmN n kc ks)).room, s, m, av.toArray, below, meth, c, va_A w0 s.heap.size, nL, _) ⟨B.exec, B.bytes, hml, findClass_of_methodNamed B.named, atoms_spec (ws := Ty) B.pre, hK, hE, va_A_self, B.notSynchronized, rfl⟩ ⟨hAO, hnm⟩ ⟨rfl, B.returns⟩ s.heap [] ls hP hD va_S.rf hl hll
theorem va_RA_inj {s : State} {c1 c2 : ClassId} {ty : FieldType} (h1 : va_RA s c1 ty) (h2 : va_RA s c2 ty) : c1 = c2 := by
  cases ty with
  | object C =>
    obtain ⟨-, -, -, -, -, e1⟩ := h1
    obtain ⟨-, -, -, -, -, e2⟩ := h2
    rw [e1] at e2
    exact Option.some.inj e2
  | _ =>
    exact Option.some.inj (Eq.trans (Eq.symm h1) h2)
section NR
variable {E : Ev} {x : Cx} {cc : ByteArray} {own : String} {Ts : List Cond} {rm : Room} {ws : va_W} {lv : List (Option Value)} {pc : Nat} {st : List Value} {kc ks : Nat}
theorem lv_iincG {p : Program} {l : Launch} {e : Env} {R : Room} {s : State} {m : MethodId} {args : Array Value} {below : List Frame} {meth : Method} {c : Code} {H : Heap} {locs : List Loc} {Q : State → Prop} {cc : ByteArray} {pc : Nat} {ls : Array Slot} {rest : List Value} (hx : p.tables.exec = Jvm.exec) (hb : c.code = cc) {i nL kc ks : Nat} {n : Int} {y : Int32} {lv : List (Option Value)} (d : decode cc pc = .ok (.iinc i n, 3)) (h : lv_has ls nL (ld 0 lv)) (hv : lv[i]? = some (some (.int y))) (hn : i < nL) (ho : okst lv i = true)
    (k : ∀ ls' : Array Slot, lv_has ls' nL (ld 0 (lv.set i (some (.int (y + Int32.ofInt n))))) → W p l e R s m args below meth c H locs kc ks Q (F0 m (pc + 3) ls' rest)) : W p l e R s m args below meth c H locs kc ks Q (F0 m pc ls rest) := by
  have hm := ld_in lv 0 i _ hv
  rw [Nat.zero_add] at hm
  obtain ⟨j, hj⟩ := List.getElem?_of_mem hm
  exact lv_iinc hx hb d h hj rfl hn rfl (fun ls' hl' => k ls' (ld_put hl' ho))
theorem n_iconst (C : Ok E x cc own Ts rm) {n : Int} {v : Int32} (d : decode cc pc = .ok (.iconst n, 1)) (hv : Int32.ofInt n = v) (k : GN E x kc ks ws lv (pc + 1) (.int v :: st)) : GN E x kc ks ws lv pc st := by
  obtain ⟨p, e, R, s, m, args, below, meth, c, A, nL, Q⟩ := x
  obtain ⟨hx, hb, hml, hown, hts, hK, hE, hA, hlk, hR⟩ := C
  subst hR
  intro H locs ls hP hD hS hl hnL
  exact lv_iconst hx hb d hv (k H locs ls hP hD hS hl hnL)
theorem n_bipush (C : Ok E x cc own Ts rm) {n : Int} {v : Int32} (d : decode cc pc = .ok (.bipush n, 2)) (hv : (Int8.ofInt n).toInt32 = v) (k : GN E x kc ks ws lv (pc + 2) (.int v :: st)) : GN E x kc ks ws lv pc st := by
  obtain ⟨p, e, R, s, m, args, below, meth, c, A, nL, Q⟩ := x
  obtain ⟨hx, hb, hml, hown, hts, hK, hE, hA, hlk, hR⟩ := C
  subst hR
  intro H locs ls hP hD hS hl hnL
  exact lv_bipush hx hb d hv (k H locs ls hP hD hS hl hnL)
theorem n_sipush (C : Ok E x cc own Ts rm) {n : Int} {v : Int32} (d : decode cc pc = .ok (.sipush n, 3)) (hv : (Int16.ofInt n).toInt32 = v) (k : GN E x kc ks ws lv (pc + 3) (.int v :: st)) : GN E x kc ks ws lv pc st := by
  obtain ⟨p, e, R, s, m, args, below, meth, c, A, nL, Q⟩ := x
  obtain ⟨hx, hb, hml, hown, hts, hK, hE, hA, hlk, hR⟩ := C
  subst hR
  intro H locs ls hP hD hS hl hnL
  exact lv_sipush hx hb d hv (k H locs ls hP hD hS hl hnL)
theorem n_iload_n (C : Ok E x cc own Ts rm) {k0 : Fin 4} {i : Nat} {v : Int32} (d : decode cc pc = .ok (.iload_n k0, 1)) (hi : (k0 : Nat) = i) (hv : lv[i]? = some (some (.int v))) (k : GN E x kc ks ws lv (pc + 1) (.int v :: st)) : GN E x kc ks ws lv pc st := by
  obtain ⟨p, e, R, s, m, args, below, meth, c, A, nL, Q⟩ := x
  obtain ⟨hx, hb, hml, hown, hts, hK, hE, hA, hlk, hR⟩ := C
  subst hR
  intro H locs ls hP hD hS hl hnL
  exact lv_iload_n hx hb d hi (ld_at hl hv) (k H locs ls hP hD hS hl hnL)
theorem n_iload (C : Ok E x cc own Ts rm) {i : Nat} {v : Int32} (d : decode cc pc = .ok (.iload i, 2)) (hv : lv[i]? = some (some (.int v))) (k : GN E x kc ks ws lv (pc + 2) (.int v :: st)) : GN E x kc ks ws lv pc st := by
  obtain ⟨p, e, R, s, m, args, below, meth, c, A, nL, Q⟩ := x
  obtain ⟨hx, hb, hml, hown, hts, hK, hE, hA, hlk, hR⟩ := C
  subst hR
  intro H locs ls hP hD hS hl hnL
  exact lv_iload hx hb d (ld_at hl hv) (k H locs ls hP hD hS hl hnL)
theorem n_aload_n (C : Ok E x cc own Ts rm) {k0 : Fin 4} {i : Nat} {v : Nat} (d : decode cc pc = .ok (.aload_n k0, 1)) (hi : (k0 : Nat) = i) (hv : lv[i]? = some (some (.ref v))) (k : GN E x kc ks ws lv (pc + 1) (.ref v :: st)) : GN E x kc ks ws lv pc st := by
  obtain ⟨p, e, R, s, m, args, below, meth, c, A, nL, Q⟩ := x
  obtain ⟨hx, hb, hml, hown, hts, hK, hE, hA, hlk, hR⟩ := C
  subst hR
  intro H locs ls hP hD hS hl hnL
  exact lv_aload_n hx hb d hi (ld_at hl hv) (k H locs ls hP hD hS hl hnL)
theorem n_aload (C : Ok E x cc own Ts rm) {i : Nat} {v : Nat} (d : decode cc pc = .ok (.aload i, 2)) (hv : lv[i]? = some (some (.ref v))) (k : GN E x kc ks ws lv (pc + 2) (.ref v :: st)) : GN E x kc ks ws lv pc st := by
  obtain ⟨p, e, R, s, m, args, below, meth, c, A, nL, Q⟩ := x
  obtain ⟨hx, hb, hml, hown, hts, hK, hE, hA, hlk, hR⟩ := C
  subst hR
  intro H locs ls hP hD hS hl hnL
  exact lv_aload hx hb d (ld_at hl hv) (k H locs ls hP hD hS hl hnL)
theorem n_istore_n (C : Ok E x cc own Ts rm) {k0 : Fin 4} {i : Nat} {v : Int32} (d : decode cc pc = .ok (.istore_n k0, 1)) (hi : (k0 : Nat) = i) (hn : i < lv.length) (ho : okst lv i = true) (k : GN E x kc ks ws (lv.set i (some (.int v))) (pc + 1) st) : GN E x kc ks ws lv pc (.int v :: st) := by
  obtain ⟨p, e, R, s, m, args, below, meth, c, A, nL, Q⟩ := x
  obtain ⟨hx, hb, hml, hown, hts, hK, hE, hA, hlk, hR⟩ := C
  subst hR
  intro H locs ls hP hD hS hl hnL
  exact lv_istore_n hx hb d hi hl (hnL ▸ hn) rfl (fun ls' hl' => k H locs ls' hP hD hS (ld_put hl' ho) (by rw [List.length_set]; exact hnL))
theorem n_istore (C : Ok E x cc own Ts rm) {i : Nat} {v : Int32} (d : decode cc pc = .ok (.istore i, 2)) (hn : i < lv.length) (ho : okst lv i = true) (k : GN E x kc ks ws (lv.set i (some (.int v))) (pc + 2) st) : GN E x kc ks ws lv pc (.int v :: st) := by
  obtain ⟨p, e, R, s, m, args, below, meth, c, A, nL, Q⟩ := x
  obtain ⟨hx, hb, hml, hown, hts, hK, hE, hA, hlk, hR⟩ := C
  subst hR
  intro H locs ls hP hD hS hl hnL
  exact lv_istore hx hb d hl (hnL ▸ hn) rfl (fun ls' hl' => k H locs ls' hP hD hS (ld_put hl' ho) (by rw [List.length_set]; exact hnL))
theorem n_astore_n (C : Ok E x cc own Ts rm) {k0 : Fin 4} {i : Nat} {v : Nat} (d : decode cc pc = .ok (.astore_n k0, 1)) (hi : (k0 : Nat) = i) (hn : i < lv.length) (ho : okst lv i = true) (k : GN E x kc ks ws (lv.set i (some (.ref v))) (pc + 1) st) : GN E x kc ks ws lv pc (.ref v :: st) := by
  obtain ⟨p, e, R, s, m, args, below, meth, c, A, nL, Q⟩ := x
  obtain ⟨hx, hb, hml, hown, hts, hK, hE, hA, hlk, hR⟩ := C
  subst hR
  intro H locs ls hP hD hS hl hnL
  exact lv_astore_n hx hb d hi hl (hnL ▸ hn) rfl (fun ls' hl' => k H locs ls' hP hD hS (ld_put hl' ho) (by rw [List.length_set]; exact hnL))
theorem n_iinc (C : Ok E x cc own Ts rm) {i : Nat} {n : Int} {y v : Int32} (d : decode cc pc = .ok (.iinc i n, 3)) (hv : lv[i]? = some (some (.int y))) (ho : okst lv i = true) (he : y + Int32.ofInt n = v) (k : GN E x kc ks ws (lv.set i (some (.int v))) (pc + 3) st) : GN E x kc ks ws lv pc st := by
  obtain ⟨p, e, R, s, m, args, below, meth, c, A, nL, Q⟩ := x
  obtain ⟨hx, hb, hml, hown, hts, hK, hE, hA, hlk, hR⟩ := C
  subst hR
  intro H locs ls hP hD hS hl hnL
  subst he
  exact lv_iincG hx hb d hl hv (hnL ▸ (List.getElem?_eq_some_iff.mp hv).1) ho (fun ls' hl' => k H locs ls' hP hD hS hl' (by rw [List.length_set]; exact hnL))
theorem n_iadd (C : Ok E x cc own Ts rm) {x1 y1 : Int32} (d : decode cc pc = .ok (.iadd, 1)) (k : GN E x kc ks ws lv (pc + 1) (.int (x1 + y1) :: st)) : GN E x kc ks ws lv pc (.int y1 :: .int x1 :: st) := by
  obtain ⟨p, e, R, s, m, args, below, meth, c, A, nL, Q⟩ := x
  obtain ⟨hx, hb, hml, hown, hts, hK, hE, hA, hlk, hR⟩ := C
  subst hR
  intro H locs ls hP hD hS hl hnL
  exact lv_iadd hx hb d (k H locs ls hP hD hS hl hnL)
theorem n_isub (C : Ok E x cc own Ts rm) {x1 y1 : Int32} (d : decode cc pc = .ok (.isub, 1)) (k : GN E x kc ks ws lv (pc + 1) (.int (x1 - y1) :: st)) : GN E x kc ks ws lv pc (.int y1 :: .int x1 :: st) := by
  obtain ⟨p, e, R, s, m, args, below, meth, c, A, nL, Q⟩ := x
  obtain ⟨hx, hb, hml, hown, hts, hK, hE, hA, hlk, hR⟩ := C
  subst hR
  intro H locs ls hP hD hS hl hnL
  exact lv_isub hx hb d (k H locs ls hP hD hS hl hnL)
theorem n_iand (C : Ok E x cc own Ts rm) {x1 y1 : Int32} (d : decode cc pc = .ok (.iand, 1)) (k : GN E x kc ks ws lv (pc + 1) (.int (x1 &&& y1) :: st)) : GN E x kc ks ws lv pc (.int y1 :: .int x1 :: st) := by
  obtain ⟨p, e, R, s, m, args, below, meth, c, A, nL, Q⟩ := x
  obtain ⟨hx, hb, hml, hown, hts, hK, hE, hA, hlk, hR⟩ := C
  subst hR
  intro H locs ls hP hD hS hl hnL
  exact lv_iand hx hb d (k H locs ls hP hD hS hl hnL)
theorem n_dup (C : Ok E x cc own Ts rm) {v : Value} (d : decode cc pc = .ok (.dup, 1)) (hc : v.category = 1) (k : GN E x kc ks ws lv (pc + 1) (v :: v :: st)) : GN E x kc ks ws lv pc (v :: st) := by
  obtain ⟨p, e, R, s, m, args, below, meth, c, A, nL, Q⟩ := x
  obtain ⟨hx, hb, hml, hown, hts, hK, hE, hA, hlk, hR⟩ := C
  subst hR
  intro H locs ls hP hD hS hl hnL
  exact lv_dup hx hb d hc (k H locs ls hP hD hS hl hnL)
theorem n_goto (C : Ok E x cc own Ts rm) {off : Int} {tgt : Nat} (d : decode cc pc = .ok (.goto off, 3)) (ht : (pc : Int) + off = (tgt : Int)) (k : GN E x kc ks ws lv tgt st) : GN E x kc ks ws lv pc st := by
  obtain ⟨p, e, R, s, m, args, below, meth, c, A, nL, Q⟩ := x
  obtain ⟨hx, hb, hml, hown, hts, hK, hE, hA, hlk, hR⟩ := C
  subst hR
  intro H locs ls hP hD hS hl hnL
  exact lv_goto hx hb d ht (k H locs ls hP hD hS hl hnL)
theorem n_i2c (C : Ok E x cc own Ts rm) {x1 : Int32} (d : decode cc pc = .ok (.i2c, 1)) (k : GN E x kc ks ws lv (pc + 1) (.int (x1.toUInt32 % 65536).toInt32 :: st)) : GN E x kc ks ws lv pc (.int x1 :: st) := by
  obtain ⟨p, e, R, s, m, args, below, meth, c, A, nL, Q⟩ := x
  obtain ⟨hx, hb, hml, hown, hts, hK, hE, hA, hlk, hR⟩ := C
  subst hR
  intro H locs ls hP hD hS hl hnL
  exact lv_i2c hx hb d rfl (k H locs ls hP hD hS hl hnL)
theorem n_if_ge (C : Ok E x cc own Ts rm) {x1 : Int32} {off : Int} {tgt : Nat} (d : decode cc pc = .ok (.ifCond .ge off, 3)) (ht : (pc : Int) + off = (tgt : Int)) (kt : 0 ≤ x1 → GN E x kc ks ws lv tgt st) (kf : ¬ 0 ≤ x1 → GN E x kc ks ws lv (pc + 3) st) : GN E x kc ks ws lv pc (.int x1 :: st) := by
  obtain ⟨p, e, R, s, m, args, below, meth, c, A, nL, Q⟩ := x
  obtain ⟨hx, hb, hml, hown, hts, hK, hE, hA, hlk, hR⟩ := C
  subst hR
  intro H locs ls hP hD hS hl hnL
  exact lv_if_ge hx hb d ht (fun h => kt h H locs ls hP hD hS hl hnL) (fun h => kf h H locs ls hP hD hS hl hnL)
theorem n_icmp_ge (C : Ok E x cc own Ts rm) {x1 y1 : Int32} {off : Int} {tgt : Nat} (d : decode cc pc = .ok (.if_icmp .ge off, 3)) (ht : (pc : Int) + off = (tgt : Int)) (kt : y1 ≤ x1 → GN E x kc ks ws lv tgt st) (kf : ¬ y1 ≤ x1 → GN E x kc ks ws lv (pc + 3) st) : GN E x kc ks ws lv pc (.int y1 :: .int x1 :: st) := by
  obtain ⟨p, e, R, s, m, args, below, meth, c, A, nL, Q⟩ := x
  obtain ⟨hx, hb, hml, hown, hts, hK, hE, hA, hlk, hR⟩ := C
  subst hR
  intro H locs ls hP hD hS hl hnL
  exact lv_icmp_ge hx hb d ht (fun h => kt h H locs ls hP hD hS hl hnL) (fun h => kf h H locs ls hP hD hS hl hnL)
theorem n_icmp_eq (C : Ok E x cc own Ts rm) {x1 y1 : Int32} {off : Int} {tgt : Nat} (d : decode cc pc = .ok (.if_icmp .eq off, 3)) (ht : (pc : Int) + off = (tgt : Int)) (kt : x1 = y1 → GN E x kc ks ws lv tgt st) (kf : ¬ x1 = y1 → GN E x kc ks ws lv (pc + 3) st) : GN E x kc ks ws lv pc (.int y1 :: .int x1 :: st) := by
  obtain ⟨p, e, R, s, m, args, below, meth, c, A, nL, Q⟩ := x
  obtain ⟨hx, hb, hml, hown, hts, hK, hE, hA, hlk, hR⟩ := C
  subst hR
  intro H locs ls hP hD hS hl hnL
  exact lv_icmp_eq hx hb d ht (fun h => kt h H locs ls hP hD hS hl hnL) (fun h => kf h H locs ls hP hD hS hl hnL)
theorem n_icmp_ne (C : Ok E x cc own Ts rm) {x1 y1 : Int32} {off : Int} {tgt : Nat} (d : decode cc pc = .ok (.if_icmp .ne off, 3)) (ht : (pc : Int) + off = (tgt : Int)) (kt : ¬ x1 = y1 → GN E x kc ks ws lv tgt st) (kf : x1 = y1 → GN E x kc ks ws lv (pc + 3) st) : GN E x kc ks ws lv pc (.int y1 :: .int x1 :: st) := by
  obtain ⟨p, e, R, s, m, args, below, meth, c, A, nL, Q⟩ := x
  obtain ⟨hx, hb, hml, hown, hts, hK, hE, hA, hlk, hR⟩ := C
  subst hR
  intro H locs ls hP hD hS hl hnL
  exact lv_icmp_ne hx hb d ht (fun h => kt h H locs ls hP hD hS hl hnL) (fun h => kf h H locs ls hP hD hS hl hnL)
theorem n_icmp_gt (C : Ok E x cc own Ts rm) {x1 y1 : Int32} {off : Int} {tgt : Nat} (d : decode cc pc = .ok (.if_icmp .gt off, 3)) (ht : (pc : Int) + off = (tgt : Int)) (kt : y1 < x1 → GN E x kc ks ws lv tgt st) (kf : ¬ y1 < x1 → GN E x kc ks ws lv (pc + 3) st) : GN E x kc ks ws lv pc (.int y1 :: .int x1 :: st) := by
  obtain ⟨p, e, R, s, m, args, below, meth, c, A, nL, Q⟩ := x
  obtain ⟨hx, hb, hml, hown, hts, hK, hE, hA, hlk, hR⟩ := C
  subst hR
  intro H locs ls hP hD hS hl hnL
  exact lv_icmp_gt hx hb d ht (fun h => kt h H locs ls hP hD hS hl hnL) (fun h => kf h H locs ls hP hD hS hl hnL)
theorem n_icmp_eq_t (C : Ok E x cc own Ts rm) {x1 y1 : Int32} {off : Int} {tgt : Nat} (d : decode cc pc = .ok (.if_icmp .eq off, 3)) (ht : (pc : Int) + off = (tgt : Int)) (h : x1 = y1) (k : GN E x kc ks ws lv tgt st) : GN E x kc ks ws lv pc (.int y1 :: .int x1 :: st) := n_icmp_eq C d ht (fun _ => k) (fun z => absurd h z)
theorem n_icmp_eq_f (C : Ok E x cc own Ts rm) {x1 y1 : Int32} {off : Int} (d : decode cc pc = .ok (.if_icmp .eq off, 3)) (tgt : Nat) (ht : (pc : Int) + off = (tgt : Int)) (h : ¬ x1 = y1) (k : GN E x kc ks ws lv (pc + 3) st) : GN E x kc ks ws lv pc (.int y1 :: .int x1 :: st) := n_icmp_eq C d ht (fun z => absurd z h) (fun _ => k)
theorem n_icmp_ne_t (C : Ok E x cc own Ts rm) {x1 y1 : Int32} {off : Int} {tgt : Nat} (d : decode cc pc = .ok (.if_icmp .ne off, 3)) (ht : (pc : Int) + off = (tgt : Int)) (h : ¬ x1 = y1) (k : GN E x kc ks ws lv tgt st) : GN E x kc ks ws lv pc (.int y1 :: .int x1 :: st) := n_icmp_ne C d ht (fun _ => k) (fun z => absurd z h)
theorem n_icmp_ne_f (C : Ok E x cc own Ts rm) {x1 y1 : Int32} {off : Int} (d : decode cc pc = .ok (.if_icmp .ne off, 3)) (tgt : Nat) (ht : (pc : Int) + off = (tgt : Int)) (h : x1 = y1) (k : GN E x kc ks ws lv (pc + 3) st) : GN E x kc ks ws lv pc (.int y1 :: .int x1 :: st) := n_icmp_ne C d ht (fun z => absurd h z) (fun _ => k)
theorem n_icmp_ge_t (C : Ok E x cc own Ts rm) {x1 y1 : Int32} {off : Int} {tgt : Nat} (d : decode cc pc = .ok (.if_icmp .ge off, 3)) (ht : (pc : Int) + off = (tgt : Int)) (h : y1 ≤ x1) (k : GN E x kc ks ws lv tgt st) : GN E x kc ks ws lv pc (.int y1 :: .int x1 :: st) := n_icmp_ge C d ht (fun _ => k) (fun z => absurd h z)
theorem n_icmp_ge_f (C : Ok E x cc own Ts rm) {x1 y1 : Int32} {off : Int} (d : decode cc pc = .ok (.if_icmp .ge off, 3)) (tgt : Nat) (ht : (pc : Int) + off = (tgt : Int)) (h : ¬ y1 ≤ x1) (k : GN E x kc ks ws lv (pc + 3) st) : GN E x kc ks ws lv pc (.int y1 :: .int x1 :: st) := n_icmp_ge C d ht (fun z => absurd z h) (fun _ => k)
theorem n_icmp_gt_t (C : Ok E x cc own Ts rm) {x1 y1 : Int32} {off : Int} {tgt : Nat} (d : decode cc pc = .ok (.if_icmp .gt off, 3)) (ht : (pc : Int) + off = (tgt : Int)) (h : y1 < x1) (k : GN E x kc ks ws lv tgt st) : GN E x kc ks ws lv pc (.int y1 :: .int x1 :: st) := n_icmp_gt C d ht (fun _ => k) (fun z => absurd h z)
theorem n_icmp_gt_f (C : Ok E x cc own Ts rm) {x1 y1 : Int32} {off : Int} (d : decode cc pc = .ok (.if_icmp .gt off, 3)) (tgt : Nat) (ht : (pc : Int) + off = (tgt : Int)) (h : ¬ y1 < x1) (k : GN E x kc ks ws lv (pc + 3) st) : GN E x kc ks ws lv pc (.int y1 :: .int x1 :: st) := n_icmp_gt C d ht (fun z => absurd z h) (fun _ => k)
theorem n_tableIn (C : Ok E x cc own Ts rm) {dflt lo hi : Int} {offs : Array Int} {len : Nat} {x1 : Int32} {off : Int} {tgt : Nat} (d : decode cc pc = .ok (.tableswitch dflt lo hi offs, len)) (h1 : ¬ x1.toInt < lo) (h2 : ¬ hi < x1.toInt) (ho : offs[(x1.toInt - lo).toNat]? = some off) (ht : (pc : Int) + off = (tgt : Int)) (k : GN E x kc ks ws lv tgt st) : GN E x kc ks ws lv pc (.int x1 :: st) := by
  obtain ⟨p, e, R, s, m, args, below, meth, c, A, nL, Q⟩ := x
  obtain ⟨hx, hb, hml, hown, hts, hK, hE, hA, hlk, hR⟩ := C
  subst hR
  intro H locs ls hP hD hS hl hnL
  exact lv_tableIn hx hb d h1 h2 ho ht (k H locs ls hP hD hS hl hnL)
theorem n_tableOut (C : Ok E x cc own Ts rm) {dflt lo hi : Int} {offs : Array Int} {len : Nat} {x1 : Int32} {tgt : Nat} (d : decode cc pc = .ok (.tableswitch dflt lo hi offs, len)) (h : x1.toInt < lo ∨ hi < x1.toInt) (ht : (pc : Int) + dflt = (tgt : Int)) (k : GN E x kc ks ws lv tgt st) : GN E x kc ks ws lv pc (.int x1 :: st) := by
  obtain ⟨p, e, R, s, m, args, below, meth, c, A, nL, Q⟩ := x
  obtain ⟨hx, hb, hml, hown, hts, hK, hE, hA, hlk, hR⟩ := C
  subst hR
  intro H locs ls hP hD hS hl hnL
  exact lv_tableOut hx hb d h ht (k H locs ls hP hD hS hl hnL)
theorem n_get (C : Ok E x cc own Ts rm) {Cn : String} {T : u_T} {N ci index a : Nat} (hin : ∀ w ∈ u_ws Cn T N, w ∈ Ts) (q0 : Nat) {fs : List Value} (he : ws[q0]? = some (a, .inr (ci, fs))) (hc : vwCl[ci]? = some (Cn, T, N)) (k0 : Nat) (hk : k0 < N) (hw : Cond.fieldLink own index (T k0).1 (T k0).2.1 (T k0).2.2.1 ∈ Ts) {v : Value} (hv : fs[k0]? = some v) (d : decode cc pc = .ok (.getfield index, 3)) (k : GN E x kc ks ws lv (pc + 3) (v :: st)) : GN E x kc ks ws lv pc (.ref a :: st) := by
  obtain ⟨p, e, R, s, m, args, below, meth, c, A, nL, Q⟩ := x
  obtain ⟨hx, hb, hml, hown, hts, hK, hE, hA, hlk, hR⟩ := C
  subst hR
  intro H locs ls hP hD hS hl hnL
  exact va_get hx hb hts hin hown hK.1 hP q0 he hc k0 hk (hts _ hw) (fun x h => h) hv d (k H locs ls hP hD hS hl hnL)
theorem n_put (C : Ok E x cc own Ts rm) {Cn : String} {T : u_T} {N ci index a : Nat} (hin : ∀ w ∈ u_ws Cn T N, w ∈ Ts) (ty0 : Nat → FieldType) (hty : ∀ k, k < N → parseFieldDescriptor (T k).2.2.1 = some (ty0 k)) (hnm : ∀ a, a < N → ∀ b, b < N → a ≠ b → (T a).2.1 ≠ (T b).2.1) (q0 : Nat) {fs : List Value} {ws' : va_W} (he : ws[q0]? = some (a, .inr (ci, fs))) (hc : vwCl[ci]? = some (Cn, T, N)) (k0 : Nat) (hk : k0 < N) (hw : Cond.fieldLink own index (T k0).1 (T k0).2.1 (T k0).2.2.1 ∈ Ts) (hfin : (T k0).2.2.2 = false) {ty : FieldType} {v : Value} (hd : parseFieldDescriptor (T k0).2.2.1 = some ty) (hn : narrow ty v = v) (hfit : fits ty v = true) (hlen : k0 < fs.length) (d : decode cc pc = .ok (.putfield index, 3)) (hws : ws.set q0 (a, .inr (ci, fs.set k0 v)) = ws') (k : GN E x kc ks ws' lv (pc + 3) st) : GN E x kc ks ws lv pc (v :: .ref a :: st) := by
  obtain ⟨p, e, R, s, m, args, below, meth, c, A, nL, Q⟩ := x
  obtain ⟨hx, hb, hml, hown, hts, hK, hE, hA, hlk, hR⟩ := C
  subst hR
  intro H locs ls hP hD hS hl hnL
  subst hws
  exact va_put hx hb hts hin ty0 hty hnm hown hK.1 hP hD hS q0 he hc k0 hk (hts _ hw) (fun x h => h) hfin hd hn hfit hlen d (fun H1 l1 h1 h2 h3 => k H1 l1 ls h1 h2 h3 hl hnL)
theorem n_iast (C : Ok E x cc own Ts rm) (q0 : Nat) {a n : Nat} {f : Nat → Int32} {ws' : va_W} (ha : ws[q0]? = some (a, .inl (E.2.2 0, n, .inl f))) (j : Nat) {i v : Int32} (hi : i = nI j) (hj : j < n) (hn : n < 2 ^ 31) (d : decode cc pc = .ok (.iastore, 1)) (hws : ws.set q0 (a, .inl (E.2.2 0, n, .inl (upd f j v))) = ws') (k : GN E x kc ks ws' lv (pc + 1) st) : GN E x kc ks ws lv pc (.int v :: .int i :: .ref a :: st) := by
  obtain ⟨p, e, R, s, m, args, below, meth, c, A, nL, Q⟩ := x
  obtain ⟨hx, hb, hml, hown, hts, hK, hE, hA, hlk, hR⟩ := C
  subst hR
  intro H locs ls hP hD hS hl hnL
  subst hi
  subst hws
  have e : (nI j).toNatClampNeg = j := nI_clamp (by omega)
  refine va_iast hx hb hK.1 hP hD hS q0 0 ha rfl (vp_in_nI hj hn) d ?_
  rw [e]
  exact fun H1 l1 h1 h2 h3 => k H1 l1 ls h1 h2 h3 hl hnL
theorem n_newa (C : Ok E x cc own Ts rm) {atype : ArrayType} (t0 : Nat) {ty : FieldType} (hty : newarray.typeOf atype = ty) (ht : (tyl E)[t0]? = some (E.2.2 t0, ty)) (harr : Cond.arrayClass (newarray.typeOf atype) ∈ Ts) {n : Int32} {N' : Nat} (hn : ¬ n < 0) (hN : n.toNatClampNeg = N') (hbytes : N' * componentBytes ty ≤ 536870912) (hcells : kc + 1 ≤ rm.cells) (hslots : ks + N' ≤ rm.slots) (hdef : defaultValue ty = .int 0) (d : decode cc pc = .ok (.newarray atype, 2)) (k : ∀ q : Nat, GN E x (kc + 1) (ks + N') (ws ++ [(q, .inl (E.2.2 t0, N', .inl (fun _ => 0)))]) lv (pc + 2) (.ref q :: st)) : GN E x kc ks ws lv pc (.int n :: st) := by
  obtain ⟨p, e, R, s, m, args, below, meth, c, A, nL, Q⟩ := x
  obtain ⟨hx, hb, hml, hown, hts, hK, hE, hA, hlk, hR⟩ := C
  subst hR
  intro H locs ls hP hD hS hl hnL
  refine va_newa hx hb (hts _ harr) hty hK.1 hP hD hS hA (a0 := (N', .inl (fun _ => 0))) (fun cA => by rw [hdef]; rfl) hn hN hbytes hcells hslots d (fun q cA H1 hK1 hP1 hD1 hS1 => ?_)
  have h9 : cA = E.2.2 t0 := va_RA_inj (hK1.2 (tyl E).length (cA, ty) (by rw [List.getElem?_append_right (Nat.le_refl _), Nat.sub_self]; rfl)).2 (hK.1.2 t0 _ ht).2
  subst h9
  exact k q H1 locs ls hP1 hD1 hS1 hl hnL
theorem n_newq (C : Ok E x cc own Ts rm) (hN9 : OkN x) {index : Nat} (hcl : Cond.classLink own index "KiteRegisters$Sky" ∈ Ts) {n : Int32} {N' : Nat} (hn : ¬ n < 0) (hN : n.toNatClampNeg = N') (hbytes : N' * 4 ≤ 536870912) (hcells : kc + 1 ≤ rm.cells) (hslots : ks + N' ≤ rm.slots) (d : decode cc pc = .ok (.anewarray index, 3)) (k : ∀ q : Nat, GN E x (kc + 1) (ks + N') (ws ++ [(q, .inl (E.2.2 3, N', .inr (.inr (.inr (.inr (fun _ => none))))))]) lv (pc + 3) (.ref q :: st)) : GN E x kc ks ws lv pc (.int n :: st) := by
  obtain ⟨p, e, R, s, m, args, below, meth, c, A, nL, Q⟩ := x
  obtain ⟨hx, hb, hml, hown, hts, hK, hE, hA, hlk, hR⟩ := C
  subst hR
  intro H locs ls hP hD hS hl hnL
  refine va_newq hx hb hown (hts _ hcl) hN9.1 hK.1 hP hD hS hA hn hN hbytes hcells hslots d (fun q cA H1 hK1 hP1 hD1 hS1 => ?_)
  have h9 : cA = E.2.2 3 := va_RA_inj (hK1.2 (tyl E).length (cA, _) (by rw [List.getElem?_append_right (Nat.le_refl _), Nat.sub_self]; rfl)).2 (hK.1.2 3 _ rfl).2
  subst h9
  exact k q H1 locs ls hP1 hD1 hS1 hl hnL
theorem n_aast (C : Ok E x cc own Ts rm) (q0 qk : Nat) {a n v ci : Nat} {vs : List Value} {f : Nat → Option Nat} {r : vw_C} (ha : ws[q0]? = some (a, .inl (E.2.2 3, n, .inr (.inr (.inr (.inr f)))))) (hv : ws[qk]? = some (v, .inr (ci, vs))) (hc : vwCl[ci]? = some r) (hr : r.1 = "KiteRegisters$Sky") (j : Nat) {i : Int32} (hi : i = nI j) (hj : j < n) (hn : n < 2 ^ 31) (d : decode cc pc = .ok (.aastore, 1)) {ws' : va_W} (hws : ws.set q0 (a, .inl (E.2.2 3, n, .inr (.inr (.inr (.inr (va_up f j (some v))))))) = ws') (k : GN E x kc ks ws' lv (pc + 1) st) : GN E x kc ks ws lv pc (.ref v :: .int i :: .ref a :: st) := by
  obtain ⟨p, e, R, s, m, args, below, meth, c, A, nL, Q⟩ := x
  obtain ⟨hx, hb, hml, hown, hts, hK, hE, hA, hlk, hR⟩ := C
  subst hR
  intro H locs ls hP hD hS hl hnL
  subst hi
  subst hws
  have h9 : (nI j).toNatClampNeg = j := nI_clamp (by omega)
  refine va_astq hx hb hK.1 hP hD hS q0 3 qk ci ha (r := r) (by rw [hr]; rfl) hv hc (vp_in_nI hj hn) d (fun H1 l1 h1 h2 h3 => ?_)
  rw [h9] at h1 h2
  exact k H1 l1 ls h1 h2 h3 hl hnL
theorem n_putF (C : Ok E x cc own Ts rm) (hN9 : OkN x) {Cn : String} {T : u_T} {N ci index a : Nat} (hin : ∀ w ∈ u_ws Cn T N, w ∈ Ts) (ty0 : Nat → FieldType) (hty : ∀ k, k < N → parseFieldDescriptor (T k).2.2.1 = some (ty0 k)) (hnm : ∀ a, a < N → ∀ b, b < N → a ≠ b → (T a).2.1 ≠ (T b).2.1) (q0 : Nat) {fs : List Value} {ws' : va_W} (he : ws[q0]? = some (a, .inr (ci, fs))) (hc : vwCl[ci]? = some (Cn, T, N)) (k0 : Nat) (hk : k0 < N) (hw : Cond.fieldLink own index (T k0).1 (T k0).2.1 (T k0).2.2.1 ∈ Ts) (hfin : (T k0).2.2.2 = true) (hdecl : (T k0).1 = own) {ty : FieldType} {v : Value} (hd : parseFieldDescriptor (T k0).2.2.1 = some ty) (hn : narrow ty v = v) (hfit : fits ty v = true) (hlen : k0 < fs.length) (d : decode cc pc = .ok (.putfield index, 3)) (hws : ws.set q0 (a, .inr (ci, fs.set k0 v)) = ws') (k : GN E x kc ks ws' lv (pc + 3) st) : GN E x kc ks ws lv pc (v :: .ref a :: st) := by
  obtain ⟨p, e, R, s, m, args, below, meth, c, A, nL, Q⟩ := x
  obtain ⟨hx, hb, hml, hown, hts, hK, hE, hA, hlk, hR⟩ := C
  subst hR
  intro H locs ls hP hD hS hl hnL
  subst hws
  exact va_putF hx hb hts hin ty0 hty hnm hown hK.1 hP hD hS q0 he hc k0 hk (hts _ hw) (fun x h => h) hfin hN9.2 hdecl hd hn hfit hlen d (fun H1 l1 h1 h2 h3 => k H1 l1 ls h1 h2 h3 hl hnL)
theorem n_objInit (C : Ok E x cc own Ts rm) {index a : Nat} (h1 : Cond.methodLink own index Lib.objectInit ∈ Ts) (h2 : Cond.instanceMethod Lib.objectInit ∈ Ts) (h3 : Cond.code Lib.objectInit ⟨#[0xb1]⟩ 1 none ∈ Ts) (hr : 1 ≤ rm.frames ∧ (st.map fun v => v.category).sum + 12 ≤ rm.locals) (d : decode cc pc = .ok (.invokespecial index, 3)) (k : GN E x kc ks ws lv (pc + 3) st) : GN E x kc ks ws lv pc (.ref a :: st) := by
  obtain ⟨p, e, R, s, m, args, below, meth, c, A, nL, Q⟩ := x
  obtain ⟨hx, hb, hml, hown, hts, hK, hE, hA, hlk, hR⟩ := C
  subst hR
  intro H locs ls hP hD hS hl hnL
  refine W.objInit hx hb hown (hts _ h1) (hts _ h2) (hts _ h3) rfl (by rw [hml]; exact hl.1) rfl d hr.1 (by show 2 * 0 + _ + 12 ≤ _; omega) ?_
  exact k H locs ls hP hD hS hl hnL
theorem n_new (C : Ok E x cc own Ts rm) {Cn : String} {T : u_T} {N ci index : Nat} (hin : ∀ w ∈ u_ws Cn T N, w ∈ Ts) (ty : Nat → FieldType) (hty : ∀ k, k < N → parseFieldDescriptor (T k).2.2.1 = some (ty k)) (hcl : Cond.classLink own index Cn ∈ Ts) (hinst : Cond.instantiable Cn N ∈ Ts) (hini : Cond.initialized Cn ∈ Ts) (hc : vwCl[ci]? = some (Cn, T, N)) (fs : List Value) (hfs : ∀ j, j < N → defaultValue (ty j) = vp_V fs j) (hcells : kc + 1 ≤ rm.cells) (hslots : ks + N ≤ rm.slots) (d : decode cc pc = .ok (.new index, 3)) (k : ∀ q : Nat, GN E x (kc + 1) (ks + N) (ws ++ [(q, .inr (ci, fs))]) lv (pc + 3) (.ref q :: st)) : GN E x kc ks ws lv pc st := by
  obtain ⟨p, e, R, s, m, args, below, meth, c, A, nL, Q⟩ := x
  obtain ⟨hx, hb, hml, hown, hts, hK, hE, hA, hlk, hR⟩ := C
  subst hR
  intro H locs ls hP hD hS hl hnL
  exact va_new hx hb hts hin ty hty hown (hts _ hcl) (hts _ hinst) (hts _ hini) hK.1 hP hD hS hA hc hfs hcells hslots d (fun q H1 h1 h2 h3 => k q H1 locs ls h1 h2 h3 hl hnL)
theorem n_vret (C : Ok E x cc own Ts rm) {post : va_W → Prop} (R0 : RetN E x kc ks post) (d : decode cc pc = .ok (.return_, 1)) (h : post ws) : GN E x kc ks ws lv pc [] := by
  obtain ⟨p, e, R, s, m, args, below, meth, c, A, nL, Q⟩ := x
  obtain ⟨hx, hb, hml, hown, hts, hK, hE, hA, hlk, hR⟩ := C
  subst hR
  intro H locs ls hP hD hS hl hnL
  obtain ⟨rfl, hr⟩ := R0
  exact W.vret hx hb hr (fun t ht hW => ⟨⟨ws, rfl, h, by rw [ht]; exact hP, hD⟩, hS.F ht⟩) hS.2.2 d hlk
theorem n_eq {ws' : va_W} {lv' : List (Option Value)} {st' : List Value} {kc' ks' : Nat} (h1 : ws = ws') (h2 : lv = lv') (h3 : st = st') (h4 : kc = kc') (h5 : ks = ks') (k : GN E x kc' ks' ws' lv' pc st') : GN E x kc ks ws lv pc st := by
  subst h1; subst h2; subst h3; subst h4; subst h5; exact k
theorem n_pm {ws' : va_W} (h : ws.Perm ws') (k : GN E x kc ks ws' lv pc st) : GN E x kc ks ws lv pc st := by
  obtain ⟨p, e, R, s, m, args, below, meth, c, A, nL, Q⟩ := x
  intro H locs ls hP hD hS hl hnL
  exact k H locs ls (P_perm h hP) (D_perm h hD) hS hl hnL
theorem n_wext {ws' : va_W} (h : wEq ws ws') (k : GN E x kc ks ws' lv pc st) : GN E x kc ks ws lv pc st := by
  obtain ⟨p, e, R, s, m, args, below, meth, c, A, nL, Q⟩ := x
  intro H locs ls hP hD hS hl hnL
  exact k H locs ls (wEq_P h hP) (wEq_D h hD) hS hl hnL
/-- a constructor is called, on the cell that the world ends with -/
theorem n_init (C : Ok E x cc own Ts rm) (hN9 : OkN x) {y : MethodName} {by1 : ByteArray} {nL1 index n1 mc ms b : Nat} {Ty Ty' : List Cond} {e9 : va_E} {pre : va_W} {post : va_W → Prop} (M : NV E y Ty n1 mc ms [(b, e9)] [.ref b] post) (hw : Ty = Cond.code y by1 nL1 none :: Ty') (hd : y.cls ≠ "java/lang/invoke/MethodHandle" ∧ y.cls ≠ "java/lang/invoke/VarHandle" ∧ (parseMethodDescriptor y.desc).map (fun d => d.parameters.length) = some 0) (g : GoodIn Ts Ty) (hini : Cond.initialized y.cls ∈ Ts) (hin9 : Cond.instanceMethod y ∈ Ts) (hy1 : y.name = "<init>") {host : String} (hlk9 : Cond.methodLinkNest own index y host ∈ nestW) (hF : n1 + 1 ≤ rm.frames ∧ 8 + (nL1 + 11) + 32 * n1 ≤ rm.locals) (hcs : kc + mc ≤ rm.cells ∧ ks + ms ≤ rm.slots) (hws : ws = pre ++ [(b, e9)]) (hcat : (st.map fun v => v.category).sum ≤ 8) (d : decode cc pc = .ok (.invokespecial index, 3)) (k : ∀ w1 : va_W, post w1 → GN E x (kc + mc) (ks + ms) (pre ++ w1) lv (pc + 3) st) : GN E x kc ks ws lv pc (.ref b :: st) := by
  obtain ⟨p, e, R, s, m, args, below, meth, c, A, nL, Q⟩ := x
  obtain ⟨hx, hb, hml, hown, hts, hK, hE, hA, hlk, hR⟩ := C
  subst hR
  intro H locs ls hP hD hS hl hnL
  subst hws
  have hperm : ([(b, e9)] ++ pre).Perm (pre ++ [(b, e9)]) := List.perm_append_comm
  have hFr : ∀ q, va_A [(b, e9)] H.size q → A q := fun q hq => g_freeF hD hS hA q (A_sub (fr_in hperm) hq)
  have hpre : ∀ U : State, U.heap = H → s.WarmedH U.vm → mPn E [(b, e9)] H.size [.ref b] (#[.ref b] : Array Value) U := fun U hU hW => ⟨fr_pre hperm (g_preF hK hE hP hD hS (g_freeF hD hS hA) U hU hW), hN9.1.moved hW.alike⟩
  refine va_callv (mc := mc) (ms := ms) (va_runIN (As := []) (rest := st) ⟨hx, hb, hml, hown, hts⟩ (M H.size) ⟨va_cnB 0 hts g hw rfl rfl (hK.2.1 _ hlk9) (hts _ hini) hd hF, hy1, hts _ hin9⟩ ⟨mPn_blind, hpre⟩ rfl rfl hl.1 rfl (lv_room hcat) d hcs) hS (fun q _ h => hFr q h) hFr (fun u t H1 l1 ht hvm hp hB hz hk hS1 => ?_)
  have hB2 := hB
  obtain ⟨hP1, hD1⟩ := hB2
  rw [ht] at hP1
  have hPL : va_P E.2.1 vwCl ([(b, e9)] ++ pre) H := P_perm hperm.symm hP
  have hDL : va_D A ([(b, e9)] ++ pre) := D_perm hperm.symm hD
  have apart : ∀ q ∈ pre, q.1 < H.size ∧ ¬ va_A [(b, e9)] H.size q.1 := by
    intro q hq
    obtain ⟨i9, hi9⟩ := List.getElem?_of_mem (List.mem_append.mpr (Or.inr hq : q ∈ [(b, e9)] ∨ q ∈ pre))
    have hlq := (hPL i9 q hi9).lt
    refine ⟨hlq, fun z => ?_⟩
    rcases z with ⟨i8, e8, hi8⟩ | z
    · exact D_apart hDL (List.mem_of_getElem? hi8) hq rfl
    · omega
  have hPR : va_P E.2.1 vwCl pre H1 := by
    intro i9 q hi9
    have hq := List.mem_of_getElem? hi9
    obtain ⟨g1, g2⟩ := apart q hq
    have h9 : va_P E.2.1 vwCl pre H := P_sub (fun q hq => List.mem_append.mpr (Or.inr hq)) hPL
    exact (h9 i9 q hi9).kept (hk q.1 g1 g2)
  have hDu : va_D A u := hD1.weaken (fun _ q _ hq => hFr q.1 hq)
  refine k u hp H1 l1 ls (va_P.app hPR hP1) (va_D.app (D_right hDL) hDu (fun i9 j9 p9 q9 hi9 hj9 hne => ?_)) hS1 hl hnL
  exact (apart p9 (List.mem_of_getElem? hi9)).2 (by rw [hne]; exact hD1.2 j9 q9 hj9)
end NR
