/-! THE LAW'S LAYER -/
def scrX (x : Cx) (b L : Nat) (xs : Nat → Int32) : Prop :=
  match x with
  | (_, _, _, s, _, _, _, _, _, A, _, _) => va_X b L xs s s.heap ∧ b < s.heap.size ∧ ¬ A b
def AOx (x : Cx) : Prop :=
  match x with
  | (_, _, _, s, _, _, _, _, _, _, _, _) => va_AO "KiteRegisters$Sky" s
def RetL (E : Ev) (x : Cx) : Prop := ∀ (kc ks : Nat) (ws : va_W) (lv : List (Option Value)) (pc : Nat), kc ≤ 600000 → ks ≤ 7302250 → decode cL_law pc = .ok (.ireturn, 1) → GN E x kc ks ws lv pc [.int 1]
section NL
variable {E : Ev} {x : Cx} {cc : ByteArray} {own : String} {Ts : List Cond} {rm : Room} {ws : va_W} {lv : List (Option Value)} {pc : Nat} {st : List Value} {kc ks : Nat}
theorem n_sld (C : Ok E x cc own Ts rm) {b L : Nat} {xs : Nat → Int32} (X9 : scrX x b L xs) {i : Int32} (hin : vp_in i L) (d : decode cc pc = .ok (.iaload, 1)) (k : GN E x kc ks ws lv (pc + 1) (.int (xs i.toNatClampNeg) :: st)) : GN E x kc ks ws lv pc (.int i :: .ref b :: st) := by
  obtain ⟨p, e, R, s, m, args, below, meth, c, A, nL, Q⟩ := x
  obtain ⟨hx, hb, hml, hown, hts, hK, hE, hA, hlk, hR⟩ := C
  obtain ⟨h1, h2, h3⟩ := X9
  intro H locs ls hP hD hS hl hnL
  exact va_sld hx hb h1 h2 h3 hS hin d (k H locs ls hP hD hS hl hnL)
theorem n_slen (C : Ok E x cc own Ts rm) {b L : Nat} {xs : Nat → Int32} (X9 : scrX x b L xs) (d : decode cc pc = .ok (.arraylength, 1)) (k : GN E x kc ks ws lv (pc + 1) (.int (nI L) :: st)) : GN E x kc ks ws lv pc (.ref b :: st) := by
  obtain ⟨p, e, R, s, m, args, below, meth, c, A, nL, Q⟩ := x
  obtain ⟨hx, hb, hml, hown, hts, hK, hE, hA, hlk, hR⟩ := C
  obtain ⟨h1, h2, h3⟩ := X9
  intro H locs ls hP hD hS hl hnL
  exact va_slen hx hb h1 h2 h3 hS d (k H locs ls hP hD hS hl hnL)
theorem n_calliR (C : Ok E x cc own Ts rm) {y : MethodName} {by1 : ByteArray} {nL1 n index : Nat} {ty : FieldType} {Ty : List Cond} {rm1 : Room} {As st0 : List Value} {post : Int32 → va_W → Prop} {Cn : String} {T : u_T} {N ci b : Nat} {w0 : va_W} (R : va_W) (hmem : ∃ fs, (b, .inr (ci, fs)) ∈ w0) (hcn : vwCl[ci]? = some (Cn, T, N)) (M : MI E y Ty rm1 w0 (.ref b :: As) post) (hperm : (w0 ++ R).Perm ws) (f : va_W → va_W) (hf : ∀ w1, (w1 ++ R).Perm (f w1)) (cf : CF y by1 nL1 (some ty) Ty n) (g : GoodIn Ts (wsV own index Cn y Ty)) (hcl : y.cls = Cn) (hF : Fit rm1 rm nL1) (hcs : kc ≤ rm.cells ∧ ks ≤ rm.slots) (hn : As.length = n) (hst : st0 = As.reverse ++ (.ref b :: st)) (hcat : (st.map fun v => v.category).sum ≤ 8) (d : decode cc pc = .ok (.invokevirtual index, 3)) (k : ∀ (r : Int32) (w1 : va_W), post r w1 → GN E x kc ks (f w1) lv (pc + 3) (.int r :: st)) : GN E x kc ks ws lv pc st0 := by
  obtain ⟨fs, hm⟩ := hmem
  obtain ⟨qr, he⟩ := List.getElem?_of_mem (hperm.mem_iff.mp (List.mem_append_left R hm))
  have M' := M.fr R ws hperm f hf
  obtain ⟨p, e, R9, s, m, args, below, meth, c, A, nL, Q⟩ := x
  obtain ⟨hx, hb, hml, hown, hts, hK, hE, hA, hlk, hR⟩ := C
  subst hR
  intro H locs ls hP hD hS hl hnL
  obtain ⟨⟨Ty', hw⟩, hd⟩ := cf
  subst hst
  have hFr := g_freeF hD hS hA
  refine va_calli (mc := 0) (ms := 0) (va_runV (As := As) (rest := st) ⟨hx, hb, hml, hown, hts⟩ (M' H.size) (cwV n hts g hw hF.1.1 hF.1.2 ⟨hcl, hd⟩ hF.2) ⟨mPc_blind, va_recv hK.1 hP hcn he, g_preF hK hE hP hD hS hFr⟩ rfl hn hl.1 rfl (lv_room hcat) d hcs) hS (fun q _ h => hFr q h) hFr (fun r u t H1 l1 ht hvm hp hB hz hk hS1 => ?_)
  have hB2 := hB
  obtain ⟨hP1, hD1⟩ := hB2
  rw [ht] at hP1
  obtain ⟨w1, hp1, rfl⟩ := hp
  exact k r w1 hp1 H1 l1 ls hP1 (hD1.weaken (fun _ q _ h => hFr q.1 h)) hS1 hl hnL
/-- a public constructor is called, on the cell that the world ends with -/
theorem n_initP (C : Ok E x cc own Ts rm) (hN9 : AOx x) {y : MethodName} {by1 : ByteArray} {nL1 index n1 mc ms b : Nat} {Ty Ty' : List Cond} {e9 : va_E} {pre : va_W} {post : va_W → Prop} (M : NV E y Ty n1 mc ms [(b, e9)] [.ref b] post) (hw : Ty = Cond.code y by1 nL1 none :: Ty') (hd : y.cls ≠ "java/lang/invoke/MethodHandle" ∧ y.cls ≠ "java/lang/invoke/VarHandle" ∧ (parseMethodDescriptor y.desc).map (fun d => d.parameters.length) = some 0) (g : GoodIn Ts Ty) (hini : Cond.initialized y.cls ∈ Ts) (hin9 : Cond.instanceMethod y ∈ Ts) (hy1 : y.name = "<init>") (hlk9 : Cond.methodLink own index y ∈ Ts) (hF : n1 + 1 ≤ rm.frames ∧ 8 + (nL1 + 11) + 32 * n1 ≤ rm.locals) (hcs : kc + mc ≤ rm.cells ∧ ks + ms ≤ rm.slots) (hws : ws = pre ++ [(b, e9)]) (hcat : (st.map fun v => v.category).sum ≤ 8) (d : decode cc pc = .ok (.invokespecial index, 3)) (k : ∀ w1 : va_W, post w1 → GN E x (kc + mc) (ks + ms) (pre ++ w1) lv (pc + 3) st) : GN E x kc ks ws lv pc (.ref b :: st) := by
  obtain ⟨p, e, R, s, m, args, below, meth, c, A, nL, Q⟩ := x
  obtain ⟨hx, hb, hml, hown, hts, hK, hE, hA, hlk, hR⟩ := C
  subst hR
  intro H locs ls hP hD hS hl hnL
  subst hws
  have hperm : ([(b, e9)] ++ pre).Perm (pre ++ [(b, e9)]) := List.perm_append_comm
  have hFr : ∀ q, va_A [(b, e9)] H.size q → A q := fun q hq => g_freeF hD hS hA q (A_sub (fr_in hperm) hq)
  have hpre : ∀ U : State, U.heap = H → s.WarmedH U.vm → mPn E [(b, e9)] H.size [.ref b] (#[.ref b] : Array Value) U := fun U hU hW => ⟨fr_pre hperm (g_preF hK hE hP hD hS (g_freeF hD hS hA) U hU hW), va_AO.moved hW.alike hN9⟩
  refine va_callv (mc := mc) (ms := ms) (va_runI (As := []) (rest := st) ⟨hx, hb, hml, hown, hts⟩ (M H.size) (cwI 0 hts g hw rfl rfl (hts _ hini) (hts _ hlk9) (hts _ hin9) hy1 hd hF) ⟨mPn_blind, hpre⟩ rfl rfl hl.1 rfl (lv_room hcat) d hcs) hS (fun q _ h => hFr q h) hFr (fun u t H1 l1 ht hvm hp hB hz hk hS1 => ?_)
  have hB2 := hB
  obtain ⟨hP1, hD1⟩ := hB2
  rw [ht] at hP1
  have hPL : va_P E.2.1 vwCl ([(b, e9)] ++ pre) H := P_perm hperm.symm hP
  have hDL : va_D A ([(b, e9)] ++ pre) := D_perm hperm.symm hD
  have apart : ∀ q ∈ pre, q.1 < H.size ∧ ¬ va_A [(b, e9)] H.size q.1 := by
    intro q hq
    obtain ⟨i9, hi9⟩ := List.getElem?_of_mem (List.mem_append.mpr (Or.inr hq : q ∈ [(b, e9)] ∨ q ∈ pre))
    have hlq := (hPL i9 q hi9).lt
    refine ⟨hlq, fun z => ?_⟩
    rcases z with ⟨i8, e8, hi8⟩ | z
    · exact D_apart hDL (List.mem_of_getElem? hi8) hq rfl
    · omega
  have hPR : va_P E.2.1 vwCl pre H1 := by
    intro i9 q hi9
    have hq := List.mem_of_getElem? hi9
    obtain ⟨g1, g2⟩ := apart q hq
    have h9 : va_P E.2.1 vwCl pre H := P_sub (fun q hq => List.mem_append.mpr (Or.inr hq)) hPL
    exact (h9 i9 q hi9).kept (hk q.1 g1 g2)
  have hDu : va_D A u := hD1.weaken (fun _ q _ hq => hFr q.1 hq)
  refine k u hp H1 l1 ls (va_P.app hPR hP1) (va_D.app (D_right hDL) hDu (fun i9 j9 p9 q9 hi9 hj9 hne => ?_)) hS1 hl hnL
  exact (apart p9 (List.mem_of_getElem? hi9)).2 (by rw [hne]; exact hD1.2 j9 q9 hj9)
end NL
theorem retL {l : Launch} {D : va_G} {e3 : Nat → Nat} {p : Program} {e : Env} {s : State} {m : MethodId} {below : List Frame} {meth : Method} {c : Code} {b : Nat} (hx : p.tables.exec = Jvm.exec) (hb : c.code = code) (hr : meth.sig.returnType = ret) (hlk : meth.locks = false) : RetL (l, D, e3) (p, e, room_1, s, m, #[Value.ref b], below, meth, c, (fun q => s.heap.size ≤ q), 5, lw_Z below #[Value.ref b] s) := by
  intro kc ks ws lv pc hc hs d H locs ls hP hD hS hl hnL
  exact W.widen hc hs (va_forget hS.2.2 (lw_ret hx hb hr hlk d))
theorem kW_hd {E : Ev} {x : Nat} {h : Nat → Nat} {a : Nat → Nat → Nat} {o r s : Nat} {sa : Nat → Nat} {κ : KSt} : ∃ fs, (x, Sum.inr (3, fs)) ∈ kW E x h a o r s sa κ := ⟨_, List.mem_cons_self⟩
theorem char_id (y : Int32) : vp_nar .char (y.toUInt32 % 65536).toInt32 = (y.toUInt32 % 65536).toInt32 := by
  show (((y.toUInt32 % 65536).toInt32).toUInt32 % 65536).toInt32 = _
  have e : ((y.toUInt32 % 65536).toInt32).toUInt32 = y.toUInt32 % 65536 := rfl
  rw [e]
  congr 1
  apply UInt32.toNat_inj.mp
  rw [UInt32.toNat_mod, UInt32.toNat_mod]
  exact Nat.mod_mod _ _
/-! the law's start: what the machine has -/
theorem arr_prim {args : Array Value} {s : State} {ty : FieldType} (h : (Cond.arrayClass ty).before args s = true) : ∃ c, s.vm.findClass ("[" ++ ty.toString) = some c ∧ ArrOfT s c ty := by
  obtain ⟨c, k, comp, h1, h2, h3⟩ := Cond.arrayClass_spec h
  exact ⟨c, h1, fun n z => ⟨fun k h => (by cases h), k, h2, comp, h3⟩⟩
theorem arr_sky {s : State} (h : va_AO "KiteRegisters$Sky" s) : ∃ c, va_RA s c (.object "KiteRegisters$Sky") ∧ ArrOfT s c (.object "KiteRegisters$Sky") := by
  obtain ⟨comp, c, k, h1, h2, h3, h4, h5⟩ := Cond.arrayOver_spec h
  exact ⟨c, ⟨k, comp, h3, h4, h1, h5⟩, fun n z => ⟨fun k h => (by cases h), k, h3, comp, h4⟩⟩
def e3F (cI cZ cC cS : Nat) (K V : Nat → Nat) : Nat → Nat
  | 0 => cI
  | 1 => cZ
  | 2 => cC
  | 3 => cS
  | k => if k < 20 then K (k - 10) else V (k - 20)
theorem vkS_cg {N : Nat} {len : List Nat} {byt : List (List Int32)} {k v k2 v2 : Nat → Nat} {A : Nat → Prop} {U : State} {H : Heap} (h : vk_S N len byt k v A U H) (hk : ∀ i, i < N → k2 i = k i) (hv : ∀ i, i < N → v2 i = v i) : vk_S N len byt k2 v2 A U H := by
  refine ⟨fun i hi => ?_, fun i j hi hj e => h.2 i j hi hj (by rw [← hk i hi, ← hk j hj]; exact e)⟩
  rw [hk i hi, hv i hi]
  exact h.1 i hi
