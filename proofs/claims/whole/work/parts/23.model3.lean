set_option maxHeartbeats 4000000 in
set_option maxRecDepth 100000 in
theorem c_X4_beats (E : Ev) (m : Nat) (b : Nat → Nat) (μ : MD) (n : Nat) (hn1 : n ≤ 100) (hb : hBt (mAl μ) n) : MV E yX4_beats wsX4_beats (rmD 3) (modW E m b μ) [.ref m, .int (nI n)] (fun w => w = modW E m b (xBeatN μ n)) := by
  have inX4 : ∀ w ∈ u_ws RX4 TX4 16, w ∈ wsX4_beats := by decide +kernel
  have f7 : Cond.fieldLink RX4 7 (TX4 0).1 (TX4 0).2.1 (TX4 0).2.2.1 ∈ wsX4_beats := by decide +kernel
  refine MV.of (cc := cX4_beats) (nL := 4) (own := RX4) [some (.ref m), some (.int (nI n)), none, none] (by decide +kernel) rfl rfl (Nat.le_of_ble_eq_true rfl) rfl rfl ?_
  intro x C R0
  have lp : ∀ (n9 i : Nat), n - i < n9 → i ≤ n → G E x (modW E m b (wAl μ (mBeatN (mAl μ) i))) [some (.ref m), some (.int (nI n)), some (.int (nI i)), none] 2 [] := by
    intro n9
    induction n9 with
    | zero => intro i h1; omega
    | succ n9 ih =>
      intro i hn hi
      refine g_iload_n C dX4_beats_2 rfl rfl ?_
      refine g_iload_n C dX4_beats_3 rfl rfl ?_
      refine g_icmp_ge C (tgt := 82) dX4_beats_4 (by decide) (fun hc_4 => ?_) (fun hc_4 => ?_)
      · have hn_4 : (n) ≤ (i) := (nI_leI (a := (n)) (b := (i)) (by omega) (by omega)).mp hc_4
        refine g_vret C R0 dX4_beats_82 ?_
        have en : i = n := by omega
        subst en
        exact rfl
      · have hn_4 : ¬ (n) ≤ (i) := fun z => hc_4 ((nI_leI (a := (n)) (b := (i)) (by omega) (by omega)).mpr z)
        have hlt : i < n := by omega
        have lp3 : ∀ (m9 u : Nat), 12 - u < m9 → u ≤ 12 → G E x (modW E m b (wAl μ (mEnd (mSkN (mBeatN (mAl μ) i) 4) u))) [some (.ref m), some (.int (nI n)), some (.int (nI i)), some (.int (nI u))] 27 [] := by
          intro m9
          induction m9 with
          | zero => intro u h1; omega
          | succ m9 ih3 =>
            intro u hm hu
            refine g_iload_n C dX4_beats_27 rfl rfl ?_
            refine g_bipush C (v := 12) dX4_beats_28 rfl ?_
            refine g_icmp_ge C (tgt := 49) dX4_beats_30 (by decide) (fun hc_30 => ?_) (fun hc_30 => ?_)
            · have hn_30 : (12) ≤ (u) := (nI_leI (a := (12)) (b := (u)) (by omega) (by omega)).mp hc_30
              have e4 : u = 12 := by omega
              subst e4
              obtain ⟨Z, hZ⟩ : ∃ z9, z9 = mEnd (mSkN (mBeatN (mAl μ) i) 4) 12 := ⟨_, rfl⟩
              rw [← hZ]
              refine g_aload_n C dX4_beats_49 rfl rfl ?_
              refine g_get C inX4 0 rfl rfl 0 (by decide) f7 rfl dX4_beats_50 ?_
              refine g_iconst C (v := 2) dX4_beats_53 rfl ?_
              refine g_aload_n C dX4_beats_54 rfl rfl ?_
              refine g_get C inX4 0 rfl rfl 0 (by decide) f7 rfl dX4_beats_55 ?_
              refine g_iconst C (v := 2) dX4_beats_58 rfl ?_
              refine g_ialdE C 1 rfl 2 (v := (gBe (wAl μ Z))) rfl (by decide) (Nat.le_of_ble_eq_true rfl) pk_Be dX4_beats_59 ?_
              refine g_iconst C (v := 1) dX4_beats_60 rfl ?_
              refine g_iadd C dX4_beats_61 ?_
              refine g_bipush C (v := 8) dX4_beats_62 rfl ?_
              refine g_irem C dX4_beats_64 (by decide) ?_
              refine g_iast C (ws' := (modW E m b (xBe (wAl μ Z) (((gBe (wAl μ Z)) + 1) - ((gBe (wAl μ Z)) + 1) / 8 * 8)))) 1 rfl 2 rfl (by decide) (Nat.le_of_ble_eq_true rfl) dX4_beats_65 (by rw [up_Be]; rfl) ?_
              refine g_aload_n C dX4_beats_66 rfl rfl ?_
              refine g_get C inX4 0 rfl rfl 0 (by decide) f7 rfl dX4_beats_67 ?_
              refine g_iconst C (v := 5) dX4_beats_70 rfl ?_
              refine g_dup2 C dX4_beats_71 rfl rfl ?_
              refine g_ialdE C 1 rfl 5 (v := (gBs (xBe (wAl μ Z) (((gBe (wAl μ Z)) + 1) - ((gBe (wAl μ Z)) + 1) / 8 * 8)))) rfl (by decide) (Nat.le_of_ble_eq_true rfl) pk_Bs dX4_beats_72 ?_
              refine g_iconst C (v := 1) dX4_beats_73 rfl ?_
              refine g_iadd C dX4_beats_74 ?_
              refine g_iast C (ws' := (modW E m b (xBs (xBe (wAl μ Z) (((gBe (wAl μ Z)) + 1) - ((gBe (wAl μ Z)) + 1) / 8 * 8)) ((gBs (xBe (wAl μ Z) (((gBe (wAl μ Z)) + 1) - ((gBe (wAl μ Z)) + 1) / 8 * 8))) + 1)))) 1 rfl 5 rfl (by decide) (Nat.le_of_ble_eq_true rfl) dX4_beats_75 (by rw [up_Bs]; rfl) ?_
              refine g_iinc C (v := (nI (i + 1))) dX4_beats_76 rfl rfl (nI_add (i) 1) ?_
              refine g_goto C (tgt := 2) dX4_beats_79 (by decide) ?_
              rw [show (xBs (xBe (wAl μ Z) (((gBe (wAl μ Z)) + 1) - ((gBe (wAl μ Z)) + 1) / 8 * 8)) ((gBs (xBe (wAl μ Z) (((gBe (wAl μ Z)) + 1) - ((gBe (wAl μ Z)) + 1) / 8 * 8))) + 1)) = wAl μ (mBeatN (mAl μ) (i + 1)) from by rw [mBeatN, mBeat1, ← hZ]; rfl]
              exact g_drop 3 (ih (i + 1) (by omega) (by omega))
            · have hn_30 : ¬ (12) ≤ (u) := fun z => hc_30 ((nI_leI (a := (12)) (b := (u)) (by omega) (by omega)).mpr z)
              refine g_aload_n C dX4_beats_33 rfl rfl ?_
              refine g_get C inX4 0 rfl rfl 0 (by decide) f7 rfl dX4_beats_34 ?_
              refine g_bipush C (v := 54) dX4_beats_37 rfl ?_
              refine g_iload_n C dX4_beats_39 rfl rfl ?_
              refine g_iadd C dX4_beats_40 ?_
              refine g_iconst C (v := 0) dX4_beats_41 rfl ?_
              refine g_iast C (ws' := (modW E m b (xFr (wAl μ (mEnd (mSkN (mBeatN (mAl μ) i) 4) u)) (u) 0))) 1 rfl (54 + u) (nI_add 54 (u)) (by omega) (Nat.le_of_ble_eq_true rfl) dX4_beats_42 (by rw [up_Fr (by omega)]; rfl) ?_
              refine g_iinc C (v := (nI (u + 1))) dX4_beats_43 rfl rfl (nI_add (u) 1) ?_
              refine g_goto C (tgt := 27) dX4_beats_46 (by decide) ?_
              exact ih3 (u + 1) (by omega) (by omega)
        have lp2 : ∀ (m9 u : Nat), 4 - u < m9 → u ≤ 4 → G E x (modW E m b (wAl μ (mSkN (mBeatN (mAl μ) i) u))) [some (.ref m), some (.int (nI n)), some (.int (nI i)), some (.int (nI u))] 9 [] := by
          intro m9
          induction m9 with
          | zero => intro u h1; omega
          | succ m9 ih2 =>
            intro u hm hu
            refine g_iload_n C dX4_beats_9 rfl rfl ?_
            refine g_iconst C (v := 4) dX4_beats_10 rfl ?_
            refine g_icmp_ge C (tgt := 25) dX4_beats_11 (by decide) (fun hc_11 => ?_) (fun hc_11 => ?_)
            · have hn_11 : (4) ≤ (u) := (nI_leI (a := (4)) (b := (u)) (by omega) (by omega)).mp hc_11
              refine g_iconst C (v := 0) dX4_beats_25 rfl ?_
              refine g_istore_n C dX4_beats_26 rfl (Nat.le_of_ble_eq_true rfl) rfl ?_
              have e4 : u = 4 := by omega
              subst e4
              exact lp3 13 0 (by omega) (by omega)
            · have hn_11 : ¬ (4) ≤ (u) := fun z => hc_11 ((nI_leI (a := (4)) (b := (u)) (by omega) (by omega)).mpr z)
              refine g_aload_n C dX4_beats_14 rfl rfl ?_
              refine g_iload_n C dX4_beats_15 rfl rfl ?_
              refine g_callvVF C 0 rfl rfl (c_X4_sinks E m b (wAl μ (mSkN (mBeatN (mAl μ) i) u)) _ (hb i (by omega) u (by omega))) cf_X4_sinks gX4_beats_X4_sinks rfl (fitD (Nat.le_of_ble_eq_true rfl) (Nat.le_of_ble_eq_true rfl)) rfl rfl (Nat.le_of_ble_eq_true rfl) dX4_beats_16 (fun w1 hp => ?_)
              obtain rfl := hp
              refine g_iinc C (v := (nI (u + 1))) dX4_beats_19 rfl rfl (nI_add (u) 1) ?_
              refine g_goto C (tgt := 9) dX4_beats_22 (by decide) ?_
              exact ih2 (u + 1) (by omega) (by omega)
        refine g_iconst C (v := 0) dX4_beats_7 rfl ?_
        refine g_istore_n C dX4_beats_8 rfl (Nat.le_of_ble_eq_true rfl) rfl ?_
        exact lp2 5 0 (by omega) (by omega)
  refine g_iconst C (v := 0) dX4_beats_0 rfl ?_
  refine g_istore_n C dX4_beats_1 rfl (Nat.le_of_ble_eq_true rfl) rfl ?_
  exact lp (n + 1) 0 (by omega) (by omega)
def mixF (f g : F) (i : Nat) : F := fun k => if k < i then f k else g k
theorem mix_up {f g : F} {i : Nat} : upd (mixF f g i) i (f i) = mixF f g (i + 1) := by
  funext k
  by_cases e : k = i
  · subst e; rw [pk_us]; unfold mixF; rw [if_pos (by omega)]
  · rw [pk_un e]; unfold mixF
    by_cases h : k < i
    · rw [if_pos h, if_pos (by omega)]
    · rw [if_neg h, if_neg (by omega)]
theorem mix_0 {f g : F} : mixF f g 0 = g := by
  funext k; unfold mixF; rw [if_neg (by omega)]
theorem set_same {l : va_W} {i : Nat} {a : Nat × va_E} (h : l[i]? = some a) : l.set i a = l := by
  apply List.ext_getElem?
  intro k
  rw [List.getElem?_set]
  by_cases e : i = k
  · subst e
    rw [if_pos rfl, if_pos (List.getElem?_eq_some_iff.mp h).1, h]
  · rw [if_neg e]
theorem set_cf {W : va_W} {i a n : Nat} {cA : ClassId} {f g : Nat → Int32} (h : f = g) : W.set i (a, (Sum.inl (cA, n, Sum.inl f) : va_E)) = W.set i (a, (Sum.inl (cA, n, Sum.inl g) : va_E)) := by rw [h]
theorem wEq_set : ∀ {l : va_W} {i a : Nat} {e e' : va_E}, cEq e e' → wEq (l.set i (a, e)) (l.set i (a, e'))
  | [], _, _, _, _, _ => trivial
  | (_, _) :: l, 0, _, _, _, h => ⟨rfl, h, wEq_rfl l⟩
  | (_, _) :: l, i + 1, _, _, _, h => ⟨rfl, Or.inl rfl, wEq_set h⟩
set_option maxHeartbeats 4000000 in
set_option maxRecDepth 100000 in
theorem c_X4_copy (E : Ev) (W : va_W) (i1 i2 p q : Nat) (f g : F) (h1 : W[i1]? = some (p, .inl (E.2.2 0, 92, .inl f))) (h2 : W[i2]? = some (q, .inl (E.2.2 0, 92, .inl g))) (hne : i2 ≠ i1) : MV E yX4_copy wsX4_copy (rmD 0) W [.ref p, .ref q] (fun w => w = W.set i2 (q, .inl (E.2.2 0, 92, .inl f))) := by
  refine MV.of (cc := cX4_copy) (nL := 3) (own := RX4) [some (.ref p), some (.ref q), none] (by decide +kernel) rfl rfl (Nat.le_of_ble_eq_true rfl) rfl rfl ?_
  intro x C R0
  have hlt := (List.getElem?_eq_some_iff.mp h2).1
  have k1 : ∀ (i : Nat), (W.set i2 (q, .inl (E.2.2 0, 92, .inl (mixF f g i))))[i1]? = some (p, .inl (E.2.2 0, 92, .inl f)) := fun i => by rw [List.getElem?_set_ne hne]; exact h1
  have k2 : ∀ (i : Nat), (W.set i2 (q, .inl (E.2.2 0, 92, .inl (mixF f g i))))[i2]? = some (q, .inl (E.2.2 0, 92, .inl (mixF f g i))) := fun i => by rw [List.getElem?_set_self hlt]
  have lp : ∀ (n i : Nat), 92 - i < n → i ≤ 92 → G E x (W.set i2 (q, .inl (E.2.2 0, 92, .inl (mixF f g i)))) [some (.ref p), some (.ref q), some (.int (nI i))] 2 [] := by
    intro n
    induction n with
    | zero => intro i h1; omega
    | succ n ih =>
      intro i hn hi
      refine g_iload_n C dX4_copy_2 rfl rfl ?_
      refine g_bipush C (v := 92) dX4_copy_3 rfl ?_
      refine g_icmp_ge C (tgt := 20) dX4_copy_5 (by decide) (fun hc_5 => ?_) (fun hc_5 => ?_)
      · have hn_5 : 92 ≤ i := (nI_leI (a := 92) (b := i) (by omega) (by omega)).mp hc_5
        refine g_wext (wEq_set (Or.inr ⟨_, _, _, f, rfl, rfl, fun j hj => ?_⟩)) ?_
        · unfold mixF; rw [if_pos (by omega)]
        · exact g_vret C R0 dX4_copy_20 rfl
      · have hn_5 : ¬ 92 ≤ i := fun z => hc_5 ((nI_leI (a := 92) (b := i) (by omega) (by omega)).mpr z)
        refine g_aload_n C dX4_copy_8 rfl rfl ?_
        refine g_iload_n C dX4_copy_9 rfl rfl ?_
        refine g_aload_n C dX4_copy_10 rfl rfl ?_
        refine g_iload_n C dX4_copy_11 rfl rfl ?_
        refine g_iald C i1 (k1 i) i rfl (by omega) (Nat.le_of_ble_eq_true rfl) dX4_copy_12 ?_
        refine g_iast C i2 (k2 i) i rfl (by omega) (Nat.le_of_ble_eq_true rfl) dX4_copy_13 (by rw [List.set_set, mix_up]) ?_
        refine g_iinc C (v := (nI (i + 1))) dX4_copy_14 rfl rfl (nI_add (i) 1) ?_
        refine g_goto C (tgt := 2) dX4_copy_17 (by decide) ?_
        exact ih (i + 1) (by omega) (by omega)
  refine g_iconst C (v := 0) dX4_copy_0 rfl ?_
  refine g_istore_n C dX4_copy_1 rfl (Nat.le_of_ble_eq_true rfl) rfl ?_
  refine g_eq (ws' := W.set i2 (q, .inl (E.2.2 0, 92, .inl (mixF f g 0)))) (by rw [mix_0, set_same h2]) rfl rfl ?_
  exact lp 93 0 (by omega) (by omega)
set_option maxHeartbeats 4000000 in
set_option maxRecDepth 100000 in
theorem c_X4_remember (E : Ev) (m : Nat) (b : Nat → Nat) (μ : MD) : MV E yX4_remember wsX4_remember (rmD 1) (modW E m b μ) [.ref m] (fun w => w = modW E m b (xKee μ)) := by
  have inX4 : ∀ w ∈ u_ws RX4 TX4 16, w ∈ wsX4_remember := by decide +kernel
  have f7 : Cond.fieldLink RX4 7 (TX4 0).1 (TX4 0).2.1 (TX4 0).2.2.1 ∈ wsX4_remember := by decide +kernel
  have f13 : Cond.fieldLink RX4 13 (TX4 1).1 (TX4 1).2.1 (TX4 1).2.2.1 ∈ wsX4_remember := by decide +kernel
  refine MV.of (cc := cX4_remember) (nL := 1) (own := RX4) [some (.ref m)] (by decide +kernel) rfl rfl (Nat.le_of_ble_eq_true rfl) rfl rfl ?_
  intro x C R0
  refine g_aload_n C dX4_remember_0 rfl rfl ?_
  refine g_get C inX4 0 rfl rfl 0 (by decide) f7 rfl dX4_remember_1 ?_
  refine g_aload_n C dX4_remember_4 rfl rfl ?_
  refine g_get C inX4 0 rfl rfl 1 (by decide) f13 rfl dX4_remember_5 ?_
  refine g_callvSF C (c_X4_copy E _ 1 2 _ _ _ _ rfl rfl (by decide)) cf_X4_copy gX4_remember_X4_copy rfl (fitD (Nat.le_of_ble_eq_true rfl) (Nat.le_of_ble_eq_true rfl)) rfl rfl (Nat.le_of_ble_eq_true rfl) dX4_remember_8 (fun w1 hp => ?_)
  have hp : w1 = (modW E m b (wKe μ (mAl μ))) := hp
  subst hp
  refine g_vret C R0 dX4_remember_11 ?_
  exact rfl
def shI (hi : Nat → MS) (i : Nat) : F := fun q => if q < i then pkH hi (q + 92) else pkH hi q
theorem sh_up {hi : Nat → MS} {i : Nat} : upd (shI hi i) i (shI hi i (i + 92)) = shI hi (i + 1) := by
  funext k
  by_cases e : k = i
  · subst e; rw [pk_us]; unfold shI; rw [if_neg (by omega), if_pos (by omega)]
  · rw [pk_un e]; unfold shI
    by_cases h : k < i
    · rw [if_pos h, if_pos (by omega)]
    · rw [if_neg h, if_neg (by omega)]
theorem sh_0 {hi : Nat → MS} : shI hi 0 = pkH hi := by
  funext k; unfold shI; rw [if_neg (by omega)]
def ptI (f g : F) (n i : Nat) : F := fun q => if 92 * n ≤ q ∧ q < 92 * n + i then g (q - 92 * n) else f q
theorem pt_up {f g : F} {n i : Nat} : upd (ptI f g n i) (92 * n + i) (g i) = ptI f g n (i + 1) := by
  funext k
  by_cases e : k = 92 * n + i
  · subst e; rw [pk_us]; unfold ptI; rw [if_pos (by omega)]; congr 1; omega
  · rw [pk_un e]; unfold ptI
    by_cases h : 92 * n ≤ k ∧ k < 92 * n + i
    · rw [if_pos h, if_pos (by omega)]
    · rw [if_neg h, if_neg (by omega)]
theorem pt_0 {f g : F} {n : Nat} : ptI f g n 0 = f := by
  funext k; unfold ptI; rw [if_neg (by omega)]
theorem ac_ext4 {hi : Nat → MS} {ke : MS} : ∀ q, q < 368 → ptI (shI hi 276) (pk ke) 3 92 q = pkH (fun i => if i = 3 then ke else hi (i + 1)) q := by
  intro q hq
  unfold ptI shI pkH
  by_cases h : q < 276
  · rw [if_neg (by omega), if_pos h]
    dsimp only
    rw [if_neg (by omega), show (q + 92) / 92 = q / 92 + 1 from by omega, show (q + 92) % 92 = q % 92 from by omega]
  · rw [if_pos (by omega)]
    dsimp only
    rw [if_pos (by omega), show q - 92 * 3 = q % 92 from by omega]
theorem ac_ext {hi : Nat → MS} {ke : MS} {n : Nat} (hn : n < 4) : ∀ q, q < 368 → ptI (pkH hi) (pk ke) n 92 q = pkH (fun i => if i = n then ke else hi i) q := by
  intro q hq
  unfold ptI pkH
  dsimp only
  by_cases h : q / 92 = n
  · rw [if_pos (by omega), if_pos h, show q - 92 * n = q % 92 from by omega]
  · rw [if_neg (by omega), if_neg h]
set_option maxHeartbeats 4000000 in
set_option maxRecDepth 100000 in
theorem c_X4_acted (E : Ev) (m : Nat) (b : Nat → Nat) (μ : MD) (nh : Nat) (hnh : nh ≤ 4) (hHL : mHL μ = nI nh) (r : Int32) : MI E yX4_acted wsX4_acted (rmD 0) (modW E m b μ) [.ref m, .int r] (pM E m b (r, xAct μ nh)) := by
  have inX4 : ∀ w ∈ u_ws RX4 TX4 16, w ∈ wsX4_acted := by decide +kernel
  have f39 : Cond.fieldLink RX4 39 (TX4 4).1 (TX4 4).2.1 (TX4 4).2.2.1 ∈ wsX4_acted := by decide +kernel
  have f19 : Cond.fieldLink RX4 19 (TX4 3).1 (TX4 3).2.1 (TX4 3).2.2.1 ∈ wsX4_acted := by decide +kernel
  have f13 : Cond.fieldLink RX4 13 (TX4 1).1 (TX4 1).2.1 (TX4 1).2.2.1 ∈ wsX4_acted := by decide +kernel
  refine MI.of (cc := cX4_acted) (nL := 3) (ty := .int) (own := RX4) [some (.ref m), some (.int r), none] (by decide +kernel) rfl rfl (Nat.le_of_ble_eq_true rfl) rfl rfl ?_
  intro x C R0
  by_cases h4 : nh = 4
  · subst h4
    have lpb : ∀ (n9 i : Nat), 92 - i < n9 → i ≤ 92 → G E x ((modW E m b (wHL μ 3)).set 4 (b 3, .inl (E.2.2 0, 368, .inl (ptI (shI (mHi μ) 276) (pk (mKe μ)) 3 i)))) [some (.ref m), some (.int r), some (.int (nI i))] 50 [] := by
      intro n9
      induction n9 with
      | zero => intro i h1; omega
      | succ n9 ih2 =>
        intro i hn hi
        refine g_iload_n C dX4_acted_50 rfl rfl ?_
        refine g_bipush C (v := 92) dX4_acted_51 rfl ?_
        refine g_icmp_ge C (tgt := 82) dX4_acted_53 (by decide) (fun hc_53 => ?_) (fun hc_53 => ?_)
        · have hn_53 : (92) ≤ (i) := (nI_leI (a := (92)) (b := (i)) (by omega) (by omega)).mp hc_53
          have e92 : i = 92 := by omega
          subst e92
          refine g_wext (wEq_set (Or.inr ⟨_, _, _, pkH (fun i => if i = 3 then mKe μ else mHi μ (i + 1)), rfl, rfl, ac_ext4⟩)) ?_
          refine g_eq (ws' := modW E m b (wHi (wHL μ 3) (fun i => if i = 3 then mKe μ else mHi μ (i + 1)))) rfl rfl rfl ?_
          refine g_aload_n C dX4_acted_82 rfl rfl ?_
          refine g_dup C dX4_acted_83 rfl ?_
          refine g_get C inX4 0 rfl rfl 4 (by decide) f39 rfl dX4_acted_84 ?_
          refine g_iconst C (v := 1) dX4_acted_87 rfl ?_
          refine g_iadd C dX4_acted_88 ?_
          refine g_put C (ws' := (modW E m b (wHL (wHi (wHL μ 3) (fun i => if i = 3 then mKe μ else mHi μ (i + 1))) ((mHL (wHi (wHL μ 3) (fun i => if i = 3 then mKe μ else mHi μ (i + 1)))) + 1)))) inX4 (ty := .int) tyX4 tyX4_ok nmX4 0 rfl rfl 4 (by decide) f39 rfl (by decide +kernel) rfl rfl (Nat.le_of_ble_eq_true rfl) dX4_acted_89 rfl ?_
          refine g_iload_n C dX4_acted_92 rfl rfl ?_
          refine g_iret C R0 dX4_acted_93 ?_
          refine pM_mk (μ := (wHL (wHi (wHL μ 3) (fun i => if i = 3 then mKe μ else mHi μ (i + 1))) ((mHL (wHi (wHL μ 3) (fun i => if i = 3 then mKe μ else mHi μ (i + 1)))) + 1))) ?_ rfl
          rw [xAct, if_pos rfl]; rfl
        · have hn_53 : ¬ (92) ≤ (i) := fun z => hc_53 ((nI_leI (a := (92)) (b := (i)) (by omega) (by omega)).mpr z)
          refine g_aload_n C dX4_acted_56 rfl rfl ?_
          refine g_get C inX4 0 rfl rfl 3 (by decide) f19 rfl dX4_acted_57 ?_
          refine g_bipush C (v := 92) dX4_acted_60 rfl ?_
          refine g_aload_n C dX4_acted_62 rfl rfl ?_
          refine g_get C inX4 0 rfl rfl 4 (by decide) f39 rfl dX4_acted_63 ?_
          refine g_imul C dX4_acted_66 ?_
          refine g_iload_n C dX4_acted_67 rfl rfl ?_
          refine g_iadd C dX4_acted_68 ?_
          refine g_aload_n C dX4_acted_69 rfl rfl ?_
          refine g_get C inX4 0 rfl rfl 1 (by decide) f13 rfl dX4_acted_70 ?_
          refine g_iload_n C dX4_acted_73 rfl rfl ?_
          refine g_iald C 2 rfl (i) rfl (by omega) (Nat.le_of_ble_eq_true rfl) dX4_acted_74 ?_
          refine g_iast C (ws' := ((modW E m b (wHL μ 3)).set 4 (b 3, .inl (E.2.2 0, 368, .inl (ptI (shI (mHi μ) 276) (pk (mKe μ)) 3 (i + 1)))))) 4 rfl (92 * 3 + i) (by rw [show mHL (wHL μ 3) = nI 3 from rfl]; exact (by rw [show (92 : Int32) = nI 92 from rfl, pk_mul, nI_add] : (92 : Int32) * nI 3 + nI i = nI (92 * 3 + i))) (by omega) (Nat.le_of_ble_eq_true rfl) dX4_acted_75 (by rw [List.set_set]; exact set_cf pt_up) ?_
          refine g_iinc C (v := (nI (i + 1))) dX4_acted_76 rfl rfl (nI_add (i) 1) ?_
          refine g_goto C (tgt := 50) dX4_acted_79 (by decide) ?_
          exact ih2 (i + 1) (by omega) (by omega)
    have lpa : ∀ (n9 i : Nat), 276 - i < n9 → i ≤ 276 → G E x ((modW E m b μ).set 4 (b 3, .inl (E.2.2 0, 368, .inl (shI (mHi μ) i)))) [some (.ref m), some (.int r), some (.int (nI i))] 10 [] := by
      intro n9
      induction n9 with
      | zero => intro i h1; omega
      | succ n9 ih =>
        intro i hn hi
        refine g_iload_n C dX4_acted_10 rfl rfl ?_
        refine g_sipush C (v := 276) dX4_acted_11 rfl ?_
        refine g_icmp_ge C (tgt := 38) dX4_acted_14 (by decide) (fun hc_14 => ?_) (fun hc_14 => ?_)
        · have hn_14 : (276) ≤ (i) := (nI_leI (a := (276)) (b := (i)) (by omega) (by omega)).mp hc_14
          have e276 : i = 276 := by omega
          subst e276
          refine g_aload_n C dX4_acted_38 rfl rfl ?_
          refine g_dup C dX4_acted_39 rfl ?_
          refine g_get C inX4 0 rfl rfl 4 (by decide) f39 rfl dX4_acted_40 ?_
          refine g_iconst C (v := 1) dX4_acted_43 rfl ?_
          refine g_isub C dX4_acted_44 ?_
          rw [show ((mHL μ) - 1) = 3 from by rw [hHL] <;> rfl]
          refine g_put C (ws' := ((modW E m b (wHL μ 3)).set 4 (b 3, .inl (E.2.2 0, 368, .inl (shI (mHi μ) 276))))) inX4 (ty := .int) tyX4 tyX4_ok nmX4 0 rfl rfl 4 (by decide) f39 rfl (by decide +kernel) rfl rfl (Nat.le_of_ble_eq_true rfl) dX4_acted_45 rfl ?_
          refine g_iconst C (v := 0) dX4_acted_48 rfl ?_
          refine g_istore_n C dX4_acted_49 rfl (Nat.le_of_ble_eq_true rfl) rfl ?_
          refine g_eq (ws' := ((modW E m b (wHL μ 3)).set 4 (b 3, .inl (E.2.2 0, 368, .inl (ptI (shI (mHi μ) 276) (pk (mKe μ)) 3 0))))) (by rw [pt_0] <;> rfl) rfl rfl ?_
          exact lpb 93 0 (by omega) (by omega)
        · have hn_14 : ¬ (276) ≤ (i) := fun z => hc_14 ((nI_leI (a := (276)) (b := (i)) (by omega) (by omega)).mpr z)
          refine g_aload_n C dX4_acted_17 rfl rfl ?_
          refine g_get C inX4 0 rfl rfl 3 (by decide) f19 rfl dX4_acted_18 ?_
          refine g_iload_n C dX4_acted_21 rfl rfl ?_
          refine g_aload_n C dX4_acted_22 rfl rfl ?_
          refine g_get C inX4 0 rfl rfl 3 (by decide) f19 rfl dX4_acted_23 ?_
          refine g_iload_n C dX4_acted_26 rfl rfl ?_
          refine g_bipush C (v := 92) dX4_acted_27 rfl ?_
          refine g_iadd C dX4_acted_29 ?_
          refine g_iald C 4 rfl ((i + 92)) (nI_add (i) (92)) (by omega) (Nat.le_of_ble_eq_true rfl) dX4_acted_30 ?_
          refine g_iast C (ws' := ((modW E m b μ).set 4 (b 3, .inl (E.2.2 0, 368, .inl (shI (mHi μ) (i + 1)))))) 4 rfl (i) rfl (by omega) (Nat.le_of_ble_eq_true rfl) dX4_acted_31 (by rw [List.set_set]; exact set_cf sh_up) ?_
          refine g_iinc C (v := (nI (i + 1))) dX4_acted_32 rfl rfl (nI_add (i) 1) ?_
          refine g_goto C (tgt := 10) dX4_acted_35 (by decide) ?_
          exact ih (i + 1) (by omega) (by omega)
    refine g_aload_n C dX4_acted_0 rfl rfl ?_
    refine g_get C inX4 0 rfl rfl 4 (by decide) f39 rfl dX4_acted_1 ?_
    refine g_iconst C (v := 4) dX4_acted_4 rfl ?_
    refine g_icmp_ne_f C dX4_acted_5 48 (by decide) hHL ?_
    refine g_iconst C (v := 0) dX4_acted_8 rfl ?_
    refine g_istore_n C dX4_acted_9 rfl (Nat.le_of_ble_eq_true rfl) rfl ?_
    refine g_eq (ws' := ((modW E m b μ).set 4 (b 3, .inl (E.2.2 0, 368, .inl (shI (mHi μ) 0))))) (by rw [sh_0] <;> rfl) rfl rfl ?_
    exact lpa 277 0 (by omega) (by omega)
  · have hne : ¬ mHL μ = 4 := fun z => h4 ((nI_eq (a := nh) (b := 4) (by omega) (by omega)).mp (hHL.symm.trans z))
    have lpb : ∀ (n9 i : Nat), 92 - i < n9 → i ≤ 92 → G E x ((modW E m b μ).set 4 (b 3, .inl (E.2.2 0, 368, .inl (ptI (pkH (mHi μ)) (pk (mKe μ)) nh i)))) [some (.ref m), some (.int r), some (.int (nI i))] 50 [] := by
      intro n9
      induction n9 with
      | zero => intro i h1; omega
      | succ n9 ih2 =>
        intro i hn hi
        refine g_iload_n C dX4_acted_50 rfl rfl ?_
        refine g_bipush C (v := 92) dX4_acted_51 rfl ?_
        refine g_icmp_ge C (tgt := 82) dX4_acted_53 (by decide) (fun hc_53 => ?_) (fun hc_53 => ?_)
        · have hn_53 : (92) ≤ (i) := (nI_leI (a := (92)) (b := (i)) (by omega) (by omega)).mp hc_53
          have e92 : i = 92 := by omega
          subst e92
          refine g_wext (wEq_set (Or.inr ⟨_, _, _, pkH (fun i => if i = nh then mKe μ else mHi μ i), rfl, rfl, ac_ext (by omega)⟩)) ?_
          refine g_eq (ws' := modW E m b (wHi μ (fun i => if i = nh then mKe μ else mHi μ i))) rfl rfl rfl ?_
          refine g_aload_n C dX4_acted_82 rfl rfl ?_
          refine g_dup C dX4_acted_83 rfl ?_
          refine g_get C inX4 0 rfl rfl 4 (by decide) f39 rfl dX4_acted_84 ?_
          refine g_iconst C (v := 1) dX4_acted_87 rfl ?_
          refine g_iadd C dX4_acted_88 ?_
          refine g_put C (ws' := (modW E m b (wHL (wHi μ (fun i => if i = nh then mKe μ else mHi μ i)) ((mHL (wHi μ (fun i => if i = nh then mKe μ else mHi μ i))) + 1)))) inX4 (ty := .int) tyX4 tyX4_ok nmX4 0 rfl rfl 4 (by decide) f39 rfl (by decide +kernel) rfl rfl (Nat.le_of_ble_eq_true rfl) dX4_acted_89 rfl ?_
          refine g_iload_n C dX4_acted_92 rfl rfl ?_
          refine g_iret C R0 dX4_acted_93 ?_
          refine pM_mk (μ := (wHL (wHi μ (fun i => if i = nh then mKe μ else mHi μ i)) ((mHL (wHi μ (fun i => if i = nh then mKe μ else mHi μ i))) + 1))) ?_ rfl
          rw [xAct, if_neg h4]
          exact congrArg (fun z => (r, wHL _ z)) (show nI (nh + 1) = mHL μ + 1 from by rw [hHL]; exact (nI_add nh 1).symm)
        · have hn_53 : ¬ (92) ≤ (i) := fun z => hc_53 ((nI_leI (a := (92)) (b := (i)) (by omega) (by omega)).mpr z)
          refine g_aload_n C dX4_acted_56 rfl rfl ?_
          refine g_get C inX4 0 rfl rfl 3 (by decide) f19 rfl dX4_acted_57 ?_
          refine g_bipush C (v := 92) dX4_acted_60 rfl ?_
          refine g_aload_n C dX4_acted_62 rfl rfl ?_
          refine g_get C inX4 0 rfl rfl 4 (by decide) f39 rfl dX4_acted_63 ?_
          refine g_imul C dX4_acted_66 ?_
          refine g_iload_n C dX4_acted_67 rfl rfl ?_
          refine g_iadd C dX4_acted_68 ?_
          refine g_aload_n C dX4_acted_69 rfl rfl ?_
          refine g_get C inX4 0 rfl rfl 1 (by decide) f13 rfl dX4_acted_70 ?_
          refine g_iload_n C dX4_acted_73 rfl rfl ?_
          refine g_iald C 2 rfl (i) rfl (by omega) (Nat.le_of_ble_eq_true rfl) dX4_acted_74 ?_
          refine g_iast C (ws' := ((modW E m b μ).set 4 (b 3, .inl (E.2.2 0, 368, .inl (ptI (pkH (mHi μ)) (pk (mKe μ)) nh (i + 1)))))) 4 rfl (92 * nh + i) (by rw [hHL]; exact (by rw [show (92 : Int32) = nI 92 from rfl, pk_mul, nI_add] : (92 : Int32) * nI nh + nI i = nI (92 * nh + i))) (by omega) (Nat.le_of_ble_eq_true rfl) dX4_acted_75 (by rw [List.set_set]; exact set_cf pt_up) ?_
          refine g_iinc C (v := (nI (i + 1))) dX4_acted_76 rfl rfl (nI_add (i) 1) ?_
          refine g_goto C (tgt := 50) dX4_acted_79 (by decide) ?_
          exact ih2 (i + 1) (by omega) (by omega)
    refine g_aload_n C dX4_acted_0 rfl rfl ?_
    refine g_get C inX4 0 rfl rfl 4 (by decide) f39 rfl dX4_acted_1 ?_
    refine g_iconst C (v := 4) dX4_acted_4 rfl ?_
    refine g_icmp_ne_t C dX4_acted_5 (tgt := 48) (by decide) hne ?_
    refine g_iconst C (v := 0) dX4_acted_48 rfl ?_
    refine g_istore_n C dX4_acted_49 rfl (Nat.le_of_ble_eq_true rfl) rfl ?_
    refine g_eq (ws' := ((modW E m b μ).set 4 (b 3, .inl (E.2.2 0, 368, .inl (ptI (pkH (mHi μ)) (pk (mKe μ)) nh 0))))) (by rw [pt_0] <;> rfl) rfl rfl ?_
    exact lpb 93 0 (by omega) (by omega)
