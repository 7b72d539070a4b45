/-! PURE: the second set: each string one farther around, each number of the other sign -/
def tSt (st : F) : F := fun k => thr (st k)
def tNu (nu : F) : F := fun k => -(nu k)
def tCf (cf : F) : F := fun i => if i = 0 then cf 3 else if i < 4 then cf (i - 1) else cf i
def turn (σ : Sky) : Sky := (tNu (sNu σ), tSt (sSt σ), sHt σ, sFr σ, sRe σ, sCu σ, sWi σ, tCf (sCf σ), sBs σ, sRs σ, sCh σ, sSi σ)
theorem q4 {q : Nat} (h : q < 4) : q = 0 ∨ q = 1 ∨ q = 2 ∨ q = 3 := by omega
theorem thr_v {q : Nat} (h : q < 4) : thr (nI q) = nI ((q + 1) % 4) := by
  rcases q4 h with rfl | rfl | rfl | rfl <;> decide
theorem thr_m1 : thr (-1) = -1 := by decide
theorem behi_q {q : Nat} (h : q < 4) : behi (nI q) = nI ((q + 1) % 4) := by
  rcases q4 h with rfl | rfl | rfl | rfl <;> decide
theorem thr_vs {s : Int32} (hs : vs4 s) : vs4 (thr s) := by
  obtain ⟨q, hq, rfl⟩ := hs
  rw [thr_v hq]
  exact ⟨_, Nat.mod_lt _ (by omega), rfl⟩
theorem thr_behi {s : Int32} (hs : vs4 s) : behi (thr s) = thr (behi s) := by
  obtain ⟨q, hq, rfl⟩ := hs
  rcases q4 hq with rfl | rfl | rfl | rfl <;> decide
theorem thr_inj {s t : Int32} (hs : s = -1 ∨ vs4 s) (ht : t = -1 ∨ vs4 t) : thr s = thr t ↔ s = t := by
  refine ⟨fun e => ?_, fun e => by rw [e]⟩
  rcases hs with rfl | ⟨q, hq, rfl⟩ <;> rcases ht with rfl | ⟨p, hp, rfl⟩
  · rfl
  · rw [thr_m1, thr_v hp] at e
    exact absurd e.symm (nI_nm1 (by omega))
  · rw [thr_m1, thr_v hq] at e
    exact absurd e (nI_nm1 (by omega))
  · rw [thr_v hq, thr_v hp, nI_eq (by omega) (by omega)] at e
    rw [show q = p from by omega]
theorem t_eq {st : F} (h : okSt st) {s : Int32} (hs : vs4 s) (k : Nat) : tSt st k = thr s ↔ st k = s := thr_inj (h k) (Or.inr hs)
theorem t_m1 {st : F} (h : okSt st) (k : Nat) : tSt st k = -1 ↔ st k = -1 := by
  have := thr_inj (h k) (Or.inl (rfl : (-1 : Int32) = -1))
  rw [thr_m1] at this
  exact this
theorem okSt_t {st : F} (h : okSt st) : okSt (tSt st) := fun k => by
  rcases h k with e | ⟨q, hq, e⟩
  · exact Or.inl ((t_m1 h k).mpr e)
  · refine Or.inr ⟨(q + 1) % 4, Nat.mod_lt _ (by omega), ?_⟩
    show thr (st k) = _
    rw [e, thr_v hq]
section TU
variable {st ht : F}
theorem tk_t (h : okSt st) {s : Int32} (hs : vs4 s) {t : Int32} : tk (tSt st) ht (thr s) t = tk st ht s t := by
  rw [Bool.eq_iff_iff, tk_iff, tk_iff]
  exact ⟨fun ⟨k, h1, h2, h3⟩ => ⟨k, h1, (t_eq h hs k).mp h2, h3⟩, fun ⟨k, h1, h2, h3⟩ => ⟨k, h1, (t_eq h hs k).mpr h2, h3⟩⟩
theorem landF_t (h : okSt st) {s : Int32} (hs : vs4 s) : ∀ n t, landF (tSt st) ht (thr s) n t = landF st ht s n t
  | 0, _ => rfl
  | n + 1, t => by rw [landF, landF, tk_t h hs, landF_t h hs n]
theorem land_t (h : okSt st) {s : Int32} (hs : vs4 s) (t : Int32) : land (tSt st) ht (thr s) t = land st ht s t := landF_t h hs 12 t
theorem ite_iff {α : Type} {p q : Prop} [Decidable p] [Decidable q] (h : p ↔ q) (a b : α) : (if p then a else b) = if q then a else b := by
  by_cases z : p
  · rw [if_pos z, if_pos (h.mp z)]
  · rw [if_neg z, if_neg (fun y => z (h.mpr y))]
theorem kb_t (h : okSt st) {s : Int32} (hs : vs4 s) (lo hi : Int32) : kitesB (tSt st) ht (thr s) lo hi = kitesB st ht s lo hi := sumN_eq 12 (fun k _ => ite_iff (and_congr (t_eq h hs k) Iff.rfl) _ _)
theorem weig_t (h : okSt st) {s : Int32} (hs : vs4 s) : weig (tSt st) ht (thr s) = weig st ht s := sumN_eq 12 (fun k _ => ite_iff (t_eq h hs k) _ _)
theorem lowF_t (h : okSt st) {s : Int32} (hs : vs4 s) {t : Int32} : ∀ n, lowF (tSt st) ht (thr s) t n = lowF st ht s t n
  | 0 => rfl
  | n + 1 => by
    rw [lowF, lowF, lowF_t h hs n]
    exact ite_iff (and_congr (t_eq h hs n) Iff.rfl) _ _
theorem low_t (h : okSt st) {s : Int32} (hs : vs4 s) (t : Int32) : low (tSt st) ht (thr s) t = low st ht s t := congrArg Prod.fst (lowF_t h hs 12)
theorem higF_t (h : okSt st) {s : Int32} (hs : vs4 s) {t : Int32} : ∀ n, higF (tSt st) ht (thr s) t n = higF st ht s t n
  | 0 => rfl
  | n + 1 => by
    rw [higF, higF, higF_t h hs n]
    exact ite_iff (and_congr (t_eq h hs n) Iff.rfl) _ _
theorem hig_t (h : okSt st) {s : Int32} (hs : vs4 s) (t : Int32) : hig (tSt st) ht (thr s) t = hig st ht s t := congrArg Prod.fst (higF_t h hs 12)
theorem neg_add9 (x y : Int32) : -x + -y = -(x + y) := by
  rw [Int32.neg_add, Int32.sub_eq_add_neg]
theorem sumN_neg {f g : F} : ∀ n, (∀ k, k < n → f k = -(g k)) → sumN f n = -(sumN g n)
  | 0, _ => by
    show (0 : Int32) = -0
    decide
  | n + 1, h => by rw [sumN, sumN, sumN_neg n (fun k hk => h k (by omega)), h n (by omega), neg_add9]
theorem nums_t (h : okSt st) {nu : F} {s : Int32} (hs : vs4 s) : nums (tSt st) (tNu nu) (thr s) = -(nums st nu s) := sumN_neg 12 (fun k _ => by
  show (if tSt st k = thr s then -(nu k) else 0) = -(if st k = s then nu k else 0)
  by_cases z : st k = s
  · rw [if_pos z, if_pos ((t_eq h hs k).mpr z)]
  · rw [if_neg z, if_neg (fun y => z ((t_eq h hs k).mp y))]
    decide)
theorem drF_t (h : okSt st) {s : Int32} (hs : vs4 s) {p : Int32} : ∀ n k e, drF (tSt st) ht (thr s) p n k e = drF st ht s p n k e
  | 0, _, _ => rfl
  | n + 1, k, e => by
    rw [drF, drF, drF_t h hs n, drF_t h hs n]
    exact ite_iff (t_eq h hs k) _ _
theorem isS_of {s : Int32} (hs : vs4 s) : isS s := by
  obtain ⟨q, hq, rfl⟩ := hs
  rcases q4 hq with rfl | rfl | rfl | rfl <;> decide
theorem draw_t (h : okSt st) {s : Int32} (hs : vs4 s) (p : Int32) : drawR (tSt st) ht (thr s) p = drawR st ht s p := by
  unfold drawR
  rw [if_pos (isS_of hs), if_pos (isS_of (thr_vs hs)), drF_t h hs]
theorem sfB_t (h : okSt st) {ch w : Int32} : sfB (tSt st) ht ch w = sfB st ht ch w := by
  rw [Bool.eq_iff_iff, sfB_iff, sfB_iff]
  refine ⟨fun z k hk hn => ?_, fun z k hk hn => ?_⟩
  · have := z k hk (fun y => hn ((t_m1 h k).mp y))
    rw [show tSt st k = thr (st k) from rfl, land_t h (okSt_v h hn)] at this
    exact this
  · have hn2 : ¬ st k = -1 := fun y => hn ((t_m1 h k).mpr y)
    rw [show tSt st k = thr (st k) from rfl, land_t h (okSt_v h hn2)]
    exact z k hk hn2
theorem gsF_t (h : okSt st) {ch : Int32} : ∀ n, gsF (tSt st) ht ch n = gsF st ht ch n
  | 0 => rfl
  | n + 1 => by rw [gsF, gsF, sfB_t h, gsF_t h n]
theorem allK_t (h : okSt st) : allK (tSt st) = allK st := sumN_eq 12 (fun k _ => ite_iff (t_m1 h k) _ _)
theorem frsh_t (h : okSt st) {fr : F} : frsh (tSt st) fr = frsh st fr := sumN_eq 12 (fun k _ => ite_iff (and_congr (not_congr (t_m1 h k)) Iff.rfl) _ _)
theorem mxF_t (h : okSt st) : ∀ n, mxF (tSt st) ht n = mxF st ht n
  | 0 => rfl
  | n + 1 => by
    rw [mxF, mxF, mxF_t h n]
    exact ite_iff (t_m1 h n) _ _
theorem rcF_t (h : okSt st) {s : Int32} (hs : vs4 s) {w ch : Int32} : ∀ n r t, rcF (tSt st) ht (thr s) w ch n r t = rcF st ht s w ch n r t
  | 0, _, _ => rfl
  | n + 1, r, t => by rw [rcF, rcF, land_t h hs, rcF_t h hs n]
theorem isK_t (h : okSt st) (k : Int32) : isK (tSt st) k ↔ isK st k := and_congr Iff.rfl (and_congr Iff.rfl (not_congr (t_m1 h _)))
end TU
/-! the second set, cell by cell -/
theorem tSt_up {st : F} {j : Nat} {s : Int32} : tSt (upd st j s) = upd (tSt st) j (thr s) := by
  funext k
  show thr (if k = j then s else st k) = if k = j then thr s else thr (st k)
  split <;> rfl
theorem tNu_up {nu : F} {j : Nat} {v : Int32} : tNu (upd nu j v) = upd (tNu nu) j (-v) := by
  funext k
  show -(if k = j then v else nu k) = if k = j then -v else -(nu k)
  split <;> rfl
theorem tCf_up {cf : F} {q : Nat} (hq : q < 4) {v : Int32} : tCf (upd cf q v) = upd (tCf cf) ((q + 1) % 4) v := by
  funext i
  show (if i = 0 then (if 3 = q then v else cf 3) else if i < 4 then (if i - 1 = q then v else cf (i - 1)) else (if i = q then v else cf i)) = (if i = (q + 1) % 4 then v else if i = 0 then cf 3 else if i < 4 then cf (i - 1) else cf i)
  by_cases e0 : i = 0
  · subst e0
    by_cases e3 : q = 3
    · subst e3
      rfl
    · rw [if_pos rfl, if_neg (by omega), if_neg (by omega), if_pos rfl]
  · rw [if_neg e0]
    by_cases e4 : i < 4
    · rw [if_pos e4]
      by_cases e5 : i - 1 = q
      · rw [if_pos e5, if_pos (by omega)]
      · rw [if_neg e5, if_neg (by omega), if_neg e0, if_pos e4]
    · rw [if_neg e4, if_neg (by omega), if_neg (by omega), if_neg e0, if_neg e4]
theorem tu_St {σ : Sky} {j : Nat} {s : Int32} : turn (pSt σ j s) = pSt (turn σ) j (thr s) := by
  show (_, tSt (upd (sSt σ) j s), _) = _
  rw [tSt_up]
  rfl
theorem tu_Nu {σ : Sky} {j : Nat} {v : Int32} : turn (pNu σ j v) = pNu (turn σ) j (-v) := by
  show (tNu (upd (sNu σ) j v), _) = _
  rw [tNu_up]
  rfl
theorem tu_Cf {σ : Sky} {q : Nat} (hq : q < 4) {v : Int32} : turn (pCf σ q v) = pCf (turn σ) ((q + 1) % 4) v := by
  show (_, _, _, _, _, _, _, tCf (upd (sCf σ) q v), _) = _
  rw [tCf_up hq]
  rfl
theorem tCf_q {cf : F} {q : Nat} (hq : q < 4) : tCf cf ((q + 1) % 4) = cf q := by
  rcases q4 hq with rfl | rfl | rfl | rfl <;> rfl
/-! acts on both -/
theorem tu_launch {σ : Sky} (h : okSt (sSt σ)) {s n : Int32} (hs : vs4 s) {k : Nat} : launchG (turn σ) (thr s) (-n) k = turn (launchG σ s n k) := by
  unfold launchG
  rw [show ∀ X : Sky, turn (pCu X k 0) = pCu (turn X) k 0 from fun _ => rfl, show ∀ X : Sky, turn (pRe X k 0) = pRe (turn X) k 0 from fun _ => rfl, show ∀ X : Sky, turn (pFr X k 0) = pFr (turn X) k 0 from fun _ => rfl, tu_Nu, tu_St, show ∀ (X : Sky) (v : Int32), turn (pHt X k v) = pHt (turn X) k v from fun _ _ => rfl, show sSt (turn σ) = tSt (sSt σ) from rfl, show sHt (turn σ) = sHt σ from rfl, land_t h hs]
theorem ff_eq {P Q : Nat → Bool} (h : ∀ i, P i = Q i) : ∀ n i, ff P n i = ff Q n i
  | 0, _ => rfl
  | n + 1, i => by rw [ff, ff, h i, ff_eq h n]
theorem freeK_t {st : F} (h : okSt st) : freeK (tSt st) = freeK st := ff_eq (fun j => by
  rw [Bool.eq_iff_iff, beq_iff_eq, beq_iff_eq]
  exact t_m1 h j) 12 0
theorem tu_shift {σ : Sky} (h : okSt (sSt σ)) {s : Int32} (hs : vs4 s) {j : Nat} : shiftG (turn σ) j (thr s) = turn (shiftG σ j s) := by
  unfold shiftG
  rw [tu_St, show ∀ (X : Sky) (v : Int32), turn (pHt X j v) = pHt (turn X) j v from fun _ _ => rfl, show sSt (turn σ) = tSt (sSt σ) from rfl, show sHt (turn σ) = sHt σ from rfl, land_t h hs]
theorem tu_risen {σ : Sky} (h : okSt (sSt σ)) {j : Nat} (hj : vs4 (sSt σ j)) (w : Int32) : risenH (turn σ) j w = risenH σ j w := land_t h hj _
theorem tu_raiseE {σ : Sky} {j : Nat} {s t : Int32} : raiseE (turn σ) j (thr s) t = turn (raiseE σ j s t) := by
  unfold raiseE
  rw [show ∀ (X : Sky) (v : Int32), turn (uRs X v) = uRs (turn X) v from fun _ _ => rfl, show ∀ (X : Sky) (v : Int32), turn (pRe X j v) = pRe (turn X) j v from fun _ _ => rfl, show ∀ (X : Sky), turn (pFr X j 1) = pFr (turn X) j 1 from fun _ => rfl, show ∀ (X : Sky), turn (pHt X j t) = pHt (turn X) j t from fun _ => rfl, tu_St]
  rfl
theorem tu_raiseC {σ : Sky} {j q : Nat} (hq : q < 4) (hj : sSt σ j = nI q) : raiseC (turn σ) j = turn (raiseC σ j) := by
  rw [raiseC_eq hq hj, raiseC_eq (σ := turn σ) (q := (q + 1) % 4) (Nat.mod_lt _ (by omega)) (by show thr (sSt σ j) = _; rw [hj, thr_v hq]), tu_Cf hq]
  show pCf _ _ (tCf (sCf σ) ((q + 1) % 4) + 1) = _
  rw [tCf_q hq]
  rfl
theorem raiseC_St {σ : Sky} {j : Nat} : sSt (raiseC σ j) = sSt σ ∧ sHt (raiseC σ j) = sHt σ := by
  unfold raiseC ccF
  split <;> exact ⟨rfl, rfl⟩
theorem tu_raise {σ : Sky} (h : okSt (sSt σ)) {j q : Nat} (hq : q < 4) (hj : sSt σ j = nI q) : raiseG (turn σ) j = turn (raiseG σ j) := by
  have hv : vs4 (sSt σ j) := ⟨q, hq, hj⟩
  have hv2 : vs4 (behi (sSt σ j)) := (behi_v hv).1
  unfold raiseG
  rw [show sCh (turn σ) = sCh σ from rfl, show windN (turn σ) = windN σ from rfl, tu_risen h hv, show sSt (turn σ) j = thr (sSt σ j) from rfl, thr_behi hv, tu_raiseC hq hj, tu_raiseE, tu_raiseE]
  rw [show sSt (turn (raiseC σ j)) = tSt (sSt (raiseC σ j)) from rfl, show sHt (turn (raiseC σ j)) = sHt (raiseC σ j) from rfl, raiseC_St.1, land_t h hv2]
  split <;> rfl
/-! sinking on both -/
theorem sinkO_St {σ : Sky} {j : Nat} {fl : Int32} : sSt (sinkO σ j fl) = sSt σ := by
  unfold sinkO
  split <;> rfl
theorem sinkF_St {s : Int32} : ∀ n fl pa σ, sSt (sinkF s n fl pa σ) = sSt σ
  | 0, _, _, _ => rfl
  | n + 1, fl, pa, σ => by
    rw [sinkF]
    split
    · rw [sinkF_St n, sinkO_St]
    · rfl
theorem sinkO_t {σ : Sky} {j : Nat} {fl : Int32} : sinkO (turn σ) j fl = turn (sinkO σ j fl) := by
  unfold sinkO
  by_cases z : sFr σ j = 0
  · rw [if_pos z, if_pos (show sFr (turn σ) j = 0 from z)]
    rfl
  · rw [if_neg z, if_neg (show ¬ sFr (turn σ) j = 0 from z)]
theorem sinkF_t {s : Int32} (hs : vs4 s) : ∀ n fl pa σ, okSt (sSt σ) → sinkF (thr s) n fl pa (turn σ) = turn (sinkF s n fl pa σ)
  | 0, _, _, _, _ => rfl
  | n + 1, fl, pa, σ, h => by
    rw [sinkF, sinkF, show sSt (turn σ) = tSt (sSt σ) from rfl, show sHt (turn σ) = sHt σ from rfl, low_t h hs, sinkO_t, show sHt (turn (sinkO σ (low (sSt σ) (sHt σ) s pa).toNatClampNeg fl)) = sHt (sinkO σ (low (sSt σ) (sHt σ) s pa).toNatClampNeg fl) from rfl, sinkF_t hs n _ _ _ (by rw [sinkO_St]; exact h)]
    by_cases z : isK (sSt σ) (low (sSt σ) (sHt σ) s pa)
    · rw [if_pos z, if_pos ((isK_t h _).mpr z)]
    · rw [if_neg z, if_neg (fun y => z ((isK_t h _).mp y))]
theorem endN_t {σ : Sky} : ∀ n, endN (turn σ) n = turn (endN σ n)
  | 0 => rfl
  | n + 1 => by
    rw [endN, endN, endN_t n]
    rfl
theorem gdS_fr {σ : Sky} (hg : gdS σ) : frA σ (sFr σ) := fun _ _ => rfl
theorem gdS_t {σ : Sky} (hg : gdS σ) : gdS (turn σ) := by
  obtain ⟨g1, g2, g3, g4, g5, g6, g7, g8⟩ := hg
  refine ⟨okSt_t g1, g2, okJ_sub g3 (fun j k _ _ _ ha hle => ⟨fun z => ha ((t_m1 g1 k).mpr z), hle⟩), g4, fun k => ?_, g6, g7, g8⟩
  have h1 : -999 ≤ sNu σ k ∧ sNu σ k ≤ 999 := g5 k
  show -999 ≤ -(sNu σ k) ∧ -(sNu σ k) ≤ 999
  rw [Int32.le_iff_toInt_le, Int32.le_iff_toInt_le, show (-999 : Int32).toInt = -999 from by decide, i999_int] at h1 ⊢
  rw [neg_int (by omega)]
  omega
/-- what sinking changes: heights alone, of the living alone -/
theorem sinkN_w {σ : Sky} (hg : gdS σ) : ∀ n, n ≤ 4 → ∃ g : F, sinkN σ n = wHtF σ g ∧ ∀ k, sSt σ k = -1 → g k = sHt σ k
  | 0, _ => ⟨sHt σ, rfl, fun _ _ => rfl⟩
  | n + 1, h => by
    obtain ⟨g, e1, h2⟩ := sinkN_w hg n (by omega)
    obtain ⟨-, k2, k3, -⟩ := sinkN_eq hg (gdS_fr hg) n (by omega)
    obtain ⟨g', e2, -, -, h5⟩ := (sinkS_eq (vs4_nI (n := n) (by omega)) k2.2.1 k3 k2.2.2.2.1 k2.2.2.2.2.2.2.2).2.2
    refine ⟨g', ?_, fun k hk => ?_⟩
    · rw [sinkN, e2, e1]
      rfl
    · rw [h5 k (by rw [e1]; show ¬ sSt σ k = nI n; rw [hk]; exact fun z => nI_nm1 (by omega) z.symm), e1]
      exact h2 k hk
theorem sinkN_t {σ : Sky} (hg : gdS σ) : sinkN (turn σ) 4 = turn (sinkN σ 4) := by
  obtain ⟨g1, e1, h1⟩ := sinkN_w hg 4 (Nat.le_refl _)
  obtain ⟨g2, e2, h2⟩ := sinkN_w (gdS_t hg) 4 (Nat.le_refl _)
  have key : g2 = g1 := by
    funext k
    rcases hg.1 k with z | ⟨q, hq, z⟩
    · rw [h1 k z, h2 k ((t_m1 hg.1 k).mpr z)]
      rfl
    · have a1 := ((sinkN_ag (q := q) hq hg (gdS_fr hg) (⟨rfl, fun _ _ => ⟨rfl, rfl⟩, rfl⟩ : agS (nI q) σ σ) 4 (Nat.le_refl _)).2 hq).2.1 k (by rw [sinkF_St]; exact z)
      have hz2 : sSt (turn σ) k = nI ((q + 1) % 4) := by
        show thr (sSt σ k) = _
        rw [z, thr_v hq]
      have a2 := ((sinkN_ag (q := (q + 1) % 4) (Nat.mod_lt _ (by omega)) (gdS_t hg) (gdS_fr (gdS_t hg)) (⟨rfl, fun _ _ => ⟨rfl, rfl⟩, rfl⟩ : agS (nI ((q + 1) % 4)) (turn σ) (turn σ)) 4 (Nat.le_refl _)).2 (Nat.mod_lt _ (by omega))).2.1 k (by rw [sinkF_St]; exact hz2)
      rw [← thr_v hq, show sinkS (turn σ) (thr (nI q)) = turn (sinkS σ (nI q)) from sinkF_t (vs4_nI hq) 12 0 (-1) σ hg.1] at a2
      have b1 : sHt (sinkS σ (nI q)) k = g1 k := by rw [a1.1, e1]; rfl
      have b2 : sHt (sinkS σ (nI q)) k = g2 k := by
        have := a2.1
        rw [e2] at this
        exact this
      rw [← b1, ← b2]
  rw [e1, e2, key]
  rfl
theorem beat1_t {σ : Sky} (hg : gdS σ) : beat1 (turn σ) = turn (beat1 σ) := by
  unfold beat1 endF
  rw [sinkN_t hg, endN_t]
  generalize endN (sinkN σ 4) 12 = X
  rfl
theorem beatN_t {σ : Sky} (hg : gdS σ) : ∀ n, beatN (turn σ) n = turn (beatN σ n)
  | 0 => rfl
  | n + 1 => by rw [beatN, beatN, beatN_t hg n, beat1_t (beatN_eq hg (gdS_fr hg) n).2.1]
theorem endN_St {σ : Sky} : ∀ n, sSt (endN σ n) = sSt σ
  | 0 => rfl
  | n + 1 => endN_St n
theorem suF_t {j : Nat} {g : Int32} : ∀ n b σ, okSt (sSt σ) → vs4 (sSt σ j) → suF j g n b (turn σ) = suF j g n b σ
  | 0, _, _, _, _ => rfl
  | n + 1, b, σ, h, hj => by
    rw [suF, suF, show sHt (turn σ) = sHt σ from rfl, show sSt (turn σ) j = thr (sSt σ j) from rfl, show sinkS (turn σ) (thr (sSt σ j)) = turn (sinkS σ (sSt σ j)) from sinkF_t hj 12 0 (-1) σ h, show endF (turn (sinkS σ (sSt σ j))) = turn (endF (sinkS σ (sSt σ j))) from endN_t 12]
    have e9 : sSt (endF (sinkS σ (sSt σ j))) = sSt σ := by
      rw [show sSt (endF (sinkS σ (sSt σ j))) = sSt (sinkS σ (sSt σ j)) from endN_St 12, sinkF_St]
    rw [suF_t n (b + 1) _ (by rw [e9]; exact h) (by rw [e9]; exact hj)]
