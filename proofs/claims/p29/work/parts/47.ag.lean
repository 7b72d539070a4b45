/-! of whole: sinking on one string, and the rest apart -/
def wN (st ht : F) (s : Int32) : Nat → Nat
  | 0 => 0
  | n + 1 => wN st ht s n + (if st n = s then (ht n).toNatClampNeg + 1 else 0)
theorem wN_b {st ht : F} {s : Int32} (hH : okHt ht) : ∀ n, wN st ht s n ≤ 92 * n ∧ sumN (weF st ht s) n = nI (wN st ht s n)
  | 0 => ⟨Nat.le_refl _, rfl⟩
  | n + 1 => by
    obtain ⟨h1, h2⟩ := wN_b (st := st) (s := s) hH n
    obtain ⟨q, hq, e9⟩ := hH n
    have hc : (ht n).toNatClampNeg = q := by rw [e9]; exact nI_clamp (by omega)
    rw [wN, sumN, h2]
    unfold weF
    by_cases hs : st n = s
    · rw [if_pos hs, if_pos hs, hc, e9, nI_1, nI_add]
      exact ⟨by omega, rfl⟩
    · rw [if_neg hs, if_neg hs]
      exact ⟨by omega, Int32.add_zero _⟩
def agS (s : Int32) (σ σ2 : Sky) : Prop := sSt σ = sSt σ2 ∧ (∀ k, sSt σ k = s → sHt σ k = sHt σ2 k ∧ sFr σ k = sFr σ2 k) ∧ sSi σ = sSi σ2
theorem low_some {st ht : F} {s t : Int32} : ∀ n, lowF st ht s t n = (-10005, 1000000) ∨ ∃ p, p < n ∧ st p = s ∧ lowF st ht s t n = (nI p, ht p)
  | 0 => Or.inl rfl
  | n + 1 => by
    rw [lowF]
    split
    · rename_i h
      exact Or.inr ⟨n, by omega, h.1, rfl⟩
    · rcases low_some (st := st) (ht := ht) (s := s) (t := t) n with h | ⟨p, hp, h1, h2⟩
      · exact Or.inl h
      · exact Or.inr ⟨p, by omega, h1, h2⟩
theorem low_ag {st ht ht2 : F} {s t : Int32} (h : ∀ k, st k = s → ht k = ht2 k) : ∀ n, lowF st ht s t n = lowF st ht2 s t n
  | 0 => rfl
  | n + 1 => by
    rw [lowF, lowF, low_ag h n]
    by_cases hs : st n = s
    · rw [h n hs]
    · rw [if_neg (fun z => hs z.1), if_neg (fun z => hs z.1)]
theorem sinkF_ag {s : Int32} : ∀ n fl pa σ σ2, agS s σ σ2 → agS s (sinkF s n fl pa σ) (sinkF s n fl pa σ2)
  | 0, _, _, _, _, h => h
  | n + 1, fl, pa, σ, σ2, h => by
    obtain ⟨h1, h2, h3⟩ := h
    have hlow : low (sSt σ) (sHt σ) s pa = low (sSt σ2) (sHt σ2) s pa := by
      rw [← h1]
      exact congrArg Prod.fst (low_ag (fun k hk => (h2 k hk).1) 12)
    rw [sinkF, sinkF, ← hlow, ← h1]
    by_cases hk : isK (sSt σ) (low (sSt σ) (sHt σ) s pa)
    · rw [if_pos hk, if_pos hk]
      rcases low_some (st := sSt σ) (ht := sHt σ) (s := s) (t := pa) 12 with h9 | ⟨p, hp, hps, h9⟩
      · have h8 : low (sSt σ) (sHt σ) s pa = -10005 := congrArg Prod.fst h9
        rw [h8] at hk
        exact absurd hk.1 (by decide)
      · have h8 : low (sSt σ) (sHt σ) s pa = nI p := congrArg Prod.fst h9
        rw [h8, nI_clamp (by omega)]
        obtain ⟨a1, a2⟩ := h2 p hps
        have hO : agS s (sinkO σ p fl) (sinkO σ2 p fl) := by
          unfold sinkO
          rw [← a2]
          split
          · refine ⟨h1, fun k hk2 => ⟨?_, (h2 k hk2).2⟩, h3⟩
            show upd (sHt σ) p _ k = upd (sHt σ2) p _ k
            rw [a1, h3]
            by_cases e9 : k = p
            · subst e9; rw [pk_us, pk_us]
            · rw [pk_un e9, pk_un e9]; exact (h2 k hk2).1
          · exact ⟨h1, h2, h3⟩
        have hs9 : sSt (sinkO σ p fl) p = s := by
          unfold sinkO
          split <;> exact hps
        rw [(hO.2.1 p hs9).1, a1]
        exact sinkF_ag n _ _ _ _ hO
    · rw [if_neg hk, if_neg hk]
      exact ⟨h1, h2, h3⟩
theorem endN_ag {s : Int32} {σ σ2 : Sky} (h : agS s σ σ2) : ∀ n, agS s (endN σ n) (endN σ2 n)
  | 0 => h
  | n + 1 => by
    obtain ⟨h1, h2, h3⟩ := endN_ag h n
    refine ⟨h1, fun k hk => ⟨(h2 k hk).1, ?_⟩, h3⟩
    show upd (sFr (endN σ n)) n 0 k = upd (sFr (endN σ2 n)) n 0 k
    by_cases e9 : k = n
    · subst e9; rw [pk_us, pk_us]
    · rw [pk_un e9, pk_un e9]; exact (h2 k hk).2
theorem agS_other {s s2 : Int32} {σ σ2 σ3 : Sky} (h : agS s σ σ2) (hq : sinkQ s2 σ2 σ3) (hne : ¬ s = s2) : agS s σ σ3 := by
  obtain ⟨g, rfl, -, -, h4⟩ := hq
  obtain ⟨h1, h2, h3⟩ := h
  refine ⟨h1, fun k hk => ⟨?_, (h2 k hk).2⟩, h3⟩
  show sHt σ k = g k
  rw [h4 k (by rw [← h1, hk]; exact hne)]
  exact (h2 k hk).1
theorem sinkN_ag {q : Nat} (hq : q < 4) {σ σ2 : Sky} {f : F} (hg : gdS σ2) (hf : frA σ2 f) (h : agS (nI q) σ σ2) : ∀ n, n ≤ 4 → (n ≤ q → agS (nI q) σ (sinkN σ2 n)) ∧ (q < n → agS (nI q) (sinkS σ (nI q)) (sinkN σ2 n))
  | 0, _ => ⟨fun _ => h, fun z => absurd z (Nat.not_lt_zero _)⟩
  | n + 1, hn => by
    obtain ⟨h1, h2⟩ := sinkN_ag hq hg hf h n (by omega)
    obtain ⟨-, k2, k3, -⟩ := sinkN_eq hg hf n (by omega)
    have hQ := (sinkS_eq (vs4_nI (n := n) (by omega)) k2.2.1 k3 k2.2.2.2.1 k2.2.2.2.2.2.2.2).2.2
    have hne : ∀ a b, a < 4 → b < 4 → ¬ a = b → ¬ nI a = nI b := fun a b ha hb h9 z => h9 ((nI_eq (by omega) (by omega)).mp z)
    refine ⟨fun hle => agS_other (h1 (by omega)) hQ (hne q n hq (by omega) (by omega)), fun hlt => ?_⟩
    by_cases e9 : q = n
    · subst e9
      exact sinkF_ag 12 0 (-1) _ _ (h1 (Nat.le_refl _))
    · exact agS_other (h2 (by omega)) hQ (hne q n hq (by omega) e9)
theorem okFr_of {σ : Sky} (h : fr01 σ) : okFr σ := by
  intro k _
  rcases h k with e | e <;> rw [e] <;> rfl
