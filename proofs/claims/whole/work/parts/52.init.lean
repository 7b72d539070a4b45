/-! PURE: at the start -/
theorem stN_01 : ∀ n k, stN n k = -1 ∨ stN n k = 0
  | 0, _ => Or.inr rfl
  | n + 1, k => by
    by_cases e : k = n
    · subst e; exact Or.inl pk_us
    · show upd (stN n) n (-1) k = -1 ∨ upd (stN n) n (-1) k = 0
      rw [pk_un e]
      exact stN_01 n k
theorem wiN_02 : ∀ n k, wiN n k = 2 ∨ wiN n k = 0
  | 0, _ => Or.inr rfl
  | n + 1, k => by
    by_cases e : k = n
    · subst e; exact Or.inl pk_us
    · show upd (wiN n) n 2 k = 2 ∨ upd (wiN n) n 2 k = 0
      rw [pk_un e]
      exact wiN_02 n k
theorem miS_eq (nu ht fr re cu wi cf : F) (bs rs ch si be ct : Int32) : ∀ n, miS ((nu, fun _ => 0, ht, fr, re, cu, wi, cf, bs, rs, ch, si), be, ct) n = ((nu, dmF (stN n), ht, fr, re, cu, wi, cf, bs, rs, ch, si), be, ct)
  | 0 => by
    have e : dmF (stN 0) = fun _ => 0 := by
      funext k
      exact dm_neg (by decide : ¬ (0 : Int32) = -1)
    rw [e]
    rfl
  | n + 1 => by
    rw [miS, miS_eq nu ht fr re cu wi cf bs rs ch si be ct n]
    show ((nu, upd (dmF (stN n)) n (-10005), ht, fr, re, cu, wi, cf, bs, rs, ch, si), be, ct) = ((nu, dmF (upd (stN n) n (-1)), ht, fr, re, cu, wi, cf, bs, rs, ch, si), be, ct)
    rw [dm_rm]
theorem sky0_gd : gdS sky0 := by
  refine ⟨fun k => ?_, fun k => ⟨0, by omega, rfl⟩, ?_, fun k => Or.inl rfl, fun k => (by decide : isN 0), fun b => ?_, ⟨30, by omega, by omega, rfl⟩, ⟨1, by omega, rfl⟩⟩
  · rcases stN_01 12 k with e | e
    · exact Or.inl e
    · exact Or.inr ⟨0, by omega, e⟩
  · show ∀ j, j ≤ 12 → hcN (stN 12) (fun _ => 0) j + j ≤ 12
    decide +kernel
  · rcases wiN_02 8 b with e | e
    · exact ⟨2, by omega, e⟩
    · exact ⟨0, by omega, e⟩
theorem sky0_fr : okFr sky0 := okFr_of sky0_gd.2.2.2.1
theorem sky0_re : reL sky0 mod0 := by
  refine ⟨sky0_gd, fun _ => 0, fun _ _ => rfl, ?_⟩
  have e : miW (vSi (vCh mz 30) 1) 8 = ((fun _ => 0, fun _ => 0, fun _ => 0, fun _ => 0, fun _ => 0, fun _ => 0, wiN 8, fun _ => 0, 0, 0, 30, 1), 0, 0) := rfl
  unfold mod0
  rw [e, miS_eq]
  rfl
theorem inv0 : Inv ks0 md0 := ⟨sky0_re, ⟨⟨by show 0 < 4; omega, by show 0 ≤ 4; omega⟩, rfl, fun i hi => absurd hi (Nat.not_lt_zero _)⟩, ⟨fun _ _ => sky0_fr, sky0_fr⟩, Or.inl ⟨rfl, rfl⟩, ⟨by show 0 ≤ 80; omega, rfl, fun p hp => absurd hp (Nat.not_lt_zero _)⟩, rfl, rfl⟩
