/-! THE FRAME AT CONTRACTS: a contract over its own cells, in a larger world, the cells in any order -/
theorem D_nd {A : Nat → Prop} {ws : va_W} (h : va_D A ws) : (ws.map Prod.fst).Nodup := by
  rw [List.Nodup, List.pairwise_iff_getElem]
  intro i j hi hj hij hne
  rw [List.length_map] at hi hj
  rw [List.getElem_map, List.getElem_map] at hne
  have := h.1 i j _ _ (List.getElem?_eq_getElem hi) (List.getElem?_eq_getElem hj) hne
  omega
theorem D_of {A : Nat → Prop} {ws : va_W} (h1 : (ws.map Prod.fst).Nodup) (h2 : ∀ q ∈ ws, A q.1) : va_D A ws := by
  refine ⟨fun i j p q hi hj he => ?_, fun k q hk => h2 q (List.mem_of_getElem? hk)⟩
  rw [List.Nodup, List.pairwise_iff_getElem] at h1
  obtain ⟨li, ei⟩ := List.getElem?_eq_some_iff.mp hi
  obtain ⟨lj, ej⟩ := List.getElem?_eq_some_iff.mp hj
  rcases Nat.lt_trichotomy i j with h | h | h
  · have h9 := h1 i j (by rw [List.length_map]; exact li) (by rw [List.length_map]; exact lj) h
    rw [List.getElem_map, List.getElem_map, ei, ej] at h9
    exact absurd he h9
  · exact h
  · have h9 := h1 j i (by rw [List.length_map]; exact lj) (by rw [List.length_map]; exact li) h
    rw [List.getElem_map, List.getElem_map, ei, ej] at h9
    exact absurd he.symm h9
theorem D_in {A : Nat → Prop} {ws : va_W} (h : va_D A ws) : ∀ q ∈ ws, A q.1 := fun q hq => by
  obtain ⟨k, hk⟩ := List.getElem?_of_mem hq
  exact h.2 k q hk
theorem D_perm {A : Nat → Prop} {w1 w2 : va_W} (h : w1.Perm w2) (hD : va_D A w1) : va_D A w2 :=
  D_of ((h.map Prod.fst).nodup_iff.mp (D_nd hD)) (fun q hq => D_in hD q (h.mem_iff.mpr hq))
theorem P_perm {D : va_G} {cl : List vw_C} {w1 w2 : va_W} {H : Heap} (h : w1.Perm w2) (hP : va_P D cl w1 H) : va_P D cl w2 H := fun k q hk => by
  obtain ⟨i, hi⟩ := List.getElem?_of_mem (h.mem_iff.mpr (List.mem_of_getElem? hk))
  exact hP i q hi
theorem A_in {ws : va_W} {sz : Nat} {q : Nat × va_E} (h : q ∈ ws) : va_A ws sz q.1 := by
  obtain ⟨k, hk⟩ := List.getElem?_of_mem h
  exact va_A.in hk
theorem A_sub {w0 ws : va_W} (h : ∀ q ∈ w0, q ∈ ws) {sz q : Nat} (hq : va_A w0 sz q) : va_A ws sz q := by
  rcases hq with ⟨k, e9, hk⟩ | h9
  · exact A_in (h _ (List.mem_of_getElem? hk))
  · exact Or.inr h9
theorem P_sub {D : va_G} {cl : List vw_C} {w0 ws : va_W} {H : Heap} (h : ∀ q ∈ w0, q ∈ ws) (hP : va_P D cl ws H) : va_P D cl w0 H := fun k q hk => by
  obtain ⟨i, hi⟩ := List.getElem?_of_mem (h q (List.mem_of_getElem? hk))
  exact hP i q hi
theorem fr_in {w0 R ws : va_W} (h : (w0 ++ R).Perm ws) : ∀ q ∈ w0, q ∈ ws := fun q hq => h.mem_iff.mp (List.mem_append.mpr (Or.inl hq))
theorem fr_inR {w0 R ws : va_W} (h : (w0 ++ R).Perm ws) : ∀ q ∈ R, q ∈ ws := fun q hq => h.mem_iff.mp (List.mem_append.mpr (Or.inr hq))
theorem D_left {A : Nat → Prop} {w0 R : va_W} (h : va_D A (w0 ++ R)) : va_D A w0 :=
  D_of (List.Nodup.sublist ((List.sublist_append_left w0 R).map Prod.fst) (D_nd h)) (fun q hq => D_in h q (List.mem_append.mpr (Or.inl hq)))
theorem D_right {A : Nat → Prop} {w0 R : va_W} (h : va_D A (w0 ++ R)) : va_D A R :=
  D_of (List.Nodup.sublist ((List.sublist_append_right w0 R).map Prod.fst) (D_nd h)) (fun q hq => D_in h q (List.mem_append.mpr (Or.inr hq)))
theorem D_apart {A : Nat → Prop} {w0 R : va_W} (h : va_D A (w0 ++ R)) {p q : Nat × va_E} (hp : p ∈ w0) (hq : q ∈ R) : p.1 ≠ q.1 := by
  have h1 := D_nd h
  rw [List.map_append, List.nodup_append] at h1
  exact h1.2.2 p.1 (List.mem_map.mpr ⟨p, hp, rfl⟩) q.1 (List.mem_map.mpr ⟨q, hq, rfl⟩)
theorem fr_pre {E : Ev} {w0 R ws : va_W} {sz : Nat} {av : List Value} {a : Array Value} {U : State} (h : (w0 ++ R).Perm ws) (hp : mPc E ws sz av a U) : mPc E w0 sz av a U := by
  obtain ⟨h1, h2, h3, h4, h5, h6⟩ := hp
  exact ⟨h1, h2, P_sub (fr_in h) h3, h4, h5.narrow (fun q hq => A_sub (fr_in h) hq), D_left (D_perm h.symm h6)⟩
theorem fr_F {w0 R ws : va_W} {sz : Nat} {s t : State} (h : (w0 ++ R).Perm ws) (hF : va_F (va_A w0 sz) s t) : va_F (va_A ws sz) s t := ⟨hF.1, fun q h1 h2 => hF.2 q h1 (fun z => h2 (A_sub (fr_in h) z))⟩
theorem fr_B {E : Ev} {w0 R ws u w2 : va_W} {sz : Nat} {av : List Value} {a : Array Value} {s t : State} (h : (w0 ++ R).Perm ws) (hp : mPc E ws sz av a s) (hF : va_F (va_A w0 sz) s t) (hB : mB E (va_A w0 sz) u t) (h2 : (u ++ R).Perm w2) : mB E (va_A ws sz) w2 t := by
  obtain ⟨-, hsz, h3, -, -, h6⟩ := hp
  have hP : va_P E.2.1 vwCl (w0 ++ R) s.heap := P_perm h.symm h3
  have hD := D_perm h.symm h6
  have apart : ∀ q ∈ R, q.1 < s.heap.size ∧ ¬ va_A w0 sz q.1 := by
    intro q hq
    obtain ⟨k, hk⟩ := List.getElem?_of_mem (List.mem_append.mpr (Or.inr hq : q ∈ w0 ∨ q ∈ R))
    have hl := (hP k q hk).lt
    refine ⟨hl, fun z => ?_⟩
    rcases z with ⟨i, e9, hi⟩ | z
    · exact D_apart hD (List.mem_of_getElem? hi) hq rfl
    · omega
  have hPR : va_P E.2.1 vwCl R t.heap := by
    intro k q hk
    have hq := List.mem_of_getElem? hk
    obtain ⟨g1, g2⟩ := apart q hq
    have h9 : va_P E.2.1 vwCl R s.heap := P_sub (fun q hq => List.mem_append.mpr (Or.inr hq)) hP
    exact (h9 k q hk).kept (hF.2 q.1 g1 g2)
  have hDR : va_D (va_A ws sz) R := (D_right hD).weaken (fun k q hk _ => A_in (fr_inR h q (List.mem_of_getElem? hk)))
  have hDu : va_D (va_A ws sz) u := hB.2.weaken (fun _ q _ hq => A_sub (fr_in h) hq)
  refine ⟨P_perm h2 (va_P.app hB.1 hPR), D_perm h2 (va_D.app hDu hDR (fun i j p q hi hj hne => ?_))⟩
  exact (apart q (List.mem_of_getElem? hj)).2 (by rw [← hne]; exact hB.2.2 i p hi)
theorem MI.fr {E : Ev} {y : MethodName} {Ty : List Cond} {rm : Room} {w0 : va_W} {av : List Value} {post : Int32 → va_W → Prop} (M : MI E y Ty rm w0 av post) (R ws : va_W) (h : (w0 ++ R).Perm ws) (f : va_W → va_W) (hf : ∀ w1, (w1 ++ R).Perm (f w1)) : MI E y Ty rm ws av (fun r w => ∃ w1, post r w1 ∧ w = f w1) := by
  intro sz
  refine MetFree.mono (M sz) (fun a s hp => fr_pre h hp) (fun _ _ _ _ _ _ => trivial) ?_
  rintro a s o t hp ⟨⟨⟨r, u, ho, hq, hB⟩, hF⟩, L, hL, hL2⟩
  exact ⟨⟨⟨r, f u, ho, ⟨u, hq, rfl⟩, fr_B h hp hF hB (hf u)⟩, fr_F h hF⟩, L, hL, fun q hq => A_sub (fr_in h) (hL2 q hq)⟩
theorem MV.fr {E : Ev} {y : MethodName} {Ty : List Cond} {rm : Room} {w0 : va_W} {av : List Value} {post : va_W → Prop} (M : MV E y Ty rm w0 av post) (R ws : va_W) (h : (w0 ++ R).Perm ws) (f : va_W → va_W) (hf : ∀ w1, (w1 ++ R).Perm (f w1)) : MV E y Ty rm ws av (fun w => ∃ w1, post w1 ∧ w = f w1) := by
  intro sz
  refine MetFree.mono (M sz) (fun a s hp => fr_pre h hp) (fun _ _ _ _ _ _ => trivial) ?_
  rintro a s o t hp ⟨⟨⟨u, ho, hq, hB⟩, hF⟩, L, hL, hL2⟩
  exact ⟨⟨⟨f u, ho, ⟨u, hq, rfl⟩, fr_B h hp hF hB (hf u)⟩, fr_F h hF⟩, L, hL, fun q hq => A_sub (fr_in h) (hL2 q hq)⟩
theorem MR.fr {E : Ev} {y : MethodName} {Ty : List Cond} {rm : Room} {w0 : va_W} {av : List Value} {post : Nat → va_W → Prop} (M : MR E y Ty rm w0 av post) (R ws : va_W) (h : (w0 ++ R).Perm ws) (f : va_W → va_W) (hf : ∀ w1, (w1 ++ R).Perm (f w1)) : MR E y Ty rm ws av (fun r w => ∃ w1, post r w1 ∧ w = f w1) := by
  intro sz
  refine MetFree.mono (M sz) (fun a s hp => fr_pre h hp) (fun _ _ _ _ _ _ => trivial) ?_
  rintro a s o t hp ⟨⟨⟨u, r, ho, ht, hq, hB⟩, hF⟩, L, hL, hL2⟩
  exact ⟨⟨⟨f u, r, ho, ht, ⟨u, hq, rfl⟩, fr_B h hp hF hB (hf u)⟩, fr_F h hF⟩, L, hL, fun q hq => A_sub (fr_in h) (hL2 q hq)⟩
/-- to a fixed world: what a contract tells of the answer stays -/
theorem MI.to {E : Ev} {y : MethodName} {Ty : List Cond} {rm : Room} {w0 u : va_W} {av : List Value} {P : Int32 → Prop} (M : MI E y Ty rm w0 av (fun r w => P r ∧ w = u)) (R ws w2 : va_W) (h : (w0 ++ R).Perm ws) (h2 : (u ++ R).Perm w2) : MI E y Ty rm ws av (fun r w => P r ∧ w = w2) := by
  intro sz
  refine MetFree.mono (M sz) (fun a s hp => fr_pre h hp) (fun _ _ _ _ _ _ => trivial) ?_
  rintro a s o t hp ⟨⟨⟨r, u, ho, ⟨hq, rfl⟩, hB⟩, hF⟩, L, hL, hL2⟩
  exact ⟨⟨⟨r, w2, ho, ⟨hq, rfl⟩, fr_B h hp hF hB h2⟩, fr_F h hF⟩, L, hL, fun q hq => A_sub (fr_in h) (hL2 q hq)⟩
theorem MV.to {E : Ev} {y : MethodName} {Ty : List Cond} {rm : Room} {w0 u : va_W} {av : List Value} (M : MV E y Ty rm w0 av (fun w => w = u)) (R ws w2 : va_W) (h : (w0 ++ R).Perm ws) (h2 : (u ++ R).Perm w2) : MV E y Ty rm ws av (fun w => w = w2) := by
  intro sz
  refine MetFree.mono (M sz) (fun a s hp => fr_pre h hp) (fun _ _ _ _ _ _ => trivial) ?_
  rintro a s o t hp ⟨⟨⟨u, ho, rfl, hB⟩, hF⟩, L, hL, hL2⟩
  exact ⟨⟨⟨w2, ho, rfl, fr_B h hp hF hB h2⟩, fr_F h hF⟩, L, hL, fun q hq => A_sub (fr_in h) (hL2 q hq)⟩
theorem pmB {α : Type} {f : Nat → List α} {is js : List Nat} (h : is.Perm js) : (is.map f).flatten.Perm (js.map f).flatten := (h.map f).flatten
