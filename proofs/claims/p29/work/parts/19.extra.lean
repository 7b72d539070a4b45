/-! what the class's rows take from parts that p29 has not (from whole's) -/
abbrev MS : Type := Sky × Int32 × Int32
def vWi (τ : MS) (j : Nat) (v : Int32) : MS := (pWi τ.1 j v, τ.2)
def vCf (τ : MS) (j : Nat) (v : Int32) : MS := (pCf τ.1 j v, τ.2)
def vSt (τ : MS) (j : Nat) (v : Int32) : MS := (pSt τ.1 j v, τ.2)
def vNu (τ : MS) (j : Nat) (v : Int32) : MS := (pNu τ.1 j v, τ.2)
def vHt (τ : MS) (j : Nat) (v : Int32) : MS := (pHt τ.1 j v, τ.2)
def vFr (τ : MS) (j : Nat) (v : Int32) : MS := (pFr τ.1 j v, τ.2)
def vRe (τ : MS) (j : Nat) (v : Int32) : MS := (pRe τ.1 j v, τ.2)
def vCu (τ : MS) (j : Nat) (v : Int32) : MS := (pCu τ.1 j v, τ.2)
def vCh (τ : MS) (v : Int32) : MS := (uCh τ.1 v, τ.2)
def vSi (τ : MS) (v : Int32) : MS := (uSi τ.1 v, τ.2)
def vRs (τ : MS) (v : Int32) : MS := (uRs τ.1 v, τ.2)
def vBs (τ : MS) (v : Int32) : MS := (uBs τ.1 v, τ.2)
def vBe (τ : MS) (v : Int32) : MS := (τ.1, v, τ.2.2)
def vCt (τ : MS) (v : Int32) : MS := (τ.1, τ.2.1, v)
abbrev isKm (st : F) (k : Int32) : Prop := 0 ≤ k ∧ k < 12 ∧ ¬ st k.toNatClampNeg = -10005
def optI : Option Nat → Int32
  | none => -10005
  | some k => nI k
def bsU (ht : F) (t : Int32) : Option Nat → Int32
  | none => 999
  | some p => ht p - t
def bsD (ht : F) (t : Int32) : Option Nat → Int32
  | none => 999
  | some p => t - ht p
def nxU (st ht : F) (s t : Int32) : Nat → Option Nat
  | 0 => none
  | k + 1 => if st k = s ∧ 0 < ht k - t ∧ ht k - t < bsU ht t (nxU st ht s t k) then some k else nxU st ht s t k
def nxD (st ht : F) (s t : Int32) : Nat → Option Nat
  | 0 => none
  | k + 1 => if st k = s ∧ 0 < t - ht k ∧ t - ht k < bsD ht t (nxD st ht s t k) then some k else nxD st ht s t k
theorem nI_neN {p : Nat} (h : p < 2 ^ 31) : ¬ nI p = -10005 := by
  intro z
  have := congrArg Int32.toInt z
  rw [nI_toInt h] at this
  have e : (-10005 : Int32).toInt = -10005 := by decide
  omega
def mLands (τ : MS) (j : Nat) (s t : Int32) : MS := vHt (vSt (vSt τ j (-10005)) j s) j (land (sSt (vSt τ j (-10005)).1) (sHt τ.1) s t)
/-- a landing that ends within twelve -/
abbrev hF (st ht : F) (s t : Int32) : Prop := ¬ tk st ht s (land st ht s t) = true
abbrev hL (τ : MS) (j : Nat) (s t : Int32) : Prop := hF (sSt (vSt τ j (-10005)).1) (sHt τ.1) s t
def mFly (τ : MS) (s n : Int32) (k : Nat) : MS := vCu (vRe (vFr (vNu (mLands τ k s 0) k n) k 0) k 0) k 0
def freeM (st : F) : Nat := ff (fun j => st j == -10005) 12 0
def mCut (τ : MS) (j q : Nat) : MS := vCf (vCt (vCu τ j (sCu τ.1 j + 1)) ((vCu τ j (sCu τ.1 j + 1)).2.2 + 1)) q (sCf τ.1 q + 1)
abbrev mRis1 (τ : MS) (j : Nat) (w : Int32) : MS := mLands τ j (sSt τ.1 j) (sHt τ.1 j + w + 1)
abbrev mRis2 (τ : MS) (j : Nat) (w : Int32) : MS := mLands (mRis1 τ j w) j (behi (sSt τ.1 j)) 0
abbrev mIsC (τ : MS) (j : Nat) (w : Int32) : Prop := sCh (mRis1 τ j w).1 < sHt (mRis1 τ j w).1 j
def mRises (τ : MS) (j q : Nat) (w : Int32) : MS := if mIsC τ j w then mCut (mRis2 τ j w) j q else mRis1 τ j w
abbrev hR (τ : MS) (j : Nat) (w : Int32) : Prop := hL τ j (sSt τ.1 j) (sHt τ.1 j + w + 1) ∧ hL (mRis1 τ j w) j (behi (sSt τ.1 j)) 0
def mReadE (τ : MS) (j : Nat) : MS := vRs (vRe (vFr τ j 1) j (sRe τ.1 j + 1)) (sRs τ.1 + 1)
def mRead (τ : MS) (j q : Nat) (w : Int32) : MS := mReadE (mRises τ j q w) j
def mWrite (τ : MS) (j : Nat) (n : Int32) : MS := vFr (vNu τ j n) j 1
/-- one kite sinks -/
def mSkT (τ : MS) (k : Nat) (u : Int32) : Int32 := if sFr τ.1 k = 1 then sHt τ.1 k else if sHt τ.1 k - sSi τ.1 < u + 1 then u + 1 else sHt τ.1 k - sSi τ.1
def mSkO (τ : MS) (k : Nat) (u : Int32) : MS := vHt τ k (mSkT τ k u)
def skG (s : Int32) : Nat → Int32 → Option Nat → MS → MS
  | 0, _, _, τ => τ
  | _ + 1, _, none, τ => τ
  | n + 1, u, some k, τ => skG s n (mSkT τ k u) (nxU (sSt τ.1) (sHt (mSkO τ k u).1) s (sHt τ.1 k) 12) (mSkO τ k u)
def skE (s : Int32) : Nat → Int32 → Option Nat → MS → Prop
  | 0, _, ko, _ => ko = none
  | _ + 1, _, none, _ => True
  | n + 1, u, some k, τ => skE s n (mSkT τ k u) (nxU (sSt τ.1) (sHt (mSkO τ k u).1) s (sHt τ.1 k) 12) (mSkO τ k u)
abbrev mSink (τ : MS) (s : Int32) : MS := skG s 12 (-1) (nxU (sSt τ.1) (sHt τ.1) s (-1) 12) τ
abbrev hSk (τ : MS) (s : Int32) : Prop := skE s 12 (-1) (nxU (sSt τ.1) (sHt τ.1) s (-1) 12) τ
def mSkN (τ : MS) : Nat → MS
  | 0 => τ
  | n + 1 => mSink (mSkN τ n) (nI n)
def mEnd (τ : MS) : Nat → MS
  | 0 => τ
  | n + 1 => vFr (mEnd τ n) n 0
def mBeat1 (τ : MS) : MS := vBs (vBe (mEnd (mSkN τ 4) 12) ((mEnd (mSkN τ 4) 12).2.1 + 1 - ((mEnd (mSkN τ 4) 12).2.1 + 1) / 8 * 8)) (sBs (mEnd (mSkN τ 4) 12).1 + 1)
def mBeatN (τ : MS) : Nat → MS
  | 0 => τ
  | n + 1 => mBeat1 (mBeatN τ n)
abbrev hBt (τ : MS) (n : Nat) : Prop := ∀ i, i < n → ∀ s, s < 4 → hSk (mSkN (mBeatN τ i) s) (nI s)
theorem ff_spec (P : Nat → Bool) : ∀ n i, i ≤ ff P n i ∧ ff P n i ≤ i + n ∧ (∀ k, i ≤ k → k < ff P n i → P k = false) ∧ (ff P n i < i + n → P (ff P n i) = true)
  | 0, i => ⟨Nat.le_refl _, Nat.le_refl _, fun k h1 h2 => by rw [ff] at h2; omega, fun h => by rw [ff] at h; omega⟩
  | n + 1, i => by
    rw [ff]
    by_cases h : P i = true
    · rw [if_pos h]
      exact ⟨Nat.le_refl _, by omega, fun k h1 h2 => by omega, fun _ => h⟩
    · rw [if_neg h]
      obtain ⟨h1, h2, h3, h4⟩ := ff_spec P n (i + 1)
      refine ⟨by omega, by omega, fun k a1 a2 => ?_, fun a => h4 (by omega)⟩
      by_cases e : k = i
      · subst e; simpa using h
      · exact h3 k (by omega) a2
def pT (b : Bool) (W : va_W) : Int32 → va_W → Prop := fun r w => (b = true ∧ r = 1 ∨ b = false ∧ r = 0) ∧ w = W
abbrev R3 : Type := Bool × Nat × Int32
theorem behi_nI {q : Nat} (h : q < 4) : behi (nI q) = nI ((q + 1) % 4) := by
  unfold behi
  rw [nI_1, show (4 : Int32) = nI 4 from rfl, pk_rem (by omega) (by omega) (by omega)]
theorem i32_eq {x y : Int32} (h : x.toInt = y.toInt) : x = y := Int32.toInt_inj.mp h
theorem i32_in {x : Int32} {n : Nat} (h0 : 0 ≤ x.toInt) (h1 : x.toInt ≤ n) (hn : n < 2 ^ 31) : ∃ j, j ≤ n ∧ x = nI j := ⟨x.toInt.toNat, by omega, i32_eq (by rw [nI_toInt (by omega)]; omega)⟩
