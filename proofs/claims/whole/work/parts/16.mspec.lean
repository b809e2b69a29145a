/-! the reference: what its small methods answer, in the words of its state -/
theorem bI_congr {P Q : Prop} [Decidable P] [Decidable Q] (h : P ↔ Q) : bI P = bI Q := by
  unfold bI
  by_cases hp : P
  · rw [if_pos hp, if_pos (h.mp hp)]
  · rw [if_neg hp, if_neg (fun q => hp (h.mpr q))]
theorem le_lt {x a b : Int32} (h : a.toInt + 1 = b.toInt) : x ≤ a ↔ x < b := by rw [fa_le, fa_lt]; omega
theorem in_key (k : Int32) : (0 ≤ k ∧ k ≤ 99) ↔ xKey k := and_congr_right fun _ => le_lt rfl
theorem in_sh (k : Int32) : (0 ≤ k ∧ k ≤ 3) ↔ xShard k := and_congr_right fun _ => le_lt rfl
theorem in_adr (k : Int32) : (0 ≤ k ∧ k ≤ 39) ↔ xAdr k := and_congr_right fun _ => le_lt rfl
theorem in_cho (k : Int32) : (0 ≤ k ∧ k ≤ 2) ↔ xCho k := and_congr_right fun _ => le_lt rfl
theorem in_nat (k : Int32) {n : Nat} (hn : n < 2 ^ 31) : (0 ≤ k ∧ k ≤ nI n - 1) ↔ (0 ≤ k ∧ k < nI n) := by
  refine and_congr_right fun h0 => ?_
  cases n with
  | zero =>
    constructor
    · intro h
      rw [fa_le] at h h0
      have e : (nI 0 - 1).toInt = -1 := rfl
      have e0 : (0 : Int32).toInt = 0 := rfl
      omega
    · intro h
      rw [fa_le] at h0
      rw [fa_lt] at h
      have e : (nI 0).toInt = 0 := rfl
      have e0 : (0 : Int32).toInt = 0 := rfl
      omega
  | succ m =>
    rw [nI_pred]
    exact le_lt (by rw [nI_toInt (by omega), nI_toInt hn]; omega)
def mI (nR nB : Nat) (f : qFs) : Prop := f 3 = nI nR ∧ 1 ≤ nR ∧ nR ≤ 8 ∧ f 12 = nI nB ∧ nB ≤ 60
abbrev mRange (f : qFs) (r : Int32) : Prop := 0 ≤ r ∧ r < f 3
abbrev mBallot (f : qFs) (b : Int32) : Prop := 0 ≤ b ∧ b < f 12
abbrev mThere (g : qGs) (k : Int32) : Prop := ¬ g 1 k.toNatClampNeg ≤ 0
abbrev mTh (g : qGs) (k : Nat) : Prop := ¬ g 1 k ≤ 0
theorem mThere_nat (g : qGs) {k : Nat} (h : k < 2 ^ 31) : mThere g (nI k) ↔ mTh g k := by unfold mThere; rw [nI_clamp h]
theorem nat_key {k : Nat} (h : k < 100) : xKey (nI k) := ⟨nI_pos' (by omega), nI_lt h (by decide)⟩
theorem m_nat {nR nB : Nat} {f : qFs} {r : Int32} (hI : mI nR nB f) (h : mRange f r) : ∃ n : Nat, n < nR ∧ r = nI n := by
  have h0 : ¬ r < 0 := fun q => by have h1 := h.1; rw [fa_lt] at q; rw [fa_le] at h1; omega
  obtain ⟨j, hj, rfl⟩ := nI_of h0
  have h2 := h.2
  have hR := hI.2.2.1
  rw [hI.1, nI_ltI hj (by omega)] at h2
  exact ⟨j, h2, rfl⟩
theorem m_in9 {nR nB : Nat} {f : qFs} {r : Int32} (hI : mI nR nB f) (h : mRange f r) : vp_in r 9 := i_in (by decide) h (by rw [hI.1]; exact nI_le (by have := hI.2.2.1; omega) (by decide))
theorem m_in9s {nR nB : Nat} {f : qFs} {r : Int32} (hI : mI nR nB f) (h : mRange f r) : vp_in (r + 1) 9 := by
  obtain ⟨n, hn, rfl⟩ := m_nat hI h
  have := hI.2.2.1
  rw [nI_1]
  exact vp_in_nI (by omega) (by decide)
theorem m_in60 {nR nB : Nat} {f : qFs} {r : Int32} (hI : mI nR nB f) (h : mBallot f r) : vp_in r 60 := i_in (by decide) h (by rw [hI.2.2.2.1]; exact nI_le hI.2.2.2.2 (by decide))
def mBeh (nR : Nat) (g : qGs) (r : Nat) : Int32 := if r + 1 = nR then 100 else g 4 (r + 1)
def mLo (g : qGs) (r : Nat) : Nat := (g 4 r).toNatClampNeg
def mHi (nR : Nat) (g : qGs) (r : Nat) : Nat := (mBeh nR g r).toNatClampNeg
/-- the first keys are keys, in order -/
def mL (nR : Nat) (g : qGs) : Prop := ∀ i, i < nR → ∃ lo hi : Nat, g 4 i = nI lo ∧ mBeh nR g i = nI hi ∧ lo ≤ hi ∧ hi ≤ 100
def mAtN (first : Nat → Int32) (k : Int32) : Nat → Nat
  | 0 => 0
  | n + 1 => if first n ≤ k then n else mAtN first k n
theorem mAtN_lt (first : Nat → Int32) (k : Int32) : ∀ n, 1 ≤ n → mAtN first k n < n
  | 0, h => absurd h (by omega)
  | n + 1, _ => by
    show (if first n ≤ k then n else mAtN first k n) < n + 1
    split
    · omega
    · cases n with
      | zero => exact Nat.lt_succ_self 0
      | succ m => have := mAtN_lt first k (m + 1) (by omega); omega
abbrev mP (g : qGs) (b : Int32) : Nat → Bool := fun j => decide (mTh g j ∧ (¬ g 7 j = 0 ∨ b = 0))
abbrev mNB (g : qGs) : Nat → Bool := fun j => decide (mTh g j ∧ g 7 j = 0)
def mCopyG (g : qGs) (i j : Nat) : qGs := va_up (va_up (va_up g 4 (upd (g 4) j (g 4 i))) 5 (upd (g 5) j (g 5 i))) 6 (upd (g 6) j (g 6 i))
def mUpG (r : Nat) : qGs → Nat → qGs
  | g, 0 => g
  | g, n + 1 => mUpG r (mCopyG g (r + n) (r + n + 1)) n
def mDnG : qGs → Nat → Nat → qGs
  | g, _, 0 => g
  | g, t, n + 1 => mDnG (mCopyG g t (t - 1)) (t + 1) n
theorem mDnG_e {g : qGs} {lo hi : Nat} (h : hi ≤ lo) : mDnG g lo (hi - lo) = g := by rw [Nat.sub_eq_zero_of_le h]; rfl
theorem mDnG_s {g : qGs} {lo hi : Nat} (h : lo < hi) : mDnG g lo (hi - lo) = mDnG (mCopyG g lo (lo - 1)) (lo + 1) (hi - (lo + 1)) := by
  rw [show hi - lo = (hi - (lo + 1)) + 1 by omega]; rfl
def mMv (f : qFs) (g : qGs) (r : Int32) : Int32 := if mRange f r then (if g 6 r.toNatClampNeg = -1 then 2 else 0) else 1
theorem mMv_0 {f : qFs} {g : qGs} {r : Int32} (h : mMv f g r = 0) : mRange f r ∧ ¬ g 6 r.toNatClampNeg = -1 := by
  unfold mMv at h
  by_cases h1 : mRange f r
  · rw [if_pos h1] at h
    by_cases h2 : g 6 r.toNatClampNeg = -1
    · rw [if_pos h2] at h; exact absurd h (by decide)
    · exact ⟨h1, h2⟩
  · rw [if_neg h1] at h; exact absurd h (by decide)
theorem mMv_is {f : qFs} {g : qGs} {r : Int32} (h1 : mRange f r) (h2 : ¬ g 6 r.toNatClampNeg = -1) : mMv f g r = 0 := by unfold mMv; rw [if_pos h1, if_neg h2]
theorem mMv_2 {f : qFs} {g : qGs} {r : Int32} (h1 : mRange f r) (h2 : g 6 r.toNatClampNeg = -1) : mMv f g r = 2 := by unfold mMv; rw [if_pos h1, if_pos h2]
theorem mMv_1 {f : qFs} {g : qGs} {r : Int32} (h1 : ¬ mRange f r) : mMv f g r = 1 := by unfold mMv; rw [if_neg h1]
def sm (p : Nat → Nat) : Nat → Nat
  | 0 => 0
  | n + 1 => sm p n + p n
def mRowsP (nR : Nat) (g : qGs) (s : Int32) (i : Nat) : Nat := if g 5 i = s then cnt (mP g 0) (mLo g i) (mHi nR g i) else if g 6 i = s then cnt (mP g 1) (mLo g i) (mHi nR g i) else 0
theorem upN_range (p : Nat → Bool) : ∀ (n lo : Nat), upN p lo n = -1 ∨ ∃ k, lo ≤ k ∧ k < lo + n ∧ upN p lo n = nI k ∧ p k = true
  | 0, _ => Or.inl rfl
  | n + 1, lo => by
    show (if p lo = true then nI lo else upN p (lo + 1) n) = -1 ∨ ∃ k, lo ≤ k ∧ k < lo + (n + 1) ∧ (if p lo = true then nI lo else upN p (lo + 1) n) = nI k ∧ p k = true
    by_cases h : p lo = true
    · exact Or.inr ⟨lo, by omega, by omega, by rw [if_pos h], h⟩
    · rw [if_neg h]
      rcases upN_range p n (lo + 1) with e | ⟨k, h1, h2, h3, h4⟩
      · exact Or.inl e
      · exact Or.inr ⟨k, by omega, by omega, h3, h4⟩
def mStepK (nR : Nat) (g : qGs) (r : Nat) : Int32 := upN (mNB g) (mLo g r) (mHi nR g r - mLo g r)
def mStepG (nR : Nat) (g : qGs) (r : Nat) : qGs := if mStepK nR g r = -1 then va_up (va_up g 5 (upd (g 5) r (g 6 r))) 6 (upd (g 6) r (-1)) else va_up g 7 (upd (g 7) (mStepK nR g r).toNatClampNeg 1)
abbrev mRo (g : qGs) (j : Nat) : Int32 := if mTh g j then (g 1 j - 1) / 10 + 1 else 0
theorem mLo_of {g : qGs} {r lo : Nat} (h : g 4 r = nI lo) (hl : lo ≤ 100) : mLo g r = lo := by unfold mLo; rw [h, nI_clamp (by omega)]
theorem mHi_of {nR : Nat} {g : qGs} {r hi : Nat} (h : mBeh nR g r = nI hi) (hl : hi ≤ 100) : mHi nR g r = hi := by unfold mHi; rw [h, nI_clamp (by omega)]
theorem cnt_congr {p q : Nat → Bool} (h : ∀ j, p j = q j) (lo hi : Nat) : cnt p lo hi = cnt q lo hi := by rw [funext h]
theorem mP_0 (g g' : qGs) (h : g' 1 = g 1) (j : Nat) : mP g' 0 j = decide (mTh g j) := by
  show decide (¬ g' 1 j ≤ 0 ∧ (¬ g' 7 j = 0 ∨ (0 : Int32) = 0)) = _
  rw [h]
  exact decide_eq_decide.mpr ⟨fun q => q.1, fun q => ⟨q, Or.inr rfl⟩⟩
theorem mv_step (lo k : Nat) (q : Nat → Int32) (h : lo ≤ k) : upd (fun j => if lo ≤ j ∧ j < k then 0 else q j) k 0 = fun j => if lo ≤ j ∧ j < k + 1 then 0 else q j := by
  funext j
  unfold upd
  by_cases e : j = k
  · subst e; rw [if_pos rfl, if_pos ⟨h, by omega⟩]
  · rw [if_neg e]
    show (if lo ≤ j ∧ j < k then 0 else q j) = _
    by_cases h2 : lo ≤ j ∧ j < k
    · rw [if_pos h2, if_pos ⟨h2.1, by omega⟩]
    · rw [if_neg h2, if_neg (fun q => h2 ⟨q.1, by omega⟩)]
theorem dn_out {i lo : Nat} (h1 : lo ≤ i) (h2 : i ≤ 100) (h : nI i - 1 < nI lo) : i = lo := by
  cases i with
  | zero => omega
  | succ j =>
    rw [nI_pred, nI_ltI (by omega) (by omega)] at h
    omega
theorem dn_in {i lo : Nat} (h2 : lo ≤ i) (h1 : i ≤ 100) (h : ¬ nI i - 1 < nI lo) : ∃ j, i = j + 1 ∧ lo ≤ j := by
  cases i with
  | zero => exact absurd (by have : lo = 0 := by omega
                             subst this; decide) h
  | succ j =>
    rw [nI_pred, nI_ltI (by omega) (by omega)] at h
    exact ⟨j, rfl, by omega⟩
theorem k_lt {k : Int32} (h : xKey k) : k.toNatClampNeg < 100 := by
  obtain ⟨n, hn, rfl⟩ := k_nat h
  rw [nI_clamp (by omega)]; exact hn
/-- the latest ballots are ballots -/
def mLa (nB : Nat) (g : qGs) : Prop := ∀ j, j < 100 → g 11 j ≤ 0 ∨ ∃ b, b < nB ∧ g 11 j = nI (b + 1)
theorem m_inLa {nR nB : Nat} {f : qFs} {g : qGs} {k : Int32} (hI : mI nR nB f) (hL : mLa nB g) (hk : xKey k) (h : ¬ g 11 k.toNatClampNeg ≤ 0) : vp_in (g 11 k.toNatClampNeg - 1) 60 := by
  rcases hL _ (k_lt hk) with q | ⟨b, hb, e⟩
  · exact absurd q h
  · have := hI.2.2.2.2
    rw [e, nI_pred]
    exact vp_in_nI (by omega) (by decide)
/-- the ballots' districts are districts -/
def mDi (nB : Nat) (g : qGs) : Prop := ∀ b, b < nB → ∃ d : Nat, d < 4 ∧ g 16 b = nI d
theorem b_nat {nR nB : Nat} {f : qFs} {b : Int32} (hI : mI nR nB f) (h : mBallot f b) : ∃ n : Nat, n < nB ∧ b = nI n := by
  have h0 : ¬ b < 0 := fun q => by have h1 := h.1; rw [fa_lt] at q; rw [fa_le] at h1; omega
  obtain ⟨j, hj, rfl⟩ := nI_of h0
  have h2 := h.2
  have hR := hI.2.2.2.2
  rw [hI.2.2.2.1, nI_ltI hj (by omega)] at h2
  exact ⟨j, h2, rfl⟩
theorem c_nat {c : Int32} (h : xCho c) : ∃ n : Nat, n < 3 ∧ c = nI n := by
  have h0 : ¬ c < 0 := fun q => by have h1 := h.1; rw [fa_lt] at q; rw [fa_le] at h1; omega
  obtain ⟨j, hj, rfl⟩ := nI_of h0
  have h2 := h.2
  rw [show (3 : Int32) = nI 3 from rfl, nI_ltI hj (by decide)] at h2
  exact ⟨j, h2, rfl⟩
theorem s_nat {c : Int32} (h : xShard c) : ∃ n : Nat, n < 4 ∧ c = nI n := by
  have h0 : ¬ c < 0 := fun q => by have h1 := h.1; rw [fa_lt] at q; rw [fa_le] at h1; omega
  obtain ⟨j, hj, rfl⟩ := nI_of h0
  have h2 := h.2
  rw [show (4 : Int32) = nI 4 from rfl, nI_ltI hj (by decide)] at h2
  exact ⟨j, h2, rfl⟩
theorem m_12 {d c : Nat} (hd : d < 4) (hc : c < 3) : vp_in (3 * nI d + nI c) 12 := by
  rw [show (3 : Int32) = nI 3 from rfl, pk_mul, nI_add]
  exact vp_in_nI (by omega) (by decide)
theorem m_in12 {nR nB : Nat} {f : qFs} {g : qGs} {b c : Int32} (hI : mI nR nB f) (hD : mDi nB g) (h : mBallot f b) (hc : xCho c) : vp_in (3 * g 16 b.toNatClampNeg + c) 12 := by
  obtain ⟨n, hn, rfl⟩ := b_nat hI h
  obtain ⟨m, hm, rfl⟩ := c_nat hc
  have := hI.2.2.2.2
  rw [nI_clamp (by omega)]
  obtain ⟨d, hd, e⟩ := hD n hn
  rw [e]
  exact m_12 hd hm
theorem m_in12s {s c : Int32} (h : xShard s) (hc : xCho c) : vp_in (3 * s + c) 12 := by
  obtain ⟨n, hn, rfl⟩ := s_nat h
  obtain ⟨m, hm, rfl⟩ := c_nat hc
  exact m_12 hn hm
def mSendS (g : qGs) (k : Int32) : Nat → Int32 := if g 11 k.toNatClampNeg ≤ 0 then g 14 else upd (g 14) (g 11 k.toNatClampNeg - 1).toNatClampNeg 1
theorem send_m (g : qGs) (a b c d e : Nat → Int32) : va_up (va_up (va_up (va_up (va_up g 14 a) 13 b) 15 c) 16 d) 11 e = va_up (va_up (va_up (va_up (va_up g 13 b) 14 a) 15 c) 16 d) 11 e := by
  funext j
  unfold va_up
  by_cases h : j = 14
  · subst h; rfl
  · simp only [if_neg h]
theorem mW_set17 (cA cZ : ClassId) (ad : Nat → Nat) (f : qFs) (g : qGs) (A : Nat → Int32) : (mW cA cZ ad f g).set 12 (ad 17, .inl (cA, 12, .inl A)) = mW cA cZ ad f (va_up g 17 A) := rfl
