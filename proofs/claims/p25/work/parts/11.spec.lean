/-! what the class's small methods answer, in the words of its state -/
theorem qw1 : ∀ w ∈ (vx_atS RX0 218 "java/lang/IndexOutOfBoundsException" ["java/lang/RuntimeException", "java/lang/Exception"]).filter (fun w => !goodWord w), w ∈ qBad "java/lang/IndexOutOfBoundsException" := by decide +kernel
theorem qw2 : ∀ w ∈ (vx_atS RX0 231 "java/lang/IllegalArgumentException" ["java/lang/RuntimeException", "java/lang/Exception"]).filter (fun w => !goodWord w), w ∈ qBad "java/lang/IllegalArgumentException" := by decide +kernel
theorem qw3 : ∀ w ∈ (vx_atS RX0 68 "java/lang/IllegalStateException" ["java/lang/RuntimeException", "java/lang/Exception"]).filter (fun w => !goodWord w), w ∈ qBad "java/lang/IllegalStateException" := by decide +kernel
theorem qg1 : ∀ w ∈ Cond.classLink RX0 214 "java/lang/IndexOutOfBoundsException" :: Cond.initialized "java/lang/IndexOutOfBoundsException" :: vx_atS RX0 218 "java/lang/IndexOutOfBoundsException" ["java/lang/RuntimeException", "java/lang/Exception"], vx_ot w = true := by decide +kernel
theorem qg2 : ∀ w ∈ Cond.classLink RX0 227 "java/lang/IllegalArgumentException" :: Cond.initialized "java/lang/IllegalArgumentException" :: vx_atS RX0 231 "java/lang/IllegalArgumentException" ["java/lang/RuntimeException", "java/lang/Exception"], vx_ot w = true := by decide +kernel
theorem qg3 : ∀ w ∈ Cond.classLink RX0 64 "java/lang/IllegalStateException" :: Cond.initialized "java/lang/IllegalStateException" :: vx_atS RX0 68 "java/lang/IllegalStateException" ["java/lang/RuntimeException", "java/lang/Exception"], vx_ot w = true := by decide +kernel
theorem qX_pass {P P' : String → Prop} {E : String} {st s t t2 : State} {H H1 : Heap} (h : qX P E st t) (hst : st.heap = H) (hH : H = s.heap) (ht : t.heap = H1) (h2 : t2.heap = H1) (hp : P E → P' E) : qX P' E s t2 := by
  obtain ⟨a, b, c⟩ := h
  rw [hst, hH, ht, ← h2] at b c
  exact ⟨hp a, b, c⟩
theorem n_lt {a b : Nat} (h : ¬ nI b ≤ nI a) (ha : a < 2 ^ 31) : a < b := by
  rcases Nat.lt_or_ge a b with q | q
  · exact q
  · exact absurd (nI_le q ha) h
theorem n_ge {a b : Nat} (h : nI b ≤ nI a) (ha : a < 2 ^ 31) (hb : b < 2 ^ 31) : b ≤ a := (nI_leI hb ha).mp h
abbrev xKey (k : Int32) : Prop := 0 ≤ k ∧ k < 100
abbrev xShard (s : Int32) : Prop := 0 ≤ s ∧ s < 4
abbrev xRange (f : qFs) (r : Int32) : Prop := 0 ≤ r ∧ r < f 5
abbrev xBallot (f : qFs) (b : Int32) : Prop := 0 ≤ b ∧ b < f 15
def xI (R B : Nat) (f : qFs) : Prop := f 5 = nI R ∧ 1 ≤ R ∧ R ≤ 8 ∧ f 15 = nI B ∧ B ≤ 60
theorem i_of {x : Int32} {n : Nat} (hn : n < 2 ^ 31) (h : ¬ x < 0) (h2 : ¬ nI n ≤ x) : vp_in x n := by
  rw [vp_in_iff]
  rw [fa_lt] at h
  rw [fa_le, nI_toInt hn] at h2
  have h0 : (0 : Int32).toInt = 0 := rfl
  omega
theorem i_and {a b x : Int32} (h1 : ¬ x < a) (h2 : ¬ b ≤ x) : a ≤ x ∧ x < b := by
  rw [fa_lt] at h1; rw [fa_le] at h2
  rw [fa_le, fa_lt]
  omega
theorem i_nl {a b x : Int32} (h : x < a) : ¬ (a ≤ x ∧ x < b) := fun q => by
  have h1 := q.1
  rw [fa_lt] at h; rw [fa_le] at h1
  omega
theorem i_nr {a b x : Int32} (h : b ≤ x) : ¬ (a ≤ x ∧ x < b) := fun q => by
  have h1 := q.2
  rw [fa_le] at h; rw [fa_lt] at h1
  omega
theorem i_in {x y : Int32} {n : Nat} (hn : n < 2 ^ 31) (h : 0 ≤ x ∧ x < y) (hy : y ≤ nI n) : vp_in x n := by
  rw [vp_in_iff]
  obtain ⟨h1, h2⟩ := h
  rw [fa_le] at h1 hy; rw [fa_lt] at h2; rw [nI_toInt hn] at hy
  have h0 : (0 : Int32).toInt = 0 := rfl
  omega
theorem x_in8 {R B : Nat} {f : qFs} {r : Int32} (hI : xI R B f) (h : xRange f r) : vp_in r 8 := i_in (by decide) h (by rw [hI.1]; exact nI_le hI.2.2.1 (by decide))
theorem x_in60 {R B : Nat} {f : qFs} {r : Int32} (hI : xI R B f) (h : xBallot f r) : vp_in r 60 := i_in (by decide) h (by rw [hI.2.2.2.1]; exact nI_le hI.2.2.2.2 (by decide))
theorem x_inT {s k : Int32} (h1 : xShard s) (h2 : xKey k) : vp_in (s * 100 + k) 400 := by
  obtain ⟨a, ha, rfl⟩ := nI_of2 (x := s) (M := 3) (n := 3) rfl (fun q => by have h := h1.1; rw [fa_lt] at q; rw [fa_le] at h; omega) (by have h := h1.2; rw [fa_lt] at h; rw [fa_le]; have e1 : (4 : Int32).toInt = 4 := rfl; have e2 : (3 : Int32).toInt = 3 := rfl; omega)
  obtain ⟨b, hb, rfl⟩ := nI_of2 (x := k) (M := 99) (n := 99) rfl (fun q => by have h := h2.1; rw [fa_lt] at q; rw [fa_le] at h; omega) (by have h := h2.2; rw [fa_lt] at h; rw [fa_le]; have e1 : (100 : Int32).toInt = 100 := rfl; have e2 : (99 : Int32).toInt = 99 := rfl; omega)
  have e : nI a * 100 + nI b = nI (a * 100 + b) := by
    rw [show (100 : Int32) = nI 100 from rfl, pk_mul, nI_add]
  rw [e]
  exact vp_in_nI (by omega) (by decide)
def xHome (f : qFs) (g : qGs) (r : Int32) : Int32 := if xRange f r then g 3 r.toNatClampNeg else -1
def xTarg (f : qFs) (g : qGs) (r : Int32) : Int32 := if xRange f r then g 4 r.toNatClampNeg else -1
def xLast (f : qFs) (g : qGs) (r : Int32) : Int32 := if xRange f r then g 2 r.toNatClampNeg else -1
def xFirst (f : qFs) (g : qGs) (r : Int32) : Int32 := if r = 0 then 0 else xLast f g (r - 1) + 1
def xRowOf (g : qGs) (s k : Int32) : Int32 := if xShard s ∧ xKey k then g 0 (s * 100 + k).toNatClampNeg else -1
def xHoldN (last : Nat → Int32) (k : Int32) : Nat → Nat → Nat
  | i, 0 => i
  | i, n + 1 => if k ≤ last i then i else xHoldN last k (i + 1) n
def xHold (R : Nat) (g : qGs) (k : Int32) : Nat := xHoldN (g 2) k 0 (R - 1)
def xRead (R : Nat) (f : qFs) (g : qGs) (k : Int32) : Int32 := xRowOf g (xHome f g (nI (xHold R g k))) k
def xDist (a : Int32) : Int32 := if a = -1 then -1 else a / 10
def cntR (p : Nat → Bool) : Nat → Nat → Nat
  | _, 0 => 0
  | lo, n + 1 => (if p lo = true then 1 else 0) + cntR p (lo + 1) n
def cnt (p : Nat → Bool) (lo hi : Nat) : Nat := cntR p lo (hi - lo)
theorem cnt_end {p : Nat → Bool} {lo hi : Nat} (h : hi ≤ lo) : cnt p lo hi = 0 := by
  unfold cnt; rw [Nat.sub_eq_zero_of_le h]; rfl
theorem cnt_step {p : Nat → Bool} {lo hi : Nat} (h : lo < hi) : cnt p lo hi = (if p lo = true then 1 else 0) + cnt p (lo + 1) hi := by
  unfold cnt
  rw [show hi - lo = (hi - (lo + 1)) + 1 by omega]; rfl
theorem cnt_y {p : Nat → Bool} {lo hi : Nat} (h : lo < hi) (hp : p lo = true) : cnt p lo hi = 1 + cnt p (lo + 1) hi := by rw [cnt_step h, if_pos hp]
theorem cnt_n {p : Nat → Bool} {lo hi : Nat} (h : lo < hi) (hp : ¬ p lo = true) : cnt p lo hi = cnt p (lo + 1) hi := by rw [cnt_step h, if_neg hp, Nat.zero_add]
/-- one behind the last key up to l that there is -/
def hiOf (l : Int32) : Nat := if l < 0 then 0 else min (l.toNatClampNeg + 1) 100
theorem x_R1 {nR nB : Nat} {f : qFs} (hI : xI nR nB f) : f 5 - 1 = nI (nR - 1) := by
  rw [hI.1]; exact pk_sub (b := 1) hI.2.1
theorem x_B1 {nR nB : Nat} {f : qFs} (hI : xI nR nB f) : f 15 - 1 = nI nB - 1 := by rw [hI.2.2.2.1]
theorem xHold_y {last : Nat → Int32} {k : Int32} {i n : Nat} (h : i < n) (hk : k ≤ last i) : xHoldN last k i (n - i) = i := by
  rw [show n - i = (n - (i + 1)) + 1 by omega]
  show (if k ≤ last i then i else _) = i
  rw [if_pos hk]
theorem xHold_n {last : Nat → Int32} {k : Int32} {i n : Nat} (h : i < n) (hk : ¬ k ≤ last i) : xHoldN last k i (n - i) = xHoldN last k (i + 1) (n - (i + 1)) := by
  rw [show n - i = (n - (i + 1)) + 1 by omega]
  show (if k ≤ last i then i else _) = _
  rw [if_neg hk]
theorem xHold_e {last : Nat → Int32} {k : Int32} {i n : Nat} (h : n ≤ i) : xHoldN last k i (n - i) = i := by
  rw [Nat.sub_eq_zero_of_le h]; rfl
theorem hi_le (l : Int32) : hiOf l ≤ 100 := by unfold hiOf; split <;> omega
theorem hi_out {l : Int32} {k : Nat} (h : l < nI k) (hk : k < 2 ^ 31) : hiOf l ≤ k := by
  unfold hiOf
  split
  · omega
  · rename_i h0
    obtain ⟨j, hj, rfl⟩ := nI_of h0
    rw [nI_ltI hj hk] at h
    rw [nI_clamp hj]
    omega
theorem hi_in {l : Int32} {k : Nat} (h : ¬ l < nI k) (h2 : ¬ (100 : Int32) ≤ nI k) (hk : k < 2 ^ 31) : k < hiOf l := by
  have h3 : k < 100 := by
    rw [show (100 : Int32) = nI 100 from rfl, nI_leI (by decide) hk] at h2
    omega
  unfold hiOf
  split
  · rename_i h0
    exact absurd (by rw [fa_lt] at h0 ⊢; rw [nI_toInt hk]; have e0 : (0 : Int32).toInt = 0 := rfl; omega) h
  · rename_i h0
    obtain ⟨j, hj, rfl⟩ := nI_of h0
    rw [nI_ltI hj hk] at h
    rw [nI_clamp hj]
    omega
abbrev xOpen (f : qFs) (g : qGs) (b : Int32) : Prop := ¬ f 7 = 0 ∧ xBallot f b ∧ g 10 b.toNatClampNeg = f 8
def xLatN (p : Nat → Bool) : Nat → Int32
  | 0 => -1
  | n + 1 => if p n = true then nI n else xLatN p n
abbrev xLatP (f : qFs) (g : qGs) (k : Int32) : Nat → Bool := fun j => decide (xOpen f g (nI j) ∧ g 9 j = k)
abbrev xRowP (g : qGs) (sh : Int32) : Nat → Bool := fun j => decide (¬ xRowOf g sh (nI j) = -1)
def upN (p : Nat → Bool) : Nat → Nat → Int32
  | _, 0 => -1
  | lo, n + 1 => if p lo = true then nI lo else upN p (lo + 1) n
theorem upN_e {p : Nat → Bool} {lo hi : Nat} (h : hi ≤ lo) : upN p lo (hi - lo) = -1 := by rw [Nat.sub_eq_zero_of_le h]; rfl
theorem upN_y {p : Nat → Bool} {lo hi : Nat} (h : lo < hi) (hp : p lo = true) : upN p lo (hi - lo) = nI lo := by
  rw [show hi - lo = (hi - (lo + 1)) + 1 by omega]
  show (if p lo = true then _ else _) = _
  rw [if_pos hp]
theorem upN_n {p : Nat → Bool} {lo hi : Nat} (h : lo < hi) (hp : ¬ p lo = true) : upN p lo (hi - lo) = upN p (lo + 1) (hi - (lo + 1)) := by
  rw [show hi - lo = (hi - (lo + 1)) + 1 by omega]
  show (if p lo = true then _ else _) = _
  rw [if_neg hp]
abbrev xLowP (f : qFs) (g : qGs) (r : Int32) : Nat → Bool := fun j => decide (¬ xRowOf g (xHome f g r) (nI j) = -1 ∧ xRowOf g (xTarg f g r) (nI j) = -1)
theorem dt {P : Prop} [Decidable P] (h : P) : decide P = true := decide_eq_true h
theorem df {P : Prop} [Decidable P] (h : ¬ P) : ¬ decide P = true := fun q => h (of_decide_eq_true q)
theorem latN_out {i : Nat} (hi : i ≤ 60) (h : nI i - 1 < 0) : i = 0 := by
  cases i with
  | zero => rfl
  | succ j =>
    rw [nI_pred] at h
    exact absurd h (nI_pos (by omega))
theorem latN_in {i : Nat} (h : ¬ nI i - 1 < 0) : ∃ j, i = j + 1 := by
  cases i with
  | zero => exact absurd (by decide) h
  | succ j => exact ⟨j, rfl⟩
theorem up_self {α : Type} (g : Nat → α) (k : Nat) : va_up g k (g k) = g := by
  funext j
  unfold va_up
  split
  · rename_i h; rw [h]
  · rfl
def xPut (row : Nat → Int32) (sh k a : Int32) : Nat → Int32 := if xShard sh ∧ xKey k then upd row (sh * 100 + k).toNatClampNeg a else row
def xPutG (g : qGs) (sh k a : Int32) : qGs := va_up g 0 (xPut (g 0) sh k a)
def xWriteG (R : Nat) (f : qFs) (g : qGs) (k a : Int32) : qGs := xPutG (xPutG g (xHome f g (nI (xHold R g k))) k a) (xTarg f g (nI (xHold R g k))) k a
def xDropN (sh : Int32) : qGs → Nat → Nat → qGs
  | g, _, 0 => g
  | g, lo, n + 1 => xDropN sh (xPutG g sh (nI lo) (-1)) (lo + 1) n
theorem xDropN_e {sh : Int32} {g : qGs} {lo hi : Nat} (h : hi ≤ lo) : xDropN sh g lo (hi - lo) = g := by rw [Nat.sub_eq_zero_of_le h]; rfl
theorem xDropN_s {sh : Int32} {g : qGs} {lo hi : Nat} (h : lo < hi) : xDropN sh g lo (hi - lo) = xDropN sh (xPutG g sh (nI lo) (-1)) (lo + 1) (hi - (lo + 1)) := by
  rw [show hi - lo = (hi - (lo + 1)) + 1 by omega]; rfl
def xCopyG (g : qGs) (i j : Nat) : qGs := va_up (va_up (va_up g 2 (upd (g 2) j (g 2 i))) 3 (upd (g 3) j (g 3 i))) 4 (upd (g 4) j (g 4 i))
def xUpG (r : Nat) : qGs → Nat → qGs
  | g, 0 => g
  | g, n + 1 => xUpG r (xCopyG g (r + n) (r + n + 1)) n
def xDnG : qGs → Nat → Nat → qGs
  | g, _, 0 => g
  | g, t, n + 1 => xDnG (xCopyG g (t + 1) t) (t + 1) n
theorem xDnG_e {g : qGs} {lo hi : Nat} (h : hi ≤ lo) : xDnG g lo (hi - lo) = g := by rw [Nat.sub_eq_zero_of_le h]; rfl
theorem xDnG_s {g : qGs} {lo hi : Nat} (h : lo < hi) : xDnG g lo (hi - lo) = xDnG (xCopyG g (lo + 1) lo) (lo + 1) (hi - (lo + 1)) := by
  rw [show hi - lo = (hi - (lo + 1)) + 1 by omega]; rfl
theorem i_m1 (x : Int32) : x + Int32.ofInt (-1) = x - 1 := by rw [Int32.sub_eq_add_neg]; rfl
theorem i_p1 (x : Int32) : x + Int32.ofInt 1 = x + 1 := rfl
abbrev eIO : String := "java/lang/IndexOutOfBoundsException"
abbrev eIA : String := "java/lang/IllegalArgumentException"
abbrev eIS : String := "java/lang/IllegalStateException"
abbrev xAdr (a : Int32) : Prop := 0 ≤ a ∧ a < 40
abbrev xCho (c : Int32) : Prop := 0 ≤ c ∧ c < 3
theorem i_and2 {a b x : Int32} (h1 : ¬ x < a) (h2 : x < b) : a ≤ x ∧ x < b := ⟨fa_of_nlt h1, h2⟩
theorem x_nat {nR nB : Nat} {f : qFs} {r : Int32} (hI : xI nR nB f) (h : xRange f r) : ∃ n : Nat, n < nR ∧ r = nI n := by
  have h0 : ¬ r < 0 := fun q => by have h1 := h.1; rw [fa_lt] at q; rw [fa_le] at h1; omega
  obtain ⟨j, hj, rfl⟩ := nI_of h0
  have h2 := h.2
  have hR := hI.2.2.1
  rw [hI.1, nI_ltI hj (by omega)] at h2
  exact ⟨j, h2, rfl⟩
theorem k_nat {k : Int32} (h : xKey k) : ∃ n : Nat, n < 100 ∧ k = nI n := by
  have h0 : ¬ k < 0 := fun q => by have h1 := h.1; rw [fa_lt] at q; rw [fa_le] at h1; omega
  obtain ⟨j, hj, rfl⟩ := nI_of h0
  have h2 := h.2
  rw [show (100 : Int32) = nI 100 from rfl, nI_ltI hj (by decide)] at h2
  exact ⟨j, h2, rfl⟩
theorem x_in100 {k : Int32} (h : xKey k) : vp_in k 100 := i_in (by decide) h (by decide)
theorem xHome_of {f : qFs} {g : qGs} {r : Int32} (h : xRange f r) : xHome f g r = g 3 r.toNatClampNeg := if_pos h
theorem xTarg_of {f : qFs} {g : qGs} {r : Int32} (h : xRange f r) : xTarg f g r = g 4 r.toNatClampNeg := if_pos h
theorem xHoldN_le (last : Nat → Int32) (k : Int32) : ∀ (n i : Nat), xHoldN last k i n ≤ i + n
  | 0, i => Nat.le_refl _
  | n + 1, i => by
    show (if k ≤ last i then i else xHoldN last k (i + 1) n) ≤ _
    have := xHoldN_le last k n (i + 1)
    split <;> omega
theorem xHold_lt {nR nB : Nat} {f : qFs} (hI : xI nR nB f) (g : qGs) (k : Int32) : xHold nR g k < nR := by
  have h1 := hI.2.1
  have := xHoldN_le (g 2) k (nR - 1) 0
  unfold xHold
  omega
theorem x_R8 {nR nB : Nat} {f : qFs} (hI : xI nR nB f) (h : f 5 < 8) : nR < 8 := by
  have h8 := hI.2.2.1
  rw [hI.1, show (8 : Int32) = nI 8 from rfl, nI_ltI (by omega) (by decide)] at h
  exact h
theorem x_B60 {nR nB : Nat} {f : qFs} (hI : xI nR nB f) (h : f 15 < 60) : nB < 60 := by
  have h8 := hI.2.2.2.2
  rw [hI.2.2.2.1, show (60 : Int32) = nI 60 from rfl, nI_ltI (by omega) (by decide)] at h
  exact h
/-- the last keys are keys -/
def xL (nR : Nat) (g : qGs) : Prop := ∀ i, i < nR → ∃ j : Nat, j < 100 ∧ g 2 i = nI j
theorem x_first {nR nB : Nat} {f : qFs} {g : qGs} {r : Int32} (hI : xI nR nB f) (hL : xL nR g) (h : xRange f r) : ∃ lo : Nat, lo ≤ 100 ∧ xFirst f g r = nI lo := by
  obtain ⟨n, hn, rfl⟩ := x_nat hI h
  have hR := hI.2.2.1
  unfold xFirst
  cases n with
  | zero => exact ⟨0, by omega, by rw [if_pos (show nI 0 = 0 from rfl)]; rfl⟩
  | succ m =>
    rw [if_neg (nI_ne0 (by omega) (by omega)), nI_pred]
    unfold xLast
    rw [if_pos ⟨nI_pos' (by omega), by rw [hI.1]; exact nI_lt (by omega) (by omega)⟩, nI_clamp (by omega)]
    obtain ⟨j, hj, e⟩ := hL m (by omega)
    exact ⟨j + 1, by omega, by rw [e, nI_1]⟩
theorem hi99 : hiOf 99 = 100 := by decide
def xDropG (f : qFs) (g : qGs) (sh r : Int32) : qGs := xDropN sh g (xFirst f g r).toNatClampNeg (hiOf (xLast f g r) - (xFirst f g r).toNatClampNeg)
def xStepK (f : qFs) (g : qGs) (r : Int32) : Int32 := upN (xLowP f g r) (xFirst f g r).toNatClampNeg (hiOf (xLast f g r) - (xFirst f g r).toNatClampNeg)
def xMany (f : qFs) (g : qGs) (sh r : Int32) : Int32 := nI (cnt (xRowP g sh) (xFirst f g r).toNatClampNeg (hiOf (xLast f g r)))
def xStepG (f : qFs) (g : qGs) (r : Int32) : qGs := if xStepK f g r = -1 then va_up (va_up (xDropG f g (xHome f g r) r) 3 (upd (xDropG f g (xHome f g r) r 3) r.toNatClampNeg (xTarg f g r))) 4 (upd (xDropG f g (xHome f g r) r 4) r.toNatClampNeg (-1)) else xPutG g (xTarg f g r) (xStepK f g r) (xRowOf g (xHome f g r) (xStepK f g r))
def xSendL (f : qFs) (g : qGs) (nB : Nat) (k : Int32) : Int32 := xLatN (xLatP f g k) nB
def xSendS (f : qFs) (g : qGs) (nB : Nat) (k : Int32) : Nat → Int32 := if xBallot f (xSendL f g nB k) then upd (g 13) (xSendL f g nB k).toNatClampNeg 1 else g 13
theorem fix_step (k : Nat) (p q : Nat → Int32) : upd (fun j => if j < k then p j else q j) k (p k) = fun j => if j < k + 1 then p j else q j := by
  funext j
  unfold upd
  by_cases h : j = k
  · subst h; rw [if_pos rfl, if_pos (by omega)]
  · rw [if_neg h]
    by_cases h2 : j < k
    · show (if j < k then p j else q j) = _
      rw [if_pos h2, if_pos (by omega)]
    · show (if j < k then p j else q j) = _
      rw [if_neg h2, if_neg (by omega)]
theorem send_perm (g : qGs) (a b c d e : Nat → Int32) : va_up (va_up (va_up (va_up (va_up g 9 a) 10 b) 11 c) 12 d) 13 e = va_up (va_up (va_up (va_up (va_up g 9 a) 10 b) 11 c) 12 d) 13 e := rfl
theorem send_perm2 (g : qGs) (a b c d e : Nat → Int32) : va_up (va_up (va_up (va_up (va_up g 13 e) 9 a) 10 b) 11 c) 12 d = va_up (va_up (va_up (va_up (va_up g 9 a) 10 b) 11 c) 12 d) 13 e := by
  funext j
  unfold va_up
  by_cases h : j = 13
  · subst h; rfl
  · simp only [if_neg h]
theorem x_rangeAt {f : qFs} {nR i : Nat} (hR : f 5 = nI nR) (h8 : nR ≤ 8) (h : i < nR) : xRange f (nI i) := ⟨nI_pos' (by omega), by rw [hR]; exact nI_lt (by omega) (by omega)⟩
theorem x_lastAt {f : qFs} {g : qGs} {nR i : Nat} (hR : f 5 = nI nR) (h8 : nR ≤ 8) (h : i < nR) : xLast f g (nI i) = g 2 i := by
  unfold xLast
  rw [if_pos (x_rangeAt hR h8 h), nI_clamp (by omega)]
