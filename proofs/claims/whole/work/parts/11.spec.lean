/-! what the class's small methods answer, in the words of its state -/
theorem qw1 : ∀ w ∈ (vx_atS RX0 215 "java/lang/IndexOutOfBoundsException" ["java/lang/RuntimeException", "java/lang/Exception"]).filter (fun w => !goodWord w), w ∈ ([] : List Cond) := by decide +kernel
theorem qw2 : ∀ w ∈ (vx_atS RX0 228 "java/lang/IllegalArgumentException" ["java/lang/RuntimeException", "java/lang/Exception"]).filter (fun w => !goodWord w), w ∈ ([] : List Cond) := by decide +kernel
theorem qw3 : ∀ w ∈ (vx_atS RX0 68 "java/lang/IllegalStateException" ["java/lang/RuntimeException", "java/lang/Exception"]).filter (fun w => !goodWord w), w ∈ ([] : List Cond) := by decide +kernel
theorem qg1 : ∀ w ∈ Cond.classLink RX0 211 "java/lang/IndexOutOfBoundsException" :: Cond.initialized "java/lang/IndexOutOfBoundsException" :: vx_atS RX0 215 "java/lang/IndexOutOfBoundsException" ["java/lang/RuntimeException", "java/lang/Exception"], vx_ot w = true := by decide +kernel
theorem qg2 : ∀ w ∈ Cond.classLink RX0 224 "java/lang/IllegalArgumentException" :: Cond.initialized "java/lang/IllegalArgumentException" :: vx_atS RX0 228 "java/lang/IllegalArgumentException" ["java/lang/RuntimeException", "java/lang/Exception"], vx_ot w = true := by decide +kernel
theorem qg3 : ∀ w ∈ Cond.classLink RX0 64 "java/lang/IllegalStateException" :: Cond.initialized "java/lang/IllegalStateException" :: vx_atS RX0 68 "java/lang/IllegalStateException" ["java/lang/RuntimeException", "java/lang/Exception"], vx_ot w = true := by decide +kernel
theorem qX_pass {P P' : String → Prop} {E : String} {st s t t2 : State} {H H1 : Heap} (h : qX P E st t) (hst : st.heap = H) (hH : H = s.heap) (ht : t.heap = H1) (h2 : t2.heap = H1) (hp : P E → P' E) : qX P' E s t2 := by
  obtain ⟨a, b, c⟩ := h
  rw [hst, hH, ht, ← h2] at b c
  exact ⟨hp a, b, c⟩
abbrev xKey (k : Int32) : Prop := 0 ≤ k ∧ k < 100
abbrev xShard (s : Int32) : Prop := 0 ≤ s ∧ s < 4
abbrev xRange (f : qFs) (r : Int32) : Prop := 0 ≤ r ∧ r < f 5
abbrev xBallot (f : qFs) (b : Int32) : Prop := 0 ≤ b ∧ b < f 15
def xI (R B : Nat) (f : qFs) : Prop := f 5 = nI R ∧ 1 ≤ R ∧ R ≤ 8 ∧ f 15 = nI B ∧ B ≤ 60
theorem i_of {x : Int32} {n : Nat} (hn : n < 2 ^ 31) (h : ¬ x < 0) (h2 : ¬ nI n ≤ x) : vp_in x n := by
  rw [vp_in_iff]
  rw [fa_lt] at h
  rw [fa_le, nI_toInt hn] at h2
  have h0 : (0 : Int32).toInt = 0 := rfl
  omega
theorem i_and {a b x : Int32} (h1 : ¬ x < a) (h2 : ¬ b ≤ x) : a ≤ x ∧ x < b := by
  rw [fa_lt] at h1; rw [fa_le] at h2
  rw [fa_le, fa_lt]
  omega
theorem i_nl {a b x : Int32} (h : x < a) : ¬ (a ≤ x ∧ x < b) := fun q => by
  have h1 := q.1
  rw [fa_lt] at h; rw [fa_le] at h1
  omega
theorem i_nr {a b x : Int32} (h : b ≤ x) : ¬ (a ≤ x ∧ x < b) := fun q => by
  have h1 := q.2
  rw [fa_le] at h; rw [fa_lt] at h1
  omega
theorem i_in {x y : Int32} {n : Nat} (hn : n < 2 ^ 31) (h : 0 ≤ x ∧ x < y) (hy : y ≤ nI n) : vp_in x n := by
  rw [vp_in_iff]
  obtain ⟨h1, h2⟩ := h
  rw [fa_le] at h1 hy; rw [fa_lt] at h2; rw [nI_toInt hn] at hy
  have h0 : (0 : Int32).toInt = 0 := rfl
  omega
theorem x_in8 {R B : Nat} {f : qFs} {r : Int32} (hI : xI R B f) (h : xRange f r) : vp_in r 8 := i_in (by decide) h (by rw [hI.1]; exact nI_le hI.2.2.1 (by decide))
theorem x_in60 {R B : Nat} {f : qFs} {r : Int32} (hI : xI R B f) (h : xBallot f r) : vp_in r 60 := i_in (by decide) h (by rw [hI.2.2.2.1]; exact nI_le hI.2.2.2.2 (by decide))
theorem x_inT {s k : Int32} (h1 : xShard s) (h2 : xKey k) : vp_in (s * 100 + k) 400 := by
  obtain ⟨a, ha, rfl⟩ := nI_of2 (x := s) (M := 3) (n := 3) rfl (fun q => by have h := h1.1; rw [fa_lt] at q; rw [fa_le] at h; omega) (by have h := h1.2; rw [fa_lt] at h; rw [fa_le]; have e1 : (4 : Int32).toInt = 4 := rfl; have e2 : (3 : Int32).toInt = 3 := rfl; omega)
  obtain ⟨b, hb, rfl⟩ := nI_of2 (x := k) (M := 99) (n := 99) rfl (fun q => by have h := h2.1; rw [fa_lt] at q; rw [fa_le] at h; omega) (by have h := h2.2; rw [fa_lt] at h; rw [fa_le]; have e1 : (100 : Int32).toInt = 100 := rfl; have e2 : (99 : Int32).toInt = 99 := rfl; omega)
  have e : nI a * 100 + nI b = nI (a * 100 + b) := by
    rw [show (100 : Int32) = nI 100 from rfl, pk_mul, nI_add]
  rw [e]
  exact vp_in_nI (by omega) (by decide)
def xHome (f : qFs) (g : qGs) (r : Int32) : Int32 := if xRange f r then g 3 r.toNatClampNeg else -1
def xTarg (f : qFs) (g : qGs) (r : Int32) : Int32 := if xRange f r then g 4 r.toNatClampNeg else -1
def xLast (f : qFs) (g : qGs) (r : Int32) : Int32 := if xRange f r then g 2 r.toNatClampNeg else -1
def xFirst (f : qFs) (g : qGs) (r : Int32) : Int32 := if r = 0 then 0 else xLast f g (r - 1) + 1
def xRowOf (g : qGs) (s k : Int32) : Int32 := if xShard s ∧ xKey k then g 0 (s * 100 + k).toNatClampNeg else -1
def xHoldN (last : Nat → Int32) (k : Int32) : Nat → Nat → Nat
  | i, 0 => i
  | i, n + 1 => if k ≤ last i then i else xHoldN last k (i + 1) n
def xHold (R : Nat) (g : qGs) (k : Int32) : Nat := xHoldN (g 2) k 0 (R - 1)
def xRead (R : Nat) (f : qFs) (g : qGs) (k : Int32) : Int32 := xRowOf g (xHome f g (nI (xHold R g k))) k
def xDist (a : Int32) : Int32 := if a = -1 then -1 else a / 10
def cntR (p : Nat → Bool) : Nat → Nat → Nat
  | _, 0 => 0
  | lo, n + 1 => (if p lo = true then 1 else 0) + cntR p (lo + 1) n
def cnt (p : Nat → Bool) (lo hi : Nat) : Nat := cntR p lo (hi - lo)
theorem cnt_end {p : Nat → Bool} {lo hi : Nat} (h : hi ≤ lo) : cnt p lo hi = 0 := by
  unfold cnt; rw [Nat.sub_eq_zero_of_le h]; rfl
theorem cnt_step {p : Nat → Bool} {lo hi : Nat} (h : lo < hi) : cnt p lo hi = (if p lo = true then 1 else 0) + cnt p (lo + 1) hi := by
  unfold cnt
  rw [show hi - lo = (hi - (lo + 1)) + 1 by omega]; rfl
theorem cnt_y {p : Nat → Bool} {lo hi : Nat} (h : lo < hi) (hp : p lo = true) : cnt p lo hi = 1 + cnt p (lo + 1) hi := by rw [cnt_step h, if_pos hp]
theorem cnt_n {p : Nat → Bool} {lo hi : Nat} (h : lo < hi) (hp : ¬ p lo = true) : cnt p lo hi = cnt p (lo + 1) hi := by rw [cnt_step h, if_neg hp, Nat.zero_add]
/-- one behind the last key up to l that there is -/
def hiOf (l : Int32) : Nat := if l < 0 then 0 else min (l.toNatClampNeg + 1) 100
