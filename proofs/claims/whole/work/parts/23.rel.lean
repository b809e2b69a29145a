/-! the relation between the class's state and the reference's -/
def rDir (nR : Nat) (fi : Nat → Nat) (g G : qGs) : Prop := fi 0 = 0 ∧ fi nR = 100 ∧ (∀ i, i < nR → fi i < fi (i + 1)) ∧ (∀ i, i < nR → G 4 i = nI (fi i)) ∧ (∀ i, i < nR → g 2 i = nI (fi (i + 1) - 1))
def rSh (nR : Nat) (g G : qGs) : Prop := ∀ i, i < nR → g 3 i = G 5 i ∧ g 4 i = G 6 i ∧ (∃ h, h < 4 ∧ g 3 i = nI h) ∧ (g 4 i = -1 ∨ ∃ s, s < 4 ∧ g 4 i = nI s ∧ ¬ g 4 i = g 3 i)
def rRow (nR : Nat) (fi : Nat → Nat) (g G : qGs) : Prop := ∀ i k s, i < nR → fi i ≤ k → k < fi (i + 1) → s < 4 → g 0 (s * 100 + k) = if g 3 i = nI s then G 1 k - 1 else if g 4 i = nI s ∧ ¬ G 7 k = 0 then G 1 k - 1 else -1
def rAdr (G : qGs) : Prop := ∀ k, k < 100 → G 1 k = 0 ∨ ∃ a, a < 40 ∧ G 1 k = nI (a + 1)
def rMem (t : Nat) (f F : qFs) : Prop := f 1 = F 2 ∧ -(t : Int) ≤ (F 2).toInt ∧ (F 2).toInt ≤ 40
abbrev rCP (g : qGs) (d c : Nat) : Nat → Bool := fun j => decide (g 13 j = 2 ∧ g 12 j = nI d ∧ g 14 j = nI c)
def rBal (nB v : Nat) (g G : qGs) : Prop := ∀ b, b < nB → g 10 b = G 15 b ∧ g 11 b = G 13 b ∧ g 12 b = G 16 b ∧ g 13 b = G 14 b ∧ (∃ w, w ≤ v ∧ g 10 b = nI w) ∧ (∃ d, d < 4 ∧ g 12 b = nI d)
def rCnt (nB : Nat) (g G : qGs) : Prop := ∀ d c, d < 4 → c < 3 → G 17 (3 * d + c) = nI (cnt (rCP g d c) 0 nB)
def rRoll (nB : Nat) (f : qFs) (g G : qGs) : Prop := ¬ f 7 = 0 → ∀ k, k < 100 → g 6 k = G 10 k - 1 ∧ (G 10 k = 0 ∨ ∃ d, d < 4 ∧ G 10 k = nI (d + 1)) ∧ G 11 k = xLatN (xLatP f g (nI k)) nB + 1
def rLaid (t v : Nat) (f F : qFs) : Prop := f 7 = F 8 ∧ f 8 = nI v ∧ F 9 = nI v ∧ v ≤ t
def Rel (t nR nB : Nat) (f : qFs) (g : qGs) (F : qFs) (G : qGs) : Prop := xI nR nB f ∧ mI nR nB F ∧ rMem t f F ∧ (∃ fi, rDir nR fi g G ∧ rRow nR fi g G) ∧ rSh nR g G ∧ rAdr G ∧ (∃ v, rLaid t v f F ∧ rBal nB v g G) ∧ rCnt nB g G ∧ mLa nB G ∧ rRoll nB f g G
def qRes (t : Nat) (z bz : Int32) (u : (qFs × qGs) × (Nat → Int64)) (v : qFs × qGs) : Prop := v.1 0 = z ∧ (z = 0 → u.2 0 = bz.toInt64) ∧ ∃ nR nB, Rel (t + 1) nR nB u.1.1 u.1.2 v.1 v.2
theorem Rel.xL {t nR nB : Nat} {f : qFs} {g : qGs} {F : qFs} {G : qGs} (h : Rel t nR nB f g F G) : xL nR g := by
  obtain ⟨h1, h2, h3, ⟨fi, hd, hr⟩, h5⟩ := h
  obtain ⟨a, b, c, d, e⟩ := hd
  intro i hi
  have hc := c i hi
  have h100 : fi (i + 1) ≤ 100 := by
    have : ∀ j, j ≤ nR → i + 1 ≤ j → fi (i + 1) ≤ fi j := by
      intro j
      induction j with
      | zero => intro _ q; omega
      | succ j ih =>
        intro q1 q2
        by_cases q : i + 1 = j + 1
        · rw [q]; exact Nat.le_refl _
        · have := ih (by omega) (by omega)
          have := c j (by omega)
          omega
    have := this nR (Nat.le_refl _) (by omega)
    omega
  exact ⟨fi (i + 1) - 1, by omega, e i hi⟩
theorem rDir.mono {nR : Nat} {fi : Nat → Nat} {g G : qGs} (h : rDir nR fi g G) {i : Nat} : ∀ j, i ≤ j → j ≤ nR → fi i ≤ fi j := by
  intro j
  induction j with
  | zero => intro q _; rw [show i = 0 by omega]; exact Nat.le_refl _
  | succ j ih =>
    intro q1 q2
    by_cases q : i = j + 1
    · rw [q]; exact Nat.le_refl _
    · have h1 := ih (by omega) (by omega)
      have h2 := h.2.2.1 j (by omega)
      omega
theorem rDir.le {nR : Nat} {fi : Nat → Nat} {g G : qGs} (h : rDir nR fi g G) {i : Nat} (hi : i ≤ nR) : fi i ≤ 100 := by
  have := h.mono nR hi (Nat.le_refl _)
  rw [h.2.1] at this
  exact this
theorem rDir.beh {nR : Nat} {fi : Nat → Nat} {g G : qGs} (h : rDir nR fi g G) {i : Nat} (hi : i < nR) : mBeh nR G i = nI (fi (i + 1)) := by
  unfold mBeh
  by_cases q : i + 1 = nR
  · rw [if_pos q, q, h.2.1]; rfl
  · rw [if_neg q]; exact h.2.2.2.1 (i + 1) (by omega)
theorem rDir.mL {nR : Nat} {fi : Nat → Nat} {g G : qGs} (h : rDir nR fi g G) : mL nR G := fun i hi => ⟨fi i, fi (i + 1), h.2.2.2.1 i hi, h.beh hi, Nat.le_of_lt (h.2.2.1 i hi), h.le (by omega)⟩
theorem Rel.mL {t nR nB : Nat} {f : qFs} {g : qGs} {F : qFs} {G : qGs} (h : Rel t nR nB f g F G) : mL nR G := by
  obtain ⟨h1, h2, h3, ⟨fi, hd, hr⟩, h5⟩ := h
  exact hd.mL
theorem Rel.mDi {t nR nB : Nat} {f : qFs} {g : qGs} {F : qFs} {G : qGs} (h : Rel t nR nB f g F G) : mDi nB G := by
  obtain ⟨h1, h2, h3, h4, h5, h6, ⟨v, h7, h8⟩, h9⟩ := h
  intro b hb
  obtain ⟨a1, a2, a3, a4, a5, d, hd, e⟩ := h8 b hb
  exact ⟨d, hd, by rw [← a3]; exact e⟩
theorem cnt_cong {p q : Nat → Bool} : ∀ (n lo : Nat), (∀ j, lo ≤ j → j < lo + n → p j = q j) → cntR p lo n = cntR q lo n
  | 0, _, _ => rfl
  | n + 1, lo, h => by
    show (if p lo = true then 1 else 0) + cntR p (lo + 1) n = (if q lo = true then 1 else 0) + cntR q (lo + 1) n
    rw [h lo (Nat.le_refl _) (by omega), cnt_cong n (lo + 1) (fun j h1 h2 => h j (by omega) (by omega))]
theorem cntI {p q : Nat → Bool} {lo hi : Nat} (h : ∀ j, lo ≤ j → j < hi → p j = q j) : cnt p lo hi = cnt q lo hi := by
  unfold cnt
  exact cnt_cong _ _ (fun j h1 h2 => h j h1 (by omega))
theorem cntR_add (p : Nat → Bool) : ∀ (a lo b : Nat), cntR p lo (a + b) = cntR p lo a + cntR p (lo + a) b
  | 0, lo, b => by
    rw [Nat.zero_add, Nat.add_zero]
    show _ = 0 + _
    rw [Nat.zero_add]
  | a + 1, lo, b => by
    rw [show a + 1 + b = (a + b) + 1 by omega]
    show (if p lo = true then 1 else 0) + cntR p (lo + 1) (a + b) = ((if p lo = true then 1 else 0) + cntR p (lo + 1) a) + cntR p (lo + (a + 1)) b
    rw [cntR_add p a (lo + 1) b, show lo + 1 + a = lo + (a + 1) by omega]
    omega
theorem cnt_split (p : Nat → Bool) {lo mid hi : Nat} (h1 : lo ≤ mid) (h2 : mid ≤ hi) : cnt p lo hi = cnt p lo mid + cnt p mid hi := by
  unfold cnt
  rw [show hi - lo = (mid - lo) + (hi - mid) by omega, cntR_add, show lo + (mid - lo) = mid by omega]
theorem cnt_plus {p q : Nat → Bool} {b n : Nat} (hb : b < n) (h : ∀ j, j ≠ b → q j = p j) (hp : ¬ p b = true) (hq : q b = true) : cnt q 0 n = cnt p 0 n + 1 := by
  rw [cnt_split q (Nat.zero_le b) (Nat.le_of_lt hb), cnt_y hb hq, cnt_split p (Nat.zero_le b) (Nat.le_of_lt hb), cnt_n hb hp, cntI (p := q) (q := p) (lo := 0) (hi := b) (fun j _ h2 => h j (by omega)), cntI (p := q) (q := p) (lo := b + 1) (hi := n) (fun j h1 _ => h j (by omega))]
  omega
theorem upN_cong {p q : Nat → Bool} : ∀ (n lo : Nat), (∀ j, lo ≤ j → j < lo + n → p j = q j) → upN p lo n = upN q lo n
  | 0, _, _ => rfl
  | n + 1, lo, h => by
    show (if p lo = true then nI lo else upN p (lo + 1) n) = (if q lo = true then nI lo else upN q (lo + 1) n)
    rw [h lo (Nat.le_refl _) (by omega), upN_cong n (lo + 1) (fun j h1 h2 => h j (by omega) (by omega))]
theorem nI_nem1 {n : Nat} (h : n < 2 ^ 31) : ¬ nI n = -1 := by
  intro q
  have h1 := congrArg Int32.toInt q
  rw [nI_toInt h] at h1
  have e : (-1 : Int32).toInt = -1 := rfl
  omega
theorem upN_none {p : Nat → Bool} : ∀ (n lo : Nat), lo + n ≤ 100 → upN p lo n = -1 → ∀ j, lo ≤ j → j < lo + n → ¬ p j = true
  | 0, lo, _, _, j, h1, h2 => absurd h2 (by omega)
  | n + 1, lo, h0, h, j, h1, h2 => by
    have h : (if p lo = true then nI lo else upN p (lo + 1) n) = -1 := h
    by_cases c : p lo = true
    · rw [if_pos c] at h
      exact absurd h (nI_nem1 (by omega))
    · rw [if_neg c] at h
      by_cases e : j = lo
      · rw [e]; exact c
      · exact upN_none n (lo + 1) (by omega) h j (by omega) (by omega)
theorem i_back (a : Int32) : a + 1 - 1 = a := by rw [Int32.sub_eq_add_neg, Int32.add_assoc]; exact Int32.add_zero a
theorem i_forth (a : Int32) : a - 1 + 1 = a := by rw [Int32.sub_eq_add_neg, Int32.add_assoc]; exact Int32.add_zero a
theorem i_up {x : Int32} (h1 : -600 ≤ x.toInt) (h2 : x.toInt ≤ 100) : (x + 1).toInt = x.toInt + 1 := by
  rw [Int32.toInt_add]
  have e : (1 : Int32).toInt = 1 := rfl
  rw [e]
  exact Int.bmod_eq_of_le (by omega) (by omega)
theorem i_dn {x : Int32} (h1 : -600 ≤ x.toInt) (h2 : x.toInt ≤ 100) : (x - 1).toInt = x.toInt - 1 := by
  rw [Int32.toInt_sub]
  have e : (1 : Int32).toInt = 1 := rfl
  rw [e]
  exact Int.bmod_eq_of_le (by omega) (by omega)
theorem a_there {x : Int32} (h : x = 0 ∨ ∃ a : Nat, a < 40 ∧ x = nI (a + 1)) : x - 1 = -1 ↔ x ≤ 0 := by
  rcases h with rfl | ⟨a, ha, rfl⟩
  · exact ⟨fun _ => by decide, fun _ => by decide⟩
  · rw [nI_pred]
    refine ⟨fun q => absurd q (nI_nem1 (by omega)), fun q => absurd q ?_⟩
    rw [show (0 : Int32) = nI 0 from rfl]
    exact nI_ge (by omega) (by omega)
theorem nat_sh {s : Nat} (h : s < 4) : xShard (nI s) := ⟨nI_pos' (by omega), nI_lt h (by decide)⟩
theorem rDir.find {nR : Nat} {fi : Nat → Nat} {g G : qGs} (h : rDir nR fi g G) {k : Nat} (hk : k < 100) : ∃ i, i < nR ∧ fi i ≤ k ∧ k < fi (i + 1) := by
  have : ∀ n, n ≤ nR → (∃ i, i < n ∧ fi i ≤ k ∧ k < fi (i + 1)) ∨ fi n ≤ k := by
    intro n
    induction n with
    | zero => intro _; right; rw [h.1]; omega
    | succ n ih =>
      intro hn
      rcases ih (by omega) with ⟨i, a, b, c⟩ | q
      · exact Or.inl ⟨i, by omega, b, c⟩
      · rcases Nat.lt_or_ge k (fi (n + 1)) with r1 | r1
        · exact Or.inl ⟨n, by omega, q, r1⟩
        · exact Or.inr r1
  rcases this nR (Nat.le_refl _) with q | q
  · exact q
  · rw [h.2.1] at q; omega
theorem rDir.uniq {nR : Nat} {fi : Nat → Nat} {g G : qGs} (h : rDir nR fi g G) {i j k : Nat} (hi : i < nR) (hj : j < nR) (a : fi i ≤ k) (b : k < fi (i + 1)) (c : fi j ≤ k) (d : k < fi (j + 1)) : i = j := by
  rcases Nat.lt_trichotomy i j with q | q | q
  · have := h.mono (i := i + 1) j (by omega) (by omega)
    omega
  · exact q
  · have := h.mono (i := j + 1) i (by omega) (by omega)
    omega
theorem rDir.hold {nR : Nat} {fi : Nat → Nat} {g G : qGs} (h : rDir nR fi g G) {i k : Nat} (hi : i < nR) (a : fi i ≤ k) (b : k < fi (i + 1)) : xHold nR g (nI k) = i := by
  have hk : k < 100 := by
    have := h.le (i := i + 1) (by omega)
    omega
  have : ∀ n j, j + n = nR - 1 → j ≤ i → xHoldN (g 2) (nI k) j n = i := by
    intro n
    induction n with
    | zero => intro j q1 q2; show j = i; omega
    | succ n ih =>
      intro j q1 q2
      show (if nI k ≤ g 2 j then j else xHoldN (g 2) (nI k) (j + 1) n) = i
      have hj := h.2.2.1 j (by omega)
      have hle := h.le (i := j + 1) (by omega)
      by_cases c : nI k ≤ g 2 j
      · rw [if_pos c]
        rw [h.2.2.2.2 j (by omega), nI_leI (by omega) (by omega)] at c
        rcases Nat.lt_or_ge j i with q | q
        · have := h.mono (i := j + 1) i (by omega) (by omega)
          omega
        · omega
      · rw [if_neg c]
        rw [h.2.2.2.2 j (by omega), nI_leI (by omega) (by omega)] at c
        refine ih (j + 1) (by omega) ?_
        rcases Nat.lt_or_ge j i with q | q
        · omega
        · have e : j = i := by omega
          rw [e] at c
          omega
  exact this (nR - 1) 0 (by omega) (by omega)
theorem rDir.atN {nR : Nat} {fi : Nat → Nat} {g G : qGs} (h : rDir nR fi g G) {i k : Nat} (hi : i < nR) (a : fi i ≤ k) (b : k < fi (i + 1)) : mAtN (G 4) (nI k) nR = i := by
  have hk : k < 100 := by
    have := h.le (i := i + 1) (by omega)
    omega
  have : ∀ n, n ≤ nR → i < n → mAtN (G 4) (nI k) n = i := by
    intro n
    induction n with
    | zero => intro _ q; omega
    | succ n ih =>
      intro q1 q2
      show (if G 4 n ≤ nI k then n else mAtN (G 4) (nI k) n) = i
      have hle := h.le (i := n) (by omega)
      by_cases c : G 4 n ≤ nI k
      · rw [if_pos c]
        rw [h.2.2.2.1 n (by omega), nI_leI (by omega) (by omega)] at c
        rcases Nat.lt_or_ge i n with q | q
        · have := h.mono (i := i + 1) n (by omega) (by omega)
          omega
        · omega
      · rw [if_neg c]
        rw [h.2.2.2.1 n (by omega), nI_leI (by omega) (by omega)] at c
        refine ih (by omega) ?_
        rcases Nat.lt_or_ge i n with q | q
        · exact q
        · have e : i = n := by omega
          rw [e] at a
          omega
  exact this nR (Nat.le_refl _) hi
theorem xr {nR nB : Nat} {f : qFs} (hx : xI nR nB f) {i : Nat} (hi : i < nR) : xRange f (nI i) := ⟨nI_pos' (by have := hx.2.2.1; omega), by rw [hx.1]; exact nI_lt hi (by have := hx.2.2.1; omega)⟩
theorem xHome_at {nR nB : Nat} {f : qFs} (hx : xI nR nB f) (g : qGs) {i : Nat} (hi : i < nR) : xHome f g (nI i) = g 3 i := by
  rw [xHome_of (xr hx hi), nI_clamp (by have := hx.2.2.1; omega)]
theorem xTarg_at {nR nB : Nat} {f : qFs} (hx : xI nR nB f) (g : qGs) {i : Nat} (hi : i < nR) : xTarg f g (nI i) = g 4 i := by
  rw [xTarg_of (xr hx hi), nI_clamp (by have := hx.2.2.1; omega)]
theorem xLast_at {nR nB : Nat} {f : qFs} (hx : xI nR nB f) (g : qGs) {i : Nat} (hi : i < nR) : xLast f g (nI i) = g 2 i := by
  unfold xLast
  rw [if_pos (xr hx hi), nI_clamp (by have := hx.2.2.1; omega)]
theorem sk_at {s k : Nat} (hs : s < 4) (hk : k < 100) : (nI s * 100 + nI k).toNatClampNeg = s * 100 + k := by
  rw [show nI s * 100 + nI k = nI (s * 100 + k) by rw [show (100 : Int32) = nI 100 from rfl, pk_mul, nI_add], nI_clamp (by omega)]
theorem rowOf_at (g : qGs) {s k : Nat} (hs : s < 4) (hk : k < 100) : xRowOf g (nI s) (nI k) = g 0 (s * 100 + k) := by
  unfold xRowOf
  rw [if_pos ⟨nat_sh hs, nat_key hk⟩, sk_at hs hk]
theorem rRead {nR nB : Nat} {f : qFs} {g G : qGs} {fi : Nat → Nat} (hx : xI nR nB f) (hd : rDir nR fi g G) (hr : rRow nR fi g G) (hs : rSh nR g G) {k : Nat} (hk : k < 100) : xRead nR f g (nI k) = G 1 k - 1 := by
  obtain ⟨i, hi, a, b⟩ := hd.find hk
  obtain ⟨_, _, ⟨h, hh, e⟩, _⟩ := hs i hi
  unfold xRead
  rw [hd.hold hi a b, xHome_at hx g hi, e, rowOf_at g hh hk, hr i k h hi a b hh, if_pos e]
theorem xPut_at (row : Nat → Int32) {s k : Nat} (hs : s < 4) (hk : k < 100) (a : Int32) {s2 k2 : Nat} (hs2 : s2 < 4) (hk2 : k2 < 100) : xPut row (nI s) (nI k) a (s2 * 100 + k2) = if s2 = s ∧ k2 = k then a else row (s2 * 100 + k2) := by
  unfold xPut
  rw [if_pos ⟨nat_sh hs, nat_key hk⟩, sk_at hs hk]
  unfold upd
  by_cases c : s2 = s ∧ k2 = k
  · rw [if_pos c, if_pos (by omega)]
  · rw [if_neg c, if_neg (by omega)]
theorem xPut_m1 (row : Nat → Int32) (k a : Int32) : xPut row (-1) k a = row := by
  unfold xPut
  rw [if_neg (fun q => absurd q.1.1 (by decide))]
theorem rWrite {nR nB : Nat} {f : qFs} {g G g' G' : qGs} {fi : Nat → Nat} (hx : xI nR nB f) (hd : rDir nR fi g G) (hr : rRow nR fi g G) (hs : rSh nR g G) {k : Nat} (hk : k < 100) {a : Int32} (hg : g' = xWriteG nR f g (nI k) a) (h1 : ∀ j, G' 1 j = if j = k then a + 1 else G 1 j) (h7 : ∀ j, j ≠ k → G' 7 j = G 7 j) (h7k : ¬ G' 7 k = 0 ∨ a = -1) : rRow nR fi g' G' := by
  obtain ⟨i, hi, ha, hb⟩ := hd.find hk
  obtain ⟨_, _, ⟨h, hh, e⟩, ht⟩ := hs i hi
  have e3 : g' 3 = g 3 := by rw [hg]; rfl
  have e4 : g' 4 = g 4 := by rw [hg]; rfl
  have e0 : ∀ s2 k2, s2 < 4 → k2 < 100 → g' 0 (s2 * 100 + k2) = if k2 = k ∧ (g 3 i = nI s2 ∨ g 4 i = nI s2) then a else g 0 (s2 * 100 + k2) := by
    intro s2 k2 hs2 hk2
    rw [hg]
    show xPut (xPut (g 0) (xHome f g (nI (xHold nR g (nI k)))) (nI k) a) (xTarg f g (nI (xHold nR g (nI k)))) (nI k) a (s2 * 100 + k2) = _
    rw [hd.hold hi ha hb, xHome_at hx g hi, xTarg_at hx g hi, e]
    have eh : nI h = nI s2 ↔ h = s2 := nI_eq (by omega) (by omega)
    rcases ht with q | ⟨tg, htg, q, _⟩
    · rw [q, xPut_m1, xPut_at _ hh hk a hs2 hk2]
      by_cases c : s2 = h ∧ k2 = k
      · rw [if_pos c, if_pos ⟨c.2, Or.inl (eh.mpr c.1.symm)⟩]
      · rw [if_neg c, if_neg]
        rintro ⟨c1, c2 | c2⟩
        · exact c ⟨(eh.mp c2).symm, c1⟩
        · exact nI_nem1 (by omega) c2.symm
    · have et : nI tg = nI s2 ↔ tg = s2 := nI_eq (by omega) (by omega)
      rw [q, xPut_at _ htg hk a hs2 hk2, xPut_at _ hh hk a hs2 hk2]
      by_cases c : s2 = tg ∧ k2 = k
      · rw [if_pos c, if_pos ⟨c.2, Or.inr (et.mpr c.1.symm)⟩]
      · rw [if_neg c]
        by_cases c2 : s2 = h ∧ k2 = k
        · rw [if_pos c2, if_pos ⟨c2.2, Or.inl (eh.mpr c2.1.symm)⟩]
        · rw [if_neg c2, if_neg]
          rintro ⟨c3, c4 | c4⟩
          · exact c2 ⟨(eh.mp c4).symm, c3⟩
          · exact c ⟨(et.mp c4).symm, c3⟩
  intro i2 k2 s2 hi2 ha2 hb2 hs2
  have hk2 : k2 < 100 := by
    have := hd.le (i := i2 + 1) (by omega)
    omega
  rw [e3, e4, e0 s2 k2 hs2 hk2]
  by_cases c : k2 = k
  · subst c
    obtain rfl := hd.uniq hi hi2 ha hb ha2 hb2
    rw [h1 k2, if_pos rfl, i_back]
    by_cases c1 : g 3 i = nI s2
    · rw [if_pos ⟨rfl, Or.inl c1⟩, if_pos c1]
    · by_cases c2 : g 4 i = nI s2
      · rw [if_pos ⟨rfl, Or.inr c2⟩, if_neg c1]
        by_cases c3 : G' 7 k2 = 0
        · rw [if_neg (fun q => q.2 c3)]
          exact h7k.resolve_left (fun q => q c3)
        · rw [if_pos ⟨c2, c3⟩]
      · rw [if_neg (fun q => q.2.elim c1 c2), if_neg c1, if_neg (fun q => c2 q.1), hr i k2 s2 hi ha hb hs2, if_neg c1, if_neg (fun q => c2 q.1)]
  · rw [if_neg (fun q => c q.1), h1 k2, if_neg c, h7 k2 c]
    exact hr i2 k2 s2 hi2 ha2 hb2 hs2
theorem Rel.quiet {t nR nB : Nat} {f : qFs} {g : qGs} {F : qFs} {G : qGs} (h : Rel t nR nB f g F G) (z : Int32) : Rel (t + 1) nR nB f g (va_up F 0 z) G := by
  obtain ⟨hx, hm, hmem, hdr, hs, ha, ⟨w, hl, hb⟩, hc, hla, hro⟩ := h
  exact ⟨hx, hm, ⟨hmem.1, by have := hmem.2.1; show -((t + 1 : Nat) : Int) ≤ (F 2).toInt; omega, hmem.2.2⟩, hdr, hs, ha, ⟨w, ⟨hl.1, hl.2.1, hl.2.2.1, by have := hl.2.2.2; omega⟩, hb⟩, hc, hla, hro⟩
theorem rel_q {t nR nB : Nat} {f : qFs} {g : qGs} {F : qFs} {G : qGs} (h : Rel t nR nB f g F G) {z bz : Int32} {u : (qFs × qGs) × (Nat → Int64)} {v : qFs × qGs} (hu : u.1 = (f, g)) (h1 : v.1 = va_up F 0 z) (h2 : v.2 = G) (ho : z = 0 → u.2 0 = bz.toInt64) : qRes t z bz u v := by
  refine ⟨by rw [h1]; rfl, ho, nR, nB, ?_⟩
  rw [h1, h2, hu]
  exact h.quiet z
theorem rel_err {t nR nB : Nat} {f : qFs} {g : qGs} {F : qFs} {G : qGs} (h : Rel t nR nB f g F G) {z bz : Int32} {u : (qFs × qGs) × (Nat → Int64)} {o : Nat → Int64} {v : qFs × qGs} (hz : ¬ z = 0) (hu : u = ((f, g), o)) (h1 : v.1 = va_up F 0 z) (h2 : v.2 = G) : qRes t z bz u v := rel_q h (by rw [hu]) h1 h2 (fun q => absurd q hz)
theorem rel_two {t nR nB : Nat} {f : qFs} {g : qGs} {F : qFs} {G : qGs} (h : Rel t nR nB f g F G) {z bz : Int32} {u : (qFs × qGs) × (Nat → Int64)} {o : Nat → Int64} {v : qFs × qGs} {P Q : Prop} {X Y : Int32} (hP : P ↔ Q) (hXY : P → X = Y) (hu : (z = 0 ∧ ∃ rv : Int32, (P ∧ rv = X) ∧ u.1 = (f, g) ∧ u.2 0 = rv.toInt64) ∨ (z = 1 ∧ (¬ P) ∧ u = ((f, g), o))) (hv : ((¬ Q) ∧ v.1 = va_up F 0 1 ∧ v.2 = G) ∨ (Q ∧ bz = Y ∧ v.1 = va_up F 0 0 ∧ v.2 = G)) : qRes t z bz u v := by
  rcases hu with ⟨rfl, rv, ⟨p, e1⟩, e2, e3⟩ | ⟨rfl, p, e⟩
  · rcases hv with ⟨q, _⟩ | ⟨q, e4, e5, e6⟩
    · exact absurd (hP.mp p) q
    · exact rel_q h e2 e5 e6 (fun _ => by rw [e3, e1, hXY p, e4])
  · rcases hv with ⟨q, e5, e6⟩ | ⟨q, _⟩
    · exact rel_err h (by decide) e e5 e6
    · exact absurd (hP.mpr q) p
theorem Rel.range {t nR nB : Nat} {f : qFs} {g : qGs} {F : qFs} {G : qGs} (h : Rel t nR nB f g F G) (r : Int32) : xRange f r ↔ mRange F r := by
  show (0 ≤ r ∧ r < f 5) ↔ (0 ≤ r ∧ r < F 3)
  rw [h.1.1, h.2.1.1]
theorem Rel.ballot {t nR nB : Nat} {f : qFs} {g : qGs} {F : qFs} {G : qGs} (h : Rel t nR nB f g F G) (r : Int32) : xBallot f r ↔ mBallot F r := by
  show (0 ≤ r ∧ r < f 15) ↔ (0 ≤ r ∧ r < F 12)
  rw [h.1.2.2.2.1, h.2.1.2.2.2.1]
theorem Rel.read {t nR nB : Nat} {f : qFs} {g : qGs} {F : qFs} {G : qGs} (h : Rel t nR nB f g F G) {k : Int32} (hk : xKey k) : xRead nR f g k = G 1 k.toNatClampNeg - 1 := by
  obtain ⟨hx, hm, hmem, ⟨fi, hd, hr⟩, hs, hq⟩ := h
  obtain ⟨n, hn, rfl⟩ := k_nat hk
  rw [nI_clamp (by omega)]
  exact rRead hx hd hr hs hn
theorem Rel.there {t nR nB : Nat} {f : qFs} {g : qGs} {F : qFs} {G : qGs} (h : Rel t nR nB f g F G) {k : Int32} (hk : xKey k) : mThere G k ↔ ¬ xRead nR f g k = -1 := by
  rw [h.read hk]
  obtain ⟨hx, hm, hmem, hdr, hs, ha, hq⟩ := h
  exact not_congr (a_there (ha _ (k_lt hk))).symm
set_option maxHeartbeats 4000000 in
theorem rel_join {t nR nB : Nat} {f : qFs} {g : qGs} {F : qFs} {G : qGs} (hRel : Rel t nR nB f g F G) (ht : t < 512) {k a : Int32} {z bz : Int32} {u : (qFs × qGs) × (Nat → Int64)} {o : Nat → Int64} {v : qFs × qGs} (hu : (z = 0 ∧ ∃ rv : Int32, ((xKey k ∧ xAdr a ∧ xRead nR f g k = -1 ∧ f 1 < 40) ∧ rv = f 1 + 1 ∧ u.1.1 = va_up f 1 (f 1 + 1) ∧ u.1.2 = xWriteG nR f g k a) ∧ u.2 0 = rv.toInt64) ∨ (z = 1 ∧ (¬ xKey k) ∧ u = ((f, g), o)) ∨ (z = 2 ∧ (xKey k ∧ ¬ xAdr a) ∧ u = ((f, g), o)) ∨ (z = 3 ∧ (xKey k ∧ xAdr a ∧ (¬ xRead nR f g k = -1 ∨ ¬ f 1 < 40)) ∧ u = ((f, g), o))) (hv : ((¬ xKey k) ∧ v.1 = va_up F 0 1 ∧ v.2 = G) ∨ ((xKey k ∧ ¬ xAdr a) ∧ v.1 = va_up F 0 2 ∧ v.2 = G) ∨ ((xKey k ∧ xAdr a ∧ (mThere G k ∨ F 2 = 40)) ∧ v.1 = va_up F 0 3 ∧ v.2 = G) ∨ ((xKey k ∧ xAdr a ∧ ¬ mThere G k ∧ ¬ F 2 = 40) ∧ bz = F 2 + 1 ∧ v.1 = va_up (va_up F 0 0) 2 (F 2 + 1) ∧ v.2 = va_up (va_up G 1 (upd (G 1) k.toNatClampNeg (a + 1))) 7 (upd (G 7) k.toNatClampNeg 1))) : qRes t z bz u v := by
  sorry
set_option maxHeartbeats 4000000 in
theorem rel_change {t nR nB : Nat} {f : qFs} {g : qGs} {F : qFs} {G : qGs} (hRel : Rel t nR nB f g F G) (ht : t < 512) {k a : Int32} {z bz : Int32} {u : (qFs × qGs) × (Nat → Int64)} {o : Nat → Int64} {v : qFs × qGs} (hu : (z = 0 ∧ ∃ rv : Int32, ((xKey k ∧ xAdr a ∧ ¬ xRead nR f g k = -1) ∧ rv = xRead nR f g k ∧ u.1.1 = f ∧ u.1.2 = xWriteG nR f g k a) ∧ u.2 0 = rv.toInt64) ∨ (z = 1 ∧ (¬ xKey k) ∧ u = ((f, g), o)) ∨ (z = 2 ∧ (xKey k ∧ ¬ xAdr a) ∧ u = ((f, g), o)) ∨ (z = 3 ∧ (xKey k ∧ xAdr a ∧ xRead nR f g k = -1) ∧ u = ((f, g), o))) (hv : ((¬ xKey k) ∧ v.1 = va_up F 0 1 ∧ v.2 = G) ∨ ((xKey k ∧ ¬ xAdr a) ∧ v.1 = va_up F 0 2 ∧ v.2 = G) ∨ ((xKey k ∧ xAdr a ∧ ¬ mThere G k) ∧ v.1 = va_up F 0 3 ∧ v.2 = G) ∨ ((xKey k ∧ xAdr a ∧ mThere G k) ∧ bz = G 1 k.toNatClampNeg - 1 ∧ v.1 = va_up F 0 0 ∧ v.2 = va_up (va_up G 1 (upd (G 1) k.toNatClampNeg (a + 1))) 7 (upd (G 7) k.toNatClampNeg 1))) : qRes t z bz u v := by
  sorry
set_option maxHeartbeats 4000000 in
theorem rel_leave {t nR nB : Nat} {f : qFs} {g : qGs} {F : qFs} {G : qGs} (hRel : Rel t nR nB f g F G) (ht : t < 512) {k : Int32} {z bz : Int32} {u : (qFs × qGs) × (Nat → Int64)} {o : Nat → Int64} {v : qFs × qGs} (hu : (z = 0 ∧ ∃ rv : Int32, ((xKey k ∧ ¬ xRead nR f g k = -1) ∧ rv = xRead nR f g k ∧ u.1.1 = va_up f 1 (f 1 - 1) ∧ u.1.2 = xWriteG nR f g k (-1)) ∧ u.2 0 = rv.toInt64) ∨ (z = 1 ∧ (¬ xKey k) ∧ u = ((f, g), o)) ∨ (z = 2 ∧ (xKey k ∧ xRead nR f g k = -1) ∧ u = ((f, g), o))) (hv : ((¬ xKey k) ∧ v.1 = va_up F 0 1 ∧ v.2 = G) ∨ ((xKey k ∧ ¬ mThere G k) ∧ v.1 = va_up F 0 2 ∧ v.2 = G) ∨ ((xKey k ∧ mThere G k) ∧ bz = G 1 k.toNatClampNeg - 1 ∧ v.1 = va_up (va_up F 0 0) 2 (F 2 - 1) ∧ v.2 = va_up G 1 (upd (G 1) k.toNatClampNeg 0))) : qRes t z bz u v := by
  sorry
set_option maxHeartbeats 4000000 in
theorem rel_address {t nR nB : Nat} {f : qFs} {g : qGs} {F : qFs} {G : qGs} (hRel : Rel t nR nB f g F G) (ht : t < 512) {k : Int32} {z bz : Int32} {u : (qFs × qGs) × (Nat → Int64)} {o : Nat → Int64} {v : qFs × qGs} (hu : (z = 0 ∧ ∃ rv : Int32, (xKey k ∧ rv = xRead nR f g k) ∧ u.1 = (f, g) ∧ u.2 0 = rv.toInt64) ∨ (z = 1 ∧ (¬ xKey k) ∧ u = ((f, g), o))) (hv : ((¬ (xKey k)) ∧ v.1 = va_up F 0 1 ∧ v.2 = G) ∨ ((xKey k) ∧ bz = G 1 k.toNatClampNeg - 1 ∧ v.1 = va_up F 0 0 ∧ v.2 = G)) : qRes t z bz u v := by
  exact rel_two hRel Iff.rfl (fun hk => hRel.read hk) hu hv
set_option maxHeartbeats 4000000 in
theorem rel_inDistrict {t nR nB : Nat} {f : qFs} {g : qGs} {F : qFs} {G : qGs} (hRel : Rel t nR nB f g F G) (ht : t < 512) {d : Int32} {z bz : Int32} {u : (qFs × qGs) × (Nat → Int64)} {o : Nat → Int64} {v : qFs × qGs} (hu : (z = 0 ∧ ∃ rv : Int32, (xShard d ∧ rv = nI (cnt (fun j => decide (xDist (xRead nR f g (nI j)) = d)) 0 100)) ∧ u.1 = (f, g) ∧ u.2 0 = rv.toInt64) ∨ (z = 1 ∧ (¬ xShard d) ∧ u = ((f, g), o))) (hv : ((¬ (xShard d)) ∧ v.1 = va_up F 0 1 ∧ v.2 = G) ∨ ((xShard d) ∧ bz = nI (cnt (fun j => decide (mTh G j ∧ (G 1 j - 1) / 10 = d)) 0 100) ∧ v.1 = va_up F 0 0 ∧ v.2 = G)) : qRes t z bz u v := by
  sorry
set_option maxHeartbeats 4000000 in
theorem rel_split {t nR nB : Nat} {f : qFs} {g : qGs} {F : qFs} {G : qGs} (hRel : Rel t nR nB f g F G) (ht : t < 512) {k : Int32} {z bz : Int32} {u : (qFs × qGs) × (Nat → Int64)} {o : Nat → Int64} {v : qFs × qGs} (hu : (z = 0 ∧ ∃ rv : Int32, ((xKey k ∧ ¬ k = xLast f g (nI (xHold nR g k)) ∧ xTarg f g (nI (xHold nR g k)) = -1 ∧ f 5 < 8) ∧ rv = nI (xHold nR g k + 1) ∧ u.1.1 = va_up f 5 (nI (nR + 1)) ∧ u.1.2 = va_up (xUpG (xHold nR g k) g (nR - xHold nR g k)) 2 (upd (xUpG (xHold nR g k) g (nR - xHold nR g k) 2) (xHold nR g k) k)) ∧ u.2 0 = rv.toInt64) ∨ (z = 1 ∧ (¬ xKey k) ∧ u = ((f, g), o)) ∨ (z = 2 ∧ (xKey k ∧ (k = xLast f g (nI (xHold nR g k)) ∨ ¬ xTarg f g (nI (xHold nR g k)) = -1 ∨ ¬ f 5 < 8)) ∧ u = ((f, g), o))) (hv : ((¬ xKey k) ∧ v.1 = va_up F 0 1 ∧ v.2 = G) ∨ ((xKey k ∧ (k + 1 = mBeh nR G (mAtN (G 4) k nR) ∨ ¬ G 6 (mAtN (G 4) k nR) = -1 ∨ nR = 8)) ∧ v.1 = va_up F 0 2 ∧ v.2 = G) ∨ ((xKey k ∧ ¬ k + 1 = mBeh nR G (mAtN (G 4) k nR) ∧ G 6 (mAtN (G 4) k nR) = -1 ∧ nR < 8) ∧ bz = nI (mAtN (G 4) k nR + 1) ∧ v.1 = va_up (va_up F 0 0) 3 (nI (nR + 1)) ∧ v.2 = va_up (va_up (va_up (mUpG (mAtN (G 4) k nR + 1) G (nR - (mAtN (G 4) k nR + 1))) 4 (upd ((mUpG (mAtN (G 4) k nR + 1) G (nR - (mAtN (G 4) k nR + 1))) 4) (mAtN (G 4) k nR + 1) (k + 1))) 5 (upd ((mUpG (mAtN (G 4) k nR + 1) G (nR - (mAtN (G 4) k nR + 1))) 5) (mAtN (G 4) k nR + 1) ((mUpG (mAtN (G 4) k nR + 1) G (nR - (mAtN (G 4) k nR + 1))) 5 (mAtN (G 4) k nR)))) 6 (upd ((mUpG (mAtN (G 4) k nR + 1) G (nR - (mAtN (G 4) k nR + 1))) 6) (mAtN (G 4) k nR + 1) (-1)))) : qRes t z bz u v := by
  sorry
set_option maxHeartbeats 4000000 in
theorem rel_merge {t nR nB : Nat} {f : qFs} {g : qGs} {F : qFs} {G : qGs} (hRel : Rel t nR nB f g F G) (ht : t < 512) {r : Int32} {z bz : Int32} {u : (qFs × qGs) × (Nat → Int64)} {o : Nat → Int64} {v : qFs × qGs} (hu : (z = 0 ∧ ∃ rv : Int32, ((xRange f r ∧ xRange f (r + 1) ∧ xHome f g r = xHome f g (r + 1) ∧ xTarg f g r = -1 ∧ xTarg f g (r + 1) = -1) ∧ rv = nI (nR - 1) ∧ u.1.1 = va_up f 5 (nI (nR - 1)) ∧ u.1.2 = xDnG g r.toNatClampNeg (nR - 1 - r.toNatClampNeg)) ∧ u.2 0 = rv.toInt64) ∨ (z = 1 ∧ (¬ xRange f r) ∧ u = ((f, g), o)) ∨ (z = 2 ∧ (xRange f r ∧ (¬ xRange f (r + 1) ∨ ¬ xHome f g r = xHome f g (r + 1) ∨ ¬ xTarg f g r = -1 ∨ ¬ xTarg f g (r + 1) = -1)) ∧ u = ((f, g), o))) (hv : ((¬ mRange F r) ∧ v.1 = va_up F 0 1 ∧ v.2 = G) ∨ ((mRange F r ∧ ¬ (r.toNatClampNeg + 1 < nR ∧ G 5 r.toNatClampNeg = G 5 (r.toNatClampNeg + 1) ∧ G 6 r.toNatClampNeg = -1 ∧ G 6 (r.toNatClampNeg + 1) = -1)) ∧ v.1 = va_up F 0 2 ∧ v.2 = G) ∨ ((mRange F r ∧ (r.toNatClampNeg + 1 < nR ∧ G 5 r.toNatClampNeg = G 5 (r.toNatClampNeg + 1) ∧ G 6 r.toNatClampNeg = -1 ∧ G 6 (r.toNatClampNeg + 1) = -1)) ∧ bz = nI (nR - 1) ∧ v.1 = va_up (va_up F 0 0) 3 (nI (nR - 1)) ∧ v.2 = va_up (mDnG G (r.toNatClampNeg + 2) (nR - (r.toNatClampNeg + 2))) 6 (upd (mDnG G (r.toNatClampNeg + 2) (nR - (r.toNatClampNeg + 2)) 6) (nR - 1) (-1)))) : qRes t z bz u v := by
  sorry
set_option maxHeartbeats 4000000 in
theorem rel_move {t nR nB : Nat} {f : qFs} {g : qGs} {F : qFs} {G : qGs} (hRel : Rel t nR nB f g F G) (ht : t < 512) {r sh : Int32} {z bz : Int32} {u : (qFs × qGs) × (Nat → Int64)} {o : Nat → Int64} {v : qFs × qGs} (hu : (z = 0 ∧ ∃ rv : Int32, ((xRange f r ∧ xShard sh ∧ xTarg f g r = -1 ∧ ¬ xHome f g r = sh) ∧ rv = xMany f g (xHome f g r) r ∧ u.1.1 = f ∧ u.1.2 = va_up g 4 (upd (g 4) r.toNatClampNeg sh)) ∧ u.2 0 = rv.toInt64) ∨ (z = 1 ∧ (¬ (xRange f r ∧ xShard sh)) ∧ u = ((f, g), o)) ∨ (z = 2 ∧ ((xRange f r ∧ xShard sh) ∧ (¬ xTarg f g r = -1 ∨ xHome f g r = sh)) ∧ u = ((f, g), o))) (hv : ((¬ (mRange F r ∧ xShard sh)) ∧ v.1 = va_up F 0 1 ∧ v.2 = G) ∨ (((mRange F r ∧ xShard sh) ∧ (¬ G 6 r.toNatClampNeg = -1 ∨ G 5 r.toNatClampNeg = sh)) ∧ v.1 = va_up F 0 2 ∧ v.2 = G) ∨ (((mRange F r ∧ xShard sh) ∧ G 6 r.toNatClampNeg = -1 ∧ ¬ G 5 r.toNatClampNeg = sh) ∧ bz = nI (cnt (fun j => decide (mTh G j)) (mLo G r.toNatClampNeg) (mHi nR G r.toNatClampNeg)) ∧ v.1 = va_up F 0 0 ∧ v.2 = va_up (va_up G 6 (upd (G 6) r.toNatClampNeg sh)) 7 (fun j => if mLo G r.toNatClampNeg ≤ j ∧ j < mHi nR G r.toNatClampNeg then 0 else G 7 j))) : qRes t z bz u v := by
  sorry
set_option maxHeartbeats 4000000 in
theorem rel_step {t nR nB : Nat} {f : qFs} {g : qGs} {F : qFs} {G : qGs} (hRel : Rel t nR nB f g F G) (ht : t < 512) {r : Int32} {z bz : Int32} {u : (qFs × qGs) × (Nat → Int64)} {o : Nat → Int64} {v : qFs × qGs} (hu : (z = 0 ∧ ∃ rv : Int32, ((xRange f r ∧ ¬ xTarg f g r = -1) ∧ rv = xStepK f g r ∧ u.1.1 = f ∧ u.1.2 = xStepG f g r) ∧ u.2 0 = rv.toInt64) ∨ (z = 1 ∧ (¬ xRange f r) ∧ u = ((f, g), o)) ∨ (z = 2 ∧ (xRange f r ∧ xTarg f g r = -1) ∧ u = ((f, g), o))) (hv : ((¬ mMv F G r = 0) ∧ v.1 = va_up F 0 (mMv F G r) ∧ v.2 = G) ∨ ((mMv F G r = 0) ∧ bz = mStepK nR G r.toNatClampNeg ∧ v.1 = va_up F 0 0 ∧ v.2 = mStepG nR G r.toNatClampNeg)) : qRes t z bz u v := by
  sorry
set_option maxHeartbeats 4000000 in
theorem rel_giveUp {t nR nB : Nat} {f : qFs} {g : qGs} {F : qFs} {G : qGs} (hRel : Rel t nR nB f g F G) (ht : t < 512) {r : Int32} {z bz : Int32} {u : (qFs × qGs) × (Nat → Int64)} {o : Nat → Int64} {v : qFs × qGs} (hu : (z = 0 ∧ ∃ rv : Int32, ((xRange f r ∧ ¬ xTarg f g r = -1) ∧ rv = xMany f g (xTarg f g r) r ∧ u.1.1 = f ∧ u.1.2 = va_up (xDropG f g (xTarg f g r) r) 4 (upd (xDropG f g (xTarg f g r) r 4) r.toNatClampNeg (-1))) ∧ u.2 0 = rv.toInt64) ∨ (z = 1 ∧ (¬ xRange f r) ∧ u = ((f, g), o)) ∨ (z = 2 ∧ (xRange f r ∧ xTarg f g r = -1) ∧ u = ((f, g), o))) (hv : ((¬ mMv F G r = 0) ∧ v.1 = va_up F 0 (mMv F G r) ∧ v.2 = G) ∨ ((mMv F G r = 0) ∧ bz = nI (cnt (mP G 1) (mLo G r.toNatClampNeg) (mHi nR G r.toNatClampNeg)) ∧ v.1 = va_up F 0 0 ∧ v.2 = va_up G 6 (upd (G 6) r.toNatClampNeg (-1)))) : qRes t z bz u v := by
  sorry
set_option maxHeartbeats 4000000 in
theorem rel_rangeOf {t nR nB : Nat} {f : qFs} {g : qGs} {F : qFs} {G : qGs} (hRel : Rel t nR nB f g F G) (ht : t < 512) {k : Int32} {z bz : Int32} {u : (qFs × qGs) × (Nat → Int64)} {o : Nat → Int64} {v : qFs × qGs} (hu : (z = 0 ∧ ∃ rv : Int32, (xKey k ∧ rv = nI (xHold nR g k)) ∧ u.1 = (f, g) ∧ u.2 0 = rv.toInt64) ∨ (z = 1 ∧ (¬ xKey k) ∧ u = ((f, g), o))) (hv : ((¬ (xKey k)) ∧ v.1 = va_up F 0 1 ∧ v.2 = G) ∨ ((xKey k) ∧ bz = nI (mAtN (G 4) k nR) ∧ v.1 = va_up F 0 0 ∧ v.2 = G)) : qRes t z bz u v := by
  refine rel_two hRel Iff.rfl (fun hk => ?_) hu hv
  obtain ⟨hx, hm, hmem, ⟨fi, hd, hr⟩, hs, hq⟩ := hRel
  obtain ⟨n, hn, rfl⟩ := k_nat hk
  obtain ⟨i, hi, a, b⟩ := hd.find hn
  rw [hd.hold hi a b, hd.atN hi a b]
set_option maxHeartbeats 4000000 in
theorem rel_shardOf {t nR nB : Nat} {f : qFs} {g : qGs} {F : qFs} {G : qGs} (hRel : Rel t nR nB f g F G) (ht : t < 512) {r : Int32} {z bz : Int32} {u : (qFs × qGs) × (Nat → Int64)} {o : Nat → Int64} {v : qFs × qGs} (hu : (z = 0 ∧ ∃ rv : Int32, (xRange f r ∧ rv = g 3 r.toNatClampNeg) ∧ u.1 = (f, g) ∧ u.2 0 = rv.toInt64) ∨ (z = 1 ∧ (¬ xRange f r) ∧ u = ((f, g), o))) (hv : ((¬ (mRange F r)) ∧ v.1 = va_up F 0 1 ∧ v.2 = G) ∨ ((mRange F r) ∧ bz = G 5 r.toNatClampNeg ∧ v.1 = va_up F 0 0 ∧ v.2 = G)) : qRes t z bz u v := by
  refine rel_two hRel (hRel.range r) (fun hk => ?_) hu hv
  obtain ⟨n, hn, rfl⟩ := x_nat hRel.1 hk
  obtain ⟨hx, hm, hmem, hdr, hs, hq⟩ := hRel
  rw [nI_clamp (by have := hx.2.2.1; omega)]
  exact (hs n hn).1
set_option maxHeartbeats 4000000 in
theorem rel_rows {t nR nB : Nat} {f : qFs} {g : qGs} {F : qFs} {G : qGs} (hRel : Rel t nR nB f g F G) (ht : t < 512) {sh : Int32} {z bz : Int32} {u : (qFs × qGs) × (Nat → Int64)} {o : Nat → Int64} {v : qFs × qGs} (hu : (z = 0 ∧ ∃ rv : Int32, (xShard sh ∧ rv = nI (cnt (xRowP g sh) 0 100)) ∧ u.1 = (f, g) ∧ u.2 0 = rv.toInt64) ∨ (z = 1 ∧ (¬ xShard sh) ∧ u = ((f, g), o))) (hv : ((¬ (xShard sh)) ∧ v.1 = va_up F 0 1 ∧ v.2 = G) ∨ ((xShard sh) ∧ bz = nI (sm (mRowsP nR G sh) nR) ∧ v.1 = va_up F 0 0 ∧ v.2 = G)) : qRes t z bz u v := by
  sorry
set_option maxHeartbeats 4000000 in
theorem rel_fix {t nR nB : Nat} {f : qFs} {g : qGs} {F : qFs} {G : qGs} (hRel : Rel t nR nB f g F G) (ht : t < 512) {z bz : Int32} {u : (qFs × qGs) × (Nat → Int64)} {o : Nat → Int64} {v : qFs × qGs} (hu : (z = 0 ∧ ∃ rv : Int32, (f 7 = 0 ∧ rv = f 1 ∧ u.1.1 = va_up (va_up f 7 1) 8 (f 8 + 1) ∧ u.1.2 = va_up g 6 (fun j => if j < 100 then xDist (xRead nR f g (nI j)) else g 6 j)) ∧ u.2 0 = rv.toInt64) ∨ (z = 1 ∧ (¬ f 7 = 0) ∧ u = ((f, g), o))) (hv : ((¬ F 8 = 0) ∧ v.1 = va_up F 0 1 ∧ v.2 = G) ∨ ((F 8 = 0) ∧ bz = F 2 ∧ v.1 = va_up (va_up (va_up F 0 0) 8 1) 9 (F 9 + 1) ∧ v.2 = va_up (va_up G 10 (fun j => if j < 100 then mRo G j else G 10 j)) 11 (fun j => if j < 100 then 0 else G 11 j))) : qRes t z bz u v := by
  sorry
set_option maxHeartbeats 4000000 in
theorem rel_onRoll {t nR nB : Nat} {f : qFs} {g : qGs} {F : qFs} {G : qGs} (hRel : Rel t nR nB f g F G) (ht : t < 512) {k : Int32} {z bz : Int32} {u : (qFs × qGs) × (Nat → Int64)} {o : Nat → Int64} {v : qFs × qGs} (hu : (z = 0 ∧ ∃ rv : Int32, (xKey k ∧ rv = (if f 7 = 0 then -1 else g 6 k.toNatClampNeg)) ∧ u.1 = (f, g) ∧ u.2 0 = rv.toInt64) ∨ (z = 1 ∧ (¬ xKey k) ∧ u = ((f, g), o))) (hv : ((¬ (xKey k)) ∧ v.1 = va_up F 0 1 ∧ v.2 = G) ∨ ((xKey k) ∧ bz = (if F 8 = 0 then -1 else G 10 k.toNatClampNeg - 1) ∧ v.1 = va_up F 0 0 ∧ v.2 = G)) : qRes t z bz u v := by
  refine rel_two hRel Iff.rfl (fun hk => ?_) hu hv
  obtain ⟨hx, hm, hmem, hdr, hs, ha, ⟨w, hl, hb⟩, hc, hla, hro⟩ := hRel
  rw [← hl.1]
  by_cases c : f 7 = 0
  · rw [if_pos c, if_pos c]
  · rw [if_neg c, if_neg c]
    exact (hro c _ (k_lt hk)).1
set_option maxHeartbeats 4000000 in
theorem rel_send {t nR nB : Nat} {f : qFs} {g : qGs} {F : qFs} {G : qGs} (hRel : Rel t nR nB f g F G) (ht : t < 512) {k : Int32} {z bz : Int32} {u : (qFs × qGs) × (Nat → Int64)} {o : Nat → Int64} {v : qFs × qGs} (hu : (z = 0 ∧ ∃ rv : Int32, ((xKey k ∧ ¬ f 7 = 0 ∧ ¬ g 6 k.toNatClampNeg = -1 ∧ ¬ xRead nR f g k = -1 ∧ ¬ (xBallot f (xSendL f g nB k) ∧ g 13 (xSendL f g nB k).toNatClampNeg = 2) ∧ f 15 < 60) ∧ rv = nI nB ∧ u.1.1 = va_up f 15 (nI (nB + 1)) ∧ u.1.2 = va_up (va_up (va_up (va_up (va_up g 9 (upd (g 9) nB k)) 10 (upd (g 10) nB (f 8))) 11 (upd (g 11) nB (xRead nR f g k))) 12 (upd (g 12) nB (g 6 k.toNatClampNeg))) 13 (upd (xSendS f g nB k) nB 0)) ∧ u.2 0 = rv.toInt64) ∨ (z = 1 ∧ (¬ xKey k) ∧ u = ((f, g), o)) ∨ (z = 2 ∧ (xKey k ∧ (f 7 = 0 ∨ g 6 k.toNatClampNeg = -1 ∨ xRead nR f g k = -1 ∨ (xBallot f (xSendL f g nB k) ∧ g 13 (xSendL f g nB k).toNatClampNeg = 2) ∨ ¬ f 15 < 60)) ∧ u = ((f, g), o))) (hv : ((¬ xKey k) ∧ v.1 = va_up F 0 1 ∧ v.2 = G) ∨ ((xKey k ∧ (F 8 = 0 ∨ G 10 k.toNatClampNeg ≤ 0 ∨ ¬ mThere G k ∨ 60 ≤ F 12 ∨ (¬ G 11 k.toNatClampNeg ≤ 0 ∧ G 14 (G 11 k.toNatClampNeg - 1).toNatClampNeg = 2))) ∧ v.1 = va_up F 0 2 ∧ v.2 = G) ∨ ((xKey k ∧ ¬ F 8 = 0 ∧ ¬ G 10 k.toNatClampNeg ≤ 0 ∧ mThere G k ∧ ¬ 60 ≤ F 12 ∧ (G 11 k.toNatClampNeg ≤ 0 ∨ ¬ G 14 (G 11 k.toNatClampNeg - 1).toNatClampNeg = 2)) ∧ bz = nI nB ∧ v.1 = va_up (va_up F 0 0) 12 (nI (nB + 1)) ∧ v.2 = va_up (va_up (va_up (va_up (va_up G 13 (upd (G 13) nB (G 1 k.toNatClampNeg - 1))) 14 (upd (mSendS G k) nB 0)) 15 (upd (G 15) nB (F 9))) 16 (upd (G 16) nB (G 10 k.toNatClampNeg - 1))) 11 (upd (G 11) k.toNatClampNeg (nI (nB + 1))))) : qRes t z bz u v := by
  sorry
set_option maxHeartbeats 4000000 in
theorem rel_sentTo {t nR nB : Nat} {f : qFs} {g : qGs} {F : qFs} {G : qGs} (hRel : Rel t nR nB f g F G) (ht : t < 512) {b : Int32} {z bz : Int32} {u : (qFs × qGs) × (Nat → Int64)} {o : Nat → Int64} {v : qFs × qGs} (hu : (z = 0 ∧ ∃ rv : Int32, (xBallot f b ∧ rv = g 11 b.toNatClampNeg) ∧ u.1 = (f, g) ∧ u.2 0 = rv.toInt64) ∨ (z = 1 ∧ (¬ xBallot f b) ∧ u = ((f, g), o))) (hv : ((¬ (mBallot F b)) ∧ v.1 = va_up F 0 1 ∧ v.2 = G) ∨ ((mBallot F b) ∧ bz = G 13 b.toNatClampNeg ∧ v.1 = va_up F 0 0 ∧ v.2 = G)) : qRes t z bz u v := by
  refine rel_two hRel (hRel.ballot b) (fun hk => ?_) hu hv
  obtain ⟨n, hn, rfl⟩ := b_nat hRel.2.1 ((hRel.ballot b).mp hk)
  obtain ⟨hx, hm, hmem, hdr, hs, ha, ⟨w, hl, hb⟩, hq⟩ := hRel
  rw [nI_clamp (by have := hx.2.2.2.2; omega)]
  exact (hb n hn).2.1
set_option maxHeartbeats 4000000 in
theorem rel_giveBack {t nR nB : Nat} {f : qFs} {g : qGs} {F : qFs} {G : qGs} (hRel : Rel t nR nB f g F G) (ht : t < 512) {b ch : Int32} {z bz : Int32} {u : (qFs × qGs) × (Nat → Int64)} {o : Nat → Int64} {v : qFs × qGs} (hu : (z = 0 ∧ ∃ rv : Int32, ((xBallot f b ∧ xCho ch ∧ g 13 b.toNatClampNeg = 0 ∧ xOpen f g b) ∧ rv = g 12 b.toNatClampNeg ∧ u.1.1 = f ∧ u.1.2 = va_up (va_up g 13 (upd (g 13) b.toNatClampNeg 2)) 14 (upd (g 14) b.toNatClampNeg ch)) ∧ u.2 0 = rv.toInt64) ∨ (z = 1 ∧ (¬ xBallot f b) ∧ u = ((f, g), o)) ∨ (z = 2 ∧ (xBallot f b ∧ ¬ xCho ch) ∧ u = ((f, g), o)) ∨ (z = 3 ∧ (xBallot f b ∧ xCho ch ∧ (¬ g 13 b.toNatClampNeg = 0 ∨ ¬ xOpen f g b)) ∧ u = ((f, g), o))) (hv : ((¬ mBallot F b) ∧ v.1 = va_up F 0 1 ∧ v.2 = G) ∨ ((mBallot F b ∧ ¬ xCho ch) ∧ v.1 = va_up F 0 2 ∧ v.2 = G) ∨ ((mBallot F b ∧ xCho ch ∧ ¬ (G 14 b.toNatClampNeg = 0 ∧ ¬ F 8 = 0 ∧ G 15 b.toNatClampNeg = F 9)) ∧ v.1 = va_up F 0 3 ∧ v.2 = G) ∨ ((mBallot F b ∧ xCho ch ∧ (G 14 b.toNatClampNeg = 0 ∧ ¬ F 8 = 0 ∧ G 15 b.toNatClampNeg = F 9)) ∧ bz = G 16 b.toNatClampNeg ∧ v.1 = va_up F 0 0 ∧ v.2 = va_up (va_up G 14 (upd (G 14) b.toNatClampNeg 2)) 17 (upd (G 17) (3 * G 16 b.toNatClampNeg + ch).toNatClampNeg (G 17 (3 * G 16 b.toNatClampNeg + ch).toNatClampNeg + 1)))) : qRes t z bz u v := by
  sorry
set_option maxHeartbeats 4000000 in
theorem rel_stateOf {t nR nB : Nat} {f : qFs} {g : qGs} {F : qFs} {G : qGs} (hRel : Rel t nR nB f g F G) (ht : t < 512) {b : Int32} {z bz : Int32} {u : (qFs × qGs) × (Nat → Int64)} {o : Nat → Int64} {v : qFs × qGs} (hu : (z = 0 ∧ ∃ rv : Int32, (xBallot f b ∧ rv = g 13 b.toNatClampNeg) ∧ u.1 = (f, g) ∧ u.2 0 = rv.toInt64) ∨ (z = 1 ∧ (¬ xBallot f b) ∧ u = ((f, g), o))) (hv : ((¬ (mBallot F b)) ∧ v.1 = va_up F 0 1 ∧ v.2 = G) ∨ ((mBallot F b) ∧ bz = G 14 b.toNatClampNeg ∧ v.1 = va_up F 0 0 ∧ v.2 = G)) : qRes t z bz u v := by
  refine rel_two hRel (hRel.ballot b) (fun hk => ?_) hu hv
  obtain ⟨n, hn, rfl⟩ := b_nat hRel.2.1 ((hRel.ballot b).mp hk)
  obtain ⟨hx, hm, hmem, hdr, hs, ha, ⟨w, hl, hb⟩, hq⟩ := hRel
  rw [nI_clamp (by have := hx.2.2.2.2; omega)]
  exact (hb n hn).2.2.2.1
set_option maxHeartbeats 4000000 in
theorem rel_counted {t nR nB : Nat} {f : qFs} {g : qGs} {F : qFs} {G : qGs} (hRel : Rel t nR nB f g F G) (ht : t < 512) {d ch : Int32} {z bz : Int32} {u : (qFs × qGs) × (Nat → Int64)} {o : Nat → Int64} {v : qFs × qGs} (hu : (z = 0 ∧ ∃ rv : Int32, ((xShard d ∧ xCho ch) ∧ rv = nI (cnt (fun j => decide (g 13 j = 2 ∧ g 12 j = d ∧ g 14 j = ch)) 0 nB)) ∧ u.1 = (f, g) ∧ u.2 0 = rv.toInt64) ∨ (z = 1 ∧ (¬ xShard d) ∧ u = ((f, g), o)) ∨ (z = 2 ∧ (xShard d ∧ ¬ xCho ch) ∧ u = ((f, g), o))) (hv : ((¬ xShard d) ∧ v.1 = va_up F 0 1 ∧ v.2 = G) ∨ ((xShard d ∧ ¬ xCho ch) ∧ v.1 = va_up F 0 2 ∧ v.2 = G) ∨ ((xShard d ∧ xCho ch) ∧ bz = G 17 (3 * d + ch).toNatClampNeg ∧ v.1 = va_up F 0 0 ∧ v.2 = G)) : qRes t z bz u v := by
  sorry
set_option maxHeartbeats 4000000 in
theorem rel_close {t nR nB : Nat} {f : qFs} {g : qGs} {F : qFs} {G : qGs} (hRel : Rel t nR nB f g F G) (ht : t < 512) {z bz : Int32} {u : (qFs × qGs) × (Nat → Int64)} {o : Nat → Int64} {v : qFs × qGs} (hu : (z = 0 ∧ ∃ rv : Int32, (¬ f 7 = 0 ∧ rv = nI (cnt (fun j => decide (xOpen f g (nI j) ∧ g 13 j = 0)) 0 nB) ∧ u.1.1 = va_up f 7 0 ∧ u.1.2 = g) ∧ u.2 0 = rv.toInt64) ∨ (z = 1 ∧ (f 7 = 0) ∧ u = ((f, g), o))) (hv : ((F 8 = 0) ∧ v.1 = va_up F 0 1 ∧ v.2 = G) ∨ ((¬ F 8 = 0) ∧ bz = nI (cnt (fun j => decide (G 15 j = F 9 ∧ G 14 j = 0)) 0 nB) ∧ v.1 = va_up (va_up F 0 0) 8 0 ∧ v.2 = G)) : qRes t z bz u v := by
  sorry
theorem rel_ranges {t nR nB : Nat} {f : qFs} {g : qGs} {F : qFs} {G : qGs} (hRel : Rel t nR nB f g F G) (ht : t < 512) {bz : Int32} {v : qFs × qGs} (hv : bz = F 3 ∧ v.1 = va_up F 0 0 ∧ v.2 = G) : f 5 = bz ∧ Rel (t + 1) nR nB f g v.1 v.2 := by
  obtain ⟨e1, e2, e3⟩ := hv
  refine ⟨by rw [e1, hRel.1.1, hRel.2.1.1], ?_⟩
  rw [e2, e3]
  exact hRel.quiet 0
theorem Rel_next {t nR nB : Nat} {f : qFs} {g : qGs} {F : qFs} {G : qGs} (hRel : Rel t nR nB f g F G) : Rel (t + 1) nR nB f g F G := by
  obtain ⟨hx, hm, hmem, hdr, hs, ha, ⟨w, hl, hb⟩, hc, hla, hro⟩ := hRel
  exact ⟨hx, hm, ⟨hmem.1, by have := hmem.2.1; show -((t + 1 : Nat) : Int) ≤ (F 2).toInt; omega, hmem.2.2⟩, hdr, hs, ha, ⟨w, ⟨hl.1, hl.2.1, hl.2.2.1, by have := hl.2.2.2; omega⟩, hb⟩, hc, hla, hro⟩
theorem Rel_0 : Rel 0 1 0 xF0 xG0 mF0 mG0 := by
  sorry
