/-! the relation between the class's state and the reference's -/
def rDir (nR : Nat) (fi : Nat → Nat) (g G : qGs) : Prop := fi 0 = 0 ∧ fi nR = 100 ∧ (∀ i, i < nR → fi i < fi (i + 1)) ∧ (∀ i, i < nR → G 4 i = nI (fi i)) ∧ (∀ i, i < nR → g 2 i = nI (fi (i + 1) - 1))
def rSh (nR : Nat) (g G : qGs) : Prop := ∀ i, i < nR → g 3 i = G 5 i ∧ g 4 i = G 6 i ∧ (∃ h, h < 4 ∧ g 3 i = nI h) ∧ (g 4 i = -1 ∨ ∃ s, s < 4 ∧ g 4 i = nI s ∧ ¬ g 4 i = g 3 i)
def rRow (nR : Nat) (fi : Nat → Nat) (g G : qGs) : Prop := ∀ i k s, i < nR → fi i ≤ k → k < fi (i + 1) → s < 4 → g 0 (s * 100 + k) = if g 3 i = nI s then G 1 k - 1 else if g 4 i = nI s ∧ ¬ G 7 k = 0 then G 1 k - 1 else -1
def rAdr (G : qGs) : Prop := ∀ k, k < 100 → G 1 k = 0 ∨ ∃ a, a < 40 ∧ G 1 k = nI (a + 1)
def rMem (t : Nat) (f F : qFs) : Prop := f 1 = F 2 ∧ -(t : Int) ≤ (F 2).toInt ∧ (F 2).toInt ≤ 40
abbrev rCP (g : qGs) (d c : Nat) : Nat → Bool := fun j => decide (g 13 j = 2 ∧ g 12 j = nI d ∧ g 14 j = nI c)
def rBal (nB v : Nat) (g G : qGs) : Prop := ∀ b, b < nB → g 10 b = G 15 b ∧ g 11 b = G 13 b ∧ g 12 b = G 16 b ∧ g 13 b = G 14 b ∧ (∃ w, w ≤ v ∧ g 10 b = nI w) ∧ (∃ d, d < 4 ∧ g 12 b = nI d)
def rCnt (nB : Nat) (g G : qGs) : Prop := ∀ d c, d < 4 → c < 3 → G 17 (3 * d + c) = nI (cnt (rCP g d c) 0 nB)
def rRoll (nB : Nat) (f : qFs) (g G : qGs) : Prop := ¬ f 7 = 0 → ∀ k, k < 100 → g 6 k = G 10 k - 1 ∧ (G 10 k = 0 ∨ ∃ d, d < 4 ∧ G 10 k = nI (d + 1)) ∧ G 11 k = xLatN (xLatP f g (nI k)) nB + 1
def rLaid (t v : Nat) (f F : qFs) : Prop := f 7 = F 8 ∧ f 8 = nI v ∧ F 9 = nI v ∧ v ≤ t
def Rel (t nR nB : Nat) (f : qFs) (g : qGs) (F : qFs) (G : qGs) : Prop := xI nR nB f ∧ mI nR nB F ∧ rMem t f F ∧ (∃ fi, rDir nR fi g G ∧ rRow nR fi g G) ∧ rSh nR g G ∧ rAdr G ∧ (∃ v, rLaid t v f F ∧ rBal nB v g G) ∧ rCnt nB g G ∧ mLa nB G ∧ rRoll nB f g G
def qRes (t : Nat) (z bz : Int32) (u : (qFs × qGs) × (Nat → Int64)) (v : qFs × qGs) : Prop := v.1 0 = z ∧ (z = 0 → u.2 0 = bz.toInt64) ∧ ∃ nR nB, Rel (t + 1) nR nB u.1.1 u.1.2 v.1 v.2
theorem Rel.xL {t nR nB : Nat} {f : qFs} {g : qGs} {F : qFs} {G : qGs} (h : Rel t nR nB f g F G) : xL nR g := by
  obtain ⟨h1, h2, h3, ⟨fi, hd, hr⟩, h5⟩ := h
  obtain ⟨a, b, c, d, e⟩ := hd
  intro i hi
  have hc := c i hi
  have h100 : fi (i + 1) ≤ 100 := by
    have : ∀ j, j ≤ nR → i + 1 ≤ j → fi (i + 1) ≤ fi j := by
      intro j
      induction j with
      | zero => intro _ q; omega
      | succ j ih =>
        intro q1 q2
        by_cases q : i + 1 = j + 1
        · rw [q]; exact Nat.le_refl _
        · have := ih (by omega) (by omega)
          have := c j (by omega)
          omega
    have := this nR (Nat.le_refl _) (by omega)
    omega
  exact ⟨fi (i + 1) - 1, by omega, e i hi⟩
theorem rDir.mono {nR : Nat} {fi : Nat → Nat} {g G : qGs} (h : rDir nR fi g G) {i : Nat} : ∀ j, i ≤ j → j ≤ nR → fi i ≤ fi j := by
  intro j
  induction j with
  | zero => intro q _; rw [show i = 0 by omega]; exact Nat.le_refl _
  | succ j ih =>
    intro q1 q2
    by_cases q : i = j + 1
    · rw [q]; exact Nat.le_refl _
    · have h1 := ih (by omega) (by omega)
      have h2 := h.2.2.1 j (by omega)
      omega
theorem rDir.le {nR : Nat} {fi : Nat → Nat} {g G : qGs} (h : rDir nR fi g G) {i : Nat} (hi : i ≤ nR) : fi i ≤ 100 := by
  have := h.mono nR hi (Nat.le_refl _)
  rw [h.2.1] at this
  exact this
theorem rDir.beh {nR : Nat} {fi : Nat → Nat} {g G : qGs} (h : rDir nR fi g G) {i : Nat} (hi : i < nR) : mBeh nR G i = nI (fi (i + 1)) := by
  unfold mBeh
  by_cases q : i + 1 = nR
  · rw [if_pos q, q, h.2.1]; rfl
  · rw [if_neg q]; exact h.2.2.2.1 (i + 1) (by omega)
theorem rDir.mL {nR : Nat} {fi : Nat → Nat} {g G : qGs} (h : rDir nR fi g G) : mL nR G := fun i hi => ⟨fi i, fi (i + 1), h.2.2.2.1 i hi, h.beh hi, Nat.le_of_lt (h.2.2.1 i hi), h.le (by omega)⟩
theorem Rel.mL {t nR nB : Nat} {f : qFs} {g : qGs} {F : qFs} {G : qGs} (h : Rel t nR nB f g F G) : mL nR G := by
  obtain ⟨h1, h2, h3, ⟨fi, hd, hr⟩, h5⟩ := h
  exact hd.mL
theorem Rel.mDi {t nR nB : Nat} {f : qFs} {g : qGs} {F : qFs} {G : qGs} (h : Rel t nR nB f g F G) : mDi nB G := by
  obtain ⟨h1, h2, h3, h4, h5, h6, ⟨v, h7, h8⟩, h9⟩ := h
  intro b hb
  obtain ⟨a1, a2, a3, a4, a5, d, hd, e⟩ := h8 b hb
  exact ⟨d, hd, by rw [← a3]; exact e⟩
theorem cnt_cong {p q : Nat → Bool} : ∀ (n lo : Nat), (∀ j, lo ≤ j → j < lo + n → p j = q j) → cntR p lo n = cntR q lo n
  | 0, _, _ => rfl
  | n + 1, lo, h => by
    show (if p lo = true then 1 else 0) + cntR p (lo + 1) n = (if q lo = true then 1 else 0) + cntR q (lo + 1) n
    rw [h lo (Nat.le_refl _) (by omega), cnt_cong n (lo + 1) (fun j h1 h2 => h j (by omega) (by omega))]
theorem cntI {p q : Nat → Bool} {lo hi : Nat} (h : ∀ j, lo ≤ j → j < hi → p j = q j) : cnt p lo hi = cnt q lo hi := by
  unfold cnt
  exact cnt_cong _ _ (fun j h1 h2 => h j h1 (by omega))
theorem cntR_add (p : Nat → Bool) : ∀ (a lo b : Nat), cntR p lo (a + b) = cntR p lo a + cntR p (lo + a) b
  | 0, lo, b => by
    rw [Nat.zero_add, Nat.add_zero]
    show _ = 0 + _
    rw [Nat.zero_add]
  | a + 1, lo, b => by
    rw [show a + 1 + b = (a + b) + 1 by omega]
    show (if p lo = true then 1 else 0) + cntR p (lo + 1) (a + b) = ((if p lo = true then 1 else 0) + cntR p (lo + 1) a) + cntR p (lo + (a + 1)) b
    rw [cntR_add p a (lo + 1) b, show lo + 1 + a = lo + (a + 1) by omega]
    omega
theorem cnt_split (p : Nat → Bool) {lo mid hi : Nat} (h1 : lo ≤ mid) (h2 : mid ≤ hi) : cnt p lo hi = cnt p lo mid + cnt p mid hi := by
  unfold cnt
  rw [show hi - lo = (mid - lo) + (hi - mid) by omega, cntR_add, show lo + (mid - lo) = mid by omega]
theorem cnt_plus {p q : Nat → Bool} {b n : Nat} (hb : b < n) (h : ∀ j, j ≠ b → q j = p j) (hp : ¬ p b = true) (hq : q b = true) : cnt q 0 n = cnt p 0 n + 1 := by
  rw [cnt_split q (Nat.zero_le b) (Nat.le_of_lt hb), cnt_y hb hq, cnt_split p (Nat.zero_le b) (Nat.le_of_lt hb), cnt_n hb hp, cntI (p := q) (q := p) (lo := 0) (hi := b) (fun j _ h2 => h j (by omega)), cntI (p := q) (q := p) (lo := b + 1) (hi := n) (fun j h1 _ => h j (by omega))]
  omega
theorem upN_cong {p q : Nat → Bool} : ∀ (n lo : Nat), (∀ j, lo ≤ j → j < lo + n → p j = q j) → upN p lo n = upN q lo n
  | 0, _, _ => rfl
  | n + 1, lo, h => by
    show (if p lo = true then nI lo else upN p (lo + 1) n) = (if q lo = true then nI lo else upN q (lo + 1) n)
    rw [h lo (Nat.le_refl _) (by omega), upN_cong n (lo + 1) (fun j h1 h2 => h j (by omega) (by omega))]
theorem nI_nem1 {n : Nat} (h : n < 2 ^ 31) : ¬ nI n = -1 := by
  intro q
  have h1 := congrArg Int32.toInt q
  rw [nI_toInt h] at h1
  have e : (-1 : Int32).toInt = -1 := rfl
  omega
theorem upN_none {p : Nat → Bool} : ∀ (n lo : Nat), lo + n ≤ 100 → upN p lo n = -1 → ∀ j, lo ≤ j → j < lo + n → ¬ p j = true
  | 0, lo, _, _, j, h1, h2 => absurd h2 (by omega)
  | n + 1, lo, h0, h, j, h1, h2 => by
    have h : (if p lo = true then nI lo else upN p (lo + 1) n) = -1 := h
    by_cases c : p lo = true
    · rw [if_pos c] at h
      exact absurd h (nI_nem1 (by omega))
    · rw [if_neg c] at h
      by_cases e : j = lo
      · rw [e]; exact c
      · exact upN_none n (lo + 1) (by omega) h j (by omega) (by omega)
theorem i_back (a : Int32) : a + 1 - 1 = a := by rw [Int32.sub_eq_add_neg, Int32.add_assoc]; exact Int32.add_zero a
theorem i_forth (a : Int32) : a - 1 + 1 = a := by rw [Int32.sub_eq_add_neg, Int32.add_assoc]; exact Int32.add_zero a
theorem i_up {x : Int32} (h1 : -600 ≤ x.toInt) (h2 : x.toInt ≤ 100) : (x + 1).toInt = x.toInt + 1 := by
  rw [Int32.toInt_add]
  have e : (1 : Int32).toInt = 1 := rfl
  rw [e]
  exact Int.bmod_eq_of_le (by omega) (by omega)
theorem i_dn {x : Int32} (h1 : -600 ≤ x.toInt) (h2 : x.toInt ≤ 100) : (x - 1).toInt = x.toInt - 1 := by
  rw [Int32.toInt_sub]
  have e : (1 : Int32).toInt = 1 := rfl
  rw [e]
  exact Int.bmod_eq_of_le (by omega) (by omega)
theorem a_there {x : Int32} (h : x = 0 ∨ ∃ a : Nat, a < 40 ∧ x = nI (a + 1)) : x - 1 = -1 ↔ x ≤ 0 := by
  rcases h with rfl | ⟨a, ha, rfl⟩
  · exact ⟨fun _ => by decide, fun _ => by decide⟩
  · rw [nI_pred]
    refine ⟨fun q => absurd q (nI_nem1 (by omega)), fun q => absurd q ?_⟩
    rw [show (0 : Int32) = nI 0 from rfl]
    exact nI_ge (by omega) (by omega)
theorem nat_sh {s : Nat} (h : s < 4) : xShard (nI s) := ⟨nI_pos' (by omega), nI_lt h (by decide)⟩
theorem rDir.find {nR : Nat} {fi : Nat → Nat} {g G : qGs} (h : rDir nR fi g G) {k : Nat} (hk : k < 100) : ∃ i, i < nR ∧ fi i ≤ k ∧ k < fi (i + 1) := by
  have : ∀ n, n ≤ nR → (∃ i, i < n ∧ fi i ≤ k ∧ k < fi (i + 1)) ∨ fi n ≤ k := by
    intro n
    induction n with
    | zero => intro _; right; rw [h.1]; omega
    | succ n ih =>
      intro hn
      rcases ih (by omega) with ⟨i, a, b, c⟩ | q
      · exact Or.inl ⟨i, by omega, b, c⟩
      · rcases Nat.lt_or_ge k (fi (n + 1)) with r1 | r1
        · exact Or.inl ⟨n, by omega, q, r1⟩
        · exact Or.inr r1
  rcases this nR (Nat.le_refl _) with q | q
  · exact q
  · rw [h.2.1] at q; omega
theorem rDir.uniq {nR : Nat} {fi : Nat → Nat} {g G : qGs} (h : rDir nR fi g G) {i j k : Nat} (hi : i < nR) (hj : j < nR) (a : fi i ≤ k) (b : k < fi (i + 1)) (c : fi j ≤ k) (d : k < fi (j + 1)) : i = j := by
  rcases Nat.lt_trichotomy i j with q | q | q
  · have := h.mono (i := i + 1) j (by omega) (by omega)
    omega
  · exact q
  · have := h.mono (i := j + 1) i (by omega) (by omega)
    omega
theorem rDir.hold {nR : Nat} {fi : Nat → Nat} {g G : qGs} (h : rDir nR fi g G) {i k : Nat} (hi : i < nR) (a : fi i ≤ k) (b : k < fi (i + 1)) : xHold nR g (nI k) = i := by
  have hk : k < 100 := by
    have := h.le (i := i + 1) (by omega)
    omega
  have : ∀ n j, j + n = nR - 1 → j ≤ i → xHoldN (g 2) (nI k) j n = i := by
    intro n
    induction n with
    | zero => intro j q1 q2; show j = i; omega
    | succ n ih =>
      intro j q1 q2
      show (if nI k ≤ g 2 j then j else xHoldN (g 2) (nI k) (j + 1) n) = i
      have hj := h.2.2.1 j (by omega)
      have hle := h.le (i := j + 1) (by omega)
      by_cases c : nI k ≤ g 2 j
      · rw [if_pos c]
        rw [h.2.2.2.2 j (by omega), nI_leI (by omega) (by omega)] at c
        rcases Nat.lt_or_ge j i with q | q
        · have := h.mono (i := j + 1) i (by omega) (by omega)
          omega
        · omega
      · rw [if_neg c]
        rw [h.2.2.2.2 j (by omega), nI_leI (by omega) (by omega)] at c
        refine ih (j + 1) (by omega) ?_
        rcases Nat.lt_or_ge j i with q | q
        · omega
        · have e : j = i := by omega
          rw [e] at c
          omega
  exact this (nR - 1) 0 (by omega) (by omega)
theorem rDir.atN {nR : Nat} {fi : Nat → Nat} {g G : qGs} (h : rDir nR fi g G) {i k : Nat} (hi : i < nR) (a : fi i ≤ k) (b : k < fi (i + 1)) : mAtN (G 4) (nI k) nR = i := by
  have hk : k < 100 := by
    have := h.le (i := i + 1) (by omega)
    omega
  have : ∀ n, n ≤ nR → i < n → mAtN (G 4) (nI k) n = i := by
    intro n
    induction n with
    | zero => intro _ q; omega
    | succ n ih =>
      intro q1 q2
      show (if G 4 n ≤ nI k then n else mAtN (G 4) (nI k) n) = i
      have hle := h.le (i := n) (by omega)
      by_cases c : G 4 n ≤ nI k
      · rw [if_pos c]
        rw [h.2.2.2.1 n (by omega), nI_leI (by omega) (by omega)] at c
        rcases Nat.lt_or_ge i n with q | q
        · have := h.mono (i := i + 1) n (by omega) (by omega)
          omega
        · omega
      · rw [if_neg c]
        rw [h.2.2.2.1 n (by omega), nI_leI (by omega) (by omega)] at c
        refine ih (by omega) ?_
        rcases Nat.lt_or_ge i n with q | q
        · exact q
        · have e : i = n := by omega
          rw [e] at a
          omega
  exact this nR (Nat.le_refl _) hi
theorem xr {nR nB : Nat} {f : qFs} (hx : xI nR nB f) {i : Nat} (hi : i < nR) : xRange f (nI i) := ⟨nI_pos' (by have := hx.2.2.1; omega), by rw [hx.1]; exact nI_lt hi (by have := hx.2.2.1; omega)⟩
theorem xHome_at {nR nB : Nat} {f : qFs} (hx : xI nR nB f) (g : qGs) {i : Nat} (hi : i < nR) : xHome f g (nI i) = g 3 i := by
  rw [xHome_of (xr hx hi), nI_clamp (by have := hx.2.2.1; omega)]
theorem xTarg_at {nR nB : Nat} {f : qFs} (hx : xI nR nB f) (g : qGs) {i : Nat} (hi : i < nR) : xTarg f g (nI i) = g 4 i := by
  rw [xTarg_of (xr hx hi), nI_clamp (by have := hx.2.2.1; omega)]
theorem xLast_at {nR nB : Nat} {f : qFs} (hx : xI nR nB f) (g : qGs) {i : Nat} (hi : i < nR) : xLast f g (nI i) = g 2 i := by
  unfold xLast
  rw [if_pos (xr hx hi), nI_clamp (by have := hx.2.2.1; omega)]
theorem sk_at {s k : Nat} (hs : s < 4) (hk : k < 100) : (nI s * 100 + nI k).toNatClampNeg = s * 100 + k := by
  rw [show nI s * 100 + nI k = nI (s * 100 + k) by rw [show (100 : Int32) = nI 100 from rfl, pk_mul, nI_add], nI_clamp (by omega)]
theorem rowOf_at (g : qGs) {s k : Nat} (hs : s < 4) (hk : k < 100) : xRowOf g (nI s) (nI k) = g 0 (s * 100 + k) := by
  unfold xRowOf
  rw [if_pos ⟨nat_sh hs, nat_key hk⟩, sk_at hs hk]
theorem rRead {nR nB : Nat} {f : qFs} {g G : qGs} {fi : Nat → Nat} (hx : xI nR nB f) (hd : rDir nR fi g G) (hr : rRow nR fi g G) (hs : rSh nR g G) {k : Nat} (hk : k < 100) : xRead nR f g (nI k) = G 1 k - 1 := by
  obtain ⟨i, hi, a, b⟩ := hd.find hk
  obtain ⟨_, _, ⟨h, hh, e⟩, _⟩ := hs i hi
  unfold xRead
  rw [hd.hold hi a b, xHome_at hx g hi, e, rowOf_at g hh hk, hr i k h hi a b hh, if_pos e]
theorem xPut_at (row : Nat → Int32) {s k : Nat} (hs : s < 4) (hk : k < 100) (a : Int32) {s2 k2 : Nat} (hs2 : s2 < 4) (hk2 : k2 < 100) : xPut row (nI s) (nI k) a (s2 * 100 + k2) = if s2 = s ∧ k2 = k then a else row (s2 * 100 + k2) := by
  unfold xPut
  rw [if_pos ⟨nat_sh hs, nat_key hk⟩, sk_at hs hk]
  unfold upd
  by_cases c : s2 = s ∧ k2 = k
  · rw [if_pos c, if_pos (by omega)]
  · rw [if_neg c, if_neg (by omega)]
theorem xPut_m1 (row : Nat → Int32) (k a : Int32) : xPut row (-1) k a = row := by
  unfold xPut
  rw [if_neg (fun q => absurd q.1.1 (by decide))]
theorem rWrite {nR nB : Nat} {f : qFs} {g G g' G' : qGs} {fi : Nat → Nat} (hx : xI nR nB f) (hd : rDir nR fi g G) (hr : rRow nR fi g G) (hs : rSh nR g G) {k : Nat} (hk : k < 100) {a : Int32} (hg : g' = xWriteG nR f g (nI k) a) (h1 : ∀ j, G' 1 j = if j = k then a + 1 else G 1 j) (h7 : ∀ j, j ≠ k → G' 7 j = G 7 j) (h7k : ¬ G' 7 k = 0 ∨ a = -1) : rRow nR fi g' G' := by
  obtain ⟨i, hi, ha, hb⟩ := hd.find hk
  obtain ⟨_, _, ⟨h, hh, e⟩, ht⟩ := hs i hi
  have e3 : g' 3 = g 3 := by rw [hg]; rfl
  have e4 : g' 4 = g 4 := by rw [hg]; rfl
  have e0 : ∀ s2 k2, s2 < 4 → k2 < 100 → g' 0 (s2 * 100 + k2) = if k2 = k ∧ (g 3 i = nI s2 ∨ g 4 i = nI s2) then a else g 0 (s2 * 100 + k2) := by
    intro s2 k2 hs2 hk2
    rw [hg]
    show xPut (xPut (g 0) (xHome f g (nI (xHold nR g (nI k)))) (nI k) a) (xTarg f g (nI (xHold nR g (nI k)))) (nI k) a (s2 * 100 + k2) = _
    rw [hd.hold hi ha hb, xHome_at hx g hi, xTarg_at hx g hi, e]
    have eh : nI h = nI s2 ↔ h = s2 := nI_eq (by omega) (by omega)
    rcases ht with q | ⟨tg, htg, q, _⟩
    · rw [q, xPut_m1, xPut_at _ hh hk a hs2 hk2]
      by_cases c : s2 = h ∧ k2 = k
      · rw [if_pos c, if_pos ⟨c.2, Or.inl (eh.mpr c.1.symm)⟩]
      · rw [if_neg c, if_neg]
        rintro ⟨c1, c2 | c2⟩
        · exact c ⟨(eh.mp c2).symm, c1⟩
        · exact nI_nem1 (by omega) c2.symm
    · have et : nI tg = nI s2 ↔ tg = s2 := nI_eq (by omega) (by omega)
      rw [q, xPut_at _ htg hk a hs2 hk2, xPut_at _ hh hk a hs2 hk2]
      by_cases c : s2 = tg ∧ k2 = k
      · rw [if_pos c, if_pos ⟨c.2, Or.inr (et.mpr c.1.symm)⟩]
      · rw [if_neg c]
        by_cases c2 : s2 = h ∧ k2 = k
        · rw [if_pos c2, if_pos ⟨c2.2, Or.inl (eh.mpr c2.1.symm)⟩]
        · rw [if_neg c2, if_neg]
          rintro ⟨c3, c4 | c4⟩
          · exact c2 ⟨(eh.mp c4).symm, c3⟩
          · exact c ⟨(et.mp c4).symm, c3⟩
  intro i2 k2 s2 hi2 ha2 hb2 hs2
  have hk2 : k2 < 100 := by
    have := hd.le (i := i2 + 1) (by omega)
    omega
  rw [e3, e4, e0 s2 k2 hs2 hk2]
  by_cases c : k2 = k
  · subst c
    obtain rfl := hd.uniq hi hi2 ha hb ha2 hb2
    rw [h1 k2, if_pos rfl, i_back]
    by_cases c1 : g 3 i = nI s2
    · rw [if_pos ⟨rfl, Or.inl c1⟩, if_pos c1]
    · by_cases c2 : g 4 i = nI s2
      · rw [if_pos ⟨rfl, Or.inr c2⟩, if_neg c1]
        by_cases c3 : G' 7 k2 = 0
        · rw [if_neg (fun q => q.2 c3)]
          exact h7k.resolve_left (fun q => q c3)
        · rw [if_pos ⟨c2, c3⟩]
      · rw [if_neg (fun q => q.2.elim c1 c2), if_neg c1, if_neg (fun q => c2 q.1), hr i k2 s2 hi ha hb hs2, if_neg c1, if_neg (fun q => c2 q.1)]
  · rw [if_neg (fun q => c q.1), h1 k2, if_neg c, h7 k2 c]
    exact hr i2 k2 s2 hi2 ha2 hb2 hs2
theorem Rel.quiet {t nR nB : Nat} {f : qFs} {g : qGs} {F : qFs} {G : qGs} (h : Rel t nR nB f g F G) (z : Int32) : Rel (t + 1) nR nB f g (va_up F 0 z) G := by
  obtain ⟨hx, hm, hmem, hdr, hs, ha, ⟨w, hl, hb⟩, hc, hla, hro⟩ := h
  exact ⟨hx, hm, ⟨hmem.1, by have := hmem.2.1; show -((t + 1 : Nat) : Int) ≤ (F 2).toInt; omega, hmem.2.2⟩, hdr, hs, ha, ⟨w, ⟨hl.1, hl.2.1, hl.2.2.1, by have := hl.2.2.2; omega⟩, hb⟩, hc, hla, hro⟩
theorem rel_q {t nR nB : Nat} {f : qFs} {g : qGs} {F : qFs} {G : qGs} (h : Rel t nR nB f g F G) {z bz : Int32} {u : (qFs × qGs) × (Nat → Int64)} {v : qFs × qGs} (hu : u.1 = (f, g)) (h1 : v.1 = va_up F 0 z) (h2 : v.2 = G) (ho : z = 0 → u.2 0 = bz.toInt64) : qRes t z bz u v := by
  refine ⟨by rw [h1]; rfl, ho, nR, nB, ?_⟩
  rw [h1, h2, hu]
  exact h.quiet z
theorem rel_err {t nR nB : Nat} {f : qFs} {g : qGs} {F : qFs} {G : qGs} (h : Rel t nR nB f g F G) {z bz : Int32} {u : (qFs × qGs) × (Nat → Int64)} {o : Nat → Int64} {v : qFs × qGs} (hz : ¬ z = 0) (hu : u = ((f, g), o)) (h1 : v.1 = va_up F 0 z) (h2 : v.2 = G) : qRes t z bz u v := rel_q h (by rw [hu]) h1 h2 (fun q => absurd q hz)
theorem rel_two {t nR nB : Nat} {f : qFs} {g : qGs} {F : qFs} {G : qGs} (h : Rel t nR nB f g F G) {z bz : Int32} {u : (qFs × qGs) × (Nat → Int64)} {o : Nat → Int64} {v : qFs × qGs} {P Q : Prop} {X Y : Int32} (hP : P ↔ Q) (hXY : P → X = Y) (hu : (z = 0 ∧ ∃ rv : Int32, (P ∧ rv = X) ∧ u.1 = (f, g) ∧ u.2 0 = rv.toInt64) ∨ (z = 1 ∧ (¬ P) ∧ u = ((f, g), o))) (hv : ((¬ Q) ∧ v.1 = va_up F 0 1 ∧ v.2 = G) ∨ (Q ∧ bz = Y ∧ v.1 = va_up F 0 0 ∧ v.2 = G)) : qRes t z bz u v := by
  rcases hu with ⟨rfl, rv, ⟨p, e1⟩, e2, e3⟩ | ⟨rfl, p, e⟩
  · rcases hv with ⟨q, _⟩ | ⟨q, e4, e5, e6⟩
    · exact absurd (hP.mp p) q
    · exact rel_q h e2 e5 e6 (fun _ => by rw [e3, e1, hXY p, e4])
  · rcases hv with ⟨q, e5, e6⟩ | ⟨q, _⟩
    · exact rel_err h (by decide) e e5 e6
    · exact absurd (hP.mpr q) p
theorem Rel.range {t nR nB : Nat} {f : qFs} {g : qGs} {F : qFs} {G : qGs} (h : Rel t nR nB f g F G) (r : Int32) : xRange f r ↔ mRange F r := by
  show (0 ≤ r ∧ r < f 5) ↔ (0 ≤ r ∧ r < F 3)
  rw [h.1.1, h.2.1.1]
theorem Rel.ballot {t nR nB : Nat} {f : qFs} {g : qGs} {F : qFs} {G : qGs} (h : Rel t nR nB f g F G) (r : Int32) : xBallot f r ↔ mBallot F r := by
  show (0 ≤ r ∧ r < f 15) ↔ (0 ≤ r ∧ r < F 12)
  rw [h.1.2.2.2.1, h.2.1.2.2.2.1]
theorem Rel.read {t nR nB : Nat} {f : qFs} {g : qGs} {F : qFs} {G : qGs} (h : Rel t nR nB f g F G) {k : Int32} (hk : xKey k) : xRead nR f g k = G 1 k.toNatClampNeg - 1 := by
  obtain ⟨hx, hm, hmem, ⟨fi, hd, hr⟩, hs, hq⟩ := h
  obtain ⟨n, hn, rfl⟩ := k_nat hk
  rw [nI_clamp (by omega)]
  exact rRead hx hd hr hs hn
theorem Rel.there {t nR nB : Nat} {f : qFs} {g : qGs} {F : qFs} {G : qGs} (h : Rel t nR nB f g F G) {k : Int32} (hk : xKey k) : mThere G k ↔ ¬ xRead nR f g k = -1 := by
  rw [h.read hk]
  obtain ⟨hx, hm, hmem, hdr, hs, ha, hq⟩ := h
  exact not_congr (a_there (ha _ (k_lt hk))).symm
theorem rDir.lo {nR : Nat} {fi : Nat → Nat} {g G : qGs} (h : rDir nR fi g G) {i : Nat} (hi : i < nR) : mLo G i = fi i := mLo_of (h.2.2.2.1 i hi) (h.le (by omega))
theorem rDir.hi {nR : Nat} {fi : Nat → Nat} {g G : qGs} (h : rDir nR fi g G) {i : Nat} (hi : i < nR) : mHi nR G i = fi (i + 1) := mHi_of (h.beh hi) (h.le (by omega))
theorem rDir.first {nR nB : Nat} {f : qFs} {fi : Nat → Nat} {g G : qGs} (h : rDir nR fi g G) (hx : xI nR nB f) {i : Nat} (hi : i < nR) : (xFirst f g (nI i)).toNatClampNeg = fi i := by
  have h8 := hx.2.2.1
  unfold xFirst
  cases i with
  | zero => rw [if_pos (show nI 0 = 0 from rfl), h.1]; rfl
  | succ m =>
    have h1 := h.2.2.1 m (by omega)
    have h2 := h.le (i := m + 1) (by omega)
    rw [if_neg (nI_ne0 (by omega) (by omega)), nI_pred, xLast_at hx g (by omega), h.2.2.2.2 m (by omega), nI_1, nI_clamp (by omega)]
    omega
theorem rDir.last {nR nB : Nat} {f : qFs} {fi : Nat → Nat} {g G : qGs} (h : rDir nR fi g G) (hx : xI nR nB f) {i : Nat} (hi : i < nR) : hiOf (xLast f g (nI i)) = fi (i + 1) := by
  have h1 := h.2.2.1 i hi
  have h2 := h.le (i := i + 1) (by omega)
  rw [xLast_at hx g hi, h.2.2.2.2 i hi]
  unfold hiOf
  rw [if_neg (nI_pos (by omega)), nI_clamp (by omega)]
  omega
theorem rMany {nR nB : Nat} {f : qFs} {fi : Nat → Nat} {g G : qGs} (h : rDir nR fi g G) (hx : xI nR nB f) {i : Nat} (hi : i < nR) (sh : Int32) : xMany f g sh (nI i) = nI (cnt (xRowP g sh) (fi i) (fi (i + 1))) := by
  unfold xMany
  rw [h.first hx hi, h.last hx hi]
theorem rowP_at {nR : Nat} {fi : Nat → Nat} {g G : qGs} (hd : rDir nR fi g G) (hr : rRow nR fi g G) {i k s : Nat} (hi : i < nR) (a : fi i ≤ k) (b : k < fi (i + 1)) (hs : s < 4) : xRowOf g (nI s) (nI k) = if g 3 i = nI s then G 1 k - 1 else if g 4 i = nI s ∧ ¬ G 7 k = 0 then G 1 k - 1 else -1 := by
  have := hd.le (i := i + 1) (by omega)
  rw [rowOf_at g hs (by omega)]
  exact hr i k s hi a b hs
theorem rowP_h {nR : Nat} {fi : Nat → Nat} {g G : qGs} (hd : rDir nR fi g G) (hr : rRow nR fi g G) (ha : rAdr G) {i k s : Nat} (hi : i < nR) (a : fi i ≤ k) (b : k < fi (i + 1)) (hs : s < 4) (c : g 3 i = nI s) : xRowP g (nI s) k = decide (mTh G k) := by
  have := hd.le (i := i + 1) (by omega)
  refine decide_eq_decide.mpr ?_
  rw [rowP_at hd hr hi a b hs, if_pos c]
  exact not_congr (a_there (ha k (by omega)))
theorem rowP_t {nR : Nat} {fi : Nat → Nat} {g G : qGs} (hd : rDir nR fi g G) (hr : rRow nR fi g G) (ha : rAdr G) {i k s : Nat} (hi : i < nR) (a : fi i ≤ k) (b : k < fi (i + 1)) (hs : s < 4) (c : ¬ g 3 i = nI s) (c2 : g 4 i = nI s) : xRowP g (nI s) k = mP G 1 k := by
  have := hd.le (i := i + 1) (by omega)
  refine decide_eq_decide.mpr ?_
  rw [rowP_at hd hr hi a b hs, if_neg c]
  have hT : mTh G k ↔ ¬ G 1 k - 1 = -1 := not_congr (a_there (ha k (by omega))).symm
  by_cases c3 : G 7 k = 0
  · rw [if_neg (fun q => q.2 c3)]
    exact ⟨fun q => absurd rfl q, fun q => q.2.elim (fun q2 => absurd c3 q2) (fun q2 => absurd q2 (by decide))⟩
  · rw [if_pos ⟨c2, c3⟩]
    exact ⟨fun q => ⟨hT.mpr q, Or.inl c3⟩, fun q => hT.mp q.1⟩
theorem rowP_n {nR : Nat} {fi : Nat → Nat} {g G : qGs} (hd : rDir nR fi g G) (hr : rRow nR fi g G) {i k s : Nat} (hi : i < nR) (a : fi i ≤ k) (b : k < fi (i + 1)) (hs : s < 4) (c : ¬ g 3 i = nI s) (c2 : ¬ g 4 i = nI s) : xRowP g (nI s) k = false := by
  refine decide_eq_false ?_
  rw [rowP_at hd hr hi a b hs, if_neg c, if_neg (fun q => c2 q.1)]
  exact fun q => q rfl
theorem cnt_false {p : Nat → Bool} {lo hi : Nat} (h : ∀ j, lo ≤ j → j < hi → p j = false) : cnt p lo hi = 0 := by
  have : ∀ n lo, cntR (fun _ => false) lo n = 0 := by
    intro n
    induction n with
    | zero => intro _; rfl
    | succ n ih =>
      intro lo
      show (if (false : Bool) = true then 1 else 0) + cntR (fun _ => false) (lo + 1) n = 0
      rw [ih (lo + 1)]
      rfl
  rw [cntI (q := fun _ => false) h]
  exact this _ _
theorem cnt_sm {nR : Nat} {fi : Nat → Nat} {g G : qGs} (hd : rDir nR fi g G) {p : Nat → Bool} {q : Nat → Nat} (h : ∀ i, i < nR → cnt p (fi i) (fi (i + 1)) = q i) : ∀ n, n ≤ nR → cnt p 0 (fi n) = sm q n
  | 0, _ => by
    rw [hd.1]
    exact cnt_end (Nat.le_refl _)
  | n + 1, hn => by
    rw [cnt_split p (Nat.zero_le (fi n)) (Nat.le_of_lt (hd.2.2.1 n hn)), cnt_sm hd h n (by omega), h n hn]
    rfl
theorem xDropN_up (sh : Int32) : ∀ (n lo : Nat) (g : qGs), xDropN sh g lo n = va_up g 0 (xDropN sh g lo n 0)
  | 0, lo, g => (up_self g 0).symm
  | n + 1, lo, g => by
    show xDropN sh (xPutG g sh (nI lo) (-1)) (lo + 1) n = va_up g 0 (xDropN sh (xPutG g sh (nI lo) (-1)) (lo + 1) n 0)
    rw [xDropN_up sh n (lo + 1) (xPutG g sh (nI lo) (-1))]
    funext p
    unfold xPutG va_up
    by_cases c : p = 0
    · subst c; rfl
    · simp only [if_neg c]
theorem xDropN_at {s : Nat} (hs : s < 4) : ∀ (n lo : Nat) (g : qGs), lo + n ≤ 100 → ∀ s2 k2, s2 < 4 → k2 < 100 → xDropN (nI s) g lo n 0 (s2 * 100 + k2) = if s2 = s ∧ lo ≤ k2 ∧ k2 < lo + n then -1 else g 0 (s2 * 100 + k2)
  | 0, lo, g, _, s2, k2, _, _ => by
    rw [if_neg (by omega)]
    rfl
  | n + 1, lo, g, hn, s2, k2, hs2, hk2 => by
    show xDropN (nI s) (xPutG g (nI s) (nI lo) (-1)) (lo + 1) n 0 (s2 * 100 + k2) = _
    rw [xDropN_at hs n (lo + 1) _ (by omega) s2 k2 hs2 hk2]
    have e : xPutG g (nI s) (nI lo) (-1) 0 (s2 * 100 + k2) = if s2 = s ∧ k2 = lo then -1 else g 0 (s2 * 100 + k2) := xPut_at (g 0) hs (by omega) (-1) hs2 hk2
    rw [e]
    by_cases c : s2 = s ∧ lo + 1 ≤ k2 ∧ k2 < lo + 1 + n
    · rw [if_pos c, if_pos (by omega)]
    · rw [if_neg c]
      by_cases c2 : s2 = s ∧ k2 = lo
      · rw [if_pos c2, if_pos (by omega)]
      · rw [if_neg c2, if_neg (by omega)]
theorem drop_at {nR nB : Nat} {f : qFs} {fi : Nat → Nat} {g G : qGs} (hd : rDir nR fi g G) (hx : xI nR nB f) {i : Nat} (hi : i < nR) {s : Nat} (hs : s < 4) : ∃ row : Nat → Int32, xDropG f g (nI s) (nI i) = va_up g 0 row ∧ ∀ s2 k2, s2 < 4 → k2 < 100 → row (s2 * 100 + k2) = if s2 = s ∧ fi i ≤ k2 ∧ k2 < fi (i + 1) then -1 else g 0 (s2 * 100 + k2) := by
  have h1 := hd.2.2.1 i hi
  have h2 := hd.le (i := i + 1) (by omega)
  refine ⟨_, xDropN_up _ _ _ _, fun s2 k2 hs2 hk2 => ?_⟩
  rw [hd.first hx hi, hd.last hx hi, xDropN_at hs _ _ _ (by omega) s2 k2 hs2 hk2, show fi i + (fi (i + 1) - fi i) = fi (i + 1) by omega]
theorem Rel.home {t nR nB : Nat} {f : qFs} {g : qGs} {F : qFs} {G : qGs} (h : Rel t nR nB f g F G) {r : Int32} (c : mRange F r) : xHome f g r = G 5 r.toNatClampNeg := by
  obtain ⟨n, hn, rfl⟩ := m_nat h.2.1 c
  obtain ⟨hx, hm, hmem, hdr, hs, hq⟩ := h
  rw [xHome_at hx g hn, nI_clamp (by have := hx.2.2.1; omega)]
  exact (hs n hn).1
theorem Rel.targ {t nR nB : Nat} {f : qFs} {g : qGs} {F : qFs} {G : qGs} (h : Rel t nR nB f g F G) {r : Int32} (c : mRange F r) : xTarg f g r = G 6 r.toNatClampNeg := by
  obtain ⟨n, hn, rfl⟩ := m_nat h.2.1 c
  obtain ⟨hx, hm, hmem, hdr, hs, hq⟩ := h
  rw [xTarg_at hx g hn, nI_clamp (by have := hx.2.2.1; omega)]
  exact (hs n hn).2.1
theorem Rel.mv0 {t nR nB : Nat} {f : qFs} {g : qGs} {F : qFs} {G : qGs} (h : Rel t nR nB f g F G) {r : Int32} (c : xRange f r) (c2 : ¬ xTarg f g r = -1) : mMv F G r = 0 := mMv_is ((h.range r).mp c) (by rw [← h.targ ((h.range r).mp c)]; exact c2)
theorem Rel.mv2 {t nR nB : Nat} {f : qFs} {g : qGs} {F : qFs} {G : qGs} (h : Rel t nR nB f g F G) {r : Int32} (c : xRange f r) (c2 : xTarg f g r = -1) : mMv F G r = 2 := mMv_2 ((h.range r).mp c) (by rw [← h.targ ((h.range r).mp c)]; exact c2)
theorem Rel.mv1 {t nR nB : Nat} {f : qFs} {g : qGs} {F : qFs} {G : qGs} (h : Rel t nR nB f g F G) {r : Int32} (c : ¬ xRange f r) : mMv F G r = 1 := mMv_1 (fun q => c ((h.range r).mpr q))
theorem up3 (g : qGs) (x y z : Nat) (a b c a2 b2 c2 : Nat → Int32) : va_up (va_up (va_up (va_up (va_up (va_up g x a) y b) z c) x a2) y b2) z c2 = va_up (va_up (va_up g x a2) y b2) z c2 := by
  funext j
  unfold va_up
  by_cases h1 : j = z
  · simp only [if_pos h1]
  · by_cases h2 : j = y
    · simp only [if_neg h1, if_pos h2]
    · by_cases h3 : j = x
      · simp only [if_neg h1, if_neg h2, if_pos h3]
      · simp only [if_neg h1, if_neg h2, if_neg h3]
def upR (r : Nat) : (Nat → Int32) → Nat → Nat → Int32
  | a, 0 => a
  | a, n + 1 => upR r (upd a (r + n + 1) (a (r + n))) n
theorem upR_at (r : Nat) : ∀ (n : Nat) (a : Nat → Int32) (j : Nat), upR r a n j = if r < j ∧ j ≤ r + n then a (j - 1) else a j
  | 0, a, j => by
    rw [if_neg (by omega)]
    rfl
  | n + 1, a, j => by
    show upR r (upd a (r + n + 1) (a (r + n))) n j = _
    rw [upR_at r n]
    unfold upd
    by_cases c : r < j ∧ j ≤ r + n
    · rw [if_pos c, if_neg (by omega), if_pos (by omega)]
    · rw [if_neg c]
      by_cases c2 : j = r + n + 1
      · subst c2
        rw [if_pos rfl, if_pos (by omega)]
        rfl
      · rw [if_neg c2, if_neg (by omega)]
theorem xUp_is (r : Nat) : ∀ (n : Nat) (g : qGs), xUpG r g n = va_up (va_up (va_up g 2 (upR r (g 2) n)) 3 (upR r (g 3) n)) 4 (upR r (g 4) n)
  | 0, g => by
    show g = va_up (va_up (va_up g 2 (g 2)) 3 (g 3)) 4 (g 4)
    rw [up_self g 2, up_self g 3, up_self g 4]
  | n + 1, g => by
    show xUpG r (xCopyG g (r + n) (r + n + 1)) n = _
    rw [xUp_is r n]
    unfold xCopyG
    exact up3 g 2 3 4 _ _ _ _ _ _
theorem mUp_is (r : Nat) : ∀ (n : Nat) (g : qGs), mUpG r g n = va_up (va_up (va_up g 4 (upR r (g 4) n)) 5 (upR r (g 5) n)) 6 (upR r (g 6) n)
  | 0, g => by
    show g = va_up (va_up (va_up g 4 (g 4)) 5 (g 5)) 6 (g 6)
    rw [up_self g 4, up_self g 5, up_self g 6]
  | n + 1, g => by
    show mUpG r (mCopyG g (r + n) (r + n + 1)) n = _
    rw [mUp_is r n]
    unfold mCopyG
    exact up3 g 4 5 6 _ _ _ _ _ _
def dnR : (Nat → Int32) → Nat → Nat → Nat → Int32
  | a, _, 0 => a
  | a, t, n + 1 => dnR (upd a t (a (t + 1))) (t + 1) n
theorem dnR_at : ∀ (n t : Nat) (a : Nat → Int32) (j : Nat), dnR a t n j = if t ≤ j ∧ j < t + n then a (j + 1) else a j
  | 0, t, a, j => by
    rw [if_neg (by omega)]
    rfl
  | n + 1, t, a, j => by
    show dnR (upd a t (a (t + 1))) (t + 1) n j = _
    rw [dnR_at n]
    unfold upd
    by_cases c : t + 1 ≤ j ∧ j < t + 1 + n
    · rw [if_pos c, if_neg (by omega), if_pos (by omega)]
    · rw [if_neg c]
      by_cases c2 : j = t
      · subst c2
        rw [if_pos rfl, if_pos (by omega)]
      · rw [if_neg c2, if_neg (by omega)]
theorem xDn_is : ∀ (n t : Nat) (g : qGs), xDnG g t n = va_up (va_up (va_up g 2 (dnR (g 2) t n)) 3 (dnR (g 3) t n)) 4 (dnR (g 4) t n)
  | 0, t, g => by
    show g = va_up (va_up (va_up g 2 (g 2)) 3 (g 3)) 4 (g 4)
    rw [up_self g 2, up_self g 3, up_self g 4]
  | n + 1, t, g => by
    show xDnG (xCopyG g (t + 1) t) (t + 1) n = _
    rw [xDn_is n]
    unfold xCopyG
    exact up3 g 2 3 4 _ _ _ _ _ _
theorem mDn_is : ∀ (n t : Nat) (g : qGs), mDnG g (t + 1) n = va_up (va_up (va_up g 4 (dnR (g 4) t n)) 5 (dnR (g 5) t n)) 6 (dnR (g 6) t n)
  | 0, t, g => by
    show g = va_up (va_up (va_up g 4 (g 4)) 5 (g 5)) 6 (g 6)
    rw [up_self g 4, up_self g 5, up_self g 6]
  | n + 1, t, g => by
    show mDnG (mCopyG g (t + 1) (t + 1 - 1)) (t + 1 + 1) n = _
    rw [mDn_is n, Nat.add_sub_cancel]
    unfold mCopyG
    exact up3 g 4 5 6 _ _ _ _ _ _
theorem lat_cases {p : Nat → Bool} : ∀ n, xLatN p n = -1 ∨ ∃ b, b < n ∧ xLatN p n = nI b ∧ p b = true
  | 0 => Or.inl rfl
  | n + 1 => by
    show (if p n = true then nI n else xLatN p n) = -1 ∨ ∃ b, b < n + 1 ∧ (if p n = true then nI n else xLatN p n) = nI b ∧ p b = true
    by_cases c : p n = true
    · rw [if_pos c]
      exact Or.inr ⟨n, by omega, rfl, c⟩
    · rw [if_neg c]
      rcases lat_cases (p := p) n with q | ⟨b, h1, h2, h3⟩
      · exact Or.inl q
      · exact Or.inr ⟨b, by omega, h2, h3⟩
theorem lat_cong {p q : Nat → Bool} : ∀ n, (∀ j, j < n → p j = q j) → xLatN p n = xLatN q n
  | 0, _ => rfl
  | n + 1, h => by
    show (if p n = true then nI n else xLatN p n) = (if q n = true then nI n else xLatN q n)
    rw [h n (by omega), lat_cong n (fun j hj => h j (by omega))]
theorem lat_none {p : Nat → Bool} : ∀ n, (∀ j, j < n → ¬ p j = true) → xLatN p n = -1
  | 0, _ => rfl
  | n + 1, h => by
    show (if p n = true then nI n else xLatN p n) = -1
    rw [if_neg (h n (by omega)), lat_none n (fun j hj => h j (by omega))]
set_option maxHeartbeats 4000000 in
theorem rel_join {t nR nB : Nat} {f : qFs} {g : qGs} {F : qFs} {G : qGs} (hRel : Rel t nR nB f g F G) (ht : t < 512) {k a : Int32} {z bz : Int32} {u : (qFs × qGs) × (Nat → Int64)} {o : Nat → Int64} {v : qFs × qGs} (hu : (z = 0 ∧ ∃ rv : Int32, ((xKey k ∧ xAdr a ∧ xRead nR f g k = -1 ∧ f 1 < 40) ∧ rv = f 1 + 1 ∧ u.1.1 = va_up f 1 (f 1 + 1) ∧ u.1.2 = xWriteG nR f g k a) ∧ u.2 0 = rv.toInt64) ∨ (z = 1 ∧ (¬ xKey k) ∧ u = ((f, g), o)) ∨ (z = 2 ∧ (xKey k ∧ ¬ xAdr a) ∧ u = ((f, g), o)) ∨ (z = 3 ∧ (xKey k ∧ xAdr a ∧ (¬ xRead nR f g k = -1 ∨ ¬ f 1 < 40)) ∧ u = ((f, g), o))) (hv : ((¬ xKey k) ∧ v.1 = va_up F 0 1 ∧ v.2 = G) ∨ ((xKey k ∧ ¬ xAdr a) ∧ v.1 = va_up F 0 2 ∧ v.2 = G) ∨ ((xKey k ∧ xAdr a ∧ (mThere G k ∨ F 2 = 40)) ∧ v.1 = va_up F 0 3 ∧ v.2 = G) ∨ ((xKey k ∧ xAdr a ∧ ¬ mThere G k ∧ ¬ F 2 = 40) ∧ bz = F 2 + 1 ∧ v.1 = va_up (va_up F 0 0) 2 (F 2 + 1) ∧ v.2 = va_up (va_up G 1 (upd (G 1) k.toNatClampNeg (a + 1))) 7 (upd (G 7) k.toNatClampNeg 1))) : qRes t z bz u v := by
  obtain ⟨hx, hm, hmem, ⟨fi, hd, hr⟩, hs, ha, ⟨w, hl, hb⟩, hc, hla, hro⟩ := id hRel
  have hT : xKey k → (mThere G k ↔ ¬ xRead nR f g k = -1) := fun hk => hRel.there hk
  have hF : f 1 < 40 ↔ ¬ F 2 = 40 := by
    rw [hmem.1, fa_lt, fa_eq]
    have e : (40 : Int32).toInt = 40 := rfl
    have := hmem.2.2
    omega
  rcases hu with ⟨rfl, rv, ⟨⟨c1, c2, c3, c4⟩, e1, e2, e3⟩, e4⟩ | ⟨rfl, c1, e⟩ | ⟨rfl, ⟨c1, c2⟩, e⟩ | ⟨rfl, ⟨c1, c2, c3⟩, e⟩
  · rcases hv with ⟨d1, _⟩ | ⟨⟨d1, d2⟩, _⟩ | ⟨⟨d1, d2, d3⟩, _⟩ | ⟨⟨d1, d2, d3, d4⟩, d5, d6, d7⟩
    · exact absurd c1 d1
    · exact absurd c2 d2
    · exact (d3.elim (fun q => (hT c1).mp q c3) (fun q => hF.mp c4 q)).elim
    · refine ⟨by rw [d6]; rfl, fun _ => by rw [e4, e1, d5, hmem.1], nR, nB, ?_⟩
      rw [e2, e3, d6, d7]
      obtain ⟨n, hn, rfl⟩ := k_nat d1
      have hC : (nI n).toNatClampNeg = n := nI_clamp (by omega)
      rw [hC]
      have hj1 : ∀ j, va_up (va_up G 1 (upd (G 1) n (a + 1))) 7 (upd (G 7) n 1) 1 j = if j = n then a + 1 else G 1 j := fun j => rfl
      refine ⟨hx, hm, ⟨?_, ?_, ?_⟩, ⟨fi, hd, rWrite hx hd hr hs hn rfl hj1 (fun j hj => if_neg hj) (Or.inl ?_)⟩, hs, ?_, ⟨w, ⟨hl.1, hl.2.1, hl.2.2.1, by have := hl.2.2.2; omega⟩, hb⟩, hc, hla, hro⟩
      · show f 1 + 1 = F 2 + 1
        rw [hmem.1]
      · show -((t + 1 : Nat) : Int) ≤ (F 2 + 1).toInt
        have h1 := hmem.2.1
        have h2 := hmem.2.2
        rw [i_up (by omega) (by omega)]
        omega
      · show (F 2 + 1).toInt ≤ 40
        have h1 := hmem.2.1
        have h2 := hmem.2.2
        have h3 : ¬ (F 2).toInt = 40 := fun q => d4 ((fa_eq _ _).mpr q)
        rw [i_up (by omega) (by omega)]
        omega
      · show ¬ upd (G 7) n 1 n = 0
        unfold upd
        rw [if_pos rfl]
        decide
      · intro j hj
        rw [hj1]
        by_cases c : j = n
        · rw [if_pos c]
          obtain ⟨a', ha', rfl⟩ : ∃ a' : Nat, a' < 40 ∧ a = nI a' := by
            obtain ⟨y, hy, rfl⟩ := nI_of (x := a) (fun q => by have h1 := c2.1; rw [fa_lt] at q; rw [fa_le] at h1; omega)
            have h2 := c2.2
            rw [show (40 : Int32) = nI 40 from rfl, nI_ltI hy (by decide)] at h2
            exact ⟨y, h2, rfl⟩
          exact Or.inr ⟨a', ha', nI_1 a'⟩
        · rw [if_neg c]
          exact ha j hj
  · rcases hv with ⟨d1, d6, d7⟩ | ⟨⟨d1, d2⟩, _⟩ | ⟨⟨d1, d2, d3⟩, _⟩ | ⟨⟨d1, d2, d3, d4⟩, d5, d6, d7⟩
    · exact rel_err hRel (by decide) e d6 d7
    · exact absurd d1 c1
    · exact absurd d1 c1
    · exact absurd d1 c1
  · rcases hv with ⟨d1, _⟩ | ⟨⟨d1, d2⟩, d6, d7⟩ | ⟨⟨d1, d2, d3⟩, _⟩ | ⟨⟨d1, d2, d3, d4⟩, d5, d6, d7⟩
    · exact absurd c1 d1
    · exact rel_err hRel (by decide) e d6 d7
    · exact absurd d2 c2
    · exact absurd d2 c2
  · rcases hv with ⟨d1, _⟩ | ⟨⟨d1, d2⟩, _⟩ | ⟨⟨d1, d2, d3⟩, d6, d7⟩ | ⟨⟨d1, d2, d3, d4⟩, d5, d6, d7⟩
    · exact absurd c1 d1
    · exact absurd c2 d2
    · exact rel_err hRel (by decide) e d6 d7
    · exact (c3.elim (fun q => d3 ((hT c1).mpr q)) (fun q => q (hF.mpr d4))).elim
set_option maxHeartbeats 4000000 in
theorem rel_change {t nR nB : Nat} {f : qFs} {g : qGs} {F : qFs} {G : qGs} (hRel : Rel t nR nB f g F G) (ht : t < 512) {k a : Int32} {z bz : Int32} {u : (qFs × qGs) × (Nat → Int64)} {o : Nat → Int64} {v : qFs × qGs} (hu : (z = 0 ∧ ∃ rv : Int32, ((xKey k ∧ xAdr a ∧ ¬ xRead nR f g k = -1) ∧ rv = xRead nR f g k ∧ u.1.1 = f ∧ u.1.2 = xWriteG nR f g k a) ∧ u.2 0 = rv.toInt64) ∨ (z = 1 ∧ (¬ xKey k) ∧ u = ((f, g), o)) ∨ (z = 2 ∧ (xKey k ∧ ¬ xAdr a) ∧ u = ((f, g), o)) ∨ (z = 3 ∧ (xKey k ∧ xAdr a ∧ xRead nR f g k = -1) ∧ u = ((f, g), o))) (hv : ((¬ xKey k) ∧ v.1 = va_up F 0 1 ∧ v.2 = G) ∨ ((xKey k ∧ ¬ xAdr a) ∧ v.1 = va_up F 0 2 ∧ v.2 = G) ∨ ((xKey k ∧ xAdr a ∧ ¬ mThere G k) ∧ v.1 = va_up F 0 3 ∧ v.2 = G) ∨ ((xKey k ∧ xAdr a ∧ mThere G k) ∧ bz = G 1 k.toNatClampNeg - 1 ∧ v.1 = va_up F 0 0 ∧ v.2 = va_up (va_up G 1 (upd (G 1) k.toNatClampNeg (a + 1))) 7 (upd (G 7) k.toNatClampNeg 1))) : qRes t z bz u v := by
  obtain ⟨hx, hm, hmem, ⟨fi, hd, hr⟩, hs, ha, ⟨w, hl, hb⟩, hc, hla, hro⟩ := id hRel
  have hT : xKey k → (mThere G k ↔ ¬ xRead nR f g k = -1) := fun hk => hRel.there hk
  rcases hu with ⟨rfl, rv, ⟨⟨c1, c2, c3⟩, e1, e2, e3⟩, e4⟩ | ⟨rfl, c1, e⟩ | ⟨rfl, ⟨c1, c2⟩, e⟩ | ⟨rfl, ⟨c1, c2, c3⟩, e⟩
  · rcases hv with ⟨d1, _⟩ | ⟨⟨d1, d2⟩, _⟩ | ⟨⟨d1, d2, d3⟩, _⟩ | ⟨⟨d1, d2, d3⟩, d5, d6, d7⟩
    · exact absurd c1 d1
    · exact absurd c2 d2
    · exact absurd ((hT c1).mpr c3) d3
    · refine ⟨by rw [d6]; rfl, fun _ => by rw [e4, e1, d5, hRel.read c1], nR, nB, ?_⟩
      rw [e2, e3, d6, d7]
      obtain ⟨n, hn, rfl⟩ := k_nat d1
      have hC : (nI n).toNatClampNeg = n := nI_clamp (by omega)
      rw [hC]
      have hj1 : ∀ j, va_up (va_up G 1 (upd (G 1) n (a + 1))) 7 (upd (G 7) n 1) 1 j = if j = n then a + 1 else G 1 j := fun j => rfl
      refine ⟨hx, hm, ⟨hmem.1, ?_, hmem.2.2⟩, ⟨fi, hd, rWrite hx hd hr hs hn rfl hj1 (fun j hj => if_neg hj) (Or.inl ?_)⟩, hs, ?_, ⟨w, ⟨hl.1, hl.2.1, hl.2.2.1, by have := hl.2.2.2; omega⟩, hb⟩, hc, hla, hro⟩
      · show -((t + 1 : Nat) : Int) ≤ (F 2).toInt
        have h1 := hmem.2.1
        omega
      · show ¬ upd (G 7) n 1 n = 0
        unfold upd
        rw [if_pos rfl]
        decide
      · intro j hj
        rw [hj1]
        by_cases c : j = n
        · rw [if_pos c]
          obtain ⟨a', ha', rfl⟩ : ∃ a' : Nat, a' < 40 ∧ a = nI a' := by
            obtain ⟨y, hy, rfl⟩ := nI_of (x := a) (fun q => by have h1 := c2.1; rw [fa_lt] at q; rw [fa_le] at h1; omega)
            have h2 := c2.2
            rw [show (40 : Int32) = nI 40 from rfl, nI_ltI hy (by decide)] at h2
            exact ⟨y, h2, rfl⟩
          exact Or.inr ⟨a', ha', nI_1 a'⟩
        · rw [if_neg c]
          exact ha j hj
  · rcases hv with ⟨d1, d6, d7⟩ | ⟨⟨d1, d2⟩, _⟩ | ⟨⟨d1, d2, d3⟩, _⟩ | ⟨⟨d1, d2, d3⟩, d5, d6, d7⟩
    · exact rel_err hRel (by decide) e d6 d7
    · exact absurd d1 c1
    · exact absurd d1 c1
    · exact absurd d1 c1
  · rcases hv with ⟨d1, _⟩ | ⟨⟨d1, d2⟩, d6, d7⟩ | ⟨⟨d1, d2, d3⟩, _⟩ | ⟨⟨d1, d2, d3⟩, d5, d6, d7⟩
    · exact absurd c1 d1
    · exact rel_err hRel (by decide) e d6 d7
    · exact absurd d2 c2
    · exact absurd d2 c2
  · rcases hv with ⟨d1, _⟩ | ⟨⟨d1, d2⟩, _⟩ | ⟨⟨d1, d2, d3⟩, d6, d7⟩ | ⟨⟨d1, d2, d3⟩, d5, d6, d7⟩
    · exact absurd c1 d1
    · exact absurd c2 d2
    · exact rel_err hRel (by decide) e d6 d7
    · exact absurd c3 ((hT c1).mp d3)
set_option maxHeartbeats 4000000 in
theorem rel_leave {t nR nB : Nat} {f : qFs} {g : qGs} {F : qFs} {G : qGs} (hRel : Rel t nR nB f g F G) (ht : t < 512) {k : Int32} {z bz : Int32} {u : (qFs × qGs) × (Nat → Int64)} {o : Nat → Int64} {v : qFs × qGs} (hu : (z = 0 ∧ ∃ rv : Int32, ((xKey k ∧ ¬ xRead nR f g k = -1) ∧ rv = xRead nR f g k ∧ u.1.1 = va_up f 1 (f 1 - 1) ∧ u.1.2 = xWriteG nR f g k (-1)) ∧ u.2 0 = rv.toInt64) ∨ (z = 1 ∧ (¬ xKey k) ∧ u = ((f, g), o)) ∨ (z = 2 ∧ (xKey k ∧ xRead nR f g k = -1) ∧ u = ((f, g), o))) (hv : ((¬ xKey k) ∧ v.1 = va_up F 0 1 ∧ v.2 = G) ∨ ((xKey k ∧ ¬ mThere G k) ∧ v.1 = va_up F 0 2 ∧ v.2 = G) ∨ ((xKey k ∧ mThere G k) ∧ bz = G 1 k.toNatClampNeg - 1 ∧ v.1 = va_up (va_up F 0 0) 2 (F 2 - 1) ∧ v.2 = va_up G 1 (upd (G 1) k.toNatClampNeg 0))) : qRes t z bz u v := by
  obtain ⟨hx, hm, hmem, ⟨fi, hd, hr⟩, hs, ha, ⟨w, hl, hb⟩, hc, hla, hro⟩ := id hRel
  have hT : xKey k → (mThere G k ↔ ¬ xRead nR f g k = -1) := fun hk => hRel.there hk
  rcases hu with ⟨rfl, rv, ⟨⟨c1, c2⟩, e1, e2, e3⟩, e4⟩ | ⟨rfl, c1, e⟩ | ⟨rfl, ⟨c1, c2⟩, e⟩
  · rcases hv with ⟨d1, _⟩ | ⟨⟨d1, d2⟩, _⟩ | ⟨⟨d1, d2⟩, d5, d6, d7⟩
    · exact absurd c1 d1
    · exact absurd ((hT c1).mpr c2) d2
    · refine ⟨by rw [d6]; rfl, fun _ => by rw [e4, e1, d5, hRel.read c1], nR, nB, ?_⟩
      rw [e2, e3, d6, d7]
      obtain ⟨n, hn, rfl⟩ := k_nat d1
      have hC : (nI n).toNatClampNeg = n := nI_clamp (by omega)
      rw [hC]
      have hj1 : ∀ j, va_up G 1 (upd (G 1) n 0) 1 j = if j = n then (-1 : Int32) + 1 else G 1 j := fun j => rfl
      refine ⟨hx, hm, ⟨?_, ?_, ?_⟩, ⟨fi, hd, rWrite hx hd hr hs hn rfl hj1 (fun j hj => rfl) (Or.inr rfl)⟩, hs, ?_, ⟨w, ⟨hl.1, hl.2.1, hl.2.2.1, by have := hl.2.2.2; omega⟩, hb⟩, hc, hla, hro⟩
      · show f 1 - 1 = F 2 - 1
        rw [hmem.1]
      · show -((t + 1 : Nat) : Int) ≤ (F 2 - 1).toInt
        have h1 := hmem.2.1
        have h2 := hmem.2.2
        rw [i_dn (by omega) (by omega)]
        omega
      · show (F 2 - 1).toInt ≤ 40
        have h1 := hmem.2.1
        have h2 := hmem.2.2
        rw [i_dn (by omega) (by omega)]
        omega
      · intro j hj
        rw [hj1]
        by_cases c : j = n
        · rw [if_pos c]
          exact Or.inl rfl
        · rw [if_neg c]
          exact ha j hj
  · rcases hv with ⟨d1, d6, d7⟩ | ⟨⟨d1, d2⟩, _⟩ | ⟨⟨d1, d2⟩, d5, d6, d7⟩
    · exact rel_err hRel (by decide) e d6 d7
    · exact absurd d1 c1
    · exact absurd d1 c1
  · rcases hv with ⟨d1, _⟩ | ⟨⟨d1, d2⟩, d6, d7⟩ | ⟨⟨d1, d2⟩, d5, d6, d7⟩
    · exact absurd c1 d1
    · exact rel_err hRel (by decide) e d6 d7
    · exact absurd c2 ((hT c1).mp d2)
set_option maxHeartbeats 4000000 in
theorem rel_address {t nR nB : Nat} {f : qFs} {g : qGs} {F : qFs} {G : qGs} (hRel : Rel t nR nB f g F G) (ht : t < 512) {k : Int32} {z bz : Int32} {u : (qFs × qGs) × (Nat → Int64)} {o : Nat → Int64} {v : qFs × qGs} (hu : (z = 0 ∧ ∃ rv : Int32, (xKey k ∧ rv = xRead nR f g k) ∧ u.1 = (f, g) ∧ u.2 0 = rv.toInt64) ∨ (z = 1 ∧ (¬ xKey k) ∧ u = ((f, g), o))) (hv : ((¬ (xKey k)) ∧ v.1 = va_up F 0 1 ∧ v.2 = G) ∨ ((xKey k) ∧ bz = G 1 k.toNatClampNeg - 1 ∧ v.1 = va_up F 0 0 ∧ v.2 = G)) : qRes t z bz u v := by
  exact rel_two hRel Iff.rfl (fun hk => hRel.read hk) hu hv
set_option maxHeartbeats 4000000 in
theorem rel_inDistrict {t nR nB : Nat} {f : qFs} {g : qGs} {F : qFs} {G : qGs} (hRel : Rel t nR nB f g F G) (ht : t < 512) {d : Int32} {z bz : Int32} {u : (qFs × qGs) × (Nat → Int64)} {o : Nat → Int64} {v : qFs × qGs} (hu : (z = 0 ∧ ∃ rv : Int32, (xShard d ∧ rv = nI (cnt (fun j => decide (xDist (xRead nR f g (nI j)) = d)) 0 100)) ∧ u.1 = (f, g) ∧ u.2 0 = rv.toInt64) ∨ (z = 1 ∧ (¬ xShard d) ∧ u = ((f, g), o))) (hv : ((¬ (xShard d)) ∧ v.1 = va_up F 0 1 ∧ v.2 = G) ∨ ((xShard d) ∧ bz = nI (cnt (fun j => decide (mTh G j ∧ (G 1 j - 1) / 10 = d)) 0 100) ∧ v.1 = va_up F 0 0 ∧ v.2 = G)) : qRes t z bz u v := by
  refine rel_two hRel Iff.rfl (fun hd => ?_) hu hv
  refine congrArg nI (cntI (fun j _ hj => ?_))
  have hk := nat_key hj
  rw [hRel.read hk, nI_clamp (by omega)]
  obtain ⟨hx, hm, hmem, hdr, hs, ha, hq⟩ := hRel
  have hT : mTh G j ↔ ¬ G 1 j - 1 = -1 := not_congr (a_there (ha j hj)).symm
  refine decide_eq_decide.mpr ?_
  unfold xDist
  by_cases c : G 1 j - 1 = -1
  · rw [if_pos c]
    refine ⟨fun q => ?_, fun q => absurd c (hT.mp q.1)⟩
    obtain ⟨n, hn, rfl⟩ := s_nat hd
    exact absurd q.symm (nI_nem1 (by omega))
  · rw [if_neg c]
    exact ⟨fun q => ⟨hT.mpr c, q⟩, fun q => q.2⟩
set_option maxHeartbeats 4000000 in
theorem rel_split {t nR nB : Nat} {f : qFs} {g : qGs} {F : qFs} {G : qGs} (hRel : Rel t nR nB f g F G) (ht : t < 512) {k : Int32} {z bz : Int32} {u : (qFs × qGs) × (Nat → Int64)} {o : Nat → Int64} {v : qFs × qGs} (hu : (z = 0 ∧ ∃ rv : Int32, ((xKey k ∧ ¬ k = xLast f g (nI (xHold nR g k)) ∧ xTarg f g (nI (xHold nR g k)) = -1 ∧ f 5 < 8) ∧ rv = nI (xHold nR g k + 1) ∧ u.1.1 = va_up f 5 (nI (nR + 1)) ∧ u.1.2 = va_up (xUpG (xHold nR g k) g (nR - xHold nR g k)) 2 (upd (xUpG (xHold nR g k) g (nR - xHold nR g k) 2) (xHold nR g k) k)) ∧ u.2 0 = rv.toInt64) ∨ (z = 1 ∧ (¬ xKey k) ∧ u = ((f, g), o)) ∨ (z = 2 ∧ (xKey k ∧ (k = xLast f g (nI (xHold nR g k)) ∨ ¬ xTarg f g (nI (xHold nR g k)) = -1 ∨ ¬ f 5 < 8)) ∧ u = ((f, g), o))) (hv : ((¬ xKey k) ∧ v.1 = va_up F 0 1 ∧ v.2 = G) ∨ ((xKey k ∧ (k + 1 = mBeh nR G (mAtN (G 4) k nR) ∨ ¬ G 6 (mAtN (G 4) k nR) = -1 ∨ nR = 8)) ∧ v.1 = va_up F 0 2 ∧ v.2 = G) ∨ ((xKey k ∧ ¬ k + 1 = mBeh nR G (mAtN (G 4) k nR) ∧ G 6 (mAtN (G 4) k nR) = -1 ∧ nR < 8) ∧ bz = nI (mAtN (G 4) k nR + 1) ∧ v.1 = va_up (va_up F 0 0) 3 (nI (nR + 1)) ∧ v.2 = va_up (va_up (va_up (mUpG (mAtN (G 4) k nR + 1) G (nR - (mAtN (G 4) k nR + 1))) 4 (upd ((mUpG (mAtN (G 4) k nR + 1) G (nR - (mAtN (G 4) k nR + 1))) 4) (mAtN (G 4) k nR + 1) (k + 1))) 5 (upd ((mUpG (mAtN (G 4) k nR + 1) G (nR - (mAtN (G 4) k nR + 1))) 5) (mAtN (G 4) k nR + 1) ((mUpG (mAtN (G 4) k nR + 1) G (nR - (mAtN (G 4) k nR + 1))) 5 (mAtN (G 4) k nR)))) 6 (upd ((mUpG (mAtN (G 4) k nR + 1) G (nR - (mAtN (G 4) k nR + 1))) 6) (mAtN (G 4) k nR + 1) (-1)))) : qRes t z bz u v := by
  obtain ⟨hx, hm, hmem, ⟨fi, hd, hr⟩, hs, ha, ⟨w, hl, hb⟩, hc, hla, hro⟩ := id hRel
  by_cases hk : xKey k
  · obtain ⟨n, hn, rfl⟩ := k_nat hk
    obtain ⟨i, hi, ha1, hb1⟩ := hd.find hn
    have h8 := hx.2.2.1
    have hle := hd.le (i := i + 1) (by omega)
    rw [hd.hold hi ha1 hb1, xTarg_at hx g hi, xLast_at hx g hi] at hu
    rw [hd.atN hi ha1 hb1] at hv
    obtain ⟨e5, e6, eh, htg⟩ := hs i hi
    have hK : nI n = g 2 i ↔ nI n + 1 = mBeh nR G i := by
      rw [hd.2.2.2.2 i hi, hd.beh hi, nI_1, nI_eq (by omega) (by omega), nI_eq (by omega) (by omega)]
      omega
    have h58 : f 5 < 8 ↔ ¬ nR = 8 := by
      rw [hx.1, show (8 : Int32) = nI 8 from rfl, nI_ltI (by omega) (by decide)]
      omega
    rcases hu with ⟨rfl, rv, ⟨⟨c1, c2, c3, c4⟩, e1, e2, e3⟩, e4⟩ | ⟨rfl, c1, e⟩ | ⟨rfl, ⟨c1, c2⟩, e⟩
    · rcases hv with ⟨d1, _⟩ | ⟨⟨d1, d2⟩, _⟩ | ⟨⟨d1, d2, d3, d4⟩, d5, d6, d7⟩
      · exact absurd hk d1
      · exact (d2.elim (fun q => c2 (hK.mpr q)) (fun q => q.elim (fun q => q (e6.symm.trans c3)) (fun q => h58.mp c4 q))).elim
      · refine ⟨by rw [d6]; rfl, fun _ => by rw [e4, e1, d5], nR + 1, nB, ?_⟩
        rw [e2, e3, d6, d7, xUp_is, mUp_is]
        have hne : ¬ n + 1 = fi (i + 1) := fun q => d2 (by rw [hd.beh hi, nI_1, q])
        have hin := hd.2.2.1 i hi
        have uX : ∀ (a : Nat → Int32) (j : Nat), j < nR + 1 → upR i a (nR - i) j = a (if j ≤ i then j else j - 1) := by
          intro a j hj
          rw [upR_at]
          by_cases c : j ≤ i
          · rw [if_neg (by omega), if_pos c]
          · rw [if_pos (by omega), if_neg c]
        have uM : ∀ (a : Nat → Int32) (j : Nat), j < nR + 1 → ¬ j = i + 1 → upR (i + 1) a (nR - (i + 1)) j = a (if j ≤ i then j else j - 1) := by
          intro a j hj hj2
          rw [upR_at]
          by_cases c : j ≤ i
          · rw [if_neg (by omega), if_pos c]
          · rw [if_pos (by omega), if_neg c]
        have uI : ∀ (a : Nat → Int32), upR (i + 1) a (nR - (i + 1)) i = a i := fun a => by rw [upR_at, if_neg (by omega)]
        refine ⟨⟨rfl, by omega, by omega, hx.2.2.2.1, hx.2.2.2.2⟩, ⟨rfl, by omega, by omega, hm.2.2.2.1, hm.2.2.2.2⟩, ⟨hmem.1, by have := hmem.2.1; show -((t + 1 : Nat) : Int) ≤ (F 2).toInt; omega, hmem.2.2⟩, ⟨fun j => if j ≤ i then fi j else if j = i + 1 then n + 1 else fi (j - 1), ⟨?_, ?_, ?_, ?_, ?_⟩, ?_⟩, ?_, ha, ⟨w, ⟨hl.1, hl.2.1, hl.2.2.1, by have := hl.2.2.2; omega⟩, hb⟩, hc, hla, hro⟩
        · show (if 0 ≤ i then fi 0 else _) = 0
          rw [if_pos (by omega), hd.1]
        · show (if nR + 1 ≤ i then fi (nR + 1) else if nR + 1 = i + 1 then n + 1 else fi (nR + 1 - 1)) = 100
          rw [if_neg (by omega), if_neg (by omega), Nat.add_sub_cancel, hd.2.1]
        · intro j hj
          show (if j ≤ i then fi j else if j = i + 1 then n + 1 else fi (j - 1)) < (if j + 1 ≤ i then fi (j + 1) else if j + 1 = i + 1 then n + 1 else fi (j + 1 - 1))
          rw [Nat.add_sub_cancel]
          rcases Nat.lt_trichotomy j i with q | q | q
          · rw [if_pos (by omega), if_pos (by omega)]
            exact hd.2.2.1 j (by omega)
          · subst q
            rw [if_pos (by omega), if_neg (by omega), if_pos rfl]
            omega
          · rw [if_neg (show ¬ j ≤ i by omega), if_neg (show ¬ j + 1 ≤ i by omega), if_neg (show ¬ j + 1 = i + 1 by omega)]
            by_cases c : j = i + 1
            · rw [if_pos c, c]
              omega
            · rw [if_neg c]
              have := hd.2.2.1 (j - 1) (by omega)
              rw [show j - 1 + 1 = j by omega] at this
              exact this
        · intro j hj
          show upd (upR (i + 1) (G 4) (nR - (i + 1))) (i + 1) (nI n + 1) j = nI (if j ≤ i then fi j else if j = i + 1 then n + 1 else fi (j - 1))
          unfold upd
          by_cases c : j = i + 1
          · rw [if_pos c, if_neg (by omega), if_pos c, nI_1]
          · rw [if_neg c, uM _ j hj c, if_neg c]
            by_cases c2 : j ≤ i
            · rw [if_pos c2, if_pos c2]
              exact hd.2.2.2.1 j (by omega)
            · rw [if_neg c2, if_neg c2]
              exact hd.2.2.2.1 (j - 1) (by omega)
        · intro j hj
          show upd (upR i (g 2) (nR - i)) i (nI n) j = nI ((if j + 1 ≤ i then fi (j + 1) else if j + 1 = i + 1 then n + 1 else fi (j + 1 - 1)) - 1)
          unfold upd
          rw [Nat.add_sub_cancel]
          by_cases c : j = i
          · rw [if_pos c, if_neg (by omega), if_pos (by omega), Nat.add_sub_cancel]
          · rw [if_neg c, uX _ j hj]
            by_cases c2 : j ≤ i
            · rw [if_pos c2, if_pos (by omega)]
              exact hd.2.2.2.2 j (by omega)
            · rw [if_neg c2, if_neg (by omega), if_neg (by omega)]
              have := hd.2.2.2.2 (j - 1) (by omega)
              rw [show j - 1 + 1 = j by omega] at this
              exact this
        · intro j k2 s2 hj h1 h2 hs2
          show g 0 (s2 * 100 + k2) = if upR i (g 3) (nR - i) j = nI s2 then G 1 k2 - 1 else if upR i (g 4) (nR - i) j = nI s2 ∧ ¬ G 7 k2 = 0 then G 1 k2 - 1 else -1
          rw [uX _ j hj, uX _ j hj]
          have h1 : (if j ≤ i then fi j else if j = i + 1 then n + 1 else fi (j - 1)) ≤ k2 := h1
          have h2 : k2 < (if j + 1 ≤ i then fi (j + 1) else if j + 1 = i + 1 then n + 1 else fi (j + 1 - 1)) := h2
          rw [Nat.add_sub_cancel] at h2
          refine hr _ k2 s2 ?_ ?_ ?_ hs2
          · split <;> omega
          · by_cases c : j ≤ i
            · rw [if_pos c] at h1 ⊢
              exact h1
            · rw [if_neg c] at h1 ⊢
              by_cases c2 : j = i + 1
              · rw [if_pos c2] at h1
                rw [c2, Nat.add_sub_cancel]
                omega
              · rw [if_neg c2] at h1
                exact h1
          · by_cases c : j + 1 ≤ i
            · rw [if_pos c] at h2
              rw [if_pos (by omega)]
              exact h2
            · rw [if_neg c] at h2
              by_cases c2 : j + 1 = i + 1
              · rw [if_pos c2] at h2
                rw [if_pos (by omega), show j = i by omega]
                omega
              · rw [if_neg c2] at h2
                rw [if_neg (by omega), show j - 1 + 1 = j by omega]
                exact h2
        · intro j hj
          have hj0 : (if j ≤ i then j else j - 1) < nR := by split <;> omega
          have hG5 : upd (upR (i + 1) (G 5) (nR - (i + 1))) (i + 1) (upR (i + 1) (G 5) (nR - (i + 1)) i) j = G 5 (if j ≤ i then j else j - 1) := by
            unfold upd
            by_cases c : j = i + 1
            · rw [if_pos c, uI, if_neg (by omega), c, Nat.add_sub_cancel]
            · rw [if_neg c, uM _ j hj c]
          have hG6 : upd (upR (i + 1) (G 6) (nR - (i + 1))) (i + 1) (-1) j = G 6 (if j ≤ i then j else j - 1) := by
            unfold upd
            by_cases c : j = i + 1
            · rw [if_pos c, if_neg (by omega), c, Nat.add_sub_cancel, d3]
            · rw [if_neg c, uM _ j hj c]
          show upR i (g 3) (nR - i) j = upd (upR (i + 1) (G 5) (nR - (i + 1))) (i + 1) (upR (i + 1) (G 5) (nR - (i + 1)) i) j ∧ upR i (g 4) (nR - i) j = upd (upR (i + 1) (G 6) (nR - (i + 1))) (i + 1) (-1) j ∧ (∃ h2, h2 < 4 ∧ upR i (g 3) (nR - i) j = nI h2) ∧ (upR i (g 4) (nR - i) j = -1 ∨ ∃ s2, s2 < 4 ∧ upR i (g 4) (nR - i) j = nI s2 ∧ ¬ upR i (g 4) (nR - i) j = upR i (g 3) (nR - i) j)
          rw [hG5, hG6, uX _ j hj, uX _ j hj]
          exact hs _ hj0
    · exact absurd hk c1
    · rcases hv with ⟨d1, _⟩ | ⟨⟨d1, d2⟩, d6, d7⟩ | ⟨⟨d1, d2, d3, d4⟩, d5, d6, d7⟩
      · exact absurd hk d1
      · exact rel_err hRel (by decide) e d6 d7
      · exact (c2.elim (fun q => d2 (hK.mp q)) (fun q => q.elim (fun q => q (e6.trans d3)) (fun q => q (h58.mpr (by omega))))).elim
  · rcases hu with ⟨rfl, rv, ⟨⟨c1, c2, c3, c4⟩, e1, e2, e3⟩, e4⟩ | ⟨rfl, c1, e⟩ | ⟨rfl, ⟨c1, c2⟩, e⟩
    · exact absurd c1 hk
    · rcases hv with ⟨d1, d6, d7⟩ | ⟨⟨d1, d2⟩, d6, d7⟩ | ⟨⟨d1, d2, d3, d4⟩, d5, d6, d7⟩
      · exact rel_err hRel (by decide) e d6 d7
      · exact absurd d1 hk
      · exact absurd d1 hk
    · exact absurd c1 hk
set_option maxHeartbeats 4000000 in
theorem rel_merge {t nR nB : Nat} {f : qFs} {g : qGs} {F : qFs} {G : qGs} (hRel : Rel t nR nB f g F G) (ht : t < 512) {r : Int32} {z bz : Int32} {u : (qFs × qGs) × (Nat → Int64)} {o : Nat → Int64} {v : qFs × qGs} (hu : (z = 0 ∧ ∃ rv : Int32, ((xRange f r ∧ xRange f (r + 1) ∧ xHome f g r = xHome f g (r + 1) ∧ xTarg f g r = -1 ∧ xTarg f g (r + 1) = -1) ∧ rv = nI (nR - 1) ∧ u.1.1 = va_up f 5 (nI (nR - 1)) ∧ u.1.2 = xDnG g r.toNatClampNeg (nR - 1 - r.toNatClampNeg)) ∧ u.2 0 = rv.toInt64) ∨ (z = 1 ∧ (¬ xRange f r) ∧ u = ((f, g), o)) ∨ (z = 2 ∧ (xRange f r ∧ (¬ xRange f (r + 1) ∨ ¬ xHome f g r = xHome f g (r + 1) ∨ ¬ xTarg f g r = -1 ∨ ¬ xTarg f g (r + 1) = -1)) ∧ u = ((f, g), o))) (hv : ((¬ mRange F r) ∧ v.1 = va_up F 0 1 ∧ v.2 = G) ∨ ((mRange F r ∧ ¬ (r.toNatClampNeg + 1 < nR ∧ G 5 r.toNatClampNeg = G 5 (r.toNatClampNeg + 1) ∧ G 6 r.toNatClampNeg = -1 ∧ G 6 (r.toNatClampNeg + 1) = -1)) ∧ v.1 = va_up F 0 2 ∧ v.2 = G) ∨ ((mRange F r ∧ (r.toNatClampNeg + 1 < nR ∧ G 5 r.toNatClampNeg = G 5 (r.toNatClampNeg + 1) ∧ G 6 r.toNatClampNeg = -1 ∧ G 6 (r.toNatClampNeg + 1) = -1)) ∧ bz = nI (nR - 1) ∧ v.1 = va_up (va_up F 0 0) 3 (nI (nR - 1)) ∧ v.2 = va_up (mDnG G (r.toNatClampNeg + 2) (nR - (r.toNatClampNeg + 2))) 6 (upd (mDnG G (r.toNatClampNeg + 2) (nR - (r.toNatClampNeg + 2)) 6) (nR - 1) (-1)))) : qRes t z bz u v := by
  obtain ⟨hx, hm, hmem, ⟨fi, hd, hr⟩, hs, ha, ⟨w, hl, hb⟩, hc, hla, hro⟩ := id hRel
  have hR := hRel.range r
  have h8 := hx.2.2.1
  have hE : ∀ i, i < nR → ((xRange f (nI i) ∧ xRange f (nI i + 1) ∧ xHome f g (nI i) = xHome f g (nI i + 1) ∧ xTarg f g (nI i) = -1 ∧ xTarg f g (nI i + 1) = -1) ↔ (i + 1 < nR ∧ G 5 i = G 5 (i + 1) ∧ G 6 i = -1 ∧ G 6 (i + 1) = -1)) := by
    intro i hi
    have hnx : xRange f (nI i + 1) ↔ i + 1 < nR := by
      rw [nI_1]
      refine ⟨fun q => ?_, fun q => xr hx q⟩
      have q2 := q.2
      rw [hx.1, nI_ltI (by omega) (by omega)] at q2
      exact q2
    constructor
    · rintro ⟨q1, q2, q3, q4, q5⟩
      have q2 := hnx.mp q2
      rw [nI_1, xHome_at hx g hi, xHome_at hx g q2, (hs i hi).1, (hs (i + 1) q2).1] at q3
      rw [xTarg_at hx g hi, (hs i hi).2.1] at q4
      rw [nI_1, xTarg_at hx g q2, (hs (i + 1) q2).2.1] at q5
      exact ⟨q2, q3, q4, q5⟩
    · rintro ⟨q2, q3, q4, q5⟩
      refine ⟨xr hx hi, hnx.mpr q2, ?_, ?_, ?_⟩
      · rw [nI_1, xHome_at hx g hi, xHome_at hx g q2, (hs i hi).1, (hs (i + 1) q2).1]
        exact q3
      · rw [xTarg_at hx g hi, (hs i hi).2.1]
        exact q4
      · rw [nI_1, xTarg_at hx g q2, (hs (i + 1) q2).2.1]
        exact q5
  by_cases hk : xRange f r
  · obtain ⟨i, hi, rfl⟩ := x_nat hx hk
    have hC : (nI i).toNatClampNeg = i := nI_clamp (by omega)
    rw [hC] at hu hv
    have hE := hE i hi
    rcases hu with ⟨rfl, rv, ⟨c1, e1, e2, e3⟩, e4⟩ | ⟨rfl, c1, e⟩ | ⟨rfl, ⟨c1, c2⟩, e⟩
    · rcases hv with ⟨d1, _⟩ | ⟨⟨d1, d2⟩, _⟩ | ⟨⟨d1, d2, d3, d4, d9⟩, d5, d6, d7⟩
      · exact absurd (hR.mp hk) d1
      · exact absurd (hE.mp c1) d2
      · refine ⟨by rw [d6]; rfl, fun _ => by rw [e4, e1, d5], nR - 1, nB, ?_⟩
        rw [e2, e3, d6, d7, xDn_is, mDn_is]
        have hn1 : nR - 1 < 8 := by omega
        have uX : ∀ (a : Nat → Int32) (j : Nat), j < nR - 1 → dnR a i (nR - 1 - i) j = a (if j < i then j else j + 1) := by
          intro a j hj
          rw [dnR_at]
          by_cases c : j < i
          · rw [if_neg (by omega), if_pos c]
          · rw [if_pos (by omega), if_neg c]
        have uM : ∀ (a : Nat → Int32) (j : Nat), j < nR - 1 → dnR a (i + 1) (nR - (i + 2)) j = a (if j ≤ i then j else j + 1) := by
          intro a j hj
          rw [dnR_at]
          by_cases c : j ≤ i
          · rw [if_neg (by omega), if_pos c]
          · rw [if_pos (by omega), if_neg c]
        obtain ⟨a5, a6, a7, a8⟩ := hs i hi
        obtain ⟨b5, b6, b7, b8⟩ := hs (i + 1) d2
        have hh : g 3 i = g 3 (i + 1) := by rw [a5, b5, d3]
        have ht4 : g 4 i = g 4 (i + 1) := by rw [a6, b6, d4, d9]
        refine ⟨⟨rfl, by omega, by omega, hx.2.2.2.1, hx.2.2.2.2⟩, ⟨rfl, by omega, by omega, hm.2.2.2.1, hm.2.2.2.2⟩, ⟨hmem.1, by have := hmem.2.1; show -((t + 1 : Nat) : Int) ≤ (F 2).toInt; omega, hmem.2.2⟩, ⟨fun j => if j ≤ i then fi j else fi (j + 1), ⟨?_, ?_, ?_, ?_, ?_⟩, ?_⟩, ?_, ha, ⟨w, ⟨hl.1, hl.2.1, hl.2.2.1, by have := hl.2.2.2; omega⟩, hb⟩, hc, hla, hro⟩
        · show (if 0 ≤ i then fi 0 else _) = 0
          rw [if_pos (by omega), hd.1]
        · show (if nR - 1 ≤ i then fi (nR - 1) else fi (nR - 1 + 1)) = 100
          rw [if_neg (by omega), show nR - 1 + 1 = nR by omega, hd.2.1]
        · intro j hj
          show (if j ≤ i then fi j else fi (j + 1)) < (if j + 1 ≤ i then fi (j + 1) else fi (j + 1 + 1))
          have h1 := hd.2.2.1 j (by omega)
          have h2 := hd.2.2.1 (j + 1) (by omega)
          by_cases c : j ≤ i
          · rw [if_pos c]
            by_cases c2 : j + 1 ≤ i
            · rw [if_pos c2]; exact h1
            · rw [if_neg c2]; omega
          · rw [if_neg c, if_neg (by omega)]; exact h2
        · intro j hj
          show dnR (G 4) (i + 1) (nR - (i + 2)) j = nI (if j ≤ i then fi j else fi (j + 1))
          rw [uM _ j hj]
          by_cases c : j ≤ i
          · rw [if_pos c, if_pos c]
            exact hd.2.2.2.1 j (by omega)
          · rw [if_neg c, if_neg c]
            exact hd.2.2.2.1 (j + 1) (by omega)
        · intro j hj
          show dnR (g 2) i (nR - 1 - i) j = nI ((if j + 1 ≤ i then fi (j + 1) else fi (j + 1 + 1)) - 1)
          rw [uX _ j hj]
          by_cases c : j < i
          · rw [if_pos c, if_pos (by omega)]
            exact hd.2.2.2.2 j (by omega)
          · rw [if_neg c, if_neg (by omega)]
            exact hd.2.2.2.2 (j + 1) (by omega)
        · intro j k2 s2 hj h1 h2 hs2
          show g 0 (s2 * 100 + k2) = if dnR (g 3) i (nR - 1 - i) j = nI s2 then G 1 k2 - 1 else if dnR (g 4) i (nR - 1 - i) j = nI s2 ∧ ¬ G 7 k2 = 0 then G 1 k2 - 1 else -1
          rw [uX _ j hj, uX _ j hj]
          have h1 : (if j ≤ i then fi j else fi (j + 1)) ≤ k2 := h1
          have h2 : k2 < (if j + 1 ≤ i then fi (j + 1) else fi (j + 1 + 1)) := h2
          rcases Nat.lt_trichotomy j i with q | q | q
          · rw [if_pos (by omega)] at h1
            rw [if_pos (by omega)] at h2
            rw [if_pos q]
            exact hr j k2 s2 (by omega) h1 h2 hs2
          · subst q
            rw [if_pos (by omega)] at h1
            rw [if_neg (by omega)] at h2
            rw [if_neg (show ¬ j < j by omega)]
            by_cases c : k2 < fi (j + 1)
            · rw [← hh, ← ht4]
              exact hr j k2 s2 (by omega) h1 c hs2
            · exact hr (j + 1) k2 s2 (by omega) (by omega) h2 hs2
          · rw [if_neg (by omega)] at h1
            rw [if_neg (by omega)] at h2
            rw [if_neg (show ¬ j < i by omega)]
            exact hr (j + 1) k2 s2 (by omega) h1 h2 hs2
        · intro j hj
          show dnR (g 3) i (nR - 1 - i) j = dnR (G 5) (i + 1) (nR - (i + 2)) j ∧ dnR (g 4) i (nR - 1 - i) j = upd (dnR (G 6) (i + 1) (nR - (i + 2))) (nR - 1) (-1) j ∧ (∃ h2, h2 < 4 ∧ dnR (g 3) i (nR - 1 - i) j = nI h2) ∧ (dnR (g 4) i (nR - 1 - i) j = -1 ∨ ∃ s2, s2 < 4 ∧ dnR (g 4) i (nR - 1 - i) j = nI s2 ∧ ¬ dnR (g 4) i (nR - 1 - i) j = dnR (g 3) i (nR - 1 - i) j)
          rw [show upd (dnR (G 6) (i + 1) (nR - (i + 2))) (nR - 1) (-1) j = dnR (G 6) (i + 1) (nR - (i + 2)) j from if_neg (by omega), uX _ j hj, uX _ j hj, uM _ j hj, uM _ j hj]
          rcases Nat.lt_trichotomy j i with q | q | q
          · rw [if_pos q, if_pos (by omega)]
            exact hs j (by omega)
          · subst q
            rw [if_neg (by omega), if_pos (by omega), ← hh, ← ht4]
            exact ⟨a5, a6, a7, a8⟩
          · rw [if_neg (by omega), if_neg (by omega)]
            exact hs (j + 1) (by omega)
    · exact absurd hk c1
    · rcases hv with ⟨d1, _⟩ | ⟨⟨d1, d2⟩, d6, d7⟩ | ⟨⟨d1, d2⟩, d5, d6, d7⟩
      · exact absurd (hR.mp hk) d1
      · exact rel_err hRel (by decide) e d6 d7
      · have q := hE.mpr d2
        exact (c2.elim (fun p => p q.2.1) (fun p => p.elim (fun p => p q.2.2.1) (fun p => p.elim (fun p => p q.2.2.2.1) (fun p => p q.2.2.2.2)))).elim
  · rcases hu with ⟨rfl, rv, ⟨c1, e1, e2, e3⟩, e4⟩ | ⟨rfl, c1, e⟩ | ⟨rfl, ⟨c1, c2⟩, e⟩
    · exact absurd c1.1 hk
    · rcases hv with ⟨d1, d6, d7⟩ | ⟨⟨d1, d2⟩, d6, d7⟩ | ⟨⟨d1, d2⟩, d5, d6, d7⟩
      · exact rel_err hRel (by decide) e d6 d7
      · exact absurd (hR.mpr d1) hk
      · exact absurd (hR.mpr d1) hk
    · exact absurd c1 hk
set_option maxHeartbeats 4000000 in
theorem rel_move {t nR nB : Nat} {f : qFs} {g : qGs} {F : qFs} {G : qGs} (hRel : Rel t nR nB f g F G) (ht : t < 512) {r sh : Int32} {z bz : Int32} {u : (qFs × qGs) × (Nat → Int64)} {o : Nat → Int64} {v : qFs × qGs} (hu : (z = 0 ∧ ∃ rv : Int32, ((xRange f r ∧ xShard sh ∧ xTarg f g r = -1 ∧ ¬ xHome f g r = sh) ∧ rv = xMany f g (xHome f g r) r ∧ u.1.1 = f ∧ u.1.2 = va_up g 4 (upd (g 4) r.toNatClampNeg sh)) ∧ u.2 0 = rv.toInt64) ∨ (z = 1 ∧ (¬ (xRange f r ∧ xShard sh)) ∧ u = ((f, g), o)) ∨ (z = 2 ∧ ((xRange f r ∧ xShard sh) ∧ (¬ xTarg f g r = -1 ∨ xHome f g r = sh)) ∧ u = ((f, g), o))) (hv : ((¬ (mRange F r ∧ xShard sh)) ∧ v.1 = va_up F 0 1 ∧ v.2 = G) ∨ (((mRange F r ∧ xShard sh) ∧ (¬ G 6 r.toNatClampNeg = -1 ∨ G 5 r.toNatClampNeg = sh)) ∧ v.1 = va_up F 0 2 ∧ v.2 = G) ∨ (((mRange F r ∧ xShard sh) ∧ G 6 r.toNatClampNeg = -1 ∧ ¬ G 5 r.toNatClampNeg = sh) ∧ bz = nI (cnt (fun j => decide (mTh G j)) (mLo G r.toNatClampNeg) (mHi nR G r.toNatClampNeg)) ∧ v.1 = va_up F 0 0 ∧ v.2 = va_up (va_up G 6 (upd (G 6) r.toNatClampNeg sh)) 7 (fun j => if mLo G r.toNatClampNeg ≤ j ∧ j < mHi nR G r.toNatClampNeg then 0 else G 7 j))) : qRes t z bz u v := by
  obtain ⟨hx, hm, hmem, ⟨fi, hd, hr⟩, hs, ha, ⟨w, hl, hb⟩, hc, hla, hro⟩ := id hRel
  have hR := hRel.range r
  rcases hu with ⟨rfl, rv, ⟨⟨c1, c2, c3, c4⟩, e1, e2, e3⟩, e4⟩ | ⟨rfl, c1, e⟩ | ⟨rfl, ⟨⟨c1, c2⟩, c3⟩, e⟩
  · rcases hv with ⟨d1, _⟩ | ⟨⟨⟨d1, d2⟩, d3⟩, _⟩ | ⟨⟨⟨d1, d2⟩, d3, d4⟩, d5, d6, d7⟩
    · exact absurd ⟨hR.mp c1, c2⟩ d1
    · rw [← hRel.targ d1, ← hRel.home d1] at d3
      exact d3.elim (fun q => absurd c3 q) (fun q => absurd q c4)
    · obtain ⟨i, hi, rfl⟩ := m_nat hm d1
      have h8 := hx.2.2.1
      have hC : (nI i).toNatClampNeg = i := nI_clamp (by omega)
      rw [hC] at d3 d4 d5 d7 e3
      rw [hd.lo hi, hd.hi hi] at d5 d7
      obtain ⟨s, hs4, rfl⟩ := s_nat c2
      obtain ⟨e5, e6, ⟨h, hh, eh⟩, htg⟩ := hs i hi
      refine ⟨by rw [d6]; rfl, fun _ => ?_, nR, nB, ?_⟩
      · rw [e4, e1, d5, rMany hd hx hi, xHome_at hx g hi, eh, cntI (fun j h1 h2 => rowP_h hd hr ha hi h1 h2 hh eh)]
      · rw [e2, e3, d6, d7]
        refine ⟨hx, hm, ⟨hmem.1, by have := hmem.2.1; show -((t + 1 : Nat) : Int) ≤ (F 2).toInt; omega, hmem.2.2⟩, ⟨fi, hd, ?_⟩, ?_, ha, ⟨w, ⟨hl.1, hl.2.1, hl.2.2.1, by have := hl.2.2.2; omega⟩, hb⟩, hc, hla, hro⟩
        · intro j k s2 hj h1 h2 hs2
          show g 0 (s2 * 100 + k) = if g 3 j = nI s2 then G 1 k - 1 else if upd (g 4) i (nI s) j = nI s2 ∧ ¬ (if fi i ≤ k ∧ k < fi (i + 1) then (0 : Int32) else G 7 k) = 0 then G 1 k - 1 else -1
          rw [hr j k s2 hj h1 h2 hs2]
          by_cases c : j = i
          · subst c
            rw [if_pos (show fi j ≤ k ∧ k < fi (j + 1) from ⟨h1, h2⟩)]
            by_cases c1 : g 3 j = nI s2
            · rw [if_pos c1, if_pos c1]
            · rw [if_neg c1, if_neg c1, if_neg (fun q => nI_nem1 (by omega) (q.1.symm.trans (e6.trans d3))), if_neg (fun q => q.2 rfl)]
          · have hn : ¬ (fi i ≤ k ∧ k < fi (i + 1)) := fun q => c (hd.uniq hj hi h1 h2 q.1 q.2)
            rw [if_neg hn, show upd (g 4) i (nI s) j = g 4 j from if_neg c]
        · intro j hj
          show g 3 j = G 5 j ∧ upd (g 4) i (nI s) j = upd (G 6) i (nI s) j ∧ _ ∧ (upd (g 4) i (nI s) j = -1 ∨ ∃ s2, s2 < 4 ∧ upd (g 4) i (nI s) j = nI s2 ∧ ¬ upd (g 4) i (nI s) j = g 3 j)
          obtain ⟨b5, b6, b7, b8⟩ := hs j hj
          by_cases c : j = i
          · subst c
            have e9 : ∀ z : Nat → Int32, upd z j (nI s) j = nI s := fun z => if_pos rfl
            rw [e9, e9]
            exact ⟨b5, rfl, b7, Or.inr ⟨s, hs4, rfl, by rw [b5]; exact fun q => d4 q.symm⟩⟩
          · have e9 : ∀ z : Nat → Int32, upd z i (nI s) j = z j := fun z => if_neg c
            rw [e9, e9]
            exact ⟨b5, b6, b7, b8⟩
  · rcases hv with ⟨d1, d6, d7⟩ | ⟨⟨⟨d1, d2⟩, d3⟩, _⟩ | ⟨⟨⟨d1, d2⟩, d3, d4⟩, _⟩
    · exact rel_err hRel (by decide) e d6 d7
    · exact absurd ⟨hR.mpr d1, d2⟩ c1
    · exact absurd ⟨hR.mpr d1, d2⟩ c1
  · rcases hv with ⟨d1, _⟩ | ⟨⟨⟨d1, d2⟩, d3⟩, d6, d7⟩ | ⟨⟨⟨d1, d2⟩, d3, d4⟩, _⟩
    · exact absurd ⟨hR.mp c1, c2⟩ d1
    · exact rel_err hRel (by decide) e d6 d7
    · rw [hRel.targ d1, hRel.home d1] at c3
      exact c3.elim (fun q => absurd d3 q) (fun q => absurd q d4)
set_option maxHeartbeats 4000000 in
theorem rel_step {t nR nB : Nat} {f : qFs} {g : qGs} {F : qFs} {G : qGs} (hRel : Rel t nR nB f g F G) (ht : t < 512) {r : Int32} {z bz : Int32} {u : (qFs × qGs) × (Nat → Int64)} {o : Nat → Int64} {v : qFs × qGs} (hu : (z = 0 ∧ ∃ rv : Int32, ((xRange f r ∧ ¬ xTarg f g r = -1) ∧ rv = xStepK f g r ∧ u.1.1 = f ∧ u.1.2 = xStepG f g r) ∧ u.2 0 = rv.toInt64) ∨ (z = 1 ∧ (¬ xRange f r) ∧ u = ((f, g), o)) ∨ (z = 2 ∧ (xRange f r ∧ xTarg f g r = -1) ∧ u = ((f, g), o))) (hv : ((¬ mMv F G r = 0) ∧ v.1 = va_up F 0 (mMv F G r) ∧ v.2 = G) ∨ ((mMv F G r = 0) ∧ bz = mStepK nR G r.toNatClampNeg ∧ v.1 = va_up F 0 0 ∧ v.2 = mStepG nR G r.toNatClampNeg)) : qRes t z bz u v := by
  obtain ⟨hx, hm, hmem, ⟨fi, hd, hr⟩, hs, ha, ⟨w, hl, hb⟩, hc, hla, hro⟩ := id hRel
  rcases hu with ⟨rfl, rv, ⟨⟨c1, c2⟩, e1, e2, e3⟩, e4⟩ | ⟨rfl, c1, e⟩ | ⟨rfl, ⟨c1, c2⟩, e⟩
  · rcases hv with ⟨d1, _⟩ | ⟨d1, d5, d6, d7⟩
    · exact absurd (hRel.mv0 c1 c2) d1
    · obtain ⟨i, hi, rfl⟩ := x_nat hx c1
      have h8 := hx.2.2.1
      have hC : (nI i).toNatClampNeg = i := nI_clamp (by omega)
      obtain ⟨e5, e6, ⟨h, hh, eh⟩, htg⟩ := hs i hi
      rw [xTarg_at hx g hi] at c2
      obtain ⟨tg, htg4, etg, hne⟩ := htg.resolve_left c2
      rw [hC] at d5 d7
      have hnh : ¬ g 3 i = nI tg := fun q => hne (etg.trans q.symm)
      have hin := hd.2.2.1 i hi
      have hin2 := hd.le (i := i + 1) (by omega)
      -- the key that goes over is the same
      have hK : xStepK f g (nI i) = mStepK nR G i := by
        unfold xStepK mStepK
        rw [hd.first hx hi, hd.last hx hi, hd.lo hi, hd.hi hi]
        refine upN_cong _ _ (fun j h1 h2 => ?_)
        have h2 : j < fi (i + 1) := by omega
        refine decide_eq_decide.mpr ?_
        rw [xHome_at hx g hi, xTarg_at hx g hi, eh, etg, rowP_at hd hr hi h1 h2 hh, if_pos eh, rowP_at hd hr hi h1 h2 htg4, if_neg hnh]
        have hT : mTh G j ↔ ¬ G 1 j - 1 = -1 := not_congr (a_there (ha j (by omega))).symm
        by_cases c3 : G 7 j = 0
        · rw [if_neg (fun q => q.2 c3)]
          exact ⟨fun q => ⟨hT.mpr q.1, c3⟩, fun q => ⟨hT.mp q.1, rfl⟩⟩
        · rw [if_pos ⟨etg, c3⟩]
          exact ⟨fun q => absurd q.2 q.1, fun q => absurd q.2 c3⟩
      have hw : Rel (t + 1) nR nB u.1.1 u.1.2 v.1 v.2 := by
        rw [e2, e3, d6, d7]
        unfold xStepG mStepG
        rw [hK, hC, xHome_at hx g hi, xTarg_at hx g hi, eh, etg]
        by_cases cK : mStepK nR G i = -1
        · rw [if_pos cK, if_pos cK]
          obtain ⟨row, hrow, hat⟩ := drop_at hd hx hi hh
          rw [hrow]
          have hall : ∀ k, fi i ≤ k → k < fi (i + 1) → G 7 k = 0 → G 1 k - 1 = -1 := by
            intro k h1 h2 h7
            unfold mStepK at cK
            rw [hd.lo hi, hd.hi hi] at cK
            have h3 := upN_none _ _ (by omega) cK k h1 (by omega)
            have hT : mTh G k ↔ ¬ G 1 k - 1 = -1 := not_congr (a_there (ha k (by omega))).symm
            by_cases c : G 1 k - 1 = -1
            · exact c
            · exact absurd (dt ⟨hT.mpr c, h7⟩) h3
          refine ⟨hx, hm, ⟨hmem.1, by have := hmem.2.1; show -((t + 1 : Nat) : Int) ≤ (F 2).toInt; omega, hmem.2.2⟩, ⟨fi, hd, ?_⟩, ?_, ha, ⟨w, ⟨hl.1, hl.2.1, hl.2.2.1, by have := hl.2.2.2; omega⟩, hb⟩, hc, hla, hro⟩
          · intro j k s2 hj h1 h2 hs2
            have hk : k < 100 := by
              have := hd.le (i := j + 1) (by omega)
              omega
            show row (s2 * 100 + k) = if upd (g 3) i (nI tg) j = nI s2 then G 1 k - 1 else if upd (g 4) i (-1) j = nI s2 ∧ ¬ G 7 k = 0 then G 1 k - 1 else -1
            rw [hat s2 k hs2 hk, hr j k s2 hj h1 h2 hs2]
            by_cases c : j = i
            · subst c
              rw [show upd (g 4) j (-1) j = -1 from if_pos rfl, show upd (g 3) j (nI tg) j = nI tg from if_pos rfl]
              have hm1 : ¬ ((-1 : Int32) = nI s2 ∧ ¬ G 7 k = 0) := fun q => nI_nem1 (by omega) q.1.symm
              have et : nI tg = nI s2 ↔ tg = s2 := nI_eq (by omega) (by omega)
              have eh2 : nI h = nI s2 ↔ h = s2 := nI_eq (by omega) (by omega)
              rw [if_neg hm1]
              by_cases c1 : s2 = h
              · rw [if_pos ⟨c1, h1, h2⟩, if_neg]
                intro q
                exact hnh (eh.trans ((eh2.mpr c1.symm).trans q.symm))
              · rw [if_neg (fun q => c1 q.1), if_neg (fun q => c1 (eh2.mp (eh.symm.trans q)).symm)]
                by_cases c2 : nI tg = nI s2
                · rw [if_pos c2]
                  by_cases c3 : G 7 k = 0
                  · rw [if_neg (fun q => q.2 c3), hall k h1 h2 c3]
                  · rw [if_pos ⟨etg.trans c2, c3⟩]
                · rw [if_neg c2, if_neg (fun q => c2 (etg.symm.trans q.1))]
            · have hn : ¬ (fi i ≤ k ∧ k < fi (i + 1)) := fun q => c (hd.uniq hj hi h1 h2 q.1 q.2)
              rw [if_neg (fun q => hn q.2), show upd (g 4) i (-1) j = g 4 j from if_neg c, show upd (g 3) i (nI tg) j = g 3 j from if_neg c]
          · intro j hj
            show upd (g 3) i (nI tg) j = upd (G 5) i (G 6 i) j ∧ upd (g 4) i (-1) j = upd (G 6) i (-1) j ∧ (∃ h2, h2 < 4 ∧ upd (g 3) i (nI tg) j = nI h2) ∧ (upd (g 4) i (-1) j = -1 ∨ ∃ s2, s2 < 4 ∧ upd (g 4) i (-1) j = nI s2 ∧ ¬ upd (g 4) i (-1) j = upd (g 3) i (nI tg) j)
            obtain ⟨b5, b6, b7, b8⟩ := hs j hj
            by_cases c : j = i
            · subst c
              have e9 : ∀ (z : Nat → Int32) (x : Int32), upd z j x j = x := fun z x => if_pos rfl
              rw [e9, e9, e9, e9, ← b6, etg]
              exact ⟨rfl, rfl, ⟨tg, htg4, rfl⟩, Or.inl rfl⟩
            · have e9 : ∀ (z : Nat → Int32) (x : Int32), upd z i x j = z j := fun z x => if_neg c
              rw [e9, e9, e9, e9]
              exact ⟨b5, b6, b7, b8⟩
        · rw [if_neg cK, if_neg cK]
          have hk0 : ∃ k0, fi i ≤ k0 ∧ k0 < fi (i + 1) ∧ mStepK nR G i = nI k0 := by
            unfold mStepK at cK ⊢
            rw [hd.lo hi, hd.hi hi] at cK ⊢
            rcases upN_range (mNB G) (fi (i + 1) - fi i) (fi i) with q | ⟨k0, q1, q2, q3, _⟩
            · exact absurd q cK
            · exact ⟨k0, q1, by omega, q3⟩
          obtain ⟨k0, hk1, hk2, hk3⟩ := hk0
          have hk100 : k0 < 100 := by omega
          rw [hk3, rowP_at hd hr hi hk1 hk2 hh, if_pos eh, nI_clamp (by omega)]
          have e0 : ∀ s2 k2, s2 < 4 → k2 < 100 → xPutG g (nI tg) (nI k0) (G 1 k0 - 1) 0 (s2 * 100 + k2) = if s2 = tg ∧ k2 = k0 then G 1 k0 - 1 else g 0 (s2 * 100 + k2) := fun s2 k2 h1 h2 => xPut_at (g 0) htg4 hk100 _ h1 h2
          refine ⟨hx, hm, ⟨hmem.1, by have := hmem.2.1; show -((t + 1 : Nat) : Int) ≤ (F 2).toInt; omega, hmem.2.2⟩, ⟨fi, hd, ?_⟩, hs, ha, ⟨w, ⟨hl.1, hl.2.1, hl.2.2.1, by have := hl.2.2.2; omega⟩, hb⟩, hc, hla, hro⟩
          intro j k s2 hj h1 h2 hs2
          have hk : k < 100 := by
            have := hd.le (i := j + 1) (by omega)
            omega
          rw [e0 s2 k hs2 hk, hr j k s2 hj h1 h2 hs2]
          show _ = if g 3 j = nI s2 then G 1 k - 1 else if g 4 j = nI s2 ∧ ¬ upd (G 7) k0 1 k = 0 then G 1 k - 1 else -1
          by_cases c : k = k0
          · subst c
            obtain rfl := hd.uniq hi hj hk1 hk2 h1 h2
            rw [show upd (G 7) k 1 k = 1 from if_pos rfl]
            by_cases c2 : s2 = tg
            · subst c2
              rw [if_pos ⟨rfl, rfl⟩, if_neg hnh, if_pos ⟨etg, by decide⟩]
            · rw [if_neg (fun q => c2 q.1)]
              have hn : ¬ g 4 i = nI s2 := fun q => c2 ((nI_eq (by omega) (by omega)).mp (etg.symm.trans q)).symm
              by_cases c3 : g 3 i = nI s2
              · rw [if_pos c3, if_pos c3]
              · rw [if_neg c3, if_neg c3, if_neg (fun q => hn q.1), if_neg (fun q => hn q.1)]
          · rw [if_neg (fun q => c q.2), show upd (G 7) k0 1 k = G 7 k from if_neg c]
      exact ⟨by rw [d6]; rfl, fun _ => by rw [e4, e1, d5, hK], nR, nB, hw⟩
  · rcases hv with ⟨d1, d6, d7⟩ | ⟨d1, d5, d6, d7⟩
    · rw [hRel.mv1 c1] at d6
      exact rel_err hRel (by decide) e d6 d7
    · rw [hRel.mv1 c1] at d1
      exact absurd d1 (by decide)
  · rcases hv with ⟨d1, d6, d7⟩ | ⟨d1, d5, d6, d7⟩
    · rw [hRel.mv2 c1 c2] at d6
      exact rel_err hRel (by decide) e d6 d7
    · rw [hRel.mv2 c1 c2] at d1
      exact absurd d1 (by decide)
set_option maxHeartbeats 4000000 in
theorem rel_giveUp {t nR nB : Nat} {f : qFs} {g : qGs} {F : qFs} {G : qGs} (hRel : Rel t nR nB f g F G) (ht : t < 512) {r : Int32} {z bz : Int32} {u : (qFs × qGs) × (Nat → Int64)} {o : Nat → Int64} {v : qFs × qGs} (hu : (z = 0 ∧ ∃ rv : Int32, ((xRange f r ∧ ¬ xTarg f g r = -1) ∧ rv = xMany f g (xTarg f g r) r ∧ u.1.1 = f ∧ u.1.2 = va_up (xDropG f g (xTarg f g r) r) 4 (upd (xDropG f g (xTarg f g r) r 4) r.toNatClampNeg (-1))) ∧ u.2 0 = rv.toInt64) ∨ (z = 1 ∧ (¬ xRange f r) ∧ u = ((f, g), o)) ∨ (z = 2 ∧ (xRange f r ∧ xTarg f g r = -1) ∧ u = ((f, g), o))) (hv : ((¬ mMv F G r = 0) ∧ v.1 = va_up F 0 (mMv F G r) ∧ v.2 = G) ∨ ((mMv F G r = 0) ∧ bz = nI (cnt (mP G 1) (mLo G r.toNatClampNeg) (mHi nR G r.toNatClampNeg)) ∧ v.1 = va_up F 0 0 ∧ v.2 = va_up G 6 (upd (G 6) r.toNatClampNeg (-1)))) : qRes t z bz u v := by
  obtain ⟨hx, hm, hmem, ⟨fi, hd, hr⟩, hs, ha, ⟨w, hl, hb⟩, hc, hla, hro⟩ := id hRel
  rcases hu with ⟨rfl, rv, ⟨⟨c1, c2⟩, e1, e2, e3⟩, e4⟩ | ⟨rfl, c1, e⟩ | ⟨rfl, ⟨c1, c2⟩, e⟩
  · rcases hv with ⟨d1, _⟩ | ⟨d1, d5, d6, d7⟩
    · exact absurd (hRel.mv0 c1 c2) d1
    · obtain ⟨i, hi, rfl⟩ := x_nat hx c1
      have h8 := hx.2.2.1
      have hC : (nI i).toNatClampNeg = i := nI_clamp (by omega)
      obtain ⟨e5, e6, ⟨h, hh, eh⟩, htg⟩ := hs i hi
      rw [xTarg_at hx g hi] at c2
      obtain ⟨tg, htg4, etg, hne⟩ := htg.resolve_left c2
      rw [hC] at d5 d7 e3
      rw [hd.lo hi, hd.hi hi] at d5
      rw [xTarg_at hx g hi, etg] at e1 e3
      have hnh : ¬ g 3 i = nI tg := fun q => hne (etg.trans q.symm)
      obtain ⟨row, hrow, hat⟩ := drop_at hd hx hi htg4
      rw [hrow] at e3
      refine ⟨by rw [d6]; rfl, fun _ => ?_, nR, nB, ?_⟩
      · rw [e4, e1, d5, rMany hd hx hi, cntI (fun j h1 h2 => rowP_t hd hr ha hi h1 h2 htg4 hnh etg)]
      · rw [e2, e3, d6, d7]
        refine ⟨hx, hm, ⟨hmem.1, by have := hmem.2.1; show -((t + 1 : Nat) : Int) ≤ (F 2).toInt; omega, hmem.2.2⟩, ⟨fi, hd, ?_⟩, ?_, ha, ⟨w, ⟨hl.1, hl.2.1, hl.2.2.1, by have := hl.2.2.2; omega⟩, hb⟩, hc, hla, hro⟩
        · intro j k s2 hj h1 h2 hs2
          have hk : k < 100 := by
            have := hd.le (i := j + 1) (by omega)
            omega
          show row (s2 * 100 + k) = if g 3 j = nI s2 then G 1 k - 1 else if upd (g 4) i (-1) j = nI s2 ∧ ¬ G 7 k = 0 then G 1 k - 1 else -1
          rw [hat s2 k hs2 hk, hr j k s2 hj h1 h2 hs2]
          by_cases c : j = i
          · subst c
            rw [show upd (g 4) j (-1) j = -1 from if_pos rfl]
            have hm1 : ¬ ((-1 : Int32) = nI s2 ∧ ¬ G 7 k = 0) := fun q => nI_nem1 (by omega) q.1.symm
            by_cases c1 : s2 = tg
            · subst c1
              rw [if_pos ⟨rfl, h1, h2⟩, if_neg hnh, if_neg hm1]
            · rw [if_neg (fun q => c1 q.1)]
              by_cases c2 : g 3 j = nI s2
              · rw [if_pos c2, if_pos c2]
              · rw [if_neg c2, if_neg c2, if_neg hm1, if_neg]
                rintro ⟨q, _⟩
                rw [etg, nI_eq (by omega) (by omega)] at q
                exact c1 q.symm
          · have hn : ¬ (fi i ≤ k ∧ k < fi (i + 1)) := fun q => c (hd.uniq hj hi h1 h2 q.1 q.2)
            rw [if_neg (fun q => hn q.2), show upd (g 4) i (-1) j = g 4 j from if_neg c]
        · intro j hj
          show g 3 j = G 5 j ∧ upd (g 4) i (-1) j = upd (G 6) i (-1) j ∧ _ ∧ (upd (g 4) i (-1) j = -1 ∨ ∃ s2, s2 < 4 ∧ upd (g 4) i (-1) j = nI s2 ∧ ¬ upd (g 4) i (-1) j = g 3 j)
          obtain ⟨b5, b6, b7, b8⟩ := hs j hj
          by_cases c : j = i
          · subst c
            have e9 : ∀ z : Nat → Int32, upd z j (-1) j = -1 := fun z => if_pos rfl
            rw [e9, e9]
            exact ⟨b5, rfl, b7, Or.inl rfl⟩
          · have e9 : ∀ z : Nat → Int32, upd z i (-1) j = z j := fun z => if_neg c
            rw [e9, e9]
            exact ⟨b5, b6, b7, b8⟩
  · rcases hv with ⟨d1, d6, d7⟩ | ⟨d1, d5, d6, d7⟩
    · rw [hRel.mv1 c1] at d6
      exact rel_err hRel (by decide) e d6 d7
    · rw [hRel.mv1 c1] at d1
      exact absurd d1 (by decide)
  · rcases hv with ⟨d1, d6, d7⟩ | ⟨d1, d5, d6, d7⟩
    · rw [hRel.mv2 c1 c2] at d6
      exact rel_err hRel (by decide) e d6 d7
    · rw [hRel.mv2 c1 c2] at d1
      exact absurd d1 (by decide)
set_option maxHeartbeats 4000000 in
theorem rel_rangeOf {t nR nB : Nat} {f : qFs} {g : qGs} {F : qFs} {G : qGs} (hRel : Rel t nR nB f g F G) (ht : t < 512) {k : Int32} {z bz : Int32} {u : (qFs × qGs) × (Nat → Int64)} {o : Nat → Int64} {v : qFs × qGs} (hu : (z = 0 ∧ ∃ rv : Int32, (xKey k ∧ rv = nI (xHold nR g k)) ∧ u.1 = (f, g) ∧ u.2 0 = rv.toInt64) ∨ (z = 1 ∧ (¬ xKey k) ∧ u = ((f, g), o))) (hv : ((¬ (xKey k)) ∧ v.1 = va_up F 0 1 ∧ v.2 = G) ∨ ((xKey k) ∧ bz = nI (mAtN (G 4) k nR) ∧ v.1 = va_up F 0 0 ∧ v.2 = G)) : qRes t z bz u v := by
  refine rel_two hRel Iff.rfl (fun hk => ?_) hu hv
  obtain ⟨hx, hm, hmem, ⟨fi, hd, hr⟩, hs, hq⟩ := hRel
  obtain ⟨n, hn, rfl⟩ := k_nat hk
  obtain ⟨i, hi, a, b⟩ := hd.find hn
  rw [hd.hold hi a b, hd.atN hi a b]
set_option maxHeartbeats 4000000 in
theorem rel_shardOf {t nR nB : Nat} {f : qFs} {g : qGs} {F : qFs} {G : qGs} (hRel : Rel t nR nB f g F G) (ht : t < 512) {r : Int32} {z bz : Int32} {u : (qFs × qGs) × (Nat → Int64)} {o : Nat → Int64} {v : qFs × qGs} (hu : (z = 0 ∧ ∃ rv : Int32, (xRange f r ∧ rv = g 3 r.toNatClampNeg) ∧ u.1 = (f, g) ∧ u.2 0 = rv.toInt64) ∨ (z = 1 ∧ (¬ xRange f r) ∧ u = ((f, g), o))) (hv : ((¬ (mRange F r)) ∧ v.1 = va_up F 0 1 ∧ v.2 = G) ∨ ((mRange F r) ∧ bz = G 5 r.toNatClampNeg ∧ v.1 = va_up F 0 0 ∧ v.2 = G)) : qRes t z bz u v := by
  refine rel_two hRel (hRel.range r) (fun hk => ?_) hu hv
  obtain ⟨n, hn, rfl⟩ := x_nat hRel.1 hk
  obtain ⟨hx, hm, hmem, hdr, hs, hq⟩ := hRel
  rw [nI_clamp (by have := hx.2.2.1; omega)]
  exact (hs n hn).1
set_option maxHeartbeats 4000000 in
theorem rel_rows {t nR nB : Nat} {f : qFs} {g : qGs} {F : qFs} {G : qGs} (hRel : Rel t nR nB f g F G) (ht : t < 512) {sh : Int32} {z bz : Int32} {u : (qFs × qGs) × (Nat → Int64)} {o : Nat → Int64} {v : qFs × qGs} (hu : (z = 0 ∧ ∃ rv : Int32, (xShard sh ∧ rv = nI (cnt (xRowP g sh) 0 100)) ∧ u.1 = (f, g) ∧ u.2 0 = rv.toInt64) ∨ (z = 1 ∧ (¬ xShard sh) ∧ u = ((f, g), o))) (hv : ((¬ (xShard sh)) ∧ v.1 = va_up F 0 1 ∧ v.2 = G) ∨ ((xShard sh) ∧ bz = nI (sm (mRowsP nR G sh) nR) ∧ v.1 = va_up F 0 0 ∧ v.2 = G)) : qRes t z bz u v := by
  refine rel_two hRel Iff.rfl (fun hs0 => ?_) hu hv
  obtain ⟨hx, hm, hmem, ⟨fi, hd, hr⟩, hs, ha, hq⟩ := hRel
  obtain ⟨s, hs4, rfl⟩ := s_nat hs0
  refine congrArg nI ?_
  have e := cnt_sm hd (p := xRowP g (nI s)) (q := mRowsP nR G (nI s)) (fun i hi => ?_) nR (Nat.le_refl _)
  · rw [hd.2.1] at e
    exact e
  · obtain ⟨e5, e6, ⟨h, hh, eh⟩, ht⟩ := hs i hi
    unfold mRowsP
    rw [← e5, ← e6, hd.lo hi, hd.hi hi]
    by_cases c : g 3 i = nI s
    · rw [if_pos c]
      exact cntI (fun j h1 h2 => by rw [rowP_h hd hr ha hi h1 h2 hs4 c, mP_0 G G rfl])
    · rw [if_neg c]
      by_cases c2 : g 4 i = nI s
      · rw [if_pos c2]
        exact cntI (fun j h1 h2 => rowP_t hd hr ha hi h1 h2 hs4 c c2)
      · rw [if_neg c2]
        exact cnt_false (fun j h1 h2 => rowP_n hd hr hi h1 h2 hs4 c c2)
set_option maxHeartbeats 4000000 in
theorem rel_fix {t nR nB : Nat} {f : qFs} {g : qGs} {F : qFs} {G : qGs} (hRel : Rel t nR nB f g F G) (ht : t < 512) {z bz : Int32} {u : (qFs × qGs) × (Nat → Int64)} {o : Nat → Int64} {v : qFs × qGs} (hu : (z = 0 ∧ ∃ rv : Int32, (f 7 = 0 ∧ rv = f 1 ∧ u.1.1 = va_up (va_up f 7 1) 8 (f 8 + 1) ∧ u.1.2 = va_up g 6 (fun j => if j < 100 then xDist (xRead nR f g (nI j)) else g 6 j)) ∧ u.2 0 = rv.toInt64) ∨ (z = 1 ∧ (¬ f 7 = 0) ∧ u = ((f, g), o))) (hv : ((¬ F 8 = 0) ∧ v.1 = va_up F 0 1 ∧ v.2 = G) ∨ ((F 8 = 0) ∧ bz = F 2 ∧ v.1 = va_up (va_up (va_up F 0 0) 8 1) 9 (F 9 + 1) ∧ v.2 = va_up (va_up G 10 (fun j => if j < 100 then mRo G j else G 10 j)) 11 (fun j => if j < 100 then 0 else G 11 j))) : qRes t z bz u v := by
  obtain ⟨hx, hm, hmem, ⟨fi, hd, hr⟩, hs, ha, ⟨w, hl, hb⟩, hc, hla, hro⟩ := id hRel
  rcases hu with ⟨rfl, rv, ⟨c1, e1, e2, e3⟩, e4⟩ | ⟨rfl, c1, e⟩
  · rcases hv with ⟨d1, _⟩ | ⟨d1, d5, d6, d7⟩
    · exact absurd (hl.1.symm.trans c1) d1
    · refine ⟨by rw [d6]; rfl, fun _ => by rw [e4, e1, d5, hmem.1], nR, nB, ?_⟩
      rw [e2, e3, d6, d7]
      have hwt := hl.2.2.2
      refine ⟨hx, hm, ⟨hmem.1, by have := hmem.2.1; show -((t + 1 : Nat) : Int) ≤ (F 2).toInt; omega, hmem.2.2⟩, ⟨fi, hd, hr⟩, hs, ha, ⟨w + 1, ⟨rfl, ?_, ?_, by omega⟩, ?_⟩, hc, ?_, ?_⟩
      · show f 8 + 1 = nI (w + 1)
        rw [hl.2.1, nI_1]
      · show F 9 + 1 = nI (w + 1)
        rw [hl.2.2.1, nI_1]
      · intro b hb2
        obtain ⟨b1, b2, b3, b4, ⟨x, hxw, b5⟩, b6⟩ := hb b hb2
        exact ⟨b1, b2, b3, b4, ⟨x, by omega, b5⟩, b6⟩
      · intro j hj
        refine Or.inl ?_
        show (if j < 100 then (0 : Int32) else G 11 j) ≤ 0
        rw [if_pos hj]
        decide
      · intro _ k hk
        have hT : mTh G k ↔ ¬ G 1 k - 1 = -1 := not_congr (a_there (ha k hk)).symm
        refine ⟨?_, ?_, ?_⟩
        · show (if k < 100 then xDist (xRead nR f g (nI k)) else g 6 k) = (if k < 100 then mRo G k else G 10 k) - 1
          rw [if_pos hk, if_pos hk, rRead hx hd hr hs hk]
          unfold xDist mRo
          by_cases c : G 1 k - 1 = -1
          · rw [if_pos c, if_neg (fun q => hT.mp q c)]
            rfl
          · rw [if_neg c, if_pos (hT.mpr c), i_back]
        · show (if k < 100 then mRo G k else G 10 k) = 0 ∨ ∃ d, d < 4 ∧ (if k < 100 then mRo G k else G 10 k) = nI (d + 1)
          rw [if_pos hk]
          unfold mRo
          by_cases c : mTh G k
          · rw [if_pos c]
            rcases ha k hk with q | ⟨x, hx40, q⟩
            · exact absurd (by rw [q]; decide) c
            · refine Or.inr ⟨x / 10, by omega, ?_⟩
              rw [q, nI_pred, show (10 : Int32) = nI 10 from rfl, pk_div (by omega) (by decide) (by decide), nI_1]
          · rw [if_neg c]
            exact Or.inl rfl
        · show (if k < 100 then (0 : Int32) else G 11 k) = _
          rw [if_pos hk, lat_none]
          · rfl
          · intro j hj q
            have q := (of_decide_eq_true q).1.2.2
            obtain ⟨b1, b2, b3, b4, ⟨x, hxw, b5⟩, b6⟩ := hb j hj
            have h60 := hx.2.2.2.2
            have q : g 10 (nI j).toNatClampNeg = f 8 + 1 := q
            rw [nI_clamp (by omega), b5, hl.2.1, nI_1, nI_eq (by omega) (by omega)] at q
            omega
  · rcases hv with ⟨d1, d6, d7⟩ | ⟨d1, d5, d6, d7⟩
    · exact rel_err hRel (by decide) e d6 d7
    · exact absurd (hl.1.trans d1) c1
set_option maxHeartbeats 4000000 in
theorem rel_onRoll {t nR nB : Nat} {f : qFs} {g : qGs} {F : qFs} {G : qGs} (hRel : Rel t nR nB f g F G) (ht : t < 512) {k : Int32} {z bz : Int32} {u : (qFs × qGs) × (Nat → Int64)} {o : Nat → Int64} {v : qFs × qGs} (hu : (z = 0 ∧ ∃ rv : Int32, (xKey k ∧ rv = (if f 7 = 0 then -1 else g 6 k.toNatClampNeg)) ∧ u.1 = (f, g) ∧ u.2 0 = rv.toInt64) ∨ (z = 1 ∧ (¬ xKey k) ∧ u = ((f, g), o))) (hv : ((¬ (xKey k)) ∧ v.1 = va_up F 0 1 ∧ v.2 = G) ∨ ((xKey k) ∧ bz = (if F 8 = 0 then -1 else G 10 k.toNatClampNeg - 1) ∧ v.1 = va_up F 0 0 ∧ v.2 = G)) : qRes t z bz u v := by
  refine rel_two hRel Iff.rfl (fun hk => ?_) hu hv
  obtain ⟨hx, hm, hmem, hdr, hs, ha, ⟨w, hl, hb⟩, hc, hla, hro⟩ := hRel
  rw [← hl.1]
  by_cases c : f 7 = 0
  · rw [if_pos c, if_pos c]
  · rw [if_neg c, if_neg c]
    exact (hro c _ (k_lt hk)).1
set_option maxHeartbeats 4000000 in
theorem rel_send {t nR nB : Nat} {f : qFs} {g : qGs} {F : qFs} {G : qGs} (hRel : Rel t nR nB f g F G) (ht : t < 512) {k : Int32} {z bz : Int32} {u : (qFs × qGs) × (Nat → Int64)} {o : Nat → Int64} {v : qFs × qGs} (hu : (z = 0 ∧ ∃ rv : Int32, ((xKey k ∧ ¬ f 7 = 0 ∧ ¬ g 6 k.toNatClampNeg = -1 ∧ ¬ xRead nR f g k = -1 ∧ ¬ (xBallot f (xSendL f g nB k) ∧ g 13 (xSendL f g nB k).toNatClampNeg = 2) ∧ f 15 < 60) ∧ rv = nI nB ∧ u.1.1 = va_up f 15 (nI (nB + 1)) ∧ u.1.2 = va_up (va_up (va_up (va_up (va_up g 9 (upd (g 9) nB k)) 10 (upd (g 10) nB (f 8))) 11 (upd (g 11) nB (xRead nR f g k))) 12 (upd (g 12) nB (g 6 k.toNatClampNeg))) 13 (upd (xSendS f g nB k) nB 0)) ∧ u.2 0 = rv.toInt64) ∨ (z = 1 ∧ (¬ xKey k) ∧ u = ((f, g), o)) ∨ (z = 2 ∧ (xKey k ∧ (f 7 = 0 ∨ g 6 k.toNatClampNeg = -1 ∨ xRead nR f g k = -1 ∨ (xBallot f (xSendL f g nB k) ∧ g 13 (xSendL f g nB k).toNatClampNeg = 2) ∨ ¬ f 15 < 60)) ∧ u = ((f, g), o))) (hv : ((¬ xKey k) ∧ v.1 = va_up F 0 1 ∧ v.2 = G) ∨ ((xKey k ∧ (F 8 = 0 ∨ G 10 k.toNatClampNeg ≤ 0 ∨ ¬ mThere G k ∨ 60 ≤ F 12 ∨ (¬ G 11 k.toNatClampNeg ≤ 0 ∧ G 14 (G 11 k.toNatClampNeg - 1).toNatClampNeg = 2))) ∧ v.1 = va_up F 0 2 ∧ v.2 = G) ∨ ((xKey k ∧ ¬ F 8 = 0 ∧ ¬ G 10 k.toNatClampNeg ≤ 0 ∧ mThere G k ∧ ¬ 60 ≤ F 12 ∧ (G 11 k.toNatClampNeg ≤ 0 ∨ ¬ G 14 (G 11 k.toNatClampNeg - 1).toNatClampNeg = 2)) ∧ bz = nI nB ∧ v.1 = va_up (va_up F 0 0) 12 (nI (nB + 1)) ∧ v.2 = va_up (va_up (va_up (va_up (va_up G 13 (upd (G 13) nB (G 1 k.toNatClampNeg - 1))) 14 (upd (mSendS G k) nB 0)) 15 (upd (G 15) nB (F 9))) 16 (upd (G 16) nB (G 10 k.toNatClampNeg - 1))) 11 (upd (G 11) k.toNatClampNeg (nI (nB + 1))))) : qRes t z bz u v := by
  obtain ⟨hx, hm, hmem, hdr, hs, ha, ⟨w, hl, hb⟩, hc, hla, hro⟩ := id hRel
  have h60 := hx.2.2.2.2
  have hfr : f 15 < 60 ↔ ¬ 60 ≤ F 12 := by
    rw [hx.2.2.2.1, hm.2.2.2.1, show (60 : Int32) = nI 60 from rfl, nI_ltI (by omega) (by decide), nI_leI (by decide) (by omega)]
    omega
  by_cases hk : xKey k
  · obtain ⟨n, hn, rfl⟩ := k_nat hk
    have hT := hRel.there hk
    have hrd := hRel.read hk
    have hC : (nI n).toNatClampNeg = n := nI_clamp (by omega)
    rw [hC] at hu hv hrd
    by_cases h7 : f 7 = 0
    · have h8 : F 8 = 0 := hl.1.symm.trans h7
      rcases hu with ⟨rfl, rv, ⟨⟨c1, c2, c3⟩, e1, e2, e3⟩, e4⟩ | ⟨rfl, c1, e⟩ | ⟨rfl, ⟨c1, c2⟩, e⟩
      · exact absurd h7 c2
      · exact absurd hk c1
      · rcases hv with ⟨d1, _⟩ | ⟨⟨d1, d2⟩, d6, d7⟩ | ⟨⟨d1, d2, d3⟩, d5, d6, d7⟩
        · exact absurd hk d1
        · exact rel_err hRel (by decide) e d6 d7
        · exact absurd h8 d2
    · have h8 : ¬ F 8 = 0 := fun q => h7 (hl.1.trans q)
      obtain ⟨r6, r10, r11⟩ := hro h7 n hn
      have hL : G 11 n = xSendL f g nB (nI n) + 1 := r11
      have e10 : g 6 n = -1 ↔ G 10 n ≤ 0 := by
        rw [r6]
        rcases r10 with q | ⟨d, hd4, q⟩
        · exact a_there (Or.inl q)
        · exact a_there (Or.inr ⟨d, by omega, q⟩)
      -- the latest ballot of the key
      have hlat : (xSendL f g nB (nI n) = -1 ∧ G 11 n = 0) ∨ ∃ b, b < nB ∧ xSendL f g nB (nI n) = nI b ∧ G 11 n = nI (b + 1) := by
        rcases lat_cases (p := xLatP f g (nI n)) nB with q | ⟨b, q1, q2, _⟩
        · have q : xSendL f g nB (nI n) = -1 := q
          exact Or.inl ⟨q, by rw [hL, q]; rfl⟩
        · have q2 : xSendL f g nB (nI n) = nI b := q2
          exact Or.inr ⟨b, q1, q2, by rw [hL, q2, nI_1]⟩
      have eL : (xBallot f (xSendL f g nB (nI n)) ∧ g 13 (xSendL f g nB (nI n)).toNatClampNeg = 2) ↔ (¬ G 11 n ≤ 0 ∧ G 14 (G 11 n - 1).toNatClampNeg = 2) := by
        rcases hlat with ⟨q1, q2⟩ | ⟨b, q0, q1, q2⟩
        · rw [q1, q2]
          exact ⟨fun q => absurd q.1.1 (by decide), fun q => absurd (by decide) q.1⟩
        · rw [q1, q2, nI_pred, nI_clamp (by omega), (hb b q0).2.2.2.1]
          refine ⟨fun q => ⟨?_, q.2⟩, fun q => ⟨⟨nI_pos' (by omega), ?_⟩, q.2⟩⟩
          · rw [show (0 : Int32) = nI 0 from rfl]
            exact nI_ge (by omega) (by omega)
          · rw [hx.2.2.2.1]
            exact nI_lt q0 (by omega)
      rcases hu with ⟨rfl, rv, ⟨⟨c1, c2, c3, c4, c5, c6⟩, e1, e2, e3⟩, e4⟩ | ⟨rfl, c1, e⟩ | ⟨rfl, ⟨c1, c2⟩, e⟩
      · rcases hv with ⟨d1, _⟩ | ⟨⟨d1, d2⟩, _⟩ | ⟨⟨d1, d2, d3, d4, d5, d9⟩, d8, d6, d7⟩
        · exact absurd hk d1
        · exact (d2.elim (fun q => h8 q) (fun q => q.elim (fun q => c3 (e10.mpr q)) (fun q => q.elim (fun q => q (hT.mpr c4)) (fun q => q.elim (fun q => hfr.mp c6 q) (fun q => c5 (eL.mpr q)))))).elim
        · have h60b := x_B60 hx c6
          refine ⟨by rw [d6]; rfl, fun _ => by rw [e4, e1, d8], nR, nB + 1, ?_⟩
          rw [e2, e3, d6, d7, hrd]
          -- the states after the replacement
          have hS : ∀ j, j < nB → xSendS f g nB (nI n) j = mSendS G (nI n) j ∧ (xSendS f g nB (nI n) j = 2 ↔ g 13 j = 2) := by
            intro j hj
            unfold xSendS mSendS
            rw [hC]
            rcases hlat with ⟨q1, q2⟩ | ⟨b, q0, q1, q2⟩
            · rw [q1, q2, if_neg (fun q => absurd q.1 (by decide)), if_pos (by decide)]
              exact ⟨(hb j hj).2.2.2.1, Iff.rfl⟩
            · have hxb : xBallot f (nI b) := ⟨nI_pos' (by omega), by rw [hx.2.2.2.1]; exact nI_lt q0 (by omega)⟩
              rw [q1, nI_clamp (by omega)] at c5
              have hn2 : ¬ g 13 b = 2 := fun q => c5 ⟨hxb, q⟩
              rw [q1, q2, if_pos hxb, if_neg (by rw [show (0 : Int32) = nI 0 from rfl]; exact nI_ge (by omega) (by omega)), nI_pred, nI_clamp (by omega)]
              unfold upd
              by_cases c : j = b
              · rw [if_pos c, if_pos c]
                exact ⟨rfl, fun q => absurd q (by decide), fun q => absurd (by rw [← c]; exact q) hn2⟩
              · rw [if_neg c, if_neg c]
                exact ⟨(hb j hj).2.2.2.1, Iff.rfl⟩
          have u1 : ∀ (z : Nat → Int32) (x : Int32), upd z nB x nB = x := fun z x => if_pos rfl
          have u2 : ∀ (z : Nat → Int32) (x : Int32) (j : Nat), j < nB → upd z nB x j = z j := fun z x j hj => if_neg (by omega)
          refine ⟨⟨hx.1, hx.2.1, hx.2.2.1, rfl, by omega⟩, ⟨hm.1, hm.2.1, hm.2.2.1, rfl, by omega⟩, ⟨hmem.1, by have := hmem.2.1; show -((t + 1 : Nat) : Int) ≤ (F 2).toInt; omega, hmem.2.2⟩, hdr, hs, ha, ⟨w, ⟨hl.1, hl.2.1, hl.2.2.1, by have := hl.2.2.2; omega⟩, ?_⟩, ?_, ?_, ?_⟩
          · intro j hj
            show upd (g 10) nB (f 8) j = upd (G 15) nB (F 9) j ∧ upd (g 11) nB (G 1 n - 1) j = upd (G 13) nB (G 1 n - 1) j ∧ upd (g 12) nB (g 6 n) j = upd (G 16) nB (G 10 n - 1) j ∧ upd (xSendS f g nB (nI n)) nB 0 j = upd (mSendS G (nI n)) nB 0 j ∧ (∃ x, x ≤ w ∧ upd (g 10) nB (f 8) j = nI x) ∧ (∃ d, d < 4 ∧ upd (g 12) nB (g 6 n) j = nI d)
            by_cases c : j = nB
            · subst c
              rw [u1, u1, u1, u1, u1, u1, u1, u1]
              refine ⟨by rw [hl.2.1, hl.2.2.1], rfl, r6, rfl, ⟨w, Nat.le_refl _, hl.2.1⟩, ?_⟩
              rcases r10 with q | ⟨d, hd4, q⟩
              · exact absurd (by rw [q]; decide) d3
              · exact ⟨d, hd4, by rw [r6, q, nI_pred]⟩
            · have hj : j < nB := by omega
              rw [u2 _ _ j hj, u2 _ _ j hj, u2 _ _ j hj, u2 _ _ j hj, u2 _ _ j hj, u2 _ _ j hj, u2 _ _ j hj, u2 _ _ j hj]
              obtain ⟨b1, b2, b3, b4, b5, b6⟩ := hb j hj
              exact ⟨b1, b2, b3, (hS j hj).1, b5, b6⟩
          · intro d c hd4 hc3
            show G 17 (3 * d + c) = nI (cnt _ 0 (nB + 1))
            rw [hc d c hd4 hc3, cnt_split _ (Nat.zero_le nB) (Nat.le_succ nB)]
            have e0 : cnt (rCP (va_up (va_up (va_up (va_up (va_up g 9 (upd (g 9) nB (nI n))) 10 (upd (g 10) nB (f 8))) 11 (upd (g 11) nB (G 1 n - 1))) 12 (upd (g 12) nB (g 6 n))) 13 (upd (xSendS f g nB (nI n)) nB 0)) d c) nB (nB + 1) = 0 := by
              refine cnt_false (fun j h1 h2 => decide_eq_false ?_)
              obtain rfl : j = nB := by omega
              rintro ⟨q, _⟩
              have q : upd (xSendS f g j (nI n)) j 0 j = 2 := q
              rw [u1] at q
              exact absurd q (by decide)
            rw [e0, Nat.add_zero]
            refine congrArg nI (cntI (fun j _ hj => decide_eq_decide.mpr ?_))
            show _ ↔ (upd (xSendS f g nB (nI n)) nB 0 j = 2 ∧ upd (g 12) nB (g 6 n) j = nI d ∧ g 14 j = nI c)
            rw [u2 _ _ j hj, u2 _ _ j hj, (hS j hj).2]
          · intro j hj
            show upd (G 11) n (nI (nB + 1)) j ≤ 0 ∨ ∃ b, b < nB + 1 ∧ upd (G 11) n (nI (nB + 1)) j = nI (b + 1)
            unfold upd
            by_cases c : j = n
            · rw [if_pos c]
              exact Or.inr ⟨nB, by omega, rfl⟩
            · rw [if_neg c]
              rcases hla j hj with q | ⟨b, q1, q2⟩
              · exact Or.inl q
              · exact Or.inr ⟨b, by omega, q2⟩
          · intro _ k2 hk2
            obtain ⟨s6, s10, s11⟩ := hro h7 k2 hk2
            refine ⟨s6, s10, ?_⟩
            show upd (G 11) n (nI (nB + 1)) k2 = (if xLatP (va_up f 15 (nI (nB + 1))) (va_up (va_up (va_up (va_up (va_up g 9 (upd (g 9) nB (nI n))) 10 (upd (g 10) nB (f 8))) 11 (upd (g 11) nB (G 1 n - 1))) 12 (upd (g 12) nB (g 6 n))) 13 (upd (xSendS f g nB (nI n)) nB 0)) (nI k2) nB = true then nI nB else xLatN (xLatP (va_up f 15 (nI (nB + 1))) (va_up (va_up (va_up (va_up (va_up g 9 (upd (g 9) nB (nI n))) 10 (upd (g 10) nB (f 8))) 11 (upd (g 11) nB (G 1 n - 1))) 12 (upd (g 12) nB (g 6 n))) 13 (upd (xSendS f g nB (nI n)) nB 0)) (nI k2)) nB) + 1
            by_cases c : k2 = n
            · subst c
              rw [if_pos, show upd (G 11) k2 (nI (nB + 1)) k2 = nI (nB + 1) from if_pos rfl, nI_1]
              refine dt ⟨⟨h7, ⟨nI_pos' (by omega), ?_⟩, ?_⟩, ?_⟩
              · show nI nB < nI (nB + 1)
                exact nI_lt (by omega) (by omega)
              · show upd (g 10) nB (f 8) (nI nB).toNatClampNeg = f 8
                rw [nI_clamp (by omega), u1]
              · show upd (g 9) nB (nI k2) nB = nI k2
                rw [u1]
            · rw [if_neg, show upd (G 11) n (nI (nB + 1)) k2 = G 11 k2 from if_neg c, s11]
              · refine congrArg (· + 1) (lat_cong nB (fun j hj => decide_eq_decide.mpr ?_))
                show (xOpen f g (nI j) ∧ g 9 j = nI k2) ↔ ((¬ f 7 = 0 ∧ (0 ≤ nI j ∧ nI j < nI (nB + 1)) ∧ upd (g 10) nB (f 8) (nI j).toNatClampNeg = f 8) ∧ upd (g 9) nB (nI n) j = nI k2)
                rw [nI_clamp (by omega), u2 _ _ j hj, u2 _ _ j hj]
                unfold xOpen
                rw [nI_clamp (by omega)]
                have hxb : xBallot f (nI j) := ⟨nI_pos' (by omega), by rw [hx.2.2.2.1]; exact nI_lt hj (by omega)⟩
                exact ⟨fun q => ⟨⟨q.1.1, ⟨hxb.1, nI_lt (by omega) (by omega)⟩, q.1.2.2⟩, q.2⟩, fun q => ⟨⟨q.1.1, hxb, q.1.2.2⟩, q.2⟩⟩
              · refine df ?_
                rintro ⟨_, q⟩
                have q : upd (g 9) nB (nI n) nB = nI k2 := q
                rw [u1, nI_eq (by omega) (by omega)] at q
                exact c q.symm
      · exact absurd hk c1
      · rcases hv with ⟨d1, _⟩ | ⟨⟨d1, d2⟩, d6, d7⟩ | ⟨⟨d1, d2, d3, d4, d5, d9⟩, d8, d6, d7⟩
        · exact absurd hk d1
        · exact rel_err hRel (by decide) e d6 d7
        · refine (c2.elim (fun q => h7 q) (fun q => q.elim (fun q => d3 (e10.mp q)) (fun q => q.elim (fun q => hT.mp d4 q) (fun q => q.elim (fun q => ?_) (fun q => q (hfr.mpr d5)))))).elim
          have q := eL.mp q
          exact d9.elim (fun p => q.1 p) (fun p => p q.2)
  · rcases hu with ⟨rfl, rv, ⟨⟨c1, c2⟩, e1, e2, e3⟩, e4⟩ | ⟨rfl, c1, e⟩ | ⟨rfl, ⟨c1, c2⟩, e⟩
    · exact absurd c1 hk
    · rcases hv with ⟨d1, d6, d7⟩ | ⟨⟨d1, d2⟩, d6, d7⟩ | ⟨⟨d1, d2⟩, d5, d6, d7⟩
      · exact rel_err hRel (by decide) e d6 d7
      · exact absurd d1 hk
      · exact absurd d1 hk
    · exact absurd c1 hk
set_option maxHeartbeats 4000000 in
theorem rel_sentTo {t nR nB : Nat} {f : qFs} {g : qGs} {F : qFs} {G : qGs} (hRel : Rel t nR nB f g F G) (ht : t < 512) {b : Int32} {z bz : Int32} {u : (qFs × qGs) × (Nat → Int64)} {o : Nat → Int64} {v : qFs × qGs} (hu : (z = 0 ∧ ∃ rv : Int32, (xBallot f b ∧ rv = g 11 b.toNatClampNeg) ∧ u.1 = (f, g) ∧ u.2 0 = rv.toInt64) ∨ (z = 1 ∧ (¬ xBallot f b) ∧ u = ((f, g), o))) (hv : ((¬ (mBallot F b)) ∧ v.1 = va_up F 0 1 ∧ v.2 = G) ∨ ((mBallot F b) ∧ bz = G 13 b.toNatClampNeg ∧ v.1 = va_up F 0 0 ∧ v.2 = G)) : qRes t z bz u v := by
  refine rel_two hRel (hRel.ballot b) (fun hk => ?_) hu hv
  obtain ⟨n, hn, rfl⟩ := b_nat hRel.2.1 ((hRel.ballot b).mp hk)
  obtain ⟨hx, hm, hmem, hdr, hs, ha, ⟨w, hl, hb⟩, hq⟩ := hRel
  rw [nI_clamp (by have := hx.2.2.2.2; omega)]
  exact (hb n hn).2.1
set_option maxHeartbeats 4000000 in
theorem rel_giveBack {t nR nB : Nat} {f : qFs} {g : qGs} {F : qFs} {G : qGs} (hRel : Rel t nR nB f g F G) (ht : t < 512) {b ch : Int32} {z bz : Int32} {u : (qFs × qGs) × (Nat → Int64)} {o : Nat → Int64} {v : qFs × qGs} (hu : (z = 0 ∧ ∃ rv : Int32, ((xBallot f b ∧ xCho ch ∧ g 13 b.toNatClampNeg = 0 ∧ xOpen f g b) ∧ rv = g 12 b.toNatClampNeg ∧ u.1.1 = f ∧ u.1.2 = va_up (va_up g 13 (upd (g 13) b.toNatClampNeg 2)) 14 (upd (g 14) b.toNatClampNeg ch)) ∧ u.2 0 = rv.toInt64) ∨ (z = 1 ∧ (¬ xBallot f b) ∧ u = ((f, g), o)) ∨ (z = 2 ∧ (xBallot f b ∧ ¬ xCho ch) ∧ u = ((f, g), o)) ∨ (z = 3 ∧ (xBallot f b ∧ xCho ch ∧ (¬ g 13 b.toNatClampNeg = 0 ∨ ¬ xOpen f g b)) ∧ u = ((f, g), o))) (hv : ((¬ mBallot F b) ∧ v.1 = va_up F 0 1 ∧ v.2 = G) ∨ ((mBallot F b ∧ ¬ xCho ch) ∧ v.1 = va_up F 0 2 ∧ v.2 = G) ∨ ((mBallot F b ∧ xCho ch ∧ ¬ (G 14 b.toNatClampNeg = 0 ∧ ¬ F 8 = 0 ∧ G 15 b.toNatClampNeg = F 9)) ∧ v.1 = va_up F 0 3 ∧ v.2 = G) ∨ ((mBallot F b ∧ xCho ch ∧ (G 14 b.toNatClampNeg = 0 ∧ ¬ F 8 = 0 ∧ G 15 b.toNatClampNeg = F 9)) ∧ bz = G 16 b.toNatClampNeg ∧ v.1 = va_up F 0 0 ∧ v.2 = va_up (va_up G 14 (upd (G 14) b.toNatClampNeg 2)) 17 (upd (G 17) (3 * G 16 b.toNatClampNeg + ch).toNatClampNeg (G 17 (3 * G 16 b.toNatClampNeg + ch).toNatClampNeg + 1)))) : qRes t z bz u v := by
  obtain ⟨hx, hm, hmem, hdr, hs, ha, ⟨w, hl, hb⟩, hc, hla, hro⟩ := id hRel
  have h60 := hx.2.2.2.2
  have hB := hRel.ballot b
  have hO : xBallot f b → ((g 13 b.toNatClampNeg = 0 ∧ xOpen f g b) ↔ (G 14 b.toNatClampNeg = 0 ∧ ¬ F 8 = 0 ∧ G 15 b.toNatClampNeg = F 9)) := by
    intro hxb
    obtain ⟨n, hn, rfl⟩ := b_nat hm (hB.mp hxb)
    rw [nI_clamp (by omega)]
    obtain ⟨b1, b2, b3, b4, b5⟩ := hb n hn
    unfold xOpen
    rw [nI_clamp (by omega), b1, b4, hl.1, hl.2.1, hl.2.2.1]
    exact ⟨fun q => ⟨q.1, q.2.1, q.2.2.2⟩, fun q => ⟨q.1, q.2.1, hxb, q.2.2⟩⟩
  rcases hu with ⟨rfl, rv, ⟨⟨c1, c2, c3, c4⟩, e1, e2, e3⟩, e4⟩ | ⟨rfl, c1, e⟩ | ⟨rfl, ⟨c1, c2⟩, e⟩ | ⟨rfl, ⟨c1, c2, c3⟩, e⟩
  · rcases hv with ⟨d1, _⟩ | ⟨⟨d1, d2⟩, _⟩ | ⟨⟨d1, d2, d3⟩, _⟩ | ⟨⟨d1, d2, d3⟩, d5, d6, d7⟩
    · exact absurd (hB.mp c1) d1
    · exact absurd c2 d2
    · exact absurd ((hO c1).mp ⟨c3, c4⟩) d3
    · obtain ⟨n, hn, rfl⟩ := b_nat hm d1
      obtain ⟨y, hy, rfl⟩ := c_nat c2
      have hC : (nI n).toNatClampNeg = n := nI_clamp (by omega)
      rw [hC] at c3 e1 e3 d5 d7
      obtain ⟨b1, b2, b3, b4, b5, d, hd4, b6⟩ := hb n hn
      have h16 : G 16 n = nI d := b3.symm.trans b6
      have hix : (3 * G 16 n + nI y).toNatClampNeg = 3 * d + y := by
        rw [h16, show (3 : Int32) = nI 3 from rfl, pk_mul, nI_add, nI_clamp (by omega)]
      rw [hix] at d7
      refine ⟨by rw [d6]; rfl, fun _ => by rw [e4, e1, d5, b3], nR, nB, ?_⟩
      rw [e2, e3, d6, d7]
      refine ⟨hx, hm, ⟨hmem.1, by have := hmem.2.1; show -((t + 1 : Nat) : Int) ≤ (F 2).toInt; omega, hmem.2.2⟩, hdr, hs, ha, ⟨w, ⟨hl.1, hl.2.1, hl.2.2.1, by have := hl.2.2.2; omega⟩, ?_⟩, ?_, hla, hro⟩
      · intro j hj
        obtain ⟨a1, a2, a3, a4, a5, a6⟩ := hb j hj
        refine ⟨a1, a2, a3, ?_, a5, a6⟩
        show upd (g 13) n 2 j = upd (G 14) n 2 j
        unfold upd
        by_cases c : j = n
        · rw [if_pos c, if_pos c]
        · rw [if_neg c, if_neg c]
          exact a4
      · intro d2 y2 hd2 hy2
        have hq : ∀ j, ¬ j = n → rCP (va_up (va_up g 13 (upd (g 13) n 2)) 14 (upd (g 14) n (nI y))) d2 y2 j = rCP g d2 y2 j := by
          intro j hj
          refine decide_eq_decide.mpr ?_
          show (upd (g 13) n 2 j = 2 ∧ g 12 j = nI d2 ∧ upd (g 14) n (nI y) j = nI y2) ↔ _
          rw [show upd (g 13) n 2 j = g 13 j from if_neg hj, show upd (g 14) n (nI y) j = g 14 j from if_neg hj]
        have hp : ¬ rCP g d2 y2 n = true := df (fun q => absurd (c3.symm.trans q.1) (by decide))
        have hqn : rCP (va_up (va_up g 13 (upd (g 13) n 2)) 14 (upd (g 14) n (nI y))) d2 y2 n = true ↔ (d2 = d ∧ y2 = y) := by
          rw [decide_eq_true_iff]
          show (upd (g 13) n 2 n = 2 ∧ g 12 n = nI d2 ∧ upd (g 14) n (nI y) n = nI y2) ↔ _
          rw [show upd (g 13) n 2 n = 2 from if_pos rfl, show upd (g 14) n (nI y) n = nI y from if_pos rfl, b6, nI_eq (by omega) (by omega), nI_eq (by omega) (by omega)]
          exact ⟨fun q => ⟨q.2.1.symm, q.2.2.symm⟩, fun q => ⟨rfl, q.1.symm, q.2.symm⟩⟩
        show upd (G 17) (3 * d + y) (G 17 (3 * d + y) + 1) (3 * d2 + y2) = _
        by_cases c : d2 = d ∧ y2 = y
        · rw [show upd (G 17) (3 * d + y) (G 17 (3 * d + y) + 1) (3 * d2 + y2) = G 17 (3 * d + y) + 1 from if_pos (by rw [c.1, c.2]), cnt_plus hn hq hp (hqn.mpr c), c.1, c.2, hc d y hd4 hy, nI_1]
        · rw [show upd (G 17) (3 * d + y) (G 17 (3 * d + y) + 1) (3 * d2 + y2) = G 17 (3 * d2 + y2) from if_neg (by omega), hc d2 y2 hd2 hy2]
          refine congrArg nI (cntI (fun j _ hj => ?_))
          by_cases c2 : j = n
          · subst c2
            rw [eq_comm, Bool.eq_iff_iff]
            exact ⟨fun q => absurd (hqn.mp q) c, fun q => absurd q hp⟩
          · exact (hq j c2).symm
  · rcases hv with ⟨d1, d6, d7⟩ | ⟨⟨d1, d2⟩, _⟩ | ⟨⟨d1, d2, d3⟩, _⟩ | ⟨⟨d1, d2, d3⟩, d5, d6, d7⟩
    · exact rel_err hRel (by decide) e d6 d7
    · exact absurd (hB.mpr d1) c1
    · exact absurd (hB.mpr d1) c1
    · exact absurd (hB.mpr d1) c1
  · rcases hv with ⟨d1, _⟩ | ⟨⟨d1, d2⟩, d6, d7⟩ | ⟨⟨d1, d2, d3⟩, _⟩ | ⟨⟨d1, d2, d3⟩, d5, d6, d7⟩
    · exact absurd (hB.mp c1) d1
    · exact rel_err hRel (by decide) e d6 d7
    · exact absurd d2 c2
    · exact absurd d2 c2
  · rcases hv with ⟨d1, _⟩ | ⟨⟨d1, d2⟩, _⟩ | ⟨⟨d1, d2, d3⟩, d6, d7⟩ | ⟨⟨d1, d2, d3⟩, d5, d6, d7⟩
    · exact absurd (hB.mp c1) d1
    · exact absurd c2 d2
    · exact rel_err hRel (by decide) e d6 d7
    · have q := (hO c1).mpr d3
      exact (c3.elim (fun p => p q.1) (fun p => p q.2)).elim
set_option maxHeartbeats 4000000 in
theorem rel_stateOf {t nR nB : Nat} {f : qFs} {g : qGs} {F : qFs} {G : qGs} (hRel : Rel t nR nB f g F G) (ht : t < 512) {b : Int32} {z bz : Int32} {u : (qFs × qGs) × (Nat → Int64)} {o : Nat → Int64} {v : qFs × qGs} (hu : (z = 0 ∧ ∃ rv : Int32, (xBallot f b ∧ rv = g 13 b.toNatClampNeg) ∧ u.1 = (f, g) ∧ u.2 0 = rv.toInt64) ∨ (z = 1 ∧ (¬ xBallot f b) ∧ u = ((f, g), o))) (hv : ((¬ (mBallot F b)) ∧ v.1 = va_up F 0 1 ∧ v.2 = G) ∨ ((mBallot F b) ∧ bz = G 14 b.toNatClampNeg ∧ v.1 = va_up F 0 0 ∧ v.2 = G)) : qRes t z bz u v := by
  refine rel_two hRel (hRel.ballot b) (fun hk => ?_) hu hv
  obtain ⟨n, hn, rfl⟩ := b_nat hRel.2.1 ((hRel.ballot b).mp hk)
  obtain ⟨hx, hm, hmem, hdr, hs, ha, ⟨w, hl, hb⟩, hq⟩ := hRel
  rw [nI_clamp (by have := hx.2.2.2.2; omega)]
  exact (hb n hn).2.2.2.1
set_option maxHeartbeats 4000000 in
theorem rel_counted {t nR nB : Nat} {f : qFs} {g : qGs} {F : qFs} {G : qGs} (hRel : Rel t nR nB f g F G) (ht : t < 512) {d ch : Int32} {z bz : Int32} {u : (qFs × qGs) × (Nat → Int64)} {o : Nat → Int64} {v : qFs × qGs} (hu : (z = 0 ∧ ∃ rv : Int32, ((xShard d ∧ xCho ch) ∧ rv = nI (cnt (fun j => decide (g 13 j = 2 ∧ g 12 j = d ∧ g 14 j = ch)) 0 nB)) ∧ u.1 = (f, g) ∧ u.2 0 = rv.toInt64) ∨ (z = 1 ∧ (¬ xShard d) ∧ u = ((f, g), o)) ∨ (z = 2 ∧ (xShard d ∧ ¬ xCho ch) ∧ u = ((f, g), o))) (hv : ((¬ xShard d) ∧ v.1 = va_up F 0 1 ∧ v.2 = G) ∨ ((xShard d ∧ ¬ xCho ch) ∧ v.1 = va_up F 0 2 ∧ v.2 = G) ∨ ((xShard d ∧ xCho ch) ∧ bz = G 17 (3 * d + ch).toNatClampNeg ∧ v.1 = va_up F 0 0 ∧ v.2 = G)) : qRes t z bz u v := by
  obtain ⟨hx, hm, hmem, hdr, hs, ha, ⟨w, hl, hb⟩, hc, hla, hro⟩ := id hRel
  rcases hu with ⟨rfl, rv, ⟨⟨c1, c2⟩, e1⟩, e2, e4⟩ | ⟨rfl, c1, e⟩ | ⟨rfl, ⟨c1, c2⟩, e⟩
  · rcases hv with ⟨d1, _⟩ | ⟨⟨d1, d2⟩, _⟩ | ⟨⟨d1, d2⟩, d5, d6, d7⟩
    · exact absurd c1 d1
    · exact absurd c2 d2
    · refine rel_q hRel e2 d6 d7 (fun _ => ?_)
      obtain ⟨n, hn, rfl⟩ := s_nat c1
      obtain ⟨y, hy, rfl⟩ := c_nat c2
      rw [e4, e1, d5, show (3 : Int32) = nI 3 from rfl, pk_mul, nI_add, nI_clamp (by omega), hc n y hn hy]
  · rcases hv with ⟨d1, d6, d7⟩ | ⟨⟨d1, d2⟩, _⟩ | ⟨⟨d1, d2⟩, d5, d6, d7⟩
    · exact rel_err hRel (by decide) e d6 d7
    · exact absurd d1 c1
    · exact absurd d1 c1
  · rcases hv with ⟨d1, _⟩ | ⟨⟨d1, d2⟩, d6, d7⟩ | ⟨⟨d1, d2⟩, d5, d6, d7⟩
    · exact absurd c1 d1
    · exact rel_err hRel (by decide) e d6 d7
    · exact absurd d2 c2
set_option maxHeartbeats 4000000 in
theorem rel_close {t nR nB : Nat} {f : qFs} {g : qGs} {F : qFs} {G : qGs} (hRel : Rel t nR nB f g F G) (ht : t < 512) {z bz : Int32} {u : (qFs × qGs) × (Nat → Int64)} {o : Nat → Int64} {v : qFs × qGs} (hu : (z = 0 ∧ ∃ rv : Int32, (¬ f 7 = 0 ∧ rv = nI (cnt (fun j => decide (xOpen f g (nI j) ∧ g 13 j = 0)) 0 nB) ∧ u.1.1 = va_up f 7 0 ∧ u.1.2 = g) ∧ u.2 0 = rv.toInt64) ∨ (z = 1 ∧ (f 7 = 0) ∧ u = ((f, g), o))) (hv : ((F 8 = 0) ∧ v.1 = va_up F 0 1 ∧ v.2 = G) ∨ ((¬ F 8 = 0) ∧ bz = nI (cnt (fun j => decide (G 15 j = F 9 ∧ G 14 j = 0)) 0 nB) ∧ v.1 = va_up (va_up F 0 0) 8 0 ∧ v.2 = G)) : qRes t z bz u v := by
  obtain ⟨hx, hm, hmem, hdr, hs, ha, ⟨w, hl, hb⟩, hc, hla, hro⟩ := id hRel
  rcases hu with ⟨rfl, rv, ⟨c1, e1, e2, e3⟩, e4⟩ | ⟨rfl, c1, e⟩
  · rcases hv with ⟨d1, _⟩ | ⟨d1, d5, d6, d7⟩
    · exact absurd (hl.1.trans d1) c1
    · refine ⟨by rw [d6]; rfl, fun _ => ?_, nR, nB, ?_⟩
      · rw [e4, e1, d5]
        congr 2
        refine cntI (fun j _ hj => ?_)
        have h60 := hx.2.2.2.2
        obtain ⟨b1, b2, b3, b4, b5⟩ := hb j hj
        refine decide_eq_decide.mpr ?_
        unfold xOpen
        rw [nI_clamp (by omega), b1, b4, hl.2.2.1, hl.2.1]
        refine ⟨fun q => ⟨q.1.2.2, q.2⟩, fun q => ⟨⟨c1, ⟨nI_pos' (by omega), ?_⟩, q.1⟩, q.2⟩⟩
        rw [hx.2.2.2.1]
        exact nI_lt hj (by omega)
      · rw [e2, e3, d6, d7]
        exact ⟨hx, hm, ⟨hmem.1, by have := hmem.2.1; show -((t + 1 : Nat) : Int) ≤ (F 2).toInt; omega, hmem.2.2⟩, hdr, hs, ha, ⟨w, ⟨rfl, hl.2.1, hl.2.2.1, by have := hl.2.2.2; omega⟩, hb⟩, hc, hla, fun q => absurd rfl q⟩
  · rcases hv with ⟨d1, d6, d7⟩ | ⟨d1, d5, d6, d7⟩
    · exact rel_err hRel (by decide) e d6 d7
    · exact absurd (hl.1.symm.trans c1) d1
theorem rel_ranges {t nR nB : Nat} {f : qFs} {g : qGs} {F : qFs} {G : qGs} (hRel : Rel t nR nB f g F G) (ht : t < 512) {bz : Int32} {v : qFs × qGs} (hv : bz = F 3 ∧ v.1 = va_up F 0 0 ∧ v.2 = G) : f 5 = bz ∧ Rel (t + 1) nR nB f g v.1 v.2 := by
  obtain ⟨e1, e2, e3⟩ := hv
  refine ⟨by rw [e1, hRel.1.1, hRel.2.1.1], ?_⟩
  rw [e2, e3]
  exact hRel.quiet 0
theorem Rel_next {t nR nB : Nat} {f : qFs} {g : qGs} {F : qFs} {G : qGs} (hRel : Rel t nR nB f g F G) : Rel (t + 1) nR nB f g F G := by
  obtain ⟨hx, hm, hmem, hdr, hs, ha, ⟨w, hl, hb⟩, hc, hla, hro⟩ := hRel
  exact ⟨hx, hm, ⟨hmem.1, by have := hmem.2.1; show -((t + 1 : Nat) : Int) ≤ (F 2).toInt; omega, hmem.2.2⟩, hdr, hs, ha, ⟨w, ⟨hl.1, hl.2.1, hl.2.2.1, by have := hl.2.2.2; omega⟩, hb⟩, hc, hla, hro⟩
theorem Rel_0 : Rel 0 1 0 xF0 xG0 mF0 mG0 := by
  refine ⟨⟨rfl, by decide, by decide, rfl, by decide⟩, ⟨rfl, by decide, by decide, rfl, by decide⟩, ⟨rfl, by decide, by decide⟩, ⟨fun i => if i = 0 then 0 else 100, ⟨rfl, rfl, ?_, ?_, ?_⟩, ?_⟩, ?_, fun k _ => Or.inl rfl, ⟨0, ⟨rfl, rfl, rfl, Nat.le_refl _⟩, fun b hb => absurd hb (Nat.not_lt_zero _)⟩, ?_, fun j _ => Or.inl (by show (0 : Int32) ≤ 0; decide), fun q => absurd rfl q⟩
  · intro i hi
    obtain rfl : i = 0 := by omega
    decide
  · intro i hi
    obtain rfl : i = 0 := by omega
    rfl
  · intro i hi
    obtain rfl : i = 0 := by omega
    rfl
  · intro i k s hi a b hs
    obtain rfl : i = 0 := by omega
    have b : k < 100 := b
    have e : xG0 0 (s * 100 + k) = -1 := if_pos (show s * 100 + k < 400 by omega)
    rw [e]
    by_cases c : xG0 3 0 = nI s
    · rw [if_pos c]; rfl
    · rw [if_neg c]
      by_cases c2 : xG0 4 0 = nI s ∧ ¬ mG0 7 k = 0
      · rw [if_pos c2]; rfl
      · rw [if_neg c2]
  · intro i hi
    obtain rfl : i = 0 := by omega
    exact ⟨rfl, rfl, ⟨0, by decide, rfl⟩, Or.inl rfl⟩
  · intro d c _ _
    rfl
