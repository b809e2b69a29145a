/-! the relation between the class's state and the reference's -/
def rDir (nR : Nat) (fi : Nat → Nat) (g G : qGs) : Prop := fi 0 = 0 ∧ fi nR = 100 ∧ (∀ i, i < nR → fi i < fi (i + 1)) ∧ (∀ i, i < nR → G 4 i = nI (fi i)) ∧ (∀ i, i < nR → g 2 i = nI (fi (i + 1) - 1))
def rSh (nR : Nat) (g G : qGs) : Prop := ∀ i, i < nR → g 3 i = G 5 i ∧ g 4 i = G 6 i ∧ (∃ h, h < 4 ∧ g 3 i = nI h) ∧ (g 4 i = -1 ∨ ∃ s, s < 4 ∧ g 4 i = nI s ∧ ¬ g 4 i = g 3 i)
def rRow (nR : Nat) (fi : Nat → Nat) (g G : qGs) : Prop := ∀ i k s, i < nR → fi i ≤ k → k < fi (i + 1) → s < 4 → g 0 (s * 100 + k) = if g 3 i = nI s then G 1 k - 1 else if g 4 i = nI s ∧ ¬ G 7 k = 0 then G 1 k - 1 else -1
def rAdr (G : qGs) : Prop := ∀ k, k < 100 → G 1 k = 0 ∨ ∃ a, a < 40 ∧ G 1 k = nI (a + 1)
def rMem (t : Nat) (f F : qFs) : Prop := f 1 = F 2 ∧ -(t : Int) ≤ (F 2).toInt ∧ (F 2).toInt ≤ 40
abbrev rCP (g : qGs) (d c : Nat) : Nat → Bool := fun j => decide (g 13 j = 2 ∧ g 12 j = nI d ∧ g 14 j = nI c)
def rBal (nB v : Nat) (g G : qGs) : Prop := ∀ b, b < nB → g 10 b = G 15 b ∧ g 11 b = G 13 b ∧ g 12 b = G 16 b ∧ g 13 b = G 14 b ∧ (∃ w, w ≤ v ∧ g 10 b = nI w) ∧ (∃ d, d < 4 ∧ g 12 b = nI d)
def rCnt (nB : Nat) (g G : qGs) : Prop := ∀ d c, d < 4 → c < 3 → G 17 (3 * d + c) = nI (cnt (rCP g d c) 0 nB)
def rRoll (nB : Nat) (f : qFs) (g G : qGs) : Prop := ¬ f 7 = 0 → ∀ k, k < 100 → g 6 k = G 10 k - 1 ∧ (G 10 k = 0 ∨ ∃ d, d < 4 ∧ G 10 k = nI (d + 1)) ∧ G 11 k = xLatN (xLatP f g (nI k)) nB + 1
def rLaid (t v : Nat) (f F : qFs) : Prop := f 7 = F 8 ∧ f 8 = nI v ∧ F 9 = nI v ∧ v ≤ t
def Rel (t nR nB : Nat) (f : qFs) (g : qGs) (F : qFs) (G : qGs) : Prop := xI nR nB f ∧ mI nR nB F ∧ rMem t f F ∧ (∃ fi, rDir nR fi g G ∧ rRow nR fi g G) ∧ rSh nR g G ∧ rAdr G ∧ (∃ v, rLaid t v f F ∧ rBal nB v g G) ∧ rCnt nB g G ∧ mLa nB G ∧ rRoll nB f g G
def qRes (t : Nat) (z bz : Int32) (u : (qFs × qGs) × (Nat → Int64)) (v : qFs × qGs) : Prop := v.1 0 = z ∧ (z = 0 → u.2 0 = bz.toInt64) ∧ ∃ nR nB, Rel (t + 1) nR nB u.1.1 u.1.2 v.1 v.2
theorem Rel.xL {t nR nB : Nat} {f : qFs} {g : qGs} {F : qFs} {G : qGs} (h : Rel t nR nB f g F G) : xL nR g := by
  obtain ⟨h1, h2, h3, ⟨fi, hd, hr⟩, h5⟩ := h
  obtain ⟨a, b, c, d, e⟩ := hd
  intro i hi
  have hc := c i hi
  have h100 : fi (i + 1) ≤ 100 := by
    have : ∀ j, j ≤ nR → i + 1 ≤ j → fi (i + 1) ≤ fi j := by
      intro j
      induction j with
      | zero => intro _ q; omega
      | succ j ih =>
        intro q1 q2
        by_cases q : i + 1 = j + 1
        · rw [q]; exact Nat.le_refl _
        · have := ih (by omega) (by omega)
          have := c j (by omega)
          omega
    have := this nR (Nat.le_refl _) (by omega)
    omega
  exact ⟨fi (i + 1) - 1, by omega, e i hi⟩
theorem rDir.mono {nR : Nat} {fi : Nat → Nat} {g G : qGs} (h : rDir nR fi g G) {i : Nat} : ∀ j, i ≤ j → j ≤ nR → fi i ≤ fi j := by
  intro j
  induction j with
  | zero => intro q _; rw [show i = 0 by omega]; exact Nat.le_refl _
  | succ j ih =>
    intro q1 q2
    by_cases q : i = j + 1
    · rw [q]; exact Nat.le_refl _
    · have h1 := ih (by omega) (by omega)
      have h2 := h.2.2.1 j (by omega)
      omega
theorem rDir.le {nR : Nat} {fi : Nat → Nat} {g G : qGs} (h : rDir nR fi g G) {i : Nat} (hi : i ≤ nR) : fi i ≤ 100 := by
  have := h.mono nR hi (Nat.le_refl _)
  rw [h.2.1] at this
  exact this
theorem rDir.beh {nR : Nat} {fi : Nat → Nat} {g G : qGs} (h : rDir nR fi g G) {i : Nat} (hi : i < nR) : mBeh nR G i = nI (fi (i + 1)) := by
  unfold mBeh
  by_cases q : i + 1 = nR
  · rw [if_pos q, q, h.2.1]; rfl
  · rw [if_neg q]; exact h.2.2.2.1 (i + 1) (by omega)
theorem rDir.mL {nR : Nat} {fi : Nat → Nat} {g G : qGs} (h : rDir nR fi g G) : mL nR G := fun i hi => ⟨fi i, fi (i + 1), h.2.2.2.1 i hi, h.beh hi, Nat.le_of_lt (h.2.2.1 i hi), h.le (by omega)⟩
theorem Rel.mL {t nR nB : Nat} {f : qFs} {g : qGs} {F : qFs} {G : qGs} (h : Rel t nR nB f g F G) : mL nR G := by
  obtain ⟨h1, h2, h3, ⟨fi, hd, hr⟩, h5⟩ := h
  exact hd.mL
theorem Rel.mDi {t nR nB : Nat} {f : qFs} {g : qGs} {F : qFs} {G : qGs} (h : Rel t nR nB f g F G) : mDi nB G := by
  obtain ⟨h1, h2, h3, h4, h5, h6, ⟨v, h7, h8⟩, h9⟩ := h
  intro b hb
  obtain ⟨a1, a2, a3, a4, a5, d, hd, e⟩ := h8 b hb
  exact ⟨d, hd, by rw [← a3]; exact e⟩

set_option maxHeartbeats 4000000 in
theorem rel_join {t nR nB : Nat} {f : qFs} {g : qGs} {F : qFs} {G : qGs} (hRel : Rel t nR nB f g F G) (ht : t < 512) {k a : Int32} {z bz : Int32} {u : (qFs × qGs) × (Nat → Int64)} {o : Nat → Int64} {v : qFs × qGs} (hu : (z = 0 ∧ ∃ rv : Int32, ((xKey k ∧ xAdr a ∧ xRead nR f g k = -1 ∧ f 1 < 40) ∧ rv = f 1 + 1 ∧ u.1.1 = va_up f 1 (f 1 + 1) ∧ u.1.2 = xWriteG nR f g k a) ∧ u.2 0 = rv.toInt64) ∨ (z = 1 ∧ (¬ xKey k) ∧ u = ((f, g), o)) ∨ (z = 2 ∧ (xKey k ∧ ¬ xAdr a) ∧ u = ((f, g), o)) ∨ (z = 3 ∧ (xKey k ∧ xAdr a ∧ (¬ xRead nR f g k = -1 ∨ ¬ f 1 < 40)) ∧ u = ((f, g), o))) (hv : ((¬ xKey k) ∧ v.1 = va_up F 0 1 ∧ v.2 = G) ∨ ((xKey k ∧ ¬ xAdr a) ∧ v.1 = va_up F 0 2 ∧ v.2 = G) ∨ ((xKey k ∧ xAdr a ∧ (mThere G k ∨ F 2 = 40)) ∧ v.1 = va_up F 0 3 ∧ v.2 = G) ∨ ((xKey k ∧ xAdr a ∧ ¬ mThere G k ∧ ¬ F 2 = 40) ∧ bz = F 2 + 1 ∧ v.1 = va_up (va_up F 0 0) 2 (F 2 + 1) ∧ v.2 = va_up (va_up G 1 (upd (G 1) k.toNatClampNeg (a + 1))) 7 (upd (G 7) k.toNatClampNeg 1))) : qRes t z bz u v := by
  sorry
set_option maxHeartbeats 4000000 in
theorem rel_change {t nR nB : Nat} {f : qFs} {g : qGs} {F : qFs} {G : qGs} (hRel : Rel t nR nB f g F G) (ht : t < 512) {k a : Int32} {z bz : Int32} {u : (qFs × qGs) × (Nat → Int64)} {o : Nat → Int64} {v : qFs × qGs} (hu : (z = 0 ∧ ∃ rv : Int32, ((xKey k ∧ xAdr a ∧ ¬ xRead nR f g k = -1) ∧ rv = xRead nR f g k ∧ u.1.1 = f ∧ u.1.2 = xWriteG nR f g k a) ∧ u.2 0 = rv.toInt64) ∨ (z = 1 ∧ (¬ xKey k) ∧ u = ((f, g), o)) ∨ (z = 2 ∧ (xKey k ∧ ¬ xAdr a) ∧ u = ((f, g), o)) ∨ (z = 3 ∧ (xKey k ∧ xAdr a ∧ xRead nR f g k = -1) ∧ u = ((f, g), o))) (hv : ((¬ xKey k) ∧ v.1 = va_up F 0 1 ∧ v.2 = G) ∨ ((xKey k ∧ ¬ xAdr a) ∧ v.1 = va_up F 0 2 ∧ v.2 = G) ∨ ((xKey k ∧ xAdr a ∧ ¬ mThere G k) ∧ v.1 = va_up F 0 3 ∧ v.2 = G) ∨ ((xKey k ∧ xAdr a ∧ mThere G k) ∧ bz = G 1 k.toNatClampNeg - 1 ∧ v.1 = va_up F 0 0 ∧ v.2 = va_up (va_up G 1 (upd (G 1) k.toNatClampNeg (a + 1))) 7 (upd (G 7) k.toNatClampNeg 1))) : qRes t z bz u v := by
  sorry
set_option maxHeartbeats 4000000 in
theorem rel_leave {t nR nB : Nat} {f : qFs} {g : qGs} {F : qFs} {G : qGs} (hRel : Rel t nR nB f g F G) (ht : t < 512) {k : Int32} {z bz : Int32} {u : (qFs × qGs) × (Nat → Int64)} {o : Nat → Int64} {v : qFs × qGs} (hu : (z = 0 ∧ ∃ rv : Int32, ((xKey k ∧ ¬ xRead nR f g k = -1) ∧ rv = xRead nR f g k ∧ u.1.1 = va_up f 1 (f 1 - 1) ∧ u.1.2 = xWriteG nR f g k (-1)) ∧ u.2 0 = rv.toInt64) ∨ (z = 1 ∧ (¬ xKey k) ∧ u = ((f, g), o)) ∨ (z = 2 ∧ (xKey k ∧ xRead nR f g k = -1) ∧ u = ((f, g), o))) (hv : ((¬ xKey k) ∧ v.1 = va_up F 0 1 ∧ v.2 = G) ∨ ((xKey k ∧ ¬ mThere G k) ∧ v.1 = va_up F 0 2 ∧ v.2 = G) ∨ ((xKey k ∧ mThere G k) ∧ bz = G 1 k.toNatClampNeg - 1 ∧ v.1 = va_up (va_up F 0 0) 2 (F 2 - 1) ∧ v.2 = va_up G 1 (upd (G 1) k.toNatClampNeg 0))) : qRes t z bz u v := by
  sorry
set_option maxHeartbeats 4000000 in
theorem rel_address {t nR nB : Nat} {f : qFs} {g : qGs} {F : qFs} {G : qGs} (hRel : Rel t nR nB f g F G) (ht : t < 512) {k : Int32} {z bz : Int32} {u : (qFs × qGs) × (Nat → Int64)} {o : Nat → Int64} {v : qFs × qGs} (hu : (z = 0 ∧ ∃ rv : Int32, (xKey k ∧ rv = xRead nR f g k) ∧ u.1 = (f, g) ∧ u.2 0 = rv.toInt64) ∨ (z = 1 ∧ (¬ xKey k) ∧ u = ((f, g), o))) (hv : ((¬ (xKey k)) ∧ v.1 = va_up F 0 1 ∧ v.2 = G) ∨ ((xKey k) ∧ bz = G 1 k.toNatClampNeg - 1 ∧ v.1 = va_up F 0 0 ∧ v.2 = G)) : qRes t z bz u v := by
  sorry
set_option maxHeartbeats 4000000 in
theorem rel_inDistrict {t nR nB : Nat} {f : qFs} {g : qGs} {F : qFs} {G : qGs} (hRel : Rel t nR nB f g F G) (ht : t < 512) {d : Int32} {z bz : Int32} {u : (qFs × qGs) × (Nat → Int64)} {o : Nat → Int64} {v : qFs × qGs} (hu : (z = 0 ∧ ∃ rv : Int32, (xShard d ∧ rv = nI (cnt (fun j => decide (xDist (xRead nR f g (nI j)) = d)) 0 100)) ∧ u.1 = (f, g) ∧ u.2 0 = rv.toInt64) ∨ (z = 1 ∧ (¬ xShard d) ∧ u = ((f, g), o))) (hv : ((¬ (xShard d)) ∧ v.1 = va_up F 0 1 ∧ v.2 = G) ∨ ((xShard d) ∧ bz = nI (cnt (fun j => decide (mTh G j ∧ (G 1 j - 1) / 10 = d)) 0 100) ∧ v.1 = va_up F 0 0 ∧ v.2 = G)) : qRes t z bz u v := by
  sorry
set_option maxHeartbeats 4000000 in
theorem rel_split {t nR nB : Nat} {f : qFs} {g : qGs} {F : qFs} {G : qGs} (hRel : Rel t nR nB f g F G) (ht : t < 512) {k : Int32} {z bz : Int32} {u : (qFs × qGs) × (Nat → Int64)} {o : Nat → Int64} {v : qFs × qGs} (hu : (z = 0 ∧ ∃ rv : Int32, ((xKey k ∧ ¬ k = xLast f g (nI (xHold nR g k)) ∧ xTarg f g (nI (xHold nR g k)) = -1 ∧ f 5 < 8) ∧ rv = nI (xHold nR g k + 1) ∧ u.1.1 = va_up f 5 (nI (nR + 1)) ∧ u.1.2 = va_up (xUpG (xHold nR g k) g (nR - xHold nR g k)) 2 (upd (xUpG (xHold nR g k) g (nR - xHold nR g k) 2) (xHold nR g k) k)) ∧ u.2 0 = rv.toInt64) ∨ (z = 1 ∧ (¬ xKey k) ∧ u = ((f, g), o)) ∨ (z = 2 ∧ (xKey k ∧ (k = xLast f g (nI (xHold nR g k)) ∨ ¬ xTarg f g (nI (xHold nR g k)) = -1 ∨ ¬ f 5 < 8)) ∧ u = ((f, g), o))) (hv : ((¬ xKey k) ∧ v.1 = va_up F 0 1 ∧ v.2 = G) ∨ ((xKey k ∧ (k + 1 = mBeh nR G (mAtN (G 4) k nR) ∨ ¬ G 6 (mAtN (G 4) k nR) = -1 ∨ nR = 8)) ∧ v.1 = va_up F 0 2 ∧ v.2 = G) ∨ ((xKey k ∧ ¬ k + 1 = mBeh nR G (mAtN (G 4) k nR) ∧ G 6 (mAtN (G 4) k nR) = -1 ∧ nR < 8) ∧ bz = nI (mAtN (G 4) k nR + 1) ∧ v.1 = va_up (va_up F 0 0) 3 (nI (nR + 1)) ∧ v.2 = va_up (va_up (va_up (mUpG (mAtN (G 4) k nR + 1) G (nR - (mAtN (G 4) k nR + 1))) 4 (upd ((mUpG (mAtN (G 4) k nR + 1) G (nR - (mAtN (G 4) k nR + 1))) 4) (mAtN (G 4) k nR + 1) (k + 1))) 5 (upd ((mUpG (mAtN (G 4) k nR + 1) G (nR - (mAtN (G 4) k nR + 1))) 5) (mAtN (G 4) k nR + 1) ((mUpG (mAtN (G 4) k nR + 1) G (nR - (mAtN (G 4) k nR + 1))) 5 (mAtN (G 4) k nR)))) 6 (upd ((mUpG (mAtN (G 4) k nR + 1) G (nR - (mAtN (G 4) k nR + 1))) 6) (mAtN (G 4) k nR + 1) (-1)))) : qRes t z bz u v := by
  sorry
set_option maxHeartbeats 4000000 in
theorem rel_merge {t nR nB : Nat} {f : qFs} {g : qGs} {F : qFs} {G : qGs} (hRel : Rel t nR nB f g F G) (ht : t < 512) {r : Int32} {z bz : Int32} {u : (qFs × qGs) × (Nat → Int64)} {o : Nat → Int64} {v : qFs × qGs} (hu : (z = 0 ∧ ∃ rv : Int32, ((xRange f r ∧ xRange f (r + 1) ∧ xHome f g r = xHome f g (r + 1) ∧ xTarg f g r = -1 ∧ xTarg f g (r + 1) = -1) ∧ rv = nI (nR - 1) ∧ u.1.1 = va_up f 5 (nI (nR - 1)) ∧ u.1.2 = xDnG g r.toNatClampNeg (nR - 1 - r.toNatClampNeg)) ∧ u.2 0 = rv.toInt64) ∨ (z = 1 ∧ (¬ xRange f r) ∧ u = ((f, g), o)) ∨ (z = 2 ∧ (xRange f r ∧ (¬ xRange f (r + 1) ∨ ¬ xHome f g r = xHome f g (r + 1) ∨ ¬ xTarg f g r = -1 ∨ ¬ xTarg f g (r + 1) = -1)) ∧ u = ((f, g), o))) (hv : ((¬ mRange F r) ∧ v.1 = va_up F 0 1 ∧ v.2 = G) ∨ ((mRange F r ∧ ¬ (r.toNatClampNeg + 1 < nR ∧ G 5 r.toNatClampNeg = G 5 (r.toNatClampNeg + 1) ∧ G 6 r.toNatClampNeg = -1 ∧ G 6 (r.toNatClampNeg + 1) = -1)) ∧ v.1 = va_up F 0 2 ∧ v.2 = G) ∨ ((mRange F r ∧ (r.toNatClampNeg + 1 < nR ∧ G 5 r.toNatClampNeg = G 5 (r.toNatClampNeg + 1) ∧ G 6 r.toNatClampNeg = -1 ∧ G 6 (r.toNatClampNeg + 1) = -1)) ∧ bz = nI (nR - 1) ∧ v.1 = va_up (va_up F 0 0) 3 (nI (nR - 1)) ∧ v.2 = va_up (mDnG G (r.toNatClampNeg + 2) (nR - (r.toNatClampNeg + 2))) 6 (upd (mDnG G (r.toNatClampNeg + 2) (nR - (r.toNatClampNeg + 2)) 6) (nR - 1) (-1)))) : qRes t z bz u v := by
  sorry
set_option maxHeartbeats 4000000 in
theorem rel_move {t nR nB : Nat} {f : qFs} {g : qGs} {F : qFs} {G : qGs} (hRel : Rel t nR nB f g F G) (ht : t < 512) {r sh : Int32} {z bz : Int32} {u : (qFs × qGs) × (Nat → Int64)} {o : Nat → Int64} {v : qFs × qGs} (hu : (z = 0 ∧ ∃ rv : Int32, ((xRange f r ∧ xShard sh ∧ xTarg f g r = -1 ∧ ¬ xHome f g r = sh) ∧ rv = xMany f g (xHome f g r) r ∧ u.1.1 = f ∧ u.1.2 = va_up g 4 (upd (g 4) r.toNatClampNeg sh)) ∧ u.2 0 = rv.toInt64) ∨ (z = 1 ∧ (¬ (xRange f r ∧ xShard sh)) ∧ u = ((f, g), o)) ∨ (z = 2 ∧ ((xRange f r ∧ xShard sh) ∧ (¬ xTarg f g r = -1 ∨ xHome f g r = sh)) ∧ u = ((f, g), o))) (hv : ((¬ (mRange F r ∧ xShard sh)) ∧ v.1 = va_up F 0 1 ∧ v.2 = G) ∨ (((mRange F r ∧ xShard sh) ∧ (¬ G 6 r.toNatClampNeg = -1 ∨ G 5 r.toNatClampNeg = sh)) ∧ v.1 = va_up F 0 2 ∧ v.2 = G) ∨ (((mRange F r ∧ xShard sh) ∧ G 6 r.toNatClampNeg = -1 ∧ ¬ G 5 r.toNatClampNeg = sh) ∧ bz = nI (cnt (fun j => decide (mTh G j)) (mLo G r.toNatClampNeg) (mHi nR G r.toNatClampNeg)) ∧ v.1 = va_up F 0 0 ∧ v.2 = va_up (va_up G 6 (upd (G 6) r.toNatClampNeg sh)) 7 (fun j => if mLo G r.toNatClampNeg ≤ j ∧ j < mHi nR G r.toNatClampNeg then 0 else G 7 j))) : qRes t z bz u v := by
  sorry
set_option maxHeartbeats 4000000 in
theorem rel_step {t nR nB : Nat} {f : qFs} {g : qGs} {F : qFs} {G : qGs} (hRel : Rel t nR nB f g F G) (ht : t < 512) {r : Int32} {z bz : Int32} {u : (qFs × qGs) × (Nat → Int64)} {o : Nat → Int64} {v : qFs × qGs} (hu : (z = 0 ∧ ∃ rv : Int32, ((xRange f r ∧ ¬ xTarg f g r = -1) ∧ rv = xStepK f g r ∧ u.1.1 = f ∧ u.1.2 = xStepG f g r) ∧ u.2 0 = rv.toInt64) ∨ (z = 1 ∧ (¬ xRange f r) ∧ u = ((f, g), o)) ∨ (z = 2 ∧ (xRange f r ∧ xTarg f g r = -1) ∧ u = ((f, g), o))) (hv : ((¬ mMv F G r = 0) ∧ v.1 = va_up F 0 (mMv F G r) ∧ v.2 = G) ∨ ((mMv F G r = 0) ∧ bz = mStepK nR G r.toNatClampNeg ∧ v.1 = va_up F 0 0 ∧ v.2 = mStepG nR G r.toNatClampNeg)) : qRes t z bz u v := by
  sorry
set_option maxHeartbeats 4000000 in
theorem rel_giveUp {t nR nB : Nat} {f : qFs} {g : qGs} {F : qFs} {G : qGs} (hRel : Rel t nR nB f g F G) (ht : t < 512) {r : Int32} {z bz : Int32} {u : (qFs × qGs) × (Nat → Int64)} {o : Nat → Int64} {v : qFs × qGs} (hu : (z = 0 ∧ ∃ rv : Int32, ((xRange f r ∧ ¬ xTarg f g r = -1) ∧ rv = xMany f g (xTarg f g r) r ∧ u.1.1 = f ∧ u.1.2 = va_up (xDropG f g (xTarg f g r) r) 4 (upd (xDropG f g (xTarg f g r) r 4) r.toNatClampNeg (-1))) ∧ u.2 0 = rv.toInt64) ∨ (z = 1 ∧ (¬ xRange f r) ∧ u = ((f, g), o)) ∨ (z = 2 ∧ (xRange f r ∧ xTarg f g r = -1) ∧ u = ((f, g), o))) (hv : ((¬ mMv F G r = 0) ∧ v.1 = va_up F 0 (mMv F G r) ∧ v.2 = G) ∨ ((mMv F G r = 0) ∧ bz = nI (cnt (mP G 1) (mLo G r.toNatClampNeg) (mHi nR G r.toNatClampNeg)) ∧ v.1 = va_up F 0 0 ∧ v.2 = va_up G 6 (upd (G 6) r.toNatClampNeg (-1)))) : qRes t z bz u v := by
  sorry
set_option maxHeartbeats 4000000 in
theorem rel_rangeOf {t nR nB : Nat} {f : qFs} {g : qGs} {F : qFs} {G : qGs} (hRel : Rel t nR nB f g F G) (ht : t < 512) {k : Int32} {z bz : Int32} {u : (qFs × qGs) × (Nat → Int64)} {o : Nat → Int64} {v : qFs × qGs} (hu : (z = 0 ∧ ∃ rv : Int32, (xKey k ∧ rv = nI (xHold nR g k)) ∧ u.1 = (f, g) ∧ u.2 0 = rv.toInt64) ∨ (z = 1 ∧ (¬ xKey k) ∧ u = ((f, g), o))) (hv : ((¬ (xKey k)) ∧ v.1 = va_up F 0 1 ∧ v.2 = G) ∨ ((xKey k) ∧ bz = nI (mAtN (G 4) k nR) ∧ v.1 = va_up F 0 0 ∧ v.2 = G)) : qRes t z bz u v := by
  sorry
set_option maxHeartbeats 4000000 in
theorem rel_shardOf {t nR nB : Nat} {f : qFs} {g : qGs} {F : qFs} {G : qGs} (hRel : Rel t nR nB f g F G) (ht : t < 512) {r : Int32} {z bz : Int32} {u : (qFs × qGs) × (Nat → Int64)} {o : Nat → Int64} {v : qFs × qGs} (hu : (z = 0 ∧ ∃ rv : Int32, (xRange f r ∧ rv = g 3 r.toNatClampNeg) ∧ u.1 = (f, g) ∧ u.2 0 = rv.toInt64) ∨ (z = 1 ∧ (¬ xRange f r) ∧ u = ((f, g), o))) (hv : ((¬ (mRange F r)) ∧ v.1 = va_up F 0 1 ∧ v.2 = G) ∨ ((mRange F r) ∧ bz = G 5 r.toNatClampNeg ∧ v.1 = va_up F 0 0 ∧ v.2 = G)) : qRes t z bz u v := by
  sorry
set_option maxHeartbeats 4000000 in
theorem rel_rows {t nR nB : Nat} {f : qFs} {g : qGs} {F : qFs} {G : qGs} (hRel : Rel t nR nB f g F G) (ht : t < 512) {sh : Int32} {z bz : Int32} {u : (qFs × qGs) × (Nat → Int64)} {o : Nat → Int64} {v : qFs × qGs} (hu : (z = 0 ∧ ∃ rv : Int32, (xShard sh ∧ rv = nI (cnt (xRowP g sh) 0 100)) ∧ u.1 = (f, g) ∧ u.2 0 = rv.toInt64) ∨ (z = 1 ∧ (¬ xShard sh) ∧ u = ((f, g), o))) (hv : ((¬ (xShard sh)) ∧ v.1 = va_up F 0 1 ∧ v.2 = G) ∨ ((xShard sh) ∧ bz = nI (sm (mRowsP nR G sh) nR) ∧ v.1 = va_up F 0 0 ∧ v.2 = G)) : qRes t z bz u v := by
  sorry
set_option maxHeartbeats 4000000 in
theorem rel_fix {t nR nB : Nat} {f : qFs} {g : qGs} {F : qFs} {G : qGs} (hRel : Rel t nR nB f g F G) (ht : t < 512) {z bz : Int32} {u : (qFs × qGs) × (Nat → Int64)} {o : Nat → Int64} {v : qFs × qGs} (hu : (z = 0 ∧ ∃ rv : Int32, (f 7 = 0 ∧ rv = f 1 ∧ u.1.1 = va_up (va_up f 7 1) 8 (f 8 + 1) ∧ u.1.2 = va_up g 6 (fun j => if j < 100 then xDist (xRead nR f g (nI j)) else g 6 j)) ∧ u.2 0 = rv.toInt64) ∨ (z = 1 ∧ (¬ f 7 = 0) ∧ u = ((f, g), o))) (hv : ((¬ F 8 = 0) ∧ v.1 = va_up F 0 1 ∧ v.2 = G) ∨ ((F 8 = 0) ∧ bz = F 2 ∧ v.1 = va_up (va_up (va_up F 0 0) 8 1) 9 (F 9 + 1) ∧ v.2 = va_up (va_up G 10 (fun j => if j < 100 then mRo G j else G 10 j)) 11 (fun j => if j < 100 then 0 else G 11 j))) : qRes t z bz u v := by
  sorry
set_option maxHeartbeats 4000000 in
theorem rel_onRoll {t nR nB : Nat} {f : qFs} {g : qGs} {F : qFs} {G : qGs} (hRel : Rel t nR nB f g F G) (ht : t < 512) {k : Int32} {z bz : Int32} {u : (qFs × qGs) × (Nat → Int64)} {o : Nat → Int64} {v : qFs × qGs} (hu : (z = 0 ∧ ∃ rv : Int32, (xKey k ∧ rv = (if f 7 = 0 then -1 else g 6 k.toNatClampNeg)) ∧ u.1 = (f, g) ∧ u.2 0 = rv.toInt64) ∨ (z = 1 ∧ (¬ xKey k) ∧ u = ((f, g), o))) (hv : ((¬ (xKey k)) ∧ v.1 = va_up F 0 1 ∧ v.2 = G) ∨ ((xKey k) ∧ bz = (if F 8 = 0 then -1 else G 10 k.toNatClampNeg - 1) ∧ v.1 = va_up F 0 0 ∧ v.2 = G)) : qRes t z bz u v := by
  sorry
set_option maxHeartbeats 4000000 in
theorem rel_send {t nR nB : Nat} {f : qFs} {g : qGs} {F : qFs} {G : qGs} (hRel : Rel t nR nB f g F G) (ht : t < 512) {k : Int32} {z bz : Int32} {u : (qFs × qGs) × (Nat → Int64)} {o : Nat → Int64} {v : qFs × qGs} (hu : (z = 0 ∧ ∃ rv : Int32, ((xKey k ∧ ¬ f 7 = 0 ∧ ¬ g 6 k.toNatClampNeg = -1 ∧ ¬ xRead nR f g k = -1 ∧ ¬ (xBallot f (xSendL f g nB k) ∧ g 13 (xSendL f g nB k).toNatClampNeg = 2) ∧ f 15 < 60) ∧ rv = nI nB ∧ u.1.1 = va_up f 15 (nI (nB + 1)) ∧ u.1.2 = va_up (va_up (va_up (va_up (va_up g 9 (upd (g 9) nB k)) 10 (upd (g 10) nB (f 8))) 11 (upd (g 11) nB (xRead nR f g k))) 12 (upd (g 12) nB (g 6 k.toNatClampNeg))) 13 (upd (xSendS f g nB k) nB 0)) ∧ u.2 0 = rv.toInt64) ∨ (z = 1 ∧ (¬ xKey k) ∧ u = ((f, g), o)) ∨ (z = 2 ∧ (xKey k ∧ (f 7 = 0 ∨ g 6 k.toNatClampNeg = -1 ∨ xRead nR f g k = -1 ∨ (xBallot f (xSendL f g nB k) ∧ g 13 (xSendL f g nB k).toNatClampNeg = 2) ∨ ¬ f 15 < 60)) ∧ u = ((f, g), o))) (hv : ((¬ xKey k) ∧ v.1 = va_up F 0 1 ∧ v.2 = G) ∨ ((xKey k ∧ (F 8 = 0 ∨ G 10 k.toNatClampNeg ≤ 0 ∨ ¬ mThere G k ∨ 60 ≤ F 12 ∨ (¬ G 11 k.toNatClampNeg ≤ 0 ∧ G 14 (G 11 k.toNatClampNeg - 1).toNatClampNeg = 2))) ∧ v.1 = va_up F 0 2 ∧ v.2 = G) ∨ ((xKey k ∧ ¬ F 8 = 0 ∧ ¬ G 10 k.toNatClampNeg ≤ 0 ∧ mThere G k ∧ ¬ 60 ≤ F 12 ∧ (G 11 k.toNatClampNeg ≤ 0 ∨ ¬ G 14 (G 11 k.toNatClampNeg - 1).toNatClampNeg = 2)) ∧ bz = nI nB ∧ v.1 = va_up (va_up F 0 0) 12 (nI (nB + 1)) ∧ v.2 = va_up (va_up (va_up (va_up (va_up G 13 (upd (G 13) nB (G 1 k.toNatClampNeg - 1))) 14 (upd (mSendS G k) nB 0)) 15 (upd (G 15) nB (F 9))) 16 (upd (G 16) nB (G 10 k.toNatClampNeg - 1))) 11 (upd (G 11) k.toNatClampNeg (nI (nB + 1))))) : qRes t z bz u v := by
  sorry
set_option maxHeartbeats 4000000 in
theorem rel_sentTo {t nR nB : Nat} {f : qFs} {g : qGs} {F : qFs} {G : qGs} (hRel : Rel t nR nB f g F G) (ht : t < 512) {b : Int32} {z bz : Int32} {u : (qFs × qGs) × (Nat → Int64)} {o : Nat → Int64} {v : qFs × qGs} (hu : (z = 0 ∧ ∃ rv : Int32, (xBallot f b ∧ rv = g 11 b.toNatClampNeg) ∧ u.1 = (f, g) ∧ u.2 0 = rv.toInt64) ∨ (z = 1 ∧ (¬ xBallot f b) ∧ u = ((f, g), o))) (hv : ((¬ (mBallot F b)) ∧ v.1 = va_up F 0 1 ∧ v.2 = G) ∨ ((mBallot F b) ∧ bz = G 13 b.toNatClampNeg ∧ v.1 = va_up F 0 0 ∧ v.2 = G)) : qRes t z bz u v := by
  sorry
set_option maxHeartbeats 4000000 in
theorem rel_giveBack {t nR nB : Nat} {f : qFs} {g : qGs} {F : qFs} {G : qGs} (hRel : Rel t nR nB f g F G) (ht : t < 512) {b ch : Int32} {z bz : Int32} {u : (qFs × qGs) × (Nat → Int64)} {o : Nat → Int64} {v : qFs × qGs} (hu : (z = 0 ∧ ∃ rv : Int32, ((xBallot f b ∧ xCho ch ∧ g 13 b.toNatClampNeg = 0 ∧ xOpen f g b) ∧ rv = g 12 b.toNatClampNeg ∧ u.1.1 = f ∧ u.1.2 = va_up (va_up g 13 (upd (g 13) b.toNatClampNeg 2)) 14 (upd (g 14) b.toNatClampNeg ch)) ∧ u.2 0 = rv.toInt64) ∨ (z = 1 ∧ (¬ xBallot f b) ∧ u = ((f, g), o)) ∨ (z = 2 ∧ (xBallot f b ∧ ¬ xCho ch) ∧ u = ((f, g), o)) ∨ (z = 3 ∧ (xBallot f b ∧ xCho ch ∧ (¬ g 13 b.toNatClampNeg = 0 ∨ ¬ xOpen f g b)) ∧ u = ((f, g), o))) (hv : ((¬ mBallot F b) ∧ v.1 = va_up F 0 1 ∧ v.2 = G) ∨ ((mBallot F b ∧ ¬ xCho ch) ∧ v.1 = va_up F 0 2 ∧ v.2 = G) ∨ ((mBallot F b ∧ xCho ch ∧ ¬ (G 14 b.toNatClampNeg = 0 ∧ ¬ F 8 = 0 ∧ G 15 b.toNatClampNeg = F 9)) ∧ v.1 = va_up F 0 3 ∧ v.2 = G) ∨ ((mBallot F b ∧ xCho ch ∧ (G 14 b.toNatClampNeg = 0 ∧ ¬ F 8 = 0 ∧ G 15 b.toNatClampNeg = F 9)) ∧ bz = G 16 b.toNatClampNeg ∧ v.1 = va_up F 0 0 ∧ v.2 = va_up (va_up G 14 (upd (G 14) b.toNatClampNeg 2)) 17 (upd (G 17) (3 * G 16 b.toNatClampNeg + ch).toNatClampNeg (G 17 (3 * G 16 b.toNatClampNeg + ch).toNatClampNeg + 1)))) : qRes t z bz u v := by
  sorry
set_option maxHeartbeats 4000000 in
theorem rel_stateOf {t nR nB : Nat} {f : qFs} {g : qGs} {F : qFs} {G : qGs} (hRel : Rel t nR nB f g F G) (ht : t < 512) {b : Int32} {z bz : Int32} {u : (qFs × qGs) × (Nat → Int64)} {o : Nat → Int64} {v : qFs × qGs} (hu : (z = 0 ∧ ∃ rv : Int32, (xBallot f b ∧ rv = g 13 b.toNatClampNeg) ∧ u.1 = (f, g) ∧ u.2 0 = rv.toInt64) ∨ (z = 1 ∧ (¬ xBallot f b) ∧ u = ((f, g), o))) (hv : ((¬ (mBallot F b)) ∧ v.1 = va_up F 0 1 ∧ v.2 = G) ∨ ((mBallot F b) ∧ bz = G 14 b.toNatClampNeg ∧ v.1 = va_up F 0 0 ∧ v.2 = G)) : qRes t z bz u v := by
  sorry
set_option maxHeartbeats 4000000 in
theorem rel_counted {t nR nB : Nat} {f : qFs} {g : qGs} {F : qFs} {G : qGs} (hRel : Rel t nR nB f g F G) (ht : t < 512) {d ch : Int32} {z bz : Int32} {u : (qFs × qGs) × (Nat → Int64)} {o : Nat → Int64} {v : qFs × qGs} (hu : (z = 0 ∧ ∃ rv : Int32, ((xShard d ∧ xCho ch) ∧ rv = nI (cnt (fun j => decide (g 13 j = 2 ∧ g 12 j = d ∧ g 14 j = ch)) 0 nB)) ∧ u.1 = (f, g) ∧ u.2 0 = rv.toInt64) ∨ (z = 1 ∧ (¬ xShard d) ∧ u = ((f, g), o)) ∨ (z = 2 ∧ (xShard d ∧ ¬ xCho ch) ∧ u = ((f, g), o))) (hv : ((¬ xShard d) ∧ v.1 = va_up F 0 1 ∧ v.2 = G) ∨ ((xShard d ∧ ¬ xCho ch) ∧ v.1 = va_up F 0 2 ∧ v.2 = G) ∨ ((xShard d ∧ xCho ch) ∧ bz = G 17 (3 * d + ch).toNatClampNeg ∧ v.1 = va_up F 0 0 ∧ v.2 = G)) : qRes t z bz u v := by
  sorry
set_option maxHeartbeats 4000000 in
theorem rel_close {t nR nB : Nat} {f : qFs} {g : qGs} {F : qFs} {G : qGs} (hRel : Rel t nR nB f g F G) (ht : t < 512) {z bz : Int32} {u : (qFs × qGs) × (Nat → Int64)} {o : Nat → Int64} {v : qFs × qGs} (hu : (z = 0 ∧ ∃ rv : Int32, (¬ f 7 = 0 ∧ rv = nI (cnt (fun j => decide (xOpen f g (nI j) ∧ g 13 j = 0)) 0 nB) ∧ u.1.1 = va_up f 7 0 ∧ u.1.2 = g) ∧ u.2 0 = rv.toInt64) ∨ (z = 1 ∧ (f 7 = 0) ∧ u = ((f, g), o))) (hv : ((F 8 = 0) ∧ v.1 = va_up F 0 1 ∧ v.2 = G) ∨ ((¬ F 8 = 0) ∧ bz = nI (cnt (fun j => decide (G 15 j = F 9 ∧ G 14 j = 0)) 0 nB) ∧ v.1 = va_up (va_up F 0 0) 8 0 ∧ v.2 = G)) : qRes t z bz u v := by
  sorry
theorem rel_ranges {t nR nB : Nat} {f : qFs} {g : qGs} {F : qFs} {G : qGs} (hRel : Rel t nR nB f g F G) (ht : t < 512) {bz : Int32} {v : qFs × qGs} (hv : bz = F 3 ∧ v.1 = va_up F 0 0 ∧ v.2 = G) : f 5 = bz ∧ Rel (t + 1) nR nB f g v.1 v.2 := by
  sorry
theorem Rel_next {t nR nB : Nat} {f : qFs} {g : qGs} {F : qFs} {G : qGs} (hRel : Rel t nR nB f g F G) : Rel (t + 1) nR nB f g F G := by
  sorry
theorem Rel_0 : Rel 0 1 0 xF0 xG0 mF0 mG0 := by
  sorry
