/-- the places that a walk along nx from f on goes through -/
def Chain (nx : Nat → Int32) : List Nat → Int32 → Prop
  | [], f => f = -1
  | x :: l, f => f = nI x ∧ Chain nx l (nx x)
def rlab (l : List Nat) (x : Int32) (fi : Nat → Int32) : Nat → Int32 := fun j => if j ∈ l then x else fi j
theorem rlab_nil (x : Int32) (fi : Nat → Int32) : rlab [] x fi = fi := by funext j; simp [rlab]
theorem rlab_cons (y : Nat) (l : List Nat) (x : Int32) (fi : Nat → Int32) : rlab l x (upd fi y x) = rlab (y :: l) x fi := by
  funext j
  unfold rlab upd
  by_cases h1 : j ∈ l
  · simp [h1]
  · by_cases h2 : j = y
    · simp [h2]
    · simp [h1, h2]
/-- g with the places a .. cnt - 1 moved one on -/
def shf (g : Nat → Int32) (a cnt : Nat) : Nat → Int32 := fun j => if a < j ∧ j ≤ cnt then g (j - 1) else g j
theorem shf_self (g : Nat → Int32) (cnt : Nat) : shf g cnt cnt = g := by
  funext j
  unfold shf
  rw [if_neg (by omega)]
theorem shf_step {g : Nat → Int32} {a cnt : Nat} (h : a + 1 ≤ cnt) : upd (shf g (a + 1) cnt) (a + 1) (g a) = shf g a cnt := by
  funext j
  unfold upd shf
  by_cases h1 : j = a + 1
  · subst h1
    rw [if_pos rfl, if_pos (by omega)]
    rfl
  · rw [if_neg h1]
    by_cases h2 : a + 1 < j ∧ j ≤ cnt
    · rw [if_pos h2, if_pos (by omega)]
    · rw [if_neg h2, if_neg (by omega)]
theorem shf_low {g : Nat → Int32} {a cnt j : Nat} (h : j ≤ a) : shf g a cnt j = g j := by
  unfold shf
  rw [if_neg (by omega)]
def insF (g : Nat → Int32) (a cnt : Nat) (x : Int32) : Nat → Int32 := upd (shf g a cnt) a x
/-- from the back: the place behind the last one of which p does not hold -/
def bpos (p : Nat → Bool) : Nat → Nat
  | 0 => 0
  | k + 1 => if p k then bpos p k else k + 1
theorem bpos_le (p : Nat → Bool) : ∀ k, bpos p k ≤ k
  | 0 => Nat.le_refl 0
  | k + 1 => by
    unfold bpos
    split
    · exact Nat.le_succ_of_le (bpos_le p k)
    · exact Nat.le_refl _
theorem insF_all {g : Nat → Int32} {a cnt : Nat} {x : Int32} {P : Int32 → Prop} (ha : a ≤ cnt) (hg : ∀ j, j < cnt → P (g j)) (hx : P x) : ∀ j, j < cnt + 1 → P (insF g a cnt x j) := by
  intro j hj
  unfold insF upd shf
  split
  · exact hx
  · split
    · exact hg _ (by omega)
    · exact hg _ (by omega)
def obhStep (fi S F : Nat → Int32) (he : Nat → Int64) (k : Nat) (st : Nat × (Nat → Int32)) : Nat × (Nat → Int32) := if fi k = -1 then st else if cof S F k = -1 then st else (st.1 + 1, insF st.2 (bpos (fun j => decide (he (st.2 j).toNatClampNeg < he k)) st.1) st.1 (nI k))
def obhN (fi S F : Nat → Int32) (he : Nat → Int64) (g : Nat → Int32) : Nat → Nat × (Nat → Int32)
  | 0 => (0, g)
  | k + 1 => obhStep fi S F he k (obhN fi S F he g k)
theorem obhN_in (fi S F : Nat → Int32) (he : Nat → Int64) (g : Nat → Int32) : ∀ k, (obhN fi S F he g k).1 ≤ k ∧ ∀ j, j < (obhN fi S F he g k).1 → ∃ x, x < k ∧ (obhN fi S F he g k).2 j = nI x ∧ fi x ≠ -1 ∧ cof S F x ≠ -1 := by
  intro k
  induction k with
  | zero => exact ⟨Nat.le_refl 0, fun j h => absurd h (Nat.not_lt_zero j)⟩
  | succ k ih =>
    have h0 : (obhN fi S F he g k).1 ≤ k + 1 ∧ ∀ j, j < (obhN fi S F he g k).1 → ∃ x, x < k + 1 ∧ (obhN fi S F he g k).2 j = nI x ∧ fi x ≠ -1 ∧ cof S F x ≠ -1 := by
      refine ⟨by omega, fun j h => ?_⟩
      obtain ⟨x, h1, h2⟩ := ih.2 j h
      exact ⟨x, by omega, h2⟩
    show (obhStep fi S F he k (obhN fi S F he g k)).1 ≤ k + 1 ∧ ∀ j, j < (obhStep fi S F he k (obhN fi S F he g k)).1 → ∃ x, x < k + 1 ∧ (obhStep fi S F he k (obhN fi S F he g k)).2 j = nI x ∧ fi x ≠ -1 ∧ cof S F x ≠ -1
    unfold obhStep
    split
    · exact h0
    · split
      · exact h0
      · rename_i h1 h2
        exact ⟨Nat.succ_le_succ ih.1, insF_all (P := fun y => ∃ x, x < k + 1 ∧ y = nI x ∧ fi x ≠ -1 ∧ cof S F x ≠ -1) (bpos_le _ _) h0.2 ⟨k, by omega, rfl, h1, h2⟩⟩
theorem obhN_vin {fi S F : Nat → Int32} {he : Nat → Int64} {g : Nat → Int32} {k j : Nat} (hk : k ≤ 300) (hj : j < (obhN fi S F he g k).1) : vp_in ((obhN fi S F he g k).2 j) 300 := by
  obtain ⟨x, h1, h2, -⟩ := (obhN_in fi S F he g k).2 j hj
  rw [h2]
  exact inn (by omega) (by omega)
def densI (ba bb ha hb : Int64) : Int32 := if ba ≤ 0 then 0 else if bb ≤ 0 then 0 else if ha / ba = hb / bb then (if (hb - hb / bb * bb) * ba < (ha - ha / ba * ba) * bb then 1 else 0) else (if hb / bb < ha / ba then 1 else 0)
def rkStep (fi le : Nat → Int32) (by_ he : Nat → Int64) (k : Nat) (st : Nat × (Nat → Int32)) : Nat × (Nat → Int32) := if fi k = -1 then st else if le (fi k).toNatClampNeg = nI k then (st.1 + 1, insF st.2 (bpos (fun j => !decide (densI (by_ (fi k).toNatClampNeg) (by_ (st.2 j).toNatClampNeg) (he (fi k).toNatClampNeg) (he (st.2 j).toNatClampNeg) = 0)) st.1) st.1 (fi k)) else st
def rkN (fi le : Nat → Int32) (by_ he : Nat → Int64) (g : Nat → Int32) : Nat → Nat × (Nat → Int32)
  | 0 => (0, g)
  | k + 1 => rkStep fi le by_ he k (rkN fi le by_ he g k)
theorem rkN_in (fi le : Nat → Int32) (by_ he : Nat → Int64) (g : Nat → Int32) : ∀ k, (rkN fi le by_ he g k).1 ≤ k ∧ ∀ j, j < (rkN fi le by_ he g k).1 → ∃ x, x < k ∧ (rkN fi le by_ he g k).2 j = fi x ∧ fi x ≠ -1 := by
  intro k
  induction k with
  | zero => exact ⟨Nat.le_refl 0, fun j h => absurd h (Nat.not_lt_zero j)⟩
  | succ k ih =>
    have h0 : (rkN fi le by_ he g k).1 ≤ k + 1 ∧ ∀ j, j < (rkN fi le by_ he g k).1 → ∃ x, x < k + 1 ∧ (rkN fi le by_ he g k).2 j = fi x ∧ fi x ≠ -1 := by
      refine ⟨by omega, fun j h => ?_⟩
      obtain ⟨x, h1, h2⟩ := ih.2 j h
      exact ⟨x, by omega, h2⟩
    show (rkStep fi le by_ he k (rkN fi le by_ he g k)).1 ≤ k + 1 ∧ ∀ j, j < (rkStep fi le by_ he k (rkN fi le by_ he g k)).1 → ∃ x, x < k + 1 ∧ (rkStep fi le by_ he k (rkN fi le by_ he g k)).2 j = fi x ∧ fi x ≠ -1
    unfold rkStep
    split
    · exact h0
    · split
      · rename_i h1 h2
        exact ⟨Nat.succ_le_succ ih.1, insF_all (P := fun y => ∃ x, x < k + 1 ∧ y = fi x ∧ fi x ≠ -1) (bpos_le _ _) h0.2 ⟨k, by omega, rfl, h1⟩⟩
      · exact h0
theorem rkN_vin {fi le : Nat → Int32} {by_ he : Nat → Int64} {g : Nat → Int32} {k j : Nat} (hk : k ≤ 300) (hfi : ∀ j, j < 300 → fi j = -1 ∨ vp_in (fi j) 300) (hj : j < (rkN fi le by_ he g k).1) : vp_in ((rkN fi le by_ he g k).2 j) 300 := by
  obtain ⟨x, h1, h2, h3⟩ := (rkN_in fi le by_ he g k).2 j hj
  rw [h2]
  exact (hfi x (by omega)).resolve_left h3
/-- a function is put behind a row -/
def rAdd (z : Nat → Int32) (st : (Nat → Int32) × (Nat → Int64) × Nat × Int64) (f : Nat) : (Nat → Int32) × (Nat → Int64) × Nat × Int64 := (upd st.1 st.2.2.1 (nI f), vp_updL st.2.1 f st.2.2.2, st.2.2.1 + 1, st.2.2.2 + (z f).toInt64)
def rowL (z : Nat → Int32) (M : Nat → Int32) (B : Nat → Int64) (l : List Nat) : (Nat → Int32) × (Nat → Int64) × Nat × Int64 := l.foldl (rAdd z) (M, B, 0, 0)
theorem rAdd_n (z : Nat → Int32) : ∀ (l : List Nat) (st : (Nat → Int32) × (Nat → Int64) × Nat × Int64), (l.foldl (rAdd z) st).2.2.1 = st.2.2.1 + l.length
  | [], st => rfl
  | x :: l, st => by
    rw [List.foldl_cons, rAdd_n z l]
    show st.2.2.1 + 1 + l.length = st.2.2.1 + (l.length + 1)
    omega
theorem nI_m1 {x : Nat} (h : x < 2000000) : ¬ nI x = -1 := by
  intro h1
  have h2 := congrArg Int32.toInt h1
  rw [nI_toInt (by omega)] at h2
  have h3 : (-1 : Int32).toInt = -1 := by decide
  omega
