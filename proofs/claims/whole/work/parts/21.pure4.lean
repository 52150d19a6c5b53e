/-- the heats: the sum of all calls of a function -/
def hN (F T : Nat → Int32) (C : Nat → Int64) : Nat → (Nat → Int64)
  | 0 => fun _ => 0
  | k + 1 => vp_updL (hN F T C k) (T k).toNatClampNeg (hN F T C k (T k).toNatClampNeg + C k)
theorem hN_congr {F T F' T' : Nat → Int32} {C C' : Nat → Int64} : ∀ (k : Nat), (∀ i, i < k → T i = T' i ∧ C i = C' i) → hN F T C k = hN F' T' C' k
  | 0, _ => rfl
  | k + 1, h => by
    show vp_updL (hN F T C k) (T k).toNatClampNeg (hN F T C k (T k).toNatClampNeg + C k) = vp_updL (hN F' T' C' k) (T' k).toNatClampNeg (hN F' T' C' k (T' k).toNatClampNeg + C' k)
    rw [hN_congr k (fun i hi => h i (by omega)), (h k (by omega)).1, (h k (by omega)).2]
theorem l_shift (a b c d : Int64) : a + (b - c) + d = a + d + (b - c) := by
  apply Int64.toBitVec_inj.mp
  simp only [Int64.toBitVec_add, Int64.toBitVec_sub]
  rw [BitVec.add_assoc, BitVec.add_comm (_ - _), ← BitVec.add_assoc]
theorem l_swap (a b c : Int64) : a + c + (b - c) = a + b := by
  apply Int64.toBitVec_inj.mp
  simp only [Int64.toBitVec_add, Int64.toBitVec_sub]
  rw [BitVec.add_assoc, BitVec.add_comm _ (_ - _), BitVec.sub_add_cancel]
theorem hN_raise (F T : Nat → Int32) (C : Nat → Int64) (i : Nat) (y : Int64) : ∀ (k : Nat), i < k → vp_updL (hN F T C k) (T i).toNatClampNeg (hN F T C k (T i).toNatClampNeg + (y - C i)) = hN F T (vp_updL C i y) k
  | 0, h => absurd h (Nat.not_lt_zero _)
  | k + 1, h => by
    by_cases e : i = k
    · subst e
      have h1 : hN F T (vp_updL C i y) i = hN F T C i := hN_congr i (fun j hj => ⟨rfl, by unfold vp_updL; rw [if_neg (by omega)]⟩)
      show vp_updL (vp_updL (hN F T C i) (T i).toNatClampNeg (hN F T C i (T i).toNatClampNeg + C i)) (T i).toNatClampNeg (vp_updL (hN F T C i) (T i).toNatClampNeg (hN F T C i (T i).toNatClampNeg + C i) (T i).toNatClampNeg + (y - C i)) = vp_updL (hN F T (vp_updL C i y) i) (T i).toNatClampNeg (hN F T (vp_updL C i y) i (T i).toNatClampNeg + vp_updL C i y i)
      rw [h1]
      funext j
      unfold vp_updL
      by_cases hj : j = (T i).toNatClampNeg
      · simp only [hj, if_true]
        exact l_swap _ _ _
      · simp only [if_neg hj]
    · have ih := hN_raise F T C i y k (by omega)
      show vp_updL (vp_updL (hN F T C k) (T k).toNatClampNeg (hN F T C k (T k).toNatClampNeg + C k)) (T i).toNatClampNeg (vp_updL (hN F T C k) (T k).toNatClampNeg (hN F T C k (T k).toNatClampNeg + C k) (T i).toNatClampNeg + (y - C i)) = vp_updL (hN F T (vp_updL C i y) k) (T k).toNatClampNeg (hN F T (vp_updL C i y) k (T k).toNatClampNeg + vp_updL C i y k)
      rw [← ih]
      funext j
      unfold vp_updL
      rw [if_neg (show ¬ k = i by omega)]
      by_cases h1 : j = (T i).toNatClampNeg
      · subst h1
        by_cases h2 : (T i).toNatClampNeg = (T k).toNatClampNeg
        · simp only [h2, if_true]
          exact (l_shift _ _ _ _).symm
        · simp only [if_true, if_neg h2]
      · by_cases h2 : j = (T k).toNatClampNeg
        · subst h2
          simp only [if_neg h1, if_true]
        · simp only [if_neg h1, if_neg h2]
theorem hN_new {F T : Nat → Int32} {C : Nat → Int64} {u : Nat} {f g : Int32} : hN (upd F u f) (upd T u g) (vp_updL C u 0) (u + 1) = hN F T C u := by
  have h1 : hN (upd F u f) (upd T u g) (vp_updL C u 0) u = hN F T C u := hN_congr u (fun i hi => ⟨by unfold upd; rw [if_neg (by omega)], by unfold vp_updL; rw [if_neg (by omega)]⟩)
  show vp_updL (hN (upd F u f) (upd T u g) (vp_updL C u 0) u) (upd T u g u).toNatClampNeg (hN (upd F u f) (upd T u g) (vp_updL C u 0) u (upd T u g u).toNatClampNeg + vp_updL C u 0 u) = hN F T C u
  rw [h1]
  funext j
  unfold vp_updL
  split
  · rename_i h
    subst h
    simp
  · rfl
def isFI (n : Nat) (f : Int32) : Int32 := if f < 0 then 0 else if nI n ≤ f then 0 else 1
theorem isFI_in {n : Nat} {f : Int32} (hn : n ≤ 300) (h : ¬ isFI n f = 0) : ∃ k, k < n ∧ f = nI k := by
  unfold isFI at h
  by_cases h1 : f < 0
  · rw [if_pos h1] at h; exact absurd rfl h
  · rw [if_neg h1] at h
    by_cases h2 : nI n ≤ f
    · rw [if_pos h2] at h; exact absurd rfl h
    · obtain ⟨j, hj, he⟩ := nI_of h1
      subst he
      refine ⟨j, ?_, rfl⟩
      rw [nI_leI (by omega) hj] at h2
      omega
theorem isFI_k {n k : Nat} (hn : n ≤ 300) (h : k < n) : isFI n (nI k) = 1 := by
  unfold isFI
  rw [if_neg (nI_pos (by omega)), if_neg (nI_ge h (by omega))]
theorem isFI_v {n : Nat} {f : Int32} (hn : n ≤ 300) (h : ¬ isFI n f = 0) : vp_in f 300 := by
  obtain ⟨k, h1, h2⟩ := isFI_in hn h
  rw [h2]
  exact inn (by omega) (by omega)
theorem isFI_01 (n : Nat) (f : Int32) : isFI n f = 0 ∨ isFI n f = 1 := by
  unfold isFI
  split
  · exact Or.inl rfl
  · split
    · exact Or.inl rfl
    · exact Or.inr rfl
def hasI (n : Nat) (z : Nat → Int32) (f : Int32) : Int32 := if isFI n f = 0 then 0 else if z f.toNatClampNeg ≤ 0 then 0 else 1
-- what lay in the arrays before does not matter
theorem bpos_congr {p q : Nat → Bool} : ∀ (k : Nat), (∀ j, j < k → p j = q j) → bpos p k = bpos q k
  | 0, _ => rfl
  | k + 1, h => by
    unfold bpos
    rw [h k (by omega), bpos_congr k (fun j hj => h j (by omega))]
theorem insF_congr {g g' : Nat → Int32} {a cnt : Nat} {x : Int32} (ha : a ≤ cnt) (h : ∀ j, j < cnt → g j = g' j) : ∀ j, j < cnt + 1 → insF g a cnt x j = insF g' a cnt x j := by
  intro j hj
  unfold insF upd shf
  split
  · rfl
  · split
    · exact h _ (by omega)
    · exact h _ (by omega)
theorem obhN_lo (fi S F : Nat → Int32) (he : Nat → Int64) (g g' : Nat → Int32) : ∀ k, (obhN fi S F he g k).1 = (obhN fi S F he g' k).1 ∧ ∀ j, j < (obhN fi S F he g k).1 → (obhN fi S F he g k).2 j = (obhN fi S F he g' k).2 j := by
  intro k
  induction k with
  | zero => exact ⟨rfl, fun j h => absurd h (Nat.not_lt_zero j)⟩
  | succ k ih =>
    obtain ⟨h1, h2⟩ := ih
    show (obhStep fi S F he k (obhN fi S F he g k)).1 = (obhStep fi S F he k (obhN fi S F he g' k)).1 ∧ ∀ j, j < (obhStep fi S F he k (obhN fi S F he g k)).1 → (obhStep fi S F he k (obhN fi S F he g k)).2 j = (obhStep fi S F he k (obhN fi S F he g' k)).2 j
    unfold obhStep
    split
    · exact ⟨h1, h2⟩
    · split
      · exact ⟨h1, h2⟩
      · refine ⟨by rw [h1], ?_⟩
        have hb : bpos (fun j => decide (he ((obhN fi S F he g k).2 j).toNatClampNeg < he k)) (obhN fi S F he g k).1 = bpos (fun j => decide (he ((obhN fi S F he g' k).2 j).toNatClampNeg < he k)) (obhN fi S F he g' k).1 := by
          rw [← h1]
          exact bpos_congr _ (fun j hj => by rw [h2 j hj])
        intro j hj
        have := insF_congr (x := nI k) (bpos_le (fun j => decide (he ((obhN fi S F he g k).2 j).toNatClampNeg < he k)) (obhN fi S F he g k).1) h2 j hj
        exact this.trans (by rw [hb, h1])
theorem bLst_lo (z S F : Nat → Int32) (Hh : Nat → Int64) (lo : Nat → Int32) : bLst z S F Hh lo = bLst z S F Hh (fun _ => 0) := by
  unfold bLst
  obtain ⟨h1, h2⟩ := obhN_lo (bFi0 z) S F Hh lo (fun _ => 0) 300
  rw [← h1]
  apply List.map_congr_left
  intro j hj
  rw [List.mem_range] at hj
  rw [h2 j hj]
theorem rkN_lo (fi le : Nat → Int32) (by_ he : Nat → Int64) (g g' : Nat → Int32) : ∀ k, (rkN fi le by_ he g k).1 = (rkN fi le by_ he g' k).1 ∧ ∀ j, j < (rkN fi le by_ he g k).1 → (rkN fi le by_ he g k).2 j = (rkN fi le by_ he g' k).2 j := by
  intro k
  induction k with
  | zero => exact ⟨rfl, fun j h => absurd h (Nat.not_lt_zero j)⟩
  | succ k ih =>
    obtain ⟨h1, h2⟩ := ih
    show (rkStep fi le by_ he k (rkN fi le by_ he g k)).1 = (rkStep fi le by_ he k (rkN fi le by_ he g' k)).1 ∧ ∀ j, j < (rkStep fi le by_ he k (rkN fi le by_ he g k)).1 → (rkStep fi le by_ he k (rkN fi le by_ he g k)).2 j = (rkStep fi le by_ he k (rkN fi le by_ he g' k)).2 j
    unfold rkStep
    split
    · exact ⟨h1, h2⟩
    · split
      · refine ⟨by rw [h1], ?_⟩
        have hb : bpos (fun j => !decide (densI (by_ (fi k).toNatClampNeg) (by_ ((rkN fi le by_ he g k).2 j).toNatClampNeg) (he (fi k).toNatClampNeg) (he ((rkN fi le by_ he g k).2 j).toNatClampNeg) = 0)) (rkN fi le by_ he g k).1 = bpos (fun j => !decide (densI (by_ (fi k).toNatClampNeg) (by_ ((rkN fi le by_ he g' k).2 j).toNatClampNeg) (he (fi k).toNatClampNeg) (he ((rkN fi le by_ he g' k).2 j).toNatClampNeg) = 0)) (rkN fi le by_ he g' k).1 := by
          rw [← h1]
          exact bpos_congr _ (fun j hj => by rw [h2 j hj])
        intro j hj
        have := insF_congr (x := fi k) (bpos_le (fun j => !decide (densI (by_ (fi k).toNatClampNeg) (by_ ((rkN fi le by_ he g k).2 j).toNatClampNeg) (he (fi k).toNatClampNeg) (he ((rkN fi le by_ he g k).2 j).toNatClampNeg) = 0)) (rkN fi le by_ he g k).1) h2 j hj
        exact this.trans (by rw [hb, h1])
      · exact ⟨h1, h2⟩
theorem rLst_lo (X : CS) (rk : Nat → Int32) : rLst X rk = rLst X (fun _ => 0) := by
  unfold rLst
  obtain ⟨h1, h2⟩ := rkN_lo (cFi X) (cLe X) (cBy X) (cHe X) rk (fun _ => 0) 300
  rw [← h1]
  apply List.map_congr_left
  intro j hj
  rw [List.mem_range] at hj
  rw [h2 j hj]
theorem rAdd_B (z : Nat → Int32) : ∀ (l : List Nat) (x y : (Nat → Int32) × (Nat → Int64) × Nat × Int64), x.2 = y.2 → (l.foldl (rAdd z) x).2 = (l.foldl (rAdd z) y).2
  | [], _, _, h => h
  | f :: l, x, y, h => by
    rw [List.foldl_cons, List.foldl_cons]
    refine rAdd_B z l _ _ ?_
    unfold rAdd
    rw [h]
theorem rAdd_M (z : Nat → Int32) : ∀ (l : List Nat) (x : (Nat → Int32) × (Nat → Int64) × Nat × Int64), (∀ j, j < x.2.2.1 → (l.foldl (rAdd z) x).1 j = x.1 j) ∧ ∀ j (h : j < l.length), (l.foldl (rAdd z) x).1 (x.2.2.1 + j) = nI l[j]
  | [], x => ⟨fun _ _ => rfl, fun j h => absurd h (Nat.not_lt_zero j)⟩
  | f :: l, x => by
    obtain ⟨h1, h2⟩ := rAdd_M z l (rAdd z x f)
    rw [List.foldl_cons]
    have hn : (rAdd z x f).2.2.1 = x.2.2.1 + 1 := rfl
    rw [hn] at h1 h2
    constructor
    · intro j hj
      rw [h1 j (by omega)]
      show upd x.1 x.2.2.1 (nI f) j = x.1 j
      unfold upd
      rw [if_neg (by omega)]
    · intro j hj
      cases j with
      | zero =>
        rw [h1 _ (by omega)]
        show upd x.1 x.2.2.1 (nI f) x.2.2.1 = nI f
        unfold upd
        rw [if_pos rfl]
      | succ j =>
        rw [List.length_cons] at hj
        have := h2 j (by omega)
        rw [show x.2.2.1 + (j + 1) = x.2.2.1 + 1 + j by omega, this]
        rfl
theorem rowL_M (z M : Nat → Int32) (B : Nat → Int64) (l : List Nat) (j : Nat) (h : j < l.length) : (rowL z M B l).1 j = nI l[j] := by
  have h1 := (rAdd_M z l (M, B, 0, 0)).2 j h
  have h2 : (M, B, 0, (0 : Int64)).2.2.1 + j = j := Nat.zero_add j
  rw [h2] at h1
  exact h1
theorem rowL_B (z M M' : Nat → Int32) (B : Nat → Int64) (l : List Nat) : (rowL z M B l).2 = (rowL z M' B l).2 := rAdd_B z l (M, B, 0, 0) (M', B, 0, 0) rfl
theorem rowL_n (z M : Nat → Int32) (B : Nat → Int64) (l : List Nat) : (rowL z M B l).2.2.1 = l.length := (rAdd_n z l (M, B, 0, 0)).trans (Nat.zero_add _)
/-- what follows from what was told -/
def sX (P : Int32) (z F T : Nat → Int32) (C : Nat → Int64) (u : Nat) : CS := bldX P z (fcN F T C z u) F (hN F T C u) (fun _ => 0)
def sW (P : Int32) (z F T : Nat → Int32) (C : Nat → Int64) (u : Nat) : List Nat := wLst (sX P z F T C u) (fun _ => 0)
def rowB (z : Nat → Int32) (l : List Nat) : Nat → Int64 := (rowL z (fun _ => 0) (fun _ => -1) l).2.1
/-- the derived arrays of the class, where nothing is stale -/
def DerC (n : Nat) (P : Int32) (z F T : Nat → Int32) (C : Nat → Int64) (u : Nat) (S fi : Nat → Int32) (rc : Int32) (M : Nat → Int32) (B : Nat → Int64) (pu : Int32) (B2 : Nat → Int64) : Prop :=
  S = fcN F T C z u ∧ fi = cFi (sX P z F T C u) ∧ rc = nI (rLst (sX P z F T C u) (fun _ => 0)).length ∧ pu = nI (sW P z F T C u).length ∧ (∀ j (h : j < (sW P z F T C u).length), M j = nI (sW P z F T C u)[j]) ∧ B = rowB z (sW P z F T C u) ∧ B2 = rowB z (nLst z n)
theorem DerC.made (n : Nat) (P : Int32) (z F T : Nat → Int32) (C : Nat → Int64) (u : Nat) (lo rk M M2 : Nat → Int32) (X : CS) (hX : X = bldX P z (fcN F T C z u) F (hN F T C u) lo) :
    DerC n P z F T C u (fcN F T C z u) (cFi X) (nI (rkN (cFi X) (cLe X) (cBy X) (cHe X) rk 300).1) (rowL z M (fun _ => -1) (wLst X rk)).1 (rowL z M (fun _ => -1) (wLst X rk)).2.1 (nI (rowL z M (fun _ => -1) (wLst X rk)).2.2.1) (rowL z M2 (fun _ => -1) (nLst z n)).2.1 := by
  have h1 : X = sX P z F T C u := by
    rw [hX]
    unfold sX bldX
    rw [bLst_lo]
  have h2 : wLst X rk = sW P z F T C u := by
    unfold sW wLst
    rw [← h1, rLst_lo]
  refine ⟨rfl, by rw [h1], ?_, by rw [rowL_n, h2], ?_, ?_, ?_⟩
  · rw [← rLst_len, ← h1, rLst_lo]
  · rw [h2]
    generalize sW P z F T C u = l
    exact fun j hj => rowL_M z M _ l j hj
  · rw [h2]
    generalize sW P z F T C u = l
    exact congrArg (fun y => y.1) (rowL_B z M (fun _ => 0) (fun _ => -1) l)
  · generalize nLst z n = l
    exact congrArg (fun y => y.1) (rowL_B z M2 (fun _ => 0) (fun _ => -1) l)
