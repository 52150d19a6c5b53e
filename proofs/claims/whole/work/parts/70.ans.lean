theorem caller_eq {n : Nat} {z F T : Nat → Int32} {C : Nat → Int64} {u : Nat} (K : KInv n z F T C u) (f : Int32) : callerA n z F T C u f = if hasI n z f = 0 then -1 else (bmN F T C z u).2 f.toNatClampNeg := by
  unfold callerA
  rw [bm_cof K]
theorem cluster_eq {n : Nat} {P : Int32} {z F T : Nat → Int32} {C : Nat → Int64} {u : Nat} (K : KInv n z F T C u) (f : Int32) : clusterA n P z F T C u f = if isFI n f = 0 then -1 else cFi (sX P z F T C u) f.toNatClampNeg := by
  have I : CInv z (sX P z F T C u) := sX_inv K.2.2.2.2.1 K.F3
  have hn := K.2.1
  unfold clusterA hasI
  by_cases h1 : isFI n f = 0
  · rw [if_pos h1, if_pos h1, if_pos rfl]
  · rw [if_neg h1, if_neg h1]
    obtain ⟨k, k1, k2⟩ := isFI_in hn h1
    have hk : f.toNatClampNeg = k := by rw [k2]; exact ix_n (by omega)
    rw [hk]
    by_cases h2 : z k ≤ 0
    · rw [if_pos h2, if_pos rfl, (I.1 k (by omega)).mpr h2]
    · rw [if_neg h2, if_neg (by decide)]
theorem rAdd_at (z : Nat → Int32) (f : Nat) : ∀ (l : List Nat) (x y : (Nat → Int32) × (Nat → Int64) × Nat × Int64), x.2.2 = y.2.2 → (x.2.1 f = y.2.1 f ∨ f ∈ l) → (l.foldl (rAdd z) x).2.1 f = (l.foldl (rAdd z) y).2.1 f := by
  intro l
  induction l with
  | nil =>
    intro x y _ h
    rcases h with h | h
    · exact h
    · exact absurd h List.not_mem_nil
  | cons g l ih =>
    intro x y e h
    rw [List.foldl_cons, List.foldl_cons]
    refine ih _ _ ?_ ?_
    · show (x.2.2.1 + 1, x.2.2.2 + (z g).toInt64) = (y.2.2.1 + 1, y.2.2.2 + (z g).toInt64)
      rw [e]
    · show vp_updL x.2.1 g x.2.2.2 f = vp_updL y.2.1 g y.2.2.2 f ∨ f ∈ l
      unfold vp_updL
      by_cases h1 : f = g
      · rw [if_pos h1, if_pos h1, e]; exact Or.inl rfl
      · rw [if_neg h1, if_neg h1]
        rcases h with h | h
        · exact Or.inl h
        · exact Or.inr ((List.mem_cons.mp h).resolve_left h1)
theorem rAdd_out (z : Nat → Int32) (f : Nat) : ∀ (l : List Nat) (x : (Nat → Int32) × (Nat → Int64) × Nat × Int64), f ∉ l → (l.foldl (rAdd z) x).2.1 f = x.2.1 f := by
  intro l
  induction l with
  | nil => intro x _; rfl
  | cons g l ih =>
    intro x h
    rw [List.foldl_cons, ih _ (fun h1 => h (List.mem_cons_of_mem _ h1))]
    show vp_updL x.2.1 g x.2.2.2 f = x.2.1 f
    unfold vp_updL
    rw [if_neg (fun e => h (by rw [e]; exact List.mem_cons_self))]
theorem rowB_any (z : Nat → Int32) (bg0 : Nat → Int64) {f : Nat} {l : List Nat} (h : f ∈ l) : (rowL z (fun _ => 0) bg0 l).2.1 f = rowB z l f := rAdd_at z f l (fun _ => 0, bg0, 0, 0) (fun _ => 0, fun _ => -1, 0, 0) rfl (Or.inr h)
theorem rowB_out (z : Nat → Int32) {f : Nat} {l : List Nat} (h : f ∉ l) : rowB z l f = -1 := rAdd_out z f l (fun _ => 0, fun _ => -1, 0, 0) h
/-- where a member begins is a number that nothing wraps -/
theorem rAdd_bd (z : Nat → Int32) (f : Nat) : ∀ (l : List Nat) (x : (Nat → Int32) × (Nat → Int64) × Nat × Int64), (∀ m, m ∈ l → 0 ≤ (z m).toInt ∧ (z m).toInt ≤ 1000000) → 0 ≤ x.2.2.2.toInt → x.2.2.2.toInt + (l.length : Int) * 1000000 ≤ 1000000000 → (f ∈ l ∨ (0 ≤ (x.2.1 f).toInt ∧ (x.2.1 f).toInt ≤ 1000000000)) → 0 ≤ ((l.foldl (rAdd z) x).2.1 f).toInt ∧ ((l.foldl (rAdd z) x).2.1 f).toInt ≤ 1000000000 := by
  intro l
  induction l with
  | nil =>
    intro x _ _ _ h
    rcases h with h | h
    · exact absurd h List.not_mem_nil
    · exact h
  | cons g l ih =>
    intro x hz h0 h1 h
    have hg := hz g List.mem_cons_self
    rw [List.length_cons] at h1
    have he : (x.2.2.2 + (z g).toInt64).toInt = x.2.2.2.toInt + (z g).toInt := by
      rw [l_add (by rw [i2l]; omega) (by rw [i2l]; omega), i2l]
    rw [List.foldl_cons]
    refine ih _ (fun m hm => hz m (List.mem_cons_of_mem _ hm)) ?_ ?_ ?_
    · show 0 ≤ (x.2.2.2 + (z g).toInt64).toInt
      rw [he]; omega
    · show (x.2.2.2 + (z g).toInt64).toInt + (l.length : Int) * 1000000 ≤ 1000000000
      rw [he]; omega
    · show f ∈ l ∨ (0 ≤ (vp_updL x.2.1 g x.2.2.2 f).toInt ∧ (vp_updL x.2.1 g x.2.2.2 f).toInt ≤ 1000000000)
      unfold vp_updL
      by_cases e : f = g
      · rw [if_pos e]
        exact Or.inr ⟨h0, by omega⟩
      · rw [if_neg e]
        rcases h with h | h
        · exact Or.inl ((List.mem_cons.mp h).resolve_left e)
        · exact Or.inr h
theorem rowB_bd {z : Nat → Int32} {f : Nat} {l : List Nat} (hl : l.length ≤ 300) (hz : ∀ m, m ∈ l → 0 ≤ (z m).toInt ∧ (z m).toInt ≤ 1000000) (h : f ∈ l) : 0 ≤ (rowB z l f).toInt ∧ (rowB z l f).toInt ≤ 1000000000 := rAdd_bd z f l (fun _ => 0, fun _ => -1, 0, 0) hz (by decide) (by show (0 : Int64).toInt + _ ≤ _; have : (0 : Int64).toInt = 0 := rfl; omega) (Or.inl h)
theorem sW_mem {n : Nat} {P : Int32} {z F T : Nat → Int32} {C : Nat → Int64} {u : Nat} (K : KInv n z F T C u) {f : Nat} (hf : f < 300) : f ∈ sW P z F T C u ↔ ¬ z f ≤ 0 := by
  have G := sX_good (P := P) K
  rw [← sW_eq, List.mem_flatMap]
  constructor
  · rintro ⟨h, h1, h2⟩ hz
    obtain ⟨a1, a2⟩ := (rLst_mem G _ h).mp h1
    have := ((G.1.2.2 h a1 a2).2.2.1 f h2).2
    rw [(G.1.1 f hf).mpr hz] at this
    exact nI_m1 (by omega) this.symm
  · intro hz
    obtain ⟨h, a1, a2, a3, a4⟩ := G.1.2.1 f hf hz
    exact ⟨h, (rLst_mem G _ h).mpr ⟨a1, a3⟩, a4⟩
theorem begin_eq {n : Nat} {P : Int32} {z F T : Nat → Int32} {C : Nat → Int64} {u : Nat} (K : KInv n z F T C u) (f : Int32) (bg0 : Nat → Int64) : beginA n P z F T C u f = if hasI n z f = 0 then -1 else (rowL z (fun _ => 0) bg0 (sW P z F T C u)).2.1 f.toNatClampNeg := by
  unfold beginA
  by_cases h : hasI n z f = 0
  · rw [if_pos h, if_pos h]
  · rw [if_neg h, if_neg h]
    have hn := K.2.1
    have hz : ¬ z f.toNatClampNeg ≤ 0 ∧ f.toNatClampNeg < 300 := by
      unfold hasI at h
      by_cases h1 : isFI n f = 0
      · rw [if_pos h1] at h; exact absurd rfl h
      · rw [if_neg h1] at h
        obtain ⟨k, k1, k2⟩ := isFI_in hn h1
        by_cases h2 : z f.toNatClampNeg ≤ 0
        · rw [if_pos h2] at h; exact absurd rfl h
        · exact ⟨h2, by rw [k2, ix_n (by omega)]; omega⟩
    exact (rowB_any z bg0 ((sW_mem K hz.2).mpr hz.1)).symm
theorem abs_eq {a b : Int64} (ha : 0 ≤ a.toInt ∧ a.toInt ≤ 1000000000) (hb : 0 ≤ b.toInt ∧ b.toInt ≤ 1000000000) : (if 0 < a - b then a - b else -(a - b)) = if a < b then b - a else a - b := by
  have hs : (a - b).toInt = a.toInt - b.toInt := by
    rw [Int64.toInt_sub]
    unfold Int.bmod
    simp only
    split <;> omega
  have hn : -(a - b) = b - a := Int64.neg_sub
  by_cases h1 : a < b
  · have h2 : ¬ 0 < a - b := by
      rw [Int64.lt_iff_toInt_lt] at h1 ⊢
      show ¬ 0 < (a - b).toInt
      omega
    rw [if_pos h1, if_neg h2, hn]
  · rw [if_neg h1]
    by_cases h2 : 0 < a - b
    · rw [if_pos h2]
    · rw [if_neg h2, hn]
      have e : a = b := by
        apply Int64.toInt_inj.mp
        rw [Int64.lt_iff_toInt_lt] at h1 h2
        have h2 : ¬ 0 < (a - b).toInt := h2
        omega
      rw [e]
theorem neg1 : (-1 : Int64).toInt = -1 := by decide
/-- two costs, term by term -/
theorem cost_terms {F T : Nat → Int32} {C : Nat → Int64} {z : Nat → Int32} {B pos : Nat → Int64} : ∀ u, (∀ i, i < u → ∃ a b, F i = nI a ∧ T i = nI b ∧ a < 300 ∧ b < 300) → (∀ a, a < 300 → z a = 0 → B a = -1) → (∀ a, a < 300 → ¬ z a = 0 → B a = pos a ∧ 0 ≤ (B a).toInt ∧ (B a).toInt ≤ 1000000000) → costN F T C B u = costM F T C z pos u := by
  intro u
  induction u with
  | zero => intro _ _ _; rfl
  | succ k ih =>
    intro hFT h0 h1
    show costT (C k) (B (F k).toNatClampNeg) (B (T k).toNatClampNeg) (costN F T C B k) = costMT (C k) (pos (F k).toNatClampNeg) (pos (T k).toNatClampNeg) (z (F k).toNatClampNeg) (z (T k).toNatClampNeg) (costM F T C z pos k)
    rw [ih (fun i hi => hFT i (by omega)) h0 h1]
    obtain ⟨a, b, e1, e2, a3, b3⟩ := hFT k (by omega)
    rw [e1, e2, ix_n (by omega), ix_n (by omega)]
    unfold costT costMT
    by_cases za : z a = 0
    · rw [if_pos za, h0 a a3 za, if_pos rfl]
    · obtain ⟨p1, p2, p3⟩ := h1 a a3 za
      have na : ¬ B a = -1 := fun e => by rw [e, neg1] at p2; omega
      rw [if_neg za, if_neg na]
      by_cases zb : z b = 0
      · rw [if_pos zb, h0 b b3 zb, if_pos rfl]
      · obtain ⟨q1, q2, q3⟩ := h1 b b3 zb
        have nb : ¬ B b = -1 := fun e => by rw [e, neg1] at q2; omega
        rw [if_neg zb, if_neg nb, ← p1, ← q1, abs_eq ⟨p2, p3⟩ ⟨q2, q3⟩]
theorem nLst_bef {z : Nat → Int32} : ∀ k, k ≤ 300 → (∀ j, j < 300 → 0 ≤ (z j).toInt ∧ (z j).toInt ≤ 1000000) → (rowL z (fun _ => 0) (fun _ => -1) (nLst z k)).2.2.2 = befN z k ∧ ∀ f, f < k → ¬ z f = 0 → rowB z (nLst z k) f = befN z f := by
  intro k
  induction k with
  | zero => intro _ _; exact ⟨rfl, fun f h => absurd h (Nat.not_lt_zero f)⟩
  | succ k ih =>
    intro hk hz
    obtain ⟨i1, i2⟩ := ih (by omega) hz
    have hzk := hz k (by omega)
    by_cases h : 0 < z k
    · have e : nLst z (k + 1) = nLst z k ++ [k] := by rw [nLst_s, if_pos h]
      have e2 : rowL z (fun _ => 0) (fun _ => -1) (nLst z (k + 1)) = rAdd z (rowL z (fun _ => 0) (fun _ => -1) (nLst z k)) k := by
        rw [e]
        unfold rowL
        rw [List.foldl_append, List.foldl_cons, List.foldl_nil]
      unfold rowB
      rw [e2]
      refine ⟨?_, fun f hf hzf => ?_⟩
      · show (rowL z (fun _ => 0) (fun _ => -1) (nLst z k)).2.2.2 + (z k).toInt64 = befN z k + (z k).toInt64
        rw [i1]
      · show vp_updL (rowL z (fun _ => 0) (fun _ => -1) (nLst z k)).2.1 k (rowL z (fun _ => 0) (fun _ => -1) (nLst z k)).2.2.2 f = befN z f
        unfold vp_updL
        by_cases e3 : f = k
        · rw [if_pos e3, e3, i1]
        · rw [if_neg e3]
          exact i2 f (by omega) hzf
    · have e : nLst z (k + 1) = nLst z k := by rw [nLst_s, if_neg h]
      have hz0 : z k = 0 := by
        apply Int32.toInt_inj.mp
        rw [Int32.lt_iff_toInt_lt] at h
        have h : ¬ 0 < (z k).toInt := h
        show (z k).toInt = 0
        omega
      rw [e]
      refine ⟨?_, fun f hf hzf => ?_⟩
      · rw [i1]
        show befN z k = befN z k + (z k).toInt64
        rw [hz0]
        show befN z k = befN z k + 0
        simp
      · by_cases e3 : f = k
        · subst e3; exact absurd hz0 hzf
        · exact i2 f (by omega) hzf
theorem nLst_mem (z : Nat → Int32) (n f : Nat) : f ∈ nLst z n ↔ f < n ∧ 0 < z f := by
  unfold nLst
  rw [List.mem_filter, List.mem_range, decide_eq_true_iff]
theorem cost_eq {n : Nat} {P : Int32} {z F T : Nat → Int32} {C : Nat → Int64} {u : Nat} (K : KInv n z F T C u) (k : Int32) (bg0 : Nat → Int64) : costA n P z F T C u k = if k < 0 ∨ 1 < k then -1 else if k = 0 then costM F T C z (rowL z (fun _ => 0) bg0 (sW P z F T C u)).2.1 u else costM F T C z (befN z) u := by
  obtain ⟨hn1, hn, hz, hzn, hu, hF, hT, -, -⟩ := id K
  have hFT : ∀ i, i < u → ∃ a b, F i = nI a ∧ T i = nI b ∧ a < 300 ∧ b < 300 := by
    intro i hi
    obtain ⟨a, a1, a2⟩ := hF i hi
    obtain ⟨b, b1, b2⟩ := hT i hi
    exact ⟨a, b, a2, b2, by omega, by omega⟩
  unfold costA
  by_cases h0 : k = 0
  · subst h0
    rw [if_pos rfl, if_neg (by decide), if_pos rfl]
    refine cost_terms u hFT (fun a ha hza => ?_) (fun a ha hza => ?_)
    · exact rowB_out z (fun hm => ((sW_mem K ha).mp hm) ((K.z0 ha).mpr hza))
    · have hm : a ∈ sW P z F T C u := (sW_mem K ha).mpr (fun e => hza ((K.z0 ha).mp e))
      have hl := sW_len (P := P) (z := z) (T := T) (C := C) hu K.F3
      have hin : ∀ m, m ∈ sW P z F T C u → 0 ≤ (z m).toInt ∧ (z m).toInt ≤ 1000000 := fun m hm => hz m ((wLst_in (sX_inv hu K.F3)).2 m hm)
      refine ⟨(rowB_any z bg0 hm).symm, ?_⟩
      generalize sW P z F T C u = l at hm hl hin ⊢
      exact rowB_bd hl hin hm
  · rw [if_neg h0]
    by_cases h1 : k = 1
    · subst h1
      rw [if_pos rfl, if_neg (by decide), if_neg (by decide)]
      have hb := nLst_bef n hn hz
      refine cost_terms u hFT (fun a ha hza => ?_) (fun a ha hza => ?_)
      · refine rowB_out z (fun hm => ?_)
        have := ((nLst_mem z n a).mp hm).2
        rw [hza] at this
        exact absurd this (by decide)
      · have hp : 0 < z a := Int32.not_le.mp (fun e => hza ((K.z0 ha).mp e))
        have han : a < n := K.hz a ha (Int32.not_le.mpr hp)
        have hm : a ∈ nLst z n := (nLst_mem z n a).mpr ⟨han, hp⟩
        have hl : (nLst z n).length ≤ 300 := Nat.le_trans (nLst_len z n) hn
        exact ⟨hb.2 a han hza, rowB_bd hl (fun m hm => hz m (by have := ((nLst_mem z n m).mp hm).1; omega)) hm⟩
    · rw [if_neg h1]
      have h2 : k < 0 ∨ 1 < k := by
        have e0 : k.toInt ≠ 0 := fun e => h0 (Int32.toInt_inj.mp e)
        have e1 : k.toInt ≠ 1 := fun e => h1 (Int32.toInt_inj.mp e)
        rw [Int32.lt_iff_toInt_lt, Int32.lt_iff_toInt_lt]
        show k.toInt < 0 ∨ 1 < k.toInt
        omega
      rw [if_pos h2]
