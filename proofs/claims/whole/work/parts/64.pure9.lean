theorem sorted_eq {r : Nat → Nat → Prop} (as : ∀ a b, r a b → ¬ r b a) : ∀ {l l' : List Nat}, l.Pairwise r → l'.Pairwise r → (∀ x, x ∈ l ↔ x ∈ l') → l = l'
  | [], [], _, _, _ => rfl
  | [], b :: l', _, _, h => absurd ((h b).mpr List.mem_cons_self) List.not_mem_nil
  | a :: l, [], _, _, h => absurd ((h a).mp List.mem_cons_self) List.not_mem_nil
  | a :: l, b :: l', h1, h2, h => by
    rw [List.pairwise_cons] at h1 h2
    have ir : ∀ x, ¬ r x x := fun x hx => as x x hx hx
    have e : a = b := by
      rcases List.mem_cons.mp ((h a).mp List.mem_cons_self) with e | e
      · exact e
      · rcases List.mem_cons.mp ((h b).mpr List.mem_cons_self) with e2 | e2
        · exact e2.symm
        · exact absurd (h1.1 b e2) (as b a (h2.1 a e))
    subst e
    have ht : ∀ x, x ∈ l ↔ x ∈ l' := by
      intro x
      constructor
      · intro hx
        rcases List.mem_cons.mp ((h x).mp (List.mem_cons_of_mem _ hx)) with e | e
        · subst e; exact absurd (h1.1 x hx) (ir x)
        · exact e
      · intro hx
        rcases List.mem_cons.mp ((h x).mpr (List.mem_cons_of_mem _ hx)) with e | e
        · subst e; exact absurd (h2.1 x hx) (ir x)
        · exact e
    rw [sorted_eq as h1.2 h2.2 ht]
theorem bpos_hi (p : Nat → Bool) : ∀ k j, bpos p k ≤ j → j < k → p j = true
  | 0, j, _, h => absurd h (Nat.not_lt_zero j)
  | k + 1, j, h1, h2 => by
    unfold bpos at h1
    split at h1
    · rename_i hp
      by_cases e : j = k
      · subst e; exact hp
      · exact bpos_hi p k j h1 (by omega)
    · omega
theorem bpos_lo (p : Nat → Bool) : ∀ k, bpos p k = 0 ∨ p (bpos p k - 1) = false
  | 0 => Or.inl rfl
  | k + 1 => by
    unfold bpos
    split
    · exact bpos_lo p k
    · rename_i hp
      exact Or.inr (by rw [Nat.add_sub_cancel]; simpa using hp)
theorem insF_at {g : Nat → Int32} {a cnt : Nat} {x : Int32} {j : Nat} (hj : j ≤ cnt) : insF g a cnt x j = if j = a then x else if a < j then g (j - 1) else g j := by
  unfold insF upd shf
  by_cases h1 : j = a
  · rw [if_pos h1, if_pos h1]
  · rw [if_neg h1, if_neg h1]
    by_cases h2 : a < j
    · rw [if_pos h2, if_pos ⟨h2, hj⟩]
    · rw [if_neg h2, if_neg (fun h => h2 h.1)]
theorem insF_pw {g : Nat → Int32} {a cnt : Nat} {x : Int32} {r : Int32 → Int32 → Prop} (ha : a ≤ cnt) (h0 : ∀ i j, i < j → j < cnt → r (g i) (g j)) (h1 : ∀ j, j < a → r (g j) x) (h2 : ∀ j, a ≤ j → j < cnt → r x (g j)) : ∀ i j, i < j → j < cnt + 1 → r (insF g a cnt x i) (insF g a cnt x j) := by
  intro i j hij hj
  rw [insF_at (by omega), insF_at (by omega)]
  by_cases e1 : i = a
  · rw [if_pos e1, if_neg (by omega), if_pos (by omega)]
    exact h2 _ (by omega) (by omega)
  · by_cases e2 : j = a
    · rw [if_neg e1, if_neg (by omega), if_pos e2]
      exact h1 _ (by omega)
    · rw [if_neg e1, if_neg e2]
      by_cases e3 : a < i
      · rw [if_pos e3, if_pos (by omega)]
        exact h0 _ _ (by omega) (by omega)
      · rw [if_neg e3]
        by_cases e4 : a < j
        · rw [if_pos e4]
          exact h0 _ _ (by omega) (by omega)
        · rw [if_neg e4]
          exact h0 _ _ hij (by omega)
theorem insF_mem {g : Nat → Int32} {a cnt : Nat} {x : Int32} (ha : a ≤ cnt) (y : Int32) : (∃ j, j < cnt + 1 ∧ insF g a cnt x j = y) ↔ y = x ∨ ∃ j, j < cnt ∧ g j = y := by
  constructor
  · rintro ⟨j, hj, e⟩
    rw [insF_at (by omega)] at e
    by_cases e1 : j = a
    · rw [if_pos e1] at e; exact Or.inl e.symm
    · rw [if_neg e1] at e
      by_cases e2 : a < j
      · rw [if_pos e2] at e; exact Or.inr ⟨j - 1, by omega, e⟩
      · rw [if_neg e2] at e; exact Or.inr ⟨j, by omega, e⟩
  · rintro (e | ⟨j, hj, e⟩)
    · exact ⟨a, by omega, by rw [insF_at ha, if_pos rfl, e]⟩
    · by_cases e1 : j < a
      · exact ⟨j, by omega, by rw [insF_at (by omega), if_neg (by omega), if_neg (by omega), e]⟩
      · exact ⟨j + 1, by omega, by rw [insF_at (by omega), if_neg (by omega), if_pos (by omega), Nat.add_sub_cancel, e]⟩
/-- hotter, or as hot and before -/
def hlt (h : Nat → Int64) (a b : Nat) : Prop := (h b).toInt < (h a).toInt ∨ ((h a).toInt = (h b).toInt ∧ a < b)
theorem hlt_as (h : Nat → Int64) (a b : Nat) : hlt h a b → ¬ hlt h b a := by
  unfold hlt
  omega
theorem hlt_tr (h : Nat → Int64) {a b c : Nat} : hlt h a b → hlt h b c → hlt h a c := by
  unfold hlt
  omega
def aLst (st : Nat × (Nat → Int32)) : List Nat := (List.range st.1).map (fun j => (st.2 j).toNatClampNeg)
theorem obh_sorted (fi S F : Nat → Int32) (he : Nat → Int64) (g : Nat → Int32) : ∀ k, k ≤ 300 → ∀ i j, i < j → j < (obhN fi S F he g k).1 → hlt he ((obhN fi S F he g k).2 i).toNatClampNeg ((obhN fi S F he g k).2 j).toNatClampNeg := by
  intro k
  induction k with
  | zero => intro _ i j _ h; exact absurd h (Nat.not_lt_zero j)
  | succ k ih =>
    intro hk
    have ih := ih (by omega)
    have hin := obhN_in fi S F he g k
    show ∀ i j, i < j → j < (obhStep fi S F he k (obhN fi S F he g k)).1 → hlt he ((obhStep fi S F he k (obhN fi S F he g k)).2 i).toNatClampNeg ((obhStep fi S F he k (obhN fi S F he g k)).2 j).toNatClampNeg
    unfold obhStep
    split
    · exact ih
    · split
      · exact ih
      · generalize obhN fi S F he g k = st at ih hin ⊢
        obtain ⟨cnt, g'⟩ := st
        have hlt_k : ∀ j, j < cnt → (g' j).toNatClampNeg < k := by
          intro j hj
          obtain ⟨x, x1, x2, -⟩ := hin.2 j hj
          have x2 : g' j = nI x := x2
          rw [x2, ix_n (by omega)]
          exact x1
        have hkk : (nI k).toNatClampNeg = k := ix_n (by omega)
        refine insF_pw (r := fun a b => hlt he a.toNatClampNeg b.toNatClampNeg) (bpos_le _ _) ih ?_ ?_
        · intro j hj
          have hj' : j < bpos (fun j => decide (he (g' j).toNatClampNeg < he k)) cnt := hj
          have hle := bpos_le (fun j => decide (he (g' j).toNatClampNeg < he k)) cnt
          rcases bpos_lo (fun j => decide (he (g' j).toNatClampNeg < he k)) cnt with h0 | h0
          · omega
          · generalize bpos (fun j => decide (he (g' j).toNatClampNeg < he k)) cnt = a at hj' hle h0
            have h1 : ¬ he (g' (a - 1)).toNatClampNeg < he k := by simpa using h0
            rw [Int64.lt_iff_toInt_lt] at h1
            have h3 := hlt_k j (by omega)
            show hlt he (g' j).toNatClampNeg (nI k).toNatClampNeg
            rw [hkk]
            by_cases e : j = a - 1
            · subst e
              unfold hlt
              omega
            · have h2 : hlt he (g' j).toNatClampNeg (g' (a - 1)).toNatClampNeg := ih j (a - 1) (by omega) (by show a - 1 < cnt; omega)
              unfold hlt at h2 ⊢
              omega
        · intro j h1 h2
          have := bpos_hi (fun j => decide (he (g' j).toNatClampNeg < he k)) cnt j h1 h2
          have h3 : he (g' j).toNatClampNeg < he k := by simpa using this
          rw [Int64.lt_iff_toInt_lt] at h3
          show hlt he (nI k).toNatClampNeg (g' j).toNatClampNeg
          rw [hkk]
          exact Or.inl h3
theorem obh_mem (fi S F : Nat → Int32) (he : Nat → Int64) (g : Nat → Int32) : ∀ k, k ≤ 300 → ∀ y, (∃ j, j < (obhN fi S F he g k).1 ∧ (obhN fi S F he g k).2 j = y) ↔ ∃ x, x < k ∧ y = nI x ∧ fi x ≠ -1 ∧ cof S F x ≠ -1 := by
  intro k
  induction k with
  | zero => intro _ y; exact ⟨fun ⟨j, h, _⟩ => absurd h (Nat.not_lt_zero j), fun ⟨j, h, _⟩ => absurd h (Nat.not_lt_zero j)⟩
  | succ k ih =>
    intro hk y
    have ih := ih (by omega)
    show (∃ j, j < (obhStep fi S F he k (obhN fi S F he g k)).1 ∧ (obhStep fi S F he k (obhN fi S F he g k)).2 j = y) ↔ _
    have sk : (fi k = -1 ∨ cof S F k = -1) → ((∃ x, x < k ∧ y = nI x ∧ fi x ≠ -1 ∧ cof S F x ≠ -1) ↔ ∃ x, x < k + 1 ∧ y = nI x ∧ fi x ≠ -1 ∧ cof S F x ≠ -1) := by
      intro hc
      constructor
      · rintro ⟨x, h1, h2⟩; exact ⟨x, by omega, h2⟩
      · rintro ⟨x, h1, h2, h3, h4⟩
        refine ⟨x, ?_, h2, h3, h4⟩
        rcases Nat.lt_or_ge x k with h | h
        · exact h
        · have : x = k := by omega
          subst this
          rcases hc with hc | hc
          · exact absurd hc h3
          · exact absurd hc h4
    unfold obhStep
    split
    · rename_i h1
      exact (ih y).trans (sk (Or.inl h1))
    · split
      · rename_i h1
        exact (ih y).trans (sk (Or.inr h1))
      · rename_i h1 h2
        refine (insF_mem (bpos_le _ _) y).trans ?_
        rw [ih y]
        constructor
        · rintro (e | ⟨x, x1, x2⟩)
          · exact ⟨k, by omega, e, h1, h2⟩
          · exact ⟨x, by omega, x2⟩
        · rintro ⟨x, x1, x2, x3⟩
          by_cases e : x = k
          · subst e; exact Or.inl x2
          · exact Or.inr ⟨x, by omega, x2, x3⟩
theorem aLst_pw {st : Nat × (Nat → Int32)} {r : Nat → Nat → Prop} (h : ∀ i j, i < j → j < st.1 → r (st.2 i).toNatClampNeg (st.2 j).toNatClampNeg) : (aLst st).Pairwise r := by
  unfold aLst
  rw [List.pairwise_map]
  refine List.Pairwise.imp_of_mem ?_ List.pairwise_lt_range
  intro i j hi hj hij
  rw [List.mem_range] at hi hj
  exact h i j hij hj
theorem aLst_mem {st : Nat × (Nat → Int32)} {c : Nat → Prop} (hc : ∀ x, c x → x < 300) (h : ∀ y, (∃ j, j < st.1 ∧ st.2 j = y) ↔ ∃ x, y = nI x ∧ c x) (x : Nat) : x ∈ aLst st ↔ c x := by
  unfold aLst
  rw [List.mem_map]
  constructor
  · rintro ⟨j, h1, h2⟩
    rw [List.mem_range] at h1
    obtain ⟨y, y1, y2⟩ := (h (st.2 j)).mp ⟨j, h1, rfl⟩
    have := hc y y2
    rw [y1, ix_n (by omega)] at h2
    subst h2
    exact y2
  · intro hx
    obtain ⟨j, h1, h2⟩ := (h (nI x)).mpr ⟨x, rfl, hx⟩
    have := hc x hx
    exact ⟨j, List.mem_range.mpr h1, by rw [h2, ix_n (by omega)]⟩
theorem cof0 (x : Nat) : cof (fun _ => 0) (fun _ => 0) x ≠ -1 := by
  show (if (0 : Int32) = -1 then (-1 : Int32) else 0) ≠ -1
  decide
/-- all functions, the hotter first -/
def allL (he : Nat → Int64) (n : Nat) : List Nat := aLst (obhN (fun _ => 0) (fun _ => 0) (fun _ => 0) he (fun _ => 0) n)
theorem allL_len (he : Nat → Int64) (n : Nat) : (allL he n).length = n := by
  unfold allL aLst
  rw [List.length_map, List.length_range]
  induction n with
  | zero => rfl
  | succ k ih =>
    show (obhStep (fun _ => 0) (fun _ => 0) (fun _ => 0) he k (obhN (fun _ => 0) (fun _ => 0) (fun _ => 0) he (fun _ => 0) k)).1 = k + 1
    unfold obhStep
    rw [if_neg (show ¬ (fun (_ : Nat) => (0 : Int32)) k = -1 from (by decide : ¬ (0 : Int32) = -1)), if_neg (cof0 k)]
    show (obhN (fun _ => 0) (fun _ => 0) (fun _ => 0) he (fun _ => 0) k).1 + 1 = k + 1
    rw [ih]
theorem allL_pw (he : Nat → Int64) {n : Nat} (hn : n ≤ 300) : (allL he n).Pairwise (hlt he) := aLst_pw (obh_sorted _ _ _ he _ n hn)
theorem allL_mem (he : Nat → Int64) {n : Nat} (hn : n ≤ 300) (x : Nat) : x ∈ allL he n ↔ x < n := by
  refine aLst_mem (c := fun x => x < n) (fun x h => by omega) (fun y => ?_) x
  rw [obh_mem _ _ _ he _ n hn y]
  constructor
  · rintro ⟨x, h1, h2, -⟩; exact ⟨x, h2, h1⟩
  · rintro ⟨x, h1, h2⟩
    exact ⟨x, h2, h1, (by decide : (0 : Int32) ≠ -1), cof0 x⟩
theorem selN_least (hs : Nat → Int64) (pre : List Nat) : ∀ k, k ≤ 300 → (selN hs (ind pre) k = -1 ∧ ∀ x, x < k → x ∈ pre) ∨ ∃ m, m < k ∧ m ∉ pre ∧ selN hs (ind pre) k = nI m ∧ ∀ x, x < k → x ∉ pre → x = m ∨ hlt hs m x := by
  intro k
  induction k with
  | zero => intro _; exact Or.inl ⟨rfl, fun x h => absurd h (Nat.not_lt_zero x)⟩
  | succ k ih =>
    intro hk
    have ih := ih (by omega)
    by_cases hp : k ∈ pre
    · have e : selN hs (ind pre) (k + 1) = selN hs (ind pre) k := by
        conv => lhs; unfold selN
        rw [if_neg (by unfold ind; rw [if_pos hp]; decide)]
      rw [e]
      rcases ih with ⟨h1, h2⟩ | ⟨m, m1, m2, m3, m4⟩
      · refine Or.inl ⟨h1, fun x hx => ?_⟩
        by_cases e : x = k
        · subst e; exact hp
        · exact h2 x (by omega)
      · refine Or.inr ⟨m, by omega, m2, m3, fun x hx hxp => ?_⟩
        by_cases e : x = k
        · subst e; exact absurd hp hxp
        · exact m4 x (by omega) hxp
    · have hd : ind pre k = 0 := by unfold ind; rw [if_neg hp]
      rcases ih with ⟨h1, h2⟩ | ⟨m, m1, m2, m3, m4⟩
      · refine Or.inr ⟨k, by omega, hp, ?_, fun x hx hxp => ?_⟩
        · unfold selN
          rw [if_pos hd, h1, if_pos m1_lt]
        · by_cases e : x = k
          · exact Or.inl e
          · exact absurd (h2 x (by omega)) hxp
      · by_cases hc : hs m < hs k
        · refine Or.inr ⟨k, by omega, hp, ?_, fun x hx hxp => ?_⟩
          · unfold selN
            rw [if_pos hd, m3, if_neg (nI_n0 (by omega)), ix_n (by omega), if_pos hc]
          · rw [Int64.lt_iff_toInt_lt] at hc
            by_cases e : x = k
            · exact Or.inl e
            · rcases m4 x (by omega) hxp with e2 | e2
              · subst e2; exact Or.inr (Or.inl hc)
              · exact Or.inr (hlt_tr hs (Or.inl hc) e2)
        · refine Or.inr ⟨m, by omega, m2, ?_, fun x hx hxp => ?_⟩
          · unfold selN
            rw [if_pos hd, m3, if_neg (nI_n0 (by omega)), ix_n (by omega), if_neg hc]
          · rw [Int64.lt_iff_toInt_lt] at hc
            by_cases e : x = k
            · subst e
              refine Or.inr ?_
              unfold hlt
              omega
            · exact m4 x (by omega) hxp
theorem selN_next {hs : Nat → Int64} {n : Nat} (hn : n ≤ 300) {pre q : List Nat} {f : Nat} (h : allL hs n = pre ++ f :: q) : f < n ∧ selN hs (ind pre) n = nI f := by
  have hpw := allL_pw hs hn
  rw [h, List.pairwise_append, List.pairwise_cons] at hpw
  have hfn : f < n := (allL_mem hs hn f).mp (by rw [h]; exact List.mem_append_right _ List.mem_cons_self)
  have hfp : f ∉ pre := fun hf => absurd (hpw.2.2 f hf f List.mem_cons_self) (fun h9 => hlt_as hs f f h9 h9)
  refine ⟨hfn, ?_⟩
  rcases selN_least hs pre n hn with ⟨-, h2⟩ | ⟨m, m1, m2, m3, m4⟩
  · exact absurd (h2 f hfn) hfp
  · rcases m4 f hfn hfp with e | e
    · rw [m3, e]
    · have hm : m ∈ pre ++ f :: q := by rw [← h]; exact (allL_mem hs hn m).mpr m1
      rcases List.mem_append.mp hm with h1 | h1
      · exact absurd h1 m2
      · rcases List.mem_cons.mp h1 with h2 | h2
        · rw [m3, h2]
        · exact absurd (hpw.2.1.1 m h2) (hlt_as hs m f e)
