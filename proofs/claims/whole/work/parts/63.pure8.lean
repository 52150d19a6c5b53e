/-- what holds of all that was told -/
def KInv (n : Nat) (z F T : Nat → Int32) (C : Nat → Int64) (u : Nat) : Prop :=
  1 ≤ n ∧ n ≤ 300 ∧ (∀ j, j < 300 → 0 ≤ (z j).toInt ∧ (z j).toInt ≤ 1000000) ∧ (∀ j, n ≤ j → j < 300 → z j = 0) ∧ u ≤ 2000 ∧ (∀ i, i < u → ∃ a, a < n ∧ F i = nI a) ∧ (∀ i, i < u → ∃ b, b < n ∧ T i = nI b) ∧ (∀ i, i < u → 0 < (C i).toInt ∧ (C i).toInt ≤ 1000000000000) ∧ ∀ i j, i < u → j < u → F i = F j → T i = T j → i = j
theorem le0_iff {x : Int32} : x ≤ 0 ↔ x.toInt ≤ 0 := by
  rw [Int32.le_iff_toInt_le]
  exact Iff.rfl
theorem KInv.z0 {n : Nat} {z F T : Nat → Int32} {C : Nat → Int64} {u : Nat} (K : KInv n z F T C u) {j : Nat} (hj : j < 300) : z j ≤ 0 ↔ z j = 0 := by
  have h := (K.2.2.1 j hj).1
  constructor
  · intro h1
    rw [le0_iff] at h1
    apply Int32.toInt_inj.mp
    show (z j).toInt = 0
    omega
  · intro h1
    rw [h1]
    exact Int32.le_refl 0
theorem KInv.hz {n : Nat} {z F T : Nat → Int32} {C : Nat → Int64} {u : Nat} (K : KInv n z F T C u) : ∀ j, j < 300 → ¬ z j ≤ 0 → j < n := by
  intro j hj h
  rcases Nat.lt_or_ge j n with h1 | h1
  · exact h1
  · exact absurd (by rw [K.2.2.2.1 j h1 hj]; exact Int32.le_refl 0) h
theorem KInv.F3 {n : Nat} {z F T : Nat → Int32} {C : Nat → Int64} {u : Nat} (K : KInv n z F T C u) : ∀ i, i < u → vp_in (F i) 300 := by
  intro i hi
  obtain ⟨a, h1, h2⟩ := K.2.2.2.2.2.1 i hi
  have := K.2.1
  rw [h2]
  exact inn (by omega) (by omega)
theorem KInv.T3 {n : Nat} {z F T : Nat → Int32} {C : Nat → Int64} {u : Nat} (K : KInv n z F T C u) : ∀ i, i < u → vp_in (T i) 300 := by
  intro i hi
  obtain ⟨a, h1, h2⟩ := K.2.2.2.2.2.2.1 i hi
  have := K.2.1
  rw [h2]
  exact inn (by omega) (by omega)
/-- the reference's callers are the class's -/
theorem bm_fc {n : Nat} {z F T : Nat → Int32} {C : Nat → Int64} {u : Nat} (K : KInv n z F T C u) : ∀ k, k ≤ u → ∀ g, (fcN F T C z k g = -1 ∧ (bmN F T C z k).2 g = -1 ∧ (bmN F T C z k).1 g = 0) ∨ ∃ i, i < k ∧ fcN F T C z k g = nI i ∧ (bmN F T C z k).2 g = F i ∧ (bmN F T C z k).1 g = C i ∧ (T i).toNatClampNeg = g := by
  obtain ⟨-, hn, hz, -, hu, hF, hT, hC, hd⟩ := id K
  intro k
  induction k with
  | zero => intro _ g; exact Or.inl ⟨rfl, rfl, rfl⟩
  | succ k ih =>
    intro hk g
    have ih := ih (by omega)
    have ihg : (fcN F T C z k g = -1 ∧ (bmN F T C z k).2 g = -1 ∧ (bmN F T C z k).1 g = 0) ∨ ∃ i, i < k + 1 ∧ fcN F T C z k g = nI i ∧ (bmN F T C z k).2 g = F i ∧ (bmN F T C z k).1 g = C i ∧ (T i).toNatClampNeg = g := by
      rcases ih g with h | ⟨i, h1, h2⟩
      · exact Or.inl h
      · exact Or.inr ⟨i, by omega, h2⟩
    obtain ⟨a, a1, a2⟩ := hF k (by omega)
    have haz : z (F k).toNatClampNeg ≤ 0 ↔ z (F k).toNatClampNeg = 0 := by
      rw [a2, ix_n (by omega)]
      exact K.z0 (by omega)
    show (fcStep F T C z k (fcN F T C z k) g = -1 ∧ (bmStep F T C z k (bmN F T C z k)).2 g = -1 ∧ (bmStep F T C z k (bmN F T C z k)).1 g = 0) ∨ ∃ i, i < k + 1 ∧ fcStep F T C z k (fcN F T C z k) g = nI i ∧ (bmStep F T C z k (bmN F T C z k)).2 g = F i ∧ (bmStep F T C z k (bmN F T C z k)).1 g = C i ∧ (T i).toNatClampNeg = g
    by_cases c1 : F k = T k
    · unfold fcStep bmStep
      rw [if_pos c1, if_pos c1]
      exact ihg
    · by_cases c2 : z (F k).toNatClampNeg ≤ 0
      · unfold fcStep bmStep
        rw [if_neg c1, if_neg c1, if_pos c2, if_pos (haz.mp c2)]
        exact ihg
      · -- both write, or none
        have c3 : ¬ z (F k).toNatClampNeg = 0 := fun e => c2 (haz.mpr e)
        have asg : fcStep F T C z k (fcN F T C z k) = upd (fcN F T C z k) (T k).toNatClampNeg (nI k) → bmStep F T C z k (bmN F T C z k) = (vp_updL (bmN F T C z k).1 (T k).toNatClampNeg (C k), upd (bmN F T C z k).2 (T k).toNatClampNeg (F k)) → (fcStep F T C z k (fcN F T C z k) g = -1 ∧ (bmStep F T C z k (bmN F T C z k)).2 g = -1 ∧ (bmStep F T C z k (bmN F T C z k)).1 g = 0) ∨ ∃ i, i < k + 1 ∧ fcStep F T C z k (fcN F T C z k) g = nI i ∧ (bmStep F T C z k (bmN F T C z k)).2 g = F i ∧ (bmStep F T C z k (bmN F T C z k)).1 g = C i ∧ (T i).toNatClampNeg = g := by
          intro e1 e2
          rw [e1, e2]
          by_cases hg : g = (T k).toNatClampNeg
          · refine Or.inr ⟨k, by omega, ?_, ?_, ?_, hg.symm⟩
            · unfold upd; rw [if_pos hg]
            · show upd (bmN F T C z k).2 (T k).toNatClampNeg (F k) g = F k
              unfold upd; rw [if_pos hg]
            · show vp_updL (bmN F T C z k).1 (T k).toNatClampNeg (C k) g = C k
              unfold vp_updL; rw [if_pos hg]
          · have u1 : upd (fcN F T C z k) (T k).toNatClampNeg (nI k) g = fcN F T C z k g := by unfold upd; rw [if_neg hg]
            have u2 : upd (bmN F T C z k).2 (T k).toNatClampNeg (F k) g = (bmN F T C z k).2 g := by unfold upd; rw [if_neg hg]
            have u3 : vp_updL (bmN F T C z k).1 (T k).toNatClampNeg (C k) g = (bmN F T C z k).1 g := by unfold vp_updL; rw [if_neg hg]
            rw [u1]
            show (fcN F T C z k g = -1 ∧ upd (bmN F T C z k).2 (T k).toNatClampNeg (F k) g = -1 ∧ vp_updL (bmN F T C z k).1 (T k).toNatClampNeg (C k) g = 0) ∨ ∃ i, i < k + 1 ∧ fcN F T C z k g = nI i ∧ upd (bmN F T C z k).2 (T k).toNatClampNeg (F k) g = F i ∧ vp_updL (bmN F T C z k).1 (T k).toNatClampNeg (C k) g = C i ∧ (T i).toNatClampNeg = g
            rw [u2, u3]
            exact ihg
        have skp : fcStep F T C z k (fcN F T C z k) = fcN F T C z k → bmStep F T C z k (bmN F T C z k) = bmN F T C z k → (fcStep F T C z k (fcN F T C z k) g = -1 ∧ (bmStep F T C z k (bmN F T C z k)).2 g = -1 ∧ (bmStep F T C z k (bmN F T C z k)).1 g = 0) ∨ ∃ i, i < k + 1 ∧ fcStep F T C z k (fcN F T C z k) g = nI i ∧ (bmStep F T C z k (bmN F T C z k)).2 g = F i ∧ (bmStep F T C z k (bmN F T C z k)).1 g = C i ∧ (T i).toNatClampNeg = g := by
          intro e1 e2
          rw [e1, e2]
          exact ihg
        have hCk := hC k (by omega)
        rcases ih (T k).toNatClampNeg with ⟨t1, t2, t3⟩ | ⟨i, i1, i2, i3, i4, i5⟩
        · apply asg
          · unfold fcStep strgI
            rw [if_neg c1, if_neg c2, t1, if_pos rfl, if_neg (by decide)]
          · unfold bmStep
            have h1 : ¬ C k < 0 := by
              rw [Int64.lt_iff_toInt_lt]
              show ¬ (C k).toInt < 0
              omega
            have h2 : ¬ C k = 0 := by
              intro e
              rw [e] at hCk
              exact absurd hCk.1 (by decide)
            rw [if_neg c1, if_neg c3, t3, if_neg h1, if_neg h2]
        · have hi2 : ¬ nI i = -1 := nI_m1 (by omega)
          have hix : (nI i).toNatClampNeg = i := ix_n (by omega)
          have fs : fcStep F T C z k (fcN F T C z k) = if strgI C F k (nI i) = 0 then fcN F T C z k else upd (fcN F T C z k) (T k).toNatClampNeg (nI k) := by
            unfold fcStep
            rw [if_neg c1, if_neg c2, i2]
          have bs : bmStep F T C z k (bmN F T C z k) = if C k < C i then bmN F T C z k else if C k = C i then (if F k ≤ F i then (vp_updL (bmN F T C z k).1 (T k).toNatClampNeg (C k), upd (bmN F T C z k).2 (T k).toNatClampNeg (F k)) else bmN F T C z k) else (vp_updL (bmN F T C z k).1 (T k).toNatClampNeg (C k), upd (bmN F T C z k).2 (T k).toNatClampNeg (F k)) := by
            unfold bmStep
            rw [if_neg c1, if_neg c3, i4, i3]
          have sg : strgI C F k (nI i) = if C i < C k then 1 else if C k = C i then (if F k < F i then 1 else 0) else 0 := by
            unfold strgI
            rw [if_neg hi2, hix]
          by_cases d1 : C k < C i
          · apply skp
            · rw [fs, sg]
              have e1 : ¬ C i < C k := by rw [Int64.lt_iff_toInt_lt] at d1 ⊢; omega
              have e2 : ¬ C k = C i := by intro e; rw [e] at d1; exact Int64.lt_irrefl d1
              rw [if_neg e1, if_neg e2, if_pos rfl]
            · rw [bs, if_pos d1]
          · by_cases d2 : C k = C i
            · have e1 : ¬ C i < C k := by rw [d2]; exact fun h9 => Int64.lt_irrefl h9
              by_cases d3 : F k < F i
              · apply asg
                · rw [fs, sg, if_neg e1, if_pos d2, if_pos d3, if_neg (by decide)]
                · rw [bs, if_neg d1, if_pos d2, if_pos (Int32.le_of_lt d3)]
              · have d4 : ¬ F k ≤ F i := by
                  intro h9
                  have e3 : F k = F i := by
                    apply Int32.toInt_inj.mp
                    rw [Int32.lt_iff_toInt_lt] at d3
                    rw [Int32.le_iff_toInt_le] at h9
                    omega
                  have e4 : T k = T i := by
                    obtain ⟨b, b1, b2⟩ := hT k (by omega)
                    obtain ⟨b', b1', b2'⟩ := hT i (by omega)
                    rw [b2, b2', ix_n (by omega), ix_n (by omega)] at i5
                    rw [b2, b2', i5]
                  have := hd k i (by omega) (by omega) e3 e4
                  omega
                apply skp
                · rw [fs, sg, if_neg e1, if_pos d2, if_neg d3, if_pos rfl]
                · rw [bs, if_neg d1, if_pos d2, if_neg d4]
            · have e1 : C i < C k := by
                rw [Int64.lt_iff_toInt_lt] at d1 ⊢
                have : (C k).toInt ≠ (C i).toInt := fun e => d2 (Int64.toInt_inj.mp e)
                omega
              apply asg
              · rw [fs, sg, if_pos e1, if_neg (by decide)]
              · rw [bs, if_neg d1, if_neg d2]
theorem bm_cof {n : Nat} {z F T : Nat → Int32} {C : Nat → Int64} {u : Nat} (K : KInv n z F T C u) (g : Nat) : (bmN F T C z u).2 g = cof (fcN F T C z u) F g := by
  have hu := K.2.2.2.2.1
  unfold cof
  rcases bm_fc K u (Nat.le_refl _) g with ⟨h1, h2, -⟩ | ⟨i, h1, h2, h3, -⟩
  · rw [if_pos h1, h2]
  · rw [if_neg (by rw [h2]; exact nI_m1 (by omega)), h3, h2, ix_n (by omega)]
