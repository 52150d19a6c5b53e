theorem Good.le_lt {z : Nat → Int32} {X : CS} (G : Good z X) {h : Nat} (hh : h < 300) (fh : cFi X h = nI h) : ∃ y, y < 300 ∧ cLe X h = nI y ∧ cFi X y = nI h ∧ (∀ m, m < 300 → cFi X m = nI h → y ≤ m) := by
  obtain ⟨-, -, y, y1, y2, y3⟩ := G.2 h hh fh
  obtain ⟨m1, m2⟩ := (G.1.2.2 h hh fh).2.2.1 y y1
  refine ⟨y, m1, y2, m2, fun m hm hf => ?_⟩
  apply y3
  have hz : ¬ z m ≤ 0 := fun e => by
    have := (G.1.1 m hm).mpr e
    rw [hf] at this
    exact nI_m1 (by omega) this
  obtain ⟨k, k1, k2, k3, k4⟩ := G.1.2.1 m hm hz
  rw [hf] at k2
  have := nI_inj (by omega) (by omega) k2
  subst this
  exact k4
theorem rk_sorted {z : Nat → Int32} {X : CS} (G : Good z X) (g : Nat → Int32) : ∀ k, k ≤ 300 → ∀ i j, i < j → j < (rkN (cFi X) (cLe X) (cBy X) (cHe X) g k).1 → rlt X ((rkN (cFi X) (cLe X) (cBy X) (cHe X) g k).2 i).toNatClampNeg ((rkN (cFi X) (cLe X) (cBy X) (cHe X) g k).2 j).toNatClampNeg := by
  intro k
  induction k with
  | zero => intro _ i j _ h; exact absurd h (Nat.not_lt_zero j)
  | succ k ih =>
    intro hk
    have ih := ih (by omega)
    have hin := (rkN_more (cFi X) (cLe X) (cBy X) (cHe X) g k (by omega)).1
    show ∀ i j, i < j → j < (rkStep (cFi X) (cLe X) (cBy X) (cHe X) k (rkN (cFi X) (cLe X) (cBy X) (cHe X) g k)).1 → rlt X ((rkStep (cFi X) (cLe X) (cBy X) (cHe X) k (rkN (cFi X) (cLe X) (cBy X) (cHe X) g k)).2 i).toNatClampNeg ((rkStep (cFi X) (cLe X) (cBy X) (cHe X) k (rkN (cFi X) (cLe X) (cBy X) (cHe X) g k)).2 j).toNatClampNeg
    unfold rkStep
    split
    · exact ih
    · rename_i hfk
      split
      · rename_i hle
        generalize rkN (cFi X) (cLe X) (cBy X) (cHe X) g k = st at ih hin ⊢
        obtain ⟨cnt, g'⟩ := st
        obtain ⟨h, h1, h2, h3, -⟩ := G.1.2.1 k (by omega) (fun e => hfk ((G.1.1 k (by omega)).mpr e))
        rw [h2, ix_n (by omega)] at hle
        -- what stands there already
        have old : ∀ j, j < cnt → ∃ c, c < 300 ∧ g' j = nI c ∧ cFi X c = nI c ∧ ∃ x, x < k ∧ cLe X c = nI x := by
          intro j hj
          obtain ⟨x, x1, x2, x3, x4⟩ := hin j hj
          have x2 : g' j = cFi X x := x2
          obtain ⟨c, c1, c2, c3, -⟩ := G.1.2.1 x (by omega) (fun e => x3 ((G.1.1 x (by omega)).mpr e))
          rw [c2, ix_n (by omega)] at x4
          exact ⟨c, c1, by rw [x2, c2], c3, x, x1, x4⟩
        obtain ⟨p, hpd⟩ : ∃ p : Nat → Bool, p = (fun j => !decide (densI (cBy X (cFi X k).toNatClampNeg) (cBy X (g' j).toNatClampNeg) (cHe X (cFi X k).toNatClampNeg) (cHe X (g' j).toNatClampNeg) = 0)) := ⟨_, rfl⟩
        have hp : ∀ j, j < cnt → (p j = true ↔ Dn X h (g' j).toNatClampNeg) := by
          intro j hj
          obtain ⟨c, c1, c2, c3, -⟩ := old j hj
          rw [hpd]
          show (!decide (densI (cBy X (cFi X k).toNatClampNeg) (cBy X (g' j).toNatClampNeg) (cHe X (cFi X k).toNatClampNeg) (cHe X (g' j).toNatClampNeg) = 0)) = true ↔ _
          rw [h2, c2, ix_n (by omega), ix_n (by omega), Bool.not_eq_true', decide_eq_false_iff_not, G.dens h1 c1 h3 c3, Classical.not_not]
        have hlo := bpos_lo p cnt
        have hhi := bpos_hi p cnt
        have hbl := bpos_le p cnt
        show ∀ i j, i < j → j < cnt + 1 → rlt X (insF g' (bpos (fun j => !decide (densI (cBy X (cFi X k).toNatClampNeg) (cBy X (g' j).toNatClampNeg) (cHe X (cFi X k).toNatClampNeg) (cHe X (g' j).toNatClampNeg) = 0)) cnt) cnt (cFi X k) i).toNatClampNeg (insF g' (bpos (fun j => !decide (densI (cBy X (cFi X k).toNatClampNeg) (cBy X (g' j).toNatClampNeg) (cHe X (cFi X k).toNatClampNeg) (cHe X (g' j).toNatClampNeg) = 0)) cnt) cnt (cFi X k) j).toNatClampNeg
        rw [← hpd]
        generalize bpos p cnt = a at hlo hhi hbl ⊢
        have hkk : (cFi X k).toNatClampNeg = h := by rw [h2]; exact ix_n (by omega)
        refine insF_pw (r := fun a b => rlt X a.toNatClampNeg b.toNatClampNeg) hbl ih ?_ ?_
        · intro j hj
          rcases hlo with h0 | h0
          · omega
          · obtain ⟨c, c1, c2, c3, x, x1, x2⟩ := old j (by omega)
            obtain ⟨d, d1, d2, d3, -⟩ := old (a - 1) (by omega)
            have n1 : ¬ Dn X h d := by
              intro hD
              have := (hp (a - 1) (by omega)).mpr (by rw [d2, ix_n (by omega)]; exact hD)
              rw [h0] at this
              exact absurd this (by decide)
            have n2 : ¬ Dn X h c := by
              by_cases e : j = a - 1
              · subst e
                rw [c2] at d2
                have := nI_inj (by omega) (by omega) d2
                subst this
                exact n1
              · have h4 : rlt X (g' j).toNatClampNeg (g' (a - 1)).toNatClampNeg := ih j (a - 1) (by omega) (by show a - 1 < cnt; omega)
                rw [c2, d2, ix_n (by omega), ix_n (by omega)] at h4
                have h5 := rlt_nD h4
                intro hD
                apply n1
                unfold Dn at hD h5 ⊢
                exact cr_lt (G.pos c1 c3) (G.pos d1 d3) hD (Nat.not_lt.mp h5)
            show rlt X (g' j).toNatClampNeg (cFi X k).toNatClampNeg
            rw [hkk, c2, ix_n (by omega)]
            by_cases h6 : Dn X c h
            · exact Or.inl h6
            · refine Or.inr ⟨h6, n2, ?_⟩
              rw [x2, hle, ix_n (by omega), ix_n (by omega)]
              exact x1
        · intro j h4 h5
          show rlt X (cFi X k).toNatClampNeg (g' j).toNatClampNeg
          rw [hkk]
          exact Or.inl ((hp j h5).mp (hhi j h4 h5))
      · exact ih
theorem rk_mem {z : Nat → Int32} {X : CS} (G : Good z X) (g : Nat → Int32) : ∀ k, k ≤ 300 → ∀ y, (∃ j, j < (rkN (cFi X) (cLe X) (cBy X) (cHe X) g k).1 ∧ (rkN (cFi X) (cLe X) (cBy X) (cHe X) g k).2 j = y) ↔ ∃ h, y = nI h ∧ h < 300 ∧ cFi X h = nI h ∧ (cLe X h).toNatClampNeg < k := by
  intro k
  induction k with
  | zero => intro _ y; exact ⟨fun ⟨j, h, _⟩ => absurd h (Nat.not_lt_zero j), fun ⟨_, _, _, _, h⟩ => absurd h (Nat.not_lt_zero _)⟩
  | succ k ih =>
    intro hk y
    have ih := ih (by omega)
    have up : (∃ h, y = nI h ∧ h < 300 ∧ cFi X h = nI h ∧ (cLe X h).toNatClampNeg < k) → ∃ h, y = nI h ∧ h < 300 ∧ cFi X h = nI h ∧ (cLe X h).toNatClampNeg < k + 1 := by
      rintro ⟨h, a1, a2, a3, a4⟩
      exact ⟨h, a1, a2, a3, by omega⟩
    show (∃ j, j < (rkStep (cFi X) (cLe X) (cBy X) (cHe X) k (rkN (cFi X) (cLe X) (cBy X) (cHe X) g k)).1 ∧ (rkStep (cFi X) (cLe X) (cBy X) (cHe X) k (rkN (cFi X) (cLe X) (cBy X) (cHe X) g k)).2 j = y) ↔ _
    -- no head has k as its least function
    have sk : (∀ h, h < 300 → cFi X h = nI h → ¬ (cLe X h).toNatClampNeg = k) → ((∃ h, y = nI h ∧ h < 300 ∧ cFi X h = nI h ∧ (cLe X h).toNatClampNeg < k) ↔ ∃ h, y = nI h ∧ h < 300 ∧ cFi X h = nI h ∧ (cLe X h).toNatClampNeg < k + 1) := by
      intro hc
      refine ⟨up, ?_⟩
      rintro ⟨h, a1, a2, a3, a4⟩
      have := hc h a2 a3
      exact ⟨h, a1, a2, a3, by omega⟩
    unfold rkStep
    split
    · rename_i hfk
      refine (ih y).trans (sk (fun h h1 h2 e => ?_))
      obtain ⟨q, q1, q2, q3, -⟩ := G.le_lt h1 h2
      rw [q2, ix_n (by omega)] at e
      subst e
      rw [hfk] at q3
      exact nI_m1 (by omega) q3.symm
    · rename_i hfk
      obtain ⟨h, h1, h2, h3, -⟩ := G.1.2.1 k (by omega) (fun e => hfk ((G.1.1 k (by omega)).mpr e))
      split
      · rename_i hle
        rw [h2, ix_n (by omega)] at hle
        refine (insF_mem (bpos_le _ _) y).trans ?_
        rw [ih y]
        constructor
        · rintro (e | e)
          · exact ⟨h, by rw [e, h2], h1, h3, by rw [hle, ix_n (by omega)]; omega⟩
          · exact up e
        · rintro ⟨c, a1, a2, a3, a4⟩
          by_cases e : (cLe X c).toNatClampNeg = k
          · obtain ⟨q, q1, q2, q3, -⟩ := G.le_lt a2 a3
            rw [q2, ix_n (by omega)] at e
            subst e
            exact Or.inl (by rw [a1, q3])
          · exact Or.inr ⟨c, a1, a2, a3, by omega⟩
      · rename_i hle
        refine (ih y).trans (sk (fun c c1 c2 e => ?_))
        obtain ⟨q, q1, q2, q3, -⟩ := G.le_lt c1 c2
        rw [q2, ix_n (by omega)] at e
        subst e
        rw [h2] at q3
        have := nI_inj (by omega) (by omega) q3
        subst this
        exact hle (by rw [h2, ix_n (by omega)]; exact q2)
theorem rLst_pw {z : Nat → Int32} {X : CS} (G : Good z X) (g : Nat → Int32) : (rLst X g).Pairwise (rlt X) := aLst_pw (rk_sorted G g 300 (Nat.le_refl _))
theorem rLst_mem {z : Nat → Int32} {X : CS} (G : Good z X) (g : Nat → Int32) (h : Nat) : h ∈ rLst X g ↔ h < 300 ∧ cFi X h = nI h := by
  refine aLst_mem (st := rkN (cFi X) (cLe X) (cBy X) (cHe X) g 300) (c := fun h => h < 300 ∧ cFi X h = nI h) (fun x hx => hx.1) (fun y => ?_) h
  rw [rk_mem G g 300 (Nat.le_refl _) y]
  constructor
  · rintro ⟨h, a1, a2, a3, -⟩; exact ⟨h, a1, a2, a3⟩
  · rintro ⟨h, a1, a2, a3⟩
    obtain ⟨q, q1, q2, -⟩ := G.le_lt a2 a3
    exact ⟨h, a1, a2, a3, by rw [q2, ix_n (by omega)]; exact q1⟩
theorem selD_least {z : Nat → Int32} {X : CS} (G : Good z X) (pre : List Nat) : ∀ k, k ≤ 300 → (selD (cFi X) (cBy X) (cHe X) (ind pre) k = -1 ∧ ∀ h, h < 300 → cFi X h = nI h → h ∉ pre → ¬ (cLe X h).toNatClampNeg < k) ∨ ∃ m, m < 300 ∧ cFi X m = nI m ∧ m ∉ pre ∧ selD (cFi X) (cBy X) (cHe X) (ind pre) k = nI m ∧ ∀ h, h < 300 → cFi X h = nI h → h ∉ pre → (cLe X h).toNatClampNeg < k → h = m ∨ rlt X m h := by
  intro k
  induction k with
  | zero => intro _; exact Or.inl ⟨rfl, fun h _ _ _ => Nat.not_lt_zero _⟩
  | succ k ih =>
    intro hk
    have ih := ih (by omega)
    -- who has k as its least function
    have own : ∀ h, h < 300 → cFi X h = nI h → (cLe X h).toNatClampNeg < k + 1 → (cLe X h).toNatClampNeg < k ∨ cFi X k = nI h := by
      intro h h1 h2 h3
      obtain ⟨q, q1, q2, q3, -⟩ := G.le_lt h1 h2
      rw [q2, ix_n (by omega)] at h3 ⊢
      by_cases e : q = k
      · subst e; exact Or.inr q3
      · exact Or.inl (by omega)
    -- if the step keeps, and the owner of k is not to be counted
    have keep : selD (cFi X) (cBy X) (cHe X) (ind pre) (k + 1) = selD (cFi X) (cBy X) (cHe X) (ind pre) k → (∀ h, h < 300 → cFi X h = nI h → h ∉ pre → cFi X k = nI h → selD (cFi X) (cBy X) (cHe X) (ind pre) k = nI h) → (selD (cFi X) (cBy X) (cHe X) (ind pre) (k + 1) = -1 ∧ ∀ h, h < 300 → cFi X h = nI h → h ∉ pre → ¬ (cLe X h).toNatClampNeg < k + 1) ∨ ∃ m, m < 300 ∧ cFi X m = nI m ∧ m ∉ pre ∧ selD (cFi X) (cBy X) (cHe X) (ind pre) (k + 1) = nI m ∧ ∀ h, h < 300 → cFi X h = nI h → h ∉ pre → (cLe X h).toNatClampNeg < k + 1 → h = m ∨ rlt X m h := by
      intro e hc
      rw [e]
      rcases ih with ⟨i1, i2⟩ | ⟨m, m1, m2, m3, m4, m5⟩
      · refine Or.inl ⟨i1, fun h h1 h2 h3 h4 => ?_⟩
        rcases own h h1 h2 h4 with h5 | h5
        · exact i2 h h1 h2 h3 h5
        · have := hc h h1 h2 h3 h5
          rw [i1] at this
          exact nI_m1 (by omega) this.symm
      · refine Or.inr ⟨m, m1, m2, m3, m4, fun h h1 h2 h3 h4 => ?_⟩
        rcases own h h1 h2 h4 with h5 | h5
        · exact m5 h h1 h2 h3 h5
        · have := hc h h1 h2 h3 h5
          rw [m4] at this
          exact Or.inl (nI_inj (by omega) (by omega) this).symm
    by_cases c1 : cFi X k < 0
    · refine keep (by conv => lhs; unfold selD
                      rw [if_pos c1]) (fun h h1 _ _ h4 => ?_)
      rw [h4] at c1
      exact absurd c1 (nI_n0 (by omega))
    · obtain ⟨h, h1, h2, h3, -⟩ := G.1.2.1 k (by omega) (fun e => c1 (by rw [(G.1.1 k (by omega)).mpr e]; exact m1_lt))
      have hix : (cFi X k).toNatClampNeg = h := by rw [h2]; exact ix_n (by omega)
      by_cases c2 : h ∈ pre
      · refine keep (by conv => lhs; unfold selD
                        rw [if_neg c1, hix, if_neg (by unfold ind; rw [if_pos c2]; decide)]) (fun g g1 _ g3 g4 => ?_)
        rw [h2] at g4
        have := nI_inj (by omega) (by omega) g4
        subst this
        exact absurd c2 g3
      · have d0 : ind pre h = 0 := by unfold ind; rw [if_neg c2]
        by_cases c3 : cFi X k = selD (cFi X) (cBy X) (cHe X) (ind pre) k
        · refine keep (by conv => lhs; unfold selD
                          rw [if_neg c1, hix, if_pos d0, if_pos c3]) (fun g g1 _ g3 g4 => ?_)
          rw [← c3]
          exact g4
        · have lek : (cLe X h).toNatClampNeg < k + 1 := by
            obtain ⟨q, q1, q2, -, q4⟩ := G.le_lt h1 h3
            rw [q2, ix_n (by omega)]
            have := q4 k (by omega) h2
            omega
          rcases ih with ⟨i1, i2⟩ | ⟨m, m1, m2, m3, m4, m5⟩
          · refine Or.inr ⟨h, h1, h3, c2, ?_, fun g g1 g2 g3 g4 => ?_⟩
            · conv => lhs; unfold selD
              rw [if_neg c1, hix, if_pos d0, if_neg c3, i1, if_pos m1_lt]
              exact h2
            · rcases own g g1 g2 g4 with g5 | g5
              · exact absurd g5 (i2 g g1 g2 g3)
              · rw [h2] at g5
                exact Or.inl (nI_inj (by omega) (by omega) g5).symm
          · have hm : m ≠ h := fun e => c3 (by rw [m4, h2, e])
            have dd := G.dens h1 m1 h3 m2
            by_cases c4 : Dn X h m
            · refine Or.inr ⟨h, h1, h3, c2, ?_, fun g g1 g2 g3 g4 => ?_⟩
              · conv => lhs; unfold selD
                rw [if_neg c1, hix, if_pos d0, if_neg c3, m4, if_neg (nI_n0 (by omega)), ix_n (by omega), if_neg (fun e => (dd.mp e) c4)]
                exact h2
              · rcases own g g1 g2 g4 with g5 | g5
                · refine Or.inr (Or.inl ?_)
                  rcases m5 g g1 g2 g3 g5 with e | e
                  · rw [e]; exact c4
                  · have h6 := rlt_nD e
                    unfold Dn at c4 h6 ⊢
                    exact cr_lt (G.pos m1 m2) (G.pos g1 g2) c4 (Nat.not_lt.mp h6)
                · rw [h2] at g5
                  exact Or.inl (nI_inj (by omega) (by omega) g5).symm
            · refine Or.inr ⟨m, m1, m2, m3, ?_, fun g g1 g2 g3 g4 => ?_⟩
              · conv => lhs; unfold selD
                rw [if_neg c1, hix, if_pos d0, if_neg c3, m4, if_neg (nI_n0 (by omega)), ix_n (by omega), if_pos (dd.mpr c4)]
              · rcases own g g1 g2 g4 with g5 | g5
                · exact m5 g g1 g2 g3 g5
                · by_cases g6 : (cLe X g).toNatClampNeg < k
                  · exact m5 g g1 g2 g3 g6
                  · rw [h2] at g5
                    have := nI_inj (by omega) (by omega) g5
                    subst this
                    refine Or.inr ?_
                    by_cases c5 : Dn X m h
                    · exact Or.inl c5
                    · refine Or.inr ⟨c5, c4, ?_⟩
                      -- m was met before
                      have m6 : (cLe X m).toNatClampNeg < k := by
                        rcases selD_in (cFi X) (cBy X) (cHe X) (ind pre) k with e | ⟨j, j1, j2, -⟩
                        · rw [m4] at e; exact absurd e (nI_m1 (by omega))
                        · rw [m4] at j2
                          obtain ⟨q, q1, q2, -, q4⟩ := G.le_lt m1 m2
                          rw [q2, ix_n (by omega)]
                          have := q4 j (by omega) j2.symm
                          omega
                      omega
