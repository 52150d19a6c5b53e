theorem KInv.first : KInv 1 (fun _ => 0) (fun _ => 0) (fun _ => 0) (fun _ => 0) 0 := by
  refine ⟨by omega, by omega, fun _ _ => ⟨(by decide : (0 : Int) ≤ (0 : Int32).toInt), (by decide : (0 : Int32).toInt ≤ 1000000)⟩, fun _ _ _ => rfl, by omega, fun i hi => absurd hi (Nat.not_lt_zero i), fun i hi => absurd hi (Nat.not_lt_zero i), fun i hi => absurd hi (Nat.not_lt_zero i), fun i j hi => absurd hi (Nat.not_lt_zero i)⟩
theorem KInv.anew {n' : Nat} {y : Int32} {F T : Nat → Int32} {C : Nat → Int64} (e : nI n' = y) (hn' : n' < 2 ^ 31) (h1 : ¬ y < 1) (h2 : ¬ 300 < y) : KInv n' (fun _ => 0) F T C 0 := by
  subst e
  rw [show (1 : Int32) = nI 1 from rfl, nI_ltI hn' (by omega)] at h1
  rw [show (300 : Int32) = nI 300 from rfl, nI_ltI (by omega) hn'] at h2
  refine ⟨by omega, by omega, fun _ _ => ⟨(by decide : (0 : Int) ≤ (0 : Int32).toInt), (by decide : (0 : Int32).toInt ≤ 1000000)⟩, fun _ _ _ => rfl, by omega, fun i hi => absurd hi (Nat.not_lt_zero i), fun i hi => absurd hi (Nat.not_lt_zero i), fun i hi => absurd hi (Nat.not_lt_zero i), fun i j hi => absurd hi (Nat.not_lt_zero i)⟩
theorem KInv.size_ {n : Nat} {z F T : Nat → Int32} {C : Nat → Int64} {u : Nat} (K : KInv n z F T C u) {f y : Int32} (hf : ¬ isFI n f = 0) (h1 : ¬ y < 0) (h2 : ¬ 1000000 < y) : KInv n (upd z f.toNatClampNeg y) F T C u := by
  obtain ⟨a1, a2, a3, a4, a5⟩ := K
  obtain ⟨k, k1, k2⟩ := isFI_in a2 hf
  have hk : f.toNatClampNeg = k := by rw [k2]; exact ix_n (by omega)
  rw [Int32.lt_iff_toInt_lt] at h1 h2
  have h1 : ¬ y.toInt < 0 := h1
  have h2 : ¬ 1000000 < y.toInt := h2
  rw [hk]
  refine ⟨a1, a2, fun j hj => ?_, fun j hj hj3 => ?_, a5⟩
  · unfold upd
    split
    · omega
    · exact a3 j hj
  · unfold upd
    rw [if_neg (by omega)]
    exact a4 j hj hj3
theorem capadd_bd {x : Int64} {y : Int32} (hx : 0 ≤ x.toInt ∧ x.toInt ≤ 1000000000000) (h1 : ¬ y < 1) (h2 : ¬ 1000000000 < y) : 0 < (capadd x y).toInt ∧ (capadd x y).toInt ≤ 1000000000000 := by
  rw [Int32.lt_iff_toInt_lt] at h1 h2
  have h1 : ¬ y.toInt < 1 := h1
  have h2 : ¬ 1000000000 < y.toInt := h2
  have hs : (x + y.toInt64).toInt = x.toInt + y.toInt := by rw [l_add (by rw [i2l]; omega) (by rw [i2l]; omega), i2l]
  unfold capadd
  split
  · exact ⟨by decide, by decide⟩
  · rename_i h
    rw [Int64.lt_iff_toInt_lt] at h
    have h : ¬ 1000000000000 < (x + y.toInt64).toInt := h
    omega
theorem KInv.raise_ {n : Nat} {z F T : Nat → Int32} {C : Nat → Int64} {u : Nat} (K : KInv n z F T C u) {i : Nat} (hi : i < u) {y : Int32} (h1 : ¬ y < 1) (h2 : ¬ 1000000000 < y) : KInv n z F T (vp_updL C i (capadd (C i) y)) u := by
  obtain ⟨a1, a2, a3, a4, a5, a6, a7, a8, a9⟩ := K
  refine ⟨a1, a2, a3, a4, a5, a6, a7, fun j hj => ?_, a9⟩
  unfold vp_updL
  split
  · have := a8 i hi
    exact capadd_bd ⟨by omega, this.2⟩ h1 h2
  · exact a8 j hj
theorem pfind_no {F T : Nat → Int32} {f g : Int32} : ∀ (n k : Nat), pfind F T f g n k = k + n → ∀ i, k ≤ i → i < k + n → ¬ (F i = f ∧ T i = g) := by
  intro n
  induction n with
  | zero => intro k _ i h1 h2; omega
  | succ n ih =>
    intro k h i h1 h2 hc
    unfold pfind at h
    split at h
    · omega
    · rename_i hn
      by_cases e : i = k
      · subst e; exact hn hc
      · exact ih (k + 1) (by omega) i (by omega) (by omega) hc
theorem KInv.new_ {n : Nat} {z F T : Nat → Int32} {C : Nat → Int64} {u : Nat} (K : KInv n z F T C u) {f g y : Int32} (hf : ¬ isFI n f = 0) (hg : ¬ isFI n g = 0) (h1 : ¬ y < 1) (h2 : ¬ 1000000000 < y) (hp : pfind F T f g u 0 = u) (hu : u < 2000) : KInv n z (upd F u f) (upd T u g) (vp_updL (vp_updL C u 0) u (capadd 0 y)) (u + 1) := by
  obtain ⟨a1, a2, a3, a4, a5, a6, a7, a8, a9⟩ := K
  have hno := pfind_no u 0 (by rw [hp]; omega)
  refine ⟨a1, a2, a3, a4, by omega, fun i hi => ?_, fun i hi => ?_, fun i hi => ?_, fun i j hi hj e1 e2 => ?_⟩
  · unfold upd
    split
    · exact isFI_in a2 hf
    · exact a6 i (by omega)
  · unfold upd
    split
    · exact isFI_in a2 hg
    · exact a7 i (by omega)
  · unfold vp_updL
    by_cases e : i = u
    · rw [if_pos e]
      exact capadd_bd ⟨by decide, by decide⟩ h1 h2
    · rw [if_neg e, if_neg e]
      exact a8 i (by omega)
  · unfold upd at e1 e2
    by_cases c1 : i = u
    · by_cases c2 : j = u
      · omega
      · rw [if_pos c1, if_neg c2] at e1 e2
        exact absurd ⟨e1.symm, e2.symm⟩ (hno j (by omega) (by omega))
    · by_cases c2 : j = u
      · rw [if_neg c1, if_pos c2] at e1 e2
        exact absurd ⟨e1, e2⟩ (hno i (by omega) (by omega))
      · rw [if_neg c1, if_neg c2] at e1 e2
        exact a9 i j (by omega) (by omega) e1 e2
