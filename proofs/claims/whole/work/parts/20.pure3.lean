theorem fcN_src (F T : Nat → Int32) (C : Nat → Int64) (z : Nat → Int32) : ∀ (k g : Nat), fcN F T C z k g = -1 ∨ ∃ i, i < k ∧ fcN F T C z k g = nI i ∧ ¬ z (F i).toNatClampNeg ≤ 0 ∧ F i ≠ T i ∧ (T i).toNatClampNeg = g := by
  intro k
  induction k with
  | zero => intro g; exact Or.inl rfl
  | succ k ih =>
    intro g
    have h0 : fcN F T C z k g = -1 ∨ ∃ i, i < k + 1 ∧ fcN F T C z k g = nI i ∧ ¬ z (F i).toNatClampNeg ≤ 0 ∧ F i ≠ T i ∧ (T i).toNatClampNeg = g := by
      rcases ih g with h | ⟨i, h1, h2⟩
      · exact Or.inl h
      · exact Or.inr ⟨i, by omega, h2⟩
    show fcStep F T C z k (fcN F T C z k) g = -1 ∨ ∃ i, i < k + 1 ∧ fcStep F T C z k (fcN F T C z k) g = nI i ∧ ¬ z (F i).toNatClampNeg ≤ 0 ∧ F i ≠ T i ∧ (T i).toNatClampNeg = g
    unfold fcStep
    split
    · exact h0
    · rename_i hft
      split
      · exact h0
      · rename_i hz
        split
        · exact h0
        · unfold upd
          split
          · rename_i hg
            exact Or.inr ⟨k, by omega, rfl, hz, hft, hg.symm⟩
          · exact h0
theorem fcN_cof {F T : Nat → Int32} {C : Nat → Int64} {z : Nat → Int32} {u : Nat} (hu : u ≤ 2000) (hF : ∀ i, i < u → vp_in (F i) 300) (f : Nat) : cof (fcN F T C z u) F f = -1 ∨ ∃ c, c < 300 ∧ cof (fcN F T C z u) F f = nI c ∧ ¬ z c ≤ 0 := by
  unfold cof
  rcases fcN_src F T C z u f with h | ⟨i, h1, h2, h3, -⟩
  · exact Or.inl (if_pos h)
  · have h4 : ¬ fcN F T C z u f = -1 := by rw [h2]; exact nI_m1 (by omega)
    rw [if_neg h4, h2, ix_n (by omega)]
    obtain ⟨c, hc, he⟩ := nI_in9 (by omega) (hF i h1)
    rw [he, ix_n (by omega)] at h3
    exact Or.inr ⟨c, hc, he, h3⟩
theorem insF_inj {g : Nat → Int32} {a cnt : Nat} {x : Int32} (ha : a ≤ cnt) (hg : ∀ i j, i < cnt → j < cnt → g i = g j → i = j) (hx : ∀ i, i < cnt → g i ≠ x) : ∀ i j, i < cnt + 1 → j < cnt + 1 → insF g a cnt x i = insF g a cnt x j → i = j := by
  intro i j hi hj h
  unfold insF upd shf at h
  by_cases h1 : i = a
  · by_cases h2 : j = a
    · omega
    · rw [if_pos h1, if_neg h2] at h
      split at h
      · exact absurd h.symm (hx _ (by omega))
      · exact absurd h.symm (hx _ (by omega))
  · by_cases h2 : j = a
    · rw [if_neg h1, if_pos h2] at h
      split at h
      · exact absurd h (hx _ (by omega))
      · exact absurd h (hx _ (by omega))
    · rw [if_neg h1, if_neg h2] at h
      split at h
      · split at h
        · have := hg _ _ (by omega) (by omega) h; omega
        · have := hg _ _ (by omega) (by omega) h; omega
      · split at h
        · have := hg _ _ (by omega) (by omega) h; omega
        · exact hg _ _ (by omega) (by omega) h
theorem rkN_more (fi le : Nat → Int32) (by_ he : Nat → Int64) (g : Nat → Int32) : ∀ k, k ≤ 300 → (∀ j, j < (rkN fi le by_ he g k).1 → ∃ x, x < k ∧ (rkN fi le by_ he g k).2 j = fi x ∧ fi x ≠ -1 ∧ le (fi x).toNatClampNeg = nI x) ∧ ∀ i j, i < (rkN fi le by_ he g k).1 → j < (rkN fi le by_ he g k).1 → (rkN fi le by_ he g k).2 i = (rkN fi le by_ he g k).2 j → i = j := by
  intro k
  induction k with
  | zero => intro _; exact ⟨fun j h => absurd h (Nat.not_lt_zero j), fun i j h => absurd h (Nat.not_lt_zero i)⟩
  | succ k ih =>
    intro hk
    obtain ⟨ih1, ih2⟩ := ih (by omega)
    have h0 : ∀ j, j < (rkN fi le by_ he g k).1 → ∃ x, x < k + 1 ∧ (rkN fi le by_ he g k).2 j = fi x ∧ fi x ≠ -1 ∧ le (fi x).toNatClampNeg = nI x := by
      intro j h
      obtain ⟨x, h1, h2⟩ := ih1 j h
      exact ⟨x, by omega, h2⟩
    show (∀ j, j < (rkStep fi le by_ he k (rkN fi le by_ he g k)).1 → ∃ x, x < k + 1 ∧ (rkStep fi le by_ he k (rkN fi le by_ he g k)).2 j = fi x ∧ fi x ≠ -1 ∧ le (fi x).toNatClampNeg = nI x) ∧ ∀ i j, i < (rkStep fi le by_ he k (rkN fi le by_ he g k)).1 → j < (rkStep fi le by_ he k (rkN fi le by_ he g k)).1 → (rkStep fi le by_ he k (rkN fi le by_ he g k)).2 i = (rkStep fi le by_ he k (rkN fi le by_ he g k)).2 j → i = j
    unfold rkStep
    split
    · exact ⟨h0, ih2⟩
    · split
      · rename_i h1 h2
        refine ⟨insF_all (P := fun y => ∃ x, x < k + 1 ∧ y = fi x ∧ fi x ≠ -1 ∧ le (fi x).toNatClampNeg = nI x) (bpos_le _ _) h0 ⟨k, by omega, rfl, h1, h2⟩, insF_inj (bpos_le _ _) ih2 (fun i hi e => ?_)⟩
        obtain ⟨x, x1, x2, x3, x4⟩ := ih1 i hi
        rw [x2] at e
        rw [e, h2] at x4
        have := nI_inj (by omega) (by omega) x4
        omega
      · exact ⟨h0, ih2⟩
def rLst (X : CS) (rk : Nat → Int32) : List Nat := (List.range (rkN (cFi X) (cLe X) (cBy X) (cHe X) rk 300).1).map (fun j => ((rkN (cFi X) (cLe X) (cBy X) (cHe X) rk 300).2 j).toNatClampNeg)
theorem rLst_len (X : CS) (rk : Nat → Int32) : (rLst X rk).length = (rkN (cFi X) (cLe X) (cBy X) (cHe X) rk 300).1 := by simp [rLst]
theorem rLst_src {z : Nat → Int32} {X : CS} (I : CInv z X) {rk : Nat → Int32} {j : Nat} (hj : j < (rkN (cFi X) (cLe X) (cBy X) (cHe X) rk 300).1) : ∃ h, h < 300 ∧ (rkN (cFi X) (cLe X) (cBy X) (cHe X) rk 300).2 j = nI h ∧ cFi X h = nI h := by
  obtain ⟨x, h1, h2, h3, -⟩ := (rkN_more (cFi X) (cLe X) (cBy X) (cHe X) rk 300 (Nat.le_refl _)).1 j hj
  obtain ⟨h, a1, a2, a3, -⟩ := I.2.1 x h1 (fun e => h3 ((I.1 x h1).mpr e))
  exact ⟨h, a1, by rw [h2, a2], a3⟩
theorem rLst_get {z : Nat → Int32} {X : CS} (I : CInv z X) {rk : Nat → Int32} (j : Nat) (h : j < (rLst X rk).length) : (rkN (cFi X) (cLe X) (cBy X) (cHe X) rk 300).2 j = nI (rLst X rk)[j] := by
  have hj : j < (rkN (cFi X) (cLe X) (cBy X) (cHe X) rk 300).1 := by rw [rLst_len] at h; exact h
  obtain ⟨x, h1, h2, -⟩ := rLst_src I hj
  have h3 : (rLst X rk)[j] = ((rkN (cFi X) (cLe X) (cBy X) (cHe X) rk 300).2 j).toNatClampNeg := by simp [rLst]
  rw [h3, h2, ix_n (by omega)]
theorem rLst_head {z : Nat → Int32} {X : CS} (I : CInv z X) {rk : Nat → Int32} : ∀ h, h ∈ rLst X rk → h < 300 ∧ cFi X h = nI h := by
  intro h hh
  unfold rLst at hh
  obtain ⟨j, hj, he⟩ := List.mem_map.mp hh
  rw [List.mem_range] at hj
  obtain ⟨x, h1, h2, h3⟩ := rLst_src I hj
  rw [h2, ix_n (by omega)] at he
  subst he
  exact ⟨h1, h3⟩
theorem rLst_nodup {z : Nat → Int32} {X : CS} (I : CInv z X) {rk : Nat → Int32} : (rLst X rk).Nodup := by
  unfold rLst
  have h0 := (rkN_more (cFi X) (cLe X) (cBy X) (cHe X) rk 300 (Nat.le_refl _)).2
  have h1 : ∀ i, i < (rkN (cFi X) (cLe X) (cBy X) (cHe X) rk 300).1 → ∃ h, h < 300 ∧ (rkN (cFi X) (cLe X) (cBy X) (cHe X) rk 300).2 i = nI h ∧ cFi X h = nI h := fun i hi => rLst_src I hi
  generalize (rkN (cFi X) (cLe X) (cBy X) (cHe X) rk 300).2 = g at h0 h1 ⊢
  generalize (rkN (cFi X) (cLe X) (cBy X) (cHe X) rk 300).1 = n at h0 h1 ⊢
  rw [List.nodup_iff_pairwise_ne, List.pairwise_map]
  refine List.Pairwise.imp_of_mem ?_ (List.nodup_iff_pairwise_ne.mp (List.nodup_range (n := n)))
  intro i j hi hj hij e
  rw [List.mem_range] at hi hj
  obtain ⟨x, x1, x2, -⟩ := h1 i hi
  obtain ⟨y, y1, y2, -⟩ := h1 j hj
  apply hij
  apply h0 i j hi hj
  rw [x2, y2, ix_n (by omega), ix_n (by omega)] at e
  rw [x2, y2, e]
theorem flat_nodup (ch : Nat → List Nat) : ∀ (hs : List Nat), hs.Nodup → (∀ h, h ∈ hs → (ch h).Nodup) → (∀ g h m, g ∈ hs → h ∈ hs → m ∈ ch g → m ∈ ch h → g = h) → (hs.flatMap ch).Nodup
  | [], _, _, _ => List.nodup_nil
  | a :: hs, hn, hc, hd => by
    rw [List.flatMap_cons, List.nodup_append]
    refine ⟨hc a List.mem_cons_self, flat_nodup ch hs (List.nodup_cons.mp hn).2 (fun h hh => hc h (List.mem_cons_of_mem _ hh)) (fun g h m hg hh => hd g h m (List.mem_cons_of_mem _ hg) (List.mem_cons_of_mem _ hh)), fun p hp q hq e => ?_⟩
    subst e
    obtain ⟨h, h1, h2⟩ := List.mem_flatMap.mp hq
    have := hd a h p List.mem_cons_self (List.mem_cons_of_mem _ h1) hp h2
    subst this
    exact (List.nodup_cons.mp hn).1 h1
def wLst (X : CS) (rk : Nat → Int32) : List Nat := (rLst X rk).flatMap (cCh X)
theorem wLst_in {z : Nat → Int32} {X : CS} (I : CInv z X) {rk : Nat → Int32} : (wLst X rk).Nodup ∧ ∀ m, m ∈ wLst X rk → m < 300 := by
  constructor
  · refine flat_nodup (cCh X) _ (rLst_nodup I) (fun h hh => ?_) (fun g h m hg hh mg mh => ?_)
    · obtain ⟨h1, h2⟩ := rLst_head I h hh
      exact (I.2.2 h h1 h2).2.1
    · obtain ⟨g1, g2⟩ := rLst_head I g hg
      obtain ⟨h1, h2⟩ := rLst_head I h hh
      have e1 := ((I.2.2 g g1 g2).2.2.1 m mg).2
      have e2 := ((I.2.2 h h1 h2).2.2.1 m mh).2
      rw [e1] at e2
      exact nI_inj (by omega) (by omega) e2
  · intro m hm
    obtain ⟨h, hh, h2⟩ := List.mem_flatMap.mp hm
    obtain ⟨h3, h4⟩ := rLst_head I h hh
    exact ((I.2.2 h h3 h4).2.2.1 m h2).1
theorem wLst_len {z : Nat → Int32} {X : CS} (I : CInv z X) {rk : Nat → Int32} : (wLst X rk).length ≤ 300 := nodup_le 300 _ (wLst_in I).1 (wLst_in I).2
theorem bldX_inv {P : Int32} {z S F : Nat → Int32} {Hh : Nat → Int64} {lo : Nat → Int32} (hcf : ∀ f, f < 300 → cof S F f = -1 ∨ ∃ c, c < 300 ∧ cof S F f = nI c ∧ ¬ z c ≤ 0) : CInv z (bldX P z S F Hh lo) := CInv.run (CInv.start z Hh) (bLst_looks hcf)
/-- the functions with sizes by number -/
def nLst (z : Nat → Int32) (n : Nat) : List Nat := (List.range n).filter (fun f => decide (0 < z f))
theorem nLst_s (z : Nat → Int32) (n : Nat) : nLst z (n + 1) = if 0 < z n then nLst z n ++ [n] else nLst z n := by
  unfold nLst
  rw [List.range_succ, List.filter_append]
  by_cases h : 0 < z n
  · simp [h]
  · simp [h]
theorem nLst_len (z : Nat → Int32) (n : Nat) : (nLst z n).length ≤ n := by
  unfold nLst
  exact Nat.le_trans (List.length_filter_le _ _) (by simp)
