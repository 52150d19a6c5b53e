theorem upd_mix {n i : Nat} {X f : Nat → Int32} {v : Int32} (h : i < n) : upd (mix n X f) i v = mix n (upd X i v) f := by
  funext j
  unfold upd mix
  by_cases h1 : j = i
  · subst h1; simp [h]
  · simp [h1]
theorem updL_mix {n i : Nat} {X f : Nat → Int64} {v : Int64} (h : i < n) : vp_updL (mix n X f) i v = mix n (vp_updL X i v) f := by
  funext j
  unfold vp_updL mix
  by_cases h1 : j = i
  · subst h1; simp [h]
  · simp [h1]
def befN (z : Nat → Int32) : Nat → Int64
  | 0 => 0
  | k + 1 => befN z k + (z k).toInt64
theorem CInv.tail {z : Nat → Int32} {X : CS} (I : CInv z X) {a b : Nat} (ha : a < 300) (hb : b < 300) (hab : a ≠ b) (fa : cFi X a = nI a) (fb : cFi X b = nI b) : Chain (cNx (jS a b X)) (cCh X b) (nI b) := by
  obtain ⟨-, -, ma, xa, la1, la2⟩ := I.2.2 a ha fa
  obtain ⟨chb, -, mb, -⟩ := I.2.2 b hb fb
  have xain : xa ∈ cCh X a := List.mem_of_getLast? la1
  have xalt := (ma xa xain).1
  refine Chain.congr (fun y hy => ?_) chb
  show cNx X y = upd (cNx X) (cLa X a).toNatClampNeg (nI b) y
  rw [la2, ix_n (by omega)]
  have : y ≠ xa := fun e => by
    have h1 := (mb y hy).2
    rw [e, (ma xa xain).2] at h1
    exact hab (nI_inj (by omega) (by omega) h1)
  unfold upd
  rw [if_neg this]
/-- the callers as the reference finds them: most calls, and by whom -/
def bmStep (F T : Nat → Int32) (C : Nat → Int64) (z : Nat → Int32) (k : Nat) (s : (Nat → Int64) × (Nat → Int32)) : (Nat → Int64) × (Nat → Int32) := if F k = T k then s else if z (F k).toNatClampNeg = 0 then s else if C k < s.1 (T k).toNatClampNeg then s else if C k = s.1 (T k).toNatClampNeg then (if F k ≤ s.2 (T k).toNatClampNeg then (vp_updL s.1 (T k).toNatClampNeg (C k), upd s.2 (T k).toNatClampNeg (F k)) else s) else (vp_updL s.1 (T k).toNatClampNeg (C k), upd s.2 (T k).toNatClampNeg (F k))
def bmN (F T : Nat → Int32) (C : Nat → Int64) (z : Nat → Int32) : Nat → (Nat → Int64) × (Nat → Int32)
  | 0 => (fun _ => 0, fun _ => -1)
  | k + 1 => bmStep F T C z k (bmN F T C z k)
/-- the first of the hottest that are not done -/
def selN (hs : Nat → Int64) (dn : Nat → Int32) : Nat → Int32
  | 0 => -1
  | k + 1 => if dn k = 0 then (if selN hs dn k < 0 then nI k else if hs (selN hs dn k).toNatClampNeg < hs k then nI k else selN hs dn k) else selN hs dn k
theorem selN_in (hs : Nat → Int64) (dn : Nat → Int32) : ∀ k, k ≤ 300 → selN hs dn k = -1 ∨ ∃ j, j < k ∧ selN hs dn k = nI j := by
  intro k
  induction k with
  | zero => intro _; exact Or.inl rfl
  | succ k ih =>
    intro hk
    have h0 : selN hs dn k = -1 ∨ ∃ j, j < k + 1 ∧ selN hs dn k = nI j := by
      rcases ih (by omega) with h | ⟨j, h1, h2⟩
      · exact Or.inl h
      · exact Or.inr ⟨j, by omega, h2⟩
    unfold selN
    split
    · split
      · exact Or.inr ⟨k, by omega, rfl⟩
      · split
        · exact Or.inr ⟨k, by omega, rfl⟩
        · exact h0
    · exact h0
/-- marks of those in l -/
def ind (l : List Nat) : Nat → Int32 := fun j => if j ∈ l then 1 else 0
theorem ind_snoc (l : List Nat) (f : Nat) : upd (ind l) f 1 = ind (l ++ [f]) := by
  funext j
  unfold upd ind
  by_cases h1 : j = f
  · subst h1; simp
  · simp [h1]
def joinR (P : Int32) (z be : Nat → Int32) (f : Nat) (X : CS) : CS := if z f ≤ 0 then X else if be f < 0 then X else joinS P be f X
def runR (P : Int32) (z be : Nat → Int32) (l : List Nat) (X : CS) : CS := l.foldl (fun X f => joinR P z be f X) X
/-- the first of the densest clusters that are not done -/
def selD (fi : Nat → Int32) (by_ he : Nat → Int64) (dn : Nat → Int32) : Nat → Int32
  | 0 => -1
  | k + 1 => if fi k < 0 then selD fi by_ he dn k else if dn (fi k).toNatClampNeg = 0 then (if fi k = selD fi by_ he dn k then selD fi by_ he dn k else if selD fi by_ he dn k < 0 then fi k else if densI (by_ (fi k).toNatClampNeg) (by_ (selD fi by_ he dn k).toNatClampNeg) (he (fi k).toNatClampNeg) (he (selD fi by_ he dn k).toNatClampNeg) = 0 then selD fi by_ he dn k else fi k) else selD fi by_ he dn k
theorem selD_in (fi : Nat → Int32) (by_ he : Nat → Int64) (dn : Nat → Int32) : ∀ k, selD fi by_ he dn k = -1 ∨ ∃ j, j < k ∧ selD fi by_ he dn k = fi j ∧ ¬ fi j < 0 := by
  intro k
  induction k with
  | zero => exact Or.inl rfl
  | succ k ih =>
    have h0 : selD fi by_ he dn k = -1 ∨ ∃ j, j < k + 1 ∧ selD fi by_ he dn k = fi j ∧ ¬ fi j < 0 := by
      rcases ih with h | ⟨j, h1, h2⟩
      · exact Or.inl h
      · exact Or.inr ⟨j, by omega, h2⟩
    unfold selD
    split
    · exact h0
    · rename_i hk
      split
      · split
        · exact h0
        · split
          · exact Or.inr ⟨k, by omega, rfl, hk⟩
          · split
            · exact h0
            · exact Or.inr ⟨k, by omega, rfl, hk⟩
      · exact h0
theorem m1_lt : (-1 : Int32) < 0 := by decide
theorem nI_n0 {x : Nat} (h : x < 2000000) : ¬ nI x < 0 := nI_pos (by omega)
