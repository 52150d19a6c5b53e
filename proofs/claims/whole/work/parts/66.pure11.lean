theorem l_add {a b : Int64} (h1 : -9223372036854775808 ≤ a.toInt + b.toInt) (h2 : a.toInt + b.toInt < 9223372036854775808) : (a + b).toInt = a.toInt + b.toInt := by
  rw [Int64.toInt_add]
  unfold Int.bmod
  simp only
  split <;> omega
def sI (f : Nat → Int) : List Nat → Int
  | [] => 0
  | x :: l => f x + sI f l
theorem sI_app (f : Nat → Int) (l l' : List Nat) : sI f (l ++ l') = sI f l + sI f l' := by
  induction l with
  | nil => simp [sI]
  | cons x l ih =>
    show f x + sI f (l ++ l') = f x + sI f l + sI f l'
    rw [ih]
    omega
theorem sI_le {f : Nat → Int} {B : Int} (hB : 0 ≤ B) : ∀ (l : List Nat), (∀ x, x ∈ l → 0 ≤ f x ∧ f x ≤ B) → 0 ≤ sI f l ∧ sI f l ≤ (l.length : Int) * B := by
  intro l
  induction l with
  | nil => intro _; simp [sI]
  | cons x l ih =>
    intro h
    have h1 := ih (fun y hy => h y (List.mem_cons_of_mem _ hy))
    have h2 := h x List.mem_cons_self
    unfold sI
    rw [List.length_cons, Int.natCast_add, Int.add_mul]
    generalize (l.length : Int) * B = w at h1 ⊢
    have : ((1 : Nat) : Int) * B = B := by simp
    rw [this]
    omega
theorem hN_bound {n : Nat} {z F T : Nat → Int32} {C : Nat → Int64} {u : Nat} (K : KInv n z F T C u) : ∀ k, k ≤ u → ∀ g, 0 ≤ (hN F T C k g).toInt ∧ (hN F T C k g).toInt ≤ (k : Int) * 1000000000000 := by
  obtain ⟨-, -, -, -, hu, -, -, hC, -⟩ := K
  intro k
  induction k with
  | zero => intro _ g; show 0 ≤ (0 : Int64).toInt ∧ (0 : Int64).toInt ≤ _; exact ⟨by decide, by simp⟩
  | succ k ih =>
    intro hk g
    have ih := ih (by omega)
    have hc := hC k (by omega)
    have h1 := ih g
    have h2 := ih (T k).toNatClampNeg
    show 0 ≤ (vp_updL (hN F T C k) (T k).toNatClampNeg (hN F T C k (T k).toNatClampNeg + C k) g).toInt ∧ (vp_updL (hN F T C k) (T k).toNatClampNeg (hN F T C k (T k).toNatClampNeg + C k) g).toInt ≤ ((k + 1 : Nat) : Int) * 1000000000000
    unfold vp_updL
    split
    · rw [l_add (by omega) (by omega)]
      omega
    · omega
theorem hN_le {n : Nat} {z F T : Nat → Int32} {C : Nat → Int64} {u : Nat} (K : KInv n z F T C u) (g : Nat) : 0 ≤ (hN F T C u g).toInt ∧ (hN F T C u g).toInt ≤ 2000000000000000 := by
  have h := hN_bound K u (Nat.le_refl _) g
  have hu := K.2.2.2.2.1
  omega
theorem i2l (x : Int32) : x.toInt64.toInt = x.toInt := Int32.toInt_toInt64 x
/-- least, sizes and heats of a chain -/
def CSum (z : Nat → Int32) (Hh : Nat → Int64) (X : CS) : Prop := ∀ h, h < 300 → cFi X h = nI h → (∃ y, y ∈ cCh X h ∧ cLe X h = nI y ∧ ∀ m, m ∈ cCh X h → y ≤ m) ∧ (cBy X h).toInt = sI (fun m => (z m).toInt) (cCh X h) ∧ (cHe X h).toInt = sI (fun m => (Hh m).toInt) (cCh X h)
/-- sizes and heats that sums can bear -/
def Bear (z : Nat → Int32) (Hh : Nat → Int64) : Prop := ∀ m, m < 300 → (0 ≤ (z m).toInt ∧ (z m).toInt ≤ 1000000) ∧ 0 ≤ (Hh m).toInt ∧ (Hh m).toInt ≤ 2000000000000000
theorem CSum.bd {z : Nat → Int32} {Hh : Nat → Int64} {X : CS} (Sx : CSum z Hh X) (I : CInv z X) (Bz : Bear z Hh) {h : Nat} (hh : h < 300) (hf : cFi X h = nI h) : (0 ≤ (cBy X h).toInt ∧ (cBy X h).toInt ≤ 300000000) ∧ 0 ≤ (cHe X h).toInt ∧ (cHe X h).toInt ≤ 600000000000000000 := by
  obtain ⟨-, s2, s3⟩ := Sx h hh hf
  have hl := I.len hh hf
  obtain ⟨-, -, ms, -⟩ := I.2.2 h hh hf
  have h1 := sI_le (f := fun m => (z m).toInt) (B := 1000000) (by decide) (cCh X h) (fun x hx => (Bz x (ms x hx).1).1)
  have h2 := sI_le (f := fun m => (Hh m).toInt) (B := 2000000000000000) (by decide) (cCh X h) (fun x hx => (Bz x (ms x hx).1).2)
  rw [s2, s3]
  omega
theorem CSum.start (z : Nat → Int32) (Hh : Nat → Int64) : CSum z Hh (bSt0 z Hh) := by
  intro h hh hf
  refine ⟨⟨h, List.mem_singleton.mpr rfl, rfl, fun m hm => ?_⟩, ?_, ?_⟩
  · rw [List.mem_singleton.mp hm]; exact Nat.le_refl _
  · show ((z h).toInt64).toInt = sI (fun m => (z m).toInt) [h]
    rw [i2l]
    show _ = (z h).toInt + 0
    omega
  · show (Hh h).toInt = (Hh h).toInt + 0
    omega
theorem CSum.join_ {z : Nat → Int32} {Hh : Nat → Int64} {X : CS} (Sx : CSum z Hh X) (I : CInv z X) (Bz : Bear z Hh) {a b : Nat} (ha : a < 300) (hb : b < 300) (hab : a ≠ b) (fa : cFi X a = nI a) (fb : cFi X b = nI b) : CSum z Hh (jS a b X) := by
  intro h hh hf
  obtain ⟨⟨ya, ya1, ya2, ya3⟩, a2, a3⟩ := Sx a ha fa
  obtain ⟨⟨yb, yb1, yb2, yb3⟩, b2, b3⟩ := Sx b hb fb
  have ba := Sx.bd I Bz ha fa
  have bb := Sx.bd I Bz hb fb
  have yal := ((I.2.2 a ha fa).2.2.1 ya ya1).1
  have ybl := ((I.2.2 b hb fb).2.2.1 yb yb1).1
  have hfi : cFi (jS a b X) h = if h ∈ cCh X b then nI a else cFi X h := rfl
  by_cases e : h = a
  · subst e
    have e1 : cCh (jS h b X) h = cCh X h ++ cCh X b := if_pos rfl
    have e2 : cLe (jS h b X) h = if cLe X b < cLe X h then cLe X b else cLe X h := if_pos rfl
    have e3 : cBy (jS h b X) h = cBy X h + cBy X b := if_pos rfl
    have e4 : cHe (jS h b X) h = cHe X h + cHe X b := if_pos rfl
    rw [e1, e2, e3, e4, sI_app, sI_app, l_add (by omega) (by omega), l_add (by omega) (by omega), a2, b2, a3, b3]
    refine ⟨?_, rfl, rfl⟩
    rw [ya2, yb2]
    by_cases c : nI yb < nI ya
    · rw [if_pos c]
      rw [nI_ltI (by omega) (by omega)] at c
      refine ⟨yb, List.mem_append_right _ yb1, rfl, fun m hm => ?_⟩
      rcases List.mem_append.mp hm with h1 | h1
      · have := ya3 m h1; omega
      · exact yb3 m h1
    · rw [if_neg c]
      rw [nI_ltI (by omega) (by omega)] at c
      refine ⟨ya, List.mem_append_left _ ya1, rfl, fun m hm => ?_⟩
      rcases List.mem_append.mp hm with h1 | h1
      · exact ya3 m h1
      · have := yb3 m h1; omega
  · have hnb : h ∉ cCh X b := by
      intro hm
      rw [hfi, if_pos hm] at hf
      exact e (nI_inj (by omega) (by omega) hf).symm
    rw [hfi, if_neg hnb] at hf
    have e1 : cCh (jS a b X) h = cCh X h := if_neg e
    have e2 : cLe (jS a b X) h = cLe X h := if_neg e
    have e3 : cBy (jS a b X) h = cBy X h := if_neg e
    have e4 : cHe (jS a b X) h = cHe X h := if_neg e
    rw [e1, e2, e3, e4]
    exact Sx h hh hf
theorem CSum.look_ {z : Nat → Int32} {Hh : Nat → Int64} {X : CS} (Sx : CSum z Hh X) (I : CInv z X) (Bz : Bear z Hh) {P : Int32} {cf : Nat → Int32} {f : Nat} (hf : Looks z cf f) : CSum z Hh (joinS P cf f X) := by
  obtain ⟨h1, h2, c, h3, h4, h5⟩ := hf
  obtain ⟨a, a1, a2, a3, -⟩ := I.2.1 c h3 h5
  obtain ⟨b, b1, b2, b3, -⟩ := I.2.1 f h1 h2
  unfold joinS
  rw [h4, ix_n (by omega), a2, b2, ix_n (by omega), ix_n (by omega)]
  split
  · exact Sx
  · rename_i hne
    split
    · exact Sx
    · exact Sx.join_ I Bz a1 b1 (fun e => hne (by rw [e])) a3 b3
theorem CSum.run {z : Nat → Int32} {Hh : Nat → Int64} (Bz : Bear z Hh) {P : Int32} {cf : Nat → Int32} : ∀ {l : List Nat} {X : CS}, CSum z Hh X → CInv z X → (∀ f, f ∈ l → Looks z cf f) → CSum z Hh (runJ P cf l X) := by
  intro l
  induction l with
  | nil => intro X Sx _ _; exact Sx
  | cons f l ih =>
    intro X Sx I h
    rw [runJ_cons]
    exact ih (Sx.look_ I Bz (h f List.mem_cons_self)) (I.look_ (h f List.mem_cons_self)) (fun g hg => h g (List.mem_cons_of_mem _ hg))
theorem KInv.bear {n : Nat} {z F T : Nat → Int32} {C : Nat → Int64} {u : Nat} (K : KInv n z F T C u) : Bear z (hN F T C u) := fun m hm => ⟨K.2.2.1 m hm, hN_le K m⟩
theorem sX_sum {n : Nat} {P : Int32} {z F T : Nat → Int32} {C : Nat → Int64} {u : Nat} (K : KInv n z F T C u) : CSum z (hN F T C u) (sX P z F T C u) := by
  have hu := K.2.2.2.2.1
  unfold sX bldX
  exact CSum.run K.bear (CSum.start z _) (CInv.start z _) (bLst_looks (fun f _ => fcN_cof hu K.F3 f))
theorem sX_by {n : Nat} {P : Int32} {z F T : Nat → Int32} {C : Nat → Int64} {u : Nat} (K : KInv n z F T C u) : ∀ h, h < 300 → cFi (sX P z F T C u) h = nI h → 0 < (cBy (sX P z F T C u) h).toInt := by
  intro h hh hf
  have I : CInv z (sX P z F T C u) := sX_inv K.2.2.2.2.1 K.F3
  obtain ⟨-, s2, -⟩ := sX_sum (P := P) K h hh hf
  have hs := I.self hh hf
  obtain ⟨-, -, ms, -⟩ := I.2.2 h hh hf
  generalize cCh (sX P z F T C u) h = l at s2 hs ms
  rw [s2]
  have hz : ∀ m, m ∈ l → 0 < (z m).toInt := by
    intro m hm
    obtain ⟨m1, m2⟩ := ms m hm
    have h1 : ¬ z m ≤ 0 := fun e => by
      have := (I.1 m m1).mpr e
      rw [m2] at this
      exact nI_m1 (by omega) this
    rw [le0_iff] at h1
    omega
  clear s2 ms
  have key : ∀ (l : List Nat), (∀ m, m ∈ l → 0 < (z m).toInt) → 0 ≤ sI (fun m => (z m).toInt) l := by
    intro l
    induction l with
    | nil => intro _; exact Int.le_refl 0
    | cons x l ih =>
      intro hp
      have h1 := ih (fun m hm => hp m (List.mem_cons_of_mem _ hm))
      have h2 := hp x List.mem_cons_self
      show 0 ≤ (z x).toInt + sI (fun m => (z m).toInt) l
      omega
  cases l with
  | nil => exact absurd hs List.not_mem_nil
  | cons x l =>
    have h1 := key l (fun m hm => hz m (List.mem_cons_of_mem _ hm))
    have h2 := hz x List.mem_cons_self
    show 0 < (z x).toInt + sI (fun m => (z m).toInt) l
    omega
