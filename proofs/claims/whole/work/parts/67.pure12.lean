theorem dens_nat {A B HA HB : Nat} (hA : 0 < A) (hB : 0 < B) : (if HA / A = HB / B then HB % B * A < HA % A * B else HB / B < HA / A) ↔ HB * A < HA * B := by
  have ea : HA = A * (HA / A) + HA % A := (Nat.div_add_mod HA A).symm
  have eb : HB = B * (HB / B) + HB % B := (Nat.div_add_mod HB B).symm
  have ra : HA % A < A := Nat.mod_lt _ hA
  have rb : HB % B < B := Nat.mod_lt _ hB
  generalize HA / A = qa at ea ⊢
  generalize HA % A = xa at ea ra ⊢
  generalize HB / B = qb at eb ⊢
  generalize HB % B = xb at eb rb ⊢
  have m1 : HB * A = A * B * qb + xb * A := by rw [eb, Nat.add_mul]; congr 1; rw [Nat.mul_right_comm, Nat.mul_comm B A]
  have m2 : HA * B = A * B * qa + xa * B := by rw [ea, Nat.add_mul]; congr 1; rw [Nat.mul_right_comm]
  have l1 : xb * A < A * B := by rw [Nat.mul_comm A B]; exact Nat.mul_lt_mul_of_pos_right rb hA
  have l2 : xa * B < A * B := Nat.mul_lt_mul_of_pos_right ra hB
  rw [m1, m2]
  split
  · rename_i h
    subst h
    omega
  · rename_i h
    constructor
    · intro h1
      have := Nat.mul_le_mul_left (A * B) (show qb + 1 ≤ qa by omega)
      rw [Nat.mul_add, Nat.mul_one] at this
      omega
    · intro h1
      rcases Nat.lt_or_ge qb qa with h2 | h2
      · exact h2
      · have := Nat.mul_le_mul_left (A * B) (show qa + 1 ≤ qb by omega)
        rw [Nat.mul_add, Nat.mul_one] at this
        omega
theorem lN_of {x : Int64} (h : 0 ≤ x.toInt) : x = lN x.toInt.toNat := by
  have hx : ¬ x < 0 := by
    rw [Int64.lt_iff_toInt_lt]
    show ¬ x.toInt < 0
    omega
  obtain ⟨k, h1, h2⟩ := pk_lOf hx
  have h3 : x.toInt = k := by rw [h2]; exact pk_lT h1
  rw [h3]
  exact h2
theorem densI_iff {ba bb ha hb : Int64} (h1 : 0 < ba.toInt ∧ ba.toInt ≤ 300000000) (h2 : 0 < bb.toInt ∧ bb.toInt ≤ 300000000) (h3 : 0 ≤ ha.toInt ∧ ha.toInt ≤ 600000000000000000) (h4 : 0 ≤ hb.toInt ∧ hb.toInt ≤ 600000000000000000) : densI ba bb ha hb = 0 ↔ ¬ hb.toInt.toNat * ba.toInt.toNat < ha.toInt.toNat * bb.toInt.toNat := by
  have e1 := lN_of (x := ba) (by omega)
  have e2 := lN_of (x := bb) (by omega)
  have e3 := lN_of h3.1
  have e4 := lN_of h4.1
  generalize hA : ba.toInt.toNat = A at e1 ⊢
  generalize hB : bb.toInt.toNat = B at e2 ⊢
  generalize hHA : ha.toInt.toNat = HA at e3 ⊢
  generalize hHB : hb.toInt.toNat = HB at e4 ⊢
  have a1 : 0 < A ∧ A ≤ 300000000 := by omega
  have a2 : 0 < B ∧ B ≤ 300000000 := by omega
  have a3 : HA ≤ 600000000000000000 := by omega
  have a4 : HB ≤ 600000000000000000 := by omega
  rw [e1, e2, e3, e4, ← dens_nat (HA := HA) (HB := HB) a1.1 a2.1]
  have z1 : ¬ lN A ≤ 0 := by
    rw [show (0 : Int64) = lN 0 from rfl, pk_lLE (by omega) (by omega)]
    omega
  have z2 : ¬ lN B ≤ 0 := by
    rw [show (0 : Int64) = lN 0 from rfl, pk_lLE (by omega) (by omega)]
    omega
  unfold densI
  rw [if_neg z1, if_neg z2, pk_lRem (by omega) a1.1 (by omega), pk_lRem (by omega) a2.1 (by omega), pk_lDiv (by omega) a1.1 (by omega), pk_lDiv (by omega) a2.1 (by omega), lN_mul, lN_mul]
  have q1 : HA / A < 2 ^ 63 := Nat.lt_of_le_of_lt (Nat.div_le_self _ _) (by omega)
  have q2 : HB / B < 2 ^ 63 := Nat.lt_of_le_of_lt (Nat.div_le_self _ _) (by omega)
  have r1 : HA % A < 300000000 := Nat.lt_of_lt_of_le (Nat.mod_lt _ a1.1) a1.2
  have r2 : HB % B < 300000000 := Nat.lt_of_lt_of_le (Nat.mod_lt _ a2.1) a2.2
  have p1 : HA % A * B ≤ 300000000 * 300000000 := Nat.mul_le_mul (Nat.le_of_lt r1) a2.2
  have p2 : HB % B * A ≤ 300000000 * 300000000 := Nat.mul_le_mul (Nat.le_of_lt r2) a1.2
  by_cases c : HA / A = HB / B
  · rw [if_pos (by rw [c]), if_pos c]
    by_cases d : HB % B * A < HA % A * B
    · rw [if_pos ((pk_lLT (by omega) (by omega)).mpr d)]
      exact ⟨fun h => absurd h (by decide), fun h => absurd d h⟩
    · rw [if_neg (fun h => d ((pk_lLT (by omega) (by omega)).mp h))]
      exact ⟨fun _ => d, fun _ => rfl⟩
  · rw [if_neg (fun h => c ((pk_lEQ q1 q2).mp h)), if_neg c]
    by_cases d : HB / B < HA / A
    · rw [if_pos ((pk_lLT q2 q1).mpr d)]
      exact ⟨fun h => absurd h (by decide), fun h => absurd d h⟩
    · rw [if_neg (fun h => d ((pk_lLT q2 q1).mp h))]
      exact ⟨fun _ => d, fun _ => rfl⟩
-- cross products
theorem cr_lt {Ha A Hb B Hc C : Nat} (hB : 0 < B) (hC : 0 < C) (h1 : Hb * A < Ha * B) (h2 : Hc * B ≤ Hb * C) : Hc * A < Ha * C := by
  have e1 : Hc * A * B ≤ Hb * C * A := by rw [Nat.mul_right_comm]; exact Nat.mul_le_mul_right A h2
  have e2 : Hb * A * C < Ha * B * C := Nat.mul_lt_mul_of_pos_right h1 hC
  have e3 : Hb * C * A = Hb * A * C := Nat.mul_right_comm _ _ _
  have e4 : Ha * B * C = Ha * C * B := Nat.mul_right_comm _ _ _
  exact Nat.lt_of_mul_lt_mul_right (a := B) (by omega)
theorem cr_le {Ha A Hb B Hc C : Nat} (hB : 0 < B) (h1 : Hb * A ≤ Ha * B) (h2 : Hc * B ≤ Hb * C) : Hc * A ≤ Ha * C := by
  have e1 : Hc * A * B ≤ Hb * C * A := by rw [Nat.mul_right_comm]; exact Nat.mul_le_mul_right A h2
  have e2 : Hb * A * C ≤ Ha * B * C := Nat.mul_le_mul_right C h1
  have e3 : Hb * C * A = Hb * A * C := Nat.mul_right_comm _ _ _
  have e4 : Ha * B * C = Ha * C * B := Nat.mul_right_comm _ _ _
  exact Nat.le_of_mul_le_mul_right (c := B) (by omega) hB
/-- the densities: D a b: a is denser than b -/
def Dn (X : CS) (a b : Nat) : Prop := (cHe X b).toInt.toNat * (cBy X a).toInt.toNat < (cHe X a).toInt.toNat * (cBy X b).toInt.toNat
def rlt (X : CS) (a b : Nat) : Prop := Dn X a b ∨ (¬ Dn X a b ∧ ¬ Dn X b a ∧ (cLe X a).toNatClampNeg < (cLe X b).toNatClampNeg)
theorem rlt_as (X : CS) (a b : Nat) : rlt X a b → ¬ rlt X b a := by
  unfold rlt Dn
  generalize (cHe X b).toInt.toNat * (cBy X a).toInt.toNat = p
  generalize (cHe X a).toInt.toNat * (cBy X b).toInt.toNat = q
  omega
theorem rlt_nD {X : CS} {a b : Nat} (h : rlt X a b) : ¬ Dn X b a := by
  rcases h with h | h
  · unfold Dn at h ⊢; omega
  · exact h.2.1
/-- X is good for ranking: heads are numbers with bounded sums and a least function -/
def Good (z : Nat → Int32) (X : CS) : Prop := CInv z X ∧ ∀ h, h < 300 → cFi X h = nI h → (0 < (cBy X h).toInt ∧ (cBy X h).toInt ≤ 300000000) ∧ (0 ≤ (cHe X h).toInt ∧ (cHe X h).toInt ≤ 600000000000000000) ∧ ∃ y, y ∈ cCh X h ∧ cLe X h = nI y ∧ ∀ m, m ∈ cCh X h → y ≤ m
theorem Good.dens {z : Nat → Int32} {X : CS} (G : Good z X) {a b : Nat} (ha : a < 300) (hb : b < 300) (fa : cFi X a = nI a) (fb : cFi X b = nI b) : densI (cBy X a) (cBy X b) (cHe X a) (cHe X b) = 0 ↔ ¬ Dn X a b := by
  obtain ⟨a1, a2, -⟩ := G.2 a ha fa
  obtain ⟨b1, b2, -⟩ := G.2 b hb fb
  exact densI_iff a1 b1 a2 b2
theorem Good.pos {z : Nat → Int32} {X : CS} (G : Good z X) {a : Nat} (ha : a < 300) (fa : cFi X a = nI a) : 0 < (cBy X a).toInt.toNat := by
  have := (G.2 a ha fa).1.1
  omega
theorem sX_good {n : Nat} {P : Int32} {z F T : Nat → Int32} {C : Nat → Int64} {u : Nat} (K : KInv n z F T C u) : Good z (sX P z F T C u) := by
  have I : CInv z (sX P z F T C u) := sX_inv K.2.2.2.2.1 K.F3
  refine ⟨I, fun h hh hf => ?_⟩
  have h1 := sX_by (P := P) K h hh hf
  have h2 := (sX_sum (P := P) K).bd I K.bear hh hf
  exact ⟨⟨h1, h2.1.2⟩, h2.2, (sX_sum (P := P) K h hh hf).1⟩
