def callerA (n : Nat) (z F T : Nat → Int32) (C : Nat → Int64) (u : Nat) (f : Int32) : Int32 := if hasI n z f = 0 then -1 else cof (fcN F T C z u) F f.toNatClampNeg
def rowA (l : List Nat) (k : Int32) : Int32 := if 0 ≤ k ∧ k < nI l.length then nI (l.getD k.toNatClampNeg 0) else -1
def beginA (n : Nat) (P : Int32) (z F T : Nat → Int32) (C : Nat → Int64) (u : Nat) (f : Int32) : Int64 := if hasI n z f = 0 then -1 else rowB z (sW P z F T C u) f.toNatClampNeg
def clusterA (n : Nat) (P : Int32) (z F T : Nat → Int32) (C : Nat → Int64) (u : Nat) (f : Int32) : Int32 := if hasI n z f = 0 then -1 else cFi (sX P z F T C u) f.toNatClampNeg
def costA (n : Nat) (P : Int32) (z F T : Nat → Int32) (C : Nat → Int64) (u : Nat) (k : Int32) : Int64 := if k = 0 then costN F T C (rowB z (sW P z F T C u)) u else if k = 1 then costN F T C (rowB z (nLst z n)) u else -1
theorem sX_inv {P : Int32} {z F T : Nat → Int32} {C : Nat → Int64} {u : Nat} (hu : u ≤ 2000) (hF : ∀ i, i < u → vp_in (F i) 300) : CInv z (sX P z F T C u) := bldX_inv (fun f _ => fcN_cof hu hF f)
theorem sW_len {P : Int32} {z F T : Nat → Int32} {C : Nat → Int64} {u : Nat} (hu : u ≤ 2000) (hF : ∀ i, i < u → vp_in (F i) 300) : (sW P z F T C u).length ≤ 300 := wLst_len (sX_inv hu hF)
theorem sW_toInt {P : Int32} {z F T : Nat → Int32} {C : Nat → Int64} {u : Nat} (hu : u ≤ 2000) (hF : ∀ i, i < u → vp_in (F i) 300) : (nI (sW P z F T C u).length).toInt ≤ ((300 : Nat) : Int) := by
  have h := sW_len (P := P) (z := z) (T := T) (C := C) hu hF
  generalize (sW P z F T C u).length = k at h ⊢
  rw [nI_toInt (by omega)]
  omega
theorem rowA_of {l : List Nat} {M : Nat → Int32} {k : Int32} (hl : l.length ≤ 300) (hM : ∀ j (h : j < l.length), M j = nI l[j]) : (if 0 ≤ k ∧ k < nI l.length then M k.toNatClampNeg else -1) = rowA l k := by
  unfold rowA
  split
  · rename_i h
    obtain ⟨j, hj, he⟩ := nI_of (x := k) (Int32.not_lt.mpr h.1)
    subst he
    have h1 : j < l.length := (nI_ltI hj (by omega)).mp h.2
    rw [nI_clamp hj, hM j h1, List.getD_eq_getElem?_getD, List.getElem?_eq_getElem h1]
    rfl
  · rfl
theorem hasI_in {n : Nat} {z : Nat → Int32} {f : Int32} (hn : n ≤ 300) (h : ¬ hasI n z f = 0) : vp_in f 300 := by
  unfold hasI at h
  by_cases h1 : isFI n f = 0
  · rw [if_pos h1] at h; exact absurd rfl h
  · exact isFI_v hn h1
