/-- the class's list is the sorted list of all, without those that nothing happens to -/
theorem bLst_all {n : Nat} {z F T : Nat → Int32} {C : Nat → Int64} {u : Nat} (K : KInv n z F T C u) (he : Nat → Int64) (S : Nat → Int32) : bLst z S F he (fun _ => 0) = (allL he n).filter (fun x => decide (¬ z x ≤ 0 ∧ cof S F x ≠ -1)) := by
  have hn := K.2.1
  refine sorted_eq (r := hlt he) (hlt_as he) (aLst_pw (obh_sorted (bFi0 z) S F he (fun _ => 0) 300 (Nat.le_refl _))) ((allL_pw he hn).filter _) (fun x => ?_)
  have h1 : x ∈ bLst z S F he (fun _ => 0) ↔ x < 300 ∧ bFi0 z x ≠ -1 ∧ cof S F x ≠ -1 := by
    refine aLst_mem (st := obhN (bFi0 z) S F he (fun _ => 0) 300) (c := fun x => x < 300 ∧ bFi0 z x ≠ -1 ∧ cof S F x ≠ -1) (fun x h => h.1) (fun y => ?_) x
    rw [obh_mem (bFi0 z) S F he (fun _ => 0) 300 (Nat.le_refl _) y]
    constructor
    · rintro ⟨x, a1, a2, a3⟩; exact ⟨x, a2, a1, a3⟩
    · rintro ⟨x, a2, a1, a3⟩; exact ⟨x, a1, a2, a3⟩
  rw [h1, List.mem_filter, allL_mem he hn, decide_eq_true_iff]
  constructor
  · rintro ⟨a1, a2, a3⟩
    have hz : ¬ z x ≤ 0 := fun e => a2 (by unfold bFi0; rw [if_pos e])
    exact ⟨K.hz x a1 hz, hz, a3⟩
  · rintro ⟨a1, a2, a3⟩
    exact ⟨by omega, by unfold bFi0; rw [if_neg a2]; exact nI_m1 (by omega), a3⟩
theorem runJ_cons (P : Int32) (cf : Nat → Int32) (f : Nat) (l : List Nat) (X : CS) : runJ P cf (f :: l) X = runJ P cf l (joinS P cf f X) := by
  unfold runJ
  rw [List.foldl_cons]
theorem runR_cons (P : Int32) (z be : Nat → Int32) (f : Nat) (l : List Nat) (X : CS) : runR P z be (f :: l) X = runR P z be l (joinR P z be f X) := by
  unfold runR
  rw [List.foldl_cons]
theorem runR_run {P : Int32} {z be cf : Nat → Int32} (hbc : ∀ f, be f = cf f) (hcf : ∀ f, cf f = -1 ∨ ∃ c, c < 300 ∧ cf f = nI c) : ∀ (l : List Nat) (X : CS), runR P z be l X = runJ P cf (l.filter (fun x => decide (¬ z x ≤ 0 ∧ cf x ≠ -1))) X := by
  intro l
  induction l with
  | nil => intro X; rw [List.filter_nil]; unfold runR runJ; rw [List.foldl_nil, List.foldl_nil]
  | cons f l ih =>
    intro X
    rw [runR_cons, ih]
    by_cases h1 : z f ≤ 0
    · have e1 : joinR P z be f X = X := by unfold joinR; rw [if_pos h1]
      rw [e1, List.filter_cons_of_neg (by rw [decide_eq_true_iff]; exact fun h => h.1 h1)]
    · rcases hcf f with h2 | ⟨c, c1, c2⟩
      · have e1 : joinR P z be f X = X := by unfold joinR; rw [if_neg h1, hbc f, h2, if_pos m1_lt]
        rw [e1, List.filter_cons_of_neg (by rw [decide_eq_true_iff]; exact fun h => h.2 h2)]
      · have h3 : cf f ≠ -1 := by rw [c2]; exact nI_m1 (by omega)
        have e1 : joinR P z be f X = joinS P cf f X := by unfold joinR; rw [if_neg h1, hbc f, c2, if_neg (nI_n0 (by omega))]; exact joinS_cf (hbc f)
        rw [e1, List.filter_cons_of_pos (by rw [decide_eq_true_iff]; exact ⟨h1, h3⟩), runJ_cons]
theorem runR_sX {n : Nat} {P : Int32} {z F T : Nat → Int32} {C : Nat → Int64} {u : Nat} (K : KInv n z F T C u) : runR P z (bmN F T C z u).2 (allL (hN F T C u) n) (bSt0 z (hN F T C u)) = sX P z F T C u := by
  have hu := K.2.2.2.2.1
  rw [runR_run (cf := cof (fcN F T C z u) F) (fun f => bm_cof K f) (fun f => by
    rcases fcN_cof hu K.F3 f with h | ⟨c, c1, c2, -⟩
    · exact Or.inl h
    · exact Or.inr ⟨c, c1, c2⟩)]
  unfold sX bldX
  rw [bLst_all K]
