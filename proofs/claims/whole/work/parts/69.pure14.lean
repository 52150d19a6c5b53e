theorem selD_next {z : Nat → Int32} {X : CS} (G : Good z X) {n : Nat} (hn : n ≤ 300) (hz : ∀ j, j < 300 → ¬ z j ≤ 0 → j < n) {pre q : List Nat} {h : Nat} (e : rLst X (fun _ => 0) = pre ++ h :: q) : selD (cFi X) (cBy X) (cHe X) (ind pre) n = nI h := by
  have hpw := rLst_pw G (fun _ => 0)
  have hmem := rLst_mem G (fun _ => 0)
  rw [e, List.pairwise_append, List.pairwise_cons] at hpw
  obtain ⟨h1, h2⟩ := (hmem h).mp (by rw [e]; exact List.mem_append_right _ List.mem_cons_self)
  have hp : h ∉ pre := fun hf => absurd (hpw.2.2 h hf h List.mem_cons_self) (fun h9 => rlt_as X h h h9 h9)
  have hle : ∀ g, g < 300 → cFi X g = nI g → (cLe X g).toNatClampNeg < n := by
    intro g g1 g2
    obtain ⟨y, y1, y2, y3, -⟩ := G.le_lt g1 g2
    rw [y2, ix_n (by omega)]
    exact hz y y1 (fun e => by
      have := (G.1.1 y y1).mpr e
      rw [y3] at this
      exact nI_m1 (by omega) this)
  rcases selD_least G pre n hn with ⟨-, i2⟩ | ⟨m, m1, m2, m3, m4, m5⟩
  · exact absurd (hle h h1 h2) (i2 h h1 h2 hp)
  · rcases m5 h h1 h2 hp (hle h h1 h2) with e2 | e2
    · rw [m4, e2]
    · have hm : m ∈ pre ++ h :: q := by rw [← e]; exact (hmem m).mpr ⟨m1, m2⟩
      rcases List.mem_append.mp hm with h3 | h3
      · exact absurd h3 m3
      · rcases List.mem_cons.mp h3 with h4 | h4
        · rw [m4, h4]
        · exact absurd (hpw.2.1.1 m h4) (rlt_as X m h e2)
theorem selD_end {z : Nat → Int32} {X : CS} (G : Good z X) {n : Nat} (hn : n ≤ 300) : selD (cFi X) (cBy X) (cHe X) (ind (rLst X (fun _ => 0))) n = -1 := by
  rcases selD_least G (rLst X (fun _ => 0)) n hn with ⟨i1, -⟩ | ⟨m, m1, m2, m3, -⟩
  · exact i1
  · exact absurd ((rLst_mem G (fun _ => 0) m).mpr ⟨m1, m2⟩) m3
theorem KInv.pure_ {n : Nat} {P : Int32} {z F T : Nat → Int32} {C : Nat → Int64} {u : Nat} (K : KInv n z F T C u) : KPure n P z F T C u := by
  have hn := K.2.1
  have hu := K.2.2.2.2.1
  have G := sX_good (P := P) K
  refine ⟨allL (hN F T C u) n, allL_len _ n, fun pre f q h => selN_next hn h, runR_sX K, fun pre h q e => selD_next G hn K.hz e, selD_end G hn, fun h h1 h2 => ?_, fun f hf hzf => ?_⟩
  · rw [Int64.lt_iff_toInt_lt]
    exact (G.2 h h1 h2).1.1
  · rw [bm_cof K f]
    rcases fcN_cof hu K.F3 f with h | ⟨c, c1, c2, c3⟩
    · exact Or.inl h
    · exact Or.inr ⟨c, c1, c2, c3⟩
