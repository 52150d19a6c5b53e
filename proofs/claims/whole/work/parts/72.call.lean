/-- what a call of 'call' does: s1 marks that something was told -/
def CallP (n : Nat) (F T : Nat → Int32) (C : Nat → Int64) (u : Nat) (f g y : Int32) (r : Int64) (F' T' : Nat → Int32) (C' : Nat → Int64) (u' : Nat) (s' s0 s1 : Int32) : Prop := (r = -1 ∧ F' = F ∧ T' = T ∧ C' = C ∧ u' = u ∧ s' = s0 ∧ (isFI n f = 0 ∨ isFI n g = 0)) ∨ (¬ isFI n f = 0 ∧ ¬ isFI n g = 0 ∧ r = -2 ∧ F' = F ∧ T' = T ∧ C' = C ∧ u' = u ∧ s' = s0 ∧ (y < 1 ∨ 1000000000 < y)) ∨ (¬ isFI n f = 0 ∧ ¬ isFI n g = 0 ∧ ¬ y < 1 ∧ ¬ 1000000000 < y ∧ ((pfind F T f g u 0 = u ∧ u = 2000 ∧ r = -3 ∧ F' = F ∧ T' = T ∧ C' = C ∧ u' = u ∧ s' = s0) ∨ (pfind F T f g u 0 < u ∧ r = capadd (C (pfind F T f g u 0)) y ∧ F' = F ∧ T' = T ∧ C' = vp_updL C (pfind F T f g u 0) (capadd (C (pfind F T f g u 0)) y) ∧ u' = u ∧ s' = s1) ∨ (pfind F T f g u 0 = u ∧ u < 2000 ∧ r = capadd 0 y ∧ F' = upd F u f ∧ T' = upd T u g ∧ C' = vp_updL (vp_updL C u 0) u (capadd 0 y) ∧ u' = u + 1 ∧ s' = s1)))
theorem CallP.same {n : Nat} {F T : Nat → Int32} {C : Nat → Int64} {u : Nat} {f g y : Int32} {r r2 : Int64} {F' T' F2 T2 : Nat → Int32} {C' C2 : Nat → Int64} {u' u2 : Nat} {s' s0 s1 t' t0 t1 : Int32} (h1 : CallP n F T C u f g y r F' T' C' u' s' s0 s1) (h2 : CallP n F T C u f g y r2 F2 T2 C2 u2 t' t0 t1) : r = r2 ∧ F' = F2 ∧ T' = T2 ∧ C' = C2 ∧ u' = u2 := by
  rcases h1 with ⟨a1, a2, a3, a4, a5, a6, a7⟩ | ⟨n1, n2, a1, a2, a3, a4, a5, a6, a7⟩ | ⟨n1, n2, n3, n4, h⟩
  · rcases h2 with ⟨b1, b2, b3, b4, b5, b6, b7⟩ | ⟨m1, m2, -⟩ | ⟨m1, m2, -⟩
    · rw [a1, a2, a3, a4, a5, b1, b2, b3, b4, b5]; exact ⟨rfl, rfl, rfl, rfl, rfl⟩
    · exact absurd a7 (fun h => h.elim m1 m2)
    · exact absurd a7 (fun h => h.elim m1 m2)
  · rcases h2 with ⟨b1, b2, b3, b4, b5, b6, b7⟩ | ⟨m1, m2, b1, b2, b3, b4, b5, b6, b7⟩ | ⟨m1, m2, m3, m4, -⟩
    · exact absurd b7 (fun h => h.elim n1 n2)
    · rw [a1, a2, a3, a4, a5, b1, b2, b3, b4, b5]; exact ⟨rfl, rfl, rfl, rfl, rfl⟩
    · exact absurd a7 (fun h => h.elim m3 m4)
  · rcases h2 with ⟨b1, b2, b3, b4, b5, b6, b7⟩ | ⟨m1, m2, b1, b2, b3, b4, b5, b6, b7⟩ | ⟨m1, m2, m3, m4, k⟩
    · exact absurd b7 (fun h => h.elim n1 n2)
    · exact absurd b7 (fun h => h.elim n3 n4)
    · rcases h with ⟨p1, p2, a1, a2, a3, a4, a5, a6⟩ | ⟨p1, a1, a2, a3, a4, a5, a6⟩ | ⟨p1, p2, a1, a2, a3, a4, a5, a6⟩
      · rcases k with ⟨q1, q2, b1, b2, b3, b4, b5, b6⟩ | ⟨q1, -⟩ | ⟨q1, q2, -⟩
        · rw [a1, a2, a3, a4, a5, b1, b2, b3, b4, b5]; exact ⟨rfl, rfl, rfl, rfl, rfl⟩
        · omega
        · omega
      · rcases k with ⟨q1, q2, -⟩ | ⟨q1, b1, b2, b3, b4, b5, b6⟩ | ⟨q1, q2, -⟩
        · omega
        · rw [a1, a2, a3, a4, a5, b1, b2, b3, b4, b5]; exact ⟨rfl, rfl, rfl, rfl, rfl⟩
        · omega
      · rcases k with ⟨q1, q2, -⟩ | ⟨q1, -⟩ | ⟨q1, q2, b1, b2, b3, b4, b5, b6⟩
        · omega
        · omega
        · rw [a1, a2, a3, a4, a5, b1, b2, b3, b4, b5]; exact ⟨rfl, rfl, rfl, rfl, rfl⟩
theorem CallP.kept {n : Nat} {z F T : Nat → Int32} {C : Nat → Int64} {u : Nat} {f g y : Int32} {r : Int64} {F' T' : Nat → Int32} {C' : Nat → Int64} {u' : Nat} {s' s0 s1 : Int32} (K : KInv n z F T C u) (h : CallP n F T C u f g y r F' T' C' u' s' s0 s1) : KInv n z F' T' C' u' ∧ ((F' = F ∧ T' = T ∧ C' = C ∧ u' = u ∧ s' = s0) ∨ s' = s1) := by
  rcases h with ⟨a1, a2, a3, a4, a5, a6, a7⟩ | ⟨n1, n2, a1, a2, a3, a4, a5, a6, a7⟩ | ⟨n1, n2, n3, n4, h⟩
  · rw [a2, a3, a4, a5]; exact ⟨K, Or.inl ⟨rfl, rfl, rfl, rfl, a6⟩⟩
  · rw [a2, a3, a4, a5]; exact ⟨K, Or.inl ⟨rfl, rfl, rfl, rfl, a6⟩⟩
  · rcases h with ⟨p1, p2, a1, a2, a3, a4, a5, a6⟩ | ⟨p1, a1, a2, a3, a4, a5, a6⟩ | ⟨p1, p2, a1, a2, a3, a4, a5, a6⟩
    · rw [a2, a3, a4, a5]; exact ⟨K, Or.inl ⟨rfl, rfl, rfl, rfl, a6⟩⟩
    · rw [a2, a3, a4, a5]; exact ⟨K.raise_ p1 n3 n4, Or.inr a6⟩
    · rw [a2, a3, a4, a5]; exact ⟨K.new_ n1 n2 n3 n4 p1 p2, Or.inr a6⟩
