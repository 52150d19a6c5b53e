set_option maxHeartbeats 4000000 in
set_option maxRecDepth 100000 in
theorem ct_X2_memberCount (l : Launch) (dC : Nat → ClassId) (dI : Nat → Nat → Nat) (cI cJ cZ : ClassId) (sz : Nat) (h0 : Nat) (h1 : Nat) (h2 : Nat) (M : Nat → Int32) (B : Nat → Int64) (u : Int32) (e : Int64)  : Met l yX2_memberCount wsX2_memberCount ({ frames := 0, cells := 0, slots := 0, locals := 0 }) (va_Pc [.ref h0] (fun U => U.heap.size = sz ∧ va_P (dC, dI) vwCl [(h0, .inr (2, [.ref h1, .ref h2, .int u, .long e])), (h1, .inl (cI, 300, .inl M)), (h2, .inl (cJ, 300, .inr (.inl B)))] U.heap ∧ va_K (dC, dI) vwCl [(cI, .int), (cJ, .long), (cZ, .boolean)] U ∧ va_D (fun _ => True) [(h0, .inr (2, [.ref h1, .ref h2, .int u, .long e])), (h1, .inl (cI, 300, .inl M)), (h2, .inl (cJ, 300, .inr (.inl B)))])) (va_Qi (fun (r : Int32) (uu : Unit) => r = u) (fun (uu : Unit) (t : State) => va_P (dC, dI) vwCl [(h0, .inr (2, [.ref h1, .ref h2, .int u, .long e])), (h1, .inl (cI, 300, .inl M)), (h2, .inl (cJ, 300, .inr (.inl B)))] t.heap ∧ va_K (dC, dI) vwCl [(cI, .int), (cJ, .long), (cZ, .boolean)] t ∧ va_D (va_A [(h0, .inr (2, [.ref h1, .ref h2, .int u, .long e])), (h1, .inl (cI, 300, .inl M)), (h2, .inl (cJ, 300, .inr (.inl B)))] sz) [(h0, .inr (2, [.ref h1, .ref h2, .int u, .long e])), (h1, .inl (cI, 300, .inl M)), (h2, .inl (cJ, 300, .inr (.inl B)))]) (va_A [(h0, .inr (2, [.ref h1, .ref h2, .int u, .long e])), (h1, .inl (cI, 300, .inl M)), (h2, .inl (cJ, 300, .inr (.inl B)))] sz)) 0 0 (va_A [(h0, .inr (2, [.ref h1, .ref h2, .int u, .long e])), (h1, .inl (cI, 300, .inl M)), (h2, .inl (cJ, 300, .inr (.inl B)))] sz) := by
  refine Met.ofW (cc := cX2_memberCount) (maxL := 1) (ret := (some .int)) (by decide) rfl ?_
  intro p ev s m args below meth c s₁ Bd hml hv
  obtain ⟨rfl, hsz, hP, hK, hD0⟩ := hv
  have hx := Bd.exec
  have hb := Bd.bytes
  have hr := Bd.returns
  have hts := atoms_spec (ws := wsX2_memberCount) Bd.pre
  have hown : s.vm.findClass RX2 = some m.cls := findClass_of_methodNamed Bd.named
  have hlocks := Bd.notSynchronized
  have hin2 : ∀ w ∈ wsX20, w ∈ wsX2_memberCount := by decide +kernel
  subst hsz
  have hD := hD0.self (sz := s.heap.size)
  generalize hAe : va_A [(h0, .inr (2, [.ref h1, .ref h2, .int u, .long e])), (h1, .inl (cI, 300, .inl M)), (h2, .inl (cJ, 300, .inr (.inl B)))] s.heap.size = A at hD ⊢
  have hA : ∀ q : Nat, s.heap.size ≤ q → A q := fun q h => by rw [← hAe]; exact Or.inr h
  have hS : va_S A s.heap s.heap [] := va_S.rf
  have hl := lv_entry ([.ref h0]) (n := 1) (Nat.le_of_ble_eq_true rfl)
  rw [lg_entry_eq]
  generalize (lg_sl ([.ref h0]) ++ List.replicate (1 - (lg_sl ([.ref h0])).length) Slot.unset).toArray = ls at hl ⊢
  have hl : lv_has ls 1 [(0, .ref h0)] := hl
  generalize hHe : s.heap = H at hP ⊢
  have hS : va_S A s.heap H [] := hHe ▸ hS
  refine lv_aload_n hx hb dX2_memberCount_0 rfl (lv_at hl 0 rfl) ?_
  refine va_get (D := (dC, dI)) (ci := 2) (v := .int u) (C := RX2) (T := TX2) (N := 4) hx hb hts hin2 hown hK hP 0 rfl rfl 2 (by decide) (hts (.fieldLink RX2 19 "CallClusters$Row" "used" "I") (by decide +kernel)) (fun _ h9 => h9) rfl dX2_memberCount_1 ?_
  have hP9 : va_P (dC, dI) vwCl [(h0, .inr (2, [.ref h1, .ref h2, .int u, .long e])), (h1, .inl (cI, 300, .inl M)), (h2, .inl (cJ, 300, .inr (.inl B)))] H := hP
  have hD9 : va_D A [(h0, .inr (2, [.ref h1, .ref h2, .int u, .long e])), (h1, .inl (cI, 300, .inl M)), (h2, .inl (cJ, 300, .inr (.inl B)))] := hD
  exact W.iret (v := u) hx hb hr (fun t ht hW => ⟨⟨u, (), rfl, rfl, by rw [ht]; exact hP9, va_K.moved hW.alike hK, hD9⟩, hS.F ht⟩) hS.2.2 dX2_memberCount_4
set_option maxHeartbeats 4000000 in
set_option maxRecDepth 100000 in
theorem ct_X2_memberAt (l : Launch) (dC : Nat → ClassId) (dI : Nat → Nat → Nat) (cI cJ cZ : ClassId) (sz : Nat) (h0 : Nat) (h1 : Nat) (h2 : Nat) (M : Nat → Int32) (B : Nat → Int64) (u : Int32) (e : Int64) (k : Int32) (hu : u.toInt ≤ 300) : Met l yX2_memberAt wsX2_memberAt ({ frames := 0, cells := 0, slots := 0, locals := 0 }) (va_Pc [.ref h0, .int k] (fun U => U.heap.size = sz ∧ va_P (dC, dI) vwCl [(h0, .inr (2, [.ref h1, .ref h2, .int u, .long e])), (h1, .inl (cI, 300, .inl M)), (h2, .inl (cJ, 300, .inr (.inl B)))] U.heap ∧ va_K (dC, dI) vwCl [(cI, .int), (cJ, .long), (cZ, .boolean)] U ∧ va_D (fun _ => True) [(h0, .inr (2, [.ref h1, .ref h2, .int u, .long e])), (h1, .inl (cI, 300, .inl M)), (h2, .inl (cJ, 300, .inr (.inl B)))])) (va_Qi (fun (r : Int32) (uu : Unit) => r = if 0 ≤ k ∧ k < u then M (k.toNatClampNeg) else -1) (fun (uu : Unit) (t : State) => va_P (dC, dI) vwCl [(h0, .inr (2, [.ref h1, .ref h2, .int u, .long e])), (h1, .inl (cI, 300, .inl M)), (h2, .inl (cJ, 300, .inr (.inl B)))] t.heap ∧ va_K (dC, dI) vwCl [(cI, .int), (cJ, .long), (cZ, .boolean)] t ∧ va_D (va_A [(h0, .inr (2, [.ref h1, .ref h2, .int u, .long e])), (h1, .inl (cI, 300, .inl M)), (h2, .inl (cJ, 300, .inr (.inl B)))] sz) [(h0, .inr (2, [.ref h1, .ref h2, .int u, .long e])), (h1, .inl (cI, 300, .inl M)), (h2, .inl (cJ, 300, .inr (.inl B)))]) (va_A [(h0, .inr (2, [.ref h1, .ref h2, .int u, .long e])), (h1, .inl (cI, 300, .inl M)), (h2, .inl (cJ, 300, .inr (.inl B)))] sz)) 0 0 (va_A [(h0, .inr (2, [.ref h1, .ref h2, .int u, .long e])), (h1, .inl (cI, 300, .inl M)), (h2, .inl (cJ, 300, .inr (.inl B)))] sz) := by
  refine Met.ofW (cc := cX2_memberAt) (maxL := 2) (ret := (some .int)) (by decide) rfl ?_
  intro p ev s m args below meth c s₁ Bd hml hv
  obtain ⟨rfl, hsz, hP, hK, hD0⟩ := hv
  have hx := Bd.exec
  have hb := Bd.bytes
  have hr := Bd.returns
  have hts := atoms_spec (ws := wsX2_memberAt) Bd.pre
  have hown : s.vm.findClass RX2 = some m.cls := findClass_of_methodNamed Bd.named
  have hlocks := Bd.notSynchronized
  have hin2 : ∀ w ∈ wsX20, w ∈ wsX2_memberAt := by decide +kernel
  subst hsz
  have hD := hD0.self (sz := s.heap.size)
  generalize hAe : va_A [(h0, .inr (2, [.ref h1, .ref h2, .int u, .long e])), (h1, .inl (cI, 300, .inl M)), (h2, .inl (cJ, 300, .inr (.inl B)))] s.heap.size = A at hD ⊢
  have hA : ∀ q : Nat, s.heap.size ≤ q → A q := fun q h => by rw [← hAe]; exact Or.inr h
  have hS : va_S A s.heap s.heap [] := va_S.rf
  have hl := lv_entry ([.ref h0, .int k]) (n := 2) (Nat.le_of_ble_eq_true rfl)
  rw [lg_entry_eq]
  generalize (lg_sl ([.ref h0, .int k]) ++ List.replicate (2 - (lg_sl ([.ref h0, .int k])).length) Slot.unset).toArray = ls at hl ⊢
  have hl : lv_has ls 2 [(0, .ref h0), (1, .int k)] := hl
  generalize hHe : s.heap = H at hP ⊢
  have hS : va_S A s.heap H [] := hHe ▸ hS
  refine lv_iload_n hx hb dX2_memberAt_0 rfl (lv_at hl 1 rfl) ?_
  refine lv_if_lt (tgt := 21) hx hb dX2_memberAt_1 (by decide) (fun c_1 => ?_) (fun c_1 => ?_)
  · -- pc 1, side 0
    refine lv_iconst (v := (-1)) hx hb dX2_memberAt_21 (by decide) ?_
    have hP9 : va_P (dC, dI) vwCl [(h0, .inr (2, [.ref h1, .ref h2, .int u, .long e])), (h1, .inl (cI, 300, .inl M)), (h2, .inl (cJ, 300, .inr (.inl B)))] H := hP
    have hD9 : va_D A [(h0, .inr (2, [.ref h1, .ref h2, .int u, .long e])), (h1, .inl (cI, 300, .inl M)), (h2, .inl (cJ, 300, .inr (.inl B)))] := hD
    exact W.iret (v := (-1)) hx hb hr (fun t ht hW => ⟨⟨(-1), (), rfl, by rw [if_neg (fun h9 => absurd h9.1 (Int32.not_le.mpr c_1))], by rw [ht]; exact hP9, va_K.moved hW.alike hK, hD9⟩, hS.F ht⟩) hS.2.2 dX2_memberAt_22
  · -- pc 1, side 1
    refine lv_iload_n hx hb dX2_memberAt_4 rfl (lv_at hl 1 rfl) ?_
    refine lv_aload_n hx hb dX2_memberAt_5 rfl (lv_at hl 0 rfl) ?_
    refine va_get (D := (dC, dI)) (ci := 2) (v := .int u) (C := RX2) (T := TX2) (N := 4) hx hb hts hin2 hown hK hP 0 rfl rfl 2 (by decide) (hts (.fieldLink RX2 19 "CallClusters$Row" "used" "I") (by decide +kernel)) (fun _ h9 => h9) rfl dX2_memberAt_6 ?_
    refine lv_icmp_ge (tgt := 21) hx hb dX2_memberAt_9 (by decide) (fun c_2 => ?_) (fun c_2 => ?_)
    · -- pc 9, side 0
      refine lv_iconst (v := (-1)) hx hb dX2_memberAt_21 (by decide) ?_
      have hP9 : va_P (dC, dI) vwCl [(h0, .inr (2, [.ref h1, .ref h2, .int u, .long e])), (h1, .inl (cI, 300, .inl M)), (h2, .inl (cJ, 300, .inr (.inl B)))] H := hP
      have hD9 : va_D A [(h0, .inr (2, [.ref h1, .ref h2, .int u, .long e])), (h1, .inl (cI, 300, .inl M)), (h2, .inl (cJ, 300, .inr (.inl B)))] := hD
      exact W.iret (v := (-1)) hx hb hr (fun t ht hW => ⟨⟨(-1), (), rfl, by rw [if_neg (fun h9 => absurd h9.2 (Int32.not_lt.mpr c_2))], by rw [ht]; exact hP9, va_K.moved hW.alike hK, hD9⟩, hS.F ht⟩) hS.2.2 dX2_memberAt_22
    · -- pc 9, side 1
      have hin9 : vp_in k 300 := in_300 (Int32.not_lt.mp c_1) (Int32.not_le.mp c_2) hu
      refine lv_aload_n hx hb dX2_memberAt_12 rfl (lv_at hl 0 rfl) ?_
      refine va_get (D := (dC, dI)) (ci := 2) (v := .ref h1) (C := RX2) (T := TX2) (N := 4) hx hb hts hin2 hown hK hP 0 rfl rfl 0 (by decide) (hts (.fieldLink RX2 9 "CallClusters$Row" "members" "[I") (by decide +kernel)) (fun _ h9 => h9) rfl dX2_memberAt_13 ?_
      refine lv_iload_n hx hb dX2_memberAt_16 rfl (lv_at hl 1 rfl) ?_
      refine va_iald hx hb hK hP 1 0 rfl rfl (hin9) dX2_memberAt_17 ?_
      refine lv_goto (tgt := 22) hx hb dX2_memberAt_18 (by decide) ?_
      have hP9 : va_P (dC, dI) vwCl [(h0, .inr (2, [.ref h1, .ref h2, .int u, .long e])), (h1, .inl (cI, 300, .inl M)), (h2, .inl (cJ, 300, .inr (.inl B)))] H := hP
      have hD9 : va_D A [(h0, .inr (2, [.ref h1, .ref h2, .int u, .long e])), (h1, .inl (cI, 300, .inl M)), (h2, .inl (cJ, 300, .inr (.inl B)))] := hD
      exact W.iret (v := M (k.toNatClampNeg)) hx hb hr (fun t ht hW => ⟨⟨M (k.toNatClampNeg), (), rfl, by rw [if_pos ⟨by simpa using Int32.not_lt.mp c_1, by simpa using Int32.not_le.mp c_2⟩], by rw [ht]; exact hP9, va_K.moved hW.alike hK, hD9⟩, hS.F ht⟩) hS.2.2 dX2_memberAt_22
set_option maxHeartbeats 4000000 in
set_option maxRecDepth 100000 in
theorem ct_X2_beginOf (l : Launch) (dC : Nat → ClassId) (dI : Nat → Nat → Nat) (cI cJ cZ : ClassId) (sz : Nat) (h0 : Nat) (h1 : Nat) (h2 : Nat) (M : Nat → Int32) (B : Nat → Int64) (u : Int32) (e : Int64) (k : Int32) (hk : vp_in k 300) : Met l yX2_beginOf wsX2_beginOf ({ frames := 0, cells := 0, slots := 0, locals := 0 }) (va_Pc [.ref h0, .int k] (fun U => U.heap.size = sz ∧ va_P (dC, dI) vwCl [(h0, .inr (2, [.ref h1, .ref h2, .int u, .long e])), (h1, .inl (cI, 300, .inl M)), (h2, .inl (cJ, 300, .inr (.inl B)))] U.heap ∧ va_K (dC, dI) vwCl [(cI, .int), (cJ, .long), (cZ, .boolean)] U ∧ va_D (fun _ => True) [(h0, .inr (2, [.ref h1, .ref h2, .int u, .long e])), (h1, .inl (cI, 300, .inl M)), (h2, .inl (cJ, 300, .inr (.inl B)))])) (va_Ql (fun (r : Int64) (uu : Unit) => r = B (k.toNatClampNeg)) (fun (uu : Unit) (t : State) => va_P (dC, dI) vwCl [(h0, .inr (2, [.ref h1, .ref h2, .int u, .long e])), (h1, .inl (cI, 300, .inl M)), (h2, .inl (cJ, 300, .inr (.inl B)))] t.heap ∧ va_K (dC, dI) vwCl [(cI, .int), (cJ, .long), (cZ, .boolean)] t ∧ va_D (va_A [(h0, .inr (2, [.ref h1, .ref h2, .int u, .long e])), (h1, .inl (cI, 300, .inl M)), (h2, .inl (cJ, 300, .inr (.inl B)))] sz) [(h0, .inr (2, [.ref h1, .ref h2, .int u, .long e])), (h1, .inl (cI, 300, .inl M)), (h2, .inl (cJ, 300, .inr (.inl B)))]) (va_A [(h0, .inr (2, [.ref h1, .ref h2, .int u, .long e])), (h1, .inl (cI, 300, .inl M)), (h2, .inl (cJ, 300, .inr (.inl B)))] sz)) 0 0 (va_A [(h0, .inr (2, [.ref h1, .ref h2, .int u, .long e])), (h1, .inl (cI, 300, .inl M)), (h2, .inl (cJ, 300, .inr (.inl B)))] sz) := by
  refine Met.ofW (cc := cX2_beginOf) (maxL := 2) (ret := (some .long)) (by decide) rfl ?_
  intro p ev s m args below meth c s₁ Bd hml hv
  obtain ⟨rfl, hsz, hP, hK, hD0⟩ := hv
  have hx := Bd.exec
  have hb := Bd.bytes
  have hr := Bd.returns
  have hts := atoms_spec (ws := wsX2_beginOf) Bd.pre
  have hown : s.vm.findClass RX2 = some m.cls := findClass_of_methodNamed Bd.named
  have hlocks := Bd.notSynchronized
  have hin2 : ∀ w ∈ wsX20, w ∈ wsX2_beginOf := by decide +kernel
  subst hsz
  have hD := hD0.self (sz := s.heap.size)
  generalize hAe : va_A [(h0, .inr (2, [.ref h1, .ref h2, .int u, .long e])), (h1, .inl (cI, 300, .inl M)), (h2, .inl (cJ, 300, .inr (.inl B)))] s.heap.size = A at hD ⊢
  have hA : ∀ q : Nat, s.heap.size ≤ q → A q := fun q h => by rw [← hAe]; exact Or.inr h
  have hS : va_S A s.heap s.heap [] := va_S.rf
  have hl := lv_entry ([.ref h0, .int k]) (n := 2) (Nat.le_of_ble_eq_true rfl)
  rw [lg_entry_eq]
  generalize (lg_sl ([.ref h0, .int k]) ++ List.replicate (2 - (lg_sl ([.ref h0, .int k])).length) Slot.unset).toArray = ls at hl ⊢
  have hl : lv_has ls 2 [(0, .ref h0), (1, .int k)] := hl
  generalize hHe : s.heap = H at hP ⊢
  have hS : va_S A s.heap H [] := hHe ▸ hS
  refine lv_aload_n hx hb dX2_beginOf_0 rfl (lv_at hl 0 rfl) ?_
  refine va_get (D := (dC, dI)) (ci := 2) (v := .ref h2) (C := RX2) (T := TX2) (N := 4) hx hb hts hin2 hown hK hP 0 rfl rfl 1 (by decide) (hts (.fieldLink RX2 15 "CallClusters$Row" "begins" "[J") (by decide +kernel)) (fun _ h9 => h9) rfl dX2_beginOf_1 ?_
  refine lv_iload_n hx hb dX2_beginOf_4 rfl (lv_at hl 1 rfl) ?_
  refine va_lald hx hb hK hP 2 1 rfl rfl (hk) dX2_beginOf_5 ?_
  have hP9 : va_P (dC, dI) vwCl [(h0, .inr (2, [.ref h1, .ref h2, .int u, .long e])), (h1, .inl (cI, 300, .inl M)), (h2, .inl (cJ, 300, .inr (.inl B)))] H := hP
  have hD9 : va_D A [(h0, .inr (2, [.ref h1, .ref h2, .int u, .long e])), (h1, .inl (cI, 300, .inl M)), (h2, .inl (cJ, 300, .inr (.inl B)))] := hD
  exact W.lret (v := B (k.toNatClampNeg)) hx hb hr (fun t ht hW => ⟨⟨B (k.toNatClampNeg), (), rfl, rfl, by rw [ht]; exact hP9, va_K.moved hW.alike hK, hD9⟩, hS.F ht⟩) hS.2.2 dX2_beginOf_6
set_option maxHeartbeats 4000000 in
set_option maxRecDepth 100000 in
theorem ct_X2_append (l : Launch) (dC : Nat → ClassId) (dI : Nat → Nat → Nat) (cI cJ cZ : ClassId) (sz : Nat) (h0 : Nat) (h1 : Nat) (h2 : Nat) (M : Nat → Int32) (B : Nat → Int64) (u : Nat) (e : Int64) (f b : Int32) (hu : u < 300) (hf : vp_in f 300) : Met l yX2_append wsX2_append ({ frames := 0, cells := 0, slots := 0, locals := 0 }) (va_Pc [.ref h0, .int f, .int b] (fun U => U.heap.size = sz ∧ va_P (dC, dI) vwCl [(h0, .inr (2, [.ref h1, .ref h2, .int (nI u), .long e])), (h1, .inl (cI, 300, .inl M)), (h2, .inl (cJ, 300, .inr (.inl B)))] U.heap ∧ va_K (dC, dI) vwCl [(cI, .int), (cJ, .long), (cZ, .boolean)] U ∧ va_D (fun _ => True) [(h0, .inr (2, [.ref h1, .ref h2, .int (nI u), .long e])), (h1, .inl (cI, 300, .inl M)), (h2, .inl (cJ, 300, .inr (.inl B)))])) (va_Qv (fun (uu : Unit) => True) (fun (uu : Unit) (t : State) => va_P (dC, dI) vwCl [(h0, .inr (2, [.ref h1, .ref h2, .int (nI (u + 1)), .long (e + b.toInt64)])), (h1, .inl (cI, 300, .inl (upd M u f))), (h2, .inl (cJ, 300, .inr (.inl (vp_updL B (f.toNatClampNeg) e))))] t.heap ∧ va_K (dC, dI) vwCl [(cI, .int), (cJ, .long), (cZ, .boolean)] t ∧ va_D (va_A [(h0, .inr (2, [.ref h1, .ref h2, .int (nI u), .long e])), (h1, .inl (cI, 300, .inl M)), (h2, .inl (cJ, 300, .inr (.inl B)))] sz) [(h0, .inr (2, [.ref h1, .ref h2, .int (nI (u + 1)), .long (e + b.toInt64)])), (h1, .inl (cI, 300, .inl (upd M u f))), (h2, .inl (cJ, 300, .inr (.inl (vp_updL B (f.toNatClampNeg) e))))]) (va_A [(h0, .inr (2, [.ref h1, .ref h2, .int (nI u), .long e])), (h1, .inl (cI, 300, .inl M)), (h2, .inl (cJ, 300, .inr (.inl B)))] sz)) 0 0 (va_A [(h0, .inr (2, [.ref h1, .ref h2, .int (nI u), .long e])), (h1, .inl (cI, 300, .inl M)), (h2, .inl (cJ, 300, .inr (.inl B)))] sz) := by
  refine Met.ofW (cc := cX2_append) (maxL := 3) (ret := none) (by decide) rfl ?_
  intro p ev s m args below meth c s₁ Bd hml hv
  obtain ⟨rfl, hsz, hP, hK, hD0⟩ := hv
  have hx := Bd.exec
  have hb := Bd.bytes
  have hr := Bd.returns
  have hts := atoms_spec (ws := wsX2_append) Bd.pre
  have hown : s.vm.findClass RX2 = some m.cls := findClass_of_methodNamed Bd.named
  have hlocks := Bd.notSynchronized
  have hin2 : ∀ w ∈ wsX20, w ∈ wsX2_append := by decide +kernel
  subst hsz
  have hD := hD0.self (sz := s.heap.size)
  generalize hAe : va_A [(h0, .inr (2, [.ref h1, .ref h2, .int (nI u), .long e])), (h1, .inl (cI, 300, .inl M)), (h2, .inl (cJ, 300, .inr (.inl B)))] s.heap.size = A at hD ⊢
  have hA : ∀ q : Nat, s.heap.size ≤ q → A q := fun q h => by rw [← hAe]; exact Or.inr h
  have hS : va_S A s.heap s.heap [] := va_S.rf
  have hl := lv_entry ([.ref h0, .int f, .int b]) (n := 3) (Nat.le_of_ble_eq_true rfl)
  rw [lg_entry_eq]
  generalize (lg_sl ([.ref h0, .int f, .int b]) ++ List.replicate (3 - (lg_sl ([.ref h0, .int f, .int b])).length) Slot.unset).toArray = ls at hl ⊢
  have hl : lv_has ls 3 [(0, .ref h0), (1, .int f), (2, .int b)] := hl
  generalize hHe : s.heap = H at hP ⊢
  have hS : va_S A s.heap H [] := hHe ▸ hS
  refine lv_aload_n hx hb dX2_append_0 rfl (lv_at hl 0 rfl) ?_
  refine va_get (D := (dC, dI)) (ci := 2) (v := .int (nI u)) (C := RX2) (T := TX2) (N := 4) hx hb hts hin2 hown hK hP 0 rfl rfl 2 (by decide) (hts (.fieldLink RX2 19 "CallClusters$Row" "used" "I") (by decide +kernel)) (fun _ h9 => h9) rfl dX2_append_1 ?_
  refine lv_sipush (v := 300) hx hb dX2_append_4 (by decide) ?_
  refine lv_icmp_lt (tgt := 11) hx hb dX2_append_7 (by decide) (fun c_1 => ?_) (fun c_1 => ?_)
  · -- pc 7, side 0
    refine lv_aload_n hx hb dX2_append_11 rfl (lv_at hl 0 rfl) ?_
    refine va_get (D := (dC, dI)) (ci := 2) (v := .ref h1) (C := RX2) (T := TX2) (N := 4) hx hb hts hin2 hown hK hP 0 rfl rfl 0 (by decide) (hts (.fieldLink RX2 9 "CallClusters$Row" "members" "[I") (by decide +kernel)) (fun _ h9 => h9) rfl dX2_append_12 ?_
    refine lv_aload_n hx hb dX2_append_15 rfl (lv_at hl 0 rfl) ?_
    refine va_get (D := (dC, dI)) (ci := 2) (v := .int (nI u)) (C := RX2) (T := TX2) (N := 4) hx hb hts hin2 hown hK hP 0 rfl rfl 2 (by decide) (hts (.fieldLink RX2 19 "CallClusters$Row" "used" "I") (by decide +kernel)) (fun _ h9 => h9) rfl dX2_append_16 ?_
    refine lv_iload_n hx hb dX2_append_19 rfl (lv_at hl 1 rfl) ?_
    refine va_iast hx hb hK hP hD hS 1 0 rfl rfl (inn hu (by omega)) dX2_append_20 (fun H locs hP hD hS => ?_)
    have hf20 : upd M ((nI u).toNatClampNeg) f = upd M u f := by rw [ix_n (by omega)]
    have hP : va_P (dC, dI) vwCl [(h0, .inr (2, [.ref h1, .ref h2, .int (nI u), .long e])), (h1, .inl (cI, 300, .inl (upd M ((nI u).toNatClampNeg) f))), (h2, .inl (cJ, 300, .inr (.inl B)))] H := hP
    have hD : va_D A [(h0, .inr (2, [.ref h1, .ref h2, .int (nI u), .long e])), (h1, .inl (cI, 300, .inl (upd M ((nI u).toNatClampNeg) f))), (h2, .inl (cJ, 300, .inr (.inl B)))] := hD
    rw [hf20] at hP hD
    refine lv_aload_n hx hb dX2_append_21 rfl (lv_at hl 0 rfl) ?_
    refine lv_dup hx hb dX2_append_22 rfl ?_
    refine va_get (D := (dC, dI)) (ci := 2) (v := .int (nI u)) (C := RX2) (T := TX2) (N := 4) hx hb hts hin2 hown hK hP 0 rfl rfl 2 (by decide) (hts (.fieldLink RX2 19 "CallClusters$Row" "used" "I") (by decide +kernel)) (fun _ h9 => h9) rfl dX2_append_23 ?_
    refine lv_iconst (v := 1) hx hb dX2_append_26 (by decide) ?_
    refine lv_iadd hx hb dX2_append_27 ?_
    refine tp_i (y := nI (u + 1)) (nI_1 u) ?_
    refine va_put (D := (dC, dI)) (ci := 2) (v := .int (nI (u + 1))) (ty := .int) (C := RX2) (T := TX2) (N := 4) hx hb hts hin2 tyX2 tyX2_ok nmX2 hown hK hP hD hS 0 rfl rfl 2 (by decide) (hts (.fieldLink RX2 19 "CallClusters$Row" "used" "I") (by decide +kernel)) (fun _ h9 => h9) rfl (by decide +kernel) (rfl) (rfl) (Nat.le_of_ble_eq_true rfl) dX2_append_28 (fun H locs hP hD hS => ?_)
    have hP : va_P (dC, dI) vwCl [(h0, .inr (2, [.ref h1, .ref h2, .int (nI (u + 1)), .long e])), (h1, .inl (cI, 300, .inl (upd M u f))), (h2, .inl (cJ, 300, .inr (.inl B)))] H := hP
    have hD : va_D A [(h0, .inr (2, [.ref h1, .ref h2, .int (nI (u + 1)), .long e])), (h1, .inl (cI, 300, .inl (upd M u f))), (h2, .inl (cJ, 300, .inr (.inl B)))] := hD
    refine lv_aload_n hx hb dX2_append_31 rfl (lv_at hl 0 rfl) ?_
    refine va_get (D := (dC, dI)) (ci := 2) (v := .ref h2) (C := RX2) (T := TX2) (N := 4) hx hb hts hin2 hown hK hP 0 rfl rfl 1 (by decide) (hts (.fieldLink RX2 15 "CallClusters$Row" "begins" "[J") (by decide +kernel)) (fun _ h9 => h9) rfl dX2_append_32 ?_
    refine lv_iload_n hx hb dX2_append_35 rfl (lv_at hl 1 rfl) ?_
    refine lv_aload_n hx hb dX2_append_36 rfl (lv_at hl 0 rfl) ?_
    refine va_get (D := (dC, dI)) (ci := 2) (v := .long e) (C := RX2) (T := TX2) (N := 4) hx hb hts hin2 hown hK hP 0 rfl rfl 3 (by decide) (hts (.fieldLink RX2 23 "CallClusters$Row" "end" "J") (by decide +kernel)) (fun _ h9 => h9) rfl dX2_append_37 ?_
    refine va_last hx hb hK hP hD hS 2 1 rfl rfl (hf) dX2_append_40 (fun H locs hP hD hS => ?_)
    have hP : va_P (dC, dI) vwCl [(h0, .inr (2, [.ref h1, .ref h2, .int (nI (u + 1)), .long e])), (h1, .inl (cI, 300, .inl (upd M u f))), (h2, .inl (cJ, 300, .inr (.inl (vp_updL B (f.toNatClampNeg) e))))] H := hP
    have hD : va_D A [(h0, .inr (2, [.ref h1, .ref h2, .int (nI (u + 1)), .long e])), (h1, .inl (cI, 300, .inl (upd M u f))), (h2, .inl (cJ, 300, .inr (.inl (vp_updL B (f.toNatClampNeg) e))))] := hD
    refine lv_aload_n hx hb dX2_append_41 rfl (lv_at hl 0 rfl) ?_
    refine lv_dup hx hb dX2_append_42 rfl ?_
    refine va_get (D := (dC, dI)) (ci := 2) (v := .long e) (C := RX2) (T := TX2) (N := 4) hx hb hts hin2 hown hK hP 0 rfl rfl 3 (by decide) (hts (.fieldLink RX2 23 "CallClusters$Row" "end" "J") (by decide +kernel)) (fun _ h9 => h9) rfl dX2_append_43 ?_
    refine lv_iload_n hx hb dX2_append_46 rfl (lv_at hl 2 rfl) ?_
    refine lv_i2l (v := b.toInt64) hx hb dX2_append_47 rfl ?_
    refine lv_ladd hx hb dX2_append_48 ?_
    refine va_put (D := (dC, dI)) (ci := 2) (v := .long (e + b.toInt64)) (ty := .long) (C := RX2) (T := TX2) (N := 4) hx hb hts hin2 tyX2 tyX2_ok nmX2 hown hK hP hD hS 0 rfl rfl 3 (by decide) (hts (.fieldLink RX2 23 "CallClusters$Row" "end" "J") (by decide +kernel)) (fun _ h9 => h9) rfl (by decide +kernel) (rfl) (rfl) (Nat.le_of_ble_eq_true rfl) dX2_append_49 (fun H locs hP hD hS => ?_)
    have hP : va_P (dC, dI) vwCl [(h0, .inr (2, [.ref h1, .ref h2, .int (nI (u + 1)), .long (e + b.toInt64)])), (h1, .inl (cI, 300, .inl (upd M u f))), (h2, .inl (cJ, 300, .inr (.inl (vp_updL B (f.toNatClampNeg) e))))] H := hP
    have hD : va_D A [(h0, .inr (2, [.ref h1, .ref h2, .int (nI (u + 1)), .long (e + b.toInt64)])), (h1, .inl (cI, 300, .inl (upd M u f))), (h2, .inl (cJ, 300, .inr (.inl (vp_updL B (f.toNatClampNeg) e))))] := hD
    have hP9 : va_P (dC, dI) vwCl [(h0, .inr (2, [.ref h1, .ref h2, .int (nI (u + 1)), .long (e + b.toInt64)])), (h1, .inl (cI, 300, .inl (upd M u f))), (h2, .inl (cJ, 300, .inr (.inl (vp_updL B (f.toNatClampNeg) e))))] H := hP
    have hD9 : va_D A [(h0, .inr (2, [.ref h1, .ref h2, .int (nI (u + 1)), .long (e + b.toInt64)])), (h1, .inl (cI, 300, .inl (upd M u f))), (h2, .inl (cJ, 300, .inr (.inl (vp_updL B (f.toNatClampNeg) e))))] := hD
    exact W.vret hx hb hr (fun t ht hW => ⟨⟨(), rfl, trivial, by rw [ht]; exact hP9, va_K.moved hW.alike hK, hD9⟩, hS.F ht⟩) hS.2.2 dX2_append_52
  · -- pc 7, side 1
    exact absurd (nI_lt hu (by omega)) c_1
set_option maxHeartbeats 4000000 in
set_option maxRecDepth 100000 in
theorem ct_X2_empty (l : Launch) (dC : Nat → ClassId) (dI : Nat → Nat → Nat) (cI cJ cZ : ClassId) (sz : Nat) (h0 : Nat) (h1 : Nat) (h2 : Nat) (M : Nat → Int32) (B : Nat → Int64) (u : Int32) (e : Int64)  : Met l yX2_empty wsX2_empty ({ frames := 1, cells := 0, slots := 0, locals := 24 }) (va_Pc [.ref h0] (fun U => U.heap.size = sz ∧ va_P (dC, dI) vwCl [(h0, .inr (2, [.ref h1, .ref h2, .int u, .long e])), (h1, .inl (cI, 300, .inl M)), (h2, .inl (cJ, 300, .inr (.inl B)))] U.heap ∧ va_K (dC, dI) vwCl [(cI, .int), (cJ, .long), (cZ, .boolean)] U ∧ va_D (fun _ => True) [(h0, .inr (2, [.ref h1, .ref h2, .int u, .long e])), (h1, .inl (cI, 300, .inl M)), (h2, .inl (cJ, 300, .inr (.inl B)))])) (va_Qv (fun (uu : Unit) => True) (fun (uu : Unit) (t : State) => va_P (dC, dI) vwCl [(h0, .inr (2, [.ref h1, .ref h2, .int 0, .long 0])), (h1, .inl (cI, 300, .inl M)), (h2, .inl (cJ, 300, .inr (.inl (mix 300 (fun _ => -1) B))))] t.heap ∧ va_K (dC, dI) vwCl [(cI, .int), (cJ, .long), (cZ, .boolean)] t ∧ va_D (va_A [(h0, .inr (2, [.ref h1, .ref h2, .int u, .long e])), (h1, .inl (cI, 300, .inl M)), (h2, .inl (cJ, 300, .inr (.inl B)))] sz) [(h0, .inr (2, [.ref h1, .ref h2, .int 0, .long 0])), (h1, .inl (cI, 300, .inl M)), (h2, .inl (cJ, 300, .inr (.inl (mix 300 (fun _ => -1) B))))]) (va_A [(h0, .inr (2, [.ref h1, .ref h2, .int u, .long e])), (h1, .inl (cI, 300, .inl M)), (h2, .inl (cJ, 300, .inr (.inl B)))] sz)) 0 0 (va_A [(h0, .inr (2, [.ref h1, .ref h2, .int u, .long e])), (h1, .inl (cI, 300, .inl M)), (h2, .inl (cJ, 300, .inr (.inl B)))] sz) := by
  refine Met.ofW (cc := cX2_empty) (maxL := 1) (ret := none) (by decide) rfl ?_
  intro p ev s m args below meth c s₁ Bd hml hv
  obtain ⟨rfl, hsz, hP, hK, hD0⟩ := hv
  have hx := Bd.exec
  have hb := Bd.bytes
  have hr := Bd.returns
  have hts := atoms_spec (ws := wsX2_empty) Bd.pre
  have hown : s.vm.findClass RX2 = some m.cls := findClass_of_methodNamed Bd.named
  have hlocks := Bd.notSynchronized
  have hin2 : ∀ w ∈ wsX20, w ∈ wsX2_empty := by decide +kernel
  subst hsz
  have hD := hD0.self (sz := s.heap.size)
  generalize hAe : va_A [(h0, .inr (2, [.ref h1, .ref h2, .int u, .long e])), (h1, .inl (cI, 300, .inl M)), (h2, .inl (cJ, 300, .inr (.inl B)))] s.heap.size = A at hD ⊢
  have hA : ∀ q : Nat, s.heap.size ≤ q → A q := fun q h => by rw [← hAe]; exact Or.inr h
  have hS : va_S A s.heap s.heap [] := va_S.rf
  have hl := lv_entry ([.ref h0]) (n := 1) (Nat.le_of_ble_eq_true rfl)
  rw [lg_entry_eq]
  generalize (lg_sl ([.ref h0]) ++ List.replicate (1 - (lg_sl ([.ref h0])).length) Slot.unset).toArray = ls at hl ⊢
  have hl : lv_has ls 1 [(0, .ref h0)] := hl
  generalize hHe : s.heap = H at hP ⊢
  have hS : va_S A s.heap H [] := hHe ▸ hS
  refine lv_aload_n hx hb dX2_empty_0 rfl (lv_at hl 0 rfl) ?_
  refine lv_iconst (v := 0) hx hb dX2_empty_1 (by decide) ?_
  refine va_put (D := (dC, dI)) (ci := 2) (v := .int 0) (ty := .int) (C := RX2) (T := TX2) (N := 4) hx hb hts hin2 tyX2 tyX2_ok nmX2 hown hK hP hD hS 0 rfl rfl 2 (by decide) (hts (.fieldLink RX2 19 "CallClusters$Row" "used" "I") (by decide +kernel)) (fun _ h9 => h9) rfl (by decide +kernel) (rfl) (rfl) (Nat.le_of_ble_eq_true rfl) dX2_empty_2 (fun H locs hP hD hS => ?_)
  have hP : va_P (dC, dI) vwCl [(h0, .inr (2, [.ref h1, .ref h2, .int 0, .long e])), (h1, .inl (cI, 300, .inl M)), (h2, .inl (cJ, 300, .inr (.inl B)))] H := hP
  have hD : va_D A [(h0, .inr (2, [.ref h1, .ref h2, .int 0, .long e])), (h1, .inl (cI, 300, .inl M)), (h2, .inl (cJ, 300, .inr (.inl B)))] := hD
  refine lv_aload_n hx hb dX2_empty_5 rfl (lv_at hl 0 rfl) ?_
  refine lv_lconst (v := 0) hx hb dX2_empty_6 (by decide) ?_
  refine va_put (D := (dC, dI)) (ci := 2) (v := .long 0) (ty := .long) (C := RX2) (T := TX2) (N := 4) hx hb hts hin2 tyX2 tyX2_ok nmX2 hown hK hP hD hS 0 rfl rfl 3 (by decide) (hts (.fieldLink RX2 23 "CallClusters$Row" "end" "J") (by decide +kernel)) (fun _ h9 => h9) rfl (by decide +kernel) (rfl) (rfl) (Nat.le_of_ble_eq_true rfl) dX2_empty_7 (fun H locs hP hD hS => ?_)
  have hP : va_P (dC, dI) vwCl [(h0, .inr (2, [.ref h1, .ref h2, .int 0, .long 0])), (h1, .inl (cI, 300, .inl M)), (h2, .inl (cJ, 300, .inr (.inl B)))] H := hP
  have hD : va_D A [(h0, .inr (2, [.ref h1, .ref h2, .int 0, .long 0])), (h1, .inl (cI, 300, .inl M)), (h2, .inl (cJ, 300, .inr (.inl B)))] := hD
  refine lv_aload_n hx hb dX2_empty_10 rfl (lv_at hl 0 rfl) ?_
  refine va_get (D := (dC, dI)) (ci := 2) (v := .ref h2) (C := RX2) (T := TX2) (N := 4) hx hb hts hin2 hown hK hP 0 rfl rfl 1 (by decide) (hts (.fieldLink RX2 15 "CallClusters$Row" "begins" "[J") (by decide +kernel)) (fun _ h9 => h9) rfl dX2_empty_11 ?_
  refine lv_ldc2 (v := (-1)) hx hb hown (hts (.constantLong RX2 27 (-1)) (by decide +kernel)) dX2_empty_14 ?_
  have hPc := hP.sub (ws' := [(h2, .inl (cJ, 300, .inr (.inl B)))]) [2] rfl
  have hDc := hD.sub (ws' := [(h2, .inl (cJ, 300, .inr (.inl B)))]) [2] (by decide) rfl
  have hFc := va_free (wc := [(h2, .inl (cJ, 300, .inr (.inl B)))]) hD hS hA [2] rfl
  refine va_callv (va_runS (As := [.ref h2, .long ((-1))]) (rest := []) ⟨hx, hb, hml, hown, hts⟩ (ct_J7_fill_d0a16 l dC dI cI cJ cZ H.size h2 300 B (-1) (by decide)) (va_cwS 2 hts gX2_empty_J7_fill_d0a16 rfl rfl rfl (by decide +kernel) ⟨Nat.le_of_ble_eq_true rfl, Nat.le_of_ble_eq_true rfl⟩) (pre_S hK hPc hDc) rfl rfl hl.1 rfl (lv_room (Nat.le_of_ble_eq_true rfl)) dX2_empty_17 ⟨Nat.zero_le _, Nat.zero_le _⟩) hS (fun q _ h => hFc q h) hFc (fun uu t H1 locs ht hvm hw hB hz1 hk1 hS => ?_)
  obtain ⟨hP1, hK1, hD1⟩ := hB
  rw [ht] at hP1
  try dsimp only at hw
  have hP1 : va_P (dC, dI) vwCl [(h2, .inl (cJ, 300, .inr (.inl (mix 300 (fun _ => -1) B))))] H1 := hP1
  obtain ⟨hP, hD⟩ := va_join (wr := [(h0, .inr (2, [.ref h1, .ref h2, .int 0, .long 0])), (h1, .inl (cI, 300, .inl M))]) (w1 := [(h2, .inl (cJ, 300, .inr (.inl (mix 300 (fun _ => -1) B))))]) hP hD [2] [0, 1] rfl rfl (by decide) (by decide) hk1 hFc hP1 hD1
  have hP := hP.sub (ws' := [(h0, .inr (2, [.ref h1, .ref h2, .int 0, .long 0])), (h1, .inl (cI, 300, .inl M)), (h2, .inl (cJ, 300, .inr (.inl (mix 300 (fun _ => -1) B))))]) [0, 1, 2] rfl
  have hD := hD.sub (ws' := [(h0, .inr (2, [.ref h1, .ref h2, .int 0, .long 0])), (h1, .inl (cI, 300, .inl M)), (h2, .inl (cJ, 300, .inr (.inl (mix 300 (fun _ => -1) B))))]) [0, 1, 2] (by decide) rfl
  generalize H1 = H at hP hS ⊢
  have hP9 : va_P (dC, dI) vwCl [(h0, .inr (2, [.ref h1, .ref h2, .int 0, .long 0])), (h1, .inl (cI, 300, .inl M)), (h2, .inl (cJ, 300, .inr (.inl (mix 300 (fun _ => -1) B))))] H := hP
  have hD9 : va_D A [(h0, .inr (2, [.ref h1, .ref h2, .int 0, .long 0])), (h1, .inl (cI, 300, .inl M)), (h2, .inl (cJ, 300, .inr (.inl (mix 300 (fun _ => -1) B))))] := hD
  exact W.vret hx hb hr (fun t ht hW => ⟨⟨(), rfl, trivial, by rw [ht]; exact hP9, va_K.moved hW.alike hK, hD9⟩, hS.F ht⟩) hS.2.2 dX2_empty_20
set_option maxHeartbeats 4000000 in
set_option maxRecDepth 100000 in
theorem ct_X2_init (l : Launch) (dC : Nat → ClassId) (dI : Nat → Nat → Nat) (cI cJ cZ : ClassId) (sz : Nat) (h0 : Nat)   : Met l yX2_init wsX2_init ({ frames := 1, cells := 2, slots := 600, locals := 12 }) (va_Pc [.ref h0] (fun U => U.heap.size = sz ∧ va_P (dC, dI) vwCl [(h0, .inr (2, [.null, .null, .int 0, .long 0]))] U.heap ∧ va_K (dC, dI) vwCl [(cI, .int), (cJ, .long), (cZ, .boolean)] U ∧ va_D (fun _ => True) [(h0, .inr (2, [.null, .null, .int 0, .long 0]))])) (va_Qv (fun (uu : Unit) => True) (fun (uu : Unit) (t : State) => ∃ (h1 h2 : Nat), va_P (dC, dI) vwCl [(h0, .inr (2, [.ref h1, .ref h2, .int 0, .long 0])), (h1, .inl (cI, 300, .inl (fun _ => 0))), (h2, .inl (cJ, 300, .inr (.inl (fun _ => 0))))] t.heap ∧ va_K (dC, dI) vwCl [(cI, .int), (cJ, .long), (cZ, .boolean)] t ∧ va_D (va_A [(h0, .inr (2, [.null, .null, .int 0, .long 0]))] sz) [(h0, .inr (2, [.ref h1, .ref h2, .int 0, .long 0])), (h1, .inl (cI, 300, .inl (fun _ => 0))), (h2, .inl (cJ, 300, .inr (.inl (fun _ => 0))))]) (va_A [(h0, .inr (2, [.null, .null, .int 0, .long 0]))] sz)) 2 600 (va_A [(h0, .inr (2, [.null, .null, .int 0, .long 0]))] sz) := by
  refine Met.ofW (cc := cX2_init) (maxL := 1) (ret := none) (by decide) rfl ?_
  intro p ev s m args below meth c s₁ Bd hml hv
  obtain ⟨rfl, hsz, hP, hK, hD0⟩ := hv
  have hx := Bd.exec
  have hb := Bd.bytes
  have hr := Bd.returns
  have hts := atoms_spec (ws := wsX2_init) Bd.pre
  have hown : s.vm.findClass RX2 = some m.cls := findClass_of_methodNamed Bd.named
  have hlocks := Bd.notSynchronized
  have hin : meth.name = "<init>" := (name_of_methodNamed Bd.named Bd.method).1
  have hin2 : ∀ w ∈ wsX20, w ∈ wsX2_init := by decide +kernel
  subst hsz
  have hD := hD0.self (sz := s.heap.size)
  generalize hAe : va_A [(h0, .inr (2, [.null, .null, .int 0, .long 0]))] s.heap.size = A at hD ⊢
  have hA : ∀ q : Nat, s.heap.size ≤ q → A q := fun q h => by rw [← hAe]; exact Or.inr h
  have hS : va_S A s.heap s.heap [] := va_S.rf
  have hl := lv_entry ([.ref h0]) (n := 1) (Nat.le_of_ble_eq_true rfl)
  rw [lg_entry_eq]
  generalize (lg_sl ([.ref h0]) ++ List.replicate (1 - (lg_sl ([.ref h0])).length) Slot.unset).toArray = ls at hl ⊢
  have hl : lv_has ls 1 [(0, .ref h0)] := hl
  generalize hHe : s.heap = H at hP ⊢
  have hS : va_S A s.heap H [] := hHe ▸ hS
  refine lv_aload_n hx hb dX2_init_0 rfl (lv_at hl 0 rfl) ?_
  refine W.objInit hx hb hown (hts (.methodLink RX2 3 objectInit) (by decide +kernel)) (hts (.instanceMethod objectInit) (by decide +kernel)) (hts (.code objectInit ⟨#[0xb1]⟩ 1 none) (by decide +kernel)) rfl (by rw [hml]; exact hl.1) rfl dX2_init_1 (Nat.le_of_ble_eq_true rfl) (Nat.le_of_ble_eq_true rfl) ?_
  refine W.eq (g2 := F0 m 4 ls []) rfl ?_
  refine lv_aload_n hx hb dX2_init_4 rfl (lv_at hl 0 rfl) ?_
  refine lv_sipush (v := 300) hx hb dX2_init_5 (by decide) ?_
  refine new_a (atype := .int) (ty := .int) (cA := cI) (a0 := (300, .inl (fun _ => 0))) (N' := 300) hx hb (hts (.arrayClass .int) (by decide +kernel)) rfl hK 0 rfl (fun _ _ h => h) hP hD hS hA (vp_zero_i _) (by decide) (by decide) (by decide) (by decide) (by decide) dX2_init_8 (fun a_1 H hP hD hS => ?_)
  have hP : va_P (dC, dI) vwCl [(h0, .inr (2, [.null, .null, .int 0, .long 0])), (a_1, .inl (cI, 300, .inl (fun _ => 0)))] H := hP
  have hD : va_D A [(h0, .inr (2, [.null, .null, .int 0, .long 0])), (a_1, .inl (cI, 300, .inl (fun _ => 0)))] := hD
  refine W.widen (k := 1) (n := 300) (by omega) (by omega) ?_
  refine va_putF (D := (dC, dI)) (ci := 2) (v := .ref a_1) (ty := (.array .int)) (C := RX2) (T := TX2) (N := 4) hx hb hts hin2 tyX2 tyX2_ok nmX2 hown hK hP hD hS 0 rfl rfl 0 (by decide) (hts (.fieldLink RX2 9 "CallClusters$Row" "members" "[I") (by decide +kernel)) (fun _ h9 => h9) rfl hin rfl (by decide +kernel) (rfl) (rfl) (Nat.le_of_ble_eq_true rfl) dX2_init_10 (fun H locs hP hD hS => ?_)
  have hP : va_P (dC, dI) vwCl [(h0, .inr (2, [.ref a_1, .null, .int 0, .long 0])), (a_1, .inl (cI, 300, .inl (fun _ => 0)))] H := hP
  have hD : va_D A [(h0, .inr (2, [.ref a_1, .null, .int 0, .long 0])), (a_1, .inl (cI, 300, .inl (fun _ => 0)))] := hD
  refine lv_aload_n hx hb dX2_init_13 rfl (lv_at hl 0 rfl) ?_
  refine lv_sipush (v := 300) hx hb dX2_init_14 (by decide) ?_
  refine new_a (atype := .long) (ty := .long) (cA := cJ) (a0 := (300, .inr (.inl (fun _ => 0)))) (N' := 300) hx hb (hts (.arrayClass .long) (by decide +kernel)) rfl hK 1 rfl (fun _ _ h => h) hP hD hS hA (vp_zero_l _) (by decide) (by decide) (by decide) (by decide) (by decide) dX2_init_17 (fun a_2 H hP hD hS => ?_)
  have hP : va_P (dC, dI) vwCl [(h0, .inr (2, [.ref a_1, .null, .int 0, .long 0])), (a_1, .inl (cI, 300, .inl (fun _ => 0))), (a_2, .inl (cJ, 300, .inr (.inl (fun _ => 0))))] H := hP
  have hD : va_D A [(h0, .inr (2, [.ref a_1, .null, .int 0, .long 0])), (a_1, .inl (cI, 300, .inl (fun _ => 0))), (a_2, .inl (cJ, 300, .inr (.inl (fun _ => 0))))] := hD
  refine W.widen (k := 2) (n := 600) (by omega) (by omega) ?_
  refine va_putF (D := (dC, dI)) (ci := 2) (v := .ref a_2) (ty := (.array .long)) (C := RX2) (T := TX2) (N := 4) hx hb hts hin2 tyX2 tyX2_ok nmX2 hown hK hP hD hS 0 rfl rfl 1 (by decide) (hts (.fieldLink RX2 15 "CallClusters$Row" "begins" "[J") (by decide +kernel)) (fun _ h9 => h9) rfl hin rfl (by decide +kernel) (rfl) (rfl) (Nat.le_of_ble_eq_true rfl) dX2_init_19 (fun H locs hP hD hS => ?_)
  have hP : va_P (dC, dI) vwCl [(h0, .inr (2, [.ref a_1, .ref a_2, .int 0, .long 0])), (a_1, .inl (cI, 300, .inl (fun _ => 0))), (a_2, .inl (cJ, 300, .inr (.inl (fun _ => 0))))] H := hP
  have hD : va_D A [(h0, .inr (2, [.ref a_1, .ref a_2, .int 0, .long 0])), (a_1, .inl (cI, 300, .inl (fun _ => 0))), (a_2, .inl (cJ, 300, .inr (.inl (fun _ => 0))))] := hD
  have hP9 : va_P (dC, dI) vwCl [(h0, .inr (2, [.ref a_1, .ref a_2, .int 0, .long 0])), (a_1, .inl (cI, 300, .inl (fun _ => 0))), (a_2, .inl (cJ, 300, .inr (.inl (fun _ => 0))))] H := hP
  have hD9 : va_D A [(h0, .inr (2, [.ref a_1, .ref a_2, .int 0, .long 0])), (a_1, .inl (cI, 300, .inl (fun _ => 0))), (a_2, .inl (cJ, 300, .inr (.inl (fun _ => 0))))] := hD
  refine W.widen (k := 2) (n := 600) (by omega) (by omega) ?_
  exact W.vret hx hb hr (fun t ht hW => ⟨⟨(), rfl, trivial, a_1, a_2, by rw [ht]; exact hP9, va_K.moved hW.alike hK, hD9⟩, hS.F ht⟩) hS.2.2 dX2_init_22
