set_option maxHeartbeats 4000000 in
set_option maxRecDepth 100000 in
theorem ct_X3_isFunction (l : Launch) (dC : Nat → ClassId) (dI : Nat → Nat → Nat) (cI cJ cZ : ClassId) (sz : Nat) (x0 : Nat) (z0 h0 g0 w0 v0 : Nat) (n : Nat) (P st : Int32) (f : Int32)  : Met l yX3_isFunction wsX3_isFunction ({ frames := 0, cells := 0, slots := 0, locals := 0 }) (va_Pc [.ref x0, .int f] (fun U => U.heap.size = sz ∧ va_P (dC, dI) vwCl [(x0, .inr (3, [.ref z0, .ref h0, .ref g0, .ref w0, .ref v0, .int (nI n), .int P, .int st]))] U.heap ∧ va_K (dC, dI) vwCl [(cI, .int), (cJ, .long), (cZ, .boolean)] U ∧ va_D (fun _ => True) [(x0, .inr (3, [.ref z0, .ref h0, .ref g0, .ref w0, .ref v0, .int (nI n), .int P, .int st]))])) (va_Qi (fun (r : Int32) (uu : Unit) => r = isFI n f) (fun (uu : Unit) (t : State) => va_P (dC, dI) vwCl [(x0, .inr (3, [.ref z0, .ref h0, .ref g0, .ref w0, .ref v0, .int (nI n), .int P, .int st]))] t.heap ∧ va_K (dC, dI) vwCl [(cI, .int), (cJ, .long), (cZ, .boolean)] t ∧ va_D (va_A [(x0, .inr (3, [.ref z0, .ref h0, .ref g0, .ref w0, .ref v0, .int (nI n), .int P, .int st]))] sz) [(x0, .inr (3, [.ref z0, .ref h0, .ref g0, .ref w0, .ref v0, .int (nI n), .int P, .int st]))]) (va_A [(x0, .inr (3, [.ref z0, .ref h0, .ref g0, .ref w0, .ref v0, .int (nI n), .int P, .int st]))] sz)) 0 0 (va_A [(x0, .inr (3, [.ref z0, .ref h0, .ref g0, .ref w0, .ref v0, .int (nI n), .int P, .int st]))] sz) := by
  refine Met.ofW (cc := cX3_isFunction) (maxL := 2) (ret := (some .boolean)) (by decide) rfl ?_
  intro p ev s m args below meth c s₁ Bd hml hv
  obtain ⟨rfl, hsz, hP, hK, hD0⟩ := hv
  have hx := Bd.exec
  have hb := Bd.bytes
  have hr := Bd.returns
  have hts := atoms_spec (ws := wsX3_isFunction) Bd.pre
  have hown : s.vm.findClass RX3 = some m.cls := findClass_of_methodNamed Bd.named
  have hlocks := Bd.notSynchronized
  have hin3 : ∀ w ∈ wsX30, w ∈ wsX3_isFunction := by decide +kernel
  subst hsz
  have hD := hD0.self (sz := s.heap.size)
  generalize hAe : va_A [(x0, .inr (3, [.ref z0, .ref h0, .ref g0, .ref w0, .ref v0, .int (nI n), .int P, .int st]))] s.heap.size = A at hD ⊢
  have hA : ∀ q : Nat, s.heap.size ≤ q → A q := fun q h => by rw [← hAe]; exact Or.inr h
  have hS : va_S A s.heap s.heap [] := va_S.rf
  have hl := lv_entry ([.ref x0, .int f]) (n := 2) (Nat.le_of_ble_eq_true rfl)
  rw [lg_entry_eq]
  generalize (lg_sl ([.ref x0, .int f]) ++ List.replicate (2 - (lg_sl ([.ref x0, .int f])).length) Slot.unset).toArray = ls at hl ⊢
  have hl : lv_has ls 2 [(0, .ref x0), (1, .int f)] := hl
  generalize hHe : s.heap = H at hP ⊢
  have hS : va_S A s.heap H [] := hHe ▸ hS
  refine lv_iload_n hx hb dX3_isFunction_0 rfl (lv_at hl 1 rfl) ?_
  refine lv_if_lt (tgt := 16) hx hb dX3_isFunction_1 (by decide) (fun c_1 => ?_) (fun c_1 => ?_)
  · -- pc 1, side 0
    refine lv_iconst (v := 0) hx hb dX3_isFunction_16 (by decide) ?_
    have hP9 : va_P (dC, dI) vwCl [(x0, .inr (3, [.ref z0, .ref h0, .ref g0, .ref w0, .ref v0, .int (nI n), .int P, .int st]))] H := hP
    have hD9 : va_D A [(x0, .inr (3, [.ref z0, .ref h0, .ref g0, .ref w0, .ref v0, .int (nI n), .int P, .int st]))] := hD
    exact W.zret (v := 0) hx hb hr (by decide) (fun t ht hW => ⟨⟨0, (), rfl, by simp [isFI, c_1], by rw [ht]; exact hP9, va_K.moved hW.alike hK, hD9⟩, hS.F ht⟩) hS.2.2 dX3_isFunction_17
  · -- pc 1, side 1
    refine lv_iload_n hx hb dX3_isFunction_4 rfl (lv_at hl 1 rfl) ?_
    refine lv_aload_n hx hb dX3_isFunction_5 rfl (lv_at hl 0 rfl) ?_
    refine va_get (D := (dC, dI)) (ci := 3) (v := .int (nI n)) (C := RX3) (T := TX3) (N := 8) hx hb hts hin3 hown hK hP 0 rfl rfl 5 (by decide) (hts (.fieldLink RX3 37 "CallClusters" "functionCount" "I") (by decide +kernel)) (fun _ h9 => h9) rfl dX3_isFunction_6 ?_
    refine lv_icmp_ge (tgt := 16) hx hb dX3_isFunction_9 (by decide) (fun c_2 => ?_) (fun c_2 => ?_)
    · -- pc 9, side 0
      refine lv_iconst (v := 0) hx hb dX3_isFunction_16 (by decide) ?_
      have hP9 : va_P (dC, dI) vwCl [(x0, .inr (3, [.ref z0, .ref h0, .ref g0, .ref w0, .ref v0, .int (nI n), .int P, .int st]))] H := hP
      have hD9 : va_D A [(x0, .inr (3, [.ref z0, .ref h0, .ref g0, .ref w0, .ref v0, .int (nI n), .int P, .int st]))] := hD
      exact W.zret (v := 0) hx hb hr (by decide) (fun t ht hW => ⟨⟨0, (), rfl, by simp [isFI, c_1, c_2], by rw [ht]; exact hP9, va_K.moved hW.alike hK, hD9⟩, hS.F ht⟩) hS.2.2 dX3_isFunction_17
    · -- pc 9, side 1
      refine lv_iconst (v := 1) hx hb dX3_isFunction_12 (by decide) ?_
      refine lv_goto (tgt := 17) hx hb dX3_isFunction_13 (by decide) ?_
      have hP9 : va_P (dC, dI) vwCl [(x0, .inr (3, [.ref z0, .ref h0, .ref g0, .ref w0, .ref v0, .int (nI n), .int P, .int st]))] H := hP
      have hD9 : va_D A [(x0, .inr (3, [.ref z0, .ref h0, .ref g0, .ref w0, .ref v0, .int (nI n), .int P, .int st]))] := hD
      exact W.zret (v := 1) hx hb hr (by decide) (fun t ht hW => ⟨⟨1, (), rfl, by simp [isFI, c_1, c_2], by rw [ht]; exact hP9, va_K.moved hW.alike hK, hD9⟩, hS.F ht⟩) hS.2.2 dX3_isFunction_17
set_option maxHeartbeats 4000000 in
set_option maxRecDepth 100000 in
theorem ct_X3_hasSize (l : Launch) (dC : Nat → ClassId) (dI : Nat → Nat → Nat) (cI cJ cZ : ClassId) (sz : Nat) (x0 : Nat) (z0 : Nat) (h0 g0 w0 v0 : Nat) (n : Nat) (P st : Int32) (z : Nat → Int32) (f : Int32) (hn : n ≤ 300) : Met l yX3_hasSize wsX3_hasSize ({ frames := 1, cells := 0, slots := 0, locals := 21 }) (va_Pc [.ref x0, .int f] (fun U => U.heap.size = sz ∧ va_P (dC, dI) vwCl [(x0, .inr (3, [.ref z0, .ref h0, .ref g0, .ref w0, .ref v0, .int (nI n), .int P, .int st])), (z0, .inl (cI, 300, .inl z))] U.heap ∧ va_K (dC, dI) vwCl [(cI, .int), (cJ, .long), (cZ, .boolean)] U ∧ va_D (fun _ => True) [(x0, .inr (3, [.ref z0, .ref h0, .ref g0, .ref w0, .ref v0, .int (nI n), .int P, .int st])), (z0, .inl (cI, 300, .inl z))])) (va_Qi (fun (r : Int32) (uu : Unit) => r = hasI n z f) (fun (uu : Unit) (t : State) => va_P (dC, dI) vwCl [(x0, .inr (3, [.ref z0, .ref h0, .ref g0, .ref w0, .ref v0, .int (nI n), .int P, .int st])), (z0, .inl (cI, 300, .inl z))] t.heap ∧ va_K (dC, dI) vwCl [(cI, .int), (cJ, .long), (cZ, .boolean)] t ∧ va_D (va_A [(x0, .inr (3, [.ref z0, .ref h0, .ref g0, .ref w0, .ref v0, .int (nI n), .int P, .int st])), (z0, .inl (cI, 300, .inl z))] sz) [(x0, .inr (3, [.ref z0, .ref h0, .ref g0, .ref w0, .ref v0, .int (nI n), .int P, .int st])), (z0, .inl (cI, 300, .inl z))]) (va_A [(x0, .inr (3, [.ref z0, .ref h0, .ref g0, .ref w0, .ref v0, .int (nI n), .int P, .int st])), (z0, .inl (cI, 300, .inl z))] sz)) 0 0 (va_A [(x0, .inr (3, [.ref z0, .ref h0, .ref g0, .ref w0, .ref v0, .int (nI n), .int P, .int st])), (z0, .inl (cI, 300, .inl z))] sz) := by
  refine Met.ofW (cc := cX3_hasSize) (maxL := 2) (ret := (some .boolean)) (by decide) rfl ?_
  intro p ev s m args below meth c s₁ Bd hml hv
  obtain ⟨rfl, hsz, hP, hK, hD0⟩ := hv
  have hx := Bd.exec
  have hb := Bd.bytes
  have hr := Bd.returns
  have hts := atoms_spec (ws := wsX3_hasSize) Bd.pre
  have hown : s.vm.findClass RX3 = some m.cls := findClass_of_methodNamed Bd.named
  have hlocks := Bd.notSynchronized
  have hin3 : ∀ w ∈ wsX30, w ∈ wsX3_hasSize := by decide +kernel
  subst hsz
  have hD := hD0.self (sz := s.heap.size)
  generalize hAe : va_A [(x0, .inr (3, [.ref z0, .ref h0, .ref g0, .ref w0, .ref v0, .int (nI n), .int P, .int st])), (z0, .inl (cI, 300, .inl z))] s.heap.size = A at hD ⊢
  have hA : ∀ q : Nat, s.heap.size ≤ q → A q := fun q h => by rw [← hAe]; exact Or.inr h
  have hS : va_S A s.heap s.heap [] := va_S.rf
  have hl := lv_entry ([.ref x0, .int f]) (n := 2) (Nat.le_of_ble_eq_true rfl)
  rw [lg_entry_eq]
  generalize (lg_sl ([.ref x0, .int f]) ++ List.replicate (2 - (lg_sl ([.ref x0, .int f])).length) Slot.unset).toArray = ls at hl ⊢
  have hl : lv_has ls 2 [(0, .ref x0), (1, .int f)] := hl
  generalize hHe : s.heap = H at hP ⊢
  have hS : va_S A s.heap H [] := hHe ▸ hS
  refine lv_aload_n hx hb dX3_hasSize_0 rfl (lv_at hl 0 rfl) ?_
  refine lv_iload_n hx hb dX3_hasSize_1 rfl (lv_at hl 1 rfl) ?_
  have hPc := hP.sub (ws' := [(x0, .inr (3, [.ref z0, .ref h0, .ref g0, .ref w0, .ref v0, .int (nI n), .int P, .int st]))]) [0] rfl
  have hDc := hD.sub (ws' := [(x0, .inr (3, [.ref z0, .ref h0, .ref g0, .ref w0, .ref v0, .int (nI n), .int P, .int st]))]) [0] (by decide) rfl
  have hFc := va_free (wc := [(x0, .inr (3, [.ref z0, .ref h0, .ref g0, .ref w0, .ref v0, .int (nI n), .int P, .int st]))]) hD hS hA [0] rfl
  refine va_calli (va_runV (As := [.int f]) (rest := []) ⟨hx, hb, hml, hown, hts⟩ (ct_X3_isFunction l dC dI cI cJ cZ H.size x0 z0 h0 g0 w0 v0 n P st f ) (cwV 1 hts gX3_hasSize_X3_isFunction rfl rfl rfl (by decide +kernel) ⟨Nat.le_of_ble_eq_true rfl, Nat.le_of_ble_eq_true rfl⟩) (pre_V hK hPc hDc (ci := 3) rfl rfl) rfl rfl hl.1 rfl (lv_room (Nat.le_of_ble_eq_true rfl)) dX3_hasSize_2 ⟨Nat.zero_le _, Nat.zero_le _⟩) hS (fun q _ h => hFc q h) hFc (fun r_1 uu t H1 locs ht hvm hw hB hz1 hk1 hS => ?_)
  obtain ⟨hP1, hK1, hD1⟩ := hB
  rw [ht] at hP1
  try dsimp only at hw
  have hP1 : va_P (dC, dI) vwCl [(x0, .inr (3, [.ref z0, .ref h0, .ref g0, .ref w0, .ref v0, .int (nI n), .int P, .int st]))] H1 := hP1
  obtain ⟨hP, hD⟩ := va_join (wr := [(z0, .inl (cI, 300, .inl z))]) (w1 := [(x0, .inr (3, [.ref z0, .ref h0, .ref g0, .ref w0, .ref v0, .int (nI n), .int P, .int st]))]) hP hD [0] [1] rfl rfl (by decide) (by decide) hk1 hFc hP1 hD1
  have hP := hP.sub (ws' := [(x0, .inr (3, [.ref z0, .ref h0, .ref g0, .ref w0, .ref v0, .int (nI n), .int P, .int st])), (z0, .inl (cI, 300, .inl z))]) [1, 0] rfl
  have hD := hD.sub (ws' := [(x0, .inr (3, [.ref z0, .ref h0, .ref g0, .ref w0, .ref v0, .int (nI n), .int P, .int st])), (z0, .inl (cI, 300, .inl z))]) [1, 0] (by decide) rfl
  generalize H1 = H at hP hS ⊢
  refine lv_if_eq (tgt := 21) hx hb dX3_hasSize_5 (by decide) (fun c_2 => ?_) (fun c_2 => ?_)
  · -- pc 5, side 0
    rw [hw] at c_2
    refine lv_iconst (v := 0) hx hb dX3_hasSize_21 (by decide) ?_
    have hP9 : va_P (dC, dI) vwCl [(x0, .inr (3, [.ref z0, .ref h0, .ref g0, .ref w0, .ref v0, .int (nI n), .int P, .int st])), (z0, .inl (cI, 300, .inl z))] H := hP
    have hD9 : va_D A [(x0, .inr (3, [.ref z0, .ref h0, .ref g0, .ref w0, .ref v0, .int (nI n), .int P, .int st])), (z0, .inl (cI, 300, .inl z))] := hD
    exact W.zret (v := 0) hx hb hr (by decide) (fun t ht hW => ⟨⟨0, (), rfl, by simp [hasI, c_2], by rw [ht]; exact hP9, va_K.moved hW.alike hK, hD9⟩, hS.F ht⟩) hS.2.2 dX3_hasSize_22
  · -- pc 5, side 1
    rw [hw] at c_2
    refine lv_aload_n hx hb dX3_hasSize_8 rfl (lv_at hl 0 rfl) ?_
    refine va_get (D := (dC, dI)) (ci := 3) (v := .ref z0) (C := RX3) (T := TX3) (N := 8) hx hb hts hin3 hown hK hP 0 rfl rfl 0 (by decide) (hts (.fieldLink RX3 9 "CallClusters" "sizes" "[I") (by decide +kernel)) (fun _ h9 => h9) rfl dX3_hasSize_9 ?_
    refine lv_iload_n hx hb dX3_hasSize_12 rfl (lv_at hl 1 rfl) ?_
    refine va_iald hx hb hK hP 1 0 rfl rfl (isFI_v hn c_2) dX3_hasSize_13 ?_
    refine lv_if_le (tgt := 21) hx hb dX3_hasSize_14 (by decide) (fun c_3 => ?_) (fun c_3 => ?_)
    · -- pc 14, side 0
      refine lv_iconst (v := 0) hx hb dX3_hasSize_21 (by decide) ?_
      have hP9 : va_P (dC, dI) vwCl [(x0, .inr (3, [.ref z0, .ref h0, .ref g0, .ref w0, .ref v0, .int (nI n), .int P, .int st])), (z0, .inl (cI, 300, .inl z))] H := hP
      have hD9 : va_D A [(x0, .inr (3, [.ref z0, .ref h0, .ref g0, .ref w0, .ref v0, .int (nI n), .int P, .int st])), (z0, .inl (cI, 300, .inl z))] := hD
      exact W.zret (v := 0) hx hb hr (by decide) (fun t ht hW => ⟨⟨0, (), rfl, by simp [hasI, c_2, c_3], by rw [ht]; exact hP9, va_K.moved hW.alike hK, hD9⟩, hS.F ht⟩) hS.2.2 dX3_hasSize_22
    · -- pc 14, side 1
      refine lv_iconst (v := 1) hx hb dX3_hasSize_17 (by decide) ?_
      refine lv_goto (tgt := 22) hx hb dX3_hasSize_18 (by decide) ?_
      have hP9 : va_P (dC, dI) vwCl [(x0, .inr (3, [.ref z0, .ref h0, .ref g0, .ref w0, .ref v0, .int (nI n), .int P, .int st])), (z0, .inl (cI, 300, .inl z))] H := hP
      have hD9 : va_D A [(x0, .inr (3, [.ref z0, .ref h0, .ref g0, .ref w0, .ref v0, .int (nI n), .int P, .int st])), (z0, .inl (cI, 300, .inl z))] := hD
      exact W.zret (v := 1) hx hb hr (by decide) (fun t ht hW => ⟨⟨1, (), rfl, by simp [hasI, c_2, c_3], by rw [ht]; exact hP9, va_K.moved hW.alike hK, hD9⟩, hS.F ht⟩) hS.2.2 dX3_hasSize_22
set_option maxHeartbeats 4000000 in
set_option maxRecDepth 100000 in
theorem ct_X3_heat (l : Launch) (dC : Nat → ClassId) (dI : Nat → Nat → Nat) (cI cJ cZ : ClassId) (sz : Nat) (x0 : Nat) (h0 : Nat) (h1 : Nat) (h2 : Nat) (h3 : Nat) (h4 : Nat) (h5 : Nat) (z0 g0 w0 v0 : Nat) (n : Nat) (P st : Int32) (F T : Nat → Int32) (C : Nat → Int64) (S : Nat → Int32) (u : Nat) (f : Int32) (hn : n ≤ 300) : Met l yX3_heat wsX3_heat ({ frames := 1, cells := 0, slots := 0, locals := 21 }) (va_Pc [.ref x0, .int f] (fun U => U.heap.size = sz ∧ va_P (dC, dI) vwCl [(x0, .inr (3, [.ref z0, .ref h0, .ref g0, .ref w0, .ref v0, .int (nI n), .int P, .int st])), (h0, .inr (0, [.ref h1, .ref h2, .ref h3, .ref h4, .ref h5, .int (nI u)])), (h1, .inl (cI, 2000, .inl F)), (h2, .inl (cI, 2000, .inl T)), (h3, .inl (cJ, 2000, .inr (.inl C))), (h4, .inl (cJ, 300, .inr (.inl (hN F T C u)))), (h5, .inl (cI, 300, .inl S))] U.heap ∧ va_K (dC, dI) vwCl [(cI, .int), (cJ, .long), (cZ, .boolean)] U ∧ va_D (fun _ => True) [(x0, .inr (3, [.ref z0, .ref h0, .ref g0, .ref w0, .ref v0, .int (nI n), .int P, .int st])), (h0, .inr (0, [.ref h1, .ref h2, .ref h3, .ref h4, .ref h5, .int (nI u)])), (h1, .inl (cI, 2000, .inl F)), (h2, .inl (cI, 2000, .inl T)), (h3, .inl (cJ, 2000, .inr (.inl C))), (h4, .inl (cJ, 300, .inr (.inl (hN F T C u)))), (h5, .inl (cI, 300, .inl S))])) (va_Ql (fun (r : Int64) (uu : Unit) => r = if isFI n f = 0 then -1 else hN F T C u (f.toNatClampNeg)) (fun (uu : Unit) (t : State) => va_P (dC, dI) vwCl [(x0, .inr (3, [.ref z0, .ref h0, .ref g0, .ref w0, .ref v0, .int (nI n), .int P, .int st])), (h0, .inr (0, [.ref h1, .ref h2, .ref h3, .ref h4, .ref h5, .int (nI u)])), (h1, .inl (cI, 2000, .inl F)), (h2, .inl (cI, 2000, .inl T)), (h3, .inl (cJ, 2000, .inr (.inl C))), (h4, .inl (cJ, 300, .inr (.inl (hN F T C u)))), (h5, .inl (cI, 300, .inl S))] t.heap ∧ va_K (dC, dI) vwCl [(cI, .int), (cJ, .long), (cZ, .boolean)] t ∧ va_D (va_A [(x0, .inr (3, [.ref z0, .ref h0, .ref g0, .ref w0, .ref v0, .int (nI n), .int P, .int st])), (h0, .inr (0, [.ref h1, .ref h2, .ref h3, .ref h4, .ref h5, .int (nI u)])), (h1, .inl (cI, 2000, .inl F)), (h2, .inl (cI, 2000, .inl T)), (h3, .inl (cJ, 2000, .inr (.inl C))), (h4, .inl (cJ, 300, .inr (.inl (hN F T C u)))), (h5, .inl (cI, 300, .inl S))] sz) [(x0, .inr (3, [.ref z0, .ref h0, .ref g0, .ref w0, .ref v0, .int (nI n), .int P, .int st])), (h0, .inr (0, [.ref h1, .ref h2, .ref h3, .ref h4, .ref h5, .int (nI u)])), (h1, .inl (cI, 2000, .inl F)), (h2, .inl (cI, 2000, .inl T)), (h3, .inl (cJ, 2000, .inr (.inl C))), (h4, .inl (cJ, 300, .inr (.inl (hN F T C u)))), (h5, .inl (cI, 300, .inl S))]) (va_A [(x0, .inr (3, [.ref z0, .ref h0, .ref g0, .ref w0, .ref v0, .int (nI n), .int P, .int st])), (h0, .inr (0, [.ref h1, .ref h2, .ref h3, .ref h4, .ref h5, .int (nI u)])), (h1, .inl (cI, 2000, .inl F)), (h2, .inl (cI, 2000, .inl T)), (h3, .inl (cJ, 2000, .inr (.inl C))), (h4, .inl (cJ, 300, .inr (.inl (hN F T C u)))), (h5, .inl (cI, 300, .inl S))] sz)) 0 0 (va_A [(x0, .inr (3, [.ref z0, .ref h0, .ref g0, .ref w0, .ref v0, .int (nI n), .int P, .int st])), (h0, .inr (0, [.ref h1, .ref h2, .ref h3, .ref h4, .ref h5, .int (nI u)])), (h1, .inl (cI, 2000, .inl F)), (h2, .inl (cI, 2000, .inl T)), (h3, .inl (cJ, 2000, .inr (.inl C))), (h4, .inl (cJ, 300, .inr (.inl (hN F T C u)))), (h5, .inl (cI, 300, .inl S))] sz) := by
  refine Met.ofW (cc := cX3_heat) (maxL := 2) (ret := (some .long)) (by decide) rfl ?_
  intro p ev s m args below meth c s₁ Bd hml hv
  obtain ⟨rfl, hsz, hP, hK, hD0⟩ := hv
  have hx := Bd.exec
  have hb := Bd.bytes
  have hr := Bd.returns
  have hts := atoms_spec (ws := wsX3_heat) Bd.pre
  have hown : s.vm.findClass RX3 = some m.cls := findClass_of_methodNamed Bd.named
  have hlocks := Bd.notSynchronized
  have hin3 : ∀ w ∈ wsX30, w ∈ wsX3_heat := by decide +kernel
  subst hsz
  have hD := hD0.self (sz := s.heap.size)
  generalize hAe : va_A [(x0, .inr (3, [.ref z0, .ref h0, .ref g0, .ref w0, .ref v0, .int (nI n), .int P, .int st])), (h0, .inr (0, [.ref h1, .ref h2, .ref h3, .ref h4, .ref h5, .int (nI u)])), (h1, .inl (cI, 2000, .inl F)), (h2, .inl (cI, 2000, .inl T)), (h3, .inl (cJ, 2000, .inr (.inl C))), (h4, .inl (cJ, 300, .inr (.inl (hN F T C u)))), (h5, .inl (cI, 300, .inl S))] s.heap.size = A at hD ⊢
  have hA : ∀ q : Nat, s.heap.size ≤ q → A q := fun q h => by rw [← hAe]; exact Or.inr h
  have hS : va_S A s.heap s.heap [] := va_S.rf
  have hl := lv_entry ([.ref x0, .int f]) (n := 2) (Nat.le_of_ble_eq_true rfl)
  rw [lg_entry_eq]
  generalize (lg_sl ([.ref x0, .int f]) ++ List.replicate (2 - (lg_sl ([.ref x0, .int f])).length) Slot.unset).toArray = ls at hl ⊢
  have hl : lv_has ls 2 [(0, .ref x0), (1, .int f)] := hl
  generalize hHe : s.heap = H at hP ⊢
  have hS : va_S A s.heap H [] := hHe ▸ hS
  refine lv_aload_n hx hb dX3_heat_0 rfl (lv_at hl 0 rfl) ?_
  refine lv_iload_n hx hb dX3_heat_1 rfl (lv_at hl 1 rfl) ?_
  have hPc := hP.sub (ws' := [(x0, .inr (3, [.ref z0, .ref h0, .ref g0, .ref w0, .ref v0, .int (nI n), .int P, .int st]))]) [0] rfl
  have hDc := hD.sub (ws' := [(x0, .inr (3, [.ref z0, .ref h0, .ref g0, .ref w0, .ref v0, .int (nI n), .int P, .int st]))]) [0] (by decide) rfl
  have hFc := va_free (wc := [(x0, .inr (3, [.ref z0, .ref h0, .ref g0, .ref w0, .ref v0, .int (nI n), .int P, .int st]))]) hD hS hA [0] rfl
  refine va_calli (va_runV (As := [.int f]) (rest := []) ⟨hx, hb, hml, hown, hts⟩ (ct_X3_isFunction l dC dI cI cJ cZ H.size x0 z0 h0 g0 w0 v0 n P st f ) (cwV 1 hts gX3_heat_X3_isFunction rfl rfl rfl (by decide +kernel) ⟨Nat.le_of_ble_eq_true rfl, Nat.le_of_ble_eq_true rfl⟩) (pre_V hK hPc hDc (ci := 3) rfl rfl) rfl rfl hl.1 rfl (lv_room (Nat.le_of_ble_eq_true rfl)) dX3_heat_2 ⟨Nat.zero_le _, Nat.zero_le _⟩) hS (fun q _ h => hFc q h) hFc (fun r_1 uu t H1 locs ht hvm hw hB hz1 hk1 hS => ?_)
  obtain ⟨hP1, hK1, hD1⟩ := hB
  rw [ht] at hP1
  try dsimp only at hw
  have hP1 : va_P (dC, dI) vwCl [(x0, .inr (3, [.ref z0, .ref h0, .ref g0, .ref w0, .ref v0, .int (nI n), .int P, .int st]))] H1 := hP1
  obtain ⟨hP, hD⟩ := va_join (wr := [(h0, .inr (0, [.ref h1, .ref h2, .ref h3, .ref h4, .ref h5, .int (nI u)])), (h1, .inl (cI, 2000, .inl F)), (h2, .inl (cI, 2000, .inl T)), (h3, .inl (cJ, 2000, .inr (.inl C))), (h4, .inl (cJ, 300, .inr (.inl (hN F T C u)))), (h5, .inl (cI, 300, .inl S))]) (w1 := [(x0, .inr (3, [.ref z0, .ref h0, .ref g0, .ref w0, .ref v0, .int (nI n), .int P, .int st]))]) hP hD [0] [1, 2, 3, 4, 5, 6] rfl rfl (by decide) (by decide) hk1 hFc hP1 hD1
  have hP := hP.sub (ws' := [(x0, .inr (3, [.ref z0, .ref h0, .ref g0, .ref w0, .ref v0, .int (nI n), .int P, .int st])), (h0, .inr (0, [.ref h1, .ref h2, .ref h3, .ref h4, .ref h5, .int (nI u)])), (h1, .inl (cI, 2000, .inl F)), (h2, .inl (cI, 2000, .inl T)), (h3, .inl (cJ, 2000, .inr (.inl C))), (h4, .inl (cJ, 300, .inr (.inl (hN F T C u)))), (h5, .inl (cI, 300, .inl S))]) [6, 0, 1, 2, 3, 4, 5] rfl
  have hD := hD.sub (ws' := [(x0, .inr (3, [.ref z0, .ref h0, .ref g0, .ref w0, .ref v0, .int (nI n), .int P, .int st])), (h0, .inr (0, [.ref h1, .ref h2, .ref h3, .ref h4, .ref h5, .int (nI u)])), (h1, .inl (cI, 2000, .inl F)), (h2, .inl (cI, 2000, .inl T)), (h3, .inl (cJ, 2000, .inr (.inl C))), (h4, .inl (cJ, 300, .inr (.inl (hN F T C u)))), (h5, .inl (cI, 300, .inl S))]) [6, 0, 1, 2, 3, 4, 5] (by decide) rfl
  generalize H1 = H at hP hS ⊢
  refine lv_if_eq (tgt := 19) hx hb dX3_heat_5 (by decide) (fun c_2 => ?_) (fun c_2 => ?_)
  · -- pc 5, side 0
    rw [hw] at c_2
    refine lv_ldc2 (v := (-1)) hx hb hown (hts (.constantLong RX3 62 (-1)) (by decide +kernel)) dX3_heat_19 ?_
    have hP9 : va_P (dC, dI) vwCl [(x0, .inr (3, [.ref z0, .ref h0, .ref g0, .ref w0, .ref v0, .int (nI n), .int P, .int st])), (h0, .inr (0, [.ref h1, .ref h2, .ref h3, .ref h4, .ref h5, .int (nI u)])), (h1, .inl (cI, 2000, .inl F)), (h2, .inl (cI, 2000, .inl T)), (h3, .inl (cJ, 2000, .inr (.inl C))), (h4, .inl (cJ, 300, .inr (.inl (hN F T C u)))), (h5, .inl (cI, 300, .inl S))] H := hP
    have hD9 : va_D A [(x0, .inr (3, [.ref z0, .ref h0, .ref g0, .ref w0, .ref v0, .int (nI n), .int P, .int st])), (h0, .inr (0, [.ref h1, .ref h2, .ref h3, .ref h4, .ref h5, .int (nI u)])), (h1, .inl (cI, 2000, .inl F)), (h2, .inl (cI, 2000, .inl T)), (h3, .inl (cJ, 2000, .inr (.inl C))), (h4, .inl (cJ, 300, .inr (.inl (hN F T C u)))), (h5, .inl (cI, 300, .inl S))] := hD
    exact W.lret (v := (-1)) hx hb hr (fun t ht hW => ⟨⟨(-1), (), rfl, by simp [c_2], by rw [ht]; exact hP9, va_K.moved hW.alike hK, hD9⟩, hS.F ht⟩) hS.2.2 dX3_heat_22
  · -- pc 5, side 1
    rw [hw] at c_2
    refine lv_aload_n hx hb dX3_heat_8 rfl (lv_at hl 0 rfl) ?_
    refine va_get (D := (dC, dI)) (ci := 3) (v := .ref h0) (C := RX3) (T := TX3) (N := 8) hx hb hts hin3 hown hK hP 0 rfl rfl 1 (by decide) (hts (.fieldLink RX3 16 "CallClusters" "table" "LCallClusters$CallTable;") (by decide +kernel)) (fun _ h9 => h9) rfl dX3_heat_9 ?_
    refine lv_iload_n hx hb dX3_heat_12 rfl (lv_at hl 1 rfl) ?_
    have hPc := hP.sub (ws' := [(h0, .inr (0, [.ref h1, .ref h2, .ref h3, .ref h4, .ref h5, .int (nI u)])), (h1, .inl (cI, 2000, .inl F)), (h2, .inl (cI, 2000, .inl T)), (h3, .inl (cJ, 2000, .inr (.inl C))), (h4, .inl (cJ, 300, .inr (.inl (hN F T C u)))), (h5, .inl (cI, 300, .inl S))]) [1, 2, 3, 4, 5, 6] rfl
    have hDc := hD.sub (ws' := [(h0, .inr (0, [.ref h1, .ref h2, .ref h3, .ref h4, .ref h5, .int (nI u)])), (h1, .inl (cI, 2000, .inl F)), (h2, .inl (cI, 2000, .inl T)), (h3, .inl (cJ, 2000, .inr (.inl C))), (h4, .inl (cJ, 300, .inr (.inl (hN F T C u)))), (h5, .inl (cI, 300, .inl S))]) [1, 2, 3, 4, 5, 6] (by decide) rfl
    have hFc := va_free (wc := [(h0, .inr (0, [.ref h1, .ref h2, .ref h3, .ref h4, .ref h5, .int (nI u)])), (h1, .inl (cI, 2000, .inl F)), (h2, .inl (cI, 2000, .inl T)), (h3, .inl (cJ, 2000, .inr (.inl C))), (h4, .inl (cJ, 300, .inr (.inl (hN F T C u)))), (h5, .inl (cI, 300, .inl S))]) hD hS hA [1, 2, 3, 4, 5, 6] rfl
    refine va_calll (va_runV (As := [.int f]) (rest := []) ⟨hx, hb, hml, hown, hts⟩ (ct_X0_heatOf l dC dI cI cJ cZ H.size h0 h1 h2 h3 h4 h5 F T C (hN F T C u) S u f (isFI_v hn c_2)) (cwV 1 hts gX3_heat_X0_heatOf rfl rfl rfl (by decide +kernel) ⟨Nat.le_of_ble_eq_true rfl, Nat.le_of_ble_eq_true rfl⟩) (pre_V hK hPc hDc (ci := 0) rfl rfl) rfl rfl hl.1 rfl (lv_room (Nat.le_of_ble_eq_true rfl)) dX3_heat_13 ⟨Nat.zero_le _, Nat.zero_le _⟩) hS (fun q _ h => hFc q h) hFc (fun r_3 uu t H1 locs ht hvm hw hB hz1 hk1 hS => ?_)
    obtain ⟨hP1, hK1, hD1⟩ := hB
    rw [ht] at hP1
    try dsimp only at hw
    have hP1 : va_P (dC, dI) vwCl [(h0, .inr (0, [.ref h1, .ref h2, .ref h3, .ref h4, .ref h5, .int (nI u)])), (h1, .inl (cI, 2000, .inl F)), (h2, .inl (cI, 2000, .inl T)), (h3, .inl (cJ, 2000, .inr (.inl C))), (h4, .inl (cJ, 300, .inr (.inl (hN F T C u)))), (h5, .inl (cI, 300, .inl S))] H1 := hP1
    obtain ⟨hP, hD⟩ := va_join (wr := [(x0, .inr (3, [.ref z0, .ref h0, .ref g0, .ref w0, .ref v0, .int (nI n), .int P, .int st]))]) (w1 := [(h0, .inr (0, [.ref h1, .ref h2, .ref h3, .ref h4, .ref h5, .int (nI u)])), (h1, .inl (cI, 2000, .inl F)), (h2, .inl (cI, 2000, .inl T)), (h3, .inl (cJ, 2000, .inr (.inl C))), (h4, .inl (cJ, 300, .inr (.inl (hN F T C u)))), (h5, .inl (cI, 300, .inl S))]) hP hD [1, 2, 3, 4, 5, 6] [0] rfl rfl (by decide) (by decide) hk1 hFc hP1 hD1
    have hP := hP.sub (ws' := [(x0, .inr (3, [.ref z0, .ref h0, .ref g0, .ref w0, .ref v0, .int (nI n), .int P, .int st])), (h0, .inr (0, [.ref h1, .ref h2, .ref h3, .ref h4, .ref h5, .int (nI u)])), (h1, .inl (cI, 2000, .inl F)), (h2, .inl (cI, 2000, .inl T)), (h3, .inl (cJ, 2000, .inr (.inl C))), (h4, .inl (cJ, 300, .inr (.inl (hN F T C u)))), (h5, .inl (cI, 300, .inl S))]) [0, 1, 2, 3, 4, 5, 6] rfl
    have hD := hD.sub (ws' := [(x0, .inr (3, [.ref z0, .ref h0, .ref g0, .ref w0, .ref v0, .int (nI n), .int P, .int st])), (h0, .inr (0, [.ref h1, .ref h2, .ref h3, .ref h4, .ref h5, .int (nI u)])), (h1, .inl (cI, 2000, .inl F)), (h2, .inl (cI, 2000, .inl T)), (h3, .inl (cJ, 2000, .inr (.inl C))), (h4, .inl (cJ, 300, .inr (.inl (hN F T C u)))), (h5, .inl (cI, 300, .inl S))]) [0, 1, 2, 3, 4, 5, 6] (by decide) rfl
    generalize H1 = H at hP hS ⊢
    subst hw
    refine lv_goto (tgt := 22) hx hb dX3_heat_16 (by decide) ?_
    have hP9 : va_P (dC, dI) vwCl [(x0, .inr (3, [.ref z0, .ref h0, .ref g0, .ref w0, .ref v0, .int (nI n), .int P, .int st])), (h0, .inr (0, [.ref h1, .ref h2, .ref h3, .ref h4, .ref h5, .int (nI u)])), (h1, .inl (cI, 2000, .inl F)), (h2, .inl (cI, 2000, .inl T)), (h3, .inl (cJ, 2000, .inr (.inl C))), (h4, .inl (cJ, 300, .inr (.inl (hN F T C u)))), (h5, .inl (cI, 300, .inl S))] H := hP
    have hD9 : va_D A [(x0, .inr (3, [.ref z0, .ref h0, .ref g0, .ref w0, .ref v0, .int (nI n), .int P, .int st])), (h0, .inr (0, [.ref h1, .ref h2, .ref h3, .ref h4, .ref h5, .int (nI u)])), (h1, .inl (cI, 2000, .inl F)), (h2, .inl (cI, 2000, .inl T)), (h3, .inl (cJ, 2000, .inr (.inl C))), (h4, .inl (cJ, 300, .inr (.inl (hN F T C u)))), (h5, .inl (cI, 300, .inl S))] := hD
    exact W.lret (v := hN F T C u (f.toNatClampNeg)) hx hb hr (fun t ht hW => ⟨⟨hN F T C u (f.toNatClampNeg), (), rfl, by simp [c_2], by rw [ht]; exact hP9, va_K.moved hW.alike hK, hD9⟩, hS.F ht⟩) hS.2.2 dX3_heat_22
set_option maxHeartbeats 4000000 in
set_option maxRecDepth 100000 in
theorem ct_X3_page (l : Launch) (dC : Nat → ClassId) (dI : Nat → Nat → Nat) (cI cJ cZ : ClassId) (sz : Nat) (x0 : Nat) (z0 h0 g0 w0 v0 : Nat) (n : Nat) (P st : Int32) (y : Int32)  : Met l yX3_page wsX3_page ({ frames := 0, cells := 0, slots := 0, locals := 0 }) (va_Pc [.ref x0, .int y] (fun U => U.heap.size = sz ∧ va_P (dC, dI) vwCl [(x0, .inr (3, [.ref z0, .ref h0, .ref g0, .ref w0, .ref v0, .int (nI n), .int P, .int st]))] U.heap ∧ va_K (dC, dI) vwCl [(cI, .int), (cJ, .long), (cZ, .boolean)] U ∧ va_D (fun _ => True) [(x0, .inr (3, [.ref z0, .ref h0, .ref g0, .ref w0, .ref v0, .int (nI n), .int P, .int st]))])) (va_Qi (fun (r : Int32) (uu : Int32 × Int32) => match uu with | (P', st') => (r = 0 ∧ P' = P ∧ st' = st ∧ (y < 1 ∨ 100000000 < y)) ∨ (r = 1 ∧ P' = y ∧ st' = 1 ∧ ¬ y < 1 ∧ ¬ 100000000 < y)) (fun (uu : Int32 × Int32) (t : State) => match uu with | (P', st') => va_P (dC, dI) vwCl [(x0, .inr (3, [.ref z0, .ref h0, .ref g0, .ref w0, .ref v0, .int (nI n), .int (P'), .int (st')]))] t.heap ∧ va_K (dC, dI) vwCl [(cI, .int), (cJ, .long), (cZ, .boolean)] t ∧ va_D (va_A [(x0, .inr (3, [.ref z0, .ref h0, .ref g0, .ref w0, .ref v0, .int (nI n), .int P, .int st]))] sz) [(x0, .inr (3, [.ref z0, .ref h0, .ref g0, .ref w0, .ref v0, .int (nI n), .int (P'), .int (st')]))]) (va_A [(x0, .inr (3, [.ref z0, .ref h0, .ref g0, .ref w0, .ref v0, .int (nI n), .int P, .int st]))] sz)) 0 0 (va_A [(x0, .inr (3, [.ref z0, .ref h0, .ref g0, .ref w0, .ref v0, .int (nI n), .int P, .int st]))] sz) := by
  refine Met.ofW (cc := cX3_page) (maxL := 2) (ret := (some .boolean)) (by decide) rfl ?_
  intro p ev s m args below meth c s₁ Bd hml hv
  obtain ⟨rfl, hsz, hP, hK, hD0⟩ := hv
  have hx := Bd.exec
  have hb := Bd.bytes
  have hr := Bd.returns
  have hts := atoms_spec (ws := wsX3_page) Bd.pre
  have hown : s.vm.findClass RX3 = some m.cls := findClass_of_methodNamed Bd.named
  have hlocks := Bd.notSynchronized
  have hin3 : ∀ w ∈ wsX30, w ∈ wsX3_page := by decide +kernel
  subst hsz
  have hD := hD0.self (sz := s.heap.size)
  generalize hAe : va_A [(x0, .inr (3, [.ref z0, .ref h0, .ref g0, .ref w0, .ref v0, .int (nI n), .int P, .int st]))] s.heap.size = A at hD ⊢
  have hA : ∀ q : Nat, s.heap.size ≤ q → A q := fun q h => by rw [← hAe]; exact Or.inr h
  have hS : va_S A s.heap s.heap [] := va_S.rf
  have hl := lv_entry ([.ref x0, .int y]) (n := 2) (Nat.le_of_ble_eq_true rfl)
  rw [lg_entry_eq]
  generalize (lg_sl ([.ref x0, .int y]) ++ List.replicate (2 - (lg_sl ([.ref x0, .int y])).length) Slot.unset).toArray = ls at hl ⊢
  have hl : lv_has ls 2 [(0, .ref x0), (1, .int y)] := hl
  generalize hHe : s.heap = H at hP ⊢
  have hS : va_S A s.heap H [] := hHe ▸ hS
  refine lv_iload_n hx hb dX3_page_0 rfl (lv_at hl 1 rfl) ?_
  refine lv_iconst (v := 1) hx hb dX3_page_1 (by decide) ?_
  refine lv_icmp_lt (tgt := 11) hx hb dX3_page_2 (by decide) (fun c_1 => ?_) (fun c_1 => ?_)
  · -- pc 2, side 0
    refine lv_iconst (v := 0) hx hb dX3_page_11 (by decide) ?_
    have hP9 : va_P (dC, dI) vwCl [(x0, .inr (3, [.ref z0, .ref h0, .ref g0, .ref w0, .ref v0, .int (nI n), .int P, .int st]))] H := hP
    have hD9 : va_D A [(x0, .inr (3, [.ref z0, .ref h0, .ref g0, .ref w0, .ref v0, .int (nI n), .int P, .int st]))] := hD
    exact W.zret (v := 0) hx hb hr (by decide) (fun t ht hW => ⟨⟨0, (P, st), rfl, Or.inl ⟨rfl, rfl, rfl, Or.inl c_1⟩, by rw [ht]; exact hP9, va_K.moved hW.alike hK, hD9⟩, hS.F ht⟩) hS.2.2 dX3_page_12
  · -- pc 2, side 1
    refine lv_iload_n hx hb dX3_page_5 rfl (lv_at hl 1 rfl) ?_
    refine lv_ldc (v := 100000000) hx hb hown (hts (.constant RX3 77 (100000000)) (by decide +kernel)) dX3_page_6 ?_
    refine lv_icmp_le (tgt := 13) hx hb dX3_page_8 (by decide) (fun c_2 => ?_) (fun c_2 => ?_)
    · -- pc 8, side 0
      refine lv_aload_n hx hb dX3_page_13 rfl (lv_at hl 0 rfl) ?_
      refine lv_iload_n hx hb dX3_page_14 rfl (lv_at hl 1 rfl) ?_
      refine va_put (D := (dC, dI)) (ci := 3) (v := .int y) (ty := .int) (C := RX3) (T := TX3) (N := 8) hx hb hts hin3 tyX3 tyX3_ok nmX3 hown hK hP hD hS 0 rfl rfl 6 (by decide) (hts (.fieldLink RX3 41 "CallClusters" "pageBytes" "I") (by decide +kernel)) (fun _ h9 => h9) rfl (by decide +kernel) (rfl) (rfl) (Nat.le_of_ble_eq_true rfl) dX3_page_15 (fun H locs hP hD hS => ?_)
      have hP : va_P (dC, dI) vwCl [(x0, .inr (3, [.ref z0, .ref h0, .ref g0, .ref w0, .ref v0, .int (nI n), .int y, .int st]))] H := hP
      have hD : va_D A [(x0, .inr (3, [.ref z0, .ref h0, .ref g0, .ref w0, .ref v0, .int (nI n), .int y, .int st]))] := hD
      refine lv_aload_n hx hb dX3_page_18 rfl (lv_at hl 0 rfl) ?_
      refine lv_iconst (v := 1) hx hb dX3_page_19 (by decide) ?_
      refine va_put (D := (dC, dI)) (ci := 3) (v := .int 1) (ty := .boolean) (C := RX3) (T := TX3) (N := 8) hx hb hts hin3 tyX3 tyX3_ok nmX3 hown hK hP hD hS 0 rfl rfl 7 (by decide) (hts (.fieldLink RX3 44 "CallClusters" "stale" "Z") (by decide +kernel)) (fun _ h9 => h9) rfl (by decide +kernel) (by decide) (by decide) (Nat.le_of_ble_eq_true rfl) dX3_page_20 (fun H locs hP hD hS => ?_)
      have hP : va_P (dC, dI) vwCl [(x0, .inr (3, [.ref z0, .ref h0, .ref g0, .ref w0, .ref v0, .int (nI n), .int y, .int 1]))] H := hP
      have hD : va_D A [(x0, .inr (3, [.ref z0, .ref h0, .ref g0, .ref w0, .ref v0, .int (nI n), .int y, .int 1]))] := hD
      refine lv_iconst (v := 1) hx hb dX3_page_23 (by decide) ?_
      have hP9 : va_P (dC, dI) vwCl [(x0, .inr (3, [.ref z0, .ref h0, .ref g0, .ref w0, .ref v0, .int (nI n), .int y, .int 1]))] H := hP
      have hD9 : va_D A [(x0, .inr (3, [.ref z0, .ref h0, .ref g0, .ref w0, .ref v0, .int (nI n), .int y, .int 1]))] := hD
      exact W.zret (v := 1) hx hb hr (by decide) (fun t ht hW => ⟨⟨1, (y, 1), rfl, Or.inr ⟨rfl, rfl, rfl, c_1, Int32.not_lt.mpr c_2⟩, by rw [ht]; exact hP9, va_K.moved hW.alike hK, hD9⟩, hS.F ht⟩) hS.2.2 dX3_page_24
    · -- pc 8, side 1
      refine lv_iconst (v := 0) hx hb dX3_page_11 (by decide) ?_
      have hP9 : va_P (dC, dI) vwCl [(x0, .inr (3, [.ref z0, .ref h0, .ref g0, .ref w0, .ref v0, .int (nI n), .int P, .int st]))] H := hP
      have hD9 : va_D A [(x0, .inr (3, [.ref z0, .ref h0, .ref g0, .ref w0, .ref v0, .int (nI n), .int P, .int st]))] := hD
      exact W.zret (v := 0) hx hb hr (by decide) (fun t ht hW => ⟨⟨0, (P, st), rfl, Or.inl ⟨rfl, rfl, rfl, Or.inr (Int32.not_le.mp c_2)⟩, by rw [ht]; exact hP9, va_K.moved hW.alike hK, hD9⟩, hS.F ht⟩) hS.2.2 dX3_page_12
set_option maxHeartbeats 4000000 in
set_option maxRecDepth 100000 in
theorem ct_X3_size (l : Launch) (dC : Nat → ClassId) (dI : Nat → Nat → Nat) (cI cJ cZ : ClassId) (sz : Nat) (x0 : Nat) (z0 : Nat) (h0 g0 w0 v0 : Nat) (n : Nat) (P st : Int32) (z : Nat → Int32) (f y : Int32) (hn : n ≤ 300) : Met l yX3_size wsX3_size ({ frames := 1, cells := 0, slots := 0, locals := 21 }) (va_Pc [.ref x0, .int f, .int y] (fun U => U.heap.size = sz ∧ va_P (dC, dI) vwCl [(x0, .inr (3, [.ref z0, .ref h0, .ref g0, .ref w0, .ref v0, .int (nI n), .int P, .int st])), (z0, .inl (cI, 300, .inl z))] U.heap ∧ va_K (dC, dI) vwCl [(cI, .int), (cJ, .long), (cZ, .boolean)] U ∧ va_D (fun _ => True) [(x0, .inr (3, [.ref z0, .ref h0, .ref g0, .ref w0, .ref v0, .int (nI n), .int P, .int st])), (z0, .inl (cI, 300, .inl z))])) (va_Qi (fun (r : Int32) (uu : (Nat → Int32) × Int32) => match uu with | (z', st') => (r = 0 ∧ z' = z ∧ st' = st ∧ (isFI n f = 0 ∨ y < 0 ∨ 1000000 < y)) ∨ (r = 1 ∧ z' = upd z (f.toNatClampNeg) y ∧ st' = 1 ∧ ¬ isFI n f = 0 ∧ ¬ y < 0 ∧ ¬ 1000000 < y)) (fun (uu : (Nat → Int32) × Int32) (t : State) => match uu with | (z', st') => va_P (dC, dI) vwCl [(x0, .inr (3, [.ref z0, .ref h0, .ref g0, .ref w0, .ref v0, .int (nI n), .int P, .int (st')])), (z0, .inl (cI, 300, .inl (z')))] t.heap ∧ va_K (dC, dI) vwCl [(cI, .int), (cJ, .long), (cZ, .boolean)] t ∧ va_D (va_A [(x0, .inr (3, [.ref z0, .ref h0, .ref g0, .ref w0, .ref v0, .int (nI n), .int P, .int st])), (z0, .inl (cI, 300, .inl z))] sz) [(x0, .inr (3, [.ref z0, .ref h0, .ref g0, .ref w0, .ref v0, .int (nI n), .int P, .int (st')])), (z0, .inl (cI, 300, .inl (z')))]) (va_A [(x0, .inr (3, [.ref z0, .ref h0, .ref g0, .ref w0, .ref v0, .int (nI n), .int P, .int st])), (z0, .inl (cI, 300, .inl z))] sz)) 0 0 (va_A [(x0, .inr (3, [.ref z0, .ref h0, .ref g0, .ref w0, .ref v0, .int (nI n), .int P, .int st])), (z0, .inl (cI, 300, .inl z))] sz) := by
  refine Met.ofW (cc := cX3_size) (maxL := 3) (ret := (some .boolean)) (by decide) rfl ?_
  intro p ev s m args below meth c s₁ Bd hml hv
  obtain ⟨rfl, hsz, hP, hK, hD0⟩ := hv
  have hx := Bd.exec
  have hb := Bd.bytes
  have hr := Bd.returns
  have hts := atoms_spec (ws := wsX3_size) Bd.pre
  have hown : s.vm.findClass RX3 = some m.cls := findClass_of_methodNamed Bd.named
  have hlocks := Bd.notSynchronized
  have hin3 : ∀ w ∈ wsX30, w ∈ wsX3_size := by decide +kernel
  subst hsz
  have hD := hD0.self (sz := s.heap.size)
  generalize hAe : va_A [(x0, .inr (3, [.ref z0, .ref h0, .ref g0, .ref w0, .ref v0, .int (nI n), .int P, .int st])), (z0, .inl (cI, 300, .inl z))] s.heap.size = A at hD ⊢
  have hA : ∀ q : Nat, s.heap.size ≤ q → A q := fun q h => by rw [← hAe]; exact Or.inr h
  have hS : va_S A s.heap s.heap [] := va_S.rf
  have hl := lv_entry ([.ref x0, .int f, .int y]) (n := 3) (Nat.le_of_ble_eq_true rfl)
  rw [lg_entry_eq]
  generalize (lg_sl ([.ref x0, .int f, .int y]) ++ List.replicate (3 - (lg_sl ([.ref x0, .int f, .int y])).length) Slot.unset).toArray = ls at hl ⊢
  have hl : lv_has ls 3 [(0, .ref x0), (1, .int f), (2, .int y)] := hl
  generalize hHe : s.heap = H at hP ⊢
  have hS : va_S A s.heap H [] := hHe ▸ hS
  refine lv_aload_n hx hb dX3_size_0 rfl (lv_at hl 0 rfl) ?_
  refine lv_iload_n hx hb dX3_size_1 rfl (lv_at hl 1 rfl) ?_
  have hPc := hP.sub (ws' := [(x0, .inr (3, [.ref z0, .ref h0, .ref g0, .ref w0, .ref v0, .int (nI n), .int P, .int st]))]) [0] rfl
  have hDc := hD.sub (ws' := [(x0, .inr (3, [.ref z0, .ref h0, .ref g0, .ref w0, .ref v0, .int (nI n), .int P, .int st]))]) [0] (by decide) rfl
  have hFc := va_free (wc := [(x0, .inr (3, [.ref z0, .ref h0, .ref g0, .ref w0, .ref v0, .int (nI n), .int P, .int st]))]) hD hS hA [0] rfl
  refine va_calli (va_runV (As := [.int f]) (rest := []) ⟨hx, hb, hml, hown, hts⟩ (ct_X3_isFunction l dC dI cI cJ cZ H.size x0 z0 h0 g0 w0 v0 n P st f ) (cwV 1 hts gX3_size_X3_isFunction rfl rfl rfl (by decide +kernel) ⟨Nat.le_of_ble_eq_true rfl, Nat.le_of_ble_eq_true rfl⟩) (pre_V hK hPc hDc (ci := 3) rfl rfl) rfl rfl hl.1 rfl (lv_room (Nat.le_of_ble_eq_true rfl)) dX3_size_2 ⟨Nat.zero_le _, Nat.zero_le _⟩) hS (fun q _ h => hFc q h) hFc (fun r_1 uu t H1 locs ht hvm hw hB hz1 hk1 hS => ?_)
  obtain ⟨hP1, hK1, hD1⟩ := hB
  rw [ht] at hP1
  try dsimp only at hw
  have hP1 : va_P (dC, dI) vwCl [(x0, .inr (3, [.ref z0, .ref h0, .ref g0, .ref w0, .ref v0, .int (nI n), .int P, .int st]))] H1 := hP1
  obtain ⟨hP, hD⟩ := va_join (wr := [(z0, .inl (cI, 300, .inl z))]) (w1 := [(x0, .inr (3, [.ref z0, .ref h0, .ref g0, .ref w0, .ref v0, .int (nI n), .int P, .int st]))]) hP hD [0] [1] rfl rfl (by decide) (by decide) hk1 hFc hP1 hD1
  have hP := hP.sub (ws' := [(x0, .inr (3, [.ref z0, .ref h0, .ref g0, .ref w0, .ref v0, .int (nI n), .int P, .int st])), (z0, .inl (cI, 300, .inl z))]) [1, 0] rfl
  have hD := hD.sub (ws' := [(x0, .inr (3, [.ref z0, .ref h0, .ref g0, .ref w0, .ref v0, .int (nI n), .int P, .int st])), (z0, .inl (cI, 300, .inl z))]) [1, 0] (by decide) rfl
  generalize H1 = H at hP hS ⊢
  refine lv_if_eq (tgt := 18) hx hb dX3_size_5 (by decide) (fun c_2 => ?_) (fun c_2 => ?_)
  · -- pc 5, side 0
    rw [hw] at c_2
    refine lv_iconst (v := 0) hx hb dX3_size_18 (by decide) ?_
    have hP9 : va_P (dC, dI) vwCl [(x0, .inr (3, [.ref z0, .ref h0, .ref g0, .ref w0, .ref v0, .int (nI n), .int P, .int st])), (z0, .inl (cI, 300, .inl z))] H := hP
    have hD9 : va_D A [(x0, .inr (3, [.ref z0, .ref h0, .ref g0, .ref w0, .ref v0, .int (nI n), .int P, .int st])), (z0, .inl (cI, 300, .inl z))] := hD
    exact W.zret (v := 0) hx hb hr (by decide) (fun t ht hW => ⟨⟨0, (z, st), rfl, Or.inl ⟨rfl, rfl, rfl, Or.inl c_2⟩, by rw [ht]; exact hP9, va_K.moved hW.alike hK, hD9⟩, hS.F ht⟩) hS.2.2 dX3_size_19
  · -- pc 5, side 1
    rw [hw] at c_2
    refine lv_iload_n hx hb dX3_size_8 rfl (lv_at hl 2 rfl) ?_
    refine lv_if_lt (tgt := 18) hx hb dX3_size_9 (by decide) (fun c_3 => ?_) (fun c_3 => ?_)
    · -- pc 9, side 0
      refine lv_iconst (v := 0) hx hb dX3_size_18 (by decide) ?_
      have hP9 : va_P (dC, dI) vwCl [(x0, .inr (3, [.ref z0, .ref h0, .ref g0, .ref w0, .ref v0, .int (nI n), .int P, .int st])), (z0, .inl (cI, 300, .inl z))] H := hP
      have hD9 : va_D A [(x0, .inr (3, [.ref z0, .ref h0, .ref g0, .ref w0, .ref v0, .int (nI n), .int P, .int st])), (z0, .inl (cI, 300, .inl z))] := hD
      exact W.zret (v := 0) hx hb hr (by decide) (fun t ht hW => ⟨⟨0, (z, st), rfl, Or.inl ⟨rfl, rfl, rfl, Or.inr (Or.inl c_3)⟩, by rw [ht]; exact hP9, va_K.moved hW.alike hK, hD9⟩, hS.F ht⟩) hS.2.2 dX3_size_19
    · -- pc 9, side 1
      refine lv_iload_n hx hb dX3_size_12 rfl (lv_at hl 2 rfl) ?_
      refine lv_ldc (v := 1000000) hx hb hown (hts (.constant RX3 61 (1000000)) (by decide +kernel)) dX3_size_13 ?_
      refine lv_icmp_le (tgt := 20) hx hb dX3_size_15 (by decide) (fun c_4 => ?_) (fun c_4 => ?_)
      · -- pc 15, side 0
        refine lv_aload_n hx hb dX3_size_20 rfl (lv_at hl 0 rfl) ?_
        refine va_get (D := (dC, dI)) (ci := 3) (v := .ref z0) (C := RX3) (T := TX3) (N := 8) hx hb hts hin3 hown hK hP 0 rfl rfl 0 (by decide) (hts (.fieldLink RX3 9 "CallClusters" "sizes" "[I") (by decide +kernel)) (fun _ h9 => h9) rfl dX3_size_21 ?_
        refine lv_iload_n hx hb dX3_size_24 rfl (lv_at hl 1 rfl) ?_
        refine lv_iload_n hx hb dX3_size_25 rfl (lv_at hl 2 rfl) ?_
        refine va_iast hx hb hK hP hD hS 1 0 rfl rfl (isFI_v hn c_2) dX3_size_26 (fun H locs hP hD hS => ?_)
        have hP : va_P (dC, dI) vwCl [(x0, .inr (3, [.ref z0, .ref h0, .ref g0, .ref w0, .ref v0, .int (nI n), .int P, .int st])), (z0, .inl (cI, 300, .inl (upd z (f.toNatClampNeg) y)))] H := hP
        have hD : va_D A [(x0, .inr (3, [.ref z0, .ref h0, .ref g0, .ref w0, .ref v0, .int (nI n), .int P, .int st])), (z0, .inl (cI, 300, .inl (upd z (f.toNatClampNeg) y)))] := hD
        refine lv_aload_n hx hb dX3_size_27 rfl (lv_at hl 0 rfl) ?_
        refine lv_iconst (v := 1) hx hb dX3_size_28 (by decide) ?_
        refine va_put (D := (dC, dI)) (ci := 3) (v := .int 1) (ty := .boolean) (C := RX3) (T := TX3) (N := 8) hx hb hts hin3 tyX3 tyX3_ok nmX3 hown hK hP hD hS 0 rfl rfl 7 (by decide) (hts (.fieldLink RX3 44 "CallClusters" "stale" "Z") (by decide +kernel)) (fun _ h9 => h9) rfl (by decide +kernel) (by decide) (by decide) (Nat.le_of_ble_eq_true rfl) dX3_size_29 (fun H locs hP hD hS => ?_)
        have hP : va_P (dC, dI) vwCl [(x0, .inr (3, [.ref z0, .ref h0, .ref g0, .ref w0, .ref v0, .int (nI n), .int P, .int 1])), (z0, .inl (cI, 300, .inl (upd z (f.toNatClampNeg) y)))] H := hP
        have hD : va_D A [(x0, .inr (3, [.ref z0, .ref h0, .ref g0, .ref w0, .ref v0, .int (nI n), .int P, .int 1])), (z0, .inl (cI, 300, .inl (upd z (f.toNatClampNeg) y)))] := hD
        refine lv_iconst (v := 1) hx hb dX3_size_32 (by decide) ?_
        have hP9 : va_P (dC, dI) vwCl [(x0, .inr (3, [.ref z0, .ref h0, .ref g0, .ref w0, .ref v0, .int (nI n), .int P, .int 1])), (z0, .inl (cI, 300, .inl (upd z (f.toNatClampNeg) y)))] H := hP
        have hD9 : va_D A [(x0, .inr (3, [.ref z0, .ref h0, .ref g0, .ref w0, .ref v0, .int (nI n), .int P, .int 1])), (z0, .inl (cI, 300, .inl (upd z (f.toNatClampNeg) y)))] := hD
        exact W.zret (v := 1) hx hb hr (by decide) (fun t ht hW => ⟨⟨1, (upd z (f.toNatClampNeg) y, 1), rfl, Or.inr ⟨rfl, rfl, rfl, c_2, c_3, Int32.not_lt.mpr c_4⟩, by rw [ht]; exact hP9, va_K.moved hW.alike hK, hD9⟩, hS.F ht⟩) hS.2.2 dX3_size_33
      · -- pc 15, side 1
        refine lv_iconst (v := 0) hx hb dX3_size_18 (by decide) ?_
        have hP9 : va_P (dC, dI) vwCl [(x0, .inr (3, [.ref z0, .ref h0, .ref g0, .ref w0, .ref v0, .int (nI n), .int P, .int st])), (z0, .inl (cI, 300, .inl z))] H := hP
        have hD9 : va_D A [(x0, .inr (3, [.ref z0, .ref h0, .ref g0, .ref w0, .ref v0, .int (nI n), .int P, .int st])), (z0, .inl (cI, 300, .inl z))] := hD
        exact W.zret (v := 0) hx hb hr (by decide) (fun t ht hW => ⟨⟨0, (z, st), rfl, Or.inl ⟨rfl, rfl, rfl, Or.inr (Or.inr (Int32.not_le.mp c_4))⟩, by rw [ht]; exact hP9, va_K.moved hW.alike hK, hD9⟩, hS.F ht⟩) hS.2.2 dX3_size_19
set_option maxHeartbeats 4000000 in
set_option maxRecDepth 100000 in
theorem ct_X3_functions (l : Launch) (dC : Nat → ClassId) (dI : Nat → Nat → Nat) (cI cJ cZ : ClassId) (sz : Nat) (x0 : Nat) (z0 : Nat) (h0 : Nat) (h1 : Nat) (h2 : Nat) (h3 : Nat) (h4 : Nat) (h5 : Nat) (g0 w0 v0 : Nat) (n : Nat) (P st : Int32) (z F T : Nat → Int32) (C : Nat → Int64) (u : Nat) (S : Nat → Int32) (y : Int32)  : Met l yX3_functions wsX3_functions ({ frames := 2, cells := 0, slots := 0, locals := 44 }) (va_Pc [.ref x0, .int y] (fun U => U.heap.size = sz ∧ va_P (dC, dI) vwCl [(x0, .inr (3, [.ref z0, .ref h0, .ref g0, .ref w0, .ref v0, .int (nI n), .int P, .int st])), (z0, .inl (cI, 300, .inl z)), (h0, .inr (0, [.ref h1, .ref h2, .ref h3, .ref h4, .ref h5, .int (nI u)])), (h1, .inl (cI, 2000, .inl F)), (h2, .inl (cI, 2000, .inl T)), (h3, .inl (cJ, 2000, .inr (.inl C))), (h4, .inl (cJ, 300, .inr (.inl (hN F T C u)))), (h5, .inl (cI, 300, .inl S))] U.heap ∧ va_K (dC, dI) vwCl [(cI, .int), (cJ, .long), (cZ, .boolean)] U ∧ va_D (fun _ => True) [(x0, .inr (3, [.ref z0, .ref h0, .ref g0, .ref w0, .ref v0, .int (nI n), .int P, .int st])), (z0, .inl (cI, 300, .inl z)), (h0, .inr (0, [.ref h1, .ref h2, .ref h3, .ref h4, .ref h5, .int (nI u)])), (h1, .inl (cI, 2000, .inl F)), (h2, .inl (cI, 2000, .inl T)), (h3, .inl (cJ, 2000, .inr (.inl C))), (h4, .inl (cJ, 300, .inr (.inl (hN F T C u)))), (h5, .inl (cI, 300, .inl S))])) (va_Qi (fun (r : Int32) (uu : Nat × (Nat → Int32) × Nat × Int32) => match uu with | (n', z', u', st') => (r = 0 ∧ n' = n ∧ z' = z ∧ u' = u ∧ st' = st ∧ (y < 1 ∨ 300 < y)) ∨ (r = 1 ∧ nI n' = y ∧ z' = (fun _ => 0) ∧ u' = 0 ∧ st' = 1 ∧ ¬ y < 1 ∧ ¬ 300 < y)) (fun (uu : Nat × (Nat → Int32) × Nat × Int32) (t : State) => match uu with | (n', z', u', st') => va_P (dC, dI) vwCl [(x0, .inr (3, [.ref z0, .ref h0, .ref g0, .ref w0, .ref v0, .int (nI n'), .int P, .int (st')])), (z0, .inl (cI, 300, .inl (z'))), (h0, .inr (0, [.ref h1, .ref h2, .ref h3, .ref h4, .ref h5, .int (nI (u'))])), (h1, .inl (cI, 2000, .inl F)), (h2, .inl (cI, 2000, .inl T)), (h3, .inl (cJ, 2000, .inr (.inl C))), (h4, .inl (cJ, 300, .inr (.inl (hN F T C (u'))))), (h5, .inl (cI, 300, .inl S))] t.heap ∧ va_K (dC, dI) vwCl [(cI, .int), (cJ, .long), (cZ, .boolean)] t ∧ va_D (va_A [(x0, .inr (3, [.ref z0, .ref h0, .ref g0, .ref w0, .ref v0, .int (nI n), .int P, .int st])), (z0, .inl (cI, 300, .inl z)), (h0, .inr (0, [.ref h1, .ref h2, .ref h3, .ref h4, .ref h5, .int (nI u)])), (h1, .inl (cI, 2000, .inl F)), (h2, .inl (cI, 2000, .inl T)), (h3, .inl (cJ, 2000, .inr (.inl C))), (h4, .inl (cJ, 300, .inr (.inl (hN F T C u)))), (h5, .inl (cI, 300, .inl S))] sz) [(x0, .inr (3, [.ref z0, .ref h0, .ref g0, .ref w0, .ref v0, .int (nI n'), .int P, .int (st')])), (z0, .inl (cI, 300, .inl (z'))), (h0, .inr (0, [.ref h1, .ref h2, .ref h3, .ref h4, .ref h5, .int (nI (u'))])), (h1, .inl (cI, 2000, .inl F)), (h2, .inl (cI, 2000, .inl T)), (h3, .inl (cJ, 2000, .inr (.inl C))), (h4, .inl (cJ, 300, .inr (.inl (hN F T C (u'))))), (h5, .inl (cI, 300, .inl S))]) (va_A [(x0, .inr (3, [.ref z0, .ref h0, .ref g0, .ref w0, .ref v0, .int (nI n), .int P, .int st])), (z0, .inl (cI, 300, .inl z)), (h0, .inr (0, [.ref h1, .ref h2, .ref h3, .ref h4, .ref h5, .int (nI u)])), (h1, .inl (cI, 2000, .inl F)), (h2, .inl (cI, 2000, .inl T)), (h3, .inl (cJ, 2000, .inr (.inl C))), (h4, .inl (cJ, 300, .inr (.inl (hN F T C u)))), (h5, .inl (cI, 300, .inl S))] sz)) 0 0 (va_A [(x0, .inr (3, [.ref z0, .ref h0, .ref g0, .ref w0, .ref v0, .int (nI n), .int P, .int st])), (z0, .inl (cI, 300, .inl z)), (h0, .inr (0, [.ref h1, .ref h2, .ref h3, .ref h4, .ref h5, .int (nI u)])), (h1, .inl (cI, 2000, .inl F)), (h2, .inl (cI, 2000, .inl T)), (h3, .inl (cJ, 2000, .inr (.inl C))), (h4, .inl (cJ, 300, .inr (.inl (hN F T C u)))), (h5, .inl (cI, 300, .inl S))] sz) := by
  refine Met.ofW (cc := cX3_functions) (maxL := 2) (ret := (some .boolean)) (by decide) rfl ?_
  intro p ev s m args below meth c s₁ Bd hml hv
  obtain ⟨rfl, hsz, hP, hK, hD0⟩ := hv
  have hx := Bd.exec
  have hb := Bd.bytes
  have hr := Bd.returns
  have hts := atoms_spec (ws := wsX3_functions) Bd.pre
  have hown : s.vm.findClass RX3 = some m.cls := findClass_of_methodNamed Bd.named
  have hlocks := Bd.notSynchronized
  have hin3 : ∀ w ∈ wsX30, w ∈ wsX3_functions := by decide +kernel
  subst hsz
  have hD := hD0.self (sz := s.heap.size)
  generalize hAe : va_A [(x0, .inr (3, [.ref z0, .ref h0, .ref g0, .ref w0, .ref v0, .int (nI n), .int P, .int st])), (z0, .inl (cI, 300, .inl z)), (h0, .inr (0, [.ref h1, .ref h2, .ref h3, .ref h4, .ref h5, .int (nI u)])), (h1, .inl (cI, 2000, .inl F)), (h2, .inl (cI, 2000, .inl T)), (h3, .inl (cJ, 2000, .inr (.inl C))), (h4, .inl (cJ, 300, .inr (.inl (hN F T C u)))), (h5, .inl (cI, 300, .inl S))] s.heap.size = A at hD ⊢
  have hA : ∀ q : Nat, s.heap.size ≤ q → A q := fun q h => by rw [← hAe]; exact Or.inr h
  have hS : va_S A s.heap s.heap [] := va_S.rf
  have hl := lv_entry ([.ref x0, .int y]) (n := 2) (Nat.le_of_ble_eq_true rfl)
  rw [lg_entry_eq]
  generalize (lg_sl ([.ref x0, .int y]) ++ List.replicate (2 - (lg_sl ([.ref x0, .int y])).length) Slot.unset).toArray = ls at hl ⊢
  have hl : lv_has ls 2 [(0, .ref x0), (1, .int y)] := hl
  generalize hHe : s.heap = H at hP ⊢
  have hS : va_S A s.heap H [] := hHe ▸ hS
  refine lv_iload_n hx hb dX3_functions_0 rfl (lv_at hl 1 rfl) ?_
  refine lv_iconst (v := 1) hx hb dX3_functions_1 (by decide) ?_
  refine lv_icmp_lt (tgt := 12) hx hb dX3_functions_2 (by decide) (fun c_1 => ?_) (fun c_1 => ?_)
  · -- pc 2, side 0
    refine lv_iconst (v := 0) hx hb dX3_functions_12 (by decide) ?_
    have hP9 : va_P (dC, dI) vwCl [(x0, .inr (3, [.ref z0, .ref h0, .ref g0, .ref w0, .ref v0, .int (nI n), .int P, .int st])), (z0, .inl (cI, 300, .inl z)), (h0, .inr (0, [.ref h1, .ref h2, .ref h3, .ref h4, .ref h5, .int (nI u)])), (h1, .inl (cI, 2000, .inl F)), (h2, .inl (cI, 2000, .inl T)), (h3, .inl (cJ, 2000, .inr (.inl C))), (h4, .inl (cJ, 300, .inr (.inl (hN F T C u)))), (h5, .inl (cI, 300, .inl S))] H := hP
    have hD9 : va_D A [(x0, .inr (3, [.ref z0, .ref h0, .ref g0, .ref w0, .ref v0, .int (nI n), .int P, .int st])), (z0, .inl (cI, 300, .inl z)), (h0, .inr (0, [.ref h1, .ref h2, .ref h3, .ref h4, .ref h5, .int (nI u)])), (h1, .inl (cI, 2000, .inl F)), (h2, .inl (cI, 2000, .inl T)), (h3, .inl (cJ, 2000, .inr (.inl C))), (h4, .inl (cJ, 300, .inr (.inl (hN F T C u)))), (h5, .inl (cI, 300, .inl S))] := hD
    exact W.zret (v := 0) hx hb hr (by decide) (fun t ht hW => ⟨⟨0, (n, z, u, st), rfl, Or.inl ⟨rfl, rfl, rfl, rfl, rfl, Or.inl c_1⟩, by rw [ht]; exact hP9, va_K.moved hW.alike hK, hD9⟩, hS.F ht⟩) hS.2.2 dX3_functions_13
  · -- pc 2, side 1
    refine lv_iload_n hx hb dX3_functions_5 rfl (lv_at hl 1 rfl) ?_
    refine lv_sipush (v := 300) hx hb dX3_functions_6 (by decide) ?_
    refine lv_icmp_le (tgt := 14) hx hb dX3_functions_9 (by decide) (fun c_2 => ?_) (fun c_2 => ?_)
    · -- pc 9, side 0
      obtain ⟨y9, -, hy9⟩ := nI_of (x := y) (fun h9 => c_1 (Int32.lt_trans h9 (by decide)))
      subst hy9
      refine lv_aload_n hx hb dX3_functions_14 rfl (lv_at hl 0 rfl) ?_
      refine lv_iload_n hx hb dX3_functions_15 rfl (lv_at hl 1 rfl) ?_
      refine va_put (D := (dC, dI)) (ci := 3) (v := .int (nI y9)) (ty := .int) (C := RX3) (T := TX3) (N := 8) hx hb hts hin3 tyX3 tyX3_ok nmX3 hown hK hP hD hS 0 rfl rfl 5 (by decide) (hts (.fieldLink RX3 37 "CallClusters" "functionCount" "I") (by decide +kernel)) (fun _ h9 => h9) rfl (by decide +kernel) (rfl) (rfl) (Nat.le_of_ble_eq_true rfl) dX3_functions_16 (fun H locs hP hD hS => ?_)
      have hP : va_P (dC, dI) vwCl [(x0, .inr (3, [.ref z0, .ref h0, .ref g0, .ref w0, .ref v0, .int (nI y9), .int P, .int st])), (z0, .inl (cI, 300, .inl z)), (h0, .inr (0, [.ref h1, .ref h2, .ref h3, .ref h4, .ref h5, .int (nI u)])), (h1, .inl (cI, 2000, .inl F)), (h2, .inl (cI, 2000, .inl T)), (h3, .inl (cJ, 2000, .inr (.inl C))), (h4, .inl (cJ, 300, .inr (.inl (hN F T C u)))), (h5, .inl (cI, 300, .inl S))] H := hP
      have hD : va_D A [(x0, .inr (3, [.ref z0, .ref h0, .ref g0, .ref w0, .ref v0, .int (nI y9), .int P, .int st])), (z0, .inl (cI, 300, .inl z)), (h0, .inr (0, [.ref h1, .ref h2, .ref h3, .ref h4, .ref h5, .int (nI u)])), (h1, .inl (cI, 2000, .inl F)), (h2, .inl (cI, 2000, .inl T)), (h3, .inl (cJ, 2000, .inr (.inl C))), (h4, .inl (cJ, 300, .inr (.inl (hN F T C u)))), (h5, .inl (cI, 300, .inl S))] := hD
      refine lv_aload_n hx hb dX3_functions_19 rfl (lv_at hl 0 rfl) ?_
      refine va_get (D := (dC, dI)) (ci := 3) (v := .ref z0) (C := RX3) (T := TX3) (N := 8) hx hb hts hin3 hown hK hP 0 rfl rfl 0 (by decide) (hts (.fieldLink RX3 9 "CallClusters" "sizes" "[I") (by decide +kernel)) (fun _ h9 => h9) rfl dX3_functions_20 ?_
      refine lv_iconst (v := 0) hx hb dX3_functions_23 (by decide) ?_
      have hPc := hP.sub (ws' := [(z0, .inl (cI, 300, .inl z))]) [1] rfl
      have hDc := hD.sub (ws' := [(z0, .inl (cI, 300, .inl z))]) [1] (by decide) rfl
      have hFc := va_free (wc := [(z0, .inl (cI, 300, .inl z))]) hD hS hA [1] rfl
      refine va_callv (va_runS (As := [.ref z0, .int 0]) (rest := []) ⟨hx, hb, hml, hown, hts⟩ (ct_J7_fill_53178 l dC dI cI cJ cZ H.size z0 300 z 0 (by decide)) (va_cwS 2 hts gX3_functions_J7_fill_53178 rfl rfl rfl (by decide +kernel) ⟨Nat.le_of_ble_eq_true rfl, Nat.le_of_ble_eq_true rfl⟩) (pre_S hK hPc hDc) rfl rfl hl.1 rfl (lv_room (Nat.le_of_ble_eq_true rfl)) dX3_functions_24 ⟨Nat.zero_le _, Nat.zero_le _⟩) hS (fun q _ h => hFc q h) hFc (fun uu t H1 locs ht hvm hw hB hz1 hk1 hS => ?_)
      obtain ⟨hP1, hK1, hD1⟩ := hB
      rw [ht] at hP1
      try dsimp only at hw
      have hP1 : va_P (dC, dI) vwCl [(z0, .inl (cI, 300, .inl (mix 300 (fun _ => 0) z)))] H1 := hP1
      obtain ⟨hP, hD⟩ := va_join (wr := [(x0, .inr (3, [.ref z0, .ref h0, .ref g0, .ref w0, .ref v0, .int (nI y9), .int P, .int st])), (h0, .inr (0, [.ref h1, .ref h2, .ref h3, .ref h4, .ref h5, .int (nI u)])), (h1, .inl (cI, 2000, .inl F)), (h2, .inl (cI, 2000, .inl T)), (h3, .inl (cJ, 2000, .inr (.inl C))), (h4, .inl (cJ, 300, .inr (.inl (hN F T C u)))), (h5, .inl (cI, 300, .inl S))]) (w1 := [(z0, .inl (cI, 300, .inl (mix 300 (fun _ => 0) z)))]) hP hD [1] [0, 2, 3, 4, 5, 6, 7] rfl rfl (by decide) (by decide) hk1 hFc hP1 hD1
      have hP := hP.sub (ws' := [(x0, .inr (3, [.ref z0, .ref h0, .ref g0, .ref w0, .ref v0, .int (nI y9), .int P, .int st])), (z0, .inl (cI, 300, .inl (mix 300 (fun _ => 0) z))), (h0, .inr (0, [.ref h1, .ref h2, .ref h3, .ref h4, .ref h5, .int (nI u)])), (h1, .inl (cI, 2000, .inl F)), (h2, .inl (cI, 2000, .inl T)), (h3, .inl (cJ, 2000, .inr (.inl C))), (h4, .inl (cJ, 300, .inr (.inl (hN F T C u)))), (h5, .inl (cI, 300, .inl S))]) [0, 7, 1, 2, 3, 4, 5, 6] rfl
      have hD := hD.sub (ws' := [(x0, .inr (3, [.ref z0, .ref h0, .ref g0, .ref w0, .ref v0, .int (nI y9), .int P, .int st])), (z0, .inl (cI, 300, .inl (mix 300 (fun _ => 0) z))), (h0, .inr (0, [.ref h1, .ref h2, .ref h3, .ref h4, .ref h5, .int (nI u)])), (h1, .inl (cI, 2000, .inl F)), (h2, .inl (cI, 2000, .inl T)), (h3, .inl (cJ, 2000, .inr (.inl C))), (h4, .inl (cJ, 300, .inr (.inl (hN F T C u)))), (h5, .inl (cI, 300, .inl S))]) [0, 7, 1, 2, 3, 4, 5, 6] (by decide) rfl
      generalize H1 = H at hP hS ⊢
      refine lv_aload_n hx hb dX3_functions_27 rfl (lv_at hl 0 rfl) ?_
      refine va_get (D := (dC, dI)) (ci := 3) (v := .ref h0) (C := RX3) (T := TX3) (N := 8) hx hb hts hin3 hown hK hP 0 rfl rfl 1 (by decide) (hts (.fieldLink RX3 16 "CallClusters" "table" "LCallClusters$CallTable;") (by decide +kernel)) (fun _ h9 => h9) rfl dX3_functions_28 ?_
      have hPc := hP.sub (ws' := [(h0, .inr (0, [.ref h1, .ref h2, .ref h3, .ref h4, .ref h5, .int (nI u)])), (h1, .inl (cI, 2000, .inl F)), (h2, .inl (cI, 2000, .inl T)), (h3, .inl (cJ, 2000, .inr (.inl C))), (h4, .inl (cJ, 300, .inr (.inl (hN F T C u)))), (h5, .inl (cI, 300, .inl S))]) [2, 3, 4, 5, 6, 7] rfl
      have hDc := hD.sub (ws' := [(h0, .inr (0, [.ref h1, .ref h2, .ref h3, .ref h4, .ref h5, .int (nI u)])), (h1, .inl (cI, 2000, .inl F)), (h2, .inl (cI, 2000, .inl T)), (h3, .inl (cJ, 2000, .inr (.inl C))), (h4, .inl (cJ, 300, .inr (.inl (hN F T C u)))), (h5, .inl (cI, 300, .inl S))]) [2, 3, 4, 5, 6, 7] (by decide) rfl
      have hFc := va_free (wc := [(h0, .inr (0, [.ref h1, .ref h2, .ref h3, .ref h4, .ref h5, .int (nI u)])), (h1, .inl (cI, 2000, .inl F)), (h2, .inl (cI, 2000, .inl T)), (h3, .inl (cJ, 2000, .inr (.inl C))), (h4, .inl (cJ, 300, .inr (.inl (hN F T C u)))), (h5, .inl (cI, 300, .inl S))]) hD hS hA [2, 3, 4, 5, 6, 7] rfl
      refine va_callv (va_runV (As := []) (rest := []) ⟨hx, hb, hml, hown, hts⟩ (ct_X0_forgetAll l dC dI cI cJ cZ H.size h0 h1 h2 h3 h4 h5 F T C (hN F T C u) S u ) (cwV 0 hts gX3_functions_X0_forgetAll rfl rfl rfl (by decide +kernel) ⟨Nat.le_of_ble_eq_true rfl, Nat.le_of_ble_eq_true rfl⟩) (pre_V hK hPc hDc (ci := 0) rfl rfl) rfl rfl hl.1 rfl (lv_room (Nat.le_of_ble_eq_true rfl)) dX3_functions_31 ⟨Nat.zero_le _, Nat.zero_le _⟩) hS (fun q _ h => hFc q h) hFc (fun uu t H1 locs ht hvm hw hB hz1 hk1 hS => ?_)
      obtain ⟨hP1, hK1, hD1⟩ := hB
      rw [ht] at hP1
      try dsimp only at hw
      have hP1 : va_P (dC, dI) vwCl [(h0, .inr (0, [.ref h1, .ref h2, .ref h3, .ref h4, .ref h5, .int 0])), (h1, .inl (cI, 2000, .inl F)), (h2, .inl (cI, 2000, .inl T)), (h3, .inl (cJ, 2000, .inr (.inl C))), (h4, .inl (cJ, 300, .inr (.inl (mix 300 (fun _ => 0) (hN F T C u))))), (h5, .inl (cI, 300, .inl S))] H1 := hP1
      obtain ⟨hP, hD⟩ := va_join (wr := [(x0, .inr (3, [.ref z0, .ref h0, .ref g0, .ref w0, .ref v0, .int (nI y9), .int P, .int st])), (z0, .inl (cI, 300, .inl (mix 300 (fun _ => 0) z)))]) (w1 := [(h0, .inr (0, [.ref h1, .ref h2, .ref h3, .ref h4, .ref h5, .int 0])), (h1, .inl (cI, 2000, .inl F)), (h2, .inl (cI, 2000, .inl T)), (h3, .inl (cJ, 2000, .inr (.inl C))), (h4, .inl (cJ, 300, .inr (.inl (mix 300 (fun _ => 0) (hN F T C u))))), (h5, .inl (cI, 300, .inl S))]) hP hD [2, 3, 4, 5, 6, 7] [0, 1] rfl rfl (by decide) (by decide) hk1 hFc hP1 hD1
      have hP := hP.sub (ws' := [(x0, .inr (3, [.ref z0, .ref h0, .ref g0, .ref w0, .ref v0, .int (nI y9), .int P, .int st])), (z0, .inl (cI, 300, .inl (mix 300 (fun _ => 0) z))), (h0, .inr (0, [.ref h1, .ref h2, .ref h3, .ref h4, .ref h5, .int 0])), (h1, .inl (cI, 2000, .inl F)), (h2, .inl (cI, 2000, .inl T)), (h3, .inl (cJ, 2000, .inr (.inl C))), (h4, .inl (cJ, 300, .inr (.inl (mix 300 (fun _ => 0) (hN F T C u))))), (h5, .inl (cI, 300, .inl S))]) [0, 1, 2, 3, 4, 5, 6, 7] rfl
      have hD := hD.sub (ws' := [(x0, .inr (3, [.ref z0, .ref h0, .ref g0, .ref w0, .ref v0, .int (nI y9), .int P, .int st])), (z0, .inl (cI, 300, .inl (mix 300 (fun _ => 0) z))), (h0, .inr (0, [.ref h1, .ref h2, .ref h3, .ref h4, .ref h5, .int 0])), (h1, .inl (cI, 2000, .inl F)), (h2, .inl (cI, 2000, .inl T)), (h3, .inl (cJ, 2000, .inr (.inl C))), (h4, .inl (cJ, 300, .inr (.inl (mix 300 (fun _ => 0) (hN F T C u))))), (h5, .inl (cI, 300, .inl S))]) [0, 1, 2, 3, 4, 5, 6, 7] (by decide) rfl
      generalize H1 = H at hP hS ⊢
      refine lv_aload_n hx hb dX3_functions_34 rfl (lv_at hl 0 rfl) ?_
      refine lv_iconst (v := 1) hx hb dX3_functions_35 (by decide) ?_
      refine va_put (D := (dC, dI)) (ci := 3) (v := .int 1) (ty := .boolean) (C := RX3) (T := TX3) (N := 8) hx hb hts hin3 tyX3 tyX3_ok nmX3 hown hK hP hD hS 0 rfl rfl 7 (by decide) (hts (.fieldLink RX3 44 "CallClusters" "stale" "Z") (by decide +kernel)) (fun _ h9 => h9) rfl (by decide +kernel) (by decide) (by decide) (Nat.le_of_ble_eq_true rfl) dX3_functions_36 (fun H locs hP hD hS => ?_)
      have hP : va_P (dC, dI) vwCl [(x0, .inr (3, [.ref z0, .ref h0, .ref g0, .ref w0, .ref v0, .int (nI y9), .int P, .int 1])), (z0, .inl (cI, 300, .inl (mix 300 (fun _ => 0) z))), (h0, .inr (0, [.ref h1, .ref h2, .ref h3, .ref h4, .ref h5, .int 0])), (h1, .inl (cI, 2000, .inl F)), (h2, .inl (cI, 2000, .inl T)), (h3, .inl (cJ, 2000, .inr (.inl C))), (h4, .inl (cJ, 300, .inr (.inl (mix 300 (fun _ => 0) (hN F T C u))))), (h5, .inl (cI, 300, .inl S))] H := hP
      have hD : va_D A [(x0, .inr (3, [.ref z0, .ref h0, .ref g0, .ref w0, .ref v0, .int (nI y9), .int P, .int 1])), (z0, .inl (cI, 300, .inl (mix 300 (fun _ => 0) z))), (h0, .inr (0, [.ref h1, .ref h2, .ref h3, .ref h4, .ref h5, .int 0])), (h1, .inl (cI, 2000, .inl F)), (h2, .inl (cI, 2000, .inl T)), (h3, .inl (cJ, 2000, .inr (.inl C))), (h4, .inl (cJ, 300, .inr (.inl (mix 300 (fun _ => 0) (hN F T C u))))), (h5, .inl (cI, 300, .inl S))] := hD
      refine lv_iconst (v := 1) hx hb dX3_functions_39 (by decide) ?_
      have hP := hP.ei 1 (fun _ => 0) rfl (fun j hj => mix_lt _ _ hj)
      have hD := hD.set (p := 1) (e := .inl (cI, 300, .inl (fun _ => 0))) rfl
      have hP := hP.el 6 (hN F T C 0) rfl (fun j hj => mix_lt _ _ hj)
      have hD := hD.set (p := 6) (e := .inl (cJ, 300, .inr (.inl (hN F T C 0)))) rfl
      have hP9 : va_P (dC, dI) vwCl [(x0, .inr (3, [.ref z0, .ref h0, .ref g0, .ref w0, .ref v0, .int (nI y9), .int P, .int 1])), (z0, .inl (cI, 300, .inl (fun _ => 0))), (h0, .inr (0, [.ref h1, .ref h2, .ref h3, .ref h4, .ref h5, .int (nI 0)])), (h1, .inl (cI, 2000, .inl F)), (h2, .inl (cI, 2000, .inl T)), (h3, .inl (cJ, 2000, .inr (.inl C))), (h4, .inl (cJ, 300, .inr (.inl (hN F T C 0)))), (h5, .inl (cI, 300, .inl S))] H := hP
      have hD9 : va_D A [(x0, .inr (3, [.ref z0, .ref h0, .ref g0, .ref w0, .ref v0, .int (nI y9), .int P, .int 1])), (z0, .inl (cI, 300, .inl (fun _ => 0))), (h0, .inr (0, [.ref h1, .ref h2, .ref h3, .ref h4, .ref h5, .int (nI 0)])), (h1, .inl (cI, 2000, .inl F)), (h2, .inl (cI, 2000, .inl T)), (h3, .inl (cJ, 2000, .inr (.inl C))), (h4, .inl (cJ, 300, .inr (.inl (hN F T C 0)))), (h5, .inl (cI, 300, .inl S))] := hD
      exact W.zret (v := 1) hx hb hr (by decide) (fun t ht hW => ⟨⟨1, (y9, fun _ => 0, 0, 1), rfl, Or.inr ⟨rfl, rfl, rfl, rfl, rfl, c_1, Int32.not_lt.mpr c_2⟩, by rw [ht]; exact hP9, va_K.moved hW.alike hK, hD9⟩, hS.F ht⟩) hS.2.2 dX3_functions_40
    · -- pc 9, side 1
      refine lv_iconst (v := 0) hx hb dX3_functions_12 (by decide) ?_
      have hP9 : va_P (dC, dI) vwCl [(x0, .inr (3, [.ref z0, .ref h0, .ref g0, .ref w0, .ref v0, .int (nI n), .int P, .int st])), (z0, .inl (cI, 300, .inl z)), (h0, .inr (0, [.ref h1, .ref h2, .ref h3, .ref h4, .ref h5, .int (nI u)])), (h1, .inl (cI, 2000, .inl F)), (h2, .inl (cI, 2000, .inl T)), (h3, .inl (cJ, 2000, .inr (.inl C))), (h4, .inl (cJ, 300, .inr (.inl (hN F T C u)))), (h5, .inl (cI, 300, .inl S))] H := hP
      have hD9 : va_D A [(x0, .inr (3, [.ref z0, .ref h0, .ref g0, .ref w0, .ref v0, .int (nI n), .int P, .int st])), (z0, .inl (cI, 300, .inl z)), (h0, .inr (0, [.ref h1, .ref h2, .ref h3, .ref h4, .ref h5, .int (nI u)])), (h1, .inl (cI, 2000, .inl F)), (h2, .inl (cI, 2000, .inl T)), (h3, .inl (cJ, 2000, .inr (.inl C))), (h4, .inl (cJ, 300, .inr (.inl (hN F T C u)))), (h5, .inl (cI, 300, .inl S))] := hD
      exact W.zret (v := 0) hx hb hr (by decide) (fun t ht hW => ⟨⟨0, (n, z, u, st), rfl, Or.inl ⟨rfl, rfl, rfl, rfl, rfl, Or.inr (Int32.not_le.mp c_2)⟩, by rw [ht]; exact hP9, va_K.moved hW.alike hK, hD9⟩, hS.F ht⟩) hS.2.2 dX3_functions_13
set_option maxHeartbeats 4000000 in
set_option maxRecDepth 100000 in
theorem ct_X3_call (l : Launch) (dC : Nat → ClassId) (dI : Nat → Nat → Nat) (cI cJ cZ : ClassId) (sz : Nat) (x0 : Nat) (h0 : Nat) (h1 : Nat) (h2 : Nat) (h3 : Nat) (h4 : Nat) (h5 : Nat) (z0 g0 w0 v0 : Nat) (n : Nat) (P st : Int32) (F T : Nat → Int32) (C : Nat → Int64) (S : Nat → Int32) (u : Nat) (f g y : Int32) (hn : n ≤ 300) (hu : u ≤ 2000) (hT : ∀ i, i < u → vp_in (T i) 300) : Met l yX3_call wsX3_call ({ frames := 2, cells := 0, slots := 0, locals := 39 }) (va_Pc [.ref x0, .int f, .int g, .int y] (fun U => U.heap.size = sz ∧ va_P (dC, dI) vwCl [(x0, .inr (3, [.ref z0, .ref h0, .ref g0, .ref w0, .ref v0, .int (nI n), .int P, .int st])), (h0, .inr (0, [.ref h1, .ref h2, .ref h3, .ref h4, .ref h5, .int (nI u)])), (h1, .inl (cI, 2000, .inl F)), (h2, .inl (cI, 2000, .inl T)), (h3, .inl (cJ, 2000, .inr (.inl C))), (h4, .inl (cJ, 300, .inr (.inl (hN F T C u)))), (h5, .inl (cI, 300, .inl S))] U.heap ∧ va_K (dC, dI) vwCl [(cI, .int), (cJ, .long), (cZ, .boolean)] U ∧ va_D (fun _ => True) [(x0, .inr (3, [.ref z0, .ref h0, .ref g0, .ref w0, .ref v0, .int (nI n), .int P, .int st])), (h0, .inr (0, [.ref h1, .ref h2, .ref h3, .ref h4, .ref h5, .int (nI u)])), (h1, .inl (cI, 2000, .inl F)), (h2, .inl (cI, 2000, .inl T)), (h3, .inl (cJ, 2000, .inr (.inl C))), (h4, .inl (cJ, 300, .inr (.inl (hN F T C u)))), (h5, .inl (cI, 300, .inl S))])) (va_Ql (fun (r : Int64) (uu : (Nat → Int32) × (Nat → Int32) × (Nat → Int64) × Nat × Int32) => match uu with | (F', T', C', u', st') => (r = -1 ∧ F' = F ∧ T' = T ∧ C' = C ∧ u' = u ∧ st' = st ∧ (isFI n f = 0 ∨ isFI n g = 0)) ∨ (¬ isFI n f = 0 ∧ ¬ isFI n g = 0 ∧ r = -2 ∧ F' = F ∧ T' = T ∧ C' = C ∧ u' = u ∧ st' = st ∧ (y < 1 ∨ 1000000000 < y)) ∨ (¬ isFI n f = 0 ∧ ¬ isFI n g = 0 ∧ ¬ y < 1 ∧ ¬ 1000000000 < y ∧ ((pfind F T f g u 0 = u ∧ u = 2000 ∧ r = -3 ∧ F' = F ∧ T' = T ∧ C' = C ∧ u' = u ∧ st' = st) ∨ (pfind F T f g u 0 < u ∧ r = capadd (C (pfind F T f g u 0)) y ∧ F' = F ∧ T' = T ∧ C' = vp_updL C (pfind F T f g u 0) (capadd (C (pfind F T f g u 0)) y) ∧ u' = u ∧ st' = 1) ∨ (pfind F T f g u 0 = u ∧ u < 2000 ∧ r = capadd 0 y ∧ F' = upd F u f ∧ T' = upd T u g ∧ C' = vp_updL (vp_updL C u 0) u (capadd 0 y) ∧ u' = u + 1 ∧ st' = 1)))) (fun (uu : (Nat → Int32) × (Nat → Int32) × (Nat → Int64) × Nat × Int32) (t : State) => match uu with | (F', T', C', u', st') => va_P (dC, dI) vwCl [(x0, .inr (3, [.ref z0, .ref h0, .ref g0, .ref w0, .ref v0, .int (nI n), .int P, .int (st')])), (h0, .inr (0, [.ref h1, .ref h2, .ref h3, .ref h4, .ref h5, .int (nI (u'))])), (h1, .inl (cI, 2000, .inl (F'))), (h2, .inl (cI, 2000, .inl (T'))), (h3, .inl (cJ, 2000, .inr (.inl (C')))), (h4, .inl (cJ, 300, .inr (.inl (hN (F') (T') (C') (u'))))), (h5, .inl (cI, 300, .inl S))] t.heap ∧ va_K (dC, dI) vwCl [(cI, .int), (cJ, .long), (cZ, .boolean)] t ∧ va_D (va_A [(x0, .inr (3, [.ref z0, .ref h0, .ref g0, .ref w0, .ref v0, .int (nI n), .int P, .int st])), (h0, .inr (0, [.ref h1, .ref h2, .ref h3, .ref h4, .ref h5, .int (nI u)])), (h1, .inl (cI, 2000, .inl F)), (h2, .inl (cI, 2000, .inl T)), (h3, .inl (cJ, 2000, .inr (.inl C))), (h4, .inl (cJ, 300, .inr (.inl (hN F T C u)))), (h5, .inl (cI, 300, .inl S))] sz) [(x0, .inr (3, [.ref z0, .ref h0, .ref g0, .ref w0, .ref v0, .int (nI n), .int P, .int (st')])), (h0, .inr (0, [.ref h1, .ref h2, .ref h3, .ref h4, .ref h5, .int (nI (u'))])), (h1, .inl (cI, 2000, .inl (F'))), (h2, .inl (cI, 2000, .inl (T'))), (h3, .inl (cJ, 2000, .inr (.inl (C')))), (h4, .inl (cJ, 300, .inr (.inl (hN (F') (T') (C') (u'))))), (h5, .inl (cI, 300, .inl S))]) (va_A [(x0, .inr (3, [.ref z0, .ref h0, .ref g0, .ref w0, .ref v0, .int (nI n), .int P, .int st])), (h0, .inr (0, [.ref h1, .ref h2, .ref h3, .ref h4, .ref h5, .int (nI u)])), (h1, .inl (cI, 2000, .inl F)), (h2, .inl (cI, 2000, .inl T)), (h3, .inl (cJ, 2000, .inr (.inl C))), (h4, .inl (cJ, 300, .inr (.inl (hN F T C u)))), (h5, .inl (cI, 300, .inl S))] sz)) 0 0 (va_A [(x0, .inr (3, [.ref z0, .ref h0, .ref g0, .ref w0, .ref v0, .int (nI n), .int P, .int st])), (h0, .inr (0, [.ref h1, .ref h2, .ref h3, .ref h4, .ref h5, .int (nI u)])), (h1, .inl (cI, 2000, .inl F)), (h2, .inl (cI, 2000, .inl T)), (h3, .inl (cJ, 2000, .inr (.inl C))), (h4, .inl (cJ, 300, .inr (.inl (hN F T C u)))), (h5, .inl (cI, 300, .inl S))] sz) := by
  refine Met.ofW (cc := cX3_call) (maxL := 5) (ret := (some .long)) (by decide) rfl ?_
  intro p ev s m args below meth c s₁ Bd hml hv
  obtain ⟨rfl, hsz, hP, hK, hD0⟩ := hv
  have hx := Bd.exec
  have hb := Bd.bytes
  have hr := Bd.returns
  have hts := atoms_spec (ws := wsX3_call) Bd.pre
  have hown : s.vm.findClass RX3 = some m.cls := findClass_of_methodNamed Bd.named
  have hlocks := Bd.notSynchronized
  have hin3 : ∀ w ∈ wsX30, w ∈ wsX3_call := by decide +kernel
  subst hsz
  have hD := hD0.self (sz := s.heap.size)
  generalize hAe : va_A [(x0, .inr (3, [.ref z0, .ref h0, .ref g0, .ref w0, .ref v0, .int (nI n), .int P, .int st])), (h0, .inr (0, [.ref h1, .ref h2, .ref h3, .ref h4, .ref h5, .int (nI u)])), (h1, .inl (cI, 2000, .inl F)), (h2, .inl (cI, 2000, .inl T)), (h3, .inl (cJ, 2000, .inr (.inl C))), (h4, .inl (cJ, 300, .inr (.inl (hN F T C u)))), (h5, .inl (cI, 300, .inl S))] s.heap.size = A at hD ⊢
  have hA : ∀ q : Nat, s.heap.size ≤ q → A q := fun q h => by rw [← hAe]; exact Or.inr h
  have hS : va_S A s.heap s.heap [] := va_S.rf
  have hl := lv_entry ([.ref x0, .int f, .int g, .int y]) (n := 5) (Nat.le_of_ble_eq_true rfl)
  rw [lg_entry_eq]
  generalize (lg_sl ([.ref x0, .int f, .int g, .int y]) ++ List.replicate (5 - (lg_sl ([.ref x0, .int f, .int g, .int y])).length) Slot.unset).toArray = ls at hl ⊢
  have hl : lv_has ls 5 [(0, .ref x0), (1, .int f), (2, .int g), (3, .int y)] := hl
  generalize hHe : s.heap = H at hP ⊢
  have hS : va_S A s.heap H [] := hHe ▸ hS
  refine lv_aload_n hx hb dX3_call_0 rfl (lv_at hl 0 rfl) ?_
  refine lv_iload_n hx hb dX3_call_1 rfl (lv_at hl 1 rfl) ?_
  have hPc := hP.sub (ws' := [(x0, .inr (3, [.ref z0, .ref h0, .ref g0, .ref w0, .ref v0, .int (nI n), .int P, .int st]))]) [0] rfl
  have hDc := hD.sub (ws' := [(x0, .inr (3, [.ref z0, .ref h0, .ref g0, .ref w0, .ref v0, .int (nI n), .int P, .int st]))]) [0] (by decide) rfl
  have hFc := va_free (wc := [(x0, .inr (3, [.ref z0, .ref h0, .ref g0, .ref w0, .ref v0, .int (nI n), .int P, .int st]))]) hD hS hA [0] rfl
  refine va_calli (va_runV (As := [.int f]) (rest := []) ⟨hx, hb, hml, hown, hts⟩ (ct_X3_isFunction l dC dI cI cJ cZ H.size x0 z0 h0 g0 w0 v0 n P st f ) (cwV 1 hts gX3_call_X3_isFunction rfl rfl rfl (by decide +kernel) ⟨Nat.le_of_ble_eq_true rfl, Nat.le_of_ble_eq_true rfl⟩) (pre_V hK hPc hDc (ci := 3) rfl rfl) rfl rfl hl.1 rfl (lv_room (Nat.le_of_ble_eq_true rfl)) dX3_call_2 ⟨Nat.zero_le _, Nat.zero_le _⟩) hS (fun q _ h => hFc q h) hFc (fun r_1 uu t H1 locs ht hvm hw hB hz1 hk1 hS => ?_)
  obtain ⟨hP1, hK1, hD1⟩ := hB
  rw [ht] at hP1
  try dsimp only at hw
  have hP1 : va_P (dC, dI) vwCl [(x0, .inr (3, [.ref z0, .ref h0, .ref g0, .ref w0, .ref v0, .int (nI n), .int P, .int st]))] H1 := hP1
  obtain ⟨hP, hD⟩ := va_join (wr := [(h0, .inr (0, [.ref h1, .ref h2, .ref h3, .ref h4, .ref h5, .int (nI u)])), (h1, .inl (cI, 2000, .inl F)), (h2, .inl (cI, 2000, .inl T)), (h3, .inl (cJ, 2000, .inr (.inl C))), (h4, .inl (cJ, 300, .inr (.inl (hN F T C u)))), (h5, .inl (cI, 300, .inl S))]) (w1 := [(x0, .inr (3, [.ref z0, .ref h0, .ref g0, .ref w0, .ref v0, .int (nI n), .int P, .int st]))]) hP hD [0] [1, 2, 3, 4, 5, 6] rfl rfl (by decide) (by decide) hk1 hFc hP1 hD1
  have hP := hP.sub (ws' := [(x0, .inr (3, [.ref z0, .ref h0, .ref g0, .ref w0, .ref v0, .int (nI n), .int P, .int st])), (h0, .inr (0, [.ref h1, .ref h2, .ref h3, .ref h4, .ref h5, .int (nI u)])), (h1, .inl (cI, 2000, .inl F)), (h2, .inl (cI, 2000, .inl T)), (h3, .inl (cJ, 2000, .inr (.inl C))), (h4, .inl (cJ, 300, .inr (.inl (hN F T C u)))), (h5, .inl (cI, 300, .inl S))]) [6, 0, 1, 2, 3, 4, 5] rfl
  have hD := hD.sub (ws' := [(x0, .inr (3, [.ref z0, .ref h0, .ref g0, .ref w0, .ref v0, .int (nI n), .int P, .int st])), (h0, .inr (0, [.ref h1, .ref h2, .ref h3, .ref h4, .ref h5, .int (nI u)])), (h1, .inl (cI, 2000, .inl F)), (h2, .inl (cI, 2000, .inl T)), (h3, .inl (cJ, 2000, .inr (.inl C))), (h4, .inl (cJ, 300, .inr (.inl (hN F T C u)))), (h5, .inl (cI, 300, .inl S))]) [6, 0, 1, 2, 3, 4, 5] (by decide) rfl
  generalize H1 = H at hP hS ⊢
  refine lv_if_eq (tgt := 16) hx hb dX3_call_5 (by decide) (fun c_2 => ?_) (fun c_2 => ?_)
  · -- pc 5, side 0
    rw [hw] at c_2
    refine lv_ldc2 (v := (-1)) hx hb hown (hts (.constantLong RX3 62 (-1)) (by decide +kernel)) dX3_call_16 ?_
    have hP9 : va_P (dC, dI) vwCl [(x0, .inr (3, [.ref z0, .ref h0, .ref g0, .ref w0, .ref v0, .int (nI n), .int P, .int st])), (h0, .inr (0, [.ref h1, .ref h2, .ref h3, .ref h4, .ref h5, .int (nI u)])), (h1, .inl (cI, 2000, .inl F)), (h2, .inl (cI, 2000, .inl T)), (h3, .inl (cJ, 2000, .inr (.inl C))), (h4, .inl (cJ, 300, .inr (.inl (hN F T C u)))), (h5, .inl (cI, 300, .inl S))] H := hP
    have hD9 : va_D A [(x0, .inr (3, [.ref z0, .ref h0, .ref g0, .ref w0, .ref v0, .int (nI n), .int P, .int st])), (h0, .inr (0, [.ref h1, .ref h2, .ref h3, .ref h4, .ref h5, .int (nI u)])), (h1, .inl (cI, 2000, .inl F)), (h2, .inl (cI, 2000, .inl T)), (h3, .inl (cJ, 2000, .inr (.inl C))), (h4, .inl (cJ, 300, .inr (.inl (hN F T C u)))), (h5, .inl (cI, 300, .inl S))] := hD
    exact W.lret (v := (-1)) hx hb hr (fun t ht hW => ⟨⟨(-1), (F, T, C, u, st), rfl, Or.inl ⟨rfl, rfl, rfl, rfl, rfl, rfl, Or.inl c_2⟩, by rw [ht]; exact hP9, va_K.moved hW.alike hK, hD9⟩, hS.F ht⟩) hS.2.2 dX3_call_19
  · -- pc 5, side 1
    rw [hw] at c_2
    refine lv_aload_n hx hb dX3_call_8 rfl (lv_at hl 0 rfl) ?_
    refine lv_iload_n hx hb dX3_call_9 rfl (lv_at hl 2 rfl) ?_
    have hPc := hP.sub (ws' := [(x0, .inr (3, [.ref z0, .ref h0, .ref g0, .ref w0, .ref v0, .int (nI n), .int P, .int st]))]) [0] rfl
    have hDc := hD.sub (ws' := [(x0, .inr (3, [.ref z0, .ref h0, .ref g0, .ref w0, .ref v0, .int (nI n), .int P, .int st]))]) [0] (by decide) rfl
    have hFc := va_free (wc := [(x0, .inr (3, [.ref z0, .ref h0, .ref g0, .ref w0, .ref v0, .int (nI n), .int P, .int st]))]) hD hS hA [0] rfl
    refine va_calli (va_runV (As := [.int g]) (rest := []) ⟨hx, hb, hml, hown, hts⟩ (ct_X3_isFunction l dC dI cI cJ cZ H.size x0 z0 h0 g0 w0 v0 n P st g ) (cwV 1 hts gX3_call_X3_isFunction rfl rfl rfl (by decide +kernel) ⟨Nat.le_of_ble_eq_true rfl, Nat.le_of_ble_eq_true rfl⟩) (pre_V hK hPc hDc (ci := 3) rfl rfl) rfl rfl hl.1 rfl (lv_room (Nat.le_of_ble_eq_true rfl)) dX3_call_10 ⟨Nat.zero_le _, Nat.zero_le _⟩) hS (fun q _ h => hFc q h) hFc (fun r_3 uu t H1 locs ht hvm hw hB hz1 hk1 hS => ?_)
    obtain ⟨hP1, hK1, hD1⟩ := hB
    rw [ht] at hP1
    try dsimp only at hw
    have hP1 : va_P (dC, dI) vwCl [(x0, .inr (3, [.ref z0, .ref h0, .ref g0, .ref w0, .ref v0, .int (nI n), .int P, .int st]))] H1 := hP1
    obtain ⟨hP, hD⟩ := va_join (wr := [(h0, .inr (0, [.ref h1, .ref h2, .ref h3, .ref h4, .ref h5, .int (nI u)])), (h1, .inl (cI, 2000, .inl F)), (h2, .inl (cI, 2000, .inl T)), (h3, .inl (cJ, 2000, .inr (.inl C))), (h4, .inl (cJ, 300, .inr (.inl (hN F T C u)))), (h5, .inl (cI, 300, .inl S))]) (w1 := [(x0, .inr (3, [.ref z0, .ref h0, .ref g0, .ref w0, .ref v0, .int (nI n), .int P, .int st]))]) hP hD [0] [1, 2, 3, 4, 5, 6] rfl rfl (by decide) (by decide) hk1 hFc hP1 hD1
    have hP := hP.sub (ws' := [(x0, .inr (3, [.ref z0, .ref h0, .ref g0, .ref w0, .ref v0, .int (nI n), .int P, .int st])), (h0, .inr (0, [.ref h1, .ref h2, .ref h3, .ref h4, .ref h5, .int (nI u)])), (h1, .inl (cI, 2000, .inl F)), (h2, .inl (cI, 2000, .inl T)), (h3, .inl (cJ, 2000, .inr (.inl C))), (h4, .inl (cJ, 300, .inr (.inl (hN F T C u)))), (h5, .inl (cI, 300, .inl S))]) [6, 0, 1, 2, 3, 4, 5] rfl
    have hD := hD.sub (ws' := [(x0, .inr (3, [.ref z0, .ref h0, .ref g0, .ref w0, .ref v0, .int (nI n), .int P, .int st])), (h0, .inr (0, [.ref h1, .ref h2, .ref h3, .ref h4, .ref h5, .int (nI u)])), (h1, .inl (cI, 2000, .inl F)), (h2, .inl (cI, 2000, .inl T)), (h3, .inl (cJ, 2000, .inr (.inl C))), (h4, .inl (cJ, 300, .inr (.inl (hN F T C u)))), (h5, .inl (cI, 300, .inl S))]) [6, 0, 1, 2, 3, 4, 5] (by decide) rfl
    generalize H1 = H at hP hS ⊢
    refine lv_if_ne (tgt := 20) hx hb dX3_call_13 (by decide) (fun c_4 => ?_) (fun c_4 => ?_)
    · -- pc 13, side 0
      rw [hw] at c_4
      refine lv_iload_n hx hb dX3_call_20 rfl (lv_at hl 3 rfl) ?_
      refine lv_iconst (v := 1) hx hb dX3_call_21 (by decide) ?_
      refine lv_icmp_lt (tgt := 31) hx hb dX3_call_22 (by decide) (fun c_5 => ?_) (fun c_5 => ?_)
      · -- pc 22, side 0
        refine lv_ldc2 (v := (-2)) hx hb hown (hts (.constantLong RX3 65 (-2)) (by decide +kernel)) dX3_call_31 ?_
        have hP9 : va_P (dC, dI) vwCl [(x0, .inr (3, [.ref z0, .ref h0, .ref g0, .ref w0, .ref v0, .int (nI n), .int P, .int st])), (h0, .inr (0, [.ref h1, .ref h2, .ref h3, .ref h4, .ref h5, .int (nI u)])), (h1, .inl (cI, 2000, .inl F)), (h2, .inl (cI, 2000, .inl T)), (h3, .inl (cJ, 2000, .inr (.inl C))), (h4, .inl (cJ, 300, .inr (.inl (hN F T C u)))), (h5, .inl (cI, 300, .inl S))] H := hP
        have hD9 : va_D A [(x0, .inr (3, [.ref z0, .ref h0, .ref g0, .ref w0, .ref v0, .int (nI n), .int P, .int st])), (h0, .inr (0, [.ref h1, .ref h2, .ref h3, .ref h4, .ref h5, .int (nI u)])), (h1, .inl (cI, 2000, .inl F)), (h2, .inl (cI, 2000, .inl T)), (h3, .inl (cJ, 2000, .inr (.inl C))), (h4, .inl (cJ, 300, .inr (.inl (hN F T C u)))), (h5, .inl (cI, 300, .inl S))] := hD
        exact W.lret (v := (-2)) hx hb hr (fun t ht hW => ⟨⟨(-2), (F, T, C, u, st), rfl, Or.inr (Or.inl ⟨c_2, c_4, rfl, rfl, rfl, rfl, rfl, rfl, Or.inl c_5⟩), by rw [ht]; exact hP9, va_K.moved hW.alike hK, hD9⟩, hS.F ht⟩) hS.2.2 dX3_call_34
      · -- pc 22, side 1
        refine lv_iload_n hx hb dX3_call_25 rfl (lv_at hl 3 rfl) ?_
        refine lv_ldc (v := 1000000000) hx hb hown (hts (.constant RX3 64 (1000000000)) (by decide +kernel)) dX3_call_26 ?_
        refine lv_icmp_le (tgt := 35) hx hb dX3_call_28 (by decide) (fun c_6 => ?_) (fun c_6 => ?_)
        · -- pc 28, side 0
          refine lv_aload_n hx hb dX3_call_35 rfl (lv_at hl 0 rfl) ?_
          refine va_get (D := (dC, dI)) (ci := 3) (v := .ref h0) (C := RX3) (T := TX3) (N := 8) hx hb hts hin3 hown hK hP 0 rfl rfl 1 (by decide) (hts (.fieldLink RX3 16 "CallClusters" "table" "LCallClusters$CallTable;") (by decide +kernel)) (fun _ h9 => h9) rfl dX3_call_36 ?_
          refine lv_iload_n hx hb dX3_call_39 rfl (lv_at hl 1 rfl) ?_
          refine lv_iload_n hx hb dX3_call_40 rfl (lv_at hl 2 rfl) ?_
          have hPc := hP.sub (ws' := [(h0, .inr (0, [.ref h1, .ref h2, .ref h3, .ref h4, .ref h5, .int (nI u)])), (h1, .inl (cI, 2000, .inl F)), (h2, .inl (cI, 2000, .inl T)), (h3, .inl (cJ, 2000, .inr (.inl C))), (h4, .inl (cJ, 300, .inr (.inl (hN F T C u)))), (h5, .inl (cI, 300, .inl S))]) [1, 2, 3, 4, 5, 6] rfl
          have hDc := hD.sub (ws' := [(h0, .inr (0, [.ref h1, .ref h2, .ref h3, .ref h4, .ref h5, .int (nI u)])), (h1, .inl (cI, 2000, .inl F)), (h2, .inl (cI, 2000, .inl T)), (h3, .inl (cJ, 2000, .inr (.inl C))), (h4, .inl (cJ, 300, .inr (.inl (hN F T C u)))), (h5, .inl (cI, 300, .inl S))]) [1, 2, 3, 4, 5, 6] (by decide) rfl
          have hFc := va_free (wc := [(h0, .inr (0, [.ref h1, .ref h2, .ref h3, .ref h4, .ref h5, .int (nI u)])), (h1, .inl (cI, 2000, .inl F)), (h2, .inl (cI, 2000, .inl T)), (h3, .inl (cJ, 2000, .inr (.inl C))), (h4, .inl (cJ, 300, .inr (.inl (hN F T C u)))), (h5, .inl (cI, 300, .inl S))]) hD hS hA [1, 2, 3, 4, 5, 6] rfl
          refine va_calli (va_runV (As := [.int f, .int g]) (rest := []) ⟨hx, hb, hml, hown, hts⟩ (ct_X0_pairFor l dC dI cI cJ cZ H.size h0 h1 h2 h3 h4 h5 F T C (hN F T C u) S u f g hu) (cwV 2 hts gX3_call_X0_pairFor rfl rfl rfl (by decide +kernel) ⟨Nat.le_of_ble_eq_true rfl, Nat.le_of_ble_eq_true rfl⟩) (pre_V hK hPc hDc (ci := 0) rfl rfl) rfl rfl hl.1 rfl (lv_room (Nat.le_of_ble_eq_true rfl)) dX3_call_41 ⟨Nat.zero_le _, Nat.zero_le _⟩) hS (fun q _ h => hFc q h) hFc (fun r_11 uu t H1 locs ht hvm hw hB hz1 hk1 hS => ?_)
          obtain ⟨F'_7, T'_8, C'_9, u'_10⟩ := uu
          obtain ⟨hP1, hK1, hD1⟩ := hB
          rw [ht] at hP1
          try dsimp only at hw
          have hP1 : va_P (dC, dI) vwCl [(h0, .inr (0, [.ref h1, .ref h2, .ref h3, .ref h4, .ref h5, .int (nI (u'_10))])), (h1, .inl (cI, 2000, .inl (F'_7))), (h2, .inl (cI, 2000, .inl (T'_8))), (h3, .inl (cJ, 2000, .inr (.inl (C'_9)))), (h4, .inl (cJ, 300, .inr (.inl (hN F T C u)))), (h5, .inl (cI, 300, .inl S))] H1 := hP1
          obtain ⟨hP, hD⟩ := va_join (wr := [(x0, .inr (3, [.ref z0, .ref h0, .ref g0, .ref w0, .ref v0, .int (nI n), .int P, .int st]))]) (w1 := [(h0, .inr (0, [.ref h1, .ref h2, .ref h3, .ref h4, .ref h5, .int (nI (u'_10))])), (h1, .inl (cI, 2000, .inl (F'_7))), (h2, .inl (cI, 2000, .inl (T'_8))), (h3, .inl (cJ, 2000, .inr (.inl (C'_9)))), (h4, .inl (cJ, 300, .inr (.inl (hN F T C u)))), (h5, .inl (cI, 300, .inl S))]) hP hD [1, 2, 3, 4, 5, 6] [0] rfl rfl (by decide) (by decide) hk1 hFc hP1 hD1
          have hP := hP.sub (ws' := [(x0, .inr (3, [.ref z0, .ref h0, .ref g0, .ref w0, .ref v0, .int (nI n), .int P, .int st])), (h0, .inr (0, [.ref h1, .ref h2, .ref h3, .ref h4, .ref h5, .int (nI (u'_10))])), (h1, .inl (cI, 2000, .inl (F'_7))), (h2, .inl (cI, 2000, .inl (T'_8))), (h3, .inl (cJ, 2000, .inr (.inl (C'_9)))), (h4, .inl (cJ, 300, .inr (.inl (hN F T C u)))), (h5, .inl (cI, 300, .inl S))]) [0, 1, 2, 3, 4, 5, 6] rfl
          have hD := hD.sub (ws' := [(x0, .inr (3, [.ref z0, .ref h0, .ref g0, .ref w0, .ref v0, .int (nI n), .int P, .int st])), (h0, .inr (0, [.ref h1, .ref h2, .ref h3, .ref h4, .ref h5, .int (nI (u'_10))])), (h1, .inl (cI, 2000, .inl (F'_7))), (h2, .inl (cI, 2000, .inl (T'_8))), (h3, .inl (cJ, 2000, .inr (.inl (C'_9)))), (h4, .inl (cJ, 300, .inr (.inl (hN F T C u)))), (h5, .inl (cI, 300, .inl S))]) [0, 1, 2, 3, 4, 5, 6] (by decide) rfl
          generalize H1 = H at hP hS ⊢
          rcases hw with ⟨hp1, e1, e2, e3, e4, e5⟩ | ⟨hp1, hp2, e1, e2, e3, e4, e5⟩ | ⟨hp1, hp2, e1, e2, e3, e4, e5⟩
          · -- pairFor, case 0
            obtain rfl := e1.symm
            obtain rfl := e2.symm
            obtain rfl := e3.symm
            obtain rfl := e4.symm
            obtain rfl := e5.symm
            have hP : va_P (dC, dI) vwCl [(x0, .inr (3, [.ref z0, .ref h0, .ref g0, .ref w0, .ref v0, .int (nI n), .int P, .int st])), (h0, .inr (0, [.ref h1, .ref h2, .ref h3, .ref h4, .ref h5, .int (nI u)])), (h1, .inl (cI, 2000, .inl F)), (h2, .inl (cI, 2000, .inl T)), (h3, .inl (cJ, 2000, .inr (.inl C))), (h4, .inl (cJ, 300, .inr (.inl (hN F T C u)))), (h5, .inl (cI, 300, .inl S))] H := hP
            have hD : va_D A [(x0, .inr (3, [.ref z0, .ref h0, .ref g0, .ref w0, .ref v0, .int (nI n), .int P, .int st])), (h0, .inr (0, [.ref h1, .ref h2, .ref h3, .ref h4, .ref h5, .int (nI u)])), (h1, .inl (cI, 2000, .inl F)), (h2, .inl (cI, 2000, .inl T)), (h3, .inl (cJ, 2000, .inr (.inl C))), (h4, .inl (cJ, 300, .inr (.inl (hN F T C u)))), (h5, .inl (cI, 300, .inl S))] := hD
            refine lv_istore (lv' := [(4, .int (nI (pfind F T f g u 0))), (0, .ref x0), (1, .int f), (2, .int g), (3, .int y)]) hx hb dX3_call_44 hl (by decide) rfl (fun ls hl => ?_)
            refine lv_iload hx hb dX3_call_46 (lv_at hl 0 rfl) ?_
            refine lv_iconst (v := (-1)) hx hb dX3_call_48 (by decide) ?_
            refine lv_icmp_ne (tgt := 56) hx hb dX3_call_49 (by decide) (fun c_12 => ?_) (fun c_12 => ?_)
            · -- pc 49, side 0
              refine lv_aload_n hx hb dX3_call_56 rfl (lv_at hl 1 rfl) ?_
              refine lv_iconst (v := 1) hx hb dX3_call_57 (by decide) ?_
              refine va_put (D := (dC, dI)) (ci := 3) (v := .int 1) (ty := .boolean) (C := RX3) (T := TX3) (N := 8) hx hb hts hin3 tyX3 tyX3_ok nmX3 hown hK hP hD hS 0 rfl rfl 7 (by decide) (hts (.fieldLink RX3 44 "CallClusters" "stale" "Z") (by decide +kernel)) (fun _ h9 => h9) rfl (by decide +kernel) (by decide) (by decide) (Nat.le_of_ble_eq_true rfl) dX3_call_58 (fun H locs hP hD hS => ?_)
              have hP : va_P (dC, dI) vwCl [(x0, .inr (3, [.ref z0, .ref h0, .ref g0, .ref w0, .ref v0, .int (nI n), .int P, .int 1])), (h0, .inr (0, [.ref h1, .ref h2, .ref h3, .ref h4, .ref h5, .int (nI u)])), (h1, .inl (cI, 2000, .inl F)), (h2, .inl (cI, 2000, .inl T)), (h3, .inl (cJ, 2000, .inr (.inl C))), (h4, .inl (cJ, 300, .inr (.inl (hN F T C u)))), (h5, .inl (cI, 300, .inl S))] H := hP
              have hD : va_D A [(x0, .inr (3, [.ref z0, .ref h0, .ref g0, .ref w0, .ref v0, .int (nI n), .int P, .int 1])), (h0, .inr (0, [.ref h1, .ref h2, .ref h3, .ref h4, .ref h5, .int (nI u)])), (h1, .inl (cI, 2000, .inl F)), (h2, .inl (cI, 2000, .inl T)), (h3, .inl (cJ, 2000, .inr (.inl C))), (h4, .inl (cJ, 300, .inr (.inl (hN F T C u)))), (h5, .inl (cI, 300, .inl S))] := hD
              refine lv_aload_n hx hb dX3_call_61 rfl (lv_at hl 1 rfl) ?_
              refine va_get (D := (dC, dI)) (ci := 3) (v := .ref h0) (C := RX3) (T := TX3) (N := 8) hx hb hts hin3 hown hK hP 0 rfl rfl 1 (by decide) (hts (.fieldLink RX3 16 "CallClusters" "table" "LCallClusters$CallTable;") (by decide +kernel)) (fun _ h9 => h9) rfl dX3_call_62 ?_
              refine lv_iload hx hb dX3_call_65 (lv_at hl 0 rfl) ?_
              refine lv_iload_n hx hb dX3_call_67 rfl (lv_at hl 4 rfl) ?_
              have hPc := hP.sub (ws' := [(h0, .inr (0, [.ref h1, .ref h2, .ref h3, .ref h4, .ref h5, .int (nI u)])), (h1, .inl (cI, 2000, .inl F)), (h2, .inl (cI, 2000, .inl T)), (h3, .inl (cJ, 2000, .inr (.inl C))), (h4, .inl (cJ, 300, .inr (.inl (hN F T C u)))), (h5, .inl (cI, 300, .inl S))]) [1, 2, 3, 4, 5, 6] rfl
              have hDc := hD.sub (ws' := [(h0, .inr (0, [.ref h1, .ref h2, .ref h3, .ref h4, .ref h5, .int (nI u)])), (h1, .inl (cI, 2000, .inl F)), (h2, .inl (cI, 2000, .inl T)), (h3, .inl (cJ, 2000, .inr (.inl C))), (h4, .inl (cJ, 300, .inr (.inl (hN F T C u)))), (h5, .inl (cI, 300, .inl S))]) [1, 2, 3, 4, 5, 6] (by decide) rfl
              have hFc := va_free (wc := [(h0, .inr (0, [.ref h1, .ref h2, .ref h3, .ref h4, .ref h5, .int (nI u)])), (h1, .inl (cI, 2000, .inl F)), (h2, .inl (cI, 2000, .inl T)), (h3, .inl (cJ, 2000, .inr (.inl C))), (h4, .inl (cJ, 300, .inr (.inl (hN F T C u)))), (h5, .inl (cI, 300, .inl S))]) hD hS hA [1, 2, 3, 4, 5, 6] rfl
              refine va_calll (va_runV (As := [.int (nI (pfind F T f g u 0)), .int y]) (rest := []) ⟨hx, hb, hml, hown, hts⟩ (ct_X0_raise l dC dI cI cJ cZ H.size h0 h1 h2 h3 h4 h5 F T C (hN F T C u) S u (pfind F T f g u 0) y (by omega) (hT _ hp1)) (cwV 2 hts gX3_call_X0_raise rfl rfl rfl (by decide +kernel) ⟨Nat.le_of_ble_eq_true rfl, Nat.le_of_ble_eq_true rfl⟩) (pre_V hK hPc hDc (ci := 0) rfl rfl) rfl rfl hl.1 rfl (lv_room (Nat.le_of_ble_eq_true rfl)) dX3_call_68 ⟨Nat.zero_le _, Nat.zero_le _⟩) hS (fun q _ h => hFc q h) hFc (fun r_13 uu t H1 locs ht hvm hw hB hz1 hk1 hS => ?_)
              obtain ⟨hP1, hK1, hD1⟩ := hB
              rw [ht] at hP1
              try dsimp only at hw
              have hP1 : va_P (dC, dI) vwCl [(h0, .inr (0, [.ref h1, .ref h2, .ref h3, .ref h4, .ref h5, .int (nI u)])), (h1, .inl (cI, 2000, .inl F)), (h2, .inl (cI, 2000, .inl T)), (h3, .inl (cJ, 2000, .inr (.inl (vp_updL C (pfind F T f g u 0) (capadd (C (pfind F T f g u 0)) y))))), (h4, .inl (cJ, 300, .inr (.inl (vp_updL (hN F T C u) ((T (pfind F T f g u 0)).toNatClampNeg) ((hN F T C u) ((T (pfind F T f g u 0)).toNatClampNeg) + (capadd (C (pfind F T f g u 0)) y - C (pfind F T f g u 0))))))), (h5, .inl (cI, 300, .inl S))] H1 := hP1
              obtain ⟨hP, hD⟩ := va_join (wr := [(x0, .inr (3, [.ref z0, .ref h0, .ref g0, .ref w0, .ref v0, .int (nI n), .int P, .int 1]))]) (w1 := [(h0, .inr (0, [.ref h1, .ref h2, .ref h3, .ref h4, .ref h5, .int (nI u)])), (h1, .inl (cI, 2000, .inl F)), (h2, .inl (cI, 2000, .inl T)), (h3, .inl (cJ, 2000, .inr (.inl (vp_updL C (pfind F T f g u 0) (capadd (C (pfind F T f g u 0)) y))))), (h4, .inl (cJ, 300, .inr (.inl (vp_updL (hN F T C u) ((T (pfind F T f g u 0)).toNatClampNeg) ((hN F T C u) ((T (pfind F T f g u 0)).toNatClampNeg) + (capadd (C (pfind F T f g u 0)) y - C (pfind F T f g u 0))))))), (h5, .inl (cI, 300, .inl S))]) hP hD [1, 2, 3, 4, 5, 6] [0] rfl rfl (by decide) (by decide) hk1 hFc hP1 hD1
              have hP := hP.sub (ws' := [(x0, .inr (3, [.ref z0, .ref h0, .ref g0, .ref w0, .ref v0, .int (nI n), .int P, .int 1])), (h0, .inr (0, [.ref h1, .ref h2, .ref h3, .ref h4, .ref h5, .int (nI u)])), (h1, .inl (cI, 2000, .inl F)), (h2, .inl (cI, 2000, .inl T)), (h3, .inl (cJ, 2000, .inr (.inl (vp_updL C (pfind F T f g u 0) (capadd (C (pfind F T f g u 0)) y))))), (h4, .inl (cJ, 300, .inr (.inl (vp_updL (hN F T C u) ((T (pfind F T f g u 0)).toNatClampNeg) ((hN F T C u) ((T (pfind F T f g u 0)).toNatClampNeg) + (capadd (C (pfind F T f g u 0)) y - C (pfind F T f g u 0))))))), (h5, .inl (cI, 300, .inl S))]) [0, 1, 2, 3, 4, 5, 6] rfl
              have hD := hD.sub (ws' := [(x0, .inr (3, [.ref z0, .ref h0, .ref g0, .ref w0, .ref v0, .int (nI n), .int P, .int 1])), (h0, .inr (0, [.ref h1, .ref h2, .ref h3, .ref h4, .ref h5, .int (nI u)])), (h1, .inl (cI, 2000, .inl F)), (h2, .inl (cI, 2000, .inl T)), (h3, .inl (cJ, 2000, .inr (.inl (vp_updL C (pfind F T f g u 0) (capadd (C (pfind F T f g u 0)) y))))), (h4, .inl (cJ, 300, .inr (.inl (vp_updL (hN F T C u) ((T (pfind F T f g u 0)).toNatClampNeg) ((hN F T C u) ((T (pfind F T f g u 0)).toNatClampNeg) + (capadd (C (pfind F T f g u 0)) y - C (pfind F T f g u 0))))))), (h5, .inl (cI, 300, .inl S))]) [0, 1, 2, 3, 4, 5, 6] (by decide) rfl
              generalize H1 = H at hP hS ⊢
              subst hw
              rw [hN_raise F T C (pfind F T f g u 0) _ u hp1] at hP hD
              have hP9 : va_P (dC, dI) vwCl [(x0, .inr (3, [.ref z0, .ref h0, .ref g0, .ref w0, .ref v0, .int (nI n), .int P, .int 1])), (h0, .inr (0, [.ref h1, .ref h2, .ref h3, .ref h4, .ref h5, .int (nI u)])), (h1, .inl (cI, 2000, .inl F)), (h2, .inl (cI, 2000, .inl T)), (h3, .inl (cJ, 2000, .inr (.inl (vp_updL C (pfind F T f g u 0) (capadd (C (pfind F T f g u 0)) y))))), (h4, .inl (cJ, 300, .inr (.inl (hN F T (vp_updL C (pfind F T f g u 0) (capadd (C (pfind F T f g u 0)) y)) u)))), (h5, .inl (cI, 300, .inl S))] H := hP
              have hD9 : va_D A [(x0, .inr (3, [.ref z0, .ref h0, .ref g0, .ref w0, .ref v0, .int (nI n), .int P, .int 1])), (h0, .inr (0, [.ref h1, .ref h2, .ref h3, .ref h4, .ref h5, .int (nI u)])), (h1, .inl (cI, 2000, .inl F)), (h2, .inl (cI, 2000, .inl T)), (h3, .inl (cJ, 2000, .inr (.inl (vp_updL C (pfind F T f g u 0) (capadd (C (pfind F T f g u 0)) y))))), (h4, .inl (cJ, 300, .inr (.inl (hN F T (vp_updL C (pfind F T f g u 0) (capadd (C (pfind F T f g u 0)) y)) u)))), (h5, .inl (cI, 300, .inl S))] := hD
              exact W.lret (v := capadd (C (pfind F T f g u 0)) y) hx hb hr (fun t ht hW => ⟨⟨capadd (C (pfind F T f g u 0)) y, (F, T, vp_updL C (pfind F T f g u 0) (capadd (C (pfind F T f g u 0)) y), u, 1), rfl, Or.inr (Or.inr ⟨c_2, c_4, c_5, Int32.not_lt.mpr c_6, Or.inr (Or.inl ⟨hp1, rfl, rfl, rfl, rfl, rfl, rfl⟩)⟩), by rw [ht]; exact hP9, va_K.moved hW.alike hK, hD9⟩, hS.F ht⟩) hS.2.2 dX3_call_71
            · -- pc 49, side 1
              exact absurd c_12 (nI_m1 (by omega))
          · -- pairFor, case 1
            obtain rfl := e1.symm
            obtain rfl := e2.symm
            obtain rfl := e3.symm
            obtain rfl := e4.symm
            obtain rfl := e5.symm
            have hP : va_P (dC, dI) vwCl [(x0, .inr (3, [.ref z0, .ref h0, .ref g0, .ref w0, .ref v0, .int (nI n), .int P, .int st])), (h0, .inr (0, [.ref h1, .ref h2, .ref h3, .ref h4, .ref h5, .int (nI u)])), (h1, .inl (cI, 2000, .inl F)), (h2, .inl (cI, 2000, .inl T)), (h3, .inl (cJ, 2000, .inr (.inl C))), (h4, .inl (cJ, 300, .inr (.inl (hN F T C u)))), (h5, .inl (cI, 300, .inl S))] H := hP
            have hD : va_D A [(x0, .inr (3, [.ref z0, .ref h0, .ref g0, .ref w0, .ref v0, .int (nI n), .int P, .int st])), (h0, .inr (0, [.ref h1, .ref h2, .ref h3, .ref h4, .ref h5, .int (nI u)])), (h1, .inl (cI, 2000, .inl F)), (h2, .inl (cI, 2000, .inl T)), (h3, .inl (cJ, 2000, .inr (.inl C))), (h4, .inl (cJ, 300, .inr (.inl (hN F T C u)))), (h5, .inl (cI, 300, .inl S))] := hD
            refine lv_istore (lv' := [(4, .int ((-1))), (0, .ref x0), (1, .int f), (2, .int g), (3, .int y)]) hx hb dX3_call_44 hl (by decide) rfl (fun ls hl => ?_)
            refine lv_iload hx hb dX3_call_46 (lv_at hl 0 rfl) ?_
            refine lv_iconst (v := (-1)) hx hb dX3_call_48 (by decide) ?_
            refine lv_icmp_ne (tgt := 56) hx hb dX3_call_49 (by decide) (fun c_14 => ?_) (fun c_14 => ?_)
            · -- pc 49, side 0
              exact absurd rfl c_14
            · -- pc 49, side 1
              refine lv_ldc2 (v := (-3)) hx hb hown (hts (.constantLong RX3 71 (-3)) (by decide +kernel)) dX3_call_52 ?_
              have hP9 : va_P (dC, dI) vwCl [(x0, .inr (3, [.ref z0, .ref h0, .ref g0, .ref w0, .ref v0, .int (nI n), .int P, .int st])), (h0, .inr (0, [.ref h1, .ref h2, .ref h3, .ref h4, .ref h5, .int (nI u)])), (h1, .inl (cI, 2000, .inl F)), (h2, .inl (cI, 2000, .inl T)), (h3, .inl (cJ, 2000, .inr (.inl C))), (h4, .inl (cJ, 300, .inr (.inl (hN F T C u)))), (h5, .inl (cI, 300, .inl S))] H := hP
              have hD9 : va_D A [(x0, .inr (3, [.ref z0, .ref h0, .ref g0, .ref w0, .ref v0, .int (nI n), .int P, .int st])), (h0, .inr (0, [.ref h1, .ref h2, .ref h3, .ref h4, .ref h5, .int (nI u)])), (h1, .inl (cI, 2000, .inl F)), (h2, .inl (cI, 2000, .inl T)), (h3, .inl (cJ, 2000, .inr (.inl C))), (h4, .inl (cJ, 300, .inr (.inl (hN F T C u)))), (h5, .inl (cI, 300, .inl S))] := hD
              exact W.lret (v := (-3)) hx hb hr (fun t ht hW => ⟨⟨(-3), (F, T, C, u, st), rfl, Or.inr (Or.inr ⟨c_2, c_4, c_5, Int32.not_lt.mpr c_6, Or.inl ⟨hp1, hp2, rfl, rfl, rfl, rfl, rfl, rfl⟩⟩), by rw [ht]; exact hP9, va_K.moved hW.alike hK, hD9⟩, hS.F ht⟩) hS.2.2 dX3_call_55
          · -- pairFor, case 2
            obtain rfl := e1.symm
            obtain rfl := e2.symm
            obtain rfl := e3.symm
            obtain rfl := e4.symm
            obtain rfl := e5.symm
            rw [← hN_new (F := F) (T := T) (C := C) (u := u) (f := f) (g := g)] at hP hD
            have hP : va_P (dC, dI) vwCl [(x0, .inr (3, [.ref z0, .ref h0, .ref g0, .ref w0, .ref v0, .int (nI n), .int P, .int st])), (h0, .inr (0, [.ref h1, .ref h2, .ref h3, .ref h4, .ref h5, .int (nI (u + 1))])), (h1, .inl (cI, 2000, .inl (upd F u f))), (h2, .inl (cI, 2000, .inl (upd T u g))), (h3, .inl (cJ, 2000, .inr (.inl (vp_updL C u 0)))), (h4, .inl (cJ, 300, .inr (.inl (hN (upd F u f) (upd T u g) (vp_updL C u 0) (u + 1))))), (h5, .inl (cI, 300, .inl S))] H := hP
            have hD : va_D A [(x0, .inr (3, [.ref z0, .ref h0, .ref g0, .ref w0, .ref v0, .int (nI n), .int P, .int st])), (h0, .inr (0, [.ref h1, .ref h2, .ref h3, .ref h4, .ref h5, .int (nI (u + 1))])), (h1, .inl (cI, 2000, .inl (upd F u f))), (h2, .inl (cI, 2000, .inl (upd T u g))), (h3, .inl (cJ, 2000, .inr (.inl (vp_updL C u 0)))), (h4, .inl (cJ, 300, .inr (.inl (hN (upd F u f) (upd T u g) (vp_updL C u 0) (u + 1))))), (h5, .inl (cI, 300, .inl S))] := hD
            refine lv_istore (lv' := [(4, .int (nI u)), (0, .ref x0), (1, .int f), (2, .int g), (3, .int y)]) hx hb dX3_call_44 hl (by decide) rfl (fun ls hl => ?_)
            refine lv_iload hx hb dX3_call_46 (lv_at hl 0 rfl) ?_
            refine lv_iconst (v := (-1)) hx hb dX3_call_48 (by decide) ?_
            refine lv_icmp_ne (tgt := 56) hx hb dX3_call_49 (by decide) (fun c_15 => ?_) (fun c_15 => ?_)
            · -- pc 49, side 0
              refine lv_aload_n hx hb dX3_call_56 rfl (lv_at hl 1 rfl) ?_
              refine lv_iconst (v := 1) hx hb dX3_call_57 (by decide) ?_
              refine va_put (D := (dC, dI)) (ci := 3) (v := .int 1) (ty := .boolean) (C := RX3) (T := TX3) (N := 8) hx hb hts hin3 tyX3 tyX3_ok nmX3 hown hK hP hD hS 0 rfl rfl 7 (by decide) (hts (.fieldLink RX3 44 "CallClusters" "stale" "Z") (by decide +kernel)) (fun _ h9 => h9) rfl (by decide +kernel) (by decide) (by decide) (Nat.le_of_ble_eq_true rfl) dX3_call_58 (fun H locs hP hD hS => ?_)
              have hP : va_P (dC, dI) vwCl [(x0, .inr (3, [.ref z0, .ref h0, .ref g0, .ref w0, .ref v0, .int (nI n), .int P, .int 1])), (h0, .inr (0, [.ref h1, .ref h2, .ref h3, .ref h4, .ref h5, .int (nI (u + 1))])), (h1, .inl (cI, 2000, .inl (upd F u f))), (h2, .inl (cI, 2000, .inl (upd T u g))), (h3, .inl (cJ, 2000, .inr (.inl (vp_updL C u 0)))), (h4, .inl (cJ, 300, .inr (.inl (hN (upd F u f) (upd T u g) (vp_updL C u 0) (u + 1))))), (h5, .inl (cI, 300, .inl S))] H := hP
              have hD : va_D A [(x0, .inr (3, [.ref z0, .ref h0, .ref g0, .ref w0, .ref v0, .int (nI n), .int P, .int 1])), (h0, .inr (0, [.ref h1, .ref h2, .ref h3, .ref h4, .ref h5, .int (nI (u + 1))])), (h1, .inl (cI, 2000, .inl (upd F u f))), (h2, .inl (cI, 2000, .inl (upd T u g))), (h3, .inl (cJ, 2000, .inr (.inl (vp_updL C u 0)))), (h4, .inl (cJ, 300, .inr (.inl (hN (upd F u f) (upd T u g) (vp_updL C u 0) (u + 1))))), (h5, .inl (cI, 300, .inl S))] := hD
              refine lv_aload_n hx hb dX3_call_61 rfl (lv_at hl 1 rfl) ?_
              refine va_get (D := (dC, dI)) (ci := 3) (v := .ref h0) (C := RX3) (T := TX3) (N := 8) hx hb hts hin3 hown hK hP 0 rfl rfl 1 (by decide) (hts (.fieldLink RX3 16 "CallClusters" "table" "LCallClusters$CallTable;") (by decide +kernel)) (fun _ h9 => h9) rfl dX3_call_62 ?_
              refine lv_iload hx hb dX3_call_65 (lv_at hl 0 rfl) ?_
              refine lv_iload_n hx hb dX3_call_67 rfl (lv_at hl 4 rfl) ?_
              have hPc := hP.sub (ws' := [(h0, .inr (0, [.ref h1, .ref h2, .ref h3, .ref h4, .ref h5, .int (nI (u + 1))])), (h1, .inl (cI, 2000, .inl (upd F u f))), (h2, .inl (cI, 2000, .inl (upd T u g))), (h3, .inl (cJ, 2000, .inr (.inl (vp_updL C u 0)))), (h4, .inl (cJ, 300, .inr (.inl (hN (upd F u f) (upd T u g) (vp_updL C u 0) (u + 1))))), (h5, .inl (cI, 300, .inl S))]) [1, 2, 3, 4, 5, 6] rfl
              have hDc := hD.sub (ws' := [(h0, .inr (0, [.ref h1, .ref h2, .ref h3, .ref h4, .ref h5, .int (nI (u + 1))])), (h1, .inl (cI, 2000, .inl (upd F u f))), (h2, .inl (cI, 2000, .inl (upd T u g))), (h3, .inl (cJ, 2000, .inr (.inl (vp_updL C u 0)))), (h4, .inl (cJ, 300, .inr (.inl (hN (upd F u f) (upd T u g) (vp_updL C u 0) (u + 1))))), (h5, .inl (cI, 300, .inl S))]) [1, 2, 3, 4, 5, 6] (by decide) rfl
              have hFc := va_free (wc := [(h0, .inr (0, [.ref h1, .ref h2, .ref h3, .ref h4, .ref h5, .int (nI (u + 1))])), (h1, .inl (cI, 2000, .inl (upd F u f))), (h2, .inl (cI, 2000, .inl (upd T u g))), (h3, .inl (cJ, 2000, .inr (.inl (vp_updL C u 0)))), (h4, .inl (cJ, 300, .inr (.inl (hN (upd F u f) (upd T u g) (vp_updL C u 0) (u + 1))))), (h5, .inl (cI, 300, .inl S))]) hD hS hA [1, 2, 3, 4, 5, 6] rfl
              refine va_calll (va_runV (As := [.int (nI u), .int y]) (rest := []) ⟨hx, hb, hml, hown, hts⟩ (ct_X0_raise l dC dI cI cJ cZ H.size h0 h1 h2 h3 h4 h5 (upd F u f) (upd T u g) (vp_updL C u 0) (hN (upd F u f) (upd T u g) (vp_updL C u 0) (u + 1)) S (u + 1) u y hp2 (by rw [show upd T u g u = g from if_pos rfl]; exact isFI_v hn c_4)) (cwV 2 hts gX3_call_X0_raise rfl rfl rfl (by decide +kernel) ⟨Nat.le_of_ble_eq_true rfl, Nat.le_of_ble_eq_true rfl⟩) (pre_V hK hPc hDc (ci := 0) rfl rfl) rfl rfl hl.1 rfl (lv_room (Nat.le_of_ble_eq_true rfl)) dX3_call_68 ⟨Nat.zero_le _, Nat.zero_le _⟩) hS (fun q _ h => hFc q h) hFc (fun r_16 uu t H1 locs ht hvm hw hB hz1 hk1 hS => ?_)
              obtain ⟨hP1, hK1, hD1⟩ := hB
              rw [ht] at hP1
              try dsimp only at hw
              have hP1 : va_P (dC, dI) vwCl [(h0, .inr (0, [.ref h1, .ref h2, .ref h3, .ref h4, .ref h5, .int (nI (u + 1))])), (h1, .inl (cI, 2000, .inl (upd F u f))), (h2, .inl (cI, 2000, .inl (upd T u g))), (h3, .inl (cJ, 2000, .inr (.inl (vp_updL (vp_updL C u 0) u (capadd ((vp_updL C u 0) u) y))))), (h4, .inl (cJ, 300, .inr (.inl (vp_updL (hN (upd F u f) (upd T u g) (vp_updL C u 0) (u + 1)) (((upd T u g) u).toNatClampNeg) ((hN (upd F u f) (upd T u g) (vp_updL C u 0) (u + 1)) (((upd T u g) u).toNatClampNeg) + (capadd ((vp_updL C u 0) u) y - (vp_updL C u 0) u)))))), (h5, .inl (cI, 300, .inl S))] H1 := hP1
              obtain ⟨hP, hD⟩ := va_join (wr := [(x0, .inr (3, [.ref z0, .ref h0, .ref g0, .ref w0, .ref v0, .int (nI n), .int P, .int 1]))]) (w1 := [(h0, .inr (0, [.ref h1, .ref h2, .ref h3, .ref h4, .ref h5, .int (nI (u + 1))])), (h1, .inl (cI, 2000, .inl (upd F u f))), (h2, .inl (cI, 2000, .inl (upd T u g))), (h3, .inl (cJ, 2000, .inr (.inl (vp_updL (vp_updL C u 0) u (capadd ((vp_updL C u 0) u) y))))), (h4, .inl (cJ, 300, .inr (.inl (vp_updL (hN (upd F u f) (upd T u g) (vp_updL C u 0) (u + 1)) (((upd T u g) u).toNatClampNeg) ((hN (upd F u f) (upd T u g) (vp_updL C u 0) (u + 1)) (((upd T u g) u).toNatClampNeg) + (capadd ((vp_updL C u 0) u) y - (vp_updL C u 0) u)))))), (h5, .inl (cI, 300, .inl S))]) hP hD [1, 2, 3, 4, 5, 6] [0] rfl rfl (by decide) (by decide) hk1 hFc hP1 hD1
              have hP := hP.sub (ws' := [(x0, .inr (3, [.ref z0, .ref h0, .ref g0, .ref w0, .ref v0, .int (nI n), .int P, .int 1])), (h0, .inr (0, [.ref h1, .ref h2, .ref h3, .ref h4, .ref h5, .int (nI (u + 1))])), (h1, .inl (cI, 2000, .inl (upd F u f))), (h2, .inl (cI, 2000, .inl (upd T u g))), (h3, .inl (cJ, 2000, .inr (.inl (vp_updL (vp_updL C u 0) u (capadd ((vp_updL C u 0) u) y))))), (h4, .inl (cJ, 300, .inr (.inl (vp_updL (hN (upd F u f) (upd T u g) (vp_updL C u 0) (u + 1)) (((upd T u g) u).toNatClampNeg) ((hN (upd F u f) (upd T u g) (vp_updL C u 0) (u + 1)) (((upd T u g) u).toNatClampNeg) + (capadd ((vp_updL C u 0) u) y - (vp_updL C u 0) u)))))), (h5, .inl (cI, 300, .inl S))]) [0, 1, 2, 3, 4, 5, 6] rfl
              have hD := hD.sub (ws' := [(x0, .inr (3, [.ref z0, .ref h0, .ref g0, .ref w0, .ref v0, .int (nI n), .int P, .int 1])), (h0, .inr (0, [.ref h1, .ref h2, .ref h3, .ref h4, .ref h5, .int (nI (u + 1))])), (h1, .inl (cI, 2000, .inl (upd F u f))), (h2, .inl (cI, 2000, .inl (upd T u g))), (h3, .inl (cJ, 2000, .inr (.inl (vp_updL (vp_updL C u 0) u (capadd ((vp_updL C u 0) u) y))))), (h4, .inl (cJ, 300, .inr (.inl (vp_updL (hN (upd F u f) (upd T u g) (vp_updL C u 0) (u + 1)) (((upd T u g) u).toNatClampNeg) ((hN (upd F u f) (upd T u g) (vp_updL C u 0) (u + 1)) (((upd T u g) u).toNatClampNeg) + (capadd ((vp_updL C u 0) u) y - (vp_updL C u 0) u)))))), (h5, .inl (cI, 300, .inl S))]) [0, 1, 2, 3, 4, 5, 6] (by decide) rfl
              generalize H1 = H at hP hS ⊢
              rw [show vp_updL C u 0 u = 0 from if_pos rfl] at hw
              subst hw
              rw [hN_raise (upd F u f) (upd T u g) (vp_updL C u 0) u _ (u + 1) (by omega), show vp_updL C u 0 u = 0 from if_pos rfl] at hP hD
              have hP9 : va_P (dC, dI) vwCl [(x0, .inr (3, [.ref z0, .ref h0, .ref g0, .ref w0, .ref v0, .int (nI n), .int P, .int 1])), (h0, .inr (0, [.ref h1, .ref h2, .ref h3, .ref h4, .ref h5, .int (nI (u + 1))])), (h1, .inl (cI, 2000, .inl (upd F u f))), (h2, .inl (cI, 2000, .inl (upd T u g))), (h3, .inl (cJ, 2000, .inr (.inl (vp_updL (vp_updL C u 0) u (capadd 0 y))))), (h4, .inl (cJ, 300, .inr (.inl (hN (upd F u f) (upd T u g) (vp_updL (vp_updL C u 0) u (capadd 0 y)) (u + 1))))), (h5, .inl (cI, 300, .inl S))] H := hP
              have hD9 : va_D A [(x0, .inr (3, [.ref z0, .ref h0, .ref g0, .ref w0, .ref v0, .int (nI n), .int P, .int 1])), (h0, .inr (0, [.ref h1, .ref h2, .ref h3, .ref h4, .ref h5, .int (nI (u + 1))])), (h1, .inl (cI, 2000, .inl (upd F u f))), (h2, .inl (cI, 2000, .inl (upd T u g))), (h3, .inl (cJ, 2000, .inr (.inl (vp_updL (vp_updL C u 0) u (capadd 0 y))))), (h4, .inl (cJ, 300, .inr (.inl (hN (upd F u f) (upd T u g) (vp_updL (vp_updL C u 0) u (capadd 0 y)) (u + 1))))), (h5, .inl (cI, 300, .inl S))] := hD
              exact W.lret (v := capadd 0 y) hx hb hr (fun t ht hW => ⟨⟨capadd 0 y, (upd F u f, upd T u g, vp_updL (vp_updL C u 0) u (capadd 0 y), u + 1, 1), rfl, Or.inr (Or.inr ⟨c_2, c_4, c_5, Int32.not_lt.mpr c_6, Or.inr (Or.inr ⟨hp1, hp2, rfl, rfl, rfl, rfl, rfl, rfl⟩)⟩), by rw [ht]; exact hP9, va_K.moved hW.alike hK, hD9⟩, hS.F ht⟩) hS.2.2 dX3_call_71
            · -- pc 49, side 1
              exact absurd c_15 (nI_m1 (by omega))
        · -- pc 28, side 1
          refine lv_ldc2 (v := (-2)) hx hb hown (hts (.constantLong RX3 65 (-2)) (by decide +kernel)) dX3_call_31 ?_
          have hP9 : va_P (dC, dI) vwCl [(x0, .inr (3, [.ref z0, .ref h0, .ref g0, .ref w0, .ref v0, .int (nI n), .int P, .int st])), (h0, .inr (0, [.ref h1, .ref h2, .ref h3, .ref h4, .ref h5, .int (nI u)])), (h1, .inl (cI, 2000, .inl F)), (h2, .inl (cI, 2000, .inl T)), (h3, .inl (cJ, 2000, .inr (.inl C))), (h4, .inl (cJ, 300, .inr (.inl (hN F T C u)))), (h5, .inl (cI, 300, .inl S))] H := hP
          have hD9 : va_D A [(x0, .inr (3, [.ref z0, .ref h0, .ref g0, .ref w0, .ref v0, .int (nI n), .int P, .int st])), (h0, .inr (0, [.ref h1, .ref h2, .ref h3, .ref h4, .ref h5, .int (nI u)])), (h1, .inl (cI, 2000, .inl F)), (h2, .inl (cI, 2000, .inl T)), (h3, .inl (cJ, 2000, .inr (.inl C))), (h4, .inl (cJ, 300, .inr (.inl (hN F T C u)))), (h5, .inl (cI, 300, .inl S))] := hD
          exact W.lret (v := (-2)) hx hb hr (fun t ht hW => ⟨⟨(-2), (F, T, C, u, st), rfl, Or.inr (Or.inl ⟨c_2, c_4, rfl, rfl, rfl, rfl, rfl, rfl, Or.inr (Int32.not_le.mp c_6)⟩), by rw [ht]; exact hP9, va_K.moved hW.alike hK, hD9⟩, hS.F ht⟩) hS.2.2 dX3_call_34
    · -- pc 13, side 1
      rw [hw] at c_4
      refine lv_ldc2 (v := (-1)) hx hb hown (hts (.constantLong RX3 62 (-1)) (by decide +kernel)) dX3_call_16 ?_
      have hP9 : va_P (dC, dI) vwCl [(x0, .inr (3, [.ref z0, .ref h0, .ref g0, .ref w0, .ref v0, .int (nI n), .int P, .int st])), (h0, .inr (0, [.ref h1, .ref h2, .ref h3, .ref h4, .ref h5, .int (nI u)])), (h1, .inl (cI, 2000, .inl F)), (h2, .inl (cI, 2000, .inl T)), (h3, .inl (cJ, 2000, .inr (.inl C))), (h4, .inl (cJ, 300, .inr (.inl (hN F T C u)))), (h5, .inl (cI, 300, .inl S))] H := hP
      have hD9 : va_D A [(x0, .inr (3, [.ref z0, .ref h0, .ref g0, .ref w0, .ref v0, .int (nI n), .int P, .int st])), (h0, .inr (0, [.ref h1, .ref h2, .ref h3, .ref h4, .ref h5, .int (nI u)])), (h1, .inl (cI, 2000, .inl F)), (h2, .inl (cI, 2000, .inl T)), (h3, .inl (cJ, 2000, .inr (.inl C))), (h4, .inl (cJ, 300, .inr (.inl (hN F T C u)))), (h5, .inl (cI, 300, .inl S))] := hD
      exact W.lret (v := (-1)) hx hb hr (fun t ht hW => ⟨⟨(-1), (F, T, C, u, st), rfl, Or.inl ⟨rfl, rfl, rfl, rfl, rfl, rfl, Or.inr c_4⟩, by rw [ht]; exact hP9, va_K.moved hW.alike hK, hD9⟩, hS.F ht⟩) hS.2.2 dX3_call_19
set_option maxHeartbeats 4000000 in
set_option maxRecDepth 100000 in
theorem lpX3_writeByNumber {p : Program} {l : Launch} {ev : Env} {s : State} {m : MethodId} {args : Array Value} {below : List Frame} {meth : Method} {c : Code} {Q : State → Prop} {A : Nat → Prop} {dC : Nat → ClassId} {dI : Nat → Nat → Nat} {cI cJ cZ : ClassId} (hx : p.tables.exec = Jvm.exec) (hb : c.code = cX3_writeByNumber) (hml : c.maxLocals = 2) (hts : ∀ w ∈ wsX3_writeByNumber, w.before args s = true) (hown : s.vm.findClass RX3 = some m.cls) (hK : va_K (dC, dI) vwCl [(cI, .int), (cJ, .long), (cZ, .boolean)] s) (hA : ∀ q : Nat, s.heap.size ≤ q → A q) {x0 : Nat} {z0 : Nat} {v0 : Nat} {v1 : Nat} {v2 : Nat} {h0 g0 w0 : Nat} {n : Nat} {P st : Int32} {z : Nat → Int32} {M2 : Nat → Int32} (hn : n ≤ 300)  (kn : ∀ (H : Heap) (locs : List Loc) (ls : Array Slot), va_P (dC, dI) vwCl [(x0, .inr (3, [.ref z0, .ref h0, .ref g0, .ref w0, .ref v0, .int (nI n), .int P, .int st])), (z0, .inl (cI, 300, .inl z)), (v0, .inr (2, [.ref v1, .ref v2, .int (nI (rowL z M2 (fun _ => -1) (nLst z n)).2.2.1), .long ((rowL z M2 (fun _ => -1) (nLst z n)).2.2.2)])), (v1, .inl (cI, 300, .inl ((rowL z M2 (fun _ => -1) (nLst z n)).1))), (v2, .inl (cJ, 300, .inr (.inl ((rowL z M2 (fun _ => -1) (nLst z n)).2.1))))] H → va_D A [(x0, .inr (3, [.ref z0, .ref h0, .ref g0, .ref w0, .ref v0, .int (nI n), .int P, .int st])), (z0, .inl (cI, 300, .inl z)), (v0, .inr (2, [.ref v1, .ref v2, .int (nI (rowL z M2 (fun _ => -1) (nLst z n)).2.2.1), .long ((rowL z M2 (fun _ => -1) (nLst z n)).2.2.2)])), (v1, .inl (cI, 300, .inl ((rowL z M2 (fun _ => -1) (nLst z n)).1))), (v2, .inl (cJ, 300, .inr (.inl ((rowL z M2 (fun _ => -1) (nLst z n)).2.1))))] → va_S A s.heap H locs → lv_has ls 2 [(0, .ref x0)] → W p l ev ({ frames := 2, cells := 0, slots := 0, locals := 46 } : Room) s m args below meth c H locs 0 0 Q (F0 m 46 ls [])) : ∀ (n_ : Nat) (k : Nat), k + n_ = n → ∀ (H : Heap) (locs : List Loc) (ls : Array Slot), va_P (dC, dI) vwCl [(x0, .inr (3, [.ref z0, .ref h0, .ref g0, .ref w0, .ref v0, .int (nI n), .int P, .int st])), (z0, .inl (cI, 300, .inl z)), (v0, .inr (2, [.ref v1, .ref v2, .int (nI (rowL z M2 (fun _ => -1) (nLst z k)).2.2.1), .long ((rowL z M2 (fun _ => -1) (nLst z k)).2.2.2)])), (v1, .inl (cI, 300, .inl ((rowL z M2 (fun _ => -1) (nLst z k)).1))), (v2, .inl (cJ, 300, .inr (.inl ((rowL z M2 (fun _ => -1) (nLst z k)).2.1))))] H → va_D A [(x0, .inr (3, [.ref z0, .ref h0, .ref g0, .ref w0, .ref v0, .int (nI n), .int P, .int st])), (z0, .inl (cI, 300, .inl z)), (v0, .inr (2, [.ref v1, .ref v2, .int (nI (rowL z M2 (fun _ => -1) (nLst z k)).2.2.1), .long ((rowL z M2 (fun _ => -1) (nLst z k)).2.2.2)])), (v1, .inl (cI, 300, .inl ((rowL z M2 (fun _ => -1) (nLst z k)).1))), (v2, .inl (cJ, 300, .inr (.inl ((rowL z M2 (fun _ => -1) (nLst z k)).2.1))))] → va_S A s.heap H locs → lv_has ls 2 [(0, .ref x0), (1, .int (nI k))] → W p l ev ({ frames := 2, cells := 0, slots := 0, locals := 46 } : Room) s m args below meth c H locs 0 0 Q (F0 m 9 ls []) := by
  have hin3 : ∀ w ∈ wsX30, w ∈ wsX3_writeByNumber := by decide +kernel
  intro n_
  induction n_ with
  | zero =>
    intro k hk H locs ls hP hD hS hl
    have hk : k = n := by omega
    subst hk
    refine lv_iload_n hx hb dX3_writeByNumber_9 rfl (lv_at hl 1 rfl) ?_
    refine lv_aload_n hx hb dX3_writeByNumber_10 rfl (lv_at hl 0 rfl) ?_
    refine va_get (D := (dC, dI)) (ci := 3) (v := .int (nI k)) (C := RX3) (T := TX3) (N := 8) hx hb hts hin3 hown hK hP 0 rfl rfl 5 (by decide) (hts (.fieldLink RX3 37 "CallClusters" "functionCount" "I") (by decide +kernel)) (fun _ h9 => h9) rfl dX3_writeByNumber_11 ?_
    refine lv_icmp_ge (tgt := 46) hx hb dX3_writeByNumber_14 (by decide) (fun c_1 => ?_) (fun c_1 => ?_)
    · -- pc 14, side 0
      exact kn   H locs ls hP hD hS (lv_sub hl [0] rfl)
    · -- pc 14, side 1
      exact absurd (nI_le (Nat.le_refl _) (by omega)) c_1
  | succ n_ ih =>
    intro k hk H locs ls hP hD hS hl
    have hl9 : (rowL z M2 (fun _ => -1) (nLst z k)).2.2.1 < 300 := by rw [rowL_n]; have := nLst_len z k; omega
    refine lv_iload_n hx hb dX3_writeByNumber_9 rfl (lv_at hl 1 rfl) ?_
    refine lv_aload_n hx hb dX3_writeByNumber_10 rfl (lv_at hl 0 rfl) ?_
    refine va_get (D := (dC, dI)) (ci := 3) (v := .int (nI n)) (C := RX3) (T := TX3) (N := 8) hx hb hts hin3 hown hK hP 0 rfl rfl 5 (by decide) (hts (.fieldLink RX3 37 "CallClusters" "functionCount" "I") (by decide +kernel)) (fun _ h9 => h9) rfl dX3_writeByNumber_11 ?_
    refine lv_icmp_ge (tgt := 46) hx hb dX3_writeByNumber_14 (by decide) (fun c_2 => ?_) (fun c_2 => ?_)
    · -- pc 14, side 0
      exact absurd c_2 (nI_ge (show k < n by omega) (by omega))
    · -- pc 14, side 1
      refine lv_aload_n hx hb dX3_writeByNumber_17 rfl (lv_at hl 0 rfl) ?_
      refine va_get (D := (dC, dI)) (ci := 3) (v := .ref z0) (C := RX3) (T := TX3) (N := 8) hx hb hts hin3 hown hK hP 0 rfl rfl 0 (by decide) (hts (.fieldLink RX3 9 "CallClusters" "sizes" "[I") (by decide +kernel)) (fun _ h9 => h9) rfl dX3_writeByNumber_18 ?_
      refine lv_iload_n hx hb dX3_writeByNumber_21 rfl (lv_at hl 1 rfl) ?_
      refine va_iald hx hb hK hP 1 0 rfl rfl (inn (show k < 300 by omega) (by omega)) dX3_writeByNumber_22 ?_
      refine tp_i (y := z k) (by rw [ix_n (by omega)]) ?_
      refine lv_if_le (tgt := 40) hx hb dX3_writeByNumber_23 (by decide) (fun c_3 => ?_) (fun c_3 => ?_)
      · -- pc 23, side 0
        refine lv_iinc (v := nI (k + 1)) (lv' := [(1, .int (nI (k + 1))), (0, .ref x0)]) hx hb dX3_writeByNumber_40 hl (k := 1) rfl (by exact nI_1 k) (by decide) rfl (fun ls hl => ?_)
        refine lv_goto (tgt := 9) hx hb dX3_writeByNumber_43 (by decide) ?_
        have hq : nLst z k = nLst z (k + 1) := by rw [nLst_s, if_neg (Int32.not_lt.mpr c_3)]
        rw [hq] at hP hD
        exact ih (k + 1) (by omega) H locs ls hP hD hS (lv_sub hl [1, 0] rfl)
      · -- pc 23, side 1
        refine lv_aload_n hx hb dX3_writeByNumber_26 rfl (lv_at hl 0 rfl) ?_
        refine va_get (D := (dC, dI)) (ci := 3) (v := .ref v0) (C := RX3) (T := TX3) (N := 8) hx hb hts hin3 hown hK hP 0 rfl rfl 4 (by decide) (hts (.fieldLink RX3 34 "CallClusters" "numbered" "LCallClusters$Row;") (by decide +kernel)) (fun _ h9 => h9) rfl dX3_writeByNumber_27 ?_
        refine lv_iload_n hx hb dX3_writeByNumber_30 rfl (lv_at hl 1 rfl) ?_
        refine lv_aload_n hx hb dX3_writeByNumber_31 rfl (lv_at hl 0 rfl) ?_
        refine va_get (D := (dC, dI)) (ci := 3) (v := .ref z0) (C := RX3) (T := TX3) (N := 8) hx hb hts hin3 hown hK hP 0 rfl rfl 0 (by decide) (hts (.fieldLink RX3 9 "CallClusters" "sizes" "[I") (by decide +kernel)) (fun _ h9 => h9) rfl dX3_writeByNumber_32 ?_
        refine lv_iload_n hx hb dX3_writeByNumber_35 rfl (lv_at hl 1 rfl) ?_
        refine va_iald hx hb hK hP 1 0 rfl rfl (inn (show k < 300 by omega) (by omega)) dX3_writeByNumber_36 ?_
        refine tp_i (y := z k) (by rw [ix_n (by omega)]) ?_
        have hPc := hP.sub (ws' := [(v0, .inr (2, [.ref v1, .ref v2, .int (nI (rowL z M2 (fun _ => -1) (nLst z k)).2.2.1), .long ((rowL z M2 (fun _ => -1) (nLst z k)).2.2.2)])), (v1, .inl (cI, 300, .inl ((rowL z M2 (fun _ => -1) (nLst z k)).1))), (v2, .inl (cJ, 300, .inr (.inl ((rowL z M2 (fun _ => -1) (nLst z k)).2.1))))]) [2, 3, 4] rfl
        have hDc := hD.sub (ws' := [(v0, .inr (2, [.ref v1, .ref v2, .int (nI (rowL z M2 (fun _ => -1) (nLst z k)).2.2.1), .long ((rowL z M2 (fun _ => -1) (nLst z k)).2.2.2)])), (v1, .inl (cI, 300, .inl ((rowL z M2 (fun _ => -1) (nLst z k)).1))), (v2, .inl (cJ, 300, .inr (.inl ((rowL z M2 (fun _ => -1) (nLst z k)).2.1))))]) [2, 3, 4] (by decide) rfl
        have hFc := va_free (wc := [(v0, .inr (2, [.ref v1, .ref v2, .int (nI (rowL z M2 (fun _ => -1) (nLst z k)).2.2.1), .long ((rowL z M2 (fun _ => -1) (nLst z k)).2.2.2)])), (v1, .inl (cI, 300, .inl ((rowL z M2 (fun _ => -1) (nLst z k)).1))), (v2, .inl (cJ, 300, .inr (.inl ((rowL z M2 (fun _ => -1) (nLst z k)).2.1))))]) hD hS hA [2, 3, 4] rfl
        refine va_callv (va_runV (As := [.int (nI k), .int (z k)]) (rest := []) ⟨hx, hb, hml, hown, hts⟩ (ct_X2_append l dC dI cI cJ cZ H.size v0 v1 v2 ((rowL z M2 (fun _ => -1) (nLst z k)).1) ((rowL z M2 (fun _ => -1) (nLst z k)).2.1) ((rowL z M2 (fun _ => -1) (nLst z k)).2.2.1) ((rowL z M2 (fun _ => -1) (nLst z k)).2.2.2) (nI k) (z k) hl9 (inn (by omega) (by omega))) (cwV 2 hts gX3_writeByNumber_X2_append rfl rfl rfl (by decide +kernel) ⟨Nat.le_of_ble_eq_true rfl, Nat.le_of_ble_eq_true rfl⟩) (pre_V hK hPc hDc (ci := 2) rfl rfl) rfl rfl hl.1 rfl (lv_room (Nat.le_of_ble_eq_true rfl)) dX3_writeByNumber_37 ⟨Nat.zero_le _, Nat.zero_le _⟩) hS (fun q _ h => hFc q h) hFc (fun uu t H1 locs ht hvm hw hB hz1 hk1 hS => ?_)
        obtain ⟨hP1, hK1, hD1⟩ := hB
        rw [ht] at hP1
        try dsimp only at hw
        have hP1 : va_P (dC, dI) vwCl [(v0, .inr (2, [.ref v1, .ref v2, .int (nI (((rowL z M2 (fun _ => -1) (nLst z k)).2.2.1) + 1)), .long (((rowL z M2 (fun _ => -1) (nLst z k)).2.2.2) + (z k).toInt64)])), (v1, .inl (cI, 300, .inl (upd ((rowL z M2 (fun _ => -1) (nLst z k)).1) ((rowL z M2 (fun _ => -1) (nLst z k)).2.2.1) (nI k)))), (v2, .inl (cJ, 300, .inr (.inl (vp_updL ((rowL z M2 (fun _ => -1) (nLst z k)).2.1) ((nI k).toNatClampNeg) ((rowL z M2 (fun _ => -1) (nLst z k)).2.2.2)))))] H1 := hP1
        obtain ⟨hP, hD⟩ := va_join (wr := [(x0, .inr (3, [.ref z0, .ref h0, .ref g0, .ref w0, .ref v0, .int (nI n), .int P, .int st])), (z0, .inl (cI, 300, .inl z))]) (w1 := [(v0, .inr (2, [.ref v1, .ref v2, .int (nI (((rowL z M2 (fun _ => -1) (nLst z k)).2.2.1) + 1)), .long (((rowL z M2 (fun _ => -1) (nLst z k)).2.2.2) + (z k).toInt64)])), (v1, .inl (cI, 300, .inl (upd ((rowL z M2 (fun _ => -1) (nLst z k)).1) ((rowL z M2 (fun _ => -1) (nLst z k)).2.2.1) (nI k)))), (v2, .inl (cJ, 300, .inr (.inl (vp_updL ((rowL z M2 (fun _ => -1) (nLst z k)).2.1) ((nI k).toNatClampNeg) ((rowL z M2 (fun _ => -1) (nLst z k)).2.2.2)))))]) hP hD [2, 3, 4] [0, 1] rfl rfl (by decide) (by decide) hk1 hFc hP1 hD1
        have hP := hP.sub (ws' := [(x0, .inr (3, [.ref z0, .ref h0, .ref g0, .ref w0, .ref v0, .int (nI n), .int P, .int st])), (z0, .inl (cI, 300, .inl z)), (v0, .inr (2, [.ref v1, .ref v2, .int (nI (((rowL z M2 (fun _ => -1) (nLst z k)).2.2.1) + 1)), .long (((rowL z M2 (fun _ => -1) (nLst z k)).2.2.2) + (z k).toInt64)])), (v1, .inl (cI, 300, .inl (upd ((rowL z M2 (fun _ => -1) (nLst z k)).1) ((rowL z M2 (fun _ => -1) (nLst z k)).2.2.1) (nI k)))), (v2, .inl (cJ, 300, .inr (.inl (vp_updL ((rowL z M2 (fun _ => -1) (nLst z k)).2.1) ((nI k).toNatClampNeg) ((rowL z M2 (fun _ => -1) (nLst z k)).2.2.2)))))]) [0, 1, 2, 3, 4] rfl
        have hD := hD.sub (ws' := [(x0, .inr (3, [.ref z0, .ref h0, .ref g0, .ref w0, .ref v0, .int (nI n), .int P, .int st])), (z0, .inl (cI, 300, .inl z)), (v0, .inr (2, [.ref v1, .ref v2, .int (nI (((rowL z M2 (fun _ => -1) (nLst z k)).2.2.1) + 1)), .long (((rowL z M2 (fun _ => -1) (nLst z k)).2.2.2) + (z k).toInt64)])), (v1, .inl (cI, 300, .inl (upd ((rowL z M2 (fun _ => -1) (nLst z k)).1) ((rowL z M2 (fun _ => -1) (nLst z k)).2.2.1) (nI k)))), (v2, .inl (cJ, 300, .inr (.inl (vp_updL ((rowL z M2 (fun _ => -1) (nLst z k)).2.1) ((nI k).toNatClampNeg) ((rowL z M2 (fun _ => -1) (nLst z k)).2.2.2)))))]) [0, 1, 2, 3, 4] (by decide) rfl
        generalize H1 = H at hP hS ⊢
        rw [ix_n (by omega)] at hP hD
        refine lv_iinc (v := nI (k + 1)) (lv' := [(1, .int (nI (k + 1))), (0, .ref x0)]) hx hb dX3_writeByNumber_40 hl (k := 1) rfl (by exact nI_1 k) (by decide) rfl (fun ls hl => ?_)
        refine lv_goto (tgt := 9) hx hb dX3_writeByNumber_43 (by decide) ?_
        have hq : rowL z M2 (fun _ => -1) (nLst z (k + 1)) = rAdd z (rowL z M2 (fun _ => -1) (nLst z k)) k := by rw [nLst_s, if_pos (Int32.not_le.mp c_3)]; unfold rowL; rw [List.foldl_append]; rfl
        have hP : va_P (dC, dI) vwCl [(x0, .inr (3, [.ref z0, .ref h0, .ref g0, .ref w0, .ref v0, .int (nI n), .int P, .int st])), (z0, .inl (cI, 300, .inl z)), (v0, .inr (2, [.ref v1, .ref v2, .int (nI (rAdd z (rowL z M2 (fun _ => -1) (nLst z k)) k).2.2.1), .long ((rAdd z (rowL z M2 (fun _ => -1) (nLst z k)) k).2.2.2)])), (v1, .inl (cI, 300, .inl ((rAdd z (rowL z M2 (fun _ => -1) (nLst z k)) k).1))), (v2, .inl (cJ, 300, .inr (.inl ((rAdd z (rowL z M2 (fun _ => -1) (nLst z k)) k).2.1))))] H := hP
        have hD : va_D A [(x0, .inr (3, [.ref z0, .ref h0, .ref g0, .ref w0, .ref v0, .int (nI n), .int P, .int st])), (z0, .inl (cI, 300, .inl z)), (v0, .inr (2, [.ref v1, .ref v2, .int (nI (rAdd z (rowL z M2 (fun _ => -1) (nLst z k)) k).2.2.1), .long ((rAdd z (rowL z M2 (fun _ => -1) (nLst z k)) k).2.2.2)])), (v1, .inl (cI, 300, .inl ((rAdd z (rowL z M2 (fun _ => -1) (nLst z k)) k).1))), (v2, .inl (cJ, 300, .inr (.inl ((rAdd z (rowL z M2 (fun _ => -1) (nLst z k)) k).2.1))))] := hD
        rw [← hq] at hP hD
        exact ih (k + 1) (by omega) H locs ls hP hD hS (lv_sub hl [1, 0] rfl)
set_option maxHeartbeats 4000000 in
set_option maxRecDepth 100000 in
theorem ct_X3_writeByNumber (l : Launch) (dC : Nat → ClassId) (dI : Nat → Nat → Nat) (cI cJ cZ : ClassId) (sz : Nat) (x0 : Nat) (z0 : Nat) (v0 : Nat) (v1 : Nat) (v2 : Nat) (h0 g0 w0 : Nat) (n : Nat) (P st : Int32) (z : Nat → Int32) (M2 : Nat → Int32) (B2 : Nat → Int64) (nu : Int32) (ne : Int64) (hn : n ≤ 300) : Met l yX3_writeByNumber wsX3_writeByNumber ({ frames := 2, cells := 0, slots := 0, locals := 46 }) (va_Pc [.ref x0] (fun U => U.heap.size = sz ∧ va_P (dC, dI) vwCl [(x0, .inr (3, [.ref z0, .ref h0, .ref g0, .ref w0, .ref v0, .int (nI n), .int P, .int st])), (z0, .inl (cI, 300, .inl z)), (v0, .inr (2, [.ref v1, .ref v2, .int nu, .long ne])), (v1, .inl (cI, 300, .inl M2)), (v2, .inl (cJ, 300, .inr (.inl B2)))] U.heap ∧ va_K (dC, dI) vwCl [(cI, .int), (cJ, .long), (cZ, .boolean)] U ∧ va_D (fun _ => True) [(x0, .inr (3, [.ref z0, .ref h0, .ref g0, .ref w0, .ref v0, .int (nI n), .int P, .int st])), (z0, .inl (cI, 300, .inl z)), (v0, .inr (2, [.ref v1, .ref v2, .int nu, .long ne])), (v1, .inl (cI, 300, .inl M2)), (v2, .inl (cJ, 300, .inr (.inl B2)))])) (va_Qv (fun (uu : Unit) => True) (fun (uu : Unit) (t : State) => va_P (dC, dI) vwCl [(x0, .inr (3, [.ref z0, .ref h0, .ref g0, .ref w0, .ref v0, .int (nI n), .int P, .int st])), (z0, .inl (cI, 300, .inl z)), (v0, .inr (2, [.ref v1, .ref v2, .int (nI (rowL z M2 (fun _ => -1) (nLst z n)).2.2.1), .long ((rowL z M2 (fun _ => -1) (nLst z n)).2.2.2)])), (v1, .inl (cI, 300, .inl ((rowL z M2 (fun _ => -1) (nLst z n)).1))), (v2, .inl (cJ, 300, .inr (.inl ((rowL z M2 (fun _ => -1) (nLst z n)).2.1))))] t.heap ∧ va_K (dC, dI) vwCl [(cI, .int), (cJ, .long), (cZ, .boolean)] t ∧ va_D (va_A [(x0, .inr (3, [.ref z0, .ref h0, .ref g0, .ref w0, .ref v0, .int (nI n), .int P, .int st])), (z0, .inl (cI, 300, .inl z)), (v0, .inr (2, [.ref v1, .ref v2, .int nu, .long ne])), (v1, .inl (cI, 300, .inl M2)), (v2, .inl (cJ, 300, .inr (.inl B2)))] sz) [(x0, .inr (3, [.ref z0, .ref h0, .ref g0, .ref w0, .ref v0, .int (nI n), .int P, .int st])), (z0, .inl (cI, 300, .inl z)), (v0, .inr (2, [.ref v1, .ref v2, .int (nI (rowL z M2 (fun _ => -1) (nLst z n)).2.2.1), .long ((rowL z M2 (fun _ => -1) (nLst z n)).2.2.2)])), (v1, .inl (cI, 300, .inl ((rowL z M2 (fun _ => -1) (nLst z n)).1))), (v2, .inl (cJ, 300, .inr (.inl ((rowL z M2 (fun _ => -1) (nLst z n)).2.1))))]) (va_A [(x0, .inr (3, [.ref z0, .ref h0, .ref g0, .ref w0, .ref v0, .int (nI n), .int P, .int st])), (z0, .inl (cI, 300, .inl z)), (v0, .inr (2, [.ref v1, .ref v2, .int nu, .long ne])), (v1, .inl (cI, 300, .inl M2)), (v2, .inl (cJ, 300, .inr (.inl B2)))] sz)) 0 0 (va_A [(x0, .inr (3, [.ref z0, .ref h0, .ref g0, .ref w0, .ref v0, .int (nI n), .int P, .int st])), (z0, .inl (cI, 300, .inl z)), (v0, .inr (2, [.ref v1, .ref v2, .int nu, .long ne])), (v1, .inl (cI, 300, .inl M2)), (v2, .inl (cJ, 300, .inr (.inl B2)))] sz) := by
  refine Met.ofW (cc := cX3_writeByNumber) (maxL := 2) (ret := none) (by decide) rfl ?_
  intro p ev s m args below meth c s₁ Bd hml hv
  obtain ⟨rfl, hsz, hP, hK, hD0⟩ := hv
  have hx := Bd.exec
  have hb := Bd.bytes
  have hr := Bd.returns
  have hts := atoms_spec (ws := wsX3_writeByNumber) Bd.pre
  have hown : s.vm.findClass RX3 = some m.cls := findClass_of_methodNamed Bd.named
  have hlocks := Bd.notSynchronized
  have hin3 : ∀ w ∈ wsX30, w ∈ wsX3_writeByNumber := by decide +kernel
  subst hsz
  have hD := hD0.self (sz := s.heap.size)
  generalize hAe : va_A [(x0, .inr (3, [.ref z0, .ref h0, .ref g0, .ref w0, .ref v0, .int (nI n), .int P, .int st])), (z0, .inl (cI, 300, .inl z)), (v0, .inr (2, [.ref v1, .ref v2, .int nu, .long ne])), (v1, .inl (cI, 300, .inl M2)), (v2, .inl (cJ, 300, .inr (.inl B2)))] s.heap.size = A at hD ⊢
  have hA : ∀ q : Nat, s.heap.size ≤ q → A q := fun q h => by rw [← hAe]; exact Or.inr h
  have hS : va_S A s.heap s.heap [] := va_S.rf
  have hl := lv_entry ([.ref x0]) (n := 2) (Nat.le_of_ble_eq_true rfl)
  rw [lg_entry_eq]
  generalize (lg_sl ([.ref x0]) ++ List.replicate (2 - (lg_sl ([.ref x0])).length) Slot.unset).toArray = ls at hl ⊢
  have hl : lv_has ls 2 [(0, .ref x0)] := hl
  generalize hHe : s.heap = H at hP ⊢
  have hS : va_S A s.heap H [] := hHe ▸ hS
  refine lv_aload_n hx hb dX3_writeByNumber_0 rfl (lv_at hl 0 rfl) ?_
  refine va_get (D := (dC, dI)) (ci := 3) (v := .ref v0) (C := RX3) (T := TX3) (N := 8) hx hb hts hin3 hown hK hP 0 rfl rfl 4 (by decide) (hts (.fieldLink RX3 34 "CallClusters" "numbered" "LCallClusters$Row;") (by decide +kernel)) (fun _ h9 => h9) rfl dX3_writeByNumber_1 ?_
  have hPc := hP.sub (ws' := [(v0, .inr (2, [.ref v1, .ref v2, .int nu, .long ne])), (v1, .inl (cI, 300, .inl M2)), (v2, .inl (cJ, 300, .inr (.inl B2)))]) [2, 3, 4] rfl
  have hDc := hD.sub (ws' := [(v0, .inr (2, [.ref v1, .ref v2, .int nu, .long ne])), (v1, .inl (cI, 300, .inl M2)), (v2, .inl (cJ, 300, .inr (.inl B2)))]) [2, 3, 4] (by decide) rfl
  have hFc := va_free (wc := [(v0, .inr (2, [.ref v1, .ref v2, .int nu, .long ne])), (v1, .inl (cI, 300, .inl M2)), (v2, .inl (cJ, 300, .inr (.inl B2)))]) hD hS hA [2, 3, 4] rfl
  refine va_callv (va_runV (As := []) (rest := []) ⟨hx, hb, hml, hown, hts⟩ (ct_X2_empty l dC dI cI cJ cZ H.size v0 v1 v2 M2 B2 nu ne ) (cwV 0 hts gX3_writeByNumber_X2_empty rfl rfl rfl (by decide +kernel) ⟨Nat.le_of_ble_eq_true rfl, Nat.le_of_ble_eq_true rfl⟩) (pre_V hK hPc hDc (ci := 2) rfl rfl) rfl rfl hl.1 rfl (lv_room (Nat.le_of_ble_eq_true rfl)) dX3_writeByNumber_4 ⟨Nat.zero_le _, Nat.zero_le _⟩) hS (fun q _ h => hFc q h) hFc (fun uu t H1 locs ht hvm hw hB hz1 hk1 hS => ?_)
  obtain ⟨hP1, hK1, hD1⟩ := hB
  rw [ht] at hP1
  try dsimp only at hw
  have hP1 : va_P (dC, dI) vwCl [(v0, .inr (2, [.ref v1, .ref v2, .int 0, .long 0])), (v1, .inl (cI, 300, .inl M2)), (v2, .inl (cJ, 300, .inr (.inl (mix 300 (fun _ => -1) B2))))] H1 := hP1
  obtain ⟨hP, hD⟩ := va_join (wr := [(x0, .inr (3, [.ref z0, .ref h0, .ref g0, .ref w0, .ref v0, .int (nI n), .int P, .int st])), (z0, .inl (cI, 300, .inl z))]) (w1 := [(v0, .inr (2, [.ref v1, .ref v2, .int 0, .long 0])), (v1, .inl (cI, 300, .inl M2)), (v2, .inl (cJ, 300, .inr (.inl (mix 300 (fun _ => -1) B2))))]) hP hD [2, 3, 4] [0, 1] rfl rfl (by decide) (by decide) hk1 hFc hP1 hD1
  have hP := hP.sub (ws' := [(x0, .inr (3, [.ref z0, .ref h0, .ref g0, .ref w0, .ref v0, .int (nI n), .int P, .int st])), (z0, .inl (cI, 300, .inl z)), (v0, .inr (2, [.ref v1, .ref v2, .int 0, .long 0])), (v1, .inl (cI, 300, .inl M2)), (v2, .inl (cJ, 300, .inr (.inl (mix 300 (fun _ => -1) B2))))]) [0, 1, 2, 3, 4] rfl
  have hD := hD.sub (ws' := [(x0, .inr (3, [.ref z0, .ref h0, .ref g0, .ref w0, .ref v0, .int (nI n), .int P, .int st])), (z0, .inl (cI, 300, .inl z)), (v0, .inr (2, [.ref v1, .ref v2, .int 0, .long 0])), (v1, .inl (cI, 300, .inl M2)), (v2, .inl (cJ, 300, .inr (.inl (mix 300 (fun _ => -1) B2))))]) [0, 1, 2, 3, 4] (by decide) rfl
  generalize H1 = H at hP hS ⊢
  refine lv_iconst (v := 0) hx hb dX3_writeByNumber_7 (by decide) ?_
  refine tp_i (y := nI 0) (nI_0.symm) ?_
  refine lv_istore_n (lv' := [(1, .int (nI 0)), (0, .ref x0)]) hx hb dX3_writeByNumber_8 rfl hl (by decide) rfl (fun ls hl => ?_)
  have hP := hP.el 4 (fun _ => -1) rfl (fun j hj => mix_lt _ _ hj)
  have hD := hD.set (p := 4) (e := .inl (cJ, 300, .inr (.inl (fun _ => -1)))) rfl
  have hP : va_P (dC, dI) vwCl [(x0, .inr (3, [.ref z0, .ref h0, .ref g0, .ref w0, .ref v0, .int (nI n), .int P, .int st])), (z0, .inl (cI, 300, .inl z)), (v0, .inr (2, [.ref v1, .ref v2, .int (nI (rowL z M2 (fun _ => -1) (nLst z 0)).2.2.1), .long ((rowL z M2 (fun _ => -1) (nLst z 0)).2.2.2)])), (v1, .inl (cI, 300, .inl ((rowL z M2 (fun _ => -1) (nLst z 0)).1))), (v2, .inl (cJ, 300, .inr (.inl ((rowL z M2 (fun _ => -1) (nLst z 0)).2.1))))] H := hP
  have hD : va_D A [(x0, .inr (3, [.ref z0, .ref h0, .ref g0, .ref w0, .ref v0, .int (nI n), .int P, .int st])), (z0, .inl (cI, 300, .inl z)), (v0, .inr (2, [.ref v1, .ref v2, .int (nI (rowL z M2 (fun _ => -1) (nLst z 0)).2.2.1), .long ((rowL z M2 (fun _ => -1) (nLst z 0)).2.2.2)])), (v1, .inl (cI, 300, .inl ((rowL z M2 (fun _ => -1) (nLst z 0)).1))), (v2, .inl (cJ, 300, .inr (.inl ((rowL z M2 (fun _ => -1) (nLst z 0)).2.1))))] := hD
  refine lpX3_writeByNumber (n := n) (z := z) (M2 := M2) hx hb hml hts hown hK hA hn (fun  H locs ls hP hD hS hl => ?_) (n) 0 (by omega) H _ ls hP hD hS (lv_sub hl [1, 0] rfl)
  · -- kn
    have hP9 : va_P (dC, dI) vwCl [(x0, .inr (3, [.ref z0, .ref h0, .ref g0, .ref w0, .ref v0, .int (nI n), .int P, .int st])), (z0, .inl (cI, 300, .inl z)), (v0, .inr (2, [.ref v1, .ref v2, .int (nI (rowL z M2 (fun _ => -1) (nLst z n)).2.2.1), .long ((rowL z M2 (fun _ => -1) (nLst z n)).2.2.2)])), (v1, .inl (cI, 300, .inl ((rowL z M2 (fun _ => -1) (nLst z n)).1))), (v2, .inl (cJ, 300, .inr (.inl ((rowL z M2 (fun _ => -1) (nLst z n)).2.1))))] H := hP
    have hD9 : va_D A [(x0, .inr (3, [.ref z0, .ref h0, .ref g0, .ref w0, .ref v0, .int (nI n), .int P, .int st])), (z0, .inl (cI, 300, .inl z)), (v0, .inr (2, [.ref v1, .ref v2, .int (nI (rowL z M2 (fun _ => -1) (nLst z n)).2.2.1), .long ((rowL z M2 (fun _ => -1) (nLst z n)).2.2.2)])), (v1, .inl (cI, 300, .inl ((rowL z M2 (fun _ => -1) (nLst z n)).1))), (v2, .inl (cJ, 300, .inr (.inl ((rowL z M2 (fun _ => -1) (nLst z n)).2.1))))] := hD
    exact W.vret hx hb hr (fun t ht hW => ⟨⟨(), rfl, trivial, by rw [ht]; exact hP9, va_K.moved hW.alike hK, hD9⟩, hS.F ht⟩) hS.2.2 dX3_writeByNumber_46
