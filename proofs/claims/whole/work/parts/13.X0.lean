/-- the place of a pair among n from k on, or k + n -/
def pfind (F T : Nat → Int32) (f g : Int32) : Nat → Nat → Nat
  | 0, k => k
  | n + 1, k => if F k = f ∧ T k = g then k else pfind F T f g n (k + 1)
/-- a count that is raised -/
def capadd (x : Int64) (y : Int32) : Int64 := if (1000000000000 : Int64) < x + y.toInt64 then 1000000000000 else x + y.toInt64
/-- the caller by the strongest pair -/
def cof (S F : Nat → Int32) (k : Nat) : Int32 := if S k = -1 then -1 else F ((S k).toNatClampNeg)
def strgI (C : Nat → Int64) (F : Nat → Int32) (i : Nat) (t : Int32) : Int32 := if t = -1 then 1 else if C (t.toNatClampNeg) < C i then 1 else if C i = C (t.toNatClampNeg) then (if F i < F (t.toNatClampNeg) then 1 else 0) else 0
def fcStep (F T : Nat → Int32) (C : Nat → Int64) (z : Nat → Int32) (i : Nat) (S : Nat → Int32) : Nat → Int32 := if F i = T i then S else if z ((F i).toNatClampNeg) ≤ 0 then S else if strgI C F i (S ((T i).toNatClampNeg)) = 0 then S else upd S ((T i).toNatClampNeg) (nI i)
def fcN (F T : Nat → Int32) (C : Nat → Int64) (z : Nat → Int32) : Nat → (Nat → Int32)
  | 0 => fun _ => -1
  | k + 1 => fcStep F T C z k (fcN F T C z k)
def costT (C : Int64) (a b : Int64) (x : Int64) : Int64 := if a = -1 then x else if b = -1 then x else x + C * (if 0 < a - b then a - b else -(a - b))
def costN (F T : Nat → Int32) (C B : Nat → Int64) : Nat → Int64
  | 0 => 0
  | k + 1 => costT (C k) (B ((F k).toNatClampNeg)) (B ((T k).toNatClampNeg)) (costN F T C B k)
theorem fcN_in (F T : Nat → Int32) (C : Nat → Int64) (z : Nat → Int32) : ∀ (k j : Nat), fcN F T C z k j = -1 ∨ ∃ i, i < k ∧ fcN F T C z k j = nI i := by
  intro k
  induction k with
  | zero => intro j; exact Or.inl rfl
  | succ k ih =>
    intro j
    have h0 : fcN F T C z k j = -1 ∨ ∃ i, i < k + 1 ∧ fcN F T C z k j = nI i := by
      rcases ih j with h | ⟨i, h1, h2⟩
      · exact Or.inl h
      · exact Or.inr ⟨i, by omega, h2⟩
    show fcStep F T C z k (fcN F T C z k) j = -1 ∨ ∃ i, i < k + 1 ∧ fcStep F T C z k (fcN F T C z k) j = nI i
    unfold fcStep
    split
    · exact h0
    · split
      · exact h0
      · split
        · exact h0
        · unfold upd
          split
          · exact Or.inr ⟨k, by omega, rfl⟩
          · exact h0
theorem fcN_vin {F T : Nat → Int32} {C : Nat → Int64} {z : Nat → Int32} {k : Nat} (j : Nat) (hk : k ≤ 2000) : fcN F T C z k j = -1 ∨ vp_in (fcN F T C z k j) 2000 := by
  rcases fcN_in F T C z k j with h | ⟨i, h1, h2⟩
  · exact Or.inl h
  · exact Or.inr (by rw [h2]; exact inn (by omega) (by omega))
set_option maxHeartbeats 4000000 in
set_option maxRecDepth 100000 in
theorem ct_X0_heatOf (l : Launch) (dC : Nat → ClassId) (dI : Nat → Nat → Nat) (cI cJ cZ : ClassId) (sz : Nat) (h0 : Nat) (h1 : Nat) (h2 : Nat) (h3 : Nat) (h4 : Nat) (h5 : Nat) (F T : Nat → Int32) (C Hh : Nat → Int64) (S : Nat → Int32) (u : Nat) (k : Int32) (hk : vp_in k 300) : Met l yX0_heatOf wsX0_heatOf ({ frames := 0, cells := 0, slots := 0, locals := 0 }) (va_Pc [.ref h0, .int k] (fun U => U.heap.size = sz ∧ va_P (dC, dI) vwCl [(h0, .inr (0, [.ref h1, .ref h2, .ref h3, .ref h4, .ref h5, .int (nI u)])), (h1, .inl (cI, 2000, .inl F)), (h2, .inl (cI, 2000, .inl T)), (h3, .inl (cJ, 2000, .inr (.inl C))), (h4, .inl (cJ, 300, .inr (.inl Hh))), (h5, .inl (cI, 300, .inl S))] U.heap ∧ va_K (dC, dI) vwCl [(cI, .int), (cJ, .long), (cZ, .boolean)] U ∧ va_D (fun _ => True) [(h0, .inr (0, [.ref h1, .ref h2, .ref h3, .ref h4, .ref h5, .int (nI u)])), (h1, .inl (cI, 2000, .inl F)), (h2, .inl (cI, 2000, .inl T)), (h3, .inl (cJ, 2000, .inr (.inl C))), (h4, .inl (cJ, 300, .inr (.inl Hh))), (h5, .inl (cI, 300, .inl S))])) (va_Ql (fun (r : Int64) (uu : Unit) => r = Hh (k.toNatClampNeg)) (fun (uu : Unit) (t : State) => va_P (dC, dI) vwCl [(h0, .inr (0, [.ref h1, .ref h2, .ref h3, .ref h4, .ref h5, .int (nI u)])), (h1, .inl (cI, 2000, .inl F)), (h2, .inl (cI, 2000, .inl T)), (h3, .inl (cJ, 2000, .inr (.inl C))), (h4, .inl (cJ, 300, .inr (.inl Hh))), (h5, .inl (cI, 300, .inl S))] t.heap ∧ va_K (dC, dI) vwCl [(cI, .int), (cJ, .long), (cZ, .boolean)] t ∧ va_D (va_A [(h0, .inr (0, [.ref h1, .ref h2, .ref h3, .ref h4, .ref h5, .int (nI u)])), (h1, .inl (cI, 2000, .inl F)), (h2, .inl (cI, 2000, .inl T)), (h3, .inl (cJ, 2000, .inr (.inl C))), (h4, .inl (cJ, 300, .inr (.inl Hh))), (h5, .inl (cI, 300, .inl S))] sz) [(h0, .inr (0, [.ref h1, .ref h2, .ref h3, .ref h4, .ref h5, .int (nI u)])), (h1, .inl (cI, 2000, .inl F)), (h2, .inl (cI, 2000, .inl T)), (h3, .inl (cJ, 2000, .inr (.inl C))), (h4, .inl (cJ, 300, .inr (.inl Hh))), (h5, .inl (cI, 300, .inl S))]) (va_A [(h0, .inr (0, [.ref h1, .ref h2, .ref h3, .ref h4, .ref h5, .int (nI u)])), (h1, .inl (cI, 2000, .inl F)), (h2, .inl (cI, 2000, .inl T)), (h3, .inl (cJ, 2000, .inr (.inl C))), (h4, .inl (cJ, 300, .inr (.inl Hh))), (h5, .inl (cI, 300, .inl S))] sz)) 0 0 (va_A [(h0, .inr (0, [.ref h1, .ref h2, .ref h3, .ref h4, .ref h5, .int (nI u)])), (h1, .inl (cI, 2000, .inl F)), (h2, .inl (cI, 2000, .inl T)), (h3, .inl (cJ, 2000, .inr (.inl C))), (h4, .inl (cJ, 300, .inr (.inl Hh))), (h5, .inl (cI, 300, .inl S))] sz) := by
  refine Met.ofW (cc := cX0_heatOf) (maxL := 2) (ret := (some .long)) (by decide) rfl ?_
  intro p ev s m args below meth c s₁ Bd hml hv
  obtain ⟨rfl, hsz, hP, hK, hD0⟩ := hv
  have hx := Bd.exec
  have hb := Bd.bytes
  have hr := Bd.returns
  have hts := atoms_spec (ws := wsX0_heatOf) Bd.pre
  have hown : s.vm.findClass RX0 = some m.cls := findClass_of_methodNamed Bd.named
  have hlocks := Bd.notSynchronized
  have hin0 : ∀ w ∈ wsX00, w ∈ wsX0_heatOf := by decide +kernel
  subst hsz
  have hD := hD0.self (sz := s.heap.size)
  generalize hAe : va_A [(h0, .inr (0, [.ref h1, .ref h2, .ref h3, .ref h4, .ref h5, .int (nI u)])), (h1, .inl (cI, 2000, .inl F)), (h2, .inl (cI, 2000, .inl T)), (h3, .inl (cJ, 2000, .inr (.inl C))), (h4, .inl (cJ, 300, .inr (.inl Hh))), (h5, .inl (cI, 300, .inl S))] s.heap.size = A at hD ⊢
  have hA : ∀ q : Nat, s.heap.size ≤ q → A q := fun q h => by rw [← hAe]; exact Or.inr h
  have hS : va_S A s.heap s.heap [] := va_S.rf
  have hl := lv_entry ([.ref h0, .int k]) (n := 2) (Nat.le_of_ble_eq_true rfl)
  rw [lg_entry_eq]
  generalize (lg_sl ([.ref h0, .int k]) ++ List.replicate (2 - (lg_sl ([.ref h0, .int k])).length) Slot.unset).toArray = ls at hl ⊢
  have hl : lv_has ls 2 [(0, .ref h0), (1, .int k)] := hl
  generalize hHe : s.heap = H at hP ⊢
  have hS : va_S A s.heap H [] := hHe ▸ hS
  refine lv_aload_n hx hb dX0_heatOf_0 rfl (lv_at hl 0 rfl) ?_
  refine va_get (D := (dC, dI)) (ci := 0) (v := .ref h4) (C := RX0) (T := TX0) (N := 6) hx hb hts hin0 hown hK hP 0 rfl rfl 3 (by decide) (hts (.fieldLink RX0 22 "CallClusters$CallTable" "heats" "[J") (by decide +kernel)) (fun _ h9 => h9) rfl dX0_heatOf_1 ?_
  refine lv_iload_n hx hb dX0_heatOf_4 rfl (lv_at hl 1 rfl) ?_
  refine va_lald hx hb hK hP 4 1 rfl rfl (hk) dX0_heatOf_5 ?_
  have hP9 : va_P (dC, dI) vwCl [(h0, .inr (0, [.ref h1, .ref h2, .ref h3, .ref h4, .ref h5, .int (nI u)])), (h1, .inl (cI, 2000, .inl F)), (h2, .inl (cI, 2000, .inl T)), (h3, .inl (cJ, 2000, .inr (.inl C))), (h4, .inl (cJ, 300, .inr (.inl Hh))), (h5, .inl (cI, 300, .inl S))] H := hP
  have hD9 : va_D A [(h0, .inr (0, [.ref h1, .ref h2, .ref h3, .ref h4, .ref h5, .int (nI u)])), (h1, .inl (cI, 2000, .inl F)), (h2, .inl (cI, 2000, .inl T)), (h3, .inl (cJ, 2000, .inr (.inl C))), (h4, .inl (cJ, 300, .inr (.inl Hh))), (h5, .inl (cI, 300, .inl S))] := hD
  exact W.lret (v := Hh (k.toNatClampNeg)) hx hb hr (fun t ht hW => ⟨⟨Hh (k.toNatClampNeg), (), rfl, rfl, by rw [ht]; exact hP9, va_K.moved hW.alike hK, hD9⟩, hS.F ht⟩) hS.2.2 dX0_heatOf_6
set_option maxHeartbeats 4000000 in
set_option maxRecDepth 100000 in
theorem ct_X0_callerOf (l : Launch) (dC : Nat → ClassId) (dI : Nat → Nat → Nat) (cI cJ cZ : ClassId) (sz : Nat) (h0 : Nat) (h1 : Nat) (h2 : Nat) (h3 : Nat) (h4 : Nat) (h5 : Nat) (F T : Nat → Int32) (C Hh : Nat → Int64) (S : Nat → Int32) (u : Nat) (k : Int32) (hk : vp_in k 300) (hs : S (k.toNatClampNeg) = -1 ∨ vp_in (S (k.toNatClampNeg)) 2000) : Met l yX0_callerOf wsX0_callerOf ({ frames := 0, cells := 0, slots := 0, locals := 0 }) (va_Pc [.ref h0, .int k] (fun U => U.heap.size = sz ∧ va_P (dC, dI) vwCl [(h0, .inr (0, [.ref h1, .ref h2, .ref h3, .ref h4, .ref h5, .int (nI u)])), (h1, .inl (cI, 2000, .inl F)), (h2, .inl (cI, 2000, .inl T)), (h3, .inl (cJ, 2000, .inr (.inl C))), (h4, .inl (cJ, 300, .inr (.inl Hh))), (h5, .inl (cI, 300, .inl S))] U.heap ∧ va_K (dC, dI) vwCl [(cI, .int), (cJ, .long), (cZ, .boolean)] U ∧ va_D (fun _ => True) [(h0, .inr (0, [.ref h1, .ref h2, .ref h3, .ref h4, .ref h5, .int (nI u)])), (h1, .inl (cI, 2000, .inl F)), (h2, .inl (cI, 2000, .inl T)), (h3, .inl (cJ, 2000, .inr (.inl C))), (h4, .inl (cJ, 300, .inr (.inl Hh))), (h5, .inl (cI, 300, .inl S))])) (va_Qi (fun (r : Int32) (uu : Unit) => r = cof S F (k.toNatClampNeg)) (fun (uu : Unit) (t : State) => va_P (dC, dI) vwCl [(h0, .inr (0, [.ref h1, .ref h2, .ref h3, .ref h4, .ref h5, .int (nI u)])), (h1, .inl (cI, 2000, .inl F)), (h2, .inl (cI, 2000, .inl T)), (h3, .inl (cJ, 2000, .inr (.inl C))), (h4, .inl (cJ, 300, .inr (.inl Hh))), (h5, .inl (cI, 300, .inl S))] t.heap ∧ va_K (dC, dI) vwCl [(cI, .int), (cJ, .long), (cZ, .boolean)] t ∧ va_D (va_A [(h0, .inr (0, [.ref h1, .ref h2, .ref h3, .ref h4, .ref h5, .int (nI u)])), (h1, .inl (cI, 2000, .inl F)), (h2, .inl (cI, 2000, .inl T)), (h3, .inl (cJ, 2000, .inr (.inl C))), (h4, .inl (cJ, 300, .inr (.inl Hh))), (h5, .inl (cI, 300, .inl S))] sz) [(h0, .inr (0, [.ref h1, .ref h2, .ref h3, .ref h4, .ref h5, .int (nI u)])), (h1, .inl (cI, 2000, .inl F)), (h2, .inl (cI, 2000, .inl T)), (h3, .inl (cJ, 2000, .inr (.inl C))), (h4, .inl (cJ, 300, .inr (.inl Hh))), (h5, .inl (cI, 300, .inl S))]) (va_A [(h0, .inr (0, [.ref h1, .ref h2, .ref h3, .ref h4, .ref h5, .int (nI u)])), (h1, .inl (cI, 2000, .inl F)), (h2, .inl (cI, 2000, .inl T)), (h3, .inl (cJ, 2000, .inr (.inl C))), (h4, .inl (cJ, 300, .inr (.inl Hh))), (h5, .inl (cI, 300, .inl S))] sz)) 0 0 (va_A [(h0, .inr (0, [.ref h1, .ref h2, .ref h3, .ref h4, .ref h5, .int (nI u)])), (h1, .inl (cI, 2000, .inl F)), (h2, .inl (cI, 2000, .inl T)), (h3, .inl (cJ, 2000, .inr (.inl C))), (h4, .inl (cJ, 300, .inr (.inl Hh))), (h5, .inl (cI, 300, .inl S))] sz) := by
  refine Met.ofW (cc := cX0_callerOf) (maxL := 2) (ret := (some .int)) (by decide) rfl ?_
  intro p ev s m args below meth c s₁ Bd hml hv
  obtain ⟨rfl, hsz, hP, hK, hD0⟩ := hv
  have hx := Bd.exec
  have hb := Bd.bytes
  have hr := Bd.returns
  have hts := atoms_spec (ws := wsX0_callerOf) Bd.pre
  have hown : s.vm.findClass RX0 = some m.cls := findClass_of_methodNamed Bd.named
  have hlocks := Bd.notSynchronized
  have hin0 : ∀ w ∈ wsX00, w ∈ wsX0_callerOf := by decide +kernel
  subst hsz
  have hD := hD0.self (sz := s.heap.size)
  generalize hAe : va_A [(h0, .inr (0, [.ref h1, .ref h2, .ref h3, .ref h4, .ref h5, .int (nI u)])), (h1, .inl (cI, 2000, .inl F)), (h2, .inl (cI, 2000, .inl T)), (h3, .inl (cJ, 2000, .inr (.inl C))), (h4, .inl (cJ, 300, .inr (.inl Hh))), (h5, .inl (cI, 300, .inl S))] s.heap.size = A at hD ⊢
  have hA : ∀ q : Nat, s.heap.size ≤ q → A q := fun q h => by rw [← hAe]; exact Or.inr h
  have hS : va_S A s.heap s.heap [] := va_S.rf
  have hl := lv_entry ([.ref h0, .int k]) (n := 2) (Nat.le_of_ble_eq_true rfl)
  rw [lg_entry_eq]
  generalize (lg_sl ([.ref h0, .int k]) ++ List.replicate (2 - (lg_sl ([.ref h0, .int k])).length) Slot.unset).toArray = ls at hl ⊢
  have hl : lv_has ls 2 [(0, .ref h0), (1, .int k)] := hl
  generalize hHe : s.heap = H at hP ⊢
  have hS : va_S A s.heap H [] := hHe ▸ hS
  refine lv_aload_n hx hb dX0_callerOf_0 rfl (lv_at hl 0 rfl) ?_
  refine va_get (D := (dC, dI)) (ci := 0) (v := .ref h5) (C := RX0) (T := TX0) (N := 6) hx hb hts hin0 hown hK hP 0 rfl rfl 4 (by decide) (hts (.fieldLink RX0 25 "CallClusters$CallTable" "strongest" "[I") (by decide +kernel)) (fun _ h9 => h9) rfl dX0_callerOf_1 ?_
  refine lv_iload_n hx hb dX0_callerOf_4 rfl (lv_at hl 1 rfl) ?_
  refine va_iald hx hb hK hP 5 0 rfl rfl (hk) dX0_callerOf_5 ?_
  refine lv_iconst (v := (-1)) hx hb dX0_callerOf_6 (by decide) ?_
  refine lv_icmp_ne (tgt := 14) hx hb dX0_callerOf_7 (by decide) (fun c_1 => ?_) (fun c_1 => ?_)
  · -- pc 7, side 0
    refine lv_aload_n hx hb dX0_callerOf_14 rfl (lv_at hl 0 rfl) ?_
    refine va_get (D := (dC, dI)) (ci := 0) (v := .ref h1) (C := RX0) (T := TX0) (N := 6) hx hb hts hin0 hown hK hP 0 rfl rfl 0 (by decide) (hts (.fieldLink RX0 9 "CallClusters$CallTable" "from" "[I") (by decide +kernel)) (fun _ h9 => h9) rfl dX0_callerOf_15 ?_
    refine lv_aload_n hx hb dX0_callerOf_18 rfl (lv_at hl 0 rfl) ?_
    refine va_get (D := (dC, dI)) (ci := 0) (v := .ref h5) (C := RX0) (T := TX0) (N := 6) hx hb hts hin0 hown hK hP 0 rfl rfl 4 (by decide) (hts (.fieldLink RX0 25 "CallClusters$CallTable" "strongest" "[I") (by decide +kernel)) (fun _ h9 => h9) rfl dX0_callerOf_19 ?_
    refine lv_iload_n hx hb dX0_callerOf_22 rfl (lv_at hl 1 rfl) ?_
    refine va_iald hx hb hK hP 5 0 rfl rfl (hk) dX0_callerOf_23 ?_
    refine va_iald hx hb hK hP 1 0 rfl rfl (hs.resolve_left c_1) dX0_callerOf_24 ?_
    have hP9 : va_P (dC, dI) vwCl [(h0, .inr (0, [.ref h1, .ref h2, .ref h3, .ref h4, .ref h5, .int (nI u)])), (h1, .inl (cI, 2000, .inl F)), (h2, .inl (cI, 2000, .inl T)), (h3, .inl (cJ, 2000, .inr (.inl C))), (h4, .inl (cJ, 300, .inr (.inl Hh))), (h5, .inl (cI, 300, .inl S))] H := hP
    have hD9 : va_D A [(h0, .inr (0, [.ref h1, .ref h2, .ref h3, .ref h4, .ref h5, .int (nI u)])), (h1, .inl (cI, 2000, .inl F)), (h2, .inl (cI, 2000, .inl T)), (h3, .inl (cJ, 2000, .inr (.inl C))), (h4, .inl (cJ, 300, .inr (.inl Hh))), (h5, .inl (cI, 300, .inl S))] := hD
    exact W.iret (v := F ((S (k.toNatClampNeg)).toNatClampNeg)) hx hb hr (fun t ht hW => ⟨⟨F ((S (k.toNatClampNeg)).toNatClampNeg), (), rfl, by simp [cof, c_1], by rw [ht]; exact hP9, va_K.moved hW.alike hK, hD9⟩, hS.F ht⟩) hS.2.2 dX0_callerOf_25
  · -- pc 7, side 1
    refine lv_iconst (v := (-1)) hx hb dX0_callerOf_10 (by decide) ?_
    refine lv_goto (tgt := 25) hx hb dX0_callerOf_11 (by decide) ?_
    have hP9 : va_P (dC, dI) vwCl [(h0, .inr (0, [.ref h1, .ref h2, .ref h3, .ref h4, .ref h5, .int (nI u)])), (h1, .inl (cI, 2000, .inl F)), (h2, .inl (cI, 2000, .inl T)), (h3, .inl (cJ, 2000, .inr (.inl C))), (h4, .inl (cJ, 300, .inr (.inl Hh))), (h5, .inl (cI, 300, .inl S))] H := hP
    have hD9 : va_D A [(h0, .inr (0, [.ref h1, .ref h2, .ref h3, .ref h4, .ref h5, .int (nI u)])), (h1, .inl (cI, 2000, .inl F)), (h2, .inl (cI, 2000, .inl T)), (h3, .inl (cJ, 2000, .inr (.inl C))), (h4, .inl (cJ, 300, .inr (.inl Hh))), (h5, .inl (cI, 300, .inl S))] := hD
    exact W.iret (v := (-1)) hx hb hr (fun t ht hW => ⟨⟨(-1), (), rfl, by simp [cof, c_1], by rw [ht]; exact hP9, va_K.moved hW.alike hK, hD9⟩, hS.F ht⟩) hS.2.2 dX0_callerOf_25
set_option maxHeartbeats 4000000 in
set_option maxRecDepth 100000 in
theorem ct_X0_isStronger (l : Launch) (dC : Nat → ClassId) (dI : Nat → Nat → Nat) (cI cJ cZ : ClassId) (sz : Nat) (h0 : Nat) (h1 : Nat) (h2 : Nat) (h3 : Nat) (h4 : Nat) (h5 : Nat) (F T : Nat → Int32) (C Hh : Nat → Int64) (S : Nat → Int32) (u : Nat) (i : Nat) (t0 : Int32) (hi : i < 2000) (ht0 : t0 = -1 ∨ vp_in t0 2000) : Met l yX0_isStronger wsX0_isStronger ({ frames := 0, cells := 0, slots := 0, locals := 0 }) (va_Pc [.ref h0, .int (nI i), .int t0] (fun U => U.heap.size = sz ∧ va_P (dC, dI) vwCl [(h0, .inr (0, [.ref h1, .ref h2, .ref h3, .ref h4, .ref h5, .int (nI u)])), (h1, .inl (cI, 2000, .inl F)), (h2, .inl (cI, 2000, .inl T)), (h3, .inl (cJ, 2000, .inr (.inl C))), (h4, .inl (cJ, 300, .inr (.inl Hh))), (h5, .inl (cI, 300, .inl S))] U.heap ∧ va_K (dC, dI) vwCl [(cI, .int), (cJ, .long), (cZ, .boolean)] U ∧ va_D (fun _ => True) [(h0, .inr (0, [.ref h1, .ref h2, .ref h3, .ref h4, .ref h5, .int (nI u)])), (h1, .inl (cI, 2000, .inl F)), (h2, .inl (cI, 2000, .inl T)), (h3, .inl (cJ, 2000, .inr (.inl C))), (h4, .inl (cJ, 300, .inr (.inl Hh))), (h5, .inl (cI, 300, .inl S))])) (va_Qi (fun (r : Int32) (uu : Unit) => r = strgI C F i t0) (fun (uu : Unit) (t : State) => va_P (dC, dI) vwCl [(h0, .inr (0, [.ref h1, .ref h2, .ref h3, .ref h4, .ref h5, .int (nI u)])), (h1, .inl (cI, 2000, .inl F)), (h2, .inl (cI, 2000, .inl T)), (h3, .inl (cJ, 2000, .inr (.inl C))), (h4, .inl (cJ, 300, .inr (.inl Hh))), (h5, .inl (cI, 300, .inl S))] t.heap ∧ va_K (dC, dI) vwCl [(cI, .int), (cJ, .long), (cZ, .boolean)] t ∧ va_D (va_A [(h0, .inr (0, [.ref h1, .ref h2, .ref h3, .ref h4, .ref h5, .int (nI u)])), (h1, .inl (cI, 2000, .inl F)), (h2, .inl (cI, 2000, .inl T)), (h3, .inl (cJ, 2000, .inr (.inl C))), (h4, .inl (cJ, 300, .inr (.inl Hh))), (h5, .inl (cI, 300, .inl S))] sz) [(h0, .inr (0, [.ref h1, .ref h2, .ref h3, .ref h4, .ref h5, .int (nI u)])), (h1, .inl (cI, 2000, .inl F)), (h2, .inl (cI, 2000, .inl T)), (h3, .inl (cJ, 2000, .inr (.inl C))), (h4, .inl (cJ, 300, .inr (.inl Hh))), (h5, .inl (cI, 300, .inl S))]) (va_A [(h0, .inr (0, [.ref h1, .ref h2, .ref h3, .ref h4, .ref h5, .int (nI u)])), (h1, .inl (cI, 2000, .inl F)), (h2, .inl (cI, 2000, .inl T)), (h3, .inl (cJ, 2000, .inr (.inl C))), (h4, .inl (cJ, 300, .inr (.inl Hh))), (h5, .inl (cI, 300, .inl S))] sz)) 0 0 (va_A [(h0, .inr (0, [.ref h1, .ref h2, .ref h3, .ref h4, .ref h5, .int (nI u)])), (h1, .inl (cI, 2000, .inl F)), (h2, .inl (cI, 2000, .inl T)), (h3, .inl (cJ, 2000, .inr (.inl C))), (h4, .inl (cJ, 300, .inr (.inl Hh))), (h5, .inl (cI, 300, .inl S))] sz) := by
  refine Met.ofW (cc := cX0_isStronger) (maxL := 3) (ret := (some .boolean)) (by decide) rfl ?_
  intro p ev s m args below meth c s₁ Bd hml hv
  obtain ⟨rfl, hsz, hP, hK, hD0⟩ := hv
  have hx := Bd.exec
  have hb := Bd.bytes
  have hr := Bd.returns
  have hts := atoms_spec (ws := wsX0_isStronger) Bd.pre
  have hown : s.vm.findClass RX0 = some m.cls := findClass_of_methodNamed Bd.named
  have hlocks := Bd.notSynchronized
  have hin0 : ∀ w ∈ wsX00, w ∈ wsX0_isStronger := by decide +kernel
  subst hsz
  have hD := hD0.self (sz := s.heap.size)
  generalize hAe : va_A [(h0, .inr (0, [.ref h1, .ref h2, .ref h3, .ref h4, .ref h5, .int (nI u)])), (h1, .inl (cI, 2000, .inl F)), (h2, .inl (cI, 2000, .inl T)), (h3, .inl (cJ, 2000, .inr (.inl C))), (h4, .inl (cJ, 300, .inr (.inl Hh))), (h5, .inl (cI, 300, .inl S))] s.heap.size = A at hD ⊢
  have hA : ∀ q : Nat, s.heap.size ≤ q → A q := fun q h => by rw [← hAe]; exact Or.inr h
  have hS : va_S A s.heap s.heap [] := va_S.rf
  have hl := lv_entry ([.ref h0, .int (nI i), .int t0]) (n := 3) (Nat.le_of_ble_eq_true rfl)
  rw [lg_entry_eq]
  generalize (lg_sl ([.ref h0, .int (nI i), .int t0]) ++ List.replicate (3 - (lg_sl ([.ref h0, .int (nI i), .int t0])).length) Slot.unset).toArray = ls at hl ⊢
  have hl : lv_has ls 3 [(0, .ref h0), (1, .int (nI i)), (2, .int t0)] := hl
  generalize hHe : s.heap = H at hP ⊢
  have hS : va_S A s.heap H [] := hHe ▸ hS
  refine lv_iload_n hx hb dX0_isStronger_0 rfl (lv_at hl 2 rfl) ?_
  refine lv_iconst (v := (-1)) hx hb dX0_isStronger_1 (by decide) ?_
  refine lv_icmp_eq (tgt := 21) hx hb dX0_isStronger_2 (by decide) (fun c_1 => ?_) (fun c_1 => ?_)
  · -- pc 2, side 0
    refine lv_iconst (v := 1) hx hb dX0_isStronger_21 (by decide) ?_
    have hP9 : va_P (dC, dI) vwCl [(h0, .inr (0, [.ref h1, .ref h2, .ref h3, .ref h4, .ref h5, .int (nI u)])), (h1, .inl (cI, 2000, .inl F)), (h2, .inl (cI, 2000, .inl T)), (h3, .inl (cJ, 2000, .inr (.inl C))), (h4, .inl (cJ, 300, .inr (.inl Hh))), (h5, .inl (cI, 300, .inl S))] H := hP
    have hD9 : va_D A [(h0, .inr (0, [.ref h1, .ref h2, .ref h3, .ref h4, .ref h5, .int (nI u)])), (h1, .inl (cI, 2000, .inl F)), (h2, .inl (cI, 2000, .inl T)), (h3, .inl (cJ, 2000, .inr (.inl C))), (h4, .inl (cJ, 300, .inr (.inl Hh))), (h5, .inl (cI, 300, .inl S))] := hD
    exact W.zret (v := 1) hx hb hr (by decide) (fun t ht hW => ⟨⟨1, (), rfl, by simp [strgI, c_1], by rw [ht]; exact hP9, va_K.moved hW.alike hK, hD9⟩, hS.F ht⟩) hS.2.2 dX0_isStronger_22
  · -- pc 2, side 1
    refine lv_aload_n hx hb dX0_isStronger_5 rfl (lv_at hl 0 rfl) ?_
    refine va_get (D := (dC, dI)) (ci := 0) (v := .ref h3) (C := RX0) (T := TX0) (N := 6) hx hb hts hin0 hown hK hP 0 rfl rfl 2 (by decide) (hts (.fieldLink RX0 18 "CallClusters$CallTable" "counts" "[J") (by decide +kernel)) (fun _ h9 => h9) rfl dX0_isStronger_6 ?_
    refine lv_iload_n hx hb dX0_isStronger_9 rfl (lv_at hl 1 rfl) ?_
    refine va_lald hx hb hK hP 3 1 rfl rfl (inn hi (by omega)) dX0_isStronger_10 ?_
    refine tp_l (y := C i) (by rw [ix_n (by omega)]) ?_
    refine lv_aload_n hx hb dX0_isStronger_11 rfl (lv_at hl 0 rfl) ?_
    refine va_get (D := (dC, dI)) (ci := 0) (v := .ref h3) (C := RX0) (T := TX0) (N := 6) hx hb hts hin0 hown hK hP 0 rfl rfl 2 (by decide) (hts (.fieldLink RX0 18 "CallClusters$CallTable" "counts" "[J") (by decide +kernel)) (fun _ h9 => h9) rfl dX0_isStronger_12 ?_
    refine lv_iload_n hx hb dX0_isStronger_15 rfl (lv_at hl 2 rfl) ?_
    refine va_lald hx hb hK hP 3 1 rfl rfl (ht0.resolve_left c_1) dX0_isStronger_16 ?_
    refine W.lcmp hx hb dX0_isStronger_17 ?_
    refine lv_if_le (tgt := 23) hx hb dX0_isStronger_18 (by decide) (fun c_2 => ?_) (fun c_2 => ?_)
    · -- pc 18, side 0
      rw [lg_cmp_le] at c_2
      refine lv_aload_n hx hb dX0_isStronger_23 rfl (lv_at hl 0 rfl) ?_
      refine va_get (D := (dC, dI)) (ci := 0) (v := .ref h3) (C := RX0) (T := TX0) (N := 6) hx hb hts hin0 hown hK hP 0 rfl rfl 2 (by decide) (hts (.fieldLink RX0 18 "CallClusters$CallTable" "counts" "[J") (by decide +kernel)) (fun _ h9 => h9) rfl dX0_isStronger_24 ?_
      refine lv_iload_n hx hb dX0_isStronger_27 rfl (lv_at hl 1 rfl) ?_
      refine va_lald hx hb hK hP 3 1 rfl rfl (inn hi (by omega)) dX0_isStronger_28 ?_
      refine tp_l (y := C i) (by rw [ix_n (by omega)]) ?_
      refine lv_aload_n hx hb dX0_isStronger_29 rfl (lv_at hl 0 rfl) ?_
      refine va_get (D := (dC, dI)) (ci := 0) (v := .ref h3) (C := RX0) (T := TX0) (N := 6) hx hb hts hin0 hown hK hP 0 rfl rfl 2 (by decide) (hts (.fieldLink RX0 18 "CallClusters$CallTable" "counts" "[J") (by decide +kernel)) (fun _ h9 => h9) rfl dX0_isStronger_30 ?_
      refine lv_iload_n hx hb dX0_isStronger_33 rfl (lv_at hl 2 rfl) ?_
      refine va_lald hx hb hK hP 3 1 rfl rfl (ht0.resolve_left c_1) dX0_isStronger_34 ?_
      refine W.lcmp hx hb dX0_isStronger_35 ?_
      refine lv_if_ne (tgt := 58) hx hb dX0_isStronger_36 (by decide) (fun c_3 => ?_) (fun c_3 => ?_)
      · -- pc 36, side 0
        rw [lg_cmp_eq] at c_3
        refine lv_iconst (v := 0) hx hb dX0_isStronger_58 (by decide) ?_
        have hP9 : va_P (dC, dI) vwCl [(h0, .inr (0, [.ref h1, .ref h2, .ref h3, .ref h4, .ref h5, .int (nI u)])), (h1, .inl (cI, 2000, .inl F)), (h2, .inl (cI, 2000, .inl T)), (h3, .inl (cJ, 2000, .inr (.inl C))), (h4, .inl (cJ, 300, .inr (.inl Hh))), (h5, .inl (cI, 300, .inl S))] H := hP
        have hD9 : va_D A [(h0, .inr (0, [.ref h1, .ref h2, .ref h3, .ref h4, .ref h5, .int (nI u)])), (h1, .inl (cI, 2000, .inl F)), (h2, .inl (cI, 2000, .inl T)), (h3, .inl (cJ, 2000, .inr (.inl C))), (h4, .inl (cJ, 300, .inr (.inl Hh))), (h5, .inl (cI, 300, .inl S))] := hD
        exact W.zret (v := 0) hx hb hr (by decide) (fun t ht hW => ⟨⟨0, (), rfl, by simp [strgI, c_1, c_2, c_3], by rw [ht]; exact hP9, va_K.moved hW.alike hK, hD9⟩, hS.F ht⟩) hS.2.2 dX0_isStronger_59
      · -- pc 36, side 1
        rw [lg_cmp_eq] at c_3
        refine lv_aload_n hx hb dX0_isStronger_39 rfl (lv_at hl 0 rfl) ?_
        refine va_get (D := (dC, dI)) (ci := 0) (v := .ref h1) (C := RX0) (T := TX0) (N := 6) hx hb hts hin0 hown hK hP 0 rfl rfl 0 (by decide) (hts (.fieldLink RX0 9 "CallClusters$CallTable" "from" "[I") (by decide +kernel)) (fun _ h9 => h9) rfl dX0_isStronger_40 ?_
        refine lv_iload_n hx hb dX0_isStronger_43 rfl (lv_at hl 1 rfl) ?_
        refine va_iald hx hb hK hP 1 0 rfl rfl (inn hi (by omega)) dX0_isStronger_44 ?_
        refine tp_i (y := F i) (by rw [ix_n (by omega)]) ?_
        refine lv_aload_n hx hb dX0_isStronger_45 rfl (lv_at hl 0 rfl) ?_
        refine va_get (D := (dC, dI)) (ci := 0) (v := .ref h1) (C := RX0) (T := TX0) (N := 6) hx hb hts hin0 hown hK hP 0 rfl rfl 0 (by decide) (hts (.fieldLink RX0 9 "CallClusters$CallTable" "from" "[I") (by decide +kernel)) (fun _ h9 => h9) rfl dX0_isStronger_46 ?_
        refine lv_iload_n hx hb dX0_isStronger_49 rfl (lv_at hl 2 rfl) ?_
        refine va_iald hx hb hK hP 1 0 rfl rfl (ht0.resolve_left c_1) dX0_isStronger_50 ?_
        refine lv_icmp_ge (tgt := 58) hx hb dX0_isStronger_51 (by decide) (fun c_4 => ?_) (fun c_4 => ?_)
        · -- pc 51, side 0
          refine lv_iconst (v := 0) hx hb dX0_isStronger_58 (by decide) ?_
          have hP9 : va_P (dC, dI) vwCl [(h0, .inr (0, [.ref h1, .ref h2, .ref h3, .ref h4, .ref h5, .int (nI u)])), (h1, .inl (cI, 2000, .inl F)), (h2, .inl (cI, 2000, .inl T)), (h3, .inl (cJ, 2000, .inr (.inl C))), (h4, .inl (cJ, 300, .inr (.inl Hh))), (h5, .inl (cI, 300, .inl S))] H := hP
          have hD9 : va_D A [(h0, .inr (0, [.ref h1, .ref h2, .ref h3, .ref h4, .ref h5, .int (nI u)])), (h1, .inl (cI, 2000, .inl F)), (h2, .inl (cI, 2000, .inl T)), (h3, .inl (cJ, 2000, .inr (.inl C))), (h4, .inl (cJ, 300, .inr (.inl Hh))), (h5, .inl (cI, 300, .inl S))] := hD
          exact W.zret (v := 0) hx hb hr (by decide) (fun t ht hW => ⟨⟨0, (), rfl, by simp [strgI, c_1, c_2, c_3, c_4], by rw [ht]; exact hP9, va_K.moved hW.alike hK, hD9⟩, hS.F ht⟩) hS.2.2 dX0_isStronger_59
        · -- pc 51, side 1
          refine lv_iconst (v := 1) hx hb dX0_isStronger_54 (by decide) ?_
          refine lv_goto (tgt := 59) hx hb dX0_isStronger_55 (by decide) ?_
          have hP9 : va_P (dC, dI) vwCl [(h0, .inr (0, [.ref h1, .ref h2, .ref h3, .ref h4, .ref h5, .int (nI u)])), (h1, .inl (cI, 2000, .inl F)), (h2, .inl (cI, 2000, .inl T)), (h3, .inl (cJ, 2000, .inr (.inl C))), (h4, .inl (cJ, 300, .inr (.inl Hh))), (h5, .inl (cI, 300, .inl S))] H := hP
          have hD9 : va_D A [(h0, .inr (0, [.ref h1, .ref h2, .ref h3, .ref h4, .ref h5, .int (nI u)])), (h1, .inl (cI, 2000, .inl F)), (h2, .inl (cI, 2000, .inl T)), (h3, .inl (cJ, 2000, .inr (.inl C))), (h4, .inl (cJ, 300, .inr (.inl Hh))), (h5, .inl (cI, 300, .inl S))] := hD
          exact W.zret (v := 1) hx hb hr (by decide) (fun t ht hW => ⟨⟨1, (), rfl, by simp [strgI, c_1, c_2, c_3, c_4], by rw [ht]; exact hP9, va_K.moved hW.alike hK, hD9⟩, hS.F ht⟩) hS.2.2 dX0_isStronger_59
    · -- pc 18, side 1
      rw [lg_cmp_le] at c_2
      refine lv_iconst (v := 1) hx hb dX0_isStronger_21 (by decide) ?_
      have hP9 : va_P (dC, dI) vwCl [(h0, .inr (0, [.ref h1, .ref h2, .ref h3, .ref h4, .ref h5, .int (nI u)])), (h1, .inl (cI, 2000, .inl F)), (h2, .inl (cI, 2000, .inl T)), (h3, .inl (cJ, 2000, .inr (.inl C))), (h4, .inl (cJ, 300, .inr (.inl Hh))), (h5, .inl (cI, 300, .inl S))] H := hP
      have hD9 : va_D A [(h0, .inr (0, [.ref h1, .ref h2, .ref h3, .ref h4, .ref h5, .int (nI u)])), (h1, .inl (cI, 2000, .inl F)), (h2, .inl (cI, 2000, .inl T)), (h3, .inl (cJ, 2000, .inr (.inl C))), (h4, .inl (cJ, 300, .inr (.inl Hh))), (h5, .inl (cI, 300, .inl S))] := hD
      exact W.zret (v := 1) hx hb hr (by decide) (fun t ht hW => ⟨⟨1, (), rfl, by simp [strgI, c_1, c_2], by rw [ht]; exact hP9, va_K.moved hW.alike hK, hD9⟩, hS.F ht⟩) hS.2.2 dX0_isStronger_22
set_option maxHeartbeats 4000000 in
set_option maxRecDepth 100000 in
theorem ct_X0_forgetAll (l : Launch) (dC : Nat → ClassId) (dI : Nat → Nat → Nat) (cI cJ cZ : ClassId) (sz : Nat) (h0 : Nat) (h1 : Nat) (h2 : Nat) (h3 : Nat) (h4 : Nat) (h5 : Nat) (F T : Nat → Int32) (C Hh : Nat → Int64) (S : Nat → Int32) (u : Nat)  : Met l yX0_forgetAll wsX0_forgetAll ({ frames := 1, cells := 0, slots := 0, locals := 24 }) (va_Pc [.ref h0] (fun U => U.heap.size = sz ∧ va_P (dC, dI) vwCl [(h0, .inr (0, [.ref h1, .ref h2, .ref h3, .ref h4, .ref h5, .int (nI u)])), (h1, .inl (cI, 2000, .inl F)), (h2, .inl (cI, 2000, .inl T)), (h3, .inl (cJ, 2000, .inr (.inl C))), (h4, .inl (cJ, 300, .inr (.inl Hh))), (h5, .inl (cI, 300, .inl S))] U.heap ∧ va_K (dC, dI) vwCl [(cI, .int), (cJ, .long), (cZ, .boolean)] U ∧ va_D (fun _ => True) [(h0, .inr (0, [.ref h1, .ref h2, .ref h3, .ref h4, .ref h5, .int (nI u)])), (h1, .inl (cI, 2000, .inl F)), (h2, .inl (cI, 2000, .inl T)), (h3, .inl (cJ, 2000, .inr (.inl C))), (h4, .inl (cJ, 300, .inr (.inl Hh))), (h5, .inl (cI, 300, .inl S))])) (va_Qv (fun (uu : Unit) => True) (fun (uu : Unit) (t : State) => va_P (dC, dI) vwCl [(h0, .inr (0, [.ref h1, .ref h2, .ref h3, .ref h4, .ref h5, .int 0])), (h1, .inl (cI, 2000, .inl F)), (h2, .inl (cI, 2000, .inl T)), (h3, .inl (cJ, 2000, .inr (.inl C))), (h4, .inl (cJ, 300, .inr (.inl (mix 300 (fun _ => 0) Hh)))), (h5, .inl (cI, 300, .inl S))] t.heap ∧ va_K (dC, dI) vwCl [(cI, .int), (cJ, .long), (cZ, .boolean)] t ∧ va_D (va_A [(h0, .inr (0, [.ref h1, .ref h2, .ref h3, .ref h4, .ref h5, .int (nI u)])), (h1, .inl (cI, 2000, .inl F)), (h2, .inl (cI, 2000, .inl T)), (h3, .inl (cJ, 2000, .inr (.inl C))), (h4, .inl (cJ, 300, .inr (.inl Hh))), (h5, .inl (cI, 300, .inl S))] sz) [(h0, .inr (0, [.ref h1, .ref h2, .ref h3, .ref h4, .ref h5, .int 0])), (h1, .inl (cI, 2000, .inl F)), (h2, .inl (cI, 2000, .inl T)), (h3, .inl (cJ, 2000, .inr (.inl C))), (h4, .inl (cJ, 300, .inr (.inl (mix 300 (fun _ => 0) Hh)))), (h5, .inl (cI, 300, .inl S))]) (va_A [(h0, .inr (0, [.ref h1, .ref h2, .ref h3, .ref h4, .ref h5, .int (nI u)])), (h1, .inl (cI, 2000, .inl F)), (h2, .inl (cI, 2000, .inl T)), (h3, .inl (cJ, 2000, .inr (.inl C))), (h4, .inl (cJ, 300, .inr (.inl Hh))), (h5, .inl (cI, 300, .inl S))] sz)) 0 0 (va_A [(h0, .inr (0, [.ref h1, .ref h2, .ref h3, .ref h4, .ref h5, .int (nI u)])), (h1, .inl (cI, 2000, .inl F)), (h2, .inl (cI, 2000, .inl T)), (h3, .inl (cJ, 2000, .inr (.inl C))), (h4, .inl (cJ, 300, .inr (.inl Hh))), (h5, .inl (cI, 300, .inl S))] sz) := by
  refine Met.ofW (cc := cX0_forgetAll) (maxL := 1) (ret := none) (by decide) rfl ?_
  intro p ev s m args below meth c s₁ Bd hml hv
  obtain ⟨rfl, hsz, hP, hK, hD0⟩ := hv
  have hx := Bd.exec
  have hb := Bd.bytes
  have hr := Bd.returns
  have hts := atoms_spec (ws := wsX0_forgetAll) Bd.pre
  have hown : s.vm.findClass RX0 = some m.cls := findClass_of_methodNamed Bd.named
  have hlocks := Bd.notSynchronized
  have hin0 : ∀ w ∈ wsX00, w ∈ wsX0_forgetAll := by decide +kernel
  subst hsz
  have hD := hD0.self (sz := s.heap.size)
  generalize hAe : va_A [(h0, .inr (0, [.ref h1, .ref h2, .ref h3, .ref h4, .ref h5, .int (nI u)])), (h1, .inl (cI, 2000, .inl F)), (h2, .inl (cI, 2000, .inl T)), (h3, .inl (cJ, 2000, .inr (.inl C))), (h4, .inl (cJ, 300, .inr (.inl Hh))), (h5, .inl (cI, 300, .inl S))] s.heap.size = A at hD ⊢
  have hA : ∀ q : Nat, s.heap.size ≤ q → A q := fun q h => by rw [← hAe]; exact Or.inr h
  have hS : va_S A s.heap s.heap [] := va_S.rf
  have hl := lv_entry ([.ref h0]) (n := 1) (Nat.le_of_ble_eq_true rfl)
  rw [lg_entry_eq]
  generalize (lg_sl ([.ref h0]) ++ List.replicate (1 - (lg_sl ([.ref h0])).length) Slot.unset).toArray = ls at hl ⊢
  have hl : lv_has ls 1 [(0, .ref h0)] := hl
  generalize hHe : s.heap = H at hP ⊢
  have hS : va_S A s.heap H [] := hHe ▸ hS
  refine lv_aload_n hx hb dX0_forgetAll_0 rfl (lv_at hl 0 rfl) ?_
  refine lv_iconst (v := 0) hx hb dX0_forgetAll_1 (by decide) ?_
  refine va_put (D := (dC, dI)) (ci := 0) (v := .int 0) (ty := .int) (C := RX0) (T := TX0) (N := 6) hx hb hts hin0 tyX0 tyX0_ok nmX0 hown hK hP hD hS 0 rfl rfl 5 (by decide) (hts (.fieldLink RX0 28 "CallClusters$CallTable" "used" "I") (by decide +kernel)) (fun _ h9 => h9) rfl (by decide +kernel) (rfl) (rfl) (Nat.le_of_ble_eq_true rfl) dX0_forgetAll_2 (fun H locs hP hD hS => ?_)
  have hP : va_P (dC, dI) vwCl [(h0, .inr (0, [.ref h1, .ref h2, .ref h3, .ref h4, .ref h5, .int 0])), (h1, .inl (cI, 2000, .inl F)), (h2, .inl (cI, 2000, .inl T)), (h3, .inl (cJ, 2000, .inr (.inl C))), (h4, .inl (cJ, 300, .inr (.inl Hh))), (h5, .inl (cI, 300, .inl S))] H := hP
  have hD : va_D A [(h0, .inr (0, [.ref h1, .ref h2, .ref h3, .ref h4, .ref h5, .int 0])), (h1, .inl (cI, 2000, .inl F)), (h2, .inl (cI, 2000, .inl T)), (h3, .inl (cJ, 2000, .inr (.inl C))), (h4, .inl (cJ, 300, .inr (.inl Hh))), (h5, .inl (cI, 300, .inl S))] := hD
  refine lv_aload_n hx hb dX0_forgetAll_5 rfl (lv_at hl 0 rfl) ?_
  refine va_get (D := (dC, dI)) (ci := 0) (v := .ref h4) (C := RX0) (T := TX0) (N := 6) hx hb hts hin0 hown hK hP 0 rfl rfl 3 (by decide) (hts (.fieldLink RX0 22 "CallClusters$CallTable" "heats" "[J") (by decide +kernel)) (fun _ h9 => h9) rfl dX0_forgetAll_6 ?_
  refine lv_lconst (v := 0) hx hb dX0_forgetAll_9 (by decide) ?_
  have hPc := hP.sub (ws' := [(h4, .inl (cJ, 300, .inr (.inl Hh)))]) [4] rfl
  have hDc := hD.sub (ws' := [(h4, .inl (cJ, 300, .inr (.inl Hh)))]) [4] (by decide) rfl
  have hFc := va_free (wc := [(h4, .inl (cJ, 300, .inr (.inl Hh)))]) hD hS hA [4] rfl
  refine va_callv (va_runS (As := [.ref h4, .long 0]) (rest := []) ⟨hx, hb, hml, hown, hts⟩ (ct_J7_fill_d0a16 l dC dI cI cJ cZ H.size h4 300 Hh 0 (by decide)) (va_cwS 2 hts gX0_forgetAll_J7_fill_d0a16 rfl rfl rfl (by decide +kernel) ⟨Nat.le_of_ble_eq_true rfl, Nat.le_of_ble_eq_true rfl⟩) (pre_S hK hPc hDc) rfl rfl hl.1 rfl (lv_room (Nat.le_of_ble_eq_true rfl)) dX0_forgetAll_10 ⟨Nat.zero_le _, Nat.zero_le _⟩) hS (fun q _ h => hFc q h) hFc (fun uu t H1 locs ht hvm hw hB hz1 hk1 hS => ?_)
  obtain ⟨hP1, hK1, hD1⟩ := hB
  rw [ht] at hP1
  try dsimp only at hw
  have hP1 : va_P (dC, dI) vwCl [(h4, .inl (cJ, 300, .inr (.inl (mix 300 (fun _ => 0) Hh))))] H1 := hP1
  obtain ⟨hP, hD⟩ := va_join (wr := [(h0, .inr (0, [.ref h1, .ref h2, .ref h3, .ref h4, .ref h5, .int 0])), (h1, .inl (cI, 2000, .inl F)), (h2, .inl (cI, 2000, .inl T)), (h3, .inl (cJ, 2000, .inr (.inl C))), (h5, .inl (cI, 300, .inl S))]) (w1 := [(h4, .inl (cJ, 300, .inr (.inl (mix 300 (fun _ => 0) Hh))))]) hP hD [4] [0, 1, 2, 3, 5] rfl rfl (by decide) (by decide) hk1 hFc hP1 hD1
  have hP := hP.sub (ws' := [(h0, .inr (0, [.ref h1, .ref h2, .ref h3, .ref h4, .ref h5, .int 0])), (h1, .inl (cI, 2000, .inl F)), (h2, .inl (cI, 2000, .inl T)), (h3, .inl (cJ, 2000, .inr (.inl C))), (h4, .inl (cJ, 300, .inr (.inl (mix 300 (fun _ => 0) Hh)))), (h5, .inl (cI, 300, .inl S))]) [0, 1, 2, 3, 5, 4] rfl
  have hD := hD.sub (ws' := [(h0, .inr (0, [.ref h1, .ref h2, .ref h3, .ref h4, .ref h5, .int 0])), (h1, .inl (cI, 2000, .inl F)), (h2, .inl (cI, 2000, .inl T)), (h3, .inl (cJ, 2000, .inr (.inl C))), (h4, .inl (cJ, 300, .inr (.inl (mix 300 (fun _ => 0) Hh)))), (h5, .inl (cI, 300, .inl S))]) [0, 1, 2, 3, 5, 4] (by decide) rfl
  generalize H1 = H at hP hS ⊢
  have hP9 : va_P (dC, dI) vwCl [(h0, .inr (0, [.ref h1, .ref h2, .ref h3, .ref h4, .ref h5, .int 0])), (h1, .inl (cI, 2000, .inl F)), (h2, .inl (cI, 2000, .inl T)), (h3, .inl (cJ, 2000, .inr (.inl C))), (h4, .inl (cJ, 300, .inr (.inl (mix 300 (fun _ => 0) Hh)))), (h5, .inl (cI, 300, .inl S))] H := hP
  have hD9 : va_D A [(h0, .inr (0, [.ref h1, .ref h2, .ref h3, .ref h4, .ref h5, .int 0])), (h1, .inl (cI, 2000, .inl F)), (h2, .inl (cI, 2000, .inl T)), (h3, .inl (cJ, 2000, .inr (.inl C))), (h4, .inl (cJ, 300, .inr (.inl (mix 300 (fun _ => 0) Hh)))), (h5, .inl (cI, 300, .inl S))] := hD
  exact W.vret hx hb hr (fun t ht hW => ⟨⟨(), rfl, trivial, by rw [ht]; exact hP9, va_K.moved hW.alike hK, hD9⟩, hS.F ht⟩) hS.2.2 dX0_forgetAll_13
set_option maxHeartbeats 4000000 in
set_option maxRecDepth 100000 in
theorem ct_X0_raise (l : Launch) (dC : Nat → ClassId) (dI : Nat → Nat → Nat) (cI cJ cZ : ClassId) (sz : Nat) (h0 : Nat) (h1 : Nat) (h2 : Nat) (h3 : Nat) (h4 : Nat) (h5 : Nat) (F T : Nat → Int32) (C Hh : Nat → Int64) (S : Nat → Int32) (u : Nat) (i : Nat) (y : Int32) (hi : i < 2000) (hT : vp_in (T i) 300) : Met l yX0_raise wsX0_raise ({ frames := 1, cells := 0, slots := 0, locals := 15 }) (va_Pc [.ref h0, .int (nI i), .int y] (fun U => U.heap.size = sz ∧ va_P (dC, dI) vwCl [(h0, .inr (0, [.ref h1, .ref h2, .ref h3, .ref h4, .ref h5, .int (nI u)])), (h1, .inl (cI, 2000, .inl F)), (h2, .inl (cI, 2000, .inl T)), (h3, .inl (cJ, 2000, .inr (.inl C))), (h4, .inl (cJ, 300, .inr (.inl Hh))), (h5, .inl (cI, 300, .inl S))] U.heap ∧ va_K (dC, dI) vwCl [(cI, .int), (cJ, .long), (cZ, .boolean)] U ∧ va_D (fun _ => True) [(h0, .inr (0, [.ref h1, .ref h2, .ref h3, .ref h4, .ref h5, .int (nI u)])), (h1, .inl (cI, 2000, .inl F)), (h2, .inl (cI, 2000, .inl T)), (h3, .inl (cJ, 2000, .inr (.inl C))), (h4, .inl (cJ, 300, .inr (.inl Hh))), (h5, .inl (cI, 300, .inl S))])) (va_Ql (fun (r : Int64) (uu : Unit) => r = capadd (C i) y) (fun (uu : Unit) (t : State) => va_P (dC, dI) vwCl [(h0, .inr (0, [.ref h1, .ref h2, .ref h3, .ref h4, .ref h5, .int (nI u)])), (h1, .inl (cI, 2000, .inl F)), (h2, .inl (cI, 2000, .inl T)), (h3, .inl (cJ, 2000, .inr (.inl (vp_updL C i (capadd (C i) y))))), (h4, .inl (cJ, 300, .inr (.inl (vp_updL Hh ((T i).toNatClampNeg) (Hh ((T i).toNatClampNeg) + (capadd (C i) y - C i)))))), (h5, .inl (cI, 300, .inl S))] t.heap ∧ va_K (dC, dI) vwCl [(cI, .int), (cJ, .long), (cZ, .boolean)] t ∧ va_D (va_A [(h0, .inr (0, [.ref h1, .ref h2, .ref h3, .ref h4, .ref h5, .int (nI u)])), (h1, .inl (cI, 2000, .inl F)), (h2, .inl (cI, 2000, .inl T)), (h3, .inl (cJ, 2000, .inr (.inl C))), (h4, .inl (cJ, 300, .inr (.inl Hh))), (h5, .inl (cI, 300, .inl S))] sz) [(h0, .inr (0, [.ref h1, .ref h2, .ref h3, .ref h4, .ref h5, .int (nI u)])), (h1, .inl (cI, 2000, .inl F)), (h2, .inl (cI, 2000, .inl T)), (h3, .inl (cJ, 2000, .inr (.inl (vp_updL C i (capadd (C i) y))))), (h4, .inl (cJ, 300, .inr (.inl (vp_updL Hh ((T i).toNatClampNeg) (Hh ((T i).toNatClampNeg) + (capadd (C i) y - C i)))))), (h5, .inl (cI, 300, .inl S))]) (va_A [(h0, .inr (0, [.ref h1, .ref h2, .ref h3, .ref h4, .ref h5, .int (nI u)])), (h1, .inl (cI, 2000, .inl F)), (h2, .inl (cI, 2000, .inl T)), (h3, .inl (cJ, 2000, .inr (.inl C))), (h4, .inl (cJ, 300, .inr (.inl Hh))), (h5, .inl (cI, 300, .inl S))] sz)) 0 0 (va_A [(h0, .inr (0, [.ref h1, .ref h2, .ref h3, .ref h4, .ref h5, .int (nI u)])), (h1, .inl (cI, 2000, .inl F)), (h2, .inl (cI, 2000, .inl T)), (h3, .inl (cJ, 2000, .inr (.inl C))), (h4, .inl (cJ, 300, .inr (.inl Hh))), (h5, .inl (cI, 300, .inl S))] sz) := by
  refine Met.ofW (cc := cX0_raise) (maxL := 5) (ret := (some .long)) (by decide) rfl ?_
  intro p ev s m args below meth c s₁ Bd hml hv
  obtain ⟨rfl, hsz, hP, hK, hD0⟩ := hv
  have hx := Bd.exec
  have hb := Bd.bytes
  have hr := Bd.returns
  have hts := atoms_spec (ws := wsX0_raise) Bd.pre
  have hown : s.vm.findClass RX0 = some m.cls := findClass_of_methodNamed Bd.named
  have hlocks := Bd.notSynchronized
  have hin0 : ∀ w ∈ wsX00, w ∈ wsX0_raise := by decide +kernel
  subst hsz
  have hD := hD0.self (sz := s.heap.size)
  generalize hAe : va_A [(h0, .inr (0, [.ref h1, .ref h2, .ref h3, .ref h4, .ref h5, .int (nI u)])), (h1, .inl (cI, 2000, .inl F)), (h2, .inl (cI, 2000, .inl T)), (h3, .inl (cJ, 2000, .inr (.inl C))), (h4, .inl (cJ, 300, .inr (.inl Hh))), (h5, .inl (cI, 300, .inl S))] s.heap.size = A at hD ⊢
  have hA : ∀ q : Nat, s.heap.size ≤ q → A q := fun q h => by rw [← hAe]; exact Or.inr h
  have hS : va_S A s.heap s.heap [] := va_S.rf
  have hl := lv_entry ([.ref h0, .int (nI i), .int y]) (n := 5) (Nat.le_of_ble_eq_true rfl)
  rw [lg_entry_eq]
  generalize (lg_sl ([.ref h0, .int (nI i), .int y]) ++ List.replicate (5 - (lg_sl ([.ref h0, .int (nI i), .int y])).length) Slot.unset).toArray = ls at hl ⊢
  have hl : lv_has ls 5 [(0, .ref h0), (1, .int (nI i)), (2, .int y)] := hl
  generalize hHe : s.heap = H at hP ⊢
  have hS : va_S A s.heap H [] := hHe ▸ hS
  refine lv_aload_n hx hb dX0_raise_0 rfl (lv_at hl 0 rfl) ?_
  refine va_get (D := (dC, dI)) (ci := 0) (v := .ref h3) (C := RX0) (T := TX0) (N := 6) hx hb hts hin0 hown hK hP 0 rfl rfl 2 (by decide) (hts (.fieldLink RX0 18 "CallClusters$CallTable" "counts" "[J") (by decide +kernel)) (fun _ h9 => h9) rfl dX0_raise_1 ?_
  refine lv_iload_n hx hb dX0_raise_4 rfl (lv_at hl 1 rfl) ?_
  refine va_lald hx hb hK hP 3 1 rfl rfl (inn hi (by omega)) dX0_raise_5 ?_
  refine tp_l (y := C i) (by rw [ix_n (by omega)]) ?_
  refine lv_iload_n hx hb dX0_raise_6 rfl (lv_at hl 2 rfl) ?_
  refine lv_i2l (v := y.toInt64) hx hb dX0_raise_7 rfl ?_
  refine lv_ladd hx hb dX0_raise_8 ?_
  refine lv_ldc2 (v := 1000000000000) hx hb hown (hts (.constantLong RX0 38 (1000000000000)) (by decide +kernel)) dX0_raise_9 ?_
  refine va_mmin_long hx hb (hml.trans hl.1.symm) hown (hts (.methodLink RX0 40 Lib.MathLoose.min_long.x) (by decide +kernel)) (hts (.static Lib.MathLoose.min_long.x) (by decide +kernel)) (hts (.initialized "java/lang/Math") (by decide +kernel)) (hts (.code Lib.MathLoose.min_long.x Lib.MathLoose.min_long.code 4 (some .long)) (by decide +kernel)) (Nat.le_of_ble_eq_true rfl) (Nat.le_of_ble_eq_true rfl) (Nat.zero_le _) (Nat.zero_le _) dX0_raise_12 ?_
  refine tp_l (y := capadd (C i) y) (rfl) ?_
  refine lv_lstore_n (lv' := [(3, .long (capadd (C i) y)), (0, .ref h0), (1, .int (nI i)), (2, .int y)]) hx hb dX0_raise_15 rfl hl (by decide) rfl (fun ls hl => ?_)
  refine lv_aload_n hx hb dX0_raise_16 rfl (lv_at hl 1 rfl) ?_
  refine va_get (D := (dC, dI)) (ci := 0) (v := .ref h4) (C := RX0) (T := TX0) (N := 6) hx hb hts hin0 hown hK hP 0 rfl rfl 3 (by decide) (hts (.fieldLink RX0 22 "CallClusters$CallTable" "heats" "[J") (by decide +kernel)) (fun _ h9 => h9) rfl dX0_raise_17 ?_
  refine lv_aload_n hx hb dX0_raise_20 rfl (lv_at hl 1 rfl) ?_
  refine va_get (D := (dC, dI)) (ci := 0) (v := .ref h2) (C := RX0) (T := TX0) (N := 6) hx hb hts hin0 hown hK hP 0 rfl rfl 1 (by decide) (hts (.fieldLink RX0 15 "CallClusters$CallTable" "to" "[I") (by decide +kernel)) (fun _ h9 => h9) rfl dX0_raise_21 ?_
  refine lv_iload_n hx hb dX0_raise_24 rfl (lv_at hl 2 rfl) ?_
  refine va_iald hx hb hK hP 2 0 rfl rfl (inn hi (by omega)) dX0_raise_25 ?_
  refine tp_i (y := T i) (by rw [ix_n (by omega)]) ?_
  refine lv_dup2_11 hx hb dX0_raise_26 rfl rfl ?_
  refine va_lald hx hb hK hP 4 1 rfl rfl (hT) dX0_raise_27 ?_
  refine lv_lload_n hx hb dX0_raise_28 rfl (lv_at hl 0 rfl) ?_
  refine lv_aload_n hx hb dX0_raise_29 rfl (lv_at hl 1 rfl) ?_
  refine va_get (D := (dC, dI)) (ci := 0) (v := .ref h3) (C := RX0) (T := TX0) (N := 6) hx hb hts hin0 hown hK hP 0 rfl rfl 2 (by decide) (hts (.fieldLink RX0 18 "CallClusters$CallTable" "counts" "[J") (by decide +kernel)) (fun _ h9 => h9) rfl dX0_raise_30 ?_
  refine lv_iload_n hx hb dX0_raise_33 rfl (lv_at hl 2 rfl) ?_
  refine va_lald hx hb hK hP 3 1 rfl rfl (inn hi (by omega)) dX0_raise_34 ?_
  refine tp_l (y := C i) (by rw [ix_n (by omega)]) ?_
  refine lv_lsub hx hb dX0_raise_35 ?_
  refine lv_ladd hx hb dX0_raise_36 ?_
  refine va_last hx hb hK hP hD hS 4 1 rfl rfl (hT) dX0_raise_37 (fun H locs hP hD hS => ?_)
  have hP : va_P (dC, dI) vwCl [(h0, .inr (0, [.ref h1, .ref h2, .ref h3, .ref h4, .ref h5, .int (nI u)])), (h1, .inl (cI, 2000, .inl F)), (h2, .inl (cI, 2000, .inl T)), (h3, .inl (cJ, 2000, .inr (.inl C))), (h4, .inl (cJ, 300, .inr (.inl (vp_updL Hh ((T i).toNatClampNeg) ((Hh ((T i).toNatClampNeg)) + ((capadd (C i) y) - (C i))))))), (h5, .inl (cI, 300, .inl S))] H := hP
  have hD : va_D A [(h0, .inr (0, [.ref h1, .ref h2, .ref h3, .ref h4, .ref h5, .int (nI u)])), (h1, .inl (cI, 2000, .inl F)), (h2, .inl (cI, 2000, .inl T)), (h3, .inl (cJ, 2000, .inr (.inl C))), (h4, .inl (cJ, 300, .inr (.inl (vp_updL Hh ((T i).toNatClampNeg) ((Hh ((T i).toNatClampNeg)) + ((capadd (C i) y) - (C i))))))), (h5, .inl (cI, 300, .inl S))] := hD
  refine lv_aload_n hx hb dX0_raise_38 rfl (lv_at hl 1 rfl) ?_
  refine va_get (D := (dC, dI)) (ci := 0) (v := .ref h3) (C := RX0) (T := TX0) (N := 6) hx hb hts hin0 hown hK hP 0 rfl rfl 2 (by decide) (hts (.fieldLink RX0 18 "CallClusters$CallTable" "counts" "[J") (by decide +kernel)) (fun _ h9 => h9) rfl dX0_raise_39 ?_
  refine lv_iload_n hx hb dX0_raise_42 rfl (lv_at hl 2 rfl) ?_
  refine lv_lload_n hx hb dX0_raise_43 rfl (lv_at hl 0 rfl) ?_
  refine va_last hx hb hK hP hD hS 3 1 rfl rfl (inn hi (by omega)) dX0_raise_44 (fun H locs hP hD hS => ?_)
  have hf44 : vp_updL C ((nI i).toNatClampNeg) (capadd (C i) y) = vp_updL C i (capadd (C i) y) := by rw [ix_n (by omega)]
  have hP : va_P (dC, dI) vwCl [(h0, .inr (0, [.ref h1, .ref h2, .ref h3, .ref h4, .ref h5, .int (nI u)])), (h1, .inl (cI, 2000, .inl F)), (h2, .inl (cI, 2000, .inl T)), (h3, .inl (cJ, 2000, .inr (.inl (vp_updL C ((nI i).toNatClampNeg) (capadd (C i) y))))), (h4, .inl (cJ, 300, .inr (.inl (vp_updL Hh ((T i).toNatClampNeg) ((Hh ((T i).toNatClampNeg)) + ((capadd (C i) y) - (C i))))))), (h5, .inl (cI, 300, .inl S))] H := hP
  have hD : va_D A [(h0, .inr (0, [.ref h1, .ref h2, .ref h3, .ref h4, .ref h5, .int (nI u)])), (h1, .inl (cI, 2000, .inl F)), (h2, .inl (cI, 2000, .inl T)), (h3, .inl (cJ, 2000, .inr (.inl (vp_updL C ((nI i).toNatClampNeg) (capadd (C i) y))))), (h4, .inl (cJ, 300, .inr (.inl (vp_updL Hh ((T i).toNatClampNeg) ((Hh ((T i).toNatClampNeg)) + ((capadd (C i) y) - (C i))))))), (h5, .inl (cI, 300, .inl S))] := hD
  rw [hf44] at hP hD
  refine lv_lload_n hx hb dX0_raise_45 rfl (lv_at hl 0 rfl) ?_
  have hP9 : va_P (dC, dI) vwCl [(h0, .inr (0, [.ref h1, .ref h2, .ref h3, .ref h4, .ref h5, .int (nI u)])), (h1, .inl (cI, 2000, .inl F)), (h2, .inl (cI, 2000, .inl T)), (h3, .inl (cJ, 2000, .inr (.inl (vp_updL C i (capadd (C i) y))))), (h4, .inl (cJ, 300, .inr (.inl (vp_updL Hh ((T i).toNatClampNeg) ((Hh ((T i).toNatClampNeg)) + ((capadd (C i) y) - (C i))))))), (h5, .inl (cI, 300, .inl S))] H := hP
  have hD9 : va_D A [(h0, .inr (0, [.ref h1, .ref h2, .ref h3, .ref h4, .ref h5, .int (nI u)])), (h1, .inl (cI, 2000, .inl F)), (h2, .inl (cI, 2000, .inl T)), (h3, .inl (cJ, 2000, .inr (.inl (vp_updL C i (capadd (C i) y))))), (h4, .inl (cJ, 300, .inr (.inl (vp_updL Hh ((T i).toNatClampNeg) ((Hh ((T i).toNatClampNeg)) + ((capadd (C i) y) - (C i))))))), (h5, .inl (cI, 300, .inl S))] := hD
  exact W.lret (v := capadd (C i) y) hx hb hr (fun t ht hW => ⟨⟨capadd (C i) y, (), rfl, rfl, by rw [ht]; exact hP9, va_K.moved hW.alike hK, hD9⟩, hS.F ht⟩) hS.2.2 dX0_raise_46
set_option maxHeartbeats 4000000 in
set_option maxRecDepth 100000 in
theorem lpX0_pairFor {p : Program} {l : Launch} {ev : Env} {s : State} {m : MethodId} {args : Array Value} {below : List Frame} {meth : Method} {c : Code} {Q : State → Prop} {A : Nat → Prop} {dC : Nat → ClassId} {dI : Nat → Nat → Nat} {cI cJ cZ : ClassId} {R : Room} {cells slots : Nat} (hx : p.tables.exec = Jvm.exec) (hb : c.code = cX0_pairFor) (hml : c.maxLocals = 4) (hts : ∀ w ∈ wsX0_pairFor, w.before args s = true) (hown : s.vm.findClass RX0 = some m.cls) (hK : va_K (dC, dI) vwCl [(cI, .int), (cJ, .long), (cZ, .boolean)] s) (hA : ∀ q : Nat, s.heap.size ≤ q → A q) {h0 : Nat} {h1 : Nat} {h2 : Nat} {h3 : Nat} {h4 : Nat} {h5 : Nat} {F T : Nat → Int32} {C Hh : Nat → Int64} {S : Nat → Int32} {u : Nat} {f g : Int32} (hu : u ≤ 2000)  (kf : ∀ (k : Nat), k < u → pfind F T f g u 0 = k → ∀ (H : Heap) (locs : List Loc) (ls : Array Slot), va_P (dC, dI) vwCl [(h0, .inr (0, [.ref h1, .ref h2, .ref h3, .ref h4, .ref h5, .int (nI u)])), (h1, .inl (cI, 2000, .inl F)), (h2, .inl (cI, 2000, .inl T)), (h3, .inl (cJ, 2000, .inr (.inl C))), (h4, .inl (cJ, 300, .inr (.inl Hh))), (h5, .inl (cI, 300, .inl S))] H → va_D A [(h0, .inr (0, [.ref h1, .ref h2, .ref h3, .ref h4, .ref h5, .int (nI u)])), (h1, .inl (cI, 2000, .inl F)), (h2, .inl (cI, 2000, .inl T)), (h3, .inl (cJ, 2000, .inr (.inl C))), (h4, .inl (cJ, 300, .inr (.inl Hh))), (h5, .inl (cI, 300, .inl S))] → va_S A s.heap H locs → lv_has ls 4 [(0, .ref h0), (1, .int f), (2, .int g), (3, .int (nI k))] → W p l ev R s m args below meth c H locs cells slots Q (F0 m 30 ls [])) (kn : pfind F T f g u 0 = u → ∀ (H : Heap) (locs : List Loc) (ls : Array Slot), va_P (dC, dI) vwCl [(h0, .inr (0, [.ref h1, .ref h2, .ref h3, .ref h4, .ref h5, .int (nI u)])), (h1, .inl (cI, 2000, .inl F)), (h2, .inl (cI, 2000, .inl T)), (h3, .inl (cJ, 2000, .inr (.inl C))), (h4, .inl (cJ, 300, .inr (.inl Hh))), (h5, .inl (cI, 300, .inl S))] H → va_D A [(h0, .inr (0, [.ref h1, .ref h2, .ref h3, .ref h4, .ref h5, .int (nI u)])), (h1, .inl (cI, 2000, .inl F)), (h2, .inl (cI, 2000, .inl T)), (h3, .inl (cJ, 2000, .inr (.inl C))), (h4, .inl (cJ, 300, .inr (.inl Hh))), (h5, .inl (cI, 300, .inl S))] → va_S A s.heap H locs → lv_has ls 4 [(0, .ref h0), (1, .int f), (2, .int g)] → W p l ev R s m args below meth c H locs cells slots Q (F0 m 38 ls [])) : ∀ (n : Nat) (k : Nat), k + n = u → pfind F T f g u 0 = pfind F T f g n k → ∀ (H : Heap) (locs : List Loc) (ls : Array Slot), va_P (dC, dI) vwCl [(h0, .inr (0, [.ref h1, .ref h2, .ref h3, .ref h4, .ref h5, .int (nI u)])), (h1, .inl (cI, 2000, .inl F)), (h2, .inl (cI, 2000, .inl T)), (h3, .inl (cJ, 2000, .inr (.inl C))), (h4, .inl (cJ, 300, .inr (.inl Hh))), (h5, .inl (cI, 300, .inl S))] H → va_D A [(h0, .inr (0, [.ref h1, .ref h2, .ref h3, .ref h4, .ref h5, .int (nI u)])), (h1, .inl (cI, 2000, .inl F)), (h2, .inl (cI, 2000, .inl T)), (h3, .inl (cJ, 2000, .inr (.inl C))), (h4, .inl (cJ, 300, .inr (.inl Hh))), (h5, .inl (cI, 300, .inl S))] → va_S A s.heap H locs → lv_has ls 4 [(0, .ref h0), (1, .int f), (2, .int g), (3, .int (nI k))] → W p l ev R s m args below meth c H locs cells slots Q (F0 m 2 ls []) := by
  have hin0 : ∀ w ∈ wsX00, w ∈ wsX0_pairFor := by decide +kernel
  intro n
  induction n with
  | zero =>
    intro k hk hp H locs ls hP hD hS hl
    have hk : k = u := by omega
    subst hk
    have hp : pfind F T f g k 0 = k := hp
    refine lv_iload_n hx hb dX0_pairFor_2 rfl (lv_at hl 3 rfl) ?_
    refine lv_aload_n hx hb dX0_pairFor_3 rfl (lv_at hl 0 rfl) ?_
    refine va_get (D := (dC, dI)) (ci := 0) (v := .int (nI k)) (C := RX0) (T := TX0) (N := 6) hx hb hts hin0 hown hK hP 0 rfl rfl 5 (by decide) (hts (.fieldLink RX0 28 "CallClusters$CallTable" "used" "I") (by decide +kernel)) (fun _ h9 => h9) rfl dX0_pairFor_4 ?_
    refine lv_icmp_ge (tgt := 38) hx hb dX0_pairFor_7 (by decide) (fun c_1 => ?_) (fun c_1 => ?_)
    · -- pc 7, side 0
      exact kn  (hp) H locs ls hP hD hS (lv_sub hl [0, 1, 2] rfl)
    · -- pc 7, side 1
      exact absurd (nI_le (Nat.le_refl _) (by omega)) c_1
  | succ n ih =>
    intro k hk hp H locs ls hP hD hS hl
    refine lv_iload_n hx hb dX0_pairFor_2 rfl (lv_at hl 3 rfl) ?_
    refine lv_aload_n hx hb dX0_pairFor_3 rfl (lv_at hl 0 rfl) ?_
    refine va_get (D := (dC, dI)) (ci := 0) (v := .int (nI u)) (C := RX0) (T := TX0) (N := 6) hx hb hts hin0 hown hK hP 0 rfl rfl 5 (by decide) (hts (.fieldLink RX0 28 "CallClusters$CallTable" "used" "I") (by decide +kernel)) (fun _ h9 => h9) rfl dX0_pairFor_4 ?_
    refine lv_icmp_ge (tgt := 38) hx hb dX0_pairFor_7 (by decide) (fun c_2 => ?_) (fun c_2 => ?_)
    · -- pc 7, side 0
      exact absurd c_2 (nI_ge (show k < u by omega) (by omega))
    · -- pc 7, side 1
      refine lv_aload_n hx hb dX0_pairFor_10 rfl (lv_at hl 0 rfl) ?_
      refine va_get (D := (dC, dI)) (ci := 0) (v := .ref h1) (C := RX0) (T := TX0) (N := 6) hx hb hts hin0 hown hK hP 0 rfl rfl 0 (by decide) (hts (.fieldLink RX0 9 "CallClusters$CallTable" "from" "[I") (by decide +kernel)) (fun _ h9 => h9) rfl dX0_pairFor_11 ?_
      refine lv_iload_n hx hb dX0_pairFor_14 rfl (lv_at hl 3 rfl) ?_
      refine va_iald hx hb hK hP 1 0 rfl rfl (inn (show k < 2000 by omega) (by omega)) dX0_pairFor_15 ?_
      refine tp_i (y := F k) (by rw [ix_n (by omega)]) ?_
      refine lv_iload_n hx hb dX0_pairFor_16 rfl (lv_at hl 1 rfl) ?_
      refine lv_icmp_ne (tgt := 32) hx hb dX0_pairFor_17 (by decide) (fun c_3 => ?_) (fun c_3 => ?_)
      · -- pc 17, side 0
        refine lv_iinc (v := nI (k + 1)) (lv' := [(3, .int (nI (k + 1))), (0, .ref h0), (1, .int f), (2, .int g)]) hx hb dX0_pairFor_32 hl (k := 3) rfl (by exact nI_1 k) (by decide) rfl (fun ls hl => ?_)
        refine lv_goto (tgt := 2) hx hb dX0_pairFor_35 (by decide) ?_
        exact ih (k + 1) (by omega) (by rw [hp]; conv => lhs; unfold pfind; rw [if_neg (fun h9 => c_3 h9.1)]) H locs ls hP hD hS (lv_sub hl [1, 2, 3, 0] rfl)
      · -- pc 17, side 1
        refine lv_aload_n hx hb dX0_pairFor_20 rfl (lv_at hl 0 rfl) ?_
        refine va_get (D := (dC, dI)) (ci := 0) (v := .ref h2) (C := RX0) (T := TX0) (N := 6) hx hb hts hin0 hown hK hP 0 rfl rfl 1 (by decide) (hts (.fieldLink RX0 15 "CallClusters$CallTable" "to" "[I") (by decide +kernel)) (fun _ h9 => h9) rfl dX0_pairFor_21 ?_
        refine lv_iload_n hx hb dX0_pairFor_24 rfl (lv_at hl 3 rfl) ?_
        refine va_iald hx hb hK hP 2 0 rfl rfl (inn (show k < 2000 by omega) (by omega)) dX0_pairFor_25 ?_
        refine tp_i (y := T k) (by rw [ix_n (by omega)]) ?_
        refine lv_iload_n hx hb dX0_pairFor_26 rfl (lv_at hl 2 rfl) ?_
        refine lv_icmp_ne (tgt := 32) hx hb dX0_pairFor_27 (by decide) (fun c_4 => ?_) (fun c_4 => ?_)
        · -- pc 27, side 0
          refine lv_iinc (v := nI (k + 1)) (lv' := [(3, .int (nI (k + 1))), (0, .ref h0), (1, .int f), (2, .int g)]) hx hb dX0_pairFor_32 hl (k := 3) rfl (by exact nI_1 k) (by decide) rfl (fun ls hl => ?_)
          refine lv_goto (tgt := 2) hx hb dX0_pairFor_35 (by decide) ?_
          exact ih (k + 1) (by omega) (by rw [hp]; conv => lhs; unfold pfind; rw [if_neg (fun h9 => c_4 h9.2)]) H locs ls hP hD hS (lv_sub hl [1, 2, 3, 0] rfl)
        · -- pc 27, side 1
          exact kf k (by omega) (by rw [hp]; unfold pfind; rw [if_pos ⟨c_3, c_4⟩]) H locs ls hP hD hS (lv_sub hl [0, 1, 2, 3] rfl)
set_option maxHeartbeats 4000000 in
set_option maxRecDepth 100000 in
theorem ct_X0_pairFor (l : Launch) (dC : Nat → ClassId) (dI : Nat → Nat → Nat) (cI cJ cZ : ClassId) (sz : Nat) (h0 : Nat) (h1 : Nat) (h2 : Nat) (h3 : Nat) (h4 : Nat) (h5 : Nat) (F T : Nat → Int32) (C Hh : Nat → Int64) (S : Nat → Int32) (u : Nat) (f g : Int32) (hu : u ≤ 2000) : Met l yX0_pairFor wsX0_pairFor ({ frames := 0, cells := 0, slots := 0, locals := 0 }) (va_Pc [.ref h0, .int f, .int g] (fun U => U.heap.size = sz ∧ va_P (dC, dI) vwCl [(h0, .inr (0, [.ref h1, .ref h2, .ref h3, .ref h4, .ref h5, .int (nI u)])), (h1, .inl (cI, 2000, .inl F)), (h2, .inl (cI, 2000, .inl T)), (h3, .inl (cJ, 2000, .inr (.inl C))), (h4, .inl (cJ, 300, .inr (.inl Hh))), (h5, .inl (cI, 300, .inl S))] U.heap ∧ va_K (dC, dI) vwCl [(cI, .int), (cJ, .long), (cZ, .boolean)] U ∧ va_D (fun _ => True) [(h0, .inr (0, [.ref h1, .ref h2, .ref h3, .ref h4, .ref h5, .int (nI u)])), (h1, .inl (cI, 2000, .inl F)), (h2, .inl (cI, 2000, .inl T)), (h3, .inl (cJ, 2000, .inr (.inl C))), (h4, .inl (cJ, 300, .inr (.inl Hh))), (h5, .inl (cI, 300, .inl S))])) (va_Qi (fun (r : Int32) (uu : (Nat → Int32) × (Nat → Int32) × (Nat → Int64) × Nat) => match uu with | (F', T', C', u') => (pfind F T f g u 0 < u ∧ r = nI (pfind F T f g u 0) ∧ F' = F ∧ T' = T ∧ C' = C ∧ u' = u) ∨ (pfind F T f g u 0 = u ∧ u = 2000 ∧ r = -1 ∧ F' = F ∧ T' = T ∧ C' = C ∧ u' = u) ∨ (pfind F T f g u 0 = u ∧ u < 2000 ∧ r = nI u ∧ F' = upd F u f ∧ T' = upd T u g ∧ C' = vp_updL C u 0 ∧ u' = u + 1)) (fun (uu : (Nat → Int32) × (Nat → Int32) × (Nat → Int64) × Nat) (t : State) => match uu with | (F', T', C', u') => va_P (dC, dI) vwCl [(h0, .inr (0, [.ref h1, .ref h2, .ref h3, .ref h4, .ref h5, .int (nI u')])), (h1, .inl (cI, 2000, .inl (F'))), (h2, .inl (cI, 2000, .inl (T'))), (h3, .inl (cJ, 2000, .inr (.inl (C')))), (h4, .inl (cJ, 300, .inr (.inl Hh))), (h5, .inl (cI, 300, .inl S))] t.heap ∧ va_K (dC, dI) vwCl [(cI, .int), (cJ, .long), (cZ, .boolean)] t ∧ va_D (va_A [(h0, .inr (0, [.ref h1, .ref h2, .ref h3, .ref h4, .ref h5, .int (nI u)])), (h1, .inl (cI, 2000, .inl F)), (h2, .inl (cI, 2000, .inl T)), (h3, .inl (cJ, 2000, .inr (.inl C))), (h4, .inl (cJ, 300, .inr (.inl Hh))), (h5, .inl (cI, 300, .inl S))] sz) [(h0, .inr (0, [.ref h1, .ref h2, .ref h3, .ref h4, .ref h5, .int (nI u')])), (h1, .inl (cI, 2000, .inl (F'))), (h2, .inl (cI, 2000, .inl (T'))), (h3, .inl (cJ, 2000, .inr (.inl (C')))), (h4, .inl (cJ, 300, .inr (.inl Hh))), (h5, .inl (cI, 300, .inl S))]) (va_A [(h0, .inr (0, [.ref h1, .ref h2, .ref h3, .ref h4, .ref h5, .int (nI u)])), (h1, .inl (cI, 2000, .inl F)), (h2, .inl (cI, 2000, .inl T)), (h3, .inl (cJ, 2000, .inr (.inl C))), (h4, .inl (cJ, 300, .inr (.inl Hh))), (h5, .inl (cI, 300, .inl S))] sz)) 0 0 (va_A [(h0, .inr (0, [.ref h1, .ref h2, .ref h3, .ref h4, .ref h5, .int (nI u)])), (h1, .inl (cI, 2000, .inl F)), (h2, .inl (cI, 2000, .inl T)), (h3, .inl (cJ, 2000, .inr (.inl C))), (h4, .inl (cJ, 300, .inr (.inl Hh))), (h5, .inl (cI, 300, .inl S))] sz) := by
  refine Met.ofW (cc := cX0_pairFor) (maxL := 4) (ret := (some .int)) (by decide) rfl ?_
  intro p ev s m args below meth c s₁ Bd hml hv
  obtain ⟨rfl, hsz, hP, hK, hD0⟩ := hv
  have hx := Bd.exec
  have hb := Bd.bytes
  have hr := Bd.returns
  have hts := atoms_spec (ws := wsX0_pairFor) Bd.pre
  have hown : s.vm.findClass RX0 = some m.cls := findClass_of_methodNamed Bd.named
  have hlocks := Bd.notSynchronized
  have hin0 : ∀ w ∈ wsX00, w ∈ wsX0_pairFor := by decide +kernel
  subst hsz
  have hD := hD0.self (sz := s.heap.size)
  generalize hAe : va_A [(h0, .inr (0, [.ref h1, .ref h2, .ref h3, .ref h4, .ref h5, .int (nI u)])), (h1, .inl (cI, 2000, .inl F)), (h2, .inl (cI, 2000, .inl T)), (h3, .inl (cJ, 2000, .inr (.inl C))), (h4, .inl (cJ, 300, .inr (.inl Hh))), (h5, .inl (cI, 300, .inl S))] s.heap.size = A at hD ⊢
  have hA : ∀ q : Nat, s.heap.size ≤ q → A q := fun q h => by rw [← hAe]; exact Or.inr h
  have hS : va_S A s.heap s.heap [] := va_S.rf
  have hl := lv_entry ([.ref h0, .int f, .int g]) (n := 4) (Nat.le_of_ble_eq_true rfl)
  rw [lg_entry_eq]
  generalize (lg_sl ([.ref h0, .int f, .int g]) ++ List.replicate (4 - (lg_sl ([.ref h0, .int f, .int g])).length) Slot.unset).toArray = ls at hl ⊢
  have hl : lv_has ls 4 [(0, .ref h0), (1, .int f), (2, .int g)] := hl
  generalize hHe : s.heap = H at hP ⊢
  have hS : va_S A s.heap H [] := hHe ▸ hS
  have h00 : (0 : Int32) = nI 0 := nI_0.symm
  refine lv_iconst (v := 0) hx hb dX0_pairFor_0 (by decide) ?_
  refine tp_i (y := nI 0) (nI_0.symm) ?_
  refine lv_istore_n (lv' := [(3, .int (nI 0)), (0, .ref h0), (1, .int f), (2, .int g)]) hx hb dX0_pairFor_1 rfl hl (by decide) rfl (fun ls hl => ?_)
  refine lpX0_pairFor (F := F) (T := T) (f := f) (g := g) (u := u) hx hb hml hts hown hK hA hu (fun k hk hp H locs ls hP hD hS hl => ?_) (fun hp H locs ls hP hD hS hl => ?_) (u) 0 (by omega) (rfl) H _ ls hP hD hS (lv_sub hl [1, 2, 3, 0] rfl)
  · -- kf
    refine lv_iload_n hx hb dX0_pairFor_30 rfl (lv_at hl 3 rfl) ?_
    have hP9 : va_P (dC, dI) vwCl [(h0, .inr (0, [.ref h1, .ref h2, .ref h3, .ref h4, .ref h5, .int (nI u)])), (h1, .inl (cI, 2000, .inl F)), (h2, .inl (cI, 2000, .inl T)), (h3, .inl (cJ, 2000, .inr (.inl C))), (h4, .inl (cJ, 300, .inr (.inl Hh))), (h5, .inl (cI, 300, .inl S))] H := hP
    have hD9 : va_D A [(h0, .inr (0, [.ref h1, .ref h2, .ref h3, .ref h4, .ref h5, .int (nI u)])), (h1, .inl (cI, 2000, .inl F)), (h2, .inl (cI, 2000, .inl T)), (h3, .inl (cJ, 2000, .inr (.inl C))), (h4, .inl (cJ, 300, .inr (.inl Hh))), (h5, .inl (cI, 300, .inl S))] := hD
    exact W.iret (v := nI k) hx hb hr (fun t ht hW => ⟨⟨nI k, (F, T, C, u), rfl, Or.inl ⟨by omega, by rw [hp], rfl, rfl, rfl, rfl⟩, by rw [ht]; exact hP9, va_K.moved hW.alike hK, hD9⟩, hS.F ht⟩) hS.2.2 dX0_pairFor_31
  · -- kn
    refine lv_aload_n hx hb dX0_pairFor_38 rfl (lv_at hl 0 rfl) ?_
    refine va_get (D := (dC, dI)) (ci := 0) (v := .int (nI u)) (C := RX0) (T := TX0) (N := 6) hx hb hts hin0 hown hK hP 0 rfl rfl 5 (by decide) (hts (.fieldLink RX0 28 "CallClusters$CallTable" "used" "I") (by decide +kernel)) (fun _ h9 => h9) rfl dX0_pairFor_39 ?_
    refine lv_sipush (v := 2000) hx hb dX0_pairFor_42 (by decide) ?_
    refine lv_icmp_lt (tgt := 50) hx hb dX0_pairFor_45 (by decide) (fun c_1 => ?_) (fun c_1 => ?_)
    · -- pc 45, side 0
      have hu9 : u < 2000 := (nI_ltI (by omega) (by omega)).mp c_1
      refine lv_aload_n hx hb dX0_pairFor_50 rfl (lv_at hl 0 rfl) ?_
      refine va_get (D := (dC, dI)) (ci := 0) (v := .ref h1) (C := RX0) (T := TX0) (N := 6) hx hb hts hin0 hown hK hP 0 rfl rfl 0 (by decide) (hts (.fieldLink RX0 9 "CallClusters$CallTable" "from" "[I") (by decide +kernel)) (fun _ h9 => h9) rfl dX0_pairFor_51 ?_
      refine lv_aload_n hx hb dX0_pairFor_54 rfl (lv_at hl 0 rfl) ?_
      refine va_get (D := (dC, dI)) (ci := 0) (v := .int (nI u)) (C := RX0) (T := TX0) (N := 6) hx hb hts hin0 hown hK hP 0 rfl rfl 5 (by decide) (hts (.fieldLink RX0 28 "CallClusters$CallTable" "used" "I") (by decide +kernel)) (fun _ h9 => h9) rfl dX0_pairFor_55 ?_
      refine lv_iload_n hx hb dX0_pairFor_58 rfl (lv_at hl 1 rfl) ?_
      refine va_iast hx hb hK hP hD hS 1 0 rfl rfl (inn hu9 (by omega)) dX0_pairFor_59 (fun H locs hP hD hS => ?_)
      have hf59 : upd F ((nI u).toNatClampNeg) f = upd F u f := by rw [ix_n (by omega)]
      have hP : va_P (dC, dI) vwCl [(h0, .inr (0, [.ref h1, .ref h2, .ref h3, .ref h4, .ref h5, .int (nI u)])), (h1, .inl (cI, 2000, .inl (upd F ((nI u).toNatClampNeg) f))), (h2, .inl (cI, 2000, .inl T)), (h3, .inl (cJ, 2000, .inr (.inl C))), (h4, .inl (cJ, 300, .inr (.inl Hh))), (h5, .inl (cI, 300, .inl S))] H := hP
      have hD : va_D A [(h0, .inr (0, [.ref h1, .ref h2, .ref h3, .ref h4, .ref h5, .int (nI u)])), (h1, .inl (cI, 2000, .inl (upd F ((nI u).toNatClampNeg) f))), (h2, .inl (cI, 2000, .inl T)), (h3, .inl (cJ, 2000, .inr (.inl C))), (h4, .inl (cJ, 300, .inr (.inl Hh))), (h5, .inl (cI, 300, .inl S))] := hD
      rw [hf59] at hP hD
      refine lv_aload_n hx hb dX0_pairFor_60 rfl (lv_at hl 0 rfl) ?_
      refine va_get (D := (dC, dI)) (ci := 0) (v := .ref h2) (C := RX0) (T := TX0) (N := 6) hx hb hts hin0 hown hK hP 0 rfl rfl 1 (by decide) (hts (.fieldLink RX0 15 "CallClusters$CallTable" "to" "[I") (by decide +kernel)) (fun _ h9 => h9) rfl dX0_pairFor_61 ?_
      refine lv_aload_n hx hb dX0_pairFor_64 rfl (lv_at hl 0 rfl) ?_
      refine va_get (D := (dC, dI)) (ci := 0) (v := .int (nI u)) (C := RX0) (T := TX0) (N := 6) hx hb hts hin0 hown hK hP 0 rfl rfl 5 (by decide) (hts (.fieldLink RX0 28 "CallClusters$CallTable" "used" "I") (by decide +kernel)) (fun _ h9 => h9) rfl dX0_pairFor_65 ?_
      refine lv_iload_n hx hb dX0_pairFor_68 rfl (lv_at hl 2 rfl) ?_
      refine va_iast hx hb hK hP hD hS 2 0 rfl rfl (inn hu9 (by omega)) dX0_pairFor_69 (fun H locs hP hD hS => ?_)
      have hf69 : upd T ((nI u).toNatClampNeg) g = upd T u g := by rw [ix_n (by omega)]
      have hP : va_P (dC, dI) vwCl [(h0, .inr (0, [.ref h1, .ref h2, .ref h3, .ref h4, .ref h5, .int (nI u)])), (h1, .inl (cI, 2000, .inl (upd F u f))), (h2, .inl (cI, 2000, .inl (upd T ((nI u).toNatClampNeg) g))), (h3, .inl (cJ, 2000, .inr (.inl C))), (h4, .inl (cJ, 300, .inr (.inl Hh))), (h5, .inl (cI, 300, .inl S))] H := hP
      have hD : va_D A [(h0, .inr (0, [.ref h1, .ref h2, .ref h3, .ref h4, .ref h5, .int (nI u)])), (h1, .inl (cI, 2000, .inl (upd F u f))), (h2, .inl (cI, 2000, .inl (upd T ((nI u).toNatClampNeg) g))), (h3, .inl (cJ, 2000, .inr (.inl C))), (h4, .inl (cJ, 300, .inr (.inl Hh))), (h5, .inl (cI, 300, .inl S))] := hD
      rw [hf69] at hP hD
      refine lv_aload_n hx hb dX0_pairFor_70 rfl (lv_at hl 0 rfl) ?_
      refine va_get (D := (dC, dI)) (ci := 0) (v := .ref h3) (C := RX0) (T := TX0) (N := 6) hx hb hts hin0 hown hK hP 0 rfl rfl 2 (by decide) (hts (.fieldLink RX0 18 "CallClusters$CallTable" "counts" "[J") (by decide +kernel)) (fun _ h9 => h9) rfl dX0_pairFor_71 ?_
      refine lv_aload_n hx hb dX0_pairFor_74 rfl (lv_at hl 0 rfl) ?_
      refine va_get (D := (dC, dI)) (ci := 0) (v := .int (nI u)) (C := RX0) (T := TX0) (N := 6) hx hb hts hin0 hown hK hP 0 rfl rfl 5 (by decide) (hts (.fieldLink RX0 28 "CallClusters$CallTable" "used" "I") (by decide +kernel)) (fun _ h9 => h9) rfl dX0_pairFor_75 ?_
      refine lv_lconst (v := 0) hx hb dX0_pairFor_78 (by decide) ?_
      refine va_last hx hb hK hP hD hS 3 1 rfl rfl (inn hu9 (by omega)) dX0_pairFor_79 (fun H locs hP hD hS => ?_)
      have hf79 : vp_updL C ((nI u).toNatClampNeg) 0 = vp_updL C u 0 := by rw [ix_n (by omega)]
      have hP : va_P (dC, dI) vwCl [(h0, .inr (0, [.ref h1, .ref h2, .ref h3, .ref h4, .ref h5, .int (nI u)])), (h1, .inl (cI, 2000, .inl (upd F u f))), (h2, .inl (cI, 2000, .inl (upd T u g))), (h3, .inl (cJ, 2000, .inr (.inl (vp_updL C ((nI u).toNatClampNeg) 0)))), (h4, .inl (cJ, 300, .inr (.inl Hh))), (h5, .inl (cI, 300, .inl S))] H := hP
      have hD : va_D A [(h0, .inr (0, [.ref h1, .ref h2, .ref h3, .ref h4, .ref h5, .int (nI u)])), (h1, .inl (cI, 2000, .inl (upd F u f))), (h2, .inl (cI, 2000, .inl (upd T u g))), (h3, .inl (cJ, 2000, .inr (.inl (vp_updL C ((nI u).toNatClampNeg) 0)))), (h4, .inl (cJ, 300, .inr (.inl Hh))), (h5, .inl (cI, 300, .inl S))] := hD
      rw [hf79] at hP hD
      refine lv_aload_n hx hb dX0_pairFor_80 rfl (lv_at hl 0 rfl) ?_
      refine lv_dup hx hb dX0_pairFor_81 rfl ?_
      refine va_get (D := (dC, dI)) (ci := 0) (v := .int (nI u)) (C := RX0) (T := TX0) (N := 6) hx hb hts hin0 hown hK hP 0 rfl rfl 5 (by decide) (hts (.fieldLink RX0 28 "CallClusters$CallTable" "used" "I") (by decide +kernel)) (fun _ h9 => h9) rfl dX0_pairFor_82 ?_
      refine lv_iconst (v := 1) hx hb dX0_pairFor_85 (by decide) ?_
      refine lv_iadd hx hb dX0_pairFor_86 ?_
      refine tp_i (y := nI (u + 1)) (nI_1 u) ?_
      refine va_put (D := (dC, dI)) (ci := 0) (v := .int (nI (u + 1))) (ty := .int) (C := RX0) (T := TX0) (N := 6) hx hb hts hin0 tyX0 tyX0_ok nmX0 hown hK hP hD hS 0 rfl rfl 5 (by decide) (hts (.fieldLink RX0 28 "CallClusters$CallTable" "used" "I") (by decide +kernel)) (fun _ h9 => h9) rfl (by decide +kernel) (rfl) (rfl) (Nat.le_of_ble_eq_true rfl) dX0_pairFor_87 (fun H locs hP hD hS => ?_)
      have hP : va_P (dC, dI) vwCl [(h0, .inr (0, [.ref h1, .ref h2, .ref h3, .ref h4, .ref h5, .int (nI (u + 1))])), (h1, .inl (cI, 2000, .inl (upd F u f))), (h2, .inl (cI, 2000, .inl (upd T u g))), (h3, .inl (cJ, 2000, .inr (.inl (vp_updL C u 0)))), (h4, .inl (cJ, 300, .inr (.inl Hh))), (h5, .inl (cI, 300, .inl S))] H := hP
      have hD : va_D A [(h0, .inr (0, [.ref h1, .ref h2, .ref h3, .ref h4, .ref h5, .int (nI (u + 1))])), (h1, .inl (cI, 2000, .inl (upd F u f))), (h2, .inl (cI, 2000, .inl (upd T u g))), (h3, .inl (cJ, 2000, .inr (.inl (vp_updL C u 0)))), (h4, .inl (cJ, 300, .inr (.inl Hh))), (h5, .inl (cI, 300, .inl S))] := hD
      refine lv_aload_n hx hb dX0_pairFor_90 rfl (lv_at hl 0 rfl) ?_
      refine va_get (D := (dC, dI)) (ci := 0) (v := .int (nI (u + 1))) (C := RX0) (T := TX0) (N := 6) hx hb hts hin0 hown hK hP 0 rfl rfl 5 (by decide) (hts (.fieldLink RX0 28 "CallClusters$CallTable" "used" "I") (by decide +kernel)) (fun _ h9 => h9) rfl dX0_pairFor_91 ?_
      refine lv_iconst (v := 1) hx hb dX0_pairFor_94 (by decide) ?_
      refine lv_isub hx hb dX0_pairFor_95 ?_
      refine tp_i (y := nI u) (nI_pred u) ?_
      have hP9 : va_P (dC, dI) vwCl [(h0, .inr (0, [.ref h1, .ref h2, .ref h3, .ref h4, .ref h5, .int (nI (u + 1))])), (h1, .inl (cI, 2000, .inl (upd F u f))), (h2, .inl (cI, 2000, .inl (upd T u g))), (h3, .inl (cJ, 2000, .inr (.inl (vp_updL C u 0)))), (h4, .inl (cJ, 300, .inr (.inl Hh))), (h5, .inl (cI, 300, .inl S))] H := hP
      have hD9 : va_D A [(h0, .inr (0, [.ref h1, .ref h2, .ref h3, .ref h4, .ref h5, .int (nI (u + 1))])), (h1, .inl (cI, 2000, .inl (upd F u f))), (h2, .inl (cI, 2000, .inl (upd T u g))), (h3, .inl (cJ, 2000, .inr (.inl (vp_updL C u 0)))), (h4, .inl (cJ, 300, .inr (.inl Hh))), (h5, .inl (cI, 300, .inl S))] := hD
      exact W.iret (v := nI u) hx hb hr (fun t ht hW => ⟨⟨nI u, (upd F u f, upd T u g, vp_updL C u 0, u + 1), rfl, Or.inr (Or.inr ⟨hp, hu9, rfl, rfl, rfl, rfl, rfl⟩), by rw [ht]; exact hP9, va_K.moved hW.alike hK, hD9⟩, hS.F ht⟩) hS.2.2 dX0_pairFor_96
    · -- pc 45, side 1
      have hu9 : u = 2000 := by have h9 : ¬ nI u < nI 2000 := c_1; have h8 : ¬ u < 2000 := fun h7 => h9 (nI_lt h7 (by omega)); omega
      refine lv_iconst (v := (-1)) hx hb dX0_pairFor_48 (by decide) ?_
      have hP9 : va_P (dC, dI) vwCl [(h0, .inr (0, [.ref h1, .ref h2, .ref h3, .ref h4, .ref h5, .int (nI u)])), (h1, .inl (cI, 2000, .inl F)), (h2, .inl (cI, 2000, .inl T)), (h3, .inl (cJ, 2000, .inr (.inl C))), (h4, .inl (cJ, 300, .inr (.inl Hh))), (h5, .inl (cI, 300, .inl S))] H := hP
      have hD9 : va_D A [(h0, .inr (0, [.ref h1, .ref h2, .ref h3, .ref h4, .ref h5, .int (nI u)])), (h1, .inl (cI, 2000, .inl F)), (h2, .inl (cI, 2000, .inl T)), (h3, .inl (cJ, 2000, .inr (.inl C))), (h4, .inl (cJ, 300, .inr (.inl Hh))), (h5, .inl (cI, 300, .inl S))] := hD
      exact W.iret (v := (-1)) hx hb hr (fun t ht hW => ⟨⟨(-1), (F, T, C, u), rfl, Or.inr (Or.inl ⟨hp, hu9, rfl, rfl, rfl, rfl, rfl⟩), by rw [ht]; exact hP9, va_K.moved hW.alike hK, hD9⟩, hS.F ht⟩) hS.2.2 dX0_pairFor_49
set_option maxHeartbeats 4000000 in
set_option maxRecDepth 100000 in
theorem lpX0_findCallers {p : Program} {l : Launch} {ev : Env} {s : State} {m : MethodId} {args : Array Value} {below : List Frame} {meth : Method} {c : Code} {Q : State → Prop} {A : Nat → Prop} {dC : Nat → ClassId} {dI : Nat → Nat → Nat} {cI cJ cZ : ClassId} (hx : p.tables.exec = Jvm.exec) (hb : c.code = cX0_findCallers) (hml : c.maxLocals = 3) (hts : ∀ w ∈ wsX0_findCallers, w.before args s = true) (hown : s.vm.findClass RX0 = some m.cls) (hK : va_K (dC, dI) vwCl [(cI, .int), (cJ, .long), (cZ, .boolean)] s) (hA : ∀ q : Nat, s.heap.size ≤ q → A q) {h0 : Nat} {h1 : Nat} {h2 : Nat} {h3 : Nat} {h4 : Nat} {h5 : Nat} {h6 : Nat} {F T : Nat → Int32} {C Hh : Nat → Int64} {z : Nat → Int32} {u : Nat} (hu : u ≤ 2000) (hF : ∀ i, i < u → vp_in (F i) 300) (hT : ∀ i, i < u → vp_in (T i) 300)  (kn : ∀ (H : Heap) (locs : List Loc) (ls : Array Slot), va_P (dC, dI) vwCl [(h0, .inr (0, [.ref h1, .ref h2, .ref h3, .ref h4, .ref h5, .int (nI u)])), (h1, .inl (cI, 2000, .inl F)), (h2, .inl (cI, 2000, .inl T)), (h3, .inl (cJ, 2000, .inr (.inl C))), (h4, .inl (cJ, 300, .inr (.inl Hh))), (h5, .inl (cI, 300, .inl (fcN F T C z u))), (h6, .inl (cI, 300, .inl z))] H → va_D A [(h0, .inr (0, [.ref h1, .ref h2, .ref h3, .ref h4, .ref h5, .int (nI u)])), (h1, .inl (cI, 2000, .inl F)), (h2, .inl (cI, 2000, .inl T)), (h3, .inl (cJ, 2000, .inr (.inl C))), (h4, .inl (cJ, 300, .inr (.inl Hh))), (h5, .inl (cI, 300, .inl (fcN F T C z u))), (h6, .inl (cI, 300, .inl z))] → va_S A s.heap H locs → lv_has ls 3 [(0, .ref h0), (1, .ref h6)] → W p l ev ({ frames := 1, cells := 0, slots := 0, locals := 23 } : Room) s m args below meth c H locs 0 0 Q (F0 m 81 ls [])) : ∀ (n : Nat) (k : Nat), k + n = u → ∀ (H : Heap) (locs : List Loc) (ls : Array Slot), va_P (dC, dI) vwCl [(h0, .inr (0, [.ref h1, .ref h2, .ref h3, .ref h4, .ref h5, .int (nI u)])), (h1, .inl (cI, 2000, .inl F)), (h2, .inl (cI, 2000, .inl T)), (h3, .inl (cJ, 2000, .inr (.inl C))), (h4, .inl (cJ, 300, .inr (.inl Hh))), (h5, .inl (cI, 300, .inl (fcN F T C z k))), (h6, .inl (cI, 300, .inl z))] H → va_D A [(h0, .inr (0, [.ref h1, .ref h2, .ref h3, .ref h4, .ref h5, .int (nI u)])), (h1, .inl (cI, 2000, .inl F)), (h2, .inl (cI, 2000, .inl T)), (h3, .inl (cJ, 2000, .inr (.inl C))), (h4, .inl (cJ, 300, .inr (.inl Hh))), (h5, .inl (cI, 300, .inl (fcN F T C z k))), (h6, .inl (cI, 300, .inl z))] → va_S A s.heap H locs → lv_has ls 3 [(0, .ref h0), (1, .ref h6), (2, .int (nI k))] → W p l ev ({ frames := 1, cells := 0, slots := 0, locals := 23 } : Room) s m args below meth c H locs 0 0 Q (F0 m 10 ls []) := by
  have hin0 : ∀ w ∈ wsX00, w ∈ wsX0_findCallers := by decide +kernel
  intro n
  induction n with
  | zero =>
    intro k hk H locs ls hP hD hS hl
    have hk : k = u := by omega
    subst hk
    refine lv_iload_n hx hb dX0_findCallers_10 rfl (lv_at hl 2 rfl) ?_
    refine lv_aload_n hx hb dX0_findCallers_11 rfl (lv_at hl 0 rfl) ?_
    refine va_get (D := (dC, dI)) (ci := 0) (v := .int (nI k)) (C := RX0) (T := TX0) (N := 6) hx hb hts hin0 hown hK hP 0 rfl rfl 5 (by decide) (hts (.fieldLink RX0 28 "CallClusters$CallTable" "used" "I") (by decide +kernel)) (fun _ h9 => h9) rfl dX0_findCallers_12 ?_
    refine lv_icmp_ge (tgt := 81) hx hb dX0_findCallers_15 (by decide) (fun c_1 => ?_) (fun c_1 => ?_)
    · -- pc 15, side 0
      exact kn   H locs ls hP hD hS (lv_sub hl [0, 1] rfl)
    · -- pc 15, side 1
      exact absurd (nI_le (Nat.le_refl _) (by omega)) c_1
  | succ n ih =>
    intro k hk H locs ls hP hD hS hl
    refine lv_iload_n hx hb dX0_findCallers_10 rfl (lv_at hl 2 rfl) ?_
    refine lv_aload_n hx hb dX0_findCallers_11 rfl (lv_at hl 0 rfl) ?_
    refine va_get (D := (dC, dI)) (ci := 0) (v := .int (nI u)) (C := RX0) (T := TX0) (N := 6) hx hb hts hin0 hown hK hP 0 rfl rfl 5 (by decide) (hts (.fieldLink RX0 28 "CallClusters$CallTable" "used" "I") (by decide +kernel)) (fun _ h9 => h9) rfl dX0_findCallers_12 ?_
    refine lv_icmp_ge (tgt := 81) hx hb dX0_findCallers_15 (by decide) (fun c_2 => ?_) (fun c_2 => ?_)
    · -- pc 15, side 0
      exact absurd c_2 (nI_ge (show k < u by omega) (by omega))
    · -- pc 15, side 1
      refine lv_aload_n hx hb dX0_findCallers_18 rfl (lv_at hl 0 rfl) ?_
      refine va_get (D := (dC, dI)) (ci := 0) (v := .ref h1) (C := RX0) (T := TX0) (N := 6) hx hb hts hin0 hown hK hP 0 rfl rfl 0 (by decide) (hts (.fieldLink RX0 9 "CallClusters$CallTable" "from" "[I") (by decide +kernel)) (fun _ h9 => h9) rfl dX0_findCallers_19 ?_
      refine lv_iload_n hx hb dX0_findCallers_22 rfl (lv_at hl 2 rfl) ?_
      refine va_iald hx hb hK hP 1 0 rfl rfl (inn (show k < 2000 by omega) (by omega)) dX0_findCallers_23 ?_
      refine tp_i (y := F k) (by rw [ix_n (by omega)]) ?_
      refine lv_aload_n hx hb dX0_findCallers_24 rfl (lv_at hl 0 rfl) ?_
      refine va_get (D := (dC, dI)) (ci := 0) (v := .ref h2) (C := RX0) (T := TX0) (N := 6) hx hb hts hin0 hown hK hP 0 rfl rfl 1 (by decide) (hts (.fieldLink RX0 15 "CallClusters$CallTable" "to" "[I") (by decide +kernel)) (fun _ h9 => h9) rfl dX0_findCallers_25 ?_
      refine lv_iload_n hx hb dX0_findCallers_28 rfl (lv_at hl 2 rfl) ?_
      refine va_iald hx hb hK hP 2 0 rfl rfl (inn (show k < 2000 by omega) (by omega)) dX0_findCallers_29 ?_
      refine tp_i (y := T k) (by rw [ix_n (by omega)]) ?_
      refine lv_icmp_eq (tgt := 75) hx hb dX0_findCallers_30 (by decide) (fun c_3 => ?_) (fun c_3 => ?_)
      · -- pc 30, side 0
        refine lv_iinc (v := nI (k + 1)) (lv' := [(2, .int (nI (k + 1))), (0, .ref h0), (1, .ref h6)]) hx hb dX0_findCallers_75 hl (k := 2) rfl (by exact nI_1 k) (by decide) rfl (fun ls hl => ?_)
        refine lv_goto (tgt := 10) hx hb dX0_findCallers_78 (by decide) ?_
        have hq : fcN F T C z k = fcN F T C z (k + 1) := by show _ = fcStep F T C z k (fcN F T C z k); unfold fcStep; simp only [c_3, if_true, if_false]
        rw [hq] at hP hD
        exact ih (k + 1) (by omega) H locs ls hP hD hS (lv_sub hl [1, 2, 0] rfl)
      · -- pc 30, side 1
        refine lv_aload_n hx hb dX0_findCallers_33 rfl (lv_at hl 1 rfl) ?_
        refine lv_aload_n hx hb dX0_findCallers_34 rfl (lv_at hl 0 rfl) ?_
        refine va_get (D := (dC, dI)) (ci := 0) (v := .ref h1) (C := RX0) (T := TX0) (N := 6) hx hb hts hin0 hown hK hP 0 rfl rfl 0 (by decide) (hts (.fieldLink RX0 9 "CallClusters$CallTable" "from" "[I") (by decide +kernel)) (fun _ h9 => h9) rfl dX0_findCallers_35 ?_
        refine lv_iload_n hx hb dX0_findCallers_38 rfl (lv_at hl 2 rfl) ?_
        refine va_iald hx hb hK hP 1 0 rfl rfl (inn (show k < 2000 by omega) (by omega)) dX0_findCallers_39 ?_
        refine tp_i (y := F k) (by rw [ix_n (by omega)]) ?_
        refine va_iald hx hb hK hP 6 0 rfl rfl (hF k (by omega)) dX0_findCallers_40 ?_
        refine lv_if_le (tgt := 75) hx hb dX0_findCallers_41 (by decide) (fun c_4 => ?_) (fun c_4 => ?_)
        · -- pc 41, side 0
          refine lv_iinc (v := nI (k + 1)) (lv' := [(2, .int (nI (k + 1))), (0, .ref h0), (1, .ref h6)]) hx hb dX0_findCallers_75 hl (k := 2) rfl (by exact nI_1 k) (by decide) rfl (fun ls hl => ?_)
          refine lv_goto (tgt := 10) hx hb dX0_findCallers_78 (by decide) ?_
          have hq : fcN F T C z k = fcN F T C z (k + 1) := by show _ = fcStep F T C z k (fcN F T C z k); unfold fcStep; simp only [c_3, c_4, if_true, if_false]
          rw [hq] at hP hD
          exact ih (k + 1) (by omega) H locs ls hP hD hS (lv_sub hl [1, 2, 0] rfl)
        · -- pc 41, side 1
          refine lv_aload_n hx hb dX0_findCallers_44 rfl (lv_at hl 0 rfl) ?_
          refine lv_iload_n hx hb dX0_findCallers_45 rfl (lv_at hl 2 rfl) ?_
          refine lv_aload_n hx hb dX0_findCallers_46 rfl (lv_at hl 0 rfl) ?_
          refine va_get (D := (dC, dI)) (ci := 0) (v := .ref h5) (C := RX0) (T := TX0) (N := 6) hx hb hts hin0 hown hK hP 0 rfl rfl 4 (by decide) (hts (.fieldLink RX0 25 "CallClusters$CallTable" "strongest" "[I") (by decide +kernel)) (fun _ h9 => h9) rfl dX0_findCallers_47 ?_
          refine lv_aload_n hx hb dX0_findCallers_50 rfl (lv_at hl 0 rfl) ?_
          refine va_get (D := (dC, dI)) (ci := 0) (v := .ref h2) (C := RX0) (T := TX0) (N := 6) hx hb hts hin0 hown hK hP 0 rfl rfl 1 (by decide) (hts (.fieldLink RX0 15 "CallClusters$CallTable" "to" "[I") (by decide +kernel)) (fun _ h9 => h9) rfl dX0_findCallers_51 ?_
          refine lv_iload_n hx hb dX0_findCallers_54 rfl (lv_at hl 2 rfl) ?_
          refine va_iald hx hb hK hP 2 0 rfl rfl (inn (show k < 2000 by omega) (by omega)) dX0_findCallers_55 ?_
          refine tp_i (y := T k) (by rw [ix_n (by omega)]) ?_
          refine va_iald hx hb hK hP 5 0 rfl rfl (hT k (by omega)) dX0_findCallers_56 ?_
          have hPc := hP.sub (ws' := [(h0, .inr (0, [.ref h1, .ref h2, .ref h3, .ref h4, .ref h5, .int (nI u)])), (h1, .inl (cI, 2000, .inl F)), (h2, .inl (cI, 2000, .inl T)), (h3, .inl (cJ, 2000, .inr (.inl C))), (h4, .inl (cJ, 300, .inr (.inl Hh))), (h5, .inl (cI, 300, .inl (fcN F T C z k)))]) [0, 1, 2, 3, 4, 5] rfl
          have hDc := hD.sub (ws' := [(h0, .inr (0, [.ref h1, .ref h2, .ref h3, .ref h4, .ref h5, .int (nI u)])), (h1, .inl (cI, 2000, .inl F)), (h2, .inl (cI, 2000, .inl T)), (h3, .inl (cJ, 2000, .inr (.inl C))), (h4, .inl (cJ, 300, .inr (.inl Hh))), (h5, .inl (cI, 300, .inl (fcN F T C z k)))]) [0, 1, 2, 3, 4, 5] (by decide) rfl
          have hFc := va_free (wc := [(h0, .inr (0, [.ref h1, .ref h2, .ref h3, .ref h4, .ref h5, .int (nI u)])), (h1, .inl (cI, 2000, .inl F)), (h2, .inl (cI, 2000, .inl T)), (h3, .inl (cJ, 2000, .inr (.inl C))), (h4, .inl (cJ, 300, .inr (.inl Hh))), (h5, .inl (cI, 300, .inl (fcN F T C z k)))]) hD hS hA [0, 1, 2, 3, 4, 5] rfl
          refine va_calli (va_runV (As := [.int (nI k), .int ((fcN F T C z k) ((T k).toNatClampNeg))]) (rest := []) ⟨hx, hb, hml, hown, hts⟩ (ct_X0_isStronger l dC dI cI cJ cZ H.size h0 h1 h2 h3 h4 h5 F T C Hh (fcN F T C z k) u k ((fcN F T C z k) ((T k).toNatClampNeg)) (by omega) (fcN_vin _ (by omega))) (cwV 2 hts gX0_findCallers_X0_isStronger rfl rfl rfl (by decide +kernel) ⟨Nat.le_of_ble_eq_true rfl, Nat.le_of_ble_eq_true rfl⟩) (pre_V hK hPc hDc (ci := 0) rfl rfl) rfl rfl hl.1 rfl (lv_room (Nat.le_of_ble_eq_true rfl)) dX0_findCallers_57 ⟨Nat.zero_le _, Nat.zero_le _⟩) hS (fun q _ h => hFc q h) hFc (fun r_5 uu t H1 locs ht hvm hw hB hz1 hk1 hS => ?_)
          obtain ⟨hP1, hK1, hD1⟩ := hB
          rw [ht] at hP1
          try dsimp only at hw
          have hP1 : va_P (dC, dI) vwCl [(h0, .inr (0, [.ref h1, .ref h2, .ref h3, .ref h4, .ref h5, .int (nI u)])), (h1, .inl (cI, 2000, .inl F)), (h2, .inl (cI, 2000, .inl T)), (h3, .inl (cJ, 2000, .inr (.inl C))), (h4, .inl (cJ, 300, .inr (.inl Hh))), (h5, .inl (cI, 300, .inl (fcN F T C z k)))] H1 := hP1
          obtain ⟨hP, hD⟩ := va_join (wr := [(h6, .inl (cI, 300, .inl z))]) (w1 := [(h0, .inr (0, [.ref h1, .ref h2, .ref h3, .ref h4, .ref h5, .int (nI u)])), (h1, .inl (cI, 2000, .inl F)), (h2, .inl (cI, 2000, .inl T)), (h3, .inl (cJ, 2000, .inr (.inl C))), (h4, .inl (cJ, 300, .inr (.inl Hh))), (h5, .inl (cI, 300, .inl (fcN F T C z k)))]) hP hD [0, 1, 2, 3, 4, 5] [6] rfl rfl (by decide) (by decide) hk1 hFc hP1 hD1
          have hP := hP.sub (ws' := [(h0, .inr (0, [.ref h1, .ref h2, .ref h3, .ref h4, .ref h5, .int (nI u)])), (h1, .inl (cI, 2000, .inl F)), (h2, .inl (cI, 2000, .inl T)), (h3, .inl (cJ, 2000, .inr (.inl C))), (h4, .inl (cJ, 300, .inr (.inl Hh))), (h5, .inl (cI, 300, .inl (fcN F T C z k))), (h6, .inl (cI, 300, .inl z))]) [1, 2, 3, 4, 5, 6, 0] rfl
          have hD := hD.sub (ws' := [(h0, .inr (0, [.ref h1, .ref h2, .ref h3, .ref h4, .ref h5, .int (nI u)])), (h1, .inl (cI, 2000, .inl F)), (h2, .inl (cI, 2000, .inl T)), (h3, .inl (cJ, 2000, .inr (.inl C))), (h4, .inl (cJ, 300, .inr (.inl Hh))), (h5, .inl (cI, 300, .inl (fcN F T C z k))), (h6, .inl (cI, 300, .inl z))]) [1, 2, 3, 4, 5, 6, 0] (by decide) rfl
          generalize H1 = H at hP hS ⊢
          refine lv_if_eq (tgt := 75) hx hb dX0_findCallers_60 (by decide) (fun c_6 => ?_) (fun c_6 => ?_)
          · -- pc 60, side 0
            rw [hw] at c_6
            refine lv_iinc (v := nI (k + 1)) (lv' := [(2, .int (nI (k + 1))), (0, .ref h0), (1, .ref h6)]) hx hb dX0_findCallers_75 hl (k := 2) rfl (by exact nI_1 k) (by decide) rfl (fun ls hl => ?_)
            refine lv_goto (tgt := 10) hx hb dX0_findCallers_78 (by decide) ?_
            have hq : fcN F T C z k = fcN F T C z (k + 1) := by show _ = fcStep F T C z k (fcN F T C z k); unfold fcStep; simp only [c_3, c_4, c_6, if_true, if_false]
            rw [hq] at hP hD
            exact ih (k + 1) (by omega) H locs ls hP hD hS (lv_sub hl [1, 2, 0] rfl)
          · -- pc 60, side 1
            rw [hw] at c_6
            refine lv_aload_n hx hb dX0_findCallers_63 rfl (lv_at hl 0 rfl) ?_
            refine va_get (D := (dC, dI)) (ci := 0) (v := .ref h5) (C := RX0) (T := TX0) (N := 6) hx hb hts hin0 hown hK hP 0 rfl rfl 4 (by decide) (hts (.fieldLink RX0 25 "CallClusters$CallTable" "strongest" "[I") (by decide +kernel)) (fun _ h9 => h9) rfl dX0_findCallers_64 ?_
            refine lv_aload_n hx hb dX0_findCallers_67 rfl (lv_at hl 0 rfl) ?_
            refine va_get (D := (dC, dI)) (ci := 0) (v := .ref h2) (C := RX0) (T := TX0) (N := 6) hx hb hts hin0 hown hK hP 0 rfl rfl 1 (by decide) (hts (.fieldLink RX0 15 "CallClusters$CallTable" "to" "[I") (by decide +kernel)) (fun _ h9 => h9) rfl dX0_findCallers_68 ?_
            refine lv_iload_n hx hb dX0_findCallers_71 rfl (lv_at hl 2 rfl) ?_
            refine va_iald hx hb hK hP 2 0 rfl rfl (inn (show k < 2000 by omega) (by omega)) dX0_findCallers_72 ?_
            refine tp_i (y := T k) (by rw [ix_n (by omega)]) ?_
            refine lv_iload_n hx hb dX0_findCallers_73 rfl (lv_at hl 2 rfl) ?_
            refine va_iast hx hb hK hP hD hS 5 0 rfl rfl (hT k (by omega)) dX0_findCallers_74 (fun H locs hP hD hS => ?_)
            have hP : va_P (dC, dI) vwCl [(h0, .inr (0, [.ref h1, .ref h2, .ref h3, .ref h4, .ref h5, .int (nI u)])), (h1, .inl (cI, 2000, .inl F)), (h2, .inl (cI, 2000, .inl T)), (h3, .inl (cJ, 2000, .inr (.inl C))), (h4, .inl (cJ, 300, .inr (.inl Hh))), (h5, .inl (cI, 300, .inl (upd (fcN F T C z k) ((T k).toNatClampNeg) (nI k)))), (h6, .inl (cI, 300, .inl z))] H := hP
            have hD : va_D A [(h0, .inr (0, [.ref h1, .ref h2, .ref h3, .ref h4, .ref h5, .int (nI u)])), (h1, .inl (cI, 2000, .inl F)), (h2, .inl (cI, 2000, .inl T)), (h3, .inl (cJ, 2000, .inr (.inl C))), (h4, .inl (cJ, 300, .inr (.inl Hh))), (h5, .inl (cI, 300, .inl (upd (fcN F T C z k) ((T k).toNatClampNeg) (nI k)))), (h6, .inl (cI, 300, .inl z))] := hD
            refine lv_iinc (v := nI (k + 1)) (lv' := [(2, .int (nI (k + 1))), (0, .ref h0), (1, .ref h6)]) hx hb dX0_findCallers_75 hl (k := 2) rfl (by exact nI_1 k) (by decide) rfl (fun ls hl => ?_)
            refine lv_goto (tgt := 10) hx hb dX0_findCallers_78 (by decide) ?_
            have hq : upd (fcN F T C z k) ((T k).toNatClampNeg) (nI k) = fcN F T C z (k + 1) := by show _ = fcStep F T C z k (fcN F T C z k); unfold fcStep; simp only [c_3, c_4, c_6, if_true, if_false]
            rw [hq] at hP hD
            exact ih (k + 1) (by omega) H locs ls hP hD hS (lv_sub hl [1, 2, 0] rfl)
set_option maxHeartbeats 4000000 in
set_option maxRecDepth 100000 in
theorem ct_X0_findCallers (l : Launch) (dC : Nat → ClassId) (dI : Nat → Nat → Nat) (cI cJ cZ : ClassId) (sz : Nat) (h0 : Nat) (h1 : Nat) (h2 : Nat) (h3 : Nat) (h4 : Nat) (h5 : Nat) (h6 : Nat) (F T : Nat → Int32) (C Hh : Nat → Int64) (S : Nat → Int32) (u : Nat) (z : Nat → Int32) (hu : u ≤ 2000) (hF : ∀ i, i < u → vp_in (F i) 300) (hT : ∀ i, i < u → vp_in (T i) 300) : Met l yX0_findCallers wsX0_findCallers ({ frames := 1, cells := 0, slots := 0, locals := 23 }) (va_Pc [.ref h0, .ref h6] (fun U => U.heap.size = sz ∧ va_P (dC, dI) vwCl [(h0, .inr (0, [.ref h1, .ref h2, .ref h3, .ref h4, .ref h5, .int (nI u)])), (h1, .inl (cI, 2000, .inl F)), (h2, .inl (cI, 2000, .inl T)), (h3, .inl (cJ, 2000, .inr (.inl C))), (h4, .inl (cJ, 300, .inr (.inl Hh))), (h5, .inl (cI, 300, .inl S)), (h6, .inl (cI, 300, .inl z))] U.heap ∧ va_K (dC, dI) vwCl [(cI, .int), (cJ, .long), (cZ, .boolean)] U ∧ va_D (fun _ => True) [(h0, .inr (0, [.ref h1, .ref h2, .ref h3, .ref h4, .ref h5, .int (nI u)])), (h1, .inl (cI, 2000, .inl F)), (h2, .inl (cI, 2000, .inl T)), (h3, .inl (cJ, 2000, .inr (.inl C))), (h4, .inl (cJ, 300, .inr (.inl Hh))), (h5, .inl (cI, 300, .inl S)), (h6, .inl (cI, 300, .inl z))])) (va_Qv (fun (uu : Unit) => True) (fun (uu : Unit) (t : State) => va_P (dC, dI) vwCl [(h0, .inr (0, [.ref h1, .ref h2, .ref h3, .ref h4, .ref h5, .int (nI u)])), (h1, .inl (cI, 2000, .inl F)), (h2, .inl (cI, 2000, .inl T)), (h3, .inl (cJ, 2000, .inr (.inl C))), (h4, .inl (cJ, 300, .inr (.inl Hh))), (h5, .inl (cI, 300, .inl (fcN F T C z u))), (h6, .inl (cI, 300, .inl z))] t.heap ∧ va_K (dC, dI) vwCl [(cI, .int), (cJ, .long), (cZ, .boolean)] t ∧ va_D (va_A [(h0, .inr (0, [.ref h1, .ref h2, .ref h3, .ref h4, .ref h5, .int (nI u)])), (h1, .inl (cI, 2000, .inl F)), (h2, .inl (cI, 2000, .inl T)), (h3, .inl (cJ, 2000, .inr (.inl C))), (h4, .inl (cJ, 300, .inr (.inl Hh))), (h5, .inl (cI, 300, .inl S)), (h6, .inl (cI, 300, .inl z))] sz) [(h0, .inr (0, [.ref h1, .ref h2, .ref h3, .ref h4, .ref h5, .int (nI u)])), (h1, .inl (cI, 2000, .inl F)), (h2, .inl (cI, 2000, .inl T)), (h3, .inl (cJ, 2000, .inr (.inl C))), (h4, .inl (cJ, 300, .inr (.inl Hh))), (h5, .inl (cI, 300, .inl (fcN F T C z u))), (h6, .inl (cI, 300, .inl z))]) (va_A [(h0, .inr (0, [.ref h1, .ref h2, .ref h3, .ref h4, .ref h5, .int (nI u)])), (h1, .inl (cI, 2000, .inl F)), (h2, .inl (cI, 2000, .inl T)), (h3, .inl (cJ, 2000, .inr (.inl C))), (h4, .inl (cJ, 300, .inr (.inl Hh))), (h5, .inl (cI, 300, .inl S)), (h6, .inl (cI, 300, .inl z))] sz)) 0 0 (va_A [(h0, .inr (0, [.ref h1, .ref h2, .ref h3, .ref h4, .ref h5, .int (nI u)])), (h1, .inl (cI, 2000, .inl F)), (h2, .inl (cI, 2000, .inl T)), (h3, .inl (cJ, 2000, .inr (.inl C))), (h4, .inl (cJ, 300, .inr (.inl Hh))), (h5, .inl (cI, 300, .inl S)), (h6, .inl (cI, 300, .inl z))] sz) := by
  refine Met.ofW (cc := cX0_findCallers) (maxL := 3) (ret := none) (by decide) rfl ?_
  intro p ev s m args below meth c s₁ Bd hml hv
  obtain ⟨rfl, hsz, hP, hK, hD0⟩ := hv
  have hx := Bd.exec
  have hb := Bd.bytes
  have hr := Bd.returns
  have hts := atoms_spec (ws := wsX0_findCallers) Bd.pre
  have hown : s.vm.findClass RX0 = some m.cls := findClass_of_methodNamed Bd.named
  have hlocks := Bd.notSynchronized
  have hin0 : ∀ w ∈ wsX00, w ∈ wsX0_findCallers := by decide +kernel
  subst hsz
  have hD := hD0.self (sz := s.heap.size)
  generalize hAe : va_A [(h0, .inr (0, [.ref h1, .ref h2, .ref h3, .ref h4, .ref h5, .int (nI u)])), (h1, .inl (cI, 2000, .inl F)), (h2, .inl (cI, 2000, .inl T)), (h3, .inl (cJ, 2000, .inr (.inl C))), (h4, .inl (cJ, 300, .inr (.inl Hh))), (h5, .inl (cI, 300, .inl S)), (h6, .inl (cI, 300, .inl z))] s.heap.size = A at hD ⊢
  have hA : ∀ q : Nat, s.heap.size ≤ q → A q := fun q h => by rw [← hAe]; exact Or.inr h
  have hS : va_S A s.heap s.heap [] := va_S.rf
  have hl := lv_entry ([.ref h0, .ref h6]) (n := 3) (Nat.le_of_ble_eq_true rfl)
  rw [lg_entry_eq]
  generalize (lg_sl ([.ref h0, .ref h6]) ++ List.replicate (3 - (lg_sl ([.ref h0, .ref h6])).length) Slot.unset).toArray = ls at hl ⊢
  have hl : lv_has ls 3 [(0, .ref h0), (1, .ref h6)] := hl
  generalize hHe : s.heap = H at hP ⊢
  have hS : va_S A s.heap H [] := hHe ▸ hS
  refine lv_aload_n hx hb dX0_findCallers_0 rfl (lv_at hl 0 rfl) ?_
  refine va_get (D := (dC, dI)) (ci := 0) (v := .ref h5) (C := RX0) (T := TX0) (N := 6) hx hb hts hin0 hown hK hP 0 rfl rfl 4 (by decide) (hts (.fieldLink RX0 25 "CallClusters$CallTable" "strongest" "[I") (by decide +kernel)) (fun _ h9 => h9) rfl dX0_findCallers_1 ?_
  refine lv_iconst (v := (-1)) hx hb dX0_findCallers_4 (by decide) ?_
  have hPc := hP.sub (ws' := [(h5, .inl (cI, 300, .inl S))]) [5] rfl
  have hDc := hD.sub (ws' := [(h5, .inl (cI, 300, .inl S))]) [5] (by decide) rfl
  have hFc := va_free (wc := [(h5, .inl (cI, 300, .inl S))]) hD hS hA [5] rfl
  refine va_callv (va_runS (As := [.ref h5, .int ((-1))]) (rest := []) ⟨hx, hb, hml, hown, hts⟩ (ct_J7_fill_53178 l dC dI cI cJ cZ H.size h5 300 S (-1) (by decide)) (va_cwS 2 hts gX0_findCallers_J7_fill_53178 rfl rfl rfl (by decide +kernel) ⟨Nat.le_of_ble_eq_true rfl, Nat.le_of_ble_eq_true rfl⟩) (pre_S hK hPc hDc) rfl rfl hl.1 rfl (lv_room (Nat.le_of_ble_eq_true rfl)) dX0_findCallers_5 ⟨Nat.zero_le _, Nat.zero_le _⟩) hS (fun q _ h => hFc q h) hFc (fun uu t H1 locs ht hvm hw hB hz1 hk1 hS => ?_)
  obtain ⟨hP1, hK1, hD1⟩ := hB
  rw [ht] at hP1
  try dsimp only at hw
  have hP1 : va_P (dC, dI) vwCl [(h5, .inl (cI, 300, .inl (mix 300 (fun _ => (-1)) S)))] H1 := hP1
  obtain ⟨hP, hD⟩ := va_join (wr := [(h0, .inr (0, [.ref h1, .ref h2, .ref h3, .ref h4, .ref h5, .int (nI u)])), (h1, .inl (cI, 2000, .inl F)), (h2, .inl (cI, 2000, .inl T)), (h3, .inl (cJ, 2000, .inr (.inl C))), (h4, .inl (cJ, 300, .inr (.inl Hh))), (h6, .inl (cI, 300, .inl z))]) (w1 := [(h5, .inl (cI, 300, .inl (mix 300 (fun _ => (-1)) S)))]) hP hD [5] [0, 1, 2, 3, 4, 6] rfl rfl (by decide) (by decide) hk1 hFc hP1 hD1
  have hP := hP.sub (ws' := [(h0, .inr (0, [.ref h1, .ref h2, .ref h3, .ref h4, .ref h5, .int (nI u)])), (h1, .inl (cI, 2000, .inl F)), (h2, .inl (cI, 2000, .inl T)), (h3, .inl (cJ, 2000, .inr (.inl C))), (h4, .inl (cJ, 300, .inr (.inl Hh))), (h5, .inl (cI, 300, .inl (mix 300 (fun _ => (-1)) S))), (h6, .inl (cI, 300, .inl z))]) [0, 1, 2, 3, 4, 6, 5] rfl
  have hD := hD.sub (ws' := [(h0, .inr (0, [.ref h1, .ref h2, .ref h3, .ref h4, .ref h5, .int (nI u)])), (h1, .inl (cI, 2000, .inl F)), (h2, .inl (cI, 2000, .inl T)), (h3, .inl (cJ, 2000, .inr (.inl C))), (h4, .inl (cJ, 300, .inr (.inl Hh))), (h5, .inl (cI, 300, .inl (mix 300 (fun _ => (-1)) S))), (h6, .inl (cI, 300, .inl z))]) [0, 1, 2, 3, 4, 6, 5] (by decide) rfl
  generalize H1 = H at hP hS ⊢
  refine lv_iconst (v := 0) hx hb dX0_findCallers_8 (by decide) ?_
  refine tp_i (y := nI 0) (nI_0.symm) ?_
  refine lv_istore_n (lv' := [(2, .int (nI 0)), (0, .ref h0), (1, .ref h6)]) hx hb dX0_findCallers_9 rfl hl (by decide) rfl (fun ls hl => ?_)
  have hP := hP.ei 5 (fun _ => -1) rfl (fun j hj => mix_lt _ _ hj)
  have hD := hD.set (p := 5) (e := .inl (cI, 300, .inl (fun _ => -1))) rfl
  have hP : va_P (dC, dI) vwCl [(h0, .inr (0, [.ref h1, .ref h2, .ref h3, .ref h4, .ref h5, .int (nI u)])), (h1, .inl (cI, 2000, .inl F)), (h2, .inl (cI, 2000, .inl T)), (h3, .inl (cJ, 2000, .inr (.inl C))), (h4, .inl (cJ, 300, .inr (.inl Hh))), (h5, .inl (cI, 300, .inl (fun _ => -1))), (h6, .inl (cI, 300, .inl z))] H := hP
  have hD : va_D A [(h0, .inr (0, [.ref h1, .ref h2, .ref h3, .ref h4, .ref h5, .int (nI u)])), (h1, .inl (cI, 2000, .inl F)), (h2, .inl (cI, 2000, .inl T)), (h3, .inl (cJ, 2000, .inr (.inl C))), (h4, .inl (cJ, 300, .inr (.inl Hh))), (h5, .inl (cI, 300, .inl (fun _ => -1))), (h6, .inl (cI, 300, .inl z))] := hD
  refine lpX0_findCallers (F := F) (T := T) (C := C) (z := z) (u := u) hx hb hml hts hown hK hA hu hF hT (fun  H locs ls hP hD hS hl => ?_) (u) 0 (by omega) H _ ls hP hD hS (lv_sub hl [1, 2, 0] rfl)
  · -- kn
    have hP9 : va_P (dC, dI) vwCl [(h0, .inr (0, [.ref h1, .ref h2, .ref h3, .ref h4, .ref h5, .int (nI u)])), (h1, .inl (cI, 2000, .inl F)), (h2, .inl (cI, 2000, .inl T)), (h3, .inl (cJ, 2000, .inr (.inl C))), (h4, .inl (cJ, 300, .inr (.inl Hh))), (h5, .inl (cI, 300, .inl (fcN F T C z u))), (h6, .inl (cI, 300, .inl z))] H := hP
    have hD9 : va_D A [(h0, .inr (0, [.ref h1, .ref h2, .ref h3, .ref h4, .ref h5, .int (nI u)])), (h1, .inl (cI, 2000, .inl F)), (h2, .inl (cI, 2000, .inl T)), (h3, .inl (cJ, 2000, .inr (.inl C))), (h4, .inl (cJ, 300, .inr (.inl Hh))), (h5, .inl (cI, 300, .inl (fcN F T C z u))), (h6, .inl (cI, 300, .inl z))] := hD
    exact W.vret hx hb hr (fun t ht hW => ⟨⟨(), rfl, trivial, by rw [ht]; exact hP9, va_K.moved hW.alike hK, hD9⟩, hS.F ht⟩) hS.2.2 dX0_findCallers_81
set_option maxHeartbeats 4000000 in
set_option maxRecDepth 100000 in
theorem lpX0_costIn {p : Program} {l : Launch} {ev : Env} {s : State} {m : MethodId} {args : Array Value} {below : List Frame} {meth : Method} {c : Code} {Q : State → Prop} {A : Nat → Prop} {dC : Nat → ClassId} {dI : Nat → Nat → Nat} {cI cJ cZ : ClassId} (hx : p.tables.exec = Jvm.exec) (hb : c.code = cX0_costIn) (hml : c.maxLocals = 9) (hts : ∀ w ∈ wsX0_costIn, w.before args s = true) (hown : s.vm.findClass RX0 = some m.cls) (hK : va_K (dC, dI) vwCl [(cI, .int), (cJ, .long), (cZ, .boolean)] s) (hA : ∀ q : Nat, s.heap.size ≤ q → A q) {h0 : Nat} {h1 : Nat} {h2 : Nat} {h3 : Nat} {h4 : Nat} {h5 : Nat} {h6 : Nat} {h7 : Nat} {h8 : Nat} {F T : Nat → Int32} {C Hh : Nat → Int64} {S : Nat → Int32} {u : Nat} {M : Nat → Int32} {B : Nat → Int64} {v : Int32} {y : Int64} (hu : u ≤ 2000) (hF : ∀ i, i < u → vp_in (F i) 300) (hT : ∀ i, i < u → vp_in (T i) 300)  (kn : ∀ (H : Heap) (locs : List Loc) (ls : Array Slot), va_P (dC, dI) vwCl [(h0, .inr (0, [.ref h1, .ref h2, .ref h3, .ref h4, .ref h5, .int (nI u)])), (h1, .inl (cI, 2000, .inl F)), (h2, .inl (cI, 2000, .inl T)), (h3, .inl (cJ, 2000, .inr (.inl C))), (h4, .inl (cJ, 300, .inr (.inl Hh))), (h5, .inl (cI, 300, .inl S)), (h6, .inr (2, [.ref h7, .ref h8, .int v, .long y])), (h7, .inl (cI, 300, .inl M)), (h8, .inl (cJ, 300, .inr (.inl B)))] H → va_D A [(h0, .inr (0, [.ref h1, .ref h2, .ref h3, .ref h4, .ref h5, .int (nI u)])), (h1, .inl (cI, 2000, .inl F)), (h2, .inl (cI, 2000, .inl T)), (h3, .inl (cJ, 2000, .inr (.inl C))), (h4, .inl (cJ, 300, .inr (.inl Hh))), (h5, .inl (cI, 300, .inl S)), (h6, .inr (2, [.ref h7, .ref h8, .int v, .long y])), (h7, .inl (cI, 300, .inl M)), (h8, .inl (cJ, 300, .inr (.inl B)))] → va_S A s.heap H locs → lv_has ls 9 [(0, .ref h0), (2, .long (costN F T C B u))] → W p l ev ({ frames := 1, cells := 0, slots := 0, locals := 21 } : Room) s m args below meth c H locs 0 0 Q (F0 m 83 ls [])) : ∀ (n : Nat) (k : Nat), k + n = u → ∀ (H : Heap) (locs : List Loc) (ls : Array Slot), va_P (dC, dI) vwCl [(h0, .inr (0, [.ref h1, .ref h2, .ref h3, .ref h4, .ref h5, .int (nI u)])), (h1, .inl (cI, 2000, .inl F)), (h2, .inl (cI, 2000, .inl T)), (h3, .inl (cJ, 2000, .inr (.inl C))), (h4, .inl (cJ, 300, .inr (.inl Hh))), (h5, .inl (cI, 300, .inl S)), (h6, .inr (2, [.ref h7, .ref h8, .int v, .long y])), (h7, .inl (cI, 300, .inl M)), (h8, .inl (cJ, 300, .inr (.inl B)))] H → va_D A [(h0, .inr (0, [.ref h1, .ref h2, .ref h3, .ref h4, .ref h5, .int (nI u)])), (h1, .inl (cI, 2000, .inl F)), (h2, .inl (cI, 2000, .inl T)), (h3, .inl (cJ, 2000, .inr (.inl C))), (h4, .inl (cJ, 300, .inr (.inl Hh))), (h5, .inl (cI, 300, .inl S)), (h6, .inr (2, [.ref h7, .ref h8, .int v, .long y])), (h7, .inl (cI, 300, .inl M)), (h8, .inl (cJ, 300, .inr (.inl B)))] → va_S A s.heap H locs → lv_has ls 9 [(0, .ref h0), (1, .ref h6), (2, .long (costN F T C B k)), (4, .int (nI k))] → W p l ev ({ frames := 1, cells := 0, slots := 0, locals := 21 } : Room) s m args below meth c H locs 0 0 Q (F0 m 5 ls []) := by
  have hin0 : ∀ w ∈ wsX00, w ∈ wsX0_costIn := by decide +kernel
  intro n
  induction n with
  | zero =>
    intro k hk H locs ls hP hD hS hl
    have hk : k = u := by omega
    subst hk
    refine lv_iload hx hb dX0_costIn_5 (lv_at hl 3 rfl) ?_
    refine lv_aload_n hx hb dX0_costIn_7 rfl (lv_at hl 0 rfl) ?_
    refine va_get (D := (dC, dI)) (ci := 0) (v := .int (nI k)) (C := RX0) (T := TX0) (N := 6) hx hb hts hin0 hown hK hP 0 rfl rfl 5 (by decide) (hts (.fieldLink RX0 28 "CallClusters$CallTable" "used" "I") (by decide +kernel)) (fun _ h9 => h9) rfl dX0_costIn_8 ?_
    refine lv_icmp_ge (tgt := 83) hx hb dX0_costIn_11 (by decide) (fun c_1 => ?_) (fun c_1 => ?_)
    · -- pc 11, side 0
      exact kn   H locs ls hP hD hS (lv_sub hl [0, 2] rfl)
    · -- pc 11, side 1
      exact absurd (nI_le (Nat.le_refl _) (by omega)) c_1
  | succ n ih =>
    intro k hk H locs ls hP hD hS hl
    refine lv_iload hx hb dX0_costIn_5 (lv_at hl 3 rfl) ?_
    refine lv_aload_n hx hb dX0_costIn_7 rfl (lv_at hl 0 rfl) ?_
    refine va_get (D := (dC, dI)) (ci := 0) (v := .int (nI u)) (C := RX0) (T := TX0) (N := 6) hx hb hts hin0 hown hK hP 0 rfl rfl 5 (by decide) (hts (.fieldLink RX0 28 "CallClusters$CallTable" "used" "I") (by decide +kernel)) (fun _ h9 => h9) rfl dX0_costIn_8 ?_
    refine lv_icmp_ge (tgt := 83) hx hb dX0_costIn_11 (by decide) (fun c_2 => ?_) (fun c_2 => ?_)
    · -- pc 11, side 0
      exact absurd c_2 (nI_ge (show k < u by omega) (by omega))
    · -- pc 11, side 1
      refine lv_aload_n hx hb dX0_costIn_14 rfl (lv_at hl 1 rfl) ?_
      refine lv_aload_n hx hb dX0_costIn_15 rfl (lv_at hl 0 rfl) ?_
      refine va_get (D := (dC, dI)) (ci := 0) (v := .ref h1) (C := RX0) (T := TX0) (N := 6) hx hb hts hin0 hown hK hP 0 rfl rfl 0 (by decide) (hts (.fieldLink RX0 9 "CallClusters$CallTable" "from" "[I") (by decide +kernel)) (fun _ h9 => h9) rfl dX0_costIn_16 ?_
      refine lv_iload hx hb dX0_costIn_19 (lv_at hl 3 rfl) ?_
      refine va_iald hx hb hK hP 1 0 rfl rfl (inn (show k < 2000 by omega) (by omega)) dX0_costIn_21 ?_
      refine tp_i (y := F k) (by rw [ix_n (by omega)]) ?_
      have hPc := hP.sub (ws' := [(h6, .inr (2, [.ref h7, .ref h8, .int v, .long y])), (h7, .inl (cI, 300, .inl M)), (h8, .inl (cJ, 300, .inr (.inl B)))]) [6, 7, 8] rfl
      have hDc := hD.sub (ws' := [(h6, .inr (2, [.ref h7, .ref h8, .int v, .long y])), (h7, .inl (cI, 300, .inl M)), (h8, .inl (cJ, 300, .inr (.inl B)))]) [6, 7, 8] (by decide) rfl
      have hFc := va_free (wc := [(h6, .inr (2, [.ref h7, .ref h8, .int v, .long y])), (h7, .inl (cI, 300, .inl M)), (h8, .inl (cJ, 300, .inr (.inl B)))]) hD hS hA [6, 7, 8] rfl
      refine va_calll (va_runV (As := [.int (F k)]) (rest := []) ⟨hx, hb, hml, hown, hts⟩ (ct_X2_beginOf l dC dI cI cJ cZ H.size h6 h7 h8 M B v y (F k) (hF k (by omega))) (cwV 1 hts gX0_costIn_X2_beginOf rfl rfl rfl (by decide +kernel) ⟨Nat.le_of_ble_eq_true rfl, Nat.le_of_ble_eq_true rfl⟩) (pre_V hK hPc hDc (ci := 2) rfl rfl) rfl rfl hl.1 rfl (lv_room (Nat.le_of_ble_eq_true rfl)) dX0_costIn_22 ⟨Nat.zero_le _, Nat.zero_le _⟩) hS (fun q _ h => hFc q h) hFc (fun r_3 uu t H1 locs ht hvm hw hB hz1 hk1 hS => ?_)
      obtain ⟨hP1, hK1, hD1⟩ := hB
      rw [ht] at hP1
      try dsimp only at hw
      have hP1 : va_P (dC, dI) vwCl [(h6, .inr (2, [.ref h7, .ref h8, .int v, .long y])), (h7, .inl (cI, 300, .inl M)), (h8, .inl (cJ, 300, .inr (.inl B)))] H1 := hP1
      obtain ⟨hP, hD⟩ := va_join (wr := [(h0, .inr (0, [.ref h1, .ref h2, .ref h3, .ref h4, .ref h5, .int (nI u)])), (h1, .inl (cI, 2000, .inl F)), (h2, .inl (cI, 2000, .inl T)), (h3, .inl (cJ, 2000, .inr (.inl C))), (h4, .inl (cJ, 300, .inr (.inl Hh))), (h5, .inl (cI, 300, .inl S))]) (w1 := [(h6, .inr (2, [.ref h7, .ref h8, .int v, .long y])), (h7, .inl (cI, 300, .inl M)), (h8, .inl (cJ, 300, .inr (.inl B)))]) hP hD [6, 7, 8] [0, 1, 2, 3, 4, 5] rfl rfl (by decide) (by decide) hk1 hFc hP1 hD1
      have hP := hP.sub (ws' := [(h0, .inr (0, [.ref h1, .ref h2, .ref h3, .ref h4, .ref h5, .int (nI u)])), (h1, .inl (cI, 2000, .inl F)), (h2, .inl (cI, 2000, .inl T)), (h3, .inl (cJ, 2000, .inr (.inl C))), (h4, .inl (cJ, 300, .inr (.inl Hh))), (h5, .inl (cI, 300, .inl S)), (h6, .inr (2, [.ref h7, .ref h8, .int v, .long y])), (h7, .inl (cI, 300, .inl M)), (h8, .inl (cJ, 300, .inr (.inl B)))]) [0, 1, 2, 3, 4, 5, 6, 7, 8] rfl
      have hD := hD.sub (ws' := [(h0, .inr (0, [.ref h1, .ref h2, .ref h3, .ref h4, .ref h5, .int (nI u)])), (h1, .inl (cI, 2000, .inl F)), (h2, .inl (cI, 2000, .inl T)), (h3, .inl (cJ, 2000, .inr (.inl C))), (h4, .inl (cJ, 300, .inr (.inl Hh))), (h5, .inl (cI, 300, .inl S)), (h6, .inr (2, [.ref h7, .ref h8, .int v, .long y])), (h7, .inl (cI, 300, .inl M)), (h8, .inl (cJ, 300, .inr (.inl B)))]) [0, 1, 2, 3, 4, 5, 6, 7, 8] (by decide) rfl
      generalize H1 = H at hP hS ⊢
      subst hw
      refine lv_lstore (lv' := [(5, .long (B ((F k).toNatClampNeg))), (0, .ref h0), (1, .ref h6), (2, .long (costN F T C B k)), (4, .int (nI k))]) hx hb dX0_costIn_25 hl (by decide) rfl (fun ls hl => ?_)
      refine lv_aload_n hx hb dX0_costIn_27 rfl (lv_at hl 2 rfl) ?_
      refine lv_aload_n hx hb dX0_costIn_28 rfl (lv_at hl 1 rfl) ?_
      refine va_get (D := (dC, dI)) (ci := 0) (v := .ref h2) (C := RX0) (T := TX0) (N := 6) hx hb hts hin0 hown hK hP 0 rfl rfl 1 (by decide) (hts (.fieldLink RX0 15 "CallClusters$CallTable" "to" "[I") (by decide +kernel)) (fun _ h9 => h9) rfl dX0_costIn_29 ?_
      refine lv_iload hx hb dX0_costIn_32 (lv_at hl 4 rfl) ?_
      refine va_iald hx hb hK hP 2 0 rfl rfl (inn (show k < 2000 by omega) (by omega)) dX0_costIn_34 ?_
      refine tp_i (y := T k) (by rw [ix_n (by omega)]) ?_
      have hPc := hP.sub (ws' := [(h6, .inr (2, [.ref h7, .ref h8, .int v, .long y])), (h7, .inl (cI, 300, .inl M)), (h8, .inl (cJ, 300, .inr (.inl B)))]) [6, 7, 8] rfl
      have hDc := hD.sub (ws' := [(h6, .inr (2, [.ref h7, .ref h8, .int v, .long y])), (h7, .inl (cI, 300, .inl M)), (h8, .inl (cJ, 300, .inr (.inl B)))]) [6, 7, 8] (by decide) rfl
      have hFc := va_free (wc := [(h6, .inr (2, [.ref h7, .ref h8, .int v, .long y])), (h7, .inl (cI, 300, .inl M)), (h8, .inl (cJ, 300, .inr (.inl B)))]) hD hS hA [6, 7, 8] rfl
      refine va_calll (va_runV (As := [.int (T k)]) (rest := []) ⟨hx, hb, hml, hown, hts⟩ (ct_X2_beginOf l dC dI cI cJ cZ H.size h6 h7 h8 M B v y (T k) (hT k (by omega))) (cwV 1 hts gX0_costIn_X2_beginOf rfl rfl rfl (by decide +kernel) ⟨Nat.le_of_ble_eq_true rfl, Nat.le_of_ble_eq_true rfl⟩) (pre_V hK hPc hDc (ci := 2) rfl rfl) rfl rfl hl.1 rfl (lv_room (Nat.le_of_ble_eq_true rfl)) dX0_costIn_35 ⟨Nat.zero_le _, Nat.zero_le _⟩) hS (fun q _ h => hFc q h) hFc (fun r_4 uu t H1 locs ht hvm hw hB hz1 hk1 hS => ?_)
      obtain ⟨hP1, hK1, hD1⟩ := hB
      rw [ht] at hP1
      try dsimp only at hw
      have hP1 : va_P (dC, dI) vwCl [(h6, .inr (2, [.ref h7, .ref h8, .int v, .long y])), (h7, .inl (cI, 300, .inl M)), (h8, .inl (cJ, 300, .inr (.inl B)))] H1 := hP1
      obtain ⟨hP, hD⟩ := va_join (wr := [(h0, .inr (0, [.ref h1, .ref h2, .ref h3, .ref h4, .ref h5, .int (nI u)])), (h1, .inl (cI, 2000, .inl F)), (h2, .inl (cI, 2000, .inl T)), (h3, .inl (cJ, 2000, .inr (.inl C))), (h4, .inl (cJ, 300, .inr (.inl Hh))), (h5, .inl (cI, 300, .inl S))]) (w1 := [(h6, .inr (2, [.ref h7, .ref h8, .int v, .long y])), (h7, .inl (cI, 300, .inl M)), (h8, .inl (cJ, 300, .inr (.inl B)))]) hP hD [6, 7, 8] [0, 1, 2, 3, 4, 5] rfl rfl (by decide) (by decide) hk1 hFc hP1 hD1
      have hP := hP.sub (ws' := [(h0, .inr (0, [.ref h1, .ref h2, .ref h3, .ref h4, .ref h5, .int (nI u)])), (h1, .inl (cI, 2000, .inl F)), (h2, .inl (cI, 2000, .inl T)), (h3, .inl (cJ, 2000, .inr (.inl C))), (h4, .inl (cJ, 300, .inr (.inl Hh))), (h5, .inl (cI, 300, .inl S)), (h6, .inr (2, [.ref h7, .ref h8, .int v, .long y])), (h7, .inl (cI, 300, .inl M)), (h8, .inl (cJ, 300, .inr (.inl B)))]) [0, 1, 2, 3, 4, 5, 6, 7, 8] rfl
      have hD := hD.sub (ws' := [(h0, .inr (0, [.ref h1, .ref h2, .ref h3, .ref h4, .ref h5, .int (nI u)])), (h1, .inl (cI, 2000, .inl F)), (h2, .inl (cI, 2000, .inl T)), (h3, .inl (cJ, 2000, .inr (.inl C))), (h4, .inl (cJ, 300, .inr (.inl Hh))), (h5, .inl (cI, 300, .inl S)), (h6, .inr (2, [.ref h7, .ref h8, .int v, .long y])), (h7, .inl (cI, 300, .inl M)), (h8, .inl (cJ, 300, .inr (.inl B)))]) [0, 1, 2, 3, 4, 5, 6, 7, 8] (by decide) rfl
      generalize H1 = H at hP hS ⊢
      subst hw
      refine lv_lstore (lv' := [(7, .long (B ((T k).toNatClampNeg))), (5, .long (B ((F k).toNatClampNeg))), (0, .ref h0), (1, .ref h6), (2, .long (costN F T C B k)), (4, .int (nI k))]) hx hb dX0_costIn_38 hl (by decide) rfl (fun ls hl => ?_)
      refine lv_lload hx hb dX0_costIn_40 (lv_at hl 1 rfl) ?_
      refine lv_ldc2 (v := (-1)) hx hb hown (hts (.constantLong RX0 59 (-1)) (by decide +kernel)) dX0_costIn_42 ?_
      refine W.lcmp hx hb dX0_costIn_45 ?_
      refine lv_if_eq (tgt := 77) hx hb dX0_costIn_46 (by decide) (fun c_5 => ?_) (fun c_5 => ?_)
      · -- pc 46, side 0
        rw [lg_cmp_eq] at c_5
        refine lv_iinc (v := nI (k + 1)) (lv' := [(4, .int (nI (k + 1))), (7, .long (B ((T k).toNatClampNeg))), (5, .long (B ((F k).toNatClampNeg))), (0, .ref h0), (1, .ref h6), (2, .long (costN F T C B k))]) hx hb dX0_costIn_77 hl (k := 5) rfl (by exact nI_1 k) (by decide) rfl (fun ls hl => ?_)
        refine lv_goto (tgt := 5) hx hb dX0_costIn_80 (by decide) ?_
        have hq : costN F T C B k = costN F T C B (k + 1) := by show _ = costT (C k) (B ((F k).toNatClampNeg)) (B ((T k).toNatClampNeg)) (costN F T C B k); unfold costT; simp only [c_5, if_true, if_false]
        rw [hq] at hl
        exact ih (k + 1) (by omega) H locs ls hP hD hS (lv_sub hl [3, 4, 5, 0] rfl)
      · -- pc 46, side 1
        rw [lg_cmp_eq] at c_5
        refine lv_lload hx hb dX0_costIn_49 (lv_at hl 0 rfl) ?_
        refine lv_ldc2 (v := (-1)) hx hb hown (hts (.constantLong RX0 59 (-1)) (by decide +kernel)) dX0_costIn_51 ?_
        refine W.lcmp hx hb dX0_costIn_54 ?_
        refine lv_if_eq (tgt := 77) hx hb dX0_costIn_55 (by decide) (fun c_6 => ?_) (fun c_6 => ?_)
        · -- pc 55, side 0
          rw [lg_cmp_eq] at c_6
          refine lv_iinc (v := nI (k + 1)) (lv' := [(4, .int (nI (k + 1))), (7, .long (B ((T k).toNatClampNeg))), (5, .long (B ((F k).toNatClampNeg))), (0, .ref h0), (1, .ref h6), (2, .long (costN F T C B k))]) hx hb dX0_costIn_77 hl (k := 5) rfl (by exact nI_1 k) (by decide) rfl (fun ls hl => ?_)
          refine lv_goto (tgt := 5) hx hb dX0_costIn_80 (by decide) ?_
          have hq : costN F T C B k = costN F T C B (k + 1) := by show _ = costT (C k) (B ((F k).toNatClampNeg)) (B ((T k).toNatClampNeg)) (costN F T C B k); unfold costT; simp only [c_5, c_6, if_true, if_false]
          rw [hq] at hl
          exact ih (k + 1) (by omega) H locs ls hP hD hS (lv_sub hl [3, 4, 5, 0] rfl)
        · -- pc 55, side 1
          rw [lg_cmp_eq] at c_6
          refine lv_lload_n hx hb dX0_costIn_58 rfl (lv_at hl 4 rfl) ?_
          refine lv_aload_n hx hb dX0_costIn_59 rfl (lv_at hl 2 rfl) ?_
          refine va_get (D := (dC, dI)) (ci := 0) (v := .ref h3) (C := RX0) (T := TX0) (N := 6) hx hb hts hin0 hown hK hP 0 rfl rfl 2 (by decide) (hts (.fieldLink RX0 18 "CallClusters$CallTable" "counts" "[J") (by decide +kernel)) (fun _ h9 => h9) rfl dX0_costIn_60 ?_
          refine lv_iload hx hb dX0_costIn_63 (lv_at hl 5 rfl) ?_
          refine va_lald hx hb hK hP 3 1 rfl rfl (inn (show k < 2000 by omega) (by omega)) dX0_costIn_65 ?_
          refine tp_l (y := C k) (by rw [ix_n (by omega)]) ?_
          refine lv_lload hx hb dX0_costIn_66 (lv_at hl 1 rfl) ?_
          refine lv_lload hx hb dX0_costIn_68 (lv_at hl 0 rfl) ?_
          refine lv_lsub hx hb dX0_costIn_70 ?_
          refine va_mabs_long hx hb (hml.trans hl.1.symm) hown (hts (.methodLink RX0 61 Lib.MathLoose.abs_long.x) (by decide +kernel)) (hts (.static Lib.MathLoose.abs_long.x) (by decide +kernel)) (hts (.initialized "java/lang/Math") (by decide +kernel)) (hts (.code Lib.MathLoose.abs_long.x Lib.MathLoose.abs_long.code 2 (some .long)) (by decide +kernel)) (Nat.le_of_ble_eq_true rfl) (Nat.le_of_ble_eq_true rfl) (Nat.zero_le _) (Nat.zero_le _) dX0_costIn_71 ?_
          refine lv_lmul hx hb dX0_costIn_74 ?_
          refine lv_ladd hx hb dX0_costIn_75 ?_
          refine lv_lstore_n (lv' := [(2, .long ((costN F T C B k) + ((C k) * (if 0 < (B ((F k).toNatClampNeg)) - (B ((T k).toNatClampNeg)) then (B ((F k).toNatClampNeg)) - (B ((T k).toNatClampNeg)) else -((B ((F k).toNatClampNeg)) - (B ((T k).toNatClampNeg))))))), (7, .long (B ((T k).toNatClampNeg))), (5, .long (B ((F k).toNatClampNeg))), (0, .ref h0), (1, .ref h6), (4, .int (nI k))]) hx hb dX0_costIn_76 rfl hl (by decide) rfl (fun ls hl => ?_)
          refine lv_iinc (v := nI (k + 1)) (lv' := [(4, .int (nI (k + 1))), (2, .long ((costN F T C B k) + ((C k) * (if 0 < (B ((F k).toNatClampNeg)) - (B ((T k).toNatClampNeg)) then (B ((F k).toNatClampNeg)) - (B ((T k).toNatClampNeg)) else -((B ((F k).toNatClampNeg)) - (B ((T k).toNatClampNeg))))))), (7, .long (B ((T k).toNatClampNeg))), (5, .long (B ((F k).toNatClampNeg))), (0, .ref h0), (1, .ref h6)]) hx hb dX0_costIn_77 hl (k := 5) rfl (by exact nI_1 k) (by decide) rfl (fun ls hl => ?_)
          refine lv_goto (tgt := 5) hx hb dX0_costIn_80 (by decide) ?_
          have hq : (costN F T C B k) + ((C k) * (if 0 < (B ((F k).toNatClampNeg)) - (B ((T k).toNatClampNeg)) then (B ((F k).toNatClampNeg)) - (B ((T k).toNatClampNeg)) else -((B ((F k).toNatClampNeg)) - (B ((T k).toNatClampNeg))))) = costN F T C B (k + 1) := by show _ = costT (C k) (B ((F k).toNatClampNeg)) (B ((T k).toNatClampNeg)) (costN F T C B k); unfold costT; simp only [c_5, c_6, if_true, if_false]
          rw [hq] at hl
          exact ih (k + 1) (by omega) H locs ls hP hD hS (lv_sub hl [4, 5, 1, 0] rfl)
set_option maxHeartbeats 4000000 in
set_option maxRecDepth 100000 in
theorem ct_X0_costIn (l : Launch) (dC : Nat → ClassId) (dI : Nat → Nat → Nat) (cI cJ cZ : ClassId) (sz : Nat) (h0 : Nat) (h1 : Nat) (h2 : Nat) (h3 : Nat) (h4 : Nat) (h5 : Nat) (h6 : Nat) (h7 : Nat) (h8 : Nat) (F T : Nat → Int32) (C Hh : Nat → Int64) (S : Nat → Int32) (u : Nat) (M : Nat → Int32) (B : Nat → Int64) (v : Int32) (y : Int64) (hu : u ≤ 2000) (hF : ∀ i, i < u → vp_in (F i) 300) (hT : ∀ i, i < u → vp_in (T i) 300) : Met l yX0_costIn wsX0_costIn ({ frames := 1, cells := 0, slots := 0, locals := 21 }) (va_Pc [.ref h0, .ref h6] (fun U => U.heap.size = sz ∧ va_P (dC, dI) vwCl [(h0, .inr (0, [.ref h1, .ref h2, .ref h3, .ref h4, .ref h5, .int (nI u)])), (h1, .inl (cI, 2000, .inl F)), (h2, .inl (cI, 2000, .inl T)), (h3, .inl (cJ, 2000, .inr (.inl C))), (h4, .inl (cJ, 300, .inr (.inl Hh))), (h5, .inl (cI, 300, .inl S)), (h6, .inr (2, [.ref h7, .ref h8, .int v, .long y])), (h7, .inl (cI, 300, .inl M)), (h8, .inl (cJ, 300, .inr (.inl B)))] U.heap ∧ va_K (dC, dI) vwCl [(cI, .int), (cJ, .long), (cZ, .boolean)] U ∧ va_D (fun _ => True) [(h0, .inr (0, [.ref h1, .ref h2, .ref h3, .ref h4, .ref h5, .int (nI u)])), (h1, .inl (cI, 2000, .inl F)), (h2, .inl (cI, 2000, .inl T)), (h3, .inl (cJ, 2000, .inr (.inl C))), (h4, .inl (cJ, 300, .inr (.inl Hh))), (h5, .inl (cI, 300, .inl S)), (h6, .inr (2, [.ref h7, .ref h8, .int v, .long y])), (h7, .inl (cI, 300, .inl M)), (h8, .inl (cJ, 300, .inr (.inl B)))])) (va_Ql (fun (r : Int64) (uu : Unit) => r = costN F T C B u) (fun (uu : Unit) (t : State) => va_P (dC, dI) vwCl [(h0, .inr (0, [.ref h1, .ref h2, .ref h3, .ref h4, .ref h5, .int (nI u)])), (h1, .inl (cI, 2000, .inl F)), (h2, .inl (cI, 2000, .inl T)), (h3, .inl (cJ, 2000, .inr (.inl C))), (h4, .inl (cJ, 300, .inr (.inl Hh))), (h5, .inl (cI, 300, .inl S)), (h6, .inr (2, [.ref h7, .ref h8, .int v, .long y])), (h7, .inl (cI, 300, .inl M)), (h8, .inl (cJ, 300, .inr (.inl B)))] t.heap ∧ va_K (dC, dI) vwCl [(cI, .int), (cJ, .long), (cZ, .boolean)] t ∧ va_D (va_A [(h0, .inr (0, [.ref h1, .ref h2, .ref h3, .ref h4, .ref h5, .int (nI u)])), (h1, .inl (cI, 2000, .inl F)), (h2, .inl (cI, 2000, .inl T)), (h3, .inl (cJ, 2000, .inr (.inl C))), (h4, .inl (cJ, 300, .inr (.inl Hh))), (h5, .inl (cI, 300, .inl S)), (h6, .inr (2, [.ref h7, .ref h8, .int v, .long y])), (h7, .inl (cI, 300, .inl M)), (h8, .inl (cJ, 300, .inr (.inl B)))] sz) [(h0, .inr (0, [.ref h1, .ref h2, .ref h3, .ref h4, .ref h5, .int (nI u)])), (h1, .inl (cI, 2000, .inl F)), (h2, .inl (cI, 2000, .inl T)), (h3, .inl (cJ, 2000, .inr (.inl C))), (h4, .inl (cJ, 300, .inr (.inl Hh))), (h5, .inl (cI, 300, .inl S)), (h6, .inr (2, [.ref h7, .ref h8, .int v, .long y])), (h7, .inl (cI, 300, .inl M)), (h8, .inl (cJ, 300, .inr (.inl B)))]) (va_A [(h0, .inr (0, [.ref h1, .ref h2, .ref h3, .ref h4, .ref h5, .int (nI u)])), (h1, .inl (cI, 2000, .inl F)), (h2, .inl (cI, 2000, .inl T)), (h3, .inl (cJ, 2000, .inr (.inl C))), (h4, .inl (cJ, 300, .inr (.inl Hh))), (h5, .inl (cI, 300, .inl S)), (h6, .inr (2, [.ref h7, .ref h8, .int v, .long y])), (h7, .inl (cI, 300, .inl M)), (h8, .inl (cJ, 300, .inr (.inl B)))] sz)) 0 0 (va_A [(h0, .inr (0, [.ref h1, .ref h2, .ref h3, .ref h4, .ref h5, .int (nI u)])), (h1, .inl (cI, 2000, .inl F)), (h2, .inl (cI, 2000, .inl T)), (h3, .inl (cJ, 2000, .inr (.inl C))), (h4, .inl (cJ, 300, .inr (.inl Hh))), (h5, .inl (cI, 300, .inl S)), (h6, .inr (2, [.ref h7, .ref h8, .int v, .long y])), (h7, .inl (cI, 300, .inl M)), (h8, .inl (cJ, 300, .inr (.inl B)))] sz) := by
  refine Met.ofW (cc := cX0_costIn) (maxL := 9) (ret := (some .long)) (by decide) rfl ?_
  intro p ev s m args below meth c s₁ Bd hml hv
  obtain ⟨rfl, hsz, hP, hK, hD0⟩ := hv
  have hx := Bd.exec
  have hb := Bd.bytes
  have hr := Bd.returns
  have hts := atoms_spec (ws := wsX0_costIn) Bd.pre
  have hown : s.vm.findClass RX0 = some m.cls := findClass_of_methodNamed Bd.named
  have hlocks := Bd.notSynchronized
  have hin0 : ∀ w ∈ wsX00, w ∈ wsX0_costIn := by decide +kernel
  subst hsz
  have hD := hD0.self (sz := s.heap.size)
  generalize hAe : va_A [(h0, .inr (0, [.ref h1, .ref h2, .ref h3, .ref h4, .ref h5, .int (nI u)])), (h1, .inl (cI, 2000, .inl F)), (h2, .inl (cI, 2000, .inl T)), (h3, .inl (cJ, 2000, .inr (.inl C))), (h4, .inl (cJ, 300, .inr (.inl Hh))), (h5, .inl (cI, 300, .inl S)), (h6, .inr (2, [.ref h7, .ref h8, .int v, .long y])), (h7, .inl (cI, 300, .inl M)), (h8, .inl (cJ, 300, .inr (.inl B)))] s.heap.size = A at hD ⊢
  have hA : ∀ q : Nat, s.heap.size ≤ q → A q := fun q h => by rw [← hAe]; exact Or.inr h
  have hS : va_S A s.heap s.heap [] := va_S.rf
  have hl := lv_entry ([.ref h0, .ref h6]) (n := 9) (Nat.le_of_ble_eq_true rfl)
  rw [lg_entry_eq]
  generalize (lg_sl ([.ref h0, .ref h6]) ++ List.replicate (9 - (lg_sl ([.ref h0, .ref h6])).length) Slot.unset).toArray = ls at hl ⊢
  have hl : lv_has ls 9 [(0, .ref h0), (1, .ref h6)] := hl
  generalize hHe : s.heap = H at hP ⊢
  have hS : va_S A s.heap H [] := hHe ▸ hS
  refine lv_lconst (v := 0) hx hb dX0_costIn_0 (by decide) ?_
  refine tp_l (y := costN F T C B 0) (rfl) ?_
  refine lv_lstore_n (lv' := [(2, .long (costN F T C B 0)), (0, .ref h0), (1, .ref h6)]) hx hb dX0_costIn_1 rfl hl (by decide) rfl (fun ls hl => ?_)
  refine lv_iconst (v := 0) hx hb dX0_costIn_2 (by decide) ?_
  refine tp_i (y := nI 0) (nI_0.symm) ?_
  refine lv_istore (lv' := [(4, .int (nI 0)), (2, .long (costN F T C B 0)), (0, .ref h0), (1, .ref h6)]) hx hb dX0_costIn_3 hl (by decide) rfl (fun ls hl => ?_)
  refine lpX0_costIn (F := F) (T := T) (C := C) (B := B) (u := u) hx hb hml hts hown hK hA hu hF hT (fun  H locs ls hP hD hS hl => ?_) (u) 0 (by omega) H _ ls hP hD hS (lv_sub hl [2, 3, 1, 0] rfl)
  · -- kn
    refine lv_lload_n hx hb dX0_costIn_83 rfl (lv_at hl 1 rfl) ?_
    have hP9 : va_P (dC, dI) vwCl [(h0, .inr (0, [.ref h1, .ref h2, .ref h3, .ref h4, .ref h5, .int (nI u)])), (h1, .inl (cI, 2000, .inl F)), (h2, .inl (cI, 2000, .inl T)), (h3, .inl (cJ, 2000, .inr (.inl C))), (h4, .inl (cJ, 300, .inr (.inl Hh))), (h5, .inl (cI, 300, .inl S)), (h6, .inr (2, [.ref h7, .ref h8, .int v, .long y])), (h7, .inl (cI, 300, .inl M)), (h8, .inl (cJ, 300, .inr (.inl B)))] H := hP
    have hD9 : va_D A [(h0, .inr (0, [.ref h1, .ref h2, .ref h3, .ref h4, .ref h5, .int (nI u)])), (h1, .inl (cI, 2000, .inl F)), (h2, .inl (cI, 2000, .inl T)), (h3, .inl (cJ, 2000, .inr (.inl C))), (h4, .inl (cJ, 300, .inr (.inl Hh))), (h5, .inl (cI, 300, .inl S)), (h6, .inr (2, [.ref h7, .ref h8, .int v, .long y])), (h7, .inl (cI, 300, .inl M)), (h8, .inl (cJ, 300, .inr (.inl B)))] := hD
    exact W.lret (v := costN F T C B u) hx hb hr (fun t ht hW => ⟨⟨costN F T C B u, (), rfl, rfl, by rw [ht]; exact hP9, va_K.moved hW.alike hK, hD9⟩, hS.F ht⟩) hS.2.2 dX0_costIn_84
set_option maxHeartbeats 4000000 in
set_option maxRecDepth 100000 in
theorem ct_X0_init (l : Launch) (dC : Nat → ClassId) (dI : Nat → Nat → Nat) (cI cJ cZ : ClassId) (sz : Nat) (h0 : Nat)   : Met l yX0_init wsX0_init ({ frames := 1, cells := 5, slots := 6600, locals := 12 }) (va_Pc [.ref h0] (fun U => U.heap.size = sz ∧ va_P (dC, dI) vwCl [(h0, .inr (0, [.null, .null, .null, .null, .null, .int 0]))] U.heap ∧ va_K (dC, dI) vwCl [(cI, .int), (cJ, .long), (cZ, .boolean)] U ∧ va_D (fun _ => True) [(h0, .inr (0, [.null, .null, .null, .null, .null, .int 0]))])) (va_Qv (fun (uu : Unit) => True) (fun (uu : Unit) (t : State) => ∃ (h1 h2 h3 h4 h5 : Nat), va_P (dC, dI) vwCl [(h0, .inr (0, [.ref h1, .ref h2, .ref h3, .ref h4, .ref h5, .int 0])), (h1, .inl (cI, 2000, .inl (fun _ => 0))), (h2, .inl (cI, 2000, .inl (fun _ => 0))), (h3, .inl (cJ, 2000, .inr (.inl (fun _ => 0)))), (h4, .inl (cJ, 300, .inr (.inl (fun _ => 0)))), (h5, .inl (cI, 300, .inl (fun _ => 0)))] t.heap ∧ va_K (dC, dI) vwCl [(cI, .int), (cJ, .long), (cZ, .boolean)] t ∧ va_D (va_A [(h0, .inr (0, [.null, .null, .null, .null, .null, .int 0]))] sz) [(h0, .inr (0, [.ref h1, .ref h2, .ref h3, .ref h4, .ref h5, .int 0])), (h1, .inl (cI, 2000, .inl (fun _ => 0))), (h2, .inl (cI, 2000, .inl (fun _ => 0))), (h3, .inl (cJ, 2000, .inr (.inl (fun _ => 0)))), (h4, .inl (cJ, 300, .inr (.inl (fun _ => 0)))), (h5, .inl (cI, 300, .inl (fun _ => 0)))]) (va_A [(h0, .inr (0, [.null, .null, .null, .null, .null, .int 0]))] sz)) 5 6600 (va_A [(h0, .inr (0, [.null, .null, .null, .null, .null, .int 0]))] sz) := by
  refine Met.ofW (cc := cX0_init) (maxL := 1) (ret := none) (by decide) rfl ?_
  intro p ev s m args below meth c s₁ Bd hml hv
  obtain ⟨rfl, hsz, hP, hK, hD0⟩ := hv
  have hx := Bd.exec
  have hb := Bd.bytes
  have hr := Bd.returns
  have hts := atoms_spec (ws := wsX0_init) Bd.pre
  have hown : s.vm.findClass RX0 = some m.cls := findClass_of_methodNamed Bd.named
  have hlocks := Bd.notSynchronized
  have hin : meth.name = "<init>" := (name_of_methodNamed Bd.named Bd.method).1
  have hin0 : ∀ w ∈ wsX00, w ∈ wsX0_init := by decide +kernel
  subst hsz
  have hD := hD0.self (sz := s.heap.size)
  generalize hAe : va_A [(h0, .inr (0, [.null, .null, .null, .null, .null, .int 0]))] s.heap.size = A at hD ⊢
  have hA : ∀ q : Nat, s.heap.size ≤ q → A q := fun q h => by rw [← hAe]; exact Or.inr h
  have hS : va_S A s.heap s.heap [] := va_S.rf
  have hl := lv_entry ([.ref h0]) (n := 1) (Nat.le_of_ble_eq_true rfl)
  rw [lg_entry_eq]
  generalize (lg_sl ([.ref h0]) ++ List.replicate (1 - (lg_sl ([.ref h0])).length) Slot.unset).toArray = ls at hl ⊢
  have hl : lv_has ls 1 [(0, .ref h0)] := hl
  generalize hHe : s.heap = H at hP ⊢
  have hS : va_S A s.heap H [] := hHe ▸ hS
  refine lv_aload_n hx hb dX0_init_0 rfl (lv_at hl 0 rfl) ?_
  refine W.objInit hx hb hown (hts (.methodLink RX0 3 objectInit) (by decide +kernel)) (hts (.instanceMethod objectInit) (by decide +kernel)) (hts (.code objectInit ⟨#[0xb1]⟩ 1 none) (by decide +kernel)) rfl (by rw [hml]; exact hl.1) rfl dX0_init_1 (Nat.le_of_ble_eq_true rfl) (Nat.le_of_ble_eq_true rfl) ?_
  refine W.eq (g2 := F0 m 4 ls []) rfl ?_
  refine lv_aload_n hx hb dX0_init_4 rfl (lv_at hl 0 rfl) ?_
  refine lv_sipush (v := 2000) hx hb dX0_init_5 (by decide) ?_
  refine new_a (atype := .int) (ty := .int) (cA := cI) (a0 := (2000, .inl (fun _ => 0))) (N' := 2000) hx hb (hts (.arrayClass .int) (by decide +kernel)) rfl hK 0 rfl (fun _ _ h => h) hP hD hS hA (vp_zero_i _) (by decide) (by decide) (by decide) (by decide) (by decide) dX0_init_8 (fun a_1 H hP hD hS => ?_)
  have hP : va_P (dC, dI) vwCl [(h0, .inr (0, [.null, .null, .null, .null, .null, .int 0])), (a_1, .inl (cI, 2000, .inl (fun _ => 0)))] H := hP
  have hD : va_D A [(h0, .inr (0, [.null, .null, .null, .null, .null, .int 0])), (a_1, .inl (cI, 2000, .inl (fun _ => 0)))] := hD
  refine W.widen (k := 1) (n := 2000) (by omega) (by omega) ?_
  refine va_putF (D := (dC, dI)) (ci := 0) (v := .ref a_1) (ty := (.array .int)) (C := RX0) (T := TX0) (N := 6) hx hb hts hin0 tyX0 tyX0_ok nmX0 hown hK hP hD hS 0 rfl rfl 0 (by decide) (hts (.fieldLink RX0 9 "CallClusters$CallTable" "from" "[I") (by decide +kernel)) (fun _ h9 => h9) rfl hin rfl (by decide +kernel) (rfl) (rfl) (Nat.le_of_ble_eq_true rfl) dX0_init_10 (fun H locs hP hD hS => ?_)
  have hP : va_P (dC, dI) vwCl [(h0, .inr (0, [.ref a_1, .null, .null, .null, .null, .int 0])), (a_1, .inl (cI, 2000, .inl (fun _ => 0)))] H := hP
  have hD : va_D A [(h0, .inr (0, [.ref a_1, .null, .null, .null, .null, .int 0])), (a_1, .inl (cI, 2000, .inl (fun _ => 0)))] := hD
  refine lv_aload_n hx hb dX0_init_13 rfl (lv_at hl 0 rfl) ?_
  refine lv_sipush (v := 2000) hx hb dX0_init_14 (by decide) ?_
  refine new_a (atype := .int) (ty := .int) (cA := cI) (a0 := (2000, .inl (fun _ => 0))) (N' := 2000) hx hb (hts (.arrayClass .int) (by decide +kernel)) rfl hK 0 rfl (fun _ _ h => h) hP hD hS hA (vp_zero_i _) (by decide) (by decide) (by decide) (by decide) (by decide) dX0_init_17 (fun a_2 H hP hD hS => ?_)
  have hP : va_P (dC, dI) vwCl [(h0, .inr (0, [.ref a_1, .null, .null, .null, .null, .int 0])), (a_1, .inl (cI, 2000, .inl (fun _ => 0))), (a_2, .inl (cI, 2000, .inl (fun _ => 0)))] H := hP
  have hD : va_D A [(h0, .inr (0, [.ref a_1, .null, .null, .null, .null, .int 0])), (a_1, .inl (cI, 2000, .inl (fun _ => 0))), (a_2, .inl (cI, 2000, .inl (fun _ => 0)))] := hD
  refine W.widen (k := 2) (n := 4000) (by omega) (by omega) ?_
  refine va_putF (D := (dC, dI)) (ci := 0) (v := .ref a_2) (ty := (.array .int)) (C := RX0) (T := TX0) (N := 6) hx hb hts hin0 tyX0 tyX0_ok nmX0 hown hK hP hD hS 0 rfl rfl 1 (by decide) (hts (.fieldLink RX0 15 "CallClusters$CallTable" "to" "[I") (by decide +kernel)) (fun _ h9 => h9) rfl hin rfl (by decide +kernel) (rfl) (rfl) (Nat.le_of_ble_eq_true rfl) dX0_init_19 (fun H locs hP hD hS => ?_)
  have hP : va_P (dC, dI) vwCl [(h0, .inr (0, [.ref a_1, .ref a_2, .null, .null, .null, .int 0])), (a_1, .inl (cI, 2000, .inl (fun _ => 0))), (a_2, .inl (cI, 2000, .inl (fun _ => 0)))] H := hP
  have hD : va_D A [(h0, .inr (0, [.ref a_1, .ref a_2, .null, .null, .null, .int 0])), (a_1, .inl (cI, 2000, .inl (fun _ => 0))), (a_2, .inl (cI, 2000, .inl (fun _ => 0)))] := hD
  refine lv_aload_n hx hb dX0_init_22 rfl (lv_at hl 0 rfl) ?_
  refine lv_sipush (v := 2000) hx hb dX0_init_23 (by decide) ?_
  refine new_a (atype := .long) (ty := .long) (cA := cJ) (a0 := (2000, .inr (.inl (fun _ => 0)))) (N' := 2000) hx hb (hts (.arrayClass .long) (by decide +kernel)) rfl hK 1 rfl (fun _ _ h => h) hP hD hS hA (vp_zero_l _) (by decide) (by decide) (by decide) (by decide) (by decide) dX0_init_26 (fun a_3 H hP hD hS => ?_)
  have hP : va_P (dC, dI) vwCl [(h0, .inr (0, [.ref a_1, .ref a_2, .null, .null, .null, .int 0])), (a_1, .inl (cI, 2000, .inl (fun _ => 0))), (a_2, .inl (cI, 2000, .inl (fun _ => 0))), (a_3, .inl (cJ, 2000, .inr (.inl (fun _ => 0))))] H := hP
  have hD : va_D A [(h0, .inr (0, [.ref a_1, .ref a_2, .null, .null, .null, .int 0])), (a_1, .inl (cI, 2000, .inl (fun _ => 0))), (a_2, .inl (cI, 2000, .inl (fun _ => 0))), (a_3, .inl (cJ, 2000, .inr (.inl (fun _ => 0))))] := hD
  refine W.widen (k := 3) (n := 6000) (by omega) (by omega) ?_
  refine va_putF (D := (dC, dI)) (ci := 0) (v := .ref a_3) (ty := (.array .long)) (C := RX0) (T := TX0) (N := 6) hx hb hts hin0 tyX0 tyX0_ok nmX0 hown hK hP hD hS 0 rfl rfl 2 (by decide) (hts (.fieldLink RX0 18 "CallClusters$CallTable" "counts" "[J") (by decide +kernel)) (fun _ h9 => h9) rfl hin rfl (by decide +kernel) (rfl) (rfl) (Nat.le_of_ble_eq_true rfl) dX0_init_28 (fun H locs hP hD hS => ?_)
  have hP : va_P (dC, dI) vwCl [(h0, .inr (0, [.ref a_1, .ref a_2, .ref a_3, .null, .null, .int 0])), (a_1, .inl (cI, 2000, .inl (fun _ => 0))), (a_2, .inl (cI, 2000, .inl (fun _ => 0))), (a_3, .inl (cJ, 2000, .inr (.inl (fun _ => 0))))] H := hP
  have hD : va_D A [(h0, .inr (0, [.ref a_1, .ref a_2, .ref a_3, .null, .null, .int 0])), (a_1, .inl (cI, 2000, .inl (fun _ => 0))), (a_2, .inl (cI, 2000, .inl (fun _ => 0))), (a_3, .inl (cJ, 2000, .inr (.inl (fun _ => 0))))] := hD
  refine lv_aload_n hx hb dX0_init_31 rfl (lv_at hl 0 rfl) ?_
  refine lv_sipush (v := 300) hx hb dX0_init_32 (by decide) ?_
  refine new_a (atype := .long) (ty := .long) (cA := cJ) (a0 := (300, .inr (.inl (fun _ => 0)))) (N' := 300) hx hb (hts (.arrayClass .long) (by decide +kernel)) rfl hK 1 rfl (fun _ _ h => h) hP hD hS hA (vp_zero_l _) (by decide) (by decide) (by decide) (by decide) (by decide) dX0_init_35 (fun a_4 H hP hD hS => ?_)
  have hP : va_P (dC, dI) vwCl [(h0, .inr (0, [.ref a_1, .ref a_2, .ref a_3, .null, .null, .int 0])), (a_1, .inl (cI, 2000, .inl (fun _ => 0))), (a_2, .inl (cI, 2000, .inl (fun _ => 0))), (a_3, .inl (cJ, 2000, .inr (.inl (fun _ => 0)))), (a_4, .inl (cJ, 300, .inr (.inl (fun _ => 0))))] H := hP
  have hD : va_D A [(h0, .inr (0, [.ref a_1, .ref a_2, .ref a_3, .null, .null, .int 0])), (a_1, .inl (cI, 2000, .inl (fun _ => 0))), (a_2, .inl (cI, 2000, .inl (fun _ => 0))), (a_3, .inl (cJ, 2000, .inr (.inl (fun _ => 0)))), (a_4, .inl (cJ, 300, .inr (.inl (fun _ => 0))))] := hD
  refine W.widen (k := 4) (n := 6300) (by omega) (by omega) ?_
  refine va_putF (D := (dC, dI)) (ci := 0) (v := .ref a_4) (ty := (.array .long)) (C := RX0) (T := TX0) (N := 6) hx hb hts hin0 tyX0 tyX0_ok nmX0 hown hK hP hD hS 0 rfl rfl 3 (by decide) (hts (.fieldLink RX0 22 "CallClusters$CallTable" "heats" "[J") (by decide +kernel)) (fun _ h9 => h9) rfl hin rfl (by decide +kernel) (rfl) (rfl) (Nat.le_of_ble_eq_true rfl) dX0_init_37 (fun H locs hP hD hS => ?_)
  have hP : va_P (dC, dI) vwCl [(h0, .inr (0, [.ref a_1, .ref a_2, .ref a_3, .ref a_4, .null, .int 0])), (a_1, .inl (cI, 2000, .inl (fun _ => 0))), (a_2, .inl (cI, 2000, .inl (fun _ => 0))), (a_3, .inl (cJ, 2000, .inr (.inl (fun _ => 0)))), (a_4, .inl (cJ, 300, .inr (.inl (fun _ => 0))))] H := hP
  have hD : va_D A [(h0, .inr (0, [.ref a_1, .ref a_2, .ref a_3, .ref a_4, .null, .int 0])), (a_1, .inl (cI, 2000, .inl (fun _ => 0))), (a_2, .inl (cI, 2000, .inl (fun _ => 0))), (a_3, .inl (cJ, 2000, .inr (.inl (fun _ => 0)))), (a_4, .inl (cJ, 300, .inr (.inl (fun _ => 0))))] := hD
  refine lv_aload_n hx hb dX0_init_40 rfl (lv_at hl 0 rfl) ?_
  refine lv_sipush (v := 300) hx hb dX0_init_41 (by decide) ?_
  refine new_a (atype := .int) (ty := .int) (cA := cI) (a0 := (300, .inl (fun _ => 0))) (N' := 300) hx hb (hts (.arrayClass .int) (by decide +kernel)) rfl hK 0 rfl (fun _ _ h => h) hP hD hS hA (vp_zero_i _) (by decide) (by decide) (by decide) (by decide) (by decide) dX0_init_44 (fun a_5 H hP hD hS => ?_)
  have hP : va_P (dC, dI) vwCl [(h0, .inr (0, [.ref a_1, .ref a_2, .ref a_3, .ref a_4, .null, .int 0])), (a_1, .inl (cI, 2000, .inl (fun _ => 0))), (a_2, .inl (cI, 2000, .inl (fun _ => 0))), (a_3, .inl (cJ, 2000, .inr (.inl (fun _ => 0)))), (a_4, .inl (cJ, 300, .inr (.inl (fun _ => 0)))), (a_5, .inl (cI, 300, .inl (fun _ => 0)))] H := hP
  have hD : va_D A [(h0, .inr (0, [.ref a_1, .ref a_2, .ref a_3, .ref a_4, .null, .int 0])), (a_1, .inl (cI, 2000, .inl (fun _ => 0))), (a_2, .inl (cI, 2000, .inl (fun _ => 0))), (a_3, .inl (cJ, 2000, .inr (.inl (fun _ => 0)))), (a_4, .inl (cJ, 300, .inr (.inl (fun _ => 0)))), (a_5, .inl (cI, 300, .inl (fun _ => 0)))] := hD
  refine W.widen (k := 5) (n := 6600) (by omega) (by omega) ?_
  refine va_putF (D := (dC, dI)) (ci := 0) (v := .ref a_5) (ty := (.array .int)) (C := RX0) (T := TX0) (N := 6) hx hb hts hin0 tyX0 tyX0_ok nmX0 hown hK hP hD hS 0 rfl rfl 4 (by decide) (hts (.fieldLink RX0 25 "CallClusters$CallTable" "strongest" "[I") (by decide +kernel)) (fun _ h9 => h9) rfl hin rfl (by decide +kernel) (rfl) (rfl) (Nat.le_of_ble_eq_true rfl) dX0_init_46 (fun H locs hP hD hS => ?_)
  have hP : va_P (dC, dI) vwCl [(h0, .inr (0, [.ref a_1, .ref a_2, .ref a_3, .ref a_4, .ref a_5, .int 0])), (a_1, .inl (cI, 2000, .inl (fun _ => 0))), (a_2, .inl (cI, 2000, .inl (fun _ => 0))), (a_3, .inl (cJ, 2000, .inr (.inl (fun _ => 0)))), (a_4, .inl (cJ, 300, .inr (.inl (fun _ => 0)))), (a_5, .inl (cI, 300, .inl (fun _ => 0)))] H := hP
  have hD : va_D A [(h0, .inr (0, [.ref a_1, .ref a_2, .ref a_3, .ref a_4, .ref a_5, .int 0])), (a_1, .inl (cI, 2000, .inl (fun _ => 0))), (a_2, .inl (cI, 2000, .inl (fun _ => 0))), (a_3, .inl (cJ, 2000, .inr (.inl (fun _ => 0)))), (a_4, .inl (cJ, 300, .inr (.inl (fun _ => 0)))), (a_5, .inl (cI, 300, .inl (fun _ => 0)))] := hD
  have hP9 : va_P (dC, dI) vwCl [(h0, .inr (0, [.ref a_1, .ref a_2, .ref a_3, .ref a_4, .ref a_5, .int 0])), (a_1, .inl (cI, 2000, .inl (fun _ => 0))), (a_2, .inl (cI, 2000, .inl (fun _ => 0))), (a_3, .inl (cJ, 2000, .inr (.inl (fun _ => 0)))), (a_4, .inl (cJ, 300, .inr (.inl (fun _ => 0)))), (a_5, .inl (cI, 300, .inl (fun _ => 0)))] H := hP
  have hD9 : va_D A [(h0, .inr (0, [.ref a_1, .ref a_2, .ref a_3, .ref a_4, .ref a_5, .int 0])), (a_1, .inl (cI, 2000, .inl (fun _ => 0))), (a_2, .inl (cI, 2000, .inl (fun _ => 0))), (a_3, .inl (cJ, 2000, .inr (.inl (fun _ => 0)))), (a_4, .inl (cJ, 300, .inr (.inl (fun _ => 0)))), (a_5, .inl (cI, 300, .inl (fun _ => 0)))] := hD
  refine W.widen (k := 5) (n := 6600) (by omega) (by omega) ?_
  exact W.vret hx hb hr (fun t ht hW => ⟨⟨(), rfl, trivial, a_1, a_2, a_3, a_4, a_5, by rw [ht]; exact hP9, va_K.moved hW.alike hK, hD9⟩, hS.F ht⟩) hS.2.2 dX0_init_49
