set_option maxHeartbeats 4000000 in
set_option maxRecDepth 100000 in
theorem lpJ7_fill_53178 {p : Program} {l : Launch} {ev : Env} {R : Room} {s : State} {m : MethodId} {args : Array Value} {below : List Frame} {meth : Method} {c : Code} {Q : State → Prop} {A : Nat → Prop} {dC : Nat → ClassId} {dI : Nat → Nat → Nat} {cI cJ cZ : ClassId} {cells slots : Nat} (hx : p.tables.exec = Jvm.exec) (hb : c.code = cJ7_fill_53178) (hK : va_K (dC, dI) vwCl [(cI, .int), (cJ, .long), (cZ, .boolean)] s) {a0 n : Nat} {f : Nat → Int32} {v : Int32} (hn : n < 2000000) (kk : ∀ (H : Heap) (locs : List Loc) (ls : Array Slot), va_P (dC, dI) vwCl [(a0, .inl (cI, n, .inl (mix n (fun _ => v) f)))] H → va_D A [(a0, .inl (cI, n, .inl (mix n (fun _ => v) f)))] → va_S A s.heap H locs → W p l ev R s m args below meth c H locs cells slots Q (F0 m 20 ls [])) : ∀ (j k : Nat), k + j = n → ∀ (H : Heap) (locs : List Loc) (ls : Array Slot), va_P (dC, dI) vwCl [(a0, .inl (cI, n, .inl (mix k (fun _ => v) f)))] H → va_D A [(a0, .inl (cI, n, .inl (mix k (fun _ => v) f)))] → va_S A s.heap H locs → lv_has ls 4 [(0, .ref a0), (1, .int v), (2, .int (nI k)), (3, .int (nI n))] → W p l ev R s m args below meth c H locs cells slots Q (F0 m 5 ls []) := by
  intro j
  induction j with
  | zero =>
    intro k hk H locs ls hP hD hS hl
    have hk : k = n := by omega
    subst hk
    refine lv_iload_n hx hb dJ7_fill_53178_5 rfl (lv_at hl 2 rfl) ?_
    refine lv_iload_n hx hb dJ7_fill_53178_6 rfl (lv_at hl 3 rfl) ?_
    refine lv_icmp_ge (tgt := 20) hx hb dJ7_fill_53178_7 (by decide) (fun c_1 => ?_) (fun c_1 => ?_)
    · -- pc 7, side 0
      exact kk H locs ls hP hD hS
    · -- pc 7, side 1
      exact absurd (nI_le (Nat.le_refl _) (by omega)) c_1
  | succ j ih =>
    intro k hk H locs ls hP hD hS hl
    refine lv_iload_n hx hb dJ7_fill_53178_5 rfl (lv_at hl 2 rfl) ?_
    refine lv_iload_n hx hb dJ7_fill_53178_6 rfl (lv_at hl 3 rfl) ?_
    refine lv_icmp_ge (tgt := 20) hx hb dJ7_fill_53178_7 (by decide) (fun c_2 => ?_) (fun c_2 => ?_)
    · -- pc 7, side 0
      exact absurd c_2 (nI_ge (show k < n by omega) (by omega))
    · -- pc 7, side 1
      refine lv_aload_n hx hb dJ7_fill_53178_10 rfl (lv_at hl 0 rfl) ?_
      refine lv_iload_n hx hb dJ7_fill_53178_11 rfl (lv_at hl 2 rfl) ?_
      refine lv_iload_n hx hb dJ7_fill_53178_12 rfl (lv_at hl 1 rfl) ?_
      refine va_iast hx hb hK hP hD hS 0 0 rfl rfl (inn (show k < n by omega) hn) dJ7_fill_53178_13 (fun H locs hP hD hS => ?_)
      have hf13 : upd (mix k (fun _ => v) f) ((nI k).toNatClampNeg) v = mix (k + 1) (fun _ => v) f := by rw [ix_n (by omega)]; exact mix_i k _ f rfl
      have hP : va_P (dC, dI) vwCl [(a0, .inl (cI, n, .inl (upd (mix k (fun _ => v) f) ((nI k).toNatClampNeg) v)))] H := hP
      have hD : va_D A [(a0, .inl (cI, n, .inl (upd (mix k (fun _ => v) f) ((nI k).toNatClampNeg) v)))] := hD
      rw [hf13] at hP hD
      refine lv_iinc (v := nI (k + 1)) (lv' := [(2, .int (nI (k + 1))), (0, .ref a0), (1, .int v), (3, .int (nI n))]) hx hb dJ7_fill_53178_14 hl (k := 2) rfl (by exact nI_1 k) (by decide) rfl (fun ls hl => ?_)
      refine lv_goto (tgt := 5) hx hb dJ7_fill_53178_17 (by decide) ?_
      exact ih (k + 1) (by omega) H locs ls hP hD hS (lv_sub hl [1, 2, 0, 3] rfl)
set_option maxHeartbeats 4000000 in
set_option maxRecDepth 100000 in
theorem ct_J7_fill_53178 (l : Launch) (dC : Nat → ClassId) (dI : Nat → Nat → Nat) (cI cJ cZ : ClassId) (sz : Nat) (a0 : Nat) (n : Nat) (f : Nat → Int32) (v : Int32) (hn : n < 2000000) : Met l yJ7_fill_53178 wsJ7_fill_53178 ({ frames := 0, cells := 0, slots := 0, locals := 0 }) (va_Pc [.ref a0, .int v] (fun U => U.heap.size = sz ∧ va_P (dC, dI) vwCl [(a0, .inl (cI, n, .inl f))] U.heap ∧ va_K (dC, dI) vwCl [(cI, .int), (cJ, .long), (cZ, .boolean)] U ∧ va_D (fun _ => True) [(a0, .inl (cI, n, .inl f))])) (va_Qv (fun (uu : Unit) => True) (fun (uu : Unit) (t : State) => va_P (dC, dI) vwCl [(a0, .inl (cI, n, .inl (mix n (fun _ => v) f)))] t.heap ∧ va_K (dC, dI) vwCl [(cI, .int), (cJ, .long), (cZ, .boolean)] t ∧ va_D (va_A [(a0, .inl (cI, n, .inl f))] sz) [(a0, .inl (cI, n, .inl (mix n (fun _ => v) f)))]) (va_A [(a0, .inl (cI, n, .inl f))] sz)) 0 0 (va_A [(a0, .inl (cI, n, .inl f))] sz) := by
  refine Met.ofW (cc := cJ7_fill_53178) (maxL := 4) (ret := none) (by decide) rfl ?_
  intro p ev s m args below meth c s₁ Bd hml hv
  obtain ⟨rfl, hsz, hP, hK, hD0⟩ := hv
  have hx := Bd.exec
  have hb := Bd.bytes
  have hr := Bd.returns
  have hts := atoms_spec (ws := wsJ7_fill_53178) Bd.pre
  have hown : s.vm.findClass RJ7 = some m.cls := findClass_of_methodNamed Bd.named
  have hlocks := Bd.notSynchronized
  subst hsz
  have hD := hD0.self (sz := s.heap.size)
  generalize hAe : va_A [(a0, .inl (cI, n, .inl f))] s.heap.size = A at hD ⊢
  have hA : ∀ q : Nat, s.heap.size ≤ q → A q := fun q h => by rw [← hAe]; exact Or.inr h
  have hS : va_S A s.heap s.heap [] := va_S.rf
  have hl := lv_entry ([.ref a0, .int v]) (n := 4) (Nat.le_of_ble_eq_true rfl)
  rw [lg_entry_eq]
  generalize (lg_sl ([.ref a0, .int v]) ++ List.replicate (4 - (lg_sl ([.ref a0, .int v])).length) Slot.unset).toArray = ls at hl ⊢
  have hl : lv_has ls 4 [(0, .ref a0), (1, .int v)] := hl
  generalize hHe : s.heap = H at hP ⊢
  have hS : va_S A s.heap H [] := hHe ▸ hS
  refine lv_iconst (v := 0) hx hb dJ7_fill_53178_0 (by decide) ?_
  refine lv_istore_n (lv' := [(2, .int 0), (0, .ref a0), (1, .int v)]) hx hb dJ7_fill_53178_1 rfl hl (by decide) rfl (fun ls hl => ?_)
  refine lv_aload_n hx hb dJ7_fill_53178_2 rfl (lv_at hl 1 rfl) ?_
  refine va_alen hx hb hK hP 0 0 rfl rfl (v := nI n) rfl dJ7_fill_53178_3 ?_
  refine lv_istore_n (lv' := [(3, .int (nI n)), (2, .int 0), (0, .ref a0), (1, .int v)]) hx hb dJ7_fill_53178_4 rfl hl (by decide) rfl (fun ls hl => ?_)
  refine lpJ7_fill_53178 (a0 := a0) (n := n) (f := f) (v := v) hx hb hK hn (fun H locs ls hP hD hS => ?_) n 0 (by omega) H _ ls (by rw [mix_0]; exact hP) (by rw [mix_0]; exact hD) hS (lv_sub hl [2, 3, 1, 0] rfl)
  have hP9 : va_P (dC, dI) vwCl [(a0, .inl (cI, n, .inl (mix n (fun _ => v) f)))] H := hP
  have hD9 : va_D A [(a0, .inl (cI, n, .inl (mix n (fun _ => v) f)))] := hD
  exact W.vret hx hb hr (fun t ht hW => ⟨⟨(), rfl, trivial, by rw [ht]; exact hP9, va_K.moved hW.alike hK, hD9⟩, hS.F ht⟩) hS.2.2 dJ7_fill_53178_20
set_option maxHeartbeats 4000000 in
set_option maxRecDepth 100000 in
theorem lpJ7_fill_d0a16 {p : Program} {l : Launch} {ev : Env} {R : Room} {s : State} {m : MethodId} {args : Array Value} {below : List Frame} {meth : Method} {c : Code} {Q : State → Prop} {A : Nat → Prop} {dC : Nat → ClassId} {dI : Nat → Nat → Nat} {cI cJ cZ : ClassId} {cells slots : Nat} (hx : p.tables.exec = Jvm.exec) (hb : c.code = cJ7_fill_d0a16) (hK : va_K (dC, dI) vwCl [(cI, .int), (cJ, .long), (cZ, .boolean)] s) {a0 n : Nat} {f : Nat → Int64} {v : Int64} (hn : n < 2000000) (kk : ∀ (H : Heap) (locs : List Loc) (ls : Array Slot), va_P (dC, dI) vwCl [(a0, .inl (cJ, n, .inr (.inl (mix n (fun _ => v) f))))] H → va_D A [(a0, .inl (cJ, n, .inr (.inl (mix n (fun _ => v) f))))] → va_S A s.heap H locs → W p l ev R s m args below meth c H locs cells slots Q (F0 m 22 ls [])) : ∀ (j k : Nat), k + j = n → ∀ (H : Heap) (locs : List Loc) (ls : Array Slot), va_P (dC, dI) vwCl [(a0, .inl (cJ, n, .inr (.inl (mix k (fun _ => v) f))))] H → va_D A [(a0, .inl (cJ, n, .inr (.inl (mix k (fun _ => v) f))))] → va_S A s.heap H locs → lv_has ls 5 [(0, .ref a0), (1, .long v), (3, .int (nI k)), (4, .int (nI n))] → W p l ev R s m args below meth c H locs cells slots Q (F0 m 6 ls []) := by
  intro j
  induction j with
  | zero =>
    intro k hk H locs ls hP hD hS hl
    have hk : k = n := by omega
    subst hk
    refine lv_iload_n hx hb dJ7_fill_d0a16_6 rfl (lv_at hl 2 rfl) ?_
    refine lv_iload hx hb dJ7_fill_d0a16_7 (lv_at hl 3 rfl) ?_
    refine lv_icmp_ge (tgt := 22) hx hb dJ7_fill_d0a16_9 (by decide) (fun c_1 => ?_) (fun c_1 => ?_)
    · -- pc 9, side 0
      exact kk H locs ls hP hD hS
    · -- pc 9, side 1
      exact absurd (nI_le (Nat.le_refl _) (by omega)) c_1
  | succ j ih =>
    intro k hk H locs ls hP hD hS hl
    refine lv_iload_n hx hb dJ7_fill_d0a16_6 rfl (lv_at hl 2 rfl) ?_
    refine lv_iload hx hb dJ7_fill_d0a16_7 (lv_at hl 3 rfl) ?_
    refine lv_icmp_ge (tgt := 22) hx hb dJ7_fill_d0a16_9 (by decide) (fun c_2 => ?_) (fun c_2 => ?_)
    · -- pc 9, side 0
      exact absurd c_2 (nI_ge (show k < n by omega) (by omega))
    · -- pc 9, side 1
      refine lv_aload_n hx hb dJ7_fill_d0a16_12 rfl (lv_at hl 0 rfl) ?_
      refine lv_iload_n hx hb dJ7_fill_d0a16_13 rfl (lv_at hl 2 rfl) ?_
      refine lv_lload_n hx hb dJ7_fill_d0a16_14 rfl (lv_at hl 1 rfl) ?_
      refine va_last hx hb hK hP hD hS 0 1 rfl rfl (inn (show k < n by omega) hn) dJ7_fill_d0a16_15 (fun H locs hP hD hS => ?_)
      have hf15 : vp_updL (mix k (fun _ => v) f) ((nI k).toNatClampNeg) v = mix (k + 1) (fun _ => v) f := by rw [ix_n (by omega)]; exact mix_l k _ f rfl
      have hP : va_P (dC, dI) vwCl [(a0, .inl (cJ, n, .inr (.inl (vp_updL (mix k (fun _ => v) f) ((nI k).toNatClampNeg) v))))] H := hP
      have hD : va_D A [(a0, .inl (cJ, n, .inr (.inl (vp_updL (mix k (fun _ => v) f) ((nI k).toNatClampNeg) v))))] := hD
      rw [hf15] at hP hD
      refine lv_iinc (v := nI (k + 1)) (lv' := [(3, .int (nI (k + 1))), (0, .ref a0), (1, .long v), (4, .int (nI n))]) hx hb dJ7_fill_d0a16_16 hl (k := 2) rfl (by exact nI_1 k) (by decide) rfl (fun ls hl => ?_)
      refine lv_goto (tgt := 6) hx hb dJ7_fill_d0a16_19 (by decide) ?_
      exact ih (k + 1) (by omega) H locs ls hP hD hS (lv_sub hl [1, 2, 0, 3] rfl)
set_option maxHeartbeats 4000000 in
set_option maxRecDepth 100000 in
theorem ct_J7_fill_d0a16 (l : Launch) (dC : Nat → ClassId) (dI : Nat → Nat → Nat) (cI cJ cZ : ClassId) (sz : Nat) (a0 : Nat) (n : Nat) (f : Nat → Int64) (v : Int64) (hn : n < 2000000) : Met l yJ7_fill_d0a16 wsJ7_fill_d0a16 ({ frames := 0, cells := 0, slots := 0, locals := 0 }) (va_Pc [.ref a0, .long v] (fun U => U.heap.size = sz ∧ va_P (dC, dI) vwCl [(a0, .inl (cJ, n, .inr (.inl f)))] U.heap ∧ va_K (dC, dI) vwCl [(cI, .int), (cJ, .long), (cZ, .boolean)] U ∧ va_D (fun _ => True) [(a0, .inl (cJ, n, .inr (.inl f)))])) (va_Qv (fun (uu : Unit) => True) (fun (uu : Unit) (t : State) => va_P (dC, dI) vwCl [(a0, .inl (cJ, n, .inr (.inl (mix n (fun _ => v) f))))] t.heap ∧ va_K (dC, dI) vwCl [(cI, .int), (cJ, .long), (cZ, .boolean)] t ∧ va_D (va_A [(a0, .inl (cJ, n, .inr (.inl f)))] sz) [(a0, .inl (cJ, n, .inr (.inl (mix n (fun _ => v) f))))]) (va_A [(a0, .inl (cJ, n, .inr (.inl f)))] sz)) 0 0 (va_A [(a0, .inl (cJ, n, .inr (.inl f)))] sz) := by
  refine Met.ofW (cc := cJ7_fill_d0a16) (maxL := 5) (ret := none) (by decide) rfl ?_
  intro p ev s m args below meth c s₁ Bd hml hv
  obtain ⟨rfl, hsz, hP, hK, hD0⟩ := hv
  have hx := Bd.exec
  have hb := Bd.bytes
  have hr := Bd.returns
  have hts := atoms_spec (ws := wsJ7_fill_d0a16) Bd.pre
  have hown : s.vm.findClass RJ7 = some m.cls := findClass_of_methodNamed Bd.named
  have hlocks := Bd.notSynchronized
  subst hsz
  have hD := hD0.self (sz := s.heap.size)
  generalize hAe : va_A [(a0, .inl (cJ, n, .inr (.inl f)))] s.heap.size = A at hD ⊢
  have hA : ∀ q : Nat, s.heap.size ≤ q → A q := fun q h => by rw [← hAe]; exact Or.inr h
  have hS : va_S A s.heap s.heap [] := va_S.rf
  have hl := lv_entry ([.ref a0, .long v]) (n := 5) (Nat.le_of_ble_eq_true rfl)
  rw [lg_entry_eq]
  generalize (lg_sl ([.ref a0, .long v]) ++ List.replicate (5 - (lg_sl ([.ref a0, .long v])).length) Slot.unset).toArray = ls at hl ⊢
  have hl : lv_has ls 5 [(0, .ref a0), (1, .long v)] := hl
  generalize hHe : s.heap = H at hP ⊢
  have hS : va_S A s.heap H [] := hHe ▸ hS
  refine lv_iconst (v := 0) hx hb dJ7_fill_d0a16_0 (by decide) ?_
  refine lv_istore_n (lv' := [(3, .int 0), (0, .ref a0), (1, .long v)]) hx hb dJ7_fill_d0a16_1 rfl hl (by decide) rfl (fun ls hl => ?_)
  refine lv_aload_n hx hb dJ7_fill_d0a16_2 rfl (lv_at hl 1 rfl) ?_
  refine va_alen hx hb hK hP 0 1 rfl rfl (v := nI n) rfl dJ7_fill_d0a16_3 ?_
  refine lv_istore (lv' := [(4, .int (nI n)), (3, .int 0), (0, .ref a0), (1, .long v)]) hx hb dJ7_fill_d0a16_4 hl (by decide) rfl (fun ls hl => ?_)
  refine lpJ7_fill_d0a16 (a0 := a0) (n := n) (f := f) (v := v) hx hb hK hn (fun H locs ls hP hD hS => ?_) n 0 (by omega) H _ ls (by rw [mix_0]; exact hP) (by rw [mix_0]; exact hD) hS (lv_sub hl [2, 3, 1, 0] rfl)
  have hP9 : va_P (dC, dI) vwCl [(a0, .inl (cJ, n, .inr (.inl (mix n (fun _ => v) f))))] H := hP
  have hD9 : va_D A [(a0, .inl (cJ, n, .inr (.inl (mix n (fun _ => v) f))))] := hD
  exact W.vret hx hb hr (fun t ht hW => ⟨⟨(), rfl, trivial, by rw [ht]; exact hP9, va_K.moved hW.alike hK, hD9⟩, hS.F ht⟩) hS.2.2 dJ7_fill_d0a16_22
