set_option maxHeartbeats 4000000 in
set_option maxRecDepth 100000 in
theorem ct_X4_isFunction (l : Launch) (dC : Nat → ClassId) (dI : Nat → Nat → Nat) (cI cJ cZ : ClassId) (sz : Nat) (m0 : Nat) (b0 c1 c2 c3 e1 e2 e3 e4 e5 e6 e7 e8 e9 f1 f2 : Nat) (n : Nat) (P : Int32) (u : Nat) (kn ir gp : Int32) (f : Int32)  : Met l yX4_isFunction wsX4_isFunction ({ frames := 0, cells := 0, slots := 0, locals := 0 }) (va_Pc [.ref m0, .int f] (fun U => U.heap.size = sz ∧ va_P (dC, dI) vwCl [(m0, .inr (4, [.int (nI n), .int P, .int (nI u), .ref b0, .ref c1, .ref c2, .ref c3, .int kn, .ref e1, .ref e2, .ref e3, .ref e4, .ref e5, .ref e6, .ref e7, .ref e8, .ref e9, .int ir, .int gp, .ref f1, .ref f2]))] U.heap ∧ va_K (dC, dI) vwCl [(cI, .int), (cJ, .long), (cZ, .boolean)] U ∧ va_D (fun _ => True) [(m0, .inr (4, [.int (nI n), .int P, .int (nI u), .ref b0, .ref c1, .ref c2, .ref c3, .int kn, .ref e1, .ref e2, .ref e3, .ref e4, .ref e5, .ref e6, .ref e7, .ref e8, .ref e9, .int ir, .int gp, .ref f1, .ref f2]))])) (va_Qi (fun (r : Int32) (uu : Unit) => r = isFI n f) (fun (uu : Unit) (t : State) => va_P (dC, dI) vwCl [(m0, .inr (4, [.int (nI n), .int P, .int (nI u), .ref b0, .ref c1, .ref c2, .ref c3, .int kn, .ref e1, .ref e2, .ref e3, .ref e4, .ref e5, .ref e6, .ref e7, .ref e8, .ref e9, .int ir, .int gp, .ref f1, .ref f2]))] t.heap ∧ va_K (dC, dI) vwCl [(cI, .int), (cJ, .long), (cZ, .boolean)] t ∧ va_D (va_A [(m0, .inr (4, [.int (nI n), .int P, .int (nI u), .ref b0, .ref c1, .ref c2, .ref c3, .int kn, .ref e1, .ref e2, .ref e3, .ref e4, .ref e5, .ref e6, .ref e7, .ref e8, .ref e9, .int ir, .int gp, .ref f1, .ref f2]))] sz) [(m0, .inr (4, [.int (nI n), .int P, .int (nI u), .ref b0, .ref c1, .ref c2, .ref c3, .int kn, .ref e1, .ref e2, .ref e3, .ref e4, .ref e5, .ref e6, .ref e7, .ref e8, .ref e9, .int ir, .int gp, .ref f1, .ref f2]))]) (va_A [(m0, .inr (4, [.int (nI n), .int P, .int (nI u), .ref b0, .ref c1, .ref c2, .ref c3, .int kn, .ref e1, .ref e2, .ref e3, .ref e4, .ref e5, .ref e6, .ref e7, .ref e8, .ref e9, .int ir, .int gp, .ref f1, .ref f2]))] sz)) 0 0 (va_A [(m0, .inr (4, [.int (nI n), .int P, .int (nI u), .ref b0, .ref c1, .ref c2, .ref c3, .int kn, .ref e1, .ref e2, .ref e3, .ref e4, .ref e5, .ref e6, .ref e7, .ref e8, .ref e9, .int ir, .int gp, .ref f1, .ref f2]))] sz) := by
  refine Met.ofW (cc := cX4_isFunction) (maxL := 2) (ret := (some .boolean)) (by decide) rfl ?_
  intro p ev s m args below meth c s₁ Bd hml hv
  obtain ⟨rfl, hsz, hP, hK, hD0⟩ := hv
  have hx := Bd.exec
  have hb := Bd.bytes
  have hr := Bd.returns
  have hts := atoms_spec (ws := wsX4_isFunction) Bd.pre
  have hown : s.vm.findClass RX4 = some m.cls := findClass_of_methodNamed Bd.named
  have hlocks := Bd.notSynchronized
  have hin4 : ∀ w ∈ wsX40, w ∈ wsX4_isFunction := by decide +kernel
  subst hsz
  have hD := hD0.self (sz := s.heap.size)
  generalize hAe : va_A [(m0, .inr (4, [.int (nI n), .int P, .int (nI u), .ref b0, .ref c1, .ref c2, .ref c3, .int kn, .ref e1, .ref e2, .ref e3, .ref e4, .ref e5, .ref e6, .ref e7, .ref e8, .ref e9, .int ir, .int gp, .ref f1, .ref f2]))] s.heap.size = A at hD ⊢
  have hA : ∀ q : Nat, s.heap.size ≤ q → A q := fun q h => by rw [← hAe]; exact Or.inr h
  have hS : va_S A s.heap s.heap [] := va_S.rf
  have hl := lv_entry ([.ref m0, .int f]) (n := 2) (Nat.le_of_ble_eq_true rfl)
  rw [lg_entry_eq]
  generalize (lg_sl ([.ref m0, .int f]) ++ List.replicate (2 - (lg_sl ([.ref m0, .int f])).length) Slot.unset).toArray = ls at hl ⊢
  have hl : lv_has ls 2 [(0, .ref m0), (1, .int f)] := hl
  generalize hHe : s.heap = H at hP ⊢
  have hS : va_S A s.heap H [] := hHe ▸ hS
  refine lv_iload_n hx hb dX4_isFunction_0 rfl (lv_at hl 1 rfl) ?_
  refine lv_if_lt (tgt := 16) hx hb dX4_isFunction_1 (by decide) (fun c_1 => ?_) (fun c_1 => ?_)
  · -- pc 1, side 0
    refine lv_iconst (v := 0) hx hb dX4_isFunction_16 (by decide) ?_
    have hP9 : va_P (dC, dI) vwCl [(m0, .inr (4, [.int (nI n), .int P, .int (nI u), .ref b0, .ref c1, .ref c2, .ref c3, .int kn, .ref e1, .ref e2, .ref e3, .ref e4, .ref e5, .ref e6, .ref e7, .ref e8, .ref e9, .int ir, .int gp, .ref f1, .ref f2]))] H := hP
    have hD9 : va_D A [(m0, .inr (4, [.int (nI n), .int P, .int (nI u), .ref b0, .ref c1, .ref c2, .ref c3, .int kn, .ref e1, .ref e2, .ref e3, .ref e4, .ref e5, .ref e6, .ref e7, .ref e8, .ref e9, .int ir, .int gp, .ref f1, .ref f2]))] := hD
    exact W.zret (v := 0) hx hb hr (by decide) (fun t ht hW => ⟨⟨0, (), rfl, by simp [isFI, c_1], by rw [ht]; exact hP9, va_K.moved hW.alike hK, hD9⟩, hS.F ht⟩) hS.2.2 dX4_isFunction_17
  · -- pc 1, side 1
    refine lv_iload_n hx hb dX4_isFunction_4 rfl (lv_at hl 1 rfl) ?_
    refine lv_aload_n hx hb dX4_isFunction_5 rfl (lv_at hl 0 rfl) ?_
    refine va_get (D := (dC, dI)) (ci := 4) (v := .int (nI n)) (C := RX4) (T := TX4) (N := 21) hx hb hts hin4 hown hK hP 0 rfl rfl 0 (by decide) (hts (.fieldLink RX4 7 "CallClustersModel" "many" "I") (by decide +kernel)) (fun _ h9 => h9) rfl dX4_isFunction_6 ?_
    refine lv_icmp_ge (tgt := 16) hx hb dX4_isFunction_9 (by decide) (fun c_2 => ?_) (fun c_2 => ?_)
    · -- pc 9, side 0
      refine lv_iconst (v := 0) hx hb dX4_isFunction_16 (by decide) ?_
      have hP9 : va_P (dC, dI) vwCl [(m0, .inr (4, [.int (nI n), .int P, .int (nI u), .ref b0, .ref c1, .ref c2, .ref c3, .int kn, .ref e1, .ref e2, .ref e3, .ref e4, .ref e5, .ref e6, .ref e7, .ref e8, .ref e9, .int ir, .int gp, .ref f1, .ref f2]))] H := hP
      have hD9 : va_D A [(m0, .inr (4, [.int (nI n), .int P, .int (nI u), .ref b0, .ref c1, .ref c2, .ref c3, .int kn, .ref e1, .ref e2, .ref e3, .ref e4, .ref e5, .ref e6, .ref e7, .ref e8, .ref e9, .int ir, .int gp, .ref f1, .ref f2]))] := hD
      exact W.zret (v := 0) hx hb hr (by decide) (fun t ht hW => ⟨⟨0, (), rfl, by simp [isFI, c_1, c_2], by rw [ht]; exact hP9, va_K.moved hW.alike hK, hD9⟩, hS.F ht⟩) hS.2.2 dX4_isFunction_17
    · -- pc 9, side 1
      refine lv_iconst (v := 1) hx hb dX4_isFunction_12 (by decide) ?_
      refine lv_goto (tgt := 17) hx hb dX4_isFunction_13 (by decide) ?_
      have hP9 : va_P (dC, dI) vwCl [(m0, .inr (4, [.int (nI n), .int P, .int (nI u), .ref b0, .ref c1, .ref c2, .ref c3, .int kn, .ref e1, .ref e2, .ref e3, .ref e4, .ref e5, .ref e6, .ref e7, .ref e8, .ref e9, .int ir, .int gp, .ref f1, .ref f2]))] H := hP
      have hD9 : va_D A [(m0, .inr (4, [.int (nI n), .int P, .int (nI u), .ref b0, .ref c1, .ref c2, .ref c3, .int kn, .ref e1, .ref e2, .ref e3, .ref e4, .ref e5, .ref e6, .ref e7, .ref e8, .ref e9, .int ir, .int gp, .ref f1, .ref f2]))] := hD
      exact W.zret (v := 1) hx hb hr (by decide) (fun t ht hW => ⟨⟨1, (), rfl, by simp [isFI, c_1, c_2], by rw [ht]; exact hP9, va_K.moved hW.alike hK, hD9⟩, hS.F ht⟩) hS.2.2 dX4_isFunction_17
set_option maxHeartbeats 4000000 in
set_option maxRecDepth 100000 in
theorem lpX4_functions {p : Program} {l : Launch} {ev : Env} {s : State} {m : MethodId} {args : Array Value} {below : List Frame} {meth : Method} {c : Code} {Q : State → Prop} {A : Nat → Prop} {dC : Nat → ClassId} {dI : Nat → Nat → Nat} {cI cJ cZ : ClassId} {R : Room} {cells slots : Nat} (hx : p.tables.exec = Jvm.exec) (hb : c.code = cX4_functions) (hml : c.maxLocals = 3) (hts : ∀ w ∈ wsX4_functions, w.before args s = true) (hown : s.vm.findClass RX4 = some m.cls) (hK : va_K (dC, dI) vwCl [(cI, .int), (cJ, .long), (cZ, .boolean)] s) (hA : ∀ q : Nat, s.heap.size ≤ q → A q) {m0 : Nat} {b0 : Nat} {c1 c2 c3 e1 e2 e3 e4 e5 e6 e7 e8 e9 f1 f2 : Nat} {nv P kn ir gp y : Int32} {z : Nat → Int32}   (kn_ : ∀ (H : Heap) (locs : List Loc) (ls : Array Slot), va_P (dC, dI) vwCl [(m0, .inr (4, [.int nv, .int P, .int 0, .ref b0, .ref c1, .ref c2, .ref c3, .int kn, .ref e1, .ref e2, .ref e3, .ref e4, .ref e5, .ref e6, .ref e7, .ref e8, .ref e9, .int ir, .int gp, .ref f1, .ref f2])), (b0, .inl (cI, 300, .inl (mix 300 (fun _ => 0) z)))] H → va_D A [(m0, .inr (4, [.int nv, .int P, .int 0, .ref b0, .ref c1, .ref c2, .ref c3, .int kn, .ref e1, .ref e2, .ref e3, .ref e4, .ref e5, .ref e6, .ref e7, .ref e8, .ref e9, .int ir, .int gp, .ref f1, .ref f2])), (b0, .inl (cI, 300, .inl (mix 300 (fun _ => 0) z)))] → va_S A s.heap H locs → lv_has ls 3 [(0, .ref m0), (1, .int y)] → W p l ev R s m args below meth c H locs cells slots Q (F0 m 46 ls [])) : ∀ (n : Nat) (k : Nat), k + n = 300 → ∀ (H : Heap) (locs : List Loc) (ls : Array Slot), va_P (dC, dI) vwCl [(m0, .inr (4, [.int nv, .int P, .int 0, .ref b0, .ref c1, .ref c2, .ref c3, .int kn, .ref e1, .ref e2, .ref e3, .ref e4, .ref e5, .ref e6, .ref e7, .ref e8, .ref e9, .int ir, .int gp, .ref f1, .ref f2])), (b0, .inl (cI, 300, .inl (mix k (fun _ => 0) z)))] H → va_D A [(m0, .inr (4, [.int nv, .int P, .int 0, .ref b0, .ref c1, .ref c2, .ref c3, .int kn, .ref e1, .ref e2, .ref e3, .ref e4, .ref e5, .ref e6, .ref e7, .ref e8, .ref e9, .int ir, .int gp, .ref f1, .ref f2])), (b0, .inl (cI, 300, .inl (mix k (fun _ => 0) z)))] → va_S A s.heap H locs → lv_has ls 3 [(0, .ref m0), (1, .int y), (2, .int (nI k))] → W p l ev R s m args below meth c H locs cells slots Q (F0 m 26 ls []) := by
  have hin4 : ∀ w ∈ wsX40, w ∈ wsX4_functions := by decide +kernel
  intro n
  induction n with
  | zero =>
    intro k hk H locs ls hP hD hS hl
    have hk : k = 300 := by omega
    subst hk
    refine lv_iload_n hx hb dX4_functions_26 rfl (lv_at hl 2 rfl) ?_
    refine lv_sipush (v := 300) hx hb dX4_functions_27 (by decide) ?_
    refine lv_icmp_ge (tgt := 46) hx hb dX4_functions_30 (by decide) (fun c_1 => ?_) (fun c_1 => ?_)
    · -- pc 30, side 0
      exact kn_   H locs ls hP hD hS (lv_sub hl [0, 1] rfl)
    · -- pc 30, side 1
      exact absurd (show (300 : Int32) ≤ nI 300 by decide) c_1
  | succ n ih =>
    intro k hk H locs ls hP hD hS hl
    refine lv_iload_n hx hb dX4_functions_26 rfl (lv_at hl 2 rfl) ?_
    refine lv_sipush (v := 300) hx hb dX4_functions_27 (by decide) ?_
    refine lv_icmp_ge (tgt := 46) hx hb dX4_functions_30 (by decide) (fun c_2 => ?_) (fun c_2 => ?_)
    · -- pc 30, side 0
      exact absurd (show nI 300 ≤ nI k from c_2) (nI_ge (show k < 300 by omega) (by omega))
    · -- pc 30, side 1
      refine lv_aload_n hx hb dX4_functions_33 rfl (lv_at hl 0 rfl) ?_
      refine va_get (D := (dC, dI)) (ci := 4) (v := .ref b0) (C := RX4) (T := TX4) (N := 21) hx hb hts hin4 hown hK hP 0 rfl rfl 3 (by decide) (hts (.fieldLink RX4 16 "CallClustersModel" "bytes" "[I") (by decide +kernel)) (fun _ h9 => h9) rfl dX4_functions_34 ?_
      refine lv_iload_n hx hb dX4_functions_37 rfl (lv_at hl 2 rfl) ?_
      refine lv_iconst (v := 0) hx hb dX4_functions_38 (by decide) ?_
      refine va_iast hx hb hK hP hD hS 1 0 rfl rfl (inn (show k < 300 by omega) (by omega)) dX4_functions_39 (fun H locs hP hD hS => ?_)
      have hf39 : upd (mix k (fun _ => 0) z) ((nI k).toNatClampNeg) 0 = mix (k + 1) (fun _ => 0) z := by rw [ix_n (by omega)]; exact mix_i k _ z rfl
      have hP : va_P (dC, dI) vwCl [(m0, .inr (4, [.int nv, .int P, .int 0, .ref b0, .ref c1, .ref c2, .ref c3, .int kn, .ref e1, .ref e2, .ref e3, .ref e4, .ref e5, .ref e6, .ref e7, .ref e8, .ref e9, .int ir, .int gp, .ref f1, .ref f2])), (b0, .inl (cI, 300, .inl (upd (mix k (fun _ => 0) z) ((nI k).toNatClampNeg) 0)))] H := hP
      have hD : va_D A [(m0, .inr (4, [.int nv, .int P, .int 0, .ref b0, .ref c1, .ref c2, .ref c3, .int kn, .ref e1, .ref e2, .ref e3, .ref e4, .ref e5, .ref e6, .ref e7, .ref e8, .ref e9, .int ir, .int gp, .ref f1, .ref f2])), (b0, .inl (cI, 300, .inl (upd (mix k (fun _ => 0) z) ((nI k).toNatClampNeg) 0)))] := hD
      rw [hf39] at hP hD
      refine lv_iinc (v := nI (k + 1)) (lv' := [(2, .int (nI (k + 1))), (0, .ref m0), (1, .int y)]) hx hb dX4_functions_40 hl (k := 2) rfl (by exact nI_1 k) (by decide) rfl (fun ls hl => ?_)
      refine lv_goto (tgt := 26) hx hb dX4_functions_43 (by decide) ?_
      exact ih (k + 1) (by omega) H locs ls hP hD hS (lv_sub hl [1, 2, 0] rfl)
set_option maxHeartbeats 4000000 in
set_option maxRecDepth 100000 in
theorem ct_X4_functions (l : Launch) (dC : Nat → ClassId) (dI : Nat → Nat → Nat) (cI cJ cZ : ClassId) (sz : Nat) (m0 : Nat) (b0 : Nat) (c1 c2 c3 e1 e2 e3 e4 e5 e6 e7 e8 e9 f1 f2 : Nat) (n : Nat) (P : Int32) (u : Nat) (kn ir gp : Int32) (z : Nat → Int32) (y : Int32)  : Met l yX4_functions wsX4_functions ({ frames := 0, cells := 0, slots := 0, locals := 0 }) (va_Pc [.ref m0, .int y] (fun U => U.heap.size = sz ∧ va_P (dC, dI) vwCl [(m0, .inr (4, [.int (nI n), .int P, .int (nI u), .ref b0, .ref c1, .ref c2, .ref c3, .int kn, .ref e1, .ref e2, .ref e3, .ref e4, .ref e5, .ref e6, .ref e7, .ref e8, .ref e9, .int ir, .int gp, .ref f1, .ref f2])), (b0, .inl (cI, 300, .inl z))] U.heap ∧ va_K (dC, dI) vwCl [(cI, .int), (cJ, .long), (cZ, .boolean)] U ∧ va_D (fun _ => True) [(m0, .inr (4, [.int (nI n), .int P, .int (nI u), .ref b0, .ref c1, .ref c2, .ref c3, .int kn, .ref e1, .ref e2, .ref e3, .ref e4, .ref e5, .ref e6, .ref e7, .ref e8, .ref e9, .int ir, .int gp, .ref f1, .ref f2])), (b0, .inl (cI, 300, .inl z))])) (va_Qi (fun (r : Int32) (uu : Nat × (Nat → Int32) × Nat × Int32) => match uu with | (n', z', u', kn') => (r = 0 ∧ n' = n ∧ z' = z ∧ u' = u ∧ kn' = kn ∧ (y < 1 ∨ 300 < y)) ∨ (r = 1 ∧ nI n' = y ∧ z' = (fun _ => 0) ∧ u' = 0 ∧ kn' = 0 ∧ ¬ y < 1 ∧ ¬ 300 < y)) (fun (uu : Nat × (Nat → Int32) × Nat × Int32) (t : State) => match uu with | (n', z', u', kn') => va_P (dC, dI) vwCl [(m0, .inr (4, [.int (nI n'), .int P, .int (nI u'), .ref b0, .ref c1, .ref c2, .ref c3, .int (kn'), .ref e1, .ref e2, .ref e3, .ref e4, .ref e5, .ref e6, .ref e7, .ref e8, .ref e9, .int ir, .int gp, .ref f1, .ref f2])), (b0, .inl (cI, 300, .inl (z')))] t.heap ∧ va_K (dC, dI) vwCl [(cI, .int), (cJ, .long), (cZ, .boolean)] t ∧ va_D (va_A [(m0, .inr (4, [.int (nI n), .int P, .int (nI u), .ref b0, .ref c1, .ref c2, .ref c3, .int kn, .ref e1, .ref e2, .ref e3, .ref e4, .ref e5, .ref e6, .ref e7, .ref e8, .ref e9, .int ir, .int gp, .ref f1, .ref f2])), (b0, .inl (cI, 300, .inl z))] sz) [(m0, .inr (4, [.int (nI n'), .int P, .int (nI u'), .ref b0, .ref c1, .ref c2, .ref c3, .int (kn'), .ref e1, .ref e2, .ref e3, .ref e4, .ref e5, .ref e6, .ref e7, .ref e8, .ref e9, .int ir, .int gp, .ref f1, .ref f2])), (b0, .inl (cI, 300, .inl (z')))]) (va_A [(m0, .inr (4, [.int (nI n), .int P, .int (nI u), .ref b0, .ref c1, .ref c2, .ref c3, .int kn, .ref e1, .ref e2, .ref e3, .ref e4, .ref e5, .ref e6, .ref e7, .ref e8, .ref e9, .int ir, .int gp, .ref f1, .ref f2])), (b0, .inl (cI, 300, .inl z))] sz)) 0 0 (va_A [(m0, .inr (4, [.int (nI n), .int P, .int (nI u), .ref b0, .ref c1, .ref c2, .ref c3, .int kn, .ref e1, .ref e2, .ref e3, .ref e4, .ref e5, .ref e6, .ref e7, .ref e8, .ref e9, .int ir, .int gp, .ref f1, .ref f2])), (b0, .inl (cI, 300, .inl z))] sz) := by
  refine Met.ofW (cc := cX4_functions) (maxL := 3) (ret := (some .boolean)) (by decide) rfl ?_
  intro p ev s m args below meth c s₁ Bd hml hv
  obtain ⟨rfl, hsz, hP, hK, hD0⟩ := hv
  have hx := Bd.exec
  have hb := Bd.bytes
  have hr := Bd.returns
  have hts := atoms_spec (ws := wsX4_functions) Bd.pre
  have hown : s.vm.findClass RX4 = some m.cls := findClass_of_methodNamed Bd.named
  have hlocks := Bd.notSynchronized
  have hin4 : ∀ w ∈ wsX40, w ∈ wsX4_functions := by decide +kernel
  subst hsz
  have hD := hD0.self (sz := s.heap.size)
  generalize hAe : va_A [(m0, .inr (4, [.int (nI n), .int P, .int (nI u), .ref b0, .ref c1, .ref c2, .ref c3, .int kn, .ref e1, .ref e2, .ref e3, .ref e4, .ref e5, .ref e6, .ref e7, .ref e8, .ref e9, .int ir, .int gp, .ref f1, .ref f2])), (b0, .inl (cI, 300, .inl z))] s.heap.size = A at hD ⊢
  have hA : ∀ q : Nat, s.heap.size ≤ q → A q := fun q h => by rw [← hAe]; exact Or.inr h
  have hS : va_S A s.heap s.heap [] := va_S.rf
  have hl := lv_entry ([.ref m0, .int y]) (n := 3) (Nat.le_of_ble_eq_true rfl)
  rw [lg_entry_eq]
  generalize (lg_sl ([.ref m0, .int y]) ++ List.replicate (3 - (lg_sl ([.ref m0, .int y])).length) Slot.unset).toArray = ls at hl ⊢
  have hl : lv_has ls 3 [(0, .ref m0), (1, .int y)] := hl
  generalize hHe : s.heap = H at hP ⊢
  have hS : va_S A s.heap H [] := hHe ▸ hS
  refine lv_iload_n hx hb dX4_functions_0 rfl (lv_at hl 1 rfl) ?_
  refine lv_iconst (v := 1) hx hb dX4_functions_1 (by decide) ?_
  refine lv_icmp_lt (tgt := 12) hx hb dX4_functions_2 (by decide) (fun c_1 => ?_) (fun c_1 => ?_)
  · -- pc 2, side 0
    refine lv_iconst (v := 0) hx hb dX4_functions_12 (by decide) ?_
    have hP9 : va_P (dC, dI) vwCl [(m0, .inr (4, [.int (nI n), .int P, .int (nI u), .ref b0, .ref c1, .ref c2, .ref c3, .int kn, .ref e1, .ref e2, .ref e3, .ref e4, .ref e5, .ref e6, .ref e7, .ref e8, .ref e9, .int ir, .int gp, .ref f1, .ref f2])), (b0, .inl (cI, 300, .inl z))] H := hP
    have hD9 : va_D A [(m0, .inr (4, [.int (nI n), .int P, .int (nI u), .ref b0, .ref c1, .ref c2, .ref c3, .int kn, .ref e1, .ref e2, .ref e3, .ref e4, .ref e5, .ref e6, .ref e7, .ref e8, .ref e9, .int ir, .int gp, .ref f1, .ref f2])), (b0, .inl (cI, 300, .inl z))] := hD
    exact W.zret (v := 0) hx hb hr (by decide) (fun t ht hW => ⟨⟨0, (n, z, u, kn), rfl, Or.inl ⟨rfl, rfl, rfl, rfl, rfl, Or.inl c_1⟩, by rw [ht]; exact hP9, va_K.moved hW.alike hK, hD9⟩, hS.F ht⟩) hS.2.2 dX4_functions_13
  · -- pc 2, side 1
    refine lv_iload_n hx hb dX4_functions_5 rfl (lv_at hl 1 rfl) ?_
    refine lv_sipush (v := 300) hx hb dX4_functions_6 (by decide) ?_
    refine lv_icmp_le (tgt := 14) hx hb dX4_functions_9 (by decide) (fun c_2 => ?_) (fun c_2 => ?_)
    · -- pc 9, side 0
      obtain ⟨y9, -, hy9⟩ := nI_of (x := y) (fun h9 => c_1 (Int32.lt_trans h9 (by decide)))
      subst hy9
      refine lv_aload_n hx hb dX4_functions_14 rfl (lv_at hl 0 rfl) ?_
      refine lv_iload_n hx hb dX4_functions_15 rfl (lv_at hl 1 rfl) ?_
      refine va_put (D := (dC, dI)) (ci := 4) (v := .int (nI y9)) (ty := .int) (C := RX4) (T := TX4) (N := 21) hx hb hts hin4 tyX4 tyX4_ok nmX4 hown hK hP hD hS 0 rfl rfl 0 (by decide) (hts (.fieldLink RX4 7 "CallClustersModel" "many" "I") (by decide +kernel)) (fun _ h9 => h9) rfl (by decide +kernel) (rfl) (rfl) (Nat.le_of_ble_eq_true rfl) dX4_functions_16 (fun H locs hP hD hS => ?_)
      have hP : va_P (dC, dI) vwCl [(m0, .inr (4, [.int (nI y9), .int P, .int (nI u), .ref b0, .ref c1, .ref c2, .ref c3, .int kn, .ref e1, .ref e2, .ref e3, .ref e4, .ref e5, .ref e6, .ref e7, .ref e8, .ref e9, .int ir, .int gp, .ref f1, .ref f2])), (b0, .inl (cI, 300, .inl z))] H := hP
      have hD : va_D A [(m0, .inr (4, [.int (nI y9), .int P, .int (nI u), .ref b0, .ref c1, .ref c2, .ref c3, .int kn, .ref e1, .ref e2, .ref e3, .ref e4, .ref e5, .ref e6, .ref e7, .ref e8, .ref e9, .int ir, .int gp, .ref f1, .ref f2])), (b0, .inl (cI, 300, .inl z))] := hD
      refine lv_aload_n hx hb dX4_functions_19 rfl (lv_at hl 0 rfl) ?_
      refine lv_iconst (v := 0) hx hb dX4_functions_20 (by decide) ?_
      refine va_put (D := (dC, dI)) (ci := 4) (v := .int 0) (ty := .int) (C := RX4) (T := TX4) (N := 21) hx hb hts hin4 tyX4 tyX4_ok nmX4 hown hK hP hD hS 0 rfl rfl 2 (by decide) (hts (.fieldLink RX4 64 "CallClustersModel" "pairs" "I") (by decide +kernel)) (fun _ h9 => h9) rfl (by decide +kernel) (rfl) (rfl) (Nat.le_of_ble_eq_true rfl) dX4_functions_21 (fun H locs hP hD hS => ?_)
      have hP : va_P (dC, dI) vwCl [(m0, .inr (4, [.int (nI y9), .int P, .int 0, .ref b0, .ref c1, .ref c2, .ref c3, .int kn, .ref e1, .ref e2, .ref e3, .ref e4, .ref e5, .ref e6, .ref e7, .ref e8, .ref e9, .int ir, .int gp, .ref f1, .ref f2])), (b0, .inl (cI, 300, .inl z))] H := hP
      have hD : va_D A [(m0, .inr (4, [.int (nI y9), .int P, .int 0, .ref b0, .ref c1, .ref c2, .ref c3, .int kn, .ref e1, .ref e2, .ref e3, .ref e4, .ref e5, .ref e6, .ref e7, .ref e8, .ref e9, .int ir, .int gp, .ref f1, .ref f2])), (b0, .inl (cI, 300, .inl z))] := hD
      refine lv_iconst (v := 0) hx hb dX4_functions_24 (by decide) ?_
      refine tp_i (y := nI 0) (nI_0.symm) ?_
      refine lv_istore_n (lv' := [(2, .int (nI 0)), (0, .ref m0), (1, .int (nI y9))]) hx hb dX4_functions_25 rfl hl (by decide) rfl (fun ls hl => ?_)
      have hP : va_P (dC, dI) vwCl [(m0, .inr (4, [.int (nI y9), .int P, .int 0, .ref b0, .ref c1, .ref c2, .ref c3, .int kn, .ref e1, .ref e2, .ref e3, .ref e4, .ref e5, .ref e6, .ref e7, .ref e8, .ref e9, .int ir, .int gp, .ref f1, .ref f2])), (b0, .inl (cI, 300, .inl (mix 0 (fun _ => 0) z)))] H := by rw [mix_0]; exact hP
      have hD : va_D A [(m0, .inr (4, [.int (nI y9), .int P, .int 0, .ref b0, .ref c1, .ref c2, .ref c3, .int kn, .ref e1, .ref e2, .ref e3, .ref e4, .ref e5, .ref e6, .ref e7, .ref e8, .ref e9, .int ir, .int gp, .ref f1, .ref f2])), (b0, .inl (cI, 300, .inl (mix 0 (fun _ => 0) z)))] := by rw [mix_0]; exact hD
      refine lpX4_functions (nv := nI y9) (y := nI y9) (z := z) hx hb hml hts hown hK hA  (fun  H locs ls hP hD hS hl => ?_) (300) 0 (by omega) H _ ls hP hD hS (lv_sub hl [1, 2, 0] rfl)
      · -- kn_
        refine lv_aload_n hx hb dX4_functions_46 rfl (lv_at hl 0 rfl) ?_
        refine lv_iconst (v := 0) hx hb dX4_functions_47 (by decide) ?_
        refine va_put (D := (dC, dI)) (ci := 4) (v := .int 0) (ty := .boolean) (C := RX4) (T := TX4) (N := 21) hx hb hts hin4 tyX4 tyX4_ok nmX4 hown hK hP hD hS 0 rfl rfl 7 (by decide) (hts (.fieldLink RX4 67 "CallClustersModel" "isKnown" "Z") (by decide +kernel)) (fun _ h9 => h9) rfl (by decide +kernel) (by decide) (by decide) (Nat.le_of_ble_eq_true rfl) dX4_functions_48 (fun H locs hP hD hS => ?_)
        have hP : va_P (dC, dI) vwCl [(m0, .inr (4, [.int (nI y9), .int P, .int 0, .ref b0, .ref c1, .ref c2, .ref c3, .int 0, .ref e1, .ref e2, .ref e3, .ref e4, .ref e5, .ref e6, .ref e7, .ref e8, .ref e9, .int ir, .int gp, .ref f1, .ref f2])), (b0, .inl (cI, 300, .inl (mix 300 (fun _ => 0) z)))] H := hP
        have hD : va_D A [(m0, .inr (4, [.int (nI y9), .int P, .int 0, .ref b0, .ref c1, .ref c2, .ref c3, .int 0, .ref e1, .ref e2, .ref e3, .ref e4, .ref e5, .ref e6, .ref e7, .ref e8, .ref e9, .int ir, .int gp, .ref f1, .ref f2])), (b0, .inl (cI, 300, .inl (mix 300 (fun _ => 0) z)))] := hD
        refine lv_iconst (v := 1) hx hb dX4_functions_51 (by decide) ?_
        have hP := hP.ei 1 (fun _ => 0) rfl (fun j hj => mix_lt _ _ hj)
        have hD := hD.set (p := 1) (e := .inl (cI, 300, .inl (fun _ => 0))) rfl
        have hP9 : va_P (dC, dI) vwCl [(m0, .inr (4, [.int (nI y9), .int P, .int (nI 0), .ref b0, .ref c1, .ref c2, .ref c3, .int 0, .ref e1, .ref e2, .ref e3, .ref e4, .ref e5, .ref e6, .ref e7, .ref e8, .ref e9, .int ir, .int gp, .ref f1, .ref f2])), (b0, .inl (cI, 300, .inl (fun _ => 0)))] H := hP
        have hD9 : va_D A [(m0, .inr (4, [.int (nI y9), .int P, .int (nI 0), .ref b0, .ref c1, .ref c2, .ref c3, .int 0, .ref e1, .ref e2, .ref e3, .ref e4, .ref e5, .ref e6, .ref e7, .ref e8, .ref e9, .int ir, .int gp, .ref f1, .ref f2])), (b0, .inl (cI, 300, .inl (fun _ => 0)))] := hD
        exact W.zret (v := 1) hx hb hr (by decide) (fun t ht hW => ⟨⟨1, (y9, fun _ => 0, 0, 0), rfl, Or.inr ⟨rfl, rfl, rfl, rfl, rfl, c_1, Int32.not_lt.mpr c_2⟩, by rw [ht]; exact hP9, va_K.moved hW.alike hK, hD9⟩, hS.F ht⟩) hS.2.2 dX4_functions_52
    · -- pc 9, side 1
      refine lv_iconst (v := 0) hx hb dX4_functions_12 (by decide) ?_
      have hP9 : va_P (dC, dI) vwCl [(m0, .inr (4, [.int (nI n), .int P, .int (nI u), .ref b0, .ref c1, .ref c2, .ref c3, .int kn, .ref e1, .ref e2, .ref e3, .ref e4, .ref e5, .ref e6, .ref e7, .ref e8, .ref e9, .int ir, .int gp, .ref f1, .ref f2])), (b0, .inl (cI, 300, .inl z))] H := hP
      have hD9 : va_D A [(m0, .inr (4, [.int (nI n), .int P, .int (nI u), .ref b0, .ref c1, .ref c2, .ref c3, .int kn, .ref e1, .ref e2, .ref e3, .ref e4, .ref e5, .ref e6, .ref e7, .ref e8, .ref e9, .int ir, .int gp, .ref f1, .ref f2])), (b0, .inl (cI, 300, .inl z))] := hD
      exact W.zret (v := 0) hx hb hr (by decide) (fun t ht hW => ⟨⟨0, (n, z, u, kn), rfl, Or.inl ⟨rfl, rfl, rfl, rfl, rfl, Or.inr (Int32.not_le.mp c_2)⟩, by rw [ht]; exact hP9, va_K.moved hW.alike hK, hD9⟩, hS.F ht⟩) hS.2.2 dX4_functions_13
set_option maxHeartbeats 4000000 in
set_option maxRecDepth 100000 in
theorem ct_X4_size (l : Launch) (dC : Nat → ClassId) (dI : Nat → Nat → Nat) (cI cJ cZ : ClassId) (sz : Nat) (m0 : Nat) (b0 : Nat) (c1 c2 c3 e1 e2 e3 e4 e5 e6 e7 e8 e9 f1 f2 : Nat) (n : Nat) (P : Int32) (u : Nat) (kn ir gp : Int32) (z : Nat → Int32) (f y : Int32) (hn : n ≤ 300) : Met l yX4_size wsX4_size ({ frames := 1, cells := 0, slots := 0, locals := 21 }) (va_Pc [.ref m0, .int f, .int y] (fun U => U.heap.size = sz ∧ va_P (dC, dI) vwCl [(m0, .inr (4, [.int (nI n), .int P, .int (nI u), .ref b0, .ref c1, .ref c2, .ref c3, .int kn, .ref e1, .ref e2, .ref e3, .ref e4, .ref e5, .ref e6, .ref e7, .ref e8, .ref e9, .int ir, .int gp, .ref f1, .ref f2])), (b0, .inl (cI, 300, .inl z))] U.heap ∧ va_K (dC, dI) vwCl [(cI, .int), (cJ, .long), (cZ, .boolean)] U ∧ va_D (fun _ => True) [(m0, .inr (4, [.int (nI n), .int P, .int (nI u), .ref b0, .ref c1, .ref c2, .ref c3, .int kn, .ref e1, .ref e2, .ref e3, .ref e4, .ref e5, .ref e6, .ref e7, .ref e8, .ref e9, .int ir, .int gp, .ref f1, .ref f2])), (b0, .inl (cI, 300, .inl z))])) (va_Qi (fun (r : Int32) (uu : (Nat → Int32) × Int32) => match uu with | (z', kn') => (r = 0 ∧ z' = z ∧ kn' = kn ∧ (isFI n f = 0 ∨ y < 0 ∨ 1000000 < y)) ∨ (r = 1 ∧ z' = upd z (f.toNatClampNeg) y ∧ kn' = 0 ∧ ¬ isFI n f = 0 ∧ ¬ y < 0 ∧ ¬ 1000000 < y)) (fun (uu : (Nat → Int32) × Int32) (t : State) => match uu with | (z', kn') => va_P (dC, dI) vwCl [(m0, .inr (4, [.int (nI n), .int P, .int (nI u), .ref b0, .ref c1, .ref c2, .ref c3, .int (kn'), .ref e1, .ref e2, .ref e3, .ref e4, .ref e5, .ref e6, .ref e7, .ref e8, .ref e9, .int ir, .int gp, .ref f1, .ref f2])), (b0, .inl (cI, 300, .inl (z')))] t.heap ∧ va_K (dC, dI) vwCl [(cI, .int), (cJ, .long), (cZ, .boolean)] t ∧ va_D (va_A [(m0, .inr (4, [.int (nI n), .int P, .int (nI u), .ref b0, .ref c1, .ref c2, .ref c3, .int kn, .ref e1, .ref e2, .ref e3, .ref e4, .ref e5, .ref e6, .ref e7, .ref e8, .ref e9, .int ir, .int gp, .ref f1, .ref f2])), (b0, .inl (cI, 300, .inl z))] sz) [(m0, .inr (4, [.int (nI n), .int P, .int (nI u), .ref b0, .ref c1, .ref c2, .ref c3, .int (kn'), .ref e1, .ref e2, .ref e3, .ref e4, .ref e5, .ref e6, .ref e7, .ref e8, .ref e9, .int ir, .int gp, .ref f1, .ref f2])), (b0, .inl (cI, 300, .inl (z')))]) (va_A [(m0, .inr (4, [.int (nI n), .int P, .int (nI u), .ref b0, .ref c1, .ref c2, .ref c3, .int kn, .ref e1, .ref e2, .ref e3, .ref e4, .ref e5, .ref e6, .ref e7, .ref e8, .ref e9, .int ir, .int gp, .ref f1, .ref f2])), (b0, .inl (cI, 300, .inl z))] sz)) 0 0 (va_A [(m0, .inr (4, [.int (nI n), .int P, .int (nI u), .ref b0, .ref c1, .ref c2, .ref c3, .int kn, .ref e1, .ref e2, .ref e3, .ref e4, .ref e5, .ref e6, .ref e7, .ref e8, .ref e9, .int ir, .int gp, .ref f1, .ref f2])), (b0, .inl (cI, 300, .inl z))] sz) := by
  refine Met.ofW (cc := cX4_size) (maxL := 3) (ret := (some .boolean)) (by decide) rfl ?_
  intro p ev s m args below meth c s₁ Bd hml hv
  obtain ⟨rfl, hsz, hP, hK, hD0⟩ := hv
  have hx := Bd.exec
  have hb := Bd.bytes
  have hr := Bd.returns
  have hts := atoms_spec (ws := wsX4_size) Bd.pre
  have hown : s.vm.findClass RX4 = some m.cls := findClass_of_methodNamed Bd.named
  have hlocks := Bd.notSynchronized
  have hin4 : ∀ w ∈ wsX40, w ∈ wsX4_size := by decide +kernel
  subst hsz
  have hD := hD0.self (sz := s.heap.size)
  generalize hAe : va_A [(m0, .inr (4, [.int (nI n), .int P, .int (nI u), .ref b0, .ref c1, .ref c2, .ref c3, .int kn, .ref e1, .ref e2, .ref e3, .ref e4, .ref e5, .ref e6, .ref e7, .ref e8, .ref e9, .int ir, .int gp, .ref f1, .ref f2])), (b0, .inl (cI, 300, .inl z))] s.heap.size = A at hD ⊢
  have hA : ∀ q : Nat, s.heap.size ≤ q → A q := fun q h => by rw [← hAe]; exact Or.inr h
  have hS : va_S A s.heap s.heap [] := va_S.rf
  have hl := lv_entry ([.ref m0, .int f, .int y]) (n := 3) (Nat.le_of_ble_eq_true rfl)
  rw [lg_entry_eq]
  generalize (lg_sl ([.ref m0, .int f, .int y]) ++ List.replicate (3 - (lg_sl ([.ref m0, .int f, .int y])).length) Slot.unset).toArray = ls at hl ⊢
  have hl : lv_has ls 3 [(0, .ref m0), (1, .int f), (2, .int y)] := hl
  generalize hHe : s.heap = H at hP ⊢
  have hS : va_S A s.heap H [] := hHe ▸ hS
  refine lv_aload_n hx hb dX4_size_0 rfl (lv_at hl 0 rfl) ?_
  refine lv_iload_n hx hb dX4_size_1 rfl (lv_at hl 1 rfl) ?_
  have hPc := hP.sub (ws' := [(m0, .inr (4, [.int (nI n), .int P, .int (nI u), .ref b0, .ref c1, .ref c2, .ref c3, .int kn, .ref e1, .ref e2, .ref e3, .ref e4, .ref e5, .ref e6, .ref e7, .ref e8, .ref e9, .int ir, .int gp, .ref f1, .ref f2]))]) [0] rfl
  have hDc := hD.sub (ws' := [(m0, .inr (4, [.int (nI n), .int P, .int (nI u), .ref b0, .ref c1, .ref c2, .ref c3, .int kn, .ref e1, .ref e2, .ref e3, .ref e4, .ref e5, .ref e6, .ref e7, .ref e8, .ref e9, .int ir, .int gp, .ref f1, .ref f2]))]) [0] (by decide) rfl
  have hFc := va_free (wc := [(m0, .inr (4, [.int (nI n), .int P, .int (nI u), .ref b0, .ref c1, .ref c2, .ref c3, .int kn, .ref e1, .ref e2, .ref e3, .ref e4, .ref e5, .ref e6, .ref e7, .ref e8, .ref e9, .int ir, .int gp, .ref f1, .ref f2]))]) hD hS hA [0] rfl
  refine va_calli (va_runV (As := [.int f]) (rest := []) ⟨hx, hb, hml, hown, hts⟩ (ct_X4_isFunction l dC dI cI cJ cZ H.size m0 b0 c1 c2 c3 e1 e2 e3 e4 e5 e6 e7 e8 e9 f1 f2 n P u kn ir gp f ) (cwV 1 hts gX4_size_X4_isFunction rfl rfl rfl (by decide +kernel) ⟨Nat.le_of_ble_eq_true rfl, Nat.le_of_ble_eq_true rfl⟩) (pre_V hK hPc hDc (ci := 4) rfl rfl) rfl rfl hl.1 rfl (lv_room (Nat.le_of_ble_eq_true rfl)) dX4_size_2 ⟨Nat.zero_le _, Nat.zero_le _⟩) hS (fun q _ h => hFc q h) hFc (fun r_1 uu t H1 locs ht hvm hw hB hz1 hk1 hS => ?_)
  obtain ⟨hP1, hK1, hD1⟩ := hB
  rw [ht] at hP1
  try dsimp only at hw
  have hP1 : va_P (dC, dI) vwCl [(m0, .inr (4, [.int (nI n), .int P, .int (nI u), .ref b0, .ref c1, .ref c2, .ref c3, .int kn, .ref e1, .ref e2, .ref e3, .ref e4, .ref e5, .ref e6, .ref e7, .ref e8, .ref e9, .int ir, .int gp, .ref f1, .ref f2]))] H1 := hP1
  obtain ⟨hP, hD⟩ := va_join (wr := [(b0, .inl (cI, 300, .inl z))]) (w1 := [(m0, .inr (4, [.int (nI n), .int P, .int (nI u), .ref b0, .ref c1, .ref c2, .ref c3, .int kn, .ref e1, .ref e2, .ref e3, .ref e4, .ref e5, .ref e6, .ref e7, .ref e8, .ref e9, .int ir, .int gp, .ref f1, .ref f2]))]) hP hD [0] [1] rfl rfl (by decide) (by decide) hk1 hFc hP1 hD1
  have hP := hP.sub (ws' := [(m0, .inr (4, [.int (nI n), .int P, .int (nI u), .ref b0, .ref c1, .ref c2, .ref c3, .int kn, .ref e1, .ref e2, .ref e3, .ref e4, .ref e5, .ref e6, .ref e7, .ref e8, .ref e9, .int ir, .int gp, .ref f1, .ref f2])), (b0, .inl (cI, 300, .inl z))]) [1, 0] rfl
  have hD := hD.sub (ws' := [(m0, .inr (4, [.int (nI n), .int P, .int (nI u), .ref b0, .ref c1, .ref c2, .ref c3, .int kn, .ref e1, .ref e2, .ref e3, .ref e4, .ref e5, .ref e6, .ref e7, .ref e8, .ref e9, .int ir, .int gp, .ref f1, .ref f2])), (b0, .inl (cI, 300, .inl z))]) [1, 0] (by decide) rfl
  generalize H1 = H at hP hS ⊢
  refine lv_if_eq (tgt := 18) hx hb dX4_size_5 (by decide) (fun c_2 => ?_) (fun c_2 => ?_)
  · -- pc 5, side 0
    rw [hw] at c_2
    refine lv_iconst (v := 0) hx hb dX4_size_18 (by decide) ?_
    have hP9 : va_P (dC, dI) vwCl [(m0, .inr (4, [.int (nI n), .int P, .int (nI u), .ref b0, .ref c1, .ref c2, .ref c3, .int kn, .ref e1, .ref e2, .ref e3, .ref e4, .ref e5, .ref e6, .ref e7, .ref e8, .ref e9, .int ir, .int gp, .ref f1, .ref f2])), (b0, .inl (cI, 300, .inl z))] H := hP
    have hD9 : va_D A [(m0, .inr (4, [.int (nI n), .int P, .int (nI u), .ref b0, .ref c1, .ref c2, .ref c3, .int kn, .ref e1, .ref e2, .ref e3, .ref e4, .ref e5, .ref e6, .ref e7, .ref e8, .ref e9, .int ir, .int gp, .ref f1, .ref f2])), (b0, .inl (cI, 300, .inl z))] := hD
    exact W.zret (v := 0) hx hb hr (by decide) (fun t ht hW => ⟨⟨0, (z, kn), rfl, Or.inl ⟨rfl, rfl, rfl, Or.inl c_2⟩, by rw [ht]; exact hP9, va_K.moved hW.alike hK, hD9⟩, hS.F ht⟩) hS.2.2 dX4_size_19
  · -- pc 5, side 1
    rw [hw] at c_2
    refine lv_iload_n hx hb dX4_size_8 rfl (lv_at hl 2 rfl) ?_
    refine lv_if_lt (tgt := 18) hx hb dX4_size_9 (by decide) (fun c_3 => ?_) (fun c_3 => ?_)
    · -- pc 9, side 0
      refine lv_iconst (v := 0) hx hb dX4_size_18 (by decide) ?_
      have hP9 : va_P (dC, dI) vwCl [(m0, .inr (4, [.int (nI n), .int P, .int (nI u), .ref b0, .ref c1, .ref c2, .ref c3, .int kn, .ref e1, .ref e2, .ref e3, .ref e4, .ref e5, .ref e6, .ref e7, .ref e8, .ref e9, .int ir, .int gp, .ref f1, .ref f2])), (b0, .inl (cI, 300, .inl z))] H := hP
      have hD9 : va_D A [(m0, .inr (4, [.int (nI n), .int P, .int (nI u), .ref b0, .ref c1, .ref c2, .ref c3, .int kn, .ref e1, .ref e2, .ref e3, .ref e4, .ref e5, .ref e6, .ref e7, .ref e8, .ref e9, .int ir, .int gp, .ref f1, .ref f2])), (b0, .inl (cI, 300, .inl z))] := hD
      exact W.zret (v := 0) hx hb hr (by decide) (fun t ht hW => ⟨⟨0, (z, kn), rfl, Or.inl ⟨rfl, rfl, rfl, Or.inr (Or.inl c_3)⟩, by rw [ht]; exact hP9, va_K.moved hW.alike hK, hD9⟩, hS.F ht⟩) hS.2.2 dX4_size_19
    · -- pc 9, side 1
      refine lv_iload_n hx hb dX4_size_12 rfl (lv_at hl 2 rfl) ?_
      refine lv_ldc (v := 1000000) hx hb hown (hts (.constant RX4 75 (1000000)) (by decide +kernel)) dX4_size_13 ?_
      refine lv_icmp_le (tgt := 20) hx hb dX4_size_15 (by decide) (fun c_4 => ?_) (fun c_4 => ?_)
      · -- pc 15, side 0
        refine lv_aload_n hx hb dX4_size_20 rfl (lv_at hl 0 rfl) ?_
        refine va_get (D := (dC, dI)) (ci := 4) (v := .ref b0) (C := RX4) (T := TX4) (N := 21) hx hb hts hin4 hown hK hP 0 rfl rfl 3 (by decide) (hts (.fieldLink RX4 16 "CallClustersModel" "bytes" "[I") (by decide +kernel)) (fun _ h9 => h9) rfl dX4_size_21 ?_
        refine lv_iload_n hx hb dX4_size_24 rfl (lv_at hl 1 rfl) ?_
        refine lv_iload_n hx hb dX4_size_25 rfl (lv_at hl 2 rfl) ?_
        refine va_iast hx hb hK hP hD hS 1 0 rfl rfl (isFI_v hn c_2) dX4_size_26 (fun H locs hP hD hS => ?_)
        have hP : va_P (dC, dI) vwCl [(m0, .inr (4, [.int (nI n), .int P, .int (nI u), .ref b0, .ref c1, .ref c2, .ref c3, .int kn, .ref e1, .ref e2, .ref e3, .ref e4, .ref e5, .ref e6, .ref e7, .ref e8, .ref e9, .int ir, .int gp, .ref f1, .ref f2])), (b0, .inl (cI, 300, .inl (upd z (f.toNatClampNeg) y)))] H := hP
        have hD : va_D A [(m0, .inr (4, [.int (nI n), .int P, .int (nI u), .ref b0, .ref c1, .ref c2, .ref c3, .int kn, .ref e1, .ref e2, .ref e3, .ref e4, .ref e5, .ref e6, .ref e7, .ref e8, .ref e9, .int ir, .int gp, .ref f1, .ref f2])), (b0, .inl (cI, 300, .inl (upd z (f.toNatClampNeg) y)))] := hD
        refine lv_aload_n hx hb dX4_size_27 rfl (lv_at hl 0 rfl) ?_
        refine lv_iconst (v := 0) hx hb dX4_size_28 (by decide) ?_
        refine va_put (D := (dC, dI)) (ci := 4) (v := .int 0) (ty := .boolean) (C := RX4) (T := TX4) (N := 21) hx hb hts hin4 tyX4 tyX4_ok nmX4 hown hK hP hD hS 0 rfl rfl 7 (by decide) (hts (.fieldLink RX4 67 "CallClustersModel" "isKnown" "Z") (by decide +kernel)) (fun _ h9 => h9) rfl (by decide +kernel) (by decide) (by decide) (Nat.le_of_ble_eq_true rfl) dX4_size_29 (fun H locs hP hD hS => ?_)
        have hP : va_P (dC, dI) vwCl [(m0, .inr (4, [.int (nI n), .int P, .int (nI u), .ref b0, .ref c1, .ref c2, .ref c3, .int 0, .ref e1, .ref e2, .ref e3, .ref e4, .ref e5, .ref e6, .ref e7, .ref e8, .ref e9, .int ir, .int gp, .ref f1, .ref f2])), (b0, .inl (cI, 300, .inl (upd z (f.toNatClampNeg) y)))] H := hP
        have hD : va_D A [(m0, .inr (4, [.int (nI n), .int P, .int (nI u), .ref b0, .ref c1, .ref c2, .ref c3, .int 0, .ref e1, .ref e2, .ref e3, .ref e4, .ref e5, .ref e6, .ref e7, .ref e8, .ref e9, .int ir, .int gp, .ref f1, .ref f2])), (b0, .inl (cI, 300, .inl (upd z (f.toNatClampNeg) y)))] := hD
        refine lv_iconst (v := 1) hx hb dX4_size_32 (by decide) ?_
        have hP9 : va_P (dC, dI) vwCl [(m0, .inr (4, [.int (nI n), .int P, .int (nI u), .ref b0, .ref c1, .ref c2, .ref c3, .int 0, .ref e1, .ref e2, .ref e3, .ref e4, .ref e5, .ref e6, .ref e7, .ref e8, .ref e9, .int ir, .int gp, .ref f1, .ref f2])), (b0, .inl (cI, 300, .inl (upd z (f.toNatClampNeg) y)))] H := hP
        have hD9 : va_D A [(m0, .inr (4, [.int (nI n), .int P, .int (nI u), .ref b0, .ref c1, .ref c2, .ref c3, .int 0, .ref e1, .ref e2, .ref e3, .ref e4, .ref e5, .ref e6, .ref e7, .ref e8, .ref e9, .int ir, .int gp, .ref f1, .ref f2])), (b0, .inl (cI, 300, .inl (upd z (f.toNatClampNeg) y)))] := hD
        exact W.zret (v := 1) hx hb hr (by decide) (fun t ht hW => ⟨⟨1, (upd z (f.toNatClampNeg) y, 0), rfl, Or.inr ⟨rfl, rfl, rfl, c_2, c_3, Int32.not_lt.mpr c_4⟩, by rw [ht]; exact hP9, va_K.moved hW.alike hK, hD9⟩, hS.F ht⟩) hS.2.2 dX4_size_33
      · -- pc 15, side 1
        refine lv_iconst (v := 0) hx hb dX4_size_18 (by decide) ?_
        have hP9 : va_P (dC, dI) vwCl [(m0, .inr (4, [.int (nI n), .int P, .int (nI u), .ref b0, .ref c1, .ref c2, .ref c3, .int kn, .ref e1, .ref e2, .ref e3, .ref e4, .ref e5, .ref e6, .ref e7, .ref e8, .ref e9, .int ir, .int gp, .ref f1, .ref f2])), (b0, .inl (cI, 300, .inl z))] H := hP
        have hD9 : va_D A [(m0, .inr (4, [.int (nI n), .int P, .int (nI u), .ref b0, .ref c1, .ref c2, .ref c3, .int kn, .ref e1, .ref e2, .ref e3, .ref e4, .ref e5, .ref e6, .ref e7, .ref e8, .ref e9, .int ir, .int gp, .ref f1, .ref f2])), (b0, .inl (cI, 300, .inl z))] := hD
        exact W.zret (v := 0) hx hb hr (by decide) (fun t ht hW => ⟨⟨0, (z, kn), rfl, Or.inl ⟨rfl, rfl, rfl, Or.inr (Or.inr (Int32.not_le.mp c_4))⟩, by rw [ht]; exact hP9, va_K.moved hW.alike hK, hD9⟩, hS.F ht⟩) hS.2.2 dX4_size_19
set_option maxHeartbeats 4000000 in
set_option maxRecDepth 100000 in
theorem ct_X4_page (l : Launch) (dC : Nat → ClassId) (dI : Nat → Nat → Nat) (cI cJ cZ : ClassId) (sz : Nat) (m0 : Nat) (b0 c1 c2 c3 e1 e2 e3 e4 e5 e6 e7 e8 e9 f1 f2 : Nat) (n : Nat) (P : Int32) (u : Nat) (kn ir gp : Int32) (y : Int32)  : Met l yX4_page wsX4_page ({ frames := 0, cells := 0, slots := 0, locals := 0 }) (va_Pc [.ref m0, .int y] (fun U => U.heap.size = sz ∧ va_P (dC, dI) vwCl [(m0, .inr (4, [.int (nI n), .int P, .int (nI u), .ref b0, .ref c1, .ref c2, .ref c3, .int kn, .ref e1, .ref e2, .ref e3, .ref e4, .ref e5, .ref e6, .ref e7, .ref e8, .ref e9, .int ir, .int gp, .ref f1, .ref f2]))] U.heap ∧ va_K (dC, dI) vwCl [(cI, .int), (cJ, .long), (cZ, .boolean)] U ∧ va_D (fun _ => True) [(m0, .inr (4, [.int (nI n), .int P, .int (nI u), .ref b0, .ref c1, .ref c2, .ref c3, .int kn, .ref e1, .ref e2, .ref e3, .ref e4, .ref e5, .ref e6, .ref e7, .ref e8, .ref e9, .int ir, .int gp, .ref f1, .ref f2]))])) (va_Qi (fun (r : Int32) (uu : Int32 × Int32) => match uu with | (P', kn') => (r = 0 ∧ P' = P ∧ kn' = kn ∧ (y < 1 ∨ 100000000 < y)) ∨ (r = 1 ∧ P' = y ∧ kn' = 0 ∧ ¬ y < 1 ∧ ¬ 100000000 < y)) (fun (uu : Int32 × Int32) (t : State) => match uu with | (P', kn') => va_P (dC, dI) vwCl [(m0, .inr (4, [.int (nI n), .int (P'), .int (nI u), .ref b0, .ref c1, .ref c2, .ref c3, .int (kn'), .ref e1, .ref e2, .ref e3, .ref e4, .ref e5, .ref e6, .ref e7, .ref e8, .ref e9, .int ir, .int gp, .ref f1, .ref f2]))] t.heap ∧ va_K (dC, dI) vwCl [(cI, .int), (cJ, .long), (cZ, .boolean)] t ∧ va_D (va_A [(m0, .inr (4, [.int (nI n), .int P, .int (nI u), .ref b0, .ref c1, .ref c2, .ref c3, .int kn, .ref e1, .ref e2, .ref e3, .ref e4, .ref e5, .ref e6, .ref e7, .ref e8, .ref e9, .int ir, .int gp, .ref f1, .ref f2]))] sz) [(m0, .inr (4, [.int (nI n), .int (P'), .int (nI u), .ref b0, .ref c1, .ref c2, .ref c3, .int (kn'), .ref e1, .ref e2, .ref e3, .ref e4, .ref e5, .ref e6, .ref e7, .ref e8, .ref e9, .int ir, .int gp, .ref f1, .ref f2]))]) (va_A [(m0, .inr (4, [.int (nI n), .int P, .int (nI u), .ref b0, .ref c1, .ref c2, .ref c3, .int kn, .ref e1, .ref e2, .ref e3, .ref e4, .ref e5, .ref e6, .ref e7, .ref e8, .ref e9, .int ir, .int gp, .ref f1, .ref f2]))] sz)) 0 0 (va_A [(m0, .inr (4, [.int (nI n), .int P, .int (nI u), .ref b0, .ref c1, .ref c2, .ref c3, .int kn, .ref e1, .ref e2, .ref e3, .ref e4, .ref e5, .ref e6, .ref e7, .ref e8, .ref e9, .int ir, .int gp, .ref f1, .ref f2]))] sz) := by
  refine Met.ofW (cc := cX4_page) (maxL := 2) (ret := (some .boolean)) (by decide) rfl ?_
  intro p ev s m args below meth c s₁ Bd hml hv
  obtain ⟨rfl, hsz, hP, hK, hD0⟩ := hv
  have hx := Bd.exec
  have hb := Bd.bytes
  have hr := Bd.returns
  have hts := atoms_spec (ws := wsX4_page) Bd.pre
  have hown : s.vm.findClass RX4 = some m.cls := findClass_of_methodNamed Bd.named
  have hlocks := Bd.notSynchronized
  have hin4 : ∀ w ∈ wsX40, w ∈ wsX4_page := by decide +kernel
  subst hsz
  have hD := hD0.self (sz := s.heap.size)
  generalize hAe : va_A [(m0, .inr (4, [.int (nI n), .int P, .int (nI u), .ref b0, .ref c1, .ref c2, .ref c3, .int kn, .ref e1, .ref e2, .ref e3, .ref e4, .ref e5, .ref e6, .ref e7, .ref e8, .ref e9, .int ir, .int gp, .ref f1, .ref f2]))] s.heap.size = A at hD ⊢
  have hA : ∀ q : Nat, s.heap.size ≤ q → A q := fun q h => by rw [← hAe]; exact Or.inr h
  have hS : va_S A s.heap s.heap [] := va_S.rf
  have hl := lv_entry ([.ref m0, .int y]) (n := 2) (Nat.le_of_ble_eq_true rfl)
  rw [lg_entry_eq]
  generalize (lg_sl ([.ref m0, .int y]) ++ List.replicate (2 - (lg_sl ([.ref m0, .int y])).length) Slot.unset).toArray = ls at hl ⊢
  have hl : lv_has ls 2 [(0, .ref m0), (1, .int y)] := hl
  generalize hHe : s.heap = H at hP ⊢
  have hS : va_S A s.heap H [] := hHe ▸ hS
  refine lv_iload_n hx hb dX4_page_0 rfl (lv_at hl 1 rfl) ?_
  refine lv_iconst (v := 1) hx hb dX4_page_1 (by decide) ?_
  refine lv_icmp_lt (tgt := 11) hx hb dX4_page_2 (by decide) (fun c_1 => ?_) (fun c_1 => ?_)
  · -- pc 2, side 0
    refine lv_iconst (v := 0) hx hb dX4_page_11 (by decide) ?_
    have hP9 : va_P (dC, dI) vwCl [(m0, .inr (4, [.int (nI n), .int P, .int (nI u), .ref b0, .ref c1, .ref c2, .ref c3, .int kn, .ref e1, .ref e2, .ref e3, .ref e4, .ref e5, .ref e6, .ref e7, .ref e8, .ref e9, .int ir, .int gp, .ref f1, .ref f2]))] H := hP
    have hD9 : va_D A [(m0, .inr (4, [.int (nI n), .int P, .int (nI u), .ref b0, .ref c1, .ref c2, .ref c3, .int kn, .ref e1, .ref e2, .ref e3, .ref e4, .ref e5, .ref e6, .ref e7, .ref e8, .ref e9, .int ir, .int gp, .ref f1, .ref f2]))] := hD
    exact W.zret (v := 0) hx hb hr (by decide) (fun t ht hW => ⟨⟨0, (P, kn), rfl, Or.inl ⟨rfl, rfl, rfl, Or.inl c_1⟩, by rw [ht]; exact hP9, va_K.moved hW.alike hK, hD9⟩, hS.F ht⟩) hS.2.2 dX4_page_12
  · -- pc 2, side 1
    refine lv_iload_n hx hb dX4_page_5 rfl (lv_at hl 1 rfl) ?_
    refine lv_ldc (v := 100000000) hx hb hown (hts (.constant RX4 91 (100000000)) (by decide +kernel)) dX4_page_6 ?_
    refine lv_icmp_le (tgt := 13) hx hb dX4_page_8 (by decide) (fun c_2 => ?_) (fun c_2 => ?_)
    · -- pc 8, side 0
      refine lv_aload_n hx hb dX4_page_13 rfl (lv_at hl 0 rfl) ?_
      refine lv_iload_n hx hb dX4_page_14 rfl (lv_at hl 1 rfl) ?_
      refine va_put (D := (dC, dI)) (ci := 4) (v := .int y) (ty := .int) (C := RX4) (T := TX4) (N := 21) hx hb hts hin4 tyX4 tyX4_ok nmX4 hown hK hP hD hS 0 rfl rfl 1 (by decide) (hts (.fieldLink RX4 13 "CallClustersModel" "limit" "I") (by decide +kernel)) (fun _ h9 => h9) rfl (by decide +kernel) (rfl) (rfl) (Nat.le_of_ble_eq_true rfl) dX4_page_15 (fun H locs hP hD hS => ?_)
      have hP : va_P (dC, dI) vwCl [(m0, .inr (4, [.int (nI n), .int y, .int (nI u), .ref b0, .ref c1, .ref c2, .ref c3, .int kn, .ref e1, .ref e2, .ref e3, .ref e4, .ref e5, .ref e6, .ref e7, .ref e8, .ref e9, .int ir, .int gp, .ref f1, .ref f2]))] H := hP
      have hD : va_D A [(m0, .inr (4, [.int (nI n), .int y, .int (nI u), .ref b0, .ref c1, .ref c2, .ref c3, .int kn, .ref e1, .ref e2, .ref e3, .ref e4, .ref e5, .ref e6, .ref e7, .ref e8, .ref e9, .int ir, .int gp, .ref f1, .ref f2]))] := hD
      refine lv_aload_n hx hb dX4_page_18 rfl (lv_at hl 0 rfl) ?_
      refine lv_iconst (v := 0) hx hb dX4_page_19 (by decide) ?_
      refine va_put (D := (dC, dI)) (ci := 4) (v := .int 0) (ty := .boolean) (C := RX4) (T := TX4) (N := 21) hx hb hts hin4 tyX4 tyX4_ok nmX4 hown hK hP hD hS 0 rfl rfl 7 (by decide) (hts (.fieldLink RX4 67 "CallClustersModel" "isKnown" "Z") (by decide +kernel)) (fun _ h9 => h9) rfl (by decide +kernel) (by decide) (by decide) (Nat.le_of_ble_eq_true rfl) dX4_page_20 (fun H locs hP hD hS => ?_)
      have hP : va_P (dC, dI) vwCl [(m0, .inr (4, [.int (nI n), .int y, .int (nI u), .ref b0, .ref c1, .ref c2, .ref c3, .int 0, .ref e1, .ref e2, .ref e3, .ref e4, .ref e5, .ref e6, .ref e7, .ref e8, .ref e9, .int ir, .int gp, .ref f1, .ref f2]))] H := hP
      have hD : va_D A [(m0, .inr (4, [.int (nI n), .int y, .int (nI u), .ref b0, .ref c1, .ref c2, .ref c3, .int 0, .ref e1, .ref e2, .ref e3, .ref e4, .ref e5, .ref e6, .ref e7, .ref e8, .ref e9, .int ir, .int gp, .ref f1, .ref f2]))] := hD
      refine lv_iconst (v := 1) hx hb dX4_page_23 (by decide) ?_
      have hP9 : va_P (dC, dI) vwCl [(m0, .inr (4, [.int (nI n), .int y, .int (nI u), .ref b0, .ref c1, .ref c2, .ref c3, .int 0, .ref e1, .ref e2, .ref e3, .ref e4, .ref e5, .ref e6, .ref e7, .ref e8, .ref e9, .int ir, .int gp, .ref f1, .ref f2]))] H := hP
      have hD9 : va_D A [(m0, .inr (4, [.int (nI n), .int y, .int (nI u), .ref b0, .ref c1, .ref c2, .ref c3, .int 0, .ref e1, .ref e2, .ref e3, .ref e4, .ref e5, .ref e6, .ref e7, .ref e8, .ref e9, .int ir, .int gp, .ref f1, .ref f2]))] := hD
      exact W.zret (v := 1) hx hb hr (by decide) (fun t ht hW => ⟨⟨1, (y, 0), rfl, Or.inr ⟨rfl, rfl, rfl, c_1, Int32.not_lt.mpr c_2⟩, by rw [ht]; exact hP9, va_K.moved hW.alike hK, hD9⟩, hS.F ht⟩) hS.2.2 dX4_page_24
    · -- pc 8, side 1
      refine lv_iconst (v := 0) hx hb dX4_page_11 (by decide) ?_
      have hP9 : va_P (dC, dI) vwCl [(m0, .inr (4, [.int (nI n), .int P, .int (nI u), .ref b0, .ref c1, .ref c2, .ref c3, .int kn, .ref e1, .ref e2, .ref e3, .ref e4, .ref e5, .ref e6, .ref e7, .ref e8, .ref e9, .int ir, .int gp, .ref f1, .ref f2]))] H := hP
      have hD9 : va_D A [(m0, .inr (4, [.int (nI n), .int P, .int (nI u), .ref b0, .ref c1, .ref c2, .ref c3, .int kn, .ref e1, .ref e2, .ref e3, .ref e4, .ref e5, .ref e6, .ref e7, .ref e8, .ref e9, .int ir, .int gp, .ref f1, .ref f2]))] := hD
      exact W.zret (v := 0) hx hb hr (by decide) (fun t ht hW => ⟨⟨0, (P, kn), rfl, Or.inl ⟨rfl, rfl, rfl, Or.inr (Int32.not_le.mp c_2)⟩, by rw [ht]; exact hP9, va_K.moved hW.alike hK, hD9⟩, hS.F ht⟩) hS.2.2 dX4_page_12
set_option maxHeartbeats 4000000 in
set_option maxRecDepth 100000 in
theorem lpX4_call {p : Program} {l : Launch} {ev : Env} {s : State} {m : MethodId} {args : Array Value} {below : List Frame} {meth : Method} {c : Code} {Q : State → Prop} {A : Nat → Prop} {dC : Nat → ClassId} {dI : Nat → Nat → Nat} {cI cJ cZ : ClassId} {R : Room} {cells slots : Nat} (hx : p.tables.exec = Jvm.exec) (hb : c.code = cX4_call) (hml : c.maxLocals = 5) (hts : ∀ w ∈ wsX4_call, w.before args s = true) (hown : s.vm.findClass RX4 = some m.cls) (hK : va_K (dC, dI) vwCl [(cI, .int), (cJ, .long), (cZ, .boolean)] s) (hA : ∀ q : Nat, s.heap.size ≤ q → A q) {m0 : Nat} {c1 : Nat} {c2 : Nat} {c3 : Nat} {b0 e1 e2 e3 e4 e5 e6 e7 e8 e9 f1 f2 : Nat} {nn : Nat} {P : Int32} {u : Nat} {kn ir gp : Int32} {F T : Nat → Int32} {C : Nat → Int64} {f g y : Int32} (hu : u ≤ 2000)  (kx : ∀ (k : Nat), k ≤ u → pfind F T f g u 0 = k → ∀ (H : Heap) (locs : List Loc) (ls : Array Slot), va_P (dC, dI) vwCl [(m0, .inr (4, [.int (nI nn), .int P, .int (nI u), .ref b0, .ref c1, .ref c2, .ref c3, .int kn, .ref e1, .ref e2, .ref e3, .ref e4, .ref e5, .ref e6, .ref e7, .ref e8, .ref e9, .int ir, .int gp, .ref f1, .ref f2])), (c1, .inl (cI, 2000, .inl F)), (c2, .inl (cI, 2000, .inl T)), (c3, .inl (cJ, 2000, .inr (.inl C)))] H → va_D A [(m0, .inr (4, [.int (nI nn), .int P, .int (nI u), .ref b0, .ref c1, .ref c2, .ref c3, .int kn, .ref e1, .ref e2, .ref e3, .ref e4, .ref e5, .ref e6, .ref e7, .ref e8, .ref e9, .int ir, .int gp, .ref f1, .ref f2])), (c1, .inl (cI, 2000, .inl F)), (c2, .inl (cI, 2000, .inl T)), (c3, .inl (cJ, 2000, .inr (.inl C)))] → va_S A s.heap H locs → lv_has ls 5 [(0, .ref m0), (1, .int f), (2, .int g), (3, .int y), (4, .int (nI k))] → W p l ev R s m args below meth c H locs cells slots Q (F0 m 75 ls [])) : ∀ (n : Nat) (k : Nat), k + n = u → pfind F T f g u 0 = pfind F T f g n k → ∀ (H : Heap) (locs : List Loc) (ls : Array Slot), va_P (dC, dI) vwCl [(m0, .inr (4, [.int (nI nn), .int P, .int (nI u), .ref b0, .ref c1, .ref c2, .ref c3, .int kn, .ref e1, .ref e2, .ref e3, .ref e4, .ref e5, .ref e6, .ref e7, .ref e8, .ref e9, .int ir, .int gp, .ref f1, .ref f2])), (c1, .inl (cI, 2000, .inl F)), (c2, .inl (cI, 2000, .inl T)), (c3, .inl (cJ, 2000, .inr (.inl C)))] H → va_D A [(m0, .inr (4, [.int (nI nn), .int P, .int (nI u), .ref b0, .ref c1, .ref c2, .ref c3, .int kn, .ref e1, .ref e2, .ref e3, .ref e4, .ref e5, .ref e6, .ref e7, .ref e8, .ref e9, .int ir, .int gp, .ref f1, .ref f2])), (c1, .inl (cI, 2000, .inl F)), (c2, .inl (cI, 2000, .inl T)), (c3, .inl (cJ, 2000, .inr (.inl C)))] → va_S A s.heap H locs → lv_has ls 5 [(0, .ref m0), (1, .int f), (2, .int g), (3, .int y), (4, .int (nI k))] → W p l ev R s m args below meth c H locs cells slots Q (F0 m 38 ls []) := by
  have hin4 : ∀ w ∈ wsX40, w ∈ wsX4_call := by decide +kernel
  intro n
  induction n with
  | zero =>
    intro k hk hp H locs ls hP hD hS hl
    have hk : k = u := by omega
    subst hk
    have hp : pfind F T f g k 0 = k := hp
    refine lv_iload hx hb dX4_call_38 (lv_at hl 4 rfl) ?_
    refine lv_aload_n hx hb dX4_call_40 rfl (lv_at hl 0 rfl) ?_
    refine va_get (D := (dC, dI)) (ci := 4) (v := .int (nI k)) (C := RX4) (T := TX4) (N := 21) hx hb hts hin4 hown hK hP 0 rfl rfl 2 (by decide) (hts (.fieldLink RX4 64 "CallClustersModel" "pairs" "I") (by decide +kernel)) (fun _ h9 => h9) rfl dX4_call_41 ?_
    refine lv_icmp_ge (tgt := 75) hx hb dX4_call_44 (by decide) (fun c_1 => ?_) (fun c_1 => ?_)
    · -- pc 44, side 0
      exact kx k (Nat.le_refl _) (hp) H locs ls hP hD hS (lv_sub hl [0, 1, 2, 3, 4] rfl)
    · -- pc 44, side 1
      exact absurd (nI_le (Nat.le_refl _) (by omega)) c_1
  | succ n ih =>
    intro k hk hp H locs ls hP hD hS hl
    refine lv_iload hx hb dX4_call_38 (lv_at hl 4 rfl) ?_
    refine lv_aload_n hx hb dX4_call_40 rfl (lv_at hl 0 rfl) ?_
    refine va_get (D := (dC, dI)) (ci := 4) (v := .int (nI u)) (C := RX4) (T := TX4) (N := 21) hx hb hts hin4 hown hK hP 0 rfl rfl 2 (by decide) (hts (.fieldLink RX4 64 "CallClustersModel" "pairs" "I") (by decide +kernel)) (fun _ h9 => h9) rfl dX4_call_41 ?_
    refine lv_icmp_ge (tgt := 75) hx hb dX4_call_44 (by decide) (fun c_2 => ?_) (fun c_2 => ?_)
    · -- pc 44, side 0
      exact absurd c_2 (nI_ge (show k < u by omega) (by omega))
    · -- pc 44, side 1
      refine lv_aload_n hx hb dX4_call_47 rfl (lv_at hl 0 rfl) ?_
      refine va_get (D := (dC, dI)) (ci := 4) (v := .ref c1) (C := RX4) (T := TX4) (N := 21) hx hb hts hin4 hown hK hP 0 rfl rfl 4 (by decide) (hts (.fieldLink RX4 20 "CallClustersModel" "callers" "[I") (by decide +kernel)) (fun _ h9 => h9) rfl dX4_call_48 ?_
      refine lv_iload hx hb dX4_call_51 (lv_at hl 4 rfl) ?_
      refine va_iald hx hb hK hP 1 0 rfl rfl (inn (show k < 2000 by omega) (by omega)) dX4_call_53 ?_
      refine tp_i (y := F k) (by rw [ix_n (by omega)]) ?_
      refine lv_iload_n hx hb dX4_call_54 rfl (lv_at hl 1 rfl) ?_
      refine lv_icmp_ne (tgt := 69) hx hb dX4_call_55 (by decide) (fun c_3 => ?_) (fun c_3 => ?_)
      · -- pc 55, side 0
        refine lv_iinc (v := nI (k + 1)) (lv' := [(4, .int (nI (k + 1))), (0, .ref m0), (1, .int f), (2, .int g), (3, .int y)]) hx hb dX4_call_69 hl (k := 4) rfl (by exact nI_1 k) (by decide) rfl (fun ls hl => ?_)
        refine lv_goto (tgt := 38) hx hb dX4_call_72 (by decide) ?_
        exact ih (k + 1) (by omega) (by rw [hp]; conv => lhs; unfold pfind; rw [if_neg (fun h9 => c_3 h9.1)]) H locs ls hP hD hS (lv_sub hl [1, 2, 3, 4, 0] rfl)
      · -- pc 55, side 1
        refine lv_aload_n hx hb dX4_call_58 rfl (lv_at hl 0 rfl) ?_
        refine va_get (D := (dC, dI)) (ci := 4) (v := .ref c2) (C := RX4) (T := TX4) (N := 21) hx hb hts hin4 hown hK hP 0 rfl rfl 5 (by decide) (hts (.fieldLink RX4 23 "CallClustersModel" "called" "[I") (by decide +kernel)) (fun _ h9 => h9) rfl dX4_call_59 ?_
        refine lv_iload hx hb dX4_call_62 (lv_at hl 4 rfl) ?_
        refine va_iald hx hb hK hP 2 0 rfl rfl (inn (show k < 2000 by omega) (by omega)) dX4_call_64 ?_
        refine tp_i (y := T k) (by rw [ix_n (by omega)]) ?_
        refine lv_iload_n hx hb dX4_call_65 rfl (lv_at hl 2 rfl) ?_
        refine lv_icmp_eq (tgt := 75) hx hb dX4_call_66 (by decide) (fun c_4 => ?_) (fun c_4 => ?_)
        · -- pc 66, side 0
          exact kx k (by omega) (by rw [hp]; unfold pfind; rw [if_pos ⟨c_3, c_4⟩]) H locs ls hP hD hS (lv_sub hl [0, 1, 2, 3, 4] rfl)
        · -- pc 66, side 1
          refine lv_iinc (v := nI (k + 1)) (lv' := [(4, .int (nI (k + 1))), (0, .ref m0), (1, .int f), (2, .int g), (3, .int y)]) hx hb dX4_call_69 hl (k := 4) rfl (by exact nI_1 k) (by decide) rfl (fun ls hl => ?_)
          refine lv_goto (tgt := 38) hx hb dX4_call_72 (by decide) ?_
          exact ih (k + 1) (by omega) (by rw [hp]; conv => lhs; unfold pfind; rw [if_neg (fun h9 => c_4 h9.2)]) H locs ls hP hD hS (lv_sub hl [1, 2, 3, 4, 0] rfl)
set_option maxHeartbeats 4000000 in
set_option maxRecDepth 100000 in
theorem ct_X4_call (l : Launch) (dC : Nat → ClassId) (dI : Nat → Nat → Nat) (cI cJ cZ : ClassId) (sz : Nat) (m0 : Nat) (c1 : Nat) (c2 : Nat) (c3 : Nat) (b0 e1 e2 e3 e4 e5 e6 e7 e8 e9 f1 f2 : Nat) (n : Nat) (P : Int32) (u : Nat) (kn ir gp : Int32) (F T : Nat → Int32) (C : Nat → Int64) (f g y : Int32) (hn : n ≤ 300) (hu : u ≤ 2000) : Met l yX4_call wsX4_call ({ frames := 1, cells := 0, slots := 0, locals := 23 }) (va_Pc [.ref m0, .int f, .int g, .int y] (fun U => U.heap.size = sz ∧ va_P (dC, dI) vwCl [(m0, .inr (4, [.int (nI n), .int P, .int (nI u), .ref b0, .ref c1, .ref c2, .ref c3, .int kn, .ref e1, .ref e2, .ref e3, .ref e4, .ref e5, .ref e6, .ref e7, .ref e8, .ref e9, .int ir, .int gp, .ref f1, .ref f2])), (c1, .inl (cI, 2000, .inl F)), (c2, .inl (cI, 2000, .inl T)), (c3, .inl (cJ, 2000, .inr (.inl C)))] U.heap ∧ va_K (dC, dI) vwCl [(cI, .int), (cJ, .long), (cZ, .boolean)] U ∧ va_D (fun _ => True) [(m0, .inr (4, [.int (nI n), .int P, .int (nI u), .ref b0, .ref c1, .ref c2, .ref c3, .int kn, .ref e1, .ref e2, .ref e3, .ref e4, .ref e5, .ref e6, .ref e7, .ref e8, .ref e9, .int ir, .int gp, .ref f1, .ref f2])), (c1, .inl (cI, 2000, .inl F)), (c2, .inl (cI, 2000, .inl T)), (c3, .inl (cJ, 2000, .inr (.inl C)))])) (va_Ql (fun (r : Int64) (uu : (Nat → Int32) × (Nat → Int32) × (Nat → Int64) × Nat × Int32) => match uu with | (F', T', C', u', kn') => (r = -1 ∧ F' = F ∧ T' = T ∧ C' = C ∧ u' = u ∧ kn' = kn ∧ (isFI n f = 0 ∨ isFI n g = 0)) ∨ (¬ isFI n f = 0 ∧ ¬ isFI n g = 0 ∧ r = -2 ∧ F' = F ∧ T' = T ∧ C' = C ∧ u' = u ∧ kn' = kn ∧ (y < 1 ∨ 1000000000 < y)) ∨ (¬ isFI n f = 0 ∧ ¬ isFI n g = 0 ∧ ¬ y < 1 ∧ ¬ 1000000000 < y ∧ ((pfind F T f g u 0 = u ∧ u = 2000 ∧ r = -3 ∧ F' = F ∧ T' = T ∧ C' = C ∧ u' = u ∧ kn' = kn) ∨ (pfind F T f g u 0 < u ∧ r = capadd (C (pfind F T f g u 0)) y ∧ F' = F ∧ T' = T ∧ C' = vp_updL C (pfind F T f g u 0) (capadd (C (pfind F T f g u 0)) y) ∧ u' = u ∧ kn' = 0) ∨ (pfind F T f g u 0 = u ∧ u < 2000 ∧ r = capadd 0 y ∧ F' = upd F u f ∧ T' = upd T u g ∧ C' = vp_updL (vp_updL C u 0) u (capadd 0 y) ∧ u' = u + 1 ∧ kn' = 0)))) (fun (uu : (Nat → Int32) × (Nat → Int32) × (Nat → Int64) × Nat × Int32) (t : State) => match uu with | (F', T', C', u', kn') => va_P (dC, dI) vwCl [(m0, .inr (4, [.int (nI n), .int P, .int (nI u'), .ref b0, .ref c1, .ref c2, .ref c3, .int (kn'), .ref e1, .ref e2, .ref e3, .ref e4, .ref e5, .ref e6, .ref e7, .ref e8, .ref e9, .int ir, .int gp, .ref f1, .ref f2])), (c1, .inl (cI, 2000, .inl (F'))), (c2, .inl (cI, 2000, .inl (T'))), (c3, .inl (cJ, 2000, .inr (.inl (C'))))] t.heap ∧ va_K (dC, dI) vwCl [(cI, .int), (cJ, .long), (cZ, .boolean)] t ∧ va_D (va_A [(m0, .inr (4, [.int (nI n), .int P, .int (nI u), .ref b0, .ref c1, .ref c2, .ref c3, .int kn, .ref e1, .ref e2, .ref e3, .ref e4, .ref e5, .ref e6, .ref e7, .ref e8, .ref e9, .int ir, .int gp, .ref f1, .ref f2])), (c1, .inl (cI, 2000, .inl F)), (c2, .inl (cI, 2000, .inl T)), (c3, .inl (cJ, 2000, .inr (.inl C)))] sz) [(m0, .inr (4, [.int (nI n), .int P, .int (nI u'), .ref b0, .ref c1, .ref c2, .ref c3, .int (kn'), .ref e1, .ref e2, .ref e3, .ref e4, .ref e5, .ref e6, .ref e7, .ref e8, .ref e9, .int ir, .int gp, .ref f1, .ref f2])), (c1, .inl (cI, 2000, .inl (F'))), (c2, .inl (cI, 2000, .inl (T'))), (c3, .inl (cJ, 2000, .inr (.inl (C'))))]) (va_A [(m0, .inr (4, [.int (nI n), .int P, .int (nI u), .ref b0, .ref c1, .ref c2, .ref c3, .int kn, .ref e1, .ref e2, .ref e3, .ref e4, .ref e5, .ref e6, .ref e7, .ref e8, .ref e9, .int ir, .int gp, .ref f1, .ref f2])), (c1, .inl (cI, 2000, .inl F)), (c2, .inl (cI, 2000, .inl T)), (c3, .inl (cJ, 2000, .inr (.inl C)))] sz)) 0 0 (va_A [(m0, .inr (4, [.int (nI n), .int P, .int (nI u), .ref b0, .ref c1, .ref c2, .ref c3, .int kn, .ref e1, .ref e2, .ref e3, .ref e4, .ref e5, .ref e6, .ref e7, .ref e8, .ref e9, .int ir, .int gp, .ref f1, .ref f2])), (c1, .inl (cI, 2000, .inl F)), (c2, .inl (cI, 2000, .inl T)), (c3, .inl (cJ, 2000, .inr (.inl C)))] sz) := by
  refine Met.ofW (cc := cX4_call) (maxL := 5) (ret := (some .long)) (by decide) rfl ?_
  intro p ev s m args below meth c s₁ Bd hml hv
  obtain ⟨rfl, hsz, hP, hK, hD0⟩ := hv
  have hx := Bd.exec
  have hb := Bd.bytes
  have hr := Bd.returns
  have hts := atoms_spec (ws := wsX4_call) Bd.pre
  have hown : s.vm.findClass RX4 = some m.cls := findClass_of_methodNamed Bd.named
  have hlocks := Bd.notSynchronized
  have hin4 : ∀ w ∈ wsX40, w ∈ wsX4_call := by decide +kernel
  subst hsz
  have hD := hD0.self (sz := s.heap.size)
  generalize hAe : va_A [(m0, .inr (4, [.int (nI n), .int P, .int (nI u), .ref b0, .ref c1, .ref c2, .ref c3, .int kn, .ref e1, .ref e2, .ref e3, .ref e4, .ref e5, .ref e6, .ref e7, .ref e8, .ref e9, .int ir, .int gp, .ref f1, .ref f2])), (c1, .inl (cI, 2000, .inl F)), (c2, .inl (cI, 2000, .inl T)), (c3, .inl (cJ, 2000, .inr (.inl C)))] s.heap.size = A at hD ⊢
  have hA : ∀ q : Nat, s.heap.size ≤ q → A q := fun q h => by rw [← hAe]; exact Or.inr h
  have hS : va_S A s.heap s.heap [] := va_S.rf
  have hl := lv_entry ([.ref m0, .int f, .int g, .int y]) (n := 5) (Nat.le_of_ble_eq_true rfl)
  rw [lg_entry_eq]
  generalize (lg_sl ([.ref m0, .int f, .int g, .int y]) ++ List.replicate (5 - (lg_sl ([.ref m0, .int f, .int g, .int y])).length) Slot.unset).toArray = ls at hl ⊢
  have hl : lv_has ls 5 [(0, .ref m0), (1, .int f), (2, .int g), (3, .int y)] := hl
  generalize hHe : s.heap = H at hP ⊢
  have hS : va_S A s.heap H [] := hHe ▸ hS
  refine lv_aload_n hx hb dX4_call_0 rfl (lv_at hl 0 rfl) ?_
  refine lv_iload_n hx hb dX4_call_1 rfl (lv_at hl 1 rfl) ?_
  have hPc := hP.sub (ws' := [(m0, .inr (4, [.int (nI n), .int P, .int (nI u), .ref b0, .ref c1, .ref c2, .ref c3, .int kn, .ref e1, .ref e2, .ref e3, .ref e4, .ref e5, .ref e6, .ref e7, .ref e8, .ref e9, .int ir, .int gp, .ref f1, .ref f2]))]) [0] rfl
  have hDc := hD.sub (ws' := [(m0, .inr (4, [.int (nI n), .int P, .int (nI u), .ref b0, .ref c1, .ref c2, .ref c3, .int kn, .ref e1, .ref e2, .ref e3, .ref e4, .ref e5, .ref e6, .ref e7, .ref e8, .ref e9, .int ir, .int gp, .ref f1, .ref f2]))]) [0] (by decide) rfl
  have hFc := va_free (wc := [(m0, .inr (4, [.int (nI n), .int P, .int (nI u), .ref b0, .ref c1, .ref c2, .ref c3, .int kn, .ref e1, .ref e2, .ref e3, .ref e4, .ref e5, .ref e6, .ref e7, .ref e8, .ref e9, .int ir, .int gp, .ref f1, .ref f2]))]) hD hS hA [0] rfl
  refine va_calli (va_runV (As := [.int f]) (rest := []) ⟨hx, hb, hml, hown, hts⟩ (ct_X4_isFunction l dC dI cI cJ cZ H.size m0 b0 c1 c2 c3 e1 e2 e3 e4 e5 e6 e7 e8 e9 f1 f2 n P u kn ir gp f ) (cwV 1 hts gX4_call_X4_isFunction rfl rfl rfl (by decide +kernel) ⟨Nat.le_of_ble_eq_true rfl, Nat.le_of_ble_eq_true rfl⟩) (pre_V hK hPc hDc (ci := 4) rfl rfl) rfl rfl hl.1 rfl (lv_room (Nat.le_of_ble_eq_true rfl)) dX4_call_2 ⟨Nat.zero_le _, Nat.zero_le _⟩) hS (fun q _ h => hFc q h) hFc (fun r_1 uu t H1 locs ht hvm hw hB hz1 hk1 hS => ?_)
  obtain ⟨hP1, hK1, hD1⟩ := hB
  rw [ht] at hP1
  try dsimp only at hw
  have hP1 : va_P (dC, dI) vwCl [(m0, .inr (4, [.int (nI n), .int P, .int (nI u), .ref b0, .ref c1, .ref c2, .ref c3, .int kn, .ref e1, .ref e2, .ref e3, .ref e4, .ref e5, .ref e6, .ref e7, .ref e8, .ref e9, .int ir, .int gp, .ref f1, .ref f2]))] H1 := hP1
  obtain ⟨hP, hD⟩ := va_join (wr := [(c1, .inl (cI, 2000, .inl F)), (c2, .inl (cI, 2000, .inl T)), (c3, .inl (cJ, 2000, .inr (.inl C)))]) (w1 := [(m0, .inr (4, [.int (nI n), .int P, .int (nI u), .ref b0, .ref c1, .ref c2, .ref c3, .int kn, .ref e1, .ref e2, .ref e3, .ref e4, .ref e5, .ref e6, .ref e7, .ref e8, .ref e9, .int ir, .int gp, .ref f1, .ref f2]))]) hP hD [0] [1, 2, 3] rfl rfl (by decide) (by decide) hk1 hFc hP1 hD1
  have hP := hP.sub (ws' := [(m0, .inr (4, [.int (nI n), .int P, .int (nI u), .ref b0, .ref c1, .ref c2, .ref c3, .int kn, .ref e1, .ref e2, .ref e3, .ref e4, .ref e5, .ref e6, .ref e7, .ref e8, .ref e9, .int ir, .int gp, .ref f1, .ref f2])), (c1, .inl (cI, 2000, .inl F)), (c2, .inl (cI, 2000, .inl T)), (c3, .inl (cJ, 2000, .inr (.inl C)))]) [3, 0, 1, 2] rfl
  have hD := hD.sub (ws' := [(m0, .inr (4, [.int (nI n), .int P, .int (nI u), .ref b0, .ref c1, .ref c2, .ref c3, .int kn, .ref e1, .ref e2, .ref e3, .ref e4, .ref e5, .ref e6, .ref e7, .ref e8, .ref e9, .int ir, .int gp, .ref f1, .ref f2])), (c1, .inl (cI, 2000, .inl F)), (c2, .inl (cI, 2000, .inl T)), (c3, .inl (cJ, 2000, .inr (.inl C)))]) [3, 0, 1, 2] (by decide) rfl
  generalize H1 = H at hP hS ⊢
  refine lv_if_eq (tgt := 16) hx hb dX4_call_5 (by decide) (fun c_2 => ?_) (fun c_2 => ?_)
  · -- pc 5, side 0
    rw [hw] at c_2
    refine lv_ldc2 (v := (-1)) hx hb hown (hts (.constantLong RX4 76 (-1)) (by decide +kernel)) dX4_call_16 ?_
    have hP9 : va_P (dC, dI) vwCl [(m0, .inr (4, [.int (nI n), .int P, .int (nI u), .ref b0, .ref c1, .ref c2, .ref c3, .int kn, .ref e1, .ref e2, .ref e3, .ref e4, .ref e5, .ref e6, .ref e7, .ref e8, .ref e9, .int ir, .int gp, .ref f1, .ref f2])), (c1, .inl (cI, 2000, .inl F)), (c2, .inl (cI, 2000, .inl T)), (c3, .inl (cJ, 2000, .inr (.inl C)))] H := hP
    have hD9 : va_D A [(m0, .inr (4, [.int (nI n), .int P, .int (nI u), .ref b0, .ref c1, .ref c2, .ref c3, .int kn, .ref e1, .ref e2, .ref e3, .ref e4, .ref e5, .ref e6, .ref e7, .ref e8, .ref e9, .int ir, .int gp, .ref f1, .ref f2])), (c1, .inl (cI, 2000, .inl F)), (c2, .inl (cI, 2000, .inl T)), (c3, .inl (cJ, 2000, .inr (.inl C)))] := hD
    exact W.lret (v := (-1)) hx hb hr (fun t ht hW => ⟨⟨(-1), (F, T, C, u, kn), rfl, Or.inl ⟨rfl, rfl, rfl, rfl, rfl, rfl, Or.inl c_2⟩, by rw [ht]; exact hP9, va_K.moved hW.alike hK, hD9⟩, hS.F ht⟩) hS.2.2 dX4_call_19
  · -- pc 5, side 1
    rw [hw] at c_2
    refine lv_aload_n hx hb dX4_call_8 rfl (lv_at hl 0 rfl) ?_
    refine lv_iload_n hx hb dX4_call_9 rfl (lv_at hl 2 rfl) ?_
    have hPc := hP.sub (ws' := [(m0, .inr (4, [.int (nI n), .int P, .int (nI u), .ref b0, .ref c1, .ref c2, .ref c3, .int kn, .ref e1, .ref e2, .ref e3, .ref e4, .ref e5, .ref e6, .ref e7, .ref e8, .ref e9, .int ir, .int gp, .ref f1, .ref f2]))]) [0] rfl
    have hDc := hD.sub (ws' := [(m0, .inr (4, [.int (nI n), .int P, .int (nI u), .ref b0, .ref c1, .ref c2, .ref c3, .int kn, .ref e1, .ref e2, .ref e3, .ref e4, .ref e5, .ref e6, .ref e7, .ref e8, .ref e9, .int ir, .int gp, .ref f1, .ref f2]))]) [0] (by decide) rfl
    have hFc := va_free (wc := [(m0, .inr (4, [.int (nI n), .int P, .int (nI u), .ref b0, .ref c1, .ref c2, .ref c3, .int kn, .ref e1, .ref e2, .ref e3, .ref e4, .ref e5, .ref e6, .ref e7, .ref e8, .ref e9, .int ir, .int gp, .ref f1, .ref f2]))]) hD hS hA [0] rfl
    refine va_calli (va_runV (As := [.int g]) (rest := []) ⟨hx, hb, hml, hown, hts⟩ (ct_X4_isFunction l dC dI cI cJ cZ H.size m0 b0 c1 c2 c3 e1 e2 e3 e4 e5 e6 e7 e8 e9 f1 f2 n P u kn ir gp g ) (cwV 1 hts gX4_call_X4_isFunction rfl rfl rfl (by decide +kernel) ⟨Nat.le_of_ble_eq_true rfl, Nat.le_of_ble_eq_true rfl⟩) (pre_V hK hPc hDc (ci := 4) rfl rfl) rfl rfl hl.1 rfl (lv_room (Nat.le_of_ble_eq_true rfl)) dX4_call_10 ⟨Nat.zero_le _, Nat.zero_le _⟩) hS (fun q _ h => hFc q h) hFc (fun r_3 uu t H1 locs ht hvm hw hB hz1 hk1 hS => ?_)
    obtain ⟨hP1, hK1, hD1⟩ := hB
    rw [ht] at hP1
    try dsimp only at hw
    have hP1 : va_P (dC, dI) vwCl [(m0, .inr (4, [.int (nI n), .int P, .int (nI u), .ref b0, .ref c1, .ref c2, .ref c3, .int kn, .ref e1, .ref e2, .ref e3, .ref e4, .ref e5, .ref e6, .ref e7, .ref e8, .ref e9, .int ir, .int gp, .ref f1, .ref f2]))] H1 := hP1
    obtain ⟨hP, hD⟩ := va_join (wr := [(c1, .inl (cI, 2000, .inl F)), (c2, .inl (cI, 2000, .inl T)), (c3, .inl (cJ, 2000, .inr (.inl C)))]) (w1 := [(m0, .inr (4, [.int (nI n), .int P, .int (nI u), .ref b0, .ref c1, .ref c2, .ref c3, .int kn, .ref e1, .ref e2, .ref e3, .ref e4, .ref e5, .ref e6, .ref e7, .ref e8, .ref e9, .int ir, .int gp, .ref f1, .ref f2]))]) hP hD [0] [1, 2, 3] rfl rfl (by decide) (by decide) hk1 hFc hP1 hD1
    have hP := hP.sub (ws' := [(m0, .inr (4, [.int (nI n), .int P, .int (nI u), .ref b0, .ref c1, .ref c2, .ref c3, .int kn, .ref e1, .ref e2, .ref e3, .ref e4, .ref e5, .ref e6, .ref e7, .ref e8, .ref e9, .int ir, .int gp, .ref f1, .ref f2])), (c1, .inl (cI, 2000, .inl F)), (c2, .inl (cI, 2000, .inl T)), (c3, .inl (cJ, 2000, .inr (.inl C)))]) [3, 0, 1, 2] rfl
    have hD := hD.sub (ws' := [(m0, .inr (4, [.int (nI n), .int P, .int (nI u), .ref b0, .ref c1, .ref c2, .ref c3, .int kn, .ref e1, .ref e2, .ref e3, .ref e4, .ref e5, .ref e6, .ref e7, .ref e8, .ref e9, .int ir, .int gp, .ref f1, .ref f2])), (c1, .inl (cI, 2000, .inl F)), (c2, .inl (cI, 2000, .inl T)), (c3, .inl (cJ, 2000, .inr (.inl C)))]) [3, 0, 1, 2] (by decide) rfl
    generalize H1 = H at hP hS ⊢
    refine lv_if_ne (tgt := 20) hx hb dX4_call_13 (by decide) (fun c_4 => ?_) (fun c_4 => ?_)
    · -- pc 13, side 0
      rw [hw] at c_4
      refine lv_iload_n hx hb dX4_call_20 rfl (lv_at hl 3 rfl) ?_
      refine lv_iconst (v := 1) hx hb dX4_call_21 (by decide) ?_
      refine lv_icmp_lt (tgt := 31) hx hb dX4_call_22 (by decide) (fun c_5 => ?_) (fun c_5 => ?_)
      · -- pc 22, side 0
        refine lv_ldc2 (v := (-2)) hx hb hown (hts (.constantLong RX4 79 (-2)) (by decide +kernel)) dX4_call_31 ?_
        have hP9 : va_P (dC, dI) vwCl [(m0, .inr (4, [.int (nI n), .int P, .int (nI u), .ref b0, .ref c1, .ref c2, .ref c3, .int kn, .ref e1, .ref e2, .ref e3, .ref e4, .ref e5, .ref e6, .ref e7, .ref e8, .ref e9, .int ir, .int gp, .ref f1, .ref f2])), (c1, .inl (cI, 2000, .inl F)), (c2, .inl (cI, 2000, .inl T)), (c3, .inl (cJ, 2000, .inr (.inl C)))] H := hP
        have hD9 : va_D A [(m0, .inr (4, [.int (nI n), .int P, .int (nI u), .ref b0, .ref c1, .ref c2, .ref c3, .int kn, .ref e1, .ref e2, .ref e3, .ref e4, .ref e5, .ref e6, .ref e7, .ref e8, .ref e9, .int ir, .int gp, .ref f1, .ref f2])), (c1, .inl (cI, 2000, .inl F)), (c2, .inl (cI, 2000, .inl T)), (c3, .inl (cJ, 2000, .inr (.inl C)))] := hD
        exact W.lret (v := (-2)) hx hb hr (fun t ht hW => ⟨⟨(-2), (F, T, C, u, kn), rfl, Or.inr (Or.inl ⟨c_2, c_4, rfl, rfl, rfl, rfl, rfl, rfl, Or.inl c_5⟩), by rw [ht]; exact hP9, va_K.moved hW.alike hK, hD9⟩, hS.F ht⟩) hS.2.2 dX4_call_34
      · -- pc 22, side 1
        refine lv_iload_n hx hb dX4_call_25 rfl (lv_at hl 3 rfl) ?_
        refine lv_ldc (v := 1000000000) hx hb hown (hts (.constant RX4 78 (1000000000)) (by decide +kernel)) dX4_call_26 ?_
        refine lv_icmp_le (tgt := 35) hx hb dX4_call_28 (by decide) (fun c_6 => ?_) (fun c_6 => ?_)
        · -- pc 28, side 0
          refine lv_iconst (v := 0) hx hb dX4_call_35 (by decide) ?_
          refine tp_i (y := nI 0) (nI_0.symm) ?_
          refine lv_istore (lv' := [(4, .int (nI 0)), (0, .ref m0), (1, .int f), (2, .int g), (3, .int y)]) hx hb dX4_call_36 hl (by decide) rfl (fun ls hl => ?_)
          refine lpX4_call (F := F) (T := T) (f := f) (g := g) (u := u) hx hb hml hts hown hK hA hu (fun k hk hp H locs ls hP hD hS hl => ?_) (u) 0 (by omega) (rfl) H _ ls hP hD hS (lv_sub hl [1, 2, 3, 4, 0] rfl)
          · -- kx
            refine lv_iload hx hb dX4_call_75 (lv_at hl 4 rfl) ?_
            refine lv_sipush (v := 2000) hx hb dX4_call_77 (by decide) ?_
            refine lv_icmp_ne (tgt := 87) hx hb dX4_call_80 (by decide) (fun c_7 => ?_) (fun c_7 => ?_)
            · -- pc 80, side 0
              have hk9 : k ≠ 2000 := fun e9 => c_7 (by rw [e9]; rfl)
              refine lv_iload hx hb dX4_call_87 (lv_at hl 4 rfl) ?_
              refine lv_aload_n hx hb dX4_call_89 rfl (lv_at hl 0 rfl) ?_
              refine va_get (D := (dC, dI)) (ci := 4) (v := .int (nI u)) (C := RX4) (T := TX4) (N := 21) hx hb hts hin4 hown hK hP 0 rfl rfl 2 (by decide) (hts (.fieldLink RX4 64 "CallClustersModel" "pairs" "I") (by decide +kernel)) (fun _ h9 => h9) rfl dX4_call_90 ?_
              refine lv_icmp_ne (tgt := 130) hx hb dX4_call_93 (by decide) (fun c_8 => ?_) (fun c_8 => ?_)
              · -- pc 93, side 0
                have hk8 : k < u := by have h8 : k ≠ u := fun e9 => c_8 (by rw [e9]); omega
                refine lv_aload_n hx hb dX4_call_130 rfl (lv_at hl 0 rfl) ?_
                refine va_get (D := (dC, dI)) (ci := 4) (v := .ref c3) (C := RX4) (T := TX4) (N := 21) hx hb hts hin4 hown hK hP 0 rfl rfl 6 (by decide) (hts (.fieldLink RX4 26 "CallClustersModel" "counts" "[J") (by decide +kernel)) (fun _ h9 => h9) rfl dX4_call_131 ?_
                refine lv_iload hx hb dX4_call_134 (lv_at hl 4 rfl) ?_
                refine lv_aload_n hx hb dX4_call_136 rfl (lv_at hl 0 rfl) ?_
                refine va_get (D := (dC, dI)) (ci := 4) (v := .ref c3) (C := RX4) (T := TX4) (N := 21) hx hb hts hin4 hown hK hP 0 rfl rfl 6 (by decide) (hts (.fieldLink RX4 26 "CallClustersModel" "counts" "[J") (by decide +kernel)) (fun _ h9 => h9) rfl dX4_call_137 ?_
                refine lv_iload hx hb dX4_call_140 (lv_at hl 4 rfl) ?_
                refine va_lald hx hb hK hP 3 1 rfl rfl (inn (show k < 2000 by omega) (by omega)) dX4_call_142 ?_
                refine tp_l (y := C k) (by rw [ix_n (by omega)]) ?_
                refine lv_iload_n hx hb dX4_call_143 rfl (lv_at hl 3 rfl) ?_
                refine lv_i2l (v := y.toInt64) hx hb dX4_call_144 rfl ?_
                refine lv_ladd hx hb dX4_call_145 ?_
                refine lv_ldc2 (v := 1000000000000) hx hb hown (hts (.constantLong RX4 83 (1000000000000)) (by decide +kernel)) dX4_call_146 ?_
                refine va_mmin_long hx hb (hml.trans hl.1.symm) hown (hts (.methodLink RX4 85 Lib.MathLoose.min_long.x) (by decide +kernel)) (hts (.static Lib.MathLoose.min_long.x) (by decide +kernel)) (hts (.initialized "java/lang/Math") (by decide +kernel)) (hts (.code Lib.MathLoose.min_long.x Lib.MathLoose.min_long.code 4 (some .long)) (by decide +kernel)) (Nat.le_of_ble_eq_true rfl) (Nat.le_of_ble_eq_true rfl) (Nat.zero_le _) (Nat.zero_le _) dX4_call_149 ?_
                refine tp_l (y := capadd (C k) y) (rfl) ?_
                refine va_last hx hb hK hP hD hS 3 1 rfl rfl (inn (show k < 2000 by omega) (by omega)) dX4_call_152 (fun H locs hP hD hS => ?_)
                have hf152 : vp_updL C ((nI k).toNatClampNeg) (capadd (C k) y) = vp_updL C k (capadd (C k) y) := by rw [ix_n (by omega)]
                have hP : va_P (dC, dI) vwCl [(m0, .inr (4, [.int (nI n), .int P, .int (nI u), .ref b0, .ref c1, .ref c2, .ref c3, .int kn, .ref e1, .ref e2, .ref e3, .ref e4, .ref e5, .ref e6, .ref e7, .ref e8, .ref e9, .int ir, .int gp, .ref f1, .ref f2])), (c1, .inl (cI, 2000, .inl F)), (c2, .inl (cI, 2000, .inl T)), (c3, .inl (cJ, 2000, .inr (.inl (vp_updL C ((nI k).toNatClampNeg) (capadd (C k) y)))))] H := hP
                have hD : va_D A [(m0, .inr (4, [.int (nI n), .int P, .int (nI u), .ref b0, .ref c1, .ref c2, .ref c3, .int kn, .ref e1, .ref e2, .ref e3, .ref e4, .ref e5, .ref e6, .ref e7, .ref e8, .ref e9, .int ir, .int gp, .ref f1, .ref f2])), (c1, .inl (cI, 2000, .inl F)), (c2, .inl (cI, 2000, .inl T)), (c3, .inl (cJ, 2000, .inr (.inl (vp_updL C ((nI k).toNatClampNeg) (capadd (C k) y)))))] := hD
                rw [hf152] at hP hD
                refine lv_aload_n hx hb dX4_call_153 rfl (lv_at hl 0 rfl) ?_
                refine lv_iconst (v := 0) hx hb dX4_call_154 (by decide) ?_
                refine va_put (D := (dC, dI)) (ci := 4) (v := .int 0) (ty := .boolean) (C := RX4) (T := TX4) (N := 21) hx hb hts hin4 tyX4 tyX4_ok nmX4 hown hK hP hD hS 0 rfl rfl 7 (by decide) (hts (.fieldLink RX4 67 "CallClustersModel" "isKnown" "Z") (by decide +kernel)) (fun _ h9 => h9) rfl (by decide +kernel) (by decide) (by decide) (Nat.le_of_ble_eq_true rfl) dX4_call_155 (fun H locs hP hD hS => ?_)
                have hP : va_P (dC, dI) vwCl [(m0, .inr (4, [.int (nI n), .int P, .int (nI u), .ref b0, .ref c1, .ref c2, .ref c3, .int 0, .ref e1, .ref e2, .ref e3, .ref e4, .ref e5, .ref e6, .ref e7, .ref e8, .ref e9, .int ir, .int gp, .ref f1, .ref f2])), (c1, .inl (cI, 2000, .inl F)), (c2, .inl (cI, 2000, .inl T)), (c3, .inl (cJ, 2000, .inr (.inl (vp_updL C k (capadd (C k) y)))))] H := hP
                have hD : va_D A [(m0, .inr (4, [.int (nI n), .int P, .int (nI u), .ref b0, .ref c1, .ref c2, .ref c3, .int 0, .ref e1, .ref e2, .ref e3, .ref e4, .ref e5, .ref e6, .ref e7, .ref e8, .ref e9, .int ir, .int gp, .ref f1, .ref f2])), (c1, .inl (cI, 2000, .inl F)), (c2, .inl (cI, 2000, .inl T)), (c3, .inl (cJ, 2000, .inr (.inl (vp_updL C k (capadd (C k) y)))))] := hD
                refine lv_aload_n hx hb dX4_call_158 rfl (lv_at hl 0 rfl) ?_
                refine va_get (D := (dC, dI)) (ci := 4) (v := .ref c3) (C := RX4) (T := TX4) (N := 21) hx hb hts hin4 hown hK hP 0 rfl rfl 6 (by decide) (hts (.fieldLink RX4 26 "CallClustersModel" "counts" "[J") (by decide +kernel)) (fun _ h9 => h9) rfl dX4_call_159 ?_
                refine lv_iload hx hb dX4_call_162 (lv_at hl 4 rfl) ?_
                refine va_lald hx hb hK hP 3 1 rfl rfl (inn (show k < 2000 by omega) (by omega)) dX4_call_164 ?_
                refine tp_l (y := capadd (C k) y) (by rw [ix_n (by omega)]; exact if_pos rfl) ?_
                have hP9 : va_P (dC, dI) vwCl [(m0, .inr (4, [.int (nI n), .int P, .int (nI u), .ref b0, .ref c1, .ref c2, .ref c3, .int 0, .ref e1, .ref e2, .ref e3, .ref e4, .ref e5, .ref e6, .ref e7, .ref e8, .ref e9, .int ir, .int gp, .ref f1, .ref f2])), (c1, .inl (cI, 2000, .inl F)), (c2, .inl (cI, 2000, .inl T)), (c3, .inl (cJ, 2000, .inr (.inl (vp_updL C k (capadd (C k) y)))))] H := hP
                have hD9 : va_D A [(m0, .inr (4, [.int (nI n), .int P, .int (nI u), .ref b0, .ref c1, .ref c2, .ref c3, .int 0, .ref e1, .ref e2, .ref e3, .ref e4, .ref e5, .ref e6, .ref e7, .ref e8, .ref e9, .int ir, .int gp, .ref f1, .ref f2])), (c1, .inl (cI, 2000, .inl F)), (c2, .inl (cI, 2000, .inl T)), (c3, .inl (cJ, 2000, .inr (.inl (vp_updL C k (capadd (C k) y)))))] := hD
                exact W.lret (v := capadd (C k) y) hx hb hr (fun t ht hW => ⟨⟨capadd (C k) y, (F, T, vp_updL C k (capadd (C k) y), u, 0), rfl, Or.inr (Or.inr ⟨c_2, c_4, c_5, Int32.not_lt.mpr c_6, Or.inr (Or.inl ⟨by omega, by rw [hp], rfl, rfl, by rw [hp], rfl, rfl⟩)⟩), by rw [ht]; exact hP9, va_K.moved hW.alike hK, hD9⟩, hS.F ht⟩) hS.2.2 dX4_call_165
              · -- pc 93, side 1
                have hk8 : k = u := nI_inj (by omega) (by omega) c_8
                subst hk8
                refine lv_aload_n hx hb dX4_call_96 rfl (lv_at hl 0 rfl) ?_
                refine va_get (D := (dC, dI)) (ci := 4) (v := .ref c1) (C := RX4) (T := TX4) (N := 21) hx hb hts hin4 hown hK hP 0 rfl rfl 4 (by decide) (hts (.fieldLink RX4 20 "CallClustersModel" "callers" "[I") (by decide +kernel)) (fun _ h9 => h9) rfl dX4_call_97 ?_
                refine lv_iload hx hb dX4_call_100 (lv_at hl 4 rfl) ?_
                refine lv_iload_n hx hb dX4_call_102 rfl (lv_at hl 1 rfl) ?_
                refine va_iast hx hb hK hP hD hS 1 0 rfl rfl (inn (show k < 2000 by omega) (by omega)) dX4_call_103 (fun H locs hP hD hS => ?_)
                have hf103 : upd F ((nI k).toNatClampNeg) f = upd F k f := by rw [ix_n (by omega)]
                have hP : va_P (dC, dI) vwCl [(m0, .inr (4, [.int (nI n), .int P, .int (nI k), .ref b0, .ref c1, .ref c2, .ref c3, .int kn, .ref e1, .ref e2, .ref e3, .ref e4, .ref e5, .ref e6, .ref e7, .ref e8, .ref e9, .int ir, .int gp, .ref f1, .ref f2])), (c1, .inl (cI, 2000, .inl (upd F ((nI k).toNatClampNeg) f))), (c2, .inl (cI, 2000, .inl T)), (c3, .inl (cJ, 2000, .inr (.inl C)))] H := hP
                have hD : va_D A [(m0, .inr (4, [.int (nI n), .int P, .int (nI k), .ref b0, .ref c1, .ref c2, .ref c3, .int kn, .ref e1, .ref e2, .ref e3, .ref e4, .ref e5, .ref e6, .ref e7, .ref e8, .ref e9, .int ir, .int gp, .ref f1, .ref f2])), (c1, .inl (cI, 2000, .inl (upd F ((nI k).toNatClampNeg) f))), (c2, .inl (cI, 2000, .inl T)), (c3, .inl (cJ, 2000, .inr (.inl C)))] := hD
                rw [hf103] at hP hD
                refine lv_aload_n hx hb dX4_call_104 rfl (lv_at hl 0 rfl) ?_
                refine va_get (D := (dC, dI)) (ci := 4) (v := .ref c2) (C := RX4) (T := TX4) (N := 21) hx hb hts hin4 hown hK hP 0 rfl rfl 5 (by decide) (hts (.fieldLink RX4 23 "CallClustersModel" "called" "[I") (by decide +kernel)) (fun _ h9 => h9) rfl dX4_call_105 ?_
                refine lv_iload hx hb dX4_call_108 (lv_at hl 4 rfl) ?_
                refine lv_iload_n hx hb dX4_call_110 rfl (lv_at hl 2 rfl) ?_
                refine va_iast hx hb hK hP hD hS 2 0 rfl rfl (inn (show k < 2000 by omega) (by omega)) dX4_call_111 (fun H locs hP hD hS => ?_)
                have hf111 : upd T ((nI k).toNatClampNeg) g = upd T k g := by rw [ix_n (by omega)]
                have hP : va_P (dC, dI) vwCl [(m0, .inr (4, [.int (nI n), .int P, .int (nI k), .ref b0, .ref c1, .ref c2, .ref c3, .int kn, .ref e1, .ref e2, .ref e3, .ref e4, .ref e5, .ref e6, .ref e7, .ref e8, .ref e9, .int ir, .int gp, .ref f1, .ref f2])), (c1, .inl (cI, 2000, .inl (upd F k f))), (c2, .inl (cI, 2000, .inl (upd T ((nI k).toNatClampNeg) g))), (c3, .inl (cJ, 2000, .inr (.inl C)))] H := hP
                have hD : va_D A [(m0, .inr (4, [.int (nI n), .int P, .int (nI k), .ref b0, .ref c1, .ref c2, .ref c3, .int kn, .ref e1, .ref e2, .ref e3, .ref e4, .ref e5, .ref e6, .ref e7, .ref e8, .ref e9, .int ir, .int gp, .ref f1, .ref f2])), (c1, .inl (cI, 2000, .inl (upd F k f))), (c2, .inl (cI, 2000, .inl (upd T ((nI k).toNatClampNeg) g))), (c3, .inl (cJ, 2000, .inr (.inl C)))] := hD
                rw [hf111] at hP hD
                refine lv_aload_n hx hb dX4_call_112 rfl (lv_at hl 0 rfl) ?_
                refine va_get (D := (dC, dI)) (ci := 4) (v := .ref c3) (C := RX4) (T := TX4) (N := 21) hx hb hts hin4 hown hK hP 0 rfl rfl 6 (by decide) (hts (.fieldLink RX4 26 "CallClustersModel" "counts" "[J") (by decide +kernel)) (fun _ h9 => h9) rfl dX4_call_113 ?_
                refine lv_iload hx hb dX4_call_116 (lv_at hl 4 rfl) ?_
                refine lv_lconst (v := 0) hx hb dX4_call_118 (by decide) ?_
                refine va_last hx hb hK hP hD hS 3 1 rfl rfl (inn (show k < 2000 by omega) (by omega)) dX4_call_119 (fun H locs hP hD hS => ?_)
                have hf119 : vp_updL C ((nI k).toNatClampNeg) 0 = vp_updL C k 0 := by rw [ix_n (by omega)]
                have hP : va_P (dC, dI) vwCl [(m0, .inr (4, [.int (nI n), .int P, .int (nI k), .ref b0, .ref c1, .ref c2, .ref c3, .int kn, .ref e1, .ref e2, .ref e3, .ref e4, .ref e5, .ref e6, .ref e7, .ref e8, .ref e9, .int ir, .int gp, .ref f1, .ref f2])), (c1, .inl (cI, 2000, .inl (upd F k f))), (c2, .inl (cI, 2000, .inl (upd T k g))), (c3, .inl (cJ, 2000, .inr (.inl (vp_updL C ((nI k).toNatClampNeg) 0))))] H := hP
                have hD : va_D A [(m0, .inr (4, [.int (nI n), .int P, .int (nI k), .ref b0, .ref c1, .ref c2, .ref c3, .int kn, .ref e1, .ref e2, .ref e3, .ref e4, .ref e5, .ref e6, .ref e7, .ref e8, .ref e9, .int ir, .int gp, .ref f1, .ref f2])), (c1, .inl (cI, 2000, .inl (upd F k f))), (c2, .inl (cI, 2000, .inl (upd T k g))), (c3, .inl (cJ, 2000, .inr (.inl (vp_updL C ((nI k).toNatClampNeg) 0))))] := hD
                rw [hf119] at hP hD
                refine lv_aload_n hx hb dX4_call_120 rfl (lv_at hl 0 rfl) ?_
                refine lv_dup hx hb dX4_call_121 rfl ?_
                refine va_get (D := (dC, dI)) (ci := 4) (v := .int (nI k)) (C := RX4) (T := TX4) (N := 21) hx hb hts hin4 hown hK hP 0 rfl rfl 2 (by decide) (hts (.fieldLink RX4 64 "CallClustersModel" "pairs" "I") (by decide +kernel)) (fun _ h9 => h9) rfl dX4_call_122 ?_
                refine lv_iconst (v := 1) hx hb dX4_call_125 (by decide) ?_
                refine lv_iadd hx hb dX4_call_126 ?_
                refine tp_i (y := nI (k + 1)) (nI_1 k) ?_
                refine va_put (D := (dC, dI)) (ci := 4) (v := .int (nI (k + 1))) (ty := .int) (C := RX4) (T := TX4) (N := 21) hx hb hts hin4 tyX4 tyX4_ok nmX4 hown hK hP hD hS 0 rfl rfl 2 (by decide) (hts (.fieldLink RX4 64 "CallClustersModel" "pairs" "I") (by decide +kernel)) (fun _ h9 => h9) rfl (by decide +kernel) (rfl) (rfl) (Nat.le_of_ble_eq_true rfl) dX4_call_127 (fun H locs hP hD hS => ?_)
                have hP : va_P (dC, dI) vwCl [(m0, .inr (4, [.int (nI n), .int P, .int (nI (k + 1)), .ref b0, .ref c1, .ref c2, .ref c3, .int kn, .ref e1, .ref e2, .ref e3, .ref e4, .ref e5, .ref e6, .ref e7, .ref e8, .ref e9, .int ir, .int gp, .ref f1, .ref f2])), (c1, .inl (cI, 2000, .inl (upd F k f))), (c2, .inl (cI, 2000, .inl (upd T k g))), (c3, .inl (cJ, 2000, .inr (.inl (vp_updL C k 0))))] H := hP
                have hD : va_D A [(m0, .inr (4, [.int (nI n), .int P, .int (nI (k + 1)), .ref b0, .ref c1, .ref c2, .ref c3, .int kn, .ref e1, .ref e2, .ref e3, .ref e4, .ref e5, .ref e6, .ref e7, .ref e8, .ref e9, .int ir, .int gp, .ref f1, .ref f2])), (c1, .inl (cI, 2000, .inl (upd F k f))), (c2, .inl (cI, 2000, .inl (upd T k g))), (c3, .inl (cJ, 2000, .inr (.inl (vp_updL C k 0))))] := hD
                refine lv_aload_n hx hb dX4_call_130 rfl (lv_at hl 0 rfl) ?_
                refine va_get (D := (dC, dI)) (ci := 4) (v := .ref c3) (C := RX4) (T := TX4) (N := 21) hx hb hts hin4 hown hK hP 0 rfl rfl 6 (by decide) (hts (.fieldLink RX4 26 "CallClustersModel" "counts" "[J") (by decide +kernel)) (fun _ h9 => h9) rfl dX4_call_131 ?_
                refine lv_iload hx hb dX4_call_134 (lv_at hl 4 rfl) ?_
                refine lv_aload_n hx hb dX4_call_136 rfl (lv_at hl 0 rfl) ?_
                refine va_get (D := (dC, dI)) (ci := 4) (v := .ref c3) (C := RX4) (T := TX4) (N := 21) hx hb hts hin4 hown hK hP 0 rfl rfl 6 (by decide) (hts (.fieldLink RX4 26 "CallClustersModel" "counts" "[J") (by decide +kernel)) (fun _ h9 => h9) rfl dX4_call_137 ?_
                refine lv_iload hx hb dX4_call_140 (lv_at hl 4 rfl) ?_
                refine va_lald hx hb hK hP 3 1 rfl rfl (inn (show k < 2000 by omega) (by omega)) dX4_call_142 ?_
                refine tp_l (y := 0) (by rw [ix_n (by omega)]; exact if_pos rfl) ?_
                refine lv_iload_n hx hb dX4_call_143 rfl (lv_at hl 3 rfl) ?_
                refine lv_i2l (v := y.toInt64) hx hb dX4_call_144 rfl ?_
                refine lv_ladd hx hb dX4_call_145 ?_
                refine lv_ldc2 (v := 1000000000000) hx hb hown (hts (.constantLong RX4 83 (1000000000000)) (by decide +kernel)) dX4_call_146 ?_
                refine va_mmin_long hx hb (hml.trans hl.1.symm) hown (hts (.methodLink RX4 85 Lib.MathLoose.min_long.x) (by decide +kernel)) (hts (.static Lib.MathLoose.min_long.x) (by decide +kernel)) (hts (.initialized "java/lang/Math") (by decide +kernel)) (hts (.code Lib.MathLoose.min_long.x Lib.MathLoose.min_long.code 4 (some .long)) (by decide +kernel)) (Nat.le_of_ble_eq_true rfl) (Nat.le_of_ble_eq_true rfl) (Nat.zero_le _) (Nat.zero_le _) dX4_call_149 ?_
                refine tp_l (y := capadd 0 y) (rfl) ?_
                refine va_last hx hb hK hP hD hS 3 1 rfl rfl (inn (show k < 2000 by omega) (by omega)) dX4_call_152 (fun H locs hP hD hS => ?_)
                have hf152 : vp_updL (vp_updL C k 0) ((nI k).toNatClampNeg) (capadd 0 y) = vp_updL (vp_updL C k 0) k (capadd 0 y) := by rw [ix_n (by omega)]
                have hP : va_P (dC, dI) vwCl [(m0, .inr (4, [.int (nI n), .int P, .int (nI (k + 1)), .ref b0, .ref c1, .ref c2, .ref c3, .int kn, .ref e1, .ref e2, .ref e3, .ref e4, .ref e5, .ref e6, .ref e7, .ref e8, .ref e9, .int ir, .int gp, .ref f1, .ref f2])), (c1, .inl (cI, 2000, .inl (upd F k f))), (c2, .inl (cI, 2000, .inl (upd T k g))), (c3, .inl (cJ, 2000, .inr (.inl (vp_updL (vp_updL C k 0) ((nI k).toNatClampNeg) (capadd 0 y)))))] H := hP
                have hD : va_D A [(m0, .inr (4, [.int (nI n), .int P, .int (nI (k + 1)), .ref b0, .ref c1, .ref c2, .ref c3, .int kn, .ref e1, .ref e2, .ref e3, .ref e4, .ref e5, .ref e6, .ref e7, .ref e8, .ref e9, .int ir, .int gp, .ref f1, .ref f2])), (c1, .inl (cI, 2000, .inl (upd F k f))), (c2, .inl (cI, 2000, .inl (upd T k g))), (c3, .inl (cJ, 2000, .inr (.inl (vp_updL (vp_updL C k 0) ((nI k).toNatClampNeg) (capadd 0 y)))))] := hD
                rw [hf152] at hP hD
                refine lv_aload_n hx hb dX4_call_153 rfl (lv_at hl 0 rfl) ?_
                refine lv_iconst (v := 0) hx hb dX4_call_154 (by decide) ?_
                refine va_put (D := (dC, dI)) (ci := 4) (v := .int 0) (ty := .boolean) (C := RX4) (T := TX4) (N := 21) hx hb hts hin4 tyX4 tyX4_ok nmX4 hown hK hP hD hS 0 rfl rfl 7 (by decide) (hts (.fieldLink RX4 67 "CallClustersModel" "isKnown" "Z") (by decide +kernel)) (fun _ h9 => h9) rfl (by decide +kernel) (by decide) (by decide) (Nat.le_of_ble_eq_true rfl) dX4_call_155 (fun H locs hP hD hS => ?_)
                have hP : va_P (dC, dI) vwCl [(m0, .inr (4, [.int (nI n), .int P, .int (nI (k + 1)), .ref b0, .ref c1, .ref c2, .ref c3, .int 0, .ref e1, .ref e2, .ref e3, .ref e4, .ref e5, .ref e6, .ref e7, .ref e8, .ref e9, .int ir, .int gp, .ref f1, .ref f2])), (c1, .inl (cI, 2000, .inl (upd F k f))), (c2, .inl (cI, 2000, .inl (upd T k g))), (c3, .inl (cJ, 2000, .inr (.inl (vp_updL (vp_updL C k 0) k (capadd 0 y)))))] H := hP
                have hD : va_D A [(m0, .inr (4, [.int (nI n), .int P, .int (nI (k + 1)), .ref b0, .ref c1, .ref c2, .ref c3, .int 0, .ref e1, .ref e2, .ref e3, .ref e4, .ref e5, .ref e6, .ref e7, .ref e8, .ref e9, .int ir, .int gp, .ref f1, .ref f2])), (c1, .inl (cI, 2000, .inl (upd F k f))), (c2, .inl (cI, 2000, .inl (upd T k g))), (c3, .inl (cJ, 2000, .inr (.inl (vp_updL (vp_updL C k 0) k (capadd 0 y)))))] := hD
                refine lv_aload_n hx hb dX4_call_158 rfl (lv_at hl 0 rfl) ?_
                refine va_get (D := (dC, dI)) (ci := 4) (v := .ref c3) (C := RX4) (T := TX4) (N := 21) hx hb hts hin4 hown hK hP 0 rfl rfl 6 (by decide) (hts (.fieldLink RX4 26 "CallClustersModel" "counts" "[J") (by decide +kernel)) (fun _ h9 => h9) rfl dX4_call_159 ?_
                refine lv_iload hx hb dX4_call_162 (lv_at hl 4 rfl) ?_
                refine va_lald hx hb hK hP 3 1 rfl rfl (inn (show k < 2000 by omega) (by omega)) dX4_call_164 ?_
                refine tp_l (y := capadd 0 y) (by rw [ix_n (by omega)]; exact if_pos rfl) ?_
                have hP9 : va_P (dC, dI) vwCl [(m0, .inr (4, [.int (nI n), .int P, .int (nI (k + 1)), .ref b0, .ref c1, .ref c2, .ref c3, .int 0, .ref e1, .ref e2, .ref e3, .ref e4, .ref e5, .ref e6, .ref e7, .ref e8, .ref e9, .int ir, .int gp, .ref f1, .ref f2])), (c1, .inl (cI, 2000, .inl (upd F k f))), (c2, .inl (cI, 2000, .inl (upd T k g))), (c3, .inl (cJ, 2000, .inr (.inl (vp_updL (vp_updL C k 0) k (capadd 0 y)))))] H := hP
                have hD9 : va_D A [(m0, .inr (4, [.int (nI n), .int P, .int (nI (k + 1)), .ref b0, .ref c1, .ref c2, .ref c3, .int 0, .ref e1, .ref e2, .ref e3, .ref e4, .ref e5, .ref e6, .ref e7, .ref e8, .ref e9, .int ir, .int gp, .ref f1, .ref f2])), (c1, .inl (cI, 2000, .inl (upd F k f))), (c2, .inl (cI, 2000, .inl (upd T k g))), (c3, .inl (cJ, 2000, .inr (.inl (vp_updL (vp_updL C k 0) k (capadd 0 y)))))] := hD
                exact W.lret (v := capadd 0 y) hx hb hr (fun t ht hW => ⟨⟨capadd 0 y, (upd F k f, upd T k g, vp_updL (vp_updL C k 0) k (capadd 0 y), k + 1, 0), rfl, Or.inr (Or.inr ⟨c_2, c_4, c_5, Int32.not_lt.mpr c_6, Or.inr (Or.inr ⟨hp, by omega, rfl, rfl, rfl, rfl, rfl, rfl⟩)⟩), by rw [ht]; exact hP9, va_K.moved hW.alike hK, hD9⟩, hS.F ht⟩) hS.2.2 dX4_call_165
            · -- pc 80, side 1
              have hk9 : k = 2000 := nI_inj (by omega) (by omega) (show nI k = nI 2000 from c_7)
              refine lv_ldc2 (v := (-3)) hx hb hown (hts (.constantLong RX4 81 (-3)) (by decide +kernel)) dX4_call_83 ?_
              have hP9 : va_P (dC, dI) vwCl [(m0, .inr (4, [.int (nI n), .int P, .int (nI u), .ref b0, .ref c1, .ref c2, .ref c3, .int kn, .ref e1, .ref e2, .ref e3, .ref e4, .ref e5, .ref e6, .ref e7, .ref e8, .ref e9, .int ir, .int gp, .ref f1, .ref f2])), (c1, .inl (cI, 2000, .inl F)), (c2, .inl (cI, 2000, .inl T)), (c3, .inl (cJ, 2000, .inr (.inl C)))] H := hP
              have hD9 : va_D A [(m0, .inr (4, [.int (nI n), .int P, .int (nI u), .ref b0, .ref c1, .ref c2, .ref c3, .int kn, .ref e1, .ref e2, .ref e3, .ref e4, .ref e5, .ref e6, .ref e7, .ref e8, .ref e9, .int ir, .int gp, .ref f1, .ref f2])), (c1, .inl (cI, 2000, .inl F)), (c2, .inl (cI, 2000, .inl T)), (c3, .inl (cJ, 2000, .inr (.inl C)))] := hD
              exact W.lret (v := (-3)) hx hb hr (fun t ht hW => ⟨⟨(-3), (F, T, C, u, kn), rfl, Or.inr (Or.inr ⟨c_2, c_4, c_5, Int32.not_lt.mpr c_6, Or.inl ⟨by omega, by omega, rfl, rfl, rfl, rfl, rfl, rfl⟩⟩), by rw [ht]; exact hP9, va_K.moved hW.alike hK, hD9⟩, hS.F ht⟩) hS.2.2 dX4_call_86
        · -- pc 28, side 1
          refine lv_ldc2 (v := (-2)) hx hb hown (hts (.constantLong RX4 79 (-2)) (by decide +kernel)) dX4_call_31 ?_
          have hP9 : va_P (dC, dI) vwCl [(m0, .inr (4, [.int (nI n), .int P, .int (nI u), .ref b0, .ref c1, .ref c2, .ref c3, .int kn, .ref e1, .ref e2, .ref e3, .ref e4, .ref e5, .ref e6, .ref e7, .ref e8, .ref e9, .int ir, .int gp, .ref f1, .ref f2])), (c1, .inl (cI, 2000, .inl F)), (c2, .inl (cI, 2000, .inl T)), (c3, .inl (cJ, 2000, .inr (.inl C)))] H := hP
          have hD9 : va_D A [(m0, .inr (4, [.int (nI n), .int P, .int (nI u), .ref b0, .ref c1, .ref c2, .ref c3, .int kn, .ref e1, .ref e2, .ref e3, .ref e4, .ref e5, .ref e6, .ref e7, .ref e8, .ref e9, .int ir, .int gp, .ref f1, .ref f2])), (c1, .inl (cI, 2000, .inl F)), (c2, .inl (cI, 2000, .inl T)), (c3, .inl (cJ, 2000, .inr (.inl C)))] := hD
          exact W.lret (v := (-2)) hx hb hr (fun t ht hW => ⟨⟨(-2), (F, T, C, u, kn), rfl, Or.inr (Or.inl ⟨c_2, c_4, rfl, rfl, rfl, rfl, rfl, rfl, Or.inr (Int32.not_le.mp c_6)⟩), by rw [ht]; exact hP9, va_K.moved hW.alike hK, hD9⟩, hS.F ht⟩) hS.2.2 dX4_call_34
    · -- pc 13, side 1
      rw [hw] at c_4
      refine lv_ldc2 (v := (-1)) hx hb hown (hts (.constantLong RX4 76 (-1)) (by decide +kernel)) dX4_call_16 ?_
      have hP9 : va_P (dC, dI) vwCl [(m0, .inr (4, [.int (nI n), .int P, .int (nI u), .ref b0, .ref c1, .ref c2, .ref c3, .int kn, .ref e1, .ref e2, .ref e3, .ref e4, .ref e5, .ref e6, .ref e7, .ref e8, .ref e9, .int ir, .int gp, .ref f1, .ref f2])), (c1, .inl (cI, 2000, .inl F)), (c2, .inl (cI, 2000, .inl T)), (c3, .inl (cJ, 2000, .inr (.inl C)))] H := hP
      have hD9 : va_D A [(m0, .inr (4, [.int (nI n), .int P, .int (nI u), .ref b0, .ref c1, .ref c2, .ref c3, .int kn, .ref e1, .ref e2, .ref e3, .ref e4, .ref e5, .ref e6, .ref e7, .ref e8, .ref e9, .int ir, .int gp, .ref f1, .ref f2])), (c1, .inl (cI, 2000, .inl F)), (c2, .inl (cI, 2000, .inl T)), (c3, .inl (cJ, 2000, .inr (.inl C)))] := hD
      exact W.lret (v := (-1)) hx hb hr (fun t ht hW => ⟨⟨(-1), (F, T, C, u, kn), rfl, Or.inl ⟨rfl, rfl, rfl, rfl, rfl, rfl, Or.inr c_4⟩, by rw [ht]; exact hP9, va_K.moved hW.alike hK, hD9⟩, hS.F ht⟩) hS.2.2 dX4_call_19
set_option maxHeartbeats 4000000 in
set_option maxRecDepth 100000 in
theorem ct_X4_isDenser (l : Launch) (dC : Nat → ClassId) (dI : Nat → Nat → Nat) (cI cJ cZ : ClassId) (sz : Nat) (m0 : Nat) (e6 : Nat) (e7 : Nat) (b0 c1 c2 c3 e1 e2 e3 e4 e5 e8 e9 f1 f2 : Nat) (n : Nat) (P : Int32) (u : Nat) (kn ir gp : Int32) (wa gr : Nat → Int64) (a b : Int32) (ha : vp_in a 300) (hb9 : vp_in b 300) (h1 : 0 < gr (a.toNatClampNeg)) (h2 : 0 < gr (b.toNatClampNeg)) : Met l yX4_isDenser wsX4_isDenser ({ frames := 0, cells := 0, slots := 0, locals := 0 }) (va_Pc [.ref m0, .int a, .int b] (fun U => U.heap.size = sz ∧ va_P (dC, dI) vwCl [(m0, .inr (4, [.int (nI n), .int P, .int (nI u), .ref b0, .ref c1, .ref c2, .ref c3, .int kn, .ref e1, .ref e2, .ref e3, .ref e4, .ref e5, .ref e6, .ref e7, .ref e8, .ref e9, .int ir, .int gp, .ref f1, .ref f2])), (e6, .inl (cJ, 300, .inr (.inl wa))), (e7, .inl (cJ, 300, .inr (.inl gr)))] U.heap ∧ va_K (dC, dI) vwCl [(cI, .int), (cJ, .long), (cZ, .boolean)] U ∧ va_D (fun _ => True) [(m0, .inr (4, [.int (nI n), .int P, .int (nI u), .ref b0, .ref c1, .ref c2, .ref c3, .int kn, .ref e1, .ref e2, .ref e3, .ref e4, .ref e5, .ref e6, .ref e7, .ref e8, .ref e9, .int ir, .int gp, .ref f1, .ref f2])), (e6, .inl (cJ, 300, .inr (.inl wa))), (e7, .inl (cJ, 300, .inr (.inl gr)))])) (va_Qi (fun (r : Int32) (uu : Unit) => r = densI (gr (a.toNatClampNeg)) (gr (b.toNatClampNeg)) (wa (a.toNatClampNeg)) (wa (b.toNatClampNeg))) (fun (uu : Unit) (t : State) => va_P (dC, dI) vwCl [(m0, .inr (4, [.int (nI n), .int P, .int (nI u), .ref b0, .ref c1, .ref c2, .ref c3, .int kn, .ref e1, .ref e2, .ref e3, .ref e4, .ref e5, .ref e6, .ref e7, .ref e8, .ref e9, .int ir, .int gp, .ref f1, .ref f2])), (e6, .inl (cJ, 300, .inr (.inl wa))), (e7, .inl (cJ, 300, .inr (.inl gr)))] t.heap ∧ va_K (dC, dI) vwCl [(cI, .int), (cJ, .long), (cZ, .boolean)] t ∧ va_D (va_A [(m0, .inr (4, [.int (nI n), .int P, .int (nI u), .ref b0, .ref c1, .ref c2, .ref c3, .int kn, .ref e1, .ref e2, .ref e3, .ref e4, .ref e5, .ref e6, .ref e7, .ref e8, .ref e9, .int ir, .int gp, .ref f1, .ref f2])), (e6, .inl (cJ, 300, .inr (.inl wa))), (e7, .inl (cJ, 300, .inr (.inl gr)))] sz) [(m0, .inr (4, [.int (nI n), .int P, .int (nI u), .ref b0, .ref c1, .ref c2, .ref c3, .int kn, .ref e1, .ref e2, .ref e3, .ref e4, .ref e5, .ref e6, .ref e7, .ref e8, .ref e9, .int ir, .int gp, .ref f1, .ref f2])), (e6, .inl (cJ, 300, .inr (.inl wa))), (e7, .inl (cJ, 300, .inr (.inl gr)))]) (va_A [(m0, .inr (4, [.int (nI n), .int P, .int (nI u), .ref b0, .ref c1, .ref c2, .ref c3, .int kn, .ref e1, .ref e2, .ref e3, .ref e4, .ref e5, .ref e6, .ref e7, .ref e8, .ref e9, .int ir, .int gp, .ref f1, .ref f2])), (e6, .inl (cJ, 300, .inr (.inl wa))), (e7, .inl (cJ, 300, .inr (.inl gr)))] sz)) 0 0 (va_A [(m0, .inr (4, [.int (nI n), .int P, .int (nI u), .ref b0, .ref c1, .ref c2, .ref c3, .int kn, .ref e1, .ref e2, .ref e3, .ref e4, .ref e5, .ref e6, .ref e7, .ref e8, .ref e9, .int ir, .int gp, .ref f1, .ref f2])), (e6, .inl (cJ, 300, .inr (.inl wa))), (e7, .inl (cJ, 300, .inr (.inl gr)))] sz) := by
  refine Met.ofW (cc := cX4_isDenser) (maxL := 7) (ret := (some .boolean)) (by decide) rfl ?_
  intro p ev s m args below meth c s₁ Bd hml hv
  obtain ⟨rfl, hsz, hP, hK, hD0⟩ := hv
  have hx := Bd.exec
  have hb := Bd.bytes
  have hr := Bd.returns
  have hts := atoms_spec (ws := wsX4_isDenser) Bd.pre
  have hown : s.vm.findClass RX4 = some m.cls := findClass_of_methodNamed Bd.named
  have hlocks := Bd.notSynchronized
  have hin4 : ∀ w ∈ wsX40, w ∈ wsX4_isDenser := by decide +kernel
  subst hsz
  have hD := hD0.self (sz := s.heap.size)
  generalize hAe : va_A [(m0, .inr (4, [.int (nI n), .int P, .int (nI u), .ref b0, .ref c1, .ref c2, .ref c3, .int kn, .ref e1, .ref e2, .ref e3, .ref e4, .ref e5, .ref e6, .ref e7, .ref e8, .ref e9, .int ir, .int gp, .ref f1, .ref f2])), (e6, .inl (cJ, 300, .inr (.inl wa))), (e7, .inl (cJ, 300, .inr (.inl gr)))] s.heap.size = A at hD ⊢
  have hA : ∀ q : Nat, s.heap.size ≤ q → A q := fun q h => by rw [← hAe]; exact Or.inr h
  have hS : va_S A s.heap s.heap [] := va_S.rf
  have hl := lv_entry ([.ref m0, .int a, .int b]) (n := 7) (Nat.le_of_ble_eq_true rfl)
  rw [lg_entry_eq]
  generalize (lg_sl ([.ref m0, .int a, .int b]) ++ List.replicate (7 - (lg_sl ([.ref m0, .int a, .int b])).length) Slot.unset).toArray = ls at hl ⊢
  have hl : lv_has ls 7 [(0, .ref m0), (1, .int a), (2, .int b)] := hl
  generalize hHe : s.heap = H at hP ⊢
  have hS : va_S A s.heap H [] := hHe ▸ hS
  refine lv_aload_n hx hb dX4_isDenser_0 rfl (lv_at hl 0 rfl) ?_
  refine va_get (D := (dC, dI)) (ci := 4) (v := .ref e6) (C := RX4) (T := TX4) (N := 21) hx hb hts hin4 hown hK hP 0 rfl rfl 13 (by decide) (hts (.fieldLink RX4 45 "CallClustersModel" "warm" "[J") (by decide +kernel)) (fun _ h9 => h9) rfl dX4_isDenser_1 ?_
  refine lv_iload_n hx hb dX4_isDenser_4 rfl (lv_at hl 1 rfl) ?_
  refine va_lald hx hb hK hP 1 1 rfl rfl (ha) dX4_isDenser_5 ?_
  refine lv_aload_n hx hb dX4_isDenser_6 rfl (lv_at hl 0 rfl) ?_
  refine va_get (D := (dC, dI)) (ci := 4) (v := .ref e7) (C := RX4) (T := TX4) (N := 21) hx hb hts hin4 hown hK hP 0 rfl rfl 14 (by decide) (hts (.fieldLink RX4 48 "CallClustersModel" "great" "[J") (by decide +kernel)) (fun _ h9 => h9) rfl dX4_isDenser_7 ?_
  refine lv_iload_n hx hb dX4_isDenser_10 rfl (lv_at hl 1 rfl) ?_
  refine va_lald hx hb hK hP 2 1 rfl rfl (ha) dX4_isDenser_11 ?_
  refine lv_ldiv hx hb dX4_isDenser_12 (fun h9 => absurd (h9 ▸ h1) (by decide)) ?_
  refine lv_lstore_n (lv' := [(3, .long ((wa (a.toNatClampNeg)) / (gr (a.toNatClampNeg)))), (0, .ref m0), (1, .int a), (2, .int b)]) hx hb dX4_isDenser_13 rfl hl (by decide) rfl (fun ls hl => ?_)
  refine lv_aload_n hx hb dX4_isDenser_14 rfl (lv_at hl 1 rfl) ?_
  refine va_get (D := (dC, dI)) (ci := 4) (v := .ref e6) (C := RX4) (T := TX4) (N := 21) hx hb hts hin4 hown hK hP 0 rfl rfl 13 (by decide) (hts (.fieldLink RX4 45 "CallClustersModel" "warm" "[J") (by decide +kernel)) (fun _ h9 => h9) rfl dX4_isDenser_15 ?_
  refine lv_iload_n hx hb dX4_isDenser_18 rfl (lv_at hl 3 rfl) ?_
  refine va_lald hx hb hK hP 1 1 rfl rfl (hb9) dX4_isDenser_19 ?_
  refine lv_aload_n hx hb dX4_isDenser_20 rfl (lv_at hl 1 rfl) ?_
  refine va_get (D := (dC, dI)) (ci := 4) (v := .ref e7) (C := RX4) (T := TX4) (N := 21) hx hb hts hin4 hown hK hP 0 rfl rfl 14 (by decide) (hts (.fieldLink RX4 48 "CallClustersModel" "great" "[J") (by decide +kernel)) (fun _ h9 => h9) rfl dX4_isDenser_21 ?_
  refine lv_iload_n hx hb dX4_isDenser_24 rfl (lv_at hl 3 rfl) ?_
  refine va_lald hx hb hK hP 2 1 rfl rfl (hb9) dX4_isDenser_25 ?_
  refine lv_ldiv hx hb dX4_isDenser_26 (fun h9 => absurd (h9 ▸ h2) (by decide)) ?_
  refine lv_lstore (lv' := [(5, .long ((wa (b.toNatClampNeg)) / (gr (b.toNatClampNeg)))), (3, .long ((wa (a.toNatClampNeg)) / (gr (a.toNatClampNeg)))), (0, .ref m0), (1, .int a), (2, .int b)]) hx hb dX4_isDenser_27 hl (by decide) rfl (fun ls hl => ?_)
  refine lv_lload_n hx hb dX4_isDenser_29 rfl (lv_at hl 1 rfl) ?_
  refine lv_lload hx hb dX4_isDenser_30 (lv_at hl 0 rfl) ?_
  refine W.lcmp hx hb dX4_isDenser_32 ?_
  refine lv_if_eq (tgt := 49) hx hb dX4_isDenser_33 (by decide) (fun c_1 => ?_) (fun c_1 => ?_)
  · -- pc 33, side 0
    rw [lg_cmp_eq] at c_1
    refine lv_aload_n hx hb dX4_isDenser_49 rfl (lv_at hl 2 rfl) ?_
    refine va_get (D := (dC, dI)) (ci := 4) (v := .ref e6) (C := RX4) (T := TX4) (N := 21) hx hb hts hin4 hown hK hP 0 rfl rfl 13 (by decide) (hts (.fieldLink RX4 45 "CallClustersModel" "warm" "[J") (by decide +kernel)) (fun _ h9 => h9) rfl dX4_isDenser_50 ?_
    refine lv_iload_n hx hb dX4_isDenser_53 rfl (lv_at hl 3 rfl) ?_
    refine va_lald hx hb hK hP 1 1 rfl rfl (ha) dX4_isDenser_54 ?_
    refine lv_aload_n hx hb dX4_isDenser_55 rfl (lv_at hl 2 rfl) ?_
    refine va_get (D := (dC, dI)) (ci := 4) (v := .ref e7) (C := RX4) (T := TX4) (N := 21) hx hb hts hin4 hown hK hP 0 rfl rfl 14 (by decide) (hts (.fieldLink RX4 48 "CallClustersModel" "great" "[J") (by decide +kernel)) (fun _ h9 => h9) rfl dX4_isDenser_56 ?_
    refine lv_iload_n hx hb dX4_isDenser_59 rfl (lv_at hl 3 rfl) ?_
    refine va_lald hx hb hK hP 2 1 rfl rfl (ha) dX4_isDenser_60 ?_
    refine lv_lrem hx hb dX4_isDenser_61 (fun h9 => absurd (h9 ▸ h1) (by decide)) ?_
    refine lv_aload_n hx hb dX4_isDenser_62 rfl (lv_at hl 2 rfl) ?_
    refine va_get (D := (dC, dI)) (ci := 4) (v := .ref e7) (C := RX4) (T := TX4) (N := 21) hx hb hts hin4 hown hK hP 0 rfl rfl 14 (by decide) (hts (.fieldLink RX4 48 "CallClustersModel" "great" "[J") (by decide +kernel)) (fun _ h9 => h9) rfl dX4_isDenser_63 ?_
    refine lv_iload_n hx hb dX4_isDenser_66 rfl (lv_at hl 4 rfl) ?_
    refine va_lald hx hb hK hP 2 1 rfl rfl (hb9) dX4_isDenser_67 ?_
    refine lv_lmul hx hb dX4_isDenser_68 ?_
    refine lv_aload_n hx hb dX4_isDenser_69 rfl (lv_at hl 2 rfl) ?_
    refine va_get (D := (dC, dI)) (ci := 4) (v := .ref e6) (C := RX4) (T := TX4) (N := 21) hx hb hts hin4 hown hK hP 0 rfl rfl 13 (by decide) (hts (.fieldLink RX4 45 "CallClustersModel" "warm" "[J") (by decide +kernel)) (fun _ h9 => h9) rfl dX4_isDenser_70 ?_
    refine lv_iload_n hx hb dX4_isDenser_73 rfl (lv_at hl 4 rfl) ?_
    refine va_lald hx hb hK hP 1 1 rfl rfl (hb9) dX4_isDenser_74 ?_
    refine lv_aload_n hx hb dX4_isDenser_75 rfl (lv_at hl 2 rfl) ?_
    refine va_get (D := (dC, dI)) (ci := 4) (v := .ref e7) (C := RX4) (T := TX4) (N := 21) hx hb hts hin4 hown hK hP 0 rfl rfl 14 (by decide) (hts (.fieldLink RX4 48 "CallClustersModel" "great" "[J") (by decide +kernel)) (fun _ h9 => h9) rfl dX4_isDenser_76 ?_
    refine lv_iload_n hx hb dX4_isDenser_79 rfl (lv_at hl 4 rfl) ?_
    refine va_lald hx hb hK hP 2 1 rfl rfl (hb9) dX4_isDenser_80 ?_
    refine lv_lrem hx hb dX4_isDenser_81 (fun h9 => absurd (h9 ▸ h2) (by decide)) ?_
    refine lv_aload_n hx hb dX4_isDenser_82 rfl (lv_at hl 2 rfl) ?_
    refine va_get (D := (dC, dI)) (ci := 4) (v := .ref e7) (C := RX4) (T := TX4) (N := 21) hx hb hts hin4 hown hK hP 0 rfl rfl 14 (by decide) (hts (.fieldLink RX4 48 "CallClustersModel" "great" "[J") (by decide +kernel)) (fun _ h9 => h9) rfl dX4_isDenser_83 ?_
    refine lv_iload_n hx hb dX4_isDenser_86 rfl (lv_at hl 3 rfl) ?_
    refine va_lald hx hb hK hP 2 1 rfl rfl (ha) dX4_isDenser_87 ?_
    refine lv_lmul hx hb dX4_isDenser_88 ?_
    refine W.lcmp hx hb dX4_isDenser_89 ?_
    refine lv_if_le (tgt := 97) hx hb dX4_isDenser_90 (by decide) (fun c_2 => ?_) (fun c_2 => ?_)
    · -- pc 90, side 0
      rw [lg_cmp_le] at c_2
      refine lv_iconst (v := 0) hx hb dX4_isDenser_97 (by decide) ?_
      have hP9 : va_P (dC, dI) vwCl [(m0, .inr (4, [.int (nI n), .int P, .int (nI u), .ref b0, .ref c1, .ref c2, .ref c3, .int kn, .ref e1, .ref e2, .ref e3, .ref e4, .ref e5, .ref e6, .ref e7, .ref e8, .ref e9, .int ir, .int gp, .ref f1, .ref f2])), (e6, .inl (cJ, 300, .inr (.inl wa))), (e7, .inl (cJ, 300, .inr (.inl gr)))] H := hP
      have hD9 : va_D A [(m0, .inr (4, [.int (nI n), .int P, .int (nI u), .ref b0, .ref c1, .ref c2, .ref c3, .int kn, .ref e1, .ref e2, .ref e3, .ref e4, .ref e5, .ref e6, .ref e7, .ref e8, .ref e9, .int ir, .int gp, .ref f1, .ref f2])), (e6, .inl (cJ, 300, .inr (.inl wa))), (e7, .inl (cJ, 300, .inr (.inl gr)))] := hD
      exact W.zret (v := 0) hx hb hr (by decide) (fun t ht hW => ⟨⟨0, (), rfl, by unfold densI; rw [if_neg (Int64.not_le.mpr h1), if_neg (Int64.not_le.mpr h2), if_pos c_1, if_neg (Int64.not_lt.mpr c_2)], by rw [ht]; exact hP9, va_K.moved hW.alike hK, hD9⟩, hS.F ht⟩) hS.2.2 dX4_isDenser_98
    · -- pc 90, side 1
      rw [lg_cmp_le] at c_2
      refine lv_iconst (v := 1) hx hb dX4_isDenser_93 (by decide) ?_
      refine lv_goto (tgt := 98) hx hb dX4_isDenser_94 (by decide) ?_
      have hP9 : va_P (dC, dI) vwCl [(m0, .inr (4, [.int (nI n), .int P, .int (nI u), .ref b0, .ref c1, .ref c2, .ref c3, .int kn, .ref e1, .ref e2, .ref e3, .ref e4, .ref e5, .ref e6, .ref e7, .ref e8, .ref e9, .int ir, .int gp, .ref f1, .ref f2])), (e6, .inl (cJ, 300, .inr (.inl wa))), (e7, .inl (cJ, 300, .inr (.inl gr)))] H := hP
      have hD9 : va_D A [(m0, .inr (4, [.int (nI n), .int P, .int (nI u), .ref b0, .ref c1, .ref c2, .ref c3, .int kn, .ref e1, .ref e2, .ref e3, .ref e4, .ref e5, .ref e6, .ref e7, .ref e8, .ref e9, .int ir, .int gp, .ref f1, .ref f2])), (e6, .inl (cJ, 300, .inr (.inl wa))), (e7, .inl (cJ, 300, .inr (.inl gr)))] := hD
      exact W.zret (v := 1) hx hb hr (by decide) (fun t ht hW => ⟨⟨1, (), rfl, by unfold densI; rw [if_neg (Int64.not_le.mpr h1), if_neg (Int64.not_le.mpr h2), if_pos c_1, if_pos (Int64.not_le.mp c_2)], by rw [ht]; exact hP9, va_K.moved hW.alike hK, hD9⟩, hS.F ht⟩) hS.2.2 dX4_isDenser_98
  · -- pc 33, side 1
    rw [lg_cmp_eq] at c_1
    refine lv_lload_n hx hb dX4_isDenser_36 rfl (lv_at hl 1 rfl) ?_
    refine lv_lload hx hb dX4_isDenser_37 (lv_at hl 0 rfl) ?_
    refine W.lcmp hx hb dX4_isDenser_39 ?_
    refine lv_if_le (tgt := 47) hx hb dX4_isDenser_40 (by decide) (fun c_3 => ?_) (fun c_3 => ?_)
    · -- pc 40, side 0
      rw [lg_cmp_le] at c_3
      refine lv_iconst (v := 0) hx hb dX4_isDenser_47 (by decide) ?_
      have hP9 : va_P (dC, dI) vwCl [(m0, .inr (4, [.int (nI n), .int P, .int (nI u), .ref b0, .ref c1, .ref c2, .ref c3, .int kn, .ref e1, .ref e2, .ref e3, .ref e4, .ref e5, .ref e6, .ref e7, .ref e8, .ref e9, .int ir, .int gp, .ref f1, .ref f2])), (e6, .inl (cJ, 300, .inr (.inl wa))), (e7, .inl (cJ, 300, .inr (.inl gr)))] H := hP
      have hD9 : va_D A [(m0, .inr (4, [.int (nI n), .int P, .int (nI u), .ref b0, .ref c1, .ref c2, .ref c3, .int kn, .ref e1, .ref e2, .ref e3, .ref e4, .ref e5, .ref e6, .ref e7, .ref e8, .ref e9, .int ir, .int gp, .ref f1, .ref f2])), (e6, .inl (cJ, 300, .inr (.inl wa))), (e7, .inl (cJ, 300, .inr (.inl gr)))] := hD
      exact W.zret (v := 0) hx hb hr (by decide) (fun t ht hW => ⟨⟨0, (), rfl, by unfold densI; rw [if_neg (Int64.not_le.mpr h1), if_neg (Int64.not_le.mpr h2), if_neg c_1, if_neg (Int64.not_lt.mpr c_3)], by rw [ht]; exact hP9, va_K.moved hW.alike hK, hD9⟩, hS.F ht⟩) hS.2.2 dX4_isDenser_48
    · -- pc 40, side 1
      rw [lg_cmp_le] at c_3
      refine lv_iconst (v := 1) hx hb dX4_isDenser_43 (by decide) ?_
      refine lv_goto (tgt := 48) hx hb dX4_isDenser_44 (by decide) ?_
      have hP9 : va_P (dC, dI) vwCl [(m0, .inr (4, [.int (nI n), .int P, .int (nI u), .ref b0, .ref c1, .ref c2, .ref c3, .int kn, .ref e1, .ref e2, .ref e3, .ref e4, .ref e5, .ref e6, .ref e7, .ref e8, .ref e9, .int ir, .int gp, .ref f1, .ref f2])), (e6, .inl (cJ, 300, .inr (.inl wa))), (e7, .inl (cJ, 300, .inr (.inl gr)))] H := hP
      have hD9 : va_D A [(m0, .inr (4, [.int (nI n), .int P, .int (nI u), .ref b0, .ref c1, .ref c2, .ref c3, .int kn, .ref e1, .ref e2, .ref e3, .ref e4, .ref e5, .ref e6, .ref e7, .ref e8, .ref e9, .int ir, .int gp, .ref f1, .ref f2])), (e6, .inl (cJ, 300, .inr (.inl wa))), (e7, .inl (cJ, 300, .inr (.inl gr)))] := hD
      exact W.zret (v := 1) hx hb hr (by decide) (fun t ht hW => ⟨⟨1, (), rfl, by unfold densI; rw [if_neg (Int64.not_le.mpr h1), if_neg (Int64.not_le.mpr h2), if_neg c_1, if_pos (Int64.not_le.mp c_3)], by rw [ht]; exact hP9, va_K.moved hW.alike hK, hD9⟩, hS.F ht⟩) hS.2.2 dX4_isDenser_48
set_option maxHeartbeats 4000000 in
set_option maxRecDepth 100000 in
theorem lpX4_before {p : Program} {l : Launch} {ev : Env} {s : State} {m : MethodId} {args : Array Value} {below : List Frame} {meth : Method} {c : Code} {Q : State → Prop} {A : Nat → Prop} {dC : Nat → ClassId} {dI : Nat → Nat → Nat} {cI cJ cZ : ClassId} {R : Room} {cells slots : Nat} (hx : p.tables.exec = Jvm.exec) (hb : c.code = cX4_before) (hml : c.maxLocals = 5) (hts : ∀ w ∈ wsX4_before, w.before args s = true) (hown : s.vm.findClass RX4 = some m.cls) (hK : va_K (dC, dI) vwCl [(cI, .int), (cJ, .long), (cZ, .boolean)] s) (hA : ∀ q : Nat, s.heap.size ≤ q → A q) {m0 : Nat} {b0 : Nat} {c1 c2 c3 e1 e2 e3 e4 e5 e6 e7 e8 e9 f1 f2 : Nat} {nv P kn ir gp : Int32} {u : Nat} {z : Nat → Int32} {q : Nat} (hq : q ≤ 300)  (kn_ : ∀ (H : Heap) (locs : List Loc) (ls : Array Slot), va_P (dC, dI) vwCl [(m0, .inr (4, [.int nv, .int P, .int (nI u), .ref b0, .ref c1, .ref c2, .ref c3, .int kn, .ref e1, .ref e2, .ref e3, .ref e4, .ref e5, .ref e6, .ref e7, .ref e8, .ref e9, .int ir, .int gp, .ref f1, .ref f2])), (b0, .inl (cI, 300, .inl z))] H → va_D A [(m0, .inr (4, [.int nv, .int P, .int (nI u), .ref b0, .ref c1, .ref c2, .ref c3, .int kn, .ref e1, .ref e2, .ref e3, .ref e4, .ref e5, .ref e6, .ref e7, .ref e8, .ref e9, .int ir, .int gp, .ref f1, .ref f2])), (b0, .inl (cI, 300, .inl z))] → va_S A s.heap H locs → lv_has ls 5 [(0, .ref m0), (2, .long (befN z q))] → W p l ev R s m args below meth c H locs cells slots Q (F0 m 28 ls [])) : ∀ (n : Nat) (k : Nat), k + n = q → ∀ (H : Heap) (locs : List Loc) (ls : Array Slot), va_P (dC, dI) vwCl [(m0, .inr (4, [.int nv, .int P, .int (nI u), .ref b0, .ref c1, .ref c2, .ref c3, .int kn, .ref e1, .ref e2, .ref e3, .ref e4, .ref e5, .ref e6, .ref e7, .ref e8, .ref e9, .int ir, .int gp, .ref f1, .ref f2])), (b0, .inl (cI, 300, .inl z))] H → va_D A [(m0, .inr (4, [.int nv, .int P, .int (nI u), .ref b0, .ref c1, .ref c2, .ref c3, .int kn, .ref e1, .ref e2, .ref e3, .ref e4, .ref e5, .ref e6, .ref e7, .ref e8, .ref e9, .int ir, .int gp, .ref f1, .ref f2])), (b0, .inl (cI, 300, .inl z))] → va_S A s.heap H locs → lv_has ls 5 [(0, .ref m0), (1, .int (nI q)), (2, .long (befN z k)), (4, .int (nI k))] → W p l ev R s m args below meth c H locs cells slots Q (F0 m 5 ls []) := by
  have hin4 : ∀ w ∈ wsX40, w ∈ wsX4_before := by decide +kernel
  intro n
  induction n with
  | zero =>
    intro k hk H locs ls hP hD hS hl
    have hk : k = q := by omega
    subst hk
    refine lv_iload hx hb dX4_before_5 (lv_at hl 3 rfl) ?_
    refine lv_iload_n hx hb dX4_before_7 rfl (lv_at hl 1 rfl) ?_
    refine lv_icmp_ge (tgt := 28) hx hb dX4_before_8 (by decide) (fun c_1 => ?_) (fun c_1 => ?_)
    · -- pc 8, side 0
      exact kn_   H locs ls hP hD hS (lv_sub hl [0, 2] rfl)
    · -- pc 8, side 1
      exact absurd (nI_le (Nat.le_refl _) (by omega)) c_1
  | succ n ih =>
    intro k hk H locs ls hP hD hS hl
    refine lv_iload hx hb dX4_before_5 (lv_at hl 3 rfl) ?_
    refine lv_iload_n hx hb dX4_before_7 rfl (lv_at hl 1 rfl) ?_
    refine lv_icmp_ge (tgt := 28) hx hb dX4_before_8 (by decide) (fun c_2 => ?_) (fun c_2 => ?_)
    · -- pc 8, side 0
      exact absurd c_2 (nI_ge (show k < q by omega) (by omega))
    · -- pc 8, side 1
      refine lv_lload_n hx hb dX4_before_11 rfl (lv_at hl 2 rfl) ?_
      refine lv_aload_n hx hb dX4_before_12 rfl (lv_at hl 0 rfl) ?_
      refine va_get (D := (dC, dI)) (ci := 4) (v := .ref b0) (C := RX4) (T := TX4) (N := 21) hx hb hts hin4 hown hK hP 0 rfl rfl 3 (by decide) (hts (.fieldLink RX4 16 "CallClustersModel" "bytes" "[I") (by decide +kernel)) (fun _ h9 => h9) rfl dX4_before_13 ?_
      refine lv_iload hx hb dX4_before_16 (lv_at hl 3 rfl) ?_
      refine va_iald hx hb hK hP 1 0 rfl rfl (inn (show k < 300 by omega) (by omega)) dX4_before_18 ?_
      refine tp_i (y := z k) (by rw [ix_n (by omega)]) ?_
      refine lv_i2l (v := (z k).toInt64) hx hb dX4_before_19 rfl ?_
      refine lv_ladd hx hb dX4_before_20 ?_
      refine tp_l (y := befN z (k + 1)) (rfl) ?_
      refine lv_lstore_n (lv' := [(2, .long (befN z (k + 1))), (0, .ref m0), (1, .int (nI q)), (4, .int (nI k))]) hx hb dX4_before_21 rfl hl (by decide) rfl (fun ls hl => ?_)
      refine lv_iinc (v := nI (k + 1)) (lv' := [(4, .int (nI (k + 1))), (2, .long (befN z (k + 1))), (0, .ref m0), (1, .int (nI q))]) hx hb dX4_before_22 hl (k := 3) rfl (by exact nI_1 k) (by decide) rfl (fun ls hl => ?_)
      refine lv_goto (tgt := 5) hx hb dX4_before_25 (by decide) ?_
      exact ih (k + 1) (by omega) H locs ls hP hD hS (lv_sub hl [2, 3, 1, 0] rfl)
set_option maxHeartbeats 4000000 in
set_option maxRecDepth 100000 in
theorem ct_X4_before (l : Launch) (dC : Nat → ClassId) (dI : Nat → Nat → Nat) (cI cJ cZ : ClassId) (sz : Nat) (m0 : Nat) (b0 : Nat) (c1 c2 c3 e1 e2 e3 e4 e5 e6 e7 e8 e9 f1 f2 : Nat) (nv P kn ir gp : Int32) (u : Nat) (z : Nat → Int32) (q : Nat) (hq : q ≤ 300) : Met l yX4_before wsX4_before ({ frames := 0, cells := 0, slots := 0, locals := 0 }) (va_Pc [.ref m0, .int (nI q)] (fun U => U.heap.size = sz ∧ va_P (dC, dI) vwCl [(m0, .inr (4, [.int nv, .int P, .int (nI u), .ref b0, .ref c1, .ref c2, .ref c3, .int kn, .ref e1, .ref e2, .ref e3, .ref e4, .ref e5, .ref e6, .ref e7, .ref e8, .ref e9, .int ir, .int gp, .ref f1, .ref f2])), (b0, .inl (cI, 300, .inl z))] U.heap ∧ va_K (dC, dI) vwCl [(cI, .int), (cJ, .long), (cZ, .boolean)] U ∧ va_D (fun _ => True) [(m0, .inr (4, [.int nv, .int P, .int (nI u), .ref b0, .ref c1, .ref c2, .ref c3, .int kn, .ref e1, .ref e2, .ref e3, .ref e4, .ref e5, .ref e6, .ref e7, .ref e8, .ref e9, .int ir, .int gp, .ref f1, .ref f2])), (b0, .inl (cI, 300, .inl z))])) (va_Ql (fun (r : Int64) (uu : Unit) => r = befN z q) (fun (uu : Unit) (t : State) => va_P (dC, dI) vwCl [(m0, .inr (4, [.int nv, .int P, .int (nI u), .ref b0, .ref c1, .ref c2, .ref c3, .int kn, .ref e1, .ref e2, .ref e3, .ref e4, .ref e5, .ref e6, .ref e7, .ref e8, .ref e9, .int ir, .int gp, .ref f1, .ref f2])), (b0, .inl (cI, 300, .inl z))] t.heap ∧ va_K (dC, dI) vwCl [(cI, .int), (cJ, .long), (cZ, .boolean)] t ∧ va_D (va_A [(m0, .inr (4, [.int nv, .int P, .int (nI u), .ref b0, .ref c1, .ref c2, .ref c3, .int kn, .ref e1, .ref e2, .ref e3, .ref e4, .ref e5, .ref e6, .ref e7, .ref e8, .ref e9, .int ir, .int gp, .ref f1, .ref f2])), (b0, .inl (cI, 300, .inl z))] sz) [(m0, .inr (4, [.int nv, .int P, .int (nI u), .ref b0, .ref c1, .ref c2, .ref c3, .int kn, .ref e1, .ref e2, .ref e3, .ref e4, .ref e5, .ref e6, .ref e7, .ref e8, .ref e9, .int ir, .int gp, .ref f1, .ref f2])), (b0, .inl (cI, 300, .inl z))]) (va_A [(m0, .inr (4, [.int nv, .int P, .int (nI u), .ref b0, .ref c1, .ref c2, .ref c3, .int kn, .ref e1, .ref e2, .ref e3, .ref e4, .ref e5, .ref e6, .ref e7, .ref e8, .ref e9, .int ir, .int gp, .ref f1, .ref f2])), (b0, .inl (cI, 300, .inl z))] sz)) 0 0 (va_A [(m0, .inr (4, [.int nv, .int P, .int (nI u), .ref b0, .ref c1, .ref c2, .ref c3, .int kn, .ref e1, .ref e2, .ref e3, .ref e4, .ref e5, .ref e6, .ref e7, .ref e8, .ref e9, .int ir, .int gp, .ref f1, .ref f2])), (b0, .inl (cI, 300, .inl z))] sz) := by
  refine Met.ofW (cc := cX4_before) (maxL := 5) (ret := (some .long)) (by decide) rfl ?_
  intro p ev s m args below meth c s₁ Bd hml hv
  obtain ⟨rfl, hsz, hP, hK, hD0⟩ := hv
  have hx := Bd.exec
  have hb := Bd.bytes
  have hr := Bd.returns
  have hts := atoms_spec (ws := wsX4_before) Bd.pre
  have hown : s.vm.findClass RX4 = some m.cls := findClass_of_methodNamed Bd.named
  have hlocks := Bd.notSynchronized
  have hin4 : ∀ w ∈ wsX40, w ∈ wsX4_before := by decide +kernel
  subst hsz
  have hD := hD0.self (sz := s.heap.size)
  generalize hAe : va_A [(m0, .inr (4, [.int nv, .int P, .int (nI u), .ref b0, .ref c1, .ref c2, .ref c3, .int kn, .ref e1, .ref e2, .ref e3, .ref e4, .ref e5, .ref e6, .ref e7, .ref e8, .ref e9, .int ir, .int gp, .ref f1, .ref f2])), (b0, .inl (cI, 300, .inl z))] s.heap.size = A at hD ⊢
  have hA : ∀ q : Nat, s.heap.size ≤ q → A q := fun q h => by rw [← hAe]; exact Or.inr h
  have hS : va_S A s.heap s.heap [] := va_S.rf
  have hl := lv_entry ([.ref m0, .int (nI q)]) (n := 5) (Nat.le_of_ble_eq_true rfl)
  rw [lg_entry_eq]
  generalize (lg_sl ([.ref m0, .int (nI q)]) ++ List.replicate (5 - (lg_sl ([.ref m0, .int (nI q)])).length) Slot.unset).toArray = ls at hl ⊢
  have hl : lv_has ls 5 [(0, .ref m0), (1, .int (nI q))] := hl
  generalize hHe : s.heap = H at hP ⊢
  have hS : va_S A s.heap H [] := hHe ▸ hS
  refine lv_lconst (v := 0) hx hb dX4_before_0 (by decide) ?_
  refine tp_l (y := befN z 0) (rfl) ?_
  refine lv_lstore_n (lv' := [(2, .long (befN z 0)), (0, .ref m0), (1, .int (nI q))]) hx hb dX4_before_1 rfl hl (by decide) rfl (fun ls hl => ?_)
  refine lv_iconst (v := 0) hx hb dX4_before_2 (by decide) ?_
  refine tp_i (y := nI 0) (nI_0.symm) ?_
  refine lv_istore (lv' := [(4, .int (nI 0)), (2, .long (befN z 0)), (0, .ref m0), (1, .int (nI q))]) hx hb dX4_before_3 hl (by decide) rfl (fun ls hl => ?_)
  refine lpX4_before (z := z) (q := q) hx hb hml hts hown hK hA hq (fun  H locs ls hP hD hS hl => ?_) (q) 0 (by omega) H _ ls hP hD hS (lv_sub hl [2, 3, 1, 0] rfl)
  · -- kn_
    refine lv_lload_n hx hb dX4_before_28 rfl (lv_at hl 1 rfl) ?_
    have hP9 : va_P (dC, dI) vwCl [(m0, .inr (4, [.int nv, .int P, .int (nI u), .ref b0, .ref c1, .ref c2, .ref c3, .int kn, .ref e1, .ref e2, .ref e3, .ref e4, .ref e5, .ref e6, .ref e7, .ref e8, .ref e9, .int ir, .int gp, .ref f1, .ref f2])), (b0, .inl (cI, 300, .inl z))] H := hP
    have hD9 : va_D A [(m0, .inr (4, [.int nv, .int P, .int (nI u), .ref b0, .ref c1, .ref c2, .ref c3, .int kn, .ref e1, .ref e2, .ref e3, .ref e4, .ref e5, .ref e6, .ref e7, .ref e8, .ref e9, .int ir, .int gp, .ref f1, .ref f2])), (b0, .inl (cI, 300, .inl z))] := hD
    exact W.lret (v := befN z q) hx hb hr (fun t ht hW => ⟨⟨befN z q, (), rfl, rfl, by rw [ht]; exact hP9, va_K.moved hW.alike hK, hD9⟩, hS.F ht⟩) hS.2.2 dX4_before_29
set_option maxHeartbeats 4000000 in
set_option maxRecDepth 100000 in
theorem ct_X4_init (l : Launch) (dC : Nat → ClassId) (dI : Nat → Nat → Nat) (cI cJ cZ : ClassId) (sz : Nat) (m0 : Nat)   : Met l yX4_init wsX4_init ({ frames := 1, cells := 15, slots := 9600, locals := 12 }) (va_Pc [.ref m0] (fun U => U.heap.size = sz ∧ va_P (dC, dI) vwCl [(m0, .inr (4, [.int 0, .int 0, .int 0, .null, .null, .null, .null, .int 0, .null, .null, .null, .null, .null, .null, .null, .null, .null, .int 0, .int 0, .null, .null]))] U.heap ∧ va_K (dC, dI) vwCl [(cI, .int), (cJ, .long), (cZ, .boolean)] U ∧ va_D (fun _ => True) [(m0, .inr (4, [.int 0, .int 0, .int 0, .null, .null, .null, .null, .int 0, .null, .null, .null, .null, .null, .null, .null, .null, .null, .int 0, .int 0, .null, .null]))])) (va_Qv (fun (uu : Unit) => True) (fun (uu : Unit) (t : State) => ∃ (b0 c1 c2 c3 e1 e2 e3 e4 e5 e6 e7 e8 e9 f1 f2 : Nat), va_P (dC, dI) vwCl [(m0, .inr (4, [.int (nI 1), .int 4096, .int (nI 0), .ref b0, .ref c1, .ref c2, .ref c3, .int 0, .ref e1, .ref e2, .ref e3, .ref e4, .ref e5, .ref e6, .ref e7, .ref e8, .ref e9, .int 0, .int 0, .ref f1, .ref f2])), (b0, .inl (cI, 300, .inl (fun _ => 0))), (c1, .inl (cI, 2000, .inl (fun _ => 0))), (c2, .inl (cI, 2000, .inl (fun _ => 0))), (c3, .inl (cJ, 2000, .inr (.inl (fun _ => 0)))), (e1, .inl (cJ, 300, .inr (.inl (fun _ => 0)))), (e2, .inl (cI, 300, .inl (fun _ => 0))), (e3, .inl (cI, 300, .inl (fun _ => 0))), (e4, .inl (cI, 300, .inl (fun _ => 0))), (e5, .inl (cI, 300, .inl (fun _ => 0))), (e6, .inl (cJ, 300, .inr (.inl (fun _ => 0)))), (e7, .inl (cJ, 300, .inr (.inl (fun _ => 0)))), (e8, .inl (cI, 300, .inl (fun _ => 0))), (e9, .inl (cJ, 300, .inr (.inl (fun _ => 0)))), (f1, .inl (cJ, 300, .inr (.inl (fun _ => 0)))), (f2, .inl (cZ, 300, .inl (fun _ => 0)))] t.heap ∧ va_K (dC, dI) vwCl [(cI, .int), (cJ, .long), (cZ, .boolean)] t ∧ va_D (va_A [(m0, .inr (4, [.int 0, .int 0, .int 0, .null, .null, .null, .null, .int 0, .null, .null, .null, .null, .null, .null, .null, .null, .null, .int 0, .int 0, .null, .null]))] sz) [(m0, .inr (4, [.int (nI 1), .int 4096, .int (nI 0), .ref b0, .ref c1, .ref c2, .ref c3, .int 0, .ref e1, .ref e2, .ref e3, .ref e4, .ref e5, .ref e6, .ref e7, .ref e8, .ref e9, .int 0, .int 0, .ref f1, .ref f2])), (b0, .inl (cI, 300, .inl (fun _ => 0))), (c1, .inl (cI, 2000, .inl (fun _ => 0))), (c2, .inl (cI, 2000, .inl (fun _ => 0))), (c3, .inl (cJ, 2000, .inr (.inl (fun _ => 0)))), (e1, .inl (cJ, 300, .inr (.inl (fun _ => 0)))), (e2, .inl (cI, 300, .inl (fun _ => 0))), (e3, .inl (cI, 300, .inl (fun _ => 0))), (e4, .inl (cI, 300, .inl (fun _ => 0))), (e5, .inl (cI, 300, .inl (fun _ => 0))), (e6, .inl (cJ, 300, .inr (.inl (fun _ => 0)))), (e7, .inl (cJ, 300, .inr (.inl (fun _ => 0)))), (e8, .inl (cI, 300, .inl (fun _ => 0))), (e9, .inl (cJ, 300, .inr (.inl (fun _ => 0)))), (f1, .inl (cJ, 300, .inr (.inl (fun _ => 0)))), (f2, .inl (cZ, 300, .inl (fun _ => 0)))]) (va_A [(m0, .inr (4, [.int 0, .int 0, .int 0, .null, .null, .null, .null, .int 0, .null, .null, .null, .null, .null, .null, .null, .null, .null, .int 0, .int 0, .null, .null]))] sz)) 15 9600 (va_A [(m0, .inr (4, [.int 0, .int 0, .int 0, .null, .null, .null, .null, .int 0, .null, .null, .null, .null, .null, .null, .null, .null, .null, .int 0, .int 0, .null, .null]))] sz) := by
  refine Met.ofW (cc := cX4_init) (maxL := 1) (ret := none) (by decide) rfl ?_
  intro p ev s m args below meth c s₁ Bd hml hv
  obtain ⟨rfl, hsz, hP, hK, hD0⟩ := hv
  have hx := Bd.exec
  have hb := Bd.bytes
  have hr := Bd.returns
  have hts := atoms_spec (ws := wsX4_init) Bd.pre
  have hown : s.vm.findClass RX4 = some m.cls := findClass_of_methodNamed Bd.named
  have hlocks := Bd.notSynchronized
  have hin : meth.name = "<init>" := (name_of_methodNamed Bd.named Bd.method).1
  have hin4 : ∀ w ∈ wsX40, w ∈ wsX4_init := by decide +kernel
  subst hsz
  have hD := hD0.self (sz := s.heap.size)
  generalize hAe : va_A [(m0, .inr (4, [.int 0, .int 0, .int 0, .null, .null, .null, .null, .int 0, .null, .null, .null, .null, .null, .null, .null, .null, .null, .int 0, .int 0, .null, .null]))] s.heap.size = A at hD ⊢
  have hA : ∀ q : Nat, s.heap.size ≤ q → A q := fun q h => by rw [← hAe]; exact Or.inr h
  have hS : va_S A s.heap s.heap [] := va_S.rf
  have hl := lv_entry ([.ref m0]) (n := 1) (Nat.le_of_ble_eq_true rfl)
  rw [lg_entry_eq]
  generalize (lg_sl ([.ref m0]) ++ List.replicate (1 - (lg_sl ([.ref m0])).length) Slot.unset).toArray = ls at hl ⊢
  have hl : lv_has ls 1 [(0, .ref m0)] := hl
  generalize hHe : s.heap = H at hP ⊢
  have hS : va_S A s.heap H [] := hHe ▸ hS
  refine lv_aload_n hx hb dX4_init_0 rfl (lv_at hl 0 rfl) ?_
  refine W.objInit hx hb hown (hts (.methodLink RX4 1 objectInit) (by decide +kernel)) (hts (.instanceMethod objectInit) (by decide +kernel)) (hts (.code objectInit ⟨#[0xb1]⟩ 1 none) (by decide +kernel)) rfl (by rw [hml]; exact hl.1) rfl dX4_init_1 (Nat.le_of_ble_eq_true rfl) (Nat.le_of_ble_eq_true rfl) ?_
  refine W.eq (g2 := F0 m 4 ls []) rfl ?_
  refine lv_aload_n hx hb dX4_init_4 rfl (lv_at hl 0 rfl) ?_
  refine lv_iconst (v := 1) hx hb dX4_init_5 (by decide) ?_
  refine va_put (D := (dC, dI)) (ci := 4) (v := .int 1) (ty := .int) (C := RX4) (T := TX4) (N := 21) hx hb hts hin4 tyX4 tyX4_ok nmX4 hown hK hP hD hS 0 rfl rfl 0 (by decide) (hts (.fieldLink RX4 7 "CallClustersModel" "many" "I") (by decide +kernel)) (fun _ h9 => h9) rfl (by decide +kernel) (rfl) (rfl) (Nat.le_of_ble_eq_true rfl) dX4_init_6 (fun H locs hP hD hS => ?_)
  have hP : va_P (dC, dI) vwCl [(m0, .inr (4, [.int 1, .int 0, .int 0, .null, .null, .null, .null, .int 0, .null, .null, .null, .null, .null, .null, .null, .null, .null, .int 0, .int 0, .null, .null]))] H := hP
  have hD : va_D A [(m0, .inr (4, [.int 1, .int 0, .int 0, .null, .null, .null, .null, .int 0, .null, .null, .null, .null, .null, .null, .null, .null, .null, .int 0, .int 0, .null, .null]))] := hD
  refine lv_aload_n hx hb dX4_init_9 rfl (lv_at hl 0 rfl) ?_
  refine lv_sipush (v := 4096) hx hb dX4_init_10 (by decide) ?_
  refine va_put (D := (dC, dI)) (ci := 4) (v := .int 4096) (ty := .int) (C := RX4) (T := TX4) (N := 21) hx hb hts hin4 tyX4 tyX4_ok nmX4 hown hK hP hD hS 0 rfl rfl 1 (by decide) (hts (.fieldLink RX4 13 "CallClustersModel" "limit" "I") (by decide +kernel)) (fun _ h9 => h9) rfl (by decide +kernel) (rfl) (rfl) (Nat.le_of_ble_eq_true rfl) dX4_init_13 (fun H locs hP hD hS => ?_)
  have hP : va_P (dC, dI) vwCl [(m0, .inr (4, [.int 1, .int 4096, .int 0, .null, .null, .null, .null, .int 0, .null, .null, .null, .null, .null, .null, .null, .null, .null, .int 0, .int 0, .null, .null]))] H := hP
  have hD : va_D A [(m0, .inr (4, [.int 1, .int 4096, .int 0, .null, .null, .null, .null, .int 0, .null, .null, .null, .null, .null, .null, .null, .null, .null, .int 0, .int 0, .null, .null]))] := hD
  refine lv_aload_n hx hb dX4_init_16 rfl (lv_at hl 0 rfl) ?_
  refine lv_sipush (v := 300) hx hb dX4_init_17 (by decide) ?_
  refine new_a (atype := .int) (ty := .int) (cA := cI) (a0 := (300, .inl (fun _ => 0))) (N' := 300) hx hb (hts (.arrayClass .int) (by decide +kernel)) rfl hK 0 rfl (fun _ _ h => h) hP hD hS hA (vp_zero_i _) (by decide) (by decide) (by decide) (by decide) (by decide) dX4_init_20 (fun a_1 H hP hD hS => ?_)
  have hP : va_P (dC, dI) vwCl [(m0, .inr (4, [.int 1, .int 4096, .int 0, .null, .null, .null, .null, .int 0, .null, .null, .null, .null, .null, .null, .null, .null, .null, .int 0, .int 0, .null, .null])), (a_1, .inl (cI, 300, .inl (fun _ => 0)))] H := hP
  have hD : va_D A [(m0, .inr (4, [.int 1, .int 4096, .int 0, .null, .null, .null, .null, .int 0, .null, .null, .null, .null, .null, .null, .null, .null, .null, .int 0, .int 0, .null, .null])), (a_1, .inl (cI, 300, .inl (fun _ => 0)))] := hD
  refine W.widen (k := 1) (n := 300) (by omega) (by omega) ?_
  refine va_putF (D := (dC, dI)) (ci := 4) (v := .ref a_1) (ty := (.array .int)) (C := RX4) (T := TX4) (N := 21) hx hb hts hin4 tyX4 tyX4_ok nmX4 hown hK hP hD hS 0 rfl rfl 3 (by decide) (hts (.fieldLink RX4 16 "CallClustersModel" "bytes" "[I") (by decide +kernel)) (fun _ h9 => h9) rfl hin rfl (by decide +kernel) (rfl) (rfl) (Nat.le_of_ble_eq_true rfl) dX4_init_22 (fun H locs hP hD hS => ?_)
  have hP : va_P (dC, dI) vwCl [(m0, .inr (4, [.int 1, .int 4096, .int 0, .ref a_1, .null, .null, .null, .int 0, .null, .null, .null, .null, .null, .null, .null, .null, .null, .int 0, .int 0, .null, .null])), (a_1, .inl (cI, 300, .inl (fun _ => 0)))] H := hP
  have hD : va_D A [(m0, .inr (4, [.int 1, .int 4096, .int 0, .ref a_1, .null, .null, .null, .int 0, .null, .null, .null, .null, .null, .null, .null, .null, .null, .int 0, .int 0, .null, .null])), (a_1, .inl (cI, 300, .inl (fun _ => 0)))] := hD
  refine lv_aload_n hx hb dX4_init_25 rfl (lv_at hl 0 rfl) ?_
  refine lv_sipush (v := 2000) hx hb dX4_init_26 (by decide) ?_
  refine new_a (atype := .int) (ty := .int) (cA := cI) (a0 := (2000, .inl (fun _ => 0))) (N' := 2000) hx hb (hts (.arrayClass .int) (by decide +kernel)) rfl hK 0 rfl (fun _ _ h => h) hP hD hS hA (vp_zero_i _) (by decide) (by decide) (by decide) (by decide) (by decide) dX4_init_29 (fun a_2 H hP hD hS => ?_)
  have hP : va_P (dC, dI) vwCl [(m0, .inr (4, [.int 1, .int 4096, .int 0, .ref a_1, .null, .null, .null, .int 0, .null, .null, .null, .null, .null, .null, .null, .null, .null, .int 0, .int 0, .null, .null])), (a_1, .inl (cI, 300, .inl (fun _ => 0))), (a_2, .inl (cI, 2000, .inl (fun _ => 0)))] H := hP
  have hD : va_D A [(m0, .inr (4, [.int 1, .int 4096, .int 0, .ref a_1, .null, .null, .null, .int 0, .null, .null, .null, .null, .null, .null, .null, .null, .null, .int 0, .int 0, .null, .null])), (a_1, .inl (cI, 300, .inl (fun _ => 0))), (a_2, .inl (cI, 2000, .inl (fun _ => 0)))] := hD
  refine W.widen (k := 2) (n := 2300) (by omega) (by omega) ?_
  refine va_putF (D := (dC, dI)) (ci := 4) (v := .ref a_2) (ty := (.array .int)) (C := RX4) (T := TX4) (N := 21) hx hb hts hin4 tyX4 tyX4_ok nmX4 hown hK hP hD hS 0 rfl rfl 4 (by decide) (hts (.fieldLink RX4 20 "CallClustersModel" "callers" "[I") (by decide +kernel)) (fun _ h9 => h9) rfl hin rfl (by decide +kernel) (rfl) (rfl) (Nat.le_of_ble_eq_true rfl) dX4_init_31 (fun H locs hP hD hS => ?_)
  have hP : va_P (dC, dI) vwCl [(m0, .inr (4, [.int 1, .int 4096, .int 0, .ref a_1, .ref a_2, .null, .null, .int 0, .null, .null, .null, .null, .null, .null, .null, .null, .null, .int 0, .int 0, .null, .null])), (a_1, .inl (cI, 300, .inl (fun _ => 0))), (a_2, .inl (cI, 2000, .inl (fun _ => 0)))] H := hP
  have hD : va_D A [(m0, .inr (4, [.int 1, .int 4096, .int 0, .ref a_1, .ref a_2, .null, .null, .int 0, .null, .null, .null, .null, .null, .null, .null, .null, .null, .int 0, .int 0, .null, .null])), (a_1, .inl (cI, 300, .inl (fun _ => 0))), (a_2, .inl (cI, 2000, .inl (fun _ => 0)))] := hD
  refine lv_aload_n hx hb dX4_init_34 rfl (lv_at hl 0 rfl) ?_
  refine lv_sipush (v := 2000) hx hb dX4_init_35 (by decide) ?_
  refine new_a (atype := .int) (ty := .int) (cA := cI) (a0 := (2000, .inl (fun _ => 0))) (N' := 2000) hx hb (hts (.arrayClass .int) (by decide +kernel)) rfl hK 0 rfl (fun _ _ h => h) hP hD hS hA (vp_zero_i _) (by decide) (by decide) (by decide) (by decide) (by decide) dX4_init_38 (fun a_3 H hP hD hS => ?_)
  have hP : va_P (dC, dI) vwCl [(m0, .inr (4, [.int 1, .int 4096, .int 0, .ref a_1, .ref a_2, .null, .null, .int 0, .null, .null, .null, .null, .null, .null, .null, .null, .null, .int 0, .int 0, .null, .null])), (a_1, .inl (cI, 300, .inl (fun _ => 0))), (a_2, .inl (cI, 2000, .inl (fun _ => 0))), (a_3, .inl (cI, 2000, .inl (fun _ => 0)))] H := hP
  have hD : va_D A [(m0, .inr (4, [.int 1, .int 4096, .int 0, .ref a_1, .ref a_2, .null, .null, .int 0, .null, .null, .null, .null, .null, .null, .null, .null, .null, .int 0, .int 0, .null, .null])), (a_1, .inl (cI, 300, .inl (fun _ => 0))), (a_2, .inl (cI, 2000, .inl (fun _ => 0))), (a_3, .inl (cI, 2000, .inl (fun _ => 0)))] := hD
  refine W.widen (k := 3) (n := 4300) (by omega) (by omega) ?_
  refine va_putF (D := (dC, dI)) (ci := 4) (v := .ref a_3) (ty := (.array .int)) (C := RX4) (T := TX4) (N := 21) hx hb hts hin4 tyX4 tyX4_ok nmX4 hown hK hP hD hS 0 rfl rfl 5 (by decide) (hts (.fieldLink RX4 23 "CallClustersModel" "called" "[I") (by decide +kernel)) (fun _ h9 => h9) rfl hin rfl (by decide +kernel) (rfl) (rfl) (Nat.le_of_ble_eq_true rfl) dX4_init_40 (fun H locs hP hD hS => ?_)
  have hP : va_P (dC, dI) vwCl [(m0, .inr (4, [.int 1, .int 4096, .int 0, .ref a_1, .ref a_2, .ref a_3, .null, .int 0, .null, .null, .null, .null, .null, .null, .null, .null, .null, .int 0, .int 0, .null, .null])), (a_1, .inl (cI, 300, .inl (fun _ => 0))), (a_2, .inl (cI, 2000, .inl (fun _ => 0))), (a_3, .inl (cI, 2000, .inl (fun _ => 0)))] H := hP
  have hD : va_D A [(m0, .inr (4, [.int 1, .int 4096, .int 0, .ref a_1, .ref a_2, .ref a_3, .null, .int 0, .null, .null, .null, .null, .null, .null, .null, .null, .null, .int 0, .int 0, .null, .null])), (a_1, .inl (cI, 300, .inl (fun _ => 0))), (a_2, .inl (cI, 2000, .inl (fun _ => 0))), (a_3, .inl (cI, 2000, .inl (fun _ => 0)))] := hD
  refine lv_aload_n hx hb dX4_init_43 rfl (lv_at hl 0 rfl) ?_
  refine lv_sipush (v := 2000) hx hb dX4_init_44 (by decide) ?_
  refine new_a (atype := .long) (ty := .long) (cA := cJ) (a0 := (2000, .inr (.inl (fun _ => 0)))) (N' := 2000) hx hb (hts (.arrayClass .long) (by decide +kernel)) rfl hK 1 rfl (fun _ _ h => h) hP hD hS hA (vp_zero_l _) (by decide) (by decide) (by decide) (by decide) (by decide) dX4_init_47 (fun a_4 H hP hD hS => ?_)
  have hP : va_P (dC, dI) vwCl [(m0, .inr (4, [.int 1, .int 4096, .int 0, .ref a_1, .ref a_2, .ref a_3, .null, .int 0, .null, .null, .null, .null, .null, .null, .null, .null, .null, .int 0, .int 0, .null, .null])), (a_1, .inl (cI, 300, .inl (fun _ => 0))), (a_2, .inl (cI, 2000, .inl (fun _ => 0))), (a_3, .inl (cI, 2000, .inl (fun _ => 0))), (a_4, .inl (cJ, 2000, .inr (.inl (fun _ => 0))))] H := hP
  have hD : va_D A [(m0, .inr (4, [.int 1, .int 4096, .int 0, .ref a_1, .ref a_2, .ref a_3, .null, .int 0, .null, .null, .null, .null, .null, .null, .null, .null, .null, .int 0, .int 0, .null, .null])), (a_1, .inl (cI, 300, .inl (fun _ => 0))), (a_2, .inl (cI, 2000, .inl (fun _ => 0))), (a_3, .inl (cI, 2000, .inl (fun _ => 0))), (a_4, .inl (cJ, 2000, .inr (.inl (fun _ => 0))))] := hD
  refine W.widen (k := 4) (n := 6300) (by omega) (by omega) ?_
  refine va_putF (D := (dC, dI)) (ci := 4) (v := .ref a_4) (ty := (.array .long)) (C := RX4) (T := TX4) (N := 21) hx hb hts hin4 tyX4 tyX4_ok nmX4 hown hK hP hD hS 0 rfl rfl 6 (by decide) (hts (.fieldLink RX4 26 "CallClustersModel" "counts" "[J") (by decide +kernel)) (fun _ h9 => h9) rfl hin rfl (by decide +kernel) (rfl) (rfl) (Nat.le_of_ble_eq_true rfl) dX4_init_49 (fun H locs hP hD hS => ?_)
  have hP : va_P (dC, dI) vwCl [(m0, .inr (4, [.int 1, .int 4096, .int 0, .ref a_1, .ref a_2, .ref a_3, .ref a_4, .int 0, .null, .null, .null, .null, .null, .null, .null, .null, .null, .int 0, .int 0, .null, .null])), (a_1, .inl (cI, 300, .inl (fun _ => 0))), (a_2, .inl (cI, 2000, .inl (fun _ => 0))), (a_3, .inl (cI, 2000, .inl (fun _ => 0))), (a_4, .inl (cJ, 2000, .inr (.inl (fun _ => 0))))] H := hP
  have hD : va_D A [(m0, .inr (4, [.int 1, .int 4096, .int 0, .ref a_1, .ref a_2, .ref a_3, .ref a_4, .int 0, .null, .null, .null, .null, .null, .null, .null, .null, .null, .int 0, .int 0, .null, .null])), (a_1, .inl (cI, 300, .inl (fun _ => 0))), (a_2, .inl (cI, 2000, .inl (fun _ => 0))), (a_3, .inl (cI, 2000, .inl (fun _ => 0))), (a_4, .inl (cJ, 2000, .inr (.inl (fun _ => 0))))] := hD
  refine lv_aload_n hx hb dX4_init_52 rfl (lv_at hl 0 rfl) ?_
  refine lv_sipush (v := 300) hx hb dX4_init_53 (by decide) ?_
  refine new_a (atype := .long) (ty := .long) (cA := cJ) (a0 := (300, .inr (.inl (fun _ => 0)))) (N' := 300) hx hb (hts (.arrayClass .long) (by decide +kernel)) rfl hK 1 rfl (fun _ _ h => h) hP hD hS hA (vp_zero_l _) (by decide) (by decide) (by decide) (by decide) (by decide) dX4_init_56 (fun a_5 H hP hD hS => ?_)
  have hP : va_P (dC, dI) vwCl [(m0, .inr (4, [.int 1, .int 4096, .int 0, .ref a_1, .ref a_2, .ref a_3, .ref a_4, .int 0, .null, .null, .null, .null, .null, .null, .null, .null, .null, .int 0, .int 0, .null, .null])), (a_1, .inl (cI, 300, .inl (fun _ => 0))), (a_2, .inl (cI, 2000, .inl (fun _ => 0))), (a_3, .inl (cI, 2000, .inl (fun _ => 0))), (a_4, .inl (cJ, 2000, .inr (.inl (fun _ => 0)))), (a_5, .inl (cJ, 300, .inr (.inl (fun _ => 0))))] H := hP
  have hD : va_D A [(m0, .inr (4, [.int 1, .int 4096, .int 0, .ref a_1, .ref a_2, .ref a_3, .ref a_4, .int 0, .null, .null, .null, .null, .null, .null, .null, .null, .null, .int 0, .int 0, .null, .null])), (a_1, .inl (cI, 300, .inl (fun _ => 0))), (a_2, .inl (cI, 2000, .inl (fun _ => 0))), (a_3, .inl (cI, 2000, .inl (fun _ => 0))), (a_4, .inl (cJ, 2000, .inr (.inl (fun _ => 0)))), (a_5, .inl (cJ, 300, .inr (.inl (fun _ => 0))))] := hD
  refine W.widen (k := 5) (n := 6600) (by omega) (by omega) ?_
  refine va_putF (D := (dC, dI)) (ci := 4) (v := .ref a_5) (ty := (.array .long)) (C := RX4) (T := TX4) (N := 21) hx hb hts hin4 tyX4 tyX4_ok nmX4 hown hK hP hD hS 0 rfl rfl 8 (by decide) (hts (.fieldLink RX4 30 "CallClustersModel" "heats" "[J") (by decide +kernel)) (fun _ h9 => h9) rfl hin rfl (by decide +kernel) (rfl) (rfl) (Nat.le_of_ble_eq_true rfl) dX4_init_58 (fun H locs hP hD hS => ?_)
  have hP : va_P (dC, dI) vwCl [(m0, .inr (4, [.int 1, .int 4096, .int 0, .ref a_1, .ref a_2, .ref a_3, .ref a_4, .int 0, .ref a_5, .null, .null, .null, .null, .null, .null, .null, .null, .int 0, .int 0, .null, .null])), (a_1, .inl (cI, 300, .inl (fun _ => 0))), (a_2, .inl (cI, 2000, .inl (fun _ => 0))), (a_3, .inl (cI, 2000, .inl (fun _ => 0))), (a_4, .inl (cJ, 2000, .inr (.inl (fun _ => 0)))), (a_5, .inl (cJ, 300, .inr (.inl (fun _ => 0))))] H := hP
  have hD : va_D A [(m0, .inr (4, [.int 1, .int 4096, .int 0, .ref a_1, .ref a_2, .ref a_3, .ref a_4, .int 0, .ref a_5, .null, .null, .null, .null, .null, .null, .null, .null, .int 0, .int 0, .null, .null])), (a_1, .inl (cI, 300, .inl (fun _ => 0))), (a_2, .inl (cI, 2000, .inl (fun _ => 0))), (a_3, .inl (cI, 2000, .inl (fun _ => 0))), (a_4, .inl (cJ, 2000, .inr (.inl (fun _ => 0)))), (a_5, .inl (cJ, 300, .inr (.inl (fun _ => 0))))] := hD
  refine lv_aload_n hx hb dX4_init_61 rfl (lv_at hl 0 rfl) ?_
  refine lv_sipush (v := 300) hx hb dX4_init_62 (by decide) ?_
  refine new_a (atype := .int) (ty := .int) (cA := cI) (a0 := (300, .inl (fun _ => 0))) (N' := 300) hx hb (hts (.arrayClass .int) (by decide +kernel)) rfl hK 0 rfl (fun _ _ h => h) hP hD hS hA (vp_zero_i _) (by decide) (by decide) (by decide) (by decide) (by decide) dX4_init_65 (fun a_6 H hP hD hS => ?_)
  have hP : va_P (dC, dI) vwCl [(m0, .inr (4, [.int 1, .int 4096, .int 0, .ref a_1, .ref a_2, .ref a_3, .ref a_4, .int 0, .ref a_5, .null, .null, .null, .null, .null, .null, .null, .null, .int 0, .int 0, .null, .null])), (a_1, .inl (cI, 300, .inl (fun _ => 0))), (a_2, .inl (cI, 2000, .inl (fun _ => 0))), (a_3, .inl (cI, 2000, .inl (fun _ => 0))), (a_4, .inl (cJ, 2000, .inr (.inl (fun _ => 0)))), (a_5, .inl (cJ, 300, .inr (.inl (fun _ => 0)))), (a_6, .inl (cI, 300, .inl (fun _ => 0)))] H := hP
  have hD : va_D A [(m0, .inr (4, [.int 1, .int 4096, .int 0, .ref a_1, .ref a_2, .ref a_3, .ref a_4, .int 0, .ref a_5, .null, .null, .null, .null, .null, .null, .null, .null, .int 0, .int 0, .null, .null])), (a_1, .inl (cI, 300, .inl (fun _ => 0))), (a_2, .inl (cI, 2000, .inl (fun _ => 0))), (a_3, .inl (cI, 2000, .inl (fun _ => 0))), (a_4, .inl (cJ, 2000, .inr (.inl (fun _ => 0)))), (a_5, .inl (cJ, 300, .inr (.inl (fun _ => 0)))), (a_6, .inl (cI, 300, .inl (fun _ => 0)))] := hD
  refine W.widen (k := 6) (n := 6900) (by omega) (by omega) ?_
  refine va_putF (D := (dC, dI)) (ci := 4) (v := .ref a_6) (ty := (.array .int)) (C := RX4) (T := TX4) (N := 21) hx hb hts hin4 tyX4 tyX4_ok nmX4 hown hK hP hD hS 0 rfl rfl 9 (by decide) (hts (.fieldLink RX4 33 "CallClustersModel" "best" "[I") (by decide +kernel)) (fun _ h9 => h9) rfl hin rfl (by decide +kernel) (rfl) (rfl) (Nat.le_of_ble_eq_true rfl) dX4_init_67 (fun H locs hP hD hS => ?_)
  have hP : va_P (dC, dI) vwCl [(m0, .inr (4, [.int 1, .int 4096, .int 0, .ref a_1, .ref a_2, .ref a_3, .ref a_4, .int 0, .ref a_5, .ref a_6, .null, .null, .null, .null, .null, .null, .null, .int 0, .int 0, .null, .null])), (a_1, .inl (cI, 300, .inl (fun _ => 0))), (a_2, .inl (cI, 2000, .inl (fun _ => 0))), (a_3, .inl (cI, 2000, .inl (fun _ => 0))), (a_4, .inl (cJ, 2000, .inr (.inl (fun _ => 0)))), (a_5, .inl (cJ, 300, .inr (.inl (fun _ => 0)))), (a_6, .inl (cI, 300, .inl (fun _ => 0)))] H := hP
  have hD : va_D A [(m0, .inr (4, [.int 1, .int 4096, .int 0, .ref a_1, .ref a_2, .ref a_3, .ref a_4, .int 0, .ref a_5, .ref a_6, .null, .null, .null, .null, .null, .null, .null, .int 0, .int 0, .null, .null])), (a_1, .inl (cI, 300, .inl (fun _ => 0))), (a_2, .inl (cI, 2000, .inl (fun _ => 0))), (a_3, .inl (cI, 2000, .inl (fun _ => 0))), (a_4, .inl (cJ, 2000, .inr (.inl (fun _ => 0)))), (a_5, .inl (cJ, 300, .inr (.inl (fun _ => 0)))), (a_6, .inl (cI, 300, .inl (fun _ => 0)))] := hD
  refine lv_aload_n hx hb dX4_init_70 rfl (lv_at hl 0 rfl) ?_
  refine lv_sipush (v := 300) hx hb dX4_init_71 (by decide) ?_
  refine new_a (atype := .int) (ty := .int) (cA := cI) (a0 := (300, .inl (fun _ => 0))) (N' := 300) hx hb (hts (.arrayClass .int) (by decide +kernel)) rfl hK 0 rfl (fun _ _ h => h) hP hD hS hA (vp_zero_i _) (by decide) (by decide) (by decide) (by decide) (by decide) dX4_init_74 (fun a_7 H hP hD hS => ?_)
  have hP : va_P (dC, dI) vwCl [(m0, .inr (4, [.int 1, .int 4096, .int 0, .ref a_1, .ref a_2, .ref a_3, .ref a_4, .int 0, .ref a_5, .ref a_6, .null, .null, .null, .null, .null, .null, .null, .int 0, .int 0, .null, .null])), (a_1, .inl (cI, 300, .inl (fun _ => 0))), (a_2, .inl (cI, 2000, .inl (fun _ => 0))), (a_3, .inl (cI, 2000, .inl (fun _ => 0))), (a_4, .inl (cJ, 2000, .inr (.inl (fun _ => 0)))), (a_5, .inl (cJ, 300, .inr (.inl (fun _ => 0)))), (a_6, .inl (cI, 300, .inl (fun _ => 0))), (a_7, .inl (cI, 300, .inl (fun _ => 0)))] H := hP
  have hD : va_D A [(m0, .inr (4, [.int 1, .int 4096, .int 0, .ref a_1, .ref a_2, .ref a_3, .ref a_4, .int 0, .ref a_5, .ref a_6, .null, .null, .null, .null, .null, .null, .null, .int 0, .int 0, .null, .null])), (a_1, .inl (cI, 300, .inl (fun _ => 0))), (a_2, .inl (cI, 2000, .inl (fun _ => 0))), (a_3, .inl (cI, 2000, .inl (fun _ => 0))), (a_4, .inl (cJ, 2000, .inr (.inl (fun _ => 0)))), (a_5, .inl (cJ, 300, .inr (.inl (fun _ => 0)))), (a_6, .inl (cI, 300, .inl (fun _ => 0))), (a_7, .inl (cI, 300, .inl (fun _ => 0)))] := hD
  refine W.widen (k := 7) (n := 7200) (by omega) (by omega) ?_
  refine va_putF (D := (dC, dI)) (ci := 4) (v := .ref a_7) (ty := (.array .int)) (C := RX4) (T := TX4) (N := 21) hx hb hts hin4 tyX4 tyX4_ok nmX4 hown hK hP hD hS 0 rfl rfl 10 (by decide) (hts (.fieldLink RX4 36 "CallClustersModel" "of" "[I") (by decide +kernel)) (fun _ h9 => h9) rfl hin rfl (by decide +kernel) (rfl) (rfl) (Nat.le_of_ble_eq_true rfl) dX4_init_76 (fun H locs hP hD hS => ?_)
  have hP : va_P (dC, dI) vwCl [(m0, .inr (4, [.int 1, .int 4096, .int 0, .ref a_1, .ref a_2, .ref a_3, .ref a_4, .int 0, .ref a_5, .ref a_6, .ref a_7, .null, .null, .null, .null, .null, .null, .int 0, .int 0, .null, .null])), (a_1, .inl (cI, 300, .inl (fun _ => 0))), (a_2, .inl (cI, 2000, .inl (fun _ => 0))), (a_3, .inl (cI, 2000, .inl (fun _ => 0))), (a_4, .inl (cJ, 2000, .inr (.inl (fun _ => 0)))), (a_5, .inl (cJ, 300, .inr (.inl (fun _ => 0)))), (a_6, .inl (cI, 300, .inl (fun _ => 0))), (a_7, .inl (cI, 300, .inl (fun _ => 0)))] H := hP
  have hD : va_D A [(m0, .inr (4, [.int 1, .int 4096, .int 0, .ref a_1, .ref a_2, .ref a_3, .ref a_4, .int 0, .ref a_5, .ref a_6, .ref a_7, .null, .null, .null, .null, .null, .null, .int 0, .int 0, .null, .null])), (a_1, .inl (cI, 300, .inl (fun _ => 0))), (a_2, .inl (cI, 2000, .inl (fun _ => 0))), (a_3, .inl (cI, 2000, .inl (fun _ => 0))), (a_4, .inl (cJ, 2000, .inr (.inl (fun _ => 0)))), (a_5, .inl (cJ, 300, .inr (.inl (fun _ => 0)))), (a_6, .inl (cI, 300, .inl (fun _ => 0))), (a_7, .inl (cI, 300, .inl (fun _ => 0)))] := hD
  refine lv_aload_n hx hb dX4_init_79 rfl (lv_at hl 0 rfl) ?_
  refine lv_sipush (v := 300) hx hb dX4_init_80 (by decide) ?_
  refine new_a (atype := .int) (ty := .int) (cA := cI) (a0 := (300, .inl (fun _ => 0))) (N' := 300) hx hb (hts (.arrayClass .int) (by decide +kernel)) rfl hK 0 rfl (fun _ _ h => h) hP hD hS hA (vp_zero_i _) (by decide) (by decide) (by decide) (by decide) (by decide) dX4_init_83 (fun a_8 H hP hD hS => ?_)
  have hP : va_P (dC, dI) vwCl [(m0, .inr (4, [.int 1, .int 4096, .int 0, .ref a_1, .ref a_2, .ref a_3, .ref a_4, .int 0, .ref a_5, .ref a_6, .ref a_7, .null, .null, .null, .null, .null, .null, .int 0, .int 0, .null, .null])), (a_1, .inl (cI, 300, .inl (fun _ => 0))), (a_2, .inl (cI, 2000, .inl (fun _ => 0))), (a_3, .inl (cI, 2000, .inl (fun _ => 0))), (a_4, .inl (cJ, 2000, .inr (.inl (fun _ => 0)))), (a_5, .inl (cJ, 300, .inr (.inl (fun _ => 0)))), (a_6, .inl (cI, 300, .inl (fun _ => 0))), (a_7, .inl (cI, 300, .inl (fun _ => 0))), (a_8, .inl (cI, 300, .inl (fun _ => 0)))] H := hP
  have hD : va_D A [(m0, .inr (4, [.int 1, .int 4096, .int 0, .ref a_1, .ref a_2, .ref a_3, .ref a_4, .int 0, .ref a_5, .ref a_6, .ref a_7, .null, .null, .null, .null, .null, .null, .int 0, .int 0, .null, .null])), (a_1, .inl (cI, 300, .inl (fun _ => 0))), (a_2, .inl (cI, 2000, .inl (fun _ => 0))), (a_3, .inl (cI, 2000, .inl (fun _ => 0))), (a_4, .inl (cJ, 2000, .inr (.inl (fun _ => 0)))), (a_5, .inl (cJ, 300, .inr (.inl (fun _ => 0)))), (a_6, .inl (cI, 300, .inl (fun _ => 0))), (a_7, .inl (cI, 300, .inl (fun _ => 0))), (a_8, .inl (cI, 300, .inl (fun _ => 0)))] := hD
  refine W.widen (k := 8) (n := 7500) (by omega) (by omega) ?_
  refine va_putF (D := (dC, dI)) (ci := 4) (v := .ref a_8) (ty := (.array .int)) (C := RX4) (T := TX4) (N := 21) hx hb hts hin4 tyX4 tyX4_ok nmX4 hown hK hP hD hS 0 rfl rfl 11 (by decide) (hts (.fieldLink RX4 39 "CallClustersModel" "behind" "[I") (by decide +kernel)) (fun _ h9 => h9) rfl hin rfl (by decide +kernel) (rfl) (rfl) (Nat.le_of_ble_eq_true rfl) dX4_init_85 (fun H locs hP hD hS => ?_)
  have hP : va_P (dC, dI) vwCl [(m0, .inr (4, [.int 1, .int 4096, .int 0, .ref a_1, .ref a_2, .ref a_3, .ref a_4, .int 0, .ref a_5, .ref a_6, .ref a_7, .ref a_8, .null, .null, .null, .null, .null, .int 0, .int 0, .null, .null])), (a_1, .inl (cI, 300, .inl (fun _ => 0))), (a_2, .inl (cI, 2000, .inl (fun _ => 0))), (a_3, .inl (cI, 2000, .inl (fun _ => 0))), (a_4, .inl (cJ, 2000, .inr (.inl (fun _ => 0)))), (a_5, .inl (cJ, 300, .inr (.inl (fun _ => 0)))), (a_6, .inl (cI, 300, .inl (fun _ => 0))), (a_7, .inl (cI, 300, .inl (fun _ => 0))), (a_8, .inl (cI, 300, .inl (fun _ => 0)))] H := hP
  have hD : va_D A [(m0, .inr (4, [.int 1, .int 4096, .int 0, .ref a_1, .ref a_2, .ref a_3, .ref a_4, .int 0, .ref a_5, .ref a_6, .ref a_7, .ref a_8, .null, .null, .null, .null, .null, .int 0, .int 0, .null, .null])), (a_1, .inl (cI, 300, .inl (fun _ => 0))), (a_2, .inl (cI, 2000, .inl (fun _ => 0))), (a_3, .inl (cI, 2000, .inl (fun _ => 0))), (a_4, .inl (cJ, 2000, .inr (.inl (fun _ => 0)))), (a_5, .inl (cJ, 300, .inr (.inl (fun _ => 0)))), (a_6, .inl (cI, 300, .inl (fun _ => 0))), (a_7, .inl (cI, 300, .inl (fun _ => 0))), (a_8, .inl (cI, 300, .inl (fun _ => 0)))] := hD
  refine lv_aload_n hx hb dX4_init_88 rfl (lv_at hl 0 rfl) ?_
  refine lv_sipush (v := 300) hx hb dX4_init_89 (by decide) ?_
  refine new_a (atype := .int) (ty := .int) (cA := cI) (a0 := (300, .inl (fun _ => 0))) (N' := 300) hx hb (hts (.arrayClass .int) (by decide +kernel)) rfl hK 0 rfl (fun _ _ h => h) hP hD hS hA (vp_zero_i _) (by decide) (by decide) (by decide) (by decide) (by decide) dX4_init_92 (fun a_9 H hP hD hS => ?_)
  have hP : va_P (dC, dI) vwCl [(m0, .inr (4, [.int 1, .int 4096, .int 0, .ref a_1, .ref a_2, .ref a_3, .ref a_4, .int 0, .ref a_5, .ref a_6, .ref a_7, .ref a_8, .null, .null, .null, .null, .null, .int 0, .int 0, .null, .null])), (a_1, .inl (cI, 300, .inl (fun _ => 0))), (a_2, .inl (cI, 2000, .inl (fun _ => 0))), (a_3, .inl (cI, 2000, .inl (fun _ => 0))), (a_4, .inl (cJ, 2000, .inr (.inl (fun _ => 0)))), (a_5, .inl (cJ, 300, .inr (.inl (fun _ => 0)))), (a_6, .inl (cI, 300, .inl (fun _ => 0))), (a_7, .inl (cI, 300, .inl (fun _ => 0))), (a_8, .inl (cI, 300, .inl (fun _ => 0))), (a_9, .inl (cI, 300, .inl (fun _ => 0)))] H := hP
  have hD : va_D A [(m0, .inr (4, [.int 1, .int 4096, .int 0, .ref a_1, .ref a_2, .ref a_3, .ref a_4, .int 0, .ref a_5, .ref a_6, .ref a_7, .ref a_8, .null, .null, .null, .null, .null, .int 0, .int 0, .null, .null])), (a_1, .inl (cI, 300, .inl (fun _ => 0))), (a_2, .inl (cI, 2000, .inl (fun _ => 0))), (a_3, .inl (cI, 2000, .inl (fun _ => 0))), (a_4, .inl (cJ, 2000, .inr (.inl (fun _ => 0)))), (a_5, .inl (cJ, 300, .inr (.inl (fun _ => 0)))), (a_6, .inl (cI, 300, .inl (fun _ => 0))), (a_7, .inl (cI, 300, .inl (fun _ => 0))), (a_8, .inl (cI, 300, .inl (fun _ => 0))), (a_9, .inl (cI, 300, .inl (fun _ => 0)))] := hD
  refine W.widen (k := 9) (n := 7800) (by omega) (by omega) ?_
  refine va_putF (D := (dC, dI)) (ci := 4) (v := .ref a_9) (ty := (.array .int)) (C := RX4) (T := TX4) (N := 21) hx hb hts hin4 tyX4 tyX4_ok nmX4 hown hK hP hD hS 0 rfl rfl 12 (by decide) (hts (.fieldLink RX4 42 "CallClustersModel" "last" "[I") (by decide +kernel)) (fun _ h9 => h9) rfl hin rfl (by decide +kernel) (rfl) (rfl) (Nat.le_of_ble_eq_true rfl) dX4_init_94 (fun H locs hP hD hS => ?_)
  have hP : va_P (dC, dI) vwCl [(m0, .inr (4, [.int 1, .int 4096, .int 0, .ref a_1, .ref a_2, .ref a_3, .ref a_4, .int 0, .ref a_5, .ref a_6, .ref a_7, .ref a_8, .ref a_9, .null, .null, .null, .null, .int 0, .int 0, .null, .null])), (a_1, .inl (cI, 300, .inl (fun _ => 0))), (a_2, .inl (cI, 2000, .inl (fun _ => 0))), (a_3, .inl (cI, 2000, .inl (fun _ => 0))), (a_4, .inl (cJ, 2000, .inr (.inl (fun _ => 0)))), (a_5, .inl (cJ, 300, .inr (.inl (fun _ => 0)))), (a_6, .inl (cI, 300, .inl (fun _ => 0))), (a_7, .inl (cI, 300, .inl (fun _ => 0))), (a_8, .inl (cI, 300, .inl (fun _ => 0))), (a_9, .inl (cI, 300, .inl (fun _ => 0)))] H := hP
  have hD : va_D A [(m0, .inr (4, [.int 1, .int 4096, .int 0, .ref a_1, .ref a_2, .ref a_3, .ref a_4, .int 0, .ref a_5, .ref a_6, .ref a_7, .ref a_8, .ref a_9, .null, .null, .null, .null, .int 0, .int 0, .null, .null])), (a_1, .inl (cI, 300, .inl (fun _ => 0))), (a_2, .inl (cI, 2000, .inl (fun _ => 0))), (a_3, .inl (cI, 2000, .inl (fun _ => 0))), (a_4, .inl (cJ, 2000, .inr (.inl (fun _ => 0)))), (a_5, .inl (cJ, 300, .inr (.inl (fun _ => 0)))), (a_6, .inl (cI, 300, .inl (fun _ => 0))), (a_7, .inl (cI, 300, .inl (fun _ => 0))), (a_8, .inl (cI, 300, .inl (fun _ => 0))), (a_9, .inl (cI, 300, .inl (fun _ => 0)))] := hD
  refine lv_aload_n hx hb dX4_init_97 rfl (lv_at hl 0 rfl) ?_
  refine lv_sipush (v := 300) hx hb dX4_init_98 (by decide) ?_
  refine new_a (atype := .long) (ty := .long) (cA := cJ) (a0 := (300, .inr (.inl (fun _ => 0)))) (N' := 300) hx hb (hts (.arrayClass .long) (by decide +kernel)) rfl hK 1 rfl (fun _ _ h => h) hP hD hS hA (vp_zero_l _) (by decide) (by decide) (by decide) (by decide) (by decide) dX4_init_101 (fun a_10 H hP hD hS => ?_)
  have hP : va_P (dC, dI) vwCl [(m0, .inr (4, [.int 1, .int 4096, .int 0, .ref a_1, .ref a_2, .ref a_3, .ref a_4, .int 0, .ref a_5, .ref a_6, .ref a_7, .ref a_8, .ref a_9, .null, .null, .null, .null, .int 0, .int 0, .null, .null])), (a_1, .inl (cI, 300, .inl (fun _ => 0))), (a_2, .inl (cI, 2000, .inl (fun _ => 0))), (a_3, .inl (cI, 2000, .inl (fun _ => 0))), (a_4, .inl (cJ, 2000, .inr (.inl (fun _ => 0)))), (a_5, .inl (cJ, 300, .inr (.inl (fun _ => 0)))), (a_6, .inl (cI, 300, .inl (fun _ => 0))), (a_7, .inl (cI, 300, .inl (fun _ => 0))), (a_8, .inl (cI, 300, .inl (fun _ => 0))), (a_9, .inl (cI, 300, .inl (fun _ => 0))), (a_10, .inl (cJ, 300, .inr (.inl (fun _ => 0))))] H := hP
  have hD : va_D A [(m0, .inr (4, [.int 1, .int 4096, .int 0, .ref a_1, .ref a_2, .ref a_3, .ref a_4, .int 0, .ref a_5, .ref a_6, .ref a_7, .ref a_8, .ref a_9, .null, .null, .null, .null, .int 0, .int 0, .null, .null])), (a_1, .inl (cI, 300, .inl (fun _ => 0))), (a_2, .inl (cI, 2000, .inl (fun _ => 0))), (a_3, .inl (cI, 2000, .inl (fun _ => 0))), (a_4, .inl (cJ, 2000, .inr (.inl (fun _ => 0)))), (a_5, .inl (cJ, 300, .inr (.inl (fun _ => 0)))), (a_6, .inl (cI, 300, .inl (fun _ => 0))), (a_7, .inl (cI, 300, .inl (fun _ => 0))), (a_8, .inl (cI, 300, .inl (fun _ => 0))), (a_9, .inl (cI, 300, .inl (fun _ => 0))), (a_10, .inl (cJ, 300, .inr (.inl (fun _ => 0))))] := hD
  refine W.widen (k := 10) (n := 8100) (by omega) (by omega) ?_
  refine va_putF (D := (dC, dI)) (ci := 4) (v := .ref a_10) (ty := (.array .long)) (C := RX4) (T := TX4) (N := 21) hx hb hts hin4 tyX4 tyX4_ok nmX4 hown hK hP hD hS 0 rfl rfl 13 (by decide) (hts (.fieldLink RX4 45 "CallClustersModel" "warm" "[J") (by decide +kernel)) (fun _ h9 => h9) rfl hin rfl (by decide +kernel) (rfl) (rfl) (Nat.le_of_ble_eq_true rfl) dX4_init_103 (fun H locs hP hD hS => ?_)
  have hP : va_P (dC, dI) vwCl [(m0, .inr (4, [.int 1, .int 4096, .int 0, .ref a_1, .ref a_2, .ref a_3, .ref a_4, .int 0, .ref a_5, .ref a_6, .ref a_7, .ref a_8, .ref a_9, .ref a_10, .null, .null, .null, .int 0, .int 0, .null, .null])), (a_1, .inl (cI, 300, .inl (fun _ => 0))), (a_2, .inl (cI, 2000, .inl (fun _ => 0))), (a_3, .inl (cI, 2000, .inl (fun _ => 0))), (a_4, .inl (cJ, 2000, .inr (.inl (fun _ => 0)))), (a_5, .inl (cJ, 300, .inr (.inl (fun _ => 0)))), (a_6, .inl (cI, 300, .inl (fun _ => 0))), (a_7, .inl (cI, 300, .inl (fun _ => 0))), (a_8, .inl (cI, 300, .inl (fun _ => 0))), (a_9, .inl (cI, 300, .inl (fun _ => 0))), (a_10, .inl (cJ, 300, .inr (.inl (fun _ => 0))))] H := hP
  have hD : va_D A [(m0, .inr (4, [.int 1, .int 4096, .int 0, .ref a_1, .ref a_2, .ref a_3, .ref a_4, .int 0, .ref a_5, .ref a_6, .ref a_7, .ref a_8, .ref a_9, .ref a_10, .null, .null, .null, .int 0, .int 0, .null, .null])), (a_1, .inl (cI, 300, .inl (fun _ => 0))), (a_2, .inl (cI, 2000, .inl (fun _ => 0))), (a_3, .inl (cI, 2000, .inl (fun _ => 0))), (a_4, .inl (cJ, 2000, .inr (.inl (fun _ => 0)))), (a_5, .inl (cJ, 300, .inr (.inl (fun _ => 0)))), (a_6, .inl (cI, 300, .inl (fun _ => 0))), (a_7, .inl (cI, 300, .inl (fun _ => 0))), (a_8, .inl (cI, 300, .inl (fun _ => 0))), (a_9, .inl (cI, 300, .inl (fun _ => 0))), (a_10, .inl (cJ, 300, .inr (.inl (fun _ => 0))))] := hD
  refine lv_aload_n hx hb dX4_init_106 rfl (lv_at hl 0 rfl) ?_
  refine lv_sipush (v := 300) hx hb dX4_init_107 (by decide) ?_
  refine new_a (atype := .long) (ty := .long) (cA := cJ) (a0 := (300, .inr (.inl (fun _ => 0)))) (N' := 300) hx hb (hts (.arrayClass .long) (by decide +kernel)) rfl hK 1 rfl (fun _ _ h => h) hP hD hS hA (vp_zero_l _) (by decide) (by decide) (by decide) (by decide) (by decide) dX4_init_110 (fun a_11 H hP hD hS => ?_)
  have hP : va_P (dC, dI) vwCl [(m0, .inr (4, [.int 1, .int 4096, .int 0, .ref a_1, .ref a_2, .ref a_3, .ref a_4, .int 0, .ref a_5, .ref a_6, .ref a_7, .ref a_8, .ref a_9, .ref a_10, .null, .null, .null, .int 0, .int 0, .null, .null])), (a_1, .inl (cI, 300, .inl (fun _ => 0))), (a_2, .inl (cI, 2000, .inl (fun _ => 0))), (a_3, .inl (cI, 2000, .inl (fun _ => 0))), (a_4, .inl (cJ, 2000, .inr (.inl (fun _ => 0)))), (a_5, .inl (cJ, 300, .inr (.inl (fun _ => 0)))), (a_6, .inl (cI, 300, .inl (fun _ => 0))), (a_7, .inl (cI, 300, .inl (fun _ => 0))), (a_8, .inl (cI, 300, .inl (fun _ => 0))), (a_9, .inl (cI, 300, .inl (fun _ => 0))), (a_10, .inl (cJ, 300, .inr (.inl (fun _ => 0)))), (a_11, .inl (cJ, 300, .inr (.inl (fun _ => 0))))] H := hP
  have hD : va_D A [(m0, .inr (4, [.int 1, .int 4096, .int 0, .ref a_1, .ref a_2, .ref a_3, .ref a_4, .int 0, .ref a_5, .ref a_6, .ref a_7, .ref a_8, .ref a_9, .ref a_10, .null, .null, .null, .int 0, .int 0, .null, .null])), (a_1, .inl (cI, 300, .inl (fun _ => 0))), (a_2, .inl (cI, 2000, .inl (fun _ => 0))), (a_3, .inl (cI, 2000, .inl (fun _ => 0))), (a_4, .inl (cJ, 2000, .inr (.inl (fun _ => 0)))), (a_5, .inl (cJ, 300, .inr (.inl (fun _ => 0)))), (a_6, .inl (cI, 300, .inl (fun _ => 0))), (a_7, .inl (cI, 300, .inl (fun _ => 0))), (a_8, .inl (cI, 300, .inl (fun _ => 0))), (a_9, .inl (cI, 300, .inl (fun _ => 0))), (a_10, .inl (cJ, 300, .inr (.inl (fun _ => 0)))), (a_11, .inl (cJ, 300, .inr (.inl (fun _ => 0))))] := hD
  refine W.widen (k := 11) (n := 8400) (by omega) (by omega) ?_
  refine va_putF (D := (dC, dI)) (ci := 4) (v := .ref a_11) (ty := (.array .long)) (C := RX4) (T := TX4) (N := 21) hx hb hts hin4 tyX4 tyX4_ok nmX4 hown hK hP hD hS 0 rfl rfl 14 (by decide) (hts (.fieldLink RX4 48 "CallClustersModel" "great" "[J") (by decide +kernel)) (fun _ h9 => h9) rfl hin rfl (by decide +kernel) (rfl) (rfl) (Nat.le_of_ble_eq_true rfl) dX4_init_112 (fun H locs hP hD hS => ?_)
  have hP : va_P (dC, dI) vwCl [(m0, .inr (4, [.int 1, .int 4096, .int 0, .ref a_1, .ref a_2, .ref a_3, .ref a_4, .int 0, .ref a_5, .ref a_6, .ref a_7, .ref a_8, .ref a_9, .ref a_10, .ref a_11, .null, .null, .int 0, .int 0, .null, .null])), (a_1, .inl (cI, 300, .inl (fun _ => 0))), (a_2, .inl (cI, 2000, .inl (fun _ => 0))), (a_3, .inl (cI, 2000, .inl (fun _ => 0))), (a_4, .inl (cJ, 2000, .inr (.inl (fun _ => 0)))), (a_5, .inl (cJ, 300, .inr (.inl (fun _ => 0)))), (a_6, .inl (cI, 300, .inl (fun _ => 0))), (a_7, .inl (cI, 300, .inl (fun _ => 0))), (a_8, .inl (cI, 300, .inl (fun _ => 0))), (a_9, .inl (cI, 300, .inl (fun _ => 0))), (a_10, .inl (cJ, 300, .inr (.inl (fun _ => 0)))), (a_11, .inl (cJ, 300, .inr (.inl (fun _ => 0))))] H := hP
  have hD : va_D A [(m0, .inr (4, [.int 1, .int 4096, .int 0, .ref a_1, .ref a_2, .ref a_3, .ref a_4, .int 0, .ref a_5, .ref a_6, .ref a_7, .ref a_8, .ref a_9, .ref a_10, .ref a_11, .null, .null, .int 0, .int 0, .null, .null])), (a_1, .inl (cI, 300, .inl (fun _ => 0))), (a_2, .inl (cI, 2000, .inl (fun _ => 0))), (a_3, .inl (cI, 2000, .inl (fun _ => 0))), (a_4, .inl (cJ, 2000, .inr (.inl (fun _ => 0)))), (a_5, .inl (cJ, 300, .inr (.inl (fun _ => 0)))), (a_6, .inl (cI, 300, .inl (fun _ => 0))), (a_7, .inl (cI, 300, .inl (fun _ => 0))), (a_8, .inl (cI, 300, .inl (fun _ => 0))), (a_9, .inl (cI, 300, .inl (fun _ => 0))), (a_10, .inl (cJ, 300, .inr (.inl (fun _ => 0)))), (a_11, .inl (cJ, 300, .inr (.inl (fun _ => 0))))] := hD
  refine lv_aload_n hx hb dX4_init_115 rfl (lv_at hl 0 rfl) ?_
  refine lv_sipush (v := 300) hx hb dX4_init_116 (by decide) ?_
  refine new_a (atype := .int) (ty := .int) (cA := cI) (a0 := (300, .inl (fun _ => 0))) (N' := 300) hx hb (hts (.arrayClass .int) (by decide +kernel)) rfl hK 0 rfl (fun _ _ h => h) hP hD hS hA (vp_zero_i _) (by decide) (by decide) (by decide) (by decide) (by decide) dX4_init_119 (fun a_12 H hP hD hS => ?_)
  have hP : va_P (dC, dI) vwCl [(m0, .inr (4, [.int 1, .int 4096, .int 0, .ref a_1, .ref a_2, .ref a_3, .ref a_4, .int 0, .ref a_5, .ref a_6, .ref a_7, .ref a_8, .ref a_9, .ref a_10, .ref a_11, .null, .null, .int 0, .int 0, .null, .null])), (a_1, .inl (cI, 300, .inl (fun _ => 0))), (a_2, .inl (cI, 2000, .inl (fun _ => 0))), (a_3, .inl (cI, 2000, .inl (fun _ => 0))), (a_4, .inl (cJ, 2000, .inr (.inl (fun _ => 0)))), (a_5, .inl (cJ, 300, .inr (.inl (fun _ => 0)))), (a_6, .inl (cI, 300, .inl (fun _ => 0))), (a_7, .inl (cI, 300, .inl (fun _ => 0))), (a_8, .inl (cI, 300, .inl (fun _ => 0))), (a_9, .inl (cI, 300, .inl (fun _ => 0))), (a_10, .inl (cJ, 300, .inr (.inl (fun _ => 0)))), (a_11, .inl (cJ, 300, .inr (.inl (fun _ => 0)))), (a_12, .inl (cI, 300, .inl (fun _ => 0)))] H := hP
  have hD : va_D A [(m0, .inr (4, [.int 1, .int 4096, .int 0, .ref a_1, .ref a_2, .ref a_3, .ref a_4, .int 0, .ref a_5, .ref a_6, .ref a_7, .ref a_8, .ref a_9, .ref a_10, .ref a_11, .null, .null, .int 0, .int 0, .null, .null])), (a_1, .inl (cI, 300, .inl (fun _ => 0))), (a_2, .inl (cI, 2000, .inl (fun _ => 0))), (a_3, .inl (cI, 2000, .inl (fun _ => 0))), (a_4, .inl (cJ, 2000, .inr (.inl (fun _ => 0)))), (a_5, .inl (cJ, 300, .inr (.inl (fun _ => 0)))), (a_6, .inl (cI, 300, .inl (fun _ => 0))), (a_7, .inl (cI, 300, .inl (fun _ => 0))), (a_8, .inl (cI, 300, .inl (fun _ => 0))), (a_9, .inl (cI, 300, .inl (fun _ => 0))), (a_10, .inl (cJ, 300, .inr (.inl (fun _ => 0)))), (a_11, .inl (cJ, 300, .inr (.inl (fun _ => 0)))), (a_12, .inl (cI, 300, .inl (fun _ => 0)))] := hD
  refine W.widen (k := 12) (n := 8700) (by omega) (by omega) ?_
  refine va_putF (D := (dC, dI)) (ci := 4) (v := .ref a_12) (ty := (.array .int)) (C := RX4) (T := TX4) (N := 21) hx hb hts hin4 tyX4 tyX4_ok nmX4 hown hK hP hD hS 0 rfl rfl 15 (by decide) (hts (.fieldLink RX4 51 "CallClustersModel" "order" "[I") (by decide +kernel)) (fun _ h9 => h9) rfl hin rfl (by decide +kernel) (rfl) (rfl) (Nat.le_of_ble_eq_true rfl) dX4_init_121 (fun H locs hP hD hS => ?_)
  have hP : va_P (dC, dI) vwCl [(m0, .inr (4, [.int 1, .int 4096, .int 0, .ref a_1, .ref a_2, .ref a_3, .ref a_4, .int 0, .ref a_5, .ref a_6, .ref a_7, .ref a_8, .ref a_9, .ref a_10, .ref a_11, .ref a_12, .null, .int 0, .int 0, .null, .null])), (a_1, .inl (cI, 300, .inl (fun _ => 0))), (a_2, .inl (cI, 2000, .inl (fun _ => 0))), (a_3, .inl (cI, 2000, .inl (fun _ => 0))), (a_4, .inl (cJ, 2000, .inr (.inl (fun _ => 0)))), (a_5, .inl (cJ, 300, .inr (.inl (fun _ => 0)))), (a_6, .inl (cI, 300, .inl (fun _ => 0))), (a_7, .inl (cI, 300, .inl (fun _ => 0))), (a_8, .inl (cI, 300, .inl (fun _ => 0))), (a_9, .inl (cI, 300, .inl (fun _ => 0))), (a_10, .inl (cJ, 300, .inr (.inl (fun _ => 0)))), (a_11, .inl (cJ, 300, .inr (.inl (fun _ => 0)))), (a_12, .inl (cI, 300, .inl (fun _ => 0)))] H := hP
  have hD : va_D A [(m0, .inr (4, [.int 1, .int 4096, .int 0, .ref a_1, .ref a_2, .ref a_3, .ref a_4, .int 0, .ref a_5, .ref a_6, .ref a_7, .ref a_8, .ref a_9, .ref a_10, .ref a_11, .ref a_12, .null, .int 0, .int 0, .null, .null])), (a_1, .inl (cI, 300, .inl (fun _ => 0))), (a_2, .inl (cI, 2000, .inl (fun _ => 0))), (a_3, .inl (cI, 2000, .inl (fun _ => 0))), (a_4, .inl (cJ, 2000, .inr (.inl (fun _ => 0)))), (a_5, .inl (cJ, 300, .inr (.inl (fun _ => 0)))), (a_6, .inl (cI, 300, .inl (fun _ => 0))), (a_7, .inl (cI, 300, .inl (fun _ => 0))), (a_8, .inl (cI, 300, .inl (fun _ => 0))), (a_9, .inl (cI, 300, .inl (fun _ => 0))), (a_10, .inl (cJ, 300, .inr (.inl (fun _ => 0)))), (a_11, .inl (cJ, 300, .inr (.inl (fun _ => 0)))), (a_12, .inl (cI, 300, .inl (fun _ => 0)))] := hD
  refine lv_aload_n hx hb dX4_init_124 rfl (lv_at hl 0 rfl) ?_
  refine lv_sipush (v := 300) hx hb dX4_init_125 (by decide) ?_
  refine new_a (atype := .long) (ty := .long) (cA := cJ) (a0 := (300, .inr (.inl (fun _ => 0)))) (N' := 300) hx hb (hts (.arrayClass .long) (by decide +kernel)) rfl hK 1 rfl (fun _ _ h => h) hP hD hS hA (vp_zero_l _) (by decide) (by decide) (by decide) (by decide) (by decide) dX4_init_128 (fun a_13 H hP hD hS => ?_)
  have hP : va_P (dC, dI) vwCl [(m0, .inr (4, [.int 1, .int 4096, .int 0, .ref a_1, .ref a_2, .ref a_3, .ref a_4, .int 0, .ref a_5, .ref a_6, .ref a_7, .ref a_8, .ref a_9, .ref a_10, .ref a_11, .ref a_12, .null, .int 0, .int 0, .null, .null])), (a_1, .inl (cI, 300, .inl (fun _ => 0))), (a_2, .inl (cI, 2000, .inl (fun _ => 0))), (a_3, .inl (cI, 2000, .inl (fun _ => 0))), (a_4, .inl (cJ, 2000, .inr (.inl (fun _ => 0)))), (a_5, .inl (cJ, 300, .inr (.inl (fun _ => 0)))), (a_6, .inl (cI, 300, .inl (fun _ => 0))), (a_7, .inl (cI, 300, .inl (fun _ => 0))), (a_8, .inl (cI, 300, .inl (fun _ => 0))), (a_9, .inl (cI, 300, .inl (fun _ => 0))), (a_10, .inl (cJ, 300, .inr (.inl (fun _ => 0)))), (a_11, .inl (cJ, 300, .inr (.inl (fun _ => 0)))), (a_12, .inl (cI, 300, .inl (fun _ => 0))), (a_13, .inl (cJ, 300, .inr (.inl (fun _ => 0))))] H := hP
  have hD : va_D A [(m0, .inr (4, [.int 1, .int 4096, .int 0, .ref a_1, .ref a_2, .ref a_3, .ref a_4, .int 0, .ref a_5, .ref a_6, .ref a_7, .ref a_8, .ref a_9, .ref a_10, .ref a_11, .ref a_12, .null, .int 0, .int 0, .null, .null])), (a_1, .inl (cI, 300, .inl (fun _ => 0))), (a_2, .inl (cI, 2000, .inl (fun _ => 0))), (a_3, .inl (cI, 2000, .inl (fun _ => 0))), (a_4, .inl (cJ, 2000, .inr (.inl (fun _ => 0)))), (a_5, .inl (cJ, 300, .inr (.inl (fun _ => 0)))), (a_6, .inl (cI, 300, .inl (fun _ => 0))), (a_7, .inl (cI, 300, .inl (fun _ => 0))), (a_8, .inl (cI, 300, .inl (fun _ => 0))), (a_9, .inl (cI, 300, .inl (fun _ => 0))), (a_10, .inl (cJ, 300, .inr (.inl (fun _ => 0)))), (a_11, .inl (cJ, 300, .inr (.inl (fun _ => 0)))), (a_12, .inl (cI, 300, .inl (fun _ => 0))), (a_13, .inl (cJ, 300, .inr (.inl (fun _ => 0))))] := hD
  refine W.widen (k := 13) (n := 9000) (by omega) (by omega) ?_
  refine va_putF (D := (dC, dI)) (ci := 4) (v := .ref a_13) (ty := (.array .long)) (C := RX4) (T := TX4) (N := 21) hx hb hts hin4 tyX4 tyX4_ok nmX4 hown hK hP hD hS 0 rfl rfl 16 (by decide) (hts (.fieldLink RX4 54 "CallClustersModel" "begins" "[J") (by decide +kernel)) (fun _ h9 => h9) rfl hin rfl (by decide +kernel) (rfl) (rfl) (Nat.le_of_ble_eq_true rfl) dX4_init_130 (fun H locs hP hD hS => ?_)
  have hP : va_P (dC, dI) vwCl [(m0, .inr (4, [.int 1, .int 4096, .int 0, .ref a_1, .ref a_2, .ref a_3, .ref a_4, .int 0, .ref a_5, .ref a_6, .ref a_7, .ref a_8, .ref a_9, .ref a_10, .ref a_11, .ref a_12, .ref a_13, .int 0, .int 0, .null, .null])), (a_1, .inl (cI, 300, .inl (fun _ => 0))), (a_2, .inl (cI, 2000, .inl (fun _ => 0))), (a_3, .inl (cI, 2000, .inl (fun _ => 0))), (a_4, .inl (cJ, 2000, .inr (.inl (fun _ => 0)))), (a_5, .inl (cJ, 300, .inr (.inl (fun _ => 0)))), (a_6, .inl (cI, 300, .inl (fun _ => 0))), (a_7, .inl (cI, 300, .inl (fun _ => 0))), (a_8, .inl (cI, 300, .inl (fun _ => 0))), (a_9, .inl (cI, 300, .inl (fun _ => 0))), (a_10, .inl (cJ, 300, .inr (.inl (fun _ => 0)))), (a_11, .inl (cJ, 300, .inr (.inl (fun _ => 0)))), (a_12, .inl (cI, 300, .inl (fun _ => 0))), (a_13, .inl (cJ, 300, .inr (.inl (fun _ => 0))))] H := hP
  have hD : va_D A [(m0, .inr (4, [.int 1, .int 4096, .int 0, .ref a_1, .ref a_2, .ref a_3, .ref a_4, .int 0, .ref a_5, .ref a_6, .ref a_7, .ref a_8, .ref a_9, .ref a_10, .ref a_11, .ref a_12, .ref a_13, .int 0, .int 0, .null, .null])), (a_1, .inl (cI, 300, .inl (fun _ => 0))), (a_2, .inl (cI, 2000, .inl (fun _ => 0))), (a_3, .inl (cI, 2000, .inl (fun _ => 0))), (a_4, .inl (cJ, 2000, .inr (.inl (fun _ => 0)))), (a_5, .inl (cJ, 300, .inr (.inl (fun _ => 0)))), (a_6, .inl (cI, 300, .inl (fun _ => 0))), (a_7, .inl (cI, 300, .inl (fun _ => 0))), (a_8, .inl (cI, 300, .inl (fun _ => 0))), (a_9, .inl (cI, 300, .inl (fun _ => 0))), (a_10, .inl (cJ, 300, .inr (.inl (fun _ => 0)))), (a_11, .inl (cJ, 300, .inr (.inl (fun _ => 0)))), (a_12, .inl (cI, 300, .inl (fun _ => 0))), (a_13, .inl (cJ, 300, .inr (.inl (fun _ => 0))))] := hD
  refine lv_aload_n hx hb dX4_init_133 rfl (lv_at hl 0 rfl) ?_
  refine lv_sipush (v := 300) hx hb dX4_init_134 (by decide) ?_
  refine new_a (atype := .long) (ty := .long) (cA := cJ) (a0 := (300, .inr (.inl (fun _ => 0)))) (N' := 300) hx hb (hts (.arrayClass .long) (by decide +kernel)) rfl hK 1 rfl (fun _ _ h => h) hP hD hS hA (vp_zero_l _) (by decide) (by decide) (by decide) (by decide) (by decide) dX4_init_137 (fun a_14 H hP hD hS => ?_)
  have hP : va_P (dC, dI) vwCl [(m0, .inr (4, [.int 1, .int 4096, .int 0, .ref a_1, .ref a_2, .ref a_3, .ref a_4, .int 0, .ref a_5, .ref a_6, .ref a_7, .ref a_8, .ref a_9, .ref a_10, .ref a_11, .ref a_12, .ref a_13, .int 0, .int 0, .null, .null])), (a_1, .inl (cI, 300, .inl (fun _ => 0))), (a_2, .inl (cI, 2000, .inl (fun _ => 0))), (a_3, .inl (cI, 2000, .inl (fun _ => 0))), (a_4, .inl (cJ, 2000, .inr (.inl (fun _ => 0)))), (a_5, .inl (cJ, 300, .inr (.inl (fun _ => 0)))), (a_6, .inl (cI, 300, .inl (fun _ => 0))), (a_7, .inl (cI, 300, .inl (fun _ => 0))), (a_8, .inl (cI, 300, .inl (fun _ => 0))), (a_9, .inl (cI, 300, .inl (fun _ => 0))), (a_10, .inl (cJ, 300, .inr (.inl (fun _ => 0)))), (a_11, .inl (cJ, 300, .inr (.inl (fun _ => 0)))), (a_12, .inl (cI, 300, .inl (fun _ => 0))), (a_13, .inl (cJ, 300, .inr (.inl (fun _ => 0)))), (a_14, .inl (cJ, 300, .inr (.inl (fun _ => 0))))] H := hP
  have hD : va_D A [(m0, .inr (4, [.int 1, .int 4096, .int 0, .ref a_1, .ref a_2, .ref a_3, .ref a_4, .int 0, .ref a_5, .ref a_6, .ref a_7, .ref a_8, .ref a_9, .ref a_10, .ref a_11, .ref a_12, .ref a_13, .int 0, .int 0, .null, .null])), (a_1, .inl (cI, 300, .inl (fun _ => 0))), (a_2, .inl (cI, 2000, .inl (fun _ => 0))), (a_3, .inl (cI, 2000, .inl (fun _ => 0))), (a_4, .inl (cJ, 2000, .inr (.inl (fun _ => 0)))), (a_5, .inl (cJ, 300, .inr (.inl (fun _ => 0)))), (a_6, .inl (cI, 300, .inl (fun _ => 0))), (a_7, .inl (cI, 300, .inl (fun _ => 0))), (a_8, .inl (cI, 300, .inl (fun _ => 0))), (a_9, .inl (cI, 300, .inl (fun _ => 0))), (a_10, .inl (cJ, 300, .inr (.inl (fun _ => 0)))), (a_11, .inl (cJ, 300, .inr (.inl (fun _ => 0)))), (a_12, .inl (cI, 300, .inl (fun _ => 0))), (a_13, .inl (cJ, 300, .inr (.inl (fun _ => 0)))), (a_14, .inl (cJ, 300, .inr (.inl (fun _ => 0))))] := hD
  refine W.widen (k := 14) (n := 9300) (by omega) (by omega) ?_
  refine va_putF (D := (dC, dI)) (ci := 4) (v := .ref a_14) (ty := (.array .long)) (C := RX4) (T := TX4) (N := 21) hx hb hts hin4 tyX4 tyX4_ok nmX4 hown hK hP hD hS 0 rfl rfl 19 (by decide) (hts (.fieldLink RX4 57 "CallClustersModel" "most" "[J") (by decide +kernel)) (fun _ h9 => h9) rfl hin rfl (by decide +kernel) (rfl) (rfl) (Nat.le_of_ble_eq_true rfl) dX4_init_139 (fun H locs hP hD hS => ?_)
  have hP : va_P (dC, dI) vwCl [(m0, .inr (4, [.int 1, .int 4096, .int 0, .ref a_1, .ref a_2, .ref a_3, .ref a_4, .int 0, .ref a_5, .ref a_6, .ref a_7, .ref a_8, .ref a_9, .ref a_10, .ref a_11, .ref a_12, .ref a_13, .int 0, .int 0, .ref a_14, .null])), (a_1, .inl (cI, 300, .inl (fun _ => 0))), (a_2, .inl (cI, 2000, .inl (fun _ => 0))), (a_3, .inl (cI, 2000, .inl (fun _ => 0))), (a_4, .inl (cJ, 2000, .inr (.inl (fun _ => 0)))), (a_5, .inl (cJ, 300, .inr (.inl (fun _ => 0)))), (a_6, .inl (cI, 300, .inl (fun _ => 0))), (a_7, .inl (cI, 300, .inl (fun _ => 0))), (a_8, .inl (cI, 300, .inl (fun _ => 0))), (a_9, .inl (cI, 300, .inl (fun _ => 0))), (a_10, .inl (cJ, 300, .inr (.inl (fun _ => 0)))), (a_11, .inl (cJ, 300, .inr (.inl (fun _ => 0)))), (a_12, .inl (cI, 300, .inl (fun _ => 0))), (a_13, .inl (cJ, 300, .inr (.inl (fun _ => 0)))), (a_14, .inl (cJ, 300, .inr (.inl (fun _ => 0))))] H := hP
  have hD : va_D A [(m0, .inr (4, [.int 1, .int 4096, .int 0, .ref a_1, .ref a_2, .ref a_3, .ref a_4, .int 0, .ref a_5, .ref a_6, .ref a_7, .ref a_8, .ref a_9, .ref a_10, .ref a_11, .ref a_12, .ref a_13, .int 0, .int 0, .ref a_14, .null])), (a_1, .inl (cI, 300, .inl (fun _ => 0))), (a_2, .inl (cI, 2000, .inl (fun _ => 0))), (a_3, .inl (cI, 2000, .inl (fun _ => 0))), (a_4, .inl (cJ, 2000, .inr (.inl (fun _ => 0)))), (a_5, .inl (cJ, 300, .inr (.inl (fun _ => 0)))), (a_6, .inl (cI, 300, .inl (fun _ => 0))), (a_7, .inl (cI, 300, .inl (fun _ => 0))), (a_8, .inl (cI, 300, .inl (fun _ => 0))), (a_9, .inl (cI, 300, .inl (fun _ => 0))), (a_10, .inl (cJ, 300, .inr (.inl (fun _ => 0)))), (a_11, .inl (cJ, 300, .inr (.inl (fun _ => 0)))), (a_12, .inl (cI, 300, .inl (fun _ => 0))), (a_13, .inl (cJ, 300, .inr (.inl (fun _ => 0)))), (a_14, .inl (cJ, 300, .inr (.inl (fun _ => 0))))] := hD
  refine lv_aload_n hx hb dX4_init_142 rfl (lv_at hl 0 rfl) ?_
  refine lv_sipush (v := 300) hx hb dX4_init_143 (by decide) ?_
  refine new_a (atype := .boolean) (ty := .boolean) (cA := cZ) (a0 := (300, .inl (fun _ => 0))) (N' := 300) hx hb (hts (.arrayClass .boolean) (by decide +kernel)) rfl hK 2 rfl (fun _ _ h => h) hP hD hS hA (vp_zero_z _) (by decide) (by decide) (by decide) (by decide) (by decide) dX4_init_146 (fun a_15 H hP hD hS => ?_)
  have hP : va_P (dC, dI) vwCl [(m0, .inr (4, [.int 1, .int 4096, .int 0, .ref a_1, .ref a_2, .ref a_3, .ref a_4, .int 0, .ref a_5, .ref a_6, .ref a_7, .ref a_8, .ref a_9, .ref a_10, .ref a_11, .ref a_12, .ref a_13, .int 0, .int 0, .ref a_14, .null])), (a_1, .inl (cI, 300, .inl (fun _ => 0))), (a_2, .inl (cI, 2000, .inl (fun _ => 0))), (a_3, .inl (cI, 2000, .inl (fun _ => 0))), (a_4, .inl (cJ, 2000, .inr (.inl (fun _ => 0)))), (a_5, .inl (cJ, 300, .inr (.inl (fun _ => 0)))), (a_6, .inl (cI, 300, .inl (fun _ => 0))), (a_7, .inl (cI, 300, .inl (fun _ => 0))), (a_8, .inl (cI, 300, .inl (fun _ => 0))), (a_9, .inl (cI, 300, .inl (fun _ => 0))), (a_10, .inl (cJ, 300, .inr (.inl (fun _ => 0)))), (a_11, .inl (cJ, 300, .inr (.inl (fun _ => 0)))), (a_12, .inl (cI, 300, .inl (fun _ => 0))), (a_13, .inl (cJ, 300, .inr (.inl (fun _ => 0)))), (a_14, .inl (cJ, 300, .inr (.inl (fun _ => 0)))), (a_15, .inl (cZ, 300, .inl (fun _ => 0)))] H := hP
  have hD : va_D A [(m0, .inr (4, [.int 1, .int 4096, .int 0, .ref a_1, .ref a_2, .ref a_3, .ref a_4, .int 0, .ref a_5, .ref a_6, .ref a_7, .ref a_8, .ref a_9, .ref a_10, .ref a_11, .ref a_12, .ref a_13, .int 0, .int 0, .ref a_14, .null])), (a_1, .inl (cI, 300, .inl (fun _ => 0))), (a_2, .inl (cI, 2000, .inl (fun _ => 0))), (a_3, .inl (cI, 2000, .inl (fun _ => 0))), (a_4, .inl (cJ, 2000, .inr (.inl (fun _ => 0)))), (a_5, .inl (cJ, 300, .inr (.inl (fun _ => 0)))), (a_6, .inl (cI, 300, .inl (fun _ => 0))), (a_7, .inl (cI, 300, .inl (fun _ => 0))), (a_8, .inl (cI, 300, .inl (fun _ => 0))), (a_9, .inl (cI, 300, .inl (fun _ => 0))), (a_10, .inl (cJ, 300, .inr (.inl (fun _ => 0)))), (a_11, .inl (cJ, 300, .inr (.inl (fun _ => 0)))), (a_12, .inl (cI, 300, .inl (fun _ => 0))), (a_13, .inl (cJ, 300, .inr (.inl (fun _ => 0)))), (a_14, .inl (cJ, 300, .inr (.inl (fun _ => 0)))), (a_15, .inl (cZ, 300, .inl (fun _ => 0)))] := hD
  refine W.widen (k := 15) (n := 9600) (by omega) (by omega) ?_
  refine va_putF (D := (dC, dI)) (ci := 4) (v := .ref a_15) (ty := (.array .boolean)) (C := RX4) (T := TX4) (N := 21) hx hb hts hin4 tyX4 tyX4_ok nmX4 hown hK hP hD hS 0 rfl rfl 20 (by decide) (hts (.fieldLink RX4 60 "CallClustersModel" "isDone" "[Z") (by decide +kernel)) (fun _ h9 => h9) rfl hin rfl (by decide +kernel) (rfl) (rfl) (Nat.le_of_ble_eq_true rfl) dX4_init_148 (fun H locs hP hD hS => ?_)
  have hP : va_P (dC, dI) vwCl [(m0, .inr (4, [.int 1, .int 4096, .int 0, .ref a_1, .ref a_2, .ref a_3, .ref a_4, .int 0, .ref a_5, .ref a_6, .ref a_7, .ref a_8, .ref a_9, .ref a_10, .ref a_11, .ref a_12, .ref a_13, .int 0, .int 0, .ref a_14, .ref a_15])), (a_1, .inl (cI, 300, .inl (fun _ => 0))), (a_2, .inl (cI, 2000, .inl (fun _ => 0))), (a_3, .inl (cI, 2000, .inl (fun _ => 0))), (a_4, .inl (cJ, 2000, .inr (.inl (fun _ => 0)))), (a_5, .inl (cJ, 300, .inr (.inl (fun _ => 0)))), (a_6, .inl (cI, 300, .inl (fun _ => 0))), (a_7, .inl (cI, 300, .inl (fun _ => 0))), (a_8, .inl (cI, 300, .inl (fun _ => 0))), (a_9, .inl (cI, 300, .inl (fun _ => 0))), (a_10, .inl (cJ, 300, .inr (.inl (fun _ => 0)))), (a_11, .inl (cJ, 300, .inr (.inl (fun _ => 0)))), (a_12, .inl (cI, 300, .inl (fun _ => 0))), (a_13, .inl (cJ, 300, .inr (.inl (fun _ => 0)))), (a_14, .inl (cJ, 300, .inr (.inl (fun _ => 0)))), (a_15, .inl (cZ, 300, .inl (fun _ => 0)))] H := hP
  have hD : va_D A [(m0, .inr (4, [.int 1, .int 4096, .int 0, .ref a_1, .ref a_2, .ref a_3, .ref a_4, .int 0, .ref a_5, .ref a_6, .ref a_7, .ref a_8, .ref a_9, .ref a_10, .ref a_11, .ref a_12, .ref a_13, .int 0, .int 0, .ref a_14, .ref a_15])), (a_1, .inl (cI, 300, .inl (fun _ => 0))), (a_2, .inl (cI, 2000, .inl (fun _ => 0))), (a_3, .inl (cI, 2000, .inl (fun _ => 0))), (a_4, .inl (cJ, 2000, .inr (.inl (fun _ => 0)))), (a_5, .inl (cJ, 300, .inr (.inl (fun _ => 0)))), (a_6, .inl (cI, 300, .inl (fun _ => 0))), (a_7, .inl (cI, 300, .inl (fun _ => 0))), (a_8, .inl (cI, 300, .inl (fun _ => 0))), (a_9, .inl (cI, 300, .inl (fun _ => 0))), (a_10, .inl (cJ, 300, .inr (.inl (fun _ => 0)))), (a_11, .inl (cJ, 300, .inr (.inl (fun _ => 0)))), (a_12, .inl (cI, 300, .inl (fun _ => 0))), (a_13, .inl (cJ, 300, .inr (.inl (fun _ => 0)))), (a_14, .inl (cJ, 300, .inr (.inl (fun _ => 0)))), (a_15, .inl (cZ, 300, .inl (fun _ => 0)))] := hD
  have hP := hP.sub (ws' := [(m0, .inr (4, [.int 1, .int 4096, .int 0, .ref a_1, .ref a_2, .ref a_3, .ref a_4, .int 0, .ref a_5, .ref a_6, .ref a_7, .ref a_8, .ref a_9, .ref a_10, .ref a_11, .ref a_12, .ref a_13, .int 0, .int 0, .ref a_14, .ref a_15])), (a_1, .inl (cI, 300, .inl (fun _ => 0))), (a_2, .inl (cI, 2000, .inl (fun _ => 0))), (a_3, .inl (cI, 2000, .inl (fun _ => 0))), (a_4, .inl (cJ, 2000, .inr (.inl (fun _ => 0)))), (a_5, .inl (cJ, 300, .inr (.inl (fun _ => 0)))), (a_6, .inl (cI, 300, .inl (fun _ => 0))), (a_7, .inl (cI, 300, .inl (fun _ => 0))), (a_8, .inl (cI, 300, .inl (fun _ => 0))), (a_9, .inl (cI, 300, .inl (fun _ => 0))), (a_10, .inl (cJ, 300, .inr (.inl (fun _ => 0)))), (a_11, .inl (cJ, 300, .inr (.inl (fun _ => 0)))), (a_12, .inl (cI, 300, .inl (fun _ => 0))), (a_13, .inl (cJ, 300, .inr (.inl (fun _ => 0)))), (a_14, .inl (cJ, 300, .inr (.inl (fun _ => 0)))), (a_15, .inl (cZ, 300, .inl (fun _ => 0)))]) [0, 1, 2, 3, 4, 5, 6, 7, 8, 9, 10, 11, 12, 13, 14, 15] rfl
  have hD := hD.sub (ws' := [(m0, .inr (4, [.int 1, .int 4096, .int 0, .ref a_1, .ref a_2, .ref a_3, .ref a_4, .int 0, .ref a_5, .ref a_6, .ref a_7, .ref a_8, .ref a_9, .ref a_10, .ref a_11, .ref a_12, .ref a_13, .int 0, .int 0, .ref a_14, .ref a_15])), (a_1, .inl (cI, 300, .inl (fun _ => 0))), (a_2, .inl (cI, 2000, .inl (fun _ => 0))), (a_3, .inl (cI, 2000, .inl (fun _ => 0))), (a_4, .inl (cJ, 2000, .inr (.inl (fun _ => 0)))), (a_5, .inl (cJ, 300, .inr (.inl (fun _ => 0)))), (a_6, .inl (cI, 300, .inl (fun _ => 0))), (a_7, .inl (cI, 300, .inl (fun _ => 0))), (a_8, .inl (cI, 300, .inl (fun _ => 0))), (a_9, .inl (cI, 300, .inl (fun _ => 0))), (a_10, .inl (cJ, 300, .inr (.inl (fun _ => 0)))), (a_11, .inl (cJ, 300, .inr (.inl (fun _ => 0)))), (a_12, .inl (cI, 300, .inl (fun _ => 0))), (a_13, .inl (cJ, 300, .inr (.inl (fun _ => 0)))), (a_14, .inl (cJ, 300, .inr (.inl (fun _ => 0)))), (a_15, .inl (cZ, 300, .inl (fun _ => 0)))]) [0, 1, 2, 3, 4, 5, 6, 7, 8, 9, 10, 11, 12, 13, 14, 15] (by decide) rfl
  have hP9 : va_P (dC, dI) vwCl [(m0, .inr (4, [.int 1, .int 4096, .int 0, .ref a_1, .ref a_2, .ref a_3, .ref a_4, .int 0, .ref a_5, .ref a_6, .ref a_7, .ref a_8, .ref a_9, .ref a_10, .ref a_11, .ref a_12, .ref a_13, .int 0, .int 0, .ref a_14, .ref a_15])), (a_1, .inl (cI, 300, .inl (fun _ => 0))), (a_2, .inl (cI, 2000, .inl (fun _ => 0))), (a_3, .inl (cI, 2000, .inl (fun _ => 0))), (a_4, .inl (cJ, 2000, .inr (.inl (fun _ => 0)))), (a_5, .inl (cJ, 300, .inr (.inl (fun _ => 0)))), (a_6, .inl (cI, 300, .inl (fun _ => 0))), (a_7, .inl (cI, 300, .inl (fun _ => 0))), (a_8, .inl (cI, 300, .inl (fun _ => 0))), (a_9, .inl (cI, 300, .inl (fun _ => 0))), (a_10, .inl (cJ, 300, .inr (.inl (fun _ => 0)))), (a_11, .inl (cJ, 300, .inr (.inl (fun _ => 0)))), (a_12, .inl (cI, 300, .inl (fun _ => 0))), (a_13, .inl (cJ, 300, .inr (.inl (fun _ => 0)))), (a_14, .inl (cJ, 300, .inr (.inl (fun _ => 0)))), (a_15, .inl (cZ, 300, .inl (fun _ => 0)))] H := hP
  have hD9 : va_D A [(m0, .inr (4, [.int 1, .int 4096, .int 0, .ref a_1, .ref a_2, .ref a_3, .ref a_4, .int 0, .ref a_5, .ref a_6, .ref a_7, .ref a_8, .ref a_9, .ref a_10, .ref a_11, .ref a_12, .ref a_13, .int 0, .int 0, .ref a_14, .ref a_15])), (a_1, .inl (cI, 300, .inl (fun _ => 0))), (a_2, .inl (cI, 2000, .inl (fun _ => 0))), (a_3, .inl (cI, 2000, .inl (fun _ => 0))), (a_4, .inl (cJ, 2000, .inr (.inl (fun _ => 0)))), (a_5, .inl (cJ, 300, .inr (.inl (fun _ => 0)))), (a_6, .inl (cI, 300, .inl (fun _ => 0))), (a_7, .inl (cI, 300, .inl (fun _ => 0))), (a_8, .inl (cI, 300, .inl (fun _ => 0))), (a_9, .inl (cI, 300, .inl (fun _ => 0))), (a_10, .inl (cJ, 300, .inr (.inl (fun _ => 0)))), (a_11, .inl (cJ, 300, .inr (.inl (fun _ => 0)))), (a_12, .inl (cI, 300, .inl (fun _ => 0))), (a_13, .inl (cJ, 300, .inr (.inl (fun _ => 0)))), (a_14, .inl (cJ, 300, .inr (.inl (fun _ => 0)))), (a_15, .inl (cZ, 300, .inl (fun _ => 0)))] := hD
  refine W.widen (k := 15) (n := 9600) (by omega) (by omega) ?_
  exact W.vret hx hb hr (fun t ht hW => ⟨⟨(), rfl, trivial, a_1, a_2, a_3, a_4, a_5, a_6, a_7, a_8, a_9, a_10, a_11, a_12, a_13, a_14, a_15, by rw [ht]; exact hP9, va_K.moved hW.alike hK, hD9⟩, hS.F ht⟩) hS.2.2 dX4_init_151
