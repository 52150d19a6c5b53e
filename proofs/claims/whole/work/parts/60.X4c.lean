set_option maxHeartbeats 4000000 in
set_option maxRecDepth 100000 in
theorem lpX4_inOrderA {p : Program} {l : Launch} {ev : Env} {s : State} {m : MethodId} {args : Array Value} {below : List Frame} {meth : Method} {c : Code} {Q : State → Prop} {A : Nat → Prop} {dC : Nat → ClassId} {dI : Nat → Nat → Nat} {cI cJ cZ : ClassId} {R : Room} {cells slots : Nat} (hx : p.tables.exec = Jvm.exec) (hb : c.code = cX4_inOrder) (hml : c.maxLocals = 5) (hts : ∀ w ∈ wsX4_inOrder, w.before args s = true) (hown : s.vm.findClass RX4 = some m.cls) (hK : va_K (dC, dI) vwCl [(cI, .int), (cJ, .long), (cZ, .boolean)] s) (hA : ∀ q : Nat, s.heap.size ≤ q → A q) {m0 : Nat} {b0 : Nat} {e3 : Nat} {e4 : Nat} {e6 : Nat} {e7 : Nat} {e8 : Nat} {e9 : Nat} {f2 : Nat} {c1 c2 c3 e1 e2 e5 f1 : Nat} {n : Nat} {P : Int32} {u : Nat} {kn : Int32} {z fi0 nx0 : Nat → Int32} {wa0 gr0 : Nat → Int64} {dn0 : Nat → Int32} {X : CS} {or_ : Nat → Int32} {bg : Nat → Int64} (hn : n ≤ 300)  (kx : ∀ (H : Heap) (locs : List Loc) (ls : Array Slot), va_P (dC, dI) vwCl [(m0, .inr (4, [.int (nI n), .int P, .int (nI u), .ref b0, .ref c1, .ref c2, .ref c3, .int kn, .ref e1, .ref e2, .ref e3, .ref e4, .ref e5, .ref e6, .ref e7, .ref e8, .ref e9, .int 0, .int 0, .ref f1, .ref f2])), (b0, .inl (cI, 300, .inl z)), (e3, .inl (cI, 300, .inl (mix n (cFi X) fi0))), (e4, .inl (cI, 300, .inl (mix n (cNx X) nx0))), (e6, .inl (cJ, 300, .inr (.inl (mix n (cHe X) wa0)))), (e7, .inl (cJ, 300, .inr (.inl (mix n (cBy X) gr0)))), (e8, .inl (cI, 300, .inl or_)), (e9, .inl (cJ, 300, .inr (.inl bg))), (f2, .inl (cZ, 300, .inl (mix n (fun _ => 0) dn0)))] H → va_D A [(m0, .inr (4, [.int (nI n), .int P, .int (nI u), .ref b0, .ref c1, .ref c2, .ref c3, .int kn, .ref e1, .ref e2, .ref e3, .ref e4, .ref e5, .ref e6, .ref e7, .ref e8, .ref e9, .int 0, .int 0, .ref f1, .ref f2])), (b0, .inl (cI, 300, .inl z)), (e3, .inl (cI, 300, .inl (mix n (cFi X) fi0))), (e4, .inl (cI, 300, .inl (mix n (cNx X) nx0))), (e6, .inl (cJ, 300, .inr (.inl (mix n (cHe X) wa0)))), (e7, .inl (cJ, 300, .inr (.inl (mix n (cBy X) gr0)))), (e8, .inl (cI, 300, .inl or_)), (e9, .inl (cJ, 300, .inr (.inl bg))), (f2, .inl (cZ, 300, .inl (mix n (fun _ => 0) dn0)))] → va_S A s.heap H locs → lv_has ls 5 [(0, .ref m0)] → W p l ev R s m args below meth c H locs cells slots Q (F0 m 33 ls [])) : ∀ (n_ : Nat) (k : Nat), k + n_ = n → ∀ (H : Heap) (locs : List Loc) (ls : Array Slot), va_P (dC, dI) vwCl [(m0, .inr (4, [.int (nI n), .int P, .int (nI u), .ref b0, .ref c1, .ref c2, .ref c3, .int kn, .ref e1, .ref e2, .ref e3, .ref e4, .ref e5, .ref e6, .ref e7, .ref e8, .ref e9, .int 0, .int 0, .ref f1, .ref f2])), (b0, .inl (cI, 300, .inl z)), (e3, .inl (cI, 300, .inl (mix n (cFi X) fi0))), (e4, .inl (cI, 300, .inl (mix n (cNx X) nx0))), (e6, .inl (cJ, 300, .inr (.inl (mix n (cHe X) wa0)))), (e7, .inl (cJ, 300, .inr (.inl (mix n (cBy X) gr0)))), (e8, .inl (cI, 300, .inl or_)), (e9, .inl (cJ, 300, .inr (.inl bg))), (f2, .inl (cZ, 300, .inl (mix k (fun _ => 0) dn0)))] H → va_D A [(m0, .inr (4, [.int (nI n), .int P, .int (nI u), .ref b0, .ref c1, .ref c2, .ref c3, .int kn, .ref e1, .ref e2, .ref e3, .ref e4, .ref e5, .ref e6, .ref e7, .ref e8, .ref e9, .int 0, .int 0, .ref f1, .ref f2])), (b0, .inl (cI, 300, .inl z)), (e3, .inl (cI, 300, .inl (mix n (cFi X) fi0))), (e4, .inl (cI, 300, .inl (mix n (cNx X) nx0))), (e6, .inl (cJ, 300, .inr (.inl (mix n (cHe X) wa0)))), (e7, .inl (cJ, 300, .inr (.inl (mix n (cBy X) gr0)))), (e8, .inl (cI, 300, .inl or_)), (e9, .inl (cJ, 300, .inr (.inl bg))), (f2, .inl (cZ, 300, .inl (mix k (fun _ => 0) dn0)))] → va_S A s.heap H locs → lv_has ls 5 [(0, .ref m0), (1, .int (nI k))] → W p l ev R s m args below meth c H locs cells slots Q (F0 m 12 ls []) := by
  have hin4 : ∀ w ∈ wsX40, w ∈ wsX4_inOrder := by decide +kernel
  intro n_
  induction n_ with
  | zero =>
    intro k hk H locs ls hP hD hS hl
    have hk : k = n := by omega
    subst hk
    refine lv_iload_n hx hb dX4_inOrder_12 rfl (lv_at hl 1 rfl) ?_
    refine lv_aload_n hx hb dX4_inOrder_13 rfl (lv_at hl 0 rfl) ?_
    refine va_get (D := (dC, dI)) (ci := 4) (v := .int (nI k)) (C := RX4) (T := TX4) (N := 21) hx hb hts hin4 hown hK hP 0 rfl rfl 0 (by decide) (hts (.fieldLink RX4 7 "CallClustersModel" "many" "I") (by decide +kernel)) (fun _ h9 => h9) rfl dX4_inOrder_14 ?_
    refine lv_icmp_ge (tgt := 33) hx hb dX4_inOrder_17 (by decide) (fun c_1 => ?_) (fun c_1 => ?_)
    · -- pc 17, side 0
      exact kx   H locs ls hP hD hS (lv_sub hl [0] rfl)
    · -- pc 17, side 1
      exact absurd (nI_le (Nat.le_refl _) (by omega)) c_1
  | succ n_ ih =>
    intro k hk H locs ls hP hD hS hl
    refine lv_iload_n hx hb dX4_inOrder_12 rfl (lv_at hl 1 rfl) ?_
    refine lv_aload_n hx hb dX4_inOrder_13 rfl (lv_at hl 0 rfl) ?_
    refine va_get (D := (dC, dI)) (ci := 4) (v := .int (nI n)) (C := RX4) (T := TX4) (N := 21) hx hb hts hin4 hown hK hP 0 rfl rfl 0 (by decide) (hts (.fieldLink RX4 7 "CallClustersModel" "many" "I") (by decide +kernel)) (fun _ h9 => h9) rfl dX4_inOrder_14 ?_
    refine lv_icmp_ge (tgt := 33) hx hb dX4_inOrder_17 (by decide) (fun c_2 => ?_) (fun c_2 => ?_)
    · -- pc 17, side 0
      exact absurd c_2 (nI_ge (show k < n by omega) (by omega))
    · -- pc 17, side 1
      refine lv_aload_n hx hb dX4_inOrder_20 rfl (lv_at hl 0 rfl) ?_
      refine va_get (D := (dC, dI)) (ci := 4) (v := .ref f2) (C := RX4) (T := TX4) (N := 21) hx hb hts hin4 hown hK hP 0 rfl rfl 20 (by decide) (hts (.fieldLink RX4 60 "CallClustersModel" "isDone" "[Z") (by decide +kernel)) (fun _ h9 => h9) rfl dX4_inOrder_21 ?_
      refine lv_iload_n hx hb dX4_inOrder_24 rfl (lv_at hl 1 rfl) ?_
      refine lv_iconst (v := 0) hx hb dX4_inOrder_25 (by decide) ?_
      refine va_zast hx hb hK hP hD hS 8 2 rfl rfl (inn (show k < 300 by omega) (by omega)) dX4_inOrder_26 (fun H locs hP hD hS => ?_)
      have hf26 : upd (mix k (fun _ => 0) dn0) ((nI k).toNatClampNeg) (vp_nar .boolean 0) = mix (k + 1) (fun _ => 0) dn0 := by rw [ix_n (by omega)]; exact mix_i k _ dn0 (by decide)
      have hP : va_P (dC, dI) vwCl [(m0, .inr (4, [.int (nI n), .int P, .int (nI u), .ref b0, .ref c1, .ref c2, .ref c3, .int kn, .ref e1, .ref e2, .ref e3, .ref e4, .ref e5, .ref e6, .ref e7, .ref e8, .ref e9, .int 0, .int 0, .ref f1, .ref f2])), (b0, .inl (cI, 300, .inl z)), (e3, .inl (cI, 300, .inl (mix n (cFi X) fi0))), (e4, .inl (cI, 300, .inl (mix n (cNx X) nx0))), (e6, .inl (cJ, 300, .inr (.inl (mix n (cHe X) wa0)))), (e7, .inl (cJ, 300, .inr (.inl (mix n (cBy X) gr0)))), (e8, .inl (cI, 300, .inl or_)), (e9, .inl (cJ, 300, .inr (.inl bg))), (f2, .inl (cZ, 300, .inl (upd (mix k (fun _ => 0) dn0) ((nI k).toNatClampNeg) (vp_nar .boolean 0))))] H := hP
      have hD : va_D A [(m0, .inr (4, [.int (nI n), .int P, .int (nI u), .ref b0, .ref c1, .ref c2, .ref c3, .int kn, .ref e1, .ref e2, .ref e3, .ref e4, .ref e5, .ref e6, .ref e7, .ref e8, .ref e9, .int 0, .int 0, .ref f1, .ref f2])), (b0, .inl (cI, 300, .inl z)), (e3, .inl (cI, 300, .inl (mix n (cFi X) fi0))), (e4, .inl (cI, 300, .inl (mix n (cNx X) nx0))), (e6, .inl (cJ, 300, .inr (.inl (mix n (cHe X) wa0)))), (e7, .inl (cJ, 300, .inr (.inl (mix n (cBy X) gr0)))), (e8, .inl (cI, 300, .inl or_)), (e9, .inl (cJ, 300, .inr (.inl bg))), (f2, .inl (cZ, 300, .inl (upd (mix k (fun _ => 0) dn0) ((nI k).toNatClampNeg) (vp_nar .boolean 0))))] := hD
      rw [hf26] at hP hD
      refine lv_iinc (v := nI (k + 1)) (lv' := [(1, .int (nI (k + 1))), (0, .ref m0)]) hx hb dX4_inOrder_27 hl (k := 1) rfl (by exact nI_1 k) (by decide) rfl (fun ls hl => ?_)
      refine lv_goto (tgt := 12) hx hb dX4_inOrder_30 (by decide) ?_
      exact ih (k + 1) (by omega) H locs ls hP hD hS (lv_sub hl [1, 0] rfl)
set_option maxHeartbeats 4000000 in
set_option maxRecDepth 100000 in
theorem lpX4_inOrderS {p : Program} {l : Launch} {ev : Env} {s : State} {m : MethodId} {args : Array Value} {below : List Frame} {meth : Method} {c : Code} {Q : State → Prop} {A : Nat → Prop} {dC : Nat → ClassId} {dI : Nat → Nat → Nat} {cI cJ cZ : ClassId} (hx : p.tables.exec = Jvm.exec) (hb : c.code = cX4_inOrder) (hml : c.maxLocals = 5) (hts : ∀ w ∈ wsX4_inOrder, w.before args s = true) (hown : s.vm.findClass RX4 = some m.cls) (hK : va_K (dC, dI) vwCl [(cI, .int), (cJ, .long), (cZ, .boolean)] s) (hA : ∀ q : Nat, s.heap.size ≤ q → A q) {m0 : Nat} {b0 : Nat} {e3 : Nat} {e4 : Nat} {e6 : Nat} {e7 : Nat} {e8 : Nat} {e9 : Nat} {f2 : Nat} {c1 c2 c3 e1 e2 e5 f1 : Nat} {n : Nat} {P : Int32} {u : Nat} {kn : Int32} {z fi0 nx0 : Nat → Int32} {wa0 gr0 : Nat → Int64} {dn0 : Nat → Int32} {X : CS} {pre : List Nat} {x : (Nat → Int32) × (Nat → Int64) × Nat × Int64} (hn : n ≤ 300) (hI : CInv z X) (hz : ∀ j, j < 300 → ¬ z j ≤ 0 → j < n) (hby : ∀ h, h < 300 → cFi X h = nI h → 0 < cBy X h)  (kx : ∀ (H : Heap) (locs : List Loc) (ls : Array Slot), va_P (dC, dI) vwCl [(m0, .inr (4, [.int (nI n), .int P, .int (nI u), .ref b0, .ref c1, .ref c2, .ref c3, .int kn, .ref e1, .ref e2, .ref e3, .ref e4, .ref e5, .ref e6, .ref e7, .ref e8, .ref e9, .int (nI x.2.2.1), .int (nI pre.length), .ref f1, .ref f2])), (b0, .inl (cI, 300, .inl z)), (e3, .inl (cI, 300, .inl (mix n (cFi X) fi0))), (e4, .inl (cI, 300, .inl (mix n (cNx X) nx0))), (e6, .inl (cJ, 300, .inr (.inl (mix n (cHe X) wa0)))), (e7, .inl (cJ, 300, .inr (.inl (mix n (cBy X) gr0)))), (e8, .inl (cI, 300, .inl x.1)), (e9, .inl (cJ, 300, .inr (.inl x.2.1))), (f2, .inl (cZ, 300, .inl (mix n (ind pre) dn0)))] H → va_D A [(m0, .inr (4, [.int (nI n), .int P, .int (nI u), .ref b0, .ref c1, .ref c2, .ref c3, .int kn, .ref e1, .ref e2, .ref e3, .ref e4, .ref e5, .ref e6, .ref e7, .ref e8, .ref e9, .int (nI x.2.2.1), .int (nI pre.length), .ref f1, .ref f2])), (b0, .inl (cI, 300, .inl z)), (e3, .inl (cI, 300, .inl (mix n (cFi X) fi0))), (e4, .inl (cI, 300, .inl (mix n (cNx X) nx0))), (e6, .inl (cJ, 300, .inr (.inl (mix n (cHe X) wa0)))), (e7, .inl (cJ, 300, .inr (.inl (mix n (cBy X) gr0)))), (e8, .inl (cI, 300, .inl x.1)), (e9, .inl (cJ, 300, .inr (.inl x.2.1))), (f2, .inl (cZ, 300, .inl (mix n (ind pre) dn0)))] → va_S A s.heap H locs → lv_has ls 5 [(0, .ref m0), (1, .long x.2.2.2), (3, .int (selD (cFi X) (cBy X) (cHe X) (ind pre) n))] → W p l ev ({ frames := 1, cells := 0, slots := 0, locals := 26 } : Room) s m args below meth c H locs 0 0 Q (F0 m 121 ls [])) : ∀ (n_ : Nat) (k : Nat), k + n_ = n → ∀ (H : Heap) (locs : List Loc) (ls : Array Slot), va_P (dC, dI) vwCl [(m0, .inr (4, [.int (nI n), .int P, .int (nI u), .ref b0, .ref c1, .ref c2, .ref c3, .int kn, .ref e1, .ref e2, .ref e3, .ref e4, .ref e5, .ref e6, .ref e7, .ref e8, .ref e9, .int (nI x.2.2.1), .int (nI pre.length), .ref f1, .ref f2])), (b0, .inl (cI, 300, .inl z)), (e3, .inl (cI, 300, .inl (mix n (cFi X) fi0))), (e4, .inl (cI, 300, .inl (mix n (cNx X) nx0))), (e6, .inl (cJ, 300, .inr (.inl (mix n (cHe X) wa0)))), (e7, .inl (cJ, 300, .inr (.inl (mix n (cBy X) gr0)))), (e8, .inl (cI, 300, .inl x.1)), (e9, .inl (cJ, 300, .inr (.inl x.2.1))), (f2, .inl (cZ, 300, .inl (mix n (ind pre) dn0)))] H → va_D A [(m0, .inr (4, [.int (nI n), .int P, .int (nI u), .ref b0, .ref c1, .ref c2, .ref c3, .int kn, .ref e1, .ref e2, .ref e3, .ref e4, .ref e5, .ref e6, .ref e7, .ref e8, .ref e9, .int (nI x.2.2.1), .int (nI pre.length), .ref f1, .ref f2])), (b0, .inl (cI, 300, .inl z)), (e3, .inl (cI, 300, .inl (mix n (cFi X) fi0))), (e4, .inl (cI, 300, .inl (mix n (cNx X) nx0))), (e6, .inl (cJ, 300, .inr (.inl (mix n (cHe X) wa0)))), (e7, .inl (cJ, 300, .inr (.inl (mix n (cBy X) gr0)))), (e8, .inl (cI, 300, .inl x.1)), (e9, .inl (cJ, 300, .inr (.inl x.2.1))), (f2, .inl (cZ, 300, .inl (mix n (ind pre) dn0)))] → va_S A s.heap H locs → lv_has ls 5 [(0, .ref m0), (1, .long x.2.2.2), (3, .int (selD (cFi X) (cBy X) (cHe X) (ind pre) k)), (4, .int (nI k))] → W p l ev ({ frames := 1, cells := 0, slots := 0, locals := 26 } : Room) s m args below meth c H locs 0 0 Q (F0 m 40 ls []) := by
  have hin4 : ∀ w ∈ wsX40, w ∈ wsX4_inOrder := by decide +kernel
  intro n_
  induction n_ with
  | zero =>
    intro k hk H locs ls hP hD hS hl
    have hk : k = n := by omega
    subst hk
    refine lv_iload hx hb dX4_inOrder_40 (lv_at hl 3 rfl) ?_
    refine lv_aload_n hx hb dX4_inOrder_42 rfl (lv_at hl 0 rfl) ?_
    refine va_get (D := (dC, dI)) (ci := 4) (v := .int (nI k)) (C := RX4) (T := TX4) (N := 21) hx hb hts hin4 hown hK hP 0 rfl rfl 0 (by decide) (hts (.fieldLink RX4 7 "CallClustersModel" "many" "I") (by decide +kernel)) (fun _ h9 => h9) rfl dX4_inOrder_43 ?_
    refine lv_icmp_ge (tgt := 121) hx hb dX4_inOrder_46 (by decide) (fun c_1 => ?_) (fun c_1 => ?_)
    · -- pc 46, side 0
      exact kx   H locs ls hP hD hS (lv_sub hl [0, 1, 2] rfl)
    · -- pc 46, side 1
      exact absurd (nI_le (Nat.le_refl _) (by omega)) c_1
  | succ n_ ih =>
    intro k hk H locs ls hP hD hS hl
    have hk3 : k < 300 := by omega
    have hkn : k < n := by omega
    have hcn : ∀ {j : Nat}, j < 300 → ¬ cFi X j = -1 → ∃ h, h < 300 ∧ h < n ∧ cFi X j = nI h ∧ cFi X h = nI h := fun {j} h1 h2 => by obtain ⟨h, q1, q2, q3, -⟩ := hI.2.1 j h1 (fun e => h2 ((hI.1 j h1).mpr e)); exact ⟨h, q1, hz h q1 (fun e => by have := (hI.1 h q1).mpr e; rw [q3] at this; exact nI_m1 (by omega) this), q2, q3⟩
    refine lv_iload hx hb dX4_inOrder_40 (lv_at hl 3 rfl) ?_
    refine lv_aload_n hx hb dX4_inOrder_42 rfl (lv_at hl 0 rfl) ?_
    refine va_get (D := (dC, dI)) (ci := 4) (v := .int (nI n)) (C := RX4) (T := TX4) (N := 21) hx hb hts hin4 hown hK hP 0 rfl rfl 0 (by decide) (hts (.fieldLink RX4 7 "CallClustersModel" "many" "I") (by decide +kernel)) (fun _ h9 => h9) rfl dX4_inOrder_43 ?_
    refine lv_icmp_ge (tgt := 121) hx hb dX4_inOrder_46 (by decide) (fun c_2 => ?_) (fun c_2 => ?_)
    · -- pc 46, side 0
      exact absurd c_2 (nI_ge (show k < n by omega) (by omega))
    · -- pc 46, side 1
      refine lv_aload_n hx hb dX4_inOrder_49 rfl (lv_at hl 0 rfl) ?_
      refine va_get (D := (dC, dI)) (ci := 4) (v := .ref e3) (C := RX4) (T := TX4) (N := 21) hx hb hts hin4 hown hK hP 0 rfl rfl 10 (by decide) (hts (.fieldLink RX4 36 "CallClustersModel" "of" "[I") (by decide +kernel)) (fun _ h9 => h9) rfl dX4_inOrder_50 ?_
      refine lv_iload hx hb dX4_inOrder_53 (lv_at hl 3 rfl) ?_
      refine va_iald hx hb hK hP 2 0 rfl rfl (inn hk3 (by omega)) dX4_inOrder_55 ?_
      refine tp_i (y := cFi X k) (by rw [ix_n (by omega)]; exact mix_lt _ _ hkn) ?_
      refine lv_if_lt (tgt := 115) hx hb dX4_inOrder_56 (by decide) (fun c_3 => ?_) (fun c_3 => ?_)
      · -- pc 56, side 0
        refine lv_iinc (v := nI (k + 1)) (lv' := [(4, .int (nI (k + 1))), (0, .ref m0), (1, .long x.2.2.2), (3, .int (selD (cFi X) (cBy X) (cHe X) (ind pre) k))]) hx hb dX4_inOrder_115 hl (k := 3) rfl (by exact nI_1 k) (by decide) rfl (fun ls hl => ?_)
        refine lv_goto (tgt := 40) hx hb dX4_inOrder_118 (by decide) ?_
        have hq9 : selD (cFi X) (cBy X) (cHe X) (ind pre) k = selD (cFi X) (cBy X) (cHe X) (ind pre) (k + 1) := by (conv => rhs; unfold selD); simp only [c_3, if_true, if_false]
        rw [hq9] at hl
        exact ih (k + 1) (by omega) H locs ls hP hD hS (lv_sub hl [1, 2, 3, 0] rfl)
      · -- pc 56, side 1
        obtain ⟨h9, k1, k2, k3, k4⟩ := hcn hk3 (fun e => c_3 (by rw [e]; exact m1_lt))
        refine lv_aload_n hx hb dX4_inOrder_59 rfl (lv_at hl 0 rfl) ?_
        refine va_get (D := (dC, dI)) (ci := 4) (v := .ref f2) (C := RX4) (T := TX4) (N := 21) hx hb hts hin4 hown hK hP 0 rfl rfl 20 (by decide) (hts (.fieldLink RX4 60 "CallClustersModel" "isDone" "[Z") (by decide +kernel)) (fun _ h9 => h9) rfl dX4_inOrder_60 ?_
        refine lv_aload_n hx hb dX4_inOrder_63 rfl (lv_at hl 0 rfl) ?_
        refine va_get (D := (dC, dI)) (ci := 4) (v := .ref e3) (C := RX4) (T := TX4) (N := 21) hx hb hts hin4 hown hK hP 0 rfl rfl 10 (by decide) (hts (.fieldLink RX4 36 "CallClustersModel" "of" "[I") (by decide +kernel)) (fun _ h9 => h9) rfl dX4_inOrder_64 ?_
        refine lv_iload hx hb dX4_inOrder_67 (lv_at hl 3 rfl) ?_
        refine va_iald hx hb hK hP 2 0 rfl rfl (inn hk3 (by omega)) dX4_inOrder_69 ?_
        refine tp_i (y := cFi X k) (by rw [ix_n (by omega)]; exact mix_lt _ _ hkn) ?_
        refine va_zald hx hb hK hP 8 2 rfl rfl (by rw [k3]; exact inn k1 (by omega)) dX4_inOrder_70 ?_
        refine tp_i (y := ind pre ((cFi X k).toNatClampNeg)) (by rw [k3, ix_n (by omega)]; exact mix_lt _ _ k2) ?_
        refine lv_if_ne (tgt := 115) hx hb dX4_inOrder_71 (by decide) (fun c_4 => ?_) (fun c_4 => ?_)
        · -- pc 71, side 0
          refine lv_iinc (v := nI (k + 1)) (lv' := [(4, .int (nI (k + 1))), (0, .ref m0), (1, .long x.2.2.2), (3, .int (selD (cFi X) (cBy X) (cHe X) (ind pre) k))]) hx hb dX4_inOrder_115 hl (k := 3) rfl (by exact nI_1 k) (by decide) rfl (fun ls hl => ?_)
          refine lv_goto (tgt := 40) hx hb dX4_inOrder_118 (by decide) ?_
          have hq9 : selD (cFi X) (cBy X) (cHe X) (ind pre) k = selD (cFi X) (cBy X) (cHe X) (ind pre) (k + 1) := by (conv => rhs; unfold selD); simp only [c_3, c_4, if_true, if_false]
          rw [hq9] at hl
          exact ih (k + 1) (by omega) H locs ls hP hD hS (lv_sub hl [1, 2, 3, 0] rfl)
        · -- pc 71, side 1
          refine lv_aload_n hx hb dX4_inOrder_74 rfl (lv_at hl 0 rfl) ?_
          refine va_get (D := (dC, dI)) (ci := 4) (v := .ref e3) (C := RX4) (T := TX4) (N := 21) hx hb hts hin4 hown hK hP 0 rfl rfl 10 (by decide) (hts (.fieldLink RX4 36 "CallClustersModel" "of" "[I") (by decide +kernel)) (fun _ h9 => h9) rfl dX4_inOrder_75 ?_
          refine lv_iload hx hb dX4_inOrder_78 (lv_at hl 3 rfl) ?_
          refine va_iald hx hb hK hP 2 0 rfl rfl (inn hk3 (by omega)) dX4_inOrder_80 ?_
          refine tp_i (y := cFi X k) (by rw [ix_n (by omega)]; exact mix_lt _ _ hkn) ?_
          refine lv_iload_n hx hb dX4_inOrder_81 rfl (lv_at hl 2 rfl) ?_
          refine lv_icmp_ne (tgt := 88) hx hb dX4_inOrder_82 (by decide) (fun c_5 => ?_) (fun c_5 => ?_)
          · -- pc 82, side 0
            refine lv_iload_n hx hb dX4_inOrder_88 rfl (lv_at hl 2 rfl) ?_
            refine lv_if_lt (tgt := 107) hx hb dX4_inOrder_89 (by decide) (fun c_6 => ?_) (fun c_6 => ?_)
            · -- pc 89, side 0
              refine lv_aload_n hx hb dX4_inOrder_107 rfl (lv_at hl 0 rfl) ?_
              refine va_get (D := (dC, dI)) (ci := 4) (v := .ref e3) (C := RX4) (T := TX4) (N := 21) hx hb hts hin4 hown hK hP 0 rfl rfl 10 (by decide) (hts (.fieldLink RX4 36 "CallClustersModel" "of" "[I") (by decide +kernel)) (fun _ h9 => h9) rfl dX4_inOrder_108 ?_
              refine lv_iload hx hb dX4_inOrder_111 (lv_at hl 3 rfl) ?_
              refine va_iald hx hb hK hP 2 0 rfl rfl (inn hk3 (by omega)) dX4_inOrder_113 ?_
              refine tp_i (y := cFi X k) (by rw [ix_n (by omega)]; exact mix_lt _ _ hkn) ?_
              refine lv_istore_n (lv' := [(3, .int (cFi X k)), (0, .ref m0), (1, .long x.2.2.2), (4, .int (nI k))]) hx hb dX4_inOrder_114 rfl hl (by decide) rfl (fun ls hl => ?_)
              refine lv_iinc (v := nI (k + 1)) (lv' := [(4, .int (nI (k + 1))), (3, .int (cFi X k)), (0, .ref m0), (1, .long x.2.2.2)]) hx hb dX4_inOrder_115 hl (k := 3) rfl (by exact nI_1 k) (by decide) rfl (fun ls hl => ?_)
              refine lv_goto (tgt := 40) hx hb dX4_inOrder_118 (by decide) ?_
              have hq9 : cFi X k = selD (cFi X) (cBy X) (cHe X) (ind pre) (k + 1) := by (conv => rhs; unfold selD); simp only [c_3, c_4, c_5, c_6, if_true, if_false]
              rw [hq9] at hl
              exact ih (k + 1) (by omega) H locs ls hP hD hS (lv_sub hl [2, 3, 1, 0] rfl)
            · -- pc 89, side 1
              obtain ⟨g9, g1, g2, g3, g4⟩ : ∃ g, g < 300 ∧ g < n ∧ selD (cFi X) (cBy X) (cHe X) (ind pre) k = nI g ∧ cFi X g = nI g := by
                rcases selD_in (cFi X) (cBy X) (cHe X) (ind pre) k with e | ⟨j, j1, j2, j3⟩
                · rw [e] at c_6; exact absurd m1_lt c_6
                · obtain ⟨g, q1, q2, q3, q4⟩ := hcn (j := j) (by omega) (fun e => j3 (by rw [e]; exact m1_lt)); exact ⟨g, q1, q2, by rw [j2, q3], q4⟩
              refine lv_aload_n hx hb dX4_inOrder_92 rfl (lv_at hl 0 rfl) ?_
              refine lv_aload_n hx hb dX4_inOrder_93 rfl (lv_at hl 0 rfl) ?_
              refine va_get (D := (dC, dI)) (ci := 4) (v := .ref e3) (C := RX4) (T := TX4) (N := 21) hx hb hts hin4 hown hK hP 0 rfl rfl 10 (by decide) (hts (.fieldLink RX4 36 "CallClustersModel" "of" "[I") (by decide +kernel)) (fun _ h9 => h9) rfl dX4_inOrder_94 ?_
              refine lv_iload hx hb dX4_inOrder_97 (lv_at hl 3 rfl) ?_
              refine va_iald hx hb hK hP 2 0 rfl rfl (inn hk3 (by omega)) dX4_inOrder_99 ?_
              refine tp_i (y := cFi X k) (by rw [ix_n (by omega)]; exact mix_lt _ _ hkn) ?_
              refine lv_iload_n hx hb dX4_inOrder_100 rfl (lv_at hl 2 rfl) ?_
              have hPc := hP.sub (ws' := [(m0, .inr (4, [.int (nI n), .int P, .int (nI u), .ref b0, .ref c1, .ref c2, .ref c3, .int kn, .ref e1, .ref e2, .ref e3, .ref e4, .ref e5, .ref e6, .ref e7, .ref e8, .ref e9, .int (nI x.2.2.1), .int (nI pre.length), .ref f1, .ref f2])), (e6, .inl (cJ, 300, .inr (.inl (mix n (cHe X) wa0)))), (e7, .inl (cJ, 300, .inr (.inl (mix n (cBy X) gr0))))]) [0, 4, 5] rfl
              have hDc := hD.sub (ws' := [(m0, .inr (4, [.int (nI n), .int P, .int (nI u), .ref b0, .ref c1, .ref c2, .ref c3, .int kn, .ref e1, .ref e2, .ref e3, .ref e4, .ref e5, .ref e6, .ref e7, .ref e8, .ref e9, .int (nI x.2.2.1), .int (nI pre.length), .ref f1, .ref f2])), (e6, .inl (cJ, 300, .inr (.inl (mix n (cHe X) wa0)))), (e7, .inl (cJ, 300, .inr (.inl (mix n (cBy X) gr0))))]) [0, 4, 5] (by decide) rfl
              have hFc := va_free (wc := [(m0, .inr (4, [.int (nI n), .int P, .int (nI u), .ref b0, .ref c1, .ref c2, .ref c3, .int kn, .ref e1, .ref e2, .ref e3, .ref e4, .ref e5, .ref e6, .ref e7, .ref e8, .ref e9, .int (nI x.2.2.1), .int (nI pre.length), .ref f1, .ref f2])), (e6, .inl (cJ, 300, .inr (.inl (mix n (cHe X) wa0)))), (e7, .inl (cJ, 300, .inr (.inl (mix n (cBy X) gr0))))]) hD hS hA [0, 4, 5] rfl
              refine va_calli (va_runV (As := [.int (cFi X k), .int (selD (cFi X) (cBy X) (cHe X) (ind pre) k)]) (rest := []) ⟨hx, hb, hml, hown, hts⟩ (ct_X4_isDenser l dC dI cI cJ cZ H.size m0 e6 e7 b0 c1 c2 c3 e1 e2 e3 e4 e5 e8 e9 f1 f2 n P u kn (nI x.2.2.1) (nI pre.length) (mix n (cHe X) wa0) (mix n (cBy X) gr0) (cFi X k) (selD (cFi X) (cBy X) (cHe X) (ind pre) k) (by rw [k3]; exact inn k1 (by omega)) (by rw [g3]; exact inn g1 (by omega)) (by rw [k3, ix_n (by omega), mix_lt _ _ k2]; exact hby h9 k1 k4) (by rw [g3, ix_n (by omega), mix_lt _ _ g2]; exact hby g9 g1 g4)) (cwV 2 hts gX4_inOrder_X4_isDenser rfl rfl rfl (by decide +kernel) ⟨Nat.le_of_ble_eq_true rfl, Nat.le_of_ble_eq_true rfl⟩) (pre_V hK hPc hDc (ci := 4) rfl rfl) rfl rfl hl.1 rfl (lv_room (Nat.le_of_ble_eq_true rfl)) dX4_inOrder_101 ⟨Nat.zero_le _, Nat.zero_le _⟩) hS (fun q _ h => hFc q h) hFc (fun r_7 uu t H1 locs ht hvm hw hB hz1 hk1 hS => ?_)
              obtain ⟨hP1, hK1, hD1⟩ := hB
              rw [ht] at hP1
              try dsimp only at hw
              have hP1 : va_P (dC, dI) vwCl [(m0, .inr (4, [.int (nI n), .int P, .int (nI u), .ref b0, .ref c1, .ref c2, .ref c3, .int kn, .ref e1, .ref e2, .ref e3, .ref e4, .ref e5, .ref e6, .ref e7, .ref e8, .ref e9, .int (nI x.2.2.1), .int (nI pre.length), .ref f1, .ref f2])), (e6, .inl (cJ, 300, .inr (.inl (mix n (cHe X) wa0)))), (e7, .inl (cJ, 300, .inr (.inl (mix n (cBy X) gr0))))] H1 := hP1
              obtain ⟨hP, hD⟩ := va_join (wr := [(b0, .inl (cI, 300, .inl z)), (e3, .inl (cI, 300, .inl (mix n (cFi X) fi0))), (e4, .inl (cI, 300, .inl (mix n (cNx X) nx0))), (e8, .inl (cI, 300, .inl x.1)), (e9, .inl (cJ, 300, .inr (.inl x.2.1))), (f2, .inl (cZ, 300, .inl (mix n (ind pre) dn0)))]) (w1 := [(m0, .inr (4, [.int (nI n), .int P, .int (nI u), .ref b0, .ref c1, .ref c2, .ref c3, .int kn, .ref e1, .ref e2, .ref e3, .ref e4, .ref e5, .ref e6, .ref e7, .ref e8, .ref e9, .int (nI x.2.2.1), .int (nI pre.length), .ref f1, .ref f2])), (e6, .inl (cJ, 300, .inr (.inl (mix n (cHe X) wa0)))), (e7, .inl (cJ, 300, .inr (.inl (mix n (cBy X) gr0))))]) hP hD [0, 4, 5] [1, 2, 3, 6, 7, 8] rfl rfl (by decide) (by decide) hk1 hFc hP1 hD1
              have hP := hP.sub (ws' := [(m0, .inr (4, [.int (nI n), .int P, .int (nI u), .ref b0, .ref c1, .ref c2, .ref c3, .int kn, .ref e1, .ref e2, .ref e3, .ref e4, .ref e5, .ref e6, .ref e7, .ref e8, .ref e9, .int (nI x.2.2.1), .int (nI pre.length), .ref f1, .ref f2])), (b0, .inl (cI, 300, .inl z)), (e3, .inl (cI, 300, .inl (mix n (cFi X) fi0))), (e4, .inl (cI, 300, .inl (mix n (cNx X) nx0))), (e6, .inl (cJ, 300, .inr (.inl (mix n (cHe X) wa0)))), (e7, .inl (cJ, 300, .inr (.inl (mix n (cBy X) gr0)))), (e8, .inl (cI, 300, .inl x.1)), (e9, .inl (cJ, 300, .inr (.inl x.2.1))), (f2, .inl (cZ, 300, .inl (mix n (ind pre) dn0)))]) [6, 0, 1, 2, 7, 8, 3, 4, 5] rfl
              have hD := hD.sub (ws' := [(m0, .inr (4, [.int (nI n), .int P, .int (nI u), .ref b0, .ref c1, .ref c2, .ref c3, .int kn, .ref e1, .ref e2, .ref e3, .ref e4, .ref e5, .ref e6, .ref e7, .ref e8, .ref e9, .int (nI x.2.2.1), .int (nI pre.length), .ref f1, .ref f2])), (b0, .inl (cI, 300, .inl z)), (e3, .inl (cI, 300, .inl (mix n (cFi X) fi0))), (e4, .inl (cI, 300, .inl (mix n (cNx X) nx0))), (e6, .inl (cJ, 300, .inr (.inl (mix n (cHe X) wa0)))), (e7, .inl (cJ, 300, .inr (.inl (mix n (cBy X) gr0)))), (e8, .inl (cI, 300, .inl x.1)), (e9, .inl (cJ, 300, .inr (.inl x.2.1))), (f2, .inl (cZ, 300, .inl (mix n (ind pre) dn0)))]) [6, 0, 1, 2, 7, 8, 3, 4, 5] (by decide) rfl
              generalize H1 = H at hP hS ⊢
              rw [k3, g3, ix_n (by omega), ix_n (by omega), mix_lt _ _ k2, mix_lt _ _ k2, mix_lt _ _ g2, mix_lt _ _ g2] at hw
              have hw : r_7 = densI (cBy X ((cFi X k).toNatClampNeg)) (cBy X ((selD (cFi X) (cBy X) (cHe X) (ind pre) k).toNatClampNeg)) (cHe X ((cFi X k).toNatClampNeg)) (cHe X ((selD (cFi X) (cBy X) (cHe X) (ind pre) k).toNatClampNeg)) := by rw [hw, k3, g3, ix_n (by omega), ix_n (by omega)]
              refine lv_if_eq (tgt := 115) hx hb dX4_inOrder_104 (by decide) (fun c_8 => ?_) (fun c_8 => ?_)
              · -- pc 104, side 0
                rw [hw] at c_8
                refine lv_iinc (v := nI (k + 1)) (lv' := [(4, .int (nI (k + 1))), (0, .ref m0), (1, .long x.2.2.2), (3, .int (selD (cFi X) (cBy X) (cHe X) (ind pre) k))]) hx hb dX4_inOrder_115 hl (k := 3) rfl (by exact nI_1 k) (by decide) rfl (fun ls hl => ?_)
                refine lv_goto (tgt := 40) hx hb dX4_inOrder_118 (by decide) ?_
                have hq9 : selD (cFi X) (cBy X) (cHe X) (ind pre) k = selD (cFi X) (cBy X) (cHe X) (ind pre) (k + 1) := by (conv => rhs; unfold selD); simp only [c_3, c_4, c_5, c_6, c_8, if_true, if_false]
                rw [hq9] at hl
                exact ih (k + 1) (by omega) H locs ls hP hD hS (lv_sub hl [1, 2, 3, 0] rfl)
              · -- pc 104, side 1
                rw [hw] at c_8
                refine lv_aload_n hx hb dX4_inOrder_107 rfl (lv_at hl 0 rfl) ?_
                refine va_get (D := (dC, dI)) (ci := 4) (v := .ref e3) (C := RX4) (T := TX4) (N := 21) hx hb hts hin4 hown hK hP 0 rfl rfl 10 (by decide) (hts (.fieldLink RX4 36 "CallClustersModel" "of" "[I") (by decide +kernel)) (fun _ h9 => h9) rfl dX4_inOrder_108 ?_
                refine lv_iload hx hb dX4_inOrder_111 (lv_at hl 3 rfl) ?_
                refine va_iald hx hb hK hP 2 0 rfl rfl (inn hk3 (by omega)) dX4_inOrder_113 ?_
                refine tp_i (y := cFi X k) (by rw [ix_n (by omega)]; exact mix_lt _ _ hkn) ?_
                refine lv_istore_n (lv' := [(3, .int (cFi X k)), (0, .ref m0), (1, .long x.2.2.2), (4, .int (nI k))]) hx hb dX4_inOrder_114 rfl hl (by decide) rfl (fun ls hl => ?_)
                refine lv_iinc (v := nI (k + 1)) (lv' := [(4, .int (nI (k + 1))), (3, .int (cFi X k)), (0, .ref m0), (1, .long x.2.2.2)]) hx hb dX4_inOrder_115 hl (k := 3) rfl (by exact nI_1 k) (by decide) rfl (fun ls hl => ?_)
                refine lv_goto (tgt := 40) hx hb dX4_inOrder_118 (by decide) ?_
                have hq9 : cFi X k = selD (cFi X) (cBy X) (cHe X) (ind pre) (k + 1) := by (conv => rhs; unfold selD); simp only [c_3, c_4, c_5, c_6, c_8, if_true, if_false]
                rw [hq9] at hl
                exact ih (k + 1) (by omega) H locs ls hP hD hS (lv_sub hl [2, 3, 1, 0] rfl)
          · -- pc 82, side 1
            refine lv_goto (tgt := 115) hx hb dX4_inOrder_85 (by decide) ?_
            refine lv_iinc (v := nI (k + 1)) (lv' := [(4, .int (nI (k + 1))), (0, .ref m0), (1, .long x.2.2.2), (3, .int (selD (cFi X) (cBy X) (cHe X) (ind pre) k))]) hx hb dX4_inOrder_115 hl (k := 3) rfl (by exact nI_1 k) (by decide) rfl (fun ls hl => ?_)
            refine lv_goto (tgt := 40) hx hb dX4_inOrder_118 (by decide) ?_
            have hq9 : selD (cFi X) (cBy X) (cHe X) (ind pre) k = selD (cFi X) (cBy X) (cHe X) (ind pre) (k + 1) := by (conv => rhs; unfold selD); first | (simp only [c_3, c_4, c_5, if_true, if_false]; done) | rw [if_neg c_3, if_pos c_4, if_pos c_5]
            rw [hq9] at hl
            exact ih (k + 1) (by omega) H locs ls hP hD hS (lv_sub hl [1, 2, 3, 0] rfl)
set_option maxHeartbeats 4000000 in
set_option maxRecDepth 100000 in
theorem lpX4_inOrderC {p : Program} {l : Launch} {ev : Env} {s : State} {m : MethodId} {args : Array Value} {below : List Frame} {meth : Method} {c : Code} {Q : State → Prop} {A : Nat → Prop} {dC : Nat → ClassId} {dI : Nat → Nat → Nat} {cI cJ cZ : ClassId} {R : Room} {cells slots : Nat} (hx : p.tables.exec = Jvm.exec) (hb : c.code = cX4_inOrder) (hml : c.maxLocals = 5) (hts : ∀ w ∈ wsX4_inOrder, w.before args s = true) (hown : s.vm.findClass RX4 = some m.cls) (hK : va_K (dC, dI) vwCl [(cI, .int), (cJ, .long), (cZ, .boolean)] s) (hA : ∀ q : Nat, s.heap.size ≤ q → A q) {m0 : Nat} {b0 : Nat} {e3 : Nat} {e4 : Nat} {e6 : Nat} {e7 : Nat} {e8 : Nat} {e9 : Nat} {f2 : Nat} {c1 c2 c3 e1 e2 e5 f1 : Nat} {n : Nat} {P : Int32} {u : Nat} {kn : Int32} {z fi0 nx0 : Nat → Int32} {wa0 gr0 : Nat → Int64} {dn0 : Nat → Int32} {X : CS} {dn : Nat → Int32} {gq : Int32} {G : (Nat → Int32) × (Nat → Int64) × Nat × Int64} (hn : n ≤ 300)  (kx : ∀ (H : Heap) (locs : List Loc) (ls : Array Slot), va_P (dC, dI) vwCl [(m0, .inr (4, [.int (nI n), .int P, .int (nI u), .ref b0, .ref c1, .ref c2, .ref c3, .int kn, .ref e1, .ref e2, .ref e3, .ref e4, .ref e5, .ref e6, .ref e7, .ref e8, .ref e9, .int (nI G.2.2.1), .int gq, .ref f1, .ref f2])), (b0, .inl (cI, 300, .inl z)), (e3, .inl (cI, 300, .inl (mix n (cFi X) fi0))), (e4, .inl (cI, 300, .inl (mix n (cNx X) nx0))), (e6, .inl (cJ, 300, .inr (.inl (mix n (cHe X) wa0)))), (e7, .inl (cJ, 300, .inr (.inl (mix n (cBy X) gr0)))), (e8, .inl (cI, 300, .inl G.1)), (e9, .inl (cJ, 300, .inr (.inl G.2.1))), (f2, .inl (cZ, 300, .inl dn))] H → va_D A [(m0, .inr (4, [.int (nI n), .int P, .int (nI u), .ref b0, .ref c1, .ref c2, .ref c3, .int kn, .ref e1, .ref e2, .ref e3, .ref e4, .ref e5, .ref e6, .ref e7, .ref e8, .ref e9, .int (nI G.2.2.1), .int gq, .ref f1, .ref f2])), (b0, .inl (cI, 300, .inl z)), (e3, .inl (cI, 300, .inl (mix n (cFi X) fi0))), (e4, .inl (cI, 300, .inl (mix n (cNx X) nx0))), (e6, .inl (cJ, 300, .inr (.inl (mix n (cHe X) wa0)))), (e7, .inl (cJ, 300, .inr (.inl (mix n (cBy X) gr0)))), (e8, .inl (cI, 300, .inl G.1)), (e9, .inl (cJ, 300, .inr (.inl G.2.1))), (f2, .inl (cZ, 300, .inl dn))] → va_S A s.heap H locs → lv_has ls 5 [(0, .ref m0), (1, .long G.2.2.2)] → W p l ev R s m args below meth c H locs cells slots Q (F0 m 203 ls [])) : ∀ (n_ : Nat) (q : List Nat) (f : Int32) (x : (Nat → Int32) × (Nat → Int64) × Nat × Int64), q.length = n_ → Chain (cNx X) q f → (∀ y, y ∈ q → y < n) → x.2.2.1 + q.length ≤ 300 → q.foldl (rAdd z) x = G → ∀ (H : Heap) (locs : List Loc) (ls : Array Slot), va_P (dC, dI) vwCl [(m0, .inr (4, [.int (nI n), .int P, .int (nI u), .ref b0, .ref c1, .ref c2, .ref c3, .int kn, .ref e1, .ref e2, .ref e3, .ref e4, .ref e5, .ref e6, .ref e7, .ref e8, .ref e9, .int (nI x.2.2.1), .int gq, .ref f1, .ref f2])), (b0, .inl (cI, 300, .inl z)), (e3, .inl (cI, 300, .inl (mix n (cFi X) fi0))), (e4, .inl (cI, 300, .inl (mix n (cNx X) nx0))), (e6, .inl (cJ, 300, .inr (.inl (mix n (cHe X) wa0)))), (e7, .inl (cJ, 300, .inr (.inl (mix n (cBy X) gr0)))), (e8, .inl (cI, 300, .inl x.1)), (e9, .inl (cJ, 300, .inr (.inl x.2.1))), (f2, .inl (cZ, 300, .inl dn))] H → va_D A [(m0, .inr (4, [.int (nI n), .int P, .int (nI u), .ref b0, .ref c1, .ref c2, .ref c3, .int kn, .ref e1, .ref e2, .ref e3, .ref e4, .ref e5, .ref e6, .ref e7, .ref e8, .ref e9, .int (nI x.2.2.1), .int gq, .ref f1, .ref f2])), (b0, .inl (cI, 300, .inl z)), (e3, .inl (cI, 300, .inl (mix n (cFi X) fi0))), (e4, .inl (cI, 300, .inl (mix n (cNx X) nx0))), (e6, .inl (cJ, 300, .inr (.inl (mix n (cHe X) wa0)))), (e7, .inl (cJ, 300, .inr (.inl (mix n (cBy X) gr0)))), (e8, .inl (cI, 300, .inl x.1)), (e9, .inl (cJ, 300, .inr (.inl x.2.1))), (f2, .inl (cZ, 300, .inl dn))] → va_S A s.heap H locs → lv_has ls 5 [(0, .ref m0), (1, .long x.2.2.2), (4, .int f)] → W p l ev R s m args below meth c H locs cells slots Q (F0 m 146 ls []) := by
  have hin4 : ∀ w ∈ wsX40, w ∈ wsX4_inOrder := by decide +kernel
  intro n_
  induction n_ with
  | zero =>
    intro q f x hn_ hc hm hu hG H locs ls hP hD hS hl
    have hq : q = [] := List.length_eq_zero_iff.mp hn_
    subst hq
    have hf : f = -1 := hc
    subst hf
    have hG : x = G := hG
    subst hG
    refine lv_iload hx hb dX4_inOrder_146 (lv_at hl 2 rfl) ?_
    refine lv_if_lt (tgt := 203) hx hb dX4_inOrder_148 (by decide) (fun c_1 => ?_) (fun c_1 => ?_)
    · -- pc 148, side 0
      exact kx   H locs ls hP hD hS (lv_sub hl [0, 1] rfl)
    · -- pc 148, side 1
      exact absurd m1_lt c_1
  | succ n_ ih =>
    intro q f x hn_ hc hm hu hG H locs ls hP hD hS hl
    obtain ⟨y, q, rfl⟩ : ∃ y q', q = y :: q' := by cases q with | nil => cases hn_ | cons y q => exact ⟨y, q, rfl⟩
    obtain ⟨hf, hc⟩ := hc
    subst hf
    have hx9 : y < n := hm y List.mem_cons_self
    rw [List.length_cons] at hn_ hu
    refine lv_iload hx hb dX4_inOrder_146 (lv_at hl 2 rfl) ?_
    refine lv_if_lt (tgt := 203) hx hb dX4_inOrder_148 (by decide) (fun c_2 => ?_) (fun c_2 => ?_)
    · -- pc 148, side 0
      exact absurd c_2 (nI_n0 (by omega))
    · -- pc 148, side 1
      refine lv_aload_n hx hb dX4_inOrder_151 rfl (lv_at hl 0 rfl) ?_
      refine va_get (D := (dC, dI)) (ci := 4) (v := .ref e8) (C := RX4) (T := TX4) (N := 21) hx hb hts hin4 hown hK hP 0 rfl rfl 15 (by decide) (hts (.fieldLink RX4 51 "CallClustersModel" "order" "[I") (by decide +kernel)) (fun _ h9 => h9) rfl dX4_inOrder_152 ?_
      refine lv_aload_n hx hb dX4_inOrder_155 rfl (lv_at hl 0 rfl) ?_
      refine va_get (D := (dC, dI)) (ci := 4) (v := .int (nI x.2.2.1)) (C := RX4) (T := TX4) (N := 21) hx hb hts hin4 hown hK hP 0 rfl rfl 17 (by decide) (hts (.fieldLink RX4 99 "CallClustersModel" "inRow" "I") (by decide +kernel)) (fun _ h9 => h9) rfl dX4_inOrder_156 ?_
      refine lv_iload hx hb dX4_inOrder_159 (lv_at hl 2 rfl) ?_
      refine va_iast hx hb hK hP hD hS 6 0 rfl rfl (inn (show x.2.2.1 < 300 by omega) (by omega)) dX4_inOrder_161 (fun H locs hP hD hS => ?_)
      have hf161 : upd x.1 ((nI x.2.2.1).toNatClampNeg) (nI y) = upd x.1 x.2.2.1 (nI y) := by rw [ix_n (by omega)]
      have hP : va_P (dC, dI) vwCl [(m0, .inr (4, [.int (nI n), .int P, .int (nI u), .ref b0, .ref c1, .ref c2, .ref c3, .int kn, .ref e1, .ref e2, .ref e3, .ref e4, .ref e5, .ref e6, .ref e7, .ref e8, .ref e9, .int (nI x.2.2.1), .int gq, .ref f1, .ref f2])), (b0, .inl (cI, 300, .inl z)), (e3, .inl (cI, 300, .inl (mix n (cFi X) fi0))), (e4, .inl (cI, 300, .inl (mix n (cNx X) nx0))), (e6, .inl (cJ, 300, .inr (.inl (mix n (cHe X) wa0)))), (e7, .inl (cJ, 300, .inr (.inl (mix n (cBy X) gr0)))), (e8, .inl (cI, 300, .inl (upd x.1 ((nI x.2.2.1).toNatClampNeg) (nI y)))), (e9, .inl (cJ, 300, .inr (.inl x.2.1))), (f2, .inl (cZ, 300, .inl dn))] H := hP
      have hD : va_D A [(m0, .inr (4, [.int (nI n), .int P, .int (nI u), .ref b0, .ref c1, .ref c2, .ref c3, .int kn, .ref e1, .ref e2, .ref e3, .ref e4, .ref e5, .ref e6, .ref e7, .ref e8, .ref e9, .int (nI x.2.2.1), .int gq, .ref f1, .ref f2])), (b0, .inl (cI, 300, .inl z)), (e3, .inl (cI, 300, .inl (mix n (cFi X) fi0))), (e4, .inl (cI, 300, .inl (mix n (cNx X) nx0))), (e6, .inl (cJ, 300, .inr (.inl (mix n (cHe X) wa0)))), (e7, .inl (cJ, 300, .inr (.inl (mix n (cBy X) gr0)))), (e8, .inl (cI, 300, .inl (upd x.1 ((nI x.2.2.1).toNatClampNeg) (nI y)))), (e9, .inl (cJ, 300, .inr (.inl x.2.1))), (f2, .inl (cZ, 300, .inl dn))] := hD
      rw [hf161] at hP hD
      refine lv_aload_n hx hb dX4_inOrder_162 rfl (lv_at hl 0 rfl) ?_
      refine lv_dup hx hb dX4_inOrder_163 rfl ?_
      refine va_get (D := (dC, dI)) (ci := 4) (v := .int (nI x.2.2.1)) (C := RX4) (T := TX4) (N := 21) hx hb hts hin4 hown hK hP 0 rfl rfl 17 (by decide) (hts (.fieldLink RX4 99 "CallClustersModel" "inRow" "I") (by decide +kernel)) (fun _ h9 => h9) rfl dX4_inOrder_164 ?_
      refine lv_iconst (v := 1) hx hb dX4_inOrder_167 (by decide) ?_
      refine lv_iadd hx hb dX4_inOrder_168 ?_
      refine tp_i (y := nI (x.2.2.1 + 1)) (nI_1 _) ?_
      refine va_put (D := (dC, dI)) (ci := 4) (v := .int (nI (x.2.2.1 + 1))) (ty := .int) (C := RX4) (T := TX4) (N := 21) hx hb hts hin4 tyX4 tyX4_ok nmX4 hown hK hP hD hS 0 rfl rfl 17 (by decide) (hts (.fieldLink RX4 99 "CallClustersModel" "inRow" "I") (by decide +kernel)) (fun _ h9 => h9) rfl (by decide +kernel) (rfl) (rfl) (Nat.le_of_ble_eq_true rfl) dX4_inOrder_169 (fun H locs hP hD hS => ?_)
      have hP : va_P (dC, dI) vwCl [(m0, .inr (4, [.int (nI n), .int P, .int (nI u), .ref b0, .ref c1, .ref c2, .ref c3, .int kn, .ref e1, .ref e2, .ref e3, .ref e4, .ref e5, .ref e6, .ref e7, .ref e8, .ref e9, .int (nI (x.2.2.1 + 1)), .int gq, .ref f1, .ref f2])), (b0, .inl (cI, 300, .inl z)), (e3, .inl (cI, 300, .inl (mix n (cFi X) fi0))), (e4, .inl (cI, 300, .inl (mix n (cNx X) nx0))), (e6, .inl (cJ, 300, .inr (.inl (mix n (cHe X) wa0)))), (e7, .inl (cJ, 300, .inr (.inl (mix n (cBy X) gr0)))), (e8, .inl (cI, 300, .inl (upd x.1 x.2.2.1 (nI y)))), (e9, .inl (cJ, 300, .inr (.inl x.2.1))), (f2, .inl (cZ, 300, .inl dn))] H := hP
      have hD : va_D A [(m0, .inr (4, [.int (nI n), .int P, .int (nI u), .ref b0, .ref c1, .ref c2, .ref c3, .int kn, .ref e1, .ref e2, .ref e3, .ref e4, .ref e5, .ref e6, .ref e7, .ref e8, .ref e9, .int (nI (x.2.2.1 + 1)), .int gq, .ref f1, .ref f2])), (b0, .inl (cI, 300, .inl z)), (e3, .inl (cI, 300, .inl (mix n (cFi X) fi0))), (e4, .inl (cI, 300, .inl (mix n (cNx X) nx0))), (e6, .inl (cJ, 300, .inr (.inl (mix n (cHe X) wa0)))), (e7, .inl (cJ, 300, .inr (.inl (mix n (cBy X) gr0)))), (e8, .inl (cI, 300, .inl (upd x.1 x.2.2.1 (nI y)))), (e9, .inl (cJ, 300, .inr (.inl x.2.1))), (f2, .inl (cZ, 300, .inl dn))] := hD
      refine lv_aload_n hx hb dX4_inOrder_172 rfl (lv_at hl 0 rfl) ?_
      refine va_get (D := (dC, dI)) (ci := 4) (v := .ref e9) (C := RX4) (T := TX4) (N := 21) hx hb hts hin4 hown hK hP 0 rfl rfl 16 (by decide) (hts (.fieldLink RX4 54 "CallClustersModel" "begins" "[J") (by decide +kernel)) (fun _ h9 => h9) rfl dX4_inOrder_173 ?_
      refine lv_iload hx hb dX4_inOrder_176 (lv_at hl 2 rfl) ?_
      refine lv_lload_n hx hb dX4_inOrder_178 rfl (lv_at hl 1 rfl) ?_
      refine va_last hx hb hK hP hD hS 7 1 rfl rfl (inn (show y < 300 by omega) (by omega)) dX4_inOrder_179 (fun H locs hP hD hS => ?_)
      have hf179 : vp_updL x.2.1 ((nI y).toNatClampNeg) x.2.2.2 = vp_updL x.2.1 y x.2.2.2 := by rw [ix_n (by omega)]
      have hP : va_P (dC, dI) vwCl [(m0, .inr (4, [.int (nI n), .int P, .int (nI u), .ref b0, .ref c1, .ref c2, .ref c3, .int kn, .ref e1, .ref e2, .ref e3, .ref e4, .ref e5, .ref e6, .ref e7, .ref e8, .ref e9, .int (nI (x.2.2.1 + 1)), .int gq, .ref f1, .ref f2])), (b0, .inl (cI, 300, .inl z)), (e3, .inl (cI, 300, .inl (mix n (cFi X) fi0))), (e4, .inl (cI, 300, .inl (mix n (cNx X) nx0))), (e6, .inl (cJ, 300, .inr (.inl (mix n (cHe X) wa0)))), (e7, .inl (cJ, 300, .inr (.inl (mix n (cBy X) gr0)))), (e8, .inl (cI, 300, .inl (upd x.1 x.2.2.1 (nI y)))), (e9, .inl (cJ, 300, .inr (.inl (vp_updL x.2.1 ((nI y).toNatClampNeg) x.2.2.2)))), (f2, .inl (cZ, 300, .inl dn))] H := hP
      have hD : va_D A [(m0, .inr (4, [.int (nI n), .int P, .int (nI u), .ref b0, .ref c1, .ref c2, .ref c3, .int kn, .ref e1, .ref e2, .ref e3, .ref e4, .ref e5, .ref e6, .ref e7, .ref e8, .ref e9, .int (nI (x.2.2.1 + 1)), .int gq, .ref f1, .ref f2])), (b0, .inl (cI, 300, .inl z)), (e3, .inl (cI, 300, .inl (mix n (cFi X) fi0))), (e4, .inl (cI, 300, .inl (mix n (cNx X) nx0))), (e6, .inl (cJ, 300, .inr (.inl (mix n (cHe X) wa0)))), (e7, .inl (cJ, 300, .inr (.inl (mix n (cBy X) gr0)))), (e8, .inl (cI, 300, .inl (upd x.1 x.2.2.1 (nI y)))), (e9, .inl (cJ, 300, .inr (.inl (vp_updL x.2.1 ((nI y).toNatClampNeg) x.2.2.2)))), (f2, .inl (cZ, 300, .inl dn))] := hD
      rw [hf179] at hP hD
      refine lv_lload_n hx hb dX4_inOrder_180 rfl (lv_at hl 1 rfl) ?_
      refine lv_aload_n hx hb dX4_inOrder_181 rfl (lv_at hl 0 rfl) ?_
      refine va_get (D := (dC, dI)) (ci := 4) (v := .ref b0) (C := RX4) (T := TX4) (N := 21) hx hb hts hin4 hown hK hP 0 rfl rfl 3 (by decide) (hts (.fieldLink RX4 16 "CallClustersModel" "bytes" "[I") (by decide +kernel)) (fun _ h9 => h9) rfl dX4_inOrder_182 ?_
      refine lv_iload hx hb dX4_inOrder_185 (lv_at hl 2 rfl) ?_
      refine va_iald hx hb hK hP 1 0 rfl rfl (inn (show y < 300 by omega) (by omega)) dX4_inOrder_187 ?_
      refine tp_i (y := z y) (by rw [ix_n (by omega)]) ?_
      refine lv_i2l (v := (z y).toInt64) hx hb dX4_inOrder_188 rfl ?_
      refine lv_ladd hx hb dX4_inOrder_189 ?_
      refine lv_lstore_n (lv' := [(1, .long (x.2.2.2 + ((z y).toInt64))), (0, .ref m0), (4, .int (nI y))]) hx hb dX4_inOrder_190 rfl hl (by decide) rfl (fun ls hl => ?_)
      refine lv_aload_n hx hb dX4_inOrder_191 rfl (lv_at hl 1 rfl) ?_
      refine va_get (D := (dC, dI)) (ci := 4) (v := .ref e4) (C := RX4) (T := TX4) (N := 21) hx hb hts hin4 hown hK hP 0 rfl rfl 11 (by decide) (hts (.fieldLink RX4 39 "CallClustersModel" "behind" "[I") (by decide +kernel)) (fun _ h9 => h9) rfl dX4_inOrder_192 ?_
      refine lv_iload hx hb dX4_inOrder_195 (lv_at hl 2 rfl) ?_
      refine va_iald hx hb hK hP 3 0 rfl rfl (inn (show y < 300 by omega) (by omega)) dX4_inOrder_197 ?_
      refine tp_i (y := cNx X y) (by rw [ix_n (by omega)]; exact mix_lt _ _ hx9) ?_
      refine lv_istore (lv' := [(4, .int (cNx X y)), (1, .long (x.2.2.2 + ((z y).toInt64))), (0, .ref m0)]) hx hb dX4_inOrder_198 hl (by decide) rfl (fun ls hl => ?_)
      refine lv_goto (tgt := 146) hx hb dX4_inOrder_200 (by decide) ?_
      exact ih q (cNx X y) (rAdd z x y) (by omega) (hc) (fun v hv => hm v (List.mem_cons_of_mem _ hv)) (by show x.2.2.1 + 1 + q.length ≤ 300; omega) (hG) H locs ls hP hD hS (lv_sub hl [2, 1, 0] rfl)
set_option maxHeartbeats 4000000 in
set_option maxRecDepth 100000 in
theorem lpX4_inOrderO {p : Program} {l : Launch} {ev : Env} {s : State} {m : MethodId} {args : Array Value} {below : List Frame} {meth : Method} {c : Code} {Q : State → Prop} {A : Nat → Prop} {dC : Nat → ClassId} {dI : Nat → Nat → Nat} {cI cJ cZ : ClassId} (hx : p.tables.exec = Jvm.exec) (hb : c.code = cX4_inOrder) (hml : c.maxLocals = 5) (hts : ∀ w ∈ wsX4_inOrder, w.before args s = true) (hown : s.vm.findClass RX4 = some m.cls) (hK : va_K (dC, dI) vwCl [(cI, .int), (cJ, .long), (cZ, .boolean)] s) (hA : ∀ q : Nat, s.heap.size ≤ q → A q) {m0 : Nat} {b0 : Nat} {e3 : Nat} {e4 : Nat} {e6 : Nat} {e7 : Nat} {e8 : Nat} {e9 : Nat} {f2 : Nat} {c1 c2 c3 e1 e2 e5 f1 : Nat} {n : Nat} {P : Int32} {u : Nat} {kn : Int32} {z fi0 nx0 : Nat → Int32} {wa0 gr0 : Nat → Int64} {dn0 : Nat → Int32} {X : CS} {R : List Nat} {G : (Nat → Int32) × (Nat → Int64) × Nat × Int64} (hn : n ≤ 300) (hI : CInv z X) (hz : ∀ j, j < 300 → ¬ z j ≤ 0 → j < n) (hby : ∀ h, h < 300 → cFi X h = nI h → 0 < cBy X h) (hR : ∀ pre h q, R = pre ++ h :: q → selD (cFi X) (cBy X) (cHe X) (ind pre) n = nI h) (hRe : selD (cFi X) (cBy X) (cHe X) (ind R) n = -1) (hRh : ∀ h, h ∈ R → h < 300 ∧ cFi X h = nI h)  (kx : ∀ (H : Heap) (locs : List Loc) (ls : Array Slot), va_P (dC, dI) vwCl [(m0, .inr (4, [.int (nI n), .int P, .int (nI u), .ref b0, .ref c1, .ref c2, .ref c3, .int kn, .ref e1, .ref e2, .ref e3, .ref e4, .ref e5, .ref e6, .ref e7, .ref e8, .ref e9, .int (nI G.2.2.1), .int (nI R.length), .ref f1, .ref f2])), (b0, .inl (cI, 300, .inl z)), (e3, .inl (cI, 300, .inl (mix n (cFi X) fi0))), (e4, .inl (cI, 300, .inl (mix n (cNx X) nx0))), (e6, .inl (cJ, 300, .inr (.inl (mix n (cHe X) wa0)))), (e7, .inl (cJ, 300, .inr (.inl (mix n (cBy X) gr0)))), (e8, .inl (cI, 300, .inl G.1)), (e9, .inl (cJ, 300, .inr (.inl G.2.1))), (f2, .inl (cZ, 300, .inl (mix n (ind R) dn0)))] H → va_D A [(m0, .inr (4, [.int (nI n), .int P, .int (nI u), .ref b0, .ref c1, .ref c2, .ref c3, .int kn, .ref e1, .ref e2, .ref e3, .ref e4, .ref e5, .ref e6, .ref e7, .ref e8, .ref e9, .int (nI G.2.2.1), .int (nI R.length), .ref f1, .ref f2])), (b0, .inl (cI, 300, .inl z)), (e3, .inl (cI, 300, .inl (mix n (cFi X) fi0))), (e4, .inl (cI, 300, .inl (mix n (cNx X) nx0))), (e6, .inl (cJ, 300, .inr (.inl (mix n (cHe X) wa0)))), (e7, .inl (cJ, 300, .inr (.inl (mix n (cBy X) gr0)))), (e8, .inl (cI, 300, .inl G.1)), (e9, .inl (cJ, 300, .inr (.inl G.2.1))), (f2, .inl (cZ, 300, .inl (mix n (ind R) dn0)))] → va_S A s.heap H locs → lv_has ls 5 [(0, .ref m0)] → W p l ev ({ frames := 1, cells := 0, slots := 0, locals := 26 } : Room) s m args below meth c H locs 0 0 Q (F0 m 125 ls [])) : ∀ (n_ : Nat) (q pre : List Nat) (x : (Nat → Int32) × (Nat → Int64) × Nat × Int64), q.length = n_ → pre ++ q = R → x.2.2.1 + (q.flatMap (cCh X)).length ≤ 300 → (q.flatMap (cCh X)).foldl (rAdd z) x = G → ∀ (H : Heap) (locs : List Loc) (ls : Array Slot), va_P (dC, dI) vwCl [(m0, .inr (4, [.int (nI n), .int P, .int (nI u), .ref b0, .ref c1, .ref c2, .ref c3, .int kn, .ref e1, .ref e2, .ref e3, .ref e4, .ref e5, .ref e6, .ref e7, .ref e8, .ref e9, .int (nI x.2.2.1), .int (nI pre.length), .ref f1, .ref f2])), (b0, .inl (cI, 300, .inl z)), (e3, .inl (cI, 300, .inl (mix n (cFi X) fi0))), (e4, .inl (cI, 300, .inl (mix n (cNx X) nx0))), (e6, .inl (cJ, 300, .inr (.inl (mix n (cHe X) wa0)))), (e7, .inl (cJ, 300, .inr (.inl (mix n (cBy X) gr0)))), (e8, .inl (cI, 300, .inl x.1)), (e9, .inl (cJ, 300, .inr (.inl x.2.1))), (f2, .inl (cZ, 300, .inl (mix n (ind pre) dn0)))] H → va_D A [(m0, .inr (4, [.int (nI n), .int P, .int (nI u), .ref b0, .ref c1, .ref c2, .ref c3, .int kn, .ref e1, .ref e2, .ref e3, .ref e4, .ref e5, .ref e6, .ref e7, .ref e8, .ref e9, .int (nI x.2.2.1), .int (nI pre.length), .ref f1, .ref f2])), (b0, .inl (cI, 300, .inl z)), (e3, .inl (cI, 300, .inl (mix n (cFi X) fi0))), (e4, .inl (cI, 300, .inl (mix n (cNx X) nx0))), (e6, .inl (cJ, 300, .inr (.inl (mix n (cHe X) wa0)))), (e7, .inl (cJ, 300, .inr (.inl (mix n (cBy X) gr0)))), (e8, .inl (cI, 300, .inl x.1)), (e9, .inl (cJ, 300, .inr (.inl x.2.1))), (f2, .inl (cZ, 300, .inl (mix n (ind pre) dn0)))] → va_S A s.heap H locs → lv_has ls 5 [(0, .ref m0), (1, .long x.2.2.2)] → W p l ev ({ frames := 1, cells := 0, slots := 0, locals := 26 } : Room) s m args below meth c H locs 0 0 Q (F0 m 35 ls []) := by
  have hin4 : ∀ w ∈ wsX40, w ∈ wsX4_inOrder := by decide +kernel
  intro n_
  induction n_ with
  | zero =>
    intro q pre x hn_ hpq hu hG H locs ls hP hD hS hl
    have hq : q = [] := List.length_eq_zero_iff.mp hn_
    subst hq
    rw [List.append_nil] at hpq
    have hG : x = G := hG
    subst hG
    refine lv_iconst (v := (-1)) hx hb dX4_inOrder_35 (by decide) ?_
    refine tp_i (y := selD (cFi X) (cBy X) (cHe X) (ind pre) 0) (rfl) ?_
    refine lv_istore_n (lv' := [(3, .int (selD (cFi X) (cBy X) (cHe X) (ind pre) 0)), (0, .ref m0), (1, .long x.2.2.2)]) hx hb dX4_inOrder_36 rfl hl (by decide) rfl (fun ls hl => ?_)
    refine lv_iconst (v := 0) hx hb dX4_inOrder_37 (by decide) ?_
    refine tp_i (y := nI 0) (nI_0.symm) ?_
    refine lv_istore (lv' := [(4, .int (nI 0)), (3, .int (selD (cFi X) (cBy X) (cHe X) (ind pre) 0)), (0, .ref m0), (1, .long x.2.2.2)]) hx hb dX4_inOrder_38 hl (by decide) rfl (fun ls hl => ?_)
    refine lpX4_inOrderS (pre := pre) (x := x) (X := X) (z := z) hx hb hml hts hown hK hA hn hI hz hby (fun  H locs ls hP hD hS hl => ?_) (n) 0 (by omega) H _ ls hP hD hS (lv_sub hl [2, 3, 1, 0] rfl)
    · -- kx
      rw [hpq] at hl
      rw [hRe] at hl
      rw [hpq] at hP hD
      refine lv_iload_n hx hb dX4_inOrder_121 rfl (lv_at hl 2 rfl) ?_
      refine lv_if_ge (tgt := 126) hx hb dX4_inOrder_122 (by decide) (fun c_1 => ?_) (fun c_1 => ?_)
      · -- pc 122, side 0
        exact absurd c_1 (by decide)
      · -- pc 122, side 1
        exact kx   H locs ls hP hD hS (lv_sub hl [0] rfl)
  | succ n_ ih =>
    intro q pre x hn_ hpq hu hG H locs ls hP hD hS hl
    obtain ⟨h9, q, rfl⟩ : ∃ y q', q = y :: q' := by cases q with | nil => cases hn_ | cons y q => exact ⟨y, q, rfl⟩
    rw [List.length_cons] at hn_
    have hpq := hpq.symm
    obtain ⟨r1, r2⟩ := hRh h9 (by rw [hpq]; exact List.mem_append_right _ List.mem_cons_self)
    have hfz : ∀ {j : Nat}, j < 300 → ¬ cFi X j = -1 → j < n := fun {j} h1 h2 => hz j h1 (fun e => h2 ((hI.1 j h1).mpr e))
    have r3 : h9 < n := hfz r1 (by rw [r2]; exact nI_m1 (by omega))
    rw [List.flatMap_cons, List.length_append] at hu
    rw [List.flatMap_cons, List.foldl_append] at hG
    refine lv_iconst (v := (-1)) hx hb dX4_inOrder_35 (by decide) ?_
    refine tp_i (y := selD (cFi X) (cBy X) (cHe X) (ind pre) 0) (rfl) ?_
    refine lv_istore_n (lv' := [(3, .int (selD (cFi X) (cBy X) (cHe X) (ind pre) 0)), (0, .ref m0), (1, .long x.2.2.2)]) hx hb dX4_inOrder_36 rfl hl (by decide) rfl (fun ls hl => ?_)
    refine lv_iconst (v := 0) hx hb dX4_inOrder_37 (by decide) ?_
    refine tp_i (y := nI 0) (nI_0.symm) ?_
    refine lv_istore (lv' := [(4, .int (nI 0)), (3, .int (selD (cFi X) (cBy X) (cHe X) (ind pre) 0)), (0, .ref m0), (1, .long x.2.2.2)]) hx hb dX4_inOrder_38 hl (by decide) rfl (fun ls hl => ?_)
    refine lpX4_inOrderS (pre := pre) (x := x) (X := X) (z := z) hx hb hml hts hown hK hA hn hI hz hby (fun  H locs ls hP hD hS hl => ?_) (n) 0 (by omega) H _ ls hP hD hS (lv_sub hl [2, 3, 1, 0] rfl)
    · -- kx
      rw [hR pre h9 q hpq] at hl
      refine lv_iload_n hx hb dX4_inOrder_121 rfl (lv_at hl 2 rfl) ?_
      refine lv_if_ge (tgt := 126) hx hb dX4_inOrder_122 (by decide) (fun c_2 => ?_) (fun c_2 => ?_)
      · -- pc 122, side 0
        refine lv_aload_n hx hb dX4_inOrder_126 rfl (lv_at hl 0 rfl) ?_
        refine va_get (D := (dC, dI)) (ci := 4) (v := .ref f2) (C := RX4) (T := TX4) (N := 21) hx hb hts hin4 hown hK hP 0 rfl rfl 20 (by decide) (hts (.fieldLink RX4 60 "CallClustersModel" "isDone" "[Z") (by decide +kernel)) (fun _ h9 => h9) rfl dX4_inOrder_127 ?_
        refine lv_iload_n hx hb dX4_inOrder_130 rfl (lv_at hl 2 rfl) ?_
        refine lv_iconst (v := 1) hx hb dX4_inOrder_131 (by decide) ?_
        refine va_zast hx hb hK hP hD hS 8 2 rfl rfl (inn r1 (by omega)) dX4_inOrder_132 (fun H locs hP hD hS => ?_)
        have hf132 : upd (mix n (ind pre) dn0) ((nI h9).toNatClampNeg) (vp_nar .boolean 1) = mix n (ind (pre ++ [h9])) dn0 := by rw [ix_n (by omega), show vp_nar .boolean 1 = 1 from by decide, upd_mix r3, ind_snoc]
        have hP : va_P (dC, dI) vwCl [(m0, .inr (4, [.int (nI n), .int P, .int (nI u), .ref b0, .ref c1, .ref c2, .ref c3, .int kn, .ref e1, .ref e2, .ref e3, .ref e4, .ref e5, .ref e6, .ref e7, .ref e8, .ref e9, .int (nI x.2.2.1), .int (nI pre.length), .ref f1, .ref f2])), (b0, .inl (cI, 300, .inl z)), (e3, .inl (cI, 300, .inl (mix n (cFi X) fi0))), (e4, .inl (cI, 300, .inl (mix n (cNx X) nx0))), (e6, .inl (cJ, 300, .inr (.inl (mix n (cHe X) wa0)))), (e7, .inl (cJ, 300, .inr (.inl (mix n (cBy X) gr0)))), (e8, .inl (cI, 300, .inl x.1)), (e9, .inl (cJ, 300, .inr (.inl x.2.1))), (f2, .inl (cZ, 300, .inl (upd (mix n (ind pre) dn0) ((nI h9).toNatClampNeg) (vp_nar .boolean 1))))] H := hP
        have hD : va_D A [(m0, .inr (4, [.int (nI n), .int P, .int (nI u), .ref b0, .ref c1, .ref c2, .ref c3, .int kn, .ref e1, .ref e2, .ref e3, .ref e4, .ref e5, .ref e6, .ref e7, .ref e8, .ref e9, .int (nI x.2.2.1), .int (nI pre.length), .ref f1, .ref f2])), (b0, .inl (cI, 300, .inl z)), (e3, .inl (cI, 300, .inl (mix n (cFi X) fi0))), (e4, .inl (cI, 300, .inl (mix n (cNx X) nx0))), (e6, .inl (cJ, 300, .inr (.inl (mix n (cHe X) wa0)))), (e7, .inl (cJ, 300, .inr (.inl (mix n (cBy X) gr0)))), (e8, .inl (cI, 300, .inl x.1)), (e9, .inl (cJ, 300, .inr (.inl x.2.1))), (f2, .inl (cZ, 300, .inl (upd (mix n (ind pre) dn0) ((nI h9).toNatClampNeg) (vp_nar .boolean 1))))] := hD
        rw [hf132] at hP hD
        refine lv_aload_n hx hb dX4_inOrder_133 rfl (lv_at hl 0 rfl) ?_
        refine lv_dup hx hb dX4_inOrder_134 rfl ?_
        refine va_get (D := (dC, dI)) (ci := 4) (v := .int (nI pre.length)) (C := RX4) (T := TX4) (N := 21) hx hb hts hin4 hown hK hP 0 rfl rfl 18 (by decide) (hts (.fieldLink RX4 102 "CallClustersModel" "groups" "I") (by decide +kernel)) (fun _ h9 => h9) rfl dX4_inOrder_135 ?_
        refine lv_iconst (v := 1) hx hb dX4_inOrder_138 (by decide) ?_
        refine lv_iadd hx hb dX4_inOrder_139 ?_
        refine tp_i (y := nI (pre ++ [h9]).length) (by rw [List.length_append, List.length_singleton]; exact nI_1 _) ?_
        refine va_put (D := (dC, dI)) (ci := 4) (v := .int (nI (pre ++ [h9]).length)) (ty := .int) (C := RX4) (T := TX4) (N := 21) hx hb hts hin4 tyX4 tyX4_ok nmX4 hown hK hP hD hS 0 rfl rfl 18 (by decide) (hts (.fieldLink RX4 102 "CallClustersModel" "groups" "I") (by decide +kernel)) (fun _ h9 => h9) rfl (by decide +kernel) (rfl) (rfl) (Nat.le_of_ble_eq_true rfl) dX4_inOrder_140 (fun H locs hP hD hS => ?_)
        have hP : va_P (dC, dI) vwCl [(m0, .inr (4, [.int (nI n), .int P, .int (nI u), .ref b0, .ref c1, .ref c2, .ref c3, .int kn, .ref e1, .ref e2, .ref e3, .ref e4, .ref e5, .ref e6, .ref e7, .ref e8, .ref e9, .int (nI x.2.2.1), .int (nI (pre ++ [h9]).length), .ref f1, .ref f2])), (b0, .inl (cI, 300, .inl z)), (e3, .inl (cI, 300, .inl (mix n (cFi X) fi0))), (e4, .inl (cI, 300, .inl (mix n (cNx X) nx0))), (e6, .inl (cJ, 300, .inr (.inl (mix n (cHe X) wa0)))), (e7, .inl (cJ, 300, .inr (.inl (mix n (cBy X) gr0)))), (e8, .inl (cI, 300, .inl x.1)), (e9, .inl (cJ, 300, .inr (.inl x.2.1))), (f2, .inl (cZ, 300, .inl (mix n (ind (pre ++ [h9])) dn0)))] H := hP
        have hD : va_D A [(m0, .inr (4, [.int (nI n), .int P, .int (nI u), .ref b0, .ref c1, .ref c2, .ref c3, .int kn, .ref e1, .ref e2, .ref e3, .ref e4, .ref e5, .ref e6, .ref e7, .ref e8, .ref e9, .int (nI x.2.2.1), .int (nI (pre ++ [h9]).length), .ref f1, .ref f2])), (b0, .inl (cI, 300, .inl z)), (e3, .inl (cI, 300, .inl (mix n (cFi X) fi0))), (e4, .inl (cI, 300, .inl (mix n (cNx X) nx0))), (e6, .inl (cJ, 300, .inr (.inl (mix n (cHe X) wa0)))), (e7, .inl (cJ, 300, .inr (.inl (mix n (cBy X) gr0)))), (e8, .inl (cI, 300, .inl x.1)), (e9, .inl (cJ, 300, .inr (.inl x.2.1))), (f2, .inl (cZ, 300, .inl (mix n (ind (pre ++ [h9])) dn0)))] := hD
        refine lv_iload_n hx hb dX4_inOrder_143 rfl (lv_at hl 2 rfl) ?_
        refine lv_istore (lv' := [(4, .int (nI h9)), (0, .ref m0), (1, .long x.2.2.2), (3, .int (nI h9))]) hx hb dX4_inOrder_144 hl (by decide) rfl (fun ls hl => ?_)
        refine lpX4_inOrderC (dn0 := dn0) (X := X) (z := z) (dn := mix n (ind (pre ++ [h9])) dn0) (gq := nI (pre ++ [h9]).length) (G := (cCh X h9).foldl (rAdd z) x) hx hb hml hts hown hK hA hn (fun  H locs ls hP hD hS hl => ?_) ((cCh X h9).length) (cCh X h9) _ x (rfl) ((hI.2.2 h9 r1 r2).1) (fun y hy => hfz ((hI.2.2 h9 r1 r2).2.2.1 y hy).1 (by rw [((hI.2.2 h9 r1 r2).2.2.1 y hy).2]; exact nI_m1 (by omega))) (by omega) (rfl) H _ ls hP hD hS (lv_sub hl [1, 2, 0] rfl)
        · -- kx
          refine lv_goto (tgt := 35) hx hb dX4_inOrder_203 (by decide) ?_
          exact ih q (pre ++ [h9]) ((cCh X h9).foldl (rAdd z) x) (by omega) (by rw [List.append_assoc]; exact hpq.symm) (by rw [rAdd_n]; omega) (hG) H locs ls hP hD hS (lv_sub hl [0, 1] rfl)
      · -- pc 122, side 1
        exact absurd (nI_pos' (by omega)) c_2
set_option maxHeartbeats 4000000 in
set_option maxRecDepth 100000 in
theorem ct_X4_inOrder (l : Launch) (dC : Nat → ClassId) (dI : Nat → Nat → Nat) (cI cJ cZ : ClassId) (sz : Nat) (m0 : Nat) (b0 : Nat) (e3 : Nat) (e4 : Nat) (e6 : Nat) (e7 : Nat) (e8 : Nat) (e9 : Nat) (f2 : Nat) (c1 c2 c3 e1 e2 e5 f1 : Nat) (n : Nat) (P : Int32) (u : Nat) (kn ir gp : Int32) (z fi0 nx0 : Nat → Int32) (wa0 gr0 : Nat → Int64) (dn : Nat → Int32) (or_ : Nat → Int32) (bg : Nat → Int64) (X : CS) (R : List Nat) (hn : n ≤ 300) (hI : CInv z X) (hz : ∀ j, j < 300 → ¬ z j ≤ 0 → j < n) (hby : ∀ h, h < 300 → cFi X h = nI h → 0 < cBy X h) (hR : ∀ pre h q, R = pre ++ h :: q → selD (cFi X) (cBy X) (cHe X) (ind pre) n = nI h) (hRe : selD (cFi X) (cBy X) (cHe X) (ind R) n = -1) (hRh : ∀ h, h ∈ R → h < 300 ∧ cFi X h = nI h) (hlen : (R.flatMap (cCh X)).length ≤ 300) : Met l yX4_inOrder wsX4_inOrder ({ frames := 1, cells := 0, slots := 0, locals := 26 }) (va_Pc [.ref m0] (fun U => U.heap.size = sz ∧ va_P (dC, dI) vwCl [(m0, .inr (4, [.int (nI n), .int P, .int (nI u), .ref b0, .ref c1, .ref c2, .ref c3, .int kn, .ref e1, .ref e2, .ref e3, .ref e4, .ref e5, .ref e6, .ref e7, .ref e8, .ref e9, .int ir, .int gp, .ref f1, .ref f2])), (b0, .inl (cI, 300, .inl z)), (e3, .inl (cI, 300, .inl (mix n (cFi X) fi0))), (e4, .inl (cI, 300, .inl (mix n (cNx X) nx0))), (e6, .inl (cJ, 300, .inr (.inl (mix n (cHe X) wa0)))), (e7, .inl (cJ, 300, .inr (.inl (mix n (cBy X) gr0)))), (e8, .inl (cI, 300, .inl or_)), (e9, .inl (cJ, 300, .inr (.inl bg))), (f2, .inl (cZ, 300, .inl dn))] U.heap ∧ va_K (dC, dI) vwCl [(cI, .int), (cJ, .long), (cZ, .boolean)] U ∧ va_D (fun _ => True) [(m0, .inr (4, [.int (nI n), .int P, .int (nI u), .ref b0, .ref c1, .ref c2, .ref c3, .int kn, .ref e1, .ref e2, .ref e3, .ref e4, .ref e5, .ref e6, .ref e7, .ref e8, .ref e9, .int ir, .int gp, .ref f1, .ref f2])), (b0, .inl (cI, 300, .inl z)), (e3, .inl (cI, 300, .inl (mix n (cFi X) fi0))), (e4, .inl (cI, 300, .inl (mix n (cNx X) nx0))), (e6, .inl (cJ, 300, .inr (.inl (mix n (cHe X) wa0)))), (e7, .inl (cJ, 300, .inr (.inl (mix n (cBy X) gr0)))), (e8, .inl (cI, 300, .inl or_)), (e9, .inl (cJ, 300, .inr (.inl bg))), (f2, .inl (cZ, 300, .inl dn))])) (va_Qv (fun (uu : Unit) => True) (fun (uu : Unit) (t : State) => va_P (dC, dI) vwCl [(m0, .inr (4, [.int (nI n), .int P, .int (nI u), .ref b0, .ref c1, .ref c2, .ref c3, .int kn, .ref e1, .ref e2, .ref e3, .ref e4, .ref e5, .ref e6, .ref e7, .ref e8, .ref e9, .int (nI (rowL z or_ bg (R.flatMap (cCh X))).2.2.1), .int (nI R.length), .ref f1, .ref f2])), (b0, .inl (cI, 300, .inl z)), (e3, .inl (cI, 300, .inl (mix n (cFi X) fi0))), (e4, .inl (cI, 300, .inl (mix n (cNx X) nx0))), (e6, .inl (cJ, 300, .inr (.inl (mix n (cHe X) wa0)))), (e7, .inl (cJ, 300, .inr (.inl (mix n (cBy X) gr0)))), (e8, .inl (cI, 300, .inl ((rowL z or_ bg (R.flatMap (cCh X))).1))), (e9, .inl (cJ, 300, .inr (.inl ((rowL z or_ bg (R.flatMap (cCh X))).2.1)))), (f2, .inl (cZ, 300, .inl (mix n (ind R) (mix n (fun _ => 0) dn))))] t.heap ∧ va_K (dC, dI) vwCl [(cI, .int), (cJ, .long), (cZ, .boolean)] t ∧ va_D (va_A [(m0, .inr (4, [.int (nI n), .int P, .int (nI u), .ref b0, .ref c1, .ref c2, .ref c3, .int kn, .ref e1, .ref e2, .ref e3, .ref e4, .ref e5, .ref e6, .ref e7, .ref e8, .ref e9, .int ir, .int gp, .ref f1, .ref f2])), (b0, .inl (cI, 300, .inl z)), (e3, .inl (cI, 300, .inl (mix n (cFi X) fi0))), (e4, .inl (cI, 300, .inl (mix n (cNx X) nx0))), (e6, .inl (cJ, 300, .inr (.inl (mix n (cHe X) wa0)))), (e7, .inl (cJ, 300, .inr (.inl (mix n (cBy X) gr0)))), (e8, .inl (cI, 300, .inl or_)), (e9, .inl (cJ, 300, .inr (.inl bg))), (f2, .inl (cZ, 300, .inl dn))] sz) [(m0, .inr (4, [.int (nI n), .int P, .int (nI u), .ref b0, .ref c1, .ref c2, .ref c3, .int kn, .ref e1, .ref e2, .ref e3, .ref e4, .ref e5, .ref e6, .ref e7, .ref e8, .ref e9, .int (nI (rowL z or_ bg (R.flatMap (cCh X))).2.2.1), .int (nI R.length), .ref f1, .ref f2])), (b0, .inl (cI, 300, .inl z)), (e3, .inl (cI, 300, .inl (mix n (cFi X) fi0))), (e4, .inl (cI, 300, .inl (mix n (cNx X) nx0))), (e6, .inl (cJ, 300, .inr (.inl (mix n (cHe X) wa0)))), (e7, .inl (cJ, 300, .inr (.inl (mix n (cBy X) gr0)))), (e8, .inl (cI, 300, .inl ((rowL z or_ bg (R.flatMap (cCh X))).1))), (e9, .inl (cJ, 300, .inr (.inl ((rowL z or_ bg (R.flatMap (cCh X))).2.1)))), (f2, .inl (cZ, 300, .inl (mix n (ind R) (mix n (fun _ => 0) dn))))]) (va_A [(m0, .inr (4, [.int (nI n), .int P, .int (nI u), .ref b0, .ref c1, .ref c2, .ref c3, .int kn, .ref e1, .ref e2, .ref e3, .ref e4, .ref e5, .ref e6, .ref e7, .ref e8, .ref e9, .int ir, .int gp, .ref f1, .ref f2])), (b0, .inl (cI, 300, .inl z)), (e3, .inl (cI, 300, .inl (mix n (cFi X) fi0))), (e4, .inl (cI, 300, .inl (mix n (cNx X) nx0))), (e6, .inl (cJ, 300, .inr (.inl (mix n (cHe X) wa0)))), (e7, .inl (cJ, 300, .inr (.inl (mix n (cBy X) gr0)))), (e8, .inl (cI, 300, .inl or_)), (e9, .inl (cJ, 300, .inr (.inl bg))), (f2, .inl (cZ, 300, .inl dn))] sz)) 0 0 (va_A [(m0, .inr (4, [.int (nI n), .int P, .int (nI u), .ref b0, .ref c1, .ref c2, .ref c3, .int kn, .ref e1, .ref e2, .ref e3, .ref e4, .ref e5, .ref e6, .ref e7, .ref e8, .ref e9, .int ir, .int gp, .ref f1, .ref f2])), (b0, .inl (cI, 300, .inl z)), (e3, .inl (cI, 300, .inl (mix n (cFi X) fi0))), (e4, .inl (cI, 300, .inl (mix n (cNx X) nx0))), (e6, .inl (cJ, 300, .inr (.inl (mix n (cHe X) wa0)))), (e7, .inl (cJ, 300, .inr (.inl (mix n (cBy X) gr0)))), (e8, .inl (cI, 300, .inl or_)), (e9, .inl (cJ, 300, .inr (.inl bg))), (f2, .inl (cZ, 300, .inl dn))] sz) := by
  refine Met.ofW (cc := cX4_inOrder) (maxL := 5) (ret := none) (by decide) rfl ?_
  intro p ev s m args below meth c s₁ Bd hml hv
  obtain ⟨rfl, hsz, hP, hK, hD0⟩ := hv
  have hx := Bd.exec
  have hb := Bd.bytes
  have hr := Bd.returns
  have hts := atoms_spec (ws := wsX4_inOrder) Bd.pre
  have hown : s.vm.findClass RX4 = some m.cls := findClass_of_methodNamed Bd.named
  have hlocks := Bd.notSynchronized
  have hin4 : ∀ w ∈ wsX40, w ∈ wsX4_inOrder := by decide +kernel
  subst hsz
  have hD := hD0.self (sz := s.heap.size)
  generalize hAe : va_A [(m0, .inr (4, [.int (nI n), .int P, .int (nI u), .ref b0, .ref c1, .ref c2, .ref c3, .int kn, .ref e1, .ref e2, .ref e3, .ref e4, .ref e5, .ref e6, .ref e7, .ref e8, .ref e9, .int ir, .int gp, .ref f1, .ref f2])), (b0, .inl (cI, 300, .inl z)), (e3, .inl (cI, 300, .inl (mix n (cFi X) fi0))), (e4, .inl (cI, 300, .inl (mix n (cNx X) nx0))), (e6, .inl (cJ, 300, .inr (.inl (mix n (cHe X) wa0)))), (e7, .inl (cJ, 300, .inr (.inl (mix n (cBy X) gr0)))), (e8, .inl (cI, 300, .inl or_)), (e9, .inl (cJ, 300, .inr (.inl bg))), (f2, .inl (cZ, 300, .inl dn))] s.heap.size = A at hD ⊢
  have hA : ∀ q : Nat, s.heap.size ≤ q → A q := fun q h => by rw [← hAe]; exact Or.inr h
  have hS : va_S A s.heap s.heap [] := va_S.rf
  have hl := lv_entry ([.ref m0]) (n := 5) (Nat.le_of_ble_eq_true rfl)
  rw [lg_entry_eq]
  generalize (lg_sl ([.ref m0]) ++ List.replicate (5 - (lg_sl ([.ref m0])).length) Slot.unset).toArray = ls at hl ⊢
  have hl : lv_has ls 5 [(0, .ref m0)] := hl
  generalize hHe : s.heap = H at hP ⊢
  have hS : va_S A s.heap H [] := hHe ▸ hS
  refine lv_aload_n hx hb dX4_inOrder_0 rfl (lv_at hl 0 rfl) ?_
  refine lv_iconst (v := 0) hx hb dX4_inOrder_1 (by decide) ?_
  refine va_put (D := (dC, dI)) (ci := 4) (v := .int 0) (ty := .int) (C := RX4) (T := TX4) (N := 21) hx hb hts hin4 tyX4 tyX4_ok nmX4 hown hK hP hD hS 0 rfl rfl 17 (by decide) (hts (.fieldLink RX4 99 "CallClustersModel" "inRow" "I") (by decide +kernel)) (fun _ h9 => h9) rfl (by decide +kernel) (rfl) (rfl) (Nat.le_of_ble_eq_true rfl) dX4_inOrder_2 (fun H locs hP hD hS => ?_)
  have hP : va_P (dC, dI) vwCl [(m0, .inr (4, [.int (nI n), .int P, .int (nI u), .ref b0, .ref c1, .ref c2, .ref c3, .int kn, .ref e1, .ref e2, .ref e3, .ref e4, .ref e5, .ref e6, .ref e7, .ref e8, .ref e9, .int 0, .int gp, .ref f1, .ref f2])), (b0, .inl (cI, 300, .inl z)), (e3, .inl (cI, 300, .inl (mix n (cFi X) fi0))), (e4, .inl (cI, 300, .inl (mix n (cNx X) nx0))), (e6, .inl (cJ, 300, .inr (.inl (mix n (cHe X) wa0)))), (e7, .inl (cJ, 300, .inr (.inl (mix n (cBy X) gr0)))), (e8, .inl (cI, 300, .inl or_)), (e9, .inl (cJ, 300, .inr (.inl bg))), (f2, .inl (cZ, 300, .inl dn))] H := hP
  have hD : va_D A [(m0, .inr (4, [.int (nI n), .int P, .int (nI u), .ref b0, .ref c1, .ref c2, .ref c3, .int kn, .ref e1, .ref e2, .ref e3, .ref e4, .ref e5, .ref e6, .ref e7, .ref e8, .ref e9, .int 0, .int gp, .ref f1, .ref f2])), (b0, .inl (cI, 300, .inl z)), (e3, .inl (cI, 300, .inl (mix n (cFi X) fi0))), (e4, .inl (cI, 300, .inl (mix n (cNx X) nx0))), (e6, .inl (cJ, 300, .inr (.inl (mix n (cHe X) wa0)))), (e7, .inl (cJ, 300, .inr (.inl (mix n (cBy X) gr0)))), (e8, .inl (cI, 300, .inl or_)), (e9, .inl (cJ, 300, .inr (.inl bg))), (f2, .inl (cZ, 300, .inl dn))] := hD
  refine lv_aload_n hx hb dX4_inOrder_5 rfl (lv_at hl 0 rfl) ?_
  refine lv_iconst (v := 0) hx hb dX4_inOrder_6 (by decide) ?_
  refine va_put (D := (dC, dI)) (ci := 4) (v := .int 0) (ty := .int) (C := RX4) (T := TX4) (N := 21) hx hb hts hin4 tyX4 tyX4_ok nmX4 hown hK hP hD hS 0 rfl rfl 18 (by decide) (hts (.fieldLink RX4 102 "CallClustersModel" "groups" "I") (by decide +kernel)) (fun _ h9 => h9) rfl (by decide +kernel) (rfl) (rfl) (Nat.le_of_ble_eq_true rfl) dX4_inOrder_7 (fun H locs hP hD hS => ?_)
  have hP : va_P (dC, dI) vwCl [(m0, .inr (4, [.int (nI n), .int P, .int (nI u), .ref b0, .ref c1, .ref c2, .ref c3, .int kn, .ref e1, .ref e2, .ref e3, .ref e4, .ref e5, .ref e6, .ref e7, .ref e8, .ref e9, .int 0, .int 0, .ref f1, .ref f2])), (b0, .inl (cI, 300, .inl z)), (e3, .inl (cI, 300, .inl (mix n (cFi X) fi0))), (e4, .inl (cI, 300, .inl (mix n (cNx X) nx0))), (e6, .inl (cJ, 300, .inr (.inl (mix n (cHe X) wa0)))), (e7, .inl (cJ, 300, .inr (.inl (mix n (cBy X) gr0)))), (e8, .inl (cI, 300, .inl or_)), (e9, .inl (cJ, 300, .inr (.inl bg))), (f2, .inl (cZ, 300, .inl dn))] H := hP
  have hD : va_D A [(m0, .inr (4, [.int (nI n), .int P, .int (nI u), .ref b0, .ref c1, .ref c2, .ref c3, .int kn, .ref e1, .ref e2, .ref e3, .ref e4, .ref e5, .ref e6, .ref e7, .ref e8, .ref e9, .int 0, .int 0, .ref f1, .ref f2])), (b0, .inl (cI, 300, .inl z)), (e3, .inl (cI, 300, .inl (mix n (cFi X) fi0))), (e4, .inl (cI, 300, .inl (mix n (cNx X) nx0))), (e6, .inl (cJ, 300, .inr (.inl (mix n (cHe X) wa0)))), (e7, .inl (cJ, 300, .inr (.inl (mix n (cBy X) gr0)))), (e8, .inl (cI, 300, .inl or_)), (e9, .inl (cJ, 300, .inr (.inl bg))), (f2, .inl (cZ, 300, .inl dn))] := hD
  refine lv_iconst (v := 0) hx hb dX4_inOrder_10 (by decide) ?_
  refine tp_i (y := nI 0) (nI_0.symm) ?_
  refine lv_istore_n (lv' := [(1, .int (nI 0)), (0, .ref m0)]) hx hb dX4_inOrder_11 rfl hl (by decide) rfl (fun ls hl => ?_)
  have hP : va_P (dC, dI) vwCl [(m0, .inr (4, [.int (nI n), .int P, .int (nI u), .ref b0, .ref c1, .ref c2, .ref c3, .int kn, .ref e1, .ref e2, .ref e3, .ref e4, .ref e5, .ref e6, .ref e7, .ref e8, .ref e9, .int 0, .int 0, .ref f1, .ref f2])), (b0, .inl (cI, 300, .inl z)), (e3, .inl (cI, 300, .inl (mix n (cFi X) fi0))), (e4, .inl (cI, 300, .inl (mix n (cNx X) nx0))), (e6, .inl (cJ, 300, .inr (.inl (mix n (cHe X) wa0)))), (e7, .inl (cJ, 300, .inr (.inl (mix n (cBy X) gr0)))), (e8, .inl (cI, 300, .inl or_)), (e9, .inl (cJ, 300, .inr (.inl bg))), (f2, .inl (cZ, 300, .inl (mix 0 (fun _ => 0) dn)))] H := by rw [mix_0]; exact hP
  have hD : va_D A [(m0, .inr (4, [.int (nI n), .int P, .int (nI u), .ref b0, .ref c1, .ref c2, .ref c3, .int kn, .ref e1, .ref e2, .ref e3, .ref e4, .ref e5, .ref e6, .ref e7, .ref e8, .ref e9, .int 0, .int 0, .ref f1, .ref f2])), (b0, .inl (cI, 300, .inl z)), (e3, .inl (cI, 300, .inl (mix n (cFi X) fi0))), (e4, .inl (cI, 300, .inl (mix n (cNx X) nx0))), (e6, .inl (cJ, 300, .inr (.inl (mix n (cHe X) wa0)))), (e7, .inl (cJ, 300, .inr (.inl (mix n (cBy X) gr0)))), (e8, .inl (cI, 300, .inl or_)), (e9, .inl (cJ, 300, .inr (.inl bg))), (f2, .inl (cZ, 300, .inl (mix 0 (fun _ => 0) dn)))] := by rw [mix_0]; exact hD
  refine lpX4_inOrderA (X := X) (dn0 := dn) (or_ := or_) (bg := bg) hx hb hml hts hown hK hA hn (fun  H locs ls hP hD hS hl => ?_) (n) 0 (by omega) H _ ls hP hD hS (lv_sub hl [1, 0] rfl)
  · -- kx
    refine lv_lconst (v := 0) hx hb dX4_inOrder_33 (by decide) ?_
    refine lv_lstore_n (lv' := [(1, .long 0), (0, .ref m0)]) hx hb dX4_inOrder_34 rfl hl (by decide) rfl (fun ls hl => ?_)
    have hi0 : mix n (fun _ => 0) dn = mix n (ind []) (mix n (fun _ => 0) dn) := by funext j; unfold mix ind; split <;> simp
    rw [hi0] at hP hD
    have hP : va_P (dC, dI) vwCl [(m0, .inr (4, [.int (nI n), .int P, .int (nI u), .ref b0, .ref c1, .ref c2, .ref c3, .int kn, .ref e1, .ref e2, .ref e3, .ref e4, .ref e5, .ref e6, .ref e7, .ref e8, .ref e9, .int (nI 0), .int (nI 0), .ref f1, .ref f2])), (b0, .inl (cI, 300, .inl z)), (e3, .inl (cI, 300, .inl (mix n (cFi X) fi0))), (e4, .inl (cI, 300, .inl (mix n (cNx X) nx0))), (e6, .inl (cJ, 300, .inr (.inl (mix n (cHe X) wa0)))), (e7, .inl (cJ, 300, .inr (.inl (mix n (cBy X) gr0)))), (e8, .inl (cI, 300, .inl or_)), (e9, .inl (cJ, 300, .inr (.inl bg))), (f2, .inl (cZ, 300, .inl (mix n (ind []) (mix n (fun _ => 0) dn))))] H := hP
    have hD : va_D A [(m0, .inr (4, [.int (nI n), .int P, .int (nI u), .ref b0, .ref c1, .ref c2, .ref c3, .int kn, .ref e1, .ref e2, .ref e3, .ref e4, .ref e5, .ref e6, .ref e7, .ref e8, .ref e9, .int (nI 0), .int (nI 0), .ref f1, .ref f2])), (b0, .inl (cI, 300, .inl z)), (e3, .inl (cI, 300, .inl (mix n (cFi X) fi0))), (e4, .inl (cI, 300, .inl (mix n (cNx X) nx0))), (e6, .inl (cJ, 300, .inr (.inl (mix n (cHe X) wa0)))), (e7, .inl (cJ, 300, .inr (.inl (mix n (cBy X) gr0)))), (e8, .inl (cI, 300, .inl or_)), (e9, .inl (cJ, 300, .inr (.inl bg))), (f2, .inl (cZ, 300, .inl (mix n (ind []) (mix n (fun _ => 0) dn))))] := hD
    refine lpX4_inOrderO (dn0 := mix n (fun _ => 0) dn) (X := X) (z := z) (R := R) (G := (rowL z or_ bg (R.flatMap (cCh X)))) hx hb hml hts hown hK hA hn hI hz hby hR hRe hRh (fun  H locs ls hP hD hS hl => ?_) (R.length) R [] (or_, bg, 0, 0) (rfl) (rfl) (by show 0 + _ ≤ 300; omega) (rfl) H _ ls hP hD hS (lv_sub hl [1, 0] rfl)
    · -- kx
      have hP9 : va_P (dC, dI) vwCl [(m0, .inr (4, [.int (nI n), .int P, .int (nI u), .ref b0, .ref c1, .ref c2, .ref c3, .int kn, .ref e1, .ref e2, .ref e3, .ref e4, .ref e5, .ref e6, .ref e7, .ref e8, .ref e9, .int (nI (rowL z or_ bg (R.flatMap (cCh X))).2.2.1), .int (nI R.length), .ref f1, .ref f2])), (b0, .inl (cI, 300, .inl z)), (e3, .inl (cI, 300, .inl (mix n (cFi X) fi0))), (e4, .inl (cI, 300, .inl (mix n (cNx X) nx0))), (e6, .inl (cJ, 300, .inr (.inl (mix n (cHe X) wa0)))), (e7, .inl (cJ, 300, .inr (.inl (mix n (cBy X) gr0)))), (e8, .inl (cI, 300, .inl ((rowL z or_ bg (R.flatMap (cCh X))).1))), (e9, .inl (cJ, 300, .inr (.inl ((rowL z or_ bg (R.flatMap (cCh X))).2.1)))), (f2, .inl (cZ, 300, .inl (mix n (ind R) (mix n (fun _ => 0) dn))))] H := hP
      have hD9 : va_D A [(m0, .inr (4, [.int (nI n), .int P, .int (nI u), .ref b0, .ref c1, .ref c2, .ref c3, .int kn, .ref e1, .ref e2, .ref e3, .ref e4, .ref e5, .ref e6, .ref e7, .ref e8, .ref e9, .int (nI (rowL z or_ bg (R.flatMap (cCh X))).2.2.1), .int (nI R.length), .ref f1, .ref f2])), (b0, .inl (cI, 300, .inl z)), (e3, .inl (cI, 300, .inl (mix n (cFi X) fi0))), (e4, .inl (cI, 300, .inl (mix n (cNx X) nx0))), (e6, .inl (cJ, 300, .inr (.inl (mix n (cHe X) wa0)))), (e7, .inl (cJ, 300, .inr (.inl (mix n (cBy X) gr0)))), (e8, .inl (cI, 300, .inl ((rowL z or_ bg (R.flatMap (cCh X))).1))), (e9, .inl (cJ, 300, .inr (.inl ((rowL z or_ bg (R.flatMap (cCh X))).2.1)))), (f2, .inl (cZ, 300, .inl (mix n (ind R) (mix n (fun _ => 0) dn))))] := hD
      exact W.vret hx hb hr (fun t ht hW => ⟨⟨(), rfl, trivial, by rw [ht]; exact hP9, va_K.moved hW.alike hK, hD9⟩, hS.F ht⟩) hS.2.2 dX4_inOrder_125
