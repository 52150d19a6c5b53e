set_option maxHeartbeats 4000000 in
set_option maxRecDepth 100000 in
theorem lpX1_join {p : Program} {l : Launch} {ev : Env} {s : State} {m : MethodId} {args : Array Value} {below : List Frame} {meth : Method} {c : Code} {Q : State → Prop} {A : Nat → Prop} {dC : Nat → ClassId} {dI : Nat → Nat → Nat} {cI cJ cZ : ClassId} {R : Room} {cells slots : Nat} (hx : p.tables.exec = Jvm.exec) (hb : c.code = cX1_join) (hml : c.maxLocals = 5) (hts : ∀ w ∈ wsX1_join, w.before args s = true) (hown : s.vm.findClass RX1 = some m.cls) (hK : va_K (dC, dI) vwCl [(cI, .int), (cJ, .long), (cZ, .boolean)] s) (hA : ∀ q : Nat, s.heap.size ≤ q → A q) {g0 : Nat} {g1 : Nat} {g2 : Nat} {g3 : Nat} {g4 : Nat} {g5 : Nat} {g6 : Nat} {g7 : Nat} {g8 : Nat} {nx la le : Nat → Int32} {by_ he : Nat → Int64} {lo rk : Nat → Int32} {rc : Int32} {a b : Nat} {G : Nat → Int32}   (kn : ∀ (H : Heap) (locs : List Loc) (ls : Array Slot), va_P (dC, dI) vwCl [(g0, .inr (1, [.ref g1, .ref g2, .ref g3, .ref g4, .ref g5, .ref g6, .ref g7, .ref g8, .int rc])), (g1, .inl (cI, 300, .inl G)), (g2, .inl (cI, 300, .inl nx)), (g3, .inl (cI, 300, .inl la)), (g4, .inl (cI, 300, .inl le)), (g5, .inl (cJ, 300, .inr (.inl by_))), (g6, .inl (cJ, 300, .inr (.inl he))), (g7, .inl (cI, 300, .inl lo)), (g8, .inl (cI, 300, .inl rk))] H → va_D A [(g0, .inr (1, [.ref g1, .ref g2, .ref g3, .ref g4, .ref g5, .ref g6, .ref g7, .ref g8, .int rc])), (g1, .inl (cI, 300, .inl G)), (g2, .inl (cI, 300, .inl nx)), (g3, .inl (cI, 300, .inl la)), (g4, .inl (cI, 300, .inl le)), (g5, .inl (cJ, 300, .inr (.inl by_))), (g6, .inl (cJ, 300, .inr (.inl he))), (g7, .inl (cI, 300, .inl lo)), (g8, .inl (cI, 300, .inl rk))] → va_S A s.heap H locs → lv_has ls 5 [(0, .ref g0), (1, .int (nI a)), (2, .int (nI b))] → W p l ev R s m args below meth c H locs cells slots Q (F0 m 38 ls [])) : ∀ (n : Nat) (q : List Nat) (f : Int32) (k : Nat) (fi : Nat → Int32), q.length = n → k + q.length ≤ 300 → Chain nx q f → (∀ x, x ∈ q → x < 300) → rlab q (nI a) fi = G → ∀ (H : Heap) (locs : List Loc) (ls : Array Slot), va_P (dC, dI) vwCl [(g0, .inr (1, [.ref g1, .ref g2, .ref g3, .ref g4, .ref g5, .ref g6, .ref g7, .ref g8, .int rc])), (g1, .inl (cI, 300, .inl fi)), (g2, .inl (cI, 300, .inl nx)), (g3, .inl (cI, 300, .inl la)), (g4, .inl (cI, 300, .inl le)), (g5, .inl (cJ, 300, .inr (.inl by_))), (g6, .inl (cJ, 300, .inr (.inl he))), (g7, .inl (cI, 300, .inl lo)), (g8, .inl (cI, 300, .inl rk))] H → va_D A [(g0, .inr (1, [.ref g1, .ref g2, .ref g3, .ref g4, .ref g5, .ref g6, .ref g7, .ref g8, .int rc])), (g1, .inl (cI, 300, .inl fi)), (g2, .inl (cI, 300, .inl nx)), (g3, .inl (cI, 300, .inl la)), (g4, .inl (cI, 300, .inl le)), (g5, .inl (cJ, 300, .inr (.inl by_))), (g6, .inl (cJ, 300, .inr (.inl he))), (g7, .inl (cI, 300, .inl lo)), (g8, .inl (cI, 300, .inl rk))] → va_S A s.heap H locs → lv_has ls 5 [(0, .ref g0), (1, .int (nI a)), (2, .int (nI b)), (3, .int f), (4, .int (nI k))] → W p l ev R s m args below meth c H locs cells slots Q (F0 m 5 ls []) := by
  have hin1 : ∀ w ∈ wsX10, w ∈ wsX1_join := by decide +kernel
  intro n
  induction n with
  | zero =>
    intro q f k fi hn hk hc hm hG H locs ls hP hD hS hl
    have hq : q = [] := List.length_eq_zero_iff.mp hn
    subst hq
    have hf : f = -1 := hc
    subst hf
    rw [rlab_nil] at hG
    subst hG
    refine lv_iload hx hb dX1_join_5 (lv_at hl 4 rfl) ?_
    refine lv_sipush (v := 300) hx hb dX1_join_7 (by decide) ?_
    refine lv_icmp_ge (tgt := 38) hx hb dX1_join_10 (by decide) (fun c_1 => ?_) (fun c_1 => ?_)
    · -- pc 10, side 0
      exact kn   H locs ls hP hD hS (lv_sub hl [0, 1, 2] rfl)
    · -- pc 10, side 1
      refine lv_iload_n hx hb dX1_join_13 rfl (lv_at hl 3 rfl) ?_
      refine lv_iconst (v := (-1)) hx hb dX1_join_14 (by decide) ?_
      refine lv_icmp_eq (tgt := 38) hx hb dX1_join_15 (by decide) (fun c_2 => ?_) (fun c_2 => ?_)
      · -- pc 15, side 0
        exact kn   H locs ls hP hD hS (lv_sub hl [0, 1, 2] rfl)
      · -- pc 15, side 1
        exact absurd rfl c_2
  | succ n ih =>
    intro q f k fi hn hk hc hm hG H locs ls hP hD hS hl
    obtain ⟨x, q, rfl⟩ : ∃ x q', q = x :: q' := by cases q with | nil => cases hn | cons x q => exact ⟨x, q, rfl⟩
    obtain ⟨hf, hc⟩ := hc
    subst hf
    have hx9 : x < 300 := hm x List.mem_cons_self
    rw [List.length_cons] at hn hk
    refine lv_iload hx hb dX1_join_5 (lv_at hl 4 rfl) ?_
    refine lv_sipush (v := 300) hx hb dX1_join_7 (by decide) ?_
    refine lv_icmp_ge (tgt := 38) hx hb dX1_join_10 (by decide) (fun c_3 => ?_) (fun c_3 => ?_)
    · -- pc 10, side 0
      exact absurd (show nI 300 ≤ nI k from c_3) (nI_ge (show k < 300 by omega) (by omega))
    · -- pc 10, side 1
      refine lv_iload_n hx hb dX1_join_13 rfl (lv_at hl 3 rfl) ?_
      refine lv_iconst (v := (-1)) hx hb dX1_join_14 (by decide) ?_
      refine lv_icmp_eq (tgt := 38) hx hb dX1_join_15 (by decide) (fun c_4 => ?_) (fun c_4 => ?_)
      · -- pc 15, side 0
        exact absurd c_4 (nI_m1 (by omega))
      · -- pc 15, side 1
        refine lv_aload_n hx hb dX1_join_18 rfl (lv_at hl 0 rfl) ?_
        refine va_get (D := (dC, dI)) (ci := 1) (v := .ref g1) (C := RX1) (T := TX1) (N := 9) hx hb hts hin1 hown hK hP 0 rfl rfl 0 (by decide) (hts (.fieldLink RX1 9 "CallClusters$Clustering" "first" "[I") (by decide +kernel)) (fun _ h9 => h9) rfl dX1_join_19 ?_
        refine lv_iload_n hx hb dX1_join_22 rfl (lv_at hl 3 rfl) ?_
        refine lv_iload_n hx hb dX1_join_23 rfl (lv_at hl 1 rfl) ?_
        refine va_iast hx hb hK hP hD hS 1 0 rfl rfl (inn hx9 (by omega)) dX1_join_24 (fun H locs hP hD hS => ?_)
        have hf24 : upd fi ((nI x).toNatClampNeg) (nI a) = upd fi x (nI a) := by rw [ix_n (by omega)]
        have hP : va_P (dC, dI) vwCl [(g0, .inr (1, [.ref g1, .ref g2, .ref g3, .ref g4, .ref g5, .ref g6, .ref g7, .ref g8, .int rc])), (g1, .inl (cI, 300, .inl (upd fi ((nI x).toNatClampNeg) (nI a)))), (g2, .inl (cI, 300, .inl nx)), (g3, .inl (cI, 300, .inl la)), (g4, .inl (cI, 300, .inl le)), (g5, .inl (cJ, 300, .inr (.inl by_))), (g6, .inl (cJ, 300, .inr (.inl he))), (g7, .inl (cI, 300, .inl lo)), (g8, .inl (cI, 300, .inl rk))] H := hP
        have hD : va_D A [(g0, .inr (1, [.ref g1, .ref g2, .ref g3, .ref g4, .ref g5, .ref g6, .ref g7, .ref g8, .int rc])), (g1, .inl (cI, 300, .inl (upd fi ((nI x).toNatClampNeg) (nI a)))), (g2, .inl (cI, 300, .inl nx)), (g3, .inl (cI, 300, .inl la)), (g4, .inl (cI, 300, .inl le)), (g5, .inl (cJ, 300, .inr (.inl by_))), (g6, .inl (cJ, 300, .inr (.inl he))), (g7, .inl (cI, 300, .inl lo)), (g8, .inl (cI, 300, .inl rk))] := hD
        rw [hf24] at hP hD
        refine lv_aload_n hx hb dX1_join_25 rfl (lv_at hl 0 rfl) ?_
        refine va_get (D := (dC, dI)) (ci := 1) (v := .ref g2) (C := RX1) (T := TX1) (N := 9) hx hb hts hin1 hown hK hP 0 rfl rfl 1 (by decide) (hts (.fieldLink RX1 15 "CallClusters$Clustering" "next" "[I") (by decide +kernel)) (fun _ h9 => h9) rfl dX1_join_26 ?_
        refine lv_iload_n hx hb dX1_join_29 rfl (lv_at hl 3 rfl) ?_
        refine va_iald hx hb hK hP 2 0 rfl rfl (inn hx9 (by omega)) dX1_join_30 ?_
        refine tp_i (y := nx x) (by rw [ix_n (by omega)]) ?_
        refine lv_istore_n (lv' := [(3, .int (nx x)), (0, .ref g0), (1, .int (nI a)), (2, .int (nI b)), (4, .int (nI k))]) hx hb dX1_join_31 rfl hl (by decide) rfl (fun ls hl => ?_)
        refine lv_iinc (v := nI (k + 1)) (lv' := [(4, .int (nI (k + 1))), (3, .int (nx x)), (0, .ref g0), (1, .int (nI a)), (2, .int (nI b))]) hx hb dX1_join_32 hl (k := 4) rfl (by exact nI_1 k) (by decide) rfl (fun ls hl => ?_)
        refine lv_goto (tgt := 5) hx hb dX1_join_35 (by decide) ?_
        exact ih q (nx x) (k + 1) (upd fi x (nI a)) (by omega) (by omega) (hc) (fun y hy => hm y (List.mem_cons_of_mem _ hy)) (by rw [rlab_cons]; exact hG) H locs ls hP hD hS (lv_sub hl [2, 3, 4, 1, 0] rfl)
set_option maxHeartbeats 4000000 in
set_option maxRecDepth 100000 in
theorem ct_X1_join (l : Launch) (dC : Nat → ClassId) (dI : Nat → Nat → Nat) (cI cJ cZ : ClassId) (sz : Nat) (g0 : Nat) (g1 : Nat) (g2 : Nat) (g3 : Nat) (g4 : Nat) (g5 : Nat) (g6 : Nat) (g7 : Nat) (g8 : Nat) (fi nx la le : Nat → Int32) (by_ he : Nat → Int64) (lo rk : Nat → Int32) (rc : Int32) (a b : Nat) (q : List Nat) (ha : a < 300) (hb9 : b < 300) (hq : q.length ≤ 300) (hc : Chain nx q (nI b)) (hm : ∀ x, x ∈ q → x < 300) (hla : vp_in (la a) 300) : Met l yX1_join wsX1_join ({ frames := 1, cells := 0, slots := 0, locals := 15 }) (va_Pc [.ref g0, .int (nI a), .int (nI b)] (fun U => U.heap.size = sz ∧ va_P (dC, dI) vwCl [(g0, .inr (1, [.ref g1, .ref g2, .ref g3, .ref g4, .ref g5, .ref g6, .ref g7, .ref g8, .int rc])), (g1, .inl (cI, 300, .inl fi)), (g2, .inl (cI, 300, .inl nx)), (g3, .inl (cI, 300, .inl la)), (g4, .inl (cI, 300, .inl le)), (g5, .inl (cJ, 300, .inr (.inl by_))), (g6, .inl (cJ, 300, .inr (.inl he))), (g7, .inl (cI, 300, .inl lo)), (g8, .inl (cI, 300, .inl rk))] U.heap ∧ va_K (dC, dI) vwCl [(cI, .int), (cJ, .long), (cZ, .boolean)] U ∧ va_D (fun _ => True) [(g0, .inr (1, [.ref g1, .ref g2, .ref g3, .ref g4, .ref g5, .ref g6, .ref g7, .ref g8, .int rc])), (g1, .inl (cI, 300, .inl fi)), (g2, .inl (cI, 300, .inl nx)), (g3, .inl (cI, 300, .inl la)), (g4, .inl (cI, 300, .inl le)), (g5, .inl (cJ, 300, .inr (.inl by_))), (g6, .inl (cJ, 300, .inr (.inl he))), (g7, .inl (cI, 300, .inl lo)), (g8, .inl (cI, 300, .inl rk))])) (va_Qv (fun (uu : Unit) => True) (fun (uu : Unit) (t : State) => va_P (dC, dI) vwCl [(g0, .inr (1, [.ref g1, .ref g2, .ref g3, .ref g4, .ref g5, .ref g6, .ref g7, .ref g8, .int rc])), (g1, .inl (cI, 300, .inl (rlab q (nI a) fi))), (g2, .inl (cI, 300, .inl (upd nx ((la a).toNatClampNeg) (nI b)))), (g3, .inl (cI, 300, .inl (upd la a (la b)))), (g4, .inl (cI, 300, .inl (upd le a (if le b < le a then le b else le a)))), (g5, .inl (cJ, 300, .inr (.inl (vp_updL by_ a (by_ a + by_ b))))), (g6, .inl (cJ, 300, .inr (.inl (vp_updL he a (he a + he b))))), (g7, .inl (cI, 300, .inl lo)), (g8, .inl (cI, 300, .inl rk))] t.heap ∧ va_K (dC, dI) vwCl [(cI, .int), (cJ, .long), (cZ, .boolean)] t ∧ va_D (va_A [(g0, .inr (1, [.ref g1, .ref g2, .ref g3, .ref g4, .ref g5, .ref g6, .ref g7, .ref g8, .int rc])), (g1, .inl (cI, 300, .inl fi)), (g2, .inl (cI, 300, .inl nx)), (g3, .inl (cI, 300, .inl la)), (g4, .inl (cI, 300, .inl le)), (g5, .inl (cJ, 300, .inr (.inl by_))), (g6, .inl (cJ, 300, .inr (.inl he))), (g7, .inl (cI, 300, .inl lo)), (g8, .inl (cI, 300, .inl rk))] sz) [(g0, .inr (1, [.ref g1, .ref g2, .ref g3, .ref g4, .ref g5, .ref g6, .ref g7, .ref g8, .int rc])), (g1, .inl (cI, 300, .inl (rlab q (nI a) fi))), (g2, .inl (cI, 300, .inl (upd nx ((la a).toNatClampNeg) (nI b)))), (g3, .inl (cI, 300, .inl (upd la a (la b)))), (g4, .inl (cI, 300, .inl (upd le a (if le b < le a then le b else le a)))), (g5, .inl (cJ, 300, .inr (.inl (vp_updL by_ a (by_ a + by_ b))))), (g6, .inl (cJ, 300, .inr (.inl (vp_updL he a (he a + he b))))), (g7, .inl (cI, 300, .inl lo)), (g8, .inl (cI, 300, .inl rk))]) (va_A [(g0, .inr (1, [.ref g1, .ref g2, .ref g3, .ref g4, .ref g5, .ref g6, .ref g7, .ref g8, .int rc])), (g1, .inl (cI, 300, .inl fi)), (g2, .inl (cI, 300, .inl nx)), (g3, .inl (cI, 300, .inl la)), (g4, .inl (cI, 300, .inl le)), (g5, .inl (cJ, 300, .inr (.inl by_))), (g6, .inl (cJ, 300, .inr (.inl he))), (g7, .inl (cI, 300, .inl lo)), (g8, .inl (cI, 300, .inl rk))] sz)) 0 0 (va_A [(g0, .inr (1, [.ref g1, .ref g2, .ref g3, .ref g4, .ref g5, .ref g6, .ref g7, .ref g8, .int rc])), (g1, .inl (cI, 300, .inl fi)), (g2, .inl (cI, 300, .inl nx)), (g3, .inl (cI, 300, .inl la)), (g4, .inl (cI, 300, .inl le)), (g5, .inl (cJ, 300, .inr (.inl by_))), (g6, .inl (cJ, 300, .inr (.inl he))), (g7, .inl (cI, 300, .inl lo)), (g8, .inl (cI, 300, .inl rk))] sz) := by
  refine Met.ofW (cc := cX1_join) (maxL := 5) (ret := none) (by decide) rfl ?_
  intro p ev s m args below meth c s₁ Bd hml hv
  obtain ⟨rfl, hsz, hP, hK, hD0⟩ := hv
  have hx := Bd.exec
  have hb := Bd.bytes
  have hr := Bd.returns
  have hts := atoms_spec (ws := wsX1_join) Bd.pre
  have hown : s.vm.findClass RX1 = some m.cls := findClass_of_methodNamed Bd.named
  have hlocks := Bd.notSynchronized
  have hin1 : ∀ w ∈ wsX10, w ∈ wsX1_join := by decide +kernel
  subst hsz
  have hD := hD0.self (sz := s.heap.size)
  generalize hAe : va_A [(g0, .inr (1, [.ref g1, .ref g2, .ref g3, .ref g4, .ref g5, .ref g6, .ref g7, .ref g8, .int rc])), (g1, .inl (cI, 300, .inl fi)), (g2, .inl (cI, 300, .inl nx)), (g3, .inl (cI, 300, .inl la)), (g4, .inl (cI, 300, .inl le)), (g5, .inl (cJ, 300, .inr (.inl by_))), (g6, .inl (cJ, 300, .inr (.inl he))), (g7, .inl (cI, 300, .inl lo)), (g8, .inl (cI, 300, .inl rk))] s.heap.size = A at hD ⊢
  have hA : ∀ q : Nat, s.heap.size ≤ q → A q := fun q h => by rw [← hAe]; exact Or.inr h
  have hS : va_S A s.heap s.heap [] := va_S.rf
  have hl := lv_entry ([.ref g0, .int (nI a), .int (nI b)]) (n := 5) (Nat.le_of_ble_eq_true rfl)
  rw [lg_entry_eq]
  generalize (lg_sl ([.ref g0, .int (nI a), .int (nI b)]) ++ List.replicate (5 - (lg_sl ([.ref g0, .int (nI a), .int (nI b)])).length) Slot.unset).toArray = ls at hl ⊢
  have hl : lv_has ls 5 [(0, .ref g0), (1, .int (nI a)), (2, .int (nI b))] := hl
  generalize hHe : s.heap = H at hP ⊢
  have hS : va_S A s.heap H [] := hHe ▸ hS
  refine lv_iload_n hx hb dX1_join_0 rfl (lv_at hl 2 rfl) ?_
  refine lv_istore_n (lv' := [(3, .int (nI b)), (0, .ref g0), (1, .int (nI a)), (2, .int (nI b))]) hx hb dX1_join_1 rfl hl (by decide) rfl (fun ls hl => ?_)
  refine lv_iconst (v := 0) hx hb dX1_join_2 (by decide) ?_
  refine tp_i (y := nI 0) (nI_0.symm) ?_
  refine lv_istore (lv' := [(4, .int (nI 0)), (3, .int (nI b)), (0, .ref g0), (1, .int (nI a)), (2, .int (nI b))]) hx hb dX1_join_3 hl (by decide) rfl (fun ls hl => ?_)
  refine lpX1_join (a := a) (b := b) (G := rlab q (nI a) fi) hx hb hml hts hown hK hA  (fun  H locs ls hP hD hS hl => ?_) (q.length) q _ 0 fi (rfl) (by omega) (hc) (hm) (rfl) H _ ls hP hD hS (lv_sub hl [2, 3, 4, 1, 0] rfl)
  · -- kn
    refine lv_aload_n hx hb dX1_join_38 rfl (lv_at hl 0 rfl) ?_
    refine va_get (D := (dC, dI)) (ci := 1) (v := .ref g2) (C := RX1) (T := TX1) (N := 9) hx hb hts hin1 hown hK hP 0 rfl rfl 1 (by decide) (hts (.fieldLink RX1 15 "CallClusters$Clustering" "next" "[I") (by decide +kernel)) (fun _ h9 => h9) rfl dX1_join_39 ?_
    refine lv_aload_n hx hb dX1_join_42 rfl (lv_at hl 0 rfl) ?_
    refine va_get (D := (dC, dI)) (ci := 1) (v := .ref g3) (C := RX1) (T := TX1) (N := 9) hx hb hts hin1 hown hK hP 0 rfl rfl 2 (by decide) (hts (.fieldLink RX1 18 "CallClusters$Clustering" "last" "[I") (by decide +kernel)) (fun _ h9 => h9) rfl dX1_join_43 ?_
    refine lv_iload_n hx hb dX1_join_46 rfl (lv_at hl 1 rfl) ?_
    refine va_iald hx hb hK hP 3 0 rfl rfl (inn ha (by omega)) dX1_join_47 ?_
    refine tp_i (y := la a) (by rw [ix_n (by omega)]) ?_
    refine lv_iload_n hx hb dX1_join_48 rfl (lv_at hl 2 rfl) ?_
    refine va_iast hx hb hK hP hD hS 2 0 rfl rfl (hla) dX1_join_49 (fun H locs hP hD hS => ?_)
    have hP : va_P (dC, dI) vwCl [(g0, .inr (1, [.ref g1, .ref g2, .ref g3, .ref g4, .ref g5, .ref g6, .ref g7, .ref g8, .int rc])), (g1, .inl (cI, 300, .inl (rlab q (nI a) fi))), (g2, .inl (cI, 300, .inl (upd nx ((la a).toNatClampNeg) (nI b)))), (g3, .inl (cI, 300, .inl la)), (g4, .inl (cI, 300, .inl le)), (g5, .inl (cJ, 300, .inr (.inl by_))), (g6, .inl (cJ, 300, .inr (.inl he))), (g7, .inl (cI, 300, .inl lo)), (g8, .inl (cI, 300, .inl rk))] H := hP
    have hD : va_D A [(g0, .inr (1, [.ref g1, .ref g2, .ref g3, .ref g4, .ref g5, .ref g6, .ref g7, .ref g8, .int rc])), (g1, .inl (cI, 300, .inl (rlab q (nI a) fi))), (g2, .inl (cI, 300, .inl (upd nx ((la a).toNatClampNeg) (nI b)))), (g3, .inl (cI, 300, .inl la)), (g4, .inl (cI, 300, .inl le)), (g5, .inl (cJ, 300, .inr (.inl by_))), (g6, .inl (cJ, 300, .inr (.inl he))), (g7, .inl (cI, 300, .inl lo)), (g8, .inl (cI, 300, .inl rk))] := hD
    refine lv_aload_n hx hb dX1_join_50 rfl (lv_at hl 0 rfl) ?_
    refine va_get (D := (dC, dI)) (ci := 1) (v := .ref g3) (C := RX1) (T := TX1) (N := 9) hx hb hts hin1 hown hK hP 0 rfl rfl 2 (by decide) (hts (.fieldLink RX1 18 "CallClusters$Clustering" "last" "[I") (by decide +kernel)) (fun _ h9 => h9) rfl dX1_join_51 ?_
    refine lv_iload_n hx hb dX1_join_54 rfl (lv_at hl 1 rfl) ?_
    refine lv_aload_n hx hb dX1_join_55 rfl (lv_at hl 0 rfl) ?_
    refine va_get (D := (dC, dI)) (ci := 1) (v := .ref g3) (C := RX1) (T := TX1) (N := 9) hx hb hts hin1 hown hK hP 0 rfl rfl 2 (by decide) (hts (.fieldLink RX1 18 "CallClusters$Clustering" "last" "[I") (by decide +kernel)) (fun _ h9 => h9) rfl dX1_join_56 ?_
    refine lv_iload_n hx hb dX1_join_59 rfl (lv_at hl 2 rfl) ?_
    refine va_iald hx hb hK hP 3 0 rfl rfl (inn hb9 (by omega)) dX1_join_60 ?_
    refine tp_i (y := la b) (by rw [ix_n (by omega)]) ?_
    refine va_iast hx hb hK hP hD hS 3 0 rfl rfl (inn ha (by omega)) dX1_join_61 (fun H locs hP hD hS => ?_)
    have hf61 : upd la ((nI a).toNatClampNeg) (la b) = upd la a (la b) := by rw [ix_n (by omega)]
    have hP : va_P (dC, dI) vwCl [(g0, .inr (1, [.ref g1, .ref g2, .ref g3, .ref g4, .ref g5, .ref g6, .ref g7, .ref g8, .int rc])), (g1, .inl (cI, 300, .inl (rlab q (nI a) fi))), (g2, .inl (cI, 300, .inl (upd nx ((la a).toNatClampNeg) (nI b)))), (g3, .inl (cI, 300, .inl (upd la ((nI a).toNatClampNeg) (la b)))), (g4, .inl (cI, 300, .inl le)), (g5, .inl (cJ, 300, .inr (.inl by_))), (g6, .inl (cJ, 300, .inr (.inl he))), (g7, .inl (cI, 300, .inl lo)), (g8, .inl (cI, 300, .inl rk))] H := hP
    have hD : va_D A [(g0, .inr (1, [.ref g1, .ref g2, .ref g3, .ref g4, .ref g5, .ref g6, .ref g7, .ref g8, .int rc])), (g1, .inl (cI, 300, .inl (rlab q (nI a) fi))), (g2, .inl (cI, 300, .inl (upd nx ((la a).toNatClampNeg) (nI b)))), (g3, .inl (cI, 300, .inl (upd la ((nI a).toNatClampNeg) (la b)))), (g4, .inl (cI, 300, .inl le)), (g5, .inl (cJ, 300, .inr (.inl by_))), (g6, .inl (cJ, 300, .inr (.inl he))), (g7, .inl (cI, 300, .inl lo)), (g8, .inl (cI, 300, .inl rk))] := hD
    rw [hf61] at hP hD
    refine lv_aload_n hx hb dX1_join_62 rfl (lv_at hl 0 rfl) ?_
    refine va_get (D := (dC, dI)) (ci := 1) (v := .ref g4) (C := RX1) (T := TX1) (N := 9) hx hb hts hin1 hown hK hP 0 rfl rfl 3 (by decide) (hts (.fieldLink RX1 21 "CallClusters$Clustering" "least" "[I") (by decide +kernel)) (fun _ h9 => h9) rfl dX1_join_63 ?_
    refine lv_iload_n hx hb dX1_join_66 rfl (lv_at hl 1 rfl) ?_
    refine lv_aload_n hx hb dX1_join_67 rfl (lv_at hl 0 rfl) ?_
    refine va_get (D := (dC, dI)) (ci := 1) (v := .ref g4) (C := RX1) (T := TX1) (N := 9) hx hb hts hin1 hown hK hP 0 rfl rfl 3 (by decide) (hts (.fieldLink RX1 21 "CallClusters$Clustering" "least" "[I") (by decide +kernel)) (fun _ h9 => h9) rfl dX1_join_68 ?_
    refine lv_iload_n hx hb dX1_join_71 rfl (lv_at hl 1 rfl) ?_
    refine va_iald hx hb hK hP 4 0 rfl rfl (inn ha (by omega)) dX1_join_72 ?_
    refine tp_i (y := le a) (by rw [ix_n (by omega)]) ?_
    refine lv_aload_n hx hb dX1_join_73 rfl (lv_at hl 0 rfl) ?_
    refine va_get (D := (dC, dI)) (ci := 1) (v := .ref g4) (C := RX1) (T := TX1) (N := 9) hx hb hts hin1 hown hK hP 0 rfl rfl 3 (by decide) (hts (.fieldLink RX1 21 "CallClusters$Clustering" "least" "[I") (by decide +kernel)) (fun _ h9 => h9) rfl dX1_join_74 ?_
    refine lv_iload_n hx hb dX1_join_77 rfl (lv_at hl 2 rfl) ?_
    refine va_iald hx hb hK hP 4 0 rfl rfl (inn hb9 (by omega)) dX1_join_78 ?_
    refine tp_i (y := le b) (by rw [ix_n (by omega)]) ?_
    refine va_mmin hx hb (hml.trans hl.1.symm) hown (hts (.methodLink RX1 74 Lib.Math.min.name) (by decide +kernel)) (hts (.static Lib.Math.min.name) (by decide +kernel)) (hts (.initialized "java/lang/Math") (by decide +kernel)) (hts (.code Lib.Math.min.name Lib.Math.min.code 2 (some .int)) (by decide +kernel)) (Nat.le_of_ble_eq_true rfl) (Nat.le_of_ble_eq_true rfl) (Nat.zero_le _) (Nat.zero_le _) dX1_join_79 ?_
    refine va_iast hx hb hK hP hD hS 4 0 rfl rfl (inn ha (by omega)) dX1_join_82 (fun H locs hP hD hS => ?_)
    have hf82 : upd le ((nI a).toNatClampNeg) (if le b < le a then le b else le a) = upd le a (if le b < le a then le b else le a) := by rw [ix_n (by omega)]
    have hP : va_P (dC, dI) vwCl [(g0, .inr (1, [.ref g1, .ref g2, .ref g3, .ref g4, .ref g5, .ref g6, .ref g7, .ref g8, .int rc])), (g1, .inl (cI, 300, .inl (rlab q (nI a) fi))), (g2, .inl (cI, 300, .inl (upd nx ((la a).toNatClampNeg) (nI b)))), (g3, .inl (cI, 300, .inl (upd la a (la b)))), (g4, .inl (cI, 300, .inl (upd le ((nI a).toNatClampNeg) (if le b < le a then le b else le a)))), (g5, .inl (cJ, 300, .inr (.inl by_))), (g6, .inl (cJ, 300, .inr (.inl he))), (g7, .inl (cI, 300, .inl lo)), (g8, .inl (cI, 300, .inl rk))] H := hP
    have hD : va_D A [(g0, .inr (1, [.ref g1, .ref g2, .ref g3, .ref g4, .ref g5, .ref g6, .ref g7, .ref g8, .int rc])), (g1, .inl (cI, 300, .inl (rlab q (nI a) fi))), (g2, .inl (cI, 300, .inl (upd nx ((la a).toNatClampNeg) (nI b)))), (g3, .inl (cI, 300, .inl (upd la a (la b)))), (g4, .inl (cI, 300, .inl (upd le ((nI a).toNatClampNeg) (if le b < le a then le b else le a)))), (g5, .inl (cJ, 300, .inr (.inl by_))), (g6, .inl (cJ, 300, .inr (.inl he))), (g7, .inl (cI, 300, .inl lo)), (g8, .inl (cI, 300, .inl rk))] := hD
    rw [hf82] at hP hD
    refine lv_aload_n hx hb dX1_join_83 rfl (lv_at hl 0 rfl) ?_
    refine va_get (D := (dC, dI)) (ci := 1) (v := .ref g5) (C := RX1) (T := TX1) (N := 9) hx hb hts hin1 hown hK hP 0 rfl rfl 4 (by decide) (hts (.fieldLink RX1 24 "CallClusters$Clustering" "bytes" "[J") (by decide +kernel)) (fun _ h9 => h9) rfl dX1_join_84 ?_
    refine lv_iload_n hx hb dX1_join_87 rfl (lv_at hl 1 rfl) ?_
    refine lv_dup2_11 hx hb dX1_join_88 rfl rfl ?_
    refine va_lald hx hb hK hP 5 1 rfl rfl (inn ha (by omega)) dX1_join_89 ?_
    refine tp_l (y := by_ a) (by rw [ix_n (by omega)]) ?_
    refine lv_aload_n hx hb dX1_join_90 rfl (lv_at hl 0 rfl) ?_
    refine va_get (D := (dC, dI)) (ci := 1) (v := .ref g5) (C := RX1) (T := TX1) (N := 9) hx hb hts hin1 hown hK hP 0 rfl rfl 4 (by decide) (hts (.fieldLink RX1 24 "CallClusters$Clustering" "bytes" "[J") (by decide +kernel)) (fun _ h9 => h9) rfl dX1_join_91 ?_
    refine lv_iload_n hx hb dX1_join_94 rfl (lv_at hl 2 rfl) ?_
    refine va_lald hx hb hK hP 5 1 rfl rfl (inn hb9 (by omega)) dX1_join_95 ?_
    refine tp_l (y := by_ b) (by rw [ix_n (by omega)]) ?_
    refine lv_ladd hx hb dX1_join_96 ?_
    refine va_last hx hb hK hP hD hS 5 1 rfl rfl (inn ha (by omega)) dX1_join_97 (fun H locs hP hD hS => ?_)
    have hf97 : vp_updL by_ ((nI a).toNatClampNeg) ((by_ a) + (by_ b)) = vp_updL by_ a (by_ a + by_ b) := by rw [ix_n (by omega)]
    have hP : va_P (dC, dI) vwCl [(g0, .inr (1, [.ref g1, .ref g2, .ref g3, .ref g4, .ref g5, .ref g6, .ref g7, .ref g8, .int rc])), (g1, .inl (cI, 300, .inl (rlab q (nI a) fi))), (g2, .inl (cI, 300, .inl (upd nx ((la a).toNatClampNeg) (nI b)))), (g3, .inl (cI, 300, .inl (upd la a (la b)))), (g4, .inl (cI, 300, .inl (upd le a (if le b < le a then le b else le a)))), (g5, .inl (cJ, 300, .inr (.inl (vp_updL by_ ((nI a).toNatClampNeg) ((by_ a) + (by_ b)))))), (g6, .inl (cJ, 300, .inr (.inl he))), (g7, .inl (cI, 300, .inl lo)), (g8, .inl (cI, 300, .inl rk))] H := hP
    have hD : va_D A [(g0, .inr (1, [.ref g1, .ref g2, .ref g3, .ref g4, .ref g5, .ref g6, .ref g7, .ref g8, .int rc])), (g1, .inl (cI, 300, .inl (rlab q (nI a) fi))), (g2, .inl (cI, 300, .inl (upd nx ((la a).toNatClampNeg) (nI b)))), (g3, .inl (cI, 300, .inl (upd la a (la b)))), (g4, .inl (cI, 300, .inl (upd le a (if le b < le a then le b else le a)))), (g5, .inl (cJ, 300, .inr (.inl (vp_updL by_ ((nI a).toNatClampNeg) ((by_ a) + (by_ b)))))), (g6, .inl (cJ, 300, .inr (.inl he))), (g7, .inl (cI, 300, .inl lo)), (g8, .inl (cI, 300, .inl rk))] := hD
    rw [hf97] at hP hD
    refine lv_aload_n hx hb dX1_join_98 rfl (lv_at hl 0 rfl) ?_
    refine va_get (D := (dC, dI)) (ci := 1) (v := .ref g6) (C := RX1) (T := TX1) (N := 9) hx hb hts hin1 hown hK hP 0 rfl rfl 5 (by decide) (hts (.fieldLink RX1 28 "CallClusters$Clustering" "heat" "[J") (by decide +kernel)) (fun _ h9 => h9) rfl dX1_join_99 ?_
    refine lv_iload_n hx hb dX1_join_102 rfl (lv_at hl 1 rfl) ?_
    refine lv_dup2_11 hx hb dX1_join_103 rfl rfl ?_
    refine va_lald hx hb hK hP 6 1 rfl rfl (inn ha (by omega)) dX1_join_104 ?_
    refine tp_l (y := he a) (by rw [ix_n (by omega)]) ?_
    refine lv_aload_n hx hb dX1_join_105 rfl (lv_at hl 0 rfl) ?_
    refine va_get (D := (dC, dI)) (ci := 1) (v := .ref g6) (C := RX1) (T := TX1) (N := 9) hx hb hts hin1 hown hK hP 0 rfl rfl 5 (by decide) (hts (.fieldLink RX1 28 "CallClusters$Clustering" "heat" "[J") (by decide +kernel)) (fun _ h9 => h9) rfl dX1_join_106 ?_
    refine lv_iload_n hx hb dX1_join_109 rfl (lv_at hl 2 rfl) ?_
    refine va_lald hx hb hK hP 6 1 rfl rfl (inn hb9 (by omega)) dX1_join_110 ?_
    refine tp_l (y := he b) (by rw [ix_n (by omega)]) ?_
    refine lv_ladd hx hb dX1_join_111 ?_
    refine va_last hx hb hK hP hD hS 6 1 rfl rfl (inn ha (by omega)) dX1_join_112 (fun H locs hP hD hS => ?_)
    have hf112 : vp_updL he ((nI a).toNatClampNeg) ((he a) + (he b)) = vp_updL he a (he a + he b) := by rw [ix_n (by omega)]
    have hP : va_P (dC, dI) vwCl [(g0, .inr (1, [.ref g1, .ref g2, .ref g3, .ref g4, .ref g5, .ref g6, .ref g7, .ref g8, .int rc])), (g1, .inl (cI, 300, .inl (rlab q (nI a) fi))), (g2, .inl (cI, 300, .inl (upd nx ((la a).toNatClampNeg) (nI b)))), (g3, .inl (cI, 300, .inl (upd la a (la b)))), (g4, .inl (cI, 300, .inl (upd le a (if le b < le a then le b else le a)))), (g5, .inl (cJ, 300, .inr (.inl (vp_updL by_ a (by_ a + by_ b))))), (g6, .inl (cJ, 300, .inr (.inl (vp_updL he ((nI a).toNatClampNeg) ((he a) + (he b)))))), (g7, .inl (cI, 300, .inl lo)), (g8, .inl (cI, 300, .inl rk))] H := hP
    have hD : va_D A [(g0, .inr (1, [.ref g1, .ref g2, .ref g3, .ref g4, .ref g5, .ref g6, .ref g7, .ref g8, .int rc])), (g1, .inl (cI, 300, .inl (rlab q (nI a) fi))), (g2, .inl (cI, 300, .inl (upd nx ((la a).toNatClampNeg) (nI b)))), (g3, .inl (cI, 300, .inl (upd la a (la b)))), (g4, .inl (cI, 300, .inl (upd le a (if le b < le a then le b else le a)))), (g5, .inl (cJ, 300, .inr (.inl (vp_updL by_ a (by_ a + by_ b))))), (g6, .inl (cJ, 300, .inr (.inl (vp_updL he ((nI a).toNatClampNeg) ((he a) + (he b)))))), (g7, .inl (cI, 300, .inl lo)), (g8, .inl (cI, 300, .inl rk))] := hD
    rw [hf112] at hP hD
    have hP9 : va_P (dC, dI) vwCl [(g0, .inr (1, [.ref g1, .ref g2, .ref g3, .ref g4, .ref g5, .ref g6, .ref g7, .ref g8, .int rc])), (g1, .inl (cI, 300, .inl (rlab q (nI a) fi))), (g2, .inl (cI, 300, .inl (upd nx ((la a).toNatClampNeg) (nI b)))), (g3, .inl (cI, 300, .inl (upd la a (la b)))), (g4, .inl (cI, 300, .inl (upd le a (if le b < le a then le b else le a)))), (g5, .inl (cJ, 300, .inr (.inl (vp_updL by_ a (by_ a + by_ b))))), (g6, .inl (cJ, 300, .inr (.inl (vp_updL he a (he a + he b))))), (g7, .inl (cI, 300, .inl lo)), (g8, .inl (cI, 300, .inl rk))] H := hP
    have hD9 : va_D A [(g0, .inr (1, [.ref g1, .ref g2, .ref g3, .ref g4, .ref g5, .ref g6, .ref g7, .ref g8, .int rc])), (g1, .inl (cI, 300, .inl (rlab q (nI a) fi))), (g2, .inl (cI, 300, .inl (upd nx ((la a).toNatClampNeg) (nI b)))), (g3, .inl (cI, 300, .inl (upd la a (la b)))), (g4, .inl (cI, 300, .inl (upd le a (if le b < le a then le b else le a)))), (g5, .inl (cJ, 300, .inr (.inl (vp_updL by_ a (by_ a + by_ b))))), (g6, .inl (cJ, 300, .inr (.inl (vp_updL he a (he a + he b))))), (g7, .inl (cI, 300, .inl lo)), (g8, .inl (cI, 300, .inl rk))] := hD
    exact W.vret hx hb hr (fun t ht hW => ⟨⟨(), rfl, trivial, by rw [ht]; exact hP9, va_K.moved hW.alike hK, hD9⟩, hS.F ht⟩) hS.2.2 dX1_join_113
set_option maxHeartbeats 4000000 in
set_option maxRecDepth 100000 in
theorem lpX1_rank_in {p : Program} {l : Launch} {ev : Env} {s : State} {m : MethodId} {args : Array Value} {below : List Frame} {meth : Method} {c : Code} {Q : State → Prop} {A : Nat → Prop} {dC : Nat → ClassId} {dI : Nat → Nat → Nat} {cI cJ cZ : ClassId} (hx : p.tables.exec = Jvm.exec) (hb : c.code = cX1_rank) (hml : c.maxLocals = 3) (hts : ∀ w ∈ wsX1_rank, w.before args s = true) (hown : s.vm.findClass RX1 = some m.cls) (hK : va_K (dC, dI) vwCl [(cI, .int), (cJ, .long), (cZ, .boolean)] s) (hA : ∀ q : Nat, s.heap.size ≤ q → A q) {g0 : Nat} {g1 : Nat} {g2 : Nat} {g3 : Nat} {g4 : Nat} {g5 : Nat} {g6 : Nat} {g7 : Nat} {g8 : Nat} {fi nx la le : Nat → Int32} {by_ he : Nat → Int64} {lo rk : Nat → Int32} {rc : Int32} {g : Nat → Int32} {cnt k : Nat} (hk : k < 300) (hc : cnt ≤ k) (hfk : vp_in (fi k) 300) (hg : ∀ j, j < cnt → vp_in (g j) 300)  (kn : ∀ (a : Nat), a ≤ cnt → bpos (fun j => !decide (densI (by_ (fi k).toNatClampNeg) (by_ (g j).toNatClampNeg) (he (fi k).toNatClampNeg) (he (g j).toNatClampNeg) = 0)) cnt = a → ∀ (H : Heap) (locs : List Loc) (ls : Array Slot), va_P (dC, dI) vwCl [(g0, .inr (1, [.ref g1, .ref g2, .ref g3, .ref g4, .ref g5, .ref g6, .ref g7, .ref g8, .int (nI cnt)])), (g1, .inl (cI, 300, .inl fi)), (g2, .inl (cI, 300, .inl nx)), (g3, .inl (cI, 300, .inl la)), (g4, .inl (cI, 300, .inl le)), (g5, .inl (cJ, 300, .inr (.inl by_))), (g6, .inl (cJ, 300, .inr (.inl he))), (g7, .inl (cI, 300, .inl lo)), (g8, .inl (cI, 300, .inl (shf g a cnt)))] H → va_D A [(g0, .inr (1, [.ref g1, .ref g2, .ref g3, .ref g4, .ref g5, .ref g6, .ref g7, .ref g8, .int (nI cnt)])), (g1, .inl (cI, 300, .inl fi)), (g2, .inl (cI, 300, .inl nx)), (g3, .inl (cI, 300, .inl la)), (g4, .inl (cI, 300, .inl le)), (g5, .inl (cJ, 300, .inr (.inl by_))), (g6, .inl (cJ, 300, .inr (.inl he))), (g7, .inl (cI, 300, .inl lo)), (g8, .inl (cI, 300, .inl (shf g a cnt)))] → va_S A s.heap H locs → lv_has ls 3 [(0, .ref g0), (1, .int (nI k)), (2, .int (nI a))] → W p l ev ({ frames := 1, cells := 0, slots := 0, locals := 26 } : Room) s m args below meth c H locs 0 0 Q (F0 m 89 ls [])) : ∀ (n : Nat) (a : Nat), a = n → a ≤ cnt → bpos (fun j => !decide (densI (by_ (fi k).toNatClampNeg) (by_ (g j).toNatClampNeg) (he (fi k).toNatClampNeg) (he (g j).toNatClampNeg) = 0)) cnt = bpos (fun j => !decide (densI (by_ (fi k).toNatClampNeg) (by_ (g j).toNatClampNeg) (he (fi k).toNatClampNeg) (he (g j).toNatClampNeg) = 0)) a → ∀ (H : Heap) (locs : List Loc) (ls : Array Slot), va_P (dC, dI) vwCl [(g0, .inr (1, [.ref g1, .ref g2, .ref g3, .ref g4, .ref g5, .ref g6, .ref g7, .ref g8, .int (nI cnt)])), (g1, .inl (cI, 300, .inl fi)), (g2, .inl (cI, 300, .inl nx)), (g3, .inl (cI, 300, .inl la)), (g4, .inl (cI, 300, .inl le)), (g5, .inl (cJ, 300, .inr (.inl by_))), (g6, .inl (cJ, 300, .inr (.inl he))), (g7, .inl (cI, 300, .inl lo)), (g8, .inl (cI, 300, .inl (shf g a cnt)))] H → va_D A [(g0, .inr (1, [.ref g1, .ref g2, .ref g3, .ref g4, .ref g5, .ref g6, .ref g7, .ref g8, .int (nI cnt)])), (g1, .inl (cI, 300, .inl fi)), (g2, .inl (cI, 300, .inl nx)), (g3, .inl (cI, 300, .inl la)), (g4, .inl (cI, 300, .inl le)), (g5, .inl (cJ, 300, .inr (.inl by_))), (g6, .inl (cJ, 300, .inr (.inl he))), (g7, .inl (cI, 300, .inl lo)), (g8, .inl (cI, 300, .inl (shf g a cnt)))] → va_S A s.heap H locs → lv_has ls 3 [(0, .ref g0), (1, .int (nI k)), (2, .int (nI a))] → W p l ev ({ frames := 1, cells := 0, slots := 0, locals := 26 } : Room) s m args below meth c H locs 0 0 Q (F0 m 44 ls []) := by
  have hin1 : ∀ w ∈ wsX10, w ∈ wsX1_rank := by decide +kernel
  intro n
  induction n with
  | zero =>
    intro a ha hac hp H locs ls hP hD hS hl
    subst ha
    refine lv_iload_n hx hb dX1_rank_44 rfl (lv_at hl 2 rfl) ?_
    refine lv_if_le (tgt := 89) hx hb dX1_rank_45 (by decide) (fun c_1 => ?_) (fun c_1 => ?_)
    · -- pc 45, side 0
      exact kn 0 (hac) (hp) H locs ls hP hD hS (lv_sub hl [0, 1, 2] rfl)
    · -- pc 45, side 1
      exact absurd (show nI 0 ≤ 0 by decide) c_1
  | succ n ih =>
    intro a ha hac hp H locs ls hP hD hS hl
    subst ha
    refine lv_iload_n hx hb dX1_rank_44 rfl (lv_at hl 2 rfl) ?_
    refine lv_if_le (tgt := 89) hx hb dX1_rank_45 (by decide) (fun c_2 => ?_) (fun c_2 => ?_)
    · -- pc 45, side 0
      exact absurd c_2 (nI_nle (by omega) (by omega))
    · -- pc 45, side 1
      refine lv_aload_n hx hb dX1_rank_48 rfl (lv_at hl 0 rfl) ?_
      refine lv_aload_n hx hb dX1_rank_49 rfl (lv_at hl 0 rfl) ?_
      refine va_get (D := (dC, dI)) (ci := 1) (v := .ref g1) (C := RX1) (T := TX1) (N := 9) hx hb hts hin1 hown hK hP 0 rfl rfl 0 (by decide) (hts (.fieldLink RX1 9 "CallClusters$Clustering" "first" "[I") (by decide +kernel)) (fun _ h9 => h9) rfl dX1_rank_50 ?_
      refine lv_iload_n hx hb dX1_rank_53 rfl (lv_at hl 1 rfl) ?_
      refine va_iald hx hb hK hP 1 0 rfl rfl (inn hk (by omega)) dX1_rank_54 ?_
      refine tp_i (y := fi k) (by rw [ix_n (by omega)]) ?_
      refine lv_aload_n hx hb dX1_rank_55 rfl (lv_at hl 0 rfl) ?_
      refine va_get (D := (dC, dI)) (ci := 1) (v := .ref g8) (C := RX1) (T := TX1) (N := 9) hx hb hts hin1 hown hK hP 0 rfl rfl 7 (by decide) (hts (.fieldLink RX1 34 "CallClusters$Clustering" "ranked" "[I") (by decide +kernel)) (fun _ h9 => h9) rfl dX1_rank_56 ?_
      refine lv_iload_n hx hb dX1_rank_59 rfl (lv_at hl 2 rfl) ?_
      refine lv_iconst (v := 1) hx hb dX1_rank_60 (by decide) ?_
      refine lv_isub hx hb dX1_rank_61 ?_
      refine tp_i (y := nI n) (nI_pred n) ?_
      refine va_iald hx hb hK hP 8 0 rfl rfl (inn (show n < 300 by omega) (by omega)) dX1_rank_62 ?_
      refine tp_i (y := g n) (by rw [ix_n (by omega)]; exact shf_low (by omega)) ?_
      have hPc := hP.sub (ws' := [(g0, .inr (1, [.ref g1, .ref g2, .ref g3, .ref g4, .ref g5, .ref g6, .ref g7, .ref g8, .int (nI cnt)])), (g1, .inl (cI, 300, .inl fi)), (g2, .inl (cI, 300, .inl nx)), (g3, .inl (cI, 300, .inl la)), (g4, .inl (cI, 300, .inl le)), (g5, .inl (cJ, 300, .inr (.inl by_))), (g6, .inl (cJ, 300, .inr (.inl he))), (g7, .inl (cI, 300, .inl lo)), (g8, .inl (cI, 300, .inl (shf g (n + 1) cnt)))]) [0, 1, 2, 3, 4, 5, 6, 7, 8] rfl
      have hDc := hD.sub (ws' := [(g0, .inr (1, [.ref g1, .ref g2, .ref g3, .ref g4, .ref g5, .ref g6, .ref g7, .ref g8, .int (nI cnt)])), (g1, .inl (cI, 300, .inl fi)), (g2, .inl (cI, 300, .inl nx)), (g3, .inl (cI, 300, .inl la)), (g4, .inl (cI, 300, .inl le)), (g5, .inl (cJ, 300, .inr (.inl by_))), (g6, .inl (cJ, 300, .inr (.inl he))), (g7, .inl (cI, 300, .inl lo)), (g8, .inl (cI, 300, .inl (shf g (n + 1) cnt)))]) [0, 1, 2, 3, 4, 5, 6, 7, 8] (by decide) rfl
      have hFc := va_free (wc := [(g0, .inr (1, [.ref g1, .ref g2, .ref g3, .ref g4, .ref g5, .ref g6, .ref g7, .ref g8, .int (nI cnt)])), (g1, .inl (cI, 300, .inl fi)), (g2, .inl (cI, 300, .inl nx)), (g3, .inl (cI, 300, .inl la)), (g4, .inl (cI, 300, .inl le)), (g5, .inl (cJ, 300, .inr (.inl by_))), (g6, .inl (cJ, 300, .inr (.inl he))), (g7, .inl (cI, 300, .inl lo)), (g8, .inl (cI, 300, .inl (shf g (n + 1) cnt)))]) hD hS hA [0, 1, 2, 3, 4, 5, 6, 7, 8] rfl
      refine va_calli (va_runV (As := [.int (fi k), .int (g n)]) (rest := []) ⟨hx, hb, hml, hown, hts⟩ (ct_X1_isDenser l dC dI cI cJ cZ H.size g0 g1 g2 g3 g4 g5 g6 g7 g8 fi nx la le by_ he lo (shf g (n + 1) cnt) (nI cnt) (fi k) (g n) hfk (hg n (by omega))) (cwV 2 hts gX1_rank_X1_isDenser rfl rfl rfl (by decide +kernel) ⟨Nat.le_of_ble_eq_true rfl, Nat.le_of_ble_eq_true rfl⟩) (pre_V hK hPc hDc (ci := 1) rfl rfl) rfl rfl hl.1 rfl (lv_room (Nat.le_of_ble_eq_true rfl)) dX1_rank_63 ⟨Nat.zero_le _, Nat.zero_le _⟩) hS (fun q _ h => hFc q h) hFc (fun r_3 uu t H1 locs ht hvm hw hB hz1 hk1 hS => ?_)
      obtain ⟨hP1, hK1, hD1⟩ := hB
      rw [ht] at hP1
      try dsimp only at hw
      have hP1 : va_P (dC, dI) vwCl [(g0, .inr (1, [.ref g1, .ref g2, .ref g3, .ref g4, .ref g5, .ref g6, .ref g7, .ref g8, .int (nI cnt)])), (g1, .inl (cI, 300, .inl fi)), (g2, .inl (cI, 300, .inl nx)), (g3, .inl (cI, 300, .inl la)), (g4, .inl (cI, 300, .inl le)), (g5, .inl (cJ, 300, .inr (.inl by_))), (g6, .inl (cJ, 300, .inr (.inl he))), (g7, .inl (cI, 300, .inl lo)), (g8, .inl (cI, 300, .inl (shf g (n + 1) cnt)))] H1 := hP1
      obtain ⟨hP, hD⟩ := va_join (wr := []) (w1 := [(g0, .inr (1, [.ref g1, .ref g2, .ref g3, .ref g4, .ref g5, .ref g6, .ref g7, .ref g8, .int (nI cnt)])), (g1, .inl (cI, 300, .inl fi)), (g2, .inl (cI, 300, .inl nx)), (g3, .inl (cI, 300, .inl la)), (g4, .inl (cI, 300, .inl le)), (g5, .inl (cJ, 300, .inr (.inl by_))), (g6, .inl (cJ, 300, .inr (.inl he))), (g7, .inl (cI, 300, .inl lo)), (g8, .inl (cI, 300, .inl (shf g (n + 1) cnt)))]) hP hD [0, 1, 2, 3, 4, 5, 6, 7, 8] [] rfl rfl (by decide) (by decide) hk1 hFc hP1 hD1
      have hP := hP.sub (ws' := [(g0, .inr (1, [.ref g1, .ref g2, .ref g3, .ref g4, .ref g5, .ref g6, .ref g7, .ref g8, .int (nI cnt)])), (g1, .inl (cI, 300, .inl fi)), (g2, .inl (cI, 300, .inl nx)), (g3, .inl (cI, 300, .inl la)), (g4, .inl (cI, 300, .inl le)), (g5, .inl (cJ, 300, .inr (.inl by_))), (g6, .inl (cJ, 300, .inr (.inl he))), (g7, .inl (cI, 300, .inl lo)), (g8, .inl (cI, 300, .inl (shf g (n + 1) cnt)))]) [0, 1, 2, 3, 4, 5, 6, 7, 8] rfl
      have hD := hD.sub (ws' := [(g0, .inr (1, [.ref g1, .ref g2, .ref g3, .ref g4, .ref g5, .ref g6, .ref g7, .ref g8, .int (nI cnt)])), (g1, .inl (cI, 300, .inl fi)), (g2, .inl (cI, 300, .inl nx)), (g3, .inl (cI, 300, .inl la)), (g4, .inl (cI, 300, .inl le)), (g5, .inl (cJ, 300, .inr (.inl by_))), (g6, .inl (cJ, 300, .inr (.inl he))), (g7, .inl (cI, 300, .inl lo)), (g8, .inl (cI, 300, .inl (shf g (n + 1) cnt)))]) [0, 1, 2, 3, 4, 5, 6, 7, 8] (by decide) rfl
      generalize H1 = H at hP hS ⊢
      refine lv_if_eq (tgt := 89) hx hb dX1_rank_66 (by decide) (fun c_4 => ?_) (fun c_4 => ?_)
      · -- pc 66, side 0
        rw [hw] at c_4
        have hp9 : bpos (fun j => !decide (densI (by_ (fi k).toNatClampNeg) (by_ (g j).toNatClampNeg) (he (fi k).toNatClampNeg) (he (g j).toNatClampNeg) = 0)) (n + 1) = n + 1 := by unfold bpos; rw [if_neg (by simpa using c_4)]
        exact kn (n + 1) (hac) (by rw [hp]; exact hp9) H locs ls hP hD hS (lv_sub hl [0, 1, 2] rfl)
      · -- pc 66, side 1
        rw [hw] at c_4
        have hp9 : bpos (fun j => !decide (densI (by_ (fi k).toNatClampNeg) (by_ (g j).toNatClampNeg) (he (fi k).toNatClampNeg) (he (g j).toNatClampNeg) = 0)) (n + 1) = bpos (fun j => !decide (densI (by_ (fi k).toNatClampNeg) (by_ (g j).toNatClampNeg) (he (fi k).toNatClampNeg) (he (g j).toNatClampNeg) = 0)) n := by conv => lhs; unfold bpos; rw [if_pos (by simpa using c_4)]
        refine lv_aload_n hx hb dX1_rank_69 rfl (lv_at hl 0 rfl) ?_
        refine va_get (D := (dC, dI)) (ci := 1) (v := .ref g8) (C := RX1) (T := TX1) (N := 9) hx hb hts hin1 hown hK hP 0 rfl rfl 7 (by decide) (hts (.fieldLink RX1 34 "CallClusters$Clustering" "ranked" "[I") (by decide +kernel)) (fun _ h9 => h9) rfl dX1_rank_70 ?_
        refine lv_iload_n hx hb dX1_rank_73 rfl (lv_at hl 2 rfl) ?_
        refine lv_aload_n hx hb dX1_rank_74 rfl (lv_at hl 0 rfl) ?_
        refine va_get (D := (dC, dI)) (ci := 1) (v := .ref g8) (C := RX1) (T := TX1) (N := 9) hx hb hts hin1 hown hK hP 0 rfl rfl 7 (by decide) (hts (.fieldLink RX1 34 "CallClusters$Clustering" "ranked" "[I") (by decide +kernel)) (fun _ h9 => h9) rfl dX1_rank_75 ?_
        refine lv_iload_n hx hb dX1_rank_78 rfl (lv_at hl 2 rfl) ?_
        refine lv_iconst (v := 1) hx hb dX1_rank_79 (by decide) ?_
        refine lv_isub hx hb dX1_rank_80 ?_
        refine tp_i (y := nI n) (nI_pred n) ?_
        refine va_iald hx hb hK hP 8 0 rfl rfl (inn (show n < 300 by omega) (by omega)) dX1_rank_81 ?_
        refine tp_i (y := g n) (by rw [ix_n (by omega)]; exact shf_low (by omega)) ?_
        refine va_iast hx hb hK hP hD hS 8 0 rfl rfl (inn (show n + 1 < 300 by omega) (by omega)) dX1_rank_82 (fun H locs hP hD hS => ?_)
        have hf82 : upd (shf g (n + 1) cnt) ((nI (n + 1)).toNatClampNeg) (g n) = shf g n cnt := by rw [ix_n (by omega)]; exact shf_step hac
        have hP : va_P (dC, dI) vwCl [(g0, .inr (1, [.ref g1, .ref g2, .ref g3, .ref g4, .ref g5, .ref g6, .ref g7, .ref g8, .int (nI cnt)])), (g1, .inl (cI, 300, .inl fi)), (g2, .inl (cI, 300, .inl nx)), (g3, .inl (cI, 300, .inl la)), (g4, .inl (cI, 300, .inl le)), (g5, .inl (cJ, 300, .inr (.inl by_))), (g6, .inl (cJ, 300, .inr (.inl he))), (g7, .inl (cI, 300, .inl lo)), (g8, .inl (cI, 300, .inl (upd (shf g (n + 1) cnt) ((nI (n + 1)).toNatClampNeg) (g n))))] H := hP
        have hD : va_D A [(g0, .inr (1, [.ref g1, .ref g2, .ref g3, .ref g4, .ref g5, .ref g6, .ref g7, .ref g8, .int (nI cnt)])), (g1, .inl (cI, 300, .inl fi)), (g2, .inl (cI, 300, .inl nx)), (g3, .inl (cI, 300, .inl la)), (g4, .inl (cI, 300, .inl le)), (g5, .inl (cJ, 300, .inr (.inl by_))), (g6, .inl (cJ, 300, .inr (.inl he))), (g7, .inl (cI, 300, .inl lo)), (g8, .inl (cI, 300, .inl (upd (shf g (n + 1) cnt) ((nI (n + 1)).toNatClampNeg) (g n))))] := hD
        rw [hf82] at hP hD
        refine lv_iinc (v := nI n) (lv' := [(2, .int (nI n)), (0, .ref g0), (1, .int (nI k))]) hx hb dX1_rank_83 hl (k := 2) rfl (by exact pk_m1 n) (by decide) rfl (fun ls hl => ?_)
        refine lv_goto (tgt := 44) hx hb dX1_rank_86 (by decide) ?_
        exact ih n (rfl) (by omega) (by rw [hp]; exact hp9) H locs ls hP hD hS (lv_sub hl [1, 2, 0] rfl)
set_option maxHeartbeats 4000000 in
set_option maxRecDepth 100000 in
theorem lpX1_rank {p : Program} {l : Launch} {ev : Env} {s : State} {m : MethodId} {args : Array Value} {below : List Frame} {meth : Method} {c : Code} {Q : State → Prop} {A : Nat → Prop} {dC : Nat → ClassId} {dI : Nat → Nat → Nat} {cI cJ cZ : ClassId} (hx : p.tables.exec = Jvm.exec) (hb : c.code = cX1_rank) (hml : c.maxLocals = 3) (hts : ∀ w ∈ wsX1_rank, w.before args s = true) (hown : s.vm.findClass RX1 = some m.cls) (hK : va_K (dC, dI) vwCl [(cI, .int), (cJ, .long), (cZ, .boolean)] s) (hA : ∀ q : Nat, s.heap.size ≤ q → A q) {g0 : Nat} {g1 : Nat} {g2 : Nat} {g3 : Nat} {g4 : Nat} {g5 : Nat} {g6 : Nat} {g7 : Nat} {g8 : Nat} {fi nx la le : Nat → Int32} {by_ he : Nat → Int64} {lo rk : Nat → Int32} (hfi : ∀ j, j < 300 → fi j = -1 ∨ vp_in (fi j) 300)  (kn : ∀ (H : Heap) (locs : List Loc) (ls : Array Slot), va_P (dC, dI) vwCl [(g0, .inr (1, [.ref g1, .ref g2, .ref g3, .ref g4, .ref g5, .ref g6, .ref g7, .ref g8, .int (nI (rkN fi le by_ he rk 300).1)])), (g1, .inl (cI, 300, .inl fi)), (g2, .inl (cI, 300, .inl nx)), (g3, .inl (cI, 300, .inl la)), (g4, .inl (cI, 300, .inl le)), (g5, .inl (cJ, 300, .inr (.inl by_))), (g6, .inl (cJ, 300, .inr (.inl he))), (g7, .inl (cI, 300, .inl lo)), (g8, .inl (cI, 300, .inl ((rkN fi le by_ he rk 300).2)))] H → va_D A [(g0, .inr (1, [.ref g1, .ref g2, .ref g3, .ref g4, .ref g5, .ref g6, .ref g7, .ref g8, .int (nI (rkN fi le by_ he rk 300).1)])), (g1, .inl (cI, 300, .inl fi)), (g2, .inl (cI, 300, .inl nx)), (g3, .inl (cI, 300, .inl la)), (g4, .inl (cI, 300, .inl le)), (g5, .inl (cJ, 300, .inr (.inl by_))), (g6, .inl (cJ, 300, .inr (.inl he))), (g7, .inl (cI, 300, .inl lo)), (g8, .inl (cI, 300, .inl ((rkN fi le by_ he rk 300).2)))] → va_S A s.heap H locs → lv_has ls 3 [(0, .ref g0)] → W p l ev ({ frames := 1, cells := 0, slots := 0, locals := 26 } : Room) s m args below meth c H locs 0 0 Q (F0 m 117 ls [])) : ∀ (n : Nat) (k : Nat), k + n = 300 → ∀ (H : Heap) (locs : List Loc) (ls : Array Slot), va_P (dC, dI) vwCl [(g0, .inr (1, [.ref g1, .ref g2, .ref g3, .ref g4, .ref g5, .ref g6, .ref g7, .ref g8, .int (nI (rkN fi le by_ he rk k).1)])), (g1, .inl (cI, 300, .inl fi)), (g2, .inl (cI, 300, .inl nx)), (g3, .inl (cI, 300, .inl la)), (g4, .inl (cI, 300, .inl le)), (g5, .inl (cJ, 300, .inr (.inl by_))), (g6, .inl (cJ, 300, .inr (.inl he))), (g7, .inl (cI, 300, .inl lo)), (g8, .inl (cI, 300, .inl ((rkN fi le by_ he rk k).2)))] H → va_D A [(g0, .inr (1, [.ref g1, .ref g2, .ref g3, .ref g4, .ref g5, .ref g6, .ref g7, .ref g8, .int (nI (rkN fi le by_ he rk k).1)])), (g1, .inl (cI, 300, .inl fi)), (g2, .inl (cI, 300, .inl nx)), (g3, .inl (cI, 300, .inl la)), (g4, .inl (cI, 300, .inl le)), (g5, .inl (cJ, 300, .inr (.inl by_))), (g6, .inl (cJ, 300, .inr (.inl he))), (g7, .inl (cI, 300, .inl lo)), (g8, .inl (cI, 300, .inl ((rkN fi le by_ he rk k).2)))] → va_S A s.heap H locs → lv_has ls 3 [(0, .ref g0), (1, .int (nI k))] → W p l ev ({ frames := 1, cells := 0, slots := 0, locals := 26 } : Room) s m args below meth c H locs 0 0 Q (F0 m 7 ls []) := by
  have hin1 : ∀ w ∈ wsX10, w ∈ wsX1_rank := by decide +kernel
  intro n
  induction n with
  | zero =>
    intro k hk H locs ls hP hD hS hl
    have hk : k = 300 := by omega
    subst hk
    refine lv_iload_n hx hb dX1_rank_7 rfl (lv_at hl 1 rfl) ?_
    refine lv_sipush (v := 300) hx hb dX1_rank_8 (by decide) ?_
    refine lv_icmp_ge (tgt := 117) hx hb dX1_rank_11 (by decide) (fun c_1 => ?_) (fun c_1 => ?_)
    · -- pc 11, side 0
      exact kn   H locs ls hP hD hS (lv_sub hl [0] rfl)
    · -- pc 11, side 1
      exact absurd (show (300 : Int32) ≤ nI 300 by decide) c_1
  | succ n ih =>
    intro k hk H locs ls hP hD hS hl
    have hin9 := rkN_in fi le by_ he rk k
    refine lv_iload_n hx hb dX1_rank_7 rfl (lv_at hl 1 rfl) ?_
    refine lv_sipush (v := 300) hx hb dX1_rank_8 (by decide) ?_
    refine lv_icmp_ge (tgt := 117) hx hb dX1_rank_11 (by decide) (fun c_2 => ?_) (fun c_2 => ?_)
    · -- pc 11, side 0
      exact absurd (show nI 300 ≤ nI k from c_2) (nI_ge (show k < 300 by omega) (by omega))
    · -- pc 11, side 1
      refine lv_aload_n hx hb dX1_rank_14 rfl (lv_at hl 0 rfl) ?_
      refine va_get (D := (dC, dI)) (ci := 1) (v := .ref g1) (C := RX1) (T := TX1) (N := 9) hx hb hts hin1 hown hK hP 0 rfl rfl 0 (by decide) (hts (.fieldLink RX1 9 "CallClusters$Clustering" "first" "[I") (by decide +kernel)) (fun _ h9 => h9) rfl dX1_rank_15 ?_
      refine lv_iload_n hx hb dX1_rank_18 rfl (lv_at hl 1 rfl) ?_
      refine va_iald hx hb hK hP 1 0 rfl rfl (inn (show k < 300 by omega) (by omega)) dX1_rank_19 ?_
      refine tp_i (y := fi k) (by rw [ix_n (by omega)]) ?_
      refine lv_iconst (v := (-1)) hx hb dX1_rank_20 (by decide) ?_
      refine lv_icmp_eq (tgt := 111) hx hb dX1_rank_21 (by decide) (fun c_3 => ?_) (fun c_3 => ?_)
      · -- pc 21, side 0
        refine lv_iinc (v := nI (k + 1)) (lv' := [(1, .int (nI (k + 1))), (0, .ref g0)]) hx hb dX1_rank_111 hl (k := 1) rfl (by exact nI_1 k) (by decide) rfl (fun ls hl => ?_)
        refine lv_goto (tgt := 7) hx hb dX1_rank_114 (by decide) ?_
        have hq : rkN fi le by_ he rk (k + 1) = rkN fi le by_ he rk k := by show rkStep fi le by_ he k (rkN fi le by_ he rk k) = _; unfold rkStep; rw [if_pos c_3]
        rw [← hq] at hP hD
        exact ih (k + 1) (by omega) H locs ls hP hD hS (lv_sub hl [1, 0] rfl)
      · -- pc 21, side 1
        have hfk : vp_in (fi k) 300 := (hfi k (by omega)).resolve_left c_3
        refine lv_aload_n hx hb dX1_rank_24 rfl (lv_at hl 0 rfl) ?_
        refine va_get (D := (dC, dI)) (ci := 1) (v := .ref g4) (C := RX1) (T := TX1) (N := 9) hx hb hts hin1 hown hK hP 0 rfl rfl 3 (by decide) (hts (.fieldLink RX1 21 "CallClusters$Clustering" "least" "[I") (by decide +kernel)) (fun _ h9 => h9) rfl dX1_rank_25 ?_
        refine lv_aload_n hx hb dX1_rank_28 rfl (lv_at hl 0 rfl) ?_
        refine va_get (D := (dC, dI)) (ci := 1) (v := .ref g1) (C := RX1) (T := TX1) (N := 9) hx hb hts hin1 hown hK hP 0 rfl rfl 0 (by decide) (hts (.fieldLink RX1 9 "CallClusters$Clustering" "first" "[I") (by decide +kernel)) (fun _ h9 => h9) rfl dX1_rank_29 ?_
        refine lv_iload_n hx hb dX1_rank_32 rfl (lv_at hl 1 rfl) ?_
        refine va_iald hx hb hK hP 1 0 rfl rfl (inn (show k < 300 by omega) (by omega)) dX1_rank_33 ?_
        refine tp_i (y := fi k) (by rw [ix_n (by omega)]) ?_
        refine va_iald hx hb hK hP 4 0 rfl rfl (hfk) dX1_rank_34 ?_
        refine lv_iload_n hx hb dX1_rank_35 rfl (lv_at hl 1 rfl) ?_
        refine lv_icmp_ne (tgt := 111) hx hb dX1_rank_36 (by decide) (fun c_4 => ?_) (fun c_4 => ?_)
        · -- pc 36, side 0
          refine lv_iinc (v := nI (k + 1)) (lv' := [(1, .int (nI (k + 1))), (0, .ref g0)]) hx hb dX1_rank_111 hl (k := 1) rfl (by exact nI_1 k) (by decide) rfl (fun ls hl => ?_)
          refine lv_goto (tgt := 7) hx hb dX1_rank_114 (by decide) ?_
          have hq : rkN fi le by_ he rk (k + 1) = rkN fi le by_ he rk k := by show rkStep fi le by_ he k (rkN fi le by_ he rk k) = _; unfold rkStep; rw [if_neg c_3, if_neg c_4]
          rw [← hq] at hP hD
          exact ih (k + 1) (by omega) H locs ls hP hD hS (lv_sub hl [1, 0] rfl)
        · -- pc 36, side 1
          refine lv_aload_n hx hb dX1_rank_39 rfl (lv_at hl 0 rfl) ?_
          refine va_get (D := (dC, dI)) (ci := 1) (v := .int (nI (rkN fi le by_ he rk k).1)) (C := RX1) (T := TX1) (N := 9) hx hb hts hin1 hown hK hP 0 rfl rfl 8 (by decide) (hts (.fieldLink RX1 58 "CallClusters$Clustering" "rankedCount" "I") (by decide +kernel)) (fun _ h9 => h9) rfl dX1_rank_40 ?_
          refine lv_istore_n (lv' := [(2, .int (nI (rkN fi le by_ he rk k).1)), (0, .ref g0), (1, .int (nI k))]) hx hb dX1_rank_43 rfl hl (by decide) rfl (fun ls hl => ?_)
          have hP : va_P (dC, dI) vwCl [(g0, .inr (1, [.ref g1, .ref g2, .ref g3, .ref g4, .ref g5, .ref g6, .ref g7, .ref g8, .int (nI (rkN fi le by_ he rk k).1)])), (g1, .inl (cI, 300, .inl fi)), (g2, .inl (cI, 300, .inl nx)), (g3, .inl (cI, 300, .inl la)), (g4, .inl (cI, 300, .inl le)), (g5, .inl (cJ, 300, .inr (.inl by_))), (g6, .inl (cJ, 300, .inr (.inl he))), (g7, .inl (cI, 300, .inl lo)), (g8, .inl (cI, 300, .inl (shf (rkN fi le by_ he rk k).2 (rkN fi le by_ he rk k).1 (rkN fi le by_ he rk k).1)))] H := by rw [shf_self]; exact hP
          have hD : va_D A [(g0, .inr (1, [.ref g1, .ref g2, .ref g3, .ref g4, .ref g5, .ref g6, .ref g7, .ref g8, .int (nI (rkN fi le by_ he rk k).1)])), (g1, .inl (cI, 300, .inl fi)), (g2, .inl (cI, 300, .inl nx)), (g3, .inl (cI, 300, .inl la)), (g4, .inl (cI, 300, .inl le)), (g5, .inl (cJ, 300, .inr (.inl by_))), (g6, .inl (cJ, 300, .inr (.inl he))), (g7, .inl (cI, 300, .inl lo)), (g8, .inl (cI, 300, .inl (shf (rkN fi le by_ he rk k).2 (rkN fi le by_ he rk k).1 (rkN fi le by_ he rk k).1)))] := by rw [shf_self]; exact hD
          refine lpX1_rank_in (rk := rk) (rc := 0) (g := (rkN fi le by_ he rk k).2) (cnt := (rkN fi le by_ he rk k).1) (k := k) hx hb hml hts hown hK hA (by omega) hin9.1 hfk (fun j hj => rkN_vin (by omega) hfi hj) (fun a hac hp H locs ls hP hD hS hl => ?_) ((rkN fi le by_ he rk k).1) (rkN fi le by_ he rk k).1 (rfl) (Nat.le_refl _) (rfl) H _ ls hP hD hS (lv_sub hl [1, 2, 0] rfl)
          · -- kn
            refine lv_aload_n hx hb dX1_rank_89 rfl (lv_at hl 0 rfl) ?_
            refine va_get (D := (dC, dI)) (ci := 1) (v := .ref g8) (C := RX1) (T := TX1) (N := 9) hx hb hts hin1 hown hK hP 0 rfl rfl 7 (by decide) (hts (.fieldLink RX1 34 "CallClusters$Clustering" "ranked" "[I") (by decide +kernel)) (fun _ h9 => h9) rfl dX1_rank_90 ?_
            refine lv_iload_n hx hb dX1_rank_93 rfl (lv_at hl 2 rfl) ?_
            refine lv_aload_n hx hb dX1_rank_94 rfl (lv_at hl 0 rfl) ?_
            refine va_get (D := (dC, dI)) (ci := 1) (v := .ref g1) (C := RX1) (T := TX1) (N := 9) hx hb hts hin1 hown hK hP 0 rfl rfl 0 (by decide) (hts (.fieldLink RX1 9 "CallClusters$Clustering" "first" "[I") (by decide +kernel)) (fun _ h9 => h9) rfl dX1_rank_95 ?_
            refine lv_iload_n hx hb dX1_rank_98 rfl (lv_at hl 1 rfl) ?_
            refine va_iald hx hb hK hP 1 0 rfl rfl (inn (show k < 300 by omega) (by omega)) dX1_rank_99 ?_
            refine tp_i (y := fi k) (by rw [ix_n (by omega)]) ?_
            refine va_iast hx hb hK hP hD hS 8 0 rfl rfl (inn (show a < 300 by omega) (by omega)) dX1_rank_100 (fun H locs hP hD hS => ?_)
            have hf100 : upd (shf (rkN fi le by_ he rk k).2 a (rkN fi le by_ he rk k).1) ((nI a).toNatClampNeg) (fi k) = insF (rkN fi le by_ he rk k).2 a (rkN fi le by_ he rk k).1 (fi k) := by rw [ix_n (by omega)]; rfl
            have hP : va_P (dC, dI) vwCl [(g0, .inr (1, [.ref g1, .ref g2, .ref g3, .ref g4, .ref g5, .ref g6, .ref g7, .ref g8, .int (nI (rkN fi le by_ he rk k).1)])), (g1, .inl (cI, 300, .inl fi)), (g2, .inl (cI, 300, .inl nx)), (g3, .inl (cI, 300, .inl la)), (g4, .inl (cI, 300, .inl le)), (g5, .inl (cJ, 300, .inr (.inl by_))), (g6, .inl (cJ, 300, .inr (.inl he))), (g7, .inl (cI, 300, .inl lo)), (g8, .inl (cI, 300, .inl (upd (shf (rkN fi le by_ he rk k).2 a (rkN fi le by_ he rk k).1) ((nI a).toNatClampNeg) (fi k))))] H := hP
            have hD : va_D A [(g0, .inr (1, [.ref g1, .ref g2, .ref g3, .ref g4, .ref g5, .ref g6, .ref g7, .ref g8, .int (nI (rkN fi le by_ he rk k).1)])), (g1, .inl (cI, 300, .inl fi)), (g2, .inl (cI, 300, .inl nx)), (g3, .inl (cI, 300, .inl la)), (g4, .inl (cI, 300, .inl le)), (g5, .inl (cJ, 300, .inr (.inl by_))), (g6, .inl (cJ, 300, .inr (.inl he))), (g7, .inl (cI, 300, .inl lo)), (g8, .inl (cI, 300, .inl (upd (shf (rkN fi le by_ he rk k).2 a (rkN fi le by_ he rk k).1) ((nI a).toNatClampNeg) (fi k))))] := hD
            rw [hf100] at hP hD
            refine lv_aload_n hx hb dX1_rank_101 rfl (lv_at hl 0 rfl) ?_
            refine lv_dup hx hb dX1_rank_102 rfl ?_
            refine va_get (D := (dC, dI)) (ci := 1) (v := .int (nI (rkN fi le by_ he rk k).1)) (C := RX1) (T := TX1) (N := 9) hx hb hts hin1 hown hK hP 0 rfl rfl 8 (by decide) (hts (.fieldLink RX1 58 "CallClusters$Clustering" "rankedCount" "I") (by decide +kernel)) (fun _ h9 => h9) rfl dX1_rank_103 ?_
            refine lv_iconst (v := 1) hx hb dX1_rank_106 (by decide) ?_
            refine lv_iadd hx hb dX1_rank_107 ?_
            refine tp_i (y := nI ((rkN fi le by_ he rk k).1 + 1)) (nI_1 _) ?_
            refine va_put (D := (dC, dI)) (ci := 1) (v := .int (nI ((rkN fi le by_ he rk k).1 + 1))) (ty := .int) (C := RX1) (T := TX1) (N := 9) hx hb hts hin1 tyX1 tyX1_ok nmX1 hown hK hP hD hS 0 rfl rfl 8 (by decide) (hts (.fieldLink RX1 58 "CallClusters$Clustering" "rankedCount" "I") (by decide +kernel)) (fun _ h9 => h9) rfl (by decide +kernel) (rfl) (rfl) (Nat.le_of_ble_eq_true rfl) dX1_rank_108 (fun H locs hP hD hS => ?_)
            have hP : va_P (dC, dI) vwCl [(g0, .inr (1, [.ref g1, .ref g2, .ref g3, .ref g4, .ref g5, .ref g6, .ref g7, .ref g8, .int (nI ((rkN fi le by_ he rk k).1 + 1))])), (g1, .inl (cI, 300, .inl fi)), (g2, .inl (cI, 300, .inl nx)), (g3, .inl (cI, 300, .inl la)), (g4, .inl (cI, 300, .inl le)), (g5, .inl (cJ, 300, .inr (.inl by_))), (g6, .inl (cJ, 300, .inr (.inl he))), (g7, .inl (cI, 300, .inl lo)), (g8, .inl (cI, 300, .inl (insF (rkN fi le by_ he rk k).2 a (rkN fi le by_ he rk k).1 (fi k))))] H := hP
            have hD : va_D A [(g0, .inr (1, [.ref g1, .ref g2, .ref g3, .ref g4, .ref g5, .ref g6, .ref g7, .ref g8, .int (nI ((rkN fi le by_ he rk k).1 + 1))])), (g1, .inl (cI, 300, .inl fi)), (g2, .inl (cI, 300, .inl nx)), (g3, .inl (cI, 300, .inl la)), (g4, .inl (cI, 300, .inl le)), (g5, .inl (cJ, 300, .inr (.inl by_))), (g6, .inl (cJ, 300, .inr (.inl he))), (g7, .inl (cI, 300, .inl lo)), (g8, .inl (cI, 300, .inl (insF (rkN fi le by_ he rk k).2 a (rkN fi le by_ he rk k).1 (fi k))))] := hD
            refine lv_iinc (v := nI (k + 1)) (lv' := [(1, .int (nI (k + 1))), (0, .ref g0), (2, .int (nI a))]) hx hb dX1_rank_111 hl (k := 1) rfl (by exact nI_1 k) (by decide) rfl (fun ls hl => ?_)
            refine lv_goto (tgt := 7) hx hb dX1_rank_114 (by decide) ?_
            have hq : rkN fi le by_ he rk (k + 1) = ((rkN fi le by_ he rk k).1 + 1, insF (rkN fi le by_ he rk k).2 a (rkN fi le by_ he rk k).1 (fi k)) := by show rkStep fi le by_ he k (rkN fi le by_ he rk k) = _; unfold rkStep; rw [if_neg c_3, if_pos c_4, hp]
            have hq1 : (rkN fi le by_ he rk k).1 + 1 = (rkN fi le by_ he rk (k + 1)).1 := by rw [hq]
            have hq2 : insF (rkN fi le by_ he rk k).2 a (rkN fi le by_ he rk k).1 (fi k) = (rkN fi le by_ he rk (k + 1)).2 := by rw [hq]
            rw [hq2, hq1] at hP hD
            exact ih (k + 1) (by omega) H locs ls hP hD hS (lv_sub hl [1, 0] rfl)
set_option maxHeartbeats 4000000 in
set_option maxRecDepth 100000 in
theorem ct_X1_rank (l : Launch) (dC : Nat → ClassId) (dI : Nat → Nat → Nat) (cI cJ cZ : ClassId) (sz : Nat) (g0 : Nat) (g1 : Nat) (g2 : Nat) (g3 : Nat) (g4 : Nat) (g5 : Nat) (g6 : Nat) (g7 : Nat) (g8 : Nat) (fi nx la le : Nat → Int32) (by_ he : Nat → Int64) (lo rk : Nat → Int32) (rc : Int32) (hfi : ∀ j, j < 300 → fi j = -1 ∨ vp_in (fi j) 300) : Met l yX1_rank wsX1_rank ({ frames := 1, cells := 0, slots := 0, locals := 26 }) (va_Pc [.ref g0] (fun U => U.heap.size = sz ∧ va_P (dC, dI) vwCl [(g0, .inr (1, [.ref g1, .ref g2, .ref g3, .ref g4, .ref g5, .ref g6, .ref g7, .ref g8, .int rc])), (g1, .inl (cI, 300, .inl fi)), (g2, .inl (cI, 300, .inl nx)), (g3, .inl (cI, 300, .inl la)), (g4, .inl (cI, 300, .inl le)), (g5, .inl (cJ, 300, .inr (.inl by_))), (g6, .inl (cJ, 300, .inr (.inl he))), (g7, .inl (cI, 300, .inl lo)), (g8, .inl (cI, 300, .inl rk))] U.heap ∧ va_K (dC, dI) vwCl [(cI, .int), (cJ, .long), (cZ, .boolean)] U ∧ va_D (fun _ => True) [(g0, .inr (1, [.ref g1, .ref g2, .ref g3, .ref g4, .ref g5, .ref g6, .ref g7, .ref g8, .int rc])), (g1, .inl (cI, 300, .inl fi)), (g2, .inl (cI, 300, .inl nx)), (g3, .inl (cI, 300, .inl la)), (g4, .inl (cI, 300, .inl le)), (g5, .inl (cJ, 300, .inr (.inl by_))), (g6, .inl (cJ, 300, .inr (.inl he))), (g7, .inl (cI, 300, .inl lo)), (g8, .inl (cI, 300, .inl rk))])) (va_Qv (fun (uu : Unit) => True) (fun (uu : Unit) (t : State) => va_P (dC, dI) vwCl [(g0, .inr (1, [.ref g1, .ref g2, .ref g3, .ref g4, .ref g5, .ref g6, .ref g7, .ref g8, .int (nI (rkN fi le by_ he rk 300).1)])), (g1, .inl (cI, 300, .inl fi)), (g2, .inl (cI, 300, .inl nx)), (g3, .inl (cI, 300, .inl la)), (g4, .inl (cI, 300, .inl le)), (g5, .inl (cJ, 300, .inr (.inl by_))), (g6, .inl (cJ, 300, .inr (.inl he))), (g7, .inl (cI, 300, .inl lo)), (g8, .inl (cI, 300, .inl ((rkN fi le by_ he rk 300).2)))] t.heap ∧ va_K (dC, dI) vwCl [(cI, .int), (cJ, .long), (cZ, .boolean)] t ∧ va_D (va_A [(g0, .inr (1, [.ref g1, .ref g2, .ref g3, .ref g4, .ref g5, .ref g6, .ref g7, .ref g8, .int rc])), (g1, .inl (cI, 300, .inl fi)), (g2, .inl (cI, 300, .inl nx)), (g3, .inl (cI, 300, .inl la)), (g4, .inl (cI, 300, .inl le)), (g5, .inl (cJ, 300, .inr (.inl by_))), (g6, .inl (cJ, 300, .inr (.inl he))), (g7, .inl (cI, 300, .inl lo)), (g8, .inl (cI, 300, .inl rk))] sz) [(g0, .inr (1, [.ref g1, .ref g2, .ref g3, .ref g4, .ref g5, .ref g6, .ref g7, .ref g8, .int (nI (rkN fi le by_ he rk 300).1)])), (g1, .inl (cI, 300, .inl fi)), (g2, .inl (cI, 300, .inl nx)), (g3, .inl (cI, 300, .inl la)), (g4, .inl (cI, 300, .inl le)), (g5, .inl (cJ, 300, .inr (.inl by_))), (g6, .inl (cJ, 300, .inr (.inl he))), (g7, .inl (cI, 300, .inl lo)), (g8, .inl (cI, 300, .inl ((rkN fi le by_ he rk 300).2)))]) (va_A [(g0, .inr (1, [.ref g1, .ref g2, .ref g3, .ref g4, .ref g5, .ref g6, .ref g7, .ref g8, .int rc])), (g1, .inl (cI, 300, .inl fi)), (g2, .inl (cI, 300, .inl nx)), (g3, .inl (cI, 300, .inl la)), (g4, .inl (cI, 300, .inl le)), (g5, .inl (cJ, 300, .inr (.inl by_))), (g6, .inl (cJ, 300, .inr (.inl he))), (g7, .inl (cI, 300, .inl lo)), (g8, .inl (cI, 300, .inl rk))] sz)) 0 0 (va_A [(g0, .inr (1, [.ref g1, .ref g2, .ref g3, .ref g4, .ref g5, .ref g6, .ref g7, .ref g8, .int rc])), (g1, .inl (cI, 300, .inl fi)), (g2, .inl (cI, 300, .inl nx)), (g3, .inl (cI, 300, .inl la)), (g4, .inl (cI, 300, .inl le)), (g5, .inl (cJ, 300, .inr (.inl by_))), (g6, .inl (cJ, 300, .inr (.inl he))), (g7, .inl (cI, 300, .inl lo)), (g8, .inl (cI, 300, .inl rk))] sz) := by
  refine Met.ofW (cc := cX1_rank) (maxL := 3) (ret := none) (by decide) rfl ?_
  intro p ev s m args below meth c s₁ Bd hml hv
  obtain ⟨rfl, hsz, hP, hK, hD0⟩ := hv
  have hx := Bd.exec
  have hb := Bd.bytes
  have hr := Bd.returns
  have hts := atoms_spec (ws := wsX1_rank) Bd.pre
  have hown : s.vm.findClass RX1 = some m.cls := findClass_of_methodNamed Bd.named
  have hlocks := Bd.notSynchronized
  have hin1 : ∀ w ∈ wsX10, w ∈ wsX1_rank := by decide +kernel
  subst hsz
  have hD := hD0.self (sz := s.heap.size)
  generalize hAe : va_A [(g0, .inr (1, [.ref g1, .ref g2, .ref g3, .ref g4, .ref g5, .ref g6, .ref g7, .ref g8, .int rc])), (g1, .inl (cI, 300, .inl fi)), (g2, .inl (cI, 300, .inl nx)), (g3, .inl (cI, 300, .inl la)), (g4, .inl (cI, 300, .inl le)), (g5, .inl (cJ, 300, .inr (.inl by_))), (g6, .inl (cJ, 300, .inr (.inl he))), (g7, .inl (cI, 300, .inl lo)), (g8, .inl (cI, 300, .inl rk))] s.heap.size = A at hD ⊢
  have hA : ∀ q : Nat, s.heap.size ≤ q → A q := fun q h => by rw [← hAe]; exact Or.inr h
  have hS : va_S A s.heap s.heap [] := va_S.rf
  have hl := lv_entry ([.ref g0]) (n := 3) (Nat.le_of_ble_eq_true rfl)
  rw [lg_entry_eq]
  generalize (lg_sl ([.ref g0]) ++ List.replicate (3 - (lg_sl ([.ref g0])).length) Slot.unset).toArray = ls at hl ⊢
  have hl : lv_has ls 3 [(0, .ref g0)] := hl
  generalize hHe : s.heap = H at hP ⊢
  have hS : va_S A s.heap H [] := hHe ▸ hS
  refine lv_aload_n hx hb dX1_rank_0 rfl (lv_at hl 0 rfl) ?_
  refine lv_iconst (v := 0) hx hb dX1_rank_1 (by decide) ?_
  refine va_put (D := (dC, dI)) (ci := 1) (v := .int 0) (ty := .int) (C := RX1) (T := TX1) (N := 9) hx hb hts hin1 tyX1 tyX1_ok nmX1 hown hK hP hD hS 0 rfl rfl 8 (by decide) (hts (.fieldLink RX1 58 "CallClusters$Clustering" "rankedCount" "I") (by decide +kernel)) (fun _ h9 => h9) rfl (by decide +kernel) (rfl) (rfl) (Nat.le_of_ble_eq_true rfl) dX1_rank_2 (fun H locs hP hD hS => ?_)
  have hP : va_P (dC, dI) vwCl [(g0, .inr (1, [.ref g1, .ref g2, .ref g3, .ref g4, .ref g5, .ref g6, .ref g7, .ref g8, .int 0])), (g1, .inl (cI, 300, .inl fi)), (g2, .inl (cI, 300, .inl nx)), (g3, .inl (cI, 300, .inl la)), (g4, .inl (cI, 300, .inl le)), (g5, .inl (cJ, 300, .inr (.inl by_))), (g6, .inl (cJ, 300, .inr (.inl he))), (g7, .inl (cI, 300, .inl lo)), (g8, .inl (cI, 300, .inl rk))] H := hP
  have hD : va_D A [(g0, .inr (1, [.ref g1, .ref g2, .ref g3, .ref g4, .ref g5, .ref g6, .ref g7, .ref g8, .int 0])), (g1, .inl (cI, 300, .inl fi)), (g2, .inl (cI, 300, .inl nx)), (g3, .inl (cI, 300, .inl la)), (g4, .inl (cI, 300, .inl le)), (g5, .inl (cJ, 300, .inr (.inl by_))), (g6, .inl (cJ, 300, .inr (.inl he))), (g7, .inl (cI, 300, .inl lo)), (g8, .inl (cI, 300, .inl rk))] := hD
  refine lv_iconst (v := 0) hx hb dX1_rank_5 (by decide) ?_
  refine tp_i (y := nI 0) (nI_0.symm) ?_
  refine lv_istore_n (lv' := [(1, .int (nI 0)), (0, .ref g0)]) hx hb dX1_rank_6 rfl hl (by decide) rfl (fun ls hl => ?_)
  have hP : va_P (dC, dI) vwCl [(g0, .inr (1, [.ref g1, .ref g2, .ref g3, .ref g4, .ref g5, .ref g6, .ref g7, .ref g8, .int (nI (rkN fi le by_ he rk 0).1)])), (g1, .inl (cI, 300, .inl fi)), (g2, .inl (cI, 300, .inl nx)), (g3, .inl (cI, 300, .inl la)), (g4, .inl (cI, 300, .inl le)), (g5, .inl (cJ, 300, .inr (.inl by_))), (g6, .inl (cJ, 300, .inr (.inl he))), (g7, .inl (cI, 300, .inl lo)), (g8, .inl (cI, 300, .inl ((rkN fi le by_ he rk 0).2)))] H := hP
  have hD : va_D A [(g0, .inr (1, [.ref g1, .ref g2, .ref g3, .ref g4, .ref g5, .ref g6, .ref g7, .ref g8, .int (nI (rkN fi le by_ he rk 0).1)])), (g1, .inl (cI, 300, .inl fi)), (g2, .inl (cI, 300, .inl nx)), (g3, .inl (cI, 300, .inl la)), (g4, .inl (cI, 300, .inl le)), (g5, .inl (cJ, 300, .inr (.inl by_))), (g6, .inl (cJ, 300, .inr (.inl he))), (g7, .inl (cI, 300, .inl lo)), (g8, .inl (cI, 300, .inl ((rkN fi le by_ he rk 0).2)))] := hD
  refine lpX1_rank (fi := fi) (le := le) (by_ := by_) (he := he) (rk := rk) hx hb hml hts hown hK hA hfi (fun  H locs ls hP hD hS hl => ?_) (300) 0 (by omega) H _ ls hP hD hS (lv_sub hl [1, 0] rfl)
  · -- kn
    have hP9 : va_P (dC, dI) vwCl [(g0, .inr (1, [.ref g1, .ref g2, .ref g3, .ref g4, .ref g5, .ref g6, .ref g7, .ref g8, .int (nI (rkN fi le by_ he rk 300).1)])), (g1, .inl (cI, 300, .inl fi)), (g2, .inl (cI, 300, .inl nx)), (g3, .inl (cI, 300, .inl la)), (g4, .inl (cI, 300, .inl le)), (g5, .inl (cJ, 300, .inr (.inl by_))), (g6, .inl (cJ, 300, .inr (.inl he))), (g7, .inl (cI, 300, .inl lo)), (g8, .inl (cI, 300, .inl ((rkN fi le by_ he rk 300).2)))] H := hP
    have hD9 : va_D A [(g0, .inr (1, [.ref g1, .ref g2, .ref g3, .ref g4, .ref g5, .ref g6, .ref g7, .ref g8, .int (nI (rkN fi le by_ he rk 300).1)])), (g1, .inl (cI, 300, .inl fi)), (g2, .inl (cI, 300, .inl nx)), (g3, .inl (cI, 300, .inl la)), (g4, .inl (cI, 300, .inl le)), (g5, .inl (cJ, 300, .inr (.inl by_))), (g6, .inl (cJ, 300, .inr (.inl he))), (g7, .inl (cI, 300, .inl lo)), (g8, .inl (cI, 300, .inl ((rkN fi le by_ he rk 300).2)))] := hD
    exact W.vret hx hb hr (fun t ht hW => ⟨⟨(), rfl, trivial, by rw [ht]; exact hP9, va_K.moved hW.alike hK, hD9⟩, hS.F ht⟩) hS.2.2 dX1_rank_117
set_option maxHeartbeats 4000000 in
set_option maxRecDepth 100000 in
theorem lpX1_write_in {p : Program} {l : Launch} {ev : Env} {s : State} {m : MethodId} {args : Array Value} {below : List Frame} {meth : Method} {c : Code} {Q : State → Prop} {A : Nat → Prop} {dC : Nat → ClassId} {dI : Nat → Nat → Nat} {cI cJ cZ : ClassId} (hx : p.tables.exec = Jvm.exec) (hb : c.code = cX1_writeTo) (hml : c.maxLocals = 6) (hts : ∀ w ∈ wsX1_writeTo, w.before args s = true) (hown : s.vm.findClass RX1 = some m.cls) (hK : va_K (dC, dI) vwCl [(cI, .int), (cJ, .long), (cZ, .boolean)] s) (hA : ∀ q : Nat, s.heap.size ≤ q → A q) {g0 : Nat} {g1 : Nat} {g2 : Nat} {g3 : Nat} {g4 : Nat} {g5 : Nat} {g6 : Nat} {g7 : Nat} {g8 : Nat} {z0 : Nat} {w0 : Nat} {w1 : Nat} {w2 : Nat} {fi nx la le : Nat → Int32} {by_ he : Nat → Int64} {lo rk : Nat → Int32} {rc : Int32} {z : Nat → Int32} {i : Nat} {G : (Nat → Int32) × (Nat → Int64) × Nat × Int64}   (kn : ∀ (H : Heap) (locs : List Loc) (ls : Array Slot), va_P (dC, dI) vwCl [(g0, .inr (1, [.ref g1, .ref g2, .ref g3, .ref g4, .ref g5, .ref g6, .ref g7, .ref g8, .int rc])), (g1, .inl (cI, 300, .inl fi)), (g2, .inl (cI, 300, .inl nx)), (g3, .inl (cI, 300, .inl la)), (g4, .inl (cI, 300, .inl le)), (g5, .inl (cJ, 300, .inr (.inl by_))), (g6, .inl (cJ, 300, .inr (.inl he))), (g7, .inl (cI, 300, .inl lo)), (g8, .inl (cI, 300, .inl rk)), (z0, .inl (cI, 300, .inl z)), (w0, .inr (2, [.ref w1, .ref w2, .int (nI G.2.2.1), .long G.2.2.2])), (w1, .inl (cI, 300, .inl G.1)), (w2, .inl (cJ, 300, .inr (.inl G.2.1)))] H → va_D A [(g0, .inr (1, [.ref g1, .ref g2, .ref g3, .ref g4, .ref g5, .ref g6, .ref g7, .ref g8, .int rc])), (g1, .inl (cI, 300, .inl fi)), (g2, .inl (cI, 300, .inl nx)), (g3, .inl (cI, 300, .inl la)), (g4, .inl (cI, 300, .inl le)), (g5, .inl (cJ, 300, .inr (.inl by_))), (g6, .inl (cJ, 300, .inr (.inl he))), (g7, .inl (cI, 300, .inl lo)), (g8, .inl (cI, 300, .inl rk)), (z0, .inl (cI, 300, .inl z)), (w0, .inr (2, [.ref w1, .ref w2, .int (nI G.2.2.1), .long G.2.2.2])), (w1, .inl (cI, 300, .inl G.1)), (w2, .inl (cJ, 300, .inr (.inl G.2.1)))] → va_S A s.heap H locs → lv_has ls 6 [(0, .ref g0), (1, .ref w0), (2, .ref z0), (3, .int (nI i))] → W p l ev ({ frames := 2, cells := 0, slots := 0, locals := 46 } : Room) s m args below meth c H locs 0 0 Q (F0 m 64 ls [])) : ∀ (n : Nat) (q : List Nat) (f : Int32) (k : Nat) (x : (Nat → Int32) × (Nat → Int64) × Nat × Int64), q.length = n → k + q.length ≤ 300 → Chain nx q f → (∀ y, y ∈ q → y < 300) → x.2.2.1 + q.length ≤ 300 → q.foldl (rAdd z) x = G → ∀ (H : Heap) (locs : List Loc) (ls : Array Slot), va_P (dC, dI) vwCl [(g0, .inr (1, [.ref g1, .ref g2, .ref g3, .ref g4, .ref g5, .ref g6, .ref g7, .ref g8, .int rc])), (g1, .inl (cI, 300, .inl fi)), (g2, .inl (cI, 300, .inl nx)), (g3, .inl (cI, 300, .inl la)), (g4, .inl (cI, 300, .inl le)), (g5, .inl (cJ, 300, .inr (.inl by_))), (g6, .inl (cJ, 300, .inr (.inl he))), (g7, .inl (cI, 300, .inl lo)), (g8, .inl (cI, 300, .inl rk)), (z0, .inl (cI, 300, .inl z)), (w0, .inr (2, [.ref w1, .ref w2, .int (nI x.2.2.1), .long x.2.2.2])), (w1, .inl (cI, 300, .inl x.1)), (w2, .inl (cJ, 300, .inr (.inl x.2.1)))] H → va_D A [(g0, .inr (1, [.ref g1, .ref g2, .ref g3, .ref g4, .ref g5, .ref g6, .ref g7, .ref g8, .int rc])), (g1, .inl (cI, 300, .inl fi)), (g2, .inl (cI, 300, .inl nx)), (g3, .inl (cI, 300, .inl la)), (g4, .inl (cI, 300, .inl le)), (g5, .inl (cJ, 300, .inr (.inl by_))), (g6, .inl (cJ, 300, .inr (.inl he))), (g7, .inl (cI, 300, .inl lo)), (g8, .inl (cI, 300, .inl rk)), (z0, .inl (cI, 300, .inl z)), (w0, .inr (2, [.ref w1, .ref w2, .int (nI x.2.2.1), .long x.2.2.2])), (w1, .inl (cI, 300, .inl x.1)), (w2, .inl (cJ, 300, .inr (.inl x.2.1)))] → va_S A s.heap H locs → lv_has ls 6 [(0, .ref g0), (1, .ref w0), (2, .ref z0), (3, .int (nI i)), (4, .int f), (5, .int (nI k))] → W p l ev ({ frames := 2, cells := 0, slots := 0, locals := 46 } : Room) s m args below meth c H locs 0 0 Q (F0 m 25 ls []) := by
  have hin1 : ∀ w ∈ wsX10, w ∈ wsX1_writeTo := by decide +kernel
  intro n
  induction n with
  | zero =>
    intro q f k x hn hk hc hm hu hG H locs ls hP hD hS hl
    have hq : q = [] := List.length_eq_zero_iff.mp hn
    subst hq
    have hf : f = -1 := hc
    subst hf
    have hG : x = G := hG
    subst hG
    refine lv_iload hx hb dX1_writeTo_25 (lv_at hl 5 rfl) ?_
    refine lv_sipush (v := 300) hx hb dX1_writeTo_27 (by decide) ?_
    refine lv_icmp_ge (tgt := 64) hx hb dX1_writeTo_30 (by decide) (fun c_1 => ?_) (fun c_1 => ?_)
    · -- pc 30, side 0
      exact kn   H locs ls hP hD hS (lv_sub hl [0, 1, 2, 3] rfl)
    · -- pc 30, side 1
      refine lv_iload hx hb dX1_writeTo_33 (lv_at hl 4 rfl) ?_
      refine lv_iconst (v := (-1)) hx hb dX1_writeTo_35 (by decide) ?_
      refine lv_icmp_eq (tgt := 64) hx hb dX1_writeTo_36 (by decide) (fun c_2 => ?_) (fun c_2 => ?_)
      · -- pc 36, side 0
        exact kn   H locs ls hP hD hS (lv_sub hl [0, 1, 2, 3] rfl)
      · -- pc 36, side 1
        exact absurd rfl c_2
  | succ n ih =>
    intro q f k x hn hk hc hm hu hG H locs ls hP hD hS hl
    obtain ⟨y, q, rfl⟩ : ∃ y q', q = y :: q' := by cases q with | nil => cases hn | cons y q => exact ⟨y, q, rfl⟩
    obtain ⟨hf, hc⟩ := hc
    subst hf
    have hx9 : y < 300 := hm y List.mem_cons_self
    rw [List.length_cons] at hn hk hu
    refine lv_iload hx hb dX1_writeTo_25 (lv_at hl 5 rfl) ?_
    refine lv_sipush (v := 300) hx hb dX1_writeTo_27 (by decide) ?_
    refine lv_icmp_ge (tgt := 64) hx hb dX1_writeTo_30 (by decide) (fun c_3 => ?_) (fun c_3 => ?_)
    · -- pc 30, side 0
      exact absurd (show nI 300 ≤ nI k from c_3) (nI_ge (show k < 300 by omega) (by omega))
    · -- pc 30, side 1
      refine lv_iload hx hb dX1_writeTo_33 (lv_at hl 4 rfl) ?_
      refine lv_iconst (v := (-1)) hx hb dX1_writeTo_35 (by decide) ?_
      refine lv_icmp_eq (tgt := 64) hx hb dX1_writeTo_36 (by decide) (fun c_4 => ?_) (fun c_4 => ?_)
      · -- pc 36, side 0
        exact absurd c_4 (nI_m1 (by omega))
      · -- pc 36, side 1
        refine lv_aload_n hx hb dX1_writeTo_39 rfl (lv_at hl 1 rfl) ?_
        refine lv_iload hx hb dX1_writeTo_40 (lv_at hl 4 rfl) ?_
        refine lv_aload_n hx hb dX1_writeTo_42 rfl (lv_at hl 2 rfl) ?_
        refine lv_iload hx hb dX1_writeTo_43 (lv_at hl 4 rfl) ?_
        refine va_iald hx hb hK hP 9 0 rfl rfl (inn hx9 (by omega)) dX1_writeTo_45 ?_
        refine tp_i (y := z y) (by rw [ix_n (by omega)]) ?_
        have hPc := hP.sub (ws' := [(w0, .inr (2, [.ref w1, .ref w2, .int (nI x.2.2.1), .long x.2.2.2])), (w1, .inl (cI, 300, .inl x.1)), (w2, .inl (cJ, 300, .inr (.inl x.2.1)))]) [10, 11, 12] rfl
        have hDc := hD.sub (ws' := [(w0, .inr (2, [.ref w1, .ref w2, .int (nI x.2.2.1), .long x.2.2.2])), (w1, .inl (cI, 300, .inl x.1)), (w2, .inl (cJ, 300, .inr (.inl x.2.1)))]) [10, 11, 12] (by decide) rfl
        have hFc := va_free (wc := [(w0, .inr (2, [.ref w1, .ref w2, .int (nI x.2.2.1), .long x.2.2.2])), (w1, .inl (cI, 300, .inl x.1)), (w2, .inl (cJ, 300, .inr (.inl x.2.1)))]) hD hS hA [10, 11, 12] rfl
        refine va_callv (va_runV (As := [.int (nI y), .int (z y)]) (rest := []) ⟨hx, hb, hml, hown, hts⟩ (ct_X2_append l dC dI cI cJ cZ H.size w0 w1 w2 x.1 x.2.1 x.2.2.1 x.2.2.2 (nI y) (z y) (by omega) (inn hx9 (by omega))) (cwV 2 hts gX1_writeTo_X2_append rfl rfl rfl (by decide +kernel) ⟨Nat.le_of_ble_eq_true rfl, Nat.le_of_ble_eq_true rfl⟩) (pre_V hK hPc hDc (ci := 2) rfl rfl) rfl rfl hl.1 rfl (lv_room (Nat.le_of_ble_eq_true rfl)) dX1_writeTo_46 ⟨Nat.zero_le _, Nat.zero_le _⟩) hS (fun q _ h => hFc q h) hFc (fun uu t H1 locs ht hvm hw hB hz1 hk1 hS => ?_)
        obtain ⟨hP1, hK1, hD1⟩ := hB
        rw [ht] at hP1
        try dsimp only at hw
        have hP1 : va_P (dC, dI) vwCl [(w0, .inr (2, [.ref w1, .ref w2, .int (nI (x.2.2.1 + 1)), .long (x.2.2.2 + (z y).toInt64)])), (w1, .inl (cI, 300, .inl (upd x.1 x.2.2.1 (nI y)))), (w2, .inl (cJ, 300, .inr (.inl (vp_updL x.2.1 ((nI y).toNatClampNeg) x.2.2.2))))] H1 := hP1
        obtain ⟨hP, hD⟩ := va_join (wr := [(g0, .inr (1, [.ref g1, .ref g2, .ref g3, .ref g4, .ref g5, .ref g6, .ref g7, .ref g8, .int rc])), (g1, .inl (cI, 300, .inl fi)), (g2, .inl (cI, 300, .inl nx)), (g3, .inl (cI, 300, .inl la)), (g4, .inl (cI, 300, .inl le)), (g5, .inl (cJ, 300, .inr (.inl by_))), (g6, .inl (cJ, 300, .inr (.inl he))), (g7, .inl (cI, 300, .inl lo)), (g8, .inl (cI, 300, .inl rk)), (z0, .inl (cI, 300, .inl z))]) (w1 := [(w0, .inr (2, [.ref w1, .ref w2, .int (nI (x.2.2.1 + 1)), .long (x.2.2.2 + (z y).toInt64)])), (w1, .inl (cI, 300, .inl (upd x.1 x.2.2.1 (nI y)))), (w2, .inl (cJ, 300, .inr (.inl (vp_updL x.2.1 ((nI y).toNatClampNeg) x.2.2.2))))]) hP hD [10, 11, 12] [0, 1, 2, 3, 4, 5, 6, 7, 8, 9] rfl rfl (by decide) (by decide) hk1 hFc hP1 hD1
        have hP := hP.sub (ws' := [(g0, .inr (1, [.ref g1, .ref g2, .ref g3, .ref g4, .ref g5, .ref g6, .ref g7, .ref g8, .int rc])), (g1, .inl (cI, 300, .inl fi)), (g2, .inl (cI, 300, .inl nx)), (g3, .inl (cI, 300, .inl la)), (g4, .inl (cI, 300, .inl le)), (g5, .inl (cJ, 300, .inr (.inl by_))), (g6, .inl (cJ, 300, .inr (.inl he))), (g7, .inl (cI, 300, .inl lo)), (g8, .inl (cI, 300, .inl rk)), (z0, .inl (cI, 300, .inl z)), (w0, .inr (2, [.ref w1, .ref w2, .int (nI (x.2.2.1 + 1)), .long (x.2.2.2 + (z y).toInt64)])), (w1, .inl (cI, 300, .inl (upd x.1 x.2.2.1 (nI y)))), (w2, .inl (cJ, 300, .inr (.inl (vp_updL x.2.1 ((nI y).toNatClampNeg) x.2.2.2))))]) [0, 1, 2, 3, 4, 5, 6, 7, 8, 9, 10, 11, 12] rfl
        have hD := hD.sub (ws' := [(g0, .inr (1, [.ref g1, .ref g2, .ref g3, .ref g4, .ref g5, .ref g6, .ref g7, .ref g8, .int rc])), (g1, .inl (cI, 300, .inl fi)), (g2, .inl (cI, 300, .inl nx)), (g3, .inl (cI, 300, .inl la)), (g4, .inl (cI, 300, .inl le)), (g5, .inl (cJ, 300, .inr (.inl by_))), (g6, .inl (cJ, 300, .inr (.inl he))), (g7, .inl (cI, 300, .inl lo)), (g8, .inl (cI, 300, .inl rk)), (z0, .inl (cI, 300, .inl z)), (w0, .inr (2, [.ref w1, .ref w2, .int (nI (x.2.2.1 + 1)), .long (x.2.2.2 + (z y).toInt64)])), (w1, .inl (cI, 300, .inl (upd x.1 x.2.2.1 (nI y)))), (w2, .inl (cJ, 300, .inr (.inl (vp_updL x.2.1 ((nI y).toNatClampNeg) x.2.2.2))))]) [0, 1, 2, 3, 4, 5, 6, 7, 8, 9, 10, 11, 12] (by decide) rfl
        generalize H1 = H at hP hS ⊢
        rw [ix_n (by omega)] at hP hD
        refine lv_aload_n hx hb dX1_writeTo_49 rfl (lv_at hl 0 rfl) ?_
        refine va_get (D := (dC, dI)) (ci := 1) (v := .ref g2) (C := RX1) (T := TX1) (N := 9) hx hb hts hin1 hown hK hP 0 rfl rfl 1 (by decide) (hts (.fieldLink RX1 15 "CallClusters$Clustering" "next" "[I") (by decide +kernel)) (fun _ h9 => h9) rfl dX1_writeTo_50 ?_
        refine lv_iload hx hb dX1_writeTo_53 (lv_at hl 4 rfl) ?_
        refine va_iald hx hb hK hP 2 0 rfl rfl (inn hx9 (by omega)) dX1_writeTo_55 ?_
        refine tp_i (y := nx y) (by rw [ix_n (by omega)]) ?_
        refine lv_istore (lv' := [(4, .int (nx y)), (0, .ref g0), (1, .ref w0), (2, .ref z0), (3, .int (nI i)), (5, .int (nI k))]) hx hb dX1_writeTo_56 hl (by decide) rfl (fun ls hl => ?_)
        refine lv_iinc (v := nI (k + 1)) (lv' := [(5, .int (nI (k + 1))), (4, .int (nx y)), (0, .ref g0), (1, .ref w0), (2, .ref z0), (3, .int (nI i))]) hx hb dX1_writeTo_58 hl (k := 5) rfl (by exact nI_1 k) (by decide) rfl (fun ls hl => ?_)
        refine lv_goto (tgt := 25) hx hb dX1_writeTo_61 (by decide) ?_
        exact ih q (nx y) (k + 1) (rAdd z x y) (by omega) (by omega) (hc) (fun v hv => hm v (List.mem_cons_of_mem _ hv)) (by show x.2.2.1 + 1 + q.length ≤ 300; omega) (hG) H locs ls hP hD hS (lv_sub hl [2, 3, 4, 5, 1, 0] rfl)
set_option maxHeartbeats 4000000 in
set_option maxRecDepth 100000 in
theorem lpX1_write {p : Program} {l : Launch} {ev : Env} {s : State} {m : MethodId} {args : Array Value} {below : List Frame} {meth : Method} {c : Code} {Q : State → Prop} {A : Nat → Prop} {dC : Nat → ClassId} {dI : Nat → Nat → Nat} {cI cJ cZ : ClassId} (hx : p.tables.exec = Jvm.exec) (hb : c.code = cX1_writeTo) (hml : c.maxLocals = 6) (hts : ∀ w ∈ wsX1_writeTo, w.before args s = true) (hown : s.vm.findClass RX1 = some m.cls) (hK : va_K (dC, dI) vwCl [(cI, .int), (cJ, .long), (cZ, .boolean)] s) (hA : ∀ q : Nat, s.heap.size ≤ q → A q) {g0 : Nat} {g1 : Nat} {g2 : Nat} {g3 : Nat} {g4 : Nat} {g5 : Nat} {g6 : Nat} {g7 : Nat} {g8 : Nat} {z0 : Nat} {w0 : Nat} {w1 : Nat} {w2 : Nat} {fi nx la le : Nat → Int32} {by_ he : Nat → Int64} {lo rk : Nat → Int32} {z : Nat → Int32} {cnt : Nat} {ch : Nat → List Nat} {G : (Nat → Int32) × (Nat → Int64) × Nat × Int64} (hcnt : cnt ≤ 300)  (kn : ∀ (H : Heap) (locs : List Loc) (ls : Array Slot), va_P (dC, dI) vwCl [(g0, .inr (1, [.ref g1, .ref g2, .ref g3, .ref g4, .ref g5, .ref g6, .ref g7, .ref g8, .int (nI cnt)])), (g1, .inl (cI, 300, .inl fi)), (g2, .inl (cI, 300, .inl nx)), (g3, .inl (cI, 300, .inl la)), (g4, .inl (cI, 300, .inl le)), (g5, .inl (cJ, 300, .inr (.inl by_))), (g6, .inl (cJ, 300, .inr (.inl he))), (g7, .inl (cI, 300, .inl lo)), (g8, .inl (cI, 300, .inl rk)), (z0, .inl (cI, 300, .inl z)), (w0, .inr (2, [.ref w1, .ref w2, .int (nI G.2.2.1), .long G.2.2.2])), (w1, .inl (cI, 300, .inl G.1)), (w2, .inl (cJ, 300, .inr (.inl G.2.1)))] H → va_D A [(g0, .inr (1, [.ref g1, .ref g2, .ref g3, .ref g4, .ref g5, .ref g6, .ref g7, .ref g8, .int (nI cnt)])), (g1, .inl (cI, 300, .inl fi)), (g2, .inl (cI, 300, .inl nx)), (g3, .inl (cI, 300, .inl la)), (g4, .inl (cI, 300, .inl le)), (g5, .inl (cJ, 300, .inr (.inl by_))), (g6, .inl (cJ, 300, .inr (.inl he))), (g7, .inl (cI, 300, .inl lo)), (g8, .inl (cI, 300, .inl rk)), (z0, .inl (cI, 300, .inl z)), (w0, .inr (2, [.ref w1, .ref w2, .int (nI G.2.2.1), .long G.2.2.2])), (w1, .inl (cI, 300, .inl G.1)), (w2, .inl (cJ, 300, .inr (.inl G.2.1)))] → va_S A s.heap H locs → lv_has ls 6 [(0, .ref g0), (1, .ref w0), (2, .ref z0)] → W p l ev ({ frames := 2, cells := 0, slots := 0, locals := 46 } : Room) s m args below meth c H locs 0 0 Q (F0 m 70 ls [])) : ∀ (n : Nat) (hs : List Nat) (i : Nat) (x : (Nat → Int32) × (Nat → Int64) × Nat × Int64), hs.length = n → i + hs.length = cnt → (∀ j (h : j < hs.length), rk (i + j) = nI hs[j]) → (∀ h, h ∈ hs → Chain nx (ch h) (nI h) ∧ ∀ y, y ∈ ch h → y < 300) → x.2.2.1 + (hs.flatMap ch).length ≤ 300 → (hs.flatMap ch).foldl (rAdd z) x = G → ∀ (H : Heap) (locs : List Loc) (ls : Array Slot), va_P (dC, dI) vwCl [(g0, .inr (1, [.ref g1, .ref g2, .ref g3, .ref g4, .ref g5, .ref g6, .ref g7, .ref g8, .int (nI cnt)])), (g1, .inl (cI, 300, .inl fi)), (g2, .inl (cI, 300, .inl nx)), (g3, .inl (cI, 300, .inl la)), (g4, .inl (cI, 300, .inl le)), (g5, .inl (cJ, 300, .inr (.inl by_))), (g6, .inl (cJ, 300, .inr (.inl he))), (g7, .inl (cI, 300, .inl lo)), (g8, .inl (cI, 300, .inl rk)), (z0, .inl (cI, 300, .inl z)), (w0, .inr (2, [.ref w1, .ref w2, .int (nI x.2.2.1), .long x.2.2.2])), (w1, .inl (cI, 300, .inl x.1)), (w2, .inl (cJ, 300, .inr (.inl x.2.1)))] H → va_D A [(g0, .inr (1, [.ref g1, .ref g2, .ref g3, .ref g4, .ref g5, .ref g6, .ref g7, .ref g8, .int (nI cnt)])), (g1, .inl (cI, 300, .inl fi)), (g2, .inl (cI, 300, .inl nx)), (g3, .inl (cI, 300, .inl la)), (g4, .inl (cI, 300, .inl le)), (g5, .inl (cJ, 300, .inr (.inl by_))), (g6, .inl (cJ, 300, .inr (.inl he))), (g7, .inl (cI, 300, .inl lo)), (g8, .inl (cI, 300, .inl rk)), (z0, .inl (cI, 300, .inl z)), (w0, .inr (2, [.ref w1, .ref w2, .int (nI x.2.2.1), .long x.2.2.2])), (w1, .inl (cI, 300, .inl x.1)), (w2, .inl (cJ, 300, .inr (.inl x.2.1)))] → va_S A s.heap H locs → lv_has ls 6 [(0, .ref g0), (1, .ref w0), (2, .ref z0), (3, .int (nI i))] → W p l ev ({ frames := 2, cells := 0, slots := 0, locals := 46 } : Room) s m args below meth c H locs 0 0 Q (F0 m 6 ls []) := by
  have hin1 : ∀ w ∈ wsX10, w ∈ wsX1_writeTo := by decide +kernel
  intro n
  induction n with
  | zero =>
    intro hs i x hn hi hr hc hu hG H locs ls hP hD hS hl
    have hq : hs = [] := List.length_eq_zero_iff.mp hn
    subst hq
    have hi : i = cnt := hi
    subst hi
    have hG : x = G := hG
    subst hG
    refine lv_iload_n hx hb dX1_writeTo_6 rfl (lv_at hl 3 rfl) ?_
    refine lv_aload_n hx hb dX1_writeTo_7 rfl (lv_at hl 0 rfl) ?_
    refine va_get (D := (dC, dI)) (ci := 1) (v := .int (nI i)) (C := RX1) (T := TX1) (N := 9) hx hb hts hin1 hown hK hP 0 rfl rfl 8 (by decide) (hts (.fieldLink RX1 58 "CallClusters$Clustering" "rankedCount" "I") (by decide +kernel)) (fun _ h9 => h9) rfl dX1_writeTo_8 ?_
    refine lv_icmp_ge (tgt := 70) hx hb dX1_writeTo_11 (by decide) (fun c_1 => ?_) (fun c_1 => ?_)
    · -- pc 11, side 0
      exact kn   H locs ls hP hD hS (lv_sub hl [0, 1, 2] rfl)
    · -- pc 11, side 1
      exact absurd (nI_le (Nat.le_refl _) (by omega)) c_1
  | succ n ih =>
    intro hs i x hn hi hr hc hu hG H locs ls hP hD hS hl
    obtain ⟨h9, hs, rfl⟩ : ∃ y q', hs = y :: q' := by cases hs with | nil => cases hn | cons y q => exact ⟨y, q, rfl⟩
    rw [List.length_cons] at hn hi
    rw [List.flatMap_cons, List.length_append] at hu
    rw [List.flatMap_cons, List.foldl_append] at hG
    have hr0 : rk i = nI h9 := hr 0 (by rw [List.length_cons]; omega)
    obtain ⟨hc0, hm0⟩ := hc h9 List.mem_cons_self
    refine lv_iload_n hx hb dX1_writeTo_6 rfl (lv_at hl 3 rfl) ?_
    refine lv_aload_n hx hb dX1_writeTo_7 rfl (lv_at hl 0 rfl) ?_
    refine va_get (D := (dC, dI)) (ci := 1) (v := .int (nI cnt)) (C := RX1) (T := TX1) (N := 9) hx hb hts hin1 hown hK hP 0 rfl rfl 8 (by decide) (hts (.fieldLink RX1 58 "CallClusters$Clustering" "rankedCount" "I") (by decide +kernel)) (fun _ h9 => h9) rfl dX1_writeTo_8 ?_
    refine lv_icmp_ge (tgt := 70) hx hb dX1_writeTo_11 (by decide) (fun c_2 => ?_) (fun c_2 => ?_)
    · -- pc 11, side 0
      exact absurd c_2 (nI_ge (show i < cnt by omega) (by omega))
    · -- pc 11, side 1
      refine lv_aload_n hx hb dX1_writeTo_14 rfl (lv_at hl 0 rfl) ?_
      refine va_get (D := (dC, dI)) (ci := 1) (v := .ref g8) (C := RX1) (T := TX1) (N := 9) hx hb hts hin1 hown hK hP 0 rfl rfl 7 (by decide) (hts (.fieldLink RX1 34 "CallClusters$Clustering" "ranked" "[I") (by decide +kernel)) (fun _ h9 => h9) rfl dX1_writeTo_15 ?_
      refine lv_iload_n hx hb dX1_writeTo_18 rfl (lv_at hl 3 rfl) ?_
      refine va_iald hx hb hK hP 8 0 rfl rfl (inn (show i < 300 by omega) (by omega)) dX1_writeTo_19 ?_
      refine tp_i (y := nI h9) (by rw [ix_n (by omega)]; exact hr0) ?_
      refine lv_istore (lv' := [(4, .int (nI h9)), (0, .ref g0), (1, .ref w0), (2, .ref z0), (3, .int (nI i))]) hx hb dX1_writeTo_20 hl (by decide) rfl (fun ls hl => ?_)
      refine lv_iconst (v := 0) hx hb dX1_writeTo_22 (by decide) ?_
      refine tp_i (y := nI 0) (nI_0.symm) ?_
      refine lv_istore (lv' := [(5, .int (nI 0)), (4, .int (nI h9)), (0, .ref g0), (1, .ref w0), (2, .ref z0), (3, .int (nI i))]) hx hb dX1_writeTo_23 hl (by decide) rfl (fun ls hl => ?_)
      refine lpX1_write_in (rc := nI cnt) (z := z) (i := i) (G := (ch h9).foldl (rAdd z) x) hx hb hml hts hown hK hA  (fun  H locs ls hP hD hS hl => ?_) ((ch h9).length) (ch h9) _ 0 x (rfl) (by omega) (hc0) (hm0) (by omega) (rfl) H _ ls hP hD hS (lv_sub hl [2, 3, 4, 5, 1, 0] rfl)
      · -- kn
        refine lv_iinc (v := nI (i + 1)) (lv' := [(3, .int (nI (i + 1))), (0, .ref g0), (1, .ref w0), (2, .ref z0)]) hx hb dX1_writeTo_64 hl (k := 3) rfl (by exact nI_1 i) (by decide) rfl (fun ls hl => ?_)
        refine lv_goto (tgt := 6) hx hb dX1_writeTo_67 (by decide) ?_
        exact ih hs (i + 1) ((ch h9).foldl (rAdd z) x) (by omega) (by omega) (fun j hj => by rw [show i + 1 + j = i + (j + 1) by omega]; exact hr (j + 1) (by rw [List.length_cons]; omega)) (fun h hh => hc h (List.mem_cons_of_mem _ hh)) (by rw [rAdd_n]; omega) (hG) H locs ls hP hD hS (lv_sub hl [1, 2, 3, 0] rfl)
set_option maxHeartbeats 4000000 in
set_option maxRecDepth 100000 in
theorem ct_X1_writeTo (l : Launch) (dC : Nat → ClassId) (dI : Nat → Nat → Nat) (cI cJ cZ : ClassId) (sz : Nat) (g0 : Nat) (g1 : Nat) (g2 : Nat) (g3 : Nat) (g4 : Nat) (g5 : Nat) (g6 : Nat) (g7 : Nat) (g8 : Nat) (z0 : Nat) (w0 : Nat) (w1 : Nat) (w2 : Nat) (fi nx la le : Nat → Int32) (by_ he : Nat → Int64) (lo rk : Nat → Int32) (cnt : Nat) (z : Nat → Int32) (M : Nat → Int32) (B : Nat → Int64) (v : Int32) (y : Int64) (hs : List Nat) (ch : Nat → List Nat) (hcnt : hs.length = cnt) (hle : (hs.flatMap ch).length ≤ 300) (hc3 : cnt ≤ 300) (hr9 : ∀ j (h : j < hs.length), rk j = nI hs[j]) (hc : ∀ h, h ∈ hs → Chain nx (ch h) (nI h) ∧ ∀ y, y ∈ ch h → y < 300) : Met l yX1_writeTo wsX1_writeTo ({ frames := 2, cells := 0, slots := 0, locals := 46 }) (va_Pc [.ref g0, .ref w0, .ref z0] (fun U => U.heap.size = sz ∧ va_P (dC, dI) vwCl [(g0, .inr (1, [.ref g1, .ref g2, .ref g3, .ref g4, .ref g5, .ref g6, .ref g7, .ref g8, .int (nI cnt)])), (g1, .inl (cI, 300, .inl fi)), (g2, .inl (cI, 300, .inl nx)), (g3, .inl (cI, 300, .inl la)), (g4, .inl (cI, 300, .inl le)), (g5, .inl (cJ, 300, .inr (.inl by_))), (g6, .inl (cJ, 300, .inr (.inl he))), (g7, .inl (cI, 300, .inl lo)), (g8, .inl (cI, 300, .inl rk)), (z0, .inl (cI, 300, .inl z)), (w0, .inr (2, [.ref w1, .ref w2, .int v, .long y])), (w1, .inl (cI, 300, .inl M)), (w2, .inl (cJ, 300, .inr (.inl B)))] U.heap ∧ va_K (dC, dI) vwCl [(cI, .int), (cJ, .long), (cZ, .boolean)] U ∧ va_D (fun _ => True) [(g0, .inr (1, [.ref g1, .ref g2, .ref g3, .ref g4, .ref g5, .ref g6, .ref g7, .ref g8, .int (nI cnt)])), (g1, .inl (cI, 300, .inl fi)), (g2, .inl (cI, 300, .inl nx)), (g3, .inl (cI, 300, .inl la)), (g4, .inl (cI, 300, .inl le)), (g5, .inl (cJ, 300, .inr (.inl by_))), (g6, .inl (cJ, 300, .inr (.inl he))), (g7, .inl (cI, 300, .inl lo)), (g8, .inl (cI, 300, .inl rk)), (z0, .inl (cI, 300, .inl z)), (w0, .inr (2, [.ref w1, .ref w2, .int v, .long y])), (w1, .inl (cI, 300, .inl M)), (w2, .inl (cJ, 300, .inr (.inl B)))])) (va_Qv (fun (uu : Unit) => True) (fun (uu : Unit) (t : State) => va_P (dC, dI) vwCl [(g0, .inr (1, [.ref g1, .ref g2, .ref g3, .ref g4, .ref g5, .ref g6, .ref g7, .ref g8, .int (nI cnt)])), (g1, .inl (cI, 300, .inl fi)), (g2, .inl (cI, 300, .inl nx)), (g3, .inl (cI, 300, .inl la)), (g4, .inl (cI, 300, .inl le)), (g5, .inl (cJ, 300, .inr (.inl by_))), (g6, .inl (cJ, 300, .inr (.inl he))), (g7, .inl (cI, 300, .inl lo)), (g8, .inl (cI, 300, .inl rk)), (z0, .inl (cI, 300, .inl z)), (w0, .inr (2, [.ref w1, .ref w2, .int (nI (rowL z M (fun _ => -1) (hs.flatMap ch)).2.2.1), .long ((rowL z M (fun _ => -1) (hs.flatMap ch)).2.2.2)])), (w1, .inl (cI, 300, .inl ((rowL z M (fun _ => -1) (hs.flatMap ch)).1))), (w2, .inl (cJ, 300, .inr (.inl ((rowL z M (fun _ => -1) (hs.flatMap ch)).2.1))))] t.heap ∧ va_K (dC, dI) vwCl [(cI, .int), (cJ, .long), (cZ, .boolean)] t ∧ va_D (va_A [(g0, .inr (1, [.ref g1, .ref g2, .ref g3, .ref g4, .ref g5, .ref g6, .ref g7, .ref g8, .int (nI cnt)])), (g1, .inl (cI, 300, .inl fi)), (g2, .inl (cI, 300, .inl nx)), (g3, .inl (cI, 300, .inl la)), (g4, .inl (cI, 300, .inl le)), (g5, .inl (cJ, 300, .inr (.inl by_))), (g6, .inl (cJ, 300, .inr (.inl he))), (g7, .inl (cI, 300, .inl lo)), (g8, .inl (cI, 300, .inl rk)), (z0, .inl (cI, 300, .inl z)), (w0, .inr (2, [.ref w1, .ref w2, .int v, .long y])), (w1, .inl (cI, 300, .inl M)), (w2, .inl (cJ, 300, .inr (.inl B)))] sz) [(g0, .inr (1, [.ref g1, .ref g2, .ref g3, .ref g4, .ref g5, .ref g6, .ref g7, .ref g8, .int (nI cnt)])), (g1, .inl (cI, 300, .inl fi)), (g2, .inl (cI, 300, .inl nx)), (g3, .inl (cI, 300, .inl la)), (g4, .inl (cI, 300, .inl le)), (g5, .inl (cJ, 300, .inr (.inl by_))), (g6, .inl (cJ, 300, .inr (.inl he))), (g7, .inl (cI, 300, .inl lo)), (g8, .inl (cI, 300, .inl rk)), (z0, .inl (cI, 300, .inl z)), (w0, .inr (2, [.ref w1, .ref w2, .int (nI (rowL z M (fun _ => -1) (hs.flatMap ch)).2.2.1), .long ((rowL z M (fun _ => -1) (hs.flatMap ch)).2.2.2)])), (w1, .inl (cI, 300, .inl ((rowL z M (fun _ => -1) (hs.flatMap ch)).1))), (w2, .inl (cJ, 300, .inr (.inl ((rowL z M (fun _ => -1) (hs.flatMap ch)).2.1))))]) (va_A [(g0, .inr (1, [.ref g1, .ref g2, .ref g3, .ref g4, .ref g5, .ref g6, .ref g7, .ref g8, .int (nI cnt)])), (g1, .inl (cI, 300, .inl fi)), (g2, .inl (cI, 300, .inl nx)), (g3, .inl (cI, 300, .inl la)), (g4, .inl (cI, 300, .inl le)), (g5, .inl (cJ, 300, .inr (.inl by_))), (g6, .inl (cJ, 300, .inr (.inl he))), (g7, .inl (cI, 300, .inl lo)), (g8, .inl (cI, 300, .inl rk)), (z0, .inl (cI, 300, .inl z)), (w0, .inr (2, [.ref w1, .ref w2, .int v, .long y])), (w1, .inl (cI, 300, .inl M)), (w2, .inl (cJ, 300, .inr (.inl B)))] sz)) 0 0 (va_A [(g0, .inr (1, [.ref g1, .ref g2, .ref g3, .ref g4, .ref g5, .ref g6, .ref g7, .ref g8, .int (nI cnt)])), (g1, .inl (cI, 300, .inl fi)), (g2, .inl (cI, 300, .inl nx)), (g3, .inl (cI, 300, .inl la)), (g4, .inl (cI, 300, .inl le)), (g5, .inl (cJ, 300, .inr (.inl by_))), (g6, .inl (cJ, 300, .inr (.inl he))), (g7, .inl (cI, 300, .inl lo)), (g8, .inl (cI, 300, .inl rk)), (z0, .inl (cI, 300, .inl z)), (w0, .inr (2, [.ref w1, .ref w2, .int v, .long y])), (w1, .inl (cI, 300, .inl M)), (w2, .inl (cJ, 300, .inr (.inl B)))] sz) := by
  refine Met.ofW (cc := cX1_writeTo) (maxL := 6) (ret := none) (by decide) rfl ?_
  intro p ev s m args below meth c s₁ Bd hml hv
  obtain ⟨rfl, hsz, hP, hK, hD0⟩ := hv
  have hx := Bd.exec
  have hb := Bd.bytes
  have hr := Bd.returns
  have hts := atoms_spec (ws := wsX1_writeTo) Bd.pre
  have hown : s.vm.findClass RX1 = some m.cls := findClass_of_methodNamed Bd.named
  have hlocks := Bd.notSynchronized
  have hin1 : ∀ w ∈ wsX10, w ∈ wsX1_writeTo := by decide +kernel
  subst hsz
  have hD := hD0.self (sz := s.heap.size)
  generalize hAe : va_A [(g0, .inr (1, [.ref g1, .ref g2, .ref g3, .ref g4, .ref g5, .ref g6, .ref g7, .ref g8, .int (nI cnt)])), (g1, .inl (cI, 300, .inl fi)), (g2, .inl (cI, 300, .inl nx)), (g3, .inl (cI, 300, .inl la)), (g4, .inl (cI, 300, .inl le)), (g5, .inl (cJ, 300, .inr (.inl by_))), (g6, .inl (cJ, 300, .inr (.inl he))), (g7, .inl (cI, 300, .inl lo)), (g8, .inl (cI, 300, .inl rk)), (z0, .inl (cI, 300, .inl z)), (w0, .inr (2, [.ref w1, .ref w2, .int v, .long y])), (w1, .inl (cI, 300, .inl M)), (w2, .inl (cJ, 300, .inr (.inl B)))] s.heap.size = A at hD ⊢
  have hA : ∀ q : Nat, s.heap.size ≤ q → A q := fun q h => by rw [← hAe]; exact Or.inr h
  have hS : va_S A s.heap s.heap [] := va_S.rf
  have hl := lv_entry ([.ref g0, .ref w0, .ref z0]) (n := 6) (Nat.le_of_ble_eq_true rfl)
  rw [lg_entry_eq]
  generalize (lg_sl ([.ref g0, .ref w0, .ref z0]) ++ List.replicate (6 - (lg_sl ([.ref g0, .ref w0, .ref z0])).length) Slot.unset).toArray = ls at hl ⊢
  have hl : lv_has ls 6 [(0, .ref g0), (1, .ref w0), (2, .ref z0)] := hl
  generalize hHe : s.heap = H at hP ⊢
  have hS : va_S A s.heap H [] := hHe ▸ hS
  refine lv_aload_n hx hb dX1_writeTo_0 rfl (lv_at hl 1 rfl) ?_
  have hPc := hP.sub (ws' := [(w0, .inr (2, [.ref w1, .ref w2, .int v, .long y])), (w1, .inl (cI, 300, .inl M)), (w2, .inl (cJ, 300, .inr (.inl B)))]) [10, 11, 12] rfl
  have hDc := hD.sub (ws' := [(w0, .inr (2, [.ref w1, .ref w2, .int v, .long y])), (w1, .inl (cI, 300, .inl M)), (w2, .inl (cJ, 300, .inr (.inl B)))]) [10, 11, 12] (by decide) rfl
  have hFc := va_free (wc := [(w0, .inr (2, [.ref w1, .ref w2, .int v, .long y])), (w1, .inl (cI, 300, .inl M)), (w2, .inl (cJ, 300, .inr (.inl B)))]) hD hS hA [10, 11, 12] rfl
  refine va_callv (va_runV (As := []) (rest := []) ⟨hx, hb, hml, hown, hts⟩ (ct_X2_empty l dC dI cI cJ cZ H.size w0 w1 w2 M B v y ) (cwV 0 hts gX1_writeTo_X2_empty rfl rfl rfl (by decide +kernel) ⟨Nat.le_of_ble_eq_true rfl, Nat.le_of_ble_eq_true rfl⟩) (pre_V hK hPc hDc (ci := 2) rfl rfl) rfl rfl hl.1 rfl (lv_room (Nat.le_of_ble_eq_true rfl)) dX1_writeTo_1 ⟨Nat.zero_le _, Nat.zero_le _⟩) hS (fun q _ h => hFc q h) hFc (fun uu t H1 locs ht hvm hw hB hz1 hk1 hS => ?_)
  obtain ⟨hP1, hK1, hD1⟩ := hB
  rw [ht] at hP1
  try dsimp only at hw
  have hP1 : va_P (dC, dI) vwCl [(w0, .inr (2, [.ref w1, .ref w2, .int 0, .long 0])), (w1, .inl (cI, 300, .inl M)), (w2, .inl (cJ, 300, .inr (.inl (mix 300 (fun _ => -1) B))))] H1 := hP1
  obtain ⟨hP, hD⟩ := va_join (wr := [(g0, .inr (1, [.ref g1, .ref g2, .ref g3, .ref g4, .ref g5, .ref g6, .ref g7, .ref g8, .int (nI cnt)])), (g1, .inl (cI, 300, .inl fi)), (g2, .inl (cI, 300, .inl nx)), (g3, .inl (cI, 300, .inl la)), (g4, .inl (cI, 300, .inl le)), (g5, .inl (cJ, 300, .inr (.inl by_))), (g6, .inl (cJ, 300, .inr (.inl he))), (g7, .inl (cI, 300, .inl lo)), (g8, .inl (cI, 300, .inl rk)), (z0, .inl (cI, 300, .inl z))]) (w1 := [(w0, .inr (2, [.ref w1, .ref w2, .int 0, .long 0])), (w1, .inl (cI, 300, .inl M)), (w2, .inl (cJ, 300, .inr (.inl (mix 300 (fun _ => -1) B))))]) hP hD [10, 11, 12] [0, 1, 2, 3, 4, 5, 6, 7, 8, 9] rfl rfl (by decide) (by decide) hk1 hFc hP1 hD1
  have hP := hP.sub (ws' := [(g0, .inr (1, [.ref g1, .ref g2, .ref g3, .ref g4, .ref g5, .ref g6, .ref g7, .ref g8, .int (nI cnt)])), (g1, .inl (cI, 300, .inl fi)), (g2, .inl (cI, 300, .inl nx)), (g3, .inl (cI, 300, .inl la)), (g4, .inl (cI, 300, .inl le)), (g5, .inl (cJ, 300, .inr (.inl by_))), (g6, .inl (cJ, 300, .inr (.inl he))), (g7, .inl (cI, 300, .inl lo)), (g8, .inl (cI, 300, .inl rk)), (z0, .inl (cI, 300, .inl z)), (w0, .inr (2, [.ref w1, .ref w2, .int 0, .long 0])), (w1, .inl (cI, 300, .inl M)), (w2, .inl (cJ, 300, .inr (.inl (mix 300 (fun _ => -1) B))))]) [0, 1, 2, 3, 4, 5, 6, 7, 8, 9, 10, 11, 12] rfl
  have hD := hD.sub (ws' := [(g0, .inr (1, [.ref g1, .ref g2, .ref g3, .ref g4, .ref g5, .ref g6, .ref g7, .ref g8, .int (nI cnt)])), (g1, .inl (cI, 300, .inl fi)), (g2, .inl (cI, 300, .inl nx)), (g3, .inl (cI, 300, .inl la)), (g4, .inl (cI, 300, .inl le)), (g5, .inl (cJ, 300, .inr (.inl by_))), (g6, .inl (cJ, 300, .inr (.inl he))), (g7, .inl (cI, 300, .inl lo)), (g8, .inl (cI, 300, .inl rk)), (z0, .inl (cI, 300, .inl z)), (w0, .inr (2, [.ref w1, .ref w2, .int 0, .long 0])), (w1, .inl (cI, 300, .inl M)), (w2, .inl (cJ, 300, .inr (.inl (mix 300 (fun _ => -1) B))))]) [0, 1, 2, 3, 4, 5, 6, 7, 8, 9, 10, 11, 12] (by decide) rfl
  generalize H1 = H at hP hS ⊢
  refine lv_iconst (v := 0) hx hb dX1_writeTo_4 (by decide) ?_
  refine tp_i (y := nI 0) (nI_0.symm) ?_
  refine lv_istore_n (lv' := [(3, .int (nI 0)), (0, .ref g0), (1, .ref w0), (2, .ref z0)]) hx hb dX1_writeTo_5 rfl hl (by decide) rfl (fun ls hl => ?_)
  have hP := hP.el 12 (fun _ => -1) rfl (fun j hj => mix_lt _ _ hj)
  have hD := hD.set (p := 12) (e := .inl (cJ, 300, .inr (.inl (fun _ => -1)))) rfl
  have hP : va_P (dC, dI) vwCl [(g0, .inr (1, [.ref g1, .ref g2, .ref g3, .ref g4, .ref g5, .ref g6, .ref g7, .ref g8, .int (nI cnt)])), (g1, .inl (cI, 300, .inl fi)), (g2, .inl (cI, 300, .inl nx)), (g3, .inl (cI, 300, .inl la)), (g4, .inl (cI, 300, .inl le)), (g5, .inl (cJ, 300, .inr (.inl by_))), (g6, .inl (cJ, 300, .inr (.inl he))), (g7, .inl (cI, 300, .inl lo)), (g8, .inl (cI, 300, .inl rk)), (z0, .inl (cI, 300, .inl z)), (w0, .inr (2, [.ref w1, .ref w2, .int (nI 0), .long 0])), (w1, .inl (cI, 300, .inl M)), (w2, .inl (cJ, 300, .inr (.inl (fun _ => -1))))] H := hP
  have hD : va_D A [(g0, .inr (1, [.ref g1, .ref g2, .ref g3, .ref g4, .ref g5, .ref g6, .ref g7, .ref g8, .int (nI cnt)])), (g1, .inl (cI, 300, .inl fi)), (g2, .inl (cI, 300, .inl nx)), (g3, .inl (cI, 300, .inl la)), (g4, .inl (cI, 300, .inl le)), (g5, .inl (cJ, 300, .inr (.inl by_))), (g6, .inl (cJ, 300, .inr (.inl he))), (g7, .inl (cI, 300, .inl lo)), (g8, .inl (cI, 300, .inl rk)), (z0, .inl (cI, 300, .inl z)), (w0, .inr (2, [.ref w1, .ref w2, .int (nI 0), .long 0])), (w1, .inl (cI, 300, .inl M)), (w2, .inl (cJ, 300, .inr (.inl (fun _ => -1))))] := hD
  refine lpX1_write (z := z) (cnt := cnt) (ch := ch) (G := (rowL z M (fun _ => -1) (hs.flatMap ch))) hx hb hml hts hown hK hA hc3 (fun  H locs ls hP hD hS hl => ?_) (hs.length) hs 0 (M, (fun _ => -1), 0, 0) (rfl) (by omega) (fun j hj => by rw [Nat.zero_add]; exact hr9 j hj) (hc) (by show 0 + _ ≤ 300; omega) (rfl) H _ ls hP hD hS (lv_sub hl [1, 2, 3, 0] rfl)
  · -- kn
    have hP9 : va_P (dC, dI) vwCl [(g0, .inr (1, [.ref g1, .ref g2, .ref g3, .ref g4, .ref g5, .ref g6, .ref g7, .ref g8, .int (nI cnt)])), (g1, .inl (cI, 300, .inl fi)), (g2, .inl (cI, 300, .inl nx)), (g3, .inl (cI, 300, .inl la)), (g4, .inl (cI, 300, .inl le)), (g5, .inl (cJ, 300, .inr (.inl by_))), (g6, .inl (cJ, 300, .inr (.inl he))), (g7, .inl (cI, 300, .inl lo)), (g8, .inl (cI, 300, .inl rk)), (z0, .inl (cI, 300, .inl z)), (w0, .inr (2, [.ref w1, .ref w2, .int (nI (rowL z M (fun _ => -1) (hs.flatMap ch)).2.2.1), .long ((rowL z M (fun _ => -1) (hs.flatMap ch)).2.2.2)])), (w1, .inl (cI, 300, .inl ((rowL z M (fun _ => -1) (hs.flatMap ch)).1))), (w2, .inl (cJ, 300, .inr (.inl ((rowL z M (fun _ => -1) (hs.flatMap ch)).2.1))))] H := hP
    have hD9 : va_D A [(g0, .inr (1, [.ref g1, .ref g2, .ref g3, .ref g4, .ref g5, .ref g6, .ref g7, .ref g8, .int (nI cnt)])), (g1, .inl (cI, 300, .inl fi)), (g2, .inl (cI, 300, .inl nx)), (g3, .inl (cI, 300, .inl la)), (g4, .inl (cI, 300, .inl le)), (g5, .inl (cJ, 300, .inr (.inl by_))), (g6, .inl (cJ, 300, .inr (.inl he))), (g7, .inl (cI, 300, .inl lo)), (g8, .inl (cI, 300, .inl rk)), (z0, .inl (cI, 300, .inl z)), (w0, .inr (2, [.ref w1, .ref w2, .int (nI (rowL z M (fun _ => -1) (hs.flatMap ch)).2.2.1), .long ((rowL z M (fun _ => -1) (hs.flatMap ch)).2.2.2)])), (w1, .inl (cI, 300, .inl ((rowL z M (fun _ => -1) (hs.flatMap ch)).1))), (w2, .inl (cJ, 300, .inr (.inl ((rowL z M (fun _ => -1) (hs.flatMap ch)).2.1))))] := hD
    exact W.vret hx hb hr (fun t ht hW => ⟨⟨(), rfl, trivial, by rw [ht]; exact hP9, va_K.moved hW.alike hK, hD9⟩, hS.F ht⟩) hS.2.2 dX1_writeTo_70
set_option maxHeartbeats 4000000 in
set_option maxRecDepth 100000 in
theorem ct_X1_init (l : Launch) (dC : Nat → ClassId) (dI : Nat → Nat → Nat) (cI cJ cZ : ClassId) (sz : Nat) (g0 : Nat)   : Met l yX1_init wsX1_init ({ frames := 1, cells := 8, slots := 2400, locals := 12 }) (va_Pc [.ref g0] (fun U => U.heap.size = sz ∧ va_P (dC, dI) vwCl [(g0, .inr (1, [.null, .null, .null, .null, .null, .null, .null, .null, .int 0]))] U.heap ∧ va_K (dC, dI) vwCl [(cI, .int), (cJ, .long), (cZ, .boolean)] U ∧ va_D (fun _ => True) [(g0, .inr (1, [.null, .null, .null, .null, .null, .null, .null, .null, .int 0]))])) (va_Qv (fun (uu : Unit) => True) (fun (uu : Unit) (t : State) => ∃ (g1 g2 g3 g4 g5 g6 g7 g8 : Nat), va_P (dC, dI) vwCl [(g0, .inr (1, [.ref g1, .ref g2, .ref g3, .ref g4, .ref g5, .ref g6, .ref g7, .ref g8, .int 0])), (g1, .inl (cI, 300, .inl (fun _ => 0))), (g2, .inl (cI, 300, .inl (fun _ => 0))), (g3, .inl (cI, 300, .inl (fun _ => 0))), (g4, .inl (cI, 300, .inl (fun _ => 0))), (g5, .inl (cJ, 300, .inr (.inl (fun _ => 0)))), (g6, .inl (cJ, 300, .inr (.inl (fun _ => 0)))), (g7, .inl (cI, 300, .inl (fun _ => 0))), (g8, .inl (cI, 300, .inl (fun _ => 0)))] t.heap ∧ va_K (dC, dI) vwCl [(cI, .int), (cJ, .long), (cZ, .boolean)] t ∧ va_D (va_A [(g0, .inr (1, [.null, .null, .null, .null, .null, .null, .null, .null, .int 0]))] sz) [(g0, .inr (1, [.ref g1, .ref g2, .ref g3, .ref g4, .ref g5, .ref g6, .ref g7, .ref g8, .int 0])), (g1, .inl (cI, 300, .inl (fun _ => 0))), (g2, .inl (cI, 300, .inl (fun _ => 0))), (g3, .inl (cI, 300, .inl (fun _ => 0))), (g4, .inl (cI, 300, .inl (fun _ => 0))), (g5, .inl (cJ, 300, .inr (.inl (fun _ => 0)))), (g6, .inl (cJ, 300, .inr (.inl (fun _ => 0)))), (g7, .inl (cI, 300, .inl (fun _ => 0))), (g8, .inl (cI, 300, .inl (fun _ => 0)))]) (va_A [(g0, .inr (1, [.null, .null, .null, .null, .null, .null, .null, .null, .int 0]))] sz)) 8 2400 (va_A [(g0, .inr (1, [.null, .null, .null, .null, .null, .null, .null, .null, .int 0]))] sz) := by
  refine Met.ofW (cc := cX1_init) (maxL := 1) (ret := none) (by decide) rfl ?_
  intro p ev s m args below meth c s₁ Bd hml hv
  obtain ⟨rfl, hsz, hP, hK, hD0⟩ := hv
  have hx := Bd.exec
  have hb := Bd.bytes
  have hr := Bd.returns
  have hts := atoms_spec (ws := wsX1_init) Bd.pre
  have hown : s.vm.findClass RX1 = some m.cls := findClass_of_methodNamed Bd.named
  have hlocks := Bd.notSynchronized
  have hin : meth.name = "<init>" := (name_of_methodNamed Bd.named Bd.method).1
  have hin1 : ∀ w ∈ wsX10, w ∈ wsX1_init := by decide +kernel
  subst hsz
  have hD := hD0.self (sz := s.heap.size)
  generalize hAe : va_A [(g0, .inr (1, [.null, .null, .null, .null, .null, .null, .null, .null, .int 0]))] s.heap.size = A at hD ⊢
  have hA : ∀ q : Nat, s.heap.size ≤ q → A q := fun q h => by rw [← hAe]; exact Or.inr h
  have hS : va_S A s.heap s.heap [] := va_S.rf
  have hl := lv_entry ([.ref g0]) (n := 1) (Nat.le_of_ble_eq_true rfl)
  rw [lg_entry_eq]
  generalize (lg_sl ([.ref g0]) ++ List.replicate (1 - (lg_sl ([.ref g0])).length) Slot.unset).toArray = ls at hl ⊢
  have hl : lv_has ls 1 [(0, .ref g0)] := hl
  generalize hHe : s.heap = H at hP ⊢
  have hS : va_S A s.heap H [] := hHe ▸ hS
  refine lv_aload_n hx hb dX1_init_0 rfl (lv_at hl 0 rfl) ?_
  refine W.objInit hx hb hown (hts (.methodLink RX1 3 objectInit) (by decide +kernel)) (hts (.instanceMethod objectInit) (by decide +kernel)) (hts (.code objectInit ⟨#[0xb1]⟩ 1 none) (by decide +kernel)) rfl (by rw [hml]; exact hl.1) rfl dX1_init_1 (Nat.le_of_ble_eq_true rfl) (Nat.le_of_ble_eq_true rfl) ?_
  refine W.eq (g2 := F0 m 4 ls []) rfl ?_
  refine lv_aload_n hx hb dX1_init_4 rfl (lv_at hl 0 rfl) ?_
  refine lv_sipush (v := 300) hx hb dX1_init_5 (by decide) ?_
  refine new_a (atype := .int) (ty := .int) (cA := cI) (a0 := (300, .inl (fun _ => 0))) (N' := 300) hx hb (hts (.arrayClass .int) (by decide +kernel)) rfl hK 0 rfl (fun _ _ h => h) hP hD hS hA (vp_zero_i _) (by decide) (by decide) (by decide) (by decide) (by decide) dX1_init_8 (fun a_1 H hP hD hS => ?_)
  have hP : va_P (dC, dI) vwCl [(g0, .inr (1, [.null, .null, .null, .null, .null, .null, .null, .null, .int 0])), (a_1, .inl (cI, 300, .inl (fun _ => 0)))] H := hP
  have hD : va_D A [(g0, .inr (1, [.null, .null, .null, .null, .null, .null, .null, .null, .int 0])), (a_1, .inl (cI, 300, .inl (fun _ => 0)))] := hD
  refine W.widen (k := 1) (n := 300) (by omega) (by omega) ?_
  refine va_putF (D := (dC, dI)) (ci := 1) (v := .ref a_1) (ty := (.array .int)) (C := RX1) (T := TX1) (N := 9) hx hb hts hin1 tyX1 tyX1_ok nmX1 hown hK hP hD hS 0 rfl rfl 0 (by decide) (hts (.fieldLink RX1 9 "CallClusters$Clustering" "first" "[I") (by decide +kernel)) (fun _ h9 => h9) rfl hin rfl (by decide +kernel) (rfl) (rfl) (Nat.le_of_ble_eq_true rfl) dX1_init_10 (fun H locs hP hD hS => ?_)
  have hP : va_P (dC, dI) vwCl [(g0, .inr (1, [.ref a_1, .null, .null, .null, .null, .null, .null, .null, .int 0])), (a_1, .inl (cI, 300, .inl (fun _ => 0)))] H := hP
  have hD : va_D A [(g0, .inr (1, [.ref a_1, .null, .null, .null, .null, .null, .null, .null, .int 0])), (a_1, .inl (cI, 300, .inl (fun _ => 0)))] := hD
  refine lv_aload_n hx hb dX1_init_13 rfl (lv_at hl 0 rfl) ?_
  refine lv_sipush (v := 300) hx hb dX1_init_14 (by decide) ?_
  refine new_a (atype := .int) (ty := .int) (cA := cI) (a0 := (300, .inl (fun _ => 0))) (N' := 300) hx hb (hts (.arrayClass .int) (by decide +kernel)) rfl hK 0 rfl (fun _ _ h => h) hP hD hS hA (vp_zero_i _) (by decide) (by decide) (by decide) (by decide) (by decide) dX1_init_17 (fun a_2 H hP hD hS => ?_)
  have hP : va_P (dC, dI) vwCl [(g0, .inr (1, [.ref a_1, .null, .null, .null, .null, .null, .null, .null, .int 0])), (a_1, .inl (cI, 300, .inl (fun _ => 0))), (a_2, .inl (cI, 300, .inl (fun _ => 0)))] H := hP
  have hD : va_D A [(g0, .inr (1, [.ref a_1, .null, .null, .null, .null, .null, .null, .null, .int 0])), (a_1, .inl (cI, 300, .inl (fun _ => 0))), (a_2, .inl (cI, 300, .inl (fun _ => 0)))] := hD
  refine W.widen (k := 2) (n := 600) (by omega) (by omega) ?_
  refine va_putF (D := (dC, dI)) (ci := 1) (v := .ref a_2) (ty := (.array .int)) (C := RX1) (T := TX1) (N := 9) hx hb hts hin1 tyX1 tyX1_ok nmX1 hown hK hP hD hS 0 rfl rfl 1 (by decide) (hts (.fieldLink RX1 15 "CallClusters$Clustering" "next" "[I") (by decide +kernel)) (fun _ h9 => h9) rfl hin rfl (by decide +kernel) (rfl) (rfl) (Nat.le_of_ble_eq_true rfl) dX1_init_19 (fun H locs hP hD hS => ?_)
  have hP : va_P (dC, dI) vwCl [(g0, .inr (1, [.ref a_1, .ref a_2, .null, .null, .null, .null, .null, .null, .int 0])), (a_1, .inl (cI, 300, .inl (fun _ => 0))), (a_2, .inl (cI, 300, .inl (fun _ => 0)))] H := hP
  have hD : va_D A [(g0, .inr (1, [.ref a_1, .ref a_2, .null, .null, .null, .null, .null, .null, .int 0])), (a_1, .inl (cI, 300, .inl (fun _ => 0))), (a_2, .inl (cI, 300, .inl (fun _ => 0)))] := hD
  refine lv_aload_n hx hb dX1_init_22 rfl (lv_at hl 0 rfl) ?_
  refine lv_sipush (v := 300) hx hb dX1_init_23 (by decide) ?_
  refine new_a (atype := .int) (ty := .int) (cA := cI) (a0 := (300, .inl (fun _ => 0))) (N' := 300) hx hb (hts (.arrayClass .int) (by decide +kernel)) rfl hK 0 rfl (fun _ _ h => h) hP hD hS hA (vp_zero_i _) (by decide) (by decide) (by decide) (by decide) (by decide) dX1_init_26 (fun a_3 H hP hD hS => ?_)
  have hP : va_P (dC, dI) vwCl [(g0, .inr (1, [.ref a_1, .ref a_2, .null, .null, .null, .null, .null, .null, .int 0])), (a_1, .inl (cI, 300, .inl (fun _ => 0))), (a_2, .inl (cI, 300, .inl (fun _ => 0))), (a_3, .inl (cI, 300, .inl (fun _ => 0)))] H := hP
  have hD : va_D A [(g0, .inr (1, [.ref a_1, .ref a_2, .null, .null, .null, .null, .null, .null, .int 0])), (a_1, .inl (cI, 300, .inl (fun _ => 0))), (a_2, .inl (cI, 300, .inl (fun _ => 0))), (a_3, .inl (cI, 300, .inl (fun _ => 0)))] := hD
  refine W.widen (k := 3) (n := 900) (by omega) (by omega) ?_
  refine va_putF (D := (dC, dI)) (ci := 1) (v := .ref a_3) (ty := (.array .int)) (C := RX1) (T := TX1) (N := 9) hx hb hts hin1 tyX1 tyX1_ok nmX1 hown hK hP hD hS 0 rfl rfl 2 (by decide) (hts (.fieldLink RX1 18 "CallClusters$Clustering" "last" "[I") (by decide +kernel)) (fun _ h9 => h9) rfl hin rfl (by decide +kernel) (rfl) (rfl) (Nat.le_of_ble_eq_true rfl) dX1_init_28 (fun H locs hP hD hS => ?_)
  have hP : va_P (dC, dI) vwCl [(g0, .inr (1, [.ref a_1, .ref a_2, .ref a_3, .null, .null, .null, .null, .null, .int 0])), (a_1, .inl (cI, 300, .inl (fun _ => 0))), (a_2, .inl (cI, 300, .inl (fun _ => 0))), (a_3, .inl (cI, 300, .inl (fun _ => 0)))] H := hP
  have hD : va_D A [(g0, .inr (1, [.ref a_1, .ref a_2, .ref a_3, .null, .null, .null, .null, .null, .int 0])), (a_1, .inl (cI, 300, .inl (fun _ => 0))), (a_2, .inl (cI, 300, .inl (fun _ => 0))), (a_3, .inl (cI, 300, .inl (fun _ => 0)))] := hD
  refine lv_aload_n hx hb dX1_init_31 rfl (lv_at hl 0 rfl) ?_
  refine lv_sipush (v := 300) hx hb dX1_init_32 (by decide) ?_
  refine new_a (atype := .int) (ty := .int) (cA := cI) (a0 := (300, .inl (fun _ => 0))) (N' := 300) hx hb (hts (.arrayClass .int) (by decide +kernel)) rfl hK 0 rfl (fun _ _ h => h) hP hD hS hA (vp_zero_i _) (by decide) (by decide) (by decide) (by decide) (by decide) dX1_init_35 (fun a_4 H hP hD hS => ?_)
  have hP : va_P (dC, dI) vwCl [(g0, .inr (1, [.ref a_1, .ref a_2, .ref a_3, .null, .null, .null, .null, .null, .int 0])), (a_1, .inl (cI, 300, .inl (fun _ => 0))), (a_2, .inl (cI, 300, .inl (fun _ => 0))), (a_3, .inl (cI, 300, .inl (fun _ => 0))), (a_4, .inl (cI, 300, .inl (fun _ => 0)))] H := hP
  have hD : va_D A [(g0, .inr (1, [.ref a_1, .ref a_2, .ref a_3, .null, .null, .null, .null, .null, .int 0])), (a_1, .inl (cI, 300, .inl (fun _ => 0))), (a_2, .inl (cI, 300, .inl (fun _ => 0))), (a_3, .inl (cI, 300, .inl (fun _ => 0))), (a_4, .inl (cI, 300, .inl (fun _ => 0)))] := hD
  refine W.widen (k := 4) (n := 1200) (by omega) (by omega) ?_
  refine va_putF (D := (dC, dI)) (ci := 1) (v := .ref a_4) (ty := (.array .int)) (C := RX1) (T := TX1) (N := 9) hx hb hts hin1 tyX1 tyX1_ok nmX1 hown hK hP hD hS 0 rfl rfl 3 (by decide) (hts (.fieldLink RX1 21 "CallClusters$Clustering" "least" "[I") (by decide +kernel)) (fun _ h9 => h9) rfl hin rfl (by decide +kernel) (rfl) (rfl) (Nat.le_of_ble_eq_true rfl) dX1_init_37 (fun H locs hP hD hS => ?_)
  have hP : va_P (dC, dI) vwCl [(g0, .inr (1, [.ref a_1, .ref a_2, .ref a_3, .ref a_4, .null, .null, .null, .null, .int 0])), (a_1, .inl (cI, 300, .inl (fun _ => 0))), (a_2, .inl (cI, 300, .inl (fun _ => 0))), (a_3, .inl (cI, 300, .inl (fun _ => 0))), (a_4, .inl (cI, 300, .inl (fun _ => 0)))] H := hP
  have hD : va_D A [(g0, .inr (1, [.ref a_1, .ref a_2, .ref a_3, .ref a_4, .null, .null, .null, .null, .int 0])), (a_1, .inl (cI, 300, .inl (fun _ => 0))), (a_2, .inl (cI, 300, .inl (fun _ => 0))), (a_3, .inl (cI, 300, .inl (fun _ => 0))), (a_4, .inl (cI, 300, .inl (fun _ => 0)))] := hD
  refine lv_aload_n hx hb dX1_init_40 rfl (lv_at hl 0 rfl) ?_
  refine lv_sipush (v := 300) hx hb dX1_init_41 (by decide) ?_
  refine new_a (atype := .long) (ty := .long) (cA := cJ) (a0 := (300, .inr (.inl (fun _ => 0)))) (N' := 300) hx hb (hts (.arrayClass .long) (by decide +kernel)) rfl hK 1 rfl (fun _ _ h => h) hP hD hS hA (vp_zero_l _) (by decide) (by decide) (by decide) (by decide) (by decide) dX1_init_44 (fun a_5 H hP hD hS => ?_)
  have hP : va_P (dC, dI) vwCl [(g0, .inr (1, [.ref a_1, .ref a_2, .ref a_3, .ref a_4, .null, .null, .null, .null, .int 0])), (a_1, .inl (cI, 300, .inl (fun _ => 0))), (a_2, .inl (cI, 300, .inl (fun _ => 0))), (a_3, .inl (cI, 300, .inl (fun _ => 0))), (a_4, .inl (cI, 300, .inl (fun _ => 0))), (a_5, .inl (cJ, 300, .inr (.inl (fun _ => 0))))] H := hP
  have hD : va_D A [(g0, .inr (1, [.ref a_1, .ref a_2, .ref a_3, .ref a_4, .null, .null, .null, .null, .int 0])), (a_1, .inl (cI, 300, .inl (fun _ => 0))), (a_2, .inl (cI, 300, .inl (fun _ => 0))), (a_3, .inl (cI, 300, .inl (fun _ => 0))), (a_4, .inl (cI, 300, .inl (fun _ => 0))), (a_5, .inl (cJ, 300, .inr (.inl (fun _ => 0))))] := hD
  refine W.widen (k := 5) (n := 1500) (by omega) (by omega) ?_
  refine va_putF (D := (dC, dI)) (ci := 1) (v := .ref a_5) (ty := (.array .long)) (C := RX1) (T := TX1) (N := 9) hx hb hts hin1 tyX1 tyX1_ok nmX1 hown hK hP hD hS 0 rfl rfl 4 (by decide) (hts (.fieldLink RX1 24 "CallClusters$Clustering" "bytes" "[J") (by decide +kernel)) (fun _ h9 => h9) rfl hin rfl (by decide +kernel) (rfl) (rfl) (Nat.le_of_ble_eq_true rfl) dX1_init_46 (fun H locs hP hD hS => ?_)
  have hP : va_P (dC, dI) vwCl [(g0, .inr (1, [.ref a_1, .ref a_2, .ref a_3, .ref a_4, .ref a_5, .null, .null, .null, .int 0])), (a_1, .inl (cI, 300, .inl (fun _ => 0))), (a_2, .inl (cI, 300, .inl (fun _ => 0))), (a_3, .inl (cI, 300, .inl (fun _ => 0))), (a_4, .inl (cI, 300, .inl (fun _ => 0))), (a_5, .inl (cJ, 300, .inr (.inl (fun _ => 0))))] H := hP
  have hD : va_D A [(g0, .inr (1, [.ref a_1, .ref a_2, .ref a_3, .ref a_4, .ref a_5, .null, .null, .null, .int 0])), (a_1, .inl (cI, 300, .inl (fun _ => 0))), (a_2, .inl (cI, 300, .inl (fun _ => 0))), (a_3, .inl (cI, 300, .inl (fun _ => 0))), (a_4, .inl (cI, 300, .inl (fun _ => 0))), (a_5, .inl (cJ, 300, .inr (.inl (fun _ => 0))))] := hD
  refine lv_aload_n hx hb dX1_init_49 rfl (lv_at hl 0 rfl) ?_
  refine lv_sipush (v := 300) hx hb dX1_init_50 (by decide) ?_
  refine new_a (atype := .long) (ty := .long) (cA := cJ) (a0 := (300, .inr (.inl (fun _ => 0)))) (N' := 300) hx hb (hts (.arrayClass .long) (by decide +kernel)) rfl hK 1 rfl (fun _ _ h => h) hP hD hS hA (vp_zero_l _) (by decide) (by decide) (by decide) (by decide) (by decide) dX1_init_53 (fun a_6 H hP hD hS => ?_)
  have hP : va_P (dC, dI) vwCl [(g0, .inr (1, [.ref a_1, .ref a_2, .ref a_3, .ref a_4, .ref a_5, .null, .null, .null, .int 0])), (a_1, .inl (cI, 300, .inl (fun _ => 0))), (a_2, .inl (cI, 300, .inl (fun _ => 0))), (a_3, .inl (cI, 300, .inl (fun _ => 0))), (a_4, .inl (cI, 300, .inl (fun _ => 0))), (a_5, .inl (cJ, 300, .inr (.inl (fun _ => 0)))), (a_6, .inl (cJ, 300, .inr (.inl (fun _ => 0))))] H := hP
  have hD : va_D A [(g0, .inr (1, [.ref a_1, .ref a_2, .ref a_3, .ref a_4, .ref a_5, .null, .null, .null, .int 0])), (a_1, .inl (cI, 300, .inl (fun _ => 0))), (a_2, .inl (cI, 300, .inl (fun _ => 0))), (a_3, .inl (cI, 300, .inl (fun _ => 0))), (a_4, .inl (cI, 300, .inl (fun _ => 0))), (a_5, .inl (cJ, 300, .inr (.inl (fun _ => 0)))), (a_6, .inl (cJ, 300, .inr (.inl (fun _ => 0))))] := hD
  refine W.widen (k := 6) (n := 1800) (by omega) (by omega) ?_
  refine va_putF (D := (dC, dI)) (ci := 1) (v := .ref a_6) (ty := (.array .long)) (C := RX1) (T := TX1) (N := 9) hx hb hts hin1 tyX1 tyX1_ok nmX1 hown hK hP hD hS 0 rfl rfl 5 (by decide) (hts (.fieldLink RX1 28 "CallClusters$Clustering" "heat" "[J") (by decide +kernel)) (fun _ h9 => h9) rfl hin rfl (by decide +kernel) (rfl) (rfl) (Nat.le_of_ble_eq_true rfl) dX1_init_55 (fun H locs hP hD hS => ?_)
  have hP : va_P (dC, dI) vwCl [(g0, .inr (1, [.ref a_1, .ref a_2, .ref a_3, .ref a_4, .ref a_5, .ref a_6, .null, .null, .int 0])), (a_1, .inl (cI, 300, .inl (fun _ => 0))), (a_2, .inl (cI, 300, .inl (fun _ => 0))), (a_3, .inl (cI, 300, .inl (fun _ => 0))), (a_4, .inl (cI, 300, .inl (fun _ => 0))), (a_5, .inl (cJ, 300, .inr (.inl (fun _ => 0)))), (a_6, .inl (cJ, 300, .inr (.inl (fun _ => 0))))] H := hP
  have hD : va_D A [(g0, .inr (1, [.ref a_1, .ref a_2, .ref a_3, .ref a_4, .ref a_5, .ref a_6, .null, .null, .int 0])), (a_1, .inl (cI, 300, .inl (fun _ => 0))), (a_2, .inl (cI, 300, .inl (fun _ => 0))), (a_3, .inl (cI, 300, .inl (fun _ => 0))), (a_4, .inl (cI, 300, .inl (fun _ => 0))), (a_5, .inl (cJ, 300, .inr (.inl (fun _ => 0)))), (a_6, .inl (cJ, 300, .inr (.inl (fun _ => 0))))] := hD
  refine lv_aload_n hx hb dX1_init_58 rfl (lv_at hl 0 rfl) ?_
  refine lv_sipush (v := 300) hx hb dX1_init_59 (by decide) ?_
  refine new_a (atype := .int) (ty := .int) (cA := cI) (a0 := (300, .inl (fun _ => 0))) (N' := 300) hx hb (hts (.arrayClass .int) (by decide +kernel)) rfl hK 0 rfl (fun _ _ h => h) hP hD hS hA (vp_zero_i _) (by decide) (by decide) (by decide) (by decide) (by decide) dX1_init_62 (fun a_7 H hP hD hS => ?_)
  have hP : va_P (dC, dI) vwCl [(g0, .inr (1, [.ref a_1, .ref a_2, .ref a_3, .ref a_4, .ref a_5, .ref a_6, .null, .null, .int 0])), (a_1, .inl (cI, 300, .inl (fun _ => 0))), (a_2, .inl (cI, 300, .inl (fun _ => 0))), (a_3, .inl (cI, 300, .inl (fun _ => 0))), (a_4, .inl (cI, 300, .inl (fun _ => 0))), (a_5, .inl (cJ, 300, .inr (.inl (fun _ => 0)))), (a_6, .inl (cJ, 300, .inr (.inl (fun _ => 0)))), (a_7, .inl (cI, 300, .inl (fun _ => 0)))] H := hP
  have hD : va_D A [(g0, .inr (1, [.ref a_1, .ref a_2, .ref a_3, .ref a_4, .ref a_5, .ref a_6, .null, .null, .int 0])), (a_1, .inl (cI, 300, .inl (fun _ => 0))), (a_2, .inl (cI, 300, .inl (fun _ => 0))), (a_3, .inl (cI, 300, .inl (fun _ => 0))), (a_4, .inl (cI, 300, .inl (fun _ => 0))), (a_5, .inl (cJ, 300, .inr (.inl (fun _ => 0)))), (a_6, .inl (cJ, 300, .inr (.inl (fun _ => 0)))), (a_7, .inl (cI, 300, .inl (fun _ => 0)))] := hD
  refine W.widen (k := 7) (n := 2100) (by omega) (by omega) ?_
  refine va_putF (D := (dC, dI)) (ci := 1) (v := .ref a_7) (ty := (.array .int)) (C := RX1) (T := TX1) (N := 9) hx hb hts hin1 tyX1 tyX1_ok nmX1 hown hK hP hD hS 0 rfl rfl 6 (by decide) (hts (.fieldLink RX1 31 "CallClusters$Clustering" "looked" "[I") (by decide +kernel)) (fun _ h9 => h9) rfl hin rfl (by decide +kernel) (rfl) (rfl) (Nat.le_of_ble_eq_true rfl) dX1_init_64 (fun H locs hP hD hS => ?_)
  have hP : va_P (dC, dI) vwCl [(g0, .inr (1, [.ref a_1, .ref a_2, .ref a_3, .ref a_4, .ref a_5, .ref a_6, .ref a_7, .null, .int 0])), (a_1, .inl (cI, 300, .inl (fun _ => 0))), (a_2, .inl (cI, 300, .inl (fun _ => 0))), (a_3, .inl (cI, 300, .inl (fun _ => 0))), (a_4, .inl (cI, 300, .inl (fun _ => 0))), (a_5, .inl (cJ, 300, .inr (.inl (fun _ => 0)))), (a_6, .inl (cJ, 300, .inr (.inl (fun _ => 0)))), (a_7, .inl (cI, 300, .inl (fun _ => 0)))] H := hP
  have hD : va_D A [(g0, .inr (1, [.ref a_1, .ref a_2, .ref a_3, .ref a_4, .ref a_5, .ref a_6, .ref a_7, .null, .int 0])), (a_1, .inl (cI, 300, .inl (fun _ => 0))), (a_2, .inl (cI, 300, .inl (fun _ => 0))), (a_3, .inl (cI, 300, .inl (fun _ => 0))), (a_4, .inl (cI, 300, .inl (fun _ => 0))), (a_5, .inl (cJ, 300, .inr (.inl (fun _ => 0)))), (a_6, .inl (cJ, 300, .inr (.inl (fun _ => 0)))), (a_7, .inl (cI, 300, .inl (fun _ => 0)))] := hD
  refine lv_aload_n hx hb dX1_init_67 rfl (lv_at hl 0 rfl) ?_
  refine lv_sipush (v := 300) hx hb dX1_init_68 (by decide) ?_
  refine new_a (atype := .int) (ty := .int) (cA := cI) (a0 := (300, .inl (fun _ => 0))) (N' := 300) hx hb (hts (.arrayClass .int) (by decide +kernel)) rfl hK 0 rfl (fun _ _ h => h) hP hD hS hA (vp_zero_i _) (by decide) (by decide) (by decide) (by decide) (by decide) dX1_init_71 (fun a_8 H hP hD hS => ?_)
  have hP : va_P (dC, dI) vwCl [(g0, .inr (1, [.ref a_1, .ref a_2, .ref a_3, .ref a_4, .ref a_5, .ref a_6, .ref a_7, .null, .int 0])), (a_1, .inl (cI, 300, .inl (fun _ => 0))), (a_2, .inl (cI, 300, .inl (fun _ => 0))), (a_3, .inl (cI, 300, .inl (fun _ => 0))), (a_4, .inl (cI, 300, .inl (fun _ => 0))), (a_5, .inl (cJ, 300, .inr (.inl (fun _ => 0)))), (a_6, .inl (cJ, 300, .inr (.inl (fun _ => 0)))), (a_7, .inl (cI, 300, .inl (fun _ => 0))), (a_8, .inl (cI, 300, .inl (fun _ => 0)))] H := hP
  have hD : va_D A [(g0, .inr (1, [.ref a_1, .ref a_2, .ref a_3, .ref a_4, .ref a_5, .ref a_6, .ref a_7, .null, .int 0])), (a_1, .inl (cI, 300, .inl (fun _ => 0))), (a_2, .inl (cI, 300, .inl (fun _ => 0))), (a_3, .inl (cI, 300, .inl (fun _ => 0))), (a_4, .inl (cI, 300, .inl (fun _ => 0))), (a_5, .inl (cJ, 300, .inr (.inl (fun _ => 0)))), (a_6, .inl (cJ, 300, .inr (.inl (fun _ => 0)))), (a_7, .inl (cI, 300, .inl (fun _ => 0))), (a_8, .inl (cI, 300, .inl (fun _ => 0)))] := hD
  refine W.widen (k := 8) (n := 2400) (by omega) (by omega) ?_
  refine va_putF (D := (dC, dI)) (ci := 1) (v := .ref a_8) (ty := (.array .int)) (C := RX1) (T := TX1) (N := 9) hx hb hts hin1 tyX1 tyX1_ok nmX1 hown hK hP hD hS 0 rfl rfl 7 (by decide) (hts (.fieldLink RX1 34 "CallClusters$Clustering" "ranked" "[I") (by decide +kernel)) (fun _ h9 => h9) rfl hin rfl (by decide +kernel) (rfl) (rfl) (Nat.le_of_ble_eq_true rfl) dX1_init_73 (fun H locs hP hD hS => ?_)
  have hP : va_P (dC, dI) vwCl [(g0, .inr (1, [.ref a_1, .ref a_2, .ref a_3, .ref a_4, .ref a_5, .ref a_6, .ref a_7, .ref a_8, .int 0])), (a_1, .inl (cI, 300, .inl (fun _ => 0))), (a_2, .inl (cI, 300, .inl (fun _ => 0))), (a_3, .inl (cI, 300, .inl (fun _ => 0))), (a_4, .inl (cI, 300, .inl (fun _ => 0))), (a_5, .inl (cJ, 300, .inr (.inl (fun _ => 0)))), (a_6, .inl (cJ, 300, .inr (.inl (fun _ => 0)))), (a_7, .inl (cI, 300, .inl (fun _ => 0))), (a_8, .inl (cI, 300, .inl (fun _ => 0)))] H := hP
  have hD : va_D A [(g0, .inr (1, [.ref a_1, .ref a_2, .ref a_3, .ref a_4, .ref a_5, .ref a_6, .ref a_7, .ref a_8, .int 0])), (a_1, .inl (cI, 300, .inl (fun _ => 0))), (a_2, .inl (cI, 300, .inl (fun _ => 0))), (a_3, .inl (cI, 300, .inl (fun _ => 0))), (a_4, .inl (cI, 300, .inl (fun _ => 0))), (a_5, .inl (cJ, 300, .inr (.inl (fun _ => 0)))), (a_6, .inl (cJ, 300, .inr (.inl (fun _ => 0)))), (a_7, .inl (cI, 300, .inl (fun _ => 0))), (a_8, .inl (cI, 300, .inl (fun _ => 0)))] := hD
  have hP9 : va_P (dC, dI) vwCl [(g0, .inr (1, [.ref a_1, .ref a_2, .ref a_3, .ref a_4, .ref a_5, .ref a_6, .ref a_7, .ref a_8, .int 0])), (a_1, .inl (cI, 300, .inl (fun _ => 0))), (a_2, .inl (cI, 300, .inl (fun _ => 0))), (a_3, .inl (cI, 300, .inl (fun _ => 0))), (a_4, .inl (cI, 300, .inl (fun _ => 0))), (a_5, .inl (cJ, 300, .inr (.inl (fun _ => 0)))), (a_6, .inl (cJ, 300, .inr (.inl (fun _ => 0)))), (a_7, .inl (cI, 300, .inl (fun _ => 0))), (a_8, .inl (cI, 300, .inl (fun _ => 0)))] H := hP
  have hD9 : va_D A [(g0, .inr (1, [.ref a_1, .ref a_2, .ref a_3, .ref a_4, .ref a_5, .ref a_6, .ref a_7, .ref a_8, .int 0])), (a_1, .inl (cI, 300, .inl (fun _ => 0))), (a_2, .inl (cI, 300, .inl (fun _ => 0))), (a_3, .inl (cI, 300, .inl (fun _ => 0))), (a_4, .inl (cI, 300, .inl (fun _ => 0))), (a_5, .inl (cJ, 300, .inr (.inl (fun _ => 0)))), (a_6, .inl (cJ, 300, .inr (.inl (fun _ => 0)))), (a_7, .inl (cI, 300, .inl (fun _ => 0))), (a_8, .inl (cI, 300, .inl (fun _ => 0)))] := hD
  refine W.widen (k := 8) (n := 2400) (by omega) (by omega) ?_
  exact W.vret hx hb hr (fun t ht hW => ⟨⟨(), rfl, trivial, a_1, a_2, a_3, a_4, a_5, a_6, a_7, a_8, by rw [ht]; exact hP9, va_K.moved hW.alike hK, hD9⟩, hS.F ht⟩) hS.2.2 dX1_init_76
