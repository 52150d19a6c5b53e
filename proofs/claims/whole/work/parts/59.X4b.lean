set_option maxHeartbeats 4000000 in
set_option maxRecDepth 100000 in
theorem lpX4_join {p : Program} {l : Launch} {ev : Env} {s : State} {m : MethodId} {args : Array Value} {below : List Frame} {meth : Method} {c : Code} {Q : State → Prop} {A : Nat → Prop} {dC : Nat → ClassId} {dI : Nat → Nat → Nat} {cI cJ cZ : ClassId} {R : Room} {cells slots : Nat} (hx : p.tables.exec = Jvm.exec) (hb : c.code = cX4_join) (hml : c.maxLocals = 6) (hts : ∀ w ∈ wsX4_join, w.before args s = true) (hown : s.vm.findClass RX4 = some m.cls) (hK : va_K (dC, dI) vwCl [(cI, .int), (cJ, .long), (cZ, .boolean)] s) (hA : ∀ q : Nat, s.heap.size ≤ q → A q) {m0 : Nat} {e2 : Nat} {e3 : Nat} {e4 : Nat} {e5 : Nat} {e6 : Nat} {e7 : Nat} {b0 c1 c2 c3 e1 e8 e9 f1 f2 : Nat} {n : Nat} {P : Int32} {u : Nat} {kn ir gp : Int32} {be : Nat → Int32} {fi0 nx0 la0 : Nat → Int32} {wa0 gr0 : Nat → Int64} {X : CS} {G : Nat → Int32} {f a : Nat} (hn : n ≤ 300)  (kx : ∀ (H : Heap) (locs : List Loc) (ls : Array Slot), va_P (dC, dI) vwCl [(m0, .inr (4, [.int (nI n), .int P, .int (nI u), .ref b0, .ref c1, .ref c2, .ref c3, .int kn, .ref e1, .ref e2, .ref e3, .ref e4, .ref e5, .ref e6, .ref e7, .ref e8, .ref e9, .int ir, .int gp, .ref f1, .ref f2])), (e2, .inl (cI, 300, .inl be)), (e3, .inl (cI, 300, .inl (mix n (G) fi0))), (e4, .inl (cI, 300, .inl (mix n (cNx X) nx0))), (e5, .inl (cI, 300, .inl (mix n (cLa X) la0))), (e6, .inl (cJ, 300, .inr (.inl (mix n (cHe X) wa0)))), (e7, .inl (cJ, 300, .inr (.inl (mix n (cBy X) gr0))))] H → va_D A [(m0, .inr (4, [.int (nI n), .int P, .int (nI u), .ref b0, .ref c1, .ref c2, .ref c3, .int kn, .ref e1, .ref e2, .ref e3, .ref e4, .ref e5, .ref e6, .ref e7, .ref e8, .ref e9, .int ir, .int gp, .ref f1, .ref f2])), (e2, .inl (cI, 300, .inl be)), (e3, .inl (cI, 300, .inl (mix n (G) fi0))), (e4, .inl (cI, 300, .inl (mix n (cNx X) nx0))), (e5, .inl (cI, 300, .inl (mix n (cLa X) la0))), (e6, .inl (cJ, 300, .inr (.inl (mix n (cHe X) wa0)))), (e7, .inl (cJ, 300, .inr (.inl (mix n (cBy X) gr0))))] → va_S A s.heap H locs → lv_has ls 6 [(0, .ref m0)] → W p l ev R s m args below meth c H locs cells slots Q (F0 m 153 ls [])) : ∀ (n_ : Nat) (q : List Nat) (g : Int32) (fi : Nat → Int32), q.length = n_ → Chain (cNx X) q g → (∀ x, x ∈ q → x < n) → rlab q (nI a) fi = G → ∀ (H : Heap) (locs : List Loc) (ls : Array Slot), va_P (dC, dI) vwCl [(m0, .inr (4, [.int (nI n), .int P, .int (nI u), .ref b0, .ref c1, .ref c2, .ref c3, .int kn, .ref e1, .ref e2, .ref e3, .ref e4, .ref e5, .ref e6, .ref e7, .ref e8, .ref e9, .int ir, .int gp, .ref f1, .ref f2])), (e2, .inl (cI, 300, .inl be)), (e3, .inl (cI, 300, .inl (mix n (fi) fi0))), (e4, .inl (cI, 300, .inl (mix n (cNx X) nx0))), (e5, .inl (cI, 300, .inl (mix n (cLa X) la0))), (e6, .inl (cJ, 300, .inr (.inl (mix n (cHe X) wa0)))), (e7, .inl (cJ, 300, .inr (.inl (mix n (cBy X) gr0))))] H → va_D A [(m0, .inr (4, [.int (nI n), .int P, .int (nI u), .ref b0, .ref c1, .ref c2, .ref c3, .int kn, .ref e1, .ref e2, .ref e3, .ref e4, .ref e5, .ref e6, .ref e7, .ref e8, .ref e9, .int ir, .int gp, .ref f1, .ref f2])), (e2, .inl (cI, 300, .inl be)), (e3, .inl (cI, 300, .inl (mix n (fi) fi0))), (e4, .inl (cI, 300, .inl (mix n (cNx X) nx0))), (e5, .inl (cI, 300, .inl (mix n (cLa X) la0))), (e6, .inl (cJ, 300, .inr (.inl (mix n (cHe X) wa0)))), (e7, .inl (cJ, 300, .inr (.inl (mix n (cBy X) gr0))))] → va_S A s.heap H locs → lv_has ls 6 [(0, .ref m0), (1, .int (nI f)), (3, .int (nI a)), (5, .int g)] → W p l ev R s m args below meth c H locs cells slots Q (F0 m 128 ls []) := by
  have hin4 : ∀ w ∈ wsX40, w ∈ wsX4_join := by decide +kernel
  intro n_
  induction n_ with
  | zero =>
    intro q g fi hn_ hc hm hG H locs ls hP hD hS hl
    have hq : q = [] := List.length_eq_zero_iff.mp hn_
    subst hq
    have hf : g = -1 := hc
    subst hf
    rw [rlab_nil] at hG
    subst hG
    refine lv_iload hx hb dX4_join_128 (lv_at hl 3 rfl) ?_
    refine lv_if_lt (tgt := 153) hx hb dX4_join_130 (by decide) (fun c_1 => ?_) (fun c_1 => ?_)
    · -- pc 130, side 0
      exact kx   H locs ls hP hD hS (lv_sub hl [0] rfl)
    · -- pc 130, side 1
      exact absurd m1_lt c_1
  | succ n_ ih =>
    intro q g fi hn_ hc hm hG H locs ls hP hD hS hl
    obtain ⟨x, q, rfl⟩ : ∃ x q', q = x :: q' := by cases q with | nil => cases hn_ | cons x q => exact ⟨x, q, rfl⟩
    obtain ⟨hf, hc⟩ := hc
    subst hf
    have hx9 : x < n := hm x List.mem_cons_self
    rw [List.length_cons] at hn_
    refine lv_iload hx hb dX4_join_128 (lv_at hl 3 rfl) ?_
    refine lv_if_lt (tgt := 153) hx hb dX4_join_130 (by decide) (fun c_2 => ?_) (fun c_2 => ?_)
    · -- pc 130, side 0
      exact absurd c_2 (nI_n0 (by omega))
    · -- pc 130, side 1
      refine lv_aload_n hx hb dX4_join_133 rfl (lv_at hl 0 rfl) ?_
      refine va_get (D := (dC, dI)) (ci := 4) (v := .ref e3) (C := RX4) (T := TX4) (N := 21) hx hb hts hin4 hown hK hP 0 rfl rfl 10 (by decide) (hts (.fieldLink RX4 36 "CallClustersModel" "of" "[I") (by decide +kernel)) (fun _ h9 => h9) rfl dX4_join_134 ?_
      refine lv_iload hx hb dX4_join_137 (lv_at hl 3 rfl) ?_
      refine lv_iload_n hx hb dX4_join_139 rfl (lv_at hl 2 rfl) ?_
      refine va_iast hx hb hK hP hD hS 2 0 rfl rfl (inn (show x < 300 by omega) (by omega)) dX4_join_140 (fun H locs hP hD hS => ?_)
      have hf140 : upd (mix n (fi) fi0) ((nI x).toNatClampNeg) (nI a) = mix n (upd fi x (nI a)) fi0 := by rw [ix_n (by omega)]; exact upd_mix hx9
      have hP : va_P (dC, dI) vwCl [(m0, .inr (4, [.int (nI n), .int P, .int (nI u), .ref b0, .ref c1, .ref c2, .ref c3, .int kn, .ref e1, .ref e2, .ref e3, .ref e4, .ref e5, .ref e6, .ref e7, .ref e8, .ref e9, .int ir, .int gp, .ref f1, .ref f2])), (e2, .inl (cI, 300, .inl be)), (e3, .inl (cI, 300, .inl (upd (mix n (fi) fi0) ((nI x).toNatClampNeg) (nI a)))), (e4, .inl (cI, 300, .inl (mix n (cNx X) nx0))), (e5, .inl (cI, 300, .inl (mix n (cLa X) la0))), (e6, .inl (cJ, 300, .inr (.inl (mix n (cHe X) wa0)))), (e7, .inl (cJ, 300, .inr (.inl (mix n (cBy X) gr0))))] H := hP
      have hD : va_D A [(m0, .inr (4, [.int (nI n), .int P, .int (nI u), .ref b0, .ref c1, .ref c2, .ref c3, .int kn, .ref e1, .ref e2, .ref e3, .ref e4, .ref e5, .ref e6, .ref e7, .ref e8, .ref e9, .int ir, .int gp, .ref f1, .ref f2])), (e2, .inl (cI, 300, .inl be)), (e3, .inl (cI, 300, .inl (upd (mix n (fi) fi0) ((nI x).toNatClampNeg) (nI a)))), (e4, .inl (cI, 300, .inl (mix n (cNx X) nx0))), (e5, .inl (cI, 300, .inl (mix n (cLa X) la0))), (e6, .inl (cJ, 300, .inr (.inl (mix n (cHe X) wa0)))), (e7, .inl (cJ, 300, .inr (.inl (mix n (cBy X) gr0))))] := hD
      rw [hf140] at hP hD
      refine lv_aload_n hx hb dX4_join_141 rfl (lv_at hl 0 rfl) ?_
      refine va_get (D := (dC, dI)) (ci := 4) (v := .ref e4) (C := RX4) (T := TX4) (N := 21) hx hb hts hin4 hown hK hP 0 rfl rfl 11 (by decide) (hts (.fieldLink RX4 39 "CallClustersModel" "behind" "[I") (by decide +kernel)) (fun _ h9 => h9) rfl dX4_join_142 ?_
      refine lv_iload hx hb dX4_join_145 (lv_at hl 3 rfl) ?_
      refine va_iald hx hb hK hP 3 0 rfl rfl (inn (show x < 300 by omega) (by omega)) dX4_join_147 ?_
      refine tp_i (y := cNx X x) (by rw [ix_n (by omega)]; exact mix_lt _ _ hx9) ?_
      refine lv_istore (lv' := [(5, .int (cNx X x)), (0, .ref m0), (1, .int (nI f)), (3, .int (nI a))]) hx hb dX4_join_148 hl (by decide) rfl (fun ls hl => ?_)
      refine lv_goto (tgt := 128) hx hb dX4_join_150 (by decide) ?_
      exact ih q (cNx X x) (upd fi x (nI a)) (by omega) (hc) (fun y hy => hm y (List.mem_cons_of_mem _ hy)) (by rw [rlab_cons]; exact hG) H locs ls hP hD hS (lv_sub hl [1, 2, 3, 0] rfl)
set_option maxHeartbeats 4000000 in
set_option maxRecDepth 100000 in
theorem ct_X4_join (l : Launch) (dC : Nat → ClassId) (dI : Nat → Nat → Nat) (cI cJ cZ : ClassId) (sz : Nat) (m0 : Nat) (e2 : Nat) (e3 : Nat) (e4 : Nat) (e5 : Nat) (e6 : Nat) (e7 : Nat) (b0 c1 c2 c3 e1 e8 e9 f1 f2 : Nat) (n : Nat) (P : Int32) (u : Nat) (kn ir gp : Int32) (be : Nat → Int32) (fi0 nx0 la0 : Nat → Int32) (wa0 gr0 : Nat → Int64) (X : CS) (z : Nat → Int32) (f : Nat) (hn : n ≤ 300) (hI : CInv z X) (hz : ∀ j, j < 300 → ¬ z j ≤ 0 → j < n) (hf : f < n) (hzf : ¬ z f ≤ 0) (hbe : be f = -1 ∨ ∃ c, c < 300 ∧ be f = nI c ∧ ¬ z c ≤ 0) : Met l yX4_join wsX4_join ({ frames := 0, cells := 0, slots := 0, locals := 0 }) (va_Pc [.ref m0, .int (nI f)] (fun U => U.heap.size = sz ∧ va_P (dC, dI) vwCl [(m0, .inr (4, [.int (nI n), .int P, .int (nI u), .ref b0, .ref c1, .ref c2, .ref c3, .int kn, .ref e1, .ref e2, .ref e3, .ref e4, .ref e5, .ref e6, .ref e7, .ref e8, .ref e9, .int ir, .int gp, .ref f1, .ref f2])), (e2, .inl (cI, 300, .inl be)), (e3, .inl (cI, 300, .inl (mix n (cFi X) fi0))), (e4, .inl (cI, 300, .inl (mix n (cNx X) nx0))), (e5, .inl (cI, 300, .inl (mix n (cLa X) la0))), (e6, .inl (cJ, 300, .inr (.inl (mix n (cHe X) wa0)))), (e7, .inl (cJ, 300, .inr (.inl (mix n (cBy X) gr0))))] U.heap ∧ va_K (dC, dI) vwCl [(cI, .int), (cJ, .long), (cZ, .boolean)] U ∧ va_D (fun _ => True) [(m0, .inr (4, [.int (nI n), .int P, .int (nI u), .ref b0, .ref c1, .ref c2, .ref c3, .int kn, .ref e1, .ref e2, .ref e3, .ref e4, .ref e5, .ref e6, .ref e7, .ref e8, .ref e9, .int ir, .int gp, .ref f1, .ref f2])), (e2, .inl (cI, 300, .inl be)), (e3, .inl (cI, 300, .inl (mix n (cFi X) fi0))), (e4, .inl (cI, 300, .inl (mix n (cNx X) nx0))), (e5, .inl (cI, 300, .inl (mix n (cLa X) la0))), (e6, .inl (cJ, 300, .inr (.inl (mix n (cHe X) wa0)))), (e7, .inl (cJ, 300, .inr (.inl (mix n (cBy X) gr0))))])) (va_Qv (fun (uu : CS) => match uu with | X' => X' = (if be f < 0 then X else joinS P be f X)) (fun (uu : CS) (t : State) => match uu with | X' => va_P (dC, dI) vwCl [(m0, .inr (4, [.int (nI n), .int P, .int (nI u), .ref b0, .ref c1, .ref c2, .ref c3, .int kn, .ref e1, .ref e2, .ref e3, .ref e4, .ref e5, .ref e6, .ref e7, .ref e8, .ref e9, .int ir, .int gp, .ref f1, .ref f2])), (e2, .inl (cI, 300, .inl be)), (e3, .inl (cI, 300, .inl (mix n (cFi X') fi0))), (e4, .inl (cI, 300, .inl (mix n (cNx X') nx0))), (e5, .inl (cI, 300, .inl (mix n (cLa X') la0))), (e6, .inl (cJ, 300, .inr (.inl (mix n (cHe X') wa0)))), (e7, .inl (cJ, 300, .inr (.inl (mix n (cBy X') gr0))))] t.heap ∧ va_K (dC, dI) vwCl [(cI, .int), (cJ, .long), (cZ, .boolean)] t ∧ va_D (va_A [(m0, .inr (4, [.int (nI n), .int P, .int (nI u), .ref b0, .ref c1, .ref c2, .ref c3, .int kn, .ref e1, .ref e2, .ref e3, .ref e4, .ref e5, .ref e6, .ref e7, .ref e8, .ref e9, .int ir, .int gp, .ref f1, .ref f2])), (e2, .inl (cI, 300, .inl be)), (e3, .inl (cI, 300, .inl (mix n (cFi X) fi0))), (e4, .inl (cI, 300, .inl (mix n (cNx X) nx0))), (e5, .inl (cI, 300, .inl (mix n (cLa X) la0))), (e6, .inl (cJ, 300, .inr (.inl (mix n (cHe X) wa0)))), (e7, .inl (cJ, 300, .inr (.inl (mix n (cBy X) gr0))))] sz) [(m0, .inr (4, [.int (nI n), .int P, .int (nI u), .ref b0, .ref c1, .ref c2, .ref c3, .int kn, .ref e1, .ref e2, .ref e3, .ref e4, .ref e5, .ref e6, .ref e7, .ref e8, .ref e9, .int ir, .int gp, .ref f1, .ref f2])), (e2, .inl (cI, 300, .inl be)), (e3, .inl (cI, 300, .inl (mix n (cFi X') fi0))), (e4, .inl (cI, 300, .inl (mix n (cNx X') nx0))), (e5, .inl (cI, 300, .inl (mix n (cLa X') la0))), (e6, .inl (cJ, 300, .inr (.inl (mix n (cHe X') wa0)))), (e7, .inl (cJ, 300, .inr (.inl (mix n (cBy X') gr0))))]) (va_A [(m0, .inr (4, [.int (nI n), .int P, .int (nI u), .ref b0, .ref c1, .ref c2, .ref c3, .int kn, .ref e1, .ref e2, .ref e3, .ref e4, .ref e5, .ref e6, .ref e7, .ref e8, .ref e9, .int ir, .int gp, .ref f1, .ref f2])), (e2, .inl (cI, 300, .inl be)), (e3, .inl (cI, 300, .inl (mix n (cFi X) fi0))), (e4, .inl (cI, 300, .inl (mix n (cNx X) nx0))), (e5, .inl (cI, 300, .inl (mix n (cLa X) la0))), (e6, .inl (cJ, 300, .inr (.inl (mix n (cHe X) wa0)))), (e7, .inl (cJ, 300, .inr (.inl (mix n (cBy X) gr0))))] sz)) 0 0 (va_A [(m0, .inr (4, [.int (nI n), .int P, .int (nI u), .ref b0, .ref c1, .ref c2, .ref c3, .int kn, .ref e1, .ref e2, .ref e3, .ref e4, .ref e5, .ref e6, .ref e7, .ref e8, .ref e9, .int ir, .int gp, .ref f1, .ref f2])), (e2, .inl (cI, 300, .inl be)), (e3, .inl (cI, 300, .inl (mix n (cFi X) fi0))), (e4, .inl (cI, 300, .inl (mix n (cNx X) nx0))), (e5, .inl (cI, 300, .inl (mix n (cLa X) la0))), (e6, .inl (cJ, 300, .inr (.inl (mix n (cHe X) wa0)))), (e7, .inl (cJ, 300, .inr (.inl (mix n (cBy X) gr0))))] sz) := by
  refine Met.ofW (cc := cX4_join) (maxL := 6) (ret := none) (by decide) rfl ?_
  intro p ev s m args below meth c s₁ Bd hml hv
  obtain ⟨rfl, hsz, hP, hK, hD0⟩ := hv
  have hx := Bd.exec
  have hb := Bd.bytes
  have hr := Bd.returns
  have hts := atoms_spec (ws := wsX4_join) Bd.pre
  have hown : s.vm.findClass RX4 = some m.cls := findClass_of_methodNamed Bd.named
  have hlocks := Bd.notSynchronized
  have hin4 : ∀ w ∈ wsX40, w ∈ wsX4_join := by decide +kernel
  subst hsz
  have hD := hD0.self (sz := s.heap.size)
  generalize hAe : va_A [(m0, .inr (4, [.int (nI n), .int P, .int (nI u), .ref b0, .ref c1, .ref c2, .ref c3, .int kn, .ref e1, .ref e2, .ref e3, .ref e4, .ref e5, .ref e6, .ref e7, .ref e8, .ref e9, .int ir, .int gp, .ref f1, .ref f2])), (e2, .inl (cI, 300, .inl be)), (e3, .inl (cI, 300, .inl (mix n (cFi X) fi0))), (e4, .inl (cI, 300, .inl (mix n (cNx X) nx0))), (e5, .inl (cI, 300, .inl (mix n (cLa X) la0))), (e6, .inl (cJ, 300, .inr (.inl (mix n (cHe X) wa0)))), (e7, .inl (cJ, 300, .inr (.inl (mix n (cBy X) gr0))))] s.heap.size = A at hD ⊢
  have hA : ∀ q : Nat, s.heap.size ≤ q → A q := fun q h => by rw [← hAe]; exact Or.inr h
  have hS : va_S A s.heap s.heap [] := va_S.rf
  have hl := lv_entry ([.ref m0, .int (nI f)]) (n := 6) (Nat.le_of_ble_eq_true rfl)
  rw [lg_entry_eq]
  generalize (lg_sl ([.ref m0, .int (nI f)]) ++ List.replicate (6 - (lg_sl ([.ref m0, .int (nI f)])).length) Slot.unset).toArray = ls at hl ⊢
  have hl : lv_has ls 6 [(0, .ref m0), (1, .int (nI f))] := hl
  generalize hHe : s.heap = H at hP ⊢
  have hS : va_S A s.heap H [] := hHe ▸ hS
  rcases hbe with hb1 | ⟨c9, hc1, hc2, hc3⟩
  · -- no caller
    refine lv_aload_n hx hb dX4_join_0 rfl (lv_at hl 0 rfl) ?_
    refine va_get (D := (dC, dI)) (ci := 4) (v := .ref e2) (C := RX4) (T := TX4) (N := 21) hx hb hts hin4 hown hK hP 0 rfl rfl 9 (by decide) (hts (.fieldLink RX4 33 "CallClustersModel" "best" "[I") (by decide +kernel)) (fun _ h9 => h9) rfl dX4_join_1 ?_
    refine lv_iload_n hx hb dX4_join_4 rfl (lv_at hl 1 rfl) ?_
    refine va_iald hx hb hK hP 1 0 rfl rfl (inn (show f < 300 by omega) (by omega)) dX4_join_5 ?_
    refine tp_i (y := (-1)) (by rw [ix_n (by omega)]; exact hb1) ?_
    refine lv_istore_n (lv' := [(2, .int ((-1))), (0, .ref m0), (1, .int (nI f))]) hx hb dX4_join_6 rfl hl (by decide) rfl (fun ls hl => ?_)
    refine lv_iload_n hx hb dX4_join_7 rfl (lv_at hl 0 rfl) ?_
    refine lv_if_lt (tgt := 26) hx hb dX4_join_8 (by decide) (fun c_1 => ?_) (fun c_1 => ?_)
    · -- pc 8, side 0
      have hP9 : va_P (dC, dI) vwCl [(m0, .inr (4, [.int (nI n), .int P, .int (nI u), .ref b0, .ref c1, .ref c2, .ref c3, .int kn, .ref e1, .ref e2, .ref e3, .ref e4, .ref e5, .ref e6, .ref e7, .ref e8, .ref e9, .int ir, .int gp, .ref f1, .ref f2])), (e2, .inl (cI, 300, .inl be)), (e3, .inl (cI, 300, .inl (mix n (cFi X) fi0))), (e4, .inl (cI, 300, .inl (mix n (cNx X) nx0))), (e5, .inl (cI, 300, .inl (mix n (cLa X) la0))), (e6, .inl (cJ, 300, .inr (.inl (mix n (cHe X) wa0)))), (e7, .inl (cJ, 300, .inr (.inl (mix n (cBy X) gr0))))] H := hP
      have hD9 : va_D A [(m0, .inr (4, [.int (nI n), .int P, .int (nI u), .ref b0, .ref c1, .ref c2, .ref c3, .int kn, .ref e1, .ref e2, .ref e3, .ref e4, .ref e5, .ref e6, .ref e7, .ref e8, .ref e9, .int ir, .int gp, .ref f1, .ref f2])), (e2, .inl (cI, 300, .inl be)), (e3, .inl (cI, 300, .inl (mix n (cFi X) fi0))), (e4, .inl (cI, 300, .inl (mix n (cNx X) nx0))), (e5, .inl (cI, 300, .inl (mix n (cLa X) la0))), (e6, .inl (cJ, 300, .inr (.inl (mix n (cHe X) wa0)))), (e7, .inl (cJ, 300, .inr (.inl (mix n (cBy X) gr0))))] := hD
      exact W.vret hx hb hr (fun t ht hW => ⟨⟨X, rfl, by rw [hb1, if_pos m1_lt], by rw [ht]; exact hP9, va_K.moved hW.alike hK, hD9⟩, hS.F ht⟩) hS.2.2 dX4_join_26
    · -- pc 8, side 1
      exact absurd m1_lt c_1
  · -- a caller
    have f3 : f < 300 := by omega
    obtain ⟨a, a1, a2, a3, -⟩ := hI.2.1 c9 hc1 hc3
    obtain ⟨b, b1, b2, b3, -⟩ := hI.2.1 f f3 hzf
    obtain ⟨chb, -, mb, -⟩ := hI.2.2 b b1 b3
    obtain ⟨-, -, ma, xa, la1, la2⟩ := hI.2.2 a a1 a3
    have hfz : ∀ {j : Nat}, j < 300 → ¬ cFi X j = -1 → j < n := fun {j} h1 h2 => hz j h1 (fun e => h2 ((hI.1 j h1).mpr e))
    have xal := (ma xa (List.mem_of_getLast? la1))
    have an : a < n := hfz a1 (by rw [a3]; exact nI_m1 (by omega))
    have bn : b < n := hfz b1 (by rw [b3]; exact nI_m1 (by omega))
    have cn : c9 < n := hz c9 hc1 hc3
    have xn : xa < n := hfz xal.1 (by rw [xal.2]; exact nI_m1 (by omega))
    have hjs : joinS P be f X = if nI a = nI b then X else if P.toInt64 < cBy X a + cBy X b then X else jS a b X := by unfold joinS; rw [hc2, ix_n (by omega), a2, b2, ix_n (by omega), ix_n (by omega)]
    have hbf : ¬ be f < 0 := by rw [hc2]; exact nI_n0 (by omega)
    have hnx : cNx (jS a b X) = upd (cNx X) xa (nI b) := by show upd (cNx X) (cLa X a).toNatClampNeg (nI b) = _; rw [la2, ix_n (by omega)]
    refine lv_aload_n hx hb dX4_join_0 rfl (lv_at hl 0 rfl) ?_
    refine va_get (D := (dC, dI)) (ci := 4) (v := .ref e2) (C := RX4) (T := TX4) (N := 21) hx hb hts hin4 hown hK hP 0 rfl rfl 9 (by decide) (hts (.fieldLink RX4 33 "CallClustersModel" "best" "[I") (by decide +kernel)) (fun _ h9 => h9) rfl dX4_join_1 ?_
    refine lv_iload_n hx hb dX4_join_4 rfl (lv_at hl 1 rfl) ?_
    refine va_iald hx hb hK hP 1 0 rfl rfl (inn f3 (by omega)) dX4_join_5 ?_
    refine tp_i (y := nI c9) (by rw [ix_n (by omega)]; exact hc2) ?_
    refine lv_istore_n (lv' := [(2, .int (nI c9)), (0, .ref m0), (1, .int (nI f))]) hx hb dX4_join_6 rfl hl (by decide) rfl (fun ls hl => ?_)
    refine lv_iload_n hx hb dX4_join_7 rfl (lv_at hl 0 rfl) ?_
    refine lv_if_lt (tgt := 26) hx hb dX4_join_8 (by decide) (fun c_2 => ?_) (fun c_2 => ?_)
    · -- pc 8, side 0
      exact absurd c_2 (nI_n0 (by omega))
    · -- pc 8, side 1
      refine lv_aload_n hx hb dX4_join_11 rfl (lv_at hl 1 rfl) ?_
      refine va_get (D := (dC, dI)) (ci := 4) (v := .ref e3) (C := RX4) (T := TX4) (N := 21) hx hb hts hin4 hown hK hP 0 rfl rfl 10 (by decide) (hts (.fieldLink RX4 36 "CallClustersModel" "of" "[I") (by decide +kernel)) (fun _ h9 => h9) rfl dX4_join_12 ?_
      refine lv_iload_n hx hb dX4_join_15 rfl (lv_at hl 0 rfl) ?_
      refine va_iald hx hb hK hP 2 0 rfl rfl (inn hc1 (by omega)) dX4_join_16 ?_
      refine tp_i (y := nI a) (by rw [ix_n (by omega), mix_lt _ _ cn]; exact a2) ?_
      refine lv_aload_n hx hb dX4_join_17 rfl (lv_at hl 1 rfl) ?_
      refine va_get (D := (dC, dI)) (ci := 4) (v := .ref e3) (C := RX4) (T := TX4) (N := 21) hx hb hts hin4 hown hK hP 0 rfl rfl 10 (by decide) (hts (.fieldLink RX4 36 "CallClustersModel" "of" "[I") (by decide +kernel)) (fun _ h9 => h9) rfl dX4_join_18 ?_
      refine lv_iload_n hx hb dX4_join_21 rfl (lv_at hl 2 rfl) ?_
      refine va_iald hx hb hK hP 2 0 rfl rfl (inn f3 (by omega)) dX4_join_22 ?_
      refine tp_i (y := nI b) (by rw [ix_n (by omega), mix_lt _ _ hf]; exact b2) ?_
      refine lv_icmp_ne (tgt := 27) hx hb dX4_join_23 (by decide) (fun c_3 => ?_) (fun c_3 => ?_)
      · -- pc 23, side 0
        refine lv_aload_n hx hb dX4_join_27 rfl (lv_at hl 1 rfl) ?_
        refine va_get (D := (dC, dI)) (ci := 4) (v := .ref e3) (C := RX4) (T := TX4) (N := 21) hx hb hts hin4 hown hK hP 0 rfl rfl 10 (by decide) (hts (.fieldLink RX4 36 "CallClustersModel" "of" "[I") (by decide +kernel)) (fun _ h9 => h9) rfl dX4_join_28 ?_
        refine lv_iload_n hx hb dX4_join_31 rfl (lv_at hl 0 rfl) ?_
        refine va_iald hx hb hK hP 2 0 rfl rfl (inn hc1 (by omega)) dX4_join_32 ?_
        refine tp_i (y := nI a) (by rw [ix_n (by omega), mix_lt _ _ cn]; exact a2) ?_
        refine lv_istore_n (lv' := [(3, .int (nI a)), (2, .int (nI c9)), (0, .ref m0), (1, .int (nI f))]) hx hb dX4_join_33 rfl hl (by decide) rfl (fun ls hl => ?_)
        refine lv_aload_n hx hb dX4_join_34 rfl (lv_at hl 2 rfl) ?_
        refine va_get (D := (dC, dI)) (ci := 4) (v := .ref e3) (C := RX4) (T := TX4) (N := 21) hx hb hts hin4 hown hK hP 0 rfl rfl 10 (by decide) (hts (.fieldLink RX4 36 "CallClustersModel" "of" "[I") (by decide +kernel)) (fun _ h9 => h9) rfl dX4_join_35 ?_
        refine lv_iload_n hx hb dX4_join_38 rfl (lv_at hl 3 rfl) ?_
        refine va_iald hx hb hK hP 2 0 rfl rfl (inn f3 (by omega)) dX4_join_39 ?_
        refine tp_i (y := nI b) (by rw [ix_n (by omega), mix_lt _ _ hf]; exact b2) ?_
        refine lv_istore (lv' := [(4, .int (nI b)), (3, .int (nI a)), (2, .int (nI c9)), (0, .ref m0), (1, .int (nI f))]) hx hb dX4_join_40 hl (by decide) rfl (fun ls hl => ?_)
        refine lv_aload_n hx hb dX4_join_42 rfl (lv_at hl 3 rfl) ?_
        refine va_get (D := (dC, dI)) (ci := 4) (v := .ref e7) (C := RX4) (T := TX4) (N := 21) hx hb hts hin4 hown hK hP 0 rfl rfl 14 (by decide) (hts (.fieldLink RX4 48 "CallClustersModel" "great" "[J") (by decide +kernel)) (fun _ h9 => h9) rfl dX4_join_43 ?_
        refine lv_iload_n hx hb dX4_join_46 rfl (lv_at hl 1 rfl) ?_
        refine va_lald hx hb hK hP 6 1 rfl rfl (inn a1 (by omega)) dX4_join_47 ?_
        refine tp_l (y := cBy X a) (by rw [ix_n (by omega)]; exact mix_lt _ _ an) ?_
        refine lv_aload_n hx hb dX4_join_48 rfl (lv_at hl 3 rfl) ?_
        refine va_get (D := (dC, dI)) (ci := 4) (v := .ref e7) (C := RX4) (T := TX4) (N := 21) hx hb hts hin4 hown hK hP 0 rfl rfl 14 (by decide) (hts (.fieldLink RX4 48 "CallClustersModel" "great" "[J") (by decide +kernel)) (fun _ h9 => h9) rfl dX4_join_49 ?_
        refine lv_iload hx hb dX4_join_52 (lv_at hl 0 rfl) ?_
        refine va_lald hx hb hK hP 6 1 rfl rfl (inn b1 (by omega)) dX4_join_54 ?_
        refine tp_l (y := cBy X b) (by rw [ix_n (by omega)]; exact mix_lt _ _ bn) ?_
        refine lv_ladd hx hb dX4_join_55 ?_
        refine lv_aload_n hx hb dX4_join_56 rfl (lv_at hl 3 rfl) ?_
        refine va_get (D := (dC, dI)) (ci := 4) (v := .int P) (C := RX4) (T := TX4) (N := 21) hx hb hts hin4 hown hK hP 0 rfl rfl 1 (by decide) (hts (.fieldLink RX4 13 "CallClustersModel" "limit" "I") (by decide +kernel)) (fun _ h9 => h9) rfl dX4_join_57 ?_
        refine lv_i2l (v := P.toInt64) hx hb dX4_join_60 rfl ?_
        refine W.lcmp hx hb dX4_join_61 ?_
        refine lv_if_le (tgt := 66) hx hb dX4_join_62 (by decide) (fun c_4 => ?_) (fun c_4 => ?_)
        · -- pc 62, side 0
          rw [lg_cmp_le] at c_4
          refine lv_aload_n hx hb dX4_join_66 rfl (lv_at hl 3 rfl) ?_
          refine va_get (D := (dC, dI)) (ci := 4) (v := .ref e4) (C := RX4) (T := TX4) (N := 21) hx hb hts hin4 hown hK hP 0 rfl rfl 11 (by decide) (hts (.fieldLink RX4 39 "CallClustersModel" "behind" "[I") (by decide +kernel)) (fun _ h9 => h9) rfl dX4_join_67 ?_
          refine lv_aload_n hx hb dX4_join_70 rfl (lv_at hl 3 rfl) ?_
          refine va_get (D := (dC, dI)) (ci := 4) (v := .ref e5) (C := RX4) (T := TX4) (N := 21) hx hb hts hin4 hown hK hP 0 rfl rfl 12 (by decide) (hts (.fieldLink RX4 42 "CallClustersModel" "last" "[I") (by decide +kernel)) (fun _ h9 => h9) rfl dX4_join_71 ?_
          refine lv_iload_n hx hb dX4_join_74 rfl (lv_at hl 1 rfl) ?_
          refine va_iald hx hb hK hP 4 0 rfl rfl (inn a1 (by omega)) dX4_join_75 ?_
          refine tp_i (y := nI xa) (by rw [ix_n (by omega), mix_lt _ _ an]; exact la2) ?_
          refine lv_iload hx hb dX4_join_76 (lv_at hl 0 rfl) ?_
          refine va_iast hx hb hK hP hD hS 3 0 rfl rfl (inn xal.1 (by omega)) dX4_join_78 (fun H locs hP hD hS => ?_)
          have hf78 : upd (mix n (cNx X) nx0) ((nI xa).toNatClampNeg) (nI b) = mix n (cNx (jS a b X)) nx0 := by rw [ix_n (by omega), hnx]; exact upd_mix xn
          have hP : va_P (dC, dI) vwCl [(m0, .inr (4, [.int (nI n), .int P, .int (nI u), .ref b0, .ref c1, .ref c2, .ref c3, .int kn, .ref e1, .ref e2, .ref e3, .ref e4, .ref e5, .ref e6, .ref e7, .ref e8, .ref e9, .int ir, .int gp, .ref f1, .ref f2])), (e2, .inl (cI, 300, .inl be)), (e3, .inl (cI, 300, .inl (mix n (cFi X) fi0))), (e4, .inl (cI, 300, .inl (upd (mix n (cNx X) nx0) ((nI xa).toNatClampNeg) (nI b)))), (e5, .inl (cI, 300, .inl (mix n (cLa X) la0))), (e6, .inl (cJ, 300, .inr (.inl (mix n (cHe X) wa0)))), (e7, .inl (cJ, 300, .inr (.inl (mix n (cBy X) gr0))))] H := hP
          have hD : va_D A [(m0, .inr (4, [.int (nI n), .int P, .int (nI u), .ref b0, .ref c1, .ref c2, .ref c3, .int kn, .ref e1, .ref e2, .ref e3, .ref e4, .ref e5, .ref e6, .ref e7, .ref e8, .ref e9, .int ir, .int gp, .ref f1, .ref f2])), (e2, .inl (cI, 300, .inl be)), (e3, .inl (cI, 300, .inl (mix n (cFi X) fi0))), (e4, .inl (cI, 300, .inl (upd (mix n (cNx X) nx0) ((nI xa).toNatClampNeg) (nI b)))), (e5, .inl (cI, 300, .inl (mix n (cLa X) la0))), (e6, .inl (cJ, 300, .inr (.inl (mix n (cHe X) wa0)))), (e7, .inl (cJ, 300, .inr (.inl (mix n (cBy X) gr0))))] := hD
          rw [hf78] at hP hD
          refine lv_aload_n hx hb dX4_join_79 rfl (lv_at hl 3 rfl) ?_
          refine va_get (D := (dC, dI)) (ci := 4) (v := .ref e5) (C := RX4) (T := TX4) (N := 21) hx hb hts hin4 hown hK hP 0 rfl rfl 12 (by decide) (hts (.fieldLink RX4 42 "CallClustersModel" "last" "[I") (by decide +kernel)) (fun _ h9 => h9) rfl dX4_join_80 ?_
          refine lv_iload_n hx hb dX4_join_83 rfl (lv_at hl 1 rfl) ?_
          refine lv_aload_n hx hb dX4_join_84 rfl (lv_at hl 3 rfl) ?_
          refine va_get (D := (dC, dI)) (ci := 4) (v := .ref e5) (C := RX4) (T := TX4) (N := 21) hx hb hts hin4 hown hK hP 0 rfl rfl 12 (by decide) (hts (.fieldLink RX4 42 "CallClustersModel" "last" "[I") (by decide +kernel)) (fun _ h9 => h9) rfl dX4_join_85 ?_
          refine lv_iload hx hb dX4_join_88 (lv_at hl 0 rfl) ?_
          refine va_iald hx hb hK hP 4 0 rfl rfl (inn b1 (by omega)) dX4_join_90 ?_
          refine tp_i (y := cLa X b) (by rw [ix_n (by omega)]; exact mix_lt _ _ bn) ?_
          refine va_iast hx hb hK hP hD hS 4 0 rfl rfl (inn a1 (by omega)) dX4_join_91 (fun H locs hP hD hS => ?_)
          have hf91 : upd (mix n (cLa X) la0) ((nI a).toNatClampNeg) (cLa X b) = mix n (cLa (jS a b X)) la0 := by rw [ix_n (by omega)]; exact upd_mix an
          have hP : va_P (dC, dI) vwCl [(m0, .inr (4, [.int (nI n), .int P, .int (nI u), .ref b0, .ref c1, .ref c2, .ref c3, .int kn, .ref e1, .ref e2, .ref e3, .ref e4, .ref e5, .ref e6, .ref e7, .ref e8, .ref e9, .int ir, .int gp, .ref f1, .ref f2])), (e2, .inl (cI, 300, .inl be)), (e3, .inl (cI, 300, .inl (mix n (cFi X) fi0))), (e4, .inl (cI, 300, .inl (mix n (cNx (jS a b X)) nx0))), (e5, .inl (cI, 300, .inl (upd (mix n (cLa X) la0) ((nI a).toNatClampNeg) (cLa X b)))), (e6, .inl (cJ, 300, .inr (.inl (mix n (cHe X) wa0)))), (e7, .inl (cJ, 300, .inr (.inl (mix n (cBy X) gr0))))] H := hP
          have hD : va_D A [(m0, .inr (4, [.int (nI n), .int P, .int (nI u), .ref b0, .ref c1, .ref c2, .ref c3, .int kn, .ref e1, .ref e2, .ref e3, .ref e4, .ref e5, .ref e6, .ref e7, .ref e8, .ref e9, .int ir, .int gp, .ref f1, .ref f2])), (e2, .inl (cI, 300, .inl be)), (e3, .inl (cI, 300, .inl (mix n (cFi X) fi0))), (e4, .inl (cI, 300, .inl (mix n (cNx (jS a b X)) nx0))), (e5, .inl (cI, 300, .inl (upd (mix n (cLa X) la0) ((nI a).toNatClampNeg) (cLa X b)))), (e6, .inl (cJ, 300, .inr (.inl (mix n (cHe X) wa0)))), (e7, .inl (cJ, 300, .inr (.inl (mix n (cBy X) gr0))))] := hD
          rw [hf91] at hP hD
          refine lv_aload_n hx hb dX4_join_92 rfl (lv_at hl 3 rfl) ?_
          refine va_get (D := (dC, dI)) (ci := 4) (v := .ref e7) (C := RX4) (T := TX4) (N := 21) hx hb hts hin4 hown hK hP 0 rfl rfl 14 (by decide) (hts (.fieldLink RX4 48 "CallClustersModel" "great" "[J") (by decide +kernel)) (fun _ h9 => h9) rfl dX4_join_93 ?_
          refine lv_iload_n hx hb dX4_join_96 rfl (lv_at hl 1 rfl) ?_
          refine lv_dup2_11 hx hb dX4_join_97 rfl rfl ?_
          refine va_lald hx hb hK hP 6 1 rfl rfl (inn a1 (by omega)) dX4_join_98 ?_
          refine tp_l (y := cBy X a) (by rw [ix_n (by omega)]; exact mix_lt _ _ an) ?_
          refine lv_aload_n hx hb dX4_join_99 rfl (lv_at hl 3 rfl) ?_
          refine va_get (D := (dC, dI)) (ci := 4) (v := .ref e7) (C := RX4) (T := TX4) (N := 21) hx hb hts hin4 hown hK hP 0 rfl rfl 14 (by decide) (hts (.fieldLink RX4 48 "CallClustersModel" "great" "[J") (by decide +kernel)) (fun _ h9 => h9) rfl dX4_join_100 ?_
          refine lv_iload hx hb dX4_join_103 (lv_at hl 0 rfl) ?_
          refine va_lald hx hb hK hP 6 1 rfl rfl (inn b1 (by omega)) dX4_join_105 ?_
          refine tp_l (y := cBy X b) (by rw [ix_n (by omega)]; exact mix_lt _ _ bn) ?_
          refine lv_ladd hx hb dX4_join_106 ?_
          refine va_last hx hb hK hP hD hS 6 1 rfl rfl (inn a1 (by omega)) dX4_join_107 (fun H locs hP hD hS => ?_)
          have hf107 : vp_updL (mix n (cBy X) gr0) ((nI a).toNatClampNeg) ((cBy X a) + (cBy X b)) = mix n (cBy (jS a b X)) gr0 := by rw [ix_n (by omega)]; exact updL_mix an
          have hP : va_P (dC, dI) vwCl [(m0, .inr (4, [.int (nI n), .int P, .int (nI u), .ref b0, .ref c1, .ref c2, .ref c3, .int kn, .ref e1, .ref e2, .ref e3, .ref e4, .ref e5, .ref e6, .ref e7, .ref e8, .ref e9, .int ir, .int gp, .ref f1, .ref f2])), (e2, .inl (cI, 300, .inl be)), (e3, .inl (cI, 300, .inl (mix n (cFi X) fi0))), (e4, .inl (cI, 300, .inl (mix n (cNx (jS a b X)) nx0))), (e5, .inl (cI, 300, .inl (mix n (cLa (jS a b X)) la0))), (e6, .inl (cJ, 300, .inr (.inl (mix n (cHe X) wa0)))), (e7, .inl (cJ, 300, .inr (.inl (vp_updL (mix n (cBy X) gr0) ((nI a).toNatClampNeg) ((cBy X a) + (cBy X b))))))] H := hP
          have hD : va_D A [(m0, .inr (4, [.int (nI n), .int P, .int (nI u), .ref b0, .ref c1, .ref c2, .ref c3, .int kn, .ref e1, .ref e2, .ref e3, .ref e4, .ref e5, .ref e6, .ref e7, .ref e8, .ref e9, .int ir, .int gp, .ref f1, .ref f2])), (e2, .inl (cI, 300, .inl be)), (e3, .inl (cI, 300, .inl (mix n (cFi X) fi0))), (e4, .inl (cI, 300, .inl (mix n (cNx (jS a b X)) nx0))), (e5, .inl (cI, 300, .inl (mix n (cLa (jS a b X)) la0))), (e6, .inl (cJ, 300, .inr (.inl (mix n (cHe X) wa0)))), (e7, .inl (cJ, 300, .inr (.inl (vp_updL (mix n (cBy X) gr0) ((nI a).toNatClampNeg) ((cBy X a) + (cBy X b))))))] := hD
          rw [hf107] at hP hD
          refine lv_aload_n hx hb dX4_join_108 rfl (lv_at hl 3 rfl) ?_
          refine va_get (D := (dC, dI)) (ci := 4) (v := .ref e6) (C := RX4) (T := TX4) (N := 21) hx hb hts hin4 hown hK hP 0 rfl rfl 13 (by decide) (hts (.fieldLink RX4 45 "CallClustersModel" "warm" "[J") (by decide +kernel)) (fun _ h9 => h9) rfl dX4_join_109 ?_
          refine lv_iload_n hx hb dX4_join_112 rfl (lv_at hl 1 rfl) ?_
          refine lv_dup2_11 hx hb dX4_join_113 rfl rfl ?_
          refine va_lald hx hb hK hP 5 1 rfl rfl (inn a1 (by omega)) dX4_join_114 ?_
          refine tp_l (y := cHe X a) (by rw [ix_n (by omega)]; exact mix_lt _ _ an) ?_
          refine lv_aload_n hx hb dX4_join_115 rfl (lv_at hl 3 rfl) ?_
          refine va_get (D := (dC, dI)) (ci := 4) (v := .ref e6) (C := RX4) (T := TX4) (N := 21) hx hb hts hin4 hown hK hP 0 rfl rfl 13 (by decide) (hts (.fieldLink RX4 45 "CallClustersModel" "warm" "[J") (by decide +kernel)) (fun _ h9 => h9) rfl dX4_join_116 ?_
          refine lv_iload hx hb dX4_join_119 (lv_at hl 0 rfl) ?_
          refine va_lald hx hb hK hP 5 1 rfl rfl (inn b1 (by omega)) dX4_join_121 ?_
          refine tp_l (y := cHe X b) (by rw [ix_n (by omega)]; exact mix_lt _ _ bn) ?_
          refine lv_ladd hx hb dX4_join_122 ?_
          refine va_last hx hb hK hP hD hS 5 1 rfl rfl (inn a1 (by omega)) dX4_join_123 (fun H locs hP hD hS => ?_)
          have hf123 : vp_updL (mix n (cHe X) wa0) ((nI a).toNatClampNeg) ((cHe X a) + (cHe X b)) = mix n (cHe (jS a b X)) wa0 := by rw [ix_n (by omega)]; exact updL_mix an
          have hP : va_P (dC, dI) vwCl [(m0, .inr (4, [.int (nI n), .int P, .int (nI u), .ref b0, .ref c1, .ref c2, .ref c3, .int kn, .ref e1, .ref e2, .ref e3, .ref e4, .ref e5, .ref e6, .ref e7, .ref e8, .ref e9, .int ir, .int gp, .ref f1, .ref f2])), (e2, .inl (cI, 300, .inl be)), (e3, .inl (cI, 300, .inl (mix n (cFi X) fi0))), (e4, .inl (cI, 300, .inl (mix n (cNx (jS a b X)) nx0))), (e5, .inl (cI, 300, .inl (mix n (cLa (jS a b X)) la0))), (e6, .inl (cJ, 300, .inr (.inl (vp_updL (mix n (cHe X) wa0) ((nI a).toNatClampNeg) ((cHe X a) + (cHe X b)))))), (e7, .inl (cJ, 300, .inr (.inl (mix n (cBy (jS a b X)) gr0))))] H := hP
          have hD : va_D A [(m0, .inr (4, [.int (nI n), .int P, .int (nI u), .ref b0, .ref c1, .ref c2, .ref c3, .int kn, .ref e1, .ref e2, .ref e3, .ref e4, .ref e5, .ref e6, .ref e7, .ref e8, .ref e9, .int ir, .int gp, .ref f1, .ref f2])), (e2, .inl (cI, 300, .inl be)), (e3, .inl (cI, 300, .inl (mix n (cFi X) fi0))), (e4, .inl (cI, 300, .inl (mix n (cNx (jS a b X)) nx0))), (e5, .inl (cI, 300, .inl (mix n (cLa (jS a b X)) la0))), (e6, .inl (cJ, 300, .inr (.inl (vp_updL (mix n (cHe X) wa0) ((nI a).toNatClampNeg) ((cHe X a) + (cHe X b)))))), (e7, .inl (cJ, 300, .inr (.inl (mix n (cBy (jS a b X)) gr0))))] := hD
          rw [hf123] at hP hD
          refine lv_iload hx hb dX4_join_124 (lv_at hl 0 rfl) ?_
          refine lv_istore (lv' := [(5, .int (nI b)), (4, .int (nI b)), (3, .int (nI a)), (2, .int (nI c9)), (0, .ref m0), (1, .int (nI f))]) hx hb dX4_join_126 hl (by decide) rfl (fun ls hl => ?_)
          have hP : va_P (dC, dI) vwCl [(m0, .inr (4, [.int (nI n), .int P, .int (nI u), .ref b0, .ref c1, .ref c2, .ref c3, .int kn, .ref e1, .ref e2, .ref e3, .ref e4, .ref e5, .ref e6, .ref e7, .ref e8, .ref e9, .int ir, .int gp, .ref f1, .ref f2])), (e2, .inl (cI, 300, .inl be)), (e3, .inl (cI, 300, .inl (mix n (cFi X) fi0))), (e4, .inl (cI, 300, .inl (mix n (cNx (jS a b X)) nx0))), (e5, .inl (cI, 300, .inl (mix n (cLa (jS a b X)) la0))), (e6, .inl (cJ, 300, .inr (.inl (mix n (cHe (jS a b X)) wa0)))), (e7, .inl (cJ, 300, .inr (.inl (mix n (cBy (jS a b X)) gr0))))] H := hP
          have hD : va_D A [(m0, .inr (4, [.int (nI n), .int P, .int (nI u), .ref b0, .ref c1, .ref c2, .ref c3, .int kn, .ref e1, .ref e2, .ref e3, .ref e4, .ref e5, .ref e6, .ref e7, .ref e8, .ref e9, .int ir, .int gp, .ref f1, .ref f2])), (e2, .inl (cI, 300, .inl be)), (e3, .inl (cI, 300, .inl (mix n (cFi X) fi0))), (e4, .inl (cI, 300, .inl (mix n (cNx (jS a b X)) nx0))), (e5, .inl (cI, 300, .inl (mix n (cLa (jS a b X)) la0))), (e6, .inl (cJ, 300, .inr (.inl (mix n (cHe (jS a b X)) wa0)))), (e7, .inl (cJ, 300, .inr (.inl (mix n (cBy (jS a b X)) gr0))))] := hD
          refine lpX4_join (X := jS a b X) (f := f) (a := a) (G := rlab (cCh X b) (nI a) (cFi X)) hx hb hml hts hown hK hA hn (fun  H locs ls hP hD hS hl => ?_) ((cCh X b).length) (cCh X b) _ (cFi X) (rfl) (hI.tail a1 b1 (fun e => c_3 (by rw [e])) a3 b3) (fun x hx => hfz (mb x hx).1 (by rw [(mb x hx).2]; exact nI_m1 (by omega))) (rfl) H _ ls hP hD hS (lv_sub hl [4, 5, 2, 0] rfl)
          · -- kx
            have hP9 : va_P (dC, dI) vwCl [(m0, .inr (4, [.int (nI n), .int P, .int (nI u), .ref b0, .ref c1, .ref c2, .ref c3, .int kn, .ref e1, .ref e2, .ref e3, .ref e4, .ref e5, .ref e6, .ref e7, .ref e8, .ref e9, .int ir, .int gp, .ref f1, .ref f2])), (e2, .inl (cI, 300, .inl be)), (e3, .inl (cI, 300, .inl (mix n (cFi (jS a b X)) fi0))), (e4, .inl (cI, 300, .inl (mix n (cNx (jS a b X)) nx0))), (e5, .inl (cI, 300, .inl (mix n (cLa (jS a b X)) la0))), (e6, .inl (cJ, 300, .inr (.inl (mix n (cHe (jS a b X)) wa0)))), (e7, .inl (cJ, 300, .inr (.inl (mix n (cBy (jS a b X)) gr0))))] H := hP
            have hD9 : va_D A [(m0, .inr (4, [.int (nI n), .int P, .int (nI u), .ref b0, .ref c1, .ref c2, .ref c3, .int kn, .ref e1, .ref e2, .ref e3, .ref e4, .ref e5, .ref e6, .ref e7, .ref e8, .ref e9, .int ir, .int gp, .ref f1, .ref f2])), (e2, .inl (cI, 300, .inl be)), (e3, .inl (cI, 300, .inl (mix n (cFi (jS a b X)) fi0))), (e4, .inl (cI, 300, .inl (mix n (cNx (jS a b X)) nx0))), (e5, .inl (cI, 300, .inl (mix n (cLa (jS a b X)) la0))), (e6, .inl (cJ, 300, .inr (.inl (mix n (cHe (jS a b X)) wa0)))), (e7, .inl (cJ, 300, .inr (.inl (mix n (cBy (jS a b X)) gr0))))] := hD
            exact W.vret hx hb hr (fun t ht hW => ⟨⟨jS a b X, rfl, by rw [if_neg hbf, hjs, if_neg c_3, if_neg (Int64.not_lt.mpr c_4)], by rw [ht]; exact hP9, va_K.moved hW.alike hK, hD9⟩, hS.F ht⟩) hS.2.2 dX4_join_153
        · -- pc 62, side 1
          rw [lg_cmp_le] at c_4
          have hP9 : va_P (dC, dI) vwCl [(m0, .inr (4, [.int (nI n), .int P, .int (nI u), .ref b0, .ref c1, .ref c2, .ref c3, .int kn, .ref e1, .ref e2, .ref e3, .ref e4, .ref e5, .ref e6, .ref e7, .ref e8, .ref e9, .int ir, .int gp, .ref f1, .ref f2])), (e2, .inl (cI, 300, .inl be)), (e3, .inl (cI, 300, .inl (mix n (cFi X) fi0))), (e4, .inl (cI, 300, .inl (mix n (cNx X) nx0))), (e5, .inl (cI, 300, .inl (mix n (cLa X) la0))), (e6, .inl (cJ, 300, .inr (.inl (mix n (cHe X) wa0)))), (e7, .inl (cJ, 300, .inr (.inl (mix n (cBy X) gr0))))] H := hP
          have hD9 : va_D A [(m0, .inr (4, [.int (nI n), .int P, .int (nI u), .ref b0, .ref c1, .ref c2, .ref c3, .int kn, .ref e1, .ref e2, .ref e3, .ref e4, .ref e5, .ref e6, .ref e7, .ref e8, .ref e9, .int ir, .int gp, .ref f1, .ref f2])), (e2, .inl (cI, 300, .inl be)), (e3, .inl (cI, 300, .inl (mix n (cFi X) fi0))), (e4, .inl (cI, 300, .inl (mix n (cNx X) nx0))), (e5, .inl (cI, 300, .inl (mix n (cLa X) la0))), (e6, .inl (cJ, 300, .inr (.inl (mix n (cHe X) wa0)))), (e7, .inl (cJ, 300, .inr (.inl (mix n (cBy X) gr0))))] := hD
          exact W.vret hx hb hr (fun t ht hW => ⟨⟨X, rfl, by rw [if_neg hbf, hjs, if_neg c_3, if_pos (Int64.not_le.mp c_4)], by rw [ht]; exact hP9, va_K.moved hW.alike hK, hD9⟩, hS.F ht⟩) hS.2.2 dX4_join_65
      · -- pc 23, side 1
        have hP9 : va_P (dC, dI) vwCl [(m0, .inr (4, [.int (nI n), .int P, .int (nI u), .ref b0, .ref c1, .ref c2, .ref c3, .int kn, .ref e1, .ref e2, .ref e3, .ref e4, .ref e5, .ref e6, .ref e7, .ref e8, .ref e9, .int ir, .int gp, .ref f1, .ref f2])), (e2, .inl (cI, 300, .inl be)), (e3, .inl (cI, 300, .inl (mix n (cFi X) fi0))), (e4, .inl (cI, 300, .inl (mix n (cNx X) nx0))), (e5, .inl (cI, 300, .inl (mix n (cLa X) la0))), (e6, .inl (cJ, 300, .inr (.inl (mix n (cHe X) wa0)))), (e7, .inl (cJ, 300, .inr (.inl (mix n (cBy X) gr0))))] H := hP
        have hD9 : va_D A [(m0, .inr (4, [.int (nI n), .int P, .int (nI u), .ref b0, .ref c1, .ref c2, .ref c3, .int kn, .ref e1, .ref e2, .ref e3, .ref e4, .ref e5, .ref e6, .ref e7, .ref e8, .ref e9, .int ir, .int gp, .ref f1, .ref f2])), (e2, .inl (cI, 300, .inl be)), (e3, .inl (cI, 300, .inl (mix n (cFi X) fi0))), (e4, .inl (cI, 300, .inl (mix n (cNx X) nx0))), (e5, .inl (cI, 300, .inl (mix n (cLa X) la0))), (e6, .inl (cJ, 300, .inr (.inl (mix n (cHe X) wa0)))), (e7, .inl (cJ, 300, .inr (.inl (mix n (cBy X) gr0))))] := hD
        exact W.vret hx hb hr (fun t ht hW => ⟨⟨X, rfl, by rw [if_neg hbf, hjs, if_pos c_3], by rw [ht]; exact hP9, va_K.moved hW.alike hK, hD9⟩, hS.F ht⟩) hS.2.2 dX4_join_26
