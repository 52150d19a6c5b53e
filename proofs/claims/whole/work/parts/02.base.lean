
/-- a truth as the machine has it -/
def bI (P : Prop) [Decidable P] : Int32 := if P then 1 else 0
theorem bI_t {P : Prop} [Decidable P] (h : P) : bI P = 1 := if_pos h
theorem bI_f {P : Prop} [Decidable P] (h : ¬ P) : bI P = 0 := if_neg h
section BB
variable {p : Program} {l : Launch} {e : Env} {R : Room} {s : State} {m : MethodId} {args : Array Value} {below : List Frame} {meth : Method} {c : Code} {H : Heap} {locs : List Loc} {cells slots : Nat} {Q : State → Prop} {cc : ByteArray} {pc : Nat} {ls : Array Slot} {rest : List Value} {D : va_G} {cl : List vw_C} {ws : va_W} {tys : List (ClassId × FieldType)} {A : Nat → Prop} {H0 : Heap}
theorem tp_i {x y : Int32} (h : x = y) (k : W p l e R s m args below meth c H locs cells slots Q (F0 m pc ls (.int y :: rest))) : W p l e R s m args below meth c H locs cells slots Q (F0 m pc ls (.int x :: rest)) := h ▸ k
theorem tp_l {x y : Int64} (h : x = y) (k : W p l e R s m args below meth c H locs cells slots Q (F0 m pc ls (.long y :: rest))) : W p l e R s m args below meth c H locs cells slots Q (F0 m pc ls (.long x :: rest)) := h ▸ k
theorem pre_V {C : String} {T : u_T} {N ci b : Nat} {fs As : List Value} (hK : va_K D cl tys s) (hP : va_P D cl ws H) (hD : va_D A ws) (hc : cl[ci]? = some (C, T, N)) (he : ws[0]? = some (b, .inr (ci, fs))) : PreV s H C b (va_Pc (.ref b :: As) (fun U => U.heap.size = H.size ∧ va_P D cl ws U.heap ∧ va_K D cl tys U ∧ va_D (fun _ => True) ws)) As :=
  ⟨fun a U g mk q => by obtain ⟨q0, q1, qP, qK, qD⟩ := q; exact ⟨q0, q1, qP, va_K.moved (u := U) (U := U.calling g mk a) (Vm.Alike.refl U.vm) qK, qD⟩, va_recv hK hP hc he, fun U hU hW => ⟨rfl, by rw [hU], by rw [hU]; exact hP, va_K.moved hW.alike hK, hD.weaken (fun _ _ _ _ => trivial)⟩⟩
theorem pre_S {As : List Value} (hK : va_K D cl tys s) (hP : va_P D cl ws H) (hD : va_D A ws) : PreS s H (va_Pc As (fun U => U.heap.size = H.size ∧ va_P D cl ws U.heap ∧ va_K D cl tys U ∧ va_D (fun _ => True) ws)) As :=
  ⟨fun a U g mk q => by obtain ⟨q0, q1, qP, qK, qD⟩ := q; exact ⟨q0, q1, qP, va_K.moved (u := U) (U := U.calling g mk a) (Vm.Alike.refl U.vm) qK, qD⟩, fun U hU hW => ⟨rfl, by rw [hU], by rw [hU]; exact hP, va_K.moved hW.alike hK, hD.weaken (fun _ _ _ _ => trivial)⟩⟩
theorem vp_zero_i (n : Nat) (cA : ClassId) : vp_cell cA (n, .inl (fun _ => 0)) = arrV cA n (fun _ => defaultValue .int) := rfl
theorem vp_zero_l (n : Nat) (cA : ClassId) : vp_cell cA (n, .inr (.inl (fun _ => 0))) = arrV cA n (fun _ => defaultValue .long) := rfl
theorem vp_zero_z (n : Nat) (cA : ClassId) : vp_cell cA (n, .inl (fun _ => 0)) = arrV cA n (fun _ => defaultValue .boolean) := rfl
theorem new_a (hexec : p.tables.exec = Jvm.exec) (hb : c.code = cc) {atype : ArrayType} {ty : FieldType} (harr : (Cond.arrayClass ty).before args s = true) (hty : newarray.typeOf atype = ty) (hK : va_K D cl tys s) (t0 : Nat) {cA : ClassId} (ht : tys[t0]? = some (cA, ty)) (hra : ∀ (U : State) (c : ClassId), va_RA U c ty → U.vm.findClass ("[" ++ ty.toString) = some c) (hP : va_P D cl ws H) (hD : va_D A ws) (hS : va_S A H0 H locs) (hA : ∀ q, H0.size ≤ q → A q)
    {n : Int32} {N' : Nat} {a0 : vp_A} (ha : ∀ cA : ClassId, vp_cell cA a0 = arrV cA N' (fun _ => defaultValue ty)) (hn : ¬ n < 0) (hN : n.toNatClampNeg = N') (hbytes : N' * componentBytes ty ≤ 536870912) (hcells : cells + 1 ≤ R.cells) (hslots : slots + N' ≤ R.slots) (hdg : decode cc pc = .ok (.newarray atype, 2))
    (kk : ∀ (q : Nat) (H1 : Heap), va_P D cl (ws ++ [(q, .inl (cA, a0))]) H1 → va_D A (ws ++ [(q, .inl (cA, a0))]) → va_S A H0 H1 locs →
      W p l e R s m args below meth c H1 locs (cells + 1) (slots + N') Q (F0 m (pc + 2) ls (.ref q :: rest))) : W p l e R s m args below meth c H locs cells slots Q (F0 m pc ls (.int n :: rest)) := by
  subst hty
  refine va_newa hexec hb harr rfl hK hP hD hS hA ha hn hN hbytes hcells hslots hdg (fun q cB H1 hK2 hP2 hD2 hS2 => ?_)
  have h1 := hra s cB (hK2.2 tys.length (cB, newarray.typeOf atype) (by rw [List.getElem?_append_right (Nat.le_refl _), Nat.sub_self]; rfl)).2
  have h2 := hra s cA (hK.2 t0 _ ht).2
  have h3 : cB = cA := Option.some.inj (h1.symm.trans h2)
  subst h3
  exact kk q H1 hP2 hD2 hS2
end BB
/-- the same cell, by what its places hold -/
theorem cell_ei {cA : ClassId} {n : Nat} {f g : Nat → Int32} (h : ∀ j, j < n → f j = g j) : vp_cell cA (n, .inl f) = vp_cell cA (n, .inl g) := by
  rw [vp_cell_i, vp_cell_i]
  unfold arrV
  congr 1
  apply Array.ext
  · simp
  · intro j h1 h2
    have h3 : j < n := by simpa using h1
    simp [h j h3]
theorem cell_el {cA : ClassId} {n : Nat} {f g : Nat → Int64} (h : ∀ j, j < n → f j = g j) : vp_cell cA (n, .inr (.inl f)) = vp_cell cA (n, .inr (.inl g)) := by
  rw [vp_cell_l, vp_cell_l]
  unfold arrV
  congr 1
  apply Array.ext
  · simp
  · intro j h1 h2
    have h3 : j < n := by simpa using h1
    simp [h j h3]
/-- what an array's places hold may be written otherwise -/
theorem va_P.ei {D : va_G} {cl : List vw_C} {ws : va_W} {H : Heap} (hP : va_P D cl ws H) (k : Nat) {a : Nat} {cA : ClassId} {n : Nat} {f : Nat → Int32} (g : Nat → Int32) (he : ws[k]? = some (a, .inl (cA, n, .inl f))) (h : ∀ j, j < n → f j = g j) : va_P D cl (ws.set k (a, .inl (cA, n, .inl g))) H := by
  intro i q hq
  rw [List.getElem?_set] at hq
  split at hq
  · rename_i hik
    subst hik
    split at hq
    · cases hq
      show H[a]? = some (vp_cell cA (n, .inl g))
      rw [← cell_ei h]
      exact hP k _ he
    · cases hq
  · exact hP i q hq
theorem va_P.el {D : va_G} {cl : List vw_C} {ws : va_W} {H : Heap} (hP : va_P D cl ws H) (k : Nat) {a : Nat} {cA : ClassId} {n : Nat} {f : Nat → Int64} (g : Nat → Int64) (he : ws[k]? = some (a, .inl (cA, n, .inr (.inl f)))) (h : ∀ j, j < n → f j = g j) : va_P D cl (ws.set k (a, .inl (cA, n, .inr (.inl g)))) H := by
  intro i q hq
  rw [List.getElem?_set] at hq
  split at hq
  · rename_i hik
    subst hik
    split at hq
    · cases hq
      show H[a]? = some (vp_cell cA (n, .inr (.inl g)))
      rw [← cell_el h]
      exact hP k _ he
    · cases hq
  · exact hP i q hq
/-- 'fill' and loops that write a row from the left: X up to k, then what was -/
def mix {α : Type} (k : Nat) (X f : Nat → α) : Nat → α := fun j => if j < k then X j else f j
theorem mix_0 {α : Type} (X f : Nat → α) : mix 0 X f = f := by funext j; simp [mix]
theorem mix_lt {α : Type} {k j : Nat} (X f : Nat → α) (h : j < k) : mix k X f j = X j := if_pos h
theorem mix_ge {α : Type} {k j : Nat} (X f : Nat → α) (h : k ≤ j) : mix k X f j = f j := if_neg (Nat.not_lt.mpr h)
theorem mix_i (k : Nat) (X f : Nat → Int32) {x : Int32} (h : x = X k) : upd (mix k X f) k x = mix (k + 1) X f := by
  funext j
  unfold upd mix
  by_cases h1 : j = k
  · subst h1; simp [h]
  · by_cases h2 : j < k
    · simp [h1, h2, Nat.lt_succ_of_lt h2]
    · have h3 : ¬ j < k + 1 := by omega
      simp [h1, h2, h3]
theorem mix_l (k : Nat) (X f : Nat → Int64) {x : Int64} (h : x = X k) : vp_updL (mix k X f) k x = mix (k + 1) X f := by
  funext j
  unfold vp_updL mix
  by_cases h1 : j = k
  · subst h1; simp [h]
  · by_cases h2 : j < k
    · simp [h1, h2, Nat.lt_succ_of_lt h2]
    · have h3 : ¬ j < k + 1 := by omega
      simp [h1, h2, h3]
theorem ix_n {k : Nat} (h : k < 2000000) : (nI k).toNatClampNeg = k := nI_clamp (by omega)
theorem inn {k n : Nat} (h : k < n) (hn : n < 2000000) : vp_in (nI k) n := vp_in_nI h (by omega)
theorem in_300 {k u : Int32} {n : Nat} (h0 : 0 ≤ k) (h1 : k < u) (hu : u.toInt ≤ n) : vp_in k n := by
  rw [vp_in_iff]
  rw [Int32.le_iff_toInt_le] at h0
  rw [Int32.lt_iff_toInt_lt] at h1
  exact ⟨h0, by omega⟩
