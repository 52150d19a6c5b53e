theorem nI_inj {a b : Nat} (ha : a < 2000000) (hb : b < 2000000) (h : nI a = nI b) : a = b := (nI_eq (by omega) (by omega)).mp h
theorem nI_in9 {x : Int32} {n : Nat} (hn : n < 2000000) (h : vp_in x n) : ∃ j, j < n ∧ x = nI j := vp_in_of h (by omega)
theorem Chain.congr {nx nx' : Nat → Int32} : ∀ {l : List Nat} {f : Int32}, (∀ x, x ∈ l → nx x = nx' x) → Chain nx l f → Chain nx' l f
  | [], _, _, h => h
  | x :: l, f, hq, h => ⟨h.1, (hq x List.mem_cons_self) ▸ Chain.congr (fun y hy => hq y (List.mem_cons_of_mem _ hy)) h.2⟩
theorem Chain.app {nx nx' : Nat → Int32} {l2 : List Nat} {g : Int32} {x : Nat} (h2 : Chain nx' l2 g) (hx : nx' x = g) : ∀ {l : List Nat} {f : Int32}, l.getLast? = some x → l.Nodup → (∀ y, y ∈ l → y ≠ x → nx y = nx' y) → Chain nx l f → Chain nx' (l ++ l2) f
  | [], _, hl, _, _, _ => by cases hl
  | [y], f, hl, _, _, h => by
    have : y = x := by simpa using hl
    subst this
    exact ⟨h.1, by rw [hx]; exact h2⟩
  | y :: z :: l, f, hl, hn, hq, h => by
    have hl' : (z :: l).getLast? = some x := by rw [List.getLast?_cons_cons] at hl; exact hl
    have hyx : y ≠ x := by
      intro e
      subst e
      have h3 : y ∈ z :: l := List.mem_of_getLast? hl'
      exact (List.nodup_cons.mp hn).1 h3
    refine ⟨h.1, ?_⟩
    rw [← hq y List.mem_cons_self hyx]
    exact Chain.app h2 hx hl' (List.nodup_cons.mp hn).2 (fun w hw => hq w (List.mem_cons_of_mem _ hw)) h.2
/-- no more than n different numbers below n -/
theorem nodup_le : ∀ (n : Nat) (l : List Nat), l.Nodup → (∀ x, x ∈ l → x < n) → l.length ≤ n
  | 0, [], _, _ => Nat.le_refl 0
  | 0, x :: l, _, h => absurd (h x List.mem_cons_self) (Nat.not_lt_zero x)
  | n + 1, l, hn, h => by
    have h1 : (l.filter (fun x => x != n)).length ≤ n := nodup_le n _ (hn.sublist List.filter_sublist) (fun x hx => by
      rw [List.mem_filter] at hx
      have := h x hx.1
      have h2 : x ≠ n := by simpa using hx.2
      omega)
    have h2 : l.length ≤ (l.filter (fun x => x != n)).length + 1 := by
      clear h h1
      induction l with
      | nil => simp
      | cons y l ih =>
        by_cases hy : y = n
        · subst hy
          have h3 : l.filter (fun x => x != y) = l := by
            rw [List.filter_eq_self]
            intro a ha
            have : a ≠ y := fun e => (List.nodup_cons.mp hn).1 (e ▸ ha)
            simpa using this
          simp [h3]
        · have h4 : (y != n) = true := by simpa using hy
          rw [List.filter_cons_of_pos (p := fun x => x != n) (a := y) (l := l) h4, List.length_cons, List.length_cons]
          have := ih (List.nodup_cons.mp hn).2
          omega
    omega
/-- the clusters as the arrays have them: first, next, last, least, bytes, heat; and (of no array) each chain -/
abbrev CS : Type := (Nat → Int32) × (Nat → Int32) × (Nat → Int32) × (Nat → Int32) × (Nat → Int64) × (Nat → Int64) × (Nat → List Nat)
abbrev cFi (X : CS) : Nat → Int32 := X.1
abbrev cNx (X : CS) : Nat → Int32 := X.2.1
abbrev cLa (X : CS) : Nat → Int32 := X.2.2.1
abbrev cLe (X : CS) : Nat → Int32 := X.2.2.2.1
abbrev cBy (X : CS) : Nat → Int64 := X.2.2.2.2.1
abbrev cHe (X : CS) : Nat → Int64 := X.2.2.2.2.2.1
abbrev cCh (X : CS) : Nat → List Nat := X.2.2.2.2.2.2
def jS (a b : Nat) (X : CS) : CS := (rlab (cCh X b) (nI a) (cFi X), upd (cNx X) (cLa X a).toNatClampNeg (nI b), upd (cLa X) a (cLa X b), upd (cLe X) a (if cLe X b < cLe X a then cLe X b else cLe X a), vp_updL (cBy X) a (cBy X a + cBy X b), vp_updL (cHe X) a (cHe X a + cHe X b), fun h => if h = a then cCh X a ++ cCh X b else cCh X h)
def joinS (P : Int32) (cf : Nat → Int32) (f : Nat) (X : CS) : CS := if cFi X (cf f).toNatClampNeg = cFi X f then X else if P.toInt64 < cBy X (cFi X (cf f).toNatClampNeg).toNatClampNeg + cBy X (cFi X f).toNatClampNeg then X else jS (cFi X (cf f).toNatClampNeg).toNatClampNeg (cFi X f).toNatClampNeg X
def runJ (P : Int32) (cf : Nat → Int32) (l : List Nat) (X : CS) : CS := l.foldl (fun X f => joinS P cf f X) X
def CInv (z : Nat → Int32) (X : CS) : Prop :=
  (∀ j, j < 300 → (cFi X j = -1 ↔ z j ≤ 0)) ∧
  (∀ j, j < 300 → ¬ z j ≤ 0 → ∃ h, h < 300 ∧ cFi X j = nI h ∧ cFi X h = nI h ∧ j ∈ cCh X h) ∧
  (∀ h, h < 300 → cFi X h = nI h → Chain (cNx X) (cCh X h) (nI h) ∧ (cCh X h).Nodup ∧ (∀ m, m ∈ cCh X h → m < 300 ∧ cFi X m = nI h) ∧ ∃ x, (cCh X h).getLast? = some x ∧ cLa X h = nI x)
theorem CInv.len {z : Nat → Int32} {X : CS} (I : CInv z X) {h : Nat} (hh : h < 300) (hf : cFi X h = nI h) : (cCh X h).length ≤ 300 := by
  obtain ⟨-, h1, h2, -⟩ := I.2.2 h hh hf
  exact nodup_le 300 _ h1 (fun x hx => (h2 x hx).1)
theorem CInv.self {z : Nat → Int32} {X : CS} (I : CInv z X) {h : Nat} (hh : h < 300) (hf : cFi X h = nI h) : h ∈ cCh X h := by
  have h0 : ¬ z h ≤ 0 := fun e => by
    have := (I.1 h hh).mpr e
    rw [hf] at this
    exact nI_m1 (by omega) this
  obtain ⟨k, h1, h2, h3, h4⟩ := I.2.1 h hh h0
  rw [hf] at h2
  have := nI_inj (by omega) (by omega) h2
  subst this
  exact h4
theorem CInv.vin {z : Nat → Int32} {X : CS} (I : CInv z X) : ∀ j, j < 300 → cFi X j = -1 ∨ vp_in (cFi X j) 300 := by
  intro j hj
  by_cases h : z j ≤ 0
  · exact Or.inl ((I.1 j hj).mpr h)
  · obtain ⟨k, h1, h2, -⟩ := I.2.1 j hj h
    exact Or.inr (by rw [h2]; exact inn h1 (by omega))
theorem CInv.join_ {z : Nat → Int32} {X : CS} (I : CInv z X) {a b : Nat} (ha : a < 300) (hb : b < 300) (hab : a ≠ b) (fa : cFi X a = nI a) (fb : cFi X b = nI b) : CInv z (jS a b X) := by
  obtain ⟨cha, nda, ma, xa, la1, la2⟩ := I.2.2 a ha fa
  obtain ⟨chb, ndb, mb, xb, lb1, lb2⟩ := I.2.2 b hb fb
  have inj : ∀ {p q : Nat}, p < 300 → q < 300 → nI p = nI q → p = q := fun hp hq h => nI_inj (by omega) (by omega) h
  have anb : a ∉ cCh X b := fun h => by
    have := (mb a h).2
    rw [fa] at this
    exact hab (inj ha hb this)
  have nib : ∀ {m h : Nat}, h < 300 → h ≠ b → cFi X m = nI h → m ∉ cCh X b := fun hh hn hm h => by
    have := (mb _ h).2
    rw [hm] at this
    exact hn (inj hh hb this)
  have hfi : ∀ j, cFi (jS a b X) j = if j ∈ cCh X b then nI a else cFi X j := fun _ => rfl
  have xain : xa ∈ cCh X a := List.mem_of_getLast? la1
  have xalt : xa < 300 := (ma xa xain).1
  have hxa : (cLa X a).toNatClampNeg = xa := by rw [la2]; exact ix_n (by omega)
  refine ⟨fun j hj => ?_, fun j hj hz => ?_, fun h hh hf => ?_⟩
  · rw [hfi]
    split
    · rename_i hm
      have h1 := (mb j hm).2
      constructor
      · intro e; exact absurd e (nI_m1 (by omega))
      · intro e
        have := (I.1 j hj).mpr e
        rw [h1] at this
        exact absurd this (nI_m1 (by omega))
    · exact I.1 j hj
  · obtain ⟨h, h1, h2, h3, h4⟩ := I.2.1 j hj hz
    by_cases e : h = b
    · subst e
      refine ⟨a, ha, ?_, ?_, ?_⟩
      · rw [hfi, if_pos h4]
      · rw [hfi, if_neg anb]; exact fa
      · show j ∈ (if a = a then cCh X a ++ cCh X h else cCh X a)
        rw [if_pos rfl]
        exact List.mem_append_right _ h4
    · refine ⟨h, h1, ?_, ?_, ?_⟩
      · rw [hfi, if_neg (nib h1 e h2)]; exact h2
      · rw [hfi, if_neg (nib h1 e h3)]; exact h3
      · show j ∈ (if h = a then cCh X a ++ cCh X b else cCh X h)
        split
        · rename_i e2; subst e2; exact List.mem_append_left _ h4
        · exact h4
  · rw [hfi] at hf
    have hnb : h ∉ cCh X b := by
      intro hm
      rw [if_pos hm] at hf
      have := inj ha hh hf
      subst this
      exact anb hm
    rw [if_neg hnb] at hf
    have hhb : h ≠ b := fun e => hnb (by rw [e]; exact I.self hb fb)
    by_cases e : h = a
    · subst e
      show Chain (upd (cNx X) (cLa X h).toNatClampNeg (nI b)) (if h = h then cCh X h ++ cCh X b else cCh X h) (nI h) ∧ (if h = h then cCh X h ++ cCh X b else cCh X h).Nodup ∧ (∀ m, m ∈ (if h = h then cCh X h ++ cCh X b else cCh X h) → m < 300 ∧ rlab (cCh X b) (nI h) (cFi X) m = nI h) ∧ ∃ x, (if h = h then cCh X h ++ cCh X b else cCh X h).getLast? = some x ∧ upd (cLa X) h (cLa X b) h = nI x
      simp only [if_true]
      rw [hxa]
      refine ⟨?_, ?_, ?_, ?_⟩
      · refine Chain.app (nx := cNx X) (x := xa) (g := nI b) ?_ (by unfold upd; rw [if_pos rfl]) la1 nda (fun y _ hy => by unfold upd; rw [if_neg hy]) cha
        refine Chain.congr (fun y hy => ?_) chb
        have : y ≠ xa := fun e => nib hh hhb (ma xa xain).2 (e ▸ hy)
        unfold upd
        rw [if_neg this]
      · rw [List.nodup_append]
        refine ⟨nda, ndb, fun p hp q hq e => ?_⟩
        subst e
        exact nib hh hhb (ma p hp).2 hq
      · intro m hm
        rcases List.mem_append.mp hm with h1 | h1
        · exact ⟨(ma m h1).1, by unfold rlab; rw [if_neg (nib hh hhb (ma m h1).2)]; exact (ma m h1).2⟩
        · exact ⟨(mb m h1).1, by unfold rlab; rw [if_pos h1]⟩
      · refine ⟨xb, ?_, ?_⟩
        · rw [List.getLast?_append, lb1]; rfl
        · unfold upd; rw [if_pos rfl]; exact lb2
    · obtain ⟨chh, ndh, mh, xh, lh1, lh2⟩ := I.2.2 h hh hf
      show Chain (upd (cNx X) (cLa X a).toNatClampNeg (nI b)) (if h = a then cCh X a ++ cCh X b else cCh X h) (nI h) ∧ (if h = a then cCh X a ++ cCh X b else cCh X h).Nodup ∧ (∀ m, m ∈ (if h = a then cCh X a ++ cCh X b else cCh X h) → m < 300 ∧ rlab (cCh X b) (nI a) (cFi X) m = nI h) ∧ ∃ x, (if h = a then cCh X a ++ cCh X b else cCh X h).getLast? = some x ∧ upd (cLa X) a (cLa X b) h = nI x
      simp only [if_neg e]
      rw [hxa]
      refine ⟨Chain.congr (fun y hy => ?_) chh, ndh, fun m hm => ⟨(mh m hm).1, ?_⟩, xh, lh1, ?_⟩
      · have : y ≠ xa := fun e2 => by
          have h5 := (mh y hy).2
          rw [e2, (ma xa xain).2] at h5
          exact e (inj ha hh h5).symm
        unfold upd
        rw [if_neg this]
      · unfold rlab
        rw [if_neg (nib hh hhb (mh m hm).2)]
        exact (mh m hm).2
      · unfold upd; rw [if_neg e]; exact lh2
/-- a function is looked at: it has a size, and so has its caller -/
def Looks (z cf : Nat → Int32) (f : Nat) : Prop := f < 300 ∧ ¬ z f ≤ 0 ∧ ∃ c, c < 300 ∧ cf f = nI c ∧ ¬ z c ≤ 0
theorem CInv.look_ {z : Nat → Int32} {X : CS} (I : CInv z X) {P : Int32} {cf : Nat → Int32} {f : Nat} (hf : Looks z cf f) : CInv z (joinS P cf f X) := by
  obtain ⟨h1, h2, c, h3, h4, h5⟩ := hf
  obtain ⟨a, a1, a2, a3, -⟩ := I.2.1 c h3 h5
  obtain ⟨b, b1, b2, b3, -⟩ := I.2.1 f h1 h2
  unfold joinS
  rw [h4, ix_n (by omega), a2, b2, ix_n (by omega), ix_n (by omega)]
  split
  · exact I
  · rename_i hne
    split
    · exact I
    · exact I.join_ a1 b1 (fun e => hne (by rw [e])) a3 b3
def bFi0 (z : Nat → Int32) : Nat → Int32 := fun j => if z j ≤ 0 then -1 else nI j
def bSt0 (z : Nat → Int32) (Hh : Nat → Int64) : CS := (bFi0 z, fun _ => -1, fun j => nI j, fun j => nI j, fun j => (z j).toInt64, Hh, fun j => [j])
theorem CInv.start (z : Nat → Int32) (Hh : Nat → Int64) : CInv z (bSt0 z Hh) := by
  refine ⟨fun j hj => ?_, fun j hj hz => ?_, fun h hh hf => ?_⟩
  · show bFi0 z j = -1 ↔ z j ≤ 0
    unfold bFi0
    split
    · simp [*]
    · rename_i h1
      constructor
      · intro e; exact absurd e (nI_m1 (by omega))
      · intro e; exact absurd e h1
  · have h1 : bFi0 z j = nI j := by unfold bFi0; rw [if_neg hz]
    exact ⟨j, hj, h1, h1, List.mem_singleton.mpr rfl⟩
  · refine ⟨⟨rfl, rfl⟩, List.nodup_cons.mpr ⟨List.not_mem_nil, List.nodup_nil⟩, fun m hm => ?_, h, rfl, rfl⟩
    have : m = h := List.mem_singleton.mp hm
    subst this
    exact ⟨hh, hf⟩
theorem CInv.run {z : Nat → Int32} {P : Int32} {cf : Nat → Int32} : ∀ {l : List Nat} {X : CS}, CInv z X → (∀ f, f ∈ l → Looks z cf f) → CInv z (runJ P cf l X)
  | [], _, I, _ => I
  | f :: l, X, I, h => CInv.run (l := l) (I.look_ (h f List.mem_cons_self)) (fun g hg => h g (List.mem_cons_of_mem _ hg))
def bLst (z S F : Nat → Int32) (Hh : Nat → Int64) (lo : Nat → Int32) : List Nat := (List.range (obhN (bFi0 z) S F Hh lo 300).1).map (fun j => ((obhN (bFi0 z) S F Hh lo 300).2 j).toNatClampNeg)
def bldX (P : Int32) (z S F : Nat → Int32) (Hh : Nat → Int64) (lo : Nat → Int32) : CS := runJ P (cof S F) (bLst z S F Hh lo) (bSt0 z Hh)
theorem bLst_len (z S F : Nat → Int32) (Hh : Nat → Int64) (lo : Nat → Int32) : (bLst z S F Hh lo).length = (obhN (bFi0 z) S F Hh lo 300).1 := by simp [bLst]
theorem bLst_get {z S F : Nat → Int32} {Hh : Nat → Int64} {lo : Nat → Int32} (j : Nat) (h : j < (bLst z S F Hh lo).length) : (obhN (bFi0 z) S F Hh lo 300).2 j = nI (bLst z S F Hh lo)[j] := by
  have hj : j < (obhN (bFi0 z) S F Hh lo 300).1 := by rw [bLst_len] at h; exact h
  obtain ⟨x, h1, h2, -⟩ := (obhN_in (bFi0 z) S F Hh lo 300).2 j hj
  have h3 : (bLst z S F Hh lo)[j] = ((obhN (bFi0 z) S F Hh lo 300).2 j).toNatClampNeg := by simp [bLst]
  rw [h3, h2, ix_n (by omega)]
theorem bLst_looks {z S F : Nat → Int32} {Hh : Nat → Int64} {lo : Nat → Int32} (hcf : ∀ f, f < 300 → cof S F f = -1 ∨ ∃ c, c < 300 ∧ cof S F f = nI c ∧ ¬ z c ≤ 0) : ∀ f, f ∈ bLst z S F Hh lo → Looks z (cof S F) f := by
  intro f hf
  unfold bLst at hf
  obtain ⟨j, hj, he⟩ := List.mem_map.mp hf
  rw [List.mem_range] at hj
  obtain ⟨x, h1, h2, h3, h4⟩ := (obhN_in (bFi0 z) S F Hh lo 300).2 j hj
  rw [h2, ix_n (by omega)] at he
  subst he
  refine ⟨h1, fun e => h3 (by unfold bFi0; rw [if_pos e]), (hcf x h1).resolve_left h4⟩
