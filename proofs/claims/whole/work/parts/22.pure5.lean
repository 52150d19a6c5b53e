theorem DerC.made2 (n : Nat) (P : Int32) (z F T : Nat → Int32) (C : Nat → Int64) (u : Nat) (lo rk M M2 : Nat → Int32) (X : CS) (hX : X = bldX P z (fcN F T C z u) F (hN F T C u) lo) :
    DerC n P z F T C u (fcN F T C z u) (cFi X) (nI (rkN (cFi X) (cLe X) (cBy X) (cHe X) rk 300).1) (rowL z M (fun _ => -1) ((rLst X rk).flatMap (cCh X))).1 (rowL z M (fun _ => -1) ((rLst X rk).flatMap (cCh X))).2.1 (nI (rowL z M (fun _ => -1) ((rLst X rk).flatMap (cCh X))).2.2.1) (rowL z M2 (fun _ => -1) (nLst z n)).2.1 := by
  have h := DerC.made n P z F T C u lo rk M M2 X hX
  have e : wLst X rk = (rLst X rk).flatMap (cCh X) := rfl
  rw [e] at h
  exact h
