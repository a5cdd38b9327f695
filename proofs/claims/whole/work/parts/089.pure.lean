theorem law_pure {L : Nat} {xs : Nat → Int32} (hL : L ≤ 3584) : ∃ k9 : Nat, fL_L k9 xs L 513 g0 g0 (fun _ => 0) 0 = some () := ⟨K9, law_go hL 513 0 g0 g0 (fun _ => 0) rel_0 (by omega) (by omega)⟩
