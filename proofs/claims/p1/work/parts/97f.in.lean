set_option maxRecDepth 100000 in
theorem in_34 {x : Int} (h : 0 ≤ x ∧ x ≤ 1) : zTwo (f_X5_worst 12000 S0 0 x) (fun S => f_X6_worst 12000 S 26 x) := by
  have key : ∀ a : Nat, a < 2 → zChk (f_X5_worst 12000 S0 0 (a : Int)) (fun S => f_X6_worst 12000 S 26 (a : Int)) = true := by decide +kernel
  obtain ⟨a, rfl⟩ : ∃ a : Nat, x = (a : Int) := ⟨x.toNat, by omega⟩
  exact zTwo_of (key a (by omega))
