set_option maxRecDepth 100000 in
theorem in_4 {x : Int} (h : 0 ≤ x ∧ x ≤ 119) : zTwo (f_X5_lay 12000 S0 0 x) (fun S => f_X6_lay 12000 S 26 x) := by
  have key : ∀ a : Nat, a < 120 → zChk (f_X5_lay 12000 S0 0 (a : Int)) (fun S => f_X6_lay 12000 S 26 (a : Int)) = true := by decide +kernel
  obtain ⟨a, rfl⟩ : ∃ a : Nat, x = (a : Int) := ⟨x.toNat, by omega⟩
  exact zTwo_of (key a (by omega))
set_option maxRecDepth 100000 in
theorem in_22 {x : Int} (h : 0 ≤ x ∧ x ≤ 119) : zTwo (f_X5_alike 12000 S0 0 x) (fun S => f_X6_alike 12000 S 26 x) := by
  have key : ∀ a : Nat, a < 120 → zChk (f_X5_alike 12000 S0 0 (a : Int)) (fun S => f_X6_alike 12000 S 26 (a : Int)) = true := by decide +kernel
  obtain ⟨a, rfl⟩ : ∃ a : Nat, x = (a : Int) := ⟨x.toNat, by omega⟩
  exact zTwo_of (key a (by omega))
