set_option maxRecDepth 100000 in
theorem in_30_m : zTwo (f_X5_mayBe 12000 S0 0 (-1)) (fun S => f_X6_mayBe 12000 S 26 (-1)) := zTwo_of (by decide +kernel)
set_option maxRecDepth 100000 in
theorem in_30 {x : Int} (h : 0 ≤ x ∧ x ≤ 120) : zTwo (f_X5_mayBe 12000 S0 0 x) (fun S => f_X6_mayBe 12000 S 26 x) := by
  have key : ∀ a : Nat, a < 121 → zChk (f_X5_mayBe 12000 S0 0 (a : Int)) (fun S => f_X6_mayBe 12000 S 26 (a : Int)) = true := by decide +kernel
  obtain ⟨a, rfl⟩ : ∃ a : Nat, x = (a : Int) := ⟨x.toNat, by omega⟩
  exact zTwo_of (key a (by omega))
