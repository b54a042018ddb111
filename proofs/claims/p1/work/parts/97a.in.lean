set_option maxRecDepth 100000 in
theorem in_0 {x : Int} (h : 0 ≤ x ∧ x ≤ 7) : zTwo (f_X5_boxes 12000 S0 0 x) (fun S => f_X6_boxes 12000 S 26 x) := by
  have key : ∀ a : Nat, a < 8 → zChk (f_X5_boxes 12000 S0 0 (a : Int)) (fun S => f_X6_boxes 12000 S 26 (a : Int)) = true := by decide +kernel
  obtain ⟨a, rfl⟩ : ∃ a : Nat, x = (a : Int) := ⟨x.toNat, by omega⟩
  exact zTwo_of (key a (by omega))
set_option maxRecDepth 100000 in
theorem in_1 {x y : Int} (h : 0 ≤ x ∧ x ≤ 1) (h2 : 0 ≤ y ∧ y ≤ 6) : zTwo (f_X5_put 12000 S0 0 x y) (fun S => f_X6_put 12000 S 26 x y) := by
  have key : ∀ a : Nat, a < 2 → ∀ b : Nat, b < 7 → zChk (f_X5_put 12000 S0 0 (a : Int) (b : Int)) (fun S => f_X6_put 12000 S 26 (a : Int) (b : Int)) = true := by decide +kernel
  obtain ⟨a, rfl⟩ : ∃ a : Nat, x = (a : Int) := ⟨x.toNat, by omega⟩
  obtain ⟨b, rfl⟩ : ∃ b : Nat, y = (b : Int) := ⟨y.toNat, by omega⟩
  exact zTwo_of (key a (by omega) b (by omega))
set_option maxRecDepth 100000 in
theorem in_2 {x y : Int} (h : 0 ≤ x ∧ x ≤ 4) (h2 : 0 ≤ y ∧ y ≤ 5) : zTwo (f_X5_rule 12000 S0 0 x y) (fun S => f_X6_rule 12000 S 26 x y) := by
  have key : ∀ a : Nat, a < 5 → ∀ b : Nat, b < 6 → zChk (f_X5_rule 12000 S0 0 (a : Int) (b : Int)) (fun S => f_X6_rule 12000 S 26 (a : Int) (b : Int)) = true := by decide +kernel
  obtain ⟨a, rfl⟩ : ∃ a : Nat, x = (a : Int) := ⟨x.toNat, by omega⟩
  obtain ⟨b, rfl⟩ : ∃ b : Nat, y = (b : Int) := ⟨y.toNat, by omega⟩
  exact zTwo_of (key a (by omega) b (by omega))
set_option maxRecDepth 100000 in
theorem in_3 {x y : Int} (h : 0 ≤ x ∧ x ≤ 4) (h2 : 0 ≤ y ∧ y ≤ 4) : zTwo (f_X5_swap 12000 S0 0 x y) (fun S => f_X6_swap 12000 S 26 x y) := by
  have key : ∀ a : Nat, a < 5 → ∀ b : Nat, b < 5 → zChk (f_X5_swap 12000 S0 0 (a : Int) (b : Int)) (fun S => f_X6_swap 12000 S 26 (a : Int) (b : Int)) = true := by decide +kernel
  obtain ⟨a, rfl⟩ : ∃ a : Nat, x = (a : Int) := ⟨x.toNat, by omega⟩
  obtain ⟨b, rfl⟩ : ∃ b : Nat, y = (b : Int) := ⟨y.toNat, by omega⟩
  exact zTwo_of (key a (by omega) b (by omega))
set_option maxRecDepth 100000 in
theorem in_6 {x y : Int} (h : 0 ≤ x ∧ x ≤ 4) (h2 : 0 ≤ y ∧ y ≤ 4) : zTwo (f_X5_know 12000 S0 0 x y) (fun S => f_X6_know 12000 S 26 x y) := by
  have key : ∀ a : Nat, a < 5 → ∀ b : Nat, b < 5 → zChk (f_X5_know 12000 S0 0 (a : Int) (b : Int)) (fun S => f_X6_know 12000 S 26 (a : Int) (b : Int)) = true := by decide +kernel
  obtain ⟨a, rfl⟩ : ∃ a : Nat, x = (a : Int) := ⟨x.toNat, by omega⟩
  obtain ⟨b, rfl⟩ : ∃ b : Nat, y = (b : Int) := ⟨y.toNat, by omega⟩
  exact zTwo_of (key a (by omega) b (by omega))
set_option maxRecDepth 100000 in
theorem in_7 {x y : Int} (h : 0 ≤ x ∧ x ≤ 4) (h2 : 0 ≤ y ∧ y ≤ 5) : zTwo (f_X5_report 12000 S0 0 x y) (fun S => f_X6_report 12000 S 26 x y) := by
  have key : ∀ a : Nat, a < 5 → ∀ b : Nat, b < 6 → zChk (f_X5_report 12000 S0 0 (a : Int) (b : Int)) (fun S => f_X6_report 12000 S 26 (a : Int) (b : Int)) = true := by decide +kernel
  obtain ⟨a, rfl⟩ : ∃ a : Nat, x = (a : Int) := ⟨x.toNat, by omega⟩
  obtain ⟨b, rfl⟩ : ∃ b : Nat, y = (b : Int) := ⟨y.toNat, by omega⟩
  exact zTwo_of (key a (by omega) b (by omega))
set_option maxRecDepth 100000 in
theorem in_8 {x : Int} (h : 0 ≤ x ∧ x ≤ 1) : zTwo (f_X5_forget 12000 S0 0 x) (fun S => f_X6_forget 12000 S 26 x) := by
  have key : ∀ a : Nat, a < 2 → zChk (f_X5_forget 12000 S0 0 (a : Int)) (fun S => f_X6_forget 12000 S 26 (a : Int)) = true := by decide +kernel
  obtain ⟨a, rfl⟩ : ∃ a : Nat, x = (a : Int) := ⟨x.toNat, by omega⟩
  exact zTwo_of (key a (by omega))
set_option maxRecDepth 100000 in
theorem in_9 {x : Int} (h : 0 ≤ x ∧ x ≤ 127) : zTwo (f_X5_type 12000 S0 0 x) (fun S => f_X6_type 12000 S 26 x) := by
  have key : ∀ a : Nat, a < 128 → zChk (f_X5_type 12000 S0 0 (a : Int)) (fun S => f_X6_type 12000 S 26 (a : Int)) = true := by decide +kernel
  obtain ⟨a, rfl⟩ : ∃ a : Nat, x = (a : Int) := ⟨x.toNat, by omega⟩
  exact zTwo_of (key a (by omega))
set_option maxRecDepth 100000 in
theorem in_12 {x : Int} (h : 0 ≤ x ∧ x ≤ 4) : zTwo (f_X5_slip 12000 S0 0 x) (fun S => f_X6_slip 12000 S 26 x) := by
  have key : ∀ a : Nat, a < 5 → zChk (f_X5_slip 12000 S0 0 (a : Int)) (fun S => f_X6_slip 12000 S 26 (a : Int)) = true := by decide +kernel
  obtain ⟨a, rfl⟩ : ∃ a : Nat, x = (a : Int) := ⟨x.toNat, by omega⟩
  exact zTwo_of (key a (by omega))
set_option maxRecDepth 100000 in
theorem in_13 : zTwo (f_X5_rank 12000 S0 0) (fun S => f_X6_rank 12000 S 26) := zTwo_of (by decide +kernel)
set_option maxRecDepth 100000 in
theorem in_14 {x : Int} (h : 0 ≤ x ∧ x ≤ 4) : zTwo (f_X5_rings 12000 S0 0 x) (fun S => f_X6_rings 12000 S 26 x) := by
  have key : ∀ a : Nat, a < 5 → zChk (f_X5_rings 12000 S0 0 (a : Int)) (fun S => f_X6_rings 12000 S 26 (a : Int)) = true := by decide +kernel
  obtain ⟨a, rfl⟩ : ∃ a : Nat, x = (a : Int) := ⟨x.toNat, by omega⟩
  exact zTwo_of (key a (by omega))
set_option maxRecDepth 100000 in
theorem in_14_m : zTwo (f_X5_rings 12000 S0 0 (-1)) (fun S => f_X6_rings 12000 S 26 (-1)) := zTwo_of (by decide +kernel)
set_option maxRecDepth 100000 in
theorem in_16 : zTwo (f_X5_finds 12000 S0 0) (fun S => f_X6_finds 12000 S 26) := zTwo_of (by decide +kernel)
set_option maxRecDepth 100000 in
theorem in_18 : zTwo (f_X5_back 12000 S0 0) (fun S => f_X6_back 12000 S 26) := zTwo_of (by decide +kernel)
set_option maxRecDepth 100000 in
theorem in_19 : zTwo (f_X5_undoes 12000 S0 0) (fun S => f_X6_undoes 12000 S 26) := zTwo_of (by decide +kernel)
set_option maxRecDepth 100000 in
theorem in_5 : zTwo (f_X5_undo 12000 S0 0) (fun S => f_X6_undo 12000 S 26) := zTwo_of (by decide +kernel)
set_option maxRecDepth 100000 in
theorem in_10 : zTwo (f_X5_clear 12000 S0 0) (fun S => f_X6_clear 12000 S 26) := zTwo_of (by decide +kernel)
set_option maxRecDepth 100000 in
theorem in_11 : zTwo (f_X5_read 12000 S0 0) (fun S => f_X6_read 12000 S 26) := zTwo_of (by decide +kernel)
set_option maxRecDepth 100000 in
theorem in_23 : zTwo (f_X5_even 12000 S0 0) (fun S => f_X6_even 12000 S 26) := zTwo_of (by decide +kernel)
set_option maxRecDepth 100000 in
theorem in_25 : zTwo (f_X5_drop 12000 S0 0) (fun S => f_X6_drop 12000 S 26) := zTwo_of (by decide +kernel)
set_option maxRecDepth 100000 in
theorem in_36 {x : Int} (h : 0 ≤ x ∧ x ≤ 1) : zTwo (f_X5_third 12000 S0 0 x) (fun S => f_X6_third 12000 S 26 x) := by
  have key : ∀ a : Nat, a < 2 → zChk (f_X5_third 12000 S0 0 (a : Int)) (fun S => f_X6_third 12000 S 26 (a : Int)) = true := by decide +kernel
  obtain ⟨a, rfl⟩ : ∃ a : Nat, x = (a : Int) := ⟨x.toNat, by omega⟩
  exact zTwo_of (key a (by omega))
set_option maxRecDepth 100000 in
theorem in_39 {x : Int} (h : 0 ≤ x ∧ x ≤ 1) : zTwoL (f_X5_part 12000 S0 0 x) (fun S => f_X6_part 12000 S 26 x) := by
  have key : ∀ a : Nat, a < 2 → zChkL (f_X5_part 12000 S0 0 (a : Int)) (fun S => f_X6_part 12000 S 26 (a : Int)) = true := by decide +kernel
  obtain ⟨a, rfl⟩ : ∃ a : Nat, x = (a : Int) := ⟨x.toNat, by omega⟩
  exact zTwoL_of (key a (by omega))
set_option maxRecDepth 100000 in
theorem in_40 {x : Int} (h : 0 ≤ x ∧ x ≤ 1) : zTwo (f_X5_image 12000 S0 0 x) (fun S => f_X6_image 12000 S 26 x) := by
  have key : ∀ a : Nat, a < 2 → zChk (f_X5_image 12000 S0 0 (a : Int)) (fun S => f_X6_image 12000 S 26 (a : Int)) = true := by decide +kernel
  obtain ⟨a, rfl⟩ : ∃ a : Nat, x = (a : Int) := ⟨x.toNat, by omega⟩
  exact zTwo_of (key a (by omega))
set_option maxRecDepth 100000 in
theorem in_41 {x : Int} (h : 0 ≤ x ∧ x ≤ 1) : zTwo (f_X5_from 12000 S0 0 x) (fun S => f_X6_from 12000 S 26 x) := by
  have key : ∀ a : Nat, a < 2 → zChk (f_X5_from 12000 S0 0 (a : Int)) (fun S => f_X6_from 12000 S 26 (a : Int)) = true := by decide +kernel
  obtain ⟨a, rfl⟩ : ∃ a : Nat, x = (a : Int) := ⟨x.toNat, by omega⟩
  exact zTwo_of (key a (by omega))
set_option maxRecDepth 100000 in
theorem in_42 {x : Int} (h : 0 ≤ x ∧ x ≤ 2) : zTwo (f_X5_status 12000 S0 0 x) (fun S => f_X6_status 12000 S 26 x) := by
  have key : ∀ a : Nat, a < 3 → zChk (f_X5_status 12000 S0 0 (a : Int)) (fun S => f_X6_status 12000 S 26 (a : Int)) = true := by decide +kernel
  obtain ⟨a, rfl⟩ : ∃ a : Nat, x = (a : Int) := ⟨x.toNat, by omega⟩
  exact zTwo_of (key a (by omega))
set_option maxRecDepth 100000 in
theorem in_43 {x : Int} (h : 0 ≤ x ∧ x ≤ 7) : zTwo (f_X5_count 12000 S0 0 x) (fun S => f_X6_count 12000 S 26 x) := by
  have key : ∀ a : Nat, a < 8 → zChk (f_X5_count 12000 S0 0 (a : Int)) (fun S => f_X6_count 12000 S 26 (a : Int)) = true := by decide +kernel
  obtain ⟨a, rfl⟩ : ∃ a : Nat, x = (a : Int) := ⟨x.toNat, by omega⟩
  exact zTwo_of (key a (by omega))
set_option maxRecDepth 100000 in
theorem in_44 : zTwoL (f_X5_digest 12000 S0 0) (fun S => f_X6_digest 12000 S 26) := zTwoL_of (by decide +kernel)
