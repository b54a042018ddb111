theorem zex {c : Prop} [Decidable c] {a b : Option (Int × xS)} (h1 : c → ∃ S', a = some (1, S')) (h2 : ¬ c → ∃ S', b = some (1, S')) : ∃ S', (if c then a else b) = some (1, S') := by
  by_cases h : c
  · rw [if_pos h]
    exact h1 h
  · rw [if_neg h]
    exact h2 h
theorem zexn {α : Type} {a : α} {f : α → Option (Int × xS)} (h : ∀ v, ∃ S', f v = some (1, S')) : ∃ S', nmx a f = some (1, S') := h a
set_option maxRecDepth 100000 in
set_option maxHeartbeats 4000000 in
theorem z_one {a b c : Int} (hb : -2147483648 ≤ b ∧ b < 2147483648) (hc : -2147483648 ≤ c ∧ c < 2147483648) : ∃ S', b_law_1 [a, b, c] (g_law [a, b, c] 12000) 12000 S0 0 26 0 = some (1, S') := by
  unfold b_law_1
  rw [if_neg (show ¬ wI ((([a, b, c] : List Int).length : Int) - 3) < wI 0 from (show ¬ wI ((3 : Int) - 3) < wI 0 by decide)), bind_some' (show rdX [a, b, c] 0 = some a from rfl)]
  refine zexn (fun x12 => ?_)
  refine zex (fun _ => z_g1 (F5 := fun x => f_X5_boxes 12000 S0 0 x) (F6 := fun S x => f_X6_boxes 12000 S 26 x) (op_0 hb)) (fun _ => ?_)
  refine zex (fun _ => z_g2 (F5 := fun x y => f_X5_put 12000 S0 0 x y) (F6 := fun S x y => f_X6_put 12000 S 26 x y) (op_1 hb hc)) (fun _ => ?_)
  refine zex (fun _ => z_g2 (F5 := fun x y => f_X5_rule 12000 S0 0 x y) (F6 := fun S x y => f_X6_rule 12000 S 26 x y) (op_2 hb hc)) (fun _ => ?_)
  refine zex (fun _ => z_g2 (F5 := fun x y => f_X5_swap 12000 S0 0 x y) (F6 := fun S x y => f_X6_swap 12000 S 26 x y) (op_3 hb hc)) (fun _ => ?_)
  refine zex (fun _ => z_g1 (F5 := fun x => f_X5_lay 12000 S0 0 x) (F6 := fun S x => f_X6_lay 12000 S 26 x) (op_4 hb)) (fun _ => ?_)
  refine zex (fun _ => z_g0 (F6 := fun S => f_X6_undo 12000 S 26) in_5) (fun _ => ?_)
  refine zex (fun _ => z_g2 (F5 := fun x y => f_X5_know 12000 S0 0 x y) (F6 := fun S x y => f_X6_know 12000 S 26 x y) (op_6 hb hc)) (fun _ => ?_)
  refine zex (fun _ => z_g2 (F5 := fun x y => f_X5_report 12000 S0 0 x y) (F6 := fun S x y => f_X6_report 12000 S 26 x y) (op_7 hb hc)) (fun _ => ?_)
  refine zex (fun _ => z_g1 (F5 := fun x => f_X5_forget 12000 S0 0 x) (F6 := fun S x => f_X6_forget 12000 S 26 x) (op_8 hb)) (fun _ => ?_)
  refine zex (fun _ => z_g1 (F5 := fun x => f_X5_type 12000 S0 0 x) (F6 := fun S x => f_X6_type 12000 S 26 x) (op_9 hb)) (fun _ => ?_)
  refine zex (fun _ => z_g0 (F6 := fun S => f_X6_clear 12000 S 26) in_10) (fun _ => ?_)
  refine zex (fun _ => z_g0 (F6 := fun S => f_X6_read 12000 S 26) in_11) (fun _ => ?_)
  refine zex (fun _ => z_g1 (F5 := fun x => f_X5_slip 12000 S0 0 x) (F6 := fun S x => f_X6_slip 12000 S 26 x) (op_12 hb)) (fun _ => ?_)
  refine zex (fun _ => z_g0 (F6 := fun S => f_X6_rank 12000 S 26) in_13) (fun _ => ?_)
  refine zex (fun _ => z_g1 (F5 := fun x => f_X5_rings 12000 S0 0 x) (F6 := fun S x => f_X6_rings 12000 S 26 x) (op_14 hb)) (fun _ => ?_)
  refine zex (fun _ => z_g2 (F5 := fun x y => f_X5_opened 12000 S0 0 x y) (F6 := fun S x y => f_X6_opened 12000 S 26 x y) (op_15 hb hc)) (fun _ => ?_)
  refine zex (fun _ => z_g0 (F6 := fun S => f_X6_finds 12000 S 26) in_16) (fun _ => ?_)
  refine zex (fun _ => z_g1 (F5 := fun x => f_X5_worked 12000 S0 0 x) (F6 := fun S x => f_X6_worked 12000 S 26 x) (op_17 hb)) (fun _ => ?_)
  refine zex (fun _ => z_g0 (F6 := fun S => f_X6_back 12000 S 26) in_18) (fun _ => ?_)
  refine zex (fun _ => z_g0 (F6 := fun S => f_X6_undoes 12000 S 26) in_19) (fun _ => ?_)
  refine zex (fun _ => z_g0 (F6 := fun S => f_X6_goesWith 12000 S 26) in_20) (fun _ => ?_)
  refine zex (fun _ => z_g1 (F5 := fun x => f_X5_roots 12000 S0 0 x) (F6 := fun S x => f_X6_roots 12000 S 26 x) (op_21 hb)) (fun _ => ?_)
  refine zex (fun _ => z_g1 (F5 := fun x => f_X5_alike 12000 S0 0 x) (F6 := fun S x => f_X6_alike 12000 S 26 x) (op_22 hb)) (fun _ => ?_)
  refine zex (fun _ => z_g0 (F6 := fun S => f_X6_even 12000 S 26) in_23) (fun _ => ?_)
  refine zex (fun _ => z_g1 (F5 := fun x => f_X5_move 12000 S0 0 x) (F6 := fun S x => f_X6_move 12000 S 26 x) (op_24 hb)) (fun _ => ?_)
  refine zex (fun _ => z_g0 (F6 := fun S => f_X6_drop 12000 S 26) in_25) (fun _ => ?_)
  refine zex (fun _ => z_g1 (F5 := fun x => f_X5_make 12000 S0 0 x) (F6 := fun S x => f_X6_make 12000 S 26 x) (op_26 hb)) (fun _ => ?_)
  refine zex (fun _ => z_g0 (F6 := fun S => f_X6_group 12000 S 26) in_27) (fun _ => ?_)
  refine zex (fun _ => z_g2 (F5 := fun x y => f_X5_fewest 12000 S0 0 x y) (F6 := fun S x y => f_X6_fewest 12000 S 26 x y) (op_28 hb hc)) (fun _ => ?_)
  refine zex (fun _ => z_g1 (F5 := fun x => f_X5_till 12000 S0 0 x) (F6 := fun S x => f_X6_till 12000 S 26 x) (op_29 hb)) (fun _ => ?_)
  refine zex (fun _ => z_g1 (F5 := fun x => f_X5_mayBe 12000 S0 0 x) (F6 := fun S x => f_X6_mayBe 12000 S 26 x) (op_30 hb)) (fun _ => ?_)
  refine zex (fun _ => z_g1 (F5 := fun x => f_X5_chance 12000 S0 0 x) (F6 := fun S x => f_X6_chance 12000 S 26 x) (op_31 hb)) (fun _ => ?_)
  refine zex (fun _ => z_g0 (F6 := fun S => f_X6_look 12000 S 26) in_32) (fun _ => ?_)
  refine zex (fun _ => z_g0 (F6 := fun S => f_X6_advice 12000 S 26) in_33) (fun _ => ?_)
  refine zex (fun _ => z_g1 (F5 := fun x => f_X5_worst 12000 S0 0 x) (F6 := fun S x => f_X6_worst 12000 S 26 x) (op_34 hb)) (fun _ => ?_)
  refine zex (fun _ => z_g0 (F6 := fun S => f_X6_mended 12000 S 26) in_35) (fun _ => ?_)
  refine zex (fun _ => z_g1 (F5 := fun x => f_X5_third 12000 S0 0 x) (F6 := fun S x => f_X6_third 12000 S 26 x) (op_36 hb)) (fun _ => ?_)
  refine zex (fun _ => z_g1 (F5 := fun x => f_X5_laid 12000 S0 0 x) (F6 := fun S x => f_X6_laid 12000 S 26 x) (op_37 hb)) (fun _ => ?_)
  refine zex (fun _ => z_g2 (F5 := fun x y => f_X5_lucky 12000 S0 0 x y) (F6 := fun S x y => f_X6_lucky 12000 S 26 x y) (op_38 hb hc)) (fun _ => ?_)
  refine zex (fun _ => z_g1L (F5 := fun x => f_X5_part 12000 S0 0 x) (F6 := fun S x => f_X6_part 12000 S 26 x) (op_39 hb)) (fun _ => ?_)
  refine zex (fun _ => z_g1 (F5 := fun x => f_X5_image 12000 S0 0 x) (F6 := fun S x => f_X6_image 12000 S 26 x) (op_40 hb)) (fun _ => ?_)
  refine zex (fun _ => z_g1 (F5 := fun x => f_X5_from 12000 S0 0 x) (F6 := fun S x => f_X6_from 12000 S 26 x) (op_41 hb)) (fun _ => ?_)
  refine zex (fun _ => z_g1 (F5 := fun x => f_X5_status 12000 S0 0 x) (F6 := fun S x => f_X6_status 12000 S 26 x) (op_42 hb)) (fun _ => ?_)
  refine zex (fun _ => z_g1 (F5 := fun x => f_X5_count 12000 S0 0 x) (F6 := fun S x => f_X6_count 12000 S 26 x) (op_43 hb)) (fun _ => ?_)
  refine zex (fun _ => z_g0L (F6 := fun S => f_X6_digest 12000 S 26) in_44) (fun _ => ?_)
  exact ⟨S0, z_end a b c S0⟩
theorem law_pure (X : List Int) (hl : X.length ≤ 3) (hX : ∀ x ∈ X, -2 ^ 31 ≤ x ∧ x < 2 ^ 31) : ∃ K S', f_law K X = some (1, S') := by
  suffices h : ∃ S', g_law X 12001 1 S0 0 26 0 = some (1, S') by
    obtain ⟨S', h⟩ := h
    exact ⟨12002, S', (z_start X).trans h⟩
  by_cases h3 : X.length < 3
  · refine ⟨S0, ?_⟩
    show b_law_1 X (g_law X 12000) 12000 S0 0 26 0 = _
    unfold b_law_1
    exact if_pos (by rw [wI_id (by omega) (by omega), show wI 0 = 0 from by decide]; omega)
  · obtain ⟨a, b, c, rfl⟩ : ∃ a b c, X = [a, b, c] := by
      match X, hl, h3 with
      | [a, b, c], _, _ => exact ⟨a, b, c, rfl⟩
      | [], _, h => simp at h
      | [_], _, h => simp at h
      | [_, _], _, h => simp at h
      | _ :: _ :: _ :: _ :: _, h, _ => simp at h
    have hb := hX b (by simp)
    have hc := hX c (by simp)
    exact z_one (a := a) (b := b) (c := c) ⟨by omega, by omega⟩ ⟨by omega, by omega⟩
