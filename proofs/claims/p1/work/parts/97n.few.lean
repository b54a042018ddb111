/-! fewest and till on the fresh store -/
theorem z_m1' {a : Int} (ha : -2147483648 ≤ a ∧ a < 2147483648) (h : -1 ≤ a) : wI (-1) ≤ wI a := by
  rw [wI_id ha.1 ha.2, show wI (-1) = -1 from by decide]
  exact h
theorem z_mv1 {k : Nat} {S : xS} {x y : Int} (h1 : rdFp 0 2 S 45 = some 47) (h2 : rdA 0 S 47 x = some (-1)) : f_X0_moveTo (k + 1) S 45 x y = some (-1, S) := by
  show b_X0_moveTo_0 (g_X0_moveTo k) k S 45 x y 0 0 = _
  unfold b_X0_moveTo_0
  rw [bind_some' h1, bind_some' h2, if_pos (by decide)]
theorem z_mv0 {k : Nat} {S : xS} {y : Int} (hy : -2147483648 ≤ y ∧ y < 2147483648) (h : 0 ≤ y) (h1 : rdFp 0 2 S 45 = some 47) (h2 : rdA 0 S 47 0 = some (-2)) : f_X0_moveTo (k + 3) S 45 0 y = some (-5, S) := by
  show b_X0_moveTo_0 (g_X0_moveTo (k + 2)) (k + 2) S 45 0 y 0 0 = _
  unfold b_X0_moveTo_0
  rw [bind_some' h1, bind_some' h2, if_neg (by decide)]
  show b_X0_moveTo_1 (g_X0_moveTo (k + 1)) (k + 1) S 45 0 y 0 0 = _
  unfold b_X0_moveTo_1
  rw [bind_some' h1, bind_some' h2, if_pos (by decide)]
  show b_X0_moveTo_2 (g_X0_moveTo k) k S 45 0 y 0 0 = _
  unfold b_X0_moveTo_2
  rw [wI_id hy.1 hy.2, show wI (-1) = -1 from by decide, show wI 0 = 0 from by decide, if_neg (by omega), if_neg (by omega)]
theorem z_ft1 {k : Nat} {S Sf : xS} {x y : Int} (h5 : isO 5 S 26 = true) (hf : f_X6_findFar (k + 5) S 26 = some (0, Sf)) (h6 : isO 5 Sf 26 = true) (h17 : rdFi 5 17 Sf 26 = some 1) (h15 : rdFp 5 15 Sf 26 = some 36) (h36 : rdA 0 Sf 36 0 = some 0) (hx : 1 ≤ x ∧ x < 2147483648) : f_X6_fewestTo (k + 6) S 26 x y = some (-1, Sf) := by
  show b_X6_fewestTo_0 (g_X6_fewestTo (k + 5)) (k + 5) S 26 0 x y 0 0 0 0 0 0 = _
  unfold b_X6_fewestTo_0
  rw [if_pos h5, bd2_some hf]
  show b_X6_fewestTo_1 (g_X6_fewestTo (k + 4)) (k + 4) Sf 26 0 x y 0 0 0 0 0 0 = _
  unfold b_X6_fewestTo_1
  have hs : f_X6_isSought (k + 4) Sf 26 0 x = some (0, Sf) := by
    unfold f_X6_isSought
    rw [wI_id (by omega) hx.2, show wI (-1) = -1 from by decide, show wI 0 = 0 from by decide, if_neg (by omega), if_neg (by omega)]
  rw [bind_some' h17, if_neg (by decide), bind_some' h15, bind_some' h36, if_pos h6, bd2_some hs, if_pos (by decide)]
  show b_X6_fewestTo_1 (g_X6_fewestTo (k + 3)) (k + 3) Sf 26 0 x y (0 + 1) 0 0 0 0 0 = _
  unfold b_X6_fewestTo_1
  rw [bind_some' h17, if_pos (by decide)]
  show b_X6_fewestTo_2 (g_X6_fewestTo (k + 2)) (k + 2) Sf 26 0 x y (0 + 1) 0 0 0 0 0 = _
  unfold b_X6_fewestTo_2
  rw [bind_some' h17, if_pos (by decide)]
  show b_X6_fewestTo_3 (g_X6_fewestTo (k + 1)) (k + 1) Sf 26 0 (0 + 1) 0 0 0 0 0 0 0 = _
  unfold b_X6_fewestTo_3
  rw [bind_some' h17, if_pos (by decide)]
theorem z_ft0 {k : Nat} {S Sf Sg : xS} {x y : Int} (hy : -2147483648 ≤ y ∧ y < 2147483648) (h : 0 ≤ y) (h5 : isO 5 S 26 = true) (hf : f_X6_findFar (k + 3) S 26 = some (0, Sf)) (h6 : isO 5 Sf 26 = true) (h17 : rdFi 5 17 Sf 26 = some 1) (h15 : rdFp 5 15 Sf 26 = some 36) (h36 : rdA 0 Sf 36 0 = some 0) (hs : f_X6_isSought (k + 2) Sf 26 0 x = some (1, Sg))
    (g17 : rdFi 5 17 Sg 26 = some 1) (g14 : rdFp 5 14 Sg 26 = some 35) (g15 : rdFp 5 15 Sg 26 = some 36) (g36 : rdA 0 Sg 36 0 = some 0) (g35 : rdA 0 Sg 35 0 = some 0) : f_X6_fewestTo (k + 4) S 26 x y = some (-5, Sg) := by
  show b_X6_fewestTo_0 (g_X6_fewestTo (k + 3)) (k + 3) S 26 0 x y 0 0 0 0 0 0 = _
  unfold b_X6_fewestTo_0
  rw [if_pos h5, bd2_some hf]
  show b_X6_fewestTo_1 (g_X6_fewestTo (k + 2)) (k + 2) Sf 26 0 x y 0 0 0 0 0 0 = _
  unfold b_X6_fewestTo_1
  rw [bind_some' h17, if_neg (by decide), bind_some' h15, bind_some' h36, if_pos h6, bd2_some hs, if_neg (by decide)]
  show b_X6_fewestTo_2 (g_X6_fewestTo (k + 1)) (k + 1) Sg 26 0 x y 0 0 0 0 0 0 = _
  unfold b_X6_fewestTo_2
  rw [bind_some' g17, if_neg (by decide), wI_id hy.1 hy.2, show wI (-1) = -1 from by decide, if_neg (by omega), bind_some' g14, bind_some' g15, bind_some' g36, bind_some' g35, show wI 0 = 0 from by decide, if_neg (by omega)]
noncomputable def zFf : xS := ((f_X6_findFar 11998 zSr 26).getD (0, [])).2
set_option maxRecDepth 100000 in
theorem z_ff : f_X6_findFar 11998 zSr 26 = some (0, zFf) := z_opt (by decide +kernel)
set_option maxRecDepth 100000 in
theorem z_wr : f_X6_ways 11999 zSr 26 = some (120, zSr) := zeO_s (by decide +kernel)
theorem z_irr {x : Int} (hx : 0 ≤ x ∧ x < 120) : f_X6_isRank 11999 zSr 26 x = some (1, zSr) := by
  unfold f_X6_isRank
  rw [if_pos z_r5, bd2_some z_wr, show wI ((120 : Int) - 1) = 119 from by decide, bd2_some (z_in1 11997 zSr (by omega) (by omega) (by omega) (by omega)), if_pos (Or.inr rfl)]
theorem z_f6 {x y r : Int} {S2 : xS} (hx : 0 ≤ x ∧ x < 120) (hy : -2147483648 ≤ y ∧ y < 2147483648) (h : -1 ≤ y) (hf : f_X6_fewestTo 11999 zSr 26 x y = some (r, S2)) : f_X6_fewest 12000 zSr 26 x y = some (r, S2) := by
  show b_X6_fewest_0 (g_X6_fewest 11999) 11999 zSr 26 x y = _
  unfold b_X6_fewest_0
  rw [if_pos z_r5, bd2_some (z_irr hx), if_neg (by decide), if_neg (by rw [wI_id hy.1 hy.2, show wI (-1) = -1 from by decide]; omega), if_pos z_r5, bd2_some hf]
theorem z_f5 {x y r : Int} {S1 : xS} (hx : 0 ≤ x ∧ x < 120) (hy : -2147483648 ≤ y ∧ y < 2147483648) (h : -1 ≤ y) (hf : f_X0_moveTo 11999 zSr 45 x y = some (r, S1)) : f_X5_fewest 12000 S0 0 x y = some (r, S1) := by
  show b_X5_fewest_0 (g_X5_fewest 11999) 11999 S0 0 x y = _
  unfold b_X5_fewest_0
  rw [z_cb0 (z_nr0 (by omega) 11997 hx), if_pos (z_m1' hy h), if_pos z_o4, bd2_some z_re1, if_pos (show isO 0 zSr 45 = true from by decide +kernel), bd2_some hf]
set_option maxRecDepth 100000 in
theorem in_28 {x y : Int} (hx : 0 ≤ x ∧ x < 120) (hy : -2147483648 ≤ y ∧ y < 2147483648) (h : -1 ≤ y) : zTwo (f_X5_fewest 12000 S0 0 x y) (fun S => f_X6_fewest 12000 S 26 x y) := by
  have h47 : rdFp 0 2 zSr 45 = some 47 := by decide +kernel
  have a6 : isO 5 zFf 26 = true := by decide +kernel
  have a17 : rdFi 5 17 zFf 26 = some 1 := by decide +kernel
  have a15 : rdFp 5 15 zFf 26 = some 36 := by decide +kernel
  have a14 : rdFp 5 14 zFf 26 = some 35 := by decide +kernel
  have a36 : rdA 0 zFf 36 0 = some 0 := by decide +kernel
  have a35 : rdA 0 zFf 35 0 = some 0 := by decide +kernel
  by_cases h0 : x = 0
  · subst h0
    have hs : f_X6_isSought 11997 zFf 26 0 0 = some (1, zFf) := by
      unfold f_X6_isSought
      rw [if_neg (by decide), if_pos rfl]
    by_cases h1 : y = -1
    · subst h1
      refine ⟨0, zSr, 0, _, z_f5 hx hy h ?_, z_r5, z_f6 hx hy h (z_opt (o := f_X6_fewestTo 11999 zSr 26 0 (-1)) (r := 0) (by decide +kernel)), rfl⟩
      exact zeO_s (by decide +kernel)
    · refine ⟨-5, zSr, -5, zFf, z_f5 hx hy h (z_mv0 (k := 11996) hy (by omega) h47 (by decide +kernel)), z_r5, z_f6 hx hy h ?_, rfl⟩
      exact z_ft0 (k := 11995) hy (by omega) z_r5 z_ff a6 a17 a15 a36 hs a17 a14 a15 a36 a35
  · have key : ∀ a : Nat, a < 119 → rdA 0 zSr 47 ((a : Int) + 1) = some (-1) := by decide +kernel
    have hr : rdA 0 zSr 47 x = some (-1) := by
      have := key (x - 1).toNat (by omega)
      rwa [show (((x - 1).toNat : Nat) : Int) + 1 = x by omega] at this
    exact ⟨-1, zSr, -1, zFf, z_f5 hx hy h (z_mv1 (k := 11998) h47 hr), z_r5, z_f6 hx hy h (z_ft1 (k := 11993) z_r5 z_ff a6 a17 a15 a36 (by omega)), rfl⟩
noncomputable def zTa : xS := ((f_X4_setToRank 11998 zSr 24 5 0).getD (0, [])).2
noncomputable def zTb : xS := ((f_X5_doAllFind 11998 zTa 0 24).getD (0, [])).2
theorem z_ta : f_X4_setToRank 11998 zSr 24 5 0 = some (0, zTa) := z_opt (by decide +kernel)
theorem z_tb : f_X5_doAllFind 11998 zTa 0 24 = some (1, zTb) := z_opt (by decide +kernel)
noncomputable def zFt : xS := ((f_X6_findFar 11999 zTb 26).getD (0, [])).2
noncomputable def zFu : xS := ((f_X6_isSought 11998 zFt 26 0 (-1)).getD (0, [])).2
set_option maxRecDepth 100000 in
theorem z_fft : f_X6_findFar 11999 zTb 26 = some (0, zFt) := z_opt (by decide +kernel)
set_option maxRecDepth 100000 in
theorem z_ffu : f_X6_isSought 11998 zFt 26 0 (-1) = some (1, zFu) := z_opt (by decide +kernel)
theorem z_t5 {y r : Int} {S1 : xS} (hy : -2147483648 ≤ y ∧ y < 2147483648) (h : -1 ≤ y) (hf : f_X0_moveTo 11998 zTb 45 0 y = some (r, S1)) : f_X5_till 12000 S0 0 y = some (r, S1) := by
  show b_X5_till_0 (g_X5_till 11999) 11999 S0 0 0 y 0 = _
  unfold b_X5_till_0
  rw [if_pos (z_m1' hy h), if_pos z_o4, bd2_some z_re1]
  show b_X5_till_1 (g_X5_till 11998) 11998 zSr 0 45 y 0 = _
  unfold b_X5_till_1
  rw [bind_some' (show rdFi 0 1 zSr 45 = some 1 from by decide +kernel), if_neg (by decide), bind_some' (show rdFp 0 0 zSr 45 = some 46 from by decide +kernel), bind_some' (show rdA 0 zSr 46 0 = some 0 from by decide +kernel), bind_some' (show rdFp 4 5 zSr 0 = some 24 from by decide +kernel), bind_some' (show rdFp 4 0 zSr 0 = some 1 from by decide +kernel), bind_some' (show rdFi 1 0 zSr 1 = some 5 from by decide +kernel), bd2_some z_ta, bind_some' (show rdFp 4 5 zTa 0 = some 24 from by decide +kernel), if_pos (show isO 4 zTa 0 = true from by decide +kernel), bd2_some z_tb, if_neg (by decide), if_pos (show isO 0 zTb 45 = true from by decide +kernel), bd2_some hf]
theorem z_t6 {y r : Int} {S2 : xS} (hy : -2147483648 ≤ y ∧ y < 2147483648) (h : -1 ≤ y) (hf : f_X6_fewestTo 12000 zTb 26 (-1) y = some (r, S2)) : f_X6_till 12000 zTb 26 y = some (r, S2) := by
  unfold f_X6_till
  rw [if_neg (by rw [wI_id hy.1 hy.2, show wI (-1) = -1 from by decide]; omega), if_pos (show isO 5 zTb 26 = true from by decide +kernel), bd2_some hf]
set_option maxRecDepth 100000 in
theorem in_29 {y : Int} (hy : -2147483648 ≤ y ∧ y < 2147483648) (h : -1 ≤ y) : zTwo (f_X5_till 12000 S0 0 y) (fun S => f_X6_till 12000 S 26 y) := by
  have h47 : rdFp 0 2 zTb 45 = some 47 := by decide +kernel
  have h5 : isO 5 zTb 26 = true := by decide +kernel
  by_cases h1 : y = -1
  · subst h1
    refine ⟨0, zTb, 0, _, z_t5 hy h ?_, h5, z_t6 hy h (z_opt (o := f_X6_fewestTo 12000 zTb 26 (-1) (-1)) (r := 0) (by decide +kernel)), rfl⟩
    exact zeO_s (by decide +kernel)
  · refine ⟨-5, zTb, -5, zFu, z_t5 hy h (z_mv0 (k := 11995) hy (by omega) h47 (by decide +kernel)), h5, z_t6 hy h ?_, rfl⟩
    exact z_ft0 (k := 11996) hy (by omega) h5 z_fft (by decide +kernel) (by decide +kernel) (by decide +kernel) (by decide +kernel) z_ffu (by decide +kernel) (by decide +kernel) (by decide +kernel) (by decide +kernel) (by decide +kernel)
