theorem yA_d0 : g_X5_tallyRules 11998 1 yA0 0 0 5 0 0 0 0 0 0 = g_X5_tallyRules 11698 1 yA1 0 0 5 20 20 0 0 0 0 := by
  have h := y_rows 20 11698 0 yA0 yA1 yA_c0 (by omega) (by omega) (by omega)
  rw [show 11698 + 15 * 20 = 11998 by omega, show (0 : Int) + ((20 : Nat) : Int) = 20 by omega] at h
  exact h
theorem yA_d1 : g_X5_tallyRules 11698 1 yA1 0 0 5 20 20 0 0 0 0 = g_X5_tallyRules 11398 1 yA2 0 0 5 40 40 0 0 0 0 := by
  have h := y_rows 20 11398 20 yA1 yA2 yA_c1 (by omega) (by omega) (by omega)
  rw [show 11398 + 15 * 20 = 11698 by omega, show (20 : Int) + ((20 : Nat) : Int) = 40 by omega] at h
  exact h
theorem yA_d2 : g_X5_tallyRules 11398 1 yA2 0 0 5 40 40 0 0 0 0 = g_X5_tallyRules 11098 1 yA3 0 0 5 60 60 0 0 0 0 := by
  have h := y_rows 20 11098 40 yA2 yA3 yA_c2 (by omega) (by omega) (by omega)
  rw [show 11098 + 15 * 20 = 11398 by omega, show (40 : Int) + ((20 : Nat) : Int) = 60 by omega] at h
  exact h
theorem yA_d3 : g_X5_tallyRules 11098 1 yA3 0 0 5 60 60 0 0 0 0 = g_X5_tallyRules 10798 1 yA4 0 0 5 80 80 0 0 0 0 := by
  have h := y_rows 20 10798 60 yA3 yA4 yA_c3 (by omega) (by omega) (by omega)
  rw [show 10798 + 15 * 20 = 11098 by omega, show (60 : Int) + ((20 : Nat) : Int) = 80 by omega] at h
  exact h
theorem yA_d4 : g_X5_tallyRules 10798 1 yA4 0 0 5 80 80 0 0 0 0 = g_X5_tallyRules 10498 1 yA5 0 0 5 100 100 0 0 0 0 := by
  have h := y_rows 20 10498 80 yA4 yA5 yA_c4 (by omega) (by omega) (by omega)
  rw [show 10498 + 15 * 20 = 10798 by omega, show (80 : Int) + ((20 : Nat) : Int) = 100 by omega] at h
  exact h
theorem yA_d5 : g_X5_tallyRules 10498 1 yA5 0 0 5 100 100 0 0 0 0 = g_X5_tallyRules 10198 1 yA6 0 0 5 120 120 0 0 0 0 := by
  have h := y_rows 20 10198 100 yA5 yA6 yA_c5 (by omega) (by omega) (by omega)
  rw [show 10198 + 15 * 20 = 10498 by omega, show (100 : Int) + ((20 : Nat) : Int) = 120 by omega] at h
  exact h
theorem yB_d0 : g_X6_advice 11992 2 yB0 26 0 0 0 = g_X6_advice 11952 2 yB1 26 20 20 0 := by
  have h := y_rfs 20 11952 0 yB0 yB1 yB_c0 (by omega) (by omega) (by omega)
  rw [show 11952 + 2 * 20 = 11992 by omega, show (0 : Int) + ((20 : Nat) : Int) = 20 by omega] at h
  exact h
theorem yB_d1 : g_X6_advice 11952 2 yB1 26 20 20 0 = g_X6_advice 11912 2 yB2 26 40 40 0 := by
  have h := y_rfs 20 11912 20 yB1 yB2 yB_c1 (by omega) (by omega) (by omega)
  rw [show 11912 + 2 * 20 = 11952 by omega, show (20 : Int) + ((20 : Nat) : Int) = 40 by omega] at h
  exact h
theorem yB_d2 : g_X6_advice 11912 2 yB2 26 40 40 0 = g_X6_advice 11872 2 yB3 26 60 60 0 := by
  have h := y_rfs 20 11872 40 yB2 yB3 yB_c2 (by omega) (by omega) (by omega)
  rw [show 11872 + 2 * 20 = 11912 by omega, show (40 : Int) + ((20 : Nat) : Int) = 60 by omega] at h
  exact h
theorem yB_d3 : g_X6_advice 11872 2 yB3 26 60 60 0 = g_X6_advice 11832 2 yB4 26 80 80 0 := by
  have h := y_rfs 20 11832 60 yB3 yB4 yB_c3 (by omega) (by omega) (by omega)
  rw [show 11832 + 2 * 20 = 11872 by omega, show (60 : Int) + ((20 : Nat) : Int) = 80 by omega] at h
  exact h
theorem yB_d4 : g_X6_advice 11832 2 yB4 26 80 80 0 = g_X6_advice 11792 2 yB5 26 100 100 0 := by
  have h := y_rfs 20 11792 80 yB4 yB5 yB_c4 (by omega) (by omega) (by omega)
  rw [show 11792 + 2 * 20 = 11832 by omega, show (80 : Int) + ((20 : Nat) : Int) = 100 by omega] at h
  exact h
theorem yB_d5 : g_X6_advice 11792 2 yB5 26 100 100 0 = g_X6_advice 11752 2 yB6 26 120 120 0 := by
  have h := y_rfs 20 11752 100 yB5 yB6 yB_c5 (by omega) (by omega) (by omega)
  rw [show 11752 + 2 * 20 = 11792 by omega, show (100 : Int) + ((20 : Nat) : Int) = 120 by omega] at h
  exact h
set_option maxRecDepth 100000 in
theorem yA_fill : f_J7_fill_53178 11998 S0a 25 0 = some (0, S0a) := zeO_s (by decide +kernel)
theorem yA_first : f_X4_setToFirst 11998 S0a 24 5 = some (0, yA0) := zeO_s (by decide +kernel)
theorem yA_tally : f_X5_tallyRules 11999 S0a 0 = some (120, yA6) := by
  show b_X5_tallyRules_0 (g_X5_tallyRules 11998) 11998 S0a 0 0 0 0 0 0 0 0 0 = _
  unfold b_X5_tallyRules_0
  rw [bind_some' (show rdFp 4 0 S0a 0 = some 1 from by decide +kernel), bind_some' (show rdFi 1 0 S0a 1 = some 5 from by decide +kernel), bind_some' (show rdFp 4 6 S0a 0 = some 25 from by decide +kernel), bd2_some yA_fill, bind_some' (show rdFp 4 5 S0a 0 = some 24 from by decide +kernel), bd2_some yA_first]
  rw [yA_d0]
  rw [yA_d1]
  rw [yA_d2]
  rw [yA_d3]
  rw [yA_d4]
  rw [yA_d5]
  show b_X5_tallyRules_1 (g_X5_tallyRules 10197) 10197 yA6 0 0 5 120 120 0 0 0 0 = _
  unfold b_X5_tallyRules_1
  rw [bind_some' (show rdT 5 = some 120 from by decide), if_pos (by decide)]
set_option maxRecDepth 100000 in
theorem yA_end : g_X5_advice 11999 1 yA6 0 120 0 1 = some (0, yA) := zeO_s (by decide +kernel)
theorem yA_ad : f_X5_advice 12000 S0a 0 = some (0, yA) := by
  show b_X5_advice_0 (g_X5_advice 11999) 11999 S0a 0 0 0 0 = _
  unfold b_X5_advice_0
  rw [if_pos (show isO 4 S0a 0 = true from by decide +kernel), bd2_some yA_tally, if_neg (by decide)]
  exact yA_end
set_option maxRecDepth 100000 in
theorem yB_take : f_X6_takeRules 11999 zR 26 = some (0, yB0) := zeO_s (by decide +kernel)
theorem yB_p : rdFp 5 19 yB0 26 = some 39 := by decide +kernel
set_option maxRecDepth 100000 in
theorem yB_w : ∀ i : Nat, i < 6 → zeS (wrA 0 yB0 39 (i : Int) 0) yB0 = true := by decide +kernel
theorem yB_1 : ∀ (n k : Nat) (i : Int), 0 ≤ i → i + n = 6 → g_X6_advice (k + n) 1 yB0 26 0 i 0 = g_X6_advice k 1 yB0 26 0 6 0
  | 0, k, i, h0, hi => by
    have e : i = 6 := by omega
    subst e
    rfl
  | n + 1, k, i, h0, hi => by
    refine Eq.trans ?_ (yB_1 n k (i + 1) (by omega) (by omega))
    show b_X6_advice_1 (g_X6_advice (k + n)) (k + n) yB0 26 0 i 0 = _
    unfold b_X6_advice_1
    have hw : wrA 0 yB0 39 i 0 = some yB0 := by
      have := zeS_s (yB_w i.toNat (by omega))
      rwa [show ((i.toNat : Nat) : Int) = i by omega] at this
    rw [if_neg (by rw [wIn (n := i) (by omega), show wI 5 = 5 from by decide]; omega), bind_some' yB_p, bind_some' hw, nmx_b]
set_option maxRecDepth 100000 in
theorem yB_end : g_X6_advice 11752 2 yB6 26 120 120 0 = some (0, ((g_X6_advice 11752 2 yB6 26 120 120 0).getD (0, [])).2) := z_opt (by decide +kernel)
theorem yB_ad : ∃ S', f_X6_advice 12000 zR 26 = some (0, S') := by
  refine ⟨((g_X6_advice 11752 2 yB6 26 120 120 0).getD (0, [])).2, ?_⟩
  · show b_X6_advice_0 (g_X6_advice 11999) 11999 zR 26 0 0 0 = _
    unfold b_X6_advice_0
    rw [if_pos zR_o5, bd2_some yB_take]
    have h1 := yB_1 6 11993 0 (by omega) (by omega)
    rw [show 11993 + 6 = 11999 by omega] at h1
    refine h1.trans ?_
    show b_X6_advice_1 (g_X6_advice 11992) 11992 yB0 26 0 6 0 = _
    unfold b_X6_advice_1
    rw [if_pos (by decide)]
    rw [yB_d0]
    rw [yB_d1]
    rw [yB_d2]
    rw [yB_d3]
    rw [yB_d4]
    rw [yB_d5]
    exact yB_end
theorem zR_yA : zmg zR (zmg yA S0) = zmg yA S0 := rfl
theorem yA_S0 : zmg S0a S0 = S0 := rfl
theorem in_33 : zTwo (f_X5_advice 12000 S0 0) (fun S => f_X6_advice 12000 S 26) := by
  have e5 := frf_X5_advice (X := S0) 12000 (by omega) S0a 0 0 yA yA_ad
  rw [yA_S0] at e5
  obtain ⟨S', e6⟩ := yB_ad
  have e6' := frf_X6_advice (X := zmg yA S0) 12000 (by omega) zR 26 0 S' e6
  rw [zR_yA] at e6'
  exact ⟨0, zmg yA S0, 0, _, e5, (show isO 5 (zmg yA S0) 26 = true from by decide +kernel), e6', rfl⟩
