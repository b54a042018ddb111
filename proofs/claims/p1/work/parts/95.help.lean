/-! what each call does on the fresh store, outside its range -/
theorem z_lt {a b : Int} : wI (xLcmp a b) < 0 ↔ wL a < wL b := by unfold xLcmp; rw [← iI_neg, iI_of, lg_cmp_lt, lI_lt]
theorem z_gt {a b : Int} : 0 < wI (xLcmp a b) ↔ wL b < wL a := by unfold xLcmp; rw [← iI_pos, iI_of, lg_cmp_gt, lI_lt]
theorem z_in0 (fu : Nat) (S : xS) {i lo hi : Int} (hi1 : -2147483648 ≤ i ∧ i < 2147483648) (hl : -2147483648 ≤ lo ∧ lo < 2147483648) (hh : -2147483648 ≤ hi ∧ hi < 2147483648) (h : i < lo ∨ hi < i) : f_X6_in (fu + 2) S (wI i) lo hi = some (0, S) := by
  rw [wI_id hi1.1 hi1.2]
  show b_X6_in_0 (g_X6_in (fu + 1)) (fu + 1) S i lo hi = _
  unfold b_X6_in_0
  by_cases h1 : i < lo
  · rw [if_pos (z_lt.mpr (by rw [wL_id (by omega) (by omega), wL_id (by omega) (by omega)]; exact h1))]
    rfl
  · rw [if_neg (fun q => h1 (by have := z_lt.mp q; rw [wL_id (by omega) (by omega), wL_id (by omega) (by omega)] at this; exact this)), if_pos (z_gt.mpr (by rw [wL_id (by omega) (by omega), wL_id (by omega) (by omega)]; omega))]
    rfl
theorem z_in1 (fu : Nat) (S : xS) {i lo hi : Int} (hi1 : -2147483648 ≤ i ∧ i < 2147483648) (hl : -2147483648 ≤ lo ∧ lo < 2147483648) (hh : -2147483648 ≤ hi ∧ hi < 2147483648) (h : lo ≤ i ∧ i ≤ hi) : f_X6_in (fu + 2) S (wI i) lo hi = some (1, S) := by
  rw [wI_id hi1.1 hi1.2]
  show b_X6_in_0 (g_X6_in (fu + 1)) (fu + 1) S i lo hi = _
  unfold b_X6_in_0
  rw [if_neg (fun q => by have := z_lt.mp q; rw [wL_id (by omega) (by omega), wL_id (by omega) (by omega)] at this; omega), if_neg (fun q => by have := z_gt.mp q; rw [wL_id (by omega) (by omega), wL_id (by omega) (by omega)] at this; omega)]
theorem z_opt {o : Option (Int × xS)} {r : Int} (h : o.map Prod.fst = some r) : o = some (r, (o.getD (0, [])).2) := by
  cases o with
  | none => cases h
  | some z =>
    cases z
    cases h
    rfl
noncomputable def Sb : xS := ((f_X5_refuseBad 0 S0 0).getD (0, [])).2
theorem z_rb (fu : Nat) : f_X5_refuseBad fu S0 0 = some (-2, Sb) := by
  show f_X5_refuseBad 0 S0 0 = _
  exact z_opt (by decide +kernel)
set_option maxRecDepth 100000 in
theorem z_rq (fu : Nat) : f_X5_refuseQuestion fu S0 0 = some (-10, Sb) := by
  show f_X5_refuseQuestion 0 S0 0 = _
  exact zeO_s (by decide +kernel)
theorem z_o5 : isO 5 Sb 26 = true := by decide +kernel
set_option maxRecDepth 100000 in
theorem z_mn (fu : Nat) : f_X6_n fu Sb 26 = some (5, Sb) := by
  show f_X6_n 0 Sb 26 = _
  exact zeO_s (by decide +kernel)
set_option maxRecDepth 100000 in
theorem z_mw : f_X6_ways 12000 Sb 26 = some (120, Sb) := zeO_s (by decide +kernel)
set_option maxRecDepth 100000 in
theorem z_mw1 : f_X6_ways 11999 Sb 26 = some (120, Sb) := zeO_s (by decide +kernel)
theorem z_mb {k : Int} (hk : k = -2 ∨ k = -10 ∨ k = -1) : ∃ S2, ∀ fu : Nat, f_X6_bad fu Sb 26 k = some (k, S2) := by
  rcases hk with rfl | rfl | rfl
  · exact ⟨_, fun _ => (z_opt (o := f_X6_bad 0 Sb 26 (-2)) (by decide +kernel) : _)⟩
  · exact ⟨_, fun _ => (z_opt (o := f_X6_bad 0 Sb 26 (-10)) (by decide +kernel) : _)⟩
  · exact ⟨_, fun _ => (z_opt (o := f_X6_bad 0 Sb 26 (-1)) (by decide +kernel) : _)⟩
/-- the class' refusing blocks -/
theorem z_rbk (fu : Nat) : (if isO 4 S0 0 = true then bd2 (f_X5_refuseBad fu S0 0) fun x S => some (x, S) else none) = some (-2, Sb) := by rw [if_pos z_o4, bd2_some (z_rb fu)]
theorem z_rqk (fu : Nat) : (if isO 4 S0 0 = true then bd2 (f_X5_refuseQuestion fu S0 0) fun x S => some (x, S) else none) = some (-10, Sb) := by rw [if_pos z_o4, bd2_some (z_rq fu)]
/-- the reference's -/
theorem z_mbk {k : Int} (hk : k = -2 ∨ k = -10 ∨ k = -1) (fu : Nat) : ∃ S2, (if isO 5 Sb 26 = true then bd2 (f_X6_bad fu Sb 26 k) fun x S => some (x, S) else none) = some (k, S2) := by
  obtain ⟨S2, h⟩ := z_mb hk
  exact ⟨S2, by rw [if_pos z_o5, bd2_some (h fu)]⟩
theorem z_gd {α : Type} {P Q : Prop} [Decidable P] [Decidable Q] {A B : α} (h : P ∨ ¬ Q) : (if P then A else (if Q then B else A)) = A := by
  by_cases hp : P
  · rw [if_pos hp]
  · rw [if_neg hp, if_neg (h.resolve_left hp)]
theorem z_gd2 {α : Type} {P Q : Prop} [Decidable P] [Decidable Q] {A B C : α} (h1 : ¬ P) (h2 : ¬ Q) : (if P then B else (if Q then C else A)) = A := by rw [if_neg h1, if_neg h2]
theorem z_cb {o : Option (Int × xS)} (h : o = some (1, S0)) {R A : Int → xS → Option (Int × xS)} : (if isO 4 S0 0 = true then bd2 o (fun x S => if wI x = 0 then R x S else A x S) else none) = A 1 S0 := by rw [if_pos z_o4, bd2_some h, if_neg (by decide)]
theorem z_cb0 {o : Option (Int × xS)} (h : o = some (0, S0)) {R A : Int → xS → Option (Int × xS)} : (if isO 4 S0 0 = true then bd2 o (fun x S => if wI x = 0 then R x S else A x S) else none) = R 0 S0 := by rw [if_pos z_o4, bd2_some h, if_pos (by decide)]
theorem z_mB {o : Option (Int × xS)} (h : o = some (0, Sb)) {R A : Int → xS → Option (Int × xS)} : (if isO 5 Sb 26 = true then bd2 o (fun x S => if wI x = 0 then A x S else R x S) else none) = A 0 Sb := by rw [if_pos z_o5, bd2_some h, if_pos (by decide)]
theorem z_mB1 {o : Option (Int × xS)} (h : o = some (1, Sb)) {R A : Int → xS → Option (Int × xS)} : (if isO 5 Sb 26 = true then bd2 o (fun x S => if wI x = 0 then A x S else R x S) else none) = R 1 Sb := by rw [if_pos z_o5, bd2_some h, if_neg (by decide)]
theorem z_m1 {o : Option (Int × xS)} (h : o = some (0, Sb)) {R A : Int → xS → Option (Int × xS)} : bd2 o (fun x S => if wI x = 0 then A x S else R x S) = A 0 Sb := by rw [bd2_some h, if_pos (by decide)]
theorem z_m11 {o : Option (Int × xS)} (h : o = some (1, Sb)) {R A : Int → xS → Option (Int × xS)} : bd2 o (fun x S => if wI x = 0 then A x S else R x S) = R 1 Sb := by rw [bd2_some h, if_neg (by decide)]
/-- a box or not, a rank or not: the class -/
theorem z_nb1 {x : Int} (hx : -2147483648 ≤ x ∧ x < 2147483648) (fu : Nat) (h : x < 0 ∨ 5 ≤ x) : f_X5_isNoBox (fu + 2) S0 0 x = some (1, S0) := by
  show (if wI x < 0 then g_X5_isNoBox (fu + 1) 1 S0 0 0 else (if wI x < wI 5 then some (0, S0) else g_X5_isNoBox (fu + 1) 1 S0 0 0)) = _
  rw [wI_id hx.1 hx.2, show wI 5 = 5 from by decide]
  rw [z_gd (by omega)]
  rfl
theorem z_nb0 {x : Int} (hx : -2147483648 ≤ x ∧ x < 2147483648) (fu : Nat) (h : 0 ≤ x ∧ x < 5) : f_X5_isNoBox (fu + 2) S0 0 x = some (0, S0) := by
  show (if wI x < 0 then g_X5_isNoBox (fu + 1) 1 S0 0 0 else (if wI x < wI 5 then some (0, S0) else g_X5_isNoBox (fu + 1) 1 S0 0 0)) = _
  rw [wI_id hx.1 hx.2, show wI 5 = 5 from by decide]
  rw [if_neg (by omega), if_pos (by omega)]
theorem z_nr1 {x : Int} (hx : -2147483648 ≤ x ∧ x < 2147483648) (fu : Nat) (h : x < 0 ∨ 120 ≤ x) : f_X5_isNoRank (fu + 2) S0 0 x = some (1, S0) := by
  show (if wI x < 0 then g_X5_isNoRank (fu + 1) 1 S0 0 0 else (if wI x < wI 120 then some (0, S0) else g_X5_isNoRank (fu + 1) 1 S0 0 0)) = _
  rw [wI_id hx.1 hx.2, show wI 120 = 120 from by decide]
  rw [z_gd (by omega)]
  rfl
theorem z_nr0 {x : Int} (hx : -2147483648 ≤ x ∧ x < 2147483648) (fu : Nat) (h : 0 ≤ x ∧ x < 120) : f_X5_isNoRank (fu + 2) S0 0 x = some (0, S0) := by
  show (if wI x < 0 then g_X5_isNoRank (fu + 1) 1 S0 0 0 else (if wI x < wI 120 then some (0, S0) else g_X5_isNoRank (fu + 1) 1 S0 0 0)) = _
  rw [wI_id hx.1 hx.2, show wI 120 = 120 from by decide]
  rw [if_neg (by omega), if_pos (by omega)]
/-- the reference -/
theorem z_ib0 {x : Int} (hx : -2147483648 ≤ x ∧ x < 2147483648) (fu : Nat) (h : x < 0 ∨ 5 ≤ x) : f_X6_isBox (fu + 2) Sb 26 x = some (0, Sb) := by
  unfold f_X6_isBox
  rw [if_pos z_o5, bd2_some (z_mn _), show wI ((5 : Int) - 1) = 4 from by decide, bd2_some (z_in0 fu Sb hx (by omega) (by omega) (by omega)), if_pos (Or.inl rfl)]
theorem z_ib1 {x : Int} (hx : -2147483648 ≤ x ∧ x < 2147483648) (fu : Nat) (h : 0 ≤ x ∧ x < 5) : f_X6_isBox (fu + 2) Sb 26 x = some (1, Sb) := by
  unfold f_X6_isBox
  rw [if_pos z_o5, bd2_some (z_mn _), show wI ((5 : Int) - 1) = 4 from by decide, bd2_some (z_in1 fu Sb hx (by omega) (by omega) (by omega)), if_pos (Or.inr rfl)]
theorem z_ir0 {x : Int} (hx : -2147483648 ≤ x ∧ x < 2147483648) (h : x < 0 ∨ 120 ≤ x) : f_X6_isRank 12000 Sb 26 x = some (0, Sb) := by
  unfold f_X6_isRank
  rw [if_pos z_o5, bd2_some z_mw, show wI ((120 : Int) - 1) = 119 from by decide, bd2_some (z_in0 11998 Sb hx (by omega) (by omega) (by omega)), if_pos (Or.inl rfl)]
theorem z_ir0' {x : Int} (hx : -2147483648 ≤ x ∧ x < 2147483648) (h : x < 0 ∨ 120 ≤ x) : f_X6_isRank 11999 Sb 26 x = some (0, Sb) := by
  unfold f_X6_isRank
  rw [if_pos z_o5, bd2_some z_mw1, show wI ((120 : Int) - 1) = 119 from by decide, bd2_some (z_in0 11997 Sb hx (by omega) (by omega) (by omega)), if_pos (Or.inl rfl)]
theorem z_ir1' {x : Int} (hx : -2147483648 ≤ x ∧ x < 2147483648) (h : 0 ≤ x ∧ x < 120) : f_X6_isRank 11999 Sb 26 x = some (1, Sb) := by
  unfold f_X6_isRank
  rw [if_pos z_o5, bd2_some z_mw1, show wI ((120 : Int) - 1) = 119 from by decide, bd2_some (z_in1 11997 Sb hx (by omega) (by omega) (by omega)), if_pos (Or.inr rfl)]
theorem z_out {o5 : Option (Int × xS)} {f6 : xS → Option (Int × xS)} {k : Int} (h1 : o5 = some (k, Sb)) (h2 : ∃ S2, f6 Sb = some (k, S2)) : zTwo o5 f6 := by
  obtain ⟨S2, h2⟩ := h2
  exact ⟨k, Sb, k, S2, h1, z_o5, h2, rfl⟩
theorem z_all (lo : Int) (n : Nat) {P : Int → Prop} (h : ∀ k : Nat, k < n → P (lo + (k : Int))) (x : Int) (hx : lo ≤ x ∧ x < lo + n) : P x := by
  have := h (x - lo).toNat (by omega)
  rwa [show lo + (((x - lo).toNat : Nat) : Int) = x by omega] at this
