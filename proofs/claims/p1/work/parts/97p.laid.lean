/-! laid: the seed shows in four numbers alone -/
def zX (x : Int) : Int := (wL ((x * 1103515245) + 12345)).tmod (wL 2147483648)
def zJ (x i : Int) : Int := (wL ((wL x).tdiv (wL 65536))).tmod (wL (wI (i + 1)))
theorem z_xb {x : Int} (h : 0 ≤ x ∧ x < 2147483648) : 0 ≤ zX x ∧ zX x < 2147483648 := by
  unfold zX
  rw [wL_id (by omega) (by omega), show wL 2147483648 = 2147483648 from by decide]
  exact ⟨Int.tmod_nonneg _ (by omega), Int.tmod_lt_of_pos _ (by omega)⟩
theorem z_jb {x i n : Int} (h : 0 ≤ x ∧ x < 2147483648) (hn : wL (wI (i + 1)) = n) (hp : 0 < n) : 0 ≤ zJ x i ∧ zJ x i < n := by
  unfold zJ
  have e : (wL x).tdiv (wL 65536) = x / 65536 := by rw [wL_id (by omega) (by omega), show wL 65536 = 65536 from by decide, Int.tdiv_eq_ediv_of_nonneg h.1]
  rw [e, hn, wL_id (by omega) (by omega)]
  exact ⟨Int.tmod_nonneg _ (by omega), Int.tmod_lt_of_pos _ hp⟩
theorem z_sbs {k : Nat} {S : xS} {p : Nat} {x i : Int} (hi : ¬ wI i < wI 1) (h2 : ¬ wL (wI (i + 1)) = 0) : g_X4_setBySeed (k + 1) 1 S p x i = bd2 (f_X4_exchange k S p i (zJ (zX x) i)) (fun _ S' => g_X4_setBySeed k 1 S' p (zX x) (i + (-1))) := by
  show b_X4_setBySeed_1 (g_X4_setBySeed k) k S p x i = _
  unfold b_X4_setBySeed_1
  rw [if_neg hi, if_neg (show ¬ wL 2147483648 = 0 by decide)]
  show (if wL 65536 = 0 then none else (if wL (wI (i + 1)) = 0 then none else bd2 (f_X4_exchange k S p i (zJ (zX x) i)) (fun _ S' => g_X4_setBySeed k 1 S' p (zX x) (i + (-1))))) = _
  rw [if_neg (show ¬ wL 65536 = 0 by decide), if_neg h2]
noncomputable def zE5 (S : xS) (p : Nat) (a b c d : Int) : Option (Int × xS) := bd2 (f_X4_exchange 0 S p 4 a) fun _ S => bd2 (f_X4_exchange 0 S p 3 b) fun _ S => bd2 (f_X4_exchange 0 S p 2 c) fun _ S => bd2 (f_X4_exchange 0 S p 1 d) fun _ S => some (0, S)
theorem z_sb5 (k : Nat) (S : xS) (p : Nat) (x : Int) : g_X4_setBySeed (k + 5) 1 S p x 4 = zE5 S p (zJ (zX x) 4) (zJ (zX (zX x)) 3) (zJ (zX (zX (zX x))) 2) (zJ (zX (zX (zX (zX x)))) 1) := by
  rw [z_sbs (by decide) (by decide)]
  unfold zE5
  refine congrArg (bd2 _) (funext fun _ => funext fun S => ?_)
  show g_X4_setBySeed (k + 4) 1 S p (zX x) 3 = _
  rw [z_sbs (by decide) (by decide)]
  refine congrArg (bd2 _) (funext fun _ => funext fun S => ?_)
  show g_X4_setBySeed (k + 3) 1 S p (zX (zX x)) 2 = _
  rw [z_sbs (by decide) (by decide)]
  refine congrArg (bd2 _) (funext fun _ => funext fun S => ?_)
  show g_X4_setBySeed (k + 2) 1 S p (zX (zX (zX x))) 1 = _
  rw [z_sbs (by decide) (by decide)]
  refine congrArg (bd2 _) (funext fun _ => funext fun S => ?_)
  show b_X4_setBySeed_1 (g_X4_setBySeed k) k S p (zX (zX (zX (zX x)))) 0 = _
  unfold b_X4_setBySeed_1
  rw [if_pos (by decide)]
theorem z_lhs {k : Nat} {S : xS} {x i : Int} (hi : ¬ wI i ≤ 0) (h2 : ¬ wL (wI (i + 1)) = 0) : g_X6_layHand (k + 1) 2 S 26 x i = if isO 5 S 26 = true then bd2 (f_X6_swapHand k S 26 i (zJ (zX x) i)) (fun _ S' => g_X6_layHand k 2 S' 26 (zX x) (i + (-1))) else none := by
  show b_X6_layHand_2 (g_X6_layHand k) k S 26 x i = _
  unfold b_X6_layHand_2
  rw [if_neg hi, if_neg (show ¬ wL 2147483648 = 0 by decide)]
  show (if wL 65536 = 0 then none else (if wL (wI (i + 1)) = 0 then none else (if isO 5 S 26 = true then bd2 (f_X6_swapHand k S 26 i (zJ (zX x) i)) (fun _ S' => g_X6_layHand k 2 S' 26 (zX x) (i + (-1))) else none))) = _
  rw [if_neg (show ¬ wL 65536 = 0 by decide), if_neg h2]
noncomputable def zE6 (S : xS) (a b c d : Int) : Option (Int × xS) := if isO 5 S 26 = true then bd2 (f_X6_swapHand 0 S 26 4 a) (fun _ S => if isO 5 S 26 = true then bd2 (f_X6_swapHand 0 S 26 3 b) (fun _ S => if isO 5 S 26 = true then bd2 (f_X6_swapHand 0 S 26 2 c) (fun _ S => if isO 5 S 26 = true then bd2 (f_X6_swapHand 0 S 26 1 d) (fun _ S => some (0, S)) else none) else none) else none) else none
theorem z_ite {α : Type} {c : Prop} [Decidable c] {a b : Option α} (h : a = b) : (if c then a else none) = (if c then b else none) := by rw [h]
theorem z_lh6 (k : Nat) (S : xS) (x : Int) : g_X6_layHand (k + 5) 2 S 26 x 4 = zE6 S (zJ (zX x) 4) (zJ (zX (zX x)) 3) (zJ (zX (zX (zX x))) 2) (zJ (zX (zX (zX (zX x)))) 1) := by
  rw [z_lhs (by decide) (by decide)]
  unfold zE6
  refine z_ite (congrArg (bd2 _) (funext fun _ => funext fun S => ?_))
  show g_X6_layHand (k + 4) 2 S 26 (zX x) 3 = _
  rw [z_lhs (by decide) (by decide)]
  refine z_ite (congrArg (bd2 _) (funext fun _ => funext fun S => ?_))
  show g_X6_layHand (k + 3) 2 S 26 (zX (zX x)) 2 = _
  rw [z_lhs (by decide) (by decide)]
  refine z_ite (congrArg (bd2 _) (funext fun _ => funext fun S => ?_))
  show g_X6_layHand (k + 2) 2 S 26 (zX (zX (zX x))) 1 = _
  rw [z_lhs (by decide) (by decide)]
  refine z_ite (congrArg (bd2 _) (funext fun _ => funext fun S => ?_))
  show b_X6_layHand_2 (g_X6_layHand k) k S 26 (zX (zX (zX (zX x)))) 0 = _
  unfold b_X6_layHand_2
  rw [if_pos (by decide)]
/-- the way at hand laid in order -/
noncomputable def zCd (S : xS) : Bool := isO 5 S 26 && (rdFp 5 0 S 26 == some 27 && (rdA 0 S 27 0 == some 5 && rdFp 5 6 S 26 == some 31))
theorem zCd_s {S : xS} (h : zCd S = true) : isO 5 S 26 = true ∧ rdFp 5 6 S 26 = some 31 ∧ ∀ fu : Nat, f_X6_n fu S 26 = some (5, S) := by
  obtain ⟨h1, h⟩ := (Bool.and_eq_true _ _).mp h
  obtain ⟨h2, h⟩ := (Bool.and_eq_true _ _).mp h
  obtain ⟨h3, h4⟩ := (Bool.and_eq_true _ _).mp h
  refine ⟨h1, beq_iff_eq.mp h4, fun fu => ?_⟩
  unfold f_X6_n
  rw [bind_some' (beq_iff_eq.mp h2), bind_some' (beq_iff_eq.mp h3)]
noncomputable def zStp (i : Int) (S : xS) : Option xS := if zCd S = true then wrA 0 S 31 i i else none
theorem z_stp {k : Nat} {S S' : xS} {x i : Int} (h : zStp i S = some S') (hi : 0 ≤ i ∧ i < 5) : g_X6_layHand (k + 1) 1 S 26 x i = g_X6_layHand k 1 S' 26 x (i + 1) := by
  obtain ⟨hc, hw⟩ := ift h
  obtain ⟨h1, h2, h3⟩ := zCd_s hc
  show b_X6_layHand_1 (g_X6_layHand k) k S 26 x i = _
  unfold b_X6_layHand_1
  rw [if_pos h1, bd2_some (h3 k), if_neg (by rw [wI_id (z := i) (by omega) (by omega), show wI 5 = 5 from by decide]; omega), bind_some' h2, bind_some' hw]
noncomputable def zW6 (S : xS) : Option xS := (zStp 0 S).bind fun S => (zStp (0 + 1) S).bind fun S => (zStp (0 + 1 + 1) S).bind fun S => (zStp (0 + 1 + 1 + 1) S).bind fun S => (zStp (0 + 1 + 1 + 1 + 1) S).bind fun S => if zCd S = true then some S else none
theorem z_w6 {k : Nat} {S T : xS} {x : Int} (h : zW6 S = some T) : g_X6_layHand (k + 6) 1 S 26 x 0 = g_X6_layHand k 2 T 26 x 4 := by
  obtain ⟨A, h0, h⟩ := ob h
  obtain ⟨B, h1, h⟩ := ob h
  obtain ⟨C, h2, h⟩ := ob h
  obtain ⟨D, h3, h⟩ := ob h
  obtain ⟨E, h4, h⟩ := ob h
  obtain ⟨hc, h5⟩ := ift h
  cases h5
  rw [z_stp h0 (by omega)]
  rw [z_stp (i := 0 + 1) h1 (by omega)]
  rw [z_stp (i := 0 + 1 + 1) h2 (by omega)]
  rw [z_stp (i := 0 + 1 + 1 + 1) h3 (by omega)]
  rw [z_stp (i := 0 + 1 + 1 + 1 + 1) h4 (by omega)]
  obtain ⟨h1, h2, h3⟩ := zCd_s hc
  rw [show (0 + 1 + 1 + 1 + 1 + 1 : Int) = 5 from by decide]
  show b_X6_layHand_1 (g_X6_layHand k) k T 26 x 5 = _
  unfold b_X6_layHand_1
  rw [if_pos h1, bd2_some (h3 k), if_pos (by decide), if_pos h1, bd2_some (h3 k)]
  rfl
theorem z_lh0 (k : Nat) (S : xS) (x : Int) : f_X6_layHand (k + 1) S 26 x = g_X6_layHand k 1 S 26 x 0 := rfl
noncomputable def zS1 : xS := ((f_X4_setToFirst 11998 S0 24 5).getD (0, [])).2
theorem z_s1 : f_X4_setToFirst 11998 S0 24 5 = some (0, zS1) := z_opt (by decide +kernel)
noncomputable def zL5 (a b c d : Int) : Option (Int × xS) := bd2 (zE5 zS1 24 a b c d) fun z11 S9 => (rdFp 4 5 S9 0).bind fun q13 => (rdFp 4 0 S9 0).bind fun q15 => (rdFi 1 0 S9 q15).bind fun x17 => bd2 (f_X4_rankOf 11999 S9 q13 x17) fun x20 S18 => some (x20, S18)
noncomputable def zL6 (T : xS) (a b c d : Int) : Option (Int × xS) := bd2 (zE6 T a b c d) fun z7 S5 => if isO 5 S5 26 = true then bd2 (f_X6_rankOf 12000 S5 26) fun x11 S9 => some (x11, S9) else none
theorem z_l5 {x : Int} (hx : 0 ≤ x ∧ x ≤ 999999) : f_X5_laid 12000 S0 0 x = zL5 (zJ (zX x) 4) (zJ (zX (zX x)) 3) (zJ (zX (zX (zX x))) 2) (zJ (zX (zX (zX (zX x)))) 1) := by
  show b_X5_laid_0 (g_X5_laid 11999) 11999 S0 0 x = _
  unfold b_X5_laid_0
  have e : f_X4_setBySeed 11999 S0 24 5 x = zE5 zS1 24 (zJ (zX x) 4) (zJ (zX (zX x)) 3) (zJ (zX (zX (zX x))) 2) (zJ (zX (zX (zX (zX x)))) 1) := by
    show b_X4_setBySeed_0 (g_X4_setBySeed 11998) 11998 S0 24 5 x = _
    unfold b_X4_setBySeed_0
    rw [bd2_some z_s1]
    show g_X4_setBySeed 11998 1 zS1 24 (wI x) 4 = _
    rw [wI_id (by omega) (by omega)]
    exact z_sb5 11993 zS1 24 x
  rw [if_neg (by rw [wI_id (by omega) (by omega)]; omega), if_pos (by rw [wI_id (by omega) (by omega), show wI 999999 = 999999 from by decide]; omega), bind_some' (show rdFp 4 5 S0 0 = some 24 from by decide +kernel), bind_some' (show rdFp 4 0 S0 0 = some 1 from by decide +kernel), bind_some' (show rdFi 1 0 S0 1 = some 5 from by decide +kernel), e]
  rfl
theorem z_l6 {S T : xS} {x : Int} (hx : 0 ≤ x ∧ x ≤ 999999) (h5 : isO 5 S 26 = true) (hT : zW6 S = some T) : f_X6_laid 12000 S 26 x = zL6 T (zJ (zX x) 4) (zJ (zX (zX x)) 3) (zJ (zX (zX (zX x))) 2) (zJ (zX (zX (zX (zX x)))) 1) := by
  unfold f_X6_laid
  have e : f_X6_isSeed 12000 S x = some (1, S) := by
    unfold f_X6_isSeed
    rw [bd2_some (z_in1 11998 S (by omega) (by omega) (by omega) (by omega)), if_pos (Or.inr rfl)]
  have e2 : f_X6_layHand 12000 S 26 (wI x) = zE6 T (zJ (zX x) 4) (zJ (zX (zX x)) 3) (zJ (zX (zX (zX x))) 2) (zJ (zX (zX (zX (zX x)))) 1) := by
    rw [wI_id (by omega) (by omega)]
    have e0 : f_X6_layHand 12000 S 26 x = g_X6_layHand 11999 1 S 26 x 0 := z_lh0 11999 S x
    have e1 : g_X6_layHand 11999 1 S 26 x 0 = g_X6_layHand 11993 2 T 26 x 4 := z_w6 (k := 11993) hT
    rw [e0, e1]
    exact z_lh6 11988 T x
  rw [bd2_some e, if_neg (by decide), if_pos h5, e2]
  rfl
set_option maxRecDepth 100000 in
theorem z_37 : ∀ a : Nat, a < 5 → ∀ b : Nat, b < 4 → ∀ c : Nat, c < 3 → ∀ d : Nat, d < 2 → zChk (zL5 (a : Int) (b : Int) (c : Int) (d : Int)) (fun S => (zW6 S).bind fun T => zL6 T (a : Int) (b : Int) (c : Int) (d : Int)) = true := by decide +kernel
theorem z_37b {x : Int} (hx : 0 ≤ x ∧ x ≤ 999999) {o : Option (Int × xS)} {a b c d : Int} (e5 : f_X5_laid 12000 S0 0 x = o) (ha : zJ (zX x) 4 = a) (hb : zJ (zX (zX x)) 3 = b) (hc : zJ (zX (zX (zX x))) 2 = c) (hd : zJ (zX (zX (zX (zX x)))) 1 = d) (h : zTwo o (fun S => (zW6 S).bind fun T => zL6 T a b c d)) : zTwo (f_X5_laid 12000 S0 0 x) (fun S => f_X6_laid 12000 S 26 x) := by
  obtain ⟨r, S1, r', S2, h1, h2, h3, h4⟩ := h
  obtain ⟨T, hT, h5⟩ := ob h3
  refine ⟨r, S1, r', S2, e5.trans h1, h2, ?_, h4⟩
  show f_X6_laid 12000 S1 26 x = _
  rw [z_l6 hx h2 hT, ha, hb, hc, hd]
  exact h5
theorem in_37 {x : Int} (hx : 0 ≤ x ∧ x ≤ 999999) : zTwo (f_X5_laid 12000 S0 0 x) (fun S => f_X6_laid 12000 S 26 x) := by
  have b1 := z_xb (x := x) (by omega)
  have b2 := z_xb b1
  have b3 := z_xb b2
  have b4 := z_xb b3
  have j4 := z_jb (i := 4) (n := 5) b1 (by decide) (by omega)
  have j3 := z_jb (i := 3) (n := 4) b2 (by decide) (by omega)
  have j2 := z_jb (i := 2) (n := 3) b3 (by decide) (by omega)
  have j1 := z_jb (i := 1) (n := 2) b4 (by decide) (by omega)
  have e5 := z_l5 hx
  obtain ⟨a, ha⟩ : ∃ a : Nat, zJ (zX x) 4 = (a : Int) := ⟨(zJ (zX x) 4).toNat, by omega⟩
  obtain ⟨b, hb⟩ : ∃ b : Nat, zJ (zX (zX x)) 3 = (b : Int) := ⟨(zJ (zX (zX x)) 3).toNat, by omega⟩
  obtain ⟨c, hc⟩ : ∃ c : Nat, zJ (zX (zX (zX x))) 2 = (c : Int) := ⟨(zJ (zX (zX (zX x))) 2).toNat, by omega⟩
  obtain ⟨d, hd⟩ : ∃ d : Nat, zJ (zX (zX (zX (zX x)))) 1 = (d : Int) := ⟨(zJ (zX (zX (zX (zX x)))) 1).toNat, by omega⟩
  rw [ha, hb, hc, hd] at e5
  exact z_37b hx e5 ha hb hc hd (zTwo_of (z_37 a (by omega) b (by omega) c (by omega) d (by omega)))
