variable {G : xT} {N : Nat} {tl : Int} {a b : Bool}
def bF7 (nn : Nat) (l v : Int) : Bool := decide (hb l v = true) || (decide ((nn : Int) ≤ v) || decide (uc nn (xOr l (xShl 1 v)) 0 = uc nn l 0 - 1))
theorem bF7_all : ∀ nn : Nat, nn < 8 → ∀ l : Nat, l < 128 → ∀ v : Nat, v < 7 → bF7 nn (l : Int) (v : Int) = true := by decide +kernel
theorem bF7_s {nn : Nat} (hn : nn < 8) {l v : Int} (hl : 0 ≤ l ∧ l < 128) (hv : 0 ≤ v ∧ v < nn) (h : hb l v = false) : uc nn (xOr l (xShl 1 v)) 0 = uc nn l 0 - 1 := by
  have e := bF7_all nn hn l.toNat (by omega) v.toNat (by omega)
  rw [show ((l.toNat : Nat) : Int) = l by omega, show ((v.toNat : Nat) : Int) = v by omega] at e
  unfold bF7 at e
  rw [Bool.or_eq_true, Bool.or_eq_true] at e
  rcases e with e | e | e
  · rw [of_decide_eq_true e] at h
    cases h
  · have := of_decide_eq_true e
    omega
  · exact of_decide_eq_true e
def bF8 (l v w : Int) : Bool := decide (hb (xOr l (xShl 1 v)) w = (hb l w || decide (w = v)))
theorem bF8_all : ∀ l : Nat, l < 128 → ∀ v : Nat, v < 7 → ∀ w : Nat, w < 7 → bF8 (l : Int) (v : Int) (w : Int) = true := by decide +kernel
theorem bF8_s {l v w : Int} (hl : 0 ≤ l ∧ l < 128) (hv : 0 ≤ v ∧ v ≤ 6) (hw : 0 ≤ w ∧ w ≤ 6) (h : hb (xOr l (xShl 1 v)) w = false) : hb l w = false ∧ w ≠ v := by
  have e := bF8_all l.toNat (by omega) v.toNat (by omega) w.toNat (by omega)
  rw [show ((l.toNat : Nat) : Int) = l by omega, show ((v.toNat : Nat) : Int) = v by omega, show ((w.toNat : Nat) : Int) = w by omega] at e
  have e := of_decide_eq_true e
  rw [h] at e
  have e := e.symm
  rw [Bool.or_eq_false_iff] at e
  exact ⟨e.1, of_decide_eq_false e.2⟩
theorem fac_m {m : Nat} (hm : m < 7) {l : Int} (hl : 0 ≤ l ∧ l < fac ((m + 1 : Nat) : Int)) : 1 ≤ fac (m : Int) ∧ 0 ≤ l / fac (m : Int) ∧ l / fac (m : Int) < m + 1 ∧ 0 ≤ l % fac (m : Int) ∧ l % fac (m : Int) < fac (m : Int) := by
  have h := fac_s (m := ((m + 1 : Nat) : Int)) (by omega)
  rw [show ((m + 1 : Nat) : Int) - 1 = (m : Int) by omega] at h
  obtain ⟨h1, h2, h3⟩ := h
  refine ⟨h2, Int.ediv_nonneg hl.1 (by omega), ?_, Int.emod_nonneg _ (by omega), Int.emod_lt_of_pos _ (by omega)⟩
  refine Int.ediv_lt_of_lt_mul (by omega) ?_
  have e : ((m : Int) + 1) * fac (m : Int) = ((m + 1 : Nat) : Int) * fac (m : Int) := by rw [show ((m + 1 : Nat) : Int) = (m : Int) + 1 by omega]
  rw [e, ← h1]
  exact hl.2
theorem tp_s {nn : Nat} (hn : nn < 8) : ∀ (m : Nat) (u l : Int), 0 ≤ u ∧ u < 128 → m ≤ nn → uc nn u 0 = m → 0 ≤ l ∧ l < fac (m : Int) → (tp nn m u l).length = m ∧ (∀ x ∈ tp nn m u l, 0 ≤ x ∧ x < nn ∧ hb u x = false) ∧ (∀ i j : Nat, i < m → j < m → (tp nn m u l)[i]? = (tp nn m u l)[j]? → i = j) := by
  intro m
  induction m with
  | zero => exact fun u l _ _ _ _ => ⟨rfl, fun x hx => (by cases hx), fun i j hi _ _ => (by omega)⟩
  | succ m ih =>
    intro u l hu hm huc hl
    obtain ⟨f1, f2, f3, f4, f5⟩ := fac_m (m := m) (by omega) hl
    have hs := sk_f (u := u) nn (l / fac (m : Int)) 0 f2 (by rw [huc]; omega)
    have e : tp nn (m + 1) u l = sk nn u (l / fac (m : Int)) 0 :: tp nn m (xOr u (xShl 1 (sk nn u (l / fac (m : Int)) 0))) (l % fac (m : Int)) := rfl
    rw [e]
    generalize sk nn u (l / fac (m : Int)) 0 = v at hs
    have hv : 0 ≤ v ∧ v ≤ 6 := by omega
    have hb5 := bF5_s hu hv
    have h7 := bF7_s (nn := nn) hn hu ⟨hv.1, by omega⟩ hs.1
    obtain ⟨i1, i2, i3⟩ := ih (xOr u (xShl 1 v)) (l % fac (m : Int)) ⟨hb5.1, hb5.2.1⟩ (by omega) (by omega) ⟨f4, f5⟩
    generalize tp nn m (xOr u (xShl 1 v)) (l % fac (m : Int)) = T at i1 i2 i3
    refine ⟨by rw [List.length_cons, i1], fun x hx => ?_, fun i j hi hj he => ?_⟩
    · rcases List.mem_cons.mp hx with rfl | hx
      · exact ⟨hv.1, by omega, hs.1⟩
      · obtain ⟨x1, x2, x3⟩ := i2 x hx
        exact ⟨x1, x2, (bF8_s hu hv (by omega) x3).1⟩
    · have ne : ∀ k : Nat, k < m → T[k]? ≠ some v := by
        intro k hk hkv
        have hx := i2 v (List.mem_of_getElem? hkv)
        exact (bF8_s hu hv hv hx.2.2).2 rfl
      match i, j with
      | 0, 0 => rfl
      | 0, j + 1 => exact absurd he.symm (ne j (by omega))
      | i + 1, 0 => exact absurd he (ne i (by omega))
      | i + 1, j + 1 => exact congrArg (· + 1) (i3 i j (by omega) (by omega) he)
theorem is6 {mo : xV → Prop} (hN : 45 ≤ N) (g26 : G 26 = o6 tl mo) {S : xS} (hS : Hp G N S) : isO 5 S 26 = true := by
  obtain ⟨c, e, hc⟩ := hp_get hS (show 26 < N by omega)
  rw [g26] at hc
  obtain ⟨fs, rfl, -, -⟩ := hc
  unfold isO
  simp only [lGet_e]
  rw [e]
  rfl
theorem p6 {mo : xV → Prop} (hN : 45 ≤ N) (g26 : G 26 = o6 tl mo) {S : xS} (hS : Hp G N S) : rdFp 5 6 S 26 = some 31 := by
  obtain ⟨v, e, hv⟩ := ok_fld (ci := 5) (k := 6) hS (show 26 < N by omega) g26 rfl
  unfold rdFp
  rw [e, show v = .inr (.inr (some 31)) from hv]
theorem tk_all {nn : Nat} (hN : 45 ≤ N) (hn : 2 ≤ nn ∧ nn ≤ 7) {mo : xV → Prop} (g26 : G 26 = o6 tl mo) (g27 : G 27 = tA 0 57 (nw (nn : Int))) (g31 : G 31 = tA 0 7 (tR 0 6)) : ∀ (m k : Nat) (S : xS) (K : List Int) (u l i3 i4 i5 : Int), Hp G N S → S[31]? = some (.inl (0, K)) → K.length = 7 → m ≤ nn → 0 ≤ u ∧ u < 128 → uc nn u 0 = m → 0 ≤ l ∧ l < fac (m : Int) → 30 * m + 12 ≤ k → g_X6_takeRank k 1 S 26 u l ((nn : Int) - m) i3 i4 i5 = some (0, S.set 31 (.inl (0, K.take (nn - m) ++ tp nn m u l ++ K.drop nn))) := by
  intro m
  induction m with
  | zero =>
    intro k S K u l i3 i4 i5 hS hK hKl hm hu huc hl hk
    obtain ⟨k, rfl⟩ : ∃ k', k = k' + 1 := ⟨k - 1, by omega⟩
    show b_X6_takeRank_1 (g_X6_takeRank k) k S 26 u l ((nn : Int) - ((0 : Nat) : Int)) i3 i4 i5 = _
    unfold b_X6_takeRank_1
    rw [if_pos (is6 hN g26 hS), bd2_some (tf_X6_n (by omega) g26 g27 hS), if_pos (by rw [wIn (n := (nn : Int)) (by omega) (by omega), wIn (n := (nn : Int) - ((0 : Nat) : Int)) (by omega) (by omega)]; omega)]
    have e : K.take (nn - 0) ++ tp nn 0 u l ++ K.drop nn = K := by
      show K.take nn ++ [] ++ K.drop nn = K
      rw [List.append_nil, List.take_append_drop]
    have e2 : S.set 31 (.inl (0, K)) = S := by
      obtain ⟨h1, h2⟩ := List.getElem?_eq_some_iff.mp hK
      rw [← h2]
      exact List.set_getElem_self h1
    rw [e, e2]
  | succ m ih =>
    intro k S K u l i3 i4 i5 hS hK hKl hm hu huc hl hk
    obtain ⟨f1, f2, f3, f4, f5⟩ := fac_m (m := m) (by omega) hl
    have hf7 := (fac_s (m := ((m + 1 : Nat) : Int)) (by omega)).2.2
    have hfm : fac (m : Int) ≤ 5040 := by
      rcases (show m = 0 ∨ 1 ≤ m by omega) with rfl | hm1
      · decide
      · exact (fac_s (m := (m : Int)) (by omega)).2.2
    obtain ⟨k, rfl⟩ : ∃ k', k = k' + 1 := ⟨k - 1, by omega⟩
    have st : g_X6_takeRank (k + 1) 1 S 26 u l ((nn : Int) - ((m + 1 : Nat) : Int)) i3 i4 i5 = g_X6_takeRank k 2 S 26 u (l % fac (m : Int)) ((nn : Int) - ((m + 1 : Nat) : Int)) (l / fac (m : Int)) 0 0 := by
      show b_X6_takeRank_1 (g_X6_takeRank k) k S 26 u l ((nn : Int) - ((m + 1 : Nat) : Int)) i3 i4 i5 = _
      unfold b_X6_takeRank_1
      rw [if_pos (is6 hN g26 hS), bd2_some (tf_X6_n (by omega) g26 g27 hS), if_neg (by rw [wIn (n := (nn : Int)) (by omega) (by omega), wIn (n := (nn : Int) - ((m + 1 : Nat) : Int)) (by omega) (by omega)]; omega), if_pos (is6 hN g26 hS), bd2_some (tf_X6_n (by omega) g26 g27 hS), show ((nn : Int) - 1) - ((nn : Int) - ((m + 1 : Nat) : Int)) = (m : Int) by omega, bd2_some (tf_X6_factorial (by omega) (by omega)), wIn (n := fac (m : Int)) (by omega) (by omega), wIn (n := l) (by omega) (by omega), if_neg (by omega), nmx_b, if_neg (by omega), nmx_b, Int.tdiv_eq_ediv_of_nonneg hl.1, Int.tmod_eq_emod_of_nonneg hl.1]
    rw [st]
    obtain ⟨k', z, hk', hz, e, hz2⟩ := tk_find (S := S) (u := u) (l := l % fac (m : Int)) (x := (nn : Int) - ((m + 1 : Nat) : Int)) hu nn (k - 3 * nn) (l / fac (m : Int)) 0 ⟨f2, by omega⟩ (by omega) (by rw [huc]; omega)
    rw [show k - 3 * nn + 3 * nn = k by omega] at e
    rw [e]
    have hs := sk_f (u := u) nn (l / fac (m : Int)) 0 f2 (by rw [huc]; omega)
    have et : tp nn (m + 1) u l = sk nn u (l / fac (m : Int)) 0 :: tp nn m (xOr u (xShl 1 (sk nn u (l / fac (m : Int)) 0))) (l % fac (m : Int)) := rfl
    rw [et]
    generalize sk nn u (l / fac (m : Int)) 0 = v at hs
    have hv : 0 ≤ v ∧ v ≤ 6 := by omega
    have hb5 := bF5_s hu hv
    have h7 := bF7_s (nn := nn) (by omega) hu ⟨hv.1, by omega⟩ hs.1
    obtain ⟨k'', rfl⟩ : ∃ z, k' = z + 1 := ⟨k' - 1, by omega⟩
    have hbx : ((nn : Int) - ((m + 1 : Nat) : Int)).toNat = nn - (m + 1) := by omega
    have hw : wrA 0 S 31 ((nn : Int) - ((m + 1 : Nat) : Int)) v = some (S.set 31 (.inl (0, K.set (nn - (m + 1)) v))) := by
      rw [wrA_of hK (by omega) (by omega) (by rw [hbx]; omega), hbx]
    have st2 : g_X6_takeRank (k'' + 1) 2 S 26 u (l % fac (m : Int)) ((nn : Int) - ((m + 1 : Nat) : Int)) z v 0 = g_X6_takeRank k'' 1 (S.set 31 (.inl (0, K.set (nn - (m + 1)) v))) 26 (xOr u (xShl 1 v)) (l % fac (m : Int)) ((nn : Int) - (m : Int)) 0 0 0 := by
      show b_X6_takeRank_2 (g_X6_takeRank k'') k'' S 26 u (l % fac (m : Int)) ((nn : Int) - ((m + 1 : Nat) : Int)) z v 0 = _
      unfold b_X6_takeRank_2
      rw [if_neg (fun q => by rw [hb_iff.mp q] at hs; cases hs.1), if_pos (by rw [wIn (n := z) hz2 (by omega)]; exact hz), bind_some' (p6 hN g26 hS), bind_some' hw, nmx_b, nmx_b, show (nn : Int) - ((m + 1 : Nat) : Int) + 1 = (nn : Int) - (m : Int) by omega]
    rw [st2]
    have h31 : 31 < S.length := (List.getElem?_eq_some_iff.mp hK).1
    have hKr : tR 0 6 K := by
      have := hS.2 31 _ hK
      rw [g31] at this
      obtain ⟨L, eL, -, hL⟩ := this
      cases eL
      exact hL
    have hS' : Hp G N (S.set 31 (.inl (0, K.set (nn - (m + 1)) v))) := hp_set hS (by rw [g31]; exact ⟨_, rfl, by rw [List.length_set]; exact hKl, tR_set hv _ hKr⟩)
    rw [ih k'' _ (K.set (nn - (m + 1)) v) (xOr u (xShl 1 v)) (l % fac (m : Int)) 0 0 0 hS' (List.getElem?_set_self h31) (by rw [List.length_set]; exact hKl) (by omega) ⟨hb5.1, hb5.2.1⟩ (by omega) ⟨f4, f5⟩ (by omega), List.set_set]
    have el : (K.set (nn - (m + 1)) v).take (nn - m) ++ tp nn m (xOr u (xShl 1 v)) (l % fac (m : Int)) ++ (K.set (nn - (m + 1)) v).drop nn = K.take (nn - (m + 1)) ++ (v :: tp nn m (xOr u (xShl 1 v)) (l % fac (m : Int))) ++ K.drop nn := by
      have e1 : (K.set (nn - (m + 1)) v).take (nn - m) = K.take (nn - (m + 1)) ++ [v] := by
        rw [show nn - m = (nn - (m + 1)) + 1 by omega, List.take_add_one, List.take_set_of_le (by omega), List.getElem?_set_self (by omega)]
        rfl
      rw [e1, List.drop_set_of_lt (by omega), List.append_assoc (K.take (nn - (m + 1))) [v]]
      rfl
    rw [el]
