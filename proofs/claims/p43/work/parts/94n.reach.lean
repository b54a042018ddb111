variable {n nd tl : Int} {rp : Option Nat} {im : List (Option Nat)} {E : xT} {N : Nat}
theorem t_d4 {x : Int} (hx : -2 ≤ x ∧ x ≤ 20159) : 0 ≤ (wI x).tdiv (wI 4) ∧ (wI x).tdiv (wI 4) ≤ 5039 := by
  rw [wIn (n := x) (by omega) (by omega), show wI 4 = 4 from by decide]
  by_cases h : 0 ≤ x
  · rw [Int.tdiv_eq_ediv_of_nonneg h]
    omega
  · rcases (show x = -1 ∨ x = -2 by omega) with rfl | rfl <;> decide
theorem tg_moveTo3 {G : xT} {N g : Nat} (hg : g + 11 ≤ N) {sm : Nat → List Int → Prop} (h0 : G g = rcT g sm 0) (h2 : G (g + 2) = tA 0 5040 (tR (-2) 20159)) {i : Int} (hi : 0 ≤ i ∧ i < 2147483648) : ∀ (k : Nat) (S : xS) (i1 i2 i3 : Int), Hp G N S → 0 ≤ i1 ∧ i1 ≤ 5039 → i ≤ i2 ∧ i2 ≤ 5040 → i2 - i + 1 ≤ (k : Int) → Ok (g_X0_moveTo k 3 S g i i1 i2 i3) (fun r S' => S' = S ∧ True) := by
  intro k
  induction k with
  | zero => intro S i1 i2 i3 _ _ _ _; exfalso; omega
  | succ k ih =>
    intro S i1 i2 i3 hS h1 hi2 hk
    show Ok (b_X0_moveTo_3 (g_X0_moveTo k) k S g i i1 i2 i3) _
    unfold b_X0_moveTo_3
    refine ok_if (fun hc => ?_) (fun hc => ?_)
    · refine ok_rdFp hS (by omega) h0 rfl ?_
      refine ok_rdA hS (by omega) h2 tR_id (by omega) (by omega) (by omega) (fun x _ _ => ?_)
      exact ok_neg (by decide) (ok_some ⟨rfl, trivial⟩)
    · simp (disch := omega) only [wIn] at hc
      refine ok_rdFp hS (by omega) h0 rfl ?_
      refine ok_rdA hS (by omega) h2 tR_id (by omega) (by omega) (by omega) (fun x hx1 hx2 => ?_)
      refine ok_neg (by decide) ?_
      have hd := t_d4 (x := x) ⟨hx1, hx2⟩
      exact ih S _ (i2 + (-1)) 0 hS hd (by omega) (by omega)
theorem tg_moveTo1 {G : xT} {N g : Nat} (hg : g + 11 ≤ N) {sm : Nat → List Int → Prop} (h0 : G g = rcT g sm 0) (h2 : G (g + 2) = tA 0 5040 (tR (-2) 20159)) {r i : Int} (hr : 0 ≤ r ∧ r ≤ 5039) (hi : -1 ≤ i ∧ i < 2147483648) : ∀ (k : Nat) (S : xS) (i2 i3 : Int), Hp G N S → 0 ≤ i3 ∧ i3 ≤ 5039 → 0 ≤ i2 ∧ i2 ≤ 5040 → 5040 - i2 + 5050 ≤ (k : Int) → Ok (g_X0_moveTo k 1 S g r i i2 i3) (fun r S' => S' = S ∧ True) := by
  intro k
  induction k with
  | zero => intro S i2 i3 _ _ _ _; exfalso; omega
  | succ k ih =>
    intro S i2 i3 hS h3 hi2 hk
    have two : Ok (g_X0_moveTo k 2 S g r i i2 0) (fun r S' => S' = S ∧ True) := by
      obtain ⟨k, rfl⟩ : ∃ k', k = k' + 1 := ⟨k - 1, by omega⟩
      show Ok (b_X0_moveTo_2 (g_X0_moveTo k) k S g r i i2 0) _
      unfold b_X0_moveTo_2
      refine ok_if (fun _ => ok_some ⟨rfl, trivial⟩) (fun hc => ?_)
      refine ok_if (fun hc2 => ?_) (fun _ => ok_some ⟨rfl, trivial⟩)
      simp (disch := omega) only [wIn] at hc hc2
      exact tg_moveTo3 hg h0 h2 (by omega) k S r (i2 - 1) 0 hS hr (by omega) (by omega)
    show Ok (b_X0_moveTo_1 (g_X0_moveTo k) k S g r i i2 i3) _
    unfold b_X0_moveTo_1
    refine ok_rdFp hS (by omega) h0 rfl ?_
    refine ok_rdAE hS (by omega) h2 tR_id (by omega) (by omega) (by omega) (fun x hx1 hx2 ex => ?_)
    refine ok_if (fun _ => two) (fun hc => ?_)
    refine ok_if (fun _ => two) (fun hc2 => ?_)
    simp (disch := omega) only [wIn] at hc hc2
    show Ok ((rdFp 0 2 S g).bind fun q15 => (rdA 0 S q15 i3).bind fun x16 => if wI 4 = 0 then none else nmx ((wI x16).tdiv (wI 4)) fun x19 => g_X0_moveTo k 1 S g r i (i2 + 1) x19) _
    refine ok_rdFp hS (by omega) h0 rfl ?_
    refine ok_bind ex ?_
    refine ok_neg (by decide) ?_
    exact ih S (i2 + 1) _ hS (t_d4 ⟨hx1, hx2⟩) (by omega) (by omega)
theorem tf_X0_moveTo {G : xT} {N g : Nat} (hg : g + 11 ≤ N) {sm : Nat → List Int → Prop} (h0 : G g = rcT g sm 0) (h2 : G (g + 2) = tA 0 5040 (tR (-2) 20159)) {r i : Int} (hr : 0 ≤ r ∧ r ≤ 5039) (hi : -1 ≤ i ∧ i < 2147483648) {k : Nat} {S : xS} (hS : Hp G N S) (hk : 10100 ≤ (k : Int)) : Ok (f_X0_moveTo k S g r i) (fun r S' => S' = S ∧ True) := by
  obtain ⟨k, rfl⟩ : ∃ k', k = k' + 1 := ⟨k - 1, by omega⟩
  show Ok (b_X0_moveTo_0 (g_X0_moveTo k) k S g r i 0 0) _
  unfold b_X0_moveTo_0
  refine ok_rdFp hS (by omega) h0 rfl ?_
  refine ok_rdA hS (by omega) h2 tR_id (by omega) (by omega) (by omega) (fun x hx1 hx2 => ?_)
  refine ok_if (fun _ => ok_some ⟨rfl, trivial⟩) (fun hc => ?_)
  exact tg_moveTo1 hg h0 h2 hr hi k S 0 r hS hr (by omega) (by omega)
theorem T5_rp {rp' : Option Nat} : up (T5 n nd tl rp im E) 0 (tO 4 [fP 1, fP 10, fP 19, fP 20, fP 22, fP 24, fP 25, fX (.inr (.inr rp')), fL, fL, fZ, fZ, fZ]) = T5 n nd tl rp' im E := by
  funext q
  by_cases h0 : q = 0
  · subst h0
    rfl
  · rw [up_ne h0]
    exact match q, h0 with
    | 0, h => absurd rfl h
    | 1, _ => rfl
    | 2, _ => rfl
    | 3, _ => rfl
    | 4, _ => rfl
    | 5, _ => rfl
    | 6, _ => rfl
    | 7, _ => rfl
    | 8, _ => rfl
    | 9, _ => rfl
    | 10, _ => rfl
    | 11, _ => rfl
    | 12, _ => rfl
    | 13, _ => rfl
    | 14, _ => rfl
    | 15, _ => rfl
    | 16, _ => rfl
    | 17, _ => rfl
    | 18, _ => rfl
    | 19, _ => rfl
    | 20, _ => rfl
    | 21, _ => rfl
    | 22, _ => rfl
    | 23, _ => rfl
    | 24, _ => rfl
    | 25, _ => rfl
    | _ + 26, _ => rfl
theorem rdFr_7 {S : xS} (hN : 26 ≤ N) (hS : Hp (T5 n nd tl rp im E) N S) : rdFr 4 7 S 0 = some rp := by
  obtain ⟨v, e, hv⟩ := ok_fld (ci := 4) (k := 7) hS (show 0 < N by omega) rfl rfl
  unfold rdFr
  rw [e, show v = .inr (.inr rp) from hv]
/-- the state, with the reach made -/
def J5r (R : xT) (tl : Int) (a b : Option Nat) (g : Nat) (S : xS) : Prop := ∃ (n nd : Int) (E : xT) (N : Nat), (2 ≤ n ∧ n ≤ 7) ∧ (2 ≤ nd ∧ nd ≤ 7) ∧ 45 ≤ N ∧ Hp (T5 n nd tl (some g) [a, b] E) N S ∧ DY a b (some g) N E ∧ (∀ q, 26 ≤ q → q < 45 → E q = R q)
theorem tf_X5_reachNow {R : xT} {a b : Option Nat} {k : Nat} {S : xS} (hJ : J5 R tl a b S) (hk : 30600 ≤ (k : Int)) : ∃ g S', f_X5_reachNow k S 0 = some (g, S') ∧ J5r R tl a b g S' := by
  obtain ⟨k, rfl⟩ : ∃ k', k = k' + 2 := ⟨k - 2, by omega⟩
  have one : ∀ (S : xS) (g : Nat), J5r R tl a b g S → ∃ g S', g_X5_reachNow (k + 1) 1 S 0 = some (g, S') ∧ J5r R tl a b g S' := by
    intro S g hJ
    obtain ⟨n, nd, E, N, hn, hd, hN, hS, hD, hR⟩ := hJ
    obtain ⟨y1, y2, y3, y4⟩ := hD.2.2 g rfl
    show ∃ g S', b_X5_reachNow_1 (g_X5_reachNow k) k S 0 = some (g, S') ∧ J5r R tl a b g S'
    unfold b_X5_reachNow_1
    rw [rdFr_7 (by omega) hS]
    show ∃ g_1 S', ((rdFp 4 0 S 0).bind fun q14 => if isO 0 S g = true then bd2 (f_X0_spreadFrom k S g q14) fun z17 S15 => onP (rdFr 4 7 S15 0) none fun q20 => some (q20, S15) else none) = some (g_1, S') ∧ J5r R tl a b g_1 S'
    obtain ⟨v, e, hv⟩ := ok_fld (ci := 4) (k := 0) hS (show 0 < N by omega) rfl rfl
    rw [bind_some' (show rdFp 4 0 S 0 = some 1 by unfold rdFp; rw [e, show v = .inr (.inr (some 1)) from hv])]
    have eg : T5 n nd tl (some g) [a, b] E g = rcT g (fun _ => tR 0 6) 0 := (T5_ge (by omega)).trans (y3 0 (by omega))
    obtain ⟨c, ec, hc⟩ := hp_get hS (show g < N by omega)
    rw [eg] at hc
    obtain ⟨fs, rfl, -, -⟩ := hc
    rw [if_pos (show isO 0 S g = true by unfold isO; simp only [lGet_e]; rw [ec]; rfl)]
    obtain ⟨z, S', e2, hS'⟩ := tf_X0_spreadFrom ⟨y1, y2⟩ y3 hn hS (k := k) (by omega)
    rw [bd2_some e2, rdFr_7 (by omega) hS']
    exact ⟨g, S', rfl, n, nd, E, N, hn, hd, hN, hS', hD, hR⟩
  obtain ⟨n, nd, rp, E, N, hn, hd, hN, hS, hD, hR⟩ := hJ
  show ∃ g S', b_X5_reachNow_0 (g_X5_reachNow (k + 1)) (k + 1) S 0 = some (g, S') ∧ J5r R tl a b g S'
  unfold b_X5_reachNow_0
  rw [rdFr_7 (by omega) hS]
  cases rp with
  | some g => exact one S g ⟨n, nd, E, N, hn, hd, hN, hS, hD, hR⟩
  | none =>
    show ∃ g S', (bd2 (f_X0_init (k + 1) (S ++ [.inr (.inr (0, xNew_X0))]) S.length) fun z6 S4 => (wrF 4 7 S4 0 (.inr (.inr (some S.length)))).bind fun S8 => g_X5_reachNow (k + 1) 1 S8 0) = some (g, S') ∧ J5r R tl a b g S'
    have hlen := hS.1
    obtain ⟨G', hI, hrc, hG'⟩ := tf_X0_init hS (k := k + 1)
    obtain ⟨z, S4, e4, hS4⟩ := hI
    rw [bd2_some e4]
    have hT : G' = T5 n nd tl none [a, b] G' := T5_of (E := E) (fun q hq => hG' q (by omega))
    rw [hT] at hS4
    obtain ⟨c, ec, hc⟩ := hp_get hS4 (show 0 < S.length + 11 by omega)
    have hc' := hc
    obtain ⟨fs, rfl, hl, hF⟩ := (show tO 4 [fP 1, fP 10, fP 19, fP 20, fP 22, fP 24, fP 25, fX (.inr (.inr none)), fL, fL, fZ, fZ, fZ] c from hc)
    have l7 : 7 < fs.length := by
      rw [hl]
      exact Nat.le_of_ble_eq_true rfl
    rw [bind_some' (wrF_at ec l7)]
    have hS8 := hp_up hS4 (q := 0) (P := tO 4 [fP 1, fP 10, fP 19, fP 20, fP 22, fP 24, fP 25, fX (.inr (.inr (some S.length))), fL, fL, fZ, fZ, fZ]) (c := .inr (.inr (4, fs.set 7 (.inr (.inr (some S.length)))))) (by
      refine ⟨_, rfl, by rw [List.length_set]; exact hl, fun k P hP v hv => ?_⟩
      by_cases hk : 7 = k
      · subst hk
        rw [List.getElem?_set_self l7] at hv
        cases hP
        cases hv
        exact rfl
      · rw [List.getElem?_set_ne hk] at hv
        refine hF k P ?_ v hv
        match k, hk, hP with
        | 0, _, hP => exact hP
        | 1, _, hP => exact hP
        | 2, _, hP => exact hP
        | 3, _, hP => exact hP
        | 4, _, hP => exact hP
        | 5, _, hP => exact hP
        | 6, _, hP => exact hP
        | 7, hk, _ => exact absurd rfl hk
        | 8, _, hP => exact hP
        | 9, _, hP => exact hP
        | 10, _, hP => exact hP
        | 11, _, hP => exact hP
        | 12, _, hP => exact hP
        | k + 13, _, hP => cases hP)
    rw [T5_rp] at hS8
    refine one _ S.length ⟨n, nd, G', S.length + 11, hn, hd, by omega, hS8, ?_, fun q h1 h2 => by rw [hG' q (by omega), T5_ge (by omega)]; exact hR q h1 h2⟩
    obtain ⟨e1, e2, e3⟩ := hD
    obtain ⟨d1, d2, d3⟩ := DY_eq (a := a) (b := b) (rp := none) (N := N) (N' := S.length + 11) (E := E) (E' := G') ⟨e1, e2, e3⟩ (by omega) (fun q h1 h2 => by rw [hG' q (by omega), T5_ge (by omega)])
    refine ⟨d1, d2, fun g hg => ?_⟩
    have := Option.some.inj hg
    subst this
    refine ⟨by omega, by omega, hrc, fun y hy => Or.inl ?_⟩
    have := (e1 y hy).2.1
    omega
theorem tf_X5_group {R : xT} {a b : Option Nat} {k : Nat} {S : xS} (hJ : J5 R tl a b S) (hk : 30600 ≤ (k : Int)) : Ok (f_X5_group k S 0) (fun _ S' => J5 R tl a b S') := by
  have hJ0 := hJ
  obtain ⟨n, nd, rp, E, N, hn, hd, hN, hS, hD, hR⟩ := hJ
  obtain ⟨g, S', e, n, nd, E, N, hn, hd, hN, hS', hD, hR⟩ := tf_X5_reachNow hJ0 hk
  unfold f_X5_group
  refine ok_is hS (by omega) rfl ?_
  rw [bd2_some e]
  obtain ⟨y1, y2, y3, y4⟩ := hD.2.2 g rfl
  have eg : T5 n nd tl (some g) [a, b] E g = rcT g (fun _ => tR 0 6) 0 := (T5_ge (by omega)).trans (y3 0 (by omega))
  refine ok_rdFi hS' (by omega) eg rfl (fun _ _ _ => ?_)
  exact ok_some ⟨n, nd, some g, E, N, hn, hd, hN, hS', hD, hR⟩
theorem tf_X5_fewest {R : xT} {a b : Option Nat} {k : Nat} {S : xS} {i0 i1 : Int} (hJ : J5 R tl a b S) (hi : -2147483648 ≤ i0 ∧ i0 < 2147483648) (hi1 : -2147483648 ≤ i1 ∧ i1 < 2147483648) (hk : 30700 ≤ (k : Int)) : Ok (f_X5_fewest k S 0 i0 i1) (fun _ S' => J5 R tl a b S') := by
  have hJ0 := hJ
  obtain ⟨n, nd, rp, E, N, hn, hd, hN, hS, hD, hR⟩ := hJ
  obtain ⟨k, rfl⟩ : ∃ k', k = k' + 2 := ⟨k - 2, by omega⟩
  have bad : Ok (g_X5_fewest (k + 1) 1 S 0 0 0) (fun _ S' => J5 R tl a b S') := by
    show Ok (b_X5_fewest_1 (g_X5_fewest k) k S 0 0 0) _
    unfold b_X5_fewest_1
    refine ok_is hS (by omega) rfl ?_
    refine ok_bd2 (tf_X5_refuseQuestion (by omega) hn hS trivial) (fun _ _ hQ => ?_)
    exact ok_some ⟨n, nd, rp, E, N, hn, hd, hN, hQ.1, hD, hR⟩
  show Ok (b_X5_fewest_0 (g_X5_fewest (k + 1)) (k + 1) S 0 i0 i1) _
  unfold b_X5_fewest_0
  refine ok_is hS (by omega) rfl ?_
  refine ok_bd2 (tf_X5_isNoRank (by omega) hn hS (by omega)) (fun x _ hQ => ?_)
  obtain ⟨rfl, hQ⟩ := hQ
  refine ok_if (fun hc => ?_) (fun _ => bad)
  refine ok_if (fun hc2 => ?_) (fun _ => bad)
  simp (disch := omega) only [wIn] at hc hc2
  refine ok_is hS (by omega) rfl ?_
  obtain ⟨g, S', e, n, nd, E, N, hn, hd, hN, hS', hD, hR⟩ := tf_X5_reachNow hJ0 (k := k + 1) (by omega)
  rw [bd2_some e]
  obtain ⟨y1, y2, y3, y4⟩ := hD.2.2 g rfl
  have eg : T5 n nd tl (some g) [a, b] E g = rcT g (fun _ => tR 0 6) 0 := (T5_ge (by omega)).trans (y3 0 (by omega))
  have eg2 : T5 n nd tl (some g) [a, b] E (g + 2) = tA 0 5040 (tR (-2) 20159) := (T5_ge (by omega)).trans (y3 2 (by omega))
  refine ok_is hS' (by omega) eg ?_
  refine ok_bd2 (tf_X0_moveTo (g := g) (by omega) eg eg2 (by omega) (by omega) hS' (by omega)) (fun _ _ hQ => ?_)
  obtain ⟨rfl, -⟩ := hQ
  exact ok_some ⟨n, nd, some g, E, N, hn, hd, hN, hS', hD, hR⟩
theorem tg_X5_till {R : xT} {a b : Option Nat} {g : Nat} {i : Int} (hi : -1 ≤ i ∧ i < 2147483648) : ∀ (k : Nat) (S : xS) (i1 : Int), J5r R tl a b g S → 0 ≤ i1 ∧ i1 ≤ 5040 → 5040 - i1 + 10200 ≤ (k : Int) → Ok (g_X5_till k 1 S 0 g i i1) (fun _ S' => J5 R tl a b S') := by
  intro k
  induction k with
  | zero => intro S i1 _ _ _; exfalso; omega
  | succ k ih =>
    intro S i1 hJ h1 hk
    obtain ⟨n, nd, E, N, hn, hd, hN, hS, hD, hR⟩ := hJ
    obtain ⟨y1, y2, y3, y4⟩ := hD.2.2 g rfl
    have eg : T5 n nd tl (some g) [a, b] E g = rcT g (fun _ => tR 0 6) 0 := (T5_ge (by omega)).trans (y3 0 (by omega))
    have eg1 : T5 n nd tl (some g) [a, b] E (g + 1) = tA 0 5040 (tR 0 5039) := (T5_ge (by omega)).trans (y3 1 (by omega))
    have eg2 : T5 n nd tl (some g) [a, b] E (g + 2) = tA 0 5040 (tR (-2) 20159) := (T5_ge (by omega)).trans (y3 2 (by omega))
    show Ok (b_X5_till_1 (g_X5_till k) k S 0 g i i1) _
    unfold b_X5_till_1
    refine ok_rdFi hS (by omega) eg rfl (fun x hx1 hx2 => ?_)
    refine ok_if (fun _ => ok_some ⟨n, nd, some g, E, N, hn, hd, hN, hS, hD, hR⟩) (fun hc => ?_)
    simp (disch := omega) only [wIn] at hc
    refine ok_rdFp hS (by omega) eg rfl ?_
    refine ok_rdA hS (by omega) eg1 tR_id (by omega) (by omega) (by omega) (fun r hr1 hr2 => ?_)
    refine ok_rdFp hS (by omega) rfl rfl ?_
    refine ok_rdFp hS (by omega) rfl rfl ?_
    refine ok_rdFx hS (by omega) rfl rfl ?_
    refine ok_bd2 (tf_X4_setToRank (G := T5 n nd tl (some g) [a, b] E) (by omega) rfl tR_id (fun L i x hx hL => tR_set hx L hL) hS (by omega)) (fun _ _ hQ => ?_)
    obtain ⟨hS, -⟩ := hQ
    refine ok_rdFp hS (by omega) rfl rfl ?_
    refine ok_is hS (by omega) rfl ?_
    refine ok_bd2 (tf_X5_doAllFind (by omega) hn (by omega) rfl tR_id (by omega) hS (by omega)) (fun _ _ hQ => ?_)
    obtain ⟨hS, -⟩ := hQ
    refine ok_if (fun _ => ?_) (fun _ => ?_)
    · exact ih _ (i1 + 1) ⟨n, nd, E, N, hn, hd, hN, hS, hD, hR⟩ (by omega) (by omega)
    · refine ok_is hS (by omega) eg ?_
      refine ok_bd2 (tf_X0_moveTo (g := g) (by omega) eg eg2 ⟨hr1, hr2⟩ hi hS (by omega)) (fun _ _ hQ => ?_)
      obtain ⟨rfl, -⟩ := hQ
      exact ok_some ⟨n, nd, some g, E, N, hn, hd, hN, hS, hD, hR⟩
theorem tf_X5_till {R : xT} {a b : Option Nat} {k : Nat} {S : xS} {i0 : Int} (hJ : J5 R tl a b S) (hi : -2147483648 ≤ i0 ∧ i0 < 2147483648) (hk : 30700 ≤ (k : Int)) : Ok (f_X5_till k S 0 i0) (fun _ S' => J5 R tl a b S') := by
  have hJ0 := hJ
  obtain ⟨n, nd, rp, E, N, hn, hd, hN, hS, hD, hR⟩ := hJ
  obtain ⟨k, rfl⟩ : ∃ k', k = k' + 1 := ⟨k - 1, by omega⟩
  show Ok (b_X5_till_0 (g_X5_till k) k S 0 0 i0 0) _
  unfold b_X5_till_0
  refine ok_if (fun hc => ?_) (fun hc => ?_)
  · simp (disch := omega) only [wIn] at hc
    refine ok_is hS (by omega) rfl ?_
    obtain ⟨g, S', e, hJ'⟩ := tf_X5_reachNow hJ0 (k := k) (by omega)
    rw [bd2_some e]
    exact tg_X5_till (by omega) k S' 0 hJ' (by omega) (by omega)
  · refine ok_is hS (by omega) rfl ?_
    refine ok_bd2 (tf_X5_refuseQuestion (by omega) hn hS trivial) (fun _ _ hQ => ?_)
    exact ok_some ⟨n, nd, rp, E, N, hn, hd, hN, hQ.1, hD, hR⟩
