variable {G : xT} {N : Nat} {n tl : Int} {a b : Bool}
/-- the rank of a hand is told by its first nn -/
theorem rk_p2 {nn : Nat} (hN : 45 ≤ N) (hn : 2 ≤ nn ∧ nn ≤ 7) (hG : ∀ q, 26 ≤ q → q < 45 → G q = R6 (nn : Int) tl a b q) {V : Nat → Int} (hV : ∀ j, j < nn → 0 ≤ V j ∧ V j ≤ 6) {i c : Nat} {zi i0 : Int} (hzi : zi = (i : Int)) (hi : i < nn) (hnx : ∀ i0 : Int, ∃ r, ∀ (k : Nat) (S : xS) (K : List Int), Hp G N S → S[31]? = some (.inl (0, K)) → (∀ j, j < nn → K[j]? = some (V j)) → c ≤ k → Ok (g_X6_rankOf k 1 S 26 i0 (zi + 1) 0 0 0) (fun r' S' => r' = r ∧ S' = S)) : ∀ (e j : Nat) (z s : Int), j + e = nn → z = (j : Int) → ∃ r, ∀ (k : Nat) (S : xS) (K : List Int), Hp G N S → S[31]? = some (.inl (0, K)) → (∀ j, j < nn → K[j]? = some (V j)) → c + 10 + 2 * e ≤ k → Ok (g_X6_rankOf k 2 S 26 i0 zi s z 0) (fun r' S' => r' = r ∧ S' = S) := by
  have g26 := hG 26 (by omega) (by omega)
  have g27 := hG 27 (by omega) (by omega)
  intro e
  induction e with
  | zero =>
    intro j z s hj hz
    obtain ⟨r, hr⟩ := hnx (i0 + s * fac ((nn : Int) - 1 - zi))
    refine ⟨r, fun k S K hS eK hK hk => ?_⟩
    obtain ⟨k, rfl⟩ : ∃ k', k = k' + 1 := ⟨k - 1, by omega⟩
    show Ok (b_X6_rankOf_2 (g_X6_rankOf k) k S 26 i0 zi s z 0) _
    unfold b_X6_rankOf_2
    rw [if_pos (is6 hN g26 hS), bd2_some (tf_X6_n (by omega) g26 g27 hS)]
    rw [wIn (n := z) (by omega) (by omega), wIn (n := (nn : Int)) (by omega) (by omega), if_pos (by omega), if_pos (is6 hN g26 hS), bd2_some (tf_X6_n (by omega) g26 g27 hS), bd2_some (tf_X6_factorial (by omega) (by omega))]
    exact hr k S K hS eK hK (by omega)
  | succ e ih =>
    intro j z s hj hz
    obtain ⟨r, hr⟩ := ih (j + 1) (z + 1) (s + (if wI (V i) ≤ wI (V j) then 0 else 1)) (by omega) (by omega)
    refine ⟨r, fun k S K hS eK hK hk => ?_⟩
    obtain ⟨k, rfl⟩ : ∃ k', k = k' + 2 := ⟨k - 2, by omega⟩
    show Ok (b_X6_rankOf_2 (g_X6_rankOf (k + 1)) (k + 1) S 26 i0 zi s z 0) _
    unfold b_X6_rankOf_2
    rw [if_pos (is6 hN g26 hS), bd2_some (tf_X6_n (by omega) g26 g27 hS)]
    rw [wIn (n := z) (by omega) (by omega), wIn (n := (nn : Int)) (by omega) (by omega), if_neg (by omega)]
    refine ok_rdFp hS (by omega) g26 rfl ?_
    rw [rdA_at eK (by omega) (by omega), show z.toNat = j by omega, hK j (by omega)]
    show Ok ((rdFp 5 6 S 26).bind _) _
    refine ok_rdFp hS (by omega) g26 rfl ?_
    rw [rdA_at eK (by omega) (by omega), show zi.toNat = i by omega, hK i (by omega)]
    show Ok (if wI (V i) ≤ wI (V j) then g_X6_rankOf (k + 1) 3 S 26 i0 zi z s 0 else g_X6_rankOf (k + 1) 3 S 26 i0 zi z s 1) _
    have h := hr k S K hS eK hK (by omega)
    by_cases hc : wI (V i) ≤ wI (V j)
    · rw [if_pos hc] at h ⊢
      exact h
    · rw [if_neg hc] at h ⊢
      exact h
theorem rk_p1 {nn : Nat} (hN : 45 ≤ N) (hn : 2 ≤ nn ∧ nn ≤ 7) (hG : ∀ q, 26 ≤ q → q < 45 → G q = R6 (nn : Int) tl a b q) {V : Nat → Int} (hV : ∀ j, j < nn → 0 ≤ V j ∧ V j ≤ 6) : ∀ (d i : Nat) (zi i0 : Int), i + d = nn → zi = (i : Int) → ∃ r, ∀ (k : Nat) (S : xS) (K : List Int), Hp G N S → S[31]? = some (.inl (0, K)) → (∀ j, j < nn → K[j]? = some (V j)) → 2 + 25 * d ≤ k → Ok (g_X6_rankOf k 1 S 26 i0 zi 0 0 0) (fun r' S' => r' = r ∧ S' = S) := by
  have g26 := hG 26 (by omega) (by omega)
  have g27 := hG 27 (by omega) (by omega)
  intro d
  induction d with
  | zero =>
    intro i zi i0 hi hz
    refine ⟨i0, fun k S K hS eK hK hk => ?_⟩
    obtain ⟨k, rfl⟩ : ∃ k', k = k' + 1 := ⟨k - 1, by omega⟩
    show Ok (b_X6_rankOf_1 (g_X6_rankOf k) k S 26 i0 zi 0 0 0) _
    unfold b_X6_rankOf_1
    rw [if_pos (is6 hN g26 hS), bd2_some (tf_X6_n (by omega) g26 g27 hS)]
    rw [wIn (n := zi) (by omega) (by omega), wIn (n := (nn : Int)) (by omega) (by omega), if_pos (by omega)]
    exact ok_some ⟨rfl, rfl⟩
  | succ d ih =>
    intro i zi i0 hi hz
    obtain ⟨r, hr⟩ := rk_p2 hN hn hG hV (i := i) (c := 2 + 25 * d) (zi := zi) (i0 := i0) hz (by omega) (fun i0 => ih (i + 1) (zi + 1) i0 (by omega) (by omega)) (nn - (i + 1)) (i + 1) (zi + 1) 0 (by omega) (by omega)
    refine ⟨r, fun k S K hS eK hK hk => ?_⟩
    obtain ⟨k, rfl⟩ : ∃ k', k = k' + 1 := ⟨k - 1, by omega⟩
    show Ok (b_X6_rankOf_1 (g_X6_rankOf k) k S 26 i0 zi 0 0 0) _
    unfold b_X6_rankOf_1
    rw [if_pos (is6 hN g26 hS), bd2_some (tf_X6_n (by omega) g26 g27 hS)]
    rw [wIn (n := zi) (by omega) (by omega), wIn (n := (nn : Int)) (by omega) (by omega), if_neg (by omega)]
    exact hr k S K hS eK hK (by omega)
theorem rk_pu {nn : Nat} (hN : 45 ≤ N) (hn : 2 ≤ nn ∧ nn ≤ 7) (hG : ∀ q, 26 ≤ q → q < 45 → G q = R6 (nn : Int) tl a b q) {V : Nat → Int} (hV : ∀ j, j < nn → 0 ≤ V j ∧ V j ≤ 6) : ∃ r, ∀ (k : Nat) (S : xS) (K : List Int), Hp G N S → S[31]? = some (.inl (0, K)) → (∀ j, j < nn → K[j]? = some (V j)) → 200 ≤ k → Ok (f_X6_rankOf k S 26) (fun r' S' => r' = r ∧ S' = S) := by
  obtain ⟨r, hr⟩ := rk_p1 hN hn hG hV nn 0 0 0 (by omega) rfl
  refine ⟨r, fun k S K hS eK hK hk => ?_⟩
  obtain ⟨k, rfl⟩ : ∃ k', k = k' + 1 := ⟨k - 1, by omega⟩
  exact hr k S K hS eK hK (by omega)
/-- what calls of the reference that look alone leave as it was -/
def fr6 (S S' : xS) : Prop := (∀ q, q ≠ 26 → q ≠ 31 → q ≠ 32 → q ≠ 33 → q ≠ 34 → S'[q]? = S[q]?) ∧ (∀ k, k ≠ 9 → k ≠ 10 → rdFi 5 k S' 26 = rdFi 5 k S 26)
theorem fr6_r (S : xS) : fr6 S S := ⟨fun _ _ _ _ _ _ => rfl, fun _ _ _ => rfl⟩
theorem fr6_t {S S' S'' : xS} (h1 : fr6 S S') (h2 : fr6 S' S'') : fr6 S S'' := ⟨fun q a1 a2 a3 a4 a5 => (h2.1 q a1 a2 a3 a4 a5).trans (h1.1 q a1 a2 a3 a4 a5), fun k a1 a2 => (h2.2 k a1 a2).trans (h1.2 k a1 a2)⟩
theorem fr6_q {S S' : xS} (h : ∀ q, q ≠ 31 → q ≠ 32 → q ≠ 33 → q ≠ 34 → S'[q]? = S[q]?) : fr6 S S' := ⟨fun q _ a2 a3 a4 a5 => h q a2 a3 a4 a5, fun k _ _ => rdFi_cg (h 26 (by omega) (by omega) (by omega) (by omega))⟩
/-- the way behind a way by a move is told by what is told now -/
theorem bh_pu {nn : Nat} (hN : 45 ≤ N) (hn : 2 ≤ nn ∧ nn ≤ 7) (hG : ∀ q, 26 ≤ q → q < 45 → G q = R6 (nn : Int) tl a b q) {L : List Int} (hp : nw (nn : Int) L) {c : Int} (h41 : L[41]? = some c) (r m : Int) : ∃ y, 0 ≤ r ∧ r < fac (nn : Int) → 0 ≤ m ∧ m < c → L.length = 57 → ∀ (k : Nat) (S : xS), Hp G N S → S[27]? = some (.inl (0, L)) → 600 ≤ k → Ok (f_X6_behind k S 26 r m) (fun y' S' => (y' = y ∧ 0 ≤ y ∧ y < fac (nn : Int)) ∧ Hp G N S' ∧ fr6 S S') := by
  by_cases hall : (0 ≤ r ∧ r < fac (nn : Int)) ∧ (0 ≤ m ∧ m < c) ∧ L.length = 57
  · obtain ⟨hr, hm, hL⟩ := hall
    have hn' : 2 ≤ (nn : Int) ∧ (nn : Int) ≤ 7 := by omega
    have g26 := hG 26 (by omega) (by omega)
    have g27 := hG 27 (by omega) (by omega)
    have hc := hp.2.2.2.2.2.2.2.1 c h41
    obtain ⟨x, hx⟩ : ∃ v, L[(42 + m).toNat]? = some v := ⟨_, List.getElem?_eq_getElem (by omega)⟩
    have hxr := hp.2.2.2.2.2.2.2.2.1 m.toNat c x h41 (by omega) (by rw [← hx, show 42 + m.toNat = (42 + m).toNat by omega])
    have w0 : tR 0 6 (List.replicate 7 0) := fun x hx => by rw [(List.mem_replicate.mp hx).2]; omega
    have wr := wyd_pm hn hr (List.length_replicate (n := 7) (a := (0 : Int))) w0
    have wx := wyd_pm hn hxr (List.length_replicate (n := 7) (a := (0 : Int))) w0
    have gr : ∀ j, j < nn → (wy nn r ++ (List.replicate 7 0).drop nn)[j]? = (wy nn r)[j]? := fun j hj => List.getElem?_append_left (by rw [(wy_s hn hr).1]; exact hj)
    have gx : ∀ j, j < nn → (wy nn x ++ (List.replicate 7 0).drop nn)[j]? = (wy nn x)[j]? := fun j hj => List.getElem?_append_left (by rw [(wy_s hn hxr).1]; exact hj)
    have hex : ∀ w : Nat, ∃ v : Int, w < nn → (0 ≤ v ∧ v ≤ 6) ∧ ∃ j, j < nn ∧ (wy nn x)[j]? = some (w : Int) ∧ (wy nn r)[j]? = some v := by
      intro w
      by_cases hw : w < nn
      · obtain ⟨j, hj, ej⟩ := pm_sur hn.2 wx hw
        obtain ⟨v, hv, hvn⟩ := pm_get hn.2 wr hj
        rw [gx j hj] at ej
        rw [gr j hj] at hv
        exact ⟨v, fun _ => ⟨by omega, j, hj, ej, hv⟩⟩
      · exact ⟨0, fun h => absurd h hw⟩
    obtain ⟨V, hV⟩ := Classical.axiomOfChoice hex
    obtain ⟨y, hy⟩ := rk_pu hN hn hG (V := V) (fun j hj => (hV j hj).1)
    refine ⟨y, fun _ _ _ k S hS eL hk => ?_⟩
    unfold f_X6_behind
    rw [if_pos (is6 hN g26 hS)]
    refine ok_bd2 (tk_rank hN hn hG hS hr (by omega)) (fun _ S1 hQ => ?_)
    obtain ⟨hS1, K1, e1, eK1, hK1, hw1⟩ := hQ
    rw [if_pos (is6 hN g26 hS1)]
    refine ok_bd2 (mk_hand hN hn hG hS1 (L := L) (by rw [e1, List.getElem?_set_ne (by omega)]; exact eL) hp eK1 hK1 (by omega) hx hxr (by omega)) (fun _ S2 hQ => ?_)
    obtain ⟨hS2, hq2, K2, eK2, hK2, hw2⟩ := hQ
    rw [if_pos (is6 hN g26 hS2)]
    have hKV : ∀ j, j < nn → K2[j]? = some (V j) := fun w hw => by
      obtain ⟨_, j, hj, ex, er⟩ := hV w hw
      rw [hw2 j w hj ex, hw1 j hj, er]
    obtain ⟨r', S3, e3, rfl, rfl⟩ := hy k S2 K2 hS2 eK2 hKV (by omega)
    obtain ⟨r'', S3, e4, rfl, hrr⟩ := tf_X6_rankOf hN hn' g26 g27 (hG 31 (by omega) (by omega)) (k := k) hS2 (by omega)
    rw [e3] at e4
    cases e4
    rw [bd2_some e3]
    refine ok_some ⟨⟨rfl, hrr⟩, hS2, fr6_q (fun q a1 a2 a3 a4 => ?_)⟩
    rw [hq2 q a1 a3 a4, e1, List.getElem?_set_ne (by omega)]
  · exact ⟨0, fun h1 h2 h3 => absurd ⟨h1, h2, h3⟩ hall⟩
