variable {G : xT} {N : Nat} {n tl : Int} {a b : Bool}
theorem fr_p1 {nn : Nat} (hN : 45 ≤ N) (hn : 2 ≤ nn ∧ nn ≤ 7) (hG : ∀ q, 26 ≤ q → q < 45 → G q = R6 (nn : Int) tl a b q) {u : Int} : ∀ (d : Nat) (x : Int), 0 ≤ x ∧ x < nn → (d : Int) < nn → hb u ((x + (d : Int)) % nn) = false → ∃ r : Nat, r < nn ∧ ∀ (k : Nat) (S : xS), Hp G N S → d + 1 ≤ k → Ok (g_X6_free k 1 S 26 u x) (fun r' S' => r' = (r : Int) ∧ S' = S) := by
  have g26 := hG 26 (by omega) (by omega)
  have g27 := hG 27 (by omega) (by omega)
  have stop : ∀ (d : Nat) (x : Int), 0 ≤ x ∧ x < nn → hb u x = false → ∃ r : Nat, r < nn ∧ ∀ (k : Nat) (S : xS), Hp G N S → d + 1 ≤ k → Ok (g_X6_free k 1 S 26 u x) (fun r' S' => r' = (r : Int) ∧ S' = S) := by
    intro d x hx hf
    refine ⟨x.toNat, by omega, fun k S hS hk => ?_⟩
    obtain ⟨k, rfl⟩ : ∃ k', k = k' + 1 := ⟨k - 1, by omega⟩
    show Ok (b_X6_free_1 (g_X6_free k) k S 26 u x) _
    unfold b_X6_free_1
    refine ok_neg (fun h => ?_) (ok_some ⟨by omega, rfl⟩)
    rw [hb_iff.mp h] at hf
    cases hf
  intro d
  induction d with
  | zero =>
    intro x hx _ hf
    refine stop 0 x hx ?_
    rw [show x + ((0 : Nat) : Int) = x by omega, Int.emod_eq_of_lt hx.1 hx.2] at hf
    exact hf
  | succ d ih =>
    intro x hx hd hf
    cases hb0 : hb u x with
    | false => exact stop (d + 1) x hx hb0
    | true =>
      have h1 := Int.emod_nonneg (x + 1) (show (nn : Int) ≠ 0 by omega)
      have h2 := Int.emod_lt_of_pos (x + 1) (show 0 < (nn : Int) by omega)
      have e : ((x + 1) % nn + (d : Int)) % nn = (x + ((d + 1 : Nat) : Int)) % nn := by
        rw [Int.emod_add_emod, show x + 1 + (d : Int) = x + ((d + 1 : Nat) : Int) by omega]
      obtain ⟨r, hr, h⟩ := ih ((x + 1) % nn) ⟨h1, h2⟩ (by omega) (by rw [e]; exact hf)
      refine ⟨r, hr, fun k S hS hk => ?_⟩
      obtain ⟨k, rfl⟩ : ∃ k', k = k' + 1 := ⟨k - 1, by omega⟩
      show Ok (b_X6_free_1 (g_X6_free k) k S 26 u x) _
      unfold b_X6_free_1
      rw [if_pos (hb_iff.mpr hb0), if_pos (is6 hN g26 hS), bd2_some (tf_X6_n (by omega) g26 g27 hS)]
      refine ok_neg (by rw [wIn (n := (nn : Int)) (by omega) (by omega)]; omega) ?_
      rw [wIn (n := x + 1) (by omega) (by omega), wIn (n := (nn : Int)) (by omega) (by omega), Int.tmod_eq_emod_of_nonneg (by omega)]
      exact h k S hS (by omega)
theorem fr_pu {nn : Nat} (hN : 45 ≤ N) (hn : 2 ≤ nn ∧ nn ≤ 7) (hG : ∀ q, 26 ≤ q → q < 45 → G q = R6 (nn : Int) tl a b q) {u x : Int} (hu : pcn u < nn) (hx : 0 ≤ x ∧ x < 100) : ∃ r : Nat, r < nn ∧ ∀ (k : Nat) (S : xS), Hp G N S → 10 ≤ k → Ok (f_X6_free k S 26 ((wI x).tmod (wI (nn : Int))) u) (fun r' S' => r' = (r : Int) ∧ S' = S) := by
  have hn' : 2 ≤ (nn : Int) ∧ (nn : Int) ≤ 7 := by omega
  have hx := t_md hx hn'
  generalize (wI x).tmod (wI (nn : Int)) = x at hx
  obtain ⟨f, h0, h1, hf⟩ := pcn_free hn' hu
  have hd : ∃ d : Nat, (d : Int) < nn ∧ (x + (d : Int)) % nn = f := by
    by_cases hxf : x ≤ f
    · exact ⟨(f - x).toNat, by omega, by rw [show x + (((f - x).toNat : Nat) : Int) = f by omega]; exact Int.emod_eq_of_lt h0 h1⟩
    · refine ⟨(f - x + nn).toNat, by omega, ?_⟩
      rw [show x + (((f - x + nn).toNat : Nat) : Int) = f + nn by omega, Int.add_emod_right]
      exact Int.emod_eq_of_lt h0 h1
  obtain ⟨d, hd1, hd2⟩ := hd
  obtain ⟨r, hr, h⟩ := fr_p1 hN hn hG d x hx hd1 (by rw [hd2]; exact hf)
  refine ⟨r, hr, fun k S hS hk => ?_⟩
  obtain ⟨k, rfl⟩ : ∃ k', k = k' + 1 := ⟨k - 1, by omega⟩
  exact h k S hS (by omega)
theorem ev_pu {nn : Nat} (hN : 45 ≤ N) (hn : 2 ≤ nn ∧ nn ≤ 7) (hG : ∀ q, 26 ≤ q → q < 45 → G q = R6 (nn : Int) tl a b q) {c : Nat} {zc : Int} (hzc : zc = (c : Int)) (hc : c < nn) : ∃ r : Nat, r < nn ∧ ∀ (k : Nat) (S : xS), Hp G N S → Ok (f_X6_evenBox k S 26 zc) (fun r' S' => r' = (r : Int) ∧ S' = S) := by
  have g26 := hG 26 (by omega) (by omega)
  have g27 := hG 27 (by omega) (by omega)
  have e : (wI ((nn : Int) + 1)).tdiv (wI 2) = ((nn : Int) + 1) / 2 := by
    rw [wIn (n := (nn : Int) + 1) (by omega) (by omega), wIn (n := 2) (by omega) (by omega), Int.tdiv_eq_ediv_of_nonneg (by omega)]
  refine ⟨if ((nn : Int) + 1) / 2 ≤ zc then 2 * (c - (nn + 1) / 2) + 1 else 2 * c, by split <;> omega, fun k S hS => ?_⟩
  unfold f_X6_evenBox
  rw [if_pos (is6 hN g26 hS), bd2_some (tf_X6_n (by omega) g26 g27 hS)]
  refine ok_neg (by decide) ?_
  rw [e]
  show Ok (if wI (((nn : Int) + 1) / 2) ≤ wI zc then some ((2 * (zc - ((nn : Int) + 1) / 2)) + 1, S) else some (2 * zc, S)) _
  rw [wIn (n := zc) (by omega) (by omega), wIn (n := ((nn : Int) + 1) / 2) (by omega) (by omega)]
  refine ok_if (fun hc => ?_) (fun hc => ?_)
  · rw [if_pos hc]
    exact ok_some ⟨by omega, rfl⟩
  · rw [if_neg hc]
    exact ok_some ⟨by omega, rfl⟩
/-- what is told now is L, the hand's first nn are V -/
def St6 (G : xT) (N nn : Nat) (L : List Int) (V : Nat → Nat) (S : xS) : Prop := Hp G N S ∧ S[27]? = some (.inl (0, L)) ∧ ∃ K, S[31]? = some (.inl (0, K)) ∧ ∀ j, j < nn → K[j]? = some (V j : Int)
def Bx6 (c : Nat) (β : Nat → Nat) (S : xS) : Prop := ∃ B, S[32]? = some (.inl (0, B)) ∧ B.length = 7 ∧ ∀ j, j < c → B[j]? = some (β j : Int)
theorem bx_p2 {nn : Nat} (hN : 45 ≤ N) (hn : 2 ≤ nn ∧ nn ≤ 7) (hG : ∀ q, 26 ≤ q → q < 45 → G q = R6 (nn : Int) tl a b q) {L : List Int} {V : Nat → Nat} (hL : L.length = 57) (hp : nw (nn : Int) L) {s c l y : Nat} {zs zc zl zy : Int} (ezs : zs = (s : Int)) (ezc : zc = (c : Int)) (ezl : zl = (l : Int)) (ezy : zy = (y : Int)) (hs : s < nn) (hc : c < nn) (hl : l < nn) (hy : y < nn) {u : Int} (hu : pcn u < nn) : ∃ r : Nat, r < nn ∧ ∀ (k : Nat) (S : xS) (p1 : Nat), St6 G N nn L V S → 16 ≤ k → Ok (g_X6_boxOf k 2 S 26 p1 zs zc u zl zy) (fun r' S' => r' = (r : Int) ∧ S' = S) := by
  have hn' : 2 ≤ (nn : Int) ∧ (nn : Int) ≤ 7 := by omega
  have g26 := hG 26 (by omega) (by omega)
  have g27 := hG 27 (by omega) (by omega)
  obtain ⟨t, ht⟩ : ∃ v, L[10 + s]? = some v := ⟨_, List.getElem?_eq_getElem (by omega)⟩
  obtain ⟨t2, ht2⟩ : ∃ v, L[2]? = some v := ⟨_, List.getElem?_eq_getElem (by omega)⟩
  have ht2r := hp.2.2.1 t2 ht2
  have three : ∀ t : Int, 0 ≤ t ∧ t ≤ 6 → ∃ r : Nat, r < nn ∧ ∀ (k : Nat) (S : xS), Hp G N S → 12 ≤ k → Ok (g_X6_boxOf k 3 S 26 26 u zl t 0 0) (fun r' S' => r' = (r : Int) ∧ S' = S) := by
    intro t ht
    obtain ⟨r, hr, h⟩ := fr_pu hN hn hG hu (x := zl + t) (by omega)
    refine ⟨r, hr, fun k S hS hk => ?_⟩
    obtain ⟨k, rfl⟩ : ∃ k', k = k' + 1 := ⟨k - 1, by omega⟩
    show Ok (b_X6_boxOf_3 (g_X6_boxOf k) k S 26 26 u zl t 0 0) _
    unfold b_X6_boxOf_3
    rw [if_pos (is6 hN g26 hS), bd2_some (tf_X6_n (by omega) g26 g27 hS)]
    refine ok_neg (by rw [wIn (n := (nn : Int)) (by omega) (by omega)]; omega) ?_
    rw [if_pos (is6 hN g26 hS)]
    exact ok_bd2 (h k S hS (by omega)) (fun _ _ hQ => ok_some hQ)
  by_cases c1 : wI t = 1
  · refine ⟨c, hc, fun k S p1 hS hk => ?_⟩
    obtain ⟨hS, eL, -⟩ := hS
    obtain ⟨k, rfl⟩ : ∃ k', k = k' + 1 := ⟨k - 1, by omega⟩
    show Ok (b_X6_boxOf_2 (g_X6_boxOf k) k S 26 p1 zs zc u zl zy) _
    unfold b_X6_boxOf_2
    refine ok_rdFp hS (by omega) g26 rfl ?_
    rw [rdA_at eL (by omega) (by omega), show (10 + zs).toNat = 10 + s by omega, ht]
    exact ok_pos c1 (ok_some ⟨ezc, rfl⟩)
  by_cases c2 : wI t = 2
  · refine ⟨nn - 1 - c, by omega, fun k S p1 hS hk => ?_⟩
    obtain ⟨hS, eL, -⟩ := hS
    obtain ⟨k, rfl⟩ : ∃ k', k = k' + 1 := ⟨k - 1, by omega⟩
    show Ok (b_X6_boxOf_2 (g_X6_boxOf k) k S 26 p1 zs zc u zl zy) _
    unfold b_X6_boxOf_2
    refine ok_rdFp hS (by omega) g26 rfl ?_
    rw [rdA_at eL (by omega) (by omega), show (10 + zs).toNat = 10 + s by omega, ht]
    refine ok_neg c1 (ok_pos c2 ?_)
    rw [if_pos (is6 hN g26 hS), bd2_some (tf_X6_n (by omega) g26 g27 hS)]
    exact ok_some ⟨by omega, rfl⟩
  by_cases c3 : wI t = 3
  · obtain ⟨r, hr, h⟩ := ev_pu hN hn hG ezc hc
    refine ⟨r, hr, fun k S p1 hS hk => ?_⟩
    obtain ⟨hS, eL, -⟩ := hS
    obtain ⟨k, rfl⟩ : ∃ k', k = k' + 1 := ⟨k - 1, by omega⟩
    show Ok (b_X6_boxOf_2 (g_X6_boxOf k) k S 26 p1 zs zc u zl zy) _
    unfold b_X6_boxOf_2
    refine ok_rdFp hS (by omega) g26 rfl ?_
    rw [rdA_at eL (by omega) (by omega), show (10 + zs).toNat = 10 + s by omega, ht]
    refine ok_neg c1 (ok_neg c2 (ok_pos c3 ?_))
    rw [if_pos (is6 hN g26 hS)]
    exact ok_bd2 (h k S hS) (fun _ _ hQ => ok_some hQ)
  by_cases c4 : wI t = 4
  · obtain ⟨r, hr, h⟩ := fr_pu hN hn hG hu (x := zy + t2) (by omega)
    refine ⟨r, hr, fun k S p1 hS hk => ?_⟩
    obtain ⟨hS, eL, -⟩ := hS
    obtain ⟨k, rfl⟩ : ∃ k', k = k' + 1 := ⟨k - 1, by omega⟩
    show Ok (b_X6_boxOf_2 (g_X6_boxOf k) k S 26 p1 zs zc u zl zy) _
    unfold b_X6_boxOf_2
    refine ok_rdFp hS (by omega) g26 rfl ?_
    rw [rdA_at eL (by omega) (by omega), show (10 + zs).toNat = 10 + s by omega, ht]
    refine ok_neg c1 (ok_neg c2 (ok_neg c3 (ok_pos c4 ?_)))
    refine ok_rdFp hS (by omega) g26 rfl ?_
    rw [rdA_at eL (by omega) (by omega), show (2 : Int).toNat = 2 from rfl, ht2]
    show Ok (if isO 5 S 26 = true then _ else _) _
    rw [if_pos (is6 hN g26 hS), bd2_some (tf_X6_n (by omega) g26 g27 hS)]
    refine ok_neg (by rw [wIn (n := (nn : Int)) (by omega) (by omega)]; omega) ?_
    rw [if_pos (is6 hN g26 hS)]
    exact ok_bd2 (h k S hS (by omega)) (fun _ _ hQ => ok_some hQ)
  by_cases c5 : wI t = 5
  · by_cases c0 : c = 0
    · refine ⟨0, by omega, fun k S p1 hS hk => ?_⟩
      obtain ⟨hS, eL, -⟩ := hS
      obtain ⟨k, rfl⟩ : ∃ k', k = k' + 1 := ⟨k - 1, by omega⟩
      show Ok (b_X6_boxOf_2 (g_X6_boxOf k) k S 26 p1 zs zc u zl zy) _
      unfold b_X6_boxOf_2
      refine ok_rdFp hS (by omega) g26 rfl ?_
      rw [rdA_at eL (by omega) (by omega), show (10 + zs).toNat = 10 + s by omega, ht]
      refine ok_neg c1 (ok_neg c2 (ok_neg c3 (ok_neg c4 (ok_pos c5 ?_))))
      exact ok_pos (by rw [show zc = 0 by omega]; decide) (ok_some ⟨rfl, rfl⟩)
    · obtain ⟨r, hr, h⟩ := three (if t2 = 0 then 1 else t2) (by split <;> omega)
      refine ⟨r, hr, fun k S p1 hS hk => ?_⟩
      obtain ⟨hS, eL, -⟩ := hS
      obtain ⟨k, rfl⟩ : ∃ k', k = k' + 1 := ⟨k - 1, by omega⟩
      show Ok (b_X6_boxOf_2 (g_X6_boxOf k) k S 26 p1 zs zc u zl zy) _
      unfold b_X6_boxOf_2
      refine ok_rdFp hS (by omega) g26 rfl ?_
      rw [rdA_at eL (by omega) (by omega), show (10 + zs).toNat = 10 + s by omega, ht]
      refine ok_neg c1 (ok_neg c2 (ok_neg c3 (ok_neg c4 (ok_pos c5 ?_))))
      refine ok_neg (by rw [wIn (n := zc) (by omega) (by omega)]; omega) ?_
      refine ok_rdFp hS (by omega) g26 rfl ?_
      rw [rdA_at eL (by omega) (by omega), show (2 : Int).toNat = 2 from rfl, ht2]
      show Ok (if wI t2 = 0 then _ else _) _
      rw [wIn (n := t2) (by omega) (by omega)]
      have h' := h k S hS (by omega)
      refine ok_if (fun hz => ?_) (fun hz => ?_)
      · rw [if_pos hz] at h'
        exact h'
      · rw [if_neg hz] at h'
        refine ok_rdFp hS (by omega) g26 rfl ?_
        rw [rdA_at eL (by omega) (by omega), show (2 : Int).toNat = 2 from rfl, ht2]
        exact h'
  · refine ⟨y, hy, fun k S p1 hS hk => ?_⟩
    obtain ⟨hS, eL, -⟩ := hS
    obtain ⟨k, rfl⟩ : ∃ k', k = k' + 1 := ⟨k - 1, by omega⟩
    show Ok (b_X6_boxOf_2 (g_X6_boxOf k) k S 26 p1 zs zc u zl zy) _
    unfold b_X6_boxOf_2
    refine ok_rdFp hS (by omega) g26 rfl ?_
    rw [rdA_at eL (by omega) (by omega), show (10 + zs).toNat = 10 + s by omega, ht]
    exact ok_neg c1 (ok_neg c2 (ok_neg c3 (ok_neg c4 (ok_neg c5 (ok_some ⟨ezy, rfl⟩)))))
theorem bx_pu {nn : Nat} (hN : 45 ≤ N) (hn : 2 ≤ nn ∧ nn ≤ 7) (hG : ∀ q, 26 ≤ q → q < 45 → G q = R6 (nn : Int) tl a b q) {L : List Int} {V : Nat → Nat} (hL : L.length = 57) (hp : nw (nn : Int) L) (hV : ∀ j, j < nn → V j < nn) {s c : Nat} {zs zc : Int} (hzs : zs = (s : Int)) (hz : zc = (c : Int)) (hs : s < nn) (hc : c < nn) {β : Nat → Nat} (hβ : ∀ j, j < c → β j < nn) {u : Int} (hu : pcn u < nn) : ∃ r : Nat, r < nn ∧ ∀ (k : Nat) (S : xS), St6 G N nn L V S → Bx6 c β S → 20 ≤ k → Ok (f_X6_boxOf k S 26 zs zc u) (fun r' S' => r' = (r : Int) ∧ S' = S) := by
  have g26 := hG 26 (by omega) (by omega)
  by_cases c0 : c = 0
  · obtain ⟨r, hr, h⟩ := bx_p2 hN hn hG (V := V) hL hp (l := 0) (y := s) (zl := 0) (zy := zs) hzs hz rfl hzs hs hc (by omega) hs hu
    refine ⟨r, hr, fun k S hS _ hk => ?_⟩
    obtain ⟨k, rfl⟩ : ∃ k', k = k' + 2 := ⟨k - 2, by omega⟩
    have z0 : zc = 0 := by omega
    show Ok (b_X6_boxOf_0 (g_X6_boxOf (k + 1)) (k + 1) S 26 0 zs zc u 0 0) _
    unfold b_X6_boxOf_0
    refine ok_pos (by rw [z0]; decide) ?_
    show Ok (b_X6_boxOf_1 (g_X6_boxOf k) k S 26 0 zs zc u 0 0) _
    unfold b_X6_boxOf_1
    exact ok_pos (by rw [z0]; decide) (h k S 0 hS (by omega))
  · have hb := hβ (c - 1) (by omega)
    obtain ⟨zl, hzl⟩ : ∃ zl : Int, zl = (β (c - 1) : Int) := ⟨_, rfl⟩
    obtain ⟨zy, hzy⟩ : ∃ zy : Int, zy = (V (β (c - 1)) : Int) := ⟨_, rfl⟩
    obtain ⟨r, hr, h⟩ := bx_p2 hN hn hG (V := V) hL hp hzs hz hzl hzy hs hc hb (hV _ hb) hu
    refine ⟨r, hr, fun k S hS hB hk => ?_⟩
    obtain ⟨k, rfl⟩ : ∃ k', k = k' + 2 := ⟨k - 2, by omega⟩
    have hS' := hS
    obtain ⟨hH, eL, K, eK, hK⟩ := hS'
    obtain ⟨B, eB, hBl, hBj⟩ := hB
    have hBj' := hBj (c - 1) (by omega)
    rw [← hzl] at hBj'
    have hK' := hK _ hb
    rw [← hzy] at hK'
    show Ok (b_X6_boxOf_0 (g_X6_boxOf (k + 1)) (k + 1) S 26 0 zs zc u 0 0) _
    unfold b_X6_boxOf_0
    refine ok_neg (by rw [wIn (n := zc) (by omega) (by omega)]; omega) ?_
    refine ok_rdFp hH (by omega) g26 rfl ?_
    rw [rdA_at eB (by omega) (by omega), show (zc - 1).toNat = c - 1 by omega, hBj']
    show Ok (b_X6_boxOf_1 (g_X6_boxOf k) k S 26 0 zs zc u zl 0) _
    unfold b_X6_boxOf_1
    refine ok_neg (by rw [wIn (n := zc) (by omega) (by omega)]; omega) ?_
    refine ok_rdFp hH (by omega) g26 rfl ?_
    rw [rdA_at eK (by omega) (by omega), show zl.toNat = β (c - 1) by omega, hK']
    exact h k S 0 hS (by omega)
