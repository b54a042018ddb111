variable {G : xT} {N : Nat} {n tl : Int} {a b : Bool}
theorem tf_X6_evenBox (hN : 45 ≤ N) (hn : 2 ≤ n ∧ n ≤ 7) {mo : xV → Prop} (g26 : G 26 = o6 tl mo) (g27 : G 27 = tA 0 57 (nw n)) {k : Nat} {S : xS} {x : Int} (hS : Hp G N S) (hx : 0 ≤ x ∧ x < n) : Ok (f_X6_evenBox k S 26 x) (fun r S' => S' = S ∧ (0 ≤ r ∧ r ≤ 6)) := by
  unfold f_X6_evenBox
  refine ok_is hS (by omega) g26 ?_
  refine ok_n6 (by omega) g26 g27 hS ?_
  refine ok_neg (by decide) ?_
  have e : (wI (n + 1)).tdiv (wI 2) = (n + 1) / 2 := by
    rw [wIn (n := n + 1) (by omega) (by omega), wIn (n := 2) (by omega) (by omega), Int.tdiv_eq_ediv_of_nonneg (by omega)]
  rw [e]
  show Ok (if wI ((n + 1) / 2) ≤ wI x then some ((2 * (x - (n + 1) / 2)) + 1, S) else some (2 * x, S)) _
  refine ok_if (fun hc => ?_) (fun hc => ?_)
  · simp (disch := omega) only [wIn] at hc
    exact ok_some ⟨rfl, by omega⟩
  · simp (disch := omega) only [wIn] at hc
    exact ok_some ⟨rfl, by omega⟩
theorem ok_free6 (hN : 45 ≤ N) (hn : 2 ≤ n ∧ n ≤ 7) {mo : xV → Prop} (g26 : G 26 = o6 tl mo) (g27 : G 27 = tA 0 57 (nw n)) {u x : Int} (hu : pcn u < n) {k : Nat} {S : xS} (hS : Hp G N S) (hx : 0 ≤ x ∧ x < 100) (hk : 10 ≤ (k : Int)) {Q : Int → xS → Prop} {f : Int → xS → Option (Int × xS)} (hf : ∀ r, 0 ≤ r → r ≤ 6 → Ok (f r S) Q) : Ok (bd2 (f_X6_free k S 26 ((wI x).tmod (wI n)) u) f) Q := by
  have h := t_md hx hn
  refine ok_bd2 (tf_X6_free hN hn g26 g27 hu hS h hk) (fun r S' hQ => ?_)
  obtain ⟨rfl, hQ⟩ := hQ
  exact hf r hQ.1 hQ.2
theorem tg_X6_boxOf3 (hN : 45 ≤ N) (hn : 2 ≤ n ∧ n ≤ 7) {mo : xV → Prop} (g26 : G 26 = o6 tl mo) (g27 : G 27 = tA 0 57 (nw n)) {k : Nat} {S : xS} {u l t i3 i4 : Int} (hS : Hp G N S) (hu : pcn u < n) (hl : 0 ≤ l ∧ l ≤ 6) (ht : 0 ≤ t ∧ t ≤ 6) (hk : 12 ≤ (k : Int)) : Ok (g_X6_boxOf k 3 S 26 26 u l t i3 i4) (fun r S' => S' = S ∧ (0 ≤ r ∧ r ≤ 6)) := by
  obtain ⟨k, rfl⟩ : ∃ k', k = k' + 1 := ⟨k - 1, by omega⟩
  show Ok (b_X6_boxOf_3 (g_X6_boxOf k) k S 26 26 u l t i3 i4) _
  unfold b_X6_boxOf_3
  refine ok_is hS (by omega) g26 ?_
  refine ok_n6 (by omega) g26 g27 hS ?_
  refine ok_neg (by rw [wIn (n := n) (by omega) (by omega)]; omega) ?_
  refine ok_is hS (by omega) g26 ?_
  exact ok_free6 hN hn g26 g27 hu hS (by omega) (by omega) (fun r h1 h2 => ok_some ⟨rfl, h1, h2⟩)
theorem tg_X6_boxOf2 (hN : 45 ≤ N) (hn : 2 ≤ n ∧ n ≤ 7) {mo : xV → Prop} (g26 : G 26 = o6 tl mo) (g27 : G 27 = tA 0 57 (nw n)) {k : Nat} {S : xS} {p1 : Nat} {s x u l y : Int} (hS : Hp G N S) (hs : 0 ≤ s ∧ s ≤ 6) (hx : 0 ≤ x ∧ x < n) (hu : pcn u < n) (hl : 0 ≤ l ∧ l ≤ 6) (hy : 0 ≤ y ∧ y ≤ 6) (hk : 14 ≤ (k : Int)) : Ok (g_X6_boxOf k 2 S 26 p1 s x u l y) (fun r S' => S' = S ∧ (0 ≤ r ∧ r ≤ 6)) := by
  obtain ⟨k, rfl⟩ : ∃ k', k = k' + 1 := ⟨k - 1, by omega⟩
  show Ok (b_X6_boxOf_2 (g_X6_boxOf k) k S 26 p1 s x u l y) _
  unfold b_X6_boxOf_2
  refine ok_rdFp hS (by omega) g26 rfl ?_
  refine ok_nA hS (by omega) g27 (by omega) (fun v => ?_)
  refine ok_if (fun _ => ok_some ⟨rfl, by omega⟩) (fun _ => ?_)
  refine ok_if (fun _ => ?_) (fun _ => ?_)
  · refine ok_is hS (by omega) g26 ?_
    refine ok_n6 (by omega) g26 g27 hS ?_
    exact ok_some ⟨rfl, by omega⟩
  refine ok_if (fun _ => ?_) (fun _ => ?_)
  · refine ok_is hS (by omega) g26 ?_
    refine ok_bd2 (tf_X6_evenBox hN hn g26 g27 hS hx) (fun r S' hQ => ?_)
    exact ok_some hQ
  refine ok_if (fun _ => ?_) (fun _ => ?_)
  · refine ok_rdFp hS (by omega) g26 rfl ?_
    refine ok_n2 hS (by omega) g27 (fun t ht1 ht2 => ?_)
    refine ok_is hS (by omega) g26 ?_
    refine ok_n6 (by omega) g26 g27 hS ?_
    refine ok_neg (by rw [wIn (n := n) (by omega) (by omega)]; omega) ?_
    refine ok_is hS (by omega) g26 ?_
    exact ok_free6 hN hn g26 g27 hu hS (by omega) (by omega) (fun r h1 h2 => ok_some ⟨rfl, h1, h2⟩)
  refine ok_if (fun _ => ?_) (fun _ => ok_some ⟨rfl, hy⟩)
  refine ok_if (fun _ => ok_some ⟨rfl, by omega⟩) (fun _ => ?_)
  refine ok_rdFp hS (by omega) g26 rfl ?_
  refine ok_n2 hS (by omega) g27 (fun t ht1 ht2 => ?_)
  refine ok_if (fun _ => tg_X6_boxOf3 hN hn g26 g27 hS hu hl (by omega) (by omega)) (fun _ => ?_)
  refine ok_rdFp hS (by omega) g26 rfl ?_
  refine ok_n2 hS (by omega) g27 (fun t ht1 ht2 => ?_)
  exact tg_X6_boxOf3 hN hn g26 g27 hS hu hl ⟨ht1, ht2⟩ (by omega)
theorem tf_X6_boxOf (hN : 45 ≤ N) (hn : 2 ≤ n ∧ n ≤ 7) {mo : xV → Prop} (g26 : G 26 = o6 tl mo) (g27 : G 27 = tA 0 57 (nw n)) (g31 : G 31 = tA 0 7 (tR 0 6)) (g32 : G 32 = tA 0 7 (tR 0 6)) {k : Nat} {S : xS} {s x u : Int} (hS : Hp G N S) (hs : 0 ≤ s ∧ s ≤ 6) (hx : 0 ≤ x ∧ x < n) (hu : pcn u < n) (hk : 20 ≤ (k : Int)) : Ok (f_X6_boxOf k S 26 s x u) (fun r S' => S' = S ∧ (0 ≤ r ∧ r ≤ 6)) := by
  obtain ⟨k, rfl⟩ : ∃ k', k = k' + 2 := ⟨k - 2, by omega⟩
  have one : ∀ l : Int, 0 ≤ l ∧ l ≤ 6 → Ok (g_X6_boxOf (k + 1) 1 S 26 0 s x u l 0) (fun r S' => S' = S ∧ (0 ≤ r ∧ r ≤ 6)) := by
    intro l hl
    show Ok (b_X6_boxOf_1 (g_X6_boxOf k) k S 26 0 s x u l 0) _
    unfold b_X6_boxOf_1
    refine ok_if (fun _ => tg_X6_boxOf2 hN hn g26 g27 hS hs hx hu hl hs (by omega)) (fun _ => ?_)
    refine ok_rdFp hS (by omega) g26 rfl ?_
    refine ok_rdA hS (by omega) g31 tR_id (by omega) (by omega) (by omega) (fun y hy1 hy2 => ?_)
    exact tg_X6_boxOf2 hN hn g26 g27 hS hs hx hu hl ⟨hy1, hy2⟩ (by omega)
  show Ok (b_X6_boxOf_0 (g_X6_boxOf (k + 1)) (k + 1) S 26 0 s x u 0 0) _
  unfold b_X6_boxOf_0
  refine ok_if (fun _ => one 0 (by omega)) (fun hc => ?_)
  simp (disch := omega) only [wIn] at hc
  refine ok_rdFp hS (by omega) g26 rfl ?_
  refine ok_rdA hS (by omega) g32 tR_id (by omega) (by omega) (by omega) (fun l hl1 hl2 => ?_)
  exact one l ⟨hl1, hl2⟩
theorem up26_close {c : Int} {S : xS} (g26 : G 26 = o6 tl (fI 0 7)) (hS : Hp (up G 26 (o6 tl (fI c c))) N S) (hc : 0 ≤ c ∧ c ≤ 7) : Hp G N S := hp_close hS (fun cc hcc => by
  rw [g26]
  exact tO_wk (k := 9) (P := fI 0 7) (P' := fI c c) (Ps := [fP 27, fP 28, fP 29, fP 30, fL, fL, fP 31, fZ, fP 32, fI 0 7, fI 0 1, fZ, fP 33, fP 34, fP 35, fP 36, fP 37, fZ, fP 38, fP 39, fP 40, fP 41, fP 42, fI tl tl, fI 0 150, fI 0 150, fZ, fI 0 9999, fP 43, fP 44]) rfl (fI_wk hc) hcc)
theorem up26_set {c d : Int} {S : xS} (hS : Hp (up (up G 26 (o6 tl (fI c c))) 26 (o6 tl (fI d d))) N S) : Hp (up G 26 (o6 tl (fI d d))) N S := by
  rw [up_up] at hS
  exact hS
theorem tg_X6_seek (hN : 45 ≤ N) (hn : 2 ≤ n ∧ n ≤ 7) (g26 : G 26 = o6 tl (fI 0 7)) (g27 : G 27 = tA 0 57 (nw n)) (g31 : G 31 = tA 0 7 (tR 0 6)) (g32 : G 32 = tA 0 7 (tR 0 6)) {s : Int} (hs : 0 ≤ s ∧ s ≤ 6) : ∀ (k : Nat) (S : xS) (p1 : Nat) (u i2 c : Int), Hp (up G 26 (o6 tl (fI c c))) N S → 0 ≤ c ∧ c ≤ n → 0 ≤ u ∧ u < 128 → pcn u ≤ c → 2 * (n - c) + 24 ≤ (k : Int) → Ok (g_X6_seek k 1 S 26 p1 s u i2) (fun _ S' => Hp G N S' ∧ True) := by
  intro k
  induction k using Nat.strongRecOn with
  | _ k ih =>
    intro S p1 u i2 c hS hc hu hpc hk
    obtain ⟨k, rfl⟩ : ∃ k', k = k' + 2 := ⟨k - 2, by omega⟩
    have e26 : ∀ {d : Int}, up G 26 (o6 tl (fI d d)) 26 = o6 tl (fI d d) := up_self
    have e27 : ∀ {d : Int}, up G 26 (o6 tl (fI d d)) 27 = tA 0 57 (nw n) := (up_ne (by decide)).trans g27
    have e31 : ∀ {d : Int}, up G 26 (o6 tl (fI d d)) 31 = tA 0 7 (tR 0 6) := (up_ne (by decide)).trans g31
    have e32 : ∀ {d : Int}, up G 26 (o6 tl (fI d d)) 32 = tA 0 7 (tR 0 6) := (up_ne (by decide)).trans g32
    show Ok (b_X6_seek_1 (g_X6_seek (k + 1)) (k + 1) S 26 p1 s u i2) _
    unfold b_X6_seek_1
    refine ok_rdFi hS (by omega) e26 rfl (fun _ _ _ => ?_)
    refine ok_if (fun _ => ?_) (fun _ => ok_some ⟨up26_close g26 hS (by omega), trivial⟩)
    refine ok_rdFx hS (by omega) e26 rfl ?_
    refine ok_rdFp hS (by omega) e26 rfl ?_
    refine ok_n1 hS (by omega) e27 (fun l hl1 hl2 => ?_)
    refine ok_if (fun _ => ok_some ⟨up26_close g26 hS (by omega), trivial⟩) (fun hcc => ?_)
    simp (disch := omega) only [wIn] at hcc
    refine ok_rdFx hS (by omega) e26 rfl ?_
    refine ok_is hS (by omega) e26 ?_
    refine ok_bd2 (tf_X6_boxOf hN hn e26 e27 e31 e32 hS hs (by omega) (by omega) (by omega)) (fun r _ hQ => ?_)
    obtain ⟨rfl, hr⟩ := hQ
    have hb5 := bF5_s hu hr
    refine ok_rdFp hS (by omega) e26 rfl ?_
    refine ok_rdFx hS (by omega) e26 rfl ?_
    refine ok_wrA hS (by omega) e32 (by omega) (by omega) (by omega) (fun L _ hL => tR_set hr L hL) (fun _ hS => ?_)
    refine ok_rdFx hS (by omega) e26 rfl ?_
    refine ok_wrU (fI (c + 1) (c + 1)) hS (by omega) e26 (Nat.le_of_ble_eq_true rfl) ⟨_, rfl, by omega, by omega⟩ (fun S9 hS => ?_)
    have hS := up26_set (c := c) (d := c + 1) hS
    show Ok ((rdFp 5 6 S9 26).bind fun q35 => (rdA 0 S9 q35 r).bind fun x36 => if wI x36 = wI s then (g_X6_seek (k + 1) 2 S9 26 26 s (xOr u (xShl 1 r)) 1) else (g_X6_seek (k + 1) 2 S9 26 26 s (xOr u (xShl 1 r)) 0)) _
    refine ok_rdFp hS (by omega) e26 rfl ?_
    refine ok_rdA hS (by omega) e31 tR_id (by omega) (by omega) (by omega) (fun _ _ _ => ?_)
    have two : ∀ z : Int, z = 0 ∨ z = 1 → Ok (g_X6_seek (k + 1) 2 S9 26 26 s (xOr u (xShl 1 r)) z) (fun _ S' => Hp G N S' ∧ True) := by
      intro z hz
      show Ok (b_X6_seek_2 (g_X6_seek k) k S9 26 26 s (xOr u (xShl 1 r)) z) _
      unfold b_X6_seek_2
      refine ok_pos hz ?_
      refine ok_wrF hS (by omega) e26 rfl (⟨_, rfl, by omega, by omega⟩ : fI 0 1 _) (fun _ hS => ?_)
      exact ih k (by omega) _ 0 _ 0 (c + 1) hS (by omega) ⟨hb5.1, hb5.2.1⟩ (by omega) (by omega)
    exact ok_if (fun _ => two 1 (Or.inr rfl)) (fun _ => two 0 (Or.inl rfl))
theorem pcn_0 : pcn 0 = 0 := by decide +kernel
theorem tf_X6_seek (hN : 45 ≤ N) (hn : 2 ≤ n ∧ n ≤ 7) (hG : ∀ q, 26 ≤ q → q < 45 → G q = R6 n tl a b q) {k : Nat} {S : xS} {i0 : Int} (hS : Hp G N S) (hp : 0 ≤ i0 ∧ i0 ≤ 6 ∧ 45 ≤ (k : Int)) : Ok (f_X6_seek k S 26 i0) (fun _ S' => Hp G N S' ∧ True) := by
  obtain ⟨k, rfl⟩ : ∃ k', k = k' + 1 := ⟨k - 1, by omega⟩
  have g26 : G 26 = o6 tl (fI 0 7) := hG 26 (by omega) (by omega)
  show Ok (b_X6_seek_0 (g_X6_seek k) k S 26 0 i0 0 0) _
  unfold b_X6_seek_0
  refine ok_wrU (fI 0 0) hS (by omega) g26 (Nat.le_of_ble_eq_true rfl) ⟨_, rfl, by omega, by omega⟩ (fun _ hS => ?_)
  replace hS : Hp (up G 26 (o6 tl (fI 0 0))) N _ := hS
  refine ok_wrF hS (by omega) up_self rfl (⟨_, rfl, by omega, by omega⟩ : fI 0 1 _) (fun _ hS => ?_)
  exact tg_X6_seek hN hn g26 (hG 27 (by omega) (by omega)) (hG 31 (by omega) (by omega)) (hG 32 (by omega) (by omega)) (by omega) k _ 0 0 0 0 hS (by omega) (by omega) (by rw [pcn_0]; omega) (by omega)
