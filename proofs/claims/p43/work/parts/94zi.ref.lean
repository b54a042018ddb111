variable {G : xT} {N : Nat} {n tl : Int} {a b : Bool}
def itf (f : Nat → Nat) : Nat → Nat → Nat
  | 0, x => x
  | d + 1, x => itf f d (f x)
theorem itf_0 (f : Nat → Nat) (x : Nat) : itf f 0 x = x := rfl
theorem itf_1 (f : Nat → Nat) (d x : Nat) : itf f (d + 1) x = itf f d (f x) := rfl
theorem itf_s (f : Nat → Nat) : ∀ (d x : Nat), itf f (d + 1) x = f (itf f d x) := by
  intro d
  induction d with
  | zero => intro x; rfl
  | succ d ih => intro x; exact ih (f x)
theorem itf_add (f : Nat → Nat) : ∀ (d e x : Nat), itf f (d + e) x = itf f e (itf f d x) := by
  intro d
  induction d with
  | zero => intro e x; rw [Nat.zero_add]; rfl
  | succ d ih => intro e x; rw [show d + 1 + e = d + e + 1 by omega]; exact ih e (f x)
theorem itf_lt {n : Nat} {f : Nat → Nat} (h : ∀ i, i < n → f i < n) : ∀ (d x : Nat), x < n → itf f d x < n := by
  intro d
  induction d with
  | zero => intro x hx; exact hx
  | succ d ih => intro x hx; exact ih (f x) (h x hx)
theorem itf_inj {n : Nat} {f : Nat → Nat} (h : ∀ i, i < n → f i < n) (h2 : ∀ i j, i < n → j < n → f i = f j → i = j) : ∀ (d x y : Nat), x < n → y < n → itf f d x = itf f d y → x = y := by
  intro d
  induction d with
  | zero => intro x y _ _ e; exact e
  | succ d ih => intro x y hx hy e; exact h2 x y hx hy (ih (f x) (f y) (h x hx) (h y hy) e)
theorem orb {n : Nat} {f : Nat → Nat} (h : ∀ i, i < n → f i < n) (h2 : ∀ i j, i < n → j < n → f i = f j → i = j) {x : Nat} (hx : x < n) : ∃ d, d < n ∧ itf f (d + 1) x = x := by
  refine Classical.byContradiction (fun hno => ?_)
  have hall : ∀ d, d < n → itf f (d + 1) x ≠ x := fun d hd e => hno ⟨d, hd, e⟩
  obtain ⟨j, hj, e⟩ := pig n (fun j => itf f (j + 1) x) (fun i _ => itf_lt h (i + 1) x hx) (fun i j hi hj e => by
    have key : ∀ i j, i < n → j < n → itf f (i + 1) x = itf f (j + 1) x → i < j → False := by
      intro i j hi hj e hij
      have e2 : itf f (j + 1) x = itf f (i + 1) (itf f (j - i - 1 + 1) x) := by
        rw [← itf_add f (j - i - 1 + 1) (i + 1) x, show j - i - 1 + 1 + (i + 1) = j + 1 by omega]
      have := itf_inj h h2 (i + 1) x (itf f (j - i - 1 + 1) x) hx (itf_lt h _ x hx) (e.trans e2)
      exact hall (j - i - 1) (by omega) this.symm
    rcases Nat.lt_trichotomy i j with hij | hij | hij
    · exact (key i j hi hj e hij).elim
    · exact hij
    · exact (key j i hj hi e.symm hij).elim) x hx
  exact hall j hj e
/-- the hand as a map -/
def hf6 (K : List Int) (i : Nat) : Nat := (K[i]?.getD 0).toNat
theorem hf_get {nn : Nat} {K : List Int} (hn : nn ≤ 7) (h : hw6 nn K) {j : Nat} (hj : j < nn) : K[j]? = some (hf6 K j : Int) ∧ hf6 K j < nn := by
  obtain ⟨w, e, hw⟩ := pm_get hn h hj
  have : hf6 K j = w := by
    unfold hf6
    rw [e]
    rfl
  rw [this]
  exact ⟨e, hw⟩
theorem hf_inj {nn : Nat} {K : List Int} (hn : nn ≤ 7) (h : hw6 nn K) (i j : Nat) (hi : i < nn) (hj : j < nn) (e : hf6 K i = hf6 K j) : i = j := h.2.2.2 i j hi hj (by rw [(hf_get hn h hi).1, (hf_get hn h hj).1, e])
theorem hf_orb {nn : Nat} {K : List Int} (hn : nn ≤ 7) (h : hw6 nn K) {x : Nat} (hx : x < nn) : ∃ d, d < nn ∧ itf (hf6 K) d (hf6 K x) = x := orb (fun i hi => (hf_get hn h hi).2) (hf_inj hn h) hx
theorem tg1_X6_ringOf {nn : Nat} (hN : 45 ≤ N) (hn : 2 ≤ nn ∧ nn ≤ 7) (hG : ∀ q, 26 ≤ q → q < 45 → G q = R6 (nn : Int) tl a b q) {K : List Int} (hK : hw6 nn K) {x : Nat} {zx : Int} (hzx : zx = (x : Int)) (hx : x < nn) : ∀ (d k : Nat) (S : xS) (w : Nat) (zw c : Int), zw = (w : Int) → Hp G N S → S[31]? = some (.inl (0, K)) → w < nn → itf (hf6 K) d w = x → d + 1 ≤ k → Ok (g_X6_ringOf k 1 S 26 zx c zw) (fun _ S' => S' = S) := by
  have g26 := hG 26 (by omega) (by omega)
  intro d
  induction d with
  | zero =>
    intro k S w zw c hzw hS eK hw e hk
    obtain ⟨k, rfl⟩ : ∃ k', k = k' + 1 := ⟨k - 1, by omega⟩
    rw [itf_0] at e
    show Ok (b_X6_ringOf_1 (g_X6_ringOf k) k S 26 zx c zw) _
    unfold b_X6_ringOf_1
    rw [if_pos (by rw [hzw, hzx, e])]
    exact ok_some rfl
  | succ d ih =>
    intro k S w zw c hzw hS eK hw e hk
    obtain ⟨k, rfl⟩ : ∃ k', k = k' + 1 := ⟨k - 1, by omega⟩
    rw [itf_1] at e
    show Ok (b_X6_ringOf_1 (g_X6_ringOf k) k S 26 zx c zw) _
    unfold b_X6_ringOf_1
    refine ok_if (fun _ => ok_some rfl) (fun _ => ?_)
    refine ok_rdFp hS (by omega) g26 rfl ?_
    obtain ⟨h1, h2⟩ := hf_get hn.2 hK hw
    rw [rdA_at eK (by omega) (by omega), show zw.toNat = w by omega, h1]
    exact ih k S (hf6 K w) _ (c + 1) rfl hS eK h2 e (by omega)
theorem tf_X6_ringOf {nn : Nat} (hN : 45 ≤ N) (hn : 2 ≤ nn ∧ nn ≤ 7) (hG : ∀ q, 26 ≤ q → q < 45 → G q = R6 (nn : Int) tl a b q) {K : List Int} (hK : hw6 nn K) {x : Int} (hx : 0 ≤ x ∧ x < nn) {k : Nat} {S : xS} (hS : Hp G N S) (eK : S[31]? = some (.inl (0, K))) (hk : 12 ≤ k) : Ok (f_X6_ringOf k S 26 x) (fun _ S' => S' = S) := by
  have g26 := hG 26 (by omega) (by omega)
  obtain ⟨k, rfl⟩ : ∃ k', k = k' + 1 := ⟨k - 1, by omega⟩
  obtain ⟨x, rfl⟩ : ∃ x' : Nat, x = (x' : Int) := ⟨x.toNat, by omega⟩
  show Ok (b_X6_ringOf_0 (g_X6_ringOf k) k S 26 (x : Int) 0 0) _
  unfold b_X6_ringOf_0
  refine ok_rdFp hS (by omega) g26 rfl ?_
  have hx' : x < nn := by omega
  obtain ⟨h1, h2⟩ := hf_get hn.2 hK hx'
  rw [rdA_at eK (by omega) (by omega), Int.toNat_natCast, h1]
  obtain ⟨d, hd, e⟩ := hf_orb hn.2 hK hx'
  exact tg1_X6_ringOf hN hn hG hK rfl hx' d k S _ _ 1 rfl hS eK h2 e (by omega)
theorem tg2_X6_ringsHand {nn : Nat} (hN : 45 ≤ N) (hn : 2 ≤ nn ∧ nn ≤ 7) (hG : ∀ q, 26 ≤ q → q < 45 → G q = R6 (nn : Int) tl a b q) {K : List Int} (hK : hw6 nn K) {x c : Nat} {z : Int} (hx : x < nn) (hz : z = (x : Int)) (hnx : ∀ (k : Nat) (S : xS) (i0 : Int), Hp G N S → S[31]? = some (.inl (0, K)) → c ≤ k → Ok (g_X6_ringsHand k 1 S 26 i0 (z + 1) 0 0) (fun _ S' => S' = S)) : ∀ (d k : Nat) (S : xS) (w : Nat) (zw i0 i2 : Int), zw = (w : Int) → Hp G N S → S[31]? = some (.inl (0, K)) → w < nn → itf (hf6 K) d w = x → c + 3 * d + 2 ≤ k → Ok (g_X6_ringsHand k 2 S 26 i0 z i2 zw) (fun _ S' => S' = S) := by
  have g26 := hG 26 (by omega) (by omega)
  have h5 : ∀ (k : Nat) (S : xS) (i0 i2 : Int), Hp G N S → S[31]? = some (.inl (0, K)) → c + 1 ≤ k → Ok (g_X6_ringsHand k 5 S 26 z i0 i2 0) (fun _ S' => S' = S) := by
    intro k S i0 i2 hS eK hk
    obtain ⟨k, rfl⟩ : ∃ k', k = k' + 1 := ⟨k - 1, by omega⟩
    exact hnx k S (i0 + i2) hS eK (by omega)
  intro d
  induction d with
  | zero =>
    intro k S w zw i0 i2 hzw hS eK hw e hk
    obtain ⟨k, rfl⟩ : ∃ k', k = k' + 1 := ⟨k - 1, by omega⟩
    rw [itf_0] at e
    show Ok (b_X6_ringsHand_2 (g_X6_ringsHand k) k S 26 i0 z i2 zw) _
    unfold b_X6_ringsHand_2
    rw [if_pos (by rw [hzw, e, hz])]
    exact ok_if (fun _ => h5 k S _ _ hS eK (by omega)) (fun _ => h5 k S _ _ hS eK (by omega))
  | succ d ih =>
    intro k S w zw i0 i2 hzw hS eK hw e hk
    obtain ⟨k, rfl⟩ : ∃ k', k = k' + 3 := ⟨k - 3, by omega⟩
    rw [itf_1] at e
    obtain ⟨h1, h2⟩ := hf_get hn.2 hK hw
    have h4 : ∀ (k : Nat) (i3 : Int), c + 3 * d + 3 ≤ k → Ok (g_X6_ringsHand k 4 S 26 i0 z zw i3) (fun _ S' => S' = S) := by
      intro k i3 hk
      obtain ⟨k, rfl⟩ : ∃ k', k = k' + 1 := ⟨k - 1, by omega⟩
      show Ok (b_X6_ringsHand_4 (g_X6_ringsHand k) k S 26 i0 z zw i3) _
      unfold b_X6_ringsHand_4
      refine ok_rdFp hS (by omega) g26 rfl ?_
      rw [rdA_at eK (by omega) (by omega), show zw.toNat = w by omega, h1]
      exact ih k S (hf6 K w) _ i0 i3 rfl hS eK h2 e (by omega)
    have h3 : Ok (g_X6_ringsHand (k + 2) 3 S 26 i0 z zw 0) (fun _ S' => S' = S) := h4 (k + 1) 0 (by omega)
    show Ok (b_X6_ringsHand_2 (g_X6_ringsHand (k + 2)) (k + 2) S 26 i0 z i2 zw) _
    unfold b_X6_ringsHand_2
    refine ok_if (fun _ => ?_) (fun _ => ?_)
    · exact ok_if (fun _ => h5 _ S _ _ hS eK (by omega)) (fun _ => h5 _ S _ _ hS eK (by omega))
    · refine ok_if (fun _ => h3) (fun _ => ?_)
      exact ok_if (fun _ => h3) (fun _ => h4 (k + 2) 1 (by omega))
theorem tg1_X6_ringsHand {nn : Nat} (hN : 45 ≤ N) (hn : 2 ≤ nn ∧ nn ≤ 7) (hG : ∀ q, 26 ≤ q → q < 45 → G q = R6 (nn : Int) tl a b q) {K : List Int} (hK : hw6 nn K) : ∀ (d i : Nat) (z : Int), i + d = nn → z = (i : Int) → ∀ (k : Nat) (S : xS) (i0 : Int), Hp G N S → S[31]? = some (.inl (0, K)) → 26 * d + 1 ≤ k → Ok (g_X6_ringsHand k 1 S 26 i0 z 0 0) (fun _ S' => S' = S) := by
  have g26 := hG 26 (by omega) (by omega)
  have g27 := hG 27 (by omega) (by omega)
  intro d
  induction d with
  | zero =>
    intro i z hi hz k S i0 hS eK hk
    obtain ⟨k, rfl⟩ : ∃ k', k = k' + 1 := ⟨k - 1, by omega⟩
    show Ok (b_X6_ringsHand_1 (g_X6_ringsHand k) k S 26 i0 z 0 0) _
    unfold b_X6_ringsHand_1
    rw [if_pos (is6 hN g26 hS), bd2_some (tf_X6_n (by omega) g26 g27 hS)]
    rw [wIn (n := z) (by omega) (by omega), wIn (n := (nn : Int)) (by omega) (by omega), if_pos (by omega)]
    exact ok_some rfl
  | succ d ih =>
    intro i z hi hz k S i0 hS eK hk
    obtain ⟨k, rfl⟩ : ∃ k', k = k' + 1 := ⟨k - 1, by omega⟩
    show Ok (b_X6_ringsHand_1 (g_X6_ringsHand k) k S 26 i0 z 0 0) _
    unfold b_X6_ringsHand_1
    rw [if_pos (is6 hN g26 hS), bd2_some (tf_X6_n (by omega) g26 g27 hS)]
    rw [wIn (n := z) (by omega) (by omega), wIn (n := (nn : Int)) (by omega) (by omega), if_neg (by omega)]
    refine ok_rdFp hS (by omega) g26 rfl ?_
    obtain ⟨h1, h2⟩ := hf_get hn.2 hK (show i < nn by omega)
    rw [rdA_at eK (by omega) (by omega), show z.toNat = i by omega, h1]
    obtain ⟨d', hd', e⟩ := hf_orb hn.2 hK (show i < nn by omega)
    exact tg2_X6_ringsHand hN hn hG hK (show i < nn by omega) hz (ih (i + 1) (z + 1) (by omega) (by omega)) d' k S _ _ i0 1 rfl hS eK h2 e (by omega)
theorem tf_X6_ringsHand {nn : Nat} (hN : 45 ≤ N) (hn : 2 ≤ nn ∧ nn ≤ 7) (hG : ∀ q, 26 ≤ q → q < 45 → G q = R6 (nn : Int) tl a b q) {K : List Int} (hK : hw6 nn K) {k : Nat} {S : xS} (hS : Hp G N S) (eK : S[31]? = some (.inl (0, K))) (hk : 200 ≤ k) : Ok (f_X6_ringsHand k S 26) (fun _ S' => S' = S) := by
  obtain ⟨k, rfl⟩ : ∃ k', k = k' + 1 := ⟨k - 1, by omega⟩
  exact tg1_X6_ringsHand hN hn hG hK nn 0 0 (by omega) rfl k S 0 hS eK (by omega)
theorem tf_X6_rings {nn : Nat} (hN : 45 ≤ N) (hn : 2 ≤ nn ∧ nn ≤ 7) (hG : ∀ q, 26 ≤ q → q < 45 → G q = R6 (nn : Int) tl a b q) {k : Nat} {S : xS} {i0 : Int} (hS : Hp G N S) (h0 : -2147483648 ≤ i0 ∧ i0 < 2147483648) (hk : 300 ≤ k) : Ok (f_X6_rings k S 26 i0) (fun _ S' => Hp G N S') := by
  have hn' : 2 ≤ (nn : Int) ∧ (nn : Int) ≤ 7 := by omega
  have g26 := hG 26 (by omega) (by omega)
  obtain ⟨k, rfl⟩ : ∃ k', k = k' + 2 := ⟨k - 2, by omega⟩
  have h1 : (i0 = -1 ∨ (0 ≤ i0 ∧ i0 < nn)) → Ok (g_X6_rings (k + 1) 1 S 26 i0) (fun _ S' => Hp G N S') := by
    intro hi
    show Ok (b_X6_rings_1 (g_X6_rings k) k S 26 i0) _
    unfold b_X6_rings_1
    rw [if_pos (is6 hN g26 hS)]
    refine ok_bd2 (tk_now hN hn hG hS (by omega)) (fun _ S1 hQ => ?_)
    obtain ⟨hS1, K, -, eK, hK, -⟩ := hQ
    rw [wIn (n := i0) (by omega) (by omega), wIn (n := -1) (by omega) (by omega)]
    refine ok_if (fun _ => ?_) (fun hc => ?_)
    · rw [if_pos (is6 hN g26 hS1)]
      refine ok_bd2 (tf_X6_ringsHand hN hn hG hK hS1 eK (by omega)) (fun _ _ hQ => ok_some (by rw [hQ]; exact hS1))
    · rw [if_pos (is6 hN g26 hS1)]
      refine ok_bd2 (tf_X6_ringOf hN hn hG hK (by omega) hS1 eK (by omega)) (fun _ _ hQ => ok_some (by rw [hQ]; exact hS1))
  show Ok (b_X6_rings_0 (g_X6_rings (k + 1)) (k + 1) S 26 i0) _
  unfold b_X6_rings_0
  refine ok_if (fun hc => h1 (Or.inl ?_)) (fun _ => ?_)
  · rw [wIn (n := i0) (by omega) (by omega), wIn (n := -1) (by omega) (by omega)] at hc
    exact hc
  · rw [if_pos (is6 hN g26 hS)]
    refine ok_bd2 (tf_X6_isBox hN hn' hG hS ⟨h0.1, h0.2, by omega⟩) (fun r S' hQ => ?_)
    obtain ⟨rfl, hQ⟩ := hQ
    refine ok_if (fun _ => ?_) (fun hc => ?_)
    · rw [if_pos (is6 hN g26 hS)]
      exact ok_bd2 (tf_X6_bad hN hn' hG hS trivial) (fun _ _ hQ => ok_some hQ.1)
    · rcases hQ with ⟨_, h⟩ | rfl
      · exact h1 (Or.inr h)
      · exact absurd rfl hc
theorem tg1_X6_lengths {nn : Nat} (hN : 45 ≤ N) (hn : 2 ≤ nn ∧ nn ≤ 7) (hG : ∀ q, 26 ≤ q → q < 45 → G q = R6 (nn : Int) tl a b q) {K : List Int} (hK : hw6 nn K) : ∀ (d i : Nat) (z : Int), i + d = nn → z = (i : Int) → ∀ (k : Nat) (S : xS) (i0 : Int), Hp G N S → S[31]? = some (.inl (0, K)) → d + 20 ≤ k → Ok (g_X6_lengths k 1 S 26 i0 z) (fun _ S' => S' = S) := by
  have g26 := hG 26 (by omega) (by omega)
  have g27 := hG 27 (by omega) (by omega)
  intro d
  induction d with
  | zero =>
    intro i z hi hz k S i0 hS eK hk
    obtain ⟨k, rfl⟩ : ∃ k', k = k' + 1 := ⟨k - 1, by omega⟩
    show Ok (b_X6_lengths_1 (g_X6_lengths k) k S 26 i0 z) _
    unfold b_X6_lengths_1
    rw [if_pos (is6 hN g26 hS), bd2_some (tf_X6_n (by omega) g26 g27 hS)]
    rw [wIn (n := z) (by omega) (by omega), wIn (n := (nn : Int)) (by omega) (by omega), if_pos (by omega)]
    exact ok_some rfl
  | succ d ih =>
    intro i z hi hz k S i0 hS eK hk
    obtain ⟨k, rfl⟩ : ∃ k', k = k' + 1 := ⟨k - 1, by omega⟩
    show Ok (b_X6_lengths_1 (g_X6_lengths k) k S 26 i0 z) _
    unfold b_X6_lengths_1
    rw [if_pos (is6 hN g26 hS), bd2_some (tf_X6_n (by omega) g26 g27 hS)]
    rw [wIn (n := z) (by omega) (by omega), wIn (n := (nn : Int)) (by omega) (by omega), if_neg (by omega), if_pos (is6 hN g26 hS)]
    refine ok_bd2 (tf_X6_ringOf hN hn hG hK (by omega) hS eK (by omega)) (fun r S' hQ => ?_)
    subst hQ
    exact ih (i + 1) (z + 1) (by omega) (by omega) k S' _ hS eK (by omega)
theorem tf_X6_lengths {nn : Nat} (hN : 45 ≤ N) (hn : 2 ≤ nn ∧ nn ≤ 7) (hG : ∀ q, 26 ≤ q → q < 45 → G q = R6 (nn : Int) tl a b q) {K : List Int} (hK : hw6 nn K) {k : Nat} {S : xS} (hS : Hp G N S) (eK : S[31]? = some (.inl (0, K))) (hk : 40 ≤ k) : Ok (f_X6_lengths k S 26) (fun _ S' => S' = S) := by
  obtain ⟨k, rfl⟩ : ∃ k', k = k' + 1 := ⟨k - 1, by omega⟩
  exact tg1_X6_lengths hN hn hG hK nn 0 0 (by omega) rfl k S 0 hS eK (by omega)
theorem tf_X6_alike {nn : Nat} (hN : 45 ≤ N) (hn : 2 ≤ nn ∧ nn ≤ 7) (hG : ∀ q, 26 ≤ q → q < 45 → G q = R6 (nn : Int) tl a b q) (hf : 1 ≤ fac (nn : Int) ∧ fac (nn : Int) ≤ 5040) {k : Nat} {S : xS} {i0 : Int} (hS : Hp G N S) (h0 : -2147483648 ≤ i0 ∧ i0 < 2147483648) (hk : 300 ≤ k) : Ok (f_X6_alike k S 26 i0) (fun _ S' => Hp G N S') := by
  have hn' : 2 ≤ (nn : Int) ∧ (nn : Int) ≤ 7 := by omega
  have g26 := hG 26 (by omega) (by omega)
  unfold f_X6_alike
  rw [if_pos (is6 hN g26 hS)]
  refine ok_bd2 (tf_X6_isRank hN hn' hG hf hS ⟨h0.1, h0.2, by omega⟩) (fun r S' hQ => ?_)
  obtain ⟨rfl, hQ⟩ := hQ
  refine ok_if (fun _ => ?_) (fun hc => ?_)
  · rw [if_pos (is6 hN g26 hS)]
    exact ok_bd2 (tf_X6_bad hN hn' hG hS trivial) (fun _ _ hQ => ok_some hQ.1)
  · have hr : 0 ≤ i0 ∧ i0 < fac (nn : Int) := by
      rcases hQ with ⟨_, h⟩ | rfl
      · exact h
      · exact absurd rfl hc
    rw [if_pos (is6 hN g26 hS)]
    refine ok_bd2 (tk_now hN hn hG hS (by omega)) (fun _ S1 hQ => ?_)
    obtain ⟨hS1, K, -, eK, hK, -⟩ := hQ
    rw [if_pos (is6 hN g26 hS1)]
    refine ok_bd2 (tf_X6_lengths hN hn hG hK hS1 eK (by omega)) (fun _ _ hQ => ?_)
    subst hQ
    rw [if_pos (is6 hN g26 hS1)]
    refine ok_bd2 (tk_rank hN hn hG hS1 hr (by omega)) (fun _ S2 hQ => ?_)
    obtain ⟨hS2, K2, -, eK2, hK2, -⟩ := hQ
    rw [if_pos (is6 hN g26 hS2)]
    refine ok_bd2 (tf_X6_lengths hN hn hG hK2 hS2 eK2 (by omega)) (fun _ _ hQ => ?_)
    subst hQ
    exact ok_if (fun _ => ok_some hS2) (fun _ => ok_some hS2)
theorem tf_X6_even {nn : Nat} (hN : 45 ≤ N) (hn : 2 ≤ nn ∧ nn ≤ 7) (hG : ∀ q, 26 ≤ q → q < 45 → G q = R6 (nn : Int) tl a b q) {k : Nat} {S : xS} (hS : Hp G N S) (hk : 300 ≤ k) : Ok (f_X6_even k S 26) (fun _ S' => Hp G N S') := by
  have g26 := hG 26 (by omega) (by omega)
  have g27 := hG 27 (by omega) (by omega)
  unfold f_X6_even
  rw [if_pos (is6 hN g26 hS)]
  refine ok_bd2 (tk_now hN hn hG hS (by omega)) (fun _ S1 hQ => ?_)
  obtain ⟨hS1, K, -, eK, hK, -⟩ := hQ
  rw [if_pos (is6 hN g26 hS1), bd2_some (tf_X6_n (by omega) g26 g27 hS1), if_pos (is6 hN g26 hS1)]
  refine ok_bd2 (tf_X6_ringsHand hN hn hG hK hS1 eK (by omega)) (fun _ _ hQ => ?_)
  subst hQ
  refine ok_neg (by decide) ?_
  exact ok_if (fun _ => ok_some hS1) (fun _ => ok_some hS1)
