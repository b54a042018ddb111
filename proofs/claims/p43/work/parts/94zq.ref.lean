variable {G : xT} {N : Nat} {n tl : Int} {a b : Bool}
/-- the ways from the i-th on are through: which of them lead to the best -/
def GI6 (cN cn : Nat) (bh : Nat → Nat → Nat) (qv fv sg : Nat → Nat) (best i : Nat) (gd : Nat → Nat) : Prop := (∀ y, gd y ≤ 1) ∧ (∀ j, j < i → gd (qv j) = 0) ∧ (∀ j, i ≤ j → j < cn → (fv (qv j) = best → sg (qv j) = 1 → gd (qv j) = 1) ∧ (gd (qv j) ≠ 0 → fv (qv j) < best → ∃ m, m < cN ∧ ldP bh fv gd (qv j) m) ∧ (fv (qv j) < best → ∀ m j', m < cN → j < j' → j' < cn → bh (qv j) m = qv j' → fv (qv j') = fv (qv j) + 1 → gd (qv j') ≠ 0 → gd (qv j) ≠ 0))
theorem gi6_s {M cN cn : Nat} {bh : Nat → Nat → Nat} {qv fv sg gd : Nat → Nat} {best i g : Nat} (hP : bfsP M cN bh qv fv cn) (hi : i < cn) (h : GI6 cN cn bh qv fv sg best (i + 1) gd) (hF : fin6 bh fv gd cN best (sg (qv i)) (qv i) cN g) : GI6 cN cn bh qv fv sg best i (fun y => if y = qv i then g else gd y) := by
  obtain ⟨h1, h2, h3⟩ := h
  obtain ⟨f1, f2, f3, f4⟩ := hF
  have hd := hP.2.2.2.1
  have hx : gd (qv i) = 0 := h2 i (by omega)
  have hne : ∀ j, j < cn → j ≠ i → qv j ≠ qv i := fun j hj hji e => hji (hd j i hj hi e)
  have hv : ∀ j, j < cn → j ≠ i → (fun y => if y = qv i then g else gd y) (qv j) = gd (qv j) := fun j hj hji => if_neg (hne j hj hji)
  have hv0 : (fun y => if y = qv i then g else gd y) (qv i) = g := if_pos rfl
  refine ⟨fun y => ?_, fun j hj => ?_, fun j hij hj => ?_⟩
  · show (if y = qv i then g else gd y) ≤ 1
    split
    · exact f1
    · exact h1 y
  · rw [hv j (by omega) (by omega)]
    exact h2 j (by omega)
  · by_cases hji : j = i
    · subst hji
      rw [hv0]
      refine ⟨f2, fun hg hb => ?_, fun hb m j' hm hj' hjc e ef hg => ?_⟩
      · obtain ⟨m, hm, hl⟩ := f3 hg hb
        exact ⟨m, hm, ld_up.mpr hl⟩
      · rw [hv j' hjc (by omega)] at hg
        exact f4 hb m hm ⟨by rw [e]; exact ef, by rw [e]; exact hg⟩
    · rw [hv j hj hji]
      obtain ⟨g1, g2, g3⟩ := h3 j (by omega) hj
      refine ⟨g1, fun hg hb => ?_, fun hb m j' hm hj' hjc e ef hg => ?_⟩
      · obtain ⟨m, hm, hl1, hl2⟩ := g2 hg hb
        refine ⟨m, hm, hl1, ?_⟩
        show (if bh (qv j) m = qv i then g else gd (bh (qv j) m)) ≠ 0
        rw [if_neg (fun e => hl2 (by rw [e]; exact hx))]
        exact hl2
      · rw [hv j' hjc (by omega)] at hg
        exact g3 hb m j' hm hj' hjc e ef hg
/-- `isSought`, told -/
def SO6 (G : xT) (N : Nat) (L : List Int) (M : Nat) (t : Int) (sg : Nat → Nat) : Prop := ∀ (x : Nat) (zx : Int), zx = (x : Int) → x < M → sg x ≤ 1 ∧ ∀ (k : Nat) (S : xS), Hp G N S → S[27]? = some (.inl (0, L)) → 300 ≤ k → Ok (f_X6_isSought k S 26 zx t) (fun v S' => v = (sg x : Int) ∧ Hp G N S' ∧ fr6 S S')
theorem ft4 {nn : Nat} (hN : 45 ≤ N) (hG : ∀ q, 26 ≤ q → q < 45 → G q = R6 (nn : Int) tl a b q) {L : List Int} {M cN cn : Nat} (hM : M ≤ 5040) (hcN : cN ≤ 4) (h41 : L[41]? = some (cN : Int)) {bh : Nat → Nat → Nat} (hB : BH6 G N L M cN bh) {qv fv sg : Nat → Nat} {t : Int} (hSO : SO6 G N L M t sg) (hP : bfsP M cN bh qv fv cn) {best : Nat} {w zb : Int} (hzb : zb = (best : Int)) (hbest : best ≤ 1000000) {Q : Int → xS → Prop} {c0 : Nat} (hc0 : 800 ≤ c0) (hf : ∀ (k : Nat) (S' : xS) (gd : Nat → Nat), c0 ≤ k → FS6 G N L M cn qv fv gd S' → GI6 cN cn bh qv fv sg best 0 gd → Ok (g_X6_fewestTo k 4 S' 26 0 t w zb (-1) 0 0 0 0) Q) : ∀ (i k : Nat) (zi : Int) (S : xS) (gd : Nat → Nat), zi = (i : Int) - 1 → i ≤ cn → FS6 G N L M cn qv fv gd S → GI6 cN cn bh qv fv sg best i gd → c0 + 20 * i ≤ k → Ok (g_X6_fewestTo k 4 S 26 0 t w zb zi 0 0 0 0) Q := by
  have g26 := hG 26 (by omega) (by omega)
  intro i
  induction i with
  | zero =>
    intro k zi S gd hz hi hS hI hk
    rw [show zi = -1 by omega]
    exact hf k S gd (by omega) hS hI
  | succ i ih =>
    intro k zi S gd hz hi hS hI hk
    obtain ⟨k, rfl⟩ : ∃ k', k = k' + 3 := ⟨k - 3, by omega⟩
    have hMi : cn ≤ M := hP.2.1
    have hS' := hS
    obtain ⟨hH, eL, ⟨F, eF, hFl, hF⟩, ⟨Qs, eQ, hQl, hQ⟩, -, e17⟩ := hS'
    have hqi := hP.2.2.1 i (by omega)
    have hlx := fv_le hP hM hqi.1
    obtain ⟨zx, hzx⟩ : ∃ z : Int, z = (qv i : Int) := ⟨_, rfl⟩
    have hQi := hQ i (by omega)
    rw [← hzx] at hQi
    obtain ⟨zfx, hzfx⟩ : ∃ z : Int, z = (fv (qv i) : Int) := ⟨_, rfl⟩
    have hFx := hF _ hqi.1
    rw [← hzfx] at hFx
    have hgd := hI.1
    have ten : ∀ (k : Nat) (S' : xS) (g : Nat), c0 + 20 * i + 1 ≤ k → FS6 G N L M cn qv fv (fun y => if y = qv i then g else gd y) S' → fin6 bh fv gd cN best (sg (qv i)) (qv i) cN g → Ok (g_X6_fewestTo k 10 S' 26 0 t w zb zi 0 0 0 0) Q := by
      intro k S' g hk h1 h2
      obtain ⟨k, rfl⟩ : ∃ k', k = k' + 1 := ⟨k - 1, by omega⟩
      show Ok (g_X6_fewestTo k 4 S' 26 0 t w zb (zi + (-1)) 0 0 0 0) Q
      exact ih k (zi + (-1)) S' _ (by omega) (by omega) h1 (gi6_s hP (by omega) hI h2) (by omega)
    have six : ∀ (k : Nat) (S1 : xS) (v : Nat) (zv : Int), zv = (v : Int) → v ≤ 1 → c0 + 20 * i + 15 ≤ k → FS6 G N L M cn qv fv gd S1 → fin6 bh fv gd cN best (sg (qv i)) (qv i) 0 v → Ok (g_X6_fewestTo k 6 S1 26 37 t w zb zi zx zx zv 0) Q := by
      intro k S1 v zv hzv hv hk hS1 hI'
      obtain ⟨k, rfl⟩ : ∃ k', k = k' + 1 := ⟨k - 1, by omega⟩
      show Ok (b_X6_fewestTo_6 (g_X6_fewestTo k) k S1 26 37 t w zb zi zx zx zv 0) _
      unfold b_X6_fewestTo_6
      refine ok_pos (by omega) ?_
      refine fs6_D hN hG hM hS1 hzx hzv hqi.1 hv (fun S2 hS2 => ?_)
      exact ft7 hN hG hM hcN h41 hB hP hgd hzx hqi.1 hzb hbest (c0 := c0 + 20 * i + 1) (by omega) ten cN k 0 0 S2 v (by omega) rfl hS2 hI' (by omega)
    show Ok (b_X6_fewestTo_4 (g_X6_fewestTo (k + 2)) (k + 2) S 26 0 t w zb zi 0 0 0 0) _
    unfold b_X6_fewestTo_4
    refine ok_neg (by rw [wIn (n := zi) (by omega) (by omega)]; omega) ?_
    refine ok_rdFp hH (by omega) g26 rfl ?_
    rw [rdA_at eQ (by omega) (by omega), show zi.toNat = i by omega, hQi]
    refine ok_bind (v := zx) rfl ?_
    refine ok_rdFp hH (by omega) g26 rfl (ok_rdFp hH (by omega) g26 rfl ?_)
    rw [rdA_at eF (by omega) (by omega), show zx.toNat = qv i by omega, hFx]
    refine ok_bind (v := zfx) rfl ?_
    rw [wIn (n := zfx) (by omega) (by omega), wIn (n := zb) (by omega) (by omega)]
    refine ok_if (fun hc => ?_) (fun hc => ?_)
    · rw [if_pos (is6 hN g26 hH)]
      obtain ⟨hs1, hso⟩ := hSO (qv i) zx hzx hqi.1
      refine ok_bd2 (hso (k + 2) S hH eL (by omega)) (fun v S1 hQ => ?_)
      obtain ⟨hv, hH1, hfr⟩ := hQ
      have hS1 := fs6_fr hS hH1 hfr
      rw [wIn (n := v) (by omega) (by omega)]
      refine ok_if (fun hv0 => ?_) (fun hv0 => ?_)
      · exact six (k + 1) S1 0 0 rfl (by omega) (by omega) hS1 ⟨by omega, fun _ h => by exfalso; omega, fun h => absurd rfl h, fun h => by exfalso; omega⟩
      · exact six (k + 2) S1 1 1 rfl (by omega) (by omega) hS1 ⟨by omega, fun _ _ => rfl, fun _ h => by exfalso; omega, fun h => by exfalso; omega⟩
    · exact six (k + 1) S 0 0 rfl (by omega) (by omega) hS ⟨by omega, fun h => by exfalso; omega, fun h => absurd rfl h, fun _ m' hm' => by exfalso; omega⟩
theorem gi6_0 {M cN cn : Nat} {bh : Nat → Nat → Nat} {qv fv sg gd : Nat → Nat} {best : Nat} (hP : bfsP M cN bh qv fv cn) (h : GI6 cN cn bh qv fv sg best 0 gd) : ∀ (u j : Nat), j ≤ u → j < cn → fv (qv j) ≤ best → gd (qv j) ≠ 0 → gd (qv 0) ≠ 0 := by
  intro u
  induction u with
  | zero =>
    intro j hj _ _ hg
    rw [show j = 0 by omega] at hg
    exact hg
  | succ u ih =>
    intro j hj hjc hb hg
    by_cases h0 : j = 0
    · rw [h0] at hg
      exact hg
    · obtain ⟨p, m, hp, hm, e1, e2⟩ := hP.2.2.2.2.2 j (by omega) hjc
      exact ih p (by omega) (by omega) (by omega) ((h.2.2 p (by omega) (by omega)).2.2 (by omega) m j hm hp hjc e1 e2 hg)
theorem fs6_w {L : List Int} {M cn : Nat} {qv fv gd : Nat → Nat} {S S' : xS} {i : Nat} (hi : i ≠ 17) (h : FS6 G N L M cn qv fv gd S) (hS : Hp G N S') (hk : ∀ k, k ≠ i → rdFi 5 k S' 26 = rdFi 5 k S 26) (hq : ∀ q, q ≠ 26 → S'[q]? = S[q]?) : FS6 G N L M cn qv fv gd S' := by
  obtain ⟨_, eL, ⟨F, eF, hF⟩, ⟨Qs, eQ, hQ⟩, ⟨D, eD, hD⟩, e17⟩ := h
  exact ⟨hS, by rw [hq 27 (by omega)]; exact eL, ⟨F, by rw [hq 35 (by omega)]; exact eF, hF⟩, ⟨Qs, by rw [hq 36 (by omega)]; exact eQ, hQ⟩, ⟨D, by rw [hq 37 (by omega)]; exact eD, hD⟩, by rw [hk 17 (by omega)]; exact e17⟩
theorem ft12 {nn : Nat} (hN : 45 ≤ N) (hG : ∀ q, 26 ≤ q → q < 45 → G q = R6 (nn : Int) tl a b q) {L : List Int} {M cN cn : Nat} (hM : M ≤ 5040) (hcN : cN ≤ 4) {bh : Nat → Nat → Nat} (hB : BH6 G N L M cN bh) {qv fv gd : Nat → Nat} (hP : bfsP M cN bh qv fv cn) (hgd : ∀ y, gd y ≤ 1) {x m0 : Nat} {zx w zs : Int} (hzx : zx = (x : Int)) (hx : x < M) (hm0 : m0 < cN) (hl : ldP bh fv gd x m0) {Q : Int → xS → Prop} {c0 : Nat} (hc0 : 700 ≤ c0) (hf : ∀ (k : Nat) (S' : xS) (y : Nat) (zy : Int), c0 ≤ k → zy = (y : Int) → y < M → FS6 G N L M cn qv fv gd S' → fv y = fv x + 1 → gd y ≠ 0 → Ok (g_X6_fewestTo k 11 S' 26 0 w zy (zs + 1) 0 0 0 0 0) Q) : ∀ (d k m : Nat) (zm : Int) (S : xS), m + d = m0 → zm = (m : Int) → FS6 G N L M cn qv fv gd S → rdFi 5 11 S 26 = some zm → c0 + d + 2 ≤ k → Ok (g_X6_fewestTo k 12 S 26 0 w zx zs 0 0 0 0 0) Q := by
  have g26 := hG 26 (by omega) (by omega)
  have one : ∀ (k m : Nat) (zm : Int) (S : xS), m < cN → zm = (m : Int) → FS6 G N L M cn qv fv gd S → rdFi 5 11 S 26 = some zm → c0 ≤ k → (∀ S1, FS6 G N L M cn qv fv gd S1 → rdFi 5 11 S1 26 = some zm → ¬ ldP bh fv gd x m → Ok ((wrF 5 11 S1 26 (.inl (zm + 1))).bind fun S123 => g_X6_fewestTo k 12 S123 26 0 w zx zs 0 0 0 0 0) Q) → Ok (g_X6_fewestTo (k + 1) 12 S 26 0 w zx zs 0 0 0 0 0) Q := by
    intro k m zm S hm hz hS e11 hk hno
    show Ok (b_X6_fewestTo_12 (g_X6_fewestTo k) k S 26 0 w zx zs 0 0 0 0 0) _
    unfold b_X6_fewestTo_12
    rw [e11]
    refine ok_bind (v := zm) rfl ?_
    rw [if_pos (is6 hN g26 hS.1)]
    refine ok_bd2 (ld_on hN hG hM hB hP hgd hzx hz hx hm hS (by omega)) (fun v S1 hQ => ?_)
    obtain ⟨hS1, hfr, hv⟩ := hQ
    have e1 : rdFi 5 11 S1 26 = some zm := (hfr.2 11 (by omega) (by omega)).trans e11
    rcases hv with ⟨rfl, hv⟩ | ⟨rfl, hv⟩
    · refine ok_neg (by decide) ?_
      rw [e1]
      refine ok_bind (v := zm) rfl ?_
      rw [if_pos (is6 hN g26 hS1.1)]
      obtain ⟨hy, hb⟩ := hB x m zx zm hzx hz hx hm
      refine ok_bd2 (hb k S1 hS1.1 hS1.2.1 (by omega)) (fun zy S2 hQ => ?_)
      obtain ⟨hzy, hH2, hfr2⟩ := hQ
      exact hf k S2 (bh x m) zy (by omega) hzy hy (fs6_fr hS1 hH2 hfr2) hv.1 hv.2
    · refine ok_pos (by decide) ?_
      rw [e1]
      refine ok_bind (v := zm) rfl ?_
      exact hno S1 hS1 e1 hv
  intro d
  induction d with
  | zero =>
    intro k m zm S hm hz hS e11 hk
    obtain ⟨k, rfl⟩ : ∃ k', k = k' + 1 := ⟨k - 1, by omega⟩
    refine one k m zm S (by omega) hz hS e11 (by omega) (fun S1 _ _ hno => ?_)
    rw [show m = m0 by omega] at hno
    exact absurd hl hno
  | succ d ih =>
    intro k m zm S hm hz hS e11 hk
    obtain ⟨k, rfl⟩ : ∃ k', k = k' + 1 := ⟨k - 1, by omega⟩
    refine one k m zm S (by omega) hz hS e11 (by omega) (fun S1 hS1 e1 _ => ?_)
    refine ok_wf (P := fZ) hN g26 hS1.1 (by omega) rfl ⟨_, rfl⟩ (fun S2 hH2 e2 k2 q2 => ?_)
    exact ih k (m + 1) (zm + 1) S2 (by omega) (by omega) (fs6_w (by omega) hS1 hH2 k2 q2) e2 (by omega)
theorem ft11 {nn : Nat} (hN : 45 ≤ N) (hG : ∀ q, 26 ≤ q → q < 45 → G q = R6 (nn : Int) tl a b q) {L : List Int} {M cN cn : Nat} (hM : M ≤ 5040) (hcN : cN ≤ 4) {bh : Nat → Nat → Nat} (hB : BH6 G N L M cN bh) {qv fv sg gd : Nat → Nat} {best : Nat} (hP : bfsP M cN bh qv fv cn) (hI : GI6 cN cn bh qv fv sg best 0 gd) {w : Nat} {zw : Int} (hzw : zw = (w : Int)) (hw : w < best) (hbest : best ≤ 1000000) : ∀ (e k s x : Nat) (zx zs : Int) (S : xS), s + e = w + 1 → zx = (x : Int) → zs = (s : Int) → x < M → fv x = s → gd x ≠ 0 → FS6 G N L M cn qv fv gd S → 10 * e + 800 ≤ k → Ok (g_X6_fewestTo k 11 S 26 0 zw zx zs 0 0 0 0 0) (fun _ S' => Hp G N S') := by
  have g26 := hG 26 (by omega) (by omega)
  intro e
  induction e with
  | zero =>
    intro k s x zx zs S hs hzx hzs hx hfx hgx hS hk
    obtain ⟨k, rfl⟩ : ∃ k', k = k' + 1 := ⟨k - 1, by omega⟩
    show Ok (b_X6_fewestTo_11 (g_X6_fewestTo k) k S 26 0 zw zx zs 0 0 0 0 0) _
    unfold b_X6_fewestTo_11
    refine ok_pos (by rw [wIn (n := zw) (by omega) (by omega), wIn (n := zs) (by omega) (by omega)]; omega) ?_
    exact ok_rdFz hS.1 (by omega) g26 rfl (fun _ => ok_some hS.1)
  | succ e ih =>
    intro k s x zx zs S hs hzx hzs hx hfx hgx hS hk
    obtain ⟨k, rfl⟩ : ∃ k', k = k' + 1 := ⟨k - 1, by omega⟩
    show Ok (b_X6_fewestTo_11 (g_X6_fewestTo k) k S 26 0 zw zx zs 0 0 0 0 0) _
    unfold b_X6_fewestTo_11
    refine ok_neg (by rw [wIn (n := zw) (by omega) (by omega), wIn (n := zs) (by omega) (by omega)]; omega) ?_
    refine ok_wf (P := fZ) hN g26 hS.1 (by omega) rfl ⟨_, rfl⟩ (fun S2 hH2 e2 k2 q2 => ?_)
    have hS2 := fs6_w (by omega) hS hH2 k2 q2
    have hj : ∃ j, j < cn ∧ qv j = x := by
      rcases hP.2.2.2.2.1 x hx with h | h
      · exfalso; omega
      · exact h
    obtain ⟨j, hj, ej⟩ := hj
    obtain ⟨m0, hm0, hl⟩ : ∃ m, m < cN ∧ ldP bh fv gd x m := by
      have := (hI.2.2 j (by omega) hj).2.1
      rw [ej] at this
      exact this hgx (by omega)
    exact ft12 hN hG hM hcN hB hP hI.1 hzx hx hm0 hl (c0 := 10 * e + 800) (by omega) (fun k' S' y zy hk' hzy hy hS' hfy hgy => ih k' (s + 1) y zy (zs + 1) S' (by omega) hzy (by omega) hy (by omega) hgy hS' hk') m0 k 0 0 S2 (by omega) rfl hS2 e2 (by omega)
