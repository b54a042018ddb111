variable {G : xT} {N : Nat} {n tl : Int} {a b : Bool}
theorem ft3 {nn : Nat} (hN : 45 ≤ N) (hG : ∀ q, 26 ≤ q → q < 45 → G q = R6 (nn : Int) tl a b q) {L : List Int} {M cN cn : Nat} (hM : M ≤ 5040) {bh : Nat → Nat → Nat} {qv fv gd : Nat → Nat} (hP : bfsP M cN bh qv fv cn) {i k : Nat} {zi : Int} {S : xS} (hz : zi = (i : Int)) (hi : i ≤ cn) (hS : FS6 G N L M cn qv fv gd S) (hk : 1 ≤ k) : Ok (g_X6_fewestTo k 3 S 26 0 zi 0 0 0 0 0 0 0) (fun _ S' => Hp G N S') := by
  have g26 := hG 26 (by omega) (by omega)
  obtain ⟨k, rfl⟩ : ∃ k', k = k' + 1 := ⟨k - 1, by omega⟩
  have hMi : cn ≤ M := hP.2.1
  have hS' := hS
  obtain ⟨hH, eL, ⟨F, eF, hFl, hF⟩, ⟨Qs, eQ, hQl, hQ⟩, -, e17⟩ := hS'
  obtain ⟨zc, hzc⟩ : ∃ z : Int, z = (cn : Int) := ⟨_, rfl⟩
  rw [← hzc] at e17
  show Ok (b_X6_fewestTo_3 (g_X6_fewestTo k) k S 26 0 zi 0 0 0 0 0 0 0) _
  unfold b_X6_fewestTo_3
  rw [e17]
  refine ok_bind (v := zc) rfl ?_
  rw [wIn (n := zi) (by omega) (by omega), wIn (n := zc) (by omega) (by omega)]
  refine ok_if (fun _ => ok_some hH) (fun hc => ?_)
  have hqi := hP.2.2.1 i (by omega)
  obtain ⟨zx, hzx⟩ : ∃ z : Int, z = (qv i : Int) := ⟨_, rfl⟩
  have hQi := hQ i (by omega)
  rw [← hzx] at hQi
  obtain ⟨zfx, hzfx⟩ : ∃ z : Int, z = (fv (qv i) : Int) := ⟨_, rfl⟩
  have hFx := hF _ hqi.1
  rw [← hzfx] at hFx
  refine ok_rdFp hH (by omega) g26 rfl (ok_rdFp hH (by omega) g26 rfl ?_)
  rw [rdA_at eQ (by omega) (by omega), show zi.toNat = i by omega, hQi]
  refine ok_bind (v := zx) rfl ?_
  rw [rdA_at eF (by omega) (by omega), show zx.toNat = qv i by omega, hFx]
  exact ok_bind (v := zfx) rfl (ok_some hH)
theorem ft2 {nn : Nat} (hN : 45 ≤ N) (hG : ∀ q, 26 ≤ q → q < 45 → G q = R6 (nn : Int) tl a b q) {L : List Int} {M cN cn : Nat} (hM : M ≤ 5040) (hcN : cN ≤ 4) (h41 : L[41]? = some (cN : Int)) {bh : Nat → Nat → Nat} (hB : BH6 G N L M cN bh) {qv fv sg : Nat → Nat} {t : Int} (hSO : SO6 G N L M t sg) (hP : bfsP M cN bh qv fv cn) {zw : Int} (hw : -1 ≤ zw ∧ zw < 2147483648) {i k : Nat} {zi : Int} {S : xS} (hz : zi = (i : Int)) (hi : i ≤ cn) (hsg : i < cn → sg (qv i) ≠ 0) (hS : FS6 G N L M cn qv fv (fun _ => 0) S) (hk : 160000 ≤ (k : Int)) : Ok (g_X6_fewestTo k 2 S 26 0 t zw zi 0 0 0 0 0) (fun _ S' => Hp G N S') := by
  have g26 := hG 26 (by omega) (by omega)
  obtain ⟨k, rfl⟩ : ∃ k', k = k' + 1 := ⟨k - 1, by omega⟩
  have hMi : cn ≤ M := hP.2.1
  have hS' := hS
  obtain ⟨hH, eL, ⟨F, eF, hFl, hF⟩, ⟨Qs, eQ, hQl, hQ⟩, -, e17⟩ := hS'
  obtain ⟨zc, hzc⟩ : ∃ z : Int, z = (cn : Int) := ⟨_, rfl⟩
  rw [← hzc] at e17
  have three : Ok (g_X6_fewestTo k 3 S 26 0 zi 0 0 0 0 0 0 0) (fun _ S' => Hp G N S') := ft3 hN hG hM hP hz hi hS (by omega)
  show Ok (b_X6_fewestTo_2 (g_X6_fewestTo k) k S 26 0 t zw zi 0 0 0 0 0) _
  unfold b_X6_fewestTo_2
  rw [e17]
  refine ok_bind (v := zc) rfl ?_
  rw [wIn (n := zi) (by omega) (by omega), wIn (n := zc) (by omega) (by omega)]
  refine ok_if (fun _ => three) (fun hc => ?_)
  rw [wIn (n := zw) (by omega) (by omega), wIn (n := -1) (by omega) (by omega)]
  refine ok_if (fun _ => three) (fun hw1 => ?_)
  have hic : i < cn := by omega
  have hqi := hP.2.2.1 i hic
  have hs1 := (hSO (qv i) _ rfl hqi.1).1
  have hs2 := hsg hic
  have hlx := fv_le hP hM hqi.1
  obtain ⟨zx, hzx⟩ : ∃ z : Int, z = (qv i : Int) := ⟨_, rfl⟩
  have hQi := hQ i hic
  rw [← hzx] at hQi
  obtain ⟨zb, hzb⟩ : ∃ z : Int, z = (fv (qv i) : Int) := ⟨_, rfl⟩
  have hFx := hF _ hqi.1
  rw [← hzb] at hFx
  refine ok_rdFp hH (by omega) g26 rfl (ok_rdFp hH (by omega) g26 rfl ?_)
  rw [rdA_at eQ (by omega) (by omega), show zi.toNat = i by omega, hQi]
  refine ok_bind (v := zx) rfl ?_
  rw [rdA_at eF (by omega) (by omega), show zx.toNat = qv i by omega, hFx]
  refine ok_bind (v := zb) rfl ?_
  rw [wIn (n := zb) (by omega) (by omega)]
  refine ok_if (fun hlt => ?_) (fun _ => ok_some hH)
  refine ok_bind (v := zc) rfl ?_
  show Ok (g_X6_fewestTo k 4 S 26 0 t zw zb (zc - 1) 0 0 0 0) _
  refine ft4 hN hG hM hcN h41 hB hSO hP hzb hlx (c0 := 55000) (Nat.le_of_ble_eq_true rfl) (fun k' S' gd hk' hS' hI => ?_) cn k (zc - 1) S (fun _ => 0) (by omega) (Nat.le_refl _) hS ⟨fun _ => Nat.zero_le 1, fun _ _ => rfl, fun j h1 h2 => by exfalso; omega⟩ (by omega)
  obtain ⟨k', rfl⟩ : ∃ k'', k' = k'' + 1 := ⟨k' - 1, by omega⟩
  have hS'' := hS'
  obtain ⟨hH', _, _, ⟨Qs', eQ', hQl', hQ'⟩, _, _⟩ := hS''
  obtain ⟨z0, hz0⟩ : ∃ z : Int, z = (qv 0 : Int) := ⟨_, rfl⟩
  have hQ0 := hQ' 0 (by omega)
  rw [← hz0] at hQ0
  have hq0 := hP.2.2.1 0 (by omega)
  show Ok (b_X6_fewestTo_4 (g_X6_fewestTo k') k' S' 26 0 t zw zb (-1) 0 0 0 0) _
  unfold b_X6_fewestTo_4
  refine ok_pos (by decide) ?_
  refine ok_rdFp hH' (by omega) g26 rfl ?_
  rw [rdA_at eQ' (by omega) (by omega), show (0 : Int).toNat = 0 from rfl, hQ0]
  refine ok_bind (v := z0) rfl ?_
  have hg1 : gd (qv i) = 1 := (hI.2.2 i (by omega) hic).1 rfl (by omega)
  exact ft11 hN hG hM hcN hB hP hI (w := zw.toNat) (zw := zw) (by omega) (by omega) hlx (zw.toNat + 1) k' 0 (qv 0) z0 0 S' (by omega) hz0 rfl hq0.1 (by omega) (gi6_0 hP hI i i (Nat.le_refl _) hic (Nat.le_refl _) (by omega)) hS' (by omega)
theorem ft1 {nn : Nat} (hN : 45 ≤ N) (hG : ∀ q, 26 ≤ q → q < 45 → G q = R6 (nn : Int) tl a b q) {L : List Int} {M cN cn : Nat} (hM : M ≤ 5040) (hcN : cN ≤ 4) (h41 : L[41]? = some (cN : Int)) {bh : Nat → Nat → Nat} (hB : BH6 G N L M cN bh) {qv fv sg : Nat → Nat} {t : Int} (hSO : SO6 G N L M t sg) (hP : bfsP M cN bh qv fv cn) {zw : Int} (hw : -1 ≤ zw ∧ zw < 2147483648) : ∀ (e k i : Nat) (zi : Int) (S : xS), i + e = cn → zi = (i : Int) → FS6 G N L M cn qv fv (fun _ => 0) S → 160000 + e + 1 ≤ (k : Int) → Ok (g_X6_fewestTo k 1 S 26 0 t zw zi 0 0 0 0 0) (fun _ S' => Hp G N S') := by
  have g26 := hG 26 (by omega) (by omega)
  have hMi : cn ≤ M := hP.2.1
  intro e
  induction e with
  | zero =>
    intro k i zi S hi hz hS hk
    obtain ⟨k, rfl⟩ : ∃ k', k = k' + 1 := ⟨k - 1, by omega⟩
    have e17 := hS.2.2.2.2.2
    obtain ⟨zc, hzc⟩ : ∃ z : Int, z = (cn : Int) := ⟨_, rfl⟩
    rw [← hzc] at e17
    show Ok (b_X6_fewestTo_1 (g_X6_fewestTo k) k S 26 0 t zw zi 0 0 0 0 0) _
    unfold b_X6_fewestTo_1
    rw [e17]
    refine ok_bind (v := zc) rfl ?_
    refine ok_pos (by rw [wIn (n := zi) (by omega) (by omega), wIn (n := zc) (by omega) (by omega)]; omega) ?_
    exact ft2 hN hG hM hcN h41 hB hSO hP hw hz (by omega) (fun h => by exfalso; omega) hS (by omega)
  | succ e ih =>
    intro k i zi S hi hz hS hk
    obtain ⟨k, rfl⟩ : ∃ k', k = k' + 1 := ⟨k - 1, by omega⟩
    have hS' := hS
    obtain ⟨hH, eL, -, ⟨Qs, eQ, hQl, hQ⟩, -, e17⟩ := hS'
    obtain ⟨zc, hzc⟩ : ∃ z : Int, z = (cn : Int) := ⟨_, rfl⟩
    rw [← hzc] at e17
    have hqi := hP.2.2.1 i (by omega)
    obtain ⟨zx, hzx⟩ : ∃ z : Int, z = (qv i : Int) := ⟨_, rfl⟩
    have hQi := hQ i (by omega)
    rw [← hzx] at hQi
    show Ok (b_X6_fewestTo_1 (g_X6_fewestTo k) k S 26 0 t zw zi 0 0 0 0 0) _
    unfold b_X6_fewestTo_1
    rw [e17]
    refine ok_bind (v := zc) rfl ?_
    refine ok_neg (by rw [wIn (n := zi) (by omega) (by omega), wIn (n := zc) (by omega) (by omega)]; omega) ?_
    refine ok_rdFp hH (by omega) g26 rfl ?_
    rw [rdA_at eQ (by omega) (by omega), show zi.toNat = i by omega, hQi]
    refine ok_bind (v := zx) rfl ?_
    rw [if_pos (is6 hN g26 hH)]
    obtain ⟨hs1, hso⟩ := hSO (qv i) zx hzx hqi.1
    refine ok_bd2 (hso k S hH eL (by omega)) (fun v S1 hQ => ?_)
    obtain ⟨hv, hH1, hfr⟩ := hQ
    have hS1 := fs6_fr hS hH1 hfr
    rw [wIn (n := v) (by omega) (by omega)]
    refine ok_if (fun hv0 => ?_) (fun hv0 => ?_)
    · exact ih k (i + 1) (zi + 1) S1 (by omega) (by omega) hS1 (by omega)
    · exact ft2 hN hG hM hcN h41 hB hSO hP hw hz (by omega) (fun _ => by omega) hS1 (by omega)
def SOr (G : xT) (N : Nat) (L : List Int) (M : Nat) (t : Int) (x v : Nat) : Prop := ∀ zx : Int, zx = (x : Int) → x < M → v ≤ 1 ∧ ∀ (k : Nat) (S : xS), Hp G N S → S[27]? = some (.inl (0, L)) → 300 ≤ k → Ok (f_X6_isSought k S 26 zx t) (fun v' S' => v' = (v : Int) ∧ Hp G N S' ∧ fr6 S S')
theorem so6_ex {nn : Nat} (hN : 45 ≤ N) (hn : 2 ≤ nn ∧ nn ≤ 7) (hG : ∀ q, 26 ≤ q → q < 45 → G q = R6 (nn : Int) tl a b q) (hf : 1 ≤ fac (nn : Int) ∧ fac (nn : Int) ≤ 5040) {L : List Int} (hL : L.length = 57) (hp : nw (nn : Int) L) {M : Nat} (hMf : (M : Int) = fac (nn : Int)) (t : Int) : ∃ sg, SO6 G N L M t sg := by
  have h1 : ∀ x : Nat, ∃ v : Nat, SOr G N L M t x v := by
    intro x
    obtain ⟨v, hv, h⟩ := so_pu hN hn hG hf hL hp t (x : Int)
    refine ⟨v.toNat, fun zx hzx hx => ⟨by omega, fun k S hS eL hk => ?_⟩⟩
    rw [hzx]
    exact ok_mono (h (by omega) k S hS eL hk) (fun r S' hQ => ⟨by omega, hQ.2⟩)
  obtain ⟨sg, hsg⟩ := Classical.axiomOfChoice h1
  exact ⟨sg, fun x zx => hsg x zx⟩
theorem tf_X6_fewestTo {nn : Nat} (hN : 45 ≤ N) (hn : 2 ≤ nn ∧ nn ≤ 7) (hG : ∀ q, 26 ≤ q → q < 45 → G q = R6 (nn : Int) tl a b q) (hf : 1 ≤ fac (nn : Int) ∧ fac (nn : Int) ≤ 5040) {k : Nat} {S : xS} {t zw : Int} (hS : Hp G N S) (hw : -1 ≤ zw ∧ zw < 2147483648) (hk : 166000 ≤ (k : Int)) : Ok (f_X6_fewestTo k S 26 t zw) (fun _ S' => Hp G N S') := by
  have g26 := hG 26 (by omega) (by omega)
  obtain ⟨k, rfl⟩ : ∃ k', k = k' + 1 := ⟨k - 1, by omega⟩
  obtain ⟨L, M, cN, bh, eL, hL, hp, hMf, hM, hcN, h41, hB⟩ := bg6 hN hn hG hf hS
  obtain ⟨sg, hSO⟩ := so6_ex hN hn hG hf hL hp hMf t
  show Ok (b_X6_fewestTo_0 (g_X6_fewestTo k) k S 26 0 t zw 0 0 0 0 0 0) _
  unfold b_X6_fewestTo_0
  rw [if_pos (is6 hN g26 hS)]
  refine ok_bd2 (fd_far hN hn hG hMf hM hcN h41 hB hS eL (by omega)) (fun _ S1 hQ => ?_)
  obtain ⟨cn, qv, fv, hFS, hP⟩ := hQ
  have hMi : cn ≤ M := hP.2.1
  exact ft1 hN hG hM.2 hcN h41 hB hSO hP hw cn k 0 0 S1 (by omega) rfl hFS (by omega)
theorem tf_X6_fewest {nn : Nat} (hN : 45 ≤ N) (hn : 2 ≤ nn ∧ nn ≤ 7) (hG : ∀ q, 26 ≤ q → q < 45 → G q = R6 (nn : Int) tl a b q) (hf : 1 ≤ fac (nn : Int) ∧ fac (nn : Int) ≤ 5040) {k : Nat} {S : xS} {i0 i1 : Int} (hS : Hp G N S) (h0 : -2147483648 ≤ i0 ∧ i0 < 2147483648) (h1 : -2147483648 ≤ i1 ∧ i1 < 2147483648) (hk : 166100 ≤ (k : Int)) : Ok (f_X6_fewest k S 26 i0 i1) (fun _ S' => Hp G N S') := by
  have hn' : 2 ≤ (nn : Int) ∧ (nn : Int) ≤ 7 := by omega
  have g26 := hG 26 (by omega) (by omega)
  obtain ⟨k, rfl⟩ : ∃ k', k = k' + 2 := ⟨k - 2, by omega⟩
  have hbad : ∀ S', Hp G N S' → Ok (g_X6_fewest (k + 1) 1 S' 26 0 0) (fun _ S'' => Hp G N S'') := by
    intro S' hS
    show Ok (b_X6_fewest_1 (g_X6_fewest k) k S' 26 0 0) _
    unfold b_X6_fewest_1
    rw [if_pos (is6 hN g26 hS)]
    exact ok_bd2 (tf_X6_bad hN hn' hG hS trivial) (fun _ _ hQ => ok_some hQ.1)
  show Ok (b_X6_fewest_0 (g_X6_fewest (k + 1)) (k + 1) S 26 i0 i1) _
  unfold b_X6_fewest_0
  rw [if_pos (is6 hN g26 hS)]
  refine ok_bd2 (tf_X6_isRank hN hn' hG hf hS ⟨h0.1, h0.2, by omega⟩) (fun r S' hQ => ?_)
  obtain ⟨rfl, -⟩ := hQ
  refine ok_if (fun _ => hbad _ hS) (fun hc => ?_)
  rw [wIn (n := i1) (by omega) (by omega), wIn (n := -1) (by omega) (by omega)]
  refine ok_if (fun _ => hbad _ hS) (fun hc => ?_)
  rw [if_pos (is6 hN g26 hS)]
  exact ok_bd2 (tf_X6_fewestTo hN hn hG hf hS (by omega) (by omega)) (fun _ _ hQ => ok_some hQ)
theorem tf_X6_till {nn : Nat} (hN : 45 ≤ N) (hn : 2 ≤ nn ∧ nn ≤ 7) (hG : ∀ q, 26 ≤ q → q < 45 → G q = R6 (nn : Int) tl a b q) (hf : 1 ≤ fac (nn : Int) ∧ fac (nn : Int) ≤ 5040) {k : Nat} {S : xS} {i0 : Int} (hS : Hp G N S) (h0 : -2147483648 ≤ i0 ∧ i0 < 2147483648) (hk : 166100 ≤ (k : Int)) : Ok (f_X6_till k S 26 i0) (fun _ S' => Hp G N S') := by
  have hn' : 2 ≤ (nn : Int) ∧ (nn : Int) ≤ 7 := by omega
  have g26 := hG 26 (by omega) (by omega)
  unfold f_X6_till
  rw [wIn (n := i0) (by omega) (by omega), wIn (n := -1) (by omega) (by omega)]
  refine ok_if (fun _ => ?_) (fun hc => ?_)
  · rw [if_pos (is6 hN g26 hS)]
    exact ok_bd2 (tf_X6_bad hN hn' hG hS trivial) (fun _ _ hQ => ok_some hQ.1)
  · rw [if_pos (is6 hN g26 hS)]
    exact ok_bd2 (tf_X6_fewestTo hN hn hG hf hS (by omega) (by omega)) (fun _ _ hQ => ok_some hQ)
