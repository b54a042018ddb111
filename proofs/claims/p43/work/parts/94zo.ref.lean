variable {G : xT} {N : Nat} {n tl : Int} {a b : Bool}
theorem ff1 {nn : Nat} (hN : 45 ≤ N) (hn : 2 ≤ nn ∧ nn ≤ 7) (hG : ∀ q, 26 ≤ q → q < 45 → G q = R6 (nn : Int) tl a b q) {L : List Int} {M cN : Nat} (hMf : (M : Int) = fac (nn : Int)) (hM : 1 ≤ M ∧ M ≤ 5040) (hcN : cN ≤ 4) (h41 : L[41]? = some (cN : Int)) {bh : Nat → Nat → Nat} (hB : BH6 G N L M cN bh) : ∀ (d k i : Nat) (zi : Int) (S : xS) (F D : List Int), i + d = M → zi = (i : Int) → Hp G N S → S[27]? = some (.inl (0, L)) → S[35]? = some (.inl (0, F)) → S[37]? = some (.inl (2, D)) → F.length = 5040 → D.length = 5040 → (∀ j, j < i → F[j]? = some 1000000) → (∀ j, j < i → D[j]? = some 0) → d + 10 * M + 800 ≤ k → Ok (g_X6_findFar k 1 S 26 zi 0) (fun _ S' => ∃ cn qv fv, FS6 G N L M cn qv fv (fun _ => 0) S' ∧ bfsP M cN bh qv fv cn) := by
  have hn' : 2 ≤ (nn : Int) ∧ (nn : Int) ≤ 7 := by omega
  have g26 := hG 26 (by omega) (by omega)
  have g35 := hG 35 (by omega) (by omega)
  have g36 := hG 36 (by omega) (by omega)
  have g37 := hG 37 (by omega) (by omega)
  intro d
  induction d with
  | zero =>
    intro k i zi S F D hi hz hS eL eF eD hFl hDl hF hD hk
    obtain ⟨k, rfl⟩ : ∃ k', k = k' + 1 := ⟨k - 1, by omega⟩
    show Ok (b_X6_findFar_1 (g_X6_findFar k) k S 26 zi 0) _
    unfold b_X6_findFar_1
    rw [if_pos (is6 hN g26 hS)]
    refine ok_ways6 hN hn' hG hS (by omega) ?_
    refine ok_pos (by rw [wIn (n := zi) (by omega) (by omega), wIn (n := fac (nn : Int)) (by omega) (by omega)]; omega) ?_
    refine ok_rdFp hS (by omega) g26 rfl ?_
    rw [if_pos (is6 hN g26 hS)]
    refine ok_bd2 (rk_now hN hn hG hS (by omega)) (fun zr S1 hQ => ?_)
    obtain ⟨hS1, hr, K, e1, -, -⟩ := hQ
    have q1 : ∀ q, q ≠ 31 → S1[q]? = S[q]? := fun q hq => by rw [e1]; exact List.getElem?_set_ne (by omega)
    obtain ⟨r, hzr⟩ : ∃ r : Nat, zr = (r : Int) := ⟨zr.toNat, by omega⟩
    obtain ⟨c, eQ, hc⟩ := hp_get hS1 (show 36 < N by omega)
    rw [g36] at hc
    obtain ⟨Qs, rfl, hQl, hQR⟩ := hc
    refine ok_wrL hS1 (by omega) g36 eQ (by omega) (by omega) (by omega) (fun h => tR_set (by omega) _ h) (fun hS2 => ?_)
    rw [show (0 : Int).toNat = 0 from rfl] at hS2 ⊢
    have q2 : ∀ q, q ≠ 36 → (S1.set 36 (.inl (0, Qs.set 0 zr)))[q]? = S1[q]? := fun q hq => List.getElem?_set_ne (by omega)
    have eQ2 : (S1.set 36 (.inl (0, Qs.set 0 zr)))[36]? = some (.inl (0, Qs.set 0 zr)) := set_at eQ
    generalize S1.set 36 (.inl (0, Qs.set 0 zr)) = S2 at hS2 q2 eQ2
    refine ok_rdFp hS2 (by omega) g26 rfl (ok_rdFp hS2 (by omega) g26 rfl ?_)
    rw [rdA_at eQ2 (by omega) (by omega), show (0 : Int).toNat = 0 from rfl, List.getElem?_set_self (by omega)]
    refine ok_bind (v := zr) rfl ?_
    have eF2 : S2[35]? = some (.inl (0, F)) := by rw [q2 35 (by omega), q1 35 (by omega)]; exact eF
    refine ok_wrL hS2 (by omega) g35 eF2 (by omega) (by omega) (by omega) (fun _ => trivial) (fun hS3 => ?_)
    rw [show zr.toNat = r by omega] at hS3 ⊢
    have q3 : ∀ q, q ≠ 35 → (S2.set 35 (.inl (0, F.set r 0)))[q]? = S2[q]? := fun q hq => List.getElem?_set_ne (by omega)
    have eF3 : (S2.set 35 (.inl (0, F.set r 0)))[35]? = some (.inl (0, F.set r 0)) := set_at eF2
    generalize S2.set 35 (.inl (0, F.set r 0)) = S3 at hS3 q3 eF3
    refine ok_wf (P := fZ) hN g26 hS3 (by omega) rfl ⟨_, rfl⟩ (fun S4 hS4 e4 k4 q4 => ?_)
    refine ff2 hN hn hG hM.2 hcN h41 hB M k 0 0 S4 1 (fun _ => r) (fun x => if x = r then 0 else 1000000) (by omega) rfl ⟨hS4, ?_, ⟨F.set r 0, ?_, by rw [List.length_set]; exact hFl, fun x hx => ?_⟩, ⟨Qs.set 0 zr, ?_, by rw [List.length_set]; exact hQl, fun j hj => ?_⟩, ⟨D, ?_, hDl, fun x hx => hD x (by omega)⟩, e4⟩ ⟨by omega, hM.1, fun j hj => ⟨(by omega : r < M), ?_⟩, fun i j hi hj _ => by omega, fun x hx => ?_, fun j j0 j1 => by exfalso; omega⟩ (by omega)
    · rw [q4 27 (by omega), q3 27 (by omega), q2 27 (by omega), q1 27 (by omega)]; exact eL
    · rw [q4 35 (by omega)]; exact eF3
    · show (F.set r 0)[x]? = some ((if x = r then 0 else 1000000 : Nat) : Int)
      by_cases hxr : x = r
      · rw [if_pos hxr, hxr, List.getElem?_set_self (by omega)]
        rfl
      · rw [if_neg hxr, List.getElem?_set_ne (by omega), hF x (by omega)]
        rfl
    · rw [q4 36 (by omega), q3 36 (by omega)]; exact eQ2
    · rw [show j = 0 by omega, List.getElem?_set_self (by omega), hzr]
    · rw [q4 37 (by omega), q3 37 (by omega), q2 37 (by omega), q1 37 (by omega)]; exact eD
    · show (if r = r then 0 else 1000000) ≤ j
      rw [if_pos rfl]
      omega
    · show (if x = r then 0 else 1000000) = 1000000 ∨ ∃ j, j < 1 ∧ r = x
      by_cases hxr : x = r
      · exact Or.inr ⟨0, by omega, hxr.symm⟩
      · exact Or.inl (if_neg hxr)
  | succ d ih =>
    intro k i zi S F D hi hz hS eL eF eD hFl hDl hF hD hk
    obtain ⟨k, rfl⟩ : ∃ k', k = k' + 1 := ⟨k - 1, by omega⟩
    show Ok (b_X6_findFar_1 (g_X6_findFar k) k S 26 zi 0) _
    unfold b_X6_findFar_1
    rw [if_pos (is6 hN g26 hS)]
    refine ok_ways6 hN hn' hG hS (by omega) ?_
    refine ok_neg (by rw [wIn (n := zi) (by omega) (by omega), wIn (n := fac (nn : Int)) (by omega) (by omega)]; omega) ?_
    refine ok_rdFp hS (by omega) g26 rfl ?_
    refine ok_wrL hS (by omega) g35 eF (by omega) (by omega) (by omega) (fun _ => trivial) (fun hS2 => ?_)
    rw [show zi.toNat = i by omega] at hS2 ⊢
    have q2 : ∀ q, q ≠ 35 → (S.set 35 (.inl (0, F.set i 1000000)))[q]? = S[q]? := fun q hq => List.getElem?_set_ne (by omega)
    have eF2 : (S.set 35 (.inl (0, F.set i 1000000)))[35]? = some (.inl (0, F.set i 1000000)) := set_at eF
    generalize S.set 35 (.inl (0, F.set i 1000000)) = S2 at hS2 q2 eF2
    have eD2 : S2[37]? = some (.inl (2, D)) := (q2 37 (by omega)).trans eD
    refine ok_rdFp hS2 (by omega) g26 rfl ?_
    refine ok_wrL hS2 (by omega) g37 eD2 (by omega) (by omega) (by omega) (fun h => tR_set (by omega) _ h) (fun hS3 => ?_)
    rw [show zi.toNat = i by omega] at hS3 ⊢
    refine ih k (i + 1) (zi + 1) _ (F.set i 1000000) (D.set i 0) (by omega) (by omega) hS3 ?_ ?_ (set_at eD2) (by rw [List.length_set]; exact hFl) (by rw [List.length_set]; exact hDl) (fun j hj => ?_) (fun j hj => ?_) (by omega)
    · rw [List.getElem?_set_ne (by omega), q2 27 (by omega)]; exact eL
    · rw [List.getElem?_set_ne (by omega)]; exact eF2
    · by_cases hji : j = i
      · rw [hji, List.getElem?_set_self (by omega)]
      · rw [List.getElem?_set_ne (by omega)]
        exact hF j (by omega)
    · by_cases hji : j = i
      · rw [hji, List.getElem?_set_self (by omega)]
      · rw [List.getElem?_set_ne (by omega)]
        exact hD j (by omega)
theorem fd_far {nn : Nat} (hN : 45 ≤ N) (hn : 2 ≤ nn ∧ nn ≤ 7) (hG : ∀ q, 26 ≤ q → q < 45 → G q = R6 (nn : Int) tl a b q) {L : List Int} {M cN : Nat} (hMf : (M : Int) = fac (nn : Int)) (hM : 1 ≤ M ∧ M ≤ 5040) (hcN : cN ≤ 4) (h41 : L[41]? = some (cN : Int)) {bh : Nat → Nat → Nat} (hB : BH6 G N L M cN bh) {k : Nat} {S : xS} (hS : Hp G N S) (eL : S[27]? = some (.inl (0, L))) (hk : 57000 ≤ (k : Int)) : Ok (f_X6_findFar k S 26) (fun _ S' => ∃ cn qv fv, FS6 G N L M cn qv fv (fun _ => 0) S' ∧ bfsP M cN bh qv fv cn) := by
  obtain ⟨k, rfl⟩ : ∃ k', k = k' + 1 := ⟨k - 1, by omega⟩
  obtain ⟨c, eF, hc⟩ := hp_get hS (show 35 < N by omega)
  rw [hG 35 (by omega) (by omega)] at hc
  obtain ⟨F, rfl, hFl, -⟩ := hc
  obtain ⟨c, eD, hc⟩ := hp_get hS (show 37 < N by omega)
  rw [hG 37 (by omega) (by omega)] at hc
  obtain ⟨D, rfl, hDl, -⟩ := hc
  exact ff1 hN hn hG hMf hM hcN h41 hB M k 0 0 S F D (by omega) rfl hS eL eF eD hFl hDl (fun j hj => by exfalso; omega) (fun j hj => by exfalso; omega) (by omega)
def BHr (G : xT) (N : Nat) (L : List Int) (M cN : Nat) (r m y : Nat) : Prop := ∀ (zr zm : Int), zr = (r : Int) → zm = (m : Int) → r < M → m < cN → y < M ∧ ∀ (k : Nat) (S : xS), Hp G N S → S[27]? = some (.inl (0, L)) → 600 ≤ k → Ok (f_X6_behind k S 26 zr zm) (fun y' S' => y' = (y : Int) ∧ Hp G N S' ∧ fr6 S S')
/-- where one begins: what is told now, its ways and moves, `behind` -/
theorem bg6 {nn : Nat} (hN : 45 ≤ N) (hn : 2 ≤ nn ∧ nn ≤ 7) (hG : ∀ q, 26 ≤ q → q < 45 → G q = R6 (nn : Int) tl a b q) (hf : 1 ≤ fac (nn : Int) ∧ fac (nn : Int) ≤ 5040) {S : xS} (hS : Hp G N S) : ∃ (L : List Int) (M cN : Nat) (bh : Nat → Nat → Nat), S[27]? = some (.inl (0, L)) ∧ L.length = 57 ∧ nw (nn : Int) L ∧ (M : Int) = fac (nn : Int) ∧ (1 ≤ M ∧ M ≤ 5040) ∧ cN ≤ 4 ∧ L[41]? = some (cN : Int) ∧ BH6 G N L M cN bh := by
  obtain ⟨c, eL, hc⟩ := hp_get hS (show 27 < N by omega)
  rw [hG 27 (by omega) (by omega)] at hc
  obtain ⟨L, rfl, hL, hp⟩ := hc
  obtain ⟨c, h41⟩ : ∃ v, L[41]? = some v := ⟨_, List.getElem?_eq_getElem (by omega)⟩
  have hc := hp.2.2.2.2.2.2.2.1 c h41
  have hM : ((fac (nn : Int)).toNat : Int) = fac (nn : Int) := by omega
  have h1 : ∀ r : Nat, ∃ f : Nat → Nat, ∀ m : Nat, BHr G N L (fac (nn : Int)).toNat c.toNat r m (f m) := by
    intro r
    refine Classical.axiomOfChoice (fun m => ?_)
    obtain ⟨y, hy⟩ := bh_pu hN hn hG hp h41 (r : Int) (m : Int)
    by_cases hin : r < (fac (nn : Int)).toNat ∧ m < c.toNat
    · have hr := hy (by omega) (by omega) hL
      obtain ⟨_, _, _, ⟨_, y0, y1⟩, _⟩ := hr 600 S hS eL (by omega)
      refine ⟨y.toNat, fun zr zm e1 e2 _ _ => ⟨by omega, fun k S' hS' eL' hk => ?_⟩⟩
      rw [e1, e2]
      exact ok_mono (hr k S' hS' eL' hk) (fun r' S'' hQ => ⟨by omega, hQ.2⟩)
    · exact ⟨0, fun zr zm _ _ h1 h2 => absurd ⟨h1, h2⟩ hin⟩
  obtain ⟨bh, hbh⟩ := Classical.axiomOfChoice h1
  exact ⟨L, (fac (nn : Int)).toNat, c.toNat, bh, eL, hL, hp, hM, by omega, by omega, by rw [h41]; exact congrArg some (by omega), fun r m => hbh r m⟩
theorem tf_X6_group {nn : Nat} (hN : 45 ≤ N) (hn : 2 ≤ nn ∧ nn ≤ 7) (hG : ∀ q, 26 ≤ q → q < 45 → G q = R6 (nn : Int) tl a b q) (hf : 1 ≤ fac (nn : Int) ∧ fac (nn : Int) ≤ 5040) {k : Nat} {S : xS} (hS : Hp G N S) (hk : 57000 ≤ (k : Int)) : Ok (f_X6_group k S 26) (fun _ S' => Hp G N S') := by
  have g26 := hG 26 (by omega) (by omega)
  obtain ⟨L, M, cN, bh, eL, hL, hp, hMf, hM, hcN, h41, hB⟩ := bg6 hN hn hG hf hS
  unfold f_X6_group
  rw [if_pos (is6 hN g26 hS)]
  refine ok_bd2 (fd_far hN hn hG hMf hM hcN h41 hB hS eL hk) (fun _ S1 hQ => ?_)
  obtain ⟨cn, qv, fv, hFS, -⟩ := hQ
  exact ok_bind hFS.2.2.2.2.2 (ok_some hFS.1)
