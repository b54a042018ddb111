variable {G : xT} {N : Nat} {n tl : Int} {a b : Bool}
theorem ok_wf {mo : xV → Prop} (hN : 45 ≤ N) (g26 : G 26 = o6 tl mo) {i : Nat} {P : xV → Prop} {S : xS} {z : Int} {Q : Int → xS → Prop} {f : xS → Option (Int × xS)} (hS : Hp G N S) (hi : i < 30) (hk : ([fP 27, fP 28, fP 29, fP 30, fL, fL, fP 31, fZ, fP 32, mo, fI 0 1, fZ, fP 33, fP 34, fP 35, fP 36, fP 37, fZ, fP 38, fP 39, fP 40, fP 41, fP 42, fI tl tl, fI 0 150, fI 0 150, fZ, fI 0 9999, fP 43, fP 44] : List (xV → Prop))[i]? = some P) (hv : P (.inl z)) (hf : ∀ S', Hp G N S' → rdFi 5 i S' 26 = some z → (∀ k, k ≠ i → rdFi 5 k S' 26 = rdFi 5 k S 26) → (∀ q, q ≠ 26 → S'[q]? = S[q]?) → Ok (f S') Q) : Ok ((wrF 5 i S 26 (.inl z)).bind f) Q := by
  obtain ⟨c, e, hc⟩ := hp_get hS (show 26 < N by omega)
  rw [g26] at hc
  have hc' := hc
  obtain ⟨fs, rfl, hl, hF⟩ := hc
  have hkl : i < fs.length := by rw [hl]; exact hi
  refine ok_bind (wrF_at e hkl) (hf _ (hp_set hS ?_) ?_ (fun k hk => ?_) (fun q hq => List.getElem?_set_ne (by omega)))
  · rw [g26]
    exact tO_set hk hv hc'
  · unfold rdFi
    rw [fs_at (fs := fs.set i (.inl z)) (set_at e), List.getElem?_set_self hkl]
  · unfold rdFi
    rw [fs_at (fs := fs.set i (.inl z)) (set_at e), fs_at (fs := fs) e, List.getElem?_set_ne (by omega)]
theorem st6_q {nn : Nat} {L : List Int} {V : Nat → Nat} {S S' : xS} (h : St6 G N nn L V S) (hS : Hp G N S') (hq : ∀ q, q ≠ 26 → q ≠ 32 → S'[q]? = S[q]?) : St6 G N nn L V S' := by
  obtain ⟨_, eL, K, eK, hK⟩ := h
  exact ⟨hS, by rw [hq 27 (by omega) (by omega)]; exact eL, K, by rw [hq 31 (by omega) (by omega)]; exact eK, hK⟩
theorem sk_p1 {nn : Nat} (hN : 45 ≤ N) (hn : 2 ≤ nn ∧ nn ≤ 7) (hG : ∀ q, 26 ≤ q → q < 45 → G q = R6 (nn : Int) tl a b q) {L : List Int} {V : Nat → Nat} (hL : L.length = 57) (hp : nw (nn : Int) L) (hV : ∀ j, j < nn → V j < nn) {s : Nat} {zs : Int} (hzs : zs = (s : Int)) (hs : s < nn) {lim : Int} (hlim : L[1]? = some lim) : ∀ (m c : Nat) (zc u f : Int) (β : Nat → Nat), c + m = nn → zc = (c : Int) → (f = 0 ∨ f = 1) → 0 ≤ u ∧ u < 128 → pcn u ≤ c → (∀ j, j < c → β j < nn) → ∃ r : Int, ∀ (k : Nat) (S : xS) (p1 : Nat) (i2 : Int), St6 G N nn L V S → Bx6 c β S → rdFi 5 9 S 26 = some zc → rdFi 5 10 S 26 = some f → 2 * m + 40 ≤ k → Ok (g_X6_seek k 1 S 26 p1 zs u i2) (fun _ S' => St6 G N nn L V S' ∧ rdFi 5 10 S' 26 = some r ∧ fr6 S S') := by
  have g26 := hG 26 (by omega) (by omega)
  have g27 := hG 27 (by omega) (by omega)
  have g32 := hG 32 (by omega) (by omega)
  have hlr := hp.2.1 lim hlim
  have stop : ∀ (m c : Nat) (zc u f : Int) (β : Nat → Nat), zc = (c : Int) → c ≤ nn → (f = 1 ∨ (f = 0 ∧ lim ≤ zc)) → ∃ r : Int, ∀ (k : Nat) (S : xS) (p1 : Nat) (i2 : Int), St6 G N nn L V S → Bx6 c β S → rdFi 5 9 S 26 = some zc → rdFi 5 10 S 26 = some f → 2 * m + 40 ≤ k → Ok (g_X6_seek k 1 S 26 p1 zs u i2) (fun _ S' => St6 G N nn L V S' ∧ rdFi 5 10 S' 26 = some r ∧ fr6 S S') := by
    intro m c zc u f β hz hc hf
    refine ⟨f, fun k S p1 i2 hS hB e9 e10 hk => ?_⟩
    have hS' := hS
    obtain ⟨hH, eL, -⟩ := hS'
    obtain ⟨k, rfl⟩ : ∃ k', k = k' + 1 := ⟨k - 1, by omega⟩
    show Ok (b_X6_seek_1 (g_X6_seek k) k S 26 p1 zs u i2) _
    unfold b_X6_seek_1
    rw [e10]
    show Ok (if wI f = 0 then _ else _) _
    rcases hf with rfl | ⟨rfl, hf⟩
    · exact ok_neg (by decide) (ok_some ⟨hS, e10, fr6_r S⟩)
    · refine ok_pos (by decide) ?_
      rw [e9]
      refine ok_rdFp hH (by omega) g26 rfl ?_
      rw [rdA_at eL (by omega) (by omega), show (1 : Int).toNat = 1 from rfl, hlim]
      show Ok (if wI lim ≤ wI zc then _ else _) _
      rw [wIn (n := lim) (by omega) (by omega), wIn (n := zc) (by omega) (by omega)]
      exact ok_pos hf (ok_some ⟨hS, e10, fr6_r S⟩)
  intro m
  induction m with
  | zero =>
    intro c zc u f β hc hz hf hu hpc hβ
    exact stop 0 c zc u f β hz (by omega) (by omega)
  | succ m ih =>
    intro c zc u f β hc hz hf hu hpc hβ
    by_cases hst : f = 1 ∨ (f = 0 ∧ lim ≤ zc)
    · exact stop (m + 1) c zc u f β hz (by omega) hst
    · have f0 : f = 0 := by omega
      subst f0
      obtain ⟨y, hy, hbx⟩ := bx_pu hN hn hG (V := V) (zs := zs) (zc := zc) hL hp hV hzs hz hs (c := c) (by omega) hβ (u := u) (by omega)
      obtain ⟨zy, hzy⟩ : ∃ zy : Int, zy = (y : Int) := ⟨_, rfl⟩
      obtain ⟨vy, hvy⟩ : ∃ vy : Int, vy = (V y : Int) := ⟨_, rfl⟩
      have hb5 := bF5_s hu (show 0 ≤ zy ∧ zy ≤ 6 by omega)
      obtain ⟨r, hr⟩ := ih (c + 1) (zc + 1) (xOr u (xShl 1 zy)) (if wI vy = wI zs then 1 else 0) (fun j => if j = c then y else β j) (by omega) (by omega) (by split <;> omega) ⟨hb5.1, hb5.2.1⟩ (by omega) (fun j hj => by
        show (if j = c then y else β j) < nn
        split
        · exact hy
        · exact hβ j (by omega))
      refine ⟨r, fun k S p1 i2 hS hB e9 e10 hk => ?_⟩
      have hS' := hS
      obtain ⟨hH, eL, K, eK, hK⟩ := hS'
      have hB' := hB
      obtain ⟨B, eB, hBl, hBj⟩ := hB'
      obtain ⟨k, rfl⟩ : ∃ k', k = k' + 2 := ⟨k - 2, by omega⟩
      show Ok (b_X6_seek_1 (g_X6_seek (k + 1)) (k + 1) S 26 p1 zs u i2) _
      unfold b_X6_seek_1
      rw [e10]
      refine ok_bind (v := 0) rfl ?_
      refine ok_pos (by decide) ?_
      rw [e9]
      refine ok_rdFp hH (by omega) g26 rfl ?_
      rw [rdA_at eL (by omega) (by omega), show (1 : Int).toNat = 1 from rfl, hlim]
      show Ok (if wI lim ≤ wI zc then _ else _) _
      rw [wIn (n := lim) (by omega) (by omega), wIn (n := zc) (by omega) (by omega)]
      refine ok_neg (by omega) ?_
      show Ok (if isO 5 S 26 = true then _ else _) _
      rw [if_pos (is6 hN g26 hH)]
      refine ok_bd2 (hbx (k + 1) S hS hB (by omega)) (fun r' S' hQ => ?_)
      obtain ⟨hr', rfl⟩ := hQ
      have hr'' := hzy.trans hr'.symm
      subst hr''
      refine ok_rdFp hH (by omega) g26 rfl ?_
      rw [e9]
      show Ok ((wrA 0 S' 32 zc zy).bind _) _
      rw [wrA_of eB (by omega) (by omega) (by omega), show zc.toNat = c by omega]
      have hBR : tR 0 6 B := by
        obtain ⟨c', ec, hc'⟩ := hp_get hH (show 32 < N by omega)
        rw [eB] at ec
        cases ec
        rw [g32] at hc'
        obtain ⟨B', eb, _, h⟩ := hc'
        cases eb
        exact h
      have hS1 : Hp G N (S'.set 32 (.inl (0, B.set c zy))) := hp_set hH (by rw [g32]; exact ⟨_, rfl, by rw [List.length_set]; exact hBl, tR_set (by omega) B hBR⟩)
      have q1 : ∀ q, q ≠ 32 → (S'.set 32 (.inl (0, B.set c zy)))[q]? = S'[q]? := fun q hq => List.getElem?_set_ne (by omega)
      have eB1 : (S'.set 32 (.inl (0, B.set c zy)))[32]? = some (.inl (0, B.set c zy)) := set_at eB
      generalize S'.set 32 (.inl (0, B.set c zy)) = S1 at hS1 q1 eB1
      show Ok ((rdFi 5 9 S1 26).bind _) _
      rw [rdFi_cg (q1 26 (by omega)), e9]
      show Ok ((wrF 5 9 S1 26 (.inl (zc + 1))).bind _) _
      refine ok_wf hN g26 hS1 (by omega) rfl (⟨_, rfl, by omega, by omega⟩ : fI 0 7 _) (fun S2 hS2 e92 k2 q2 => ?_)
      show Ok ((rdFp 5 6 S2 26).bind fun q35 => (rdA 0 S2 q35 zy).bind fun x36 => if wI x36 = wI zs then (g_X6_seek (k + 1) 2 S2 26 26 zs (xOr u (xShl 1 zy)) 1) else (g_X6_seek (k + 1) 2 S2 26 26 zs (xOr u (xShl 1 zy)) 0)) _
      have hKy := hK y hy
      rw [← hvy] at hKy
      have eK2 : S2[31]? = some (.inl (0, K)) := by rw [q2 31 (by omega), q1 31 (by omega)]; exact eK
      refine ok_rdFp hS2 (by omega) g26 rfl ?_
      rw [rdA_at eK2 (by omega) (by omega), show zy.toNat = y by omega, hKy]
      have two : ∀ z : Int, z = (if wI vy = wI zs then 1 else 0) → Ok (g_X6_seek (k + 1) 2 S2 26 26 zs (xOr u (xShl 1 zy)) z) (fun _ S'' => St6 G N nn L V S'' ∧ rdFi 5 10 S'' 26 = some r ∧ fr6 S' S'') := by
        intro z hz2
        have hz01 : z = 0 ∨ z = 1 := by
          rw [hz2]
          split <;> omega
        show Ok (b_X6_seek_2 (g_X6_seek k) k S2 26 26 zs (xOr u (xShl 1 zy)) z) _
        unfold b_X6_seek_2
        refine ok_pos hz01 ?_
        refine ok_wf hN g26 hS2 (by omega) rfl (⟨_, rfl, by omega, by omega⟩ : fI 0 1 _) (fun S3 hS3 e103 k3 q3 => ?_)
        have hq : ∀ q, q ≠ 26 → q ≠ 32 → S3[q]? = S'[q]? := fun q h1 h2 => ((q3 q h1).trans (q2 q h1)).trans (q1 q h2)
        rw [← hz2] at hr
        refine ok_mono (hr k S3 0 0 (st6_q hS hS3 hq) ⟨B.set c zy, by rw [q3 32 (by omega), q2 32 (by omega)]; exact eB1, by rw [List.length_set]; exact hBl, fun j hj => ?_⟩ (by rw [k3 9 (by omega)]; exact e92) e103 (by omega)) (fun _ S4 hQ => ⟨hQ.1, hQ.2.1, fr6_t ⟨fun q h1 _ h3 _ _ => hq q h1 h3, fun i h1 h2 => ?_⟩ hQ.2.2⟩)
        · show (B.set c zy)[j]? = some ((if j = c then y else β j : Nat) : Int)
          by_cases hjc : j = c
          · rw [if_pos hjc, hjc, List.getElem?_set_self (by omega), hzy]
          · rw [if_neg hjc, List.getElem?_set_ne (by omega)]
            exact hBj j (by omega)
        · rw [k3 i h2, k2 i h1, rdFi_cg (q1 26 (by omega))]
      show Ok (if wI vy = wI zs then _ else _) _
      refine ok_if (fun h => two 1 (by rw [if_pos h])) (fun h => two 0 (by rw [if_neg h]))
theorem sk_pu {nn : Nat} (hN : 45 ≤ N) (hn : 2 ≤ nn ∧ nn ≤ 7) (hG : ∀ q, 26 ≤ q → q < 45 → G q = R6 (nn : Int) tl a b q) {L : List Int} {V : Nat → Nat} (hL : L.length = 57) (hp : nw (nn : Int) L) (hV : ∀ j, j < nn → V j < nn) {s : Nat} {zs : Int} (hzs : zs = (s : Int)) (hs : s < nn) : ∃ r : Int, ∀ (k : Nat) (S : xS), St6 G N nn L V S → 60 ≤ k → Ok (f_X6_seek k S 26 zs) (fun _ S' => St6 G N nn L V S' ∧ rdFi 5 10 S' 26 = some r ∧ fr6 S S') := by
  have g26 := hG 26 (by omega) (by omega)
  have g32 := hG 32 (by omega) (by omega)
  obtain ⟨lim, hlim⟩ : ∃ v, L[1]? = some v := ⟨_, List.getElem?_eq_getElem (by omega)⟩
  obtain ⟨r, hr⟩ := sk_p1 hN hn hG hL hp hV hzs hs hlim nn 0 0 0 0 (fun _ => 0) (by omega) rfl (Or.inl rfl) (by omega) (by rw [pcn_0]; omega) (fun j hj => by exfalso; omega)
  refine ⟨r, fun k S hS hk => ?_⟩
  obtain ⟨k, rfl⟩ : ∃ k', k = k' + 1 := ⟨k - 1, by omega⟩
  show Ok (b_X6_seek_0 (g_X6_seek k) k S 26 0 zs 0 0) _
  unfold b_X6_seek_0
  refine ok_wf hN g26 hS.1 (by omega) rfl (⟨_, rfl, by omega, by omega⟩ : fI 0 7 _) (fun S1 hS1 e1 k1 q1 => ?_)
  refine ok_wf hN g26 hS1 (by omega) rfl (⟨_, rfl, by omega, by omega⟩ : fI 0 1 _) (fun S2 hS2 e2 k2 q2 => ?_)
  have hq : ∀ q, q ≠ 26 → S2[q]? = S[q]? := fun q h => (q2 q h).trans (q1 q h)
  obtain ⟨c, eB, hc⟩ := hp_get hS2 (show 32 < N by omega)
  rw [g32] at hc
  obtain ⟨B, rfl, hBl, hBR⟩ := hc
  refine ok_mono (hr k S2 0 0 (st6_q hS hS2 (fun q h _ => hq q h)) ⟨B, eB, hBl, fun j hj => by exfalso; omega⟩ (by rw [k2 9 (by omega)]; exact e1) e2 (by omega)) (fun _ S3 hQ => ⟨hQ.1, hQ.2.1, fr6_t ⟨fun q h1 _ _ _ _ => hq q h1, fun i h1 h2 => ?_⟩ hQ.2.2⟩)
  rw [k2 i h2, k1 i h1]
theorem fh_p1 {nn : Nat} (hN : 45 ≤ N) (hn : 2 ≤ nn ∧ nn ≤ 7) (hG : ∀ q, 26 ≤ q → q < 45 → G q = R6 (nn : Int) tl a b q) {L : List Int} {V : Nat → Nat} (hL : L.length = 57) (hp : nw (nn : Int) L) (hV : ∀ j, j < nn → V j < nn) : ∀ (d i : Nat) (zi acc : Int), i + d = nn → zi = (i : Int) → ∃ r : Int, ∀ (k : Nat) (S : xS), St6 G N nn L V S → 2 * d + 70 ≤ k → Ok (g_X6_findsHand k 1 S 26 acc zi 0) (fun r' S' => r' = r ∧ St6 G N nn L V S' ∧ fr6 S S') := by
  have g26 := hG 26 (by omega) (by omega)
  have g27 := hG 27 (by omega) (by omega)
  intro d
  induction d with
  | zero =>
    intro i zi acc hi hz
    refine ⟨acc, fun k S hS hk => ?_⟩
    obtain ⟨k, rfl⟩ : ∃ k', k = k' + 1 := ⟨k - 1, by omega⟩
    show Ok (b_X6_findsHand_1 (g_X6_findsHand k) k S 26 acc zi 0) _
    unfold b_X6_findsHand_1
    rw [if_pos (is6 hN g26 hS.1), bd2_some (tf_X6_n (by omega) g26 g27 hS.1)]
    rw [wIn (n := zi) (by omega) (by omega), wIn (n := (nn : Int)) (by omega) (by omega), if_pos (by omega)]
    exact ok_some ⟨rfl, hS, fr6_r S⟩
  | succ d ih =>
    intro i zi acc hi hz
    obtain ⟨f, hf⟩ := sk_pu hN hn hG (L := L) (V := V) hL hp hV (s := i) (zs := zi) hz (by omega)
    obtain ⟨r, hr⟩ := ih (i + 1) (zi + 1) (xOr acc (if wI f = 0 then 0 else xShl 1 zi)) (by omega) (by omega)
    refine ⟨r, fun k S hS hk => ?_⟩
    obtain ⟨k, rfl⟩ : ∃ k', k = k' + 2 := ⟨k - 2, by omega⟩
    show Ok (b_X6_findsHand_1 (g_X6_findsHand (k + 1)) (k + 1) S 26 acc zi 0) _
    unfold b_X6_findsHand_1
    rw [if_pos (is6 hN g26 hS.1), bd2_some (tf_X6_n (by omega) g26 g27 hS.1)]
    rw [wIn (n := zi) (by omega) (by omega), wIn (n := (nn : Int)) (by omega) (by omega), if_neg (by omega), if_pos (is6 hN g26 hS.1)]
    refine ok_bd2 (hf (k + 1) S hS (by omega)) (fun _ S1 hQ => ?_)
    obtain ⟨hS1, e10, hfr⟩ := hQ
    rw [e10]
    show Ok (if wI f = 0 then g_X6_findsHand (k + 1) 2 S1 26 zi acc 0 else g_X6_findsHand (k + 1) 2 S1 26 zi acc (xShl 1 zi)) _
    refine ok_if (fun h => ?_) (fun h => ?_)
    · rw [if_pos h] at hr
      exact ok_mono (hr k S1 hS1 (by omega)) (fun _ S2 hQ => ⟨hQ.1, hQ.2.1, fr6_t hfr hQ.2.2⟩)
    · rw [if_neg h] at hr
      exact ok_mono (hr k S1 hS1 (by omega)) (fun _ S2 hQ => ⟨hQ.1, hQ.2.1, fr6_t hfr hQ.2.2⟩)
theorem fh_pu {nn : Nat} (hN : 45 ≤ N) (hn : 2 ≤ nn ∧ nn ≤ 7) (hG : ∀ q, 26 ≤ q → q < 45 → G q = R6 (nn : Int) tl a b q) {L : List Int} {V : Nat → Nat} (hL : L.length = 57) (hp : nw (nn : Int) L) (hV : ∀ j, j < nn → V j < nn) : ∃ r : Int, ∀ (k : Nat) (S : xS), St6 G N nn L V S → 100 ≤ k → Ok (f_X6_findsHand k S 26) (fun r' S' => r' = r ∧ St6 G N nn L V S' ∧ fr6 S S') := by
  obtain ⟨r, hr⟩ := fh_p1 hN hn hG hL hp hV nn 0 0 0 (by omega) rfl
  refine ⟨r, fun k S hS hk => ?_⟩
  obtain ⟨k, rfl⟩ : ∃ k', k = k' + 1 := ⟨k - 1, by omega⟩
  exact hr k S hS (by omega)
theorem so_pu {nn : Nat} (hN : 45 ≤ N) (hn : 2 ≤ nn ∧ nn ≤ 7) (hG : ∀ q, 26 ≤ q → q < 45 → G q = R6 (nn : Int) tl a b q) (hf : 1 ≤ fac (nn : Int) ∧ fac (nn : Int) ≤ 5040) {L : List Int} (hL : L.length = 57) (hp : nw (nn : Int) L) (i1 r : Int) : ∃ v : Int, (v = 0 ∨ v = 1) ∧ (0 ≤ r ∧ r < fac (nn : Int) → ∀ (k : Nat) (S : xS), Hp G N S → S[27]? = some (.inl (0, L)) → 300 ≤ k → Ok (f_X6_isSought k S 26 r i1) (fun v' S' => v' = v ∧ Hp G N S' ∧ fr6 S S')) := by
  by_cases hr : 0 ≤ r ∧ r < fac (nn : Int)
  · have hn' : 2 ≤ (nn : Int) ∧ (nn : Int) ≤ 7 := by omega
    have g26 := hG 26 (by omega) (by omega)
    have g27 := hG 27 (by omega) (by omega)
    have w0 : tR 0 6 (List.replicate 7 0) := fun x hx => by rw [(List.mem_replicate.mp hx).2]; omega
    have wr := wyd_pm hn hr (List.length_replicate (n := 7) (a := (0 : Int))) w0
    have gr : ∀ j, j < nn → (wy nn r ++ (List.replicate 7 0).drop nn)[j]? = (wy nn r)[j]? := fun j hj => List.getElem?_append_left (by rw [(wy_s hn hr).1]; exact hj)
    obtain ⟨x, hx⟩ := fh_pu hN hn hG (V := hf6 (wy nn r ++ (List.replicate 7 0).drop nn)) hL hp (fun j hj => (hf_get hn.2 wr hj).2)
    by_cases hc : wI i1 = wI (-1)
    · refine ⟨if wI x = wI (xShl 1 (nn : Int) - 1) then 1 else 0, by split <;> omega, fun _ k S hS eL hk => ?_⟩
      unfold f_X6_isSought
      rw [if_pos hc, if_pos (is6 hN g26 hS)]
      refine ok_bd2 (tk_rank hN hn hG hS hr (by omega)) (fun _ S1 hQ => ?_)
      obtain ⟨hS1, K, e1, eK, hK, hw⟩ := hQ
      rw [if_pos (is6 hN g26 hS1)]
      have hst : St6 G N nn L (hf6 (wy nn r ++ (List.replicate 7 0).drop nn)) S1 := ⟨hS1, by rw [e1, List.getElem?_set_ne (by omega)]; exact eL, K, eK, fun j hj => by rw [hw j hj, ← gr j hj]; exact (hf_get hn.2 wr hj).1⟩
      refine ok_bd2 (hx k S1 hst (by omega)) (fun _ S2 hQ => ?_)
      obtain ⟨rfl, ⟨hS2, -⟩, hfr⟩ := hQ
      rw [if_pos (is6 hN g26 hS2)]
      unfold f_X6_all
      rw [if_pos (is6 hN g26 hS2), bd2_some (tf_X6_n (by omega) g26 g27 hS2)]
      have hfr' : fr6 S S2 := fr6_t (fr6_q (fun q a1 _ _ _ => by rw [e1, List.getElem?_set_ne (by omega)])) hfr
      show Ok (if wI _ = wI (xShl 1 (nn : Int) - 1) then some (1, S2) else some (0, S2)) _
      refine ok_if (fun h => ?_) (fun h => ?_)
      · rw [if_pos h]
        exact ok_some ⟨rfl, hS2, hfr'⟩
      · rw [if_neg h]
        exact ok_some ⟨rfl, hS2, hfr'⟩
    · refine ⟨if wI r = wI i1 then 1 else 0, by split <;> omega, fun _ k S hS eL hk => ?_⟩
      unfold f_X6_isSought
      rw [if_neg hc]
      refine ok_if (fun h => ?_) (fun h => ?_)
      · rw [if_pos h]
        exact ok_some ⟨rfl, hS, fr6_r S⟩
      · rw [if_neg h]
        exact ok_some ⟨rfl, hS, fr6_r S⟩
  · exact ⟨0, Or.inl rfl, fun h => absurd h hr⟩
