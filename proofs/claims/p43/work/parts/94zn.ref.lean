variable {G : xT} {N : Nat} {n tl : Int} {a b : Bool}
theorem ok_wrL {S : xS} {q k len : Nat} {P : List Int → Prop} {L : List Int} {i x : Int} {Q : Int → xS → Prop} {f : xS → Option (Int × xS)} (hS : Hp G N S) (hq : q < N) (hG : G q = tA k len P) (eL : S[q]? = some (.inl (k, L))) (h0 : 0 ≤ i) (h1 : i < len) (h2 : i < 2147483648) (hw : P L → P (L.set i.toNat x)) (hf : Hp G N (S.set q (.inl (k, L.set i.toNat x))) → Ok (f (S.set q (.inl (k, L.set i.toNat x)))) Q) : Ok ((wrA k S q i x).bind f) Q := by
  obtain ⟨c, e, hc⟩ := hp_get hS hq
  rw [hG] at hc
  obtain ⟨L', rfl, hL, hp⟩ := hc
  rw [eL] at e
  cases e
  rw [wrA_of eL h0 h2 (by omega)]
  exact hf (hp_set hS (by rw [hG]; exact ⟨_, rfl, by rw [List.length_set]; exact hL, hw hp⟩))
/-- the ways come to so far: in their order qv, how far each is, fv -/
def bfsP (M cN : Nat) (bh : Nat → Nat → Nat) (qv fv : Nat → Nat) (cn : Nat) : Prop := 1 ≤ cn ∧ cn ≤ M ∧ (∀ j, j < cn → qv j < M ∧ fv (qv j) ≤ j) ∧ (∀ i j, i < cn → j < cn → qv i = qv j → i = j) ∧ (∀ x, x < M → fv x = 1000000 ∨ ∃ j, j < cn ∧ qv j = x) ∧ (∀ j, 0 < j → j < cn → ∃ p m, p < j ∧ m < cN ∧ bh (qv p) m = qv j ∧ fv (qv j) = fv (qv p) + 1)
theorem bfs_add {M cN : Nat} {bh : Nat → Nat → Nat} {qv fv : Nat → Nat} {cn i m y : Nat} (h : bfsP M cN bh qv fv cn) (hM : M ≤ 5040) (hi : i < cn) (hm : m < cN) (hb : bh (qv i) m = y) (hy : y < M) (hF : fv y = 1000000) : cn < M ∧ bfsP M cN bh (fun j => if j = cn then y else qv j) (fun x => if x = y then fv (qv i) + 1 else fv x) (cn + 1) := by
  obtain ⟨h1, h2, h3, h4, h5, h6⟩ := h
  have hne : ∀ j, j < cn → qv j ≠ y := fun j hj e => by
    have := (h3 j hj).2
    rw [e, hF] at this
    omega
  have hcn : cn < M := by
    refine Classical.byContradiction (fun hc => ?_)
    have e : cn = M := by omega
    subst e
    obtain ⟨j, hj, e⟩ := pig cn qv (fun j hj => (h3 j hj).1) h4 y hy
    exact hne j hj e
  refine ⟨hcn, by omega, by omega, fun j hj => ?_, fun i' j hi' hj e => ?_, fun x hx => ?_, fun j j0 hj => ?_⟩
  · show (if j = cn then y else qv j) < M ∧ (if (if j = cn then y else qv j) = y then fv (qv i) + 1 else fv (if j = cn then y else qv j)) ≤ j
    by_cases hjc : j = cn
    · rw [if_pos hjc, if_pos rfl]
      have := (h3 i hi).2
      omega
    · rw [if_neg hjc, if_neg (hne j (by omega))]
      exact h3 j (by omega)
  · have e : (if i' = cn then y else qv i') = (if j = cn then y else qv j) := e
    by_cases c1 : i' = cn
    · by_cases c2 : j = cn
      · omega
      · rw [if_pos c1, if_neg c2] at e
        exact absurd e.symm (hne j (by omega))
    · by_cases c2 : j = cn
      · rw [if_neg c1, if_pos c2] at e
        exact absurd e (hne i' (by omega))
      · rw [if_neg c1, if_neg c2] at e
        exact h4 i' j (by omega) (by omega) e
  · show (if x = y then fv (qv i) + 1 else fv x) = 1000000 ∨ ∃ j, j < cn + 1 ∧ (if j = cn then y else qv j) = x
    by_cases hxy : x = y
    · exact Or.inr ⟨cn, by omega, by rw [if_pos rfl, hxy]⟩
    · rw [if_neg hxy]
      rcases h5 x hx with h | ⟨j, hj, e⟩
      · exact Or.inl h
      · exact Or.inr ⟨j, by omega, by rw [if_neg (by omega)]; exact e⟩
  · show ∃ p m, p < j ∧ m < cN ∧ bh (if p = cn then y else qv p) m = (if j = cn then y else qv j) ∧ (if (if j = cn then y else qv j) = y then fv (qv i) + 1 else fv (if j = cn then y else qv j)) = (if (if p = cn then y else qv p) = y then fv (qv i) + 1 else fv (if p = cn then y else qv p)) + 1
    by_cases hjc : j = cn
    · refine ⟨i, m, by omega, hm, ?_, ?_⟩
      · rw [if_pos hjc, if_neg (show ¬ i = cn by omega)]
        exact hb
      · rw [if_pos hjc, if_pos rfl, if_neg (show ¬ i = cn by omega), if_neg (hne i hi)]
    · obtain ⟨p, m', hp, hm', e1, e2⟩ := h6 j j0 (by omega)
      refine ⟨p, m', hp, hm', ?_, ?_⟩
      · rw [if_neg hjc, if_neg (show ¬ p = cn by omega)]
        exact e1
      · rw [if_neg hjc, if_neg (hne j (by omega)), if_neg (show ¬ p = cn by omega), if_neg (hne p (by omega))]
        exact e2
def FS6 (G : xT) (N : Nat) (L : List Int) (M cn : Nat) (qv fv gd : Nat → Nat) (S : xS) : Prop := Hp G N S ∧ S[27]? = some (.inl (0, L)) ∧ (∃ F, S[35]? = some (.inl (0, F)) ∧ F.length = 5040 ∧ ∀ x, x < M → F[x]? = some (fv x : Int)) ∧ (∃ Qs, S[36]? = some (.inl (0, Qs)) ∧ Qs.length = 5040 ∧ ∀ j, j < cn → Qs[j]? = some (qv j : Int)) ∧ (∃ D, S[37]? = some (.inl (2, D)) ∧ D.length = 5040 ∧ ∀ x, x < M → D[x]? = some (gd x : Int)) ∧ rdFi 5 17 S 26 = some (cn : Int)
theorem fs6_fr {L : List Int} {M cn : Nat} {qv fv gd : Nat → Nat} {S S' : xS} (h : FS6 G N L M cn qv fv gd S) (hS : Hp G N S') (hf : fr6 S S') : FS6 G N L M cn qv fv gd S' := by
  obtain ⟨_, eL, ⟨F, eF, hF⟩, ⟨Qs, eQ, hQ⟩, ⟨D, eD, hD⟩, e17⟩ := h
  have q := fun q h1 h2 h3 h4 h5 => hf.1 q h1 h2 h3 h4 h5
  exact ⟨hS, by rw [q 27 (by omega) (by omega) (by omega) (by omega) (by omega)]; exact eL, ⟨F, by rw [q 35 (by omega) (by omega) (by omega) (by omega) (by omega)]; exact eF, hF⟩, ⟨Qs, by rw [q 36 (by omega) (by omega) (by omega) (by omega) (by omega)]; exact eQ, hQ⟩, ⟨D, by rw [q 37 (by omega) (by omega) (by omega) (by omega) (by omega)]; exact eD, hD⟩, by rw [hf.2 17 (by omega) (by omega)]; exact e17⟩
/-- `behind`, told -/
def BH6 (G : xT) (N : Nat) (L : List Int) (M cN : Nat) (bh : Nat → Nat → Nat) : Prop := ∀ (r m : Nat) (zr zm : Int), zr = (r : Int) → zm = (m : Int) → r < M → m < cN → bh r m < M ∧ ∀ (k : Nat) (S : xS), Hp G N S → S[27]? = some (.inl (0, L)) → 600 ≤ k → Ok (f_X6_behind k S 26 zr zm) (fun y S' => y = (bh r m : Int) ∧ Hp G N S' ∧ fr6 S S')
theorem ff3 {nn : Nat} (hN : 45 ≤ N) (hn : 2 ≤ nn ∧ nn ≤ 7) (hG : ∀ q, 26 ≤ q → q < 45 → G q = R6 (nn : Int) tl a b q) {L : List Int} {M cN : Nat} (hM : M ≤ 5040) (hcN : cN ≤ 4) (h41 : L[41]? = some (cN : Int)) {bh : Nat → Nat → Nat} (hB : BH6 G N L M cN bh) {gd : Nat → Nat} {i : Nat} {zi : Int} (hzi : zi = (i : Int)) {Q : Int → xS → Prop} : ∀ (d k m : Nat) (zm : Int) (S : xS) (cn : Nat) (qv fv : Nat → Nat), m + d = cN → zm = (m : Int) → FS6 G N L M cn qv fv gd S → bfsP M cN bh qv fv cn → i < cn → 600 ≤ k → (∀ S' cn' qv' fv', FS6 G N L M cn' qv' fv' gd S' → bfsP M cN bh qv' fv' cn' → Ok (g_X6_findFar k 2 S' 26 (zi + 1) 0) Q) → Ok (g_X6_findFar (k + 2 * d + 1) 3 S 26 zi zm) Q := by
  have g26 := hG 26 (by omega) (by omega)
  have g35 := hG 35 (by omega) (by omega)
  have g36 := hG 36 (by omega) (by omega)
  intro d
  induction d with
  | zero =>
    intro k m zm S cn qv fv hm hz hS hP hi hk hf
    have hS' := hS
    obtain ⟨hH, eL, -⟩ := hS'
    show Ok (b_X6_findFar_3 (g_X6_findFar k) k S 26 zi zm) _
    unfold b_X6_findFar_3
    refine ok_rdFp hH (by omega) g26 rfl ?_
    rw [rdA_at eL (by omega) (by omega), show (41 : Int).toNat = 41 from rfl, h41]
    refine ok_bind (v := (cN : Int)) rfl ?_
    refine ok_pos (by rw [wIn (n := zm) (by omega) (by omega), wIn (n := (cN : Int)) (by omega) (by omega)]; omega) ?_
    exact hf S cn qv fv hS hP
  | succ d ih =>
    intro k m zm S cn qv fv hm hz hS hP hi hk hf
    have hS' := hS
    obtain ⟨hH, eL, ⟨F, eF, hFl, hF⟩, ⟨Qs, eQ, hQl, hQ⟩, ⟨D, eD, hDl, hD⟩, e17⟩ := hS'
    have hqi := hP.2.2.1 i hi
    have hMi : M ≥ cn := hP.2.1
    obtain ⟨zq, hzq⟩ : ∃ z : Int, z = (qv i : Int) := ⟨_, rfl⟩
    obtain ⟨zf, hzf⟩ : ∃ z : Int, z = (fv (qv i) : Int) := ⟨_, rfl⟩
    obtain ⟨zc, hzc⟩ : ∃ z : Int, z = (cn : Int) := ⟨_, rfl⟩
    obtain ⟨zN, hzN⟩ : ∃ z : Int, z = (cN : Int) := ⟨_, rfl⟩
    have hQi := hQ i hi
    rw [← hzq] at hQi
    rw [← hzN] at h41
    show Ok (b_X6_findFar_3 (g_X6_findFar (k + 2 * d + 2)) (k + 2 * d + 2) S 26 zi zm) _
    unfold b_X6_findFar_3
    refine ok_rdFp hH (by omega) g26 rfl ?_
    rw [rdA_at eL (by omega) (by omega), show (41 : Int).toNat = 41 from rfl, h41]
    refine ok_bind (v := zN) rfl ?_
    refine ok_neg (by rw [wIn (n := zm) (by omega) (by omega), wIn (n := zN) (by omega) (by omega)]; omega) ?_
    refine ok_rdFp hH (by omega) g26 rfl ?_
    rw [rdA_at eQ (by omega) (by omega), show zi.toNat = i by omega, hQi]
    refine ok_bind (v := zq) rfl ?_
    rw [if_pos (is6 hN g26 hH)]
    obtain ⟨hy, hb⟩ := hB (qv i) m zq zm hzq hz hqi.1 (by omega)
    refine ok_bd2 (hb (k + 2 * d + 2) S hH eL (by omega)) (fun zy S1 hQ1 => ?_)
    obtain ⟨hzy, hH1, hfr⟩ := hQ1
    have hS1 := fs6_fr hS hH1 hfr
    have four : ∀ (S' : xS) (cn' : Nat) (qv' fv' : Nat → Nat), FS6 G N L M cn' qv' fv' gd S' → bfsP M cN bh qv' fv' cn' → i < cn' → Ok (g_X6_findFar (k + 2 * d + 2) 4 S' 26 zi zm) Q := by
      intro S' cn' qv' fv' h1 h2 h3
      show Ok (g_X6_findFar (k + 2 * d + 1) 3 S' 26 zi (zm + 1)) _
      exact ih k (m + 1) (zm + 1) S' cn' qv' fv' (by omega) (by omega) h1 h2 h3 hk hf
    clear hQi eL eF hFl hF eQ hQl hQ eD hDl hD e17 F Qs D
    have hS1' := hS1
    obtain ⟨_, eL, ⟨F, eF, hFl, hF⟩, ⟨Qs, eQ, hQl, hQ⟩, ⟨D, eD, hDl, hD⟩, e17⟩ := hS1'
    obtain ⟨y, hby⟩ : ∃ y, bh (qv i) m = y := ⟨_, rfl⟩
    rw [hby] at hy hzy
    obtain ⟨zfy, hzfy⟩ : ∃ z : Int, z = (fv y : Int) := ⟨_, rfl⟩
    have hFy := hF y hy
    rw [← hzfy] at hFy
    have hFq := hF _ hqi.1
    rw [← hzf] at hFq
    rw [← hzc] at e17
    refine ok_rdFp hH1 (by omega) g26 rfl ?_
    rw [rdA_at eF (by omega) (by omega), show zy.toNat = y by omega, hFy]
    refine ok_bind (v := zfy) rfl ?_
    refine ok_if (fun hfar => ?_) (fun _ => four S1 cn qv fv hS1 hP hi)
    have hfar : fv y = 1000000 := by
      rcases hP.2.2.2.2.1 _ hy with h | ⟨j, hj, e⟩
      · exact h
      · exfalso
        have := (hP.2.2.1 j hj).2
        rw [e] at this
        rw [wIn (n := zfy) (by omega) (by omega), wIn (n := 1000000) (by omega) (by omega)] at hfar
        omega
    obtain ⟨hlt, hP'⟩ := bfs_add hP hM hi (show m < cN by omega) hby hy hfar
    refine ok_rdFp hH1 (by omega) g26 rfl (ok_rdFp hH1 (by omega) g26 rfl (ok_rdFp hH1 (by omega) g26 rfl ?_))
    rw [rdA_at eQ (by omega) (by omega), show zi.toNat = i by omega, hQ i hi, ← hzq]
    refine ok_bind (v := zq) rfl ?_
    rw [rdA_at eF (by omega) (by omega), show zq.toNat = qv i by omega, hFq]
    refine ok_bind (v := zf) rfl ?_
    refine ok_wrL hH1 (by omega) g35 eF (by omega) (by omega) (by omega) (fun _ => trivial) (fun hH2 => ?_)
    rw [show zy.toNat = y by omega] at hH2 ⊢
    have q2 : ∀ q, q ≠ 35 → (S1.set 35 (.inl (0, F.set y (zf + 1))))[q]? = S1[q]? := fun q hq => List.getElem?_set_ne (by omega)
    have eF2 : (S1.set 35 (.inl (0, F.set y (zf + 1))))[35]? = some (.inl (0, F.set y (zf + 1))) := set_at eF
    generalize S1.set 35 (.inl (0, F.set y (zf + 1))) = S2 at hH2 q2 eF2
    refine ok_rdFp hH2 (by omega) g26 rfl ?_
    rw [rdFi_cg (q2 26 (by omega)), e17]
    refine ok_bind (v := zc) rfl ?_
    refine ok_wrL hH2 (by omega) g36 ((q2 36 (by omega)).trans eQ) (by omega) (by omega) (by omega) (fun h => tR_set (by omega) _ h) (fun hH3 => ?_)
    rw [show zc.toNat = cn by omega] at hH3 ⊢
    have q3 : ∀ q, q ≠ 36 → (S2.set 36 (.inl (0, Qs.set cn zy)))[q]? = S2[q]? := fun q hq => List.getElem?_set_ne (by omega)
    have eQ3 : (S2.set 36 (.inl (0, Qs.set cn zy)))[36]? = some (.inl (0, Qs.set cn zy)) := set_at ((q2 36 (by omega)).trans eQ)
    generalize S2.set 36 (.inl (0, Qs.set cn zy)) = S3 at hH3 q3 eQ3
    have e173 : rdFi 5 17 S3 26 = some zc := by rw [rdFi_cg (q3 26 (by omega)), rdFi_cg (q2 26 (by omega))]; exact e17
    rw [e173]
    refine ok_bind (v := zc) rfl ?_
    refine ok_wf (P := fZ) hN g26 hH3 (by omega) rfl ⟨_, rfl⟩ (fun S4 hH4 e4 k4 q4 => ?_)
    refine four S4 (cn + 1) _ _ ⟨hH4, ?_, ⟨F.set y (zf + 1), ?_, by rw [List.length_set]; exact hFl, fun x hx => ?_⟩, ⟨Qs.set cn zy, ?_, by rw [List.length_set]; exact hQl, fun j hj => ?_⟩, ⟨D, ?_, hDl, hD⟩, ?_⟩ hP' (by omega)
    · rw [q4 27 (by omega), q3 27 (by omega), q2 27 (by omega)]; exact eL
    · rw [q4 35 (by omega), q3 35 (by omega)]; exact eF2
    · show (F.set y (zf + 1))[x]? = some ((if x = y then fv (qv i) + 1 else fv x : Nat) : Int)
      by_cases hxy : x = y
      · rw [if_pos hxy, hxy, List.getElem?_set_self (by omega)]
        exact congrArg some (by omega)
      · rw [if_neg hxy, List.getElem?_set_ne (by omega)]
        exact hF x hx
    · rw [q4 36 (by omega)]; exact eQ3
    · show (Qs.set cn zy)[j]? = some ((if j = cn then y else qv j : Nat) : Int)
      by_cases hjc : j = cn
      · rw [if_pos hjc, hjc, List.getElem?_set_self (by omega), hzy]
      · rw [if_neg hjc, List.getElem?_set_ne (by omega)]
        exact hQ j (by omega)
    · rw [q4 37 (by omega), q3 37 (by omega), q2 37 (by omega)]; exact eD
    · rw [e4]
      exact congrArg some (by omega)
theorem ff2 {nn : Nat} (hN : 45 ≤ N) (hn : 2 ≤ nn ∧ nn ≤ 7) (hG : ∀ q, 26 ≤ q → q < 45 → G q = R6 (nn : Int) tl a b q) {L : List Int} {M cN : Nat} (hM : M ≤ 5040) (hcN : cN ≤ 4) (h41 : L[41]? = some (cN : Int)) {bh : Nat → Nat → Nat} (hB : BH6 G N L M cN bh) {gd : Nat → Nat} : ∀ (e k i : Nat) (zi : Int) (S : xS) (cn : Nat) (qv fv : Nat → Nat), i + e = M → zi = (i : Int) → FS6 G N L M cn qv fv gd S → bfsP M cN bh qv fv cn → 10 * e + 700 ≤ k → Ok (g_X6_findFar k 2 S 26 zi 0) (fun _ S' => ∃ cn qv fv, FS6 G N L M cn qv fv gd S' ∧ bfsP M cN bh qv fv cn) := by
  intro e
  induction e with
  | zero =>
    intro k i zi S cn qv fv hi hz hS hP hk
    obtain ⟨k, rfl⟩ : ∃ k', k = k' + 1 := ⟨k - 1, by omega⟩
    have h2 := hP.2.1
    show Ok (b_X6_findFar_2 (g_X6_findFar k) k S 26 zi 0) _
    unfold b_X6_findFar_2
    rw [hS.2.2.2.2.2]
    refine ok_bind (v := (cn : Int)) rfl ?_
    refine ok_pos (by rw [wIn (n := zi) (by omega) (by omega), wIn (n := (cn : Int)) (by omega) (by omega)]; omega) ?_
    exact ok_some ⟨cn, qv, fv, hS, hP⟩
  | succ e ih =>
    intro k i zi S cn qv fv hi hz hS hP hk
    obtain ⟨k, rfl⟩ : ∃ k', k = (k' + 2 * cN + 1) + 1 := ⟨k - 2 * cN - 2, by omega⟩
    have h2 := hP.2.1
    show Ok (b_X6_findFar_2 (g_X6_findFar (k + 2 * cN + 1)) (k + 2 * cN + 1) S 26 zi 0) _
    unfold b_X6_findFar_2
    rw [hS.2.2.2.2.2]
    refine ok_bind (v := (cn : Int)) rfl ?_
    rw [wIn (n := zi) (by omega) (by omega), wIn (n := (cn : Int)) (by omega) (by omega)]
    refine ok_if (fun _ => ok_some ⟨cn, qv, fv, hS, hP⟩) (fun hc => ?_)
    refine ff3 hN hn hG hM hcN h41 hB hz cN k 0 0 S cn qv fv (by omega) rfl hS hP (by omega) (by omega) (fun S' cn' qv' fv' a1 a2 => ?_)
    exact ih k (i + 1) (zi + 1) S' cn' qv' fv' (by omega) (by omega) a1 a2 (by omega)
