variable {G : xT} {N : Nat} {n tl : Int} {a b : Bool}
theorem fv_le {M cN cn : Nat} {bh : Nat → Nat → Nat} {qv fv : Nat → Nat} (hP : bfsP M cN bh qv fv cn) (hM : M ≤ 5040) {x : Nat} (hx : x < M) : fv x ≤ 1000000 := by
  rcases hP.2.2.2.2.1 x hx with h | ⟨j, hj, e⟩
  · omega
  · have h1 := (hP.2.2.1 j hj).2
    have h2 := hP.2.1
    rw [e] at h1
    omega
def ldP (bh : Nat → Nat → Nat) (fv gd : Nat → Nat) (x m : Nat) : Prop := fv (bh x m) = fv x + 1 ∧ gd (bh x m) ≠ 0
theorem ld_on {nn : Nat} (hN : 45 ≤ N) (hG : ∀ q, 26 ≤ q → q < 45 → G q = R6 (nn : Int) tl a b q) {L : List Int} {M cN cn : Nat} (hM : M ≤ 5040) {bh : Nat → Nat → Nat} (hB : BH6 G N L M cN bh) {qv fv gd : Nat → Nat} (hP : bfsP M cN bh qv fv cn) (hgd : ∀ y, gd y ≤ 1) {x m : Nat} {zx zm : Int} (hzx : zx = (x : Int)) (hzm : zm = (m : Int)) (hx : x < M) (hm : m < cN) {k : Nat} {S : xS} (hS : FS6 G N L M cn qv fv gd S) (hk : 700 ≤ k) : Ok (f_X6_leadsOn k S 26 zx zm) (fun v S' => FS6 G N L M cn qv fv gd S' ∧ fr6 S S' ∧ ((v = 1 ∧ ldP bh fv gd x m) ∨ (v = 0 ∧ ¬ ldP bh fv gd x m))) := by
  have g26 := hG 26 (by omega) (by omega)
  obtain ⟨k, rfl⟩ : ∃ k', k = k' + 2 := ⟨k - 2, by omega⟩
  show Ok (b_X6_leadsOn_0 (g_X6_leadsOn (k + 1)) (k + 1) S 26 zx zm) _
  unfold b_X6_leadsOn_0
  rw [if_pos (is6 hN g26 hS.1)]
  obtain ⟨hy, hb⟩ := hB x m zx zm hzx hzm hx hm
  refine ok_bd2 (hb (k + 1) S hS.1 hS.2.1 (by omega)) (fun zy S1 hQ => ?_)
  obtain ⟨hzy, hH1, hfr⟩ := hQ
  have hS1 := fs6_fr hS hH1 hfr
  have hS1' := hS1
  obtain ⟨_, eL, ⟨F, eF, hFl, hF⟩, ⟨Qs, eQ, hQl, hQ⟩, ⟨D, eD, hDl, hD⟩, e17⟩ := hS1'
  have no : ¬ ldP bh fv gd x m → Ok (g_X6_leadsOn (k + 1) 1 S1 0 0 0) (fun v S' => FS6 G N L M cn qv fv gd S' ∧ fr6 S S' ∧ ((v = 1 ∧ ldP bh fv gd x m) ∨ (v = 0 ∧ ¬ ldP bh fv gd x m))) := fun h => ok_some ⟨hS1, hfr, Or.inr ⟨rfl, h⟩⟩
  have hly := fv_le hP hM hy
  have hlx := fv_le hP hM hx
  unfold ldP at no ⊢
  obtain ⟨y, hby⟩ : ∃ y, bh x m = y := ⟨_, rfl⟩
  rw [hby] at hy hzy hly no ⊢
  obtain ⟨zfy, hzfy⟩ : ∃ z : Int, z = (fv y : Int) := ⟨_, rfl⟩
  obtain ⟨zfx, hzfx⟩ : ∃ z : Int, z = (fv x : Int) := ⟨_, rfl⟩
  obtain ⟨zg, hzg⟩ : ∃ z : Int, z = (gd y : Int) := ⟨_, rfl⟩
  have hFy := hF y hy
  rw [← hzfy] at hFy
  have hFx := hF x hx
  rw [← hzfx] at hFx
  have hDy := hD y hy
  rw [← hzg] at hDy
  have hg := hgd y
  refine ok_rdFp hH1 (by omega) g26 rfl ?_
  rw [rdA_at eF (by omega) (by omega), show zy.toNat = y by omega, hFy]
  refine ok_bind (v := zfy) rfl ?_
  refine ok_rdFp hH1 (by omega) g26 rfl ?_
  rw [rdA_at eF (by omega) (by omega), show zx.toNat = x by omega, hFx]
  refine ok_bind (v := zfx) rfl ?_
  rw [wIn (n := zfy) (by omega) (by omega), wIn (n := zfx + 1) (by omega) (by omega)]
  refine ok_if (fun hc => ?_) (fun hc => no (fun h => hc (by omega)))
  refine ok_rdFp hH1 (by omega) g26 rfl ?_
  rw [rdA_at eD (by omega) (by omega), show zy.toNat = y by omega, hDy]
  refine ok_bind (v := zg) rfl ?_
  rw [wIn (n := zg) (by omega) (by omega)]
  refine ok_if (fun hc2 => no (fun h => h.2 (by omega))) (fun hc2 => ?_)
  exact ok_some ⟨hS1, hfr, Or.inl ⟨rfl, by omega, by omega⟩⟩
theorem fs6_cg {L : List Int} {M cn : Nat} {qv fv gd gd' : Nat → Nat} {S : xS} (h : FS6 G N L M cn qv fv gd S) (hg : ∀ y, gd y = gd' y) : FS6 G N L M cn qv fv gd' S := by
  obtain ⟨h1, h2, h3, h4, ⟨D, eD, hDl, hD⟩, h6⟩ := h
  exact ⟨h1, h2, h3, h4, ⟨D, eD, hDl, fun x hx => by rw [← hg x]; exact hD x hx⟩, h6⟩
theorem fs6_D {nn : Nat} (hN : 45 ≤ N) (hG : ∀ q, 26 ≤ q → q < 45 → G q = R6 (nn : Int) tl a b q) {L : List Int} {M cn : Nat} (hM : M ≤ 5040) {qv fv gd : Nat → Nat} {S : xS} (h : FS6 G N L M cn qv fv gd S) {x g : Nat} {zx zg : Int} (hzx : zx = (x : Int)) (hzg : zg = (g : Int)) (hx : x < M) (hg : g ≤ 1) {f : xS → Option (Int × xS)} {Q : Int → xS → Prop} (hf : ∀ S', FS6 G N L M cn qv fv (fun y => if y = x then g else gd y) S' → Ok (f S') Q) : Ok ((wrA 2 S 37 zx zg).bind f) Q := by
  obtain ⟨hS, eL, ⟨F, eF, hF⟩, ⟨Qs, eQ, hQ⟩, ⟨D, eD, hDl, hD⟩, e17⟩ := h
  refine ok_wrL hS (by omega) (hG 37 (by omega) (by omega)) eD (by omega) (by omega) (by omega) (fun h => tR_set (by omega) _ h) (fun hS2 => hf _ ?_)
  rw [show zx.toNat = x by omega] at hS2 ⊢
  refine ⟨hS2, by rw [List.getElem?_set_ne (by omega)]; exact eL, ⟨F, by rw [List.getElem?_set_ne (by omega)]; exact eF, hF⟩, ⟨Qs, by rw [List.getElem?_set_ne (by omega)]; exact eQ, hQ⟩, ⟨D.set x zg, set_at eD, by rw [List.length_set]; exact hDl, fun y hy => ?_⟩, (rdFi_cg (List.getElem?_set_ne (by omega))).trans e17⟩
  show (D.set x zg)[y]? = some ((if y = x then g else gd y : Nat) : Int)
  by_cases hyx : y = x
  · rw [if_pos hyx, hyx, List.getElem?_set_self (by omega), hzg]
  · rw [if_neg hyx, List.getElem?_set_ne (by omega)]
    exact hD y hy
theorem ld_up {bh : Nat → Nat → Nat} {fv gd : Nat → Nat} {x m g : Nat} : ldP bh fv (fun y => if y = x then g else gd y) x m ↔ ldP bh fv gd x m := by
  unfold ldP
  constructor
  · intro h
    refine ⟨h.1, ?_⟩
    have h2 : (if bh x m = x then g else gd (bh x m)) ≠ 0 := h.2
    by_cases hb : bh x m = x
    · have := h.1
      rw [hb] at this
      omega
    · rw [if_neg hb] at h2
      exact h2
  · intro h
    refine ⟨h.1, ?_⟩
    show (if bh x m = x then g else gd (bh x m)) ≠ 0
    by_cases hb : bh x m = x
    · have := h.1
      rw [hb] at this
      omega
    · rw [if_neg hb]
      exact h.2
/-- what is told of one way, when all its moves are through -/
def fin6 (bh : Nat → Nat → Nat) (fv gd : Nat → Nat) (cN best s x m g : Nat) : Prop := g ≤ 1 ∧ (fv x = best → s = 1 → g = 1) ∧ (g ≠ 0 → fv x < best → ∃ m', m' < cN ∧ ldP bh fv gd x m') ∧ (fv x < best → ∀ m', m' < m → ldP bh fv gd x m' → g ≠ 0)
theorem ft7 {nn : Nat} (hN : 45 ≤ N) (hG : ∀ q, 26 ≤ q → q < 45 → G q = R6 (nn : Int) tl a b q) {L : List Int} {M cN cn : Nat} (hM : M ≤ 5040) (hcN : cN ≤ 4) (h41 : L[41]? = some (cN : Int)) {bh : Nat → Nat → Nat} (hB : BH6 G N L M cN bh) {qv fv gd : Nat → Nat} (hP : bfsP M cN bh qv fv cn) (hgd : ∀ y, gd y ≤ 1) {x best s : Nat} {zx t w zb zi : Int} (hzx : zx = (x : Int)) (hx : x < M) (hzb : zb = (best : Int)) (hbest : best ≤ 1000000) {Q : Int → xS → Prop} {c0 : Nat} (hc0 : 700 ≤ c0) (hf : ∀ (k : Nat) (S' : xS) (g : Nat), c0 ≤ k → FS6 G N L M cn qv fv (fun y => if y = x then g else gd y) S' → fin6 bh fv gd cN best s x cN g → Ok (g_X6_fewestTo k 10 S' 26 0 t w zb zi 0 0 0 0) Q) : ∀ (d k m : Nat) (zm : Int) (S : xS) (g : Nat), m + d = cN → zm = (m : Int) → FS6 G N L M cn qv fv (fun y => if y = x then g else gd y) S → fin6 bh fv gd cN best s x m g → c0 + 3 * d + 1 ≤ k → Ok (g_X6_fewestTo k 7 S 26 0 t w zb zi zx zm 0 0) Q := by
  have g26 := hG 26 (by omega) (by omega)
  intro d
  induction d with
  | zero =>
    intro k m zm S g hm hz hS hI hk
    obtain ⟨k, rfl⟩ : ∃ k', k = k' + 1 := ⟨k - 1, by omega⟩
    show Ok (b_X6_fewestTo_7 (g_X6_fewestTo k) k S 26 0 t w zb zi zx zm 0 0) _
    unfold b_X6_fewestTo_7
    refine ok_rdFp hS.1 (by omega) g26 rfl ?_
    rw [rdA_at hS.2.1 (by omega) (by omega), show (41 : Int).toNat = 41 from rfl, h41]
    refine ok_bind (v := (cN : Int)) rfl ?_
    refine ok_pos (by rw [wIn (n := zm) (by omega) (by omega), wIn (n := (cN : Int)) (by omega) (by omega)]; omega) ?_
    have hmc : m = cN := by omega
    rw [hmc] at hI
    exact hf k S g (by omega) hS hI
  | succ d ih =>
    intro k m zm S g hm hz hS hI hk
    obtain ⟨k, rfl⟩ : ∃ k', k = k' + 3 := ⟨k - 3, by omega⟩
    have hS' := hS
    obtain ⟨hH, eL, ⟨F, eF, hFl, hF⟩, -, ⟨D, eD, hDl, hD⟩, e17⟩ := hS'
    have hlx := fv_le hP hM hx
    obtain ⟨zN, hzN⟩ : ∃ z : Int, z = (cN : Int) := ⟨_, rfl⟩
    rw [← hzN] at h41
    obtain ⟨zfx, hzfx⟩ : ∃ z : Int, z = (fv x : Int) := ⟨_, rfl⟩
    have hFx := hF x hx
    rw [← hzfx] at hFx
    have hDx : D[x]? = some (g : Int) := by
      have : D[x]? = some ((if x = x then g else gd x : Nat) : Int) := hD x hx
      rw [if_pos rfl] at this
      exact this
    obtain ⟨zg, hzg⟩ : ∃ z : Int, z = (g : Int) := ⟨_, rfl⟩
    rw [← hzg] at hDx
    obtain ⟨hg1, hI1, hI2, hI3⟩ := hI
    show Ok (b_X6_fewestTo_7 (g_X6_fewestTo (k + 2)) (k + 2) S 26 0 t w zb zi zx zm 0 0) _
    unfold b_X6_fewestTo_7
    refine ok_rdFp hH (by omega) g26 rfl ?_
    rw [rdA_at eL (by omega) (by omega), show (41 : Int).toNat = 41 from rfl, h41]
    refine ok_bind (v := zN) rfl ?_
    refine ok_neg (by rw [wIn (n := zm) (by omega) (by omega), wIn (n := zN) (by omega) (by omega)]; omega) ?_
    refine ok_rdFp hH (by omega) g26 rfl ?_
    rw [rdA_at eF (by omega) (by omega), show zx.toNat = x by omega, hFx]
    refine ok_bind (v := zfx) rfl ?_
    rw [wIn (n := zb) (by omega) (by omega), wIn (n := zfx) (by omega) (by omega)]
    refine ok_if (fun hc => hf (k + 2) S g (by omega) hS ⟨hg1, hI1, hI2, fun h => by exfalso; omega⟩) (fun hc => ?_)
    have nine : ∀ (k : Nat) (S1 : xS) (v : Nat) (zv : Int), zv = (v : Int) → v ≤ 1 → c0 + 3 * d + 2 ≤ k → FS6 G N L M cn qv fv (fun y => if y = x then g else gd y) S1 → fin6 bh fv gd cN best s x (m + 1) v → Ok (g_X6_fewestTo k 9 S1 26 37 t w zb zi zx zm zx zv) Q := by
      intro k S1 v zv hzv hv hk hS1 hI'
      obtain ⟨k, rfl⟩ : ∃ k', k = k' + 1 := ⟨k - 1, by omega⟩
      show Ok (b_X6_fewestTo_9 (g_X6_fewestTo k) k S1 26 37 t w zb zi zx zm zx zv) _
      unfold b_X6_fewestTo_9
      refine ok_pos (by omega) ?_
      refine fs6_D hN hG hM hS1 hzx hzv hx hv (fun S2 hS2 => ?_)
      refine ih k (m + 1) (zm + 1) S2 v (by omega) (by omega) (fs6_cg hS2 (fun y => ?_)) hI' (by omega)
      show (if y = x then v else (if y = x then g else gd y)) = (if y = x then v else gd y)
      by_cases hyx : y = x
      · rw [if_pos hyx, if_pos hyx]
      · rw [if_neg hyx, if_neg hyx, if_neg hyx]
    refine ok_rdFp hH (by omega) g26 rfl (ok_rdFp hH (by omega) g26 rfl ?_)
    rw [rdA_at eD (by omega) (by omega), show zx.toNat = x by omega, hDx]
    refine ok_bind (v := zg) rfl ?_
    rw [wIn (n := zg) (by omega) (by omega)]
    refine ok_if (fun hg0 => ?_) (fun hg0 => ?_)
    · rw [if_pos (is6 hN g26 hH)]
      refine ok_bd2 (ld_on hN hG hM hB hP (gd := fun y => if y = x then g else gd y) (fun y => by show (if y = x then g else gd y) ≤ 1; split; exact hg1; exact hgd y) hzx hz hx (show m < cN by omega) hS (by omega)) (fun v S1 hQ => ?_)
      obtain ⟨hS1, -, hv⟩ := hQ
      rw [ld_up] at hv
      rcases hv with ⟨rfl, hv⟩ | ⟨rfl, hv⟩
      · refine ok_neg (by decide) ?_
        exact nine (k + 1) S1 1 1 rfl (by omega) (by omega) hS1 ⟨by omega, fun _ _ => rfl, fun _ _ => ⟨m, by omega, hv⟩, fun _ _ _ _ => by omega⟩
      · refine ok_pos (by decide) ?_
        refine nine (k + 2) S1 0 0 rfl (by omega) (by omega) hS1 ⟨by omega, fun h => by exfalso; omega, fun h => absurd rfl h, fun h m' hm' hl => ?_⟩
        by_cases hmm : m' = m
        · subst hmm
          exact absurd hl hv
        · have := hI3 h m' (by omega) hl
          omega
    · exact nine (k + 1) S 1 1 rfl (by omega) (by omega) hS ⟨by omega, fun _ _ => rfl, fun _ h => hI2 (by omega) h, fun _ _ _ _ => by omega⟩
