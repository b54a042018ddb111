variable {G : xT} {N : Nat} {n tl : Int} {a b : Bool}
/-- the reference's places, anew -/
def sR (G R : xT) : xT := fun q => if 26 ≤ q ∧ q < 45 then R q else G q
theorem sR_in {G R : xT} {q : Nat} (h1 : 26 ≤ q) (h2 : q < 45) : sR G R q = R q := if_pos ⟨h1, h2⟩
theorem sR_out {G R : xT} {q : Nat} (h : q < 26 ∨ 45 ≤ q) : sR G R q = G q := if_neg (by omega)
theorem hp_sR {R : xT} {S : xS} (hS : Hp G N S) (hG : ∀ q, 26 ≤ q → q < 45 → ∀ c, G q c → R q c) : Hp (sR G R) N S := hp_weak hS (fun q c h => by
  by_cases hq : 26 ≤ q ∧ q < 45
  · rw [sR_in hq.1 hq.2]
    exact hG q hq.1 hq.2 c h
  · rw [sR_out (by omega)]
    exact h)
theorem R6_30 {n tl : Int} {a b : Bool} : R6 n tl a b 30 = tA 0 3 tW := rfl
theorem R6_31 {n tl : Int} {a b : Bool} : R6 n tl a b 31 = tA 0 7 (tR 0 6) := rfl
theorem R6_32 {n tl : Int} {a b : Bool} : R6 n tl a b 32 = tA 0 7 (tR 0 6) := rfl
theorem R6_33 {n tl : Int} {a b : Bool} : R6 n tl a b 33 = tA 0 7 (tR 0 6) := rfl
theorem R6_34 {n tl : Int} {a b : Bool} : R6 n tl a b 34 = tA 0 7 (tR 0 6) := rfl
theorem R6_35 {n tl : Int} {a b : Bool} : R6 n tl a b 35 = tA 0 5040 tW := rfl
theorem R6_36 {n tl : Int} {a b : Bool} : R6 n tl a b 36 = tA 0 5040 (tR 0 5039) := rfl
theorem R6_37 {n tl : Int} {a b : Bool} : R6 n tl a b 37 = tA 2 5040 (tR 0 1) := rfl
theorem R6_38 {n tl : Int} {a b : Bool} : R6 n tl a b 38 = tA 0 49 tW := rfl
theorem R6_39 {n tl : Int} {a b : Bool} : R6 n tl a b 39 = tA 0 6 tW := rfl
theorem R6_40 {n tl : Int} {a b : Bool} : R6 n tl a b 40 = tA 0 7 tW := rfl
theorem R6_41 {n tl : Int} {a b : Bool} : R6 n tl a b 41 = tA 0 7 (tR 0 6) := rfl
theorem R6_42 {n tl : Int} {a b : Bool} : R6 n tl a b 42 = tA 0 150 (tR 0 127) := rfl
theorem R6_43 {n tl : Int} {a b : Bool} : R6 n tl a b 43 = tA 0 47 r25 := rfl
theorem R6_44 {n tl : Int} {a b : Bool} : R6 n tl a b 44 = tA 0 2 tW := rfl
theorem R6_26 {n tl : Int} {a b : Bool} : R6 n tl a b 26 = o6 tl (fI 0 7) := rfl
theorem R6_27 {n tl : Int} {a b : Bool} : R6 n tl a b 27 = tA 0 57 (nw n) := rfl
theorem R6_28 {n tl : Int} {a b : Bool} : R6 n tl a b 28 = tA 0 114 (kp a b) := rfl
theorem R6_29 {n tl : Int} {a b : Bool} : R6 n tl a b 29 = (fun c => c = .inl (2, [if a = true then 1 else 0, if b = true then 1 else 0])) := rfl
theorem R6_ne {n n' tl tl' : Int} {a b a' b' : Bool} {q : Nat} (h1 : 26 ≤ q) (h2 : q < 45) (h26 : q = 26 → tl = tl') (h27 : q = 27 → n = n') (h28 : q = 28 ∨ q = 29 → a = a' ∧ b = b') : R6 n tl a b q = R6 n' tl' a' b' q := by
  rcases (show q = 26 ∨ q = 27 ∨ q = 28 ∨ q = 29 ∨ (30 ≤ q ∧ q < 45) by omega) with e | e | e | e | h
  · rw [e, R6_26, R6_26, h26 e]
  · rw [e, R6_27, R6_27, h27 e]
  · rw [e, R6_28, R6_28, (h28 (Or.inl e)).1, (h28 (Or.inl e)).2]
  · rw [e, R6_29, R6_29, (h28 (Or.inr e)).1, (h28 (Or.inr e)).2]
  · rcases (show q = 30 ∨ q = 31 ∨ q = 32 ∨ q = 33 ∨ q = 34 ∨ q = 35 ∨ q = 36 ∨ q = 37 ∨ q = 38 ∨ q = 39 ∨ q = 40 ∨ q = 41 ∨ q = 42 ∨ q = 43 ∨ q = 44 by omega) with e | e | e | e | e | e | e | e | e | e | e | e | e | e | e
    · rw [e, R6_30, R6_30]
    · rw [e, R6_31, R6_31]
    · rw [e, R6_32, R6_32]
    · rw [e, R6_33, R6_33]
    · rw [e, R6_34, R6_34]
    · rw [e, R6_35, R6_35]
    · rw [e, R6_36, R6_36]
    · rw [e, R6_37, R6_37]
    · rw [e, R6_38, R6_38]
    · rw [e, R6_39, R6_39]
    · rw [e, R6_40, R6_40]
    · rw [e, R6_41, R6_41]
    · rw [e, R6_42, R6_42]
    · rw [e, R6_43, R6_43]
    · rw [e, R6_44, R6_44]
theorem sR_id (hG : ∀ q, 26 ≤ q → q < 45 → G q = R6 n tl a b q) {S : xS} (hS : Hp G N S) : Hp (sR G (R6 n tl a b)) N S := hp_sR hS (fun q h1 h2 c h => by rw [← hG q h1 h2]; exact h)
theorem sR_27 (hG : ∀ q, 26 ≤ q → q < 45 → G q = R6 n tl a b q) {m : Int} {S : xS} (hS : Hp (up G 27 (tA 0 57 (nw m))) N S) : Hp (sR G (R6 m tl a b)) N S := by
  have := hp_sR (R := R6 m tl a b) hS (fun q h1 h2 c h => by
    by_cases hq : q = 27
    · subst hq
      rw [up_self] at h
      exact h
    · rw [up_ne hq, hG q h1 h2] at h
      rw [← R6_ne (n := n) (tl := tl) (a := a) (b := b) h1 h2 (fun _ => rfl) (fun e => absurd e hq) (fun _ => ⟨rfl, rfl⟩)]
      exact h)
  refine hp_weak this (fun q c h => ?_)
  by_cases hq : 26 ≤ q ∧ q < 45
  · rw [sR_in hq.1 hq.2] at h ⊢
    exact h
  · rw [sR_out (by omega), up_ne (by omega)] at h
    rw [sR_out (by omega)]
    exact h
theorem sR_26 (hG : ∀ q, 26 ≤ q → q < 45 → G q = R6 n tl a b q) {tl' : Int} {S : xS} (hS : Hp (up G 26 (o6 tl' (fI 0 7))) N S) : Hp (sR G (R6 n tl' a b)) N S := by
  have := hp_sR (R := R6 n tl' a b) hS (fun q h1 h2 c h => by
    by_cases hq : q = 26
    · subst hq
      rw [up_self] at h
      exact h
    · rw [up_ne hq, hG q h1 h2] at h
      rw [← R6_ne (n := n) (tl := tl) (a := a) (b := b) h1 h2 (fun e => absurd e hq) (fun _ => rfl) (fun _ => ⟨rfl, rfl⟩)]
      exact h)
  refine hp_weak this (fun q c h => ?_)
  by_cases hq : 26 ≤ q ∧ q < 45
  · rw [sR_in hq.1 hq.2] at h ⊢
    exact h
  · rw [sR_out (by omega), up_ne (by omega)] at h
    rw [sR_out (by omega)]
    exact h
/-- the copies of image and from -/
theorem im1 (hN : 45 ≤ N) {mo : xV → Prop} (g26 : G 26 = o6 tl mo) (g28 : G 28 = tA 0 114 tW) {L : List Int} (hL : L.length = 57) {h : Nat} {zh : Int} (hzh : zh = (h : Int)) (hh : h ≤ 1) {Q : Int → xS → Prop} : ∀ (d k j : Nat) (zj : Int) (S : xS) (X : List Int), j + d = 57 → zj = (j : Int) → Hp G N S → S[27]? = some (.inl (0, L)) → S[28]? = some (.inl (0, X)) → X.length = 114 → (∀ i, i < j → X[57 * h + i]? = L[i]?) → 1 ≤ k → (∀ k X', 1 ≤ k → Hp G N (S.set 28 (.inl (0, X'))) → X'.length = 114 → (∀ i, i < 57 → X'[57 * h + i]? = L[i]?) → (∀ i, i < 57 * h ∨ 57 * h + 57 ≤ i → X'[i]? = X[i]?) → Ok (g_X6_image k 1 (S.set 28 (.inl (0, X'))) 26 zh 57) Q) → Ok (g_X6_image (k + d) 1 S 26 zh zj) Q := by
  intro d
  induction d with
  | zero =>
    intro k j zj S X hj hz hS eL eX hXl hI hk hf
    rw [show zj = 57 by omega]
    have := hf k X hk (by rw [← set_self6 eX]; exact hS) hXl (fun i hi => hI i (by omega)) (fun i _ => rfl)
    rw [← set_self6 eX] at this
    exact this
  | succ d ih =>
    intro k j zj S X hj hz hS eL eX hXl hI hk hf
    obtain ⟨v, hv⟩ : ∃ v, L[j]? = some v := ⟨_, List.getElem?_eq_getElem (by omega)⟩
    show Ok (b_X6_image_1 (g_X6_image (k + d)) (k + d) S 26 zh zj) _
    unfold b_X6_image_1
    refine ok_neg (by rw [wIn (n := zj) (by omega) (by omega), wIn (n := 57) (by omega) (by omega)]; omega) ?_
    refine ok_rdFp hS (by omega) g26 rfl (ok_rdFp hS (by omega) g26 rfl ?_)
    rw [rdA_at eL (by omega) (by omega), show zj.toNat = j by omega, hv]
    refine ok_bind (v := v) rfl ?_
    refine ok_wrL hS (by omega) g28 eX (by omega) (by omega) (by omega) (fun _ => trivial) (fun hS1 => ?_)
    rw [show ((57 * zh) + zj).toNat = 57 * h + j by omega] at hS1 ⊢
    refine ih k (j + 1) (zj + 1) _ (X.set (57 * h + j) v) (by omega) (by omega) hS1 (by rw [List.getElem?_set_ne (by omega)]; exact eL) (set_at eX) (by rw [List.length_set]; exact hXl) (fun i hi => ?_) hk (fun k' X' hk' hS2 h1 h2 h3 => ?_)
    · by_cases hij : i = j
      · rw [hij, List.getElem?_set_self (by omega), hv]
      · rw [List.getElem?_set_ne (by omega)]
        exact hI i (by omega)
    · rw [List.set_set] at hS2 ⊢
      exact hf k' X' hk' hS2 h1 h2 (fun i hi => (h3 i hi).trans (List.getElem?_set_ne (by omega)))
theorem take_eq {X L : List Int} {d : Nat} (hL : L.length = d) (h : ∀ i, i < d → X[i]? = L[i]?) : X.take d = L := by
  apply List.ext_getElem?
  intro i
  rw [List.getElem?_take]
  by_cases hi : i < d
  · rw [if_pos hi]
    exact h i hi
  · rw [if_neg hi]
    exact (List.getElem?_eq_none (by omega)).symm
theorem drop_eq {X L : List Int} {d : Nat} (hX : X.length = d + L.length) (h : ∀ i, i < L.length → X[d + i]? = L[i]?) : X.drop d = L := by
  apply List.ext_getElem?
  intro i
  rw [List.getElem?_drop]
  by_cases hi : i < L.length
  · exact h i hi
  · rw [List.getElem?_eq_none (by omega), List.getElem?_eq_none (by omega)]
/-- the flags after an image of half i -/
def fl6 (i : Int) (a b : Bool) : Bool × Bool := if i = 0 then (true, b) else (a, true)
theorem tf_X6_image (hN : 45 ≤ N) (hn : 2 ≤ n ∧ n ≤ 7) (hG : ∀ q, 26 ≤ q → q < 45 → G q = R6 n tl a b q) {k : Nat} {S : xS} {i0 : Int} (hS : Hp G N S) (h0 : -2147483648 ≤ i0 ∧ i0 < 2147483648) (hk : 100 ≤ k) : Ok (f_X6_image k S 26 i0) (fun r S' => (¬ (0 ≤ i0 ∧ i0 ≤ 1) ∧ r = -2 ∧ Hp G N S') ∨ ((0 ≤ i0 ∧ i0 ≤ 1) ∧ r = 1 ∧ Hp (sR G (R6 n tl (fl6 i0 a b).1 (fl6 i0 a b).2)) N S')) := by
  have g26 : G 26 = o6 tl (fI 0 7) := hG 26 (by omega) (by omega)
  have g27 := hG 27 (by omega) (by omega)
  obtain ⟨k, rfl⟩ : ∃ k', k = (k' + 57) + 1 := ⟨k - 58, by omega⟩
  show Ok (b_X6_image_0 (g_X6_image (k + 57)) (k + 57) S 26 i0 0) _
  unfold b_X6_image_0
  refine ok_in h0 (by omega) (by omega) (by omega) (fun hc => ?_) (fun hc => ?_)
  · refine ok_pos (by decide) ?_
    rw [if_pos (is6 hN g26 hS)]
    refine ok_bd2 (tf_X6_bad hN hn hG hS trivial) (fun _ _ hQ => ?_)
    exact ok_some (Or.inl ⟨by omega, hQ.2, hQ.1⟩)
  · refine ok_neg (by decide) ?_
    obtain ⟨c, eL, hc'⟩ := hp_get hS (show 27 < N by omega)
    rw [g27] at hc'
    obtain ⟨L, rfl, hL, hp⟩ := hc'
    obtain ⟨c, eX, hc'⟩ := hp_get hS (show 28 < N by omega)
    rw [hG 28 (by omega) (by omega)] at hc'
    obtain ⟨X, rfl, hXl, hX⟩ := hc'
    obtain ⟨c, eI, hc'⟩ := hp_get hS (show 29 < N by omega)
    rw [hG 29 (by omega) (by omega)] at hc'
    have hS' : Hp (up G 28 (tA 0 114 tW)) N S := by
      rw [set_self6 eX]
      exact hp_up hS ⟨_, rfl, hXl, trivial⟩
    refine im1 hN (G := up G 28 (tA 0 114 tW)) (mo := fI 0 7) (tl := tl) ((up_ne (by omega)).trans g26) up_self hL (h := i0.toNat) (zh := i0) (by omega) (by omega) 57 k 0 0 S X (by omega) rfl hS' eL eX hXl (fun i hi => by exfalso; omega) (by omega) (fun k' X' hk' hS2 h1 h2 h3 => ?_)
    obtain ⟨k', rfl⟩ : ∃ k'', k' = k'' + 1 := ⟨k' - 1, by omega⟩
    show Ok (b_X6_image_1 (g_X6_image k') k' (S.set 28 (.inl (0, X'))) 26 i0 57) _
    unfold b_X6_image_1
    refine ok_pos (by decide) ?_
    refine ok_rdFp (G := up G 28 (tA 0 114 tW)) hS2 (by omega) ((up_ne (by omega)).trans g26) rfl ?_
    have hc'' : c = .inl (2, [if a = true then 1 else 0, if b = true then 1 else 0]) := hc'
    rw [hc''] at eI
    have eI2 : (S.set 28 (.inl (0, X')))[29]? = some (.inl (2, [if a = true then 1 else 0, if b = true then 1 else 0])) := (List.getElem?_set_ne (by omega)).trans eI
    rw [wrA_of eI2 (by omega) (by omega) (by show i0.toNat < 2; omega)]
    refine ok_bind rfl (ok_some (Or.inr ⟨hc, rfl, ?_⟩))
    have hk28 : kp (fl6 i0 a b).1 (fl6 i0 a b).2 X' := by
      rcases (show i0 = 0 ∨ i0 = 1 by omega) with rfl | rfl
      · have e1 : X'.take 57 = L := take_eq hL (fun i hi => by
          have := h2 i hi
          rw [show 57 * (0 : Int).toNat + i = i by rw [show (0 : Int).toNat = 0 from rfl]; omega] at this
          exact this)
        have e2 : X'.drop 57 = X.drop 57 := drop_eq (by rw [List.length_drop]; omega) (fun i hi => by
          rw [h3 (57 + i) (by rw [show (0 : Int).toNat = 0 from rfl]; omega), List.getElem?_drop])
        refine ⟨fun _ => ⟨n, hn, by rw [e1]; exact hp⟩, fun hb => ?_⟩
        rw [e2]
        exact hX.2 hb
      · have e1 : X'.take 57 = X.take 57 := take_eq (by rw [List.length_take]; omega) (fun i hi => by
          rw [h3 i (by rw [show (1 : Int).toNat = 1 from rfl]; omega), List.getElem?_take, if_pos hi])
        have e2 : X'.drop 57 = L := drop_eq (by omega) (fun i hi => by
          have := h2 i (by omega)
          rw [show 57 * (1 : Int).toNat + i = 57 + i by rw [show (1 : Int).toNat = 1 from rfl]] at this
          exact this)
        refine ⟨fun ha => ?_, fun _ => ⟨n, hn, by rw [e2]; exact hp⟩⟩
        rw [e1]
        exact hX.1 ha
    have hfl : [if a = true then 1 else 0, if b = true then 1 else 0].set i0.toNat (1 : Int) = [if (fl6 i0 a b).1 = true then 1 else 0, if (fl6 i0 a b).2 = true then 1 else 0] := by
      rcases (show i0 = 0 ∨ i0 = 1 by omega) with rfl | rfl <;> rfl
    have hall := hp_up (q := 29) (P := fun c => c = .inl (2, [if (fl6 i0 a b).1 = true then 1 else 0, if (fl6 i0 a b).2 = true then 1 else 0])) (hp_up (q := 28) (P := tA 0 114 (kp (fl6 i0 a b).1 (fl6 i0 a b).2)) hS ⟨_, rfl, h1, hk28⟩) rfl
    rw [hfl]
    refine hp_weak hall (fun q c h => ?_)
    by_cases hq : 26 ≤ q ∧ q < 45
    · rw [sR_in hq.1 hq.2]
      by_cases h29 : q = 29
      · subst h29
        rw [up_self] at h
        exact h
      · rw [up_ne h29] at h
        by_cases h28 : q = 28
        · subst h28
          rw [up_self] at h
          exact h
        · rw [up_ne h28, hG q hq.1 hq.2] at h
          rw [← R6_ne (n := n) (tl := tl) (a := a) (b := b) hq.1 hq.2 (fun _ => rfl) (fun _ => rfl) (fun e => by exfalso; omega)]
          exact h
    · rw [up_ne (by omega), up_ne (by omega)] at h
      rw [sR_out (by omega)]
      exact h
