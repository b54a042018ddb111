variable {n nd tl : Int} {rp : Option Nat} {im : List (Option Nat)} {E : xT} {N : Nat}
/-! the class' state -/
theorem T5_lt {E' : xT} {q : Nat} (h : q < 26) : T5 n nd tl rp im E q = T5 n nd tl rp im E' q := by
  match q, h with
  | 0, _ => rfl
  | 1, _ => rfl
  | 2, _ => rfl
  | 3, _ => rfl
  | 4, _ => rfl
  | 5, _ => rfl
  | 6, _ => rfl
  | 7, _ => rfl
  | 8, _ => rfl
  | 9, _ => rfl
  | 10, _ => rfl
  | 11, _ => rfl
  | 12, _ => rfl
  | 13, _ => rfl
  | 14, _ => rfl
  | 15, _ => rfl
  | 16, _ => rfl
  | 17, _ => rfl
  | 18, _ => rfl
  | 19, _ => rfl
  | 20, _ => rfl
  | 21, _ => rfl
  | 22, _ => rfl
  | 23, _ => rfl
  | 24, _ => rfl
  | 25, _ => rfl
  | q + 26, h => exact absurd h (by omega)
theorem T5_ge {q : Nat} (h : 26 ≤ q) : T5 n nd tl rp im E q = E q := by
  obtain ⟨z, rfl⟩ : ∃ z, q = z + 26 := ⟨q - 26, by omega⟩
  rfl
theorem T5_of {G : xT} (h : ∀ q, q < 26 → G q = T5 n nd tl rp im E q) : G = T5 n nd tl rp im G := by
  funext q
  by_cases hq : q < 26
  · rw [h q hq]
    exact T5_lt hq
  · exact (T5_ge (by omega)).symm
theorem T5_up {h : Nat} (hh : 26 ≤ h) (P : xC → Prop) : up (T5 n nd tl rp im E) h P = T5 n nd tl rp im (up E h P) := by
  funext q
  by_cases hq : q < 26
  · rw [up_ne (by omega)]
    exact T5_lt hq
  · rw [T5_ge (E := up E h P) (by omega)]
    unfold up
    by_cases hqh : q = h
    · rw [if_pos hqh, if_pos hqh]
    · rw [if_neg hqh, if_neg hqh]
      exact T5_ge (by omega)
theorem T5_im {im' : List (Option Nat)} : up (T5 n nd tl rp im E) 19 (tQ im') = T5 n nd tl rp im' E := by
  funext q
  by_cases h19 : q = 19
  · subst h19
    rfl
  · rw [up_ne h19]
    exact match q, h19 with
    | 0, _ => rfl
    | 1, _ => rfl
    | 2, _ => rfl
    | 3, _ => rfl
    | 4, _ => rfl
    | 5, _ => rfl
    | 6, _ => rfl
    | 7, _ => rfl
    | 8, _ => rfl
    | 9, _ => rfl
    | 10, _ => rfl
    | 11, _ => rfl
    | 12, _ => rfl
    | 13, _ => rfl
    | 14, _ => rfl
    | 15, _ => rfl
    | 16, _ => rfl
    | 17, _ => rfl
    | 18, _ => rfl
    | 19, h => absurd rfl h
    | 20, _ => rfl
    | 21, _ => rfl
    | 22, _ => rfl
    | 23, _ => rfl
    | 24, _ => rfl
    | 25, _ => rfl
    | _ + 26, _ => rfl
def tP4 (l : List (Option Nat)) (c : xC) : Prop := c = .inr (.inl (4, l))
def rcT (g : Nat) (sm : Nat → List Int → Prop) : xT
  | 0 => tO 0 [fP (g + 1), fI 0 5040, fP (g + 2), fP (g + 3), fP (g + 4), fP (g + 5), fZ, fZ, fP (g + 10)]
  | 1 => tA 0 5040 (tR 0 5039)
  | 2 => tA 0 5040 (tR (-2) 20159)
  | 3 => tA 0 7 (tR 0 6)
  | 4 => tA 0 7 (tR 0 6)
  | 5 => tP4 [some (g + 6), some (g + 7), some (g + 8), some (g + 9)]
  | 6 => tA 0 7 (sm 0)
  | 7 => tA 0 7 (sm 1)
  | 8 => tA 0 7 (sm 2)
  | 9 => tA 0 7 (sm 3)
  | 10 => tA 0 4 tW
  | _ => fun _ => True
def rcA (E : xT) (g : Nat) : Prop := ∀ j, j < 11 → E (g + j) = rcT g (fun _ => tR 0 6) j
theorem rcA_eq {E E' : xT} {g : Nat} (h : ∀ q, g ≤ q → q < g + 11 → E' q = E q) (hr : rcA E g) : rcA E' g := fun j hj => by
  rw [h (g + j) (by omega) (by omega)]
  exact hr j hj
theorem rmA_eq {E E' : xT} {g : Nat} {m : Int} (h : ∀ q, g ≤ q → q < g + 9 → E' q = E q) (hr : rmA E g m) : rmA E' g m := by
  obtain ⟨h0, h1, h2, h3, h4, h5, h6, h7, h8⟩ := hr
  refine ⟨?_, ?_, ?_, ?_, ?_, ?_, ?_, ?_, ?_⟩
  · rw [h _ (by omega) (by omega)]; exact h0
  · rw [h _ (by omega) (by omega)]; exact h1
  · rw [h _ (by omega) (by omega)]; exact h2
  · rw [h _ (by omega) (by omega)]; exact h3
  · rw [h _ (by omega) (by omega)]; exact h4
  · rw [h _ (by omega) (by omega)]; exact h5
  · rw [h _ (by omega) (by omega)]; exact h6
  · rw [h _ (by omega) (by omega)]; exact h7
  · rw [h _ (by omega) (by omega)]; exact h8
/-- images' rooms and the reach behind place 44, apart -/
def DY (a b rp : Option Nat) (N : Nat) (E : xT) : Prop := (∀ h, a = some h ∨ b = some h → 45 ≤ h ∧ h + 9 ≤ N ∧ ∃ m, (2 ≤ m ∧ m ≤ 7) ∧ rmA E h m) ∧ (∀ h h', a = some h → b = some h' → h + 9 ≤ h' ∨ h' + 9 ≤ h) ∧ (∀ g, rp = some g → 45 ≤ g ∧ g + 11 ≤ N ∧ rcA E g ∧ ∀ h, a = some h ∨ b = some h → h + 9 ≤ g ∨ g + 11 ≤ h)
def J5 (R : xT) (tl : Int) (a b : Option Nat) (S : xS) : Prop := ∃ (n nd : Int) (rp : Option Nat) (E : xT) (N : Nat), (2 ≤ n ∧ n ≤ 7) ∧ (2 ≤ nd ∧ nd ≤ 7) ∧ 45 ≤ N ∧ Hp (T5 n nd tl rp [a, b] E) N S ∧ DY a b rp N E ∧ (∀ q, 26 ≤ q → q < 45 → E q = R q)
theorem DY_eq {a b rp : Option Nat} {N N' : Nat} {E E' : xT} (hd : DY a b rp N E) (hN : N ≤ N') (h : ∀ q, 45 ≤ q → q < N → E' q = E q) : DY a b rp N' E' := by
  obtain ⟨h1, h2, h3⟩ := hd
  refine ⟨fun x hx => ?_, h2, fun g hg => ?_⟩
  · obtain ⟨y1, y2, m, hm, y3⟩ := h1 x hx
    exact ⟨y1, by omega, m, hm, rmA_eq (fun q _ _ => h q (by omega) (by omega)) y3⟩
  · obtain ⟨y1, y2, y3, y4⟩ := h3 g hg
    exact ⟨y1, by omega, rcA_eq (fun q _ _ => h q (by omega) (by omega)) y3, y4⟩
theorem rdP_at {k q : Nat} {S : xS} {l : List (Option Nat)} {i : Int} (h : S[q]? = some (.inr (.inl (k, l)))) (h0 : 0 ≤ i) (h1 : i < 2147483648) : rdP k S q i = l[i.toNat]? := by
  unfold rdP
  simp only [lGet_e]
  rw [h]
  exact if_pos ⟨rfl, h0, h1⟩
/-- room 1 copied to an image's room -/
theorem img_copy {a b : Option Nat} {h : Nat} {m : Int} (hN : 45 ≤ N) (hn : 2 ≤ n ∧ n ≤ 7) (hh : 45 ≤ h ∧ h + 9 ≤ N) (hr : rmA E h m) {k : Nat} {S : xS} (hS : Hp (T5 n nd tl rp [a, b] E) N S) : Ok (f_X1_copyOf k S h 1) (fun _ S' => ∃ E', Hp (T5 n nd tl rp [a, b] E') N S' ∧ rmA E' h n ∧ (∀ q, q < h ∨ h + 9 ≤ q → E' q = E q)) := by
  obtain ⟨h0, h1, h2, h3, h4, h5, h6, h7, h8⟩ := hr
  have ge : ∀ {q : Nat} {T : xC → Prop}, 26 ≤ q → E q = T → T5 n nd tl rp [a, b] E q = T := fun hq e => (T5_ge hq).trans e
  refine ok_mono (tf_X1_copyOf (G := T5 n nd tl rp [a, b] E) (N := N) (p := h) (q3 := h + 1) (q4 := h + 2) (q5 := h + 3) (q7 := h + 4) (q8 := h + 5) (q10 := h + 6) (q12 := h + 7) (q13 := h + 8) (p' := 1) (s3 := 2) (s4 := 3) (s5 := 4) (s7 := 5) (s8 := 6) (s10 := 7) (s12 := 8) (s13 := 9) (fun q hq => by simp at hq; omega) (ge (by omega) h0) rfl (ge (by omega) h1) (ge (by omega) h2) (ge (by omega) h3) (ge (by omega) h4) (ge (by omega) h5) (ge (by omega) h6) (ge (by omega) h7) rfl rfl rfl rfl rfl rfl rfl (fun q hq => by simp at hq; omega) (fun q hq => by simp at hq; omega) hS) (fun r S' hQ => ?_)
  obtain ⟨hS, -⟩ := hQ
  rw [T5_up (by omega), T5_up (by omega)] at hS
  refine ⟨_, hS, ⟨?_, up_self, ?_, ?_, ?_, ?_, ?_, ?_, ?_⟩, fun q hq => ?_⟩
  · rw [up_ne (by omega), up_self]
  · rw [up_ne (by omega), up_ne (by omega)]; exact h2
  · rw [up_ne (by omega), up_ne (by omega)]; exact h3
  · rw [up_ne (by omega), up_ne (by omega)]; exact h4
  · rw [up_ne (by omega), up_ne (by omega)]; exact h5
  · rw [up_ne (by omega), up_ne (by omega)]; exact h6
  · rw [up_ne (by omega), up_ne (by omega)]; exact h7
  · rw [up_ne (by omega), up_ne (by omega)]; exact h8
  · rw [up_ne (by omega), up_ne (by omega)]
/-- an image's room copied to room 1 -/
theorem img_from {a b : Option Nat} {h : Nat} {m : Int} (hN : 45 ≤ N) (hm : 2 ≤ m ∧ m ≤ 7) (hh : 45 ≤ h ∧ h + 9 ≤ N) (hr : rmA E h m) {k : Nat} {S : xS} (hS : Hp (T5 n nd tl rp [a, b] E) N S) : Ok (f_X1_copyOf k S 1 h) (fun _ S' => Hp (T5 m nd tl rp [a, b] E) N S') := by
  obtain ⟨h0, h1, h2, h3, h4, h5, h6, h7, h8⟩ := hr
  have ge : ∀ {q : Nat} {T : xC → Prop}, 26 ≤ q → E q = T → T5 n nd tl rp [a, b] E q = T := fun hq e => (T5_ge hq).trans e
  refine ok_mono (tf_X1_copyOf (G := T5 n nd tl rp [a, b] E) (N := N) (p := 1) (q3 := 2) (q4 := 3) (q5 := 4) (q7 := 5) (q8 := 6) (q10 := 7) (q12 := 8) (q13 := 9) (p' := h) (s3 := h + 1) (s4 := h + 2) (s5 := h + 3) (s7 := h + 4) (s8 := h + 5) (s10 := h + 6) (s12 := h + 7) (s13 := h + 8) (fun q hq => by simp at hq; omega) rfl (ge (by omega) h0) rfl rfl rfl rfl rfl rfl rfl (ge (by omega) h1) (ge (by omega) h2) (ge (by omega) h3) (ge (by omega) h4) (ge (by omega) h5) (ge (by omega) h6) (ge (by omega) h7) (fun q hq => by simp at hq; omega) (fun q hq => by simp at hq; omega) hS) (fun r S' hQ => ?_)
  obtain ⟨hS, -⟩ := hQ
  rw [T5_room] at hS
  exact hS
theorem tf_X5_from {R : xT} {a b : Option Nat} {k : Nat} {S : xS} {i0 : Int} (hJ : J5 R tl a b S) (hi : -2147483648 ≤ i0 ∧ i0 < 2147483648) (hk : 5 ≤ (k : Int)) : Ok (f_X5_from k S 0 i0) (fun r S' => r = (if i0 = 0 then (if a.isSome = true then 1 else -3) else if i0 = 1 then (if b.isSome = true then 1 else -3) else -2) ∧ J5 R tl a b S') := by
  obtain ⟨n, nd, rp, E, N, hn, hd, hN, hS, hD, hR⟩ := hJ
  obtain ⟨k, rfl⟩ : ∃ k', k = k' + 2 := ⟨k - 2, by omega⟩
  have bad : ¬ (i0 = 0 ∨ i0 = 1) → Ok (g_X5_from (k + 1) 1 S 0 0) (fun r S' => r = (if i0 = 0 then (if a.isSome = true then 1 else -3) else if i0 = 1 then (if b.isSome = true then 1 else -3) else -2) ∧ J5 R tl a b S') := by
    intro h
    show Ok (b_X5_from_1 (g_X5_from k) k S 0 0) _
    unfold b_X5_from_1 f_X5_refuseBad
    refine ok_is hS (by omega) rfl ?_
    refine ok_bd2 (P := fun r S' => r = -2 ∧ Hp (T5 n nd tl rp [a, b] E) N S') (ok_rdFz hS (by omega) rfl rfl (fun _ => ok_wrF hS (by omega) rfl rfl (⟨_, rfl⟩ : fZ _) (fun _ hS => ok_some ⟨rfl, hS⟩))) (fun r S' hQ => ?_)
    exact ok_some ⟨by rw [if_neg (by omega), if_neg (by omega)]; exact hQ.1, n, nd, rp, E, N, hn, hd, hN, hQ.2, hD, hR⟩
  have go : ∀ (i : Nat) (x : Option Nat), i0 = (i : Int) → i < 2 → ([a, b] : List (Option Nat))[i]? = some x → (x = a ∨ x = b) → (if i0 = 0 then (if a.isSome = true then (1 : Int) else -3) else if i0 = 1 then (if b.isSome = true then 1 else -3) else -2) = (if x.isSome = true then 1 else -3) → Ok ((rdFp 4 2 S 0).bind fun q4 => onP (rdP 3 S q4 i0) (if isO 4 S 0 = true then bd2 (f_X5_refuseNo (k + 1) S 0) fun x9 S7 => some (x9, S7) else none) fun q5 => (rdFp 4 0 S 0).bind fun q12 => if isO 1 S q12 = true then bd2 (f_X1_copyOf (k + 1) S q12 q5) fun z15 S13 => some (1, S13) else none) (fun r S' => r = (if i0 = 0 then (if a.isSome = true then 1 else -3) else if i0 = 1 then (if b.isSome = true then 1 else -3) else -2) ∧ J5 R tl a b S') := by
    intro i x hi2 hi3 hx hxx he
    rw [he]
    refine ok_rdFp hS (by omega) rfl rfl ?_
    obtain ⟨c, ec, hc⟩ := hp_get hS (show 19 < N by omega)
    have hc : c = .inr (.inl (3, [a, b])) := hc
    subst hc
    have er : rdP 3 S 19 i0 = some x := by
      rw [rdP_at ec (by omega) (by omega), show i0.toNat = i by omega]
      exact hx
    cases x with
    | none =>
      rw [er]
      show Ok (if isO 4 S 0 = true then bd2 (f_X5_refuseNo (k + 1) S 0) fun x9 S7 => some (x9, S7) else none) _
      unfold f_X5_refuseNo
      refine ok_is hS (by omega) rfl ?_
      refine ok_bd2 (P := fun r S' => r = -3 ∧ Hp (T5 n nd tl rp [a, b] E) N S') (ok_rdFz hS (by omega) rfl rfl (fun _ => ok_wrF hS (by omega) rfl rfl (⟨_, rfl⟩ : fZ _) (fun _ hS => ok_some ⟨rfl, hS⟩))) (fun r S' hQ => ?_)
      exact ok_some ⟨hQ.1, n, nd, rp, E, N, hn, hd, hN, hQ.2, hD, hR⟩
    | some h =>
      refine ok_onP er ?_
      obtain ⟨h1, h2, m, hm, h3⟩ := hD.1 h (hxx.elim (fun e => Or.inl e.symm) (fun e => Or.inr e.symm))
      refine ok_rdFp hS (by omega) rfl rfl ?_
      refine ok_is hS (by omega) rfl ?_
      refine ok_bd2 (img_from hN hm ⟨h1, h2⟩ h3 hS) (fun _ _ hS => ?_)
      exact ok_some ⟨rfl, m, nd, rp, E, N, hm, hd, hN, hS, hD, hR⟩
  show Ok (b_X5_from_0 (g_X5_from (k + 1)) (k + 1) S 0 i0) _
  unfold b_X5_from_0
  refine ok_if (fun hc => bad (by simp (disch := omega) only [wIn] at hc; omega)) (fun hc => ?_)
  refine ok_if (fun hc2 => ?_) (fun hc2 => bad (by simp (disch := omega) only [wIn] at hc2; omega))
  simp (disch := omega) only [wIn] at hc hc2
  by_cases h0 : i0 = 0
  · exact go 0 a (by omega) (by omega) rfl (Or.inl rfl) (by rw [if_pos h0])
  · exact go 1 b (by omega) (by omega) rfl (Or.inr rfl) (by rw [if_neg h0, if_pos (by omega)])
theorem tf_X5_image {R : xT} {a b : Option Nat} {k : Nat} {S : xS} {i0 : Int} (hJ : J5 R tl a b S) (hi : -2147483648 ≤ i0 ∧ i0 < 2147483648) (hk : 30 ≤ (k : Int)) : Ok (f_X5_image k S 0 i0) (fun r S' => if i0 = 0 then (r = 1 ∧ ∃ h, J5 R tl (some h) b S') else if i0 = 1 then (r = 1 ∧ ∃ h, J5 R tl a (some h) S') else (r = -2 ∧ J5 R tl a b S')) := by
  obtain ⟨n, nd, rp, E, N, hn, hd, hN, hS, hD, hR⟩ := hJ
  obtain ⟨k, rfl⟩ : ∃ k', k = k' + 2 := ⟨k - 2, by omega⟩
  have bad : ¬ (i0 = 0 ∨ i0 = 1) → Ok (g_X5_image (k + 1) 1 S 0 0 0) (fun r S' => if i0 = 0 then (r = 1 ∧ ∃ h, J5 R tl (some h) b S') else if i0 = 1 then (r = 1 ∧ ∃ h, J5 R tl a (some h) S') else (r = -2 ∧ J5 R tl a b S')) := by
    intro h
    show Ok (b_X5_image_1 (g_X5_image k) k S 0 0 0) _
    unfold b_X5_image_1 f_X5_refuseBad
    refine ok_is hS (by omega) rfl ?_
    refine ok_bd2 (P := fun r S' => r = -2 ∧ Hp (T5 n nd tl rp [a, b] E) N S') (ok_rdFz hS (by omega) rfl rfl (fun _ => ok_wrF hS (by omega) rfl rfl (⟨_, rfl⟩ : fZ _) (fun _ hS => ok_some ⟨rfl, hS⟩))) (fun r S' hQ => ?_)
    refine ok_some ?_
    rw [if_neg (by omega), if_neg (by omega)]
    exact ⟨hQ.1, n, nd, rp, E, N, hn, hd, hN, hQ.2, hD, hR⟩
  -- the copy, to a room that stands
  have cpy : ∀ (a' b' : Option Nat) (h : Nat) (m : Int) (S : xS) (E : xT) (N : Nat), 45 ≤ N → Hp (T5 n nd tl rp [a', b'] E) N S → DY a' b' rp N E → (∀ q, 26 ≤ q → q < 45 → E q = R q) → (a' = some h ∨ b' = some h) → Ok (g_X5_image (k + 1) 2 S 0 h 0) (fun r S' => r = 1 ∧ J5 R tl a' b' S') := by
    intro a' b' h _ S E N hN hS hD hR hm
    obtain ⟨y1, y2, m, hm2, y3⟩ := hD.1 h hm
    show Ok (b_X5_image_2 (g_X5_image k) k S 0 h 0) _
    unfold b_X5_image_2
    refine ok_rdFp hS (by omega) rfl rfl ?_
    refine ok_is hS (by omega) ((T5_ge (by omega)).trans y3.1) ?_
    refine ok_bd2 (img_copy hN hn ⟨y1, y2⟩ y3 hS) (fun _ _ hQ => ?_)
    obtain ⟨E', hS', z1, z2⟩ := hQ
    refine ok_some ⟨rfl, n, nd, rp, E', N, hn, hd, hN, hS', ?_, fun q h1 h2 => (z2 q (by omega)).trans (hR q h1 h2)⟩
    obtain ⟨d1, d2, d3⟩ := hD
    refine ⟨fun x hx => ?_, d2, fun g hg => ?_⟩
    · by_cases hxh : x = h
      · subst hxh
        exact ⟨y1, y2, n, hn, z1⟩
      · obtain ⟨u1, u2, m', um, u3⟩ := d1 x hx
        have hdis : h + 9 ≤ x ∨ x + 9 ≤ h := by
          rcases hx with hx | hx <;> rcases hm with hm | hm
          · rw [hx] at hm
            exact absurd (Option.some.inj hm) hxh
          · exact (d2 x h hx hm).symm
          · exact d2 h x hm hx
          · rw [hx] at hm
            exact absurd (Option.some.inj hm) hxh
        exact ⟨u1, u2, m', um, rmA_eq (fun q _ _ => z2 q (by omega)) u3⟩
    · obtain ⟨u1, u2, u3, u4⟩ := d3 g hg
      have hdis := u4 h hm
      exact ⟨u1, u2, rcA_eq (fun q _ _ => z2 q (by omega)) u3, u4⟩
  have go : ∀ (i : Nat) (x : Option Nat), i0 = (i : Int) → i < 2 → ([a, b] : List (Option Nat))[i]? = some x → (x = a ∧ i = 0 ∨ x = b ∧ i = 1) → Ok ((rdFp 4 2 S 0).bind fun q4 => onP (rdP 3 S q4 i0) (nmx (S ++ [.inr (.inr (1, xNew_X1))]) fun S7 => bd2 (f_X1_init (k + 1) S7 S.length) fun z10 S8 => (rdFp 4 2 S8 0).bind fun q12 => (wrP 3 1 S8 q12 i0 S.length).bind fun S14 => g_X5_image (k + 1) 2 S14 0 S.length 0) fun q5 => g_X5_image (k + 1) 2 S 0 q5 0) (fun r S' => if i0 = 0 then (r = 1 ∧ ∃ h, J5 R tl (some h) b S') else if i0 = 1 then (r = 1 ∧ ∃ h, J5 R tl a (some h) S') else (r = -2 ∧ J5 R tl a b S')) := by
    intro i x hi2 hi3 hx hxx
    have conv : ∀ (h : Nat) (r : Int) (S' : xS), (r = 1 ∧ J5 R tl (if i = 0 then some h else a) (if i = 0 then b else some h) S') → (if i0 = 0 then (r = 1 ∧ ∃ h, J5 R tl (some h) b S') else if i0 = 1 then (r = 1 ∧ ∃ h, J5 R tl a (some h) S') else (r = -2 ∧ J5 R tl a b S')) := by
      intro h r S' hq
      by_cases h0 : i = 0
      · rw [if_pos h0, if_pos h0] at hq
        rw [if_pos (by omega)]
        exact ⟨hq.1, h, hq.2⟩
      · rw [if_neg h0, if_neg h0] at hq
        rw [if_neg (by omega), if_pos (by omega)]
        exact ⟨hq.1, h, hq.2⟩
    refine ok_rdFp hS (by omega) rfl rfl ?_
    obtain ⟨c, ec, hc⟩ := hp_get hS (show 19 < N by omega)
    have hc : c = .inr (.inl (3, [a, b])) := hc
    subst hc
    have er : rdP 3 S 19 i0 = some x := by
      rw [rdP_at ec (by omega) (by omega), show i0.toNat = i by omega]
      exact hx
    cases x with
    | none =>
      rw [er]
      show Ok (bd2 (f_X1_init (k + 1) (S ++ [.inr (.inr (1, xNew_X1))]) S.length) fun z10 S8 => (rdFp 4 2 S8 0).bind fun q12 => (wrP 3 1 S8 q12 i0 S.length).bind fun S14 => g_X5_image (k + 1) 2 S14 0 S.length 0) _
      obtain ⟨G', hI, hrm, hG'⟩ := tf_X1_init hS (k := k + 1) (by omega)
      have hlen := hS.1
      refine ok_bd2 hI (fun _ S8 hS8 => ?_)
      have hT : G' = T5 n nd tl rp [a, b] G' := T5_of (E := E) (fun q hq => hG' q (by omega))
      rw [hT] at hS8
      refine ok_rdFp hS8 (by omega) rfl rfl ?_
      obtain ⟨c, ec, hc⟩ := hp_get hS8 (show 19 < S.length + 9 by omega)
      have hc : c = .inr (.inl (3, [a, b])) := hc
      subst hc
      obtain ⟨c2, ec2, hc2⟩ := hp_get hS8 (show S.length < S.length + 9 by omega)
      rw [T5_ge (by omega), hrm.1] at hc2
      obtain ⟨fs, rfl, -, -⟩ := hc2
      have ew : wrP 3 1 S8 19 i0 S.length = some (S8.set 19 (.inr (.inl (3, ([a, b] : List (Option Nat)).set i (some S.length))))) := by
        unfold wrP
        simp only [lGet_e, lSet_e, l_some]
        rw [ec, ec2]
        show (if 3 = 3 ∧ 1 = 1 ∧ 0 ≤ i0 ∧ i0 < 2147483648 ∧ i0.toNat < ([a, b] : List (Option Nat)).length then some (S8.set 19 (.inr (.inl (3, ([a, b] : List (Option Nat)).set i0.toNat (some S.length))))) else none) = _
        rw [if_pos ⟨rfl, rfl, by omega, by omega, show i0.toNat < 2 by omega⟩, show i0.toNat = i by omega]
      refine ok_bind ew ?_
      have hS14 := hp_up hS8 (q := 19) (P := tQ (([a, b] : List (Option Nat)).set i (some S.length))) (c := .inr (.inl (3, ([a, b] : List (Option Nat)).set i (some S.length)))) rfl
      rw [T5_im] at hS14
      have el : ([a, b] : List (Option Nat)).set i (some S.length) = [if i = 0 then some S.length else a, if i = 0 then b else some S.length] := by
        rcases (show i = 0 ∨ i = 1 by omega) with rfl | rfl <;> rfl
      rw [el] at hS14 ⊢
      have hD' : DY a b rp (S.length + 9) G' := DY_eq hD (by omega) (fun q h1 h2 => by rw [hG' q (by omega), T5_ge (by omega)])
      refine ok_mono (cpy (if i = 0 then some S.length else a) (if i = 0 then b else some S.length) S.length 0 _ G' (S.length + 9) (by omega) hS14 ?_ (fun q h1 h2 => by rw [hG' q (by omega), T5_ge (by omega)]; exact hR q h1 h2) ?_) (fun r S' hq => conv S.length r S' hq)
      · obtain ⟨d1, d2, d3⟩ := hD'
        obtain ⟨e1, e2, e3⟩ := hD
        have old : ∀ y, a = some y ∨ b = some y → y + 9 ≤ S.length := fun y hy => by
          have := (e1 y hy).2.1
          omega
        refine ⟨fun y hy => ?_, fun y y' hy hy' => ?_, fun g hg => ?_⟩
        · by_cases hyS : y = S.length
          · subst hyS
            exact ⟨by omega, by omega, 5, by omega, hrm⟩
          · refine d1 y ?_
            rcases (show i = 0 ∨ i = 1 by omega) with rfl | rfl
            · rcases hy with hy | hy
              · exact absurd (Option.some.inj hy).symm hyS
              · exact Or.inr hy
            · rcases hy with hy | hy
              · exact Or.inl hy
              · exact absurd (Option.some.inj hy).symm hyS
        · rcases (show i = 0 ∨ i = 1 by omega) with rfl | rfl
          · have e := Option.some.inj hy
            have := old y' (Or.inr hy')
            omega
          · have e := Option.some.inj hy'
            have := old y (Or.inl hy)
            omega
        · obtain ⟨u1, u2, u3, u4⟩ := d3 g hg
          have hg2 := (e3 g hg).2.1
          refine ⟨u1, u2, u3, fun y hy => ?_⟩
          by_cases hyS : y = S.length
          · omega
          · refine u4 y ?_
            rcases (show i = 0 ∨ i = 1 by omega) with rfl | rfl
            · rcases hy with hy | hy
              · exact absurd (Option.some.inj hy).symm hyS
              · exact Or.inr hy
            · rcases hy with hy | hy
              · exact Or.inl hy
              · exact absurd (Option.some.inj hy).symm hyS
      · rcases (show i = 0 ∨ i = 1 by omega) with rfl | rfl
        · exact Or.inl rfl
        · exact Or.inr rfl
    | some h =>
      refine ok_onP er ?_
      refine ok_mono (cpy a b h 0 S E N hN hS hD hR (hxx.elim (fun e => Or.inl e.1.symm) (fun e => Or.inr e.1.symm))) (fun r S' hq => conv h r S' ?_)
      rcases hxx with ⟨e, rfl⟩ | ⟨e, rfl⟩
      · rw [if_pos rfl, if_pos rfl, e]
        exact hq
      · rw [if_neg (by omega), if_neg (by omega), e]
        exact hq
  show Ok (b_X5_image_0 (g_X5_image (k + 1)) (k + 1) S 0 0 i0) _
  unfold b_X5_image_0
  refine ok_if (fun hc => bad (by simp (disch := omega) only [wIn] at hc; omega)) (fun hc => ?_)
  refine ok_if (fun hc2 => ?_) (fun hc2 => bad (by simp (disch := omega) only [wIn] at hc2; omega))
  simp (disch := omega) only [wIn] at hc hc2
  by_cases h0 : i0 = 0
  · exact go 0 a (by omega) (by omega) rfl (Or.inl ⟨rfl, rfl⟩)
  · exact go 1 b (by omega) (by omega) rfl (Or.inr ⟨rfl, rfl⟩)
