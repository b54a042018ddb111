variable {n nd tl : Int} {rp : Option Nat} {im : List (Option Nat)} {E : xT} {N : Nat}
theorem sr_close {S : xS} {c : Int} (h : Hp (up (T5 n nd tl rp im E) 22 (srch c)) N S) (hc : 0 ≤ c ∧ c ≤ 7) : Hp (T5 n nd tl rp im E) N S := hp_close h (fun cc hcc => tO_wk (k := 1) (P := fI 0 7) (P' := fI c c) (Ps := [fP 23, fI 0 7, fI 0 1, fZ]) rfl (fI_wk (by omega)) hcc)
theorem tg_X2_seek {p2 : Nat} {P : List Int → Prop} (hN : 26 ≤ N) (hn : 2 ≤ n ∧ n ≤ 7) (q2 : p2 < N) (g2 : T5 n nd tl rp im E p2 = tA 0 7 P) (r2 : ∀ L, P L → tR 0 6 L) (h22 : p2 ≠ 22) : ∀ (k lb : Nat) (S : xS) (p3 : Nat) (i0 i1 i2 i3 i4 c : Int), Hp (up (T5 n nd tl rp im E) 22 (srch c)) N S → ((lb = 1 ∧ 0 ≤ c ∧ c ≤ n ∧ 0 ≤ i0 ∧ i0 ≤ 6 ∧ 0 ≤ i2 ∧ i2 ≤ 6 ∧ 0 ≤ i3 ∧ i3 ≤ 6 ∧ 2 * (n - c) + 12 ≤ (k : Int)) ∨ (lb = 2 ∧ p3 = 22 ∧ 0 ≤ c ∧ c ≤ n ∧ 0 ≤ i0 ∧ i0 ≤ 6 ∧ 0 ≤ i2 ∧ i2 ≤ 6 ∧ 0 ≤ i3 ∧ i3 ≤ 6 ∧ (i4 = 0 ∨ i4 = 1) ∧ 2 * (n - c) + 13 ≤ (k : Int))) → Ok (g_X2_seek k lb S 22 1 p2 p3 i0 i1 i2 i3 i4) (fun r S' => Hp (T5 n nd tl rp im E) N S' ∧ True) := by
  intro k
  induction k with
  | zero => intro lb S p3 i0 i1 i2 i3 i4 c hS hp; exfalso; omega
  | succ k ih =>
    intro lb S p3 i0 i1 i2 i3 i4 c hS hp
    rcases hp with ⟨rfl, hp⟩ | ⟨rfl, rfl, hp⟩
    · show Ok (b_X2_seek_1 (g_X2_seek k) k S 22 1 p2 p3 i0 i1 i2 i3 i4) _
      unfold b_X2_seek_1
      repeat' (first
        | exact ok_some ⟨sr_close hS (by omega), trivial⟩
        | exact ih 2 _ _ _ _ _ _ _ _ hS (Or.inr ⟨rfl, rfl, by omega⟩)
        | refine ok_is hS (by omega) rfl ?_
        | refine ok_rdFp hS (by omega) rfl rfl ?_
        | refine ok_rdFi hS (by omega) rfl rfl (fun _ _ _ => ?_)
        | refine ok_rdFz hS (by omega) rfl rfl (fun _ => ?_)
        | (refine ok_bd2 (tf_X2_nextBox (c := c) (n := n) (by omega) rfl rfl rfl (by omega) rfl rfl rfl hS (by omega)) (fun _ _ hQ => ?_); obtain ⟨rfl, hQ⟩ := hQ)
        | refine ok_rdA hS q2 ((up_ne h22).trans g2) r2 (by omega) (by omega) (by omega) (fun _ _ _ => ?_)
        | refine ok_wrA hS (by omega) rfl (by omega) (by omega) (by omega) (fun _ _ _ => trivial) (fun _ hS => ?_)
        | refine ok_wrF hS (by omega) rfl rfl (⟨_, rfl⟩ : fZ _) (fun _ hS => ?_)
        | (refine ok_wrU (fI (c + 1) (c + 1)) hS (by omega) rfl (Nat.le_of_ble_eq_true rfl) ⟨_, rfl, by omega, by omega⟩ (fun _ hS => ?_); rw [up_up] at hS; replace hS : Hp (up (T5 n nd tl rp im E) 22 (srch (c + 1))) N _ := hS)
        | (refine ok_if (fun hc => ?_) (fun hc => ?_) <;> try simp (disch := omega) only [wIn] at hc))
    · show Ok (b_X2_seek_2 (g_X2_seek k) k S 22 1 p2 22 i0 i1 i2 i3 i4) _
      unfold b_X2_seek_2
      refine ok_pos (by omega) ?_
      refine ok_wrF hS (by omega) rfl rfl (⟨_, rfl, by omega, by omega⟩ : fI 0 1 _) (fun _ hS => ?_)
      exact ih 1 _ _ _ _ _ _ _ _ hS (Or.inl ⟨rfl, by omega⟩)
theorem tf_X2_seek {p2 : Nat} {P : List Int → Prop} (hN : 26 ≤ N) (hn : 2 ≤ n ∧ n ≤ 7) (q2 : p2 < N) (g2 : T5 n nd tl rp im E p2 = tA 0 7 P) (r2 : ∀ L, P L → tR 0 6 L) (h22 : p2 ≠ 22) {k : Nat} {S : xS} {i0 i1 : Int} (hS : Hp (T5 n nd tl rp im E) N S) (hp : 0 ≤ i0 ∧ i0 ≤ 6 ∧ 30 ≤ (k : Int)) : Ok (f_X2_seek k S 22 1 p2 i0 i1) (fun r S' => Hp (T5 n nd tl rp im E) N S' ∧ True) := by
  obtain ⟨k, rfl⟩ : ∃ k', k = k' + 1 := ⟨k - 1, by omega⟩
  show Ok (b_X2_seek_0 (g_X2_seek k) k S 22 1 p2 0 i0 i1 0 0 0) _
  unfold b_X2_seek_0
  refine ok_wrU (fI 0 0) hS (by omega) rfl (Nat.le_of_ble_eq_true rfl) ⟨_, rfl, by omega, by omega⟩ (fun _ hS => ?_)
  replace hS : Hp (up (T5 n nd tl rp im E) 22 (srch 0)) N _ := hS
  refine ok_wrF hS (by omega) rfl rfl (⟨_, rfl, by omega, by omega⟩ : fI 0 1 _) (fun _ hS => ?_)
  refine ok_wrF hS (by omega) rfl rfl (⟨_, rfl⟩ : fZ _) (fun _ hS => ?_)
  exact tg_X2_seek hN hn q2 g2 r2 h22 k 1 _ _ _ _ _ _ _ 0 hS (Or.inl ⟨rfl, by omega⟩)
