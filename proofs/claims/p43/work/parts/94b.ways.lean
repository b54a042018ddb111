theorem ok_dead {Q : Int → xS → Prop} (h : False) : Ok none Q := h.elim
theorem ok_tmod {a b : Int} {Q : Int → xS → Prop} {f : Int → Option (Int × xS)} (h0 : 0 ≤ a) (hb : 0 < b) (hf : ∀ v, 0 ≤ v → v < b → Ok (f v) Q) : Ok (nmx (a.tmod b) f) Q := hf _ (Int.tmod_nonneg _ h0) (Int.tmod_lt_of_pos _ hb)
theorem ok_len {G : xT} {N : Nat} {S : xS} {q k len : Nat} {P : List Int → Prop} {Q : Int → xS → Prop} {f : Int → Option (Int × xS)} (h : Hp G N S) (hq : q < N) (hG : G q = tA k len P) (hf : Ok (f (len : Int)) Q) : Ok ((lenA k S q).bind f) Q := by
  obtain ⟨c, e, hc⟩ := hp_get h hq
  rw [hG] at hc
  obtain ⟨L, rfl, hL, hp⟩ := hc
  refine ok_bind (lenA_of e) ?_
  rw [hL]
  exact hf
theorem tf_J6_bitCount_0f7a4 {G : xT} {N : Nat}   {k : Nat} {S : xS} {i0 : Int} (hS : Hp G N S) (hp : True) : Ok (f_J6_bitCount_0f7a4 k S i0) (fun r S' => S' = S ∧ True) := by
  unfold f_J6_bitCount_0f7a4
  repeat' (first
    | (refine ok_dead ?_; omega)
    | exact ok_some ⟨rfl, by first | trivial | omega⟩
    | (refine ok_if (fun hc => ?_) (fun hc => ?_) <;> try simp (disch := omega) only [wIn] at hc))
theorem tg_X4_rankOf {G : xT} {N : Nat} {p0 : Nat} {P0 : List Int → Prop} (q0 : p0 < N) (g0 : G p0 = tA 0 7 P0) (r0 : ∀ L, P0 L → tR 0 6 L) : ∀ (k lb : Nat) (S : xS) (i0 : Int) (i1 : Int) (i2 : Int) (i3 : Int), Hp G N S → ((lb = 0 ∧ 0 ≤ i0 ∧ i0 ≤ 7 ∧ i0 + 3 ≤ (k : Int)) ∨ (lb = 1 ∧ 0 ≤ i0 ∧ i0 ≤ 7 ∧ 0 ≤ i3 ∧ i3 ≤ i0 ∧ i0 - i3 + 1 ≤ (k : Int))) → Ok (g_X4_rankOf k lb S p0 i0 i1 i2 i3) (fun r S' => S' = S ∧ True) := by
  intro k
  induction k with
  | zero => intro lb S i0 i1 i2 i3 hS hp; exfalso; omega
  | succ k ih =>
    intro lb S i0 i1 i2 i3 hS hp
    rcases hp with ⟨rfl, hp⟩ | ⟨rfl, hp⟩
    · show Ok (b_X4_rankOf_0 (g_X4_rankOf k) k S p0 i0 i1 i2 i3) _
      unfold b_X4_rankOf_0
      repeat' (first
        | (refine ok_dead ?_; omega)
        | exact ok_some ⟨rfl, by first | trivial | omega⟩
        | exact ih 1 _ _ _ _ _ hS (Or.inr (⟨rfl, by omega⟩))
        | refine ok_rdA hS q0 g0 r0 (by omega) (by omega) (by omega) (fun _ _ _ => ?_)
        | (refine ok_if (fun hc => ?_) (fun hc => ?_) <;> try simp (disch := omega) only [wIn] at hc))
    · show Ok (b_X4_rankOf_1 (g_X4_rankOf k) k S p0 i0 i1 i2 i3) _
      unfold b_X4_rankOf_1
      repeat' (first
        | (refine ok_dead ?_; omega)
        | exact ok_some ⟨rfl, by first | trivial | omega⟩
        | exact ih 1 _ _ _ _ _ hS (Or.inr (⟨rfl, by omega⟩))
        | (refine ok_bd2 (tf_J6_bitCount_0f7a4  hS (by first | trivial | omega)) (fun _ _ hQ => ?_); obtain ⟨rfl, hQ⟩ := hQ)
        | refine ok_rdA hS q0 g0 r0 (by omega) (by omega) (by omega) (fun _ _ _ => ?_)
        | refine ok_rdT (by omega) (by omega) (fun _ _ _ _ => ?_)
        | (refine ok_if (fun hc => ?_) (fun hc => ?_) <;> try simp (disch := omega) only [wIn] at hc))
theorem tf_X4_rankOf {G : xT} {N : Nat} {p0 : Nat} {P0 : List Int → Prop} (q0 : p0 < N) (g0 : G p0 = tA 0 7 P0) (r0 : ∀ L, P0 L → tR 0 6 L) {k : Nat} {S : xS} {i0 : Int} (hS : Hp G N S) (hp : 0 ≤ i0 ∧ i0 ≤ 7 ∧ i0 + 3 ≤ (k : Int)) : Ok (f_X4_rankOf k S p0 i0) (fun r S' => S' = S ∧ True) :=
  tg_X4_rankOf q0 g0 r0 k 0 S i0 0 0 0 hS (Or.inl ⟨rfl, hp⟩)
theorem tg_X4_slipLeft {G : xT} {N : Nat}   : ∀ (k lb : Nat) (S : xS) (i0 : Int) (i1 : Int) (i2 : Int) (i3 : Int) (i4 : Int), Hp G N S → ((lb = 0 ∧ 0 ≤ i1 ∧ i1 ≤ 7 ∧ 2 * i1 + 2 ≤ (k : Int)) ∨ (lb = 1 ∧ 0 ≤ i4 ∧ i4 ≤ i1 ∧ i1 ≤ 7 ∧ 2 * (i1 - i4) + 1 ≤ (k : Int)) ∨ (lb = 2 ∧ 0 ≤ i4 ∧ i4 < i1 ∧ i1 ≤ 7 ∧ 2 * (i1 - i4) ≤ (k : Int))) → Ok (g_X4_slipLeft k lb S i0 i1 i2 i3 i4) (fun r S' => S' = S ∧ (0 ≤ r ∧ r ≤ 6)) := by
  intro k
  induction k with
  | zero => intro lb S i0 i1 i2 i3 i4 hS hp; exfalso; omega
  | succ k ih =>
    intro lb S i0 i1 i2 i3 i4 hS hp
    rcases hp with ⟨rfl, hp⟩ | ⟨rfl, hp⟩ | ⟨rfl, hp⟩
    · show Ok (b_X4_slipLeft_0 (g_X4_slipLeft k) k S i0 i1 i2 i3 i4) _
      unfold b_X4_slipLeft_0
      repeat' (first
        | (refine ok_dead ?_; omega)
        | exact ok_some ⟨rfl, by first | trivial | omega⟩
        | exact ih 1 _ _ _ _ _ _ hS (Or.inr (Or.inl ⟨rfl, by omega⟩))
        | (refine ok_if (fun hc => ?_) (fun hc => ?_) <;> try simp (disch := omega) only [wIn] at hc))
    · show Ok (b_X4_slipLeft_1 (g_X4_slipLeft k) k S i0 i1 i2 i3 i4) _
      unfold b_X4_slipLeft_1
      repeat' (first
        | (refine ok_dead ?_; omega)
        | exact ok_some ⟨rfl, by first | trivial | omega⟩
        | exact ih 2 _ _ _ _ _ _ hS (Or.inr (Or.inr (⟨rfl, by omega⟩)))
        | (refine ok_if (fun hc => ?_) (fun hc => ?_) <;> try simp (disch := omega) only [wIn] at hc))
    · show Ok (b_X4_slipLeft_2 (g_X4_slipLeft k) k S i0 i1 i2 i3 i4) _
      unfold b_X4_slipLeft_2
      repeat' (first
        | (refine ok_dead ?_; omega)
        | exact ok_some ⟨rfl, by first | trivial | omega⟩
        | exact ih 1 _ _ _ _ _ _ hS (Or.inr (Or.inl ⟨rfl, by omega⟩))
        | (refine ok_if (fun hc => ?_) (fun hc => ?_) <;> try simp (disch := omega) only [wIn] at hc))
theorem tf_X4_slipLeft {G : xT} {N : Nat}   {k : Nat} {S : xS} {i0 : Int} {i1 : Int} {i2 : Int} (hS : Hp G N S) (hp : 0 ≤ i1 ∧ i1 ≤ 7 ∧ 2 * i1 + 2 ≤ (k : Int)) : Ok (f_X4_slipLeft k S i0 i1 i2) (fun r S' => S' = S ∧ (0 ≤ r ∧ r ≤ 6)) :=
  tg_X4_slipLeft  k 0 S i0 i1 i2 0 0 hS (Or.inl ⟨rfl, hp⟩)
theorem tg_X4_setToRank {G : xT} {N : Nat} {p0 : Nat} {P0 : List Int → Prop} (q0 : p0 < N) (g0 : G p0 = tA 0 7 P0) (r0 : ∀ L, P0 L → tR 0 6 L) (w0 : ∀ (L : List Int) (i : Nat) (x : Int), 0 ≤ x ∧ x ≤ 6 → P0 L → P0 (L.set i x)) : ∀ (k lb : Nat) (S : xS) (i0 : Int) (i1 : Int) (i2 : Int) (i3 : Int), Hp G N S → ((lb = 0 ∧ 0 ≤ i0 ∧ i0 ≤ 7 ∧ i0 + 20 ≤ (k : Int)) ∨ (lb = 1 ∧ 0 ≤ i0 ∧ i0 ≤ 7 ∧ 0 ≤ i3 ∧ i3 ≤ i0 ∧ i0 - i3 + 18 ≤ (k : Int))) → Ok (g_X4_setToRank k lb S p0 i0 i1 i2 i3) (fun r S' => Hp G N S' ∧ True) := by
  intro k
  induction k with
  | zero => intro lb S i0 i1 i2 i3 hS hp; exfalso; omega
  | succ k ih =>
    intro lb S i0 i1 i2 i3 hS hp
    rcases hp with ⟨rfl, hp⟩ | ⟨rfl, hp⟩
    · show Ok (b_X4_setToRank_0 (g_X4_setToRank k) k S p0 i0 i1 i2 i3) _
      unfold b_X4_setToRank_0
      repeat' (first
        | (refine ok_dead ?_; omega)
        | exact ok_some ⟨hS, by first | trivial | omega⟩
        | exact ih 1 _ _ _ _ _ hS (Or.inr (⟨rfl, by omega⟩))
        | refine ok_wrA hS q0 g0 (by omega) (by omega) (by omega) (fun L _ hL => w0 L _ _ (by omega) hL) (fun _ hS => ?_)
        | (refine ok_if (fun hc => ?_) (fun hc => ?_) <;> try simp (disch := omega) only [wIn] at hc))
    · show Ok (b_X4_setToRank_1 (g_X4_setToRank k) k S p0 i0 i1 i2 i3) _
      unfold b_X4_setToRank_1
      repeat' (first
        | (refine ok_dead ?_; omega)
        | exact ok_some ⟨hS, by first | trivial | omega⟩
        | exact ih 1 _ _ _ _ _ hS (Or.inr (⟨rfl, by omega⟩))
        | (refine ok_bd2 (tf_X4_slipLeft  hS (by first | trivial | omega)) (fun _ _ hQ => ?_); obtain ⟨rfl, hQ⟩ := hQ)
        | (refine ok_tmod (by first | omega | (simp (disch := omega) only [wIn]; omega)) (by first | omega | (simp (disch := omega) only [wIn]; omega)) (fun _ _ hm => ?_); try simp (disch := omega) only [wIn] at hm)
        | refine ok_wrA hS q0 g0 (by omega) (by omega) (by omega) (fun L _ hL => w0 L _ _ (by omega) hL) (fun _ hS => ?_)
        | refine ok_rdT (by omega) (by omega) (fun _ _ _ _ => ?_)
        | (refine ok_if (fun hc => ?_) (fun hc => ?_) <;> try simp (disch := omega) only [wIn] at hc))
theorem tf_X4_setToRank {G : xT} {N : Nat} {p0 : Nat} {P0 : List Int → Prop} (q0 : p0 < N) (g0 : G p0 = tA 0 7 P0) (r0 : ∀ L, P0 L → tR 0 6 L) (w0 : ∀ (L : List Int) (i : Nat) (x : Int), 0 ≤ x ∧ x ≤ 6 → P0 L → P0 (L.set i x)) {k : Nat} {S : xS} {i0 : Int} {i1 : Int} (hS : Hp G N S) (hp : 0 ≤ i0 ∧ i0 ≤ 7 ∧ i0 + 20 ≤ (k : Int)) : Ok (f_X4_setToRank k S p0 i0 i1) (fun r S' => Hp G N S' ∧ True) :=
  tg_X4_setToRank q0 g0 r0 w0 k 0 S i0 i1 0 0 hS (Or.inl ⟨rfl, hp⟩)
theorem tg_X4_setToFirst {G : xT} {N : Nat} {p0 : Nat} {P0 : List Int → Prop} (q0 : p0 < N) (g0 : G p0 = tA 0 7 P0) (r0 : ∀ L, P0 L → tR 0 6 L) (w0 : ∀ (L : List Int) (i : Nat) (x : Int), 0 ≤ x ∧ x ≤ 6 → P0 L → P0 (L.set i x)) : ∀ (k lb : Nat) (S : xS) (i0 : Int) (i1 : Int), Hp G N S → ((lb = 0 ∧ 0 ≤ i0 ∧ i0 ≤ 7 ∧ i0 + 2 ≤ (k : Int)) ∨ (lb = 1 ∧ 0 ≤ i0 ∧ i0 ≤ 7 ∧ 0 ≤ i1 ∧ i1 ≤ i0 ∧ i0 - i1 + 1 ≤ (k : Int))) → Ok (g_X4_setToFirst k lb S p0 i0 i1) (fun r S' => Hp G N S' ∧ True) := by
  intro k
  induction k with
  | zero => intro lb S i0 i1 hS hp; exfalso; omega
  | succ k ih =>
    intro lb S i0 i1 hS hp
    rcases hp with ⟨rfl, hp⟩ | ⟨rfl, hp⟩
    · show Ok (b_X4_setToFirst_0 (g_X4_setToFirst k) k S p0 i0 i1) _
      unfold b_X4_setToFirst_0
      repeat' (first
        | (refine ok_dead ?_; omega)
        | exact ok_some ⟨hS, by first | trivial | omega⟩
        | exact ih 1 _ _ _ hS (Or.inr (⟨rfl, by omega⟩))
        | refine ok_wrA hS q0 g0 (by omega) (by omega) (by omega) (fun L _ hL => w0 L _ _ (by omega) hL) (fun _ hS => ?_)
        | (refine ok_if (fun hc => ?_) (fun hc => ?_) <;> try simp (disch := omega) only [wIn] at hc))
    · show Ok (b_X4_setToFirst_1 (g_X4_setToFirst k) k S p0 i0 i1) _
      unfold b_X4_setToFirst_1
      repeat' (first
        | (refine ok_dead ?_; omega)
        | exact ok_some ⟨hS, by first | trivial | omega⟩
        | exact ih 1 _ _ _ hS (Or.inr (⟨rfl, by omega⟩))
        | refine ok_wrA hS q0 g0 (by omega) (by omega) (by omega) (fun L _ hL => w0 L _ _ (by omega) hL) (fun _ hS => ?_)
        | (refine ok_if (fun hc => ?_) (fun hc => ?_) <;> try simp (disch := omega) only [wIn] at hc))
theorem tf_X4_setToFirst {G : xT} {N : Nat} {p0 : Nat} {P0 : List Int → Prop} (q0 : p0 < N) (g0 : G p0 = tA 0 7 P0) (r0 : ∀ L, P0 L → tR 0 6 L) (w0 : ∀ (L : List Int) (i : Nat) (x : Int), 0 ≤ x ∧ x ≤ 6 → P0 L → P0 (L.set i x)) {k : Nat} {S : xS} {i0 : Int} (hS : Hp G N S) (hp : 0 ≤ i0 ∧ i0 ≤ 7 ∧ i0 + 2 ≤ (k : Int)) : Ok (f_X4_setToFirst k S p0 i0) (fun r S' => Hp G N S' ∧ True) :=
  tg_X4_setToFirst q0 g0 r0 w0 k 0 S i0 0 hS (Or.inl ⟨rfl, hp⟩)
theorem tf_X4_exchange {G : xT} {N : Nat} {p0 : Nat} {P0 : List Int → Prop} (q0 : p0 < N) (g0 : G p0 = tA 0 7 P0) (r0 : ∀ L, P0 L → tR 0 6 L) (w0 : ∀ (L : List Int) (i : Nat) (x : Int), 0 ≤ x ∧ x ≤ 6 → P0 L → P0 (L.set i x)) {k : Nat} {S : xS} {i0 : Int} {i1 : Int} (hS : Hp G N S) (hp : 0 ≤ i0 ∧ i0 ≤ 6 ∧ 0 ≤ i1 ∧ i1 ≤ 6) : Ok (f_X4_exchange k S p0 i0 i1) (fun r S' => Hp G N S' ∧ True) := by
  unfold f_X4_exchange
  repeat' (first
    | (refine ok_dead ?_; omega)
    | exact ok_some ⟨hS, by first | trivial | omega⟩
    | refine ok_rdA hS q0 g0 r0 (by omega) (by omega) (by omega) (fun _ _ _ => ?_)
    | refine ok_wrA hS q0 g0 (by omega) (by omega) (by omega) (fun L _ hL => w0 L _ _ (by omega) hL) (fun _ hS => ?_)
    | (refine ok_if (fun hc => ?_) (fun hc => ?_) <;> try simp (disch := omega) only [wIn] at hc))
theorem tg_X4_setToNext {G : xT} {N : Nat} {p0 : Nat} {P0 : List Int → Prop} (q0 : p0 < N) (g0 : G p0 = tA 0 7 P0) (r0 : ∀ L, P0 L → tR 0 6 L) (w0 : ∀ (L : List Int) (i : Nat) (x : Int), 0 ≤ x ∧ x ≤ 6 → P0 L → P0 (L.set i x)) : ∀ (k lb : Nat) (S : xS) (i0 : Int) (i1 : Int) (i2 : Int), Hp G N S → ((lb = 0 ∧ 2 ≤ i0 ∧ i0 ≤ 7 ∧ 31 ≤ (k : Int)) ∨ (lb = 1 ∧ 2 ≤ i0 ∧ i0 ≤ 7 ∧ -1 ≤ i1 ∧ i1 ≤ i0 - 2 ∧ i1 + 24 ≤ (k : Int)) ∨ (lb = 2 ∧ 2 ≤ i0 ∧ i0 ≤ 7 ∧ -1 ≤ i1 ∧ i1 ≤ i0 - 2 ∧ 22 ≤ (k : Int)) ∨ (lb = 3 ∧ 2 ≤ i0 ∧ i0 ≤ 7 ∧ 0 ≤ i1 ∧ i1 ≤ i0 - 2 ∧ i1 ≤ i2 ∧ i2 ≤ i0 - 1 ∧ i2 - i1 + 14 ≤ (k : Int)) ∨ (lb = 4 ∧ 2 ≤ i0 ∧ i0 ≤ 7 ∧ 0 ≤ i1 ∧ i1 ≤ i0 - 2 ∧ i1 ≤ i2 ∧ i2 ≤ i0 - 1 ∧ 12 ≤ (k : Int)) ∨ (lb = 5 ∧ 2 ≤ i0 ∧ i0 ≤ 7 ∧ -1 ≤ i1 ∧ i1 ≤ i0 - 2 ∧ 11 ≤ (k : Int)) ∨ (lb = 6 ∧ 0 ≤ i0 ∧ i0 ≤ 7 ∧ -1 ≤ i1 ∧ i1 ≤ 6 ∧ i1 - i0 + 2 ≤ (k : Int) ∧ 1 ≤ (k : Int))) → Ok (g_X4_setToNext k lb S p0 i0 i1 i2) (fun r S' => Hp G N S' ∧ True) := by
  intro k
  induction k with
  | zero => intro lb S i0 i1 i2 hS hp; exfalso; omega
  | succ k ih =>
    intro lb S i0 i1 i2 hS hp
    rcases hp with ⟨rfl, hp⟩ | ⟨rfl, hp⟩ | ⟨rfl, hp⟩ | ⟨rfl, hp⟩ | ⟨rfl, hp⟩ | ⟨rfl, hp⟩ | ⟨rfl, hp⟩
    · show Ok (b_X4_setToNext_0 (g_X4_setToNext k) k S p0 i0 i1 i2) _
      unfold b_X4_setToNext_0
      repeat' (first
        | (refine ok_dead ?_; omega)
        | exact ok_some ⟨hS, by first | trivial | omega⟩
        | exact ih 1 _ _ _ _ hS (Or.inr (Or.inl ⟨rfl, by omega⟩))
        | refine ok_rdA hS q0 g0 r0 (by omega) (by omega) (by omega) (fun _ _ _ => ?_)
        | (refine ok_if (fun hc => ?_) (fun hc => ?_) <;> try simp (disch := omega) only [wIn] at hc))
    · show Ok (b_X4_setToNext_1 (g_X4_setToNext k) k S p0 i0 i1 i2) _
      unfold b_X4_setToNext_1
      repeat' (first
        | (refine ok_dead ?_; omega)
        | exact ok_some ⟨hS, by first | trivial | omega⟩
        | exact ih 1 _ _ _ _ hS (Or.inr (Or.inl ⟨rfl, by omega⟩))
        | exact ih 2 _ _ _ _ hS (Or.inr (Or.inr (Or.inl ⟨rfl, by omega⟩)))
        | refine ok_rdA hS q0 g0 r0 (by omega) (by omega) (by omega) (fun _ _ _ => ?_)
        | (refine ok_if (fun hc => ?_) (fun hc => ?_) <;> try simp (disch := omega) only [wIn] at hc))
    · show Ok (b_X4_setToNext_2 (g_X4_setToNext k) k S p0 i0 i1 i2) _
      unfold b_X4_setToNext_2
      repeat' (first
        | (refine ok_dead ?_; omega)
        | exact ok_some ⟨hS, by first | trivial | omega⟩
        | exact ih 3 _ _ _ _ hS (Or.inr (Or.inr (Or.inr (Or.inl ⟨rfl, by omega⟩))))
        | exact ih 5 _ _ _ _ hS (Or.inr (Or.inr (Or.inr (Or.inr (Or.inr (Or.inl ⟨rfl, by omega⟩))))))
        | refine ok_rdA hS q0 g0 r0 (by omega) (by omega) (by omega) (fun _ _ _ => ?_)
        | (refine ok_if (fun hc => ?_) (fun hc => ?_) <;> try simp (disch := omega) only [wIn] at hc))
    · show Ok (b_X4_setToNext_3 (g_X4_setToNext k) k S p0 i0 i1 i2) _
      unfold b_X4_setToNext_3
      repeat' (first
        | (refine ok_dead ?_; omega)
        | exact ok_some ⟨hS, by first | trivial | omega⟩
        | exact ih 3 _ _ _ _ hS (Or.inr (Or.inr (Or.inr (Or.inl ⟨rfl, by omega⟩))))
        | exact ih 4 _ _ _ _ hS (Or.inr (Or.inr (Or.inr (Or.inr (Or.inl ⟨rfl, by omega⟩)))))
        | refine ok_rdA hS q0 g0 r0 (by omega) (by omega) (by omega) (fun _ _ _ => ?_)
        | (refine ok_if (fun hc => ?_) (fun hc => ?_) <;> try simp (disch := omega) only [wIn] at hc))
    · show Ok (b_X4_setToNext_4 (g_X4_setToNext k) k S p0 i0 i1 i2) _
      unfold b_X4_setToNext_4
      repeat' (first
        | (refine ok_dead ?_; omega)
        | exact ok_some ⟨hS, by first | trivial | omega⟩
        | exact ih 5 _ _ _ _ hS (Or.inr (Or.inr (Or.inr (Or.inr (Or.inr (Or.inl ⟨rfl, by omega⟩))))))
        | (refine ok_bd2 (tf_X4_exchange q0 g0 r0 w0 hS (by first | trivial | omega)) (fun _ _ hQ => ?_); obtain ⟨hS, hQ⟩ := hQ)
        | refine ok_rdA hS q0 g0 r0 (by omega) (by omega) (by omega) (fun _ _ _ => ?_)
        | (refine ok_if (fun hc => ?_) (fun hc => ?_) <;> try simp (disch := omega) only [wIn] at hc))
    · show Ok (b_X4_setToNext_5 (g_X4_setToNext k) k S p0 i0 i1 i2) _
      unfold b_X4_setToNext_5
      repeat' (first
        | (refine ok_dead ?_; omega)
        | exact ok_some ⟨hS, by first | trivial | omega⟩
        | exact ih 6 _ _ _ _ hS (Or.inr (Or.inr (Or.inr (Or.inr (Or.inr (Or.inr (⟨rfl, by omega⟩)))))))
        | refine ok_rdA hS q0 g0 r0 (by omega) (by omega) (by omega) (fun _ _ _ => ?_)
        | (refine ok_if (fun hc => ?_) (fun hc => ?_) <;> try simp (disch := omega) only [wIn] at hc))
    · show Ok (b_X4_setToNext_6 (g_X4_setToNext k) k S p0 i0 i1 i2) _
      unfold b_X4_setToNext_6
      repeat' (first
        | (refine ok_dead ?_; omega)
        | exact ok_some ⟨hS, by first | trivial | omega⟩
        | exact ih 6 _ _ _ _ hS (Or.inr (Or.inr (Or.inr (Or.inr (Or.inr (Or.inr (⟨rfl, by omega⟩)))))))
        | (refine ok_bd2 (tf_X4_exchange q0 g0 r0 w0 hS (by first | trivial | omega)) (fun _ _ hQ => ?_); obtain ⟨hS, hQ⟩ := hQ)
        | refine ok_rdA hS q0 g0 r0 (by omega) (by omega) (by omega) (fun _ _ _ => ?_)
        | (refine ok_if (fun hc => ?_) (fun hc => ?_) <;> try simp (disch := omega) only [wIn] at hc))
theorem tf_X4_setToNext {G : xT} {N : Nat} {p0 : Nat} {P0 : List Int → Prop} (q0 : p0 < N) (g0 : G p0 = tA 0 7 P0) (r0 : ∀ L, P0 L → tR 0 6 L) (w0 : ∀ (L : List Int) (i : Nat) (x : Int), 0 ≤ x ∧ x ≤ 6 → P0 L → P0 (L.set i x)) {k : Nat} {S : xS} {i0 : Int} (hS : Hp G N S) (hp : 2 ≤ i0 ∧ i0 ≤ 7 ∧ 31 ≤ (k : Int)) : Ok (f_X4_setToNext k S p0 i0) (fun r S' => Hp G N S' ∧ True) :=
  tg_X4_setToNext q0 g0 r0 w0 k 0 S i0 0 0 hS (Or.inl ⟨rfl, hp⟩)
theorem tg_X4_stepsFrom {G : xT} {N : Nat} {p0 : Nat} {P0 : List Int → Prop} (q0 : p0 < N) (g0 : G p0 = tA 0 7 P0) (r0 : ∀ L, P0 L → tR 0 6 L) : ∀ (k lb : Nat) (S : xS) (i0 : Int) (i1 : Int) (i2 : Int), Hp G N S → ((lb = 0 ∧ 0 ≤ i0 ∧ i0 ≤ 6 ∧ 0 ≤ i1 ∧ i1 ≤ 99 ∧ i1 + 2 ≤ (k : Int)) ∨ (lb = 1 ∧ 0 ≤ i0 ∧ i0 ≤ 99 ∧ 0 ≤ i1 ∧ i1 ≤ 6 ∧ 0 ≤ i2 ∧ i2 ≤ i0 ∧ i0 - i2 + 1 ≤ (k : Int))) → Ok (g_X4_stepsFrom k lb S p0 i0 i1 i2) (fun r S' => S' = S ∧ (0 ≤ r ∧ r ≤ 6)) := by
  intro k
  induction k with
  | zero => intro lb S i0 i1 i2 hS hp; exfalso; omega
  | succ k ih =>
    intro lb S i0 i1 i2 hS hp
    rcases hp with ⟨rfl, hp⟩ | ⟨rfl, hp⟩
    · show Ok (b_X4_stepsFrom_0 (g_X4_stepsFrom k) k S p0 i0 i1 i2) _
      unfold b_X4_stepsFrom_0
      repeat' (first
        | (refine ok_dead ?_; omega)
        | exact ok_some ⟨rfl, by first | trivial | omega⟩
        | exact ih 1 _ _ _ _ hS (Or.inr (⟨rfl, by omega⟩))
        | refine ok_rdA hS q0 g0 r0 (by omega) (by omega) (by omega) (fun _ _ _ => ?_)
        | (refine ok_if (fun hc => ?_) (fun hc => ?_) <;> try simp (disch := omega) only [wIn] at hc))
    · show Ok (b_X4_stepsFrom_1 (g_X4_stepsFrom k) k S p0 i0 i1 i2) _
      unfold b_X4_stepsFrom_1
      repeat' (first
        | (refine ok_dead ?_; omega)
        | exact ok_some ⟨rfl, by first | trivial | omega⟩
        | exact ih 1 _ _ _ _ hS (Or.inr (⟨rfl, by omega⟩))
        | refine ok_rdA hS q0 g0 r0 (by omega) (by omega) (by omega) (fun _ _ _ => ?_)
        | (refine ok_if (fun hc => ?_) (fun hc => ?_) <;> try simp (disch := omega) only [wIn] at hc))
theorem tf_X4_stepsFrom {G : xT} {N : Nat} {p0 : Nat} {P0 : List Int → Prop} (q0 : p0 < N) (g0 : G p0 = tA 0 7 P0) (r0 : ∀ L, P0 L → tR 0 6 L) {k : Nat} {S : xS} {i0 : Int} {i1 : Int} (hS : Hp G N S) (hp : 0 ≤ i0 ∧ i0 ≤ 6 ∧ 0 ≤ i1 ∧ i1 ≤ 99 ∧ i1 + 2 ≤ (k : Int)) : Ok (f_X4_stepsFrom k S p0 i0 i1) (fun r S' => S' = S ∧ (0 ≤ r ∧ r ≤ 6)) :=
  tg_X4_stepsFrom q0 g0 r0 k 0 S i0 i1 0 hS (Or.inl ⟨rfl, hp⟩)
theorem tg_X4_ringLength {G : xT} {N : Nat} {p0 : Nat} {P0 : List Int → Prop} (q0 : p0 < N) (g0 : G p0 = tA 0 7 P0) (r0 : ∀ L, P0 L → tR 0 6 L) : ∀ (k lb : Nat) (S : xS) (i0 : Int) (i1 : Int) (i2 : Int) (i3 : Int), Hp G N S → ((lb = 0 ∧ 0 ≤ i0 ∧ i0 ≤ 7 ∧ 0 ≤ i1 ∧ i1 ≤ 6 ∧ i0 + 3 ≤ (k : Int)) ∨ (lb = 1 ∧ 0 ≤ i0 ∧ i0 ≤ 7 ∧ 0 ≤ i1 ∧ i1 ≤ 6 ∧ 1 ≤ i2 ∧ i2 ≤ 7 ∧ 0 ≤ i3 ∧ i3 ≤ 6 ∧ i0 - i2 + 2 ≤ (k : Int) ∧ 1 ≤ (k : Int))) → Ok (g_X4_ringLength k lb S p0 i0 i1 i2 i3) (fun r S' => S' = S ∧ (1 ≤ r ∧ r ≤ 7)) := by
  intro k
  induction k with
  | zero => intro lb S i0 i1 i2 i3 hS hp; exfalso; omega
  | succ k ih =>
    intro lb S i0 i1 i2 i3 hS hp
    rcases hp with ⟨rfl, hp⟩ | ⟨rfl, hp⟩
    · show Ok (b_X4_ringLength_0 (g_X4_ringLength k) k S p0 i0 i1 i2 i3) _
      unfold b_X4_ringLength_0
      repeat' (first
        | (refine ok_dead ?_; omega)
        | exact ok_some ⟨rfl, by first | trivial | omega⟩
        | exact ih 1 _ _ _ _ _ hS (Or.inr (⟨rfl, by omega⟩))
        | refine ok_rdA hS q0 g0 r0 (by omega) (by omega) (by omega) (fun _ _ _ => ?_)
        | (refine ok_if (fun hc => ?_) (fun hc => ?_) <;> try simp (disch := omega) only [wIn] at hc))
    · show Ok (b_X4_ringLength_1 (g_X4_ringLength k) k S p0 i0 i1 i2 i3) _
      unfold b_X4_ringLength_1
      repeat' (first
        | (refine ok_dead ?_; omega)
        | exact ok_some ⟨rfl, by first | trivial | omega⟩
        | exact ih 1 _ _ _ _ _ hS (Or.inr (⟨rfl, by omega⟩))
        | refine ok_rdA hS q0 g0 r0 (by omega) (by omega) (by omega) (fun _ _ _ => ?_)
        | (refine ok_if (fun hc => ?_) (fun hc => ?_) <;> try simp (disch := omega) only [wIn] at hc))
theorem tf_X4_ringLength {G : xT} {N : Nat} {p0 : Nat} {P0 : List Int → Prop} (q0 : p0 < N) (g0 : G p0 = tA 0 7 P0) (r0 : ∀ L, P0 L → tR 0 6 L) {k : Nat} {S : xS} {i0 : Int} {i1 : Int} (hS : Hp G N S) (hp : 0 ≤ i0 ∧ i0 ≤ 7 ∧ 0 ≤ i1 ∧ i1 ≤ 6 ∧ i0 + 3 ≤ (k : Int)) : Ok (f_X4_ringLength k S p0 i0 i1) (fun r S' => S' = S ∧ (1 ≤ r ∧ r ≤ 7)) :=
  tg_X4_ringLength q0 g0 r0 k 0 S i0 i1 0 0 hS (Or.inl ⟨rfl, hp⟩)
theorem tg_X4_ringCount {G : xT} {N : Nat} {p0 : Nat} {P0 : List Int → Prop} (q0 : p0 < N) (g0 : G p0 = tA 0 7 P0) (r0 : ∀ L, P0 L → tR 0 6 L) : ∀ (k lb : Nat) (S : xS) (i0 : Int) (i1 : Int) (i2 : Int) (i3 : Int) (i4 : Int) (i5 : Int), Hp G N S → ((lb = 0 ∧ 0 ≤ i0 ∧ i0 ≤ 7 ∧ 12 * i0 + 2 ≤ (k : Int)) ∨ (lb = 1 ∧ 0 ≤ i0 ∧ i0 ≤ 7 ∧ 0 ≤ i3 ∧ i3 ≤ i0 ∧ 12 * (i0 - i3) + 1 ≤ (k : Int)) ∨ (lb = 2 ∧ 0 ≤ i0 ∧ i0 ≤ 7 ∧ 0 ≤ i3 ∧ i3 < i0 ∧ 0 ≤ i4 ∧ i4 ≤ 6 ∧ 0 ≤ i5 ∧ i5 ≤ i0 ∧ i0 - i5 + 3 + 12 * (i0 - i3 - 1) ≤ (k : Int)) ∨ (lb = 3 ∧ 0 ≤ i0 ∧ i0 ≤ 7 ∧ 0 ≤ i3 ∧ i3 < i0 ∧ 2 + 12 * (i0 - i3 - 1) ≤ (k : Int))) → Ok (g_X4_ringCount k lb S p0 i0 i1 i2 i3 i4 i5) (fun r S' => S' = S ∧ True) := by
  intro k
  induction k with
  | zero => intro lb S i0 i1 i2 i3 i4 i5 hS hp; exfalso; omega
  | succ k ih =>
    intro lb S i0 i1 i2 i3 i4 i5 hS hp
    rcases hp with ⟨rfl, hp⟩ | ⟨rfl, hp⟩ | ⟨rfl, hp⟩ | ⟨rfl, hp⟩
    · show Ok (b_X4_ringCount_0 (g_X4_ringCount k) k S p0 i0 i1 i2 i3 i4 i5) _
      unfold b_X4_ringCount_0
      repeat' (first
        | (refine ok_dead ?_; omega)
        | exact ok_some ⟨rfl, by first | trivial | omega⟩
        | exact ih 1 _ _ _ _ _ _ _ hS (Or.inr (Or.inl ⟨rfl, by omega⟩))
        | refine ok_rdA hS q0 g0 r0 (by omega) (by omega) (by omega) (fun _ _ _ => ?_)
        | (refine ok_if (fun hc => ?_) (fun hc => ?_) <;> try simp (disch := omega) only [wIn] at hc))
    · show Ok (b_X4_ringCount_1 (g_X4_ringCount k) k S p0 i0 i1 i2 i3 i4 i5) _
      unfold b_X4_ringCount_1
      repeat' (first
        | (refine ok_dead ?_; omega)
        | exact ok_some ⟨rfl, by first | trivial | omega⟩
        | exact ih 2 _ _ _ _ _ _ _ hS (Or.inr (Or.inr (Or.inl ⟨rfl, by omega⟩)))
        | exact ih 3 _ _ _ _ _ _ _ hS (Or.inr (Or.inr (Or.inr (⟨rfl, by omega⟩))))
        | refine ok_rdA hS q0 g0 r0 (by omega) (by omega) (by omega) (fun _ _ _ => ?_)
        | (refine ok_if (fun hc => ?_) (fun hc => ?_) <;> try simp (disch := omega) only [wIn] at hc))
    · show Ok (b_X4_ringCount_2 (g_X4_ringCount k) k S p0 i0 i1 i2 i3 i4 i5) _
      unfold b_X4_ringCount_2
      repeat' (first
        | (refine ok_dead ?_; omega)
        | exact ok_some ⟨rfl, by first | trivial | omega⟩
        | exact ih 2 _ _ _ _ _ _ _ hS (Or.inr (Or.inr (Or.inl ⟨rfl, by omega⟩)))
        | exact ih 3 _ _ _ _ _ _ _ hS (Or.inr (Or.inr (Or.inr (⟨rfl, by omega⟩))))
        | refine ok_rdA hS q0 g0 r0 (by omega) (by omega) (by omega) (fun _ _ _ => ?_)
        | (refine ok_if (fun hc => ?_) (fun hc => ?_) <;> try simp (disch := omega) only [wIn] at hc))
    · show Ok (b_X4_ringCount_3 (g_X4_ringCount k) k S p0 i0 i1 i2 i3 i4 i5) _
      unfold b_X4_ringCount_3
      repeat' (first
        | (refine ok_dead ?_; omega)
        | exact ok_some ⟨rfl, by first | trivial | omega⟩
        | exact ih 1 _ _ _ _ _ _ _ hS (Or.inr (Or.inl ⟨rfl, by omega⟩))
        | refine ok_rdA hS q0 g0 r0 (by omega) (by omega) (by omega) (fun _ _ _ => ?_)
        | (refine ok_if (fun hc => ?_) (fun hc => ?_) <;> try simp (disch := omega) only [wIn] at hc))
theorem tf_X4_ringCount {G : xT} {N : Nat} {p0 : Nat} {P0 : List Int → Prop} (q0 : p0 < N) (g0 : G p0 = tA 0 7 P0) (r0 : ∀ L, P0 L → tR 0 6 L) {k : Nat} {S : xS} {i0 : Int} (hS : Hp G N S) (hp : 0 ≤ i0 ∧ i0 ≤ 7 ∧ 12 * i0 + 2 ≤ (k : Int)) : Ok (f_X4_ringCount k S p0 i0) (fun r S' => S' = S ∧ True) :=
  tg_X4_ringCount q0 g0 r0 k 0 S i0 0 0 0 0 0 hS (Or.inl ⟨rfl, hp⟩)
theorem tg_X4_ringMark {G : xT} {N : Nat} {p0 : Nat} {P0 : List Int → Prop} (q0 : p0 < N) (g0 : G p0 = tA 0 7 P0) (r0 : ∀ L, P0 L → tR 0 6 L) : ∀ (k lb : Nat) (S : xS) (i0 : Int) (i1 : Int) (i2 : Int), Hp G N S → ((lb = 0 ∧ 0 ≤ i0 ∧ i0 ≤ 7 ∧ i0 + 14 ≤ (k : Int)) ∨ (lb = 1 ∧ 0 ≤ i0 ∧ i0 ≤ 7 ∧ 0 ≤ i2 ∧ i2 ≤ i0 ∧ i0 - i2 + 12 ≤ (k : Int))) → Ok (g_X4_ringMark k lb S p0 i0 i1 i2) (fun r S' => S' = S ∧ True) := by
  intro k
  induction k with
  | zero => intro lb S i0 i1 i2 hS hp; exfalso; omega
  | succ k ih =>
    intro lb S i0 i1 i2 hS hp
    rcases hp with ⟨rfl, hp⟩ | ⟨rfl, hp⟩
    · show Ok (b_X4_ringMark_0 (g_X4_ringMark k) k S p0 i0 i1 i2) _
      unfold b_X4_ringMark_0
      repeat' (first
        | (refine ok_dead ?_; omega)
        | exact ok_some ⟨rfl, by first | trivial | omega⟩
        | exact ih 1 _ _ _ _ hS (Or.inr (⟨rfl, by omega⟩))
        | (refine ok_if (fun hc => ?_) (fun hc => ?_) <;> try simp (disch := omega) only [wIn] at hc))
    · show Ok (b_X4_ringMark_1 (g_X4_ringMark k) k S p0 i0 i1 i2) _
      unfold b_X4_ringMark_1
      repeat' (first
        | (refine ok_dead ?_; omega)
        | exact ok_some ⟨rfl, by first | trivial | omega⟩
        | exact ih 1 _ _ _ _ hS (Or.inr (⟨rfl, by omega⟩))
        | (refine ok_bd2 (tf_X4_ringLength q0 g0 r0 hS (by first | trivial | omega)) (fun _ _ hQ => ?_); obtain ⟨rfl, hQ⟩ := hQ)
        | (refine ok_if (fun hc => ?_) (fun hc => ?_) <;> try simp (disch := omega) only [wIn] at hc))
theorem tf_X4_ringMark {G : xT} {N : Nat} {p0 : Nat} {P0 : List Int → Prop} (q0 : p0 < N) (g0 : G p0 = tA 0 7 P0) (r0 : ∀ L, P0 L → tR 0 6 L) {k : Nat} {S : xS} {i0 : Int} (hS : Hp G N S) (hp : 0 ≤ i0 ∧ i0 ≤ 7 ∧ i0 + 14 ≤ (k : Int)) : Ok (f_X4_ringMark k S p0 i0) (fun r S' => S' = S ∧ True) :=
  tg_X4_ringMark q0 g0 r0 k 0 S i0 0 0 hS (Or.inl ⟨rfl, hp⟩)
theorem tg_X4_boxOf {G : xT} {N : Nat} {p0 : Nat} {P0 : List Int → Prop} (q0 : p0 < N) (g0 : G p0 = tA 0 7 P0) (r0 : ∀ L, P0 L → tR 0 6 L) : ∀ (k lb : Nat) (S : xS) (i0 : Int) (i1 : Int) (i2 : Int), Hp G N S → ((lb = 0 ∧ 0 ≤ i0 ∧ i0 ≤ 7 ∧ i0 + 2 ≤ (k : Int)) ∨ (lb = 1 ∧ 0 ≤ i0 ∧ i0 ≤ 7 ∧ 0 ≤ i2 ∧ i2 ≤ i0 ∧ i0 - i2 + 1 ≤ (k : Int))) → Ok (g_X4_boxOf k lb S p0 i0 i1 i2) (fun r S' => S' = S ∧ (0 ≤ r ∧ r ≤ 6)) := by
  intro k
  induction k with
  | zero => intro lb S i0 i1 i2 hS hp; exfalso; omega
  | succ k ih =>
    intro lb S i0 i1 i2 hS hp
    rcases hp with ⟨rfl, hp⟩ | ⟨rfl, hp⟩
    · show Ok (b_X4_boxOf_0 (g_X4_boxOf k) k S p0 i0 i1 i2) _
      unfold b_X4_boxOf_0
      repeat' (first
        | (refine ok_dead ?_; omega)
        | exact ok_some ⟨rfl, by first | trivial | omega⟩
        | exact ih 1 _ _ _ _ hS (Or.inr (⟨rfl, by omega⟩))
        | refine ok_rdA hS q0 g0 r0 (by omega) (by omega) (by omega) (fun _ _ _ => ?_)
        | (refine ok_if (fun hc => ?_) (fun hc => ?_) <;> try simp (disch := omega) only [wIn] at hc))
    · show Ok (b_X4_boxOf_1 (g_X4_boxOf k) k S p0 i0 i1 i2) _
      unfold b_X4_boxOf_1
      repeat' (first
        | (refine ok_dead ?_; omega)
        | exact ok_some ⟨rfl, by first | trivial | omega⟩
        | exact ih 1 _ _ _ _ hS (Or.inr (⟨rfl, by omega⟩))
        | refine ok_rdA hS q0 g0 r0 (by omega) (by omega) (by omega) (fun _ _ _ => ?_)
        | (refine ok_if (fun hc => ?_) (fun hc => ?_) <;> try simp (disch := omega) only [wIn] at hc))
theorem tf_X4_boxOf {G : xT} {N : Nat} {p0 : Nat} {P0 : List Int → Prop} (q0 : p0 < N) (g0 : G p0 = tA 0 7 P0) (r0 : ∀ L, P0 L → tR 0 6 L) {k : Nat} {S : xS} {i0 : Int} {i1 : Int} (hS : Hp G N S) (hp : 0 ≤ i0 ∧ i0 ≤ 7 ∧ i0 + 2 ≤ (k : Int)) : Ok (f_X4_boxOf k S p0 i0 i1) (fun r S' => S' = S ∧ (0 ≤ r ∧ r ≤ 6)) :=
  tg_X4_boxOf q0 g0 r0 k 0 S i0 i1 0 hS (Or.inl ⟨rfl, hp⟩)
theorem tg_X4_swapsBetween {G : xT} {N : Nat} {p0 : Nat} {p1 : Nat} {P0 : List Int → Prop} (q0 : p0 < N) (g0 : G p0 = tA 0 7 P0) (r0 : ∀ L, P0 L → tR 0 6 L) {P1 : List Int → Prop} (q1 : p1 < N) (g1 : G p1 = tA 0 7 P1) (r1 : ∀ L, P1 L → tR 0 6 L) : ∀ (k lb : Nat) (S : xS) (i0 : Int) (i1 : Int) (i2 : Int) (i3 : Int) (i4 : Int) (i5 : Int), Hp G N S → ((lb = 0 ∧ 0 ≤ i0 ∧ i0 ≤ 7 ∧ 12 * i0 + 12 ≤ (k : Int)) ∨ (lb = 1 ∧ 0 ≤ i0 ∧ i0 ≤ 7 ∧ 0 ≤ i3 ∧ i3 ≤ i0 ∧ 12 * (i0 - i3) + 11 ≤ (k : Int)) ∨ (lb = 2 ∧ 0 ≤ i0 ∧ i0 ≤ 7 ∧ 0 ≤ i3 ∧ i3 < i0 ∧ 0 ≤ i4 ∧ i4 ≤ 6 ∧ 0 ≤ i5 ∧ i5 ≤ i0 ∧ i0 - i5 + 13 + 12 * (i0 - i3 - 1) ≤ (k : Int)) ∨ (lb = 3 ∧ 0 ≤ i0 ∧ i0 ≤ 7 ∧ 0 ≤ i3 ∧ i3 < i0 ∧ 12 + 12 * (i0 - i3 - 1) ≤ (k : Int))) → Ok (g_X4_swapsBetween k lb S p0 p1 i0 i1 i2 i3 i4 i5) (fun r S' => S' = S ∧ True) := by
  intro k
  induction k with
  | zero => intro lb S i0 i1 i2 i3 i4 i5 hS hp; exfalso; omega
  | succ k ih =>
    intro lb S i0 i1 i2 i3 i4 i5 hS hp
    rcases hp with ⟨rfl, hp⟩ | ⟨rfl, hp⟩ | ⟨rfl, hp⟩ | ⟨rfl, hp⟩
    · show Ok (b_X4_swapsBetween_0 (g_X4_swapsBetween k) k S p0 p1 i0 i1 i2 i3 i4 i5) _
      unfold b_X4_swapsBetween_0
      repeat' (first
        | (refine ok_dead ?_; omega)
        | exact ok_some ⟨rfl, by first | trivial | omega⟩
        | exact ih 1 _ _ _ _ _ _ _ hS (Or.inr (Or.inl ⟨rfl, by omega⟩))
        | refine ok_rdA hS q0 g0 r0 (by omega) (by omega) (by omega) (fun _ _ _ => ?_)
        | refine ok_rdA hS q1 g1 r1 (by omega) (by omega) (by omega) (fun _ _ _ => ?_)
        | (refine ok_if (fun hc => ?_) (fun hc => ?_) <;> try simp (disch := omega) only [wIn] at hc))
    · show Ok (b_X4_swapsBetween_1 (g_X4_swapsBetween k) k S p0 p1 i0 i1 i2 i3 i4 i5) _
      unfold b_X4_swapsBetween_1
      repeat' (first
        | (refine ok_dead ?_; omega)
        | exact ok_some ⟨rfl, by first | trivial | omega⟩
        | exact ih 2 _ _ _ _ _ _ _ hS (Or.inr (Or.inr (Or.inl ⟨rfl, by omega⟩)))
        | exact ih 3 _ _ _ _ _ _ _ hS (Or.inr (Or.inr (Or.inr (⟨rfl, by omega⟩))))
        | refine ok_rdA hS q0 g0 r0 (by omega) (by omega) (by omega) (fun _ _ _ => ?_)
        | refine ok_rdA hS q1 g1 r1 (by omega) (by omega) (by omega) (fun _ _ _ => ?_)
        | (refine ok_if (fun hc => ?_) (fun hc => ?_) <;> try simp (disch := omega) only [wIn] at hc))
    · show Ok (b_X4_swapsBetween_2 (g_X4_swapsBetween k) k S p0 p1 i0 i1 i2 i3 i4 i5) _
      unfold b_X4_swapsBetween_2
      repeat' (first
        | (refine ok_dead ?_; omega)
        | exact ok_some ⟨rfl, by first | trivial | omega⟩
        | exact ih 2 _ _ _ _ _ _ _ hS (Or.inr (Or.inr (Or.inl ⟨rfl, by omega⟩)))
        | exact ih 3 _ _ _ _ _ _ _ hS (Or.inr (Or.inr (Or.inr (⟨rfl, by omega⟩))))
        | (refine ok_bd2 (tf_X4_boxOf q0 g0 r0 hS (by first | trivial | omega)) (fun _ _ hQ => ?_); obtain ⟨rfl, hQ⟩ := hQ)
        | refine ok_rdA hS q0 g0 r0 (by omega) (by omega) (by omega) (fun _ _ _ => ?_)
        | refine ok_rdA hS q1 g1 r1 (by omega) (by omega) (by omega) (fun _ _ _ => ?_)
        | (refine ok_if (fun hc => ?_) (fun hc => ?_) <;> try simp (disch := omega) only [wIn] at hc))
    · show Ok (b_X4_swapsBetween_3 (g_X4_swapsBetween k) k S p0 p1 i0 i1 i2 i3 i4 i5) _
      unfold b_X4_swapsBetween_3
      repeat' (first
        | (refine ok_dead ?_; omega)
        | exact ok_some ⟨rfl, by first | trivial | omega⟩
        | exact ih 1 _ _ _ _ _ _ _ hS (Or.inr (Or.inl ⟨rfl, by omega⟩))
        | refine ok_rdA hS q0 g0 r0 (by omega) (by omega) (by omega) (fun _ _ _ => ?_)
        | refine ok_rdA hS q1 g1 r1 (by omega) (by omega) (by omega) (fun _ _ _ => ?_)
        | (refine ok_if (fun hc => ?_) (fun hc => ?_) <;> try simp (disch := omega) only [wIn] at hc))
theorem tf_X4_swapsBetween {G : xT} {N : Nat} {p0 : Nat} {p1 : Nat} {P0 : List Int → Prop} (q0 : p0 < N) (g0 : G p0 = tA 0 7 P0) (r0 : ∀ L, P0 L → tR 0 6 L) {P1 : List Int → Prop} (q1 : p1 < N) (g1 : G p1 = tA 0 7 P1) (r1 : ∀ L, P1 L → tR 0 6 L) {k : Nat} {S : xS} {i0 : Int} (hS : Hp G N S) (hp : 0 ≤ i0 ∧ i0 ≤ 7 ∧ 12 * i0 + 12 ≤ (k : Int)) : Ok (f_X4_swapsBetween k S p0 p1 i0) (fun r S' => S' = S ∧ True) :=
  tg_X4_swapsBetween q0 g0 r0 q1 g1 r1 k 0 S i0 0 0 0 0 0 hS (Or.inl ⟨rfl, hp⟩)
theorem tg_X4_areExchangeable {G : xT} {N : Nat} {p0 : Nat} {p1 : Nat} {P0 : List Int → Prop} (q0 : p0 < N) (g0 : G p0 = tA 0 7 P0) (r0 : ∀ L, P0 L → tR 0 6 L) {P1 : List Int → Prop} (q1 : p1 < N) (g1 : G p1 = tA 0 7 P1) (r1 : ∀ L, P1 L → tR 0 6 L) : ∀ (k lb : Nat) (S : xS) (i0 : Int) (i1 : Int), Hp G N S → ((lb = 0 ∧ 0 ≤ i0 ∧ i0 ≤ 7 ∧ i0 + 2 ≤ (k : Int)) ∨ (lb = 1 ∧ 0 ≤ i0 ∧ i0 ≤ 7 ∧ 0 ≤ i1 ∧ i1 ≤ i0 ∧ i0 - i1 + 1 ≤ (k : Int))) → Ok (g_X4_areExchangeable k lb S p0 p1 i0 i1) (fun r S' => S' = S ∧ True) := by
  intro k
  induction k with
  | zero => intro lb S i0 i1 hS hp; exfalso; omega
  | succ k ih =>
    intro lb S i0 i1 hS hp
    rcases hp with ⟨rfl, hp⟩ | ⟨rfl, hp⟩
    · show Ok (b_X4_areExchangeable_0 (g_X4_areExchangeable k) k S p0 p1 i0 i1) _
      unfold b_X4_areExchangeable_0
      repeat' (first
        | (refine ok_dead ?_; omega)
        | exact ok_some ⟨rfl, by first | trivial | omega⟩
        | exact ih 1 _ _ _ hS (Or.inr (⟨rfl, by omega⟩))
        | refine ok_rdA hS q0 g0 r0 (by omega) (by omega) (by omega) (fun _ _ _ => ?_)
        | refine ok_rdA hS q1 g1 r1 (by omega) (by omega) (by omega) (fun _ _ _ => ?_)
        | (refine ok_if (fun hc => ?_) (fun hc => ?_) <;> try simp (disch := omega) only [wIn] at hc))
    · show Ok (b_X4_areExchangeable_1 (g_X4_areExchangeable k) k S p0 p1 i0 i1) _
      unfold b_X4_areExchangeable_1
      repeat' (first
        | (refine ok_dead ?_; omega)
        | exact ok_some ⟨rfl, by first | trivial | omega⟩
        | exact ih 1 _ _ _ hS (Or.inr (⟨rfl, by omega⟩))
        | refine ok_rdA hS q0 g0 r0 (by omega) (by omega) (by omega) (fun _ _ _ => ?_)
        | refine ok_rdA hS q1 g1 r1 (by omega) (by omega) (by omega) (fun _ _ _ => ?_)
        | (refine ok_if (fun hc => ?_) (fun hc => ?_) <;> try simp (disch := omega) only [wIn] at hc))
theorem tf_X4_areExchangeable {G : xT} {N : Nat} {p0 : Nat} {p1 : Nat} {P0 : List Int → Prop} (q0 : p0 < N) (g0 : G p0 = tA 0 7 P0) (r0 : ∀ L, P0 L → tR 0 6 L) {P1 : List Int → Prop} (q1 : p1 < N) (g1 : G p1 = tA 0 7 P1) (r1 : ∀ L, P1 L → tR 0 6 L) {k : Nat} {S : xS} {i0 : Int} (hS : Hp G N S) (hp : 0 ≤ i0 ∧ i0 ≤ 7 ∧ i0 + 2 ≤ (k : Int)) : Ok (f_X4_areExchangeable k S p0 p1 i0) (fun r S' => S' = S ∧ True) :=
  tg_X4_areExchangeable q0 g0 r0 q1 g1 r1 k 0 S i0 0 hS (Or.inl ⟨rfl, hp⟩)
theorem tg_X4_isRoot {G : xT} {N : Nat} {p0 : Nat} {p1 : Nat} {P0 : List Int → Prop} (q0 : p0 < N) (g0 : G p0 = tA 0 7 P0) (r0 : ∀ L, P0 L → tR 0 6 L) {P1 : List Int → Prop} (q1 : p1 < N) (g1 : G p1 = tA 0 7 P1) (r1 : ∀ L, P1 L → tR 0 6 L) : ∀ (k lb : Nat) (S : xS) (i0 : Int) (i1 : Int) (i2 : Int), Hp G N S → ((lb = 0 ∧ 0 ≤ i0 ∧ i0 ≤ 9 ∧ 0 ≤ i1 ∧ i1 ≤ 7 ∧ i1 + 14 ≤ (k : Int)) ∨ (lb = 1 ∧ 0 ≤ i0 ∧ i0 ≤ 9 ∧ 0 ≤ i1 ∧ i1 ≤ 7 ∧ 0 ≤ i2 ∧ i2 ≤ i1 ∧ i1 - i2 + 13 ≤ (k : Int))) → Ok (g_X4_isRoot k lb S p0 p1 i0 i1 i2) (fun r S' => S' = S ∧ True) := by
  intro k
  induction k with
  | zero => intro lb S i0 i1 i2 hS hp; exfalso; omega
  | succ k ih =>
    intro lb S i0 i1 i2 hS hp
    rcases hp with ⟨rfl, hp⟩ | ⟨rfl, hp⟩
    · show Ok (b_X4_isRoot_0 (g_X4_isRoot k) k S p0 p1 i0 i1 i2) _
      unfold b_X4_isRoot_0
      repeat' (first
        | (refine ok_dead ?_; omega)
        | exact ok_some ⟨rfl, by first | trivial | omega⟩
        | exact ih 1 _ _ _ _ hS (Or.inr (⟨rfl, by omega⟩))
        | refine ok_rdA hS q0 g0 r0 (by omega) (by omega) (by omega) (fun _ _ _ => ?_)
        | refine ok_rdA hS q1 g1 r1 (by omega) (by omega) (by omega) (fun _ _ _ => ?_)
        | (refine ok_if (fun hc => ?_) (fun hc => ?_) <;> try simp (disch := omega) only [wIn] at hc))
    · show Ok (b_X4_isRoot_1 (g_X4_isRoot k) k S p0 p1 i0 i1 i2) _
      unfold b_X4_isRoot_1
      repeat' (first
        | (refine ok_dead ?_; omega)
        | exact ok_some ⟨rfl, by first | trivial | omega⟩
        | exact ih 1 _ _ _ _ hS (Or.inr (⟨rfl, by omega⟩))
        | (refine ok_bd2 (tf_X4_stepsFrom q0 g0 r0 hS (by first | trivial | omega)) (fun _ _ hQ => ?_); obtain ⟨rfl, hQ⟩ := hQ)
        | refine ok_rdA hS q0 g0 r0 (by omega) (by omega) (by omega) (fun _ _ _ => ?_)
        | refine ok_rdA hS q1 g1 r1 (by omega) (by omega) (by omega) (fun _ _ _ => ?_)
        | (refine ok_if (fun hc => ?_) (fun hc => ?_) <;> try simp (disch := omega) only [wIn] at hc))
theorem tf_X4_isRoot {G : xT} {N : Nat} {p0 : Nat} {p1 : Nat} {P0 : List Int → Prop} (q0 : p0 < N) (g0 : G p0 = tA 0 7 P0) (r0 : ∀ L, P0 L → tR 0 6 L) {P1 : List Int → Prop} (q1 : p1 < N) (g1 : G p1 = tA 0 7 P1) (r1 : ∀ L, P1 L → tR 0 6 L) {k : Nat} {S : xS} {i0 : Int} {i1 : Int} (hS : Hp G N S) (hp : 0 ≤ i0 ∧ i0 ≤ 9 ∧ 0 ≤ i1 ∧ i1 ≤ 7 ∧ i1 + 14 ≤ (k : Int)) : Ok (f_X4_isRoot k S p0 i0 p1 i1) (fun r S' => S' = S ∧ True) :=
  tg_X4_isRoot q0 g0 r0 q1 g1 r1 k 0 S i0 i1 0 hS (Or.inl ⟨rfl, hp⟩)
theorem tg_X4_setMoved {G : xT} {N : Nat} {p0 : Nat} {p1 : Nat} {p2 : Nat} {P0 : List Int → Prop} (q0 : p0 < N) (g0 : G p0 = tA 0 7 P0) (r0 : ∀ L, P0 L → tR 0 6 L) (w0 : ∀ (L : List Int) (i : Nat) (x : Int), 0 ≤ x ∧ x ≤ 6 → P0 L → P0 (L.set i x)) {P1 : List Int → Prop} (q1 : p1 < N) (g1 : G p1 = tA 0 7 P1) (r1 : ∀ L, P1 L → tR 0 6 L) {P2 : List Int → Prop} (q2 : p2 < N) (g2 : G p2 = tA 0 7 P2) (r2 : ∀ L, P2 L → tR 0 6 L) : ∀ (k lb : Nat) (S : xS) (i0 : Int) (i1 : Int), Hp G N S → ((lb = 0 ∧ 0 ≤ i0 ∧ i0 ≤ 7 ∧ i0 + 2 ≤ (k : Int)) ∨ (lb = 1 ∧ 0 ≤ i0 ∧ i0 ≤ 7 ∧ 0 ≤ i1 ∧ i1 ≤ i0 ∧ i0 - i1 + 1 ≤ (k : Int))) → Ok (g_X4_setMoved k lb S p0 p1 p2 i0 i1) (fun r S' => Hp G N S' ∧ True) := by
  intro k
  induction k with
  | zero => intro lb S i0 i1 hS hp; exfalso; omega
  | succ k ih =>
    intro lb S i0 i1 hS hp
    rcases hp with ⟨rfl, hp⟩ | ⟨rfl, hp⟩
    · show Ok (b_X4_setMoved_0 (g_X4_setMoved k) k S p0 p1 p2 i0 i1) _
      unfold b_X4_setMoved_0
      repeat' (first
        | (refine ok_dead ?_; omega)
        | exact ok_some ⟨hS, by first | trivial | omega⟩
        | exact ih 1 _ _ _ hS (Or.inr (⟨rfl, by omega⟩))
        | refine ok_rdA hS q1 g1 r1 (by omega) (by omega) (by omega) (fun _ _ _ => ?_)
        | refine ok_rdA hS q2 g2 r2 (by omega) (by omega) (by omega) (fun _ _ _ => ?_)
        | refine ok_wrA hS q0 g0 (by omega) (by omega) (by omega) (fun L _ hL => w0 L _ _ (by omega) hL) (fun _ hS => ?_)
        | (refine ok_if (fun hc => ?_) (fun hc => ?_) <;> try simp (disch := omega) only [wIn] at hc))
    · show Ok (b_X4_setMoved_1 (g_X4_setMoved k) k S p0 p1 p2 i0 i1) _
      unfold b_X4_setMoved_1
      repeat' (first
        | (refine ok_dead ?_; omega)
        | exact ok_some ⟨hS, by first | trivial | omega⟩
        | exact ih 1 _ _ _ hS (Or.inr (⟨rfl, by omega⟩))
        | refine ok_rdA hS q1 g1 r1 (by omega) (by omega) (by omega) (fun _ _ _ => ?_)
        | refine ok_rdA hS q2 g2 r2 (by omega) (by omega) (by omega) (fun _ _ _ => ?_)
        | refine ok_wrA hS q0 g0 (by omega) (by omega) (by omega) (fun L _ hL => w0 L _ _ (by omega) hL) (fun _ hS => ?_)
        | (refine ok_if (fun hc => ?_) (fun hc => ?_) <;> try simp (disch := omega) only [wIn] at hc))
theorem tf_X4_setMoved {G : xT} {N : Nat} {p0 : Nat} {p1 : Nat} {p2 : Nat} {P0 : List Int → Prop} (q0 : p0 < N) (g0 : G p0 = tA 0 7 P0) (r0 : ∀ L, P0 L → tR 0 6 L) (w0 : ∀ (L : List Int) (i : Nat) (x : Int), 0 ≤ x ∧ x ≤ 6 → P0 L → P0 (L.set i x)) {P1 : List Int → Prop} (q1 : p1 < N) (g1 : G p1 = tA 0 7 P1) (r1 : ∀ L, P1 L → tR 0 6 L) {P2 : List Int → Prop} (q2 : p2 < N) (g2 : G p2 = tA 0 7 P2) (r2 : ∀ L, P2 L → tR 0 6 L) {k : Nat} {S : xS} {i0 : Int} (hS : Hp G N S) (hp : 0 ≤ i0 ∧ i0 ≤ 7 ∧ i0 + 2 ≤ (k : Int)) : Ok (f_X4_setMoved k S p0 p1 p2 i0) (fun r S' => Hp G N S' ∧ True) :=
  tg_X4_setMoved q0 g0 r0 w0 q1 g1 r1 q2 g2 r2 k 0 S i0 0 hS (Or.inl ⟨rfl, hp⟩)
