/-! the class' places, and what they hold -/
theorem up_up {G : xT} {q : Nat} {P P' : xC → Prop} : up (up G q P) q P' = up G q P' := by
  funext q'
  by_cases h : q' = q
  · subst h
    rw [up_self, up_self]
  · rw [up_ne h, up_ne h, up_ne h]
theorem tO_wk {ci k : Nat} {Ps : List (xV → Prop)} {P P' : xV → Prop} {c : xC} (hk : Ps[k]? = some P) (h : ∀ v, P' v → P v) (hc : tO ci (Ps.set k P') c) : tO ci Ps c := by
  obtain ⟨fs, rfl, hl, hF⟩ := hc
  rw [List.length_set] at hl
  refine ⟨fs, rfl, hl, fun k' P'' hP v hv => ?_⟩
  by_cases hkk : k = k'
  · subst hkk
    rw [hk] at hP
    cases hP
    exact h v (hF k P' (by rw [List.getElem?_set_self (List.getElem?_eq_some_iff.mp hk).1]) v hv)
  · exact hF k' P'' (by rw [List.getElem?_set_ne hkk]; exact hP) v hv
theorem fI_wk {a b lo hi : Int} (h : lo ≤ a ∧ b ≤ hi) (v : xV) (hv : fI a b v) : fI lo hi v := by
  obtain ⟨z, e, h1, h2⟩ := hv
  exact ⟨z, e, by omega, by omega⟩
def fX (w : xV) (v : xV) : Prop := v = w
/-- a way of seven, each number once -/
def pm (L : List Int) : Prop := (∀ i j : Nat, i < 7 → j < 7 → L[i]? = L[j]? → i = j) ∧ (∀ v : Int, 0 ≤ v ∧ v ≤ 6 → ∃ i : Nat, i < 7 ∧ L[i]? = some v)
def sl (n : Int) (L : List Int) : Prop := tR 0 6 L ∧ (n = 7 → pm L)
theorem sl_R {n : Int} (L : List Int) (h : sl n L) : tR 0 6 L := h.1
def roomT (n : Int) (q3 q4 q5 q7 q8 q10 q12 q13 : Nat) : xC → Prop := tO 1 [fI n n, fZ, fI 0 6, fP q3, fP q4, fP q5, fI 0 8, fP q7, fP q8, fI 0 4, fP q10, fI 0 10, fP q12, fP q13]
def tQ (l : List (Option Nat)) (c : xC) : Prop := c = .inr (.inl (3, l))
def T5 (n nd tl : Int) (rp : Option Nat) (im : List (Option Nat)) (E : xT) : xT
  | 0 => tO 4 [fP 1, fP 10, fP 19, fP 20, fP 22, fP 24, fP 25, fX (.inr (.inr rp)), fL, fL, fZ, fZ, fZ]
  | 1 => roomT n 2 3 4 5 6 7 8 9
  | 2 => tA 0 7 (sl n)
  | 3 => tA 0 7 tW
  | 4 => tA 0 7 tW
  | 5 => tA 0 8 (tR 0 6)
  | 6 => tA 0 8 tW
  | 7 => tA 0 4 (tR 0 5039)
  | 8 => tA 0 10 (tR 0 5039)
  | 9 => tA 0 7 (tR 0 6)
  | 10 => roomT nd 11 12 13 14 15 16 17 18
  | 11 => tA 0 7 (sl nd)
  | 12 => tA 0 7 tW
  | 13 => tA 0 7 tW
  | 14 => tA 0 8 (tR 0 6)
  | 15 => tA 0 8 tW
  | 16 => tA 0 4 (tR 0 5039)
  | 17 => tA 0 10 (tR 0 5039)
  | 18 => tA 0 7 (tR 0 6)
  | 19 => tQ im
  | 20 => tO 3 [fP 21, fI tl tl, fI 0 150, fZ, fI 0 150, fI 0 9999]
  | 21 => tA 1 150 (tR (-128) 127)
  | 22 => tO 2 [fP 23, fI 0 7, fI 0 1, fZ]
  | 23 => tA 0 7 tW
  | 24 => tA 0 7 (tR 0 6)
  | 25 => tA 0 49 tW
  | q => E q
def srch (c : Int) : xC → Prop := tO 2 [fP 23, fI c c, fI 0 1, fZ]
theorem xMax_b {a b : Int} (ha : -2147483648 ≤ a ∧ a < 2147483648) (hb : -2147483648 ≤ b ∧ b < 2147483648) : xMax a b = if a < b then b else a := by
  unfold xMax
  rw [wI_id ha.1 ha.2, wI_id hb.1 hb.2]
theorem t_ev {n c : Int} (hn : 2 ≤ n ∧ n ≤ 7) (hc : 0 ≤ c ∧ c < n) (h : n ≤ 2 * c) : 0 ≤ (2 * (c - ((wI (n + 1)).tdiv (wI 2)))) + 1 ∧ (2 * (c - ((wI (n + 1)).tdiv (wI 2)))) + 1 ≤ 6 := by
  rw [wIn (n := n + 1) (by omega) (by omega), wIn (n := 2) (by omega) (by omega), Int.tdiv_eq_ediv_of_nonneg (by omega)]
  omega
theorem t_md {a n : Int} (ha : 0 ≤ a ∧ a < 100) (hn : 2 ≤ n ∧ n ≤ 7) : 0 ≤ (wI a).tmod (wI n) ∧ (wI a).tmod (wI n) < n := by
  rw [wIn (n := a) (by omega) (by omega), wIn (n := n) (by omega) (by omega)]
  exact ⟨Int.tmod_nonneg _ (by omega), Int.tmod_lt_of_pos _ (by omega)⟩
theorem tg_X2_closedFrom {G : xT} {N : Nat} {p0 : Nat} {Ps : List (xV → Prop)} {c : Int} (qs : p0 < N) (gs : G p0 = tO 2 Ps) (k1 : Ps[1]? = some (fI c c)) (k3 : Ps[3]? = some fZ) : ∀ (k lb : Nat) (S : xS) (i0 : Int) (i1 : Int) (i2 : Int), Hp G N S → ((lb = 0 ∧ 0 ≤ i0 ∧ i0 < i1 ∧ i1 ≤ 7 ∧ i1 + 3 ≤ (k : Int)) ∨ (lb = 1 ∧ 0 ≤ i1 ∧ i1 < i0 ∧ i0 ≤ 7 ∧ 0 ≤ i2 ∧ i2 ≤ i0 ∧ i0 - i2 + 2 ≤ (k : Int))) → Ok (g_X2_closedFrom k lb S p0 i0 i1 i2) (fun r S' => S' = S ∧ (0 ≤ r ∧ r ≤ 6)) := by
  intro k
  induction k with
  | zero => intro lb S i0 i1 i2 hS hp; exfalso; omega
  | succ k ih =>
    intro lb S i0 i1 i2 hS hp
    rcases hp with ⟨rfl, hp⟩ | ⟨rfl, hp⟩
    · show Ok (b_X2_closedFrom_0 (g_X2_closedFrom k) k S p0 i0 i1 i2) _
      unfold b_X2_closedFrom_0
      repeat' (first
        | (refine ok_dead ?_; omega)
        | exact ok_some ⟨rfl, by first | trivial | omega⟩
        | exact ih 1 _ _ _ _ hS (Or.inr (⟨rfl, by omega⟩))
        | refine ok_is hS qs gs ?_
        | refine ok_rdFi hS qs gs k1 (fun _ _ _ => ?_)
        | refine ok_rdFz hS qs gs k3 (fun _ => ?_)
        | (refine ok_if (fun hc => ?_) (fun hc => ?_) <;> try simp (disch := omega) only [wIn] at hc))
    · show Ok (b_X2_closedFrom_1 (g_X2_closedFrom k) k S p0 i0 i1 i2) _
      unfold b_X2_closedFrom_1
      repeat' (first
        | (refine ok_dead ?_; omega)
        | exact ok_some ⟨rfl, by first | trivial | omega⟩
        | exact ih 1 _ _ _ _ hS (Or.inr (⟨rfl, by omega⟩))
        | (refine ok_tmod (by first | omega | (simp (disch := omega) only [wIn]; omega)) (by first | omega | (simp (disch := omega) only [wIn]; omega)) (fun _ _ hm => ?_); try simp (disch := omega) only [wIn] at hm)
        | refine ok_is hS qs gs ?_
        | refine ok_rdFi hS qs gs k1 (fun _ _ _ => ?_)
        | refine ok_rdFz hS qs gs k3 (fun _ => ?_)
        | (refine ok_if (fun hc => ?_) (fun hc => ?_) <;> try simp (disch := omega) only [wIn] at hc))
theorem tf_X2_closedFrom {G : xT} {N : Nat} {p0 : Nat} {Ps : List (xV → Prop)} {c : Int} (qs : p0 < N) (gs : G p0 = tO 2 Ps) (k1 : Ps[1]? = some (fI c c)) (k3 : Ps[3]? = some fZ) {k : Nat} {S : xS} {i0 : Int} {i1 : Int} (hS : Hp G N S) (hp : 0 ≤ i0 ∧ i0 < i1 ∧ i1 ≤ 7 ∧ i1 + 3 ≤ (k : Int)) : Ok (f_X2_closedFrom k S p0 i0 i1) (fun r S' => S' = S ∧ (0 ≤ r ∧ r ≤ 6)) :=
  tg_X2_closedFrom qs gs k1 k3 k 0 S i0 i1 0 hS (Or.inl ⟨rfl, hp⟩)
theorem ok_cf {G : xT} {N : Nat} {p0 : Nat} {Ps : List (xV → Prop)} {c : Int} (qs : p0 < N) (gs : G p0 = tO 2 Ps) (k1 : Ps[1]? = some (fI c c)) (k3 : Ps[3]? = some fZ) {k : Nat} {S : xS} {a m : Int} {Q : Int → xS → Prop} {f : Int → xS → Option (Int × xS)} (hS : Hp G N S) (ha : 0 ≤ a ∧ a < 100) (hm : 2 ≤ m ∧ m ≤ 7) (hk : 10 ≤ (k : Int)) (hf : ∀ r, 0 ≤ r → r ≤ 6 → Ok (f r S) Q) : Ok (bd2 (f_X2_closedFrom k S p0 ((wI a).tmod (wI m)) m) f) Q := by
  have h := t_md ha hm
  refine ok_bd2 (tf_X2_closedFrom qs gs k1 k3 hS (by omega)) (fun r S' hQ => ?_)
  obtain ⟨rfl, hQ⟩ := hQ
  exact hf r hQ.1 hQ.2
theorem tf_X2_nextBox {G : xT} {N : Nat} {p0 : Nat} {p1 : Nat} {Ps : List (xV → Prop)} {c : Int} (qs : p0 < N) (gs : G p0 = tO 2 Ps) (k1 : Ps[1]? = some (fI c c)) (k3 : Ps[3]? = some fZ) {Pr : List (xV → Prop)} {n : Int} (qr : p1 < N) (gr : G p1 = tO 1 Pr) (j0 : Pr[0]? = some (fI n n)) (j2 : Pr[2]? = some (fI 0 6)) {k : Nat} {S : xS} {i0 : Int} {i1 : Int} {i2 : Int} (hS : Hp G N S) (hp : 2 ≤ n ∧ n ≤ 7 ∧ 0 ≤ c ∧ c < n ∧ 0 ≤ i1 ∧ i1 ≤ 6 ∧ 0 ≤ i2 ∧ i2 ≤ 6 ∧ 10 ≤ (k : Int)) : Ok (f_X2_nextBox k S p0 p1 i0 i1 i2) (fun r S' => S' = S ∧ (0 ≤ r ∧ r ≤ 6)) := by
  unfold f_X2_nextBox
  repeat' (first
    | (refine ok_dead ?_; omega)
    | exact ok_some ⟨rfl, by first | trivial | omega⟩
    | (refine ok_bd2 (tf_X2_closedFrom qs gs k1 k3 hS (by first | trivial | omega)) (fun _ _ hQ => ?_); obtain ⟨rfl, hQ⟩ := hQ)
    | refine ok_cf qs gs k1 k3 hS (by first | omega | (rw [xMax_b (by omega) (by omega)]; split <;> omega)) (by omega) (by omega) (fun _ _ _ => ?_)
    | refine ok_rdFi hS qr gr j0 (fun _ _ _ => ?_)
    | refine ok_rdFi hS qr gr j2 (fun _ _ _ => ?_)
    | refine ok_is hS qs gs ?_
    | refine ok_rdFi hS qs gs k1 (fun _ _ _ => ?_)
    | refine ok_rdFz hS qs gs k3 (fun _ => ?_)
    | exact ok_some ⟨rfl, t_ev (by omega) (by omega) (by omega)⟩
    | (refine ok_if (fun hc => ?_) (fun hc => ?_) <;> try simp (disch := omega) only [wIn] at hc))
