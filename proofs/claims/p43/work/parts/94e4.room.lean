variable {n nd tl : Int} {rp : Option Nat} {im : List (Option Nat)} {E : xT} {N : Nat}
theorem ok_rdFx {G : xT} {N : Nat} {S : xS} {p ci k : Nat} {Ps : List (xV → Prop)} {a : Int} {Q : Int → xS → Prop} {f : Int → Option (Int × xS)} (h : Hp G N S) (hp : p < N) (hG : G p = tO ci Ps) (hk : Ps[k]? = some (fI a a)) (hf : Ok (f a) Q) : Ok ((rdFi ci k S p).bind f) Q := by
  refine ok_rdFi h hp hG hk (fun v h1 h2 => ?_)
  obtain rfl : v = a := by omega
  exact hf
theorem tf_X1_rankNow (hN : 26 ≤ N) (hn : 2 ≤ n ∧ n ≤ 7) {k : Nat} {S : xS} (hS : Hp (T5 n nd tl rp im E) N S) (hp : 12 ≤ (k : Int)) : Ok (f_X1_rankNow k S 1) (fun r S' => S' = S ∧ (0 ≤ r ∧ r ≤ 5039)) := by
  unfold f_X1_rankNow
  refine ok_rdFp hS (by omega) rfl rfl ?_
  refine ok_rdFx hS (by omega) rfl rfl ?_
  obtain ⟨c, e, hc⟩ := hp_get hS (show 2 < N by omega)
  obtain ⟨L, rfl, hL, hs⟩ := (show tA 0 7 (sl n) c from hc)
  obtain ⟨r, er, hr⟩ := rk_all e hL hs (by omega) (k := k) (by omega)
  exact ⟨r, S, by rw [bd2_some er], rfl, hr⟩
theorem tR_cp {lo hi : Int} (L M : List Int) (a b c : Nat) (hL : tR lo hi L) (hM : tR lo hi M) : tR lo hi (M.take b ++ (L.drop a).take c ++ M.drop (b + c)) := fun x hx => (cpy_mem hx).elim (hL x) (hM x)
theorem tg_X1_keepPast (hN : 26 ≤ N) (hn : 2 ≤ n ∧ n ≤ 7) {k : Nat} {S : xS} {v : Int} (hS : Hp (T5 n nd tl rp im E) N S) (hv : 0 ≤ v ∧ v ≤ 9) (e : rdFi 1 11 S 1 = some v) (hk : 13 ≤ (k : Int)) : Ok (g_X1_keepPast k 1 S 1) (fun _ S' => Hp (T5 n nd tl rp im E) N S' ∧ True) := by
  obtain ⟨k, rfl⟩ : ∃ k', k = k' + 1 := ⟨k - 1, by omega⟩
  show Ok (b_X1_keepPast_1 (g_X1_keepPast k) k S 1) _
  unfold b_X1_keepPast_1
  refine ok_rdFp hS (by omega) rfl rfl ?_
  refine ok_bind e ?_
  refine ok_is hS (by omega) rfl ?_
  refine ok_bd2 (tf_X1_rankNow hN hn hS (by omega)) (fun r S' hQ => ?_)
  obtain ⟨rfl, hQ⟩ := hQ
  refine ok_wrAE hS (by omega) rfl (by omega) (by omega) (by omega) (fun L _ hL => tR_set (by omega) L hL) (fun _ hS hF => ?_)
  refine ok_bindE (hF _ _ _ _ e) (fun _ => ?_)
  refine ok_wrFE hS (by omega) rfl rfl (by omega) (fun _ hS _ => ?_)
  exact ok_some ⟨hS, trivial⟩
theorem tf_X1_keepPast (hN : 26 ≤ N) (hn : 2 ≤ n ∧ n ≤ 7) {k : Nat} {S : xS} (hS : Hp (T5 n nd tl rp im E) N S) (hk : 14 ≤ (k : Int)) : Ok (f_X1_keepPast k S 1) (fun _ S' => Hp (T5 n nd tl rp im E) N S' ∧ True) := by
  obtain ⟨k, rfl⟩ : ∃ k', k = k' + 1 := ⟨k - 1, by omega⟩
  show Ok (b_X1_keepPast_0 (g_X1_keepPast k) k S 1) _
  unfold b_X1_keepPast_0
  refine ok_rdFiE hS (by omega) rfl rfl (fun x _ _ e => ?_)
  refine ok_if (fun hc => ?_) (fun hc => ?_)
  · simp (disch := omega) only [wIn] at hc
    exact tg_X1_keepPast hN hn hS (by omega) e (by omega)
  · refine ok_rdFp hS (by omega) rfl rfl ?_
    refine ok_rdFp hS (by omega) rfl rfl ?_
    refine ok_cpy hS (by omega) (by omega) rfl rfl (by omega) (fun L M _ _ hL hM => tR_cp L M _ _ _ hL hM) (fun _ hS _ => ?_)
    refine ok_wrFE hS (by omega) rfl rfl (by omega) (fun _ hS e => ?_)
    exact tg_X1_keepPast hN hn hS (by omega) e (by omega)
/-- a rank laid on scratch: a way -/
theorem ok_setRankU {G : xT} {N : Nat} {q : Nat} {n : Int} (hq : q < N) (hG : G q = tA 0 7 (tR 0 6)) (hn : 2 ≤ n ∧ n ≤ 7) {k : Nat} {S : xS} {r : Int} (hS : Hp G N S) (hr : 0 ≤ r ∧ r ≤ 5039) (hk : 40 ≤ (k : Int)) : Ok (f_X4_setToRank k S q n r) (fun _ S' => Hp (up G q (tA 0 7 (sl n))) N S' ∧ True) := by
  by_cases h7 : n = 7
  · subst h7
    obtain ⟨c, e, hc⟩ := hp_get hS hq
    rw [hG] at hc
    obtain ⟨L, rfl, hL, hs⟩ := hc
    obtain ⟨k, rfl⟩ : ∃ k', k = k' + 1 := ⟨k - 1, by omega⟩
    obtain ⟨K', e', hK', hr', hp'⟩ := sr_hi (q := q) k S L 127 r 0 e hL hs (by omega) (by omega) (by decide +kernel) ⟨5040, rfl, by omega, by omega⟩
      (fun w hw hz => by
        have := hb127f w.toNat (by omega)
        rw [show ((w.toNat : Nat) : Int) = w by omega] at this
        rw [this] at hz
        cases hz)
      (fun j v hj _ => by omega) (fun i j hi _ _ => by omega) (by omega)
    refine ⟨0, S.set q (.inl (0, K')), ?_, hp_up hS ⟨K', rfl, hK', hr', fun _ => hp'⟩, trivial⟩
    show g_X4_setToRank k 1 S q 7 (xShl 1 7 - 1) r 0 = _
    rw [show xShl 1 7 - 1 = 127 from by decide]
    exact e'
  · refine ok_mono (tf_X4_setToRank hq hG tR_id (fun L i x hx hL => tR_set hx L hL) hS (by omega)) (fun r S' h => ⟨hp_weak h.1 (fun q' c hc => ?_), trivial⟩)
    by_cases hqq : q' = q
    · subst hqq
      rw [up_self]
      rw [hG] at hc
      obtain ⟨L, rfl, hL, hs⟩ := hc
      exact ⟨L, rfl, hL, hs, fun e => absurd e h7⟩
    · rw [up_ne hqq]
      exact hc
theorem sm_hi {p0 p1 p2 : Nat} {L M : List Int} (h1 : p0 ≠ p1) (h2 : p0 ≠ p2) (hL : L.length = 7) (hM : M.length = 7) (hLr : tR 0 6 L) (hMr : tR 0 6 M) (hLp : pm L) (hMp : pm M) : ∀ (k : Nat) (S : xS) (K : List Int) (b : Int), S[p0]? = some (.inl (0, K)) → S[p1]? = some (.inl (0, L)) → S[p2]? = some (.inl (0, M)) → K.length = 7 → tR 0 6 K → 0 ≤ b ∧ b ≤ 7 → (∀ (j : Nat) (x v : Int), (j : Int) < b → M[j]? = some x → L[j]? = some v → K[x.toNat]? = some v) → 7 - b + 1 ≤ (k : Int) → ∃ K', g_X4_setMoved k 1 S p0 p1 p2 7 b = some (0, S.set p0 (.inl (0, K'))) ∧ K'.length = 7 ∧ tR 0 6 K' ∧ pm K' := by
  intro k
  induction k with
  | zero => intro S K b _ _ _ _ _ _ _ _; exfalso; omega
  | succ k ih =>
    intro S K b e0 e1 e2 hK hr hb' hI hk
    have hpl : p0 < S.length := (List.getElem?_eq_some_iff.mp e0).1
    show ∃ K', b_X4_setMoved_1 (g_X4_setMoved k) k S p0 p1 p2 7 b = some (0, S.set p0 (.inl (0, K'))) ∧ K'.length = 7 ∧ tR 0 6 K' ∧ pm K'
    unfold b_X4_setMoved_1
    by_cases hc : 7 ≤ b
    · rw [if_pos (by rw [wIn (n := 7) (by omega) (by omega), wIn (n := b) (by omega) (by omega)]; exact hc)]
      refine ⟨K, ?_, hK, hr, fun i j hi hj e => ?_, fun v hv => ?_⟩
      · have : S.set p0 (.inl (0, K)) = S := by
          obtain ⟨h1, h2⟩ := List.getElem?_eq_some_iff.mp e0
          rw [← h2]
          exact List.set_getElem_self h1
        rw [this]
      · obtain ⟨a, ha, ea⟩ := hMp.2 (i : Int) (by omega)
        obtain ⟨c, hcc, ec⟩ := hMp.2 (j : Int) (by omega)
        have la : L[a]? = some L[a] := List.getElem?_eq_getElem (by omega)
        have lc : L[c]? = some L[c] := List.getElem?_eq_getElem (by omega)
        have ka := hI a _ _ (by omega) ea la
        have kc := hI c _ _ (by omega) ec lc
        rw [show ((i : Int)).toNat = i by omega] at ka
        rw [show ((j : Int)).toNat = j by omega] at kc
        have : a = c := hLp.1 a c ha hcc (by rw [la, lc, ← ka, ← kc, e])
        subst this
        rw [ea] at ec
        have := Option.some.inj ec
        omega
      · obtain ⟨a, ha, ea⟩ := hLp.2 v hv
        have ma : M[a]? = some M[a] := List.getElem?_eq_getElem (by omega)
        have hx := hMr _ (List.getElem_mem (show a < M.length by omega))
        exact ⟨(M[a]).toNat, by omega, hI a _ _ (by omega) ma ea⟩
    · rw [if_neg (by rw [wIn (n := 7) (by omega) (by omega), wIn (n := b) (by omega) (by omega)]; exact hc)]
      have hbM : b.toNat < M.length := by omega
      have hbL : b.toNat < L.length := by omega
      have mb : M[b.toNat]? = some M[b.toNat] := List.getElem?_eq_getElem hbM
      have lb : L[b.toNat]? = some L[b.toNat] := List.getElem?_eq_getElem hbL
      have hx := hMr _ (List.getElem_mem hbM)
      have hv := hLr _ (List.getElem_mem hbL)
      generalize M[b.toNat] = x at mb hx
      generalize L[b.toNat] = v at lb hv
      rw [bind_some' (show rdA 0 S p2 b = some x by rw [rdA_at e2 (by omega) (by omega), mb]), bind_some' (show rdA 0 S p1 b = some v by rw [rdA_at e1 (by omega) (by omega), lb]), bind_some' (wrA_of e0 (by omega) (by omega) (by omega)), nmx_b]
      obtain ⟨K', e', hK', hr', hp'⟩ := ih (S.set p0 (.inl (0, K.set x.toNat v))) (K.set x.toNat v) (b + 1) (List.getElem?_set_self hpl) (by rw [List.getElem?_set_ne h1]; exact e1) (by rw [List.getElem?_set_ne h2]; exact e2) (by rw [List.length_set]; exact hK) (tR_set hv _ hr) (by omega)
        (fun j y w hj hy hw => by
          by_cases hjb : (j : Int) < b
          · have hyr := hMr y (List.mem_of_getElem? hy)
            have hne : x.toNat ≠ y.toNat := by
              intro e
              have hxy : x = y := by omega
              subst hxy
              have := hMp.1 j b.toNat (by omega) (by omega) (by rw [hy, mb])
              omega
            rw [List.getElem?_set_ne hne]
            exact hI j y w hjb hy hw
          · have : j = b.toNat := by omega
            subst this
            rw [mb] at hy
            rw [lb] at hw
            cases hy
            cases hw
            exact List.getElem?_set_self (by omega))
        (by omega)
      exact ⟨K', by rw [e', List.set_set], hK', hr', hp'⟩
/-- a way moved, onto scratch -/
theorem ok_setMovedU {G : xT} {N : Nat} {p0 p1 p2 : Nat} {n : Int} (q0 : p0 < N) (q1 : p1 < N) (q2 : p2 < N) (h1 : p0 ≠ p1) (h2 : p0 ≠ p2) (g0 : G p0 = tA 0 7 (tR 0 6)) (g1 : G p1 = tA 0 7 (sl n)) (g2 : G p2 = tA 0 7 (sl n)) (hn : 2 ≤ n ∧ n ≤ 7) {k : Nat} {S : xS} (hS : Hp G N S) (hk : 12 ≤ (k : Int)) : Ok (f_X4_setMoved k S p0 p1 p2 n) (fun _ S' => Hp (up G p0 (tA 0 7 (sl n))) N S' ∧ True) := by
  by_cases h7 : n = 7
  · subst h7
    obtain ⟨c0, e0, hc0⟩ := hp_get hS q0
    obtain ⟨c1, e1, hc1⟩ := hp_get hS q1
    obtain ⟨c2, e2, hc2⟩ := hp_get hS q2
    rw [g0] at hc0
    rw [g1] at hc1
    rw [g2] at hc2
    obtain ⟨K, rfl, hK, hKr⟩ := hc0
    obtain ⟨L, rfl, hL, hLr⟩ := hc1
    obtain ⟨M, rfl, hM, hMr⟩ := hc2
    obtain ⟨k, rfl⟩ : ∃ k', k = k' + 1 := ⟨k - 1, by omega⟩
    obtain ⟨K', e', hK', hr', hp'⟩ := sm_hi h1 h2 hL hM hLr.1 hMr.1 (hLr.2 rfl) (hMr.2 rfl) k S K 0 e0 e1 e2 hK hKr (by omega) (fun j x v hj _ _ => by omega) (by omega)
    exact ⟨0, _, e', hp_up hS ⟨K', rfl, hK', hr', fun _ => hp'⟩, trivial⟩
  · refine ok_mono (tf_X4_setMoved q0 g0 tR_id (fun L i x hx hL => tR_set hx L hL) q1 g1 sl_R q2 g2 sl_R hS (by omega)) (fun r S' h => ⟨hp_weak h.1 (fun q' c hc => ?_), trivial⟩)
    by_cases hqq : q' = p0
    · subst hqq
      rw [up_self]
      rw [g0] at hc
      obtain ⟨L, rfl, hL, hs⟩ := hc
      exact ⟨L, rfl, hL, hs, fun e => absurd e h7⟩
    · rw [up_ne hqq]
      exact hc
theorem sl_cp {n : Int} (hn : 2 ≤ n ∧ n ≤ 7) (L M : List Int) (hl : L.length = 7) (hm : M.length = 7) (hL : sl n L) (hM : sl n M) : sl n (M.take (0 : Int).toNat ++ (L.drop (0 : Int).toNat).take n.toNat ++ M.drop ((0 : Int).toNat + n.toNat)) := by
  refine ⟨tR_cp L M _ _ _ hL.1 hM.1, fun h7 => ?_⟩
  subst h7
  have e : M.take (0 : Int).toNat ++ (L.drop (0 : Int).toNat).take (7 : Int).toNat ++ M.drop ((0 : Int).toNat + (7 : Int).toNat) = L := by
    show M.take 0 ++ (L.drop 0).take 7 ++ M.drop (0 + 7) = L
    rw [List.take_zero, List.nil_append, List.drop_zero, List.take_of_length_le (by omega), List.drop_eq_nil_of_le (by omega), List.append_nil]
  rw [e]
  exact hL.2 rfl
theorem tf_X1_makeMove (hN : 26 ≤ N) (hn : 2 ≤ n ∧ n ≤ 7) {k : Nat} {S : xS} {i0 : Int} (hS : Hp (T5 n nd tl rp im E) N S) (hi : 0 ≤ i0 ∧ i0 ≤ 3) (hk : 60 ≤ (k : Int)) : Ok (f_X1_makeMove k S 1 i0 24) (fun _ S' => Hp (T5 n nd tl rp im E) N S' ∧ True) := by
  unfold f_X1_makeMove
  refine ok_is hS (by omega) rfl ?_
  refine ok_bd2 (tf_X1_keepPast hN hn hS (by omega)) (fun _ _ hQ => ?_)
  obtain ⟨hS, -⟩ := hQ
  refine ok_rdFx hS (by omega) rfl rfl ?_
  refine ok_rdFp hS (by omega) rfl rfl ?_
  refine ok_rdA hS (by omega) rfl tR_id (by omega) (by omega) (by omega) (fun r hr0 hr1 => ?_)
  refine ok_bd2 (ok_setRankU (q := 24) (by omega) rfl hn hS ⟨hr0, hr1⟩ (by omega)) (fun _ _ hQ => ?_)
  obtain ⟨hS, -⟩ := hQ
  refine ok_rdFp hS (by omega) rfl rfl ?_
  refine ok_rdFp hS (by omega) rfl rfl ?_
  refine ok_rdFx hS (by omega) rfl rfl ?_
  refine ok_bd2 (ok_setMovedU (p0 := 9) (p1 := 2) (p2 := 24) (by omega) (by omega) (by omega) (by decide) (by decide) rfl rfl rfl hn hS (by omega)) (fun _ _ hQ => ?_)
  obtain ⟨hS, -⟩ := hQ
  refine ok_rdFp hS (by omega) rfl rfl ?_
  refine ok_rdFp hS (by omega) rfl rfl ?_
  refine ok_rdFx hS (by omega) rfl rfl ?_
  refine ok_cpy hS (by omega) (by omega) rfl rfl (by omega) (fun L M hl hm hL hM => sl_cp hn L M hl hm hL hM) (fun _ hS _ => ?_)
  refine ok_some ⟨hp_close (hp_close hS (fun c hc => ?_)) (fun c hc => ?_), trivial⟩
  · obtain ⟨L, rfl, hL, hs⟩ := hc
    exact ⟨L, rfl, hL, hs.1⟩
  · obtain ⟨L, rfl, hL, hs⟩ := hc
    exact ⟨L, rfl, hL, hs.1⟩
