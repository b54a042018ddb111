def zz (f1 f2 f3 : Int) (L T : List Int) (g1 g2 : Int) (W B : List Int) : xS := [.inr (.inr (4, [.inr (.inr (some 1)), .inr (.inr (some 10)), .inr (.inr (some 19)), .inr (.inr (some 20)), .inr (.inr (some 22)), .inr (.inr (some 24)), .inr (.inr (some 25)), .inr (.inr none), .inr (.inl 0), .inr (.inl 1), .inl 0, .inl 0, .inl 0])),
  .inr (.inr (1, [.inl 5, .inl 2, .inl 1, .inr (.inr (some 2)), .inr (.inr (some 3)), .inr (.inr (some 4)), .inl 0, .inr (.inr (some 5)), .inr (.inr (some 6)), .inl 0, .inr (.inr (some 7)), .inl 0, .inr (.inr (some 8)), .inr (.inr (some 9))])),
  .inl (0, [0, 1, 2, 3, 4, 0, 0]),
  .inl (0, [-1, -1, -1, -1, -1, -1, -1]),
  .inl (0, [0, 0, 0, 0, 0, 0, 0]),
  .inl (0, [0, 0, 0, 0, 0, 0, 0, 0]),
  .inl (0, [0, 0, 0, 0, 0, 0, 0, 0]),
  .inl (0, [0, 0, 0, 0]),
  .inl (0, [0, 0, 0, 0, 0, 0, 0, 0, 0, 0]),
  .inl (0, [0, 0, 0, 0, 0, 0, 0]),
  .inr (.inr (1, [.inl 5, .inl 2, .inl 1, .inr (.inr (some 11)), .inr (.inr (some 12)), .inr (.inr (some 13)), .inl 0, .inr (.inr (some 14)), .inr (.inr (some 15)), .inl 0, .inr (.inr (some 16)), .inl 0, .inr (.inr (some 17)), .inr (.inr (some 18))])),
  .inl (0, [0, 1, 2, 3, 4, 0, 0]),
  .inl (0, [-1, -1, -1, -1, -1, -1, -1]),
  .inl (0, [0, 0, 0, 0, 0, 0, 0]),
  .inl (0, [0, 0, 0, 0, 0, 0, 0, 0]),
  .inl (0, [0, 0, 0, 0, 0, 0, 0, 0]),
  .inl (0, [0, 0, 0, 0]),
  .inl (0, [0, 0, 0, 0, 0, 0, 0, 0, 0, 0]),
  .inl (0, [0, 0, 0, 0, 0, 0, 0]),
  .inr (.inl (3, [none, none])),
  .inr (.inr (3, [.inr (.inr (some 21)), .inl 0, .inl 0, .inl 0, .inl 0, .inl 0])),
  .inl (1, List.replicate 150 0),
  .inr (.inr (2, [.inr (.inr (some 23)), .inl f1, .inl f2, .inl f3])),
  .inl (0, L),
  .inl (0, T),
  .inl (0, List.replicate 49 0),
  .inr (.inr (5, [.inr (.inr (some 27)), .inr (.inr (some 28)), .inr (.inr (some 29)), .inr (.inr (some 30)), .inr (.inl 0), .inr (.inl 1), .inr (.inr (some 31)), .inl 0, .inr (.inr (some 32)), .inl g1, .inl g2, .inl 0, .inr (.inr (some 33)), .inr (.inr (some 34)), .inr (.inr (some 35)), .inr (.inr (some 36)), .inr (.inr (some 37)), .inl 0, .inr (.inr (some 38)), .inr (.inr (some 39)), .inr (.inr (some 40)), .inr (.inr (some 41)), .inr (.inr (some 42)), .inl 0, .inl 0, .inl 0, .inl 0, .inl 0, .inr (.inr (some 43)), .inr (.inr (some 44))])),
  .inl (0, [5, 2, 1, 0, 1, 2, 3, 4, 5, 6, 0, 0, 0, 0, 0, 0, 0, -1, -1, -1, -1, -1, -1, -1, 0, 0, 0, 0, 0, 0, 0, 0, 0, 0, 0, 0, 0, 0, 0, 0, 0, 0, 0, 0, 0, 0, 0, 0, 0, 0, 0, 0, 0, 0, 0, 0, 0]),
  .inl (0, List.replicate 114 0),
  .inl (2, [0, 0]),
  .inl (0, [0, 0, 0]),
  .inl (0, W),
  .inl (0, B),
  .inl (0, [0, 0, 0, 0, 0, 0, 0]),
  .inl (0, [0, 0, 0, 0, 0, 0, 0]),
  .inl (0, List.replicate 5040 0),
  .inl (0, List.replicate 5040 0),
  .inl (2, List.replicate 5040 0),
  .inl (0, List.replicate 49 0),
  .inl (0, [0, 0, 0, 0, 0, 0]),
  .inl (0, [0, 0, 0, 0, 0, 0, 0]),
  .inl (0, [0, 0, 0, 0, 0, 0, 0]),
  .inl (0, List.replicate 150 0),
  .inl (0, List.replicate 47 0),
  .inl (0, [0, 0])]
theorem z01 {p : Prop} [Decidable p] : (if p then (1 : Int) else 0) = 0 ∨ (if p then (1 : Int) else 0) = 1 := by
  by_cases h : p
  · exact Or.inr (if_pos h)
  · exact Or.inl (if_neg h)
theorem rdA_of {k : Nat} {S : xS} {q : Nat} {L : List Int} {i : Int} (h : S[q]? = some (.inl (k, L))) (h0 : 0 ≤ i) (h1 : i < 2147483648) : rdA k S q i = L[i.toNat]? := by
  unfold rdA
  simp only [lGet_e]
  rw [h]
  exact if_pos ⟨rfl, h0, h1⟩
theorem zz_w1 {f1 f2 f3 : Int} {L T : List Int} {g1 g2 : Int} {W B : List Int} (v : Int) : wrF 2 1 (zz f1 f2 f3 L T g1 g2 W B) 22 (.inl v) = some (zz v f2 f3 L T g1 g2 W B) := rfl
theorem zz_w2 {f1 f2 f3 : Int} {L T : List Int} {g1 g2 : Int} {W B : List Int} (v : Int) : wrF 2 2 (zz f1 f2 f3 L T g1 g2 W B) 22 (.inl v) = some (zz f1 v f3 L T g1 g2 W B) := rfl
theorem zz_w3 {f1 f2 f3 : Int} {L T : List Int} {g1 g2 : Int} {W B : List Int} (v : Int) : wrF 2 3 (zz f1 f2 f3 L T g1 g2 W B) 22 (.inl v) = some (zz f1 f2 v L T g1 g2 W B) := rfl
theorem zz_r1 {f1 f2 f3 : Int} {L T : List Int} {g1 g2 : Int} {W B : List Int} : rdFi 2 1 (zz f1 f2 f3 L T g1 g2 W B) 22 = some f1 := rfl
theorem zz_r2 {f1 f2 f3 : Int} {L T : List Int} {g1 g2 : Int} {W B : List Int} : rdFi 2 2 (zz f1 f2 f3 L T g1 g2 W B) 22 = some f2 := rfl
theorem zz_r3 {f1 f2 f3 : Int} {L T : List Int} {g1 g2 : Int} {W B : List Int} : rdFi 2 3 (zz f1 f2 f3 L T g1 g2 W B) 22 = some f3 := rfl
theorem zz_lv {f1 f2 f3 : Int} {L T : List Int} {g1 g2 : Int} {W B : List Int} : rdFi 1 1 (zz f1 f2 f3 L T g1 g2 W B) 1 = some 2 := rfl
theorem zz_bx {f1 f2 f3 : Int} {L T : List Int} {g1 g2 : Int} {W B : List Int} : rdFi 1 0 (zz f1 f2 f3 L T g1 g2 W B) 1 = some 5 := rfl
theorem zz_o2 {f1 f2 f3 : Int} {L T : List Int} {g1 g2 : Int} {W B : List Int} : isO 2 (zz f1 f2 f3 L T g1 g2 W B) 22 = true := rfl
theorem zz_o4 {f1 f2 f3 : Int} {L T : List Int} {g1 g2 : Int} {W B : List Int} : isO 4 (zz f1 f2 f3 L T g1 g2 W B) 0 = true := rfl
theorem zz_pb {f1 f2 f3 : Int} {L T : List Int} {g1 g2 : Int} {W B : List Int} : rdFp 2 0 (zz f1 f2 f3 L T g1 g2 W B) 22 = some 23 := rfl
theorem zz_ps {f1 f2 f3 : Int} {L T : List Int} {g1 g2 : Int} {W B : List Int} : rdFp 4 4 (zz f1 f2 f3 L T g1 g2 W B) 0 = some 22 := rfl
theorem zz_pr {f1 f2 f3 : Int} {L T : List Int} {g1 g2 : Int} {W B : List Int} : rdFp 4 0 (zz f1 f2 f3 L T g1 g2 W B) 0 = some 1 := rfl
theorem zz_pt {f1 f2 f3 : Int} {L T : List Int} {g1 g2 : Int} {W B : List Int} : rdFp 4 5 (zz f1 f2 f3 L T g1 g2 W B) 0 = some 24 := rfl
theorem zz_pu {f1 f2 f3 : Int} {L T : List Int} {g1 g2 : Int} {W B : List Int} : rdFp 1 5 (zz f1 f2 f3 L T g1 g2 W B) 1 = some 4 := rfl
theorem zz_wL {f1 f2 f3 : Int} {L T : List Int} {g1 g2 : Int} {W B : List Int} {i v : Int} (hL : L.length = 7) (hi : 0 ≤ i ∧ i < 7) : wrA 0 (zz f1 f2 f3 L T g1 g2 W B) 23 i v = some (zz f1 f2 f3 (L.set i.toNat v) T g1 g2 W B) := by
  rw [wrA_of (L := L) (q := 23) rfl hi.1 (by omega) (by omega)]
  rfl
theorem zz_rT {f1 f2 f3 : Int} {L T : List Int} {g1 g2 : Int} {W B : List Int} {i v : Int} (hi : 0 ≤ i ∧ i < 7) (h : T[i.toNat]? = some v) : rdA 0 (zz f1 f2 f3 L T g1 g2 W B) 24 i = some v := by
  rw [rdA_of (L := T) (q := 24) rfl hi.1 (by omega), h]
theorem zz_ru {f1 f2 f3 : Int} {L T : List Int} {g1 g2 : Int} {W B : List Int} {i : Int} (hi : 0 ≤ i ∧ i < 7) : rdA 0 (zz f1 f2 f3 L T g1 g2 W B) 4 i = some 0 := by
  rw [rdA_of (L := [0, 0, 0, 0, 0, 0, 0]) (q := 4) rfl hi.1 (by omega)]
  obtain ⟨n, rfl⟩ : ∃ n : Nat, i = (n : Int) := ⟨i.toNat, by omega⟩
  have key : ∀ n : Nat, n < 7 → ([0, 0, 0, 0, 0, 0, 0] : List Int)[((n : Nat) : Int).toNat]? = some 0 := by decide
  exact key n (by omega)
theorem zz_nb {f1 f2 f3 : Int} {L T : List Int} {g1 g2 : Int} {W B : List Int} {k : Nat} {i1 i2 : Int} : f_X2_nextBox k (zz f1 f2 f3 L T g1 g2 W B) 22 1 0 i1 i2 = some (i2, zz f1 f2 f3 L T g1 g2 W B) := by
  unfold f_X2_nextBox
  rw [bind_some' zz_bx, if_neg (by decide), if_neg (by decide), if_neg (by decide), if_neg (by decide), if_neg (by decide)]
/-- one opening -/
theorem zz_open {f1 f3 : Int} {L T : List Int} {g1 g2 : Int} {W B : List Int} {k : Nat} {s i2 i3 v : Int} (hL : L.length = 7) (h1 : f1 = 0 ∨ f1 = 1) (h3 : 0 ≤ i3 ∧ i3 < 5) (hv : T[i3.toNat]? = some v) (hs : 0 ≤ s ∧ s < 5) (hv5 : 0 ≤ v ∧ v < 5) :
    g_X2_seek (k + 2) 1 (zz f1 0 f3 L T g1 g2 W B) 22 1 24 0 s 0 i2 i3 0 = g_X2_seek k 1 (zz (f1 + 1) (if v = s then 1 else 0) (xOr f3 (xShl 1 i3)) (L.set f1.toNat i3) T g1 g2 W B) 22 1 24 0 s 0 i3 v 0 := by
  show b_X2_seek_1 (g_X2_seek (k + 1)) (k + 1) (zz f1 0 f3 L T g1 g2 W B) 22 1 24 0 s 0 i2 i3 0 = _
  unfold b_X2_seek_1
  rw [bind_some' zz_r1, bind_some' zz_lv, if_neg (by rcases h1 with rfl | rfl <;> decide), bind_some' zz_r1, bind_some' zz_bx, if_neg (by rcases h1 with rfl | rfl <;> decide), bind_some' zz_r2, if_pos (by decide), if_pos zz_o2, bd2_some zz_nb, bind_some' zz_pb, bind_some' zz_r1, bind_some' (zz_wL hL (by omega)), bind_some' zz_r1, bind_some' (zz_w1 _), bind_some' zz_r3, bind_some' (zz_w3 _), bind_some' (zz_rT (by omega) hv)]
  by_cases hvs : v = s
  · rw [if_pos (by rw [hvs]), if_pos hvs]
    show b_X2_seek_2 (g_X2_seek k) k (zz (f1 + 1) 0 (xOr f3 (xShl 1 i3)) (L.set f1.toNat i3) T g1 g2 W B) 22 1 24 22 s 0 i3 v 1 = _
    unfold b_X2_seek_2
    rw [if_pos (Or.inr rfl), bind_some' (zz_w2 _)]
  · rw [if_neg (by rw [wI_id (by omega) (by omega), wI_id (by omega) (by omega)]; exact hvs), if_neg hvs]
    show b_X2_seek_2 (g_X2_seek k) k (zz (f1 + 1) 0 (xOr f3 (xShl 1 i3)) (L.set f1.toNat i3) T g1 g2 W B) 22 1 24 22 s 0 i3 v 0 = _
    unfold b_X2_seek_2
    rw [if_pos (Or.inl rfl), bind_some' (zz_w2 _)]
theorem zz_seek {f1 f2 f3 : Int} {L T : List Int} {g1 g2 : Int} {W B : List Int} {k : Nat} {s b c : Int} (hL : L.length = 7) (hs : 0 ≤ s ∧ s < 5) (hb : T[s.toNat]? = some b) (hb5 : 0 ≤ b ∧ b < 5) (hc : T[b.toNat]? = some c) (hc5 : 0 ≤ c ∧ c < 5) :
    ∃ (f1' f3' : Int) (L' : List Int), L'.length = 7 ∧ f_X2_seek (k + 6) (zz f1 f2 f3 L T g1 g2 W B) 22 1 24 s 0 = some (0, zz f1' (if b = s ∨ c = s then 1 else 0) f3' L' T g1 g2 W B) := by
  have e0 : f_X2_seek (k + 6) (zz f1 f2 f3 L T g1 g2 W B) 22 1 24 s 0 = g_X2_seek (k + 5) 1 (zz 0 0 0 L T g1 g2 W B) 22 1 24 0 s 0 0 s 0 := by
    show b_X2_seek_0 (g_X2_seek (k + 5)) (k + 5) (zz f1 f2 f3 L T g1 g2 W B) 22 1 24 0 s 0 0 0 0 = _
    unfold b_X2_seek_0
    rw [bind_some' (zz_w1 _), bind_some' (zz_w2 _), bind_some' (zz_w3 _)]
  rw [e0, zz_open hL (Or.inl rfl) hs hb hs hb5]
  by_cases h1 : b = s
  · rw [if_pos h1, if_pos (Or.inl h1)]
    refine ⟨0 + 1, xOr 0 (xShl 1 s), L.set (0 : Int).toNat s, by rw [List.length_set, hL], ?_⟩
    · show b_X2_seek_1 (g_X2_seek (k + 2)) (k + 2) (zz (0 + 1) 1 (xOr 0 (xShl 1 s)) (L.set (0 : Int).toNat s) T g1 g2 W B) 22 1 24 0 s 0 s b 0 = _
      unfold b_X2_seek_1
      rw [bind_some' zz_r1, bind_some' zz_lv, if_neg (by decide), bind_some' zz_r1, bind_some' zz_bx, if_neg (by decide), bind_some' zz_r2, if_neg (by decide)]
  · rw [if_neg h1]
    rw [show (0 : Int) + 1 = 1 from rfl, zz_open (by rw [List.length_set, hL]) (Or.inr rfl) hb5 hc hs hc5]
    have e : (if b = s ∨ c = s then (1 : Int) else 0) = (if c = s then 1 else 0) := by
      by_cases h2 : c = s
      · rw [if_pos (Or.inr h2), if_pos h2]
      · rw [if_neg (by omega), if_neg h2]
    rw [e]
    refine ⟨1 + 1, xOr (xOr 0 (xShl 1 s)) (xShl 1 b), (L.set (0 : Int).toNat s).set (1 : Int).toNat b, by rw [List.length_set, List.length_set, hL], ?_⟩
    · show b_X2_seek_1 (g_X2_seek k) k (zz (1 + 1) (if c = s then 1 else 0) (xOr (xOr 0 (xShl 1 s)) (xShl 1 b)) ((L.set (0 : Int).toNat s).set (1 : Int).toNat b) T g1 g2 W B) 22 1 24 0 s 0 b c 0 = _
      unfold b_X2_seek_1
      rw [bind_some' zz_r1, bind_some' zz_lv, if_pos (by decide)]
theorem zz_does {f1 f2 f3 : Int} {L T : List Int} {g1 g2 : Int} {W B : List Int} {k : Nat} {s b c : Int} (hL : L.length = 7) (hs : 0 ≤ s ∧ s < 5) (hb : T[s.toNat]? = some b) (hb5 : 0 ≤ b ∧ b < 5) (hc : T[b.toNat]? = some c) (hc5 : 0 ≤ c ∧ c < 5) :
    ∃ (f1' f2' f3' : Int) (L' : List Int), L'.length = 7 ∧ f_X5_doesFind (k + 6) (zz f1 f2 f3 L T g1 g2 W B) 0 24 s 0 = some (if b = s ∨ c = s then 1 else 0, zz f1' f2' f3' L' T g1 g2 W B) := by
  obtain ⟨f1', f3', L', hL', e⟩ := zz_seek (f1 := f1) (f2 := f2) (f3 := f3) (g1 := g1) (g2 := g2) (W := W) (B := B) (k := k) hL hs hb hb5 hc hc5
  refine ⟨f1', (if b = s ∨ c = s then 1 else 0), f3', L', hL', ?_⟩
  unfold f_X5_doesFind
  rw [bind_some' zz_ps, bind_some' zz_pr, if_pos zz_o2, bd2_some e, bind_some' zz_ps, bind_some' zz_r2, if_pos z01]
