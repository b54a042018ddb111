/-! the reference's side -/
theorem zm_o5 {f1 f2 f3 : Int} {L T : List Int} {g1 g2 : Int} {W B : List Int} : isO 5 (zz f1 f2 f3 L T g1 g2 W B) 26 = true := rfl
theorem zm_p0 {f1 f2 f3 : Int} {L T : List Int} {g1 g2 : Int} {W B : List Int} : rdFp 5 0 (zz f1 f2 f3 L T g1 g2 W B) 26 = some 27 := rfl
theorem zm_p6 {f1 f2 f3 : Int} {L T : List Int} {g1 g2 : Int} {W B : List Int} : rdFp 5 6 (zz f1 f2 f3 L T g1 g2 W B) 26 = some 31 := rfl
theorem zm_p8 {f1 f2 f3 : Int} {L T : List Int} {g1 g2 : Int} {W B : List Int} : rdFp 5 8 (zz f1 f2 f3 L T g1 g2 W B) 26 = some 32 := rfl
theorem zm_r9 {f1 f2 f3 : Int} {L T : List Int} {g1 g2 : Int} {W B : List Int} : rdFi 5 9 (zz f1 f2 f3 L T g1 g2 W B) 26 = some g1 := rfl
theorem zm_r10 {f1 f2 f3 : Int} {L T : List Int} {g1 g2 : Int} {W B : List Int} : rdFi 5 10 (zz f1 f2 f3 L T g1 g2 W B) 26 = some g2 := rfl
theorem zm_w9 {f1 f2 f3 : Int} {L T : List Int} {g1 g2 : Int} {W B : List Int} (v : Int) : wrF 5 9 (zz f1 f2 f3 L T g1 g2 W B) 26 (.inl v) = some (zz f1 f2 f3 L T v g2 W B) := rfl
theorem zm_w10 {f1 f2 f3 : Int} {L T : List Int} {g1 g2 : Int} {W B : List Int} (v : Int) : wrF 5 10 (zz f1 f2 f3 L T g1 g2 W B) 26 (.inl v) = some (zz f1 f2 f3 L T g1 v W B) := rfl
theorem zm_n {f1 f2 f3 : Int} {L T : List Int} {g1 g2 : Int} {W B : List Int} {k : Nat} : f_X6_n k (zz f1 f2 f3 L T g1 g2 W B) 26 = some (5, zz f1 f2 f3 L T g1 g2 W B) := rfl
theorem zm_lv {f1 f2 f3 : Int} {L T : List Int} {g1 g2 : Int} {W B : List Int} : rdA 0 (zz f1 f2 f3 L T g1 g2 W B) 27 1 = some 2 := rfl
theorem zm_ru {f1 f2 f3 : Int} {L T : List Int} {g1 g2 : Int} {W B : List Int} {s : Int} (hs : 0 ≤ s ∧ s < 5) : rdA 0 (zz f1 f2 f3 L T g1 g2 W B) 27 (10 + s) = some 0 := by
  have key : ∀ n : Nat, n < 5 → rdA 0 S0 27 (10 + (n : Int)) = some 0 := by decide +kernel
  have h := key s.toNat (by omega)
  rw [show ((s.toNat : Nat) : Int) = s by omega] at h
  exact h
theorem zm_rW {f1 f2 f3 : Int} {L T : List Int} {g1 g2 : Int} {W B : List Int} {i v : Int} (hi : 0 ≤ i ∧ i < 7) (h : W[i.toNat]? = some v) : rdA 0 (zz f1 f2 f3 L T g1 g2 W B) 31 i = some v := by
  rw [rdA_of (L := W) (q := 31) rfl hi.1 (by omega), h]
theorem zm_rB {f1 f2 f3 : Int} {L T : List Int} {g1 g2 : Int} {W B : List Int} {i v : Int} (hi : 0 ≤ i ∧ i < 7) (h : B[i.toNat]? = some v) : rdA 0 (zz f1 f2 f3 L T g1 g2 W B) 32 i = some v := by
  rw [rdA_of (L := B) (q := 32) rfl hi.1 (by omega), h]
theorem zm_wB {f1 f2 f3 : Int} {L T : List Int} {g1 g2 : Int} {W B : List Int} {i v : Int} (hB : B.length = 7) (hi : 0 ≤ i ∧ i < 7) : wrA 0 (zz f1 f2 f3 L T g1 g2 W B) 32 i v = some (zz f1 f2 f3 L T g1 g2 W (B.set i.toNat v)) := by
  rw [wrA_of (L := B) (q := 32) rfl hi.1 (by omega) (by omega)]
  rfl
theorem zm_box2 {f1 f2 f3 : Int} {L T : List Int} {g1 g2 : Int} {W B : List Int} {k : Nat} {s i1 i2 i3 i4 : Int} (hs : 0 ≤ s ∧ s < 5) : g_X6_boxOf (k + 1) 2 (zz f1 f2 f3 L T g1 g2 W B) 26 0 s i1 i2 i3 i4 = some (i4, zz f1 f2 f3 L T g1 g2 W B) := by
  show b_X6_boxOf_2 (g_X6_boxOf k) k (zz f1 f2 f3 L T g1 g2 W B) 26 0 s i1 i2 i3 i4 = _
  unfold b_X6_boxOf_2
  rw [bind_some' zm_p0, bind_some' (zm_ru hs), if_neg (by decide), if_neg (by decide), if_neg (by decide), if_neg (by decide), if_neg (by decide)]
theorem zm_box0 {f1 f2 f3 : Int} {L T : List Int} {g1 g2 : Int} {W B : List Int} {k : Nat} {s u : Int} (hs : 0 ≤ s ∧ s < 5) : f_X6_boxOf (k + 3) (zz f1 f2 f3 L T g1 g2 W B) 26 s 0 u = some (s, zz f1 f2 f3 L T g1 g2 W B) := by
  show b_X6_boxOf_0 (g_X6_boxOf (k + 2)) (k + 2) (zz f1 f2 f3 L T g1 g2 W B) 26 0 s 0 u 0 0 = _
  unfold b_X6_boxOf_0
  rw [if_pos (by decide)]
  show b_X6_boxOf_1 (g_X6_boxOf (k + 1)) (k + 1) (zz f1 f2 f3 L T g1 g2 W B) 26 0 s 0 u 0 0 = _
  unfold b_X6_boxOf_1
  rw [if_pos (by decide)]
  exact zm_box2 hs
theorem zm_box1 {f1 f2 f3 : Int} {L T : List Int} {g1 g2 : Int} {W B : List Int} {k : Nat} {s u q b : Int} (hs : 0 ≤ s ∧ s < 5) (hq : 0 ≤ q ∧ q < 5) (hB : B[0]? = some q) (hW : W[q.toNat]? = some b) : f_X6_boxOf (k + 3) (zz f1 f2 f3 L T g1 g2 W B) 26 s 1 u = some (b, zz f1 f2 f3 L T g1 g2 W B) := by
  show b_X6_boxOf_0 (g_X6_boxOf (k + 2)) (k + 2) (zz f1 f2 f3 L T g1 g2 W B) 26 0 s 1 u 0 0 = _
  unfold b_X6_boxOf_0
  rw [if_neg (by decide), bind_some' zm_p8, bind_some' (zm_rB (i := 1 - 1) (by omega) hB)]
  show b_X6_boxOf_1 (g_X6_boxOf (k + 1)) (k + 1) (zz f1 f2 f3 L T g1 g2 W B) 26 0 s 1 u q 0 = _
  unfold b_X6_boxOf_1
  rw [if_neg (by decide), bind_some' zm_p6, bind_some' (zm_rW (by omega) hW)]
  exact zm_box2 hs
theorem zm_open {f1 f2 f3 : Int} {L T : List Int} {g1 : Int} {W B : List Int} {k : Nat} {s u x v : Int} (hB : B.length = 7) (h1 : g1 = 0 ∨ g1 = 1) (hx : 0 ≤ x ∧ x < 5) (hv : W[x.toNat]? = some v) (hs : 0 ≤ s ∧ s < 5) (hv5 : 0 ≤ v ∧ v < 5)
    (hbox : f_X6_boxOf (k + 1) (zz f1 f2 f3 L T g1 0 W B) 26 s g1 u = some (x, zz f1 f2 f3 L T g1 0 W B)) :
    g_X6_seek (k + 2) 1 (zz f1 f2 f3 L T g1 0 W B) 26 0 s u 0 = g_X6_seek k 1 (zz f1 f2 f3 L T (g1 + 1) (if v = s then 1 else 0) W (B.set g1.toNat x)) 26 0 s (xOr u (xShl 1 x)) 0 := by
  show b_X6_seek_1 (g_X6_seek (k + 1)) (k + 1) (zz f1 f2 f3 L T g1 0 W B) 26 0 s u 0 = _
  unfold b_X6_seek_1
  rw [bind_some' zm_r10, if_pos (by decide), bind_some' zm_r9, bind_some' zm_p0, bind_some' zm_lv, if_neg (by rcases h1 with rfl | rfl <;> decide), bind_some' zm_r9, if_pos zm_o5, bd2_some hbox, bind_some' zm_p8, bind_some' zm_r9, bind_some' (zm_wB hB (by omega)), bind_some' zm_r9, bind_some' (zm_w9 _)]
  show ((rdFp 5 6 (zz f1 f2 f3 L T (g1 + 1) 0 W (B.set g1.toNat x)) 26).bind fun q35 => (rdA 0 (zz f1 f2 f3 L T (g1 + 1) 0 W (B.set g1.toNat x)) q35 x).bind fun x36 => if wI x36 = wI s then (g_X6_seek (k + 1) 2 (zz f1 f2 f3 L T (g1 + 1) 0 W (B.set g1.toNat x)) 26 26 s (xOr u (xShl 1 x)) 1) else (g_X6_seek (k + 1) 2 (zz f1 f2 f3 L T (g1 + 1) 0 W (B.set g1.toNat x)) 26 26 s (xOr u (xShl 1 x)) 0)) = _
  rw [bind_some' zm_p6, bind_some' (zm_rW (by omega) hv)]
  by_cases hvs : v = s
  · rw [if_pos (by rw [hvs]), if_pos hvs]
    show b_X6_seek_2 (g_X6_seek k) k (zz f1 f2 f3 L T (g1 + 1) 0 W (B.set g1.toNat x)) 26 26 s (xOr u (xShl 1 x)) 1 = _
    unfold b_X6_seek_2
    rw [if_pos (Or.inr rfl), bind_some' (zm_w10 _)]
  · rw [if_neg (by rw [wI_id (by omega) (by omega), wI_id (by omega) (by omega)]; exact hvs), if_neg hvs]
    show b_X6_seek_2 (g_X6_seek k) k (zz f1 f2 f3 L T (g1 + 1) 0 W (B.set g1.toNat x)) 26 26 s (xOr u (xShl 1 x)) 0 = _
    unfold b_X6_seek_2
    rw [if_pos (Or.inl rfl), bind_some' (zm_w10 _)]
theorem zm_seek {f1 f2 f3 : Int} {L T : List Int} {g1 g2 : Int} {W B : List Int} {k : Nat} {s b c : Int} (hB : B.length = 7) (hs : 0 ≤ s ∧ s < 5) (hb : W[s.toNat]? = some b) (hb5 : 0 ≤ b ∧ b < 5) (hc : W[b.toNat]? = some c) (hc5 : 0 ≤ c ∧ c < 5) :
    ∃ (g1' : Int) (B' : List Int), B'.length = 7 ∧ f_X6_seek (k + 8) (zz f1 f2 f3 L T g1 g2 W B) 26 s = some (0, zz f1 f2 f3 L T g1' (if b = s ∨ c = s then 1 else 0) W B') := by
  have e0 : f_X6_seek (k + 8) (zz f1 f2 f3 L T g1 g2 W B) 26 s = g_X6_seek (k + 7) 1 (zz f1 f2 f3 L T 0 0 W B) 26 0 s 0 0 := by
    show b_X6_seek_0 (g_X6_seek (k + 7)) (k + 7) (zz f1 f2 f3 L T g1 g2 W B) 26 0 s 0 0 = _
    unfold b_X6_seek_0
    rw [bind_some' (zm_w9 _), bind_some' (zm_w10 _)]
  rw [e0, zm_open (k := k + 5) hB (Or.inl rfl) hs hb hs hb5 (zm_box0 (k := k + 3) hs)]
  by_cases h1 : b = s
  · rw [if_pos h1, if_pos (Or.inl h1)]
    refine ⟨0 + 1, B.set (0 : Int).toNat s, by rw [List.length_set, hB], ?_⟩
    · show b_X6_seek_1 (g_X6_seek (k + 4)) (k + 4) (zz f1 f2 f3 L T (0 + 1) 1 W (B.set (0 : Int).toNat s)) 26 0 s (xOr 0 (xShl 1 s)) 0 = _
      unfold b_X6_seek_1
      rw [bind_some' zm_r10, if_neg (by decide)]
  · rw [if_neg h1]
    have hB0 : (B.set (0 : Int).toNat s)[0]? = some s := List.getElem?_set_self (by omega)
    rw [show (0 : Int) + 1 = 1 from rfl, zm_open (k := k + 3) (by rw [List.length_set, hB]) (Or.inr rfl) hb5 hc hs hc5 (zm_box1 (k := k + 1) hs hs hB0 hb)]
    have e : (if b = s ∨ c = s then (1 : Int) else 0) = (if c = s then 1 else 0) := by
      by_cases h2 : c = s
      · rw [if_pos (Or.inr h2), if_pos h2]
      · rw [if_neg (by omega), if_neg h2]
    rw [e]
    refine ⟨1 + 1, (B.set (0 : Int).toNat s).set (1 : Int).toNat b, by rw [List.length_set, List.length_set, hB], ?_⟩
    · show b_X6_seek_1 (g_X6_seek (k + 2)) (k + 2) (zz f1 f2 f3 L T (1 + 1) (if c = s then 1 else 0) W ((B.set (0 : Int).toNat s).set (1 : Int).toNat b)) 26 0 s (xOr (xOr 0 (xShl 1 s)) (xShl 1 b)) 0 = _
      unfold b_X6_seek_1
      by_cases h2 : c = s
      · rw [if_pos h2, bind_some' zm_r10, if_neg (by decide)]
      · rw [if_neg h2, bind_some' zm_r10, if_pos (by decide), bind_some' zm_r9, bind_some' zm_p0, bind_some' zm_lv, if_pos (by decide)]
