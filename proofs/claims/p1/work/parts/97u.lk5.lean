def zT0 : List Int := [0, 1, 2, 3, 4, 0, 0]
def zI (T : List Int) : List Int := ((((T.set (0 : Int).toNat 0).set (0 + 1 : Int).toNat (0 + 1)).set (0 + 1 + 1 : Int).toNat (0 + 1 + 1)).set (0 + 1 + 1 + 1 : Int).toNat (0 + 1 + 1 + 1)).set (0 + 1 + 1 + 1 + 1 : Int).toNat (0 + 1 + 1 + 1 + 1)
def zBd (T : List Int) (t : Nat) : Bool := match T[t]? with
  | none => false
  | some b => decide (0 ≤ b ∧ b < 5)
def zOk (a b c d : Int) : Bool := match zPm zT0 a b c d with
  | none => false
  | some T => T.length == 7 && (zI T == zT0 && (zBd T 0 && (zBd T 1 && (zBd T 2 && (zBd T 3 && zBd T 4)))))
theorem zBd_s {T : List Int} {t : Nat} (h : zBd T t = true) : ∃ b, T[t]? = some b ∧ 0 ≤ b ∧ b < 5 := by
  unfold zBd at h
  split at h
  · cases h
  · next b e => exact ⟨b, e, of_decide_eq_true h⟩
theorem zOk_s {a b c d : Int} (h : zOk a b c d = true) : ∃ T, zPm zT0 a b c d = some T ∧ T.length = 7 ∧ zI T = zT0 ∧ zTk T := by
  unfold zOk at h
  split at h
  · cases h
  · next T e =>
    obtain ⟨h1, h⟩ := (Bool.and_eq_true _ _).mp h
    obtain ⟨h2, h⟩ := (Bool.and_eq_true _ _).mp h
    obtain ⟨t0, h⟩ := (Bool.and_eq_true _ _).mp h
    obtain ⟨t1, h⟩ := (Bool.and_eq_true _ _).mp h
    obtain ⟨t2, h⟩ := (Bool.and_eq_true _ _).mp h
    obtain ⟨t3, t4⟩ := (Bool.and_eq_true _ _).mp h
    refine ⟨T, e, beq_iff_eq.mp h1, beq_iff_eq.mp h2, fun t ht => ?_⟩
    rcases (show t = 0 ∨ t = 1 ∨ t = 2 ∨ t = 3 ∨ t = 4 by omega) with rfl | rfl | rfl | rfl | rfl
    · exact zBd_s t0
    · exact zBd_s t1
    · exact zBd_s t2
    · exact zBd_s t3
    · exact zBd_s t4
theorem zOk_all : ∀ a : Nat, a < 5 → ∀ b : Nat, b < 4 → ∀ c : Nat, c < 3 → ∀ d : Nat, d < 2 → zOk (a : Int) (b : Int) (c : Int) (d : Int) = true := by decide +kernel
/-- the way of a seed -/
def zP (x : Int) : Option (List Int) := zPm zT0 (zJ (zX x) 4) (zJ (zX (zX x)) 3) (zJ (zX (zX (zX x))) 2) (zJ (zX (zX (zX (zX x)))) 1)
def zA (x : Int) : Bool := match zP x with
  | none => false
  | some T => zAl T 0 5
theorem zP_s {x : Int} (hx : 0 ≤ x ∧ x < 2147483648) : ∃ T, zP x = some T ∧ T.length = 7 ∧ zI T = zT0 ∧ zTk T ∧ (0 ≤ zJ (zX x) 4 ∧ zJ (zX x) 4 < 5) ∧ (0 ≤ zJ (zX (zX x)) 3 ∧ zJ (zX (zX x)) 3 < 5) ∧ (0 ≤ zJ (zX (zX (zX x))) 2 ∧ zJ (zX (zX (zX x))) 2 < 5) ∧ (0 ≤ zJ (zX (zX (zX (zX x)))) 1 ∧ zJ (zX (zX (zX (zX x)))) 1 < 5) := by
  have b1 := z_xb hx
  have b2 := z_xb b1
  have b3 := z_xb b2
  have b4 := z_xb b3
  have j4 := z_jb (i := 4) (n := 5) b1 (by decide) (by omega)
  have j3 := z_jb (i := 3) (n := 4) b2 (by decide) (by omega)
  have j2 := z_jb (i := 2) (n := 3) b3 (by decide) (by omega)
  have j1 := z_jb (i := 1) (n := 2) b4 (by decide) (by omega)
  have h := zOk_all (zJ (zX x) 4).toNat (by omega) (zJ (zX (zX x)) 3).toNat (by omega) (zJ (zX (zX (zX x))) 2).toNat (by omega) (zJ (zX (zX (zX (zX x)))) 1).toNat (by omega)
  rw [show (((zJ (zX x) 4).toNat : Nat) : Int) = zJ (zX x) 4 by omega, show (((zJ (zX (zX x)) 3).toNat : Nat) : Int) = zJ (zX (zX x)) 3 by omega, show (((zJ (zX (zX (zX x))) 2).toNat : Nat) : Int) = zJ (zX (zX (zX x))) 2 by omega, show (((zJ (zX (zX (zX (zX x)))) 1).toNat : Nat) : Int) = zJ (zX (zX (zX (zX x)))) 1 by omega] at h
  obtain ⟨T, e1, e2, e3, e4⟩ := zOk_s h
  exact ⟨T, e1, e2, e3, e4, j4, ⟨j3.1, by omega⟩, ⟨j2.1, by omega⟩, ⟨j1.1, by omega⟩⟩
theorem zz_f0 (k : Nat) (S : xS) (p : Nat) (n : Int) : f_X4_setToFirst (k + 1) S p n = g_X4_setToFirst k 1 S p n 0 := rfl
theorem zz_fs {f1 f2 f3 : Int} {L T : List Int} {g1 g2 : Int} {W B : List Int} {k : Nat} {i : Int} (hT : T.length = 7) (hi : 0 ≤ i ∧ i < 5) : g_X4_setToFirst (k + 1) 1 (zz f1 f2 f3 L T g1 g2 W B) 24 5 i = g_X4_setToFirst k 1 (zz f1 f2 f3 L (T.set i.toNat i) g1 g2 W B) 24 5 (i + 1) := by
  show b_X4_setToFirst_1 (g_X4_setToFirst k) k (zz f1 f2 f3 L T g1 g2 W B) 24 5 i = _
  unfold b_X4_setToFirst_1
  rw [if_neg (by rw [wI_id (z := i) (by omega) (by omega), show wI 5 = 5 from by decide]; omega), bind_some' (zz_wT hT (by omega))]
theorem zz_first {f1 f2 f3 : Int} {L T : List Int} {g1 g2 : Int} {W B : List Int} {k : Nat} (hT : T.length = 7) : f_X4_setToFirst (k + 7) (zz f1 f2 f3 L T g1 g2 W B) 24 5 = some (0, zz f1 f2 f3 L (zI T) g1 g2 W B) := by
  rw [show f_X4_setToFirst (k + 7) (zz f1 f2 f3 L T g1 g2 W B) 24 5 = g_X4_setToFirst (k + 6) 1 (zz f1 f2 f3 L T g1 g2 W B) 24 5 0 from zz_f0 (k + 6) _ _ _]
  rw [zz_fs hT (by omega)]
  rw [zz_fs (i := 0 + 1) (by simp [hT]) (by omega)]
  rw [zz_fs (i := 0 + 1 + 1) (by simp [hT]) (by omega)]
  rw [zz_fs (i := 0 + 1 + 1 + 1) (by simp [hT]) (by omega)]
  rw [zz_fs (i := 0 + 1 + 1 + 1 + 1) (by simp [hT]) (by omega)]
  show b_X4_setToFirst_1 (g_X4_setToFirst k) k (zz f1 f2 f3 L (zI T) g1 g2 W B) 24 5 5 = _
  unfold b_X4_setToFirst_1
  rw [if_pos (by decide)]
theorem zz_seed {f1 f2 f3 : Int} {L T T' : List Int} {g1 g2 : Int} {W B : List Int} {k : Nat} {x : Int} (hx : 0 ≤ x ∧ x < 2147483648) (hT : T.length = 7) (hI : zI T = zT0) (h : zP x = some T') : f_X4_setBySeed (k + 8) (zz f1 f2 f3 L T g1 g2 W B) 24 5 x = some (0, zz f1 f2 f3 L T' g1 g2 W B) := by
  obtain ⟨T'', e, -, -, -, j4, j3, j2, j1⟩ := zP_s hx
  show b_X4_setBySeed_0 (g_X4_setBySeed (k + 7)) (k + 7) (zz f1 f2 f3 L T g1 g2 W B) 24 5 x = _
  unfold b_X4_setBySeed_0
  rw [bd2_some (zz_first hT), hI]
  show g_X4_setBySeed (k + 7) 1 (zz f1 f2 f3 L zT0 g1 g2 W B) 24 (wI x) 4 = _
  rw [wI_id (by omega) hx.2, z_sb5 (k + 2)]
  exact zz_E5 rfl j4 j3 j2 j1 h
theorem zm_st {f1 f2 f3 : Int} {L T : List Int} {g1 g2 : Int} {W B : List Int} {i : Int} (hW : W.length = 7) (hi : 0 ≤ i ∧ i < 7) : zStp i (zz f1 f2 f3 L T g1 g2 W B) = some (zz f1 f2 f3 L T g1 g2 (W.set i.toNat i) B) := by
  unfold zStp
  rw [if_pos (show zCd (zz f1 f2 f3 L T g1 g2 W B) = true from rfl), zm_wW hW hi]
theorem zm_w6 {f1 f2 f3 : Int} {L T : List Int} {g1 g2 : Int} {W B : List Int} (hW : W.length = 7) : zW6 (zz f1 f2 f3 L T g1 g2 W B) = some (zz f1 f2 f3 L T g1 g2 (zI W) B) := by
  unfold zW6
  rw [bind_some' (zm_st hW (by omega)), bind_some' (zm_st (by simp [hW]) (by omega)), bind_some' (zm_st (by simp [hW]) (by omega)), bind_some' (zm_st (by simp [hW]) (by omega)), bind_some' (zm_st (by simp [hW]) (by omega)), if_pos (show zCd _ = true from rfl)]
  rfl
theorem zm_lay {f1 f2 f3 : Int} {L T W' : List Int} {g1 g2 : Int} {W B : List Int} {k : Nat} {x : Int} (hx : 0 ≤ x ∧ x < 2147483648) (hW : W.length = 7) (hI : zI W = zT0) (h : zP x = some W') : f_X6_layHand (k + 12) (zz f1 f2 f3 L T g1 g2 W B) 26 x = some (0, zz f1 f2 f3 L T g1 g2 W' B) := by
  obtain ⟨T'', e, -, -, -, j4, j3, j2, j1⟩ := zP_s hx
  rw [show k + 12 = ((k + 5) + 6) + 1 by omega, z_lh0, z_w6 (zm_w6 hW), hI, z_lh6 k]
  exact zm_E6 rfl j4 j3 j2 j1 h
def zSm (seed : Int) : Int → Nat → Int → Int
  | _, 0, t => t
  | i, m + 1, t => zSm seed (i + 1) m (t + (if zA (seed + i) = true then 1 else 0))
theorem zz_l3 (k : Nat) (S : xS) (p : Nat) (a b i t x : Int) : g_X5_lucky (k + 1) 3 S p a b i t x = g_X5_lucky k 2 S p a b (t + x) (i + 1) 0 := rfl
theorem zm_l3 (k : Nat) (S : xS) (p : Nat) (a b i t x : Int) : g_X6_lucky (k + 1) 3 S p a b i t x = g_X6_lucky k 2 S p a b (t + x) (i + 1) 0 := rfl
theorem zz_loop {seed y : Int} (hs : 0 ≤ seed ∧ seed ≤ 999999) (hy : 0 ≤ y ∧ y ≤ 60) {g1 g2 : Int} {W B : List Int} : ∀ (m k : Nat) (i t f1 f2 f3 : Int) (L T : List Int), L.length = 7 → T.length = 7 → zI T = zT0 → i + m = y → 0 ≤ i →
    ∃ (f1' f2' f3' : Int) (L' T' : List Int), g_X5_lucky (k + 2 * m + 30) 2 (zz f1 f2 f3 L T g1 g2 W B) 0 seed y t i 0 = some (zSm seed i m t, zz f1' f2' f3' L' T' g1 g2 W B)
  | 0, k, i, t, f1, f2, f3, L, T, hL, hT, hI, hi, h0 => by
    refine ⟨f1, f2, f3, L, T, ?_⟩
    rw [show k + 2 * 0 + 30 = (k + 29) + 1 by omega]
    show b_X5_lucky_2 (g_X5_lucky (k + 29)) (k + 29) (zz f1 f2 f3 L T g1 g2 W B) 0 seed y t i 0 = _
    unfold b_X5_lucky_2
    rw [if_pos (by rw [show i = y by omega]; exact Int.le_refl _)]
    rfl
  | m + 1, k, i, t, f1, f2, f3, L, T, hL, hT, hI, hi, h0 => by
    obtain ⟨P, e1, e2, e3, e4, -⟩ := zP_s (x := seed + i) (by omega)
    obtain ⟨a1, a2, a3, a4, a5, a6⟩ := zz_all e4 (g1 := g1) (g2 := g2) (W := W) (B := B) (k := k + 2 * m + 13) (f1 := f1) (f2 := f2) (f3 := f3) hL
    have ha : zA (seed + i) = zAl P 0 5 := by
      unfold zA
      rw [e1]
    obtain ⟨c1, c2, c3, c4, c5, c6⟩ := zz_loop hs hy (g1 := g1) (g2 := g2) (W := W) (B := B) m k (i + 1) (t + (if zA (seed + i) = true then 1 else 0)) a1 a2 a3 a4 P a5 e2 e3 (by omega) (by omega)
    refine ⟨c1, c2, c3, c4, c5, ?_⟩
    have st : g_X5_lucky (k + 2 * (m + 1) + 30) 2 (zz f1 f2 f3 L T g1 g2 W B) 0 seed y t i 0 = g_X5_lucky (k + 2 * m + 31) 3 (zz a1 a2 a3 a4 P g1 g2 W B) 0 seed y i t (if zA (seed + i) = true then 1 else 0) := by
      rw [show k + 2 * (m + 1) + 30 = (k + 2 * m + 31) + 1 by omega]
      show b_X5_lucky_2 (g_X5_lucky (k + 2 * m + 31)) (k + 2 * m + 31) (zz f1 f2 f3 L T g1 g2 W B) 0 seed y t i 0 = _
      unfold b_X5_lucky_2
      rw [if_neg (by rw [wI_id (z := i) (by omega) (by omega), wI_id (z := y) (by omega) (by omega)]; omega), bind_some' zz_pt, bind_some' zz_pr, bind_some' zz_bx, bd2_some (zz_seed (k := k + 2 * m + 23) (by omega) hT hI e1), bind_some' zz_pt, if_pos zz_o4, bd2_some a6, ha]
      by_cases hz : zAl P 0 5 = true
      · rw [if_pos hz, if_neg (by decide)]
      · rw [if_neg hz, if_pos (by decide)]
    rw [st, zz_l3 (k + 2 * m + 30)]
    exact c6
theorem zm_loop {seed y : Int} (hs : 0 ≤ seed ∧ seed ≤ 999999) (hy : 0 ≤ y ∧ y ≤ 60) {f1 f2 f3 : Int} {L T : List Int} : ∀ (m k : Nat) (i t g1 g2 : Int) (W B : List Int), B.length = 7 → W.length = 7 → zI W = zT0 → i + m = y → 0 ≤ i →
    ∃ S2, g_X6_lucky (k + 2 * m + 30) 2 (zz f1 f2 f3 L T g1 g2 W B) 26 seed y t i 0 = some (zSm seed i m t, S2)
  | 0, k, i, t, g1, g2, W, B, hB, hW, hI, hi, h0 => by
    refine ⟨zz f1 f2 f3 L T g1 g2 W B, ?_⟩
    · rw [show k + 2 * 0 + 30 = (k + 29) + 1 by omega]
      show b_X6_lucky_2 (g_X6_lucky (k + 29)) (k + 29) (zz f1 f2 f3 L T g1 g2 W B) 26 seed y t i 0 = _
      unfold b_X6_lucky_2
      rw [if_pos (by rw [show i = y by omega]; exact Int.le_refl _)]
      rfl
  | m + 1, k, i, t, g1, g2, W, B, hB, hW, hI, hi, h0 => by
    obtain ⟨P, e1, e2, e3, e4, -⟩ := zP_s (x := seed + i) (by omega)
    obtain ⟨a1, a2, a3, a4, a5⟩ := zm_finds (f1 := f1) (f2 := f2) (f3 := f3) (L := L) (T := T) e4 5 (k + 2 * m + 11) 0 0 g1 g2 B hB (by omega) (by omega)
    have ha : zA (seed + i) = zAl P 0 5 := by
      unfold zA
      rw [e1]
    obtain ⟨S2, c6⟩ := zm_loop hs hy (f1 := f1) (f2 := f2) (f3 := f3) (L := L) (T := T) m k (i + 1) (t + (if zA (seed + i) = true then 1 else 0)) a1 a2 P a3 a4 e2 e3 (by omega) (by omega)
    refine ⟨S2, ?_⟩
    have ef : f_X6_findsHand (k + 2 * m + 31) (zz f1 f2 f3 L T g1 g2 P B) 26 = some (zBt P 0 5 0, zz f1 f2 f3 L T a1 a2 P a3) := by
      rw [show k + 2 * m + 31 = ((k + 2 * m + 11) + 2 * 5 + 9) + 1 by omega, zm_fh0]
      exact a5
    have st : g_X6_lucky (k + 2 * (m + 1) + 30) 2 (zz f1 f2 f3 L T g1 g2 W B) 26 seed y t i 0 = g_X6_lucky (k + 2 * m + 31) 3 (zz f1 f2 f3 L T a1 a2 P a3) 26 seed y i t (if zA (seed + i) = true then 1 else 0) := by
      rw [show k + 2 * (m + 1) + 30 = (k + 2 * m + 31) + 1 by omega]
      show b_X6_lucky_2 (g_X6_lucky (k + 2 * m + 31)) (k + 2 * m + 31) (zz f1 f2 f3 L T g1 g2 W B) 26 seed y t i 0 = _
      unfold b_X6_lucky_2
      have eall : f_X6_all (k + 2 * m + 31) (zz f1 f2 f3 L T a1 a2 P a3) 26 = some (xShl 1 5 - 1, zz f1 f2 f3 L T a1 a2 P a3) := by
        unfold f_X6_all
        rw [if_pos zm_o5, bd2_some zm_n]
      rw [if_neg (by rw [wI_id (z := i) (by omega) (by omega), wI_id (z := y) (by omega) (by omega)]; omega), if_pos zm_o5, wI_id (z := seed) (by omega) (by omega), wI_id (z := i) (by omega) (by omega), bd2_some (zm_lay (k := k + 2 * m + 19) (by omega) hW hI e1), if_pos zm_o5, bd2_some ef, if_pos zm_o5, bd2_some eall, ha]
      by_cases hz : zAl P 0 5 = true
      · rw [if_pos ((zBt_e P).mpr hz), if_pos hz]
      · rw [if_neg (fun q => hz ((zBt_e P).mp q)), if_neg hz]
    rw [st, zm_l3 (k + 2 * m + 30)]
    exact c6
theorem in_38 {b c : Int} (h : 0 ≤ b ∧ b ≤ 999999) (h2 : 0 ≤ c ∧ c ≤ 60) : zTwo (f_X5_lucky 12000 S0 0 b c) (fun S => f_X6_lucky 12000 S 26 b c) := by
  have hS : S0 = zz 0 0 0 [0, 0, 0, 0, 0, 0, 0] [0, 0, 0, 0, 0, 0, 0] 0 0 [0, 0, 0, 0, 0, 0, 0] [0, 0, 0, 0, 0, 0, 0] := rfl
  obtain ⟨f1, f2, f3, L, T, e5⟩ := zz_loop h h2 (g1 := 0) (g2 := 0) (W := [0, 0, 0, 0, 0, 0, 0]) (B := [0, 0, 0, 0, 0, 0, 0]) c.toNat (11969 - 2 * c.toNat) 0 0 0 0 0 [0, 0, 0, 0, 0, 0, 0] [0, 0, 0, 0, 0, 0, 0] rfl rfl (by decide) (by omega) (by omega)
  obtain ⟨S2, e6⟩ := zm_loop h h2 (f1 := f1) (f2 := f2) (f3 := f3) (L := L) (T := T) c.toNat (11969 - 2 * c.toNat) 0 0 0 0 [0, 0, 0, 0, 0, 0, 0] [0, 0, 0, 0, 0, 0, 0] rfl rfl (by decide) (by omega) (by omega)
  rw [show 11969 - 2 * c.toNat + 2 * c.toNat + 30 = 11999 by omega] at e5 e6
  refine ⟨zSm b 0 c.toNat 0, zz f1 f2 f3 L T 0 0 [0, 0, 0, 0, 0, 0, 0] [0, 0, 0, 0, 0, 0, 0], zSm b 0 c.toNat 0, S2, ?_, zm_o5, ?_, rfl⟩
  rotate_left
  · show b_X6_lucky_0 (g_X6_lucky 11999) 11999 (zz f1 f2 f3 L T 0 0 [0, 0, 0, 0, 0, 0, 0] [0, 0, 0, 0, 0, 0, 0]) 26 b c 0 0 0 = _
    unfold b_X6_lucky_0
    have e : f_X6_isSeed 11999 (zz f1 f2 f3 L T 0 0 [0, 0, 0, 0, 0, 0, 0] [0, 0, 0, 0, 0, 0, 0]) b = some (1, zz f1 f2 f3 L T 0 0 [0, 0, 0, 0, 0, 0, 0] [0, 0, 0, 0, 0, 0, 0]) := by
      unfold f_X6_isSeed
      rw [bd2_some (z_in1 11997 _ (by omega) (by omega) (by omega) (by omega)), if_pos (Or.inr rfl)]
    rw [bd2_some e, if_neg (by decide), bd2_some (z_in1 11997 _ (by omega) (by omega) (by omega) (by omega)), if_neg (by decide)]
    exact e6
  · rw [hS]
    show b_X5_lucky_0 (g_X5_lucky 11999) 11999 (zz 0 0 0 [0, 0, 0, 0, 0, 0, 0] [0, 0, 0, 0, 0, 0, 0] 0 0 [0, 0, 0, 0, 0, 0, 0] [0, 0, 0, 0, 0, 0, 0]) 0 b c 0 0 0 = _
    unfold b_X5_lucky_0
    rw [if_neg (by rw [wI_id (z := b) (by omega) (by omega)]; omega), if_neg (by rw [wI_id (z := b) (by omega) (by omega), show wI 999999 = 999999 from by decide]; omega), if_neg (by rw [wI_id (z := c) (by omega) (by omega)]; omega), if_pos (by rw [wI_id (z := c) (by omega) (by omega), show wI 60 = 60 from by decide]; omega)]
    exact e5
