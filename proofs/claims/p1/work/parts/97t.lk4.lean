def zBt (W : List Int) : Int → Nat → Int → Int
  | _, 0, acc => acc
  | s, m + 1, acc => zBt W (s + 1) m (xOr acc (if zFd W s = true then xShl 1 s else 0))
theorem zm_f2 (k : Nat) (S : xS) (p : Nat) (s acc bit : Int) : g_X6_findsHand (k + 1) 2 S p s acc bit = g_X6_findsHand k 1 S p (xOr acc bit) (s + 1) 0 := rfl
theorem zm_finds {f1 f2 f3 : Int} {L T : List Int} {W : List Int} (hW : zTk W) : ∀ (m k : Nat) (s acc g1 g2 : Int) (B : List Int), B.length = 7 → s + m = 5 → 0 ≤ s →
    ∃ (g1' g2' : Int) (B' : List Int), B'.length = 7 ∧ g_X6_findsHand (k + 2 * m + 9) 1 (zz f1 f2 f3 L T g1 g2 W B) 26 acc s 0 = some (zBt W s m acc, zz f1 f2 f3 L T g1' g2' W B')
  | 0, k, s, acc, g1, g2, B, hB, hs, h0 => by
    have e : s = 5 := by omega
    subst e
    refine ⟨g1, g2, B, hB, ?_⟩
    rw [show k + 2 * 0 + 9 = (k + 8) + 1 by omega]
    show b_X6_findsHand_1 (g_X6_findsHand (k + 8)) (k + 8) (zz f1 f2 f3 L T g1 g2 W B) 26 acc 5 0 = _
    unfold b_X6_findsHand_1
    rw [if_pos zm_o5, bd2_some zm_n, if_pos (by decide)]
    rfl
  | m + 1, k, s, acc, g1, g2, B, hB, hs, h0 => by
    have hs5 : s < 5 := by omega
    obtain ⟨b, hb, hb5⟩ := hW s ⟨h0, hs5⟩
    obtain ⟨c, hc, hc5⟩ := hW b hb5
    obtain ⟨g1', B', hB', e⟩ := zm_seek (f1 := f1) (f2 := f2) (f3 := f3) (L := L) (T := T) (g1 := g1) (g2 := g2) (k := k + 2 * m + 2) hB ⟨h0, hs5⟩ hb hb5 hc hc5
    obtain ⟨a1, a2, a3, a4, a5⟩ := zm_finds (f1 := f1) (f2 := f2) (f3 := f3) (L := L) (T := T) hW m k (s + 1) (xOr acc (if zFd W s = true then xShl 1 s else 0)) g1' (if b = s ∨ c = s then 1 else 0) B' hB' (by omega) (by omega)
    refine ⟨a1, a2, a3, a4, ?_⟩
    have st : g_X6_findsHand (k + 2 * (m + 1) + 9) 1 (zz f1 f2 f3 L T g1 g2 W B) 26 acc s 0 = g_X6_findsHand (k + 2 * m + 10) 2 (zz f1 f2 f3 L T g1' (if b = s ∨ c = s then 1 else 0) W B') 26 s acc (if zFd W s = true then xShl 1 s else 0) := by
      rw [show k + 2 * (m + 1) + 9 = (k + 2 * m + 10) + 1 by omega]
      show b_X6_findsHand_1 (g_X6_findsHand (k + 2 * m + 10)) (k + 2 * m + 10) (zz f1 f2 f3 L T g1 g2 W B) 26 acc s 0 = _
      unfold b_X6_findsHand_1
      rw [if_pos zm_o5, bd2_some zm_n, if_neg (by rw [wI_id (z := s) (by omega) (by omega), show wI 5 = 5 from by decide]; omega), if_pos zm_o5, bd2_some e, bind_some' zm_r10]
      by_cases hf : b = s ∨ c = s
      · rw [if_pos hf, if_neg (by decide), if_pos ((zFd_e hb hc).mpr hf)]
      · rw [if_neg hf, if_pos (by decide), if_neg (fun q => hf ((zFd_e hb hc).mp q))]
    rw [st, zm_f2 (k + 2 * m + 9)]
    exact a5
theorem zm_fh0 (k : Nat) (S : xS) : f_X6_findsHand (k + 1) S 26 = g_X6_findsHand k 1 S 26 0 0 0 := rfl
theorem zBt_e (W : List Int) : (wI (zBt W 0 5 0) = wI (xShl 1 5 - 1)) = (zAl W 0 5 = true) := by
  show (wI (xOr (xOr (xOr (xOr (xOr 0 (if zFd W 0 = true then xShl 1 0 else 0)) (if zFd W (0 + 1) = true then xShl 1 (0 + 1) else 0)) (if zFd W (0 + 1 + 1) = true then xShl 1 (0 + 1 + 1) else 0)) (if zFd W (0 + 1 + 1 + 1) = true then xShl 1 (0 + 1 + 1 + 1) else 0)) (if zFd W (0 + 1 + 1 + 1 + 1) = true then xShl 1 (0 + 1 + 1 + 1 + 1) else 0)) = wI (xShl 1 5 - 1)) = ((zFd W 0 && (zFd W (0 + 1) && (zFd W (0 + 1 + 1) && (zFd W (0 + 1 + 1 + 1) && (zFd W (0 + 1 + 1 + 1 + 1) && true))))) = true)
  generalize zFd W 0 = b0
  generalize zFd W (0 + 1) = b1
  generalize zFd W (0 + 1 + 1) = b2
  generalize zFd W (0 + 1 + 1 + 1) = b3
  generalize zFd W (0 + 1 + 1 + 1 + 1) = b4
  apply propext
  revert b0 b1 b2 b3 b4
  decide +kernel
/-- the way of four numbers -/
def zXc (T : List Int) (i j : Int) : Option (List Int) := match T[i.toNat]? with
  | none => none
  | some u => match T[j.toNat]? with
    | none => none
    | some v => some ((T.set i.toNat v).set j.toNat u)
def zPm (T : List Int) (a b c d : Int) : Option (List Int) := (zXc T 4 a).bind fun T => (zXc T 3 b).bind fun T => (zXc T 2 c).bind fun T => zXc T 1 d
theorem zXc_l {T T' : List Int} {i j : Int} (h : zXc T i j = some T') : T'.length = T.length := by
  unfold zXc at h
  split at h
  · cases h
  · split at h
    · cases h
    · cases h
      rw [List.length_set, List.length_set]
theorem zz_wT {f1 f2 f3 : Int} {L T : List Int} {g1 g2 : Int} {W B : List Int} {i v : Int} (hT : T.length = 7) (hi : 0 ≤ i ∧ i < 7) : wrA 0 (zz f1 f2 f3 L T g1 g2 W B) 24 i v = some (zz f1 f2 f3 L (T.set i.toNat v) g1 g2 W B) := by
  rw [wrA_of (L := T) (q := 24) rfl hi.1 (by omega) (by omega)]
  rfl
theorem zz_ex {f1 f2 f3 : Int} {L T T' : List Int} {g1 g2 : Int} {W B : List Int} {i j : Int} {k : Nat} (hT : T.length = 7) (hi : 0 ≤ i ∧ i < 7) (hj : 0 ≤ j ∧ j < 7) (h : zXc T i j = some T') : f_X4_exchange k (zz f1 f2 f3 L T g1 g2 W B) 24 i j = some (0, zz f1 f2 f3 L T' g1 g2 W B) := by
  unfold zXc at h
  split at h
  · cases h
  · next u hu =>
    split at h
    · cases h
    · next v hv =>
      cases h
      unfold f_X4_exchange
      rw [bind_some' (zz_rT hi hu), bind_some' (zz_rT hj hv), bind_some' (zz_wT hT hi), bind_some' (zz_wT (by rw [List.length_set, hT]) hj)]
theorem zm_wW {f1 f2 f3 : Int} {L T : List Int} {g1 g2 : Int} {W B : List Int} {i v : Int} (hW : W.length = 7) (hi : 0 ≤ i ∧ i < 7) : wrA 0 (zz f1 f2 f3 L T g1 g2 W B) 31 i v = some (zz f1 f2 f3 L T g1 g2 (W.set i.toNat v) B) := by
  rw [wrA_of (L := W) (q := 31) rfl hi.1 (by omega) (by omega)]
  rfl
theorem zm_ex {f1 f2 f3 : Int} {L T W' : List Int} {g1 g2 : Int} {W B : List Int} {i j : Int} {k : Nat} (hW : W.length = 7) (hi : 0 ≤ i ∧ i < 7) (hj : 0 ≤ j ∧ j < 7) (h : zXc W i j = some W') : f_X6_swapHand k (zz f1 f2 f3 L T g1 g2 W B) 26 i j = some (0, zz f1 f2 f3 L T g1 g2 W' B) := by
  unfold zXc at h
  split at h
  · cases h
  · next u hu =>
    split at h
    · cases h
    · next v hv =>
      cases h
      unfold f_X6_swapHand
      rw [bind_some' zm_p6, bind_some' (zm_rW hi hu), bind_some' zm_p6, bind_some' zm_p6, bind_some' (zm_rW hj hv), bind_some' (zm_wW hW hi), bind_some' zm_p6, bind_some' (zm_wW (by rw [List.length_set, hW]) hj)]
theorem zz_E5 {f1 f2 f3 : Int} {L T T' : List Int} {g1 g2 : Int} {W B : List Int} {a b c d : Int} (hT : T.length = 7) (ha : 0 ≤ a ∧ a < 5) (hb : 0 ≤ b ∧ b < 5) (hc : 0 ≤ c ∧ c < 5) (hd : 0 ≤ d ∧ d < 5) (h : zPm T a b c d = some T') : zE5 (zz f1 f2 f3 L T g1 g2 W B) 24 a b c d = some (0, zz f1 f2 f3 L T' g1 g2 W B) := by
  obtain ⟨T1, h1, h⟩ := ob h
  obtain ⟨T2, h2, h⟩ := ob h
  obtain ⟨T3, h3, h⟩ := ob h
  have l1 := zXc_l h1
  have l2 := zXc_l h2
  have l3 := zXc_l h3
  unfold zE5
  rw [bd2_some (zz_ex hT (by omega) (by omega) h1), bd2_some (zz_ex (by omega) (by omega) (by omega) h2), bd2_some (zz_ex (by omega) (by omega) (by omega) h3), bd2_some (zz_ex (by omega) (by omega) (by omega) h)]
theorem zm_E6 {f1 f2 f3 : Int} {L T W' : List Int} {g1 g2 : Int} {W B : List Int} {a b c d : Int} (hW : W.length = 7) (ha : 0 ≤ a ∧ a < 5) (hb : 0 ≤ b ∧ b < 5) (hc : 0 ≤ c ∧ c < 5) (hd : 0 ≤ d ∧ d < 5) (h : zPm W a b c d = some W') : zE6 (zz f1 f2 f3 L T g1 g2 W B) a b c d = some (0, zz f1 f2 f3 L T g1 g2 W' B) := by
  obtain ⟨T1, h1, h⟩ := ob h
  obtain ⟨T2, h2, h⟩ := ob h
  obtain ⟨T3, h3, h⟩ := ob h
  have l1 := zXc_l h1
  have l2 := zXc_l h2
  have l3 := zXc_l h3
  unfold zE6
  rw [if_pos zm_o5, bd2_some (zm_ex hW (by omega) (by omega) h1), if_pos zm_o5, bd2_some (zm_ex (by omega) (by omega) (by omega) h2), if_pos zm_o5, bd2_some (zm_ex (by omega) (by omega) (by omega) h3), if_pos zm_o5, bd2_some (zm_ex (by omega) (by omega) (by omega) h)]
