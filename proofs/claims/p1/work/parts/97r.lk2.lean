def zFd (T : List Int) (s : Int) : Bool := match T[s.toNat]? with
  | none => false
  | some b => decide (b = s) || (match T[b.toNat]? with
    | none => false
    | some c => decide (c = s))
def zAl (T : List Int) : Int → Nat → Bool
  | _, 0 => true
  | s, m + 1 => zFd T s && zAl T (s + 1) m
def zTk (T : List Int) : Prop := ∀ t : Int, 0 ≤ t ∧ t < 5 → ∃ b, T[t.toNat]? = some b ∧ 0 ≤ b ∧ b < 5
theorem zFd_e {T : List Int} {s b c : Int} (hb : T[s.toNat]? = some b) (hc : T[b.toNat]? = some c) : (zFd T s = true) = (b = s ∨ c = s) := by
  have e : zFd T s = (decide (b = s) || decide (c = s)) := by
    unfold zFd
    rw [hb]
    show (decide (b = s) || (match T[b.toNat]? with | none => false | some c => decide (c = s))) = _
    rw [hc]
  rw [e, Bool.or_eq_true, decide_eq_true_eq, decide_eq_true_eq]
theorem zz_t2 (k : Nat) (S : xS) (p q : Nat) (i s : Int) : g_X5_doTheseFind (k + 1) 2 S p q i s = g_X5_doTheseFind k 1 S p q i (s + 1) := rfl
theorem zz_these {T : List Int} (hT : zTk T) {g1 g2 : Int} {W B : List Int} : ∀ (m k : Nat) (s f1 f2 f3 : Int) (L : List Int), L.length = 7 → s + m = 5 → 0 ≤ s →
    ∃ (f1' f2' f3' : Int) (L' : List Int), L'.length = 7 ∧ g_X5_doTheseFind (k + 2 * m + 7) 1 (zz f1 f2 f3 L T g1 g2 W B) 0 24 31 s = some (if zAl T s m = true then 1 else 0, zz f1' f2' f3' L' T g1 g2 W B)
  | 0, k, s, f1, f2, f3, L, hL, hs, h0 => by
    have e : s = 5 := by omega
    subst e
    refine ⟨f1, f2, f3, L, hL, ?_⟩
    rw [show k + 2 * 0 + 7 = (k + 6) + 1 by omega]
    show b_X5_doTheseFind_1 (g_X5_doTheseFind (k + 6)) (k + 6) (zz f1 f2 f3 L T g1 g2 W B) 0 24 31 5 = _
    unfold b_X5_doTheseFind_1
    rw [bind_some' zz_pr, bind_some' zz_bx, if_pos (by decide), if_pos (show zAl T 5 0 = true from rfl)]
  | m + 1, k, s, f1, f2, f3, L, hL, hs, h0 => by
    have hs5 : s < 5 := by omega
    obtain ⟨b, hb, hb5⟩ := hT s ⟨h0, hs5⟩
    obtain ⟨c, hc, hc5⟩ := hT b hb5
    obtain ⟨f1', f2', f3', L', hL', e⟩ := zz_does (f1 := f1) (f2 := f2) (f3 := f3) (g1 := g1) (g2 := g2) (W := W) (B := B) (k := k + 2 * m + 2) hL ⟨h0, hs5⟩ hb hb5 hc hc5
    have key : ∀ n : Nat, n < 5 → wI (xAnd (xShr 31 (n : Int)) 1) = wI 1 := by decide +kernel
    have hbit : wI (xAnd (xShr 31 s) 1) = wI 1 := by
      have := key s.toNat (by omega)
      rwa [show ((s.toNat : Nat) : Int) = s by omega] at this
    have st : g_X5_doTheseFind (k + 2 * (m + 1) + 7) 1 (zz f1 f2 f3 L T g1 g2 W B) 0 24 31 s = (if wI (if b = s ∨ c = s then (1 : Int) else 0) = 0 then some (0, zz f1' f2' f3' L' T g1 g2 W B) else g_X5_doTheseFind (k + 2 * m + 8) 2 (zz f1' f2' f3' L' T g1 g2 W B) 0 24 31 s) := by
      rw [show k + 2 * (m + 1) + 7 = (k + 2 * m + 8) + 1 by omega]
      show b_X5_doTheseFind_1 (g_X5_doTheseFind (k + 2 * m + 8)) (k + 2 * m + 8) (zz f1 f2 f3 L T g1 g2 W B) 0 24 31 s = _
      unfold b_X5_doTheseFind_1
      rw [bind_some' zz_pr, bind_some' zz_bx, if_neg (by rw [wI_id (z := s) (by omega) (by omega), show wI 5 = 5 from by decide]; omega), if_pos hbit, bind_some' zz_pr, bind_some' zz_pu, bind_some' (zz_ru (by omega)), if_pos zz_o4, bd2_some e]
    rw [st]
    by_cases hf : b = s ∨ c = s
    · rw [if_pos hf, if_neg (by decide)]
      obtain ⟨a1, a2, a3, a4, a5, a6⟩ := zz_these hT m k (s + 1) f1' f2' f3' L' hL' (by omega) (by omega)
      refine ⟨a1, a2, a3, a4, a5, ?_⟩
      have hz : zAl T s (m + 1) = zAl T (s + 1) m := by
        show (zFd T s && zAl T (s + 1) m) = _
        rw [(zFd_e hb hc).mpr hf, Bool.true_and]
      rw [hz, zz_t2 (k + 2 * m + 7)]
      exact a6
    · rw [if_neg hf, if_pos (by decide)]
      refine ⟨f1', f2', f3', L', hL', ?_⟩
      have hz : zAl T s (m + 1) = false := by
        show (zFd T s && zAl T (s + 1) m) = _
        rw [Bool.eq_false_iff.mpr (fun q => hf ((zFd_e hb hc).mp q)), Bool.false_and]
      rw [hz]
      rfl
theorem zz_th0 (k : Nat) (S : xS) (p q : Nat) (i : Int) : f_X5_doTheseFind (k + 1) S p q i = g_X5_doTheseFind k 1 S p q i 0 := rfl
theorem zz_all {T : List Int} (hT : zTk T) {g1 g2 : Int} {W B : List Int} {k : Nat} {f1 f2 f3 : Int} {L : List Int} (hL : L.length = 7) :
    ∃ (f1' f2' f3' : Int) (L' : List Int), L'.length = 7 ∧ f_X5_doAllFind (k + 18) (zz f1 f2 f3 L T g1 g2 W B) 0 24 = some (if zAl T 0 5 = true then 1 else 0, zz f1' f2' f3' L' T g1 g2 W B) := by
  obtain ⟨a1, a2, a3, a4, a5, a6⟩ := zz_these hT (g1 := g1) (g2 := g2) (W := W) (B := B) 5 k 0 f1 f2 f3 L hL (by omega) (by omega)
  refine ⟨a1, a2, a3, a4, a5, ?_⟩
  unfold f_X5_doAllFind
  have e : f_X5_doTheseFind (k + 18) (zz f1 f2 f3 L T g1 g2 W B) 0 24 31 = some (if zAl T 0 5 = true then 1 else 0, zz a1 a2 a3 a4 T g1 g2 W B) := by
    rw [show k + 18 = (k + 2 * 5 + 7) + 1 by omega, zz_th0]
    exact a6
  rw [bind_some' zz_pr, bind_some' zz_bx, if_pos zz_o4, show xShl 1 5 - 1 = 31 from by decide, bd2_some e, if_pos z01]
