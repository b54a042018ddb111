/-! chance: who are to find -/
theorem zy_these {T : List Int} (hT : zTk T) {g1 g2 : Int} {W B : List Int} {w : Int} : ∀ (m k : Nat) (s f1 f2 f3 : Int) (L : List Int), L.length = 7 → s + m = 5 → 0 ≤ s →
    ∃ (x f1' f2' f3' : Int) (L' : List Int), (x = 0 ∨ x = 1) ∧ L'.length = 7 ∧ g_X5_doTheseFind (k + 2 * m + 7) 1 (zz f1 f2 f3 L T g1 g2 W B) 0 24 w s = some (x, zz f1' f2' f3' L' T g1 g2 W B)
  | 0, k, s, f1, f2, f3, L, hL, hs, h0 => by
    have e : s = 5 := by omega
    subst e
    refine ⟨1, f1, f2, f3, L, Or.inr rfl, hL, ?_⟩
    rw [show k + 2 * 0 + 7 = (k + 6) + 1 by omega]
    show b_X5_doTheseFind_1 (g_X5_doTheseFind (k + 6)) (k + 6) (zz f1 f2 f3 L T g1 g2 W B) 0 24 w 5 = _
    unfold b_X5_doTheseFind_1
    rw [bind_some' zz_pr, bind_some' zz_bx, if_pos (by decide)]
  | m + 1, k, s, f1, f2, f3, L, hL, hs, h0 => by
    have hs5 : s < 5 := by omega
    obtain ⟨b, hb, hb5⟩ := hT s ⟨h0, hs5⟩
    obtain ⟨c, hc, hc5⟩ := hT b hb5
    obtain ⟨f1', f2', f3', L', hL', e⟩ := zz_does (f1 := f1) (f2 := f2) (f3 := f3) (g1 := g1) (g2 := g2) (W := W) (B := B) (k := k + 2 * m + 2) hL ⟨h0, hs5⟩ hb hb5 hc hc5
    by_cases hbit : wI (xAnd (xShr w s) 1) = wI 1
    · have st : g_X5_doTheseFind (k + 2 * (m + 1) + 7) 1 (zz f1 f2 f3 L T g1 g2 W B) 0 24 w s = (if wI (if b = s ∨ c = s then (1 : Int) else 0) = 0 then some (0, zz f1' f2' f3' L' T g1 g2 W B) else g_X5_doTheseFind (k + 2 * m + 8) 2 (zz f1' f2' f3' L' T g1 g2 W B) 0 24 w s) := by
        rw [show k + 2 * (m + 1) + 7 = (k + 2 * m + 8) + 1 by omega]
        show b_X5_doTheseFind_1 (g_X5_doTheseFind (k + 2 * m + 8)) (k + 2 * m + 8) (zz f1 f2 f3 L T g1 g2 W B) 0 24 w s = _
        unfold b_X5_doTheseFind_1
        rw [bind_some' zz_pr, bind_some' zz_bx, if_neg (by rw [wI_id (z := s) (by omega) (by omega), show wI 5 = 5 from by decide]; omega), if_pos hbit, bind_some' zz_pr, bind_some' zz_pu, bind_some' (zz_ru (by omega)), if_pos zz_o4, bd2_some e]
      rw [st]
      by_cases hf : b = s ∨ c = s
      · rw [if_pos hf, if_neg (by decide), zz_t2 (k + 2 * m + 7)]
        exact zy_these hT m k (s + 1) f1' f2' f3' L' hL' (by omega) (by omega)
      · rw [if_neg hf, if_pos (by decide)]
        exact ⟨0, f1', f2', f3', L', Or.inl rfl, hL', rfl⟩
    · have st : g_X5_doTheseFind (k + 2 * (m + 1) + 7) 1 (zz f1 f2 f3 L T g1 g2 W B) 0 24 w s = g_X5_doTheseFind (k + 2 * m + 8) 2 (zz f1 f2 f3 L T g1 g2 W B) 0 24 w s := by
        rw [show k + 2 * (m + 1) + 7 = (k + 2 * m + 8) + 1 by omega]
        show b_X5_doTheseFind_1 (g_X5_doTheseFind (k + 2 * m + 8)) (k + 2 * m + 8) (zz f1 f2 f3 L T g1 g2 W B) 0 24 w s = _
        unfold b_X5_doTheseFind_1
        rw [bind_some' zz_pr, bind_some' zz_bx, if_neg (by rw [wI_id (z := s) (by omega) (by omega), show wI 5 = 5 from by decide]; omega), if_neg hbit]
      rw [st, zz_t2 (k + 2 * m + 7)]
      exact zy_these hT m k (s + 1) f1 f2 f3 L hL (by omega) (by omega)
theorem zQ_k : ∀ r : Nat, r < 121 → (zBd (zQ r) 0 && (zBd (zQ r) 1 && (zBd (zQ r) 2 && (zBd (zQ r) 3 && zBd (zQ r) 4)))) = true := by decide +kernel
theorem zQ_t {r : Nat} (hr : r < 121) : zTk (zQ r) := by
  have h := zQ_k r hr
  obtain ⟨t0, h⟩ := (Bool.and_eq_true _ _).mp h
  obtain ⟨t1, h⟩ := (Bool.and_eq_true _ _).mp h
  obtain ⟨t2, h⟩ := (Bool.and_eq_true _ _).mp h
  obtain ⟨t3, t4⟩ := (Bool.and_eq_true _ _).mp h
  intro t ht
  rcases (show t = 0 ∨ t = 1 ∨ t = 2 ∨ t = 3 ∨ t = 4 by omega) with rfl | rfl | rfl | rfl | rfl
  · exact zBd_s t0
  · exact zBd_s t1
  · exact zBd_s t2
  · exact zBd_s t3
  · exact zBd_s t4
theorem ch_53 (k : Nat) (S : xS) (p : Nat) (w i1 i2 i3 i4 i5 : Int) : g_X5_chance (k + 1) 3 S p w i1 i2 i3 i4 i5 = g_X5_chance k 4 S p w i1 i2 (i4 + i5) i3 0 := rfl
theorem ch_5 {w : Int} {g1 g2 : Int} {W B : List Int} : ∀ (m k r : Nat) (c f1 f2 f3 : Int) (L : List Int), L.length = 7 → r + m = 120 → 0 ≤ c ∧ c ≤ r →
    ∃ (c' f1' f2' f3' : Int) (L' : List Int), (0 ≤ c' ∧ c' ≤ 120) ∧ g_X5_chance (k + 3 * m + 100) 2 (zz f1 f2 f3 L (zQ r) g1 g2 W B) 0 w 5 (r : Int) c (r : Int) 0 = g_X5_chance (k + 100) 2 (zz f1' f2' f3' L' (zQ 120) g1 g2 W B) 0 w 5 120 c' 120 0
  | 0, k, r, c, f1, f2, f3, L, hL, hr, hc => by
    have e : r = 120 := by omega
    subst e
    exact ⟨c, f1, f2, f3, L, hc, rfl⟩
  | m + 1, k, r, c, f1, f2, f3, L, hL, hr, hc => by
    obtain ⟨x, a1, a2, a3, a4, hx, a5, e⟩ := zy_these (zQ_t (r := r) (by omega)) (g1 := g1) (g2 := g2) (W := W) (B := B) (w := w) 5 (k + 3 * m + 84) 0 f1 f2 f3 L hL (by omega) (by omega)
    have e' : f_X5_doTheseFind (k + 3 * m + 102) (zz f1 f2 f3 L (zQ r) g1 g2 W B) 0 24 w = some (x, zz a1 a2 a3 a4 (zQ r) g1 g2 W B) := by
      rw [show k + 3 * m + 102 = (k + 3 * m + 84 + 2 * 5 + 7) + 1 by omega, zz_th0]
      exact e
    obtain ⟨c', b1, b2, b3, b4, b5, b6⟩ := ch_5 (w := w) (g1 := g1) (g2 := g2) (W := W) (B := B) m k (r + 1) (c + x) a1 a2 a3 a4 a5 (by omega) (by omega)
    refine ⟨c', b1, b2, b3, b4, b5, ?_⟩
    rw [← b6]
    have st : g_X5_chance (k + 3 * (m + 1) + 100) 2 (zz f1 f2 f3 L (zQ r) g1 g2 W B) 0 w 5 (r : Int) c (r : Int) 0 = g_X5_chance (k + 3 * m + 102) 3 (zz a1 a2 a3 a4 (zQ r) g1 g2 W B) 0 w 5 ((r : Int) + 1) (r : Int) c x := by
      rw [show k + 3 * (m + 1) + 100 = (k + 3 * m + 102) + 1 by omega]
      show b_X5_chance_2 (g_X5_chance (k + 3 * m + 102)) (k + 3 * m + 102) (zz f1 f2 f3 L (zQ r) g1 g2 W B) 0 w 5 (r : Int) c (r : Int) 0 = _
      unfold b_X5_chance_2
      rw [bind_some' (show rdT 5 = some 120 from by decide), if_neg (by rw [wIn (n := (r : Int)) (by omega), show wI 120 = 120 from by decide]; omega), if_pos zz_o4, bd2_some (zz_may (by omega)), if_neg (by decide), nmx_b, bind_some' zz_pt, if_pos zz_o4, bd2_some e']
      rcases hx with rfl | rfl
      · rw [if_pos (by decide)]
      · rw [if_neg (by decide)]
    have st2 : g_X5_chance (k + 3 * m + 102) 3 (zz a1 a2 a3 a4 (zQ r) g1 g2 W B) 0 w 5 ((r : Int) + 1) (r : Int) c x = g_X5_chance (k + 3 * m + 101) 4 (zz a1 a2 a3 a4 (zQ r) g1 g2 W B) 0 w 5 ((r : Int) + 1) (c + x) (r : Int) 0 := ch_53 (k + 3 * m + 101) _ _ _ _ _ _ _ _
    have st3 : g_X5_chance (k + 3 * m + 101) 4 (zz a1 a2 a3 a4 (zQ r) g1 g2 W B) 0 w 5 ((r : Int) + 1) (c + x) (r : Int) 0 = g_X5_chance (k + 3 * m + 100) 2 (zz a1 a2 a3 a4 (zQ (r + 1)) g1 g2 W B) 0 w 5 (((r + 1 : Nat)) : Int) (c + x) (((r + 1 : Nat)) : Int) 0 := by
      rw [show k + 3 * m + 101 = (k + 3 * m + 100) + 1 by omega]
      show b_X5_chance_4 (g_X5_chance (k + 3 * m + 100)) (k + 3 * m + 100) (zz a1 a2 a3 a4 (zQ r) g1 g2 W B) 0 w 5 ((r : Int) + 1) (c + x) (r : Int) 0 = _
      unfold b_X5_chance_4
      rw [bind_some' zz_pt, bd2_some (zz_next (by omega) (by omega)), nmx_b, show (((r + 1 : Nat)) : Int) = (r : Int) + 1 by omega]
    rw [st, st2, st3]
def zF0 : xS := [.inr (.inr (4, [.inr (.inr (some 1)), .inr (.inr (some 10)), .inr (.inr (some 19)), .inr (.inr (some 20)), .inr (.inr (some 22)), .inr (.inr (some 24)), .inr (.inr (some 25)), .inr (.inr none), .inr (.inl 0), .inr (.inl 1), .inl 0, .inl 0, .inl 0]))]
def zF1 (S : xS) : Bool := match S with
  | [c] => !(zD99 c)
  | _ => false
theorem zF1_s {S : xS} (h : zF1 S = true) : ∃ c, S = [c] ∧ zD99 c = false := by
  unfold zF1 at h
  split at h
  · next c => exact ⟨c, rfl, by simpa using h⟩
  · cases h
theorem zF0_all : ∀ c : Nat, c < 121 → zAny (f_X5_setFraction 60 zF0 0 (c : Int) 120) (fun z => zF1 z.2) = true := by decide +kernel
def zt (c : xC) (S : xS) : xS := c :: S.tail
theorem zz_sf {f1 f2 f3 : Int} {L T : List Int} {g1 g2 : Int} {W B : List Int} {k : Nat} {c : Int} (hk : 60 ≤ k) (hc : 0 ≤ c ∧ c ≤ 120) : ∃ x d, f_X5_setFraction k (zz f1 f2 f3 L T g1 g2 W B) 0 c 120 = some (x, zt d (zz f1 f2 f3 L T g1 g2 W B)) := by
  obtain ⟨n, rfl⟩ : ∃ n : Nat, c = (n : Int) := ⟨c.toNat, by omega⟩
  obtain ⟨⟨x, S⟩, e, h⟩ := zAny_s (zF0_all n (by omega))
  obtain ⟨d, hd, hD⟩ := zF1_s h
  have hd : S = [d] := hd
  subst hd
  refine ⟨x, d, ?_⟩
  have q := frf_X5_setFraction (X := zz f1 f2 f3 L T g1 g2 W B) k hk zF0 0 (n : Int) 120 x [d] e
  have q1 : zmg zF0 (zz f1 f2 f3 L T g1 g2 W B) = zz f1 f2 f3 L T g1 g2 W B := rfl
  have q2 : zmg [d] (zz f1 f2 f3 L T g1 g2 W B) = (if zD99 d = true then .inr (.inr (4, [.inr (.inr (some 1)), .inr (.inr (some 10)), .inr (.inr (some 19)), .inr (.inr (some 20)), .inr (.inr (some 22)), .inr (.inr (some 24)), .inr (.inr (some 25)), .inr (.inr none), .inr (.inl 0), .inr (.inl 1), .inl 0, .inl 0, .inl 0])) else d) :: (zz f1 f2 f3 L T g1 g2 W B).tail := rfl
  rw [q1, q2, if_neg (by rw [hD]; decide)] at q
  exact q
/-- the reference -/
noncomputable def zCf (r : Int) (S : xS) : Option xS := (zCs r S).bind fun S => if isO 5 S 26 = true then (bd2 (f_X6_findsHand 200 S 26) fun _ S => some S) else none
theorem fu_finds {k : Nat} {S S' : xS} {x : Int} (hk : 200 ≤ k) (h : f_X6_findsHand 200 S 26 = some (x, S')) : f_X6_findsHand k S 26 = some (x, S') := by
  have := frf_X6_findsHand (X := []) k hk S 26 x S' h
  rwa [zmg_nil, zmg_nil] at this
theorem fu_tell {k : Nat} {S S' : xS} {x a b : Int} (hk : 200 ≤ k) (h : f_X6_tell 200 S 26 a b = some (x, S')) : f_X6_tell k S 26 a b = some (x, S') := by
  have := frf_X6_tell (X := []) k hk S 26 a b x S' h
  rwa [zmg_nil, zmg_nil] at this
theorem ch_62 (k : Nat) (S : xS) (p : Nat) (w i1 i2 i3 i4 : Int) : g_X6_chance (k + 2) 2 S p w i1 i2 i3 i4 = g_X6_chance k 1 S p w i1 (i3 + i4) (i2 + 1) 0 := rfl
theorem ch_6 {w : Int} : ∀ (n k : Nat) (r c : Int) (S S' : xS), zIt zCf n r S = some S' → 0 ≤ r → r + n = 120 → 0 ≤ c ∧ c ≤ r →
    ∃ c' : Int, (0 ≤ c' ∧ c' ≤ 120) ∧ g_X6_chance (k + 3 * n + 300) 1 S 26 w r c r 0 = g_X6_chance (k + 300) 1 S' 26 w 120 c' 120 0
  | 0, k, r, c, S, S', h, h0, hr, hc => by
    cases h
    have e : r = 120 := by omega
    subst e
    exact ⟨c, hc, rfl⟩
  | n + 1, k, r, c, S, S', h, h0, hr, hc => by
    obtain ⟨T, hF, hI⟩ := zIt_s h
    obtain ⟨S3, hF, hG⟩ := ob hF
    obtain ⟨h4, hG⟩ := ift hG
    obtain ⟨M, T', e4, hG⟩ := ob2 hG
    cases hG
    obtain ⟨h1, S1, e1, h2, x, S2, e2, h3, e3⟩ := zCs_s hF
    have st : g_X6_chance (k + 3 * (n + 1) + 300) 1 S 26 w r c r 0 = g_X6_chance (k + 3 * n + 302) 2 T 26 w (r + 1) r c (if wI (xAnd M w) = wI w then 1 else 0) := by
      rw [show k + 3 * (n + 1) + 300 = (k + 3 * n + 302) + 1 by omega]
      show b_X6_chance_1 (g_X6_chance (k + 3 * n + 302)) (k + 3 * n + 302) S 26 w r c r 0 = _
      unfold b_X6_chance_1
      rw [if_pos h1, bd2_some (fu_ways (by omega) e1), if_neg (by rw [wIn (n := r) (by omega), show wI 120 = 120 from by decide]; omega), if_pos h2, bd2_some (fu_take (by omega) e2), if_pos h3, bd2_some (fu_isSo (by omega) e3), if_neg (by decide), nmx_b, if_pos h4, bd2_some (fu_finds (by omega) e4)]
      by_cases hq : wI (xAnd M w) = wI w
      · rw [if_pos hq, if_pos hq]
      · rw [if_neg hq, if_neg hq]
    have hx : (if wI (xAnd M w) = wI w then (1 : Int) else 0) = 0 ∨ (if wI (xAnd M w) = wI w then (1 : Int) else 0) = 1 := z01
    generalize (if wI (xAnd M w) = wI w then (1 : Int) else 0) = y at st hx
    obtain ⟨c', hc', e⟩ := ch_6 (w := w) n k (r + 1) (c + y) T S' hI (by omega) (by omega) (by omega)
    refine ⟨c', hc', ?_⟩
    rw [st, ch_62 (k + 3 * n + 300)]
    exact e
set_option maxRecDepth 100000 in
theorem zR_ch : zAny (zIt zCf 120 0 zR) (fun S => isO 5 S 26 && zAny (f_X6_ways 200 S 26) (fun z => z.1 == 120 && (isO 5 z.2 26 && decide (∀ c : Nat, c < 121 → zAny (f_X6_tell 200 z.2 26 (c : Int) 120) (fun y => y.1 == 1) = true)))) = true := by decide +kernel
theorem zR_o5 : isO 5 zR 26 = true := by decide +kernel
theorem zR_al : f_X6_all 11999 zR 26 = some (31, zR) := zeO_s (by decide +kernel)
theorem ch_r {w : Int} (hw : 0 ≤ w ∧ w ≤ 31) : ∃ S', f_X6_chance 12000 zR 26 w = some (1, S') := by
  obtain ⟨S, e, h⟩ := zAny_s zR_ch
  obtain ⟨h1, h⟩ := (Bool.and_eq_true _ _).mp h
  obtain ⟨⟨u, T⟩, e2, h⟩ := zAny_s h
  obtain ⟨h2, h⟩ := (Bool.and_eq_true _ _).mp h
  obtain ⟨h3, h⟩ := (Bool.and_eq_true _ _).mp h
  have hu : u = 120 := beq_iff_eq.mp h2
  subst hu
  have h := of_decide_eq_true h
  obtain ⟨c', hc', e3⟩ := ch_6 (w := w) 120 11339 0 0 zR S e (by omega) (by omega) (by omega)
  rw [show 11339 + 3 * 120 + 300 = 11999 by omega, show 11339 + 300 = 11639 by omega] at e3
  obtain ⟨n, hn⟩ : ∃ n : Nat, c' = (n : Int) := ⟨c'.toNat, by omega⟩
  obtain ⟨⟨y, U⟩, e4, h4⟩ := zAny_s (h n (by omega))
  have hy : y = 1 := beq_iff_eq.mp h4
  subst hy
  rw [← hn] at e4
  refine ⟨U, ?_⟩
  show b_X6_chance_0 (g_X6_chance 11999) 11999 zR 26 w 0 0 0 0 = _
  unfold b_X6_chance_0
  rw [if_pos zR_o5, bd2_some zR_al, show wI 31 = 31 from by decide, bd2_some (z_in1 11997 zR (by omega) (by omega) (by omega) (by omega)), if_neg (by decide)]
  refine e3.trans ?_
  show b_X6_chance_1 (g_X6_chance 11638) 11638 S 26 w 120 c' 120 0 = _
  unfold b_X6_chance_1
  rw [if_pos h1, bd2_some (fu_ways (by omega) e2), if_pos (by decide), if_neg (by decide), if_pos h3, wIn (n := c') (by omega), show wI 120 = 120 from by decide, bd2_some (fu_tell (by omega) e4)]
theorem zt_o5 {f1 f2 f3 : Int} {L T : List Int} {g1 g2 : Int} {W B : List Int} {d : xC} : isO 5 (zt d (zz f1 f2 f3 L T g1 g2 W B)) 26 = true := rfl
theorem zR_zt {f1 f2 f3 : Int} {L T : List Int} {d : xC} : zmg zR (zt d (zz f1 f2 f3 L T 0 0 [0, 0, 0, 0, 0, 0, 0] [0, 0, 0, 0, 0, 0, 0])) = zt d (zz f1 f2 f3 L T 0 0 [0, 0, 0, 0, 0, 0, 0] [0, 0, 0, 0, 0, 0, 0]) := rfl
theorem in_31 {b : Int} (h : 0 ≤ b ∧ b ≤ 31) : zTwo (f_X5_chance 12000 S0 0 b) (fun S => f_X6_chance 12000 S 26 b) := by
  have hS : S0 = zz 0 0 0 [0, 0, 0, 0, 0, 0, 0] [0, 0, 0, 0, 0, 0, 0] 0 0 [0, 0, 0, 0, 0, 0, 0] [0, 0, 0, 0, 0, 0, 0] := rfl
  obtain ⟨c, f1, f2, f3, L, hc, e5⟩ := ch_5 (w := b) (g1 := 0) (g2 := 0) (W := [0, 0, 0, 0, 0, 0, 0]) (B := [0, 0, 0, 0, 0, 0, 0]) 120 11539 0 0 0 0 0 [0, 0, 0, 0, 0, 0, 0] rfl (by omega) (by omega)
  rw [show 11539 + 3 * 120 + 100 = 11999 by omega, show 11539 + 100 = 11639 by omega, show (((0 : Nat)) : Int) = 0 from rfl] at e5
  obtain ⟨x, d, e7⟩ := zz_sf (f1 := f1) (f2 := f2) (f3 := f3) (L := L) (T := zQ 120) (g1 := 0) (g2 := 0) (W := [0, 0, 0, 0, 0, 0, 0]) (B := [0, 0, 0, 0, 0, 0, 0]) (k := 11638) (by omega) hc
  obtain ⟨S', e6⟩ := ch_r h
  have e6' := frf_X6_chance (X := zt d (zz f1 f2 f3 L (zQ 120) 0 0 [0, 0, 0, 0, 0, 0, 0] [0, 0, 0, 0, 0, 0, 0])) 12000 (by omega) zR 26 b 1 S' e6
  rw [zR_zt] at e6'
  refine ⟨1, zt d (zz f1 f2 f3 L (zQ 120) 0 0 [0, 0, 0, 0, 0, 0, 0] [0, 0, 0, 0, 0, 0, 0]), 1, _, ?_, zt_o5, e6', rfl⟩
  rw [hS]
  show b_X5_chance_0 (g_X5_chance 11999) 11999 (zz 0 0 0 [0, 0, 0, 0, 0, 0, 0] [0, 0, 0, 0, 0, 0, 0] 0 0 [0, 0, 0, 0, 0, 0, 0] [0, 0, 0, 0, 0, 0, 0]) 0 b 0 0 0 0 0 = _
  unfold b_X5_chance_0
  rw [bind_some' zz_pr, bind_some' zz_bx, if_neg (by rw [wIn (n := b) (by omega)]; omega), if_pos (by rw [wIn (n := b) (by omega), show wI (xShl 1 5) = 32 from by decide]; omega), bind_some' zz_pt, bd2_some (zz_first (k := 11992) rfl)]
  refine e5.trans ?_
  show b_X5_chance_2 (g_X5_chance 11638) 11638 (zz f1 f2 f3 L (zQ 120) 0 0 [0, 0, 0, 0, 0, 0, 0] [0, 0, 0, 0, 0, 0, 0]) 0 b 5 120 c 120 0 = _
  unfold b_X5_chance_2
  rw [bind_some' (show rdT 5 = some 120 from by decide), if_pos (by decide), if_neg (by decide), if_pos zz_o4, wIn (n := c) (by omega), show wI 120 = 120 from by decide, bd2_some e7]
