variable {n nd tl : Int} {rp : Option Nat} {im : List (Option Nat)} {E : xT} {N : Nat}
theorem sf_hi {q : Nat} : ∀ (k : Nat) (S : xS) (K : List Int) (b : Int), S[q]? = some (.inl (0, K)) → K.length = 7 → tR 0 6 K → 0 ≤ b ∧ b ≤ 7 → (∀ j : Nat, (j : Int) < b → K[j]? = some (j : Int)) → 7 - b + 1 ≤ (k : Int) → ∃ K', g_X4_setToFirst k 1 S q 7 b = some (0, S.set q (.inl (0, K'))) ∧ K'.length = 7 ∧ tR 0 6 K' ∧ pm K' := by
  intro k
  induction k with
  | zero => intro S K b _ _ _ _ _ _; exfalso; omega
  | succ k ih =>
    intro S K b e0 hK hr hb' hI hk
    have hpl : q < S.length := (List.getElem?_eq_some_iff.mp e0).1
    show ∃ K', b_X4_setToFirst_1 (g_X4_setToFirst k) k S q 7 b = some (0, S.set q (.inl (0, K'))) ∧ K'.length = 7 ∧ tR 0 6 K' ∧ pm K'
    unfold b_X4_setToFirst_1
    by_cases hc : 7 ≤ b
    · rw [if_pos (by rw [wIn (n := 7) (by omega) (by omega), wIn (n := b) (by omega) (by omega)]; exact hc)]
      refine ⟨K, ?_, hK, hr, fun i j hi hj e => ?_, fun v hv => ?_⟩
      · have : S.set q (.inl (0, K)) = S := by
          obtain ⟨h1, h2⟩ := List.getElem?_eq_some_iff.mp e0
          rw [← h2]
          exact List.set_getElem_self h1
        rw [this]
      · rw [hI i (by omega), hI j (by omega)] at e
        have := Option.some.inj e
        omega
      · refine ⟨v.toNat, by omega, ?_⟩
        rw [hI v.toNat (by omega), show ((v.toNat : Nat) : Int) = v by omega]
    · rw [if_neg (by rw [wIn (n := 7) (by omega) (by omega), wIn (n := b) (by omega) (by omega)]; exact hc), bind_some' (wrA_of e0 (by omega) (by omega) (by omega)), nmx_b]
      obtain ⟨K', e', hK', hr', hp'⟩ := ih (S.set q (.inl (0, K.set b.toNat b))) (K.set b.toNat b) (b + 1) (List.getElem?_set_self hpl) (by rw [List.length_set]; exact hK) (tR_set (by omega) _ hr) (by omega)
        (fun j hj => by
          by_cases hjb : (j : Int) < b
          · rw [List.getElem?_set_ne (by omega)]
            exact hI j hjb
          · have : b.toNat = j := by omega
            rw [this, List.getElem?_set_self (by omega), show b = (j : Int) by omega])
        (by omega)
      exact ⟨K', by rw [e', List.set_set], hK', hr', hp'⟩
theorem ok_setFirstU {G : xT} {N : Nat} {q : Nat} {P : List Int → Prop} {m : Int} (hq : q < N) (hG : G q = tA 0 7 P) (hP : ∀ L, P L → tR 0 6 L) (hm : 2 ≤ m ∧ m ≤ 7) {k : Nat} {S : xS} (hS : Hp G N S) (hk : 12 ≤ (k : Int)) : Ok (f_X4_setToFirst k S q m) (fun _ S' => Hp (up G q (tA 0 7 (sl m))) N S' ∧ True) := by
  by_cases h7 : m = 7
  · subst h7
    obtain ⟨c, e, hc⟩ := hp_get hS hq
    rw [hG] at hc
    obtain ⟨L, rfl, hL, hs⟩ := hc
    obtain ⟨k, rfl⟩ : ∃ k', k = k' + 1 := ⟨k - 1, by omega⟩
    obtain ⟨K', e', hK', hr', hp'⟩ := sf_hi (q := q) k S L 0 e hL (hP L hs) (by omega) (fun j hj => by omega) (by omega)
    exact ⟨0, S.set q (.inl (0, K')), e', hp_up hS ⟨K', rfl, hK', hr', fun _ => hp'⟩, trivial⟩
  · have hS2 : Hp (up G q (tA 0 7 (tR 0 6))) N S := hp_weak hS (fun q' c hc => by
      by_cases hqq : q' = q
      · subst hqq
        rw [up_self]
        rw [hG] at hc
        obtain ⟨L, rfl, hL, hs⟩ := hc
        exact ⟨L, rfl, hL, hP L hs⟩
      · rw [up_ne hqq]
        exact hc)
    refine ok_mono (tf_X4_setToFirst hq up_self tR_id (fun L i x hx hL => tR_set hx L hL) hS2 (by omega)) (fun r S' h => ⟨?_, trivial⟩)
    have h1 := hp_weak (G' := up (up G q (tA 0 7 (tR 0 6))) q (tA 0 7 (sl m))) h.1 (fun q' c hc => by
      by_cases hqq : q' = q
      · subst hqq
        rw [up_self] at hc ⊢
        obtain ⟨L, rfl, hL, hs⟩ := hc
        exact ⟨L, rfl, hL, hs, fun e => absurd e h7⟩
      · rw [up_ne hqq]
        exact hc)
    rwa [up_up] at h1
/-- a room set as at first -/
theorem tf_X1_setAsAtFirst {G : xT} {N : Nat} {p q3 q4 q5 q7 q8 q10 q12 q13 : Nat} {a m : Int} {P : List Int → Prop} (hp : p < N) (h3 : q3 < N) (h4 : q4 < N) (h5 : q5 < N) (gp : G p = roomT a q3 q4 q5 q7 q8 q10 q12 q13) (g3 : G q3 = tA 0 7 P) (r3 : ∀ L, P L → tR 0 6 L) (g4 : G q4 = tA 0 7 tW) (g5 : G q5 = tA 0 7 tW) (d3 : q3 ≠ p) (d4 : q4 ≠ p ∧ q4 ≠ q3) (d5 : q5 ≠ p ∧ q5 ≠ q3) (hm : 2 ≤ m ∧ m ≤ 7) {k : Nat} {S : xS} (hS : Hp G N S) (hk : 20 ≤ (k : Int)) : Ok (f_X1_setAsAtFirst k S p m) (fun _ S' => Hp (up (up G p (roomT m q3 q4 q5 q7 q8 q10 q12 q13)) q3 (tA 0 7 (sl m))) N S' ∧ True) := by
  unfold f_X1_setAsAtFirst
  refine ok_wrU (fI m m) hS hp gp (Nat.le_of_ble_eq_true rfl) ⟨_, rfl, by omega, by omega⟩ (fun _ hS => ?_)
  replace hS : Hp (up G p (roomT m q3 q4 q5 q7 q8 q10 q12 q13)) N _ := hS
  refine ok_wrF hS hp up_self rfl (⟨_, rfl⟩ : fZ _) (fun _ hS => ?_)
  refine ok_wrF hS hp up_self rfl (⟨_, rfl, by omega, by omega⟩ : fI 0 6 _) (fun _ hS => ?_)
  refine ok_rdFp hS hp up_self rfl ?_
  refine ok_bd2 (ok_setFirstU h3 ((up_ne d3).trans g3) r3 hm hS (by omega)) (fun _ _ hQ => ?_)
  obtain ⟨hS, -⟩ := hQ
  have gp2 : up (up G p (roomT m q3 q4 q5 q7 q8 q10 q12 q13)) q3 (tA 0 7 (sl m)) p = roomT m q3 q4 q5 q7 q8 q10 q12 q13 := (up_ne d3.symm).trans up_self
  refine ok_rdFp hS hp gp2 rfl ?_
  refine ok_bd2 (tf_J7_fill_53178 h4 ((up_ne d4.2).trans ((up_ne d4.1).trans g4)) (by omega) (fun _ _ _ => trivial) hS (by omega)) (fun _ _ hQ => ?_)
  obtain ⟨hS, -⟩ := hQ
  refine ok_rdFp hS hp gp2 rfl ?_
  refine ok_bd2 (tf_J7_fill_53178 h5 ((up_ne d5.2).trans ((up_ne d5.1).trans g5)) (by omega) (fun _ _ _ => trivial) hS (by omega)) (fun _ _ hQ => ?_)
  obtain ⟨hS, -⟩ := hQ
  refine ok_wrF hS hp gp2 rfl (⟨_, rfl, by omega, by omega⟩ : fI 0 8 _) (fun _ hS => ?_)
  refine ok_wrF hS hp gp2 rfl (⟨_, rfl, by omega, by omega⟩ : fI 0 4 _) (fun _ hS => ?_)
  refine ok_wrF hS hp gp2 rfl (⟨_, rfl, by omega, by omega⟩ : fI 0 10 _) (fun _ hS => ?_)
  exact ok_some ⟨hS, trivial⟩
theorem ok_cpyU {G : xT} {N : Nat} {S : xS} {q r lq lr : Nat} {P R R' : List Int → Prop} {sp dp n : Int} {Q : Int → xS → Prop} {f : xS → Option (Int × xS)} (h : Hp G N S) (hq : q < N) (hr : r < N) (hGq : G q = tA 0 lq P) (hGr : G r = tA 0 lr R) (hb : 0 ≤ sp ∧ 0 ≤ dp ∧ 0 ≤ n ∧ sp + n ≤ lq ∧ dp + n ≤ lr ∧ lq < 6000 ∧ lr < 6000) (hw : ∀ L M : List Int, L.length = lq → M.length = lr → P L → R M → R' (M.take dp.toNat ++ (L.drop sp.toNat).take n.toNat ++ M.drop (dp.toNat + n.toNat))) (hf : ∀ S', Hp (up G r (tA 0 lr R')) N S' → Ok (f S') Q) : Ok ((cpyA S q sp r dp n).bind f) Q := by
  obtain ⟨c, e, hc⟩ := hp_get h hq
  rw [hGq] at hc
  obtain ⟨L, rfl, hL, hp⟩ := hc
  obtain ⟨c', e', hc'⟩ := hp_get h hr
  rw [hGr] at hc'
  obtain ⟨M, rfl, hM, hp'⟩ := hc'
  refine ok_bind (v := S.set r (.inl (0, M.take dp.toNat ++ (L.drop sp.toNat).take n.toNat ++ M.drop (dp.toNat + n.toNat)))) ?_ (hf _ (hp_up h ⟨_, rfl, ?_, hw L M hL hM hp hp'⟩))
  · unfold cpyA
    simp only [lGet_e, lSet_e]
    rw [e, e']
    exact if_pos ⟨rfl, rfl, by omega, by omega, by omega, by omega, by omega, by omega, by omega, by omega⟩
  · rw [List.length_append, List.length_append, List.length_take, List.length_take, List.length_drop, List.length_drop]
    omega
theorem sl_cp7 {n : Int} {R : List Int → Prop} (L M : List Int) (hl : L.length = 7) (hm : M.length = 7) (hL : sl n L) (_ : R M) : sl n (M.take (0 : Int).toNat ++ (L.drop (0 : Int).toNat).take (7 : Int).toNat ++ M.drop ((0 : Int).toNat + (7 : Int).toNat)) := by
  have e : M.take (0 : Int).toNat ++ (L.drop (0 : Int).toNat).take (7 : Int).toNat ++ M.drop ((0 : Int).toNat + (7 : Int).toNat) = L := by
    show M.take 0 ++ (L.drop 0).take 7 ++ M.drop (0 + 7) = L
    rw [List.take_zero, List.nil_append, List.drop_zero, List.take_of_length_le (by omega), List.drop_eq_nil_of_le (by omega), List.append_nil]
  rw [e]
  exact hL
/-- a room copied -/
theorem tf_X1_copyOf {G : xT} {N : Nat} {p q3 q4 q5 q7 q8 q10 q12 q13 p' s3 s4 s5 s7 s8 s10 s12 s13 : Nat} {a b : Int} (hlt : ∀ q ∈ [p, q3, q4, q5, q7, q8, q10, q12, p', s3, s4, s5, s7, s8, s10, s12], q < N)
    (gp : G p = roomT a q3 q4 q5 q7 q8 q10 q12 q13) (gs : G p' = roomT b s3 s4 s5 s7 s8 s10 s12 s13)
    (g3 : G q3 = tA 0 7 (sl a)) (g4 : G q4 = tA 0 7 tW) (g5 : G q5 = tA 0 7 tW) (g7 : G q7 = tA 0 8 (tR 0 6)) (g8 : G q8 = tA 0 8 tW) (g10 : G q10 = tA 0 4 (tR 0 5039)) (g12 : G q12 = tA 0 10 (tR 0 5039))
    (k3 : G s3 = tA 0 7 (sl b)) (k4 : G s4 = tA 0 7 tW) (k5 : G s5 = tA 0 7 tW) (k7 : G s7 = tA 0 8 (tR 0 6)) (k8 : G s8 = tA 0 8 tW) (k10 : G s10 = tA 0 4 (tR 0 5039)) (k12 : G s12 = tA 0 10 (tR 0 5039))
    (dp : ∀ q ∈ [q3, q4, q5, q7, q8, q10, q12, p', s3, s4, s5, s7, s8, s10, s12], q ≠ p) (d3 : ∀ q ∈ [p, q4, q5, q7, q8, q10, q12, p', s4, s5, s7, s8, s10, s12], q ≠ q3)
    {k : Nat} {S : xS} (hS : Hp G N S) : Ok (f_X1_copyOf k S p p') (fun _ S' => Hp (up (up G p (roomT b q3 q4 q5 q7 q8 q10 q12 q13)) q3 (tA 0 7 (sl b))) N S' ∧ True) := by
  have nm : ∀ {q : Nat} {T : xC → Prop}, q ≠ p → G q = T → up G p (roomT b q3 q4 q5 q7 q8 q10 q12 q13) q = T := fun h e => (up_ne h).trans e
  have nm2 : ∀ {q : Nat} {T : xC → Prop}, q ≠ p → q ≠ q3 → G q = T → up (up G p (roomT b q3 q4 q5 q7 q8 q10 q12 q13)) q3 (tA 0 7 (sl b)) q = T := fun h h' e => (up_ne h').trans ((up_ne h).trans e)
  have np2 : up (up G p (roomT b q3 q4 q5 q7 q8 q10 q12 q13)) q3 (tA 0 7 (sl b)) p = roomT b q3 q4 q5 q7 q8 q10 q12 q13 := (up_ne (d3 p (by simp))).trans up_self
  have ns2 := nm2 (dp p' (by simp)) (d3 p' (by simp)) gs
  unfold f_X1_copyOf
  refine ok_rdFx hS (hlt p' (by simp)) gs rfl ?_
  refine ok_wrU (fI b b) hS (hlt p (by simp)) gp (Nat.le_of_ble_eq_true rfl) ⟨_, rfl, by omega, by omega⟩ (fun _ hS => ?_)
  replace hS : Hp (up G p (roomT b q3 q4 q5 q7 q8 q10 q12 q13)) N _ := hS
  refine ok_rdFz hS (hlt p' (by simp)) (nm (dp p' (by simp)) gs) rfl (fun _ => ?_)
  refine ok_wrF hS (hlt p (by simp)) up_self rfl (⟨_, rfl⟩ : fZ _) (fun _ hS => ?_)
  refine ok_rdFi hS (hlt p' (by simp)) (nm (dp p' (by simp)) gs) rfl (fun _ _ _ => ?_)
  refine ok_wrF hS (hlt p (by simp)) up_self rfl (⟨_, rfl, by omega, by omega⟩ : fI 0 6 _) (fun _ hS => ?_)
  refine ok_rdFp hS (hlt p' (by simp)) (nm (dp p' (by simp)) gs) rfl ?_
  refine ok_rdFp hS (hlt p (by simp)) up_self rfl ?_
  refine ok_cpyU (R' := sl b) hS (hlt s3 (by simp)) (hlt q3 (by simp)) (nm (dp s3 (by simp)) k3) (nm (dp q3 (by simp)) g3) (by omega) (fun L M hl hm hL hM => sl_cp7 L M hl hm hL hM) (fun _ hS => ?_)
  refine ok_rdFp hS (hlt p' (by simp)) ns2 rfl ?_
  refine ok_rdFp hS (hlt p (by simp)) np2 rfl ?_
  refine ok_cpy hS (hlt s4 (by simp)) (hlt q4 (by simp)) (nm2 (dp s4 (by simp)) (d3 s4 (by simp)) k4) (nm2 (dp q4 (by simp)) (d3 q4 (by simp)) g4) (by omega) (fun _ _ _ _ _ _ => trivial) (fun _ hS _ => ?_)
  refine ok_rdFp hS (hlt p' (by simp)) ns2 rfl ?_
  refine ok_rdFp hS (hlt p (by simp)) np2 rfl ?_
  refine ok_cpy hS (hlt s5 (by simp)) (hlt q5 (by simp)) (nm2 (dp s5 (by simp)) (d3 s5 (by simp)) k5) (nm2 (dp q5 (by simp)) (d3 q5 (by simp)) g5) (by omega) (fun _ _ _ _ _ _ => trivial) (fun _ hS _ => ?_)
  refine ok_rdFi hS (hlt p' (by simp)) ns2 rfl (fun _ _ _ => ?_)
  refine ok_wrF hS (hlt p (by simp)) np2 rfl (⟨_, rfl, by omega, by omega⟩ : fI 0 8 _) (fun _ hS => ?_)
  refine ok_rdFp hS (hlt p' (by simp)) ns2 rfl ?_
  refine ok_rdFp hS (hlt p (by simp)) np2 rfl ?_
  refine ok_cpy hS (hlt s7 (by simp)) (hlt q7 (by simp)) (nm2 (dp s7 (by simp)) (d3 s7 (by simp)) k7) (nm2 (dp q7 (by simp)) (d3 q7 (by simp)) g7) (by omega) (fun L M _ _ hL hM => tR_cp L M _ _ _ hL hM) (fun _ hS _ => ?_)
  refine ok_rdFp hS (hlt p' (by simp)) ns2 rfl ?_
  refine ok_rdFp hS (hlt p (by simp)) np2 rfl ?_
  refine ok_cpy hS (hlt s8 (by simp)) (hlt q8 (by simp)) (nm2 (dp s8 (by simp)) (d3 s8 (by simp)) k8) (nm2 (dp q8 (by simp)) (d3 q8 (by simp)) g8) (by omega) (fun _ _ _ _ _ _ => trivial) (fun _ hS _ => ?_)
  refine ok_rdFi hS (hlt p' (by simp)) ns2 rfl (fun _ _ _ => ?_)
  refine ok_wrF hS (hlt p (by simp)) np2 rfl (⟨_, rfl, by omega, by omega⟩ : fI 0 4 _) (fun _ hS => ?_)
  refine ok_rdFp hS (hlt p' (by simp)) ns2 rfl ?_
  refine ok_rdFp hS (hlt p (by simp)) np2 rfl ?_
  refine ok_cpy hS (hlt s10 (by simp)) (hlt q10 (by simp)) (nm2 (dp s10 (by simp)) (d3 s10 (by simp)) k10) (nm2 (dp q10 (by simp)) (d3 q10 (by simp)) g10) (by omega) (fun L M _ _ hL hM => tR_cp L M _ _ _ hL hM) (fun _ hS _ => ?_)
  refine ok_rdFi hS (hlt p' (by simp)) ns2 rfl (fun _ _ _ => ?_)
  refine ok_wrF hS (hlt p (by simp)) np2 rfl (⟨_, rfl, by omega, by omega⟩ : fI 0 10 _) (fun _ hS => ?_)
  refine ok_rdFp hS (hlt p' (by simp)) ns2 rfl ?_
  refine ok_rdFp hS (hlt p (by simp)) np2 rfl ?_
  refine ok_cpy hS (hlt s12 (by simp)) (hlt q12 (by simp)) (nm2 (dp s12 (by simp)) (d3 s12 (by simp)) k12) (nm2 (dp q12 (by simp)) (d3 q12 (by simp)) g12) (by omega) (fun L M _ _ hL hM => tR_cp L M _ _ _ hL hM) (fun _ hS _ => ?_)
  exact ok_some ⟨hS, trivial⟩
