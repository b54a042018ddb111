/-! ways: a swap, a rank laid -/
noncomputable def bF3 (l m : Int) : Bool := match f_X4_slipLeft 20 [] l 7 m with
  | some (s, []) => hb l s && decide (0 ≤ s ∧ s ≤ 6)
  | _ => false
theorem bF3_all : ∀ l : Nat, l < 128 → ∀ m : Nat, m < 7 → (bF3 (l : Int) (m : Int) || decide (pcn (l : Int) ≤ (m : Int))) = true := by decide +kernel
theorem bF3_s {l m : Int} (hl : 0 ≤ l ∧ l < 128) (hm : 0 ≤ m ∧ m < 7) (h : m < pcn l) {k : Nat} (hk : 20 ≤ k) (S : xS) : ∃ s, f_X4_slipLeft k S l 7 m = some (s, S) ∧ hb l s = true ∧ 0 ≤ s ∧ s ≤ 6 := by
  have e := bF3_all l.toNat (by omega) m.toNat (by omega)
  rw [show ((l.toNat : Nat) : Int) = l by omega, show ((m.toNat : Nat) : Int) = m by omega, Bool.or_eq_true] at e
  rcases e with e | e
  · unfold bF3 at e
    split at e
    · next s e1 =>
      obtain ⟨h1, h2⟩ := (Bool.and_eq_true _ _).mp e
      have h3 := of_decide_eq_true h2
      exact ⟨s, frf_X4_slipLeft (X := S) k hk [] l 7 m s [] e1, h1, h3.1, h3.2⟩
    · cases e
  · have := of_decide_eq_true e
    omega
theorem pm_ex {L : List Int} (hL : L.length = 7) (hp : pm L) {i j : Nat} (hi : i < 7) (hj : j < 7) {x y : Int} (hx : L[i]? = some x) (hy : L[j]? = some y) : pm ((L.set i y).set j x) := by
  have key : ∀ m : Nat, m < 7 → ((L.set i y).set j x)[m]? = L[if m = j then i else if m = i then j else m]? := by
    intro m hm
    by_cases h1 : m = j
    · subst h1
      rw [if_pos rfl, List.getElem?_set_self (by rw [List.length_set]; omega), hx]
    · rw [if_neg h1, List.getElem?_set_ne (fun e => h1 e.symm)]
      by_cases h2 : m = i
      · subst h2
        rw [if_pos rfl, List.getElem?_set_self (by omega), hy]
      · rw [if_neg h2, List.getElem?_set_ne (fun e => h2 e.symm)]
  have rg : ∀ m : Nat, m < 7 → (if m = j then i else if m = i then j else m) < 7 := by
    intro m hm
    split
    · exact hi
    · split
      · exact hj
      · exact hm
  refine ⟨fun a b ha hb e => ?_, fun v hv => ?_⟩
  · rw [key a ha, key b hb] at e
    have := hp.1 _ _ (rg a ha) (rg b hb) e
    split at this <;> split at this <;> (try split at this) <;> (try split at this) <;> omega
  · obtain ⟨m, hm, e⟩ := hp.2 v hv
    refine ⟨if m = j then i else if m = i then j else m, rg m hm, ?_⟩
    rw [key _ (rg m hm), ← e]
    congr 1
    split
    · next h => split <;> (try split) <;> omega
    · next h => split <;> (try split) <;> (try split) <;> omega
theorem ex_sl {S : xS} {q : Nat} {L : List Int} {n : Int} (hq : S[q]? = some (.inl (0, L))) (hL : L.length = 7) (hs : sl n L) {i j : Int} (hi : 0 ≤ i ∧ i ≤ 6) (hj : 0 ≤ j ∧ j ≤ 6) (k : Nat) : ∃ L', f_X4_exchange k S q i j = some (0, S.set q (.inl (0, L'))) ∧ L'.length = 7 ∧ sl n L' := by
  have hi' : i.toNat < L.length := by omega
  have hj' : j.toNat < L.length := by omega
  have hx : L[i.toNat]? = some L[i.toNat] := List.getElem?_eq_getElem hi'
  have hy : L[j.toNat]? = some L[j.toNat] := List.getElem?_eq_getElem hj'
  have hxr := hs.1 _ (List.getElem_mem hi')
  have hyr := hs.1 _ (List.getElem_mem hj')
  generalize L[i.toNat] = x at hx hxr
  generalize L[j.toNat] = y at hy hyr
  have hql : q < S.length := (List.getElem?_eq_some_iff.mp hq).1
  refine ⟨(L.set i.toNat y).set j.toNat x, ?_, by rw [List.length_set, List.length_set]; exact hL, tR_set hxr _ (tR_set hyr _ hs.1), fun h7 => pm_ex hL (hs.2 h7) (by omega) (by omega) hx hy⟩
  unfold f_X4_exchange
  rw [bind_some' (show rdA 0 S q i = some x by rw [rdA_at hq (by omega) (by omega), hx]), bind_some' (show rdA 0 S q j = some y by rw [rdA_at hq (by omega) (by omega), hy]), bind_some' (wrA_of hq (by omega) (by omega) hi'), bind_some' (wrA_of (L := L.set i.toNat y) (by rw [List.getElem?_set_self hql]) (by omega) (by omega) (by rw [List.length_set]; exact hj')), List.set_set]
theorem sr_hi {q : Nat} : ∀ (k : Nat) (S : xS) (K : List Int) (l rest b : Int), S[q]? = some (.inl (0, K)) → K.length = 7 → tR 0 6 K → 0 ≤ l ∧ l < 128 → 0 ≤ b ∧ b ≤ 7 → pcn l = 7 - b → (∃ F, rdT (7 - b) = some F ∧ 0 ≤ rest ∧ rest < F) → (∀ w : Int, 0 ≤ w ∧ w ≤ 6 → hb l w = false → ∃ j : Nat, (j : Int) < b ∧ K[j]? = some w) → (∀ (j : Nat) (v : Int), (j : Int) < b → K[j]? = some v → hb l v = false) → (∀ i j : Nat, (i : Int) < b → (j : Int) < b → K[i]? = K[j]? → i = j) → 7 - b + 22 ≤ (k : Int) → ∃ K', g_X4_setToRank k 1 S q 7 l rest b = some (0, S.set q (.inl (0, K'))) ∧ K'.length = 7 ∧ tR 0 6 K' ∧ pm K' := by
  intro k
  induction k with
  | zero => intro S K l rest b _ _ _ _ _ _ _ _ _ _ _; exfalso; omega
  | succ k ih =>
    intro S K l rest b hq hK hr hl hb' hpc hrr hA hB hC hk
    have hql : q < S.length := (List.getElem?_eq_some_iff.mp hq).1
    show ∃ K', b_X4_setToRank_1 (g_X4_setToRank k) k S q 7 l rest b = some (0, S.set q (.inl (0, K'))) ∧ K'.length = 7 ∧ tR 0 6 K' ∧ pm K'
    unfold b_X4_setToRank_1
    obtain ⟨f7, e7, hr0, hr1⟩ := hrr
    by_cases hc : 7 ≤ b
    · rw [if_pos (by rw [wIn (n := 7) (by omega) (by omega), wIn (n := b) (by omega) (by omega)]; exact hc)]
      have hb7 : b = 7 := by omega
      subst hb7
      refine ⟨K, ?_, hK, hr, fun i j hi hj e => hC i j (by omega) (by omega) e, fun v hv => ?_⟩
      · have : S.set q (.inl (0, K)) = S := by
          obtain ⟨h1, h2⟩ := List.getElem?_eq_some_iff.mp hq
          rw [← h2]
          exact List.set_getElem_self h1
        rw [this]
      · have hz : hb l v = false := by
          have hp0 : pcn l = 0 := by omega
          unfold pcn at hp0
          rcases (show v = 0 ∨ v = 1 ∨ v = 2 ∨ v = 3 ∨ v = 4 ∨ v = 5 ∨ v = 6 by omega) with rfl | rfl | rfl | rfl | rfl | rfl | rfl
          all_goals
            refine Bool.eq_false_iff.mpr (fun h => ?_)
            rw [if_pos h] at hp0
            have z : ∀ w : Int, 0 ≤ (if hb l w = true then (1 : Int) else 0) := fun w => by split <;> omega
            have := z 0
            have := z 1
            have := z 2
            have := z 3
            have := z 4
            have := z 5
            have := z 6
            omega
        obtain ⟨j, hj, e⟩ := hA v hv hz
        exact ⟨j, by omega, e⟩
    · rw [if_neg (by rw [wIn (n := 7) (by omega) (by omega), wIn (n := b) (by omega) (by omega)]; exact hc)]
      have fin : ∀ g : Int, rdT (7 - 1 - b) = some g → 1 ≤ g → g ≤ 720 → 0 ≤ rest / g → rest / g < 7 - b → 0 ≤ rest % g → rest % g < g → ∃ K', ((rdT (7 - 1 - b)).bind fun x4 => if wI x4 = 0 then none else bd2 (f_X4_slipLeft k S l 7 ((wI rest).tdiv (wI x4))) fun x9 S7 => (wrA 0 S7 q b x9).bind fun S11 => nmx (xAnd l (xXor (xShl 1 x9) ((-1)))) fun x12 => if wI x4 = 0 then none else nmx ((wI rest).tmod (wI x4)) fun x15 => nmx (b + 1) fun x17 => g_X4_setToRank k 1 S11 q 7 x12 x15 x17) = some (0, S.set q (.inl (0, K'))) ∧ K'.length = 7 ∧ tR 0 6 K' ∧ pm K' := by
        intro g eg hg0 hg1 hd0 hd1 hm0 hm1
        have hrb : rest < 6000 := by
          rcases (show b = 0 ∨ b = 1 ∨ b = 2 ∨ b = 3 ∨ b = 4 ∨ b = 5 ∨ b = 6 by omega) with rfl | rfl | rfl | rfl | rfl | rfl | rfl
          all_goals
            have := (Option.some.inj (show some _ = some f7 from e7)).symm
            omega
        obtain ⟨s, es, hs1, hs2⟩ := bF3_s (l := l) (m := rest / g) hl (by omega) (by omega) (k := k) (by omega) S
        obtain ⟨h2, h3⟩ := bF2_s hl hs2
        have hbi : b.toNat < K.length := by omega
        have hnew : (K.set b.toNat s)[b.toNat]? = some s := List.getElem?_set_self hbi
        have hold : ∀ j : Nat, (j : Int) < b → (K.set b.toNat s)[j]? = K[j]? := fun j hj => List.getElem?_set_ne (by omega)
        obtain ⟨K', e', hK', hr', hp'⟩ := ih (S.set q (.inl (0, K.set b.toNat s))) (K.set b.toNat s) (lcl l s) (rest % g) (b + 1) (List.getElem?_set_self hql) (by rw [List.length_set]; exact hK) (tR_set hs2 _ hr) ⟨h2.1, h2.2.1⟩ (by omega) (by rw [h2.2.2.2 hs1]; omega) ⟨g, by rw [show 7 - (b + 1) = 7 - 1 - b by omega]; exact eg, hm0, hm1⟩
          (fun w hw hz => by
            by_cases hws : w = s
            · exact ⟨b.toNat, by omega, by rw [hnew, hws]⟩
            · rw [h3 w hw hws] at hz
              obtain ⟨j, hj, e⟩ := hA w hw hz
              exact ⟨j, by omega, by rw [hold j hj]; exact e⟩)
          (fun j v hj hv => by
            by_cases hjb : (j : Int) < b
            · rw [hold j hjb] at hv
              have hz := hB j v hjb hv
              by_cases hvs : v = s
              · rw [hvs] at hz
                rw [hz] at hs1
                cases hs1
              · rw [h3 v (hr v (List.mem_of_getElem? hv)) hvs]
                exact hz
            · have : j = b.toNat := by omega
              subst this
              rw [hnew] at hv
              cases hv
              exact h2.2.2.1)
          (fun i j hi hj e => by
            by_cases hib : (i : Int) < b
            · by_cases hjb : (j : Int) < b
              · rw [hold i hib, hold j hjb] at e
                exact hC i j hib hjb e
              · have : j = b.toNat := by omega
                subst this
                rw [hold i hib, hnew] at e
                have := hB i s hib e
                rw [this] at hs1
                cases hs1
            · have : i = b.toNat := by omega
              subst this
              by_cases hjb : (j : Int) < b
              · rw [hold j hjb, hnew] at e
                have := hB j s hjb e.symm
                rw [this] at hs1
                cases hs1
              · omega)
          (by omega)
        refine ⟨K', ?_, hK', hr', hp'⟩
        rw [bind_some' eg, if_neg (by rw [wIn (n := g) (by omega) (by omega)]; omega), wIn (n := g) (by omega) (by omega), wIn (n := rest) (by omega) (by omega), Int.tdiv_eq_ediv_of_nonneg hr0, bd2_some es, bind_some' (wrA_of hq (by omega) (by omega) hbi), nmx_b, if_neg (by omega), Int.tmod_eq_emod_of_nonneg hr0, nmx_b, nmx_b]
        show g_X4_setToRank k 1 (S.set q (.inl (0, K.set b.toNat s))) q 7 (lcl l s) (rest % g) (b + 1) = _
        rw [e', List.set_set]
      rcases (show b = 0 ∨ b = 1 ∨ b = 2 ∨ b = 3 ∨ b = 4 ∨ b = 5 ∨ b = 6 by omega) with rfl | rfl | rfl | rfl | rfl | rfl | rfl
      · have : f7 = 5040 := (Option.some.inj (show some 5040 = some f7 from e7)).symm
        exact fin 720 rfl (by omega) (by omega) (by omega) (by omega) (by omega) (by omega)
      · have : f7 = 720 := (Option.some.inj (show some 720 = some f7 from e7)).symm
        exact fin 120 rfl (by omega) (by omega) (by omega) (by omega) (by omega) (by omega)
      · have : f7 = 120 := (Option.some.inj (show some 120 = some f7 from e7)).symm
        exact fin 24 rfl (by omega) (by omega) (by omega) (by omega) (by omega) (by omega)
      · have : f7 = 24 := (Option.some.inj (show some 24 = some f7 from e7)).symm
        exact fin 6 rfl (by omega) (by omega) (by omega) (by omega) (by omega) (by omega)
      · have : f7 = 6 := (Option.some.inj (show some 6 = some f7 from e7)).symm
        exact fin 2 rfl (by omega) (by omega) (by omega) (by omega) (by omega) (by omega)
      · have : f7 = 2 := (Option.some.inj (show some 2 = some f7 from e7)).symm
        exact fin 1 rfl (by omega) (by omega) (by omega) (by omega) (by omega) (by omega)
      · have : f7 = 1 := (Option.some.inj (show some 1 = some f7 from e7)).symm
        exact fin 1 rfl (by omega) (by omega) (by omega) (by omega) (by omega) (by omega)
theorem hb127f : ∀ v : Nat, v < 7 → hb 127 (v : Int) = true := by decide +kernel
theorem ok_setRank {G : xT} {N : Nat} {q : Nat} {n : Int} (hq : q < N) (hG : G q = tA 0 7 (sl n)) (hn : 2 ≤ n ∧ n ≤ 7) {k : Nat} {S : xS} {r : Int} (hS : Hp G N S) (hr : 0 ≤ r ∧ r ≤ 5039) (hk : 40 ≤ (k : Int)) : Ok (f_X4_setToRank k S q n r) (fun _ S' => Hp G N S' ∧ True) := by
  by_cases h7 : n = 7
  · subst h7
    obtain ⟨c, e, hc⟩ := hp_get hS hq
    rw [hG] at hc
    obtain ⟨L, rfl, hL, hs⟩ := hc
    obtain ⟨k, rfl⟩ : ∃ k', k = k' + 1 := ⟨k - 1, by omega⟩
    obtain ⟨K', e', hK', hr', hp'⟩ := sr_hi (q := q) k S L 127 r 0 e hL hs.1 (by omega) (by omega) (by decide +kernel) ⟨5040, rfl, by omega, by omega⟩
      (fun w hw hz => by
        have := hb127f w.toNat (by omega)
        rw [show ((w.toNat : Nat) : Int) = w by omega] at this
        rw [this] at hz
        cases hz)
      (fun j v hj _ => by omega) (fun i j hi _ _ => by omega) (by omega)
    refine ⟨0, S.set q (.inl (0, K')), ?_, hp_set hS ?_, trivial⟩
    · show g_X4_setToRank k 1 S q 7 (xShl 1 7 - 1) r 0 = _
      rw [show xShl 1 7 - 1 = 127 from by decide]
      exact e'
    · rw [hG]
      exact ⟨K', rfl, hK', hr', fun _ => hp'⟩
  · exact tf_X4_setToRank hq hG sl_R (fun L i x hx hL => ⟨tR_set hx L hL.1, fun e => absurd e h7⟩) hS (by omega)
theorem ok_exch {G : xT} {N : Nat} {q : Nat} {n : Int} (hq : q < N) (hG : G q = tA 0 7 (sl n)) {k : Nat} {S : xS} {i j : Int} (hS : Hp G N S) (hi : 0 ≤ i ∧ i ≤ 6) (hj : 0 ≤ j ∧ j ≤ 6) : Ok (f_X4_exchange k S q i j) (fun _ S' => Hp G N S' ∧ True) := by
  obtain ⟨c, e, hc⟩ := hp_get hS hq
  rw [hG] at hc
  obtain ⟨L, rfl, hL, hs⟩ := hc
  obtain ⟨L', e', hL', hs'⟩ := ex_sl e hL hs hi hj k
  refine ⟨0, _, e', hp_set hS ?_, trivial⟩
  rw [hG]
  exact ⟨L', rfl, hL', hs'⟩
