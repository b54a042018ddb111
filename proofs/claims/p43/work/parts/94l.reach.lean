variable {n nd tl : Int} {rp : Option Nat} {im : List (Option Nat)} {E : xT} {N : Nat}
/-! the reach -/
theorem al_wi {β : Type} {S as : xS} {ci k : Nat} {fs : List xV} {v : xV} {f : xS → Option β} (hk : k < fs.length) : ((wrF ci k (S ++ (.inr (.inr (ci, fs)) :: as)) S.length v).bind f) = f (S ++ (.inr (.inr (ci, fs.set k v)) :: as)) := by
  rw [al_wr hk]
  rfl
theorem al_mu {β : Type} {S as : xS} {ci k : Nat} {fs : List xV} {f : xS → Option β} (hk : k < fs.length) : (nmx (xMulti (S ++ (.inr (.inr (ci, fs)) :: as))) fun S1 => (wrF ci k S1 S.length (.inr (.inr (some (S ++ (.inr (.inr (ci, fs)) :: as)).length)))).bind f) = f (S ++ (.inr (.inr (ci, fs.set k (.inr (.inr (some (S.length + (as.length + 1))))))) :: (as ++ [.inr (.inl (4, [some (S.length + (as.length + 1) + 1), some (S.length + (as.length + 1) + 2), some (S.length + (as.length + 1) + 3), some (S.length + (as.length + 1) + 4)])), .inl (0, List.replicate 7 0), .inl (0, List.replicate 7 0), .inl (0, List.replicate 7 0), .inl (0, List.replicate 7 0)]))) := by
  have e : (S ++ ((.inr (.inr (ci, fs)) : xC) :: as)).length = S.length + (as.length + 1) := by rw [List.length_append, List.length_cons]
  unfold xMulti
  rw [nmx_b, e, List.append_assoc, List.cons_append, al_wr hk]
  rfl
theorem nw_reach {g : Nat} (j : Nat) (c : xC) (h : ([.inr (.inr (0, [.inr (.inr (some (g + 1))), .inl 0, .inr (.inr (some (g + 2))), .inr (.inr (some (g + 3))), .inr (.inr (some (g + 4))), .inr (.inr (some (g + 5))), .inl 0, .inl 0, .inr (.inr (some (g + 10)))])), .inl (0, List.replicate 5040 0), .inl (0, List.replicate 5040 0), .inl (0, List.replicate 7 0), .inl (0, List.replicate 7 0), .inr (.inl (4, [some (g + 5 + 1), some (g + 5 + 2), some (g + 5 + 3), some (g + 5 + 4)])), .inl (0, List.replicate 7 0), .inl (0, List.replicate 7 0), .inl (0, List.replicate 7 0), .inl (0, List.replicate 7 0), .inl (0, List.replicate 4 0)] : xS)[j]? = some c) : rcT g (fun _ => tR 0 6) j c := by
  match j, h with
  | 0, h =>
    cases h
    refine ⟨_, rfl, rfl, fun k P hP v hv => ?_⟩
    match k, hP, hv with
    | 0, hP, hv => cases hP; cases hv; exact rfl
    | 1, hP, hv => cases hP; cases hv; exact ⟨0, rfl, by omega, by omega⟩
    | 2, hP, hv => cases hP; cases hv; exact rfl
    | 3, hP, hv => cases hP; cases hv; exact rfl
    | 4, hP, hv => cases hP; cases hv; exact rfl
    | 5, hP, hv => cases hP; cases hv; exact rfl
    | 6, hP, hv => cases hP; cases hv; exact ⟨0, rfl⟩
    | 7, hP, hv => cases hP; cases hv; exact ⟨0, rfl⟩
    | 8, hP, hv => cases hP; cases hv; exact rfl
    | k + 9, hP, hv => cases hP
  | 1, h => cases h; exact tA_rep (tR_rep (by omega))
  | 2, h => cases h; exact tA_rep (tR_rep (by omega))
  | 3, h => cases h; exact tA_rep (tR_rep (by omega))
  | 4, h => cases h; exact tA_rep (tR_rep (by omega))
  | 5, h => cases h; exact rfl
  | 6, h => cases h; exact tA_rep (tR_rep (by omega))
  | 7, h => cases h; exact tA_rep (tR_rep (by omega))
  | 8, h => cases h; exact tA_rep (tR_rep (by omega))
  | 9, h => cases h; exact tA_rep (tR_rep (by omega))
  | 10, h => cases h; exact tA_rep trivial
  | j + 11, h => cases h
theorem tf_X0_init {G : xT} {N : Nat} {S : xS} (hS : Hp G N S) {k : Nat} : ∃ G', Ok (f_X0_init k (S ++ [.inr (.inr (0, xNew_X0))]) S.length) (fun _ S' => Hp G' (S.length + 11) S') ∧ rcA G' S.length ∧ (∀ q, q < S.length → G' q = G q) := by
  refine ⟨ext G S.length (rcT S.length (fun _ => tR 0 6)), ?_, fun j _ => ext_ge, fun q hq => ext_lt hq⟩
  unfold f_X0_init
  have st : ∀ {o : Option (Int × xS)} {o' : Option (Int × xS)} {Q : Int → xS → Prop}, o = o' → Ok o' Q → Ok o Q := fun e h => by rw [e]; exact h
  refine st (al_step (S := S) (as := []) (ci := 0) (k := 0) (fs := xNew_X0) (by decide)) ?_
  refine st (al_wi (S := S) (ci := 0) (k := 1) (Nat.le_of_ble_eq_true rfl)) ?_
  refine st (al_step (S := S) (ci := 0) (k := 2) (Nat.le_of_ble_eq_true rfl)) ?_
  refine st (al_step (S := S) (ci := 0) (k := 3) (Nat.le_of_ble_eq_true rfl)) ?_
  refine st (al_step (S := S) (ci := 0) (k := 4) (Nat.le_of_ble_eq_true rfl)) ?_
  refine st (al_mu (S := S) (ci := 0) (k := 5) (Nat.le_of_ble_eq_true rfl)) ?_
  refine st (al_wi (S := S) (ci := 0) (k := 6) (Nat.le_of_ble_eq_true rfl)) ?_
  refine st (al_wi (S := S) (ci := 0) (k := 7) (Nat.le_of_ble_eq_true rfl)) ?_
  refine st (al_step (S := S) (ci := 0) (k := 8) (Nat.le_of_ble_eq_true rfl)) ?_
  exact ok_some (hp_app (P := rcT S.length (fun _ => tR 0 6)) hS (nw_reach (g := S.length)))
/-- rows that hold of any store in which room and reach stand -/
def roomX (n mc : Int) : xC → Prop := tO 1 [fI n n, fZ, fI 0 6, fP 2, fP 3, fP 4, fI 0 8, fP 5, fP 6, fI mc mc, fP 7, fI 0 10, fP 8, fP 9]
def RS (B : xT) (g : Nat) (n mc : Int) (P3 P4 : List Int → Prop) (sm : Nat → List Int → Prop) : xT := fun q => if q = 1 then roomX n mc else if q < g then B q else if q < g + 11 then (if q = g + 3 then tA 0 7 P3 else if q = g + 4 then tA 0 7 P4 else rcT g sm (q - g)) else B q
theorem RS_1 {B : xT} {g : Nat} {n mc : Int} {P3 P4 : List Int → Prop} {sm : Nat → List Int → Prop} : RS B g n mc P3 P4 sm 1 = roomX n mc := if_pos rfl
theorem RS_lo {B : xT} {g q : Nat} {n mc : Int} {P3 P4 : List Int → Prop} {sm : Nat → List Int → Prop} (h1 : q ≠ 1) (h2 : q < g) : RS B g n mc P3 P4 sm q = B q := by
  unfold RS
  rw [if_neg h1, if_pos h2]
theorem RS_j {B : xT} {g j : Nat} {n mc : Int} {P3 P4 : List Int → Prop} {sm : Nat → List Int → Prop} (hg : 45 ≤ g) (hj : j < 11) (h3 : j ≠ 3) (h4 : j ≠ 4) : RS B g n mc P3 P4 sm (g + j) = rcT g sm j := by
  unfold RS
  rw [if_neg (by omega), if_neg (by omega), if_pos (by omega), if_neg (by omega), if_neg (by omega), show g + j - g = j by omega]
theorem RS_3 {B : xT} {g : Nat} {n mc : Int} {P3 P4 : List Int → Prop} {sm : Nat → List Int → Prop} (hg : 45 ≤ g) : RS B g n mc P3 P4 sm (g + 3) = tA 0 7 P3 := by
  unfold RS
  rw [if_neg (by omega), if_neg (by omega), if_pos (by omega), if_pos rfl]
theorem RS_4 {B : xT} {g : Nat} {n mc : Int} {P3 P4 : List Int → Prop} {sm : Nat → List Int → Prop} (hg : 45 ≤ g) : RS B g n mc P3 P4 sm (g + 4) = tA 0 7 P4 := by
  unfold RS
  rw [if_neg (by omega), if_neg (by omega), if_pos (by omega), if_neg (by omega), if_pos rfl]
theorem RS_u3 {B : xT} {g : Nat} {n mc : Int} {P3 P4 P : List Int → Prop} {sm : Nat → List Int → Prop} (hg : 45 ≤ g) : up (RS B g n mc P3 P4 sm) (g + 3) (tA 0 7 P) = RS B g n mc P P4 sm := by
  funext q
  by_cases h : q = g + 3
  · subst h
    rw [up_self, RS_3 hg]
  · rw [up_ne h]
    unfold RS
    rw [if_neg h, if_neg h]
theorem RS_u4 {B : xT} {g : Nat} {n mc : Int} {P3 P4 P : List Int → Prop} {sm : Nat → List Int → Prop} (hg : 45 ≤ g) : up (RS B g n mc P3 P4 sm) (g + 4) (tA 0 7 P) = RS B g n mc P3 P sm := by
  funext q
  by_cases h : q = g + 4
  · subst h
    rw [up_self, RS_4 hg]
  · rw [up_ne h]
    unfold RS
    rw [if_neg h, if_neg h]
theorem rcT_ne {g : Nat} {sm sm' : Nat → List Int → Prop} {i : Nat} (h : ∀ j, j ≠ i → sm' j = sm j) {j : Nat} (hj : j ≠ i + 6) : rcT g sm' j = rcT g sm j := by
  match j, hj with
  | 0, _ => rfl
  | 1, _ => rfl
  | 2, _ => rfl
  | 3, _ => rfl
  | 4, _ => rfl
  | 5, _ => rfl
  | 6, hj => show tA 0 7 (sm' 0) = tA 0 7 (sm 0); rw [h 0 (by omega)]
  | 7, hj => show tA 0 7 (sm' 1) = tA 0 7 (sm 1); rw [h 1 (by omega)]
  | 8, hj => show tA 0 7 (sm' 2) = tA 0 7 (sm 2); rw [h 2 (by omega)]
  | 9, hj => show tA 0 7 (sm' 3) = tA 0 7 (sm 3); rw [h 3 (by omega)]
  | 10, _ => rfl
  | j + 11, _ => rfl
theorem rcT_6 {g i : Nat} {sm : Nat → List Int → Prop} (hi : i < 4) : rcT g sm (i + 6) = tA 0 7 (sm i) := by
  match i, hi with
  | 0, _ => rfl
  | 1, _ => rfl
  | 2, _ => rfl
  | 3, _ => rfl
theorem RS_u6 {B : xT} {g i : Nat} {n mc : Int} {P3 P4 P : List Int → Prop} {sm : Nat → List Int → Prop} (hg : 45 ≤ g) (hi : i < 4) : up (RS B g n mc P3 P4 sm) (g + (i + 6)) (tA 0 7 P) = RS B g n mc P3 P4 (fun j => if j = i then P else sm j) := by
  funext q
  by_cases h : q = g + (i + 6)
  · subst h
    rw [up_self, RS_j hg (by omega) (by omega) (by omega), rcT_6 hi, if_pos rfl]
  · rw [up_ne h]
    unfold RS
    by_cases hq : q < g
    · rw [if_pos hq, if_pos hq]
    · rw [rcT_ne (g := g) (i := i) (sm := sm) (sm' := fun j => if j = i then P else sm j) (fun j hj => if_neg hj) (j := q - g) (by omega)]
theorem RS_wk {B : xT} {g : Nat} {n mc : Int} {P3 P4 P3' P4' : List Int → Prop} {sm : Nat → List Int → Prop} {S : xS} (h3 : ∀ L, P3 L → P3' L) (h4 : ∀ L, P4 L → P4' L) (hS : Hp (RS B g n mc P3 P4 sm) N S) : Hp (RS B g n mc P3' P4' sm) N S := by
  refine hp_weak hS (fun q c hc => ?_)
  unfold RS at hc ⊢
  by_cases e1 : q = 1
  · rw [if_pos e1] at hc ⊢
    exact hc
  rw [if_neg e1] at hc ⊢
  by_cases e2 : q < g
  · rw [if_pos e2] at hc ⊢
    exact hc
  rw [if_neg e2] at hc ⊢
  by_cases e3 : q < g + 11
  · rw [if_pos e3] at hc ⊢
    by_cases e4 : q = g + 3
    · rw [if_pos e4] at hc ⊢
      obtain ⟨L, rfl, hL, hp⟩ := hc
      exact ⟨L, rfl, hL, h3 L hp⟩
    rw [if_neg e4] at hc ⊢
    by_cases e5 : q = g + 4
    · rw [if_pos e5] at hc ⊢
      obtain ⟨L, rfl, hL, hp⟩ := hc
      exact ⟨L, rfl, hL, h4 L hp⟩
    rw [if_neg e5] at hc ⊢
    exact hc
  rw [if_neg e3] at hc ⊢
  exact hc
theorem rk_G {G : xT} {N : Nat} {Ps : List (xV → Prop)} (hN : 3 ≤ N) (h1 : G 1 = tO 1 Ps) (k3 : Ps[3]? = some (fP 2)) (k0 : Ps[0]? = some (fI n n)) (h2 : G 2 = tA 0 7 (sl n)) (hn : 2 ≤ n ∧ n ≤ 7) {k : Nat} {S : xS} (hS : Hp G N S) (hp : 12 ≤ (k : Int)) : Ok (f_X1_rankNow k S 1) (fun r S' => S' = S ∧ (0 ≤ r ∧ r ≤ 5039)) := by
  unfold f_X1_rankNow
  refine ok_rdFp hS (by omega) h1 k3 ?_
  refine ok_rdFx hS (by omega) h1 k0 ?_
  obtain ⟨c, e, hc⟩ := hp_get hS (show 2 < N by omega)
  rw [h2] at hc
  obtain ⟨L, rfl, hL, hs⟩ := hc
  obtain ⟨r, er, hr⟩ := rk_all e hL hs (by omega) (k := k) (by omega)
  exact ⟨r, S, by rw [bd2_some er], rfl, hr⟩
theorem tf_X0_add {G : xT} {N g : Nat} (hg : g + 11 ≤ N) {sm : Nat → List Int → Prop} (h0 : G g = rcT g sm 0) (h1 : G (g + 1) = tA 0 5040 (tR 0 5039)) (h2 : G (g + 2) = tA 0 5040 (tR (-2) 20159)) {k : Nat} {S : xS} {r o : Int} (hS : Hp G N S) (hr : 0 ≤ r ∧ r ≤ 5039) (ho : -2 ≤ o ∧ o ≤ 20159) : Ok (f_X0_add k S g r o) (fun _ S' => Hp G N S' ∧ True) := by
  unfold f_X0_add
  refine ok_rdFp hS (by omega) h0 rfl ?_
  refine ok_rdA hS (by omega) h2 tR_id (by omega) (by omega) (by omega) (fun _ _ _ => ?_)
  refine ok_if (fun _ => ?_) (fun _ => ok_some ⟨hS, trivial⟩)
  refine ok_rdFiE hS (by omega) h0 rfl (fun x hx1 hx2 ex => ?_)
  refine ok_if (fun _ => ok_some ⟨hS, trivial⟩) (fun hc => ?_)
  simp (disch := omega) only [wIn] at hc
  refine ok_rdFp hS (by omega) h0 rfl ?_
  refine ok_wrAE hS (by omega) h2 (by omega) (by omega) (by omega) (fun L _ hL => tR_set ho L hL) (fun _ hS hF => ?_)
  have ex := hF _ _ _ _ ex
  refine ok_rdFp hS (by omega) h0 rfl ?_
  refine ok_bind ex ?_
  refine ok_wrAE hS (by omega) h1 (by omega) (by omega) (by omega) (fun L _ hL => tR_set hr L hL) (fun _ hS hF => ?_)
  have ex := hF _ _ _ _ ex
  refine ok_bind ex ?_
  refine ok_wrFE hS (by omega) h0 rfl (by omega) (fun _ hS _ => ?_)
  exact ok_some ⟨hS, trivial⟩
