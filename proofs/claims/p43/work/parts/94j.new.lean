/-! new rooms -/
theorem al_wr {S as : xS} {ci k : Nat} {fs : List xV} {v : xV} (hk : k < fs.length) : wrF ci k (S ++ (.inr (.inr (ci, fs)) :: as)) S.length v = some (S ++ (.inr (.inr (ci, fs.set k v)) :: as)) := by
  rw [wrF_at (fs := fs) (by rw [List.getElem?_append_right (Nat.le_refl _), Nat.sub_self]; rfl) hk, List.set_append_right _ _ (Nat.le_refl _), Nat.sub_self]
  rfl
theorem al_step {β : Type} {S as : xS} {ci k : Nat} {fs : List xV} {a : xC} {f : xS → Option β} (hk : k < fs.length) : (nmx ((S ++ (.inr (.inr (ci, fs)) :: as)) ++ [a]) fun S1 => (wrF ci k S1 S.length (.inr (.inr (some (S ++ (.inr (.inr (ci, fs)) :: as)).length)))).bind f) = f (S ++ (.inr (.inr (ci, fs.set k (.inr (.inr (some (S.length + (as.length + 1))))))) :: (as ++ [a]))) := by
  rw [nmx_b, List.append_assoc, List.cons_append, al_wr hk]
  have e : (S ++ ((.inr (.inr (ci, fs)) : xC) :: as)).length = S.length + (as.length + 1) := by rw [List.length_append, List.length_cons]
  rw [e]
  rfl
def ext (G : xT) (g : Nat) (P : xT) : xT := fun q => if q < g then G q else P (q - g)
theorem hp_app {G P : xT} {N : Nat} {S T : xS} (h : Hp G N S) (hT : ∀ (j : Nat) (c : xC), T[j]? = some c → P j c) : Hp (ext G S.length P) (S.length + T.length) (S ++ T) := by
  refine ⟨by rw [List.length_append]; exact Nat.le_refl _, fun q c e => ?_⟩
  unfold ext
  by_cases hq : q < S.length
  · rw [if_pos hq]
    rw [List.getElem?_append_left hq] at e
    exact h.2 q c e
  · rw [if_neg hq]
    rw [List.getElem?_append_right (by omega)] at e
    exact hT _ c e
theorem tA_rep {k len : Nat} {z : Int} {P : List Int → Prop} (h : P (List.replicate len z)) : tA k len P (.inl (k, List.replicate len z)) := ⟨_, rfl, List.length_replicate, h⟩
theorem tR_rep {lo hi z : Int} {n : Nat} (h : lo ≤ z ∧ z ≤ hi) : tR lo hi (List.replicate n z) := by
  intro x hx
  rw [List.eq_of_mem_replicate hx]
  exact h
def nR (g : Nat) (a : Int) (P : List Int → Prop) : xT
  | 0 => roomT a (g + 1) (g + 2) (g + 3) (g + 4) (g + 5) (g + 6) (g + 7) (g + 8)
  | 1 => tA 0 7 P
  | 2 => tA 0 7 tW
  | 3 => tA 0 7 tW
  | 4 => tA 0 8 (tR 0 6)
  | 5 => tA 0 8 tW
  | 6 => tA 0 4 (tR 0 5039)
  | 7 => tA 0 10 (tR 0 5039)
  | 8 => tA 0 7 (tR 0 6)
  | _ => fun _ => True
theorem ext_lt {G P : xT} {g q : Nat} (h : q < g) : ext G g P q = G q := if_pos h
theorem ext_ge {G P : xT} {g j : Nat} : ext G g P (g + j) = P j := by
  unfold ext
  rw [if_neg (by omega), show g + j - g = j by omega]
theorem nw_room {g : Nat} (j : Nat) (c : xC) (h : ([.inr (.inr (1, [.inl 0, .inl 0, .inl 0, .inr (.inr (some (g + 1))), .inr (.inr (some (g + 2))), .inr (.inr (some (g + 3))), .inl 0, .inr (.inr (some (g + 4))), .inr (.inr (some (g + 5))), .inl 0, .inr (.inr (some (g + 6))), .inl 0, .inr (.inr (some (g + 7))), .inr (.inr (some (g + 8)))])), .inl (0, List.replicate 7 0), .inl (0, List.replicate 7 0), .inl (0, List.replicate 7 0), .inl (0, List.replicate 8 0), .inl (0, List.replicate 8 0), .inl (0, List.replicate 4 0), .inl (0, List.replicate 10 0), .inl (0, List.replicate 7 0)] : xS)[j]? = some c) : nR g 0 (tR 0 6) j c := by
  match j, h with
  | 0, h =>
    cases h
    refine ⟨_, rfl, rfl, fun k P hP v hv => ?_⟩
    match k, hP, hv with
    | 0, hP, hv => cases hP; cases hv; exact ⟨0, rfl, by omega, by omega⟩
    | 1, hP, hv => cases hP; cases hv; exact ⟨0, rfl⟩
    | 2, hP, hv => cases hP; cases hv; exact ⟨0, rfl, by omega, by omega⟩
    | 3, hP, hv => cases hP; cases hv; exact rfl
    | 4, hP, hv => cases hP; cases hv; exact rfl
    | 5, hP, hv => cases hP; cases hv; exact rfl
    | 6, hP, hv => cases hP; cases hv; exact ⟨0, rfl, by omega, by omega⟩
    | 7, hP, hv => cases hP; cases hv; exact rfl
    | 8, hP, hv => cases hP; cases hv; exact rfl
    | 9, hP, hv => cases hP; cases hv; exact ⟨0, rfl, by omega, by omega⟩
    | 10, hP, hv => cases hP; cases hv; exact rfl
    | 11, hP, hv => cases hP; cases hv; exact ⟨0, rfl, by omega, by omega⟩
    | 12, hP, hv => cases hP; cases hv; exact rfl
    | 13, hP, hv => cases hP; cases hv; exact rfl
    | k + 14, hP, hv => cases hP
  | 1, h => cases h; exact tA_rep (tR_rep (by omega))
  | 2, h => cases h; exact tA_rep trivial
  | 3, h => cases h; exact tA_rep trivial
  | 4, h => cases h; exact tA_rep (tR_rep (by omega))
  | 5, h => cases h; exact tA_rep trivial
  | 6, h => cases h; exact tA_rep (tR_rep (by omega))
  | 7, h => cases h; exact tA_rep (tR_rep (by omega))
  | 8, h => cases h; exact tA_rep (tR_rep (by omega))
  | j + 9, h => cases h
/-- what a room's places hold -/
def rmA (G : xT) (h : Nat) (m : Int) : Prop := G h = roomT m (h + 1) (h + 2) (h + 3) (h + 4) (h + 5) (h + 6) (h + 7) (h + 8) ∧ G (h + 1) = tA 0 7 (sl m) ∧ G (h + 2) = tA 0 7 tW ∧ G (h + 3) = tA 0 7 tW ∧ G (h + 4) = tA 0 8 (tR 0 6) ∧ G (h + 5) = tA 0 8 tW ∧ G (h + 6) = tA 0 4 (tR 0 5039) ∧ G (h + 7) = tA 0 10 (tR 0 5039) ∧ G (h + 8) = tA 0 7 (tR 0 6)
theorem tf_X1_init {G : xT} {N : Nat} {S : xS} (hS : Hp G N S) {k : Nat} (hk : 20 ≤ (k : Int)) : ∃ G', Ok (f_X1_init k (S ++ [.inr (.inr (1, xNew_X1))]) S.length) (fun _ S' => Hp G' (S.length + 9) S') ∧ rmA G' S.length 5 ∧ (∀ q, q < S.length → G' q = G q) := by
  refine ⟨up (up (ext G S.length (nR S.length 0 (tR 0 6))) S.length (roomT 5 (S.length + 1) (S.length + 2) (S.length + 3) (S.length + 4) (S.length + 5) (S.length + 6) (S.length + 7) (S.length + 8))) (S.length + 1) (tA 0 7 (sl 5)), ?_, ?_, ?_⟩
  · unfold f_X1_init
    have st : ∀ {o : Option (Int × xS)} {o' : Option (Int × xS)} {Q : Int → xS → Prop}, o = o' → Ok o' Q → Ok o Q := fun e h => by rw [e]; exact h
    refine st (al_step (S := S) (as := []) (ci := 1) (k := 3) (fs := xNew_X1) (by decide)) ?_
    refine st (al_step (S := S) (ci := 1) (k := 4) (Nat.le_of_ble_eq_true rfl)) ?_
    refine st (al_step (S := S) (ci := 1) (k := 5) (Nat.le_of_ble_eq_true rfl)) ?_
    refine st (al_step (S := S) (ci := 1) (k := 7) (Nat.le_of_ble_eq_true rfl)) ?_
    refine st (al_step (S := S) (ci := 1) (k := 8) (Nat.le_of_ble_eq_true rfl)) ?_
    refine st (al_step (S := S) (ci := 1) (k := 10) (Nat.le_of_ble_eq_true rfl)) ?_
    refine st (al_step (S := S) (ci := 1) (k := 12) (Nat.le_of_ble_eq_true rfl)) ?_
    refine st (al_step (S := S) (ci := 1) (k := 13) (Nat.le_of_ble_eq_true rfl)) ?_
    have hA := hp_app (P := nR S.length 0 (tR 0 6)) hS (nw_room (g := S.length))
    have p0 : ext G S.length (nR S.length 0 (tR 0 6)) S.length = roomT 0 (S.length + 1) (S.length + 2) (S.length + 3) (S.length + 4) (S.length + 5) (S.length + 6) (S.length + 7) (S.length + 8) := ext_ge (j := 0)
    refine ok_is hA (show S.length < S.length + 9 by omega) p0 ?_
    refine ok_bd2 (tf_X1_setAsAtFirst (G := ext G S.length (nR S.length 0 (tR 0 6))) (N := S.length + 9) (p := S.length) (q3 := S.length + 1) (q4 := S.length + 2) (q5 := S.length + 3) (m := 5) (by omega) (by omega) (by omega) (by omega) p0 (ext_ge (j := 1)) tR_id (ext_ge (j := 2)) (ext_ge (j := 3)) (by omega) (by omega) (by omega) (by omega) hA (by omega)) (fun _ _ hQ => ?_)
    exact ok_some hQ.1
  · refine ⟨?_, up_self, ?_, ?_, ?_, ?_, ?_, ?_, ?_⟩
    · rw [up_ne (by omega), up_self]
    all_goals
      rw [up_ne (by omega), up_ne (by omega)]
      exact ext_ge
  · intro q hq
    rw [up_ne (by omega), up_ne (by omega)]
    exact ext_lt hq
