def allT (G : xT) : Nat → xS → Prop
  | _, [] => True
  | q, c :: S => G q c ∧ allT G (q + 1) S
theorem allT_hp {G : xT} : ∀ (S : xS) (p q : Nat) (c : xC), allT G p S → S[q]? = some c → G (p + q) c := by
  intro S
  induction S with
  | nil => intro p q c _ e; rw [List.getElem?_nil] at e; cases e
  | cons d S ih =>
    intro p q c h e
    cases q with
    | zero =>
      rw [List.getElem?_cons_zero] at e
      cases e
      exact h.1
    | succ q =>
      rw [List.getElem?_cons_succ] at e
      have := ih (p + 1) q c h.2 e
      rw [show p + (q + 1) = p + 1 + q by omega]
      exact this
theorem allT_app {G : xT} : ∀ (A B : xS) (p : Nat), allT G p A → allT G (p + A.length) B → allT G p (A ++ B) := by
  intro A
  induction A with
  | nil => intro B p _ h; exact h
  | cons d A ih =>
    intro B p h hB
    refine ⟨h.1, ih B (p + 1) h.2 ?_⟩
    rw [show p + 1 + A.length = p + (d :: A).length by rw [List.length_cons]; omega]
    exact hB
def chkF : List (xV → Prop) → List xV → Prop
  | [], [] => True
  | P :: Ps, v :: fs => P v ∧ chkF Ps fs
  | _, _ => False
theorem chkF_s : ∀ (Ps : List (xV → Prop)) (fs : List xV), chkF Ps fs → fs.length = Ps.length ∧ ∀ (k : Nat) (P : xV → Prop), Ps[k]? = some P → ∀ v, fs[k]? = some v → P v := by
  intro Ps
  induction Ps with
  | nil =>
    intro fs h
    cases fs with
    | nil => exact ⟨rfl, fun k P e => by rw [List.getElem?_nil] at e; cases e⟩
    | cons _ _ => exact h.elim
  | cons P Ps ih =>
    intro fs h
    cases fs with
    | nil => exact h.elim
    | cons v fs =>
      obtain ⟨h1, h2⟩ := ih fs h.2
      refine ⟨by rw [List.length_cons, List.length_cons, h1], fun k P' e v' e' => ?_⟩
      cases k with
      | zero =>
        rw [List.getElem?_cons_zero] at e e'
        cases e
        cases e'
        exact h.1
      | succ k =>
        rw [List.getElem?_cons_succ] at e e'
        exact h2 k P' e v' e'
theorem tO_chk {ci : Nat} {Ps : List (xV → Prop)} {fs : List xV} (h : chkF Ps fs) : tO ci Ps (.inr (.inr (ci, fs))) := ⟨fs, rfl, (chkF_s Ps fs h).1, (chkF_s Ps fs h).2⟩
theorem rep_R {lo hi : Int} {m : Nat} (h : lo ≤ 0 ∧ 0 ≤ hi) : tR lo hi (List.replicate m 0) := fun x hx => by rw [(List.mem_replicate.mp hx).2]; exact h
theorem rep_25 {m : Nat} : r25 (List.replicate m 0) := fun k v _ e => by rw [(List.mem_replicate.mp (List.mem_of_getElem? e)).2]; omega
theorem fI_m {lo hi z : Int} (h : lo ≤ z ∧ z ≤ hi) : fI lo hi (.inl z) := ⟨z, rfl, h.1, h.2⟩
theorem fZ_m {z : Int} : fZ (.inl z) := ⟨z, rfl⟩
theorem fL_m {z : Int} : fL (.inr (.inl z)) := ⟨z, rfl⟩
theorem tA_m {k len : Nat} {P : List Int → Prop} {L : List Int} (h1 : L.length = len) (h2 : P L) : tA k len P (.inl (k, L)) := ⟨L, rfl, h1, h2⟩
theorem sl5 : sl 5 [0, 1, 2, 3, 4, 0, 0] := ⟨by unfold tR; decide, fun h => absurd h (by decide)⟩
def n0L : List Int := [5, 2, 1, 0, 1, 2, 3, 4, 5, 6, 0, 0, 0, 0, 0, 0, 0, -1, -1, -1, -1, -1, -1, -1, 0, 0, 0, 0, 0, 0, 0, 0, 0, 0, 0, 0, 0, 0, 0, 0, 0, 0, 0, 0, 0, 0, 0, 0, 0, 0, 0, 0, 0, 0, 0, 0, 0]
theorem nw5 : nw 5 n0L := by
  refine ⟨rfl, ?_, ?_, ?_, ⟨?_, ?_⟩, ?_, ?_, ?_, ?_, ?_, ?_⟩
  · intro v e; cases e; decide
  · intro v e; cases e; decide
  · intro j v j1 j2 e
    rcases (show j = 3 ∨ j = 4 ∨ j = 5 ∨ j = 6 ∨ j = 7 ∨ j = 8 ∨ j = 9 by omega) with rfl | rfl | rfl | rfl | rfl | rfl | rfl <;> (cases e; decide)
  · have h : ∀ i : Fin 5, ∀ j : Fin 5, n0L[3 + i.val]? = n0L[3 + j.val]? → i.val = j.val := by decide
    intro i j hi hj e
    exact h ⟨i, by omega⟩ ⟨j, by omega⟩ e
  · intro i v hi e
    rcases (show i = 0 ∨ i = 1 ∨ i = 2 ∨ i = 3 ∨ i = 4 by omega) with rfl | rfl | rfl | rfl | rfl <;> (cases e; decide)
  · intro v e; cases e; decide
  · intro k v hk e
    rcases (show k = 0 ∨ k = 1 ∨ k = 2 ∨ k = 3 ∨ k = 4 ∨ k = 5 ∨ k = 6 ∨ k = 7 by omega) with rfl | rfl | rfl | rfl | rfl | rfl | rfl | rfl <;> (cases e; decide)
  · intro v e; cases e; decide
  · intro k m v e1 hk e; cases e1; exfalso; omega
  · intro v e; cases e; decide
  · intro k m v e1 hk e; cases e1; exfalso; omega
/-- the fresh store -/
def G0 : xT := T5 5 5 0 none [none, none] (R6 5 0 false false)
theorem s0a : allT G0 0 S0a := ⟨tO_chk ⟨rfl, rfl, rfl, rfl, rfl, rfl, rfl, rfl, fL_m, fL_m, fZ_m, fZ_m, fZ_m, trivial⟩,
  tO_chk ⟨fI_m (by decide), fZ_m, fI_m (by decide), rfl, rfl, rfl, fI_m (by decide), rfl, rfl, fI_m (by decide), rfl, fI_m (by decide), rfl, rfl, trivial⟩,
  tA_m rfl sl5,
  tA_m rfl trivial,
  tA_m rfl trivial,
  tA_m rfl (by unfold tR; decide),
  tA_m rfl trivial,
  tA_m rfl (by unfold tR; decide),
  tA_m rfl (by unfold tR; decide),
  tA_m rfl (by unfold tR; decide),
  tO_chk ⟨fI_m (by decide), fZ_m, fI_m (by decide), rfl, rfl, rfl, fI_m (by decide), rfl, rfl, fI_m (by decide), rfl, fI_m (by decide), rfl, rfl, trivial⟩,
  tA_m rfl sl5,
  tA_m rfl trivial,
  tA_m rfl trivial,
  tA_m rfl (by unfold tR; decide),
  tA_m rfl trivial,
  tA_m rfl (by unfold tR; decide),
  tA_m rfl (by unfold tR; decide),
  tA_m rfl (by unfold tR; decide),
  rfl,
  tO_chk ⟨rfl, fI_m (by decide), fI_m (by decide), fZ_m, fI_m (by decide), fI_m (by decide), trivial⟩,
  tA_m (List.length_replicate) (rep_R (by decide)),
  tO_chk ⟨rfl, fI_m (by decide), fI_m (by decide), fZ_m, trivial⟩,
  tA_m rfl trivial,
  tA_m rfl (by unfold tR; decide),
  tA_m (List.length_replicate) trivial,
  trivial⟩
theorem s0b : allT G0 26 S0b := ⟨tO_chk ⟨rfl, rfl, rfl, rfl, fL_m, fL_m, rfl, fZ_m, rfl, fI_m (by decide), fI_m (by decide), fZ_m, rfl, rfl, rfl, rfl, rfl, fZ_m, rfl, rfl, rfl, rfl, rfl, fI_m (by decide), fI_m (by decide), fI_m (by decide), fZ_m, fI_m (by decide), rfl, rfl, trivial⟩,
  tA_m rfl nw5,
  tA_m (List.length_replicate) ⟨fun h => absurd h (by decide), fun h => absurd h (by decide)⟩,
  rfl,
  tA_m rfl trivial,
  tA_m rfl (by unfold tR; decide),
  tA_m rfl (by unfold tR; decide),
  tA_m rfl (by unfold tR; decide),
  tA_m rfl (by unfold tR; decide),
  tA_m (List.length_replicate) trivial,
  tA_m (List.length_replicate) (rep_R (by decide)),
  tA_m (List.length_replicate) (rep_R (by decide)),
  tA_m (List.length_replicate) trivial,
  tA_m rfl trivial,
  tA_m rfl trivial,
  tA_m rfl (by unfold tR; decide),
  tA_m (List.length_replicate) (rep_R (by decide)),
  tA_m (List.length_replicate) rep_25,
  tA_m rfl trivial,
  trivial⟩
theorem w_start : W6 S0 := ⟨5, 0, none, none, by decide, by decide, 5, 5, none, R6 5 0 false false, 45, by decide, by decide, Nat.le_refl _, ⟨Nat.le_of_ble_eq_true rfl, fun q c e => by
  have := allT_hp S0 0 q c (allT_app S0a S0b 0 s0a s0b) e
  rw [Nat.zero_add] at this
  exact this⟩, ⟨fun h hh => (by rcases hh with hh | hh <;> cases hh), fun h h' e => (by cases e), fun g e => (by cases e)⟩, fun q _ _ => rfl⟩
