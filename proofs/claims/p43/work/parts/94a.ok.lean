/-! totality: a run answers something, and what holds of the store stays -/
def Ok (o : Option (Int × xS)) (Q : Int → xS → Prop) : Prop := ∃ r S, o = some (r, S) ∧ Q r S
theorem bd2_some {α σ β : Type} {o : Option (α × σ)} {x : α} {s : σ} {f : α → σ → Option β} (h : o = some (x, s)) : bd2 o f = f x s := by rw [h]; rfl
theorem bind_some' {α β : Type} {o : Option α} {x : α} {f : α → Option β} (h : o = some x) : o.bind f = f x := by rw [h]; rfl
theorem ok_some {r : Int} {S : xS} {Q : Int → xS → Prop} (h : Q r S) : Ok (some (r, S)) Q := ⟨r, S, rfl, h⟩
theorem ok_mono {o : Option (Int × xS)} {P Q : Int → xS → Prop} (h : Ok o P) (hpq : ∀ r S, P r S → Q r S) : Ok o Q := by
  obtain ⟨r, S, e, h⟩ := h
  exact ⟨r, S, e, hpq r S h⟩
theorem ok_bd2 {o : Option (Int × xS)} {P Q : Int → xS → Prop} {f : Int → xS → Option (Int × xS)} (h : Ok o P) (hf : ∀ r S, P r S → Ok (f r S) Q) : Ok (bd2 o f) Q := by
  obtain ⟨r, S, e, h⟩ := h
  rw [bd2_some e]
  exact hf r S h
theorem ok_bind {α : Type} {o : Option α} {v : α} {Q : Int → xS → Prop} {f : α → Option (Int × xS)} (h : o = some v) (hf : Ok (f v) Q) : Ok (o.bind f) Q := by
  rw [bind_some' h]
  exact hf
theorem ok_if {c : Prop} [Decidable c] {a b : Option (Int × xS)} {Q : Int → xS → Prop} (ha : c → Ok a Q) (hb : ¬ c → Ok b Q) : Ok (if c then a else b) Q := by
  by_cases h : c
  · rw [if_pos h]
    exact ha h
  · rw [if_neg h]
    exact hb h
theorem ok_pos {c : Prop} [Decidable c] {a b : Option (Int × xS)} {Q : Int → xS → Prop} (h : c) (ha : Ok a Q) : Ok (if c then a else b) Q := by
  rw [if_pos h]
  exact ha
theorem ok_neg {c : Prop} [Decidable c] {a b : Option (Int × xS)} {Q : Int → xS → Prop} (h : ¬ c) (hb : Ok b Q) : Ok (if c then a else b) Q := by
  rw [if_neg h]
  exact hb
theorem wIn {n : Int} (h1 : -2147483648 ≤ n) (h2 : n < 2147483648) : wI n = n := wI_id h1 h2
/-- what each place holds -/
abbrev xT : Type := Nat → xC → Prop
def Hp (G : xT) (N : Nat) (S : xS) : Prop := N ≤ S.length ∧ ∀ (q : Nat) (c : xC), S[q]? = some c → G q c
def up (G : xT) (q : Nat) (P : xC → Prop) : xT := fun q' => if q' = q then P else G q'
def tA (k len : Nat) (P : List Int → Prop) (c : xC) : Prop := ∃ L, c = .inl (k, L) ∧ L.length = len ∧ P L
def tR (lo hi : Int) (L : List Int) : Prop := ∀ x ∈ L, lo ≤ x ∧ x ≤ hi
def tW (_ : List Int) : Prop := True
def tO (ci : Nat) (Ps : List (xV → Prop)) (c : xC) : Prop := ∃ fs, c = .inr (.inr (ci, fs)) ∧ fs.length = Ps.length ∧ ∀ (k : Nat) (P : xV → Prop), Ps[k]? = some P → ∀ v, fs[k]? = some v → P v
def fI (lo hi : Int) (v : xV) : Prop := ∃ z, v = .inl z ∧ lo ≤ z ∧ z ≤ hi
def fZ (v : xV) : Prop := ∃ z, v = .inl z
def fL (v : xV) : Prop := ∃ z, v = .inr (.inl z)
def fP (q : Nat) (v : xV) : Prop := v = .inr (.inr (some q))
theorem hp_get {G : xT} {N : Nat} {S : xS} {q : Nat} (h : Hp G N S) (hq : q < N) : ∃ c, S[q]? = some c ∧ G q c := by
  obtain ⟨h1, h2⟩ := h
  have hl : q < S.length := Nat.lt_of_lt_of_le hq h1
  exact ⟨S[q], List.getElem?_eq_getElem hl, h2 q _ (List.getElem?_eq_getElem hl)⟩
theorem hp_set {G : xT} {N : Nat} {S : xS} {q : Nat} {c : xC} (h : Hp G N S) (hc : G q c) : Hp G N (S.set q c) := by
  obtain ⟨h1, h2⟩ := h
  refine ⟨by rw [List.length_set]; exact h1, fun q' c' e => ?_⟩
  by_cases hq : q = q'
  · subst hq
    by_cases hl : q < S.length
    · rw [List.getElem?_set_self hl] at e
      cases e
      exact hc
    · rw [List.getElem?_eq_none (by rw [List.length_set]; omega)] at e
      cases e
  · rw [List.getElem?_set_ne hq] at e
    exact h2 q' c' e
theorem hp_up {G : xT} {N : Nat} {S : xS} {q : Nat} {P : xC → Prop} {c : xC} (h : Hp G N S) (hc : P c) : Hp (up G q P) N (S.set q c) := by
  obtain ⟨h1, h2⟩ := h
  refine ⟨by rw [List.length_set]; exact h1, fun q' c' e => ?_⟩
  unfold up
  by_cases hq : q = q'
  · subst hq
    rw [if_pos rfl]
    by_cases hl : q < S.length
    · rw [List.getElem?_set_self hl] at e
      cases e
      exact hc
    · rw [List.getElem?_eq_none (by rw [List.length_set]; omega)] at e
      cases e
  · rw [if_neg (fun z => hq z.symm)]
    rw [List.getElem?_set_ne hq] at e
    exact h2 q' c' e
theorem hp_open {G : xT} {N : Nat} {S : xS} {q : Nat} {c : xC} (h : Hp G N S) (e : S[q]? = some c) : Hp (up G q (Eq c)) N S := by
  refine ⟨h.1, fun q' c' e' => ?_⟩
  unfold up
  by_cases hq : q' = q
  · subst hq
    rw [if_pos rfl]
    rw [e] at e'
    exact Option.some.inj e'
  · rw [if_neg hq]
    exact h.2 q' c' e'
theorem hp_weak {G G' : xT} {N : Nat} {S : xS} (h : Hp G N S) (hg : ∀ q c, G q c → G' q c) : Hp G' N S := ⟨h.1, fun q c e => hg q c (h.2 q c e)⟩
theorem up_self {G : xT} {q : Nat} {P : xC → Prop} : up G q P q = P := if_pos rfl
theorem up_ne {G : xT} {q q' : Nat} {P : xC → Prop} (h : q' ≠ q) : up G q P q' = G q' := if_neg h
theorem hp_close {G : xT} {N : Nat} {S : xS} {q : Nat} {P : xC → Prop} (h : Hp (up G q P) N S) (hp : ∀ c, P c → G q c) : Hp G N S := by
  refine hp_weak h (fun q' c hc => ?_)
  by_cases hq : q' = q
  · subst hq
    rw [up_self] at hc
    exact hp c hc
  · rw [up_ne hq] at hc
    exact hc
/-! reading and writing -/
theorem rdA_at {k : Nat} {S : xS} {q : Nat} {L : List Int} {i : Int} (h : S[q]? = some (.inl (k, L))) (h0 : 0 ≤ i) (h1 : i < 2147483648) : rdA k S q i = L[i.toNat]? := by
  unfold rdA
  simp only [lGet_e]
  rw [h]
  exact if_pos ⟨rfl, h0, h1⟩
theorem ok_rdA {G : xT} {N : Nat} {S : xS} {q k len : Nat} {P : List Int → Prop} {lo hi i : Int} {Q : Int → xS → Prop} {f : Int → Option (Int × xS)} (h : Hp G N S) (hq : q < N) (hG : G q = tA k len P) (hP : ∀ L, P L → tR lo hi L) (h0 : 0 ≤ i) (h1 : i < len) (h2 : i < 2147483648) (hf : ∀ v, lo ≤ v → v ≤ hi → Ok (f v) Q) : Ok ((rdA k S q i).bind f) Q := by
  obtain ⟨c, e, hc⟩ := hp_get h hq
  rw [hG] at hc
  obtain ⟨L, rfl, hL, hp⟩ := hc
  have hi' : i.toNat < L.length := by omega
  refine ok_bind (v := L[i.toNat]) ?_ (hf _ ?_ ?_)
  · rw [rdA_at e h0 h2, List.getElem?_eq_getElem hi']
  · exact (hP L hp _ (List.getElem_mem hi')).1
  · exact (hP L hp _ (List.getElem_mem hi')).2
theorem ok_rdW {G : xT} {N : Nat} {S : xS} {q k len : Nat} {P : List Int → Prop} {i : Int} {Q : Int → xS → Prop} {f : Int → Option (Int × xS)} (h : Hp G N S) (hq : q < N) (hG : G q = tA k len P) (h0 : 0 ≤ i) (h1 : i < len) (h2 : i < 2147483648) (hf : ∀ v, Ok (f v) Q) : Ok ((rdA k S q i).bind f) Q := by
  obtain ⟨c, e, hc⟩ := hp_get h hq
  rw [hG] at hc
  obtain ⟨L, rfl, hL, hp⟩ := hc
  have hi' : i.toNat < L.length := by omega
  refine ok_bind (v := L[i.toNat]) ?_ (hf _)
  rw [rdA_at e h0 h2, List.getElem?_eq_getElem hi']
theorem ok_wrA {G : xT} {N : Nat} {S : xS} {q k len : Nat} {P : List Int → Prop} {i x : Int} {Q : Int → xS → Prop} {f : xS → Option (Int × xS)} (h : Hp G N S) (hq : q < N) (hG : G q = tA k len P) (h0 : 0 ≤ i) (h1 : i < len) (h2 : i < 2147483648) (hw : ∀ L : List Int, L.length = len → P L → P (L.set i.toNat x)) (hf : ∀ S', Hp G N S' → Ok (f S') Q) : Ok ((wrA k S q i x).bind f) Q := by
  obtain ⟨c, e, hc⟩ := hp_get h hq
  rw [hG] at hc
  obtain ⟨L, rfl, hL, hp⟩ := hc
  have hi' : i.toNat < L.length := by omega
  refine ok_bind (v := S.set q (.inl (k, L.set i.toNat x))) (wrA_of e h0 h2 hi') (hf _ (hp_set h ?_))
  rw [hG]
  exact ⟨_, rfl, by rw [List.length_set]; exact hL, hw L hL hp⟩
theorem tR_set {lo hi x : Int} {i : Nat} (h : lo ≤ x ∧ x ≤ hi) (L : List Int) (hL : tR lo hi L) : tR lo hi (L.set i x) := by
  intro y hy
  rcases List.mem_or_eq_of_mem_set hy with hy | rfl
  · exact hL y hy
  · exact h
theorem tR_id {lo hi : Int} (L : List Int) (h : tR lo hi L) : tR lo hi L := h
theorem fs_at {ci k : Nat} {S : xS} {p : Nat} {fs : List xV} (h : S[p]? = some (.inr (.inr (ci, fs)))) : rdF ci k S p = fs[k]? := by
  unfold rdF
  simp only [lGet_e]
  rw [h]
  exact if_pos rfl
theorem ok_fld {G : xT} {N : Nat} {S : xS} {p ci k : Nat} {Ps : List (xV → Prop)} {P : xV → Prop} (h : Hp G N S) (hp : p < N) (hG : G p = tO ci Ps) (hk : Ps[k]? = some P) : ∃ v, rdF ci k S p = some v ∧ P v := by
  obtain ⟨c, e, hc⟩ := hp_get h hp
  rw [hG] at hc
  obtain ⟨fs, rfl, hl, hF⟩ := hc
  have hk' : k < fs.length := by
    rw [hl]
    exact (List.getElem?_eq_some_iff.mp hk).1
  exact ⟨fs[k], by rw [fs_at e, List.getElem?_eq_getElem hk'], hF k P hk _ (List.getElem?_eq_getElem hk')⟩
theorem ok_rdFi {G : xT} {N : Nat} {S : xS} {p ci k : Nat} {Ps : List (xV → Prop)} {lo hi : Int} {Q : Int → xS → Prop} {f : Int → Option (Int × xS)} (h : Hp G N S) (hp : p < N) (hG : G p = tO ci Ps) (hk : Ps[k]? = some (fI lo hi)) (hf : ∀ v, lo ≤ v → v ≤ hi → Ok (f v) Q) : Ok ((rdFi ci k S p).bind f) Q := by
  obtain ⟨v, e, z, rfl, h1, h2⟩ := ok_fld h hp hG hk
  refine ok_bind (v := z) ?_ (hf z h1 h2)
  unfold rdFi
  rw [e]
theorem ok_rdFz {G : xT} {N : Nat} {S : xS} {p ci k : Nat} {Ps : List (xV → Prop)} {Q : Int → xS → Prop} {f : Int → Option (Int × xS)} (h : Hp G N S) (hp : p < N) (hG : G p = tO ci Ps) (hk : Ps[k]? = some fZ) (hf : ∀ v, Ok (f v) Q) : Ok ((rdFi ci k S p).bind f) Q := by
  obtain ⟨v, e, z, rfl⟩ := ok_fld h hp hG hk
  refine ok_bind (v := z) ?_ (hf z)
  unfold rdFi
  rw [e]
theorem ok_rdFl {G : xT} {N : Nat} {S : xS} {p ci k : Nat} {Ps : List (xV → Prop)} {Q : Int → xS → Prop} {f : Int → Option (Int × xS)} (h : Hp G N S) (hp : p < N) (hG : G p = tO ci Ps) (hk : Ps[k]? = some fL) (hf : ∀ v, Ok (f v) Q) : Ok ((rdFl ci k S p).bind f) Q := by
  obtain ⟨v, e, z, rfl⟩ := ok_fld h hp hG hk
  refine ok_bind (v := z) ?_ (hf z)
  unfold rdFl
  rw [e]
theorem ok_rdFp {G : xT} {N : Nat} {S : xS} {p ci k q : Nat} {Ps : List (xV → Prop)} {Q : Int → xS → Prop} {f : Nat → Option (Int × xS)} (h : Hp G N S) (hp : p < N) (hG : G p = tO ci Ps) (hk : Ps[k]? = some (fP q)) (hf : Ok (f q) Q) : Ok ((rdFp ci k S p).bind f) Q := by
  obtain ⟨v, e, hv⟩ := ok_fld h hp hG hk
  refine ok_bind (v := q) ?_ hf
  unfold rdFp
  rw [e, hv]
theorem ok_is {G : xT} {N : Nat} {S : xS} {p ci : Nat} {Ps : List (xV → Prop)} {Q : Int → xS → Prop} {a b : Option (Int × xS)} (h : Hp G N S) (hp : p < N) (hG : G p = tO ci Ps) (ha : Ok a Q) : Ok (if isO ci S p = true then a else b) Q := by
  obtain ⟨c, e, hc⟩ := hp_get h hp
  rw [hG] at hc
  obtain ⟨fs, rfl, hl, hF⟩ := hc
  refine ok_pos ?_ ha
  unfold isO
  simp only [lGet_e]
  rw [e]
  exact beq_self_eq_true ci
theorem wrF_at {ci k : Nat} {S : xS} {p : Nat} {fs : List xV} {v : xV} (h : S[p]? = some (.inr (.inr (ci, fs)))) (hk : k < fs.length) : wrF ci k S p v = some (S.set p (.inr (.inr (ci, fs.set k v)))) := by
  unfold wrF
  simp only [lGet_e, lSet_e, l_some]
  rw [h]
  exact if_pos ⟨rfl, hk⟩
theorem tO_set {ci k : Nat} {Ps : List (xV → Prop)} {P : xV → Prop} {fs : List xV} {v : xV} (hk : Ps[k]? = some P) (hv : P v) (h : tO ci Ps (.inr (.inr (ci, fs)))) : tO ci Ps (.inr (.inr (ci, fs.set k v))) := by
  obtain ⟨fs', e, hl, hF⟩ := h
  cases e
  refine ⟨_, rfl, by rw [List.length_set]; exact hl, fun k' P' hP' v' hv' => ?_⟩
  by_cases hkk : k = k'
  · subst hkk
    rw [hk] at hP'
    cases hP'
    have hkl : k < fs.length := by
      rw [hl]
      exact (List.getElem?_eq_some_iff.mp hk).1
    rw [List.getElem?_set_self hkl] at hv'
    cases hv'
    exact hv
  · rw [List.getElem?_set_ne hkk] at hv'
    exact hF k' P' hP' v' hv'
theorem ok_wrF {G : xT} {N : Nat} {S : xS} {p ci k : Nat} {Ps : List (xV → Prop)} {P : xV → Prop} {v : xV} {Q : Int → xS → Prop} {f : xS → Option (Int × xS)} (h : Hp G N S) (hp : p < N) (hG : G p = tO ci Ps) (hk : Ps[k]? = some P) (hv : P v) (hf : ∀ S', Hp G N S' → Ok (f S') Q) : Ok ((wrF ci k S p v).bind f) Q := by
  obtain ⟨c, e, hc⟩ := hp_get h hp
  rw [hG] at hc
  have hc' := hc
  obtain ⟨fs, rfl, hl, hF⟩ := hc
  have hkl : k < fs.length := by
    rw [hl]
    exact (List.getElem?_eq_some_iff.mp hk).1
  refine ok_bind (wrF_at e hkl) (hf _ (hp_set h ?_))
  rw [hG]
  exact tO_set hk hv hc'
/-- a field of which the type changes -/
theorem ok_wrU {G : xT} {N : Nat} {S : xS} {p ci k : Nat} {Ps : List (xV → Prop)} (P : xV → Prop) {v : xV} {Q : Int → xS → Prop} {f : xS → Option (Int × xS)} (h : Hp G N S) (hp : p < N) (hG : G p = tO ci Ps) (hk : k < Ps.length) (hv : P v) (hf : ∀ S', Hp (up G p (tO ci (Ps.set k P))) N S' → Ok (f S') Q) : Ok ((wrF ci k S p v).bind f) Q := by
  obtain ⟨c, e, hc⟩ := hp_get h hp
  rw [hG] at hc
  obtain ⟨fs, rfl, hl, hF⟩ := hc
  refine ok_bind (wrF_at e (by rw [hl]; exact hk)) (hf _ (hp_up h ⟨_, rfl, by rw [List.length_set, List.length_set]; exact hl, fun k' P' hP' v' hv' => ?_⟩))
  by_cases hkk : k = k'
  · subst hkk
    rw [List.getElem?_set_self hk] at hP'
    rw [List.getElem?_set_self (by rw [hl]; exact hk)] at hv'
    cases hP'
    cases hv'
    exact hv
  · rw [List.getElem?_set_ne hkk] at hv' hP'
    exact hF k' P' hP' v' hv'
theorem ok_rdT {i : Int} {Q : Int → xS → Prop} {f : Int → Option (Int × xS)} (h0 : 0 ≤ i) (h1 : i < 8) (hf : ∀ v, 1 ≤ v → v ≤ 5040 → rdT i = some v → Ok (f v) Q) : Ok ((rdT i).bind f) Q := by
  have key : ∀ n : Nat, n < 8 → ∃ v, rdT (n : Int) = some v ∧ 1 ≤ v ∧ v ≤ 5040 := by
    intro n hn
    rcases (show n = 0 ∨ n = 1 ∨ n = 2 ∨ n = 3 ∨ n = 4 ∨ n = 5 ∨ n = 6 ∨ n = 7 by omega) with rfl | rfl | rfl | rfl | rfl | rfl | rfl | rfl
    · exact ⟨1, rfl, by omega, by omega⟩
    · exact ⟨1, rfl, by omega, by omega⟩
    · exact ⟨2, rfl, by omega, by omega⟩
    · exact ⟨6, rfl, by omega, by omega⟩
    · exact ⟨24, rfl, by omega, by omega⟩
    · exact ⟨120, rfl, by omega, by omega⟩
    · exact ⟨720, rfl, by omega, by omega⟩
    · exact ⟨5040, rfl, by omega, by omega⟩
  obtain ⟨v, e, h2, h3⟩ := key i.toNat (by omega)
  rw [show ((i.toNat : Nat) : Int) = i by omega] at e
  exact ok_bind e (hf v h2 h3 e)
theorem ok_bindE {α : Type} {o : Option α} {v : α} {Q : Int → xS → Prop} {f : α → Option (Int × xS)} (h : o = some v) (hf : o = some v → Ok (f v) Q) : Ok (o.bind f) Q := by
  rw [bind_some' h]
  exact hf h
theorem ok_rdFiE {G : xT} {N : Nat} {S : xS} {p ci k : Nat} {Ps : List (xV → Prop)} {lo hi : Int} {Q : Int → xS → Prop} {f : Int → Option (Int × xS)} (h : Hp G N S) (hp : p < N) (hG : G p = tO ci Ps) (hk : Ps[k]? = some (fI lo hi)) (hf : ∀ v, lo ≤ v → v ≤ hi → rdFi ci k S p = some v → Ok (f v) Q) : Ok ((rdFi ci k S p).bind f) Q := by
  obtain ⟨v, e, z, rfl, h1, h2⟩ := ok_fld h hp hG hk
  have e' : rdFi ci k S p = some z := by
    unfold rdFi
    rw [e]
  exact ok_bind e' (hf z h1 h2 e')
theorem rdFi_set {S : xS} {q ci k p : Nat} {c c' : xC} {v : Int} (hc : S[q]? = some c) (h1 : ∀ ci fs, c ≠ .inr (.inr (ci, fs))) (e : rdFi ci k S p = some v) : rdFi ci k (S.set q c') p = some v := by
  have hpq : q ≠ p := by
    intro hq
    subst hq
    unfold rdFi rdF at e
    simp only [lGet_e] at e
    rw [hc] at e
    match c, h1, e with
    | .inl _, _, e => cases e
    | .inr (.inl _), _, e => cases e
    | .inr (.inr (ci, fs)), h1, _ => exact absurd rfl (h1 ci fs)
  have : rdF ci k (S.set q c') p = rdF ci k S p := by
    unfold rdF
    simp only [lGet_e]
    rw [List.getElem?_set_ne hpq]
  unfold rdFi at e ⊢
  rw [this]
  exact e
theorem ok_wrAE {G : xT} {N : Nat} {S : xS} {q k len : Nat} {P : List Int → Prop} {i x : Int} {Q : Int → xS → Prop} {f : xS → Option (Int × xS)} (h : Hp G N S) (hq : q < N) (hG : G q = tA k len P) (h0 : 0 ≤ i) (h1 : i < len) (h2 : i < 2147483648) (hw : ∀ L : List Int, L.length = len → P L → P (L.set i.toNat x)) (hf : ∀ S', Hp G N S' → (∀ ci k p v, rdFi ci k S p = some v → rdFi ci k S' p = some v) → Ok (f S') Q) : Ok ((wrA k S q i x).bind f) Q := by
  obtain ⟨c, e, hc⟩ := hp_get h hq
  rw [hG] at hc
  obtain ⟨L, rfl, hL, hp⟩ := hc
  have hi' : i.toNat < L.length := by omega
  refine ok_bind (v := S.set q (.inl (k, L.set i.toNat x))) (wrA_of e h0 h2 hi') (hf _ (hp_set h ?_) (fun ci' k' p v hv => rdFi_set e (fun _ _ z => by cases z) hv))
  rw [hG]
  exact ⟨_, rfl, by rw [List.length_set]; exact hL, hw L hL hp⟩
theorem ok_wrFE {G : xT} {N : Nat} {S : xS} {p ci k : Nat} {Ps : List (xV → Prop)} {lo hi z : Int} {Q : Int → xS → Prop} {f : xS → Option (Int × xS)} (h : Hp G N S) (hp : p < N) (hG : G p = tO ci Ps) (hk : Ps[k]? = some (fI lo hi)) (hv : lo ≤ z ∧ z ≤ hi) (hf : ∀ S', Hp G N S' → rdFi ci k S' p = some z → Ok (f S') Q) : Ok ((wrF ci k S p (.inl z)).bind f) Q := by
  obtain ⟨c, e, hc⟩ := hp_get h hp
  rw [hG] at hc
  have hc' := hc
  obtain ⟨fs, rfl, hl, hF⟩ := hc
  have hkl : k < fs.length := by
    rw [hl]
    exact (List.getElem?_eq_some_iff.mp hk).1
  have hpl : p < S.length := (List.getElem?_eq_some_iff.mp e).1
  refine ok_bind (wrF_at e hkl) (hf _ (hp_set h ?_) ?_)
  · rw [hG]
    exact tO_set hk ⟨z, rfl, hv.1, hv.2⟩ hc'
  · have e2 : rdF ci k (S.set p (.inr (.inr (ci, fs.set k (.inl z))))) p = some (.inl z) := by
      rw [fs_at (fs := fs.set k (.inl z)) (by rw [List.getElem?_set_self hpl]), List.getElem?_set_self hkl]
    unfold rdFi
    rw [e2]
/-- arraycopy -/
theorem cpy_mem {L M : List Int} {a b n : Nat} {x : Int} (h : x ∈ M.take b ++ (L.drop a).take n ++ M.drop (b + n)) : x ∈ L ∨ x ∈ M := by
  rw [List.mem_append, List.mem_append] at h
  rcases h with (h | h) | h
  · exact Or.inr (List.mem_of_mem_take h)
  · exact Or.inl (List.mem_of_mem_drop (List.mem_of_mem_take h))
  · exact Or.inr (List.mem_of_mem_drop h)
theorem ok_cpy {G : xT} {N : Nat} {S : xS} {q r lq lr : Nat} {P R : List Int → Prop} {sp dp n : Int} {Q : Int → xS → Prop} {f : xS → Option (Int × xS)} (h : Hp G N S) (hq : q < N) (hr : r < N) (hGq : G q = tA 0 lq P) (hGr : G r = tA 0 lr R) (hb : 0 ≤ sp ∧ 0 ≤ dp ∧ 0 ≤ n ∧ sp + n ≤ lq ∧ dp + n ≤ lr ∧ lq < 6000 ∧ lr < 6000) (hw : ∀ L M : List Int, L.length = lq → M.length = lr → P L → R M → R (M.take dp.toNat ++ (L.drop sp.toNat).take n.toNat ++ M.drop (dp.toNat + n.toNat))) (hf : ∀ S', Hp G N S' → (∀ ci k p v, rdFi ci k S p = some v → rdFi ci k S' p = some v) → Ok (f S') Q) : Ok ((cpyA S q sp r dp n).bind f) Q := by
  obtain ⟨c, e, hc⟩ := hp_get h hq
  rw [hGq] at hc
  obtain ⟨L, rfl, hL, hp⟩ := hc
  obtain ⟨c', e', hc'⟩ := hp_get h hr
  rw [hGr] at hc'
  obtain ⟨M, rfl, hM, hp'⟩ := hc'
  refine ok_bind (v := S.set r (.inl (0, M.take dp.toNat ++ (L.drop sp.toNat).take n.toNat ++ M.drop (dp.toNat + n.toNat)))) ?_ (hf _ (hp_set h ?_) (fun ci' k' p v hv => rdFi_set e' (fun _ _ z => by cases z) hv))
  · unfold cpyA
    simp only [lGet_e, lSet_e]
    rw [e, e']
    exact if_pos ⟨rfl, rfl, by omega, by omega, by omega, by omega, by omega, by omega, by omega, by omega⟩
  · rw [hGr]
    refine ⟨_, rfl, ?_, hw L M hL hM hp hp'⟩
    rw [List.length_append, List.length_append, List.length_take, List.length_take, List.length_drop, List.length_drop]
    omega
theorem ok_onP {o : Option (Option Nat)} {q : Nat} {a : Option (Int × xS)} {f : Nat → Option (Int × xS)} {Q : Int → xS → Prop} (h : o = some (some q)) (hf : Ok (f q) Q) : Ok (onP o a f) Q := by
  rw [h]
  exact hf
