/-! numbers: an int of the machine by an integer, by its ring map; comparisons by the wrapped value -/
def iI (z : Int) : Int32 := Int32.ofInt z
def lI (z : Int) : Int64 := Int64.ofInt z
def wI (z : Int) : Int := Int.bmod z 4294967296
def wL (z : Int) : Int := Int.bmod z 18446744073709551616
theorem iI_toInt (z : Int) : (iI z).toInt = wI z := Int32.toInt_ofInt
theorem lI_toInt (z : Int) : (lI z).toInt = wL z := Int64.toInt_ofInt
theorem iI_of (x : Int32) : iI x.toInt = x := Int32.ofInt_toInt x
theorem lI_of (x : Int64) : lI x.toInt = x := Int64.ofInt_toInt x
theorem wI_id {z : Int} (h1 : -2147483648 ≤ z) (h2 : z < 2147483648) : wI z = z := by
  unfold wI
  rw [Int.bmod_eq_iff (by decide)]
  omega
theorem wL_id {z : Int} (h1 : -9223372036854775808 ≤ z) (h2 : z < 9223372036854775808) : wL z = z := by
  unfold wL
  rw [Int.bmod_eq_iff (by decide)]
  omega
theorem wI_rng (z : Int) : -2147483648 ≤ wI z ∧ wI z < 2147483648 := by
  have h1 := Int32.le_toInt (iI z)
  have h2 := Int32.toInt_lt (iI z)
  rw [iI_toInt] at h1 h2
  omega
theorem wL_rng (z : Int) : -9223372036854775808 ≤ wL z ∧ wL z < 9223372036854775808 := by
  have h1 := Int64.le_toInt (lI z)
  have h2 := Int64.toInt_lt (lI z)
  rw [lI_toInt] at h1 h2
  omega
theorem iI_w (z : Int) : iI (wI z) = iI z := by rw [← iI_toInt, iI_of]
theorem lI_w (z : Int) : lI (wL z) = lI z := by rw [← lI_toInt, lI_of]
theorem iI_add (a b : Int) : iI a + iI b = iI (a + b) := (Int32.ofInt_add a b).symm
theorem iI_sub (a b : Int) : iI a - iI b = iI (a - b) := (Int32.ofInt_sub a b).symm
theorem iI_mul (a b : Int) : iI a * iI b = iI (a * b) := (Int32.ofInt_mul a b).symm
theorem lI_add (a b : Int) : lI a + lI b = lI (a + b) := (Int64.ofInt_add a b).symm
theorem lI_sub (a b : Int) : lI a - lI b = lI (a - b) := (Int64.ofInt_sub a b).symm
theorem lI_mul (a b : Int) : lI a * lI b = lI (a * b) := (Int64.ofInt_mul a b).symm
theorem iI_inj {a b : Int} : iI a = iI b ↔ wI a = wI b := by rw [← Int32.toInt_inj, iI_toInt, iI_toInt]
theorem iI_lt {a b : Int} : iI a < iI b ↔ wI a < wI b := by rw [Int32.lt_iff_toInt_lt, iI_toInt, iI_toInt]
theorem iI_le {a b : Int} : iI a ≤ iI b ↔ wI a ≤ wI b := by rw [Int32.le_iff_toInt_le, iI_toInt, iI_toInt]
theorem lI_inj {a b : Int} : lI a = lI b ↔ wL a = wL b := by rw [← Int64.toInt_inj, lI_toInt, lI_toInt]
theorem lI_lt {a b : Int} : lI a < lI b ↔ wL a < wL b := by rw [Int64.lt_iff_toInt_lt, lI_toInt, lI_toInt]
theorem wI_0 : wI 0 = 0 := by decide
theorem wL_0 : wL 0 = 0 := by decide
theorem iI_0 : (0 : Int32) = iI 0 := by decide
theorem iI_z {a : Int} : iI a = 0 ↔ wI a = 0 := by rw [iI_0, iI_inj, wI_0]
theorem iI_neg {a : Int} : iI a < 0 ↔ wI a < 0 := by rw [iI_0, iI_lt, wI_0]
theorem iI_nn {a : Int} : 0 ≤ iI a ↔ 0 ≤ wI a := by rw [iI_0, iI_le, wI_0]
theorem iI_pos {a : Int} : 0 < iI a ↔ 0 < wI a := by rw [iI_0, iI_lt, wI_0]
theorem iI_np {a : Int} : iI a ≤ 0 ↔ wI a ≤ 0 := by rw [iI_0, iI_le, wI_0]
theorem lI_z {a : Int} : lI a = 0 ↔ wL a = 0 := by rw [show (0 : Int64) = lI 0 from by decide, lI_inj, wL_0]
theorem iI_div (a b : Int) : iI a / iI b = iI ((wI a).tdiv (wI b)) := by
  rw [← Int32.toInt_inj, Int32.toInt_div, iI_toInt, iI_toInt, iI_toInt]
  rfl
theorem iI_rem (a b : Int) : iI a - iI a / iI b * iI b = iI ((wI a).tmod (wI b)) := by
  rw [iI_div]
  rw [← iI_w b, ← iI_w a, iI_mul, iI_sub]
  congr 1
  have := Int.tmod_add_mul_tdiv (wI a) (wI b)
  rw [Int.mul_comm] at this
  omega
theorem lI_div (a b : Int) : lI a / lI b = lI ((wL a).tdiv (wL b)) := by
  rw [← Int64.toInt_inj, Int64.toInt_div, lI_toInt, lI_toInt, lI_toInt]
  rfl
theorem lI_rem (a b : Int) : lI a - lI a / lI b * lI b = lI ((wL a).tmod (wL b)) := by
  rw [lI_div]
  rw [← lI_w b, ← lI_w a, lI_mul, lI_sub]
  congr 1
  have := Int.tmod_add_mul_tdiv (wL a) (wL b)
  rw [Int.mul_comm] at this
  omega
theorem iI_long (a : Int) : (iI a).toInt64 = lI (wI a) := by
  rw [← Int64.toInt_inj, Int32.toInt_toInt64, iI_toInt, lI_toInt, wL_id] <;> (have := wI_rng a; omega)
theorem lI_int (a : Int) : (lI a).toInt32 = iI a := by
  rw [← Int32.toInt_inj, Int64.toInt_toInt32, lI_toInt, iI_toInt]
  unfold wL wI
  exact Int.bmod_bmod_of_dvd (by decide)
/-- the operations that aren't the ring's -/
def xAnd (a b : Int) : Int := (iI a &&& iI b).toInt
def xOr (a b : Int) : Int := (iI a ||| iI b).toInt
def xXor (a b : Int) : Int := (iI a ^^^ iI b).toInt
def xShl (a b : Int) : Int := (iI a <<< (iI b &&& 31)).toInt
def xShr (a b : Int) : Int := (iI a >>> (iI b &&& 31)).toInt
def xUshr (a b : Int) : Int := ((iI a).toUInt32 >>> ((iI b).toUInt32 &&& Int32.toUInt32 31)).toInt32.toInt
def xByte (a : Int) : Int := ((iI a).toInt8.toInt32).toInt
def xLcmp (a b : Int) : Int := (lg_cmp (lI a) (lI b)).toInt
def xLshl (a b : Int) : Int := (lI a <<< ((iI b).toInt64 &&& 63)).toInt
def xMax (a b : Int) : Int := if wI a < wI b then b else a
def xMin (a b : Int) : Int := if wI b < wI a then b else a
def xMaxL (a b : Int) : Int := if wL a < wL b then b else a
/-- a named value -/
abbrev nmx {α β : Type} (a : α) (f : α → β) : β := f a
theorem nmx_e {α β : Type} {a : α} {f : α → β} {r : β} (h : nmx a f = r) : ∃ x, x = a ∧ f x = r := ⟨a, rfl, h⟩
theorem ob {α β : Type} {o : Option α} {f : α → Option β} {r : β} (h : o.bind f = some r) : ∃ x, o = some x ∧ f x = some r := Option.bind_eq_some_iff.mp h
theorem ifp {α : Sort _} {c : Prop} [Decidable c] {a b r : α} (hc : c) (h : (if c then a else b) = r) : a = r := by rw [if_pos hc] at h; exact h
theorem ifn {α : Sort _} {c : Prop} [Decidable c] {a b r : α} (hc : ¬ c) (h : (if c then a else b) = r) : b = r := by rw [if_neg hc] at h; exact h
theorem ift {α : Type} {c : Prop} [Decidable c] {a : Option α} {r : α} (h : (if c then a else none) = some r) : c ∧ a = some r := by
  by_cases hc : c
  · rw [if_pos hc] at h
    exact ⟨hc, h⟩
  · rw [if_neg hc] at h
    cases h
theorem ifz {α : Type} {c : Prop} [Decidable c] {a : Option α} {r : α} (h : (if c then none else a) = some r) : ¬ c ∧ a = some r := by
  by_cases hc : c
  · rw [if_pos hc] at h
    cases h
  · rw [if_neg hc] at h
    exact ⟨hc, h⟩
/-- an answer and a store, gone on with -/
def bd2 {α σ β : Type} (o : Option (α × σ)) (f : α → σ → Option β) : Option β := o.bind (fun z => f z.1 z.2)
theorem ob2 {α σ β : Type} {o : Option (α × σ)} {f : α → σ → Option β} {r : β} (h : bd2 o f = some r) : ∃ x s, o = some (x, s) ∧ f x s = some r := by
  obtain ⟨z, h1, h2⟩ := ob h
  exact ⟨z.1, z.2, h1, h2⟩
/-- a reference that may be null -/
def onP {β : Type} (o : Option (Option Nat)) (a : Option β) (f : Nat → Option β) : Option β := match o with
  | none => none
  | some none => a
  | some (some x) => f x
theorem onP_s {β : Type} {o : Option (Option Nat)} {a : Option β} {f : Nat → Option β} {r : β} (h : onP o a f = some r) : (o = some none ∧ a = some r) ∨ ∃ x, o = some (some x) ∧ f x = some r := by
  match o, h with
  | none, h => cases h
  | some none, h => exact Or.inl ⟨rfl, h⟩
  | some (some x), h => exact Or.inr ⟨x, rfl, h⟩
theorem onP_n {β : Type} {o : Option (Option Nat)} {f : Nat → Option β} {r : β} (h : onP o none f = some r) : ∃ x, o = some (some x) ∧ f x = some r := by
  rcases onP_s h with ⟨-, h⟩ | h
  · cases h
  · exact h
/-- the words' lengths and signs -/
def sWord (i : Nat) : List Int := (([[98, 111, 120, 101, 115], [108, 101, 97, 118, 101], [116, 117, 114, 110], [114, 117, 108, 101], [115, 119, 97, 112], [102, 111, 117, 110, 100], [109, 105, 115, 115, 101, 100], [107, 110, 111, 119, 110], [109, 111, 118, 101]] : List (List Int)).getD i [])
def sLen (i : Nat) : Option Int := if i < 9 then some ((sWord i).length : Int) else none
def sChr (i : Nat) (k : Int) : Option Int := if i < 9 ∧ 0 ≤ k ∧ k < 2147483648 then (sWord i)[k.toNat]? else none
/-! the store: cells by their places; a cell is an int array of a kind (0 int, 1 byte, 2 boolean), a row of references of a kind (3 Room, 4 int array), or an object of a class with its fields in the order of the slots -/
abbrev xV : Type := Int ⊕ (Int ⊕ Option Nat)
abbrev xC : Type := (Nat × List Int) ⊕ ((Nat × List (Option Nat)) ⊕ (Nat × List xV))
abbrev xS : Type := List xC
/-- what is fixed: the classes' numbers, the arrays' classes, the first address, the table's address, the texts' addresses -/
abbrev xG : Type := va_G × (Nat → ClassId) × Nat × Nat × (Nat → Nat) × (Nat → Nat)
abbrev xD (G : xG) : va_G := G.1
abbrev xCA (G : xG) : Nat → ClassId := G.2.1
abbrev xB (G : xG) : Nat := G.2.2.1
abbrev xTw (G : xG) : Nat := G.2.2.2.1
abbrev xKs (G : xG) : Nat → Nat := G.2.2.2.2.1
abbrev xVs (G : xG) : Nat → Nat := G.2.2.2.2.2
abbrev xAd (G : xG) (q : Nat) : Nat := xB G + q
abbrev xA (G : xG) : Nat → Prop := fun q => xB G ≤ q
def xrv (G : xG) (p : Option Nat) : Value := va_rf (p.map (fun q => xB G + q))
def xfv (G : xG) (v : xV) : Value := match v with
  | .inl z => .int (iI z)
  | .inr (.inl z) => .long (lI z)
  | .inr (.inr p) => xrv G p
def xce (G : xG) (c : xC) : va_E := match c with
  | .inl (k, L) => .inl (xCA G k, L.length, .inl (fun j => iI (L.getD j 0)))
  | .inr (.inl (k, L)) => .inl (xCA G k, L.length, .inr (.inr (.inr (.inr (fun j => (L.getD j none).map (fun q => xB G + q))))))
  | .inr (.inr (ci, fs)) => .inr (ci, fs.map (xfv G))
def xTy (G : xG) : List (ClassId × FieldType) := [(xCA G 0, .int), (xCA G 1, .byte), (xCA G 2, .boolean), (xCA G 3, .object "BoxRings$Room"), (xCA G 4, .array .int)]
/-- the heap holds the store -/
def xW (G : xG) (S : xS) (H : Heap) : Prop := H.size = xB G + S.length ∧ ∀ (q : Nat) (c : xC), S[q]? = some c → va_at (xD G) vwCl (xB G + q, xce G c) H
def xI (G : xG) (S : xS) (s : State) (H : Heap) (locs : List Loc) : Prop := xW G S H ∧ va_S (xA G) s.heap H locs
/-! operations on the store -/
/-! reading and writing a list by its recursor (evaluates in fewer steps) -/
noncomputable def lGet {α : Type} (S : List α) : Nat → Option α := List.rec (motive := fun _ => Nat → Option α) (fun _ => none) (fun h _ ih q => Nat.rec (motive := fun _ => Option α) (some h) (fun n _ => ih n) q) S
noncomputable def lSet {α : Type} (S : List α) : Nat → α → List α := List.rec (motive := fun _ => Nat → α → List α) (fun _ _ => []) (fun h t ih q c => Nat.rec (motive := fun _ => List α) (c :: t) (fun n _ => h :: ih n c) q) S
theorem lGet_e {α : Type} : ∀ (S : List α) (q : Nat), lGet S q = S[q]?
  | [], _ => rfl
  | _ :: _, 0 => rfl
  | h :: t, q + 1 => by
    show lGet t q = _
    rw [lGet_e t q, List.getElem?_cons_succ]
theorem lSet_e {α : Type} : ∀ (S : List α) (q : Nat) (c : α), lSet S q c = S.set q c
  | [], _, _ => rfl
  | _ :: _, 0, _ => rfl
  | h :: t, q + 1, c => by
    show h :: lSet t q c = _
    rw [lSet_e t q c]
    rfl
theorem l_some {α : Type} (L : List α) (i : Nat) : ((L[i]?).isSome = true) = (i < L.length) := by simp
noncomputable def rdA (k : Nat) (S : xS) (q : Nat) (i : Int) : Option Int := match lGet S q with
  | some (.inl (k', L)) => if k' = k ∧ 0 ≤ i ∧ i < 2147483648 then lGet L i.toNat else none
  | _ => none
noncomputable def wrA (k : Nat) (S : xS) (q : Nat) (i x : Int) : Option xS := match lGet S q with
  | some (.inl (k', L)) => if k' = k ∧ 0 ≤ i ∧ i < 2147483648 ∧ (lGet L i.toNat).isSome = true then some (lSet S q (.inl (k, lSet L i.toNat x))) else none
  | _ => none
noncomputable def rdP (k : Nat) (S : xS) (q : Nat) (i : Int) : Option (Option Nat) := match lGet S q with
  | some (.inr (.inl (k', L))) => if k' = k ∧ 0 ≤ i ∧ i < 2147483648 then lGet L i.toNat else none
  | _ => none
noncomputable def wrP (k ci : Nat) (S : xS) (q : Nat) (i : Int) (v : Nat) : Option xS := match lGet S q with
  | some (.inr (.inl (k', L))) => (match lGet S v with
    | some (.inr (.inr (c', _))) => if k' = k ∧ c' = ci ∧ 0 ≤ i ∧ i < 2147483648 ∧ (lGet L i.toNat).isSome = true then some (lSet S q (.inr (.inl (k, lSet L i.toNat (some v))))) else none
    | _ => none)
  | _ => none
noncomputable def rdF (ci k : Nat) (S : xS) (q : Nat) : Option xV := match lGet S q with
  | some (.inr (.inr (c', fs))) => if c' = ci then lGet fs k else none
  | _ => none
noncomputable def rdFi (ci k : Nat) (S : xS) (q : Nat) : Option Int := match rdF ci k S q with
  | some (.inl z) => some z
  | _ => none
noncomputable def rdFl (ci k : Nat) (S : xS) (q : Nat) : Option Int := match rdF ci k S q with
  | some (.inr (.inl z)) => some z
  | _ => none
noncomputable def rdFr (ci k : Nat) (S : xS) (q : Nat) : Option (Option Nat) := match rdF ci k S q with
  | some (.inr (.inr z)) => some z
  | _ => none
noncomputable def rdFp (ci k : Nat) (S : xS) (q : Nat) : Option Nat := match rdF ci k S q with
  | some (.inr (.inr (some z))) => some z
  | _ => none
noncomputable def wrF (ci k : Nat) (S : xS) (q : Nat) (v : xV) : Option xS := match lGet S q with
  | some (.inr (.inr (c', fs))) => if c' = ci ∧ (lGet fs k).isSome = true then some (lSet S q (.inr (.inr (ci, lSet fs k v)))) else none
  | _ => none
noncomputable def isO (ci : Nat) (S : xS) (q : Nat) : Bool := match lGet S q with
  | some (.inr (.inr (c', _))) => c' == ci
  | _ => false
noncomputable def lenA (k : Nat) (S : xS) (q : Nat) : Option Int := match lGet S q with
  | some (.inl (k', L)) => if k' = k then some (L.length : Int) else none
  | _ => none
/-- System.arraycopy between int arrays -/
noncomputable def cpyA (S : xS) (q : Nat) (sp : Int) (r : Nat) (dp n : Int) : Option xS := match lGet S q with
  | some (.inl (k, L)) => (match lGet S r with
    | some (.inl (k', M)) => if k = 0 ∧ k' = 0 ∧ 0 ≤ sp ∧ 0 ≤ dp ∧ 0 ≤ n ∧ sp < 2147483648 ∧ dp < 2147483648 ∧ n < 2147483648 ∧ sp.toNat + n.toNat ≤ L.length ∧ dp.toNat + n.toNat ≤ M.length then
        some (lSet S r (.inl (0, M.take dp.toNat ++ (L.drop sp.toNat).take n.toNat ++ M.drop (dp.toNat + n.toNat)))) else none
    | _ => none)
  | _ => none
theorem rdA_s {k : Nat} {S : xS} {q : Nat} {i x : Int} (h : rdA k S q i = some x) : ∃ L, S[q]? = some (.inl (k, L)) ∧ 0 ≤ i ∧ i < 2147483648 ∧ L[i.toNat]? = some x := by
  unfold rdA at h
  simp only [lGet_e, lSet_e, l_some] at h
  split at h
  · next k' L hq =>
    split at h
    · next hc => exact ⟨L, by rw [hq, hc.1], hc.2.1, hc.2.2, h⟩
    · cases h
  · cases h
theorem wrA_s {k : Nat} {S S' : xS} {q : Nat} {i x : Int} (h : wrA k S q i x = some S') : ∃ L, S[q]? = some (.inl (k, L)) ∧ 0 ≤ i ∧ i < 2147483648 ∧ i.toNat < L.length ∧ S' = S.set q (.inl (k, L.set i.toNat x)) := by
  unfold wrA at h
  simp only [lGet_e, lSet_e, l_some] at h
  split at h
  · next k' L hq =>
    split at h
    · next hc => exact ⟨L, by rw [hq, hc.1], hc.2.1, hc.2.2.1, hc.2.2.2, (Option.some.inj h).symm⟩
    · cases h
  · cases h
theorem rdP_s {k : Nat} {S : xS} {q : Nat} {i : Int} {x : Option Nat} (h : rdP k S q i = some x) : ∃ L, S[q]? = some (.inr (.inl (k, L))) ∧ 0 ≤ i ∧ i < 2147483648 ∧ L[i.toNat]? = some x := by
  unfold rdP at h
  simp only [lGet_e, lSet_e, l_some] at h
  split at h
  · next k' L hq =>
    split at h
    · next hc => exact ⟨L, by rw [hq, hc.1], hc.2.1, hc.2.2, h⟩
    · cases h
  · cases h
theorem wrP_s {k ci : Nat} {S S' : xS} {q : Nat} {i : Int} {v : Nat} (h : wrP k ci S q i v = some S') : ∃ L fs, S[q]? = some (.inr (.inl (k, L))) ∧ S[v]? = some (.inr (.inr (ci, fs))) ∧ 0 ≤ i ∧ i < 2147483648 ∧ i.toNat < L.length ∧ S' = S.set q (.inr (.inl (k, L.set i.toNat (some v)))) := by
  unfold wrP at h
  simp only [lGet_e, lSet_e, l_some] at h
  split at h
  · next k' L hq =>
    split at h
    · next c' fs hv =>
      split at h
      · next hc => exact ⟨L, fs, by rw [hq, hc.1], by rw [hv, hc.2.1], hc.2.2.1, hc.2.2.2.1, hc.2.2.2.2, (Option.some.inj h).symm⟩
      · cases h
    · cases h
  · cases h
theorem rdF_s {ci k : Nat} {S : xS} {q : Nat} {x : xV} (h : rdF ci k S q = some x) : ∃ fs, S[q]? = some (.inr (.inr (ci, fs))) ∧ fs[k]? = some x := by
  unfold rdF at h
  simp only [lGet_e, lSet_e, l_some] at h
  split at h
  · next c' fs hq =>
    split at h
    · next hc => exact ⟨fs, by rw [hq, hc], h⟩
    · cases h
  · cases h
theorem rdFi_s {ci k : Nat} {S : xS} {q : Nat} {x : Int} (h : rdFi ci k S q = some x) : rdF ci k S q = some (.inl x) := by
  unfold rdFi at h
  split at h
  · next z hz => rw [hz, Option.some.inj h]
  · cases h
theorem rdFl_s {ci k : Nat} {S : xS} {q : Nat} {x : Int} (h : rdFl ci k S q = some x) : rdF ci k S q = some (.inr (.inl x)) := by
  unfold rdFl at h
  split at h
  · next z hz => rw [hz, Option.some.inj h]
  · cases h
theorem rdFr_s {ci k : Nat} {S : xS} {q : Nat} {x : Option Nat} (h : rdFr ci k S q = some x) : rdF ci k S q = some (.inr (.inr x)) := by
  unfold rdFr at h
  split at h
  · next z hz => rw [hz, Option.some.inj h]
  · cases h
theorem rdFp_s {ci k : Nat} {S : xS} {q x : Nat} (h : rdFp ci k S q = some x) : rdF ci k S q = some (.inr (.inr (some x))) := by
  unfold rdFp at h
  split at h
  · next z hz => rw [hz, Option.some.inj h]
  · cases h
theorem wrF_s {ci k : Nat} {S S' : xS} {q : Nat} {v : xV} (h : wrF ci k S q v = some S') : ∃ fs, S[q]? = some (.inr (.inr (ci, fs))) ∧ k < fs.length ∧ S' = S.set q (.inr (.inr (ci, fs.set k v))) := by
  unfold wrF at h
  simp only [lGet_e, lSet_e, l_some] at h
  split at h
  · next c' fs hq =>
    split at h
    · next hc => exact ⟨fs, by rw [hq, hc.1], hc.2, (Option.some.inj h).symm⟩
    · cases h
  · cases h
theorem isO_s {ci : Nat} {S : xS} {q : Nat} (h : isO ci S q = true) : ∃ fs, S[q]? = some (.inr (.inr (ci, fs))) := by
  unfold isO at h
  simp only [lGet_e, lSet_e, l_some] at h
  split at h
  · next c' fs hq => exact ⟨fs, by rw [hq, beq_iff_eq.mp h]⟩
  · cases h
theorem lenA_s {k : Nat} {S : xS} {q : Nat} {x : Int} (h : lenA k S q = some x) : ∃ L, S[q]? = some (.inl (k, L)) ∧ x = (L.length : Int) := by
  unfold lenA at h
  simp only [lGet_e, lSet_e, l_some] at h
  split at h
  · next k' L hq =>
    split at h
    · next hc => exact ⟨L, by rw [hq, hc], (Option.some.inj h).symm⟩
    · cases h
  · cases h
theorem cpyA_s {S S' : xS} {q r : Nat} {sp dp n : Int} (h : cpyA S q sp r dp n = some S') : ∃ L M, S[q]? = some (.inl (0, L)) ∧ S[r]? = some (.inl (0, M)) ∧ 0 ≤ sp ∧ 0 ≤ dp ∧ 0 ≤ n ∧ sp < 2147483648 ∧ dp < 2147483648 ∧ n < 2147483648 ∧ sp.toNat + n.toNat ≤ L.length ∧ dp.toNat + n.toNat ≤ M.length ∧ S' = S.set r (.inl (0, M.take dp.toNat ++ (L.drop sp.toNat).take n.toNat ++ M.drop (dp.toNat + n.toNat))) := by
  unfold cpyA at h
  simp only [lGet_e, lSet_e, l_some] at h
  split at h
  · next k L hq =>
    split at h
    · next k' M hr =>
      split at h
      · next hc =>
        obtain ⟨h1, h2, h3⟩ := hc
        exact ⟨L, M, by rw [hq, h1], by rw [hr, h2], h3.1, h3.2.1, h3.2.2.1, h3.2.2.2.1, h3.2.2.2.2.1, h3.2.2.2.2.2.1, h3.2.2.2.2.2.2.1, h3.2.2.2.2.2.2.2, (Option.some.inj h).symm⟩
      · cases h
    · cases h
  · cases h
theorem wrA_of {k : Nat} {S : xS} {q : Nat} {L : List Int} {i x : Int} (h : S[q]? = some (.inl (k, L))) (h0 : 0 ≤ i) (h1 : i < 2147483648) (h2 : i.toNat < L.length) : wrA k S q i x = some (S.set q (.inl (k, L.set i.toNat x))) := by
  unfold wrA
  simp only [lGet_e, lSet_e, l_some]
  rw [h]
  exact if_pos ⟨rfl, h0, h1, h2⟩
theorem lenA_of {k : Nat} {S : xS} {q : Nat} {L : List Int} (h : S[q]? = some (.inl (k, L))) : lenA k S q = some (L.length : Int) := by
  unfold lenA
  simp only [lGet_e]
  rw [h]
  exact if_pos rfl
theorem xW.lt {G : xG} {S : xS} {H : Heap} (h : xW G S H) {q : Nat} {c : xC} (hq : S[q]? = some c) : q < S.length := (List.getElem?_eq_some_iff.mp hq).1
/-- one cell, as a world of the kit's -/
theorem xW.one {G : xG} {S : xS} {H : Heap} (h : xW G S H) {q : Nat} {c : xC} (hq : S[q]? = some c) : va_P (xD G) vwCl [(xB G + q, xce G c)] H := by
  intro k z hk
  have h0 : k < 1 := (List.getElem?_eq_some_iff.mp hk).1
  rw [show k = 0 by omega] at hk
  cases hk
  exact h.2 q c hq
/-- one cell is written -/
theorem xW.put {G : xG} {S : xS} {H H1 : Heap} (h : xW G S H) {q : Nat} {c c0 : xC} (hq : S[q]? = some c0) (hz : H1.size = H.size) (he : va_at (xD G) vwCl (xB G + q, xce G c) H1) (o : ∀ a : Nat, a ≠ xB G + q → H1[a]? = H[a]?) : xW G (S.set q c) H1 := by
  have hl := h.lt hq
  refine ⟨by rw [hz, h.1, List.length_set], fun k z hk => ?_⟩
  by_cases hkq : k = q
  · subst hkq
    rw [List.getElem?_set_self hl] at hk
    cases hk
    exact he
  · rw [List.getElem?_set_ne (Ne.symm hkq)] at hk
    exact (h.2 k z hk).kept (o _ (fun e => hkq (by omega)))
/-- one cell comes -/
theorem xW.push {G : xG} {S : xS} {H H1 : Heap} (h : xW G S H) {c : xC} (hz : H1.size = H.size + 1) (he : va_at (xD G) vwCl (xB G + S.length, xce G c) H1) (o : ∀ a : Nat, a < H.size → H1[a]? = H[a]?) : xW G (S ++ [c]) H1 := by
  refine ⟨by rw [hz, h.1, List.length_append]; rfl, fun k z hk => ?_⟩
  by_cases hkq : k < S.length
  · rw [List.getElem?_append_left hkq] at hk
    exact (h.2 k z hk).kept (o _ (by have := h.1; show xB G + k < H.size; omega))
  · rw [List.getElem?_append_right (by omega)] at hk
    have h0 : k - S.length < 1 := (List.getElem?_eq_some_iff.mp hk).1
    have hk0 : k = S.length := by omega
    subst hk0
    rw [Nat.sub_self] at hk
    cases hk
    exact he
/-- the statics: the table of how many ways there are -/
def xTab : Nat → Value := fun j => .int (iI (([1, 1, 2, 6, 24, 120, 720, 5040] : List Int).getD j 0))
def rdT (i : Int) : Option Int := if 0 ≤ i ∧ i < 8 then ([1, 1, 2, 6, 24, 120, 720, 5040] : List Int)[i.toNat]? else none
/-- the words of THE TEXT, as the class' constants -/
def xLen : List Nat := [5, 5, 4, 4, 4, 5, 6, 5, 4]
def xByt : List (List Int32) := [[98, 111, 120, 101, 115], [108, 101, 97, 118, 101], [116, 117, 114, 110], [114, 117, 108, 101], [115, 119, 97, 112], [102, 111, 117, 110, 100], [109, 105, 115, 115, 101, 100], [107, 110, 111, 119, 110], [109, 111, 118, 101]]
def xTx : List String := ["boxes", "leave", "turn", "rule", "swap", "found", "missed", "known", "move"]
/-- an array over int arrays can be made -/
def xAOA (U : State) : Prop := (Cond.arrayOver (.array .int)).before #[] U = true
def xSt (G : xG) (U : State) (H : Heap) : Prop := va_Z "BoxRings" "WAYS_OF" "[I" (.ref (xTw G)) (xA G) U H ∧ va_T .int (xTw G) 8 xTab (xA G) U H ∧ va_Nw (.fieldLinkNest RX4 19 "BoxRings" "WAYS_OF" "[I" "BoxRings") U ∧ va_Nw (.fieldLinkNest RX3 110 "BoxRings" "WAYS_OF" "[I" "BoxRings") U ∧ va_AO "BoxRings$Room" U ∧ xAOA U ∧ vk_S 9 xLen xByt (xKs G) (xVs G) (xA G) U H ∧ (∀ i, i < 9 → vk_R RX3 (62 + 2 * i) (xTx.getD i "") (xKs G i) U) ∧ va_Z "java/lang/String" "COMPACT_STRINGS" "Z" (.int 1) (xA G) U H ∧ va_Zq "jdk/internal/util/Preconditions" "SIOOBE_FORMATTER" "Ljava/util/function/BiFunction;" (xA G) U H
/-- what a method has at its start, apart from its store -/
def xE (G : xG) (U : State) (H : Heap) : Prop := va_K (xD G) vwCl (xTy G) U ∧ xSt G U H ∧ xB G ≤ H.size
/-- what holds all through a walk -/
def xK (G : xG) (p : Program) (s : State) (m : MethodId) (args : Array Value) (meth : Method) (c : Code) (cc : ByteArray) (nL : Nat) (Ts : List Cond) (own : String) (ret : Option FieldType) : Prop :=
  p.tables.exec = Jvm.exec ∧ c.code = cc ∧ c.maxLocals = nL ∧ s.vm.findClass own = some m.cls ∧ (∀ w ∈ Ts, w.before args s = true) ∧ meth.locks = false ∧ meth.sig.returnType = ret ∧ xE G s s.heap
theorem xAOA.moved {u U : State} (hvm : u.vm.Alike U.vm) (h : xAOA u) : xAOA U := by
  unfold xAOA Cond.before Cond.holds at h ⊢
  simp only [Cond.value, beq_iff_eq] at h ⊢
  rw [hvm.findClass]
  cases hc : u.vm.findClass (FieldType.array .int).toString with
  | none => simp [hc] at h
  | some comp =>
    simp only [hc, Option.bind_some, Option.bind_eq_some_iff, Option.map_eq_some_iff] at h ⊢
    obtain ⟨c, hi, k, hk, hb⟩ := h
    obtain ⟨k', hk', he⟩ := hvm.2.2 _ _ hk
    refine ⟨c, ?_, k', hk', ?_⟩
    · have e1 := va_idx_bare U.vm comp
      have e2 := va_idx_bare u.vm comp
      have e3 : U.vm.bare = u.vm.bare := by first | exact hvm.bare_eq | exact hvm.bare_eq.symm
      rw [e3] at e1
      exact e1.symm.trans (e2.trans hi)
    · rw [he, hvm.findClass]
      exact hb
theorem xSt.warm {G : xG} {s U : State} {H : Heap} (hW : s.WarmedH U.vm) (h : xSt G s H) : xSt G U H := ⟨va_Z.moved hW.alike h.1, va_T.moved hW.alike h.2.1, va_Nw.warmF hW h.2.2.1, va_Nw.warmF hW h.2.2.2.1, va_AO.moved hW.alike h.2.2.2.2.1, xAOA.moved hW.alike h.2.2.2.2.2.1, vk_S.moved hW.alike h.2.2.2.2.2.2.1, fun i hi => (h.2.2.2.2.2.2.2.1 i hi).warm hW, va_Z.moved hW.alike h.2.2.2.2.2.2.2.2.1, va_Zq.moved hW.alike h.2.2.2.2.2.2.2.2.2⟩
theorem xSt.same {G : xG} {u U : State} {H : Heap} (hv : U.vm = u.vm) (h : xSt G u H) : xSt G U H := by
  have hA : u.vm.Alike U.vm := by rw [hv]; exact Vm.Alike.refl u.vm
  exact ⟨va_Z.moved hA h.1, va_T.moved hA h.2.1, va_Nw.same rfl hv.symm h.2.2.1, va_Nw.same rfl hv.symm h.2.2.2.1, va_AO.moved hA h.2.2.2.2.1, xAOA.moved hA h.2.2.2.2.2.1, vk_S.moved hA h.2.2.2.2.2.2.1, fun i hi => (h.2.2.2.2.2.2.2.1 i hi).same hv, va_Z.moved hA h.2.2.2.2.2.2.2.2.1, va_Zq.moved hA h.2.2.2.2.2.2.2.2.2⟩
theorem xSt.kept {G : xG} {U : State} {H H1 : Heap} (h : xSt G U H) (hq : ∀ a : Nat, a < H.size → ¬ xA G a → H1[a]? = H[a]?) : xSt G U H1 := ⟨va_Z.kept h.1 hq, va_T.kept h.2.1 hq, h.2.2.1, h.2.2.2.1, h.2.2.2.2.1, h.2.2.2.2.2.1, vk_S.kept h.2.2.2.2.2.2.1 hq, h.2.2.2.2.2.2.2.1, va_Z.kept h.2.2.2.2.2.2.2.2.1 hq, va_Zq.kept h.2.2.2.2.2.2.2.2.2 hq⟩
theorem xE.at {G : xG} {s U : State} {H : Heap} {locs : List Loc} (h : xE G s s.heap) (hS : va_S (xA G) s.heap H locs) (hW : s.WarmedH U.vm) : xE G U H :=
  ⟨va_K.moved hW.alike h.1, (xSt.kept h.2.1 (fun a h1 h2 => hS.2.1 a h1 h2)).warm hW, Nat.le_trans h.2.2 hS.1⟩
theorem xE.same {G : xG} {u U : State} {H : Heap} (hv : U.vm = u.vm) (h : xE G u H) : xE G U H := by
  have hA : u.vm.Alike U.vm := by rw [hv]; exact Vm.Alike.refl u.vm
  exact ⟨va_K.moved hA h.1, h.2.1.same hv, h.2.2⟩
/-- new int[4][7]: the row of rows, then the rows -/
def xMulti (S : xS) : xS := S ++ [.inr (.inl (4, [some (S.length + 1), some (S.length + 2), some (S.length + 3), some (S.length + 4)])), .inl (0, List.replicate 7 0), .inl (0, List.replicate 7 0), .inl (0, List.replicate 7 0), .inl (0, List.replicate 7 0)]
section KX
variable {G : xG} {p : Program} {l : Launch} {e : Env} {R : Room} {s : State} {m : MethodId} {args : Array Value} {below : List Frame} {meth : Method} {c : Code} {H : Heap} {locs : List Loc} {cells slots : Nat} {Q : State → Prop}
variable {cc : ByteArray} {nL : Nat} {Ts : List Cond} {own : String} {ret : Option FieldType} {ls : Array Slot} {rest : List Value} {S S' : xS} {lv lv' : List (Nat × Value)}
theorem xK.x (C : xK G p s m args meth c cc nL Ts own ret) : p.tables.exec = Jvm.exec := C.1
theorem xK.b (C : xK G p s m args meth c cc nL Ts own ret) : c.code = cc := C.2.1
theorem xK.ml (C : xK G p s m args meth c cc nL Ts own ret) : c.maxLocals = nL := C.2.2.1
theorem xK.ow (C : xK G p s m args meth c cc nL Ts own ret) : s.vm.findClass own = some m.cls := C.2.2.2.1
theorem xK.ts (C : xK G p s m args meth c cc nL Ts own ret) : ∀ w ∈ Ts, w.before args s = true := C.2.2.2.2.1
theorem xK.lk (C : xK G p s m args meth c cc nL Ts own ret) : meth.locks = false := C.2.2.2.2.2.1
theorem xK.r (C : xK G p s m args meth c cc nL Ts own ret) : meth.sig.returnType = ret := C.2.2.2.2.2.2.1
theorem xK.en (C : xK G p s m args meth c cc nL Ts own ret) : xE G s s.heap := C.2.2.2.2.2.2.2
theorem xK.K (C : xK G p s m args meth c cc nL Ts own ret) : va_K (xD G) vwCl (xTy G) s := C.en.1
/-! constants, locals, the stack -/
theorem kx_iconst (pc : Nat) (C : xK G p s m args meth c cc nL Ts own ret) {n : Int} (d : decode cc pc = .ok (.iconst n, 1)) (k : W p l e R s m args below meth c H locs cells slots Q (F0 m (pc + 1) ls (.int (iI n) :: rest))) : W p l e R s m args below meth c H locs cells slots Q (F0 m pc ls rest) := lv_iconst C.x C.b d rfl k
theorem kx_bipush (pc : Nat) (C : xK G p s m args meth c cc nL Ts own ret) {n : Int} (d : decode cc pc = .ok (.bipush n, 2)) (hv : (Int8.ofInt n).toInt32 = iI n) (k : W p l e R s m args below meth c H locs cells slots Q (F0 m (pc + 2) ls (.int (iI n) :: rest))) : W p l e R s m args below meth c H locs cells slots Q (F0 m pc ls rest) := lv_bipush C.x C.b d hv k
theorem kx_sipush (pc : Nat) (C : xK G p s m args meth c cc nL Ts own ret) {n : Int} (d : decode cc pc = .ok (.sipush n, 3)) (hv : (Int16.ofInt n).toInt32 = iI n) (k : W p l e R s m args below meth c H locs cells slots Q (F0 m (pc + 3) ls (.int (iI n) :: rest))) : W p l e R s m args below meth c H locs cells slots Q (F0 m pc ls rest) := lv_sipush C.x C.b d hv k
theorem kx_lconst (pc : Nat) (C : xK G p s m args meth c cc nL Ts own ret) {n : Fin 2} {z : Int} (d : decode cc pc = .ok (.lconst n, 1)) (hv : Int64.ofNat (n : Nat) = lI z) (k : W p l e R s m args below meth c H locs cells slots Q (F0 m (pc + 1) ls (.long (lI z) :: rest))) : W p l e R s m args below meth c H locs cells slots Q (F0 m pc ls rest) := lv_lconst C.x C.b d hv k
theorem kx_ldc (pc : Nat) (C : xK G p s m args meth c cc nL Ts own ret) {i : Nat} {v : Int32} {z : Int} (h : Cond.constant own i v ∈ Ts) (d : decode cc pc = .ok (.ldc i, 2)) (hv : v = iI z) (k : W p l e R s m args below meth c H locs cells slots Q (F0 m (pc + 2) ls (.int (iI z) :: rest))) : W p l e R s m args below meth c H locs cells slots Q (F0 m pc ls rest) := lv_ldc C.x C.b C.ow (C.ts _ h) d (by rw [hv]; exact k)
theorem kx_ldcw (pc : Nat) (C : xK G p s m args meth c cc nL Ts own ret) {i : Nat} {v : Int32} {z : Int} (h : Cond.constant own i v ∈ Ts) (d : decode cc pc = .ok (.ldc_w i, 3)) (hv : v = iI z) (k : W p l e R s m args below meth c H locs cells slots Q (F0 m (pc + 3) ls (.int (iI z) :: rest))) : W p l e R s m args below meth c H locs cells slots Q (F0 m pc ls rest) := lv_ldcw C.x C.b C.ow (C.ts _ h) d (by rw [hv]; exact k)
theorem kx_ldc2 (pc : Nat) (C : xK G p s m args meth c cc nL Ts own ret) {i : Nat} {v : Int64} {z : Int} (h : Cond.constantLong own i v ∈ Ts) (d : decode cc pc = .ok (.ldc2_w i, 3)) (hv : v = lI z) (k : W p l e R s m args below meth c H locs cells slots Q (F0 m (pc + 3) ls (.long (lI z) :: rest))) : W p l e R s m args below meth c H locs cells slots Q (F0 m pc ls rest) := lv_ldc2 C.x C.b C.ow (C.ts _ h) d (by rw [hv]; exact k)
theorem kx_null (pc : Nat) (C : xK G p s m args meth c cc nL Ts own ret) (d : decode cc pc = .ok (.aconst_null, 1)) (k : W p l e R s m args below meth c H locs cells slots Q (F0 m (pc + 1) ls (.null :: rest))) : W p l e R s m args below meth c H locs cells slots Q (F0 m pc ls rest) := lv_null C.x C.b d k
theorem kx_iload_n (pc : Nat) (C : xK G p s m args meth c cc nL Ts own ret) {i : Fin 4} {x : Int32} (d : decode cc pc = .ok (.iload_n i, 1)) (hl : ls[(i : Nat)]? = some (.val (.int x))) (k : W p l e R s m args below meth c H locs cells slots Q (F0 m (pc + 1) ls (.int x :: rest))) : W p l e R s m args below meth c H locs cells slots Q (F0 m pc ls rest) := lv_iload_n C.x C.b d rfl hl k
theorem kx_iload (pc : Nat) (C : xK G p s m args meth c cc nL Ts own ret) {i : Nat} {x : Int32} (d : decode cc pc = .ok (.iload i, 2)) (hl : ls[i]? = some (.val (.int x))) (k : W p l e R s m args below meth c H locs cells slots Q (F0 m (pc + 2) ls (.int x :: rest))) : W p l e R s m args below meth c H locs cells slots Q (F0 m pc ls rest) := lv_iload C.x C.b d hl k
theorem kx_lload_n (pc : Nat) (C : xK G p s m args meth c cc nL Ts own ret) {i : Fin 4} {x : Int64} (d : decode cc pc = .ok (.lload_n i, 1)) (hl : ls[(i : Nat)]? = some (.val (.long x))) (k : W p l e R s m args below meth c H locs cells slots Q (F0 m (pc + 1) ls (.long x :: rest))) : W p l e R s m args below meth c H locs cells slots Q (F0 m pc ls rest) := lv_lload_n C.x C.b d rfl hl k
theorem kx_lload (pc : Nat) (C : xK G p s m args meth c cc nL Ts own ret) {i : Nat} {x : Int64} (d : decode cc pc = .ok (.lload i, 2)) (hl : ls[i]? = some (.val (.long x))) (k : W p l e R s m args below meth c H locs cells slots Q (F0 m (pc + 2) ls (.long x :: rest))) : W p l e R s m args below meth c H locs cells slots Q (F0 m pc ls rest) := lv_lload C.x C.b d hl k
theorem kx_aload_n (pc : Nat) (C : xK G p s m args meth c cc nL Ts own ret) {i : Fin 4} {x : Nat} (d : decode cc pc = .ok (.aload_n i, 1)) (hl : ls[(i : Nat)]? = some (.val (.ref x))) (k : W p l e R s m args below meth c H locs cells slots Q (F0 m (pc + 1) ls (.ref x :: rest))) : W p l e R s m args below meth c H locs cells slots Q (F0 m pc ls rest) := lv_aload_n C.x C.b d rfl hl k
theorem kx_aload (pc : Nat) (C : xK G p s m args meth c cc nL Ts own ret) {i : Nat} {x : Nat} (d : decode cc pc = .ok (.aload i, 2)) (hl : ls[i]? = some (.val (.ref x))) (k : W p l e R s m args below meth c H locs cells slots Q (F0 m (pc + 2) ls (.ref x :: rest))) : W p l e R s m args below meth c H locs cells slots Q (F0 m pc ls rest) := lv_aload C.x C.b d hl k
theorem kx_aload_nN (pc : Nat) (C : xK G p s m args meth c cc nL Ts own ret) {i : Fin 4} (d : decode cc pc = .ok (.aload_n i, 1)) (hl : ls[(i : Nat)]? = some (.val .null)) (k : W p l e R s m args below meth c H locs cells slots Q (F0 m (pc + 1) ls (.null :: rest))) : W p l e R s m args below meth c H locs cells slots Q (F0 m pc ls rest) := lv_aload_nN C.x C.b d rfl hl k
theorem kx_istore_n (pc : Nat) (C : xK G p s m args meth c cc nL Ts own ret) {i : Fin 4} {x z : Int} (d : decode cc pc = .ok (.istore_n i, 1)) (h : lv_has ls nL lv) (hn : (i : Nat) < nL) (hx : z = x) (hl : ((i : Nat), Value.int (iI z)) :: lv.filter (fun q => !(q.1 == (i : Nat)) && !(q.1 + 1 == (i : Nat) && q.2.category == 2)) = lv')
    (kk : ∀ ls' : Array Slot, lv_has ls' nL lv' → W p l e R s m args below meth c H locs cells slots Q (F0 m (pc + 1) ls' rest)) : W p l e R s m args below meth c H locs cells slots Q (F0 m pc ls (.int (iI x) :: rest)) := by
  subst hx
  exact lv_istore_n C.x C.b d rfl h hn hl kk
theorem kx_istore (pc : Nat) (C : xK G p s m args meth c cc nL Ts own ret) {i : Nat} {x z : Int} (d : decode cc pc = .ok (.istore i, 2)) (h : lv_has ls nL lv) (hn : i < nL) (hx : z = x) (hl : (i, Value.int (iI z)) :: lv.filter (fun q => !(q.1 == i) && !(q.1 + 1 == i && q.2.category == 2)) = lv')
    (kk : ∀ ls' : Array Slot, lv_has ls' nL lv' → W p l e R s m args below meth c H locs cells slots Q (F0 m (pc + 2) ls' rest)) : W p l e R s m args below meth c H locs cells slots Q (F0 m pc ls (.int (iI x) :: rest)) := by
  subst hx
  exact lv_istore C.x C.b d h hn hl kk
theorem kx_lstore_n (pc : Nat) (C : xK G p s m args meth c cc nL Ts own ret) {i : Fin 4} {x z : Int} (d : decode cc pc = .ok (.lstore_n i, 1)) (h : lv_has ls nL lv) (hn : (i : Nat) + 1 < nL) (hx : z = x) (hl : ((i : Nat), Value.long (lI z)) :: lv.filter (fun q => !(q.1 == (i : Nat)) && (!(q.1 == (i : Nat) + 1) && !(q.1 + 1 == (i : Nat) && q.2.category == 2))) = lv')
    (kk : ∀ ls' : Array Slot, lv_has ls' nL lv' → W p l e R s m args below meth c H locs cells slots Q (F0 m (pc + 1) ls' rest)) : W p l e R s m args below meth c H locs cells slots Q (F0 m pc ls (.long (lI x) :: rest)) := by
  subst hx
  exact lv_lstore_n C.x C.b d rfl h hn hl kk
theorem kx_lstore (pc : Nat) (C : xK G p s m args meth c cc nL Ts own ret) {i : Nat} {x z : Int} (d : decode cc pc = .ok (.lstore i, 2)) (h : lv_has ls nL lv) (hn : i + 1 < nL) (hx : z = x) (hl : (i, Value.long (lI z)) :: lv.filter (fun q => !(q.1 == i) && (!(q.1 == i + 1) && !(q.1 + 1 == i && q.2.category == 2))) = lv')
    (kk : ∀ ls' : Array Slot, lv_has ls' nL lv' → W p l e R s m args below meth c H locs cells slots Q (F0 m (pc + 2) ls' rest)) : W p l e R s m args below meth c H locs cells slots Q (F0 m pc ls (.long (lI x) :: rest)) := by
  subst hx
  exact lv_lstore C.x C.b d h hn hl kk
theorem kx_astore_n (pc : Nat) (C : xK G p s m args meth c cc nL Ts own ret) {i : Fin 4} {x : Nat} (d : decode cc pc = .ok (.astore_n i, 1)) (h : lv_has ls nL lv) (hn : (i : Nat) < nL) (hl : ((i : Nat), Value.ref x) :: lv.filter (fun q => !(q.1 == (i : Nat)) && !(q.1 + 1 == (i : Nat) && q.2.category == 2)) = lv')
    (kk : ∀ ls' : Array Slot, lv_has ls' nL lv' → W p l e R s m args below meth c H locs cells slots Q (F0 m (pc + 1) ls' rest)) : W p l e R s m args below meth c H locs cells slots Q (F0 m pc ls (.ref x :: rest)) := lv_astore_n C.x C.b d rfl h hn hl kk
theorem kx_astore_nN (pc : Nat) (C : xK G p s m args meth c cc nL Ts own ret) {i : Fin 4} (d : decode cc pc = .ok (.astore_n i, 1)) (h : lv_has ls nL lv) (hn : (i : Nat) < nL) (hl : ((i : Nat), Value.null) :: lv.filter (fun q => !(q.1 == (i : Nat)) && !(q.1 + 1 == (i : Nat) && q.2.category == 2)) = lv')
    (kk : ∀ ls' : Array Slot, lv_has ls' nL lv' → W p l e R s m args below meth c H locs cells slots Q (F0 m (pc + 1) ls' rest)) : W p l e R s m args below meth c H locs cells slots Q (F0 m pc ls (.null :: rest)) := lv_astore_nN C.x C.b d rfl h hn hl kk
theorem kx_iinc (pc : Nat) (C : xK G p s m args meth c cc nL Ts own ret) {i : Nat} {n x z : Int} (d : decode cc pc = .ok (.iinc i n, 3)) (h : lv_has ls nL lv) (k : Nat) (hk : lv[k]? = some (i, .int (iI x))) (hx : z = x + n) (hn : i < nL) (hl : (i, Value.int (iI z)) :: lv.filter (fun q => !(q.1 == i) && !(q.1 + 1 == i && q.2.category == 2)) = lv')
    (kk : ∀ ls' : Array Slot, lv_has ls' nL lv' → W p l e R s m args below meth c H locs cells slots Q (F0 m (pc + 3) ls' rest)) : W p l e R s m args below meth c H locs cells slots Q (F0 m pc ls rest) := lv_iinc C.x C.b d h hk (by rw [hx]; exact iI_add x n) hn hl kk
theorem kx_dup (pc : Nat) (C : xK G p s m args meth c cc nL Ts own ret) {v : Value} (d : decode cc pc = .ok (.dup, 1)) (hv : v.category = 1) (k : W p l e R s m args below meth c H locs cells slots Q (F0 m (pc + 1) ls (v :: v :: rest))) : W p l e R s m args below meth c H locs cells slots Q (F0 m pc ls (v :: rest)) := lv_dup C.x C.b d hv k
theorem kx_dup2 (pc : Nat) (C : xK G p s m args meth c cc nL Ts own ret) {v w : Value} (d : decode cc pc = .ok (.dup2, 1)) (hv : v.category = 1) (hw : w.category = 1) (k : W p l e R s m args below meth c H locs cells slots Q (F0 m (pc + 1) ls (v :: w :: v :: w :: rest))) : W p l e R s m args below meth c H locs cells slots Q (F0 m pc ls (v :: w :: rest)) := lv_dup2_11 C.x C.b d hv hw k
theorem kx_dup2L (pc : Nat) (C : xK G p s m args meth c cc nL Ts own ret) {v : Value} (d : decode cc pc = .ok (.dup2, 1)) (hv : v.category = 2) (k : W p l e R s m args below meth c H locs cells slots Q (F0 m (pc + 1) ls (v :: v :: rest))) : W p l e R s m args below meth c H locs cells slots Q (F0 m pc ls (v :: rest)) := lv_dup2_2 C.x C.b d hv k
theorem kx_pop (pc : Nat) (C : xK G p s m args meth c cc nL Ts own ret) {v : Value} (d : decode cc pc = .ok (.pop, 1)) (hv : v.category = 1) (k : W p l e R s m args below meth c H locs cells slots Q (F0 m (pc + 1) ls rest)) : W p l e R s m args below meth c H locs cells slots Q (F0 m pc ls (v :: rest)) := lv_pop C.x C.b d hv k
theorem kx_pop2L (pc : Nat) (C : xK G p s m args meth c cc nL Ts own ret) {v : Value} (d : decode cc pc = .ok (.pop2, 1)) (hv : v.category = 2) (k : W p l e R s m args below meth c H locs cells slots Q (F0 m (pc + 1) ls rest)) : W p l e R s m args below meth c H locs cells slots Q (F0 m pc ls (v :: rest)) := lv_pop2_2 C.x C.b d hv k
/-! arithmetic -/
theorem kx_iadd (pc : Nat) (C : xK G p s m args meth c cc nL Ts own ret) {a b : Int} (d : decode cc pc = .ok (.iadd, 1)) (k : W p l e R s m args below meth c H locs cells slots Q (F0 m (pc + 1) ls (.int (iI (a + b)) :: rest))) : W p l e R s m args below meth c H locs cells slots Q (F0 m pc ls (.int (iI b) :: .int (iI a) :: rest)) := lv_iadd C.x C.b d (by rw [iI_add]; exact k)
theorem kx_isub (pc : Nat) (C : xK G p s m args meth c cc nL Ts own ret) {a b : Int} (d : decode cc pc = .ok (.isub, 1)) (k : W p l e R s m args below meth c H locs cells slots Q (F0 m (pc + 1) ls (.int (iI (a - b)) :: rest))) : W p l e R s m args below meth c H locs cells slots Q (F0 m pc ls (.int (iI b) :: .int (iI a) :: rest)) := lv_isub C.x C.b d (by rw [iI_sub]; exact k)
theorem kx_imul (pc : Nat) (C : xK G p s m args meth c cc nL Ts own ret) {a b : Int} (d : decode cc pc = .ok (.imul, 1)) (k : W p l e R s m args below meth c H locs cells slots Q (F0 m (pc + 1) ls (.int (iI (a * b)) :: rest))) : W p l e R s m args below meth c H locs cells slots Q (F0 m pc ls (.int (iI b) :: .int (iI a) :: rest)) := lv_imul C.x C.b d (by rw [iI_mul]; exact k)
theorem kx_idiv (pc : Nat) (C : xK G p s m args meth c cc nL Ts own ret) {a b : Int} (d : decode cc pc = .ok (.idiv, 1)) (h0 : ¬ wI b = 0) (k : W p l e R s m args below meth c H locs cells slots Q (F0 m (pc + 1) ls (.int (iI ((wI a).tdiv (wI b))) :: rest))) : W p l e R s m args below meth c H locs cells slots Q (F0 m pc ls (.int (iI b) :: .int (iI a) :: rest)) := lv_idiv C.x C.b d (fun h => h0 (iI_z.mp h)) (by rw [iI_div]; exact k)
theorem kx_irem (pc : Nat) (C : xK G p s m args meth c cc nL Ts own ret) {a b : Int} (d : decode cc pc = .ok (.irem, 1)) (h0 : ¬ wI b = 0) (k : W p l e R s m args below meth c H locs cells slots Q (F0 m (pc + 1) ls (.int (iI ((wI a).tmod (wI b))) :: rest))) : W p l e R s m args below meth c H locs cells slots Q (F0 m pc ls (.int (iI b) :: .int (iI a) :: rest)) := lv_irem C.x C.b d (fun h => h0 (iI_z.mp h)) (by rw [iI_rem]; exact k)
theorem kx_iand (pc : Nat) (C : xK G p s m args meth c cc nL Ts own ret) {a b : Int} (d : decode cc pc = .ok (.iand, 1)) (k : W p l e R s m args below meth c H locs cells slots Q (F0 m (pc + 1) ls (.int (iI (xAnd a b)) :: rest))) : W p l e R s m args below meth c H locs cells slots Q (F0 m pc ls (.int (iI b) :: .int (iI a) :: rest)) := lv_iand C.x C.b d (by rw [← iI_of (iI a &&& iI b)]; exact k)
theorem kx_ior (pc : Nat) (C : xK G p s m args meth c cc nL Ts own ret) {a b : Int} (d : decode cc pc = .ok (.ior, 1)) (k : W p l e R s m args below meth c H locs cells slots Q (F0 m (pc + 1) ls (.int (iI (xOr a b)) :: rest))) : W p l e R s m args below meth c H locs cells slots Q (F0 m pc ls (.int (iI b) :: .int (iI a) :: rest)) := lv_ior C.x C.b d (by rw [← iI_of (iI a ||| iI b)]; exact k)
theorem kx_ixor (pc : Nat) (C : xK G p s m args meth c cc nL Ts own ret) {a b : Int} (d : decode cc pc = .ok (.ixor, 1)) (k : W p l e R s m args below meth c H locs cells slots Q (F0 m (pc + 1) ls (.int (iI (xXor a b)) :: rest))) : W p l e R s m args below meth c H locs cells slots Q (F0 m pc ls (.int (iI b) :: .int (iI a) :: rest)) := lv_ixor C.x C.b d (by rw [← iI_of (iI a ^^^ iI b)]; exact k)
theorem kx_ishl (pc : Nat) (C : xK G p s m args meth c cc nL Ts own ret) {a b : Int} (d : decode cc pc = .ok (.ishl, 1)) (k : W p l e R s m args below meth c H locs cells slots Q (F0 m (pc + 1) ls (.int (iI (xShl a b)) :: rest))) : W p l e R s m args below meth c H locs cells slots Q (F0 m pc ls (.int (iI b) :: .int (iI a) :: rest)) := lv_ishl C.x C.b d (by rw [← iI_of (iI a <<< (iI b &&& 31))]; exact k)
theorem kx_ishr (pc : Nat) (C : xK G p s m args meth c cc nL Ts own ret) {a b : Int} (d : decode cc pc = .ok (.ishr, 1)) (k : W p l e R s m args below meth c H locs cells slots Q (F0 m (pc + 1) ls (.int (iI (xShr a b)) :: rest))) : W p l e R s m args below meth c H locs cells slots Q (F0 m pc ls (.int (iI b) :: .int (iI a) :: rest)) := lv_ishr C.x C.b d (by rw [← iI_of (iI a >>> (iI b &&& 31))]; exact k)
theorem kx_iushr (pc : Nat) (C : xK G p s m args meth c cc nL Ts own ret) {a b : Int} (d : decode cc pc = .ok (.iushr, 1)) (k : W p l e R s m args below meth c H locs cells slots Q (F0 m (pc + 1) ls (.int (iI (xUshr a b)) :: rest))) : W p l e R s m args below meth c H locs cells slots Q (F0 m pc ls (.int (iI b) :: .int (iI a) :: rest)) := lv_iushr C.x C.b d (v := iI (xUshr a b)) (iI_of _).symm k
theorem kx_i2b (pc : Nat) (C : xK G p s m args meth c cc nL Ts own ret) {a : Int} (d : decode cc pc = .ok (.i2b, 1)) (k : W p l e R s m args below meth c H locs cells slots Q (F0 m (pc + 1) ls (.int (iI (xByte a)) :: rest))) : W p l e R s m args below meth c H locs cells slots Q (F0 m pc ls (.int (iI a) :: rest)) := lv_i2b C.x C.b d (v := iI (xByte a)) (iI_of _).symm k
theorem kx_i2l (pc : Nat) (C : xK G p s m args meth c cc nL Ts own ret) {a : Int} (d : decode cc pc = .ok (.i2l, 1)) (k : W p l e R s m args below meth c H locs cells slots Q (F0 m (pc + 1) ls (.long (lI (wI a)) :: rest))) : W p l e R s m args below meth c H locs cells slots Q (F0 m pc ls (.int (iI a) :: rest)) := lv_i2l C.x C.b d (iI_long a) k
theorem kx_l2i (pc : Nat) (C : xK G p s m args meth c cc nL Ts own ret) {a : Int} (d : decode cc pc = .ok (.l2i, 1)) (k : W p l e R s m args below meth c H locs cells slots Q (F0 m (pc + 1) ls (.int (iI a) :: rest))) : W p l e R s m args below meth c H locs cells slots Q (F0 m pc ls (.long (lI a) :: rest)) := lv_l2i C.x C.b d (lI_int a) k
theorem kx_ladd (pc : Nat) (C : xK G p s m args meth c cc nL Ts own ret) {a b : Int} (d : decode cc pc = .ok (.ladd, 1)) (k : W p l e R s m args below meth c H locs cells slots Q (F0 m (pc + 1) ls (.long (lI (a + b)) :: rest))) : W p l e R s m args below meth c H locs cells slots Q (F0 m pc ls (.long (lI b) :: .long (lI a) :: rest)) := lv_ladd C.x C.b d (by rw [lI_add]; exact k)
theorem kx_lmul (pc : Nat) (C : xK G p s m args meth c cc nL Ts own ret) {a b : Int} (d : decode cc pc = .ok (.lmul, 1)) (k : W p l e R s m args below meth c H locs cells slots Q (F0 m (pc + 1) ls (.long (lI (a * b)) :: rest))) : W p l e R s m args below meth c H locs cells slots Q (F0 m pc ls (.long (lI b) :: .long (lI a) :: rest)) := lv_lmul C.x C.b d (by rw [lI_mul]; exact k)
theorem kx_ldiv (pc : Nat) (C : xK G p s m args meth c cc nL Ts own ret) {a b : Int} (d : decode cc pc = .ok (.ldiv, 1)) (h0 : ¬ wL b = 0) (k : W p l e R s m args below meth c H locs cells slots Q (F0 m (pc + 1) ls (.long (lI ((wL a).tdiv (wL b))) :: rest))) : W p l e R s m args below meth c H locs cells slots Q (F0 m pc ls (.long (lI b) :: .long (lI a) :: rest)) := lv_ldiv C.x C.b d (fun h => h0 (lI_z.mp h)) (by rw [lI_div]; exact k)
theorem kx_lrem (pc : Nat) (C : xK G p s m args meth c cc nL Ts own ret) {a b : Int} (d : decode cc pc = .ok (.lrem, 1)) (h0 : ¬ wL b = 0) (k : W p l e R s m args below meth c H locs cells slots Q (F0 m (pc + 1) ls (.long (lI ((wL a).tmod (wL b))) :: rest))) : W p l e R s m args below meth c H locs cells slots Q (F0 m pc ls (.long (lI b) :: .long (lI a) :: rest)) := lv_lrem C.x C.b d (fun h => h0 (lI_z.mp h)) (by rw [lI_rem]; exact k)
theorem kx_lcmp (pc : Nat) (C : xK G p s m args meth c cc nL Ts own ret) {a b : Int} (d : decode cc pc = .ok (.lcmp, 1)) (k : W p l e R s m args below meth c H locs cells slots Q (F0 m (pc + 1) ls (.int (iI (xLcmp a b)) :: rest))) : W p l e R s m args below meth c H locs cells slots Q (F0 m pc ls (.long (lI b) :: .long (lI a) :: rest)) := W.lcmp C.x C.b d (by rw [← iI_of (lg_cmp (lI a) (lI b))]; exact k)
theorem kx_lshl (pc : Nat) (C : xK G p s m args meth c cc nL Ts own ret) {a b : Int} (d : decode cc pc = .ok (.lshl, 1)) (k : W p l e R s m args below meth c H locs cells slots Q (F0 m (pc + 1) ls (.long (lI (xLshl a b)) :: rest))) : W p l e R s m args below meth c H locs cells slots Q (F0 m pc ls (.int (iI b) :: .long (lI a) :: rest)) := lv_lshl C.x C.b d (v := lI (xLshl a b)) (lI_of _).symm k
/-! branches -/
theorem kx_goto (pc tgt : Nat) (C : xK G p s m args meth c cc nL Ts own ret) {o : Int} (d : decode cc pc = .ok (.goto o, 3)) (ht : (pc : Int) + o = (tgt : Int)) (k : W p l e R s m args below meth c H locs cells slots Q (F0 m tgt ls rest)) : W p l e R s m args below meth c H locs cells slots Q (F0 m pc ls rest) := lv_goto C.x C.b d ht k
theorem kx_if_eq (pc tgt : Nat) (C : xK G p s m args meth c cc nL Ts own ret) {o a : Int} (d : decode cc pc = .ok (.ifCond .eq o, 3)) (ht : (pc : Int) + o = (tgt : Int)) (kt : wI a = 0 → W p l e R s m args below meth c H locs cells slots Q (F0 m tgt ls rest)) (kf : ¬ wI a = 0 → W p l e R s m args below meth c H locs cells slots Q (F0 m (pc + 3) ls rest)) : W p l e R s m args below meth c H locs cells slots Q (F0 m pc ls (.int (iI a) :: rest)) := lv_if_eq C.x C.b d ht (fun h => kt (iI_z.mp h)) (fun h => kf (fun q => h (iI_z.mpr q)))
theorem kx_if_ne (pc tgt : Nat) (C : xK G p s m args meth c cc nL Ts own ret) {o a : Int} (d : decode cc pc = .ok (.ifCond .ne o, 3)) (ht : (pc : Int) + o = (tgt : Int)) (kt : ¬ wI a = 0 → W p l e R s m args below meth c H locs cells slots Q (F0 m tgt ls rest)) (kf : wI a = 0 → W p l e R s m args below meth c H locs cells slots Q (F0 m (pc + 3) ls rest)) : W p l e R s m args below meth c H locs cells slots Q (F0 m pc ls (.int (iI a) :: rest)) := lv_if_ne C.x C.b d ht (fun h => kt (fun q => h (iI_z.mpr q))) (fun h => kf (iI_z.mp h))
theorem kx_if_lt (pc tgt : Nat) (C : xK G p s m args meth c cc nL Ts own ret) {o a : Int} (d : decode cc pc = .ok (.ifCond .lt o, 3)) (ht : (pc : Int) + o = (tgt : Int)) (kt : wI a < 0 → W p l e R s m args below meth c H locs cells slots Q (F0 m tgt ls rest)) (kf : ¬ wI a < 0 → W p l e R s m args below meth c H locs cells slots Q (F0 m (pc + 3) ls rest)) : W p l e R s m args below meth c H locs cells slots Q (F0 m pc ls (.int (iI a) :: rest)) := lv_if_lt C.x C.b d ht (fun h => kt (iI_neg.mp h)) (fun h => kf (fun q => h (iI_neg.mpr q)))
theorem kx_if_ge (pc tgt : Nat) (C : xK G p s m args meth c cc nL Ts own ret) {o a : Int} (d : decode cc pc = .ok (.ifCond .ge o, 3)) (ht : (pc : Int) + o = (tgt : Int)) (kt : 0 ≤ wI a → W p l e R s m args below meth c H locs cells slots Q (F0 m tgt ls rest)) (kf : ¬ 0 ≤ wI a → W p l e R s m args below meth c H locs cells slots Q (F0 m (pc + 3) ls rest)) : W p l e R s m args below meth c H locs cells slots Q (F0 m pc ls (.int (iI a) :: rest)) := lv_if_ge C.x C.b d ht (fun h => kt (iI_nn.mp h)) (fun h => kf (fun q => h (iI_nn.mpr q)))
theorem kx_if_gt (pc tgt : Nat) (C : xK G p s m args meth c cc nL Ts own ret) {o a : Int} (d : decode cc pc = .ok (.ifCond .gt o, 3)) (ht : (pc : Int) + o = (tgt : Int)) (kt : 0 < wI a → W p l e R s m args below meth c H locs cells slots Q (F0 m tgt ls rest)) (kf : ¬ 0 < wI a → W p l e R s m args below meth c H locs cells slots Q (F0 m (pc + 3) ls rest)) : W p l e R s m args below meth c H locs cells slots Q (F0 m pc ls (.int (iI a) :: rest)) := lv_if_gt C.x C.b d ht (fun h => kt (iI_pos.mp h)) (fun h => kf (fun q => h (iI_pos.mpr q)))
theorem kx_if_le (pc tgt : Nat) (C : xK G p s m args meth c cc nL Ts own ret) {o a : Int} (d : decode cc pc = .ok (.ifCond .le o, 3)) (ht : (pc : Int) + o = (tgt : Int)) (kt : wI a ≤ 0 → W p l e R s m args below meth c H locs cells slots Q (F0 m tgt ls rest)) (kf : ¬ wI a ≤ 0 → W p l e R s m args below meth c H locs cells slots Q (F0 m (pc + 3) ls rest)) : W p l e R s m args below meth c H locs cells slots Q (F0 m pc ls (.int (iI a) :: rest)) := lv_if_le C.x C.b d ht (fun h => kt (iI_np.mp h)) (fun h => kf (fun q => h (iI_np.mpr q)))
theorem kx_icmp_eq (pc tgt : Nat) (C : xK G p s m args meth c cc nL Ts own ret) {o a b : Int} (d : decode cc pc = .ok (.if_icmp .eq o, 3)) (ht : (pc : Int) + o = (tgt : Int)) (kt : wI a = wI b → W p l e R s m args below meth c H locs cells slots Q (F0 m tgt ls rest)) (kf : ¬ wI a = wI b → W p l e R s m args below meth c H locs cells slots Q (F0 m (pc + 3) ls rest)) : W p l e R s m args below meth c H locs cells slots Q (F0 m pc ls (.int (iI b) :: .int (iI a) :: rest)) := lv_icmp_eq C.x C.b d ht (fun h => kt (iI_inj.mp h)) (fun h => kf (fun q => h (iI_inj.mpr q)))
theorem kx_icmp_ne (pc tgt : Nat) (C : xK G p s m args meth c cc nL Ts own ret) {o a b : Int} (d : decode cc pc = .ok (.if_icmp .ne o, 3)) (ht : (pc : Int) + o = (tgt : Int)) (kt : ¬ wI a = wI b → W p l e R s m args below meth c H locs cells slots Q (F0 m tgt ls rest)) (kf : wI a = wI b → W p l e R s m args below meth c H locs cells slots Q (F0 m (pc + 3) ls rest)) : W p l e R s m args below meth c H locs cells slots Q (F0 m pc ls (.int (iI b) :: .int (iI a) :: rest)) := lv_icmp_ne C.x C.b d ht (fun h => kt (fun q => h (iI_inj.mpr q))) (fun h => kf (iI_inj.mp h))
theorem kx_icmp_lt (pc tgt : Nat) (C : xK G p s m args meth c cc nL Ts own ret) {o a b : Int} (d : decode cc pc = .ok (.if_icmp .lt o, 3)) (ht : (pc : Int) + o = (tgt : Int)) (kt : wI a < wI b → W p l e R s m args below meth c H locs cells slots Q (F0 m tgt ls rest)) (kf : ¬ wI a < wI b → W p l e R s m args below meth c H locs cells slots Q (F0 m (pc + 3) ls rest)) : W p l e R s m args below meth c H locs cells slots Q (F0 m pc ls (.int (iI b) :: .int (iI a) :: rest)) := lv_icmp_lt C.x C.b d ht (fun h => kt (iI_lt.mp h)) (fun h => kf (fun q => h (iI_lt.mpr q)))
theorem kx_icmp_ge (pc tgt : Nat) (C : xK G p s m args meth c cc nL Ts own ret) {o a b : Int} (d : decode cc pc = .ok (.if_icmp .ge o, 3)) (ht : (pc : Int) + o = (tgt : Int)) (kt : wI b ≤ wI a → W p l e R s m args below meth c H locs cells slots Q (F0 m tgt ls rest)) (kf : ¬ wI b ≤ wI a → W p l e R s m args below meth c H locs cells slots Q (F0 m (pc + 3) ls rest)) : W p l e R s m args below meth c H locs cells slots Q (F0 m pc ls (.int (iI b) :: .int (iI a) :: rest)) := lv_icmp_ge C.x C.b d ht (fun h => kt (iI_le.mp h)) (fun h => kf (fun q => h (iI_le.mpr q)))
theorem kx_icmp_gt (pc tgt : Nat) (C : xK G p s m args meth c cc nL Ts own ret) {o a b : Int} (d : decode cc pc = .ok (.if_icmp .gt o, 3)) (ht : (pc : Int) + o = (tgt : Int)) (kt : wI b < wI a → W p l e R s m args below meth c H locs cells slots Q (F0 m tgt ls rest)) (kf : ¬ wI b < wI a → W p l e R s m args below meth c H locs cells slots Q (F0 m (pc + 3) ls rest)) : W p l e R s m args below meth c H locs cells slots Q (F0 m pc ls (.int (iI b) :: .int (iI a) :: rest)) := lv_icmp_gt C.x C.b d ht (fun h => kt (iI_lt.mp h)) (fun h => kf (fun q => h (iI_lt.mpr q)))
theorem kx_icmp_le (pc tgt : Nat) (C : xK G p s m args meth c cc nL Ts own ret) {o a b : Int} (d : decode cc pc = .ok (.if_icmp .le o, 3)) (ht : (pc : Int) + o = (tgt : Int)) (kt : wI a ≤ wI b → W p l e R s m args below meth c H locs cells slots Q (F0 m tgt ls rest)) (kf : ¬ wI a ≤ wI b → W p l e R s m args below meth c H locs cells slots Q (F0 m (pc + 3) ls rest)) : W p l e R s m args below meth c H locs cells slots Q (F0 m pc ls (.int (iI b) :: .int (iI a) :: rest)) := lv_icmp_le C.x C.b d ht (fun h => kt (iI_le.mp h)) (fun h => kf (fun q => h (iI_le.mpr q)))
theorem kx_ifnonnull (pc tgt : Nat) (C : xK G p s m args meth c cc nL Ts own ret) {o : Int} {x : Nat} (d : decode cc pc = .ok (.ifnonnull o, 3)) (ht : (pc : Int) + o = (tgt : Int)) (k : W p l e R s m args below meth c H locs cells slots Q (F0 m tgt ls rest)) : W p l e R s m args below meth c H locs cells slots Q (F0 m pc ls (.ref x :: rest)) := lv_ifnonnull C.x C.b d ht k
theorem kx_ifnonnullN (pc : Nat) (C : xK G p s m args meth c cc nL Ts own ret) {o : Int} (d : decode cc pc = .ok (.ifnonnull o, 3)) (k : W p l e R s m args below meth c H locs cells slots Q (F0 m (pc + 3) ls rest)) : W p l e R s m args below meth c H locs cells slots Q (F0 m pc ls (.null :: rest)) := lv_ifnonnullN C.x C.b d k
theorem kx_tabIn (pc tgt : Nat) (C : xK G p s m args meth c cc nL Ts own ret) {dflt lo hi o a : Int} {offs : Array Int} {len : Nat} (z : Int) (d : decode cc pc = .ok (.tableswitch dflt lo hi offs, len)) (h : wI a = z) (h1 : lo ≤ z ∧ z ≤ hi) (ho : offs[(z - lo).toNat]? = some o) (ht : (pc : Int) + o = (tgt : Int)) (k : W p l e R s m args below meth c H locs cells slots Q (F0 m tgt ls rest)) : W p l e R s m args below meth c H locs cells slots Q (F0 m pc ls (.int (iI a) :: rest)) :=
  lv_tableIn C.x C.b d (by rw [iI_toInt, h]; omega) (by rw [iI_toInt, h]; omega) (by rw [iI_toInt, h]; exact ho) ht k
theorem kx_tabOut (pc tgt : Nat) (C : xK G p s m args meth c cc nL Ts own ret) {dflt lo hi a : Int} {offs : Array Int} {len : Nat} (d : decode cc pc = .ok (.tableswitch dflt lo hi offs, len)) (h : wI a < lo ∨ hi < wI a) (ht : (pc : Int) + dflt = (tgt : Int)) (k : W p l e R s m args below meth c H locs cells slots Q (F0 m tgt ls rest)) : W p l e R s m args below meth c H locs cells slots Q (F0 m pc ls (.int (iI a) :: rest)) :=
  lv_tableOut C.x C.b d (by rw [iI_toInt]; exact h) ht k
/-! fields -/
/-- a field's place: entry idx of own's file is field k of class ci -/
def xFl (Ts : List Cond) (own : String) (idx ci k : Nat) : Prop := ∃ (Cn : String) (T : u_T) (N : Nat), vwCl[ci]? = some (Cn, T, N) ∧ k < N ∧ (∀ w ∈ u_ws Cn T N, w ∈ Ts) ∧ Cond.fieldLink own idx Cn (T k).2.1 (T k).2.2.1 ∈ Ts ∧ (T k).1 = Cn
/-- what a store into it asks besides -/
def xFw (ci k : Nat) (ty : FieldType) (fin : Bool) : Prop := ∃ (Cn : String) (T : u_T) (N : Nat) (ty0 : Nat → FieldType), vwCl[ci]? = some (Cn, T, N) ∧ (∀ j, j < N → parseFieldDescriptor (T j).2.2.1 = some (ty0 j)) ∧ (∀ a, a < N → ∀ b, b < N → a ≠ b → (T a).2.1 ≠ (T b).2.1) ∧ (T k).2.2.2 = fin ∧ parseFieldDescriptor (T k).2.2.1 = some ty
theorem xI.setP (I : xI G S s H locs) {q : Nat} {c c0 : xC} (hq : S[q]? = some c0) {H1 : Heap} {k : Nat} (hz : H1.size = H.size) (he : va_at (xD G) vwCl (xB G + q, xce G c) H1) (o : ∀ a : Nat, a ≠ xB G + q → H1[a]? = H[a]?) : xI G (S.set q c) s H1 (locs ++ [⟨xB G + q, k⟩]) :=
  ⟨I.1.put hq hz he o, I.2.put hz o (Nat.le_add_right _ _)⟩
theorem kx_get (pc : Nat) (C : xK G p s m args meth c cc nL Ts own ret) (I : xI G S s H locs) {idx ci k q : Nat} {v : xV} (F : xFl Ts own idx ci k) (h : rdF ci k S q = some v) (d : decode cc pc = .ok (.getfield idx, 3)) (kk : W p l e R s m args below meth c H locs cells slots Q (F0 m (pc + 3) ls (xfv G v :: rest))) : W p l e R s m args below meth c H locs cells slots Q (F0 m pc ls (.ref (xB G + q) :: rest)) := by
  obtain ⟨Cn, T, N, hc, hk, hin, hl, hs⟩ := F
  obtain ⟨fs, h1, h2⟩ := rdF_s h
  exact va_get C.x C.b C.ts hin C.ow C.K (I.1.one h1) 0 (fs := fs.map (xfv G)) rfl hc k hk (C.ts _ hl) (fun x hx => by rw [hs] at hx; exact hx) (by rw [List.getElem?_map, h2]; rfl) d kk
theorem kx_geti (pc : Nat) (C : xK G p s m args meth c cc nL Ts own ret) (I : xI G S s H locs) {idx ci k q : Nat} {x : Int} (F : xFl Ts own idx ci k) (h : rdFi ci k S q = some x) (d : decode cc pc = .ok (.getfield idx, 3)) (kk : W p l e R s m args below meth c H locs cells slots Q (F0 m (pc + 3) ls (.int (iI x) :: rest))) : W p l e R s m args below meth c H locs cells slots Q (F0 m pc ls (.ref (xB G + q) :: rest)) := kx_get pc C I F (rdFi_s h) d kk
theorem kx_getl (pc : Nat) (C : xK G p s m args meth c cc nL Ts own ret) (I : xI G S s H locs) {idx ci k q : Nat} {x : Int} (F : xFl Ts own idx ci k) (h : rdFl ci k S q = some x) (d : decode cc pc = .ok (.getfield idx, 3)) (kk : W p l e R s m args below meth c H locs cells slots Q (F0 m (pc + 3) ls (.long (lI x) :: rest))) : W p l e R s m args below meth c H locs cells slots Q (F0 m pc ls (.ref (xB G + q) :: rest)) := kx_get pc C I F (rdFl_s h) d kk
theorem kx_getp (pc : Nat) (C : xK G p s m args meth c cc nL Ts own ret) (I : xI G S s H locs) {idx ci k q x : Nat} (F : xFl Ts own idx ci k) (h : rdFp ci k S q = some x) (d : decode cc pc = .ok (.getfield idx, 3)) (kk : W p l e R s m args below meth c H locs cells slots Q (F0 m (pc + 3) ls (.ref (xB G + x) :: rest))) : W p l e R s m args below meth c H locs cells slots Q (F0 m pc ls (.ref (xB G + q) :: rest)) := kx_get pc C I F (rdFp_s h) d kk
theorem kx_getn (pc : Nat) (C : xK G p s m args meth c cc nL Ts own ret) (I : xI G S s H locs) {idx ci k q : Nat} (F : xFl Ts own idx ci k) (h : rdFr ci k S q = some none) (d : decode cc pc = .ok (.getfield idx, 3)) (kk : W p l e R s m args below meth c H locs cells slots Q (F0 m (pc + 3) ls (.null :: rest))) : W p l e R s m args below meth c H locs cells slots Q (F0 m pc ls (.ref (xB G + q) :: rest)) := kx_get pc C I F (rdFr_s h) d kk
theorem kx_getq (pc : Nat) (C : xK G p s m args meth c cc nL Ts own ret) (I : xI G S s H locs) {idx ci k q x : Nat} (F : xFl Ts own idx ci k) (h : rdFr ci k S q = some (some x)) (d : decode cc pc = .ok (.getfield idx, 3)) (kk : W p l e R s m args below meth c H locs cells slots Q (F0 m (pc + 3) ls (.ref (xB G + x) :: rest))) : W p l e R s m args below meth c H locs cells slots Q (F0 m pc ls (.ref (xB G + q) :: rest)) := kx_get pc C I F (rdFr_s h) d kk
theorem xput_at {ci k q : Nat} {Cn : String} {T : u_T} {N : Nat} {v : xV} {fs : List xV} {H1 : Heap} {cell : Cell} (hc : vwCl[ci]? = some (Cn, T, N)) (hk : k < fs.length) (hkN : k < N) (q2 : cell.cls = (xD G).1 ci) (q3 : cell.vm = .none) (q4 : ∀ j, j < N → cell.slots[(xD G).2 ci j]? = some (vp_V (fs.map (xfv G)) j)) (hap : ∀ x y, x < N → y < N → x ≠ y → (xD G).2 ci x ≠ (xD G).2 ci y) (e1 : H1[xB G + q]? = some (cell.setSlot ((xD G).2 ci k) (xfv G v))) : va_at (xD G) vwCl (xB G + q, xce G (.inr (.inr (ci, fs.set k v)))) H1 := by
  refine ⟨_, hc, ?_⟩
  have h2 := t_set q4 hap hkN (xfv G v)
  have h3 : t_OB (xB G + q) ((xD G).1 ci) N ((xD G).2 ci) H1 (updV (vp_V (fs.map (xfv G))) k (xfv G v)) := ⟨_, e1, q2, q3, h2⟩
  refine h3.to (fun j _ => ?_)
  rw [List.map_set]
  exact vp_updV_set (by rw [List.length_map]; exact hk) _ _
theorem kx_put (pc : Nat) (C : xK G p s m args meth c cc nL Ts own ret) (I : xI G S s H locs) {idx ci k q : Nat} {v : xV} {ty : FieldType} (F : xFl Ts own idx ci k) (Fw : xFw ci k ty false) (hn : narrow ty (xfv G v) = xfv G v) (hfit : fits ty (xfv G v) = true) (h : wrF ci k S q v = some S') (d : decode cc pc = .ok (.putfield idx, 3))
    (kk : ∀ (H : Heap) (locs : List Loc), xI G S' s H locs → W p l e R s m args below meth c H locs cells slots Q (F0 m (pc + 3) ls rest)) : W p l e R s m args below meth c H locs cells slots Q (F0 m pc ls (xfv G v :: .ref (xB G + q) :: rest)) := by
  obtain ⟨Cn, T, N, hc, hk, hin, hl, hs⟩ := F
  obtain ⟨Cn', T', N', ty0, hc', hty, hnm, hfin, hd⟩ := Fw
  cases hc.symm.trans hc'
  obtain ⟨fs, h1, h2, rfl⟩ := wrF_s h
  have hap := va_apart (own := own) C.ts hin ty0 hty hnm C.K hc
  obtain ⟨r, g1, cell, q1, q2, q3, q4⟩ := I.1.2 q _ h1
  cases g1.symm.trans hc
  obtain ⟨hSl, hfc, kC, hkC, hkind⟩ := C.K.1 ci _ hc
  obtain ⟨cf, kf, fi, f, hi, hsl⟩ := hSl k hk
  have hlay := C.ts _ (hin _ (u_in_lay hk))
  unfold u_lay at hlay
  rw [if_neg (by rw [hfin]; decide)] at hlay
  have hst := (u_facts hfc hkC (u_lays C.ts hin hk) hi).1
  refine W.putK C.x C.b (f := f) ⟨C.ow, C.ts _ hl, ⟨_, _, _, by rw [← hs]; exact hi⟩, hst⟩ (by rw [q2]; exact u_store hfc hkC hkind hlay hi hd hn hfit) q1 q3 (by rw [hsl]; exact k2_hasslot (q4 k hk)) rfl rfl d fun H1 e1 e2 e3 => ?_
  rw [hsl] at e1
  exact kk H1 _ (I.setP h1 e2 (xput_at hc h2 hk q2 q3 q4 hap e1) e3)
theorem kx_putF (pc : Nat) (C : xK G p s m args meth c cc nL Ts own ret) (I : xI G S s H locs) {idx ci k q : Nat} {v : xV} {ty : FieldType} (F : xFl Ts own idx ci k) (Fw : xFw ci k ty true) (hinit : meth.name = "<init>") (hown : vwCl[ci]?.map (·.1) = some own) (hn : narrow ty (xfv G v) = xfv G v) (hfit : fits ty (xfv G v) = true) (h : wrF ci k S q v = some S') (d : decode cc pc = .ok (.putfield idx, 3))
    (kk : ∀ (H : Heap) (locs : List Loc), xI G S' s H locs → W p l e R s m args below meth c H locs cells slots Q (F0 m (pc + 3) ls rest)) : W p l e R s m args below meth c H locs cells slots Q (F0 m pc ls (xfv G v :: .ref (xB G + q) :: rest)) := by
  obtain ⟨Cn, T, N, hc, hk, hin, hl, hs⟩ := F
  obtain ⟨Cn', T', N', ty0, hc', hty, hnm, hfin, hd⟩ := Fw
  cases hc.symm.trans hc'
  obtain ⟨fs, h1, h2, rfl⟩ := wrF_s h
  have hap := va_apart (own := own) C.ts hin ty0 hty hnm C.K hc
  obtain ⟨r, g1, cell, q1, q2, q3, q4⟩ := I.1.2 q _ h1
  cases g1.symm.trans hc
  obtain ⟨hSl, hfc, kC, hkC, hkind⟩ := C.K.1 ci _ hc
  obtain ⟨cf, kf, fi, f, hi, hsl⟩ := hSl k hk
  have hlay := C.ts _ (hin _ (u_in_lay hk))
  unfold u_lay at hlay
  rw [if_pos hfin] at hlay
  have hst := (u_facts hfc hkC (u_lays C.ts hin hk) hi).1
  have how : Cn = own := by
    rw [hc] at hown
    exact Option.some.inj hown
  have hcf : m.cls = cf := by
    obtain ⟨_, _, c', _, _, _, -, -, hf', -, -, -, hown2, -⟩ := Cond.laysFinal_spec hlay
    have z1 : c' = cf := by have := hi.symm.trans hf'; simp at this; exact this.1.symm
    rw [hs, how] at hown2
    rw [← z1]
    exact Option.some.inj (C.ow.symm.trans hown2)
  refine W.putFinK C.x C.b C.ow (C.ts _ hl) (by rw [← hs]; exact hi) hst hcf hinit (by rw [q2]; exact u_fits hfc hkC hkind (Or.inr hlay) hi hd hn hfit) q1 q3 (by rw [hsl]; exact k2_hasslot (q4 k hk)) rfl rfl d fun H1 e1 e2 e3 => ?_
  rw [hsl] at e1
  exact kk H1 _ (I.setP h1 e2 (xput_at hc h2 hk q2 q3 q4 hap e1) e3)
theorem kx_puti (pc : Nat) (C : xK G p s m args meth c cc nL Ts own ret) (I : xI G S s H locs) {idx ci k q : Nat} {x : Int} (F : xFl Ts own idx ci k) (Fw : xFw ci k .int false) (h : wrF ci k S q (.inl x) = some S') (d : decode cc pc = .ok (.putfield idx, 3))
    (kk : ∀ (H : Heap) (locs : List Loc), xI G S' s H locs → W p l e R s m args below meth c H locs cells slots Q (F0 m (pc + 3) ls rest)) : W p l e R s m args below meth c H locs cells slots Q (F0 m pc ls (.int (iI x) :: .ref (xB G + q) :: rest)) := kx_put pc C I F Fw rfl rfl h d kk
theorem kx_putz (pc : Nat) (C : xK G p s m args meth c cc nL Ts own ret) (I : xI G S s H locs) {idx ci k q : Nat} {x : Int} (F : xFl Ts own idx ci k) (Fw : xFw ci k .boolean false) (hx : x = 0 ∨ x = 1) (h : wrF ci k S q (.inl x) = some S') (d : decode cc pc = .ok (.putfield idx, 3))
    (kk : ∀ (H : Heap) (locs : List Loc), xI G S' s H locs → W p l e R s m args below meth c H locs cells slots Q (F0 m (pc + 3) ls rest)) : W p l e R s m args below meth c H locs cells slots Q (F0 m pc ls (.int (iI x) :: .ref (xB G + q) :: rest)) :=
  kx_put pc C I F Fw (by rcases hx with rfl | rfl <;> rfl) (by rcases hx with rfl | rfl <;> rfl) h d kk
theorem kx_putl (pc : Nat) (C : xK G p s m args meth c cc nL Ts own ret) (I : xI G S s H locs) {idx ci k q : Nat} {x : Int} (F : xFl Ts own idx ci k) (Fw : xFw ci k .long false) (h : wrF ci k S q (.inr (.inl x)) = some S') (d : decode cc pc = .ok (.putfield idx, 3))
    (kk : ∀ (H : Heap) (locs : List Loc), xI G S' s H locs → W p l e R s m args below meth c H locs cells slots Q (F0 m (pc + 3) ls rest)) : W p l e R s m args below meth c H locs cells slots Q (F0 m pc ls (.long (lI x) :: .ref (xB G + q) :: rest)) := kx_put pc C I F Fw rfl rfl h d kk
theorem kx_putp (pc : Nat) (C : xK G p s m args meth c cc nL Ts own ret) (I : xI G S s H locs) {idx ci k q x : Nat} {ty : FieldType} (F : xFl Ts own idx ci k) (Fw : xFw ci k ty false) (hn : ∀ a : Nat, narrow ty (.ref a) = .ref a ∧ fits ty (.ref a) = true) (h : wrF ci k S q (.inr (.inr (some x))) = some S') (d : decode cc pc = .ok (.putfield idx, 3))
    (kk : ∀ (H : Heap) (locs : List Loc), xI G S' s H locs → W p l e R s m args below meth c H locs cells slots Q (F0 m (pc + 3) ls rest)) : W p l e R s m args below meth c H locs cells slots Q (F0 m pc ls (.ref (xB G + x) :: .ref (xB G + q) :: rest)) := kx_put pc C I F Fw (v := .inr (.inr (some x))) (hn _).1 (hn _).2 h d kk
theorem kx_putn (pc : Nat) (C : xK G p s m args meth c cc nL Ts own ret) (I : xI G S s H locs) {idx ci k q : Nat} {ty : FieldType} (F : xFl Ts own idx ci k) (Fw : xFw ci k ty false) (hn : narrow ty .null = .null ∧ fits ty .null = true) (h : wrF ci k S q (.inr (.inr none)) = some S') (d : decode cc pc = .ok (.putfield idx, 3))
    (kk : ∀ (H : Heap) (locs : List Loc), xI G S' s H locs → W p l e R s m args below meth c H locs cells slots Q (F0 m (pc + 3) ls rest)) : W p l e R s m args below meth c H locs cells slots Q (F0 m pc ls (.null :: .ref (xB G + q) :: rest)) := kx_put pc C I F Fw (v := .inr (.inr none)) hn.1 hn.2 h d kk
theorem kx_putFp (pc : Nat) (C : xK G p s m args meth c cc nL Ts own ret) (I : xI G S s H locs) {idx ci k q x : Nat} {ty : FieldType} (F : xFl Ts own idx ci k) (Fw : xFw ci k ty true) (hinit : meth.name = "<init>") (hown : vwCl[ci]?.map (·.1) = some own) (hn : ∀ a : Nat, narrow ty (.ref a) = .ref a ∧ fits ty (.ref a) = true) (h : wrF ci k S q (.inr (.inr (some x))) = some S') (d : decode cc pc = .ok (.putfield idx, 3))
    (kk : ∀ (H : Heap) (locs : List Loc), xI G S' s H locs → W p l e R s m args below meth c H locs cells slots Q (F0 m (pc + 3) ls rest)) : W p l e R s m args below meth c H locs cells slots Q (F0 m pc ls (.ref (xB G + x) :: .ref (xB G + q) :: rest)) := kx_putF pc C I F Fw hinit hown (v := .inr (.inr (some x))) (hn _).1 (hn _).2 h d kk
/-! arrays -/
theorem x_ix {i : Int} {n : Nat} (h0 : 0 ≤ i) (h1 : i < 2147483648) (h2 : i.toNat < n) : vp_in (iI i) n ∧ (iI i).toNatClampNeg = i.toNat := by
  have e : (iI i).toInt = i := by rw [iI_toInt, wI_id (by omega) h1]
  refine ⟨vp_in_iff.mpr ?_, ?_⟩
  · rw [e]
    omega
  · show (iI i).toInt.toNat = i.toNat
    rw [e]
theorem x_ld {L : List Int} {i : Nat} {x : Int} (h : L[i]? = some x) : i < L.length ∧ iI (L.getD i 0) = iI x := by
  obtain ⟨h1, h2⟩ := List.getElem?_eq_some_iff.mp h
  exact ⟨h1, by rw [List.getD_eq_getElem?_getD, h]; rfl⟩
theorem kx_iald (pc : Nat) (C : xK G p s m args meth c cc nL Ts own ret) (I : xI G S s H locs) {q : Nat} {i x : Int} (h : rdA 0 S q i = some x) (d : decode cc pc = .ok (.iaload, 1)) (kk : W p l e R s m args below meth c H locs cells slots Q (F0 m (pc + 1) ls (.int (iI x) :: rest))) : W p l e R s m args below meth c H locs cells slots Q (F0 m pc ls (.int (iI i) :: .ref (xB G + q) :: rest)) := by
  obtain ⟨L, h1, h2, h3, h4⟩ := rdA_s h
  obtain ⟨hl, hx⟩ := x_ld h4
  obtain ⟨hi, hc⟩ := x_ix h2 h3 hl
  refine va_iald C.x C.b C.K (I.1.one h1) 0 0 rfl rfl hi d ?_
  show W p l e R s m args below meth c H locs cells slots Q (F0 m (pc + 1) ls (.int (iI (L.getD (iI i).toNatClampNeg 0)) :: rest))
  rw [hc, hx]
  exact kk
theorem kx_bald (pc : Nat) (C : xK G p s m args meth c cc nL Ts own ret) (I : xI G S s H locs) {q : Nat} {i x : Int} (h : rdA 1 S q i = some x) (d : decode cc pc = .ok (.baload, 1)) (kk : W p l e R s m args below meth c H locs cells slots Q (F0 m (pc + 1) ls (.int (iI x) :: rest))) : W p l e R s m args below meth c H locs cells slots Q (F0 m pc ls (.int (iI i) :: .ref (xB G + q) :: rest)) := by
  obtain ⟨L, h1, h2, h3, h4⟩ := rdA_s h
  obtain ⟨hl, hx⟩ := x_ld h4
  obtain ⟨hi, hc⟩ := x_ix h2 h3 hl
  refine va_bald C.x C.b C.K (I.1.one h1) 0 1 rfl rfl hi d ?_
  show W p l e R s m args below meth c H locs cells slots Q (F0 m (pc + 1) ls (.int (iI (L.getD (iI i).toNatClampNeg 0)) :: rest))
  rw [hc, hx]
  exact kk
theorem kx_zald (pc : Nat) (C : xK G p s m args meth c cc nL Ts own ret) (I : xI G S s H locs) {q : Nat} {i x : Int} (h : rdA 2 S q i = some x) (d : decode cc pc = .ok (.baload, 1)) (kk : W p l e R s m args below meth c H locs cells slots Q (F0 m (pc + 1) ls (.int (iI x) :: rest))) : W p l e R s m args below meth c H locs cells slots Q (F0 m pc ls (.int (iI i) :: .ref (xB G + q) :: rest)) := by
  obtain ⟨L, h1, h2, h3, h4⟩ := rdA_s h
  obtain ⟨hl, hx⟩ := x_ld h4
  obtain ⟨hi, hc⟩ := x_ix h2 h3 hl
  refine va_zald C.x C.b C.K (I.1.one h1) 0 2 rfl rfl hi d ?_
  show W p l e R s m args below meth c H locs cells slots Q (F0 m (pc + 1) ls (.int (iI (L.getD (iI i).toNatClampNeg 0)) :: rest))
  rw [hc, hx]
  exact kk
theorem x_st {CA : ClassId} {L : List Int} {n : Nat} {x : Int} (h : n < L.length) : (vp_cell CA (L.length, .inl (fun j => iI (L.getD j 0)))).setSlot n (.int (iI x)) = vp_cell CA ((L.set n x).length, .inl (fun j => iI ((L.set n x).getD j 0))) := by
  rw [vp_cell_i, vp_cell_i, arrV_store, List.length_set]
  congr 1
  funext j
  by_cases hj : j = n
  · subst hj
    simp [updV, List.getD_eq_getElem?_getD, h]
  · simp [updV, List.getD_eq_getElem?_getD, hj, List.getElem?_set_ne (Ne.symm hj)]
theorem kx_iast (pc : Nat) (C : xK G p s m args meth c cc nL Ts own ret) (I : xI G S s H locs) {q : Nat} {i x : Int} (h : wrA 0 S q i x = some S') (d : decode cc pc = .ok (.iastore, 1)) (kk : ∀ (H : Heap) (locs : List Loc), xI G S' s H locs → W p l e R s m args below meth c H locs cells slots Q (F0 m (pc + 1) ls rest)) : W p l e R s m args below meth c H locs cells slots Q (F0 m pc ls (.int (iI x) :: .int (iI i) :: .ref (xB G + q) :: rest)) := by
  obtain ⟨L, h1, h2, h3, h4, rfl⟩ := wrA_s h
  obtain ⟨hi, hc⟩ := x_ix h2 h3 h4
  refine W.iast C.x C.b (I.1.2 q _ h1) ((C.K.2 0 _ rfl).1 L.length (fun j => .int (iI (L.getD j 0)))) (fun z => by cases z) (by show ¬ (iI i < 0 ∨ (arrV _ _ _).slots.size ≤ _); rw [arrV_size]; exact hi) rfl rfl d fun H1 e z oq => ?_
  refine kk H1 _ (I.setP h1 z ?_ oq)
  show H1[xB G + q]? = some (vp_cell _ _)
  rw [e, hc]
  exact congrArg some (x_st h4)
theorem kx_bast (pc : Nat) (C : xK G p s m args meth c cc nL Ts own ret) (I : xI G S s H locs) {q : Nat} {i x : Int} (hx : xByte x = x) (h : wrA 1 S q i x = some S') (d : decode cc pc = .ok (.bastore, 1)) (kk : ∀ (H : Heap) (locs : List Loc), xI G S' s H locs → W p l e R s m args below meth c H locs cells slots Q (F0 m (pc + 1) ls rest)) : W p l e R s m args below meth c H locs cells slots Q (F0 m pc ls (.int (iI x) :: .int (iI i) :: .ref (xB G + q) :: rest)) := by
  obtain ⟨L, h1, h2, h3, h4, rfl⟩ := wrA_s h
  obtain ⟨hi, hc⟩ := x_ix h2 h3 h4
  have hb : narrow .byte (.int (iI x)) = .int (iI x) := by
    have : (iI x).toInt8.toInt32 = iI x := by
      rw [← iI_of (iI x).toInt8.toInt32]
      exact congrArg iI hx
    show Value.int ((iI x).toInt8.toInt32) = _
    rw [this]
  refine W.bast C.x C.b (I.1.2 q _ h1) ((C.K.2 1 _ rfl).1 L.length (fun j => .int (iI (L.getD j 0)))) (fun z => by cases z) (by show ¬ (iI i < 0 ∨ (arrV _ _ _).slots.size ≤ _); rw [arrV_size]; exact hi) rfl rfl d fun H1 e z oq => ?_
  refine kk H1 _ (I.setP h1 z ?_ oq)
  show H1[xB G + q]? = some (vp_cell _ _)
  rw [e, hc, hb]
  exact congrArg some (x_st h4)
theorem kx_zast (pc : Nat) (C : xK G p s m args meth c cc nL Ts own ret) (I : xI G S s H locs) {q : Nat} {i x : Int} (hx : x = 0 ∨ x = 1) (h : wrA 2 S q i x = some S') (d : decode cc pc = .ok (.bastore, 1)) (kk : ∀ (H : Heap) (locs : List Loc), xI G S' s H locs → W p l e R s m args below meth c H locs cells slots Q (F0 m (pc + 1) ls rest)) : W p l e R s m args below meth c H locs cells slots Q (F0 m pc ls (.int (iI x) :: .int (iI i) :: .ref (xB G + q) :: rest)) := by
  obtain ⟨L, h1, h2, h3, h4, rfl⟩ := wrA_s h
  obtain ⟨hi, hc⟩ := x_ix h2 h3 h4
  have hb : narrow .boolean (.int (iI x)) = .int (iI x) := by rcases hx with rfl | rfl <;> rfl
  refine W.zast C.x C.b (I.1.2 q _ h1) ((C.K.2 2 _ rfl).1 L.length (fun j => .int (iI (L.getD j 0)))) (fun z => by cases z) (by show ¬ (iI i < 0 ∨ (arrV _ _ _).slots.size ≤ _); rw [arrV_size]; exact hi) rfl rfl d fun H1 e z oq => ?_
  refine kk H1 _ (I.setP h1 z ?_ oq)
  show H1[xB G + q]? = some (vp_cell _ _)
  rw [e, hc, hb]
  exact congrArg some (x_st h4)
theorem kx_aald (pc : Nat) (C : xK G p s m args meth c cc nL Ts own ret) (I : xI G S s H locs) {q k : Nat} {i : Int} {x : Option Nat} {ty : FieldType} (hk : (xTy G)[k]? = some (xCA G k, ty)) (hr : ty.isReference = true) (h : rdP k S q i = some x) (d : decode cc pc = .ok (.aaload, 1)) (kk : W p l e R s m args below meth c H locs cells slots Q (F0 m (pc + 1) ls (xrv G x :: rest))) : W p l e R s m args below meth c H locs cells slots Q (F0 m pc ls (.int (iI i) :: .ref (xB G + q) :: rest)) := by
  obtain ⟨L, h1, h2, h3, h4⟩ := rdP_s h
  have hl : i.toNat < L.length := (List.getElem?_eq_some_iff.mp h4).1
  obtain ⟨hi, hc⟩ := x_ix h2 h3 hl
  refine W.aald (v := xrv G x) C.x C.b (I.1.2 q _ h1) ((C.K.2 k _ hk).1 L.length (fun j => va_rf ((L.getD j none).map (fun q => xB G + q)))) hr (fun z => by cases z) (by show ¬ (iI i < 0 ∨ (arrV _ _ _).slots.size ≤ _); rw [arrV_size]; exact hi) ?_ rfl rfl d kk
  show (arrV _ _ _).slots[_]? = _
  rw [hc, arrV_read _ _ hl]
  show some (va_rf ((L.getD i.toNat none).map (fun q => xB G + q))) = some (va_rf (x.map (fun q => xB G + q)))
  rw [List.getD_eq_getElem?_getD, h4]
  rfl
theorem kx_aastR (pc : Nat) (C : xK G p s m args meth c cc nL Ts own ret) (I : xI G S s H locs) {q v : Nat} {i : Int} (h : wrP 3 1 S q i v = some S') (d : decode cc pc = .ok (.aastore, 1)) (kk : ∀ (H : Heap) (locs : List Loc), xI G S' s H locs → W p l e R s m args below meth c H locs cells slots Q (F0 m (pc + 1) ls rest)) : W p l e R s m args below meth c H locs cells slots Q (F0 m pc ls (.ref (xB G + v) :: .int (iI i) :: .ref (xB G + q) :: rest)) := by
  obtain ⟨L, fs, h1, hv, h2, h3, h4, rfl⟩ := wrP_s h
  obtain ⟨hi, hc⟩ := x_ix h2 h3 h4
  obtain ⟨r', hr', cellV, g1, g2, g3, -⟩ := I.1.2 v _ hv
  cases hr'
  have hcls := (C.K.1 1 _ rfl).2
  obtain ⟨kA, comp, k1, k2, k3, -⟩ := (C.K.2 3 _ rfl).2
  have hcomp : comp = (xD G).1 1 := Option.some.inj (k3.symm.trans hcls.1)
  subst hcomp
  obtain ⟨kC, hkC, -⟩ := hcls.2
  refine W.aast C.x C.b (I.1.2 q _ h1) (fun z hz => by cases hz) (fun hz => by cases hz) k1 k2 rfl hkC ⟨fun z => hi (Or.inl z), by show _ < (arrV _ _ _).slots.size; rw [arrV_size, hc]; exact h4⟩ g1 (fun z hz => by rw [g3] at hz; cases hz) (by rw [g2]; exact hkC) (by rw [g2]; exact va_assign hcls) rfl rfl d fun H1 e z oq => ?_
  refine kk H1 _ (I.setP h1 z ?_ oq)
  show H1[xB G + q]? = some (vp_cell _ _)
  rw [e, hc]
  refine congrArg some ?_
  rw [vp_cell_q, vp_cell_q, arrV_store, List.length_set]
  congr 1
  funext j
  by_cases hj : j = i.toNat
  · subst hj
    simp [updV, List.getD_eq_getElem?_getD, h4, va_rf]
  · simp [updV, List.getD_eq_getElem?_getD, hj, List.getElem?_set_ne (Ne.symm hj)]
theorem kx_alen (pc : Nat) (C : xK G p s m args meth c cc nL Ts own ret) (I : xI G S s H locs) {q : Nat} {x : Int} (h : lenA 0 S q = some x) (d : decode cc pc = .ok (.arraylength, 1)) (kk : W p l e R s m args below meth c H locs cells slots Q (F0 m (pc + 1) ls (.int (iI x) :: rest))) : W p l e R s m args below meth c H locs cells slots Q (F0 m pc ls (.ref (xB G + q) :: rest)) := by
  obtain ⟨L, h1, rfl⟩ := lenA_s h
  exact va_alen C.x C.b C.K (I.1.one h1) 0 0 rfl rfl (v := iI (L.length : Int)) (Int32.ofInt_eq_ofNat).symm d kk
/-! the table -/
theorem kx_tab (pc : Nat) (C : xK G p s m args meth c cc nL Ts own ret) (I : xI G S s H locs) {i x : Int} (h : rdT i = some x) (d : decode cc pc = .ok (.iaload, 1)) (kk : W p l e R s m args below meth c H locs cells slots Q (F0 m (pc + 1) ls (.int (iI x) :: rest))) : W p l e R s m args below meth c H locs cells slots Q (F0 m pc ls (.int (iI i) :: .ref (xTw G) :: rest)) := by
  unfold rdT at h
  split at h
  · next hc =>
    obtain ⟨hi, he⟩ := x_ix (n := 8) hc.1 (by omega) (by omega)
    refine va_ti C.x C.b C.en.2.1.2.1 I.2 hi (v := .int (iI x)) ?_ d kk
    show Value.int (iI (([1, 1, 2, 6, 24, 120, 720, 5040] : List Int).getD (iI i).toNatClampNeg 0)) = _
    rw [he, List.getD_eq_getElem?_getD, h]
    rfl
  · cases h
/-! contracts: one shape for all methods: the world is the store's, the answer and the store behind are the pure function's -/
def xPre (G : xG) (S : xS) (U : State) : Prop := xW G S U.heap ∧ xE G U U.heap
def xQi (G : xG) (r : Int) (S' : xS) : Array Value → State → Outcome → State → Prop := va_Qi (fun (z : Int32) (_ : Unit) => z = iI r) (fun _ t => xW G S' t.heap) (xA G)
def xQl (G : xG) (r : Int) (S' : xS) : Array Value → State → Outcome → State → Prop := va_Ql (fun (z : Int64) (_ : Unit) => z = lI r) (fun _ t => xW G S' t.heap) (xA G)
def xQv (G : xG) (S' : xS) : Array Value → State → Outcome → State → Prop := va_Qv (fun (_ : Unit) => True) (fun _ t => xW G S' t.heap) (xA G)
def xQp (G : xG) (r : Nat) (S' : xS) : Array Value → State → Outcome → State → Prop := va_Qr (fun (_ : Unit) => True) (fun _ a t => a = xB G + r ∧ xW G S' t.heap) (xA G)
theorem kx_iret (pc : Nat) (C : xK G p s m args meth c cc nL Ts own (some .int)) (I : xI G S s H locs) {r0 r : Int} (hf : (some (r0, S) : Option (Int × xS)) = some (r, S')) (d : decode cc pc = .ok (.ireturn, 1)) : W p l e R s m args below meth c H locs cells slots (MQ below (xQi G r S') args s cells slots (xA G)) (F0 m pc ls [.int (iI r0)]) := by
  cases hf
  exact W.iret C.x C.b C.r (fun t ht hW => ⟨⟨iI r0, (), rfl, rfl, by show xW G S t.heap; rw [ht]; exact I.1⟩, I.2.F ht⟩) I.2.2.2 d C.lk
theorem kx_zret (pc : Nat) (C : xK G p s m args meth c cc nL Ts own (some .boolean)) (I : xI G S s H locs) {r0 r : Int} (hb : r0 = 0 ∨ r0 = 1) (hf : (some (r0, S) : Option (Int × xS)) = some (r, S')) (d : decode cc pc = .ok (.ireturn, 1)) : W p l e R s m args below meth c H locs cells slots (MQ below (xQi G r S') args s cells slots (xA G)) (F0 m pc ls [.int (iI r0)]) := by
  cases hf
  exact W.zret C.x C.b C.r (by rcases hb with rfl | rfl <;> rfl) (fun t ht hW => ⟨⟨iI r0, (), rfl, rfl, by show xW G S t.heap; rw [ht]; exact I.1⟩, I.2.F ht⟩) I.2.2.2 d C.lk
theorem kx_lret (pc : Nat) (C : xK G p s m args meth c cc nL Ts own (some .long)) (I : xI G S s H locs) {r0 r : Int} (hf : (some (r0, S) : Option (Int × xS)) = some (r, S')) (d : decode cc pc = .ok (.lreturn, 1)) : W p l e R s m args below meth c H locs cells slots (MQ below (xQl G r S') args s cells slots (xA G)) (F0 m pc ls [.long (lI r0)]) := by
  cases hf
  exact W.lret C.x C.b C.r (fun t ht hW => ⟨⟨lI r0, (), rfl, rfl, by show xW G S t.heap; rw [ht]; exact I.1⟩, I.2.F ht⟩) I.2.2.2 d C.lk
theorem kx_vret (pc : Nat) (C : xK G p s m args meth c cc nL Ts own none) (I : xI G S s H locs) {r : Int} (hf : (some ((0 : Int), S) : Option (Int × xS)) = some (r, S')) (d : decode cc pc = .ok (.return_, 1)) : W p l e R s m args below meth c H locs cells slots (MQ below (xQv G S') args s cells slots (xA G)) (F0 m pc ls []) := by
  cases hf
  exact W.vret C.x C.b C.r (fun t ht hW => ⟨⟨(), rfl, trivial, by show xW G S t.heap; rw [ht]; exact I.1⟩, I.2.F ht⟩) I.2.2.2 d C.lk
theorem kx_aret (pc : Nat) {n : String} (C : xK G p s m args meth c cc nL Ts own (some (.object n))) (I : xI G S s H locs) {r0 r : Nat} (hf : (some (r0, S) : Option (Nat × xS)) = some (r, S')) (d : decode cc pc = .ok (.areturn, 1)) : W p l e R s m args below meth c H locs cells slots (MQ below (xQp G r S') args s cells slots (xA G)) (F0 m pc ls [.ref (xB G + r0)]) := by
  cases hf
  exact W.aret C.x C.b C.r (Or.inl ⟨_, rfl⟩) (Or.inr ⟨_, rfl⟩) (fun t ht hW => ⟨⟨(), xB G + r0, rfl, trivial, rfl, by show xW G S t.heap; rw [ht]; exact I.1⟩, I.2.F ht⟩) I.2.2.2 d C.lk
theorem xPre_blind {As : List Value} : FrameBlind (va_Pc As (xPre G S)) := fun a U g mk q => ⟨q.1, q.2.1, xE.same rfl q.2.2⟩
theorem xPre_at (C : xK G p s m args meth c cc nL Ts own ret) (I : xI G S s H locs) {As : List Value} : PreS s H (va_Pc As (xPre G S)) As := ⟨xPre_blind, fun U hU hW => ⟨rfl, by rw [hU]; exact I.1, by rw [hU]; exact C.en.at I.2 hW⟩⟩
section KCALL
variable {y : MethodName} {bytes : ByteArray} {maxL idx mc ms n : Nat} {ws : List Cond} {rm : Room} {ry : Option FieldType} {S2 : xS} {As st0 : List Value}
theorem kx_callSi (pc : Nat) (C : xK G p s m args meth c cc nL Ts own ret) (hl : lv_has ls nL lv) (I : xI G S s H locs) {r : Int} (hM : Met l y ws rm (va_Pc As (xPre G S)) (xQi G r S2) mc ms (xA G)) (cw : CallB R s args own idx y bytes maxL ry ws rm mc ms n ∧ (Cond.static y).before args s = true) (hst : st0 = As.reverse ++ rest) (hn : As.length = n) (hw : (rest.map fun v => v.category).sum ≤ 8) (d : decode cc pc = .ok (.invokestatic idx, 3)) (hc : cells + mc ≤ R.cells ∧ slots + ms ≤ R.slots)
    (kk : ∀ (H : Heap) (locs : List Loc), xI G S2 s H locs → W p l e R s m args below meth c H locs (cells + mc) (slots + ms) Q (F0 m (pc + 3) ls (.int (iI r) :: rest))) : W p l e R s m args below meth c H locs cells slots Q (F0 m pc ls st0) :=
  va_calli (va_runS ⟨C.x, C.b, C.ml, C.ow, C.ts⟩ hM cw (xPre_at C I) rfl hn hl.1 hst (lv_room hw) d hc) I.2 (fun q _ h => h) (fun q h => h) (fun r1 u t H1 locs1 ht hvm hp hB hz hk hS => by subst hp; exact kk H1 locs1 ⟨by rw [← ht]; exact hB, hS⟩)
theorem kx_callSl (pc : Nat) (C : xK G p s m args meth c cc nL Ts own ret) (hl : lv_has ls nL lv) (I : xI G S s H locs) {r : Int} (hM : Met l y ws rm (va_Pc As (xPre G S)) (xQl G r S2) mc ms (xA G)) (cw : CallB R s args own idx y bytes maxL ry ws rm mc ms n ∧ (Cond.static y).before args s = true) (hst : st0 = As.reverse ++ rest) (hn : As.length = n) (hw : (rest.map fun v => v.category).sum ≤ 8) (d : decode cc pc = .ok (.invokestatic idx, 3)) (hc : cells + mc ≤ R.cells ∧ slots + ms ≤ R.slots)
    (kk : ∀ (H : Heap) (locs : List Loc), xI G S2 s H locs → W p l e R s m args below meth c H locs (cells + mc) (slots + ms) Q (F0 m (pc + 3) ls (.long (lI r) :: rest))) : W p l e R s m args below meth c H locs cells slots Q (F0 m pc ls st0) :=
  va_calll (va_runS ⟨C.x, C.b, C.ml, C.ow, C.ts⟩ hM cw (xPre_at C I) rfl hn hl.1 hst (lv_room hw) d hc) I.2 (fun q _ h => h) (fun q h => h) (fun r1 u t H1 locs1 ht hvm hp hB hz hk hS => by subst hp; exact kk H1 locs1 ⟨by rw [← ht]; exact hB, hS⟩)
theorem kx_callSv (pc : Nat) (C : xK G p s m args meth c cc nL Ts own ret) (hl : lv_has ls nL lv) (I : xI G S s H locs) (hM : Met l y ws rm (va_Pc As (xPre G S)) (xQv G S2) mc ms (xA G)) (cw : CallB R s args own idx y bytes maxL ry ws rm mc ms n ∧ (Cond.static y).before args s = true) (hst : st0 = As.reverse ++ rest) (hn : As.length = n) (hw : (rest.map fun v => v.category).sum ≤ 8) (d : decode cc pc = .ok (.invokestatic idx, 3)) (hc : cells + mc ≤ R.cells ∧ slots + ms ≤ R.slots)
    (kk : ∀ (H : Heap) (locs : List Loc), xI G S2 s H locs → W p l e R s m args below meth c H locs (cells + mc) (slots + ms) Q (F0 m (pc + 3) ls rest)) : W p l e R s m args below meth c H locs cells slots Q (F0 m pc ls st0) :=
  va_callv (va_runS ⟨C.x, C.b, C.ml, C.ow, C.ts⟩ hM cw (xPre_at C I) rfl hn hl.1 hst (lv_room hw) d hc) I.2 (fun q _ h => h) (fun q h => h) (fun u t H1 locs1 ht hvm hp hB hz hk hS => kk H1 locs1 ⟨by rw [← ht]; exact hB, hS⟩)
theorem kx_recv (C : xK G p s m args meth c cc nL Ts own ret) (I : xI G S s H locs) {ci q : Nat} {Cn : String} {As : List Value} (hci : vwCl[ci]?.map (·.1) = some Cn) (ho : isO ci S q = true) : PreV s H Cn (xB G + q) (va_Pc (.ref (xB G + q) :: As) (xPre G S)) As := by
  obtain ⟨fs, h1⟩ := isO_s ho
  cases hv : vwCl[ci]? with
  | none => rw [hv] at hci; cases hci
  | some z =>
    rw [hv] at hci
    have e : z.1 = Cn := Option.some.inj hci
    have h2 := va_recv C.K (I.1.one h1) hv (q0 := 0) rfl
    rw [e] at h2
    exact ⟨xPre_blind, h2, (xPre_at C I).2⟩
theorem kx_callVi (pc : Nat) (C : xK G p s m args meth c cc nL Ts own ret) (hl : lv_has ls nL lv) (I : xI G S s H locs) {r : Int} {ci q : Nat} {Cn : String} (hM : Met l y ws rm (va_Pc (.ref (xB G + q) :: As) (xPre G S)) (xQi G r S2) mc ms (xA G)) (cw : CallW R s args own Cn idx y bytes maxL ry ws rm mc ms n) (hci : vwCl[ci]?.map (·.1) = some Cn) (ho : isO ci S q = true) (hst : st0 = As.reverse ++ .ref (xB G + q) :: rest) (hn : As.length = n) (hw : (rest.map fun v => v.category).sum ≤ 8) (d : decode cc pc = .ok (.invokevirtual idx, 3)) (hc : cells + mc ≤ R.cells ∧ slots + ms ≤ R.slots)
    (kk : ∀ (H : Heap) (locs : List Loc), xI G S2 s H locs → W p l e R s m args below meth c H locs (cells + mc) (slots + ms) Q (F0 m (pc + 3) ls (.int (iI r) :: rest))) : W p l e R s m args below meth c H locs cells slots Q (F0 m pc ls st0) :=
  va_calli (va_runV ⟨C.x, C.b, C.ml, C.ow, C.ts⟩ hM cw (kx_recv C I hci ho) rfl hn hl.1 hst (lv_room hw) d hc) I.2 (fun q _ h => h) (fun q h => h) (fun r1 u t H1 locs1 ht hvm hp hB hz hk hS => by subst hp; exact kk H1 locs1 ⟨by rw [← ht]; exact hB, hS⟩)
theorem kx_callVl (pc : Nat) (C : xK G p s m args meth c cc nL Ts own ret) (hl : lv_has ls nL lv) (I : xI G S s H locs) {r : Int} {ci q : Nat} {Cn : String} (hM : Met l y ws rm (va_Pc (.ref (xB G + q) :: As) (xPre G S)) (xQl G r S2) mc ms (xA G)) (cw : CallW R s args own Cn idx y bytes maxL ry ws rm mc ms n) (hci : vwCl[ci]?.map (·.1) = some Cn) (ho : isO ci S q = true) (hst : st0 = As.reverse ++ .ref (xB G + q) :: rest) (hn : As.length = n) (hw : (rest.map fun v => v.category).sum ≤ 8) (d : decode cc pc = .ok (.invokevirtual idx, 3)) (hc : cells + mc ≤ R.cells ∧ slots + ms ≤ R.slots)
    (kk : ∀ (H : Heap) (locs : List Loc), xI G S2 s H locs → W p l e R s m args below meth c H locs (cells + mc) (slots + ms) Q (F0 m (pc + 3) ls (.long (lI r) :: rest))) : W p l e R s m args below meth c H locs cells slots Q (F0 m pc ls st0) :=
  va_calll (va_runV ⟨C.x, C.b, C.ml, C.ow, C.ts⟩ hM cw (kx_recv C I hci ho) rfl hn hl.1 hst (lv_room hw) d hc) I.2 (fun q _ h => h) (fun q h => h) (fun r1 u t H1 locs1 ht hvm hp hB hz hk hS => by subst hp; exact kk H1 locs1 ⟨by rw [← ht]; exact hB, hS⟩)
theorem kx_callVv (pc : Nat) (C : xK G p s m args meth c cc nL Ts own ret) (hl : lv_has ls nL lv) (I : xI G S s H locs) {ci q : Nat} {Cn : String} (hM : Met l y ws rm (va_Pc (.ref (xB G + q) :: As) (xPre G S)) (xQv G S2) mc ms (xA G)) (cw : CallW R s args own Cn idx y bytes maxL ry ws rm mc ms n) (hci : vwCl[ci]?.map (·.1) = some Cn) (ho : isO ci S q = true) (hst : st0 = As.reverse ++ .ref (xB G + q) :: rest) (hn : As.length = n) (hw : (rest.map fun v => v.category).sum ≤ 8) (d : decode cc pc = .ok (.invokevirtual idx, 3)) (hc : cells + mc ≤ R.cells ∧ slots + ms ≤ R.slots)
    (kk : ∀ (H : Heap) (locs : List Loc), xI G S2 s H locs → W p l e R s m args below meth c H locs (cells + mc) (slots + ms) Q (F0 m (pc + 3) ls rest)) : W p l e R s m args below meth c H locs cells slots Q (F0 m pc ls st0) :=
  va_callv (va_runV ⟨C.x, C.b, C.ml, C.ow, C.ts⟩ hM cw (kx_recv C I hci ho) rfl hn hl.1 hst (lv_room hw) d hc) I.2 (fun q _ h => h) (fun q h => h) (fun u t H1 locs1 ht hvm hp hB hz hk hS => kk H1 locs1 ⟨by rw [← ht]; exact hB, hS⟩)
theorem kx_callVp (pc : Nat) (C : xK G p s m args meth c cc nL Ts own ret) (hl : lv_has ls nL lv) (I : xI G S s H locs) {r : Nat} {ci q : Nat} {Cn : String} (hM : Met l y ws rm (va_Pc (.ref (xB G + q) :: As) (xPre G S)) (xQp G r S2) mc ms (xA G)) (cw : CallW R s args own Cn idx y bytes maxL ry ws rm mc ms n) (hci : vwCl[ci]?.map (·.1) = some Cn) (ho : isO ci S q = true) (hst : st0 = As.reverse ++ .ref (xB G + q) :: rest) (hn : As.length = n) (hw : (rest.map fun v => v.category).sum ≤ 8) (d : decode cc pc = .ok (.invokevirtual idx, 3)) (hc : cells + mc ≤ R.cells ∧ slots + ms ≤ R.slots)
    (kk : ∀ (H : Heap) (locs : List Loc), xI G S2 s H locs → W p l e R s m args below meth c H locs (cells + mc) (slots + ms) Q (F0 m (pc + 3) ls (.ref (xB G + r) :: rest))) : W p l e R s m args below meth c H locs cells slots Q (F0 m pc ls st0) :=
  va_callr (va_runV ⟨C.x, C.b, C.ml, C.ow, C.ts⟩ hM cw (kx_recv C I hci ho) rfl hn hl.1 hst (lv_room hw) d hc) I.2 (fun q _ h => h) (fun q h => h) (fun u ra t H1 locs1 ht hvm hp hB hz hk hS => by obtain ⟨rfl, hB⟩ := hB; exact kk H1 locs1 ⟨by rw [← ht]; exact hB, hS⟩)
theorem kx_callI (pc : Nat) (C : xK G p s m args meth c cc nL Ts own ret) (hl : lv_has ls nL lv) (I : xI G S s H locs) {q : Nat} (hM : Met l y ws rm (va_Pc (.ref (xB G + q) :: As) (xPre G S)) (xQv G S2) mc ms (xA G)) (cw : CallB R s args own idx y bytes maxL none ws rm mc ms n ∧ y.name = "<init>" ∧ (Cond.instanceMethod y).before args s = true) (hst : st0 = As.reverse ++ .ref (xB G + q) :: rest) (hn : As.length = n) (hw : (rest.map fun v => v.category).sum ≤ 8) (d : decode cc pc = .ok (.invokespecial idx, 3)) (hc : cells + mc ≤ R.cells ∧ slots + ms ≤ R.slots)
    (kk : ∀ (H : Heap) (locs : List Loc), xI G S2 s H locs → W p l e R s m args below meth c H locs (cells + mc) (slots + ms) Q (F0 m (pc + 3) ls rest)) : W p l e R s m args below meth c H locs cells slots Q (F0 m pc ls st0) :=
  va_callv (va_runI ⟨C.x, C.b, C.ml, C.ow, C.ts⟩ hM cw (xPre_at C I) rfl hn hl.1 hst (lv_room hw) d hc) I.2 (fun q _ h => h) (fun q h => h) (fun u t H1 locs1 ht hvm hp hB hz hk hS => kk H1 locs1 ⟨by rw [← ht]; exact hB, hS⟩)
end KCALL
/-- a method's start -/
theorem kx_met {y : MethodName} {ws ws' : List Cond} {rm : Room} {As : List Value} {Qc : Array Value → State → Outcome → State → Prop} {mc ms maxL : Nat} {bytes : ByteArray} (own : String) (lv : List (Nat × Value)) (hy : plainName y.cls = true) (ho : y.cls = own) (hw : ws = Cond.code y bytes maxL ret :: ws') (hlen : (lg_sl As).length ≤ maxL) (hlv : lv_args 0 As = lv)
    (body : ∀ (p : Program) (e : Env) (s : State) (m : MethodId) (below : List Frame) (meth : Method) (c : Code) (ls : Array Slot), xK G p s m As.toArray meth c bytes maxL ws own ret → (y.name = "<init>" → meth.name = "<init>") → xI G S s s.heap [] → lv_has ls maxL lv → W p l e rm s m As.toArray below meth c s.heap [] 0 0 (MQ below Qc As.toArray s mc ms (xA G)) (F0 m 0 ls [])) :
    Met l y ws rm (va_Pc As (xPre G S)) Qc mc ms (xA G) := by
  refine Met.ofW (cc := bytes) (maxL := maxL) (ret := ret) hy hw ?_
  intro p e s m args below meth c s₁ B hml hv
  obtain ⟨rfl, hPW, hE⟩ := hv
  have hown : s.vm.findClass own = some m.cls := by rw [← ho]; exact findClass_of_methodNamed B.named
  have hl := lv_entry As (n := maxL) hlen
  rw [lg_entry_eq]
  rw [hlv] at hl
  exact body p e s m below meth c _ ⟨B.exec, B.bytes, hml, hown, atoms_spec (ws := ws) B.pre, B.notSynchronized, B.returns, hE⟩ (fun h => (name_of_methodNamed B.named B.method).1.trans h) ⟨hPW, va_S.rf⟩ hl
/-! making objects and arrays -/
theorem kx_objInit (pc : Nat) (C : xK G p s m args meth c cc nL Ts own ret) (hl : lv_has ls nL lv) {idx : Nat} {q : Nat} (h1 : Cond.methodLink own idx objectInit ∈ Ts) (h2 : Cond.instanceMethod objectInit ∈ Ts) (h3 : Cond.code objectInit ⟨#[0xb1]⟩ 1 none ∈ Ts) (hR : 1 ≤ R.frames ∧ (rest.map fun v => v.category).sum + 12 ≤ R.locals) (d : decode cc pc = .ok (.invokespecial idx, 3)) (k : W p l e R s m args below meth c H locs cells slots Q (F0 m (pc + 3) ls rest)) : W p l e R s m args below meth c H locs cells slots Q (F0 m pc ls (.ref q :: rest)) :=
  W.objInit C.x C.b C.ow (C.ts _ h1) (C.ts _ h2) (C.ts _ h3) rfl (by rw [C.ml]; exact hl.1) rfl d hR.1 (by show 2 * 0 + _ + 12 ≤ _; have := hR.2; omega) k
theorem kx_new (pc : Nat) (C : xK G p s m args meth c cc nL Ts own ret) (I : xI G S s H locs) {idx ci N : Nat} {Cn : String} {T : u_T} (fs : List xV) (ty : Nat → FieldType) (hc : vwCl[ci]? = some (Cn, T, N)) (hin : ∀ w ∈ u_ws Cn T N, w ∈ Ts) (hk : Cond.classLink own idx Cn ∈ Ts) (hi : Cond.instantiable Cn N ∈ Ts) (hini : Cond.initialized Cn ∈ Ts) (hty : ∀ k, k < N → parseFieldDescriptor (T k).2.2.1 = some (ty k)) (hfs : ∀ j, j < N → defaultValue (ty j) = vp_V (fs.map (xfv G)) j) (hcs : cells + 1 ≤ R.cells ∧ slots + N ≤ R.slots) (d : decode cc pc = .ok (.new idx, 3))
    (kk : ∀ H : Heap, xI G (S ++ [.inr (.inr (ci, fs))]) s H locs → W p l e R s m args below meth c H locs (cells + 1) (slots + N) Q (F0 m (pc + 3) ls (.ref (xB G + S.length) :: rest))) : W p l e R s m args below meth c H locs cells slots Q (F0 m pc ls rest) := by
  have hKn := C.K.1 ci _ hc
  refine W.newcK C.x C.b C.ow (C.ts _ hk) (C.ts _ hi) (C.ts _ hini) rfl d hcs.1 hcs.2 hKn.2.1 (h := xB G + S.length) I.1.1 fun H1 kC hkC e1 z1 o1 => ?_
  refine kk H1 ⟨I.1.push (by rw [z1, I.1.1]) ?_ (fun a ha => o1 a (by rw [← I.1.1]; exact ha)), ?_⟩
  · exact ⟨_, hc, (u_born ty C.ts hin hKn hkC e1 hty).to hfs⟩
  · have hS := I.2
    refine ⟨Nat.le_trans hS.1 (by rw [z1, I.1.1]; omega), fun a h1 h2 => ?_, hS.2.2⟩
    rw [o1 a (by rw [← I.1.1]; exact Nat.lt_of_lt_of_le h1 hS.1)]
    exact hS.2.1 a h1 h2
theorem kx_newa (pc : Nat) (C : xK G p s m args meth c cc nL Ts own ret) (I : xI G S s H locs) {atype : ArrayType} {ty : FieldType} (k N : Nat) (hk : (xTy G)[k]? = some (xCA G k, ty)) (hty : newarray.typeOf atype = ty) (hdv : defaultValue ty = .int (iI 0)) (hRA : ∀ (U : State) (cA : ClassId), va_RA U cA ty → U.vm.findClass ("[" ++ ty.toString) = some cA) (hw : Cond.arrayClass ty ∈ Ts) {n : Int} (hn : n = (N : Int)) (hb : N ≤ 10000) (hcb : componentBytes ty ≤ 8) (hcs : cells + 1 ≤ R.cells ∧ slots + N ≤ R.slots) (d : decode cc pc = .ok (.newarray atype, 2))
    (kk : ∀ H : Heap, xI G (S ++ [.inl (k, List.replicate N 0)]) s H locs → W p l e R s m args below meth c H locs (cells + 1) (slots + N) Q (F0 m (pc + 2) ls (.ref (xB G + S.length) :: rest))) : W p l e R s m args below meth c H locs cells slots Q (F0 m pc ls (.int (iI n) :: rest)) := by
  subst hty
  subst hn
  have e0 : (iI (N : Int)).toInt = (N : Int) := by rw [iI_toInt, wI_id (by omega) (by omega)]
  have hN : (iI (N : Int)).toNatClampNeg = N := by
    show (iI (N : Int)).toInt.toNat = N
    rw [e0]
    omega
  have hneg : ¬ iI (N : Int) < 0 := by
    rw [iI_neg, wI_id (by omega) (by omega)]
    omega
  refine va_newaK C.x C.b (C.ts _ hw) rfl d rfl hneg hN (Nat.le_trans (Nat.mul_le_mul hb hcb) (by decide)) hcs.1 hcs.2 (h := xB G + S.length) I.1.1 fun H1 cA e1 z1 o1 hAr hNm => ?_
  have hcA : cA = xCA G k := Option.some.inj (hNm.symm.trans (hRA s _ (C.K.2 k _ hk).2))
  subst hcA
  refine kk H1 ⟨I.1.push (by rw [z1, I.1.1]) ?_ (fun a ha => o1 a (by rw [← I.1.1]; exact ha)), ?_⟩
  · show H1[xB G + S.length]? = some (vp_cell _ _)
    rw [e1, hdv, vp_cell_i, List.length_replicate]
    refine congrArg some (congrArg (arrV (xCA G k) N) (funext fun j => ?_))
    rw [List.getD_eq_getElem?_getD, List.getElem?_replicate]
    split <;> rfl
  · have hS := I.2
    refine ⟨Nat.le_trans hS.1 (by rw [z1, I.1.1]; omega), fun a h1 h2 => ?_, hS.2.2⟩
    rw [o1 a (by rw [← I.1.1]; exact Nat.lt_of_lt_of_le h1 hS.1)]
    exact hS.2.1 a h1 h2
theorem kx_anewR (pc : Nat) (C : xK G p s m args meth c cc nL Ts own ret) (I : xI G S s H locs) {idx : Nat} (N : Nat) (hk : Cond.classLink own idx "BoxRings$Room" ∈ Ts) {n : Int} (hn : n = (N : Int)) (hb : N ≤ 10000) (hcs : cells + 1 ≤ R.cells ∧ slots + N ≤ R.slots) (d : decode cc pc = .ok (.anewarray idx, 3))
    (kk : ∀ H : Heap, xI G (S ++ [.inr (.inl (3, List.replicate N none))]) s H locs → W p l e R s m args below meth c H locs (cells + 1) (slots + N) Q (F0 m (pc + 3) ls (.ref (xB G + S.length) :: rest))) : W p l e R s m args below meth c H locs cells slots Q (F0 m pc ls (.int (iI n) :: rest)) := by
  subst hn
  have e0 : (iI (N : Int)).toInt = (N : Int) := by rw [iI_toInt, wI_id (by omega) (by omega)]
  have hN : (iI (N : Int)).toNatClampNeg = N := by
    show (iI (N : Int)).toInt.toNat = N
    rw [e0]
    omega
  have hneg : ¬ iI (N : Int) < 0 := by
    rw [iI_neg, wI_id (by omega) (by omega)]
    omega
  refine W.anew C.x C.b C.ow (C.ts _ hk) (va_AO.use C.en.2.1.2.2.2.2.1) rfl d rfl hneg (by rw [hN]; omega) hcs.1 (by rw [hN]; exact hcs.2) fun cA kA comp f1 f2 f3 f4 => ?_
  obtain ⟨kA', comp', k1, k2, k3, k4⟩ := (C.K.2 3 _ rfl).2
  have hcA : cA = xCA G 3 := Option.some.inj (f1.symm.trans k4)
  subst hcA
  rw [hN, I.1.1]
  generalize hH1 : H.push ({ cls := xCA G 3, slots := Array.replicate N .null, vm := .none } : Cell) = H1
  have z1 : H1.size = H.size + 1 := by rw [← hH1, Array.size_push]
  have e1 : H1[H.size]? = some (arrV (xCA G 3) N (fun _ => .null)) := by rw [← hH1, Array.getElem?_push_size, ← arrV_new]
  have o1 : ∀ q : Nat, q < H.size → H1[q]? = H[q]? := fun q hq => by rw [← hH1, Array.getElem?_push, if_neg (Nat.ne_of_lt hq)]
  refine kk H1 ⟨I.1.push z1 ?_ o1, ?_⟩
  · show H1[xB G + S.length]? = some (vp_cell _ _)
    rw [← I.1.1, e1, vp_cell_q, List.length_replicate]
    refine congrArg some (congrArg (arrV (xCA G 3) N) (funext fun j => ?_))
    rw [List.getD_eq_getElem?_getD, List.getElem?_replicate]
    split <;> rfl
  · have hS := I.2
    exact ⟨Nat.le_trans hS.1 (by omega), fun a h1 h2 => by rw [o1 a (Nat.lt_of_lt_of_le h1 hS.1)]; exact hS.2.1 a h1 h2, hS.2.2⟩
/-! System.arraycopy -/
theorem x_nat {z : Int} (h0 : 0 ≤ z) (h1 : z < 2147483648) : (iI z).toInt = z ∧ (iI z).toNatClampNeg = z.toNat ∧ ¬ iI z < 0 := by
  have e : (iI z).toInt = z := by rw [iI_toInt, wI_id (by omega) h1]
  refine ⟨e, ?_, ?_⟩
  · show (iI z).toInt.toNat = z.toNat
    rw [e]
  · rw [iI_neg, wI_id (by omega) h1]
    omega
theorem x_cpy {L M : List Int} {a b n : Nat} (h1 : a + n ≤ L.length) (h2 : b + n ≤ M.length) (j : Nat) : va_cpy (fun j => iI (L.getD j 0)) (fun j => iI (M.getD j 0)) a b n j = iI ((M.take b ++ (L.drop a).take n ++ M.drop (b + n)).getD j 0) := by
  unfold va_cpy
  have l1 : (M.take b).length = b := by rw [List.length_take]; omega
  have l2 : ((L.drop a).take n).length = n := by rw [List.length_take, List.length_drop]; omega
  simp only [List.getD_eq_getElem?_getD]
  by_cases hb : j < b
  · rw [if_neg (by omega), List.getElem?_append_left (by rw [List.length_append]; omega), List.getElem?_append_left (by omega), List.getElem?_take_of_lt hb]
  · by_cases hn : j < b + n
    · rw [if_pos ⟨by omega, hn⟩, List.getElem?_append_left (by rw [List.length_append]; omega), List.getElem?_append_right (by omega), l1, List.getElem?_take_of_lt (by omega), List.getElem?_drop]
    · rw [if_neg (by omega), List.getElem?_append_right (by rw [List.length_append]; omega), List.length_append, l1, l2, List.getElem?_drop]
      congr 3
      omega
theorem kx_cpy (pc : Nat) (C : xK G p s m args meth c cc nL Ts own ret) (hl : lv_has ls nL lv) (I : xI G S s H locs) {idx q r : Nat} {sp dp n : Int} (w1 : Cond.methodLink own idx arraycopyName ∈ Ts) (w2 : Cond.native arraycopyName ∈ Ts) (w3 : Cond.static arraycopyName ∈ Ts) (w4 : Cond.initialized "java/lang/System" ∈ Ts) (h : cpyA S q sp r dp n = some S') (hR : 1 ≤ R.frames ∧ (rest.map fun v => v.category).sum + 18 ≤ R.locals) (d : decode cc pc = .ok (.invokestatic idx, 3))
    (kk : ∀ (H : Heap) (locs : List Loc), xI G S' s H locs → W p l e R s m args below meth c H locs cells slots Q (F0 m (pc + 3) ls rest)) : W p l e R s m args below meth c H locs cells slots Q (F0 m pc ls (.int (iI n) :: .int (iI dp) :: .ref (xB G + r) :: .int (iI sp) :: .ref (xB G + q) :: rest)) := by
  obtain ⟨L, M, hq, hr, p1, p2, p3, q1, q2, q3, l1, l2, rfl⟩ := cpyA_s h
  obtain ⟨a1, a2, a3⟩ := x_nat p1 q1
  obtain ⟨b1, b2, b3⟩ := x_nat p2 q2
  obtain ⟨n1, n2, n3⟩ := x_nat p3 q3
  intro T hT X
  have c0 := I.1.2 q _ hq
  have c1 := I.1.2 r _ hr
  obtain ⟨-, k0, hk0, cm0, hkk0⟩ := (C.K.2 0 _ rfl).1 L.length (fun j => .int (iI (L.getD j 0)))
  obtain ⟨vm', X', step⟩ := X.arraycopy C.x C.ow (C.ts _ w1) (C.ts _ w2) (C.ts _ w3) (C.ts _ w4) (src := xB G + q) (dst := xB G + r) (cs := vp_cell (xCA G 0) (L.length, .inl (fun j => iI (L.getD j 0)))) (cd := vp_cell (xCA G 0) (M.length, .inl (fun j => iI (M.getD j 0)))) (srcPos := iI sp) (destPos := iI dp) (n := iI n) (by rw [hT]; exact c0) (by rw [hT]; exact c1)
    (fun _ z => by cases z) (fun _ z => by cases z) (fun z => by cases z) (fun z => by cases z) hk0 hk0 hkk0 hkk0 rfl a3 b3 n3
    (by rw [a1, n1]; show ¬ _ > ((arrV _ _ _).slots.size : Int); rw [arrV_size]; omega)
    (by rw [b1, n1]; show ¬ _ > ((arrV _ _ _).slots.size : Int); rw [arrV_size]; omega)
    (fun vm₁ _ i hi => by
      have e : (vp_cell (xCA G 0) (L.length, .inl (fun j => iI (L.getD j 0)))).slots.getD ((iI sp).toNatClampNeg + i) .null = .int (iI (L.getD ((iI sp).toNatClampNeg + i) 0)) := by
        show (arrV _ _ _).slots.getD _ _ = _
        rw [Array.getD_eq_getD_getElem?, arrV_read _ _ (by rw [a2]; rw [n2] at hi; omega)]
        rfl
      exact ⟨by rw [e]; rfl, by rw [e]; exact trivial⟩)
    (g := F0 m pc ls (.int (iI n) :: .int (iI dp) :: .ref (xB G + r) :: .int (iI sp) :: .ref (xB G + q) :: rest)) rfl (by rw [C.ml]; exact hl.1) (rest := rest) rfl (by rw [C.b]; exact d) hR.1 (by show 2 * 0 + _ + (7 + 11) ≤ _; have := hR.2; omega)
  have e1 : copied (vp_cell (xCA G 0) (L.length, .inl (fun j => iI (L.getD j 0)))) (vp_cell (xCA G 0) (M.length, .inl (fun j => iI (M.getD j 0)))) (iI sp) (iI dp) (iI n) = vp_cell (xCA G 0) (M.length, .inl (va_cpy (fun j => iI (L.getD j 0)) (fun j => iI (M.getD j 0)) (iI sp).toNatClampNeg (iI dp).toNatClampNeg (iI n).toNatClampNeg)) := va_copied (fun z => Value.int z) (xCA G 0) (xCA G 0) (n0 := L.length) (n1 := M.length) (sp := (iI sp).toNatClampNeg) (dp := (iI dp).toNatClampNeg) (n := (iI n).toNatClampNeg) (fun j => iI (L.getD j 0)) (fun j => iI (M.getD j 0)) (by rw [a2, n2]; exact l1)
  rw [e1, a2, b2, n2] at X' step
  have hlt : xB G + r < H.size := (Array.getElem?_eq_some_iff.mp c1).1
  generalize hF : (vp_cell (xCA G 0) (M.length, .inl (va_cpy (fun j => iI (L.getD j 0)) (fun j => iI (M.getD j 0)) sp.toNat dp.toNat n.toNat))) = F at X' step
  have hheap : ((T.setVm vm').setCell (xB G + r) F).heap = H.setIfInBounds (xB G + r) F := by rw [← hT]; rfl
  have oq : ∀ a : Nat, a ≠ xB G + r → (H.setIfInBounds (xB G + r) F)[a]? = H[a]? := fun a ha => by simp [Array.getElem?_setIfInBounds, Ne.symm ha]
  obtain ⟨t, x1, x2⟩ := kk _ _ ⟨I.1.put hr (by simp) (show (H.setIfInBounds (xB G + r) F)[xB G + r]? = some (vp_cell _ _) by
      rw [Array.getElem?_setIfInBounds_self_of_lt hlt, ← hF]
      refine congrArg some ?_
      rw [vp_cell_i, vp_cell_i]
      have hlen : (M.take dp.toNat ++ (L.drop sp.toNat).take n.toNat ++ M.drop (dp.toNat + n.toNat)).length = M.length := by
        simp only [List.length_append, List.length_take, List.length_drop]
        omega
      rw [hlen]
      exact congrArg (arrV (xCA G 0) M.length) (funext fun j => congrArg Value.int (x_cpy l1 l2 j))) oq,
    ⟨by simp; exact I.2.1, fun a g1 g2 => by
      rw [oq a (fun z => g2 (by rw [z]; exact Nat.le_add_right _ _))]
      exact I.2.2.1 a g1 g2, fun a ha => by
      rcases List.mem_append.mp ha with z | z
      · exact I.2.2.2 a z
      · obtain ⟨w, -, hw⟩ := List.mem_map.mp z
        rw [← hw]
        exact Nat.le_add_right _ _⟩⟩ _ hheap X'
  exact ⟨t, step t x1, x2⟩
/-! Math, statics -/
theorem kx_mmax (pc : Nat) (C : xK G p s m args meth c cc nL Ts own ret) (hl : lv_has ls nL lv) {idx : Nat} {a b : Int} (w1 : Cond.methodLink own idx Lib.Math.max.name ∈ Ts) (w2 : Cond.static Lib.Math.max.name ∈ Ts) (w3 : Cond.initialized "java/lang/Math" ∈ Ts) (w4 : Cond.code Lib.Math.max.name Lib.Math.max.code 2 (some .int) ∈ Ts) (hR : 1 ≤ R.frames ∧ (rest.map fun v => v.category).sum + 13 ≤ R.locals) (hc : cells ≤ R.cells ∧ slots ≤ R.slots) (d : decode cc pc = .ok (.invokestatic idx, 3)) (k : W p l e R s m args below meth c H locs cells slots Q (F0 m (pc + 3) ls (.int (iI (xMax a b)) :: rest))) : W p l e R s m args below meth c H locs cells slots Q (F0 m pc ls (.int (iI b) :: .int (iI a) :: rest)) := by
  refine va_mmax C.x C.b (by rw [C.ml]; exact hl.1.symm) C.ow (C.ts _ w1) (C.ts _ w2) (C.ts _ w3) (C.ts _ w4) hR.1 hR.2 hc.1 hc.2 d ?_
  have e : (if iI a < iI b then iI b else iI a) = iI (xMax a b) := by
    unfold xMax
    by_cases h : wI a < wI b
    · rw [if_pos (iI_lt.mpr h), if_pos h]
    · rw [if_neg (fun q => h (iI_lt.mp q)), if_neg h]
  rw [e]
  exact k
theorem kx_mmin (pc : Nat) (C : xK G p s m args meth c cc nL Ts own ret) (hl : lv_has ls nL lv) {idx : Nat} {a b : Int} (w1 : Cond.methodLink own idx Lib.Math.min.name ∈ Ts) (w2 : Cond.static Lib.Math.min.name ∈ Ts) (w3 : Cond.initialized "java/lang/Math" ∈ Ts) (w4 : Cond.code Lib.Math.min.name Lib.Math.min.code 2 (some .int) ∈ Ts) (hR : 1 ≤ R.frames ∧ (rest.map fun v => v.category).sum + 13 ≤ R.locals) (hc : cells ≤ R.cells ∧ slots ≤ R.slots) (d : decode cc pc = .ok (.invokestatic idx, 3)) (k : W p l e R s m args below meth c H locs cells slots Q (F0 m (pc + 3) ls (.int (iI (xMin a b)) :: rest))) : W p l e R s m args below meth c H locs cells slots Q (F0 m pc ls (.int (iI b) :: .int (iI a) :: rest)) := by
  refine va_mmin C.x C.b (by rw [C.ml]; exact hl.1.symm) C.ow (C.ts _ w1) (C.ts _ w2) (C.ts _ w3) (C.ts _ w4) hR.1 hR.2 hc.1 hc.2 d ?_
  have e : (if iI b < iI a then iI b else iI a) = iI (xMin a b) := by
    unfold xMin
    by_cases h : wI b < wI a
    · rw [if_pos (iI_lt.mpr h), if_pos h]
    · rw [if_neg (fun q => h (iI_lt.mp q)), if_neg h]
  rw [e]
  exact k
theorem kx_mmaxL (pc : Nat) (C : xK G p s m args meth c cc nL Ts own ret) (hl : lv_has ls nL lv) {idx : Nat} {a b : Int} (w1 : Cond.methodLink own idx Lib.MathLoose.max_long.x ∈ Ts) (w2 : Cond.static Lib.MathLoose.max_long.x ∈ Ts) (w3 : Cond.initialized "java/lang/Math" ∈ Ts) (w4 : Cond.code Lib.MathLoose.max_long.x Lib.MathLoose.max_long.code 4 (some .long) ∈ Ts) (hR : 1 ≤ R.frames ∧ (rest.map fun v => v.category).sum + 15 ≤ R.locals) (hc : cells ≤ R.cells ∧ slots ≤ R.slots) (d : decode cc pc = .ok (.invokestatic idx, 3)) (k : W p l e R s m args below meth c H locs cells slots Q (F0 m (pc + 3) ls (.long (lI (xMaxL a b)) :: rest))) : W p l e R s m args below meth c H locs cells slots Q (F0 m pc ls (.long (lI b) :: .long (lI a) :: rest)) := by
  refine va_mmax_long C.x C.b (by rw [C.ml]; exact hl.1.symm) C.ow (C.ts _ w1) (C.ts _ w2) (C.ts _ w3) (C.ts _ w4) hR.1 hR.2 hc.1 hc.2 d ?_
  have e : (if lI b < lI a then lI a else lI b) = lI (xMaxL a b) := by
    unfold xMaxL
    by_cases h : wL b < wL a
    · rw [if_pos (lI_lt.mpr h), if_neg (by omega)]
    · rw [if_neg (fun q => h (lI_lt.mp q))]
      by_cases h2 : wL a < wL b
      · rw [if_pos h2]
      · rw [if_neg h2]
        exact lI_inj.mpr (by omega)
  rw [e]
  exact k
theorem kx_gets (pc : Nat) (C : xK G p s m args meth c cc nL Ts own ret) (I : xI G S s H locs) {idx : Nat} (hl : Cond.fieldLink own idx "BoxRings" "WAYS_OF" "[I" ∈ Ts) (d : decode cc pc = .ok (.getstatic idx, 3)) (kk : W p l e R s m args below meth c H locs cells slots Q (F0 m (pc + 3) ls (.ref (xTw G) :: rest))) : W p l e R s m args below meth c H locs cells slots Q (F0 m pc ls rest) := va_gets C.x C.b C.en.2.1.1 I.2 C.ow (C.ts _ hl) (fun x h => h) d kk
theorem kx_getsN (pc : Nat) (C : xK G p s m args meth c cc nL Ts own ret) (I : xI G S s H locs) {idx : Nat} (hl : va_Nw (.fieldLinkNest own idx "BoxRings" "WAYS_OF" "[I" "BoxRings") s) (d : decode cc pc = .ok (.getstatic idx, 3)) (kk : W p l e R s m args below meth c H locs cells slots Q (F0 m (pc + 3) ls (.ref (xTw G) :: rest))) : W p l e R s m args below meth c H locs cells slots Q (F0 m pc ls rest) := va_getsN C.x C.b C.en.2.1.1 I.2 C.ow (va_Nw.use rfl hl) (fun x h => h) d kk
/-! texts -/
def xQs (G : xG) (r : Nat) (S' : xS) : Array Value → State → Outcome → State → Prop := va_Qr (fun (_ : Unit) => True) (fun _ a t => a = xKs G r ∧ xW G S' t.heap) (xA G)
theorem kx_sret (pc : Nat) {n : String} (C : xK G p s m args meth c cc nL Ts own (some (.object n))) (I : xI G S s H locs) {r0 r : Nat} (hf : (some (r0, S) : Option (Nat × xS)) = some (r, S')) (d : decode cc pc = .ok (.areturn, 1)) : W p l e R s m args below meth c H locs cells slots (MQ below (xQs G r S') args s cells slots (xA G)) (F0 m pc ls [.ref (xKs G r0)]) := by
  cases hf
  exact W.aret C.x C.b C.r (Or.inl ⟨_, rfl⟩) (Or.inr ⟨_, rfl⟩) (fun t ht hW => ⟨⟨(), xKs G r0, rfl, trivial, rfl, by show xW G S t.heap; rw [ht]; exact I.1⟩, I.2.F ht⟩) I.2.2.2 d C.lk
theorem kx_ldcS (pc : Nat) (C : xK G p s m args meth c cc nL Ts RX3 ret) {i : Nat} (hi : i < 9) (d : decode cc pc = .ok (.ldc (62 + 2 * i), 2)) (k : W p l e R s m args below meth c H locs cells slots Q (F0 m (pc + 2) ls (.ref (xKs G i) :: rest))) : W p l e R s m args below meth c H locs cells slots Q (F0 m pc ls rest) := va_ldcS C.x C.b C.ow (C.en.2.1.2.2.2.2.2.2.2.1 i hi) d k
theorem kx_callSs (pc : Nat) {y : MethodName} {bytes : ByteArray} {maxL idx mc ms n : Nat} {ws : List Cond} {rm : Room} {ry : Option FieldType} {S2 : xS} {As st0 : List Value} (C : xK G p s m args meth c cc nL Ts own ret) (hl : lv_has ls nL lv) (I : xI G S s H locs) {r : Nat} (hM : Met l y ws rm (va_Pc As (xPre G S)) (xQs G r S2) mc ms (xA G)) (cw : CallB R s args own idx y bytes maxL ry ws rm mc ms n ∧ (Cond.static y).before args s = true) (hst : st0 = As.reverse ++ rest) (hn : As.length = n) (hw : (rest.map fun v => v.category).sum ≤ 8) (d : decode cc pc = .ok (.invokestatic idx, 3)) (hc : cells + mc ≤ R.cells ∧ slots + ms ≤ R.slots)
    (kk : ∀ (H : Heap) (locs : List Loc), xI G S2 s H locs → W p l e R s m args below meth c H locs (cells + mc) (slots + ms) Q (F0 m (pc + 3) ls (.ref (xKs G r) :: rest))) : W p l e R s m args below meth c H locs cells slots Q (F0 m pc ls st0) :=
  va_callr (va_runS ⟨C.x, C.b, C.ml, C.ow, C.ts⟩ hM cw (xPre_at C I) rfl hn hl.1 hst (lv_room hw) d hc) I.2 (fun q _ h => h) (fun q h => h) (fun u ra t H1 locs1 ht hvm hp hB hz hk hS => by obtain ⟨rfl, hB⟩ := hB; exact kk H1 locs1 ⟨by rw [← ht]; exact hB, hS⟩)
theorem kx_recvS (C : xK G p s m args meth c cc nL Ts own ret) (I : xI G S s H locs) {i : Nat} {As : List Value} (hi : i < 9) : PreV s H "java/lang/String" (xKs G i) (va_Pc (.ref (xKs G i) :: As) (xPre G S)) As := ⟨xPre_blind, vk_recv C.en.2.1.2.2.2.2.2.2.1 hi I.2, (xPre_at C I).2⟩
/-- getfield of a text's field -/
theorem kx_getSv (pc : Nat) (C : xK G p s m args meth c cc nL Ts own ret) (I : xI G S s H locs) {i idx : Nat} (hi : i < 9) (hl : Cond.fieldLink own idx "java/lang/String" "value" "[B" ∈ Ts) (d : decode cc pc = .ok (.getfield idx, 3)) (k : W p l e R s m args below meth c H locs cells slots Q (F0 m (pc + 3) ls (.ref (xVs G i) :: rest))) : W p l e R s m args below meth c H locs cells slots Q (F0 m pc ls (.ref (xKs G i) :: rest)) := vk_getf C.x C.b (C.en.2.1.2.2.2.2.2.2.1.1 i hi).2.2.1 I.2 C.ow (C.ts _ hl) (fun _ h => h) d k
theorem kx_getSc (pc : Nat) (C : xK G p s m args meth c cc nL Ts own ret) (I : xI G S s H locs) {i idx : Nat} (hi : i < 9) (hl : Cond.fieldLink own idx "java/lang/String" "coder" "B" ∈ Ts) (d : decode cc pc = .ok (.getfield idx, 3)) (k : W p l e R s m args below meth c H locs cells slots Q (F0 m (pc + 3) ls (.int (iI 0) :: rest))) : W p l e R s m args below meth c H locs cells slots Q (F0 m pc ls (.ref (xKs G i) :: rest)) := vk_getf C.x C.b (C.en.2.1.2.2.2.2.2.2.1.1 i hi).2.1 I.2 C.ow (C.ts _ hl) (fun _ h => h) d k
theorem kx_getSs (pc : Nat) (C : xK G p s m args meth c cc nL Ts own ret) (I : xI G S s H locs) {idx : Nat} (hl : Cond.fieldLink own idx "java/lang/String" "COMPACT_STRINGS" "Z" ∈ Ts) (d : decode cc pc = .ok (.getstatic idx, 3)) (k : W p l e R s m args below meth c H locs cells slots Q (F0 m (pc + 3) ls (.int (iI 1) :: rest))) : W p l e R s m args below meth c H locs cells slots Q (F0 m pc ls rest) := va_gets C.x C.b C.en.2.1.2.2.2.2.2.2.2.2.1 I.2 C.ow (C.ts _ hl) (fun _ h => h) d k
end KX
