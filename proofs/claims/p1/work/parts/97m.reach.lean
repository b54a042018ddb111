/-! the graph of the moves on the fresh store -/
theorem z_set_self {S : xS} {p : Nat} {c : xC} (h : S[p]? = some c) : S.set p c = S := by
  obtain ⟨hl, he⟩ := List.getElem?_eq_some_iff.mp h
  rw [← he]
  exact List.set_getElem_self hl
theorem z_fs (k : Nat) (S : xS) (p : Nat) (v i n : Int) : g_J7_fill_53178 (k + 1) 1 S p v i n = b_J7_fill_53178_1 (g_J7_fill_53178 k) k S p v i n := rfl
theorem z_fill1 (v : Int) (p : Nat) : ∀ (m k : Nat) (S : xS) (A B : List Int), S[p]? = some (.inl (0, A ++ B)) → B.length = m → m + 1 ≤ k → A.length + m < 2147483648 → g_J7_fill_53178 k 1 S p v (A.length : Int) ((A.length + m : Nat) : Int) = some (0, S.set p (.inl (0, A ++ List.replicate m v)))
  | 0, k, S, A, B, hS, hB, hk, hl => by
    obtain ⟨k, rfl⟩ : ∃ k', k = k' + 1 := ⟨k - 1, by omega⟩
    have e : B = [] := List.eq_nil_of_length_eq_zero hB
    subst e
    rw [z_fs]
    unfold b_J7_fill_53178_1
    rw [wI_id (by omega) (by omega), wI_id (by omega) (by omega), if_pos (by omega)]
    rw [List.append_nil] at hS
    rw [show List.replicate 0 v = [] from rfl, List.append_nil, z_set_self hS]
  | m + 1, k, S, A, B, hS, hB, hk, hl => by
    obtain ⟨k, rfl⟩ : ∃ k', k = k' + 1 := ⟨k - 1, by omega⟩
    obtain ⟨b, B', rfl⟩ : ∃ b B', B = b :: B' := by
      cases B with
      | nil => simp at hB
      | cons b B' => exact ⟨b, B', rfl⟩
    have hB' : B'.length = m := by simpa using hB
    have hp : p < S.length := (List.getElem?_eq_some_iff.mp hS).1
    rw [z_fs]
    unfold b_J7_fill_53178_1
    rw [wI_id (by omega) (by omega), wI_id (by omega) (by omega), if_neg (by omega)]
    have hw : wrA 0 S p (A.length : Int) v = some (S.set p (.inl (0, (A ++ [v]) ++ B'))) := by
      rw [wrA_of hS (by omega) (by omega) (by simp)]
      have e : (A ++ b :: B').set (A.length : Int).toNat v = (A ++ [v]) ++ B' := by simp
      rw [e]
    rw [bind_some' hw]
    have h := z_fill1 v p m k (S.set p (.inl (0, (A ++ [v]) ++ B'))) (A ++ [v]) B' (by rw [List.getElem?_set_self hp]) hB' (by omega) (by simp; omega)
    have e1 : ((A ++ [v]).length : Int) = (A.length : Int) + 1 := by simp
    have e2 : (((A ++ [v]).length + m : Nat) : Int) = ((A.length + (m + 1) : Nat) : Int) := by simp; omega
    rw [e1, e2] at h
    show g_J7_fill_53178 k 1 (S.set p (.inl (0, (A ++ [v]) ++ B'))) p v ((A.length : Int) + 1) ((A.length + (m + 1) : Nat) : Int) = _
    rw [h, List.set_set, List.append_assoc]
    rfl
theorem z_fill {S : xS} {p : Nat} {L : List Int} {v : Int} {n : Nat} (h : S[p]? = some (.inl (0, L))) (hn : L.length = n) (hl : n < 2147483648) {k : Nat} (hk : n + 2 ≤ k) : f_J7_fill_53178 k S p v = some (0, S.set p (.inl (0, List.replicate n v))) := by
  subst hn
  obtain ⟨k, rfl⟩ : ∃ k', k = k' + 1 := ⟨k - 1, by omega⟩
  show b_J7_fill_53178_0 (g_J7_fill_53178 k) k S p v 0 0 = _
  unfold b_J7_fill_53178_0
  have e : lenA 0 S p = some (L.length : Int) := lenA_of h
  rw [bind_some' e]
  have := z_fill1 v p L.length k S [] L (by simpa using h) rfl (by omega) (by simpa using hl)
  simpa using this
theorem z_oo {o : Option xS} (h : o.isSome = true) : o = some (o.getD []) := by
  cases o with
  | none => cases h
  | some z => rfl
def z_gc (S : xS) (q : Nat) (c : xC) : Bool := match S[q]? with
  | some d => zeC d c
  | none => false
theorem z_gc_s {S : xS} {q : Nat} {c : xC} (h : z_gc S q c = true) : S[q]? = some c := by
  unfold z_gc at h
  split at h
  · next d e => rw [e, zeC_s _ _ h]
  · cases h
noncomputable def zS4 : xS := ((f_X0_init 0 (S0 ++ [.inr (.inr (0, xNew_X0))]) S0.length).getD (0, [])).2
theorem z_s4 (fu : Nat) : f_X0_init fu (S0 ++ [.inr (.inr (0, xNew_X0))]) S0.length = some (0, zS4) := by
  show f_X0_init 0 (S0 ++ [.inr (.inr (0, xNew_X0))]) S0.length = _
  exact z_opt (by decide +kernel)
noncomputable def zS8 : xS := (wrF 4 7 zS4 0 (.inr (.inr (some S0.length)))).getD []
theorem z_s8 : wrF 4 7 zS4 0 (.inr (.inr (some S0.length))) = some zS8 := z_oo (by decide +kernel)
noncomputable def zS9 : xS := (wrF 0 6 zS8 45 (.inl 5)).getD []
noncomputable def zS13 : xS := (wrF 0 7 zS9 45 (.inl 0)).getD []
noncomputable def zS19 : xS := (cpyA zS13 7 0 55 0 4).getD []
theorem z_s9 : wrF 0 6 zS8 45 (.inl 5) = some zS9 := z_oo (by decide +kernel)
theorem z_s13 : wrF 0 7 zS9 45 (.inl 0) = some zS13 := z_oo (by decide +kernel)
theorem z_s19 : cpyA zS13 7 0 55 0 4 = some zS19 := z_oo (by decide +kernel)
noncomputable def zTl (F : Nat) : Option (Int × xS) := (wrF 0 1 (zS19.set 47 (.inl (0, List.replicate 5040 (-1)))) 45 (.inl 0)).bind fun S29 => if isO 1 S29 1 = true then bd2 (f_X1_rankNow F S29 1) fun x32 S30 => if isO 0 S30 45 = true then bd2 (f_X0_add F S30 45 x32 (-2)) fun z36 S34 => g_X0_spreadFrom F 2 S34 45 1 5 0 0 0 else none else none
noncomputable def zSr : xS := ((zTl 11996).getD (0, [])).2
set_option maxRecDepth 100000 in
theorem z_tl6 : zTl 11996 = some (0, zSr) := z_opt (by decide +kernel)
set_option maxRecDepth 100000 in
theorem z_tl5 : zTl 11995 = some (0, zSr) := zeO_s (by decide +kernel)
theorem z_sp {F : Nat} (hF : 6000 ≤ F) (hm : f_X0_isMadeFor (F + 1) zS8 45 1 = some (0, zS8)) (ht : zTl F = some (0, zSr)) : f_X0_spreadFrom (F + 2) zS8 45 1 = some (0, zSr) := by
  show b_X0_spreadFrom_0 (g_X0_spreadFrom (F + 1)) (F + 1) zS8 45 1 0 0 0 0 = _
  unfold b_X0_spreadFrom_0
  rw [if_pos (show isO 0 zS8 45 = true from by decide +kernel), bd2_some hm, if_pos (by decide), bind_some' (show rdFi 1 0 zS8 1 = some 5 from by decide +kernel), bind_some' z_s9, bind_some' (show rdFi 1 9 zS9 1 = some 0 from by decide +kernel), bind_some' z_s13, bind_some' (show rdFp 1 10 zS13 1 = some 7 from by decide +kernel), bind_some' (show rdFp 0 8 zS13 45 = some 55 from by decide +kernel), bind_some' z_s19]
  show b_X0_spreadFrom_1 (g_X0_spreadFrom F) F zS19 45 1 5 0 0 0 = _
  unfold b_X0_spreadFrom_1
  rw [bind_some' (show rdFi 1 9 zS19 1 = some 0 from by decide +kernel), if_pos (by decide), bind_some' (show rdFp 0 2 zS19 45 = some 47 from by decide +kernel), bd2_some (z_fill (n := 5040) (z_gc_s (c := .inl (0, List.replicate 5040 0)) (by decide +kernel)) List.length_replicate (by omega) (by omega))]
  exact ht
theorem z_reach {F : Nat} (hF : 6000 ≤ F) (hm : f_X0_isMadeFor (F + 1) zS8 45 1 = some (0, zS8)) (ht : zTl F = some (0, zSr)) : f_X5_reachNow (F + 4) S0 0 = some (45, zSr) := by
  show b_X5_reachNow_0 (g_X5_reachNow (F + 3)) (F + 3) S0 0 = _
  unfold b_X5_reachNow_0
  rw [show rdFr 4 7 S0 0 = some none from by decide +kernel]
  show bd2 (f_X0_init (F + 3) (S0 ++ [.inr (.inr (0, xNew_X0))]) S0.length) (fun z6 S4 => (wrF 4 7 S4 0 (.inr (.inr (some S0.length)))).bind fun S8 => g_X5_reachNow (F + 3) 1 S8 0) = _
  rw [bd2_some (z_s4 _), bind_some' z_s8]
  show b_X5_reachNow_1 (g_X5_reachNow (F + 2)) (F + 2) zS8 0 = _
  unfold b_X5_reachNow_1
  rw [show rdFr 4 7 zS8 0 = some (some 45) from by decide +kernel]
  show ((rdFp 4 0 zS8 0).bind fun q14 => if isO 0 zS8 45 = true then bd2 (f_X0_spreadFrom (F + 2) zS8 45 q14) fun z17 S15 => onP (rdFr 4 7 S15 0) (none) fun q20 => some (q20, S15) else none) = _
  rw [bind_some' (show rdFp 4 0 zS8 0 = some 1 from by decide +kernel), if_pos (show isO 0 zS8 45 = true from by decide +kernel), bd2_some (z_sp hF hm ht), show rdFr 4 7 zSr 0 = some (some 45) from by decide +kernel]
  rfl
theorem z_re0 : f_X5_reachNow 12000 S0 0 = some (45, zSr) := z_reach (F := 11996) (by omega) (zeO_s (by decide +kernel)) z_tl6
theorem z_re1 : f_X5_reachNow 11999 S0 0 = some (45, zSr) := z_reach (F := 11995) (by omega) (zeO_s (by decide +kernel)) z_tl5
theorem z_r5 : isO 5 zSr 26 = true := by decide +kernel
set_option maxRecDepth 100000 in
theorem in_27 : zTwo (f_X5_group 12000 S0 0) (fun S => f_X6_group 12000 S 26) := by
  refine ⟨1, zSr, 1, _, ?_, z_r5, (z_opt (o := f_X6_group 12000 zSr 26) (r := 1) (by decide +kernel) : _), rfl⟩
  unfold f_X5_group
  rw [if_pos z_o4, bd2_some z_re0, bind_some' (show rdFi 0 1 zSr 45 = some 1 from by decide +kernel)]
