/-! new int[4][7] -/
section KMULTI
variable {G : xG} {p : Program} {l : Launch} {e : Env} {R : Room} {s : State} {m : MethodId} {args : Array Value} {below : List Frame} {meth : Method} {c : Code} {H : Heap} {locs : List Loc} {cells slots : Nat} {Q : State → Prop}
variable {cc : ByteArray} {nL : Nat} {Ts : List Cond} {own : String} {ret : Option FieldType} {ls : Array Slot} {rest : List Value} {S S' : xS} {lv lv' : List (Nat × Value)}
theorem x_outer (cA : ClassId) (h0 : Nat) : Jvm.Free.Multi.outerC cA 4 h0 4 = arrV cA 4 (fun j => va_rf (([some (h0 + 1), some (h0 + 2), some (h0 + 3), some (h0 + 4)] : List (Option Nat)).getD j none)) := by
  have e0 : Jvm.Free.Multi.outerC cA 4 h0 0 = arrV cA 4 (fun _ => .null) := arrV_new cA 4 .null
  have e1 : Jvm.Free.Multi.outerC cA 4 h0 4 = ((((Jvm.Free.Multi.outerC cA 4 h0 0).setSlot 0 (.ref (h0 + 1 + 0))).setSlot 1 (.ref (h0 + 1 + 1))).setSlot 2 (.ref (h0 + 1 + 2))).setSlot 3 (.ref (h0 + 1 + 3)) := rfl
  rw [e1, e0, arrV_store, arrV_store, arrV_store, arrV_store]
  refine congrArg (arrV cA 4) (funext fun j => ?_)
  simp only [updV]
  match j with
  | 0 => rfl
  | 1 => rfl
  | 2 => rfl
  | 3 => rfl
  | j + 4 => rfl
theorem kx_multi (pc : Nat) (C : xK G p s m args meth c cc nL Ts own ret) (I : xI G S s H locs) {idx : Nat} (hk : Cond.classLink own idx "[[I" ∈ Ts) (hw : Cond.arrayClass .int ∈ Ts) (hcs : cells + 5 ≤ R.cells ∧ slots + 32 ≤ R.slots) (d : decode cc pc = .ok (.multianewarray idx 2, 4))
    (kk : ∀ H : Heap, xI G (xMulti S) s H locs → W p l e R s m args below meth c H locs (cells + 5) (slots + 32) Q (F0 m (pc + 4) ls (.ref (xB G + S.length) :: rest))) : W p l e R s m args below meth c H locs cells slots Q (F0 m pc ls (.int (iI 7) :: .int (iI 4) :: rest)) := by
  intro T hT X
  have n4 : (iI 4).toNatClampNeg = 4 := by decide
  have n7 : (iI 7).toNatClampNeg = 7 := by decide
  have hover : (Cond.arrayOver (.array .int)).before args s = true := C.en.2.1.2.2.2.2.2.1
  obtain ⟨vm₁, cA, comp, -, fA, fC, hO, hI, X', step⟩ := X.multianewarray2F C.x (own := own) (index := idx) (ty := .int) C.ow (C.ts _ hk) hover (C.ts _ hw) (g := F0 m pc ls (.int (iI 7) :: .int (iI 4) :: rest)) rfl (by rw [C.b]; exact d) (n := iI 4) (k := iI 7) (rest := rest) rfl (by decide) (by decide) (by decide) (by decide) (by decide) (by decide) (by decide) (by rw [n4]; exact hcs.1) (by rw [n4, n7]; exact hcs.2)
  rw [n4, n7] at X' step
  have hcA : cA = xCA G 4 := Option.some.inj (fA.symm.trans (C.K.2 4 _ rfl).2)
  have hco : comp = xCA G 0 := Option.some.inj (fC.symm.trans (C.K.2 0 _ rfl).2)
  subst hcA
  subst hco
  have hTh : (T.setVm vm₁).heap = H := hT
  obtain ⟨f1, f2, -, -⟩ := Jvm.Free.Multi.fill_facts (T.setVm vm₁) (xCA G 4) (xCA G 0) 4 7 (defaultValue .int) 4
  have hold := fun (x : Nat) (hx : x < (T.setVm vm₁).heap.size) => Jvm.Free.Multi.fill_old (T.setVm vm₁) (xCA G 4) (xCA G 0) 4 7 (defaultValue .int) (a := x) hx 4
  have hrow := Jvm.Free.Multi.fill_inner (T.setVm vm₁) (xCA G 4) (xCA G 0) 4 7 (defaultValue .int) 4
  generalize hF : Jvm.Free.Multi.fill (T.setVm vm₁) (xCA G 4) (xCA G 0) 4 7 (defaultValue .int) 4 = F at X' step f1 f2 hold hrow
  rw [hTh] at f1 f2 hold hrow
  have hz := I.1.1
  have hin : ∀ j : Nat, j < 4 → F.heap[H.size + 1 + j]? = some (vp_cell (xCA G 0) ((List.replicate 7 (0 : Int)).length, .inl (fun i => iI ((List.replicate 7 (0 : Int)).getD i 0)))) := fun j hj => by
    rw [hrow j hj, vp_cell_i, List.length_replicate]
    refine congrArg some ?_
    show ({ cls := xCA G 0, slots := Array.replicate 7 (defaultValue .int), vm := .none } : Cell) = _
    rw [arrV_new]
    refine congrArg (arrV (xCA G 0) 7) (funext fun i => ?_)
    rw [List.getD_eq_getElem?_getD, List.getElem?_replicate]
    split <;> rfl
  obtain ⟨t, a1, b1⟩ := kk F.heap ⟨⟨by rw [f1, hz, xMulti, List.length_append]; rfl, fun q c0 hq => by
      by_cases h : q < S.length
      · rw [xMulti, List.getElem?_append_left h] at hq
        exact (I.1.2 q c0 hq).kept (hold _ (by show xB G + q < H.size; omega))
      · rw [xMulti, List.getElem?_append_right (by omega)] at hq
        have h5 : q - S.length < 5 := (List.getElem?_eq_some_iff.mp hq).1
        obtain ⟨j, rfl⟩ : ∃ j, q = S.length + j := ⟨q - S.length, by omega⟩
        rw [show S.length + j - S.length = j by omega] at hq
        have hj5 : j < 5 := by omega
        match j, hj5 with
        | 0, _ =>
          cases hq
          show F.heap[xB G + (S.length + 0)]? = some (vp_cell _ _)
          rw [show xB G + (S.length + 0) = H.size by omega, f2, x_outer, vp_cell_q]
          refine congrArg some (congrArg (arrV (xCA G 4) 4) (funext fun i => ?_))
          match i with
          | 0 => exact congrArg Value.ref (show H.size + 1 = xB G + (S.length + 1) by omega)
          | 1 => exact congrArg Value.ref (show H.size + 2 = xB G + (S.length + 2) by omega)
          | 2 => exact congrArg Value.ref (show H.size + 3 = xB G + (S.length + 3) by omega)
          | 3 => exact congrArg Value.ref (show H.size + 4 = xB G + (S.length + 4) by omega)
          | i + 4 => rfl
        | 1, _ => cases hq; show F.heap[xB G + (S.length + 1)]? = some (vp_cell _ _); rw [show xB G + (S.length + 1) = H.size + 1 + 0 by omega]; exact hin 0 (by omega)
        | 2, _ => cases hq; show F.heap[xB G + (S.length + 2)]? = some (vp_cell _ _); rw [show xB G + (S.length + 2) = H.size + 1 + 1 by omega]; exact hin 1 (by omega)
        | 3, _ => cases hq; show F.heap[xB G + (S.length + 3)]? = some (vp_cell _ _); rw [show xB G + (S.length + 3) = H.size + 1 + 2 by omega]; exact hin 2 (by omega)
        | 4, _ => cases hq; show F.heap[xB G + (S.length + 4)]? = some (vp_cell _ _); rw [show xB G + (S.length + 4) = H.size + 1 + 3 by omega]; exact hin 3 (by omega)⟩,
    ⟨by have := I.2.1; rw [f1]; omega, fun a h1 h2 => by rw [hold a (Nat.lt_of_lt_of_le h1 I.2.1)]; exact I.2.2.1 a h1 h2, I.2.2.2⟩⟩ F rfl X'
  refine ⟨t, step t ?_, b1⟩
  have e : T.heap.size = xB G + S.length := by rw [hT]; exact hz
  rw [e]
  exact a1
end KMULTI
