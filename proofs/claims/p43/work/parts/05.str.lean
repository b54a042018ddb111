/-! the JDK's own methods on the words -/
section KSTR
variable {G : xG} {p : Program} {l : Launch} {e : Env} {R : Room} {s : State} {m : MethodId} {args : Array Value} {below : List Frame} {meth : Method} {c : Code} {H : Heap} {locs : List Loc} {cells slots : Nat} {Q : State → Prop}
variable {cc : ByteArray} {nL : Nat} {Ts : List Cond} {own : String} {ret : Option FieldType} {ls : Array Slot} {rest : List Value} {S S' : xS} {lv lv' : List (Nat × Value)}
theorem kx_nret (pc : Nat) {ty : FieldType} (C : xK G p s m args meth c cc nL Ts own (some ty)) (I : xI G S s H locs) {r0 r : Int} (hn : narrow ty (.int (iI r0)) = .int (iI r0)) (hr : iI r0 = iI r) (d : decode cc pc = .ok (.ireturn, 1)) : W p l e R s m args below meth c H locs cells slots (MQ below (xQi G r S) args s cells slots (xA G)) (F0 m pc ls [.int (iI r0)]) :=
  W.zret C.x C.b C.r hn (fun t ht hW => ⟨⟨iI r0, (), rfl, hr, by show xW G S t.heap; rw [ht]; exact I.1⟩, I.2.F ht⟩) I.2.2.2 d C.lk
theorem sWord_s : ∀ i, i < 9 → xLen.getD i 0 = (sWord i).length ∧ ∀ j, j < (sWord i).length → (xByt.getD i []).getD j 0 = iI ((sWord i).getD j 0) ∧ 0 ≤ (sWord i).getD j 0 ∧ (sWord i).getD j 0 < 128 := by decide +kernel
theorem sLen_s {i : Nat} {x : Int} (h : sLen i = some x) : i < 9 ∧ x = (xLen.getD i 0 : Int) ∧ x < 100 := by
  unfold sLen at h
  split at h
  · next hi =>
    have h1 := (sWord_s i hi).1
    have h2 : ∀ i, i < 9 → (sWord i).length < 100 := by decide +kernel
    have h3 := h2 i hi
    have h4 := Option.some.inj h
    exact ⟨hi, by rw [← h4, h1], by rw [← h4]; omega⟩
  · cases h
theorem sChr_s {i : Nat} {k x : Int} (h : sChr i k = some x) : i < 9 ∧ 0 ≤ k ∧ k < (xLen.getD i 0 : Int) ∧ (xByt.getD i []).getD k.toNat 0 = iI x ∧ 0 ≤ x ∧ x < 128 ∧ xLen.getD i 0 < 100 := by
  unfold sChr at h
  split at h
  · next hc =>
    obtain ⟨h1, h2⟩ := List.getElem?_eq_some_iff.mp h
    obtain ⟨a1, a2⟩ := sWord_s i hc.1
    obtain ⟨b1, b2, b3⟩ := a2 _ h1
    have e : (sWord i).getD k.toNat 0 = x := by rw [List.getD_eq_getElem?_getD, h]; rfl
    rw [e] at b1 b2 b3
    have h2 : ∀ i, i < 9 → (sWord i).length < 100 := by decide +kernel
    have h3 := h2 i hc.1
    exact ⟨hc.1, hc.2.1, by rw [a1]; omega, b1, b2, b3, by rw [a1]; exact h3⟩
  · cases h
theorem x_shr0 {x : Int} (h0 : 0 ≤ x) (h1 : x < 100) : xShr x 0 = x := by
  unfold xShr
  rw [← iI_0, sb_shr0, iI_toInt, wI_id (by omega) (by omega)]
theorem x_chr : ∀ n : Nat, n < 128 → ((iI (xAnd (n : Int) 255)).toUInt32 % 65536).toInt32 = iI (n : Int) ∧ narrow .char (.int (iI (n : Int))) = .int (iI (n : Int)) := by decide +kernel
def rm_J0_coder_7d493 : Room := { frames := 0, cells := 0, slots := 0, locals := 0 }
set_option maxHeartbeats 4000000 in
set_option maxRecDepth 100000 in
theorem c_J0_coder (G : xG) (l : Launch) (S : xS) (i : Nat) (hi : i < 9) : Met l yJ0_coder_7d493 vsJ0_coder_7d493 rm_J0_coder_7d493 (va_Pc [.ref (xKs G i)] (xPre G S)) (xQi G 0 S) 0 0 (xA G) := by
  refine kx_met (ret := some .byte) RJ0 [(0, .ref (xKs G i))] (by decide) rfl rfl (Nat.le_of_ble_eq_true rfl) rfl (fun p e s m below meth c ls C hin I hl => ?_)
  refine kx_getSs 0 C I (inM mj_COMPACT_STRINGS) dJ0_coder_7d493_0 ?_
  refine kx_if_eq 3 13 C dJ0_coder_7d493_3 (by decide) (fun h => absurd h (by decide)) (fun _ => ?_)
  refine kx_aload_n 6 C dJ0_coder_7d493_6 (lv_at hl 0 rfl) ?_
  refine kx_getSc 7 C I hi (inM mj_coder) dJ0_coder_7d493_7 ?_
  refine kx_goto 10 14 C dJ0_coder_7d493_10 (by decide) ?_
  exact kx_nret 14 C I rfl rfl dJ0_coder_7d493_14
def rm_J0_isLatin1_aae02 : Room := { frames := 0, cells := 0, slots := 0, locals := 0 }
set_option maxHeartbeats 4000000 in
set_option maxRecDepth 100000 in
theorem c_J0_isLatin1 (G : xG) (l : Launch) (S : xS) (i : Nat) (hi : i < 9) : Met l yJ0_isLatin1_aae02 vsJ0_isLatin1_aae02 rm_J0_isLatin1_aae02 (va_Pc [.ref (xKs G i)] (xPre G S)) (xQi G 1 S) 0 0 (xA G) := by
  refine kx_met (ret := some .boolean) RJ0 [(0, .ref (xKs G i))] (by decide) rfl rfl (Nat.le_of_ble_eq_true rfl) rfl (fun p e s m below meth c ls C hin I hl => ?_)
  refine kx_getSs 0 C I (inM mj_COMPACT_STRINGS) dJ0_isLatin1_aae02_0 ?_
  refine kx_if_eq 3 17 C dJ0_isLatin1_aae02_3 (by decide) (fun h => absurd h (by decide)) (fun _ => ?_)
  refine kx_aload_n 6 C dJ0_isLatin1_aae02_6 (lv_at hl 0 rfl) ?_
  refine kx_getSc 7 C I hi (inM mj_coder) dJ0_isLatin1_aae02_7 ?_
  refine kx_if_ne 10 17 C dJ0_isLatin1_aae02_10 (by decide) (fun h => absurd rfl h) (fun _ => ?_)
  refine kx_iconst 13 C dJ0_isLatin1_aae02_13 ?_
  refine kx_goto 14 18 C dJ0_isLatin1_aae02_14 (by decide) ?_
  exact kx_nret 18 C I rfl rfl dJ0_isLatin1_aae02_18
def rm_J0_length_8abf5 : Room := { frames := 1, cells := 0, slots := 0, locals := 21 }
set_option maxHeartbeats 4000000 in
set_option maxRecDepth 100000 in
theorem c_J0_length (G : xG) (l : Launch) (S : xS) (i : Nat) {x : Int} (h : sLen i = some x) : Met l yJ0_length_8abf5 vsJ0_length_8abf5 rm_J0_length_8abf5 (va_Pc [.ref (xKs G i)] (xPre G S)) (xQi G x S) 0 0 (xA G) := by
  obtain ⟨hi, hx, hx1⟩ := sLen_s h
  refine kx_met (ret := some .int) RJ0 [(0, .ref (xKs G i))] (by decide) rfl rfl (Nat.le_of_ble_eq_true rfl) rfl (fun p e s m below meth c ls C hin I hl => ?_)
  refine kx_aload_n 0 C dJ0_length_8abf5_0 (lv_at hl 0 rfl) ?_
  refine kx_getSv 1 C I hi (inM mj_value) dJ0_length_8abf5_1 ?_
  refine va_tlen C.x C.b (C.en.2.1.2.2.2.2.2.2.1.1 i hi).2.2.2 I.2 (v := iI x) (by rw [hx]; exact Int32.ofInt_eq_ofNat.symm) dJ0_length_8abf5_4 ?_
  refine kx_aload_n 5 C dJ0_length_8abf5_5 (lv_at hl 0 rfl) ?_
  refine va_calli (va_runV (As := []) (rest := [.int (iI x)]) ⟨C.x, C.b, C.ml, C.ow, C.ts⟩ (c_J0_coder G l S i hi) (cwV 0 C.ts gJ0_length_8abf5_J0_coder_7d493 rfl rfl rfl (by decide +kernel) ⟨Nat.le_of_ble_eq_true rfl, Nat.le_of_ble_eq_true rfl⟩) (kx_recvS C I hi) rfl rfl hl.1 rfl (lv_room (Nat.le_of_ble_eq_true rfl)) dJ0_length_8abf5_6 ⟨Nat.le_of_ble_eq_true rfl, Nat.le_of_ble_eq_true rfl⟩) I.2 (fun q _ h => h) (fun q h => h) (fun r1 u t H1 locs1 ht hvm hp hB hz hk hS => ?_)
  subst hp
  have I : xI G S s H1 locs1 := ⟨by rw [← ht]; exact hB, hS⟩
  refine kx_ishr 9 C dJ0_length_8abf5_9 ?_
  rw [x_shr0 (by rw [hx]; omega) hx1]
  exact kx_iret 10 C I rfl dJ0_length_8abf5_10
def rm_J3_checkIndex_8e157 : Room := { frames := 0, cells := 0, slots := 0, locals := 0 }
set_option maxHeartbeats 4000000 in
set_option maxRecDepth 100000 in
theorem c_J3_checkIndex (G : xG) (l : Launch) (S : xS) (a b : Int) (v : Value) (hv : v = .null ∨ ∃ t, v = .ref t) (h0 : 0 ≤ a) (h1 : a < b) (h2 : b < 100) : Met l yJ3_checkIndex_8e157 vsJ3_checkIndex_8e157 rm_J3_checkIndex_8e157 (va_Pc [.int (iI a), .int (iI b), v] (xPre G S)) (xQi G a S) 0 0 (xA G) := by
  have hlt : (lg_sl [.int (iI a), .int (iI b), v]).length ≤ 3 := by rcases hv with rfl | ⟨t, rfl⟩ <;> exact Nat.le_of_ble_eq_true rfl
  have hlv : lv_args 0 [.int (iI a), .int (iI b), v] = [(0, .int (iI a)), (1, .int (iI b)), (2, v)] := by rcases hv with rfl | ⟨t, rfl⟩ <;> rfl
  refine kx_met (ret := some .int) RJ3 [(0, .int (iI a)), (1, .int (iI b)), (2, v)] (by decide) rfl rfl hlt hlv (fun p e s m below meth c ls C hin I hl => ?_)
  refine kx_iload_n 0 C dJ3_checkIndex_8e157_0 (lv_at hl 0 rfl) ?_
  refine kx_if_lt 1 9 C dJ3_checkIndex_8e157_1 (by decide) (fun h => absurd h (by rw [wI_id (by omega) (by omega)]; omega)) (fun _ => ?_)
  refine kx_iload_n 4 C dJ3_checkIndex_8e157_4 (lv_at hl 0 rfl) ?_
  refine kx_iload_n 5 C dJ3_checkIndex_8e157_5 (lv_at hl 1 rfl) ?_
  refine kx_icmp_lt 6 16 C dJ3_checkIndex_8e157_6 (by decide) (fun _ => ?_) (fun h => absurd h (by rw [wI_id (by omega) (by omega), wI_id (by omega) (by omega)]; omega))
  refine kx_iload_n 16 C dJ3_checkIndex_8e157_16 (lv_at hl 0 rfl) ?_
  exact kx_iret 17 C I rfl dJ3_checkIndex_8e157_17
def rm_J0_checkIndex_df160 : Room := { frames := 1, cells := 0, slots := 0, locals := 22 }
set_option maxHeartbeats 4000000 in
set_option maxRecDepth 100000 in
theorem c_J0_checkIndex (G : xG) (l : Launch) (S : xS) (a b : Int) (h0 : 0 ≤ a) (h1 : a < b) (h2 : b < 100) : Met l yJ0_checkIndex_df160 vsJ0_checkIndex_df160 rm_J0_checkIndex_df160 (va_Pc [.int (iI a), .int (iI b)] (xPre G S)) (xQv G S) 0 0 (xA G) := by
  refine kx_met (ret := none) RJ0 [(0, .int (iI a)), (1, .int (iI b))] (by decide) rfl rfl (Nat.le_of_ble_eq_true rfl) rfl (fun p e s m below meth c ls C hin I hl => ?_)
  have key : ∀ v : Value, (v = .null ∨ ∃ t, v = .ref t) → va_Z "jdk/internal/util/Preconditions" "SIOOBE_FORMATTER" "Ljava/util/function/BiFunction;" v (xA G) s s.heap → W p l e rm_J0_checkIndex_df160 s m [.int (iI a), .int (iI b)].toArray below meth c s.heap [] 0 0 (MQ below (xQv G S) [.int (iI a), .int (iI b)].toArray s 0 0 (xA G)) (F0 m 0 ls []) := by
    intro v hv hZ
    refine kx_iload_n 0 C dJ0_checkIndex_df160_0 (lv_at hl 0 rfl) ?_
    refine kx_iload_n 1 C dJ0_checkIndex_df160_1 (lv_at hl 1 rfl) ?_
    refine va_gets C.x C.b hZ I.2 C.ow (C.ts (.fieldLink RJ0 1053 "jdk/internal/util/Preconditions" "SIOOBE_FORMATTER" "Ljava/util/function/BiFunction;") (inM mj_SIOOBE_FORMATTER)) (fun _ h => h) dJ0_checkIndex_df160_2 ?_
    have hM := c_J3_checkIndex G l S a b v hv h0 h1 h2
    refine kx_callSi 5 C hl I (As := [.int (iI a), .int (iI b), v]) (rest := []) hM (va_cwS 3 C.ts gJ0_checkIndex_df160_J3_checkIndex_8e157 rfl rfl rfl (by decide +kernel) ⟨Nat.le_of_ble_eq_true rfl, Nat.le_of_ble_eq_true rfl⟩) rfl rfl (Nat.le_of_ble_eq_true rfl) dJ0_checkIndex_df160_5 ⟨Nat.le_of_ble_eq_true rfl, Nat.le_of_ble_eq_true rfl⟩ (fun H locs I => ?_)
    refine kx_pop 8 C dJ0_checkIndex_df160_8 rfl ?_
    exact kx_vret (r := 0) 9 C I rfl dJ0_checkIndex_df160_9
  rcases C.en.2.1.2.2.2.2.2.2.2.2.2 with hZ | ⟨t, hZ⟩
  · exact key _ (Or.inl rfl) hZ
  · exact key _ (Or.inr ⟨t, rfl⟩) hZ
def rm_J1_charAt_3b067 : Room := { frames := 2, cells := 0, slots := 0, locals := 43 }
set_option maxHeartbeats 4000000 in
set_option maxRecDepth 100000 in
theorem c_J1_charAt (G : xG) (l : Launch) (S : xS) (i : Nat) {k x : Int} (h : sChr i k = some x) : Met l yJ1_charAt_3b067 vsJ1_charAt_3b067 rm_J1_charAt_3b067 (va_Pc [.ref (xVs G i), .int (iI k)] (xPre G S)) (xQi G x S) 0 0 (xA G) := by
  obtain ⟨hi, hk0, hk1, hb, hx0, hx1, hn⟩ := sChr_s h
  refine kx_met (ret := some .char) RJ1 [(0, .ref (xVs G i)), (1, .int (iI k))] (by decide) rfl rfl (Nat.le_of_ble_eq_true rfl) rfl (fun p e s m below meth c ls C hin I hl => ?_)
  have hT := (C.en.2.1.2.2.2.2.2.2.1.1 i hi).2.2.2
  refine kx_iload_n 0 C dJ1_charAt_3b067_0 (lv_at hl 1 rfl) ?_
  refine kx_aload_n 1 C dJ1_charAt_3b067_1 (lv_at hl 0 rfl) ?_
  refine va_tlen C.x C.b hT I.2 (v := iI (xLen.getD i 0 : Int)) Int32.ofInt_eq_ofNat.symm dJ1_charAt_3b067_2 ?_
  refine kx_callSv 3 C hl I (As := [.int (iI k), .int (iI (xLen.getD i 0 : Int))]) (rest := []) (c_J0_checkIndex G l S k _ hk0 hk1 (by omega)) (va_cwS 2 C.ts gJ1_charAt_3b067_J0_checkIndex_df160 rfl rfl rfl (by decide +kernel) ⟨Nat.le_of_ble_eq_true rfl, Nat.le_of_ble_eq_true rfl⟩) rfl rfl (Nat.le_of_ble_eq_true rfl) dJ1_charAt_3b067_3 ⟨Nat.le_of_ble_eq_true rfl, Nat.le_of_ble_eq_true rfl⟩ (fun H locs I => ?_)
  refine kx_aload_n 6 C dJ1_charAt_3b067_6 (lv_at hl 0 rfl) ?_
  refine kx_iload_n 7 C dJ1_charAt_3b067_7 (lv_at hl 1 rfl) ?_
  obtain ⟨q1, q2⟩ := x_ix (n := xLen.getD i 0) hk0 (by omega) (by omega)
  refine va_tb C.x C.b hT I.2 q1 (v := .int (iI x)) (by rw [q2, hb]) dJ1_charAt_3b067_8 ?_
  refine kx_sipush 9 C dJ1_charAt_3b067_9 (by decide) ?_
  refine kx_iand 12 C dJ1_charAt_3b067_12 ?_
  obtain ⟨n, rfl⟩ : ∃ n : Nat, x = (n : Int) := ⟨x.toNat, by omega⟩
  obtain ⟨y1, y2⟩ := x_chr n (by omega)
  refine lv_i2c C.x C.b dJ1_charAt_3b067_13 y1 ?_
  exact kx_nret 14 C I y2 rfl dJ1_charAt_3b067_14
def rm_J0_charAt_5068e : Room := { frames := 4, cells := 0, slots := 0, locals := 100 }
set_option maxHeartbeats 4000000 in
set_option maxRecDepth 100000 in
theorem c_J0_charAt (G : xG) (l : Launch) (S : xS) (i : Nat) {k x : Int} (h : sChr i k = some x) : Met l yJ0_charAt_5068e vsJ0_charAt_5068e rm_J0_charAt_5068e (va_Pc [.ref (xKs G i), .int (iI k)] (xPre G S)) (xQi G x S) 0 0 (xA G) := by
  obtain ⟨hi, hk0, hk1, hb, hx0, hx1, hn⟩ := sChr_s h
  refine kx_met (ret := some .char) RJ0 [(0, .ref (xKs G i)), (1, .int (iI k))] (by decide) rfl rfl (Nat.le_of_ble_eq_true rfl) rfl (fun p e s m below meth c ls C hin I hl => ?_)
  refine kx_aload_n 0 C dJ0_charAt_5068e_0 (lv_at hl 0 rfl) ?_
  refine va_calli (va_runV (As := []) (rest := []) ⟨C.x, C.b, C.ml, C.ow, C.ts⟩ (c_J0_isLatin1 G l S i hi) (cwV 0 C.ts gJ0_charAt_5068e_J0_isLatin1_aae02 rfl rfl rfl (by decide +kernel) ⟨Nat.le_of_ble_eq_true rfl, Nat.le_of_ble_eq_true rfl⟩) (kx_recvS C I hi) rfl rfl hl.1 rfl (lv_room (Nat.le_of_ble_eq_true rfl)) dJ0_charAt_5068e_1 ⟨Nat.le_of_ble_eq_true rfl, Nat.le_of_ble_eq_true rfl⟩) I.2 (fun q _ h => h) (fun q h => h) (fun r1 u t H1 locs1 ht hvm hp hB hz hk hS => ?_)
  subst hp
  have I : xI G S s H1 locs1 := ⟨by rw [← ht]; exact hB, hS⟩
  refine kx_if_eq 4 16 C dJ0_charAt_5068e_4 (by decide) (fun h => absurd h (by decide)) (fun _ => ?_)
  refine kx_aload_n 7 C dJ0_charAt_5068e_7 (lv_at hl 0 rfl) ?_
  refine kx_getSv 8 C I hi (inM mj_value) dJ0_charAt_5068e_8 ?_
  refine kx_iload_n 11 C dJ0_charAt_5068e_11 (lv_at hl 1 rfl) ?_
  refine kx_callSi 12 C hl I (As := [.ref (xVs G i), .int (iI k)]) (rest := []) (c_J1_charAt G l S i h) (va_cwS 2 C.ts gJ0_charAt_5068e_J1_charAt_3b067 rfl rfl rfl (by decide +kernel) ⟨Nat.le_of_ble_eq_true rfl, Nat.le_of_ble_eq_true rfl⟩) rfl rfl (Nat.le_of_ble_eq_true rfl) dJ0_charAt_5068e_12 ⟨Nat.le_of_ble_eq_true rfl, Nat.le_of_ble_eq_true rfl⟩ (fun H locs I => ?_)
  obtain ⟨n, rfl⟩ : ∃ n : Nat, x = (n : Int) := ⟨x.toNat, by omega⟩
  exact kx_nret 15 C I (x_chr n (by omega)).2 rfl dJ0_charAt_5068e_15
theorem kx_slen (pc : Nat) (C : xK G p s m args meth c cc nL Ts own ret) (hl : lv_has ls nL lv) (I : xI G S s H locs) {idx i : Nat} {x : Int} (h : sLen i = some x) (g : GoodIn Ts (wsV own idx RJ0 yJ0_length_8abf5 vsJ0_length_8abf5)) (hR : rm_J0_length_8abf5.frames + 1 ≤ R.frames ∧ 8 + (1 + 11) + rm_J0_length_8abf5.locals ≤ R.locals) (hw : (rest.map fun v => v.category).sum ≤ 8) (d : decode cc pc = .ok (.invokevirtual idx, 3)) (hc : cells + 0 ≤ R.cells ∧ slots + 0 ≤ R.slots)
    (kk : ∀ (H : Heap) (locs : List Loc), xI G S s H locs → W p l e R s m args below meth c H locs (cells + 0) (slots + 0) Q (F0 m (pc + 3) ls (.int (iI x) :: rest))) : W p l e R s m args below meth c H locs cells slots Q (F0 m pc ls (.ref (xKs G i) :: rest)) :=
  va_calli (va_runV (As := []) ⟨C.x, C.b, C.ml, C.ow, C.ts⟩ (c_J0_length G l S i h) (cwV 0 C.ts g rfl rfl rfl (by decide +kernel) hR) (kx_recvS C I (sLen_s h).1) rfl rfl hl.1 rfl (lv_room hw) d hc) I.2 (fun q _ h => h) (fun q h => h) (fun r1 u t H1 locs1 ht hvm hp hB hz hk hS => by subst hp; exact kk H1 locs1 ⟨by rw [← ht]; exact hB, hS⟩)
theorem kx_schr (pc : Nat) (C : xK G p s m args meth c cc nL Ts own ret) (hl : lv_has ls nL lv) (I : xI G S s H locs) {idx i : Nat} {k x : Int} (h : sChr i k = some x) (g : GoodIn Ts (wsV own idx RJ0 yJ0_charAt_5068e vsJ0_charAt_5068e)) (hR : rm_J0_charAt_5068e.frames + 1 ≤ R.frames ∧ 8 + (2 + 11) + rm_J0_charAt_5068e.locals ≤ R.locals) (hw : (rest.map fun v => v.category).sum ≤ 8) (d : decode cc pc = .ok (.invokevirtual idx, 3)) (hc : cells + 0 ≤ R.cells ∧ slots + 0 ≤ R.slots)
    (kk : ∀ (H : Heap) (locs : List Loc), xI G S s H locs → W p l e R s m args below meth c H locs (cells + 0) (slots + 0) Q (F0 m (pc + 3) ls (.int (iI x) :: rest))) : W p l e R s m args below meth c H locs cells slots Q (F0 m pc ls (.int (iI k) :: .ref (xKs G i) :: rest)) :=
  va_calli (va_runV (As := [.int (iI k)]) ⟨C.x, C.b, C.ml, C.ow, C.ts⟩ (c_J0_charAt G l S i h) (cwV 1 C.ts g rfl rfl rfl (by decide +kernel) hR) (kx_recvS C I (sChr_s h).1) rfl rfl hl.1 rfl (lv_room hw) d hc) I.2 (fun q _ h => h) (fun q h => h) (fun r1 u t H1 locs1 ht hvm hp hB hz hk hS => by subst hp; exact kk H1 locs1 ⟨by rw [← ht]; exact hB, hS⟩)
end KSTR
